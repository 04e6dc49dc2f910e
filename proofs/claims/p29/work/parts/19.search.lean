def wLX5_keepIfBetter_0 : List Nat := [27, 42, 180, 0, 68, 161, 0, 19, 27, 42, 180, 0, 68, 160, 0, 38, 28, 42, 180, 0, 71, 162, 0, 30, 42, 27, 181, 0, 68, 42, 28, 181, 0, 71, 42, 180, 0, 30, 3, 42, 180, 0, 15, 3, 42, 180, 0, 33, 184, 0, 90, 177]
theorem wX5_keepIfBetter_0 : (cX5_keepIfBetter.data.toList.map UInt8.toNat).drop 0 = wLX5_keepIfBetter_0 ++ ([]) := by decide +kernel
theorem dX5_keepIfBetter_0 : decode cX5_keepIfBetter 0 = .ok (.iload_n 1, 1) := dq_27 (hz_wg wX5_keepIfBetter_0 (j := 0) (n := 27) rfl)
theorem dX5_keepIfBetter_1 : decode cX5_keepIfBetter 1 = .ok (.aload_n 0, 1) := dq_42 (hz_wg wX5_keepIfBetter_0 (j := 1) (n := 42) rfl)
theorem dX5_keepIfBetter_2 : decode cX5_keepIfBetter 2 = .ok (.getfield 68, 3) := dq_180 (hz_wg wX5_keepIfBetter_0 (j := 2) (n := 180) rfl) (hz_wg wX5_keepIfBetter_0 (j := 3) (n := 0) rfl) (hz_wg wX5_keepIfBetter_0 (j := 4) (n := 68) rfl) rfl
theorem dX5_keepIfBetter_5 : decode cX5_keepIfBetter 5 = .ok (.if_icmp .lt 19, 3) := dq_161 (hz_wg wX5_keepIfBetter_0 (j := 5) (n := 161) rfl) (hz_wg wX5_keepIfBetter_0 (j := 6) (n := 0) rfl) (hz_wg wX5_keepIfBetter_0 (j := 7) (n := 19) rfl) (by decide)
theorem dX5_keepIfBetter_8 : decode cX5_keepIfBetter 8 = .ok (.iload_n 1, 1) := dq_27 (hz_wg wX5_keepIfBetter_0 (j := 8) (n := 27) rfl)
theorem dX5_keepIfBetter_9 : decode cX5_keepIfBetter 9 = .ok (.aload_n 0, 1) := dq_42 (hz_wg wX5_keepIfBetter_0 (j := 9) (n := 42) rfl)
theorem dX5_keepIfBetter_10 : decode cX5_keepIfBetter 10 = .ok (.getfield 68, 3) := dq_180 (hz_wg wX5_keepIfBetter_0 (j := 10) (n := 180) rfl) (hz_wg wX5_keepIfBetter_0 (j := 11) (n := 0) rfl) (hz_wg wX5_keepIfBetter_0 (j := 12) (n := 68) rfl) rfl
theorem dX5_keepIfBetter_13 : decode cX5_keepIfBetter 13 = .ok (.if_icmp .ne 38, 3) := dq_160 (hz_wg wX5_keepIfBetter_0 (j := 13) (n := 160) rfl) (hz_wg wX5_keepIfBetter_0 (j := 14) (n := 0) rfl) (hz_wg wX5_keepIfBetter_0 (j := 15) (n := 38) rfl) (by decide)
theorem dX5_keepIfBetter_16 : decode cX5_keepIfBetter 16 = .ok (.iload_n 2, 1) := dq_28 (hz_wg wX5_keepIfBetter_0 (j := 16) (n := 28) rfl)
theorem dX5_keepIfBetter_17 : decode cX5_keepIfBetter 17 = .ok (.aload_n 0, 1) := dq_42 (hz_wg wX5_keepIfBetter_0 (j := 17) (n := 42) rfl)
theorem dX5_keepIfBetter_18 : decode cX5_keepIfBetter 18 = .ok (.getfield 71, 3) := dq_180 (hz_wg wX5_keepIfBetter_0 (j := 18) (n := 180) rfl) (hz_wg wX5_keepIfBetter_0 (j := 19) (n := 0) rfl) (hz_wg wX5_keepIfBetter_0 (j := 20) (n := 71) rfl) rfl
theorem dX5_keepIfBetter_21 : decode cX5_keepIfBetter 21 = .ok (.if_icmp .ge 30, 3) := dq_162 (hz_wg wX5_keepIfBetter_0 (j := 21) (n := 162) rfl) (hz_wg wX5_keepIfBetter_0 (j := 22) (n := 0) rfl) (hz_wg wX5_keepIfBetter_0 (j := 23) (n := 30) rfl) (by decide)
theorem dX5_keepIfBetter_24 : decode cX5_keepIfBetter 24 = .ok (.aload_n 0, 1) := dq_42 (hz_wg wX5_keepIfBetter_0 (j := 24) (n := 42) rfl)
theorem dX5_keepIfBetter_25 : decode cX5_keepIfBetter 25 = .ok (.iload_n 1, 1) := dq_27 (hz_wg wX5_keepIfBetter_0 (j := 25) (n := 27) rfl)
theorem dX5_keepIfBetter_26 : decode cX5_keepIfBetter 26 = .ok (.putfield 68, 3) := dq_181 (hz_wg wX5_keepIfBetter_0 (j := 26) (n := 181) rfl) (hz_wg wX5_keepIfBetter_0 (j := 27) (n := 0) rfl) (hz_wg wX5_keepIfBetter_0 (j := 28) (n := 68) rfl) rfl
theorem dX5_keepIfBetter_29 : decode cX5_keepIfBetter 29 = .ok (.aload_n 0, 1) := dq_42 (hz_wg wX5_keepIfBetter_0 (j := 29) (n := 42) rfl)
theorem dX5_keepIfBetter_30 : decode cX5_keepIfBetter 30 = .ok (.iload_n 2, 1) := dq_28 (hz_wg wX5_keepIfBetter_0 (j := 30) (n := 28) rfl)
theorem dX5_keepIfBetter_31 : decode cX5_keepIfBetter 31 = .ok (.putfield 71, 3) := dq_181 (hz_wg wX5_keepIfBetter_0 (j := 31) (n := 181) rfl) (hz_wg wX5_keepIfBetter_0 (j := 32) (n := 0) rfl) (hz_wg wX5_keepIfBetter_0 (j := 33) (n := 71) rfl) rfl
theorem dX5_keepIfBetter_34 : decode cX5_keepIfBetter 34 = .ok (.aload_n 0, 1) := dq_42 (hz_wg wX5_keepIfBetter_0 (j := 34) (n := 42) rfl)
theorem dX5_keepIfBetter_35 : decode cX5_keepIfBetter 35 = .ok (.getfield 30, 3) := dq_180 (hz_wg wX5_keepIfBetter_0 (j := 35) (n := 180) rfl) (hz_wg wX5_keepIfBetter_0 (j := 36) (n := 0) rfl) (hz_wg wX5_keepIfBetter_0 (j := 37) (n := 30) rfl) rfl
theorem dX5_keepIfBetter_38 : decode cX5_keepIfBetter 38 = .ok (.iconst 0, 1) := dq_3 (hz_wg wX5_keepIfBetter_0 (j := 38) (n := 3) rfl)
theorem dX5_keepIfBetter_39 : decode cX5_keepIfBetter 39 = .ok (.aload_n 0, 1) := dq_42 (hz_wg wX5_keepIfBetter_0 (j := 39) (n := 42) rfl)
theorem dX5_keepIfBetter_40 : decode cX5_keepIfBetter 40 = .ok (.getfield 15, 3) := dq_180 (hz_wg wX5_keepIfBetter_0 (j := 40) (n := 180) rfl) (hz_wg wX5_keepIfBetter_0 (j := 41) (n := 0) rfl) (hz_wg wX5_keepIfBetter_0 (j := 42) (n := 15) rfl) rfl
theorem dX5_keepIfBetter_43 : decode cX5_keepIfBetter 43 = .ok (.iconst 0, 1) := dq_3 (hz_wg wX5_keepIfBetter_0 (j := 43) (n := 3) rfl)
theorem dX5_keepIfBetter_44 : decode cX5_keepIfBetter 44 = .ok (.aload_n 0, 1) := dq_42 (hz_wg wX5_keepIfBetter_0 (j := 44) (n := 42) rfl)
theorem dX5_keepIfBetter_45 : decode cX5_keepIfBetter 45 = .ok (.getfield 33, 3) := dq_180 (hz_wg wX5_keepIfBetter_0 (j := 45) (n := 180) rfl) (hz_wg wX5_keepIfBetter_0 (j := 46) (n := 0) rfl) (hz_wg wX5_keepIfBetter_0 (j := 47) (n := 33) rfl) rfl
theorem dX5_keepIfBetter_48 : decode cX5_keepIfBetter 48 = .ok (.invokestatic 90, 3) := dq_184 (hz_wg wX5_keepIfBetter_0 (j := 48) (n := 184) rfl) (hz_wg wX5_keepIfBetter_0 (j := 49) (n := 0) rfl) (hz_wg wX5_keepIfBetter_0 (j := 50) (n := 90) rfl) rfl
theorem dX5_keepIfBetter_51 : decode cX5_keepIfBetter 51 = .ok (.return_, 1) := dq_177 (hz_wg wX5_keepIfBetter_0 (j := 51) (n := 177) rfl)
set_option maxHeartbeats 4000000 in
set_option maxRecDepth 100000 in
theorem t_X5_keepIfBetter (l : Launch) (dC : Nat → ClassId) (dI : Nat → Nat → Nat) (dA : Nat → ClassId) (L : List Nat) (h : hx_h) (sz : Nat) (x : Nat) (i1 : Int32) (i2 : Int32) (hT : hx_T T_tb L h) (gx : hx_g L h x 5)  : Met l yX5_keepIfBetter (Cond.code yX5_keepIfBetter cX5_keepIfBetter 3 none :: hx_all) ({ frames := 1, cells := 0, slots := 0, locals := 40 }) (va_Pc [.ref x, .int i1, .int i2] (hx_B T_tb (P_ty dA) (dC, dI) vwCl L h sz)) (va_Qv (fun (u : List Nat × hx_h) => hx_T T_tb u.1 u.2 ∧ hx_S T_tb [(5, 11), (5, 12), (28, 0)] L h u.1 u.2) (hx_E T_tb (P_ty dA) (dC, dI) vwCl (hx_A L sz)) (hx_A L sz)) 0 0 (hx_A L sz) := by
  refine hx_met (lv := [(0, .ref x), (1, .int i1), (2, .int i2)]) (by decide +kernel) rfl (Nat.le_of_ble_eq_true rfl) rfl ?_
  intro p e s m below meth c hx hb hml hr hlk hts0 hown hin hsz hW ls hl
  have hts : ∀ w ∈ hx_all, w.before _ s = true := fun w hw => hts0 w (List.mem_cons_of_mem _ hw)
  have hown : s.vm.findClass "SmallCourt$Plan" = some m.cls := hown
  have hM : hx_S T_tb [(5, 11), (5, 12), (28, 0)] L h L h := hx_S.rf
  refine lv_iload_n hx hb dX5_keepIfBetter_0 rfl (lv_at hl 1 rfl) ?_
  refine lv_aload_n hx hb dX5_keepIfBetter_1 rfl (lv_at hl 0 rfl) ?_
  refine hx_geti hx hb hts hC_5 hown hW hT gx tt_5 11 (by decide) rfl kw_274 ⟨rfl, rfl, rfl⟩ dX5_keepIfBetter_2 (fun x_1 ex_1 lx_1 ux_1 => ?_)
  have fx_1 := ex_1.symm
  refine hb_icmp_lt (zx := i1.toInt) (zy := x_1.toInt) (tgt := 24) hx hb rfl rfl dX5_keepIfBetter_5 (by decide) (fun c_2 => ?_) (fun c_2 => ?_)
  · skip
    refine lv_aload_n hx hb dX5_keepIfBetter_24 rfl (lv_at hl 0 rfl) ?_
    refine lv_iload_n hx hb dX5_keepIfBetter_25 rfl (lv_at hl 1 rfl) ?_
    refine hx_puti hx hb hts hC_5 hown hW hT (hx_S.rf (M := [(5, 11)])) gx tt_5 11 (by decide) rfl kw_274 ⟨rfl, rfl, rfl⟩ rfl (x := i1) (i32_r _) rfl rfl rfl (List.mem_singleton.mpr rfl) dX5_keepIfBetter_26 (fun H locs h_3 eh_3 hW hT hs => ?_)
    replace hM := hM.tr (hs.mono (by decide))
    replace gx := gx.S hs
    have f_4 : h_3.2.1 x 11 = i1 := by rw [eh_3]; exact hx_pi_at _ _ _ _
    refine lv_aload_n hx hb dX5_keepIfBetter_29 rfl (lv_at hl 0 rfl) ?_
    refine lv_iload_n hx hb dX5_keepIfBetter_30 rfl (lv_at hl 2 rfl) ?_
    refine hx_puti hx hb hts hC_5 hown hW hT (hx_S.rf (M := [(5, 12)])) gx tt_5 12 (by decide) rfl kw_275 ⟨rfl, rfl, rfl⟩ rfl (x := i2) (i32_r _) rfl rfl rfl (List.mem_singleton.mpr rfl) dX5_keepIfBetter_31 (fun H locs h_5 eh_5 hW hT hs => ?_)
    replace f_4 := (hs.o gx trivial rfl).1.trans f_4
    replace hM := hM.tr (hs.mono (by decide))
    replace gx := gx.S hs
    have f_6 : h_5.2.1 x 12 = i2 := by rw [eh_5]; exact hx_pi_at _ _ _ _
    refine lv_aload_n hx hb dX5_keepIfBetter_34 rfl (lv_at hl 0 rfl) ?_
    refine hx_getn hx hb hts hC_5 hown hW hT gx tt_5 8 (by decide) rfl kw_271 ⟨rfl, rfl, rfl⟩ dX5_keepIfBetter_35 (fun q_7 fq_7 gq_7 => ?_)
    refine lv_iconst (v := 0) hx hb dX5_keepIfBetter_38 (by decide) ?_
    refine lv_aload_n hx hb dX5_keepIfBetter_39 rfl (lv_at hl 0 rfl) ?_
    refine hx_getn hx hb hts hC_5 hown hW hT gx tt_5 3 (by decide) rfl kw_264 ⟨rfl, rfl, rfl⟩ dX5_keepIfBetter_40 (fun q_8 fq_8 gq_8 => ?_)
    refine lv_iconst (v := 0) hx hb dX5_keepIfBetter_43 (by decide) ?_
    refine lv_aload_n hx hb dX5_keepIfBetter_44 rfl (lv_at hl 0 rfl) ?_
    refine hx_geti hx hb hts hC_5 hown hW hT gx tt_5 0 (by decide) rfl kw_258 ⟨rfl, rfl, rfl⟩ dX5_keepIfBetter_45 (fun x_9 ex_9 lx_9 ux_9 => ?_)
    have fx_9 := ex_9.symm
    refine hx_copyi hx hb (hml.trans hl.1.symm) hown (hts _ kw_974) (hts _ kw_158) (hts _ kw_157) (hts _ kw_97) hW hT gq_7 gq_8 tt_33 tt_28 rfl (by decide) rfl rfl (by omega) (by omega) (by omega) (Nat.le_of_ble_eq_true rfl) (Nat.le_of_ble_eq_true rfl) dX5_keepIfBetter_48 (fun H locs h_10 hW hT hs => ?_)
    replace f_4 := (hs.o gx trivial rfl).1.trans f_4
    replace f_6 := (hs.o gx trivial rfl).1.trans f_6
    replace fq_7 := (hs.o gx trivial rfl).2.trans fq_7
    replace fq_8 := (hs.o gx trivial rfl).2.trans fq_8
    replace fx_9 := (hs.o gx trivial rfl).1.trans fx_9
    replace hM := hM.tr (hs.mono (by decide))
    replace gx := gx.S hs
    replace gq_7 := gq_7.S hs
    replace gq_8 := gq_8.S hs
    exact hx_retv hx hb hr hlk hW ⟨hT, hM⟩ dX5_keepIfBetter_51
  · skip
    refine lv_iload_n hx hb dX5_keepIfBetter_8 rfl (lv_at hl 1 rfl) ?_
    refine lv_aload_n hx hb dX5_keepIfBetter_9 rfl (lv_at hl 0 rfl) ?_
    refine hk_geti hx hb hts hC_5 hown hW gx tt_5 11 (by decide) rfl kw_274 ⟨rfl, rfl, rfl⟩ fx_1 dX5_keepIfBetter_10 ?_
    refine hb_icmp_ne (zx := i1.toInt) (zy := x_1.toInt) (tgt := 51) hx hb rfl rfl dX5_keepIfBetter_13 (by decide) (fun c_11 => ?_) (fun c_11 => ?_)
    · skip
      exact hx_retv hx hb hr hlk hW ⟨hT, hM⟩ dX5_keepIfBetter_51
    · skip
      refine lv_iload_n hx hb dX5_keepIfBetter_16 rfl (lv_at hl 2 rfl) ?_
      refine lv_aload_n hx hb dX5_keepIfBetter_17 rfl (lv_at hl 0 rfl) ?_
      refine hx_geti hx hb hts hC_5 hown hW hT gx tt_5 12 (by decide) rfl kw_275 ⟨rfl, rfl, rfl⟩ dX5_keepIfBetter_18 (fun x_12 ex_12 lx_12 ux_12 => ?_)
      have fx_12 := ex_12.symm
      refine hb_icmp_ge (zx := i2.toInt) (zy := x_12.toInt) (tgt := 51) hx hb rfl rfl dX5_keepIfBetter_21 (by decide) (fun c_13 => ?_) (fun c_13 => ?_)
      · skip
        exact hx_retv hx hb hr hlk hW ⟨hT, hM⟩ dX5_keepIfBetter_51
      · skip
        refine lv_aload_n hx hb dX5_keepIfBetter_24 rfl (lv_at hl 0 rfl) ?_
        refine lv_iload_n hx hb dX5_keepIfBetter_25 rfl (lv_at hl 1 rfl) ?_
        refine hx_puti hx hb hts hC_5 hown hW hT (hx_S.rf (M := [(5, 11)])) gx tt_5 11 (by decide) rfl kw_274 ⟨rfl, rfl, rfl⟩ rfl (x := i1) (i32_r _) rfl rfl rfl (List.mem_singleton.mpr rfl) dX5_keepIfBetter_26 (fun H locs h_14 eh_14 hW hT hs => ?_)
        replace fx_12 := (hs.o gx trivial rfl).1.trans fx_12
        replace hM := hM.tr (hs.mono (by decide))
        replace gx := gx.S hs
        have f_15 : h_14.2.1 x 11 = i1 := by rw [eh_14]; exact hx_pi_at _ _ _ _
        refine lv_aload_n hx hb dX5_keepIfBetter_29 rfl (lv_at hl 0 rfl) ?_
        refine lv_iload_n hx hb dX5_keepIfBetter_30 rfl (lv_at hl 2 rfl) ?_
        refine hx_puti hx hb hts hC_5 hown hW hT (hx_S.rf (M := [(5, 12)])) gx tt_5 12 (by decide) rfl kw_275 ⟨rfl, rfl, rfl⟩ rfl (x := i2) (i32_r _) rfl rfl rfl (List.mem_singleton.mpr rfl) dX5_keepIfBetter_31 (fun H locs h_16 eh_16 hW hT hs => ?_)
        replace f_15 := (hs.o gx trivial rfl).1.trans f_15
        replace hM := hM.tr (hs.mono (by decide))
        replace gx := gx.S hs
        have f_17 : h_16.2.1 x 12 = i2 := by rw [eh_16]; exact hx_pi_at _ _ _ _
        refine lv_aload_n hx hb dX5_keepIfBetter_34 rfl (lv_at hl 0 rfl) ?_
        refine hx_getn hx hb hts hC_5 hown hW hT gx tt_5 8 (by decide) rfl kw_271 ⟨rfl, rfl, rfl⟩ dX5_keepIfBetter_35 (fun q_18 fq_18 gq_18 => ?_)
        refine lv_iconst (v := 0) hx hb dX5_keepIfBetter_38 (by decide) ?_
        refine lv_aload_n hx hb dX5_keepIfBetter_39 rfl (lv_at hl 0 rfl) ?_
        refine hx_getn hx hb hts hC_5 hown hW hT gx tt_5 3 (by decide) rfl kw_264 ⟨rfl, rfl, rfl⟩ dX5_keepIfBetter_40 (fun q_19 fq_19 gq_19 => ?_)
        refine lv_iconst (v := 0) hx hb dX5_keepIfBetter_43 (by decide) ?_
        refine lv_aload_n hx hb dX5_keepIfBetter_44 rfl (lv_at hl 0 rfl) ?_
        refine hx_geti hx hb hts hC_5 hown hW hT gx tt_5 0 (by decide) rfl kw_258 ⟨rfl, rfl, rfl⟩ dX5_keepIfBetter_45 (fun x_20 ex_20 lx_20 ux_20 => ?_)
        have fx_20 := ex_20.symm
        refine hx_copyi hx hb (hml.trans hl.1.symm) hown (hts _ kw_974) (hts _ kw_158) (hts _ kw_157) (hts _ kw_97) hW hT gq_18 gq_19 tt_33 tt_28 rfl (by decide) rfl rfl (by omega) (by omega) (by omega) (Nat.le_of_ble_eq_true rfl) (Nat.le_of_ble_eq_true rfl) dX5_keepIfBetter_48 (fun H locs h_21 hW hT hs => ?_)
        replace f_15 := (hs.o gx trivial rfl).1.trans f_15
        replace f_17 := (hs.o gx trivial rfl).1.trans f_17
        replace fq_18 := (hs.o gx trivial rfl).2.trans fq_18
        replace fq_19 := (hs.o gx trivial rfl).2.trans fq_19
        replace fx_20 := (hs.o gx trivial rfl).1.trans fx_20
        replace hM := hM.tr (hs.mono (by decide))
        replace gx := gx.S hs
        replace gq_18 := gq_18.S hs
        replace gq_19 := gq_19.S hs
        exact hx_retv hx hb hr hlk hW ⟨hT, hM⟩ dX5_keepIfBetter_51

def wLX7_keepIfBetter_0 : List Nat := [28, 42, 180, 0, 34, 163, 0, 19, 28, 42, 180, 0, 34, 160, 0, 35, 27, 42, 180, 0, 31, 162, 0, 27, 42, 28, 181, 0, 34, 42, 27, 181, 0, 31, 42, 180, 0, 22, 3, 42, 180, 0, 25, 3, 27, 184, 0, 55, 177]
theorem wX7_keepIfBetter_0 : (cX7_keepIfBetter.data.toList.map UInt8.toNat).drop 0 = wLX7_keepIfBetter_0 ++ ([]) := by decide +kernel
theorem dX7_keepIfBetter_0 : decode cX7_keepIfBetter 0 = .ok (.iload_n 2, 1) := dq_28 (hz_wg wX7_keepIfBetter_0 (j := 0) (n := 28) rfl)
theorem dX7_keepIfBetter_1 : decode cX7_keepIfBetter 1 = .ok (.aload_n 0, 1) := dq_42 (hz_wg wX7_keepIfBetter_0 (j := 1) (n := 42) rfl)
theorem dX7_keepIfBetter_2 : decode cX7_keepIfBetter 2 = .ok (.getfield 34, 3) := dq_180 (hz_wg wX7_keepIfBetter_0 (j := 2) (n := 180) rfl) (hz_wg wX7_keepIfBetter_0 (j := 3) (n := 0) rfl) (hz_wg wX7_keepIfBetter_0 (j := 4) (n := 34) rfl) rfl
theorem dX7_keepIfBetter_5 : decode cX7_keepIfBetter 5 = .ok (.if_icmp .gt 19, 3) := dq_163 (hz_wg wX7_keepIfBetter_0 (j := 5) (n := 163) rfl) (hz_wg wX7_keepIfBetter_0 (j := 6) (n := 0) rfl) (hz_wg wX7_keepIfBetter_0 (j := 7) (n := 19) rfl) (by decide)
theorem dX7_keepIfBetter_8 : decode cX7_keepIfBetter 8 = .ok (.iload_n 2, 1) := dq_28 (hz_wg wX7_keepIfBetter_0 (j := 8) (n := 28) rfl)
theorem dX7_keepIfBetter_9 : decode cX7_keepIfBetter 9 = .ok (.aload_n 0, 1) := dq_42 (hz_wg wX7_keepIfBetter_0 (j := 9) (n := 42) rfl)
theorem dX7_keepIfBetter_10 : decode cX7_keepIfBetter 10 = .ok (.getfield 34, 3) := dq_180 (hz_wg wX7_keepIfBetter_0 (j := 10) (n := 180) rfl) (hz_wg wX7_keepIfBetter_0 (j := 11) (n := 0) rfl) (hz_wg wX7_keepIfBetter_0 (j := 12) (n := 34) rfl) rfl
theorem dX7_keepIfBetter_13 : decode cX7_keepIfBetter 13 = .ok (.if_icmp .ne 35, 3) := dq_160 (hz_wg wX7_keepIfBetter_0 (j := 13) (n := 160) rfl) (hz_wg wX7_keepIfBetter_0 (j := 14) (n := 0) rfl) (hz_wg wX7_keepIfBetter_0 (j := 15) (n := 35) rfl) (by decide)
theorem dX7_keepIfBetter_16 : decode cX7_keepIfBetter 16 = .ok (.iload_n 1, 1) := dq_27 (hz_wg wX7_keepIfBetter_0 (j := 16) (n := 27) rfl)
theorem dX7_keepIfBetter_17 : decode cX7_keepIfBetter 17 = .ok (.aload_n 0, 1) := dq_42 (hz_wg wX7_keepIfBetter_0 (j := 17) (n := 42) rfl)
theorem dX7_keepIfBetter_18 : decode cX7_keepIfBetter 18 = .ok (.getfield 31, 3) := dq_180 (hz_wg wX7_keepIfBetter_0 (j := 18) (n := 180) rfl) (hz_wg wX7_keepIfBetter_0 (j := 19) (n := 0) rfl) (hz_wg wX7_keepIfBetter_0 (j := 20) (n := 31) rfl) rfl
theorem dX7_keepIfBetter_21 : decode cX7_keepIfBetter 21 = .ok (.if_icmp .ge 27, 3) := dq_162 (hz_wg wX7_keepIfBetter_0 (j := 21) (n := 162) rfl) (hz_wg wX7_keepIfBetter_0 (j := 22) (n := 0) rfl) (hz_wg wX7_keepIfBetter_0 (j := 23) (n := 27) rfl) (by decide)
theorem dX7_keepIfBetter_24 : decode cX7_keepIfBetter 24 = .ok (.aload_n 0, 1) := dq_42 (hz_wg wX7_keepIfBetter_0 (j := 24) (n := 42) rfl)
theorem dX7_keepIfBetter_25 : decode cX7_keepIfBetter 25 = .ok (.iload_n 2, 1) := dq_28 (hz_wg wX7_keepIfBetter_0 (j := 25) (n := 28) rfl)
theorem dX7_keepIfBetter_26 : decode cX7_keepIfBetter 26 = .ok (.putfield 34, 3) := dq_181 (hz_wg wX7_keepIfBetter_0 (j := 26) (n := 181) rfl) (hz_wg wX7_keepIfBetter_0 (j := 27) (n := 0) rfl) (hz_wg wX7_keepIfBetter_0 (j := 28) (n := 34) rfl) rfl
theorem dX7_keepIfBetter_29 : decode cX7_keepIfBetter 29 = .ok (.aload_n 0, 1) := dq_42 (hz_wg wX7_keepIfBetter_0 (j := 29) (n := 42) rfl)
theorem dX7_keepIfBetter_30 : decode cX7_keepIfBetter 30 = .ok (.iload_n 1, 1) := dq_27 (hz_wg wX7_keepIfBetter_0 (j := 30) (n := 27) rfl)
theorem dX7_keepIfBetter_31 : decode cX7_keepIfBetter 31 = .ok (.putfield 31, 3) := dq_181 (hz_wg wX7_keepIfBetter_0 (j := 31) (n := 181) rfl) (hz_wg wX7_keepIfBetter_0 (j := 32) (n := 0) rfl) (hz_wg wX7_keepIfBetter_0 (j := 33) (n := 31) rfl) rfl
theorem dX7_keepIfBetter_34 : decode cX7_keepIfBetter 34 = .ok (.aload_n 0, 1) := dq_42 (hz_wg wX7_keepIfBetter_0 (j := 34) (n := 42) rfl)
theorem dX7_keepIfBetter_35 : decode cX7_keepIfBetter 35 = .ok (.getfield 22, 3) := dq_180 (hz_wg wX7_keepIfBetter_0 (j := 35) (n := 180) rfl) (hz_wg wX7_keepIfBetter_0 (j := 36) (n := 0) rfl) (hz_wg wX7_keepIfBetter_0 (j := 37) (n := 22) rfl) rfl
theorem dX7_keepIfBetter_38 : decode cX7_keepIfBetter 38 = .ok (.iconst 0, 1) := dq_3 (hz_wg wX7_keepIfBetter_0 (j := 38) (n := 3) rfl)
theorem dX7_keepIfBetter_39 : decode cX7_keepIfBetter 39 = .ok (.aload_n 0, 1) := dq_42 (hz_wg wX7_keepIfBetter_0 (j := 39) (n := 42) rfl)
theorem dX7_keepIfBetter_40 : decode cX7_keepIfBetter 40 = .ok (.getfield 25, 3) := dq_180 (hz_wg wX7_keepIfBetter_0 (j := 40) (n := 180) rfl) (hz_wg wX7_keepIfBetter_0 (j := 41) (n := 0) rfl) (hz_wg wX7_keepIfBetter_0 (j := 42) (n := 25) rfl) rfl
theorem dX7_keepIfBetter_43 : decode cX7_keepIfBetter 43 = .ok (.iconst 0, 1) := dq_3 (hz_wg wX7_keepIfBetter_0 (j := 43) (n := 3) rfl)
theorem dX7_keepIfBetter_44 : decode cX7_keepIfBetter 44 = .ok (.iload_n 1, 1) := dq_27 (hz_wg wX7_keepIfBetter_0 (j := 44) (n := 27) rfl)
theorem dX7_keepIfBetter_45 : decode cX7_keepIfBetter 45 = .ok (.invokestatic 55, 3) := dq_184 (hz_wg wX7_keepIfBetter_0 (j := 45) (n := 184) rfl) (hz_wg wX7_keepIfBetter_0 (j := 46) (n := 0) rfl) (hz_wg wX7_keepIfBetter_0 (j := 47) (n := 55) rfl) rfl
theorem dX7_keepIfBetter_48 : decode cX7_keepIfBetter 48 = .ok (.return_, 1) := dq_177 (hz_wg wX7_keepIfBetter_0 (j := 48) (n := 177) rfl)
set_option maxHeartbeats 4000000 in
set_option maxRecDepth 100000 in
theorem t_X7_keepIfBetter (l : Launch) (dC : Nat → ClassId) (dI : Nat → Nat → Nat) (dA : Nat → ClassId) (L : List Nat) (h : hx_h) (sz : Nat) (x : Nat) (i1 : Int32) (i2 : Int32) (hT : hx_T T_tb L h) (gx : hx_g L h x 7) (hi1 : 0 ≤ i1.toInt ∧ i1.toInt ≤ 4) : Met l yX7_keepIfBetter (Cond.code yX7_keepIfBetter cX7_keepIfBetter 3 none :: hx_all) ({ frames := 1, cells := 0, slots := 0, locals := 40 }) (va_Pc [.ref x, .int i1, .int i2] (hx_B T_tb (P_ty dA) (dC, dI) vwCl L h sz)) (va_Qv (fun (u : List Nat × hx_h) => hx_T T_tb u.1 u.2 ∧ hx_S T_tb [(7, 1), (7, 2), (38, 0)] L h u.1 u.2) (hx_E T_tb (P_ty dA) (dC, dI) vwCl (hx_A L sz)) (hx_A L sz)) 0 0 (hx_A L sz) := by
  refine hx_met (lv := [(0, .ref x), (1, .int i1), (2, .int i2)]) (by decide +kernel) rfl (Nat.le_of_ble_eq_true rfl) rfl ?_
  intro p e s m below meth c hx hb hml hr hlk hts0 hown hin hsz hW ls hl
  have hts : ∀ w ∈ hx_all, w.before _ s = true := fun w hw => hts0 w (List.mem_cons_of_mem _ hw)
  have hown : s.vm.findClass "SmallCourt$Rings" = some m.cls := hown
  have hM : hx_S T_tb [(7, 1), (7, 2), (38, 0)] L h L h := hx_S.rf
  refine lv_iload_n hx hb dX7_keepIfBetter_0 rfl (lv_at hl 2 rfl) ?_
  refine lv_aload_n hx hb dX7_keepIfBetter_1 rfl (lv_at hl 0 rfl) ?_
  refine hx_geti hx hb hts hC_7 hown hW hT gx tt_7 2 (by decide) rfl kw_313 ⟨rfl, rfl, rfl⟩ dX7_keepIfBetter_2 (fun x_1 ex_1 lx_1 ux_1 => ?_)
  have fx_1 := ex_1.symm
  refine hb_icmp_gt (zx := i2.toInt) (zy := x_1.toInt) (tgt := 24) hx hb rfl rfl dX7_keepIfBetter_5 (by decide) (fun c_2 => ?_) (fun c_2 => ?_)
  · skip
    refine lv_aload_n hx hb dX7_keepIfBetter_24 rfl (lv_at hl 0 rfl) ?_
    refine lv_iload_n hx hb dX7_keepIfBetter_25 rfl (lv_at hl 2 rfl) ?_
    refine hx_puti hx hb hts hC_7 hown hW hT (hx_S.rf (M := [(7, 2)])) gx tt_7 2 (by decide) rfl kw_313 ⟨rfl, rfl, rfl⟩ rfl (x := i2) (i32_r _) rfl rfl rfl (List.mem_singleton.mpr rfl) dX7_keepIfBetter_26 (fun H locs h_3 eh_3 hW hT hs => ?_)
    replace hM := hM.tr (hs.mono (by decide))
    replace gx := gx.S hs
    have f_4 : h_3.2.1 x 2 = i2 := by rw [eh_3]; exact hx_pi_at _ _ _ _
    refine lv_aload_n hx hb dX7_keepIfBetter_29 rfl (lv_at hl 0 rfl) ?_
    refine lv_iload_n hx hb dX7_keepIfBetter_30 rfl (lv_at hl 1 rfl) ?_
    refine hx_puti hx hb hts hC_7 hown hW hT (hx_S.rf (M := [(7, 1)])) gx tt_7 1 (by decide) rfl kw_311 ⟨rfl, rfl, rfl⟩ rfl (x := i1) ⟨by omega, by omega⟩ rfl rfl rfl (List.mem_singleton.mpr rfl) dX7_keepIfBetter_31 (fun H locs h_5 eh_5 hW hT hs => ?_)
    replace f_4 := (hs.o gx trivial rfl).1.trans f_4
    replace hM := hM.tr (hs.mono (by decide))
    replace gx := gx.S hs
    have f_6 : h_5.2.1 x 1 = i1 := by rw [eh_5]; exact hx_pi_at _ _ _ _
    refine lv_aload_n hx hb dX7_keepIfBetter_34 rfl (lv_at hl 0 rfl) ?_
    refine hx_getn hx hb hts hC_7 hown hW hT gx tt_7 6 (by decide) rfl kw_319 ⟨rfl, rfl, rfl⟩ dX7_keepIfBetter_35 (fun q_7 fq_7 gq_7 => ?_)
    refine lv_iconst (v := 0) hx hb dX7_keepIfBetter_38 (by decide) ?_
    refine lv_aload_n hx hb dX7_keepIfBetter_39 rfl (lv_at hl 0 rfl) ?_
    refine hx_getn hx hb hts hC_7 hown hW hT gx tt_7 7 (by decide) rfl kw_320 ⟨rfl, rfl, rfl⟩ dX7_keepIfBetter_40 (fun q_8 fq_8 gq_8 => ?_)
    refine lv_iconst (v := 0) hx hb dX7_keepIfBetter_43 (by decide) ?_
    refine lv_iload_n hx hb dX7_keepIfBetter_44 rfl (lv_at hl 1 rfl) ?_
    refine hx_copyi hx hb (hml.trans hl.1.symm) hown (hts _ kw_1007) (hts _ kw_158) (hts _ kw_157) (hts _ kw_97) hW hT gq_7 gq_8 tt_37 tt_38 rfl (by decide) rfl rfl (by omega) (by omega) (by omega) (Nat.le_of_ble_eq_true rfl) (Nat.le_of_ble_eq_true rfl) dX7_keepIfBetter_45 (fun H locs h_9 hW hT hs => ?_)
    replace f_4 := (hs.o gx trivial rfl).1.trans f_4
    replace f_6 := (hs.o gx trivial rfl).1.trans f_6
    replace fq_7 := (hs.o gx trivial rfl).2.trans fq_7
    replace fq_8 := (hs.o gx trivial rfl).2.trans fq_8
    replace hM := hM.tr (hs.mono (by decide))
    replace gx := gx.S hs
    replace gq_7 := gq_7.S hs
    replace gq_8 := gq_8.S hs
    exact hx_retv hx hb hr hlk hW ⟨hT, hM⟩ dX7_keepIfBetter_48
  · skip
    refine lv_iload_n hx hb dX7_keepIfBetter_8 rfl (lv_at hl 2 rfl) ?_
    refine lv_aload_n hx hb dX7_keepIfBetter_9 rfl (lv_at hl 0 rfl) ?_
    refine hk_geti hx hb hts hC_7 hown hW gx tt_7 2 (by decide) rfl kw_313 ⟨rfl, rfl, rfl⟩ fx_1 dX7_keepIfBetter_10 ?_
    refine hb_icmp_ne (zx := i2.toInt) (zy := x_1.toInt) (tgt := 48) hx hb rfl rfl dX7_keepIfBetter_13 (by decide) (fun c_10 => ?_) (fun c_10 => ?_)
    · skip
      exact hx_retv hx hb hr hlk hW ⟨hT, hM⟩ dX7_keepIfBetter_48
    · skip
      refine lv_iload_n hx hb dX7_keepIfBetter_16 rfl (lv_at hl 1 rfl) ?_
      refine lv_aload_n hx hb dX7_keepIfBetter_17 rfl (lv_at hl 0 rfl) ?_
      refine hx_geti hx hb hts hC_7 hown hW hT gx tt_7 1 (by decide) rfl kw_311 ⟨rfl, rfl, rfl⟩ dX7_keepIfBetter_18 (fun x_11 ex_11 lx_11 ux_11 => ?_)
      have fx_11 := ex_11.symm
      refine hb_icmp_ge (zx := i1.toInt) (zy := x_11.toInt) (tgt := 48) hx hb rfl rfl dX7_keepIfBetter_21 (by decide) (fun c_12 => ?_) (fun c_12 => ?_)
      · skip
        exact hx_retv hx hb hr hlk hW ⟨hT, hM⟩ dX7_keepIfBetter_48
      · skip
        refine lv_aload_n hx hb dX7_keepIfBetter_24 rfl (lv_at hl 0 rfl) ?_
        refine lv_iload_n hx hb dX7_keepIfBetter_25 rfl (lv_at hl 2 rfl) ?_
        refine hx_puti hx hb hts hC_7 hown hW hT (hx_S.rf (M := [(7, 2)])) gx tt_7 2 (by decide) rfl kw_313 ⟨rfl, rfl, rfl⟩ rfl (x := i2) (i32_r _) rfl rfl rfl (List.mem_singleton.mpr rfl) dX7_keepIfBetter_26 (fun H locs h_13 eh_13 hW hT hs => ?_)
        replace fx_11 := (hs.o gx trivial rfl).1.trans fx_11
        replace hM := hM.tr (hs.mono (by decide))
        replace gx := gx.S hs
        have f_14 : h_13.2.1 x 2 = i2 := by rw [eh_13]; exact hx_pi_at _ _ _ _
        refine lv_aload_n hx hb dX7_keepIfBetter_29 rfl (lv_at hl 0 rfl) ?_
        refine lv_iload_n hx hb dX7_keepIfBetter_30 rfl (lv_at hl 1 rfl) ?_
        refine hx_puti hx hb hts hC_7 hown hW hT (hx_S.rf (M := [(7, 1)])) gx tt_7 1 (by decide) rfl kw_311 ⟨rfl, rfl, rfl⟩ rfl (x := i1) ⟨by omega, by omega⟩ rfl rfl rfl (List.mem_singleton.mpr rfl) dX7_keepIfBetter_31 (fun H locs h_15 eh_15 hW hT hs => ?_)
        replace f_14 := (hs.o gx trivial rfl).1.trans f_14
        replace hM := hM.tr (hs.mono (by decide))
        replace gx := gx.S hs
        have f_16 : h_15.2.1 x 1 = i1 := by rw [eh_15]; exact hx_pi_at _ _ _ _
        refine lv_aload_n hx hb dX7_keepIfBetter_34 rfl (lv_at hl 0 rfl) ?_
        refine hx_getn hx hb hts hC_7 hown hW hT gx tt_7 6 (by decide) rfl kw_319 ⟨rfl, rfl, rfl⟩ dX7_keepIfBetter_35 (fun q_17 fq_17 gq_17 => ?_)
        refine lv_iconst (v := 0) hx hb dX7_keepIfBetter_38 (by decide) ?_
        refine lv_aload_n hx hb dX7_keepIfBetter_39 rfl (lv_at hl 0 rfl) ?_
        refine hx_getn hx hb hts hC_7 hown hW hT gx tt_7 7 (by decide) rfl kw_320 ⟨rfl, rfl, rfl⟩ dX7_keepIfBetter_40 (fun q_18 fq_18 gq_18 => ?_)
        refine lv_iconst (v := 0) hx hb dX7_keepIfBetter_43 (by decide) ?_
        refine lv_iload_n hx hb dX7_keepIfBetter_44 rfl (lv_at hl 1 rfl) ?_
        refine hx_copyi hx hb (hml.trans hl.1.symm) hown (hts _ kw_1007) (hts _ kw_158) (hts _ kw_157) (hts _ kw_97) hW hT gq_17 gq_18 tt_37 tt_38 rfl (by decide) rfl rfl (by omega) (by omega) (by omega) (Nat.le_of_ble_eq_true rfl) (Nat.le_of_ble_eq_true rfl) dX7_keepIfBetter_45 (fun H locs h_19 hW hT hs => ?_)
        replace f_14 := (hs.o gx trivial rfl).1.trans f_14
        replace f_16 := (hs.o gx trivial rfl).1.trans f_16
        replace fq_17 := (hs.o gx trivial rfl).2.trans fq_17
        replace fq_18 := (hs.o gx trivial rfl).2.trans fq_18
        replace hM := hM.tr (hs.mono (by decide))
        replace gx := gx.S hs
        replace gq_17 := gq_17.S hs
        replace gq_18 := gq_18.S hs
        exact hx_retv hx hb hr hlk hW ⟨hT, hM⟩ dX7_keepIfBetter_48

def wLX5_tryFrom_0 : List Nat := [27, 42, 180, 0, 33, 161, 0, 11, 42, 29, 21, 4, 182, 0, 83, 177, 42, 27, 4, 96, 182, 0, 63, 54, 5, 3, 54, 6, 21, 6, 16, 12, 163, 0, 92, 42, 180, 0, 27, 27, 46, 21, 6, 42, 180, 0, 37, 104, 96, 54, 7, 28, 21, 7, 96, 21, 5, 96, 42, 180, 0, 40, 164, 0]
def wLX5_tryFrom_1 : List Nat := [4, 177, 42, 180, 0, 24, 27, 46, 21, 7, 184, 0, 78, 54, 8, 42, 180, 0, 30, 27, 21, 7, 79, 21, 8, 42, 180, 0, 68, 163, 0, 25, 42, 27, 4, 96, 28, 21, 7, 96, 29, 21, 8, 184, 0, 87, 21, 4, 21, 8, 96, 182, 0, 74, 132, 6, 1, 167, 255, 163, 177]
theorem wX5_tryFrom_0 : (cX5_tryFrom.data.toList.map UInt8.toNat).drop 0 = wLX5_tryFrom_0 ++ (wLX5_tryFrom_1 ++ ([])) := by decide +kernel
theorem wX5_tryFrom_1 : (cX5_tryFrom.data.toList.map UInt8.toNat).drop 64 = wLX5_tryFrom_1 ++ ([]) := hz_wn wX5_tryFrom_0 rfl
theorem dX5_tryFrom_0 : decode cX5_tryFrom 0 = .ok (.iload_n 1, 1) := dq_27 (hz_wg wX5_tryFrom_0 (j := 0) (n := 27) rfl)
theorem dX5_tryFrom_1 : decode cX5_tryFrom 1 = .ok (.aload_n 0, 1) := dq_42 (hz_wg wX5_tryFrom_0 (j := 1) (n := 42) rfl)
theorem dX5_tryFrom_2 : decode cX5_tryFrom 2 = .ok (.getfield 33, 3) := dq_180 (hz_wg wX5_tryFrom_0 (j := 2) (n := 180) rfl) (hz_wg wX5_tryFrom_0 (j := 3) (n := 0) rfl) (hz_wg wX5_tryFrom_0 (j := 4) (n := 33) rfl) rfl
theorem dX5_tryFrom_5 : decode cX5_tryFrom 5 = .ok (.if_icmp .lt 11, 3) := dq_161 (hz_wg wX5_tryFrom_0 (j := 5) (n := 161) rfl) (hz_wg wX5_tryFrom_0 (j := 6) (n := 0) rfl) (hz_wg wX5_tryFrom_0 (j := 7) (n := 11) rfl) (by decide)
theorem dX5_tryFrom_8 : decode cX5_tryFrom 8 = .ok (.aload_n 0, 1) := dq_42 (hz_wg wX5_tryFrom_0 (j := 8) (n := 42) rfl)
theorem dX5_tryFrom_9 : decode cX5_tryFrom 9 = .ok (.iload_n 3, 1) := dq_29 (hz_wg wX5_tryFrom_0 (j := 9) (n := 29) rfl)
theorem dX5_tryFrom_10 : decode cX5_tryFrom 10 = .ok (.iload 4, 2) := dq_21 (hz_wg wX5_tryFrom_0 (j := 10) (n := 21) rfl) (hz_wg wX5_tryFrom_0 (j := 11) (n := 4) rfl)
theorem dX5_tryFrom_12 : decode cX5_tryFrom 12 = .ok (.invokevirtual 83, 3) := dq_182 (hz_wg wX5_tryFrom_0 (j := 12) (n := 182) rfl) (hz_wg wX5_tryFrom_0 (j := 13) (n := 0) rfl) (hz_wg wX5_tryFrom_0 (j := 14) (n := 83) rfl) rfl
theorem dX5_tryFrom_15 : decode cX5_tryFrom 15 = .ok (.return_, 1) := dq_177 (hz_wg wX5_tryFrom_0 (j := 15) (n := 177) rfl)
set_option maxHeartbeats 4000000 in
set_option maxRecDepth 100000 in
theorem t_X5_tryFrom_4 (l : Launch) (dC : Nat → ClassId) (dI : Nat → Nat → Nat) (dA : Nat → ClassId) (L : List Nat) (h : hx_h) (sz : Nat) (b0 : hx_z) (x : Nat) (i2 : Int32) (i3 : Int32) (i4 : Int32) (hT : hx_T T_tb L h) (gx : hx_g L h x 5)  : Met l yX5_tryFrom (Cond.code yX5_tryFrom cX5_tryFrom 9 none :: hx_all) ({ frames := 2, cells := 0, slots := 0, locals := 62 }) (va_Pc [.ref x, .int (4 : Int32), .int i2, .int i3, .int i4] (hx_BX T_tb (P_ty dA) (dC, dI) vwCl L h sz b0)) (va_Qv (fun (u : List Nat × hx_h) => hx_T T_tb u.1 u.2 ∧ hx_S T_tb [(5, 11), (5, 12), (28, 0)] L h u.1 u.2) (hx_E T_tb (P_ty dA) (dC, dI) vwCl (hx_A L sz)) (hx_A L sz)) 0 0 (hx_A L sz) := by
  refine hx_metX (lv := [(0, .ref x), (1, .int (4 : Int32)), (2, .int i2), (3, .int i3), (4, .int i4)]) (by decide +kernel) rfl (Nat.le_of_ble_eq_true rfl) rfl ?_
  intro p e s m below meth c hx hb hml hr hlk hts0 hown hin hsz hW hZ ls hl
  have hts : ∀ w ∈ hx_all, w.before _ s = true := fun w hw => hts0 w (List.mem_cons_of_mem _ hw)
  have hown : s.vm.findClass "SmallCourt$Plan" = some m.cls := hown
  have hM : hx_S T_tb [(5, 11), (5, 12), (28, 0)] L h L h := hx_S.rf
  refine lv_iload_n hx hb dX5_tryFrom_0 rfl (lv_at hl 1 rfl) ?_
  refine lv_aload_n hx hb dX5_tryFrom_1 rfl (lv_at hl 0 rfl) ?_
  refine hx_geti hx hb hts hC_5 hown hW hT gx tt_5 0 (by decide) rfl kw_258 ⟨rfl, rfl, rfl⟩ dX5_tryFrom_2 (fun x_1 ex_1 lx_1 ux_1 => ?_)
  have fx_1 := ex_1.symm
  refine hb_icmp_lt (zx := 4) (zy := x_1.toInt) (tgt := 16) hx hb (by decide) rfl dX5_tryFrom_5 (by decide) (fun c_2 => by exfalso; omega) (fun c_2 => ?_)
  refine lv_aload_n hx hb dX5_tryFrom_8 rfl (lv_at hl 0 rfl) ?_
  refine lv_iload_n hx hb dX5_tryFrom_9 rfl (lv_at hl 3 rfl) ?_
  refine lv_iload hx hb dX5_tryFrom_10 (lv_at hl 4 rfl) ?_
  refine hx_gov (hx_runV (As := [.int i3, .int i4]) (rest := []) ⟨hx, hb, hml, hown, hts⟩ hW gx tt_5 (T := TX5) (N := 13) rfl (t_X5_keepIfBetter l dC dI dA L h s.heap.size x i3 i4 hT gx) (cwV 2 hts (hx_gV kw_973 kw_970 kw_972 kw_35 kw_100) rfl rfl rfl (by decide +kernel) ⟨Nat.le_of_ble_eq_true rfl, Nat.le_of_ble_eq_true rfl⟩) rfl hl.1 rfl (Nat.le_of_ble_eq_true rfl) dX5_tryFrom_12 ⟨Nat.le_of_ble_eq_true rfl, Nat.le_of_ble_eq_true rfl⟩) hW (fun L_3 h_4 H locs p_6 hW => ?_)
  obtain ⟨hT, hs⟩ := p_6
  replace hT : hx_T T_tb L_3 h_4 := hT
  replace hs : hx_S T_tb [(5, 11), (5, 12), (28, 0)] L h L_3 h_4 := hs
  replace fx_1 := (hs.o gx trivial rfl).1.trans fx_1
  replace hM := hM.tr (hs.mono (by decide))
  replace gx := gx.S hs
  exact hx_retv hx hb hr hlk hW ⟨hT, hM⟩ dX5_tryFrom_15

theorem dX5_tryFrom_16 : decode cX5_tryFrom 16 = .ok (.aload_n 0, 1) := dq_42 (hz_wg wX5_tryFrom_0 (j := 16) (n := 42) rfl)
theorem dX5_tryFrom_17 : decode cX5_tryFrom 17 = .ok (.iload_n 1, 1) := dq_27 (hz_wg wX5_tryFrom_0 (j := 17) (n := 27) rfl)
theorem dX5_tryFrom_18 : decode cX5_tryFrom 18 = .ok (.iconst 1, 1) := dq_4 (hz_wg wX5_tryFrom_0 (j := 18) (n := 4) rfl)
theorem dX5_tryFrom_19 : decode cX5_tryFrom 19 = .ok (.iadd, 1) := dq_96 (hz_wg wX5_tryFrom_0 (j := 19) (n := 96) rfl)
theorem dX5_tryFrom_20 : decode cX5_tryFrom 20 = .ok (.invokevirtual 63, 3) := dq_182 (hz_wg wX5_tryFrom_0 (j := 20) (n := 182) rfl) (hz_wg wX5_tryFrom_0 (j := 21) (n := 0) rfl) (hz_wg wX5_tryFrom_0 (j := 22) (n := 63) rfl) rfl
theorem dX5_tryFrom_23 : decode cX5_tryFrom 23 = .ok (.istore 5, 2) := dq_54 (hz_wg wX5_tryFrom_0 (j := 23) (n := 54) rfl) (hz_wg wX5_tryFrom_0 (j := 24) (n := 5) rfl)
theorem dX5_tryFrom_25 : decode cX5_tryFrom 25 = .ok (.iconst 0, 1) := dq_3 (hz_wg wX5_tryFrom_0 (j := 25) (n := 3) rfl)
theorem dX5_tryFrom_26 : decode cX5_tryFrom 26 = .ok (.istore 6, 2) := dq_54 (hz_wg wX5_tryFrom_0 (j := 26) (n := 54) rfl) (hz_wg wX5_tryFrom_0 (j := 27) (n := 6) rfl)
theorem dX5_tryFrom_28 : decode cX5_tryFrom 28 = .ok (.iload 6, 2) := dq_21 (hz_wg wX5_tryFrom_0 (j := 28) (n := 21) rfl) (hz_wg wX5_tryFrom_0 (j := 29) (n := 6) rfl)
theorem dX5_tryFrom_30 : decode cX5_tryFrom 30 = .ok (.bipush 12, 2) := dq_16 (hz_wg wX5_tryFrom_0 (j := 30) (n := 16) rfl) (hz_wg wX5_tryFrom_0 (j := 31) (n := 12) rfl) (by decide)
theorem dX5_tryFrom_32 : decode cX5_tryFrom 32 = .ok (.if_icmp .gt 92, 3) := dq_163 (hz_wg wX5_tryFrom_0 (j := 32) (n := 163) rfl) (hz_wg wX5_tryFrom_0 (j := 33) (n := 0) rfl) (hz_wg wX5_tryFrom_0 (j := 34) (n := 92) rfl) (by decide)
theorem dX5_tryFrom_35 : decode cX5_tryFrom 35 = .ok (.aload_n 0, 1) := dq_42 (hz_wg wX5_tryFrom_0 (j := 35) (n := 42) rfl)
theorem dX5_tryFrom_36 : decode cX5_tryFrom 36 = .ok (.getfield 27, 3) := dq_180 (hz_wg wX5_tryFrom_0 (j := 36) (n := 180) rfl) (hz_wg wX5_tryFrom_0 (j := 37) (n := 0) rfl) (hz_wg wX5_tryFrom_0 (j := 38) (n := 27) rfl) rfl
theorem dX5_tryFrom_39 : decode cX5_tryFrom 39 = .ok (.iload_n 1, 1) := dq_27 (hz_wg wX5_tryFrom_0 (j := 39) (n := 27) rfl)
theorem dX5_tryFrom_40 : decode cX5_tryFrom 40 = .ok (.iaload, 1) := dq_46 (hz_wg wX5_tryFrom_0 (j := 40) (n := 46) rfl)
theorem dX5_tryFrom_41 : decode cX5_tryFrom 41 = .ok (.iload 6, 2) := dq_21 (hz_wg wX5_tryFrom_0 (j := 41) (n := 21) rfl) (hz_wg wX5_tryFrom_0 (j := 42) (n := 6) rfl)
theorem dX5_tryFrom_43 : decode cX5_tryFrom 43 = .ok (.aload_n 0, 1) := dq_42 (hz_wg wX5_tryFrom_0 (j := 43) (n := 42) rfl)
theorem dX5_tryFrom_44 : decode cX5_tryFrom 44 = .ok (.getfield 37, 3) := dq_180 (hz_wg wX5_tryFrom_0 (j := 44) (n := 180) rfl) (hz_wg wX5_tryFrom_0 (j := 45) (n := 0) rfl) (hz_wg wX5_tryFrom_0 (j := 46) (n := 37) rfl) rfl
theorem dX5_tryFrom_47 : decode cX5_tryFrom 47 = .ok (.imul, 1) := dq_104 (hz_wg wX5_tryFrom_0 (j := 47) (n := 104) rfl)
theorem dX5_tryFrom_48 : decode cX5_tryFrom 48 = .ok (.iadd, 1) := dq_96 (hz_wg wX5_tryFrom_0 (j := 48) (n := 96) rfl)
theorem dX5_tryFrom_49 : decode cX5_tryFrom 49 = .ok (.istore 7, 2) := dq_54 (hz_wg wX5_tryFrom_0 (j := 49) (n := 54) rfl) (hz_wg wX5_tryFrom_0 (j := 50) (n := 7) rfl)
theorem dX5_tryFrom_51 : decode cX5_tryFrom 51 = .ok (.iload_n 2, 1) := dq_28 (hz_wg wX5_tryFrom_0 (j := 51) (n := 28) rfl)
theorem dX5_tryFrom_52 : decode cX5_tryFrom 52 = .ok (.iload 7, 2) := dq_21 (hz_wg wX5_tryFrom_0 (j := 52) (n := 21) rfl) (hz_wg wX5_tryFrom_0 (j := 53) (n := 7) rfl)
theorem dX5_tryFrom_54 : decode cX5_tryFrom 54 = .ok (.iadd, 1) := dq_96 (hz_wg wX5_tryFrom_0 (j := 54) (n := 96) rfl)
theorem dX5_tryFrom_55 : decode cX5_tryFrom 55 = .ok (.iload 5, 2) := dq_21 (hz_wg wX5_tryFrom_0 (j := 55) (n := 21) rfl) (hz_wg wX5_tryFrom_0 (j := 56) (n := 5) rfl)
theorem dX5_tryFrom_57 : decode cX5_tryFrom 57 = .ok (.iadd, 1) := dq_96 (hz_wg wX5_tryFrom_0 (j := 57) (n := 96) rfl)
theorem dX5_tryFrom_58 : decode cX5_tryFrom 58 = .ok (.aload_n 0, 1) := dq_42 (hz_wg wX5_tryFrom_0 (j := 58) (n := 42) rfl)
theorem dX5_tryFrom_59 : decode cX5_tryFrom 59 = .ok (.getfield 40, 3) := dq_180 (hz_wg wX5_tryFrom_0 (j := 59) (n := 180) rfl) (hz_wg wX5_tryFrom_0 (j := 60) (n := 0) rfl) (hz_wg wX5_tryFrom_0 (j := 61) (n := 40) rfl) rfl
theorem dX5_tryFrom_62 : decode cX5_tryFrom 62 = .ok (.if_icmp .le 4, 3) := dq_164 (hz_wg wX5_tryFrom_0 (j := 62) (n := 164) rfl) (hz_wg wX5_tryFrom_0 (j := 63) (n := 0) rfl) (hz_wg wX5_tryFrom_1 (j := 0) (n := 4) rfl) (by decide)
theorem dX5_tryFrom_65 : decode cX5_tryFrom 65 = .ok (.return_, 1) := dq_177 (hz_wg wX5_tryFrom_1 (j := 1) (n := 177) rfl)
theorem dX5_tryFrom_66 : decode cX5_tryFrom 66 = .ok (.aload_n 0, 1) := dq_42 (hz_wg wX5_tryFrom_1 (j := 2) (n := 42) rfl)
theorem dX5_tryFrom_67 : decode cX5_tryFrom 67 = .ok (.getfield 24, 3) := dq_180 (hz_wg wX5_tryFrom_1 (j := 3) (n := 180) rfl) (hz_wg wX5_tryFrom_1 (j := 4) (n := 0) rfl) (hz_wg wX5_tryFrom_1 (j := 5) (n := 24) rfl) rfl
theorem dX5_tryFrom_70 : decode cX5_tryFrom 70 = .ok (.iload_n 1, 1) := dq_27 (hz_wg wX5_tryFrom_1 (j := 6) (n := 27) rfl)
theorem dX5_tryFrom_71 : decode cX5_tryFrom 71 = .ok (.iaload, 1) := dq_46 (hz_wg wX5_tryFrom_1 (j := 7) (n := 46) rfl)
theorem dX5_tryFrom_72 : decode cX5_tryFrom 72 = .ok (.iload 7, 2) := dq_21 (hz_wg wX5_tryFrom_1 (j := 8) (n := 21) rfl) (hz_wg wX5_tryFrom_1 (j := 9) (n := 7) rfl)
theorem dX5_tryFrom_74 : decode cX5_tryFrom 74 = .ok (.invokestatic 78, 3) := dq_184 (hz_wg wX5_tryFrom_1 (j := 10) (n := 184) rfl) (hz_wg wX5_tryFrom_1 (j := 11) (n := 0) rfl) (hz_wg wX5_tryFrom_1 (j := 12) (n := 78) rfl) rfl
theorem dX5_tryFrom_77 : decode cX5_tryFrom 77 = .ok (.istore 8, 2) := dq_54 (hz_wg wX5_tryFrom_1 (j := 13) (n := 54) rfl) (hz_wg wX5_tryFrom_1 (j := 14) (n := 8) rfl)
theorem dX5_tryFrom_79 : decode cX5_tryFrom 79 = .ok (.aload_n 0, 1) := dq_42 (hz_wg wX5_tryFrom_1 (j := 15) (n := 42) rfl)
theorem dX5_tryFrom_80 : decode cX5_tryFrom 80 = .ok (.getfield 30, 3) := dq_180 (hz_wg wX5_tryFrom_1 (j := 16) (n := 180) rfl) (hz_wg wX5_tryFrom_1 (j := 17) (n := 0) rfl) (hz_wg wX5_tryFrom_1 (j := 18) (n := 30) rfl) rfl
theorem dX5_tryFrom_83 : decode cX5_tryFrom 83 = .ok (.iload_n 1, 1) := dq_27 (hz_wg wX5_tryFrom_1 (j := 19) (n := 27) rfl)
theorem dX5_tryFrom_84 : decode cX5_tryFrom 84 = .ok (.iload 7, 2) := dq_21 (hz_wg wX5_tryFrom_1 (j := 20) (n := 21) rfl) (hz_wg wX5_tryFrom_1 (j := 21) (n := 7) rfl)
theorem dX5_tryFrom_86 : decode cX5_tryFrom 86 = .ok (.iastore, 1) := dq_79 (hz_wg wX5_tryFrom_1 (j := 22) (n := 79) rfl)
theorem dX5_tryFrom_87 : decode cX5_tryFrom 87 = .ok (.iload 8, 2) := dq_21 (hz_wg wX5_tryFrom_1 (j := 23) (n := 21) rfl) (hz_wg wX5_tryFrom_1 (j := 24) (n := 8) rfl)
theorem dX5_tryFrom_89 : decode cX5_tryFrom 89 = .ok (.aload_n 0, 1) := dq_42 (hz_wg wX5_tryFrom_1 (j := 25) (n := 42) rfl)
theorem dX5_tryFrom_90 : decode cX5_tryFrom 90 = .ok (.getfield 68, 3) := dq_180 (hz_wg wX5_tryFrom_1 (j := 26) (n := 180) rfl) (hz_wg wX5_tryFrom_1 (j := 27) (n := 0) rfl) (hz_wg wX5_tryFrom_1 (j := 28) (n := 68) rfl) rfl
theorem dX5_tryFrom_93 : decode cX5_tryFrom 93 = .ok (.if_icmp .gt 25, 3) := dq_163 (hz_wg wX5_tryFrom_1 (j := 29) (n := 163) rfl) (hz_wg wX5_tryFrom_1 (j := 30) (n := 0) rfl) (hz_wg wX5_tryFrom_1 (j := 31) (n := 25) rfl) (by decide)
theorem dX5_tryFrom_96 : decode cX5_tryFrom 96 = .ok (.aload_n 0, 1) := dq_42 (hz_wg wX5_tryFrom_1 (j := 32) (n := 42) rfl)
theorem dX5_tryFrom_97 : decode cX5_tryFrom 97 = .ok (.iload_n 1, 1) := dq_27 (hz_wg wX5_tryFrom_1 (j := 33) (n := 27) rfl)
theorem dX5_tryFrom_98 : decode cX5_tryFrom 98 = .ok (.iconst 1, 1) := dq_4 (hz_wg wX5_tryFrom_1 (j := 34) (n := 4) rfl)
theorem dX5_tryFrom_99 : decode cX5_tryFrom 99 = .ok (.iadd, 1) := dq_96 (hz_wg wX5_tryFrom_1 (j := 35) (n := 96) rfl)
theorem dX5_tryFrom_100 : decode cX5_tryFrom 100 = .ok (.iload_n 2, 1) := dq_28 (hz_wg wX5_tryFrom_1 (j := 36) (n := 28) rfl)
theorem dX5_tryFrom_101 : decode cX5_tryFrom 101 = .ok (.iload 7, 2) := dq_21 (hz_wg wX5_tryFrom_1 (j := 37) (n := 21) rfl) (hz_wg wX5_tryFrom_1 (j := 38) (n := 7) rfl)
theorem dX5_tryFrom_103 : decode cX5_tryFrom 103 = .ok (.iadd, 1) := dq_96 (hz_wg wX5_tryFrom_1 (j := 39) (n := 96) rfl)
theorem dX5_tryFrom_104 : decode cX5_tryFrom 104 = .ok (.iload_n 3, 1) := dq_29 (hz_wg wX5_tryFrom_1 (j := 40) (n := 29) rfl)
theorem dX5_tryFrom_105 : decode cX5_tryFrom 105 = .ok (.iload 8, 2) := dq_21 (hz_wg wX5_tryFrom_1 (j := 41) (n := 21) rfl) (hz_wg wX5_tryFrom_1 (j := 42) (n := 8) rfl)
theorem dX5_tryFrom_107 : decode cX5_tryFrom 107 = .ok (.invokestatic 87, 3) := dq_184 (hz_wg wX5_tryFrom_1 (j := 43) (n := 184) rfl) (hz_wg wX5_tryFrom_1 (j := 44) (n := 0) rfl) (hz_wg wX5_tryFrom_1 (j := 45) (n := 87) rfl) rfl
theorem dX5_tryFrom_110 : decode cX5_tryFrom 110 = .ok (.iload 4, 2) := dq_21 (hz_wg wX5_tryFrom_1 (j := 46) (n := 21) rfl) (hz_wg wX5_tryFrom_1 (j := 47) (n := 4) rfl)
theorem dX5_tryFrom_112 : decode cX5_tryFrom 112 = .ok (.iload 8, 2) := dq_21 (hz_wg wX5_tryFrom_1 (j := 48) (n := 21) rfl) (hz_wg wX5_tryFrom_1 (j := 49) (n := 8) rfl)
theorem dX5_tryFrom_114 : decode cX5_tryFrom 114 = .ok (.iadd, 1) := dq_96 (hz_wg wX5_tryFrom_1 (j := 50) (n := 96) rfl)
theorem dX5_tryFrom_115 : decode cX5_tryFrom 115 = .ok (.invokevirtual 74, 3) := dq_182 (hz_wg wX5_tryFrom_1 (j := 51) (n := 182) rfl) (hz_wg wX5_tryFrom_1 (j := 52) (n := 0) rfl) (hz_wg wX5_tryFrom_1 (j := 53) (n := 74) rfl) rfl
theorem dX5_tryFrom_118 : decode cX5_tryFrom 118 = .ok (.iinc 6 1, 3) := dq_132 (hz_wg wX5_tryFrom_1 (j := 54) (n := 132) rfl) (hz_wg wX5_tryFrom_1 (j := 55) (n := 6) rfl) (hz_wg wX5_tryFrom_1 (j := 56) (n := 1) rfl) (by decide)
theorem dX5_tryFrom_121 : decode cX5_tryFrom 121 = .ok (.goto (-93), 3) := dq_167 (hz_wg wX5_tryFrom_1 (j := 57) (n := 167) rfl) (hz_wg wX5_tryFrom_1 (j := 58) (n := 255) rfl) (hz_wg wX5_tryFrom_1 (j := 59) (n := 163) rfl) (by decide)
theorem dX5_tryFrom_124 : decode cX5_tryFrom 124 = .ok (.return_, 1) := dq_177 (hz_wg wX5_tryFrom_1 (j := 60) (n := 177) rfl)
set_option maxHeartbeats 4000000 in
set_option maxRecDepth 100000 in
theorem t_X5_tryFrom_3 (l : Launch) (dC : Nat → ClassId) (dI : Nat → Nat → Nat) (dA : Nat → ClassId) (L : List Nat) (h : hx_h) (sz : Nat) (b0 : hx_z) (x : Nat) (i2 : Int32) (i3 : Int32) (i4 : Int32) (hT : hx_T T_tb L h) (gx : hx_g L h x 5)  : Met l yX5_tryFrom (Cond.code yX5_tryFrom cX5_tryFrom 9 none :: hx_all) ({ frames := 3, cells := 0, slots := 0, locals := 90 }) (va_Pc [.ref x, .int (3 : Int32), .int i2, .int i3, .int i4] (hx_BX T_tb (P_ty dA) (dC, dI) vwCl L h sz b0)) (va_Qv (fun (u : List Nat × hx_h) => hx_T T_tb u.1 u.2 ∧ hx_S T_tb [(5, 11), (5, 12), (28, 0), (33, 0)] L h u.1 u.2) (hx_E T_tb (P_ty dA) (dC, dI) vwCl (hx_A L sz)) (hx_A L sz)) 0 0 (hx_A L sz) := by
  refine hx_metX (lv := [(0, .ref x), (1, .int (3 : Int32)), (2, .int i2), (3, .int i3), (4, .int i4)]) (by decide +kernel) rfl (Nat.le_of_ble_eq_true rfl) rfl ?_
  intro p e s m below meth c hx hb hml hr hlk hts0 hown hin hsz hW hZ ls hl
  have hts : ∀ w ∈ hx_all, w.before _ s = true := fun w hw => hts0 w (List.mem_cons_of_mem _ hw)
  have hown : s.vm.findClass "SmallCourt$Plan" = some m.cls := hown
  have hM : hx_S T_tb [(5, 11), (5, 12), (28, 0), (33, 0)] L h L h := hx_S.rf
  refine lv_iload_n hx hb dX5_tryFrom_0 rfl (lv_at hl 1 rfl) ?_
  refine lv_aload_n hx hb dX5_tryFrom_1 rfl (lv_at hl 0 rfl) ?_
  refine hx_geti hx hb hts hC_5 hown hW hT gx tt_5 0 (by decide) rfl kw_258 ⟨rfl, rfl, rfl⟩ dX5_tryFrom_2 (fun x_1 ex_1 lx_1 ux_1 => ?_)
  have fx_1 := ex_1.symm
  refine hb_icmp_lt (zx := 3) (zy := x_1.toInt) (tgt := 16) hx hb (by decide) rfl dX5_tryFrom_5 (by decide) (fun c_2 => ?_) (fun c_2 => ?_)
  · skip
    refine lv_aload_n hx hb dX5_tryFrom_16 rfl (lv_at hl 0 rfl) ?_
    refine lv_iload_n hx hb dX5_tryFrom_17 rfl (lv_at hl 1 rfl) ?_
    refine lv_iconst (v := 1) hx hb dX5_tryFrom_18 (by decide) ?_
    refine lv_iadd hx hb dX5_tryFrom_19 ?_
    refine lv_topi (fun x_3 ex_3 => ?_)
    obtain rfl : x_3 = (4 : Int32) := ex_3.trans (by decide)
    refine hx_goi (hx_runV (As := [.int (4 : Int32)]) (rest := []) ⟨hx, hb, hml, hown, hts⟩ hW gx tt_5 (T := TX5) (N := 13) rfl (t_X5_leastFrom l dC dI dA L h s.heap.size x (4 : Int32) hT gx (by decide)) (cwV 1 hts (hx_gV kw_964 kw_961 kw_963 kw_33 kw_100) rfl rfl rfl (by decide +kernel) ⟨Nat.le_of_ble_eq_true rfl, Nat.le_of_ble_eq_true rfl⟩) rfl hl.1 rfl (Nat.le_of_ble_eq_true rfl) dX5_tryFrom_20 ⟨Nat.le_of_ble_eq_true rfl, Nat.le_of_ble_eq_true rfl⟩) hW (fun r_6 L_4 h_5 H locs p_7 hW => ?_)
    obtain ⟨hr_8, hT, hs⟩ := p_7
    replace hT : hx_T T_tb L_4 h_5 := hT
    replace hs : hx_S T_tb [] L h L_4 h_5 := hs
    replace fx_1 := (hs.o gx trivial rfl).1.trans fx_1
    replace hM := hM.tr (hs.mono (by decide))
    replace gx := gx.S hs
    refine lv_istore (lv' := [(5, .int r_6), (0, .ref x), (1, .int (3 : Int32)), (2, .int i2), (3, .int i3), (4, .int i4)]) hx hb dX5_tryFrom_23 hl (by decide) rfl (fun ls hl => ?_)
    refine lv_iconst (v := 0) hx hb dX5_tryFrom_25 (by decide) ?_
    refine lv_istore (lv' := [(6, .int (0 : Int32)), (5, .int r_6), (0, .ref x), (1, .int (3 : Int32)), (2, .int i2), (3, .int i3), (4, .int i4)]) hx hb dX5_tryFrom_26 hl (by decide) rfl (fun ls hl => ?_)
    have loop28 : ∀ (n28 : Nat) (iv28_6 : Int32) (H : Heap) (locs : List Loc) (hL1 : List Nat) (hl1 : hx_h) (ls : Array Slot), 0 ≤ iv28_6.toInt → iv28_6.toInt ≤ 13 → 13 < iv28_6.toInt + n28 → hx_W T_tb (P_ty dA) (dC, dI) vwCl (hx_A L sz) s.heap hL1 hl1 s H locs → hx_T T_tb hL1 hl1 → hx_S T_tb [(5, 11), (5, 12), (28, 0), (33, 0)] L h hL1 hl1 → hl1.2.1 x 0 = x_1 → hx_g hL1 hl1 x 5 → lv_has ls 9 [(6, .int iv28_6), (5, .int r_6), (0, .ref x), (1, .int (3 : Int32)), (2, .int i2), (3, .int i3), (4, .int i4)] → W p l e ({ frames := 3, cells := 0, slots := 0, locals := 90 }) s m ([.ref x, .int (3 : Int32), .int i2, .int i3, .int i4] : List Value).toArray below meth c H locs 0 0 (MQ below (va_Qv (fun (u : List Nat × hx_h) => hx_T T_tb u.1 u.2 ∧ hx_S T_tb [(5, 11), (5, 12), (28, 0), (33, 0)] L h u.1 u.2) (hx_E T_tb (P_ty dA) (dC, dI) vwCl (hx_A L sz)) (hx_A L sz)) ([.ref x, .int (3 : Int32), .int i2, .int i3, .int i4] : List Value).toArray s 0 0 (hx_A L sz)) (F0 m 28 ls []) := by
      intro n28
      induction n28 with
      | zero => intro iv28_6 H locs hL1 hl1 ls bl28_6 bu28_6 hn28; exfalso; omega
      | succ n28 ih28 =>
        intro iv28_6 H locs hL1 hl1 ls bl28_6 bu28_6 hn28 hW hT hM fx_1 gx  hl
        refine lv_iload hx hb dX5_tryFrom_28 (lv_at hl 0 rfl) ?_
        refine lv_bipush (v := 12) hx hb dX5_tryFrom_30 (by decide) ?_
        refine hb_icmp_gt (zx := iv28_6.toInt) (zy := 12) (tgt := 124) hx hb rfl (by decide) dX5_tryFrom_32 (by decide) (fun c_9 => ?_) (fun c_9 => ?_)
        · skip
          exact hx_retv hx hb hr hlk hW ⟨hT, hM⟩ dX5_tryFrom_124
        · skip
          refine lv_aload_n hx hb dX5_tryFrom_35 rfl (lv_at hl 2 rfl) ?_
          refine hx_getn hx hb hts hC_5 hown hW hT gx tt_5 7 (by decide) rfl kw_270 ⟨rfl, rfl, rfl⟩ dX5_tryFrom_36 (fun q_10 fq_10 gq_10 => ?_)
          refine lv_iload_n hx hb dX5_tryFrom_39 rfl (lv_at hl 3 rfl) ?_
          refine hx_iald hx hb hW hT gq_10 tt_32 rfl (by decide) dX5_tryFrom_40 (fun x_11 ex_11 lx_11 ux_11 => ?_)
          refine lv_iload hx hb dX5_tryFrom_41 (lv_at hl 0 rfl) ?_
          refine lv_aload_n hx hb dX5_tryFrom_43 rfl (lv_at hl 2 rfl) ?_
          refine hx_geti hx hb hts hC_5 hown hW hT gx tt_5 9 (by decide) rfl kw_272 ⟨rfl, rfl, rfl⟩ dX5_tryFrom_44 (fun x_12 ex_12 lx_12 ux_12 => ?_)
          have fx_12 := ex_12.symm
          refine lv_imul hx hb dX5_tryFrom_47 ?_
          refine lv_topi (fun x_13 ex_13 => ?_)
          refine lv_iadd hx hb dX5_tryFrom_48 ?_
          have rg_14 := i32_r x_11
          have rg_15 := i32_r x_13
          refine lv_topi (fun x_16 ex_16 => ?_)
          refine lv_istore (lv' := [(7, .int x_16), (6, .int iv28_6), (5, .int r_6), (0, .ref x), (1, .int (3 : Int32)), (2, .int i2), (3, .int i3), (4, .int i4)]) hx hb dX5_tryFrom_49 hl (by decide) rfl (fun ls hl => ?_)
          refine lv_iload_n hx hb dX5_tryFrom_51 rfl (lv_at hl 5 rfl) ?_
          refine lv_iload hx hb dX5_tryFrom_52 (lv_at hl 0 rfl) ?_
          refine lv_iadd hx hb dX5_tryFrom_54 ?_
          have rg_17 := i32_r i2
          have rg_18 := i32_r x_16
          refine lv_topi (fun x_19 ex_19 => ?_)
          refine lv_iload hx hb dX5_tryFrom_55 (lv_at hl 2 rfl) ?_
          refine lv_iadd hx hb dX5_tryFrom_57 ?_
          have rg_20 := i32_r x_19
          have rg_21 := i32_r r_6
          refine lv_topi (fun x_22 ex_22 => ?_)
          refine lv_aload_n hx hb dX5_tryFrom_58 rfl (lv_at hl 3 rfl) ?_
          refine hx_geti hx hb hts hC_5 hown hW hT gx tt_5 10 (by decide) rfl kw_273 ⟨rfl, rfl, rfl⟩ dX5_tryFrom_59 (fun x_23 ex_23 lx_23 ux_23 => ?_)
          have fx_23 := ex_23.symm
          refine hb_icmp_le (zx := x_22.toInt) (zy := x_23.toInt) (tgt := 66) hx hb rfl rfl dX5_tryFrom_62 (by decide) (fun c_24 => ?_) (fun c_24 => ?_)
          · skip
            refine lv_aload_n hx hb dX5_tryFrom_66 rfl (lv_at hl 3 rfl) ?_
            refine hx_getn hx hb hts hC_5 hown hW hT gx tt_5 6 (by decide) rfl kw_269 ⟨rfl, rfl, rfl⟩ dX5_tryFrom_67 (fun q_25 fq_25 gq_25 => ?_)
            refine lv_iload_n hx hb dX5_tryFrom_70 rfl (lv_at hl 4 rfl) ?_
            refine hx_iald hx hb hW hT gq_25 tt_31 rfl (by decide) dX5_tryFrom_71 (fun x_26 ex_26 lx_26 ux_26 => ?_)
            refine lv_iload hx hb dX5_tryFrom_72 (lv_at hl 0 rfl) ?_
            refine hx_goi (hx_runSN (As := [.int x_26, .int x_16]) (rest := []) ⟨hx, hb, hml, hown, hts⟩ hW (t_X9_roundUp l dC dI dA hL1 hl1 H.size x_26 x_16 hT) ⟨va_cnB 2 hts (hx_gC kw_921) rfl rfl rfl (hZ.1 _ (List.mem_of_getElem? (i := 10) rfl)) (hts _ kw_94) (by decide +kernel) ⟨Nat.le_of_ble_eq_true rfl, Nat.le_of_ble_eq_true rfl⟩, hts _ kw_920, trivial⟩ rfl hl.1 rfl (Nat.le_of_ble_eq_true rfl) dX5_tryFrom_74 ⟨Nat.le_of_ble_eq_true rfl, Nat.le_of_ble_eq_true rfl⟩) hW (fun r_29 L_27 h_28 H locs p_30 hW => ?_)
            obtain ⟨hr_31, hT, hs⟩ := p_30
            replace hT : hx_T T_tb L_27 h_28 := hT
            replace hs : hx_S T_tb [] hL1 hl1 L_27 h_28 := hs
            replace fx_1 := (hs.o gx trivial rfl).1.trans fx_1
            replace fq_10 := (hs.o gx trivial rfl).2.trans fq_10
            replace fx_12 := (hs.o gx trivial rfl).1.trans fx_12
            replace fx_23 := (hs.o gx trivial rfl).1.trans fx_23
            replace fq_25 := (hs.o gx trivial rfl).2.trans fq_25
            replace hM := hM.tr (hs.mono (by decide))
            replace gx := gx.S hs
            replace gq_10 := gq_10.S hs
            replace gq_25 := gq_25.S hs
            refine lv_istore (lv' := [(8, .int r_29), (7, .int x_16), (6, .int iv28_6), (5, .int r_6), (0, .ref x), (1, .int (3 : Int32)), (2, .int i2), (3, .int i3), (4, .int i4)]) hx hb dX5_tryFrom_77 hl (by decide) rfl (fun ls hl => ?_)
            refine lv_aload_n hx hb dX5_tryFrom_79 rfl (lv_at hl 4 rfl) ?_
            refine hx_getn hx hb hts hC_5 hown hW hT gx tt_5 8 (by decide) rfl kw_271 ⟨rfl, rfl, rfl⟩ dX5_tryFrom_80 (fun q_32 fq_32 gq_32 => ?_)
            refine lv_iload_n hx hb dX5_tryFrom_83 rfl (lv_at hl 5 rfl) ?_
            refine lv_iload hx hb dX5_tryFrom_84 (lv_at hl 1 rfl) ?_
            refine hx_iast hx hb hW hT (hx_S.rf (M := [(33, 0)])) gq_32 tt_33 rfl (by decide) rfl (i32_r _) (List.mem_singleton.mpr rfl) dX5_tryFrom_86 (fun H locs h_33 eh_33 hW hT hs => ?_)
            replace fx_1 := (hs.o gx trivial rfl).1.trans fx_1
            replace fq_10 := (hs.o gx trivial rfl).2.trans fq_10
            replace fx_12 := (hs.o gx trivial rfl).1.trans fx_12
            replace fx_23 := (hs.o gx trivial rfl).1.trans fx_23
            replace fq_25 := (hs.o gx trivial rfl).2.trans fq_25
            replace fq_32 := (hs.o gx trivial rfl).2.trans fq_32
            replace hM := hM.tr (hs.mono (by decide))
            replace gx := gx.S hs
            replace gq_10 := gq_10.S hs
            replace gq_25 := gq_25.S hs
            replace gq_32 := gq_32.S hs
            refine lv_iload hx hb dX5_tryFrom_87 (lv_at hl 0 rfl) ?_
            refine lv_aload_n hx hb dX5_tryFrom_89 rfl (lv_at hl 4 rfl) ?_
            refine hx_geti hx hb hts hC_5 hown hW hT gx tt_5 11 (by decide) rfl kw_274 ⟨rfl, rfl, rfl⟩ dX5_tryFrom_90 (fun x_34 ex_34 lx_34 ux_34 => ?_)
            have fx_34 := ex_34.symm
            refine hb_icmp_gt (zx := r_29.toInt) (zy := x_34.toInt) (tgt := 118) hx hb rfl rfl dX5_tryFrom_93 (by decide) (fun c_35 => ?_) (fun c_35 => ?_)
            · skip
              obtain ⟨x_36, ex_36⟩ : ∃ y : Int32, y = iv28_6 + Int32.ofInt 1 := ⟨_, rfl⟩
              have rg_37 := i32_r iv28_6
              have zx_36 : x_36.toInt = iv28_6.toInt + (1) := by rw [ex_36]; exact i32_add rfl (by decide) (by omega) (by omega)
              refine lv_iinc (v := x_36) (lv' := [(6, .int x_36), (8, .int r_29), (7, .int x_16), (5, .int r_6), (0, .ref x), (1, .int (3 : Int32)), (2, .int i2), (3, .int i3), (4, .int i4)]) hx hb dX5_tryFrom_118 hl (k := 2) rfl ex_36.symm (by decide) rfl (fun ls hl => ?_)
              refine lv_goto (tgt := 28) hx hb dX5_tryFrom_121 (by decide) ?_
              exact ih28 x_36 _ _ L_27 h_33 ls (by omega) (by omega) (by omega) hW hT hM fx_1 gx  (lv_sub hl [0, 3, 4, 5, 6, 7, 8] rfl)
            · skip
              refine lv_aload_n hx hb dX5_tryFrom_96 rfl (lv_at hl 4 rfl) ?_
              refine lv_iload_n hx hb dX5_tryFrom_97 rfl (lv_at hl 5 rfl) ?_
              refine lv_iconst (v := 1) hx hb dX5_tryFrom_98 (by decide) ?_
              refine lv_iadd hx hb dX5_tryFrom_99 ?_
              refine lv_topi (fun x_38 ex_38 => ?_)
              obtain rfl : x_38 = (4 : Int32) := ex_38.trans (by decide)
              refine lv_iload_n hx hb dX5_tryFrom_100 rfl (lv_at hl 6 rfl) ?_
              refine lv_iload hx hb dX5_tryFrom_101 (lv_at hl 1 rfl) ?_
              refine lv_iadd hx hb dX5_tryFrom_103 ?_
              refine lv_topi (fun x_39 ex_39 => ?_)
              refine lv_iload_n hx hb dX5_tryFrom_104 rfl (lv_at hl 7 rfl) ?_
              refine lv_iload hx hb dX5_tryFrom_105 (lv_at hl 0 rfl) ?_
              refine va_mmax hx hb (hml.trans hl.1.symm) hown (hts _ kw_976) (hts _ kw_882) (hts _ kw_109) (hts _ kw_883) (Nat.le_of_ble_eq_true rfl) (Nat.le_of_ble_eq_true rfl) (Nat.le_of_ble_eq_true rfl) (Nat.le_of_ble_eq_true rfl) dX5_tryFrom_107 ?_
              refine lv_topi (fun x_40 ex_40 => ?_)
              refine lv_iload hx hb dX5_tryFrom_110 (lv_at hl 8 rfl) ?_
              refine lv_iload hx hb dX5_tryFrom_112 (lv_at hl 0 rfl) ?_
              refine lv_iadd hx hb dX5_tryFrom_114 ?_
              have rg_41 := i32_r i4
              have rg_42 := i32_r r_29
              refine lv_topi (fun x_43 ex_43 => ?_)
              refine hx_gov (hx_runVX (As := [.int (4 : Int32), .int x_39, .int x_40, .int x_43]) (rest := []) ⟨hx, hb, hml, hown, hts⟩ hW gx tt_5 (T := TX5) (N := 13) rfl (t_X5_tryFrom_4 l dC dI dA L_27 h_33 H.size b0 x x_39 x_40 x_43 hT gx) hZ (cwV 4 hts (hx_gV kw_969 kw_966 kw_968 kw_34 kw_100) rfl rfl rfl (by decide +kernel) ⟨Nat.le_of_ble_eq_true rfl, Nat.le_of_ble_eq_true rfl⟩) rfl hl.1 rfl (Nat.le_of_ble_eq_true rfl) dX5_tryFrom_115 ⟨Nat.le_of_ble_eq_true rfl, Nat.le_of_ble_eq_true rfl⟩) hW (fun L_44 h_45 H locs p_47 hW => ?_)
              obtain ⟨hT, hs⟩ := p_47
              replace hT : hx_T T_tb L_44 h_45 := hT
              replace hs : hx_S T_tb [(5, 11), (5, 12), (28, 0)] L_27 h_33 L_44 h_45 := hs
              replace fx_1 := (hs.o gx trivial rfl).1.trans fx_1
              replace fq_10 := (hs.o gx trivial rfl).2.trans fq_10
              replace fx_12 := (hs.o gx trivial rfl).1.trans fx_12
              replace fx_23 := (hs.o gx trivial rfl).1.trans fx_23
              replace fq_25 := (hs.o gx trivial rfl).2.trans fq_25
              replace fq_32 := (hs.o gx trivial rfl).2.trans fq_32
              replace hM := hM.tr (hs.mono (by decide))
              replace gx := gx.S hs
              replace gq_10 := gq_10.S hs
              replace gq_25 := gq_25.S hs
              replace gq_32 := gq_32.S hs
              obtain ⟨x_49, ex_49⟩ : ∃ y : Int32, y = iv28_6 + Int32.ofInt 1 := ⟨_, rfl⟩
              have rg_50 := i32_r iv28_6
              have zx_49 : x_49.toInt = iv28_6.toInt + (1) := by rw [ex_49]; exact i32_add rfl (by decide) (by omega) (by omega)
              refine lv_iinc (v := x_49) (lv' := [(6, .int x_49), (8, .int r_29), (7, .int x_16), (5, .int r_6), (0, .ref x), (1, .int (3 : Int32)), (2, .int i2), (3, .int i3), (4, .int i4)]) hx hb dX5_tryFrom_118 hl (k := 2) rfl ex_49.symm (by decide) rfl (fun ls hl => ?_)
              refine lv_goto (tgt := 28) hx hb dX5_tryFrom_121 (by decide) ?_
              exact ih28 x_49 _ _ L_44 h_45 ls (by omega) (by omega) (by omega) hW hT hM fx_1 gx  (lv_sub hl [0, 3, 4, 5, 6, 7, 8] rfl)
          · skip
            exact hx_retv hx hb hr hlk hW ⟨hT, hM⟩ dX5_tryFrom_65
    exact loop28 14 (0 : Int32) _ _ L_4 h_5 ls (by decide) (by decide) (by decide) hW hT hM fx_1 gx  hl
  · skip
    refine lv_aload_n hx hb dX5_tryFrom_8 rfl (lv_at hl 0 rfl) ?_
    refine lv_iload_n hx hb dX5_tryFrom_9 rfl (lv_at hl 3 rfl) ?_
    refine lv_iload hx hb dX5_tryFrom_10 (lv_at hl 4 rfl) ?_
    refine hx_gov (hx_runV (As := [.int i3, .int i4]) (rest := []) ⟨hx, hb, hml, hown, hts⟩ hW gx tt_5 (T := TX5) (N := 13) rfl (t_X5_keepIfBetter l dC dI dA L h s.heap.size x i3 i4 hT gx) (cwV 2 hts (hx_gV kw_973 kw_970 kw_972 kw_35 kw_100) rfl rfl rfl (by decide +kernel) ⟨Nat.le_of_ble_eq_true rfl, Nat.le_of_ble_eq_true rfl⟩) rfl hl.1 rfl (Nat.le_of_ble_eq_true rfl) dX5_tryFrom_12 ⟨Nat.le_of_ble_eq_true rfl, Nat.le_of_ble_eq_true rfl⟩) hW (fun L_51 h_52 H locs p_54 hW => ?_)
    obtain ⟨hT, hs⟩ := p_54
    replace hT : hx_T T_tb L_51 h_52 := hT
    replace hs : hx_S T_tb [(5, 11), (5, 12), (28, 0)] L h L_51 h_52 := hs
    replace fx_1 := (hs.o gx trivial rfl).1.trans fx_1
    replace hM := hM.tr (hs.mono (by decide))
    replace gx := gx.S hs
    exact hx_retv hx hb hr hlk hW ⟨hT, hM⟩ dX5_tryFrom_15


set_option maxHeartbeats 4000000 in
set_option maxRecDepth 100000 in
theorem t_X5_tryFrom_2 (l : Launch) (dC : Nat → ClassId) (dI : Nat → Nat → Nat) (dA : Nat → ClassId) (L : List Nat) (h : hx_h) (sz : Nat) (b0 : hx_z) (x : Nat) (i2 : Int32) (i3 : Int32) (i4 : Int32) (hT : hx_T T_tb L h) (gx : hx_g L h x 5)  : Met l yX5_tryFrom (Cond.code yX5_tryFrom cX5_tryFrom 9 none :: hx_all) ({ frames := 4, cells := 0, slots := 0, locals := 118 }) (va_Pc [.ref x, .int (2 : Int32), .int i2, .int i3, .int i4] (hx_BX T_tb (P_ty dA) (dC, dI) vwCl L h sz b0)) (va_Qv (fun (u : List Nat × hx_h) => hx_T T_tb u.1 u.2 ∧ hx_S T_tb [(5, 11), (5, 12), (28, 0), (33, 0)] L h u.1 u.2) (hx_E T_tb (P_ty dA) (dC, dI) vwCl (hx_A L sz)) (hx_A L sz)) 0 0 (hx_A L sz) := by
  refine hx_metX (lv := [(0, .ref x), (1, .int (2 : Int32)), (2, .int i2), (3, .int i3), (4, .int i4)]) (by decide +kernel) rfl (Nat.le_of_ble_eq_true rfl) rfl ?_
  intro p e s m below meth c hx hb hml hr hlk hts0 hown hin hsz hW hZ ls hl
  have hts : ∀ w ∈ hx_all, w.before _ s = true := fun w hw => hts0 w (List.mem_cons_of_mem _ hw)
  have hown : s.vm.findClass "SmallCourt$Plan" = some m.cls := hown
  have hM : hx_S T_tb [(5, 11), (5, 12), (28, 0), (33, 0)] L h L h := hx_S.rf
  refine lv_iload_n hx hb dX5_tryFrom_0 rfl (lv_at hl 1 rfl) ?_
  refine lv_aload_n hx hb dX5_tryFrom_1 rfl (lv_at hl 0 rfl) ?_
  refine hx_geti hx hb hts hC_5 hown hW hT gx tt_5 0 (by decide) rfl kw_258 ⟨rfl, rfl, rfl⟩ dX5_tryFrom_2 (fun x_1 ex_1 lx_1 ux_1 => ?_)
  have fx_1 := ex_1.symm
  refine hb_icmp_lt (zx := 2) (zy := x_1.toInt) (tgt := 16) hx hb (by decide) rfl dX5_tryFrom_5 (by decide) (fun c_2 => ?_) (fun c_2 => ?_)
  · skip
    refine lv_aload_n hx hb dX5_tryFrom_16 rfl (lv_at hl 0 rfl) ?_
    refine lv_iload_n hx hb dX5_tryFrom_17 rfl (lv_at hl 1 rfl) ?_
    refine lv_iconst (v := 1) hx hb dX5_tryFrom_18 (by decide) ?_
    refine lv_iadd hx hb dX5_tryFrom_19 ?_
    refine lv_topi (fun x_3 ex_3 => ?_)
    obtain rfl : x_3 = (3 : Int32) := ex_3.trans (by decide)
    refine hx_goi (hx_runV (As := [.int (3 : Int32)]) (rest := []) ⟨hx, hb, hml, hown, hts⟩ hW gx tt_5 (T := TX5) (N := 13) rfl (t_X5_leastFrom l dC dI dA L h s.heap.size x (3 : Int32) hT gx (by decide)) (cwV 1 hts (hx_gV kw_964 kw_961 kw_963 kw_33 kw_100) rfl rfl rfl (by decide +kernel) ⟨Nat.le_of_ble_eq_true rfl, Nat.le_of_ble_eq_true rfl⟩) rfl hl.1 rfl (Nat.le_of_ble_eq_true rfl) dX5_tryFrom_20 ⟨Nat.le_of_ble_eq_true rfl, Nat.le_of_ble_eq_true rfl⟩) hW (fun r_6 L_4 h_5 H locs p_7 hW => ?_)
    obtain ⟨hr_8, hT, hs⟩ := p_7
    replace hT : hx_T T_tb L_4 h_5 := hT
    replace hs : hx_S T_tb [] L h L_4 h_5 := hs
    replace fx_1 := (hs.o gx trivial rfl).1.trans fx_1
    replace hM := hM.tr (hs.mono (by decide))
    replace gx := gx.S hs
    refine lv_istore (lv' := [(5, .int r_6), (0, .ref x), (1, .int (2 : Int32)), (2, .int i2), (3, .int i3), (4, .int i4)]) hx hb dX5_tryFrom_23 hl (by decide) rfl (fun ls hl => ?_)
    refine lv_iconst (v := 0) hx hb dX5_tryFrom_25 (by decide) ?_
    refine lv_istore (lv' := [(6, .int (0 : Int32)), (5, .int r_6), (0, .ref x), (1, .int (2 : Int32)), (2, .int i2), (3, .int i3), (4, .int i4)]) hx hb dX5_tryFrom_26 hl (by decide) rfl (fun ls hl => ?_)
    have loop28 : ∀ (n28 : Nat) (iv28_6 : Int32) (H : Heap) (locs : List Loc) (hL1 : List Nat) (hl1 : hx_h) (ls : Array Slot), 0 ≤ iv28_6.toInt → iv28_6.toInt ≤ 13 → 13 < iv28_6.toInt + n28 → hx_W T_tb (P_ty dA) (dC, dI) vwCl (hx_A L sz) s.heap hL1 hl1 s H locs → hx_T T_tb hL1 hl1 → hx_S T_tb [(5, 11), (5, 12), (28, 0), (33, 0)] L h hL1 hl1 → hl1.2.1 x 0 = x_1 → hx_g hL1 hl1 x 5 → lv_has ls 9 [(6, .int iv28_6), (5, .int r_6), (0, .ref x), (1, .int (2 : Int32)), (2, .int i2), (3, .int i3), (4, .int i4)] → W p l e ({ frames := 4, cells := 0, slots := 0, locals := 118 }) s m ([.ref x, .int (2 : Int32), .int i2, .int i3, .int i4] : List Value).toArray below meth c H locs 0 0 (MQ below (va_Qv (fun (u : List Nat × hx_h) => hx_T T_tb u.1 u.2 ∧ hx_S T_tb [(5, 11), (5, 12), (28, 0), (33, 0)] L h u.1 u.2) (hx_E T_tb (P_ty dA) (dC, dI) vwCl (hx_A L sz)) (hx_A L sz)) ([.ref x, .int (2 : Int32), .int i2, .int i3, .int i4] : List Value).toArray s 0 0 (hx_A L sz)) (F0 m 28 ls []) := by
      intro n28
      induction n28 with
      | zero => intro iv28_6 H locs hL1 hl1 ls bl28_6 bu28_6 hn28; exfalso; omega
      | succ n28 ih28 =>
        intro iv28_6 H locs hL1 hl1 ls bl28_6 bu28_6 hn28 hW hT hM fx_1 gx  hl
        refine lv_iload hx hb dX5_tryFrom_28 (lv_at hl 0 rfl) ?_
        refine lv_bipush (v := 12) hx hb dX5_tryFrom_30 (by decide) ?_
        refine hb_icmp_gt (zx := iv28_6.toInt) (zy := 12) (tgt := 124) hx hb rfl (by decide) dX5_tryFrom_32 (by decide) (fun c_9 => ?_) (fun c_9 => ?_)
        · skip
          exact hx_retv hx hb hr hlk hW ⟨hT, hM⟩ dX5_tryFrom_124
        · skip
          refine lv_aload_n hx hb dX5_tryFrom_35 rfl (lv_at hl 2 rfl) ?_
          refine hx_getn hx hb hts hC_5 hown hW hT gx tt_5 7 (by decide) rfl kw_270 ⟨rfl, rfl, rfl⟩ dX5_tryFrom_36 (fun q_10 fq_10 gq_10 => ?_)
          refine lv_iload_n hx hb dX5_tryFrom_39 rfl (lv_at hl 3 rfl) ?_
          refine hx_iald hx hb hW hT gq_10 tt_32 rfl (by decide) dX5_tryFrom_40 (fun x_11 ex_11 lx_11 ux_11 => ?_)
          refine lv_iload hx hb dX5_tryFrom_41 (lv_at hl 0 rfl) ?_
          refine lv_aload_n hx hb dX5_tryFrom_43 rfl (lv_at hl 2 rfl) ?_
          refine hx_geti hx hb hts hC_5 hown hW hT gx tt_5 9 (by decide) rfl kw_272 ⟨rfl, rfl, rfl⟩ dX5_tryFrom_44 (fun x_12 ex_12 lx_12 ux_12 => ?_)
          have fx_12 := ex_12.symm
          refine lv_imul hx hb dX5_tryFrom_47 ?_
          refine lv_topi (fun x_13 ex_13 => ?_)
          refine lv_iadd hx hb dX5_tryFrom_48 ?_
          have rg_14 := i32_r x_11
          have rg_15 := i32_r x_13
          refine lv_topi (fun x_16 ex_16 => ?_)
          refine lv_istore (lv' := [(7, .int x_16), (6, .int iv28_6), (5, .int r_6), (0, .ref x), (1, .int (2 : Int32)), (2, .int i2), (3, .int i3), (4, .int i4)]) hx hb dX5_tryFrom_49 hl (by decide) rfl (fun ls hl => ?_)
          refine lv_iload_n hx hb dX5_tryFrom_51 rfl (lv_at hl 5 rfl) ?_
          refine lv_iload hx hb dX5_tryFrom_52 (lv_at hl 0 rfl) ?_
          refine lv_iadd hx hb dX5_tryFrom_54 ?_
          have rg_17 := i32_r i2
          have rg_18 := i32_r x_16
          refine lv_topi (fun x_19 ex_19 => ?_)
          refine lv_iload hx hb dX5_tryFrom_55 (lv_at hl 2 rfl) ?_
          refine lv_iadd hx hb dX5_tryFrom_57 ?_
          have rg_20 := i32_r x_19
          have rg_21 := i32_r r_6
          refine lv_topi (fun x_22 ex_22 => ?_)
          refine lv_aload_n hx hb dX5_tryFrom_58 rfl (lv_at hl 3 rfl) ?_
          refine hx_geti hx hb hts hC_5 hown hW hT gx tt_5 10 (by decide) rfl kw_273 ⟨rfl, rfl, rfl⟩ dX5_tryFrom_59 (fun x_23 ex_23 lx_23 ux_23 => ?_)
          have fx_23 := ex_23.symm
          refine hb_icmp_le (zx := x_22.toInt) (zy := x_23.toInt) (tgt := 66) hx hb rfl rfl dX5_tryFrom_62 (by decide) (fun c_24 => ?_) (fun c_24 => ?_)
          · skip
            refine lv_aload_n hx hb dX5_tryFrom_66 rfl (lv_at hl 3 rfl) ?_
            refine hx_getn hx hb hts hC_5 hown hW hT gx tt_5 6 (by decide) rfl kw_269 ⟨rfl, rfl, rfl⟩ dX5_tryFrom_67 (fun q_25 fq_25 gq_25 => ?_)
            refine lv_iload_n hx hb dX5_tryFrom_70 rfl (lv_at hl 4 rfl) ?_
            refine hx_iald hx hb hW hT gq_25 tt_31 rfl (by decide) dX5_tryFrom_71 (fun x_26 ex_26 lx_26 ux_26 => ?_)
            refine lv_iload hx hb dX5_tryFrom_72 (lv_at hl 0 rfl) ?_
            refine hx_goi (hx_runSN (As := [.int x_26, .int x_16]) (rest := []) ⟨hx, hb, hml, hown, hts⟩ hW (t_X9_roundUp l dC dI dA hL1 hl1 H.size x_26 x_16 hT) ⟨va_cnB 2 hts (hx_gC kw_921) rfl rfl rfl (hZ.1 _ (List.mem_of_getElem? (i := 10) rfl)) (hts _ kw_94) (by decide +kernel) ⟨Nat.le_of_ble_eq_true rfl, Nat.le_of_ble_eq_true rfl⟩, hts _ kw_920, trivial⟩ rfl hl.1 rfl (Nat.le_of_ble_eq_true rfl) dX5_tryFrom_74 ⟨Nat.le_of_ble_eq_true rfl, Nat.le_of_ble_eq_true rfl⟩) hW (fun r_29 L_27 h_28 H locs p_30 hW => ?_)
            obtain ⟨hr_31, hT, hs⟩ := p_30
            replace hT : hx_T T_tb L_27 h_28 := hT
            replace hs : hx_S T_tb [] hL1 hl1 L_27 h_28 := hs
            replace fx_1 := (hs.o gx trivial rfl).1.trans fx_1
            replace fq_10 := (hs.o gx trivial rfl).2.trans fq_10
            replace fx_12 := (hs.o gx trivial rfl).1.trans fx_12
            replace fx_23 := (hs.o gx trivial rfl).1.trans fx_23
            replace fq_25 := (hs.o gx trivial rfl).2.trans fq_25
            replace hM := hM.tr (hs.mono (by decide))
            replace gx := gx.S hs
            replace gq_10 := gq_10.S hs
            replace gq_25 := gq_25.S hs
            refine lv_istore (lv' := [(8, .int r_29), (7, .int x_16), (6, .int iv28_6), (5, .int r_6), (0, .ref x), (1, .int (2 : Int32)), (2, .int i2), (3, .int i3), (4, .int i4)]) hx hb dX5_tryFrom_77 hl (by decide) rfl (fun ls hl => ?_)
            refine lv_aload_n hx hb dX5_tryFrom_79 rfl (lv_at hl 4 rfl) ?_
            refine hx_getn hx hb hts hC_5 hown hW hT gx tt_5 8 (by decide) rfl kw_271 ⟨rfl, rfl, rfl⟩ dX5_tryFrom_80 (fun q_32 fq_32 gq_32 => ?_)
            refine lv_iload_n hx hb dX5_tryFrom_83 rfl (lv_at hl 5 rfl) ?_
            refine lv_iload hx hb dX5_tryFrom_84 (lv_at hl 1 rfl) ?_
            refine hx_iast hx hb hW hT (hx_S.rf (M := [(33, 0)])) gq_32 tt_33 rfl (by decide) rfl (i32_r _) (List.mem_singleton.mpr rfl) dX5_tryFrom_86 (fun H locs h_33 eh_33 hW hT hs => ?_)
            replace fx_1 := (hs.o gx trivial rfl).1.trans fx_1
            replace fq_10 := (hs.o gx trivial rfl).2.trans fq_10
            replace fx_12 := (hs.o gx trivial rfl).1.trans fx_12
            replace fx_23 := (hs.o gx trivial rfl).1.trans fx_23
            replace fq_25 := (hs.o gx trivial rfl).2.trans fq_25
            replace fq_32 := (hs.o gx trivial rfl).2.trans fq_32
            replace hM := hM.tr (hs.mono (by decide))
            replace gx := gx.S hs
            replace gq_10 := gq_10.S hs
            replace gq_25 := gq_25.S hs
            replace gq_32 := gq_32.S hs
            refine lv_iload hx hb dX5_tryFrom_87 (lv_at hl 0 rfl) ?_
            refine lv_aload_n hx hb dX5_tryFrom_89 rfl (lv_at hl 4 rfl) ?_
            refine hx_geti hx hb hts hC_5 hown hW hT gx tt_5 11 (by decide) rfl kw_274 ⟨rfl, rfl, rfl⟩ dX5_tryFrom_90 (fun x_34 ex_34 lx_34 ux_34 => ?_)
            have fx_34 := ex_34.symm
            refine hb_icmp_gt (zx := r_29.toInt) (zy := x_34.toInt) (tgt := 118) hx hb rfl rfl dX5_tryFrom_93 (by decide) (fun c_35 => ?_) (fun c_35 => ?_)
            · skip
              obtain ⟨x_36, ex_36⟩ : ∃ y : Int32, y = iv28_6 + Int32.ofInt 1 := ⟨_, rfl⟩
              have rg_37 := i32_r iv28_6
              have zx_36 : x_36.toInt = iv28_6.toInt + (1) := by rw [ex_36]; exact i32_add rfl (by decide) (by omega) (by omega)
              refine lv_iinc (v := x_36) (lv' := [(6, .int x_36), (8, .int r_29), (7, .int x_16), (5, .int r_6), (0, .ref x), (1, .int (2 : Int32)), (2, .int i2), (3, .int i3), (4, .int i4)]) hx hb dX5_tryFrom_118 hl (k := 2) rfl ex_36.symm (by decide) rfl (fun ls hl => ?_)
              refine lv_goto (tgt := 28) hx hb dX5_tryFrom_121 (by decide) ?_
              exact ih28 x_36 _ _ L_27 h_33 ls (by omega) (by omega) (by omega) hW hT hM fx_1 gx  (lv_sub hl [0, 3, 4, 5, 6, 7, 8] rfl)
            · skip
              refine lv_aload_n hx hb dX5_tryFrom_96 rfl (lv_at hl 4 rfl) ?_
              refine lv_iload_n hx hb dX5_tryFrom_97 rfl (lv_at hl 5 rfl) ?_
              refine lv_iconst (v := 1) hx hb dX5_tryFrom_98 (by decide) ?_
              refine lv_iadd hx hb dX5_tryFrom_99 ?_
              refine lv_topi (fun x_38 ex_38 => ?_)
              obtain rfl : x_38 = (3 : Int32) := ex_38.trans (by decide)
              refine lv_iload_n hx hb dX5_tryFrom_100 rfl (lv_at hl 6 rfl) ?_
              refine lv_iload hx hb dX5_tryFrom_101 (lv_at hl 1 rfl) ?_
              refine lv_iadd hx hb dX5_tryFrom_103 ?_
              refine lv_topi (fun x_39 ex_39 => ?_)
              refine lv_iload_n hx hb dX5_tryFrom_104 rfl (lv_at hl 7 rfl) ?_
              refine lv_iload hx hb dX5_tryFrom_105 (lv_at hl 0 rfl) ?_
              refine va_mmax hx hb (hml.trans hl.1.symm) hown (hts _ kw_976) (hts _ kw_882) (hts _ kw_109) (hts _ kw_883) (Nat.le_of_ble_eq_true rfl) (Nat.le_of_ble_eq_true rfl) (Nat.le_of_ble_eq_true rfl) (Nat.le_of_ble_eq_true rfl) dX5_tryFrom_107 ?_
              refine lv_topi (fun x_40 ex_40 => ?_)
              refine lv_iload hx hb dX5_tryFrom_110 (lv_at hl 8 rfl) ?_
              refine lv_iload hx hb dX5_tryFrom_112 (lv_at hl 0 rfl) ?_
              refine lv_iadd hx hb dX5_tryFrom_114 ?_
              have rg_41 := i32_r i4
              have rg_42 := i32_r r_29
              refine lv_topi (fun x_43 ex_43 => ?_)
              refine hx_gov (hx_runVX (As := [.int (3 : Int32), .int x_39, .int x_40, .int x_43]) (rest := []) ⟨hx, hb, hml, hown, hts⟩ hW gx tt_5 (T := TX5) (N := 13) rfl (t_X5_tryFrom_3 l dC dI dA L_27 h_33 H.size b0 x x_39 x_40 x_43 hT gx) hZ (cwV 4 hts (hx_gV kw_969 kw_966 kw_968 kw_34 kw_100) rfl rfl rfl (by decide +kernel) ⟨Nat.le_of_ble_eq_true rfl, Nat.le_of_ble_eq_true rfl⟩) rfl hl.1 rfl (Nat.le_of_ble_eq_true rfl) dX5_tryFrom_115 ⟨Nat.le_of_ble_eq_true rfl, Nat.le_of_ble_eq_true rfl⟩) hW (fun L_44 h_45 H locs p_47 hW => ?_)
              obtain ⟨hT, hs⟩ := p_47
              replace hT : hx_T T_tb L_44 h_45 := hT
              replace hs : hx_S T_tb [(5, 11), (5, 12), (28, 0), (33, 0)] L_27 h_33 L_44 h_45 := hs
              replace fx_1 := (hs.o gx trivial rfl).1.trans fx_1
              replace fq_10 := (hs.o gx trivial rfl).2.trans fq_10
              replace fx_12 := (hs.o gx trivial rfl).1.trans fx_12
              replace fx_23 := (hs.o gx trivial rfl).1.trans fx_23
              replace fq_25 := (hs.o gx trivial rfl).2.trans fq_25
              replace fq_32 := (hs.o gx trivial rfl).2.trans fq_32
              replace hM := hM.tr (hs.mono (by decide))
              replace gx := gx.S hs
              replace gq_10 := gq_10.S hs
              replace gq_25 := gq_25.S hs
              replace gq_32 := gq_32.S hs
              obtain ⟨x_49, ex_49⟩ : ∃ y : Int32, y = iv28_6 + Int32.ofInt 1 := ⟨_, rfl⟩
              have rg_50 := i32_r iv28_6
              have zx_49 : x_49.toInt = iv28_6.toInt + (1) := by rw [ex_49]; exact i32_add rfl (by decide) (by omega) (by omega)
              refine lv_iinc (v := x_49) (lv' := [(6, .int x_49), (8, .int r_29), (7, .int x_16), (5, .int r_6), (0, .ref x), (1, .int (2 : Int32)), (2, .int i2), (3, .int i3), (4, .int i4)]) hx hb dX5_tryFrom_118 hl (k := 2) rfl ex_49.symm (by decide) rfl (fun ls hl => ?_)
              refine lv_goto (tgt := 28) hx hb dX5_tryFrom_121 (by decide) ?_
              exact ih28 x_49 _ _ L_44 h_45 ls (by omega) (by omega) (by omega) hW hT hM fx_1 gx  (lv_sub hl [0, 3, 4, 5, 6, 7, 8] rfl)
          · skip
            exact hx_retv hx hb hr hlk hW ⟨hT, hM⟩ dX5_tryFrom_65
    exact loop28 14 (0 : Int32) _ _ L_4 h_5 ls (by decide) (by decide) (by decide) hW hT hM fx_1 gx  hl
  · skip
    refine lv_aload_n hx hb dX5_tryFrom_8 rfl (lv_at hl 0 rfl) ?_
    refine lv_iload_n hx hb dX5_tryFrom_9 rfl (lv_at hl 3 rfl) ?_
    refine lv_iload hx hb dX5_tryFrom_10 (lv_at hl 4 rfl) ?_
    refine hx_gov (hx_runV (As := [.int i3, .int i4]) (rest := []) ⟨hx, hb, hml, hown, hts⟩ hW gx tt_5 (T := TX5) (N := 13) rfl (t_X5_keepIfBetter l dC dI dA L h s.heap.size x i3 i4 hT gx) (cwV 2 hts (hx_gV kw_973 kw_970 kw_972 kw_35 kw_100) rfl rfl rfl (by decide +kernel) ⟨Nat.le_of_ble_eq_true rfl, Nat.le_of_ble_eq_true rfl⟩) rfl hl.1 rfl (Nat.le_of_ble_eq_true rfl) dX5_tryFrom_12 ⟨Nat.le_of_ble_eq_true rfl, Nat.le_of_ble_eq_true rfl⟩) hW (fun L_51 h_52 H locs p_54 hW => ?_)
    obtain ⟨hT, hs⟩ := p_54
    replace hT : hx_T T_tb L_51 h_52 := hT
    replace hs : hx_S T_tb [(5, 11), (5, 12), (28, 0)] L h L_51 h_52 := hs
    replace fx_1 := (hs.o gx trivial rfl).1.trans fx_1
    replace hM := hM.tr (hs.mono (by decide))
    replace gx := gx.S hs
    exact hx_retv hx hb hr hlk hW ⟨hT, hM⟩ dX5_tryFrom_15


set_option maxHeartbeats 4000000 in
set_option maxRecDepth 100000 in
theorem t_X5_tryFrom_1 (l : Launch) (dC : Nat → ClassId) (dI : Nat → Nat → Nat) (dA : Nat → ClassId) (L : List Nat) (h : hx_h) (sz : Nat) (b0 : hx_z) (x : Nat) (i2 : Int32) (i3 : Int32) (i4 : Int32) (hT : hx_T T_tb L h) (gx : hx_g L h x 5)  : Met l yX5_tryFrom (Cond.code yX5_tryFrom cX5_tryFrom 9 none :: hx_all) ({ frames := 5, cells := 0, slots := 0, locals := 146 }) (va_Pc [.ref x, .int (1 : Int32), .int i2, .int i3, .int i4] (hx_BX T_tb (P_ty dA) (dC, dI) vwCl L h sz b0)) (va_Qv (fun (u : List Nat × hx_h) => hx_T T_tb u.1 u.2 ∧ hx_S T_tb [(5, 11), (5, 12), (28, 0), (33, 0)] L h u.1 u.2) (hx_E T_tb (P_ty dA) (dC, dI) vwCl (hx_A L sz)) (hx_A L sz)) 0 0 (hx_A L sz) := by
  refine hx_metX (lv := [(0, .ref x), (1, .int (1 : Int32)), (2, .int i2), (3, .int i3), (4, .int i4)]) (by decide +kernel) rfl (Nat.le_of_ble_eq_true rfl) rfl ?_
  intro p e s m below meth c hx hb hml hr hlk hts0 hown hin hsz hW hZ ls hl
  have hts : ∀ w ∈ hx_all, w.before _ s = true := fun w hw => hts0 w (List.mem_cons_of_mem _ hw)
  have hown : s.vm.findClass "SmallCourt$Plan" = some m.cls := hown
  have hM : hx_S T_tb [(5, 11), (5, 12), (28, 0), (33, 0)] L h L h := hx_S.rf
  refine lv_iload_n hx hb dX5_tryFrom_0 rfl (lv_at hl 1 rfl) ?_
  refine lv_aload_n hx hb dX5_tryFrom_1 rfl (lv_at hl 0 rfl) ?_
  refine hx_geti hx hb hts hC_5 hown hW hT gx tt_5 0 (by decide) rfl kw_258 ⟨rfl, rfl, rfl⟩ dX5_tryFrom_2 (fun x_1 ex_1 lx_1 ux_1 => ?_)
  have fx_1 := ex_1.symm
  refine hb_icmp_lt (zx := 1) (zy := x_1.toInt) (tgt := 16) hx hb (by decide) rfl dX5_tryFrom_5 (by decide) (fun c_2 => ?_) (fun c_2 => ?_)
  · skip
    refine lv_aload_n hx hb dX5_tryFrom_16 rfl (lv_at hl 0 rfl) ?_
    refine lv_iload_n hx hb dX5_tryFrom_17 rfl (lv_at hl 1 rfl) ?_
    refine lv_iconst (v := 1) hx hb dX5_tryFrom_18 (by decide) ?_
    refine lv_iadd hx hb dX5_tryFrom_19 ?_
    refine lv_topi (fun x_3 ex_3 => ?_)
    obtain rfl : x_3 = (2 : Int32) := ex_3.trans (by decide)
    refine hx_goi (hx_runV (As := [.int (2 : Int32)]) (rest := []) ⟨hx, hb, hml, hown, hts⟩ hW gx tt_5 (T := TX5) (N := 13) rfl (t_X5_leastFrom l dC dI dA L h s.heap.size x (2 : Int32) hT gx (by decide)) (cwV 1 hts (hx_gV kw_964 kw_961 kw_963 kw_33 kw_100) rfl rfl rfl (by decide +kernel) ⟨Nat.le_of_ble_eq_true rfl, Nat.le_of_ble_eq_true rfl⟩) rfl hl.1 rfl (Nat.le_of_ble_eq_true rfl) dX5_tryFrom_20 ⟨Nat.le_of_ble_eq_true rfl, Nat.le_of_ble_eq_true rfl⟩) hW (fun r_6 L_4 h_5 H locs p_7 hW => ?_)
    obtain ⟨hr_8, hT, hs⟩ := p_7
    replace hT : hx_T T_tb L_4 h_5 := hT
    replace hs : hx_S T_tb [] L h L_4 h_5 := hs
    replace fx_1 := (hs.o gx trivial rfl).1.trans fx_1
    replace hM := hM.tr (hs.mono (by decide))
    replace gx := gx.S hs
    refine lv_istore (lv' := [(5, .int r_6), (0, .ref x), (1, .int (1 : Int32)), (2, .int i2), (3, .int i3), (4, .int i4)]) hx hb dX5_tryFrom_23 hl (by decide) rfl (fun ls hl => ?_)
    refine lv_iconst (v := 0) hx hb dX5_tryFrom_25 (by decide) ?_
    refine lv_istore (lv' := [(6, .int (0 : Int32)), (5, .int r_6), (0, .ref x), (1, .int (1 : Int32)), (2, .int i2), (3, .int i3), (4, .int i4)]) hx hb dX5_tryFrom_26 hl (by decide) rfl (fun ls hl => ?_)
    have loop28 : ∀ (n28 : Nat) (iv28_6 : Int32) (H : Heap) (locs : List Loc) (hL1 : List Nat) (hl1 : hx_h) (ls : Array Slot), 0 ≤ iv28_6.toInt → iv28_6.toInt ≤ 13 → 13 < iv28_6.toInt + n28 → hx_W T_tb (P_ty dA) (dC, dI) vwCl (hx_A L sz) s.heap hL1 hl1 s H locs → hx_T T_tb hL1 hl1 → hx_S T_tb [(5, 11), (5, 12), (28, 0), (33, 0)] L h hL1 hl1 → hl1.2.1 x 0 = x_1 → hx_g hL1 hl1 x 5 → lv_has ls 9 [(6, .int iv28_6), (5, .int r_6), (0, .ref x), (1, .int (1 : Int32)), (2, .int i2), (3, .int i3), (4, .int i4)] → W p l e ({ frames := 5, cells := 0, slots := 0, locals := 146 }) s m ([.ref x, .int (1 : Int32), .int i2, .int i3, .int i4] : List Value).toArray below meth c H locs 0 0 (MQ below (va_Qv (fun (u : List Nat × hx_h) => hx_T T_tb u.1 u.2 ∧ hx_S T_tb [(5, 11), (5, 12), (28, 0), (33, 0)] L h u.1 u.2) (hx_E T_tb (P_ty dA) (dC, dI) vwCl (hx_A L sz)) (hx_A L sz)) ([.ref x, .int (1 : Int32), .int i2, .int i3, .int i4] : List Value).toArray s 0 0 (hx_A L sz)) (F0 m 28 ls []) := by
      intro n28
      induction n28 with
      | zero => intro iv28_6 H locs hL1 hl1 ls bl28_6 bu28_6 hn28; exfalso; omega
      | succ n28 ih28 =>
        intro iv28_6 H locs hL1 hl1 ls bl28_6 bu28_6 hn28 hW hT hM fx_1 gx  hl
        refine lv_iload hx hb dX5_tryFrom_28 (lv_at hl 0 rfl) ?_
        refine lv_bipush (v := 12) hx hb dX5_tryFrom_30 (by decide) ?_
        refine hb_icmp_gt (zx := iv28_6.toInt) (zy := 12) (tgt := 124) hx hb rfl (by decide) dX5_tryFrom_32 (by decide) (fun c_9 => ?_) (fun c_9 => ?_)
        · skip
          exact hx_retv hx hb hr hlk hW ⟨hT, hM⟩ dX5_tryFrom_124
        · skip
          refine lv_aload_n hx hb dX5_tryFrom_35 rfl (lv_at hl 2 rfl) ?_
          refine hx_getn hx hb hts hC_5 hown hW hT gx tt_5 7 (by decide) rfl kw_270 ⟨rfl, rfl, rfl⟩ dX5_tryFrom_36 (fun q_10 fq_10 gq_10 => ?_)
          refine lv_iload_n hx hb dX5_tryFrom_39 rfl (lv_at hl 3 rfl) ?_
          refine hx_iald hx hb hW hT gq_10 tt_32 rfl (by decide) dX5_tryFrom_40 (fun x_11 ex_11 lx_11 ux_11 => ?_)
          refine lv_iload hx hb dX5_tryFrom_41 (lv_at hl 0 rfl) ?_
          refine lv_aload_n hx hb dX5_tryFrom_43 rfl (lv_at hl 2 rfl) ?_
          refine hx_geti hx hb hts hC_5 hown hW hT gx tt_5 9 (by decide) rfl kw_272 ⟨rfl, rfl, rfl⟩ dX5_tryFrom_44 (fun x_12 ex_12 lx_12 ux_12 => ?_)
          have fx_12 := ex_12.symm
          refine lv_imul hx hb dX5_tryFrom_47 ?_
          refine lv_topi (fun x_13 ex_13 => ?_)
          refine lv_iadd hx hb dX5_tryFrom_48 ?_
          have rg_14 := i32_r x_11
          have rg_15 := i32_r x_13
          refine lv_topi (fun x_16 ex_16 => ?_)
          refine lv_istore (lv' := [(7, .int x_16), (6, .int iv28_6), (5, .int r_6), (0, .ref x), (1, .int (1 : Int32)), (2, .int i2), (3, .int i3), (4, .int i4)]) hx hb dX5_tryFrom_49 hl (by decide) rfl (fun ls hl => ?_)
          refine lv_iload_n hx hb dX5_tryFrom_51 rfl (lv_at hl 5 rfl) ?_
          refine lv_iload hx hb dX5_tryFrom_52 (lv_at hl 0 rfl) ?_
          refine lv_iadd hx hb dX5_tryFrom_54 ?_
          have rg_17 := i32_r i2
          have rg_18 := i32_r x_16
          refine lv_topi (fun x_19 ex_19 => ?_)
          refine lv_iload hx hb dX5_tryFrom_55 (lv_at hl 2 rfl) ?_
          refine lv_iadd hx hb dX5_tryFrom_57 ?_
          have rg_20 := i32_r x_19
          have rg_21 := i32_r r_6
          refine lv_topi (fun x_22 ex_22 => ?_)
          refine lv_aload_n hx hb dX5_tryFrom_58 rfl (lv_at hl 3 rfl) ?_
          refine hx_geti hx hb hts hC_5 hown hW hT gx tt_5 10 (by decide) rfl kw_273 ⟨rfl, rfl, rfl⟩ dX5_tryFrom_59 (fun x_23 ex_23 lx_23 ux_23 => ?_)
          have fx_23 := ex_23.symm
          refine hb_icmp_le (zx := x_22.toInt) (zy := x_23.toInt) (tgt := 66) hx hb rfl rfl dX5_tryFrom_62 (by decide) (fun c_24 => ?_) (fun c_24 => ?_)
          · skip
            refine lv_aload_n hx hb dX5_tryFrom_66 rfl (lv_at hl 3 rfl) ?_
            refine hx_getn hx hb hts hC_5 hown hW hT gx tt_5 6 (by decide) rfl kw_269 ⟨rfl, rfl, rfl⟩ dX5_tryFrom_67 (fun q_25 fq_25 gq_25 => ?_)
            refine lv_iload_n hx hb dX5_tryFrom_70 rfl (lv_at hl 4 rfl) ?_
            refine hx_iald hx hb hW hT gq_25 tt_31 rfl (by decide) dX5_tryFrom_71 (fun x_26 ex_26 lx_26 ux_26 => ?_)
            refine lv_iload hx hb dX5_tryFrom_72 (lv_at hl 0 rfl) ?_
            refine hx_goi (hx_runSN (As := [.int x_26, .int x_16]) (rest := []) ⟨hx, hb, hml, hown, hts⟩ hW (t_X9_roundUp l dC dI dA hL1 hl1 H.size x_26 x_16 hT) ⟨va_cnB 2 hts (hx_gC kw_921) rfl rfl rfl (hZ.1 _ (List.mem_of_getElem? (i := 10) rfl)) (hts _ kw_94) (by decide +kernel) ⟨Nat.le_of_ble_eq_true rfl, Nat.le_of_ble_eq_true rfl⟩, hts _ kw_920, trivial⟩ rfl hl.1 rfl (Nat.le_of_ble_eq_true rfl) dX5_tryFrom_74 ⟨Nat.le_of_ble_eq_true rfl, Nat.le_of_ble_eq_true rfl⟩) hW (fun r_29 L_27 h_28 H locs p_30 hW => ?_)
            obtain ⟨hr_31, hT, hs⟩ := p_30
            replace hT : hx_T T_tb L_27 h_28 := hT
            replace hs : hx_S T_tb [] hL1 hl1 L_27 h_28 := hs
            replace fx_1 := (hs.o gx trivial rfl).1.trans fx_1
            replace fq_10 := (hs.o gx trivial rfl).2.trans fq_10
            replace fx_12 := (hs.o gx trivial rfl).1.trans fx_12
            replace fx_23 := (hs.o gx trivial rfl).1.trans fx_23
            replace fq_25 := (hs.o gx trivial rfl).2.trans fq_25
            replace hM := hM.tr (hs.mono (by decide))
            replace gx := gx.S hs
            replace gq_10 := gq_10.S hs
            replace gq_25 := gq_25.S hs
            refine lv_istore (lv' := [(8, .int r_29), (7, .int x_16), (6, .int iv28_6), (5, .int r_6), (0, .ref x), (1, .int (1 : Int32)), (2, .int i2), (3, .int i3), (4, .int i4)]) hx hb dX5_tryFrom_77 hl (by decide) rfl (fun ls hl => ?_)
            refine lv_aload_n hx hb dX5_tryFrom_79 rfl (lv_at hl 4 rfl) ?_
            refine hx_getn hx hb hts hC_5 hown hW hT gx tt_5 8 (by decide) rfl kw_271 ⟨rfl, rfl, rfl⟩ dX5_tryFrom_80 (fun q_32 fq_32 gq_32 => ?_)
            refine lv_iload_n hx hb dX5_tryFrom_83 rfl (lv_at hl 5 rfl) ?_
            refine lv_iload hx hb dX5_tryFrom_84 (lv_at hl 1 rfl) ?_
            refine hx_iast hx hb hW hT (hx_S.rf (M := [(33, 0)])) gq_32 tt_33 rfl (by decide) rfl (i32_r _) (List.mem_singleton.mpr rfl) dX5_tryFrom_86 (fun H locs h_33 eh_33 hW hT hs => ?_)
            replace fx_1 := (hs.o gx trivial rfl).1.trans fx_1
            replace fq_10 := (hs.o gx trivial rfl).2.trans fq_10
            replace fx_12 := (hs.o gx trivial rfl).1.trans fx_12
            replace fx_23 := (hs.o gx trivial rfl).1.trans fx_23
            replace fq_25 := (hs.o gx trivial rfl).2.trans fq_25
            replace fq_32 := (hs.o gx trivial rfl).2.trans fq_32
            replace hM := hM.tr (hs.mono (by decide))
            replace gx := gx.S hs
            replace gq_10 := gq_10.S hs
            replace gq_25 := gq_25.S hs
            replace gq_32 := gq_32.S hs
            refine lv_iload hx hb dX5_tryFrom_87 (lv_at hl 0 rfl) ?_
            refine lv_aload_n hx hb dX5_tryFrom_89 rfl (lv_at hl 4 rfl) ?_
            refine hx_geti hx hb hts hC_5 hown hW hT gx tt_5 11 (by decide) rfl kw_274 ⟨rfl, rfl, rfl⟩ dX5_tryFrom_90 (fun x_34 ex_34 lx_34 ux_34 => ?_)
            have fx_34 := ex_34.symm
            refine hb_icmp_gt (zx := r_29.toInt) (zy := x_34.toInt) (tgt := 118) hx hb rfl rfl dX5_tryFrom_93 (by decide) (fun c_35 => ?_) (fun c_35 => ?_)
            · skip
              obtain ⟨x_36, ex_36⟩ : ∃ y : Int32, y = iv28_6 + Int32.ofInt 1 := ⟨_, rfl⟩
              have rg_37 := i32_r iv28_6
              have zx_36 : x_36.toInt = iv28_6.toInt + (1) := by rw [ex_36]; exact i32_add rfl (by decide) (by omega) (by omega)
              refine lv_iinc (v := x_36) (lv' := [(6, .int x_36), (8, .int r_29), (7, .int x_16), (5, .int r_6), (0, .ref x), (1, .int (1 : Int32)), (2, .int i2), (3, .int i3), (4, .int i4)]) hx hb dX5_tryFrom_118 hl (k := 2) rfl ex_36.symm (by decide) rfl (fun ls hl => ?_)
              refine lv_goto (tgt := 28) hx hb dX5_tryFrom_121 (by decide) ?_
              exact ih28 x_36 _ _ L_27 h_33 ls (by omega) (by omega) (by omega) hW hT hM fx_1 gx  (lv_sub hl [0, 3, 4, 5, 6, 7, 8] rfl)
            · skip
              refine lv_aload_n hx hb dX5_tryFrom_96 rfl (lv_at hl 4 rfl) ?_
              refine lv_iload_n hx hb dX5_tryFrom_97 rfl (lv_at hl 5 rfl) ?_
              refine lv_iconst (v := 1) hx hb dX5_tryFrom_98 (by decide) ?_
              refine lv_iadd hx hb dX5_tryFrom_99 ?_
              refine lv_topi (fun x_38 ex_38 => ?_)
              obtain rfl : x_38 = (2 : Int32) := ex_38.trans (by decide)
              refine lv_iload_n hx hb dX5_tryFrom_100 rfl (lv_at hl 6 rfl) ?_
              refine lv_iload hx hb dX5_tryFrom_101 (lv_at hl 1 rfl) ?_
              refine lv_iadd hx hb dX5_tryFrom_103 ?_
              refine lv_topi (fun x_39 ex_39 => ?_)
              refine lv_iload_n hx hb dX5_tryFrom_104 rfl (lv_at hl 7 rfl) ?_
              refine lv_iload hx hb dX5_tryFrom_105 (lv_at hl 0 rfl) ?_
              refine va_mmax hx hb (hml.trans hl.1.symm) hown (hts _ kw_976) (hts _ kw_882) (hts _ kw_109) (hts _ kw_883) (Nat.le_of_ble_eq_true rfl) (Nat.le_of_ble_eq_true rfl) (Nat.le_of_ble_eq_true rfl) (Nat.le_of_ble_eq_true rfl) dX5_tryFrom_107 ?_
              refine lv_topi (fun x_40 ex_40 => ?_)
              refine lv_iload hx hb dX5_tryFrom_110 (lv_at hl 8 rfl) ?_
              refine lv_iload hx hb dX5_tryFrom_112 (lv_at hl 0 rfl) ?_
              refine lv_iadd hx hb dX5_tryFrom_114 ?_
              have rg_41 := i32_r i4
              have rg_42 := i32_r r_29
              refine lv_topi (fun x_43 ex_43 => ?_)
              refine hx_gov (hx_runVX (As := [.int (2 : Int32), .int x_39, .int x_40, .int x_43]) (rest := []) ⟨hx, hb, hml, hown, hts⟩ hW gx tt_5 (T := TX5) (N := 13) rfl (t_X5_tryFrom_2 l dC dI dA L_27 h_33 H.size b0 x x_39 x_40 x_43 hT gx) hZ (cwV 4 hts (hx_gV kw_969 kw_966 kw_968 kw_34 kw_100) rfl rfl rfl (by decide +kernel) ⟨Nat.le_of_ble_eq_true rfl, Nat.le_of_ble_eq_true rfl⟩) rfl hl.1 rfl (Nat.le_of_ble_eq_true rfl) dX5_tryFrom_115 ⟨Nat.le_of_ble_eq_true rfl, Nat.le_of_ble_eq_true rfl⟩) hW (fun L_44 h_45 H locs p_47 hW => ?_)
              obtain ⟨hT, hs⟩ := p_47
              replace hT : hx_T T_tb L_44 h_45 := hT
              replace hs : hx_S T_tb [(5, 11), (5, 12), (28, 0), (33, 0)] L_27 h_33 L_44 h_45 := hs
              replace fx_1 := (hs.o gx trivial rfl).1.trans fx_1
              replace fq_10 := (hs.o gx trivial rfl).2.trans fq_10
              replace fx_12 := (hs.o gx trivial rfl).1.trans fx_12
              replace fx_23 := (hs.o gx trivial rfl).1.trans fx_23
              replace fq_25 := (hs.o gx trivial rfl).2.trans fq_25
              replace fq_32 := (hs.o gx trivial rfl).2.trans fq_32
              replace hM := hM.tr (hs.mono (by decide))
              replace gx := gx.S hs
              replace gq_10 := gq_10.S hs
              replace gq_25 := gq_25.S hs
              replace gq_32 := gq_32.S hs
              obtain ⟨x_49, ex_49⟩ : ∃ y : Int32, y = iv28_6 + Int32.ofInt 1 := ⟨_, rfl⟩
              have rg_50 := i32_r iv28_6
              have zx_49 : x_49.toInt = iv28_6.toInt + (1) := by rw [ex_49]; exact i32_add rfl (by decide) (by omega) (by omega)
              refine lv_iinc (v := x_49) (lv' := [(6, .int x_49), (8, .int r_29), (7, .int x_16), (5, .int r_6), (0, .ref x), (1, .int (1 : Int32)), (2, .int i2), (3, .int i3), (4, .int i4)]) hx hb dX5_tryFrom_118 hl (k := 2) rfl ex_49.symm (by decide) rfl (fun ls hl => ?_)
              refine lv_goto (tgt := 28) hx hb dX5_tryFrom_121 (by decide) ?_
              exact ih28 x_49 _ _ L_44 h_45 ls (by omega) (by omega) (by omega) hW hT hM fx_1 gx  (lv_sub hl [0, 3, 4, 5, 6, 7, 8] rfl)
          · skip
            exact hx_retv hx hb hr hlk hW ⟨hT, hM⟩ dX5_tryFrom_65
    exact loop28 14 (0 : Int32) _ _ L_4 h_5 ls (by decide) (by decide) (by decide) hW hT hM fx_1 gx  hl
  · skip
    refine lv_aload_n hx hb dX5_tryFrom_8 rfl (lv_at hl 0 rfl) ?_
    refine lv_iload_n hx hb dX5_tryFrom_9 rfl (lv_at hl 3 rfl) ?_
    refine lv_iload hx hb dX5_tryFrom_10 (lv_at hl 4 rfl) ?_
    refine hx_gov (hx_runV (As := [.int i3, .int i4]) (rest := []) ⟨hx, hb, hml, hown, hts⟩ hW gx tt_5 (T := TX5) (N := 13) rfl (t_X5_keepIfBetter l dC dI dA L h s.heap.size x i3 i4 hT gx) (cwV 2 hts (hx_gV kw_973 kw_970 kw_972 kw_35 kw_100) rfl rfl rfl (by decide +kernel) ⟨Nat.le_of_ble_eq_true rfl, Nat.le_of_ble_eq_true rfl⟩) rfl hl.1 rfl (Nat.le_of_ble_eq_true rfl) dX5_tryFrom_12 ⟨Nat.le_of_ble_eq_true rfl, Nat.le_of_ble_eq_true rfl⟩) hW (fun L_51 h_52 H locs p_54 hW => ?_)
    obtain ⟨hT, hs⟩ := p_54
    replace hT : hx_T T_tb L_51 h_52 := hT
    replace hs : hx_S T_tb [(5, 11), (5, 12), (28, 0)] L h L_51 h_52 := hs
    replace fx_1 := (hs.o gx trivial rfl).1.trans fx_1
    replace hM := hM.tr (hs.mono (by decide))
    replace gx := gx.S hs
    exact hx_retv hx hb hr hlk hW ⟨hT, hM⟩ dX5_tryFrom_15


set_option maxHeartbeats 4000000 in
set_option maxRecDepth 100000 in
theorem t_X5_tryFrom_0 (l : Launch) (dC : Nat → ClassId) (dI : Nat → Nat → Nat) (dA : Nat → ClassId) (L : List Nat) (h : hx_h) (sz : Nat) (b0 : hx_z) (x : Nat) (i2 : Int32) (i3 : Int32) (i4 : Int32) (hT : hx_T T_tb L h) (gx : hx_g L h x 5)  : Met l yX5_tryFrom (Cond.code yX5_tryFrom cX5_tryFrom 9 none :: hx_all) ({ frames := 6, cells := 0, slots := 0, locals := 174 }) (va_Pc [.ref x, .int (0 : Int32), .int i2, .int i3, .int i4] (hx_BX T_tb (P_ty dA) (dC, dI) vwCl L h sz b0)) (va_Qv (fun (u : List Nat × hx_h) => hx_T T_tb u.1 u.2 ∧ hx_S T_tb [(5, 11), (5, 12), (28, 0), (33, 0)] L h u.1 u.2) (hx_E T_tb (P_ty dA) (dC, dI) vwCl (hx_A L sz)) (hx_A L sz)) 0 0 (hx_A L sz) := by
  refine hx_metX (lv := [(0, .ref x), (1, .int (0 : Int32)), (2, .int i2), (3, .int i3), (4, .int i4)]) (by decide +kernel) rfl (Nat.le_of_ble_eq_true rfl) rfl ?_
  intro p e s m below meth c hx hb hml hr hlk hts0 hown hin hsz hW hZ ls hl
  have hts : ∀ w ∈ hx_all, w.before _ s = true := fun w hw => hts0 w (List.mem_cons_of_mem _ hw)
  have hown : s.vm.findClass "SmallCourt$Plan" = some m.cls := hown
  have hM : hx_S T_tb [(5, 11), (5, 12), (28, 0), (33, 0)] L h L h := hx_S.rf
  refine lv_iload_n hx hb dX5_tryFrom_0 rfl (lv_at hl 1 rfl) ?_
  refine lv_aload_n hx hb dX5_tryFrom_1 rfl (lv_at hl 0 rfl) ?_
  refine hx_geti hx hb hts hC_5 hown hW hT gx tt_5 0 (by decide) rfl kw_258 ⟨rfl, rfl, rfl⟩ dX5_tryFrom_2 (fun x_1 ex_1 lx_1 ux_1 => ?_)
  have fx_1 := ex_1.symm
  refine hb_icmp_lt (zx := 0) (zy := x_1.toInt) (tgt := 16) hx hb (by decide) rfl dX5_tryFrom_5 (by decide) (fun c_2 => ?_) (fun c_2 => ?_)
  · skip
    refine lv_aload_n hx hb dX5_tryFrom_16 rfl (lv_at hl 0 rfl) ?_
    refine lv_iload_n hx hb dX5_tryFrom_17 rfl (lv_at hl 1 rfl) ?_
    refine lv_iconst (v := 1) hx hb dX5_tryFrom_18 (by decide) ?_
    refine lv_iadd hx hb dX5_tryFrom_19 ?_
    refine lv_topi (fun x_3 ex_3 => ?_)
    obtain rfl : x_3 = (1 : Int32) := ex_3.trans (by decide)
    refine hx_goi (hx_runV (As := [.int (1 : Int32)]) (rest := []) ⟨hx, hb, hml, hown, hts⟩ hW gx tt_5 (T := TX5) (N := 13) rfl (t_X5_leastFrom l dC dI dA L h s.heap.size x (1 : Int32) hT gx (by decide)) (cwV 1 hts (hx_gV kw_964 kw_961 kw_963 kw_33 kw_100) rfl rfl rfl (by decide +kernel) ⟨Nat.le_of_ble_eq_true rfl, Nat.le_of_ble_eq_true rfl⟩) rfl hl.1 rfl (Nat.le_of_ble_eq_true rfl) dX5_tryFrom_20 ⟨Nat.le_of_ble_eq_true rfl, Nat.le_of_ble_eq_true rfl⟩) hW (fun r_6 L_4 h_5 H locs p_7 hW => ?_)
    obtain ⟨hr_8, hT, hs⟩ := p_7
    replace hT : hx_T T_tb L_4 h_5 := hT
    replace hs : hx_S T_tb [] L h L_4 h_5 := hs
    replace fx_1 := (hs.o gx trivial rfl).1.trans fx_1
    replace hM := hM.tr (hs.mono (by decide))
    replace gx := gx.S hs
    refine lv_istore (lv' := [(5, .int r_6), (0, .ref x), (1, .int (0 : Int32)), (2, .int i2), (3, .int i3), (4, .int i4)]) hx hb dX5_tryFrom_23 hl (by decide) rfl (fun ls hl => ?_)
    refine lv_iconst (v := 0) hx hb dX5_tryFrom_25 (by decide) ?_
    refine lv_istore (lv' := [(6, .int (0 : Int32)), (5, .int r_6), (0, .ref x), (1, .int (0 : Int32)), (2, .int i2), (3, .int i3), (4, .int i4)]) hx hb dX5_tryFrom_26 hl (by decide) rfl (fun ls hl => ?_)
    have loop28 : ∀ (n28 : Nat) (iv28_6 : Int32) (H : Heap) (locs : List Loc) (hL1 : List Nat) (hl1 : hx_h) (ls : Array Slot), 0 ≤ iv28_6.toInt → iv28_6.toInt ≤ 13 → 13 < iv28_6.toInt + n28 → hx_W T_tb (P_ty dA) (dC, dI) vwCl (hx_A L sz) s.heap hL1 hl1 s H locs → hx_T T_tb hL1 hl1 → hx_S T_tb [(5, 11), (5, 12), (28, 0), (33, 0)] L h hL1 hl1 → hl1.2.1 x 0 = x_1 → hx_g hL1 hl1 x 5 → lv_has ls 9 [(6, .int iv28_6), (5, .int r_6), (0, .ref x), (1, .int (0 : Int32)), (2, .int i2), (3, .int i3), (4, .int i4)] → W p l e ({ frames := 6, cells := 0, slots := 0, locals := 174 }) s m ([.ref x, .int (0 : Int32), .int i2, .int i3, .int i4] : List Value).toArray below meth c H locs 0 0 (MQ below (va_Qv (fun (u : List Nat × hx_h) => hx_T T_tb u.1 u.2 ∧ hx_S T_tb [(5, 11), (5, 12), (28, 0), (33, 0)] L h u.1 u.2) (hx_E T_tb (P_ty dA) (dC, dI) vwCl (hx_A L sz)) (hx_A L sz)) ([.ref x, .int (0 : Int32), .int i2, .int i3, .int i4] : List Value).toArray s 0 0 (hx_A L sz)) (F0 m 28 ls []) := by
      intro n28
      induction n28 with
      | zero => intro iv28_6 H locs hL1 hl1 ls bl28_6 bu28_6 hn28; exfalso; omega
      | succ n28 ih28 =>
        intro iv28_6 H locs hL1 hl1 ls bl28_6 bu28_6 hn28 hW hT hM fx_1 gx  hl
        refine lv_iload hx hb dX5_tryFrom_28 (lv_at hl 0 rfl) ?_
        refine lv_bipush (v := 12) hx hb dX5_tryFrom_30 (by decide) ?_
        refine hb_icmp_gt (zx := iv28_6.toInt) (zy := 12) (tgt := 124) hx hb rfl (by decide) dX5_tryFrom_32 (by decide) (fun c_9 => ?_) (fun c_9 => ?_)
        · skip
          exact hx_retv hx hb hr hlk hW ⟨hT, hM⟩ dX5_tryFrom_124
        · skip
          refine lv_aload_n hx hb dX5_tryFrom_35 rfl (lv_at hl 2 rfl) ?_
          refine hx_getn hx hb hts hC_5 hown hW hT gx tt_5 7 (by decide) rfl kw_270 ⟨rfl, rfl, rfl⟩ dX5_tryFrom_36 (fun q_10 fq_10 gq_10 => ?_)
          refine lv_iload_n hx hb dX5_tryFrom_39 rfl (lv_at hl 3 rfl) ?_
          refine hx_iald hx hb hW hT gq_10 tt_32 rfl (by decide) dX5_tryFrom_40 (fun x_11 ex_11 lx_11 ux_11 => ?_)
          refine lv_iload hx hb dX5_tryFrom_41 (lv_at hl 0 rfl) ?_
          refine lv_aload_n hx hb dX5_tryFrom_43 rfl (lv_at hl 2 rfl) ?_
          refine hx_geti hx hb hts hC_5 hown hW hT gx tt_5 9 (by decide) rfl kw_272 ⟨rfl, rfl, rfl⟩ dX5_tryFrom_44 (fun x_12 ex_12 lx_12 ux_12 => ?_)
          have fx_12 := ex_12.symm
          refine lv_imul hx hb dX5_tryFrom_47 ?_
          refine lv_topi (fun x_13 ex_13 => ?_)
          refine lv_iadd hx hb dX5_tryFrom_48 ?_
          have rg_14 := i32_r x_11
          have rg_15 := i32_r x_13
          refine lv_topi (fun x_16 ex_16 => ?_)
          refine lv_istore (lv' := [(7, .int x_16), (6, .int iv28_6), (5, .int r_6), (0, .ref x), (1, .int (0 : Int32)), (2, .int i2), (3, .int i3), (4, .int i4)]) hx hb dX5_tryFrom_49 hl (by decide) rfl (fun ls hl => ?_)
          refine lv_iload_n hx hb dX5_tryFrom_51 rfl (lv_at hl 5 rfl) ?_
          refine lv_iload hx hb dX5_tryFrom_52 (lv_at hl 0 rfl) ?_
          refine lv_iadd hx hb dX5_tryFrom_54 ?_
          have rg_17 := i32_r i2
          have rg_18 := i32_r x_16
          refine lv_topi (fun x_19 ex_19 => ?_)
          refine lv_iload hx hb dX5_tryFrom_55 (lv_at hl 2 rfl) ?_
          refine lv_iadd hx hb dX5_tryFrom_57 ?_
          have rg_20 := i32_r x_19
          have rg_21 := i32_r r_6
          refine lv_topi (fun x_22 ex_22 => ?_)
          refine lv_aload_n hx hb dX5_tryFrom_58 rfl (lv_at hl 3 rfl) ?_
          refine hx_geti hx hb hts hC_5 hown hW hT gx tt_5 10 (by decide) rfl kw_273 ⟨rfl, rfl, rfl⟩ dX5_tryFrom_59 (fun x_23 ex_23 lx_23 ux_23 => ?_)
          have fx_23 := ex_23.symm
          refine hb_icmp_le (zx := x_22.toInt) (zy := x_23.toInt) (tgt := 66) hx hb rfl rfl dX5_tryFrom_62 (by decide) (fun c_24 => ?_) (fun c_24 => ?_)
          · skip
            refine lv_aload_n hx hb dX5_tryFrom_66 rfl (lv_at hl 3 rfl) ?_
            refine hx_getn hx hb hts hC_5 hown hW hT gx tt_5 6 (by decide) rfl kw_269 ⟨rfl, rfl, rfl⟩ dX5_tryFrom_67 (fun q_25 fq_25 gq_25 => ?_)
            refine lv_iload_n hx hb dX5_tryFrom_70 rfl (lv_at hl 4 rfl) ?_
            refine hx_iald hx hb hW hT gq_25 tt_31 rfl (by decide) dX5_tryFrom_71 (fun x_26 ex_26 lx_26 ux_26 => ?_)
            refine lv_iload hx hb dX5_tryFrom_72 (lv_at hl 0 rfl) ?_
            refine hx_goi (hx_runSN (As := [.int x_26, .int x_16]) (rest := []) ⟨hx, hb, hml, hown, hts⟩ hW (t_X9_roundUp l dC dI dA hL1 hl1 H.size x_26 x_16 hT) ⟨va_cnB 2 hts (hx_gC kw_921) rfl rfl rfl (hZ.1 _ (List.mem_of_getElem? (i := 10) rfl)) (hts _ kw_94) (by decide +kernel) ⟨Nat.le_of_ble_eq_true rfl, Nat.le_of_ble_eq_true rfl⟩, hts _ kw_920, trivial⟩ rfl hl.1 rfl (Nat.le_of_ble_eq_true rfl) dX5_tryFrom_74 ⟨Nat.le_of_ble_eq_true rfl, Nat.le_of_ble_eq_true rfl⟩) hW (fun r_29 L_27 h_28 H locs p_30 hW => ?_)
            obtain ⟨hr_31, hT, hs⟩ := p_30
            replace hT : hx_T T_tb L_27 h_28 := hT
            replace hs : hx_S T_tb [] hL1 hl1 L_27 h_28 := hs
            replace fx_1 := (hs.o gx trivial rfl).1.trans fx_1
            replace fq_10 := (hs.o gx trivial rfl).2.trans fq_10
            replace fx_12 := (hs.o gx trivial rfl).1.trans fx_12
            replace fx_23 := (hs.o gx trivial rfl).1.trans fx_23
            replace fq_25 := (hs.o gx trivial rfl).2.trans fq_25
            replace hM := hM.tr (hs.mono (by decide))
            replace gx := gx.S hs
            replace gq_10 := gq_10.S hs
            replace gq_25 := gq_25.S hs
            refine lv_istore (lv' := [(8, .int r_29), (7, .int x_16), (6, .int iv28_6), (5, .int r_6), (0, .ref x), (1, .int (0 : Int32)), (2, .int i2), (3, .int i3), (4, .int i4)]) hx hb dX5_tryFrom_77 hl (by decide) rfl (fun ls hl => ?_)
            refine lv_aload_n hx hb dX5_tryFrom_79 rfl (lv_at hl 4 rfl) ?_
            refine hx_getn hx hb hts hC_5 hown hW hT gx tt_5 8 (by decide) rfl kw_271 ⟨rfl, rfl, rfl⟩ dX5_tryFrom_80 (fun q_32 fq_32 gq_32 => ?_)
            refine lv_iload_n hx hb dX5_tryFrom_83 rfl (lv_at hl 5 rfl) ?_
            refine lv_iload hx hb dX5_tryFrom_84 (lv_at hl 1 rfl) ?_
            refine hx_iast hx hb hW hT (hx_S.rf (M := [(33, 0)])) gq_32 tt_33 rfl (by decide) rfl (i32_r _) (List.mem_singleton.mpr rfl) dX5_tryFrom_86 (fun H locs h_33 eh_33 hW hT hs => ?_)
            replace fx_1 := (hs.o gx trivial rfl).1.trans fx_1
            replace fq_10 := (hs.o gx trivial rfl).2.trans fq_10
            replace fx_12 := (hs.o gx trivial rfl).1.trans fx_12
            replace fx_23 := (hs.o gx trivial rfl).1.trans fx_23
            replace fq_25 := (hs.o gx trivial rfl).2.trans fq_25
            replace fq_32 := (hs.o gx trivial rfl).2.trans fq_32
            replace hM := hM.tr (hs.mono (by decide))
            replace gx := gx.S hs
            replace gq_10 := gq_10.S hs
            replace gq_25 := gq_25.S hs
            replace gq_32 := gq_32.S hs
            refine lv_iload hx hb dX5_tryFrom_87 (lv_at hl 0 rfl) ?_
            refine lv_aload_n hx hb dX5_tryFrom_89 rfl (lv_at hl 4 rfl) ?_
            refine hx_geti hx hb hts hC_5 hown hW hT gx tt_5 11 (by decide) rfl kw_274 ⟨rfl, rfl, rfl⟩ dX5_tryFrom_90 (fun x_34 ex_34 lx_34 ux_34 => ?_)
            have fx_34 := ex_34.symm
            refine hb_icmp_gt (zx := r_29.toInt) (zy := x_34.toInt) (tgt := 118) hx hb rfl rfl dX5_tryFrom_93 (by decide) (fun c_35 => ?_) (fun c_35 => ?_)
            · skip
              obtain ⟨x_36, ex_36⟩ : ∃ y : Int32, y = iv28_6 + Int32.ofInt 1 := ⟨_, rfl⟩
              have rg_37 := i32_r iv28_6
              have zx_36 : x_36.toInt = iv28_6.toInt + (1) := by rw [ex_36]; exact i32_add rfl (by decide) (by omega) (by omega)
              refine lv_iinc (v := x_36) (lv' := [(6, .int x_36), (8, .int r_29), (7, .int x_16), (5, .int r_6), (0, .ref x), (1, .int (0 : Int32)), (2, .int i2), (3, .int i3), (4, .int i4)]) hx hb dX5_tryFrom_118 hl (k := 2) rfl ex_36.symm (by decide) rfl (fun ls hl => ?_)
              refine lv_goto (tgt := 28) hx hb dX5_tryFrom_121 (by decide) ?_
              exact ih28 x_36 _ _ L_27 h_33 ls (by omega) (by omega) (by omega) hW hT hM fx_1 gx  (lv_sub hl [0, 3, 4, 5, 6, 7, 8] rfl)
            · skip
              refine lv_aload_n hx hb dX5_tryFrom_96 rfl (lv_at hl 4 rfl) ?_
              refine lv_iload_n hx hb dX5_tryFrom_97 rfl (lv_at hl 5 rfl) ?_
              refine lv_iconst (v := 1) hx hb dX5_tryFrom_98 (by decide) ?_
              refine lv_iadd hx hb dX5_tryFrom_99 ?_
              refine lv_topi (fun x_38 ex_38 => ?_)
              obtain rfl : x_38 = (1 : Int32) := ex_38.trans (by decide)
              refine lv_iload_n hx hb dX5_tryFrom_100 rfl (lv_at hl 6 rfl) ?_
              refine lv_iload hx hb dX5_tryFrom_101 (lv_at hl 1 rfl) ?_
              refine lv_iadd hx hb dX5_tryFrom_103 ?_
              refine lv_topi (fun x_39 ex_39 => ?_)
              refine lv_iload_n hx hb dX5_tryFrom_104 rfl (lv_at hl 7 rfl) ?_
              refine lv_iload hx hb dX5_tryFrom_105 (lv_at hl 0 rfl) ?_
              refine va_mmax hx hb (hml.trans hl.1.symm) hown (hts _ kw_976) (hts _ kw_882) (hts _ kw_109) (hts _ kw_883) (Nat.le_of_ble_eq_true rfl) (Nat.le_of_ble_eq_true rfl) (Nat.le_of_ble_eq_true rfl) (Nat.le_of_ble_eq_true rfl) dX5_tryFrom_107 ?_
              refine lv_topi (fun x_40 ex_40 => ?_)
              refine lv_iload hx hb dX5_tryFrom_110 (lv_at hl 8 rfl) ?_
              refine lv_iload hx hb dX5_tryFrom_112 (lv_at hl 0 rfl) ?_
              refine lv_iadd hx hb dX5_tryFrom_114 ?_
              have rg_41 := i32_r i4
              have rg_42 := i32_r r_29
              refine lv_topi (fun x_43 ex_43 => ?_)
              refine hx_gov (hx_runVX (As := [.int (1 : Int32), .int x_39, .int x_40, .int x_43]) (rest := []) ⟨hx, hb, hml, hown, hts⟩ hW gx tt_5 (T := TX5) (N := 13) rfl (t_X5_tryFrom_1 l dC dI dA L_27 h_33 H.size b0 x x_39 x_40 x_43 hT gx) hZ (cwV 4 hts (hx_gV kw_969 kw_966 kw_968 kw_34 kw_100) rfl rfl rfl (by decide +kernel) ⟨Nat.le_of_ble_eq_true rfl, Nat.le_of_ble_eq_true rfl⟩) rfl hl.1 rfl (Nat.le_of_ble_eq_true rfl) dX5_tryFrom_115 ⟨Nat.le_of_ble_eq_true rfl, Nat.le_of_ble_eq_true rfl⟩) hW (fun L_44 h_45 H locs p_47 hW => ?_)
              obtain ⟨hT, hs⟩ := p_47
              replace hT : hx_T T_tb L_44 h_45 := hT
              replace hs : hx_S T_tb [(5, 11), (5, 12), (28, 0), (33, 0)] L_27 h_33 L_44 h_45 := hs
              replace fx_1 := (hs.o gx trivial rfl).1.trans fx_1
              replace fq_10 := (hs.o gx trivial rfl).2.trans fq_10
              replace fx_12 := (hs.o gx trivial rfl).1.trans fx_12
              replace fx_23 := (hs.o gx trivial rfl).1.trans fx_23
              replace fq_25 := (hs.o gx trivial rfl).2.trans fq_25
              replace fq_32 := (hs.o gx trivial rfl).2.trans fq_32
              replace hM := hM.tr (hs.mono (by decide))
              replace gx := gx.S hs
              replace gq_10 := gq_10.S hs
              replace gq_25 := gq_25.S hs
              replace gq_32 := gq_32.S hs
              obtain ⟨x_49, ex_49⟩ : ∃ y : Int32, y = iv28_6 + Int32.ofInt 1 := ⟨_, rfl⟩
              have rg_50 := i32_r iv28_6
              have zx_49 : x_49.toInt = iv28_6.toInt + (1) := by rw [ex_49]; exact i32_add rfl (by decide) (by omega) (by omega)
              refine lv_iinc (v := x_49) (lv' := [(6, .int x_49), (8, .int r_29), (7, .int x_16), (5, .int r_6), (0, .ref x), (1, .int (0 : Int32)), (2, .int i2), (3, .int i3), (4, .int i4)]) hx hb dX5_tryFrom_118 hl (k := 2) rfl ex_49.symm (by decide) rfl (fun ls hl => ?_)
              refine lv_goto (tgt := 28) hx hb dX5_tryFrom_121 (by decide) ?_
              exact ih28 x_49 _ _ L_44 h_45 ls (by omega) (by omega) (by omega) hW hT hM fx_1 gx  (lv_sub hl [0, 3, 4, 5, 6, 7, 8] rfl)
          · skip
            exact hx_retv hx hb hr hlk hW ⟨hT, hM⟩ dX5_tryFrom_65
    exact loop28 14 (0 : Int32) _ _ L_4 h_5 ls (by decide) (by decide) (by decide) hW hT hM fx_1 gx  hl
  · skip
    refine lv_aload_n hx hb dX5_tryFrom_8 rfl (lv_at hl 0 rfl) ?_
    refine lv_iload_n hx hb dX5_tryFrom_9 rfl (lv_at hl 3 rfl) ?_
    refine lv_iload hx hb dX5_tryFrom_10 (lv_at hl 4 rfl) ?_
    refine hx_gov (hx_runV (As := [.int i3, .int i4]) (rest := []) ⟨hx, hb, hml, hown, hts⟩ hW gx tt_5 (T := TX5) (N := 13) rfl (t_X5_keepIfBetter l dC dI dA L h s.heap.size x i3 i4 hT gx) (cwV 2 hts (hx_gV kw_973 kw_970 kw_972 kw_35 kw_100) rfl rfl rfl (by decide +kernel) ⟨Nat.le_of_ble_eq_true rfl, Nat.le_of_ble_eq_true rfl⟩) rfl hl.1 rfl (Nat.le_of_ble_eq_true rfl) dX5_tryFrom_12 ⟨Nat.le_of_ble_eq_true rfl, Nat.le_of_ble_eq_true rfl⟩) hW (fun L_51 h_52 H locs p_54 hW => ?_)
    obtain ⟨hT, hs⟩ := p_54
    replace hT : hx_T T_tb L_51 h_52 := hT
    replace hs : hx_S T_tb [(5, 11), (5, 12), (28, 0)] L h L_51 h_52 := hs
    replace fx_1 := (hs.o gx trivial rfl).1.trans fx_1
    replace hM := hM.tr (hs.mono (by decide))
    replace gx := gx.S hs
    exact hx_retv hx hb hr hlk hW ⟨hT, hM⟩ dX5_tryFrom_15

def wLX5_settle_0 : List Nat := [42, 180, 0, 33, 158, 0, 18, 42, 3, 182, 0, 63, 42, 180, 0, 40, 164, 0, 6, 16, 254, 172, 42, 18, 67, 181, 0, 68, 42, 18, 67, 181, 0, 71, 42, 3, 3, 3, 3, 182, 0, 74, 3, 60, 27, 42, 180, 0, 33, 162, 0, 42, 42, 180, 0, 9, 27, 42, 180, 0, 21, 27, 46, 79]
def wLX5_settle_1 : List Nat := [42, 180, 0, 18, 27, 42, 180, 0, 24, 27, 46, 42, 180, 0, 15, 27, 46, 184, 0, 78, 79, 132, 1, 1, 167, 255, 212, 42, 42, 180, 0, 33, 181, 0, 81, 42, 180, 0, 68, 172]
theorem wX5_settle_0 : (cX5_settle.data.toList.map UInt8.toNat).drop 0 = wLX5_settle_0 ++ (wLX5_settle_1 ++ ([])) := by decide +kernel
theorem wX5_settle_1 : (cX5_settle.data.toList.map UInt8.toNat).drop 64 = wLX5_settle_1 ++ ([]) := hz_wn wX5_settle_0 rfl
theorem dX5_settle_0 : decode cX5_settle 0 = .ok (.aload_n 0, 1) := dq_42 (hz_wg wX5_settle_0 (j := 0) (n := 42) rfl)
theorem dX5_settle_1 : decode cX5_settle 1 = .ok (.getfield 33, 3) := dq_180 (hz_wg wX5_settle_0 (j := 1) (n := 180) rfl) (hz_wg wX5_settle_0 (j := 2) (n := 0) rfl) (hz_wg wX5_settle_0 (j := 3) (n := 33) rfl) rfl
theorem dX5_settle_4 : decode cX5_settle 4 = .ok (.ifCond .le 18, 3) := dq_158 (hz_wg wX5_settle_0 (j := 4) (n := 158) rfl) (hz_wg wX5_settle_0 (j := 5) (n := 0) rfl) (hz_wg wX5_settle_0 (j := 6) (n := 18) rfl) (by decide)
theorem dX5_settle_7 : decode cX5_settle 7 = .ok (.aload_n 0, 1) := dq_42 (hz_wg wX5_settle_0 (j := 7) (n := 42) rfl)
theorem dX5_settle_8 : decode cX5_settle 8 = .ok (.iconst 0, 1) := dq_3 (hz_wg wX5_settle_0 (j := 8) (n := 3) rfl)
theorem dX5_settle_9 : decode cX5_settle 9 = .ok (.invokevirtual 63, 3) := dq_182 (hz_wg wX5_settle_0 (j := 9) (n := 182) rfl) (hz_wg wX5_settle_0 (j := 10) (n := 0) rfl) (hz_wg wX5_settle_0 (j := 11) (n := 63) rfl) rfl
theorem dX5_settle_12 : decode cX5_settle 12 = .ok (.aload_n 0, 1) := dq_42 (hz_wg wX5_settle_0 (j := 12) (n := 42) rfl)
theorem dX5_settle_13 : decode cX5_settle 13 = .ok (.getfield 40, 3) := dq_180 (hz_wg wX5_settle_0 (j := 13) (n := 180) rfl) (hz_wg wX5_settle_0 (j := 14) (n := 0) rfl) (hz_wg wX5_settle_0 (j := 15) (n := 40) rfl) rfl
theorem dX5_settle_16 : decode cX5_settle 16 = .ok (.if_icmp .le 6, 3) := dq_164 (hz_wg wX5_settle_0 (j := 16) (n := 164) rfl) (hz_wg wX5_settle_0 (j := 17) (n := 0) rfl) (hz_wg wX5_settle_0 (j := 18) (n := 6) rfl) (by decide)
theorem dX5_settle_19 : decode cX5_settle 19 = .ok (.bipush (-2), 2) := dq_16 (hz_wg wX5_settle_0 (j := 19) (n := 16) rfl) (hz_wg wX5_settle_0 (j := 20) (n := 254) rfl) (by decide)
theorem dX5_settle_21 : decode cX5_settle 21 = .ok (.ireturn, 1) := dq_172 (hz_wg wX5_settle_0 (j := 21) (n := 172) rfl)
theorem dX5_settle_22 : decode cX5_settle 22 = .ok (.aload_n 0, 1) := dq_42 (hz_wg wX5_settle_0 (j := 22) (n := 42) rfl)
theorem dX5_settle_23 : decode cX5_settle 23 = .ok (.ldc 67, 2) := dq_18 (hz_wg wX5_settle_0 (j := 23) (n := 18) rfl) (hz_wg wX5_settle_0 (j := 24) (n := 67) rfl)
theorem dX5_settle_25 : decode cX5_settle 25 = .ok (.putfield 68, 3) := dq_181 (hz_wg wX5_settle_0 (j := 25) (n := 181) rfl) (hz_wg wX5_settle_0 (j := 26) (n := 0) rfl) (hz_wg wX5_settle_0 (j := 27) (n := 68) rfl) rfl
theorem dX5_settle_28 : decode cX5_settle 28 = .ok (.aload_n 0, 1) := dq_42 (hz_wg wX5_settle_0 (j := 28) (n := 42) rfl)
theorem dX5_settle_29 : decode cX5_settle 29 = .ok (.ldc 67, 2) := dq_18 (hz_wg wX5_settle_0 (j := 29) (n := 18) rfl) (hz_wg wX5_settle_0 (j := 30) (n := 67) rfl)
theorem dX5_settle_31 : decode cX5_settle 31 = .ok (.putfield 71, 3) := dq_181 (hz_wg wX5_settle_0 (j := 31) (n := 181) rfl) (hz_wg wX5_settle_0 (j := 32) (n := 0) rfl) (hz_wg wX5_settle_0 (j := 33) (n := 71) rfl) rfl
theorem dX5_settle_34 : decode cX5_settle 34 = .ok (.aload_n 0, 1) := dq_42 (hz_wg wX5_settle_0 (j := 34) (n := 42) rfl)
theorem dX5_settle_35 : decode cX5_settle 35 = .ok (.iconst 0, 1) := dq_3 (hz_wg wX5_settle_0 (j := 35) (n := 3) rfl)
theorem dX5_settle_36 : decode cX5_settle 36 = .ok (.iconst 0, 1) := dq_3 (hz_wg wX5_settle_0 (j := 36) (n := 3) rfl)
theorem dX5_settle_37 : decode cX5_settle 37 = .ok (.iconst 0, 1) := dq_3 (hz_wg wX5_settle_0 (j := 37) (n := 3) rfl)
theorem dX5_settle_38 : decode cX5_settle 38 = .ok (.iconst 0, 1) := dq_3 (hz_wg wX5_settle_0 (j := 38) (n := 3) rfl)
theorem dX5_settle_39 : decode cX5_settle 39 = .ok (.invokevirtual 74, 3) := dq_182 (hz_wg wX5_settle_0 (j := 39) (n := 182) rfl) (hz_wg wX5_settle_0 (j := 40) (n := 0) rfl) (hz_wg wX5_settle_0 (j := 41) (n := 74) rfl) rfl
theorem dX5_settle_42 : decode cX5_settle 42 = .ok (.iconst 0, 1) := dq_3 (hz_wg wX5_settle_0 (j := 42) (n := 3) rfl)
theorem dX5_settle_43 : decode cX5_settle 43 = .ok (.istore_n 1, 1) := dq_60 (hz_wg wX5_settle_0 (j := 43) (n := 60) rfl)
theorem dX5_settle_44 : decode cX5_settle 44 = .ok (.iload_n 1, 1) := dq_27 (hz_wg wX5_settle_0 (j := 44) (n := 27) rfl)
theorem dX5_settle_45 : decode cX5_settle 45 = .ok (.aload_n 0, 1) := dq_42 (hz_wg wX5_settle_0 (j := 45) (n := 42) rfl)
theorem dX5_settle_46 : decode cX5_settle 46 = .ok (.getfield 33, 3) := dq_180 (hz_wg wX5_settle_0 (j := 46) (n := 180) rfl) (hz_wg wX5_settle_0 (j := 47) (n := 0) rfl) (hz_wg wX5_settle_0 (j := 48) (n := 33) rfl) rfl
theorem dX5_settle_49 : decode cX5_settle 49 = .ok (.if_icmp .ge 42, 3) := dq_162 (hz_wg wX5_settle_0 (j := 49) (n := 162) rfl) (hz_wg wX5_settle_0 (j := 50) (n := 0) rfl) (hz_wg wX5_settle_0 (j := 51) (n := 42) rfl) (by decide)
theorem dX5_settle_52 : decode cX5_settle 52 = .ok (.aload_n 0, 1) := dq_42 (hz_wg wX5_settle_0 (j := 52) (n := 42) rfl)
theorem dX5_settle_53 : decode cX5_settle 53 = .ok (.getfield 9, 3) := dq_180 (hz_wg wX5_settle_0 (j := 53) (n := 180) rfl) (hz_wg wX5_settle_0 (j := 54) (n := 0) rfl) (hz_wg wX5_settle_0 (j := 55) (n := 9) rfl) rfl
theorem dX5_settle_56 : decode cX5_settle 56 = .ok (.iload_n 1, 1) := dq_27 (hz_wg wX5_settle_0 (j := 56) (n := 27) rfl)
theorem dX5_settle_57 : decode cX5_settle 57 = .ok (.aload_n 0, 1) := dq_42 (hz_wg wX5_settle_0 (j := 57) (n := 42) rfl)
theorem dX5_settle_58 : decode cX5_settle 58 = .ok (.getfield 21, 3) := dq_180 (hz_wg wX5_settle_0 (j := 58) (n := 180) rfl) (hz_wg wX5_settle_0 (j := 59) (n := 0) rfl) (hz_wg wX5_settle_0 (j := 60) (n := 21) rfl) rfl
theorem dX5_settle_61 : decode cX5_settle 61 = .ok (.iload_n 1, 1) := dq_27 (hz_wg wX5_settle_0 (j := 61) (n := 27) rfl)
theorem dX5_settle_62 : decode cX5_settle 62 = .ok (.iaload, 1) := dq_46 (hz_wg wX5_settle_0 (j := 62) (n := 46) rfl)
theorem dX5_settle_63 : decode cX5_settle 63 = .ok (.iastore, 1) := dq_79 (hz_wg wX5_settle_0 (j := 63) (n := 79) rfl)
theorem dX5_settle_64 : decode cX5_settle 64 = .ok (.aload_n 0, 1) := dq_42 (hz_wg wX5_settle_1 (j := 0) (n := 42) rfl)
theorem dX5_settle_65 : decode cX5_settle 65 = .ok (.getfield 18, 3) := dq_180 (hz_wg wX5_settle_1 (j := 1) (n := 180) rfl) (hz_wg wX5_settle_1 (j := 2) (n := 0) rfl) (hz_wg wX5_settle_1 (j := 3) (n := 18) rfl) rfl
theorem dX5_settle_68 : decode cX5_settle 68 = .ok (.iload_n 1, 1) := dq_27 (hz_wg wX5_settle_1 (j := 4) (n := 27) rfl)
theorem dX5_settle_69 : decode cX5_settle 69 = .ok (.aload_n 0, 1) := dq_42 (hz_wg wX5_settle_1 (j := 5) (n := 42) rfl)
theorem dX5_settle_70 : decode cX5_settle 70 = .ok (.getfield 24, 3) := dq_180 (hz_wg wX5_settle_1 (j := 6) (n := 180) rfl) (hz_wg wX5_settle_1 (j := 7) (n := 0) rfl) (hz_wg wX5_settle_1 (j := 8) (n := 24) rfl) rfl
theorem dX5_settle_73 : decode cX5_settle 73 = .ok (.iload_n 1, 1) := dq_27 (hz_wg wX5_settle_1 (j := 9) (n := 27) rfl)
theorem dX5_settle_74 : decode cX5_settle 74 = .ok (.iaload, 1) := dq_46 (hz_wg wX5_settle_1 (j := 10) (n := 46) rfl)
theorem dX5_settle_75 : decode cX5_settle 75 = .ok (.aload_n 0, 1) := dq_42 (hz_wg wX5_settle_1 (j := 11) (n := 42) rfl)
theorem dX5_settle_76 : decode cX5_settle 76 = .ok (.getfield 15, 3) := dq_180 (hz_wg wX5_settle_1 (j := 12) (n := 180) rfl) (hz_wg wX5_settle_1 (j := 13) (n := 0) rfl) (hz_wg wX5_settle_1 (j := 14) (n := 15) rfl) rfl
theorem dX5_settle_79 : decode cX5_settle 79 = .ok (.iload_n 1, 1) := dq_27 (hz_wg wX5_settle_1 (j := 15) (n := 27) rfl)
theorem dX5_settle_80 : decode cX5_settle 80 = .ok (.iaload, 1) := dq_46 (hz_wg wX5_settle_1 (j := 16) (n := 46) rfl)
theorem dX5_settle_81 : decode cX5_settle 81 = .ok (.invokestatic 78, 3) := dq_184 (hz_wg wX5_settle_1 (j := 17) (n := 184) rfl) (hz_wg wX5_settle_1 (j := 18) (n := 0) rfl) (hz_wg wX5_settle_1 (j := 19) (n := 78) rfl) rfl
theorem dX5_settle_84 : decode cX5_settle 84 = .ok (.iastore, 1) := dq_79 (hz_wg wX5_settle_1 (j := 20) (n := 79) rfl)
theorem dX5_settle_85 : decode cX5_settle 85 = .ok (.iinc 1 1, 3) := dq_132 (hz_wg wX5_settle_1 (j := 21) (n := 132) rfl) (hz_wg wX5_settle_1 (j := 22) (n := 1) rfl) (hz_wg wX5_settle_1 (j := 23) (n := 1) rfl) (by decide)
theorem dX5_settle_88 : decode cX5_settle 88 = .ok (.goto (-44), 3) := dq_167 (hz_wg wX5_settle_1 (j := 24) (n := 167) rfl) (hz_wg wX5_settle_1 (j := 25) (n := 255) rfl) (hz_wg wX5_settle_1 (j := 26) (n := 212) rfl) (by decide)
theorem dX5_settle_91 : decode cX5_settle 91 = .ok (.aload_n 0, 1) := dq_42 (hz_wg wX5_settle_1 (j := 27) (n := 42) rfl)
theorem dX5_settle_92 : decode cX5_settle 92 = .ok (.aload_n 0, 1) := dq_42 (hz_wg wX5_settle_1 (j := 28) (n := 42) rfl)
theorem dX5_settle_93 : decode cX5_settle 93 = .ok (.getfield 33, 3) := dq_180 (hz_wg wX5_settle_1 (j := 29) (n := 180) rfl) (hz_wg wX5_settle_1 (j := 30) (n := 0) rfl) (hz_wg wX5_settle_1 (j := 31) (n := 33) rfl) rfl
theorem dX5_settle_96 : decode cX5_settle 96 = .ok (.putfield 81, 3) := dq_181 (hz_wg wX5_settle_1 (j := 32) (n := 181) rfl) (hz_wg wX5_settle_1 (j := 33) (n := 0) rfl) (hz_wg wX5_settle_1 (j := 34) (n := 81) rfl) rfl
theorem dX5_settle_99 : decode cX5_settle 99 = .ok (.aload_n 0, 1) := dq_42 (hz_wg wX5_settle_1 (j := 35) (n := 42) rfl)
theorem dX5_settle_100 : decode cX5_settle 100 = .ok (.getfield 68, 3) := dq_180 (hz_wg wX5_settle_1 (j := 36) (n := 180) rfl) (hz_wg wX5_settle_1 (j := 37) (n := 0) rfl) (hz_wg wX5_settle_1 (j := 38) (n := 68) rfl) rfl
theorem dX5_settle_103 : decode cX5_settle 103 = .ok (.ireturn, 1) := dq_172 (hz_wg wX5_settle_1 (j := 39) (n := 172) rfl)
set_option maxHeartbeats 4000000 in
set_option maxRecDepth 100000 in
theorem t_X5_settle (l : Launch) (dC : Nat → ClassId) (dI : Nat → Nat → Nat) (dA : Nat → ClassId) (L : List Nat) (h : hx_h) (sz : Nat) (b0 : hx_z) (x : Nat) (hT : hx_T T_tb L h) (gx : hx_g L h x 5)  : Met l yX5_settle (Cond.code yX5_settle cX5_settle 2 (some .int) :: hx_all) ({ frames := 7, cells := 0, slots := 0, locals := 202 }) (va_Pc [.ref x] (hx_BX T_tb (P_ty dA) (dC, dI) vwCl L h sz b0)) (va_Qi (fun (r : Int32) (u : List Nat × hx_h) => (True) ∧ hx_T T_tb u.1 u.2 ∧ hx_S T_tb [(5, 1), (5, 11), (5, 12), (27, 0), (28, 0), (29, 0), (33, 0)] L h u.1 u.2) (hx_E T_tb (P_ty dA) (dC, dI) vwCl (hx_A L sz)) (hx_A L sz)) 0 0 (hx_A L sz) := by
  refine hx_metX (lv := [(0, .ref x)]) (by decide +kernel) rfl (Nat.le_of_ble_eq_true rfl) rfl ?_
  intro p e s m below meth c hx hb hml hr hlk hts0 hown hin hsz hW hZ ls hl
  have hts : ∀ w ∈ hx_all, w.before _ s = true := fun w hw => hts0 w (List.mem_cons_of_mem _ hw)
  have hown : s.vm.findClass "SmallCourt$Plan" = some m.cls := hown
  have hM : hx_S T_tb [(5, 1), (5, 11), (5, 12), (27, 0), (28, 0), (29, 0), (33, 0)] L h L h := hx_S.rf
  refine lv_aload_n hx hb dX5_settle_0 rfl (lv_at hl 0 rfl) ?_
  refine hx_geti hx hb hts hC_5 hown hW hT gx tt_5 0 (by decide) rfl kw_258 ⟨rfl, rfl, rfl⟩ dX5_settle_1 (fun x_1 ex_1 lx_1 ux_1 => ?_)
  have fx_1 := ex_1.symm
  refine hb_if_le (zx := x_1.toInt) (tgt := 22) hx hb rfl dX5_settle_4 (by decide) (fun c_2 => ?_) (fun c_2 => ?_)
  · skip
    refine lv_aload_n hx hb dX5_settle_22 rfl (lv_at hl 0 rfl) ?_
    refine lv_ldc (v := 1000000000) hx hb hown (hts _ kw_965) dX5_settle_23 ?_
    refine hx_puti hx hb hts hC_5 hown hW hT (hx_S.rf (M := [(5, 11)])) gx tt_5 11 (by decide) rfl kw_274 ⟨rfl, rfl, rfl⟩ rfl (x := (1000000000 : Int32)) (by decide) rfl rfl rfl (List.mem_singleton.mpr rfl) dX5_settle_25 (fun H locs h_3 eh_3 hW hT hs => ?_)
    replace fx_1 := (hs.o gx trivial rfl).1.trans fx_1
    replace hM := hM.tr (hs.mono (by decide))
    replace gx := gx.S hs
    have f_4 : h_3.2.1 x 11 = (1000000000 : Int32) := by rw [eh_3]; exact hx_pi_at _ _ _ _
    refine lv_aload_n hx hb dX5_settle_28 rfl (lv_at hl 0 rfl) ?_
    refine lv_ldc (v := 1000000000) hx hb hown (hts _ kw_965) dX5_settle_29 ?_
    refine hx_puti hx hb hts hC_5 hown hW hT (hx_S.rf (M := [(5, 12)])) gx tt_5 12 (by decide) rfl kw_275 ⟨rfl, rfl, rfl⟩ rfl (x := (1000000000 : Int32)) (by decide) rfl rfl rfl (List.mem_singleton.mpr rfl) dX5_settle_31 (fun H locs h_5 eh_5 hW hT hs => ?_)
    replace fx_1 := (hs.o gx trivial rfl).1.trans fx_1
    replace f_4 := (hs.o gx trivial rfl).1.trans f_4
    replace hM := hM.tr (hs.mono (by decide))
    replace gx := gx.S hs
    have f_6 : h_5.2.1 x 12 = (1000000000 : Int32) := by rw [eh_5]; exact hx_pi_at _ _ _ _
    refine lv_aload_n hx hb dX5_settle_34 rfl (lv_at hl 0 rfl) ?_
    refine lv_iconst (v := 0) hx hb dX5_settle_35 (by decide) ?_
    refine lv_iconst (v := 0) hx hb dX5_settle_36 (by decide) ?_
    refine lv_iconst (v := 0) hx hb dX5_settle_37 (by decide) ?_
    refine lv_iconst (v := 0) hx hb dX5_settle_38 (by decide) ?_
    refine hx_gov (hx_runVX (As := [.int (0 : Int32), .int (0 : Int32), .int (0 : Int32), .int (0 : Int32)]) (rest := []) ⟨hx, hb, hml, hown, hts⟩ hW gx tt_5 (T := TX5) (N := 13) rfl (t_X5_tryFrom_0 l dC dI dA L h_5 H.size b0 x (0 : Int32) (0 : Int32) (0 : Int32) hT gx) hZ (cwV 4 hts (hx_gV kw_969 kw_966 kw_968 kw_34 kw_100) rfl rfl rfl (by decide +kernel) ⟨Nat.le_of_ble_eq_true rfl, Nat.le_of_ble_eq_true rfl⟩) rfl hl.1 rfl (Nat.le_of_ble_eq_true rfl) dX5_settle_39 ⟨Nat.le_of_ble_eq_true rfl, Nat.le_of_ble_eq_true rfl⟩) hW (fun L_7 h_8 H locs p_10 hW => ?_)
    obtain ⟨hT, hs⟩ := p_10
    replace hT : hx_T T_tb L_7 h_8 := hT
    replace hs : hx_S T_tb [(5, 11), (5, 12), (28, 0), (33, 0)] L h_5 L_7 h_8 := hs
    replace fx_1 := (hs.o gx trivial rfl).1.trans fx_1
    replace hM := hM.tr (hs.mono (by decide))
    replace gx := gx.S hs
    refine lv_iconst (v := 0) hx hb dX5_settle_42 (by decide) ?_
    refine lv_istore_n (lv' := [(1, .int (0 : Int32)), (0, .ref x)]) hx hb dX5_settle_43 rfl hl (by decide) rfl (fun ls hl => ?_)
    have loop44 : ∀ (n44 : Nat) (iv44_1 : Int32) (H : Heap) (locs : List Loc) (hL1 : List Nat) (hl1 : hx_h) (ls : Array Slot), 0 ≤ iv44_1.toInt → iv44_1.toInt ≤ 4 → 4 < iv44_1.toInt + n44 → hx_W T_tb (P_ty dA) (dC, dI) vwCl (hx_A L sz) s.heap hL1 hl1 s H locs → hx_T T_tb hL1 hl1 → hx_S T_tb [(5, 1), (5, 11), (5, 12), (27, 0), (28, 0), (29, 0), (33, 0)] L h hL1 hl1 → hl1.2.1 x 0 = x_1 → hx_g hL1 hl1 x 5 → lv_has ls 2 [(1, .int iv44_1), (0, .ref x)] → W p l e ({ frames := 7, cells := 0, slots := 0, locals := 202 }) s m ([.ref x] : List Value).toArray below meth c H locs 0 0 (MQ below (va_Qi (fun (r : Int32) (u : List Nat × hx_h) => (True) ∧ hx_T T_tb u.1 u.2 ∧ hx_S T_tb [(5, 1), (5, 11), (5, 12), (27, 0), (28, 0), (29, 0), (33, 0)] L h u.1 u.2) (hx_E T_tb (P_ty dA) (dC, dI) vwCl (hx_A L sz)) (hx_A L sz)) ([.ref x] : List Value).toArray s 0 0 (hx_A L sz)) (F0 m 44 ls []) := by
      intro n44
      induction n44 with
      | zero => intro iv44_1 H locs hL1 hl1 ls bl44_1 bu44_1 hn44; exfalso; omega
      | succ n44 ih44 =>
        intro iv44_1 H locs hL1 hl1 ls bl44_1 bu44_1 hn44 hW hT hM fx_1 gx  hl
        refine lv_iload_n hx hb dX5_settle_44 rfl (lv_at hl 0 rfl) ?_
        refine lv_aload_n hx hb dX5_settle_45 rfl (lv_at hl 1 rfl) ?_
        refine hk_geti hx hb hts hC_5 hown hW gx tt_5 0 (by decide) rfl kw_258 ⟨rfl, rfl, rfl⟩ fx_1 dX5_settle_46 ?_
        refine hb_icmp_ge (zx := iv44_1.toInt) (zy := x_1.toInt) (tgt := 91) hx hb rfl rfl dX5_settle_49 (by decide) (fun c_12 => ?_) (fun c_12 => by exfalso; omega)
        refine lv_aload_n hx hb dX5_settle_91 rfl (lv_at hl 1 rfl) ?_
        refine lv_aload_n hx hb dX5_settle_92 rfl (lv_at hl 1 rfl) ?_
        refine hk_geti hx hb hts hC_5 hown hW gx tt_5 0 (by decide) rfl kw_258 ⟨rfl, rfl, rfl⟩ fx_1 dX5_settle_93 ?_
        refine hx_puti hx hb hts hC_5 hown hW hT (hx_S.rf (M := [(5, 1)])) gx tt_5 1 (by decide) rfl kw_260 ⟨rfl, rfl, rfl⟩ rfl (x := x_1) ⟨by omega, by omega⟩ rfl rfl rfl (List.mem_singleton.mpr rfl) dX5_settle_96 (fun H locs h_13 eh_13 hW hT hs => ?_)
        replace fx_1 := (hs.o gx trivial rfl).1.trans fx_1
        replace hM := hM.tr (hs.mono (by decide))
        replace gx := gx.S hs
        have f_14 : h_13.2.1 x 1 = x_1 := by rw [eh_13]; exact hx_pi_at _ _ _ _
        refine lv_aload_n hx hb dX5_settle_99 rfl (lv_at hl 1 rfl) ?_
        refine hx_geti hx hb hts hC_5 hown hW hT gx tt_5 11 (by decide) rfl kw_274 ⟨rfl, rfl, rfl⟩ dX5_settle_100 (fun x_15 ex_15 lx_15 ux_15 => ?_)
        have fx_15 := ex_15.symm
        exact hx_reti hx hb hr hlk hW ⟨trivial, hT, hM⟩ dX5_settle_103
    exact loop44 5 (0 : Int32) _ _ L_7 h_8 ls (by decide) (by decide) (by decide) hW hT hM fx_1 gx  hl
  · skip
    refine lv_aload_n hx hb dX5_settle_7 rfl (lv_at hl 0 rfl) ?_
    refine lv_iconst (v := 0) hx hb dX5_settle_8 (by decide) ?_
    refine hx_goi (hx_runV (As := [.int (0 : Int32)]) (rest := []) ⟨hx, hb, hml, hown, hts⟩ hW gx tt_5 (T := TX5) (N := 13) rfl (t_X5_leastFrom l dC dI dA L h s.heap.size x (0 : Int32) hT gx (by decide)) (cwV 1 hts (hx_gV kw_964 kw_961 kw_963 kw_33 kw_100) rfl rfl rfl (by decide +kernel) ⟨Nat.le_of_ble_eq_true rfl, Nat.le_of_ble_eq_true rfl⟩) rfl hl.1 rfl (Nat.le_of_ble_eq_true rfl) dX5_settle_9 ⟨Nat.le_of_ble_eq_true rfl, Nat.le_of_ble_eq_true rfl⟩) hW (fun r_18 L_16 h_17 H locs p_19 hW => ?_)
    obtain ⟨hr_20, hT, hs⟩ := p_19
    replace hT : hx_T T_tb L_16 h_17 := hT
    replace hs : hx_S T_tb [] L h L_16 h_17 := hs
    replace fx_1 := (hs.o gx trivial rfl).1.trans fx_1
    replace hM := hM.tr (hs.mono (by decide))
    replace gx := gx.S hs
    refine lv_aload_n hx hb dX5_settle_12 rfl (lv_at hl 0 rfl) ?_
    refine hx_geti hx hb hts hC_5 hown hW hT gx tt_5 10 (by decide) rfl kw_273 ⟨rfl, rfl, rfl⟩ dX5_settle_13 (fun x_21 ex_21 lx_21 ux_21 => ?_)
    have fx_21 := ex_21.symm
    refine hb_icmp_le (zx := r_18.toInt) (zy := x_21.toInt) (tgt := 22) hx hb rfl rfl dX5_settle_16 (by decide) (fun c_22 => ?_) (fun c_22 => ?_)
    · skip
      refine lv_aload_n hx hb dX5_settle_22 rfl (lv_at hl 0 rfl) ?_
      refine lv_ldc (v := 1000000000) hx hb hown (hts _ kw_965) dX5_settle_23 ?_
      refine hx_puti hx hb hts hC_5 hown hW hT (hx_S.rf (M := [(5, 11)])) gx tt_5 11 (by decide) rfl kw_274 ⟨rfl, rfl, rfl⟩ rfl (x := (1000000000 : Int32)) (by decide) rfl rfl rfl (List.mem_singleton.mpr rfl) dX5_settle_25 (fun H locs h_23 eh_23 hW hT hs => ?_)
      replace fx_1 := (hs.o gx trivial rfl).1.trans fx_1
      replace fx_21 := (hs.o gx trivial rfl).1.trans fx_21
      replace hM := hM.tr (hs.mono (by decide))
      replace gx := gx.S hs
      have f_24 : h_23.2.1 x 11 = (1000000000 : Int32) := by rw [eh_23]; exact hx_pi_at _ _ _ _
      refine lv_aload_n hx hb dX5_settle_28 rfl (lv_at hl 0 rfl) ?_
      refine lv_ldc (v := 1000000000) hx hb hown (hts _ kw_965) dX5_settle_29 ?_
      refine hx_puti hx hb hts hC_5 hown hW hT (hx_S.rf (M := [(5, 12)])) gx tt_5 12 (by decide) rfl kw_275 ⟨rfl, rfl, rfl⟩ rfl (x := (1000000000 : Int32)) (by decide) rfl rfl rfl (List.mem_singleton.mpr rfl) dX5_settle_31 (fun H locs h_25 eh_25 hW hT hs => ?_)
      replace fx_1 := (hs.o gx trivial rfl).1.trans fx_1
      replace fx_21 := (hs.o gx trivial rfl).1.trans fx_21
      replace f_24 := (hs.o gx trivial rfl).1.trans f_24
      replace hM := hM.tr (hs.mono (by decide))
      replace gx := gx.S hs
      have f_26 : h_25.2.1 x 12 = (1000000000 : Int32) := by rw [eh_25]; exact hx_pi_at _ _ _ _
      refine lv_aload_n hx hb dX5_settle_34 rfl (lv_at hl 0 rfl) ?_
      refine lv_iconst (v := 0) hx hb dX5_settle_35 (by decide) ?_
      refine lv_iconst (v := 0) hx hb dX5_settle_36 (by decide) ?_
      refine lv_iconst (v := 0) hx hb dX5_settle_37 (by decide) ?_
      refine lv_iconst (v := 0) hx hb dX5_settle_38 (by decide) ?_
      refine hx_gov (hx_runVX (As := [.int (0 : Int32), .int (0 : Int32), .int (0 : Int32), .int (0 : Int32)]) (rest := []) ⟨hx, hb, hml, hown, hts⟩ hW gx tt_5 (T := TX5) (N := 13) rfl (t_X5_tryFrom_0 l dC dI dA L_16 h_25 H.size b0 x (0 : Int32) (0 : Int32) (0 : Int32) hT gx) hZ (cwV 4 hts (hx_gV kw_969 kw_966 kw_968 kw_34 kw_100) rfl rfl rfl (by decide +kernel) ⟨Nat.le_of_ble_eq_true rfl, Nat.le_of_ble_eq_true rfl⟩) rfl hl.1 rfl (Nat.le_of_ble_eq_true rfl) dX5_settle_39 ⟨Nat.le_of_ble_eq_true rfl, Nat.le_of_ble_eq_true rfl⟩) hW (fun L_27 h_28 H locs p_30 hW => ?_)
      obtain ⟨hT, hs⟩ := p_30
      replace hT : hx_T T_tb L_27 h_28 := hT
      replace hs : hx_S T_tb [(5, 11), (5, 12), (28, 0), (33, 0)] L_16 h_25 L_27 h_28 := hs
      replace fx_1 := (hs.o gx trivial rfl).1.trans fx_1
      replace fx_21 := (hs.o gx trivial rfl).1.trans fx_21
      replace hM := hM.tr (hs.mono (by decide))
      replace gx := gx.S hs
      refine lv_iconst (v := 0) hx hb dX5_settle_42 (by decide) ?_
      refine lv_istore_n (lv' := [(1, .int (0 : Int32)), (0, .ref x)]) hx hb dX5_settle_43 rfl hl (by decide) rfl (fun ls hl => ?_)
      have loop44 : ∀ (n44 : Nat) (iv44_1 : Int32) (H : Heap) (locs : List Loc) (hL1 : List Nat) (hl1 : hx_h) (ls : Array Slot), 0 ≤ iv44_1.toInt → iv44_1.toInt ≤ 4 → 4 < iv44_1.toInt + n44 → hx_W T_tb (P_ty dA) (dC, dI) vwCl (hx_A L sz) s.heap hL1 hl1 s H locs → hx_T T_tb hL1 hl1 → hx_S T_tb [(5, 1), (5, 11), (5, 12), (27, 0), (28, 0), (29, 0), (33, 0)] L h hL1 hl1 → hl1.2.1 x 0 = x_1 → hl1.2.1 x 10 = x_21 → hx_g hL1 hl1 x 5 → lv_has ls 2 [(1, .int iv44_1), (0, .ref x)] → W p l e ({ frames := 7, cells := 0, slots := 0, locals := 202 }) s m ([.ref x] : List Value).toArray below meth c H locs 0 0 (MQ below (va_Qi (fun (r : Int32) (u : List Nat × hx_h) => (True) ∧ hx_T T_tb u.1 u.2 ∧ hx_S T_tb [(5, 1), (5, 11), (5, 12), (27, 0), (28, 0), (29, 0), (33, 0)] L h u.1 u.2) (hx_E T_tb (P_ty dA) (dC, dI) vwCl (hx_A L sz)) (hx_A L sz)) ([.ref x] : List Value).toArray s 0 0 (hx_A L sz)) (F0 m 44 ls []) := by
        intro n44
        induction n44 with
        | zero => intro iv44_1 H locs hL1 hl1 ls bl44_1 bu44_1 hn44; exfalso; omega
        | succ n44 ih44 =>
          intro iv44_1 H locs hL1 hl1 ls bl44_1 bu44_1 hn44 hW hT hM fx_1 fx_21 gx  hl
          refine lv_iload_n hx hb dX5_settle_44 rfl (lv_at hl 0 rfl) ?_
          refine lv_aload_n hx hb dX5_settle_45 rfl (lv_at hl 1 rfl) ?_
          refine hk_geti hx hb hts hC_5 hown hW gx tt_5 0 (by decide) rfl kw_258 ⟨rfl, rfl, rfl⟩ fx_1 dX5_settle_46 ?_
          refine hb_icmp_ge (zx := iv44_1.toInt) (zy := x_1.toInt) (tgt := 91) hx hb rfl rfl dX5_settle_49 (by decide) (fun c_32 => ?_) (fun c_32 => ?_)
          · skip
            refine lv_aload_n hx hb dX5_settle_91 rfl (lv_at hl 1 rfl) ?_
            refine lv_aload_n hx hb dX5_settle_92 rfl (lv_at hl 1 rfl) ?_
            refine hk_geti hx hb hts hC_5 hown hW gx tt_5 0 (by decide) rfl kw_258 ⟨rfl, rfl, rfl⟩ fx_1 dX5_settle_93 ?_
            refine hx_puti hx hb hts hC_5 hown hW hT (hx_S.rf (M := [(5, 1)])) gx tt_5 1 (by decide) rfl kw_260 ⟨rfl, rfl, rfl⟩ rfl (x := x_1) ⟨by omega, by omega⟩ rfl rfl rfl (List.mem_singleton.mpr rfl) dX5_settle_96 (fun H locs h_33 eh_33 hW hT hs => ?_)
            replace fx_1 := (hs.o gx trivial rfl).1.trans fx_1
            replace fx_21 := (hs.o gx trivial rfl).1.trans fx_21
            replace hM := hM.tr (hs.mono (by decide))
            replace gx := gx.S hs
            have f_34 : h_33.2.1 x 1 = x_1 := by rw [eh_33]; exact hx_pi_at _ _ _ _
            refine lv_aload_n hx hb dX5_settle_99 rfl (lv_at hl 1 rfl) ?_
            refine hx_geti hx hb hts hC_5 hown hW hT gx tt_5 11 (by decide) rfl kw_274 ⟨rfl, rfl, rfl⟩ dX5_settle_100 (fun x_35 ex_35 lx_35 ux_35 => ?_)
            have fx_35 := ex_35.symm
            exact hx_reti hx hb hr hlk hW ⟨trivial, hT, hM⟩ dX5_settle_103
          · skip
            refine lv_aload_n hx hb dX5_settle_52 rfl (lv_at hl 1 rfl) ?_
            refine hx_getn hx hb hts hC_5 hown hW hT gx tt_5 2 (by decide) rfl kw_262 ⟨rfl, rfl, rfl⟩ dX5_settle_53 (fun q_36 fq_36 gq_36 => ?_)
            refine lv_iload_n hx hb dX5_settle_56 rfl (lv_at hl 0 rfl) ?_
            refine lv_aload_n hx hb dX5_settle_57 rfl (lv_at hl 1 rfl) ?_
            refine hx_getn hx hb hts hC_5 hown hW hT gx tt_5 5 (by decide) rfl kw_268 ⟨rfl, rfl, rfl⟩ dX5_settle_58 (fun q_37 fq_37 gq_37 => ?_)
            refine lv_iload_n hx hb dX5_settle_61 rfl (lv_at hl 0 rfl) ?_
            refine hx_iald hx hb hW hT gq_37 tt_30 rfl ⟨by omega, by omega⟩ dX5_settle_62 (fun x_38 ex_38 lx_38 ux_38 => ?_)
            refine hx_iast hx hb hW hT (hx_S.rf (M := [(27, 0)])) gq_36 tt_27 rfl ⟨by omega, by omega⟩ rfl (i32_r _) (List.mem_singleton.mpr rfl) dX5_settle_63 (fun H locs h_39 eh_39 hW hT hs => ?_)
            replace fx_1 := (hs.o gx trivial rfl).1.trans fx_1
            replace fx_21 := (hs.o gx trivial rfl).1.trans fx_21
            replace fq_36 := (hs.o gx trivial rfl).2.trans fq_36
            replace fq_37 := (hs.o gx trivial rfl).2.trans fq_37
            replace hM := hM.tr (hs.mono (by decide))
            replace gx := gx.S hs
            replace gq_36 := gq_36.S hs
            replace gq_37 := gq_37.S hs
            refine lv_aload_n hx hb dX5_settle_64 rfl (lv_at hl 1 rfl) ?_
            refine hx_getn hx hb hts hC_5 hown hW hT gx tt_5 4 (by decide) rfl kw_266 ⟨rfl, rfl, rfl⟩ dX5_settle_65 (fun q_40 fq_40 gq_40 => ?_)
            refine lv_iload_n hx hb dX5_settle_68 rfl (lv_at hl 0 rfl) ?_
            refine lv_aload_n hx hb dX5_settle_69 rfl (lv_at hl 1 rfl) ?_
            refine hx_getn hx hb hts hC_5 hown hW hT gx tt_5 6 (by decide) rfl kw_269 ⟨rfl, rfl, rfl⟩ dX5_settle_70 (fun q_41 fq_41 gq_41 => ?_)
            refine lv_iload_n hx hb dX5_settle_73 rfl (lv_at hl 0 rfl) ?_
            refine hx_iald hx hb hW hT gq_41 tt_31 rfl ⟨by omega, by omega⟩ dX5_settle_74 (fun x_42 ex_42 lx_42 ux_42 => ?_)
            refine lv_aload_n hx hb dX5_settle_75 rfl (lv_at hl 1 rfl) ?_
            refine hx_getn hx hb hts hC_5 hown hW hT gx tt_5 3 (by decide) rfl kw_264 ⟨rfl, rfl, rfl⟩ dX5_settle_76 (fun q_43 fq_43 gq_43 => ?_)
            refine lv_iload_n hx hb dX5_settle_79 rfl (lv_at hl 0 rfl) ?_
            refine hx_iald hx hb hW hT gq_43 tt_28 rfl ⟨by omega, by omega⟩ dX5_settle_80 (fun x_44 ex_44 lx_44 ux_44 => ?_)
            refine hx_goi (hx_runSN (As := [.int x_42, .int x_44]) (rest := [.int iv44_1, .ref q_40]) ⟨hx, hb, hml, hown, hts⟩ hW (t_X9_roundUp l dC dI dA hL1 h_39 H.size x_42 x_44 hT) ⟨va_cnB 2 hts (hx_gC kw_921) rfl rfl rfl (hZ.1 _ (List.mem_of_getElem? (i := 10) rfl)) (hts _ kw_94) (by decide +kernel) ⟨Nat.le_of_ble_eq_true rfl, Nat.le_of_ble_eq_true rfl⟩, hts _ kw_920, trivial⟩ rfl hl.1 rfl (Nat.le_of_ble_eq_true rfl) dX5_settle_81 ⟨Nat.le_of_ble_eq_true rfl, Nat.le_of_ble_eq_true rfl⟩) hW (fun r_47 L_45 h_46 H locs p_48 hW => ?_)
            obtain ⟨hr_49, hT, hs⟩ := p_48
            replace hT : hx_T T_tb L_45 h_46 := hT
            replace hs : hx_S T_tb [] hL1 h_39 L_45 h_46 := hs
            replace fx_1 := (hs.o gx trivial rfl).1.trans fx_1
            replace fx_21 := (hs.o gx trivial rfl).1.trans fx_21
            replace fq_36 := (hs.o gx trivial rfl).2.trans fq_36
            replace fq_37 := (hs.o gx trivial rfl).2.trans fq_37
            replace fq_40 := (hs.o gx trivial rfl).2.trans fq_40
            replace fq_41 := (hs.o gx trivial rfl).2.trans fq_41
            replace fq_43 := (hs.o gx trivial rfl).2.trans fq_43
            replace hM := hM.tr (hs.mono (by decide))
            replace gx := gx.S hs
            replace gq_36 := gq_36.S hs
            replace gq_37 := gq_37.S hs
            replace gq_40 := gq_40.S hs
            replace gq_41 := gq_41.S hs
            replace gq_43 := gq_43.S hs
            refine hx_iast hx hb hW hT (hx_S.rf (M := [(29, 0)])) gq_40 tt_29 rfl ⟨by omega, by omega⟩ rfl (i32_r _) (List.mem_singleton.mpr rfl) dX5_settle_84 (fun H locs h_50 eh_50 hW hT hs => ?_)
            replace fx_1 := (hs.o gx trivial rfl).1.trans fx_1
            replace fx_21 := (hs.o gx trivial rfl).1.trans fx_21
            replace fq_36 := (hs.o gx trivial rfl).2.trans fq_36
            replace fq_37 := (hs.o gx trivial rfl).2.trans fq_37
            replace fq_40 := (hs.o gx trivial rfl).2.trans fq_40
            replace fq_41 := (hs.o gx trivial rfl).2.trans fq_41
            replace fq_43 := (hs.o gx trivial rfl).2.trans fq_43
            replace hM := hM.tr (hs.mono (by decide))
            replace gx := gx.S hs
            replace gq_36 := gq_36.S hs
            replace gq_37 := gq_37.S hs
            replace gq_40 := gq_40.S hs
            replace gq_41 := gq_41.S hs
            replace gq_43 := gq_43.S hs
            obtain ⟨x_51, ex_51⟩ : ∃ y : Int32, y = iv44_1 + Int32.ofInt 1 := ⟨_, rfl⟩
            have rg_52 := i32_r iv44_1
            have zx_51 : x_51.toInt = iv44_1.toInt + (1) := by rw [ex_51]; exact i32_add rfl (by decide) (by omega) (by omega)
            refine lv_iinc (v := x_51) (lv' := [(1, .int x_51), (0, .ref x)]) hx hb dX5_settle_85 hl (k := 0) rfl ex_51.symm (by decide) rfl (fun ls hl => ?_)
            refine lv_goto (tgt := 44) hx hb dX5_settle_88 (by decide) ?_
            exact ih44 x_51 _ _ L_45 h_50 ls (by omega) (by omega) (by omega) hW hT hM fx_1 fx_21 gx  (lv_sub hl [0, 1] rfl)
      exact loop44 5 (0 : Int32) _ _ L_27 h_28 ls (by decide) (by decide) (by decide) hW hT hM fx_1 fx_21 gx  hl
    · skip
      refine lv_bipush (v := -2) hx hb dX5_settle_19 (by decide) ?_
      exact hx_reti hx hb hr hlk hW ⟨trivial, hT, hM⟩ dX5_settle_21

def wLX7_goOn_0 : List Nat := [42, 180, 0, 22, 27, 4, 100, 46, 16, 40, 104, 62, 27, 4, 164, 0, 25, 42, 27, 28, 42, 180, 0, 19, 29, 42, 180, 0, 22, 3, 46, 96, 46, 184, 0, 42, 182, 0, 48, 42, 180, 0, 22, 3, 46, 4, 96, 54, 4, 21, 4, 42, 180, 0, 28, 162, 0, 70, 27, 7, 162, 0, 65, 42]
def wLX7_goOn_1 : List Nat := [180, 0, 19, 29, 21, 4, 96, 46, 54, 5, 21, 5, 158, 0, 43, 21, 5, 42, 180, 0, 34, 161, 0, 34, 42, 21, 4, 27, 182, 0, 51, 154, 0, 24, 42, 180, 0, 22, 27, 21, 4, 79, 42, 27, 4, 96, 28, 21, 5, 184, 0, 42, 182, 0, 38, 132, 4, 1, 167, 255, 183, 177]
theorem wX7_goOn_0 : (cX7_goOn.data.toList.map UInt8.toNat).drop 0 = wLX7_goOn_0 ++ (wLX7_goOn_1 ++ ([])) := by decide +kernel
theorem wX7_goOn_1 : (cX7_goOn.data.toList.map UInt8.toNat).drop 64 = wLX7_goOn_1 ++ ([]) := hz_wn wX7_goOn_0 rfl
theorem dX7_goOn_0 : decode cX7_goOn 0 = .ok (.aload_n 0, 1) := dq_42 (hz_wg wX7_goOn_0 (j := 0) (n := 42) rfl)
theorem dX7_goOn_1 : decode cX7_goOn 1 = .ok (.getfield 22, 3) := dq_180 (hz_wg wX7_goOn_0 (j := 1) (n := 180) rfl) (hz_wg wX7_goOn_0 (j := 2) (n := 0) rfl) (hz_wg wX7_goOn_0 (j := 3) (n := 22) rfl) rfl
theorem dX7_goOn_4 : decode cX7_goOn 4 = .ok (.iload_n 1, 1) := dq_27 (hz_wg wX7_goOn_0 (j := 4) (n := 27) rfl)
theorem dX7_goOn_5 : decode cX7_goOn 5 = .ok (.iconst 1, 1) := dq_4 (hz_wg wX7_goOn_0 (j := 5) (n := 4) rfl)
theorem dX7_goOn_6 : decode cX7_goOn 6 = .ok (.isub, 1) := dq_100 (hz_wg wX7_goOn_0 (j := 6) (n := 100) rfl)
theorem dX7_goOn_7 : decode cX7_goOn 7 = .ok (.iaload, 1) := dq_46 (hz_wg wX7_goOn_0 (j := 7) (n := 46) rfl)
theorem dX7_goOn_8 : decode cX7_goOn 8 = .ok (.bipush 40, 2) := dq_16 (hz_wg wX7_goOn_0 (j := 8) (n := 16) rfl) (hz_wg wX7_goOn_0 (j := 9) (n := 40) rfl) (by decide)
theorem dX7_goOn_10 : decode cX7_goOn 10 = .ok (.imul, 1) := dq_104 (hz_wg wX7_goOn_0 (j := 10) (n := 104) rfl)
theorem dX7_goOn_11 : decode cX7_goOn 11 = .ok (.istore_n 3, 1) := dq_62 (hz_wg wX7_goOn_0 (j := 11) (n := 62) rfl)
theorem dX7_goOn_12 : decode cX7_goOn 12 = .ok (.iload_n 1, 1) := dq_27 (hz_wg wX7_goOn_0 (j := 12) (n := 27) rfl)
theorem dX7_goOn_13 : decode cX7_goOn 13 = .ok (.iconst 1, 1) := dq_4 (hz_wg wX7_goOn_0 (j := 13) (n := 4) rfl)
theorem dX7_goOn_14 : decode cX7_goOn 14 = .ok (.if_icmp .le 25, 3) := dq_164 (hz_wg wX7_goOn_0 (j := 14) (n := 164) rfl) (hz_wg wX7_goOn_0 (j := 15) (n := 0) rfl) (hz_wg wX7_goOn_0 (j := 16) (n := 25) rfl) (by decide)
theorem dX7_goOn_17 : decode cX7_goOn 17 = .ok (.aload_n 0, 1) := dq_42 (hz_wg wX7_goOn_0 (j := 17) (n := 42) rfl)
theorem dX7_goOn_18 : decode cX7_goOn 18 = .ok (.iload_n 1, 1) := dq_27 (hz_wg wX7_goOn_0 (j := 18) (n := 27) rfl)
theorem dX7_goOn_19 : decode cX7_goOn 19 = .ok (.iload_n 2, 1) := dq_28 (hz_wg wX7_goOn_0 (j := 19) (n := 28) rfl)
theorem dX7_goOn_20 : decode cX7_goOn 20 = .ok (.aload_n 0, 1) := dq_42 (hz_wg wX7_goOn_0 (j := 20) (n := 42) rfl)
theorem dX7_goOn_21 : decode cX7_goOn 21 = .ok (.getfield 19, 3) := dq_180 (hz_wg wX7_goOn_0 (j := 21) (n := 180) rfl) (hz_wg wX7_goOn_0 (j := 22) (n := 0) rfl) (hz_wg wX7_goOn_0 (j := 23) (n := 19) rfl) rfl
theorem dX7_goOn_24 : decode cX7_goOn 24 = .ok (.iload_n 3, 1) := dq_29 (hz_wg wX7_goOn_0 (j := 24) (n := 29) rfl)
theorem dX7_goOn_25 : decode cX7_goOn 25 = .ok (.aload_n 0, 1) := dq_42 (hz_wg wX7_goOn_0 (j := 25) (n := 42) rfl)
theorem dX7_goOn_26 : decode cX7_goOn 26 = .ok (.getfield 22, 3) := dq_180 (hz_wg wX7_goOn_0 (j := 26) (n := 180) rfl) (hz_wg wX7_goOn_0 (j := 27) (n := 0) rfl) (hz_wg wX7_goOn_0 (j := 28) (n := 22) rfl) rfl
theorem dX7_goOn_29 : decode cX7_goOn 29 = .ok (.iconst 0, 1) := dq_3 (hz_wg wX7_goOn_0 (j := 29) (n := 3) rfl)
theorem dX7_goOn_30 : decode cX7_goOn 30 = .ok (.iaload, 1) := dq_46 (hz_wg wX7_goOn_0 (j := 30) (n := 46) rfl)
theorem dX7_goOn_31 : decode cX7_goOn 31 = .ok (.iadd, 1) := dq_96 (hz_wg wX7_goOn_0 (j := 31) (n := 96) rfl)
theorem dX7_goOn_32 : decode cX7_goOn 32 = .ok (.iaload, 1) := dq_46 (hz_wg wX7_goOn_0 (j := 32) (n := 46) rfl)
theorem dX7_goOn_33 : decode cX7_goOn 33 = .ok (.invokestatic 42, 3) := dq_184 (hz_wg wX7_goOn_0 (j := 33) (n := 184) rfl) (hz_wg wX7_goOn_0 (j := 34) (n := 0) rfl) (hz_wg wX7_goOn_0 (j := 35) (n := 42) rfl) rfl
theorem dX7_goOn_36 : decode cX7_goOn 36 = .ok (.invokevirtual 48, 3) := dq_182 (hz_wg wX7_goOn_0 (j := 36) (n := 182) rfl) (hz_wg wX7_goOn_0 (j := 37) (n := 0) rfl) (hz_wg wX7_goOn_0 (j := 38) (n := 48) rfl) rfl
theorem dX7_goOn_39 : decode cX7_goOn 39 = .ok (.aload_n 0, 1) := dq_42 (hz_wg wX7_goOn_0 (j := 39) (n := 42) rfl)
theorem dX7_goOn_40 : decode cX7_goOn 40 = .ok (.getfield 22, 3) := dq_180 (hz_wg wX7_goOn_0 (j := 40) (n := 180) rfl) (hz_wg wX7_goOn_0 (j := 41) (n := 0) rfl) (hz_wg wX7_goOn_0 (j := 42) (n := 22) rfl) rfl
theorem dX7_goOn_43 : decode cX7_goOn 43 = .ok (.iconst 0, 1) := dq_3 (hz_wg wX7_goOn_0 (j := 43) (n := 3) rfl)
theorem dX7_goOn_44 : decode cX7_goOn 44 = .ok (.iaload, 1) := dq_46 (hz_wg wX7_goOn_0 (j := 44) (n := 46) rfl)
theorem dX7_goOn_45 : decode cX7_goOn 45 = .ok (.iconst 1, 1) := dq_4 (hz_wg wX7_goOn_0 (j := 45) (n := 4) rfl)
theorem dX7_goOn_46 : decode cX7_goOn 46 = .ok (.iadd, 1) := dq_96 (hz_wg wX7_goOn_0 (j := 46) (n := 96) rfl)
theorem dX7_goOn_47 : decode cX7_goOn 47 = .ok (.istore 4, 2) := dq_54 (hz_wg wX7_goOn_0 (j := 47) (n := 54) rfl) (hz_wg wX7_goOn_0 (j := 48) (n := 4) rfl)
theorem dX7_goOn_49 : decode cX7_goOn 49 = .ok (.iload 4, 2) := dq_21 (hz_wg wX7_goOn_0 (j := 49) (n := 21) rfl) (hz_wg wX7_goOn_0 (j := 50) (n := 4) rfl)
theorem dX7_goOn_51 : decode cX7_goOn 51 = .ok (.aload_n 0, 1) := dq_42 (hz_wg wX7_goOn_0 (j := 51) (n := 42) rfl)
theorem dX7_goOn_52 : decode cX7_goOn 52 = .ok (.getfield 28, 3) := dq_180 (hz_wg wX7_goOn_0 (j := 52) (n := 180) rfl) (hz_wg wX7_goOn_0 (j := 53) (n := 0) rfl) (hz_wg wX7_goOn_0 (j := 54) (n := 28) rfl) rfl
theorem dX7_goOn_55 : decode cX7_goOn 55 = .ok (.if_icmp .ge 70, 3) := dq_162 (hz_wg wX7_goOn_0 (j := 55) (n := 162) rfl) (hz_wg wX7_goOn_0 (j := 56) (n := 0) rfl) (hz_wg wX7_goOn_0 (j := 57) (n := 70) rfl) (by decide)
theorem dX7_goOn_58 : decode cX7_goOn 58 = .ok (.iload_n 1, 1) := dq_27 (hz_wg wX7_goOn_0 (j := 58) (n := 27) rfl)
theorem dX7_goOn_59 : decode cX7_goOn 59 = .ok (.iconst 4, 1) := dq_7 (hz_wg wX7_goOn_0 (j := 59) (n := 7) rfl)
theorem dX7_goOn_60 : decode cX7_goOn 60 = .ok (.if_icmp .ge 65, 3) := dq_162 (hz_wg wX7_goOn_0 (j := 60) (n := 162) rfl) (hz_wg wX7_goOn_0 (j := 61) (n := 0) rfl) (hz_wg wX7_goOn_0 (j := 62) (n := 65) rfl) (by decide)
theorem dX7_goOn_125 : decode cX7_goOn 125 = .ok (.return_, 1) := dq_177 (hz_wg wX7_goOn_1 (j := 61) (n := 177) rfl)
set_option maxHeartbeats 4000000 in
set_option maxRecDepth 100000 in
theorem t_X7_goOn_4 (l : Launch) (dC : Nat → ClassId) (dI : Nat → Nat → Nat) (dA : Nat → ClassId) (L : List Nat) (h : hx_h) (sz : Nat) (x : Nat) (i2 : Int32) (hT : hx_T T_tb L h) (gx : hx_g L h x 7)  : Met l yX7_goOn (Cond.code yX7_goOn cX7_goOn 6 none :: hx_all) ({ frames := 2, cells := 0, slots := 0, locals := 62 }) (va_Pc [.ref x, .int (4 : Int32), .int i2] (hx_B T_tb (P_ty dA) (dC, dI) vwCl L h sz)) (va_Qv (fun (u : List Nat × hx_h) => hx_T T_tb u.1 u.2 ∧ hx_S T_tb [(7, 1), (7, 2), (38, 0)] L h u.1 u.2) (hx_E T_tb (P_ty dA) (dC, dI) vwCl (hx_A L sz)) (hx_A L sz)) 0 0 (hx_A L sz) := by
  refine hx_met (lv := [(0, .ref x), (1, .int (4 : Int32)), (2, .int i2)]) (by decide +kernel) rfl (Nat.le_of_ble_eq_true rfl) rfl ?_
  intro p e s m below meth c hx hb hml hr hlk hts0 hown hin hsz hW ls hl
  have hts : ∀ w ∈ hx_all, w.before _ s = true := fun w hw => hts0 w (List.mem_cons_of_mem _ hw)
  have hown : s.vm.findClass "SmallCourt$Rings" = some m.cls := hown
  have hM : hx_S T_tb [(7, 1), (7, 2), (38, 0)] L h L h := hx_S.rf
  refine lv_aload_n hx hb dX7_goOn_0 rfl (lv_at hl 0 rfl) ?_
  refine hx_getn hx hb hts hC_7 hown hW hT gx tt_7 6 (by decide) rfl kw_319 ⟨rfl, rfl, rfl⟩ dX7_goOn_1 (fun q_1 fq_1 gq_1 => ?_)
  refine lv_iload_n hx hb dX7_goOn_4 rfl (lv_at hl 1 rfl) ?_
  refine lv_iconst (v := 1) hx hb dX7_goOn_5 (by decide) ?_
  refine lv_isub hx hb dX7_goOn_6 ?_
  refine lv_topi (fun x_2 ex_2 => ?_)
  obtain rfl : x_2 = (3 : Int32) := ex_2.trans (by decide)
  refine hx_iald hx hb hW hT gq_1 tt_37 rfl (by decide) dX7_goOn_7 (fun x_3 ex_3 lx_3 ux_3 => ?_)
  refine lv_bipush (v := 40) hx hb dX7_goOn_8 (by decide) ?_
  refine lv_imul hx hb dX7_goOn_10 ?_
  refine lv_topi (fun x_4 ex_4 => ?_)
  have zx_4 : x_4.toInt = x_3.toInt * 40 := by rw [ex_4]; exact i32_mul rfl (by decide) rfl (by omega) (by omega)
  refine lv_istore_n (lv' := [(3, .int x_4), (0, .ref x), (1, .int (4 : Int32)), (2, .int i2)]) hx hb dX7_goOn_11 rfl hl (by decide) rfl (fun ls hl => ?_)
  refine lv_iload_n hx hb dX7_goOn_12 rfl (lv_at hl 2 rfl) ?_
  refine lv_iconst (v := 1) hx hb dX7_goOn_13 (by decide) ?_
  refine hb_icmp_le (zx := 4) (zy := 1) (tgt := 39) hx hb (by decide) (by decide) dX7_goOn_14 (by decide) (fun c_5 => absurd c_5 (by decide)) (fun c_5 => ?_)
  refine lv_aload_n hx hb dX7_goOn_17 rfl (lv_at hl 1 rfl) ?_
  refine lv_iload_n hx hb dX7_goOn_18 rfl (lv_at hl 2 rfl) ?_
  refine lv_iload_n hx hb dX7_goOn_19 rfl (lv_at hl 3 rfl) ?_
  refine lv_aload_n hx hb dX7_goOn_20 rfl (lv_at hl 1 rfl) ?_
  refine hx_getn hx hb hts hC_7 hown hW hT gx tt_7 5 (by decide) rfl kw_318 ⟨rfl, rfl, rfl⟩ dX7_goOn_21 (fun q_6 fq_6 gq_6 => ?_)
  refine lv_iload_n hx hb dX7_goOn_24 rfl (lv_at hl 0 rfl) ?_
  refine lv_aload_n hx hb dX7_goOn_25 rfl (lv_at hl 1 rfl) ?_
  refine hk_getr hx hb hts hC_7 hown hW gx tt_7 6 (by decide) rfl kw_319 ⟨rfl, rfl, rfl⟩ fq_1 dX7_goOn_26 ?_
  refine lv_iconst (v := 0) hx hb dX7_goOn_29 (by decide) ?_
  refine hx_iald hx hb hW hT gq_1 tt_37 rfl (by decide) dX7_goOn_30 (fun x_7 ex_7 lx_7 ux_7 => ?_)
  refine lv_iadd hx hb dX7_goOn_31 ?_
  have rg_8 := i32_r x_4
  have rg_9 := i32_r x_7
  refine lv_topi (fun x_10 ex_10 => ?_)
  have zx_10 : x_10.toInt = x_4.toInt + x_7.toInt := by rw [ex_10]; exact i32_add rfl rfl (by omega) (by omega)
  refine hx_iald hx hb hW hT gq_6 tt_36 rfl ⟨by omega, by omega⟩ dX7_goOn_32 (fun x_11 ex_11 lx_11 ux_11 => ?_)
  refine va_mmin hx hb (hml.trans hl.1.symm) hown (hts _ kw_1002) (hts _ kw_917) (hts _ kw_109) (hts _ kw_918) (Nat.le_of_ble_eq_true rfl) (Nat.le_of_ble_eq_true rfl) (Nat.le_of_ble_eq_true rfl) (Nat.le_of_ble_eq_true rfl) dX7_goOn_33 ?_
  refine lv_topi (fun x_12 ex_12 => ?_)
  refine hx_gov (hx_runV (As := [.int (4 : Int32), .int x_12]) (rest := []) ⟨hx, hb, hml, hown, hts⟩ hW gx tt_7 (T := TX7) (N := 8) rfl (t_X7_keepIfBetter l dC dI dA L h s.heap.size x (4 : Int32) x_12 hT gx (by decide)) (cwV 2 hts (hx_gV kw_1006 kw_1003 kw_1005 kw_37 kw_101) rfl rfl rfl (by decide +kernel) ⟨Nat.le_of_ble_eq_true rfl, Nat.le_of_ble_eq_true rfl⟩) rfl hl.1 rfl (Nat.le_of_ble_eq_true rfl) dX7_goOn_36 ⟨Nat.le_of_ble_eq_true rfl, Nat.le_of_ble_eq_true rfl⟩) hW (fun L_13 h_14 H locs p_16 hW => ?_)
  obtain ⟨hT, hs⟩ := p_16
  replace hT : hx_T T_tb L_13 h_14 := hT
  replace hs : hx_S T_tb [(7, 1), (7, 2), (38, 0)] L h L_13 h_14 := hs
  replace fq_1 := (hs.o gx trivial rfl).2.trans fq_1
  replace fq_6 := (hs.o gx trivial rfl).2.trans fq_6
  replace hM := hM.tr (hs.mono (by decide))
  replace gx := gx.S hs
  replace gq_1 := gq_1.S hs
  replace gq_6 := gq_6.S hs
  refine lv_aload_n hx hb dX7_goOn_39 rfl (lv_at hl 1 rfl) ?_
  refine hk_getr hx hb hts hC_7 hown hW gx tt_7 6 (by decide) rfl kw_319 ⟨rfl, rfl, rfl⟩ fq_1 dX7_goOn_40 ?_
  refine lv_iconst (v := 0) hx hb dX7_goOn_43 (by decide) ?_
  refine hx_iald hx hb hW hT gq_1 tt_37 rfl (by decide) dX7_goOn_44 (fun x_18 ex_18 lx_18 ux_18 => ?_)
  refine lv_iconst (v := 1) hx hb dX7_goOn_45 (by decide) ?_
  refine lv_iadd hx hb dX7_goOn_46 ?_
  have rg_19 := i32_r x_18
  refine lv_topi (fun x_20 ex_20 => ?_)
  have zx_20 : x_20.toInt = x_18.toInt + 1 := by rw [ex_20]; exact i32_add rfl (by decide) (by omega) (by omega)
  refine lv_istore (lv' := [(4, .int x_20), (3, .int x_4), (0, .ref x), (1, .int (4 : Int32)), (2, .int i2)]) hx hb dX7_goOn_47 hl (by decide) rfl (fun ls hl => ?_)
  have loop49 : ∀ (n49 : Nat) (iv49_4 : Int32) (H : Heap) (locs : List Loc) (hL1 : List Nat) (hl1 : hx_h) (ls : Array Slot), 1 ≤ iv49_4.toInt → iv49_4.toInt ≤ 40 → 40 < iv49_4.toInt + n49 → hx_W T_tb (P_ty dA) (dC, dI) vwCl (hx_A L sz) s.heap hL1 hl1 s H locs → hx_T T_tb hL1 hl1 → hx_S T_tb [(7, 1), (7, 2), (38, 0)] L h hL1 hl1 → hl1.2.2 x 6 = some q_1 → hl1.2.2 x 5 = some q_6 → hx_g hL1 hl1 x 7 → hx_g hL1 hl1 q_1 37 → hx_g hL1 hl1 q_6 36 → lv_has ls 6 [(4, .int iv49_4), (3, .int x_4), (0, .ref x), (1, .int (4 : Int32)), (2, .int i2)] → W p l e ({ frames := 2, cells := 0, slots := 0, locals := 62 }) s m ([.ref x, .int (4 : Int32), .int i2] : List Value).toArray below meth c H locs 0 0 (MQ below (va_Qv (fun (u : List Nat × hx_h) => hx_T T_tb u.1 u.2 ∧ hx_S T_tb [(7, 1), (7, 2), (38, 0)] L h u.1 u.2) (hx_E T_tb (P_ty dA) (dC, dI) vwCl (hx_A L sz)) (hx_A L sz)) ([.ref x, .int (4 : Int32), .int i2] : List Value).toArray s 0 0 (hx_A L sz)) (F0 m 49 ls []) := by
    intro n49
    induction n49 with
    | zero => intro iv49_4 H locs hL1 hl1 ls bl49_4 bu49_4 hn49; exfalso; omega
    | succ n49 ih49 =>
      intro iv49_4 H locs hL1 hl1 ls bl49_4 bu49_4 hn49 hW hT hM fq_1 fq_6 gx gq_1 gq_6  hl
      refine lv_iload hx hb dX7_goOn_49 (lv_at hl 0 rfl) ?_
      refine lv_aload_n hx hb dX7_goOn_51 rfl (lv_at hl 2 rfl) ?_
      refine hx_geti hx hb hts hC_7 hown hW hT gx tt_7 4 (by decide) rfl kw_317 ⟨rfl, rfl, rfl⟩ dX7_goOn_52 (fun x_21 ex_21 lx_21 ux_21 => ?_)
      have fx_21 := ex_21.symm
      refine hb_icmp_ge (zx := iv49_4.toInt) (zy := x_21.toInt) (tgt := 125) hx hb rfl rfl dX7_goOn_55 (by decide) (fun c_22 => ?_) (fun c_22 => ?_)
      · skip
        exact hx_retv hx hb hr hlk hW ⟨hT, hM⟩ dX7_goOn_125
      · skip
        refine lv_iload_n hx hb dX7_goOn_58 rfl (lv_at hl 3 rfl) ?_
        refine lv_iconst (v := 4) hx hb dX7_goOn_59 (by decide) ?_
        refine hb_icmp_ge (zx := 4) (zy := 4) (tgt := 125) hx hb (by decide) (by decide) dX7_goOn_60 (by decide) (fun c_23 => ?_) (fun c_23 => absurd c_23 (by decide))
        exact hx_retv hx hb hr hlk hW ⟨hT, hM⟩ dX7_goOn_125
  exact loop49 40 x_20 _ _ L_13 h_14 ls (by omega) (by omega) (by omega) hW hT hM fq_1 fq_6 gx gq_1 gq_6  hl

theorem dX7_goOn_63 : decode cX7_goOn 63 = .ok (.aload_n 0, 1) := dq_42 (hz_wg wX7_goOn_0 (j := 63) (n := 42) rfl)
theorem dX7_goOn_64 : decode cX7_goOn 64 = .ok (.getfield 19, 3) := dq_180 (hz_wg wX7_goOn_1 (j := 0) (n := 180) rfl) (hz_wg wX7_goOn_1 (j := 1) (n := 0) rfl) (hz_wg wX7_goOn_1 (j := 2) (n := 19) rfl) rfl
theorem dX7_goOn_67 : decode cX7_goOn 67 = .ok (.iload_n 3, 1) := dq_29 (hz_wg wX7_goOn_1 (j := 3) (n := 29) rfl)
theorem dX7_goOn_68 : decode cX7_goOn 68 = .ok (.iload 4, 2) := dq_21 (hz_wg wX7_goOn_1 (j := 4) (n := 21) rfl) (hz_wg wX7_goOn_1 (j := 5) (n := 4) rfl)
theorem dX7_goOn_70 : decode cX7_goOn 70 = .ok (.iadd, 1) := dq_96 (hz_wg wX7_goOn_1 (j := 6) (n := 96) rfl)
theorem dX7_goOn_71 : decode cX7_goOn 71 = .ok (.iaload, 1) := dq_46 (hz_wg wX7_goOn_1 (j := 7) (n := 46) rfl)
theorem dX7_goOn_72 : decode cX7_goOn 72 = .ok (.istore 5, 2) := dq_54 (hz_wg wX7_goOn_1 (j := 8) (n := 54) rfl) (hz_wg wX7_goOn_1 (j := 9) (n := 5) rfl)
theorem dX7_goOn_74 : decode cX7_goOn 74 = .ok (.iload 5, 2) := dq_21 (hz_wg wX7_goOn_1 (j := 10) (n := 21) rfl) (hz_wg wX7_goOn_1 (j := 11) (n := 5) rfl)
theorem dX7_goOn_76 : decode cX7_goOn 76 = .ok (.ifCond .le 43, 3) := dq_158 (hz_wg wX7_goOn_1 (j := 12) (n := 158) rfl) (hz_wg wX7_goOn_1 (j := 13) (n := 0) rfl) (hz_wg wX7_goOn_1 (j := 14) (n := 43) rfl) (by decide)
theorem dX7_goOn_79 : decode cX7_goOn 79 = .ok (.iload 5, 2) := dq_21 (hz_wg wX7_goOn_1 (j := 15) (n := 21) rfl) (hz_wg wX7_goOn_1 (j := 16) (n := 5) rfl)
theorem dX7_goOn_81 : decode cX7_goOn 81 = .ok (.aload_n 0, 1) := dq_42 (hz_wg wX7_goOn_1 (j := 17) (n := 42) rfl)
theorem dX7_goOn_82 : decode cX7_goOn 82 = .ok (.getfield 34, 3) := dq_180 (hz_wg wX7_goOn_1 (j := 18) (n := 180) rfl) (hz_wg wX7_goOn_1 (j := 19) (n := 0) rfl) (hz_wg wX7_goOn_1 (j := 20) (n := 34) rfl) rfl
theorem dX7_goOn_85 : decode cX7_goOn 85 = .ok (.if_icmp .lt 34, 3) := dq_161 (hz_wg wX7_goOn_1 (j := 21) (n := 161) rfl) (hz_wg wX7_goOn_1 (j := 22) (n := 0) rfl) (hz_wg wX7_goOn_1 (j := 23) (n := 34) rfl) (by decide)
theorem dX7_goOn_88 : decode cX7_goOn 88 = .ok (.aload_n 0, 1) := dq_42 (hz_wg wX7_goOn_1 (j := 24) (n := 42) rfl)
theorem dX7_goOn_89 : decode cX7_goOn 89 = .ok (.iload 4, 2) := dq_21 (hz_wg wX7_goOn_1 (j := 25) (n := 21) rfl) (hz_wg wX7_goOn_1 (j := 26) (n := 4) rfl)
theorem dX7_goOn_91 : decode cX7_goOn 91 = .ok (.iload_n 1, 1) := dq_27 (hz_wg wX7_goOn_1 (j := 27) (n := 27) rfl)
theorem dX7_goOn_92 : decode cX7_goOn 92 = .ok (.invokevirtual 51, 3) := dq_182 (hz_wg wX7_goOn_1 (j := 28) (n := 182) rfl) (hz_wg wX7_goOn_1 (j := 29) (n := 0) rfl) (hz_wg wX7_goOn_1 (j := 30) (n := 51) rfl) rfl
theorem dX7_goOn_95 : decode cX7_goOn 95 = .ok (.ifCond .ne 24, 3) := dq_154 (hz_wg wX7_goOn_1 (j := 31) (n := 154) rfl) (hz_wg wX7_goOn_1 (j := 32) (n := 0) rfl) (hz_wg wX7_goOn_1 (j := 33) (n := 24) rfl) (by decide)
theorem dX7_goOn_98 : decode cX7_goOn 98 = .ok (.aload_n 0, 1) := dq_42 (hz_wg wX7_goOn_1 (j := 34) (n := 42) rfl)
theorem dX7_goOn_99 : decode cX7_goOn 99 = .ok (.getfield 22, 3) := dq_180 (hz_wg wX7_goOn_1 (j := 35) (n := 180) rfl) (hz_wg wX7_goOn_1 (j := 36) (n := 0) rfl) (hz_wg wX7_goOn_1 (j := 37) (n := 22) rfl) rfl
theorem dX7_goOn_102 : decode cX7_goOn 102 = .ok (.iload_n 1, 1) := dq_27 (hz_wg wX7_goOn_1 (j := 38) (n := 27) rfl)
theorem dX7_goOn_103 : decode cX7_goOn 103 = .ok (.iload 4, 2) := dq_21 (hz_wg wX7_goOn_1 (j := 39) (n := 21) rfl) (hz_wg wX7_goOn_1 (j := 40) (n := 4) rfl)
theorem dX7_goOn_105 : decode cX7_goOn 105 = .ok (.iastore, 1) := dq_79 (hz_wg wX7_goOn_1 (j := 41) (n := 79) rfl)
theorem dX7_goOn_106 : decode cX7_goOn 106 = .ok (.aload_n 0, 1) := dq_42 (hz_wg wX7_goOn_1 (j := 42) (n := 42) rfl)
theorem dX7_goOn_107 : decode cX7_goOn 107 = .ok (.iload_n 1, 1) := dq_27 (hz_wg wX7_goOn_1 (j := 43) (n := 27) rfl)
theorem dX7_goOn_108 : decode cX7_goOn 108 = .ok (.iconst 1, 1) := dq_4 (hz_wg wX7_goOn_1 (j := 44) (n := 4) rfl)
theorem dX7_goOn_109 : decode cX7_goOn 109 = .ok (.iadd, 1) := dq_96 (hz_wg wX7_goOn_1 (j := 45) (n := 96) rfl)
theorem dX7_goOn_110 : decode cX7_goOn 110 = .ok (.iload_n 2, 1) := dq_28 (hz_wg wX7_goOn_1 (j := 46) (n := 28) rfl)
theorem dX7_goOn_111 : decode cX7_goOn 111 = .ok (.iload 5, 2) := dq_21 (hz_wg wX7_goOn_1 (j := 47) (n := 21) rfl) (hz_wg wX7_goOn_1 (j := 48) (n := 5) rfl)
theorem dX7_goOn_113 : decode cX7_goOn 113 = .ok (.invokestatic 42, 3) := dq_184 (hz_wg wX7_goOn_1 (j := 49) (n := 184) rfl) (hz_wg wX7_goOn_1 (j := 50) (n := 0) rfl) (hz_wg wX7_goOn_1 (j := 51) (n := 42) rfl) rfl
theorem dX7_goOn_116 : decode cX7_goOn 116 = .ok (.invokevirtual 38, 3) := dq_182 (hz_wg wX7_goOn_1 (j := 52) (n := 182) rfl) (hz_wg wX7_goOn_1 (j := 53) (n := 0) rfl) (hz_wg wX7_goOn_1 (j := 54) (n := 38) rfl) rfl
theorem dX7_goOn_119 : decode cX7_goOn 119 = .ok (.iinc 4 1, 3) := dq_132 (hz_wg wX7_goOn_1 (j := 55) (n := 132) rfl) (hz_wg wX7_goOn_1 (j := 56) (n := 4) rfl) (hz_wg wX7_goOn_1 (j := 57) (n := 1) rfl) (by decide)
theorem dX7_goOn_122 : decode cX7_goOn 122 = .ok (.goto (-73), 3) := dq_167 (hz_wg wX7_goOn_1 (j := 58) (n := 167) rfl) (hz_wg wX7_goOn_1 (j := 59) (n := 255) rfl) (hz_wg wX7_goOn_1 (j := 60) (n := 183) rfl) (by decide)
set_option maxHeartbeats 4000000 in
set_option maxRecDepth 100000 in
theorem t_X7_goOn_3 (l : Launch) (dC : Nat → ClassId) (dI : Nat → Nat → Nat) (dA : Nat → ClassId) (L : List Nat) (h : hx_h) (sz : Nat) (x : Nat) (i2 : Int32) (hT : hx_T T_tb L h) (gx : hx_g L h x 7)  : Met l yX7_goOn (Cond.code yX7_goOn cX7_goOn 6 none :: hx_all) ({ frames := 3, cells := 0, slots := 0, locals := 87 }) (va_Pc [.ref x, .int (3 : Int32), .int i2] (hx_B T_tb (P_ty dA) (dC, dI) vwCl L h sz)) (va_Qv (fun (u : List Nat × hx_h) => hx_T T_tb u.1 u.2 ∧ hx_S T_tb [(7, 1), (7, 2), (37, 0), (38, 0)] L h u.1 u.2) (hx_E T_tb (P_ty dA) (dC, dI) vwCl (hx_A L sz)) (hx_A L sz)) 0 0 (hx_A L sz) := by
  refine hx_met (lv := [(0, .ref x), (1, .int (3 : Int32)), (2, .int i2)]) (by decide +kernel) rfl (Nat.le_of_ble_eq_true rfl) rfl ?_
  intro p e s m below meth c hx hb hml hr hlk hts0 hown hin hsz hW ls hl
  have hts : ∀ w ∈ hx_all, w.before _ s = true := fun w hw => hts0 w (List.mem_cons_of_mem _ hw)
  have hown : s.vm.findClass "SmallCourt$Rings" = some m.cls := hown
  have hM : hx_S T_tb [(7, 1), (7, 2), (37, 0), (38, 0)] L h L h := hx_S.rf
  refine lv_aload_n hx hb dX7_goOn_0 rfl (lv_at hl 0 rfl) ?_
  refine hx_getn hx hb hts hC_7 hown hW hT gx tt_7 6 (by decide) rfl kw_319 ⟨rfl, rfl, rfl⟩ dX7_goOn_1 (fun q_1 fq_1 gq_1 => ?_)
  refine lv_iload_n hx hb dX7_goOn_4 rfl (lv_at hl 1 rfl) ?_
  refine lv_iconst (v := 1) hx hb dX7_goOn_5 (by decide) ?_
  refine lv_isub hx hb dX7_goOn_6 ?_
  refine lv_topi (fun x_2 ex_2 => ?_)
  obtain rfl : x_2 = (2 : Int32) := ex_2.trans (by decide)
  refine hx_iald hx hb hW hT gq_1 tt_37 rfl (by decide) dX7_goOn_7 (fun x_3 ex_3 lx_3 ux_3 => ?_)
  refine lv_bipush (v := 40) hx hb dX7_goOn_8 (by decide) ?_
  refine lv_imul hx hb dX7_goOn_10 ?_
  refine lv_topi (fun x_4 ex_4 => ?_)
  have zx_4 : x_4.toInt = x_3.toInt * 40 := by rw [ex_4]; exact i32_mul rfl (by decide) rfl (by omega) (by omega)
  refine lv_istore_n (lv' := [(3, .int x_4), (0, .ref x), (1, .int (3 : Int32)), (2, .int i2)]) hx hb dX7_goOn_11 rfl hl (by decide) rfl (fun ls hl => ?_)
  refine lv_iload_n hx hb dX7_goOn_12 rfl (lv_at hl 2 rfl) ?_
  refine lv_iconst (v := 1) hx hb dX7_goOn_13 (by decide) ?_
  refine hb_icmp_le (zx := 3) (zy := 1) (tgt := 39) hx hb (by decide) (by decide) dX7_goOn_14 (by decide) (fun c_5 => absurd c_5 (by decide)) (fun c_5 => ?_)
  refine lv_aload_n hx hb dX7_goOn_17 rfl (lv_at hl 1 rfl) ?_
  refine lv_iload_n hx hb dX7_goOn_18 rfl (lv_at hl 2 rfl) ?_
  refine lv_iload_n hx hb dX7_goOn_19 rfl (lv_at hl 3 rfl) ?_
  refine lv_aload_n hx hb dX7_goOn_20 rfl (lv_at hl 1 rfl) ?_
  refine hx_getn hx hb hts hC_7 hown hW hT gx tt_7 5 (by decide) rfl kw_318 ⟨rfl, rfl, rfl⟩ dX7_goOn_21 (fun q_6 fq_6 gq_6 => ?_)
  refine lv_iload_n hx hb dX7_goOn_24 rfl (lv_at hl 0 rfl) ?_
  refine lv_aload_n hx hb dX7_goOn_25 rfl (lv_at hl 1 rfl) ?_
  refine hk_getr hx hb hts hC_7 hown hW gx tt_7 6 (by decide) rfl kw_319 ⟨rfl, rfl, rfl⟩ fq_1 dX7_goOn_26 ?_
  refine lv_iconst (v := 0) hx hb dX7_goOn_29 (by decide) ?_
  refine hx_iald hx hb hW hT gq_1 tt_37 rfl (by decide) dX7_goOn_30 (fun x_7 ex_7 lx_7 ux_7 => ?_)
  refine lv_iadd hx hb dX7_goOn_31 ?_
  have rg_8 := i32_r x_4
  have rg_9 := i32_r x_7
  refine lv_topi (fun x_10 ex_10 => ?_)
  have zx_10 : x_10.toInt = x_4.toInt + x_7.toInt := by rw [ex_10]; exact i32_add rfl rfl (by omega) (by omega)
  refine hx_iald hx hb hW hT gq_6 tt_36 rfl ⟨by omega, by omega⟩ dX7_goOn_32 (fun x_11 ex_11 lx_11 ux_11 => ?_)
  refine va_mmin hx hb (hml.trans hl.1.symm) hown (hts _ kw_1002) (hts _ kw_917) (hts _ kw_109) (hts _ kw_918) (Nat.le_of_ble_eq_true rfl) (Nat.le_of_ble_eq_true rfl) (Nat.le_of_ble_eq_true rfl) (Nat.le_of_ble_eq_true rfl) dX7_goOn_33 ?_
  refine lv_topi (fun x_12 ex_12 => ?_)
  refine hx_gov (hx_runV (As := [.int (3 : Int32), .int x_12]) (rest := []) ⟨hx, hb, hml, hown, hts⟩ hW gx tt_7 (T := TX7) (N := 8) rfl (t_X7_keepIfBetter l dC dI dA L h s.heap.size x (3 : Int32) x_12 hT gx (by decide)) (cwV 2 hts (hx_gV kw_1006 kw_1003 kw_1005 kw_37 kw_101) rfl rfl rfl (by decide +kernel) ⟨Nat.le_of_ble_eq_true rfl, Nat.le_of_ble_eq_true rfl⟩) rfl hl.1 rfl (Nat.le_of_ble_eq_true rfl) dX7_goOn_36 ⟨Nat.le_of_ble_eq_true rfl, Nat.le_of_ble_eq_true rfl⟩) hW (fun L_13 h_14 H locs p_16 hW => ?_)
  obtain ⟨hT, hs⟩ := p_16
  replace hT : hx_T T_tb L_13 h_14 := hT
  replace hs : hx_S T_tb [(7, 1), (7, 2), (38, 0)] L h L_13 h_14 := hs
  replace fq_1 := (hs.o gx trivial rfl).2.trans fq_1
  replace fq_6 := (hs.o gx trivial rfl).2.trans fq_6
  replace hM := hM.tr (hs.mono (by decide))
  replace gx := gx.S hs
  replace gq_1 := gq_1.S hs
  replace gq_6 := gq_6.S hs
  refine lv_aload_n hx hb dX7_goOn_39 rfl (lv_at hl 1 rfl) ?_
  refine hk_getr hx hb hts hC_7 hown hW gx tt_7 6 (by decide) rfl kw_319 ⟨rfl, rfl, rfl⟩ fq_1 dX7_goOn_40 ?_
  refine lv_iconst (v := 0) hx hb dX7_goOn_43 (by decide) ?_
  refine hx_iald hx hb hW hT gq_1 tt_37 rfl (by decide) dX7_goOn_44 (fun x_18 ex_18 lx_18 ux_18 => ?_)
  refine lv_iconst (v := 1) hx hb dX7_goOn_45 (by decide) ?_
  refine lv_iadd hx hb dX7_goOn_46 ?_
  have rg_19 := i32_r x_18
  refine lv_topi (fun x_20 ex_20 => ?_)
  have zx_20 : x_20.toInt = x_18.toInt + 1 := by rw [ex_20]; exact i32_add rfl (by decide) (by omega) (by omega)
  refine lv_istore (lv' := [(4, .int x_20), (3, .int x_4), (0, .ref x), (1, .int (3 : Int32)), (2, .int i2)]) hx hb dX7_goOn_47 hl (by decide) rfl (fun ls hl => ?_)
  have loop49 : ∀ (n49 : Nat) (iv49_4 : Int32) (H : Heap) (locs : List Loc) (hL1 : List Nat) (hl1 : hx_h) (ls : Array Slot), 1 ≤ iv49_4.toInt → iv49_4.toInt ≤ 40 → 40 < iv49_4.toInt + n49 → hx_W T_tb (P_ty dA) (dC, dI) vwCl (hx_A L sz) s.heap hL1 hl1 s H locs → hx_T T_tb hL1 hl1 → hx_S T_tb [(7, 1), (7, 2), (37, 0), (38, 0)] L h hL1 hl1 → hl1.2.2 x 6 = some q_1 → hl1.2.2 x 5 = some q_6 → hx_g hL1 hl1 x 7 → hx_g hL1 hl1 q_1 37 → hx_g hL1 hl1 q_6 36 → lv_has ls 6 [(4, .int iv49_4), (3, .int x_4), (0, .ref x), (1, .int (3 : Int32)), (2, .int i2)] → W p l e ({ frames := 3, cells := 0, slots := 0, locals := 87 }) s m ([.ref x, .int (3 : Int32), .int i2] : List Value).toArray below meth c H locs 0 0 (MQ below (va_Qv (fun (u : List Nat × hx_h) => hx_T T_tb u.1 u.2 ∧ hx_S T_tb [(7, 1), (7, 2), (37, 0), (38, 0)] L h u.1 u.2) (hx_E T_tb (P_ty dA) (dC, dI) vwCl (hx_A L sz)) (hx_A L sz)) ([.ref x, .int (3 : Int32), .int i2] : List Value).toArray s 0 0 (hx_A L sz)) (F0 m 49 ls []) := by
    intro n49
    induction n49 with
    | zero => intro iv49_4 H locs hL1 hl1 ls bl49_4 bu49_4 hn49; exfalso; omega
    | succ n49 ih49 =>
      intro iv49_4 H locs hL1 hl1 ls bl49_4 bu49_4 hn49 hW hT hM fq_1 fq_6 gx gq_1 gq_6  hl
      refine lv_iload hx hb dX7_goOn_49 (lv_at hl 0 rfl) ?_
      refine lv_aload_n hx hb dX7_goOn_51 rfl (lv_at hl 2 rfl) ?_
      refine hx_geti hx hb hts hC_7 hown hW hT gx tt_7 4 (by decide) rfl kw_317 ⟨rfl, rfl, rfl⟩ dX7_goOn_52 (fun x_21 ex_21 lx_21 ux_21 => ?_)
      have fx_21 := ex_21.symm
      refine hb_icmp_ge (zx := iv49_4.toInt) (zy := x_21.toInt) (tgt := 125) hx hb rfl rfl dX7_goOn_55 (by decide) (fun c_22 => ?_) (fun c_22 => ?_)
      · skip
        exact hx_retv hx hb hr hlk hW ⟨hT, hM⟩ dX7_goOn_125
      · skip
        refine lv_iload_n hx hb dX7_goOn_58 rfl (lv_at hl 3 rfl) ?_
        refine lv_iconst (v := 4) hx hb dX7_goOn_59 (by decide) ?_
        refine hb_icmp_ge (zx := 3) (zy := 4) (tgt := 125) hx hb (by decide) (by decide) dX7_goOn_60 (by decide) (fun c_23 => absurd c_23 (by decide)) (fun c_23 => ?_)
        refine lv_aload_n hx hb dX7_goOn_63 rfl (lv_at hl 2 rfl) ?_
        refine hk_getr hx hb hts hC_7 hown hW gx tt_7 5 (by decide) rfl kw_318 ⟨rfl, rfl, rfl⟩ fq_6 dX7_goOn_64 ?_
        refine lv_iload_n hx hb dX7_goOn_67 rfl (lv_at hl 1 rfl) ?_
        refine lv_iload hx hb dX7_goOn_68 (lv_at hl 0 rfl) ?_
        refine lv_iadd hx hb dX7_goOn_70 ?_
        have rg_24 := i32_r iv49_4
        refine lv_topi (fun x_25 ex_25 => ?_)
        have zx_25 : x_25.toInt = x_4.toInt + iv49_4.toInt := by rw [ex_25]; exact i32_add rfl rfl (by omega) (by omega)
        refine hx_iald hx hb hW hT gq_6 tt_36 rfl ⟨by omega, by omega⟩ dX7_goOn_71 (fun x_26 ex_26 lx_26 ux_26 => ?_)
        refine lv_istore (lv' := [(5, .int x_26), (4, .int iv49_4), (3, .int x_4), (0, .ref x), (1, .int (3 : Int32)), (2, .int i2)]) hx hb dX7_goOn_72 hl (by decide) rfl (fun ls hl => ?_)
        refine lv_iload hx hb dX7_goOn_74 (lv_at hl 0 rfl) ?_
        refine hb_if_le (zx := x_26.toInt) (tgt := 119) hx hb rfl dX7_goOn_76 (by decide) (fun c_27 => ?_) (fun c_27 => ?_)
        · skip
          obtain ⟨x_28, ex_28⟩ : ∃ y : Int32, y = iv49_4 + Int32.ofInt 1 := ⟨_, rfl⟩
          have zx_28 : x_28.toInt = iv49_4.toInt + (1) := by rw [ex_28]; exact i32_add rfl (by decide) (by omega) (by omega)
          refine lv_iinc (v := x_28) (lv' := [(4, .int x_28), (5, .int x_26), (3, .int x_4), (0, .ref x), (1, .int (3 : Int32)), (2, .int i2)]) hx hb dX7_goOn_119 hl (k := 1) rfl ex_28.symm (by decide) rfl (fun ls hl => ?_)
          refine lv_goto (tgt := 49) hx hb dX7_goOn_122 (by decide) ?_
          exact ih49 x_28 _ _ hL1 hl1 ls (by omega) (by omega) (by omega) hW hT hM fq_1 fq_6 gx gq_1 gq_6  (lv_sub hl [0, 2, 3, 4, 5] rfl)
        · skip
          refine lv_iload hx hb dX7_goOn_79 (lv_at hl 0 rfl) ?_
          refine lv_aload_n hx hb dX7_goOn_81 rfl (lv_at hl 3 rfl) ?_
          refine hx_geti hx hb hts hC_7 hown hW hT gx tt_7 2 (by decide) rfl kw_313 ⟨rfl, rfl, rfl⟩ dX7_goOn_82 (fun x_29 ex_29 lx_29 ux_29 => ?_)
          have fx_29 := ex_29.symm
          refine hb_icmp_lt (zx := x_26.toInt) (zy := x_29.toInt) (tgt := 119) hx hb rfl rfl dX7_goOn_85 (by decide) (fun c_30 => ?_) (fun c_30 => ?_)
          · skip
            obtain ⟨x_31, ex_31⟩ : ∃ y : Int32, y = iv49_4 + Int32.ofInt 1 := ⟨_, rfl⟩
            have zx_31 : x_31.toInt = iv49_4.toInt + (1) := by rw [ex_31]; exact i32_add rfl (by decide) (by omega) (by omega)
            refine lv_iinc (v := x_31) (lv' := [(4, .int x_31), (5, .int x_26), (3, .int x_4), (0, .ref x), (1, .int (3 : Int32)), (2, .int i2)]) hx hb dX7_goOn_119 hl (k := 1) rfl ex_31.symm (by decide) rfl (fun ls hl => ?_)
            refine lv_goto (tgt := 49) hx hb dX7_goOn_122 (by decide) ?_
            exact ih49 x_31 _ _ hL1 hl1 ls (by omega) (by omega) (by omega) hW hT hM fq_1 fq_6 gx gq_1 gq_6  (lv_sub hl [0, 2, 3, 4, 5] rfl)
          · skip
            refine lv_aload_n hx hb dX7_goOn_88 rfl (lv_at hl 3 rfl) ?_
            refine lv_iload hx hb dX7_goOn_89 (lv_at hl 1 rfl) ?_
            refine lv_iload_n hx hb dX7_goOn_91 rfl (lv_at hl 4 rfl) ?_
            refine hx_goi (hx_runV (As := [.int iv49_4, .int (3 : Int32)]) (rest := []) ⟨hx, hb, hml, hown, hts⟩ hW gx tt_7 (T := TX7) (N := 8) rfl (t_X7_isInRing l dC dI dA hL1 hl1 H.size x iv49_4 (3 : Int32) hT gx (by decide)) (cwV 2 hts (hx_gV kw_1011 kw_1008 kw_1010 kw_38 kw_101) rfl rfl rfl (by decide +kernel) ⟨Nat.le_of_ble_eq_true rfl, Nat.le_of_ble_eq_true rfl⟩) rfl hl.1 rfl (Nat.le_of_ble_eq_true rfl) dX7_goOn_92 ⟨Nat.le_of_ble_eq_true rfl, Nat.le_of_ble_eq_true rfl⟩) hW (fun r_34 L_32 h_33 H locs p_35 hW => ?_)
            obtain ⟨hr_36, hT, hs⟩ := p_35
            replace hT : hx_T T_tb L_32 h_33 := hT
            replace hs : hx_S T_tb [] hL1 hl1 L_32 h_33 := hs
            replace fq_1 := (hs.o gx trivial rfl).2.trans fq_1
            replace fq_6 := (hs.o gx trivial rfl).2.trans fq_6
            replace fx_21 := (hs.o gx trivial rfl).1.trans fx_21
            replace fx_29 := (hs.o gx trivial rfl).1.trans fx_29
            replace hM := hM.tr (hs.mono (by decide))
            replace gx := gx.S hs
            replace gq_1 := gq_1.S hs
            replace gq_6 := gq_6.S hs
            refine hb_if_ne (zx := r_34.toInt) (tgt := 119) hx hb rfl dX7_goOn_95 (by decide) (fun c_37 => ?_) (fun c_37 => ?_)
            · skip
              obtain ⟨x_38, ex_38⟩ : ∃ y : Int32, y = iv49_4 + Int32.ofInt 1 := ⟨_, rfl⟩
              have zx_38 : x_38.toInt = iv49_4.toInt + (1) := by rw [ex_38]; exact i32_add rfl (by decide) (by omega) (by omega)
              refine lv_iinc (v := x_38) (lv' := [(4, .int x_38), (5, .int x_26), (3, .int x_4), (0, .ref x), (1, .int (3 : Int32)), (2, .int i2)]) hx hb dX7_goOn_119 hl (k := 1) rfl ex_38.symm (by decide) rfl (fun ls hl => ?_)
              refine lv_goto (tgt := 49) hx hb dX7_goOn_122 (by decide) ?_
              exact ih49 x_38 _ _ L_32 h_33 ls (by omega) (by omega) (by omega) hW hT hM fq_1 fq_6 gx gq_1 gq_6  (lv_sub hl [0, 2, 3, 4, 5] rfl)
            · skip
              refine lv_aload_n hx hb dX7_goOn_98 rfl (lv_at hl 3 rfl) ?_
              refine hk_getr hx hb hts hC_7 hown hW gx tt_7 6 (by decide) rfl kw_319 ⟨rfl, rfl, rfl⟩ fq_1 dX7_goOn_99 ?_
              refine lv_iload_n hx hb dX7_goOn_102 rfl (lv_at hl 4 rfl) ?_
              refine lv_iload hx hb dX7_goOn_103 (lv_at hl 1 rfl) ?_
              refine hx_iast hx hb hW hT (hx_S.rf (M := [(37, 0)])) gq_1 tt_37 rfl (by decide) rfl ⟨by omega, by omega⟩ (List.mem_singleton.mpr rfl) dX7_goOn_105 (fun H locs h_39 eh_39 hW hT hs => ?_)
              replace fq_1 := (hs.o gx trivial rfl).2.trans fq_1
              replace fq_6 := (hs.o gx trivial rfl).2.trans fq_6
              replace fx_21 := (hs.o gx trivial rfl).1.trans fx_21
              replace fx_29 := (hs.o gx trivial rfl).1.trans fx_29
              replace hM := hM.tr (hs.mono (by decide))
              replace gx := gx.S hs
              replace gq_1 := gq_1.S hs
              replace gq_6 := gq_6.S hs
              refine lv_aload_n hx hb dX7_goOn_106 rfl (lv_at hl 3 rfl) ?_
              refine lv_iload_n hx hb dX7_goOn_107 rfl (lv_at hl 4 rfl) ?_
              refine lv_iconst (v := 1) hx hb dX7_goOn_108 (by decide) ?_
              refine lv_iadd hx hb dX7_goOn_109 ?_
              refine lv_topi (fun x_40 ex_40 => ?_)
              obtain rfl : x_40 = (4 : Int32) := ex_40.trans (by decide)
              refine lv_iload_n hx hb dX7_goOn_110 rfl (lv_at hl 5 rfl) ?_
              refine lv_iload hx hb dX7_goOn_111 (lv_at hl 0 rfl) ?_
              refine va_mmin hx hb (hml.trans hl.1.symm) hown (hts _ kw_1002) (hts _ kw_917) (hts _ kw_109) (hts _ kw_918) (Nat.le_of_ble_eq_true rfl) (Nat.le_of_ble_eq_true rfl) (Nat.le_of_ble_eq_true rfl) (Nat.le_of_ble_eq_true rfl) dX7_goOn_113 ?_
              refine lv_topi (fun x_41 ex_41 => ?_)
              refine hx_gov (hx_runV (As := [.int (4 : Int32), .int x_41]) (rest := []) ⟨hx, hb, hml, hown, hts⟩ hW gx tt_7 (T := TX7) (N := 8) rfl (t_X7_goOn_4 l dC dI dA L_32 h_39 H.size x x_41 hT gx) (cwV 2 hts (hx_gV kw_1001 kw_998 kw_1000 kw_36 kw_101) rfl rfl rfl (by decide +kernel) ⟨Nat.le_of_ble_eq_true rfl, Nat.le_of_ble_eq_true rfl⟩) rfl hl.1 rfl (Nat.le_of_ble_eq_true rfl) dX7_goOn_116 ⟨Nat.le_of_ble_eq_true rfl, Nat.le_of_ble_eq_true rfl⟩) hW (fun L_42 h_43 H locs p_45 hW => ?_)
              obtain ⟨hT, hs⟩ := p_45
              replace hT : hx_T T_tb L_42 h_43 := hT
              replace hs : hx_S T_tb [(7, 1), (7, 2), (38, 0)] L_32 h_39 L_42 h_43 := hs
              replace fq_1 := (hs.o gx trivial rfl).2.trans fq_1
              replace fq_6 := (hs.o gx trivial rfl).2.trans fq_6
              replace fx_21 := (hs.o gx trivial rfl).1.trans fx_21
              replace hM := hM.tr (hs.mono (by decide))
              replace gx := gx.S hs
              replace gq_1 := gq_1.S hs
              replace gq_6 := gq_6.S hs
              obtain ⟨x_47, ex_47⟩ : ∃ y : Int32, y = iv49_4 + Int32.ofInt 1 := ⟨_, rfl⟩
              have zx_47 : x_47.toInt = iv49_4.toInt + (1) := by rw [ex_47]; exact i32_add rfl (by decide) (by omega) (by omega)
              refine lv_iinc (v := x_47) (lv' := [(4, .int x_47), (5, .int x_26), (3, .int x_4), (0, .ref x), (1, .int (3 : Int32)), (2, .int i2)]) hx hb dX7_goOn_119 hl (k := 1) rfl ex_47.symm (by decide) rfl (fun ls hl => ?_)
              refine lv_goto (tgt := 49) hx hb dX7_goOn_122 (by decide) ?_
              exact ih49 x_47 _ _ L_42 h_43 ls (by omega) (by omega) (by omega) hW hT hM fq_1 fq_6 gx gq_1 gq_6  (lv_sub hl [0, 2, 3, 4, 5] rfl)
  exact loop49 40 x_20 _ _ L_13 h_14 ls (by omega) (by omega) (by omega) hW hT hM fq_1 fq_6 gx gq_1 gq_6  hl


set_option maxHeartbeats 4000000 in
set_option maxRecDepth 100000 in
theorem t_X7_goOn_2 (l : Launch) (dC : Nat → ClassId) (dI : Nat → Nat → Nat) (dA : Nat → ClassId) (L : List Nat) (h : hx_h) (sz : Nat) (x : Nat) (i2 : Int32) (hT : hx_T T_tb L h) (gx : hx_g L h x 7)  : Met l yX7_goOn (Cond.code yX7_goOn cX7_goOn 6 none :: hx_all) ({ frames := 4, cells := 0, slots := 0, locals := 112 }) (va_Pc [.ref x, .int (2 : Int32), .int i2] (hx_B T_tb (P_ty dA) (dC, dI) vwCl L h sz)) (va_Qv (fun (u : List Nat × hx_h) => hx_T T_tb u.1 u.2 ∧ hx_S T_tb [(7, 1), (7, 2), (37, 0), (38, 0)] L h u.1 u.2) (hx_E T_tb (P_ty dA) (dC, dI) vwCl (hx_A L sz)) (hx_A L sz)) 0 0 (hx_A L sz) := by
  refine hx_met (lv := [(0, .ref x), (1, .int (2 : Int32)), (2, .int i2)]) (by decide +kernel) rfl (Nat.le_of_ble_eq_true rfl) rfl ?_
  intro p e s m below meth c hx hb hml hr hlk hts0 hown hin hsz hW ls hl
  have hts : ∀ w ∈ hx_all, w.before _ s = true := fun w hw => hts0 w (List.mem_cons_of_mem _ hw)
  have hown : s.vm.findClass "SmallCourt$Rings" = some m.cls := hown
  have hM : hx_S T_tb [(7, 1), (7, 2), (37, 0), (38, 0)] L h L h := hx_S.rf
  refine lv_aload_n hx hb dX7_goOn_0 rfl (lv_at hl 0 rfl) ?_
  refine hx_getn hx hb hts hC_7 hown hW hT gx tt_7 6 (by decide) rfl kw_319 ⟨rfl, rfl, rfl⟩ dX7_goOn_1 (fun q_1 fq_1 gq_1 => ?_)
  refine lv_iload_n hx hb dX7_goOn_4 rfl (lv_at hl 1 rfl) ?_
  refine lv_iconst (v := 1) hx hb dX7_goOn_5 (by decide) ?_
  refine lv_isub hx hb dX7_goOn_6 ?_
  refine lv_topi (fun x_2 ex_2 => ?_)
  obtain rfl : x_2 = (1 : Int32) := ex_2.trans (by decide)
  refine hx_iald hx hb hW hT gq_1 tt_37 rfl (by decide) dX7_goOn_7 (fun x_3 ex_3 lx_3 ux_3 => ?_)
  refine lv_bipush (v := 40) hx hb dX7_goOn_8 (by decide) ?_
  refine lv_imul hx hb dX7_goOn_10 ?_
  refine lv_topi (fun x_4 ex_4 => ?_)
  have zx_4 : x_4.toInt = x_3.toInt * 40 := by rw [ex_4]; exact i32_mul rfl (by decide) rfl (by omega) (by omega)
  refine lv_istore_n (lv' := [(3, .int x_4), (0, .ref x), (1, .int (2 : Int32)), (2, .int i2)]) hx hb dX7_goOn_11 rfl hl (by decide) rfl (fun ls hl => ?_)
  refine lv_iload_n hx hb dX7_goOn_12 rfl (lv_at hl 2 rfl) ?_
  refine lv_iconst (v := 1) hx hb dX7_goOn_13 (by decide) ?_
  refine hb_icmp_le (zx := 2) (zy := 1) (tgt := 39) hx hb (by decide) (by decide) dX7_goOn_14 (by decide) (fun c_5 => absurd c_5 (by decide)) (fun c_5 => ?_)
  refine lv_aload_n hx hb dX7_goOn_17 rfl (lv_at hl 1 rfl) ?_
  refine lv_iload_n hx hb dX7_goOn_18 rfl (lv_at hl 2 rfl) ?_
  refine lv_iload_n hx hb dX7_goOn_19 rfl (lv_at hl 3 rfl) ?_
  refine lv_aload_n hx hb dX7_goOn_20 rfl (lv_at hl 1 rfl) ?_
  refine hx_getn hx hb hts hC_7 hown hW hT gx tt_7 5 (by decide) rfl kw_318 ⟨rfl, rfl, rfl⟩ dX7_goOn_21 (fun q_6 fq_6 gq_6 => ?_)
  refine lv_iload_n hx hb dX7_goOn_24 rfl (lv_at hl 0 rfl) ?_
  refine lv_aload_n hx hb dX7_goOn_25 rfl (lv_at hl 1 rfl) ?_
  refine hk_getr hx hb hts hC_7 hown hW gx tt_7 6 (by decide) rfl kw_319 ⟨rfl, rfl, rfl⟩ fq_1 dX7_goOn_26 ?_
  refine lv_iconst (v := 0) hx hb dX7_goOn_29 (by decide) ?_
  refine hx_iald hx hb hW hT gq_1 tt_37 rfl (by decide) dX7_goOn_30 (fun x_7 ex_7 lx_7 ux_7 => ?_)
  refine lv_iadd hx hb dX7_goOn_31 ?_
  have rg_8 := i32_r x_4
  have rg_9 := i32_r x_7
  refine lv_topi (fun x_10 ex_10 => ?_)
  have zx_10 : x_10.toInt = x_4.toInt + x_7.toInt := by rw [ex_10]; exact i32_add rfl rfl (by omega) (by omega)
  refine hx_iald hx hb hW hT gq_6 tt_36 rfl ⟨by omega, by omega⟩ dX7_goOn_32 (fun x_11 ex_11 lx_11 ux_11 => ?_)
  refine va_mmin hx hb (hml.trans hl.1.symm) hown (hts _ kw_1002) (hts _ kw_917) (hts _ kw_109) (hts _ kw_918) (Nat.le_of_ble_eq_true rfl) (Nat.le_of_ble_eq_true rfl) (Nat.le_of_ble_eq_true rfl) (Nat.le_of_ble_eq_true rfl) dX7_goOn_33 ?_
  refine lv_topi (fun x_12 ex_12 => ?_)
  refine hx_gov (hx_runV (As := [.int (2 : Int32), .int x_12]) (rest := []) ⟨hx, hb, hml, hown, hts⟩ hW gx tt_7 (T := TX7) (N := 8) rfl (t_X7_keepIfBetter l dC dI dA L h s.heap.size x (2 : Int32) x_12 hT gx (by decide)) (cwV 2 hts (hx_gV kw_1006 kw_1003 kw_1005 kw_37 kw_101) rfl rfl rfl (by decide +kernel) ⟨Nat.le_of_ble_eq_true rfl, Nat.le_of_ble_eq_true rfl⟩) rfl hl.1 rfl (Nat.le_of_ble_eq_true rfl) dX7_goOn_36 ⟨Nat.le_of_ble_eq_true rfl, Nat.le_of_ble_eq_true rfl⟩) hW (fun L_13 h_14 H locs p_16 hW => ?_)
  obtain ⟨hT, hs⟩ := p_16
  replace hT : hx_T T_tb L_13 h_14 := hT
  replace hs : hx_S T_tb [(7, 1), (7, 2), (38, 0)] L h L_13 h_14 := hs
  replace fq_1 := (hs.o gx trivial rfl).2.trans fq_1
  replace fq_6 := (hs.o gx trivial rfl).2.trans fq_6
  replace hM := hM.tr (hs.mono (by decide))
  replace gx := gx.S hs
  replace gq_1 := gq_1.S hs
  replace gq_6 := gq_6.S hs
  refine lv_aload_n hx hb dX7_goOn_39 rfl (lv_at hl 1 rfl) ?_
  refine hk_getr hx hb hts hC_7 hown hW gx tt_7 6 (by decide) rfl kw_319 ⟨rfl, rfl, rfl⟩ fq_1 dX7_goOn_40 ?_
  refine lv_iconst (v := 0) hx hb dX7_goOn_43 (by decide) ?_
  refine hx_iald hx hb hW hT gq_1 tt_37 rfl (by decide) dX7_goOn_44 (fun x_18 ex_18 lx_18 ux_18 => ?_)
  refine lv_iconst (v := 1) hx hb dX7_goOn_45 (by decide) ?_
  refine lv_iadd hx hb dX7_goOn_46 ?_
  have rg_19 := i32_r x_18
  refine lv_topi (fun x_20 ex_20 => ?_)
  have zx_20 : x_20.toInt = x_18.toInt + 1 := by rw [ex_20]; exact i32_add rfl (by decide) (by omega) (by omega)
  refine lv_istore (lv' := [(4, .int x_20), (3, .int x_4), (0, .ref x), (1, .int (2 : Int32)), (2, .int i2)]) hx hb dX7_goOn_47 hl (by decide) rfl (fun ls hl => ?_)
  have loop49 : ∀ (n49 : Nat) (iv49_4 : Int32) (H : Heap) (locs : List Loc) (hL1 : List Nat) (hl1 : hx_h) (ls : Array Slot), 1 ≤ iv49_4.toInt → iv49_4.toInt ≤ 40 → 40 < iv49_4.toInt + n49 → hx_W T_tb (P_ty dA) (dC, dI) vwCl (hx_A L sz) s.heap hL1 hl1 s H locs → hx_T T_tb hL1 hl1 → hx_S T_tb [(7, 1), (7, 2), (37, 0), (38, 0)] L h hL1 hl1 → hl1.2.2 x 6 = some q_1 → hl1.2.2 x 5 = some q_6 → hx_g hL1 hl1 x 7 → hx_g hL1 hl1 q_1 37 → hx_g hL1 hl1 q_6 36 → lv_has ls 6 [(4, .int iv49_4), (3, .int x_4), (0, .ref x), (1, .int (2 : Int32)), (2, .int i2)] → W p l e ({ frames := 4, cells := 0, slots := 0, locals := 112 }) s m ([.ref x, .int (2 : Int32), .int i2] : List Value).toArray below meth c H locs 0 0 (MQ below (va_Qv (fun (u : List Nat × hx_h) => hx_T T_tb u.1 u.2 ∧ hx_S T_tb [(7, 1), (7, 2), (37, 0), (38, 0)] L h u.1 u.2) (hx_E T_tb (P_ty dA) (dC, dI) vwCl (hx_A L sz)) (hx_A L sz)) ([.ref x, .int (2 : Int32), .int i2] : List Value).toArray s 0 0 (hx_A L sz)) (F0 m 49 ls []) := by
    intro n49
    induction n49 with
    | zero => intro iv49_4 H locs hL1 hl1 ls bl49_4 bu49_4 hn49; exfalso; omega
    | succ n49 ih49 =>
      intro iv49_4 H locs hL1 hl1 ls bl49_4 bu49_4 hn49 hW hT hM fq_1 fq_6 gx gq_1 gq_6  hl
      refine lv_iload hx hb dX7_goOn_49 (lv_at hl 0 rfl) ?_
      refine lv_aload_n hx hb dX7_goOn_51 rfl (lv_at hl 2 rfl) ?_
      refine hx_geti hx hb hts hC_7 hown hW hT gx tt_7 4 (by decide) rfl kw_317 ⟨rfl, rfl, rfl⟩ dX7_goOn_52 (fun x_21 ex_21 lx_21 ux_21 => ?_)
      have fx_21 := ex_21.symm
      refine hb_icmp_ge (zx := iv49_4.toInt) (zy := x_21.toInt) (tgt := 125) hx hb rfl rfl dX7_goOn_55 (by decide) (fun c_22 => ?_) (fun c_22 => ?_)
      · skip
        exact hx_retv hx hb hr hlk hW ⟨hT, hM⟩ dX7_goOn_125
      · skip
        refine lv_iload_n hx hb dX7_goOn_58 rfl (lv_at hl 3 rfl) ?_
        refine lv_iconst (v := 4) hx hb dX7_goOn_59 (by decide) ?_
        refine hb_icmp_ge (zx := 2) (zy := 4) (tgt := 125) hx hb (by decide) (by decide) dX7_goOn_60 (by decide) (fun c_23 => absurd c_23 (by decide)) (fun c_23 => ?_)
        refine lv_aload_n hx hb dX7_goOn_63 rfl (lv_at hl 2 rfl) ?_
        refine hk_getr hx hb hts hC_7 hown hW gx tt_7 5 (by decide) rfl kw_318 ⟨rfl, rfl, rfl⟩ fq_6 dX7_goOn_64 ?_
        refine lv_iload_n hx hb dX7_goOn_67 rfl (lv_at hl 1 rfl) ?_
        refine lv_iload hx hb dX7_goOn_68 (lv_at hl 0 rfl) ?_
        refine lv_iadd hx hb dX7_goOn_70 ?_
        have rg_24 := i32_r iv49_4
        refine lv_topi (fun x_25 ex_25 => ?_)
        have zx_25 : x_25.toInt = x_4.toInt + iv49_4.toInt := by rw [ex_25]; exact i32_add rfl rfl (by omega) (by omega)
        refine hx_iald hx hb hW hT gq_6 tt_36 rfl ⟨by omega, by omega⟩ dX7_goOn_71 (fun x_26 ex_26 lx_26 ux_26 => ?_)
        refine lv_istore (lv' := [(5, .int x_26), (4, .int iv49_4), (3, .int x_4), (0, .ref x), (1, .int (2 : Int32)), (2, .int i2)]) hx hb dX7_goOn_72 hl (by decide) rfl (fun ls hl => ?_)
        refine lv_iload hx hb dX7_goOn_74 (lv_at hl 0 rfl) ?_
        refine hb_if_le (zx := x_26.toInt) (tgt := 119) hx hb rfl dX7_goOn_76 (by decide) (fun c_27 => ?_) (fun c_27 => ?_)
        · skip
          obtain ⟨x_28, ex_28⟩ : ∃ y : Int32, y = iv49_4 + Int32.ofInt 1 := ⟨_, rfl⟩
          have zx_28 : x_28.toInt = iv49_4.toInt + (1) := by rw [ex_28]; exact i32_add rfl (by decide) (by omega) (by omega)
          refine lv_iinc (v := x_28) (lv' := [(4, .int x_28), (5, .int x_26), (3, .int x_4), (0, .ref x), (1, .int (2 : Int32)), (2, .int i2)]) hx hb dX7_goOn_119 hl (k := 1) rfl ex_28.symm (by decide) rfl (fun ls hl => ?_)
          refine lv_goto (tgt := 49) hx hb dX7_goOn_122 (by decide) ?_
          exact ih49 x_28 _ _ hL1 hl1 ls (by omega) (by omega) (by omega) hW hT hM fq_1 fq_6 gx gq_1 gq_6  (lv_sub hl [0, 2, 3, 4, 5] rfl)
        · skip
          refine lv_iload hx hb dX7_goOn_79 (lv_at hl 0 rfl) ?_
          refine lv_aload_n hx hb dX7_goOn_81 rfl (lv_at hl 3 rfl) ?_
          refine hx_geti hx hb hts hC_7 hown hW hT gx tt_7 2 (by decide) rfl kw_313 ⟨rfl, rfl, rfl⟩ dX7_goOn_82 (fun x_29 ex_29 lx_29 ux_29 => ?_)
          have fx_29 := ex_29.symm
          refine hb_icmp_lt (zx := x_26.toInt) (zy := x_29.toInt) (tgt := 119) hx hb rfl rfl dX7_goOn_85 (by decide) (fun c_30 => ?_) (fun c_30 => ?_)
          · skip
            obtain ⟨x_31, ex_31⟩ : ∃ y : Int32, y = iv49_4 + Int32.ofInt 1 := ⟨_, rfl⟩
            have zx_31 : x_31.toInt = iv49_4.toInt + (1) := by rw [ex_31]; exact i32_add rfl (by decide) (by omega) (by omega)
            refine lv_iinc (v := x_31) (lv' := [(4, .int x_31), (5, .int x_26), (3, .int x_4), (0, .ref x), (1, .int (2 : Int32)), (2, .int i2)]) hx hb dX7_goOn_119 hl (k := 1) rfl ex_31.symm (by decide) rfl (fun ls hl => ?_)
            refine lv_goto (tgt := 49) hx hb dX7_goOn_122 (by decide) ?_
            exact ih49 x_31 _ _ hL1 hl1 ls (by omega) (by omega) (by omega) hW hT hM fq_1 fq_6 gx gq_1 gq_6  (lv_sub hl [0, 2, 3, 4, 5] rfl)
          · skip
            refine lv_aload_n hx hb dX7_goOn_88 rfl (lv_at hl 3 rfl) ?_
            refine lv_iload hx hb dX7_goOn_89 (lv_at hl 1 rfl) ?_
            refine lv_iload_n hx hb dX7_goOn_91 rfl (lv_at hl 4 rfl) ?_
            refine hx_goi (hx_runV (As := [.int iv49_4, .int (2 : Int32)]) (rest := []) ⟨hx, hb, hml, hown, hts⟩ hW gx tt_7 (T := TX7) (N := 8) rfl (t_X7_isInRing l dC dI dA hL1 hl1 H.size x iv49_4 (2 : Int32) hT gx (by decide)) (cwV 2 hts (hx_gV kw_1011 kw_1008 kw_1010 kw_38 kw_101) rfl rfl rfl (by decide +kernel) ⟨Nat.le_of_ble_eq_true rfl, Nat.le_of_ble_eq_true rfl⟩) rfl hl.1 rfl (Nat.le_of_ble_eq_true rfl) dX7_goOn_92 ⟨Nat.le_of_ble_eq_true rfl, Nat.le_of_ble_eq_true rfl⟩) hW (fun r_34 L_32 h_33 H locs p_35 hW => ?_)
            obtain ⟨hr_36, hT, hs⟩ := p_35
            replace hT : hx_T T_tb L_32 h_33 := hT
            replace hs : hx_S T_tb [] hL1 hl1 L_32 h_33 := hs
            replace fq_1 := (hs.o gx trivial rfl).2.trans fq_1
            replace fq_6 := (hs.o gx trivial rfl).2.trans fq_6
            replace fx_21 := (hs.o gx trivial rfl).1.trans fx_21
            replace fx_29 := (hs.o gx trivial rfl).1.trans fx_29
            replace hM := hM.tr (hs.mono (by decide))
            replace gx := gx.S hs
            replace gq_1 := gq_1.S hs
            replace gq_6 := gq_6.S hs
            refine hb_if_ne (zx := r_34.toInt) (tgt := 119) hx hb rfl dX7_goOn_95 (by decide) (fun c_37 => ?_) (fun c_37 => ?_)
            · skip
              obtain ⟨x_38, ex_38⟩ : ∃ y : Int32, y = iv49_4 + Int32.ofInt 1 := ⟨_, rfl⟩
              have zx_38 : x_38.toInt = iv49_4.toInt + (1) := by rw [ex_38]; exact i32_add rfl (by decide) (by omega) (by omega)
              refine lv_iinc (v := x_38) (lv' := [(4, .int x_38), (5, .int x_26), (3, .int x_4), (0, .ref x), (1, .int (2 : Int32)), (2, .int i2)]) hx hb dX7_goOn_119 hl (k := 1) rfl ex_38.symm (by decide) rfl (fun ls hl => ?_)
              refine lv_goto (tgt := 49) hx hb dX7_goOn_122 (by decide) ?_
              exact ih49 x_38 _ _ L_32 h_33 ls (by omega) (by omega) (by omega) hW hT hM fq_1 fq_6 gx gq_1 gq_6  (lv_sub hl [0, 2, 3, 4, 5] rfl)
            · skip
              refine lv_aload_n hx hb dX7_goOn_98 rfl (lv_at hl 3 rfl) ?_
              refine hk_getr hx hb hts hC_7 hown hW gx tt_7 6 (by decide) rfl kw_319 ⟨rfl, rfl, rfl⟩ fq_1 dX7_goOn_99 ?_
              refine lv_iload_n hx hb dX7_goOn_102 rfl (lv_at hl 4 rfl) ?_
              refine lv_iload hx hb dX7_goOn_103 (lv_at hl 1 rfl) ?_
              refine hx_iast hx hb hW hT (hx_S.rf (M := [(37, 0)])) gq_1 tt_37 rfl (by decide) rfl ⟨by omega, by omega⟩ (List.mem_singleton.mpr rfl) dX7_goOn_105 (fun H locs h_39 eh_39 hW hT hs => ?_)
              replace fq_1 := (hs.o gx trivial rfl).2.trans fq_1
              replace fq_6 := (hs.o gx trivial rfl).2.trans fq_6
              replace fx_21 := (hs.o gx trivial rfl).1.trans fx_21
              replace fx_29 := (hs.o gx trivial rfl).1.trans fx_29
              replace hM := hM.tr (hs.mono (by decide))
              replace gx := gx.S hs
              replace gq_1 := gq_1.S hs
              replace gq_6 := gq_6.S hs
              refine lv_aload_n hx hb dX7_goOn_106 rfl (lv_at hl 3 rfl) ?_
              refine lv_iload_n hx hb dX7_goOn_107 rfl (lv_at hl 4 rfl) ?_
              refine lv_iconst (v := 1) hx hb dX7_goOn_108 (by decide) ?_
              refine lv_iadd hx hb dX7_goOn_109 ?_
              refine lv_topi (fun x_40 ex_40 => ?_)
              obtain rfl : x_40 = (3 : Int32) := ex_40.trans (by decide)
              refine lv_iload_n hx hb dX7_goOn_110 rfl (lv_at hl 5 rfl) ?_
              refine lv_iload hx hb dX7_goOn_111 (lv_at hl 0 rfl) ?_
              refine va_mmin hx hb (hml.trans hl.1.symm) hown (hts _ kw_1002) (hts _ kw_917) (hts _ kw_109) (hts _ kw_918) (Nat.le_of_ble_eq_true rfl) (Nat.le_of_ble_eq_true rfl) (Nat.le_of_ble_eq_true rfl) (Nat.le_of_ble_eq_true rfl) dX7_goOn_113 ?_
              refine lv_topi (fun x_41 ex_41 => ?_)
              refine hx_gov (hx_runV (As := [.int (3 : Int32), .int x_41]) (rest := []) ⟨hx, hb, hml, hown, hts⟩ hW gx tt_7 (T := TX7) (N := 8) rfl (t_X7_goOn_3 l dC dI dA L_32 h_39 H.size x x_41 hT gx) (cwV 2 hts (hx_gV kw_1001 kw_998 kw_1000 kw_36 kw_101) rfl rfl rfl (by decide +kernel) ⟨Nat.le_of_ble_eq_true rfl, Nat.le_of_ble_eq_true rfl⟩) rfl hl.1 rfl (Nat.le_of_ble_eq_true rfl) dX7_goOn_116 ⟨Nat.le_of_ble_eq_true rfl, Nat.le_of_ble_eq_true rfl⟩) hW (fun L_42 h_43 H locs p_45 hW => ?_)
              obtain ⟨hT, hs⟩ := p_45
              replace hT : hx_T T_tb L_42 h_43 := hT
              replace hs : hx_S T_tb [(7, 1), (7, 2), (37, 0), (38, 0)] L_32 h_39 L_42 h_43 := hs
              replace fq_1 := (hs.o gx trivial rfl).2.trans fq_1
              replace fq_6 := (hs.o gx trivial rfl).2.trans fq_6
              replace fx_21 := (hs.o gx trivial rfl).1.trans fx_21
              replace hM := hM.tr (hs.mono (by decide))
              replace gx := gx.S hs
              replace gq_1 := gq_1.S hs
              replace gq_6 := gq_6.S hs
              obtain ⟨x_47, ex_47⟩ : ∃ y : Int32, y = iv49_4 + Int32.ofInt 1 := ⟨_, rfl⟩
              have zx_47 : x_47.toInt = iv49_4.toInt + (1) := by rw [ex_47]; exact i32_add rfl (by decide) (by omega) (by omega)
              refine lv_iinc (v := x_47) (lv' := [(4, .int x_47), (5, .int x_26), (3, .int x_4), (0, .ref x), (1, .int (2 : Int32)), (2, .int i2)]) hx hb dX7_goOn_119 hl (k := 1) rfl ex_47.symm (by decide) rfl (fun ls hl => ?_)
              refine lv_goto (tgt := 49) hx hb dX7_goOn_122 (by decide) ?_
              exact ih49 x_47 _ _ L_42 h_43 ls (by omega) (by omega) (by omega) hW hT hM fq_1 fq_6 gx gq_1 gq_6  (lv_sub hl [0, 2, 3, 4, 5] rfl)
  exact loop49 40 x_20 _ _ L_13 h_14 ls (by omega) (by omega) (by omega) hW hT hM fq_1 fq_6 gx gq_1 gq_6  hl


set_option maxHeartbeats 4000000 in
set_option maxRecDepth 100000 in
theorem t_X7_goOn_1 (l : Launch) (dC : Nat → ClassId) (dI : Nat → Nat → Nat) (dA : Nat → ClassId) (L : List Nat) (h : hx_h) (sz : Nat) (x : Nat) (i2 : Int32) (hT : hx_T T_tb L h) (gx : hx_g L h x 7)  : Met l yX7_goOn (Cond.code yX7_goOn cX7_goOn 6 none :: hx_all) ({ frames := 5, cells := 0, slots := 0, locals := 137 }) (va_Pc [.ref x, .int (1 : Int32), .int i2] (hx_B T_tb (P_ty dA) (dC, dI) vwCl L h sz)) (va_Qv (fun (u : List Nat × hx_h) => hx_T T_tb u.1 u.2 ∧ hx_S T_tb [(7, 1), (7, 2), (37, 0), (38, 0)] L h u.1 u.2) (hx_E T_tb (P_ty dA) (dC, dI) vwCl (hx_A L sz)) (hx_A L sz)) 0 0 (hx_A L sz) := by
  refine hx_met (lv := [(0, .ref x), (1, .int (1 : Int32)), (2, .int i2)]) (by decide +kernel) rfl (Nat.le_of_ble_eq_true rfl) rfl ?_
  intro p e s m below meth c hx hb hml hr hlk hts0 hown hin hsz hW ls hl
  have hts : ∀ w ∈ hx_all, w.before _ s = true := fun w hw => hts0 w (List.mem_cons_of_mem _ hw)
  have hown : s.vm.findClass "SmallCourt$Rings" = some m.cls := hown
  have hM : hx_S T_tb [(7, 1), (7, 2), (37, 0), (38, 0)] L h L h := hx_S.rf
  refine lv_aload_n hx hb dX7_goOn_0 rfl (lv_at hl 0 rfl) ?_
  refine hx_getn hx hb hts hC_7 hown hW hT gx tt_7 6 (by decide) rfl kw_319 ⟨rfl, rfl, rfl⟩ dX7_goOn_1 (fun q_1 fq_1 gq_1 => ?_)
  refine lv_iload_n hx hb dX7_goOn_4 rfl (lv_at hl 1 rfl) ?_
  refine lv_iconst (v := 1) hx hb dX7_goOn_5 (by decide) ?_
  refine lv_isub hx hb dX7_goOn_6 ?_
  refine lv_topi (fun x_2 ex_2 => ?_)
  obtain rfl : x_2 = (0 : Int32) := ex_2.trans (by decide)
  refine hx_iald hx hb hW hT gq_1 tt_37 rfl (by decide) dX7_goOn_7 (fun x_3 ex_3 lx_3 ux_3 => ?_)
  refine lv_bipush (v := 40) hx hb dX7_goOn_8 (by decide) ?_
  refine lv_imul hx hb dX7_goOn_10 ?_
  refine lv_topi (fun x_4 ex_4 => ?_)
  have zx_4 : x_4.toInt = x_3.toInt * 40 := by rw [ex_4]; exact i32_mul rfl (by decide) rfl (by omega) (by omega)
  refine lv_istore_n (lv' := [(3, .int x_4), (0, .ref x), (1, .int (1 : Int32)), (2, .int i2)]) hx hb dX7_goOn_11 rfl hl (by decide) rfl (fun ls hl => ?_)
  refine lv_iload_n hx hb dX7_goOn_12 rfl (lv_at hl 2 rfl) ?_
  refine lv_iconst (v := 1) hx hb dX7_goOn_13 (by decide) ?_
  refine hb_icmp_le (zx := 1) (zy := 1) (tgt := 39) hx hb (by decide) (by decide) dX7_goOn_14 (by decide) (fun c_5 => ?_) (fun c_5 => absurd c_5 (by decide))
  refine lv_aload_n hx hb dX7_goOn_39 rfl (lv_at hl 1 rfl) ?_
  refine hk_getr hx hb hts hC_7 hown hW gx tt_7 6 (by decide) rfl kw_319 ⟨rfl, rfl, rfl⟩ fq_1 dX7_goOn_40 ?_
  refine lv_iconst (v := 0) hx hb dX7_goOn_43 (by decide) ?_
  refine hx_iald hx hb hW hT gq_1 tt_37 rfl (by decide) dX7_goOn_44 (fun x_6 ex_6 lx_6 ux_6 => ?_)
  refine lv_iconst (v := 1) hx hb dX7_goOn_45 (by decide) ?_
  refine lv_iadd hx hb dX7_goOn_46 ?_
  have rg_7 := i32_r x_6
  refine lv_topi (fun x_8 ex_8 => ?_)
  have zx_8 : x_8.toInt = x_6.toInt + 1 := by rw [ex_8]; exact i32_add rfl (by decide) (by omega) (by omega)
  refine lv_istore (lv' := [(4, .int x_8), (3, .int x_4), (0, .ref x), (1, .int (1 : Int32)), (2, .int i2)]) hx hb dX7_goOn_47 hl (by decide) rfl (fun ls hl => ?_)
  have loop49 : ∀ (n49 : Nat) (iv49_4 : Int32) (H : Heap) (locs : List Loc) (hL1 : List Nat) (hl1 : hx_h) (ls : Array Slot), 1 ≤ iv49_4.toInt → iv49_4.toInt ≤ 40 → 40 < iv49_4.toInt + n49 → hx_W T_tb (P_ty dA) (dC, dI) vwCl (hx_A L sz) s.heap hL1 hl1 s H locs → hx_T T_tb hL1 hl1 → hx_S T_tb [(7, 1), (7, 2), (37, 0), (38, 0)] L h hL1 hl1 → hl1.2.2 x 6 = some q_1 → hx_g hL1 hl1 x 7 → hx_g hL1 hl1 q_1 37 → lv_has ls 6 [(4, .int iv49_4), (3, .int x_4), (0, .ref x), (1, .int (1 : Int32)), (2, .int i2)] → W p l e ({ frames := 5, cells := 0, slots := 0, locals := 137 }) s m ([.ref x, .int (1 : Int32), .int i2] : List Value).toArray below meth c H locs 0 0 (MQ below (va_Qv (fun (u : List Nat × hx_h) => hx_T T_tb u.1 u.2 ∧ hx_S T_tb [(7, 1), (7, 2), (37, 0), (38, 0)] L h u.1 u.2) (hx_E T_tb (P_ty dA) (dC, dI) vwCl (hx_A L sz)) (hx_A L sz)) ([.ref x, .int (1 : Int32), .int i2] : List Value).toArray s 0 0 (hx_A L sz)) (F0 m 49 ls []) := by
    intro n49
    induction n49 with
    | zero => intro iv49_4 H locs hL1 hl1 ls bl49_4 bu49_4 hn49; exfalso; omega
    | succ n49 ih49 =>
      intro iv49_4 H locs hL1 hl1 ls bl49_4 bu49_4 hn49 hW hT hM fq_1 gx gq_1  hl
      refine lv_iload hx hb dX7_goOn_49 (lv_at hl 0 rfl) ?_
      refine lv_aload_n hx hb dX7_goOn_51 rfl (lv_at hl 2 rfl) ?_
      refine hx_geti hx hb hts hC_7 hown hW hT gx tt_7 4 (by decide) rfl kw_317 ⟨rfl, rfl, rfl⟩ dX7_goOn_52 (fun x_9 ex_9 lx_9 ux_9 => ?_)
      have fx_9 := ex_9.symm
      refine hb_icmp_ge (zx := iv49_4.toInt) (zy := x_9.toInt) (tgt := 125) hx hb rfl rfl dX7_goOn_55 (by decide) (fun c_10 => ?_) (fun c_10 => ?_)
      · skip
        exact hx_retv hx hb hr hlk hW ⟨hT, hM⟩ dX7_goOn_125
      · skip
        refine lv_iload_n hx hb dX7_goOn_58 rfl (lv_at hl 3 rfl) ?_
        refine lv_iconst (v := 4) hx hb dX7_goOn_59 (by decide) ?_
        refine hb_icmp_ge (zx := 1) (zy := 4) (tgt := 125) hx hb (by decide) (by decide) dX7_goOn_60 (by decide) (fun c_11 => absurd c_11 (by decide)) (fun c_11 => ?_)
        refine lv_aload_n hx hb dX7_goOn_63 rfl (lv_at hl 2 rfl) ?_
        refine hx_getn hx hb hts hC_7 hown hW hT gx tt_7 5 (by decide) rfl kw_318 ⟨rfl, rfl, rfl⟩ dX7_goOn_64 (fun q_12 fq_12 gq_12 => ?_)
        refine lv_iload_n hx hb dX7_goOn_67 rfl (lv_at hl 1 rfl) ?_
        refine lv_iload hx hb dX7_goOn_68 (lv_at hl 0 rfl) ?_
        refine lv_iadd hx hb dX7_goOn_70 ?_
        have rg_13 := i32_r x_4
        have rg_14 := i32_r iv49_4
        refine lv_topi (fun x_15 ex_15 => ?_)
        have zx_15 : x_15.toInt = x_4.toInt + iv49_4.toInt := by rw [ex_15]; exact i32_add rfl rfl (by omega) (by omega)
        refine hx_iald hx hb hW hT gq_12 tt_36 rfl ⟨by omega, by omega⟩ dX7_goOn_71 (fun x_16 ex_16 lx_16 ux_16 => ?_)
        refine lv_istore (lv' := [(5, .int x_16), (4, .int iv49_4), (3, .int x_4), (0, .ref x), (1, .int (1 : Int32)), (2, .int i2)]) hx hb dX7_goOn_72 hl (by decide) rfl (fun ls hl => ?_)
        refine lv_iload hx hb dX7_goOn_74 (lv_at hl 0 rfl) ?_
        refine hb_if_le (zx := x_16.toInt) (tgt := 119) hx hb rfl dX7_goOn_76 (by decide) (fun c_17 => ?_) (fun c_17 => ?_)
        · skip
          obtain ⟨x_18, ex_18⟩ : ∃ y : Int32, y = iv49_4 + Int32.ofInt 1 := ⟨_, rfl⟩
          have zx_18 : x_18.toInt = iv49_4.toInt + (1) := by rw [ex_18]; exact i32_add rfl (by decide) (by omega) (by omega)
          refine lv_iinc (v := x_18) (lv' := [(4, .int x_18), (5, .int x_16), (3, .int x_4), (0, .ref x), (1, .int (1 : Int32)), (2, .int i2)]) hx hb dX7_goOn_119 hl (k := 1) rfl ex_18.symm (by decide) rfl (fun ls hl => ?_)
          refine lv_goto (tgt := 49) hx hb dX7_goOn_122 (by decide) ?_
          exact ih49 x_18 _ _ hL1 hl1 ls (by omega) (by omega) (by omega) hW hT hM fq_1 gx gq_1  (lv_sub hl [0, 2, 3, 4, 5] rfl)
        · skip
          refine lv_iload hx hb dX7_goOn_79 (lv_at hl 0 rfl) ?_
          refine lv_aload_n hx hb dX7_goOn_81 rfl (lv_at hl 3 rfl) ?_
          refine hx_geti hx hb hts hC_7 hown hW hT gx tt_7 2 (by decide) rfl kw_313 ⟨rfl, rfl, rfl⟩ dX7_goOn_82 (fun x_19 ex_19 lx_19 ux_19 => ?_)
          have fx_19 := ex_19.symm
          refine hb_icmp_lt (zx := x_16.toInt) (zy := x_19.toInt) (tgt := 119) hx hb rfl rfl dX7_goOn_85 (by decide) (fun c_20 => ?_) (fun c_20 => ?_)
          · skip
            obtain ⟨x_21, ex_21⟩ : ∃ y : Int32, y = iv49_4 + Int32.ofInt 1 := ⟨_, rfl⟩
            have zx_21 : x_21.toInt = iv49_4.toInt + (1) := by rw [ex_21]; exact i32_add rfl (by decide) (by omega) (by omega)
            refine lv_iinc (v := x_21) (lv' := [(4, .int x_21), (5, .int x_16), (3, .int x_4), (0, .ref x), (1, .int (1 : Int32)), (2, .int i2)]) hx hb dX7_goOn_119 hl (k := 1) rfl ex_21.symm (by decide) rfl (fun ls hl => ?_)
            refine lv_goto (tgt := 49) hx hb dX7_goOn_122 (by decide) ?_
            exact ih49 x_21 _ _ hL1 hl1 ls (by omega) (by omega) (by omega) hW hT hM fq_1 gx gq_1  (lv_sub hl [0, 2, 3, 4, 5] rfl)
          · skip
            refine lv_aload_n hx hb dX7_goOn_88 rfl (lv_at hl 3 rfl) ?_
            refine lv_iload hx hb dX7_goOn_89 (lv_at hl 1 rfl) ?_
            refine lv_iload_n hx hb dX7_goOn_91 rfl (lv_at hl 4 rfl) ?_
            refine hx_goi (hx_runV (As := [.int iv49_4, .int (1 : Int32)]) (rest := []) ⟨hx, hb, hml, hown, hts⟩ hW gx tt_7 (T := TX7) (N := 8) rfl (t_X7_isInRing l dC dI dA hL1 hl1 H.size x iv49_4 (1 : Int32) hT gx (by decide)) (cwV 2 hts (hx_gV kw_1011 kw_1008 kw_1010 kw_38 kw_101) rfl rfl rfl (by decide +kernel) ⟨Nat.le_of_ble_eq_true rfl, Nat.le_of_ble_eq_true rfl⟩) rfl hl.1 rfl (Nat.le_of_ble_eq_true rfl) dX7_goOn_92 ⟨Nat.le_of_ble_eq_true rfl, Nat.le_of_ble_eq_true rfl⟩) hW (fun r_24 L_22 h_23 H locs p_25 hW => ?_)
            obtain ⟨hr_26, hT, hs⟩ := p_25
            replace hT : hx_T T_tb L_22 h_23 := hT
            replace hs : hx_S T_tb [] hL1 hl1 L_22 h_23 := hs
            replace fq_1 := (hs.o gx trivial rfl).2.trans fq_1
            replace fx_9 := (hs.o gx trivial rfl).1.trans fx_9
            replace fq_12 := (hs.o gx trivial rfl).2.trans fq_12
            replace fx_19 := (hs.o gx trivial rfl).1.trans fx_19
            replace hM := hM.tr (hs.mono (by decide))
            replace gx := gx.S hs
            replace gq_1 := gq_1.S hs
            replace gq_12 := gq_12.S hs
            refine hb_if_ne (zx := r_24.toInt) (tgt := 119) hx hb rfl dX7_goOn_95 (by decide) (fun c_27 => ?_) (fun c_27 => ?_)
            · skip
              obtain ⟨x_28, ex_28⟩ : ∃ y : Int32, y = iv49_4 + Int32.ofInt 1 := ⟨_, rfl⟩
              have zx_28 : x_28.toInt = iv49_4.toInt + (1) := by rw [ex_28]; exact i32_add rfl (by decide) (by omega) (by omega)
              refine lv_iinc (v := x_28) (lv' := [(4, .int x_28), (5, .int x_16), (3, .int x_4), (0, .ref x), (1, .int (1 : Int32)), (2, .int i2)]) hx hb dX7_goOn_119 hl (k := 1) rfl ex_28.symm (by decide) rfl (fun ls hl => ?_)
              refine lv_goto (tgt := 49) hx hb dX7_goOn_122 (by decide) ?_
              exact ih49 x_28 _ _ L_22 h_23 ls (by omega) (by omega) (by omega) hW hT hM fq_1 gx gq_1  (lv_sub hl [0, 2, 3, 4, 5] rfl)
            · skip
              refine lv_aload_n hx hb dX7_goOn_98 rfl (lv_at hl 3 rfl) ?_
              refine hk_getr hx hb hts hC_7 hown hW gx tt_7 6 (by decide) rfl kw_319 ⟨rfl, rfl, rfl⟩ fq_1 dX7_goOn_99 ?_
              refine lv_iload_n hx hb dX7_goOn_102 rfl (lv_at hl 4 rfl) ?_
              refine lv_iload hx hb dX7_goOn_103 (lv_at hl 1 rfl) ?_
              refine hx_iast hx hb hW hT (hx_S.rf (M := [(37, 0)])) gq_1 tt_37 rfl (by decide) rfl ⟨by omega, by omega⟩ (List.mem_singleton.mpr rfl) dX7_goOn_105 (fun H locs h_29 eh_29 hW hT hs => ?_)
              replace fq_1 := (hs.o gx trivial rfl).2.trans fq_1
              replace fx_9 := (hs.o gx trivial rfl).1.trans fx_9
              replace fq_12 := (hs.o gx trivial rfl).2.trans fq_12
              replace fx_19 := (hs.o gx trivial rfl).1.trans fx_19
              replace hM := hM.tr (hs.mono (by decide))
              replace gx := gx.S hs
              replace gq_1 := gq_1.S hs
              replace gq_12 := gq_12.S hs
              refine lv_aload_n hx hb dX7_goOn_106 rfl (lv_at hl 3 rfl) ?_
              refine lv_iload_n hx hb dX7_goOn_107 rfl (lv_at hl 4 rfl) ?_
              refine lv_iconst (v := 1) hx hb dX7_goOn_108 (by decide) ?_
              refine lv_iadd hx hb dX7_goOn_109 ?_
              refine lv_topi (fun x_30 ex_30 => ?_)
              obtain rfl : x_30 = (2 : Int32) := ex_30.trans (by decide)
              refine lv_iload_n hx hb dX7_goOn_110 rfl (lv_at hl 5 rfl) ?_
              refine lv_iload hx hb dX7_goOn_111 (lv_at hl 0 rfl) ?_
              refine va_mmin hx hb (hml.trans hl.1.symm) hown (hts _ kw_1002) (hts _ kw_917) (hts _ kw_109) (hts _ kw_918) (Nat.le_of_ble_eq_true rfl) (Nat.le_of_ble_eq_true rfl) (Nat.le_of_ble_eq_true rfl) (Nat.le_of_ble_eq_true rfl) dX7_goOn_113 ?_
              refine lv_topi (fun x_31 ex_31 => ?_)
              refine hx_gov (hx_runV (As := [.int (2 : Int32), .int x_31]) (rest := []) ⟨hx, hb, hml, hown, hts⟩ hW gx tt_7 (T := TX7) (N := 8) rfl (t_X7_goOn_2 l dC dI dA L_22 h_29 H.size x x_31 hT gx) (cwV 2 hts (hx_gV kw_1001 kw_998 kw_1000 kw_36 kw_101) rfl rfl rfl (by decide +kernel) ⟨Nat.le_of_ble_eq_true rfl, Nat.le_of_ble_eq_true rfl⟩) rfl hl.1 rfl (Nat.le_of_ble_eq_true rfl) dX7_goOn_116 ⟨Nat.le_of_ble_eq_true rfl, Nat.le_of_ble_eq_true rfl⟩) hW (fun L_32 h_33 H locs p_35 hW => ?_)
              obtain ⟨hT, hs⟩ := p_35
              replace hT : hx_T T_tb L_32 h_33 := hT
              replace hs : hx_S T_tb [(7, 1), (7, 2), (37, 0), (38, 0)] L_22 h_29 L_32 h_33 := hs
              replace fq_1 := (hs.o gx trivial rfl).2.trans fq_1
              replace fx_9 := (hs.o gx trivial rfl).1.trans fx_9
              replace fq_12 := (hs.o gx trivial rfl).2.trans fq_12
              replace hM := hM.tr (hs.mono (by decide))
              replace gx := gx.S hs
              replace gq_1 := gq_1.S hs
              replace gq_12 := gq_12.S hs
              obtain ⟨x_37, ex_37⟩ : ∃ y : Int32, y = iv49_4 + Int32.ofInt 1 := ⟨_, rfl⟩
              have zx_37 : x_37.toInt = iv49_4.toInt + (1) := by rw [ex_37]; exact i32_add rfl (by decide) (by omega) (by omega)
              refine lv_iinc (v := x_37) (lv' := [(4, .int x_37), (5, .int x_16), (3, .int x_4), (0, .ref x), (1, .int (1 : Int32)), (2, .int i2)]) hx hb dX7_goOn_119 hl (k := 1) rfl ex_37.symm (by decide) rfl (fun ls hl => ?_)
              refine lv_goto (tgt := 49) hx hb dX7_goOn_122 (by decide) ?_
              exact ih49 x_37 _ _ L_32 h_33 ls (by omega) (by omega) (by omega) hW hT hM fq_1 gx gq_1  (lv_sub hl [0, 2, 3, 4, 5] rfl)
  exact loop49 40 x_8 _ _ L h ls (by omega) (by omega) (by omega) hW hT hM fq_1 gx gq_1  hl

def wLX7_findBest_0 : List Nat := [42, 3, 181, 0, 31, 42, 3, 181, 0, 34, 3, 60, 27, 42, 180, 0, 28, 162, 0, 23, 42, 180, 0, 22, 3, 27, 79, 42, 4, 18, 37, 182, 0, 38, 132, 1, 1, 167, 255, 231, 42, 180, 0, 31, 158, 0, 7, 4, 167, 0, 4, 3, 172]
theorem wX7_findBest_0 : (cX7_findBest.data.toList.map UInt8.toNat).drop 0 = wLX7_findBest_0 ++ ([]) := by decide +kernel
theorem dX7_findBest_0 : decode cX7_findBest 0 = .ok (.aload_n 0, 1) := dq_42 (hz_wg wX7_findBest_0 (j := 0) (n := 42) rfl)
theorem dX7_findBest_1 : decode cX7_findBest 1 = .ok (.iconst 0, 1) := dq_3 (hz_wg wX7_findBest_0 (j := 1) (n := 3) rfl)
theorem dX7_findBest_2 : decode cX7_findBest 2 = .ok (.putfield 31, 3) := dq_181 (hz_wg wX7_findBest_0 (j := 2) (n := 181) rfl) (hz_wg wX7_findBest_0 (j := 3) (n := 0) rfl) (hz_wg wX7_findBest_0 (j := 4) (n := 31) rfl) rfl
theorem dX7_findBest_5 : decode cX7_findBest 5 = .ok (.aload_n 0, 1) := dq_42 (hz_wg wX7_findBest_0 (j := 5) (n := 42) rfl)
theorem dX7_findBest_6 : decode cX7_findBest 6 = .ok (.iconst 0, 1) := dq_3 (hz_wg wX7_findBest_0 (j := 6) (n := 3) rfl)
theorem dX7_findBest_7 : decode cX7_findBest 7 = .ok (.putfield 34, 3) := dq_181 (hz_wg wX7_findBest_0 (j := 7) (n := 181) rfl) (hz_wg wX7_findBest_0 (j := 8) (n := 0) rfl) (hz_wg wX7_findBest_0 (j := 9) (n := 34) rfl) rfl
theorem dX7_findBest_10 : decode cX7_findBest 10 = .ok (.iconst 0, 1) := dq_3 (hz_wg wX7_findBest_0 (j := 10) (n := 3) rfl)
theorem dX7_findBest_11 : decode cX7_findBest 11 = .ok (.istore_n 1, 1) := dq_60 (hz_wg wX7_findBest_0 (j := 11) (n := 60) rfl)
theorem dX7_findBest_12 : decode cX7_findBest 12 = .ok (.iload_n 1, 1) := dq_27 (hz_wg wX7_findBest_0 (j := 12) (n := 27) rfl)
theorem dX7_findBest_13 : decode cX7_findBest 13 = .ok (.aload_n 0, 1) := dq_42 (hz_wg wX7_findBest_0 (j := 13) (n := 42) rfl)
theorem dX7_findBest_14 : decode cX7_findBest 14 = .ok (.getfield 28, 3) := dq_180 (hz_wg wX7_findBest_0 (j := 14) (n := 180) rfl) (hz_wg wX7_findBest_0 (j := 15) (n := 0) rfl) (hz_wg wX7_findBest_0 (j := 16) (n := 28) rfl) rfl
theorem dX7_findBest_17 : decode cX7_findBest 17 = .ok (.if_icmp .ge 23, 3) := dq_162 (hz_wg wX7_findBest_0 (j := 17) (n := 162) rfl) (hz_wg wX7_findBest_0 (j := 18) (n := 0) rfl) (hz_wg wX7_findBest_0 (j := 19) (n := 23) rfl) (by decide)
theorem dX7_findBest_20 : decode cX7_findBest 20 = .ok (.aload_n 0, 1) := dq_42 (hz_wg wX7_findBest_0 (j := 20) (n := 42) rfl)
theorem dX7_findBest_21 : decode cX7_findBest 21 = .ok (.getfield 22, 3) := dq_180 (hz_wg wX7_findBest_0 (j := 21) (n := 180) rfl) (hz_wg wX7_findBest_0 (j := 22) (n := 0) rfl) (hz_wg wX7_findBest_0 (j := 23) (n := 22) rfl) rfl
theorem dX7_findBest_24 : decode cX7_findBest 24 = .ok (.iconst 0, 1) := dq_3 (hz_wg wX7_findBest_0 (j := 24) (n := 3) rfl)
theorem dX7_findBest_25 : decode cX7_findBest 25 = .ok (.iload_n 1, 1) := dq_27 (hz_wg wX7_findBest_0 (j := 25) (n := 27) rfl)
theorem dX7_findBest_26 : decode cX7_findBest 26 = .ok (.iastore, 1) := dq_79 (hz_wg wX7_findBest_0 (j := 26) (n := 79) rfl)
theorem dX7_findBest_27 : decode cX7_findBest 27 = .ok (.aload_n 0, 1) := dq_42 (hz_wg wX7_findBest_0 (j := 27) (n := 42) rfl)
theorem dX7_findBest_28 : decode cX7_findBest 28 = .ok (.iconst 1, 1) := dq_4 (hz_wg wX7_findBest_0 (j := 28) (n := 4) rfl)
theorem dX7_findBest_29 : decode cX7_findBest 29 = .ok (.ldc 37, 2) := dq_18 (hz_wg wX7_findBest_0 (j := 29) (n := 18) rfl) (hz_wg wX7_findBest_0 (j := 30) (n := 37) rfl)
theorem dX7_findBest_31 : decode cX7_findBest 31 = .ok (.invokevirtual 38, 3) := dq_182 (hz_wg wX7_findBest_0 (j := 31) (n := 182) rfl) (hz_wg wX7_findBest_0 (j := 32) (n := 0) rfl) (hz_wg wX7_findBest_0 (j := 33) (n := 38) rfl) rfl
theorem dX7_findBest_34 : decode cX7_findBest 34 = .ok (.iinc 1 1, 3) := dq_132 (hz_wg wX7_findBest_0 (j := 34) (n := 132) rfl) (hz_wg wX7_findBest_0 (j := 35) (n := 1) rfl) (hz_wg wX7_findBest_0 (j := 36) (n := 1) rfl) (by decide)
theorem dX7_findBest_37 : decode cX7_findBest 37 = .ok (.goto (-25), 3) := dq_167 (hz_wg wX7_findBest_0 (j := 37) (n := 167) rfl) (hz_wg wX7_findBest_0 (j := 38) (n := 255) rfl) (hz_wg wX7_findBest_0 (j := 39) (n := 231) rfl) (by decide)
theorem dX7_findBest_40 : decode cX7_findBest 40 = .ok (.aload_n 0, 1) := dq_42 (hz_wg wX7_findBest_0 (j := 40) (n := 42) rfl)
theorem dX7_findBest_41 : decode cX7_findBest 41 = .ok (.getfield 31, 3) := dq_180 (hz_wg wX7_findBest_0 (j := 41) (n := 180) rfl) (hz_wg wX7_findBest_0 (j := 42) (n := 0) rfl) (hz_wg wX7_findBest_0 (j := 43) (n := 31) rfl) rfl
theorem dX7_findBest_44 : decode cX7_findBest 44 = .ok (.ifCond .le 7, 3) := dq_158 (hz_wg wX7_findBest_0 (j := 44) (n := 158) rfl) (hz_wg wX7_findBest_0 (j := 45) (n := 0) rfl) (hz_wg wX7_findBest_0 (j := 46) (n := 7) rfl) (by decide)
theorem dX7_findBest_47 : decode cX7_findBest 47 = .ok (.iconst 1, 1) := dq_4 (hz_wg wX7_findBest_0 (j := 47) (n := 4) rfl)
theorem dX7_findBest_48 : decode cX7_findBest 48 = .ok (.goto 4, 3) := dq_167 (hz_wg wX7_findBest_0 (j := 48) (n := 167) rfl) (hz_wg wX7_findBest_0 (j := 49) (n := 0) rfl) (hz_wg wX7_findBest_0 (j := 50) (n := 4) rfl) (by decide)
theorem dX7_findBest_51 : decode cX7_findBest 51 = .ok (.iconst 0, 1) := dq_3 (hz_wg wX7_findBest_0 (j := 51) (n := 3) rfl)
theorem dX7_findBest_52 : decode cX7_findBest 52 = .ok (.ireturn, 1) := dq_172 (hz_wg wX7_findBest_0 (j := 52) (n := 172) rfl)
set_option maxHeartbeats 4000000 in
set_option maxRecDepth 100000 in
theorem t_X7_findBest (l : Launch) (dC : Nat → ClassId) (dI : Nat → Nat → Nat) (dA : Nat → ClassId) (L : List Nat) (h : hx_h) (sz : Nat) (x : Nat) (hT : hx_T T_tb L h) (gx : hx_g L h x 7)  : Met l yX7_findBest (Cond.code yX7_findBest cX7_findBest 2 (some .boolean) :: hx_all) ({ frames := 6, cells := 0, slots := 0, locals := 162 }) (va_Pc [.ref x] (hx_B T_tb (P_ty dA) (dC, dI) vwCl L h sz)) (va_Qi (fun (r : Int32) (u : List Nat × hx_h) => (r.toInt = 0 ∨ r.toInt = 1) ∧ hx_T T_tb u.1 u.2 ∧ hx_S T_tb [(7, 1), (7, 2), (37, 0), (38, 0)] L h u.1 u.2) (hx_E T_tb (P_ty dA) (dC, dI) vwCl (hx_A L sz)) (hx_A L sz)) 0 0 (hx_A L sz) := by
  refine hx_met (lv := [(0, .ref x)]) (by decide +kernel) rfl (Nat.le_of_ble_eq_true rfl) rfl ?_
  intro p e s m below meth c hx hb hml hr hlk hts0 hown hin hsz hW ls hl
  have hts : ∀ w ∈ hx_all, w.before _ s = true := fun w hw => hts0 w (List.mem_cons_of_mem _ hw)
  have hown : s.vm.findClass "SmallCourt$Rings" = some m.cls := hown
  have hM : hx_S T_tb [(7, 1), (7, 2), (37, 0), (38, 0)] L h L h := hx_S.rf
  refine lv_aload_n hx hb dX7_findBest_0 rfl (lv_at hl 0 rfl) ?_
  refine lv_iconst (v := 0) hx hb dX7_findBest_1 (by decide) ?_
  refine hx_puti hx hb hts hC_7 hown hW hT (hx_S.rf (M := [(7, 1)])) gx tt_7 1 (by decide) rfl kw_311 ⟨rfl, rfl, rfl⟩ rfl (x := (0 : Int32)) (by decide) rfl rfl rfl (List.mem_singleton.mpr rfl) dX7_findBest_2 (fun H locs h_1 eh_1 hW hT hs => ?_)
  replace hM := hM.tr (hs.mono (by decide))
  replace gx := gx.S hs
  have f_2 : h_1.2.1 x 1 = (0 : Int32) := by rw [eh_1]; exact hx_pi_at _ _ _ _
  refine lv_aload_n hx hb dX7_findBest_5 rfl (lv_at hl 0 rfl) ?_
  refine lv_iconst (v := 0) hx hb dX7_findBest_6 (by decide) ?_
  refine hx_puti hx hb hts hC_7 hown hW hT (hx_S.rf (M := [(7, 2)])) gx tt_7 2 (by decide) rfl kw_313 ⟨rfl, rfl, rfl⟩ rfl (x := (0 : Int32)) (by decide) rfl rfl rfl (List.mem_singleton.mpr rfl) dX7_findBest_7 (fun H locs h_3 eh_3 hW hT hs => ?_)
  replace f_2 := (hs.o gx trivial rfl).1.trans f_2
  replace hM := hM.tr (hs.mono (by decide))
  replace gx := gx.S hs
  have f_4 : h_3.2.1 x 2 = (0 : Int32) := by rw [eh_3]; exact hx_pi_at _ _ _ _
  refine lv_iconst (v := 0) hx hb dX7_findBest_10 (by decide) ?_
  refine lv_istore_n (lv' := [(1, .int (0 : Int32)), (0, .ref x)]) hx hb dX7_findBest_11 rfl hl (by decide) rfl (fun ls hl => ?_)
  have loop12 : ∀ (n12 : Nat) (iv12_1 : Int32) (H : Heap) (locs : List Loc) (hL1 : List Nat) (hl1 : hx_h) (ls : Array Slot), 0 ≤ iv12_1.toInt → iv12_1.toInt ≤ 40 → 40 < iv12_1.toInt + n12 → hx_W T_tb (P_ty dA) (dC, dI) vwCl (hx_A L sz) s.heap hL1 hl1 s H locs → hx_T T_tb hL1 hl1 → hx_S T_tb [(7, 1), (7, 2), (37, 0), (38, 0)] L h hL1 hl1 → hx_g hL1 hl1 x 7 → lv_has ls 2 [(1, .int iv12_1), (0, .ref x)] → W p l e ({ frames := 6, cells := 0, slots := 0, locals := 162 }) s m ([.ref x] : List Value).toArray below meth c H locs 0 0 (MQ below (va_Qi (fun (r : Int32) (u : List Nat × hx_h) => (r.toInt = 0 ∨ r.toInt = 1) ∧ hx_T T_tb u.1 u.2 ∧ hx_S T_tb [(7, 1), (7, 2), (37, 0), (38, 0)] L h u.1 u.2) (hx_E T_tb (P_ty dA) (dC, dI) vwCl (hx_A L sz)) (hx_A L sz)) ([.ref x] : List Value).toArray s 0 0 (hx_A L sz)) (F0 m 12 ls []) := by
    intro n12
    induction n12 with
    | zero => intro iv12_1 H locs hL1 hl1 ls bl12_1 bu12_1 hn12; exfalso; omega
    | succ n12 ih12 =>
      intro iv12_1 H locs hL1 hl1 ls bl12_1 bu12_1 hn12 hW hT hM  gx  hl
      refine lv_iload_n hx hb dX7_findBest_12 rfl (lv_at hl 0 rfl) ?_
      refine lv_aload_n hx hb dX7_findBest_13 rfl (lv_at hl 1 rfl) ?_
      refine hx_geti hx hb hts hC_7 hown hW hT gx tt_7 4 (by decide) rfl kw_317 ⟨rfl, rfl, rfl⟩ dX7_findBest_14 (fun x_5 ex_5 lx_5 ux_5 => ?_)
      have fx_5 := ex_5.symm
      refine hb_icmp_ge (zx := iv12_1.toInt) (zy := x_5.toInt) (tgt := 40) hx hb rfl rfl dX7_findBest_17 (by decide) (fun c_6 => ?_) (fun c_6 => ?_)
      · skip
        refine lv_aload_n hx hb dX7_findBest_40 rfl (lv_at hl 1 rfl) ?_
        refine hx_geti hx hb hts hC_7 hown hW hT gx tt_7 1 (by decide) rfl kw_311 ⟨rfl, rfl, rfl⟩ dX7_findBest_41 (fun x_7 ex_7 lx_7 ux_7 => ?_)
        have fx_7 := ex_7.symm
        refine hb_if_le (zx := x_7.toInt) (tgt := 51) hx hb rfl dX7_findBest_44 (by decide) (fun c_8 => ?_) (fun c_8 => ?_)
        · skip
          refine lv_iconst (v := 0) hx hb dX7_findBest_51 (by decide) ?_
          exact hx_retz hx hb hr rfl hlk hW ⟨(by decide), hT, hM⟩ dX7_findBest_52
        · skip
          refine lv_iconst (v := 1) hx hb dX7_findBest_47 (by decide) ?_
          refine lv_goto (tgt := 52) hx hb dX7_findBest_48 (by decide) ?_
          exact hx_retz hx hb hr rfl hlk hW ⟨(by decide), hT, hM⟩ dX7_findBest_52
      · skip
        refine lv_aload_n hx hb dX7_findBest_20 rfl (lv_at hl 1 rfl) ?_
        refine hx_getn hx hb hts hC_7 hown hW hT gx tt_7 6 (by decide) rfl kw_319 ⟨rfl, rfl, rfl⟩ dX7_findBest_21 (fun q_9 fq_9 gq_9 => ?_)
        refine lv_iconst (v := 0) hx hb dX7_findBest_24 (by decide) ?_
        refine lv_iload_n hx hb dX7_findBest_25 rfl (lv_at hl 0 rfl) ?_
        refine hx_iast hx hb hW hT (hx_S.rf (M := [(37, 0)])) gq_9 tt_37 rfl (by decide) rfl ⟨by omega, by omega⟩ (List.mem_singleton.mpr rfl) dX7_findBest_26 (fun H locs h_10 eh_10 hW hT hs => ?_)
        replace fx_5 := (hs.o gx trivial rfl).1.trans fx_5
        replace fq_9 := (hs.o gx trivial rfl).2.trans fq_9
        replace hM := hM.tr (hs.mono (by decide))
        replace gx := gx.S hs
        replace gq_9 := gq_9.S hs
        refine lv_aload_n hx hb dX7_findBest_27 rfl (lv_at hl 1 rfl) ?_
        refine lv_iconst (v := 1) hx hb dX7_findBest_28 (by decide) ?_
        refine lv_ldc (v := 1000000000) hx hb hown (hts _ kw_997) dX7_findBest_29 ?_
        refine hx_gov (hx_runV (As := [.int (1 : Int32), .int (1000000000 : Int32)]) (rest := []) ⟨hx, hb, hml, hown, hts⟩ hW gx tt_7 (T := TX7) (N := 8) rfl (t_X7_goOn_1 l dC dI dA hL1 h_10 H.size x (1000000000 : Int32) hT gx) (cwV 2 hts (hx_gV kw_1001 kw_998 kw_1000 kw_36 kw_101) rfl rfl rfl (by decide +kernel) ⟨Nat.le_of_ble_eq_true rfl, Nat.le_of_ble_eq_true rfl⟩) rfl hl.1 rfl (Nat.le_of_ble_eq_true rfl) dX7_findBest_31 ⟨Nat.le_of_ble_eq_true rfl, Nat.le_of_ble_eq_true rfl⟩) hW (fun L_11 h_12 H locs p_14 hW => ?_)
        obtain ⟨hT, hs⟩ := p_14
        replace hT : hx_T T_tb L_11 h_12 := hT
        replace hs : hx_S T_tb [(7, 1), (7, 2), (37, 0), (38, 0)] hL1 h_10 L_11 h_12 := hs
        replace fx_5 := (hs.o gx trivial rfl).1.trans fx_5
        replace fq_9 := (hs.o gx trivial rfl).2.trans fq_9
        replace hM := hM.tr (hs.mono (by decide))
        replace gx := gx.S hs
        replace gq_9 := gq_9.S hs
        obtain ⟨x_16, ex_16⟩ : ∃ y : Int32, y = iv12_1 + Int32.ofInt 1 := ⟨_, rfl⟩
        have rg_17 := i32_r iv12_1
        have zx_16 : x_16.toInt = iv12_1.toInt + (1) := by rw [ex_16]; exact i32_add rfl (by decide) (by omega) (by omega)
        refine lv_iinc (v := x_16) (lv' := [(1, .int x_16), (0, .ref x)]) hx hb dX7_findBest_34 hl (k := 0) rfl ex_16.symm (by decide) rfl (fun ls hl => ?_)
        refine lv_goto (tgt := 12) hx hb dX7_findBest_37 (by decide) ?_
        exact ih12 x_16 _ _ L_11 h_12 ls (by omega) (by omega) (by omega) hW hT hM  gx  (lv_sub hl [0, 1] rfl)
  exact loop12 41 (0 : Int32) _ _ L h_3 ls (by decide) (by decide) (by decide) hW hT hM  gx  hl

def wLX7_takeOff_0 : List Nat := [3, 60, 27, 42, 180, 0, 31, 162, 0, 41, 42, 180, 0, 19, 42, 180, 0, 25, 27, 46, 16, 40, 104, 42, 180, 0, 25, 42, 27, 182, 0, 75, 46, 96, 92, 46, 42, 180, 0, 34, 100, 79, 132, 1, 1, 167, 255, 213, 42, 180, 0, 9, 155, 0, 35, 42, 180, 0, 9, 16, 100, 162, 0, 26]
def wLX7_takeOff_1 : List Nat := [42, 180, 0, 15, 42, 180, 0, 9, 42, 180, 0, 34, 79, 42, 89, 180, 0, 9, 4, 96, 181, 0, 9, 177]
theorem wX7_takeOff_0 : (cX7_takeOff.data.toList.map UInt8.toNat).drop 0 = wLX7_takeOff_0 ++ (wLX7_takeOff_1 ++ ([])) := by decide +kernel
theorem wX7_takeOff_1 : (cX7_takeOff.data.toList.map UInt8.toNat).drop 64 = wLX7_takeOff_1 ++ ([]) := hz_wn wX7_takeOff_0 rfl
theorem dX7_takeOff_0 : decode cX7_takeOff 0 = .ok (.iconst 0, 1) := dq_3 (hz_wg wX7_takeOff_0 (j := 0) (n := 3) rfl)
theorem dX7_takeOff_1 : decode cX7_takeOff 1 = .ok (.istore_n 1, 1) := dq_60 (hz_wg wX7_takeOff_0 (j := 1) (n := 60) rfl)
theorem dX7_takeOff_2 : decode cX7_takeOff 2 = .ok (.iload_n 1, 1) := dq_27 (hz_wg wX7_takeOff_0 (j := 2) (n := 27) rfl)
theorem dX7_takeOff_3 : decode cX7_takeOff 3 = .ok (.aload_n 0, 1) := dq_42 (hz_wg wX7_takeOff_0 (j := 3) (n := 42) rfl)
theorem dX7_takeOff_4 : decode cX7_takeOff 4 = .ok (.getfield 31, 3) := dq_180 (hz_wg wX7_takeOff_0 (j := 4) (n := 180) rfl) (hz_wg wX7_takeOff_0 (j := 5) (n := 0) rfl) (hz_wg wX7_takeOff_0 (j := 6) (n := 31) rfl) rfl
theorem dX7_takeOff_7 : decode cX7_takeOff 7 = .ok (.if_icmp .ge 41, 3) := dq_162 (hz_wg wX7_takeOff_0 (j := 7) (n := 162) rfl) (hz_wg wX7_takeOff_0 (j := 8) (n := 0) rfl) (hz_wg wX7_takeOff_0 (j := 9) (n := 41) rfl) (by decide)
theorem dX7_takeOff_10 : decode cX7_takeOff 10 = .ok (.aload_n 0, 1) := dq_42 (hz_wg wX7_takeOff_0 (j := 10) (n := 42) rfl)
theorem dX7_takeOff_11 : decode cX7_takeOff 11 = .ok (.getfield 19, 3) := dq_180 (hz_wg wX7_takeOff_0 (j := 11) (n := 180) rfl) (hz_wg wX7_takeOff_0 (j := 12) (n := 0) rfl) (hz_wg wX7_takeOff_0 (j := 13) (n := 19) rfl) rfl
theorem dX7_takeOff_14 : decode cX7_takeOff 14 = .ok (.aload_n 0, 1) := dq_42 (hz_wg wX7_takeOff_0 (j := 14) (n := 42) rfl)
theorem dX7_takeOff_15 : decode cX7_takeOff 15 = .ok (.getfield 25, 3) := dq_180 (hz_wg wX7_takeOff_0 (j := 15) (n := 180) rfl) (hz_wg wX7_takeOff_0 (j := 16) (n := 0) rfl) (hz_wg wX7_takeOff_0 (j := 17) (n := 25) rfl) rfl
theorem dX7_takeOff_18 : decode cX7_takeOff 18 = .ok (.iload_n 1, 1) := dq_27 (hz_wg wX7_takeOff_0 (j := 18) (n := 27) rfl)
theorem dX7_takeOff_19 : decode cX7_takeOff 19 = .ok (.iaload, 1) := dq_46 (hz_wg wX7_takeOff_0 (j := 19) (n := 46) rfl)
theorem dX7_takeOff_20 : decode cX7_takeOff 20 = .ok (.bipush 40, 2) := dq_16 (hz_wg wX7_takeOff_0 (j := 20) (n := 16) rfl) (hz_wg wX7_takeOff_0 (j := 21) (n := 40) rfl) (by decide)
theorem dX7_takeOff_22 : decode cX7_takeOff 22 = .ok (.imul, 1) := dq_104 (hz_wg wX7_takeOff_0 (j := 22) (n := 104) rfl)
theorem dX7_takeOff_23 : decode cX7_takeOff 23 = .ok (.aload_n 0, 1) := dq_42 (hz_wg wX7_takeOff_0 (j := 23) (n := 42) rfl)
theorem dX7_takeOff_24 : decode cX7_takeOff 24 = .ok (.getfield 25, 3) := dq_180 (hz_wg wX7_takeOff_0 (j := 24) (n := 180) rfl) (hz_wg wX7_takeOff_0 (j := 25) (n := 0) rfl) (hz_wg wX7_takeOff_0 (j := 26) (n := 25) rfl) rfl
theorem dX7_takeOff_27 : decode cX7_takeOff 27 = .ok (.aload_n 0, 1) := dq_42 (hz_wg wX7_takeOff_0 (j := 27) (n := 42) rfl)
theorem dX7_takeOff_28 : decode cX7_takeOff 28 = .ok (.iload_n 1, 1) := dq_27 (hz_wg wX7_takeOff_0 (j := 28) (n := 27) rfl)
theorem dX7_takeOff_29 : decode cX7_takeOff 29 = .ok (.invokevirtual 75, 3) := dq_182 (hz_wg wX7_takeOff_0 (j := 29) (n := 182) rfl) (hz_wg wX7_takeOff_0 (j := 30) (n := 0) rfl) (hz_wg wX7_takeOff_0 (j := 31) (n := 75) rfl) rfl
theorem dX7_takeOff_32 : decode cX7_takeOff 32 = .ok (.iaload, 1) := dq_46 (hz_wg wX7_takeOff_0 (j := 32) (n := 46) rfl)
theorem dX7_takeOff_33 : decode cX7_takeOff 33 = .ok (.iadd, 1) := dq_96 (hz_wg wX7_takeOff_0 (j := 33) (n := 96) rfl)
theorem dX7_takeOff_34 : decode cX7_takeOff 34 = .ok (.dup2, 1) := dq_92 (hz_wg wX7_takeOff_0 (j := 34) (n := 92) rfl)
theorem dX7_takeOff_35 : decode cX7_takeOff 35 = .ok (.iaload, 1) := dq_46 (hz_wg wX7_takeOff_0 (j := 35) (n := 46) rfl)
theorem dX7_takeOff_36 : decode cX7_takeOff 36 = .ok (.aload_n 0, 1) := dq_42 (hz_wg wX7_takeOff_0 (j := 36) (n := 42) rfl)
theorem dX7_takeOff_37 : decode cX7_takeOff 37 = .ok (.getfield 34, 3) := dq_180 (hz_wg wX7_takeOff_0 (j := 37) (n := 180) rfl) (hz_wg wX7_takeOff_0 (j := 38) (n := 0) rfl) (hz_wg wX7_takeOff_0 (j := 39) (n := 34) rfl) rfl
theorem dX7_takeOff_40 : decode cX7_takeOff 40 = .ok (.isub, 1) := dq_100 (hz_wg wX7_takeOff_0 (j := 40) (n := 100) rfl)
theorem dX7_takeOff_41 : decode cX7_takeOff 41 = .ok (.iastore, 1) := dq_79 (hz_wg wX7_takeOff_0 (j := 41) (n := 79) rfl)
theorem dX7_takeOff_42 : decode cX7_takeOff 42 = .ok (.iinc 1 1, 3) := dq_132 (hz_wg wX7_takeOff_0 (j := 42) (n := 132) rfl) (hz_wg wX7_takeOff_0 (j := 43) (n := 1) rfl) (hz_wg wX7_takeOff_0 (j := 44) (n := 1) rfl) (by decide)
theorem dX7_takeOff_45 : decode cX7_takeOff 45 = .ok (.goto (-43), 3) := dq_167 (hz_wg wX7_takeOff_0 (j := 45) (n := 167) rfl) (hz_wg wX7_takeOff_0 (j := 46) (n := 255) rfl) (hz_wg wX7_takeOff_0 (j := 47) (n := 213) rfl) (by decide)
theorem dX7_takeOff_48 : decode cX7_takeOff 48 = .ok (.aload_n 0, 1) := dq_42 (hz_wg wX7_takeOff_0 (j := 48) (n := 42) rfl)
theorem dX7_takeOff_49 : decode cX7_takeOff 49 = .ok (.getfield 9, 3) := dq_180 (hz_wg wX7_takeOff_0 (j := 49) (n := 180) rfl) (hz_wg wX7_takeOff_0 (j := 50) (n := 0) rfl) (hz_wg wX7_takeOff_0 (j := 51) (n := 9) rfl) rfl
theorem dX7_takeOff_52 : decode cX7_takeOff 52 = .ok (.ifCond .lt 35, 3) := dq_155 (hz_wg wX7_takeOff_0 (j := 52) (n := 155) rfl) (hz_wg wX7_takeOff_0 (j := 53) (n := 0) rfl) (hz_wg wX7_takeOff_0 (j := 54) (n := 35) rfl) (by decide)
theorem dX7_takeOff_55 : decode cX7_takeOff 55 = .ok (.aload_n 0, 1) := dq_42 (hz_wg wX7_takeOff_0 (j := 55) (n := 42) rfl)
theorem dX7_takeOff_56 : decode cX7_takeOff 56 = .ok (.getfield 9, 3) := dq_180 (hz_wg wX7_takeOff_0 (j := 56) (n := 180) rfl) (hz_wg wX7_takeOff_0 (j := 57) (n := 0) rfl) (hz_wg wX7_takeOff_0 (j := 58) (n := 9) rfl) rfl
theorem dX7_takeOff_59 : decode cX7_takeOff 59 = .ok (.bipush 100, 2) := dq_16 (hz_wg wX7_takeOff_0 (j := 59) (n := 16) rfl) (hz_wg wX7_takeOff_0 (j := 60) (n := 100) rfl) (by decide)
theorem dX7_takeOff_61 : decode cX7_takeOff 61 = .ok (.if_icmp .ge 26, 3) := dq_162 (hz_wg wX7_takeOff_0 (j := 61) (n := 162) rfl) (hz_wg wX7_takeOff_0 (j := 62) (n := 0) rfl) (hz_wg wX7_takeOff_0 (j := 63) (n := 26) rfl) (by decide)
theorem dX7_takeOff_64 : decode cX7_takeOff 64 = .ok (.aload_n 0, 1) := dq_42 (hz_wg wX7_takeOff_1 (j := 0) (n := 42) rfl)
theorem dX7_takeOff_65 : decode cX7_takeOff 65 = .ok (.getfield 15, 3) := dq_180 (hz_wg wX7_takeOff_1 (j := 1) (n := 180) rfl) (hz_wg wX7_takeOff_1 (j := 2) (n := 0) rfl) (hz_wg wX7_takeOff_1 (j := 3) (n := 15) rfl) rfl
theorem dX7_takeOff_68 : decode cX7_takeOff 68 = .ok (.aload_n 0, 1) := dq_42 (hz_wg wX7_takeOff_1 (j := 4) (n := 42) rfl)
theorem dX7_takeOff_69 : decode cX7_takeOff 69 = .ok (.getfield 9, 3) := dq_180 (hz_wg wX7_takeOff_1 (j := 5) (n := 180) rfl) (hz_wg wX7_takeOff_1 (j := 6) (n := 0) rfl) (hz_wg wX7_takeOff_1 (j := 7) (n := 9) rfl) rfl
theorem dX7_takeOff_72 : decode cX7_takeOff 72 = .ok (.aload_n 0, 1) := dq_42 (hz_wg wX7_takeOff_1 (j := 8) (n := 42) rfl)
theorem dX7_takeOff_73 : decode cX7_takeOff 73 = .ok (.getfield 34, 3) := dq_180 (hz_wg wX7_takeOff_1 (j := 9) (n := 180) rfl) (hz_wg wX7_takeOff_1 (j := 10) (n := 0) rfl) (hz_wg wX7_takeOff_1 (j := 11) (n := 34) rfl) rfl
theorem dX7_takeOff_76 : decode cX7_takeOff 76 = .ok (.iastore, 1) := dq_79 (hz_wg wX7_takeOff_1 (j := 12) (n := 79) rfl)
theorem dX7_takeOff_77 : decode cX7_takeOff 77 = .ok (.aload_n 0, 1) := dq_42 (hz_wg wX7_takeOff_1 (j := 13) (n := 42) rfl)
theorem dX7_takeOff_78 : decode cX7_takeOff 78 = .ok (.dup, 1) := dq_89 (hz_wg wX7_takeOff_1 (j := 14) (n := 89) rfl)
theorem dX7_takeOff_79 : decode cX7_takeOff 79 = .ok (.getfield 9, 3) := dq_180 (hz_wg wX7_takeOff_1 (j := 15) (n := 180) rfl) (hz_wg wX7_takeOff_1 (j := 16) (n := 0) rfl) (hz_wg wX7_takeOff_1 (j := 17) (n := 9) rfl) rfl
theorem dX7_takeOff_82 : decode cX7_takeOff 82 = .ok (.iconst 1, 1) := dq_4 (hz_wg wX7_takeOff_1 (j := 18) (n := 4) rfl)
theorem dX7_takeOff_83 : decode cX7_takeOff 83 = .ok (.iadd, 1) := dq_96 (hz_wg wX7_takeOff_1 (j := 19) (n := 96) rfl)
theorem dX7_takeOff_84 : decode cX7_takeOff 84 = .ok (.putfield 9, 3) := dq_181 (hz_wg wX7_takeOff_1 (j := 20) (n := 181) rfl) (hz_wg wX7_takeOff_1 (j := 21) (n := 0) rfl) (hz_wg wX7_takeOff_1 (j := 22) (n := 9) rfl) rfl
theorem dX7_takeOff_87 : decode cX7_takeOff 87 = .ok (.return_, 1) := dq_177 (hz_wg wX7_takeOff_1 (j := 23) (n := 177) rfl)
set_option maxHeartbeats 4000000 in
set_option maxRecDepth 100000 in
theorem t_X7_takeOff (l : Launch) (dC : Nat → ClassId) (dI : Nat → Nat → Nat) (dA : Nat → ClassId) (L : List Nat) (h : hx_h) (sz : Nat) (x : Nat) (hT : hx_T T_tb L h) (gx : hx_g L h x 7)  : Met l yX7_takeOff (Cond.code yX7_takeOff cX7_takeOff 2 none :: hx_all) ({ frames := 1, cells := 0, slots := 0, locals := 21 }) (va_Pc [.ref x] (hx_B T_tb (P_ty dA) (dC, dI) vwCl L h sz)) (va_Qv (fun (u : List Nat × hx_h) => hx_T T_tb u.1 u.2 ∧ hx_S T_tb [(7, 0), (35, 0), (36, 0)] L h u.1 u.2) (hx_E T_tb (P_ty dA) (dC, dI) vwCl (hx_A L sz)) (hx_A L sz)) 0 0 (hx_A L sz) := by
  refine hx_met (lv := [(0, .ref x)]) (by decide +kernel) rfl (Nat.le_of_ble_eq_true rfl) rfl ?_
  intro p e s m below meth c hx hb hml hr hlk hts0 hown hin hsz hW ls hl
  have hts : ∀ w ∈ hx_all, w.before _ s = true := fun w hw => hts0 w (List.mem_cons_of_mem _ hw)
  have hown : s.vm.findClass "SmallCourt$Rings" = some m.cls := hown
  have hM : hx_S T_tb [(7, 0), (35, 0), (36, 0)] L h L h := hx_S.rf
  refine lv_iconst (v := 0) hx hb dX7_takeOff_0 (by decide) ?_
  refine lv_istore_n (lv' := [(1, .int (0 : Int32)), (0, .ref x)]) hx hb dX7_takeOff_1 rfl hl (by decide) rfl (fun ls hl => ?_)
  have loop2 : ∀ (n2 : Nat) (iv2_1 : Int32) (H : Heap) (locs : List Loc) (hL1 : List Nat) (hl1 : hx_h) (ls : Array Slot), 0 ≤ iv2_1.toInt → iv2_1.toInt ≤ 4 → 4 < iv2_1.toInt + n2 → hx_W T_tb (P_ty dA) (dC, dI) vwCl (hx_A L sz) s.heap hL1 hl1 s H locs → hx_T T_tb hL1 hl1 → hx_S T_tb [(7, 0), (35, 0), (36, 0)] L h hL1 hl1 → hx_g hL1 hl1 x 7 → lv_has ls 2 [(1, .int iv2_1), (0, .ref x)] → W p l e ({ frames := 1, cells := 0, slots := 0, locals := 21 }) s m ([.ref x] : List Value).toArray below meth c H locs 0 0 (MQ below (va_Qv (fun (u : List Nat × hx_h) => hx_T T_tb u.1 u.2 ∧ hx_S T_tb [(7, 0), (35, 0), (36, 0)] L h u.1 u.2) (hx_E T_tb (P_ty dA) (dC, dI) vwCl (hx_A L sz)) (hx_A L sz)) ([.ref x] : List Value).toArray s 0 0 (hx_A L sz)) (F0 m 2 ls []) := by
    intro n2
    induction n2 with
    | zero => intro iv2_1 H locs hL1 hl1 ls bl2_1 bu2_1 hn2; exfalso; omega
    | succ n2 ih2 =>
      intro iv2_1 H locs hL1 hl1 ls bl2_1 bu2_1 hn2 hW hT hM  gx  hl
      refine lv_iload_n hx hb dX7_takeOff_2 rfl (lv_at hl 0 rfl) ?_
      refine lv_aload_n hx hb dX7_takeOff_3 rfl (lv_at hl 1 rfl) ?_
      refine hx_geti hx hb hts hC_7 hown hW hT gx tt_7 1 (by decide) rfl kw_311 ⟨rfl, rfl, rfl⟩ dX7_takeOff_4 (fun x_1 ex_1 lx_1 ux_1 => ?_)
      have fx_1 := ex_1.symm
      refine hb_icmp_ge (zx := iv2_1.toInt) (zy := x_1.toInt) (tgt := 48) hx hb rfl rfl dX7_takeOff_7 (by decide) (fun c_2 => ?_) (fun c_2 => ?_)
      · skip
        refine lv_aload_n hx hb dX7_takeOff_48 rfl (lv_at hl 1 rfl) ?_
        refine hx_geti hx hb hts hC_7 hown hW hT gx tt_7 0 (by decide) rfl kw_309 ⟨rfl, rfl, rfl⟩ dX7_takeOff_49 (fun x_3 ex_3 lx_3 ux_3 => ?_)
        have fx_3 := ex_3.symm
        refine hb_if_lt (zx := x_3.toInt) (tgt := 87) hx hb rfl dX7_takeOff_52 (by decide) (fun c_4 => ?_) (fun c_4 => ?_)
        · skip
          exact hx_retv hx hb hr hlk hW ⟨hT, hM⟩ dX7_takeOff_87
        · skip
          refine lv_aload_n hx hb dX7_takeOff_55 rfl (lv_at hl 1 rfl) ?_
          refine hk_geti hx hb hts hC_7 hown hW gx tt_7 0 (by decide) rfl kw_309 ⟨rfl, rfl, rfl⟩ fx_3 dX7_takeOff_56 ?_
          refine lv_bipush (v := 100) hx hb dX7_takeOff_59 (by decide) ?_
          refine hb_icmp_ge (zx := x_3.toInt) (zy := 100) (tgt := 87) hx hb rfl (by decide) dX7_takeOff_61 (by decide) (fun c_5 => ?_) (fun c_5 => ?_)
          · skip
            exact hx_retv hx hb hr hlk hW ⟨hT, hM⟩ dX7_takeOff_87
          · skip
            refine lv_aload_n hx hb dX7_takeOff_64 rfl (lv_at hl 1 rfl) ?_
            refine hx_getn hx hb hts hC_7 hown hW hT gx tt_7 3 (by decide) rfl kw_315 ⟨rfl, rfl, rfl⟩ dX7_takeOff_65 (fun q_6 fq_6 gq_6 => ?_)
            refine lv_aload_n hx hb dX7_takeOff_68 rfl (lv_at hl 1 rfl) ?_
            refine hk_geti hx hb hts hC_7 hown hW gx tt_7 0 (by decide) rfl kw_309 ⟨rfl, rfl, rfl⟩ fx_3 dX7_takeOff_69 ?_
            refine lv_aload_n hx hb dX7_takeOff_72 rfl (lv_at hl 1 rfl) ?_
            refine hx_geti hx hb hts hC_7 hown hW hT gx tt_7 2 (by decide) rfl kw_313 ⟨rfl, rfl, rfl⟩ dX7_takeOff_73 (fun x_7 ex_7 lx_7 ux_7 => ?_)
            have fx_7 := ex_7.symm
            refine hx_iast hx hb hW hT (hx_S.rf (M := [(35, 0)])) gq_6 tt_35 rfl ⟨by omega, by omega⟩ rfl (i32_r _) (List.mem_singleton.mpr rfl) dX7_takeOff_76 (fun H locs h_8 eh_8 hW hT hs => ?_)
            replace fx_1 := (hs.o gx trivial rfl).1.trans fx_1
            replace fx_3 := (hs.o gx trivial rfl).1.trans fx_3
            replace fq_6 := (hs.o gx trivial rfl).2.trans fq_6
            replace fx_7 := (hs.o gx trivial rfl).1.trans fx_7
            replace hM := hM.tr (hs.mono (by decide))
            replace gx := gx.S hs
            replace gq_6 := gq_6.S hs
            refine lv_aload_n hx hb dX7_takeOff_77 rfl (lv_at hl 1 rfl) ?_
            refine lv_dup hx hb dX7_takeOff_78 rfl ?_
            refine hk_geti hx hb hts hC_7 hown hW gx tt_7 0 (by decide) rfl kw_309 ⟨rfl, rfl, rfl⟩ fx_3 dX7_takeOff_79 ?_
            refine lv_iconst (v := 1) hx hb dX7_takeOff_82 (by decide) ?_
            refine lv_iadd hx hb dX7_takeOff_83 ?_
            have rg_9 := i32_r x_3
            refine lv_topi (fun x_10 ex_10 => ?_)
            have zx_10 : x_10.toInt = x_3.toInt + 1 := by rw [ex_10]; exact i32_add rfl (by decide) (by omega) (by omega)
            refine hx_puti hx hb hts hC_7 hown hW hT (hx_S.rf (M := [(7, 0)])) gx tt_7 0 (by decide) rfl kw_309 ⟨rfl, rfl, rfl⟩ rfl (x := x_10) ⟨by omega, by omega⟩ rfl rfl rfl (List.mem_singleton.mpr rfl) dX7_takeOff_84 (fun H locs h_11 eh_11 hW hT hs => ?_)
            replace fx_1 := (hs.o gx trivial rfl).1.trans fx_1
            replace fq_6 := (hs.o gx trivial rfl).2.trans fq_6
            replace fx_7 := (hs.o gx trivial rfl).1.trans fx_7
            replace hM := hM.tr (hs.mono (by decide))
            replace gx := gx.S hs
            replace gq_6 := gq_6.S hs
            have f_12 : h_11.2.1 x 0 = x_10 := by rw [eh_11]; exact hx_pi_at _ _ _ _
            exact hx_retv hx hb hr hlk hW ⟨hT, hM⟩ dX7_takeOff_87
      · skip
        refine lv_aload_n hx hb dX7_takeOff_10 rfl (lv_at hl 1 rfl) ?_
        refine hx_getn hx hb hts hC_7 hown hW hT gx tt_7 5 (by decide) rfl kw_318 ⟨rfl, rfl, rfl⟩ dX7_takeOff_11 (fun q_13 fq_13 gq_13 => ?_)
        refine lv_aload_n hx hb dX7_takeOff_14 rfl (lv_at hl 1 rfl) ?_
        refine hx_getn hx hb hts hC_7 hown hW hT gx tt_7 7 (by decide) rfl kw_320 ⟨rfl, rfl, rfl⟩ dX7_takeOff_15 (fun q_14 fq_14 gq_14 => ?_)
        refine lv_iload_n hx hb dX7_takeOff_18 rfl (lv_at hl 0 rfl) ?_
        refine hx_iald hx hb hW hT gq_14 tt_38 rfl ⟨by omega, by omega⟩ dX7_takeOff_19 (fun x_15 ex_15 lx_15 ux_15 => ?_)
        refine lv_bipush (v := 40) hx hb dX7_takeOff_20 (by decide) ?_
        refine lv_imul hx hb dX7_takeOff_22 ?_
        refine lv_topi (fun x_16 ex_16 => ?_)
        have zx_16 : x_16.toInt = x_15.toInt * 40 := by rw [ex_16]; exact i32_mul rfl (by decide) rfl (by omega) (by omega)
        refine lv_aload_n hx hb dX7_takeOff_23 rfl (lv_at hl 1 rfl) ?_
        refine hk_getr hx hb hts hC_7 hown hW gx tt_7 7 (by decide) rfl kw_320 ⟨rfl, rfl, rfl⟩ fq_14 dX7_takeOff_24 ?_
        refine lv_aload_n hx hb dX7_takeOff_27 rfl (lv_at hl 1 rfl) ?_
        refine lv_iload_n hx hb dX7_takeOff_28 rfl (lv_at hl 0 rfl) ?_
        refine hx_goi (hx_runV (As := [.int iv2_1]) (rest := [.ref q_14, .int x_16, .ref q_13]) ⟨hx, hb, hml, hown, hts⟩ hW gx tt_7 (T := TX7) (N := 8) rfl (t_X7_placeAfter l dC dI dA hL1 hl1 H.size x iv2_1 hT gx ⟨by omega, by omega⟩) (cwV 1 hts (hx_gV kw_1023 kw_1020 kw_1022 kw_40 kw_101) rfl rfl rfl (by decide +kernel) ⟨Nat.le_of_ble_eq_true rfl, Nat.le_of_ble_eq_true rfl⟩) rfl hl.1 rfl (Nat.le_of_ble_eq_true rfl) dX7_takeOff_29 ⟨Nat.le_of_ble_eq_true rfl, Nat.le_of_ble_eq_true rfl⟩) hW (fun r_19 L_17 h_18 H locs p_20 hW => ?_)
        obtain ⟨hr_21, hT, hs⟩ := p_20
        replace hT : hx_T T_tb L_17 h_18 := hT
        replace hs : hx_S T_tb [] hL1 hl1 L_17 h_18 := hs
        replace fx_1 := (hs.o gx trivial rfl).1.trans fx_1
        replace fq_13 := (hs.o gx trivial rfl).2.trans fq_13
        replace fq_14 := (hs.o gx trivial rfl).2.trans fq_14
        replace hM := hM.tr (hs.mono (by decide))
        replace gx := gx.S hs
        replace gq_13 := gq_13.S hs
        replace gq_14 := gq_14.S hs
        refine hx_iald hx hb hW hT gq_14 tt_38 rfl ⟨by omega, by omega⟩ dX7_takeOff_32 (fun x_22 ex_22 lx_22 ux_22 => ?_)
        refine lv_iadd hx hb dX7_takeOff_33 ?_
        have rg_23 := i32_r x_16
        have rg_24 := i32_r x_22
        refine lv_topi (fun x_25 ex_25 => ?_)
        have zx_25 : x_25.toInt = x_16.toInt + x_22.toInt := by rw [ex_25]; exact i32_add rfl rfl (by omega) (by omega)
        refine lv_dup2_11 hx hb dX7_takeOff_34 rfl rfl ?_
        refine hx_iald hx hb hW hT gq_13 tt_36 rfl ⟨by omega, by omega⟩ dX7_takeOff_35 (fun x_26 ex_26 lx_26 ux_26 => ?_)
        refine lv_aload_n hx hb dX7_takeOff_36 rfl (lv_at hl 1 rfl) ?_
        refine hx_geti hx hb hts hC_7 hown hW hT gx tt_7 2 (by decide) rfl kw_313 ⟨rfl, rfl, rfl⟩ dX7_takeOff_37 (fun x_27 ex_27 lx_27 ux_27 => ?_)
        have fx_27 := ex_27.symm
        refine lv_isub hx hb dX7_takeOff_40 ?_
        have rg_28 := i32_r x_26
        have rg_29 := i32_r x_27
        refine lv_topi (fun x_30 ex_30 => ?_)
        refine hx_iast hx hb hW hT (hx_S.rf (M := [(36, 0)])) gq_13 tt_36 rfl ⟨by omega, by omega⟩ rfl (i32_r _) (List.mem_singleton.mpr rfl) dX7_takeOff_41 (fun H locs h_31 eh_31 hW hT hs => ?_)
        replace fx_1 := (hs.o gx trivial rfl).1.trans fx_1
        replace fq_13 := (hs.o gx trivial rfl).2.trans fq_13
        replace fq_14 := (hs.o gx trivial rfl).2.trans fq_14
        replace fx_27 := (hs.o gx trivial rfl).1.trans fx_27
        replace hM := hM.tr (hs.mono (by decide))
        replace gx := gx.S hs
        replace gq_13 := gq_13.S hs
        replace gq_14 := gq_14.S hs
        obtain ⟨x_32, ex_32⟩ : ∃ y : Int32, y = iv2_1 + Int32.ofInt 1 := ⟨_, rfl⟩
        have rg_33 := i32_r iv2_1
        have zx_32 : x_32.toInt = iv2_1.toInt + (1) := by rw [ex_32]; exact i32_add rfl (by decide) (by omega) (by omega)
        refine lv_iinc (v := x_32) (lv' := [(1, .int x_32), (0, .ref x)]) hx hb dX7_takeOff_42 hl (k := 0) rfl ex_32.symm (by decide) rfl (fun ls hl => ?_)
        refine lv_goto (tgt := 2) hx hb dX7_takeOff_45 (by decide) ?_
        exact ih2 x_32 _ _ L_17 h_31 ls (by omega) (by omega) (by omega) hW hT hM  gx  (lv_sub hl [0, 1] rfl)
  exact loop2 5 (0 : Int32) _ _ L h ls (by decide) (by decide) (by decide) hW hT hM  gx  hl

def wLX7_isDebt_0 : List Nat := [44, 180, 0, 61, 180, 0, 67, 42, 180, 0, 25, 27, 46, 160, 0, 27, 44, 180, 0, 72, 180, 0, 67, 42, 180, 0, 25, 42, 27, 182, 0, 75, 46, 160, 0, 7, 4, 167, 0, 4, 3, 172]
theorem wX7_isDebt_0 : (cX7_isDebt.data.toList.map UInt8.toNat).drop 0 = wLX7_isDebt_0 ++ ([]) := by decide +kernel
theorem dX7_isDebt_0 : decode cX7_isDebt 0 = .ok (.aload_n 2, 1) := dq_44 (hz_wg wX7_isDebt_0 (j := 0) (n := 44) rfl)
theorem dX7_isDebt_1 : decode cX7_isDebt 1 = .ok (.getfield 61, 3) := dq_180 (hz_wg wX7_isDebt_0 (j := 1) (n := 180) rfl) (hz_wg wX7_isDebt_0 (j := 2) (n := 0) rfl) (hz_wg wX7_isDebt_0 (j := 3) (n := 61) rfl) rfl
theorem dX7_isDebt_4 : decode cX7_isDebt 4 = .ok (.getfield 67, 3) := dq_180 (hz_wg wX7_isDebt_0 (j := 4) (n := 180) rfl) (hz_wg wX7_isDebt_0 (j := 5) (n := 0) rfl) (hz_wg wX7_isDebt_0 (j := 6) (n := 67) rfl) rfl
theorem dX7_isDebt_7 : decode cX7_isDebt 7 = .ok (.aload_n 0, 1) := dq_42 (hz_wg wX7_isDebt_0 (j := 7) (n := 42) rfl)
theorem dX7_isDebt_8 : decode cX7_isDebt 8 = .ok (.getfield 25, 3) := dq_180 (hz_wg wX7_isDebt_0 (j := 8) (n := 180) rfl) (hz_wg wX7_isDebt_0 (j := 9) (n := 0) rfl) (hz_wg wX7_isDebt_0 (j := 10) (n := 25) rfl) rfl
theorem dX7_isDebt_11 : decode cX7_isDebt 11 = .ok (.iload_n 1, 1) := dq_27 (hz_wg wX7_isDebt_0 (j := 11) (n := 27) rfl)
theorem dX7_isDebt_12 : decode cX7_isDebt 12 = .ok (.iaload, 1) := dq_46 (hz_wg wX7_isDebt_0 (j := 12) (n := 46) rfl)
theorem dX7_isDebt_13 : decode cX7_isDebt 13 = .ok (.if_icmp .ne 27, 3) := dq_160 (hz_wg wX7_isDebt_0 (j := 13) (n := 160) rfl) (hz_wg wX7_isDebt_0 (j := 14) (n := 0) rfl) (hz_wg wX7_isDebt_0 (j := 15) (n := 27) rfl) (by decide)
theorem dX7_isDebt_16 : decode cX7_isDebt 16 = .ok (.aload_n 2, 1) := dq_44 (hz_wg wX7_isDebt_0 (j := 16) (n := 44) rfl)
theorem dX7_isDebt_17 : decode cX7_isDebt 17 = .ok (.getfield 72, 3) := dq_180 (hz_wg wX7_isDebt_0 (j := 17) (n := 180) rfl) (hz_wg wX7_isDebt_0 (j := 18) (n := 0) rfl) (hz_wg wX7_isDebt_0 (j := 19) (n := 72) rfl) rfl
theorem dX7_isDebt_20 : decode cX7_isDebt 20 = .ok (.getfield 67, 3) := dq_180 (hz_wg wX7_isDebt_0 (j := 20) (n := 180) rfl) (hz_wg wX7_isDebt_0 (j := 21) (n := 0) rfl) (hz_wg wX7_isDebt_0 (j := 22) (n := 67) rfl) rfl
theorem dX7_isDebt_23 : decode cX7_isDebt 23 = .ok (.aload_n 0, 1) := dq_42 (hz_wg wX7_isDebt_0 (j := 23) (n := 42) rfl)
theorem dX7_isDebt_24 : decode cX7_isDebt 24 = .ok (.getfield 25, 3) := dq_180 (hz_wg wX7_isDebt_0 (j := 24) (n := 180) rfl) (hz_wg wX7_isDebt_0 (j := 25) (n := 0) rfl) (hz_wg wX7_isDebt_0 (j := 26) (n := 25) rfl) rfl
theorem dX7_isDebt_27 : decode cX7_isDebt 27 = .ok (.aload_n 0, 1) := dq_42 (hz_wg wX7_isDebt_0 (j := 27) (n := 42) rfl)
theorem dX7_isDebt_28 : decode cX7_isDebt 28 = .ok (.iload_n 1, 1) := dq_27 (hz_wg wX7_isDebt_0 (j := 28) (n := 27) rfl)
theorem dX7_isDebt_29 : decode cX7_isDebt 29 = .ok (.invokevirtual 75, 3) := dq_182 (hz_wg wX7_isDebt_0 (j := 29) (n := 182) rfl) (hz_wg wX7_isDebt_0 (j := 30) (n := 0) rfl) (hz_wg wX7_isDebt_0 (j := 31) (n := 75) rfl) rfl
theorem dX7_isDebt_32 : decode cX7_isDebt 32 = .ok (.iaload, 1) := dq_46 (hz_wg wX7_isDebt_0 (j := 32) (n := 46) rfl)
theorem dX7_isDebt_33 : decode cX7_isDebt 33 = .ok (.if_icmp .ne 7, 3) := dq_160 (hz_wg wX7_isDebt_0 (j := 33) (n := 160) rfl) (hz_wg wX7_isDebt_0 (j := 34) (n := 0) rfl) (hz_wg wX7_isDebt_0 (j := 35) (n := 7) rfl) (by decide)
theorem dX7_isDebt_36 : decode cX7_isDebt 36 = .ok (.iconst 1, 1) := dq_4 (hz_wg wX7_isDebt_0 (j := 36) (n := 4) rfl)
theorem dX7_isDebt_37 : decode cX7_isDebt 37 = .ok (.goto 4, 3) := dq_167 (hz_wg wX7_isDebt_0 (j := 37) (n := 167) rfl) (hz_wg wX7_isDebt_0 (j := 38) (n := 0) rfl) (hz_wg wX7_isDebt_0 (j := 39) (n := 4) rfl) (by decide)
theorem dX7_isDebt_40 : decode cX7_isDebt 40 = .ok (.iconst 0, 1) := dq_3 (hz_wg wX7_isDebt_0 (j := 40) (n := 3) rfl)
theorem dX7_isDebt_41 : decode cX7_isDebt 41 = .ok (.ireturn, 1) := dq_172 (hz_wg wX7_isDebt_0 (j := 41) (n := 172) rfl)
set_option maxHeartbeats 4000000 in
set_option maxRecDepth 100000 in
theorem t_X7_isDebt (l : Launch) (dC : Nat → ClassId) (dI : Nat → Nat → Nat) (dA : Nat → ClassId) (L : List Nat) (h : hx_h) (sz : Nat) (x : Nat) (i1 : Int32) (v1 : Nat) (hT : hx_T T_tb L h) (gx : hx_g L h x 7) (gv1 : hx_g L h v1 2) (hi1 : 0 ≤ i1.toInt ∧ i1.toInt ≤ 3) : Met l yX7_isDebt (Cond.code yX7_isDebt cX7_isDebt 3 (some .boolean) :: hx_all) ({ frames := 1, cells := 0, slots := 0, locals := 21 }) (va_Pc [.ref x, .int i1, .ref v1] (hx_B T_tb (P_ty dA) (dC, dI) vwCl L h sz)) (va_Qi (fun (r : Int32) (u : List Nat × hx_h) => (r.toInt = 0 ∨ r.toInt = 1) ∧ hx_T T_tb u.1 u.2 ∧ hx_S T_tb [] L h u.1 u.2) (hx_E T_tb (P_ty dA) (dC, dI) vwCl (hx_A L sz)) (hx_A L sz)) 0 0 (hx_A L sz) := by
  refine hx_met (lv := [(0, .ref x), (1, .int i1), (2, .ref v1)]) (by decide +kernel) rfl (Nat.le_of_ble_eq_true rfl) rfl ?_
  intro p e s m below meth c hx hb hml hr hlk hts0 hown hin hsz hW ls hl
  have hts : ∀ w ∈ hx_all, w.before _ s = true := fun w hw => hts0 w (List.mem_cons_of_mem _ hw)
  have hown : s.vm.findClass "SmallCourt$Rings" = some m.cls := hown
  have hM : hx_S T_tb [] L h L h := hx_S.rf
  refine lv_aload_n hx hb dX7_isDebt_0 rfl (lv_at hl 2 rfl) ?_
  refine hx_getn hx hb hts hC_2 hown hW hT gv1 tt_2 2 (by decide) rfl kw_731 ⟨rfl, rfl, rfl⟩ dX7_isDebt_1 (fun q_1 fq_1 gq_1 => ?_)
  refine hx_geti hx hb hts hC_4 hown hW hT gq_1 tt_4 0 (by decide) rfl kw_611 ⟨rfl, rfl, rfl⟩ dX7_isDebt_4 (fun x_2 ex_2 lx_2 ux_2 => ?_)
  have fx_2 := ex_2.symm
  refine lv_aload_n hx hb dX7_isDebt_7 rfl (lv_at hl 0 rfl) ?_
  refine hx_getn hx hb hts hC_7 hown hW hT gx tt_7 7 (by decide) rfl kw_320 ⟨rfl, rfl, rfl⟩ dX7_isDebt_8 (fun q_3 fq_3 gq_3 => ?_)
  refine lv_iload_n hx hb dX7_isDebt_11 rfl (lv_at hl 1 rfl) ?_
  refine hx_iald hx hb hW hT gq_3 tt_38 rfl ⟨by omega, by omega⟩ dX7_isDebt_12 (fun x_4 ex_4 lx_4 ux_4 => ?_)
  refine hb_icmp_ne (zx := x_2.toInt) (zy := x_4.toInt) (tgt := 40) hx hb rfl rfl dX7_isDebt_13 (by decide) (fun c_5 => ?_) (fun c_5 => ?_)
  · skip
    refine lv_iconst (v := 0) hx hb dX7_isDebt_40 (by decide) ?_
    exact hx_retz hx hb hr rfl hlk hW ⟨(by decide), hT, hM⟩ dX7_isDebt_41
  · skip
    refine lv_aload_n hx hb dX7_isDebt_16 rfl (lv_at hl 2 rfl) ?_
    refine hx_getn hx hb hts hC_2 hown hW hT gv1 tt_2 1 (by decide) rfl kw_727 ⟨rfl, rfl, rfl⟩ dX7_isDebt_17 (fun q_6 fq_6 gq_6 => ?_)
    refine hx_geti hx hb hts hC_4 hown hW hT gq_6 tt_4 0 (by decide) rfl kw_611 ⟨rfl, rfl, rfl⟩ dX7_isDebt_20 (fun x_7 ex_7 lx_7 ux_7 => ?_)
    have fx_7 := ex_7.symm
    refine lv_aload_n hx hb dX7_isDebt_23 rfl (lv_at hl 0 rfl) ?_
    refine hk_getr hx hb hts hC_7 hown hW gx tt_7 7 (by decide) rfl kw_320 ⟨rfl, rfl, rfl⟩ fq_3 dX7_isDebt_24 ?_
    refine lv_aload_n hx hb dX7_isDebt_27 rfl (lv_at hl 0 rfl) ?_
    refine lv_iload_n hx hb dX7_isDebt_28 rfl (lv_at hl 1 rfl) ?_
    refine hx_goi (hx_runV (As := [.int i1]) (rest := [.ref q_3, .int x_7]) ⟨hx, hb, hml, hown, hts⟩ hW gx tt_7 (T := TX7) (N := 8) rfl (t_X7_placeAfter l dC dI dA L h s.heap.size x i1 hT gx ⟨by omega, by omega⟩) (cwV 1 hts (hx_gV kw_1023 kw_1020 kw_1022 kw_40 kw_101) rfl rfl rfl (by decide +kernel) ⟨Nat.le_of_ble_eq_true rfl, Nat.le_of_ble_eq_true rfl⟩) rfl hl.1 rfl (Nat.le_of_ble_eq_true rfl) dX7_isDebt_29 ⟨Nat.le_of_ble_eq_true rfl, Nat.le_of_ble_eq_true rfl⟩) hW (fun r_10 L_8 h_9 H locs p_11 hW => ?_)
    obtain ⟨hr_12, hT, hs⟩ := p_11
    replace hT : hx_T T_tb L_8 h_9 := hT
    replace hs : hx_S T_tb [] L h L_8 h_9 := hs
    replace fq_1 := (hs.o gv1 trivial rfl).2.trans fq_1
    replace fx_2 := (hs.o gq_1 trivial rfl).1.trans fx_2
    replace fq_3 := (hs.o gx trivial rfl).2.trans fq_3
    replace fq_6 := (hs.o gv1 trivial rfl).2.trans fq_6
    replace fx_7 := (hs.o gq_6 trivial rfl).1.trans fx_7
    replace hM := hM.tr (hs.mono (by decide))
    replace gx := gx.S hs
    replace gv1 := gv1.S hs
    replace gq_1 := gq_1.S hs
    replace gq_3 := gq_3.S hs
    replace gq_6 := gq_6.S hs
    refine hx_iald hx hb hW hT gq_3 tt_38 rfl ⟨by omega, by omega⟩ dX7_isDebt_32 (fun x_13 ex_13 lx_13 ux_13 => ?_)
    refine hb_icmp_ne (zx := x_7.toInt) (zy := x_13.toInt) (tgt := 40) hx hb rfl rfl dX7_isDebt_33 (by decide) (fun c_14 => ?_) (fun c_14 => ?_)
    · skip
      refine lv_iconst (v := 0) hx hb dX7_isDebt_40 (by decide) ?_
      exact hx_retz hx hb hr rfl hlk hW ⟨(by decide), hT, hM⟩ dX7_isDebt_41
    · skip
      refine lv_iconst (v := 1) hx hb dX7_isDebt_36 (by decide) ?_
      refine lv_goto (tgt := 41) hx hb dX7_isDebt_37 (by decide) ?_
      exact hx_retz hx hb hr rfl hlk hW ⟨(by decide), hT, hM⟩ dX7_isDebt_41
