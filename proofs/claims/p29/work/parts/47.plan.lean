def wLX10_planned_0 : List Nat := [27, 3, 42, 180, 1, 179, 4, 100, 184, 0, 228, 154, 0, 5, 2, 172, 28, 154, 0, 12, 42, 180, 0, 165, 27, 46, 167, 0, 32, 28, 4, 160, 0, 12, 42, 180, 0, 168, 27, 46, 167, 0, 18, 28, 5, 160, 0, 12, 42, 180, 0, 186, 27, 46, 167, 0, 4, 2, 172]
theorem wX10_planned_0 : (cX10_planned.data.toList.map UInt8.toNat).drop 0 = wLX10_planned_0 ++ ([]) := by decide +kernel
theorem dX10_planned_0 : decode cX10_planned 0 = .ok (.iload_n 1, 1) := dq_27 (hz_wg wX10_planned_0 (j := 0) (n := 27) rfl)
theorem dX10_planned_1 : decode cX10_planned 1 = .ok (.iconst 0, 1) := dq_3 (hz_wg wX10_planned_0 (j := 1) (n := 3) rfl)
theorem dX10_planned_2 : decode cX10_planned 2 = .ok (.aload_n 0, 1) := dq_42 (hz_wg wX10_planned_0 (j := 2) (n := 42) rfl)
theorem dX10_planned_3 : decode cX10_planned 3 = .ok (.getfield 435, 3) := dq_180 (hz_wg wX10_planned_0 (j := 3) (n := 180) rfl) (hz_wg wX10_planned_0 (j := 4) (n := 1) rfl) (hz_wg wX10_planned_0 (j := 5) (n := 179) rfl) rfl
theorem dX10_planned_6 : decode cX10_planned 6 = .ok (.iconst 1, 1) := dq_4 (hz_wg wX10_planned_0 (j := 6) (n := 4) rfl)
theorem dX10_planned_7 : decode cX10_planned 7 = .ok (.isub, 1) := dq_100 (hz_wg wX10_planned_0 (j := 7) (n := 100) rfl)
theorem dX10_planned_8 : decode cX10_planned 8 = .ok (.invokestatic 228, 3) := dq_184 (hz_wg wX10_planned_0 (j := 8) (n := 184) rfl) (hz_wg wX10_planned_0 (j := 9) (n := 0) rfl) (hz_wg wX10_planned_0 (j := 10) (n := 228) rfl) rfl
theorem dX10_planned_11 : decode cX10_planned 11 = .ok (.ifCond .ne 5, 3) := dq_154 (hz_wg wX10_planned_0 (j := 11) (n := 154) rfl) (hz_wg wX10_planned_0 (j := 12) (n := 0) rfl) (hz_wg wX10_planned_0 (j := 13) (n := 5) rfl) (by decide)
theorem dX10_planned_14 : decode cX10_planned 14 = .ok (.iconst (-1), 1) := dq_2 (hz_wg wX10_planned_0 (j := 14) (n := 2) rfl)
theorem dX10_planned_15 : decode cX10_planned 15 = .ok (.ireturn, 1) := dq_172 (hz_wg wX10_planned_0 (j := 15) (n := 172) rfl)
theorem dX10_planned_16 : decode cX10_planned 16 = .ok (.iload_n 2, 1) := dq_28 (hz_wg wX10_planned_0 (j := 16) (n := 28) rfl)
theorem dX10_planned_17 : decode cX10_planned 17 = .ok (.ifCond .ne 12, 3) := dq_154 (hz_wg wX10_planned_0 (j := 17) (n := 154) rfl) (hz_wg wX10_planned_0 (j := 18) (n := 0) rfl) (hz_wg wX10_planned_0 (j := 19) (n := 12) rfl) (by decide)
theorem dX10_planned_20 : decode cX10_planned 20 = .ok (.aload_n 0, 1) := dq_42 (hz_wg wX10_planned_0 (j := 20) (n := 42) rfl)
theorem dX10_planned_21 : decode cX10_planned 21 = .ok (.getfield 165, 3) := dq_180 (hz_wg wX10_planned_0 (j := 21) (n := 180) rfl) (hz_wg wX10_planned_0 (j := 22) (n := 0) rfl) (hz_wg wX10_planned_0 (j := 23) (n := 165) rfl) rfl
theorem dX10_planned_24 : decode cX10_planned 24 = .ok (.iload_n 1, 1) := dq_27 (hz_wg wX10_planned_0 (j := 24) (n := 27) rfl)
theorem dX10_planned_25 : decode cX10_planned 25 = .ok (.iaload, 1) := dq_46 (hz_wg wX10_planned_0 (j := 25) (n := 46) rfl)
theorem dX10_planned_26 : decode cX10_planned 26 = .ok (.goto 32, 3) := dq_167 (hz_wg wX10_planned_0 (j := 26) (n := 167) rfl) (hz_wg wX10_planned_0 (j := 27) (n := 0) rfl) (hz_wg wX10_planned_0 (j := 28) (n := 32) rfl) (by decide)
theorem dX10_planned_29 : decode cX10_planned 29 = .ok (.iload_n 2, 1) := dq_28 (hz_wg wX10_planned_0 (j := 29) (n := 28) rfl)
theorem dX10_planned_30 : decode cX10_planned 30 = .ok (.iconst 1, 1) := dq_4 (hz_wg wX10_planned_0 (j := 30) (n := 4) rfl)
theorem dX10_planned_31 : decode cX10_planned 31 = .ok (.if_icmp .ne 12, 3) := dq_160 (hz_wg wX10_planned_0 (j := 31) (n := 160) rfl) (hz_wg wX10_planned_0 (j := 32) (n := 0) rfl) (hz_wg wX10_planned_0 (j := 33) (n := 12) rfl) (by decide)
theorem dX10_planned_34 : decode cX10_planned 34 = .ok (.aload_n 0, 1) := dq_42 (hz_wg wX10_planned_0 (j := 34) (n := 42) rfl)
theorem dX10_planned_35 : decode cX10_planned 35 = .ok (.getfield 168, 3) := dq_180 (hz_wg wX10_planned_0 (j := 35) (n := 180) rfl) (hz_wg wX10_planned_0 (j := 36) (n := 0) rfl) (hz_wg wX10_planned_0 (j := 37) (n := 168) rfl) rfl
theorem dX10_planned_38 : decode cX10_planned 38 = .ok (.iload_n 1, 1) := dq_27 (hz_wg wX10_planned_0 (j := 38) (n := 27) rfl)
theorem dX10_planned_39 : decode cX10_planned 39 = .ok (.iaload, 1) := dq_46 (hz_wg wX10_planned_0 (j := 39) (n := 46) rfl)
theorem dX10_planned_40 : decode cX10_planned 40 = .ok (.goto 18, 3) := dq_167 (hz_wg wX10_planned_0 (j := 40) (n := 167) rfl) (hz_wg wX10_planned_0 (j := 41) (n := 0) rfl) (hz_wg wX10_planned_0 (j := 42) (n := 18) rfl) (by decide)
theorem dX10_planned_43 : decode cX10_planned 43 = .ok (.iload_n 2, 1) := dq_28 (hz_wg wX10_planned_0 (j := 43) (n := 28) rfl)
theorem dX10_planned_44 : decode cX10_planned 44 = .ok (.iconst 2, 1) := dq_5 (hz_wg wX10_planned_0 (j := 44) (n := 5) rfl)
theorem dX10_planned_45 : decode cX10_planned 45 = .ok (.if_icmp .ne 12, 3) := dq_160 (hz_wg wX10_planned_0 (j := 45) (n := 160) rfl) (hz_wg wX10_planned_0 (j := 46) (n := 0) rfl) (hz_wg wX10_planned_0 (j := 47) (n := 12) rfl) (by decide)
theorem dX10_planned_48 : decode cX10_planned 48 = .ok (.aload_n 0, 1) := dq_42 (hz_wg wX10_planned_0 (j := 48) (n := 42) rfl)
theorem dX10_planned_49 : decode cX10_planned 49 = .ok (.getfield 186, 3) := dq_180 (hz_wg wX10_planned_0 (j := 49) (n := 180) rfl) (hz_wg wX10_planned_0 (j := 50) (n := 0) rfl) (hz_wg wX10_planned_0 (j := 51) (n := 186) rfl) rfl
theorem dX10_planned_52 : decode cX10_planned 52 = .ok (.iload_n 1, 1) := dq_27 (hz_wg wX10_planned_0 (j := 52) (n := 27) rfl)
theorem dX10_planned_53 : decode cX10_planned 53 = .ok (.iaload, 1) := dq_46 (hz_wg wX10_planned_0 (j := 53) (n := 46) rfl)
theorem dX10_planned_54 : decode cX10_planned 54 = .ok (.goto 4, 3) := dq_167 (hz_wg wX10_planned_0 (j := 54) (n := 167) rfl) (hz_wg wX10_planned_0 (j := 55) (n := 0) rfl) (hz_wg wX10_planned_0 (j := 56) (n := 4) rfl) (by decide)
theorem dX10_planned_57 : decode cX10_planned 57 = .ok (.iconst (-1), 1) := dq_2 (hz_wg wX10_planned_0 (j := 57) (n := 2) rfl)
theorem dX10_planned_58 : decode cX10_planned 58 = .ok (.ireturn, 1) := dq_172 (hz_wg wX10_planned_0 (j := 58) (n := 172) rfl)
set_option maxHeartbeats 4000000 in
set_option maxRecDepth 100000 in
theorem t_X10_planned (l : Launch) (dC : Nat → ClassId) (dI : Nat → Nat → Nat) (dA : Nat → ClassId) (L : List Nat) (h : hx_h) (sz : Nat) (x : Nat) (i1 : Int32) (i2 : Int32) (hT : hx_T T_tb L h) (gx : hx_g L h x 10)  : Met l yX10_planned (Cond.code yX10_planned cX10_planned 3 (some .int) :: hx_all) ({ frames := 1, cells := 0, slots := 0, locals := 22 }) (va_Pc [.ref x, .int i1, .int i2] (hx_B T_tb (P_ty dA) (dC, dI) vwCl L h sz)) (va_Qi (fun (r : Int32) (u : List Nat × hx_h) => (True) ∧ hx_T T_tb u.1 u.2 ∧ hx_S T_tb [] L h u.1 u.2) (hx_E T_tb (P_ty dA) (dC, dI) vwCl (hx_A L sz)) (hx_A L sz)) 0 0 (hx_A L sz) := by
  refine hx_met (lv := [(0, .ref x), (1, .int i1), (2, .int i2)]) (by decide +kernel) rfl (Nat.le_of_ble_eq_true rfl) rfl ?_
  intro p e s m below meth c hx hb hml hr hlk hts0 hown hin hsz hW ls hl
  have hts : ∀ w ∈ hx_all, w.before _ s = true := fun w hw => hts0 w (List.mem_cons_of_mem _ hw)
  have hown : s.vm.findClass "SmallCourtModel" = some m.cls := hown
  have hM : hx_S T_tb [] L h L h := hx_S.rf
  refine lv_iload_n hx hb dX10_planned_0 rfl (lv_at hl 1 rfl) ?_
  refine lv_iconst (v := 0) hx hb dX10_planned_1 (by decide) ?_
  refine lv_aload_n hx hb dX10_planned_2 rfl (lv_at hl 0 rfl) ?_
  refine hx_geti hx hb hts hC_10 hown hW hT (gx.S hM) tt_10 72 (by decide) rfl kw_1215 ⟨rfl, rfl, rfl⟩ dX10_planned_3 (fun x_1 ex_1 lx_1 ux_1 => ?_)
  have fx_1 := ex_1.symm
  refine lv_iconst (v := 1) hx hb dX10_planned_6 (by decide) ?_
  refine lv_isub hx hb dX10_planned_7 ?_
  have rg_2 := i32_r x_1
  refine lv_topi (fun x_3 ex_3 => ?_)
  have zx_3 : x_3.toInt = x_1.toInt - 1 := by rw [ex_3]; exact i32_sub rfl (by decide) (by omega) (by omega)
  have zc_0 : (0 : Int32).toInt = 0 := by decide
  refine hx_goi (hx_runS (As := [.int i1, .int (0 : Int32), .int x_3]) (rest := []) ⟨hx, hb, hml, hown, hts⟩ hW (t_X10_in l dC dI dA L h s.heap.size i1 (0 : Int32) x_3 hT) (va_cwS 3 hts (hx_gS kw_1445 kw_1443 kw_1444 kw_103) rfl rfl rfl (by decide +kernel) ⟨Nat.le_of_ble_eq_true rfl, Nat.le_of_ble_eq_true rfl⟩) rfl hl.1 rfl (Nat.le_of_ble_eq_true rfl) dX10_planned_8 ⟨Nat.le_of_ble_eq_true rfl, Nat.le_of_ble_eq_true rfl⟩) hW (fun r_6 L_4 h_5 H locs p_7 hW => ?_)
  obtain ⟨hr_8, hT, hs⟩ := p_7
  replace hT : hx_T T_tb L_4 h_5 := hT
  replace hs : hx_S T_tb [] L h L_4 h_5 := hs
  replace fx_1 := (hs.o (gx.S hM) trivial rfl).1.trans fx_1
  replace hM := hM.tr (hs.mono (by decide))
  refine hb_if_ne (zx := r_6.toInt) (tgt := 16) hx hb rfl dX10_planned_11 (by decide) (fun c_9 => ?_) (fun c_9 => ?_)
  · skip
    replace hr_8 := hr_8.resolve_left (fun z9 => c_9 z9.1)
    replace c_9 := hr_8.1
    replace hr_8 := hr_8.2
    refine lv_iload_n hx hb dX10_planned_16 rfl (lv_at hl 2 rfl) ?_
    refine hb_if_ne (zx := i2.toInt) (tgt := 29) hx hb rfl dX10_planned_17 (by decide) (fun c_10 => ?_) (fun c_10 => ?_)
    · skip
      refine lv_iload_n hx hb dX10_planned_29 rfl (lv_at hl 2 rfl) ?_
      refine lv_iconst (v := 1) hx hb dX10_planned_30 (by decide) ?_
      refine hb_icmp_ne (zx := i2.toInt) (zy := 1) (tgt := 43) hx hb rfl (by decide) dX10_planned_31 (by decide) (fun c_11 => ?_) (fun c_11 => ?_)
      · skip
        refine lv_iload_n hx hb dX10_planned_43 rfl (lv_at hl 2 rfl) ?_
        refine lv_iconst (v := 2) hx hb dX10_planned_44 (by decide) ?_
        refine hb_icmp_ne (zx := i2.toInt) (zy := 2) (tgt := 57) hx hb rfl (by decide) dX10_planned_45 (by decide) (fun c_12 => ?_) (fun c_12 => ?_)
        · skip
          refine lv_iconst (v := -1) hx hb dX10_planned_57 (by decide) ?_
          exact hx_reti hx hb hr hlk hW ⟨trivial, hT, hM⟩ dX10_planned_58
        · skip
          refine lv_aload_n hx hb dX10_planned_48 rfl (lv_at hl 0 rfl) ?_
          refine hx_getn hx hb hts hC_10 hown hW hT (gx.S hM) tt_10 81 (by decide) rfl kw_1224 ⟨rfl, rfl, rfl⟩ dX10_planned_49 (fun q_13 fq_13 gq_13 => ?_)
          refine lv_iload_n hx hb dX10_planned_52 rfl (lv_at hl 1 rfl) ?_
          refine hx_iald hx hb hW hT gq_13 tt_107 rfl ⟨by omega, by omega⟩ dX10_planned_53 (fun x_14 ex_14 lx_14 ux_14 => ?_)
          refine lv_goto (tgt := 58) hx hb dX10_planned_54 (by decide) ?_
          exact hx_reti hx hb hr hlk hW ⟨trivial, hT, hM⟩ dX10_planned_58
      · skip
        refine lv_aload_n hx hb dX10_planned_34 rfl (lv_at hl 0 rfl) ?_
        refine hx_getn hx hb hts hC_10 hown hW hT (gx.S hM) tt_10 74 (by decide) rfl kw_1217 ⟨rfl, rfl, rfl⟩ dX10_planned_35 (fun q_15 fq_15 gq_15 => ?_)
        refine lv_iload_n hx hb dX10_planned_38 rfl (lv_at hl 1 rfl) ?_
        refine hx_iald hx hb hW hT gq_15 tt_101 rfl ⟨by omega, by omega⟩ dX10_planned_39 (fun x_16 ex_16 lx_16 ux_16 => ?_)
        refine lv_goto (tgt := 58) hx hb dX10_planned_40 (by decide) ?_
        exact hx_reti hx hb hr hlk hW ⟨trivial, hT, hM⟩ dX10_planned_58
    · skip
      refine lv_aload_n hx hb dX10_planned_20 rfl (lv_at hl 0 rfl) ?_
      refine hx_getn hx hb hts hC_10 hown hW hT (gx.S hM) tt_10 73 (by decide) rfl kw_1216 ⟨rfl, rfl, rfl⟩ dX10_planned_21 (fun q_17 fq_17 gq_17 => ?_)
      refine lv_iload_n hx hb dX10_planned_24 rfl (lv_at hl 1 rfl) ?_
      refine hx_iald hx hb hW hT gq_17 tt_100 rfl ⟨by omega, by omega⟩ dX10_planned_25 (fun x_18 ex_18 lx_18 ux_18 => ?_)
      refine lv_goto (tgt := 58) hx hb dX10_planned_26 (by decide) ?_
      exact hx_reti hx hb hr hlk hW ⟨trivial, hT, hM⟩ dX10_planned_58
  · skip
    replace hr_8 := hr_8.resolve_right (fun z9 => absurd (c_9.symm.trans z9.1) (by decide))
    replace hr_8 := hr_8.2
    refine lv_iconst (v := -1) hx hb dX10_planned_14 (by decide) ?_
    exact hx_reti hx hb hr hlk hW ⟨trivial, hT, hM⟩ dX10_planned_15

theorem dX10_lesser_0 : decode cX10_lesser 0 = .ok (.iload_n 0, 1) := by decide +kernel
theorem dX10_lesser_1 : decode cX10_lesser 1 = .ok (.iload_n 1, 1) := by decide +kernel
theorem dX10_lesser_2 : decode cX10_lesser 2 = .ok (.if_icmp .ge 7, 3) := by decide +kernel
theorem dX10_lesser_5 : decode cX10_lesser 5 = .ok (.iload_n 0, 1) := by decide +kernel
theorem dX10_lesser_6 : decode cX10_lesser 6 = .ok (.goto 4, 3) := by decide +kernel
theorem dX10_lesser_9 : decode cX10_lesser 9 = .ok (.iload_n 1, 1) := by decide +kernel
theorem dX10_lesser_10 : decode cX10_lesser 10 = .ok (.ireturn, 1) := by decide +kernel
def wLX10_debts_0 : List Nat := [3, 60, 27, 17, 6, 64, 162, 0, 16, 42, 180, 0, 189, 27, 3, 79, 132, 1, 1, 167, 255, 239, 3, 60, 27, 42, 180, 1, 111, 162, 0, 45, 42, 27, 182, 1, 163, 153, 0, 31, 42, 180, 0, 189, 16, 40, 42, 180, 0, 84, 27, 46, 104, 42, 180, 0, 81, 27, 46, 96, 92, 46, 42, 180]
def wLX10_debts_1 : List Nat := [1, 145, 96, 79, 132, 1, 1, 167, 255, 209, 177]
theorem wX10_debts_0 : (cX10_debts.data.toList.map UInt8.toNat).drop 0 = wLX10_debts_0 ++ (wLX10_debts_1 ++ ([])) := by decide +kernel
theorem wX10_debts_1 : (cX10_debts.data.toList.map UInt8.toNat).drop 64 = wLX10_debts_1 ++ ([]) := hz_wn wX10_debts_0 rfl
theorem dX10_debts_0 : decode cX10_debts 0 = .ok (.iconst 0, 1) := dq_3 (hz_wg wX10_debts_0 (j := 0) (n := 3) rfl)
theorem dX10_debts_1 : decode cX10_debts 1 = .ok (.istore_n 1, 1) := dq_60 (hz_wg wX10_debts_0 (j := 1) (n := 60) rfl)
theorem dX10_debts_2 : decode cX10_debts 2 = .ok (.iload_n 1, 1) := dq_27 (hz_wg wX10_debts_0 (j := 2) (n := 27) rfl)
theorem dX10_debts_3 : decode cX10_debts 3 = .ok (.sipush 1600, 3) := dq_17 (hz_wg wX10_debts_0 (j := 3) (n := 17) rfl) (hz_wg wX10_debts_0 (j := 4) (n := 6) rfl) (hz_wg wX10_debts_0 (j := 5) (n := 64) rfl) (by decide)
theorem dX10_debts_6 : decode cX10_debts 6 = .ok (.if_icmp .ge 16, 3) := dq_162 (hz_wg wX10_debts_0 (j := 6) (n := 162) rfl) (hz_wg wX10_debts_0 (j := 7) (n := 0) rfl) (hz_wg wX10_debts_0 (j := 8) (n := 16) rfl) (by decide)
theorem dX10_debts_9 : decode cX10_debts 9 = .ok (.aload_n 0, 1) := dq_42 (hz_wg wX10_debts_0 (j := 9) (n := 42) rfl)
theorem dX10_debts_10 : decode cX10_debts 10 = .ok (.getfield 189, 3) := dq_180 (hz_wg wX10_debts_0 (j := 10) (n := 180) rfl) (hz_wg wX10_debts_0 (j := 11) (n := 0) rfl) (hz_wg wX10_debts_0 (j := 12) (n := 189) rfl) rfl
theorem dX10_debts_13 : decode cX10_debts 13 = .ok (.iload_n 1, 1) := dq_27 (hz_wg wX10_debts_0 (j := 13) (n := 27) rfl)
theorem dX10_debts_14 : decode cX10_debts 14 = .ok (.iconst 0, 1) := dq_3 (hz_wg wX10_debts_0 (j := 14) (n := 3) rfl)
theorem dX10_debts_15 : decode cX10_debts 15 = .ok (.iastore, 1) := dq_79 (hz_wg wX10_debts_0 (j := 15) (n := 79) rfl)
theorem dX10_debts_16 : decode cX10_debts 16 = .ok (.iinc 1 1, 3) := dq_132 (hz_wg wX10_debts_0 (j := 16) (n := 132) rfl) (hz_wg wX10_debts_0 (j := 17) (n := 1) rfl) (hz_wg wX10_debts_0 (j := 18) (n := 1) rfl) (by decide)
theorem dX10_debts_19 : decode cX10_debts 19 = .ok (.goto (-17), 3) := dq_167 (hz_wg wX10_debts_0 (j := 19) (n := 167) rfl) (hz_wg wX10_debts_0 (j := 20) (n := 255) rfl) (hz_wg wX10_debts_0 (j := 21) (n := 239) rfl) (by decide)
theorem dX10_debts_22 : decode cX10_debts 22 = .ok (.iconst 0, 1) := dq_3 (hz_wg wX10_debts_0 (j := 22) (n := 3) rfl)
theorem dX10_debts_23 : decode cX10_debts 23 = .ok (.istore_n 1, 1) := dq_60 (hz_wg wX10_debts_0 (j := 23) (n := 60) rfl)
theorem dX10_debts_24 : decode cX10_debts 24 = .ok (.iload_n 1, 1) := dq_27 (hz_wg wX10_debts_0 (j := 24) (n := 27) rfl)
theorem dX10_debts_25 : decode cX10_debts 25 = .ok (.aload_n 0, 1) := dq_42 (hz_wg wX10_debts_0 (j := 25) (n := 42) rfl)
theorem dX10_debts_26 : decode cX10_debts 26 = .ok (.getfield 367, 3) := dq_180 (hz_wg wX10_debts_0 (j := 26) (n := 180) rfl) (hz_wg wX10_debts_0 (j := 27) (n := 1) rfl) (hz_wg wX10_debts_0 (j := 28) (n := 111) rfl) rfl
theorem dX10_debts_29 : decode cX10_debts 29 = .ok (.if_icmp .ge 45, 3) := dq_162 (hz_wg wX10_debts_0 (j := 29) (n := 162) rfl) (hz_wg wX10_debts_0 (j := 30) (n := 0) rfl) (hz_wg wX10_debts_0 (j := 31) (n := 45) rfl) (by decide)
theorem dX10_debts_32 : decode cX10_debts 32 = .ok (.aload_n 0, 1) := dq_42 (hz_wg wX10_debts_0 (j := 32) (n := 42) rfl)
theorem dX10_debts_33 : decode cX10_debts 33 = .ok (.iload_n 1, 1) := dq_27 (hz_wg wX10_debts_0 (j := 33) (n := 27) rfl)
theorem dX10_debts_34 : decode cX10_debts 34 = .ok (.invokevirtual 419, 3) := dq_182 (hz_wg wX10_debts_0 (j := 34) (n := 182) rfl) (hz_wg wX10_debts_0 (j := 35) (n := 1) rfl) (hz_wg wX10_debts_0 (j := 36) (n := 163) rfl) rfl
theorem dX10_debts_37 : decode cX10_debts 37 = .ok (.ifCond .eq 31, 3) := dq_153 (hz_wg wX10_debts_0 (j := 37) (n := 153) rfl) (hz_wg wX10_debts_0 (j := 38) (n := 0) rfl) (hz_wg wX10_debts_0 (j := 39) (n := 31) rfl) (by decide)
theorem dX10_debts_40 : decode cX10_debts 40 = .ok (.aload_n 0, 1) := dq_42 (hz_wg wX10_debts_0 (j := 40) (n := 42) rfl)
theorem dX10_debts_41 : decode cX10_debts 41 = .ok (.getfield 189, 3) := dq_180 (hz_wg wX10_debts_0 (j := 41) (n := 180) rfl) (hz_wg wX10_debts_0 (j := 42) (n := 0) rfl) (hz_wg wX10_debts_0 (j := 43) (n := 189) rfl) rfl
theorem dX10_debts_44 : decode cX10_debts 44 = .ok (.bipush 40, 2) := dq_16 (hz_wg wX10_debts_0 (j := 44) (n := 16) rfl) (hz_wg wX10_debts_0 (j := 45) (n := 40) rfl) (by decide)
theorem dX10_debts_46 : decode cX10_debts 46 = .ok (.aload_n 0, 1) := dq_42 (hz_wg wX10_debts_0 (j := 46) (n := 42) rfl)
theorem dX10_debts_47 : decode cX10_debts 47 = .ok (.getfield 84, 3) := dq_180 (hz_wg wX10_debts_0 (j := 47) (n := 180) rfl) (hz_wg wX10_debts_0 (j := 48) (n := 0) rfl) (hz_wg wX10_debts_0 (j := 49) (n := 84) rfl) rfl
theorem dX10_debts_50 : decode cX10_debts 50 = .ok (.iload_n 1, 1) := dq_27 (hz_wg wX10_debts_0 (j := 50) (n := 27) rfl)
theorem dX10_debts_51 : decode cX10_debts 51 = .ok (.iaload, 1) := dq_46 (hz_wg wX10_debts_0 (j := 51) (n := 46) rfl)
theorem dX10_debts_52 : decode cX10_debts 52 = .ok (.imul, 1) := dq_104 (hz_wg wX10_debts_0 (j := 52) (n := 104) rfl)
theorem dX10_debts_53 : decode cX10_debts 53 = .ok (.aload_n 0, 1) := dq_42 (hz_wg wX10_debts_0 (j := 53) (n := 42) rfl)
theorem dX10_debts_54 : decode cX10_debts 54 = .ok (.getfield 81, 3) := dq_180 (hz_wg wX10_debts_0 (j := 54) (n := 180) rfl) (hz_wg wX10_debts_0 (j := 55) (n := 0) rfl) (hz_wg wX10_debts_0 (j := 56) (n := 81) rfl) rfl
theorem dX10_debts_57 : decode cX10_debts 57 = .ok (.iload_n 1, 1) := dq_27 (hz_wg wX10_debts_0 (j := 57) (n := 27) rfl)
theorem dX10_debts_58 : decode cX10_debts 58 = .ok (.iaload, 1) := dq_46 (hz_wg wX10_debts_0 (j := 58) (n := 46) rfl)
theorem dX10_debts_59 : decode cX10_debts 59 = .ok (.iadd, 1) := dq_96 (hz_wg wX10_debts_0 (j := 59) (n := 96) rfl)
theorem dX10_debts_60 : decode cX10_debts 60 = .ok (.dup2, 1) := dq_92 (hz_wg wX10_debts_0 (j := 60) (n := 92) rfl)
theorem dX10_debts_61 : decode cX10_debts 61 = .ok (.iaload, 1) := dq_46 (hz_wg wX10_debts_0 (j := 61) (n := 46) rfl)
theorem dX10_debts_62 : decode cX10_debts 62 = .ok (.aload_n 0, 1) := dq_42 (hz_wg wX10_debts_0 (j := 62) (n := 42) rfl)
theorem dX10_debts_63 : decode cX10_debts 63 = .ok (.getfield 401, 3) := dq_180 (hz_wg wX10_debts_0 (j := 63) (n := 180) rfl) (hz_wg wX10_debts_1 (j := 0) (n := 1) rfl) (hz_wg wX10_debts_1 (j := 1) (n := 145) rfl) rfl
theorem dX10_debts_66 : decode cX10_debts 66 = .ok (.iadd, 1) := dq_96 (hz_wg wX10_debts_1 (j := 2) (n := 96) rfl)
theorem dX10_debts_67 : decode cX10_debts 67 = .ok (.iastore, 1) := dq_79 (hz_wg wX10_debts_1 (j := 3) (n := 79) rfl)
theorem dX10_debts_68 : decode cX10_debts 68 = .ok (.iinc 1 1, 3) := dq_132 (hz_wg wX10_debts_1 (j := 4) (n := 132) rfl) (hz_wg wX10_debts_1 (j := 5) (n := 1) rfl) (hz_wg wX10_debts_1 (j := 6) (n := 1) rfl) (by decide)
theorem dX10_debts_71 : decode cX10_debts 71 = .ok (.goto (-47), 3) := dq_167 (hz_wg wX10_debts_1 (j := 7) (n := 167) rfl) (hz_wg wX10_debts_1 (j := 8) (n := 255) rfl) (hz_wg wX10_debts_1 (j := 9) (n := 209) rfl) (by decide)
theorem dX10_debts_74 : decode cX10_debts 74 = .ok (.return_, 1) := dq_177 (hz_wg wX10_debts_1 (j := 10) (n := 177) rfl)
def wLX10_offers_0 : List Nat := [42, 180, 0, 189, 16, 40, 42, 180, 0, 198, 27, 4, 100, 46, 104, 42, 180, 0, 198, 3, 46, 96, 46, 62, 29, 28, 162, 0, 7, 29, 167, 0, 4, 28, 54, 4, 21, 4, 153, 0, 29, 21, 4, 42, 180, 1, 182, 161, 0, 20, 21, 4, 42, 180, 1, 182, 160, 0, 12, 27, 42, 180, 1, 185]
def wLX10_offers_1 : List Nat := [161, 0, 4, 177, 42, 21, 4, 181, 1, 182, 42, 27, 181, 1, 185, 3, 54, 5, 21, 5, 27, 162, 0, 23, 42, 180, 0, 195, 21, 5, 42, 180, 0, 198, 21, 5, 46, 79, 132, 5, 1, 167, 255, 233, 177]
theorem wX10_offers_0 : (cX10_offers.data.toList.map UInt8.toNat).drop 0 = wLX10_offers_0 ++ (wLX10_offers_1 ++ ([])) := by decide +kernel
theorem wX10_offers_1 : (cX10_offers.data.toList.map UInt8.toNat).drop 64 = wLX10_offers_1 ++ ([]) := hz_wn wX10_offers_0 rfl
theorem dX10_offers_0 : decode cX10_offers 0 = .ok (.aload_n 0, 1) := dq_42 (hz_wg wX10_offers_0 (j := 0) (n := 42) rfl)
theorem dX10_offers_1 : decode cX10_offers 1 = .ok (.getfield 189, 3) := dq_180 (hz_wg wX10_offers_0 (j := 1) (n := 180) rfl) (hz_wg wX10_offers_0 (j := 2) (n := 0) rfl) (hz_wg wX10_offers_0 (j := 3) (n := 189) rfl) rfl
theorem dX10_offers_4 : decode cX10_offers 4 = .ok (.bipush 40, 2) := dq_16 (hz_wg wX10_offers_0 (j := 4) (n := 16) rfl) (hz_wg wX10_offers_0 (j := 5) (n := 40) rfl) (by decide)
theorem dX10_offers_6 : decode cX10_offers 6 = .ok (.aload_n 0, 1) := dq_42 (hz_wg wX10_offers_0 (j := 6) (n := 42) rfl)
theorem dX10_offers_7 : decode cX10_offers 7 = .ok (.getfield 198, 3) := dq_180 (hz_wg wX10_offers_0 (j := 7) (n := 180) rfl) (hz_wg wX10_offers_0 (j := 8) (n := 0) rfl) (hz_wg wX10_offers_0 (j := 9) (n := 198) rfl) rfl
theorem dX10_offers_10 : decode cX10_offers 10 = .ok (.iload_n 1, 1) := dq_27 (hz_wg wX10_offers_0 (j := 10) (n := 27) rfl)
theorem dX10_offers_11 : decode cX10_offers 11 = .ok (.iconst 1, 1) := dq_4 (hz_wg wX10_offers_0 (j := 11) (n := 4) rfl)
theorem dX10_offers_12 : decode cX10_offers 12 = .ok (.isub, 1) := dq_100 (hz_wg wX10_offers_0 (j := 12) (n := 100) rfl)
theorem dX10_offers_13 : decode cX10_offers 13 = .ok (.iaload, 1) := dq_46 (hz_wg wX10_offers_0 (j := 13) (n := 46) rfl)
theorem dX10_offers_14 : decode cX10_offers 14 = .ok (.imul, 1) := dq_104 (hz_wg wX10_offers_0 (j := 14) (n := 104) rfl)
theorem dX10_offers_15 : decode cX10_offers 15 = .ok (.aload_n 0, 1) := dq_42 (hz_wg wX10_offers_0 (j := 15) (n := 42) rfl)
theorem dX10_offers_16 : decode cX10_offers 16 = .ok (.getfield 198, 3) := dq_180 (hz_wg wX10_offers_0 (j := 16) (n := 180) rfl) (hz_wg wX10_offers_0 (j := 17) (n := 0) rfl) (hz_wg wX10_offers_0 (j := 18) (n := 198) rfl) rfl
theorem dX10_offers_19 : decode cX10_offers 19 = .ok (.iconst 0, 1) := dq_3 (hz_wg wX10_offers_0 (j := 19) (n := 3) rfl)
theorem dX10_offers_20 : decode cX10_offers 20 = .ok (.iaload, 1) := dq_46 (hz_wg wX10_offers_0 (j := 20) (n := 46) rfl)
theorem dX10_offers_21 : decode cX10_offers 21 = .ok (.iadd, 1) := dq_96 (hz_wg wX10_offers_0 (j := 21) (n := 96) rfl)
theorem dX10_offers_22 : decode cX10_offers 22 = .ok (.iaload, 1) := dq_46 (hz_wg wX10_offers_0 (j := 22) (n := 46) rfl)
theorem dX10_offers_23 : decode cX10_offers 23 = .ok (.istore_n 3, 1) := dq_62 (hz_wg wX10_offers_0 (j := 23) (n := 62) rfl)
theorem dX10_offers_24 : decode cX10_offers 24 = .ok (.iload_n 3, 1) := dq_29 (hz_wg wX10_offers_0 (j := 24) (n := 29) rfl)
theorem dX10_offers_25 : decode cX10_offers 25 = .ok (.iload_n 2, 1) := dq_28 (hz_wg wX10_offers_0 (j := 25) (n := 28) rfl)
theorem dX10_offers_26 : decode cX10_offers 26 = .ok (.if_icmp .ge 7, 3) := dq_162 (hz_wg wX10_offers_0 (j := 26) (n := 162) rfl) (hz_wg wX10_offers_0 (j := 27) (n := 0) rfl) (hz_wg wX10_offers_0 (j := 28) (n := 7) rfl) (by decide)
theorem dX10_offers_29 : decode cX10_offers 29 = .ok (.iload_n 3, 1) := dq_29 (hz_wg wX10_offers_0 (j := 29) (n := 29) rfl)
theorem dX10_offers_30 : decode cX10_offers 30 = .ok (.goto 4, 3) := dq_167 (hz_wg wX10_offers_0 (j := 30) (n := 167) rfl) (hz_wg wX10_offers_0 (j := 31) (n := 0) rfl) (hz_wg wX10_offers_0 (j := 32) (n := 4) rfl) (by decide)
theorem dX10_offers_33 : decode cX10_offers 33 = .ok (.iload_n 2, 1) := dq_28 (hz_wg wX10_offers_0 (j := 33) (n := 28) rfl)
theorem dX10_offers_34 : decode cX10_offers 34 = .ok (.istore 4, 2) := dq_54 (hz_wg wX10_offers_0 (j := 34) (n := 54) rfl) (hz_wg wX10_offers_0 (j := 35) (n := 4) rfl)
theorem dX10_offers_36 : decode cX10_offers 36 = .ok (.iload 4, 2) := dq_21 (hz_wg wX10_offers_0 (j := 36) (n := 21) rfl) (hz_wg wX10_offers_0 (j := 37) (n := 4) rfl)
theorem dX10_offers_38 : decode cX10_offers 38 = .ok (.ifCond .eq 29, 3) := dq_153 (hz_wg wX10_offers_0 (j := 38) (n := 153) rfl) (hz_wg wX10_offers_0 (j := 39) (n := 0) rfl) (hz_wg wX10_offers_0 (j := 40) (n := 29) rfl) (by decide)
theorem dX10_offers_41 : decode cX10_offers 41 = .ok (.iload 4, 2) := dq_21 (hz_wg wX10_offers_0 (j := 41) (n := 21) rfl) (hz_wg wX10_offers_0 (j := 42) (n := 4) rfl)
theorem dX10_offers_43 : decode cX10_offers 43 = .ok (.aload_n 0, 1) := dq_42 (hz_wg wX10_offers_0 (j := 43) (n := 42) rfl)
theorem dX10_offers_44 : decode cX10_offers 44 = .ok (.getfield 438, 3) := dq_180 (hz_wg wX10_offers_0 (j := 44) (n := 180) rfl) (hz_wg wX10_offers_0 (j := 45) (n := 1) rfl) (hz_wg wX10_offers_0 (j := 46) (n := 182) rfl) rfl
theorem dX10_offers_47 : decode cX10_offers 47 = .ok (.if_icmp .lt 20, 3) := dq_161 (hz_wg wX10_offers_0 (j := 47) (n := 161) rfl) (hz_wg wX10_offers_0 (j := 48) (n := 0) rfl) (hz_wg wX10_offers_0 (j := 49) (n := 20) rfl) (by decide)
theorem dX10_offers_50 : decode cX10_offers 50 = .ok (.iload 4, 2) := dq_21 (hz_wg wX10_offers_0 (j := 50) (n := 21) rfl) (hz_wg wX10_offers_0 (j := 51) (n := 4) rfl)
theorem dX10_offers_52 : decode cX10_offers 52 = .ok (.aload_n 0, 1) := dq_42 (hz_wg wX10_offers_0 (j := 52) (n := 42) rfl)
theorem dX10_offers_53 : decode cX10_offers 53 = .ok (.getfield 438, 3) := dq_180 (hz_wg wX10_offers_0 (j := 53) (n := 180) rfl) (hz_wg wX10_offers_0 (j := 54) (n := 1) rfl) (hz_wg wX10_offers_0 (j := 55) (n := 182) rfl) rfl
theorem dX10_offers_56 : decode cX10_offers 56 = .ok (.if_icmp .ne 12, 3) := dq_160 (hz_wg wX10_offers_0 (j := 56) (n := 160) rfl) (hz_wg wX10_offers_0 (j := 57) (n := 0) rfl) (hz_wg wX10_offers_0 (j := 58) (n := 12) rfl) (by decide)
theorem dX10_offers_59 : decode cX10_offers 59 = .ok (.iload_n 1, 1) := dq_27 (hz_wg wX10_offers_0 (j := 59) (n := 27) rfl)
theorem dX10_offers_60 : decode cX10_offers 60 = .ok (.aload_n 0, 1) := dq_42 (hz_wg wX10_offers_0 (j := 60) (n := 42) rfl)
theorem dX10_offers_61 : decode cX10_offers 61 = .ok (.getfield 441, 3) := dq_180 (hz_wg wX10_offers_0 (j := 61) (n := 180) rfl) (hz_wg wX10_offers_0 (j := 62) (n := 1) rfl) (hz_wg wX10_offers_0 (j := 63) (n := 185) rfl) rfl
theorem dX10_offers_64 : decode cX10_offers 64 = .ok (.if_icmp .lt 4, 3) := dq_161 (hz_wg wX10_offers_1 (j := 0) (n := 161) rfl) (hz_wg wX10_offers_1 (j := 1) (n := 0) rfl) (hz_wg wX10_offers_1 (j := 2) (n := 4) rfl) (by decide)
theorem dX10_offers_67 : decode cX10_offers 67 = .ok (.return_, 1) := dq_177 (hz_wg wX10_offers_1 (j := 3) (n := 177) rfl)
theorem dX10_offers_68 : decode cX10_offers 68 = .ok (.aload_n 0, 1) := dq_42 (hz_wg wX10_offers_1 (j := 4) (n := 42) rfl)
theorem dX10_offers_69 : decode cX10_offers 69 = .ok (.iload 4, 2) := dq_21 (hz_wg wX10_offers_1 (j := 5) (n := 21) rfl) (hz_wg wX10_offers_1 (j := 6) (n := 4) rfl)
theorem dX10_offers_71 : decode cX10_offers 71 = .ok (.putfield 438, 3) := dq_181 (hz_wg wX10_offers_1 (j := 7) (n := 181) rfl) (hz_wg wX10_offers_1 (j := 8) (n := 1) rfl) (hz_wg wX10_offers_1 (j := 9) (n := 182) rfl) rfl
theorem dX10_offers_74 : decode cX10_offers 74 = .ok (.aload_n 0, 1) := dq_42 (hz_wg wX10_offers_1 (j := 10) (n := 42) rfl)
theorem dX10_offers_75 : decode cX10_offers 75 = .ok (.iload_n 1, 1) := dq_27 (hz_wg wX10_offers_1 (j := 11) (n := 27) rfl)
theorem dX10_offers_76 : decode cX10_offers 76 = .ok (.putfield 441, 3) := dq_181 (hz_wg wX10_offers_1 (j := 12) (n := 181) rfl) (hz_wg wX10_offers_1 (j := 13) (n := 1) rfl) (hz_wg wX10_offers_1 (j := 14) (n := 185) rfl) rfl
theorem dX10_offers_79 : decode cX10_offers 79 = .ok (.iconst 0, 1) := dq_3 (hz_wg wX10_offers_1 (j := 15) (n := 3) rfl)
theorem dX10_offers_80 : decode cX10_offers 80 = .ok (.istore 5, 2) := dq_54 (hz_wg wX10_offers_1 (j := 16) (n := 54) rfl) (hz_wg wX10_offers_1 (j := 17) (n := 5) rfl)
theorem dX10_offers_82 : decode cX10_offers 82 = .ok (.iload 5, 2) := dq_21 (hz_wg wX10_offers_1 (j := 18) (n := 21) rfl) (hz_wg wX10_offers_1 (j := 19) (n := 5) rfl)
theorem dX10_offers_84 : decode cX10_offers 84 = .ok (.iload_n 1, 1) := dq_27 (hz_wg wX10_offers_1 (j := 20) (n := 27) rfl)
theorem dX10_offers_85 : decode cX10_offers 85 = .ok (.if_icmp .ge 23, 3) := dq_162 (hz_wg wX10_offers_1 (j := 21) (n := 162) rfl) (hz_wg wX10_offers_1 (j := 22) (n := 0) rfl) (hz_wg wX10_offers_1 (j := 23) (n := 23) rfl) (by decide)
theorem dX10_offers_88 : decode cX10_offers 88 = .ok (.aload_n 0, 1) := dq_42 (hz_wg wX10_offers_1 (j := 24) (n := 42) rfl)
theorem dX10_offers_89 : decode cX10_offers 89 = .ok (.getfield 195, 3) := dq_180 (hz_wg wX10_offers_1 (j := 25) (n := 180) rfl) (hz_wg wX10_offers_1 (j := 26) (n := 0) rfl) (hz_wg wX10_offers_1 (j := 27) (n := 195) rfl) rfl
theorem dX10_offers_92 : decode cX10_offers 92 = .ok (.iload 5, 2) := dq_21 (hz_wg wX10_offers_1 (j := 28) (n := 21) rfl) (hz_wg wX10_offers_1 (j := 29) (n := 5) rfl)
theorem dX10_offers_94 : decode cX10_offers 94 = .ok (.aload_n 0, 1) := dq_42 (hz_wg wX10_offers_1 (j := 30) (n := 42) rfl)
theorem dX10_offers_95 : decode cX10_offers 95 = .ok (.getfield 198, 3) := dq_180 (hz_wg wX10_offers_1 (j := 31) (n := 180) rfl) (hz_wg wX10_offers_1 (j := 32) (n := 0) rfl) (hz_wg wX10_offers_1 (j := 33) (n := 198) rfl) rfl
theorem dX10_offers_98 : decode cX10_offers 98 = .ok (.iload 5, 2) := dq_21 (hz_wg wX10_offers_1 (j := 34) (n := 21) rfl) (hz_wg wX10_offers_1 (j := 35) (n := 5) rfl)
theorem dX10_offers_100 : decode cX10_offers 100 = .ok (.iaload, 1) := dq_46 (hz_wg wX10_offers_1 (j := 36) (n := 46) rfl)
theorem dX10_offers_101 : decode cX10_offers 101 = .ok (.iastore, 1) := dq_79 (hz_wg wX10_offers_1 (j := 37) (n := 79) rfl)
theorem dX10_offers_102 : decode cX10_offers 102 = .ok (.iinc 5 1, 3) := dq_132 (hz_wg wX10_offers_1 (j := 38) (n := 132) rfl) (hz_wg wX10_offers_1 (j := 39) (n := 5) rfl) (hz_wg wX10_offers_1 (j := 40) (n := 1) rfl) (by decide)
theorem dX10_offers_105 : decode cX10_offers 105 = .ok (.goto (-23), 3) := dq_167 (hz_wg wX10_offers_1 (j := 41) (n := 167) rfl) (hz_wg wX10_offers_1 (j := 42) (n := 255) rfl) (hz_wg wX10_offers_1 (j := 43) (n := 233) rfl) (by decide)
theorem dX10_offers_108 : decode cX10_offers 108 = .ok (.return_, 1) := dq_177 (hz_wg wX10_offers_1 (j := 44) (n := 177) rfl)
def wLX10_finds_0 : List Nat := [42, 3, 181, 1, 182, 42, 3, 181, 1, 185, 3, 60, 27, 42, 180, 1, 81, 162, 0, 209, 42, 180, 0, 198, 3, 27, 79, 27, 4, 96, 61, 28, 42, 180, 1, 81, 162, 0, 184, 42, 180, 0, 189, 16, 40, 27, 104, 28, 96, 46, 62, 29, 154, 0, 6, 167, 0, 159, 42, 180, 0, 198, 4, 28]
def wLX10_finds_1 : List Nat := [79, 42, 5, 29, 182, 1, 188, 27, 4, 96, 54, 4, 21, 4, 42, 180, 1, 81, 162, 0, 132, 29, 42, 180, 0, 189, 16, 40, 28, 104, 21, 4, 96, 46, 184, 1, 192, 54, 5, 21, 4, 28, 159, 0, 102, 21, 5, 154, 0, 6, 167, 0, 94, 42, 180, 0, 198, 5, 21, 4, 79, 42, 6, 21]
def wLX10_finds_2 : List Nat := [5, 182, 1, 188, 27, 4, 96, 54, 6, 21, 6, 42, 180, 1, 81, 162, 0, 65, 21, 5, 42, 180, 0, 189, 16, 40, 21, 4, 104, 21, 6, 96, 46, 184, 1, 192, 54, 7, 21, 6, 28, 159, 0, 33, 21, 6, 21, 4, 159, 0, 26, 21, 7, 154, 0, 6, 167, 0, 18, 42, 180, 0, 198, 6]
def wLX10_finds_3 : List Nat := [21, 6, 79, 42, 7, 21, 7, 182, 1, 188, 132, 6, 1, 167, 255, 188, 132, 4, 1, 167, 255, 121, 132, 2, 1, 167, 255, 70, 132, 1, 1, 167, 255, 45, 177]
theorem wX10_finds_0 : (cX10_finds.data.toList.map UInt8.toNat).drop 0 = wLX10_finds_0 ++ (wLX10_finds_1 ++ (wLX10_finds_2 ++ (wLX10_finds_3 ++ ([])))) := by decide +kernel
theorem wX10_finds_1 : (cX10_finds.data.toList.map UInt8.toNat).drop 64 = wLX10_finds_1 ++ (wLX10_finds_2 ++ (wLX10_finds_3 ++ ([]))) := hz_wn wX10_finds_0 rfl
theorem wX10_finds_2 : (cX10_finds.data.toList.map UInt8.toNat).drop 128 = wLX10_finds_2 ++ (wLX10_finds_3 ++ ([])) := hz_wn wX10_finds_1 rfl
theorem wX10_finds_3 : (cX10_finds.data.toList.map UInt8.toNat).drop 192 = wLX10_finds_3 ++ ([]) := hz_wn wX10_finds_2 rfl
theorem dX10_finds_0 : decode cX10_finds 0 = .ok (.aload_n 0, 1) := dq_42 (hz_wg wX10_finds_0 (j := 0) (n := 42) rfl)
theorem dX10_finds_1 : decode cX10_finds 1 = .ok (.iconst 0, 1) := dq_3 (hz_wg wX10_finds_0 (j := 1) (n := 3) rfl)
theorem dX10_finds_2 : decode cX10_finds 2 = .ok (.putfield 438, 3) := dq_181 (hz_wg wX10_finds_0 (j := 2) (n := 181) rfl) (hz_wg wX10_finds_0 (j := 3) (n := 1) rfl) (hz_wg wX10_finds_0 (j := 4) (n := 182) rfl) rfl
theorem dX10_finds_5 : decode cX10_finds 5 = .ok (.aload_n 0, 1) := dq_42 (hz_wg wX10_finds_0 (j := 5) (n := 42) rfl)
theorem dX10_finds_6 : decode cX10_finds 6 = .ok (.iconst 0, 1) := dq_3 (hz_wg wX10_finds_0 (j := 6) (n := 3) rfl)
theorem dX10_finds_7 : decode cX10_finds 7 = .ok (.putfield 441, 3) := dq_181 (hz_wg wX10_finds_0 (j := 7) (n := 181) rfl) (hz_wg wX10_finds_0 (j := 8) (n := 1) rfl) (hz_wg wX10_finds_0 (j := 9) (n := 185) rfl) rfl
theorem dX10_finds_10 : decode cX10_finds 10 = .ok (.iconst 0, 1) := dq_3 (hz_wg wX10_finds_0 (j := 10) (n := 3) rfl)
theorem dX10_finds_11 : decode cX10_finds 11 = .ok (.istore_n 1, 1) := dq_60 (hz_wg wX10_finds_0 (j := 11) (n := 60) rfl)
theorem dX10_finds_12 : decode cX10_finds 12 = .ok (.iload_n 1, 1) := dq_27 (hz_wg wX10_finds_0 (j := 12) (n := 27) rfl)
theorem dX10_finds_13 : decode cX10_finds 13 = .ok (.aload_n 0, 1) := dq_42 (hz_wg wX10_finds_0 (j := 13) (n := 42) rfl)
theorem dX10_finds_14 : decode cX10_finds 14 = .ok (.getfield 337, 3) := dq_180 (hz_wg wX10_finds_0 (j := 14) (n := 180) rfl) (hz_wg wX10_finds_0 (j := 15) (n := 1) rfl) (hz_wg wX10_finds_0 (j := 16) (n := 81) rfl) rfl
theorem dX10_finds_17 : decode cX10_finds 17 = .ok (.if_icmp .ge 209, 3) := dq_162 (hz_wg wX10_finds_0 (j := 17) (n := 162) rfl) (hz_wg wX10_finds_0 (j := 18) (n := 0) rfl) (hz_wg wX10_finds_0 (j := 19) (n := 209) rfl) (by decide)
theorem dX10_finds_20 : decode cX10_finds 20 = .ok (.aload_n 0, 1) := dq_42 (hz_wg wX10_finds_0 (j := 20) (n := 42) rfl)
theorem dX10_finds_21 : decode cX10_finds 21 = .ok (.getfield 198, 3) := dq_180 (hz_wg wX10_finds_0 (j := 21) (n := 180) rfl) (hz_wg wX10_finds_0 (j := 22) (n := 0) rfl) (hz_wg wX10_finds_0 (j := 23) (n := 198) rfl) rfl
theorem dX10_finds_24 : decode cX10_finds 24 = .ok (.iconst 0, 1) := dq_3 (hz_wg wX10_finds_0 (j := 24) (n := 3) rfl)
theorem dX10_finds_25 : decode cX10_finds 25 = .ok (.iload_n 1, 1) := dq_27 (hz_wg wX10_finds_0 (j := 25) (n := 27) rfl)
theorem dX10_finds_26 : decode cX10_finds 26 = .ok (.iastore, 1) := dq_79 (hz_wg wX10_finds_0 (j := 26) (n := 79) rfl)
theorem dX10_finds_27 : decode cX10_finds 27 = .ok (.iload_n 1, 1) := dq_27 (hz_wg wX10_finds_0 (j := 27) (n := 27) rfl)
theorem dX10_finds_28 : decode cX10_finds 28 = .ok (.iconst 1, 1) := dq_4 (hz_wg wX10_finds_0 (j := 28) (n := 4) rfl)
theorem dX10_finds_29 : decode cX10_finds 29 = .ok (.iadd, 1) := dq_96 (hz_wg wX10_finds_0 (j := 29) (n := 96) rfl)
theorem dX10_finds_30 : decode cX10_finds 30 = .ok (.istore_n 2, 1) := dq_61 (hz_wg wX10_finds_0 (j := 30) (n := 61) rfl)
theorem dX10_finds_31 : decode cX10_finds 31 = .ok (.iload_n 2, 1) := dq_28 (hz_wg wX10_finds_0 (j := 31) (n := 28) rfl)
theorem dX10_finds_32 : decode cX10_finds 32 = .ok (.aload_n 0, 1) := dq_42 (hz_wg wX10_finds_0 (j := 32) (n := 42) rfl)
theorem dX10_finds_33 : decode cX10_finds 33 = .ok (.getfield 337, 3) := dq_180 (hz_wg wX10_finds_0 (j := 33) (n := 180) rfl) (hz_wg wX10_finds_0 (j := 34) (n := 1) rfl) (hz_wg wX10_finds_0 (j := 35) (n := 81) rfl) rfl
theorem dX10_finds_36 : decode cX10_finds 36 = .ok (.if_icmp .ge 184, 3) := dq_162 (hz_wg wX10_finds_0 (j := 36) (n := 162) rfl) (hz_wg wX10_finds_0 (j := 37) (n := 0) rfl) (hz_wg wX10_finds_0 (j := 38) (n := 184) rfl) (by decide)
theorem dX10_finds_39 : decode cX10_finds 39 = .ok (.aload_n 0, 1) := dq_42 (hz_wg wX10_finds_0 (j := 39) (n := 42) rfl)
theorem dX10_finds_40 : decode cX10_finds 40 = .ok (.getfield 189, 3) := dq_180 (hz_wg wX10_finds_0 (j := 40) (n := 180) rfl) (hz_wg wX10_finds_0 (j := 41) (n := 0) rfl) (hz_wg wX10_finds_0 (j := 42) (n := 189) rfl) rfl
theorem dX10_finds_43 : decode cX10_finds 43 = .ok (.bipush 40, 2) := dq_16 (hz_wg wX10_finds_0 (j := 43) (n := 16) rfl) (hz_wg wX10_finds_0 (j := 44) (n := 40) rfl) (by decide)
theorem dX10_finds_45 : decode cX10_finds 45 = .ok (.iload_n 1, 1) := dq_27 (hz_wg wX10_finds_0 (j := 45) (n := 27) rfl)
theorem dX10_finds_46 : decode cX10_finds 46 = .ok (.imul, 1) := dq_104 (hz_wg wX10_finds_0 (j := 46) (n := 104) rfl)
theorem dX10_finds_47 : decode cX10_finds 47 = .ok (.iload_n 2, 1) := dq_28 (hz_wg wX10_finds_0 (j := 47) (n := 28) rfl)
theorem dX10_finds_48 : decode cX10_finds 48 = .ok (.iadd, 1) := dq_96 (hz_wg wX10_finds_0 (j := 48) (n := 96) rfl)
theorem dX10_finds_49 : decode cX10_finds 49 = .ok (.iaload, 1) := dq_46 (hz_wg wX10_finds_0 (j := 49) (n := 46) rfl)
theorem dX10_finds_50 : decode cX10_finds 50 = .ok (.istore_n 3, 1) := dq_62 (hz_wg wX10_finds_0 (j := 50) (n := 62) rfl)
theorem dX10_finds_51 : decode cX10_finds 51 = .ok (.iload_n 3, 1) := dq_29 (hz_wg wX10_finds_0 (j := 51) (n := 29) rfl)
theorem dX10_finds_52 : decode cX10_finds 52 = .ok (.ifCond .ne 6, 3) := dq_154 (hz_wg wX10_finds_0 (j := 52) (n := 154) rfl) (hz_wg wX10_finds_0 (j := 53) (n := 0) rfl) (hz_wg wX10_finds_0 (j := 54) (n := 6) rfl) (by decide)
theorem dX10_finds_55 : decode cX10_finds 55 = .ok (.goto 159, 3) := dq_167 (hz_wg wX10_finds_0 (j := 55) (n := 167) rfl) (hz_wg wX10_finds_0 (j := 56) (n := 0) rfl) (hz_wg wX10_finds_0 (j := 57) (n := 159) rfl) (by decide)
theorem dX10_finds_58 : decode cX10_finds 58 = .ok (.aload_n 0, 1) := dq_42 (hz_wg wX10_finds_0 (j := 58) (n := 42) rfl)
theorem dX10_finds_59 : decode cX10_finds 59 = .ok (.getfield 198, 3) := dq_180 (hz_wg wX10_finds_0 (j := 59) (n := 180) rfl) (hz_wg wX10_finds_0 (j := 60) (n := 0) rfl) (hz_wg wX10_finds_0 (j := 61) (n := 198) rfl) rfl
theorem dX10_finds_62 : decode cX10_finds 62 = .ok (.iconst 1, 1) := dq_4 (hz_wg wX10_finds_0 (j := 62) (n := 4) rfl)
theorem dX10_finds_63 : decode cX10_finds 63 = .ok (.iload_n 2, 1) := dq_28 (hz_wg wX10_finds_0 (j := 63) (n := 28) rfl)
theorem dX10_finds_64 : decode cX10_finds 64 = .ok (.iastore, 1) := dq_79 (hz_wg wX10_finds_1 (j := 0) (n := 79) rfl)
theorem dX10_finds_65 : decode cX10_finds 65 = .ok (.aload_n 0, 1) := dq_42 (hz_wg wX10_finds_1 (j := 1) (n := 42) rfl)
theorem dX10_finds_66 : decode cX10_finds 66 = .ok (.iconst 2, 1) := dq_5 (hz_wg wX10_finds_1 (j := 2) (n := 5) rfl)
theorem dX10_finds_67 : decode cX10_finds 67 = .ok (.iload_n 3, 1) := dq_29 (hz_wg wX10_finds_1 (j := 3) (n := 29) rfl)
theorem dX10_finds_68 : decode cX10_finds 68 = .ok (.invokevirtual 444, 3) := dq_182 (hz_wg wX10_finds_1 (j := 4) (n := 182) rfl) (hz_wg wX10_finds_1 (j := 5) (n := 1) rfl) (hz_wg wX10_finds_1 (j := 6) (n := 188) rfl) rfl
theorem dX10_finds_71 : decode cX10_finds 71 = .ok (.iload_n 1, 1) := dq_27 (hz_wg wX10_finds_1 (j := 7) (n := 27) rfl)
theorem dX10_finds_72 : decode cX10_finds 72 = .ok (.iconst 1, 1) := dq_4 (hz_wg wX10_finds_1 (j := 8) (n := 4) rfl)
theorem dX10_finds_73 : decode cX10_finds 73 = .ok (.iadd, 1) := dq_96 (hz_wg wX10_finds_1 (j := 9) (n := 96) rfl)
theorem dX10_finds_74 : decode cX10_finds 74 = .ok (.istore 4, 2) := dq_54 (hz_wg wX10_finds_1 (j := 10) (n := 54) rfl) (hz_wg wX10_finds_1 (j := 11) (n := 4) rfl)
theorem dX10_finds_76 : decode cX10_finds 76 = .ok (.iload 4, 2) := dq_21 (hz_wg wX10_finds_1 (j := 12) (n := 21) rfl) (hz_wg wX10_finds_1 (j := 13) (n := 4) rfl)
theorem dX10_finds_78 : decode cX10_finds 78 = .ok (.aload_n 0, 1) := dq_42 (hz_wg wX10_finds_1 (j := 14) (n := 42) rfl)
theorem dX10_finds_79 : decode cX10_finds 79 = .ok (.getfield 337, 3) := dq_180 (hz_wg wX10_finds_1 (j := 15) (n := 180) rfl) (hz_wg wX10_finds_1 (j := 16) (n := 1) rfl) (hz_wg wX10_finds_1 (j := 17) (n := 81) rfl) rfl
theorem dX10_finds_82 : decode cX10_finds 82 = .ok (.if_icmp .ge 132, 3) := dq_162 (hz_wg wX10_finds_1 (j := 18) (n := 162) rfl) (hz_wg wX10_finds_1 (j := 19) (n := 0) rfl) (hz_wg wX10_finds_1 (j := 20) (n := 132) rfl) (by decide)
theorem dX10_finds_85 : decode cX10_finds 85 = .ok (.iload_n 3, 1) := dq_29 (hz_wg wX10_finds_1 (j := 21) (n := 29) rfl)
theorem dX10_finds_86 : decode cX10_finds 86 = .ok (.aload_n 0, 1) := dq_42 (hz_wg wX10_finds_1 (j := 22) (n := 42) rfl)
theorem dX10_finds_87 : decode cX10_finds 87 = .ok (.getfield 189, 3) := dq_180 (hz_wg wX10_finds_1 (j := 23) (n := 180) rfl) (hz_wg wX10_finds_1 (j := 24) (n := 0) rfl) (hz_wg wX10_finds_1 (j := 25) (n := 189) rfl) rfl
theorem dX10_finds_90 : decode cX10_finds 90 = .ok (.bipush 40, 2) := dq_16 (hz_wg wX10_finds_1 (j := 26) (n := 16) rfl) (hz_wg wX10_finds_1 (j := 27) (n := 40) rfl) (by decide)
theorem dX10_finds_92 : decode cX10_finds 92 = .ok (.iload_n 2, 1) := dq_28 (hz_wg wX10_finds_1 (j := 28) (n := 28) rfl)
theorem dX10_finds_93 : decode cX10_finds 93 = .ok (.imul, 1) := dq_104 (hz_wg wX10_finds_1 (j := 29) (n := 104) rfl)
theorem dX10_finds_94 : decode cX10_finds 94 = .ok (.iload 4, 2) := dq_21 (hz_wg wX10_finds_1 (j := 30) (n := 21) rfl) (hz_wg wX10_finds_1 (j := 31) (n := 4) rfl)
theorem dX10_finds_96 : decode cX10_finds 96 = .ok (.iadd, 1) := dq_96 (hz_wg wX10_finds_1 (j := 32) (n := 96) rfl)
theorem dX10_finds_97 : decode cX10_finds 97 = .ok (.iaload, 1) := dq_46 (hz_wg wX10_finds_1 (j := 33) (n := 46) rfl)
theorem dX10_finds_98 : decode cX10_finds 98 = .ok (.invokestatic 448, 3) := dq_184 (hz_wg wX10_finds_1 (j := 34) (n := 184) rfl) (hz_wg wX10_finds_1 (j := 35) (n := 1) rfl) (hz_wg wX10_finds_1 (j := 36) (n := 192) rfl) rfl
theorem dX10_finds_101 : decode cX10_finds 101 = .ok (.istore 5, 2) := dq_54 (hz_wg wX10_finds_1 (j := 37) (n := 54) rfl) (hz_wg wX10_finds_1 (j := 38) (n := 5) rfl)
theorem dX10_finds_103 : decode cX10_finds 103 = .ok (.iload 4, 2) := dq_21 (hz_wg wX10_finds_1 (j := 39) (n := 21) rfl) (hz_wg wX10_finds_1 (j := 40) (n := 4) rfl)
theorem dX10_finds_105 : decode cX10_finds 105 = .ok (.iload_n 2, 1) := dq_28 (hz_wg wX10_finds_1 (j := 41) (n := 28) rfl)
theorem dX10_finds_106 : decode cX10_finds 106 = .ok (.if_icmp .eq 102, 3) := dq_159 (hz_wg wX10_finds_1 (j := 42) (n := 159) rfl) (hz_wg wX10_finds_1 (j := 43) (n := 0) rfl) (hz_wg wX10_finds_1 (j := 44) (n := 102) rfl) (by decide)
theorem dX10_finds_109 : decode cX10_finds 109 = .ok (.iload 5, 2) := dq_21 (hz_wg wX10_finds_1 (j := 45) (n := 21) rfl) (hz_wg wX10_finds_1 (j := 46) (n := 5) rfl)
theorem dX10_finds_111 : decode cX10_finds 111 = .ok (.ifCond .ne 6, 3) := dq_154 (hz_wg wX10_finds_1 (j := 47) (n := 154) rfl) (hz_wg wX10_finds_1 (j := 48) (n := 0) rfl) (hz_wg wX10_finds_1 (j := 49) (n := 6) rfl) (by decide)
theorem dX10_finds_114 : decode cX10_finds 114 = .ok (.goto 94, 3) := dq_167 (hz_wg wX10_finds_1 (j := 50) (n := 167) rfl) (hz_wg wX10_finds_1 (j := 51) (n := 0) rfl) (hz_wg wX10_finds_1 (j := 52) (n := 94) rfl) (by decide)
theorem dX10_finds_117 : decode cX10_finds 117 = .ok (.aload_n 0, 1) := dq_42 (hz_wg wX10_finds_1 (j := 53) (n := 42) rfl)
theorem dX10_finds_118 : decode cX10_finds 118 = .ok (.getfield 198, 3) := dq_180 (hz_wg wX10_finds_1 (j := 54) (n := 180) rfl) (hz_wg wX10_finds_1 (j := 55) (n := 0) rfl) (hz_wg wX10_finds_1 (j := 56) (n := 198) rfl) rfl
theorem dX10_finds_121 : decode cX10_finds 121 = .ok (.iconst 2, 1) := dq_5 (hz_wg wX10_finds_1 (j := 57) (n := 5) rfl)
theorem dX10_finds_122 : decode cX10_finds 122 = .ok (.iload 4, 2) := dq_21 (hz_wg wX10_finds_1 (j := 58) (n := 21) rfl) (hz_wg wX10_finds_1 (j := 59) (n := 4) rfl)
theorem dX10_finds_124 : decode cX10_finds 124 = .ok (.iastore, 1) := dq_79 (hz_wg wX10_finds_1 (j := 60) (n := 79) rfl)
theorem dX10_finds_125 : decode cX10_finds 125 = .ok (.aload_n 0, 1) := dq_42 (hz_wg wX10_finds_1 (j := 61) (n := 42) rfl)
theorem dX10_finds_126 : decode cX10_finds 126 = .ok (.iconst 3, 1) := dq_6 (hz_wg wX10_finds_1 (j := 62) (n := 6) rfl)
theorem dX10_finds_127 : decode cX10_finds 127 = .ok (.iload 5, 2) := dq_21 (hz_wg wX10_finds_1 (j := 63) (n := 21) rfl) (hz_wg wX10_finds_2 (j := 0) (n := 5) rfl)
theorem dX10_finds_129 : decode cX10_finds 129 = .ok (.invokevirtual 444, 3) := dq_182 (hz_wg wX10_finds_2 (j := 1) (n := 182) rfl) (hz_wg wX10_finds_2 (j := 2) (n := 1) rfl) (hz_wg wX10_finds_2 (j := 3) (n := 188) rfl) rfl
theorem dX10_finds_132 : decode cX10_finds 132 = .ok (.iload_n 1, 1) := dq_27 (hz_wg wX10_finds_2 (j := 4) (n := 27) rfl)
theorem dX10_finds_133 : decode cX10_finds 133 = .ok (.iconst 1, 1) := dq_4 (hz_wg wX10_finds_2 (j := 5) (n := 4) rfl)
theorem dX10_finds_134 : decode cX10_finds 134 = .ok (.iadd, 1) := dq_96 (hz_wg wX10_finds_2 (j := 6) (n := 96) rfl)
theorem dX10_finds_135 : decode cX10_finds 135 = .ok (.istore 6, 2) := dq_54 (hz_wg wX10_finds_2 (j := 7) (n := 54) rfl) (hz_wg wX10_finds_2 (j := 8) (n := 6) rfl)
theorem dX10_finds_137 : decode cX10_finds 137 = .ok (.iload 6, 2) := dq_21 (hz_wg wX10_finds_2 (j := 9) (n := 21) rfl) (hz_wg wX10_finds_2 (j := 10) (n := 6) rfl)
theorem dX10_finds_139 : decode cX10_finds 139 = .ok (.aload_n 0, 1) := dq_42 (hz_wg wX10_finds_2 (j := 11) (n := 42) rfl)
theorem dX10_finds_140 : decode cX10_finds 140 = .ok (.getfield 337, 3) := dq_180 (hz_wg wX10_finds_2 (j := 12) (n := 180) rfl) (hz_wg wX10_finds_2 (j := 13) (n := 1) rfl) (hz_wg wX10_finds_2 (j := 14) (n := 81) rfl) rfl
theorem dX10_finds_143 : decode cX10_finds 143 = .ok (.if_icmp .ge 65, 3) := dq_162 (hz_wg wX10_finds_2 (j := 15) (n := 162) rfl) (hz_wg wX10_finds_2 (j := 16) (n := 0) rfl) (hz_wg wX10_finds_2 (j := 17) (n := 65) rfl) (by decide)
theorem dX10_finds_146 : decode cX10_finds 146 = .ok (.iload 5, 2) := dq_21 (hz_wg wX10_finds_2 (j := 18) (n := 21) rfl) (hz_wg wX10_finds_2 (j := 19) (n := 5) rfl)
theorem dX10_finds_148 : decode cX10_finds 148 = .ok (.aload_n 0, 1) := dq_42 (hz_wg wX10_finds_2 (j := 20) (n := 42) rfl)
theorem dX10_finds_149 : decode cX10_finds 149 = .ok (.getfield 189, 3) := dq_180 (hz_wg wX10_finds_2 (j := 21) (n := 180) rfl) (hz_wg wX10_finds_2 (j := 22) (n := 0) rfl) (hz_wg wX10_finds_2 (j := 23) (n := 189) rfl) rfl
theorem dX10_finds_152 : decode cX10_finds 152 = .ok (.bipush 40, 2) := dq_16 (hz_wg wX10_finds_2 (j := 24) (n := 16) rfl) (hz_wg wX10_finds_2 (j := 25) (n := 40) rfl) (by decide)
theorem dX10_finds_154 : decode cX10_finds 154 = .ok (.iload 4, 2) := dq_21 (hz_wg wX10_finds_2 (j := 26) (n := 21) rfl) (hz_wg wX10_finds_2 (j := 27) (n := 4) rfl)
theorem dX10_finds_156 : decode cX10_finds 156 = .ok (.imul, 1) := dq_104 (hz_wg wX10_finds_2 (j := 28) (n := 104) rfl)
theorem dX10_finds_157 : decode cX10_finds 157 = .ok (.iload 6, 2) := dq_21 (hz_wg wX10_finds_2 (j := 29) (n := 21) rfl) (hz_wg wX10_finds_2 (j := 30) (n := 6) rfl)
theorem dX10_finds_159 : decode cX10_finds 159 = .ok (.iadd, 1) := dq_96 (hz_wg wX10_finds_2 (j := 31) (n := 96) rfl)
theorem dX10_finds_160 : decode cX10_finds 160 = .ok (.iaload, 1) := dq_46 (hz_wg wX10_finds_2 (j := 32) (n := 46) rfl)
theorem dX10_finds_161 : decode cX10_finds 161 = .ok (.invokestatic 448, 3) := dq_184 (hz_wg wX10_finds_2 (j := 33) (n := 184) rfl) (hz_wg wX10_finds_2 (j := 34) (n := 1) rfl) (hz_wg wX10_finds_2 (j := 35) (n := 192) rfl) rfl
theorem dX10_finds_164 : decode cX10_finds 164 = .ok (.istore 7, 2) := dq_54 (hz_wg wX10_finds_2 (j := 36) (n := 54) rfl) (hz_wg wX10_finds_2 (j := 37) (n := 7) rfl)
theorem dX10_finds_166 : decode cX10_finds 166 = .ok (.iload 6, 2) := dq_21 (hz_wg wX10_finds_2 (j := 38) (n := 21) rfl) (hz_wg wX10_finds_2 (j := 39) (n := 6) rfl)
theorem dX10_finds_168 : decode cX10_finds 168 = .ok (.iload_n 2, 1) := dq_28 (hz_wg wX10_finds_2 (j := 40) (n := 28) rfl)
theorem dX10_finds_169 : decode cX10_finds 169 = .ok (.if_icmp .eq 33, 3) := dq_159 (hz_wg wX10_finds_2 (j := 41) (n := 159) rfl) (hz_wg wX10_finds_2 (j := 42) (n := 0) rfl) (hz_wg wX10_finds_2 (j := 43) (n := 33) rfl) (by decide)
theorem dX10_finds_172 : decode cX10_finds 172 = .ok (.iload 6, 2) := dq_21 (hz_wg wX10_finds_2 (j := 44) (n := 21) rfl) (hz_wg wX10_finds_2 (j := 45) (n := 6) rfl)
theorem dX10_finds_174 : decode cX10_finds 174 = .ok (.iload 4, 2) := dq_21 (hz_wg wX10_finds_2 (j := 46) (n := 21) rfl) (hz_wg wX10_finds_2 (j := 47) (n := 4) rfl)
theorem dX10_finds_176 : decode cX10_finds 176 = .ok (.if_icmp .eq 26, 3) := dq_159 (hz_wg wX10_finds_2 (j := 48) (n := 159) rfl) (hz_wg wX10_finds_2 (j := 49) (n := 0) rfl) (hz_wg wX10_finds_2 (j := 50) (n := 26) rfl) (by decide)
theorem dX10_finds_179 : decode cX10_finds 179 = .ok (.iload 7, 2) := dq_21 (hz_wg wX10_finds_2 (j := 51) (n := 21) rfl) (hz_wg wX10_finds_2 (j := 52) (n := 7) rfl)
theorem dX10_finds_181 : decode cX10_finds 181 = .ok (.ifCond .ne 6, 3) := dq_154 (hz_wg wX10_finds_2 (j := 53) (n := 154) rfl) (hz_wg wX10_finds_2 (j := 54) (n := 0) rfl) (hz_wg wX10_finds_2 (j := 55) (n := 6) rfl) (by decide)
theorem dX10_finds_184 : decode cX10_finds 184 = .ok (.goto 18, 3) := dq_167 (hz_wg wX10_finds_2 (j := 56) (n := 167) rfl) (hz_wg wX10_finds_2 (j := 57) (n := 0) rfl) (hz_wg wX10_finds_2 (j := 58) (n := 18) rfl) (by decide)
theorem dX10_finds_187 : decode cX10_finds 187 = .ok (.aload_n 0, 1) := dq_42 (hz_wg wX10_finds_2 (j := 59) (n := 42) rfl)
theorem dX10_finds_188 : decode cX10_finds 188 = .ok (.getfield 198, 3) := dq_180 (hz_wg wX10_finds_2 (j := 60) (n := 180) rfl) (hz_wg wX10_finds_2 (j := 61) (n := 0) rfl) (hz_wg wX10_finds_2 (j := 62) (n := 198) rfl) rfl
theorem dX10_finds_191 : decode cX10_finds 191 = .ok (.iconst 3, 1) := dq_6 (hz_wg wX10_finds_2 (j := 63) (n := 6) rfl)
theorem dX10_finds_192 : decode cX10_finds 192 = .ok (.iload 6, 2) := dq_21 (hz_wg wX10_finds_3 (j := 0) (n := 21) rfl) (hz_wg wX10_finds_3 (j := 1) (n := 6) rfl)
theorem dX10_finds_194 : decode cX10_finds 194 = .ok (.iastore, 1) := dq_79 (hz_wg wX10_finds_3 (j := 2) (n := 79) rfl)
theorem dX10_finds_195 : decode cX10_finds 195 = .ok (.aload_n 0, 1) := dq_42 (hz_wg wX10_finds_3 (j := 3) (n := 42) rfl)
theorem dX10_finds_196 : decode cX10_finds 196 = .ok (.iconst 4, 1) := dq_7 (hz_wg wX10_finds_3 (j := 4) (n := 7) rfl)
theorem dX10_finds_197 : decode cX10_finds 197 = .ok (.iload 7, 2) := dq_21 (hz_wg wX10_finds_3 (j := 5) (n := 21) rfl) (hz_wg wX10_finds_3 (j := 6) (n := 7) rfl)
theorem dX10_finds_199 : decode cX10_finds 199 = .ok (.invokevirtual 444, 3) := dq_182 (hz_wg wX10_finds_3 (j := 7) (n := 182) rfl) (hz_wg wX10_finds_3 (j := 8) (n := 1) rfl) (hz_wg wX10_finds_3 (j := 9) (n := 188) rfl) rfl
theorem dX10_finds_202 : decode cX10_finds 202 = .ok (.iinc 6 1, 3) := dq_132 (hz_wg wX10_finds_3 (j := 10) (n := 132) rfl) (hz_wg wX10_finds_3 (j := 11) (n := 6) rfl) (hz_wg wX10_finds_3 (j := 12) (n := 1) rfl) (by decide)
theorem dX10_finds_205 : decode cX10_finds 205 = .ok (.goto (-68), 3) := dq_167 (hz_wg wX10_finds_3 (j := 13) (n := 167) rfl) (hz_wg wX10_finds_3 (j := 14) (n := 255) rfl) (hz_wg wX10_finds_3 (j := 15) (n := 188) rfl) (by decide)
theorem dX10_finds_208 : decode cX10_finds 208 = .ok (.iinc 4 1, 3) := dq_132 (hz_wg wX10_finds_3 (j := 16) (n := 132) rfl) (hz_wg wX10_finds_3 (j := 17) (n := 4) rfl) (hz_wg wX10_finds_3 (j := 18) (n := 1) rfl) (by decide)
theorem dX10_finds_211 : decode cX10_finds 211 = .ok (.goto (-135), 3) := dq_167 (hz_wg wX10_finds_3 (j := 19) (n := 167) rfl) (hz_wg wX10_finds_3 (j := 20) (n := 255) rfl) (hz_wg wX10_finds_3 (j := 21) (n := 121) rfl) (by decide)
theorem dX10_finds_214 : decode cX10_finds 214 = .ok (.iinc 2 1, 3) := dq_132 (hz_wg wX10_finds_3 (j := 22) (n := 132) rfl) (hz_wg wX10_finds_3 (j := 23) (n := 2) rfl) (hz_wg wX10_finds_3 (j := 24) (n := 1) rfl) (by decide)
theorem dX10_finds_217 : decode cX10_finds 217 = .ok (.goto (-186), 3) := dq_167 (hz_wg wX10_finds_3 (j := 25) (n := 167) rfl) (hz_wg wX10_finds_3 (j := 26) (n := 255) rfl) (hz_wg wX10_finds_3 (j := 27) (n := 70) rfl) (by decide)
theorem dX10_finds_220 : decode cX10_finds 220 = .ok (.iinc 1 1, 3) := dq_132 (hz_wg wX10_finds_3 (j := 28) (n := 132) rfl) (hz_wg wX10_finds_3 (j := 29) (n := 1) rfl) (hz_wg wX10_finds_3 (j := 30) (n := 1) rfl) (by decide)
theorem dX10_finds_223 : decode cX10_finds 223 = .ok (.goto (-211), 3) := dq_167 (hz_wg wX10_finds_3 (j := 31) (n := 167) rfl) (hz_wg wX10_finds_3 (j := 32) (n := 255) rfl) (hz_wg wX10_finds_3 (j := 33) (n := 45) rfl) (by decide)
theorem dX10_finds_226 : decode cX10_finds 226 = .ok (.return_, 1) := dq_177 (hz_wg wX10_finds_3 (j := 34) (n := 177) rfl)
def wLX10_netted_0 : List Nat := [42, 180, 1, 195, 154, 0, 7, 2, 167, 0, 39, 27, 2, 160, 0, 10, 42, 180, 1, 199, 167, 0, 27, 27, 3, 42, 180, 1, 199, 4, 100, 184, 0, 228, 153, 0, 12, 42, 180, 0, 192, 27, 46, 167, 0, 4, 2, 172]
theorem wX10_netted_0 : (cX10_netted.data.toList.map UInt8.toNat).drop 0 = wLX10_netted_0 ++ ([]) := by decide +kernel
theorem dX10_netted_0 : decode cX10_netted 0 = .ok (.aload_n 0, 1) := dq_42 (hz_wg wX10_netted_0 (j := 0) (n := 42) rfl)
theorem dX10_netted_1 : decode cX10_netted 1 = .ok (.getfield 451, 3) := dq_180 (hz_wg wX10_netted_0 (j := 1) (n := 180) rfl) (hz_wg wX10_netted_0 (j := 2) (n := 1) rfl) (hz_wg wX10_netted_0 (j := 3) (n := 195) rfl) rfl
theorem dX10_netted_4 : decode cX10_netted 4 = .ok (.ifCond .ne 7, 3) := dq_154 (hz_wg wX10_netted_0 (j := 4) (n := 154) rfl) (hz_wg wX10_netted_0 (j := 5) (n := 0) rfl) (hz_wg wX10_netted_0 (j := 6) (n := 7) rfl) (by decide)
theorem dX10_netted_7 : decode cX10_netted 7 = .ok (.iconst (-1), 1) := dq_2 (hz_wg wX10_netted_0 (j := 7) (n := 2) rfl)
theorem dX10_netted_8 : decode cX10_netted 8 = .ok (.goto 39, 3) := dq_167 (hz_wg wX10_netted_0 (j := 8) (n := 167) rfl) (hz_wg wX10_netted_0 (j := 9) (n := 0) rfl) (hz_wg wX10_netted_0 (j := 10) (n := 39) rfl) (by decide)
theorem dX10_netted_11 : decode cX10_netted 11 = .ok (.iload_n 1, 1) := dq_27 (hz_wg wX10_netted_0 (j := 11) (n := 27) rfl)
theorem dX10_netted_12 : decode cX10_netted 12 = .ok (.iconst (-1), 1) := dq_2 (hz_wg wX10_netted_0 (j := 12) (n := 2) rfl)
theorem dX10_netted_13 : decode cX10_netted 13 = .ok (.if_icmp .ne 10, 3) := dq_160 (hz_wg wX10_netted_0 (j := 13) (n := 160) rfl) (hz_wg wX10_netted_0 (j := 14) (n := 0) rfl) (hz_wg wX10_netted_0 (j := 15) (n := 10) rfl) (by decide)
theorem dX10_netted_16 : decode cX10_netted 16 = .ok (.aload_n 0, 1) := dq_42 (hz_wg wX10_netted_0 (j := 16) (n := 42) rfl)
theorem dX10_netted_17 : decode cX10_netted 17 = .ok (.getfield 455, 3) := dq_180 (hz_wg wX10_netted_0 (j := 17) (n := 180) rfl) (hz_wg wX10_netted_0 (j := 18) (n := 1) rfl) (hz_wg wX10_netted_0 (j := 19) (n := 199) rfl) rfl
theorem dX10_netted_20 : decode cX10_netted 20 = .ok (.goto 27, 3) := dq_167 (hz_wg wX10_netted_0 (j := 20) (n := 167) rfl) (hz_wg wX10_netted_0 (j := 21) (n := 0) rfl) (hz_wg wX10_netted_0 (j := 22) (n := 27) rfl) (by decide)
theorem dX10_netted_23 : decode cX10_netted 23 = .ok (.iload_n 1, 1) := dq_27 (hz_wg wX10_netted_0 (j := 23) (n := 27) rfl)
theorem dX10_netted_24 : decode cX10_netted 24 = .ok (.iconst 0, 1) := dq_3 (hz_wg wX10_netted_0 (j := 24) (n := 3) rfl)
theorem dX10_netted_25 : decode cX10_netted 25 = .ok (.aload_n 0, 1) := dq_42 (hz_wg wX10_netted_0 (j := 25) (n := 42) rfl)
theorem dX10_netted_26 : decode cX10_netted 26 = .ok (.getfield 455, 3) := dq_180 (hz_wg wX10_netted_0 (j := 26) (n := 180) rfl) (hz_wg wX10_netted_0 (j := 27) (n := 1) rfl) (hz_wg wX10_netted_0 (j := 28) (n := 199) rfl) rfl
theorem dX10_netted_29 : decode cX10_netted 29 = .ok (.iconst 1, 1) := dq_4 (hz_wg wX10_netted_0 (j := 29) (n := 4) rfl)
theorem dX10_netted_30 : decode cX10_netted 30 = .ok (.isub, 1) := dq_100 (hz_wg wX10_netted_0 (j := 30) (n := 100) rfl)
theorem dX10_netted_31 : decode cX10_netted 31 = .ok (.invokestatic 228, 3) := dq_184 (hz_wg wX10_netted_0 (j := 31) (n := 184) rfl) (hz_wg wX10_netted_0 (j := 32) (n := 0) rfl) (hz_wg wX10_netted_0 (j := 33) (n := 228) rfl) rfl
theorem dX10_netted_34 : decode cX10_netted 34 = .ok (.ifCond .eq 12, 3) := dq_153 (hz_wg wX10_netted_0 (j := 34) (n := 153) rfl) (hz_wg wX10_netted_0 (j := 35) (n := 0) rfl) (hz_wg wX10_netted_0 (j := 36) (n := 12) rfl) (by decide)
theorem dX10_netted_37 : decode cX10_netted 37 = .ok (.aload_n 0, 1) := dq_42 (hz_wg wX10_netted_0 (j := 37) (n := 42) rfl)
theorem dX10_netted_38 : decode cX10_netted 38 = .ok (.getfield 192, 3) := dq_180 (hz_wg wX10_netted_0 (j := 38) (n := 180) rfl) (hz_wg wX10_netted_0 (j := 39) (n := 0) rfl) (hz_wg wX10_netted_0 (j := 40) (n := 192) rfl) rfl
theorem dX10_netted_41 : decode cX10_netted 41 = .ok (.iload_n 1, 1) := dq_27 (hz_wg wX10_netted_0 (j := 41) (n := 27) rfl)
theorem dX10_netted_42 : decode cX10_netted 42 = .ok (.iaload, 1) := dq_46 (hz_wg wX10_netted_0 (j := 42) (n := 46) rfl)
theorem dX10_netted_43 : decode cX10_netted 43 = .ok (.goto 4, 3) := dq_167 (hz_wg wX10_netted_0 (j := 43) (n := 167) rfl) (hz_wg wX10_netted_0 (j := 44) (n := 0) rfl) (hz_wg wX10_netted_0 (j := 45) (n := 4) rfl) (by decide)
theorem dX10_netted_46 : decode cX10_netted 46 = .ok (.iconst (-1), 1) := dq_2 (hz_wg wX10_netted_0 (j := 46) (n := 2) rfl)
theorem dX10_netted_47 : decode cX10_netted 47 = .ok (.ireturn, 1) := dq_172 (hz_wg wX10_netted_0 (j := 47) (n := 172) rfl)
set_option maxHeartbeats 4000000 in
set_option maxRecDepth 100000 in
theorem t_X10_netted (l : Launch) (dC : Nat → ClassId) (dI : Nat → Nat → Nat) (dA : Nat → ClassId) (L : List Nat) (h : hx_h) (sz : Nat) (x : Nat) (i1 : Int32) (hT : hx_T T_tb L h) (gx : hx_g L h x 10)  : Met l yX10_netted (Cond.code yX10_netted cX10_netted 2 (some .int) :: hx_all) ({ frames := 1, cells := 0, slots := 0, locals := 22 }) (va_Pc [.ref x, .int i1] (hx_B T_tb (P_ty dA) (dC, dI) vwCl L h sz)) (va_Qi (fun (r : Int32) (u : List Nat × hx_h) => (True) ∧ hx_T T_tb u.1 u.2 ∧ hx_S T_tb [] L h u.1 u.2) (hx_E T_tb (P_ty dA) (dC, dI) vwCl (hx_A L sz)) (hx_A L sz)) 0 0 (hx_A L sz) := by
  refine hx_met (lv := [(0, .ref x), (1, .int i1)]) (by decide +kernel) rfl (Nat.le_of_ble_eq_true rfl) rfl ?_
  intro p e s m below meth c hx hb hml hr hlk hts0 hown hin hsz hW ls hl
  have hts : ∀ w ∈ hx_all, w.before _ s = true := fun w hw => hts0 w (List.mem_cons_of_mem _ hw)
  have hown : s.vm.findClass "SmallCourtModel" = some m.cls := hown
  have hM : hx_S T_tb [] L h L h := hx_S.rf
  refine lv_aload_n hx hb dX10_netted_0 rfl (lv_at hl 0 rfl) ?_
  refine hx_geti hx hb hts hC_10 hown hW hT (gx.S hM) tt_10 83 (by decide) rfl kw_1226 ⟨rfl, rfl, rfl⟩ dX10_netted_1 (fun x_1 ex_1 lx_1 ux_1 => ?_)
  have fx_1 := ex_1.symm
  refine hb_if_ne (zx := x_1.toInt) (tgt := 11) hx hb rfl dX10_netted_4 (by decide) (fun c_2 => ?_) (fun c_2 => ?_)
  · skip
    refine lv_iload_n hx hb dX10_netted_11 rfl (lv_at hl 1 rfl) ?_
    refine lv_iconst (v := -1) hx hb dX10_netted_12 (by decide) ?_
    refine hb_icmp_ne (zx := i1.toInt) (zy := (-1)) (tgt := 23) hx hb rfl (by decide) dX10_netted_13 (by decide) (fun c_3 => ?_) (fun c_3 => ?_)
    · skip
      refine lv_iload_n hx hb dX10_netted_23 rfl (lv_at hl 1 rfl) ?_
      refine lv_iconst (v := 0) hx hb dX10_netted_24 (by decide) ?_
      refine lv_aload_n hx hb dX10_netted_25 rfl (lv_at hl 0 rfl) ?_
      refine hx_geti hx hb hts hC_10 hown hW hT (gx.S hM) tt_10 84 (by decide) rfl kw_1227 ⟨rfl, rfl, rfl⟩ dX10_netted_26 (fun x_4 ex_4 lx_4 ux_4 => ?_)
      have fx_4 := ex_4.symm
      refine lv_iconst (v := 1) hx hb dX10_netted_29 (by decide) ?_
      refine lv_isub hx hb dX10_netted_30 ?_
      have rg_5 := i32_r x_4
      refine lv_topi (fun x_6 ex_6 => ?_)
      have zx_6 : x_6.toInt = x_4.toInt - 1 := by rw [ex_6]; exact i32_sub rfl (by decide) (by omega) (by omega)
      have zc_0 : (0 : Int32).toInt = 0 := by decide
      refine hx_goi (hx_runS (As := [.int i1, .int (0 : Int32), .int x_6]) (rest := []) ⟨hx, hb, hml, hown, hts⟩ hW (t_X10_in l dC dI dA L h s.heap.size i1 (0 : Int32) x_6 hT) (va_cwS 3 hts (hx_gS kw_1445 kw_1443 kw_1444 kw_103) rfl rfl rfl (by decide +kernel) ⟨Nat.le_of_ble_eq_true rfl, Nat.le_of_ble_eq_true rfl⟩) rfl hl.1 rfl (Nat.le_of_ble_eq_true rfl) dX10_netted_31 ⟨Nat.le_of_ble_eq_true rfl, Nat.le_of_ble_eq_true rfl⟩) hW (fun r_9 L_7 h_8 H locs p_10 hW => ?_)
      obtain ⟨hr_11, hT, hs⟩ := p_10
      replace hT : hx_T T_tb L_7 h_8 := hT
      replace hs : hx_S T_tb [] L h L_7 h_8 := hs
      replace fx_1 := (hs.o (gx.S hM) trivial rfl).1.trans fx_1
      replace fx_4 := (hs.o (gx.S hM) trivial rfl).1.trans fx_4
      replace hM := hM.tr (hs.mono (by decide))
      refine hb_if_eq (zx := r_9.toInt) (tgt := 46) hx hb rfl dX10_netted_34 (by decide) (fun c_12 => ?_) (fun c_12 => ?_)
      · skip
        replace hr_11 := hr_11.resolve_right (fun z9 => absurd (c_12.symm.trans z9.1) (by decide))
        replace hr_11 := hr_11.2
        refine lv_iconst (v := -1) hx hb dX10_netted_46 (by decide) ?_
        exact hx_reti hx hb hr hlk hW ⟨trivial, hT, hM⟩ dX10_netted_47
      · skip
        replace hr_11 := hr_11.resolve_left (fun z9 => c_12 z9.1)
        replace c_12 := hr_11.1
        replace hr_11 := hr_11.2
        refine lv_aload_n hx hb dX10_netted_37 rfl (lv_at hl 0 rfl) ?_
        refine hx_getn hx hb hts hC_10 hown hW hT (gx.S hM) tt_10 85 (by decide) rfl kw_1228 ⟨rfl, rfl, rfl⟩ dX10_netted_38 (fun q_13 fq_13 gq_13 => ?_)
        refine lv_iload_n hx hb dX10_netted_41 rfl (lv_at hl 1 rfl) ?_
        refine hx_iald hx hb hW hT gq_13 tt_109 rfl ⟨by omega, by omega⟩ dX10_netted_42 (fun x_14 ex_14 lx_14 ux_14 => ?_)
        refine lv_goto (tgt := 47) hx hb dX10_netted_43 (by decide) ?_
        exact hx_reti hx hb hr hlk hW ⟨trivial, hT, hM⟩ dX10_netted_47
    · skip
      refine lv_aload_n hx hb dX10_netted_16 rfl (lv_at hl 0 rfl) ?_
      refine hx_geti hx hb hts hC_10 hown hW hT (gx.S hM) tt_10 84 (by decide) rfl kw_1227 ⟨rfl, rfl, rfl⟩ dX10_netted_17 (fun x_15 ex_15 lx_15 ux_15 => ?_)
      have fx_15 := ex_15.symm
      refine lv_goto (tgt := 47) hx hb dX10_netted_20 (by decide) ?_
      exact hx_reti hx hb hr hlk hW ⟨trivial, hT, hM⟩ dX10_netted_47
  · skip
    refine lv_iconst (v := -1) hx hb dX10_netted_7 (by decide) ?_
    refine lv_goto (tgt := 47) hx hb dX10_netted_8 (by decide) ?_
    exact hx_reti hx hb hr hlk hW ⟨trivial, hT, hM⟩ dX10_netted_47
