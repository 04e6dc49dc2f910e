def wLX10_isNew_0 : List Nat := [42, 180, 1, 50, 27, 122, 4, 126, 4, 160, 0, 10, 42, 5, 28, 182, 0, 255, 172, 42, 89, 180, 1, 50, 4, 27, 120, 128, 181, 1, 50, 4, 172]
theorem wX10_isNew_0 : (cX10_isNew.data.toList.map UInt8.toNat).drop 0 = wLX10_isNew_0 ++ ([]) := by decide +kernel
theorem dX10_isNew_0 : decode cX10_isNew 0 = .ok (.aload_n 0, 1) := dq_42 (hz_wg wX10_isNew_0 (j := 0) (n := 42) rfl)
theorem dX10_isNew_1 : decode cX10_isNew 1 = .ok (.getfield 306, 3) := dq_180 (hz_wg wX10_isNew_0 (j := 1) (n := 180) rfl) (hz_wg wX10_isNew_0 (j := 2) (n := 1) rfl) (hz_wg wX10_isNew_0 (j := 3) (n := 50) rfl) rfl
theorem dX10_isNew_4 : decode cX10_isNew 4 = .ok (.iload_n 1, 1) := dq_27 (hz_wg wX10_isNew_0 (j := 4) (n := 27) rfl)
theorem dX10_isNew_5 : decode cX10_isNew 5 = .ok (.ishr, 1) := dq_122 (hz_wg wX10_isNew_0 (j := 5) (n := 122) rfl)
theorem dX10_isNew_6 : decode cX10_isNew 6 = .ok (.iconst 1, 1) := dq_4 (hz_wg wX10_isNew_0 (j := 6) (n := 4) rfl)
theorem dX10_isNew_7 : decode cX10_isNew 7 = .ok (.iand, 1) := dq_126 (hz_wg wX10_isNew_0 (j := 7) (n := 126) rfl)
theorem dX10_isNew_8 : decode cX10_isNew 8 = .ok (.iconst 1, 1) := dq_4 (hz_wg wX10_isNew_0 (j := 8) (n := 4) rfl)
theorem dX10_isNew_9 : decode cX10_isNew 9 = .ok (.if_icmp .ne 10, 3) := dq_160 (hz_wg wX10_isNew_0 (j := 9) (n := 160) rfl) (hz_wg wX10_isNew_0 (j := 10) (n := 0) rfl) (hz_wg wX10_isNew_0 (j := 11) (n := 10) rfl) (by decide)
theorem dX10_isNew_12 : decode cX10_isNew 12 = .ok (.aload_n 0, 1) := dq_42 (hz_wg wX10_isNew_0 (j := 12) (n := 42) rfl)
theorem dX10_isNew_13 : decode cX10_isNew 13 = .ok (.iconst 2, 1) := dq_5 (hz_wg wX10_isNew_0 (j := 13) (n := 5) rfl)
theorem dX10_isNew_14 : decode cX10_isNew 14 = .ok (.iload_n 2, 1) := dq_28 (hz_wg wX10_isNew_0 (j := 14) (n := 28) rfl)
theorem dX10_isNew_15 : decode cX10_isNew 15 = .ok (.invokevirtual 255, 3) := dq_182 (hz_wg wX10_isNew_0 (j := 15) (n := 182) rfl) (hz_wg wX10_isNew_0 (j := 16) (n := 0) rfl) (hz_wg wX10_isNew_0 (j := 17) (n := 255) rfl) rfl
theorem dX10_isNew_18 : decode cX10_isNew 18 = .ok (.ireturn, 1) := dq_172 (hz_wg wX10_isNew_0 (j := 18) (n := 172) rfl)
theorem dX10_isNew_19 : decode cX10_isNew 19 = .ok (.aload_n 0, 1) := dq_42 (hz_wg wX10_isNew_0 (j := 19) (n := 42) rfl)
theorem dX10_isNew_20 : decode cX10_isNew 20 = .ok (.dup, 1) := dq_89 (hz_wg wX10_isNew_0 (j := 20) (n := 89) rfl)
theorem dX10_isNew_21 : decode cX10_isNew 21 = .ok (.getfield 306, 3) := dq_180 (hz_wg wX10_isNew_0 (j := 21) (n := 180) rfl) (hz_wg wX10_isNew_0 (j := 22) (n := 1) rfl) (hz_wg wX10_isNew_0 (j := 23) (n := 50) rfl) rfl
theorem dX10_isNew_24 : decode cX10_isNew 24 = .ok (.iconst 1, 1) := dq_4 (hz_wg wX10_isNew_0 (j := 24) (n := 4) rfl)
theorem dX10_isNew_25 : decode cX10_isNew 25 = .ok (.iload_n 1, 1) := dq_27 (hz_wg wX10_isNew_0 (j := 25) (n := 27) rfl)
theorem dX10_isNew_26 : decode cX10_isNew 26 = .ok (.ishl, 1) := dq_120 (hz_wg wX10_isNew_0 (j := 26) (n := 120) rfl)
theorem dX10_isNew_27 : decode cX10_isNew 27 = .ok (.ior, 1) := dq_128 (hz_wg wX10_isNew_0 (j := 27) (n := 128) rfl)
theorem dX10_isNew_28 : decode cX10_isNew 28 = .ok (.putfield 306, 3) := dq_181 (hz_wg wX10_isNew_0 (j := 28) (n := 181) rfl) (hz_wg wX10_isNew_0 (j := 29) (n := 1) rfl) (hz_wg wX10_isNew_0 (j := 30) (n := 50) rfl) rfl
theorem dX10_isNew_31 : decode cX10_isNew 31 = .ok (.iconst 1, 1) := dq_4 (hz_wg wX10_isNew_0 (j := 31) (n := 4) rfl)
theorem dX10_isNew_32 : decode cX10_isNew 32 = .ok (.ireturn, 1) := dq_172 (hz_wg wX10_isNew_0 (j := 32) (n := 172) rfl)
set_option maxHeartbeats 4000000 in
set_option maxRecDepth 100000 in
theorem t_X10_isNew (l : Launch) (dC : Nat → ClassId) (dI : Nat → Nat → Nat) (dA : Nat → ClassId) (L : List Nat) (h : hx_h) (sz : Nat) (x : Nat) (i1 : Int32) (i2 : Int32) (hT : hx_T T_tb L h) (gx : hx_g L h x 10)  : Met l yX10_isNew (Cond.code yX10_isNew cX10_isNew 3 (some .boolean) :: hx_all) ({ frames := 1, cells := 0, slots := 0, locals := 22 }) (va_Pc [.ref x, .int i1, .int i2] (hx_B T_tb (P_ty dA) (dC, dI) vwCl L h sz)) (va_Qi (fun (r : Int32) (u : List Nat × hx_h) => (r.toInt = 0 ∨ r.toInt = 1) ∧ hx_T T_tb u.1 u.2 ∧ hx_S T_tb [(10, 9), (10, 13)] L h u.1 u.2) (hx_E T_tb (P_ty dA) (dC, dI) vwCl (hx_A L sz)) (hx_A L sz)) 0 0 (hx_A L sz) := by
  refine hx_met (lv := [(0, .ref x), (1, .int i1), (2, .int i2)]) (by decide +kernel) rfl (Nat.le_of_ble_eq_true rfl) rfl ?_
  intro p e s m below meth c hx hb hml hr hlk hts0 hown hin hsz hW ls hl
  have hts : ∀ w ∈ hx_all, w.before _ s = true := fun w hw => hts0 w (List.mem_cons_of_mem _ hw)
  have hown : s.vm.findClass "SmallCourtModel" = some m.cls := hown
  have hM : hx_S T_tb [(10, 9), (10, 13)] L h L h := hx_S.rf
  refine lv_aload_n hx hb dX10_isNew_0 rfl (lv_at hl 0 rfl) ?_
  refine hx_geti hx hb hts hC_10 hown hW hT (gx.S hM) tt_10 13 (by decide) rfl kw_1156 ⟨rfl, rfl, rfl⟩ dX10_isNew_1 (fun x_1 ex_1 lx_1 ux_1 => ?_)
  have fx_1 := ex_1.symm
  refine lv_iload_n hx hb dX10_isNew_4 rfl (lv_at hl 1 rfl) ?_
  refine lv_ishr hx hb dX10_isNew_5 ?_
  refine lv_topi (fun x_2 ex_2 => ?_)
  refine lv_iconst (v := 1) hx hb dX10_isNew_6 (by decide) ?_
  refine lv_iand hx hb dX10_isNew_7 ?_
  refine lv_topi (fun x_3 ex_3 => ?_)
  have zx_3 : 0 ≤ x_3.toInt ∧ x_3.toInt ≤ 1 := by rw [ex_3]; exact hx_andR (by decide) (by decide)
  refine lv_iconst (v := 1) hx hb dX10_isNew_8 (by decide) ?_
  refine hb_icmp_ne (zx := x_3.toInt) (zy := 1) (tgt := 19) hx hb rfl (by decide) dX10_isNew_9 (by decide) (fun c_4 => ?_) (fun c_4 => ?_)
  · skip
    refine lv_aload_n hx hb dX10_isNew_19 rfl (lv_at hl 0 rfl) ?_
    refine lv_dup hx hb dX10_isNew_20 rfl ?_
    refine hk_geti hx hb hts hC_10 hown hW (gx.S hM) tt_10 13 (by decide) rfl kw_1156 ⟨rfl, rfl, rfl⟩ fx_1 dX10_isNew_21 ?_
    refine lv_iconst (v := 1) hx hb dX10_isNew_24 (by decide) ?_
    refine lv_iload_n hx hb dX10_isNew_25 rfl (lv_at hl 1 rfl) ?_
    refine lv_ishl hx hb dX10_isNew_26 ?_
    refine lv_topi (fun x_5 ex_5 => ?_)
    refine lv_ior hx hb dX10_isNew_27 ?_
    refine lv_topi (fun x_6 ex_6 => ?_)
    refine hx_puti hx hb hts hC_10 hown hW hT (hx_S.rf (M := [(10, 13)])) (gx.S hM) tt_10 13 (by decide) rfl kw_1156 ⟨rfl, rfl, rfl⟩ rfl (x := x_6) (i32_r _) rfl rfl rfl (List.mem_singleton.mpr rfl) dX10_isNew_28 (fun H locs h_7 eh_7 hW hT hs => ?_)
    replace hM := hM.tr (hs.mono (by decide))
    have f_8 : h_7.2.1 x 13 = x_6 := by rw [eh_7]; exact hx_pi_at _ _ _ _
    refine lv_iconst (v := 1) hx hb dX10_isNew_31 (by decide) ?_
    exact hx_retz hx hb hr rfl hlk hW ⟨(by decide), hT, hM⟩ dX10_isNew_32
  · skip
    refine lv_aload_n hx hb dX10_isNew_12 rfl (lv_at hl 0 rfl) ?_
    refine lv_iconst (v := 2) hx hb dX10_isNew_13 (by decide) ?_
    refine lv_iload_n hx hb dX10_isNew_14 rfl (lv_at hl 2 rfl) ?_
    have zc_2 : (2 : Int32).toInt = 2 := by decide
    refine hx_goi (hx_runV (As := [.int (2 : Int32), .int i2]) (rest := []) ⟨hx, hb, hml, hown, hts⟩ hW (gx.S hM) tt_10 (T := TX10) (N := 98) rfl (t_X10_fails l dC dI dA L h s.heap.size x (2 : Int32) i2 hT (gx.S hM)) (cwV 2 hts (hx_gV kw_1480 kw_1477 kw_1479 kw_56 kw_103) rfl rfl rfl (by decide +kernel) ⟨Nat.le_of_ble_eq_true rfl, Nat.le_of_ble_eq_true rfl⟩) rfl hl.1 rfl (Nat.le_of_ble_eq_true rfl) dX10_isNew_15 ⟨Nat.le_of_ble_eq_true rfl, Nat.le_of_ble_eq_true rfl⟩) hW (fun r_11 L_9 h_10 H locs p_12 hW => ?_)
    obtain ⟨hr_13, hT, hs⟩ := p_12
    replace hT : hx_T T_tb L_9 h_10 := hT
    replace hs : hx_S T_tb [(10, 9)] L h L_9 h_10 := hs
    replace fx_1 := (hs.o (gx.S hM) trivial rfl).1.trans fx_1
    replace hM := hM.tr (hs.mono (by decide))
    exact hx_retz hx hb hr (hx_nar01 (by omega)) hlk hW ⟨(by omega), hT, hM⟩ dX10_isNew_18

def wLX10_inForce_0 : List Nat := [3, 61, 4, 62, 29, 42, 180, 1, 65, 163, 0, 40, 42, 180, 0, 7, 29, 46, 27, 163, 0, 24, 28, 153, 0, 18, 42, 180, 0, 7, 29, 46, 42, 180, 0, 7, 28, 46, 161, 0, 5, 29, 61, 132, 3, 1, 167, 255, 214, 28, 172]
theorem wX10_inForce_0 : (cX10_inForce.data.toList.map UInt8.toNat).drop 0 = wLX10_inForce_0 ++ ([]) := by decide +kernel
theorem dX10_inForce_0 : decode cX10_inForce 0 = .ok (.iconst 0, 1) := dq_3 (hz_wg wX10_inForce_0 (j := 0) (n := 3) rfl)
theorem dX10_inForce_1 : decode cX10_inForce 1 = .ok (.istore_n 2, 1) := dq_61 (hz_wg wX10_inForce_0 (j := 1) (n := 61) rfl)
theorem dX10_inForce_2 : decode cX10_inForce 2 = .ok (.iconst 1, 1) := dq_4 (hz_wg wX10_inForce_0 (j := 2) (n := 4) rfl)
theorem dX10_inForce_3 : decode cX10_inForce 3 = .ok (.istore_n 3, 1) := dq_62 (hz_wg wX10_inForce_0 (j := 3) (n := 62) rfl)
theorem dX10_inForce_4 : decode cX10_inForce 4 = .ok (.iload_n 3, 1) := dq_29 (hz_wg wX10_inForce_0 (j := 4) (n := 29) rfl)
theorem dX10_inForce_5 : decode cX10_inForce 5 = .ok (.aload_n 0, 1) := dq_42 (hz_wg wX10_inForce_0 (j := 5) (n := 42) rfl)
theorem dX10_inForce_6 : decode cX10_inForce 6 = .ok (.getfield 321, 3) := dq_180 (hz_wg wX10_inForce_0 (j := 6) (n := 180) rfl) (hz_wg wX10_inForce_0 (j := 7) (n := 1) rfl) (hz_wg wX10_inForce_0 (j := 8) (n := 65) rfl) rfl
theorem dX10_inForce_9 : decode cX10_inForce 9 = .ok (.if_icmp .gt 40, 3) := dq_163 (hz_wg wX10_inForce_0 (j := 9) (n := 163) rfl) (hz_wg wX10_inForce_0 (j := 10) (n := 0) rfl) (hz_wg wX10_inForce_0 (j := 11) (n := 40) rfl) (by decide)
theorem dX10_inForce_12 : decode cX10_inForce 12 = .ok (.aload_n 0, 1) := dq_42 (hz_wg wX10_inForce_0 (j := 12) (n := 42) rfl)
theorem dX10_inForce_13 : decode cX10_inForce 13 = .ok (.getfield 7, 3) := dq_180 (hz_wg wX10_inForce_0 (j := 13) (n := 180) rfl) (hz_wg wX10_inForce_0 (j := 14) (n := 0) rfl) (hz_wg wX10_inForce_0 (j := 15) (n := 7) rfl) rfl
theorem dX10_inForce_16 : decode cX10_inForce 16 = .ok (.iload_n 3, 1) := dq_29 (hz_wg wX10_inForce_0 (j := 16) (n := 29) rfl)
theorem dX10_inForce_17 : decode cX10_inForce 17 = .ok (.iaload, 1) := dq_46 (hz_wg wX10_inForce_0 (j := 17) (n := 46) rfl)
theorem dX10_inForce_18 : decode cX10_inForce 18 = .ok (.iload_n 1, 1) := dq_27 (hz_wg wX10_inForce_0 (j := 18) (n := 27) rfl)
theorem dX10_inForce_19 : decode cX10_inForce 19 = .ok (.if_icmp .gt 24, 3) := dq_163 (hz_wg wX10_inForce_0 (j := 19) (n := 163) rfl) (hz_wg wX10_inForce_0 (j := 20) (n := 0) rfl) (hz_wg wX10_inForce_0 (j := 21) (n := 24) rfl) (by decide)
theorem dX10_inForce_22 : decode cX10_inForce 22 = .ok (.iload_n 2, 1) := dq_28 (hz_wg wX10_inForce_0 (j := 22) (n := 28) rfl)
theorem dX10_inForce_23 : decode cX10_inForce 23 = .ok (.ifCond .eq 18, 3) := dq_153 (hz_wg wX10_inForce_0 (j := 23) (n := 153) rfl) (hz_wg wX10_inForce_0 (j := 24) (n := 0) rfl) (hz_wg wX10_inForce_0 (j := 25) (n := 18) rfl) (by decide)
theorem dX10_inForce_26 : decode cX10_inForce 26 = .ok (.aload_n 0, 1) := dq_42 (hz_wg wX10_inForce_0 (j := 26) (n := 42) rfl)
theorem dX10_inForce_27 : decode cX10_inForce 27 = .ok (.getfield 7, 3) := dq_180 (hz_wg wX10_inForce_0 (j := 27) (n := 180) rfl) (hz_wg wX10_inForce_0 (j := 28) (n := 0) rfl) (hz_wg wX10_inForce_0 (j := 29) (n := 7) rfl) rfl
theorem dX10_inForce_30 : decode cX10_inForce 30 = .ok (.iload_n 3, 1) := dq_29 (hz_wg wX10_inForce_0 (j := 30) (n := 29) rfl)
theorem dX10_inForce_31 : decode cX10_inForce 31 = .ok (.iaload, 1) := dq_46 (hz_wg wX10_inForce_0 (j := 31) (n := 46) rfl)
theorem dX10_inForce_32 : decode cX10_inForce 32 = .ok (.aload_n 0, 1) := dq_42 (hz_wg wX10_inForce_0 (j := 32) (n := 42) rfl)
theorem dX10_inForce_33 : decode cX10_inForce 33 = .ok (.getfield 7, 3) := dq_180 (hz_wg wX10_inForce_0 (j := 33) (n := 180) rfl) (hz_wg wX10_inForce_0 (j := 34) (n := 0) rfl) (hz_wg wX10_inForce_0 (j := 35) (n := 7) rfl) rfl
theorem dX10_inForce_36 : decode cX10_inForce 36 = .ok (.iload_n 2, 1) := dq_28 (hz_wg wX10_inForce_0 (j := 36) (n := 28) rfl)
theorem dX10_inForce_37 : decode cX10_inForce 37 = .ok (.iaload, 1) := dq_46 (hz_wg wX10_inForce_0 (j := 37) (n := 46) rfl)
theorem dX10_inForce_38 : decode cX10_inForce 38 = .ok (.if_icmp .lt 5, 3) := dq_161 (hz_wg wX10_inForce_0 (j := 38) (n := 161) rfl) (hz_wg wX10_inForce_0 (j := 39) (n := 0) rfl) (hz_wg wX10_inForce_0 (j := 40) (n := 5) rfl) (by decide)
theorem dX10_inForce_41 : decode cX10_inForce 41 = .ok (.iload_n 3, 1) := dq_29 (hz_wg wX10_inForce_0 (j := 41) (n := 29) rfl)
theorem dX10_inForce_42 : decode cX10_inForce 42 = .ok (.istore_n 2, 1) := dq_61 (hz_wg wX10_inForce_0 (j := 42) (n := 61) rfl)
theorem dX10_inForce_43 : decode cX10_inForce 43 = .ok (.iinc 3 1, 3) := dq_132 (hz_wg wX10_inForce_0 (j := 43) (n := 132) rfl) (hz_wg wX10_inForce_0 (j := 44) (n := 3) rfl) (hz_wg wX10_inForce_0 (j := 45) (n := 1) rfl) (by decide)
theorem dX10_inForce_46 : decode cX10_inForce 46 = .ok (.goto (-42), 3) := dq_167 (hz_wg wX10_inForce_0 (j := 46) (n := 167) rfl) (hz_wg wX10_inForce_0 (j := 47) (n := 255) rfl) (hz_wg wX10_inForce_0 (j := 48) (n := 214) rfl) (by decide)
theorem dX10_inForce_49 : decode cX10_inForce 49 = .ok (.iload_n 2, 1) := dq_28 (hz_wg wX10_inForce_0 (j := 49) (n := 28) rfl)
theorem dX10_inForce_50 : decode cX10_inForce 50 = .ok (.ireturn, 1) := dq_172 (hz_wg wX10_inForce_0 (j := 50) (n := 172) rfl)
set_option maxHeartbeats 4000000 in
set_option maxRecDepth 100000 in
theorem t_X10_inForce (l : Launch) (dC : Nat → ClassId) (dI : Nat → Nat → Nat) (dA : Nat → ClassId) (L : List Nat) (h : hx_h) (sz : Nat) (x : Nat) (i1 : Int32) (hT : hx_T T_tb L h) (gx : hx_g L h x 10) (a0 : Int32) (f_x_1 : h.2.1 x 1 = a0) : Met l yX10_inForce (Cond.code yX10_inForce cX10_inForce 4 (some .int) :: hx_all) ({ frames := 0, cells := 0, slots := 0, locals := 0 }) (va_Pc [.ref x, .int i1] (hx_B T_tb (P_ty dA) (dC, dI) vwCl L h sz)) (va_Qi (fun (r : Int32) (u : List Nat × hx_h) => (0 ≤ r.toInt ∧ r.toInt ≤ a0.toInt) ∧ hx_T T_tb u.1 u.2 ∧ hx_S T_tb [] L h u.1 u.2) (hx_E T_tb (P_ty dA) (dC, dI) vwCl (hx_A L sz)) (hx_A L sz)) 0 0 (hx_A L sz) := by
  refine hx_met (lv := [(0, .ref x), (1, .int i1)]) (by decide +kernel) rfl (Nat.le_of_ble_eq_true rfl) rfl ?_
  intro p e s m below meth c hx hb hml hr hlk hts0 hown hin hsz hW ls hl
  have hts : ∀ w ∈ hx_all, w.before _ s = true := fun w hw => hts0 w (List.mem_cons_of_mem _ hw)
  have hown : s.vm.findClass "SmallCourtModel" = some m.cls := hown
  have hM : hx_S T_tb [] L h L h := hx_S.rf
  have b_a0 := hT.gi gx tt_10 (k := 1) rfl
  rw [f_x_1] at b_a0
  have b_a0 : 0 ≤ a0.toInt ∧ a0.toInt ≤ 8 := b_a0
  refine lv_iconst (v := 0) hx hb dX10_inForce_0 (by decide) ?_
  refine lv_istore_n (lv' := [(2, .int (0 : Int32)), (0, .ref x), (1, .int i1)]) hx hb dX10_inForce_1 rfl hl (by decide) rfl (fun ls hl => ?_)
  refine lv_iconst (v := 1) hx hb dX10_inForce_2 (by decide) ?_
  refine lv_istore_n (lv' := [(3, .int (1 : Int32)), (2, .int (0 : Int32)), (0, .ref x), (1, .int i1)]) hx hb dX10_inForce_3 rfl hl (by decide) rfl (fun ls hl => ?_)
  have loop4 : ∀ (n4 : Nat) (iv4_2 iv4_3 : Int32) (H : Heap) (locs : List Loc) (hL1 : List Nat) (hl1 : hx_h), 0 ≤ iv4_2.toInt → iv4_2.toInt ≤ 8 → 1 ≤ iv4_3.toInt → iv4_3.toInt ≤ 9 → (iv4_2.toInt ≤ a0.toInt) → ∀ (ls : Array Slot), 9 - iv4_3.toInt < (n4 : Int) → hx_W T_tb (P_ty dA) (dC, dI) vwCl (hx_A L sz) s.heap hL1 hl1 s H locs → hx_T T_tb hL1 hl1 → hx_S T_tb [] L h hL1 hl1 → lv_has ls 4 [(3, .int iv4_3), (2, .int iv4_2), (0, .ref x), (1, .int i1)] → W p l e ({ frames := 0, cells := 0, slots := 0, locals := 0 }) s m ([.ref x, .int i1] : List Value).toArray below meth c H locs 0 0 (MQ below (va_Qi (fun (r : Int32) (u : List Nat × hx_h) => (0 ≤ r.toInt ∧ r.toInt ≤ a0.toInt) ∧ hx_T T_tb u.1 u.2 ∧ hx_S T_tb [] L h u.1 u.2) (hx_E T_tb (P_ty dA) (dC, dI) vwCl (hx_A L sz)) (hx_A L sz)) ([.ref x, .int i1] : List Value).toArray s 0 0 (hx_A L sz)) (F0 m 4 ls []) := by
    intro n4
    induction n4 with
    | zero => intro iv4_2 iv4_3 H locs hL1 hl1 bliv4_2 buiv4_2 bliv4_3 buiv4_3 vi4_0 ls hn4; exfalso; omega
    | succ n4 ih4 =>
      intro iv4_2 iv4_3 H locs hL1 hl1 bliv4_2 buiv4_2 bliv4_3 buiv4_3 vi4_0 ls hn4 hW hT hM   hl
      refine lv_iload_n hx hb dX10_inForce_4 rfl (lv_at hl 0 rfl) ?_
      refine lv_aload_n hx hb dX10_inForce_5 rfl (lv_at hl 2 rfl) ?_
      refine hk_geti hx hb hts hC_10 hown hW (gx.S hM) tt_10 1 (by decide) rfl kw_1144 ⟨rfl, rfl, rfl⟩ ((hM.o gx trivial rfl).1.trans f_x_1) dX10_inForce_6 ?_
      refine hb_icmp_gt (zx := iv4_3.toInt) (zy := a0.toInt) (tgt := 49) hx hb rfl rfl dX10_inForce_9 (by decide) (fun c_1 => ?_) (fun c_1 => ?_)
      · skip
        refine lv_iload_n hx hb dX10_inForce_49 rfl (lv_at hl 1 rfl) ?_
        exact hx_reti hx hb hr hlk hW ⟨(by first | omega | (refine ⟨?_, ?_⟩ <;> omega)), hT, hM⟩ dX10_inForce_50
      · skip
        refine lv_aload_n hx hb dX10_inForce_12 rfl (lv_at hl 2 rfl) ?_
        refine hx_getn hx hb hts hC_10 hown hW hT (gx.S hM) tt_10 2 (by decide) rfl kw_1145 ⟨rfl, rfl, rfl⟩ dX10_inForce_13 (fun q_2 fq_2 gq_2 => ?_)
        refine lv_iload_n hx hb dX10_inForce_16 rfl (lv_at hl 0 rfl) ?_
        refine hx_iald hx hb hW hT gq_2 tt_49 rfl ⟨by omega, by omega⟩ dX10_inForce_17 (fun x_3 ex_3 lx_3 ux_3 => ?_)
        refine lv_iload_n hx hb dX10_inForce_18 rfl (lv_at hl 3 rfl) ?_
        refine hb_icmp_gt (zx := x_3.toInt) (zy := i1.toInt) (tgt := 43) hx hb rfl rfl dX10_inForce_19 (by decide) (fun c_4 => ?_) (fun c_4 => ?_)
        · skip
          obtain ⟨x_5, ex_5⟩ : ∃ y : Int32, y = iv4_3 + Int32.ofInt 1 := ⟨_, rfl⟩
          have rg_6 := i32_r iv4_3
          have zx_5 : x_5.toInt = iv4_3.toInt + (1) := by rw [ex_5]; exact i32_add rfl (by decide) (by omega) (by omega)
          refine lv_iinc (v := x_5) (lv' := [(3, .int x_5), (2, .int iv4_2), (0, .ref x), (1, .int i1)]) hx hb dX10_inForce_43 hl (k := 0) rfl ex_5.symm (by decide) rfl (fun ls hl => ?_)
          refine lv_goto (tgt := 4) hx hb dX10_inForce_46 (by decide) ?_
          exact ih4 iv4_2 x_5 _ _ hL1 hl1 (by omega) (by omega) (by omega) (by omega) (by omega) ls (by omega) hW hT hM   (lv_sub hl [0, 1, 2, 3] rfl)
        · skip
          refine lv_iload_n hx hb dX10_inForce_22 rfl (lv_at hl 1 rfl) ?_
          refine hb_if_eq (zx := iv4_2.toInt) (tgt := 41) hx hb rfl dX10_inForce_23 (by decide) (fun c_7 => ?_) (fun c_7 => ?_)
          · skip
            refine lv_iload_n hx hb dX10_inForce_41 rfl (lv_at hl 0 rfl) ?_
            refine lv_istore_n (lv' := [(2, .int iv4_3), (3, .int iv4_3), (0, .ref x), (1, .int i1)]) hx hb dX10_inForce_42 rfl hl (by decide) rfl (fun ls hl => ?_)
            obtain ⟨x_8, ex_8⟩ : ∃ y : Int32, y = iv4_3 + Int32.ofInt 1 := ⟨_, rfl⟩
            have rg_9 := i32_r iv4_3
            have zx_8 : x_8.toInt = iv4_3.toInt + (1) := by rw [ex_8]; exact i32_add rfl (by decide) (by omega) (by omega)
            refine lv_iinc (v := x_8) (lv' := [(3, .int x_8), (2, .int iv4_3), (0, .ref x), (1, .int i1)]) hx hb dX10_inForce_43 hl (k := 1) rfl ex_8.symm (by decide) rfl (fun ls hl => ?_)
            refine lv_goto (tgt := 4) hx hb dX10_inForce_46 (by decide) ?_
            exact ih4 iv4_3 x_8 _ _ hL1 hl1 (by omega) (by omega) (by omega) (by omega) (by omega) ls (by omega) hW hT hM   (lv_sub hl [0, 1, 2, 3] rfl)
          · skip
            refine lv_aload_n hx hb dX10_inForce_26 rfl (lv_at hl 2 rfl) ?_
            refine hk_getr hx hb hts hC_10 hown hW (gx.S hM) tt_10 2 (by decide) rfl kw_1145 ⟨rfl, rfl, rfl⟩ fq_2 dX10_inForce_27 ?_
            refine lv_iload_n hx hb dX10_inForce_30 rfl (lv_at hl 0 rfl) ?_
            refine hx_iald hx hb hW hT gq_2 tt_49 rfl ⟨by omega, by omega⟩ dX10_inForce_31 (fun x_10 ex_10 lx_10 ux_10 => ?_)
            obtain rfl : x_3 = x_10 := ex_3.trans ex_10.symm
            refine lv_aload_n hx hb dX10_inForce_32 rfl (lv_at hl 2 rfl) ?_
            refine hk_getr hx hb hts hC_10 hown hW (gx.S hM) tt_10 2 (by decide) rfl kw_1145 ⟨rfl, rfl, rfl⟩ fq_2 dX10_inForce_33 ?_
            refine lv_iload_n hx hb dX10_inForce_36 rfl (lv_at hl 1 rfl) ?_
            refine hx_iald hx hb hW hT gq_2 tt_49 rfl ⟨by omega, by omega⟩ dX10_inForce_37 (fun x_11 ex_11 lx_11 ux_11 => ?_)
            refine hb_icmp_lt (zx := x_3.toInt) (zy := x_11.toInt) (tgt := 43) hx hb rfl rfl dX10_inForce_38 (by decide) (fun c_12 => ?_) (fun c_12 => ?_)
            · skip
              obtain ⟨x_13, ex_13⟩ : ∃ y : Int32, y = iv4_3 + Int32.ofInt 1 := ⟨_, rfl⟩
              have rg_14 := i32_r iv4_3
              have zx_13 : x_13.toInt = iv4_3.toInt + (1) := by rw [ex_13]; exact i32_add rfl (by decide) (by omega) (by omega)
              refine lv_iinc (v := x_13) (lv' := [(3, .int x_13), (2, .int iv4_2), (0, .ref x), (1, .int i1)]) hx hb dX10_inForce_43 hl (k := 0) rfl ex_13.symm (by decide) rfl (fun ls hl => ?_)
              refine lv_goto (tgt := 4) hx hb dX10_inForce_46 (by decide) ?_
              exact ih4 iv4_2 x_13 _ _ hL1 hl1 (by omega) (by omega) (by omega) (by omega) (by omega) ls (by omega) hW hT hM   (lv_sub hl [0, 1, 2, 3] rfl)
            · skip
              refine lv_iload_n hx hb dX10_inForce_41 rfl (lv_at hl 0 rfl) ?_
              refine lv_istore_n (lv' := [(2, .int iv4_3), (3, .int iv4_3), (0, .ref x), (1, .int i1)]) hx hb dX10_inForce_42 rfl hl (by decide) rfl (fun ls hl => ?_)
              obtain ⟨x_15, ex_15⟩ : ∃ y : Int32, y = iv4_3 + Int32.ofInt 1 := ⟨_, rfl⟩
              have rg_16 := i32_r iv4_3
              have zx_15 : x_15.toInt = iv4_3.toInt + (1) := by rw [ex_15]; exact i32_add rfl (by decide) (by omega) (by omega)
              refine lv_iinc (v := x_15) (lv' := [(3, .int x_15), (2, .int iv4_3), (0, .ref x), (1, .int i1)]) hx hb dX10_inForce_43 hl (k := 1) rfl ex_15.symm (by decide) rfl (fun ls hl => ?_)
              refine lv_goto (tgt := 4) hx hb dX10_inForce_46 (by decide) ?_
              exact ih4 iv4_3 x_15 _ _ hL1 hl1 (by omega) (by omega) (by omega) (by omega) (by omega) ls (by omega) hW hT hM   (lv_sub hl [0, 1, 2, 3] rfl)
  have zk_0 : (0 : Int32).toInt = 0 := by decide
  have zk_1 : (1 : Int32).toInt = 1 := by decide
  exact loop4 9 (0 : Int32) (1 : Int32) _ _ L h (by decide) (by decide) (by decide) (by decide) (by omega) ls (by omega) hW hT hM   hl

theorem dX10_ruleOf_0 : decode cX10_ruleOf 0 = .ok (.aload_n 0, 1) := by decide +kernel
theorem dX10_ruleOf_1 : decode cX10_ruleOf 1 = .ok (.getfield 13, 3) := by decide +kernel
theorem dX10_ruleOf_4 : decode cX10_ruleOf 4 = .ok (.bipush 13, 2) := by decide +kernel
theorem dX10_ruleOf_6 : decode cX10_ruleOf 6 = .ok (.iload_n 1, 1) := by decide +kernel
theorem dX10_ruleOf_7 : decode cX10_ruleOf 7 = .ok (.imul, 1) := by decide +kernel
theorem dX10_ruleOf_8 : decode cX10_ruleOf 8 = .ok (.iload_n 2, 1) := by decide +kernel
theorem dX10_ruleOf_9 : decode cX10_ruleOf 9 = .ok (.iadd, 1) := by decide +kernel
theorem dX10_ruleOf_10 : decode cX10_ruleOf 10 = .ok (.iaload, 1) := by decide +kernel
theorem dX10_ruleOf_11 : decode cX10_ruleOf 11 = .ok (.ireturn, 1) := by decide +kernel
set_option maxHeartbeats 4000000 in
set_option maxRecDepth 100000 in
theorem t_X10_ruleOf (l : Launch) (dC : Nat → ClassId) (dI : Nat → Nat → Nat) (dA : Nat → ClassId) (L : List Nat) (h : hx_h) (sz : Nat) (x : Nat) (i1 : Int32) (i2 : Int32) (hT : hx_T T_tb L h) (gx : hx_g L h x 10) (hi1 : 0 ≤ i1.toInt ∧ i1.toInt ≤ 8) (hi2 : 0 ≤ i2.toInt ∧ i2.toInt ≤ 12) : Met l yX10_ruleOf (Cond.code yX10_ruleOf cX10_ruleOf 3 (some .int) :: hx_all) ({ frames := 0, cells := 0, slots := 0, locals := 0 }) (va_Pc [.ref x, .int i1, .int i2] (hx_B T_tb (P_ty dA) (dC, dI) vwCl L h sz)) (va_Qi (fun (r : Int32) (u : List Nat × hx_h) => (0 ≤ r.toInt ∧ r.toInt ≤ 9999) ∧ hx_T T_tb u.1 u.2 ∧ hx_S T_tb [] L h u.1 u.2) (hx_E T_tb (P_ty dA) (dC, dI) vwCl (hx_A L sz)) (hx_A L sz)) 0 0 (hx_A L sz) := by
  refine hx_met (lv := [(0, .ref x), (1, .int i1), (2, .int i2)]) (by decide +kernel) rfl (Nat.le_of_ble_eq_true rfl) rfl ?_
  intro p e s m below meth c hx hb hml hr hlk hts0 hown hin hsz hW ls hl
  have hts : ∀ w ∈ hx_all, w.before _ s = true := fun w hw => hts0 w (List.mem_cons_of_mem _ hw)
  have hown : s.vm.findClass "SmallCourtModel" = some m.cls := hown
  have hM : hx_S T_tb [] L h L h := hx_S.rf
  refine lv_aload_n hx hb dX10_ruleOf_0 rfl (lv_at hl 0 rfl) ?_
  refine hx_getn hx hb hts hC_10 hown hW hT (gx.S hM) tt_10 3 (by decide) rfl kw_1146 ⟨rfl, rfl, rfl⟩ dX10_ruleOf_1 (fun q_1 fq_1 gq_1 => ?_)
  refine lv_bipush (v := 13) hx hb dX10_ruleOf_4 (by decide) ?_
  refine lv_iload_n hx hb dX10_ruleOf_6 rfl (lv_at hl 1 rfl) ?_
  refine lv_imul hx hb dX10_ruleOf_7 ?_
  refine lv_topi (fun x_2 ex_2 => ?_)
  have zx_2 : x_2.toInt = 13 * i1.toInt := by rw [ex_2]; exact i32_mul (by decide) rfl rfl (by omega) (by omega)
  refine lv_iload_n hx hb dX10_ruleOf_8 rfl (lv_at hl 2 rfl) ?_
  refine lv_iadd hx hb dX10_ruleOf_9 ?_
  have rg_3 := i32_r x_2
  have rg_4 := i32_r i2
  refine lv_topi (fun x_5 ex_5 => ?_)
  have zx_5 : x_5.toInt = x_2.toInt + i2.toInt := by rw [ex_5]; exact i32_add rfl rfl (by omega) (by omega)
  refine hx_iald hx hb hW hT gq_1 tt_50 rfl ⟨by omega, by omega⟩ dX10_ruleOf_10 (fun x_6 ex_6 lx_6 ux_6 => ?_)
  exact hx_reti hx hb hr hlk hW ⟨(by first | omega | (refine ⟨?_, ?_⟩ <;> omega)), hT, hM⟩ dX10_ruleOf_11

def wLX10_force_0 : List Nat := [27, 184, 1, 68, 153, 0, 13, 28, 3, 16, 13, 184, 0, 228, 154, 0, 5, 2, 172, 42, 27, 182, 1, 74, 62, 28, 154, 0, 9, 29, 4, 100, 167, 0, 11, 42, 29, 28, 4, 100, 182, 1, 77, 172]
theorem wX10_force_0 : (cX10_force.data.toList.map UInt8.toNat).drop 0 = wLX10_force_0 ++ ([]) := by decide +kernel
theorem dX10_force_0 : decode cX10_force 0 = .ok (.iload_n 1, 1) := dq_27 (hz_wg wX10_force_0 (j := 0) (n := 27) rfl)
theorem dX10_force_1 : decode cX10_force 1 = .ok (.invokestatic 324, 3) := dq_184 (hz_wg wX10_force_0 (j := 1) (n := 184) rfl) (hz_wg wX10_force_0 (j := 2) (n := 1) rfl) (hz_wg wX10_force_0 (j := 3) (n := 68) rfl) rfl
theorem dX10_force_4 : decode cX10_force 4 = .ok (.ifCond .eq 13, 3) := dq_153 (hz_wg wX10_force_0 (j := 4) (n := 153) rfl) (hz_wg wX10_force_0 (j := 5) (n := 0) rfl) (hz_wg wX10_force_0 (j := 6) (n := 13) rfl) (by decide)
theorem dX10_force_7 : decode cX10_force 7 = .ok (.iload_n 2, 1) := dq_28 (hz_wg wX10_force_0 (j := 7) (n := 28) rfl)
theorem dX10_force_8 : decode cX10_force 8 = .ok (.iconst 0, 1) := dq_3 (hz_wg wX10_force_0 (j := 8) (n := 3) rfl)
theorem dX10_force_9 : decode cX10_force 9 = .ok (.bipush 13, 2) := dq_16 (hz_wg wX10_force_0 (j := 9) (n := 16) rfl) (hz_wg wX10_force_0 (j := 10) (n := 13) rfl) (by decide)
theorem dX10_force_11 : decode cX10_force 11 = .ok (.invokestatic 228, 3) := dq_184 (hz_wg wX10_force_0 (j := 11) (n := 184) rfl) (hz_wg wX10_force_0 (j := 12) (n := 0) rfl) (hz_wg wX10_force_0 (j := 13) (n := 228) rfl) rfl
theorem dX10_force_14 : decode cX10_force 14 = .ok (.ifCond .ne 5, 3) := dq_154 (hz_wg wX10_force_0 (j := 14) (n := 154) rfl) (hz_wg wX10_force_0 (j := 15) (n := 0) rfl) (hz_wg wX10_force_0 (j := 16) (n := 5) rfl) (by decide)
theorem dX10_force_17 : decode cX10_force 17 = .ok (.iconst (-1), 1) := dq_2 (hz_wg wX10_force_0 (j := 17) (n := 2) rfl)
theorem dX10_force_18 : decode cX10_force 18 = .ok (.ireturn, 1) := dq_172 (hz_wg wX10_force_0 (j := 18) (n := 172) rfl)
theorem dX10_force_19 : decode cX10_force 19 = .ok (.aload_n 0, 1) := dq_42 (hz_wg wX10_force_0 (j := 19) (n := 42) rfl)
theorem dX10_force_20 : decode cX10_force 20 = .ok (.iload_n 1, 1) := dq_27 (hz_wg wX10_force_0 (j := 20) (n := 27) rfl)
theorem dX10_force_21 : decode cX10_force 21 = .ok (.invokevirtual 330, 3) := dq_182 (hz_wg wX10_force_0 (j := 21) (n := 182) rfl) (hz_wg wX10_force_0 (j := 22) (n := 1) rfl) (hz_wg wX10_force_0 (j := 23) (n := 74) rfl) rfl
theorem dX10_force_24 : decode cX10_force 24 = .ok (.istore_n 3, 1) := dq_62 (hz_wg wX10_force_0 (j := 24) (n := 62) rfl)
theorem dX10_force_25 : decode cX10_force 25 = .ok (.iload_n 2, 1) := dq_28 (hz_wg wX10_force_0 (j := 25) (n := 28) rfl)
theorem dX10_force_26 : decode cX10_force 26 = .ok (.ifCond .ne 9, 3) := dq_154 (hz_wg wX10_force_0 (j := 26) (n := 154) rfl) (hz_wg wX10_force_0 (j := 27) (n := 0) rfl) (hz_wg wX10_force_0 (j := 28) (n := 9) rfl) (by decide)
theorem dX10_force_29 : decode cX10_force 29 = .ok (.iload_n 3, 1) := dq_29 (hz_wg wX10_force_0 (j := 29) (n := 29) rfl)
theorem dX10_force_30 : decode cX10_force 30 = .ok (.iconst 1, 1) := dq_4 (hz_wg wX10_force_0 (j := 30) (n := 4) rfl)
theorem dX10_force_31 : decode cX10_force 31 = .ok (.isub, 1) := dq_100 (hz_wg wX10_force_0 (j := 31) (n := 100) rfl)
theorem dX10_force_32 : decode cX10_force 32 = .ok (.goto 11, 3) := dq_167 (hz_wg wX10_force_0 (j := 32) (n := 167) rfl) (hz_wg wX10_force_0 (j := 33) (n := 0) rfl) (hz_wg wX10_force_0 (j := 34) (n := 11) rfl) (by decide)
theorem dX10_force_35 : decode cX10_force 35 = .ok (.aload_n 0, 1) := dq_42 (hz_wg wX10_force_0 (j := 35) (n := 42) rfl)
theorem dX10_force_36 : decode cX10_force 36 = .ok (.iload_n 3, 1) := dq_29 (hz_wg wX10_force_0 (j := 36) (n := 29) rfl)
theorem dX10_force_37 : decode cX10_force 37 = .ok (.iload_n 2, 1) := dq_28 (hz_wg wX10_force_0 (j := 37) (n := 28) rfl)
theorem dX10_force_38 : decode cX10_force 38 = .ok (.iconst 1, 1) := dq_4 (hz_wg wX10_force_0 (j := 38) (n := 4) rfl)
theorem dX10_force_39 : decode cX10_force 39 = .ok (.isub, 1) := dq_100 (hz_wg wX10_force_0 (j := 39) (n := 100) rfl)
theorem dX10_force_40 : decode cX10_force 40 = .ok (.invokevirtual 333, 3) := dq_182 (hz_wg wX10_force_0 (j := 40) (n := 182) rfl) (hz_wg wX10_force_0 (j := 41) (n := 1) rfl) (hz_wg wX10_force_0 (j := 42) (n := 77) rfl) rfl
theorem dX10_force_43 : decode cX10_force 43 = .ok (.ireturn, 1) := dq_172 (hz_wg wX10_force_0 (j := 43) (n := 172) rfl)
set_option maxHeartbeats 4000000 in
set_option maxRecDepth 100000 in
theorem t_X10_force (l : Launch) (dC : Nat → ClassId) (dI : Nat → Nat → Nat) (dA : Nat → ClassId) (L : List Nat) (h : hx_h) (sz : Nat) (x : Nat) (i1 : Int32) (i2 : Int32) (hT : hx_T T_tb L h) (gx : hx_g L h x 10)  : Met l yX10_force (Cond.code yX10_force cX10_force 4 (some .int) :: hx_all) ({ frames := 2, cells := 0, slots := 0, locals := 42 }) (va_Pc [.ref x, .int i1, .int i2] (hx_B T_tb (P_ty dA) (dC, dI) vwCl L h sz)) (va_Qi (fun (r : Int32) (u : List Nat × hx_h) => (True) ∧ hx_T T_tb u.1 u.2 ∧ hx_S T_tb [] L h u.1 u.2) (hx_E T_tb (P_ty dA) (dC, dI) vwCl (hx_A L sz)) (hx_A L sz)) 0 0 (hx_A L sz) := by
  refine hx_met (lv := [(0, .ref x), (1, .int i1), (2, .int i2)]) (by decide +kernel) rfl (Nat.le_of_ble_eq_true rfl) rfl ?_
  intro p e s m below meth c hx hb hml hr hlk hts0 hown hin hsz hW ls hl
  have hts : ∀ w ∈ hx_all, w.before _ s = true := fun w hw => hts0 w (List.mem_cons_of_mem _ hw)
  have hown : s.vm.findClass "SmallCourtModel" = some m.cls := hown
  have hM : hx_S T_tb [] L h L h := hx_S.rf
  refine lv_iload_n hx hb dX10_force_0 rfl (lv_at hl 1 rfl) ?_
  refine hx_goi (hx_runS (As := [.int i1]) (rest := []) ⟨hx, hb, hml, hown, hts⟩ hW (t_X10_isDay l dC dI dA L h s.heap.size i1 hT) (va_cwS 1 hts (hx_gS kw_1464 kw_1462 kw_1463 kw_103) rfl rfl rfl (by decide +kernel) ⟨Nat.le_of_ble_eq_true rfl, Nat.le_of_ble_eq_true rfl⟩) rfl hl.1 rfl (Nat.le_of_ble_eq_true rfl) dX10_force_1 ⟨Nat.le_of_ble_eq_true rfl, Nat.le_of_ble_eq_true rfl⟩) hW (fun r_3 L_1 h_2 H locs p_4 hW => ?_)
  obtain ⟨hr_5, hT, hs⟩ := p_4
  replace hT : hx_T T_tb L_1 h_2 := hT
  replace hs : hx_S T_tb [] L h L_1 h_2 := hs
  replace hM := hM.tr (hs.mono (by decide))
  refine hb_if_eq (zx := r_3.toInt) (tgt := 17) hx hb rfl dX10_force_4 (by decide) (fun c_6 => ?_) (fun c_6 => ?_)
  · skip
    replace hr_5 := hr_5.resolve_right (fun z9 => absurd (c_6.symm.trans z9.1) (by decide))
    replace hr_5 := hr_5.2
    refine lv_iconst (v := -1) hx hb dX10_force_17 (by decide) ?_
    exact hx_reti hx hb hr hlk hW ⟨trivial, hT, hM⟩ dX10_force_18
  · skip
    replace hr_5 := hr_5.resolve_left (fun z9 => c_6 z9.1)
    replace c_6 := hr_5.1
    replace hr_5 := hr_5.2
    refine lv_iload_n hx hb dX10_force_7 rfl (lv_at hl 2 rfl) ?_
    refine lv_iconst (v := 0) hx hb dX10_force_8 (by decide) ?_
    refine lv_bipush (v := 13) hx hb dX10_force_9 (by decide) ?_
    have zc_13 : (13 : Int32).toInt = 13 := by decide
    have zc_0 : (0 : Int32).toInt = 0 := by decide
    refine hx_goi (hx_runS (As := [.int i2, .int (0 : Int32), .int (13 : Int32)]) (rest := []) ⟨hx, hb, hml, hown, hts⟩ hW (t_X10_in l dC dI dA L_1 h_2 H.size i2 (0 : Int32) (13 : Int32) hT) (va_cwS 3 hts (hx_gS kw_1445 kw_1443 kw_1444 kw_103) rfl rfl rfl (by decide +kernel) ⟨Nat.le_of_ble_eq_true rfl, Nat.le_of_ble_eq_true rfl⟩) rfl hl.1 rfl (Nat.le_of_ble_eq_true rfl) dX10_force_11 ⟨Nat.le_of_ble_eq_true rfl, Nat.le_of_ble_eq_true rfl⟩) hW (fun r_9 L_7 h_8 H locs p_10 hW => ?_)
    obtain ⟨hr_11, hT, hs⟩ := p_10
    replace hT : hx_T T_tb L_7 h_8 := hT
    replace hs : hx_S T_tb [] L_1 h_2 L_7 h_8 := hs
    replace hM := hM.tr (hs.mono (by decide))
    refine hb_if_ne (zx := r_9.toInt) (tgt := 19) hx hb rfl dX10_force_14 (by decide) (fun c_12 => ?_) (fun c_12 => ?_)
    · skip
      replace hr_11 := hr_11.resolve_left (fun z9 => c_12 z9.1)
      replace c_12 := hr_11.1
      replace hr_11 := hr_11.2
      refine lv_aload_n hx hb dX10_force_19 rfl (lv_at hl 0 rfl) ?_
      refine lv_iload_n hx hb dX10_force_20 rfl (lv_at hl 1 rfl) ?_
      obtain ⟨fv_13, efv_13⟩ : ∃ y : Int32, y = h_8.2.1 x 1 := ⟨_, rfl⟩
      have bfv_13 := hT.gi (gx.S hM) tt_10 (k := 1) rfl
      rw [← efv_13] at bfv_13
      have bfv_13 : 0 ≤ fv_13.toInt ∧ fv_13.toInt ≤ 8 := bfv_13
      have ffv_13 := efv_13.symm
      refine hx_goi (hx_runV (As := [.int i1]) (rest := []) ⟨hx, hb, hml, hown, hts⟩ hW (gx.S hM) tt_10 (T := TX10) (N := 98) rfl (t_X10_inForce l dC dI dA L_7 h_8 H.size x i1 hT (gx.S hM) fv_13 ffv_13) (cwV 1 hts (hx_gV kw_1529 kw_1526 kw_1528 kw_65 kw_103) rfl rfl rfl (by decide +kernel) ⟨Nat.le_of_ble_eq_true rfl, Nat.le_of_ble_eq_true rfl⟩) rfl hl.1 rfl (Nat.le_of_ble_eq_true rfl) dX10_force_21 ⟨Nat.le_of_ble_eq_true rfl, Nat.le_of_ble_eq_true rfl⟩) hW (fun r_16 L_14 h_15 H locs p_17 hW => ?_)
      obtain ⟨hr_18, hT, hs⟩ := p_17
      replace hT : hx_T T_tb L_14 h_15 := hT
      replace hs : hx_S T_tb [] L_7 h_8 L_14 h_15 := hs
      replace ffv_13 := (hs.o (gx.S hM) trivial rfl).1.trans ffv_13
      replace hM := hM.tr (hs.mono (by decide))
      refine lv_istore_n (lv' := [(3, .int r_16), (0, .ref x), (1, .int i1), (2, .int i2)]) hx hb dX10_force_24 rfl hl (by decide) rfl (fun ls hl => ?_)
      refine lv_iload_n hx hb dX10_force_25 rfl (lv_at hl 3 rfl) ?_
      refine hb_if_ne (zx := i2.toInt) (tgt := 35) hx hb rfl dX10_force_26 (by decide) (fun c_19 => ?_) (fun c_19 => ?_)
      · skip
        refine lv_aload_n hx hb dX10_force_35 rfl (lv_at hl 1 rfl) ?_
        refine lv_iload_n hx hb dX10_force_36 rfl (lv_at hl 0 rfl) ?_
        refine lv_iload_n hx hb dX10_force_37 rfl (lv_at hl 3 rfl) ?_
        refine lv_iconst (v := 1) hx hb dX10_force_38 (by decide) ?_
        refine lv_isub hx hb dX10_force_39 ?_
        have rg_20 := i32_r i2
        refine lv_topi (fun x_21 ex_21 => ?_)
        have zx_21 : x_21.toInt = i2.toInt - 1 := by rw [ex_21]; exact i32_sub rfl (by decide) (by omega) (by omega)
        refine hx_goi (hx_runV (As := [.int r_16, .int x_21]) (rest := []) ⟨hx, hb, hml, hown, hts⟩ hW (gx.S hM) tt_10 (T := TX10) (N := 98) rfl (t_X10_ruleOf l dC dI dA L_14 h_15 H.size x r_16 x_21 hT (gx.S hM) ⟨by omega, by omega⟩ ⟨by omega, by omega⟩) (cwV 2 hts (hx_gV kw_1533 kw_1530 kw_1532 kw_66 kw_103) rfl rfl rfl (by decide +kernel) ⟨Nat.le_of_ble_eq_true rfl, Nat.le_of_ble_eq_true rfl⟩) rfl hl.1 rfl (Nat.le_of_ble_eq_true rfl) dX10_force_40 ⟨Nat.le_of_ble_eq_true rfl, Nat.le_of_ble_eq_true rfl⟩) hW (fun r_24 L_22 h_23 H locs p_25 hW => ?_)
        obtain ⟨hr_26, hT, hs⟩ := p_25
        replace hT : hx_T T_tb L_22 h_23 := hT
        replace hs : hx_S T_tb [] L_14 h_15 L_22 h_23 := hs
        replace ffv_13 := (hs.o (gx.S hM) trivial rfl).1.trans ffv_13
        replace hM := hM.tr (hs.mono (by decide))
        exact hx_reti hx hb hr hlk hW ⟨trivial, hT, hM⟩ dX10_force_43
      · skip
        refine lv_iload_n hx hb dX10_force_29 rfl (lv_at hl 0 rfl) ?_
        refine lv_iconst (v := 1) hx hb dX10_force_30 (by decide) ?_
        refine lv_isub hx hb dX10_force_31 ?_
        have rg_27 := i32_r r_16
        refine lv_topi (fun x_28 ex_28 => ?_)
        have zx_28 : x_28.toInt = r_16.toInt - 1 := by rw [ex_28]; exact i32_sub rfl (by decide) (by omega) (by omega)
        refine lv_goto (tgt := 43) hx hb dX10_force_32 (by decide) ?_
        exact hx_reti hx hb hr hlk hW ⟨trivial, hT, hM⟩ dX10_force_43
    · skip
      replace hr_11 := hr_11.resolve_right (fun z9 => absurd (c_12.symm.trans z9.1) (by decide))
      replace hr_11 := hr_11.2
      refine lv_iconst (v := -1) hx hb dX10_force_17 (by decide) ?_
      exact hx_reti hx hb hr hlk hW ⟨trivial, hT, hM⟩ dX10_force_18
