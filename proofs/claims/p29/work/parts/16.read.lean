theorem dX6_refuse_0 : decode cX6_refuse 0 = .ok (.aload_n 0, 1) := by decide +kernel
theorem dX6_refuse_1 : decode cX6_refuse 1 = .ok (.iconst 1, 1) := by decide +kernel
theorem dX6_refuse_2 : decode cX6_refuse 2 = .ok (.bipush 8, 2) := by decide +kernel
theorem dX6_refuse_4 : decode cX6_refuse 4 = .ok (.iload_n 1, 1) := by decide +kernel
theorem dX6_refuse_5 : decode cX6_refuse 5 = .ok (.imul, 1) := by decide +kernel
theorem dX6_refuse_6 : decode cX6_refuse 6 = .ok (.iadd, 1) := by decide +kernel
theorem dX6_refuse_7 : decode cX6_refuse 7 = .ok (.iload_n 2, 1) := by decide +kernel
theorem dX6_refuse_8 : decode cX6_refuse 8 = .ok (.iadd, 1) := by decide +kernel
theorem dX6_refuse_9 : decode cX6_refuse 9 = .ok (.putfield 22, 3) := by decide +kernel
theorem dX6_refuse_12 : decode cX6_refuse 12 = .ok (.iconst 0, 1) := by decide +kernel
theorem dX6_refuse_13 : decode cX6_refuse 13 = .ok (.ireturn, 1) := by decide +kernel
set_option maxHeartbeats 4000000 in
set_option maxRecDepth 100000 in
theorem t_X6_refuse (l : Launch) (dC : Nat → ClassId) (dI : Nat → Nat → Nat) (dA : Nat → ClassId) (L : List Nat) (h : hx_h) (sz : Nat) (x : Nat) (i1 : Int32) (i2 : Int32) (hT : hx_T T_tb L h) (gx : hx_g L h x 6)  : Met l yX6_refuse (Cond.code yX6_refuse cX6_refuse 3 (some .boolean) :: hx_all) ({ frames := 0, cells := 0, slots := 0, locals := 0 }) (va_Pc [.ref x, .int i1, .int i2] (hx_B T_tb (P_ty dA) (dC, dI) vwCl L h sz)) (va_Qi (fun (r : Int32) (u : List Nat × hx_h) => (r.toInt = 0) ∧ hx_T T_tb u.1 u.2 ∧ hx_S T_tb [(6, 3)] L h u.1 u.2) (hx_E T_tb (P_ty dA) (dC, dI) vwCl (hx_A L sz)) (hx_A L sz)) 0 0 (hx_A L sz) := by
  refine hx_met (lv := [(0, .ref x), (1, .int i1), (2, .int i2)]) (by decide +kernel) rfl (Nat.le_of_ble_eq_true rfl) rfl ?_
  intro p e s m below meth c hx hb hml hr hlk hts0 hown hin hsz hW ls hl
  have hts : ∀ w ∈ hx_all, w.before _ s = true := fun w hw => hts0 w (List.mem_cons_of_mem _ hw)
  have hown : s.vm.findClass "SmallCourt$Reader" = some m.cls := hown
  have hM : hx_S T_tb [(6, 3)] L h L h := hx_S.rf
  refine lv_aload_n hx hb dX6_refuse_0 rfl (lv_at hl 0 rfl) ?_
  refine lv_iconst (v := 1) hx hb dX6_refuse_1 (by decide) ?_
  refine lv_bipush (v := 8) hx hb dX6_refuse_2 (by decide) ?_
  refine lv_iload_n hx hb dX6_refuse_4 rfl (lv_at hl 1 rfl) ?_
  refine lv_imul hx hb dX6_refuse_5 ?_
  refine lv_topi (fun x_1 ex_1 => ?_)
  refine lv_iadd hx hb dX6_refuse_6 ?_
  have rg_2 := i32_r x_1
  refine lv_topi (fun x_3 ex_3 => ?_)
  refine lv_iload_n hx hb dX6_refuse_7 rfl (lv_at hl 2 rfl) ?_
  refine lv_iadd hx hb dX6_refuse_8 ?_
  have rg_4 := i32_r x_3
  have rg_5 := i32_r i2
  refine lv_topi (fun x_6 ex_6 => ?_)
  refine hx_puti hx hb hts hC_6 hown hW hT (hx_S.rf (M := [(6, 3)])) gx tt_6 3 (by decide) rfl kw_128 ⟨rfl, rfl, rfl⟩ rfl (x := x_6) (i32_r _) rfl rfl rfl (List.mem_singleton.mpr rfl) dX6_refuse_9 (fun H locs h_7 eh_7 hW hT hs => ?_)
  replace hM := hM.tr (hs.mono (by decide))
  replace gx := gx.S hs
  have f_8 : h_7.2.1 x 3 = x_6 := by rw [eh_7]; exact hx_pi_at _ _ _ _
  refine lv_iconst (v := 0) hx hb dX6_refuse_12 (by decide) ?_
  exact hx_retz hx hb hr rfl hlk hW ⟨(by decide), hT, hM⟩ dX6_refuse_13

theorem dX6_tellOnce_0 : decode cX6_tellOnce 0 = .ok (.iconst 1, 1) := by decide +kernel
theorem dX6_tellOnce_1 : decode cX6_tellOnce 1 = .ok (.iload_n 1, 1) := by decide +kernel
theorem dX6_tellOnce_2 : decode cX6_tellOnce 2 = .ok (.ishl, 1) := by decide +kernel
theorem dX6_tellOnce_3 : decode cX6_tellOnce 3 = .ok (.istore_n 3, 1) := by decide +kernel
theorem dX6_tellOnce_4 : decode cX6_tellOnce 4 = .ok (.aload_n 0, 1) := by decide +kernel
theorem dX6_tellOnce_5 : decode cX6_tellOnce 5 = .ok (.getfield 25, 3) := by decide +kernel
theorem dX6_tellOnce_8 : decode cX6_tellOnce 8 = .ok (.iload_n 3, 1) := by decide +kernel
theorem dX6_tellOnce_9 : decode cX6_tellOnce 9 = .ok (.iand, 1) := by decide +kernel
theorem dX6_tellOnce_10 : decode cX6_tellOnce 10 = .ok (.ifCond .eq 10, 3) := by decide +kernel
theorem dX6_tellOnce_13 : decode cX6_tellOnce 13 = .ok (.aload_n 0, 1) := by decide +kernel
theorem dX6_tellOnce_14 : decode cX6_tellOnce 14 = .ok (.iload_n 2, 1) := by decide +kernel
theorem dX6_tellOnce_15 : decode cX6_tellOnce 15 = .ok (.iconst 2, 1) := by decide +kernel
theorem dX6_tellOnce_16 : decode cX6_tellOnce 16 = .ok (.invokevirtual 45, 3) := by decide +kernel
theorem dX6_tellOnce_19 : decode cX6_tellOnce 19 = .ok (.ireturn, 1) := by decide +kernel
theorem dX6_tellOnce_20 : decode cX6_tellOnce 20 = .ok (.aload_n 0, 1) := by decide +kernel
theorem dX6_tellOnce_21 : decode cX6_tellOnce 21 = .ok (.dup, 1) := by decide +kernel
theorem dX6_tellOnce_22 : decode cX6_tellOnce 22 = .ok (.getfield 25, 3) := by decide +kernel
theorem dX6_tellOnce_25 : decode cX6_tellOnce 25 = .ok (.iload_n 3, 1) := by decide +kernel
theorem dX6_tellOnce_26 : decode cX6_tellOnce 26 = .ok (.ior, 1) := by decide +kernel
theorem dX6_tellOnce_27 : decode cX6_tellOnce 27 = .ok (.putfield 25, 3) := by decide +kernel
theorem dX6_tellOnce_30 : decode cX6_tellOnce 30 = .ok (.iconst 1, 1) := by decide +kernel
theorem dX6_tellOnce_31 : decode cX6_tellOnce 31 = .ok (.ireturn, 1) := by decide +kernel
set_option maxHeartbeats 4000000 in
set_option maxRecDepth 100000 in
theorem t_X6_tellOnce (l : Launch) (dC : Nat → ClassId) (dI : Nat → Nat → Nat) (dA : Nat → ClassId) (L : List Nat) (h : hx_h) (sz : Nat) (x : Nat) (i1 : Int32) (i2 : Int32) (hT : hx_T T_tb L h) (gx : hx_g L h x 6)  : Met l yX6_tellOnce (Cond.code yX6_tellOnce cX6_tellOnce 4 (some .boolean) :: hx_all) ({ frames := 1, cells := 0, slots := 0, locals := 22 }) (va_Pc [.ref x, .int i1, .int i2] (hx_B T_tb (P_ty dA) (dC, dI) vwCl L h sz)) (va_Qi (fun (r : Int32) (u : List Nat × hx_h) => (r.toInt = 0 ∨ r.toInt = 1) ∧ hx_T T_tb u.1 u.2 ∧ hx_S T_tb [(6, 3), (6, 4)] L h u.1 u.2) (hx_E T_tb (P_ty dA) (dC, dI) vwCl (hx_A L sz)) (hx_A L sz)) 0 0 (hx_A L sz) := by
  refine hx_met (lv := [(0, .ref x), (1, .int i1), (2, .int i2)]) (by decide +kernel) rfl (Nat.le_of_ble_eq_true rfl) rfl ?_
  intro p e s m below meth c hx hb hml hr hlk hts0 hown hin hsz hW ls hl
  have hts : ∀ w ∈ hx_all, w.before _ s = true := fun w hw => hts0 w (List.mem_cons_of_mem _ hw)
  have hown : s.vm.findClass "SmallCourt$Reader" = some m.cls := hown
  have hM : hx_S T_tb [(6, 3), (6, 4)] L h L h := hx_S.rf
  refine lv_iconst (v := 1) hx hb dX6_tellOnce_0 (by decide) ?_
  refine lv_iload_n hx hb dX6_tellOnce_1 rfl (lv_at hl 1 rfl) ?_
  refine lv_ishl hx hb dX6_tellOnce_2 ?_
  refine lv_topi (fun x_1 ex_1 => ?_)
  refine lv_istore_n (lv' := [(3, .int x_1), (0, .ref x), (1, .int i1), (2, .int i2)]) hx hb dX6_tellOnce_3 rfl hl (by decide) rfl (fun ls hl => ?_)
  refine lv_aload_n hx hb dX6_tellOnce_4 rfl (lv_at hl 1 rfl) ?_
  refine hx_geti hx hb hts hC_6 hown hW hT gx tt_6 4 (by decide) rfl kw_129 ⟨rfl, rfl, rfl⟩ dX6_tellOnce_5 (fun x_2 ex_2 lx_2 ux_2 => ?_)
  have fx_2 := ex_2.symm
  refine lv_iload_n hx hb dX6_tellOnce_8 rfl (lv_at hl 0 rfl) ?_
  refine lv_iand hx hb dX6_tellOnce_9 ?_
  refine lv_topi (fun x_3 ex_3 => ?_)
  refine hb_if_eq (zx := x_3.toInt) (tgt := 20) hx hb rfl dX6_tellOnce_10 (by decide) (fun c_4 => ?_) (fun c_4 => ?_)
  · skip
    refine lv_aload_n hx hb dX6_tellOnce_20 rfl (lv_at hl 1 rfl) ?_
    refine lv_dup hx hb dX6_tellOnce_21 rfl ?_
    refine hk_geti hx hb hts hC_6 hown hW gx tt_6 4 (by decide) rfl kw_129 ⟨rfl, rfl, rfl⟩ fx_2 dX6_tellOnce_22 ?_
    refine lv_iload_n hx hb dX6_tellOnce_25 rfl (lv_at hl 0 rfl) ?_
    refine lv_ior hx hb dX6_tellOnce_26 ?_
    refine lv_topi (fun x_5 ex_5 => ?_)
    refine hx_puti hx hb hts hC_6 hown hW hT (hx_S.rf (M := [(6, 4)])) gx tt_6 4 (by decide) rfl kw_129 ⟨rfl, rfl, rfl⟩ rfl (x := x_5) (i32_r _) rfl rfl rfl (List.mem_singleton.mpr rfl) dX6_tellOnce_27 (fun H locs h_6 eh_6 hW hT hs => ?_)
    replace hM := hM.tr (hs.mono (by decide))
    replace gx := gx.S hs
    have f_7 : h_6.2.1 x 4 = x_5 := by rw [eh_6]; exact hx_pi_at _ _ _ _
    refine lv_iconst (v := 1) hx hb dX6_tellOnce_30 (by decide) ?_
    exact hx_retz hx hb hr rfl hlk hW ⟨(by decide), hT, hM⟩ dX6_tellOnce_31
  · skip
    refine lv_aload_n hx hb dX6_tellOnce_13 rfl (lv_at hl 1 rfl) ?_
    refine lv_iload_n hx hb dX6_tellOnce_14 rfl (lv_at hl 3 rfl) ?_
    refine lv_iconst (v := 2) hx hb dX6_tellOnce_15 (by decide) ?_
    refine hx_goi (hx_runV (As := [.int i2, .int (2 : Int32)]) (rest := []) ⟨hx, hb, hml, hown, hts⟩ hW gx tt_6 (T := TX6) (N := 7) rfl (t_X6_refuse l dC dI dA L h s.heap.size x i2 (2 : Int32) hT gx) (cwV 2 hts (hx_gV kw_527 kw_524 kw_526 kw_6 kw_95) rfl rfl rfl (by decide +kernel) ⟨Nat.le_of_ble_eq_true rfl, Nat.le_of_ble_eq_true rfl⟩) rfl hl.1 rfl (Nat.le_of_ble_eq_true rfl) dX6_tellOnce_16 ⟨Nat.le_of_ble_eq_true rfl, Nat.le_of_ble_eq_true rfl⟩) hW (fun r_10 L_8 h_9 H locs p_11 hW => ?_)
    obtain ⟨hr_12, hT, hs⟩ := p_11
    replace hT : hx_T T_tb L_8 h_9 := hT
    replace hs : hx_S T_tb [(6, 3)] L h L_8 h_9 := hs
    replace fx_2 := (hs.o gx trivial rfl).1.trans fx_2
    replace hM := hM.tr (hs.mono (by decide))
    replace gx := gx.S hs
    exact hx_retz hx hb hr (hx_nar01 (by omega)) hlk hW ⟨(by omega), hT, hM⟩ dX6_tellOnce_19

def wLX6_isDigit_0 : List Nat := [27, 42, 180, 0, 15, 162, 0, 29, 42, 180, 0, 9, 27, 51, 16, 48, 161, 0, 18, 42, 180, 0, 9, 27, 51, 16, 57, 163, 0, 7, 4, 167, 0, 4, 3, 172]
theorem wX6_isDigit_0 : (cX6_isDigit.data.toList.map UInt8.toNat).drop 0 = wLX6_isDigit_0 ++ ([]) := by decide +kernel
theorem dX6_isDigit_0 : decode cX6_isDigit 0 = .ok (.iload_n 1, 1) := dq_27 (hz_wg wX6_isDigit_0 (j := 0) (n := 27) rfl)
theorem dX6_isDigit_1 : decode cX6_isDigit 1 = .ok (.aload_n 0, 1) := dq_42 (hz_wg wX6_isDigit_0 (j := 1) (n := 42) rfl)
theorem dX6_isDigit_2 : decode cX6_isDigit 2 = .ok (.getfield 15, 3) := dq_180 (hz_wg wX6_isDigit_0 (j := 2) (n := 180) rfl) (hz_wg wX6_isDigit_0 (j := 3) (n := 0) rfl) (hz_wg wX6_isDigit_0 (j := 4) (n := 15) rfl) rfl
theorem dX6_isDigit_5 : decode cX6_isDigit 5 = .ok (.if_icmp .ge 29, 3) := dq_162 (hz_wg wX6_isDigit_0 (j := 5) (n := 162) rfl) (hz_wg wX6_isDigit_0 (j := 6) (n := 0) rfl) (hz_wg wX6_isDigit_0 (j := 7) (n := 29) rfl) (by decide)
theorem dX6_isDigit_8 : decode cX6_isDigit 8 = .ok (.aload_n 0, 1) := dq_42 (hz_wg wX6_isDigit_0 (j := 8) (n := 42) rfl)
theorem dX6_isDigit_9 : decode cX6_isDigit 9 = .ok (.getfield 9, 3) := dq_180 (hz_wg wX6_isDigit_0 (j := 9) (n := 180) rfl) (hz_wg wX6_isDigit_0 (j := 10) (n := 0) rfl) (hz_wg wX6_isDigit_0 (j := 11) (n := 9) rfl) rfl
theorem dX6_isDigit_12 : decode cX6_isDigit 12 = .ok (.iload_n 1, 1) := dq_27 (hz_wg wX6_isDigit_0 (j := 12) (n := 27) rfl)
theorem dX6_isDigit_13 : decode cX6_isDigit 13 = .ok (.baload, 1) := dq_51 (hz_wg wX6_isDigit_0 (j := 13) (n := 51) rfl)
theorem dX6_isDigit_14 : decode cX6_isDigit 14 = .ok (.bipush 48, 2) := dq_16 (hz_wg wX6_isDigit_0 (j := 14) (n := 16) rfl) (hz_wg wX6_isDigit_0 (j := 15) (n := 48) rfl) (by decide)
theorem dX6_isDigit_16 : decode cX6_isDigit 16 = .ok (.if_icmp .lt 18, 3) := dq_161 (hz_wg wX6_isDigit_0 (j := 16) (n := 161) rfl) (hz_wg wX6_isDigit_0 (j := 17) (n := 0) rfl) (hz_wg wX6_isDigit_0 (j := 18) (n := 18) rfl) (by decide)
theorem dX6_isDigit_19 : decode cX6_isDigit 19 = .ok (.aload_n 0, 1) := dq_42 (hz_wg wX6_isDigit_0 (j := 19) (n := 42) rfl)
theorem dX6_isDigit_20 : decode cX6_isDigit 20 = .ok (.getfield 9, 3) := dq_180 (hz_wg wX6_isDigit_0 (j := 20) (n := 180) rfl) (hz_wg wX6_isDigit_0 (j := 21) (n := 0) rfl) (hz_wg wX6_isDigit_0 (j := 22) (n := 9) rfl) rfl
theorem dX6_isDigit_23 : decode cX6_isDigit 23 = .ok (.iload_n 1, 1) := dq_27 (hz_wg wX6_isDigit_0 (j := 23) (n := 27) rfl)
theorem dX6_isDigit_24 : decode cX6_isDigit 24 = .ok (.baload, 1) := dq_51 (hz_wg wX6_isDigit_0 (j := 24) (n := 51) rfl)
theorem dX6_isDigit_25 : decode cX6_isDigit 25 = .ok (.bipush 57, 2) := dq_16 (hz_wg wX6_isDigit_0 (j := 25) (n := 16) rfl) (hz_wg wX6_isDigit_0 (j := 26) (n := 57) rfl) (by decide)
theorem dX6_isDigit_27 : decode cX6_isDigit 27 = .ok (.if_icmp .gt 7, 3) := dq_163 (hz_wg wX6_isDigit_0 (j := 27) (n := 163) rfl) (hz_wg wX6_isDigit_0 (j := 28) (n := 0) rfl) (hz_wg wX6_isDigit_0 (j := 29) (n := 7) rfl) (by decide)
theorem dX6_isDigit_30 : decode cX6_isDigit 30 = .ok (.iconst 1, 1) := dq_4 (hz_wg wX6_isDigit_0 (j := 30) (n := 4) rfl)
theorem dX6_isDigit_31 : decode cX6_isDigit 31 = .ok (.goto 4, 3) := dq_167 (hz_wg wX6_isDigit_0 (j := 31) (n := 167) rfl) (hz_wg wX6_isDigit_0 (j := 32) (n := 0) rfl) (hz_wg wX6_isDigit_0 (j := 33) (n := 4) rfl) (by decide)
theorem dX6_isDigit_34 : decode cX6_isDigit 34 = .ok (.iconst 0, 1) := dq_3 (hz_wg wX6_isDigit_0 (j := 34) (n := 3) rfl)
theorem dX6_isDigit_35 : decode cX6_isDigit 35 = .ok (.ireturn, 1) := dq_172 (hz_wg wX6_isDigit_0 (j := 35) (n := 172) rfl)
set_option maxHeartbeats 4000000 in
set_option maxRecDepth 100000 in
theorem t_X6_isDigit (l : Launch) (dC : Nat → ClassId) (dI : Nat → Nat → Nat) (dA : Nat → ClassId) (L : List Nat) (h : hx_h) (sz : Nat) (x : Nat) (i1 : Int32) (hT : hx_T T_tb L h) (gx : hx_g L h x 6) (hi1 : 0 ≤ i1.toInt) (qt : Nat) (gqt : hx_g L h qt 42) (f_x_0 : h.2.2 x 0 = some qt) : Met l yX6_isDigit (Cond.code yX6_isDigit cX6_isDigit 2 (some .boolean) :: hx_all) ({ frames := 0, cells := 0, slots := 0, locals := 0 }) (va_Pc [.ref x, .int i1] (hx_B T_tb (P_ty dA) (dC, dI) vwCl L h sz)) (va_Qi (fun (r : Int32) (u : List Nat × hx_h) => ((r.toInt = 0 ∨ r.toInt = 1) ∧ (r.toInt = 1 → i1.toInt ≤ 399)) ∧ hx_T T_tb u.1 u.2 ∧ hx_S T_tb [] L h u.1 u.2) (hx_E T_tb (P_ty dA) (dC, dI) vwCl (hx_A L sz)) (hx_A L sz)) 0 0 (hx_A L sz) := by
  refine hx_met (lv := [(0, .ref x), (1, .int i1)]) (by decide +kernel) rfl (Nat.le_of_ble_eq_true rfl) rfl ?_
  intro p e s m below meth c hx hb hml hr hlk hts0 hown hin hsz hW ls hl
  have hts : ∀ w ∈ hx_all, w.before _ s = true := fun w hw => hts0 w (List.mem_cons_of_mem _ hw)
  have hown : s.vm.findClass "SmallCourt$Reader" = some m.cls := hown
  have hM : hx_S T_tb [] L h L h := hx_S.rf
  refine lv_iload_n hx hb dX6_isDigit_0 rfl (lv_at hl 1 rfl) ?_
  refine lv_aload_n hx hb dX6_isDigit_1 rfl (lv_at hl 0 rfl) ?_
  refine hx_geti hx hb hts hC_6 hown hW hT gx tt_6 1 (by decide) rfl kw_126 ⟨rfl, rfl, rfl⟩ dX6_isDigit_2 (fun x_1 ex_1 lx_1 ux_1 => ?_)
  have fx_1 := ex_1.symm
  refine hb_icmp_ge (zx := i1.toInt) (zy := x_1.toInt) (tgt := 34) hx hb rfl rfl dX6_isDigit_5 (by decide) (fun c_2 => ?_) (fun c_2 => ?_)
  · skip
    refine lv_iconst (v := 0) hx hb dX6_isDigit_34 (by decide) ?_
    exact hx_retz hx hb hr rfl hlk hW ⟨⟨by decide, fun z => absurd z (by decide)⟩, hT, hM⟩ dX6_isDigit_35
  · skip
    refine lv_aload_n hx hb dX6_isDigit_8 rfl (lv_at hl 0 rfl) ?_
    refine hk_getr hx hb hts hC_6 hown hW gx tt_6 0 (by decide) rfl kw_125 ⟨rfl, rfl, rfl⟩ f_x_0 dX6_isDigit_9 ?_
    refine lv_iload_n hx hb dX6_isDigit_12 rfl (lv_at hl 1 rfl) ?_
    refine hx_bald hx hb hW hT gqt tt_42 rfl ⟨by omega, by omega⟩ dX6_isDigit_13 (fun x_3 ex_3 lx_3 ux_3 => ?_)
    refine lv_bipush (v := 48) hx hb dX6_isDigit_14 (by decide) ?_
    refine hb_icmp_lt (zx := x_3.toInt) (zy := 48) (tgt := 34) hx hb rfl (by decide) dX6_isDigit_16 (by decide) (fun c_4 => ?_) (fun c_4 => ?_)
    · skip
      refine lv_iconst (v := 0) hx hb dX6_isDigit_34 (by decide) ?_
      exact hx_retz hx hb hr rfl hlk hW ⟨⟨by decide, fun z => absurd z (by decide)⟩, hT, hM⟩ dX6_isDigit_35
    · skip
      refine lv_aload_n hx hb dX6_isDigit_19 rfl (lv_at hl 0 rfl) ?_
      refine hk_getr hx hb hts hC_6 hown hW gx tt_6 0 (by decide) rfl kw_125 ⟨rfl, rfl, rfl⟩ f_x_0 dX6_isDigit_20 ?_
      refine lv_iload_n hx hb dX6_isDigit_23 rfl (lv_at hl 1 rfl) ?_
      refine hx_bald hx hb hW hT gqt tt_42 rfl ⟨by omega, by omega⟩ dX6_isDigit_24 (fun x_5 ex_5 lx_5 ux_5 => ?_)
      refine lv_bipush (v := 57) hx hb dX6_isDigit_25 (by decide) ?_
      refine hb_icmp_gt (zx := x_5.toInt) (zy := 57) (tgt := 34) hx hb rfl (by decide) dX6_isDigit_27 (by decide) (fun c_6 => ?_) (fun c_6 => ?_)
      · skip
        refine lv_iconst (v := 0) hx hb dX6_isDigit_34 (by decide) ?_
        exact hx_retz hx hb hr rfl hlk hW ⟨⟨by decide, fun z => absurd z (by decide)⟩, hT, hM⟩ dX6_isDigit_35
      · skip
        refine lv_iconst (v := 1) hx hb dX6_isDigit_30 (by decide) ?_
        refine lv_goto (tgt := 35) hx hb dX6_isDigit_31 (by decide) ?_
        exact hx_retz hx hb hr rfl hlk hW ⟨⟨by decide, fun _ => by first | omega | (exfalso; simp_all)⟩, hT, hM⟩ dX6_isDigit_35

def wLX6_wordEnd_0 : List Nat := [42, 180, 0, 19, 60, 27, 42, 180, 0, 15, 162, 0, 31, 42, 180, 0, 9, 27, 51, 16, 97, 161, 0, 20, 42, 180, 0, 9, 27, 51, 16, 122, 163, 0, 9, 132, 1, 1, 167, 255, 223, 27, 172]
theorem wX6_wordEnd_0 : (cX6_wordEnd.data.toList.map UInt8.toNat).drop 0 = wLX6_wordEnd_0 ++ ([]) := by decide +kernel
theorem dX6_wordEnd_0 : decode cX6_wordEnd 0 = .ok (.aload_n 0, 1) := dq_42 (hz_wg wX6_wordEnd_0 (j := 0) (n := 42) rfl)
theorem dX6_wordEnd_1 : decode cX6_wordEnd 1 = .ok (.getfield 19, 3) := dq_180 (hz_wg wX6_wordEnd_0 (j := 1) (n := 180) rfl) (hz_wg wX6_wordEnd_0 (j := 2) (n := 0) rfl) (hz_wg wX6_wordEnd_0 (j := 3) (n := 19) rfl) rfl
theorem dX6_wordEnd_4 : decode cX6_wordEnd 4 = .ok (.istore_n 1, 1) := dq_60 (hz_wg wX6_wordEnd_0 (j := 4) (n := 60) rfl)
theorem dX6_wordEnd_5 : decode cX6_wordEnd 5 = .ok (.iload_n 1, 1) := dq_27 (hz_wg wX6_wordEnd_0 (j := 5) (n := 27) rfl)
theorem dX6_wordEnd_6 : decode cX6_wordEnd 6 = .ok (.aload_n 0, 1) := dq_42 (hz_wg wX6_wordEnd_0 (j := 6) (n := 42) rfl)
theorem dX6_wordEnd_7 : decode cX6_wordEnd 7 = .ok (.getfield 15, 3) := dq_180 (hz_wg wX6_wordEnd_0 (j := 7) (n := 180) rfl) (hz_wg wX6_wordEnd_0 (j := 8) (n := 0) rfl) (hz_wg wX6_wordEnd_0 (j := 9) (n := 15) rfl) rfl
theorem dX6_wordEnd_10 : decode cX6_wordEnd 10 = .ok (.if_icmp .ge 31, 3) := dq_162 (hz_wg wX6_wordEnd_0 (j := 10) (n := 162) rfl) (hz_wg wX6_wordEnd_0 (j := 11) (n := 0) rfl) (hz_wg wX6_wordEnd_0 (j := 12) (n := 31) rfl) (by decide)
theorem dX6_wordEnd_13 : decode cX6_wordEnd 13 = .ok (.aload_n 0, 1) := dq_42 (hz_wg wX6_wordEnd_0 (j := 13) (n := 42) rfl)
theorem dX6_wordEnd_14 : decode cX6_wordEnd 14 = .ok (.getfield 9, 3) := dq_180 (hz_wg wX6_wordEnd_0 (j := 14) (n := 180) rfl) (hz_wg wX6_wordEnd_0 (j := 15) (n := 0) rfl) (hz_wg wX6_wordEnd_0 (j := 16) (n := 9) rfl) rfl
theorem dX6_wordEnd_17 : decode cX6_wordEnd 17 = .ok (.iload_n 1, 1) := dq_27 (hz_wg wX6_wordEnd_0 (j := 17) (n := 27) rfl)
theorem dX6_wordEnd_18 : decode cX6_wordEnd 18 = .ok (.baload, 1) := dq_51 (hz_wg wX6_wordEnd_0 (j := 18) (n := 51) rfl)
theorem dX6_wordEnd_19 : decode cX6_wordEnd 19 = .ok (.bipush 97, 2) := dq_16 (hz_wg wX6_wordEnd_0 (j := 19) (n := 16) rfl) (hz_wg wX6_wordEnd_0 (j := 20) (n := 97) rfl) (by decide)
theorem dX6_wordEnd_21 : decode cX6_wordEnd 21 = .ok (.if_icmp .lt 20, 3) := dq_161 (hz_wg wX6_wordEnd_0 (j := 21) (n := 161) rfl) (hz_wg wX6_wordEnd_0 (j := 22) (n := 0) rfl) (hz_wg wX6_wordEnd_0 (j := 23) (n := 20) rfl) (by decide)
theorem dX6_wordEnd_24 : decode cX6_wordEnd 24 = .ok (.aload_n 0, 1) := dq_42 (hz_wg wX6_wordEnd_0 (j := 24) (n := 42) rfl)
theorem dX6_wordEnd_25 : decode cX6_wordEnd 25 = .ok (.getfield 9, 3) := dq_180 (hz_wg wX6_wordEnd_0 (j := 25) (n := 180) rfl) (hz_wg wX6_wordEnd_0 (j := 26) (n := 0) rfl) (hz_wg wX6_wordEnd_0 (j := 27) (n := 9) rfl) rfl
theorem dX6_wordEnd_28 : decode cX6_wordEnd 28 = .ok (.iload_n 1, 1) := dq_27 (hz_wg wX6_wordEnd_0 (j := 28) (n := 27) rfl)
theorem dX6_wordEnd_29 : decode cX6_wordEnd 29 = .ok (.baload, 1) := dq_51 (hz_wg wX6_wordEnd_0 (j := 29) (n := 51) rfl)
theorem dX6_wordEnd_30 : decode cX6_wordEnd 30 = .ok (.bipush 122, 2) := dq_16 (hz_wg wX6_wordEnd_0 (j := 30) (n := 16) rfl) (hz_wg wX6_wordEnd_0 (j := 31) (n := 122) rfl) (by decide)
theorem dX6_wordEnd_32 : decode cX6_wordEnd 32 = .ok (.if_icmp .gt 9, 3) := dq_163 (hz_wg wX6_wordEnd_0 (j := 32) (n := 163) rfl) (hz_wg wX6_wordEnd_0 (j := 33) (n := 0) rfl) (hz_wg wX6_wordEnd_0 (j := 34) (n := 9) rfl) (by decide)
theorem dX6_wordEnd_35 : decode cX6_wordEnd 35 = .ok (.iinc 1 1, 3) := dq_132 (hz_wg wX6_wordEnd_0 (j := 35) (n := 132) rfl) (hz_wg wX6_wordEnd_0 (j := 36) (n := 1) rfl) (hz_wg wX6_wordEnd_0 (j := 37) (n := 1) rfl) (by decide)
theorem dX6_wordEnd_38 : decode cX6_wordEnd 38 = .ok (.goto (-33), 3) := dq_167 (hz_wg wX6_wordEnd_0 (j := 38) (n := 167) rfl) (hz_wg wX6_wordEnd_0 (j := 39) (n := 255) rfl) (hz_wg wX6_wordEnd_0 (j := 40) (n := 223) rfl) (by decide)
theorem dX6_wordEnd_41 : decode cX6_wordEnd 41 = .ok (.iload_n 1, 1) := dq_27 (hz_wg wX6_wordEnd_0 (j := 41) (n := 27) rfl)
theorem dX6_wordEnd_42 : decode cX6_wordEnd 42 = .ok (.ireturn, 1) := dq_172 (hz_wg wX6_wordEnd_0 (j := 42) (n := 172) rfl)