theorem dX10_in_0 : decode cX10_in 0 = .ok (.iload_n 0, 1) := by decide +kernel
theorem dX10_in_1 : decode cX10_in 1 = .ok (.iload_n 1, 1) := by decide +kernel
theorem dX10_in_2 : decode cX10_in 2 = .ok (.if_icmp .lt 12, 3) := by decide +kernel
theorem dX10_in_5 : decode cX10_in 5 = .ok (.iload_n 0, 1) := by decide +kernel
theorem dX10_in_6 : decode cX10_in 6 = .ok (.iload_n 2, 1) := by decide +kernel
theorem dX10_in_7 : decode cX10_in 7 = .ok (.if_icmp .gt 7, 3) := by decide +kernel
theorem dX10_in_10 : decode cX10_in 10 = .ok (.iconst 1, 1) := by decide +kernel
theorem dX10_in_11 : decode cX10_in 11 = .ok (.goto 4, 3) := by decide +kernel
theorem dX10_in_14 : decode cX10_in 14 = .ok (.iconst 0, 1) := by decide +kernel
theorem dX10_in_15 : decode cX10_in 15 = .ok (.ireturn, 1) := by decide +kernel
set_option maxHeartbeats 4000000 in
set_option maxRecDepth 100000 in
theorem t_X10_in (l : Launch) (dC : Nat → ClassId) (dI : Nat → Nat → Nat) (dA : Nat → ClassId) (L : List Nat) (h : hx_h) (sz : Nat) (i1 : Int32) (i2 : Int32) (i3 : Int32) (hT : hx_T T_tb L h)   : Met l yX10_in (Cond.code yX10_in cX10_in 3 (some .boolean) :: hx_all) ({ frames := 0, cells := 0, slots := 0, locals := 0 }) (va_Pc [.int i1, .int i2, .int i3] (hx_B T_tb (P_ty dA) (dC, dI) vwCl L h sz)) (va_Qi (fun (r : Int32) (u : List Nat × hx_h) => ((r.toInt = 0 ∧ (i1.toInt < i2.toInt ∨ i3.toInt < i1.toInt)) ∨ (r.toInt = 1 ∧ i2.toInt ≤ i1.toInt ∧ i1.toInt ≤ i3.toInt)) ∧ hx_T T_tb u.1 u.2 ∧ hx_S T_tb [] L h u.1 u.2) (hx_E T_tb (P_ty dA) (dC, dI) vwCl (hx_A L sz)) (hx_A L sz)) 0 0 (hx_A L sz) := by
  refine hx_met (lv := [(0, .int i1), (1, .int i2), (2, .int i3)]) (by decide +kernel) rfl (Nat.le_of_ble_eq_true rfl) rfl ?_
  intro p e s m below meth c hx hb hml hr hlk hts0 hown hin hsz hW ls hl
  have hts : ∀ w ∈ hx_all, w.before _ s = true := fun w hw => hts0 w (List.mem_cons_of_mem _ hw)
  have hown : s.vm.findClass "SmallCourtModel" = some m.cls := hown
  have hM : hx_S T_tb [] L h L h := hx_S.rf
  refine lv_iload_n hx hb dX10_in_0 rfl (lv_at hl 0 rfl) ?_
  refine lv_iload_n hx hb dX10_in_1 rfl (lv_at hl 1 rfl) ?_
  refine hb_icmp_lt (zx := i1.toInt) (zy := i2.toInt) (tgt := 14) hx hb rfl rfl dX10_in_2 (by decide) (fun c_1 => ?_) (fun c_1 => ?_)
  · skip
    refine lv_iconst (v := 0) hx hb dX10_in_14 (by decide) ?_
    exact hx_retz hx hb hr rfl hlk hW ⟨(by have zr : (0 : Int32).toInt = 0 := (by decide); (first | omega | (refine ⟨?_, ?_⟩ <;> omega))), hT, hM⟩ dX10_in_15
  · skip
    refine lv_iload_n hx hb dX10_in_5 rfl (lv_at hl 0 rfl) ?_
    refine lv_iload_n hx hb dX10_in_6 rfl (lv_at hl 2 rfl) ?_
    refine hb_icmp_gt (zx := i1.toInt) (zy := i3.toInt) (tgt := 14) hx hb rfl rfl dX10_in_7 (by decide) (fun c_2 => ?_) (fun c_2 => ?_)
    · skip
      refine lv_iconst (v := 0) hx hb dX10_in_14 (by decide) ?_
      exact hx_retz hx hb hr rfl hlk hW ⟨(by have zr : (0 : Int32).toInt = 0 := (by decide); (first | omega | (refine ⟨?_, ?_⟩ <;> omega))), hT, hM⟩ dX10_in_15
    · skip
      refine lv_iconst (v := 1) hx hb dX10_in_10 (by decide) ?_
      refine lv_goto (tgt := 15) hx hb dX10_in_11 (by decide) ?_
      exact hx_retz hx hb hr rfl hlk hW ⟨(by have zr : (1 : Int32).toInt = 1 := (by decide); (first | omega | (refine ⟨?_, ?_⟩ <;> omega))), hT, hM⟩ dX10_in_15

theorem dX10_isDay_0 : decode cX10_isDay 0 = .ok (.iload_n 0, 1) := by decide +kernel
theorem dX10_isDay_1 : decode cX10_isDay 1 = .ok (.iconst 0, 1) := by decide +kernel
theorem dX10_isDay_2 : decode cX10_isDay 2 = .ok (.sipush 7999, 3) := by decide +kernel
theorem dX10_isDay_5 : decode cX10_isDay 5 = .ok (.invokestatic 228, 3) := by decide +kernel
theorem dX10_isDay_8 : decode cX10_isDay 8 = .ok (.ireturn, 1) := by decide +kernel
set_option maxHeartbeats 4000000 in
set_option maxRecDepth 100000 in
theorem t_X10_isDay (l : Launch) (dC : Nat → ClassId) (dI : Nat → Nat → Nat) (dA : Nat → ClassId) (L : List Nat) (h : hx_h) (sz : Nat) (i1 : Int32) (hT : hx_T T_tb L h)   : Met l yX10_isDay (Cond.code yX10_isDay cX10_isDay 1 (some .boolean) :: hx_all) ({ frames := 1, cells := 0, slots := 0, locals := 22 }) (va_Pc [.int i1] (hx_B T_tb (P_ty dA) (dC, dI) vwCl L h sz)) (va_Qi (fun (r : Int32) (u : List Nat × hx_h) => ((r.toInt = 0 ∧ (i1.toInt < 0 ∨ 7999 < i1.toInt)) ∨ (r.toInt = 1 ∧ 0 ≤ i1.toInt ∧ i1.toInt ≤ 7999)) ∧ hx_T T_tb u.1 u.2 ∧ hx_S T_tb [] L h u.1 u.2) (hx_E T_tb (P_ty dA) (dC, dI) vwCl (hx_A L sz)) (hx_A L sz)) 0 0 (hx_A L sz) := by
  refine hx_met (lv := [(0, .int i1)]) (by decide +kernel) rfl (Nat.le_of_ble_eq_true rfl) rfl ?_
  intro p e s m below meth c hx hb hml hr hlk hts0 hown hin hsz hW ls hl
  have hts : ∀ w ∈ hx_all, w.before _ s = true := fun w hw => hts0 w (List.mem_cons_of_mem _ hw)
  have hown : s.vm.findClass "SmallCourtModel" = some m.cls := hown
  have hM : hx_S T_tb [] L h L h := hx_S.rf
  refine lv_iload_n hx hb dX10_isDay_0 rfl (lv_at hl 0 rfl) ?_
  refine lv_iconst (v := 0) hx hb dX10_isDay_1 (by decide) ?_
  refine lv_sipush (v := 7999) hx hb dX10_isDay_2 (by decide) ?_
  have zc_7999 : (7999 : Int32).toInt = 7999 := by decide
  have zc_0 : (0 : Int32).toInt = 0 := by decide
  refine hx_goi (hx_runS (As := [.int i1, .int (0 : Int32), .int (7999 : Int32)]) (rest := []) ⟨hx, hb, hml, hown, hts⟩ hW (t_X10_in l dC dI dA L h s.heap.size i1 (0 : Int32) (7999 : Int32) hT) (va_cwS 3 hts (hx_gS kw_1445 kw_1443 kw_1444 kw_103) rfl rfl rfl (by decide +kernel) ⟨Nat.le_of_ble_eq_true rfl, Nat.le_of_ble_eq_true rfl⟩) rfl hl.1 rfl (Nat.le_of_ble_eq_true rfl) dX10_isDay_5 ⟨Nat.le_of_ble_eq_true rfl, Nat.le_of_ble_eq_true rfl⟩) hW (fun r_3 L_1 h_2 H locs p_4 hW => ?_)
  obtain ⟨hr_5, hT, hs⟩ := p_4
  replace hT : hx_T T_tb L_1 h_2 := hT
  replace hs : hx_S T_tb [] L h L_1 h_2 := hs
  replace hM := hM.tr (hs.mono (by decide))
  exact hx_retz hx hb hr (hx_nar01 (by omega)) hlk hW ⟨(by first | omega | (refine ⟨?_, ?_⟩ <;> omega)), hT, hM⟩ dX10_isDay_8

theorem dX10_clock_0 : decode cX10_clock 0 = .ok (.iload_n 1, 1) := by decide +kernel
theorem dX10_clock_1 : decode cX10_clock 1 = .ok (.aload_n 0, 1) := by decide +kernel
theorem dX10_clock_2 : decode cX10_clock 2 = .ok (.getfield 232, 3) := by decide +kernel
theorem dX10_clock_5 : decode cX10_clock 5 = .ok (.sipush 7999, 3) := by decide +kernel
theorem dX10_clock_8 : decode cX10_clock 8 = .ok (.invokestatic 228, 3) := by decide +kernel
theorem dX10_clock_11 : decode cX10_clock 11 = .ok (.ifCond .ne 5, 3) := by decide +kernel
theorem dX10_clock_14 : decode cX10_clock 14 = .ok (.iconst 0, 1) := by decide +kernel
theorem dX10_clock_15 : decode cX10_clock 15 = .ok (.ireturn, 1) := by decide +kernel
theorem dX10_clock_16 : decode cX10_clock 16 = .ok (.aload_n 0, 1) := by decide +kernel
theorem dX10_clock_17 : decode cX10_clock 17 = .ok (.iload_n 1, 1) := by decide +kernel
theorem dX10_clock_18 : decode cX10_clock 18 = .ok (.putfield 232, 3) := by decide +kernel
theorem dX10_clock_21 : decode cX10_clock 21 = .ok (.iconst 1, 1) := by decide +kernel
theorem dX10_clock_22 : decode cX10_clock 22 = .ok (.ireturn, 1) := by decide +kernel
set_option maxHeartbeats 4000000 in
set_option maxRecDepth 100000 in
theorem t_X10_clock (l : Launch) (dC : Nat → ClassId) (dI : Nat → Nat → Nat) (dA : Nat → ClassId) (L : List Nat) (h : hx_h) (sz : Nat) (x : Nat) (i1 : Int32) (hT : hx_T T_tb L h) (gx : hx_g L h x 10) (now0 : Int32) (f_x_0 : h.2.1 x 0 = now0) : Met l yX10_clock (Cond.code yX10_clock cX10_clock 2 (some .boolean) :: hx_all) ({ frames := 1, cells := 0, slots := 0, locals := 22 }) (va_Pc [.ref x, .int i1] (hx_B T_tb (P_ty dA) (dC, dI) vwCl L h sz)) (va_Qi (fun (r : Int32) (u : List Nat × hx_h) => (∃ (now1 : Int32), u.2.2.1 x 0 = now1 ∧ ((r.toInt = 0 ∨ r.toInt = 1) ∧ (r.toInt = 0 → (i1.toInt < now0.toInt ∨ 7999 < i1.toInt) ∧ now1 = now0) ∧ (r.toInt = 1 → now0.toInt ≤ i1.toInt ∧ i1.toInt ≤ 7999 ∧ now1 = i1))) ∧ hx_T T_tb u.1 u.2 ∧ hx_S T_tb [(10, 0)] L h u.1 u.2) (hx_E T_tb (P_ty dA) (dC, dI) vwCl (hx_A L sz)) (hx_A L sz)) 0 0 (hx_A L sz) := by
  refine hx_met (lv := [(0, .ref x), (1, .int i1)]) (by decide +kernel) rfl (Nat.le_of_ble_eq_true rfl) rfl ?_
  intro p e s m below meth c hx hb hml hr hlk hts0 hown hin hsz hW ls hl
  have hts : ∀ w ∈ hx_all, w.before _ s = true := fun w hw => hts0 w (List.mem_cons_of_mem _ hw)
  have hown : s.vm.findClass "SmallCourtModel" = some m.cls := hown
  have hM : hx_S T_tb [(10, 0)] L h L h := hx_S.rf
  have b_now0 := hT.gi gx tt_10 (k := 0) rfl
  rw [f_x_0] at b_now0
  have b_now0 : 0 ≤ now0.toInt ∧ now0.toInt ≤ 7999 := b_now0
  refine lv_iload_n hx hb dX10_clock_0 rfl (lv_at hl 1 rfl) ?_
  refine lv_aload_n hx hb dX10_clock_1 rfl (lv_at hl 0 rfl) ?_
  refine hk_geti hx hb hts hC_10 hown hW (gx.S hM) tt_10 0 (by decide) rfl kw_1143 ⟨rfl, rfl, rfl⟩ f_x_0 dX10_clock_2 ?_
  refine lv_sipush (v := 7999) hx hb dX10_clock_5 (by decide) ?_
  have zc_7999 : (7999 : Int32).toInt = 7999 := by decide
  refine hx_goi (hx_runS (As := [.int i1, .int now0, .int (7999 : Int32)]) (rest := []) ⟨hx, hb, hml, hown, hts⟩ hW (t_X10_in l dC dI dA L h s.heap.size i1 now0 (7999 : Int32) hT) (va_cwS 3 hts (hx_gS kw_1445 kw_1443 kw_1444 kw_103) rfl rfl rfl (by decide +kernel) ⟨Nat.le_of_ble_eq_true rfl, Nat.le_of_ble_eq_true rfl⟩) rfl hl.1 rfl (Nat.le_of_ble_eq_true rfl) dX10_clock_8 ⟨Nat.le_of_ble_eq_true rfl, Nat.le_of_ble_eq_true rfl⟩) hW (fun r_3 L_1 h_2 H locs p_4 hW => ?_)
  obtain ⟨hr_5, hT, hs⟩ := p_4
  replace hT : hx_T T_tb L_1 h_2 := hT
  replace hs : hx_S T_tb [] L h L_1 h_2 := hs
  replace f_x_0 := (hs.o (gx.S hM) trivial rfl).1.trans f_x_0
  replace hM := hM.tr (hs.mono (by decide))
  refine hb_if_ne (zx := r_3.toInt) (tgt := 16) hx hb rfl dX10_clock_11 (by decide) (fun c_6 => ?_) (fun c_6 => ?_)
  · skip
    replace hr_5 := hr_5.resolve_left (fun z9 => c_6 z9.1)
    replace c_6 := hr_5.1
    replace hr_5 := hr_5.2
    refine lv_aload_n hx hb dX10_clock_16 rfl (lv_at hl 0 rfl) ?_
    refine lv_iload_n hx hb dX10_clock_17 rfl (lv_at hl 1 rfl) ?_
    refine hx_puti hx hb hts hC_10 hown hW hT (hx_S.rf (M := [(10, 0)])) (gx.S hM) tt_10 0 (by decide) rfl kw_1143 ⟨rfl, rfl, rfl⟩ rfl (x := i1) ⟨by omega, by omega⟩ rfl rfl rfl (List.mem_singleton.mpr rfl) dX10_clock_18 (fun H locs h_7 eh_7 hW hT hs => ?_)
    replace hM := hM.tr (hs.mono (by decide))
    have f_8 : h_7.2.1 x 0 = i1 := by rw [eh_7]; exact hx_pi_at _ _ _ _
    refine lv_iconst (v := 1) hx hb dX10_clock_21 (by decide) ?_
    exact hx_retz hx hb hr rfl hlk hW ⟨⟨i1, f_8, (by have zr : (1 : Int32).toInt = 1 := (by decide); exact ⟨by omega, fun z => absurd z (by decide), fun _ => ⟨by omega, by omega, rfl⟩⟩)⟩, hT, hM⟩ dX10_clock_22
  · skip
    replace hr_5 := hr_5.resolve_right (fun z9 => absurd (c_6.symm.trans z9.1) (by decide))
    replace hr_5 := hr_5.2
    refine lv_iconst (v := 0) hx hb dX10_clock_14 (by decide) ?_
    exact hx_retz hx hb hr rfl hlk hW ⟨⟨now0, f_x_0, (by have zr : (0 : Int32).toInt = 0 := (by decide); exact ⟨by omega, fun _ => ⟨by omega, rfl⟩, fun z => absurd z (by decide)⟩)⟩, hT, hM⟩ dX10_clock_15

def wNX10_without : Nat := 11975177493887006664686487111746803698502355583449825827999986074185662064118989481792150140725418970988518271709643077037549621518396148563750418881118792365934911441445970127118749730384410
theorem wX10_without_c : hz_cd cX10_without wNX10_without 79 := ⟨by decide +kernel, by decide +kernel⟩
theorem dX10_without_0 : decode cX10_without 0 = .ok (.iload_n 0, 1) := dw_26 wX10_without_c rfl
theorem dX10_without_1 : decode cX10_without 1 = .ok (.tableswitch 76 0 8 #[51, 55, 58, 61, 64, 66, 68, 70, 73], 51) := by decide +kernel
theorem dX10_without_52 : decode cX10_without 52 = .ok (.sipush 480, 3) := dw_17 wX10_without_c 1 224 rfl rfl rfl
theorem dX10_without_55 : decode cX10_without 55 = .ok (.ireturn, 1) := dw_172 wX10_without_c rfl
theorem dX10_without_56 : decode cX10_without 56 = .ok (.bipush 30, 2) := dw_16 wX10_without_c 30 rfl rfl rfl
theorem dX10_without_58 : decode cX10_without 58 = .ok (.ireturn, 1) := dw_172 wX10_without_c rfl
theorem dX10_without_59 : decode cX10_without 59 = .ok (.bipush 12, 2) := dw_16 wX10_without_c 12 rfl rfl rfl
theorem dX10_without_61 : decode cX10_without 61 = .ok (.ireturn, 1) := dw_172 wX10_without_c rfl
theorem dX10_without_62 : decode cX10_without 62 = .ok (.bipush 60, 2) := dw_16 wX10_without_c 60 rfl rfl rfl
theorem dX10_without_64 : decode cX10_without 64 = .ok (.ireturn, 1) := dw_172 wX10_without_c rfl
theorem dX10_without_65 : decode cX10_without 65 = .ok (.iconst 2, 1) := dw_5 wX10_without_c rfl
theorem dX10_without_66 : decode cX10_without 66 = .ok (.ireturn, 1) := dw_172 wX10_without_c rfl
theorem dX10_without_67 : decode cX10_without 67 = .ok (.iconst 4, 1) := dw_7 wX10_without_c rfl
theorem dX10_without_68 : decode cX10_without 68 = .ok (.ireturn, 1) := dw_172 wX10_without_c rfl
theorem dX10_without_69 : decode cX10_without 69 = .ok (.iconst 1, 1) := dw_4 wX10_without_c rfl
theorem dX10_without_70 : decode cX10_without 70 = .ok (.ireturn, 1) := dw_172 wX10_without_c rfl
theorem dX10_without_71 : decode cX10_without 71 = .ok (.bipush 40, 2) := dw_16 wX10_without_c 40 rfl rfl rfl
theorem dX10_without_73 : decode cX10_without 73 = .ok (.ireturn, 1) := dw_172 wX10_without_c rfl
theorem dX10_without_74 : decode cX10_without 74 = .ok (.bipush 21, 2) := dw_16 wX10_without_c 21 rfl rfl rfl
theorem dX10_without_76 : decode cX10_without 76 = .ok (.ireturn, 1) := dw_172 wX10_without_c rfl
theorem dX10_without_77 : decode cX10_without 77 = .ok (.iconst 0, 1) := dw_3 wX10_without_c rfl
theorem dX10_without_78 : decode cX10_without 78 = .ok (.ireturn, 1) := dw_172 wX10_without_c rfl
theorem dX10_leastOf_0 : decode cX10_leastOf 0 = .ok (.iload_n 0, 1) := by decide +kernel
theorem dX10_leastOf_1 : decode cX10_leastOf 1 = .ok (.iconst 1, 1) := by decide +kernel
theorem dX10_leastOf_2 : decode cX10_leastOf 2 = .ok (.if_icmp .eq 14, 3) := by decide +kernel
theorem dX10_leastOf_5 : decode cX10_leastOf 5 = .ok (.iload_n 0, 1) := by decide +kernel
theorem dX10_leastOf_6 : decode cX10_leastOf 6 = .ok (.iconst 3, 1) := by decide +kernel
theorem dX10_leastOf_7 : decode cX10_leastOf 7 = .ok (.if_icmp .eq 9, 3) := by decide +kernel
theorem dX10_leastOf_10 : decode cX10_leastOf 10 = .ok (.iload_n 0, 1) := by decide +kernel
theorem dX10_leastOf_11 : decode cX10_leastOf 11 = .ok (.bipush 8, 2) := by decide +kernel
theorem dX10_leastOf_13 : decode cX10_leastOf 13 = .ok (.if_icmp .lt 7, 3) := by decide +kernel
theorem dX10_leastOf_16 : decode cX10_leastOf 16 = .ok (.iconst 0, 1) := by decide +kernel
theorem dX10_leastOf_17 : decode cX10_leastOf 17 = .ok (.goto 4, 3) := by decide +kernel
theorem dX10_leastOf_20 : decode cX10_leastOf 20 = .ok (.iconst 1, 1) := by decide +kernel
theorem dX10_leastOf_21 : decode cX10_leastOf 21 = .ok (.ireturn, 1) := by decide +kernel
def wNX10_mostOf : Nat := 56843129509498388588490944301354315642376542482062728459871293352101656433245937830303499952866001854477409521938382760386673058331615191678508349893084936379460769215290360598174182960650087462610555589825178138
theorem wX10_mostOf_c : hz_cd cX10_mostOf wNX10_mostOf 88 := ⟨by decide +kernel, by decide +kernel⟩
theorem dX10_mostOf_0 : decode cX10_mostOf 0 = .ok (.iload_n 0, 1) := dw_26 wX10_mostOf_c rfl
theorem dX10_mostOf_1 : decode cX10_mostOf 1 = .ok (.tableswitch 83 0 8 #[51, 55, 59, 63, 67, 70, 73, 76, 80], 51) := by decide +kernel
theorem dX10_mostOf_52 : decode cX10_mostOf 52 = .ok (.sipush 9999, 3) := dw_17 wX10_mostOf_c 39 15 rfl rfl rfl
theorem dX10_mostOf_55 : decode cX10_mostOf 55 = .ok (.ireturn, 1) := dw_172 wX10_mostOf_c rfl
theorem dX10_mostOf_56 : decode cX10_mostOf 56 = .ok (.sipush 365, 3) := dw_17 wX10_mostOf_c 1 109 rfl rfl rfl
theorem dX10_mostOf_59 : decode cX10_mostOf 59 = .ok (.ireturn, 1) := dw_172 wX10_mostOf_c rfl
theorem dX10_mostOf_60 : decode cX10_mostOf 60 = .ok (.sipush 999, 3) := dw_17 wX10_mostOf_c 3 231 rfl rfl rfl
theorem dX10_mostOf_63 : decode cX10_mostOf 63 = .ok (.ireturn, 1) := dw_172 wX10_mostOf_c rfl
theorem dX10_mostOf_64 : decode cX10_mostOf 64 = .ok (.sipush 999, 3) := dw_17 wX10_mostOf_c 3 231 rfl rfl rfl
theorem dX10_mostOf_67 : decode cX10_mostOf 67 = .ok (.ireturn, 1) := dw_172 wX10_mostOf_c rfl
theorem dX10_mostOf_68 : decode cX10_mostOf 68 = .ok (.bipush 20, 2) := dw_16 wX10_mostOf_c 20 rfl rfl rfl
theorem dX10_mostOf_70 : decode cX10_mostOf 70 = .ok (.ireturn, 1) := dw_172 wX10_mostOf_c rfl
theorem dX10_mostOf_71 : decode cX10_mostOf 71 = .ok (.bipush 20, 2) := dw_16 wX10_mostOf_c 20 rfl rfl rfl
theorem dX10_mostOf_73 : decode cX10_mostOf 73 = .ok (.ireturn, 1) := dw_172 wX10_mostOf_c rfl
theorem dX10_mostOf_74 : decode cX10_mostOf 74 = .ok (.bipush 30, 2) := dw_16 wX10_mostOf_c 30 rfl rfl rfl
theorem dX10_mostOf_76 : decode cX10_mostOf 76 = .ok (.ireturn, 1) := dw_172 wX10_mostOf_c rfl
theorem dX10_mostOf_77 : decode cX10_mostOf 77 = .ok (.sipush 400, 3) := dw_17 wX10_mostOf_c 1 144 rfl rfl rfl
theorem dX10_mostOf_80 : decode cX10_mostOf 80 = .ok (.ireturn, 1) := dw_172 wX10_mostOf_c rfl
theorem dX10_mostOf_81 : decode cX10_mostOf 81 = .ok (.bipush 40, 2) := dw_16 wX10_mostOf_c 40 rfl rfl rfl
theorem dX10_mostOf_83 : decode cX10_mostOf 83 = .ok (.ireturn, 1) := dw_172 wX10_mostOf_c rfl
theorem dX10_mostOf_84 : decode cX10_mostOf 84 = .ok (.sipush 999, 3) := dw_17 wX10_mostOf_c 3 231 rfl rfl rfl
theorem dX10_mostOf_87 : decode cX10_mostOf 87 = .ok (.ireturn, 1) := dw_172 wX10_mostOf_c rfl
def wNX10_four : Nat := 88467196073578092586784551856132364832250842158344340745687850555282075833763651909392400
theorem wX10_four_c : hz_cd cX10_four wNX10_four 37 := ⟨by decide +kernel, by decide +kernel⟩
theorem dX10_four_0 : decode cX10_four 0 = .ok (.bipush 24, 2) := dw_16 wX10_four_c 24 rfl rfl rfl
theorem dX10_four_2 : decode cX10_four 2 = .ok (.istore_n 2, 1) := dw_61 wX10_four_c rfl
theorem dX10_four_3 : decode cX10_four 3 = .ok (.iload_n 2, 1) := dw_28 wX10_four_c rfl
theorem dX10_four_4 : decode cX10_four 4 = .ok (.ifCond .lt 32, 3) := dw_155 wX10_four_c 0 32 rfl rfl rfl
theorem dX10_four_7 : decode cX10_four 7 = .ok (.aload_n 0, 1) := dw_42 wX10_four_c rfl
theorem dX10_four_8 : decode cX10_four 8 = .ok (.getfield 22, 3) := dw_180 wX10_four_c 0 22 rfl rfl
theorem dX10_four_11 : decode cX10_four 11 = .ok (.aload_n 0, 1) := dw_42 wX10_four_c rfl
theorem dX10_four_12 : decode cX10_four 12 = .ok (.getfield 236, 3) := dw_180 wX10_four_c 0 236 rfl rfl
theorem dX10_four_15 : decode cX10_four 15 = .ok (.iload_n 1, 1) := dw_27 wX10_four_c rfl
theorem dX10_four_16 : decode cX10_four 16 = .ok (.iload_n 2, 1) := dw_28 wX10_four_c rfl
theorem dX10_four_17 : decode cX10_four 17 = .ok (.ishr, 1) := dw_122 wX10_four_c rfl
theorem dX10_four_18 : decode cX10_four 18 = .ok (.i2b, 1) := dw_145 wX10_four_c rfl
theorem dX10_four_19 : decode cX10_four 19 = .ok (.bastore, 1) := dw_84 wX10_four_c rfl
theorem dX10_four_20 : decode cX10_four 20 = .ok (.aload_n 0, 1) := dw_42 wX10_four_c rfl
theorem dX10_four_21 : decode cX10_four 21 = .ok (.dup, 1) := dw_89 wX10_four_c rfl
theorem dX10_four_22 : decode cX10_four 22 = .ok (.getfield 236, 3) := dw_180 wX10_four_c 0 236 rfl rfl
theorem dX10_four_25 : decode cX10_four 25 = .ok (.iconst 1, 1) := dw_4 wX10_four_c rfl
theorem dX10_four_26 : decode cX10_four 26 = .ok (.iadd, 1) := dw_96 wX10_four_c rfl
theorem dX10_four_27 : decode cX10_four 27 = .ok (.putfield 236, 3) := dw_181 wX10_four_c 0 236 rfl rfl
theorem dX10_four_30 : decode cX10_four 30 = .ok (.iinc 2 (-8), 3) := dn_132 wX10_four_c 2 248 rfl (by decide)
theorem dX10_four_33 : decode cX10_four 33 = .ok (.goto (-30), 3) := dn_167 wX10_four_c 255 226 rfl (by decide)
theorem dX10_four_36 : decode cX10_four 36 = .ok (.return_, 1) := dw_177 wX10_four_c rfl
def wNX10_feed : Nat := 103965289510706926502029115669025582072901874786789231249780459126165856060613428213799563057340521572889691993130
theorem wX10_feed_c : hz_cd cX10_feed wNX10_feed 47 := ⟨by decide +kernel, by decide +kernel⟩
theorem dX10_feed_0 : decode cX10_feed 0 = .ok (.aload_n 0, 1) := dw_42 wX10_feed_c rfl
theorem dX10_feed_1 : decode cX10_feed 1 = .ok (.getfield 236, 3) := dw_180 wX10_feed_c 0 236 rfl rfl
theorem dX10_feed_4 : decode cX10_feed 4 = .ok (.bipush 20, 2) := dw_16 wX10_feed_c 20 rfl rfl rfl
theorem dX10_feed_6 : decode cX10_feed 6 = .ok (.iadd, 1) := dw_96 wX10_feed_c rfl
theorem dX10_feed_7 : decode cX10_feed 7 = .ok (.sipush 400, 3) := dw_17 wX10_feed_c 1 144 rfl rfl rfl
theorem dX10_feed_10 : decode cX10_feed 10 = .ok (.if_icmp .le 5, 3) := dw_164 wX10_feed_c 0 5 rfl rfl rfl
theorem dX10_feed_13 : decode cX10_feed 13 = .ok (.iconst (-1), 1) := dw_2 wX10_feed_c rfl
theorem dX10_feed_14 : decode cX10_feed 14 = .ok (.ireturn, 1) := dw_172 wX10_feed_c rfl
theorem dX10_feed_15 : decode cX10_feed 15 = .ok (.aload_n 0, 1) := dw_42 wX10_feed_c rfl
theorem dX10_feed_16 : decode cX10_feed 16 = .ok (.iload_n 1, 1) := dw_27 wX10_feed_c rfl
theorem dX10_feed_17 : decode cX10_feed 17 = .ok (.invokevirtual 239, 3) := dw_182 wX10_feed_c 0 239 rfl rfl
theorem dX10_feed_20 : decode cX10_feed 20 = .ok (.aload_n 0, 1) := dw_42 wX10_feed_c rfl
theorem dX10_feed_21 : decode cX10_feed 21 = .ok (.iload_n 2, 1) := dw_28 wX10_feed_c rfl
theorem dX10_feed_22 : decode cX10_feed 22 = .ok (.invokevirtual 239, 3) := dw_182 wX10_feed_c 0 239 rfl rfl
theorem dX10_feed_25 : decode cX10_feed 25 = .ok (.aload_n 0, 1) := dw_42 wX10_feed_c rfl
theorem dX10_feed_26 : decode cX10_feed 26 = .ok (.iload_n 3, 1) := dw_29 wX10_feed_c rfl
theorem dX10_feed_27 : decode cX10_feed 27 = .ok (.invokevirtual 239, 3) := dw_182 wX10_feed_c 0 239 rfl rfl
theorem dX10_feed_30 : decode cX10_feed 30 = .ok (.aload_n 0, 1) := dw_42 wX10_feed_c rfl
theorem dX10_feed_31 : decode cX10_feed 31 = .ok (.iload 4, 2) := dw_21 wX10_feed_c 4 rfl
theorem dX10_feed_33 : decode cX10_feed 33 = .ok (.invokevirtual 239, 3) := dw_182 wX10_feed_c 0 239 rfl rfl
theorem dX10_feed_36 : decode cX10_feed 36 = .ok (.aload_n 0, 1) := dw_42 wX10_feed_c rfl
theorem dX10_feed_37 : decode cX10_feed 37 = .ok (.iload 5, 2) := dw_21 wX10_feed_c 5 rfl
theorem dX10_feed_39 : decode cX10_feed 39 = .ok (.invokevirtual 239, 3) := dw_182 wX10_feed_c 0 239 rfl rfl
theorem dX10_feed_42 : decode cX10_feed 42 = .ok (.aload_n 0, 1) := dw_42 wX10_feed_c rfl
theorem dX10_feed_43 : decode cX10_feed 43 = .ok (.getfield 236, 3) := dw_180 wX10_feed_c 0 236 rfl rfl
theorem dX10_feed_46 : decode cX10_feed 46 = .ok (.ireturn, 1) := dw_172 wX10_feed_c rfl
theorem dX10_end_0 : decode cX10_end 0 = .ok (.iload_n 1, 1) := by decide +kernel
theorem dX10_end_1 : decode cX10_end 1 = .ok (.ifCond .lt 11, 3) := by decide +kernel
theorem dX10_end_4 : decode cX10_end 4 = .ok (.iload_n 1, 1) := by decide +kernel
theorem dX10_end_5 : decode cX10_end 5 = .ok (.aload_n 0, 1) := by decide +kernel
theorem dX10_end_6 : decode cX10_end 6 = .ok (.getfield 236, 3) := by decide +kernel
theorem dX10_end_9 : decode cX10_end 9 = .ok (.if_icmp .le 5, 3) := by decide +kernel
theorem dX10_end_12 : decode cX10_end 12 = .ok (.iconst (-1), 1) := by decide +kernel
theorem dX10_end_13 : decode cX10_end 13 = .ok (.ireturn, 1) := by decide +kernel
theorem dX10_end_14 : decode cX10_end 14 = .ok (.aload_n 0, 1) := by decide +kernel
theorem dX10_end_15 : decode cX10_end 15 = .ok (.iload_n 1, 1) := by decide +kernel
theorem dX10_end_16 : decode cX10_end 16 = .ok (.putfield 236, 3) := by decide +kernel
theorem dX10_end_19 : decode cX10_end 19 = .ok (.iload_n 1, 1) := by decide +kernel
theorem dX10_end_20 : decode cX10_end 20 = .ok (.ireturn, 1) := by decide +kernel
theorem dX10_fails_0 : decode cX10_fails 0 = .ok (.aload_n 0, 1) := by decide +kernel
theorem dX10_fails_1 : decode cX10_fails 1 = .ok (.getfield 242, 3) := by decide +kernel
theorem dX10_fails_4 : decode cX10_fails 4 = .ok (.ifCond .ne 15, 3) := by decide +kernel
theorem dX10_fails_7 : decode cX10_fails 7 = .ok (.aload_n 0, 1) := by decide +kernel
theorem dX10_fails_8 : decode cX10_fails 8 = .ok (.iconst 1, 1) := by decide +kernel
theorem dX10_fails_9 : decode cX10_fails 9 = .ok (.bipush 8, 2) := by decide +kernel
theorem dX10_fails_11 : decode cX10_fails 11 = .ok (.iload_n 2, 1) := by decide +kernel
theorem dX10_fails_12 : decode cX10_fails 12 = .ok (.imul, 1) := by decide +kernel
theorem dX10_fails_13 : decode cX10_fails 13 = .ok (.iadd, 1) := by decide +kernel
theorem dX10_fails_14 : decode cX10_fails 14 = .ok (.iload_n 1, 1) := by decide +kernel
theorem dX10_fails_15 : decode cX10_fails 15 = .ok (.iadd, 1) := by decide +kernel
theorem dX10_fails_16 : decode cX10_fails 16 = .ok (.putfield 242, 3) := by decide +kernel
theorem dX10_fails_19 : decode cX10_fails 19 = .ok (.iconst 0, 1) := by decide +kernel
theorem dX10_fails_20 : decode cX10_fails 20 = .ok (.ireturn, 1) := by decide +kernel
theorem dX10_isFact_0 : decode cX10_isFact 0 = .ok (.iload_n 0, 1) := by decide +kernel
theorem dX10_isFact_1 : decode cX10_isFact 1 = .ok (.iconst 3, 1) := by decide +kernel
theorem dX10_isFact_2 : decode cX10_isFact 2 = .ok (.bipush 10, 2) := by decide +kernel
theorem dX10_isFact_4 : decode cX10_isFact 4 = .ok (.invokestatic 228, 3) := by decide +kernel
theorem dX10_isFact_7 : decode cX10_isFact 7 = .ok (.ireturn, 1) := by decide +kernel
set_option maxHeartbeats 4000000 in
set_option maxRecDepth 100000 in
theorem t_X10_isFact (l : Launch) (dC : Nat → ClassId) (dI : Nat → Nat → Nat) (dA : Nat → ClassId) (L : List Nat) (h : hx_h) (sz : Nat) (i1 : Int32) (hT : hx_T T_tb L h)   : Met l yX10_isFact (Cond.code yX10_isFact cX10_isFact 1 (some .boolean) :: hx_all) ({ frames := 1, cells := 0, slots := 0, locals := 22 }) (va_Pc [.int i1] (hx_B T_tb (P_ty dA) (dC, dI) vwCl L h sz)) (va_Qi (fun (r : Int32) (u : List Nat × hx_h) => ((r.toInt = 0 ∧ (i1.toInt < 3 ∨ 10 < i1.toInt)) ∨ (r.toInt = 1 ∧ 3 ≤ i1.toInt ∧ i1.toInt ≤ 10)) ∧ hx_T T_tb u.1 u.2 ∧ hx_S T_tb [] L h u.1 u.2) (hx_E T_tb (P_ty dA) (dC, dI) vwCl (hx_A L sz)) (hx_A L sz)) 0 0 (hx_A L sz) := by
  refine hx_met (lv := [(0, .int i1)]) (by decide +kernel) rfl (Nat.le_of_ble_eq_true rfl) rfl ?_
  intro p e s m below meth c hx hb hml hr hlk hts0 hown hin hsz hW ls hl
  have hts : ∀ w ∈ hx_all, w.before _ s = true := fun w hw => hts0 w (List.mem_cons_of_mem _ hw)
  have hown : s.vm.findClass "SmallCourtModel" = some m.cls := hown
  have hM : hx_S T_tb [] L h L h := hx_S.rf
  refine lv_iload_n hx hb dX10_isFact_0 rfl (lv_at hl 0 rfl) ?_
  refine lv_iconst (v := 3) hx hb dX10_isFact_1 (by decide) ?_
  refine lv_bipush (v := 10) hx hb dX10_isFact_2 (by decide) ?_
  have zc_10 : (10 : Int32).toInt = 10 := by decide
  have zc_3 : (3 : Int32).toInt = 3 := by decide
  refine hx_goi (hx_runS (As := [.int i1, .int (3 : Int32), .int (10 : Int32)]) (rest := []) ⟨hx, hb, hml, hown, hts⟩ hW (t_X10_in l dC dI dA L h s.heap.size i1 (3 : Int32) (10 : Int32) hT) (va_cwS 3 hts (hx_gS kw_1445 kw_1443 kw_1444 kw_103) rfl rfl rfl (by decide +kernel) ⟨Nat.le_of_ble_eq_true rfl, Nat.le_of_ble_eq_true rfl⟩) rfl hl.1 rfl (Nat.le_of_ble_eq_true rfl) dX10_isFact_4 ⟨Nat.le_of_ble_eq_true rfl, Nat.le_of_ble_eq_true rfl⟩) hW (fun r_3 L_1 h_2 H locs p_4 hW => ?_)
  obtain ⟨hr_5, hT, hs⟩ := p_4
  replace hT : hx_T T_tb L_1 h_2 := hT
  replace hs : hx_S T_tb [] L h L_1 h_2 := hs
  replace hM := hM.tr (hs.mono (by decide))
  exact hx_retz hx hb hr (hx_nar01 (by omega)) hlk hW ⟨(by first | omega | (refine ⟨?_, ?_⟩ <;> omega)), hT, hM⟩ dX10_isFact_7

def wNX10_deep : Nat := 6781431211541985337624627061041248202444897348819881258086100527744872845639328188116400894845602382082128434771999747
theorem wX10_deep_c : hz_cd cX10_deep wNX10_deep 49 := ⟨by decide +kernel, by decide +kernel⟩
theorem dX10_deep_0 : decode cX10_deep 0 = .ok (.iconst 0, 1) := dw_3 wX10_deep_c rfl
theorem dX10_deep_1 : decode cX10_deep 1 = .ok (.istore_n 1, 1) := dw_60 wX10_deep_c rfl
theorem dX10_deep_2 : decode cX10_deep 2 = .ok (.iconst 0, 1) := dw_3 wX10_deep_c rfl
theorem dX10_deep_3 : decode cX10_deep 3 = .ok (.istore_n 2, 1) := dw_61 wX10_deep_c rfl
theorem dX10_deep_4 : decode cX10_deep 4 = .ok (.iload_n 2, 1) := dw_28 wX10_deep_c rfl
theorem dX10_deep_5 : decode cX10_deep 5 = .ok (.aload_n 0, 1) := dw_42 wX10_deep_c rfl
theorem dX10_deep_6 : decode cX10_deep 6 = .ok (.getfield 265, 3) := dw_180 wX10_deep_c 1 9 rfl rfl
theorem dX10_deep_9 : decode cX10_deep 9 = .ok (.if_icmp .ge 38, 3) := dw_162 wX10_deep_c 0 38 rfl rfl rfl
theorem dX10_deep_12 : decode cX10_deep 12 = .ok (.iload_n 1, 1) := dw_27 wX10_deep_c rfl
theorem dX10_deep_13 : decode cX10_deep 13 = .ok (.aload_n 0, 1) := dw_42 wX10_deep_c rfl
theorem dX10_deep_14 : decode cX10_deep 14 = .ok (.getfield 32, 3) := dw_180 wX10_deep_c 0 32 rfl rfl
theorem dX10_deep_17 : decode cX10_deep 17 = .ok (.iload_n 2, 1) := dw_28 wX10_deep_c rfl
theorem dX10_deep_18 : decode cX10_deep 18 = .ok (.iaload, 1) := dw_46 wX10_deep_c rfl
theorem dX10_deep_19 : decode cX10_deep 19 = .ok (.iconst 2, 1) := dw_5 wX10_deep_c rfl
theorem dX10_deep_20 : decode cX10_deep 20 = .ok (.if_icmp .eq 14, 3) := dw_159 wX10_deep_c 0 14 rfl rfl rfl
theorem dX10_deep_23 : decode cX10_deep 23 = .ok (.aload_n 0, 1) := dw_42 wX10_deep_c rfl
theorem dX10_deep_24 : decode cX10_deep 24 = .ok (.getfield 32, 3) := dw_180 wX10_deep_c 0 32 rfl rfl
theorem dX10_deep_27 : decode cX10_deep 27 = .ok (.iload_n 2, 1) := dw_28 wX10_deep_c rfl
theorem dX10_deep_28 : decode cX10_deep 28 = .ok (.iaload, 1) := dw_46 wX10_deep_c rfl
theorem dX10_deep_29 : decode cX10_deep 29 = .ok (.bipush 100, 2) := dw_16 wX10_deep_c 100 rfl rfl rfl
theorem dX10_deep_31 : decode cX10_deep 31 = .ok (.if_icmp .ne 7, 3) := dw_160 wX10_deep_c 0 7 rfl rfl rfl
theorem dX10_deep_34 : decode cX10_deep 34 = .ok (.iconst 1, 1) := dw_4 wX10_deep_c rfl
theorem dX10_deep_35 : decode cX10_deep 35 = .ok (.goto 4, 3) := dw_167 wX10_deep_c 0 4 rfl rfl rfl
theorem dX10_deep_38 : decode cX10_deep 38 = .ok (.iconst 0, 1) := dw_3 wX10_deep_c rfl
theorem dX10_deep_39 : decode cX10_deep 39 = .ok (.iadd, 1) := dw_96 wX10_deep_c rfl
theorem dX10_deep_40 : decode cX10_deep 40 = .ok (.istore_n 1, 1) := dw_60 wX10_deep_c rfl
theorem dX10_deep_41 : decode cX10_deep 41 = .ok (.iinc 2 1, 3) := dw_132 wX10_deep_c 2 1 rfl rfl rfl
theorem dX10_deep_44 : decode cX10_deep 44 = .ok (.goto (-40), 3) := dn_167 wX10_deep_c 255 216 rfl (by decide)
theorem dX10_deep_47 : decode cX10_deep 47 = .ok (.iload_n 1, 1) := dw_27 wX10_deep_c rfl
theorem dX10_deep_48 : decode cX10_deep 48 = .ok (.ireturn, 1) := dw_172 wX10_deep_c rfl