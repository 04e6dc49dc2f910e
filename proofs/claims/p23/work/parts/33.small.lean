
set_option maxHeartbeats 4000000 in
set_option maxRecDepth 100000 in
theorem t_X9_isWithin_2 (l : Launch) (dC : Nat → ClassId) (dI : Nat → Nat → Nat) (dA : Nat → ClassId) (L : List Nat) (h : hx_h) (sz : Nat) (i1 : Int32) (i2 : Int32) (i3 : Int32) (hT : hx_T T_tb L h)   : Met l yX9_isWithin (Cond.code yX9_isWithin cX9_isWithin 3 (some .boolean) :: hx_all) ({ frames := 0, cells := 0, slots := 0, locals := 0 }) (va_Pc [.int i1, .int i2, .int i3] (hx_B T_tb (P_ty dA) (dC, dI) vwCl L h sz)) (va_Qi (fun (r : Int32) (u : List Nat × hx_h) => ((r.toInt = 0 ∧ (i1.toInt < i2.toInt ∨ i3.toInt < i1.toInt)) ∨ (r.toInt = 1 ∧ i2.toInt ≤ i1.toInt ∧ i1.toInt ≤ i3.toInt)) ∧ hx_T T_tb u.1 u.2 ∧ hx_S T_tb [] L h u.1 u.2) (hx_E T_tb (P_ty dA) (dC, dI) vwCl (hx_A L sz)) (hx_A L sz)) 0 0 (hx_A L sz) := by
  refine hx_met (lv := [(0, .int i1), (1, .int i2), (2, .int i3)]) (by decide +kernel) rfl (Nat.le_of_ble_eq_true rfl) rfl ?_
  intro p e s m below meth c hx hb hml hr hlk hts0 hown hin hsz hW ls hl
  have hts : ∀ w ∈ hx_all, w.before _ s = true := fun w hw => hts0 w (List.mem_cons_of_mem _ hw)
  have hown : s.vm.findClass "SmallCourt" = some m.cls := hown
  have hM : hx_S T_tb [] L h L h := hx_S.rf
  refine lv_iload_n hx hb dX9_isWithin_0 rfl (lv_at hl 0 rfl) ?_
  refine lv_iload_n hx hb dX9_isWithin_1 rfl (lv_at hl 1 rfl) ?_
  refine hb_icmp_lt (zx := i1.toInt) (zy := i2.toInt) (tgt := 14) hx hb rfl rfl dX9_isWithin_2 (by decide) (fun c_1 => ?_) (fun c_1 => ?_)
  · skip
    refine lv_iconst (v := 0) hx hb dX9_isWithin_14 (by decide) ?_
    exact hx_retz hx hb hr rfl hlk hW ⟨(by have zr : (0 : Int32).toInt = 0 := (by decide); (first | omega | (refine ⟨?_, ?_⟩ <;> omega))), hT, hM⟩ dX9_isWithin_15
  · skip
    refine lv_iload_n hx hb dX9_isWithin_5 rfl (lv_at hl 0 rfl) ?_
    refine lv_iload_n hx hb dX9_isWithin_6 rfl (lv_at hl 2 rfl) ?_
    refine hb_icmp_gt (zx := i1.toInt) (zy := i3.toInt) (tgt := 14) hx hb rfl rfl dX9_isWithin_7 (by decide) (fun c_2 => ?_) (fun c_2 => ?_)
    · skip
      refine lv_iconst (v := 0) hx hb dX9_isWithin_14 (by decide) ?_
      exact hx_retz hx hb hr rfl hlk hW ⟨(by have zr : (0 : Int32).toInt = 0 := (by decide); (first | omega | (refine ⟨?_, ?_⟩ <;> omega))), hT, hM⟩ dX9_isWithin_15
    · skip
      refine lv_iconst (v := 1) hx hb dX9_isWithin_10 (by decide) ?_
      refine lv_goto (tgt := 15) hx hb dX9_isWithin_11 (by decide) ?_
      exact hx_retz hx hb hr rfl hlk hW ⟨(by have zr : (1 : Int32).toInt = 1 := (by decide); (first | omega | (refine ⟨?_, ?_⟩ <;> omega))), hT, hM⟩ dX9_isWithin_15


set_option maxHeartbeats 4000000 in
set_option maxRecDepth 100000 in
theorem t_X9_isDay_2 (l : Launch) (dC : Nat → ClassId) (dI : Nat → Nat → Nat) (dA : Nat → ClassId) (L : List Nat) (h : hx_h) (sz : Nat) (i1 : Int32) (hT : hx_T T_tb L h)   : Met l yX9_isDay (Cond.code yX9_isDay cX9_isDay 1 (some .boolean) :: hx_all) ({ frames := 1, cells := 0, slots := 0, locals := 22 }) (va_Pc [.int i1] (hx_B T_tb (P_ty dA) (dC, dI) vwCl L h sz)) (va_Qi (fun (r : Int32) (u : List Nat × hx_h) => ((r.toInt = 0 ∧ (i1.toInt < 0 ∨ 7999 < i1.toInt)) ∨ (r.toInt = 1 ∧ 0 ≤ i1.toInt ∧ i1.toInt ≤ 7999)) ∧ hx_T T_tb u.1 u.2 ∧ hx_S T_tb [] L h u.1 u.2) (hx_E T_tb (P_ty dA) (dC, dI) vwCl (hx_A L sz)) (hx_A L sz)) 0 0 (hx_A L sz) := by
  refine hx_met (lv := [(0, .int i1)]) (by decide +kernel) rfl (Nat.le_of_ble_eq_true rfl) rfl ?_
  intro p e s m below meth c hx hb hml hr hlk hts0 hown hin hsz hW ls hl
  have hts : ∀ w ∈ hx_all, w.before _ s = true := fun w hw => hts0 w (List.mem_cons_of_mem _ hw)
  have hown : s.vm.findClass "SmallCourt" = some m.cls := hown
  have hM : hx_S T_tb [] L h L h := hx_S.rf
  refine lv_iload_n hx hb dX9_isDay_0 rfl (lv_at hl 0 rfl) ?_
  refine lv_iconst (v := 0) hx hb dX9_isDay_1 (by decide) ?_
  refine lv_sipush (v := 7999) hx hb dX9_isDay_2 (by decide) ?_
  have zc_7999 : (7999 : Int32).toInt = 7999 := by decide
  have zc_0 : (0 : Int32).toInt = 0 := by decide
  refine hx_goi (hx_runS (As := [.int i1, .int (0 : Int32), .int (7999 : Int32)]) (rest := []) ⟨hx, hb, hml, hown, hts⟩ hW (t_X9_isWithin_2 l dC dI dA L h s.heap.size i1 (0 : Int32) (7999 : Int32) hT) (va_cwS 3 hts (hx_gS kw_434 kw_432 kw_433 kw_94) rfl rfl rfl (by decide +kernel) ⟨Nat.le_of_ble_eq_true rfl, Nat.le_of_ble_eq_true rfl⟩) rfl hl.1 rfl (Nat.le_of_ble_eq_true rfl) dX9_isDay_5 ⟨Nat.le_of_ble_eq_true rfl, Nat.le_of_ble_eq_true rfl⟩) hW (fun r_3 L_1 h_2 H locs p_4 hW => ?_)
  obtain ⟨hr_5, hT, hs⟩ := p_4
  replace hT : hx_T T_tb L_1 h_2 := hT
  replace hs : hx_S T_tb [] L h L_1 h_2 := hs
  replace hM := hM.tr (hs.mono (by decide))
  exact hx_retz hx hb hr (hx_nar01 (by omega)) hlk hW ⟨(by first | omega | (refine ⟨?_, ?_⟩ <;> omega)), hT, hM⟩ dX9_isDay_8

theorem dX9_clock_0 : decode cX9_clock 0 = .ok (.iload_n 1, 1) := by decide +kernel
theorem dX9_clock_1 : decode cX9_clock 1 = .ok (.invokestatic 90, 3) := by decide +kernel
theorem dX9_clock_4 : decode cX9_clock 4 = .ok (.ifCond .eq 11, 3) := by decide +kernel
theorem dX9_clock_7 : decode cX9_clock 7 = .ok (.iload_n 1, 1) := by decide +kernel
theorem dX9_clock_8 : decode cX9_clock 8 = .ok (.aload_n 0, 1) := by decide +kernel
theorem dX9_clock_9 : decode cX9_clock 9 = .ok (.getfield 94, 3) := by decide +kernel
theorem dX9_clock_12 : decode cX9_clock 12 = .ok (.if_icmp .ge 5, 3) := by decide +kernel
theorem dX9_clock_15 : decode cX9_clock 15 = .ok (.iconst 0, 1) := by decide +kernel
theorem dX9_clock_16 : decode cX9_clock 16 = .ok (.ireturn, 1) := by decide +kernel
theorem dX9_clock_17 : decode cX9_clock 17 = .ok (.aload_n 0, 1) := by decide +kernel
theorem dX9_clock_18 : decode cX9_clock 18 = .ok (.iload_n 1, 1) := by decide +kernel
theorem dX9_clock_19 : decode cX9_clock 19 = .ok (.putfield 94, 3) := by decide +kernel
theorem dX9_clock_22 : decode cX9_clock 22 = .ok (.iconst 1, 1) := by decide +kernel
theorem dX9_clock_23 : decode cX9_clock 23 = .ok (.ireturn, 1) := by decide +kernel
set_option maxHeartbeats 4000000 in
set_option maxRecDepth 100000 in
theorem t_X9_clock (l : Launch) (dC : Nat → ClassId) (dI : Nat → Nat → Nat) (dA : Nat → ClassId) (L : List Nat) (h : hx_h) (sz : Nat) (x : Nat) (i1 : Int32) (hT : hx_T T_tb L h) (gx : hx_g L h x 9) (now0 : Int32) (f_x_2 : h.2.1 x 2 = now0) : Met l yX9_clock (Cond.code yX9_clock cX9_clock 2 (some .boolean) :: hx_all) ({ frames := 2, cells := 0, slots := 0, locals := 42 }) (va_Pc [.ref x, .int i1] (hx_B T_tb (P_ty dA) (dC, dI) vwCl L h sz)) (va_Qi (fun (r : Int32) (u : List Nat × hx_h) => (∃ (now1 : Int32), u.2.2.1 x 2 = now1 ∧ ((r.toInt = 0 ∨ r.toInt = 1) ∧ (r.toInt = 0 → (i1.toInt < now0.toInt ∨ 7999 < i1.toInt) ∧ now1 = now0) ∧ (r.toInt = 1 → now0.toInt ≤ i1.toInt ∧ i1.toInt ≤ 7999 ∧ now1 = i1))) ∧ hx_T T_tb u.1 u.2 ∧ hx_S T_tb [(9, 2)] L h u.1 u.2) (hx_E T_tb (P_ty dA) (dC, dI) vwCl (hx_A L sz)) (hx_A L sz)) 0 0 (hx_A L sz) := by
  refine hx_met (lv := [(0, .ref x), (1, .int i1)]) (by decide +kernel) rfl (Nat.le_of_ble_eq_true rfl) rfl ?_
  intro p e s m below meth c hx hb hml hr hlk hts0 hown hin hsz hW ls hl
  have hts : ∀ w ∈ hx_all, w.before _ s = true := fun w hw => hts0 w (List.mem_cons_of_mem _ hw)
  have hown : s.vm.findClass "SmallCourt" = some m.cls := hown
  have hM : hx_S T_tb [(9, 2)] L h L h := hx_S.rf
  have b_now0 := hT.gi gx tt_9 (k := 2) rfl
  rw [f_x_2] at b_now0
  have b_now0 : 0 ≤ now0.toInt ∧ now0.toInt ≤ 7999 := b_now0
  refine lv_iload_n hx hb dX9_clock_0 rfl (lv_at hl 1 rfl) ?_
  refine hx_goi (hx_runS (As := [.int i1]) (rest := []) ⟨hx, hb, hml, hown, hts⟩ hW (t_X9_isDay_2 l dC dI dA L h s.heap.size i1 hT) (va_cwS 1 hts (hx_gS kw_431 kw_429 kw_430 kw_94) rfl rfl rfl (by decide +kernel) ⟨Nat.le_of_ble_eq_true rfl, Nat.le_of_ble_eq_true rfl⟩) rfl hl.1 rfl (Nat.le_of_ble_eq_true rfl) dX9_clock_1 ⟨Nat.le_of_ble_eq_true rfl, Nat.le_of_ble_eq_true rfl⟩) hW (fun r_3 L_1 h_2 H locs p_4 hW => ?_)
  obtain ⟨hr_5, hT, hs⟩ := p_4
  replace hT : hx_T T_tb L_1 h_2 := hT
  replace hs : hx_S T_tb [] L h L_1 h_2 := hs
  replace f_x_2 := (hs.o (gx.S hM) trivial rfl).1.trans f_x_2
  replace hM := hM.tr (hs.mono (by decide))
  refine hb_if_eq (zx := r_3.toInt) (tgt := 15) hx hb rfl dX9_clock_4 (by decide) (fun c_6 => ?_) (fun c_6 => ?_)
  · skip
    replace hr_5 := hr_5.resolve_right (fun z9 => absurd (c_6.symm.trans z9.1) (by decide))
    replace hr_5 := hr_5.2
    refine lv_iconst (v := 0) hx hb dX9_clock_15 (by decide) ?_
    exact hx_retz hx hb hr rfl hlk hW ⟨⟨now0, f_x_2, (by have zr : (0 : Int32).toInt = 0 := (by decide); exact ⟨by omega, fun _ => ⟨by omega, rfl⟩, fun z => absurd z (by decide)⟩)⟩, hT, hM⟩ dX9_clock_16
  · skip
    replace hr_5 := hr_5.resolve_left (fun z9 => c_6 z9.1)
    replace c_6 := hr_5.1
    replace hr_5 := hr_5.2
    refine lv_iload_n hx hb dX9_clock_7 rfl (lv_at hl 1 rfl) ?_
    refine lv_aload_n hx hb dX9_clock_8 rfl (lv_at hl 0 rfl) ?_
    refine hk_geti hx hb hts hC_9 hown hW (gx.S hM) tt_9 2 (by decide) rfl kw_366 ⟨rfl, rfl, rfl⟩ f_x_2 dX9_clock_9 ?_
    refine hb_icmp_ge (zx := i1.toInt) (zy := now0.toInt) (tgt := 17) hx hb rfl rfl dX9_clock_12 (by decide) (fun c_7 => ?_) (fun c_7 => ?_)
    · skip
      refine lv_aload_n hx hb dX9_clock_17 rfl (lv_at hl 0 rfl) ?_
      refine lv_iload_n hx hb dX9_clock_18 rfl (lv_at hl 1 rfl) ?_
      refine hx_puti hx hb hts hC_9 hown hW hT (hx_S.rf (M := [(9, 2)])) (gx.S hM) tt_9 2 (by decide) rfl kw_366 ⟨rfl, rfl, rfl⟩ rfl (x := i1) ⟨by omega, by omega⟩ rfl rfl rfl (List.mem_singleton.mpr rfl) dX9_clock_19 (fun H locs h_8 eh_8 hW hT hs => ?_)
      replace hM := hM.tr (hs.mono (by decide))
      have f_9 : h_8.2.1 x 2 = i1 := by rw [eh_8]; exact hx_pi_at _ _ _ _
      refine lv_iconst (v := 1) hx hb dX9_clock_22 (by decide) ?_
      exact hx_retz hx hb hr rfl hlk hW ⟨⟨i1, f_9, (by have zr : (1 : Int32).toInt = 1 := (by decide); exact ⟨by omega, fun z => absurd z (by decide), fun _ => ⟨by omega, by omega, rfl⟩⟩)⟩, hT, hM⟩ dX9_clock_23
    · skip
      refine lv_iconst (v := 0) hx hb dX9_clock_15 (by decide) ?_
      exact hx_retz hx hb hr rfl hlk hW ⟨⟨now0, f_x_2, (by have zr : (0 : Int32).toInt = 0 := (by decide); exact ⟨by omega, fun _ => ⟨by omega, rfl⟩, fun z => absurd z (by decide)⟩)⟩, hT, hM⟩ dX9_clock_16
