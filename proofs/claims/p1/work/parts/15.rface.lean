theorem dX10_clock_0 : decode cX10_clock 0 = .ok (.iload_n 1, 1) := by decide +kernel
theorem dX10_clock_1 : decode cX10_clock 1 = .ok (.aload_n 0, 1) := by decide +kernel
theorem dX10_clock_2 : decode cX10_clock 2 = .ok (.getfield 232, 3) := by decide +kernel
theorem dX10_clock_5 : decode cX10_clock 5 = .ok (.sipush 7999, 3) := by decide +kernel
theorem dX10_clock_8 : decode cX10_clock 8 = .ok (.invokestatic 228, 3) := by decide +kernel
theorem dX10_clock_11 : decode cX10_clock 11 = .ok (.ifCond .ne 5, 3) := by decide +kernel
theorem dX10_clock_14 : decode cX10_clock 14 = .ok (.iconst 0, 1) := by decide +kernel
theorem dX10_clock_15 : decode cX10_clock 15 = .ok (.ireturn, 1) := by decide +kernel
theorem dX10_clock_16 : decode cX10_clock 16 = .ok (.aload_n 0, 1) := by decide +kernel
theorem dX10_clock_17 : decode cX10_clock 17 = .ok (.iload_n 1, 1) := by decide +kernel
theorem dX10_clock_18 : decode cX10_clock 18 = .ok (.putfield 232, 3) := by decide +kernel
theorem dX10_clock_21 : decode cX10_clock 21 = .ok (.iconst 1, 1) := by decide +kernel
theorem dX10_clock_22 : decode cX10_clock 22 = .ok (.ireturn, 1) := by decide +kernel
set_option maxHeartbeats 4000000 in
set_option maxRecDepth 100000 in
theorem c_X10_clock (l : Launch) (dC : Nat → ClassId) (dI : Nat → Nat → Nat) (dA : Nat → ClassId) (L : List Nat) (h : hx_h) (sz : Nat) (y : Nat) (d : Int32) (gy : hx_g L h y 10) (f_y_0 : h.2.1 y 0 = 0) : Met l yX10_clock (Cond.code yX10_clock cX10_clock 2 (some .boolean) :: hx_all) ({ frames := 1, cells := 0, slots := 0, locals := 22 }) (va_Pc [.ref y, .int d] (hx_B P_tb (P_ty dA) (dC, dI) vwCl L h sz)) (va_Qi (fun (r : Int32) (u : List Nat × hx_h) => ((0 ≤ d.toInt ∧ d.toInt ≤ 7999) ∧ r = 1 ∨ ¬ (0 ≤ d.toInt ∧ d.toInt ≤ 7999) ∧ r = 0) ∧ hx_S P_tb [(10, 0)] L h u.1 u.2) (hx_E P_tb (P_ty dA) (dC, dI) vwCl (hx_A L sz)) (hx_A L sz)) 0 0 (hx_A L sz) := by
  refine hx_met (lv := [(0, .ref y), (1, .int d)]) (by decide +kernel) rfl (Nat.le_of_ble_eq_true rfl) rfl ?_
  intro p e s m below meth c hx hb hml hr hlk hts0 hown hin hsz hW ls hl
  have hts : ∀ w ∈ hx_all, w.before _ s = true := fun w hw => hts0 w (List.mem_cons_of_mem _ hw)
  have hown : s.vm.findClass "SmallCourtModel" = some m.cls := hown
  have hM : hx_S P_tb [(10, 0)] L h L h := hx_S.rf
  refine lv_iload_n hx hb dX10_clock_0 rfl (lv_at hl 1 rfl) ?_
  refine lv_aload_n hx hb dX10_clock_1 rfl (lv_at hl 0 rfl) ?_
  refine hk_geti hx hb hts hC_10 hown hW gy td_10 0 (by decide) rfl kw_1143 ⟨rfl, rfl, rfl⟩ f_y_0 dX10_clock_2 ?_
  refine lv_sipush (v := 7999) hx hb dX10_clock_5 (by decide) ?_
  refine hx_goi (hx_runS (As := [.int d, .int (0 : Int32), .int (7999 : Int32)]) (rest := []) ⟨hx, hb, hml, hown, hts⟩ hW (c_X10_in l dC dI dA L h s.heap.size d (0 : Int32) (7999 : Int32)) (va_cwS 3 hts (hx_gS kw_1445 kw_1443 kw_1444 kw_103) rfl rfl rfl (by decide +kernel) ⟨Nat.le_of_ble_eq_true rfl, Nat.le_of_ble_eq_true rfl⟩) rfl hl.1 rfl (Nat.le_of_ble_eq_true rfl) dX10_clock_8 ⟨Nat.le_of_ble_eq_true rfl, Nat.le_of_ble_eq_true rfl⟩) hW (fun r_3 L_1 h_2 H locs p_4 hW => ?_)
  obtain ⟨p_4, eu⟩ := p_4
  cases eu
  rcases p_4 with ⟨kp_4, rfl⟩ | ⟨kp_4, rfl⟩
  · skip
    have zc1 : (0 : Int32).toInt = 0 := by decide
    have zc2 : (7999 : Int32).toInt = 7999 := by decide
    refine hb_if_ne (zx := 1) (tgt := 16) hx hb (by decide) dX10_clock_11 (by decide) (fun c_5 => ?_) (fun c_5 => absurd c_5 (by decide))
    refine lv_aload_n hx hb dX10_clock_16 rfl (lv_at hl 0 rfl) ?_
    refine lv_iload_n hx hb dX10_clock_17 rfl (lv_at hl 1 rfl) ?_
    refine hk_puti hx hb hts hC_10 hown hW gy td_10 0 (by decide) rfl kw_1143 ⟨rfl, rfl, rfl⟩ rfl (x := d) rfl rfl rfl dX10_clock_18 (fun H locs h_6 eh_6 hW hs => ?_)
    have hM := hM.tr (hs.mono (by decide))
    have gy := gy.S hs
    have f_7 : h_6.2.1 y 0 = d := by rw [eh_6]; exact hx_pi_at _ _ _ _
    refine lv_iconst (v := 1) hx hb dX10_clock_21 (by decide) ?_
    exact hx_retz hx hb hr rfl hlk hW ⟨Or.inl ⟨by first | omega | decide, rfl⟩, hM⟩ dX10_clock_22
  · skip
    have zc1 : (0 : Int32).toInt = 0 := by decide
    have zc2 : (7999 : Int32).toInt = 7999 := by decide
    refine hb_if_ne (zx := 0) (tgt := 16) hx hb (by decide) dX10_clock_11 (by decide) (fun c_8 => absurd c_8 (by decide)) (fun c_8 => ?_)
    refine lv_iconst (v := 0) hx hb dX10_clock_14 (by decide) ?_
    exact hx_retz hx hb hr rfl hlk hW ⟨Or.inr ⟨by first | omega | decide, rfl⟩, hM⟩ dX10_clock_15


theorem dX10_anew_0 : decode cX10_anew 0 = .ok (.aload_n 0, 1) := by decide +kernel
theorem dX10_anew_1 : decode cX10_anew 1 = .ok (.iload_n 1, 1) := by decide +kernel
theorem dX10_anew_2 : decode cX10_anew 2 = .ok (.invokevirtual 348, 3) := by decide +kernel
theorem dX10_anew_5 : decode cX10_anew 5 = .ok (.ifCond .eq 24, 3) := by decide +kernel
theorem dX10_anew_29 : decode cX10_anew 29 = .ok (.iconst 0, 1) := by decide +kernel
theorem dX10_anew_30 : decode cX10_anew 30 = .ok (.ireturn, 1) := by decide +kernel
set_option maxHeartbeats 4000000 in
set_option maxRecDepth 100000 in
theorem c_X10_anew (l : Launch) (dC : Nat → ClassId) (dI : Nat → Nat → Nat) (dA : Nat → ClassId) (L : List Nat) (h : hx_h) (sz : Nat) (y : Nat) (i1 : Int32) (i2 : Int32) (i3 : Int32) (i4 : Int32) (i5 : Int32) (gy : hx_g L h y 10) (f_y_20 : h.2.1 y 20 = 0) : Met l yX10_anew (Cond.code yX10_anew cX10_anew 6 (some .boolean) :: hx_all) ({ frames := 2, cells := 0, slots := 0, locals := 43 }) (va_Pc [.ref y, .int i1, .int i2, .int i3, .int i4, .int i5] (hx_B P_tb (P_ty dA) (dC, dI) vwCl L h sz)) (va_Qi (fun (r : Int32) (u : List Nat × hx_h) => (r = 0) ∧ hx_S P_tb [] L h u.1 u.2) (hx_E P_tb (P_ty dA) (dC, dI) vwCl (hx_A L sz)) (hx_A L sz)) 0 0 (hx_A L sz) := by
  refine hx_met (lv := [(0, .ref y), (1, .int i1), (2, .int i2), (3, .int i3), (4, .int i4), (5, .int i5)]) (by decide +kernel) rfl (Nat.le_of_ble_eq_true rfl) rfl ?_
  intro p e s m below meth c hx hb hml hr hlk hts0 hown hin hsz hW ls hl
  have hts : ∀ w ∈ hx_all, w.before _ s = true := fun w hw => hts0 w (List.mem_cons_of_mem _ hw)
  have hown : s.vm.findClass "SmallCourtModel" = some m.cls := hown
  have hM : hx_S P_tb [] L h L h := hx_S.rf
  refine lv_aload_n hx hb dX10_anew_0 rfl (lv_at hl 0 rfl) ?_
  refine lv_iload_n hx hb dX10_anew_1 rfl (lv_at hl 1 rfl) ?_
  refine hx_goi (hx_runV (As := [.int i1]) (rest := []) ⟨hx, hb, hml, hown, hts⟩ hW gy td_10 (T := TX10) (N := 98) rfl (c_X10_isPerson l dC dI dA L h s.heap.size y i1 gy f_y_20) (cwV 1 hts (hx_gV kw_1552 kw_1549 kw_1551 kw_68 kw_103) rfl rfl rfl (by decide +kernel) ⟨Nat.le_of_ble_eq_true rfl, Nat.le_of_ble_eq_true rfl⟩) rfl hl.1 rfl (Nat.le_of_ble_eq_true rfl) dX10_anew_2 ⟨Nat.le_of_ble_eq_true rfl, Nat.le_of_ble_eq_true rfl⟩) hW (fun r_3 L_1 h_2 H locs p_4 hW => ?_)
  obtain ⟨p_4, eu⟩ := p_4
  cases eu
  rcases p_4 with ⟨kp_4, rfl⟩ | ⟨kp_4, rfl⟩
  · exfalso
    omega
  · skip
    refine hb_if_eq (zx := 0) (tgt := 29) hx hb (by decide) dX10_anew_5 (by decide) (fun c_5 => ?_) (fun c_5 => absurd c_5 (by decide))
    refine lv_iconst (v := 0) hx hb dX10_anew_29 (by decide) ?_
    exact hx_retz hx hb hr rfl hlk hW ⟨rfl, hM⟩ dX10_anew_30


theorem dX10_dies_0 : decode cX10_dies 0 = .ok (.aload_n 0, 1) := by decide +kernel
theorem dX10_dies_1 : decode cX10_dies 1 = .ok (.iload_n 1, 1) := by decide +kernel
theorem dX10_dies_2 : decode cX10_dies 2 = .ok (.invokevirtual 348, 3) := by decide +kernel
theorem dX10_dies_5 : decode cX10_dies 5 = .ok (.ifCond .eq 12, 3) := by decide +kernel
theorem dX10_dies_17 : decode cX10_dies 17 = .ok (.iconst 0, 1) := by decide +kernel
theorem dX10_dies_18 : decode cX10_dies 18 = .ok (.ireturn, 1) := by decide +kernel
set_option maxHeartbeats 4000000 in
set_option maxRecDepth 100000 in
theorem c_X10_dies (l : Launch) (dC : Nat → ClassId) (dI : Nat → Nat → Nat) (dA : Nat → ClassId) (L : List Nat) (h : hx_h) (sz : Nat) (y : Nat) (a : Int32) (gy : hx_g L h y 10) (f_y_20 : h.2.1 y 20 = 0) : Met l yX10_dies (Cond.code yX10_dies cX10_dies 2 (some .boolean) :: hx_all) ({ frames := 2, cells := 0, slots := 0, locals := 43 }) (va_Pc [.ref y, .int a] (hx_B P_tb (P_ty dA) (dC, dI) vwCl L h sz)) (va_Qi (fun (r : Int32) (u : List Nat × hx_h) => (r = 0) ∧ hx_S P_tb [] L h u.1 u.2) (hx_E P_tb (P_ty dA) (dC, dI) vwCl (hx_A L sz)) (hx_A L sz)) 0 0 (hx_A L sz) := by
  refine hx_met (lv := [(0, .ref y), (1, .int a)]) (by decide +kernel) rfl (Nat.le_of_ble_eq_true rfl) rfl ?_
  intro p e s m below meth c hx hb hml hr hlk hts0 hown hin hsz hW ls hl
  have hts : ∀ w ∈ hx_all, w.before _ s = true := fun w hw => hts0 w (List.mem_cons_of_mem _ hw)
  have hown : s.vm.findClass "SmallCourtModel" = some m.cls := hown
  have hM : hx_S P_tb [] L h L h := hx_S.rf
  refine lv_aload_n hx hb dX10_dies_0 rfl (lv_at hl 0 rfl) ?_
  refine lv_iload_n hx hb dX10_dies_1 rfl (lv_at hl 1 rfl) ?_
  refine hx_goi (hx_runV (As := [.int a]) (rest := []) ⟨hx, hb, hml, hown, hts⟩ hW gy td_10 (T := TX10) (N := 98) rfl (c_X10_isPerson l dC dI dA L h s.heap.size y a gy f_y_20) (cwV 1 hts (hx_gV kw_1552 kw_1549 kw_1551 kw_68 kw_103) rfl rfl rfl (by decide +kernel) ⟨Nat.le_of_ble_eq_true rfl, Nat.le_of_ble_eq_true rfl⟩) rfl hl.1 rfl (Nat.le_of_ble_eq_true rfl) dX10_dies_2 ⟨Nat.le_of_ble_eq_true rfl, Nat.le_of_ble_eq_true rfl⟩) hW (fun r_3 L_1 h_2 H locs p_4 hW => ?_)
  obtain ⟨p_4, eu⟩ := p_4
  cases eu
  rcases p_4 with ⟨kp_4, rfl⟩ | ⟨kp_4, rfl⟩
  · exfalso
    omega
  · skip
    refine hb_if_eq (zx := 0) (tgt := 17) hx hb (by decide) dX10_dies_5 (by decide) (fun c_5 => ?_) (fun c_5 => absurd c_5 (by decide))
    refine lv_iconst (v := 0) hx hb dX10_dies_17 (by decide) ?_
    exact hx_retz hx hb hr rfl hlk hW ⟨rfl, hM⟩ dX10_dies_18


theorem dX10_judge_0 : decode cX10_judge 0 = .ok (.aload_n 0, 1) := by decide +kernel
theorem dX10_judge_1 : decode cX10_judge 1 = .ok (.iload_n 1, 1) := by decide +kernel
theorem dX10_judge_2 : decode cX10_judge 2 = .ok (.invokevirtual 348, 3) := by decide +kernel
theorem dX10_judge_5 : decode cX10_judge 5 = .ok (.ifCond .eq 13, 3) := by decide +kernel
theorem dX10_judge_18 : decode cX10_judge 18 = .ok (.iconst 0, 1) := by decide +kernel
theorem dX10_judge_19 : decode cX10_judge 19 = .ok (.ireturn, 1) := by decide +kernel
set_option maxHeartbeats 4000000 in
set_option maxRecDepth 100000 in
theorem c_X10_judge (l : Launch) (dC : Nat → ClassId) (dI : Nat → Nat → Nat) (dA : Nat → ClassId) (L : List Nat) (h : hx_h) (sz : Nat) (y : Nat) (a : Int32) (b : Int32) (gy : hx_g L h y 10) (f_y_20 : h.2.1 y 20 = 0) : Met l yX10_judge (Cond.code yX10_judge cX10_judge 3 (some .boolean) :: hx_all) ({ frames := 2, cells := 0, slots := 0, locals := 43 }) (va_Pc [.ref y, .int a, .int b] (hx_B P_tb (P_ty dA) (dC, dI) vwCl L h sz)) (va_Qi (fun (r : Int32) (u : List Nat × hx_h) => (r = 0) ∧ hx_S P_tb [] L h u.1 u.2) (hx_E P_tb (P_ty dA) (dC, dI) vwCl (hx_A L sz)) (hx_A L sz)) 0 0 (hx_A L sz) := by
  refine hx_met (lv := [(0, .ref y), (1, .int a), (2, .int b)]) (by decide +kernel) rfl (Nat.le_of_ble_eq_true rfl) rfl ?_
  intro p e s m below meth c hx hb hml hr hlk hts0 hown hin hsz hW ls hl
  have hts : ∀ w ∈ hx_all, w.before _ s = true := fun w hw => hts0 w (List.mem_cons_of_mem _ hw)
  have hown : s.vm.findClass "SmallCourtModel" = some m.cls := hown
  have hM : hx_S P_tb [] L h L h := hx_S.rf
  refine lv_aload_n hx hb dX10_judge_0 rfl (lv_at hl 0 rfl) ?_
  refine lv_iload_n hx hb dX10_judge_1 rfl (lv_at hl 1 rfl) ?_
  refine hx_goi (hx_runV (As := [.int a]) (rest := []) ⟨hx, hb, hml, hown, hts⟩ hW gy td_10 (T := TX10) (N := 98) rfl (c_X10_isPerson l dC dI dA L h s.heap.size y a gy f_y_20) (cwV 1 hts (hx_gV kw_1552 kw_1549 kw_1551 kw_68 kw_103) rfl rfl rfl (by decide +kernel) ⟨Nat.le_of_ble_eq_true rfl, Nat.le_of_ble_eq_true rfl⟩) rfl hl.1 rfl (Nat.le_of_ble_eq_true rfl) dX10_judge_2 ⟨Nat.le_of_ble_eq_true rfl, Nat.le_of_ble_eq_true rfl⟩) hW (fun r_3 L_1 h_2 H locs p_4 hW => ?_)
  obtain ⟨p_4, eu⟩ := p_4
  cases eu
  rcases p_4 with ⟨kp_4, rfl⟩ | ⟨kp_4, rfl⟩
  · exfalso
    omega
  · skip
    refine hb_if_eq (zx := 0) (tgt := 18) hx hb (by decide) dX10_judge_5 (by decide) (fun c_5 => ?_) (fun c_5 => absurd c_5 (by decide))
    refine lv_iconst (v := 0) hx hb dX10_judge_18 (by decide) ?_
    exact hx_retz hx hb hr rfl hlk hW ⟨rfl, hM⟩ dX10_judge_19


theorem dX10_book_0 : decode cX10_book 0 = .ok (.aload_n 0, 1) := by decide +kernel
theorem dX10_book_1 : decode cX10_book 1 = .ok (.iload_n 1, 1) := by decide +kernel
theorem dX10_book_2 : decode cX10_book 2 = .ok (.invokevirtual 348, 3) := by decide +kernel
theorem dX10_book_5 : decode cX10_book 5 = .ok (.ifCond .eq 23, 3) := by decide +kernel
theorem dX10_book_28 : decode cX10_book 28 = .ok (.ldc_w 357, 3) := by decide +kernel
theorem dX10_book_31 : decode cX10_book 31 = .ok (.ireturn, 1) := by decide +kernel
set_option maxHeartbeats 4000000 in
set_option maxRecDepth 100000 in
theorem c_X10_book (l : Launch) (dC : Nat → ClassId) (dI : Nat → Nat → Nat) (dA : Nat → ClassId) (L : List Nat) (h : hx_h) (sz : Nat) (y : Nat) (i1 : Int32) (i2 : Int32) (i3 : Int32) (i4 : Int32) (gy : hx_g L h y 10) (f_y_20 : h.2.1 y 20 = 0) : Met l yX10_book (Cond.code yX10_book cX10_book 5 (some .int) :: hx_all) ({ frames := 2, cells := 0, slots := 0, locals := 43 }) (va_Pc [.ref y, .int i1, .int i2, .int i3, .int i4] (hx_B P_tb (P_ty dA) (dC, dI) vwCl L h sz)) (va_Qi (fun (r : Int32) (u : List Nat × hx_h) => (r = -1000000) ∧ hx_S P_tb [] L h u.1 u.2) (hx_E P_tb (P_ty dA) (dC, dI) vwCl (hx_A L sz)) (hx_A L sz)) 0 0 (hx_A L sz) := by
  refine hx_met (lv := [(0, .ref y), (1, .int i1), (2, .int i2), (3, .int i3), (4, .int i4)]) (by decide +kernel) rfl (Nat.le_of_ble_eq_true rfl) rfl ?_
  intro p e s m below meth c hx hb hml hr hlk hts0 hown hin hsz hW ls hl
  have hts : ∀ w ∈ hx_all, w.before _ s = true := fun w hw => hts0 w (List.mem_cons_of_mem _ hw)
  have hown : s.vm.findClass "SmallCourtModel" = some m.cls := hown
  have hM : hx_S P_tb [] L h L h := hx_S.rf
  refine lv_aload_n hx hb dX10_book_0 rfl (lv_at hl 0 rfl) ?_
  refine lv_iload_n hx hb dX10_book_1 rfl (lv_at hl 1 rfl) ?_
  refine hx_goi (hx_runV (As := [.int i1]) (rest := []) ⟨hx, hb, hml, hown, hts⟩ hW gy td_10 (T := TX10) (N := 98) rfl (c_X10_isPerson l dC dI dA L h s.heap.size y i1 gy f_y_20) (cwV 1 hts (hx_gV kw_1552 kw_1549 kw_1551 kw_68 kw_103) rfl rfl rfl (by decide +kernel) ⟨Nat.le_of_ble_eq_true rfl, Nat.le_of_ble_eq_true rfl⟩) rfl hl.1 rfl (Nat.le_of_ble_eq_true rfl) dX10_book_2 ⟨Nat.le_of_ble_eq_true rfl, Nat.le_of_ble_eq_true rfl⟩) hW (fun r_3 L_1 h_2 H locs p_4 hW => ?_)
  obtain ⟨p_4, eu⟩ := p_4
  cases eu
  rcases p_4 with ⟨kp_4, rfl⟩ | ⟨kp_4, rfl⟩
  · exfalso
    omega
  · skip
    refine hb_if_eq (zx := 0) (tgt := 28) hx hb (by decide) dX10_book_5 (by decide) (fun c_5 => ?_) (fun c_5 => absurd c_5 (by decide))
    refine lv_ldcw (v := -1000000) hx hb hown (hts _ kw_1569) dX10_book_28 ?_
    exact hx_reti hx hb hr hlk hW ⟨rfl, hM⟩ dX10_book_31


theorem dX10_summons_0 : decode cX10_summons 0 = .ok (.aload_n 0, 1) := by decide +kernel
theorem dX10_summons_1 : decode cX10_summons 1 = .ok (.iload_n 1, 1) := by decide +kernel
theorem dX10_summons_2 : decode cX10_summons 2 = .ok (.invokevirtual 370, 3) := by decide +kernel
theorem dX10_summons_5 : decode cX10_summons 5 = .ok (.ifCond .eq 23, 3) := by decide +kernel
theorem dX10_summons_28 : decode cX10_summons 28 = .ok (.iconst (-1), 1) := by decide +kernel
theorem dX10_summons_29 : decode cX10_summons 29 = .ok (.ireturn, 1) := by decide +kernel
set_option maxHeartbeats 4000000 in
set_option maxRecDepth 100000 in
theorem c_X10_summons (l : Launch) (dC : Nat → ClassId) (dI : Nat → Nat → Nat) (dA : Nat → ClassId) (L : List Nat) (h : hx_h) (sz : Nat) (y : Nat) (a : Int32) (b : Int32) (gy : hx_g L h y 10) (f_y_36 : h.2.1 y 36 = 0) : Met l yX10_summons (Cond.code yX10_summons cX10_summons 3 (some .int) :: hx_all) ({ frames := 2, cells := 0, slots := 0, locals := 43 }) (va_Pc [.ref y, .int a, .int b] (hx_B P_tb (P_ty dA) (dC, dI) vwCl L h sz)) (va_Qi (fun (r : Int32) (u : List Nat × hx_h) => (r = -1) ∧ hx_S P_tb [] L h u.1 u.2) (hx_E P_tb (P_ty dA) (dC, dI) vwCl (hx_A L sz)) (hx_A L sz)) 0 0 (hx_A L sz) := by
  refine hx_met (lv := [(0, .ref y), (1, .int a), (2, .int b)]) (by decide +kernel) rfl (Nat.le_of_ble_eq_true rfl) rfl ?_
  intro p e s m below meth c hx hb hml hr hlk hts0 hown hin hsz hW ls hl
  have hts : ∀ w ∈ hx_all, w.before _ s = true := fun w hw => hts0 w (List.mem_cons_of_mem _ hw)
  have hown : s.vm.findClass "SmallCourtModel" = some m.cls := hown
  have hM : hx_S P_tb [] L h L h := hx_S.rf
  refine lv_aload_n hx hb dX10_summons_0 rfl (lv_at hl 0 rfl) ?_
  refine lv_iload_n hx hb dX10_summons_1 rfl (lv_at hl 1 rfl) ?_
  refine hx_goi (hx_runV (As := [.int a]) (rest := []) ⟨hx, hb, hml, hown, hts⟩ hW gy td_10 (T := TX10) (N := 98) rfl (c_X10_isClaim l dC dI dA L h s.heap.size y a gy f_y_36) (cwV 1 hts (hx_gV kw_1597 kw_1594 kw_1596 kw_73 kw_103) rfl rfl rfl (by decide +kernel) ⟨Nat.le_of_ble_eq_true rfl, Nat.le_of_ble_eq_true rfl⟩) rfl hl.1 rfl (Nat.le_of_ble_eq_true rfl) dX10_summons_2 ⟨Nat.le_of_ble_eq_true rfl, Nat.le_of_ble_eq_true rfl⟩) hW (fun r_3 L_1 h_2 H locs p_4 hW => ?_)
  obtain ⟨p_4, eu⟩ := p_4
  cases eu
  rcases p_4 with ⟨kp_4, rfl⟩ | ⟨kp_4, rfl⟩
  · exfalso
    omega
  · skip
    refine hb_if_eq (zx := 0) (tgt := 28) hx hb (by decide) dX10_summons_5 (by decide) (fun c_5 => ?_) (fun c_5 => absurd c_5 (by decide))
    refine lv_iconst (v := -1) hx hb dX10_summons_28 (by decide) ?_
    exact hx_reti hx hb hr hlk hW ⟨rfl, hM⟩ dX10_summons_29


theorem dX10_hear_0 : decode cX10_hear 0 = .ok (.aload_n 0, 1) := by decide +kernel
theorem dX10_hear_1 : decode cX10_hear 1 = .ok (.iload_n 1, 1) := by decide +kernel
theorem dX10_hear_2 : decode cX10_hear 2 = .ok (.invokevirtual 370, 3) := by decide +kernel
theorem dX10_hear_5 : decode cX10_hear 5 = .ok (.ifCond .eq 42, 3) := by decide +kernel
theorem dX10_hear_47 : decode cX10_hear 47 = .ok (.iconst (-1), 1) := by decide +kernel
theorem dX10_hear_48 : decode cX10_hear 48 = .ok (.ireturn, 1) := by decide +kernel
set_option maxHeartbeats 4000000 in
set_option maxRecDepth 100000 in
theorem c_X10_hear (l : Launch) (dC : Nat → ClassId) (dI : Nat → Nat → Nat) (dA : Nat → ClassId) (L : List Nat) (h : hx_h) (sz : Nat) (y : Nat) (i1 : Int32) (i2 : Int32) (i3 : Int32) (i4 : Int32) (gy : hx_g L h y 10) (f_y_36 : h.2.1 y 36 = 0) : Met l yX10_hear (Cond.code yX10_hear cX10_hear 6 (some .int) :: hx_all) ({ frames := 2, cells := 0, slots := 0, locals := 43 }) (va_Pc [.ref y, .int i1, .int i2, .int i3, .int i4] (hx_B P_tb (P_ty dA) (dC, dI) vwCl L h sz)) (va_Qi (fun (r : Int32) (u : List Nat × hx_h) => (r = -1) ∧ hx_S P_tb [] L h u.1 u.2) (hx_E P_tb (P_ty dA) (dC, dI) vwCl (hx_A L sz)) (hx_A L sz)) 0 0 (hx_A L sz) := by
  refine hx_met (lv := [(0, .ref y), (1, .int i1), (2, .int i2), (3, .int i3), (4, .int i4)]) (by decide +kernel) rfl (Nat.le_of_ble_eq_true rfl) rfl ?_
  intro p e s m below meth c hx hb hml hr hlk hts0 hown hin hsz hW ls hl
  have hts : ∀ w ∈ hx_all, w.before _ s = true := fun w hw => hts0 w (List.mem_cons_of_mem _ hw)
  have hown : s.vm.findClass "SmallCourtModel" = some m.cls := hown
  have hM : hx_S P_tb [] L h L h := hx_S.rf
  refine lv_aload_n hx hb dX10_hear_0 rfl (lv_at hl 0 rfl) ?_
  refine lv_iload_n hx hb dX10_hear_1 rfl (lv_at hl 1 rfl) ?_
  refine hx_goi (hx_runV (As := [.int i1]) (rest := []) ⟨hx, hb, hml, hown, hts⟩ hW gy td_10 (T := TX10) (N := 98) rfl (c_X10_isClaim l dC dI dA L h s.heap.size y i1 gy f_y_36) (cwV 1 hts (hx_gV kw_1597 kw_1594 kw_1596 kw_73 kw_103) rfl rfl rfl (by decide +kernel) ⟨Nat.le_of_ble_eq_true rfl, Nat.le_of_ble_eq_true rfl⟩) rfl hl.1 rfl (Nat.le_of_ble_eq_true rfl) dX10_hear_2 ⟨Nat.le_of_ble_eq_true rfl, Nat.le_of_ble_eq_true rfl⟩) hW (fun r_3 L_1 h_2 H locs p_4 hW => ?_)
  obtain ⟨p_4, eu⟩ := p_4
  cases eu
  rcases p_4 with ⟨kp_4, rfl⟩ | ⟨kp_4, rfl⟩
  · exfalso
    omega
  · skip
    refine hb_if_eq (zx := 0) (tgt := 47) hx hb (by decide) dX10_hear_5 (by decide) (fun c_5 => ?_) (fun c_5 => absurd c_5 (by decide))
    refine lv_iconst (v := -1) hx hb dX10_hear_47 (by decide) ?_
    exact hx_reti hx hb hr hlk hW ⟨rfl, hM⟩ dX10_hear_48


theorem dX10_order_0 : decode cX10_order 0 = .ok (.aload_n 0, 1) := by decide +kernel
theorem dX10_order_1 : decode cX10_order 1 = .ok (.iload_n 1, 1) := by decide +kernel
theorem dX10_order_2 : decode cX10_order 2 = .ok (.invokevirtual 370, 3) := by decide +kernel
theorem dX10_order_5 : decode cX10_order 5 = .ok (.ifCond .eq 48, 3) := by decide +kernel
theorem dX10_order_53 : decode cX10_order 53 = .ok (.iconst (-1), 1) := by decide +kernel
theorem dX10_order_54 : decode cX10_order 54 = .ok (.ireturn, 1) := by decide +kernel
set_option maxHeartbeats 4000000 in
set_option maxRecDepth 100000 in
theorem c_X10_order (l : Launch) (dC : Nat → ClassId) (dI : Nat → Nat → Nat) (dA : Nat → ClassId) (L : List Nat) (h : hx_h) (sz : Nat) (y : Nat) (a : Int32) (b : Int32) (gy : hx_g L h y 10) (f_y_36 : h.2.1 y 36 = 0) : Met l yX10_order (Cond.code yX10_order cX10_order 7 (some .int) :: hx_all) ({ frames := 2, cells := 0, slots := 0, locals := 43 }) (va_Pc [.ref y, .int a, .int b] (hx_B P_tb (P_ty dA) (dC, dI) vwCl L h sz)) (va_Qi (fun (r : Int32) (u : List Nat × hx_h) => (r = -1) ∧ hx_S P_tb [] L h u.1 u.2) (hx_E P_tb (P_ty dA) (dC, dI) vwCl (hx_A L sz)) (hx_A L sz)) 0 0 (hx_A L sz) := by
  refine hx_met (lv := [(0, .ref y), (1, .int a), (2, .int b)]) (by decide +kernel) rfl (Nat.le_of_ble_eq_true rfl) rfl ?_
  intro p e s m below meth c hx hb hml hr hlk hts0 hown hin hsz hW ls hl
  have hts : ∀ w ∈ hx_all, w.before _ s = true := fun w hw => hts0 w (List.mem_cons_of_mem _ hw)
  have hown : s.vm.findClass "SmallCourtModel" = some m.cls := hown
  have hM : hx_S P_tb [] L h L h := hx_S.rf
  refine lv_aload_n hx hb dX10_order_0 rfl (lv_at hl 0 rfl) ?_
  refine lv_iload_n hx hb dX10_order_1 rfl (lv_at hl 1 rfl) ?_
  refine hx_goi (hx_runV (As := [.int a]) (rest := []) ⟨hx, hb, hml, hown, hts⟩ hW gy td_10 (T := TX10) (N := 98) rfl (c_X10_isClaim l dC dI dA L h s.heap.size y a gy f_y_36) (cwV 1 hts (hx_gV kw_1597 kw_1594 kw_1596 kw_73 kw_103) rfl rfl rfl (by decide +kernel) ⟨Nat.le_of_ble_eq_true rfl, Nat.le_of_ble_eq_true rfl⟩) rfl hl.1 rfl (Nat.le_of_ble_eq_true rfl) dX10_order_2 ⟨Nat.le_of_ble_eq_true rfl, Nat.le_of_ble_eq_true rfl⟩) hW (fun r_3 L_1 h_2 H locs p_4 hW => ?_)
  obtain ⟨p_4, eu⟩ := p_4
  cases eu
  rcases p_4 with ⟨kp_4, rfl⟩ | ⟨kp_4, rfl⟩
  · exfalso
    omega
  · skip
    refine hb_if_eq (zx := 0) (tgt := 53) hx hb (by decide) dX10_order_5 (by decide) (fun c_5 => ?_) (fun c_5 => absurd c_5 (by decide))
    refine lv_iconst (v := -1) hx hb dX10_order_53 (by decide) ?_
    exact hx_reti hx hb hr hlk hW ⟨rfl, hM⟩ dX10_order_54


theorem dX10_seize_0 : decode cX10_seize 0 = .ok (.aload_n 0, 1) := by decide +kernel
theorem dX10_seize_1 : decode cX10_seize 1 = .ok (.iload_n 1, 1) := by decide +kernel
theorem dX10_seize_2 : decode cX10_seize 2 = .ok (.invokevirtual 370, 3) := by decide +kernel
theorem dX10_seize_5 : decode cX10_seize 5 = .ok (.ifCond .eq 24, 3) := by decide +kernel
theorem dX10_seize_29 : decode cX10_seize 29 = .ok (.ldc_w 357, 3) := by decide +kernel
theorem dX10_seize_32 : decode cX10_seize 32 = .ok (.ireturn, 1) := by decide +kernel
set_option maxHeartbeats 4000000 in
set_option maxRecDepth 100000 in
theorem c_X10_seize (l : Launch) (dC : Nat → ClassId) (dI : Nat → Nat → Nat) (dA : Nat → ClassId) (L : List Nat) (h : hx_h) (sz : Nat) (y : Nat) (a : Int32) (b : Int32) (gy : hx_g L h y 10) (f_y_36 : h.2.1 y 36 = 0) : Met l yX10_seize (Cond.code yX10_seize cX10_seize 3 (some .int) :: hx_all) ({ frames := 2, cells := 0, slots := 0, locals := 43 }) (va_Pc [.ref y, .int a, .int b] (hx_B P_tb (P_ty dA) (dC, dI) vwCl L h sz)) (va_Qi (fun (r : Int32) (u : List Nat × hx_h) => (r = -1000000) ∧ hx_S P_tb [] L h u.1 u.2) (hx_E P_tb (P_ty dA) (dC, dI) vwCl (hx_A L sz)) (hx_A L sz)) 0 0 (hx_A L sz) := by
  refine hx_met (lv := [(0, .ref y), (1, .int a), (2, .int b)]) (by decide +kernel) rfl (Nat.le_of_ble_eq_true rfl) rfl ?_
  intro p e s m below meth c hx hb hml hr hlk hts0 hown hin hsz hW ls hl
  have hts : ∀ w ∈ hx_all, w.before _ s = true := fun w hw => hts0 w (List.mem_cons_of_mem _ hw)
  have hown : s.vm.findClass "SmallCourtModel" = some m.cls := hown
  have hM : hx_S P_tb [] L h L h := hx_S.rf
  refine lv_aload_n hx hb dX10_seize_0 rfl (lv_at hl 0 rfl) ?_
  refine lv_iload_n hx hb dX10_seize_1 rfl (lv_at hl 1 rfl) ?_
  refine hx_goi (hx_runV (As := [.int a]) (rest := []) ⟨hx, hb, hml, hown, hts⟩ hW gy td_10 (T := TX10) (N := 98) rfl (c_X10_isClaim l dC dI dA L h s.heap.size y a gy f_y_36) (cwV 1 hts (hx_gV kw_1597 kw_1594 kw_1596 kw_73 kw_103) rfl rfl rfl (by decide +kernel) ⟨Nat.le_of_ble_eq_true rfl, Nat.le_of_ble_eq_true rfl⟩) rfl hl.1 rfl (Nat.le_of_ble_eq_true rfl) dX10_seize_2 ⟨Nat.le_of_ble_eq_true rfl, Nat.le_of_ble_eq_true rfl⟩) hW (fun r_3 L_1 h_2 H locs p_4 hW => ?_)
  obtain ⟨p_4, eu⟩ := p_4
  cases eu
  rcases p_4 with ⟨kp_4, rfl⟩ | ⟨kp_4, rfl⟩
  · exfalso
    omega
  · skip
    refine hb_if_eq (zx := 0) (tgt := 29) hx hb (by decide) dX10_seize_5 (by decide) (fun c_5 => ?_) (fun c_5 => absurd c_5 (by decide))
    refine lv_ldcw (v := -1000000) hx hb hown (hts _ kw_1569) dX10_seize_29 ?_
    exact hx_reti hx hb hr hlk hW ⟨rfl, hM⟩ dX10_seize_32


theorem dX10_gaol_0 : decode cX10_gaol 0 = .ok (.aload_n 0, 1) := by decide +kernel
theorem dX10_gaol_1 : decode cX10_gaol 1 = .ok (.iload_n 1, 1) := by decide +kernel
theorem dX10_gaol_2 : decode cX10_gaol 2 = .ok (.invokevirtual 370, 3) := by decide +kernel
theorem dX10_gaol_5 : decode cX10_gaol 5 = .ok (.ifCond .eq 27, 3) := by decide +kernel
theorem dX10_gaol_32 : decode cX10_gaol 32 = .ok (.iconst (-1), 1) := by decide +kernel
theorem dX10_gaol_33 : decode cX10_gaol 33 = .ok (.ireturn, 1) := by decide +kernel
set_option maxHeartbeats 4000000 in
set_option maxRecDepth 100000 in
theorem c_X10_gaol (l : Launch) (dC : Nat → ClassId) (dI : Nat → Nat → Nat) (dA : Nat → ClassId) (L : List Nat) (h : hx_h) (sz : Nat) (y : Nat) (a : Int32) (gy : hx_g L h y 10) (f_y_36 : h.2.1 y 36 = 0) : Met l yX10_gaol (Cond.code yX10_gaol cX10_gaol 3 (some .int) :: hx_all) ({ frames := 2, cells := 0, slots := 0, locals := 43 }) (va_Pc [.ref y, .int a] (hx_B P_tb (P_ty dA) (dC, dI) vwCl L h sz)) (va_Qi (fun (r : Int32) (u : List Nat × hx_h) => (r = -1) ∧ hx_S P_tb [] L h u.1 u.2) (hx_E P_tb (P_ty dA) (dC, dI) vwCl (hx_A L sz)) (hx_A L sz)) 0 0 (hx_A L sz) := by
  refine hx_met (lv := [(0, .ref y), (1, .int a)]) (by decide +kernel) rfl (Nat.le_of_ble_eq_true rfl) rfl ?_
  intro p e s m below meth c hx hb hml hr hlk hts0 hown hin hsz hW ls hl
  have hts : ∀ w ∈ hx_all, w.before _ s = true := fun w hw => hts0 w (List.mem_cons_of_mem _ hw)
  have hown : s.vm.findClass "SmallCourtModel" = some m.cls := hown
  have hM : hx_S P_tb [] L h L h := hx_S.rf
  refine lv_aload_n hx hb dX10_gaol_0 rfl (lv_at hl 0 rfl) ?_
  refine lv_iload_n hx hb dX10_gaol_1 rfl (lv_at hl 1 rfl) ?_
  refine hx_goi (hx_runV (As := [.int a]) (rest := []) ⟨hx, hb, hml, hown, hts⟩ hW gy td_10 (T := TX10) (N := 98) rfl (c_X10_isClaim l dC dI dA L h s.heap.size y a gy f_y_36) (cwV 1 hts (hx_gV kw_1597 kw_1594 kw_1596 kw_73 kw_103) rfl rfl rfl (by decide +kernel) ⟨Nat.le_of_ble_eq_true rfl, Nat.le_of_ble_eq_true rfl⟩) rfl hl.1 rfl (Nat.le_of_ble_eq_true rfl) dX10_gaol_2 ⟨Nat.le_of_ble_eq_true rfl, Nat.le_of_ble_eq_true rfl⟩) hW (fun r_3 L_1 h_2 H locs p_4 hW => ?_)
  obtain ⟨p_4, eu⟩ := p_4
  cases eu
  rcases p_4 with ⟨kp_4, rfl⟩ | ⟨kp_4, rfl⟩
  · exfalso
    omega
  · skip
    refine hb_if_eq (zx := 0) (tgt := 32) hx hb (by decide) dX10_gaol_5 (by decide) (fun c_5 => ?_) (fun c_5 => absurd c_5 (by decide))
    refine lv_iconst (v := -1) hx hb dX10_gaol_32 (by decide) ?_
    exact hx_reti hx hb hr hlk hW ⟨rfl, hM⟩ dX10_gaol_33


theorem dX10_claim_0 : decode cX10_claim 0 = .ok (.aload_n 0, 1) := by decide +kernel
theorem dX10_claim_1 : decode cX10_claim 1 = .ok (.iload_n 1, 1) := by decide +kernel
theorem dX10_claim_2 : decode cX10_claim 2 = .ok (.invokevirtual 370, 3) := by decide +kernel
theorem dX10_claim_5 : decode cX10_claim 5 = .ok (.ifCond .ne 5, 3) := by decide +kernel
theorem dX10_claim_8 : decode cX10_claim 8 = .ok (.iconst (-1), 1) := by decide +kernel
theorem dX10_claim_9 : decode cX10_claim 9 = .ok (.ireturn, 1) := by decide +kernel
set_option maxHeartbeats 4000000 in
set_option maxRecDepth 100000 in
theorem c_X10_claim (l : Launch) (dC : Nat → ClassId) (dI : Nat → Nat → Nat) (dA : Nat → ClassId) (L : List Nat) (h : hx_h) (sz : Nat) (y : Nat) (a : Int32) (b : Int32) (gy : hx_g L h y 10) (f_y_36 : h.2.1 y 36 = 0) : Met l yX10_claim (Cond.code yX10_claim cX10_claim 3 (some .int) :: hx_all) ({ frames := 2, cells := 0, slots := 0, locals := 43 }) (va_Pc [.ref y, .int a, .int b] (hx_B P_tb (P_ty dA) (dC, dI) vwCl L h sz)) (va_Qi (fun (r : Int32) (u : List Nat × hx_h) => (r = -1) ∧ hx_S P_tb [] L h u.1 u.2) (hx_E P_tb (P_ty dA) (dC, dI) vwCl (hx_A L sz)) (hx_A L sz)) 0 0 (hx_A L sz) := by
  refine hx_met (lv := [(0, .ref y), (1, .int a), (2, .int b)]) (by decide +kernel) rfl (Nat.le_of_ble_eq_true rfl) rfl ?_
  intro p e s m below meth c hx hb hml hr hlk hts0 hown hin hsz hW ls hl
  have hts : ∀ w ∈ hx_all, w.before _ s = true := fun w hw => hts0 w (List.mem_cons_of_mem _ hw)
  have hown : s.vm.findClass "SmallCourtModel" = some m.cls := hown
  have hM : hx_S P_tb [] L h L h := hx_S.rf
  refine lv_aload_n hx hb dX10_claim_0 rfl (lv_at hl 0 rfl) ?_
  refine lv_iload_n hx hb dX10_claim_1 rfl (lv_at hl 1 rfl) ?_
  refine hx_goi (hx_runV (As := [.int a]) (rest := []) ⟨hx, hb, hml, hown, hts⟩ hW gy td_10 (T := TX10) (N := 98) rfl (c_X10_isClaim l dC dI dA L h s.heap.size y a gy f_y_36) (cwV 1 hts (hx_gV kw_1597 kw_1594 kw_1596 kw_73 kw_103) rfl rfl rfl (by decide +kernel) ⟨Nat.le_of_ble_eq_true rfl, Nat.le_of_ble_eq_true rfl⟩) rfl hl.1 rfl (Nat.le_of_ble_eq_true rfl) dX10_claim_2 ⟨Nat.le_of_ble_eq_true rfl, Nat.le_of_ble_eq_true rfl⟩) hW (fun r_3 L_1 h_2 H locs p_4 hW => ?_)
  obtain ⟨p_4, eu⟩ := p_4
  cases eu
  rcases p_4 with ⟨kp_4, rfl⟩ | ⟨kp_4, rfl⟩
  · exfalso
    omega
  · skip
    refine hb_if_ne (zx := 0) (tgt := 10) hx hb (by decide) dX10_claim_5 (by decide) (fun c_5 => absurd c_5 (by decide)) (fun c_5 => ?_)
    refine lv_iconst (v := -1) hx hb dX10_claim_8 (by decide) ?_
    exact hx_reti hx hb hr hlk hW ⟨rfl, hM⟩ dX10_claim_9


theorem dX10_state_0 : decode cX10_state 0 = .ok (.aload_n 0, 1) := by decide +kernel
theorem dX10_state_1 : decode cX10_state 1 = .ok (.iload_n 1, 1) := by decide +kernel
theorem dX10_state_2 : decode cX10_state 2 = .ok (.invokevirtual 370, 3) := by decide +kernel
theorem dX10_state_5 : decode cX10_state 5 = .ok (.ifCond .eq 35, 3) := by decide +kernel
theorem dX10_state_40 : decode cX10_state 40 = .ok (.iconst (-1), 1) := by decide +kernel
theorem dX10_state_41 : decode cX10_state 41 = .ok (.ireturn, 1) := by decide +kernel
set_option maxHeartbeats 4000000 in
set_option maxRecDepth 100000 in
theorem c_X10_state (l : Launch) (dC : Nat → ClassId) (dI : Nat → Nat → Nat) (dA : Nat → ClassId) (L : List Nat) (h : hx_h) (sz : Nat) (y : Nat) (i1 : Int32) (i2 : Int32) (i3 : Int32) (i4 : Int32) (gy : hx_g L h y 10) (f_y_36 : h.2.1 y 36 = 0) : Met l yX10_state (Cond.code yX10_state cX10_state 5 (some .int) :: hx_all) ({ frames := 2, cells := 0, slots := 0, locals := 43 }) (va_Pc [.ref y, .int i1, .int i2, .int i3, .int i4] (hx_B P_tb (P_ty dA) (dC, dI) vwCl L h sz)) (va_Qi (fun (r : Int32) (u : List Nat × hx_h) => (r = -1) ∧ hx_S P_tb [] L h u.1 u.2) (hx_E P_tb (P_ty dA) (dC, dI) vwCl (hx_A L sz)) (hx_A L sz)) 0 0 (hx_A L sz) := by
  refine hx_met (lv := [(0, .ref y), (1, .int i1), (2, .int i2), (3, .int i3), (4, .int i4)]) (by decide +kernel) rfl (Nat.le_of_ble_eq_true rfl) rfl ?_
  intro p e s m below meth c hx hb hml hr hlk hts0 hown hin hsz hW ls hl
  have hts : ∀ w ∈ hx_all, w.before _ s = true := fun w hw => hts0 w (List.mem_cons_of_mem _ hw)
  have hown : s.vm.findClass "SmallCourtModel" = some m.cls := hown
  have hM : hx_S P_tb [] L h L h := hx_S.rf
  refine lv_aload_n hx hb dX10_state_0 rfl (lv_at hl 0 rfl) ?_
  refine lv_iload_n hx hb dX10_state_1 rfl (lv_at hl 1 rfl) ?_
  refine hx_goi (hx_runV (As := [.int i1]) (rest := []) ⟨hx, hb, hml, hown, hts⟩ hW gy td_10 (T := TX10) (N := 98) rfl (c_X10_isClaim l dC dI dA L h s.heap.size y i1 gy f_y_36) (cwV 1 hts (hx_gV kw_1597 kw_1594 kw_1596 kw_73 kw_103) rfl rfl rfl (by decide +kernel) ⟨Nat.le_of_ble_eq_true rfl, Nat.le_of_ble_eq_true rfl⟩) rfl hl.1 rfl (Nat.le_of_ble_eq_true rfl) dX10_state_2 ⟨Nat.le_of_ble_eq_true rfl, Nat.le_of_ble_eq_true rfl⟩) hW (fun r_3 L_1 h_2 H locs p_4 hW => ?_)
  obtain ⟨p_4, eu⟩ := p_4
  cases eu
  rcases p_4 with ⟨kp_4, rfl⟩ | ⟨kp_4, rfl⟩
  · exfalso
    omega
  · skip
    refine hb_if_eq (zx := 0) (tgt := 40) hx hb (by decide) dX10_state_5 (by decide) (fun c_5 => ?_) (fun c_5 => absurd c_5 (by decide))
    refine lv_iconst (v := -1) hx hb dX10_state_40 (by decide) ?_
    exact hx_reti hx hb hr hlk hW ⟨rfl, hM⟩ dX10_state_41


theorem dX10_plan_0 : decode cX10_plan 0 = .ok (.aload_n 0, 1) := by decide +kernel
theorem dX10_plan_1 : decode cX10_plan 1 = .ok (.iload_n 1, 1) := by decide +kernel
theorem dX10_plan_2 : decode cX10_plan 2 = .ok (.invokevirtual 348, 3) := by decide +kernel
theorem dX10_plan_5 : decode cX10_plan 5 = .ok (.ifCond .eq 13, 3) := by decide +kernel
theorem dX10_plan_18 : decode cX10_plan 18 = .ok (.iconst (-1), 1) := by decide +kernel
theorem dX10_plan_19 : decode cX10_plan 19 = .ok (.ireturn, 1) := by decide +kernel
set_option maxHeartbeats 4000000 in
set_option maxRecDepth 100000 in
theorem c_X10_plan (l : Launch) (dC : Nat → ClassId) (dI : Nat → Nat → Nat) (dA : Nat → ClassId) (L : List Nat) (h : hx_h) (sz : Nat) (y : Nat) (a : Int32) (b : Int32) (gy : hx_g L h y 10) (f_y_20 : h.2.1 y 20 = 0) : Met l yX10_plan (Cond.code yX10_plan cX10_plan 12 (some .int) :: hx_all) ({ frames := 2, cells := 0, slots := 0, locals := 43 }) (va_Pc [.ref y, .int a, .int b] (hx_B P_tb (P_ty dA) (dC, dI) vwCl L h sz)) (va_Qi (fun (r : Int32) (u : List Nat × hx_h) => (r = -1) ∧ hx_S P_tb [] L h u.1 u.2) (hx_E P_tb (P_ty dA) (dC, dI) vwCl (hx_A L sz)) (hx_A L sz)) 0 0 (hx_A L sz) := by
  refine hx_met (lv := [(0, .ref y), (1, .int a), (2, .int b)]) (by decide +kernel) rfl (Nat.le_of_ble_eq_true rfl) rfl ?_
  intro p e s m below meth c hx hb hml hr hlk hts0 hown hin hsz hW ls hl
  have hts : ∀ w ∈ hx_all, w.before _ s = true := fun w hw => hts0 w (List.mem_cons_of_mem _ hw)
  have hown : s.vm.findClass "SmallCourtModel" = some m.cls := hown
  have hM : hx_S P_tb [] L h L h := hx_S.rf
  refine lv_aload_n hx hb dX10_plan_0 rfl (lv_at hl 0 rfl) ?_
  refine lv_iload_n hx hb dX10_plan_1 rfl (lv_at hl 1 rfl) ?_
  refine hx_goi (hx_runV (As := [.int a]) (rest := []) ⟨hx, hb, hml, hown, hts⟩ hW gy td_10 (T := TX10) (N := 98) rfl (c_X10_isPerson l dC dI dA L h s.heap.size y a gy f_y_20) (cwV 1 hts (hx_gV kw_1552 kw_1549 kw_1551 kw_68 kw_103) rfl rfl rfl (by decide +kernel) ⟨Nat.le_of_ble_eq_true rfl, Nat.le_of_ble_eq_true rfl⟩) rfl hl.1 rfl (Nat.le_of_ble_eq_true rfl) dX10_plan_2 ⟨Nat.le_of_ble_eq_true rfl, Nat.le_of_ble_eq_true rfl⟩) hW (fun r_3 L_1 h_2 H locs p_4 hW => ?_)
  obtain ⟨p_4, eu⟩ := p_4
  cases eu
  rcases p_4 with ⟨kp_4, rfl⟩ | ⟨kp_4, rfl⟩
  · exfalso
    omega
  · skip
    refine hb_if_eq (zx := 0) (tgt := 18) hx hb (by decide) dX10_plan_5 (by decide) (fun c_5 => ?_) (fun c_5 => absurd c_5 (by decide))
    refine lv_iconst (v := -1) hx hb dX10_plan_18 (by decide) ?_
    exact hx_reti hx hb hr hlk hW ⟨rfl, hM⟩ dX10_plan_19


theorem dX10_list_0 : decode cX10_list 0 = .ok (.aload_n 0, 1) := by decide +kernel
theorem dX10_list_1 : decode cX10_list 1 = .ok (.iload_n 1, 1) := by decide +kernel
theorem dX10_list_2 : decode cX10_list 2 = .ok (.invokevirtual 370, 3) := by decide +kernel
theorem dX10_list_5 : decode cX10_list 5 = .ok (.ifCond .eq 32, 3) := by decide +kernel
theorem dX10_list_37 : decode cX10_list 37 = .ok (.iconst (-1), 1) := by decide +kernel
theorem dX10_list_38 : decode cX10_list 38 = .ok (.ireturn, 1) := by decide +kernel
set_option maxHeartbeats 4000000 in
set_option maxRecDepth 100000 in
theorem c_X10_list (l : Launch) (dC : Nat → ClassId) (dI : Nat → Nat → Nat) (dA : Nat → ClassId) (L : List Nat) (h : hx_h) (sz : Nat) (y : Nat) (a : Int32) (gy : hx_g L h y 10) (f_y_36 : h.2.1 y 36 = 0) : Met l yX10_list (Cond.code yX10_list cX10_list 3 (some .int) :: hx_all) ({ frames := 2, cells := 0, slots := 0, locals := 43 }) (va_Pc [.ref y, .int a] (hx_B P_tb (P_ty dA) (dC, dI) vwCl L h sz)) (va_Qi (fun (r : Int32) (u : List Nat × hx_h) => (r = -1) ∧ hx_S P_tb [] L h u.1 u.2) (hx_E P_tb (P_ty dA) (dC, dI) vwCl (hx_A L sz)) (hx_A L sz)) 0 0 (hx_A L sz) := by
  refine hx_met (lv := [(0, .ref y), (1, .int a)]) (by decide +kernel) rfl (Nat.le_of_ble_eq_true rfl) rfl ?_
  intro p e s m below meth c hx hb hml hr hlk hts0 hown hin hsz hW ls hl
  have hts : ∀ w ∈ hx_all, w.before _ s = true := fun w hw => hts0 w (List.mem_cons_of_mem _ hw)
  have hown : s.vm.findClass "SmallCourtModel" = some m.cls := hown
  have hM : hx_S P_tb [] L h L h := hx_S.rf
  refine lv_aload_n hx hb dX10_list_0 rfl (lv_at hl 0 rfl) ?_
  refine lv_iload_n hx hb dX10_list_1 rfl (lv_at hl 1 rfl) ?_
  refine hx_goi (hx_runV (As := [.int a]) (rest := []) ⟨hx, hb, hml, hown, hts⟩ hW gy td_10 (T := TX10) (N := 98) rfl (c_X10_isClaim l dC dI dA L h s.heap.size y a gy f_y_36) (cwV 1 hts (hx_gV kw_1597 kw_1594 kw_1596 kw_73 kw_103) rfl rfl rfl (by decide +kernel) ⟨Nat.le_of_ble_eq_true rfl, Nat.le_of_ble_eq_true rfl⟩) rfl hl.1 rfl (Nat.le_of_ble_eq_true rfl) dX10_list_2 ⟨Nat.le_of_ble_eq_true rfl, Nat.le_of_ble_eq_true rfl⟩) hW (fun r_3 L_1 h_2 H locs p_4 hW => ?_)
  obtain ⟨p_4, eu⟩ := p_4
  cases eu
  rcases p_4 with ⟨kp_4, rfl⟩ | ⟨kp_4, rfl⟩
  · exfalso
    omega
  · skip
    refine hb_if_eq (zx := 0) (tgt := 37) hx hb (by decide) dX10_list_5 (by decide) (fun c_5 => ?_) (fun c_5 => absurd c_5 (by decide))
    refine lv_iconst (v := -1) hx hb dX10_list_37 (by decide) ?_
    exact hx_reti hx hb hr hlk hW ⟨rfl, hM⟩ dX10_list_38


theorem dX10_habit_0 : decode cX10_habit 0 = .ok (.aload_n 0, 1) := by decide +kernel
theorem dX10_habit_1 : decode cX10_habit 1 = .ok (.iload_n 1, 1) := by decide +kernel
theorem dX10_habit_2 : decode cX10_habit 2 = .ok (.invokevirtual 348, 3) := by decide +kernel
theorem dX10_habit_5 : decode cX10_habit 5 = .ok (.ifCond .ne 5, 3) := by decide +kernel
theorem dX10_habit_8 : decode cX10_habit 8 = .ok (.iconst (-1), 1) := by decide +kernel
theorem dX10_habit_9 : decode cX10_habit 9 = .ok (.ireturn, 1) := by decide +kernel
set_option maxHeartbeats 4000000 in
set_option maxRecDepth 100000 in
theorem c_X10_habit (l : Launch) (dC : Nat → ClassId) (dI : Nat → Nat → Nat) (dA : Nat → ClassId) (L : List Nat) (h : hx_h) (sz : Nat) (y : Nat) (a : Int32) (b : Int32) (gy : hx_g L h y 10) (f_y_20 : h.2.1 y 20 = 0) : Met l yX10_habit (Cond.code yX10_habit cX10_habit 3 (some .int) :: hx_all) ({ frames := 2, cells := 0, slots := 0, locals := 43 }) (va_Pc [.ref y, .int a, .int b] (hx_B P_tb (P_ty dA) (dC, dI) vwCl L h sz)) (va_Qi (fun (r : Int32) (u : List Nat × hx_h) => (r = -1) ∧ hx_S P_tb [] L h u.1 u.2) (hx_E P_tb (P_ty dA) (dC, dI) vwCl (hx_A L sz)) (hx_A L sz)) 0 0 (hx_A L sz) := by
  refine hx_met (lv := [(0, .ref y), (1, .int a), (2, .int b)]) (by decide +kernel) rfl (Nat.le_of_ble_eq_true rfl) rfl ?_
  intro p e s m below meth c hx hb hml hr hlk hts0 hown hin hsz hW ls hl
  have hts : ∀ w ∈ hx_all, w.before _ s = true := fun w hw => hts0 w (List.mem_cons_of_mem _ hw)
  have hown : s.vm.findClass "SmallCourtModel" = some m.cls := hown
  have hM : hx_S P_tb [] L h L h := hx_S.rf
  refine lv_aload_n hx hb dX10_habit_0 rfl (lv_at hl 0 rfl) ?_
  refine lv_iload_n hx hb dX10_habit_1 rfl (lv_at hl 1 rfl) ?_
  refine hx_goi (hx_runV (As := [.int a]) (rest := []) ⟨hx, hb, hml, hown, hts⟩ hW gy td_10 (T := TX10) (N := 98) rfl (c_X10_isPerson l dC dI dA L h s.heap.size y a gy f_y_20) (cwV 1 hts (hx_gV kw_1552 kw_1549 kw_1551 kw_68 kw_103) rfl rfl rfl (by decide +kernel) ⟨Nat.le_of_ble_eq_true rfl, Nat.le_of_ble_eq_true rfl⟩) rfl hl.1 rfl (Nat.le_of_ble_eq_true rfl) dX10_habit_2 ⟨Nat.le_of_ble_eq_true rfl, Nat.le_of_ble_eq_true rfl⟩) hW (fun r_3 L_1 h_2 H locs p_4 hW => ?_)
  obtain ⟨p_4, eu⟩ := p_4
  cases eu
  rcases p_4 with ⟨kp_4, rfl⟩ | ⟨kp_4, rfl⟩
  · exfalso
    omega
  · skip
    refine hb_if_ne (zx := 0) (tgt := 10) hx hb (by decide) dX10_habit_5 (by decide) (fun c_5 => absurd c_5 (by decide)) (fun c_5 => ?_)
    refine lv_iconst (v := -1) hx hb dX10_habit_8 (by decide) ?_
    exact hx_reti hx hb hr hlk hW ⟨rfl, hM⟩ dX10_habit_9


theorem dX10_end_0 : decode cX10_end 0 = .ok (.iload_n 1, 1) := by decide +kernel
theorem dX10_end_1 : decode cX10_end 1 = .ok (.ifCond .lt 11, 3) := by decide +kernel
theorem dX10_end_4 : decode cX10_end 4 = .ok (.iload_n 1, 1) := by decide +kernel
theorem dX10_end_5 : decode cX10_end 5 = .ok (.aload_n 0, 1) := by decide +kernel
theorem dX10_end_6 : decode cX10_end 6 = .ok (.getfield 236, 3) := by decide +kernel
theorem dX10_end_9 : decode cX10_end 9 = .ok (.if_icmp .le 5, 3) := by decide +kernel
theorem dX10_end_12 : decode cX10_end 12 = .ok (.iconst (-1), 1) := by decide +kernel
theorem dX10_end_13 : decode cX10_end 13 = .ok (.ireturn, 1) := by decide +kernel
theorem dX10_end_14 : decode cX10_end 14 = .ok (.aload_n 0, 1) := by decide +kernel
theorem dX10_end_15 : decode cX10_end 15 = .ok (.iload_n 1, 1) := by decide +kernel
theorem dX10_end_16 : decode cX10_end 16 = .ok (.putfield 236, 3) := by decide +kernel
theorem dX10_end_19 : decode cX10_end 19 = .ok (.iload_n 1, 1) := by decide +kernel
theorem dX10_end_20 : decode cX10_end 20 = .ok (.ireturn, 1) := by decide +kernel
set_option maxHeartbeats 4000000 in
set_option maxRecDepth 100000 in
theorem c_X10_end (l : Launch) (dC : Nat → ClassId) (dI : Nat → Nat → Nat) (dA : Nat → ClassId) (L : List Nat) (h : hx_h) (sz : Nat) (y : Nat) (n : Int32) (gy : hx_g L h y 10) (f_y_7 : h.2.1 y 7 = 0) : Met l yX10_end (Cond.code yX10_end cX10_end 2 (some .int) :: hx_all) ({ frames := 0, cells := 0, slots := 0, locals := 0 }) (va_Pc [.ref y, .int n] (hx_B P_tb (P_ty dA) (dC, dI) vwCl L h sz)) (va_Qi (fun (r : Int32) (u : List Nat × hx_h) => ((n.toInt = 0) ∧ r = 0 ∨ ¬ (n.toInt = 0) ∧ r = -1) ∧ hx_S P_tb [(10, 7)] L h u.1 u.2) (hx_E P_tb (P_ty dA) (dC, dI) vwCl (hx_A L sz)) (hx_A L sz)) 0 0 (hx_A L sz) := by
  refine hx_met (lv := [(0, .ref y), (1, .int n)]) (by decide +kernel) rfl (Nat.le_of_ble_eq_true rfl) rfl ?_
  intro p e s m below meth c hx hb hml hr hlk hts0 hown hin hsz hW ls hl
  have hts : ∀ w ∈ hx_all, w.before _ s = true := fun w hw => hts0 w (List.mem_cons_of_mem _ hw)
  have hown : s.vm.findClass "SmallCourtModel" = some m.cls := hown
  have hM : hx_S P_tb [(10, 7)] L h L h := hx_S.rf
  refine lv_iload_n hx hb dX10_end_0 rfl (lv_at hl 1 rfl) ?_
  refine hb_if_lt (zx := n.toInt) (tgt := 12) hx hb rfl dX10_end_1 (by decide) (fun c_1 => ?_) (fun c_1 => ?_)
  · skip
    refine lv_iconst (v := -1) hx hb dX10_end_12 (by decide) ?_
    exact hx_reti hx hb hr hlk hW ⟨Or.inr ⟨by first | omega | decide, rfl⟩, hM⟩ dX10_end_13
  · skip
    refine lv_iload_n hx hb dX10_end_4 rfl (lv_at hl 1 rfl) ?_
    refine lv_aload_n hx hb dX10_end_5 rfl (lv_at hl 0 rfl) ?_
    refine hk_geti hx hb hts hC_10 hown hW gy td_10 7 (by decide) rfl kw_1150 ⟨rfl, rfl, rfl⟩ f_y_7 dX10_end_6 ?_
    refine hb_icmp_le (zx := n.toInt) (zy := 0) (tgt := 14) hx hb rfl (by decide) dX10_end_9 (by decide) (fun c_2 => ?_) (fun c_2 => ?_)
    · skip
      refine lv_aload_n hx hb dX10_end_14 rfl (lv_at hl 0 rfl) ?_
      refine lv_iload_n hx hb dX10_end_15 rfl (lv_at hl 1 rfl) ?_
      refine hk_puti hx hb hts hC_10 hown hW gy td_10 7 (by decide) rfl kw_1150 ⟨rfl, rfl, rfl⟩ rfl (x := n) rfl rfl rfl dX10_end_16 (fun H locs h_3 eh_3 hW hs => ?_)
      have hM := hM.tr (hs.mono (by decide))
      have gy := gy.S hs
      have f_4 : h_3.2.1 y 7 = n := by rw [eh_3]; exact hx_pi_at _ _ _ _
      refine lv_iload_n hx hb dX10_end_19 rfl (lv_at hl 1 rfl) ?_
      exact hx_reti hx hb hr hlk hW ⟨Or.inl ⟨by omega, Int32.toInt_inj.mp (by rw [show (0 : Int32).toInt = 0 from by decide]; omega)⟩, hM⟩ dX10_end_20
    · skip
      refine lv_iconst (v := -1) hx hb dX10_end_12 (by decide) ?_
      exact hx_reti hx hb hr hlk hW ⟨Or.inr ⟨by first | omega | decide, rfl⟩, hM⟩ dX10_end_13


theorem dX10_line_0 : decode cX10_line 0 = .ok (.aload_n 0, 1) := by decide +kernel
theorem dX10_line_1 : decode cX10_line 1 = .ok (.getfield 351, 3) := by decide +kernel
theorem dX10_line_4 : decode cX10_line 4 = .ok (.sipush 400, 3) := by decide +kernel
theorem dX10_line_7 : decode cX10_line 7 = .ok (.if_icmp .eq 58, 3) := by decide +kernel
theorem dX10_line_10 : decode cX10_line 10 = .ok (.aload_n 0, 1) := by decide +kernel
theorem dX10_line_11 : decode cX10_line 11 = .ok (.iload_n 1, 1) := by decide +kernel
theorem dX10_line_12 : decode cX10_line 12 = .ok (.invokevirtual 348, 3) := by decide +kernel
theorem dX10_line_15 : decode cX10_line 15 = .ok (.ifCond .eq 50, 3) := by decide +kernel
theorem dX10_line_65 : decode cX10_line 65 = .ok (.iconst (-1), 1) := by decide +kernel
theorem dX10_line_66 : decode cX10_line 66 = .ok (.ireturn, 1) := by decide +kernel
set_option maxHeartbeats 4000000 in
set_option maxRecDepth 100000 in
theorem c_X10_line (l : Launch) (dC : Nat → ClassId) (dI : Nat → Nat → Nat) (dA : Nat → ClassId) (L : List Nat) (h : hx_h) (sz : Nat) (y : Nat) (i1 : Int32) (i2 : Int32) (i3 : Int32) (i4 : Int32) (i5 : Int32) (gy : hx_g L h y 10) (f_y_29 : h.2.1 y 29 = 0) (f_y_20 : h.2.1 y 20 = 0) (f_y_0 : h.2.1 y 0 = 0) : Met l yX10_line (Cond.code yX10_line cX10_line 6 (some .int) :: hx_all) ({ frames := 2, cells := 0, slots := 0, locals := 43 }) (va_Pc [.ref y, .int i1, .int i2, .int i3, .int i4, .int i5] (hx_B P_tb (P_ty dA) (dC, dI) vwCl L h sz)) (va_Qi (fun (r : Int32) (u : List Nat × hx_h) => (r = -1) ∧ hx_S P_tb [] L h u.1 u.2) (hx_E P_tb (P_ty dA) (dC, dI) vwCl (hx_A L sz)) (hx_A L sz)) 0 0 (hx_A L sz) := by
  refine hx_met (lv := [(0, .ref y), (1, .int i1), (2, .int i2), (3, .int i3), (4, .int i4), (5, .int i5)]) (by decide +kernel) rfl (Nat.le_of_ble_eq_true rfl) rfl ?_
  intro p e s m below meth c hx hb hml hr hlk hts0 hown hin hsz hW ls hl
  have hts : ∀ w ∈ hx_all, w.before _ s = true := fun w hw => hts0 w (List.mem_cons_of_mem _ hw)
  have hown : s.vm.findClass "SmallCourtModel" = some m.cls := hown
  have hM : hx_S P_tb [] L h L h := hx_S.rf
  refine lv_aload_n hx hb dX10_line_0 rfl (lv_at hl 0 rfl) ?_
  refine hk_geti hx hb hts hC_10 hown hW gy td_10 29 (by decide) rfl kw_1172 ⟨rfl, rfl, rfl⟩ f_y_29 dX10_line_1 ?_
  refine lv_sipush (v := 400) hx hb dX10_line_4 (by decide) ?_
  refine hb_icmp_eq (zx := 0) (zy := 400) (tgt := 65) hx hb (by decide) (by decide) dX10_line_7 (by decide) (fun c_1 => absurd c_1 (by decide)) (fun c_1 => ?_)
  refine lv_aload_n hx hb dX10_line_10 rfl (lv_at hl 0 rfl) ?_
  refine lv_iload_n hx hb dX10_line_11 rfl (lv_at hl 1 rfl) ?_
  refine hx_goi (hx_runV (As := [.int i1]) (rest := []) ⟨hx, hb, hml, hown, hts⟩ hW gy td_10 (T := TX10) (N := 98) rfl (c_X10_isPerson l dC dI dA L h s.heap.size y i1 gy f_y_20) (cwV 1 hts (hx_gV kw_1552 kw_1549 kw_1551 kw_68 kw_103) rfl rfl rfl (by decide +kernel) ⟨Nat.le_of_ble_eq_true rfl, Nat.le_of_ble_eq_true rfl⟩) rfl hl.1 rfl (Nat.le_of_ble_eq_true rfl) dX10_line_12 ⟨Nat.le_of_ble_eq_true rfl, Nat.le_of_ble_eq_true rfl⟩) hW (fun r_4 L_2 h_3 H locs p_5 hW => ?_)
  obtain ⟨p_5, eu⟩ := p_5
  cases eu
  rcases p_5 with ⟨kp_5, rfl⟩ | ⟨kp_5, rfl⟩
  · exfalso
    omega
  · skip
    refine hb_if_eq (zx := 0) (tgt := 65) hx hb (by decide) dX10_line_15 (by decide) (fun c_6 => ?_) (fun c_6 => absurd c_6 (by decide))
    refine lv_iconst (v := -1) hx hb dX10_line_65 (by decide) ?_
    exact hx_reti hx hb hr hlk hW ⟨rfl, hM⟩ dX10_line_66


theorem dX10_file_0 : decode cX10_file 0 = .ok (.aload_n 0, 1) := by decide +kernel
theorem dX10_file_1 : decode cX10_file 1 = .ok (.getfield 367, 3) := by decide +kernel
theorem dX10_file_4 : decode cX10_file 4 = .ok (.bipush 100, 2) := by decide +kernel
theorem dX10_file_6 : decode cX10_file 6 = .ok (.if_icmp .eq 68, 3) := by decide +kernel
theorem dX10_file_9 : decode cX10_file 9 = .ok (.aload_n 0, 1) := by decide +kernel
theorem dX10_file_10 : decode cX10_file 10 = .ok (.iload_n 1, 1) := by decide +kernel
theorem dX10_file_11 : decode cX10_file 11 = .ok (.invokevirtual 348, 3) := by decide +kernel
theorem dX10_file_14 : decode cX10_file 14 = .ok (.ifCond .eq 60, 3) := by decide +kernel
theorem dX10_file_74 : decode cX10_file 74 = .ok (.iconst (-1), 1) := by decide +kernel
theorem dX10_file_75 : decode cX10_file 75 = .ok (.ireturn, 1) := by decide +kernel
set_option maxHeartbeats 4000000 in
set_option maxRecDepth 100000 in
theorem c_X10_file (l : Launch) (dC : Nat → ClassId) (dI : Nat → Nat → Nat) (dA : Nat → ClassId) (L : List Nat) (h : hx_h) (sz : Nat) (y : Nat) (i1 : Int32) (i2 : Int32) (i3 : Int32) (i4 : Int32) (i5 : Int32) (i6 : Int32) (gy : hx_g L h y 10) (f_y_36 : h.2.1 y 36 = 0) (f_y_20 : h.2.1 y 20 = 0) (f_y_0 : h.2.1 y 0 = 0) : Met l yX10_file (Cond.code yX10_file cX10_file 9 (some .int) :: hx_all) ({ frames := 2, cells := 0, slots := 0, locals := 43 }) (va_Pc [.ref y, .int i1, .int i2, .int i3, .int i4, .int i5, .int i6] (hx_B P_tb (P_ty dA) (dC, dI) vwCl L h sz)) (va_Qi (fun (r : Int32) (u : List Nat × hx_h) => (r = -1) ∧ hx_S P_tb [] L h u.1 u.2) (hx_E P_tb (P_ty dA) (dC, dI) vwCl (hx_A L sz)) (hx_A L sz)) 0 0 (hx_A L sz) := by
  refine hx_met (lv := [(0, .ref y), (1, .int i1), (2, .int i2), (3, .int i3), (4, .int i4), (5, .int i5), (6, .int i6)]) (by decide +kernel) rfl (Nat.le_of_ble_eq_true rfl) rfl ?_
  intro p e s m below meth c hx hb hml hr hlk hts0 hown hin hsz hW ls hl
  have hts : ∀ w ∈ hx_all, w.before _ s = true := fun w hw => hts0 w (List.mem_cons_of_mem _ hw)
  have hown : s.vm.findClass "SmallCourtModel" = some m.cls := hown
  have hM : hx_S P_tb [] L h L h := hx_S.rf
  refine lv_aload_n hx hb dX10_file_0 rfl (lv_at hl 0 rfl) ?_
  refine hk_geti hx hb hts hC_10 hown hW gy td_10 36 (by decide) rfl kw_1179 ⟨rfl, rfl, rfl⟩ f_y_36 dX10_file_1 ?_
  refine lv_bipush (v := 100) hx hb dX10_file_4 (by decide) ?_
  refine hb_icmp_eq (zx := 0) (zy := 100) (tgt := 74) hx hb (by decide) (by decide) dX10_file_6 (by decide) (fun c_1 => absurd c_1 (by decide)) (fun c_1 => ?_)
  refine lv_aload_n hx hb dX10_file_9 rfl (lv_at hl 0 rfl) ?_
  refine lv_iload_n hx hb dX10_file_10 rfl (lv_at hl 1 rfl) ?_
  refine hx_goi (hx_runV (As := [.int i1]) (rest := []) ⟨hx, hb, hml, hown, hts⟩ hW gy td_10 (T := TX10) (N := 98) rfl (c_X10_isPerson l dC dI dA L h s.heap.size y i1 gy f_y_20) (cwV 1 hts (hx_gV kw_1552 kw_1549 kw_1551 kw_68 kw_103) rfl rfl rfl (by decide +kernel) ⟨Nat.le_of_ble_eq_true rfl, Nat.le_of_ble_eq_true rfl⟩) rfl hl.1 rfl (Nat.le_of_ble_eq_true rfl) dX10_file_11 ⟨Nat.le_of_ble_eq_true rfl, Nat.le_of_ble_eq_true rfl⟩) hW (fun r_4 L_2 h_3 H locs p_5 hW => ?_)
  obtain ⟨p_5, eu⟩ := p_5
  cases eu
  rcases p_5 with ⟨kp_5, rfl⟩ | ⟨kp_5, rfl⟩
  · exfalso
    omega
  · skip
    refine hb_if_eq (zx := 0) (tgt := 74) hx hb (by decide) dX10_file_14 (by decide) (fun c_6 => ?_) (fun c_6 => absurd c_6 (by decide))
    refine lv_iconst (v := -1) hx hb dX10_file_74 (by decide) ?_
    exact hx_reti hx hb hr hlk hW ⟨rfl, hM⟩ dX10_file_75


theorem dX10_pay_0 : decode cX10_pay 0 = .ok (.aload_n 0, 1) := by decide +kernel
theorem dX10_pay_1 : decode cX10_pay 1 = .ok (.getfield 413, 3) := by decide +kernel
theorem dX10_pay_4 : decode cX10_pay 4 = .ok (.sipush 600, 3) := by decide +kernel
theorem dX10_pay_7 : decode cX10_pay 7 = .ok (.if_icmp .eq 59, 3) := by decide +kernel
theorem dX10_pay_10 : decode cX10_pay 10 = .ok (.aload_n 0, 1) := by decide +kernel
theorem dX10_pay_11 : decode cX10_pay 11 = .ok (.iload_n 1, 1) := by decide +kernel
theorem dX10_pay_12 : decode cX10_pay 12 = .ok (.invokevirtual 370, 3) := by decide +kernel
theorem dX10_pay_15 : decode cX10_pay 15 = .ok (.ifCond .eq 51, 3) := by decide +kernel
theorem dX10_pay_66 : decode cX10_pay 66 = .ok (.iconst (-1), 1) := by decide +kernel
theorem dX10_pay_67 : decode cX10_pay 67 = .ok (.ireturn, 1) := by decide +kernel
set_option maxHeartbeats 4000000 in
set_option maxRecDepth 100000 in
theorem c_X10_pay (l : Launch) (dC : Nat → ClassId) (dI : Nat → Nat → Nat) (dA : Nat → ClassId) (L : List Nat) (h : hx_h) (sz : Nat) (y : Nat) (i1 : Int32) (i2 : Int32) (i3 : Int32) (gy : hx_g L h y 10) (f_y_59 : h.2.1 y 59 = 0) (f_y_36 : h.2.1 y 36 = 0) : Met l yX10_pay (Cond.code yX10_pay cX10_pay 4 (some .int) :: hx_all) ({ frames := 2, cells := 0, slots := 0, locals := 43 }) (va_Pc [.ref y, .int i1, .int i2, .int i3] (hx_B P_tb (P_ty dA) (dC, dI) vwCl L h sz)) (va_Qi (fun (r : Int32) (u : List Nat × hx_h) => (r = -1) ∧ hx_S P_tb [] L h u.1 u.2) (hx_E P_tb (P_ty dA) (dC, dI) vwCl (hx_A L sz)) (hx_A L sz)) 0 0 (hx_A L sz) := by
  refine hx_met (lv := [(0, .ref y), (1, .int i1), (2, .int i2), (3, .int i3)]) (by decide +kernel) rfl (Nat.le_of_ble_eq_true rfl) rfl ?_
  intro p e s m below meth c hx hb hml hr hlk hts0 hown hin hsz hW ls hl
  have hts : ∀ w ∈ hx_all, w.before _ s = true := fun w hw => hts0 w (List.mem_cons_of_mem _ hw)
  have hown : s.vm.findClass "SmallCourtModel" = some m.cls := hown
  have hM : hx_S P_tb [] L h L h := hx_S.rf
  refine lv_aload_n hx hb dX10_pay_0 rfl (lv_at hl 0 rfl) ?_
  refine hk_geti hx hb hts hC_10 hown hW gy td_10 59 (by decide) rfl kw_1202 ⟨rfl, rfl, rfl⟩ f_y_59 dX10_pay_1 ?_
  refine lv_sipush (v := 600) hx hb dX10_pay_4 (by decide) ?_
  refine hb_icmp_eq (zx := 0) (zy := 600) (tgt := 66) hx hb (by decide) (by decide) dX10_pay_7 (by decide) (fun c_1 => absurd c_1 (by decide)) (fun c_1 => ?_)
  refine lv_aload_n hx hb dX10_pay_10 rfl (lv_at hl 0 rfl) ?_
  refine lv_iload_n hx hb dX10_pay_11 rfl (lv_at hl 1 rfl) ?_
  refine hx_goi (hx_runV (As := [.int i1]) (rest := []) ⟨hx, hb, hml, hown, hts⟩ hW gy td_10 (T := TX10) (N := 98) rfl (c_X10_isClaim l dC dI dA L h s.heap.size y i1 gy f_y_36) (cwV 1 hts (hx_gV kw_1597 kw_1594 kw_1596 kw_73 kw_103) rfl rfl rfl (by decide +kernel) ⟨Nat.le_of_ble_eq_true rfl, Nat.le_of_ble_eq_true rfl⟩) rfl hl.1 rfl (Nat.le_of_ble_eq_true rfl) dX10_pay_12 ⟨Nat.le_of_ble_eq_true rfl, Nat.le_of_ble_eq_true rfl⟩) hW (fun r_4 L_2 h_3 H locs p_5 hW => ?_)
  obtain ⟨p_5, eu⟩ := p_5
  cases eu
  rcases p_5 with ⟨kp_5, rfl⟩ | ⟨kp_5, rfl⟩
  · exfalso
    omega
  · skip
    refine hb_if_eq (zx := 0) (tgt := 66) hx hb (by decide) dX10_pay_15 (by decide) (fun c_6 => ?_) (fun c_6 => absurd c_6 (by decide))
    refine lv_iconst (v := -1) hx hb dX10_pay_66 (by decide) ?_
    exact hx_reti hx hb hr hlk hW ⟨rfl, hM⟩ dX10_pay_67


theorem dX10_strike_0 : decode cX10_strike 0 = .ok (.iload_n 1, 1) := by decide +kernel
theorem dX10_strike_1 : decode cX10_strike 1 = .ok (.iconst 0, 1) := by decide +kernel
theorem dX10_strike_2 : decode cX10_strike 2 = .ok (.aload_n 0, 1) := by decide +kernel
theorem dX10_strike_3 : decode cX10_strike 3 = .ok (.getfield 413, 3) := by decide +kernel
theorem dX10_strike_6 : decode cX10_strike 6 = .ok (.iconst 1, 1) := by decide +kernel
theorem dX10_strike_7 : decode cX10_strike 7 = .ok (.isub, 1) := by decide +kernel
theorem dX10_strike_8 : decode cX10_strike 8 = .ok (.invokestatic 228, 3) := by decide +kernel
theorem dX10_strike_11 : decode cX10_strike 11 = .ok (.ifCond .eq 13, 3) := by decide +kernel
theorem dX10_strike_24 : decode cX10_strike 24 = .ok (.iconst 0, 1) := by decide +kernel
theorem dX10_strike_25 : decode cX10_strike 25 = .ok (.ireturn, 1) := by decide +kernel
set_option maxHeartbeats 4000000 in
set_option maxRecDepth 100000 in
theorem c_X10_strike (l : Launch) (dC : Nat → ClassId) (dI : Nat → Nat → Nat) (dA : Nat → ClassId) (L : List Nat) (h : hx_h) (sz : Nat) (y : Nat) (a : Int32) (gy : hx_g L h y 10) (f_y_59 : h.2.1 y 59 = 0) : Met l yX10_strike (Cond.code yX10_strike cX10_strike 2 (some .boolean) :: hx_all) ({ frames := 1, cells := 0, slots := 0, locals := 22 }) (va_Pc [.ref y, .int a] (hx_B P_tb (P_ty dA) (dC, dI) vwCl L h sz)) (va_Qi (fun (r : Int32) (u : List Nat × hx_h) => (r = 0) ∧ hx_S P_tb [] L h u.1 u.2) (hx_E P_tb (P_ty dA) (dC, dI) vwCl (hx_A L sz)) (hx_A L sz)) 0 0 (hx_A L sz) := by
  refine hx_met (lv := [(0, .ref y), (1, .int a)]) (by decide +kernel) rfl (Nat.le_of_ble_eq_true rfl) rfl ?_
  intro p e s m below meth c hx hb hml hr hlk hts0 hown hin hsz hW ls hl
  have hts : ∀ w ∈ hx_all, w.before _ s = true := fun w hw => hts0 w (List.mem_cons_of_mem _ hw)
  have hown : s.vm.findClass "SmallCourtModel" = some m.cls := hown
  have hM : hx_S P_tb [] L h L h := hx_S.rf
  refine lv_iload_n hx hb dX10_strike_0 rfl (lv_at hl 1 rfl) ?_
  refine lv_iconst (v := 0) hx hb dX10_strike_1 (by decide) ?_
  refine lv_aload_n hx hb dX10_strike_2 rfl (lv_at hl 0 rfl) ?_
  refine hk_geti hx hb hts hC_10 hown hW gy td_10 59 (by decide) rfl kw_1202 ⟨rfl, rfl, rfl⟩ f_y_59 dX10_strike_3 ?_
  refine lv_iconst (v := 1) hx hb dX10_strike_6 (by decide) ?_
  refine lv_isub hx hb dX10_strike_7 ?_
  refine lv_topi (fun x_1 ex_1 => ?_)
  obtain rfl : x_1 = (-1 : Int32) := ex_1.trans (by decide)
  refine hx_goi (hx_runS (As := [.int a, .int (0 : Int32), .int (-1 : Int32)]) (rest := []) ⟨hx, hb, hml, hown, hts⟩ hW (c_X10_in l dC dI dA L h s.heap.size a (0 : Int32) (-1 : Int32)) (va_cwS 3 hts (hx_gS kw_1445 kw_1443 kw_1444 kw_103) rfl rfl rfl (by decide +kernel) ⟨Nat.le_of_ble_eq_true rfl, Nat.le_of_ble_eq_true rfl⟩) rfl hl.1 rfl (Nat.le_of_ble_eq_true rfl) dX10_strike_8 ⟨Nat.le_of_ble_eq_true rfl, Nat.le_of_ble_eq_true rfl⟩) hW (fun r_4 L_2 h_3 H locs p_5 hW => ?_)
  obtain ⟨p_5, eu⟩ := p_5
  cases eu
  rcases p_5 with ⟨kp_5, rfl⟩ | ⟨kp_5, rfl⟩
  · exfalso
    have zc1 : (0 : Int32).toInt = 0 := by decide
    have zc2 : (-1 : Int32).toInt = -1 := by decide
    omega
  · skip
    have zc1 : (0 : Int32).toInt = 0 := by decide
    have zc2 : (-1 : Int32).toInt = -1 := by decide
    refine hb_if_eq (zx := 0) (tgt := 24) hx hb (by decide) dX10_strike_11 (by decide) (fun c_6 => ?_) (fun c_6 => absurd c_6 (by decide))
    refine lv_iconst (v := 0) hx hb dX10_strike_24 (by decide) ?_
    exact hx_retz hx hb hr rfl hlk hW ⟨rfl, hM⟩ dX10_strike_25


theorem dX10_planned_0 : decode cX10_planned 0 = .ok (.iload_n 1, 1) := by decide +kernel
theorem dX10_planned_1 : decode cX10_planned 1 = .ok (.iconst 0, 1) := by decide +kernel
theorem dX10_planned_2 : decode cX10_planned 2 = .ok (.aload_n 0, 1) := by decide +kernel
theorem dX10_planned_3 : decode cX10_planned 3 = .ok (.getfield 435, 3) := by decide +kernel
theorem dX10_planned_6 : decode cX10_planned 6 = .ok (.iconst 1, 1) := by decide +kernel
theorem dX10_planned_7 : decode cX10_planned 7 = .ok (.isub, 1) := by decide +kernel
theorem dX10_planned_8 : decode cX10_planned 8 = .ok (.invokestatic 228, 3) := by decide +kernel
theorem dX10_planned_11 : decode cX10_planned 11 = .ok (.ifCond .ne 5, 3) := by decide +kernel
theorem dX10_planned_14 : decode cX10_planned 14 = .ok (.iconst (-1), 1) := by decide +kernel
theorem dX10_planned_15 : decode cX10_planned 15 = .ok (.ireturn, 1) := by decide +kernel
set_option maxHeartbeats 4000000 in
set_option maxRecDepth 100000 in
theorem c_X10_planned (l : Launch) (dC : Nat → ClassId) (dI : Nat → Nat → Nat) (dA : Nat → ClassId) (L : List Nat) (h : hx_h) (sz : Nat) (y : Nat) (a : Int32) (b : Int32) (gy : hx_g L h y 10) (f_y_72 : h.2.1 y 72 = 0) : Met l yX10_planned (Cond.code yX10_planned cX10_planned 3 (some .int) :: hx_all) ({ frames := 1, cells := 0, slots := 0, locals := 22 }) (va_Pc [.ref y, .int a, .int b] (hx_B P_tb (P_ty dA) (dC, dI) vwCl L h sz)) (va_Qi (fun (r : Int32) (u : List Nat × hx_h) => (r = -1) ∧ hx_S P_tb [] L h u.1 u.2) (hx_E P_tb (P_ty dA) (dC, dI) vwCl (hx_A L sz)) (hx_A L sz)) 0 0 (hx_A L sz) := by
  refine hx_met (lv := [(0, .ref y), (1, .int a), (2, .int b)]) (by decide +kernel) rfl (Nat.le_of_ble_eq_true rfl) rfl ?_
  intro p e s m below meth c hx hb hml hr hlk hts0 hown hin hsz hW ls hl
  have hts : ∀ w ∈ hx_all, w.before _ s = true := fun w hw => hts0 w (List.mem_cons_of_mem _ hw)
  have hown : s.vm.findClass "SmallCourtModel" = some m.cls := hown
  have hM : hx_S P_tb [] L h L h := hx_S.rf
  refine lv_iload_n hx hb dX10_planned_0 rfl (lv_at hl 1 rfl) ?_
  refine lv_iconst (v := 0) hx hb dX10_planned_1 (by decide) ?_
  refine lv_aload_n hx hb dX10_planned_2 rfl (lv_at hl 0 rfl) ?_
  refine hk_geti hx hb hts hC_10 hown hW gy td_10 72 (by decide) rfl kw_1215 ⟨rfl, rfl, rfl⟩ f_y_72 dX10_planned_3 ?_
  refine lv_iconst (v := 1) hx hb dX10_planned_6 (by decide) ?_
  refine lv_isub hx hb dX10_planned_7 ?_
  refine lv_topi (fun x_1 ex_1 => ?_)
  obtain rfl : x_1 = (-1 : Int32) := ex_1.trans (by decide)
  refine hx_goi (hx_runS (As := [.int a, .int (0 : Int32), .int (-1 : Int32)]) (rest := []) ⟨hx, hb, hml, hown, hts⟩ hW (c_X10_in l dC dI dA L h s.heap.size a (0 : Int32) (-1 : Int32)) (va_cwS 3 hts (hx_gS kw_1445 kw_1443 kw_1444 kw_103) rfl rfl rfl (by decide +kernel) ⟨Nat.le_of_ble_eq_true rfl, Nat.le_of_ble_eq_true rfl⟩) rfl hl.1 rfl (Nat.le_of_ble_eq_true rfl) dX10_planned_8 ⟨Nat.le_of_ble_eq_true rfl, Nat.le_of_ble_eq_true rfl⟩) hW (fun r_4 L_2 h_3 H locs p_5 hW => ?_)
  obtain ⟨p_5, eu⟩ := p_5
  cases eu
  rcases p_5 with ⟨kp_5, rfl⟩ | ⟨kp_5, rfl⟩
  · exfalso
    have zc1 : (0 : Int32).toInt = 0 := by decide
    have zc2 : (-1 : Int32).toInt = -1 := by decide
    omega
  · skip
    have zc1 : (0 : Int32).toInt = 0 := by decide
    have zc2 : (-1 : Int32).toInt = -1 := by decide
    refine hb_if_ne (zx := 0) (tgt := 16) hx hb (by decide) dX10_planned_11 (by decide) (fun c_6 => absurd c_6 (by decide)) (fun c_6 => ?_)
    refine lv_iconst (v := -1) hx hb dX10_planned_14 (by decide) ?_
    exact hx_reti hx hb hr hlk hW ⟨rfl, hM⟩ dX10_planned_15


theorem dX10_netted_0 : decode cX10_netted 0 = .ok (.aload_n 0, 1) := by decide +kernel
theorem dX10_netted_1 : decode cX10_netted 1 = .ok (.getfield 451, 3) := by decide +kernel
theorem dX10_netted_4 : decode cX10_netted 4 = .ok (.ifCond .ne 7, 3) := by decide +kernel
theorem dX10_netted_7 : decode cX10_netted 7 = .ok (.iconst (-1), 1) := by decide +kernel
theorem dX10_netted_8 : decode cX10_netted 8 = .ok (.goto 39, 3) := by decide +kernel
theorem dX10_netted_47 : decode cX10_netted 47 = .ok (.ireturn, 1) := by decide +kernel
set_option maxHeartbeats 4000000 in
set_option maxRecDepth 100000 in
theorem c_X10_netted (l : Launch) (dC : Nat → ClassId) (dI : Nat → Nat → Nat) (dA : Nat → ClassId) (L : List Nat) (h : hx_h) (sz : Nat) (y : Nat) (a : Int32) (gy : hx_g L h y 10) (f_y_83 : h.2.1 y 83 = 0) : Met l yX10_netted (Cond.code yX10_netted cX10_netted 2 (some .int) :: hx_all) ({ frames := 0, cells := 0, slots := 0, locals := 0 }) (va_Pc [.ref y, .int a] (hx_B P_tb (P_ty dA) (dC, dI) vwCl L h sz)) (va_Qi (fun (r : Int32) (u : List Nat × hx_h) => (r = -1) ∧ hx_S P_tb [] L h u.1 u.2) (hx_E P_tb (P_ty dA) (dC, dI) vwCl (hx_A L sz)) (hx_A L sz)) 0 0 (hx_A L sz) := by
  refine hx_met (lv := [(0, .ref y), (1, .int a)]) (by decide +kernel) rfl (Nat.le_of_ble_eq_true rfl) rfl ?_
  intro p e s m below meth c hx hb hml hr hlk hts0 hown hin hsz hW ls hl
  have hts : ∀ w ∈ hx_all, w.before _ s = true := fun w hw => hts0 w (List.mem_cons_of_mem _ hw)
  have hown : s.vm.findClass "SmallCourtModel" = some m.cls := hown
  have hM : hx_S P_tb [] L h L h := hx_S.rf
  refine lv_aload_n hx hb dX10_netted_0 rfl (lv_at hl 0 rfl) ?_
  refine hk_geti hx hb hts hC_10 hown hW gy td_10 83 (by decide) rfl kw_1226 ⟨rfl, rfl, rfl⟩ f_y_83 dX10_netted_1 ?_
  refine hb_if_ne (zx := 0) (tgt := 11) hx hb (by decide) dX10_netted_4 (by decide) (fun c_1 => absurd c_1 (by decide)) (fun c_1 => ?_)
  refine lv_iconst (v := -1) hx hb dX10_netted_7 (by decide) ?_
  refine lv_goto (tgt := 47) hx hb dX10_netted_8 (by decide) ?_
  exact hx_reti hx hb hr hlk hW ⟨rfl, hM⟩ dX10_netted_47


theorem dX10_walked_0 : decode cX10_walked 0 = .ok (.iload_n 1, 1) := by decide +kernel
theorem dX10_walked_1 : decode cX10_walked 1 = .ok (.iconst 0, 1) := by decide +kernel
theorem dX10_walked_2 : decode cX10_walked 2 = .ok (.aload_n 0, 1) := by decide +kernel
theorem dX10_walked_3 : decode cX10_walked 3 = .ok (.getfield 478, 3) := by decide +kernel
theorem dX10_walked_6 : decode cX10_walked 6 = .ok (.iconst 1, 1) := by decide +kernel
theorem dX10_walked_7 : decode cX10_walked 7 = .ok (.isub, 1) := by decide +kernel
theorem dX10_walked_8 : decode cX10_walked 8 = .ok (.invokestatic 228, 3) := by decide +kernel
theorem dX10_walked_11 : decode cX10_walked 11 = .ok (.ifCond .eq 12, 3) := by decide +kernel
theorem dX10_walked_23 : decode cX10_walked 23 = .ok (.iconst (-1), 1) := by decide +kernel
theorem dX10_walked_24 : decode cX10_walked 24 = .ok (.ireturn, 1) := by decide +kernel
set_option maxHeartbeats 4000000 in
set_option maxRecDepth 100000 in
theorem c_X10_walked (l : Launch) (dC : Nat → ClassId) (dI : Nat → Nat → Nat) (dA : Nat → ClassId) (L : List Nat) (h : hx_h) (sz : Nat) (y : Nat) (a : Int32) (gy : hx_g L h y 10) (f_y_92 : h.2.1 y 92 = 0) : Met l yX10_walked (Cond.code yX10_walked cX10_walked 2 (some .int) :: hx_all) ({ frames := 1, cells := 0, slots := 0, locals := 22 }) (va_Pc [.ref y, .int a] (hx_B P_tb (P_ty dA) (dC, dI) vwCl L h sz)) (va_Qi (fun (r : Int32) (u : List Nat × hx_h) => (r = -1) ∧ hx_S P_tb [] L h u.1 u.2) (hx_E P_tb (P_ty dA) (dC, dI) vwCl (hx_A L sz)) (hx_A L sz)) 0 0 (hx_A L sz) := by
  refine hx_met (lv := [(0, .ref y), (1, .int a)]) (by decide +kernel) rfl (Nat.le_of_ble_eq_true rfl) rfl ?_
  intro p e s m below meth c hx hb hml hr hlk hts0 hown hin hsz hW ls hl
  have hts : ∀ w ∈ hx_all, w.before _ s = true := fun w hw => hts0 w (List.mem_cons_of_mem _ hw)
  have hown : s.vm.findClass "SmallCourtModel" = some m.cls := hown
  have hM : hx_S P_tb [] L h L h := hx_S.rf
  refine lv_iload_n hx hb dX10_walked_0 rfl (lv_at hl 1 rfl) ?_
  refine lv_iconst (v := 0) hx hb dX10_walked_1 (by decide) ?_
  refine lv_aload_n hx hb dX10_walked_2 rfl (lv_at hl 0 rfl) ?_
  refine hk_geti hx hb hts hC_10 hown hW gy td_10 92 (by decide) rfl kw_1235 ⟨rfl, rfl, rfl⟩ f_y_92 dX10_walked_3 ?_
  refine lv_iconst (v := 1) hx hb dX10_walked_6 (by decide) ?_
  refine lv_isub hx hb dX10_walked_7 ?_
  refine lv_topi (fun x_1 ex_1 => ?_)
  obtain rfl : x_1 = (-1 : Int32) := ex_1.trans (by decide)
  refine hx_goi (hx_runS (As := [.int a, .int (0 : Int32), .int (-1 : Int32)]) (rest := []) ⟨hx, hb, hml, hown, hts⟩ hW (c_X10_in l dC dI dA L h s.heap.size a (0 : Int32) (-1 : Int32)) (va_cwS 3 hts (hx_gS kw_1445 kw_1443 kw_1444 kw_103) rfl rfl rfl (by decide +kernel) ⟨Nat.le_of_ble_eq_true rfl, Nat.le_of_ble_eq_true rfl⟩) rfl hl.1 rfl (Nat.le_of_ble_eq_true rfl) dX10_walked_8 ⟨Nat.le_of_ble_eq_true rfl, Nat.le_of_ble_eq_true rfl⟩) hW (fun r_4 L_2 h_3 H locs p_5 hW => ?_)
  obtain ⟨p_5, eu⟩ := p_5
  cases eu
  rcases p_5 with ⟨kp_5, rfl⟩ | ⟨kp_5, rfl⟩
  · exfalso
    have zc1 : (0 : Int32).toInt = 0 := by decide
    have zc2 : (-1 : Int32).toInt = -1 := by decide
    omega
  · skip
    have zc1 : (0 : Int32).toInt = 0 := by decide
    have zc2 : (-1 : Int32).toInt = -1 := by decide
    refine hb_if_eq (zx := 0) (tgt := 23) hx hb (by decide) dX10_walked_11 (by decide) (fun c_6 => ?_) (fun c_6 => absurd c_6 (by decide))
    refine lv_iconst (v := -1) hx hb dX10_walked_23 (by decide) ?_
    exact hx_reti hx hb hr hlk hW ⟨rfl, hM⟩ dX10_walked_24


theorem dX10_count_0 : decode cX10_count 0 = .ok (.iconst 0, 1) := by decide +kernel
theorem dX10_count_1 : decode cX10_count 1 = .ok (.istore_n 2, 1) := by decide +kernel
theorem dX10_count_2 : decode cX10_count 2 = .ok (.iload_n 1, 1) := by decide +kernel
theorem dX10_count_3 : decode cX10_count 3 = .ok (.tableswitch 133 0 8 #[49, 54, 59, 64, 108, 113, 118, 123, 128], 49) := by decide +kernel
theorem dX10_count_52 : decode cX10_count 52 = .ok (.aload_n 0, 1) := by decide +kernel
theorem dX10_count_53 : decode cX10_count 53 = .ok (.getfield 232, 3) := by decide +kernel
theorem dX10_count_56 : decode cX10_count 56 = .ok (.ireturn, 1) := by decide +kernel
theorem dX10_count_57 : decode cX10_count 57 = .ok (.aload_n 0, 1) := by decide +kernel
theorem dX10_count_58 : decode cX10_count 58 = .ok (.getfield 321, 3) := by decide +kernel
theorem dX10_count_61 : decode cX10_count 61 = .ok (.ireturn, 1) := by decide +kernel
theorem dX10_count_62 : decode cX10_count 62 = .ok (.aload_n 0, 1) := by decide +kernel
theorem dX10_count_63 : decode cX10_count 63 = .ok (.getfield 337, 3) := by decide +kernel
theorem dX10_count_66 : decode cX10_count 66 = .ok (.ireturn, 1) := by decide +kernel
theorem dX10_count_67 : decode cX10_count 67 = .ok (.iconst 0, 1) := by decide +kernel
theorem dX10_count_68 : decode cX10_count 68 = .ok (.istore_n 3, 1) := by decide +kernel
theorem dX10_count_69 : decode cX10_count 69 = .ok (.iload_n 3, 1) := by decide +kernel
theorem dX10_count_70 : decode cX10_count 70 = .ok (.aload_n 0, 1) := by decide +kernel
theorem dX10_count_71 : decode cX10_count 71 = .ok (.getfield 337, 3) := by decide +kernel
theorem dX10_count_74 : decode cX10_count 74 = .ok (.if_icmp .ge 35, 3) := by decide +kernel
theorem dX10_count_109 : decode cX10_count 109 = .ok (.iload_n 2, 1) := by decide +kernel
theorem dX10_count_110 : decode cX10_count 110 = .ok (.ireturn, 1) := by decide +kernel
theorem dX10_count_111 : decode cX10_count 111 = .ok (.aload_n 0, 1) := by decide +kernel
theorem dX10_count_112 : decode cX10_count 112 = .ok (.getfield 351, 3) := by decide +kernel
theorem dX10_count_115 : decode cX10_count 115 = .ok (.ireturn, 1) := by decide +kernel
theorem dX10_count_116 : decode cX10_count 116 = .ok (.aload_n 0, 1) := by decide +kernel
theorem dX10_count_117 : decode cX10_count 117 = .ok (.getfield 367, 3) := by decide +kernel
theorem dX10_count_120 : decode cX10_count 120 = .ok (.ireturn, 1) := by decide +kernel
theorem dX10_count_121 : decode cX10_count 121 = .ok (.aload_n 0, 1) := by decide +kernel
theorem dX10_count_122 : decode cX10_count 122 = .ok (.getfield 413, 3) := by decide +kernel
theorem dX10_count_125 : decode cX10_count 125 = .ok (.ireturn, 1) := by decide +kernel
theorem dX10_count_126 : decode cX10_count 126 = .ok (.aload_n 0, 1) := by decide +kernel
theorem dX10_count_127 : decode cX10_count 127 = .ok (.getfield 236, 3) := by decide +kernel
theorem dX10_count_130 : decode cX10_count 130 = .ok (.ireturn, 1) := by decide +kernel
theorem dX10_count_131 : decode cX10_count 131 = .ok (.aload_n 0, 1) := by decide +kernel
theorem dX10_count_132 : decode cX10_count 132 = .ok (.getfield 468, 3) := by decide +kernel
theorem dX10_count_135 : decode cX10_count 135 = .ok (.ireturn, 1) := by decide +kernel
theorem dX10_count_136 : decode cX10_count 136 = .ok (.iconst (-1), 1) := by decide +kernel
theorem dX10_count_137 : decode cX10_count 137 = .ok (.ireturn, 1) := by decide +kernel
set_option maxHeartbeats 4000000 in
set_option maxRecDepth 100000 in
theorem c_X10_count (l : Launch) (dC : Nat → ClassId) (dI : Nat → Nat → Nat) (dA : Nat → ClassId) (L : List Nat) (h : hx_h) (sz : Nat) (y : Nat) (a : Int32) (gy : hx_g L h y 10) (f_y_0 : h.2.1 y 0 = 0) (f_y_1 : h.2.1 y 1 = 0) (f_y_20 : h.2.1 y 20 = 0) (f_y_29 : h.2.1 y 29 = 0) (f_y_36 : h.2.1 y 36 = 0) (f_y_59 : h.2.1 y 59 = 0) (f_y_7 : h.2.1 y 7 = 0) (f_y_90 : h.2.1 y 90 = 0) : Met l yX10_count (Cond.code yX10_count cX10_count 4 (some .int) :: hx_all) ({ frames := 0, cells := 0, slots := 0, locals := 0 }) (va_Pc [.ref y, .int a] (hx_B P_tb (P_ty dA) (dC, dI) vwCl L h sz)) (va_Qi (fun (r : Int32) (u : List Nat × hx_h) => ((0 ≤ a.toInt ∧ a.toInt ≤ 8) ∧ r = 0 ∨ ¬ (0 ≤ a.toInt ∧ a.toInt ≤ 8) ∧ r = -1) ∧ hx_S P_tb [] L h u.1 u.2) (hx_E P_tb (P_ty dA) (dC, dI) vwCl (hx_A L sz)) (hx_A L sz)) 0 0 (hx_A L sz) := by
  refine hx_met (lv := [(0, .ref y), (1, .int a)]) (by decide +kernel) rfl (Nat.le_of_ble_eq_true rfl) rfl ?_
  intro p e s m below meth c hx hb hml hr hlk hts0 hown hin hsz hW ls hl
  have hts : ∀ w ∈ hx_all, w.before _ s = true := fun w hw => hts0 w (List.mem_cons_of_mem _ hw)
  have hown : s.vm.findClass "SmallCourtModel" = some m.cls := hown
  have hM : hx_S P_tb [] L h L h := hx_S.rf
  refine lv_iconst (v := 0) hx hb dX10_count_0 (by decide) ?_
  refine lv_istore_n (lv' := [(2, .int (0 : Int32)), (0, .ref y), (1, .int a)]) hx hb dX10_count_1 rfl hl (by decide) rfl (fun ls hl => ?_)
  refine lv_iload_n hx hb dX10_count_2 rfl (lv_at hl 2 rfl) ?_
  rcases (show (a.toInt < 0 ∨ 8 < a.toInt) ∨ a.toInt = 0 ∨ a.toInt = 1 ∨ a.toInt = 2 ∨ a.toInt = 3 ∨ a.toInt = 4 ∨ a.toInt = 5 ∨ a.toInt = 6 ∨ a.toInt = 7 ∨ a.toInt = 8 from by omega) with c_1 | c_1 | c_1 | c_1 | c_1 | c_1 | c_1 | c_1 | c_1 | c_1
  · refine lv_tableOut (tgt := 136) hx hb dX10_count_3 c_1 (by decide) ?_
    refine lv_iconst (v := -1) hx hb dX10_count_136 (by decide) ?_
    exact hx_reti hx hb hr hlk hW ⟨Or.inr ⟨by first | omega | decide, rfl⟩, hM⟩ dX10_count_137
  · obtain rfl : a = (0 : Int32) := Int32.toInt_inj.mp (c_1.trans (by decide))
    refine lv_tableIn (off := 49) (tgt := 52) hx hb dX10_count_3 (by decide) (by decide) rfl (by decide) ?_
    refine lv_aload_n hx hb dX10_count_52 rfl (lv_at hl 1 rfl) ?_
    refine hk_geti hx hb hts hC_10 hown hW gy td_10 0 (by decide) rfl kw_1143 ⟨rfl, rfl, rfl⟩ f_y_0 dX10_count_53 ?_
    exact hx_reti hx hb hr hlk hW ⟨Or.inl ⟨by first | omega | decide, rfl⟩, hM⟩ dX10_count_56
  · obtain rfl : a = (1 : Int32) := Int32.toInt_inj.mp (c_1.trans (by decide))
    refine lv_tableIn (off := 54) (tgt := 57) hx hb dX10_count_3 (by decide) (by decide) rfl (by decide) ?_
    refine lv_aload_n hx hb dX10_count_57 rfl (lv_at hl 1 rfl) ?_
    refine hk_geti hx hb hts hC_10 hown hW gy td_10 1 (by decide) rfl kw_1144 ⟨rfl, rfl, rfl⟩ f_y_1 dX10_count_58 ?_
    exact hx_reti hx hb hr hlk hW ⟨Or.inl ⟨by first | omega | decide, rfl⟩, hM⟩ dX10_count_61
  · obtain rfl : a = (2 : Int32) := Int32.toInt_inj.mp (c_1.trans (by decide))
    refine lv_tableIn (off := 59) (tgt := 62) hx hb dX10_count_3 (by decide) (by decide) rfl (by decide) ?_
    refine lv_aload_n hx hb dX10_count_62 rfl (lv_at hl 1 rfl) ?_
    refine hk_geti hx hb hts hC_10 hown hW gy td_10 20 (by decide) rfl kw_1163 ⟨rfl, rfl, rfl⟩ f_y_20 dX10_count_63 ?_
    exact hx_reti hx hb hr hlk hW ⟨Or.inl ⟨by first | omega | decide, rfl⟩, hM⟩ dX10_count_66
  · obtain rfl : a = (3 : Int32) := Int32.toInt_inj.mp (c_1.trans (by decide))
    refine lv_tableIn (off := 64) (tgt := 67) hx hb dX10_count_3 (by decide) (by decide) rfl (by decide) ?_
    refine lv_iconst (v := 0) hx hb dX10_count_67 (by decide) ?_
    refine lv_istore_n (lv' := [(3, .int (0 : Int32)), (2, .int (0 : Int32)), (0, .ref y), (1, .int (3 : Int32))]) hx hb dX10_count_68 rfl hl (by decide) rfl (fun ls hl => ?_)
    refine lv_iload_n hx hb dX10_count_69 rfl (lv_at hl 0 rfl) ?_
    refine lv_aload_n hx hb dX10_count_70 rfl (lv_at hl 2 rfl) ?_
    refine hk_geti hx hb hts hC_10 hown hW gy td_10 20 (by decide) rfl kw_1163 ⟨rfl, rfl, rfl⟩ f_y_20 dX10_count_71 ?_
    refine hb_icmp_ge (zx := 0) (zy := 0) (tgt := 109) hx hb (by decide) (by decide) dX10_count_74 (by decide) (fun c_2 => ?_) (fun c_2 => absurd c_2 (by decide))
    refine lv_iload_n hx hb dX10_count_109 rfl (lv_at hl 1 rfl) ?_
    exact hx_reti hx hb hr hlk hW ⟨Or.inl ⟨by first | omega | decide, rfl⟩, hM⟩ dX10_count_110
  · obtain rfl : a = (4 : Int32) := Int32.toInt_inj.mp (c_1.trans (by decide))
    refine lv_tableIn (off := 108) (tgt := 111) hx hb dX10_count_3 (by decide) (by decide) rfl (by decide) ?_
    refine lv_aload_n hx hb dX10_count_111 rfl (lv_at hl 1 rfl) ?_
    refine hk_geti hx hb hts hC_10 hown hW gy td_10 29 (by decide) rfl kw_1172 ⟨rfl, rfl, rfl⟩ f_y_29 dX10_count_112 ?_
    exact hx_reti hx hb hr hlk hW ⟨Or.inl ⟨by first | omega | decide, rfl⟩, hM⟩ dX10_count_115
  · obtain rfl : a = (5 : Int32) := Int32.toInt_inj.mp (c_1.trans (by decide))
    refine lv_tableIn (off := 113) (tgt := 116) hx hb dX10_count_3 (by decide) (by decide) rfl (by decide) ?_
    refine lv_aload_n hx hb dX10_count_116 rfl (lv_at hl 1 rfl) ?_
    refine hk_geti hx hb hts hC_10 hown hW gy td_10 36 (by decide) rfl kw_1179 ⟨rfl, rfl, rfl⟩ f_y_36 dX10_count_117 ?_
    exact hx_reti hx hb hr hlk hW ⟨Or.inl ⟨by first | omega | decide, rfl⟩, hM⟩ dX10_count_120
  · obtain rfl : a = (6 : Int32) := Int32.toInt_inj.mp (c_1.trans (by decide))
    refine lv_tableIn (off := 118) (tgt := 121) hx hb dX10_count_3 (by decide) (by decide) rfl (by decide) ?_
    refine lv_aload_n hx hb dX10_count_121 rfl (lv_at hl 1 rfl) ?_
    refine hk_geti hx hb hts hC_10 hown hW gy td_10 59 (by decide) rfl kw_1202 ⟨rfl, rfl, rfl⟩ f_y_59 dX10_count_122 ?_
    exact hx_reti hx hb hr hlk hW ⟨Or.inl ⟨by first | omega | decide, rfl⟩, hM⟩ dX10_count_125
  · obtain rfl : a = (7 : Int32) := Int32.toInt_inj.mp (c_1.trans (by decide))
    refine lv_tableIn (off := 123) (tgt := 126) hx hb dX10_count_3 (by decide) (by decide) rfl (by decide) ?_
    refine lv_aload_n hx hb dX10_count_126 rfl (lv_at hl 1 rfl) ?_
    refine hk_geti hx hb hts hC_10 hown hW gy td_10 7 (by decide) rfl kw_1150 ⟨rfl, rfl, rfl⟩ f_y_7 dX10_count_127 ?_
    exact hx_reti hx hb hr hlk hW ⟨Or.inl ⟨by first | omega | decide, rfl⟩, hM⟩ dX10_count_130
  · obtain rfl : a = (8 : Int32) := Int32.toInt_inj.mp (c_1.trans (by decide))
    refine lv_tableIn (off := 128) (tgt := 131) hx hb dX10_count_3 (by decide) (by decide) rfl (by decide) ?_
    refine lv_aload_n hx hb dX10_count_131 rfl (lv_at hl 1 rfl) ?_
    refine hk_geti hx hb hts hC_10 hown hW gy td_10 90 (by decide) rfl kw_1233 ⟨rfl, rfl, rfl⟩ f_y_90 dX10_count_132 ?_
    exact hx_reti hx hb hr hlk hW ⟨Or.inl ⟨by first | omega | decide, rfl⟩, hM⟩ dX10_count_135


theorem dX10_other_0 : decode cX10_other 0 = .ok (.iload_n 1, 1) := by decide +kernel
theorem dX10_other_1 : decode cX10_other 1 = .ok (.iconst (-1), 1) := by decide +kernel
theorem dX10_other_2 : decode cX10_other 2 = .ok (.aload_n 0, 1) := by decide +kernel
theorem dX10_other_3 : decode cX10_other 3 = .ok (.getfield 321, 3) := by decide +kernel
theorem dX10_other_6 : decode cX10_other 6 = .ok (.iconst 1, 1) := by decide +kernel
theorem dX10_other_7 : decode cX10_other 7 = .ok (.isub, 1) := by decide +kernel
theorem dX10_other_8 : decode cX10_other 8 = .ok (.invokestatic 228, 3) := by decide +kernel
theorem dX10_other_11 : decode cX10_other 11 = .ok (.ifCond .eq 13, 3) := by decide +kernel
theorem dX10_other_14 : decode cX10_other 14 = .ok (.iload_n 2, 1) := by decide +kernel
theorem dX10_other_15 : decode cX10_other 15 = .ok (.iconst 1, 1) := by decide +kernel
theorem dX10_other_16 : decode cX10_other 16 = .ok (.bipush 6, 2) := by decide +kernel
theorem dX10_other_18 : decode cX10_other 18 = .ok (.invokestatic 228, 3) := by decide +kernel
theorem dX10_other_21 : decode cX10_other 21 = .ok (.ifCond .ne 5, 3) := by decide +kernel
theorem dX10_other_24 : decode cX10_other 24 = .ok (.iconst (-1), 1) := by decide +kernel
theorem dX10_other_25 : decode cX10_other 25 = .ok (.ireturn, 1) := by decide +kernel
theorem dX10_other_26 : decode cX10_other 26 = .ok (.iload_n 1, 1) := by decide +kernel
theorem dX10_other_27 : decode cX10_other 27 = .ok (.iconst 1, 1) := by decide +kernel
theorem dX10_other_28 : decode cX10_other 28 = .ok (.iadd, 1) := by decide +kernel
theorem dX10_other_29 : decode cX10_other 29 = .ok (.istore_n 3, 1) := by decide +kernel
theorem dX10_other_30 : decode cX10_other 30 = .ok (.iconst 0, 1) := by decide +kernel
theorem dX10_other_31 : decode cX10_other 31 = .ok (.istore 4, 2) := by decide +kernel
theorem dX10_other_33 : decode cX10_other 33 = .ok (.iconst 0, 1) := by decide +kernel
theorem dX10_other_34 : decode cX10_other 34 = .ok (.istore 5, 2) := by decide +kernel
theorem dX10_other_36 : decode cX10_other 36 = .ok (.iconst 0, 1) := by decide +kernel
theorem dX10_other_37 : decode cX10_other 37 = .ok (.istore 6, 2) := by decide +kernel
theorem dX10_other_39 : decode cX10_other 39 = .ok (.iload 6, 2) := by decide +kernel
theorem dX10_other_41 : decode cX10_other 41 = .ok (.aload_n 0, 1) := by decide +kernel
theorem dX10_other_42 : decode cX10_other 42 = .ok (.getfield 392, 3) := by decide +kernel
theorem dX10_other_45 : decode cX10_other 45 = .ok (.if_icmp .ge 89, 3) := by decide +kernel
theorem dX10_other_134 : decode cX10_other 134 = .ok (.iload_n 2, 1) := by decide +kernel
theorem dX10_other_135 : decode cX10_other 135 = .ok (.bipush 6, 2) := by decide +kernel
theorem dX10_other_137 : decode cX10_other 137 = .ok (.if_icmp .ne 8, 3) := by decide +kernel
theorem dX10_other_140 : decode cX10_other 140 = .ok (.iload 5, 2) := by decide +kernel
theorem dX10_other_142 : decode cX10_other 142 = .ok (.goto 5, 3) := by decide +kernel
theorem dX10_other_145 : decode cX10_other 145 = .ok (.iload 4, 2) := by decide +kernel
theorem dX10_other_147 : decode cX10_other 147 = .ok (.ireturn, 1) := by decide +kernel
set_option maxHeartbeats 4000000 in
set_option maxRecDepth 100000 in
theorem c_X10_other (l : Launch) (dC : Nat → ClassId) (dI : Nat → Nat → Nat) (dA : Nat → ClassId) (L : List Nat) (h : hx_h) (sz : Nat) (y : Nat) (a : Int32) (b : Int32) (gy : hx_g L h y 10) (f_y_1 : h.2.1 y 1 = 0) (f_y_57 : h.2.1 y 57 = 0) : Met l yX10_other (Cond.code yX10_other cX10_other 9 (some .int) :: hx_all) ({ frames := 1, cells := 0, slots := 0, locals := 22 }) (va_Pc [.ref y, .int a, .int b] (hx_B P_tb (P_ty dA) (dC, dI) vwCl L h sz)) (va_Qi (fun (r : Int32) (u : List Nat × hx_h) => ((a.toInt = -1 ∧ 1 ≤ b.toInt ∧ b.toInt ≤ 6) ∧ r = 0 ∨ ¬ (a.toInt = -1 ∧ 1 ≤ b.toInt ∧ b.toInt ≤ 6) ∧ r = -1) ∧ hx_S P_tb [] L h u.1 u.2) (hx_E P_tb (P_ty dA) (dC, dI) vwCl (hx_A L sz)) (hx_A L sz)) 0 0 (hx_A L sz) := by
  refine hx_met (lv := [(0, .ref y), (1, .int a), (2, .int b)]) (by decide +kernel) rfl (Nat.le_of_ble_eq_true rfl) rfl ?_
  intro p e s m below meth c hx hb hml hr hlk hts0 hown hin hsz hW ls hl
  have hts : ∀ w ∈ hx_all, w.before _ s = true := fun w hw => hts0 w (List.mem_cons_of_mem _ hw)
  have hown : s.vm.findClass "SmallCourtModel" = some m.cls := hown
  have hM : hx_S P_tb [] L h L h := hx_S.rf
  refine lv_iload_n hx hb dX10_other_0 rfl (lv_at hl 1 rfl) ?_
  refine lv_iconst (v := -1) hx hb dX10_other_1 (by decide) ?_
  refine lv_aload_n hx hb dX10_other_2 rfl (lv_at hl 0 rfl) ?_
  refine hk_geti hx hb hts hC_10 hown hW gy td_10 1 (by decide) rfl kw_1144 ⟨rfl, rfl, rfl⟩ f_y_1 dX10_other_3 ?_
  refine lv_iconst (v := 1) hx hb dX10_other_6 (by decide) ?_
  refine lv_isub hx hb dX10_other_7 ?_
  refine lv_topi (fun x_1 ex_1 => ?_)
  obtain rfl : x_1 = (-1 : Int32) := ex_1.trans (by decide)
  refine hx_goi (hx_runS (As := [.int a, .int (-1 : Int32), .int (-1 : Int32)]) (rest := []) ⟨hx, hb, hml, hown, hts⟩ hW (c_X10_in l dC dI dA L h s.heap.size a (-1 : Int32) (-1 : Int32)) (va_cwS 3 hts (hx_gS kw_1445 kw_1443 kw_1444 kw_103) rfl rfl rfl (by decide +kernel) ⟨Nat.le_of_ble_eq_true rfl, Nat.le_of_ble_eq_true rfl⟩) rfl hl.1 rfl (Nat.le_of_ble_eq_true rfl) dX10_other_8 ⟨Nat.le_of_ble_eq_true rfl, Nat.le_of_ble_eq_true rfl⟩) hW (fun r_4 L_2 h_3 H locs p_5 hW => ?_)
  obtain ⟨p_5, eu⟩ := p_5
  cases eu
  rcases p_5 with ⟨kp_5, rfl⟩ | ⟨kp_5, rfl⟩
  · skip
    have zc1 : (-1 : Int32).toInt = -1 := by decide
    have zc2 : (-1 : Int32).toInt = -1 := by decide
    refine hb_if_eq (zx := 1) (tgt := 24) hx hb (by decide) dX10_other_11 (by decide) (fun c_6 => absurd c_6 (by decide)) (fun c_6 => ?_)
    refine lv_iload_n hx hb dX10_other_14 rfl (lv_at hl 2 rfl) ?_
    refine lv_iconst (v := 1) hx hb dX10_other_15 (by decide) ?_
    refine lv_bipush (v := 6) hx hb dX10_other_16 (by decide) ?_
    refine hx_goi (hx_runS (As := [.int b, .int (1 : Int32), .int (6 : Int32)]) (rest := []) ⟨hx, hb, hml, hown, hts⟩ hW (c_X10_in l dC dI dA L h H.size b (1 : Int32) (6 : Int32)) (va_cwS 3 hts (hx_gS kw_1445 kw_1443 kw_1444 kw_103) rfl rfl rfl (by decide +kernel) ⟨Nat.le_of_ble_eq_true rfl, Nat.le_of_ble_eq_true rfl⟩) rfl hl.1 rfl (Nat.le_of_ble_eq_true rfl) dX10_other_18 ⟨Nat.le_of_ble_eq_true rfl, Nat.le_of_ble_eq_true rfl⟩) hW (fun r_9 L_7 h_8 H locs p_10 hW => ?_)
    obtain ⟨p_10, eu⟩ := p_10
    cases eu
    rcases p_10 with ⟨kp_10, rfl⟩ | ⟨kp_10, rfl⟩
    · skip
      have zc1 : (1 : Int32).toInt = 1 := by decide
      have zc2 : (6 : Int32).toInt = 6 := by decide
      refine hb_if_ne (zx := 1) (tgt := 26) hx hb (by decide) dX10_other_21 (by decide) (fun c_11 => ?_) (fun c_11 => absurd c_11 (by decide))
      refine lv_iload_n hx hb dX10_other_26 rfl (lv_at hl 1 rfl) ?_
      refine lv_iconst (v := 1) hx hb dX10_other_27 (by decide) ?_
      refine lv_iadd hx hb dX10_other_28 ?_
      refine lv_topi (fun x_12 ex_12 => ?_)
      have zx_12 : x_12.toInt = a.toInt + 1 := by rw [ex_12]; exact i32_add rfl (by decide) (by omega) (by omega)
      refine lv_istore_n (lv' := [(3, .int x_12), (0, .ref y), (1, .int a), (2, .int b)]) hx hb dX10_other_29 rfl hl (by decide) rfl (fun ls hl => ?_)
      refine lv_iconst (v := 0) hx hb dX10_other_30 (by decide) ?_
      refine lv_istore (lv' := [(4, .int (0 : Int32)), (3, .int x_12), (0, .ref y), (1, .int a), (2, .int b)]) hx hb dX10_other_31 hl (by decide) rfl (fun ls hl => ?_)
      refine lv_iconst (v := 0) hx hb dX10_other_33 (by decide) ?_
      refine lv_istore (lv' := [(5, .int (0 : Int32)), (4, .int (0 : Int32)), (3, .int x_12), (0, .ref y), (1, .int a), (2, .int b)]) hx hb dX10_other_34 hl (by decide) rfl (fun ls hl => ?_)
      refine lv_iconst (v := 0) hx hb dX10_other_36 (by decide) ?_
      refine lv_istore (lv' := [(6, .int (0 : Int32)), (5, .int (0 : Int32)), (4, .int (0 : Int32)), (3, .int x_12), (0, .ref y), (1, .int a), (2, .int b)]) hx hb dX10_other_37 hl (by decide) rfl (fun ls hl => ?_)
      refine lv_iload hx hb dX10_other_39 (lv_at hl 0 rfl) ?_
      refine lv_aload_n hx hb dX10_other_41 rfl (lv_at hl 4 rfl) ?_
      refine hk_geti hx hb hts hC_10 hown hW gy td_10 57 (by decide) rfl kw_1200 ⟨rfl, rfl, rfl⟩ f_y_57 dX10_other_42 ?_
      refine hb_icmp_ge (zx := 0) (zy := 0) (tgt := 134) hx hb (by decide) (by decide) dX10_other_45 (by decide) (fun c_13 => ?_) (fun c_13 => absurd c_13 (by decide))
      refine lv_iload_n hx hb dX10_other_134 rfl (lv_at hl 6 rfl) ?_
      refine lv_bipush (v := 6) hx hb dX10_other_135 (by decide) ?_
      refine hb_icmp_ne (zx := b.toInt) (zy := 6) (tgt := 145) hx hb rfl (by decide) dX10_other_137 (by decide) (fun c_14 => ?_) (fun c_14 => ?_)
      · skip
        refine lv_iload hx hb dX10_other_145 (lv_at hl 2 rfl) ?_
        exact hx_reti hx hb hr hlk hW ⟨Or.inl ⟨by first | omega | decide, rfl⟩, hM⟩ dX10_other_147
      · skip
        refine lv_iload hx hb dX10_other_140 (lv_at hl 1 rfl) ?_
        refine lv_goto (tgt := 147) hx hb dX10_other_142 (by decide) ?_
        exact hx_reti hx hb hr hlk hW ⟨Or.inl ⟨by first | omega | decide, rfl⟩, hM⟩ dX10_other_147
    · skip
      have zc1 : (1 : Int32).toInt = 1 := by decide
      have zc2 : (6 : Int32).toInt = 6 := by decide
      refine hb_if_ne (zx := 0) (tgt := 26) hx hb (by decide) dX10_other_21 (by decide) (fun c_15 => absurd c_15 (by decide)) (fun c_15 => ?_)
      refine lv_iconst (v := -1) hx hb dX10_other_24 (by decide) ?_
      exact hx_reti hx hb hr hlk hW ⟨Or.inr ⟨by first | omega | decide, rfl⟩, hM⟩ dX10_other_25
  · skip
    have zc1 : (-1 : Int32).toInt = -1 := by decide
    have zc2 : (-1 : Int32).toInt = -1 := by decide
    refine hb_if_eq (zx := 0) (tgt := 24) hx hb (by decide) dX10_other_11 (by decide) (fun c_16 => ?_) (fun c_16 => absurd c_16 (by decide))
    refine lv_iconst (v := -1) hx hb dX10_other_24 (by decide) ?_
    exact hx_reti hx hb hr hlk hW ⟨Or.inr ⟨by first | omega | decide, rfl⟩, hM⟩ dX10_other_25

