theorem dX9_isWithin_0 : decode cX9_isWithin 0 = .ok (.iload_n 0, 1) := by decide +kernel
theorem dX9_isWithin_1 : decode cX9_isWithin 1 = .ok (.iload_n 1, 1) := by decide +kernel
theorem dX9_isWithin_2 : decode cX9_isWithin 2 = .ok (.if_icmp .lt 12, 3) := by decide +kernel
theorem dX9_isWithin_5 : decode cX9_isWithin 5 = .ok (.iload_n 0, 1) := by decide +kernel
theorem dX9_isWithin_6 : decode cX9_isWithin 6 = .ok (.iload_n 2, 1) := by decide +kernel
theorem dX9_isWithin_7 : decode cX9_isWithin 7 = .ok (.if_icmp .gt 7, 3) := by decide +kernel
theorem dX9_isWithin_10 : decode cX9_isWithin 10 = .ok (.iconst 1, 1) := by decide +kernel
theorem dX9_isWithin_11 : decode cX9_isWithin 11 = .ok (.goto 4, 3) := by decide +kernel
theorem dX9_isWithin_14 : decode cX9_isWithin 14 = .ok (.iconst 0, 1) := by decide +kernel
theorem dX9_isWithin_15 : decode cX9_isWithin 15 = .ok (.ireturn, 1) := by decide +kernel
set_option maxHeartbeats 4000000 in
set_option maxRecDepth 100000 in
theorem c_X9_isWithin (l : Launch) (dC : Nat → ClassId) (dI : Nat → Nat → Nat) (dA : Nat → ClassId) (L : List Nat) (h : hx_h) (sz : Nat) (n : Int32) (lo : Int32) (hi : Int32)   : Met l yX9_isWithin (Cond.code yX9_isWithin cX9_isWithin 3 (some .boolean) :: hx_all) ({ frames := 0, cells := 0, slots := 0, locals := 0 }) (va_Pc [.int n, .int lo, .int hi] (hx_B P_tb (P_ty dA) (dC, dI) vwCl L h sz)) (va_Qi (fun (r : Int32) (u : List Nat × hx_h) => ((lo.toInt ≤ n.toInt ∧ n.toInt ≤ hi.toInt) ∧ r = 1 ∨ ¬ (lo.toInt ≤ n.toInt ∧ n.toInt ≤ hi.toInt) ∧ r = 0) ∧ u = (L, h)) (hx_E P_tb (P_ty dA) (dC, dI) vwCl (hx_A L sz)) (hx_A L sz)) 0 0 (hx_A L sz) := by
  refine hx_met (lv := [(0, .int n), (1, .int lo), (2, .int hi)]) (by decide +kernel) rfl (Nat.le_of_ble_eq_true rfl) rfl ?_
  intro p e s m below meth c hx hb hml hr hlk hts0 hown hin hsz hW ls hl
  have hts : ∀ w ∈ hx_all, w.before _ s = true := fun w hw => hts0 w (List.mem_cons_of_mem _ hw)
  have hown : s.vm.findClass "SmallCourt" = some m.cls := hown
  refine lv_iload_n hx hb dX9_isWithin_0 rfl (lv_at hl 0 rfl) ?_
  refine lv_iload_n hx hb dX9_isWithin_1 rfl (lv_at hl 1 rfl) ?_
  refine hb_icmp_lt (zx := n.toInt) (zy := lo.toInt) (tgt := 14) hx hb rfl rfl dX9_isWithin_2 (by decide) (fun c_1 => ?_) (fun c_1 => ?_)
  · skip
    refine lv_iconst (v := 0) hx hb dX9_isWithin_14 (by decide) ?_
    exact hx_retz hx hb hr rfl hlk hW ⟨Or.inr ⟨by first | omega | exact id, rfl⟩, rfl⟩ dX9_isWithin_15
  · skip
    refine lv_iload_n hx hb dX9_isWithin_5 rfl (lv_at hl 0 rfl) ?_
    refine lv_iload_n hx hb dX9_isWithin_6 rfl (lv_at hl 2 rfl) ?_
    refine hb_icmp_gt (zx := n.toInt) (zy := hi.toInt) (tgt := 14) hx hb rfl rfl dX9_isWithin_7 (by decide) (fun c_2 => ?_) (fun c_2 => ?_)
    · skip
      refine lv_iconst (v := 0) hx hb dX9_isWithin_14 (by decide) ?_
      exact hx_retz hx hb hr rfl hlk hW ⟨Or.inr ⟨by first | omega | exact id, rfl⟩, rfl⟩ dX9_isWithin_15
    · skip
      refine lv_iconst (v := 1) hx hb dX9_isWithin_10 (by decide) ?_
      refine lv_goto (tgt := 15) hx hb dX9_isWithin_11 (by decide) ?_
      exact hx_retz hx hb hr rfl hlk hW ⟨Or.inl ⟨by first | omega | exact id, rfl⟩, rfl⟩ dX9_isWithin_15


theorem dX10_in_0 : decode cX10_in 0 = .ok (.iload_n 0, 1) := by decide +kernel
theorem dX10_in_1 : decode cX10_in 1 = .ok (.iload_n 1, 1) := by decide +kernel
theorem dX10_in_2 : decode cX10_in 2 = .ok (.if_icmp .lt 12, 3) := by decide +kernel
theorem dX10_in_5 : decode cX10_in 5 = .ok (.iload_n 0, 1) := by decide +kernel
theorem dX10_in_6 : decode cX10_in 6 = .ok (.iload_n 2, 1) := by decide +kernel
theorem dX10_in_7 : decode cX10_in 7 = .ok (.if_icmp .gt 7, 3) := by decide +kernel
theorem dX10_in_10 : decode cX10_in 10 = .ok (.iconst 1, 1) := by decide +kernel
theorem dX10_in_11 : decode cX10_in 11 = .ok (.goto 4, 3) := by decide +kernel
theorem dX10_in_14 : decode cX10_in 14 = .ok (.iconst 0, 1) := by decide +kernel
theorem dX10_in_15 : decode cX10_in 15 = .ok (.ireturn, 1) := by decide +kernel
set_option maxHeartbeats 4000000 in
set_option maxRecDepth 100000 in
theorem c_X10_in (l : Launch) (dC : Nat → ClassId) (dI : Nat → Nat → Nat) (dA : Nat → ClassId) (L : List Nat) (h : hx_h) (sz : Nat) (n : Int32) (lo : Int32) (hi : Int32)   : Met l yX10_in (Cond.code yX10_in cX10_in 3 (some .boolean) :: hx_all) ({ frames := 0, cells := 0, slots := 0, locals := 0 }) (va_Pc [.int n, .int lo, .int hi] (hx_B P_tb (P_ty dA) (dC, dI) vwCl L h sz)) (va_Qi (fun (r : Int32) (u : List Nat × hx_h) => ((lo.toInt ≤ n.toInt ∧ n.toInt ≤ hi.toInt) ∧ r = 1 ∨ ¬ (lo.toInt ≤ n.toInt ∧ n.toInt ≤ hi.toInt) ∧ r = 0) ∧ u = (L, h)) (hx_E P_tb (P_ty dA) (dC, dI) vwCl (hx_A L sz)) (hx_A L sz)) 0 0 (hx_A L sz) := by
  refine hx_met (lv := [(0, .int n), (1, .int lo), (2, .int hi)]) (by decide +kernel) rfl (Nat.le_of_ble_eq_true rfl) rfl ?_
  intro p e s m below meth c hx hb hml hr hlk hts0 hown hin hsz hW ls hl
  have hts : ∀ w ∈ hx_all, w.before _ s = true := fun w hw => hts0 w (List.mem_cons_of_mem _ hw)
  have hown : s.vm.findClass "SmallCourtModel" = some m.cls := hown
  refine lv_iload_n hx hb dX10_in_0 rfl (lv_at hl 0 rfl) ?_
  refine lv_iload_n hx hb dX10_in_1 rfl (lv_at hl 1 rfl) ?_
  refine hb_icmp_lt (zx := n.toInt) (zy := lo.toInt) (tgt := 14) hx hb rfl rfl dX10_in_2 (by decide) (fun c_1 => ?_) (fun c_1 => ?_)
  · skip
    refine lv_iconst (v := 0) hx hb dX10_in_14 (by decide) ?_
    exact hx_retz hx hb hr rfl hlk hW ⟨Or.inr ⟨by first | omega | exact id, rfl⟩, rfl⟩ dX10_in_15
  · skip
    refine lv_iload_n hx hb dX10_in_5 rfl (lv_at hl 0 rfl) ?_
    refine lv_iload_n hx hb dX10_in_6 rfl (lv_at hl 2 rfl) ?_
    refine hb_icmp_gt (zx := n.toInt) (zy := hi.toInt) (tgt := 14) hx hb rfl rfl dX10_in_7 (by decide) (fun c_2 => ?_) (fun c_2 => ?_)
    · skip
      refine lv_iconst (v := 0) hx hb dX10_in_14 (by decide) ?_
      exact hx_retz hx hb hr rfl hlk hW ⟨Or.inr ⟨by first | omega | exact id, rfl⟩, rfl⟩ dX10_in_15
    · skip
      refine lv_iconst (v := 1) hx hb dX10_in_10 (by decide) ?_
      refine lv_goto (tgt := 15) hx hb dX10_in_11 (by decide) ?_
      exact hx_retz hx hb hr rfl hlk hW ⟨Or.inl ⟨by first | omega | exact id, rfl⟩, rfl⟩ dX10_in_15


theorem dX9_isDay_0 : decode cX9_isDay 0 = .ok (.iload_n 0, 1) := by decide +kernel
theorem dX9_isDay_1 : decode cX9_isDay 1 = .ok (.iconst 0, 1) := by decide +kernel
theorem dX9_isDay_2 : decode cX9_isDay 2 = .ok (.sipush 7999, 3) := by decide +kernel
theorem dX9_isDay_5 : decode cX9_isDay 5 = .ok (.invokestatic 128, 3) := by decide +kernel
theorem dX9_isDay_8 : decode cX9_isDay 8 = .ok (.ireturn, 1) := by decide +kernel
set_option maxHeartbeats 4000000 in
set_option maxRecDepth 100000 in
theorem c_X9_isDay (l : Launch) (dC : Nat → ClassId) (dI : Nat → Nat → Nat) (dA : Nat → ClassId) (L : List Nat) (h : hx_h) (sz : Nat) (d : Int32)   : Met l yX9_isDay (Cond.code yX9_isDay cX9_isDay 1 (some .boolean) :: hx_all) ({ frames := 1, cells := 0, slots := 0, locals := 22 }) (va_Pc [.int d] (hx_B P_tb (P_ty dA) (dC, dI) vwCl L h sz)) (va_Qi (fun (r : Int32) (u : List Nat × hx_h) => ((0 ≤ d.toInt ∧ d.toInt ≤ 7999) ∧ r = 1 ∨ ¬ (0 ≤ d.toInt ∧ d.toInt ≤ 7999) ∧ r = 0) ∧ u = (L, h)) (hx_E P_tb (P_ty dA) (dC, dI) vwCl (hx_A L sz)) (hx_A L sz)) 0 0 (hx_A L sz) := by
  refine hx_met (lv := [(0, .int d)]) (by decide +kernel) rfl (Nat.le_of_ble_eq_true rfl) rfl ?_
  intro p e s m below meth c hx hb hml hr hlk hts0 hown hin hsz hW ls hl
  have hts : ∀ w ∈ hx_all, w.before _ s = true := fun w hw => hts0 w (List.mem_cons_of_mem _ hw)
  have hown : s.vm.findClass "SmallCourt" = some m.cls := hown
  refine lv_iload_n hx hb dX9_isDay_0 rfl (lv_at hl 0 rfl) ?_
  refine lv_iconst (v := 0) hx hb dX9_isDay_1 (by decide) ?_
  refine lv_sipush (v := 7999) hx hb dX9_isDay_2 (by decide) ?_
  refine hx_goi (hx_runS (As := [.int d, .int (0 : Int32), .int (7999 : Int32)]) (rest := []) ⟨hx, hb, hml, hown, hts⟩ hW (c_X9_isWithin l dC dI dA L h s.heap.size d (0 : Int32) (7999 : Int32)) (va_cwS 3 hts (hx_gS kw_434 kw_432 kw_433 kw_94) rfl rfl rfl (by decide +kernel) ⟨Nat.le_of_ble_eq_true rfl, Nat.le_of_ble_eq_true rfl⟩) rfl hl.1 rfl (Nat.le_of_ble_eq_true rfl) dX9_isDay_5 ⟨Nat.le_of_ble_eq_true rfl, Nat.le_of_ble_eq_true rfl⟩) hW (fun r_3 L_1 h_2 H locs p_4 hW => ?_)
  obtain ⟨p_4, eu⟩ := p_4
  cases eu
  rcases p_4 with ⟨kp_4, rfl⟩ | ⟨kp_4, rfl⟩
  · skip
    have zc1 : (0 : Int32).toInt = 0 := by decide
    have zc2 : (7999 : Int32).toInt = 7999 := by decide
    exact hx_retz hx hb hr rfl hlk hW ⟨Or.inl ⟨by first | omega | exact id, rfl⟩, rfl⟩ dX9_isDay_8
  · skip
    have zc1 : (0 : Int32).toInt = 0 := by decide
    have zc2 : (7999 : Int32).toInt = 7999 := by decide
    exact hx_retz hx hb hr rfl hlk hW ⟨Or.inr ⟨by first | omega | exact id, rfl⟩, rfl⟩ dX9_isDay_8


theorem dX10_isDay_0 : decode cX10_isDay 0 = .ok (.iload_n 0, 1) := by decide +kernel
theorem dX10_isDay_1 : decode cX10_isDay 1 = .ok (.iconst 0, 1) := by decide +kernel
theorem dX10_isDay_2 : decode cX10_isDay 2 = .ok (.sipush 7999, 3) := by decide +kernel
theorem dX10_isDay_5 : decode cX10_isDay 5 = .ok (.invokestatic 228, 3) := by decide +kernel
theorem dX10_isDay_8 : decode cX10_isDay 8 = .ok (.ireturn, 1) := by decide +kernel
set_option maxHeartbeats 4000000 in
set_option maxRecDepth 100000 in
theorem c_X10_isDay (l : Launch) (dC : Nat → ClassId) (dI : Nat → Nat → Nat) (dA : Nat → ClassId) (L : List Nat) (h : hx_h) (sz : Nat) (d : Int32)   : Met l yX10_isDay (Cond.code yX10_isDay cX10_isDay 1 (some .boolean) :: hx_all) ({ frames := 1, cells := 0, slots := 0, locals := 22 }) (va_Pc [.int d] (hx_B P_tb (P_ty dA) (dC, dI) vwCl L h sz)) (va_Qi (fun (r : Int32) (u : List Nat × hx_h) => ((0 ≤ d.toInt ∧ d.toInt ≤ 7999) ∧ r = 1 ∨ ¬ (0 ≤ d.toInt ∧ d.toInt ≤ 7999) ∧ r = 0) ∧ u = (L, h)) (hx_E P_tb (P_ty dA) (dC, dI) vwCl (hx_A L sz)) (hx_A L sz)) 0 0 (hx_A L sz) := by
  refine hx_met (lv := [(0, .int d)]) (by decide +kernel) rfl (Nat.le_of_ble_eq_true rfl) rfl ?_
  intro p e s m below meth c hx hb hml hr hlk hts0 hown hin hsz hW ls hl
  have hts : ∀ w ∈ hx_all, w.before _ s = true := fun w hw => hts0 w (List.mem_cons_of_mem _ hw)
  have hown : s.vm.findClass "SmallCourtModel" = some m.cls := hown
  refine lv_iload_n hx hb dX10_isDay_0 rfl (lv_at hl 0 rfl) ?_
  refine lv_iconst (v := 0) hx hb dX10_isDay_1 (by decide) ?_
  refine lv_sipush (v := 7999) hx hb dX10_isDay_2 (by decide) ?_
  refine hx_goi (hx_runS (As := [.int d, .int (0 : Int32), .int (7999 : Int32)]) (rest := []) ⟨hx, hb, hml, hown, hts⟩ hW (c_X10_in l dC dI dA L h s.heap.size d (0 : Int32) (7999 : Int32)) (va_cwS 3 hts (hx_gS kw_1445 kw_1443 kw_1444 kw_103) rfl rfl rfl (by decide +kernel) ⟨Nat.le_of_ble_eq_true rfl, Nat.le_of_ble_eq_true rfl⟩) rfl hl.1 rfl (Nat.le_of_ble_eq_true rfl) dX10_isDay_5 ⟨Nat.le_of_ble_eq_true rfl, Nat.le_of_ble_eq_true rfl⟩) hW (fun r_3 L_1 h_2 H locs p_4 hW => ?_)
  obtain ⟨p_4, eu⟩ := p_4
  cases eu
  rcases p_4 with ⟨kp_4, rfl⟩ | ⟨kp_4, rfl⟩
  · skip
    have zc1 : (0 : Int32).toInt = 0 := by decide
    have zc2 : (7999 : Int32).toInt = 7999 := by decide
    exact hx_retz hx hb hr rfl hlk hW ⟨Or.inl ⟨by first | omega | exact id, rfl⟩, rfl⟩ dX10_isDay_8
  · skip
    have zc1 : (0 : Int32).toInt = 0 := by decide
    have zc2 : (7999 : Int32).toInt = 7999 := by decide
    exact hx_retz hx hb hr rfl hlk hW ⟨Or.inr ⟨by first | omega | exact id, rfl⟩, rfl⟩ dX10_isDay_8

