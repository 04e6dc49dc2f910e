set_option maxHeartbeats 4000000 in
set_option maxRecDepth 100000 in
theorem c_X9_isWithin (l : Launch) (dC : Nat → ClassId) (dI : Nat → Nat → Nat) (dA : Nat → ClassId) (L : List Nat) (h : hx_h) (sz : Nat) (n : Int32) (lo : Int32) (hi : Int32)   : Met l yX9_isWithin (Cond.code yX9_isWithin cX9_isWithin 3 (some .boolean) :: hx_all) ({ frames := 0, cells := 0, slots := 0, locals := 0 }) (va_Pc [.int n, .int lo, .int hi] (hx_B P_tb (P_ty dA) (dC, dI) vwCl L h sz)) (va_Qi (fun (r : Int32) (u : List Nat × hx_h) => ((lo.toInt ≤ n.toInt ∧ n.toInt ≤ hi.toInt) ∧ r = 1 ∨ ¬ (lo.toInt ≤ n.toInt ∧ n.toInt ≤ hi.toInt) ∧ r = 0) ∧ u = (L, h)) (hx_E P_tb (P_ty dA) (dC, dI) vwCl (hx_A L sz)) (hx_A L sz)) 0 0 (hx_A L sz) := by
  refine hx_met (lv := [(0, .int n), (1, .int lo), (2, .int hi)]) (by decide +kernel) rfl (Nat.le_of_ble_eq_true rfl) rfl ?_
  intro p e s m below meth c hx hb hml hr hlk hts0 hown hin hsz hW ls hl
  have hts : ∀ w ∈ hx_all, w.before _ s = true := fun w hw => hts0 w (List.mem_cons_of_mem _ hw)
  have hown : s.vm.findClass "SmallCourt" = some m.cls := hown
  refine lv_iload_n hx hb dX9_isWithin_0 rfl (lv_at hl 0 rfl) ?_
  refine lv_iload_n hx hb dX9_isWithin_1 rfl (lv_at hl 1 rfl) ?_
  refine hb_icmp_lt (tgt := 14) hx hb rfl rfl dX9_isWithin_2 (by decide) (fun c_1 => ?_) (fun c_1 => ?_)
  · skip
    refine lv_iconst (v := 0) hx hb dX9_isWithin_14 (by decide) ?_
    exact hx_retz hx hb hr rfl hlk hW ⟨Or.inr ⟨by omega, rfl⟩, rfl⟩ dX9_isWithin_15
  · skip
    refine lv_iload_n hx hb dX9_isWithin_5 rfl (lv_at hl 0 rfl) ?_
    refine lv_iload_n hx hb dX9_isWithin_6 rfl (lv_at hl 2 rfl) ?_
    refine hb_icmp_gt (tgt := 14) hx hb rfl rfl dX9_isWithin_7 (by decide) (fun c_2 => ?_) (fun c_2 => ?_)
    · skip
      refine lv_iconst (v := 0) hx hb dX9_isWithin_14 (by decide) ?_
      exact hx_retz hx hb hr rfl hlk hW ⟨Or.inr ⟨by omega, rfl⟩, rfl⟩ dX9_isWithin_15
    · skip
      refine lv_iconst (v := 1) hx hb dX9_isWithin_10 (by decide) ?_
      refine lv_goto (tgt := 15) hx hb dX9_isWithin_11 (by decide) ?_
      exact hx_retz hx hb hr rfl hlk hW ⟨Or.inl ⟨by omega, rfl⟩, rfl⟩ dX9_isWithin_15

set_option maxHeartbeats 4000000 in
set_option maxRecDepth 100000 in
theorem c_X10_in (l : Launch) (dC : Nat → ClassId) (dI : Nat → Nat → Nat) (dA : Nat → ClassId) (L : List Nat) (h : hx_h) (sz : Nat) (n : Int32) (lo : Int32) (hi : Int32)   : Met l yX10_in (Cond.code yX10_in cX10_in 3 (some .boolean) :: hx_all) ({ frames := 0, cells := 0, slots := 0, locals := 0 }) (va_Pc [.int n, .int lo, .int hi] (hx_B P_tb (P_ty dA) (dC, dI) vwCl L h sz)) (va_Qi (fun (r : Int32) (u : List Nat × hx_h) => ((lo.toInt ≤ n.toInt ∧ n.toInt ≤ hi.toInt) ∧ r = 1 ∨ ¬ (lo.toInt ≤ n.toInt ∧ n.toInt ≤ hi.toInt) ∧ r = 0) ∧ u = (L, h)) (hx_E P_tb (P_ty dA) (dC, dI) vwCl (hx_A L sz)) (hx_A L sz)) 0 0 (hx_A L sz) := by
  refine hx_met (lv := [(0, .int n), (1, .int lo), (2, .int hi)]) (by decide +kernel) rfl (Nat.le_of_ble_eq_true rfl) rfl ?_
  intro p e s m below meth c hx hb hml hr hlk hts0 hown hin hsz hW ls hl
  have hts : ∀ w ∈ hx_all, w.before _ s = true := fun w hw => hts0 w (List.mem_cons_of_mem _ hw)
  have hown : s.vm.findClass "SmallCourtModel" = some m.cls := hown
  refine lv_iload_n hx hb dX10_in_0 rfl (lv_at hl 0 rfl) ?_
  refine lv_iload_n hx hb dX10_in_1 rfl (lv_at hl 1 rfl) ?_
  refine hb_icmp_lt (tgt := 14) hx hb rfl rfl dX10_in_2 (by decide) (fun c_1 => ?_) (fun c_1 => ?_)
  · skip
    refine lv_iconst (v := 0) hx hb dX10_in_14 (by decide) ?_
    exact hx_retz hx hb hr rfl hlk hW ⟨Or.inr ⟨by omega, rfl⟩, rfl⟩ dX10_in_15
  · skip
    refine lv_iload_n hx hb dX10_in_5 rfl (lv_at hl 0 rfl) ?_
    refine lv_iload_n hx hb dX10_in_6 rfl (lv_at hl 2 rfl) ?_
    refine hb_icmp_gt (tgt := 14) hx hb rfl rfl dX10_in_7 (by decide) (fun c_2 => ?_) (fun c_2 => ?_)
    · skip
      refine lv_iconst (v := 0) hx hb dX10_in_14 (by decide) ?_
      exact hx_retz hx hb hr rfl hlk hW ⟨Or.inr ⟨by omega, rfl⟩, rfl⟩ dX10_in_15
    · skip
      refine lv_iconst (v := 1) hx hb dX10_in_10 (by decide) ?_
      refine lv_goto (tgt := 15) hx hb dX10_in_11 (by decide) ?_
      exact hx_retz hx hb hr rfl hlk hW ⟨Or.inl ⟨by omega, rfl⟩, rfl⟩ dX10_in_15

set_option maxHeartbeats 4000000 in
set_option maxRecDepth 100000 in
theorem c_X9_isDay (l : Launch) (dC : Nat → ClassId) (dI : Nat → Nat → Nat) (dA : Nat → ClassId) (L : List Nat) (h : hx_h) (sz : Nat) (d : Int32)   : Met l yX9_isDay (Cond.code yX9_isDay cX9_isDay 1 (some .boolean) :: hx_all) ({ frames := 1, cells := 0, slots := 0, locals := 22 }) (va_Pc [.int d] (hx_B P_tb (P_ty dA) (dC, dI) vwCl L h sz)) (va_Qi (fun (r : Int32) (u : List Nat × hx_h) => ((0 ≤ d.toInt ∧ d.toInt ≤ 7999) ∧ r = 1 ∨ ¬ (0 ≤ d.toInt ∧ d.toInt ≤ 7999) ∧ r = 0) ∧ u = (L, h)) (hx_E P_tb (P_ty dA) (dC, dI) vwCl (hx_A L sz)) (hx_A L sz)) 0 0 (hx_A L sz) := by
  refine hx_met (lv := [(0, .int d)]) (by decide +kernel) rfl (Nat.le_of_ble_eq_true rfl) rfl ?_
  intro p e s m below meth c hx hb hml hr hlk hts0 hown hin hsz hW ls hl
  have hts : ∀ w ∈ hx_all, w.before _ s = true := fun w hw => hts0 w (List.mem_cons_of_mem _ hw)
  have hown : s.vm.findClass "SmallCourt" = some m.cls := hown
  refine lv_iload_n hx hb dX9_isDay_0 rfl (lv_at hl 0 rfl) ?_
  refine lv_iconst (v := 0) hx hb dX9_isDay_1 (by decide) ?_
  refine lv_sipush (v := 7999) hx hb dX9_isDay_2 (by decide) ?_
  refine hx_goi (hx_runS (As := [.int d, .int (0 : Int32), .int (7999 : Int32)]) (rest := []) ⟨hx, hb, hml, hown, hts⟩ hW (c_X9_isWithin l dC dI dA L h H.size d (0 : Int32) (7999 : Int32)) (va_cwS 3 hts (hx_gS kw_434 kw_432 kw_433 kw_94) rfl rfl rfl (by decide +kernel) ⟨Nat.le_of_ble_eq_true rfl, Nat.le_of_ble_eq_true rfl⟩) rfl hl.1 rfl (Nat.le_of_ble_eq_true rfl) dX9_isDay_5 ⟨Nat.le_of_ble_eq_true rfl, Nat.le_of_ble_eq_true rfl⟩) hW (fun r_3 L_1 h_2 H locs p_4 hW => ?_)
  obtain ⟨p_4, eu⟩ := p_4
  cases eu
  rcases p_4 with ⟨kp_4, rfl⟩ | ⟨kp_4, rfl⟩
  · skip
    have zc1 : (0 : Int32).toInt = 0 := by decide
    have zc2 : (7999 : Int32).toInt = 7999 := by decide
    exact hx_retz hx hb hr rfl hlk hW ⟨Or.inl ⟨by omega, rfl⟩, rfl⟩ dX9_isDay_8
  · skip
    have zc1 : (0 : Int32).toInt = 0 := by decide
    have zc2 : (7999 : Int32).toInt = 7999 := by decide
    exact hx_retz hx hb hr rfl hlk hW ⟨Or.inr ⟨by omega, rfl⟩, rfl⟩ dX9_isDay_8

set_option maxHeartbeats 4000000 in
set_option maxRecDepth 100000 in
theorem c_X10_isDay (l : Launch) (dC : Nat → ClassId) (dI : Nat → Nat → Nat) (dA : Nat → ClassId) (L : List Nat) (h : hx_h) (sz : Nat) (d : Int32)   : Met l yX10_isDay (Cond.code yX10_isDay cX10_isDay 1 (some .boolean) :: hx_all) ({ frames := 1, cells := 0, slots := 0, locals := 22 }) (va_Pc [.int d] (hx_B P_tb (P_ty dA) (dC, dI) vwCl L h sz)) (va_Qi (fun (r : Int32) (u : List Nat × hx_h) => ((0 ≤ d.toInt ∧ d.toInt ≤ 7999) ∧ r = 1 ∨ ¬ (0 ≤ d.toInt ∧ d.toInt ≤ 7999) ∧ r = 0) ∧ u = (L, h)) (hx_E P_tb (P_ty dA) (dC, dI) vwCl (hx_A L sz)) (hx_A L sz)) 0 0 (hx_A L sz) := by
  refine hx_met (lv := [(0, .int d)]) (by decide +kernel) rfl (Nat.le_of_ble_eq_true rfl) rfl ?_
  intro p e s m below meth c hx hb hml hr hlk hts0 hown hin hsz hW ls hl
  have hts : ∀ w ∈ hx_all, w.before _ s = true := fun w hw => hts0 w (List.mem_cons_of_mem _ hw)
  have hown : s.vm.findClass "SmallCourtModel" = some m.cls := hown
  refine lv_iload_n hx hb dX10_isDay_0 rfl (lv_at hl 0 rfl) ?_
  refine lv_iconst (v := 0) hx hb dX10_isDay_1 (by decide) ?_
  refine lv_sipush (v := 7999) hx hb dX10_isDay_2 (by decide) ?_
  refine hx_goi (hx_runS (As := [.int d, .int (0 : Int32), .int (7999 : Int32)]) (rest := []) ⟨hx, hb, hml, hown, hts⟩ hW (c_X10_in l dC dI dA L h H.size d (0 : Int32) (7999 : Int32)) (va_cwS 3 hts (hx_gS kw_1445 kw_1443 kw_1444 kw_103) rfl rfl rfl (by decide +kernel) ⟨Nat.le_of_ble_eq_true rfl, Nat.le_of_ble_eq_true rfl⟩) rfl hl.1 rfl (Nat.le_of_ble_eq_true rfl) dX10_isDay_5 ⟨Nat.le_of_ble_eq_true rfl, Nat.le_of_ble_eq_true rfl⟩) hW (fun r_3 L_1 h_2 H locs p_4 hW => ?_)
  obtain ⟨p_4, eu⟩ := p_4
  cases eu
  rcases p_4 with ⟨kp_4, rfl⟩ | ⟨kp_4, rfl⟩
  · skip
    have zc1 : (0 : Int32).toInt = 0 := by decide
    have zc2 : (7999 : Int32).toInt = 7999 := by decide
    exact hx_retz hx hb hr rfl hlk hW ⟨Or.inl ⟨by omega, rfl⟩, rfl⟩ dX10_isDay_8
  · skip
    have zc1 : (0 : Int32).toInt = 0 := by decide
    have zc2 : (7999 : Int32).toInt = 7999 := by decide
    exact hx_retz hx hb hr rfl hlk hW ⟨Or.inr ⟨by omega, rfl⟩, rfl⟩ dX10_isDay_8
