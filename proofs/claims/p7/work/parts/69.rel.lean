
set_option maxHeartbeats 4000000 in
set_option maxRecDepth 100000 in
theorem t_X9_isHousehold_2 (l : Launch) (dC : Nat → ClassId) (dI : Nat → Nat → Nat) (dA : Nat → ClassId) (L : List Nat) (h : hx_h) (sz : Nat) (i1 : Int32) (i2 : Int32) (i3 : Int32) (i4 : Int32) (hT : hx_T T_tb L h)   : Met l yX9_isHousehold (Cond.code yX9_isHousehold cX9_isHousehold 4 (some .boolean) :: hx_all) ({ frames := 1, cells := 0, slots := 0, locals := 22 }) (va_Pc [.int i1, .int i2, .int i3, .int i4] (hx_B T_tb (P_ty dA) (dC, dI) vwCl L h sz)) (va_Qi (fun (r : Int32) (u : List Nat × hx_h) => ((r.toInt = 0 ∧ (i1.toInt < 0 ∨ 9999 < i1.toInt ∨ i2.toInt < 1 ∨ 20 < i2.toInt ∨ i3.toInt < 0 ∨ 99 < i3.toInt ∨ i4.toInt < 0 ∨ 99 < i4.toInt)) ∨ (r.toInt = 1 ∧ 0 ≤ i1.toInt ∧ i1.toInt ≤ 9999 ∧ 1 ≤ i2.toInt ∧ i2.toInt ≤ 20 ∧ 0 ≤ i3.toInt ∧ i3.toInt ≤ 99 ∧ 0 ≤ i4.toInt ∧ i4.toInt ≤ 99)) ∧ hx_T T_tb u.1 u.2 ∧ hx_S T_tb [] L h u.1 u.2) (hx_E T_tb (P_ty dA) (dC, dI) vwCl (hx_A L sz)) (hx_A L sz)) 0 0 (hx_A L sz) := by
  refine hx_met (lv := [(0, .int i1), (1, .int i2), (2, .int i3), (3, .int i4)]) (by decide +kernel) rfl (Nat.le_of_ble_eq_true rfl) rfl ?_
  intro p e s m below meth c hx hb hml hr hlk hts0 hown hin hsz hW ls hl
  have hts : ∀ w ∈ hx_all, w.before _ s = true := fun w hw => hts0 w (List.mem_cons_of_mem _ hw)
  have hown : s.vm.findClass "SmallCourt" = some m.cls := hown
  have hM : hx_S T_tb [] L h L h := hx_S.rf
  refine lv_iload_n hx hb dX9_isHousehold_0 rfl (lv_at hl 0 rfl) ?_
  refine lv_iconst (v := 0) hx hb dX9_isHousehold_1 (by decide) ?_
  refine lv_sipush (v := 9999) hx hb dX9_isHousehold_2 (by decide) ?_
  have zc_9999 : (9999 : Int32).toInt = 9999 := by decide
  have zc_0 : (0 : Int32).toInt = 0 := by decide
  refine hx_goi (hx_runS (As := [.int i1, .int (0 : Int32), .int (9999 : Int32)]) (rest := []) ⟨hx, hb, hml, hown, hts⟩ hW (t_X9_isWithin_2 l dC dI dA L h s.heap.size i1 (0 : Int32) (9999 : Int32) hT) (va_cwS 3 hts (hx_gS kw_434 kw_432 kw_433 kw_94) rfl rfl rfl (by decide +kernel) ⟨Nat.le_of_ble_eq_true rfl, Nat.le_of_ble_eq_true rfl⟩) rfl hl.1 rfl (Nat.le_of_ble_eq_true rfl) dX9_isHousehold_5 ⟨Nat.le_of_ble_eq_true rfl, Nat.le_of_ble_eq_true rfl⟩) hW (fun r_3 L_1 h_2 H locs p_4 hW => ?_)
  obtain ⟨hr_5, hT, hs⟩ := p_4
  have hT : hx_T T_tb L_1 h_2 := hT
  have hs : hx_S T_tb [] L h L_1 h_2 := hs
  have hM := hM.tr (hs.mono (by decide))
  refine hb_if_eq (zx := r_3.toInt) (tgt := 45) hx hb rfl dX9_isHousehold_8 (by decide) (fun c_6 => ?_) (fun c_6 => ?_)
  · skip
    refine lv_iconst (v := 0) hx hb dX9_isHousehold_45 (by decide) ?_
    exact hx_retz hx hb hr rfl hlk hW ⟨(by have zr : (0 : Int32).toInt = 0 := (by decide); (first | omega | (refine ⟨?_, ?_⟩ <;> omega))), hT, hM⟩ dX9_isHousehold_46
  · skip
    refine lv_iload_n hx hb dX9_isHousehold_11 rfl (lv_at hl 1 rfl) ?_
    refine lv_iconst (v := 1) hx hb dX9_isHousehold_12 (by decide) ?_
    refine lv_bipush (v := 20) hx hb dX9_isHousehold_13 (by decide) ?_
    have zc_20 : (20 : Int32).toInt = 20 := by decide
    have zc_1 : (1 : Int32).toInt = 1 := by decide
    refine hx_goi (hx_runS (As := [.int i2, .int (1 : Int32), .int (20 : Int32)]) (rest := []) ⟨hx, hb, hml, hown, hts⟩ hW (t_X9_isWithin_2 l dC dI dA L_1 h_2 H.size i2 (1 : Int32) (20 : Int32) hT) (va_cwS 3 hts (hx_gS kw_434 kw_432 kw_433 kw_94) rfl rfl rfl (by decide +kernel) ⟨Nat.le_of_ble_eq_true rfl, Nat.le_of_ble_eq_true rfl⟩) rfl hl.1 rfl (Nat.le_of_ble_eq_true rfl) dX9_isHousehold_15 ⟨Nat.le_of_ble_eq_true rfl, Nat.le_of_ble_eq_true rfl⟩) hW (fun r_9 L_7 h_8 H locs p_10 hW => ?_)
    obtain ⟨hr_11, hT, hs⟩ := p_10
    have hT : hx_T T_tb L_7 h_8 := hT
    have hs : hx_S T_tb [] L_1 h_2 L_7 h_8 := hs
    have hM := hM.tr (hs.mono (by decide))
    refine hb_if_eq (zx := r_9.toInt) (tgt := 45) hx hb rfl dX9_isHousehold_18 (by decide) (fun c_12 => ?_) (fun c_12 => ?_)
    · skip
      refine lv_iconst (v := 0) hx hb dX9_isHousehold_45 (by decide) ?_
      exact hx_retz hx hb hr rfl hlk hW ⟨(by have zr : (0 : Int32).toInt = 0 := (by decide); (first | omega | (refine ⟨?_, ?_⟩ <;> omega))), hT, hM⟩ dX9_isHousehold_46
    · skip
      refine lv_iload_n hx hb dX9_isHousehold_21 rfl (lv_at hl 2 rfl) ?_
      refine lv_iconst (v := 0) hx hb dX9_isHousehold_22 (by decide) ?_
      refine lv_bipush (v := 99) hx hb dX9_isHousehold_23 (by decide) ?_
      have zc_99 : (99 : Int32).toInt = 99 := by decide
      refine hx_goi (hx_runS (As := [.int i3, .int (0 : Int32), .int (99 : Int32)]) (rest := []) ⟨hx, hb, hml, hown, hts⟩ hW (t_X9_isWithin_2 l dC dI dA L_7 h_8 H.size i3 (0 : Int32) (99 : Int32) hT) (va_cwS 3 hts (hx_gS kw_434 kw_432 kw_433 kw_94) rfl rfl rfl (by decide +kernel) ⟨Nat.le_of_ble_eq_true rfl, Nat.le_of_ble_eq_true rfl⟩) rfl hl.1 rfl (Nat.le_of_ble_eq_true rfl) dX9_isHousehold_25 ⟨Nat.le_of_ble_eq_true rfl, Nat.le_of_ble_eq_true rfl⟩) hW (fun r_15 L_13 h_14 H locs p_16 hW => ?_)
      obtain ⟨hr_17, hT, hs⟩ := p_16
      have hT : hx_T T_tb L_13 h_14 := hT
      have hs : hx_S T_tb [] L_7 h_8 L_13 h_14 := hs
      have hM := hM.tr (hs.mono (by decide))
      refine hb_if_eq (zx := r_15.toInt) (tgt := 45) hx hb rfl dX9_isHousehold_28 (by decide) (fun c_18 => ?_) (fun c_18 => ?_)
      · skip
        refine lv_iconst (v := 0) hx hb dX9_isHousehold_45 (by decide) ?_
        exact hx_retz hx hb hr rfl hlk hW ⟨(by have zr : (0 : Int32).toInt = 0 := (by decide); (first | omega | (refine ⟨?_, ?_⟩ <;> omega))), hT, hM⟩ dX9_isHousehold_46
      · skip
        refine lv_iload_n hx hb dX9_isHousehold_31 rfl (lv_at hl 3 rfl) ?_
        refine lv_iconst (v := 0) hx hb dX9_isHousehold_32 (by decide) ?_
        refine lv_bipush (v := 99) hx hb dX9_isHousehold_33 (by decide) ?_
        refine hx_goi (hx_runS (As := [.int i4, .int (0 : Int32), .int (99 : Int32)]) (rest := []) ⟨hx, hb, hml, hown, hts⟩ hW (t_X9_isWithin_2 l dC dI dA L_13 h_14 H.size i4 (0 : Int32) (99 : Int32) hT) (va_cwS 3 hts (hx_gS kw_434 kw_432 kw_433 kw_94) rfl rfl rfl (by decide +kernel) ⟨Nat.le_of_ble_eq_true rfl, Nat.le_of_ble_eq_true rfl⟩) rfl hl.1 rfl (Nat.le_of_ble_eq_true rfl) dX9_isHousehold_35 ⟨Nat.le_of_ble_eq_true rfl, Nat.le_of_ble_eq_true rfl⟩) hW (fun r_21 L_19 h_20 H locs p_22 hW => ?_)
        obtain ⟨hr_23, hT, hs⟩ := p_22
        have hT : hx_T T_tb L_19 h_20 := hT
        have hs : hx_S T_tb [] L_13 h_14 L_19 h_20 := hs
        have hM := hM.tr (hs.mono (by decide))
        refine hb_if_eq (zx := r_21.toInt) (tgt := 45) hx hb rfl dX9_isHousehold_38 (by decide) (fun c_24 => ?_) (fun c_24 => ?_)
        · skip
          refine lv_iconst (v := 0) hx hb dX9_isHousehold_45 (by decide) ?_
          exact hx_retz hx hb hr rfl hlk hW ⟨(by have zr : (0 : Int32).toInt = 0 := (by decide); (first | omega | (refine ⟨?_, ?_⟩ <;> omega))), hT, hM⟩ dX9_isHousehold_46
        · skip
          refine lv_iconst (v := 1) hx hb dX9_isHousehold_41 (by decide) ?_
          refine lv_goto (tgt := 46) hx hb dX9_isHousehold_42 (by decide) ?_
          exact hx_retz hx hb hr rfl hlk hW ⟨(by have zr : (1 : Int32).toInt = 1 := (by decide); (first | omega | (refine ⟨?_, ?_⟩ <;> omega))), hT, hM⟩ dX9_isHousehold_46


set_option maxHeartbeats 4000000 in
set_option maxRecDepth 100000 in
theorem t_X10_areLives_2 (l : Launch) (dC : Nat → ClassId) (dI : Nat → Nat → Nat) (dA : Nat → ClassId) (L : List Nat) (h : hx_h) (sz : Nat) (i1 : Int32) (i2 : Int32) (i3 : Int32) (i4 : Int32) (hT : hx_T T_tb L h)   : Met l yX10_areLives (Cond.code yX10_areLives cX10_areLives 4 (some .boolean) :: hx_all) ({ frames := 1, cells := 0, slots := 0, locals := 22 }) (va_Pc [.int i1, .int i2, .int i3, .int i4] (hx_B T_tb (P_ty dA) (dC, dI) vwCl L h sz)) (va_Qi (fun (r : Int32) (u : List Nat × hx_h) => ((r.toInt = 0 ∧ (i1.toInt < 0 ∨ 9999 < i1.toInt ∨ i2.toInt < 1 ∨ 20 < i2.toInt ∨ i3.toInt < 0 ∨ 99 < i3.toInt ∨ i4.toInt < 0 ∨ 99 < i4.toInt)) ∨ (r.toInt = 1 ∧ 0 ≤ i1.toInt ∧ i1.toInt ≤ 9999 ∧ 1 ≤ i2.toInt ∧ i2.toInt ≤ 20 ∧ 0 ≤ i3.toInt ∧ i3.toInt ≤ 99 ∧ 0 ≤ i4.toInt ∧ i4.toInt ≤ 99)) ∧ hx_T T_tb u.1 u.2 ∧ hx_S T_tb [] L h u.1 u.2) (hx_E T_tb (P_ty dA) (dC, dI) vwCl (hx_A L sz)) (hx_A L sz)) 0 0 (hx_A L sz) := by
  refine hx_met (lv := [(0, .int i1), (1, .int i2), (2, .int i3), (3, .int i4)]) (by decide +kernel) rfl (Nat.le_of_ble_eq_true rfl) rfl ?_
  intro p e s m below meth c hx hb hml hr hlk hts0 hown hin hsz hW ls hl
  have hts : ∀ w ∈ hx_all, w.before _ s = true := fun w hw => hts0 w (List.mem_cons_of_mem _ hw)
  have hown : s.vm.findClass "SmallCourtModel" = some m.cls := hown
  have hM : hx_S T_tb [] L h L h := hx_S.rf
  refine lv_iload_n hx hb dX10_areLives_0 rfl (lv_at hl 0 rfl) ?_
  refine lv_iconst (v := 0) hx hb dX10_areLives_1 (by decide) ?_
  refine lv_sipush (v := 9999) hx hb dX10_areLives_2 (by decide) ?_
  have zc_9999 : (9999 : Int32).toInt = 9999 := by decide
  have zc_0 : (0 : Int32).toInt = 0 := by decide
  refine hx_goi (hx_runS (As := [.int i1, .int (0 : Int32), .int (9999 : Int32)]) (rest := []) ⟨hx, hb, hml, hown, hts⟩ hW (t_X10_in l dC dI dA L h s.heap.size i1 (0 : Int32) (9999 : Int32) hT) (va_cwS 3 hts (hx_gS kw_1445 kw_1443 kw_1444 kw_103) rfl rfl rfl (by decide +kernel) ⟨Nat.le_of_ble_eq_true rfl, Nat.le_of_ble_eq_true rfl⟩) rfl hl.1 rfl (Nat.le_of_ble_eq_true rfl) dX10_areLives_5 ⟨Nat.le_of_ble_eq_true rfl, Nat.le_of_ble_eq_true rfl⟩) hW (fun r_3 L_1 h_2 H locs p_4 hW => ?_)
  obtain ⟨hr_5, hT, hs⟩ := p_4
  have hT : hx_T T_tb L_1 h_2 := hT
  have hs : hx_S T_tb [] L h L_1 h_2 := hs
  have hM := hM.tr (hs.mono (by decide))
  refine hb_if_eq (zx := r_3.toInt) (tgt := 45) hx hb rfl dX10_areLives_8 (by decide) (fun c_6 => ?_) (fun c_6 => ?_)
  · skip
    refine lv_iconst (v := 0) hx hb dX10_areLives_45 (by decide) ?_
    exact hx_retz hx hb hr rfl hlk hW ⟨(by have zr : (0 : Int32).toInt = 0 := (by decide); (first | omega | (refine ⟨?_, ?_⟩ <;> omega))), hT, hM⟩ dX10_areLives_46
  · skip
    refine lv_iload_n hx hb dX10_areLives_11 rfl (lv_at hl 1 rfl) ?_
    refine lv_iconst (v := 1) hx hb dX10_areLives_12 (by decide) ?_
    refine lv_bipush (v := 20) hx hb dX10_areLives_13 (by decide) ?_
    have zc_20 : (20 : Int32).toInt = 20 := by decide
    have zc_1 : (1 : Int32).toInt = 1 := by decide
    refine hx_goi (hx_runS (As := [.int i2, .int (1 : Int32), .int (20 : Int32)]) (rest := []) ⟨hx, hb, hml, hown, hts⟩ hW (t_X10_in l dC dI dA L_1 h_2 H.size i2 (1 : Int32) (20 : Int32) hT) (va_cwS 3 hts (hx_gS kw_1445 kw_1443 kw_1444 kw_103) rfl rfl rfl (by decide +kernel) ⟨Nat.le_of_ble_eq_true rfl, Nat.le_of_ble_eq_true rfl⟩) rfl hl.1 rfl (Nat.le_of_ble_eq_true rfl) dX10_areLives_15 ⟨Nat.le_of_ble_eq_true rfl, Nat.le_of_ble_eq_true rfl⟩) hW (fun r_9 L_7 h_8 H locs p_10 hW => ?_)
    obtain ⟨hr_11, hT, hs⟩ := p_10
    have hT : hx_T T_tb L_7 h_8 := hT
    have hs : hx_S T_tb [] L_1 h_2 L_7 h_8 := hs
    have hM := hM.tr (hs.mono (by decide))
    refine hb_if_eq (zx := r_9.toInt) (tgt := 45) hx hb rfl dX10_areLives_18 (by decide) (fun c_12 => ?_) (fun c_12 => ?_)
    · skip
      refine lv_iconst (v := 0) hx hb dX10_areLives_45 (by decide) ?_
      exact hx_retz hx hb hr rfl hlk hW ⟨(by have zr : (0 : Int32).toInt = 0 := (by decide); (first | omega | (refine ⟨?_, ?_⟩ <;> omega))), hT, hM⟩ dX10_areLives_46
    · skip
      refine lv_iload_n hx hb dX10_areLives_21 rfl (lv_at hl 2 rfl) ?_
      refine lv_iconst (v := 0) hx hb dX10_areLives_22 (by decide) ?_
      refine lv_bipush (v := 99) hx hb dX10_areLives_23 (by decide) ?_
      have zc_99 : (99 : Int32).toInt = 99 := by decide
      refine hx_goi (hx_runS (As := [.int i3, .int (0 : Int32), .int (99 : Int32)]) (rest := []) ⟨hx, hb, hml, hown, hts⟩ hW (t_X10_in l dC dI dA L_7 h_8 H.size i3 (0 : Int32) (99 : Int32) hT) (va_cwS 3 hts (hx_gS kw_1445 kw_1443 kw_1444 kw_103) rfl rfl rfl (by decide +kernel) ⟨Nat.le_of_ble_eq_true rfl, Nat.le_of_ble_eq_true rfl⟩) rfl hl.1 rfl (Nat.le_of_ble_eq_true rfl) dX10_areLives_25 ⟨Nat.le_of_ble_eq_true rfl, Nat.le_of_ble_eq_true rfl⟩) hW (fun r_15 L_13 h_14 H locs p_16 hW => ?_)
      obtain ⟨hr_17, hT, hs⟩ := p_16
      have hT : hx_T T_tb L_13 h_14 := hT
      have hs : hx_S T_tb [] L_7 h_8 L_13 h_14 := hs
      have hM := hM.tr (hs.mono (by decide))
      refine hb_if_eq (zx := r_15.toInt) (tgt := 45) hx hb rfl dX10_areLives_28 (by decide) (fun c_18 => ?_) (fun c_18 => ?_)
      · skip
        refine lv_iconst (v := 0) hx hb dX10_areLives_45 (by decide) ?_
        exact hx_retz hx hb hr rfl hlk hW ⟨(by have zr : (0 : Int32).toInt = 0 := (by decide); (first | omega | (refine ⟨?_, ?_⟩ <;> omega))), hT, hM⟩ dX10_areLives_46
      · skip
        refine lv_iload_n hx hb dX10_areLives_31 rfl (lv_at hl 3 rfl) ?_
        refine lv_iconst (v := 0) hx hb dX10_areLives_32 (by decide) ?_
        refine lv_bipush (v := 99) hx hb dX10_areLives_33 (by decide) ?_
        refine hx_goi (hx_runS (As := [.int i4, .int (0 : Int32), .int (99 : Int32)]) (rest := []) ⟨hx, hb, hml, hown, hts⟩ hW (t_X10_in l dC dI dA L_13 h_14 H.size i4 (0 : Int32) (99 : Int32) hT) (va_cwS 3 hts (hx_gS kw_1445 kw_1443 kw_1444 kw_103) rfl rfl rfl (by decide +kernel) ⟨Nat.le_of_ble_eq_true rfl, Nat.le_of_ble_eq_true rfl⟩) rfl hl.1 rfl (Nat.le_of_ble_eq_true rfl) dX10_areLives_35 ⟨Nat.le_of_ble_eq_true rfl, Nat.le_of_ble_eq_true rfl⟩) hW (fun r_21 L_19 h_20 H locs p_22 hW => ?_)
        obtain ⟨hr_23, hT, hs⟩ := p_22
        have hT : hx_T T_tb L_19 h_20 := hT
        have hs : hx_S T_tb [] L_13 h_14 L_19 h_20 := hs
        have hM := hM.tr (hs.mono (by decide))
        refine hb_if_eq (zx := r_21.toInt) (tgt := 45) hx hb rfl dX10_areLives_38 (by decide) (fun c_24 => ?_) (fun c_24 => ?_)
        · skip
          refine lv_iconst (v := 0) hx hb dX10_areLives_45 (by decide) ?_
          exact hx_retz hx hb hr rfl hlk hW ⟨(by have zr : (0 : Int32).toInt = 0 := (by decide); (first | omega | (refine ⟨?_, ?_⟩ <;> omega))), hT, hM⟩ dX10_areLives_46
        · skip
          refine lv_iconst (v := 1) hx hb dX10_areLives_41 (by decide) ?_
          refine lv_goto (tgt := 46) hx hb dX10_areLives_42 (by decide) ?_
          exact hx_retz hx hb hr rfl hlk hW ⟨(by have zr : (1 : Int32).toInt = 1 := (by decide); (first | omega | (refine ⟨?_, ?_⟩ <;> omega))), hT, hM⟩ dX10_areLives_46


set_option maxHeartbeats 4000000 in
set_option maxRecDepth 100000 in
theorem t_X9_person_2 (l : Launch) (dC : Nat → ClassId) (dI : Nat → Nat → Nat) (dA : Nat → ClassId) (L : List Nat) (h : hx_h) (sz : Nat) (x : Nat) (i1 : Int32) (i2 : Int32) (i3 : Int32) (i4 : Int32) (i5 : Int32) (i6 : Int32) (hT : hx_T T_tb L h) (gx : hx_g L h x 9) (pn0 : Int32) (f_x_8 : h.2.1 x 8 = pn0) (qp : Nat) (gqp : hx_g L h qp 44) (f_x_7 : h.2.2 x 7 = some qp) (pf_x_8 : ∀ j : Nat, (j : Int) < (h.2.1 x 8).toInt → h.2.2 qp j ≠ none) : Met l yX9_person (Cond.code yX9_person cX9_person 8 (some .int) :: hx_all) ({ frames := 2, cells := 1, slots := 10, locals := 45 }) (va_Pc [.ref x, .int i1, .int i2, .int i3, .int i4, .int i5, .int i6] (hx_B T_tb (P_ty dA) (dC, dI) vwCl L h sz)) (va_Qi (fun (r : Int32) (u : List Nat × hx_h) => (∃ (pn1 : Int32), u.2.2.1 x 8 = pn1 ∧ (hx_PS pn0.toInt i1.toInt i2.toInt i3.toInt i4.toInt i5.toInt i6.toInt r.toInt pn1.toInt)) ∧ hx_T T_tb u.1 u.2 ∧ hx_S T_tb [(4, 3), (4, 4), (4, 5), (4, 6), (9, 8), (44, 0), (120, 0), (120, 1), (120, 2)] L h u.1 u.2 ∧ (∀ j : Nat, (j : Int) < (u.2.2.1 x 8).toInt → u.2.2.2 qp j ≠ none)) (hx_E T_tb (P_ty dA) (dC, dI) vwCl (hx_A L sz)) (hx_A L sz)) 1 10 (hx_A L sz) := by
  refine hx_met (lv := [(0, .ref x), (1, .int i1), (2, .int i2), (3, .int i3), (4, .int i4), (5, .int i5), (6, .int i6)]) (by decide +kernel) rfl (Nat.le_of_ble_eq_true rfl) rfl ?_
  intro p e s m below meth c hx hb hml hr hlk hts0 hown hin hsz hW ls hl
  have hts : ∀ w ∈ hx_all, w.before _ s = true := fun w hw => hts0 w (List.mem_cons_of_mem _ hw)
  have hown : s.vm.findClass "SmallCourt" = some m.cls := hown
  have hM : hx_S T_tb [(4, 3), (4, 4), (4, 5), (4, 6), (9, 8), (44, 0), (120, 0), (120, 1), (120, 2)] L h L h := hx_S.rf
  have b_pn0 := hT.gi gx tt_9 (k := 8) rfl
  rw [f_x_8] at b_pn0
  have b_pn0 : 0 ≤ pn0.toInt ∧ pn0.toInt ≤ 40 := b_pn0
  refine lv_aload_n hx hb dX9_person_0 rfl (lv_at hl 0 rfl) ?_
  refine hk_geti hx hb hts hC_9 hown hW gx tt_9 8 (by decide) rfl kw_372 ⟨rfl, rfl, rfl⟩ f_x_8 dX9_person_1 ?_
  refine lv_bipush (v := 40) hx hb dX9_person_4 (by decide) ?_
  refine hb_icmp_ge (zx := pn0.toInt) (zy := 40) (tgt := 45) hx hb rfl (by decide) dX9_person_6 (by decide) (fun c_1 => ?_) (fun c_1 => ?_)
  · skip
    refine lv_iconst (v := -1) hx hb dX9_person_45 (by decide) ?_
    refine W.widen (k := 1) (n := 10) (Nat.le_of_ble_eq_true rfl) (Nat.le_of_ble_eq_true rfl) ?_
    exact hx_reti hx hb hr hlk hW ⟨⟨pn0, f_x_8, (Or.inl ⟨by decide, by omega, by unfold hx_pcn; omega⟩)⟩, hT, hM, pf_x_8⟩ dX9_person_46
  · skip
    refine lv_iload_n hx hb dX9_person_9 rfl (lv_at hl 1 rfl) ?_
    refine lv_sipush (v := -30000) hx hb dX9_person_10 (by decide) ?_
    refine lv_sipush (v := 7999) hx hb dX9_person_13 (by decide) ?_
    have zc_7999 : (7999 : Int32).toInt = 7999 := by decide
    have zc_m30000 : (-30000 : Int32).toInt = -30000 := by decide
    refine hx_goi (hx_runS (As := [.int i1, .int (-30000 : Int32), .int (7999 : Int32)]) (rest := []) ⟨hx, hb, hml, hown, hts⟩ hW (t_X9_isWithin_2 l dC dI dA L h s.heap.size i1 (-30000 : Int32) (7999 : Int32) hT) (va_cwS 3 hts (hx_gS kw_434 kw_432 kw_433 kw_94) rfl rfl rfl (by decide +kernel) ⟨Nat.le_of_ble_eq_true rfl, Nat.le_of_ble_eq_true rfl⟩) rfl hl.1 rfl (Nat.le_of_ble_eq_true rfl) dX9_person_16 ⟨Nat.le_of_ble_eq_true rfl, Nat.le_of_ble_eq_true rfl⟩) hW (fun r_4 L_2 h_3 H locs p_5 hW => ?_)
    obtain ⟨hr_6, hT, hs⟩ := p_5
    have hT : hx_T T_tb L_2 h_3 := hT
    have hs : hx_S T_tb [] L h L_2 h_3 := hs
    have f_x_7 := (hs.o gx trivial rfl).2.trans f_x_7
    have f_x_8 := (hs.o gx trivial rfl).1.trans f_x_8
    have pf_x_8 : ∀ j : Nat, (j : Int) < (h_3.2.1 x 8).toInt → h_3.2.2 qp j ≠ none := by
      intro j hj; rw [(hs.o gx trivial rfl).1] at hj; rw [(hs.a gqp rfl j).2]; exact pf_x_8 j hj
    have hM := hM.tr (hs.mono (by decide))
    have gx := gx.S hs
    have gqp := gqp.S hs
    refine hb_if_eq (zx := r_4.toInt) (tgt := 45) hx hb rfl dX9_person_19 (by decide) (fun c_7 => ?_) (fun c_7 => ?_)
    · skip
      refine lv_iconst (v := -1) hx hb dX9_person_45 (by decide) ?_
      refine W.widen (k := 1) (n := 10) (Nat.le_of_ble_eq_true rfl) (Nat.le_of_ble_eq_true rfl) ?_
      exact hx_reti hx hb hr hlk hW ⟨⟨pn0, f_x_8, (Or.inl ⟨by decide, by omega, by unfold hx_pcn; omega⟩)⟩, hT, hM, pf_x_8⟩ dX9_person_46
    · skip
      refine lv_iload_n hx hb dX9_person_22 rfl (lv_at hl 2 rfl) ?_
      refine lv_iload_n hx hb dX9_person_23 rfl (lv_at hl 3 rfl) ?_
      refine lv_iload hx hb dX9_person_24 (lv_at hl 4 rfl) ?_
      refine lv_iload hx hb dX9_person_26 (lv_at hl 5 rfl) ?_
      refine hx_goi (hx_runS (As := [.int i2, .int i3, .int i4, .int i5]) (rest := []) ⟨hx, hb, hml, hown, hts⟩ hW (t_X9_isHousehold_2 l dC dI dA L_2 h_3 H.size i2 i3 i4 i5 hT) (va_cwS 4 hts (hx_gS kw_604 kw_602 kw_603 kw_94) rfl rfl rfl (by decide +kernel) ⟨Nat.le_of_ble_eq_true rfl, Nat.le_of_ble_eq_true rfl⟩) rfl hl.1 rfl (Nat.le_of_ble_eq_true rfl) dX9_person_28 ⟨Nat.le_of_ble_eq_true rfl, Nat.le_of_ble_eq_true rfl⟩) hW (fun r_10 L_8 h_9 H locs p_11 hW => ?_)
      obtain ⟨hr_12, hT, hs⟩ := p_11
      have hT : hx_T T_tb L_8 h_9 := hT
      have hs : hx_S T_tb [] L_2 h_3 L_8 h_9 := hs
      have f_x_7 := (hs.o gx trivial rfl).2.trans f_x_7
      have f_x_8 := (hs.o gx trivial rfl).1.trans f_x_8
      have pf_x_8 : ∀ j : Nat, (j : Int) < (h_9.2.1 x 8).toInt → h_9.2.2 qp j ≠ none := by
        intro j hj; rw [(hs.o gx trivial rfl).1] at hj; rw [(hs.a gqp rfl j).2]; exact pf_x_8 j hj
      have hM := hM.tr (hs.mono (by decide))
      have gx := gx.S hs
      have gqp := gqp.S hs
      refine hb_if_eq (zx := r_10.toInt) (tgt := 45) hx hb rfl dX9_person_31 (by decide) (fun c_13 => ?_) (fun c_13 => ?_)
      · skip
        refine lv_iconst (v := -1) hx hb dX9_person_45 (by decide) ?_
        refine W.widen (k := 1) (n := 10) (Nat.le_of_ble_eq_true rfl) (Nat.le_of_ble_eq_true rfl) ?_
        exact hx_reti hx hb hr hlk hW ⟨⟨pn0, f_x_8, (Or.inl ⟨by decide, by omega, by unfold hx_pcn; omega⟩)⟩, hT, hM, pf_x_8⟩ dX9_person_46
      · skip
        refine lv_iload hx hb dX9_person_34 (lv_at hl 6 rfl) ?_
        refine lv_iconst (v := -1) hx hb dX9_person_36 (by decide) ?_
        refine lv_bipush (v := 19) hx hb dX9_person_37 (by decide) ?_
        have zc_19 : (19 : Int32).toInt = 19 := by decide
        have zc_m1 : (-1 : Int32).toInt = -1 := by decide
        refine hx_goi (hx_runS (As := [.int i6, .int (-1 : Int32), .int (19 : Int32)]) (rest := []) ⟨hx, hb, hml, hown, hts⟩ hW (t_X9_isWithin_2 l dC dI dA L_8 h_9 H.size i6 (-1 : Int32) (19 : Int32) hT) (va_cwS 3 hts (hx_gS kw_434 kw_432 kw_433 kw_94) rfl rfl rfl (by decide +kernel) ⟨Nat.le_of_ble_eq_true rfl, Nat.le_of_ble_eq_true rfl⟩) rfl hl.1 rfl (Nat.le_of_ble_eq_true rfl) dX9_person_39 ⟨Nat.le_of_ble_eq_true rfl, Nat.le_of_ble_eq_true rfl⟩) hW (fun r_16 L_14 h_15 H locs p_17 hW => ?_)
        obtain ⟨hr_18, hT, hs⟩ := p_17
        have hT : hx_T T_tb L_14 h_15 := hT
        have hs : hx_S T_tb [] L_8 h_9 L_14 h_15 := hs
        have f_x_7 := (hs.o gx trivial rfl).2.trans f_x_7
        have f_x_8 := (hs.o gx trivial rfl).1.trans f_x_8
        have pf_x_8 : ∀ j : Nat, (j : Int) < (h_15.2.1 x 8).toInt → h_15.2.2 qp j ≠ none := by
          intro j hj; rw [(hs.o gx trivial rfl).1] at hj; rw [(hs.a gqp rfl j).2]; exact pf_x_8 j hj
        have hM := hM.tr (hs.mono (by decide))
        have gx := gx.S hs
        have gqp := gqp.S hs
        refine hb_if_ne (zx := r_16.toInt) (tgt := 47) hx hb rfl dX9_person_42 (by decide) (fun c_19 => ?_) (fun c_19 => ?_)
        · skip
          refine hk_new hx hb hts hC_4 hown hW 120 tt_120 rfl (by decide) kw_188 kw_605 kw_108 (Nat.le_of_ble_eq_true rfl) (Nat.le_of_ble_eq_true rfl) dX9_person_47 (fun q_21 H h_20 eh_20 hqq_21 hW hs gq_21 => ?_)
          have nq_q_21 : ∀ a ∈ L, a ≠ q_21 := fun a ha z => hqq_21 (z ▸ (hM.1 a ha).1)
          have hT : hx_T T_tb (L_14 ++ [q_21]) h_20 := by rw [eh_20]; exact hx_T_nw hT hqq_21 tt_120 rfl
          have f_x_7 := (hs.o gx trivial rfl).2.trans f_x_7
          have f_x_8 := (hs.o gx trivial rfl).1.trans f_x_8
          have pf_x_8 : ∀ j : Nat, (j : Int) < (h_20.2.1 x 8).toInt → h_20.2.2 qp j ≠ none := by
            intro j hj; rw [(hs.o gx trivial rfl).1] at hj; rw [(hs.a gqp rfl j).2]; exact pf_x_8 j hj
          have hM := hM.tr (hs.mono (by decide))
          have gx := gx.S hs
          have gqp := gqp.S hs
          have fz_22 : ∀ j, ([] : List Nat).contains j = false → h_20.2.1 q_21 j = 0 ∧ h_20.2.2 q_21 j = none := by rw [eh_20]; exact fun _ _ => ⟨hx_nw_i, hx_nw_r⟩
          refine lv_dup hx hb dX9_person_50 rfl ?_
          refine lv_aload_n hx hb dX9_person_51 rfl (lv_at hl 0 rfl) ?_
          refine hk_geti hx hb hts hC_9 hown hW gx tt_9 8 (by decide) rfl kw_372 ⟨rfl, rfl, rfl⟩ f_x_8 dX9_person_52 ?_
          refine lv_iload_n hx hb dX9_person_55 rfl (lv_at hl 1 rfl) ?_
          refine lv_iload hx hb dX9_person_56 (lv_at hl 6 rfl) ?_
          refine hx_gov (hx_runI (As := [.int pn0, .int i1, .int i6]) (rest := [.ref q_21]) ⟨hx, hb, hml, hown, hts⟩ hW (t_X4_init l dC dI dA (L_14 ++ [q_21]) h_20 H.size q_21 pn0 i1 i6 hT gq_21 (fun j => fz_22 j rfl) ⟨by omega, by omega⟩) (cwI 3 hts (hx_gC kw_608) rfl rfl rfl (hts _ kw_108) (hts _ kw_606) (hts _ kw_607) rfl (by decide +kernel) ⟨Nat.le_of_ble_eq_true rfl, Nat.le_of_ble_eq_true rfl⟩) rfl hl.1 rfl (Nat.le_of_ble_eq_true rfl) dX9_person_58 ⟨Nat.le_of_ble_eq_true rfl, Nat.le_of_ble_eq_true rfl⟩) hW (fun L_23 h_24 H locs p_26 hW => ?_)
          obtain ⟨hT, hs, gNq_21, po_27, po_28, po_29⟩ := p_26
          have hT : hx_T T_tb L_23 h_24 := hT
          have hs : hx_S T_tb [(120, 0), (120, 1), (120, 2)] (hx_X (L_14 ++ [q_21]) q_21) h_20 L_23 h_24 := hs
          have gx := hx_gX gx (gx.ne gq_21 (by decide))
          have gqp := hx_gX gqp (gqp.ne gq_21 (by decide))
          have f_x_7 := (hs.o gx trivial rfl).2.trans f_x_7
          have f_x_8 := (hs.o gx trivial rfl).1.trans f_x_8
          have pf_x_8 : ∀ j : Nat, (j : Int) < (h_24.2.1 x 8).toInt → h_24.2.2 qp j ≠ none := by
            intro j hj; rw [(hs.o gx trivial rfl).1] at hj; rw [(hs.a gqp rfl j).2]; exact pf_x_8 j hj
          have hM := hM.trX (hs.mono (by decide)) nq_q_21
          have gx := gx.S hs
          have gqp := gqp.S hs
          have gq_21 : hx_g L_23 h_24 q_21 4 := gNq_21
          have po_27 : h_24.2.1 q_21 0 = pn0 := po_27
          have po_28 : h_24.2.1 q_21 7 = 0 := po_28
          have po_29 : h_24.2.1 q_21 8 = 0 := po_29
          refine lv_astore (lv' := [(7, .ref q_21), (0, .ref x), (1, .int i1), (2, .int i2), (3, .int i3), (4, .int i4), (5, .int i5), (6, .int i6)]) hx hb dX9_person_61 hl (by decide) rfl (fun ls hl => ?_)
          refine lv_aload hx hb dX9_person_63 (lv_at hl 0 rfl) ?_
          refine lv_iload_n hx hb dX9_person_65 rfl (lv_at hl 3 rfl) ?_
          refine lv_iload_n hx hb dX9_person_66 rfl (lv_at hl 4 rfl) ?_
          refine lv_iload hx hb dX9_person_67 (lv_at hl 5 rfl) ?_
          refine lv_iload hx hb dX9_person_69 (lv_at hl 6 rfl) ?_
          refine hx_gov (hx_runV (As := [.int i2, .int i3, .int i4, .int i5]) (rest := []) ⟨hx, hb, hml, hown, hts⟩ hW gq_21 tt_4 (T := TX4) (N := 10) rfl (t_X4_tell l dC dI dA L_23 h_24 H.size q_21 i2 i3 i4 i5 hT gq_21) (cwV 4 hts (hx_gV kw_651 kw_648 kw_649 kw_650 kw_108) rfl rfl rfl (by decide +kernel) ⟨Nat.le_of_ble_eq_true rfl, Nat.le_of_ble_eq_true rfl⟩) rfl hl.1 rfl (Nat.le_of_ble_eq_true rfl) dX9_person_71 ⟨Nat.le_of_ble_eq_true rfl, Nat.le_of_ble_eq_true rfl⟩) hW (fun L_30 h_31 H locs p_33 hW => ?_)
          obtain ⟨hT, hs⟩ := p_33
          have hT : hx_T T_tb L_30 h_31 := hT
          have hs : hx_S T_tb [(4, 3), (4, 4), (4, 5), (4, 6)] L_23 h_24 L_30 h_31 := hs
          have f_x_7 := (hs.o gx trivial rfl).2.trans f_x_7
          have f_x_8 := (hs.o gx trivial rfl).1.trans f_x_8
          have po_27 := (hs.o gq_21 trivial rfl).1.trans po_27
          have po_28 := (hs.o gq_21 trivial rfl).1.trans po_28
          have po_29 := (hs.o gq_21 trivial rfl).1.trans po_29
          have pf_x_8 : ∀ j : Nat, (j : Int) < (h_31.2.1 x 8).toInt → h_31.2.2 qp j ≠ none := by
            intro j hj; rw [(hs.o gx trivial rfl).1] at hj; rw [(hs.a gqp rfl j).2]; exact pf_x_8 j hj
          have hM := hM.tr (hs.mono (by decide))
          have gx := gx.S hs
          have gqp := gqp.S hs
          have gq_21 := gq_21.S hs
          refine lv_aload_n hx hb dX9_person_74 rfl (lv_at hl 1 rfl) ?_
          refine hk_getr hx hb hts hC_9 hown hW gx tt_9 7 (by decide) rfl kw_371 ⟨rfl, rfl, rfl⟩ f_x_7 dX9_person_75 ?_
          refine lv_aload_n hx hb dX9_person_78 rfl (lv_at hl 1 rfl) ?_
          refine hk_geti hx hb hts hC_9 hown hW gx tt_9 8 (by decide) rfl kw_372 ⟨rfl, rfl, rfl⟩ f_x_8 dX9_person_79 ?_
          refine lv_aload hx hb dX9_person_82 (lv_at hl 0 rfl) ?_
          have pf_x_8O := pf_x_8
          refine hx_aast hx hb hW hT (hx_S.rf (M := [(44, 0)])) gqp tt_44 rfl gq_21 tt_4 rfl (by decide) ⟨by omega, by omega⟩ (List.mem_singleton.mpr rfl) dX9_person_84 (fun H locs h_35 eh_35 hW hT hs => ?_)
          have f_x_7 := (hs.o gx trivial rfl).2.trans f_x_7
          have f_x_8 := (hs.o gx trivial rfl).1.trans f_x_8
          have po_27 := (hs.o gq_21 trivial rfl).1.trans po_27
          have po_28 := (hs.o gq_21 trivial rfl).1.trans po_28
          have po_29 := (hs.o gq_21 trivial rfl).1.trans po_29
          have hM := hM.tr (hs.mono (by decide))
          have gx := gx.S hs
          have gqp := gqp.S hs
          have gq_21 := gq_21.S hs
          have pf_x_8 : ∀ j : Nat, (j : Int) < (h_35.2.1 x 8).toInt → h_35.2.2 qp j ≠ none := hx_pfk pf_x_8O eh_35
          have px_36 : ∀ j : Nat, (j : Int) < pn0.toInt + 1 → h_35.2.2 qp j ≠ none := hx_pfx pf_x_8O (by first | exact f_x_8 | exact ((hs.o gx trivial rfl).1.symm.trans f_x_8)) (by omega) eh_35
          refine lv_aload_n hx hb dX9_person_85 rfl (lv_at hl 1 rfl) ?_
          refine lv_dup hx hb dX9_person_86 rfl ?_
          refine hk_geti hx hb hts hC_9 hown hW gx tt_9 8 (by decide) rfl kw_372 ⟨rfl, rfl, rfl⟩ f_x_8 dX9_person_87 ?_
          refine lv_iconst (v := 1) hx hb dX9_person_90 (by decide) ?_
          refine lv_iadd hx hb dX9_person_91 ?_
          have rg_37 := i32_r pn0
          refine lv_topi (fun x_38 ex_38 => ?_)
          have zx_38 : x_38.toInt = pn0.toInt + 1 := by rw [ex_38]; exact i32_add rfl (by decide) (by omega) (by omega)
          refine hx_puti hx hb hts hC_9 hown hW hT (hx_S.rf (M := [(9, 8)])) gx tt_9 8 (by decide) rfl kw_372 ⟨rfl, rfl, rfl⟩ rfl (x := x_38) ⟨by omega, by omega⟩ rfl rfl rfl (List.mem_singleton.mpr rfl) dX9_person_92 (fun H locs h_39 eh_39 hW hT hs => ?_)
          have px_36 : ∀ j : Nat, (j : Int) < pn0.toInt + 1 → h_39.2.2 qp j ≠ none := fun j hj => by rw [(hs.a gqp rfl j).2]; exact px_36 j hj
          have f_x_7 := (hs.o gx trivial rfl).2.trans f_x_7
          have po_27 := (hs.o gq_21 trivial rfl).1.trans po_27
          have po_28 := (hs.o gq_21 trivial rfl).1.trans po_28
          have po_29 := (hs.o gq_21 trivial rfl).1.trans po_29
          have hM := hM.tr (hs.mono (by decide))
          have gx := gx.S hs
          have gqp := gqp.S hs
          have gq_21 := gq_21.S hs
          have f_40 : h_39.2.1 x 8 = x_38 := by rw [eh_39]; exact hx_pi_at _ _ _ _
          have pf_41 : ∀ j : Nat, (j : Int) < (h_39.2.1 x 8).toInt → h_39.2.2 qp j ≠ none := fun j hj => px_36 j (by rw [f_40] at hj; omega)
          refine lv_aload hx hb dX9_person_95 (lv_at hl 0 rfl) ?_
          refine hk_geti hx hb hts hC_4 hown hW gq_21 tt_4 0 (by decide) rfl kw_612 ⟨rfl, rfl, rfl⟩ po_27 dX9_person_97 ?_
          refine W.widen (k := 1) (n := 10) (Nat.le_of_ble_eq_true rfl) (Nat.le_of_ble_eq_true rfl) ?_
          exact hx_reti hx hb hr hlk hW ⟨⟨x_38, f_40, (Or.inr ⟨by omega, by omega, by unfold hx_pcn; omega⟩)⟩, hT, hM, pf_41⟩ dX9_person_100
        · skip
          refine lv_iconst (v := -1) hx hb dX9_person_45 (by decide) ?_
          refine W.widen (k := 1) (n := 10) (Nat.le_of_ble_eq_true rfl) (Nat.le_of_ble_eq_true rfl) ?_
          exact hx_reti hx hb hr hlk hW ⟨⟨pn0, f_x_8, (Or.inl ⟨by decide, by omega, by unfold hx_pcn; omega⟩)⟩, hT, hM, pf_x_8⟩ dX9_person_46


set_option maxHeartbeats 4000000 in
set_option maxRecDepth 100000 in
theorem t_X10_person_2 (l : Launch) (dC : Nat → ClassId) (dI : Nat → Nat → Nat) (dA : Nat → ClassId) (L : List Nat) (h : hx_h) (sz : Nat) (x : Nat) (i1 : Int32) (i2 : Int32) (i3 : Int32) (i4 : Int32) (i5 : Int32) (i6 : Int32) (hT : hx_T T_tb L h) (gx : hx_g L h x 10) (pn0 : Int32) (f_x_20 : h.2.1 x 20 = pn0) : Met l yX10_person (Cond.code yX10_person cX10_person 7 (some .int) :: hx_all) ({ frames := 2, cells := 0, slots := 0, locals := 45 }) (va_Pc [.ref x, .int i1, .int i2, .int i3, .int i4, .int i5, .int i6] (hx_B T_tb (P_ty dA) (dC, dI) vwCl L h sz)) (va_Qi (fun (r : Int32) (u : List Nat × hx_h) => (∃ (pn1 : Int32), u.2.2.1 x 20 = pn1 ∧ (hx_PS pn0.toInt i1.toInt i2.toInt i3.toInt i4.toInt i5.toInt i6.toInt r.toInt pn1.toInt)) ∧ hx_T T_tb u.1 u.2 ∧ hx_S T_tb [(10, 20), (58, 0), (59, 0), (60, 0), (61, 0), (62, 0), (63, 0)] L h u.1 u.2) (hx_E T_tb (P_ty dA) (dC, dI) vwCl (hx_A L sz)) (hx_A L sz)) 0 0 (hx_A L sz) := by
  refine hx_met (lv := [(0, .ref x), (1, .int i1), (2, .int i2), (3, .int i3), (4, .int i4), (5, .int i5), (6, .int i6)]) (by decide +kernel) rfl (Nat.le_of_ble_eq_true rfl) rfl ?_
  intro p e s m below meth c hx hb hml hr hlk hts0 hown hin hsz hW ls hl
  have hts : ∀ w ∈ hx_all, w.before _ s = true := fun w hw => hts0 w (List.mem_cons_of_mem _ hw)
  have hown : s.vm.findClass "SmallCourtModel" = some m.cls := hown
  have hM : hx_S T_tb [(10, 20), (58, 0), (59, 0), (60, 0), (61, 0), (62, 0), (63, 0)] L h L h := hx_S.rf
  have b_pn0 := hT.gi gx tt_10 (k := 20) rfl
  rw [f_x_20] at b_pn0
  have b_pn0 : 0 ≤ pn0.toInt ∧ pn0.toInt ≤ 40 := b_pn0
  refine lv_aload_n hx hb dX10_person_0 rfl (lv_at hl 0 rfl) ?_
  refine hk_geti hx hb hts hC_10 hown hW gx tt_10 20 (by decide) rfl kw_1163 ⟨rfl, rfl, rfl⟩ f_x_20 dX10_person_1 ?_
  refine lv_bipush (v := 40) hx hb dX10_person_4 (by decide) ?_
  refine hb_icmp_eq (zx := pn0.toInt) (zy := 40) (tgt := 45) hx hb rfl (by decide) dX10_person_6 (by decide) (fun c_1 => ?_) (fun c_1 => ?_)
  · skip
    refine lv_iconst (v := -1) hx hb dX10_person_45 (by decide) ?_
    exact hx_reti hx hb hr hlk hW ⟨⟨pn0, f_x_20, (Or.inl ⟨by decide, by omega, by unfold hx_pcn; omega⟩)⟩, hT, hM⟩ dX10_person_46
  · skip
    refine lv_iload_n hx hb dX10_person_9 rfl (lv_at hl 1 rfl) ?_
    refine lv_sipush (v := -30000) hx hb dX10_person_10 (by decide) ?_
    refine lv_sipush (v := 7999) hx hb dX10_person_13 (by decide) ?_
    have zc_7999 : (7999 : Int32).toInt = 7999 := by decide
    have zc_m30000 : (-30000 : Int32).toInt = -30000 := by decide
    refine hx_goi (hx_runS (As := [.int i1, .int (-30000 : Int32), .int (7999 : Int32)]) (rest := []) ⟨hx, hb, hml, hown, hts⟩ hW (t_X10_in l dC dI dA L h s.heap.size i1 (-30000 : Int32) (7999 : Int32) hT) (va_cwS 3 hts (hx_gS kw_1445 kw_1443 kw_1444 kw_103) rfl rfl rfl (by decide +kernel) ⟨Nat.le_of_ble_eq_true rfl, Nat.le_of_ble_eq_true rfl⟩) rfl hl.1 rfl (Nat.le_of_ble_eq_true rfl) dX10_person_16 ⟨Nat.le_of_ble_eq_true rfl, Nat.le_of_ble_eq_true rfl⟩) hW (fun r_4 L_2 h_3 H locs p_5 hW => ?_)
    obtain ⟨hr_6, hT, hs⟩ := p_5
    have hT : hx_T T_tb L_2 h_3 := hT
    have hs : hx_S T_tb [] L h L_2 h_3 := hs
    have f_x_20 := (hs.o gx trivial rfl).1.trans f_x_20
    have hM := hM.tr (hs.mono (by decide))
    have gx := gx.S hs
    refine hb_if_eq (zx := r_4.toInt) (tgt := 45) hx hb rfl dX10_person_19 (by decide) (fun c_7 => ?_) (fun c_7 => ?_)
    · skip
      refine lv_iconst (v := -1) hx hb dX10_person_45 (by decide) ?_
      exact hx_reti hx hb hr hlk hW ⟨⟨pn0, f_x_20, (Or.inl ⟨by decide, by omega, by unfold hx_pcn; omega⟩)⟩, hT, hM⟩ dX10_person_46
    · skip
      refine lv_iload_n hx hb dX10_person_22 rfl (lv_at hl 2 rfl) ?_
      refine lv_iload_n hx hb dX10_person_23 rfl (lv_at hl 3 rfl) ?_
      refine lv_iload hx hb dX10_person_24 (lv_at hl 4 rfl) ?_
      refine lv_iload hx hb dX10_person_26 (lv_at hl 5 rfl) ?_
      refine hx_goi (hx_runS (As := [.int i2, .int i3, .int i4, .int i5]) (rest := []) ⟨hx, hb, hml, hown, hts⟩ hW (t_X10_areLives_2 l dC dI dA L_2 h_3 H.size i2 i3 i4 i5 hT) (va_cwS 4 hts (hx_gS kw_1540 kw_1538 kw_1539 kw_103) rfl rfl rfl (by decide +kernel) ⟨Nat.le_of_ble_eq_true rfl, Nat.le_of_ble_eq_true rfl⟩) rfl hl.1 rfl (Nat.le_of_ble_eq_true rfl) dX10_person_28 ⟨Nat.le_of_ble_eq_true rfl, Nat.le_of_ble_eq_true rfl⟩) hW (fun r_10 L_8 h_9 H locs p_11 hW => ?_)
      obtain ⟨hr_12, hT, hs⟩ := p_11
      have hT : hx_T T_tb L_8 h_9 := hT
      have hs : hx_S T_tb [] L_2 h_3 L_8 h_9 := hs
      have f_x_20 := (hs.o gx trivial rfl).1.trans f_x_20
      have hM := hM.tr (hs.mono (by decide))
      have gx := gx.S hs
      refine hb_if_eq (zx := r_10.toInt) (tgt := 45) hx hb rfl dX10_person_31 (by decide) (fun c_13 => ?_) (fun c_13 => ?_)
      · skip
        refine lv_iconst (v := -1) hx hb dX10_person_45 (by decide) ?_
        exact hx_reti hx hb hr hlk hW ⟨⟨pn0, f_x_20, (Or.inl ⟨by decide, by omega, by unfold hx_pcn; omega⟩)⟩, hT, hM⟩ dX10_person_46
      · skip
        refine lv_iload hx hb dX10_person_34 (lv_at hl 6 rfl) ?_
        refine lv_iconst (v := -1) hx hb dX10_person_36 (by decide) ?_
        refine lv_bipush (v := 19) hx hb dX10_person_37 (by decide) ?_
        have zc_19 : (19 : Int32).toInt = 19 := by decide
        have zc_m1 : (-1 : Int32).toInt = -1 := by decide
        refine hx_goi (hx_runS (As := [.int i6, .int (-1 : Int32), .int (19 : Int32)]) (rest := []) ⟨hx, hb, hml, hown, hts⟩ hW (t_X10_in l dC dI dA L_8 h_9 H.size i6 (-1 : Int32) (19 : Int32) hT) (va_cwS 3 hts (hx_gS kw_1445 kw_1443 kw_1444 kw_103) rfl rfl rfl (by decide +kernel) ⟨Nat.le_of_ble_eq_true rfl, Nat.le_of_ble_eq_true rfl⟩) rfl hl.1 rfl (Nat.le_of_ble_eq_true rfl) dX10_person_39 ⟨Nat.le_of_ble_eq_true rfl, Nat.le_of_ble_eq_true rfl⟩) hW (fun r_16 L_14 h_15 H locs p_17 hW => ?_)
        obtain ⟨hr_18, hT, hs⟩ := p_17
        have hT : hx_T T_tb L_14 h_15 := hT
        have hs : hx_S T_tb [] L_8 h_9 L_14 h_15 := hs
        have f_x_20 := (hs.o gx trivial rfl).1.trans f_x_20
        have hM := hM.tr (hs.mono (by decide))
        have gx := gx.S hs
        refine hb_if_ne (zx := r_16.toInt) (tgt := 47) hx hb rfl dX10_person_42 (by decide) (fun c_19 => ?_) (fun c_19 => ?_)
        · skip
          refine lv_aload_n hx hb dX10_person_47 rfl (lv_at hl 0 rfl) ?_
          refine hx_getn hx hb hts hC_10 hown hW hT gx tt_10 21 (by decide) rfl kw_1164 ⟨rfl, rfl, rfl⟩ dX10_person_48 (fun q_20 fq_20 gq_20 => ?_)
          refine lv_aload_n hx hb dX10_person_51 rfl (lv_at hl 0 rfl) ?_
          refine hk_geti hx hb hts hC_10 hown hW gx tt_10 20 (by decide) rfl kw_1163 ⟨rfl, rfl, rfl⟩ f_x_20 dX10_person_52 ?_
          refine lv_iload_n hx hb dX10_person_55 rfl (lv_at hl 1 rfl) ?_
          refine hx_iast hx hb hW hT (hx_S.rf (M := [(58, 0)])) gq_20 tt_58 rfl ⟨by omega, by omega⟩ rfl (i32_r _) (List.mem_singleton.mpr rfl) dX10_person_56 (fun H locs h_21 eh_21 hW hT hs => ?_)
          have f_x_20 := (hs.o gx trivial rfl).1.trans f_x_20
          have fq_20 := (hs.o gx trivial rfl).2.trans fq_20
          have hM := hM.tr (hs.mono (by decide))
          have gx := gx.S hs
          have gq_20 := gq_20.S hs
          refine lv_aload_n hx hb dX10_person_57 rfl (lv_at hl 0 rfl) ?_
          refine hx_getn hx hb hts hC_10 hown hW hT gx tt_10 26 (by decide) rfl kw_1169 ⟨rfl, rfl, rfl⟩ dX10_person_58 (fun q_22 fq_22 gq_22 => ?_)
          refine lv_aload_n hx hb dX10_person_61 rfl (lv_at hl 0 rfl) ?_
          refine hk_geti hx hb hts hC_10 hown hW gx tt_10 20 (by decide) rfl kw_1163 ⟨rfl, rfl, rfl⟩ f_x_20 dX10_person_62 ?_
          refine lv_iload hx hb dX10_person_65 (lv_at hl 6 rfl) ?_
          refine hx_iast hx hb hW hT (hx_S.rf (M := [(63, 0)])) gq_22 tt_63 rfl ⟨by omega, by omega⟩ rfl (i32_r _) (List.mem_singleton.mpr rfl) dX10_person_67 (fun H locs h_23 eh_23 hW hT hs => ?_)
          have f_x_20 := (hs.o gx trivial rfl).1.trans f_x_20
          have fq_20 := (hs.o gx trivial rfl).2.trans fq_20
          have fq_22 := (hs.o gx trivial rfl).2.trans fq_22
          have hM := hM.tr (hs.mono (by decide))
          have gx := gx.S hs
          have gq_20 := gq_20.S hs
          have gq_22 := gq_22.S hs
          refine lv_aload_n hx hb dX10_person_68 rfl (lv_at hl 0 rfl) ?_
          refine lv_dup hx hb dX10_person_69 rfl ?_
          refine hk_geti hx hb hts hC_10 hown hW gx tt_10 20 (by decide) rfl kw_1163 ⟨rfl, rfl, rfl⟩ f_x_20 dX10_person_70 ?_
          refine lv_iconst (v := 1) hx hb dX10_person_73 (by decide) ?_
          refine lv_iadd hx hb dX10_person_74 ?_
          have rg_24 := i32_r pn0
          refine lv_topi (fun x_25 ex_25 => ?_)
          have zx_25 : x_25.toInt = pn0.toInt + 1 := by rw [ex_25]; exact i32_add rfl (by decide) (by omega) (by omega)
          refine hx_puti hx hb hts hC_10 hown hW hT (hx_S.rf (M := [(10, 20)])) gx tt_10 20 (by decide) rfl kw_1163 ⟨rfl, rfl, rfl⟩ rfl (x := x_25) ⟨by omega, by omega⟩ rfl rfl rfl (List.mem_singleton.mpr rfl) dX10_person_75 (fun H locs h_26 eh_26 hW hT hs => ?_)
          have fq_20 := (hs.o gx trivial rfl).2.trans fq_20
          have fq_22 := (hs.o gx trivial rfl).2.trans fq_22
          have hM := hM.tr (hs.mono (by decide))
          have gx := gx.S hs
          have gq_20 := gq_20.S hs
          have gq_22 := gq_22.S hs
          have f_27 : h_26.2.1 x 20 = x_25 := by rw [eh_26]; exact hx_pi_at _ _ _ _
          refine lv_aload_n hx hb dX10_person_78 rfl (lv_at hl 0 rfl) ?_
          refine lv_aload_n hx hb dX10_person_79 rfl (lv_at hl 0 rfl) ?_
          refine hk_geti hx hb hts hC_10 hown hW gx tt_10 20 (by decide) rfl kw_1163 ⟨rfl, rfl, rfl⟩ f_27 dX10_person_80 ?_
          refine lv_iconst (v := 1) hx hb dX10_person_83 (by decide) ?_
          refine lv_isub hx hb dX10_person_84 ?_
          have rg_28 := i32_r x_25
          refine lv_topi (fun x_29 ex_29 => ?_)
          have zx_29 : x_29.toInt = x_25.toInt - 1 := by rw [ex_29]; exact i32_sub rfl (by decide) (by omega) (by omega)
          refine lv_iload_n hx hb dX10_person_85 rfl (lv_at hl 2 rfl) ?_
          refine lv_iload_n hx hb dX10_person_86 rfl (lv_at hl 3 rfl) ?_
          refine lv_iload hx hb dX10_person_87 (lv_at hl 4 rfl) ?_
          refine lv_iload hx hb dX10_person_89 (lv_at hl 5 rfl) ?_
          refine hx_gov (hx_runV (As := [.int x_29, .int i2, .int i3, .int i4, .int i5]) (rest := []) ⟨hx, hb, hml, hown, hts⟩ hW gx tt_10 (T := TX10) (N := 98) rfl (t_X10_lives l dC dI dA L_14 h_26 H.size x x_29 i2 i3 i4 i5 hT gx ⟨by omega, by omega⟩ ⟨by omega, by omega⟩ ⟨by omega, by omega⟩) (cwV 5 hts (hx_gV kw_1544 kw_1541 kw_1543 kw_67 kw_103) rfl rfl rfl (by decide +kernel) ⟨Nat.le_of_ble_eq_true rfl, Nat.le_of_ble_eq_true rfl⟩) rfl hl.1 rfl (Nat.le_of_ble_eq_true rfl) dX10_person_91 ⟨Nat.le_of_ble_eq_true rfl, Nat.le_of_ble_eq_true rfl⟩) hW (fun L_30 h_31 H locs p_33 hW => ?_)
          obtain ⟨hT, hs⟩ := p_33
          have hT : hx_T T_tb L_30 h_31 := hT
          have hs : hx_S T_tb [(59, 0), (60, 0), (61, 0), (62, 0)] L_14 h_26 L_30 h_31 := hs
          have fq_20 := (hs.o gx trivial rfl).2.trans fq_20
          have fq_22 := (hs.o gx trivial rfl).2.trans fq_22
          have f_27 := (hs.o gx trivial rfl).1.trans f_27
          have hM := hM.tr (hs.mono (by decide))
          have gx := gx.S hs
          have gq_20 := gq_20.S hs
          have gq_22 := gq_22.S hs
          refine lv_aload_n hx hb dX10_person_94 rfl (lv_at hl 0 rfl) ?_
          refine hk_geti hx hb hts hC_10 hown hW gx tt_10 20 (by decide) rfl kw_1163 ⟨rfl, rfl, rfl⟩ f_27 dX10_person_95 ?_
          refine lv_iconst (v := 1) hx hb dX10_person_98 (by decide) ?_
          refine lv_isub hx hb dX10_person_99 ?_
          refine lv_topi (fun x_35 ex_35 => ?_)
          have zx_35 : x_35.toInt = x_25.toInt - 1 := by rw [ex_35]; exact i32_sub rfl (by decide) (by omega) (by omega)
          exact hx_reti hx hb hr hlk hW ⟨⟨x_25, f_27, (Or.inr ⟨by omega, by omega, by unfold hx_pcn; omega⟩)⟩, hT, hM⟩ dX10_person_100
        · skip
          refine lv_iconst (v := -1) hx hb dX10_person_45 (by decide) ?_
          exact hx_reti hx hb hr hlk hW ⟨⟨pn0, f_x_20, (Or.inl ⟨by decide, by omega, by unfold hx_pcn; omega⟩)⟩, hT, hM⟩ dX10_person_46
