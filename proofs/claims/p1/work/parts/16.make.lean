theorem dX10_areLives_0 : decode cX10_areLives 0 = .ok (.iload_n 0, 1) := by decide +kernel
theorem dX10_areLives_1 : decode cX10_areLives 1 = .ok (.iconst 0, 1) := by decide +kernel
theorem dX10_areLives_2 : decode cX10_areLives 2 = .ok (.sipush 9999, 3) := by decide +kernel
theorem dX10_areLives_5 : decode cX10_areLives 5 = .ok (.invokestatic 228, 3) := by decide +kernel
theorem dX10_areLives_8 : decode cX10_areLives 8 = .ok (.ifCond .eq 37, 3) := by decide +kernel
theorem dX10_areLives_11 : decode cX10_areLives 11 = .ok (.iload_n 1, 1) := by decide +kernel
theorem dX10_areLives_12 : decode cX10_areLives 12 = .ok (.iconst 1, 1) := by decide +kernel
theorem dX10_areLives_13 : decode cX10_areLives 13 = .ok (.bipush 20, 2) := by decide +kernel
theorem dX10_areLives_15 : decode cX10_areLives 15 = .ok (.invokestatic 228, 3) := by decide +kernel
theorem dX10_areLives_18 : decode cX10_areLives 18 = .ok (.ifCond .eq 27, 3) := by decide +kernel
theorem dX10_areLives_21 : decode cX10_areLives 21 = .ok (.iload_n 2, 1) := by decide +kernel
theorem dX10_areLives_22 : decode cX10_areLives 22 = .ok (.iconst 0, 1) := by decide +kernel
theorem dX10_areLives_23 : decode cX10_areLives 23 = .ok (.bipush 99, 2) := by decide +kernel
theorem dX10_areLives_25 : decode cX10_areLives 25 = .ok (.invokestatic 228, 3) := by decide +kernel
theorem dX10_areLives_28 : decode cX10_areLives 28 = .ok (.ifCond .eq 17, 3) := by decide +kernel
theorem dX10_areLives_31 : decode cX10_areLives 31 = .ok (.iload_n 3, 1) := by decide +kernel
theorem dX10_areLives_32 : decode cX10_areLives 32 = .ok (.iconst 0, 1) := by decide +kernel
theorem dX10_areLives_33 : decode cX10_areLives 33 = .ok (.bipush 99, 2) := by decide +kernel
theorem dX10_areLives_35 : decode cX10_areLives 35 = .ok (.invokestatic 228, 3) := by decide +kernel
theorem dX10_areLives_38 : decode cX10_areLives 38 = .ok (.ifCond .eq 7, 3) := by decide +kernel
theorem dX10_areLives_41 : decode cX10_areLives 41 = .ok (.iconst 1, 1) := by decide +kernel
theorem dX10_areLives_42 : decode cX10_areLives 42 = .ok (.goto 4, 3) := by decide +kernel
theorem dX10_areLives_45 : decode cX10_areLives 45 = .ok (.iconst 0, 1) := by decide +kernel
theorem dX10_areLives_46 : decode cX10_areLives 46 = .ok (.ireturn, 1) := by decide +kernel
set_option maxHeartbeats 4000000 in
set_option maxRecDepth 100000 in
theorem c_X10_areLives (l : Launch) (dC : Nat → ClassId) (dI : Nat → Nat → Nat) (dA : Nat → ClassId) (L : List Nat) (h : hx_h) (sz : Nat) (i1 : Int32) (i2 : Int32) (i3 : Int32) (i4 : Int32)   : Met l yX10_areLives (Cond.code yX10_areLives cX10_areLives 4 (some .boolean) :: hx_all) ({ frames := 1, cells := 0, slots := 0, locals := 22 }) (va_Pc [.int i1, .int i2, .int i3, .int i4] (hx_B P_tb (P_ty dA) (dC, dI) vwCl L h sz)) (va_Qi (fun (r : Int32) (u : List Nat × hx_h) => (((0 ≤ i1.toInt ∧ i1.toInt ≤ 9999) ∧ (1 ≤ i2.toInt ∧ i2.toInt ≤ 20) ∧ (0 ≤ i3.toInt ∧ i3.toInt ≤ 99) ∧ (0 ≤ i4.toInt ∧ i4.toInt ≤ 99)) ∧ r = 1 ∨ ¬ ((0 ≤ i1.toInt ∧ i1.toInt ≤ 9999) ∧ (1 ≤ i2.toInt ∧ i2.toInt ≤ 20) ∧ (0 ≤ i3.toInt ∧ i3.toInt ≤ 99) ∧ (0 ≤ i4.toInt ∧ i4.toInt ≤ 99)) ∧ r = 0) ∧ u = (L, h)) (hx_E P_tb (P_ty dA) (dC, dI) vwCl (hx_A L sz)) (hx_A L sz)) 0 0 (hx_A L sz) := by
  refine hx_met (lv := [(0, .int i1), (1, .int i2), (2, .int i3), (3, .int i4)]) (by decide +kernel) rfl (Nat.le_of_ble_eq_true rfl) rfl ?_
  intro p e s m below meth c hx hb hml hr hlk hts0 hown hin hsz hW ls hl
  have hts : ∀ w ∈ hx_all, w.before _ s = true := fun w hw => hts0 w (List.mem_cons_of_mem _ hw)
  have hown : s.vm.findClass "SmallCourtModel" = some m.cls := hown
  refine lv_iload_n hx hb dX10_areLives_0 rfl (lv_at hl 0 rfl) ?_
  refine lv_iconst (v := 0) hx hb dX10_areLives_1 (by decide) ?_
  refine lv_sipush (v := 9999) hx hb dX10_areLives_2 (by decide) ?_
  refine hx_goi (hx_runS (As := [.int i1, .int (0 : Int32), .int (9999 : Int32)]) (rest := []) ⟨hx, hb, hml, hown, hts⟩ hW (c_X10_in l dC dI dA L h s.heap.size i1 (0 : Int32) (9999 : Int32)) (va_cwS 3 hts (hx_gS kw_1445 kw_1443 kw_1444 kw_103) rfl rfl rfl (by decide +kernel) ⟨Nat.le_of_ble_eq_true rfl, Nat.le_of_ble_eq_true rfl⟩) rfl hl.1 rfl (Nat.le_of_ble_eq_true rfl) dX10_areLives_5 ⟨Nat.le_of_ble_eq_true rfl, Nat.le_of_ble_eq_true rfl⟩) hW (fun r_3 L_1 h_2 H locs p_4 hW => ?_)
  obtain ⟨p_4, eu⟩ := p_4
  cases eu
  rcases p_4 with ⟨kp_4, rfl⟩ | ⟨kp_4, rfl⟩
  · skip
    have zc1 : (0 : Int32).toInt = 0 := by decide
    have zc2 : (9999 : Int32).toInt = 9999 := by decide
    refine hb_if_eq (zx := 1) (tgt := 45) hx hb (by decide) dX10_areLives_8 (by decide) (fun c_5 => absurd c_5 (by decide)) (fun c_5 => ?_)
    refine lv_iload_n hx hb dX10_areLives_11 rfl (lv_at hl 1 rfl) ?_
    refine lv_iconst (v := 1) hx hb dX10_areLives_12 (by decide) ?_
    refine lv_bipush (v := 20) hx hb dX10_areLives_13 (by decide) ?_
    refine hx_goi (hx_runS (As := [.int i2, .int (1 : Int32), .int (20 : Int32)]) (rest := []) ⟨hx, hb, hml, hown, hts⟩ hW (c_X10_in l dC dI dA L h H.size i2 (1 : Int32) (20 : Int32)) (va_cwS 3 hts (hx_gS kw_1445 kw_1443 kw_1444 kw_103) rfl rfl rfl (by decide +kernel) ⟨Nat.le_of_ble_eq_true rfl, Nat.le_of_ble_eq_true rfl⟩) rfl hl.1 rfl (Nat.le_of_ble_eq_true rfl) dX10_areLives_15 ⟨Nat.le_of_ble_eq_true rfl, Nat.le_of_ble_eq_true rfl⟩) hW (fun r_8 L_6 h_7 H locs p_9 hW => ?_)
    obtain ⟨p_9, eu⟩ := p_9
    cases eu
    rcases p_9 with ⟨kp_9, rfl⟩ | ⟨kp_9, rfl⟩
    · skip
      have zc1 : (1 : Int32).toInt = 1 := by decide
      have zc2 : (20 : Int32).toInt = 20 := by decide
      refine hb_if_eq (zx := 1) (tgt := 45) hx hb (by decide) dX10_areLives_18 (by decide) (fun c_10 => absurd c_10 (by decide)) (fun c_10 => ?_)
      refine lv_iload_n hx hb dX10_areLives_21 rfl (lv_at hl 2 rfl) ?_
      refine lv_iconst (v := 0) hx hb dX10_areLives_22 (by decide) ?_
      refine lv_bipush (v := 99) hx hb dX10_areLives_23 (by decide) ?_
      refine hx_goi (hx_runS (As := [.int i3, .int (0 : Int32), .int (99 : Int32)]) (rest := []) ⟨hx, hb, hml, hown, hts⟩ hW (c_X10_in l dC dI dA L h H.size i3 (0 : Int32) (99 : Int32)) (va_cwS 3 hts (hx_gS kw_1445 kw_1443 kw_1444 kw_103) rfl rfl rfl (by decide +kernel) ⟨Nat.le_of_ble_eq_true rfl, Nat.le_of_ble_eq_true rfl⟩) rfl hl.1 rfl (Nat.le_of_ble_eq_true rfl) dX10_areLives_25 ⟨Nat.le_of_ble_eq_true rfl, Nat.le_of_ble_eq_true rfl⟩) hW (fun r_13 L_11 h_12 H locs p_14 hW => ?_)
      obtain ⟨p_14, eu⟩ := p_14
      cases eu
      rcases p_14 with ⟨kp_14, rfl⟩ | ⟨kp_14, rfl⟩
      · skip
        have zc1 : (0 : Int32).toInt = 0 := by decide
        have zc2 : (99 : Int32).toInt = 99 := by decide
        refine hb_if_eq (zx := 1) (tgt := 45) hx hb (by decide) dX10_areLives_28 (by decide) (fun c_15 => absurd c_15 (by decide)) (fun c_15 => ?_)
        refine lv_iload_n hx hb dX10_areLives_31 rfl (lv_at hl 3 rfl) ?_
        refine lv_iconst (v := 0) hx hb dX10_areLives_32 (by decide) ?_
        refine lv_bipush (v := 99) hx hb dX10_areLives_33 (by decide) ?_
        refine hx_goi (hx_runS (As := [.int i4, .int (0 : Int32), .int (99 : Int32)]) (rest := []) ⟨hx, hb, hml, hown, hts⟩ hW (c_X10_in l dC dI dA L h H.size i4 (0 : Int32) (99 : Int32)) (va_cwS 3 hts (hx_gS kw_1445 kw_1443 kw_1444 kw_103) rfl rfl rfl (by decide +kernel) ⟨Nat.le_of_ble_eq_true rfl, Nat.le_of_ble_eq_true rfl⟩) rfl hl.1 rfl (Nat.le_of_ble_eq_true rfl) dX10_areLives_35 ⟨Nat.le_of_ble_eq_true rfl, Nat.le_of_ble_eq_true rfl⟩) hW (fun r_18 L_16 h_17 H locs p_19 hW => ?_)
        obtain ⟨p_19, eu⟩ := p_19
        cases eu
        rcases p_19 with ⟨kp_19, rfl⟩ | ⟨kp_19, rfl⟩
        · skip
          have zc1 : (0 : Int32).toInt = 0 := by decide
          have zc2 : (99 : Int32).toInt = 99 := by decide
          refine hb_if_eq (zx := 1) (tgt := 45) hx hb (by decide) dX10_areLives_38 (by decide) (fun c_20 => absurd c_20 (by decide)) (fun c_20 => ?_)
          refine lv_iconst (v := 1) hx hb dX10_areLives_41 (by decide) ?_
          refine lv_goto (tgt := 46) hx hb dX10_areLives_42 (by decide) ?_
          exact hx_retz hx hb hr rfl hlk hW ⟨Or.inl ⟨by first | omega | exact id, rfl⟩, rfl⟩ dX10_areLives_46
        · skip
          have zc1 : (0 : Int32).toInt = 0 := by decide
          have zc2 : (99 : Int32).toInt = 99 := by decide
          refine hb_if_eq (zx := 0) (tgt := 45) hx hb (by decide) dX10_areLives_38 (by decide) (fun c_21 => ?_) (fun c_21 => absurd c_21 (by decide))
          refine lv_iconst (v := 0) hx hb dX10_areLives_45 (by decide) ?_
          exact hx_retz hx hb hr rfl hlk hW ⟨Or.inr ⟨by first | omega | exact id, rfl⟩, rfl⟩ dX10_areLives_46
      · skip
        have zc1 : (0 : Int32).toInt = 0 := by decide
        have zc2 : (99 : Int32).toInt = 99 := by decide
        refine hb_if_eq (zx := 0) (tgt := 45) hx hb (by decide) dX10_areLives_28 (by decide) (fun c_22 => ?_) (fun c_22 => absurd c_22 (by decide))
        refine lv_iconst (v := 0) hx hb dX10_areLives_45 (by decide) ?_
        exact hx_retz hx hb hr rfl hlk hW ⟨Or.inr ⟨by first | omega | exact id, rfl⟩, rfl⟩ dX10_areLives_46
    · skip
      have zc1 : (1 : Int32).toInt = 1 := by decide
      have zc2 : (20 : Int32).toInt = 20 := by decide
      refine hb_if_eq (zx := 0) (tgt := 45) hx hb (by decide) dX10_areLives_18 (by decide) (fun c_23 => ?_) (fun c_23 => absurd c_23 (by decide))
      refine lv_iconst (v := 0) hx hb dX10_areLives_45 (by decide) ?_
      exact hx_retz hx hb hr rfl hlk hW ⟨Or.inr ⟨by first | omega | exact id, rfl⟩, rfl⟩ dX10_areLives_46
  · skip
    have zc1 : (0 : Int32).toInt = 0 := by decide
    have zc2 : (9999 : Int32).toInt = 9999 := by decide
    refine hb_if_eq (zx := 0) (tgt := 45) hx hb (by decide) dX10_areLives_8 (by decide) (fun c_24 => ?_) (fun c_24 => absurd c_24 (by decide))
    refine lv_iconst (v := 0) hx hb dX10_areLives_45 (by decide) ?_
    exact hx_retz hx hb hr rfl hlk hW ⟨Or.inr ⟨by first | omega | exact id, rfl⟩, rfl⟩ dX10_areLives_46


theorem dX10_lives_0 : decode cX10_lives 0 = .ok (.aload_n 0, 1) := by decide +kernel
theorem dX10_lives_1 : decode cX10_lives 1 = .ok (.getfield 41, 3) := by decide +kernel
theorem dX10_lives_4 : decode cX10_lives 4 = .ok (.iload_n 1, 1) := by decide +kernel
theorem dX10_lives_5 : decode cX10_lives 5 = .ok (.iload_n 2, 1) := by decide +kernel
theorem dX10_lives_6 : decode cX10_lives 6 = .ok (.iastore, 1) := by decide +kernel
theorem dX10_lives_7 : decode cX10_lives 7 = .ok (.aload_n 0, 1) := by decide +kernel
theorem dX10_lives_8 : decode cX10_lives 8 = .ok (.getfield 44, 3) := by decide +kernel
theorem dX10_lives_11 : decode cX10_lives 11 = .ok (.iload_n 1, 1) := by decide +kernel
theorem dX10_lives_12 : decode cX10_lives 12 = .ok (.iload_n 3, 1) := by decide +kernel
theorem dX10_lives_13 : decode cX10_lives 13 = .ok (.iastore, 1) := by decide +kernel
theorem dX10_lives_14 : decode cX10_lives 14 = .ok (.aload_n 0, 1) := by decide +kernel
theorem dX10_lives_15 : decode cX10_lives 15 = .ok (.getfield 47, 3) := by decide +kernel
theorem dX10_lives_18 : decode cX10_lives 18 = .ok (.iload_n 1, 1) := by decide +kernel
theorem dX10_lives_19 : decode cX10_lives 19 = .ok (.iload 4, 2) := by decide +kernel
theorem dX10_lives_21 : decode cX10_lives 21 = .ok (.iastore, 1) := by decide +kernel
theorem dX10_lives_22 : decode cX10_lives 22 = .ok (.aload_n 0, 1) := by decide +kernel
theorem dX10_lives_23 : decode cX10_lives 23 = .ok (.getfield 50, 3) := by decide +kernel
theorem dX10_lives_26 : decode cX10_lives 26 = .ok (.iload_n 1, 1) := by decide +kernel
theorem dX10_lives_27 : decode cX10_lives 27 = .ok (.iload 5, 2) := by decide +kernel
theorem dX10_lives_29 : decode cX10_lives 29 = .ok (.iastore, 1) := by decide +kernel
theorem dX10_lives_30 : decode cX10_lives 30 = .ok (.return_, 1) := by decide +kernel
set_option maxHeartbeats 4000000 in
set_option maxRecDepth 100000 in
theorem c_X10_lives (l : Launch) (dC : Nat → ClassId) (dI : Nat → Nat → Nat) (dA : Nat → ClassId) (L : List Nat) (h : hx_h) (sz : Nat) (y : Nat) (i0 : Int32) (i1 : Int32) (i2 : Int32) (i3 : Int32) (i4 : Int32) (gy : hx_g L h y 10) (hi0 : i0.toInt = 0) (q1 : Nat) (gq1 : hx_g L h q1 59) (f_y_22 : h.2.2 y 22 = some q1) (q2 : Nat) (gq2 : hx_g L h q2 60) (f_y_23 : h.2.2 y 23 = some q2) (q3 : Nat) (gq3 : hx_g L h q3 61) (f_y_24 : h.2.2 y 24 = some q3) (q4 : Nat) (gq4 : hx_g L h q4 62) (f_y_25 : h.2.2 y 25 = some q4) : Met l yX10_lives (Cond.code yX10_lives cX10_lives 6 none :: hx_all) ({ frames := 0, cells := 0, slots := 0, locals := 0 }) (va_Pc [.ref y, .int i0, .int i1, .int i2, .int i3, .int i4] (hx_B P_tb (P_ty dA) (dC, dI) vwCl L h sz)) (va_Qv (fun (u : List Nat × hx_h) => hx_S P_tb [(59, 0), (60, 0), (61, 0), (62, 0)] L h u.1 u.2) (hx_E P_tb (P_ty dA) (dC, dI) vwCl (hx_A L sz)) (hx_A L sz)) 0 0 (hx_A L sz) := by
  refine hx_met (lv := [(0, .ref y), (1, .int i0), (2, .int i1), (3, .int i2), (4, .int i3), (5, .int i4)]) (by decide +kernel) rfl (Nat.le_of_ble_eq_true rfl) rfl ?_
  intro p e s m below meth c hx hb hml hr hlk hts0 hown hin hsz hW ls hl
  have hts : ∀ w ∈ hx_all, w.before _ s = true := fun w hw => hts0 w (List.mem_cons_of_mem _ hw)
  have hown : s.vm.findClass "SmallCourtModel" = some m.cls := hown
  have hM : hx_S P_tb [(59, 0), (60, 0), (61, 0), (62, 0)] L h L h := hx_S.rf
  refine lv_aload_n hx hb dX10_lives_0 rfl (lv_at hl 0 rfl) ?_
  refine hk_getr hx hb hts hC_10 hown hW gy td_10 22 (by decide) rfl kw_1165 ⟨rfl, rfl, rfl⟩ f_y_22 dX10_lives_1 ?_
  refine lv_iload_n hx hb dX10_lives_4 rfl (lv_at hl 1 rfl) ?_
  refine lv_iload_n hx hb dX10_lives_5 rfl (lv_at hl 2 rfl) ?_
  refine hk_iast hx hb hW gq1 td_59 rfl ⟨by omega, by omega⟩ rfl dX10_lives_6 (fun H locs h_1 eh_1 hW hs => ?_)
  have f_y_22 := (hs.o gy trivial rfl).2.trans f_y_22
  have f_y_23 := (hs.o gy trivial rfl).2.trans f_y_23
  have f_y_24 := (hs.o gy trivial rfl).2.trans f_y_24
  have f_y_25 := (hs.o gy trivial rfl).2.trans f_y_25
  have hM := hM.tr (hs.mono (by decide))
  have gy := gy.S hs
  have gq1 := gq1.S hs
  have gq2 := gq2.S hs
  have gq3 := gq3.S hs
  have gq4 := gq4.S hs
  refine lv_aload_n hx hb dX10_lives_7 rfl (lv_at hl 0 rfl) ?_
  refine hk_getr hx hb hts hC_10 hown hW gy td_10 23 (by decide) rfl kw_1166 ⟨rfl, rfl, rfl⟩ f_y_23 dX10_lives_8 ?_
  refine lv_iload_n hx hb dX10_lives_11 rfl (lv_at hl 1 rfl) ?_
  refine lv_iload_n hx hb dX10_lives_12 rfl (lv_at hl 3 rfl) ?_
  refine hk_iast hx hb hW gq2 td_60 rfl ⟨by omega, by omega⟩ rfl dX10_lives_13 (fun H locs h_2 eh_2 hW hs => ?_)
  have f_y_22 := (hs.o gy trivial rfl).2.trans f_y_22
  have f_y_23 := (hs.o gy trivial rfl).2.trans f_y_23
  have f_y_24 := (hs.o gy trivial rfl).2.trans f_y_24
  have f_y_25 := (hs.o gy trivial rfl).2.trans f_y_25
  have hM := hM.tr (hs.mono (by decide))
  have gy := gy.S hs
  have gq1 := gq1.S hs
  have gq2 := gq2.S hs
  have gq3 := gq3.S hs
  have gq4 := gq4.S hs
  refine lv_aload_n hx hb dX10_lives_14 rfl (lv_at hl 0 rfl) ?_
  refine hk_getr hx hb hts hC_10 hown hW gy td_10 24 (by decide) rfl kw_1167 ⟨rfl, rfl, rfl⟩ f_y_24 dX10_lives_15 ?_
  refine lv_iload_n hx hb dX10_lives_18 rfl (lv_at hl 1 rfl) ?_
  refine lv_iload hx hb dX10_lives_19 (lv_at hl 4 rfl) ?_
  refine hk_iast hx hb hW gq3 td_61 rfl ⟨by omega, by omega⟩ rfl dX10_lives_21 (fun H locs h_3 eh_3 hW hs => ?_)
  have f_y_22 := (hs.o gy trivial rfl).2.trans f_y_22
  have f_y_23 := (hs.o gy trivial rfl).2.trans f_y_23
  have f_y_24 := (hs.o gy trivial rfl).2.trans f_y_24
  have f_y_25 := (hs.o gy trivial rfl).2.trans f_y_25
  have hM := hM.tr (hs.mono (by decide))
  have gy := gy.S hs
  have gq1 := gq1.S hs
  have gq2 := gq2.S hs
  have gq3 := gq3.S hs
  have gq4 := gq4.S hs
  refine lv_aload_n hx hb dX10_lives_22 rfl (lv_at hl 0 rfl) ?_
  refine hk_getr hx hb hts hC_10 hown hW gy td_10 25 (by decide) rfl kw_1168 ⟨rfl, rfl, rfl⟩ f_y_25 dX10_lives_23 ?_
  refine lv_iload_n hx hb dX10_lives_26 rfl (lv_at hl 1 rfl) ?_
  refine lv_iload hx hb dX10_lives_27 (lv_at hl 5 rfl) ?_
  refine hk_iast hx hb hW gq4 td_62 rfl ⟨by omega, by omega⟩ rfl dX10_lives_29 (fun H locs h_4 eh_4 hW hs => ?_)
  have f_y_22 := (hs.o gy trivial rfl).2.trans f_y_22
  have f_y_23 := (hs.o gy trivial rfl).2.trans f_y_23
  have f_y_24 := (hs.o gy trivial rfl).2.trans f_y_24
  have f_y_25 := (hs.o gy trivial rfl).2.trans f_y_25
  have hM := hM.tr (hs.mono (by decide))
  have gy := gy.S hs
  have gq1 := gq1.S hs
  have gq2 := gq2.S hs
  have gq3 := gq3.S hs
  have gq4 := gq4.S hs
  exact hx_retv hx hb hr hlk hW hM dX10_lives_30


theorem dX10_person_0 : decode cX10_person 0 = .ok (.aload_n 0, 1) := by decide +kernel
theorem dX10_person_1 : decode cX10_person 1 = .ok (.getfield 337, 3) := by decide +kernel
theorem dX10_person_4 : decode cX10_person 4 = .ok (.bipush 40, 2) := by decide +kernel
theorem dX10_person_6 : decode cX10_person 6 = .ok (.if_icmp .eq 39, 3) := by decide +kernel
theorem dX10_person_9 : decode cX10_person 9 = .ok (.iload_n 1, 1) := by decide +kernel
theorem dX10_person_10 : decode cX10_person 10 = .ok (.sipush (-30000), 3) := by decide +kernel
theorem dX10_person_13 : decode cX10_person 13 = .ok (.sipush 7999, 3) := by decide +kernel
theorem dX10_person_16 : decode cX10_person 16 = .ok (.invokestatic 228, 3) := by decide +kernel
theorem dX10_person_19 : decode cX10_person 19 = .ok (.ifCond .eq 26, 3) := by decide +kernel
theorem dX10_person_22 : decode cX10_person 22 = .ok (.iload_n 2, 1) := by decide +kernel
theorem dX10_person_23 : decode cX10_person 23 = .ok (.iload_n 3, 1) := by decide +kernel
theorem dX10_person_24 : decode cX10_person 24 = .ok (.iload 4, 2) := by decide +kernel
theorem dX10_person_26 : decode cX10_person 26 = .ok (.iload 5, 2) := by decide +kernel
theorem dX10_person_28 : decode cX10_person 28 = .ok (.invokestatic 340, 3) := by decide +kernel
theorem dX10_person_31 : decode cX10_person 31 = .ok (.ifCond .eq 14, 3) := by decide +kernel
theorem dX10_person_34 : decode cX10_person 34 = .ok (.iload 6, 2) := by decide +kernel
theorem dX10_person_36 : decode cX10_person 36 = .ok (.iconst (-1), 1) := by decide +kernel
theorem dX10_person_37 : decode cX10_person 37 = .ok (.bipush 19, 2) := by decide +kernel
theorem dX10_person_39 : decode cX10_person 39 = .ok (.invokestatic 228, 3) := by decide +kernel
theorem dX10_person_42 : decode cX10_person 42 = .ok (.ifCond .ne 5, 3) := by decide +kernel
theorem dX10_person_45 : decode cX10_person 45 = .ok (.iconst (-1), 1) := by decide +kernel
theorem dX10_person_46 : decode cX10_person 46 = .ok (.ireturn, 1) := by decide +kernel
theorem dX10_person_47 : decode cX10_person 47 = .ok (.aload_n 0, 1) := by decide +kernel
theorem dX10_person_48 : decode cX10_person 48 = .ok (.getfield 38, 3) := by decide +kernel
theorem dX10_person_51 : decode cX10_person 51 = .ok (.aload_n 0, 1) := by decide +kernel
theorem dX10_person_52 : decode cX10_person 52 = .ok (.getfield 337, 3) := by decide +kernel
theorem dX10_person_55 : decode cX10_person 55 = .ok (.iload_n 1, 1) := by decide +kernel
theorem dX10_person_56 : decode cX10_person 56 = .ok (.iastore, 1) := by decide +kernel
theorem dX10_person_57 : decode cX10_person 57 = .ok (.aload_n 0, 1) := by decide +kernel
theorem dX10_person_58 : decode cX10_person 58 = .ok (.getfield 53, 3) := by decide +kernel
theorem dX10_person_61 : decode cX10_person 61 = .ok (.aload_n 0, 1) := by decide +kernel
theorem dX10_person_62 : decode cX10_person 62 = .ok (.getfield 337, 3) := by decide +kernel
theorem dX10_person_65 : decode cX10_person 65 = .ok (.iload 6, 2) := by decide +kernel
theorem dX10_person_67 : decode cX10_person 67 = .ok (.iastore, 1) := by decide +kernel
theorem dX10_person_68 : decode cX10_person 68 = .ok (.aload_n 0, 1) := by decide +kernel
theorem dX10_person_69 : decode cX10_person 69 = .ok (.dup, 1) := by decide +kernel
theorem dX10_person_70 : decode cX10_person 70 = .ok (.getfield 337, 3) := by decide +kernel
theorem dX10_person_73 : decode cX10_person 73 = .ok (.iconst 1, 1) := by decide +kernel
theorem dX10_person_74 : decode cX10_person 74 = .ok (.iadd, 1) := by decide +kernel
theorem dX10_person_75 : decode cX10_person 75 = .ok (.putfield 337, 3) := by decide +kernel
theorem dX10_person_78 : decode cX10_person 78 = .ok (.aload_n 0, 1) := by decide +kernel
theorem dX10_person_79 : decode cX10_person 79 = .ok (.aload_n 0, 1) := by decide +kernel
theorem dX10_person_80 : decode cX10_person 80 = .ok (.getfield 337, 3) := by decide +kernel
theorem dX10_person_83 : decode cX10_person 83 = .ok (.iconst 1, 1) := by decide +kernel
theorem dX10_person_84 : decode cX10_person 84 = .ok (.isub, 1) := by decide +kernel
theorem dX10_person_85 : decode cX10_person 85 = .ok (.iload_n 2, 1) := by decide +kernel
theorem dX10_person_86 : decode cX10_person 86 = .ok (.iload_n 3, 1) := by decide +kernel
theorem dX10_person_87 : decode cX10_person 87 = .ok (.iload 4, 2) := by decide +kernel
theorem dX10_person_89 : decode cX10_person 89 = .ok (.iload 5, 2) := by decide +kernel
theorem dX10_person_91 : decode cX10_person 91 = .ok (.invokevirtual 344, 3) := by decide +kernel
theorem dX10_person_94 : decode cX10_person 94 = .ok (.aload_n 0, 1) := by decide +kernel
theorem dX10_person_95 : decode cX10_person 95 = .ok (.getfield 337, 3) := by decide +kernel
theorem dX10_person_98 : decode cX10_person 98 = .ok (.iconst 1, 1) := by decide +kernel
theorem dX10_person_99 : decode cX10_person 99 = .ok (.isub, 1) := by decide +kernel
theorem dX10_person_100 : decode cX10_person 100 = .ok (.ireturn, 1) := by decide +kernel
set_option maxHeartbeats 4000000 in
set_option maxRecDepth 100000 in
theorem c_X10_person (l : Launch) (dC : Nat → ClassId) (dI : Nat → Nat → Nat) (dA : Nat → ClassId) (L : List Nat) (h : hx_h) (sz : Nat) (y : Nat) (i1 : Int32) (i2 : Int32) (i3 : Int32) (i4 : Int32) (i5 : Int32) (i6 : Int32) (gy : hx_g L h y 10) (f_y_20 : h.2.1 y 20 = 0) (q5 : Nat) (gq5 : hx_g L h q5 58) (f_y_21 : h.2.2 y 21 = some q5) (q6 : Nat) (gq6 : hx_g L h q6 63) (f_y_26 : h.2.2 y 26 = some q6) (q1 : Nat) (gq1 : hx_g L h q1 59) (f_y_22 : h.2.2 y 22 = some q1) (q2 : Nat) (gq2 : hx_g L h q2 60) (f_y_23 : h.2.2 y 23 = some q2) (q3 : Nat) (gq3 : hx_g L h q3 61) (f_y_24 : h.2.2 y 24 = some q3) (q4 : Nat) (gq4 : hx_g L h q4 62) (f_y_25 : h.2.2 y 25 = some q4) : Met l yX10_person (Cond.code yX10_person cX10_person 7 (some .int) :: hx_all) ({ frames := 2, cells := 0, slots := 0, locals := 45 }) (va_Pc [.ref y, .int i1, .int i2, .int i3, .int i4, .int i5, .int i6] (hx_B P_tb (P_ty dA) (dC, dI) vwCl L h sz)) (va_Qi (fun (r : Int32) (u : List Nat × hx_h) => (((-30000 ≤ i1.toInt ∧ i1.toInt ≤ 7999) ∧ ((0 ≤ i2.toInt ∧ i2.toInt ≤ 9999) ∧ (1 ≤ i3.toInt ∧ i3.toInt ≤ 20) ∧ (0 ≤ i4.toInt ∧ i4.toInt ≤ 99) ∧ (0 ≤ i5.toInt ∧ i5.toInt ≤ 99)) ∧ (-1 ≤ i6.toInt ∧ i6.toInt ≤ 19)) ∧ r = 0 ∨ ¬ ((-30000 ≤ i1.toInt ∧ i1.toInt ≤ 7999) ∧ ((0 ≤ i2.toInt ∧ i2.toInt ≤ 9999) ∧ (1 ≤ i3.toInt ∧ i3.toInt ≤ 20) ∧ (0 ≤ i4.toInt ∧ i4.toInt ≤ 99) ∧ (0 ≤ i5.toInt ∧ i5.toInt ≤ 99)) ∧ (-1 ≤ i6.toInt ∧ i6.toInt ≤ 19)) ∧ r = -1) ∧ hx_S P_tb [(10, 20), (58, 0), (59, 0), (60, 0), (61, 0), (62, 0), (63, 0)] L h u.1 u.2) (hx_E P_tb (P_ty dA) (dC, dI) vwCl (hx_A L sz)) (hx_A L sz)) 0 0 (hx_A L sz) := by
  refine hx_met (lv := [(0, .ref y), (1, .int i1), (2, .int i2), (3, .int i3), (4, .int i4), (5, .int i5), (6, .int i6)]) (by decide +kernel) rfl (Nat.le_of_ble_eq_true rfl) rfl ?_
  intro p e s m below meth c hx hb hml hr hlk hts0 hown hin hsz hW ls hl
  have hts : ∀ w ∈ hx_all, w.before _ s = true := fun w hw => hts0 w (List.mem_cons_of_mem _ hw)
  have hown : s.vm.findClass "SmallCourtModel" = some m.cls := hown
  have hM : hx_S P_tb [(10, 20), (58, 0), (59, 0), (60, 0), (61, 0), (62, 0), (63, 0)] L h L h := hx_S.rf
  refine lv_aload_n hx hb dX10_person_0 rfl (lv_at hl 0 rfl) ?_
  refine hk_geti hx hb hts hC_10 hown hW gy td_10 20 (by decide) rfl kw_1163 ⟨rfl, rfl, rfl⟩ f_y_20 dX10_person_1 ?_
  refine lv_bipush (v := 40) hx hb dX10_person_4 (by decide) ?_
  refine hb_icmp_eq (zx := 0) (zy := 40) (tgt := 45) hx hb (by decide) (by decide) dX10_person_6 (by decide) (fun c_1 => absurd c_1 (by decide)) (fun c_1 => ?_)
  refine lv_iload_n hx hb dX10_person_9 rfl (lv_at hl 1 rfl) ?_
  refine lv_sipush (v := -30000) hx hb dX10_person_10 (by decide) ?_
  refine lv_sipush (v := 7999) hx hb dX10_person_13 (by decide) ?_
  refine hx_goi (hx_runS (As := [.int i1, .int (-30000 : Int32), .int (7999 : Int32)]) (rest := []) ⟨hx, hb, hml, hown, hts⟩ hW (c_X10_in l dC dI dA L h s.heap.size i1 (-30000 : Int32) (7999 : Int32)) (va_cwS 3 hts (hx_gS kw_1445 kw_1443 kw_1444 kw_103) rfl rfl rfl (by decide +kernel) ⟨Nat.le_of_ble_eq_true rfl, Nat.le_of_ble_eq_true rfl⟩) rfl hl.1 rfl (Nat.le_of_ble_eq_true rfl) dX10_person_16 ⟨Nat.le_of_ble_eq_true rfl, Nat.le_of_ble_eq_true rfl⟩) hW (fun r_4 L_2 h_3 H locs p_5 hW => ?_)
  obtain ⟨p_5, eu⟩ := p_5
  cases eu
  rcases p_5 with ⟨kp_5, rfl⟩ | ⟨kp_5, rfl⟩
  · skip
    have zc1 : (-30000 : Int32).toInt = -30000 := by decide
    have zc2 : (7999 : Int32).toInt = 7999 := by decide
    refine hb_if_eq (zx := 1) (tgt := 45) hx hb (by decide) dX10_person_19 (by decide) (fun c_6 => absurd c_6 (by decide)) (fun c_6 => ?_)
    refine lv_iload_n hx hb dX10_person_22 rfl (lv_at hl 2 rfl) ?_
    refine lv_iload_n hx hb dX10_person_23 rfl (lv_at hl 3 rfl) ?_
    refine lv_iload hx hb dX10_person_24 (lv_at hl 4 rfl) ?_
    refine lv_iload hx hb dX10_person_26 (lv_at hl 5 rfl) ?_
    refine hx_goi (hx_runS (As := [.int i2, .int i3, .int i4, .int i5]) (rest := []) ⟨hx, hb, hml, hown, hts⟩ hW (c_X10_areLives l dC dI dA L h H.size i2 i3 i4 i5) (va_cwS 4 hts (hx_gS kw_1540 kw_1538 kw_1539 kw_103) rfl rfl rfl (by decide +kernel) ⟨Nat.le_of_ble_eq_true rfl, Nat.le_of_ble_eq_true rfl⟩) rfl hl.1 rfl (Nat.le_of_ble_eq_true rfl) dX10_person_28 ⟨Nat.le_of_ble_eq_true rfl, Nat.le_of_ble_eq_true rfl⟩) hW (fun r_9 L_7 h_8 H locs p_10 hW => ?_)
    obtain ⟨p_10, eu⟩ := p_10
    cases eu
    rcases p_10 with ⟨kp_10, rfl⟩ | ⟨kp_10, rfl⟩
    · skip
      refine hb_if_eq (zx := 1) (tgt := 45) hx hb (by decide) dX10_person_31 (by decide) (fun c_11 => absurd c_11 (by decide)) (fun c_11 => ?_)
      refine lv_iload hx hb dX10_person_34 (lv_at hl 6 rfl) ?_
      refine lv_iconst (v := -1) hx hb dX10_person_36 (by decide) ?_
      refine lv_bipush (v := 19) hx hb dX10_person_37 (by decide) ?_
      refine hx_goi (hx_runS (As := [.int i6, .int (-1 : Int32), .int (19 : Int32)]) (rest := []) ⟨hx, hb, hml, hown, hts⟩ hW (c_X10_in l dC dI dA L h H.size i6 (-1 : Int32) (19 : Int32)) (va_cwS 3 hts (hx_gS kw_1445 kw_1443 kw_1444 kw_103) rfl rfl rfl (by decide +kernel) ⟨Nat.le_of_ble_eq_true rfl, Nat.le_of_ble_eq_true rfl⟩) rfl hl.1 rfl (Nat.le_of_ble_eq_true rfl) dX10_person_39 ⟨Nat.le_of_ble_eq_true rfl, Nat.le_of_ble_eq_true rfl⟩) hW (fun r_14 L_12 h_13 H locs p_15 hW => ?_)
      obtain ⟨p_15, eu⟩ := p_15
      cases eu
      rcases p_15 with ⟨kp_15, rfl⟩ | ⟨kp_15, rfl⟩
      · skip
        have zc1 : (-1 : Int32).toInt = -1 := by decide
        have zc2 : (19 : Int32).toInt = 19 := by decide
        refine hb_if_ne (zx := 1) (tgt := 47) hx hb (by decide) dX10_person_42 (by decide) (fun c_16 => ?_) (fun c_16 => absurd c_16 (by decide))
        refine lv_aload_n hx hb dX10_person_47 rfl (lv_at hl 0 rfl) ?_
        refine hk_getr hx hb hts hC_10 hown hW gy td_10 21 (by decide) rfl kw_1164 ⟨rfl, rfl, rfl⟩ f_y_21 dX10_person_48 ?_
        refine lv_aload_n hx hb dX10_person_51 rfl (lv_at hl 0 rfl) ?_
        refine hk_geti hx hb hts hC_10 hown hW gy td_10 20 (by decide) rfl kw_1163 ⟨rfl, rfl, rfl⟩ f_y_20 dX10_person_52 ?_
        refine lv_iload_n hx hb dX10_person_55 rfl (lv_at hl 1 rfl) ?_
        refine hk_iast hx hb hW gq5 td_58 rfl (by decide) rfl dX10_person_56 (fun H locs h_17 eh_17 hW hs => ?_)
        have f_y_20 := (hs.o gy trivial rfl).1.trans f_y_20
        have f_y_21 := (hs.o gy trivial rfl).2.trans f_y_21
        have f_y_26 := (hs.o gy trivial rfl).2.trans f_y_26
        have f_y_22 := (hs.o gy trivial rfl).2.trans f_y_22
        have f_y_23 := (hs.o gy trivial rfl).2.trans f_y_23
        have f_y_24 := (hs.o gy trivial rfl).2.trans f_y_24
        have f_y_25 := (hs.o gy trivial rfl).2.trans f_y_25
        have hM := hM.tr (hs.mono (by decide))
        have gy := gy.S hs
        have gq5 := gq5.S hs
        have gq6 := gq6.S hs
        have gq1 := gq1.S hs
        have gq2 := gq2.S hs
        have gq3 := gq3.S hs
        have gq4 := gq4.S hs
        refine lv_aload_n hx hb dX10_person_57 rfl (lv_at hl 0 rfl) ?_
        refine hk_getr hx hb hts hC_10 hown hW gy td_10 26 (by decide) rfl kw_1169 ⟨rfl, rfl, rfl⟩ f_y_26 dX10_person_58 ?_
        refine lv_aload_n hx hb dX10_person_61 rfl (lv_at hl 0 rfl) ?_
        refine hk_geti hx hb hts hC_10 hown hW gy td_10 20 (by decide) rfl kw_1163 ⟨rfl, rfl, rfl⟩ f_y_20 dX10_person_62 ?_
        refine lv_iload hx hb dX10_person_65 (lv_at hl 6 rfl) ?_
        refine hk_iast hx hb hW gq6 td_63 rfl (by decide) rfl dX10_person_67 (fun H locs h_18 eh_18 hW hs => ?_)
        have f_y_20 := (hs.o gy trivial rfl).1.trans f_y_20
        have f_y_21 := (hs.o gy trivial rfl).2.trans f_y_21
        have f_y_26 := (hs.o gy trivial rfl).2.trans f_y_26
        have f_y_22 := (hs.o gy trivial rfl).2.trans f_y_22
        have f_y_23 := (hs.o gy trivial rfl).2.trans f_y_23
        have f_y_24 := (hs.o gy trivial rfl).2.trans f_y_24
        have f_y_25 := (hs.o gy trivial rfl).2.trans f_y_25
        have hM := hM.tr (hs.mono (by decide))
        have gy := gy.S hs
        have gq5 := gq5.S hs
        have gq6 := gq6.S hs
        have gq1 := gq1.S hs
        have gq2 := gq2.S hs
        have gq3 := gq3.S hs
        have gq4 := gq4.S hs
        refine lv_aload_n hx hb dX10_person_68 rfl (lv_at hl 0 rfl) ?_
        refine lv_dup hx hb dX10_person_69 rfl ?_
        refine hk_geti hx hb hts hC_10 hown hW gy td_10 20 (by decide) rfl kw_1163 ⟨rfl, rfl, rfl⟩ f_y_20 dX10_person_70 ?_
        refine lv_iconst (v := 1) hx hb dX10_person_73 (by decide) ?_
        refine lv_iadd hx hb dX10_person_74 ?_
        refine lv_topi (fun x_19 ex_19 => ?_)
        obtain rfl : x_19 = (1 : Int32) := ex_19.trans (by decide)
        refine hk_puti hx hb hts hC_10 hown hW gy td_10 20 (by decide) rfl kw_1163 ⟨rfl, rfl, rfl⟩ rfl (x := (1 : Int32)) rfl rfl rfl dX10_person_75 (fun H locs h_20 eh_20 hW hs => ?_)
        have f_y_21 := (hs.o gy trivial rfl).2.trans f_y_21
        have f_y_26 := (hs.o gy trivial rfl).2.trans f_y_26
        have f_y_22 := (hs.o gy trivial rfl).2.trans f_y_22
        have f_y_23 := (hs.o gy trivial rfl).2.trans f_y_23
        have f_y_24 := (hs.o gy trivial rfl).2.trans f_y_24
        have f_y_25 := (hs.o gy trivial rfl).2.trans f_y_25
        have hM := hM.tr (hs.mono (by decide))
        have gy := gy.S hs
        have gq5 := gq5.S hs
        have gq6 := gq6.S hs
        have gq1 := gq1.S hs
        have gq2 := gq2.S hs
        have gq3 := gq3.S hs
        have gq4 := gq4.S hs
        have f_21 : h_20.2.1 y 20 = (1 : Int32) := by rw [eh_20]; exact hx_pi_at _ _ _ _
        refine lv_aload_n hx hb dX10_person_78 rfl (lv_at hl 0 rfl) ?_
        refine lv_aload_n hx hb dX10_person_79 rfl (lv_at hl 0 rfl) ?_
        refine hk_geti hx hb hts hC_10 hown hW gy td_10 20 (by decide) rfl kw_1163 ⟨rfl, rfl, rfl⟩ f_21 dX10_person_80 ?_
        refine lv_iconst (v := 1) hx hb dX10_person_83 (by decide) ?_
        refine lv_isub hx hb dX10_person_84 ?_
        refine lv_topi (fun x_22 ex_22 => ?_)
        obtain rfl : x_22 = (0 : Int32) := ex_22.trans (by decide)
        refine lv_iload_n hx hb dX10_person_85 rfl (lv_at hl 2 rfl) ?_
        refine lv_iload_n hx hb dX10_person_86 rfl (lv_at hl 3 rfl) ?_
        refine lv_iload hx hb dX10_person_87 (lv_at hl 4 rfl) ?_
        refine lv_iload hx hb dX10_person_89 (lv_at hl 5 rfl) ?_
        refine hx_gov (hx_runV (As := [.int (0 : Int32), .int i2, .int i3, .int i4, .int i5]) (rest := []) ⟨hx, hb, hml, hown, hts⟩ hW gy td_10 (T := TX10) (N := 98) rfl (c_X10_lives l dC dI dA L h_20 H.size y (0 : Int32) i2 i3 i4 i5 gy (by decide) q1 gq1 f_y_22 q2 gq2 f_y_23 q3 gq3 f_y_24 q4 gq4 f_y_25) (cwV 5 hts (hx_gV kw_1544 kw_1541 kw_1543 kw_67 kw_103) rfl rfl rfl (by decide +kernel) ⟨Nat.le_of_ble_eq_true rfl, Nat.le_of_ble_eq_true rfl⟩) rfl hl.1 rfl (Nat.le_of_ble_eq_true rfl) dX10_person_91 ⟨Nat.le_of_ble_eq_true rfl, Nat.le_of_ble_eq_true rfl⟩) hW (fun L_23 h_24 H locs p_26 hW => ?_)
        have hs : hx_S P_tb [(59, 0), (60, 0), (61, 0), (62, 0)] L h_20 L_23 h_24 := p_26
        have f_y_21 := (hs.o gy trivial rfl).2.trans f_y_21
        have f_y_26 := (hs.o gy trivial rfl).2.trans f_y_26
        have f_y_22 := (hs.o gy trivial rfl).2.trans f_y_22
        have f_y_23 := (hs.o gy trivial rfl).2.trans f_y_23
        have f_y_24 := (hs.o gy trivial rfl).2.trans f_y_24
        have f_y_25 := (hs.o gy trivial rfl).2.trans f_y_25
        have f_21 := (hs.o gy trivial rfl).1.trans f_21
        have hM := hM.tr (hs.mono (by decide))
        have gy := gy.S hs
        have gq5 := gq5.S hs
        have gq6 := gq6.S hs
        have gq1 := gq1.S hs
        have gq2 := gq2.S hs
        have gq3 := gq3.S hs
        have gq4 := gq4.S hs
        refine lv_aload_n hx hb dX10_person_94 rfl (lv_at hl 0 rfl) ?_
        refine hk_geti hx hb hts hC_10 hown hW gy td_10 20 (by decide) rfl kw_1163 ⟨rfl, rfl, rfl⟩ f_21 dX10_person_95 ?_
        refine lv_iconst (v := 1) hx hb dX10_person_98 (by decide) ?_
        refine lv_isub hx hb dX10_person_99 ?_
        refine lv_topi (fun x_27 ex_27 => ?_)
        obtain rfl : x_27 = (0 : Int32) := ex_27.trans (by decide)
        exact hx_reti hx hb hr hlk hW ⟨Or.inl ⟨by first | omega | decide, rfl⟩, hM⟩ dX10_person_100
      · skip
        have zc1 : (-1 : Int32).toInt = -1 := by decide
        have zc2 : (19 : Int32).toInt = 19 := by decide
        refine hb_if_ne (zx := 0) (tgt := 47) hx hb (by decide) dX10_person_42 (by decide) (fun c_28 => absurd c_28 (by decide)) (fun c_28 => ?_)
        refine lv_iconst (v := -1) hx hb dX10_person_45 (by decide) ?_
        exact hx_reti hx hb hr hlk hW ⟨Or.inr ⟨by first | omega | decide, rfl⟩, hM⟩ dX10_person_46
    · skip
      refine hb_if_eq (zx := 0) (tgt := 45) hx hb (by decide) dX10_person_31 (by decide) (fun c_29 => ?_) (fun c_29 => absurd c_29 (by decide))
      refine lv_iconst (v := -1) hx hb dX10_person_45 (by decide) ?_
      exact hx_reti hx hb hr hlk hW ⟨Or.inr ⟨by first | omega | decide, rfl⟩, hM⟩ dX10_person_46
  · skip
    have zc1 : (-30000 : Int32).toInt = -30000 := by decide
    have zc2 : (7999 : Int32).toInt = 7999 := by decide
    refine hb_if_eq (zx := 0) (tgt := 45) hx hb (by decide) dX10_person_19 (by decide) (fun c_30 => ?_) (fun c_30 => absurd c_30 (by decide))
    refine lv_iconst (v := -1) hx hb dX10_person_45 (by decide) ?_
    exact hx_reti hx hb hr hlk hW ⟨Or.inr ⟨by first | omega | decide, rfl⟩, hM⟩ dX10_person_46


theorem dX4_init_0 : decode cX4_init 0 = .ok (.aload_n 0, 1) := by decide +kernel
theorem dX4_init_1 : decode cX4_init 1 = .ok (.invokespecial 3, 3) := by decide +kernel
theorem dX4_init_4 : decode cX4_init 4 = .ok (.aload_n 0, 1) := by decide +kernel
theorem dX4_init_5 : decode cX4_init 5 = .ok (.iload_n 1, 1) := by decide +kernel
theorem dX4_init_6 : decode cX4_init 6 = .ok (.putfield 9, 3) := by decide +kernel
theorem dX4_init_9 : decode cX4_init 9 = .ok (.aload_n 0, 1) := by decide +kernel
theorem dX4_init_10 : decode cX4_init 10 = .ok (.iload_n 2, 1) := by decide +kernel
theorem dX4_init_11 : decode cX4_init 11 = .ok (.putfield 15, 3) := by decide +kernel
theorem dX4_init_14 : decode cX4_init 14 = .ok (.aload_n 0, 1) := by decide +kernel
theorem dX4_init_15 : decode cX4_init 15 = .ok (.iload_n 3, 1) := by decide +kernel
theorem dX4_init_16 : decode cX4_init 16 = .ok (.putfield 18, 3) := by decide +kernel
theorem dX4_init_19 : decode cX4_init 19 = .ok (.return_, 1) := by decide +kernel
set_option maxHeartbeats 4000000 in
set_option maxRecDepth 100000 in
theorem c_X4_init (l : Launch) (dC : Nat → ClassId) (dI : Nat → Nat → Nat) (dA : Nat → ClassId) (L : List Nat) (h : hx_h) (sz : Nat) (x : Nat) (i1 : Int32) (i2 : Int32) (i3 : Int32) (gx : hx_g L h x 4)  : Met l yX4_init (Cond.code yX4_init cX4_init 4 none :: hx_all) ({ frames := 1, cells := 0, slots := 0, locals := 12 }) (va_Pc [.ref x, .int i1, .int i2, .int i3] (hx_B P_tb (P_ty dA) (dC, dI) vwCl L h sz)) (va_Qv (fun (u : List Nat × hx_h) => hx_S P_tb [(4, 0), (4, 1), (4, 2)] L h u.1 u.2 ∧ u.2.2.1 x 0 = i1) (hx_E P_tb (P_ty dA) (dC, dI) vwCl (hx_A L sz)) (hx_A L sz)) 0 0 (hx_A L sz) := by
  refine hx_met (lv := [(0, .ref x), (1, .int i1), (2, .int i2), (3, .int i3)]) (by decide +kernel) rfl (Nat.le_of_ble_eq_true rfl) rfl ?_
  intro p e s m below meth c hx hb hml hr hlk hts0 hown hin hsz hW ls hl
  have hts : ∀ w ∈ hx_all, w.before _ s = true := fun w hw => hts0 w (List.mem_cons_of_mem _ hw)
  have hown : s.vm.findClass "SmallCourt$Person" = some m.cls := hown
  have hin : meth.name = "<init>" := hin
  have hM : hx_S P_tb [(4, 0), (4, 1), (4, 2)] L h L h := hx_S.rf
  refine lv_aload_n hx hb dX4_init_0 rfl (lv_at hl 0 rfl) ?_
  refine W.objInit hx hb hown (hts _ kw_609) (hts _ kw_117) (hts _ kw_118) rfl (by rw [hml]; exact hl.1) rfl dX4_init_1 (Nat.le_of_ble_eq_true rfl) (Nat.le_of_ble_eq_true rfl) ?_
  refine W.eq (g2 := F0 m 4 ls []) rfl ?_
  refine lv_aload_n hx hb dX4_init_4 rfl (lv_at hl 0 rfl) ?_
  refine lv_iload_n hx hb dX4_init_5 rfl (lv_at hl 1 rfl) ?_
  refine hk_putiF hx hb hts hC_4 hown hW gx td_4 0 (by decide) rfl kw_610 ⟨rfl, rfl, rfl⟩ rfl hin rfl (x := i1) rfl rfl rfl dX4_init_6 (fun H locs h_1 eh_1 hW hs => ?_)
  have hM := hM.tr (hs.mono (by decide))
  have gx := gx.S hs
  have f_2 : h_1.2.1 x 0 = i1 := by rw [eh_1]; exact hx_pi_at _ _ _ _
  refine lv_aload_n hx hb dX4_init_9 rfl (lv_at hl 0 rfl) ?_
  refine lv_iload_n hx hb dX4_init_10 rfl (lv_at hl 2 rfl) ?_
  refine hk_putiF hx hb hts hC_4 hown hW gx td_4 1 (by decide) rfl kw_613 ⟨rfl, rfl, rfl⟩ rfl hin rfl (x := i2) rfl rfl rfl dX4_init_11 (fun H locs h_3 eh_3 hW hs => ?_)
  have f_2 := (hs.o gx trivial rfl).1.trans f_2
  have hM := hM.tr (hs.mono (by decide))
  have gx := gx.S hs
  have f_4 : h_3.2.1 x 1 = i2 := by rw [eh_3]; exact hx_pi_at _ _ _ _
  refine lv_aload_n hx hb dX4_init_14 rfl (lv_at hl 0 rfl) ?_
  refine lv_iload_n hx hb dX4_init_15 rfl (lv_at hl 3 rfl) ?_
  refine hk_putiF hx hb hts hC_4 hown hW gx td_4 2 (by decide) rfl kw_615 ⟨rfl, rfl, rfl⟩ rfl hin rfl (x := i3) rfl rfl rfl dX4_init_16 (fun H locs h_5 eh_5 hW hs => ?_)
  have f_2 := (hs.o gx trivial rfl).1.trans f_2
  have f_4 := (hs.o gx trivial rfl).1.trans f_4
  have hM := hM.tr (hs.mono (by decide))
  have gx := gx.S hs
  have f_6 : h_5.2.1 x 2 = i3 := by rw [eh_5]; exact hx_pi_at _ _ _ _
  exact hx_retv hx hb hr hlk hW ⟨hM, f_2⟩ dX4_init_19


theorem dX4_tell_0 : decode cX4_tell 0 = .ok (.aload_n 0, 1) := by decide +kernel
theorem dX4_tell_1 : decode cX4_tell 1 = .ok (.iload_n 1, 1) := by decide +kernel
theorem dX4_tell_2 : decode cX4_tell 2 = .ok (.putfield 21, 3) := by decide +kernel
theorem dX4_tell_5 : decode cX4_tell 5 = .ok (.aload_n 0, 1) := by decide +kernel
theorem dX4_tell_6 : decode cX4_tell 6 = .ok (.iload_n 2, 1) := by decide +kernel
theorem dX4_tell_7 : decode cX4_tell 7 = .ok (.putfield 24, 3) := by decide +kernel
theorem dX4_tell_10 : decode cX4_tell 10 = .ok (.aload_n 0, 1) := by decide +kernel
theorem dX4_tell_11 : decode cX4_tell 11 = .ok (.iload_n 3, 1) := by decide +kernel
theorem dX4_tell_12 : decode cX4_tell 12 = .ok (.putfield 27, 3) := by decide +kernel
theorem dX4_tell_15 : decode cX4_tell 15 = .ok (.aload_n 0, 1) := by decide +kernel
theorem dX4_tell_16 : decode cX4_tell 16 = .ok (.iload 4, 2) := by decide +kernel
theorem dX4_tell_18 : decode cX4_tell 18 = .ok (.putfield 30, 3) := by decide +kernel
theorem dX4_tell_21 : decode cX4_tell 21 = .ok (.return_, 1) := by decide +kernel
set_option maxHeartbeats 4000000 in
set_option maxRecDepth 100000 in
theorem c_X4_tell (l : Launch) (dC : Nat → ClassId) (dI : Nat → Nat → Nat) (dA : Nat → ClassId) (L : List Nat) (h : hx_h) (sz : Nat) (x : Nat) (i1 : Int32) (i2 : Int32) (i3 : Int32) (i4 : Int32) (gx : hx_g L h x 4)  : Met l yX4_tell (Cond.code yX4_tell cX4_tell 5 none :: hx_all) ({ frames := 0, cells := 0, slots := 0, locals := 0 }) (va_Pc [.ref x, .int i1, .int i2, .int i3, .int i4] (hx_B P_tb (P_ty dA) (dC, dI) vwCl L h sz)) (va_Qv (fun (u : List Nat × hx_h) => hx_S P_tb [(4, 3), (4, 4), (4, 5), (4, 6)] L h u.1 u.2) (hx_E P_tb (P_ty dA) (dC, dI) vwCl (hx_A L sz)) (hx_A L sz)) 0 0 (hx_A L sz) := by
  refine hx_met (lv := [(0, .ref x), (1, .int i1), (2, .int i2), (3, .int i3), (4, .int i4)]) (by decide +kernel) rfl (Nat.le_of_ble_eq_true rfl) rfl ?_
  intro p e s m below meth c hx hb hml hr hlk hts0 hown hin hsz hW ls hl
  have hts : ∀ w ∈ hx_all, w.before _ s = true := fun w hw => hts0 w (List.mem_cons_of_mem _ hw)
  have hown : s.vm.findClass "SmallCourt$Person" = some m.cls := hown
  have hM : hx_S P_tb [(4, 3), (4, 4), (4, 5), (4, 6)] L h L h := hx_S.rf
  refine lv_aload_n hx hb dX4_tell_0 rfl (lv_at hl 0 rfl) ?_
  refine lv_iload_n hx hb dX4_tell_1 rfl (lv_at hl 1 rfl) ?_
  refine hk_puti hx hb hts hC_4 hown hW gx td_4 3 (by decide) rfl kw_616 ⟨rfl, rfl, rfl⟩ rfl (x := i1) rfl rfl rfl dX4_tell_2 (fun H locs h_1 eh_1 hW hs => ?_)
  have hM := hM.tr (hs.mono (by decide))
  have gx := gx.S hs
  have f_2 : h_1.2.1 x 3 = i1 := by rw [eh_1]; exact hx_pi_at _ _ _ _
  refine lv_aload_n hx hb dX4_tell_5 rfl (lv_at hl 0 rfl) ?_
  refine lv_iload_n hx hb dX4_tell_6 rfl (lv_at hl 2 rfl) ?_
  refine hk_puti hx hb hts hC_4 hown hW gx td_4 4 (by decide) rfl kw_617 ⟨rfl, rfl, rfl⟩ rfl (x := i2) rfl rfl rfl dX4_tell_7 (fun H locs h_3 eh_3 hW hs => ?_)
  have f_2 := (hs.o gx trivial rfl).1.trans f_2
  have hM := hM.tr (hs.mono (by decide))
  have gx := gx.S hs
  have f_4 : h_3.2.1 x 4 = i2 := by rw [eh_3]; exact hx_pi_at _ _ _ _
  refine lv_aload_n hx hb dX4_tell_10 rfl (lv_at hl 0 rfl) ?_
  refine lv_iload_n hx hb dX4_tell_11 rfl (lv_at hl 3 rfl) ?_
  refine hk_puti hx hb hts hC_4 hown hW gx td_4 5 (by decide) rfl kw_618 ⟨rfl, rfl, rfl⟩ rfl (x := i3) rfl rfl rfl dX4_tell_12 (fun H locs h_5 eh_5 hW hs => ?_)
  have f_2 := (hs.o gx trivial rfl).1.trans f_2
  have f_4 := (hs.o gx trivial rfl).1.trans f_4
  have hM := hM.tr (hs.mono (by decide))
  have gx := gx.S hs
  have f_6 : h_5.2.1 x 5 = i3 := by rw [eh_5]; exact hx_pi_at _ _ _ _
  refine lv_aload_n hx hb dX4_tell_15 rfl (lv_at hl 0 rfl) ?_
  refine lv_iload hx hb dX4_tell_16 (lv_at hl 4 rfl) ?_
  refine hk_puti hx hb hts hC_4 hown hW gx td_4 6 (by decide) rfl kw_620 ⟨rfl, rfl, rfl⟩ rfl (x := i4) rfl rfl rfl dX4_tell_18 (fun H locs h_7 eh_7 hW hs => ?_)
  have f_2 := (hs.o gx trivial rfl).1.trans f_2
  have f_4 := (hs.o gx trivial rfl).1.trans f_4
  have f_6 := (hs.o gx trivial rfl).1.trans f_6
  have hM := hM.tr (hs.mono (by decide))
  have gx := gx.S hs
  have f_8 : h_7.2.1 x 6 = i4 := by rw [eh_7]; exact hx_pi_at _ _ _ _
  exact hx_retv hx hb hr hlk hW hM dX4_tell_21


theorem dX9_person_0 : decode cX9_person 0 = .ok (.aload_n 0, 1) := by decide +kernel
theorem dX9_person_1 : decode cX9_person 1 = .ok (.getfield 125, 3) := by decide +kernel
theorem dX9_person_4 : decode cX9_person 4 = .ok (.bipush 40, 2) := by decide +kernel
theorem dX9_person_6 : decode cX9_person 6 = .ok (.if_icmp .ge 39, 3) := by decide +kernel
theorem dX9_person_9 : decode cX9_person 9 = .ok (.iload_n 1, 1) := by decide +kernel
theorem dX9_person_10 : decode cX9_person 10 = .ok (.sipush (-30000), 3) := by decide +kernel
theorem dX9_person_13 : decode cX9_person 13 = .ok (.sipush 7999, 3) := by decide +kernel
theorem dX9_person_16 : decode cX9_person 16 = .ok (.invokestatic 128, 3) := by decide +kernel
theorem dX9_person_19 : decode cX9_person 19 = .ok (.ifCond .eq 26, 3) := by decide +kernel
theorem dX9_person_22 : decode cX9_person 22 = .ok (.iload_n 2, 1) := by decide +kernel
theorem dX9_person_23 : decode cX9_person 23 = .ok (.iload_n 3, 1) := by decide +kernel
theorem dX9_person_24 : decode cX9_person 24 = .ok (.iload 4, 2) := by decide +kernel
theorem dX9_person_26 : decode cX9_person 26 = .ok (.iload 5, 2) := by decide +kernel
theorem dX9_person_28 : decode cX9_person 28 = .ok (.invokestatic 132, 3) := by decide +kernel
theorem dX9_person_31 : decode cX9_person 31 = .ok (.ifCond .eq 14, 3) := by decide +kernel
theorem dX9_person_34 : decode cX9_person 34 = .ok (.iload 6, 2) := by decide +kernel
theorem dX9_person_36 : decode cX9_person 36 = .ok (.iconst (-1), 1) := by decide +kernel
theorem dX9_person_37 : decode cX9_person 37 = .ok (.bipush 19, 2) := by decide +kernel
theorem dX9_person_39 : decode cX9_person 39 = .ok (.invokestatic 128, 3) := by decide +kernel
theorem dX9_person_42 : decode cX9_person 42 = .ok (.ifCond .ne 5, 3) := by decide +kernel
theorem dX9_person_45 : decode cX9_person 45 = .ok (.iconst (-1), 1) := by decide +kernel
theorem dX9_person_46 : decode cX9_person 46 = .ok (.ireturn, 1) := by decide +kernel
theorem dX9_person_47 : decode cX9_person 47 = .ok (.new 33, 3) := by decide +kernel
theorem dX9_person_50 : decode cX9_person 50 = .ok (.dup, 1) := by decide +kernel
theorem dX9_person_51 : decode cX9_person 51 = .ok (.aload_n 0, 1) := by decide +kernel
theorem dX9_person_52 : decode cX9_person 52 = .ok (.getfield 125, 3) := by decide +kernel
theorem dX9_person_55 : decode cX9_person 55 = .ok (.iload_n 1, 1) := by decide +kernel
theorem dX9_person_56 : decode cX9_person 56 = .ok (.iload 6, 2) := by decide +kernel
theorem dX9_person_58 : decode cX9_person 58 = .ok (.invokespecial 136, 3) := by decide +kernel
theorem dX9_person_61 : decode cX9_person 61 = .ok (.astore 7, 2) := by decide +kernel
theorem dX9_person_63 : decode cX9_person 63 = .ok (.aload 7, 2) := by decide +kernel
theorem dX9_person_65 : decode cX9_person 65 = .ok (.iload_n 2, 1) := by decide +kernel
theorem dX9_person_66 : decode cX9_person 66 = .ok (.iload_n 3, 1) := by decide +kernel
theorem dX9_person_67 : decode cX9_person 67 = .ok (.iload 4, 2) := by decide +kernel
theorem dX9_person_69 : decode cX9_person 69 = .ok (.iload 5, 2) := by decide +kernel
theorem dX9_person_71 : decode cX9_person 71 = .ok (.invokevirtual 139, 3) := by decide +kernel
theorem dX9_person_74 : decode cX9_person 74 = .ok (.aload_n 0, 1) := by decide +kernel
theorem dX9_person_75 : decode cX9_person 75 = .ok (.getfield 35, 3) := by decide +kernel
theorem dX9_person_78 : decode cX9_person 78 = .ok (.aload_n 0, 1) := by decide +kernel
theorem dX9_person_79 : decode cX9_person 79 = .ok (.getfield 125, 3) := by decide +kernel
theorem dX9_person_82 : decode cX9_person 82 = .ok (.aload 7, 2) := by decide +kernel
theorem dX9_person_84 : decode cX9_person 84 = .ok (.aastore, 1) := by decide +kernel
theorem dX9_person_85 : decode cX9_person 85 = .ok (.aload_n 0, 1) := by decide +kernel
theorem dX9_person_86 : decode cX9_person 86 = .ok (.dup, 1) := by decide +kernel
theorem dX9_person_87 : decode cX9_person 87 = .ok (.getfield 125, 3) := by decide +kernel
theorem dX9_person_90 : decode cX9_person 90 = .ok (.iconst 1, 1) := by decide +kernel
theorem dX9_person_91 : decode cX9_person 91 = .ok (.iadd, 1) := by decide +kernel
theorem dX9_person_92 : decode cX9_person 92 = .ok (.putfield 125, 3) := by decide +kernel
theorem dX9_person_95 : decode cX9_person 95 = .ok (.aload 7, 2) := by decide +kernel
theorem dX9_person_97 : decode cX9_person 97 = .ok (.getfield 143, 3) := by decide +kernel
theorem dX9_person_100 : decode cX9_person 100 = .ok (.ireturn, 1) := by decide +kernel
set_option maxHeartbeats 4000000 in
set_option maxRecDepth 100000 in
theorem c_X9_person (l : Launch) (dC : Nat → ClassId) (dI : Nat → Nat → Nat) (dA : Nat → ClassId) (L : List Nat) (h : hx_h) (sz : Nat) (x : Nat) (i1 : Int32) (i2 : Int32) (i3 : Int32) (i4 : Int32) (i5 : Int32) (i6 : Int32) (gx : hx_g L h x 9) (f_x_8 : h.2.1 x 8 = 0) (q5 : Nat) (gq5 : hx_g L h q5 44) (f_x_7 : h.2.2 x 7 = some q5) : Met l yX9_person (Cond.code yX9_person cX9_person 8 (some .int) :: hx_all) ({ frames := 2, cells := 1, slots := 10, locals := 45 }) (va_Pc [.ref x, .int i1, .int i2, .int i3, .int i4, .int i5, .int i6] (hx_B P_tb (P_ty dA) (dC, dI) vwCl L h sz)) (va_Qi (fun (r : Int32) (u : List Nat × hx_h) => (((-30000 ≤ i1.toInt ∧ i1.toInt ≤ 7999) ∧ ((0 ≤ i2.toInt ∧ i2.toInt ≤ 9999) ∧ (1 ≤ i3.toInt ∧ i3.toInt ≤ 20) ∧ (0 ≤ i4.toInt ∧ i4.toInt ≤ 99) ∧ (0 ≤ i5.toInt ∧ i5.toInt ≤ 99)) ∧ (-1 ≤ i6.toInt ∧ i6.toInt ≤ 19)) ∧ r = 0 ∨ ¬ ((-30000 ≤ i1.toInt ∧ i1.toInt ≤ 7999) ∧ ((0 ≤ i2.toInt ∧ i2.toInt ≤ 9999) ∧ (1 ≤ i3.toInt ∧ i3.toInt ≤ 20) ∧ (0 ≤ i4.toInt ∧ i4.toInt ≤ 99) ∧ (0 ≤ i5.toInt ∧ i5.toInt ≤ 99)) ∧ (-1 ≤ i6.toInt ∧ i6.toInt ≤ 19)) ∧ r = -1) ∧ hx_S P_tb [(4, 0), (4, 1), (4, 2), (4, 3), (4, 4), (4, 5), (4, 6), (9, 8), (44, 0)] L h u.1 u.2) (hx_E P_tb (P_ty dA) (dC, dI) vwCl (hx_A L sz)) (hx_A L sz)) 1 10 (hx_A L sz) := by
  refine hx_met (lv := [(0, .ref x), (1, .int i1), (2, .int i2), (3, .int i3), (4, .int i4), (5, .int i5), (6, .int i6)]) (by decide +kernel) rfl (Nat.le_of_ble_eq_true rfl) rfl ?_
  intro p e s m below meth c hx hb hml hr hlk hts0 hown hin hsz hW ls hl
  have hts : ∀ w ∈ hx_all, w.before _ s = true := fun w hw => hts0 w (List.mem_cons_of_mem _ hw)
  have hown : s.vm.findClass "SmallCourt" = some m.cls := hown
  have hM : hx_S P_tb [(4, 0), (4, 1), (4, 2), (4, 3), (4, 4), (4, 5), (4, 6), (9, 8), (44, 0)] L h L h := hx_S.rf
  refine lv_aload_n hx hb dX9_person_0 rfl (lv_at hl 0 rfl) ?_
  refine hk_geti hx hb hts hC_9 hown hW gx td_9 8 (by decide) rfl kw_372 ⟨rfl, rfl, rfl⟩ f_x_8 dX9_person_1 ?_
  refine lv_bipush (v := 40) hx hb dX9_person_4 (by decide) ?_
  refine hb_icmp_ge (zx := 0) (zy := 40) (tgt := 45) hx hb (by decide) (by decide) dX9_person_6 (by decide) (fun c_1 => absurd c_1 (by decide)) (fun c_1 => ?_)
  refine lv_iload_n hx hb dX9_person_9 rfl (lv_at hl 1 rfl) ?_
  refine lv_sipush (v := -30000) hx hb dX9_person_10 (by decide) ?_
  refine lv_sipush (v := 7999) hx hb dX9_person_13 (by decide) ?_
  refine hx_goi (hx_runS (As := [.int i1, .int (-30000 : Int32), .int (7999 : Int32)]) (rest := []) ⟨hx, hb, hml, hown, hts⟩ hW (c_X9_isWithin l dC dI dA L h s.heap.size i1 (-30000 : Int32) (7999 : Int32)) (va_cwS 3 hts (hx_gS kw_434 kw_432 kw_433 kw_94) rfl rfl rfl (by decide +kernel) ⟨Nat.le_of_ble_eq_true rfl, Nat.le_of_ble_eq_true rfl⟩) rfl hl.1 rfl (Nat.le_of_ble_eq_true rfl) dX9_person_16 ⟨Nat.le_of_ble_eq_true rfl, Nat.le_of_ble_eq_true rfl⟩) hW (fun r_4 L_2 h_3 H locs p_5 hW => ?_)
  obtain ⟨p_5, eu⟩ := p_5
  cases eu
  rcases p_5 with ⟨kp_5, rfl⟩ | ⟨kp_5, rfl⟩
  · skip
    have zc1 : (-30000 : Int32).toInt = -30000 := by decide
    have zc2 : (7999 : Int32).toInt = 7999 := by decide
    refine hb_if_eq (zx := 1) (tgt := 45) hx hb (by decide) dX9_person_19 (by decide) (fun c_6 => absurd c_6 (by decide)) (fun c_6 => ?_)
    refine lv_iload_n hx hb dX9_person_22 rfl (lv_at hl 2 rfl) ?_
    refine lv_iload_n hx hb dX9_person_23 rfl (lv_at hl 3 rfl) ?_
    refine lv_iload hx hb dX9_person_24 (lv_at hl 4 rfl) ?_
    refine lv_iload hx hb dX9_person_26 (lv_at hl 5 rfl) ?_
    refine hx_goi (hx_runS (As := [.int i2, .int i3, .int i4, .int i5]) (rest := []) ⟨hx, hb, hml, hown, hts⟩ hW (c_X9_isHousehold l dC dI dA L h H.size i2 i3 i4 i5) (va_cwS 4 hts (hx_gS kw_604 kw_602 kw_603 kw_94) rfl rfl rfl (by decide +kernel) ⟨Nat.le_of_ble_eq_true rfl, Nat.le_of_ble_eq_true rfl⟩) rfl hl.1 rfl (Nat.le_of_ble_eq_true rfl) dX9_person_28 ⟨Nat.le_of_ble_eq_true rfl, Nat.le_of_ble_eq_true rfl⟩) hW (fun r_9 L_7 h_8 H locs p_10 hW => ?_)
    obtain ⟨p_10, eu⟩ := p_10
    cases eu
    rcases p_10 with ⟨kp_10, rfl⟩ | ⟨kp_10, rfl⟩
    · skip
      refine hb_if_eq (zx := 1) (tgt := 45) hx hb (by decide) dX9_person_31 (by decide) (fun c_11 => absurd c_11 (by decide)) (fun c_11 => ?_)
      refine lv_iload hx hb dX9_person_34 (lv_at hl 6 rfl) ?_
      refine lv_iconst (v := -1) hx hb dX9_person_36 (by decide) ?_
      refine lv_bipush (v := 19) hx hb dX9_person_37 (by decide) ?_
      refine hx_goi (hx_runS (As := [.int i6, .int (-1 : Int32), .int (19 : Int32)]) (rest := []) ⟨hx, hb, hml, hown, hts⟩ hW (c_X9_isWithin l dC dI dA L h H.size i6 (-1 : Int32) (19 : Int32)) (va_cwS 3 hts (hx_gS kw_434 kw_432 kw_433 kw_94) rfl rfl rfl (by decide +kernel) ⟨Nat.le_of_ble_eq_true rfl, Nat.le_of_ble_eq_true rfl⟩) rfl hl.1 rfl (Nat.le_of_ble_eq_true rfl) dX9_person_39 ⟨Nat.le_of_ble_eq_true rfl, Nat.le_of_ble_eq_true rfl⟩) hW (fun r_14 L_12 h_13 H locs p_15 hW => ?_)
      obtain ⟨p_15, eu⟩ := p_15
      cases eu
      rcases p_15 with ⟨kp_15, rfl⟩ | ⟨kp_15, rfl⟩
      · skip
        have zc1 : (-1 : Int32).toInt = -1 := by decide
        have zc2 : (19 : Int32).toInt = 19 := by decide
        refine hb_if_ne (zx := 1) (tgt := 47) hx hb (by decide) dX9_person_42 (by decide) (fun c_16 => ?_) (fun c_16 => absurd c_16 (by decide))
        refine hk_new hx hb hts hC_4 hown hW 4 td_4 rfl (by decide) kw_188 kw_605 kw_108 (Nat.le_of_ble_eq_true rfl) (Nat.le_of_ble_eq_true rfl) dX9_person_47 (fun q_18 H h_17 eh_17 hqq_18 hW hs gq_18 => ?_)
        have f_x_8 := (hs.o gx trivial rfl).1.trans f_x_8
        have f_x_7 := (hs.o gx trivial rfl).2.trans f_x_7
        have hM := hM.tr (hs.mono (by decide))
        have gx := gx.S hs
        have gq5 := gq5.S hs
        have f_19 : h_17.2.1 q_18 0 = 0 := by rw [eh_17]; exact hx_nw_i
        have f_20 : h_17.2.1 q_18 1 = 0 := by rw [eh_17]; exact hx_nw_i
        have f_21 : h_17.2.1 q_18 2 = 0 := by rw [eh_17]; exact hx_nw_i
        have f_22 : h_17.2.1 q_18 3 = 0 := by rw [eh_17]; exact hx_nw_i
        have f_23 : h_17.2.1 q_18 4 = 0 := by rw [eh_17]; exact hx_nw_i
        have f_24 : h_17.2.1 q_18 5 = 0 := by rw [eh_17]; exact hx_nw_i
        have f_25 : h_17.2.1 q_18 6 = 0 := by rw [eh_17]; exact hx_nw_i
        have f_26 : h_17.2.1 q_18 7 = 0 := by rw [eh_17]; exact hx_nw_i
        have f_27 : h_17.2.1 q_18 8 = 0 := by rw [eh_17]; exact hx_nw_i
        have f_28 : h_17.2.1 q_18 9 = 0 := by rw [eh_17]; exact hx_nw_i
        refine lv_dup hx hb dX9_person_50 rfl ?_
        refine lv_aload_n hx hb dX9_person_51 rfl (lv_at hl 0 rfl) ?_
        refine hk_geti hx hb hts hC_9 hown hW gx td_9 8 (by decide) rfl kw_372 ⟨rfl, rfl, rfl⟩ f_x_8 dX9_person_52 ?_
        refine lv_iload_n hx hb dX9_person_55 rfl (lv_at hl 1 rfl) ?_
        refine lv_iload hx hb dX9_person_56 (lv_at hl 6 rfl) ?_
        refine hx_gov (hx_runI (As := [.int (0 : Int32), .int i1, .int i6]) (rest := [.ref q_18]) ⟨hx, hb, hml, hown, hts⟩ hW (c_X4_init l dC dI dA (L ++ [q_18]) h_17 H.size q_18 (0 : Int32) i1 i6 gq_18) (cwI 3 hts (hx_gC kw_608) rfl rfl rfl (hts _ kw_108) (hts _ kw_606) (hts _ kw_607) rfl (by decide +kernel) ⟨Nat.le_of_ble_eq_true rfl, Nat.le_of_ble_eq_true rfl⟩) rfl hl.1 rfl (Nat.le_of_ble_eq_true rfl) dX9_person_58 ⟨Nat.le_of_ble_eq_true rfl, Nat.le_of_ble_eq_true rfl⟩) hW (fun L_29 h_30 H locs p_32 hW => ?_)
        obtain ⟨hs, f_33⟩ := p_32
        have hs : hx_S P_tb [(4, 0), (4, 1), (4, 2)] (L ++ [q_18]) h_17 L_29 h_30 := hs
        have f_33 : h_30.2.1 q_18 0 = _ := f_33
        have f_x_8 := (hs.o gx trivial rfl).1.trans f_x_8
        have f_x_7 := (hs.o gx trivial rfl).2.trans f_x_7
        have f_22 := (hs.o gq_18 trivial rfl).1.trans f_22
        have f_23 := (hs.o gq_18 trivial rfl).1.trans f_23
        have f_24 := (hs.o gq_18 trivial rfl).1.trans f_24
        have f_25 := (hs.o gq_18 trivial rfl).1.trans f_25
        have f_26 := (hs.o gq_18 trivial rfl).1.trans f_26
        have f_27 := (hs.o gq_18 trivial rfl).1.trans f_27
        have f_28 := (hs.o gq_18 trivial rfl).1.trans f_28
        have hM := hM.tr (hs.mono (by decide))
        have gx := gx.S hs
        have gq5 := gq5.S hs
        have gq_18 := gq_18.S hs
        refine lv_astore (lv' := [(7, .ref q_18), (0, .ref x), (1, .int i1), (2, .int i2), (3, .int i3), (4, .int i4), (5, .int i5), (6, .int i6)]) hx hb dX9_person_61 hl (by decide) rfl (fun ls hl => ?_)
        refine lv_aload hx hb dX9_person_63 (lv_at hl 0 rfl) ?_
        refine lv_iload_n hx hb dX9_person_65 rfl (lv_at hl 3 rfl) ?_
        refine lv_iload_n hx hb dX9_person_66 rfl (lv_at hl 4 rfl) ?_
        refine lv_iload hx hb dX9_person_67 (lv_at hl 5 rfl) ?_
        refine lv_iload hx hb dX9_person_69 (lv_at hl 6 rfl) ?_
        refine hx_gov (hx_runV (As := [.int i2, .int i3, .int i4, .int i5]) (rest := []) ⟨hx, hb, hml, hown, hts⟩ hW gq_18 td_4 (T := TX4) (N := 10) rfl (c_X4_tell l dC dI dA L_29 h_30 H.size q_18 i2 i3 i4 i5 gq_18) (cwV 4 hts (hx_gV kw_651 kw_648 kw_649 kw_650 kw_108) rfl rfl rfl (by decide +kernel) ⟨Nat.le_of_ble_eq_true rfl, Nat.le_of_ble_eq_true rfl⟩) rfl hl.1 rfl (Nat.le_of_ble_eq_true rfl) dX9_person_71 ⟨Nat.le_of_ble_eq_true rfl, Nat.le_of_ble_eq_true rfl⟩) hW (fun L_34 h_35 H locs p_37 hW => ?_)
        have hs : hx_S P_tb [(4, 3), (4, 4), (4, 5), (4, 6)] L_29 h_30 L_34 h_35 := p_37
        have f_x_8 := (hs.o gx trivial rfl).1.trans f_x_8
        have f_x_7 := (hs.o gx trivial rfl).2.trans f_x_7
        have f_26 := (hs.o gq_18 trivial rfl).1.trans f_26
        have f_27 := (hs.o gq_18 trivial rfl).1.trans f_27
        have f_28 := (hs.o gq_18 trivial rfl).1.trans f_28
        have f_33 := (hs.o gq_18 trivial rfl).1.trans f_33
        have hM := hM.tr (hs.mono (by decide))
        have gx := gx.S hs
        have gq5 := gq5.S hs
        have gq_18 := gq_18.S hs
        refine lv_aload_n hx hb dX9_person_74 rfl (lv_at hl 1 rfl) ?_
        refine hk_getr hx hb hts hC_9 hown hW gx td_9 7 (by decide) rfl kw_371 ⟨rfl, rfl, rfl⟩ f_x_7 dX9_person_75 ?_
        refine lv_aload_n hx hb dX9_person_78 rfl (lv_at hl 1 rfl) ?_
        refine hk_geti hx hb hts hC_9 hown hW gx td_9 8 (by decide) rfl kw_372 ⟨rfl, rfl, rfl⟩ f_x_8 dX9_person_79 ?_
        refine lv_aload hx hb dX9_person_82 (lv_at hl 0 rfl) ?_
        refine hk_aast hx hb hW gq5 td_44 rfl gq_18 td_4 rfl (by decide) dX9_person_84 (fun H locs h_38 eh_38 hW hs => ?_)
        have f_x_8 := (hs.o gx trivial rfl).1.trans f_x_8
        have f_x_7 := (hs.o gx trivial rfl).2.trans f_x_7
        have f_26 := (hs.o gq_18 trivial rfl).1.trans f_26
        have f_27 := (hs.o gq_18 trivial rfl).1.trans f_27
        have f_28 := (hs.o gq_18 trivial rfl).1.trans f_28
        have f_33 := (hs.o gq_18 trivial rfl).1.trans f_33
        have hM := hM.tr (hs.mono (by decide))
        have gx := gx.S hs
        have gq5 := gq5.S hs
        have gq_18 := gq_18.S hs
        refine lv_aload_n hx hb dX9_person_85 rfl (lv_at hl 1 rfl) ?_
        refine lv_dup hx hb dX9_person_86 rfl ?_
        refine hk_geti hx hb hts hC_9 hown hW gx td_9 8 (by decide) rfl kw_372 ⟨rfl, rfl, rfl⟩ f_x_8 dX9_person_87 ?_
        refine lv_iconst (v := 1) hx hb dX9_person_90 (by decide) ?_
        refine lv_iadd hx hb dX9_person_91 ?_
        refine lv_topi (fun x_39 ex_39 => ?_)
        obtain rfl : x_39 = (1 : Int32) := ex_39.trans (by decide)
        refine hk_puti hx hb hts hC_9 hown hW gx td_9 8 (by decide) rfl kw_372 ⟨rfl, rfl, rfl⟩ rfl (x := (1 : Int32)) rfl rfl rfl dX9_person_92 (fun H locs h_40 eh_40 hW hs => ?_)
        have f_x_7 := (hs.o gx trivial rfl).2.trans f_x_7
        have f_26 := (hs.o gq_18 trivial rfl).1.trans f_26
        have f_27 := (hs.o gq_18 trivial rfl).1.trans f_27
        have f_28 := (hs.o gq_18 trivial rfl).1.trans f_28
        have f_33 := (hs.o gq_18 trivial rfl).1.trans f_33
        have hM := hM.tr (hs.mono (by decide))
        have gx := gx.S hs
        have gq5 := gq5.S hs
        have gq_18 := gq_18.S hs
        have f_41 : h_40.2.1 x 8 = (1 : Int32) := by rw [eh_40]; exact hx_pi_at _ _ _ _
        refine lv_aload hx hb dX9_person_95 (lv_at hl 0 rfl) ?_
        refine hk_geti hx hb hts hC_4 hown hW gq_18 td_4 0 (by decide) rfl kw_612 ⟨rfl, rfl, rfl⟩ f_33 dX9_person_97 ?_
        refine W.widen (k := 1) (n := 10) (Nat.le_of_ble_eq_true rfl) (Nat.le_of_ble_eq_true rfl) ?_
        exact hx_reti hx hb hr hlk hW ⟨Or.inl ⟨by first | omega | decide, rfl⟩, hM⟩ dX9_person_100
      · skip
        have zc1 : (-1 : Int32).toInt = -1 := by decide
        have zc2 : (19 : Int32).toInt = 19 := by decide
        refine hb_if_ne (zx := 0) (tgt := 47) hx hb (by decide) dX9_person_42 (by decide) (fun c_42 => absurd c_42 (by decide)) (fun c_42 => ?_)
        refine lv_iconst (v := -1) hx hb dX9_person_45 (by decide) ?_
        refine W.widen (k := 1) (n := 10) (Nat.le_of_ble_eq_true rfl) (Nat.le_of_ble_eq_true rfl) ?_
        exact hx_reti hx hb hr hlk hW ⟨Or.inr ⟨by first | omega | decide, rfl⟩, hM⟩ dX9_person_46
    · skip
      refine hb_if_eq (zx := 0) (tgt := 45) hx hb (by decide) dX9_person_31 (by decide) (fun c_43 => ?_) (fun c_43 => absurd c_43 (by decide))
      refine lv_iconst (v := -1) hx hb dX9_person_45 (by decide) ?_
      refine W.widen (k := 1) (n := 10) (Nat.le_of_ble_eq_true rfl) (Nat.le_of_ble_eq_true rfl) ?_
      exact hx_reti hx hb hr hlk hW ⟨Or.inr ⟨by first | omega | decide, rfl⟩, hM⟩ dX9_person_46
  · skip
    have zc1 : (-30000 : Int32).toInt = -30000 := by decide
    have zc2 : (7999 : Int32).toInt = 7999 := by decide
    refine hb_if_eq (zx := 0) (tgt := 45) hx hb (by decide) dX9_person_19 (by decide) (fun c_44 => ?_) (fun c_44 => absurd c_44 (by decide))
    refine lv_iconst (v := -1) hx hb dX9_person_45 (by decide) ?_
    refine W.widen (k := 1) (n := 10) (Nat.le_of_ble_eq_true rfl) (Nat.le_of_ble_eq_true rfl) ?_
    exact hx_reti hx hb hr hlk hW ⟨Or.inr ⟨by first | omega | decide, rfl⟩, hM⟩ dX9_person_46

