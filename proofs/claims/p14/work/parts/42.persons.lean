theorem dX10_isPerson_0 : decode cX10_isPerson 0 = .ok (.iload_n 1, 1) := by decide +kernel
theorem dX10_isPerson_1 : decode cX10_isPerson 1 = .ok (.iconst 0, 1) := by decide +kernel
theorem dX10_isPerson_2 : decode cX10_isPerson 2 = .ok (.aload_n 0, 1) := by decide +kernel
theorem dX10_isPerson_3 : decode cX10_isPerson 3 = .ok (.getfield 337, 3) := by decide +kernel
theorem dX10_isPerson_6 : decode cX10_isPerson 6 = .ok (.iconst 1, 1) := by decide +kernel
theorem dX10_isPerson_7 : decode cX10_isPerson 7 = .ok (.isub, 1) := by decide +kernel
theorem dX10_isPerson_8 : decode cX10_isPerson 8 = .ok (.invokestatic 228, 3) := by decide +kernel
theorem dX10_isPerson_11 : decode cX10_isPerson 11 = .ok (.ireturn, 1) := by decide +kernel
set_option maxHeartbeats 4000000 in
set_option maxRecDepth 100000 in
theorem t_X10_isPerson (l : Launch) (dC : Nat → ClassId) (dI : Nat → Nat → Nat) (dA : Nat → ClassId) (L : List Nat) (h : hx_h) (sz : Nat) (x : Nat) (i1 : Int32) (hT : hx_T T_tb L h) (gx : hx_g L h x 10) (p0 : Int32) (f_x_20 : h.2.1 x 20 = p0) : Met l yX10_isPerson (Cond.code yX10_isPerson cX10_isPerson 2 (some .boolean) :: hx_all) ({ frames := 1, cells := 0, slots := 0, locals := 22 }) (va_Pc [.ref x, .int i1] (hx_B T_tb (P_ty dA) (dC, dI) vwCl L h sz)) (va_Qi (fun (r : Int32) (u : List Nat × hx_h) => ((r.toInt = 0 ∧ (i1.toInt < 0 ∨ p0.toInt ≤ i1.toInt)) ∨ (r.toInt = 1 ∧ 0 ≤ i1.toInt ∧ i1.toInt < p0.toInt)) ∧ hx_T T_tb u.1 u.2 ∧ hx_S T_tb [] L h u.1 u.2) (hx_E T_tb (P_ty dA) (dC, dI) vwCl (hx_A L sz)) (hx_A L sz)) 0 0 (hx_A L sz) := by
  refine hx_met (lv := [(0, .ref x), (1, .int i1)]) (by decide +kernel) rfl (Nat.le_of_ble_eq_true rfl) rfl ?_
  intro p e s m below meth c hx hb hml hr hlk hts0 hown hin hsz hW ls hl
  have hts : ∀ w ∈ hx_all, w.before _ s = true := fun w hw => hts0 w (List.mem_cons_of_mem _ hw)
  have hown : s.vm.findClass "SmallCourtModel" = some m.cls := hown
  have hM : hx_S T_tb [] L h L h := hx_S.rf
  have b_p0 := hT.gi gx tt_10 (k := 20) rfl
  rw [f_x_20] at b_p0
  have b_p0 : 0 ≤ p0.toInt ∧ p0.toInt ≤ 40 := b_p0
  refine lv_iload_n hx hb dX10_isPerson_0 rfl (lv_at hl 1 rfl) ?_
  refine lv_iconst (v := 0) hx hb dX10_isPerson_1 (by decide) ?_
  refine lv_aload_n hx hb dX10_isPerson_2 rfl (lv_at hl 0 rfl) ?_
  refine hk_geti hx hb hts hC_10 hown hW gx tt_10 20 (by decide) rfl kw_1163 ⟨rfl, rfl, rfl⟩ f_x_20 dX10_isPerson_3 ?_
  refine lv_iconst (v := 1) hx hb dX10_isPerson_6 (by decide) ?_
  refine lv_isub hx hb dX10_isPerson_7 ?_
  have rg_1 := i32_r p0
  refine lv_topi (fun x_2 ex_2 => ?_)
  have zx_2 : x_2.toInt = p0.toInt - 1 := by rw [ex_2]; exact i32_sub rfl (by decide) (by omega) (by omega)
  have zc_0 : (0 : Int32).toInt = 0 := by decide
  refine hx_goi (hx_runS (As := [.int i1, .int (0 : Int32), .int x_2]) (rest := []) ⟨hx, hb, hml, hown, hts⟩ hW (t_X10_in l dC dI dA L h s.heap.size i1 (0 : Int32) x_2 hT) (va_cwS 3 hts (hx_gS kw_1445 kw_1443 kw_1444 kw_103) rfl rfl rfl (by decide +kernel) ⟨Nat.le_of_ble_eq_true rfl, Nat.le_of_ble_eq_true rfl⟩) rfl hl.1 rfl (Nat.le_of_ble_eq_true rfl) dX10_isPerson_8 ⟨Nat.le_of_ble_eq_true rfl, Nat.le_of_ble_eq_true rfl⟩) hW (fun r_5 L_3 h_4 H locs p_6 hW => ?_)
  obtain ⟨hr_7, hT, hs⟩ := p_6
  have hT : hx_T T_tb L_3 h_4 := hT
  have hs : hx_S T_tb [] L h L_3 h_4 := hs
  have f_x_20 := (hs.o gx trivial rfl).1.trans f_x_20
  have hM := hM.tr (hs.mono (by decide))
  have gx := gx.S hs
  exact hx_retz hx hb hr (hx_nar01 (by omega)) hlk hW ⟨(by first | omega | (refine ⟨?_, ?_⟩ <;> omega)), hT, hM⟩ dX10_isPerson_11

theorem dX10_areLives_0 : decode cX10_areLives 0 = .ok (.iload_n 0, 1) := by decide +kernel
theorem dX10_areLives_1 : decode cX10_areLives 1 = .ok (.iconst 0, 1) := by decide +kernel
theorem dX10_areLives_2 : decode cX10_areLives 2 = .ok (.sipush 9999, 3) := by decide +kernel
theorem dX10_areLives_5 : decode cX10_areLives 5 = .ok (.invokestatic 228, 3) := by decide +kernel
theorem dX10_areLives_8 : decode cX10_areLives 8 = .ok (.ifCond .eq 37, 3) := by decide +kernel
theorem dX10_areLives_11 : decode cX10_areLives 11 = .ok (.iload_n 1, 1) := by decide +kernel
theorem dX10_areLives_12 : decode cX10_areLives 12 = .ok (.iconst 1, 1) := by decide +kernel
theorem dX10_areLives_13 : decode cX10_areLives 13 = .ok (.bipush 20, 2) := by decide +kernel
theorem dX10_areLives_15 : decode cX10_areLives 15 = .ok (.invokestatic 228, 3) := by decide +kernel
theorem dX10_areLives_18 : decode cX10_areLives 18 = .ok (.ifCond .eq 27, 3) := by decide +kernel
theorem dX10_areLives_21 : decode cX10_areLives 21 = .ok (.iload_n 2, 1) := by decide +kernel
theorem dX10_areLives_22 : decode cX10_areLives 22 = .ok (.iconst 0, 1) := by decide +kernel
theorem dX10_areLives_23 : decode cX10_areLives 23 = .ok (.bipush 99, 2) := by decide +kernel
theorem dX10_areLives_25 : decode cX10_areLives 25 = .ok (.invokestatic 228, 3) := by decide +kernel
theorem dX10_areLives_28 : decode cX10_areLives 28 = .ok (.ifCond .eq 17, 3) := by decide +kernel
theorem dX10_areLives_31 : decode cX10_areLives 31 = .ok (.iload_n 3, 1) := by decide +kernel
theorem dX10_areLives_32 : decode cX10_areLives 32 = .ok (.iconst 0, 1) := by decide +kernel
theorem dX10_areLives_33 : decode cX10_areLives 33 = .ok (.bipush 99, 2) := by decide +kernel
theorem dX10_areLives_35 : decode cX10_areLives 35 = .ok (.invokestatic 228, 3) := by decide +kernel
theorem dX10_areLives_38 : decode cX10_areLives 38 = .ok (.ifCond .eq 7, 3) := by decide +kernel
theorem dX10_areLives_41 : decode cX10_areLives 41 = .ok (.iconst 1, 1) := by decide +kernel
theorem dX10_areLives_42 : decode cX10_areLives 42 = .ok (.goto 4, 3) := by decide +kernel
theorem dX10_areLives_45 : decode cX10_areLives 45 = .ok (.iconst 0, 1) := by decide +kernel
theorem dX10_areLives_46 : decode cX10_areLives 46 = .ok (.ireturn, 1) := by decide +kernel
set_option maxHeartbeats 4000000 in
set_option maxRecDepth 100000 in
theorem t_X10_areLives (l : Launch) (dC : Nat → ClassId) (dI : Nat → Nat → Nat) (dA : Nat → ClassId) (L : List Nat) (h : hx_h) (sz : Nat) (i1 : Int32) (i2 : Int32) (i3 : Int32) (i4 : Int32) (hT : hx_T T_tb L h)   : Met l yX10_areLives (Cond.code yX10_areLives cX10_areLives 4 (some .boolean) :: hx_all) ({ frames := 1, cells := 0, slots := 0, locals := 22 }) (va_Pc [.int i1, .int i2, .int i3, .int i4] (hx_B T_tb (P_ty dA) (dC, dI) vwCl L h sz)) (va_Qi (fun (r : Int32) (u : List Nat × hx_h) => ((r.toInt = 0) ∨ (r.toInt = 1 ∧ 0 ≤ i3.toInt ∧ i3.toInt ≤ 99 ∧ 0 ≤ i4.toInt ∧ i4.toInt ≤ 99)) ∧ hx_T T_tb u.1 u.2 ∧ hx_S T_tb [] L h u.1 u.2) (hx_E T_tb (P_ty dA) (dC, dI) vwCl (hx_A L sz)) (hx_A L sz)) 0 0 (hx_A L sz) := by
  refine hx_met (lv := [(0, .int i1), (1, .int i2), (2, .int i3), (3, .int i4)]) (by decide +kernel) rfl (Nat.le_of_ble_eq_true rfl) rfl ?_
  intro p e s m below meth c hx hb hml hr hlk hts0 hown hin hsz hW ls hl
  have hts : ∀ w ∈ hx_all, w.before _ s = true := fun w hw => hts0 w (List.mem_cons_of_mem _ hw)
  have hown : s.vm.findClass "SmallCourtModel" = some m.cls := hown
  have hM : hx_S T_tb [] L h L h := hx_S.rf
  refine lv_iload_n hx hb dX10_areLives_0 rfl (lv_at hl 0 rfl) ?_
  refine lv_iconst (v := 0) hx hb dX10_areLives_1 (by decide) ?_
  refine lv_sipush (v := 9999) hx hb dX10_areLives_2 (by decide) ?_
  have zc_9999 : (9999 : Int32).toInt = 9999 := by decide
  have zc_0 : (0 : Int32).toInt = 0 := by decide
  refine hx_goi (hx_runS (As := [.int i1, .int (0 : Int32), .int (9999 : Int32)]) (rest := []) ⟨hx, hb, hml, hown, hts⟩ hW (t_X10_in l dC dI dA L h s.heap.size i1 (0 : Int32) (9999 : Int32) hT) (va_cwS 3 hts (hx_gS kw_1445 kw_1443 kw_1444 kw_103) rfl rfl rfl (by decide +kernel) ⟨Nat.le_of_ble_eq_true rfl, Nat.le_of_ble_eq_true rfl⟩) rfl hl.1 rfl (Nat.le_of_ble_eq_true rfl) dX10_areLives_5 ⟨Nat.le_of_ble_eq_true rfl, Nat.le_of_ble_eq_true rfl⟩) hW (fun r_3 L_1 h_2 H locs p_4 hW => ?_)
  obtain ⟨hr_5, hT, hs⟩ := p_4
  have hT : hx_T T_tb L_1 h_2 := hT
  have hs : hx_S T_tb [] L h L_1 h_2 := hs
  have hM := hM.tr (hs.mono (by decide))
  refine hb_if_eq (zx := r_3.toInt) (tgt := 45) hx hb rfl dX10_areLives_8 (by decide) (fun c_6 => ?_) (fun c_6 => ?_)
  · skip
    refine lv_iconst (v := 0) hx hb dX10_areLives_45 (by decide) ?_
    exact hx_retz hx hb hr rfl hlk hW ⟨(by have zr : (0 : Int32).toInt = 0 := (by decide); (first | omega | (refine ⟨?_, ?_⟩ <;> omega))), hT, hM⟩ dX10_areLives_46
  · skip
    refine lv_iload_n hx hb dX10_areLives_11 rfl (lv_at hl 1 rfl) ?_
    refine lv_iconst (v := 1) hx hb dX10_areLives_12 (by decide) ?_
    refine lv_bipush (v := 20) hx hb dX10_areLives_13 (by decide) ?_
    have zc_20 : (20 : Int32).toInt = 20 := by decide
    have zc_1 : (1 : Int32).toInt = 1 := by decide
    refine hx_goi (hx_runS (As := [.int i2, .int (1 : Int32), .int (20 : Int32)]) (rest := []) ⟨hx, hb, hml, hown, hts⟩ hW (t_X10_in l dC dI dA L_1 h_2 H.size i2 (1 : Int32) (20 : Int32) hT) (va_cwS 3 hts (hx_gS kw_1445 kw_1443 kw_1444 kw_103) rfl rfl rfl (by decide +kernel) ⟨Nat.le_of_ble_eq_true rfl, Nat.le_of_ble_eq_true rfl⟩) rfl hl.1 rfl (Nat.le_of_ble_eq_true rfl) dX10_areLives_15 ⟨Nat.le_of_ble_eq_true rfl, Nat.le_of_ble_eq_true rfl⟩) hW (fun r_9 L_7 h_8 H locs p_10 hW => ?_)
    obtain ⟨hr_11, hT, hs⟩ := p_10
    have hT : hx_T T_tb L_7 h_8 := hT
    have hs : hx_S T_tb [] L_1 h_2 L_7 h_8 := hs
    have hM := hM.tr (hs.mono (by decide))
    refine hb_if_eq (zx := r_9.toInt) (tgt := 45) hx hb rfl dX10_areLives_18 (by decide) (fun c_12 => ?_) (fun c_12 => ?_)
    · skip
      refine lv_iconst (v := 0) hx hb dX10_areLives_45 (by decide) ?_
      exact hx_retz hx hb hr rfl hlk hW ⟨(by have zr : (0 : Int32).toInt = 0 := (by decide); (first | omega | (refine ⟨?_, ?_⟩ <;> omega))), hT, hM⟩ dX10_areLives_46
    · skip
      refine lv_iload_n hx hb dX10_areLives_21 rfl (lv_at hl 2 rfl) ?_
      refine lv_iconst (v := 0) hx hb dX10_areLives_22 (by decide) ?_
      refine lv_bipush (v := 99) hx hb dX10_areLives_23 (by decide) ?_
      have zc_99 : (99 : Int32).toInt = 99 := by decide
      refine hx_goi (hx_runS (As := [.int i3, .int (0 : Int32), .int (99 : Int32)]) (rest := []) ⟨hx, hb, hml, hown, hts⟩ hW (t_X10_in l dC dI dA L_7 h_8 H.size i3 (0 : Int32) (99 : Int32) hT) (va_cwS 3 hts (hx_gS kw_1445 kw_1443 kw_1444 kw_103) rfl rfl rfl (by decide +kernel) ⟨Nat.le_of_ble_eq_true rfl, Nat.le_of_ble_eq_true rfl⟩) rfl hl.1 rfl (Nat.le_of_ble_eq_true rfl) dX10_areLives_25 ⟨Nat.le_of_ble_eq_true rfl, Nat.le_of_ble_eq_true rfl⟩) hW (fun r_15 L_13 h_14 H locs p_16 hW => ?_)
      obtain ⟨hr_17, hT, hs⟩ := p_16
      have hT : hx_T T_tb L_13 h_14 := hT
      have hs : hx_S T_tb [] L_7 h_8 L_13 h_14 := hs
      have hM := hM.tr (hs.mono (by decide))
      refine hb_if_eq (zx := r_15.toInt) (tgt := 45) hx hb rfl dX10_areLives_28 (by decide) (fun c_18 => ?_) (fun c_18 => ?_)
      · skip
        refine lv_iconst (v := 0) hx hb dX10_areLives_45 (by decide) ?_
        exact hx_retz hx hb hr rfl hlk hW ⟨(by have zr : (0 : Int32).toInt = 0 := (by decide); (first | omega | (refine ⟨?_, ?_⟩ <;> omega))), hT, hM⟩ dX10_areLives_46
      · skip
        refine lv_iload_n hx hb dX10_areLives_31 rfl (lv_at hl 3 rfl) ?_
        refine lv_iconst (v := 0) hx hb dX10_areLives_32 (by decide) ?_
        refine lv_bipush (v := 99) hx hb dX10_areLives_33 (by decide) ?_
        refine hx_goi (hx_runS (As := [.int i4, .int (0 : Int32), .int (99 : Int32)]) (rest := []) ⟨hx, hb, hml, hown, hts⟩ hW (t_X10_in l dC dI dA L_13 h_14 H.size i4 (0 : Int32) (99 : Int32) hT) (va_cwS 3 hts (hx_gS kw_1445 kw_1443 kw_1444 kw_103) rfl rfl rfl (by decide +kernel) ⟨Nat.le_of_ble_eq_true rfl, Nat.le_of_ble_eq_true rfl⟩) rfl hl.1 rfl (Nat.le_of_ble_eq_true rfl) dX10_areLives_35 ⟨Nat.le_of_ble_eq_true rfl, Nat.le_of_ble_eq_true rfl⟩) hW (fun r_21 L_19 h_20 H locs p_22 hW => ?_)
        obtain ⟨hr_23, hT, hs⟩ := p_22
        have hT : hx_T T_tb L_19 h_20 := hT
        have hs : hx_S T_tb [] L_13 h_14 L_19 h_20 := hs
        have hM := hM.tr (hs.mono (by decide))
        refine hb_if_eq (zx := r_21.toInt) (tgt := 45) hx hb rfl dX10_areLives_38 (by decide) (fun c_24 => ?_) (fun c_24 => ?_)
        · skip
          refine lv_iconst (v := 0) hx hb dX10_areLives_45 (by decide) ?_
          exact hx_retz hx hb hr rfl hlk hW ⟨(by have zr : (0 : Int32).toInt = 0 := (by decide); (first | omega | (refine ⟨?_, ?_⟩ <;> omega))), hT, hM⟩ dX10_areLives_46
        · skip
          refine lv_iconst (v := 1) hx hb dX10_areLives_41 (by decide) ?_
          refine lv_goto (tgt := 46) hx hb dX10_areLives_42 (by decide) ?_
          exact hx_retz hx hb hr rfl hlk hW ⟨(by have zr : (1 : Int32).toInt = 1 := (by decide); (first | omega | (refine ⟨?_, ?_⟩ <;> omega))), hT, hM⟩ dX10_areLives_46

theorem dX10_lives_0 : decode cX10_lives 0 = .ok (.aload_n 0, 1) := by decide +kernel
theorem dX10_lives_1 : decode cX10_lives 1 = .ok (.getfield 41, 3) := by decide +kernel
theorem dX10_lives_4 : decode cX10_lives 4 = .ok (.iload_n 1, 1) := by decide +kernel
theorem dX10_lives_5 : decode cX10_lives 5 = .ok (.iload_n 2, 1) := by decide +kernel
theorem dX10_lives_6 : decode cX10_lives 6 = .ok (.iastore, 1) := by decide +kernel
theorem dX10_lives_7 : decode cX10_lives 7 = .ok (.aload_n 0, 1) := by decide +kernel
theorem dX10_lives_8 : decode cX10_lives 8 = .ok (.getfield 44, 3) := by decide +kernel
theorem dX10_lives_11 : decode cX10_lives 11 = .ok (.iload_n 1, 1) := by decide +kernel
theorem dX10_lives_12 : decode cX10_lives 12 = .ok (.iload_n 3, 1) := by decide +kernel
theorem dX10_lives_13 : decode cX10_lives 13 = .ok (.iastore, 1) := by decide +kernel
theorem dX10_lives_14 : decode cX10_lives 14 = .ok (.aload_n 0, 1) := by decide +kernel
theorem dX10_lives_15 : decode cX10_lives 15 = .ok (.getfield 47, 3) := by decide +kernel
theorem dX10_lives_18 : decode cX10_lives 18 = .ok (.iload_n 1, 1) := by decide +kernel
theorem dX10_lives_19 : decode cX10_lives 19 = .ok (.iload 4, 2) := by decide +kernel
theorem dX10_lives_21 : decode cX10_lives 21 = .ok (.iastore, 1) := by decide +kernel
theorem dX10_lives_22 : decode cX10_lives 22 = .ok (.aload_n 0, 1) := by decide +kernel
theorem dX10_lives_23 : decode cX10_lives 23 = .ok (.getfield 50, 3) := by decide +kernel
theorem dX10_lives_26 : decode cX10_lives 26 = .ok (.iload_n 1, 1) := by decide +kernel
theorem dX10_lives_27 : decode cX10_lives 27 = .ok (.iload 5, 2) := by decide +kernel
theorem dX10_lives_29 : decode cX10_lives 29 = .ok (.iastore, 1) := by decide +kernel
theorem dX10_lives_30 : decode cX10_lives 30 = .ok (.return_, 1) := by decide +kernel
set_option maxHeartbeats 4000000 in
set_option maxRecDepth 100000 in
theorem t_X10_lives (l : Launch) (dC : Nat → ClassId) (dI : Nat → Nat → Nat) (dA : Nat → ClassId) (L : List Nat) (h : hx_h) (sz : Nat) (x : Nat) (i1 : Int32) (i2 : Int32) (i3 : Int32) (i4 : Int32) (i5 : Int32) (hT : hx_T T_tb L h) (gx : hx_g L h x 10) (hi1 : 0 ≤ i1.toInt ∧ i1.toInt ≤ 39) (hi4 : 0 ≤ i4.toInt ∧ i4.toInt ≤ 99) (hi5 : 0 ≤ i5.toInt ∧ i5.toInt ≤ 99) : Met l yX10_lives (Cond.code yX10_lives cX10_lives 6 none :: hx_all) ({ frames := 0, cells := 0, slots := 0, locals := 0 }) (va_Pc [.ref x, .int i1, .int i2, .int i3, .int i4, .int i5] (hx_B T_tb (P_ty dA) (dC, dI) vwCl L h sz)) (va_Qv (fun (u : List Nat × hx_h) => hx_T T_tb u.1 u.2 ∧ hx_S T_tb [(59, 0), (60, 0), (61, 0), (62, 0)] L h u.1 u.2) (hx_E T_tb (P_ty dA) (dC, dI) vwCl (hx_A L sz)) (hx_A L sz)) 0 0 (hx_A L sz) := by
  refine hx_met (lv := [(0, .ref x), (1, .int i1), (2, .int i2), (3, .int i3), (4, .int i4), (5, .int i5)]) (by decide +kernel) rfl (Nat.le_of_ble_eq_true rfl) rfl ?_
  intro p e s m below meth c hx hb hml hr hlk hts0 hown hin hsz hW ls hl
  have hts : ∀ w ∈ hx_all, w.before _ s = true := fun w hw => hts0 w (List.mem_cons_of_mem _ hw)
  have hown : s.vm.findClass "SmallCourtModel" = some m.cls := hown
  have hM : hx_S T_tb [(59, 0), (60, 0), (61, 0), (62, 0)] L h L h := hx_S.rf
  refine lv_aload_n hx hb dX10_lives_0 rfl (lv_at hl 0 rfl) ?_
  refine hx_getn hx hb hts hC_10 hown hW hT gx tt_10 22 (by decide) rfl kw_1165 ⟨rfl, rfl, rfl⟩ dX10_lives_1 (fun q_1 fq_1 gq_1 => ?_)
  refine lv_iload_n hx hb dX10_lives_4 rfl (lv_at hl 1 rfl) ?_
  refine lv_iload_n hx hb dX10_lives_5 rfl (lv_at hl 2 rfl) ?_
  refine hx_iast hx hb hW hT (hx_S.rf (M := [(59, 0)])) gq_1 tt_59 rfl ⟨by omega, by omega⟩ rfl (i32_r _) (List.mem_singleton.mpr rfl) dX10_lives_6 (fun H locs h_2 eh_2 hW hT hs => ?_)
  have fq_1 := (hs.o gx trivial rfl).2.trans fq_1
  have hM := hM.tr (hs.mono (by decide))
  have gx := gx.S hs
  have gq_1 := gq_1.S hs
  refine lv_aload_n hx hb dX10_lives_7 rfl (lv_at hl 0 rfl) ?_
  refine hx_getn hx hb hts hC_10 hown hW hT gx tt_10 23 (by decide) rfl kw_1166 ⟨rfl, rfl, rfl⟩ dX10_lives_8 (fun q_3 fq_3 gq_3 => ?_)
  refine lv_iload_n hx hb dX10_lives_11 rfl (lv_at hl 1 rfl) ?_
  refine lv_iload_n hx hb dX10_lives_12 rfl (lv_at hl 3 rfl) ?_
  refine hx_iast hx hb hW hT (hx_S.rf (M := [(60, 0)])) gq_3 tt_60 rfl ⟨by omega, by omega⟩ rfl (i32_r _) (List.mem_singleton.mpr rfl) dX10_lives_13 (fun H locs h_4 eh_4 hW hT hs => ?_)
  have fq_1 := (hs.o gx trivial rfl).2.trans fq_1
  have fq_3 := (hs.o gx trivial rfl).2.trans fq_3
  have hM := hM.tr (hs.mono (by decide))
  have gx := gx.S hs
  have gq_1 := gq_1.S hs
  have gq_3 := gq_3.S hs
  refine lv_aload_n hx hb dX10_lives_14 rfl (lv_at hl 0 rfl) ?_
  refine hx_getn hx hb hts hC_10 hown hW hT gx tt_10 24 (by decide) rfl kw_1167 ⟨rfl, rfl, rfl⟩ dX10_lives_15 (fun q_5 fq_5 gq_5 => ?_)
  refine lv_iload_n hx hb dX10_lives_18 rfl (lv_at hl 1 rfl) ?_
  refine lv_iload hx hb dX10_lives_19 (lv_at hl 4 rfl) ?_
  refine hx_iast hx hb hW hT (hx_S.rf (M := [(61, 0)])) gq_5 tt_61 rfl ⟨by omega, by omega⟩ rfl ⟨by omega, by omega⟩ (List.mem_singleton.mpr rfl) dX10_lives_21 (fun H locs h_6 eh_6 hW hT hs => ?_)
  have fq_1 := (hs.o gx trivial rfl).2.trans fq_1
  have fq_3 := (hs.o gx trivial rfl).2.trans fq_3
  have fq_5 := (hs.o gx trivial rfl).2.trans fq_5
  have hM := hM.tr (hs.mono (by decide))
  have gx := gx.S hs
  have gq_1 := gq_1.S hs
  have gq_3 := gq_3.S hs
  have gq_5 := gq_5.S hs
  refine lv_aload_n hx hb dX10_lives_22 rfl (lv_at hl 0 rfl) ?_
  refine hx_getn hx hb hts hC_10 hown hW hT gx tt_10 25 (by decide) rfl kw_1168 ⟨rfl, rfl, rfl⟩ dX10_lives_23 (fun q_7 fq_7 gq_7 => ?_)
  refine lv_iload_n hx hb dX10_lives_26 rfl (lv_at hl 1 rfl) ?_
  refine lv_iload hx hb dX10_lives_27 (lv_at hl 5 rfl) ?_
  refine hx_iast hx hb hW hT (hx_S.rf (M := [(62, 0)])) gq_7 tt_62 rfl ⟨by omega, by omega⟩ rfl ⟨by omega, by omega⟩ (List.mem_singleton.mpr rfl) dX10_lives_29 (fun H locs h_8 eh_8 hW hT hs => ?_)
  have fq_1 := (hs.o gx trivial rfl).2.trans fq_1
  have fq_3 := (hs.o gx trivial rfl).2.trans fq_3
  have fq_5 := (hs.o gx trivial rfl).2.trans fq_5
  have fq_7 := (hs.o gx trivial rfl).2.trans fq_7
  have hM := hM.tr (hs.mono (by decide))
  have gx := gx.S hs
  have gq_1 := gq_1.S hs
  have gq_3 := gq_3.S hs
  have gq_5 := gq_5.S hs
  have gq_7 := gq_7.S hs
  exact hx_retv hx hb hr hlk hW ⟨hT, hM⟩ dX10_lives_30

theorem dX10_person_0 : decode cX10_person 0 = .ok (.aload_n 0, 1) := by decide +kernel
theorem dX10_person_1 : decode cX10_person 1 = .ok (.getfield 337, 3) := by decide +kernel
theorem dX10_person_4 : decode cX10_person 4 = .ok (.bipush 40, 2) := by decide +kernel
theorem dX10_person_6 : decode cX10_person 6 = .ok (.if_icmp .eq 39, 3) := by decide +kernel
theorem dX10_person_9 : decode cX10_person 9 = .ok (.iload_n 1, 1) := by decide +kernel
theorem dX10_person_10 : decode cX10_person 10 = .ok (.sipush (-30000), 3) := by decide +kernel
theorem dX10_person_13 : decode cX10_person 13 = .ok (.sipush 7999, 3) := by decide +kernel
theorem dX10_person_16 : decode cX10_person 16 = .ok (.invokestatic 228, 3) := by decide +kernel
theorem dX10_person_19 : decode cX10_person 19 = .ok (.ifCond .eq 26, 3) := by decide +kernel
theorem dX10_person_22 : decode cX10_person 22 = .ok (.iload_n 2, 1) := by decide +kernel
theorem dX10_person_23 : decode cX10_person 23 = .ok (.iload_n 3, 1) := by decide +kernel
theorem dX10_person_24 : decode cX10_person 24 = .ok (.iload 4, 2) := by decide +kernel
theorem dX10_person_26 : decode cX10_person 26 = .ok (.iload 5, 2) := by decide +kernel
theorem dX10_person_28 : decode cX10_person 28 = .ok (.invokestatic 340, 3) := by decide +kernel
theorem dX10_person_31 : decode cX10_person 31 = .ok (.ifCond .eq 14, 3) := by decide +kernel
theorem dX10_person_34 : decode cX10_person 34 = .ok (.iload 6, 2) := by decide +kernel
theorem dX10_person_36 : decode cX10_person 36 = .ok (.iconst (-1), 1) := by decide +kernel
theorem dX10_person_37 : decode cX10_person 37 = .ok (.bipush 19, 2) := by decide +kernel
theorem dX10_person_39 : decode cX10_person 39 = .ok (.invokestatic 228, 3) := by decide +kernel
theorem dX10_person_42 : decode cX10_person 42 = .ok (.ifCond .ne 5, 3) := by decide +kernel
theorem dX10_person_45 : decode cX10_person 45 = .ok (.iconst (-1), 1) := by decide +kernel
theorem dX10_person_46 : decode cX10_person 46 = .ok (.ireturn, 1) := by decide +kernel
theorem dX10_person_47 : decode cX10_person 47 = .ok (.aload_n 0, 1) := by decide +kernel
theorem dX10_person_48 : decode cX10_person 48 = .ok (.getfield 38, 3) := by decide +kernel
theorem dX10_person_51 : decode cX10_person 51 = .ok (.aload_n 0, 1) := by decide +kernel
theorem dX10_person_52 : decode cX10_person 52 = .ok (.getfield 337, 3) := by decide +kernel
theorem dX10_person_55 : decode cX10_person 55 = .ok (.iload_n 1, 1) := by decide +kernel
theorem dX10_person_56 : decode cX10_person 56 = .ok (.iastore, 1) := by decide +kernel
theorem dX10_person_57 : decode cX10_person 57 = .ok (.aload_n 0, 1) := by decide +kernel
theorem dX10_person_58 : decode cX10_person 58 = .ok (.getfield 53, 3) := by decide +kernel
theorem dX10_person_61 : decode cX10_person 61 = .ok (.aload_n 0, 1) := by decide +kernel
theorem dX10_person_62 : decode cX10_person 62 = .ok (.getfield 337, 3) := by decide +kernel
theorem dX10_person_65 : decode cX10_person 65 = .ok (.iload 6, 2) := by decide +kernel
theorem dX10_person_67 : decode cX10_person 67 = .ok (.iastore, 1) := by decide +kernel
theorem dX10_person_68 : decode cX10_person 68 = .ok (.aload_n 0, 1) := by decide +kernel
theorem dX10_person_69 : decode cX10_person 69 = .ok (.dup, 1) := by decide +kernel
theorem dX10_person_70 : decode cX10_person 70 = .ok (.getfield 337, 3) := by decide +kernel
theorem dX10_person_73 : decode cX10_person 73 = .ok (.iconst 1, 1) := by decide +kernel
theorem dX10_person_74 : decode cX10_person 74 = .ok (.iadd, 1) := by decide +kernel
theorem dX10_person_75 : decode cX10_person 75 = .ok (.putfield 337, 3) := by decide +kernel
theorem dX10_person_78 : decode cX10_person 78 = .ok (.aload_n 0, 1) := by decide +kernel
theorem dX10_person_79 : decode cX10_person 79 = .ok (.aload_n 0, 1) := by decide +kernel
theorem dX10_person_80 : decode cX10_person 80 = .ok (.getfield 337, 3) := by decide +kernel
theorem dX10_person_83 : decode cX10_person 83 = .ok (.iconst 1, 1) := by decide +kernel
theorem dX10_person_84 : decode cX10_person 84 = .ok (.isub, 1) := by decide +kernel
theorem dX10_person_85 : decode cX10_person 85 = .ok (.iload_n 2, 1) := by decide +kernel
theorem dX10_person_86 : decode cX10_person 86 = .ok (.iload_n 3, 1) := by decide +kernel
theorem dX10_person_87 : decode cX10_person 87 = .ok (.iload 4, 2) := by decide +kernel
theorem dX10_person_89 : decode cX10_person 89 = .ok (.iload 5, 2) := by decide +kernel
theorem dX10_person_91 : decode cX10_person 91 = .ok (.invokevirtual 344, 3) := by decide +kernel
theorem dX10_person_94 : decode cX10_person 94 = .ok (.aload_n 0, 1) := by decide +kernel
theorem dX10_person_95 : decode cX10_person 95 = .ok (.getfield 337, 3) := by decide +kernel
theorem dX10_person_98 : decode cX10_person 98 = .ok (.iconst 1, 1) := by decide +kernel
theorem dX10_person_99 : decode cX10_person 99 = .ok (.isub, 1) := by decide +kernel
theorem dX10_person_100 : decode cX10_person 100 = .ok (.ireturn, 1) := by decide +kernel
set_option maxHeartbeats 4000000 in
set_option maxRecDepth 100000 in
theorem t_X10_person (l : Launch) (dC : Nat → ClassId) (dI : Nat → Nat → Nat) (dA : Nat → ClassId) (L : List Nat) (h : hx_h) (sz : Nat) (x : Nat) (i1 : Int32) (i2 : Int32) (i3 : Int32) (i4 : Int32) (i5 : Int32) (i6 : Int32) (hT : hx_T T_tb L h) (gx : hx_g L h x 10)  : Met l yX10_person (Cond.code yX10_person cX10_person 7 (some .int) :: hx_all) ({ frames := 2, cells := 0, slots := 0, locals := 45 }) (va_Pc [.ref x, .int i1, .int i2, .int i3, .int i4, .int i5, .int i6] (hx_B T_tb (P_ty dA) (dC, dI) vwCl L h sz)) (va_Qi (fun (r : Int32) (u : List Nat × hx_h) => (True) ∧ hx_T T_tb u.1 u.2 ∧ hx_S T_tb [(10, 20), (58, 0), (59, 0), (60, 0), (61, 0), (62, 0), (63, 0)] L h u.1 u.2) (hx_E T_tb (P_ty dA) (dC, dI) vwCl (hx_A L sz)) (hx_A L sz)) 0 0 (hx_A L sz) := by
  refine hx_met (lv := [(0, .ref x), (1, .int i1), (2, .int i2), (3, .int i3), (4, .int i4), (5, .int i5), (6, .int i6)]) (by decide +kernel) rfl (Nat.le_of_ble_eq_true rfl) rfl ?_
  intro p e s m below meth c hx hb hml hr hlk hts0 hown hin hsz hW ls hl
  have hts : ∀ w ∈ hx_all, w.before _ s = true := fun w hw => hts0 w (List.mem_cons_of_mem _ hw)
  have hown : s.vm.findClass "SmallCourtModel" = some m.cls := hown
  have hM : hx_S T_tb [(10, 20), (58, 0), (59, 0), (60, 0), (61, 0), (62, 0), (63, 0)] L h L h := hx_S.rf
  refine lv_aload_n hx hb dX10_person_0 rfl (lv_at hl 0 rfl) ?_
  refine hx_geti hx hb hts hC_10 hown hW hT gx tt_10 20 (by decide) rfl kw_1163 ⟨rfl, rfl, rfl⟩ dX10_person_1 (fun x_1 ex_1 lx_1 ux_1 => ?_)
  have fx_1 := ex_1.symm
  refine lv_bipush (v := 40) hx hb dX10_person_4 (by decide) ?_
  refine hb_icmp_eq (zx := x_1.toInt) (zy := 40) (tgt := 45) hx hb rfl (by decide) dX10_person_6 (by decide) (fun c_2 => ?_) (fun c_2 => ?_)
  · skip
    refine lv_iconst (v := -1) hx hb dX10_person_45 (by decide) ?_
    exact hx_reti hx hb hr hlk hW ⟨trivial, hT, hM⟩ dX10_person_46
  · skip
    refine lv_iload_n hx hb dX10_person_9 rfl (lv_at hl 1 rfl) ?_
    refine lv_sipush (v := -30000) hx hb dX10_person_10 (by decide) ?_
    refine lv_sipush (v := 7999) hx hb dX10_person_13 (by decide) ?_
    have zc_7999 : (7999 : Int32).toInt = 7999 := by decide
    have zc_m30000 : (-30000 : Int32).toInt = -30000 := by decide
    refine hx_goi (hx_runS (As := [.int i1, .int (-30000 : Int32), .int (7999 : Int32)]) (rest := []) ⟨hx, hb, hml, hown, hts⟩ hW (t_X10_in l dC dI dA L h s.heap.size i1 (-30000 : Int32) (7999 : Int32) hT) (va_cwS 3 hts (hx_gS kw_1445 kw_1443 kw_1444 kw_103) rfl rfl rfl (by decide +kernel) ⟨Nat.le_of_ble_eq_true rfl, Nat.le_of_ble_eq_true rfl⟩) rfl hl.1 rfl (Nat.le_of_ble_eq_true rfl) dX10_person_16 ⟨Nat.le_of_ble_eq_true rfl, Nat.le_of_ble_eq_true rfl⟩) hW (fun r_5 L_3 h_4 H locs p_6 hW => ?_)
    obtain ⟨hr_7, hT, hs⟩ := p_6
    have hT : hx_T T_tb L_3 h_4 := hT
    have hs : hx_S T_tb [] L h L_3 h_4 := hs
    have fx_1 := (hs.o gx trivial rfl).1.trans fx_1
    have hM := hM.tr (hs.mono (by decide))
    have gx := gx.S hs
    refine hb_if_eq (zx := r_5.toInt) (tgt := 45) hx hb rfl dX10_person_19 (by decide) (fun c_8 => ?_) (fun c_8 => ?_)
    · skip
      refine lv_iconst (v := -1) hx hb dX10_person_45 (by decide) ?_
      exact hx_reti hx hb hr hlk hW ⟨trivial, hT, hM⟩ dX10_person_46
    · skip
      refine lv_iload_n hx hb dX10_person_22 rfl (lv_at hl 2 rfl) ?_
      refine lv_iload_n hx hb dX10_person_23 rfl (lv_at hl 3 rfl) ?_
      refine lv_iload hx hb dX10_person_24 (lv_at hl 4 rfl) ?_
      refine lv_iload hx hb dX10_person_26 (lv_at hl 5 rfl) ?_
      refine hx_goi (hx_runS (As := [.int i2, .int i3, .int i4, .int i5]) (rest := []) ⟨hx, hb, hml, hown, hts⟩ hW (t_X10_areLives l dC dI dA L_3 h_4 H.size i2 i3 i4 i5 hT) (va_cwS 4 hts (hx_gS kw_1540 kw_1538 kw_1539 kw_103) rfl rfl rfl (by decide +kernel) ⟨Nat.le_of_ble_eq_true rfl, Nat.le_of_ble_eq_true rfl⟩) rfl hl.1 rfl (Nat.le_of_ble_eq_true rfl) dX10_person_28 ⟨Nat.le_of_ble_eq_true rfl, Nat.le_of_ble_eq_true rfl⟩) hW (fun r_11 L_9 h_10 H locs p_12 hW => ?_)
      obtain ⟨hr_13, hT, hs⟩ := p_12
      have hT : hx_T T_tb L_9 h_10 := hT
      have hs : hx_S T_tb [] L_3 h_4 L_9 h_10 := hs
      have fx_1 := (hs.o gx trivial rfl).1.trans fx_1
      have hM := hM.tr (hs.mono (by decide))
      have gx := gx.S hs
      refine hb_if_eq (zx := r_11.toInt) (tgt := 45) hx hb rfl dX10_person_31 (by decide) (fun c_14 => ?_) (fun c_14 => ?_)
      · skip
        refine lv_iconst (v := -1) hx hb dX10_person_45 (by decide) ?_
        exact hx_reti hx hb hr hlk hW ⟨trivial, hT, hM⟩ dX10_person_46
      · skip
        refine lv_iload hx hb dX10_person_34 (lv_at hl 6 rfl) ?_
        refine lv_iconst (v := -1) hx hb dX10_person_36 (by decide) ?_
        refine lv_bipush (v := 19) hx hb dX10_person_37 (by decide) ?_
        have zc_19 : (19 : Int32).toInt = 19 := by decide
        have zc_m1 : (-1 : Int32).toInt = -1 := by decide
        refine hx_goi (hx_runS (As := [.int i6, .int (-1 : Int32), .int (19 : Int32)]) (rest := []) ⟨hx, hb, hml, hown, hts⟩ hW (t_X10_in l dC dI dA L_9 h_10 H.size i6 (-1 : Int32) (19 : Int32) hT) (va_cwS 3 hts (hx_gS kw_1445 kw_1443 kw_1444 kw_103) rfl rfl rfl (by decide +kernel) ⟨Nat.le_of_ble_eq_true rfl, Nat.le_of_ble_eq_true rfl⟩) rfl hl.1 rfl (Nat.le_of_ble_eq_true rfl) dX10_person_39 ⟨Nat.le_of_ble_eq_true rfl, Nat.le_of_ble_eq_true rfl⟩) hW (fun r_17 L_15 h_16 H locs p_18 hW => ?_)
        obtain ⟨hr_19, hT, hs⟩ := p_18
        have hT : hx_T T_tb L_15 h_16 := hT
        have hs : hx_S T_tb [] L_9 h_10 L_15 h_16 := hs
        have fx_1 := (hs.o gx trivial rfl).1.trans fx_1
        have hM := hM.tr (hs.mono (by decide))
        have gx := gx.S hs
        refine hb_if_ne (zx := r_17.toInt) (tgt := 47) hx hb rfl dX10_person_42 (by decide) (fun c_20 => ?_) (fun c_20 => ?_)
        · skip
          refine lv_aload_n hx hb dX10_person_47 rfl (lv_at hl 0 rfl) ?_
          refine hx_getn hx hb hts hC_10 hown hW hT gx tt_10 21 (by decide) rfl kw_1164 ⟨rfl, rfl, rfl⟩ dX10_person_48 (fun q_21 fq_21 gq_21 => ?_)
          refine lv_aload_n hx hb dX10_person_51 rfl (lv_at hl 0 rfl) ?_
          refine hk_geti hx hb hts hC_10 hown hW gx tt_10 20 (by decide) rfl kw_1163 ⟨rfl, rfl, rfl⟩ fx_1 dX10_person_52 ?_
          refine lv_iload_n hx hb dX10_person_55 rfl (lv_at hl 1 rfl) ?_
          refine hx_iast hx hb hW hT (hx_S.rf (M := [(58, 0)])) gq_21 tt_58 rfl ⟨by omega, by omega⟩ rfl (i32_r _) (List.mem_singleton.mpr rfl) dX10_person_56 (fun H locs h_22 eh_22 hW hT hs => ?_)
          have fx_1 := (hs.o gx trivial rfl).1.trans fx_1
          have fq_21 := (hs.o gx trivial rfl).2.trans fq_21
          have hM := hM.tr (hs.mono (by decide))
          have gx := gx.S hs
          have gq_21 := gq_21.S hs
          refine lv_aload_n hx hb dX10_person_57 rfl (lv_at hl 0 rfl) ?_
          refine hx_getn hx hb hts hC_10 hown hW hT gx tt_10 26 (by decide) rfl kw_1169 ⟨rfl, rfl, rfl⟩ dX10_person_58 (fun q_23 fq_23 gq_23 => ?_)
          refine lv_aload_n hx hb dX10_person_61 rfl (lv_at hl 0 rfl) ?_
          refine hk_geti hx hb hts hC_10 hown hW gx tt_10 20 (by decide) rfl kw_1163 ⟨rfl, rfl, rfl⟩ fx_1 dX10_person_62 ?_
          refine lv_iload hx hb dX10_person_65 (lv_at hl 6 rfl) ?_
          refine hx_iast hx hb hW hT (hx_S.rf (M := [(63, 0)])) gq_23 tt_63 rfl ⟨by omega, by omega⟩ rfl (i32_r _) (List.mem_singleton.mpr rfl) dX10_person_67 (fun H locs h_24 eh_24 hW hT hs => ?_)
          have fx_1 := (hs.o gx trivial rfl).1.trans fx_1
          have fq_21 := (hs.o gx trivial rfl).2.trans fq_21
          have fq_23 := (hs.o gx trivial rfl).2.trans fq_23
          have hM := hM.tr (hs.mono (by decide))
          have gx := gx.S hs
          have gq_21 := gq_21.S hs
          have gq_23 := gq_23.S hs
          refine lv_aload_n hx hb dX10_person_68 rfl (lv_at hl 0 rfl) ?_
          refine lv_dup hx hb dX10_person_69 rfl ?_
          refine hk_geti hx hb hts hC_10 hown hW gx tt_10 20 (by decide) rfl kw_1163 ⟨rfl, rfl, rfl⟩ fx_1 dX10_person_70 ?_
          refine lv_iconst (v := 1) hx hb dX10_person_73 (by decide) ?_
          refine lv_iadd hx hb dX10_person_74 ?_
          have rg_25 := i32_r x_1
          refine lv_topi (fun x_26 ex_26 => ?_)
          have zx_26 : x_26.toInt = x_1.toInt + 1 := by rw [ex_26]; exact i32_add rfl (by decide) (by omega) (by omega)
          refine hx_puti hx hb hts hC_10 hown hW hT (hx_S.rf (M := [(10, 20)])) gx tt_10 20 (by decide) rfl kw_1163 ⟨rfl, rfl, rfl⟩ rfl (x := x_26) ⟨by omega, by omega⟩ rfl rfl rfl (List.mem_singleton.mpr rfl) dX10_person_75 (fun H locs h_27 eh_27 hW hT hs => ?_)
          have fq_21 := (hs.o gx trivial rfl).2.trans fq_21
          have fq_23 := (hs.o gx trivial rfl).2.trans fq_23
          have hM := hM.tr (hs.mono (by decide))
          have gx := gx.S hs
          have gq_21 := gq_21.S hs
          have gq_23 := gq_23.S hs
          have f_28 : h_27.2.1 x 20 = x_26 := by rw [eh_27]; exact hx_pi_at _ _ _ _
          refine lv_aload_n hx hb dX10_person_78 rfl (lv_at hl 0 rfl) ?_
          refine lv_aload_n hx hb dX10_person_79 rfl (lv_at hl 0 rfl) ?_
          refine hk_geti hx hb hts hC_10 hown hW gx tt_10 20 (by decide) rfl kw_1163 ⟨rfl, rfl, rfl⟩ f_28 dX10_person_80 ?_
          refine lv_iconst (v := 1) hx hb dX10_person_83 (by decide) ?_
          refine lv_isub hx hb dX10_person_84 ?_
          have rg_29 := i32_r x_26
          refine lv_topi (fun x_30 ex_30 => ?_)
          have zx_30 : x_30.toInt = x_26.toInt - 1 := by rw [ex_30]; exact i32_sub rfl (by decide) (by omega) (by omega)
          refine lv_iload_n hx hb dX10_person_85 rfl (lv_at hl 2 rfl) ?_
          refine lv_iload_n hx hb dX10_person_86 rfl (lv_at hl 3 rfl) ?_
          refine lv_iload hx hb dX10_person_87 (lv_at hl 4 rfl) ?_
          refine lv_iload hx hb dX10_person_89 (lv_at hl 5 rfl) ?_
          refine hx_gov (hx_runV (As := [.int x_30, .int i2, .int i3, .int i4, .int i5]) (rest := []) ⟨hx, hb, hml, hown, hts⟩ hW gx tt_10 (T := TX10) (N := 98) rfl (t_X10_lives l dC dI dA L_15 h_27 H.size x x_30 i2 i3 i4 i5 hT gx ⟨by omega, by omega⟩ ⟨by omega, by omega⟩ ⟨by omega, by omega⟩) (cwV 5 hts (hx_gV kw_1544 kw_1541 kw_1543 kw_67 kw_103) rfl rfl rfl (by decide +kernel) ⟨Nat.le_of_ble_eq_true rfl, Nat.le_of_ble_eq_true rfl⟩) rfl hl.1 rfl (Nat.le_of_ble_eq_true rfl) dX10_person_91 ⟨Nat.le_of_ble_eq_true rfl, Nat.le_of_ble_eq_true rfl⟩) hW (fun L_31 h_32 H locs p_34 hW => ?_)
          obtain ⟨hT, hs⟩ := p_34
          have hT : hx_T T_tb L_31 h_32 := hT
          have hs : hx_S T_tb [(59, 0), (60, 0), (61, 0), (62, 0)] L_15 h_27 L_31 h_32 := hs
          have fq_21 := (hs.o gx trivial rfl).2.trans fq_21
          have fq_23 := (hs.o gx trivial rfl).2.trans fq_23
          have f_28 := (hs.o gx trivial rfl).1.trans f_28
          have hM := hM.tr (hs.mono (by decide))
          have gx := gx.S hs
          have gq_21 := gq_21.S hs
          have gq_23 := gq_23.S hs
          refine lv_aload_n hx hb dX10_person_94 rfl (lv_at hl 0 rfl) ?_
          refine hk_geti hx hb hts hC_10 hown hW gx tt_10 20 (by decide) rfl kw_1163 ⟨rfl, rfl, rfl⟩ f_28 dX10_person_95 ?_
          refine lv_iconst (v := 1) hx hb dX10_person_98 (by decide) ?_
          refine lv_isub hx hb dX10_person_99 ?_
          refine lv_topi (fun x_36 ex_36 => ?_)
          have zx_36 : x_36.toInt = x_26.toInt - 1 := by rw [ex_36]; exact i32_sub rfl (by decide) (by omega) (by omega)
          exact hx_reti hx hb hr hlk hW ⟨trivial, hT, hM⟩ dX10_person_100
        · skip
          refine lv_iconst (v := -1) hx hb dX10_person_45 (by decide) ?_
          exact hx_reti hx hb hr hlk hW ⟨trivial, hT, hM⟩ dX10_person_46

theorem dX10_anew_0 : decode cX10_anew 0 = .ok (.aload_n 0, 1) := by decide +kernel
theorem dX10_anew_1 : decode cX10_anew 1 = .ok (.iload_n 1, 1) := by decide +kernel
theorem dX10_anew_2 : decode cX10_anew 2 = .ok (.invokevirtual 348, 3) := by decide +kernel
theorem dX10_anew_5 : decode cX10_anew 5 = .ok (.ifCond .eq 24, 3) := by decide +kernel
theorem dX10_anew_8 : decode cX10_anew 8 = .ok (.aload_n 0, 1) := by decide +kernel
theorem dX10_anew_9 : decode cX10_anew 9 = .ok (.getfield 56, 3) := by decide +kernel
theorem dX10_anew_12 : decode cX10_anew 12 = .ok (.iload_n 1, 1) := by decide +kernel
theorem dX10_anew_13 : decode cX10_anew 13 = .ok (.baload, 1) := by decide +kernel
theorem dX10_anew_14 : decode cX10_anew 14 = .ok (.ifCond .ne 15, 3) := by decide +kernel
theorem dX10_anew_17 : decode cX10_anew 17 = .ok (.iload_n 2, 1) := by decide +kernel
theorem dX10_anew_18 : decode cX10_anew 18 = .ok (.iload_n 3, 1) := by decide +kernel
theorem dX10_anew_19 : decode cX10_anew 19 = .ok (.iload 4, 2) := by decide +kernel
theorem dX10_anew_21 : decode cX10_anew 21 = .ok (.iload 5, 2) := by decide +kernel
theorem dX10_anew_23 : decode cX10_anew 23 = .ok (.invokestatic 340, 3) := by decide +kernel
theorem dX10_anew_26 : decode cX10_anew 26 = .ok (.ifCond .ne 5, 3) := by decide +kernel
theorem dX10_anew_29 : decode cX10_anew 29 = .ok (.iconst 0, 1) := by decide +kernel
theorem dX10_anew_30 : decode cX10_anew 30 = .ok (.ireturn, 1) := by decide +kernel
theorem dX10_anew_31 : decode cX10_anew 31 = .ok (.aload_n 0, 1) := by decide +kernel
theorem dX10_anew_32 : decode cX10_anew 32 = .ok (.iload_n 1, 1) := by decide +kernel
theorem dX10_anew_33 : decode cX10_anew 33 = .ok (.iload_n 2, 1) := by decide +kernel
theorem dX10_anew_34 : decode cX10_anew 34 = .ok (.iload_n 3, 1) := by decide +kernel
theorem dX10_anew_35 : decode cX10_anew 35 = .ok (.iload 4, 2) := by decide +kernel
theorem dX10_anew_37 : decode cX10_anew 37 = .ok (.iload 5, 2) := by decide +kernel
theorem dX10_anew_39 : decode cX10_anew 39 = .ok (.invokevirtual 344, 3) := by decide +kernel
theorem dX10_anew_42 : decode cX10_anew 42 = .ok (.iconst 1, 1) := by decide +kernel
theorem dX10_anew_43 : decode cX10_anew 43 = .ok (.ireturn, 1) := by decide +kernel
set_option maxHeartbeats 4000000 in
set_option maxRecDepth 100000 in
theorem t_X10_anew (l : Launch) (dC : Nat → ClassId) (dI : Nat → Nat → Nat) (dA : Nat → ClassId) (L : List Nat) (h : hx_h) (sz : Nat) (x : Nat) (i1 : Int32) (i2 : Int32) (i3 : Int32) (i4 : Int32) (i5 : Int32) (hT : hx_T T_tb L h) (gx : hx_g L h x 10)  : Met l yX10_anew (Cond.code yX10_anew cX10_anew 6 (some .boolean) :: hx_all) ({ frames := 2, cells := 0, slots := 0, locals := 45 }) (va_Pc [.ref x, .int i1, .int i2, .int i3, .int i4, .int i5] (hx_B T_tb (P_ty dA) (dC, dI) vwCl L h sz)) (va_Qi (fun (r : Int32) (u : List Nat × hx_h) => (r.toInt = 0 ∨ r.toInt = 1) ∧ hx_T T_tb u.1 u.2 ∧ hx_S T_tb [(59, 0), (60, 0), (61, 0), (62, 0)] L h u.1 u.2) (hx_E T_tb (P_ty dA) (dC, dI) vwCl (hx_A L sz)) (hx_A L sz)) 0 0 (hx_A L sz) := by
  refine hx_met (lv := [(0, .ref x), (1, .int i1), (2, .int i2), (3, .int i3), (4, .int i4), (5, .int i5)]) (by decide +kernel) rfl (Nat.le_of_ble_eq_true rfl) rfl ?_
  intro p e s m below meth c hx hb hml hr hlk hts0 hown hin hsz hW ls hl
  have hts : ∀ w ∈ hx_all, w.before _ s = true := fun w hw => hts0 w (List.mem_cons_of_mem _ hw)
  have hown : s.vm.findClass "SmallCourtModel" = some m.cls := hown
  have hM : hx_S T_tb [(59, 0), (60, 0), (61, 0), (62, 0)] L h L h := hx_S.rf
  refine lv_aload_n hx hb dX10_anew_0 rfl (lv_at hl 0 rfl) ?_
  refine lv_iload_n hx hb dX10_anew_1 rfl (lv_at hl 1 rfl) ?_
  obtain ⟨fv_1, efv_1⟩ : ∃ y : Int32, y = h.2.1 x 20 := ⟨_, rfl⟩
  have bfv_1 := hT.gi gx tt_10 (k := 20) rfl
  rw [← efv_1] at bfv_1
  have bfv_1 : 0 ≤ fv_1.toInt ∧ fv_1.toInt ≤ 40 := bfv_1
  have ffv_1 := efv_1.symm
  refine hx_goi (hx_runV (As := [.int i1]) (rest := []) ⟨hx, hb, hml, hown, hts⟩ hW gx tt_10 (T := TX10) (N := 98) rfl (t_X10_isPerson l dC dI dA L h s.heap.size x i1 hT gx fv_1 ffv_1) (cwV 1 hts (hx_gV kw_1552 kw_1549 kw_1551 kw_68 kw_103) rfl rfl rfl (by decide +kernel) ⟨Nat.le_of_ble_eq_true rfl, Nat.le_of_ble_eq_true rfl⟩) rfl hl.1 rfl (Nat.le_of_ble_eq_true rfl) dX10_anew_2 ⟨Nat.le_of_ble_eq_true rfl, Nat.le_of_ble_eq_true rfl⟩) hW (fun r_4 L_2 h_3 H locs p_5 hW => ?_)
  obtain ⟨hr_6, hT, hs⟩ := p_5
  have hT : hx_T T_tb L_2 h_3 := hT
  have hs : hx_S T_tb [] L h L_2 h_3 := hs
  have ffv_1 := (hs.o gx trivial rfl).1.trans ffv_1
  have hM := hM.tr (hs.mono (by decide))
  have gx := gx.S hs
  refine hb_if_eq (zx := r_4.toInt) (tgt := 29) hx hb rfl dX10_anew_5 (by decide) (fun c_7 => ?_) (fun c_7 => ?_)
  · skip
    refine lv_iconst (v := 0) hx hb dX10_anew_29 (by decide) ?_
    exact hx_retz hx hb hr rfl hlk hW ⟨(by decide), hT, hM⟩ dX10_anew_30
  · skip
    refine lv_aload_n hx hb dX10_anew_8 rfl (lv_at hl 0 rfl) ?_
    refine hx_getn hx hb hts hC_10 hown hW hT gx tt_10 27 (by decide) rfl kw_1170 ⟨rfl, rfl, rfl⟩ dX10_anew_9 (fun q_8 fq_8 gq_8 => ?_)
    refine lv_iload_n hx hb dX10_anew_12 rfl (lv_at hl 1 rfl) ?_
    refine hx_zald hx hb hW hT gq_8 tt_64 rfl ⟨by omega, by omega⟩ dX10_anew_13 (fun x_9 ex_9 lx_9 ux_9 => ?_)
    refine hb_if_ne (zx := x_9.toInt) (tgt := 29) hx hb rfl dX10_anew_14 (by decide) (fun c_10 => ?_) (fun c_10 => ?_)
    · skip
      refine lv_iconst (v := 0) hx hb dX10_anew_29 (by decide) ?_
      exact hx_retz hx hb hr rfl hlk hW ⟨(by decide), hT, hM⟩ dX10_anew_30
    · skip
      refine lv_iload_n hx hb dX10_anew_17 rfl (lv_at hl 2 rfl) ?_
      refine lv_iload_n hx hb dX10_anew_18 rfl (lv_at hl 3 rfl) ?_
      refine lv_iload hx hb dX10_anew_19 (lv_at hl 4 rfl) ?_
      refine lv_iload hx hb dX10_anew_21 (lv_at hl 5 rfl) ?_
      refine hx_goi (hx_runS (As := [.int i2, .int i3, .int i4, .int i5]) (rest := []) ⟨hx, hb, hml, hown, hts⟩ hW (t_X10_areLives l dC dI dA L_2 h_3 H.size i2 i3 i4 i5 hT) (va_cwS 4 hts (hx_gS kw_1540 kw_1538 kw_1539 kw_103) rfl rfl rfl (by decide +kernel) ⟨Nat.le_of_ble_eq_true rfl, Nat.le_of_ble_eq_true rfl⟩) rfl hl.1 rfl (Nat.le_of_ble_eq_true rfl) dX10_anew_23 ⟨Nat.le_of_ble_eq_true rfl, Nat.le_of_ble_eq_true rfl⟩) hW (fun r_13 L_11 h_12 H locs p_14 hW => ?_)
      obtain ⟨hr_15, hT, hs⟩ := p_14
      have hT : hx_T T_tb L_11 h_12 := hT
      have hs : hx_S T_tb [] L_2 h_3 L_11 h_12 := hs
      have ffv_1 := (hs.o gx trivial rfl).1.trans ffv_1
      have fq_8 := (hs.o gx trivial rfl).2.trans fq_8
      have ex_9 := ex_9.trans (hs.a gq_8 rfl _).1.symm
      have hM := hM.tr (hs.mono (by decide))
      have gx := gx.S hs
      have gq_8 := gq_8.S hs
      refine hb_if_ne (zx := r_13.toInt) (tgt := 31) hx hb rfl dX10_anew_26 (by decide) (fun c_16 => ?_) (fun c_16 => ?_)
      · skip
        refine lv_aload_n hx hb dX10_anew_31 rfl (lv_at hl 0 rfl) ?_
        refine lv_iload_n hx hb dX10_anew_32 rfl (lv_at hl 1 rfl) ?_
        refine lv_iload_n hx hb dX10_anew_33 rfl (lv_at hl 2 rfl) ?_
        refine lv_iload_n hx hb dX10_anew_34 rfl (lv_at hl 3 rfl) ?_
        refine lv_iload hx hb dX10_anew_35 (lv_at hl 4 rfl) ?_
        refine lv_iload hx hb dX10_anew_37 (lv_at hl 5 rfl) ?_
        refine hx_gov (hx_runV (As := [.int i1, .int i2, .int i3, .int i4, .int i5]) (rest := []) ⟨hx, hb, hml, hown, hts⟩ hW gx tt_10 (T := TX10) (N := 98) rfl (t_X10_lives l dC dI dA L_11 h_12 H.size x i1 i2 i3 i4 i5 hT gx ⟨by omega, by omega⟩ ⟨by omega, by omega⟩ ⟨by omega, by omega⟩) (cwV 5 hts (hx_gV kw_1544 kw_1541 kw_1543 kw_67 kw_103) rfl rfl rfl (by decide +kernel) ⟨Nat.le_of_ble_eq_true rfl, Nat.le_of_ble_eq_true rfl⟩) rfl hl.1 rfl (Nat.le_of_ble_eq_true rfl) dX10_anew_39 ⟨Nat.le_of_ble_eq_true rfl, Nat.le_of_ble_eq_true rfl⟩) hW (fun L_17 h_18 H locs p_20 hW => ?_)
        obtain ⟨hT, hs⟩ := p_20
        have hT : hx_T T_tb L_17 h_18 := hT
        have hs : hx_S T_tb [(59, 0), (60, 0), (61, 0), (62, 0)] L_11 h_12 L_17 h_18 := hs
        have ffv_1 := (hs.o gx trivial rfl).1.trans ffv_1
        have fq_8 := (hs.o gx trivial rfl).2.trans fq_8
        have ex_9 := ex_9.trans (hs.a gq_8 rfl _).1.symm
        have hM := hM.tr (hs.mono (by decide))
        have gx := gx.S hs
        have gq_8 := gq_8.S hs
        refine lv_iconst (v := 1) hx hb dX10_anew_42 (by decide) ?_
        exact hx_retz hx hb hr rfl hlk hW ⟨(by decide), hT, hM⟩ dX10_anew_43
      · skip
        refine lv_iconst (v := 0) hx hb dX10_anew_29 (by decide) ?_
        exact hx_retz hx hb hr rfl hlk hW ⟨(by decide), hT, hM⟩ dX10_anew_30

theorem dX10_dies_0 : decode cX10_dies 0 = .ok (.aload_n 0, 1) := by decide +kernel
theorem dX10_dies_1 : decode cX10_dies 1 = .ok (.iload_n 1, 1) := by decide +kernel
theorem dX10_dies_2 : decode cX10_dies 2 = .ok (.invokevirtual 348, 3) := by decide +kernel
theorem dX10_dies_5 : decode cX10_dies 5 = .ok (.ifCond .eq 12, 3) := by decide +kernel
theorem dX10_dies_8 : decode cX10_dies 8 = .ok (.aload_n 0, 1) := by decide +kernel
theorem dX10_dies_9 : decode cX10_dies 9 = .ok (.getfield 56, 3) := by decide +kernel
theorem dX10_dies_12 : decode cX10_dies 12 = .ok (.iload_n 1, 1) := by decide +kernel
theorem dX10_dies_13 : decode cX10_dies 13 = .ok (.baload, 1) := by decide +kernel
theorem dX10_dies_14 : decode cX10_dies 14 = .ok (.ifCond .eq 5, 3) := by decide +kernel
theorem dX10_dies_17 : decode cX10_dies 17 = .ok (.iconst 0, 1) := by decide +kernel
theorem dX10_dies_18 : decode cX10_dies 18 = .ok (.ireturn, 1) := by decide +kernel
theorem dX10_dies_19 : decode cX10_dies 19 = .ok (.aload_n 0, 1) := by decide +kernel
theorem dX10_dies_20 : decode cX10_dies 20 = .ok (.getfield 56, 3) := by decide +kernel
theorem dX10_dies_23 : decode cX10_dies 23 = .ok (.iload_n 1, 1) := by decide +kernel
theorem dX10_dies_24 : decode cX10_dies 24 = .ok (.iconst 1, 1) := by decide +kernel
theorem dX10_dies_25 : decode cX10_dies 25 = .ok (.bastore, 1) := by decide +kernel
theorem dX10_dies_26 : decode cX10_dies 26 = .ok (.iconst 1, 1) := by decide +kernel
theorem dX10_dies_27 : decode cX10_dies 27 = .ok (.ireturn, 1) := by decide +kernel
set_option maxHeartbeats 4000000 in
set_option maxRecDepth 100000 in
theorem t_X10_dies (l : Launch) (dC : Nat → ClassId) (dI : Nat → Nat → Nat) (dA : Nat → ClassId) (L : List Nat) (h : hx_h) (sz : Nat) (x : Nat) (i1 : Int32) (hT : hx_T T_tb L h) (gx : hx_g L h x 10)  : Met l yX10_dies (Cond.code yX10_dies cX10_dies 2 (some .boolean) :: hx_all) ({ frames := 2, cells := 0, slots := 0, locals := 43 }) (va_Pc [.ref x, .int i1] (hx_B T_tb (P_ty dA) (dC, dI) vwCl L h sz)) (va_Qi (fun (r : Int32) (u : List Nat × hx_h) => (r.toInt = 0 ∨ r.toInt = 1) ∧ hx_T T_tb u.1 u.2 ∧ hx_S T_tb [(64, 0)] L h u.1 u.2) (hx_E T_tb (P_ty dA) (dC, dI) vwCl (hx_A L sz)) (hx_A L sz)) 0 0 (hx_A L sz) := by
  refine hx_met (lv := [(0, .ref x), (1, .int i1)]) (by decide +kernel) rfl (Nat.le_of_ble_eq_true rfl) rfl ?_
  intro p e s m below meth c hx hb hml hr hlk hts0 hown hin hsz hW ls hl
  have hts : ∀ w ∈ hx_all, w.before _ s = true := fun w hw => hts0 w (List.mem_cons_of_mem _ hw)
  have hown : s.vm.findClass "SmallCourtModel" = some m.cls := hown
  have hM : hx_S T_tb [(64, 0)] L h L h := hx_S.rf
  refine lv_aload_n hx hb dX10_dies_0 rfl (lv_at hl 0 rfl) ?_
  refine lv_iload_n hx hb dX10_dies_1 rfl (lv_at hl 1 rfl) ?_
  obtain ⟨fv_1, efv_1⟩ : ∃ y : Int32, y = h.2.1 x 20 := ⟨_, rfl⟩
  have bfv_1 := hT.gi gx tt_10 (k := 20) rfl
  rw [← efv_1] at bfv_1
  have bfv_1 : 0 ≤ fv_1.toInt ∧ fv_1.toInt ≤ 40 := bfv_1
  have ffv_1 := efv_1.symm
  refine hx_goi (hx_runV (As := [.int i1]) (rest := []) ⟨hx, hb, hml, hown, hts⟩ hW gx tt_10 (T := TX10) (N := 98) rfl (t_X10_isPerson l dC dI dA L h s.heap.size x i1 hT gx fv_1 ffv_1) (cwV 1 hts (hx_gV kw_1552 kw_1549 kw_1551 kw_68 kw_103) rfl rfl rfl (by decide +kernel) ⟨Nat.le_of_ble_eq_true rfl, Nat.le_of_ble_eq_true rfl⟩) rfl hl.1 rfl (Nat.le_of_ble_eq_true rfl) dX10_dies_2 ⟨Nat.le_of_ble_eq_true rfl, Nat.le_of_ble_eq_true rfl⟩) hW (fun r_4 L_2 h_3 H locs p_5 hW => ?_)
  obtain ⟨hr_6, hT, hs⟩ := p_5
  have hT : hx_T T_tb L_2 h_3 := hT
  have hs : hx_S T_tb [] L h L_2 h_3 := hs
  have ffv_1 := (hs.o gx trivial rfl).1.trans ffv_1
  have hM := hM.tr (hs.mono (by decide))
  have gx := gx.S hs
  refine hb_if_eq (zx := r_4.toInt) (tgt := 17) hx hb rfl dX10_dies_5 (by decide) (fun c_7 => ?_) (fun c_7 => ?_)
  · skip
    refine lv_iconst (v := 0) hx hb dX10_dies_17 (by decide) ?_
    exact hx_retz hx hb hr rfl hlk hW ⟨(by decide), hT, hM⟩ dX10_dies_18
  · skip
    refine lv_aload_n hx hb dX10_dies_8 rfl (lv_at hl 0 rfl) ?_
    refine hx_getn hx hb hts hC_10 hown hW hT gx tt_10 27 (by decide) rfl kw_1170 ⟨rfl, rfl, rfl⟩ dX10_dies_9 (fun q_8 fq_8 gq_8 => ?_)
    refine lv_iload_n hx hb dX10_dies_12 rfl (lv_at hl 1 rfl) ?_
    refine hx_zald hx hb hW hT gq_8 tt_64 rfl ⟨by omega, by omega⟩ dX10_dies_13 (fun x_9 ex_9 lx_9 ux_9 => ?_)
    refine hb_if_eq (zx := x_9.toInt) (tgt := 19) hx hb rfl dX10_dies_14 (by decide) (fun c_10 => ?_) (fun c_10 => ?_)
    · skip
      refine lv_aload_n hx hb dX10_dies_19 rfl (lv_at hl 0 rfl) ?_
      refine hk_getr hx hb hts hC_10 hown hW gx tt_10 27 (by decide) rfl kw_1170 ⟨rfl, rfl, rfl⟩ fq_8 dX10_dies_20 ?_
      refine lv_iload_n hx hb dX10_dies_23 rfl (lv_at hl 1 rfl) ?_
      refine lv_iconst (v := 1) hx hb dX10_dies_24 (by decide) ?_
      refine hx_zast hx hb hW hT (hx_S.rf (M := [(64, 0)])) gq_8 tt_64 rfl ⟨by omega, by omega⟩ (y := 1) (by decide) (by decide) (List.mem_singleton.mpr rfl) dX10_dies_25 (fun H locs h_11 eh_11 hW hT hs => ?_)
      have ffv_1 := (hs.o gx trivial rfl).1.trans ffv_1
      have fq_8 := (hs.o gx trivial rfl).2.trans fq_8
      have hM := hM.tr (hs.mono (by decide))
      have gx := gx.S hs
      have gq_8 := gq_8.S hs
      refine lv_iconst (v := 1) hx hb dX10_dies_26 (by decide) ?_
      exact hx_retz hx hb hr rfl hlk hW ⟨(by decide), hT, hM⟩ dX10_dies_27
    · skip
      refine lv_iconst (v := 0) hx hb dX10_dies_17 (by decide) ?_
      exact hx_retz hx hb hr rfl hlk hW ⟨(by decide), hT, hM⟩ dX10_dies_18

theorem dX10_judge_0 : decode cX10_judge 0 = .ok (.aload_n 0, 1) := by decide +kernel
theorem dX10_judge_1 : decode cX10_judge 1 = .ok (.iload_n 1, 1) := by decide +kernel
theorem dX10_judge_2 : decode cX10_judge 2 = .ok (.invokevirtual 348, 3) := by decide +kernel
theorem dX10_judge_5 : decode cX10_judge 5 = .ok (.ifCond .eq 13, 3) := by decide +kernel
theorem dX10_judge_8 : decode cX10_judge 8 = .ok (.aload_n 0, 1) := by decide +kernel
theorem dX10_judge_9 : decode cX10_judge 9 = .ok (.getfield 60, 3) := by decide +kernel
theorem dX10_judge_12 : decode cX10_judge 12 = .ok (.iload_n 1, 1) := by decide +kernel
theorem dX10_judge_13 : decode cX10_judge 13 = .ok (.baload, 1) := by decide +kernel
theorem dX10_judge_14 : decode cX10_judge 14 = .ok (.iload_n 2, 1) := by decide +kernel
theorem dX10_judge_15 : decode cX10_judge 15 = .ok (.if_icmp .ne 5, 3) := by decide +kernel
theorem dX10_judge_18 : decode cX10_judge 18 = .ok (.iconst 0, 1) := by decide +kernel
theorem dX10_judge_19 : decode cX10_judge 19 = .ok (.ireturn, 1) := by decide +kernel
theorem dX10_judge_20 : decode cX10_judge 20 = .ok (.aload_n 0, 1) := by decide +kernel
theorem dX10_judge_21 : decode cX10_judge 21 = .ok (.getfield 60, 3) := by decide +kernel
theorem dX10_judge_24 : decode cX10_judge 24 = .ok (.iload_n 1, 1) := by decide +kernel
theorem dX10_judge_25 : decode cX10_judge 25 = .ok (.iload_n 2, 1) := by decide +kernel
theorem dX10_judge_26 : decode cX10_judge 26 = .ok (.bastore, 1) := by decide +kernel
theorem dX10_judge_27 : decode cX10_judge 27 = .ok (.iconst 1, 1) := by decide +kernel
theorem dX10_judge_28 : decode cX10_judge 28 = .ok (.ireturn, 1) := by decide +kernel
set_option maxHeartbeats 4000000 in
set_option maxRecDepth 100000 in
theorem t_X10_judge (l : Launch) (dC : Nat → ClassId) (dI : Nat → Nat → Nat) (dA : Nat → ClassId) (L : List Nat) (h : hx_h) (sz : Nat) (x : Nat) (i1 : Int32) (i2 : Int32) (hT : hx_T T_tb L h) (gx : hx_g L h x 10)  : Met l yX10_judge (Cond.code yX10_judge cX10_judge 3 (some .boolean) :: hx_all) ({ frames := 2, cells := 0, slots := 0, locals := 43 }) (va_Pc [.ref x, .int i1, .int i2] (hx_B T_tb (P_ty dA) (dC, dI) vwCl L h sz)) (va_Qi (fun (r : Int32) (u : List Nat × hx_h) => (r.toInt = 0 ∨ r.toInt = 1) ∧ hx_T T_tb u.1 u.2 ∧ hx_S T_tb [(65, 0)] L h u.1 u.2) (hx_E T_tb (P_ty dA) (dC, dI) vwCl (hx_A L sz)) (hx_A L sz)) 0 0 (hx_A L sz) := by
  refine hx_met (lv := [(0, .ref x), (1, .int i1), (2, .int i2)]) (by decide +kernel) rfl (Nat.le_of_ble_eq_true rfl) rfl ?_
  intro p e s m below meth c hx hb hml hr hlk hts0 hown hin hsz hW ls hl
  have hts : ∀ w ∈ hx_all, w.before _ s = true := fun w hw => hts0 w (List.mem_cons_of_mem _ hw)
  have hown : s.vm.findClass "SmallCourtModel" = some m.cls := hown
  have hM : hx_S T_tb [(65, 0)] L h L h := hx_S.rf
  refine lv_aload_n hx hb dX10_judge_0 rfl (lv_at hl 0 rfl) ?_
  refine lv_iload_n hx hb dX10_judge_1 rfl (lv_at hl 1 rfl) ?_
  obtain ⟨fv_1, efv_1⟩ : ∃ y : Int32, y = h.2.1 x 20 := ⟨_, rfl⟩
  have bfv_1 := hT.gi gx tt_10 (k := 20) rfl
  rw [← efv_1] at bfv_1
  have bfv_1 : 0 ≤ fv_1.toInt ∧ fv_1.toInt ≤ 40 := bfv_1
  have ffv_1 := efv_1.symm
  refine hx_goi (hx_runV (As := [.int i1]) (rest := []) ⟨hx, hb, hml, hown, hts⟩ hW gx tt_10 (T := TX10) (N := 98) rfl (t_X10_isPerson l dC dI dA L h s.heap.size x i1 hT gx fv_1 ffv_1) (cwV 1 hts (hx_gV kw_1552 kw_1549 kw_1551 kw_68 kw_103) rfl rfl rfl (by decide +kernel) ⟨Nat.le_of_ble_eq_true rfl, Nat.le_of_ble_eq_true rfl⟩) rfl hl.1 rfl (Nat.le_of_ble_eq_true rfl) dX10_judge_2 ⟨Nat.le_of_ble_eq_true rfl, Nat.le_of_ble_eq_true rfl⟩) hW (fun r_4 L_2 h_3 H locs p_5 hW => ?_)
  obtain ⟨hr_6, hT, hs⟩ := p_5
  have hT : hx_T T_tb L_2 h_3 := hT
  have hs : hx_S T_tb [] L h L_2 h_3 := hs
  have ffv_1 := (hs.o gx trivial rfl).1.trans ffv_1
  have hM := hM.tr (hs.mono (by decide))
  have gx := gx.S hs
  refine hb_if_eq (zx := r_4.toInt) (tgt := 18) hx hb rfl dX10_judge_5 (by decide) (fun c_7 => ?_) (fun c_7 => ?_)
  · skip
    refine lv_iconst (v := 0) hx hb dX10_judge_18 (by decide) ?_
    exact hx_retz hx hb hr rfl hlk hW ⟨(by decide), hT, hM⟩ dX10_judge_19
  · skip
    refine lv_aload_n hx hb dX10_judge_8 rfl (lv_at hl 0 rfl) ?_
    refine hx_getn hx hb hts hC_10 hown hW hT gx tt_10 28 (by decide) rfl kw_1171 ⟨rfl, rfl, rfl⟩ dX10_judge_9 (fun q_8 fq_8 gq_8 => ?_)
    refine lv_iload_n hx hb dX10_judge_12 rfl (lv_at hl 1 rfl) ?_
    refine hx_zald hx hb hW hT gq_8 tt_65 rfl ⟨by omega, by omega⟩ dX10_judge_13 (fun x_9 ex_9 lx_9 ux_9 => ?_)
    refine lv_iload_n hx hb dX10_judge_14 rfl (lv_at hl 2 rfl) ?_
    refine hb_icmp_ne (zx := x_9.toInt) (zy := i2.toInt) (tgt := 20) hx hb rfl rfl dX10_judge_15 (by decide) (fun c_10 => ?_) (fun c_10 => ?_)
    · skip
      refine lv_aload_n hx hb dX10_judge_20 rfl (lv_at hl 0 rfl) ?_
      refine hk_getr hx hb hts hC_10 hown hW gx tt_10 28 (by decide) rfl kw_1171 ⟨rfl, rfl, rfl⟩ fq_8 dX10_judge_21 ?_
      refine lv_iload_n hx hb dX10_judge_24 rfl (lv_at hl 1 rfl) ?_
      refine lv_iload_n hx hb dX10_judge_25 rfl (lv_at hl 2 rfl) ?_
      refine hx_zast hx hb hW hT (hx_S.rf (M := [(65, 0)])) gq_8 tt_65 rfl ⟨by omega, by omega⟩ (y := _) rfl (hx_nz _) (List.mem_singleton.mpr rfl) dX10_judge_26 (fun H locs h_11 eh_11 hW hT hs => ?_)
      have ffv_1 := (hs.o gx trivial rfl).1.trans ffv_1
      have fq_8 := (hs.o gx trivial rfl).2.trans fq_8
      have hM := hM.tr (hs.mono (by decide))
      have gx := gx.S hs
      have gq_8 := gq_8.S hs
      refine lv_iconst (v := 1) hx hb dX10_judge_27 (by decide) ?_
      exact hx_retz hx hb hr rfl hlk hW ⟨(by decide), hT, hM⟩ dX10_judge_28
    · skip
      refine lv_iconst (v := 0) hx hb dX10_judge_18 (by decide) ?_
      exact hx_retz hx hb hr rfl hlk hW ⟨(by decide), hT, hM⟩ dX10_judge_19

theorem dX10_line_0 : decode cX10_line 0 = .ok (.aload_n 0, 1) := by decide +kernel
theorem dX10_line_1 : decode cX10_line 1 = .ok (.getfield 351, 3) := by decide +kernel
theorem dX10_line_4 : decode cX10_line 4 = .ok (.sipush 400, 3) := by decide +kernel
theorem dX10_line_7 : decode cX10_line 7 = .ok (.if_icmp .eq 58, 3) := by decide +kernel
theorem dX10_line_10 : decode cX10_line 10 = .ok (.aload_n 0, 1) := by decide +kernel
theorem dX10_line_11 : decode cX10_line 11 = .ok (.iload_n 1, 1) := by decide +kernel
theorem dX10_line_12 : decode cX10_line 12 = .ok (.invokevirtual 348, 3) := by decide +kernel
theorem dX10_line_15 : decode cX10_line 15 = .ok (.ifCond .eq 50, 3) := by decide +kernel
theorem dX10_line_18 : decode cX10_line 18 = .ok (.aload_n 0, 1) := by decide +kernel
theorem dX10_line_19 : decode cX10_line 19 = .ok (.iload_n 2, 1) := by decide +kernel
theorem dX10_line_20 : decode cX10_line 20 = .ok (.invokevirtual 348, 3) := by decide +kernel
theorem dX10_line_23 : decode cX10_line 23 = .ok (.ifCond .eq 42, 3) := by decide +kernel
theorem dX10_line_26 : decode cX10_line 26 = .ok (.iload_n 1, 1) := by decide +kernel
theorem dX10_line_27 : decode cX10_line 27 = .ok (.iload_n 2, 1) := by decide +kernel
theorem dX10_line_28 : decode cX10_line 28 = .ok (.if_icmp .eq 37, 3) := by decide +kernel
theorem dX10_line_31 : decode cX10_line 31 = .ok (.iload_n 3, 1) := by decide +kernel
theorem dX10_line_32 : decode cX10_line 32 = .ok (.iconst 0, 1) := by decide +kernel
theorem dX10_line_33 : decode cX10_line 33 = .ok (.aload_n 0, 1) := by decide +kernel
theorem dX10_line_34 : decode cX10_line 34 = .ok (.getfield 232, 3) := by decide +kernel
theorem dX10_line_37 : decode cX10_line 37 = .ok (.invokestatic 228, 3) := by decide +kernel
theorem dX10_line_40 : decode cX10_line 40 = .ok (.ifCond .eq 25, 3) := by decide +kernel
theorem dX10_line_43 : decode cX10_line 43 = .ok (.iload 4, 2) := by decide +kernel
theorem dX10_line_45 : decode cX10_line 45 = .ok (.iconst 0, 1) := by decide +kernel
theorem dX10_line_46 : decode cX10_line 46 = .ok (.iconst 3, 1) := by decide +kernel
theorem dX10_line_47 : decode cX10_line 47 = .ok (.invokestatic 228, 3) := by decide +kernel
theorem dX10_line_50 : decode cX10_line 50 = .ok (.ifCond .eq 15, 3) := by decide +kernel
theorem dX10_line_53 : decode cX10_line 53 = .ok (.iload 5, 2) := by decide +kernel
theorem dX10_line_55 : decode cX10_line 55 = .ok (.iconst 1, 1) := by decide +kernel
theorem dX10_line_56 : decode cX10_line 56 = .ok (.sipush 9999, 3) := by decide +kernel
theorem dX10_line_59 : decode cX10_line 59 = .ok (.invokestatic 228, 3) := by decide +kernel
theorem dX10_line_62 : decode cX10_line 62 = .ok (.ifCond .ne 5, 3) := by decide +kernel
theorem dX10_line_65 : decode cX10_line 65 = .ok (.iconst (-1), 1) := by decide +kernel
theorem dX10_line_66 : decode cX10_line 66 = .ok (.ireturn, 1) := by decide +kernel
theorem dX10_line_67 : decode cX10_line 67 = .ok (.aload_n 0, 1) := by decide +kernel
theorem dX10_line_68 : decode cX10_line 68 = .ok (.getfield 63, 3) := by decide +kernel
theorem dX10_line_71 : decode cX10_line 71 = .ok (.aload_n 0, 1) := by decide +kernel
theorem dX10_line_72 : decode cX10_line 72 = .ok (.getfield 351, 3) := by decide +kernel
theorem dX10_line_75 : decode cX10_line 75 = .ok (.iload_n 1, 1) := by decide +kernel
theorem dX10_line_76 : decode cX10_line 76 = .ok (.iastore, 1) := by decide +kernel
theorem dX10_line_77 : decode cX10_line 77 = .ok (.aload_n 0, 1) := by decide +kernel
theorem dX10_line_78 : decode cX10_line 78 = .ok (.getfield 66, 3) := by decide +kernel
theorem dX10_line_81 : decode cX10_line 81 = .ok (.aload_n 0, 1) := by decide +kernel
theorem dX10_line_82 : decode cX10_line 82 = .ok (.getfield 351, 3) := by decide +kernel
theorem dX10_line_85 : decode cX10_line 85 = .ok (.iload_n 2, 1) := by decide +kernel
theorem dX10_line_86 : decode cX10_line 86 = .ok (.iastore, 1) := by decide +kernel
theorem dX10_line_87 : decode cX10_line 87 = .ok (.aload_n 0, 1) := by decide +kernel
theorem dX10_line_88 : decode cX10_line 88 = .ok (.getfield 69, 3) := by decide +kernel
theorem dX10_line_91 : decode cX10_line 91 = .ok (.aload_n 0, 1) := by decide +kernel
theorem dX10_line_92 : decode cX10_line 92 = .ok (.getfield 351, 3) := by decide +kernel
theorem dX10_line_95 : decode cX10_line 95 = .ok (.iload_n 3, 1) := by decide +kernel
theorem dX10_line_96 : decode cX10_line 96 = .ok (.iastore, 1) := by decide +kernel
theorem dX10_line_97 : decode cX10_line 97 = .ok (.aload_n 0, 1) := by decide +kernel
theorem dX10_line_98 : decode cX10_line 98 = .ok (.getfield 72, 3) := by decide +kernel
theorem dX10_line_101 : decode cX10_line 101 = .ok (.aload_n 0, 1) := by decide +kernel
theorem dX10_line_102 : decode cX10_line 102 = .ok (.getfield 351, 3) := by decide +kernel
theorem dX10_line_105 : decode cX10_line 105 = .ok (.iload 4, 2) := by decide +kernel
theorem dX10_line_107 : decode cX10_line 107 = .ok (.iastore, 1) := by decide +kernel
theorem dX10_line_108 : decode cX10_line 108 = .ok (.aload_n 0, 1) := by decide +kernel
theorem dX10_line_109 : decode cX10_line 109 = .ok (.getfield 75, 3) := by decide +kernel
theorem dX10_line_112 : decode cX10_line 112 = .ok (.aload_n 0, 1) := by decide +kernel
theorem dX10_line_113 : decode cX10_line 113 = .ok (.getfield 351, 3) := by decide +kernel
theorem dX10_line_116 : decode cX10_line 116 = .ok (.iload 5, 2) := by decide +kernel
theorem dX10_line_118 : decode cX10_line 118 = .ok (.iastore, 1) := by decide +kernel
theorem dX10_line_119 : decode cX10_line 119 = .ok (.aload_n 0, 1) := by decide +kernel
theorem dX10_line_120 : decode cX10_line 120 = .ok (.dup, 1) := by decide +kernel
theorem dX10_line_121 : decode cX10_line 121 = .ok (.getfield 351, 3) := by decide +kernel
theorem dX10_line_124 : decode cX10_line 124 = .ok (.iconst 1, 1) := by decide +kernel
theorem dX10_line_125 : decode cX10_line 125 = .ok (.iadd, 1) := by decide +kernel
theorem dX10_line_126 : decode cX10_line 126 = .ok (.putfield 351, 3) := by decide +kernel
theorem dX10_line_129 : decode cX10_line 129 = .ok (.aload_n 0, 1) := by decide +kernel
theorem dX10_line_130 : decode cX10_line 130 = .ok (.getfield 351, 3) := by decide +kernel
theorem dX10_line_133 : decode cX10_line 133 = .ok (.ireturn, 1) := by decide +kernel
set_option maxHeartbeats 4000000 in
set_option maxRecDepth 100000 in
theorem t_X10_line (l : Launch) (dC : Nat → ClassId) (dI : Nat → Nat → Nat) (dA : Nat → ClassId) (L : List Nat) (h : hx_h) (sz : Nat) (x : Nat) (i1 : Int32) (i2 : Int32) (i3 : Int32) (i4 : Int32) (i5 : Int32) (hT : hx_T T_tb L h) (gx : hx_g L h x 10)  : Met l yX10_line (Cond.code yX10_line cX10_line 6 (some .int) :: hx_all) ({ frames := 2, cells := 0, slots := 0, locals := 43 }) (va_Pc [.ref x, .int i1, .int i2, .int i3, .int i4, .int i5] (hx_B T_tb (P_ty dA) (dC, dI) vwCl L h sz)) (va_Qi (fun (r : Int32) (u : List Nat × hx_h) => (True) ∧ hx_T T_tb u.1 u.2 ∧ hx_S T_tb [(10, 29), (66, 0), (67, 0), (68, 0), (69, 0), (70, 0)] L h u.1 u.2) (hx_E T_tb (P_ty dA) (dC, dI) vwCl (hx_A L sz)) (hx_A L sz)) 0 0 (hx_A L sz) := by
  refine hx_met (lv := [(0, .ref x), (1, .int i1), (2, .int i2), (3, .int i3), (4, .int i4), (5, .int i5)]) (by decide +kernel) rfl (Nat.le_of_ble_eq_true rfl) rfl ?_
  intro p e s m below meth c hx hb hml hr hlk hts0 hown hin hsz hW ls hl
  have hts : ∀ w ∈ hx_all, w.before _ s = true := fun w hw => hts0 w (List.mem_cons_of_mem _ hw)
  have hown : s.vm.findClass "SmallCourtModel" = some m.cls := hown
  have hM : hx_S T_tb [(10, 29), (66, 0), (67, 0), (68, 0), (69, 0), (70, 0)] L h L h := hx_S.rf
  refine lv_aload_n hx hb dX10_line_0 rfl (lv_at hl 0 rfl) ?_
  refine hx_geti hx hb hts hC_10 hown hW hT gx tt_10 29 (by decide) rfl kw_1172 ⟨rfl, rfl, rfl⟩ dX10_line_1 (fun x_1 ex_1 lx_1 ux_1 => ?_)
  have fx_1 := ex_1.symm
  refine lv_sipush (v := 400) hx hb dX10_line_4 (by decide) ?_
  refine hb_icmp_eq (zx := x_1.toInt) (zy := 400) (tgt := 65) hx hb rfl (by decide) dX10_line_7 (by decide) (fun c_2 => ?_) (fun c_2 => ?_)
  · skip
    refine lv_iconst (v := -1) hx hb dX10_line_65 (by decide) ?_
    exact hx_reti hx hb hr hlk hW ⟨trivial, hT, hM⟩ dX10_line_66
  · skip
    refine lv_aload_n hx hb dX10_line_10 rfl (lv_at hl 0 rfl) ?_
    refine lv_iload_n hx hb dX10_line_11 rfl (lv_at hl 1 rfl) ?_
    obtain ⟨fv_3, efv_3⟩ : ∃ y : Int32, y = h.2.1 x 20 := ⟨_, rfl⟩
    have bfv_3 := hT.gi gx tt_10 (k := 20) rfl
    rw [← efv_3] at bfv_3
    have bfv_3 : 0 ≤ fv_3.toInt ∧ fv_3.toInt ≤ 40 := bfv_3
    have ffv_3 := efv_3.symm
    refine hx_goi (hx_runV (As := [.int i1]) (rest := []) ⟨hx, hb, hml, hown, hts⟩ hW gx tt_10 (T := TX10) (N := 98) rfl (t_X10_isPerson l dC dI dA L h s.heap.size x i1 hT gx fv_3 ffv_3) (cwV 1 hts (hx_gV kw_1552 kw_1549 kw_1551 kw_68 kw_103) rfl rfl rfl (by decide +kernel) ⟨Nat.le_of_ble_eq_true rfl, Nat.le_of_ble_eq_true rfl⟩) rfl hl.1 rfl (Nat.le_of_ble_eq_true rfl) dX10_line_12 ⟨Nat.le_of_ble_eq_true rfl, Nat.le_of_ble_eq_true rfl⟩) hW (fun r_6 L_4 h_5 H locs p_7 hW => ?_)
    obtain ⟨hr_8, hT, hs⟩ := p_7
    have hT : hx_T T_tb L_4 h_5 := hT
    have hs : hx_S T_tb [] L h L_4 h_5 := hs
    have fx_1 := (hs.o gx trivial rfl).1.trans fx_1
    have ffv_3 := (hs.o gx trivial rfl).1.trans ffv_3
    have hM := hM.tr (hs.mono (by decide))
    have gx := gx.S hs
    refine hb_if_eq (zx := r_6.toInt) (tgt := 65) hx hb rfl dX10_line_15 (by decide) (fun c_9 => ?_) (fun c_9 => ?_)
    · skip
      refine lv_iconst (v := -1) hx hb dX10_line_65 (by decide) ?_
      exact hx_reti hx hb hr hlk hW ⟨trivial, hT, hM⟩ dX10_line_66
    · skip
      refine lv_aload_n hx hb dX10_line_18 rfl (lv_at hl 0 rfl) ?_
      refine lv_iload_n hx hb dX10_line_19 rfl (lv_at hl 2 rfl) ?_
      refine hx_goi (hx_runV (As := [.int i2]) (rest := []) ⟨hx, hb, hml, hown, hts⟩ hW gx tt_10 (T := TX10) (N := 98) rfl (t_X10_isPerson l dC dI dA L_4 h_5 H.size x i2 hT gx fv_3 ffv_3) (cwV 1 hts (hx_gV kw_1552 kw_1549 kw_1551 kw_68 kw_103) rfl rfl rfl (by decide +kernel) ⟨Nat.le_of_ble_eq_true rfl, Nat.le_of_ble_eq_true rfl⟩) rfl hl.1 rfl (Nat.le_of_ble_eq_true rfl) dX10_line_20 ⟨Nat.le_of_ble_eq_true rfl, Nat.le_of_ble_eq_true rfl⟩) hW (fun r_12 L_10 h_11 H locs p_13 hW => ?_)
      obtain ⟨hr_14, hT, hs⟩ := p_13
      have hT : hx_T T_tb L_10 h_11 := hT
      have hs : hx_S T_tb [] L_4 h_5 L_10 h_11 := hs
      have fx_1 := (hs.o gx trivial rfl).1.trans fx_1
      have ffv_3 := (hs.o gx trivial rfl).1.trans ffv_3
      have hM := hM.tr (hs.mono (by decide))
      have gx := gx.S hs
      refine hb_if_eq (zx := r_12.toInt) (tgt := 65) hx hb rfl dX10_line_23 (by decide) (fun c_15 => ?_) (fun c_15 => ?_)
      · skip
        refine lv_iconst (v := -1) hx hb dX10_line_65 (by decide) ?_
        exact hx_reti hx hb hr hlk hW ⟨trivial, hT, hM⟩ dX10_line_66
      · skip
        refine lv_iload_n hx hb dX10_line_26 rfl (lv_at hl 1 rfl) ?_
        refine lv_iload_n hx hb dX10_line_27 rfl (lv_at hl 2 rfl) ?_
        refine hb_icmp_eq (zx := i1.toInt) (zy := i2.toInt) (tgt := 65) hx hb rfl rfl dX10_line_28 (by decide) (fun c_16 => ?_) (fun c_16 => ?_)
        · skip
          refine lv_iconst (v := -1) hx hb dX10_line_65 (by decide) ?_
          exact hx_reti hx hb hr hlk hW ⟨trivial, hT, hM⟩ dX10_line_66
        · skip
          refine lv_iload_n hx hb dX10_line_31 rfl (lv_at hl 3 rfl) ?_
          refine lv_iconst (v := 0) hx hb dX10_line_32 (by decide) ?_
          refine lv_aload_n hx hb dX10_line_33 rfl (lv_at hl 0 rfl) ?_
          refine hx_geti hx hb hts hC_10 hown hW hT gx tt_10 0 (by decide) rfl kw_1143 ⟨rfl, rfl, rfl⟩ dX10_line_34 (fun x_17 ex_17 lx_17 ux_17 => ?_)
          have fx_17 := ex_17.symm
          have zc_0 : (0 : Int32).toInt = 0 := by decide
          refine hx_goi (hx_runS (As := [.int i3, .int (0 : Int32), .int x_17]) (rest := []) ⟨hx, hb, hml, hown, hts⟩ hW (t_X10_in l dC dI dA L_10 h_11 H.size i3 (0 : Int32) x_17 hT) (va_cwS 3 hts (hx_gS kw_1445 kw_1443 kw_1444 kw_103) rfl rfl rfl (by decide +kernel) ⟨Nat.le_of_ble_eq_true rfl, Nat.le_of_ble_eq_true rfl⟩) rfl hl.1 rfl (Nat.le_of_ble_eq_true rfl) dX10_line_37 ⟨Nat.le_of_ble_eq_true rfl, Nat.le_of_ble_eq_true rfl⟩) hW (fun r_20 L_18 h_19 H locs p_21 hW => ?_)
          obtain ⟨hr_22, hT, hs⟩ := p_21
          have hT : hx_T T_tb L_18 h_19 := hT
          have hs : hx_S T_tb [] L_10 h_11 L_18 h_19 := hs
          have fx_1 := (hs.o gx trivial rfl).1.trans fx_1
          have ffv_3 := (hs.o gx trivial rfl).1.trans ffv_3
          have fx_17 := (hs.o gx trivial rfl).1.trans fx_17
          have hM := hM.tr (hs.mono (by decide))
          have gx := gx.S hs
          refine hb_if_eq (zx := r_20.toInt) (tgt := 65) hx hb rfl dX10_line_40 (by decide) (fun c_23 => ?_) (fun c_23 => ?_)
          · skip
            refine lv_iconst (v := -1) hx hb dX10_line_65 (by decide) ?_
            exact hx_reti hx hb hr hlk hW ⟨trivial, hT, hM⟩ dX10_line_66
          · skip
            refine lv_iload hx hb dX10_line_43 (lv_at hl 4 rfl) ?_
            refine lv_iconst (v := 0) hx hb dX10_line_45 (by decide) ?_
            refine lv_iconst (v := 3) hx hb dX10_line_46 (by decide) ?_
            have zc_3 : (3 : Int32).toInt = 3 := by decide
            refine hx_goi (hx_runS (As := [.int i4, .int (0 : Int32), .int (3 : Int32)]) (rest := []) ⟨hx, hb, hml, hown, hts⟩ hW (t_X10_in l dC dI dA L_18 h_19 H.size i4 (0 : Int32) (3 : Int32) hT) (va_cwS 3 hts (hx_gS kw_1445 kw_1443 kw_1444 kw_103) rfl rfl rfl (by decide +kernel) ⟨Nat.le_of_ble_eq_true rfl, Nat.le_of_ble_eq_true rfl⟩) rfl hl.1 rfl (Nat.le_of_ble_eq_true rfl) dX10_line_47 ⟨Nat.le_of_ble_eq_true rfl, Nat.le_of_ble_eq_true rfl⟩) hW (fun r_26 L_24 h_25 H locs p_27 hW => ?_)
            obtain ⟨hr_28, hT, hs⟩ := p_27
            have hT : hx_T T_tb L_24 h_25 := hT
            have hs : hx_S T_tb [] L_18 h_19 L_24 h_25 := hs
            have fx_1 := (hs.o gx trivial rfl).1.trans fx_1
            have ffv_3 := (hs.o gx trivial rfl).1.trans ffv_3
            have fx_17 := (hs.o gx trivial rfl).1.trans fx_17
            have hM := hM.tr (hs.mono (by decide))
            have gx := gx.S hs
            refine hb_if_eq (zx := r_26.toInt) (tgt := 65) hx hb rfl dX10_line_50 (by decide) (fun c_29 => ?_) (fun c_29 => ?_)
            · skip
              refine lv_iconst (v := -1) hx hb dX10_line_65 (by decide) ?_
              exact hx_reti hx hb hr hlk hW ⟨trivial, hT, hM⟩ dX10_line_66
            · skip
              refine lv_iload hx hb dX10_line_53 (lv_at hl 5 rfl) ?_
              refine lv_iconst (v := 1) hx hb dX10_line_55 (by decide) ?_
              refine lv_sipush (v := 9999) hx hb dX10_line_56 (by decide) ?_
              have zc_9999 : (9999 : Int32).toInt = 9999 := by decide
              have zc_1 : (1 : Int32).toInt = 1 := by decide
              refine hx_goi (hx_runS (As := [.int i5, .int (1 : Int32), .int (9999 : Int32)]) (rest := []) ⟨hx, hb, hml, hown, hts⟩ hW (t_X10_in l dC dI dA L_24 h_25 H.size i5 (1 : Int32) (9999 : Int32) hT) (va_cwS 3 hts (hx_gS kw_1445 kw_1443 kw_1444 kw_103) rfl rfl rfl (by decide +kernel) ⟨Nat.le_of_ble_eq_true rfl, Nat.le_of_ble_eq_true rfl⟩) rfl hl.1 rfl (Nat.le_of_ble_eq_true rfl) dX10_line_59 ⟨Nat.le_of_ble_eq_true rfl, Nat.le_of_ble_eq_true rfl⟩) hW (fun r_32 L_30 h_31 H locs p_33 hW => ?_)
              obtain ⟨hr_34, hT, hs⟩ := p_33
              have hT : hx_T T_tb L_30 h_31 := hT
              have hs : hx_S T_tb [] L_24 h_25 L_30 h_31 := hs
              have fx_1 := (hs.o gx trivial rfl).1.trans fx_1
              have ffv_3 := (hs.o gx trivial rfl).1.trans ffv_3
              have fx_17 := (hs.o gx trivial rfl).1.trans fx_17
              have hM := hM.tr (hs.mono (by decide))
              have gx := gx.S hs
              refine hb_if_ne (zx := r_32.toInt) (tgt := 67) hx hb rfl dX10_line_62 (by decide) (fun c_35 => ?_) (fun c_35 => ?_)
              · skip
                refine lv_aload_n hx hb dX10_line_67 rfl (lv_at hl 0 rfl) ?_
                refine hx_getn hx hb hts hC_10 hown hW hT gx tt_10 30 (by decide) rfl kw_1173 ⟨rfl, rfl, rfl⟩ dX10_line_68 (fun q_36 fq_36 gq_36 => ?_)
                refine lv_aload_n hx hb dX10_line_71 rfl (lv_at hl 0 rfl) ?_
                refine hk_geti hx hb hts hC_10 hown hW gx tt_10 29 (by decide) rfl kw_1172 ⟨rfl, rfl, rfl⟩ fx_1 dX10_line_72 ?_
                refine lv_iload_n hx hb dX10_line_75 rfl (lv_at hl 1 rfl) ?_
                refine hx_iast hx hb hW hT (hx_S.rf (M := [(66, 0)])) gq_36 tt_66 rfl ⟨by omega, by omega⟩ rfl (i32_r _) (List.mem_singleton.mpr rfl) dX10_line_76 (fun H locs h_37 eh_37 hW hT hs => ?_)
                have fx_1 := (hs.o gx trivial rfl).1.trans fx_1
                have ffv_3 := (hs.o gx trivial rfl).1.trans ffv_3
                have fx_17 := (hs.o gx trivial rfl).1.trans fx_17
                have fq_36 := (hs.o gx trivial rfl).2.trans fq_36
                have hM := hM.tr (hs.mono (by decide))
                have gx := gx.S hs
                have gq_36 := gq_36.S hs
                refine lv_aload_n hx hb dX10_line_77 rfl (lv_at hl 0 rfl) ?_
                refine hx_getn hx hb hts hC_10 hown hW hT gx tt_10 31 (by decide) rfl kw_1174 ⟨rfl, rfl, rfl⟩ dX10_line_78 (fun q_38 fq_38 gq_38 => ?_)
                refine lv_aload_n hx hb dX10_line_81 rfl (lv_at hl 0 rfl) ?_
                refine hk_geti hx hb hts hC_10 hown hW gx tt_10 29 (by decide) rfl kw_1172 ⟨rfl, rfl, rfl⟩ fx_1 dX10_line_82 ?_
                refine lv_iload_n hx hb dX10_line_85 rfl (lv_at hl 2 rfl) ?_
                refine hx_iast hx hb hW hT (hx_S.rf (M := [(67, 0)])) gq_38 tt_67 rfl ⟨by omega, by omega⟩ rfl (i32_r _) (List.mem_singleton.mpr rfl) dX10_line_86 (fun H locs h_39 eh_39 hW hT hs => ?_)
                have fx_1 := (hs.o gx trivial rfl).1.trans fx_1
                have ffv_3 := (hs.o gx trivial rfl).1.trans ffv_3
                have fx_17 := (hs.o gx trivial rfl).1.trans fx_17
                have fq_36 := (hs.o gx trivial rfl).2.trans fq_36
                have fq_38 := (hs.o gx trivial rfl).2.trans fq_38
                have hM := hM.tr (hs.mono (by decide))
                have gx := gx.S hs
                have gq_36 := gq_36.S hs
                have gq_38 := gq_38.S hs
                refine lv_aload_n hx hb dX10_line_87 rfl (lv_at hl 0 rfl) ?_
                refine hx_getn hx hb hts hC_10 hown hW hT gx tt_10 32 (by decide) rfl kw_1175 ⟨rfl, rfl, rfl⟩ dX10_line_88 (fun q_40 fq_40 gq_40 => ?_)
                refine lv_aload_n hx hb dX10_line_91 rfl (lv_at hl 0 rfl) ?_
                refine hk_geti hx hb hts hC_10 hown hW gx tt_10 29 (by decide) rfl kw_1172 ⟨rfl, rfl, rfl⟩ fx_1 dX10_line_92 ?_
                refine lv_iload_n hx hb dX10_line_95 rfl (lv_at hl 3 rfl) ?_
                refine hx_iast hx hb hW hT (hx_S.rf (M := [(68, 0)])) gq_40 tt_68 rfl ⟨by omega, by omega⟩ rfl (i32_r _) (List.mem_singleton.mpr rfl) dX10_line_96 (fun H locs h_41 eh_41 hW hT hs => ?_)
                have fx_1 := (hs.o gx trivial rfl).1.trans fx_1
                have ffv_3 := (hs.o gx trivial rfl).1.trans ffv_3
                have fx_17 := (hs.o gx trivial rfl).1.trans fx_17
                have fq_36 := (hs.o gx trivial rfl).2.trans fq_36
                have fq_38 := (hs.o gx trivial rfl).2.trans fq_38
                have fq_40 := (hs.o gx trivial rfl).2.trans fq_40
                have hM := hM.tr (hs.mono (by decide))
                have gx := gx.S hs
                have gq_36 := gq_36.S hs
                have gq_38 := gq_38.S hs
                have gq_40 := gq_40.S hs
                refine lv_aload_n hx hb dX10_line_97 rfl (lv_at hl 0 rfl) ?_
                refine hx_getn hx hb hts hC_10 hown hW hT gx tt_10 33 (by decide) rfl kw_1176 ⟨rfl, rfl, rfl⟩ dX10_line_98 (fun q_42 fq_42 gq_42 => ?_)
                refine lv_aload_n hx hb dX10_line_101 rfl (lv_at hl 0 rfl) ?_
                refine hk_geti hx hb hts hC_10 hown hW gx tt_10 29 (by decide) rfl kw_1172 ⟨rfl, rfl, rfl⟩ fx_1 dX10_line_102 ?_
                refine lv_iload hx hb dX10_line_105 (lv_at hl 4 rfl) ?_
                refine hx_iast hx hb hW hT (hx_S.rf (M := [(69, 0)])) gq_42 tt_69 rfl ⟨by omega, by omega⟩ rfl (i32_r _) (List.mem_singleton.mpr rfl) dX10_line_107 (fun H locs h_43 eh_43 hW hT hs => ?_)
                have fx_1 := (hs.o gx trivial rfl).1.trans fx_1
                have ffv_3 := (hs.o gx trivial rfl).1.trans ffv_3
                have fx_17 := (hs.o gx trivial rfl).1.trans fx_17
                have fq_36 := (hs.o gx trivial rfl).2.trans fq_36
                have fq_38 := (hs.o gx trivial rfl).2.trans fq_38
                have fq_40 := (hs.o gx trivial rfl).2.trans fq_40
                have fq_42 := (hs.o gx trivial rfl).2.trans fq_42
                have hM := hM.tr (hs.mono (by decide))
                have gx := gx.S hs
                have gq_36 := gq_36.S hs
                have gq_38 := gq_38.S hs
                have gq_40 := gq_40.S hs
                have gq_42 := gq_42.S hs
                refine lv_aload_n hx hb dX10_line_108 rfl (lv_at hl 0 rfl) ?_
                refine hx_getn hx hb hts hC_10 hown hW hT gx tt_10 34 (by decide) rfl kw_1177 ⟨rfl, rfl, rfl⟩ dX10_line_109 (fun q_44 fq_44 gq_44 => ?_)
                refine lv_aload_n hx hb dX10_line_112 rfl (lv_at hl 0 rfl) ?_
                refine hk_geti hx hb hts hC_10 hown hW gx tt_10 29 (by decide) rfl kw_1172 ⟨rfl, rfl, rfl⟩ fx_1 dX10_line_113 ?_
                refine lv_iload hx hb dX10_line_116 (lv_at hl 5 rfl) ?_
                refine hx_iast hx hb hW hT (hx_S.rf (M := [(70, 0)])) gq_44 tt_70 rfl ⟨by omega, by omega⟩ rfl (i32_r _) (List.mem_singleton.mpr rfl) dX10_line_118 (fun H locs h_45 eh_45 hW hT hs => ?_)
                have fx_1 := (hs.o gx trivial rfl).1.trans fx_1
                have ffv_3 := (hs.o gx trivial rfl).1.trans ffv_3
                have fx_17 := (hs.o gx trivial rfl).1.trans fx_17
                have fq_36 := (hs.o gx trivial rfl).2.trans fq_36
                have fq_38 := (hs.o gx trivial rfl).2.trans fq_38
                have fq_40 := (hs.o gx trivial rfl).2.trans fq_40
                have fq_42 := (hs.o gx trivial rfl).2.trans fq_42
                have fq_44 := (hs.o gx trivial rfl).2.trans fq_44
                have hM := hM.tr (hs.mono (by decide))
                have gx := gx.S hs
                have gq_36 := gq_36.S hs
                have gq_38 := gq_38.S hs
                have gq_40 := gq_40.S hs
                have gq_42 := gq_42.S hs
                have gq_44 := gq_44.S hs
                refine lv_aload_n hx hb dX10_line_119 rfl (lv_at hl 0 rfl) ?_
                refine lv_dup hx hb dX10_line_120 rfl ?_
                refine hk_geti hx hb hts hC_10 hown hW gx tt_10 29 (by decide) rfl kw_1172 ⟨rfl, rfl, rfl⟩ fx_1 dX10_line_121 ?_
                refine lv_iconst (v := 1) hx hb dX10_line_124 (by decide) ?_
                refine lv_iadd hx hb dX10_line_125 ?_
                have rg_46 := i32_r x_1
                refine lv_topi (fun x_47 ex_47 => ?_)
                have zx_47 : x_47.toInt = x_1.toInt + 1 := by rw [ex_47]; exact i32_add rfl (by decide) (by omega) (by omega)
                refine hx_puti hx hb hts hC_10 hown hW hT (hx_S.rf (M := [(10, 29)])) gx tt_10 29 (by decide) rfl kw_1172 ⟨rfl, rfl, rfl⟩ rfl (x := x_47) ⟨by omega, by omega⟩ rfl rfl rfl (List.mem_singleton.mpr rfl) dX10_line_126 (fun H locs h_48 eh_48 hW hT hs => ?_)
                have ffv_3 := (hs.o gx trivial rfl).1.trans ffv_3
                have fx_17 := (hs.o gx trivial rfl).1.trans fx_17
                have fq_36 := (hs.o gx trivial rfl).2.trans fq_36
                have fq_38 := (hs.o gx trivial rfl).2.trans fq_38
                have fq_40 := (hs.o gx trivial rfl).2.trans fq_40
                have fq_42 := (hs.o gx trivial rfl).2.trans fq_42
                have fq_44 := (hs.o gx trivial rfl).2.trans fq_44
                have hM := hM.tr (hs.mono (by decide))
                have gx := gx.S hs
                have gq_36 := gq_36.S hs
                have gq_38 := gq_38.S hs
                have gq_40 := gq_40.S hs
                have gq_42 := gq_42.S hs
                have gq_44 := gq_44.S hs
                have f_49 : h_48.2.1 x 29 = x_47 := by rw [eh_48]; exact hx_pi_at _ _ _ _
                refine lv_aload_n hx hb dX10_line_129 rfl (lv_at hl 0 rfl) ?_
                refine hk_geti hx hb hts hC_10 hown hW gx tt_10 29 (by decide) rfl kw_1172 ⟨rfl, rfl, rfl⟩ f_49 dX10_line_130 ?_
                exact hx_reti hx hb hr hlk hW ⟨trivial, hT, hM⟩ dX10_line_133
              · skip
                refine lv_iconst (v := -1) hx hb dX10_line_65 (by decide) ?_
                exact hx_reti hx hb hr hlk hW ⟨trivial, hT, hM⟩ dX10_line_66
