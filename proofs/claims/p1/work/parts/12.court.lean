theorem dX9_personAt_0 : decode cX9_personAt 0 = .ok (.iload_n 1, 1) := by decide +kernel
theorem dX9_personAt_1 : decode cX9_personAt 1 = .ok (.ifCond .lt 11, 3) := by decide +kernel
theorem dX9_personAt_4 : decode cX9_personAt 4 = .ok (.iload_n 1, 1) := by decide +kernel
theorem dX9_personAt_5 : decode cX9_personAt 5 = .ok (.aload_n 0, 1) := by decide +kernel
theorem dX9_personAt_6 : decode cX9_personAt 6 = .ok (.getfield 125, 3) := by decide +kernel
theorem dX9_personAt_9 : decode cX9_personAt 9 = .ok (.if_icmp .lt 7, 3) := by decide +kernel
theorem dX9_personAt_12 : decode cX9_personAt 12 = .ok (.aconst_null, 1) := by decide +kernel
theorem dX9_personAt_13 : decode cX9_personAt 13 = .ok (.goto 9, 3) := by decide +kernel
theorem dX9_personAt_22 : decode cX9_personAt 22 = .ok (.areturn, 1) := by decide +kernel
set_option maxHeartbeats 4000000 in
set_option maxRecDepth 100000 in
theorem c_X9_personAt (l : Launch) (dC : Nat → ClassId) (dI : Nat → Nat → Nat) (dA : Nat → ClassId) (L : List Nat) (h : hx_h) (sz : Nat) (x : Nat) (k : Int32) (gx : hx_g L h x 9) (f_x_8 : h.2.1 x 8 = 0) : Met l yX9_personAt (Cond.code yX9_personAt cX9_personAt 2 (some (.object "SmallCourt$Person")) :: hx_all) ({ frames := 0, cells := 0, slots := 0, locals := 0 }) (va_Pc [.ref x, .int k] (hx_B P_tb (P_ty dA) (dC, dI) vwCl L h sz)) (va_Qq (fun (r : Option Nat) (u : List Nat × hx_h) => r = none ∧ u = (L, h)) (hx_E P_tb (P_ty dA) (dC, dI) vwCl (hx_A L sz)) (hx_A L sz)) 0 0 (hx_A L sz) := by
  refine hx_met (lv := [(0, .ref x), (1, .int k)]) (by decide +kernel) rfl (Nat.le_of_ble_eq_true rfl) rfl ?_
  intro p e s m below meth c hx hb hml hr hlk hts0 hown hin hsz hW ls hl
  have hts : ∀ w ∈ hx_all, w.before _ s = true := fun w hw => hts0 w (List.mem_cons_of_mem _ hw)
  have hown : s.vm.findClass "SmallCourt" = some m.cls := hown
  refine lv_iload_n hx hb dX9_personAt_0 rfl (lv_at hl 1 rfl) ?_
  refine hb_if_lt (zx := k.toInt) (tgt := 12) hx hb rfl dX9_personAt_1 (by decide) (fun c_1 => ?_) (fun c_1 => ?_)
  · skip
    refine lv_null hx hb dX9_personAt_12 ?_
    refine lv_goto (tgt := 22) hx hb dX9_personAt_13 (by decide) ?_
    exact hx_retq (v := none) hx hb hr (Or.inl ⟨_, rfl⟩) hlk hW ⟨rfl, rfl⟩ dX9_personAt_22
  · skip
    refine lv_iload_n hx hb dX9_personAt_4 rfl (lv_at hl 1 rfl) ?_
    refine lv_aload_n hx hb dX9_personAt_5 rfl (lv_at hl 0 rfl) ?_
    refine hk_geti hx hb hts hC_9 hown hW gx td_9 8 (by decide) rfl kw_372 ⟨rfl, rfl, rfl⟩ f_x_8 dX9_personAt_6 ?_
    refine hb_icmp_lt (zx := k.toInt) (zy := 0) (tgt := 16) hx hb rfl (by decide) dX9_personAt_9 (by decide) (fun c_2 => by exfalso; omega) (fun c_2 => ?_)
    refine lv_null hx hb dX9_personAt_12 ?_
    refine lv_goto (tgt := 22) hx hb dX9_personAt_13 (by decide) ?_
    exact hx_retq (v := none) hx hb hr (Or.inl ⟨_, rfl⟩) hlk hW ⟨rfl, rfl⟩ dX9_personAt_22


theorem dX9_claimAt_0 : decode cX9_claimAt 0 = .ok (.iload_n 1, 1) := by decide +kernel
theorem dX9_claimAt_1 : decode cX9_claimAt 1 = .ok (.ifCond .lt 11, 3) := by decide +kernel
theorem dX9_claimAt_4 : decode cX9_claimAt 4 = .ok (.iload_n 1, 1) := by decide +kernel
theorem dX9_claimAt_5 : decode cX9_claimAt 5 = .ok (.aload_n 0, 1) := by decide +kernel
theorem dX9_claimAt_6 : decode cX9_claimAt 6 = .ok (.getfield 181, 3) := by decide +kernel
theorem dX9_claimAt_9 : decode cX9_claimAt 9 = .ok (.if_icmp .lt 7, 3) := by decide +kernel
theorem dX9_claimAt_12 : decode cX9_claimAt 12 = .ok (.aconst_null, 1) := by decide +kernel
theorem dX9_claimAt_13 : decode cX9_claimAt 13 = .ok (.goto 9, 3) := by decide +kernel
theorem dX9_claimAt_22 : decode cX9_claimAt 22 = .ok (.areturn, 1) := by decide +kernel
set_option maxHeartbeats 4000000 in
set_option maxRecDepth 100000 in
theorem c_X9_claimAt (l : Launch) (dC : Nat → ClassId) (dI : Nat → Nat → Nat) (dA : Nat → ClassId) (L : List Nat) (h : hx_h) (sz : Nat) (x : Nat) (k : Int32) (gx : hx_g L h x 9) (f_x_11 : h.2.1 x 11 = 0) : Met l yX9_claimAt (Cond.code yX9_claimAt cX9_claimAt 2 (some (.object "SmallCourt$Claim")) :: hx_all) ({ frames := 0, cells := 0, slots := 0, locals := 0 }) (va_Pc [.ref x, .int k] (hx_B P_tb (P_ty dA) (dC, dI) vwCl L h sz)) (va_Qq (fun (r : Option Nat) (u : List Nat × hx_h) => r = none ∧ u = (L, h)) (hx_E P_tb (P_ty dA) (dC, dI) vwCl (hx_A L sz)) (hx_A L sz)) 0 0 (hx_A L sz) := by
  refine hx_met (lv := [(0, .ref x), (1, .int k)]) (by decide +kernel) rfl (Nat.le_of_ble_eq_true rfl) rfl ?_
  intro p e s m below meth c hx hb hml hr hlk hts0 hown hin hsz hW ls hl
  have hts : ∀ w ∈ hx_all, w.before _ s = true := fun w hw => hts0 w (List.mem_cons_of_mem _ hw)
  have hown : s.vm.findClass "SmallCourt" = some m.cls := hown
  refine lv_iload_n hx hb dX9_claimAt_0 rfl (lv_at hl 1 rfl) ?_
  refine hb_if_lt (zx := k.toInt) (tgt := 12) hx hb rfl dX9_claimAt_1 (by decide) (fun c_1 => ?_) (fun c_1 => ?_)
  · skip
    refine lv_null hx hb dX9_claimAt_12 ?_
    refine lv_goto (tgt := 22) hx hb dX9_claimAt_13 (by decide) ?_
    exact hx_retq (v := none) hx hb hr (Or.inl ⟨_, rfl⟩) hlk hW ⟨rfl, rfl⟩ dX9_claimAt_22
  · skip
    refine lv_iload_n hx hb dX9_claimAt_4 rfl (lv_at hl 1 rfl) ?_
    refine lv_aload_n hx hb dX9_claimAt_5 rfl (lv_at hl 0 rfl) ?_
    refine hk_geti hx hb hts hC_9 hown hW gx td_9 11 (by decide) rfl kw_375 ⟨rfl, rfl, rfl⟩ f_x_11 dX9_claimAt_6 ?_
    refine hb_icmp_lt (zx := k.toInt) (zy := 0) (tgt := 16) hx hb rfl (by decide) dX9_claimAt_9 (by decide) (fun c_2 => by exfalso; omega) (fun c_2 => ?_)
    refine lv_null hx hb dX9_claimAt_12 ?_
    refine lv_goto (tgt := 22) hx hb dX9_claimAt_13 (by decide) ?_
    exact hx_retq (v := none) hx hb hr (Or.inl ⟨_, rfl⟩) hlk hW ⟨rfl, rfl⟩ dX9_claimAt_22


theorem dX9_areTwo_0 : decode cX9_areTwo 0 = .ok (.iload_n 1, 1) := by decide +kernel
theorem dX9_areTwo_1 : decode cX9_areTwo 1 = .ok (.iload_n 2, 1) := by decide +kernel
theorem dX9_areTwo_2 : decode cX9_areTwo 2 = .ok (.if_icmp .eq 23, 3) := by decide +kernel
theorem dX9_areTwo_5 : decode cX9_areTwo 5 = .ok (.aload_n 0, 1) := by decide +kernel
theorem dX9_areTwo_6 : decode cX9_areTwo 6 = .ok (.iload_n 1, 1) := by decide +kernel
theorem dX9_areTwo_7 : decode cX9_areTwo 7 = .ok (.invokevirtual 144, 3) := by decide +kernel
theorem dX9_areTwo_10 : decode cX9_areTwo 10 = .ok (.ifnull 15, 3) := by decide +kernel
theorem dX9_areTwo_25 : decode cX9_areTwo 25 = .ok (.iconst 0, 1) := by decide +kernel
theorem dX9_areTwo_26 : decode cX9_areTwo 26 = .ok (.ireturn, 1) := by decide +kernel
set_option maxHeartbeats 4000000 in
set_option maxRecDepth 100000 in
theorem c_X9_areTwo (l : Launch) (dC : Nat → ClassId) (dI : Nat → Nat → Nat) (dA : Nat → ClassId) (L : List Nat) (h : hx_h) (sz : Nat) (x : Nat) (i1 : Int32) (i2 : Int32) (gx : hx_g L h x 9) (f_x_8 : h.2.1 x 8 = 0) : Met l yX9_areTwo (Cond.code yX9_areTwo cX9_areTwo 3 (some .boolean) :: hx_all) ({ frames := 1, cells := 0, slots := 0, locals := 21 }) (va_Pc [.ref x, .int i1, .int i2] (hx_B P_tb (P_ty dA) (dC, dI) vwCl L h sz)) (va_Qi (fun (r : Int32) (u : List Nat × hx_h) => ((False) ∧ r = 1 ∨ ¬ (False) ∧ r = 0) ∧ u = (L, h)) (hx_E P_tb (P_ty dA) (dC, dI) vwCl (hx_A L sz)) (hx_A L sz)) 0 0 (hx_A L sz) := by
  refine hx_met (lv := [(0, .ref x), (1, .int i1), (2, .int i2)]) (by decide +kernel) rfl (Nat.le_of_ble_eq_true rfl) rfl ?_
  intro p e s m below meth c hx hb hml hr hlk hts0 hown hin hsz hW ls hl
  have hts : ∀ w ∈ hx_all, w.before _ s = true := fun w hw => hts0 w (List.mem_cons_of_mem _ hw)
  have hown : s.vm.findClass "SmallCourt" = some m.cls := hown
  refine lv_iload_n hx hb dX9_areTwo_0 rfl (lv_at hl 1 rfl) ?_
  refine lv_iload_n hx hb dX9_areTwo_1 rfl (lv_at hl 2 rfl) ?_
  refine hb_icmp_eq (zx := i1.toInt) (zy := i2.toInt) (tgt := 25) hx hb rfl rfl dX9_areTwo_2 (by decide) (fun c_1 => ?_) (fun c_1 => ?_)
  · skip
    refine lv_iconst (v := 0) hx hb dX9_areTwo_25 (by decide) ?_
    exact hx_retz hx hb hr rfl hlk hW ⟨Or.inr ⟨by first | omega | exact id, rfl⟩, rfl⟩ dX9_areTwo_26
  · skip
    refine lv_aload_n hx hb dX9_areTwo_5 rfl (lv_at hl 0 rfl) ?_
    refine lv_iload_n hx hb dX9_areTwo_6 rfl (lv_at hl 1 rfl) ?_
    refine hx_goq (hx_runV (As := [.int i1]) (rest := []) ⟨hx, hb, hml, hown, hts⟩ hW gx td_9 (T := TX9) (N := 20) rfl (c_X9_personAt l dC dI dA L h s.heap.size x i1 gx f_x_8) (cwV 1 hts (hx_gV kw_659 kw_656 kw_658 kw_20 kw_94) rfl rfl rfl (by decide +kernel) ⟨Nat.le_of_ble_eq_true rfl, Nat.le_of_ble_eq_true rfl⟩) rfl hl.1 rfl (Nat.le_of_ble_eq_true rfl) dX9_areTwo_7 ⟨Nat.le_of_ble_eq_true rfl, Nat.le_of_ble_eq_true rfl⟩) hW (fun r_4 L_2 h_3 H locs p_5 hW => ?_)
    obtain ⟨rfl, eu⟩ := p_5
    cases eu
    refine lv_ifnullN (tgt := 25) hx hb dX9_areTwo_10 (by decide) ?_
    refine lv_iconst (v := 0) hx hb dX9_areTwo_25 (by decide) ?_
    exact hx_retz hx hb hr rfl hlk hW ⟨Or.inr ⟨by first | omega | exact id, rfl⟩, rfl⟩ dX9_areTwo_26


theorem dX9_isHousehold_0 : decode cX9_isHousehold 0 = .ok (.iload_n 0, 1) := by decide +kernel
theorem dX9_isHousehold_1 : decode cX9_isHousehold 1 = .ok (.iconst 0, 1) := by decide +kernel
theorem dX9_isHousehold_2 : decode cX9_isHousehold 2 = .ok (.sipush 9999, 3) := by decide +kernel
theorem dX9_isHousehold_5 : decode cX9_isHousehold 5 = .ok (.invokestatic 128, 3) := by decide +kernel
theorem dX9_isHousehold_8 : decode cX9_isHousehold 8 = .ok (.ifCond .eq 37, 3) := by decide +kernel
theorem dX9_isHousehold_11 : decode cX9_isHousehold 11 = .ok (.iload_n 1, 1) := by decide +kernel
theorem dX9_isHousehold_12 : decode cX9_isHousehold 12 = .ok (.iconst 1, 1) := by decide +kernel
theorem dX9_isHousehold_13 : decode cX9_isHousehold 13 = .ok (.bipush 20, 2) := by decide +kernel
theorem dX9_isHousehold_15 : decode cX9_isHousehold 15 = .ok (.invokestatic 128, 3) := by decide +kernel
theorem dX9_isHousehold_18 : decode cX9_isHousehold 18 = .ok (.ifCond .eq 27, 3) := by decide +kernel
theorem dX9_isHousehold_21 : decode cX9_isHousehold 21 = .ok (.iload_n 2, 1) := by decide +kernel
theorem dX9_isHousehold_22 : decode cX9_isHousehold 22 = .ok (.iconst 0, 1) := by decide +kernel
theorem dX9_isHousehold_23 : decode cX9_isHousehold 23 = .ok (.bipush 99, 2) := by decide +kernel
theorem dX9_isHousehold_25 : decode cX9_isHousehold 25 = .ok (.invokestatic 128, 3) := by decide +kernel
theorem dX9_isHousehold_28 : decode cX9_isHousehold 28 = .ok (.ifCond .eq 17, 3) := by decide +kernel
theorem dX9_isHousehold_31 : decode cX9_isHousehold 31 = .ok (.iload_n 3, 1) := by decide +kernel
theorem dX9_isHousehold_32 : decode cX9_isHousehold 32 = .ok (.iconst 0, 1) := by decide +kernel
theorem dX9_isHousehold_33 : decode cX9_isHousehold 33 = .ok (.bipush 99, 2) := by decide +kernel
theorem dX9_isHousehold_35 : decode cX9_isHousehold 35 = .ok (.invokestatic 128, 3) := by decide +kernel
theorem dX9_isHousehold_38 : decode cX9_isHousehold 38 = .ok (.ifCond .eq 7, 3) := by decide +kernel
theorem dX9_isHousehold_41 : decode cX9_isHousehold 41 = .ok (.iconst 1, 1) := by decide +kernel
theorem dX9_isHousehold_42 : decode cX9_isHousehold 42 = .ok (.goto 4, 3) := by decide +kernel
theorem dX9_isHousehold_45 : decode cX9_isHousehold 45 = .ok (.iconst 0, 1) := by decide +kernel
theorem dX9_isHousehold_46 : decode cX9_isHousehold 46 = .ok (.ireturn, 1) := by decide +kernel
set_option maxHeartbeats 4000000 in
set_option maxRecDepth 100000 in
theorem c_X9_isHousehold (l : Launch) (dC : Nat → ClassId) (dI : Nat → Nat → Nat) (dA : Nat → ClassId) (L : List Nat) (h : hx_h) (sz : Nat) (i1 : Int32) (i2 : Int32) (i3 : Int32) (i4 : Int32)   : Met l yX9_isHousehold (Cond.code yX9_isHousehold cX9_isHousehold 4 (some .boolean) :: hx_all) ({ frames := 1, cells := 0, slots := 0, locals := 22 }) (va_Pc [.int i1, .int i2, .int i3, .int i4] (hx_B P_tb (P_ty dA) (dC, dI) vwCl L h sz)) (va_Qi (fun (r : Int32) (u : List Nat × hx_h) => (((0 ≤ i1.toInt ∧ i1.toInt ≤ 9999) ∧ (1 ≤ i2.toInt ∧ i2.toInt ≤ 20) ∧ (0 ≤ i3.toInt ∧ i3.toInt ≤ 99) ∧ (0 ≤ i4.toInt ∧ i4.toInt ≤ 99)) ∧ r = 1 ∨ ¬ ((0 ≤ i1.toInt ∧ i1.toInt ≤ 9999) ∧ (1 ≤ i2.toInt ∧ i2.toInt ≤ 20) ∧ (0 ≤ i3.toInt ∧ i3.toInt ≤ 99) ∧ (0 ≤ i4.toInt ∧ i4.toInt ≤ 99)) ∧ r = 0) ∧ u = (L, h)) (hx_E P_tb (P_ty dA) (dC, dI) vwCl (hx_A L sz)) (hx_A L sz)) 0 0 (hx_A L sz) := by
  refine hx_met (lv := [(0, .int i1), (1, .int i2), (2, .int i3), (3, .int i4)]) (by decide +kernel) rfl (Nat.le_of_ble_eq_true rfl) rfl ?_
  intro p e s m below meth c hx hb hml hr hlk hts0 hown hin hsz hW ls hl
  have hts : ∀ w ∈ hx_all, w.before _ s = true := fun w hw => hts0 w (List.mem_cons_of_mem _ hw)
  have hown : s.vm.findClass "SmallCourt" = some m.cls := hown
  refine lv_iload_n hx hb dX9_isHousehold_0 rfl (lv_at hl 0 rfl) ?_
  refine lv_iconst (v := 0) hx hb dX9_isHousehold_1 (by decide) ?_
  refine lv_sipush (v := 9999) hx hb dX9_isHousehold_2 (by decide) ?_
  refine hx_goi (hx_runS (As := [.int i1, .int (0 : Int32), .int (9999 : Int32)]) (rest := []) ⟨hx, hb, hml, hown, hts⟩ hW (c_X9_isWithin l dC dI dA L h s.heap.size i1 (0 : Int32) (9999 : Int32)) (va_cwS 3 hts (hx_gS kw_434 kw_432 kw_433 kw_94) rfl rfl rfl (by decide +kernel) ⟨Nat.le_of_ble_eq_true rfl, Nat.le_of_ble_eq_true rfl⟩) rfl hl.1 rfl (Nat.le_of_ble_eq_true rfl) dX9_isHousehold_5 ⟨Nat.le_of_ble_eq_true rfl, Nat.le_of_ble_eq_true rfl⟩) hW (fun r_3 L_1 h_2 H locs p_4 hW => ?_)
  obtain ⟨p_4, eu⟩ := p_4
  cases eu
  rcases p_4 with ⟨kp_4, rfl⟩ | ⟨kp_4, rfl⟩
  · skip
    have zc1 : (0 : Int32).toInt = 0 := by decide
    have zc2 : (9999 : Int32).toInt = 9999 := by decide
    refine hb_if_eq (zx := 1) (tgt := 45) hx hb (by decide) dX9_isHousehold_8 (by decide) (fun c_5 => absurd c_5 (by decide)) (fun c_5 => ?_)
    refine lv_iload_n hx hb dX9_isHousehold_11 rfl (lv_at hl 1 rfl) ?_
    refine lv_iconst (v := 1) hx hb dX9_isHousehold_12 (by decide) ?_
    refine lv_bipush (v := 20) hx hb dX9_isHousehold_13 (by decide) ?_
    refine hx_goi (hx_runS (As := [.int i2, .int (1 : Int32), .int (20 : Int32)]) (rest := []) ⟨hx, hb, hml, hown, hts⟩ hW (c_X9_isWithin l dC dI dA L h H.size i2 (1 : Int32) (20 : Int32)) (va_cwS 3 hts (hx_gS kw_434 kw_432 kw_433 kw_94) rfl rfl rfl (by decide +kernel) ⟨Nat.le_of_ble_eq_true rfl, Nat.le_of_ble_eq_true rfl⟩) rfl hl.1 rfl (Nat.le_of_ble_eq_true rfl) dX9_isHousehold_15 ⟨Nat.le_of_ble_eq_true rfl, Nat.le_of_ble_eq_true rfl⟩) hW (fun r_8 L_6 h_7 H locs p_9 hW => ?_)
    obtain ⟨p_9, eu⟩ := p_9
    cases eu
    rcases p_9 with ⟨kp_9, rfl⟩ | ⟨kp_9, rfl⟩
    · skip
      have zc1 : (1 : Int32).toInt = 1 := by decide
      have zc2 : (20 : Int32).toInt = 20 := by decide
      refine hb_if_eq (zx := 1) (tgt := 45) hx hb (by decide) dX9_isHousehold_18 (by decide) (fun c_10 => absurd c_10 (by decide)) (fun c_10 => ?_)
      refine lv_iload_n hx hb dX9_isHousehold_21 rfl (lv_at hl 2 rfl) ?_
      refine lv_iconst (v := 0) hx hb dX9_isHousehold_22 (by decide) ?_
      refine lv_bipush (v := 99) hx hb dX9_isHousehold_23 (by decide) ?_
      refine hx_goi (hx_runS (As := [.int i3, .int (0 : Int32), .int (99 : Int32)]) (rest := []) ⟨hx, hb, hml, hown, hts⟩ hW (c_X9_isWithin l dC dI dA L h H.size i3 (0 : Int32) (99 : Int32)) (va_cwS 3 hts (hx_gS kw_434 kw_432 kw_433 kw_94) rfl rfl rfl (by decide +kernel) ⟨Nat.le_of_ble_eq_true rfl, Nat.le_of_ble_eq_true rfl⟩) rfl hl.1 rfl (Nat.le_of_ble_eq_true rfl) dX9_isHousehold_25 ⟨Nat.le_of_ble_eq_true rfl, Nat.le_of_ble_eq_true rfl⟩) hW (fun r_13 L_11 h_12 H locs p_14 hW => ?_)
      obtain ⟨p_14, eu⟩ := p_14
      cases eu
      rcases p_14 with ⟨kp_14, rfl⟩ | ⟨kp_14, rfl⟩
      · skip
        have zc1 : (0 : Int32).toInt = 0 := by decide
        have zc2 : (99 : Int32).toInt = 99 := by decide
        refine hb_if_eq (zx := 1) (tgt := 45) hx hb (by decide) dX9_isHousehold_28 (by decide) (fun c_15 => absurd c_15 (by decide)) (fun c_15 => ?_)
        refine lv_iload_n hx hb dX9_isHousehold_31 rfl (lv_at hl 3 rfl) ?_
        refine lv_iconst (v := 0) hx hb dX9_isHousehold_32 (by decide) ?_
        refine lv_bipush (v := 99) hx hb dX9_isHousehold_33 (by decide) ?_
        refine hx_goi (hx_runS (As := [.int i4, .int (0 : Int32), .int (99 : Int32)]) (rest := []) ⟨hx, hb, hml, hown, hts⟩ hW (c_X9_isWithin l dC dI dA L h H.size i4 (0 : Int32) (99 : Int32)) (va_cwS 3 hts (hx_gS kw_434 kw_432 kw_433 kw_94) rfl rfl rfl (by decide +kernel) ⟨Nat.le_of_ble_eq_true rfl, Nat.le_of_ble_eq_true rfl⟩) rfl hl.1 rfl (Nat.le_of_ble_eq_true rfl) dX9_isHousehold_35 ⟨Nat.le_of_ble_eq_true rfl, Nat.le_of_ble_eq_true rfl⟩) hW (fun r_18 L_16 h_17 H locs p_19 hW => ?_)
        obtain ⟨p_19, eu⟩ := p_19
        cases eu
        rcases p_19 with ⟨kp_19, rfl⟩ | ⟨kp_19, rfl⟩
        · skip
          have zc1 : (0 : Int32).toInt = 0 := by decide
          have zc2 : (99 : Int32).toInt = 99 := by decide
          refine hb_if_eq (zx := 1) (tgt := 45) hx hb (by decide) dX9_isHousehold_38 (by decide) (fun c_20 => absurd c_20 (by decide)) (fun c_20 => ?_)
          refine lv_iconst (v := 1) hx hb dX9_isHousehold_41 (by decide) ?_
          refine lv_goto (tgt := 46) hx hb dX9_isHousehold_42 (by decide) ?_
          exact hx_retz hx hb hr rfl hlk hW ⟨Or.inl ⟨by first | omega | exact id, rfl⟩, rfl⟩ dX9_isHousehold_46
        · skip
          have zc1 : (0 : Int32).toInt = 0 := by decide
          have zc2 : (99 : Int32).toInt = 99 := by decide
          refine hb_if_eq (zx := 0) (tgt := 45) hx hb (by decide) dX9_isHousehold_38 (by decide) (fun c_21 => ?_) (fun c_21 => absurd c_21 (by decide))
          refine lv_iconst (v := 0) hx hb dX9_isHousehold_45 (by decide) ?_
          exact hx_retz hx hb hr rfl hlk hW ⟨Or.inr ⟨by first | omega | exact id, rfl⟩, rfl⟩ dX9_isHousehold_46
      · skip
        have zc1 : (0 : Int32).toInt = 0 := by decide
        have zc2 : (99 : Int32).toInt = 99 := by decide
        refine hb_if_eq (zx := 0) (tgt := 45) hx hb (by decide) dX9_isHousehold_28 (by decide) (fun c_22 => ?_) (fun c_22 => absurd c_22 (by decide))
        refine lv_iconst (v := 0) hx hb dX9_isHousehold_45 (by decide) ?_
        exact hx_retz hx hb hr rfl hlk hW ⟨Or.inr ⟨by first | omega | exact id, rfl⟩, rfl⟩ dX9_isHousehold_46
    · skip
      have zc1 : (1 : Int32).toInt = 1 := by decide
      have zc2 : (20 : Int32).toInt = 20 := by decide
      refine hb_if_eq (zx := 0) (tgt := 45) hx hb (by decide) dX9_isHousehold_18 (by decide) (fun c_23 => ?_) (fun c_23 => absurd c_23 (by decide))
      refine lv_iconst (v := 0) hx hb dX9_isHousehold_45 (by decide) ?_
      exact hx_retz hx hb hr rfl hlk hW ⟨Or.inr ⟨by first | omega | exact id, rfl⟩, rfl⟩ dX9_isHousehold_46
  · skip
    have zc1 : (0 : Int32).toInt = 0 := by decide
    have zc2 : (9999 : Int32).toInt = 9999 := by decide
    refine hb_if_eq (zx := 0) (tgt := 45) hx hb (by decide) dX9_isHousehold_8 (by decide) (fun c_24 => ?_) (fun c_24 => absurd c_24 (by decide))
    refine lv_iconst (v := 0) hx hb dX9_isHousehold_45 (by decide) ?_
    exact hx_retz hx hb hr rfl hlk hW ⟨Or.inr ⟨by first | omega | exact id, rfl⟩, rfl⟩ dX9_isHousehold_46


theorem dX9_livingJudges_0 : decode cX9_livingJudges 0 = .ok (.iconst 0, 1) := by decide +kernel
theorem dX9_livingJudges_1 : decode cX9_livingJudges 1 = .ok (.istore_n 1, 1) := by decide +kernel
theorem dX9_livingJudges_2 : decode cX9_livingJudges 2 = .ok (.iconst 0, 1) := by decide +kernel
theorem dX9_livingJudges_3 : decode cX9_livingJudges 3 = .ok (.istore_n 2, 1) := by decide +kernel
theorem dX9_livingJudges_4 : decode cX9_livingJudges 4 = .ok (.iload_n 2, 1) := by decide +kernel
theorem dX9_livingJudges_5 : decode cX9_livingJudges 5 = .ok (.aload_n 0, 1) := by decide +kernel
theorem dX9_livingJudges_6 : decode cX9_livingJudges 6 = .ok (.getfield 125, 3) := by decide +kernel
theorem dX9_livingJudges_9 : decode cX9_livingJudges 9 = .ok (.if_icmp .ge 41, 3) := by decide +kernel
theorem dX9_livingJudges_50 : decode cX9_livingJudges 50 = .ok (.iload_n 1, 1) := by decide +kernel
theorem dX9_livingJudges_51 : decode cX9_livingJudges 51 = .ok (.ireturn, 1) := by decide +kernel
set_option maxHeartbeats 4000000 in
set_option maxRecDepth 100000 in
theorem c_X9_livingJudges (l : Launch) (dC : Nat → ClassId) (dI : Nat → Nat → Nat) (dA : Nat → ClassId) (L : List Nat) (h : hx_h) (sz : Nat) (x : Nat) (gx : hx_g L h x 9) (f_x_8 : h.2.1 x 8 = 0) : Met l yX9_livingJudges (Cond.code yX9_livingJudges cX9_livingJudges 3 (some .int) :: hx_all) ({ frames := 0, cells := 0, slots := 0, locals := 0 }) (va_Pc [.ref x] (hx_B P_tb (P_ty dA) (dC, dI) vwCl L h sz)) (va_Qi (fun (r : Int32) (u : List Nat × hx_h) => r = 0 ∧ u = (L, h)) (hx_E P_tb (P_ty dA) (dC, dI) vwCl (hx_A L sz)) (hx_A L sz)) 0 0 (hx_A L sz) := by
  refine hx_met (lv := [(0, .ref x)]) (by decide +kernel) rfl (Nat.le_of_ble_eq_true rfl) rfl ?_
  intro p e s m below meth c hx hb hml hr hlk hts0 hown hin hsz hW ls hl
  have hts : ∀ w ∈ hx_all, w.before _ s = true := fun w hw => hts0 w (List.mem_cons_of_mem _ hw)
  have hown : s.vm.findClass "SmallCourt" = some m.cls := hown
  refine lv_iconst (v := 0) hx hb dX9_livingJudges_0 (by decide) ?_
  refine lv_istore_n (lv' := [(1, .int (0 : Int32)), (0, .ref x)]) hx hb dX9_livingJudges_1 rfl hl (by decide) rfl (fun ls hl => ?_)
  refine lv_iconst (v := 0) hx hb dX9_livingJudges_2 (by decide) ?_
  refine lv_istore_n (lv' := [(2, .int (0 : Int32)), (1, .int (0 : Int32)), (0, .ref x)]) hx hb dX9_livingJudges_3 rfl hl (by decide) rfl (fun ls hl => ?_)
  refine lv_iload_n hx hb dX9_livingJudges_4 rfl (lv_at hl 0 rfl) ?_
  refine lv_aload_n hx hb dX9_livingJudges_5 rfl (lv_at hl 2 rfl) ?_
  refine hk_geti hx hb hts hC_9 hown hW gx td_9 8 (by decide) rfl kw_372 ⟨rfl, rfl, rfl⟩ f_x_8 dX9_livingJudges_6 ?_
  refine hb_icmp_ge (zx := 0) (zy := 0) (tgt := 50) hx hb (by decide) (by decide) dX9_livingJudges_9 (by decide) (fun c_1 => ?_) (fun c_1 => absurd c_1 (by decide))
  refine lv_iload_n hx hb dX9_livingJudges_50 rfl (lv_at hl 1 rfl) ?_
  exact hx_reti hx hb hr hlk hW ⟨rfl, rfl⟩ dX9_livingJudges_51

