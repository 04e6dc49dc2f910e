theorem dX9_inForce_0 : decode cX9_inForce 0 = .ok (.aload_n 0, 1) := by decide +kernel
theorem dX9_inForce_1 : decode cX9_inForce 1 = .ok (.getfield 25, 3) := by decide +kernel
theorem dX9_inForce_4 : decode cX9_inForce 4 = .ok (.astore_n 2, 1) := by decide +kernel
theorem dX9_inForce_5 : decode cX9_inForce 5 = .ok (.iconst 0, 1) := by decide +kernel
theorem dX9_inForce_6 : decode cX9_inForce 6 = .ok (.istore_n 3, 1) := by decide +kernel
theorem dX9_inForce_7 : decode cX9_inForce 7 = .ok (.iload_n 3, 1) := by decide +kernel
theorem dX9_inForce_8 : decode cX9_inForce 8 = .ok (.aload_n 0, 1) := by decide +kernel
theorem dX9_inForce_9 : decode cX9_inForce 9 = .ok (.getfield 105, 3) := by decide +kernel
theorem dX9_inForce_12 : decode cX9_inForce 12 = .ok (.if_icmp .ge 45, 3) := by decide +kernel
theorem dX9_inForce_57 : decode cX9_inForce 57 = .ok (.aload_n 2, 1) := by decide +kernel
theorem dX9_inForce_58 : decode cX9_inForce 58 = .ok (.areturn, 1) := by decide +kernel
set_option maxHeartbeats 4000000 in
set_option maxRecDepth 100000 in
theorem c_X9_inForce (l : Launch) (dC : Nat → ClassId) (dI : Nat → Nat → Nat) (dA : Nat → ClassId) (L : List Nat) (h : hx_h) (sz : Nat) (x : Nat) (d : Int32) (gx : hx_g L h x 9) (f_x_6 : h.2.1 x 6 = 0) (qa : Nat) (gqa : hx_g L h qa 0) (f_x_4 : h.2.2 x 4 = some qa) : Met l yX9_inForce (Cond.code yX9_inForce cX9_inForce 4 (some (.object "SmallCourt$Act")) :: hx_all) ({ frames := 0, cells := 0, slots := 0, locals := 0 }) (va_Pc [.ref x, .int d] (hx_B P_tb (P_ty dA) (dC, dI) vwCl L h sz)) (va_Qq (fun (r : Option Nat) (u : List Nat × hx_h) => (r = some qa) ∧ u = (L, h)) (hx_E P_tb (P_ty dA) (dC, dI) vwCl (hx_A L sz)) (hx_A L sz)) 0 0 (hx_A L sz) := by
  refine hx_met (lv := [(0, .ref x), (1, .int d)]) (by decide +kernel) rfl (Nat.le_of_ble_eq_true rfl) rfl ?_
  intro p e s m below meth c hx hb hml hr hlk hts0 hown hin hsz hW ls hl
  have hts : ∀ w ∈ hx_all, w.before _ s = true := fun w hw => hts0 w (List.mem_cons_of_mem _ hw)
  have hown : s.vm.findClass "SmallCourt" = some m.cls := hown
  refine lv_aload_n hx hb dX9_inForce_0 rfl (lv_at hl 0 rfl) ?_
  refine hk_getr hx hb hts hC_9 hown hW gx td_9 4 (by decide) rfl kw_368 ⟨rfl, rfl, rfl⟩ f_x_4 dX9_inForce_1 ?_
  refine lv_astore_n (lv' := [(2, .ref qa), (0, .ref x), (1, .int d)]) hx hb dX9_inForce_4 rfl hl (by decide) rfl (fun ls hl => ?_)
  refine lv_iconst (v := 0) hx hb dX9_inForce_5 (by decide) ?_
  refine lv_istore_n (lv' := [(3, .int (0 : Int32)), (2, .ref qa), (0, .ref x), (1, .int d)]) hx hb dX9_inForce_6 rfl hl (by decide) rfl (fun ls hl => ?_)
  refine lv_iload_n hx hb dX9_inForce_7 rfl (lv_at hl 0 rfl) ?_
  refine lv_aload_n hx hb dX9_inForce_8 rfl (lv_at hl 2 rfl) ?_
  refine hk_geti hx hb hts hC_9 hown hW gx td_9 6 (by decide) rfl kw_370 ⟨rfl, rfl, rfl⟩ f_x_6 dX9_inForce_9 ?_
  refine hb_icmp_ge (zx := 0) (zy := 0) (tgt := 57) hx hb (by decide) (by decide) dX9_inForce_12 (by decide) (fun c_1 => ?_) (fun c_1 => absurd c_1 (by decide))
  refine lv_aload_n hx hb dX9_inForce_57 rfl (lv_at hl 1 rfl) ?_
  exact hx_retq (v := (some qa)) hx hb hr (Or.inl ⟨_, rfl⟩) hlk hW ⟨rfl, rfl⟩ dX9_inForce_58


theorem dX9_force_0 : decode cX9_force 0 = .ok (.iload_n 1, 1) := by decide +kernel
theorem dX9_force_1 : decode cX9_force 1 = .ok (.invokestatic 90, 3) := by decide +kernel
theorem dX9_force_4 : decode cX9_force 4 = .ok (.ifCond .eq 13, 3) := by decide +kernel
theorem dX9_force_7 : decode cX9_force 7 = .ok (.iload_n 2, 1) := by decide +kernel
theorem dX9_force_8 : decode cX9_force 8 = .ok (.ifCond .lt 9, 3) := by decide +kernel
theorem dX9_force_11 : decode cX9_force 11 = .ok (.iload_n 2, 1) := by decide +kernel
theorem dX9_force_12 : decode cX9_force 12 = .ok (.bipush 14, 2) := by decide +kernel
theorem dX9_force_14 : decode cX9_force 14 = .ok (.if_icmp .lt 5, 3) := by decide +kernel
theorem dX9_force_17 : decode cX9_force 17 = .ok (.iconst (-1), 1) := by decide +kernel
theorem dX9_force_18 : decode cX9_force 18 = .ok (.ireturn, 1) := by decide +kernel
theorem dX9_force_19 : decode cX9_force 19 = .ok (.aload_n 0, 1) := by decide +kernel
theorem dX9_force_20 : decode cX9_force 20 = .ok (.iload_n 1, 1) := by decide +kernel
theorem dX9_force_21 : decode cX9_force 21 = .ok (.invokevirtual 115, 3) := by decide +kernel
theorem dX9_force_24 : decode cX9_force 24 = .ok (.astore_n 3, 1) := by decide +kernel
theorem dX9_force_25 : decode cX9_force 25 = .ok (.iload_n 2, 1) := by decide +kernel
theorem dX9_force_26 : decode cX9_force 26 = .ok (.ifCond .ne 10, 3) := by decide +kernel
theorem dX9_force_29 : decode cX9_force 29 = .ok (.aload_n 3, 1) := by decide +kernel
theorem dX9_force_30 : decode cX9_force 30 = .ok (.getfield 112, 3) := by decide +kernel
theorem dX9_force_33 : decode cX9_force 33 = .ok (.goto 9, 3) := by decide +kernel
theorem dX9_force_36 : decode cX9_force 36 = .ok (.aload_n 3, 1) := by decide +kernel
theorem dX9_force_37 : decode cX9_force 37 = .ok (.getfield 119, 3) := by decide +kernel
theorem dX9_force_40 : decode cX9_force 40 = .ok (.iload_n 2, 1) := by decide +kernel
theorem dX9_force_41 : decode cX9_force 41 = .ok (.iaload, 1) := by decide +kernel
theorem dX9_force_42 : decode cX9_force 42 = .ok (.ireturn, 1) := by decide +kernel
set_option maxHeartbeats 4000000 in
set_option maxRecDepth 100000 in
theorem c_X9_force (l : Launch) (dC : Nat → ClassId) (dI : Nat → Nat → Nat) (dA : Nat → ClassId) (L : List Nat) (h : hx_h) (sz : Nat) (x : Nat) (d : Int32) (i2 : Int32) (gx : hx_g L h x 9) (f_x_6 : h.2.1 x 6 = 0) (qa : Nat) (gqa : hx_g L h qa 0) (f_x_4 : h.2.2 x 4 = some qa) (f_qa_0 : h.2.1 qa 0 = -1) (qt : Nat) (gqt : hx_g L h qt 11) (f_qa_2 : h.2.2 qa 2 = some qt) (fa_qt : ∀ j, j < 14 → h.2.1 qt j = P_wo j) : Met l yX9_force (Cond.code yX9_force cX9_force 4 (some .int) :: hx_all) ({ frames := 2, cells := 0, slots := 0, locals := 42 }) (va_Pc [.ref x, .int d, .int i2] (hx_B P_tb (P_ty dA) (dC, dI) vwCl L h sz)) (va_Qi (fun (r : Int32) (u : List Nat × hx_h) => (((0 ≤ d.toInt ∧ d.toInt ≤ 7999) ∧ (0 ≤ i2.toInt ∧ i2.toInt ≤ 13)) ∧ r = P_fr i2 ∨ ¬ ((0 ≤ d.toInt ∧ d.toInt ≤ 7999) ∧ (0 ≤ i2.toInt ∧ i2.toInt ≤ 13)) ∧ r = -1) ∧ hx_S P_tb [] L h u.1 u.2) (hx_E P_tb (P_ty dA) (dC, dI) vwCl (hx_A L sz)) (hx_A L sz)) 0 0 (hx_A L sz) := by
  refine hx_met (lv := [(0, .ref x), (1, .int d), (2, .int i2)]) (by decide +kernel) rfl (Nat.le_of_ble_eq_true rfl) rfl ?_
  intro p e s m below meth c hx hb hml hr hlk hts0 hown hin hsz hW ls hl
  have hts : ∀ w ∈ hx_all, w.before _ s = true := fun w hw => hts0 w (List.mem_cons_of_mem _ hw)
  have hown : s.vm.findClass "SmallCourt" = some m.cls := hown
  have hM : hx_S P_tb [] L h L h := hx_S.rf
  refine lv_iload_n hx hb dX9_force_0 rfl (lv_at hl 1 rfl) ?_
  refine hx_goi (hx_runS (As := [.int d]) (rest := []) ⟨hx, hb, hml, hown, hts⟩ hW (c_X9_isDay l dC dI dA L h s.heap.size d) (va_cwS 1 hts (hx_gS kw_431 kw_429 kw_430 kw_94) rfl rfl rfl (by decide +kernel) ⟨Nat.le_of_ble_eq_true rfl, Nat.le_of_ble_eq_true rfl⟩) rfl hl.1 rfl (Nat.le_of_ble_eq_true rfl) dX9_force_1 ⟨Nat.le_of_ble_eq_true rfl, Nat.le_of_ble_eq_true rfl⟩) hW (fun r_3 L_1 h_2 H locs p_4 hW => ?_)
  obtain ⟨p_4, eu⟩ := p_4
  cases eu
  rcases p_4 with ⟨kp_4, rfl⟩ | ⟨kp_4, rfl⟩
  · skip
    refine hb_if_eq (zx := 1) (tgt := 17) hx hb (by decide) dX9_force_4 (by decide) (fun c_5 => absurd c_5 (by decide)) (fun c_5 => ?_)
    refine lv_iload_n hx hb dX9_force_7 rfl (lv_at hl 2 rfl) ?_
    refine hb_if_lt (zx := i2.toInt) (tgt := 17) hx hb rfl dX9_force_8 (by decide) (fun c_6 => ?_) (fun c_6 => ?_)
    · skip
      refine lv_iconst (v := -1) hx hb dX9_force_17 (by decide) ?_
      exact hx_reti hx hb hr hlk hW ⟨by first | exact Or.inr ⟨by omega, rfl⟩ | exact Or.inl ⟨by omega, by unfold P_fr; rw [if_pos (by omega)]⟩ | exact Or.inl ⟨by omega, by unfold P_fr; rw [if_neg (by omega)]; rfl⟩, hM⟩ dX9_force_18
    · skip
      refine lv_iload_n hx hb dX9_force_11 rfl (lv_at hl 2 rfl) ?_
      refine lv_bipush (v := 14) hx hb dX9_force_12 (by decide) ?_
      refine hb_icmp_lt (zx := i2.toInt) (zy := 14) (tgt := 19) hx hb rfl (by decide) dX9_force_14 (by decide) (fun c_7 => ?_) (fun c_7 => ?_)
      · skip
        refine lv_aload_n hx hb dX9_force_19 rfl (lv_at hl 0 rfl) ?_
        refine lv_iload_n hx hb dX9_force_20 rfl (lv_at hl 1 rfl) ?_
        refine hx_goq (hx_runV (As := [.int d]) (rest := []) ⟨hx, hb, hml, hown, hts⟩ hW gx td_9 (T := TX9) (N := 20) rfl (c_X9_inForce l dC dI dA L h H.size x d gx f_x_6 qa gqa f_x_4) (cwV 1 hts (hx_gV kw_597 kw_594 kw_596 kw_19 kw_94) rfl rfl rfl (by decide +kernel) ⟨Nat.le_of_ble_eq_true rfl, Nat.le_of_ble_eq_true rfl⟩) rfl hl.1 rfl (Nat.le_of_ble_eq_true rfl) dX9_force_21 ⟨Nat.le_of_ble_eq_true rfl, Nat.le_of_ble_eq_true rfl⟩) hW (fun r_10 L_8 h_9 H locs p_11 hW => ?_)
        obtain ⟨p_11, eu⟩ := p_11
        cases eu
        subst p_11
        refine lv_astore_n (lv' := [(3, .ref qa), (0, .ref x), (1, .int d), (2, .int i2)]) hx hb dX9_force_24 rfl hl (by decide) rfl (fun ls hl => ?_)
        refine lv_iload_n hx hb dX9_force_25 rfl (lv_at hl 3 rfl) ?_
        refine hb_if_ne (zx := i2.toInt) (tgt := 36) hx hb rfl dX9_force_26 (by decide) (fun c_12 => ?_) (fun c_12 => ?_)
        · skip
          refine lv_aload_n hx hb dX9_force_36 rfl (lv_at hl 0 rfl) ?_
          refine hk_getr hx hb hts hC_0 hown hW gqa td_0 2 (by decide) rfl kw_170 ⟨rfl, rfl, rfl⟩ f_qa_2 dX9_force_37 ?_
          refine lv_iload_n hx hb dX9_force_40 rfl (lv_at hl 3 rfl) ?_
          refine hk_iald hx hb hW gqt td_11 rfl ⟨by omega, by omega⟩ (fa_qt _ (hx_tn (by omega) (by omega))) dX9_force_41 ?_
          exact hx_reti hx hb hr hlk hW ⟨by first | exact Or.inr ⟨by omega, rfl⟩ | exact Or.inl ⟨by omega, by unfold P_fr; rw [if_pos (by omega)]⟩ | exact Or.inl ⟨by omega, by unfold P_fr; rw [if_neg (by omega)]; rfl⟩, hM⟩ dX9_force_42
        · skip
          refine lv_aload_n hx hb dX9_force_29 rfl (lv_at hl 0 rfl) ?_
          refine hk_geti hx hb hts hC_0 hown hW gqa td_0 0 (by decide) rfl kw_163 ⟨rfl, rfl, rfl⟩ f_qa_0 dX9_force_30 ?_
          refine lv_goto (tgt := 42) hx hb dX9_force_33 (by decide) ?_
          exact hx_reti hx hb hr hlk hW ⟨by first | exact Or.inr ⟨by omega, rfl⟩ | exact Or.inl ⟨by omega, by unfold P_fr; rw [if_pos (by omega)]⟩ | exact Or.inl ⟨by omega, by unfold P_fr; rw [if_neg (by omega)]; rfl⟩, hM⟩ dX9_force_42
      · skip
        refine lv_iconst (v := -1) hx hb dX9_force_17 (by decide) ?_
        exact hx_reti hx hb hr hlk hW ⟨by first | exact Or.inr ⟨by omega, rfl⟩ | exact Or.inl ⟨by omega, by unfold P_fr; rw [if_pos (by omega)]⟩ | exact Or.inl ⟨by omega, by unfold P_fr; rw [if_neg (by omega)]; rfl⟩, hM⟩ dX9_force_18
  · skip
    refine hb_if_eq (zx := 0) (tgt := 17) hx hb (by decide) dX9_force_4 (by decide) (fun c_13 => ?_) (fun c_13 => absurd c_13 (by decide))
    refine lv_iconst (v := -1) hx hb dX9_force_17 (by decide) ?_
    exact hx_reti hx hb hr hlk hW ⟨by first | exact Or.inr ⟨by omega, rfl⟩ | exact Or.inl ⟨by omega, by unfold P_fr; rw [if_pos (by omega)]⟩ | exact Or.inl ⟨by omega, by unfold P_fr; rw [if_neg (by omega)]; rfl⟩, hM⟩ dX9_force_18


theorem dX10_inForce_0 : decode cX10_inForce 0 = .ok (.iconst 0, 1) := by decide +kernel
theorem dX10_inForce_1 : decode cX10_inForce 1 = .ok (.istore_n 2, 1) := by decide +kernel
theorem dX10_inForce_2 : decode cX10_inForce 2 = .ok (.iconst 1, 1) := by decide +kernel
theorem dX10_inForce_3 : decode cX10_inForce 3 = .ok (.istore_n 3, 1) := by decide +kernel
theorem dX10_inForce_4 : decode cX10_inForce 4 = .ok (.iload_n 3, 1) := by decide +kernel
theorem dX10_inForce_5 : decode cX10_inForce 5 = .ok (.aload_n 0, 1) := by decide +kernel
theorem dX10_inForce_6 : decode cX10_inForce 6 = .ok (.getfield 321, 3) := by decide +kernel
theorem dX10_inForce_9 : decode cX10_inForce 9 = .ok (.if_icmp .gt 40, 3) := by decide +kernel
theorem dX10_inForce_49 : decode cX10_inForce 49 = .ok (.iload_n 2, 1) := by decide +kernel
theorem dX10_inForce_50 : decode cX10_inForce 50 = .ok (.ireturn, 1) := by decide +kernel
set_option maxHeartbeats 4000000 in
set_option maxRecDepth 100000 in
theorem c_X10_inForce (l : Launch) (dC : Nat → ClassId) (dI : Nat → Nat → Nat) (dA : Nat → ClassId) (L : List Nat) (h : hx_h) (sz : Nat) (y : Nat) (d : Int32) (gy : hx_g L h y 10) (f_y_1 : h.2.1 y 1 = 0) : Met l yX10_inForce (Cond.code yX10_inForce cX10_inForce 4 (some .int) :: hx_all) ({ frames := 0, cells := 0, slots := 0, locals := 0 }) (va_Pc [.ref y, .int d] (hx_B P_tb (P_ty dA) (dC, dI) vwCl L h sz)) (va_Qi (fun (r : Int32) (u : List Nat × hx_h) => r = 0 ∧ u = (L, h)) (hx_E P_tb (P_ty dA) (dC, dI) vwCl (hx_A L sz)) (hx_A L sz)) 0 0 (hx_A L sz) := by
  refine hx_met (lv := [(0, .ref y), (1, .int d)]) (by decide +kernel) rfl (Nat.le_of_ble_eq_true rfl) rfl ?_
  intro p e s m below meth c hx hb hml hr hlk hts0 hown hin hsz hW ls hl
  have hts : ∀ w ∈ hx_all, w.before _ s = true := fun w hw => hts0 w (List.mem_cons_of_mem _ hw)
  have hown : s.vm.findClass "SmallCourtModel" = some m.cls := hown
  refine lv_iconst (v := 0) hx hb dX10_inForce_0 (by decide) ?_
  refine lv_istore_n (lv' := [(2, .int (0 : Int32)), (0, .ref y), (1, .int d)]) hx hb dX10_inForce_1 rfl hl (by decide) rfl (fun ls hl => ?_)
  refine lv_iconst (v := 1) hx hb dX10_inForce_2 (by decide) ?_
  refine lv_istore_n (lv' := [(3, .int (1 : Int32)), (2, .int (0 : Int32)), (0, .ref y), (1, .int d)]) hx hb dX10_inForce_3 rfl hl (by decide) rfl (fun ls hl => ?_)
  refine lv_iload_n hx hb dX10_inForce_4 rfl (lv_at hl 0 rfl) ?_
  refine lv_aload_n hx hb dX10_inForce_5 rfl (lv_at hl 2 rfl) ?_
  refine hk_geti hx hb hts hC_10 hown hW gy td_10 1 (by decide) rfl kw_1144 ⟨rfl, rfl, rfl⟩ f_y_1 dX10_inForce_6 ?_
  refine hb_icmp_gt (zx := 1) (zy := 0) (tgt := 49) hx hb (by decide) (by decide) dX10_inForce_9 (by decide) (fun c_1 => ?_) (fun c_1 => absurd c_1 (by decide))
  refine lv_iload_n hx hb dX10_inForce_49 rfl (lv_at hl 1 rfl) ?_
  exact hx_reti hx hb hr hlk hW ⟨rfl, rfl⟩ dX10_inForce_50


theorem dX10_ruleOf_0 : decode cX10_ruleOf 0 = .ok (.aload_n 0, 1) := by decide +kernel
theorem dX10_ruleOf_1 : decode cX10_ruleOf 1 = .ok (.getfield 13, 3) := by decide +kernel
theorem dX10_ruleOf_4 : decode cX10_ruleOf 4 = .ok (.bipush 13, 2) := by decide +kernel
theorem dX10_ruleOf_6 : decode cX10_ruleOf 6 = .ok (.iload_n 1, 1) := by decide +kernel
theorem dX10_ruleOf_7 : decode cX10_ruleOf 7 = .ok (.imul, 1) := by decide +kernel
theorem dX10_ruleOf_8 : decode cX10_ruleOf 8 = .ok (.iload_n 2, 1) := by decide +kernel
theorem dX10_ruleOf_9 : decode cX10_ruleOf 9 = .ok (.iadd, 1) := by decide +kernel
theorem dX10_ruleOf_10 : decode cX10_ruleOf 10 = .ok (.iaload, 1) := by decide +kernel
theorem dX10_ruleOf_11 : decode cX10_ruleOf 11 = .ok (.ireturn, 1) := by decide +kernel
set_option maxHeartbeats 4000000 in
set_option maxRecDepth 100000 in
theorem c_X10_ruleOf (l : Launch) (dC : Nat → ClassId) (dI : Nat → Nat → Nat) (dA : Nat → ClassId) (L : List Nat) (h : hx_h) (sz : Nat) (y : Nat) (i2 : Int32) (gy : hx_g L h y 10) (hi : 0 ≤ i2.toInt ∧ i2.toInt ≤ 12) (qr : Nat) (gqr : hx_g L h qr 50) (f_y_3 : h.2.2 y 3 = some qr) (fa_qr : ∀ j, j < 13 → h.2.1 qr j = P_w1 j) : Met l yX10_ruleOf (Cond.code yX10_ruleOf cX10_ruleOf 3 (some .int) :: hx_all) ({ frames := 0, cells := 0, slots := 0, locals := 0 }) (va_Pc [.ref y, .int (0 : Int32), .int i2] (hx_B P_tb (P_ty dA) (dC, dI) vwCl L h sz)) (va_Qi (fun (r : Int32) (u : List Nat × hx_h) => (r = P_wo (i2.toInt.toNat + 1)) ∧ u = (L, h)) (hx_E P_tb (P_ty dA) (dC, dI) vwCl (hx_A L sz)) (hx_A L sz)) 0 0 (hx_A L sz) := by
  refine hx_met (lv := [(0, .ref y), (1, .int (0 : Int32)), (2, .int i2)]) (by decide +kernel) rfl (Nat.le_of_ble_eq_true rfl) rfl ?_
  intro p e s m below meth c hx hb hml hr hlk hts0 hown hin hsz hW ls hl
  have hts : ∀ w ∈ hx_all, w.before _ s = true := fun w hw => hts0 w (List.mem_cons_of_mem _ hw)
  have hown : s.vm.findClass "SmallCourtModel" = some m.cls := hown
  refine lv_aload_n hx hb dX10_ruleOf_0 rfl (lv_at hl 0 rfl) ?_
  refine hk_getr hx hb hts hC_10 hown hW gy td_10 3 (by decide) rfl kw_1146 ⟨rfl, rfl, rfl⟩ f_y_3 dX10_ruleOf_1 ?_
  refine lv_bipush (v := 13) hx hb dX10_ruleOf_4 (by decide) ?_
  refine lv_iload_n hx hb dX10_ruleOf_6 rfl (lv_at hl 1 rfl) ?_
  refine lv_imul hx hb dX10_ruleOf_7 ?_
  refine lv_topi (fun x_1 ex_1 => ?_)
  obtain rfl : x_1 = (0 : Int32) := ex_1.trans (by decide)
  refine lv_iload_n hx hb dX10_ruleOf_8 rfl (lv_at hl 2 rfl) ?_
  refine lv_iadd hx hb dX10_ruleOf_9 ?_
  refine lv_topi (fun x_2 ex_2 => ?_)
  have zx_2 : x_2.toInt = 0 + i2.toInt := by rw [ex_2]; exact i32_add (by decide) rfl (by omega) (by omega)
  refine hk_iald hx hb hW gqr td_50 rfl ⟨by omega, by omega⟩ (fa_qr _ (hx_tn (by omega) (by omega))) dX10_ruleOf_10 ?_
  exact hx_reti hx hb hr hlk hW ⟨by show P_wo _ = P_wo _; congr 1; unfold Int32.toNatClampNeg; omega, rfl⟩ dX10_ruleOf_11


theorem dX10_force_0 : decode cX10_force 0 = .ok (.iload_n 1, 1) := by decide +kernel
theorem dX10_force_1 : decode cX10_force 1 = .ok (.invokestatic 324, 3) := by decide +kernel
theorem dX10_force_4 : decode cX10_force 4 = .ok (.ifCond .eq 13, 3) := by decide +kernel
theorem dX10_force_7 : decode cX10_force 7 = .ok (.iload_n 2, 1) := by decide +kernel
theorem dX10_force_8 : decode cX10_force 8 = .ok (.iconst 0, 1) := by decide +kernel
theorem dX10_force_9 : decode cX10_force 9 = .ok (.bipush 13, 2) := by decide +kernel
theorem dX10_force_11 : decode cX10_force 11 = .ok (.invokestatic 228, 3) := by decide +kernel
theorem dX10_force_14 : decode cX10_force 14 = .ok (.ifCond .ne 5, 3) := by decide +kernel
theorem dX10_force_17 : decode cX10_force 17 = .ok (.iconst (-1), 1) := by decide +kernel
theorem dX10_force_18 : decode cX10_force 18 = .ok (.ireturn, 1) := by decide +kernel
theorem dX10_force_19 : decode cX10_force 19 = .ok (.aload_n 0, 1) := by decide +kernel
theorem dX10_force_20 : decode cX10_force 20 = .ok (.iload_n 1, 1) := by decide +kernel
theorem dX10_force_21 : decode cX10_force 21 = .ok (.invokevirtual 330, 3) := by decide +kernel
theorem dX10_force_24 : decode cX10_force 24 = .ok (.istore_n 3, 1) := by decide +kernel
theorem dX10_force_25 : decode cX10_force 25 = .ok (.iload_n 2, 1) := by decide +kernel
theorem dX10_force_26 : decode cX10_force 26 = .ok (.ifCond .ne 9, 3) := by decide +kernel
theorem dX10_force_29 : decode cX10_force 29 = .ok (.iload_n 3, 1) := by decide +kernel
theorem dX10_force_30 : decode cX10_force 30 = .ok (.iconst 1, 1) := by decide +kernel
theorem dX10_force_31 : decode cX10_force 31 = .ok (.isub, 1) := by decide +kernel
theorem dX10_force_32 : decode cX10_force 32 = .ok (.goto 11, 3) := by decide +kernel
theorem dX10_force_35 : decode cX10_force 35 = .ok (.aload_n 0, 1) := by decide +kernel
theorem dX10_force_36 : decode cX10_force 36 = .ok (.iload_n 3, 1) := by decide +kernel
theorem dX10_force_37 : decode cX10_force 37 = .ok (.iload_n 2, 1) := by decide +kernel
theorem dX10_force_38 : decode cX10_force 38 = .ok (.iconst 1, 1) := by decide +kernel
theorem dX10_force_39 : decode cX10_force 39 = .ok (.isub, 1) := by decide +kernel
theorem dX10_force_40 : decode cX10_force 40 = .ok (.invokevirtual 333, 3) := by decide +kernel
theorem dX10_force_43 : decode cX10_force 43 = .ok (.ireturn, 1) := by decide +kernel
set_option maxHeartbeats 4000000 in
set_option maxRecDepth 100000 in
theorem c_X10_force (l : Launch) (dC : Nat → ClassId) (dI : Nat → Nat → Nat) (dA : Nat → ClassId) (L : List Nat) (h : hx_h) (sz : Nat) (y : Nat) (d : Int32) (i2 : Int32) (gy : hx_g L h y 10) (f_y_1 : h.2.1 y 1 = 0) (qr : Nat) (gqr : hx_g L h qr 50) (f_y_3 : h.2.2 y 3 = some qr) (fa_qr : ∀ j, j < 13 → h.2.1 qr j = P_w1 j) : Met l yX10_force (Cond.code yX10_force cX10_force 4 (some .int) :: hx_all) ({ frames := 2, cells := 0, slots := 0, locals := 42 }) (va_Pc [.ref y, .int d, .int i2] (hx_B P_tb (P_ty dA) (dC, dI) vwCl L h sz)) (va_Qi (fun (r : Int32) (u : List Nat × hx_h) => (((0 ≤ d.toInt ∧ d.toInt ≤ 7999) ∧ (0 ≤ i2.toInt ∧ i2.toInt ≤ 13)) ∧ r = P_fr i2 ∨ ¬ ((0 ≤ d.toInt ∧ d.toInt ≤ 7999) ∧ (0 ≤ i2.toInt ∧ i2.toInt ≤ 13)) ∧ r = -1) ∧ hx_S P_tb [] L h u.1 u.2) (hx_E P_tb (P_ty dA) (dC, dI) vwCl (hx_A L sz)) (hx_A L sz)) 0 0 (hx_A L sz) := by
  refine hx_met (lv := [(0, .ref y), (1, .int d), (2, .int i2)]) (by decide +kernel) rfl (Nat.le_of_ble_eq_true rfl) rfl ?_
  intro p e s m below meth c hx hb hml hr hlk hts0 hown hin hsz hW ls hl
  have hts : ∀ w ∈ hx_all, w.before _ s = true := fun w hw => hts0 w (List.mem_cons_of_mem _ hw)
  have hown : s.vm.findClass "SmallCourtModel" = some m.cls := hown
  have hM : hx_S P_tb [] L h L h := hx_S.rf
  refine lv_iload_n hx hb dX10_force_0 rfl (lv_at hl 1 rfl) ?_
  refine hx_goi (hx_runS (As := [.int d]) (rest := []) ⟨hx, hb, hml, hown, hts⟩ hW (c_X10_isDay l dC dI dA L h s.heap.size d) (va_cwS 1 hts (hx_gS kw_1464 kw_1462 kw_1463 kw_103) rfl rfl rfl (by decide +kernel) ⟨Nat.le_of_ble_eq_true rfl, Nat.le_of_ble_eq_true rfl⟩) rfl hl.1 rfl (Nat.le_of_ble_eq_true rfl) dX10_force_1 ⟨Nat.le_of_ble_eq_true rfl, Nat.le_of_ble_eq_true rfl⟩) hW (fun r_3 L_1 h_2 H locs p_4 hW => ?_)
  obtain ⟨p_4, eu⟩ := p_4
  cases eu
  rcases p_4 with ⟨kp_4, rfl⟩ | ⟨kp_4, rfl⟩
  · skip
    refine hb_if_eq (zx := 1) (tgt := 17) hx hb (by decide) dX10_force_4 (by decide) (fun c_5 => absurd c_5 (by decide)) (fun c_5 => ?_)
    refine lv_iload_n hx hb dX10_force_7 rfl (lv_at hl 2 rfl) ?_
    refine lv_iconst (v := 0) hx hb dX10_force_8 (by decide) ?_
    refine lv_bipush (v := 13) hx hb dX10_force_9 (by decide) ?_
    refine hx_goi (hx_runS (As := [.int i2, .int (0 : Int32), .int (13 : Int32)]) (rest := []) ⟨hx, hb, hml, hown, hts⟩ hW (c_X10_in l dC dI dA L h H.size i2 (0 : Int32) (13 : Int32)) (va_cwS 3 hts (hx_gS kw_1445 kw_1443 kw_1444 kw_103) rfl rfl rfl (by decide +kernel) ⟨Nat.le_of_ble_eq_true rfl, Nat.le_of_ble_eq_true rfl⟩) rfl hl.1 rfl (Nat.le_of_ble_eq_true rfl) dX10_force_11 ⟨Nat.le_of_ble_eq_true rfl, Nat.le_of_ble_eq_true rfl⟩) hW (fun r_8 L_6 h_7 H locs p_9 hW => ?_)
    obtain ⟨p_9, eu⟩ := p_9
    cases eu
    rcases p_9 with ⟨kp_9, rfl⟩ | ⟨kp_9, rfl⟩
    · skip
      have zc1 : (0 : Int32).toInt = 0 := by decide
      have zc2 : (13 : Int32).toInt = 13 := by decide
      refine hb_if_ne (zx := 1) (tgt := 19) hx hb (by decide) dX10_force_14 (by decide) (fun c_10 => ?_) (fun c_10 => absurd c_10 (by decide))
      refine lv_aload_n hx hb dX10_force_19 rfl (lv_at hl 0 rfl) ?_
      refine lv_iload_n hx hb dX10_force_20 rfl (lv_at hl 1 rfl) ?_
      refine hx_goi (hx_runV (As := [.int d]) (rest := []) ⟨hx, hb, hml, hown, hts⟩ hW gy td_10 (T := TX10) (N := 98) rfl (c_X10_inForce l dC dI dA L h H.size y d gy f_y_1) (cwV 1 hts (hx_gV kw_1529 kw_1526 kw_1528 kw_65 kw_103) rfl rfl rfl (by decide +kernel) ⟨Nat.le_of_ble_eq_true rfl, Nat.le_of_ble_eq_true rfl⟩) rfl hl.1 rfl (Nat.le_of_ble_eq_true rfl) dX10_force_21 ⟨Nat.le_of_ble_eq_true rfl, Nat.le_of_ble_eq_true rfl⟩) hW (fun r_13 L_11 h_12 H locs p_14 hW => ?_)
      obtain ⟨rfl, eu⟩ := p_14
      cases eu
      refine lv_istore_n (lv' := [(3, .int (0 : Int32)), (0, .ref y), (1, .int d), (2, .int i2)]) hx hb dX10_force_24 rfl hl (by decide) rfl (fun ls hl => ?_)
      refine lv_iload_n hx hb dX10_force_25 rfl (lv_at hl 3 rfl) ?_
      refine hb_if_ne (zx := i2.toInt) (tgt := 35) hx hb rfl dX10_force_26 (by decide) (fun c_15 => ?_) (fun c_15 => ?_)
      · skip
        refine lv_aload_n hx hb dX10_force_35 rfl (lv_at hl 1 rfl) ?_
        refine lv_iload_n hx hb dX10_force_36 rfl (lv_at hl 0 rfl) ?_
        refine lv_iload_n hx hb dX10_force_37 rfl (lv_at hl 3 rfl) ?_
        refine lv_iconst (v := 1) hx hb dX10_force_38 (by decide) ?_
        refine lv_isub hx hb dX10_force_39 ?_
        refine lv_topi (fun x_16 ex_16 => ?_)
        have zx_16 : x_16.toInt = i2.toInt - 1 := by rw [ex_16]; exact i32_sub rfl (by decide) (by omega) (by omega)
        refine hx_goi (hx_runV (As := [.int (0 : Int32), .int x_16]) (rest := []) ⟨hx, hb, hml, hown, hts⟩ hW gy td_10 (T := TX10) (N := 98) rfl (c_X10_ruleOf l dC dI dA L h H.size y x_16 gy ⟨by omega, by omega⟩ qr gqr f_y_3 fa_qr) (cwV 2 hts (hx_gV kw_1533 kw_1530 kw_1532 kw_66 kw_103) rfl rfl rfl (by decide +kernel) ⟨Nat.le_of_ble_eq_true rfl, Nat.le_of_ble_eq_true rfl⟩) rfl hl.1 rfl (Nat.le_of_ble_eq_true rfl) dX10_force_40 ⟨Nat.le_of_ble_eq_true rfl, Nat.le_of_ble_eq_true rfl⟩) hW (fun r_19 L_17 h_18 H locs p_20 hW => ?_)
        obtain ⟨p_20, eu⟩ := p_20
        cases eu
        exact hx_reti hx hb hr hlk hW ⟨by first | exact Or.inr ⟨by omega, rfl⟩ | exact Or.inl ⟨by omega, by unfold P_fr; rw [if_pos (by omega)]⟩ | exact Or.inl ⟨by omega, by unfold P_fr; rw [if_neg (by omega)]; refine Eq.trans (by assumption) (congrArg P_wo (by omega))⟩, hM⟩ dX10_force_43
      · skip
        refine lv_iload_n hx hb dX10_force_29 rfl (lv_at hl 0 rfl) ?_
        refine lv_iconst (v := 1) hx hb dX10_force_30 (by decide) ?_
        refine lv_isub hx hb dX10_force_31 ?_
        refine lv_topi (fun x_21 ex_21 => ?_)
        obtain rfl : x_21 = (-1 : Int32) := ex_21.trans (by decide)
        refine lv_goto (tgt := 43) hx hb dX10_force_32 (by decide) ?_
        exact hx_reti hx hb hr hlk hW ⟨by first | exact Or.inr ⟨by omega, rfl⟩ | exact Or.inl ⟨by omega, by unfold P_fr; rw [if_pos (by omega)]⟩ | exact Or.inl ⟨by omega, by unfold P_fr; rw [if_neg (by omega)]; refine Eq.trans (by assumption) (congrArg P_wo (by omega))⟩, hM⟩ dX10_force_43
    · skip
      have zc1 : (0 : Int32).toInt = 0 := by decide
      have zc2 : (13 : Int32).toInt = 13 := by decide
      refine hb_if_ne (zx := 0) (tgt := 19) hx hb (by decide) dX10_force_14 (by decide) (fun c_22 => absurd c_22 (by decide)) (fun c_22 => ?_)
      refine lv_iconst (v := -1) hx hb dX10_force_17 (by decide) ?_
      exact hx_reti hx hb hr hlk hW ⟨by first | exact Or.inr ⟨by omega, rfl⟩ | exact Or.inl ⟨by omega, by unfold P_fr; rw [if_pos (by omega)]⟩ | exact Or.inl ⟨by omega, by unfold P_fr; rw [if_neg (by omega)]; refine Eq.trans (by assumption) (congrArg P_wo (by omega))⟩, hM⟩ dX10_force_18
  · skip
    refine hb_if_eq (zx := 0) (tgt := 17) hx hb (by decide) dX10_force_4 (by decide) (fun c_23 => ?_) (fun c_23 => absurd c_23 (by decide))
    refine lv_iconst (v := -1) hx hb dX10_force_17 (by decide) ?_
    exact hx_reti hx hb hr hlk hW ⟨by first | exact Or.inr ⟨by omega, rfl⟩ | exact Or.inl ⟨by omega, by unfold P_fr; rw [if_pos (by omega)]⟩ | exact Or.inl ⟨by omega, by unfold P_fr; rw [if_neg (by omega)]; refine Eq.trans (by assumption) (congrArg P_wo (by omega))⟩, hM⟩ dX10_force_18

