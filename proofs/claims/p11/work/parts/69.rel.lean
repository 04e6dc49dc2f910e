
set_option maxHeartbeats 4000000 in
set_option maxRecDepth 100000 in
theorem t_X9_isHousehold_2 (l : Launch) (dC : Nat → ClassId) (dI : Nat → Nat → Nat) (dA : Nat → ClassId) (L : List Nat) (h : hx_h) (sz : Nat) (i1 : Int32) (i2 : Int32) (i3 : Int32) (i4 : Int32) (hT : hx_T T_tb L h)   : Met l yX9_isHousehold (Cond.code yX9_isHousehold cX9_isHousehold 4 (some .boolean) :: hx_all) ({ frames := 1, cells := 0, slots := 0, locals := 22 }) (va_Pc [.int i1, .int i2, .int i3, .int i4] (hx_B T_tb (P_ty dA) (dC, dI) vwCl L h sz)) (va_Qi (fun (r : Int32) (u : List Nat × hx_h) => ((r.toInt = 0 ∧ (i1.toInt < 0 ∨ 9999 < i1.toInt ∨ i2.toInt < 1 ∨ 20 < i2.toInt ∨ i3.toInt < 0 ∨ 99 < i3.toInt ∨ i4.toInt < 0 ∨ 99 < i4.toInt)) ∨ (r.toInt = 1 ∧ 0 ≤ i1.toInt ∧ i1.toInt ≤ 9999 ∧ 1 ≤ i2.toInt ∧ i2.toInt ≤ 20 ∧ 0 ≤ i3.toInt ∧ i3.toInt ≤ 99 ∧ 0 ≤ i4.toInt ∧ i4.toInt ≤ 99)) ∧ hx_T T_tb u.1 u.2 ∧ hx_S T_tb [] L h u.1 u.2) (hx_E T_tb (P_ty dA) (dC, dI) vwCl (hx_A L sz)) (hx_A L sz)) 0 0 (hx_A L sz) := by
  refine hx_met (lv := [(0, .int i1), (1, .int i2), (2, .int i3), (3, .int i4)]) (by decide +kernel) rfl (Nat.le_of_ble_eq_true rfl) rfl ?_
  intro p e s m below meth c hx hb hml hr hlk hts0 hown hin hsz hW ls hl
  have hts : ∀ w ∈ hx_all, w.before _ s = true := fun w hw => hts0 w (List.mem_cons_of_mem _ hw)
  have hown : s.vm.findClass "SmallCourt" = some m.cls := hown
  have hM : hx_S T_tb [] L h L h := hx_S.rf
  refine lv_iload_n hx hb dX9_isHousehold_0 rfl (lv_at hl 0 rfl) ?_
  refine lv_iconst (v := 0) hx hb dX9_isHousehold_1 (by decide) ?_
  refine lv_sipush (v := 9999) hx hb dX9_isHousehold_2 (by decide) ?_
  have zc_9999 : (9999 : Int32).toInt = 9999 := by decide
  have zc_0 : (0 : Int32).toInt = 0 := by decide
  refine hx_goi (hx_runS (As := [.int i1, .int (0 : Int32), .int (9999 : Int32)]) (rest := []) ⟨hx, hb, hml, hown, hts⟩ hW (t_X9_isWithin_2 l dC dI dA L h s.heap.size i1 (0 : Int32) (9999 : Int32) hT) (va_cwS 3 hts (hx_gS kw_434 kw_432 kw_433 kw_94) rfl rfl rfl (by decide +kernel) ⟨Nat.le_of_ble_eq_true rfl, Nat.le_of_ble_eq_true rfl⟩) rfl hl.1 rfl (Nat.le_of_ble_eq_true rfl) dX9_isHousehold_5 ⟨Nat.le_of_ble_eq_true rfl, Nat.le_of_ble_eq_true rfl⟩) hW (fun r_3 L_1 h_2 H locs p_4 hW => ?_)
  obtain ⟨hr_5, hT, hs⟩ := p_4
  have hT : hx_T T_tb L_1 h_2 := hT
  have hs : hx_S T_tb [] L h L_1 h_2 := hs
  have hM := hM.tr (hs.mono (by decide))
  refine hb_if_eq (zx := r_3.toInt) (tgt := 45) hx hb rfl dX9_isHousehold_8 (by decide) (fun c_6 => ?_) (fun c_6 => ?_)
  · skip
    refine lv_iconst (v := 0) hx hb dX9_isHousehold_45 (by decide) ?_
    exact hx_retz hx hb hr rfl hlk hW ⟨(by have zr : (0 : Int32).toInt = 0 := (by decide); (first | omega | (refine ⟨?_, ?_⟩ <;> omega))), hT, hM⟩ dX9_isHousehold_46
  · skip
    refine lv_iload_n hx hb dX9_isHousehold_11 rfl (lv_at hl 1 rfl) ?_
    refine lv_iconst (v := 1) hx hb dX9_isHousehold_12 (by decide) ?_
    refine lv_bipush (v := 20) hx hb dX9_isHousehold_13 (by decide) ?_
    have zc_20 : (20 : Int32).toInt = 20 := by decide
    have zc_1 : (1 : Int32).toInt = 1 := by decide
    refine hx_goi (hx_runS (As := [.int i2, .int (1 : Int32), .int (20 : Int32)]) (rest := []) ⟨hx, hb, hml, hown, hts⟩ hW (t_X9_isWithin_2 l dC dI dA L_1 h_2 H.size i2 (1 : Int32) (20 : Int32) hT) (va_cwS 3 hts (hx_gS kw_434 kw_432 kw_433 kw_94) rfl rfl rfl (by decide +kernel) ⟨Nat.le_of_ble_eq_true rfl, Nat.le_of_ble_eq_true rfl⟩) rfl hl.1 rfl (Nat.le_of_ble_eq_true rfl) dX9_isHousehold_15 ⟨Nat.le_of_ble_eq_true rfl, Nat.le_of_ble_eq_true rfl⟩) hW (fun r_9 L_7 h_8 H locs p_10 hW => ?_)
    obtain ⟨hr_11, hT, hs⟩ := p_10
    have hT : hx_T T_tb L_7 h_8 := hT
    have hs : hx_S T_tb [] L_1 h_2 L_7 h_8 := hs
    have hM := hM.tr (hs.mono (by decide))
    refine hb_if_eq (zx := r_9.toInt) (tgt := 45) hx hb rfl dX9_isHousehold_18 (by decide) (fun c_12 => ?_) (fun c_12 => ?_)
    · skip
      refine lv_iconst (v := 0) hx hb dX9_isHousehold_45 (by decide) ?_
      exact hx_retz hx hb hr rfl hlk hW ⟨(by have zr : (0 : Int32).toInt = 0 := (by decide); (first | omega | (refine ⟨?_, ?_⟩ <;> omega))), hT, hM⟩ dX9_isHousehold_46
    · skip
      refine lv_iload_n hx hb dX9_isHousehold_21 rfl (lv_at hl 2 rfl) ?_
      refine lv_iconst (v := 0) hx hb dX9_isHousehold_22 (by decide) ?_
      refine lv_bipush (v := 99) hx hb dX9_isHousehold_23 (by decide) ?_
      have zc_99 : (99 : Int32).toInt = 99 := by decide
      refine hx_goi (hx_runS (As := [.int i3, .int (0 : Int32), .int (99 : Int32)]) (rest := []) ⟨hx, hb, hml, hown, hts⟩ hW (t_X9_isWithin_2 l dC dI dA L_7 h_8 H.size i3 (0 : Int32) (99 : Int32) hT) (va_cwS 3 hts (hx_gS kw_434 kw_432 kw_433 kw_94) rfl rfl rfl (by decide +kernel) ⟨Nat.le_of_ble_eq_true rfl, Nat.le_of_ble_eq_true rfl⟩) rfl hl.1 rfl (Nat.le_of_ble_eq_true rfl) dX9_isHousehold_25 ⟨Nat.le_of_ble_eq_true rfl, Nat.le_of_ble_eq_true rfl⟩) hW (fun r_15 L_13 h_14 H locs p_16 hW => ?_)
      obtain ⟨hr_17, hT, hs⟩ := p_16
      have hT : hx_T T_tb L_13 h_14 := hT
      have hs : hx_S T_tb [] L_7 h_8 L_13 h_14 := hs
      have hM := hM.tr (hs.mono (by decide))
      refine hb_if_eq (zx := r_15.toInt) (tgt := 45) hx hb rfl dX9_isHousehold_28 (by decide) (fun c_18 => ?_) (fun c_18 => ?_)
      · skip
        refine lv_iconst (v := 0) hx hb dX9_isHousehold_45 (by decide) ?_
        exact hx_retz hx hb hr rfl hlk hW ⟨(by have zr : (0 : Int32).toInt = 0 := (by decide); (first | omega | (refine ⟨?_, ?_⟩ <;> omega))), hT, hM⟩ dX9_isHousehold_46
      · skip
        refine lv_iload_n hx hb dX9_isHousehold_31 rfl (lv_at hl 3 rfl) ?_
        refine lv_iconst (v := 0) hx hb dX9_isHousehold_32 (by decide) ?_
        refine lv_bipush (v := 99) hx hb dX9_isHousehold_33 (by decide) ?_
        refine hx_goi (hx_runS (As := [.int i4, .int (0 : Int32), .int (99 : Int32)]) (rest := []) ⟨hx, hb, hml, hown, hts⟩ hW (t_X9_isWithin_2 l dC dI dA L_13 h_14 H.size i4 (0 : Int32) (99 : Int32) hT) (va_cwS 3 hts (hx_gS kw_434 kw_432 kw_433 kw_94) rfl rfl rfl (by decide +kernel) ⟨Nat.le_of_ble_eq_true rfl, Nat.le_of_ble_eq_true rfl⟩) rfl hl.1 rfl (Nat.le_of_ble_eq_true rfl) dX9_isHousehold_35 ⟨Nat.le_of_ble_eq_true rfl, Nat.le_of_ble_eq_true rfl⟩) hW (fun r_21 L_19 h_20 H locs p_22 hW => ?_)
        obtain ⟨hr_23, hT, hs⟩ := p_22
        have hT : hx_T T_tb L_19 h_20 := hT
        have hs : hx_S T_tb [] L_13 h_14 L_19 h_20 := hs
        have hM := hM.tr (hs.mono (by decide))
        refine hb_if_eq (zx := r_21.toInt) (tgt := 45) hx hb rfl dX9_isHousehold_38 (by decide) (fun c_24 => ?_) (fun c_24 => ?_)
        · skip
          refine lv_iconst (v := 0) hx hb dX9_isHousehold_45 (by decide) ?_
          exact hx_retz hx hb hr rfl hlk hW ⟨(by have zr : (0 : Int32).toInt = 0 := (by decide); (first | omega | (refine ⟨?_, ?_⟩ <;> omega))), hT, hM⟩ dX9_isHousehold_46
        · skip
          refine lv_iconst (v := 1) hx hb dX9_isHousehold_41 (by decide) ?_
          refine lv_goto (tgt := 46) hx hb dX9_isHousehold_42 (by decide) ?_
          exact hx_retz hx hb hr rfl hlk hW ⟨(by have zr : (1 : Int32).toInt = 1 := (by decide); (first | omega | (refine ⟨?_, ?_⟩ <;> omega))), hT, hM⟩ dX9_isHousehold_46


set_option maxHeartbeats 4000000 in
set_option maxRecDepth 100000 in
theorem t_X9_personAt_2 (l : Launch) (dC : Nat → ClassId) (dI : Nat → Nat → Nat) (dA : Nat → ClassId) (L : List Nat) (h : hx_h) (sz : Nat) (x : Nat) (i1 : Int32) (hT : hx_T T_tb L h) (gx : hx_g L h x 9) (pn0 : Int32) (f_x_8 : h.2.1 x 8 = pn0) (qp : Nat) (gqp : hx_g L h qp 44) (f_x_7 : h.2.2 x 7 = some qp) (pf_x_8 : ∀ j : Nat, (j : Int) < (h.2.1 x 8).toInt → h.2.2 qp j ≠ none) : Met l yX9_personAt (Cond.code yX9_personAt cX9_personAt 2 (some (.object "SmallCourt$Person")) :: hx_all) ({ frames := 0, cells := 0, slots := 0, locals := 0 }) (va_Pc [.ref x, .int i1] (hx_B T_tb (P_ty dA) (dC, dI) vwCl L h sz)) (va_Qq (fun (r : Option Nat) (u : List Nat × hx_h) => ((∀ q, r = some q → hx_g u.1 u.2 q 4) ∧ ((r = none ∧ (i1.toInt < 0 ∨ pn0.toInt ≤ i1.toInt)) ∨ (0 ≤ i1.toInt ∧ i1.toInt < pn0.toInt ∧ ∃ q, r = some q ∧ u.2.2.2 qp i1.toNatClampNeg = some q))) ∧ hx_T T_tb u.1 u.2 ∧ hx_S T_tb [] L h u.1 u.2) (hx_E T_tb (P_ty dA) (dC, dI) vwCl (hx_A L sz)) (hx_A L sz)) 0 0 (hx_A L sz) := by
  refine hx_met (lv := [(0, .ref x), (1, .int i1)]) (by decide +kernel) rfl (Nat.le_of_ble_eq_true rfl) rfl ?_
  intro p e s m below meth c hx hb hml hr hlk hts0 hown hin hsz hW ls hl
  have hts : ∀ w ∈ hx_all, w.before _ s = true := fun w hw => hts0 w (List.mem_cons_of_mem _ hw)
  have hown : s.vm.findClass "SmallCourt" = some m.cls := hown
  have hM : hx_S T_tb [] L h L h := hx_S.rf
  have b_pn0 := hT.gi gx tt_9 (k := 8) rfl
  rw [f_x_8] at b_pn0
  have b_pn0 : 0 ≤ pn0.toInt ∧ pn0.toInt ≤ 40 := b_pn0
  refine lv_iload_n hx hb dX9_personAt_0 rfl (lv_at hl 1 rfl) ?_
  refine hb_if_lt (zx := i1.toInt) (tgt := 12) hx hb rfl dX9_personAt_1 (by decide) (fun c_1 => ?_) (fun c_1 => ?_)
  · skip
    refine lv_null hx hb dX9_personAt_12 ?_
    refine lv_goto (tgt := 22) hx hb dX9_personAt_13 (by decide) ?_
    exact hx_retq (v := none) hx hb hr (Or.inl ⟨_, rfl⟩) hlk hW ⟨⟨(fun q hq => by cases hq), (Or.inl ⟨rfl, by omega⟩)⟩, hT, hM⟩ dX9_personAt_22
  · skip
    refine lv_iload_n hx hb dX9_personAt_4 rfl (lv_at hl 1 rfl) ?_
    refine lv_aload_n hx hb dX9_personAt_5 rfl (lv_at hl 0 rfl) ?_
    refine hk_geti hx hb hts hC_9 hown hW gx tt_9 8 (by decide) rfl kw_372 ⟨rfl, rfl, rfl⟩ f_x_8 dX9_personAt_6 ?_
    refine hb_icmp_lt (zx := i1.toInt) (zy := pn0.toInt) (tgt := 16) hx hb rfl rfl dX9_personAt_9 (by decide) (fun c_2 => ?_) (fun c_2 => ?_)
    · skip
      refine lv_aload_n hx hb dX9_personAt_16 rfl (lv_at hl 0 rfl) ?_
      refine hk_getr hx hb hts hC_9 hown hW gx tt_9 7 (by decide) rfl kw_371 ⟨rfl, rfl, rfl⟩ f_x_7 dX9_personAt_17 ?_
      refine lv_iload_n hx hb dX9_personAt_20 rfl (lv_at hl 1 rfl) ?_
      refine hx_aaldN hx hb hW hT gqp tt_44 (t1 := 4) rfl ⟨by omega, by omega⟩ (pf_x_8 _ (by rw [f_x_8]; exact hx_tnI (by omega) (by omega))) dX9_personAt_21 (fun q_3 fq_3 gq_3 => ?_)
      exact hx_retq (v := (some q_3)) hx hb hr (Or.inl ⟨_, rfl⟩) hlk hW ⟨⟨(fun q hq => by cases hq; exact gq_3), (Or.inr ⟨by omega, by omega, _, rfl, fq_3⟩)⟩, hT, hM⟩ dX9_personAt_22
    · skip
      refine lv_null hx hb dX9_personAt_12 ?_
      refine lv_goto (tgt := 22) hx hb dX9_personAt_13 (by decide) ?_
      exact hx_retq (v := none) hx hb hr (Or.inl ⟨_, rfl⟩) hlk hW ⟨⟨(fun q hq => by cases hq), (Or.inl ⟨rfl, by omega⟩)⟩, hT, hM⟩ dX9_personAt_22


set_option maxHeartbeats 4000000 in
set_option maxRecDepth 100000 in
theorem t_X9_claimAt_2 (l : Launch) (dC : Nat → ClassId) (dI : Nat → Nat → Nat) (dA : Nat → ClassId) (L : List Nat) (h : hx_h) (sz : Nat) (x : Nat) (i1 : Int32) (hT : hx_T T_tb L h) (gx : hx_g L h x 9) (cn0 : Int32) (f_x_11 : h.2.1 x 11 = cn0) (qc : Nat) (gqc : hx_g L h qc 45) (f_x_10 : h.2.2 x 10 = some qc) (pf_x_11 : ∀ j : Nat, (j : Int) < (h.2.1 x 11).toInt → h.2.2 qc j ≠ none) : Met l yX9_claimAt (Cond.code yX9_claimAt cX9_claimAt 2 (some (.object "SmallCourt$Claim")) :: hx_all) ({ frames := 0, cells := 0, slots := 0, locals := 0 }) (va_Pc [.ref x, .int i1] (hx_B T_tb (P_ty dA) (dC, dI) vwCl L h sz)) (va_Qq (fun (r : Option Nat) (u : List Nat × hx_h) => ((∀ q, r = some q → hx_g u.1 u.2 q 2) ∧ ((r = none ∧ (i1.toInt < 0 ∨ cn0.toInt ≤ i1.toInt)) ∨ (0 ≤ i1.toInt ∧ i1.toInt < cn0.toInt ∧ ∃ q, r = some q ∧ u.2.2.2 qc i1.toNatClampNeg = some q))) ∧ hx_T T_tb u.1 u.2 ∧ hx_S T_tb [] L h u.1 u.2) (hx_E T_tb (P_ty dA) (dC, dI) vwCl (hx_A L sz)) (hx_A L sz)) 0 0 (hx_A L sz) := by
  refine hx_met (lv := [(0, .ref x), (1, .int i1)]) (by decide +kernel) rfl (Nat.le_of_ble_eq_true rfl) rfl ?_
  intro p e s m below meth c hx hb hml hr hlk hts0 hown hin hsz hW ls hl
  have hts : ∀ w ∈ hx_all, w.before _ s = true := fun w hw => hts0 w (List.mem_cons_of_mem _ hw)
  have hown : s.vm.findClass "SmallCourt" = some m.cls := hown
  have hM : hx_S T_tb [] L h L h := hx_S.rf
  have b_cn0 := hT.gi gx tt_9 (k := 11) rfl
  rw [f_x_11] at b_cn0
  have b_cn0 : 0 ≤ cn0.toInt ∧ cn0.toInt ≤ 100 := b_cn0
  refine lv_iload_n hx hb dX9_claimAt_0 rfl (lv_at hl 1 rfl) ?_
  refine hb_if_lt (zx := i1.toInt) (tgt := 12) hx hb rfl dX9_claimAt_1 (by decide) (fun c_1 => ?_) (fun c_1 => ?_)
  · skip
    refine lv_null hx hb dX9_claimAt_12 ?_
    refine lv_goto (tgt := 22) hx hb dX9_claimAt_13 (by decide) ?_
    exact hx_retq (v := none) hx hb hr (Or.inl ⟨_, rfl⟩) hlk hW ⟨⟨(fun q hq => by cases hq), (Or.inl ⟨rfl, by omega⟩)⟩, hT, hM⟩ dX9_claimAt_22
  · skip
    refine lv_iload_n hx hb dX9_claimAt_4 rfl (lv_at hl 1 rfl) ?_
    refine lv_aload_n hx hb dX9_claimAt_5 rfl (lv_at hl 0 rfl) ?_
    refine hk_geti hx hb hts hC_9 hown hW gx tt_9 11 (by decide) rfl kw_375 ⟨rfl, rfl, rfl⟩ f_x_11 dX9_claimAt_6 ?_
    refine hb_icmp_lt (zx := i1.toInt) (zy := cn0.toInt) (tgt := 16) hx hb rfl rfl dX9_claimAt_9 (by decide) (fun c_2 => ?_) (fun c_2 => ?_)
    · skip
      refine lv_aload_n hx hb dX9_claimAt_16 rfl (lv_at hl 0 rfl) ?_
      refine hk_getr hx hb hts hC_9 hown hW gx tt_9 10 (by decide) rfl kw_374 ⟨rfl, rfl, rfl⟩ f_x_10 dX9_claimAt_17 ?_
      refine lv_iload_n hx hb dX9_claimAt_20 rfl (lv_at hl 1 rfl) ?_
      refine hx_aaldN hx hb hW hT gqc tt_45 (t1 := 2) rfl ⟨by omega, by omega⟩ (pf_x_11 _ (by rw [f_x_11]; exact hx_tnI (by omega) (by omega))) dX9_claimAt_21 (fun q_3 fq_3 gq_3 => ?_)
      exact hx_retq (v := (some q_3)) hx hb hr (Or.inl ⟨_, rfl⟩) hlk hW ⟨⟨(fun q hq => by cases hq; exact gq_3), (Or.inr ⟨by omega, by omega, _, rfl, fq_3⟩)⟩, hT, hM⟩ dX9_claimAt_22
    · skip
      refine lv_null hx hb dX9_claimAt_12 ?_
      refine lv_goto (tgt := 22) hx hb dX9_claimAt_13 (by decide) ?_
      exact hx_retq (v := none) hx hb hr (Or.inl ⟨_, rfl⟩) hlk hW ⟨⟨(fun q hq => by cases hq), (Or.inl ⟨rfl, by omega⟩)⟩, hT, hM⟩ dX9_claimAt_22


set_option maxHeartbeats 4000000 in
set_option maxRecDepth 100000 in
theorem t_X9_areTwo_2 (l : Launch) (dC : Nat → ClassId) (dI : Nat → Nat → Nat) (dA : Nat → ClassId) (L : List Nat) (h : hx_h) (sz : Nat) (x : Nat) (i1 : Int32) (i2 : Int32) (hT : hx_T T_tb L h) (gx : hx_g L h x 9) (pn0 : Int32) (f_x_8 : h.2.1 x 8 = pn0) (qp : Nat) (gqp : hx_g L h qp 44) (f_x_7 : h.2.2 x 7 = some qp) (pf_x_8 : ∀ j : Nat, (j : Int) < (h.2.1 x 8).toInt → h.2.2 qp j ≠ none) : Met l yX9_areTwo (Cond.code yX9_areTwo cX9_areTwo 3 (some .boolean) :: hx_all) ({ frames := 1, cells := 0, slots := 0, locals := 21 }) (va_Pc [.ref x, .int i1, .int i2] (hx_B T_tb (P_ty dA) (dC, dI) vwCl L h sz)) (va_Qi (fun (r : Int32) (u : List Nat × hx_h) => ((r.toInt = 0 ∧ (i1.toInt = i2.toInt ∨ i1.toInt < 0 ∨ pn0.toInt ≤ i1.toInt ∨ i2.toInt < 0 ∨ pn0.toInt ≤ i2.toInt)) ∨ (r.toInt = 1 ∧ i1.toInt ≠ i2.toInt ∧ 0 ≤ i1.toInt ∧ i1.toInt < pn0.toInt ∧ 0 ≤ i2.toInt ∧ i2.toInt < pn0.toInt)) ∧ hx_T T_tb u.1 u.2 ∧ hx_S T_tb [] L h u.1 u.2) (hx_E T_tb (P_ty dA) (dC, dI) vwCl (hx_A L sz)) (hx_A L sz)) 0 0 (hx_A L sz) := by
  refine hx_met (lv := [(0, .ref x), (1, .int i1), (2, .int i2)]) (by decide +kernel) rfl (Nat.le_of_ble_eq_true rfl) rfl ?_
  intro p e s m below meth c hx hb hml hr hlk hts0 hown hin hsz hW ls hl
  have hts : ∀ w ∈ hx_all, w.before _ s = true := fun w hw => hts0 w (List.mem_cons_of_mem _ hw)
  have hown : s.vm.findClass "SmallCourt" = some m.cls := hown
  have hM : hx_S T_tb [] L h L h := hx_S.rf
  have b_pn0 := hT.gi gx tt_9 (k := 8) rfl
  rw [f_x_8] at b_pn0
  have b_pn0 : 0 ≤ pn0.toInt ∧ pn0.toInt ≤ 40 := b_pn0
  refine lv_iload_n hx hb dX9_areTwo_0 rfl (lv_at hl 1 rfl) ?_
  refine lv_iload_n hx hb dX9_areTwo_1 rfl (lv_at hl 2 rfl) ?_
  refine hb_icmp_eq (zx := i1.toInt) (zy := i2.toInt) (tgt := 25) hx hb rfl rfl dX9_areTwo_2 (by decide) (fun c_1 => ?_) (fun c_1 => ?_)
  · skip
    refine lv_iconst (v := 0) hx hb dX9_areTwo_25 (by decide) ?_
    exact hx_retz hx hb hr rfl hlk hW ⟨(by have zr : (0 : Int32).toInt = 0 := (by decide); omega), hT, hM⟩ dX9_areTwo_26
  · skip
    refine lv_aload_n hx hb dX9_areTwo_5 rfl (lv_at hl 0 rfl) ?_
    refine lv_iload_n hx hb dX9_areTwo_6 rfl (lv_at hl 1 rfl) ?_
    refine hx_goq (hx_runV (As := [.int i1]) (rest := []) ⟨hx, hb, hml, hown, hts⟩ hW gx tt_9 (T := TX9) (N := 20) rfl (t_X9_personAt_2 l dC dI dA L h s.heap.size x i1 hT gx pn0 f_x_8 qp gqp f_x_7 pf_x_8) (cwV 1 hts (hx_gV kw_659 kw_656 kw_658 kw_20 kw_94) rfl rfl rfl (by decide +kernel) ⟨Nat.le_of_ble_eq_true rfl, Nat.le_of_ble_eq_true rfl⟩) rfl hl.1 rfl (Nat.le_of_ble_eq_true rfl) dX9_areTwo_7 ⟨Nat.le_of_ble_eq_true rfl, Nat.le_of_ble_eq_true rfl⟩) hW (fun r_4 L_2 h_3 H locs p_5 hW => ?_)
    obtain ⟨hr_6, hT, hs⟩ := p_5
    have hT : hx_T T_tb L_2 h_3 := hT
    have hs : hx_S T_tb [] L h L_2 h_3 := hs
    have f_x_7 := (hs.o gx trivial rfl).2.trans f_x_7
    have f_x_8 := (hs.o gx trivial rfl).1.trans f_x_8
    have pf_x_8 : ∀ j : Nat, (j : Int) < (h_3.2.1 x 8).toInt → h_3.2.2 qp j ≠ none := by
      intro j hj; rw [(hs.o gx trivial rfl).1] at hj; rw [(hs.a gqp rfl j).2]; exact pf_x_8 j hj
    have hM := hM.tr (hs.mono (by decide))
    have gx := gx.S hs
    have gqp := gqp.S hs
    obtain ⟨hr_6, hr_6B⟩ := hr_6
    have hr_6 : ∀ q, r_4 = some q → hx_g L_2 h_3 q 4 := hr_6
    rcases r_4 with _ | q_7
    · skip
      have k_8 : i1.toInt < 0 ∨ pn0.toInt ≤ i1.toInt := by
        rcases hr_6B with ⟨_, z⟩ | ⟨_, _, q, z, _⟩
        · exact z
        · cases z
      refine lv_ifnullN (tgt := 25) hx hb dX9_areTwo_10 (by decide) ?_
      refine lv_iconst (v := 0) hx hb dX9_areTwo_25 (by decide) ?_
      exact hx_retz hx hb hr rfl hlk hW ⟨(by have zr : (0 : Int32).toInt = 0 := (by decide); omega), hT, hM⟩ dX9_areTwo_26
    · have gq_7 := hr_6 _ rfl
      have k_9 : 0 ≤ i1.toInt ∧ i1.toInt < pn0.toInt ∧ h_3.2.2 qp i1.toNatClampNeg = some q_7 := by
        rcases hr_6B with ⟨z, _⟩ | ⟨z1, z2, q, z3, z4⟩
        · cases z
        · cases z3; exact ⟨z1, z2, z4⟩
      have fo_10 := k_9.2.2
      have k_9 : 0 ≤ i1.toInt ∧ i1.toInt < pn0.toInt := ⟨k_9.1, k_9.2.1⟩
      refine lv_ifnull hx hb dX9_areTwo_10 ?_
      refine lv_aload_n hx hb dX9_areTwo_13 rfl (lv_at hl 0 rfl) ?_
      refine lv_iload_n hx hb dX9_areTwo_14 rfl (lv_at hl 2 rfl) ?_
      refine hx_goq (hx_runV (As := [.int i2]) (rest := []) ⟨hx, hb, hml, hown, hts⟩ hW gx tt_9 (T := TX9) (N := 20) rfl (t_X9_personAt_2 l dC dI dA L_2 h_3 H.size x i2 hT gx pn0 f_x_8 qp gqp f_x_7 pf_x_8) (cwV 1 hts (hx_gV kw_659 kw_656 kw_658 kw_20 kw_94) rfl rfl rfl (by decide +kernel) ⟨Nat.le_of_ble_eq_true rfl, Nat.le_of_ble_eq_true rfl⟩) rfl hl.1 rfl (Nat.le_of_ble_eq_true rfl) dX9_areTwo_15 ⟨Nat.le_of_ble_eq_true rfl, Nat.le_of_ble_eq_true rfl⟩) hW (fun r_13 L_11 h_12 H locs p_14 hW => ?_)
      obtain ⟨hr_15, hT, hs⟩ := p_14
      have hT : hx_T T_tb L_11 h_12 := hT
      have hs : hx_S T_tb [] L_2 h_3 L_11 h_12 := hs
      have f_x_7 := (hs.o gx trivial rfl).2.trans f_x_7
      have f_x_8 := (hs.o gx trivial rfl).1.trans f_x_8
      have pf_x_8 : ∀ j : Nat, (j : Int) < (h_12.2.1 x 8).toInt → h_12.2.2 qp j ≠ none := by
        intro j hj; rw [(hs.o gx trivial rfl).1] at hj; rw [(hs.a gqp rfl j).2]; exact pf_x_8 j hj
      have fo_10 := (hs.a gqp rfl _).2.trans fo_10
      have hM := hM.tr (hs.mono (by decide))
      have gx := gx.S hs
      have gqp := gqp.S hs
      have gq_7 := gq_7.S hs
      obtain ⟨hr_15, hr_15B⟩ := hr_15
      have hr_15 : ∀ q, r_13 = some q → hx_g L_11 h_12 q 4 := hr_15
      rcases r_13 with _ | q_16
      · skip
        have k_17 : i2.toInt < 0 ∨ pn0.toInt ≤ i2.toInt := by
          rcases hr_15B with ⟨_, z⟩ | ⟨_, _, q, z, _⟩
          · exact z
          · cases z
        refine lv_ifnullN (tgt := 25) hx hb dX9_areTwo_18 (by decide) ?_
        refine lv_iconst (v := 0) hx hb dX9_areTwo_25 (by decide) ?_
        exact hx_retz hx hb hr rfl hlk hW ⟨(by have zr : (0 : Int32).toInt = 0 := (by decide); omega), hT, hM⟩ dX9_areTwo_26
      · have gq_16 := hr_15 _ rfl
        have k_18 : 0 ≤ i2.toInt ∧ i2.toInt < pn0.toInt ∧ h_12.2.2 qp i2.toNatClampNeg = some q_16 := by
          rcases hr_15B with ⟨z, _⟩ | ⟨z1, z2, q, z3, z4⟩
          · cases z
          · cases z3; exact ⟨z1, z2, z4⟩
        have fo_19 := k_18.2.2
        have k_18 : 0 ≤ i2.toInt ∧ i2.toInt < pn0.toInt := ⟨k_18.1, k_18.2.1⟩
        refine lv_ifnull hx hb dX9_areTwo_18 ?_
        refine lv_iconst (v := 1) hx hb dX9_areTwo_21 (by decide) ?_
        refine lv_goto (tgt := 26) hx hb dX9_areTwo_22 (by decide) ?_
        exact hx_retz hx hb hr rfl hlk hW ⟨(by have zr : (1 : Int32).toInt = 1 := (by decide); omega), hT, hM⟩ dX9_areTwo_26


set_option maxHeartbeats 4000000 in
set_option maxRecDepth 100000 in
theorem t_X9_person_2 (l : Launch) (dC : Nat → ClassId) (dI : Nat → Nat → Nat) (dA : Nat → ClassId) (L : List Nat) (h : hx_h) (sz : Nat) (x : Nat) (i1 : Int32) (i2 : Int32) (i3 : Int32) (i4 : Int32) (i5 : Int32) (i6 : Int32) (hT : hx_T T_tb L h) (gx : hx_g L h x 9) (pn0 : Int32) (f_x_8 : h.2.1 x 8 = pn0) (qp : Nat) (gqp : hx_g L h qp 44) (f_x_7 : h.2.2 x 7 = some qp) (pf_x_8 : ∀ j : Nat, (j : Int) < (h.2.1 x 8).toInt → h.2.2 qp j ≠ none) (df : Nat → Int32) (cl_qp_7 : hx_col 40 h qp 7 = df) (jf : Nat → Int32) (cl_qp_8 : hx_col 40 h qp 8 = jf) (nu_qp : hx_num 40 h qp 0 (pn0.toInt)) : Met l yX9_person (Cond.code yX9_person cX9_person 8 (some .int) :: hx_all) ({ frames := 2, cells := 1, slots := 10, locals := 45 }) (va_Pc [.ref x, .int i1, .int i2, .int i3, .int i4, .int i5, .int i6] (hx_B T_tb (P_ty dA) (dC, dI) vwCl L h sz)) (va_Qi (fun (r : Int32) (u : List Nat × hx_h) => (∃ (pn1 : Int32) (df1 : Nat → Int32) (jf1 : Nat → Int32), u.2.2.1 x 8 = pn1 ∧ hx_col 40 u.2 qp 7 = df1 ∧ hx_col 40 u.2 qp 8 = jf1 ∧ ((hx_num 40 u.2 qp 0 (pn1.toInt)) ∧ ((hx_PS pn0.toInt i1.toInt i2.toInt i3.toInt i4.toInt i5.toInt i6.toInt r.toInt pn1.toInt) ∧ hx_PD pn0.toInt r.toInt df df1 ∧ hx_PD pn0.toInt r.toInt jf jf1))) ∧ hx_T T_tb u.1 u.2 ∧ hx_S T_tb [(4, 3), (4, 4), (4, 5), (4, 6), (9, 8), (44, 0), (120, 0), (120, 1), (120, 2)] L h u.1 u.2 ∧ (∀ j : Nat, (j : Int) < (u.2.2.1 x 8).toInt → u.2.2.2 qp j ≠ none)) (hx_E T_tb (P_ty dA) (dC, dI) vwCl (hx_A L sz)) (hx_A L sz)) 1 10 (hx_A L sz) := by
  refine hx_met (lv := [(0, .ref x), (1, .int i1), (2, .int i2), (3, .int i3), (4, .int i4), (5, .int i5), (6, .int i6)]) (by decide +kernel) rfl (Nat.le_of_ble_eq_true rfl) rfl ?_
  intro p e s m below meth c hx hb hml hr hlk hts0 hown hin hsz hW ls hl
  have hts : ∀ w ∈ hx_all, w.before _ s = true := fun w hw => hts0 w (List.mem_cons_of_mem _ hw)
  have hown : s.vm.findClass "SmallCourt" = some m.cls := hown
  have hM : hx_S T_tb [(4, 3), (4, 4), (4, 5), (4, 6), (9, 8), (44, 0), (120, 0), (120, 1), (120, 2)] L h L h := hx_S.rf
  have b_pn0 := hT.gi gx tt_9 (k := 8) rfl
  rw [f_x_8] at b_pn0
  have b_pn0 : 0 ≤ pn0.toInt ∧ pn0.toInt ≤ 40 := b_pn0
  refine lv_aload_n hx hb dX9_person_0 rfl (lv_at hl 0 rfl) ?_
  refine hk_geti hx hb hts hC_9 hown hW gx tt_9 8 (by decide) rfl kw_372 ⟨rfl, rfl, rfl⟩ f_x_8 dX9_person_1 ?_
  refine lv_bipush (v := 40) hx hb dX9_person_4 (by decide) ?_
  refine hb_icmp_ge (zx := pn0.toInt) (zy := 40) (tgt := 45) hx hb rfl (by decide) dX9_person_6 (by decide) (fun c_1 => ?_) (fun c_1 => ?_)
  · skip
    refine lv_iconst (v := -1) hx hb dX9_person_45 (by decide) ?_
    refine W.widen (k := 1) (n := 10) (Nat.le_of_ble_eq_true rfl) (Nat.le_of_ble_eq_true rfl) ?_
    exact hx_reti hx hb hr hlk hW ⟨⟨pn0, df, jf, f_x_8, cl_qp_7, cl_qp_8, ⟨(hx_num_c nu_qp (by omega)), ⟨(Or.inl ⟨by decide, by omega, by unfold hx_pcn; omega⟩), (Or.inl ⟨by decide, rfl⟩), (Or.inl ⟨by decide, rfl⟩)⟩⟩⟩, hT, hM, pf_x_8⟩ dX9_person_46
  · skip
    refine lv_iload_n hx hb dX9_person_9 rfl (lv_at hl 1 rfl) ?_
    refine lv_sipush (v := -30000) hx hb dX9_person_10 (by decide) ?_
    refine lv_sipush (v := 7999) hx hb dX9_person_13 (by decide) ?_
    have hTo := hT
    have zc_7999 : (7999 : Int32).toInt = 7999 := by decide
    have zc_m30000 : (-30000 : Int32).toInt = -30000 := by decide
    refine hx_goi (hx_runS (As := [.int i1, .int (-30000 : Int32), .int (7999 : Int32)]) (rest := []) ⟨hx, hb, hml, hown, hts⟩ hW (t_X9_isWithin_2 l dC dI dA L h s.heap.size i1 (-30000 : Int32) (7999 : Int32) hT) (va_cwS 3 hts (hx_gS kw_434 kw_432 kw_433 kw_94) rfl rfl rfl (by decide +kernel) ⟨Nat.le_of_ble_eq_true rfl, Nat.le_of_ble_eq_true rfl⟩) rfl hl.1 rfl (Nat.le_of_ble_eq_true rfl) dX9_person_16 ⟨Nat.le_of_ble_eq_true rfl, Nat.le_of_ble_eq_true rfl⟩) hW (fun r_4 L_2 h_3 H locs p_5 hW => ?_)
    obtain ⟨hr_6, hT, hs⟩ := p_5
    have hT : hx_T T_tb L_2 h_3 := hT
    have hs : hx_S T_tb [] L h L_2 h_3 := hs
    have f_x_7 := (hs.o gx trivial rfl).2.trans f_x_7
    have f_x_8 := (hs.o gx trivial rfl).1.trans f_x_8
    have pf_x_8 : ∀ j : Nat, (j : Int) < (h_3.2.1 x 8).toInt → h_3.2.2 qp j ≠ none := by
      intro j hj; rw [(hs.o gx trivial rfl).1] at hj; rw [(hs.a gqp rfl j).2]; exact pf_x_8 j hj
    have cl_qp_7 : hx_col 40 h_3 qp 7 = df := (hx_col_S hs hTo gqp tt_44 tt_4 rfl rfl).trans cl_qp_7
    have cl_qp_8 : hx_col 40 h_3 qp 8 = jf := (hx_col_S hs hTo gqp tt_44 tt_4 rfl rfl).trans cl_qp_8
    have nu_qp : hx_num 40 h_3 qp 0 (pn0.toInt) := hx_num_S hs hTo gqp tt_44 tt_4 rfl rfl nu_qp
    have hM := hM.tr (hs.mono (by decide))
    have gx := gx.S hs
    have gqp := gqp.S hs
    refine hb_if_eq (zx := r_4.toInt) (tgt := 45) hx hb rfl dX9_person_19 (by decide) (fun c_7 => ?_) (fun c_7 => ?_)
    · skip
      refine lv_iconst (v := -1) hx hb dX9_person_45 (by decide) ?_
      refine W.widen (k := 1) (n := 10) (Nat.le_of_ble_eq_true rfl) (Nat.le_of_ble_eq_true rfl) ?_
      exact hx_reti hx hb hr hlk hW ⟨⟨pn0, df, jf, f_x_8, cl_qp_7, cl_qp_8, ⟨(hx_num_c nu_qp (by omega)), ⟨(Or.inl ⟨by decide, by omega, by unfold hx_pcn; omega⟩), (Or.inl ⟨by decide, rfl⟩), (Or.inl ⟨by decide, rfl⟩)⟩⟩⟩, hT, hM, pf_x_8⟩ dX9_person_46
    · skip
      refine lv_iload_n hx hb dX9_person_22 rfl (lv_at hl 2 rfl) ?_
      refine lv_iload_n hx hb dX9_person_23 rfl (lv_at hl 3 rfl) ?_
      refine lv_iload hx hb dX9_person_24 (lv_at hl 4 rfl) ?_
      refine lv_iload hx hb dX9_person_26 (lv_at hl 5 rfl) ?_
      have hTo := hT
      refine hx_goi (hx_runS (As := [.int i2, .int i3, .int i4, .int i5]) (rest := []) ⟨hx, hb, hml, hown, hts⟩ hW (t_X9_isHousehold_2 l dC dI dA L_2 h_3 H.size i2 i3 i4 i5 hT) (va_cwS 4 hts (hx_gS kw_604 kw_602 kw_603 kw_94) rfl rfl rfl (by decide +kernel) ⟨Nat.le_of_ble_eq_true rfl, Nat.le_of_ble_eq_true rfl⟩) rfl hl.1 rfl (Nat.le_of_ble_eq_true rfl) dX9_person_28 ⟨Nat.le_of_ble_eq_true rfl, Nat.le_of_ble_eq_true rfl⟩) hW (fun r_10 L_8 h_9 H locs p_11 hW => ?_)
      obtain ⟨hr_12, hT, hs⟩ := p_11
      have hT : hx_T T_tb L_8 h_9 := hT
      have hs : hx_S T_tb [] L_2 h_3 L_8 h_9 := hs
      have f_x_7 := (hs.o gx trivial rfl).2.trans f_x_7
      have f_x_8 := (hs.o gx trivial rfl).1.trans f_x_8
      have pf_x_8 : ∀ j : Nat, (j : Int) < (h_9.2.1 x 8).toInt → h_9.2.2 qp j ≠ none := by
        intro j hj; rw [(hs.o gx trivial rfl).1] at hj; rw [(hs.a gqp rfl j).2]; exact pf_x_8 j hj
      have cl_qp_7 : hx_col 40 h_9 qp 7 = df := (hx_col_S hs hTo gqp tt_44 tt_4 rfl rfl).trans cl_qp_7
      have cl_qp_8 : hx_col 40 h_9 qp 8 = jf := (hx_col_S hs hTo gqp tt_44 tt_4 rfl rfl).trans cl_qp_8
      have nu_qp : hx_num 40 h_9 qp 0 (pn0.toInt) := hx_num_S hs hTo gqp tt_44 tt_4 rfl rfl nu_qp
      have hM := hM.tr (hs.mono (by decide))
      have gx := gx.S hs
      have gqp := gqp.S hs
      refine hb_if_eq (zx := r_10.toInt) (tgt := 45) hx hb rfl dX9_person_31 (by decide) (fun c_13 => ?_) (fun c_13 => ?_)
      · skip
        refine lv_iconst (v := -1) hx hb dX9_person_45 (by decide) ?_
        refine W.widen (k := 1) (n := 10) (Nat.le_of_ble_eq_true rfl) (Nat.le_of_ble_eq_true rfl) ?_
        exact hx_reti hx hb hr hlk hW ⟨⟨pn0, df, jf, f_x_8, cl_qp_7, cl_qp_8, ⟨(hx_num_c nu_qp (by omega)), ⟨(Or.inl ⟨by decide, by omega, by unfold hx_pcn; omega⟩), (Or.inl ⟨by decide, rfl⟩), (Or.inl ⟨by decide, rfl⟩)⟩⟩⟩, hT, hM, pf_x_8⟩ dX9_person_46
      · skip
        refine lv_iload hx hb dX9_person_34 (lv_at hl 6 rfl) ?_
        refine lv_iconst (v := -1) hx hb dX9_person_36 (by decide) ?_
        refine lv_bipush (v := 19) hx hb dX9_person_37 (by decide) ?_
        have hTo := hT
        have zc_19 : (19 : Int32).toInt = 19 := by decide
        have zc_m1 : (-1 : Int32).toInt = -1 := by decide
        refine hx_goi (hx_runS (As := [.int i6, .int (-1 : Int32), .int (19 : Int32)]) (rest := []) ⟨hx, hb, hml, hown, hts⟩ hW (t_X9_isWithin_2 l dC dI dA L_8 h_9 H.size i6 (-1 : Int32) (19 : Int32) hT) (va_cwS 3 hts (hx_gS kw_434 kw_432 kw_433 kw_94) rfl rfl rfl (by decide +kernel) ⟨Nat.le_of_ble_eq_true rfl, Nat.le_of_ble_eq_true rfl⟩) rfl hl.1 rfl (Nat.le_of_ble_eq_true rfl) dX9_person_39 ⟨Nat.le_of_ble_eq_true rfl, Nat.le_of_ble_eq_true rfl⟩) hW (fun r_16 L_14 h_15 H locs p_17 hW => ?_)
        obtain ⟨hr_18, hT, hs⟩ := p_17
        have hT : hx_T T_tb L_14 h_15 := hT
        have hs : hx_S T_tb [] L_8 h_9 L_14 h_15 := hs
        have f_x_7 := (hs.o gx trivial rfl).2.trans f_x_7
        have f_x_8 := (hs.o gx trivial rfl).1.trans f_x_8
        have pf_x_8 : ∀ j : Nat, (j : Int) < (h_15.2.1 x 8).toInt → h_15.2.2 qp j ≠ none := by
          intro j hj; rw [(hs.o gx trivial rfl).1] at hj; rw [(hs.a gqp rfl j).2]; exact pf_x_8 j hj
        have cl_qp_7 : hx_col 40 h_15 qp 7 = df := (hx_col_S hs hTo gqp tt_44 tt_4 rfl rfl).trans cl_qp_7
        have cl_qp_8 : hx_col 40 h_15 qp 8 = jf := (hx_col_S hs hTo gqp tt_44 tt_4 rfl rfl).trans cl_qp_8
        have nu_qp : hx_num 40 h_15 qp 0 (pn0.toInt) := hx_num_S hs hTo gqp tt_44 tt_4 rfl rfl nu_qp
        have hM := hM.tr (hs.mono (by decide))
        have gx := gx.S hs
        have gqp := gqp.S hs
        refine hb_if_ne (zx := r_16.toInt) (tgt := 47) hx hb rfl dX9_person_42 (by decide) (fun c_19 => ?_) (fun c_19 => ?_)
        · skip
          have hTo := hT
          refine hk_new hx hb hts hC_4 hown hW 120 tt_120 rfl (by decide) kw_188 kw_605 kw_108 (Nat.le_of_ble_eq_true rfl) (Nat.le_of_ble_eq_true rfl) dX9_person_47 (fun q_21 H h_20 eh_20 hqq_21 hW hs gq_21 => ?_)
          have nq_q_21 : ∀ a ∈ L, a ≠ q_21 := fun a ha z => hqq_21 (z ▸ (hM.1 a ha).1)
          have hT : hx_T T_tb (L_14 ++ [q_21]) h_20 := by rw [eh_20]; exact hx_T_nw hT hqq_21 tt_120 rfl
          have f_x_7 := (hs.o gx trivial rfl).2.trans f_x_7
          have f_x_8 := (hs.o gx trivial rfl).1.trans f_x_8
          have pf_x_8 : ∀ j : Nat, (j : Int) < (h_20.2.1 x 8).toInt → h_20.2.2 qp j ≠ none := by
            intro j hj; rw [(hs.o gx trivial rfl).1] at hj; rw [(hs.a gqp rfl j).2]; exact pf_x_8 j hj
          have cl_qp_7 : hx_col 40 h_20 qp 7 = df := (hx_col_S hs hTo gqp tt_44 tt_4 rfl rfl).trans cl_qp_7
          have cl_qp_8 : hx_col 40 h_20 qp 8 = jf := (hx_col_S hs hTo gqp tt_44 tt_4 rfl rfl).trans cl_qp_8
          have nu_qp : hx_num 40 h_20 qp 0 (pn0.toInt) := hx_num_S hs hTo gqp tt_44 tt_4 rfl rfl nu_qp
          have hM := hM.tr (hs.mono (by decide))
          have gx := gx.S hs
          have gqp := gqp.S hs
          have fz_22 : ∀ j, ([] : List Nat).contains j = false → h_20.2.1 q_21 j = 0 ∧ h_20.2.2 q_21 j = none := by rw [eh_20]; exact fun _ _ => ⟨hx_nw_i, hx_nw_r⟩
          refine lv_dup hx hb dX9_person_50 rfl ?_
          refine lv_aload_n hx hb dX9_person_51 rfl (lv_at hl 0 rfl) ?_
          refine hk_geti hx hb hts hC_9 hown hW gx tt_9 8 (by decide) rfl kw_372 ⟨rfl, rfl, rfl⟩ f_x_8 dX9_person_52 ?_
          refine lv_iload_n hx hb dX9_person_55 rfl (lv_at hl 1 rfl) ?_
          refine lv_iload hx hb dX9_person_56 (lv_at hl 6 rfl) ?_
          have hTo := hT
          refine hx_gov (hx_runI (As := [.int pn0, .int i1, .int i6]) (rest := [.ref q_21]) ⟨hx, hb, hml, hown, hts⟩ hW (t_X4_init l dC dI dA (L_14 ++ [q_21]) h_20 H.size q_21 pn0 i1 i6 hT gq_21 (fun j => fz_22 j rfl) ⟨by omega, by omega⟩) (cwI 3 hts (hx_gC kw_608) rfl rfl rfl (hts _ kw_108) (hts _ kw_606) (hts _ kw_607) rfl (by decide +kernel) ⟨Nat.le_of_ble_eq_true rfl, Nat.le_of_ble_eq_true rfl⟩) rfl hl.1 rfl (Nat.le_of_ble_eq_true rfl) dX9_person_58 ⟨Nat.le_of_ble_eq_true rfl, Nat.le_of_ble_eq_true rfl⟩) hW (fun L_23 h_24 H locs p_26 hW => ?_)
          have hTo := hT
          obtain ⟨hT, hs, gNq_21, po_27, po_28, po_29⟩ := p_26
          have hT : hx_T T_tb L_23 h_24 := hT
          have hs : hx_S T_tb [(120, 0), (120, 1), (120, 2)] (hx_X (L_14 ++ [q_21]) q_21) h_20 L_23 h_24 := hs
          have gx := hx_gX gx (gx.ne gq_21 (by decide))
          have gqp := hx_gX gqp (gqp.ne gq_21 (by decide))
          have f_x_7 := (hs.o gx trivial rfl).2.trans f_x_7
          have f_x_8 := (hs.o gx trivial rfl).1.trans f_x_8
          have pf_x_8 : ∀ j : Nat, (j : Int) < (h_24.2.1 x 8).toInt → h_24.2.2 qp j ≠ none := by
            intro j hj; rw [(hs.o gx trivial rfl).1] at hj; rw [(hs.a gqp rfl j).2]; exact pf_x_8 j hj
          have cl_qp_7 : hx_col 40 h_24 qp 7 = df := (hx_col_X hs hTo gqp gq_21 tt_44 tt_4 rfl rfl (by decide)).trans cl_qp_7
          have cl_qp_8 : hx_col 40 h_24 qp 8 = jf := (hx_col_X hs hTo gqp gq_21 tt_44 tt_4 rfl rfl (by decide)).trans cl_qp_8
          have nu_qp : hx_num 40 h_24 qp 0 (pn0.toInt) := hx_num_X hs hTo gqp gq_21 tt_44 tt_4 rfl rfl (by decide) nu_qp
          have hM := hM.trX (hs.mono (by decide)) nq_q_21
          have gx := gx.S hs
          have gqp := gqp.S hs
          have gq_21 : hx_g L_23 h_24 q_21 4 := gNq_21
          have po_27 : h_24.2.1 q_21 0 = pn0 := po_27
          have po_28 : h_24.2.1 q_21 7 = 0 := po_28
          have po_29 : h_24.2.1 q_21 8 = 0 := po_29
          refine lv_astore (lv' := [(7, .ref q_21), (0, .ref x), (1, .int i1), (2, .int i2), (3, .int i3), (4, .int i4), (5, .int i5), (6, .int i6)]) hx hb dX9_person_61 hl (by decide) rfl (fun ls hl => ?_)
          refine lv_aload hx hb dX9_person_63 (lv_at hl 0 rfl) ?_
          refine lv_iload_n hx hb dX9_person_65 rfl (lv_at hl 3 rfl) ?_
          refine lv_iload_n hx hb dX9_person_66 rfl (lv_at hl 4 rfl) ?_
          refine lv_iload hx hb dX9_person_67 (lv_at hl 5 rfl) ?_
          refine lv_iload hx hb dX9_person_69 (lv_at hl 6 rfl) ?_
          have hTo := hT
          refine hx_gov (hx_runV (As := [.int i2, .int i3, .int i4, .int i5]) (rest := []) ⟨hx, hb, hml, hown, hts⟩ hW gq_21 tt_4 (T := TX4) (N := 10) rfl (t_X4_tell l dC dI dA L_23 h_24 H.size q_21 i2 i3 i4 i5 hT gq_21) (cwV 4 hts (hx_gV kw_651 kw_648 kw_649 kw_650 kw_108) rfl rfl rfl (by decide +kernel) ⟨Nat.le_of_ble_eq_true rfl, Nat.le_of_ble_eq_true rfl⟩) rfl hl.1 rfl (Nat.le_of_ble_eq_true rfl) dX9_person_71 ⟨Nat.le_of_ble_eq_true rfl, Nat.le_of_ble_eq_true rfl⟩) hW (fun L_30 h_31 H locs p_33 hW => ?_)
          obtain ⟨hT, hs⟩ := p_33
          have hT : hx_T T_tb L_30 h_31 := hT
          have hs : hx_S T_tb [(4, 3), (4, 4), (4, 5), (4, 6)] L_23 h_24 L_30 h_31 := hs
          have f_x_7 := (hs.o gx trivial rfl).2.trans f_x_7
          have f_x_8 := (hs.o gx trivial rfl).1.trans f_x_8
          have po_27 := (hs.o gq_21 trivial rfl).1.trans po_27
          have po_28 := (hs.o gq_21 trivial rfl).1.trans po_28
          have po_29 := (hs.o gq_21 trivial rfl).1.trans po_29
          have pf_x_8 : ∀ j : Nat, (j : Int) < (h_31.2.1 x 8).toInt → h_31.2.2 qp j ≠ none := by
            intro j hj; rw [(hs.o gx trivial rfl).1] at hj; rw [(hs.a gqp rfl j).2]; exact pf_x_8 j hj
          have cl_qp_7 : hx_col 40 h_31 qp 7 = df := (hx_col_S hs hTo gqp tt_44 tt_4 rfl rfl).trans cl_qp_7
          have cl_qp_8 : hx_col 40 h_31 qp 8 = jf := (hx_col_S hs hTo gqp tt_44 tt_4 rfl rfl).trans cl_qp_8
          have nu_qp : hx_num 40 h_31 qp 0 (pn0.toInt) := hx_num_S hs hTo gqp tt_44 tt_4 rfl rfl nu_qp
          have hM := hM.tr (hs.mono (by decide))
          have gx := gx.S hs
          have gqp := gqp.S hs
          have gq_21 := gq_21.S hs
          refine lv_aload_n hx hb dX9_person_74 rfl (lv_at hl 1 rfl) ?_
          refine hk_getr hx hb hts hC_9 hown hW gx tt_9 7 (by decide) rfl kw_371 ⟨rfl, rfl, rfl⟩ f_x_7 dX9_person_75 ?_
          refine lv_aload_n hx hb dX9_person_78 rfl (lv_at hl 1 rfl) ?_
          refine hk_geti hx hb hts hC_9 hown hW gx tt_9 8 (by decide) rfl kw_372 ⟨rfl, rfl, rfl⟩ f_x_8 dX9_person_79 ?_
          refine lv_aload hx hb dX9_person_82 (lv_at hl 0 rfl) ?_
          have hTo := hT
          have cl_qp_7O := cl_qp_7
          have po_28O := po_28
          have cl_qp_8O := cl_qp_8
          have po_29O := po_29
          have nu_qpO := nu_qp
          have po_27O := po_27
          have pf_x_8O := pf_x_8
          refine hx_aast hx hb hW hT (hx_S.rf (M := [(44, 0)])) gqp tt_44 rfl gq_21 tt_4 rfl (by decide) ⟨by omega, by omega⟩ (List.mem_singleton.mpr rfl) dX9_person_84 (fun H locs h_35 eh_35 hW hT hs => ?_)
          have f_x_7 := (hs.o gx trivial rfl).2.trans f_x_7
          have f_x_8 := (hs.o gx trivial rfl).1.trans f_x_8
          have po_27 := (hs.o gq_21 trivial rfl).1.trans po_27
          have po_28 := (hs.o gq_21 trivial rfl).1.trans po_28
          have po_29 := (hs.o gq_21 trivial rfl).1.trans po_29
          have hM := hM.tr (hs.mono (by decide))
          have gx := gx.S hs
          have gqp := gqp.S hs
          have gq_21 := gq_21.S hs
          have pf_x_8 : ∀ j : Nat, (j : Int) < (h_35.2.1 x 8).toInt → h_35.2.2 qp j ≠ none := hx_pfk pf_x_8O eh_35
          have px_36 : ∀ j : Nat, (j : Int) < pn0.toInt + 1 → h_35.2.2 qp j ≠ none := hx_pfx pf_x_8O (by first | exact f_x_8 | exact ((hs.o gx trivial rfl).1.symm.trans f_x_8)) (by omega) eh_35
          obtain ⟨fc_37, dfc_37⟩ : ∃ g : Nat → Int32, g = hx_up df pn0.toNatClampNeg (0 : Int32) := ⟨_, rfl⟩
          have nfc_37 : hx_col 40 h_35 qp 7 = fc_37 := by rw [dfc_37, ← cl_qp_7O, ← po_28O]; exact hx_col_pr eh_35 (by unfold Int32.toNatClampNeg; omega)
          obtain ⟨fc_38, dfc_38⟩ : ∃ g : Nat → Int32, g = hx_up jf pn0.toNatClampNeg (0 : Int32) := ⟨_, rfl⟩
          have nfc_38 : hx_col 40 h_35 qp 8 = fc_38 := by rw [dfc_38, ← cl_qp_8O, ← po_29O]; exact hx_col_pr eh_35 (by unfold Int32.toNatClampNeg; omega)
          have nu_39 : hx_num 40 h_35 qp 0 (pn0.toInt + 1) := hx_num_pr nu_qpO eh_35 (by omega) (by omega) (by rw [po_27O])
          refine lv_aload_n hx hb dX9_person_85 rfl (lv_at hl 1 rfl) ?_
          refine lv_dup hx hb dX9_person_86 rfl ?_
          refine hk_geti hx hb hts hC_9 hown hW gx tt_9 8 (by decide) rfl kw_372 ⟨rfl, rfl, rfl⟩ f_x_8 dX9_person_87 ?_
          refine lv_iconst (v := 1) hx hb dX9_person_90 (by decide) ?_
          refine lv_iadd hx hb dX9_person_91 ?_
          have rg_40 := i32_r pn0
          refine lv_topi (fun x_41 ex_41 => ?_)
          have zx_41 : x_41.toInt = pn0.toInt + 1 := by rw [ex_41]; exact i32_add rfl (by decide) (by omega) (by omega)
          have hTo := hT
          refine hx_puti hx hb hts hC_9 hown hW hT (hx_S.rf (M := [(9, 8)])) gx tt_9 8 (by decide) rfl kw_372 ⟨rfl, rfl, rfl⟩ rfl (x := x_41) ⟨by omega, by omega⟩ rfl rfl rfl (List.mem_singleton.mpr rfl) dX9_person_92 (fun H locs h_42 eh_42 hW hT hs => ?_)
          have px_36 : ∀ j : Nat, (j : Int) < pn0.toInt + 1 → h_42.2.2 qp j ≠ none := fun j hj => by rw [(hs.a gqp rfl j).2]; exact px_36 j hj
          have f_x_7 := (hs.o gx trivial rfl).2.trans f_x_7
          have po_27 := (hs.o gq_21 trivial rfl).1.trans po_27
          have po_28 := (hs.o gq_21 trivial rfl).1.trans po_28
          have po_29 := (hs.o gq_21 trivial rfl).1.trans po_29
          have nfc_37 : hx_col 40 h_42 qp 7 = fc_37 := (hx_col_S hs hTo gqp tt_44 tt_4 rfl rfl).trans nfc_37
          have nfc_38 : hx_col 40 h_42 qp 8 = fc_38 := (hx_col_S hs hTo gqp tt_44 tt_4 rfl rfl).trans nfc_38
          have nu_39 : hx_num 40 h_42 qp 0 (pn0.toInt + 1) := hx_num_S hs hTo gqp tt_44 tt_4 rfl rfl nu_39
          have hM := hM.tr (hs.mono (by decide))
          have gx := gx.S hs
          have gqp := gqp.S hs
          have gq_21 := gq_21.S hs
          have f_43 : h_42.2.1 x 8 = x_41 := by rw [eh_42]; exact hx_pi_at _ _ _ _
          have pf_44 : ∀ j : Nat, (j : Int) < (h_42.2.1 x 8).toInt → h_42.2.2 qp j ≠ none := fun j hj => px_36 j (by rw [f_43] at hj; omega)
          refine lv_aload hx hb dX9_person_95 (lv_at hl 0 rfl) ?_
          refine hk_geti hx hb hts hC_4 hown hW gq_21 tt_4 0 (by decide) rfl kw_612 ⟨rfl, rfl, rfl⟩ po_27 dX9_person_97 ?_
          refine W.widen (k := 1) (n := 10) (Nat.le_of_ble_eq_true rfl) (Nat.le_of_ble_eq_true rfl) ?_
          exact hx_reti hx hb hr hlk hW ⟨⟨x_41, fc_37, fc_38, f_43, nfc_37, nfc_38, ⟨(hx_num_c nu_39 (by omega)), ⟨(Or.inr ⟨by omega, by omega, by unfold hx_pcn; omega⟩), (Or.inr ⟨by omega, by omega, dfc_37⟩), (Or.inr ⟨by omega, by omega, dfc_38⟩)⟩⟩⟩, hT, hM, pf_44⟩ dX9_person_100
        · skip
          refine lv_iconst (v := -1) hx hb dX9_person_45 (by decide) ?_
          refine W.widen (k := 1) (n := 10) (Nat.le_of_ble_eq_true rfl) (Nat.le_of_ble_eq_true rfl) ?_
          exact hx_reti hx hb hr hlk hW ⟨⟨pn0, df, jf, f_x_8, cl_qp_7, cl_qp_8, ⟨(hx_num_c nu_qp (by omega)), ⟨(Or.inl ⟨by decide, by omega, by unfold hx_pcn; omega⟩), (Or.inl ⟨by decide, rfl⟩), (Or.inl ⟨by decide, rfl⟩)⟩⟩⟩, hT, hM, pf_x_8⟩ dX9_person_46


set_option maxHeartbeats 4000000 in
set_option maxRecDepth 100000 in
theorem t_X9_dies_2 (l : Launch) (dC : Nat → ClassId) (dI : Nat → Nat → Nat) (dA : Nat → ClassId) (L : List Nat) (h : hx_h) (sz : Nat) (x : Nat) (i1 : Int32) (hT : hx_T T_tb L h) (gx : hx_g L h x 9) (pn0 : Int32) (f_x_8 : h.2.1 x 8 = pn0) (qp : Nat) (gqp : hx_g L h qp 44) (f_x_7 : h.2.2 x 7 = some qp) (pf_x_8 : ∀ j : Nat, (j : Int) < (h.2.1 x 8).toInt → h.2.2 qp j ≠ none) (df : Nat → Int32) (cl_qp_7 : hx_col 40 h qp 7 = df) (nu_qp : hx_num 40 h qp 0 (pn0.toInt)) : Met l yX9_dies (Cond.code yX9_dies cX9_dies 3 (some .boolean) :: hx_all) ({ frames := 1, cells := 0, slots := 0, locals := 21 }) (va_Pc [.ref x, .int i1] (hx_B T_tb (P_ty dA) (dC, dI) vwCl L h sz)) (va_Qi (fun (r : Int32) (u : List Nat × hx_h) => (∃ (df1 : Nat → Int32), hx_col 40 u.2 qp 7 = df1 ∧ (hx_JS pn0.toInt i1.toInt 1 df r.toInt df1)) ∧ hx_T T_tb u.1 u.2 ∧ hx_S T_tb [(4, 7)] L h u.1 u.2) (hx_E T_tb (P_ty dA) (dC, dI) vwCl (hx_A L sz)) (hx_A L sz)) 0 0 (hx_A L sz) := by
  refine hx_met (lv := [(0, .ref x), (1, .int i1)]) (by decide +kernel) rfl (Nat.le_of_ble_eq_true rfl) rfl ?_
  intro p e s m below meth c hx hb hml hr hlk hts0 hown hin hsz hW ls hl
  have hts : ∀ w ∈ hx_all, w.before _ s = true := fun w hw => hts0 w (List.mem_cons_of_mem _ hw)
  have hown : s.vm.findClass "SmallCourt" = some m.cls := hown
  have hM : hx_S T_tb [(4, 7)] L h L h := hx_S.rf
  have b_pn0 := hT.gi gx tt_9 (k := 8) rfl
  rw [f_x_8] at b_pn0
  have b_pn0 : 0 ≤ pn0.toInt ∧ pn0.toInt ≤ 40 := b_pn0
  refine lv_aload_n hx hb dX9_dies_0 rfl (lv_at hl 0 rfl) ?_
  refine lv_iload_n hx hb dX9_dies_1 rfl (lv_at hl 1 rfl) ?_
  have hTo := hT
  refine hx_goq (hx_runV (As := [.int i1]) (rest := []) ⟨hx, hb, hml, hown, hts⟩ hW gx tt_9 (T := TX9) (N := 20) rfl (t_X9_personAt_2 l dC dI dA L h s.heap.size x i1 hT gx pn0 f_x_8 qp gqp f_x_7 pf_x_8) (cwV 1 hts (hx_gV kw_659 kw_656 kw_658 kw_20 kw_94) rfl rfl rfl (by decide +kernel) ⟨Nat.le_of_ble_eq_true rfl, Nat.le_of_ble_eq_true rfl⟩) rfl hl.1 rfl (Nat.le_of_ble_eq_true rfl) dX9_dies_2 ⟨Nat.le_of_ble_eq_true rfl, Nat.le_of_ble_eq_true rfl⟩) hW (fun r_3 L_1 h_2 H locs p_4 hW => ?_)
  obtain ⟨hr_5, hT, hs⟩ := p_4
  have hT : hx_T T_tb L_1 h_2 := hT
  have hs : hx_S T_tb [] L h L_1 h_2 := hs
  have f_x_7 := (hs.o gx trivial rfl).2.trans f_x_7
  have f_x_8 := (hs.o gx trivial rfl).1.trans f_x_8
  have pf_x_8 : ∀ j : Nat, (j : Int) < (h_2.2.1 x 8).toInt → h_2.2.2 qp j ≠ none := by
    intro j hj; rw [(hs.o gx trivial rfl).1] at hj; rw [(hs.a gqp rfl j).2]; exact pf_x_8 j hj
  have cl_qp_7 : hx_col 40 h_2 qp 7 = df := (hx_col_S hs hTo gqp tt_44 tt_4 rfl rfl).trans cl_qp_7
  have nu_qp : hx_num 40 h_2 qp 0 (pn0.toInt) := hx_num_S hs hTo gqp tt_44 tt_4 rfl rfl nu_qp
  have hM := hM.tr (hs.mono (by decide))
  have gx := gx.S hs
  have gqp := gqp.S hs
  obtain ⟨hr_5, hr_5B⟩ := hr_5
  have hr_5 : ∀ q, r_3 = some q → hx_g L_1 h_2 q 4 := hr_5
  rcases r_3 with _ | q_6
  · skip
    have k_7 : i1.toInt < 0 ∨ pn0.toInt ≤ i1.toInt := by
      rcases hr_5B with ⟨_, z⟩ | ⟨_, _, q, z, _⟩
      · exact z
      · cases z
    refine lv_astore_nN (lv' := [(2, .null), (0, .ref x), (1, .int i1)]) hx hb dX9_dies_5 rfl hl (by decide) rfl (fun ls hl => ?_)
    refine lv_aload_nN hx hb dX9_dies_6 rfl (lv_at hl 0 rfl) ?_
    refine lv_ifnullN (tgt := 17) hx hb dX9_dies_7 (by decide) ?_
    refine lv_iconst (v := 0) hx hb dX9_dies_17 (by decide) ?_
    exact hx_retz hx hb hr rfl hlk hW ⟨⟨df, cl_qp_7, (Or.inl ⟨by decide, rfl, fun hc => by have := hc.1; have := hc.2.1; omega⟩)⟩, hT, hM⟩ dX9_dies_18
  · have gq_6 := hr_5 _ rfl
    have k_8 : 0 ≤ i1.toInt ∧ i1.toInt < pn0.toInt ∧ h_2.2.2 qp i1.toNatClampNeg = some q_6 := by
      rcases hr_5B with ⟨z, _⟩ | ⟨z1, z2, q, z3, z4⟩
      · cases z
      · cases z3; exact ⟨z1, z2, z4⟩
    have fo_9 := k_8.2.2
    have k_8 : 0 ≤ i1.toInt ∧ i1.toInt < pn0.toInt := ⟨k_8.1, k_8.2.1⟩
    refine lv_astore_n (lv' := [(2, .ref q_6), (0, .ref x), (1, .int i1)]) hx hb dX9_dies_5 rfl hl (by decide) rfl (fun ls hl => ?_)
    refine lv_aload_n hx hb dX9_dies_6 rfl (lv_at hl 0 rfl) ?_
    refine lv_ifnull hx hb dX9_dies_7 ?_
    refine lv_aload_n hx hb dX9_dies_10 rfl (lv_at hl 0 rfl) ?_
    refine hx_geti hx hb hts hC_4 hown hW hT gq_6 tt_4 7 (by decide) rfl kw_623 ⟨rfl, rfl, rfl⟩ dX9_dies_11 (fun x_10 ex_10 lx_10 ux_10 => ?_)
    have fx_10 := ex_10.symm
    have cx_10 : x_10 = df i1.toNatClampNeg := by rw [ex_10, ← cl_qp_7]; exact (hx_col_at fo_9 (by unfold Int32.toNatClampNeg; omega)).symm
    refine hb_if_eq (zx := x_10.toInt) (tgt := 19) hx hb rfl dX9_dies_14 (by decide) (fun c_11 => ?_) (fun c_11 => ?_)
    · skip
      refine lv_aload_n hx hb dX9_dies_19 rfl (lv_at hl 0 rfl) ?_
      refine lv_iconst (v := 1) hx hb dX9_dies_20 (by decide) ?_
      have hTo := hT
      have cl_qp_7O := cl_qp_7
      have nu_qpO := nu_qp
      have fo_9O := fo_9
      refine hx_puti hx hb hts hC_4 hown hW hT (hx_S.rf (M := [(4, 7)])) gq_6 tt_4 7 (by decide) rfl kw_623 ⟨rfl, rfl, rfl⟩ rfl (x := (1 : Int32)) (by decide) rfl (by decide) (by decide) (List.mem_singleton.mpr rfl) dX9_dies_21 (fun H locs h_12 eh_12 hW hT hs => ?_)
      have f_x_7 := (hs.o gx trivial rfl).2.trans f_x_7
      have f_x_8 := (hs.o gx trivial rfl).1.trans f_x_8
      have pf_x_8 : ∀ j : Nat, (j : Int) < (h_12.2.1 x 8).toInt → h_12.2.2 qp j ≠ none := by
        intro j hj; rw [(hs.o gx trivial rfl).1] at hj; rw [(hs.a gqp rfl j).2]; exact pf_x_8 j hj
      have nu_qp : hx_num 40 h_12 qp 0 (pn0.toInt) := hx_num_S hs hTo gqp tt_44 tt_4 rfl rfl nu_qp
      have fo_9 := (hs.a gqp rfl _).2.trans fo_9
      have hM := hM.tr (hs.mono (by decide))
      have gx := gx.S hs
      have gqp := gqp.S hs
      have gq_6 := gq_6.S hs
      have f_13 : h_12.2.1 q_6 7 = (1 : Int32) := by rw [eh_12]; exact hx_pi_at _ _ _ _
      obtain ⟨fc_14, dfc_14⟩ : ∃ g : Nat → Int32, g = hx_up df i1.toNatClampNeg (1 : Int32) := ⟨_, rfl⟩
      have nfc_14 : hx_col 40 h_12 qp 7 = fc_14 := by rw [dfc_14, ← cl_qp_7O]; exact hx_col_pi nu_qpO fo_9O (by unfold Int32.toNatClampNeg; omega) eh_12
      refine lv_iconst (v := 1) hx hb dX9_dies_24 (by decide) ?_
      exact hx_retz hx hb hr rfl hlk hW ⟨⟨fc_14, nfc_14, (Or.inr ⟨by decide, dfc_14, by omega, by omega, (by have z1 : (1 : Int32).toInt = 1 := (by decide); show (df i1.toNatClampNeg).toInt ≠ _; rw [← cx_10]; omega)⟩)⟩, hT, hM⟩ dX9_dies_25
    · skip
      refine lv_iconst (v := 0) hx hb dX9_dies_17 (by decide) ?_
      exact hx_retz hx hb hr rfl hlk hW ⟨⟨df, cl_qp_7, (Or.inl ⟨by decide, rfl, fun hc => hc.2.2 (by have z1 : (1 : Int32).toInt = 1 := (by decide); show (df i1.toNatClampNeg).toInt = _; rw [← cx_10]; omega)⟩)⟩, hT, hM⟩ dX9_dies_18


set_option maxHeartbeats 4000000 in
set_option maxRecDepth 100000 in
theorem t_X9_judge_2 (l : Launch) (dC : Nat → ClassId) (dI : Nat → Nat → Nat) (dA : Nat → ClassId) (L : List Nat) (h : hx_h) (sz : Nat) (x : Nat) (i1 : Int32) (i2 : Int32) (hT : hx_T T_tb L h) (gx : hx_g L h x 9) (pn0 : Int32) (f_x_8 : h.2.1 x 8 = pn0) (hi2 : i2.toInt = 0 ∨ i2.toInt = 1) (qp : Nat) (gqp : hx_g L h qp 44) (f_x_7 : h.2.2 x 7 = some qp) (pf_x_8 : ∀ j : Nat, (j : Int) < (h.2.1 x 8).toInt → h.2.2 qp j ≠ none) (df : Nat → Int32) (cl_qp_8 : hx_col 40 h qp 8 = df) (nu_qp : hx_num 40 h qp 0 (pn0.toInt)) : Met l yX9_judge (Cond.code yX9_judge cX9_judge 4 (some .boolean) :: hx_all) ({ frames := 1, cells := 0, slots := 0, locals := 21 }) (va_Pc [.ref x, .int i1, .int i2] (hx_B T_tb (P_ty dA) (dC, dI) vwCl L h sz)) (va_Qi (fun (r : Int32) (u : List Nat × hx_h) => (∃ (df1 : Nat → Int32), hx_col 40 u.2 qp 8 = df1 ∧ (hx_JS pn0.toInt i1.toInt i2 df r.toInt df1)) ∧ hx_T T_tb u.1 u.2 ∧ hx_S T_tb [(4, 8), (4, 9)] L h u.1 u.2) (hx_E T_tb (P_ty dA) (dC, dI) vwCl (hx_A L sz)) (hx_A L sz)) 0 0 (hx_A L sz) := by
  refine hx_met (lv := [(0, .ref x), (1, .int i1), (2, .int i2)]) (by decide +kernel) rfl (Nat.le_of_ble_eq_true rfl) rfl ?_
  intro p e s m below meth c hx hb hml hr hlk hts0 hown hin hsz hW ls hl
  have hts : ∀ w ∈ hx_all, w.before _ s = true := fun w hw => hts0 w (List.mem_cons_of_mem _ hw)
  have hown : s.vm.findClass "SmallCourt" = some m.cls := hown
  have hM : hx_S T_tb [(4, 8), (4, 9)] L h L h := hx_S.rf
  have b_pn0 := hT.gi gx tt_9 (k := 8) rfl
  rw [f_x_8] at b_pn0
  have b_pn0 : 0 ≤ pn0.toInt ∧ pn0.toInt ≤ 40 := b_pn0
  refine lv_aload_n hx hb dX9_judge_0 rfl (lv_at hl 0 rfl) ?_
  refine lv_iload_n hx hb dX9_judge_1 rfl (lv_at hl 1 rfl) ?_
  have hTo := hT
  refine hx_goq (hx_runV (As := [.int i1]) (rest := []) ⟨hx, hb, hml, hown, hts⟩ hW gx tt_9 (T := TX9) (N := 20) rfl (t_X9_personAt_2 l dC dI dA L h s.heap.size x i1 hT gx pn0 f_x_8 qp gqp f_x_7 pf_x_8) (cwV 1 hts (hx_gV kw_659 kw_656 kw_658 kw_20 kw_94) rfl rfl rfl (by decide +kernel) ⟨Nat.le_of_ble_eq_true rfl, Nat.le_of_ble_eq_true rfl⟩) rfl hl.1 rfl (Nat.le_of_ble_eq_true rfl) dX9_judge_2 ⟨Nat.le_of_ble_eq_true rfl, Nat.le_of_ble_eq_true rfl⟩) hW (fun r_3 L_1 h_2 H locs p_4 hW => ?_)
  obtain ⟨hr_5, hT, hs⟩ := p_4
  have hT : hx_T T_tb L_1 h_2 := hT
  have hs : hx_S T_tb [] L h L_1 h_2 := hs
  have f_x_7 := (hs.o gx trivial rfl).2.trans f_x_7
  have f_x_8 := (hs.o gx trivial rfl).1.trans f_x_8
  have pf_x_8 : ∀ j : Nat, (j : Int) < (h_2.2.1 x 8).toInt → h_2.2.2 qp j ≠ none := by
    intro j hj; rw [(hs.o gx trivial rfl).1] at hj; rw [(hs.a gqp rfl j).2]; exact pf_x_8 j hj
  have cl_qp_8 : hx_col 40 h_2 qp 8 = df := (hx_col_S hs hTo gqp tt_44 tt_4 rfl rfl).trans cl_qp_8
  have nu_qp : hx_num 40 h_2 qp 0 (pn0.toInt) := hx_num_S hs hTo gqp tt_44 tt_4 rfl rfl nu_qp
  have hM := hM.tr (hs.mono (by decide))
  have gx := gx.S hs
  have gqp := gqp.S hs
  obtain ⟨hr_5, hr_5B⟩ := hr_5
  have hr_5 : ∀ q, r_3 = some q → hx_g L_1 h_2 q 4 := hr_5
  rcases r_3 with _ | q_6
  · skip
    have k_7 : i1.toInt < 0 ∨ pn0.toInt ≤ i1.toInt := by
      rcases hr_5B with ⟨_, z⟩ | ⟨_, _, q, z, _⟩
      · exact z
      · cases z
    refine lv_astore_nN (lv' := [(3, .null), (0, .ref x), (1, .int i1), (2, .int i2)]) hx hb dX9_judge_5 rfl hl (by decide) rfl (fun ls hl => ?_)
    refine lv_aload_nN hx hb dX9_judge_6 rfl (lv_at hl 0 rfl) ?_
    refine lv_ifnullN (tgt := 18) hx hb dX9_judge_7 (by decide) ?_
    refine lv_iconst (v := 0) hx hb dX9_judge_18 (by decide) ?_
    exact hx_retz hx hb hr rfl hlk hW ⟨⟨df, cl_qp_8, (Or.inl ⟨by decide, rfl, fun hc => by have := hc.1; have := hc.2.1; omega⟩)⟩, hT, hM⟩ dX9_judge_19
  · have gq_6 := hr_5 _ rfl
    have k_8 : 0 ≤ i1.toInt ∧ i1.toInt < pn0.toInt ∧ h_2.2.2 qp i1.toNatClampNeg = some q_6 := by
      rcases hr_5B with ⟨z, _⟩ | ⟨z1, z2, q, z3, z4⟩
      · cases z
      · cases z3; exact ⟨z1, z2, z4⟩
    have fo_9 := k_8.2.2
    have k_8 : 0 ≤ i1.toInt ∧ i1.toInt < pn0.toInt := ⟨k_8.1, k_8.2.1⟩
    refine lv_astore_n (lv' := [(3, .ref q_6), (0, .ref x), (1, .int i1), (2, .int i2)]) hx hb dX9_judge_5 rfl hl (by decide) rfl (fun ls hl => ?_)
    refine lv_aload_n hx hb dX9_judge_6 rfl (lv_at hl 0 rfl) ?_
    refine lv_ifnull hx hb dX9_judge_7 ?_
    refine lv_aload_n hx hb dX9_judge_10 rfl (lv_at hl 0 rfl) ?_
    refine hx_geti hx hb hts hC_4 hown hW hT gq_6 tt_4 8 (by decide) rfl kw_625 ⟨rfl, rfl, rfl⟩ dX9_judge_11 (fun x_10 ex_10 lx_10 ux_10 => ?_)
    have fx_10 := ex_10.symm
    have cx_10 : x_10 = df i1.toNatClampNeg := by rw [ex_10, ← cl_qp_8]; exact (hx_col_at fo_9 (by unfold Int32.toNatClampNeg; omega)).symm
    refine lv_iload_n hx hb dX9_judge_14 rfl (lv_at hl 3 rfl) ?_
    refine hb_icmp_ne (zx := x_10.toInt) (zy := i2.toInt) (tgt := 20) hx hb rfl rfl dX9_judge_15 (by decide) (fun c_11 => ?_) (fun c_11 => ?_)
    · skip
      refine lv_aload_n hx hb dX9_judge_20 rfl (lv_at hl 0 rfl) ?_
      refine lv_iload_n hx hb dX9_judge_21 rfl (lv_at hl 3 rfl) ?_
      have hTo := hT
      have cl_qp_8O := cl_qp_8
      have nu_qpO := nu_qp
      have fo_9O := fo_9
      refine hx_puti hx hb hts hC_4 hown hW hT (hx_S.rf (M := [(4, 8)])) gq_6 tt_4 8 (by decide) rfl kw_625 ⟨rfl, rfl, rfl⟩ rfl (x := i2) ⟨by omega, by omega⟩ rfl (hx_nar01 (by omega)) (hx_fz (by omega)) (List.mem_singleton.mpr rfl) dX9_judge_22 (fun H locs h_12 eh_12 hW hT hs => ?_)
      have f_x_7 := (hs.o gx trivial rfl).2.trans f_x_7
      have f_x_8 := (hs.o gx trivial rfl).1.trans f_x_8
      have pf_x_8 : ∀ j : Nat, (j : Int) < (h_12.2.1 x 8).toInt → h_12.2.2 qp j ≠ none := by
        intro j hj; rw [(hs.o gx trivial rfl).1] at hj; rw [(hs.a gqp rfl j).2]; exact pf_x_8 j hj
      have nu_qp : hx_num 40 h_12 qp 0 (pn0.toInt) := hx_num_S hs hTo gqp tt_44 tt_4 rfl rfl nu_qp
      have fo_9 := (hs.a gqp rfl _).2.trans fo_9
      have hM := hM.tr (hs.mono (by decide))
      have gx := gx.S hs
      have gqp := gqp.S hs
      have gq_6 := gq_6.S hs
      have f_13 : h_12.2.1 q_6 8 = i2 := by rw [eh_12]; exact hx_pi_at _ _ _ _
      obtain ⟨fc_14, dfc_14⟩ : ∃ g : Nat → Int32, g = hx_up df i1.toNatClampNeg i2 := ⟨_, rfl⟩
      have nfc_14 : hx_col 40 h_12 qp 8 = fc_14 := by rw [dfc_14, ← cl_qp_8O]; exact hx_col_pi nu_qpO fo_9O (by unfold Int32.toNatClampNeg; omega) eh_12
      refine lv_aload_n hx hb dX9_judge_25 rfl (lv_at hl 0 rfl) ?_
      refine lv_iconst (v := 1) hx hb dX9_judge_26 (by decide) ?_
      have hTo := hT
      refine hx_puti hx hb hts hC_4 hown hW hT (hx_S.rf (M := [(4, 9)])) gq_6 tt_4 9 (by decide) rfl kw_626 ⟨rfl, rfl, rfl⟩ rfl (x := (1 : Int32)) (by decide) rfl (by decide) (by decide) (List.mem_singleton.mpr rfl) dX9_judge_27 (fun H locs h_15 eh_15 hW hT hs => ?_)
      have f_x_7 := (hs.o gx trivial rfl).2.trans f_x_7
      have f_x_8 := (hs.o gx trivial rfl).1.trans f_x_8
      have f_13 := (hs.o gq_6 trivial rfl).1.trans f_13
      have pf_x_8 : ∀ j : Nat, (j : Int) < (h_15.2.1 x 8).toInt → h_15.2.2 qp j ≠ none := by
        intro j hj; rw [(hs.o gx trivial rfl).1] at hj; rw [(hs.a gqp rfl j).2]; exact pf_x_8 j hj
      have nfc_14 : hx_col 40 h_15 qp 8 = fc_14 := (hx_col_S hs hTo gqp tt_44 tt_4 rfl rfl).trans nfc_14
      have nu_qp : hx_num 40 h_15 qp 0 (pn0.toInt) := hx_num_S hs hTo gqp tt_44 tt_4 rfl rfl nu_qp
      have fo_9 := (hs.a gqp rfl _).2.trans fo_9
      have hM := hM.tr (hs.mono (by decide))
      have gx := gx.S hs
      have gqp := gqp.S hs
      have gq_6 := gq_6.S hs
      have f_16 : h_15.2.1 q_6 9 = (1 : Int32) := by rw [eh_15]; exact hx_pi_at _ _ _ _
      refine lv_iconst (v := 1) hx hb dX9_judge_30 (by decide) ?_
      exact hx_retz hx hb hr rfl hlk hW ⟨⟨fc_14, nfc_14, (Or.inr ⟨by decide, dfc_14, by omega, by omega, (by have z1 : (1 : Int32).toInt = 1 := (by decide); show (df i1.toNatClampNeg).toInt ≠ _; rw [← cx_10]; omega)⟩)⟩, hT, hM⟩ dX9_judge_31
    · skip
      refine lv_iconst (v := 0) hx hb dX9_judge_18 (by decide) ?_
      exact hx_retz hx hb hr rfl hlk hW ⟨⟨df, cl_qp_8, (Or.inl ⟨by decide, rfl, fun hc => hc.2.2 (by have z1 : (1 : Int32).toInt = 1 := (by decide); show (df i1.toNatClampNeg).toInt = _; rw [← cx_10]; omega)⟩)⟩, hT, hM⟩ dX9_judge_19


set_option maxHeartbeats 4000000 in
set_option maxRecDepth 100000 in
theorem t_X9_anew_2 (l : Launch) (dC : Nat → ClassId) (dI : Nat → Nat → Nat) (dA : Nat → ClassId) (L : List Nat) (h : hx_h) (sz : Nat) (x : Nat) (i1 : Int32) (i2 : Int32) (i3 : Int32) (i4 : Int32) (i5 : Int32) (hT : hx_T T_tb L h) (gx : hx_g L h x 9) (pn0 : Int32) (f_x_8 : h.2.1 x 8 = pn0) (qp : Nat) (gqp : hx_g L h qp 44) (f_x_7 : h.2.2 x 7 = some qp) (pf_x_8 : ∀ j : Nat, (j : Int) < (h.2.1 x 8).toInt → h.2.2 qp j ≠ none) (df : Nat → Int32) (cl_qp_7 : hx_col 40 h qp 7 = df) : Met l yX9_anew (Cond.code yX9_anew cX9_anew 7 (some .boolean) :: hx_all) ({ frames := 2, cells := 0, slots := 0, locals := 45 }) (va_Pc [.ref x, .int i1, .int i2, .int i3, .int i4, .int i5] (hx_B T_tb (P_ty dA) (dC, dI) vwCl L h sz)) (va_Qi (fun (r : Int32) (u : List Nat × hx_h) => (hx_AS pn0.toInt i1.toInt i2.toInt i3.toInt i4.toInt i5.toInt df r.toInt) ∧ hx_T T_tb u.1 u.2 ∧ hx_S T_tb [(4, 3), (4, 4), (4, 5), (4, 6)] L h u.1 u.2) (hx_E T_tb (P_ty dA) (dC, dI) vwCl (hx_A L sz)) (hx_A L sz)) 0 0 (hx_A L sz) := by
  refine hx_met (lv := [(0, .ref x), (1, .int i1), (2, .int i2), (3, .int i3), (4, .int i4), (5, .int i5)]) (by decide +kernel) rfl (Nat.le_of_ble_eq_true rfl) rfl ?_
  intro p e s m below meth c hx hb hml hr hlk hts0 hown hin hsz hW ls hl
  have hts : ∀ w ∈ hx_all, w.before _ s = true := fun w hw => hts0 w (List.mem_cons_of_mem _ hw)
  have hown : s.vm.findClass "SmallCourt" = some m.cls := hown
  have hM : hx_S T_tb [(4, 3), (4, 4), (4, 5), (4, 6)] L h L h := hx_S.rf
  have b_pn0 := hT.gi gx tt_9 (k := 8) rfl
  rw [f_x_8] at b_pn0
  have b_pn0 : 0 ≤ pn0.toInt ∧ pn0.toInt ≤ 40 := b_pn0
  refine lv_aload_n hx hb dX9_anew_0 rfl (lv_at hl 0 rfl) ?_
  refine lv_iload_n hx hb dX9_anew_1 rfl (lv_at hl 1 rfl) ?_
  have hTo := hT
  refine hx_goq (hx_runV (As := [.int i1]) (rest := []) ⟨hx, hb, hml, hown, hts⟩ hW gx tt_9 (T := TX9) (N := 20) rfl (t_X9_personAt_2 l dC dI dA L h s.heap.size x i1 hT gx pn0 f_x_8 qp gqp f_x_7 pf_x_8) (cwV 1 hts (hx_gV kw_659 kw_656 kw_658 kw_20 kw_94) rfl rfl rfl (by decide +kernel) ⟨Nat.le_of_ble_eq_true rfl, Nat.le_of_ble_eq_true rfl⟩) rfl hl.1 rfl (Nat.le_of_ble_eq_true rfl) dX9_anew_2 ⟨Nat.le_of_ble_eq_true rfl, Nat.le_of_ble_eq_true rfl⟩) hW (fun r_3 L_1 h_2 H locs p_4 hW => ?_)
  obtain ⟨hr_5, hT, hs⟩ := p_4
  have hT : hx_T T_tb L_1 h_2 := hT
  have hs : hx_S T_tb [] L h L_1 h_2 := hs
  have f_x_7 := (hs.o gx trivial rfl).2.trans f_x_7
  have f_x_8 := (hs.o gx trivial rfl).1.trans f_x_8
  have pf_x_8 : ∀ j : Nat, (j : Int) < (h_2.2.1 x 8).toInt → h_2.2.2 qp j ≠ none := by
    intro j hj; rw [(hs.o gx trivial rfl).1] at hj; rw [(hs.a gqp rfl j).2]; exact pf_x_8 j hj
  have cl_qp_7 : hx_col 40 h_2 qp 7 = df := (hx_col_S hs hTo gqp tt_44 tt_4 rfl rfl).trans cl_qp_7
  have hM := hM.tr (hs.mono (by decide))
  have gx := gx.S hs
  have gqp := gqp.S hs
  obtain ⟨hr_5, hr_5B⟩ := hr_5
  have hr_5 : ∀ q, r_3 = some q → hx_g L_1 h_2 q 4 := hr_5
  rcases r_3 with _ | q_6
  · skip
    have k_7 : i1.toInt < 0 ∨ pn0.toInt ≤ i1.toInt := by
      rcases hr_5B with ⟨_, z⟩ | ⟨_, _, q, z, _⟩
      · exact z
      · cases z
    refine lv_astoreN (lv' := [(6, .null), (0, .ref x), (1, .int i1), (2, .int i2), (3, .int i3), (4, .int i4), (5, .int i5)]) hx hb dX9_anew_5 hl (by decide) rfl (fun ls hl => ?_)
    refine lv_aloadN hx hb dX9_anew_7 (lv_at hl 0 rfl) ?_
    refine lv_ifnullN (tgt := 32) hx hb dX9_anew_9 (by decide) ?_
    refine lv_iconst (v := 0) hx hb dX9_anew_32 (by decide) ?_
    exact hx_retz hx hb hr rfl hlk hW ⟨(Or.inl ⟨by decide, fun hc => by have := hc.1; omega⟩), hT, hM⟩ dX9_anew_33
  · have gq_6 := hr_5 _ rfl
    have k_8 : 0 ≤ i1.toInt ∧ i1.toInt < pn0.toInt ∧ h_2.2.2 qp i1.toNatClampNeg = some q_6 := by
      rcases hr_5B with ⟨z, _⟩ | ⟨z1, z2, q, z3, z4⟩
      · cases z
      · cases z3; exact ⟨z1, z2, z4⟩
    have fo_9 := k_8.2.2
    have k_8 : 0 ≤ i1.toInt ∧ i1.toInt < pn0.toInt := ⟨k_8.1, k_8.2.1⟩
    refine lv_astore (lv' := [(6, .ref q_6), (0, .ref x), (1, .int i1), (2, .int i2), (3, .int i3), (4, .int i4), (5, .int i5)]) hx hb dX9_anew_5 hl (by decide) rfl (fun ls hl => ?_)
    refine lv_aload hx hb dX9_anew_7 (lv_at hl 0 rfl) ?_
    refine lv_ifnull hx hb dX9_anew_9 ?_
    refine lv_aload hx hb dX9_anew_12 (lv_at hl 0 rfl) ?_
    refine hx_geti hx hb hts hC_4 hown hW hT gq_6 tt_4 7 (by decide) rfl kw_623 ⟨rfl, rfl, rfl⟩ dX9_anew_14 (fun x_10 ex_10 lx_10 ux_10 => ?_)
    have fx_10 := ex_10.symm
    have cx_10 : x_10 = df i1.toNatClampNeg := by rw [ex_10, ← cl_qp_7]; exact (hx_col_at fo_9 (by unfold Int32.toNatClampNeg; omega)).symm
    refine hb_if_ne (zx := x_10.toInt) (tgt := 32) hx hb rfl dX9_anew_17 (by decide) (fun c_11 => ?_) (fun c_11 => ?_)
    · skip
      refine lv_iconst (v := 0) hx hb dX9_anew_32 (by decide) ?_
      exact hx_retz hx hb hr rfl hlk hW ⟨(Or.inl ⟨by decide, fun hc => by have h1 : (df i1.toNatClampNeg).toInt = 0 := hc.2.1; have h2 := hc.2.2; unfold hx_hh at h2; rw [← cx_10] at h1; omega⟩), hT, hM⟩ dX9_anew_33
    · skip
      refine lv_iload_n hx hb dX9_anew_20 rfl (lv_at hl 3 rfl) ?_
      refine lv_iload_n hx hb dX9_anew_21 rfl (lv_at hl 4 rfl) ?_
      refine lv_iload hx hb dX9_anew_22 (lv_at hl 5 rfl) ?_
      refine lv_iload hx hb dX9_anew_24 (lv_at hl 6 rfl) ?_
      have hTo := hT
      refine hx_goi (hx_runS (As := [.int i2, .int i3, .int i4, .int i5]) (rest := []) ⟨hx, hb, hml, hown, hts⟩ hW (t_X9_isHousehold_2 l dC dI dA L_1 h_2 H.size i2 i3 i4 i5 hT) (va_cwS 4 hts (hx_gS kw_604 kw_602 kw_603 kw_94) rfl rfl rfl (by decide +kernel) ⟨Nat.le_of_ble_eq_true rfl, Nat.le_of_ble_eq_true rfl⟩) rfl hl.1 rfl (Nat.le_of_ble_eq_true rfl) dX9_anew_26 ⟨Nat.le_of_ble_eq_true rfl, Nat.le_of_ble_eq_true rfl⟩) hW (fun r_14 L_12 h_13 H locs p_15 hW => ?_)
      obtain ⟨hr_16, hT, hs⟩ := p_15
      have hT : hx_T T_tb L_12 h_13 := hT
      have hs : hx_S T_tb [] L_1 h_2 L_12 h_13 := hs
      have f_x_7 := (hs.o gx trivial rfl).2.trans f_x_7
      have f_x_8 := (hs.o gx trivial rfl).1.trans f_x_8
      have fx_10 := (hs.o gq_6 trivial rfl).1.trans fx_10
      have pf_x_8 : ∀ j : Nat, (j : Int) < (h_13.2.1 x 8).toInt → h_13.2.2 qp j ≠ none := by
        intro j hj; rw [(hs.o gx trivial rfl).1] at hj; rw [(hs.a gqp rfl j).2]; exact pf_x_8 j hj
      have cl_qp_7 : hx_col 40 h_13 qp 7 = df := (hx_col_S hs hTo gqp tt_44 tt_4 rfl rfl).trans cl_qp_7
      have fo_9 := (hs.a gqp rfl _).2.trans fo_9
      have hM := hM.tr (hs.mono (by decide))
      have gx := gx.S hs
      have gqp := gqp.S hs
      have gq_6 := gq_6.S hs
      refine hb_if_ne (zx := r_14.toInt) (tgt := 34) hx hb rfl dX9_anew_29 (by decide) (fun c_17 => ?_) (fun c_17 => ?_)
      · skip
        refine lv_aload hx hb dX9_anew_34 (lv_at hl 0 rfl) ?_
        refine lv_iload_n hx hb dX9_anew_36 rfl (lv_at hl 3 rfl) ?_
        refine lv_iload_n hx hb dX9_anew_37 rfl (lv_at hl 4 rfl) ?_
        refine lv_iload hx hb dX9_anew_38 (lv_at hl 5 rfl) ?_
        refine lv_iload hx hb dX9_anew_40 (lv_at hl 6 rfl) ?_
        have hTo := hT
        refine hx_gov (hx_runV (As := [.int i2, .int i3, .int i4, .int i5]) (rest := []) ⟨hx, hb, hml, hown, hts⟩ hW gq_6 tt_4 (T := TX4) (N := 10) rfl (t_X4_tell l dC dI dA L_12 h_13 H.size q_6 i2 i3 i4 i5 hT gq_6) (cwV 4 hts (hx_gV kw_651 kw_648 kw_649 kw_650 kw_108) rfl rfl rfl (by decide +kernel) ⟨Nat.le_of_ble_eq_true rfl, Nat.le_of_ble_eq_true rfl⟩) rfl hl.1 rfl (Nat.le_of_ble_eq_true rfl) dX9_anew_42 ⟨Nat.le_of_ble_eq_true rfl, Nat.le_of_ble_eq_true rfl⟩) hW (fun L_18 h_19 H locs p_21 hW => ?_)
        obtain ⟨hT, hs⟩ := p_21
        have hT : hx_T T_tb L_18 h_19 := hT
        have hs : hx_S T_tb [(4, 3), (4, 4), (4, 5), (4, 6)] L_12 h_13 L_18 h_19 := hs
        have f_x_7 := (hs.o gx trivial rfl).2.trans f_x_7
        have f_x_8 := (hs.o gx trivial rfl).1.trans f_x_8
        have fx_10 := (hs.o gq_6 trivial rfl).1.trans fx_10
        have pf_x_8 : ∀ j : Nat, (j : Int) < (h_19.2.1 x 8).toInt → h_19.2.2 qp j ≠ none := by
          intro j hj; rw [(hs.o gx trivial rfl).1] at hj; rw [(hs.a gqp rfl j).2]; exact pf_x_8 j hj
        have cl_qp_7 : hx_col 40 h_19 qp 7 = df := (hx_col_S hs hTo gqp tt_44 tt_4 rfl rfl).trans cl_qp_7
        have fo_9 := (hs.a gqp rfl _).2.trans fo_9
        have hM := hM.tr (hs.mono (by decide))
        have gx := gx.S hs
        have gqp := gqp.S hs
        have gq_6 := gq_6.S hs
        refine lv_iconst (v := 1) hx hb dX9_anew_45 (by decide) ?_
        exact hx_retz hx hb hr rfl hlk hW ⟨(Or.inr ⟨by decide, ⟨by omega, by omega⟩, (by show (df i1.toNatClampNeg).toInt = 0; rw [← cx_10]; omega), by unfold hx_hh; omega⟩), hT, hM⟩ dX9_anew_46
      · skip
        refine lv_iconst (v := 0) hx hb dX9_anew_32 (by decide) ?_
        exact hx_retz hx hb hr rfl hlk hW ⟨(Or.inl ⟨by decide, fun hc => by have h1 : (df i1.toNatClampNeg).toInt = 0 := hc.2.1; have h2 := hc.2.2; unfold hx_hh at h2; rw [← cx_10] at h1; omega⟩), hT, hM⟩ dX9_anew_33


set_option maxHeartbeats 4000000 in
set_option maxRecDepth 100000 in
theorem t_X1_addLine_2 (l : Launch) (dC : Nat → ClassId) (dI : Nat → Nat → Nat) (dA : Nat → ClassId) (L : List Nat) (h : hx_h) (sz : Nat) (x : Nat) (i1 : Int32) (i2 : Int32) (i3 : Int32) (i4 : Int32) (i5 : Int32) (hT : hx_T T_tb L h) (gx : hx_g L h x 1) (k0 : Int32) (f_x_0 : h.2.1 x 0 = k0) (hk0 : k0.toInt < 400) : Met l yX1_addLine (Cond.code yX1_addLine cX1_addLine 7 none :: hx_all) ({ frames := 0, cells := 0, slots := 0, locals := 0 }) (va_Pc [.ref x, .int i1, .int i2, .int i3, .int i4, .int i5] (hx_B T_tb (P_ty dA) (dC, dI) vwCl L h sz)) (va_Qv (fun (u : List Nat × hx_h) => (∃ (k1 : Int32), u.2.2.1 x 0 = k1 ∧ (k1.toInt = k0.toInt + 1)) ∧ hx_T T_tb u.1 u.2 ∧ hx_S T_tb [(1, 0), (13, 0), (14, 0), (15, 0), (16, 0), (17, 0), (18, 0)] L h u.1 u.2) (hx_E T_tb (P_ty dA) (dC, dI) vwCl (hx_A L sz)) (hx_A L sz)) 0 0 (hx_A L sz) := by
  refine hx_met (lv := [(0, .ref x), (1, .int i1), (2, .int i2), (3, .int i3), (4, .int i4), (5, .int i5)]) (by decide +kernel) rfl (Nat.le_of_ble_eq_true rfl) rfl ?_
  intro p e s m below meth c hx hb hml hr hlk hts0 hown hin hsz hW ls hl
  have hts : ∀ w ∈ hx_all, w.before _ s = true := fun w hw => hts0 w (List.mem_cons_of_mem _ hw)
  have hown : s.vm.findClass "SmallCourt$Books" = some m.cls := hown
  have hM : hx_S T_tb [(1, 0), (13, 0), (14, 0), (15, 0), (16, 0), (17, 0), (18, 0)] L h L h := hx_S.rf
  have b_k0 := hT.gi gx tt_1 (k := 0) rfl
  rw [f_x_0] at b_k0
  have b_k0 : 0 ≤ k0.toInt ∧ k0.toInt ≤ 400 := b_k0
  refine lv_aload_n hx hb dX1_addLine_0 rfl (lv_at hl 0 rfl) ?_
  refine hk_geti hx hb hts hC_1 hown hW gx tt_1 0 (by decide) rfl kw_196 ⟨rfl, rfl, rfl⟩ f_x_0 dX1_addLine_1 ?_
  refine lv_sipush (v := 400) hx hb dX1_addLine_4 (by decide) ?_
  refine hb_icmp_lt (zx := k0.toInt) (zy := 400) (tgt := 11) hx hb rfl (by decide) dX1_addLine_7 (by decide) (fun c_1 => ?_) (fun c_1 => ?_)
  · skip
    refine lv_aload_n hx hb dX1_addLine_11 rfl (lv_at hl 0 rfl) ?_
    refine hx_getn hx hb hts hC_1 hown hW hT gx tt_1 1 (by decide) rfl kw_198 ⟨rfl, rfl, rfl⟩ dX1_addLine_12 (fun q_2 fq_2 gq_2 => ?_)
    refine lv_aload_n hx hb dX1_addLine_15 rfl (lv_at hl 0 rfl) ?_
    refine hk_geti hx hb hts hC_1 hown hW gx tt_1 0 (by decide) rfl kw_196 ⟨rfl, rfl, rfl⟩ f_x_0 dX1_addLine_16 ?_
    refine lv_iload_n hx hb dX1_addLine_19 rfl (lv_at hl 1 rfl) ?_
    refine hx_iast hx hb hW hT (hx_S.rf (M := [(13, 0)])) gq_2 tt_13 rfl ⟨by omega, by omega⟩ rfl (i32_r _) (List.mem_singleton.mpr rfl) dX1_addLine_20 (fun H locs h_3 eh_3 hW hT hs => ?_)
    have f_x_0 := (hs.o gx trivial rfl).1.trans f_x_0
    have fq_2 := (hs.o gx trivial rfl).2.trans fq_2
    have hM := hM.tr (hs.mono (by decide))
    have gx := gx.S hs
    have gq_2 := gq_2.S hs
    refine lv_aload_n hx hb dX1_addLine_21 rfl (lv_at hl 0 rfl) ?_
    refine hx_getn hx hb hts hC_1 hown hW hT gx tt_1 2 (by decide) rfl kw_199 ⟨rfl, rfl, rfl⟩ dX1_addLine_22 (fun q_4 fq_4 gq_4 => ?_)
    refine lv_aload_n hx hb dX1_addLine_25 rfl (lv_at hl 0 rfl) ?_
    refine hk_geti hx hb hts hC_1 hown hW gx tt_1 0 (by decide) rfl kw_196 ⟨rfl, rfl, rfl⟩ f_x_0 dX1_addLine_26 ?_
    refine lv_iload_n hx hb dX1_addLine_29 rfl (lv_at hl 2 rfl) ?_
    refine hx_iast hx hb hW hT (hx_S.rf (M := [(14, 0)])) gq_4 tt_14 rfl ⟨by omega, by omega⟩ rfl (i32_r _) (List.mem_singleton.mpr rfl) dX1_addLine_30 (fun H locs h_5 eh_5 hW hT hs => ?_)
    have f_x_0 := (hs.o gx trivial rfl).1.trans f_x_0
    have fq_2 := (hs.o gx trivial rfl).2.trans fq_2
    have fq_4 := (hs.o gx trivial rfl).2.trans fq_4
    have hM := hM.tr (hs.mono (by decide))
    have gx := gx.S hs
    have gq_2 := gq_2.S hs
    have gq_4 := gq_4.S hs
    refine lv_aload_n hx hb dX1_addLine_31 rfl (lv_at hl 0 rfl) ?_
    refine hx_getn hx hb hts hC_1 hown hW hT gx tt_1 3 (by decide) rfl kw_200 ⟨rfl, rfl, rfl⟩ dX1_addLine_32 (fun q_6 fq_6 gq_6 => ?_)
    refine lv_aload_n hx hb dX1_addLine_35 rfl (lv_at hl 0 rfl) ?_
    refine hk_geti hx hb hts hC_1 hown hW gx tt_1 0 (by decide) rfl kw_196 ⟨rfl, rfl, rfl⟩ f_x_0 dX1_addLine_36 ?_
    refine lv_iload_n hx hb dX1_addLine_39 rfl (lv_at hl 3 rfl) ?_
    refine hx_iast hx hb hW hT (hx_S.rf (M := [(15, 0)])) gq_6 tt_15 rfl ⟨by omega, by omega⟩ rfl (i32_r _) (List.mem_singleton.mpr rfl) dX1_addLine_40 (fun H locs h_7 eh_7 hW hT hs => ?_)
    have f_x_0 := (hs.o gx trivial rfl).1.trans f_x_0
    have fq_2 := (hs.o gx trivial rfl).2.trans fq_2
    have fq_4 := (hs.o gx trivial rfl).2.trans fq_4
    have fq_6 := (hs.o gx trivial rfl).2.trans fq_6
    have hM := hM.tr (hs.mono (by decide))
    have gx := gx.S hs
    have gq_2 := gq_2.S hs
    have gq_4 := gq_4.S hs
    have gq_6 := gq_6.S hs
    refine lv_aload_n hx hb dX1_addLine_41 rfl (lv_at hl 0 rfl) ?_
    refine hx_getn hx hb hts hC_1 hown hW hT gx tt_1 4 (by decide) rfl kw_201 ⟨rfl, rfl, rfl⟩ dX1_addLine_42 (fun q_8 fq_8 gq_8 => ?_)
    refine lv_aload_n hx hb dX1_addLine_45 rfl (lv_at hl 0 rfl) ?_
    refine hk_geti hx hb hts hC_1 hown hW gx tt_1 0 (by decide) rfl kw_196 ⟨rfl, rfl, rfl⟩ f_x_0 dX1_addLine_46 ?_
    refine lv_iload hx hb dX1_addLine_49 (lv_at hl 4 rfl) ?_
    refine hx_iast hx hb hW hT (hx_S.rf (M := [(16, 0)])) gq_8 tt_16 rfl ⟨by omega, by omega⟩ rfl (i32_r _) (List.mem_singleton.mpr rfl) dX1_addLine_51 (fun H locs h_9 eh_9 hW hT hs => ?_)
    have f_x_0 := (hs.o gx trivial rfl).1.trans f_x_0
    have fq_2 := (hs.o gx trivial rfl).2.trans fq_2
    have fq_4 := (hs.o gx trivial rfl).2.trans fq_4
    have fq_6 := (hs.o gx trivial rfl).2.trans fq_6
    have fq_8 := (hs.o gx trivial rfl).2.trans fq_8
    have hM := hM.tr (hs.mono (by decide))
    have gx := gx.S hs
    have gq_2 := gq_2.S hs
    have gq_4 := gq_4.S hs
    have gq_6 := gq_6.S hs
    have gq_8 := gq_8.S hs
    refine lv_aload_n hx hb dX1_addLine_52 rfl (lv_at hl 0 rfl) ?_
    refine hx_getn hx hb hts hC_1 hown hW hT gx tt_1 5 (by decide) rfl kw_202 ⟨rfl, rfl, rfl⟩ dX1_addLine_53 (fun q_10 fq_10 gq_10 => ?_)
    refine lv_aload_n hx hb dX1_addLine_56 rfl (lv_at hl 0 rfl) ?_
    refine hk_geti hx hb hts hC_1 hown hW gx tt_1 0 (by decide) rfl kw_196 ⟨rfl, rfl, rfl⟩ f_x_0 dX1_addLine_57 ?_
    refine lv_iload hx hb dX1_addLine_60 (lv_at hl 5 rfl) ?_
    refine hx_iast hx hb hW hT (hx_S.rf (M := [(17, 0)])) gq_10 tt_17 rfl ⟨by omega, by omega⟩ rfl (i32_r _) (List.mem_singleton.mpr rfl) dX1_addLine_62 (fun H locs h_11 eh_11 hW hT hs => ?_)
    have f_x_0 := (hs.o gx trivial rfl).1.trans f_x_0
    have fq_2 := (hs.o gx trivial rfl).2.trans fq_2
    have fq_4 := (hs.o gx trivial rfl).2.trans fq_4
    have fq_6 := (hs.o gx trivial rfl).2.trans fq_6
    have fq_8 := (hs.o gx trivial rfl).2.trans fq_8
    have fq_10 := (hs.o gx trivial rfl).2.trans fq_10
    have hM := hM.tr (hs.mono (by decide))
    have gx := gx.S hs
    have gq_2 := gq_2.S hs
    have gq_4 := gq_4.S hs
    have gq_6 := gq_6.S hs
    have gq_8 := gq_8.S hs
    have gq_10 := gq_10.S hs
    refine lv_aload_n hx hb dX1_addLine_63 rfl (lv_at hl 0 rfl) ?_
    refine hk_geti hx hb hts hC_1 hown hW gx tt_1 0 (by decide) rfl kw_196 ⟨rfl, rfl, rfl⟩ f_x_0 dX1_addLine_64 ?_
    refine lv_istore (lv' := [(6, .int k0), (0, .ref x), (1, .int i1), (2, .int i2), (3, .int i3), (4, .int i4), (5, .int i5)]) hx hb dX1_addLine_67 hl (by decide) rfl (fun ls hl => ?_)
    have loop69 : ∀ (n69 : Nat) (iv69_6 : Int32) (H : Heap) (locs : List Loc) (hL1 : List Nat) (hl1 : hx_h), 0 ≤ iv69_6.toInt → iv69_6.toInt ≤ 399 → ∀ (ls : Array Slot), iv69_6.toInt < (n69 : Int) → hx_W T_tb (P_ty dA) (dC, dI) vwCl (hx_A L sz) s.heap hL1 hl1 s H locs → hx_T T_tb hL1 hl1 → hx_S T_tb [(1, 0), (13, 0), (14, 0), (15, 0), (16, 0), (17, 0), (18, 0)] L h hL1 hl1 → hl1.2.1 x 0 = k0 → hl1.2.2 x 1 = some q_2 → hl1.2.2 x 2 = some q_4 → hl1.2.2 x 3 = some q_6 → hl1.2.2 x 4 = some q_8 → hl1.2.2 x 5 = some q_10 → hx_g hL1 hl1 x 1 → hx_g hL1 hl1 q_2 13 → hx_g hL1 hl1 q_4 14 → hx_g hL1 hl1 q_6 15 → hx_g hL1 hl1 q_8 16 → hx_g hL1 hl1 q_10 17 → lv_has ls 7 [(6, .int iv69_6), (0, .ref x), (1, .int i1), (2, .int i2), (3, .int i3), (4, .int i4), (5, .int i5)] → W p l e ({ frames := 0, cells := 0, slots := 0, locals := 0 }) s m ([.ref x, .int i1, .int i2, .int i3, .int i4, .int i5] : List Value).toArray below meth c H locs 0 0 (MQ below (va_Qv (fun (u : List Nat × hx_h) => (∃ (k1 : Int32), u.2.2.1 x 0 = k1 ∧ (k1.toInt = k0.toInt + 1)) ∧ hx_T T_tb u.1 u.2 ∧ hx_S T_tb [(1, 0), (13, 0), (14, 0), (15, 0), (16, 0), (17, 0), (18, 0)] L h u.1 u.2) (hx_E T_tb (P_ty dA) (dC, dI) vwCl (hx_A L sz)) (hx_A L sz)) ([.ref x, .int i1, .int i2, .int i3, .int i4, .int i5] : List Value).toArray s 0 0 (hx_A L sz)) (F0 m 69 ls []) := by
      intro n69
      induction n69 with
      | zero => intro iv69_6 H locs hL1 hl1 bliv69_6 buiv69_6  ls hn69; exfalso; omega
      | succ n69 ih69 =>
        intro iv69_6 H locs hL1 hl1 bliv69_6 buiv69_6  ls hn69 hW hT hM f_x_0 fq_2 fq_4 fq_6 fq_8 fq_10 gx gq_2 gq_4 gq_6 gq_8 gq_10 hl
        refine lv_iload hx hb dX1_addLine_69 (lv_at hl 0 rfl) ?_
        refine hb_if_le (zx := iv69_6.toInt) (tgt := 114) hx hb rfl dX1_addLine_71 (by decide) (fun c_12 => ?_) (fun c_12 => ?_)
        · skip
          refine lv_aload_n hx hb dX1_addLine_114 rfl (lv_at hl 1 rfl) ?_
          refine hx_getn hx hb hts hC_1 hown hW hT gx tt_1 6 (by decide) rfl kw_203 ⟨rfl, rfl, rfl⟩ dX1_addLine_115 (fun q_13 fq_13 gq_13 => ?_)
          refine lv_iload hx hb dX1_addLine_118 (lv_at hl 0 rfl) ?_
          refine lv_aload_n hx hb dX1_addLine_120 rfl (lv_at hl 1 rfl) ?_
          refine hk_geti hx hb hts hC_1 hown hW gx tt_1 0 (by decide) rfl kw_196 ⟨rfl, rfl, rfl⟩ f_x_0 dX1_addLine_121 ?_
          refine hx_iast hx hb hW hT (hx_S.rf (M := [(18, 0)])) gq_13 tt_18 rfl ⟨by omega, by omega⟩ rfl ⟨by omega, by omega⟩ (List.mem_singleton.mpr rfl) dX1_addLine_124 (fun H locs h_14 eh_14 hW hT hs => ?_)
          have f_x_0 := (hs.o gx trivial rfl).1.trans f_x_0
          have fq_2 := (hs.o gx trivial rfl).2.trans fq_2
          have fq_4 := (hs.o gx trivial rfl).2.trans fq_4
          have fq_6 := (hs.o gx trivial rfl).2.trans fq_6
          have fq_8 := (hs.o gx trivial rfl).2.trans fq_8
          have fq_10 := (hs.o gx trivial rfl).2.trans fq_10
          have fq_13 := (hs.o gx trivial rfl).2.trans fq_13
          have hM := hM.tr (hs.mono (by decide))
          have gx := gx.S hs
          have gq_2 := gq_2.S hs
          have gq_4 := gq_4.S hs
          have gq_6 := gq_6.S hs
          have gq_8 := gq_8.S hs
          have gq_10 := gq_10.S hs
          have gq_13 := gq_13.S hs
          refine lv_aload_n hx hb dX1_addLine_125 rfl (lv_at hl 1 rfl) ?_
          refine lv_dup hx hb dX1_addLine_126 rfl ?_
          refine hk_geti hx hb hts hC_1 hown hW gx tt_1 0 (by decide) rfl kw_196 ⟨rfl, rfl, rfl⟩ f_x_0 dX1_addLine_127 ?_
          refine lv_iconst (v := 1) hx hb dX1_addLine_130 (by decide) ?_
          refine lv_iadd hx hb dX1_addLine_131 ?_
          have rg_15 := i32_r k0
          refine lv_topi (fun x_16 ex_16 => ?_)
          have zx_16 : x_16.toInt = k0.toInt + 1 := by rw [ex_16]; exact i32_add rfl (by decide) (by omega) (by omega)
          refine hx_puti hx hb hts hC_1 hown hW hT (hx_S.rf (M := [(1, 0)])) gx tt_1 0 (by decide) rfl kw_196 ⟨rfl, rfl, rfl⟩ rfl (x := x_16) ⟨by omega, by omega⟩ rfl rfl rfl (List.mem_singleton.mpr rfl) dX1_addLine_132 (fun H locs h_17 eh_17 hW hT hs => ?_)
          have fq_2 := (hs.o gx trivial rfl).2.trans fq_2
          have fq_4 := (hs.o gx trivial rfl).2.trans fq_4
          have fq_6 := (hs.o gx trivial rfl).2.trans fq_6
          have fq_8 := (hs.o gx trivial rfl).2.trans fq_8
          have fq_10 := (hs.o gx trivial rfl).2.trans fq_10
          have fq_13 := (hs.o gx trivial rfl).2.trans fq_13
          have hM := hM.tr (hs.mono (by decide))
          have gx := gx.S hs
          have gq_2 := gq_2.S hs
          have gq_4 := gq_4.S hs
          have gq_6 := gq_6.S hs
          have gq_8 := gq_8.S hs
          have gq_10 := gq_10.S hs
          have gq_13 := gq_13.S hs
          have f_18 : h_17.2.1 x 0 = x_16 := by rw [eh_17]; exact hx_pi_at _ _ _ _
          exact hx_retv hx hb hr hlk hW ⟨⟨x_16, f_18, (by first | omega | (refine ⟨?_, ?_⟩ <;> omega))⟩, hT, hM⟩ dX1_addLine_135
        · skip
          refine lv_aload_n hx hb dX1_addLine_74 rfl (lv_at hl 1 rfl) ?_
          refine hk_getr hx hb hts hC_1 hown hW gx tt_1 3 (by decide) rfl kw_200 ⟨rfl, rfl, rfl⟩ fq_6 dX1_addLine_75 ?_
          refine lv_aload_n hx hb dX1_addLine_78 rfl (lv_at hl 1 rfl) ?_
          refine hx_getn hx hb hts hC_1 hown hW hT gx tt_1 6 (by decide) rfl kw_203 ⟨rfl, rfl, rfl⟩ dX1_addLine_79 (fun q_19 fq_19 gq_19 => ?_)
          refine lv_iload hx hb dX1_addLine_82 (lv_at hl 0 rfl) ?_
          refine lv_iconst (v := 1) hx hb dX1_addLine_84 (by decide) ?_
          refine lv_isub hx hb dX1_addLine_85 ?_
          have rg_20 := i32_r iv69_6
          refine lv_topi (fun x_21 ex_21 => ?_)
          have zx_21 : x_21.toInt = iv69_6.toInt - 1 := by rw [ex_21]; exact i32_sub rfl (by decide) (by omega) (by omega)
          refine hx_iald hx hb hW hT gq_19 tt_18 rfl ⟨by omega, by omega⟩ dX1_addLine_86 (fun x_22 ex_22 lx_22 ux_22 => ?_)
          refine hx_iald hx hb hW hT gq_6 tt_15 rfl ⟨by omega, by omega⟩ dX1_addLine_87 (fun x_23 ex_23 lx_23 ux_23 => ?_)
          refine lv_iload_n hx hb dX1_addLine_88 rfl (lv_at hl 4 rfl) ?_
          refine hb_icmp_le (zx := x_23.toInt) (zy := i3.toInt) (tgt := 114) hx hb rfl rfl dX1_addLine_89 (by decide) (fun c_24 => ?_) (fun c_24 => ?_)
          · skip
            refine lv_aload_n hx hb dX1_addLine_114 rfl (lv_at hl 1 rfl) ?_
            refine hk_getr hx hb hts hC_1 hown hW gx tt_1 6 (by decide) rfl kw_203 ⟨rfl, rfl, rfl⟩ fq_19 dX1_addLine_115 ?_
            refine lv_iload hx hb dX1_addLine_118 (lv_at hl 0 rfl) ?_
            refine lv_aload_n hx hb dX1_addLine_120 rfl (lv_at hl 1 rfl) ?_
            refine hk_geti hx hb hts hC_1 hown hW gx tt_1 0 (by decide) rfl kw_196 ⟨rfl, rfl, rfl⟩ f_x_0 dX1_addLine_121 ?_
            refine hx_iast hx hb hW hT (hx_S.rf (M := [(18, 0)])) gq_19 tt_18 rfl ⟨by omega, by omega⟩ rfl ⟨by omega, by omega⟩ (List.mem_singleton.mpr rfl) dX1_addLine_124 (fun H locs h_25 eh_25 hW hT hs => ?_)
            have f_x_0 := (hs.o gx trivial rfl).1.trans f_x_0
            have fq_2 := (hs.o gx trivial rfl).2.trans fq_2
            have fq_4 := (hs.o gx trivial rfl).2.trans fq_4
            have fq_6 := (hs.o gx trivial rfl).2.trans fq_6
            have fq_8 := (hs.o gx trivial rfl).2.trans fq_8
            have fq_10 := (hs.o gx trivial rfl).2.trans fq_10
            have fq_19 := (hs.o gx trivial rfl).2.trans fq_19
            have ex_23 := ex_23.trans (hs.a gq_6 rfl _).1.symm
            have hM := hM.tr (hs.mono (by decide))
            have gx := gx.S hs
            have gq_2 := gq_2.S hs
            have gq_4 := gq_4.S hs
            have gq_6 := gq_6.S hs
            have gq_8 := gq_8.S hs
            have gq_10 := gq_10.S hs
            have gq_19 := gq_19.S hs
            refine lv_aload_n hx hb dX1_addLine_125 rfl (lv_at hl 1 rfl) ?_
            refine lv_dup hx hb dX1_addLine_126 rfl ?_
            refine hk_geti hx hb hts hC_1 hown hW gx tt_1 0 (by decide) rfl kw_196 ⟨rfl, rfl, rfl⟩ f_x_0 dX1_addLine_127 ?_
            refine lv_iconst (v := 1) hx hb dX1_addLine_130 (by decide) ?_
            refine lv_iadd hx hb dX1_addLine_131 ?_
            have rg_26 := i32_r k0
            refine lv_topi (fun x_27 ex_27 => ?_)
            have zx_27 : x_27.toInt = k0.toInt + 1 := by rw [ex_27]; exact i32_add rfl (by decide) (by omega) (by omega)
            refine hx_puti hx hb hts hC_1 hown hW hT (hx_S.rf (M := [(1, 0)])) gx tt_1 0 (by decide) rfl kw_196 ⟨rfl, rfl, rfl⟩ rfl (x := x_27) ⟨by omega, by omega⟩ rfl rfl rfl (List.mem_singleton.mpr rfl) dX1_addLine_132 (fun H locs h_28 eh_28 hW hT hs => ?_)
            have fq_2 := (hs.o gx trivial rfl).2.trans fq_2
            have fq_4 := (hs.o gx trivial rfl).2.trans fq_4
            have fq_6 := (hs.o gx trivial rfl).2.trans fq_6
            have fq_8 := (hs.o gx trivial rfl).2.trans fq_8
            have fq_10 := (hs.o gx trivial rfl).2.trans fq_10
            have fq_19 := (hs.o gx trivial rfl).2.trans fq_19
            have ex_23 := ex_23.trans (hs.a gq_6 rfl _).1.symm
            have hM := hM.tr (hs.mono (by decide))
            have gx := gx.S hs
            have gq_2 := gq_2.S hs
            have gq_4 := gq_4.S hs
            have gq_6 := gq_6.S hs
            have gq_8 := gq_8.S hs
            have gq_10 := gq_10.S hs
            have gq_19 := gq_19.S hs
            have f_29 : h_28.2.1 x 0 = x_27 := by rw [eh_28]; exact hx_pi_at _ _ _ _
            exact hx_retv hx hb hr hlk hW ⟨⟨x_27, f_29, (by first | omega | (refine ⟨?_, ?_⟩ <;> omega))⟩, hT, hM⟩ dX1_addLine_135
          · skip
            refine lv_aload_n hx hb dX1_addLine_92 rfl (lv_at hl 1 rfl) ?_
            refine hk_getr hx hb hts hC_1 hown hW gx tt_1 6 (by decide) rfl kw_203 ⟨rfl, rfl, rfl⟩ fq_19 dX1_addLine_93 ?_
            refine lv_iload hx hb dX1_addLine_96 (lv_at hl 0 rfl) ?_
            refine lv_aload_n hx hb dX1_addLine_98 rfl (lv_at hl 1 rfl) ?_
            refine hk_getr hx hb hts hC_1 hown hW gx tt_1 6 (by decide) rfl kw_203 ⟨rfl, rfl, rfl⟩ fq_19 dX1_addLine_99 ?_
            refine lv_iload hx hb dX1_addLine_102 (lv_at hl 0 rfl) ?_
            refine lv_iconst (v := 1) hx hb dX1_addLine_104 (by decide) ?_
            refine lv_isub hx hb dX1_addLine_105 ?_
            refine lv_topi (fun x_30 ex_30 => ?_)
            have zx_30 : x_30.toInt = iv69_6.toInt - 1 := by rw [ex_30]; exact i32_sub rfl (by decide) (by omega) (by omega)
            refine hx_iald hx hb hW hT gq_19 tt_18 rfl ⟨by omega, by omega⟩ dX1_addLine_106 (fun x_31 ex_31 lx_31 ux_31 => ?_)
            refine hx_iast hx hb hW hT (hx_S.rf (M := [(18, 0)])) gq_19 tt_18 rfl ⟨by omega, by omega⟩ rfl ⟨by omega, by omega⟩ (List.mem_singleton.mpr rfl) dX1_addLine_107 (fun H locs h_32 eh_32 hW hT hs => ?_)
            have f_x_0 := (hs.o gx trivial rfl).1.trans f_x_0
            have fq_2 := (hs.o gx trivial rfl).2.trans fq_2
            have fq_4 := (hs.o gx trivial rfl).2.trans fq_4
            have fq_6 := (hs.o gx trivial rfl).2.trans fq_6
            have fq_8 := (hs.o gx trivial rfl).2.trans fq_8
            have fq_10 := (hs.o gx trivial rfl).2.trans fq_10
            have fq_19 := (hs.o gx trivial rfl).2.trans fq_19
            have ex_23 := ex_23.trans (hs.a gq_6 rfl _).1.symm
            have hM := hM.tr (hs.mono (by decide))
            have gx := gx.S hs
            have gq_2 := gq_2.S hs
            have gq_4 := gq_4.S hs
            have gq_6 := gq_6.S hs
            have gq_8 := gq_8.S hs
            have gq_10 := gq_10.S hs
            have gq_19 := gq_19.S hs
            obtain ⟨x_33, ex_33⟩ : ∃ y : Int32, y = iv69_6 + Int32.ofInt (-1) := ⟨_, rfl⟩
            have zx_33 : x_33.toInt = iv69_6.toInt + (-1) := by rw [ex_33]; exact i32_add rfl (by decide) (by omega) (by omega)
            refine lv_iinc (v := x_33) (lv' := [(6, .int x_33), (0, .ref x), (1, .int i1), (2, .int i2), (3, .int i3), (4, .int i4), (5, .int i5)]) hx hb dX1_addLine_108 hl (k := 0) rfl ex_33.symm (by decide) rfl (fun ls hl => ?_)
            refine lv_goto (tgt := 69) hx hb dX1_addLine_111 (by decide) ?_
            exact ih69 x_33 _ _ hL1 h_32 (by omega) (by omega)  ls (by omega) hW hT hM f_x_0 fq_2 fq_4 fq_6 fq_8 fq_10 gx gq_2 gq_4 gq_6 gq_8 gq_10 (lv_sub hl [0, 1, 2, 3, 4, 5, 6] rfl)
    exact loop69 401 k0 _ _ L h_11 (by omega) (by omega)  ls (by omega) hW hT hM f_x_0 fq_2 fq_4 fq_6 fq_8 fq_10 gx gq_2 gq_4 gq_6 gq_8 gq_10 hl
  · skip
    exact hx_retv hx hb hr hlk hW ⟨⟨k0, f_x_0, (by first | omega | (refine ⟨?_, ?_⟩ <;> omega))⟩, hT, hM⟩ dX1_addLine_10


set_option maxHeartbeats 4000000 in
set_option maxRecDepth 100000 in
theorem t_X9_line_2 (l : Launch) (dC : Nat → ClassId) (dI : Nat → Nat → Nat) (dA : Nat → ClassId) (L : List Nat) (h : hx_h) (sz : Nat) (x : Nat) (i1 : Int32) (i2 : Int32) (i3 : Int32) (i4 : Int32) (i5 : Int32) (hT : hx_T T_tb L h) (gx : hx_g L h x 9) (qp : Nat) (gqp : hx_g L h qp 44) (f_x_7 : h.2.2 x 7 = some qp) (qb : Nat) (gqb : hx_g L h qb 1) (f_x_9 : h.2.2 x 9 = some qb)  (ln0 : Int32) (f_qb_0 : h.2.1 qb 0 = ln0) (pn0 : Int32) (f_x_8 : h.2.1 x 8 = pn0) (nw0 : Int32) (f_x_2 : h.2.1 x 2 = nw0) (pf_x_8 : ∀ j : Nat, (j : Int) < (h.2.1 x 8).toInt → h.2.2 qp j ≠ none) : Met l yX9_line (Cond.code yX9_line cX9_line 6 (some .int) :: hx_all) ({ frames := 2, cells := 0, slots := 0, locals := 43 }) (va_Pc [.ref x, .int i1, .int i2, .int i3, .int i4, .int i5] (hx_B T_tb (P_ty dA) (dC, dI) vwCl L h sz)) (va_Qi (fun (r : Int32) (u : List Nat × hx_h) => (∃ (ln1 : Int32), u.2.2.1 qb 0 = ln1 ∧ (hx_LS ln0.toInt pn0.toInt nw0.toInt i1.toInt i2.toInt i3.toInt i4.toInt i5.toInt r.toInt ln1.toInt)) ∧ hx_T T_tb u.1 u.2 ∧ hx_S T_tb [(1, 0), (13, 0), (14, 0), (15, 0), (16, 0), (17, 0), (18, 0)] L h u.1 u.2) (hx_E T_tb (P_ty dA) (dC, dI) vwCl (hx_A L sz)) (hx_A L sz)) 0 0 (hx_A L sz) := by
  refine hx_met (lv := [(0, .ref x), (1, .int i1), (2, .int i2), (3, .int i3), (4, .int i4), (5, .int i5)]) (by decide +kernel) rfl (Nat.le_of_ble_eq_true rfl) rfl ?_
  intro p e s m below meth c hx hb hml hr hlk hts0 hown hin hsz hW ls hl
  have hts : ∀ w ∈ hx_all, w.before _ s = true := fun w hw => hts0 w (List.mem_cons_of_mem _ hw)
  have hown : s.vm.findClass "SmallCourt" = some m.cls := hown
  have hM : hx_S T_tb [(1, 0), (13, 0), (14, 0), (15, 0), (16, 0), (17, 0), (18, 0)] L h L h := hx_S.rf
  have b_ln0 := hT.gi gqb tt_1 (k := 0) rfl
  rw [f_qb_0] at b_ln0
  have b_ln0 : 0 ≤ ln0.toInt ∧ ln0.toInt ≤ 400 := b_ln0
  have b_pn0 := hT.gi gx tt_9 (k := 8) rfl
  rw [f_x_8] at b_pn0
  have b_pn0 : 0 ≤ pn0.toInt ∧ pn0.toInt ≤ 40 := b_pn0
  have b_nw0 := hT.gi gx tt_9 (k := 2) rfl
  rw [f_x_2] at b_nw0
  have b_nw0 : 0 ≤ nw0.toInt ∧ nw0.toInt ≤ 7999 := b_nw0
  refine lv_aload_n hx hb dX9_line_0 rfl (lv_at hl 0 rfl) ?_
  refine hk_getr hx hb hts hC_9 hown hW gx tt_9 9 (by decide) rfl kw_373 ⟨rfl, rfl, rfl⟩ f_x_9 dX9_line_1 ?_
  refine hk_geti hx hb hts hC_1 hown hW gqb tt_1 0 (by decide) rfl kw_197 ⟨rfl, rfl, rfl⟩ f_qb_0 dX9_line_4 ?_
  refine lv_sipush (v := 400) hx hb dX9_line_7 (by decide) ?_
  refine hb_icmp_ge (zx := ln0.toInt) (zy := 400) (tgt := 56) hx hb rfl (by decide) dX9_line_10 (by decide) (fun c_1 => ?_) (fun c_1 => ?_)
  · skip
    refine lv_iconst (v := -1) hx hb dX9_line_56 (by decide) ?_
    exact hx_reti hx hb hr hlk hW ⟨⟨ln0, f_qb_0, (Or.inl ⟨by decide, by omega, by unfold hx_LC; omega⟩)⟩, hT, hM⟩ dX9_line_57
  · skip
    refine lv_aload_n hx hb dX9_line_13 rfl (lv_at hl 0 rfl) ?_
    refine lv_iload_n hx hb dX9_line_14 rfl (lv_at hl 1 rfl) ?_
    refine lv_iload_n hx hb dX9_line_15 rfl (lv_at hl 2 rfl) ?_
    refine hx_goi (hx_runV (As := [.int i1, .int i2]) (rest := []) ⟨hx, hb, hml, hown, hts⟩ hW gx tt_9 (T := TX9) (N := 20) rfl (t_X9_areTwo_2 l dC dI dA L h s.heap.size x i1 i2 hT gx pn0 f_x_8 qp gqp f_x_7 pf_x_8) (cwV 2 hts (hx_gV kw_675 kw_672 kw_674 kw_21 kw_94) rfl rfl rfl (by decide +kernel) ⟨Nat.le_of_ble_eq_true rfl, Nat.le_of_ble_eq_true rfl⟩) rfl hl.1 rfl (Nat.le_of_ble_eq_true rfl) dX9_line_16 ⟨Nat.le_of_ble_eq_true rfl, Nat.le_of_ble_eq_true rfl⟩) hW (fun r_4 L_2 h_3 H locs p_5 hW => ?_)
    obtain ⟨hr_6, hT, hs⟩ := p_5
    have hT : hx_T T_tb L_2 h_3 := hT
    have hs : hx_S T_tb [] L h L_2 h_3 := hs
    have f_x_7 := (hs.o gx trivial rfl).2.trans f_x_7
    have f_x_9 := (hs.o gx trivial rfl).2.trans f_x_9
    have f_qb_0 := (hs.o gqb trivial rfl).1.trans f_qb_0
    have f_x_8 := (hs.o gx trivial rfl).1.trans f_x_8
    have f_x_2 := (hs.o gx trivial rfl).1.trans f_x_2
    have pf_x_8 : ∀ j : Nat, (j : Int) < (h_3.2.1 x 8).toInt → h_3.2.2 qp j ≠ none := by
      intro j hj; rw [(hs.o gx trivial rfl).1] at hj; rw [(hs.a gqp rfl j).2]; exact pf_x_8 j hj
    have hM := hM.tr (hs.mono (by decide))
    have gx := gx.S hs
    have gqp := gqp.S hs
    have gqb := gqb.S hs
    refine hb_if_eq (zx := r_4.toInt) (tgt := 56) hx hb rfl dX9_line_19 (by decide) (fun c_7 => ?_) (fun c_7 => ?_)
    · skip
      refine lv_iconst (v := -1) hx hb dX9_line_56 (by decide) ?_
      exact hx_reti hx hb hr hlk hW ⟨⟨ln0, f_qb_0, (Or.inl ⟨by decide, by omega, by unfold hx_LC; omega⟩)⟩, hT, hM⟩ dX9_line_57
    · skip
      refine lv_iload_n hx hb dX9_line_22 rfl (lv_at hl 3 rfl) ?_
      refine lv_iconst (v := 0) hx hb dX9_line_23 (by decide) ?_
      refine lv_aload_n hx hb dX9_line_24 rfl (lv_at hl 0 rfl) ?_
      refine hk_geti hx hb hts hC_9 hown hW gx tt_9 2 (by decide) rfl kw_366 ⟨rfl, rfl, rfl⟩ f_x_2 dX9_line_25 ?_
      have zc_0 : (0 : Int32).toInt = 0 := by decide
      refine hx_goi (hx_runS (As := [.int i3, .int (0 : Int32), .int nw0]) (rest := []) ⟨hx, hb, hml, hown, hts⟩ hW (t_X9_isWithin_2 l dC dI dA L_2 h_3 H.size i3 (0 : Int32) nw0 hT) (va_cwS 3 hts (hx_gS kw_434 kw_432 kw_433 kw_94) rfl rfl rfl (by decide +kernel) ⟨Nat.le_of_ble_eq_true rfl, Nat.le_of_ble_eq_true rfl⟩) rfl hl.1 rfl (Nat.le_of_ble_eq_true rfl) dX9_line_28 ⟨Nat.le_of_ble_eq_true rfl, Nat.le_of_ble_eq_true rfl⟩) hW (fun r_10 L_8 h_9 H locs p_11 hW => ?_)
      obtain ⟨hr_12, hT, hs⟩ := p_11
      have hT : hx_T T_tb L_8 h_9 := hT
      have hs : hx_S T_tb [] L_2 h_3 L_8 h_9 := hs
      have f_x_7 := (hs.o gx trivial rfl).2.trans f_x_7
      have f_x_9 := (hs.o gx trivial rfl).2.trans f_x_9
      have f_qb_0 := (hs.o gqb trivial rfl).1.trans f_qb_0
      have f_x_8 := (hs.o gx trivial rfl).1.trans f_x_8
      have f_x_2 := (hs.o gx trivial rfl).1.trans f_x_2
      have pf_x_8 : ∀ j : Nat, (j : Int) < (h_9.2.1 x 8).toInt → h_9.2.2 qp j ≠ none := by
        intro j hj; rw [(hs.o gx trivial rfl).1] at hj; rw [(hs.a gqp rfl j).2]; exact pf_x_8 j hj
      have hM := hM.tr (hs.mono (by decide))
      have gx := gx.S hs
      have gqp := gqp.S hs
      have gqb := gqb.S hs
      refine hb_if_eq (zx := r_10.toInt) (tgt := 56) hx hb rfl dX9_line_31 (by decide) (fun c_13 => ?_) (fun c_13 => ?_)
      · skip
        refine lv_iconst (v := -1) hx hb dX9_line_56 (by decide) ?_
        exact hx_reti hx hb hr hlk hW ⟨⟨ln0, f_qb_0, (Or.inl ⟨by decide, by omega, by unfold hx_LC; omega⟩)⟩, hT, hM⟩ dX9_line_57
      · skip
        refine lv_iload hx hb dX9_line_34 (lv_at hl 4 rfl) ?_
        refine lv_iconst (v := 0) hx hb dX9_line_36 (by decide) ?_
        refine lv_iconst (v := 3) hx hb dX9_line_37 (by decide) ?_
        have zc_3 : (3 : Int32).toInt = 3 := by decide
        refine hx_goi (hx_runS (As := [.int i4, .int (0 : Int32), .int (3 : Int32)]) (rest := []) ⟨hx, hb, hml, hown, hts⟩ hW (t_X9_isWithin_2 l dC dI dA L_8 h_9 H.size i4 (0 : Int32) (3 : Int32) hT) (va_cwS 3 hts (hx_gS kw_434 kw_432 kw_433 kw_94) rfl rfl rfl (by decide +kernel) ⟨Nat.le_of_ble_eq_true rfl, Nat.le_of_ble_eq_true rfl⟩) rfl hl.1 rfl (Nat.le_of_ble_eq_true rfl) dX9_line_38 ⟨Nat.le_of_ble_eq_true rfl, Nat.le_of_ble_eq_true rfl⟩) hW (fun r_16 L_14 h_15 H locs p_17 hW => ?_)
        obtain ⟨hr_18, hT, hs⟩ := p_17
        have hT : hx_T T_tb L_14 h_15 := hT
        have hs : hx_S T_tb [] L_8 h_9 L_14 h_15 := hs
        have f_x_7 := (hs.o gx trivial rfl).2.trans f_x_7
        have f_x_9 := (hs.o gx trivial rfl).2.trans f_x_9
        have f_qb_0 := (hs.o gqb trivial rfl).1.trans f_qb_0
        have f_x_8 := (hs.o gx trivial rfl).1.trans f_x_8
        have f_x_2 := (hs.o gx trivial rfl).1.trans f_x_2
        have pf_x_8 : ∀ j : Nat, (j : Int) < (h_15.2.1 x 8).toInt → h_15.2.2 qp j ≠ none := by
          intro j hj; rw [(hs.o gx trivial rfl).1] at hj; rw [(hs.a gqp rfl j).2]; exact pf_x_8 j hj
        have hM := hM.tr (hs.mono (by decide))
        have gx := gx.S hs
        have gqp := gqp.S hs
        have gqb := gqb.S hs
        refine hb_if_eq (zx := r_16.toInt) (tgt := 56) hx hb rfl dX9_line_41 (by decide) (fun c_19 => ?_) (fun c_19 => ?_)
        · skip
          refine lv_iconst (v := -1) hx hb dX9_line_56 (by decide) ?_
          exact hx_reti hx hb hr hlk hW ⟨⟨ln0, f_qb_0, (Or.inl ⟨by decide, by omega, by unfold hx_LC; omega⟩)⟩, hT, hM⟩ dX9_line_57
        · skip
          refine lv_iload hx hb dX9_line_44 (lv_at hl 5 rfl) ?_
          refine lv_iconst (v := 1) hx hb dX9_line_46 (by decide) ?_
          refine lv_sipush (v := 9999) hx hb dX9_line_47 (by decide) ?_
          have zc_9999 : (9999 : Int32).toInt = 9999 := by decide
          have zc_1 : (1 : Int32).toInt = 1 := by decide
          refine hx_goi (hx_runS (As := [.int i5, .int (1 : Int32), .int (9999 : Int32)]) (rest := []) ⟨hx, hb, hml, hown, hts⟩ hW (t_X9_isWithin_2 l dC dI dA L_14 h_15 H.size i5 (1 : Int32) (9999 : Int32) hT) (va_cwS 3 hts (hx_gS kw_434 kw_432 kw_433 kw_94) rfl rfl rfl (by decide +kernel) ⟨Nat.le_of_ble_eq_true rfl, Nat.le_of_ble_eq_true rfl⟩) rfl hl.1 rfl (Nat.le_of_ble_eq_true rfl) dX9_line_50 ⟨Nat.le_of_ble_eq_true rfl, Nat.le_of_ble_eq_true rfl⟩) hW (fun r_22 L_20 h_21 H locs p_23 hW => ?_)
          obtain ⟨hr_24, hT, hs⟩ := p_23
          have hT : hx_T T_tb L_20 h_21 := hT
          have hs : hx_S T_tb [] L_14 h_15 L_20 h_21 := hs
          have f_x_7 := (hs.o gx trivial rfl).2.trans f_x_7
          have f_x_9 := (hs.o gx trivial rfl).2.trans f_x_9
          have f_qb_0 := (hs.o gqb trivial rfl).1.trans f_qb_0
          have f_x_8 := (hs.o gx trivial rfl).1.trans f_x_8
          have f_x_2 := (hs.o gx trivial rfl).1.trans f_x_2
          have pf_x_8 : ∀ j : Nat, (j : Int) < (h_21.2.1 x 8).toInt → h_21.2.2 qp j ≠ none := by
            intro j hj; rw [(hs.o gx trivial rfl).1] at hj; rw [(hs.a gqp rfl j).2]; exact pf_x_8 j hj
          have hM := hM.tr (hs.mono (by decide))
          have gx := gx.S hs
          have gqp := gqp.S hs
          have gqb := gqb.S hs
          refine hb_if_ne (zx := r_22.toInt) (tgt := 58) hx hb rfl dX9_line_53 (by decide) (fun c_25 => ?_) (fun c_25 => ?_)
          · skip
            refine lv_aload_n hx hb dX9_line_58 rfl (lv_at hl 0 rfl) ?_
            refine hk_getr hx hb hts hC_9 hown hW gx tt_9 9 (by decide) rfl kw_373 ⟨rfl, rfl, rfl⟩ f_x_9 dX9_line_59 ?_
            refine lv_iload_n hx hb dX9_line_62 rfl (lv_at hl 1 rfl) ?_
            refine lv_iload_n hx hb dX9_line_63 rfl (lv_at hl 2 rfl) ?_
            refine lv_iload_n hx hb dX9_line_64 rfl (lv_at hl 3 rfl) ?_
            refine lv_iload hx hb dX9_line_65 (lv_at hl 4 rfl) ?_
            refine lv_iload hx hb dX9_line_67 (lv_at hl 5 rfl) ?_
            refine hx_gov (hx_runV (As := [.int i1, .int i2, .int i3, .int i4, .int i5]) (rest := []) ⟨hx, hb, hml, hown, hts⟩ hW gqb tt_1 (T := TX1) (N := 8) rfl (t_X1_addLine_2 l dC dI dA L_20 h_21 H.size qb i1 i2 i3 i4 i5 hT gqb ln0 f_qb_0 (by omega)) (cwV 5 hts (hx_gV kw_679 kw_676 kw_677 kw_678 kw_98) rfl rfl rfl (by decide +kernel) ⟨Nat.le_of_ble_eq_true rfl, Nat.le_of_ble_eq_true rfl⟩) rfl hl.1 rfl (Nat.le_of_ble_eq_true rfl) dX9_line_69 ⟨Nat.le_of_ble_eq_true rfl, Nat.le_of_ble_eq_true rfl⟩) hW (fun L_26 h_27 H locs p_29 hW => ?_)
            obtain ⟨⟨w_31, fw_31, hr_30⟩, hT, hs⟩ := p_29
            have hT : hx_T T_tb L_26 h_27 := hT
            have hs : hx_S T_tb [(1, 0), (13, 0), (14, 0), (15, 0), (16, 0), (17, 0), (18, 0)] L_20 h_21 L_26 h_27 := hs
            have f_x_7 := (hs.o gx trivial rfl).2.trans f_x_7
            have f_x_9 := (hs.o gx trivial rfl).2.trans f_x_9
            have f_x_8 := (hs.o gx trivial rfl).1.trans f_x_8
            have f_x_2 := (hs.o gx trivial rfl).1.trans f_x_2
            have pf_x_8 : ∀ j : Nat, (j : Int) < (h_27.2.1 x 8).toInt → h_27.2.2 qp j ≠ none := by
              intro j hj; rw [(hs.o gx trivial rfl).1] at hj; rw [(hs.a gqp rfl j).2]; exact pf_x_8 j hj
            have hM := hM.tr (hs.mono (by decide))
            have gx := gx.S hs
            have gqp := gqp.S hs
            have gqb := gqb.S hs
            have fw_31 : h_27.2.1 qb 0 = w_31 := fw_31
            have bw_31 := hT.gi gqb tt_1 (k := 0) rfl
            rw [fw_31] at bw_31
            have bw_31 : 0 ≤ w_31.toInt ∧ w_31.toInt ≤ 400 := bw_31
            refine lv_aload_n hx hb dX9_line_72 rfl (lv_at hl 0 rfl) ?_
            refine hk_getr hx hb hts hC_9 hown hW gx tt_9 9 (by decide) rfl kw_373 ⟨rfl, rfl, rfl⟩ f_x_9 dX9_line_73 ?_
            refine hk_geti hx hb hts hC_1 hown hW gqb tt_1 0 (by decide) rfl kw_197 ⟨rfl, rfl, rfl⟩ fw_31 dX9_line_76 ?_
            exact hx_reti hx hb hr hlk hW ⟨⟨w_31, fw_31, (Or.inr ⟨by omega, by omega, by unfold hx_LC; omega⟩)⟩, hT, hM⟩ dX9_line_79
          · skip
            refine lv_iconst (v := -1) hx hb dX9_line_56 (by decide) ?_
            exact hx_reti hx hb hr hlk hW ⟨⟨ln0, f_qb_0, (Or.inl ⟨by decide, by omega, by unfold hx_LC; omega⟩)⟩, hT, hM⟩ dX9_line_57


set_option maxHeartbeats 4000000 in
set_option maxRecDepth 100000 in
theorem t_X9_file_2 (l : Launch) (dC : Nat → ClassId) (dI : Nat → Nat → Nat) (dA : Nat → ClassId) (L : List Nat) (h : hx_h) (sz : Nat) (x : Nat) (i1 : Int32) (i2 : Int32) (i3 : Int32) (i4 : Int32) (i5 : Int32) (i6 : Int32) (hT : hx_T T_tb L h) (gx : hx_g L h x 9) (cn0 : Int32) (f_x_11 : h.2.1 x 11 = cn0) (pn0 : Int32) (f_x_8 : h.2.1 x 8 = pn0) (nw0 : Int32) (f_x_2 : h.2.1 x 2 = nw0) (qp : Nat) (gqp : hx_g L h qp 44) (f_x_7 : h.2.2 x 7 = some qp) (qc : Nat) (gqc : hx_g L h qc 45) (f_x_10 : h.2.2 x 10 = some qc) (qa : Nat) (gqa : hx_g L h qa 43) (f_x_5 : h.2.2 x 5 = some qa) (pf_x_8 : ∀ j : Nat, (j : Int) < (h.2.1 x 8).toInt → h.2.2 qp j ≠ none) (pf_x_11 : ∀ j : Nat, (j : Int) < (h.2.1 x 11).toInt → h.2.2 qc j ≠ none) (pf_x_6 : ∀ j : Nat, (j : Int) < (h.2.1 x 6).toInt → h.2.2 qa j ≠ none) (df : Nat → Int32) (cl_qp_7 : hx_col 40 h qp 7 = df) : Met l yX9_file (Cond.code yX9_file cX9_file 10 (some .int) :: hx_all) ({ frames := 2, cells := 3, slots := 30, locals := 36 }) (va_Pc [.ref x, .int i1, .int i2, .int i3, .int i4, .int i5, .int i6] (hx_B T_tb (P_ty dA) (dC, dI) vwCl L h sz)) (va_Qi (fun (r : Int32) (u : List Nat × hx_h) => (∃ (cn1 : Int32), u.2.2.1 x 11 = cn1 ∧ (hx_FS cn0.toInt pn0.toInt nw0.toInt i1.toInt i2.toInt i3.toInt i4.toInt i6.toInt df r.toInt cn1.toInt)) ∧ hx_T T_tb u.1 u.2 ∧ hx_S T_tb [(2, 6), (2, 7), (2, 8), (9, 11), (20, 0), (21, 0), (45, 0), (118, 0), (118, 1), (118, 2), (118, 3), (118, 4), (118, 5), (118, 10), (118, 11), (118, 13), (118, 16), (118, 18)] L h u.1 u.2 ∧ (∀ j : Nat, (j : Int) < (u.2.2.1 x 11).toInt → u.2.2.2 qc j ≠ none)) (hx_E T_tb (P_ty dA) (dC, dI) vwCl (hx_A L sz)) (hx_A L sz)) 3 30 (hx_A L sz) := by
  refine hx_met (lv := [(0, .ref x), (1, .int i1), (2, .int i2), (3, .int i3), (4, .int i4), (5, .int i5), (6, .int i6)]) (by decide +kernel) rfl (Nat.le_of_ble_eq_true rfl) rfl ?_
  intro p e s m below meth c hx hb hml hr hlk hts0 hown hin hsz hW ls hl
  have hts : ∀ w ∈ hx_all, w.before _ s = true := fun w hw => hts0 w (List.mem_cons_of_mem _ hw)
  have hown : s.vm.findClass "SmallCourt" = some m.cls := hown
  have hM : hx_S T_tb [(2, 6), (2, 7), (2, 8), (9, 11), (20, 0), (21, 0), (45, 0), (118, 0), (118, 1), (118, 2), (118, 3), (118, 4), (118, 5), (118, 10), (118, 11), (118, 13), (118, 16), (118, 18)] L h L h := hx_S.rf
  have b_cn0 := hT.gi gx tt_9 (k := 11) rfl
  rw [f_x_11] at b_cn0
  have b_cn0 : 0 ≤ cn0.toInt ∧ cn0.toInt ≤ 100 := b_cn0
  have b_pn0 := hT.gi gx tt_9 (k := 8) rfl
  rw [f_x_8] at b_pn0
  have b_pn0 : 0 ≤ pn0.toInt ∧ pn0.toInt ≤ 40 := b_pn0
  have b_nw0 := hT.gi gx tt_9 (k := 2) rfl
  rw [f_x_2] at b_nw0
  have b_nw0 : 0 ≤ nw0.toInt ∧ nw0.toInt ≤ 7999 := b_nw0
  refine lv_aload_n hx hb dX9_file_0 rfl (lv_at hl 0 rfl) ?_
  refine lv_iload_n hx hb dX9_file_1 rfl (lv_at hl 1 rfl) ?_
  have hTo := hT
  refine hx_goq (hx_runV (As := [.int i1]) (rest := []) ⟨hx, hb, hml, hown, hts⟩ hW gx tt_9 (T := TX9) (N := 20) rfl (t_X9_personAt_2 l dC dI dA L h s.heap.size x i1 hT gx pn0 f_x_8 qp gqp f_x_7 pf_x_8) (cwV 1 hts (hx_gV kw_659 kw_656 kw_658 kw_20 kw_94) rfl rfl rfl (by decide +kernel) ⟨Nat.le_of_ble_eq_true rfl, Nat.le_of_ble_eq_true rfl⟩) rfl hl.1 rfl (Nat.le_of_ble_eq_true rfl) dX9_file_2 ⟨Nat.le_of_ble_eq_true rfl, Nat.le_of_ble_eq_true rfl⟩) hW (fun r_3 L_1 h_2 H locs p_4 hW => ?_)
  obtain ⟨hr_5, hT, hs⟩ := p_4
  have hT : hx_T T_tb L_1 h_2 := hT
  have hs : hx_S T_tb [] L h L_1 h_2 := hs
  have f_x_7 := (hs.o gx trivial rfl).2.trans f_x_7
  have f_x_10 := (hs.o gx trivial rfl).2.trans f_x_10
  have f_x_5 := (hs.o gx trivial rfl).2.trans f_x_5
  have f_x_11 := (hs.o gx trivial rfl).1.trans f_x_11
  have f_x_8 := (hs.o gx trivial rfl).1.trans f_x_8
  have f_x_2 := (hs.o gx trivial rfl).1.trans f_x_2
  have pf_x_8 : ∀ j : Nat, (j : Int) < (h_2.2.1 x 8).toInt → h_2.2.2 qp j ≠ none := by
    intro j hj; rw [(hs.o gx trivial rfl).1] at hj; rw [(hs.a gqp rfl j).2]; exact pf_x_8 j hj
  have pf_x_11 : ∀ j : Nat, (j : Int) < (h_2.2.1 x 11).toInt → h_2.2.2 qc j ≠ none := by
    intro j hj; rw [(hs.o gx trivial rfl).1] at hj; rw [(hs.a gqc rfl j).2]; exact pf_x_11 j hj
  have pf_x_6 : ∀ j : Nat, (j : Int) < (h_2.2.1 x 6).toInt → h_2.2.2 qa j ≠ none := by
    intro j hj; rw [(hs.o gx trivial rfl).1] at hj; rw [(hs.a gqa rfl j).2]; exact pf_x_6 j hj
  have cl_qp_7 : hx_col 40 h_2 qp 7 = df := (hx_col_S hs hTo gqp tt_44 tt_4 rfl rfl).trans cl_qp_7
  have hM := hM.tr (hs.mono (by decide))
  have gx := gx.S hs
  have gqp := gqp.S hs
  have gqc := gqc.S hs
  have gqa := gqa.S hs
  obtain ⟨hr_5, hr_5B⟩ := hr_5
  have hr_5 : ∀ q, r_3 = some q → hx_g L_1 h_2 q 4 := hr_5
  rcases r_3 with _ | q_6
  · skip
    have k_7 : i1.toInt < 0 ∨ pn0.toInt ≤ i1.toInt := by
      rcases hr_5B with ⟨_, z⟩ | ⟨_, _, q, z, _⟩
      · exact z
      · cases z
    refine lv_astoreN (lv' := [(7, .null), (0, .ref x), (1, .int i1), (2, .int i2), (3, .int i3), (4, .int i4), (5, .int i5), (6, .int i6)]) hx hb dX9_file_5 hl (by decide) rfl (fun ls hl => ?_)
    refine lv_aload_n hx hb dX9_file_7 rfl (lv_at hl 1 rfl) ?_
    refine lv_iload_n hx hb dX9_file_8 rfl (lv_at hl 3 rfl) ?_
    have hTo := hT
    refine hx_goq (hx_runV (As := [.int i2]) (rest := []) ⟨hx, hb, hml, hown, hts⟩ hW gx tt_9 (T := TX9) (N := 20) rfl (t_X9_personAt_2 l dC dI dA L_1 h_2 H.size x i2 hT gx pn0 f_x_8 qp gqp f_x_7 pf_x_8) (cwV 1 hts (hx_gV kw_659 kw_656 kw_658 kw_20 kw_94) rfl rfl rfl (by decide +kernel) ⟨Nat.le_of_ble_eq_true rfl, Nat.le_of_ble_eq_true rfl⟩) rfl hl.1 rfl (Nat.le_of_ble_eq_true rfl) dX9_file_9 ⟨Nat.le_of_ble_eq_true rfl, Nat.le_of_ble_eq_true rfl⟩) hW (fun r_10 L_8 h_9 H locs p_11 hW => ?_)
    obtain ⟨hr_12, hT, hs⟩ := p_11
    have hT : hx_T T_tb L_8 h_9 := hT
    have hs : hx_S T_tb [] L_1 h_2 L_8 h_9 := hs
    have f_x_7 := (hs.o gx trivial rfl).2.trans f_x_7
    have f_x_10 := (hs.o gx trivial rfl).2.trans f_x_10
    have f_x_5 := (hs.o gx trivial rfl).2.trans f_x_5
    have f_x_11 := (hs.o gx trivial rfl).1.trans f_x_11
    have f_x_8 := (hs.o gx trivial rfl).1.trans f_x_8
    have f_x_2 := (hs.o gx trivial rfl).1.trans f_x_2
    have pf_x_8 : ∀ j : Nat, (j : Int) < (h_9.2.1 x 8).toInt → h_9.2.2 qp j ≠ none := by
      intro j hj; rw [(hs.o gx trivial rfl).1] at hj; rw [(hs.a gqp rfl j).2]; exact pf_x_8 j hj
    have pf_x_11 : ∀ j : Nat, (j : Int) < (h_9.2.1 x 11).toInt → h_9.2.2 qc j ≠ none := by
      intro j hj; rw [(hs.o gx trivial rfl).1] at hj; rw [(hs.a gqc rfl j).2]; exact pf_x_11 j hj
    have pf_x_6 : ∀ j : Nat, (j : Int) < (h_9.2.1 x 6).toInt → h_9.2.2 qa j ≠ none := by
      intro j hj; rw [(hs.o gx trivial rfl).1] at hj; rw [(hs.a gqa rfl j).2]; exact pf_x_6 j hj
    have cl_qp_7 : hx_col 40 h_9 qp 7 = df := (hx_col_S hs hTo gqp tt_44 tt_4 rfl rfl).trans cl_qp_7
    have hM := hM.tr (hs.mono (by decide))
    have gx := gx.S hs
    have gqp := gqp.S hs
    have gqc := gqc.S hs
    have gqa := gqa.S hs
    obtain ⟨hr_12, hr_12B⟩ := hr_12
    have hr_12 : ∀ q, r_10 = some q → hx_g L_8 h_9 q 4 := hr_12
    rcases r_10 with _ | q_13
    · skip
      have k_14 : i2.toInt < 0 ∨ pn0.toInt ≤ i2.toInt := by
        rcases hr_12B with ⟨_, z⟩ | ⟨_, _, q, z, _⟩
        · exact z
        · cases z
      refine lv_astoreN (lv' := [(8, .null), (7, .null), (0, .ref x), (1, .int i1), (2, .int i2), (3, .int i3), (4, .int i4), (5, .int i5), (6, .int i6)]) hx hb dX9_file_12 hl (by decide) rfl (fun ls hl => ?_)
      refine lv_aload_n hx hb dX9_file_14 rfl (lv_at hl 2 rfl) ?_
      refine hk_geti hx hb hts hC_9 hown hW gx tt_9 11 (by decide) rfl kw_375 ⟨rfl, rfl, rfl⟩ f_x_11 dX9_file_15 ?_
      refine lv_bipush (v := 100) hx hb dX9_file_18 (by decide) ?_
      refine hb_icmp_ge (zx := cn0.toInt) (zy := 100) (tgt := 81) hx hb rfl (by decide) dX9_file_20 (by decide) (fun c_15 => ?_) (fun c_15 => ?_)
      · skip
        refine lv_iconst (v := -1) hx hb dX9_file_81 (by decide) ?_
        refine W.widen (k := 3) (n := 30) (Nat.le_of_ble_eq_true rfl) (Nat.le_of_ble_eq_true rfl) ?_
        exact hx_reti hx hb hr hlk hW ⟨⟨cn0, f_x_11, (Or.inl ⟨by decide, by omega, fun hc => by unfold hx_FC at hc; omega⟩)⟩, hT, hM, pf_x_11⟩ dX9_file_82
      · skip
        refine lv_aloadN hx hb dX9_file_23 (lv_at hl 1 rfl) ?_
        refine lv_ifnullN (tgt := 81) hx hb dX9_file_25 (by decide) ?_
        refine lv_iconst (v := -1) hx hb dX9_file_81 (by decide) ?_
        refine W.widen (k := 3) (n := 30) (Nat.le_of_ble_eq_true rfl) (Nat.le_of_ble_eq_true rfl) ?_
        exact hx_reti hx hb hr hlk hW ⟨⟨cn0, f_x_11, (Or.inl ⟨by decide, by omega, fun hc => by unfold hx_FC at hc; omega⟩)⟩, hT, hM, pf_x_11⟩ dX9_file_82
    · have gq_13 := hr_12 _ rfl
      have k_16 : 0 ≤ i2.toInt ∧ i2.toInt < pn0.toInt ∧ h_9.2.2 qp i2.toNatClampNeg = some q_13 := by
        rcases hr_12B with ⟨z, _⟩ | ⟨z1, z2, q, z3, z4⟩
        · cases z
        · cases z3; exact ⟨z1, z2, z4⟩
      have fo_17 := k_16.2.2
      have k_16 : 0 ≤ i2.toInt ∧ i2.toInt < pn0.toInt := ⟨k_16.1, k_16.2.1⟩
      refine lv_astore (lv' := [(8, .ref q_13), (7, .null), (0, .ref x), (1, .int i1), (2, .int i2), (3, .int i3), (4, .int i4), (5, .int i5), (6, .int i6)]) hx hb dX9_file_12 hl (by decide) rfl (fun ls hl => ?_)
      refine lv_aload_n hx hb dX9_file_14 rfl (lv_at hl 2 rfl) ?_
      refine hk_geti hx hb hts hC_9 hown hW gx tt_9 11 (by decide) rfl kw_375 ⟨rfl, rfl, rfl⟩ f_x_11 dX9_file_15 ?_
      refine lv_bipush (v := 100) hx hb dX9_file_18 (by decide) ?_
      refine hb_icmp_ge (zx := cn0.toInt) (zy := 100) (tgt := 81) hx hb rfl (by decide) dX9_file_20 (by decide) (fun c_18 => ?_) (fun c_18 => ?_)
      · skip
        refine lv_iconst (v := -1) hx hb dX9_file_81 (by decide) ?_
        refine W.widen (k := 3) (n := 30) (Nat.le_of_ble_eq_true rfl) (Nat.le_of_ble_eq_true rfl) ?_
        exact hx_reti hx hb hr hlk hW ⟨⟨cn0, f_x_11, (Or.inl ⟨by decide, by omega, fun hc => by unfold hx_FC at hc; omega⟩)⟩, hT, hM, pf_x_11⟩ dX9_file_82
      · skip
        refine lv_aloadN hx hb dX9_file_23 (lv_at hl 1 rfl) ?_
        refine lv_ifnullN (tgt := 81) hx hb dX9_file_25 (by decide) ?_
        refine lv_iconst (v := -1) hx hb dX9_file_81 (by decide) ?_
        refine W.widen (k := 3) (n := 30) (Nat.le_of_ble_eq_true rfl) (Nat.le_of_ble_eq_true rfl) ?_
        exact hx_reti hx hb hr hlk hW ⟨⟨cn0, f_x_11, (Or.inl ⟨by decide, by omega, fun hc => by unfold hx_FC at hc; omega⟩)⟩, hT, hM, pf_x_11⟩ dX9_file_82
  · have gq_6 := hr_5 _ rfl
    have k_19 : 0 ≤ i1.toInt ∧ i1.toInt < pn0.toInt ∧ h_2.2.2 qp i1.toNatClampNeg = some q_6 := by
      rcases hr_5B with ⟨z, _⟩ | ⟨z1, z2, q, z3, z4⟩
      · cases z
      · cases z3; exact ⟨z1, z2, z4⟩
    have fo_20 := k_19.2.2
    have k_19 : 0 ≤ i1.toInt ∧ i1.toInt < pn0.toInt := ⟨k_19.1, k_19.2.1⟩
    refine lv_astore (lv' := [(7, .ref q_6), (0, .ref x), (1, .int i1), (2, .int i2), (3, .int i3), (4, .int i4), (5, .int i5), (6, .int i6)]) hx hb dX9_file_5 hl (by decide) rfl (fun ls hl => ?_)
    refine lv_aload_n hx hb dX9_file_7 rfl (lv_at hl 1 rfl) ?_
    refine lv_iload_n hx hb dX9_file_8 rfl (lv_at hl 3 rfl) ?_
    have hTo := hT
    refine hx_goq (hx_runV (As := [.int i2]) (rest := []) ⟨hx, hb, hml, hown, hts⟩ hW gx tt_9 (T := TX9) (N := 20) rfl (t_X9_personAt_2 l dC dI dA L_1 h_2 H.size x i2 hT gx pn0 f_x_8 qp gqp f_x_7 pf_x_8) (cwV 1 hts (hx_gV kw_659 kw_656 kw_658 kw_20 kw_94) rfl rfl rfl (by decide +kernel) ⟨Nat.le_of_ble_eq_true rfl, Nat.le_of_ble_eq_true rfl⟩) rfl hl.1 rfl (Nat.le_of_ble_eq_true rfl) dX9_file_9 ⟨Nat.le_of_ble_eq_true rfl, Nat.le_of_ble_eq_true rfl⟩) hW (fun r_23 L_21 h_22 H locs p_24 hW => ?_)
    obtain ⟨hr_25, hT, hs⟩ := p_24
    have hT : hx_T T_tb L_21 h_22 := hT
    have hs : hx_S T_tb [] L_1 h_2 L_21 h_22 := hs
    have f_x_7 := (hs.o gx trivial rfl).2.trans f_x_7
    have f_x_10 := (hs.o gx trivial rfl).2.trans f_x_10
    have f_x_5 := (hs.o gx trivial rfl).2.trans f_x_5
    have f_x_11 := (hs.o gx trivial rfl).1.trans f_x_11
    have f_x_8 := (hs.o gx trivial rfl).1.trans f_x_8
    have f_x_2 := (hs.o gx trivial rfl).1.trans f_x_2
    have pf_x_8 : ∀ j : Nat, (j : Int) < (h_22.2.1 x 8).toInt → h_22.2.2 qp j ≠ none := by
      intro j hj; rw [(hs.o gx trivial rfl).1] at hj; rw [(hs.a gqp rfl j).2]; exact pf_x_8 j hj
    have pf_x_11 : ∀ j : Nat, (j : Int) < (h_22.2.1 x 11).toInt → h_22.2.2 qc j ≠ none := by
      intro j hj; rw [(hs.o gx trivial rfl).1] at hj; rw [(hs.a gqc rfl j).2]; exact pf_x_11 j hj
    have pf_x_6 : ∀ j : Nat, (j : Int) < (h_22.2.1 x 6).toInt → h_22.2.2 qa j ≠ none := by
      intro j hj; rw [(hs.o gx trivial rfl).1] at hj; rw [(hs.a gqa rfl j).2]; exact pf_x_6 j hj
    have cl_qp_7 : hx_col 40 h_22 qp 7 = df := (hx_col_S hs hTo gqp tt_44 tt_4 rfl rfl).trans cl_qp_7
    have fo_20 := (hs.a gqp rfl _).2.trans fo_20
    have hM := hM.tr (hs.mono (by decide))
    have gx := gx.S hs
    have gqp := gqp.S hs
    have gqc := gqc.S hs
    have gqa := gqa.S hs
    have gq_6 := gq_6.S hs
    obtain ⟨hr_25, hr_25B⟩ := hr_25
    have hr_25 : ∀ q, r_23 = some q → hx_g L_21 h_22 q 4 := hr_25
    rcases r_23 with _ | q_26
    · skip
      have k_27 : i2.toInt < 0 ∨ pn0.toInt ≤ i2.toInt := by
        rcases hr_25B with ⟨_, z⟩ | ⟨_, _, q, z, _⟩
        · exact z
        · cases z
      refine lv_astoreN (lv' := [(8, .null), (7, .ref q_6), (0, .ref x), (1, .int i1), (2, .int i2), (3, .int i3), (4, .int i4), (5, .int i5), (6, .int i6)]) hx hb dX9_file_12 hl (by decide) rfl (fun ls hl => ?_)
      refine lv_aload_n hx hb dX9_file_14 rfl (lv_at hl 2 rfl) ?_
      refine hk_geti hx hb hts hC_9 hown hW gx tt_9 11 (by decide) rfl kw_375 ⟨rfl, rfl, rfl⟩ f_x_11 dX9_file_15 ?_
      refine lv_bipush (v := 100) hx hb dX9_file_18 (by decide) ?_
      refine hb_icmp_ge (zx := cn0.toInt) (zy := 100) (tgt := 81) hx hb rfl (by decide) dX9_file_20 (by decide) (fun c_28 => ?_) (fun c_28 => ?_)
      · skip
        refine lv_iconst (v := -1) hx hb dX9_file_81 (by decide) ?_
        refine W.widen (k := 3) (n := 30) (Nat.le_of_ble_eq_true rfl) (Nat.le_of_ble_eq_true rfl) ?_
        exact hx_reti hx hb hr hlk hW ⟨⟨cn0, f_x_11, (Or.inl ⟨by decide, by omega, fun hc => by unfold hx_FC at hc; omega⟩)⟩, hT, hM, pf_x_11⟩ dX9_file_82
      · skip
        refine lv_aload hx hb dX9_file_23 (lv_at hl 1 rfl) ?_
        refine lv_ifnull hx hb dX9_file_25 ?_
        refine lv_aloadN hx hb dX9_file_28 (lv_at hl 0 rfl) ?_
        refine lv_ifnullN (tgt := 81) hx hb dX9_file_30 (by decide) ?_
        refine lv_iconst (v := -1) hx hb dX9_file_81 (by decide) ?_
        refine W.widen (k := 3) (n := 30) (Nat.le_of_ble_eq_true rfl) (Nat.le_of_ble_eq_true rfl) ?_
        exact hx_reti hx hb hr hlk hW ⟨⟨cn0, f_x_11, (Or.inl ⟨by decide, by omega, fun hc => by unfold hx_FC at hc; omega⟩)⟩, hT, hM, pf_x_11⟩ dX9_file_82
    · have gq_26 := hr_25 _ rfl
      have k_29 : 0 ≤ i2.toInt ∧ i2.toInt < pn0.toInt ∧ h_22.2.2 qp i2.toNatClampNeg = some q_26 := by
        rcases hr_25B with ⟨z, _⟩ | ⟨z1, z2, q, z3, z4⟩
        · cases z
        · cases z3; exact ⟨z1, z2, z4⟩
      have fo_30 := k_29.2.2
      have k_29 : 0 ≤ i2.toInt ∧ i2.toInt < pn0.toInt := ⟨k_29.1, k_29.2.1⟩
      refine lv_astore (lv' := [(8, .ref q_26), (7, .ref q_6), (0, .ref x), (1, .int i1), (2, .int i2), (3, .int i3), (4, .int i4), (5, .int i5), (6, .int i6)]) hx hb dX9_file_12 hl (by decide) rfl (fun ls hl => ?_)
      refine lv_aload_n hx hb dX9_file_14 rfl (lv_at hl 2 rfl) ?_
      refine hk_geti hx hb hts hC_9 hown hW gx tt_9 11 (by decide) rfl kw_375 ⟨rfl, rfl, rfl⟩ f_x_11 dX9_file_15 ?_
      refine lv_bipush (v := 100) hx hb dX9_file_18 (by decide) ?_
      refine hb_icmp_ge (zx := cn0.toInt) (zy := 100) (tgt := 81) hx hb rfl (by decide) dX9_file_20 (by decide) (fun c_31 => ?_) (fun c_31 => ?_)
      · skip
        refine lv_iconst (v := -1) hx hb dX9_file_81 (by decide) ?_
        refine W.widen (k := 3) (n := 30) (Nat.le_of_ble_eq_true rfl) (Nat.le_of_ble_eq_true rfl) ?_
        exact hx_reti hx hb hr hlk hW ⟨⟨cn0, f_x_11, (Or.inl ⟨by decide, by omega, fun hc => by unfold hx_FC at hc; omega⟩)⟩, hT, hM, pf_x_11⟩ dX9_file_82
      · skip
        refine lv_aload hx hb dX9_file_23 (lv_at hl 1 rfl) ?_
        refine lv_ifnull hx hb dX9_file_25 ?_
        refine lv_aload hx hb dX9_file_28 (lv_at hl 0 rfl) ?_
        refine lv_ifnull hx hb dX9_file_30 ?_
        refine lv_iload_n hx hb dX9_file_33 rfl (lv_at hl 3 rfl) ?_
        refine lv_iload_n hx hb dX9_file_34 rfl (lv_at hl 4 rfl) ?_
        refine hb_icmp_eq (zx := i1.toInt) (zy := i2.toInt) (tgt := 81) hx hb rfl rfl dX9_file_35 (by decide) (fun c_32 => ?_) (fun c_32 => ?_)
        · skip
          refine lv_iconst (v := -1) hx hb dX9_file_81 (by decide) ?_
          refine W.widen (k := 3) (n := 30) (Nat.le_of_ble_eq_true rfl) (Nat.le_of_ble_eq_true rfl) ?_
          exact hx_reti hx hb hr hlk hW ⟨⟨cn0, f_x_11, (Or.inl ⟨by decide, by omega, fun hc => by unfold hx_FC at hc; omega⟩)⟩, hT, hM, pf_x_11⟩ dX9_file_82
        · skip
          refine lv_aload hx hb dX9_file_38 (lv_at hl 0 rfl) ?_
          refine hx_geti hx hb hts hC_4 hown hW hT gq_26 tt_4 7 (by decide) rfl kw_623 ⟨rfl, rfl, rfl⟩ dX9_file_40 (fun x_33 ex_33 lx_33 ux_33 => ?_)
          have fx_33 := ex_33.symm
          have cx_33 : x_33 = df i2.toNatClampNeg := by rw [ex_33, ← cl_qp_7]; exact (hx_col_at fo_30 (by unfold Int32.toNatClampNeg; omega)).symm
          refine hb_if_ne (zx := x_33.toInt) (tgt := 81) hx hb rfl dX9_file_43 (by decide) (fun c_34 => ?_) (fun c_34 => ?_)
          · skip
            refine lv_iconst (v := -1) hx hb dX9_file_81 (by decide) ?_
            refine W.widen (k := 3) (n := 30) (Nat.le_of_ble_eq_true rfl) (Nat.le_of_ble_eq_true rfl) ?_
            exact hx_reti hx hb hr hlk hW ⟨⟨cn0, f_x_11, (Or.inl ⟨by decide, by omega, fun hc => by unfold hx_FC at hc; have h1 : (df i2.toNatClampNeg).toInt = 0 := hc.2.2.2.2.1; rw [← cx_33] at h1; omega⟩)⟩, hT, hM, pf_x_11⟩ dX9_file_82
          · skip
            refine lv_iload_n hx hb dX9_file_46 rfl (lv_at hl 5 rfl) ?_
            refine lv_iconst (v := 1) hx hb dX9_file_47 (by decide) ?_
            refine lv_sipush (v := 9999) hx hb dX9_file_48 (by decide) ?_
            have hTo := hT
            have zc_9999 : (9999 : Int32).toInt = 9999 := by decide
            have zc_1 : (1 : Int32).toInt = 1 := by decide
            refine hx_goi (hx_runS (As := [.int i3, .int (1 : Int32), .int (9999 : Int32)]) (rest := []) ⟨hx, hb, hml, hown, hts⟩ hW (t_X9_isWithin_2 l dC dI dA L_21 h_22 H.size i3 (1 : Int32) (9999 : Int32) hT) (va_cwS 3 hts (hx_gS kw_434 kw_432 kw_433 kw_94) rfl rfl rfl (by decide +kernel) ⟨Nat.le_of_ble_eq_true rfl, Nat.le_of_ble_eq_true rfl⟩) rfl hl.1 rfl (Nat.le_of_ble_eq_true rfl) dX9_file_51 ⟨Nat.le_of_ble_eq_true rfl, Nat.le_of_ble_eq_true rfl⟩) hW (fun r_37 L_35 h_36 H locs p_38 hW => ?_)
            obtain ⟨hr_39, hT, hs⟩ := p_38
            have hT : hx_T T_tb L_35 h_36 := hT
            have hs : hx_S T_tb [] L_21 h_22 L_35 h_36 := hs
            have f_x_7 := (hs.o gx trivial rfl).2.trans f_x_7
            have f_x_10 := (hs.o gx trivial rfl).2.trans f_x_10
            have f_x_5 := (hs.o gx trivial rfl).2.trans f_x_5
            have f_x_11 := (hs.o gx trivial rfl).1.trans f_x_11
            have f_x_8 := (hs.o gx trivial rfl).1.trans f_x_8
            have f_x_2 := (hs.o gx trivial rfl).1.trans f_x_2
            have fx_33 := (hs.o gq_26 trivial rfl).1.trans fx_33
            have pf_x_8 : ∀ j : Nat, (j : Int) < (h_36.2.1 x 8).toInt → h_36.2.2 qp j ≠ none := by
              intro j hj; rw [(hs.o gx trivial rfl).1] at hj; rw [(hs.a gqp rfl j).2]; exact pf_x_8 j hj
            have pf_x_11 : ∀ j : Nat, (j : Int) < (h_36.2.1 x 11).toInt → h_36.2.2 qc j ≠ none := by
              intro j hj; rw [(hs.o gx trivial rfl).1] at hj; rw [(hs.a gqc rfl j).2]; exact pf_x_11 j hj
            have pf_x_6 : ∀ j : Nat, (j : Int) < (h_36.2.1 x 6).toInt → h_36.2.2 qa j ≠ none := by
              intro j hj; rw [(hs.o gx trivial rfl).1] at hj; rw [(hs.a gqa rfl j).2]; exact pf_x_6 j hj
            have cl_qp_7 : hx_col 40 h_36 qp 7 = df := (hx_col_S hs hTo gqp tt_44 tt_4 rfl rfl).trans cl_qp_7
            have fo_20 := (hs.a gqp rfl _).2.trans fo_20
            have fo_30 := (hs.a gqp rfl _).2.trans fo_30
            have hM := hM.tr (hs.mono (by decide))
            have gx := gx.S hs
            have gqp := gqp.S hs
            have gqc := gqc.S hs
            have gqa := gqa.S hs
            have gq_6 := gq_6.S hs
            have gq_26 := gq_26.S hs
            refine hb_if_eq (zx := r_37.toInt) (tgt := 81) hx hb rfl dX9_file_54 (by decide) (fun c_40 => ?_) (fun c_40 => ?_)
            · skip
              refine lv_iconst (v := -1) hx hb dX9_file_81 (by decide) ?_
              refine W.widen (k := 3) (n := 30) (Nat.le_of_ble_eq_true rfl) (Nat.le_of_ble_eq_true rfl) ?_
              exact hx_reti hx hb hr hlk hW ⟨⟨cn0, f_x_11, (Or.inl ⟨by decide, by omega, fun hc => by unfold hx_FC at hc; have h1 : (df i2.toNatClampNeg).toInt = 0 := hc.2.2.2.2.1; rw [← cx_33] at h1; omega⟩)⟩, hT, hM, pf_x_11⟩ dX9_file_82
            · skip
              refine lv_iload hx hb dX9_file_57 (lv_at hl 6 rfl) ?_
              refine lv_iconst (v := 0) hx hb dX9_file_59 (by decide) ?_
              refine lv_aload_n hx hb dX9_file_60 rfl (lv_at hl 2 rfl) ?_
              refine hk_geti hx hb hts hC_9 hown hW gx tt_9 2 (by decide) rfl kw_366 ⟨rfl, rfl, rfl⟩ f_x_2 dX9_file_61 ?_
              have hTo := hT
              have zc_0 : (0 : Int32).toInt = 0 := by decide
              refine hx_goi (hx_runS (As := [.int i4, .int (0 : Int32), .int nw0]) (rest := []) ⟨hx, hb, hml, hown, hts⟩ hW (t_X9_isWithin_2 l dC dI dA L_35 h_36 H.size i4 (0 : Int32) nw0 hT) (va_cwS 3 hts (hx_gS kw_434 kw_432 kw_433 kw_94) rfl rfl rfl (by decide +kernel) ⟨Nat.le_of_ble_eq_true rfl, Nat.le_of_ble_eq_true rfl⟩) rfl hl.1 rfl (Nat.le_of_ble_eq_true rfl) dX9_file_64 ⟨Nat.le_of_ble_eq_true rfl, Nat.le_of_ble_eq_true rfl⟩) hW (fun r_43 L_41 h_42 H locs p_44 hW => ?_)
              obtain ⟨hr_45, hT, hs⟩ := p_44
              have hT : hx_T T_tb L_41 h_42 := hT
              have hs : hx_S T_tb [] L_35 h_36 L_41 h_42 := hs
              have f_x_7 := (hs.o gx trivial rfl).2.trans f_x_7
              have f_x_10 := (hs.o gx trivial rfl).2.trans f_x_10
              have f_x_5 := (hs.o gx trivial rfl).2.trans f_x_5
              have f_x_11 := (hs.o gx trivial rfl).1.trans f_x_11
              have f_x_8 := (hs.o gx trivial rfl).1.trans f_x_8
              have f_x_2 := (hs.o gx trivial rfl).1.trans f_x_2
              have fx_33 := (hs.o gq_26 trivial rfl).1.trans fx_33
              have pf_x_8 : ∀ j : Nat, (j : Int) < (h_42.2.1 x 8).toInt → h_42.2.2 qp j ≠ none := by
                intro j hj; rw [(hs.o gx trivial rfl).1] at hj; rw [(hs.a gqp rfl j).2]; exact pf_x_8 j hj
              have pf_x_11 : ∀ j : Nat, (j : Int) < (h_42.2.1 x 11).toInt → h_42.2.2 qc j ≠ none := by
                intro j hj; rw [(hs.o gx trivial rfl).1] at hj; rw [(hs.a gqc rfl j).2]; exact pf_x_11 j hj
              have pf_x_6 : ∀ j : Nat, (j : Int) < (h_42.2.1 x 6).toInt → h_42.2.2 qa j ≠ none := by
                intro j hj; rw [(hs.o gx trivial rfl).1] at hj; rw [(hs.a gqa rfl j).2]; exact pf_x_6 j hj
              have cl_qp_7 : hx_col 40 h_42 qp 7 = df := (hx_col_S hs hTo gqp tt_44 tt_4 rfl rfl).trans cl_qp_7
              have fo_20 := (hs.a gqp rfl _).2.trans fo_20
              have fo_30 := (hs.a gqp rfl _).2.trans fo_30
              have hM := hM.tr (hs.mono (by decide))
              have gx := gx.S hs
              have gqp := gqp.S hs
              have gqc := gqc.S hs
              have gqa := gqa.S hs
              have gq_6 := gq_6.S hs
              have gq_26 := gq_26.S hs
              refine hb_if_eq (zx := r_43.toInt) (tgt := 81) hx hb rfl dX9_file_67 (by decide) (fun c_46 => ?_) (fun c_46 => ?_)
              · skip
                refine lv_iconst (v := -1) hx hb dX9_file_81 (by decide) ?_
                refine W.widen (k := 3) (n := 30) (Nat.le_of_ble_eq_true rfl) (Nat.le_of_ble_eq_true rfl) ?_
                exact hx_reti hx hb hr hlk hW ⟨⟨cn0, f_x_11, (Or.inl ⟨by decide, by omega, fun hc => by unfold hx_FC at hc; have h1 : (df i2.toNatClampNeg).toInt = 0 := hc.2.2.2.2.1; rw [← cx_33] at h1; omega⟩)⟩, hT, hM, pf_x_11⟩ dX9_file_82
              · skip
                refine lv_iload hx hb dX9_file_70 (lv_at hl 8 rfl) ?_
                refine lv_iconst (v := 0) hx hb dX9_file_72 (by decide) ?_
                refine lv_bipush (v := 9) hx hb dX9_file_73 (by decide) ?_
                have hTo := hT
                have zc_9 : (9 : Int32).toInt = 9 := by decide
                refine hx_goi (hx_runS (As := [.int i6, .int (0 : Int32), .int (9 : Int32)]) (rest := []) ⟨hx, hb, hml, hown, hts⟩ hW (t_X9_isWithin_2 l dC dI dA L_41 h_42 H.size i6 (0 : Int32) (9 : Int32) hT) (va_cwS 3 hts (hx_gS kw_434 kw_432 kw_433 kw_94) rfl rfl rfl (by decide +kernel) ⟨Nat.le_of_ble_eq_true rfl, Nat.le_of_ble_eq_true rfl⟩) rfl hl.1 rfl (Nat.le_of_ble_eq_true rfl) dX9_file_75 ⟨Nat.le_of_ble_eq_true rfl, Nat.le_of_ble_eq_true rfl⟩) hW (fun r_49 L_47 h_48 H locs p_50 hW => ?_)
                obtain ⟨hr_51, hT, hs⟩ := p_50
                have hT : hx_T T_tb L_47 h_48 := hT
                have hs : hx_S T_tb [] L_41 h_42 L_47 h_48 := hs
                have f_x_7 := (hs.o gx trivial rfl).2.trans f_x_7
                have f_x_10 := (hs.o gx trivial rfl).2.trans f_x_10
                have f_x_5 := (hs.o gx trivial rfl).2.trans f_x_5
                have f_x_11 := (hs.o gx trivial rfl).1.trans f_x_11
                have f_x_8 := (hs.o gx trivial rfl).1.trans f_x_8
                have f_x_2 := (hs.o gx trivial rfl).1.trans f_x_2
                have fx_33 := (hs.o gq_26 trivial rfl).1.trans fx_33
                have pf_x_8 : ∀ j : Nat, (j : Int) < (h_48.2.1 x 8).toInt → h_48.2.2 qp j ≠ none := by
                  intro j hj; rw [(hs.o gx trivial rfl).1] at hj; rw [(hs.a gqp rfl j).2]; exact pf_x_8 j hj
                have pf_x_11 : ∀ j : Nat, (j : Int) < (h_48.2.1 x 11).toInt → h_48.2.2 qc j ≠ none := by
                  intro j hj; rw [(hs.o gx trivial rfl).1] at hj; rw [(hs.a gqc rfl j).2]; exact pf_x_11 j hj
                have pf_x_6 : ∀ j : Nat, (j : Int) < (h_48.2.1 x 6).toInt → h_48.2.2 qa j ≠ none := by
                  intro j hj; rw [(hs.o gx trivial rfl).1] at hj; rw [(hs.a gqa rfl j).2]; exact pf_x_6 j hj
                have cl_qp_7 : hx_col 40 h_48 qp 7 = df := (hx_col_S hs hTo gqp tt_44 tt_4 rfl rfl).trans cl_qp_7
                have fo_20 := (hs.a gqp rfl _).2.trans fo_20
                have fo_30 := (hs.a gqp rfl _).2.trans fo_30
                have hM := hM.tr (hs.mono (by decide))
                have gx := gx.S hs
                have gqp := gqp.S hs
                have gqc := gqc.S hs
                have gqa := gqa.S hs
                have gq_6 := gq_6.S hs
                have gq_26 := gq_26.S hs
                refine hb_if_ne (zx := r_49.toInt) (tgt := 83) hx hb rfl dX9_file_78 (by decide) (fun c_52 => ?_) (fun c_52 => ?_)
                · skip
                  have hTo := hT
                  refine hk_new hx hb hts hC_2 hown hW 118 tt_118 rfl (by decide) kw_223 kw_716 kw_110 (Nat.le_of_ble_eq_true rfl) (Nat.le_of_ble_eq_true rfl) dX9_file_83 (fun q_54 H h_53 eh_53 hqq_54 hW hs gq_54 => ?_)
                  have nq_q_54 : ∀ a ∈ L, a ≠ q_54 := fun a ha z => hqq_54 (z ▸ (hM.1 a ha).1)
                  have hT : hx_T T_tb (L_47 ++ [q_54]) h_53 := by rw [eh_53]; exact hx_T_nw hT hqq_54 tt_118 rfl
                  have f_x_7 := (hs.o gx trivial rfl).2.trans f_x_7
                  have f_x_10 := (hs.o gx trivial rfl).2.trans f_x_10
                  have f_x_5 := (hs.o gx trivial rfl).2.trans f_x_5
                  have f_x_11 := (hs.o gx trivial rfl).1.trans f_x_11
                  have f_x_8 := (hs.o gx trivial rfl).1.trans f_x_8
                  have f_x_2 := (hs.o gx trivial rfl).1.trans f_x_2
                  have fx_33 := (hs.o gq_26 trivial rfl).1.trans fx_33
                  have pf_x_8 : ∀ j : Nat, (j : Int) < (h_53.2.1 x 8).toInt → h_53.2.2 qp j ≠ none := by
                    intro j hj; rw [(hs.o gx trivial rfl).1] at hj; rw [(hs.a gqp rfl j).2]; exact pf_x_8 j hj
                  have pf_x_11 : ∀ j : Nat, (j : Int) < (h_53.2.1 x 11).toInt → h_53.2.2 qc j ≠ none := by
                    intro j hj; rw [(hs.o gx trivial rfl).1] at hj; rw [(hs.a gqc rfl j).2]; exact pf_x_11 j hj
                  have pf_x_6 : ∀ j : Nat, (j : Int) < (h_53.2.1 x 6).toInt → h_53.2.2 qa j ≠ none := by
                    intro j hj; rw [(hs.o gx trivial rfl).1] at hj; rw [(hs.a gqa rfl j).2]; exact pf_x_6 j hj
                  have cl_qp_7 : hx_col 40 h_53 qp 7 = df := (hx_col_S hs hTo gqp tt_44 tt_4 rfl rfl).trans cl_qp_7
                  have fo_20 := (hs.a gqp rfl _).2.trans fo_20
                  have fo_30 := (hs.a gqp rfl _).2.trans fo_30
                  have hM := hM.tr (hs.mono (by decide))
                  have gx := gx.S hs
                  have gqp := gqp.S hs
                  have gqc := gqc.S hs
                  have gqa := gqa.S hs
                  have gq_6 := gq_6.S hs
                  have gq_26 := gq_26.S hs
                  have fz_55 : ∀ j, ([] : List Nat).contains j = false → h_53.2.1 q_54 j = 0 ∧ h_53.2.2 q_54 j = none := by rw [eh_53]; exact fun _ _ => ⟨hx_nw_i, hx_nw_r⟩
                  refine lv_dup hx hb dX9_file_86 rfl ?_
                  refine lv_aload_n hx hb dX9_file_87 rfl (lv_at hl 2 rfl) ?_
                  refine hk_geti hx hb hts hC_9 hown hW gx tt_9 11 (by decide) rfl kw_375 ⟨rfl, rfl, rfl⟩ f_x_11 dX9_file_88 ?_
                  refine lv_aload hx hb dX9_file_91 (lv_at hl 1 rfl) ?_
                  refine lv_aload hx hb dX9_file_93 (lv_at hl 0 rfl) ?_
                  refine lv_aload_n hx hb dX9_file_95 rfl (lv_at hl 2 rfl) ?_
                  refine lv_aload_n hx hb dX9_file_96 rfl (lv_at hl 2 rfl) ?_
                  refine hk_geti hx hb hts hC_9 hown hW gx tt_9 2 (by decide) rfl kw_366 ⟨rfl, rfl, rfl⟩ f_x_2 dX9_file_97 ?_
                  have hTo := hT
                  refine hx_goq (hx_runV (As := [.int nw0]) (rest := [.ref q_26, .ref q_6, .int cn0, .ref q_54, .ref q_54]) ⟨hx, hb, hml, hown, hts⟩ hW gx tt_9 (T := TX9) (N := 20) rfl (t_X9_inForce l dC dI dA (L_47 ++ [q_54]) h_53 H.size x nw0 hT gx qa gqa f_x_5 pf_x_6) (cwV 1 hts (hx_gV kw_597 kw_594 kw_596 kw_19 kw_94) rfl rfl rfl (by decide +kernel) ⟨Nat.le_of_ble_eq_true rfl, Nat.le_of_ble_eq_true rfl⟩) rfl hl.1 rfl (Nat.le_of_ble_eq_true rfl) dX9_file_100 ⟨Nat.le_of_ble_eq_true rfl, Nat.le_of_ble_eq_true rfl⟩) hW (fun r_58 L_56 h_57 H locs p_59 hW => ?_)
                  obtain ⟨hr_60, hT, hs⟩ := p_59
                  have hT : hx_T T_tb L_56 h_57 := hT
                  have hs : hx_S T_tb [] (L_47 ++ [q_54]) h_53 L_56 h_57 := hs
                  have f_x_7 := (hs.o gx trivial rfl).2.trans f_x_7
                  have f_x_10 := (hs.o gx trivial rfl).2.trans f_x_10
                  have f_x_5 := (hs.o gx trivial rfl).2.trans f_x_5
                  have f_x_11 := (hs.o gx trivial rfl).1.trans f_x_11
                  have f_x_8 := (hs.o gx trivial rfl).1.trans f_x_8
                  have f_x_2 := (hs.o gx trivial rfl).1.trans f_x_2
                  have fx_33 := (hs.o gq_26 trivial rfl).1.trans fx_33
                  have pf_x_8 : ∀ j : Nat, (j : Int) < (h_57.2.1 x 8).toInt → h_57.2.2 qp j ≠ none := by
                    intro j hj; rw [(hs.o gx trivial rfl).1] at hj; rw [(hs.a gqp rfl j).2]; exact pf_x_8 j hj
                  have pf_x_11 : ∀ j : Nat, (j : Int) < (h_57.2.1 x 11).toInt → h_57.2.2 qc j ≠ none := by
                    intro j hj; rw [(hs.o gx trivial rfl).1] at hj; rw [(hs.a gqc rfl j).2]; exact pf_x_11 j hj
                  have pf_x_6 : ∀ j : Nat, (j : Int) < (h_57.2.1 x 6).toInt → h_57.2.2 qa j ≠ none := by
                    intro j hj; rw [(hs.o gx trivial rfl).1] at hj; rw [(hs.a gqa rfl j).2]; exact pf_x_6 j hj
                  have fz_55 := hx_zr [] fz_55 hs gq_54 trivial rfl
                  have cl_qp_7 : hx_col 40 h_57 qp 7 = df := (hx_col_S hs hTo gqp tt_44 tt_4 rfl rfl).trans cl_qp_7
                  have fo_20 := (hs.a gqp rfl _).2.trans fo_20
                  have fo_30 := (hs.a gqp rfl _).2.trans fo_30
                  have hM := hM.tr (hs.mono (by decide))
                  have gx := gx.S hs
                  have gqp := gqp.S hs
                  have gqc := gqc.S hs
                  have gqa := gqa.S hs
                  have gq_6 := gq_6.S hs
                  have gq_26 := gq_26.S hs
                  have gq_54 := gq_54.S hs
                  obtain ⟨q_61, rfl, gq_61⟩ := hr_60
                  have gq_61 : hx_g L_56 h_57 q_61 0 := gq_61
                  have hTo := hT
                  refine hx_gov (hx_runI (As := [.int cn0, .ref q_6, .ref q_26, .ref q_61]) (rest := [.ref q_54]) ⟨hx, hb, hml, hown, hts⟩ hW (t_X2_init l dC dI dA L_56 h_57 H.size q_54 cn0 q_6 q_26 q_61 hT gq_54 gq_6 gq_26 gq_61 (fun j => fz_55 j rfl) ⟨by omega, by omega⟩) (cwI 4 hts (hx_gC kw_719) rfl rfl rfl (hts _ kw_110) (hts _ kw_717) (hts _ kw_718) rfl (by decide +kernel) ⟨Nat.le_of_ble_eq_true rfl, Nat.le_of_ble_eq_true rfl⟩) rfl hl.1 rfl (Nat.le_of_ble_eq_true rfl) dX9_file_103 ⟨Nat.le_of_ble_eq_true rfl, Nat.le_of_ble_eq_true rfl⟩) hW (fun L_62 h_63 H locs p_65 hW => ?_)
                  have hTo := hT
                  obtain ⟨hT, hs, gNq_54, po_66, po_67, po_68, po_69⟩ := p_65
                  have hT : hx_T T_tb L_62 h_63 := hT
                  have hs : hx_S T_tb [(21, 0), (118, 0), (118, 1), (118, 2), (118, 3), (118, 4), (118, 5), (118, 10), (118, 11), (118, 13), (118, 16), (118, 18)] (hx_X L_56 q_54) h_57 L_62 h_63 := hs
                  have gx := hx_gX gx (gx.ne gq_54 (by decide))
                  have gqp := hx_gX gqp (gqp.ne gq_54 (by decide))
                  have gqc := hx_gX gqc (gqc.ne gq_54 (by decide))
                  have gqa := hx_gX gqa (gqa.ne gq_54 (by decide))
                  have gq_6 := hx_gX gq_6 (gq_6.ne gq_54 (by decide))
                  have gq_26 := hx_gX gq_26 (gq_26.ne gq_54 (by decide))
                  have gq_61 := hx_gX gq_61 (gq_61.ne gq_54 (by decide))
                  have f_x_7 := (hs.o gx trivial rfl).2.trans f_x_7
                  have f_x_10 := (hs.o gx trivial rfl).2.trans f_x_10
                  have f_x_5 := (hs.o gx trivial rfl).2.trans f_x_5
                  have f_x_11 := (hs.o gx trivial rfl).1.trans f_x_11
                  have f_x_8 := (hs.o gx trivial rfl).1.trans f_x_8
                  have f_x_2 := (hs.o gx trivial rfl).1.trans f_x_2
                  have fx_33 := (hs.o gq_26 trivial rfl).1.trans fx_33
                  have pf_x_8 : ∀ j : Nat, (j : Int) < (h_63.2.1 x 8).toInt → h_63.2.2 qp j ≠ none := by
                    intro j hj; rw [(hs.o gx trivial rfl).1] at hj; rw [(hs.a gqp rfl j).2]; exact pf_x_8 j hj
                  have pf_x_11 : ∀ j : Nat, (j : Int) < (h_63.2.1 x 11).toInt → h_63.2.2 qc j ≠ none := by
                    intro j hj; rw [(hs.o gx trivial rfl).1] at hj; rw [(hs.a gqc rfl j).2]; exact pf_x_11 j hj
                  have pf_x_6 : ∀ j : Nat, (j : Int) < (h_63.2.1 x 6).toInt → h_63.2.2 qa j ≠ none := by
                    intro j hj; rw [(hs.o gx trivial rfl).1] at hj; rw [(hs.a gqa rfl j).2]; exact pf_x_6 j hj
                  have cl_qp_7 : hx_col 40 h_63 qp 7 = df := (hx_col_X hs hTo gqp gq_54 tt_44 tt_4 rfl rfl (by decide)).trans cl_qp_7
                  have fo_20 := (hs.a gqp rfl _).2.trans fo_20
                  have fo_30 := (hs.a gqp rfl _).2.trans fo_30
                  have hM := hM.trX (hs.mono (by decide)) nq_q_54
                  have gx := gx.S hs
                  have gqp := gqp.S hs
                  have gqc := gqc.S hs
                  have gqa := gqa.S hs
                  have gq_6 := gq_6.S hs
                  have gq_26 := gq_26.S hs
                  have gq_61 := gq_61.S hs
                  have gq_54 : hx_g L_62 h_63 q_54 2 := gNq_54
                  have po_66 : h_63.2.1 q_54 0 = cn0 := po_66
                  have po_67 : h_63.2.1 q_54 10 = -1 := po_67
                  have po_68 : h_63.2.1 q_54 11 = -1 := po_68
                  have po_69 : h_63.2.1 q_54 9 = 0 := po_69
                  refine lv_astore (lv' := [(9, .ref q_54), (8, .ref q_26), (7, .ref q_6), (0, .ref x), (1, .int i1), (2, .int i2), (3, .int i3), (4, .int i4), (5, .int i5), (6, .int i6)]) hx hb dX9_file_106 hl (by decide) rfl (fun ls hl => ?_)
                  refine lv_aload hx hb dX9_file_108 (lv_at hl 0 rfl) ?_
                  refine lv_iload_n hx hb dX9_file_110 rfl (lv_at hl 6 rfl) ?_
                  have hTo := hT
                  refine hx_puti hx hb hts hC_2 hown hW hT (hx_S.rf (M := [(2, 6)])) gq_54 tt_2 6 (by decide) rfl kw_741 ⟨rfl, rfl, rfl⟩ rfl (x := i3) (i32_r _) rfl rfl rfl (List.mem_singleton.mpr rfl) dX9_file_111 (fun H locs h_70 eh_70 hW hT hs => ?_)
                  have f_x_7 := (hs.o gx trivial rfl).2.trans f_x_7
                  have f_x_10 := (hs.o gx trivial rfl).2.trans f_x_10
                  have f_x_5 := (hs.o gx trivial rfl).2.trans f_x_5
                  have f_x_11 := (hs.o gx trivial rfl).1.trans f_x_11
                  have f_x_8 := (hs.o gx trivial rfl).1.trans f_x_8
                  have f_x_2 := (hs.o gx trivial rfl).1.trans f_x_2
                  have fx_33 := (hs.o gq_26 trivial rfl).1.trans fx_33
                  have po_66 := (hs.o gq_54 trivial rfl).1.trans po_66
                  have po_67 := (hs.o gq_54 trivial rfl).1.trans po_67
                  have po_68 := (hs.o gq_54 trivial rfl).1.trans po_68
                  have po_69 := (hs.o gq_54 trivial rfl).1.trans po_69
                  have pf_x_8 : ∀ j : Nat, (j : Int) < (h_70.2.1 x 8).toInt → h_70.2.2 qp j ≠ none := by
                    intro j hj; rw [(hs.o gx trivial rfl).1] at hj; rw [(hs.a gqp rfl j).2]; exact pf_x_8 j hj
                  have pf_x_11 : ∀ j : Nat, (j : Int) < (h_70.2.1 x 11).toInt → h_70.2.2 qc j ≠ none := by
                    intro j hj; rw [(hs.o gx trivial rfl).1] at hj; rw [(hs.a gqc rfl j).2]; exact pf_x_11 j hj
                  have pf_x_6 : ∀ j : Nat, (j : Int) < (h_70.2.1 x 6).toInt → h_70.2.2 qa j ≠ none := by
                    intro j hj; rw [(hs.o gx trivial rfl).1] at hj; rw [(hs.a gqa rfl j).2]; exact pf_x_6 j hj
                  have cl_qp_7 : hx_col 40 h_70 qp 7 = df := (hx_col_S hs hTo gqp tt_44 tt_4 rfl rfl).trans cl_qp_7
                  have fo_20 := (hs.a gqp rfl _).2.trans fo_20
                  have fo_30 := (hs.a gqp rfl _).2.trans fo_30
                  have hM := hM.tr (hs.mono (by decide))
                  have gx := gx.S hs
                  have gqp := gqp.S hs
                  have gqc := gqc.S hs
                  have gqa := gqa.S hs
                  have gq_6 := gq_6.S hs
                  have gq_26 := gq_26.S hs
                  have gq_61 := gq_61.S hs
                  have gq_54 := gq_54.S hs
                  have f_71 : h_70.2.1 q_54 6 = i3 := by rw [eh_70]; exact hx_pi_at _ _ _ _
                  refine lv_aload hx hb dX9_file_114 (lv_at hl 0 rfl) ?_
                  refine lv_iload hx hb dX9_file_116 (lv_at hl 7 rfl) ?_
                  have hTo := hT
                  refine hx_puti hx hb hts hC_2 hown hW hT (hx_S.rf (M := [(2, 7)])) gq_54 tt_2 7 (by decide) rfl kw_742 ⟨rfl, rfl, rfl⟩ rfl (x := i4) (i32_r _) rfl rfl rfl (List.mem_singleton.mpr rfl) dX9_file_118 (fun H locs h_72 eh_72 hW hT hs => ?_)
                  have f_x_7 := (hs.o gx trivial rfl).2.trans f_x_7
                  have f_x_10 := (hs.o gx trivial rfl).2.trans f_x_10
                  have f_x_5 := (hs.o gx trivial rfl).2.trans f_x_5
                  have f_x_11 := (hs.o gx trivial rfl).1.trans f_x_11
                  have f_x_8 := (hs.o gx trivial rfl).1.trans f_x_8
                  have f_x_2 := (hs.o gx trivial rfl).1.trans f_x_2
                  have fx_33 := (hs.o gq_26 trivial rfl).1.trans fx_33
                  have po_66 := (hs.o gq_54 trivial rfl).1.trans po_66
                  have po_67 := (hs.o gq_54 trivial rfl).1.trans po_67
                  have po_68 := (hs.o gq_54 trivial rfl).1.trans po_68
                  have po_69 := (hs.o gq_54 trivial rfl).1.trans po_69
                  have f_71 := (hs.o gq_54 trivial rfl).1.trans f_71
                  have pf_x_8 : ∀ j : Nat, (j : Int) < (h_72.2.1 x 8).toInt → h_72.2.2 qp j ≠ none := by
                    intro j hj; rw [(hs.o gx trivial rfl).1] at hj; rw [(hs.a gqp rfl j).2]; exact pf_x_8 j hj
                  have pf_x_11 : ∀ j : Nat, (j : Int) < (h_72.2.1 x 11).toInt → h_72.2.2 qc j ≠ none := by
                    intro j hj; rw [(hs.o gx trivial rfl).1] at hj; rw [(hs.a gqc rfl j).2]; exact pf_x_11 j hj
                  have pf_x_6 : ∀ j : Nat, (j : Int) < (h_72.2.1 x 6).toInt → h_72.2.2 qa j ≠ none := by
                    intro j hj; rw [(hs.o gx trivial rfl).1] at hj; rw [(hs.a gqa rfl j).2]; exact pf_x_6 j hj
                  have cl_qp_7 : hx_col 40 h_72 qp 7 = df := (hx_col_S hs hTo gqp tt_44 tt_4 rfl rfl).trans cl_qp_7
                  have fo_20 := (hs.a gqp rfl _).2.trans fo_20
                  have fo_30 := (hs.a gqp rfl _).2.trans fo_30
                  have hM := hM.tr (hs.mono (by decide))
                  have gx := gx.S hs
                  have gqp := gqp.S hs
                  have gqc := gqc.S hs
                  have gqa := gqa.S hs
                  have gq_6 := gq_6.S hs
                  have gq_26 := gq_26.S hs
                  have gq_61 := gq_61.S hs
                  have gq_54 := gq_54.S hs
                  have f_73 : h_72.2.1 q_54 7 = i4 := by rw [eh_72]; exact hx_pi_at _ _ _ _
                  refine lv_aload hx hb dX9_file_121 (lv_at hl 0 rfl) ?_
                  refine lv_aload_n hx hb dX9_file_123 rfl (lv_at hl 3 rfl) ?_
                  refine hk_geti hx hb hts hC_9 hown hW gx tt_9 2 (by decide) rfl kw_366 ⟨rfl, rfl, rfl⟩ f_x_2 dX9_file_124 ?_
                  have hTo := hT
                  refine hx_puti hx hb hts hC_2 hown hW hT (hx_S.rf (M := [(2, 8)])) gq_54 tt_2 8 (by decide) rfl kw_743 ⟨rfl, rfl, rfl⟩ rfl (x := nw0) (i32_r _) rfl rfl rfl (List.mem_singleton.mpr rfl) dX9_file_127 (fun H locs h_74 eh_74 hW hT hs => ?_)
                  have f_x_7 := (hs.o gx trivial rfl).2.trans f_x_7
                  have f_x_10 := (hs.o gx trivial rfl).2.trans f_x_10
                  have f_x_5 := (hs.o gx trivial rfl).2.trans f_x_5
                  have f_x_11 := (hs.o gx trivial rfl).1.trans f_x_11
                  have f_x_8 := (hs.o gx trivial rfl).1.trans f_x_8
                  have f_x_2 := (hs.o gx trivial rfl).1.trans f_x_2
                  have fx_33 := (hs.o gq_26 trivial rfl).1.trans fx_33
                  have po_66 := (hs.o gq_54 trivial rfl).1.trans po_66
                  have po_67 := (hs.o gq_54 trivial rfl).1.trans po_67
                  have po_68 := (hs.o gq_54 trivial rfl).1.trans po_68
                  have po_69 := (hs.o gq_54 trivial rfl).1.trans po_69
                  have f_71 := (hs.o gq_54 trivial rfl).1.trans f_71
                  have f_73 := (hs.o gq_54 trivial rfl).1.trans f_73
                  have pf_x_8 : ∀ j : Nat, (j : Int) < (h_74.2.1 x 8).toInt → h_74.2.2 qp j ≠ none := by
                    intro j hj; rw [(hs.o gx trivial rfl).1] at hj; rw [(hs.a gqp rfl j).2]; exact pf_x_8 j hj
                  have pf_x_11 : ∀ j : Nat, (j : Int) < (h_74.2.1 x 11).toInt → h_74.2.2 qc j ≠ none := by
                    intro j hj; rw [(hs.o gx trivial rfl).1] at hj; rw [(hs.a gqc rfl j).2]; exact pf_x_11 j hj
                  have pf_x_6 : ∀ j : Nat, (j : Int) < (h_74.2.1 x 6).toInt → h_74.2.2 qa j ≠ none := by
                    intro j hj; rw [(hs.o gx trivial rfl).1] at hj; rw [(hs.a gqa rfl j).2]; exact pf_x_6 j hj
                  have cl_qp_7 : hx_col 40 h_74 qp 7 = df := (hx_col_S hs hTo gqp tt_44 tt_4 rfl rfl).trans cl_qp_7
                  have fo_20 := (hs.a gqp rfl _).2.trans fo_20
                  have fo_30 := (hs.a gqp rfl _).2.trans fo_30
                  have hM := hM.tr (hs.mono (by decide))
                  have gx := gx.S hs
                  have gqp := gqp.S hs
                  have gqc := gqc.S hs
                  have gqa := gqa.S hs
                  have gq_6 := gq_6.S hs
                  have gq_26 := gq_26.S hs
                  have gq_61 := gq_61.S hs
                  have gq_54 := gq_54.S hs
                  have f_75 : h_74.2.1 q_54 8 = nw0 := by rw [eh_74]; exact hx_pi_at _ _ _ _
                  refine lv_aload hx hb dX9_file_130 (lv_at hl 0 rfl) ?_
                  refine hx_getn hx hb hts hC_2 hown hW hT gq_54 tt_2 4 (by decide) rfl kw_738 ⟨rfl, rfl, rfl⟩ dX9_file_132 (fun q_76 fq_76 gq_76 => ?_)
                  refine lv_iconst (v := 2) hx hb dX9_file_135 (by decide) ?_
                  refine lv_iload hx hb dX9_file_136 (lv_at hl 8 rfl) ?_
                  refine hb_if_eq (zx := i5.toInt) (tgt := 145) hx hb rfl dX9_file_138 (by decide) (fun c_77 => ?_) (fun c_77 => ?_)
                  · skip
                    refine lv_iconst (v := 0) hx hb dX9_file_145 (by decide) ?_
                    have hTo := hT
                    refine hx_iast hx hb hW hT (hx_S.rf (M := [(20, 0)])) gq_76 tt_20 rfl (by decide) rfl (by decide) (List.mem_singleton.mpr rfl) dX9_file_146 (fun H locs h_78 eh_78 hW hT hs => ?_)
                    have f_x_7 := (hs.o gx trivial rfl).2.trans f_x_7
                    have f_x_10 := (hs.o gx trivial rfl).2.trans f_x_10
                    have f_x_5 := (hs.o gx trivial rfl).2.trans f_x_5
                    have f_x_11 := (hs.o gx trivial rfl).1.trans f_x_11
                    have f_x_8 := (hs.o gx trivial rfl).1.trans f_x_8
                    have f_x_2 := (hs.o gx trivial rfl).1.trans f_x_2
                    have fx_33 := (hs.o gq_26 trivial rfl).1.trans fx_33
                    have po_66 := (hs.o gq_54 trivial rfl).1.trans po_66
                    have po_67 := (hs.o gq_54 trivial rfl).1.trans po_67
                    have po_68 := (hs.o gq_54 trivial rfl).1.trans po_68
                    have po_69 := (hs.o gq_54 trivial rfl).1.trans po_69
                    have f_71 := (hs.o gq_54 trivial rfl).1.trans f_71
                    have f_73 := (hs.o gq_54 trivial rfl).1.trans f_73
                    have f_75 := (hs.o gq_54 trivial rfl).1.trans f_75
                    have fq_76 := (hs.o gq_54 trivial rfl).2.trans fq_76
                    have pf_x_8 : ∀ j : Nat, (j : Int) < (h_78.2.1 x 8).toInt → h_78.2.2 qp j ≠ none := by
                      intro j hj; rw [(hs.o gx trivial rfl).1] at hj; rw [(hs.a gqp rfl j).2]; exact pf_x_8 j hj
                    have pf_x_11 : ∀ j : Nat, (j : Int) < (h_78.2.1 x 11).toInt → h_78.2.2 qc j ≠ none := by
                      intro j hj; rw [(hs.o gx trivial rfl).1] at hj; rw [(hs.a gqc rfl j).2]; exact pf_x_11 j hj
                    have pf_x_6 : ∀ j : Nat, (j : Int) < (h_78.2.1 x 6).toInt → h_78.2.2 qa j ≠ none := by
                      intro j hj; rw [(hs.o gx trivial rfl).1] at hj; rw [(hs.a gqa rfl j).2]; exact pf_x_6 j hj
                    have cl_qp_7 : hx_col 40 h_78 qp 7 = df := (hx_col_S hs hTo gqp tt_44 tt_4 rfl rfl).trans cl_qp_7
                    have fo_20 := (hs.a gqp rfl _).2.trans fo_20
                    have fo_30 := (hs.a gqp rfl _).2.trans fo_30
                    have hM := hM.tr (hs.mono (by decide))
                    have gx := gx.S hs
                    have gqp := gqp.S hs
                    have gqc := gqc.S hs
                    have gqa := gqa.S hs
                    have gq_6 := gq_6.S hs
                    have gq_26 := gq_26.S hs
                    have gq_61 := gq_61.S hs
                    have gq_54 := gq_54.S hs
                    have gq_76 := gq_76.S hs
                    refine lv_aload hx hb dX9_file_147 (lv_at hl 0 rfl) ?_
                    refine hk_getr hx hb hts hC_2 hown hW gq_54 tt_2 4 (by decide) rfl kw_738 ⟨rfl, rfl, rfl⟩ fq_76 dX9_file_149 ?_
                    refine lv_iconst (v := 3) hx hb dX9_file_152 (by decide) ?_
                    refine lv_iload hx hb dX9_file_153 (lv_at hl 9 rfl) ?_
                    have hTo := hT
                    refine hx_iast hx hb hW hT (hx_S.rf (M := [(20, 0)])) gq_76 tt_20 rfl (by decide) rfl (i32_r _) (List.mem_singleton.mpr rfl) dX9_file_155 (fun H locs h_79 eh_79 hW hT hs => ?_)
                    have f_x_7 := (hs.o gx trivial rfl).2.trans f_x_7
                    have f_x_10 := (hs.o gx trivial rfl).2.trans f_x_10
                    have f_x_5 := (hs.o gx trivial rfl).2.trans f_x_5
                    have f_x_11 := (hs.o gx trivial rfl).1.trans f_x_11
                    have f_x_8 := (hs.o gx trivial rfl).1.trans f_x_8
                    have f_x_2 := (hs.o gx trivial rfl).1.trans f_x_2
                    have fx_33 := (hs.o gq_26 trivial rfl).1.trans fx_33
                    have po_66 := (hs.o gq_54 trivial rfl).1.trans po_66
                    have po_67 := (hs.o gq_54 trivial rfl).1.trans po_67
                    have po_68 := (hs.o gq_54 trivial rfl).1.trans po_68
                    have po_69 := (hs.o gq_54 trivial rfl).1.trans po_69
                    have f_71 := (hs.o gq_54 trivial rfl).1.trans f_71
                    have f_73 := (hs.o gq_54 trivial rfl).1.trans f_73
                    have f_75 := (hs.o gq_54 trivial rfl).1.trans f_75
                    have fq_76 := (hs.o gq_54 trivial rfl).2.trans fq_76
                    have pf_x_8 : ∀ j : Nat, (j : Int) < (h_79.2.1 x 8).toInt → h_79.2.2 qp j ≠ none := by
                      intro j hj; rw [(hs.o gx trivial rfl).1] at hj; rw [(hs.a gqp rfl j).2]; exact pf_x_8 j hj
                    have pf_x_11 : ∀ j : Nat, (j : Int) < (h_79.2.1 x 11).toInt → h_79.2.2 qc j ≠ none := by
                      intro j hj; rw [(hs.o gx trivial rfl).1] at hj; rw [(hs.a gqc rfl j).2]; exact pf_x_11 j hj
                    have pf_x_6 : ∀ j : Nat, (j : Int) < (h_79.2.1 x 6).toInt → h_79.2.2 qa j ≠ none := by
                      intro j hj; rw [(hs.o gx trivial rfl).1] at hj; rw [(hs.a gqa rfl j).2]; exact pf_x_6 j hj
                    have cl_qp_7 : hx_col 40 h_79 qp 7 = df := (hx_col_S hs hTo gqp tt_44 tt_4 rfl rfl).trans cl_qp_7
                    have fo_20 := (hs.a gqp rfl _).2.trans fo_20
                    have fo_30 := (hs.a gqp rfl _).2.trans fo_30
                    have hM := hM.tr (hs.mono (by decide))
                    have gx := gx.S hs
                    have gqp := gqp.S hs
                    have gqc := gqc.S hs
                    have gqa := gqa.S hs
                    have gq_6 := gq_6.S hs
                    have gq_26 := gq_26.S hs
                    have gq_61 := gq_61.S hs
                    have gq_54 := gq_54.S hs
                    have gq_76 := gq_76.S hs
                    refine lv_aload hx hb dX9_file_156 (lv_at hl 0 rfl) ?_
                    refine hk_getr hx hb hts hC_2 hown hW gq_54 tt_2 4 (by decide) rfl kw_738 ⟨rfl, rfl, rfl⟩ fq_76 dX9_file_158 ?_
                    refine lv_bipush (v := 7) hx hb dX9_file_161 (by decide) ?_
                    refine lv_iload_n hx hb dX9_file_163 rfl (lv_at hl 6 rfl) ?_
                    have hTo := hT
                    refine hx_iast hx hb hW hT (hx_S.rf (M := [(20, 0)])) gq_76 tt_20 rfl (by decide) rfl (i32_r _) (List.mem_singleton.mpr rfl) dX9_file_164 (fun H locs h_80 eh_80 hW hT hs => ?_)
                    have f_x_7 := (hs.o gx trivial rfl).2.trans f_x_7
                    have f_x_10 := (hs.o gx trivial rfl).2.trans f_x_10
                    have f_x_5 := (hs.o gx trivial rfl).2.trans f_x_5
                    have f_x_11 := (hs.o gx trivial rfl).1.trans f_x_11
                    have f_x_8 := (hs.o gx trivial rfl).1.trans f_x_8
                    have f_x_2 := (hs.o gx trivial rfl).1.trans f_x_2
                    have fx_33 := (hs.o gq_26 trivial rfl).1.trans fx_33
                    have po_66 := (hs.o gq_54 trivial rfl).1.trans po_66
                    have po_67 := (hs.o gq_54 trivial rfl).1.trans po_67
                    have po_68 := (hs.o gq_54 trivial rfl).1.trans po_68
                    have po_69 := (hs.o gq_54 trivial rfl).1.trans po_69
                    have f_71 := (hs.o gq_54 trivial rfl).1.trans f_71
                    have f_73 := (hs.o gq_54 trivial rfl).1.trans f_73
                    have f_75 := (hs.o gq_54 trivial rfl).1.trans f_75
                    have fq_76 := (hs.o gq_54 trivial rfl).2.trans fq_76
                    have pf_x_8 : ∀ j : Nat, (j : Int) < (h_80.2.1 x 8).toInt → h_80.2.2 qp j ≠ none := by
                      intro j hj; rw [(hs.o gx trivial rfl).1] at hj; rw [(hs.a gqp rfl j).2]; exact pf_x_8 j hj
                    have pf_x_11 : ∀ j : Nat, (j : Int) < (h_80.2.1 x 11).toInt → h_80.2.2 qc j ≠ none := by
                      intro j hj; rw [(hs.o gx trivial rfl).1] at hj; rw [(hs.a gqc rfl j).2]; exact pf_x_11 j hj
                    have pf_x_6 : ∀ j : Nat, (j : Int) < (h_80.2.1 x 6).toInt → h_80.2.2 qa j ≠ none := by
                      intro j hj; rw [(hs.o gx trivial rfl).1] at hj; rw [(hs.a gqa rfl j).2]; exact pf_x_6 j hj
                    have cl_qp_7 : hx_col 40 h_80 qp 7 = df := (hx_col_S hs hTo gqp tt_44 tt_4 rfl rfl).trans cl_qp_7
                    have fo_20 := (hs.a gqp rfl _).2.trans fo_20
                    have fo_30 := (hs.a gqp rfl _).2.trans fo_30
                    have hM := hM.tr (hs.mono (by decide))
                    have gx := gx.S hs
                    have gqp := gqp.S hs
                    have gqc := gqc.S hs
                    have gqa := gqa.S hs
                    have gq_6 := gq_6.S hs
                    have gq_26 := gq_26.S hs
                    have gq_61 := gq_61.S hs
                    have gq_54 := gq_54.S hs
                    have gq_76 := gq_76.S hs
                    refine lv_aload_n hx hb dX9_file_165 rfl (lv_at hl 3 rfl) ?_
                    refine hk_getr hx hb hts hC_9 hown hW gx tt_9 10 (by decide) rfl kw_374 ⟨rfl, rfl, rfl⟩ f_x_10 dX9_file_166 ?_
                    refine lv_aload_n hx hb dX9_file_169 rfl (lv_at hl 3 rfl) ?_
                    refine hk_geti hx hb hts hC_9 hown hW gx tt_9 11 (by decide) rfl kw_375 ⟨rfl, rfl, rfl⟩ f_x_11 dX9_file_170 ?_
                    refine lv_aload hx hb dX9_file_173 (lv_at hl 0 rfl) ?_
                    have hTo := hT
                    have pf_x_11O := pf_x_11
                    refine hx_aast hx hb hW hT (hx_S.rf (M := [(45, 0)])) gqc tt_45 rfl gq_54 tt_2 rfl (by decide) ⟨by omega, by omega⟩ (List.mem_singleton.mpr rfl) dX9_file_175 (fun H locs h_81 eh_81 hW hT hs => ?_)
                    have f_x_7 := (hs.o gx trivial rfl).2.trans f_x_7
                    have f_x_10 := (hs.o gx trivial rfl).2.trans f_x_10
                    have f_x_5 := (hs.o gx trivial rfl).2.trans f_x_5
                    have f_x_11 := (hs.o gx trivial rfl).1.trans f_x_11
                    have f_x_8 := (hs.o gx trivial rfl).1.trans f_x_8
                    have f_x_2 := (hs.o gx trivial rfl).1.trans f_x_2
                    have fx_33 := (hs.o gq_26 trivial rfl).1.trans fx_33
                    have po_66 := (hs.o gq_54 trivial rfl).1.trans po_66
                    have po_67 := (hs.o gq_54 trivial rfl).1.trans po_67
                    have po_68 := (hs.o gq_54 trivial rfl).1.trans po_68
                    have po_69 := (hs.o gq_54 trivial rfl).1.trans po_69
                    have f_71 := (hs.o gq_54 trivial rfl).1.trans f_71
                    have f_73 := (hs.o gq_54 trivial rfl).1.trans f_73
                    have f_75 := (hs.o gq_54 trivial rfl).1.trans f_75
                    have fq_76 := (hs.o gq_54 trivial rfl).2.trans fq_76
                    have pf_x_8 : ∀ j : Nat, (j : Int) < (h_81.2.1 x 8).toInt → h_81.2.2 qp j ≠ none := by
                      intro j hj; rw [(hs.o gx trivial rfl).1] at hj; rw [(hs.a gqp rfl j).2]; exact pf_x_8 j hj
                    have pf_x_6 : ∀ j : Nat, (j : Int) < (h_81.2.1 x 6).toInt → h_81.2.2 qa j ≠ none := by
                      intro j hj; rw [(hs.o gx trivial rfl).1] at hj; rw [(hs.a gqa rfl j).2]; exact pf_x_6 j hj
                    have cl_qp_7 : hx_col 40 h_81 qp 7 = df := (hx_col_S hs hTo gqp tt_44 tt_4 rfl rfl).trans cl_qp_7
                    have fo_20 := (hs.a gqp rfl _).2.trans fo_20
                    have fo_30 := (hs.a gqp rfl _).2.trans fo_30
                    have hM := hM.tr (hs.mono (by decide))
                    have gx := gx.S hs
                    have gqp := gqp.S hs
                    have gqc := gqc.S hs
                    have gqa := gqa.S hs
                    have gq_6 := gq_6.S hs
                    have gq_26 := gq_26.S hs
                    have gq_61 := gq_61.S hs
                    have gq_54 := gq_54.S hs
                    have gq_76 := gq_76.S hs
                    have pf_x_11 : ∀ j : Nat, (j : Int) < (h_81.2.1 x 11).toInt → h_81.2.2 qc j ≠ none := hx_pfk pf_x_11O eh_81
                    have px_82 : ∀ j : Nat, (j : Int) < cn0.toInt + 1 → h_81.2.2 qc j ≠ none := hx_pfx pf_x_11O (by first | exact f_x_11 | exact ((hs.o gx trivial rfl).1.symm.trans f_x_11)) (by omega) eh_81
                    refine lv_aload_n hx hb dX9_file_176 rfl (lv_at hl 3 rfl) ?_
                    refine lv_dup hx hb dX9_file_177 rfl ?_
                    refine hk_geti hx hb hts hC_9 hown hW gx tt_9 11 (by decide) rfl kw_375 ⟨rfl, rfl, rfl⟩ f_x_11 dX9_file_178 ?_
                    refine lv_iconst (v := 1) hx hb dX9_file_181 (by decide) ?_
                    refine lv_iadd hx hb dX9_file_182 ?_
                    have rg_83 := i32_r cn0
                    refine lv_topi (fun x_84 ex_84 => ?_)
                    have zx_84 : x_84.toInt = cn0.toInt + 1 := by rw [ex_84]; exact i32_add rfl (by decide) (by omega) (by omega)
                    have hTo := hT
                    refine hx_puti hx hb hts hC_9 hown hW hT (hx_S.rf (M := [(9, 11)])) gx tt_9 11 (by decide) rfl kw_375 ⟨rfl, rfl, rfl⟩ rfl (x := x_84) ⟨by omega, by omega⟩ rfl rfl rfl (List.mem_singleton.mpr rfl) dX9_file_183 (fun H locs h_85 eh_85 hW hT hs => ?_)
                    have px_82 : ∀ j : Nat, (j : Int) < cn0.toInt + 1 → h_85.2.2 qc j ≠ none := fun j hj => by rw [(hs.a gqc rfl j).2]; exact px_82 j hj
                    have f_x_7 := (hs.o gx trivial rfl).2.trans f_x_7
                    have f_x_10 := (hs.o gx trivial rfl).2.trans f_x_10
                    have f_x_5 := (hs.o gx trivial rfl).2.trans f_x_5
                    have f_x_8 := (hs.o gx trivial rfl).1.trans f_x_8
                    have f_x_2 := (hs.o gx trivial rfl).1.trans f_x_2
                    have fx_33 := (hs.o gq_26 trivial rfl).1.trans fx_33
                    have po_66 := (hs.o gq_54 trivial rfl).1.trans po_66
                    have po_67 := (hs.o gq_54 trivial rfl).1.trans po_67
                    have po_68 := (hs.o gq_54 trivial rfl).1.trans po_68
                    have po_69 := (hs.o gq_54 trivial rfl).1.trans po_69
                    have f_71 := (hs.o gq_54 trivial rfl).1.trans f_71
                    have f_73 := (hs.o gq_54 trivial rfl).1.trans f_73
                    have f_75 := (hs.o gq_54 trivial rfl).1.trans f_75
                    have fq_76 := (hs.o gq_54 trivial rfl).2.trans fq_76
                    have pf_x_8 : ∀ j : Nat, (j : Int) < (h_85.2.1 x 8).toInt → h_85.2.2 qp j ≠ none := by
                      intro j hj; rw [(hs.o gx trivial rfl).1] at hj; rw [(hs.a gqp rfl j).2]; exact pf_x_8 j hj
                    have pf_x_6 : ∀ j : Nat, (j : Int) < (h_85.2.1 x 6).toInt → h_85.2.2 qa j ≠ none := by
                      intro j hj; rw [(hs.o gx trivial rfl).1] at hj; rw [(hs.a gqa rfl j).2]; exact pf_x_6 j hj
                    have cl_qp_7 : hx_col 40 h_85 qp 7 = df := (hx_col_S hs hTo gqp tt_44 tt_4 rfl rfl).trans cl_qp_7
                    have fo_20 := (hs.a gqp rfl _).2.trans fo_20
                    have fo_30 := (hs.a gqp rfl _).2.trans fo_30
                    have hM := hM.tr (hs.mono (by decide))
                    have gx := gx.S hs
                    have gqp := gqp.S hs
                    have gqc := gqc.S hs
                    have gqa := gqa.S hs
                    have gq_6 := gq_6.S hs
                    have gq_26 := gq_26.S hs
                    have gq_61 := gq_61.S hs
                    have gq_54 := gq_54.S hs
                    have gq_76 := gq_76.S hs
                    have f_86 : h_85.2.1 x 11 = x_84 := by rw [eh_85]; exact hx_pi_at _ _ _ _
                    have pf_87 : ∀ j : Nat, (j : Int) < (h_85.2.1 x 11).toInt → h_85.2.2 qc j ≠ none := fun j hj => px_82 j (by rw [f_86] at hj; omega)
                    refine lv_aload hx hb dX9_file_186 (lv_at hl 0 rfl) ?_
                    refine hk_geti hx hb hts hC_2 hown hW gq_54 tt_2 0 (by decide) rfl kw_724 ⟨rfl, rfl, rfl⟩ po_66 dX9_file_188 ?_
                    refine W.widen (k := 3) (n := 30) (Nat.le_of_ble_eq_true rfl) (Nat.le_of_ble_eq_true rfl) ?_
                    exact hx_reti hx hb hr hlk hW ⟨⟨x_84, f_86, (Or.inr ⟨by omega, by omega, by unfold hx_FC; exact ⟨by omega, by omega, by omega, by omega, (by show (df i2.toNatClampNeg).toInt = 0; rw [← cx_33]; omega), by omega, by omega, by omega⟩⟩)⟩, hT, hM, pf_87⟩ dX9_file_191
                  · skip
                    refine lv_iconst (v := 1) hx hb dX9_file_141 (by decide) ?_
                    refine lv_goto (tgt := 146) hx hb dX9_file_142 (by decide) ?_
                    have hTo := hT
                    refine hx_iast hx hb hW hT (hx_S.rf (M := [(20, 0)])) gq_76 tt_20 rfl (by decide) rfl (by decide) (List.mem_singleton.mpr rfl) dX9_file_146 (fun H locs h_88 eh_88 hW hT hs => ?_)
                    have f_x_7 := (hs.o gx trivial rfl).2.trans f_x_7
                    have f_x_10 := (hs.o gx trivial rfl).2.trans f_x_10
                    have f_x_5 := (hs.o gx trivial rfl).2.trans f_x_5
                    have f_x_11 := (hs.o gx trivial rfl).1.trans f_x_11
                    have f_x_8 := (hs.o gx trivial rfl).1.trans f_x_8
                    have f_x_2 := (hs.o gx trivial rfl).1.trans f_x_2
                    have fx_33 := (hs.o gq_26 trivial rfl).1.trans fx_33
                    have po_66 := (hs.o gq_54 trivial rfl).1.trans po_66
                    have po_67 := (hs.o gq_54 trivial rfl).1.trans po_67
                    have po_68 := (hs.o gq_54 trivial rfl).1.trans po_68
                    have po_69 := (hs.o gq_54 trivial rfl).1.trans po_69
                    have f_71 := (hs.o gq_54 trivial rfl).1.trans f_71
                    have f_73 := (hs.o gq_54 trivial rfl).1.trans f_73
                    have f_75 := (hs.o gq_54 trivial rfl).1.trans f_75
                    have fq_76 := (hs.o gq_54 trivial rfl).2.trans fq_76
                    have pf_x_8 : ∀ j : Nat, (j : Int) < (h_88.2.1 x 8).toInt → h_88.2.2 qp j ≠ none := by
                      intro j hj; rw [(hs.o gx trivial rfl).1] at hj; rw [(hs.a gqp rfl j).2]; exact pf_x_8 j hj
                    have pf_x_11 : ∀ j : Nat, (j : Int) < (h_88.2.1 x 11).toInt → h_88.2.2 qc j ≠ none := by
                      intro j hj; rw [(hs.o gx trivial rfl).1] at hj; rw [(hs.a gqc rfl j).2]; exact pf_x_11 j hj
                    have pf_x_6 : ∀ j : Nat, (j : Int) < (h_88.2.1 x 6).toInt → h_88.2.2 qa j ≠ none := by
                      intro j hj; rw [(hs.o gx trivial rfl).1] at hj; rw [(hs.a gqa rfl j).2]; exact pf_x_6 j hj
                    have cl_qp_7 : hx_col 40 h_88 qp 7 = df := (hx_col_S hs hTo gqp tt_44 tt_4 rfl rfl).trans cl_qp_7
                    have fo_20 := (hs.a gqp rfl _).2.trans fo_20
                    have fo_30 := (hs.a gqp rfl _).2.trans fo_30
                    have hM := hM.tr (hs.mono (by decide))
                    have gx := gx.S hs
                    have gqp := gqp.S hs
                    have gqc := gqc.S hs
                    have gqa := gqa.S hs
                    have gq_6 := gq_6.S hs
                    have gq_26 := gq_26.S hs
                    have gq_61 := gq_61.S hs
                    have gq_54 := gq_54.S hs
                    have gq_76 := gq_76.S hs
                    refine lv_aload hx hb dX9_file_147 (lv_at hl 0 rfl) ?_
                    refine hk_getr hx hb hts hC_2 hown hW gq_54 tt_2 4 (by decide) rfl kw_738 ⟨rfl, rfl, rfl⟩ fq_76 dX9_file_149 ?_
                    refine lv_iconst (v := 3) hx hb dX9_file_152 (by decide) ?_
                    refine lv_iload hx hb dX9_file_153 (lv_at hl 9 rfl) ?_
                    have hTo := hT
                    refine hx_iast hx hb hW hT (hx_S.rf (M := [(20, 0)])) gq_76 tt_20 rfl (by decide) rfl (i32_r _) (List.mem_singleton.mpr rfl) dX9_file_155 (fun H locs h_89 eh_89 hW hT hs => ?_)
                    have f_x_7 := (hs.o gx trivial rfl).2.trans f_x_7
                    have f_x_10 := (hs.o gx trivial rfl).2.trans f_x_10
                    have f_x_5 := (hs.o gx trivial rfl).2.trans f_x_5
                    have f_x_11 := (hs.o gx trivial rfl).1.trans f_x_11
                    have f_x_8 := (hs.o gx trivial rfl).1.trans f_x_8
                    have f_x_2 := (hs.o gx trivial rfl).1.trans f_x_2
                    have fx_33 := (hs.o gq_26 trivial rfl).1.trans fx_33
                    have po_66 := (hs.o gq_54 trivial rfl).1.trans po_66
                    have po_67 := (hs.o gq_54 trivial rfl).1.trans po_67
                    have po_68 := (hs.o gq_54 trivial rfl).1.trans po_68
                    have po_69 := (hs.o gq_54 trivial rfl).1.trans po_69
                    have f_71 := (hs.o gq_54 trivial rfl).1.trans f_71
                    have f_73 := (hs.o gq_54 trivial rfl).1.trans f_73
                    have f_75 := (hs.o gq_54 trivial rfl).1.trans f_75
                    have fq_76 := (hs.o gq_54 trivial rfl).2.trans fq_76
                    have pf_x_8 : ∀ j : Nat, (j : Int) < (h_89.2.1 x 8).toInt → h_89.2.2 qp j ≠ none := by
                      intro j hj; rw [(hs.o gx trivial rfl).1] at hj; rw [(hs.a gqp rfl j).2]; exact pf_x_8 j hj
                    have pf_x_11 : ∀ j : Nat, (j : Int) < (h_89.2.1 x 11).toInt → h_89.2.2 qc j ≠ none := by
                      intro j hj; rw [(hs.o gx trivial rfl).1] at hj; rw [(hs.a gqc rfl j).2]; exact pf_x_11 j hj
                    have pf_x_6 : ∀ j : Nat, (j : Int) < (h_89.2.1 x 6).toInt → h_89.2.2 qa j ≠ none := by
                      intro j hj; rw [(hs.o gx trivial rfl).1] at hj; rw [(hs.a gqa rfl j).2]; exact pf_x_6 j hj
                    have cl_qp_7 : hx_col 40 h_89 qp 7 = df := (hx_col_S hs hTo gqp tt_44 tt_4 rfl rfl).trans cl_qp_7
                    have fo_20 := (hs.a gqp rfl _).2.trans fo_20
                    have fo_30 := (hs.a gqp rfl _).2.trans fo_30
                    have hM := hM.tr (hs.mono (by decide))
                    have gx := gx.S hs
                    have gqp := gqp.S hs
                    have gqc := gqc.S hs
                    have gqa := gqa.S hs
                    have gq_6 := gq_6.S hs
                    have gq_26 := gq_26.S hs
                    have gq_61 := gq_61.S hs
                    have gq_54 := gq_54.S hs
                    have gq_76 := gq_76.S hs
                    refine lv_aload hx hb dX9_file_156 (lv_at hl 0 rfl) ?_
                    refine hk_getr hx hb hts hC_2 hown hW gq_54 tt_2 4 (by decide) rfl kw_738 ⟨rfl, rfl, rfl⟩ fq_76 dX9_file_158 ?_
                    refine lv_bipush (v := 7) hx hb dX9_file_161 (by decide) ?_
                    refine lv_iload_n hx hb dX9_file_163 rfl (lv_at hl 6 rfl) ?_
                    have hTo := hT
                    refine hx_iast hx hb hW hT (hx_S.rf (M := [(20, 0)])) gq_76 tt_20 rfl (by decide) rfl (i32_r _) (List.mem_singleton.mpr rfl) dX9_file_164 (fun H locs h_90 eh_90 hW hT hs => ?_)
                    have f_x_7 := (hs.o gx trivial rfl).2.trans f_x_7
                    have f_x_10 := (hs.o gx trivial rfl).2.trans f_x_10
                    have f_x_5 := (hs.o gx trivial rfl).2.trans f_x_5
                    have f_x_11 := (hs.o gx trivial rfl).1.trans f_x_11
                    have f_x_8 := (hs.o gx trivial rfl).1.trans f_x_8
                    have f_x_2 := (hs.o gx trivial rfl).1.trans f_x_2
                    have fx_33 := (hs.o gq_26 trivial rfl).1.trans fx_33
                    have po_66 := (hs.o gq_54 trivial rfl).1.trans po_66
                    have po_67 := (hs.o gq_54 trivial rfl).1.trans po_67
                    have po_68 := (hs.o gq_54 trivial rfl).1.trans po_68
                    have po_69 := (hs.o gq_54 trivial rfl).1.trans po_69
                    have f_71 := (hs.o gq_54 trivial rfl).1.trans f_71
                    have f_73 := (hs.o gq_54 trivial rfl).1.trans f_73
                    have f_75 := (hs.o gq_54 trivial rfl).1.trans f_75
                    have fq_76 := (hs.o gq_54 trivial rfl).2.trans fq_76
                    have pf_x_8 : ∀ j : Nat, (j : Int) < (h_90.2.1 x 8).toInt → h_90.2.2 qp j ≠ none := by
                      intro j hj; rw [(hs.o gx trivial rfl).1] at hj; rw [(hs.a gqp rfl j).2]; exact pf_x_8 j hj
                    have pf_x_11 : ∀ j : Nat, (j : Int) < (h_90.2.1 x 11).toInt → h_90.2.2 qc j ≠ none := by
                      intro j hj; rw [(hs.o gx trivial rfl).1] at hj; rw [(hs.a gqc rfl j).2]; exact pf_x_11 j hj
                    have pf_x_6 : ∀ j : Nat, (j : Int) < (h_90.2.1 x 6).toInt → h_90.2.2 qa j ≠ none := by
                      intro j hj; rw [(hs.o gx trivial rfl).1] at hj; rw [(hs.a gqa rfl j).2]; exact pf_x_6 j hj
                    have cl_qp_7 : hx_col 40 h_90 qp 7 = df := (hx_col_S hs hTo gqp tt_44 tt_4 rfl rfl).trans cl_qp_7
                    have fo_20 := (hs.a gqp rfl _).2.trans fo_20
                    have fo_30 := (hs.a gqp rfl _).2.trans fo_30
                    have hM := hM.tr (hs.mono (by decide))
                    have gx := gx.S hs
                    have gqp := gqp.S hs
                    have gqc := gqc.S hs
                    have gqa := gqa.S hs
                    have gq_6 := gq_6.S hs
                    have gq_26 := gq_26.S hs
                    have gq_61 := gq_61.S hs
                    have gq_54 := gq_54.S hs
                    have gq_76 := gq_76.S hs
                    refine lv_aload_n hx hb dX9_file_165 rfl (lv_at hl 3 rfl) ?_
                    refine hk_getr hx hb hts hC_9 hown hW gx tt_9 10 (by decide) rfl kw_374 ⟨rfl, rfl, rfl⟩ f_x_10 dX9_file_166 ?_
                    refine lv_aload_n hx hb dX9_file_169 rfl (lv_at hl 3 rfl) ?_
                    refine hk_geti hx hb hts hC_9 hown hW gx tt_9 11 (by decide) rfl kw_375 ⟨rfl, rfl, rfl⟩ f_x_11 dX9_file_170 ?_
                    refine lv_aload hx hb dX9_file_173 (lv_at hl 0 rfl) ?_
                    have hTo := hT
                    have pf_x_11O := pf_x_11
                    refine hx_aast hx hb hW hT (hx_S.rf (M := [(45, 0)])) gqc tt_45 rfl gq_54 tt_2 rfl (by decide) ⟨by omega, by omega⟩ (List.mem_singleton.mpr rfl) dX9_file_175 (fun H locs h_91 eh_91 hW hT hs => ?_)
                    have f_x_7 := (hs.o gx trivial rfl).2.trans f_x_7
                    have f_x_10 := (hs.o gx trivial rfl).2.trans f_x_10
                    have f_x_5 := (hs.o gx trivial rfl).2.trans f_x_5
                    have f_x_11 := (hs.o gx trivial rfl).1.trans f_x_11
                    have f_x_8 := (hs.o gx trivial rfl).1.trans f_x_8
                    have f_x_2 := (hs.o gx trivial rfl).1.trans f_x_2
                    have fx_33 := (hs.o gq_26 trivial rfl).1.trans fx_33
                    have po_66 := (hs.o gq_54 trivial rfl).1.trans po_66
                    have po_67 := (hs.o gq_54 trivial rfl).1.trans po_67
                    have po_68 := (hs.o gq_54 trivial rfl).1.trans po_68
                    have po_69 := (hs.o gq_54 trivial rfl).1.trans po_69
                    have f_71 := (hs.o gq_54 trivial rfl).1.trans f_71
                    have f_73 := (hs.o gq_54 trivial rfl).1.trans f_73
                    have f_75 := (hs.o gq_54 trivial rfl).1.trans f_75
                    have fq_76 := (hs.o gq_54 trivial rfl).2.trans fq_76
                    have pf_x_8 : ∀ j : Nat, (j : Int) < (h_91.2.1 x 8).toInt → h_91.2.2 qp j ≠ none := by
                      intro j hj; rw [(hs.o gx trivial rfl).1] at hj; rw [(hs.a gqp rfl j).2]; exact pf_x_8 j hj
                    have pf_x_6 : ∀ j : Nat, (j : Int) < (h_91.2.1 x 6).toInt → h_91.2.2 qa j ≠ none := by
                      intro j hj; rw [(hs.o gx trivial rfl).1] at hj; rw [(hs.a gqa rfl j).2]; exact pf_x_6 j hj
                    have cl_qp_7 : hx_col 40 h_91 qp 7 = df := (hx_col_S hs hTo gqp tt_44 tt_4 rfl rfl).trans cl_qp_7
                    have fo_20 := (hs.a gqp rfl _).2.trans fo_20
                    have fo_30 := (hs.a gqp rfl _).2.trans fo_30
                    have hM := hM.tr (hs.mono (by decide))
                    have gx := gx.S hs
                    have gqp := gqp.S hs
                    have gqc := gqc.S hs
                    have gqa := gqa.S hs
                    have gq_6 := gq_6.S hs
                    have gq_26 := gq_26.S hs
                    have gq_61 := gq_61.S hs
                    have gq_54 := gq_54.S hs
                    have gq_76 := gq_76.S hs
                    have pf_x_11 : ∀ j : Nat, (j : Int) < (h_91.2.1 x 11).toInt → h_91.2.2 qc j ≠ none := hx_pfk pf_x_11O eh_91
                    have px_92 : ∀ j : Nat, (j : Int) < cn0.toInt + 1 → h_91.2.2 qc j ≠ none := hx_pfx pf_x_11O (by first | exact f_x_11 | exact ((hs.o gx trivial rfl).1.symm.trans f_x_11)) (by omega) eh_91
                    refine lv_aload_n hx hb dX9_file_176 rfl (lv_at hl 3 rfl) ?_
                    refine lv_dup hx hb dX9_file_177 rfl ?_
                    refine hk_geti hx hb hts hC_9 hown hW gx tt_9 11 (by decide) rfl kw_375 ⟨rfl, rfl, rfl⟩ f_x_11 dX9_file_178 ?_
                    refine lv_iconst (v := 1) hx hb dX9_file_181 (by decide) ?_
                    refine lv_iadd hx hb dX9_file_182 ?_
                    have rg_93 := i32_r cn0
                    refine lv_topi (fun x_94 ex_94 => ?_)
                    have zx_94 : x_94.toInt = cn0.toInt + 1 := by rw [ex_94]; exact i32_add rfl (by decide) (by omega) (by omega)
                    have hTo := hT
                    refine hx_puti hx hb hts hC_9 hown hW hT (hx_S.rf (M := [(9, 11)])) gx tt_9 11 (by decide) rfl kw_375 ⟨rfl, rfl, rfl⟩ rfl (x := x_94) ⟨by omega, by omega⟩ rfl rfl rfl (List.mem_singleton.mpr rfl) dX9_file_183 (fun H locs h_95 eh_95 hW hT hs => ?_)
                    have px_92 : ∀ j : Nat, (j : Int) < cn0.toInt + 1 → h_95.2.2 qc j ≠ none := fun j hj => by rw [(hs.a gqc rfl j).2]; exact px_92 j hj
                    have f_x_7 := (hs.o gx trivial rfl).2.trans f_x_7
                    have f_x_10 := (hs.o gx trivial rfl).2.trans f_x_10
                    have f_x_5 := (hs.o gx trivial rfl).2.trans f_x_5
                    have f_x_8 := (hs.o gx trivial rfl).1.trans f_x_8
                    have f_x_2 := (hs.o gx trivial rfl).1.trans f_x_2
                    have fx_33 := (hs.o gq_26 trivial rfl).1.trans fx_33
                    have po_66 := (hs.o gq_54 trivial rfl).1.trans po_66
                    have po_67 := (hs.o gq_54 trivial rfl).1.trans po_67
                    have po_68 := (hs.o gq_54 trivial rfl).1.trans po_68
                    have po_69 := (hs.o gq_54 trivial rfl).1.trans po_69
                    have f_71 := (hs.o gq_54 trivial rfl).1.trans f_71
                    have f_73 := (hs.o gq_54 trivial rfl).1.trans f_73
                    have f_75 := (hs.o gq_54 trivial rfl).1.trans f_75
                    have fq_76 := (hs.o gq_54 trivial rfl).2.trans fq_76
                    have pf_x_8 : ∀ j : Nat, (j : Int) < (h_95.2.1 x 8).toInt → h_95.2.2 qp j ≠ none := by
                      intro j hj; rw [(hs.o gx trivial rfl).1] at hj; rw [(hs.a gqp rfl j).2]; exact pf_x_8 j hj
                    have pf_x_6 : ∀ j : Nat, (j : Int) < (h_95.2.1 x 6).toInt → h_95.2.2 qa j ≠ none := by
                      intro j hj; rw [(hs.o gx trivial rfl).1] at hj; rw [(hs.a gqa rfl j).2]; exact pf_x_6 j hj
                    have cl_qp_7 : hx_col 40 h_95 qp 7 = df := (hx_col_S hs hTo gqp tt_44 tt_4 rfl rfl).trans cl_qp_7
                    have fo_20 := (hs.a gqp rfl _).2.trans fo_20
                    have fo_30 := (hs.a gqp rfl _).2.trans fo_30
                    have hM := hM.tr (hs.mono (by decide))
                    have gx := gx.S hs
                    have gqp := gqp.S hs
                    have gqc := gqc.S hs
                    have gqa := gqa.S hs
                    have gq_6 := gq_6.S hs
                    have gq_26 := gq_26.S hs
                    have gq_61 := gq_61.S hs
                    have gq_54 := gq_54.S hs
                    have gq_76 := gq_76.S hs
                    have f_96 : h_95.2.1 x 11 = x_94 := by rw [eh_95]; exact hx_pi_at _ _ _ _
                    have pf_97 : ∀ j : Nat, (j : Int) < (h_95.2.1 x 11).toInt → h_95.2.2 qc j ≠ none := fun j hj => px_92 j (by rw [f_96] at hj; omega)
                    refine lv_aload hx hb dX9_file_186 (lv_at hl 0 rfl) ?_
                    refine hk_geti hx hb hts hC_2 hown hW gq_54 tt_2 0 (by decide) rfl kw_724 ⟨rfl, rfl, rfl⟩ po_66 dX9_file_188 ?_
                    refine W.widen (k := 3) (n := 30) (Nat.le_of_ble_eq_true rfl) (Nat.le_of_ble_eq_true rfl) ?_
                    exact hx_reti hx hb hr hlk hW ⟨⟨x_94, f_96, (Or.inr ⟨by omega, by omega, by unfold hx_FC; exact ⟨by omega, by omega, by omega, by omega, (by show (df i2.toNatClampNeg).toInt = 0; rw [← cx_33]; omega), by omega, by omega, by omega⟩⟩)⟩, hT, hM, pf_97⟩ dX9_file_191
                · skip
                  refine lv_iconst (v := -1) hx hb dX9_file_81 (by decide) ?_
                  refine W.widen (k := 3) (n := 30) (Nat.le_of_ble_eq_true rfl) (Nat.le_of_ble_eq_true rfl) ?_
                  exact hx_reti hx hb hr hlk hW ⟨⟨cn0, f_x_11, (Or.inl ⟨by decide, by omega, fun hc => by unfold hx_FC at hc; have h1 : (df i2.toNatClampNeg).toInt = 0 := hc.2.2.2.2.1; rw [← cx_33] at h1; omega⟩)⟩, hT, hM, pf_x_11⟩ dX9_file_82


set_option maxHeartbeats 4000000 in
set_option maxRecDepth 100000 in
theorem t_X10_areLives_2 (l : Launch) (dC : Nat → ClassId) (dI : Nat → Nat → Nat) (dA : Nat → ClassId) (L : List Nat) (h : hx_h) (sz : Nat) (i1 : Int32) (i2 : Int32) (i3 : Int32) (i4 : Int32) (hT : hx_T T_tb L h)   : Met l yX10_areLives (Cond.code yX10_areLives cX10_areLives 4 (some .boolean) :: hx_all) ({ frames := 1, cells := 0, slots := 0, locals := 22 }) (va_Pc [.int i1, .int i2, .int i3, .int i4] (hx_B T_tb (P_ty dA) (dC, dI) vwCl L h sz)) (va_Qi (fun (r : Int32) (u : List Nat × hx_h) => ((r.toInt = 0 ∧ (i1.toInt < 0 ∨ 9999 < i1.toInt ∨ i2.toInt < 1 ∨ 20 < i2.toInt ∨ i3.toInt < 0 ∨ 99 < i3.toInt ∨ i4.toInt < 0 ∨ 99 < i4.toInt)) ∨ (r.toInt = 1 ∧ 0 ≤ i1.toInt ∧ i1.toInt ≤ 9999 ∧ 1 ≤ i2.toInt ∧ i2.toInt ≤ 20 ∧ 0 ≤ i3.toInt ∧ i3.toInt ≤ 99 ∧ 0 ≤ i4.toInt ∧ i4.toInt ≤ 99)) ∧ hx_T T_tb u.1 u.2 ∧ hx_S T_tb [] L h u.1 u.2) (hx_E T_tb (P_ty dA) (dC, dI) vwCl (hx_A L sz)) (hx_A L sz)) 0 0 (hx_A L sz) := by
  refine hx_met (lv := [(0, .int i1), (1, .int i2), (2, .int i3), (3, .int i4)]) (by decide +kernel) rfl (Nat.le_of_ble_eq_true rfl) rfl ?_
  intro p e s m below meth c hx hb hml hr hlk hts0 hown hin hsz hW ls hl
  have hts : ∀ w ∈ hx_all, w.before _ s = true := fun w hw => hts0 w (List.mem_cons_of_mem _ hw)
  have hown : s.vm.findClass "SmallCourtModel" = some m.cls := hown
  have hM : hx_S T_tb [] L h L h := hx_S.rf
  refine lv_iload_n hx hb dX10_areLives_0 rfl (lv_at hl 0 rfl) ?_
  refine lv_iconst (v := 0) hx hb dX10_areLives_1 (by decide) ?_
  refine lv_sipush (v := 9999) hx hb dX10_areLives_2 (by decide) ?_
  have zc_9999 : (9999 : Int32).toInt = 9999 := by decide
  have zc_0 : (0 : Int32).toInt = 0 := by decide
  refine hx_goi (hx_runS (As := [.int i1, .int (0 : Int32), .int (9999 : Int32)]) (rest := []) ⟨hx, hb, hml, hown, hts⟩ hW (t_X10_in l dC dI dA L h s.heap.size i1 (0 : Int32) (9999 : Int32) hT) (va_cwS 3 hts (hx_gS kw_1445 kw_1443 kw_1444 kw_103) rfl rfl rfl (by decide +kernel) ⟨Nat.le_of_ble_eq_true rfl, Nat.le_of_ble_eq_true rfl⟩) rfl hl.1 rfl (Nat.le_of_ble_eq_true rfl) dX10_areLives_5 ⟨Nat.le_of_ble_eq_true rfl, Nat.le_of_ble_eq_true rfl⟩) hW (fun r_3 L_1 h_2 H locs p_4 hW => ?_)
  obtain ⟨hr_5, hT, hs⟩ := p_4
  have hT : hx_T T_tb L_1 h_2 := hT
  have hs : hx_S T_tb [] L h L_1 h_2 := hs
  have hM := hM.tr (hs.mono (by decide))
  refine hb_if_eq (zx := r_3.toInt) (tgt := 45) hx hb rfl dX10_areLives_8 (by decide) (fun c_6 => ?_) (fun c_6 => ?_)
  · skip
    refine lv_iconst (v := 0) hx hb dX10_areLives_45 (by decide) ?_
    exact hx_retz hx hb hr rfl hlk hW ⟨(by have zr : (0 : Int32).toInt = 0 := (by decide); (first | omega | (refine ⟨?_, ?_⟩ <;> omega))), hT, hM⟩ dX10_areLives_46
  · skip
    refine lv_iload_n hx hb dX10_areLives_11 rfl (lv_at hl 1 rfl) ?_
    refine lv_iconst (v := 1) hx hb dX10_areLives_12 (by decide) ?_
    refine lv_bipush (v := 20) hx hb dX10_areLives_13 (by decide) ?_
    have zc_20 : (20 : Int32).toInt = 20 := by decide
    have zc_1 : (1 : Int32).toInt = 1 := by decide
    refine hx_goi (hx_runS (As := [.int i2, .int (1 : Int32), .int (20 : Int32)]) (rest := []) ⟨hx, hb, hml, hown, hts⟩ hW (t_X10_in l dC dI dA L_1 h_2 H.size i2 (1 : Int32) (20 : Int32) hT) (va_cwS 3 hts (hx_gS kw_1445 kw_1443 kw_1444 kw_103) rfl rfl rfl (by decide +kernel) ⟨Nat.le_of_ble_eq_true rfl, Nat.le_of_ble_eq_true rfl⟩) rfl hl.1 rfl (Nat.le_of_ble_eq_true rfl) dX10_areLives_15 ⟨Nat.le_of_ble_eq_true rfl, Nat.le_of_ble_eq_true rfl⟩) hW (fun r_9 L_7 h_8 H locs p_10 hW => ?_)
    obtain ⟨hr_11, hT, hs⟩ := p_10
    have hT : hx_T T_tb L_7 h_8 := hT
    have hs : hx_S T_tb [] L_1 h_2 L_7 h_8 := hs
    have hM := hM.tr (hs.mono (by decide))
    refine hb_if_eq (zx := r_9.toInt) (tgt := 45) hx hb rfl dX10_areLives_18 (by decide) (fun c_12 => ?_) (fun c_12 => ?_)
    · skip
      refine lv_iconst (v := 0) hx hb dX10_areLives_45 (by decide) ?_
      exact hx_retz hx hb hr rfl hlk hW ⟨(by have zr : (0 : Int32).toInt = 0 := (by decide); (first | omega | (refine ⟨?_, ?_⟩ <;> omega))), hT, hM⟩ dX10_areLives_46
    · skip
      refine lv_iload_n hx hb dX10_areLives_21 rfl (lv_at hl 2 rfl) ?_
      refine lv_iconst (v := 0) hx hb dX10_areLives_22 (by decide) ?_
      refine lv_bipush (v := 99) hx hb dX10_areLives_23 (by decide) ?_
      have zc_99 : (99 : Int32).toInt = 99 := by decide
      refine hx_goi (hx_runS (As := [.int i3, .int (0 : Int32), .int (99 : Int32)]) (rest := []) ⟨hx, hb, hml, hown, hts⟩ hW (t_X10_in l dC dI dA L_7 h_8 H.size i3 (0 : Int32) (99 : Int32) hT) (va_cwS 3 hts (hx_gS kw_1445 kw_1443 kw_1444 kw_103) rfl rfl rfl (by decide +kernel) ⟨Nat.le_of_ble_eq_true rfl, Nat.le_of_ble_eq_true rfl⟩) rfl hl.1 rfl (Nat.le_of_ble_eq_true rfl) dX10_areLives_25 ⟨Nat.le_of_ble_eq_true rfl, Nat.le_of_ble_eq_true rfl⟩) hW (fun r_15 L_13 h_14 H locs p_16 hW => ?_)
      obtain ⟨hr_17, hT, hs⟩ := p_16
      have hT : hx_T T_tb L_13 h_14 := hT
      have hs : hx_S T_tb [] L_7 h_8 L_13 h_14 := hs
      have hM := hM.tr (hs.mono (by decide))
      refine hb_if_eq (zx := r_15.toInt) (tgt := 45) hx hb rfl dX10_areLives_28 (by decide) (fun c_18 => ?_) (fun c_18 => ?_)
      · skip
        refine lv_iconst (v := 0) hx hb dX10_areLives_45 (by decide) ?_
        exact hx_retz hx hb hr rfl hlk hW ⟨(by have zr : (0 : Int32).toInt = 0 := (by decide); (first | omega | (refine ⟨?_, ?_⟩ <;> omega))), hT, hM⟩ dX10_areLives_46
      · skip
        refine lv_iload_n hx hb dX10_areLives_31 rfl (lv_at hl 3 rfl) ?_
        refine lv_iconst (v := 0) hx hb dX10_areLives_32 (by decide) ?_
        refine lv_bipush (v := 99) hx hb dX10_areLives_33 (by decide) ?_
        refine hx_goi (hx_runS (As := [.int i4, .int (0 : Int32), .int (99 : Int32)]) (rest := []) ⟨hx, hb, hml, hown, hts⟩ hW (t_X10_in l dC dI dA L_13 h_14 H.size i4 (0 : Int32) (99 : Int32) hT) (va_cwS 3 hts (hx_gS kw_1445 kw_1443 kw_1444 kw_103) rfl rfl rfl (by decide +kernel) ⟨Nat.le_of_ble_eq_true rfl, Nat.le_of_ble_eq_true rfl⟩) rfl hl.1 rfl (Nat.le_of_ble_eq_true rfl) dX10_areLives_35 ⟨Nat.le_of_ble_eq_true rfl, Nat.le_of_ble_eq_true rfl⟩) hW (fun r_21 L_19 h_20 H locs p_22 hW => ?_)
        obtain ⟨hr_23, hT, hs⟩ := p_22
        have hT : hx_T T_tb L_19 h_20 := hT
        have hs : hx_S T_tb [] L_13 h_14 L_19 h_20 := hs
        have hM := hM.tr (hs.mono (by decide))
        refine hb_if_eq (zx := r_21.toInt) (tgt := 45) hx hb rfl dX10_areLives_38 (by decide) (fun c_24 => ?_) (fun c_24 => ?_)
        · skip
          refine lv_iconst (v := 0) hx hb dX10_areLives_45 (by decide) ?_
          exact hx_retz hx hb hr rfl hlk hW ⟨(by have zr : (0 : Int32).toInt = 0 := (by decide); (first | omega | (refine ⟨?_, ?_⟩ <;> omega))), hT, hM⟩ dX10_areLives_46
        · skip
          refine lv_iconst (v := 1) hx hb dX10_areLives_41 (by decide) ?_
          refine lv_goto (tgt := 46) hx hb dX10_areLives_42 (by decide) ?_
          exact hx_retz hx hb hr rfl hlk hW ⟨(by have zr : (1 : Int32).toInt = 1 := (by decide); (first | omega | (refine ⟨?_, ?_⟩ <;> omega))), hT, hM⟩ dX10_areLives_46


set_option maxHeartbeats 4000000 in
set_option maxRecDepth 100000 in
theorem t_X10_person_2 (l : Launch) (dC : Nat → ClassId) (dI : Nat → Nat → Nat) (dA : Nat → ClassId) (L : List Nat) (h : hx_h) (sz : Nat) (x : Nat) (i1 : Int32) (i2 : Int32) (i3 : Int32) (i4 : Int32) (i5 : Int32) (i6 : Int32) (hT : hx_T T_tb L h) (gx : hx_g L h x 10) (pn0 : Int32) (f_x_20 : h.2.1 x 20 = pn0) : Met l yX10_person (Cond.code yX10_person cX10_person 7 (some .int) :: hx_all) ({ frames := 2, cells := 0, slots := 0, locals := 45 }) (va_Pc [.ref x, .int i1, .int i2, .int i3, .int i4, .int i5, .int i6] (hx_B T_tb (P_ty dA) (dC, dI) vwCl L h sz)) (va_Qi (fun (r : Int32) (u : List Nat × hx_h) => (∃ (pn1 : Int32), u.2.2.1 x 20 = pn1 ∧ ((hx_PS pn0.toInt i1.toInt i2.toInt i3.toInt i4.toInt i5.toInt i6.toInt r.toInt pn1.toInt))) ∧ hx_T T_tb u.1 u.2 ∧ hx_S T_tb [(10, 20), (58, 0), (59, 0), (60, 0), (61, 0), (62, 0), (63, 0)] L h u.1 u.2) (hx_E T_tb (P_ty dA) (dC, dI) vwCl (hx_A L sz)) (hx_A L sz)) 0 0 (hx_A L sz) := by
  refine hx_met (lv := [(0, .ref x), (1, .int i1), (2, .int i2), (3, .int i3), (4, .int i4), (5, .int i5), (6, .int i6)]) (by decide +kernel) rfl (Nat.le_of_ble_eq_true rfl) rfl ?_
  intro p e s m below meth c hx hb hml hr hlk hts0 hown hin hsz hW ls hl
  have hts : ∀ w ∈ hx_all, w.before _ s = true := fun w hw => hts0 w (List.mem_cons_of_mem _ hw)
  have hown : s.vm.findClass "SmallCourtModel" = some m.cls := hown
  have hM : hx_S T_tb [(10, 20), (58, 0), (59, 0), (60, 0), (61, 0), (62, 0), (63, 0)] L h L h := hx_S.rf
  have b_pn0 := hT.gi gx tt_10 (k := 20) rfl
  rw [f_x_20] at b_pn0
  have b_pn0 : 0 ≤ pn0.toInt ∧ pn0.toInt ≤ 40 := b_pn0
  refine lv_aload_n hx hb dX10_person_0 rfl (lv_at hl 0 rfl) ?_
  refine hk_geti hx hb hts hC_10 hown hW gx tt_10 20 (by decide) rfl kw_1163 ⟨rfl, rfl, rfl⟩ f_x_20 dX10_person_1 ?_
  refine lv_bipush (v := 40) hx hb dX10_person_4 (by decide) ?_
  refine hb_icmp_eq (zx := pn0.toInt) (zy := 40) (tgt := 45) hx hb rfl (by decide) dX10_person_6 (by decide) (fun c_1 => ?_) (fun c_1 => ?_)
  · skip
    refine lv_iconst (v := -1) hx hb dX10_person_45 (by decide) ?_
    exact hx_reti hx hb hr hlk hW ⟨⟨pn0, f_x_20, (Or.inl ⟨by decide, by omega, by unfold hx_pcn; omega⟩)⟩, hT, hM⟩ dX10_person_46
  · skip
    refine lv_iload_n hx hb dX10_person_9 rfl (lv_at hl 1 rfl) ?_
    refine lv_sipush (v := -30000) hx hb dX10_person_10 (by decide) ?_
    refine lv_sipush (v := 7999) hx hb dX10_person_13 (by decide) ?_
    have zc_7999 : (7999 : Int32).toInt = 7999 := by decide
    have zc_m30000 : (-30000 : Int32).toInt = -30000 := by decide
    refine hx_goi (hx_runS (As := [.int i1, .int (-30000 : Int32), .int (7999 : Int32)]) (rest := []) ⟨hx, hb, hml, hown, hts⟩ hW (t_X10_in l dC dI dA L h s.heap.size i1 (-30000 : Int32) (7999 : Int32) hT) (va_cwS 3 hts (hx_gS kw_1445 kw_1443 kw_1444 kw_103) rfl rfl rfl (by decide +kernel) ⟨Nat.le_of_ble_eq_true rfl, Nat.le_of_ble_eq_true rfl⟩) rfl hl.1 rfl (Nat.le_of_ble_eq_true rfl) dX10_person_16 ⟨Nat.le_of_ble_eq_true rfl, Nat.le_of_ble_eq_true rfl⟩) hW (fun r_4 L_2 h_3 H locs p_5 hW => ?_)
    obtain ⟨hr_6, hT, hs⟩ := p_5
    have hT : hx_T T_tb L_2 h_3 := hT
    have hs : hx_S T_tb [] L h L_2 h_3 := hs
    have f_x_20 := (hs.o gx trivial rfl).1.trans f_x_20
    have hM := hM.tr (hs.mono (by decide))
    have gx := gx.S hs
    refine hb_if_eq (zx := r_4.toInt) (tgt := 45) hx hb rfl dX10_person_19 (by decide) (fun c_7 => ?_) (fun c_7 => ?_)
    · skip
      refine lv_iconst (v := -1) hx hb dX10_person_45 (by decide) ?_
      exact hx_reti hx hb hr hlk hW ⟨⟨pn0, f_x_20, (Or.inl ⟨by decide, by omega, by unfold hx_pcn; omega⟩)⟩, hT, hM⟩ dX10_person_46
    · skip
      refine lv_iload_n hx hb dX10_person_22 rfl (lv_at hl 2 rfl) ?_
      refine lv_iload_n hx hb dX10_person_23 rfl (lv_at hl 3 rfl) ?_
      refine lv_iload hx hb dX10_person_24 (lv_at hl 4 rfl) ?_
      refine lv_iload hx hb dX10_person_26 (lv_at hl 5 rfl) ?_
      refine hx_goi (hx_runS (As := [.int i2, .int i3, .int i4, .int i5]) (rest := []) ⟨hx, hb, hml, hown, hts⟩ hW (t_X10_areLives_2 l dC dI dA L_2 h_3 H.size i2 i3 i4 i5 hT) (va_cwS 4 hts (hx_gS kw_1540 kw_1538 kw_1539 kw_103) rfl rfl rfl (by decide +kernel) ⟨Nat.le_of_ble_eq_true rfl, Nat.le_of_ble_eq_true rfl⟩) rfl hl.1 rfl (Nat.le_of_ble_eq_true rfl) dX10_person_28 ⟨Nat.le_of_ble_eq_true rfl, Nat.le_of_ble_eq_true rfl⟩) hW (fun r_10 L_8 h_9 H locs p_11 hW => ?_)
      obtain ⟨hr_12, hT, hs⟩ := p_11
      have hT : hx_T T_tb L_8 h_9 := hT
      have hs : hx_S T_tb [] L_2 h_3 L_8 h_9 := hs
      have f_x_20 := (hs.o gx trivial rfl).1.trans f_x_20
      have hM := hM.tr (hs.mono (by decide))
      have gx := gx.S hs
      refine hb_if_eq (zx := r_10.toInt) (tgt := 45) hx hb rfl dX10_person_31 (by decide) (fun c_13 => ?_) (fun c_13 => ?_)
      · skip
        refine lv_iconst (v := -1) hx hb dX10_person_45 (by decide) ?_
        exact hx_reti hx hb hr hlk hW ⟨⟨pn0, f_x_20, (Or.inl ⟨by decide, by omega, by unfold hx_pcn; omega⟩)⟩, hT, hM⟩ dX10_person_46
      · skip
        refine lv_iload hx hb dX10_person_34 (lv_at hl 6 rfl) ?_
        refine lv_iconst (v := -1) hx hb dX10_person_36 (by decide) ?_
        refine lv_bipush (v := 19) hx hb dX10_person_37 (by decide) ?_
        have zc_19 : (19 : Int32).toInt = 19 := by decide
        have zc_m1 : (-1 : Int32).toInt = -1 := by decide
        refine hx_goi (hx_runS (As := [.int i6, .int (-1 : Int32), .int (19 : Int32)]) (rest := []) ⟨hx, hb, hml, hown, hts⟩ hW (t_X10_in l dC dI dA L_8 h_9 H.size i6 (-1 : Int32) (19 : Int32) hT) (va_cwS 3 hts (hx_gS kw_1445 kw_1443 kw_1444 kw_103) rfl rfl rfl (by decide +kernel) ⟨Nat.le_of_ble_eq_true rfl, Nat.le_of_ble_eq_true rfl⟩) rfl hl.1 rfl (Nat.le_of_ble_eq_true rfl) dX10_person_39 ⟨Nat.le_of_ble_eq_true rfl, Nat.le_of_ble_eq_true rfl⟩) hW (fun r_16 L_14 h_15 H locs p_17 hW => ?_)
        obtain ⟨hr_18, hT, hs⟩ := p_17
        have hT : hx_T T_tb L_14 h_15 := hT
        have hs : hx_S T_tb [] L_8 h_9 L_14 h_15 := hs
        have f_x_20 := (hs.o gx trivial rfl).1.trans f_x_20
        have hM := hM.tr (hs.mono (by decide))
        have gx := gx.S hs
        refine hb_if_ne (zx := r_16.toInt) (tgt := 47) hx hb rfl dX10_person_42 (by decide) (fun c_19 => ?_) (fun c_19 => ?_)
        · skip
          refine lv_aload_n hx hb dX10_person_47 rfl (lv_at hl 0 rfl) ?_
          refine hx_getn hx hb hts hC_10 hown hW hT gx tt_10 21 (by decide) rfl kw_1164 ⟨rfl, rfl, rfl⟩ dX10_person_48 (fun q_20 fq_20 gq_20 => ?_)
          refine lv_aload_n hx hb dX10_person_51 rfl (lv_at hl 0 rfl) ?_
          refine hk_geti hx hb hts hC_10 hown hW gx tt_10 20 (by decide) rfl kw_1163 ⟨rfl, rfl, rfl⟩ f_x_20 dX10_person_52 ?_
          refine lv_iload_n hx hb dX10_person_55 rfl (lv_at hl 1 rfl) ?_
          refine hx_iast hx hb hW hT (hx_S.rf (M := [(58, 0)])) gq_20 tt_58 rfl ⟨by omega, by omega⟩ rfl (i32_r _) (List.mem_singleton.mpr rfl) dX10_person_56 (fun H locs h_21 eh_21 hW hT hs => ?_)
          have f_x_20 := (hs.o gx trivial rfl).1.trans f_x_20
          have fq_20 := (hs.o gx trivial rfl).2.trans fq_20
          have hM := hM.tr (hs.mono (by decide))
          have gx := gx.S hs
          have gq_20 := gq_20.S hs
          refine lv_aload_n hx hb dX10_person_57 rfl (lv_at hl 0 rfl) ?_
          refine hx_getn hx hb hts hC_10 hown hW hT gx tt_10 26 (by decide) rfl kw_1169 ⟨rfl, rfl, rfl⟩ dX10_person_58 (fun q_22 fq_22 gq_22 => ?_)
          refine lv_aload_n hx hb dX10_person_61 rfl (lv_at hl 0 rfl) ?_
          refine hk_geti hx hb hts hC_10 hown hW gx tt_10 20 (by decide) rfl kw_1163 ⟨rfl, rfl, rfl⟩ f_x_20 dX10_person_62 ?_
          refine lv_iload hx hb dX10_person_65 (lv_at hl 6 rfl) ?_
          refine hx_iast hx hb hW hT (hx_S.rf (M := [(63, 0)])) gq_22 tt_63 rfl ⟨by omega, by omega⟩ rfl (i32_r _) (List.mem_singleton.mpr rfl) dX10_person_67 (fun H locs h_23 eh_23 hW hT hs => ?_)
          have f_x_20 := (hs.o gx trivial rfl).1.trans f_x_20
          have fq_20 := (hs.o gx trivial rfl).2.trans fq_20
          have fq_22 := (hs.o gx trivial rfl).2.trans fq_22
          have hM := hM.tr (hs.mono (by decide))
          have gx := gx.S hs
          have gq_20 := gq_20.S hs
          have gq_22 := gq_22.S hs
          refine lv_aload_n hx hb dX10_person_68 rfl (lv_at hl 0 rfl) ?_
          refine lv_dup hx hb dX10_person_69 rfl ?_
          refine hk_geti hx hb hts hC_10 hown hW gx tt_10 20 (by decide) rfl kw_1163 ⟨rfl, rfl, rfl⟩ f_x_20 dX10_person_70 ?_
          refine lv_iconst (v := 1) hx hb dX10_person_73 (by decide) ?_
          refine lv_iadd hx hb dX10_person_74 ?_
          have rg_24 := i32_r pn0
          refine lv_topi (fun x_25 ex_25 => ?_)
          have zx_25 : x_25.toInt = pn0.toInt + 1 := by rw [ex_25]; exact i32_add rfl (by decide) (by omega) (by omega)
          refine hx_puti hx hb hts hC_10 hown hW hT (hx_S.rf (M := [(10, 20)])) gx tt_10 20 (by decide) rfl kw_1163 ⟨rfl, rfl, rfl⟩ rfl (x := x_25) ⟨by omega, by omega⟩ rfl rfl rfl (List.mem_singleton.mpr rfl) dX10_person_75 (fun H locs h_26 eh_26 hW hT hs => ?_)
          have fq_20 := (hs.o gx trivial rfl).2.trans fq_20
          have fq_22 := (hs.o gx trivial rfl).2.trans fq_22
          have hM := hM.tr (hs.mono (by decide))
          have gx := gx.S hs
          have gq_20 := gq_20.S hs
          have gq_22 := gq_22.S hs
          have f_27 : h_26.2.1 x 20 = x_25 := by rw [eh_26]; exact hx_pi_at _ _ _ _
          refine lv_aload_n hx hb dX10_person_78 rfl (lv_at hl 0 rfl) ?_
          refine lv_aload_n hx hb dX10_person_79 rfl (lv_at hl 0 rfl) ?_
          refine hk_geti hx hb hts hC_10 hown hW gx tt_10 20 (by decide) rfl kw_1163 ⟨rfl, rfl, rfl⟩ f_27 dX10_person_80 ?_
          refine lv_iconst (v := 1) hx hb dX10_person_83 (by decide) ?_
          refine lv_isub hx hb dX10_person_84 ?_
          have rg_28 := i32_r x_25
          refine lv_topi (fun x_29 ex_29 => ?_)
          have zx_29 : x_29.toInt = x_25.toInt - 1 := by rw [ex_29]; exact i32_sub rfl (by decide) (by omega) (by omega)
          refine lv_iload_n hx hb dX10_person_85 rfl (lv_at hl 2 rfl) ?_
          refine lv_iload_n hx hb dX10_person_86 rfl (lv_at hl 3 rfl) ?_
          refine lv_iload hx hb dX10_person_87 (lv_at hl 4 rfl) ?_
          refine lv_iload hx hb dX10_person_89 (lv_at hl 5 rfl) ?_
          refine hx_gov (hx_runV (As := [.int x_29, .int i2, .int i3, .int i4, .int i5]) (rest := []) ⟨hx, hb, hml, hown, hts⟩ hW gx tt_10 (T := TX10) (N := 98) rfl (t_X10_lives l dC dI dA L_14 h_26 H.size x x_29 i2 i3 i4 i5 hT gx ⟨by omega, by omega⟩ ⟨by omega, by omega⟩ ⟨by omega, by omega⟩) (cwV 5 hts (hx_gV kw_1544 kw_1541 kw_1543 kw_67 kw_103) rfl rfl rfl (by decide +kernel) ⟨Nat.le_of_ble_eq_true rfl, Nat.le_of_ble_eq_true rfl⟩) rfl hl.1 rfl (Nat.le_of_ble_eq_true rfl) dX10_person_91 ⟨Nat.le_of_ble_eq_true rfl, Nat.le_of_ble_eq_true rfl⟩) hW (fun L_30 h_31 H locs p_33 hW => ?_)
          obtain ⟨hT, hs⟩ := p_33
          have hT : hx_T T_tb L_30 h_31 := hT
          have hs : hx_S T_tb [(59, 0), (60, 0), (61, 0), (62, 0)] L_14 h_26 L_30 h_31 := hs
          have fq_20 := (hs.o gx trivial rfl).2.trans fq_20
          have fq_22 := (hs.o gx trivial rfl).2.trans fq_22
          have f_27 := (hs.o gx trivial rfl).1.trans f_27
          have hM := hM.tr (hs.mono (by decide))
          have gx := gx.S hs
          have gq_20 := gq_20.S hs
          have gq_22 := gq_22.S hs
          refine lv_aload_n hx hb dX10_person_94 rfl (lv_at hl 0 rfl) ?_
          refine hk_geti hx hb hts hC_10 hown hW gx tt_10 20 (by decide) rfl kw_1163 ⟨rfl, rfl, rfl⟩ f_27 dX10_person_95 ?_
          refine lv_iconst (v := 1) hx hb dX10_person_98 (by decide) ?_
          refine lv_isub hx hb dX10_person_99 ?_
          refine lv_topi (fun x_35 ex_35 => ?_)
          have zx_35 : x_35.toInt = x_25.toInt - 1 := by rw [ex_35]; exact i32_sub rfl (by decide) (by omega) (by omega)
          exact hx_reti hx hb hr hlk hW ⟨⟨x_25, f_27, (Or.inr ⟨by omega, by omega, by unfold hx_pcn; omega⟩)⟩, hT, hM⟩ dX10_person_100
        · skip
          refine lv_iconst (v := -1) hx hb dX10_person_45 (by decide) ?_
          exact hx_reti hx hb hr hlk hW ⟨⟨pn0, f_x_20, (Or.inl ⟨by decide, by omega, by unfold hx_pcn; omega⟩)⟩, hT, hM⟩ dX10_person_46


set_option maxHeartbeats 4000000 in
set_option maxRecDepth 100000 in
theorem t_X10_dies_2 (l : Launch) (dC : Nat → ClassId) (dI : Nat → Nat → Nat) (dA : Nat → ClassId) (L : List Nat) (h : hx_h) (sz : Nat) (x : Nat) (i1 : Int32) (hT : hx_T T_tb L h) (gx : hx_g L h x 10) (qd : Nat) (gqd : hx_g L h qd 64) (f_x_27 : h.2.2 x 27 = some qd) (df : Nat → Int32) (af_qd : h.2.1 qd = df) (pn0 : Int32) (f_x_20 : h.2.1 x 20 = pn0) : Met l yX10_dies (Cond.code yX10_dies cX10_dies 2 (some .boolean) :: hx_all) ({ frames := 2, cells := 0, slots := 0, locals := 43 }) (va_Pc [.ref x, .int i1] (hx_B T_tb (P_ty dA) (dC, dI) vwCl L h sz)) (va_Qi (fun (r : Int32) (u : List Nat × hx_h) => (∃ (df1 : Nat → Int32), u.2.2.1 qd = df1 ∧ (hx_JS pn0.toInt i1.toInt 1 df r.toInt df1)) ∧ hx_T T_tb u.1 u.2 ∧ hx_S T_tb [(64, 0)] L h u.1 u.2) (hx_E T_tb (P_ty dA) (dC, dI) vwCl (hx_A L sz)) (hx_A L sz)) 0 0 (hx_A L sz) := by
  refine hx_met (lv := [(0, .ref x), (1, .int i1)]) (by decide +kernel) rfl (Nat.le_of_ble_eq_true rfl) rfl ?_
  intro p e s m below meth c hx hb hml hr hlk hts0 hown hin hsz hW ls hl
  have hts : ∀ w ∈ hx_all, w.before _ s = true := fun w hw => hts0 w (List.mem_cons_of_mem _ hw)
  have hown : s.vm.findClass "SmallCourtModel" = some m.cls := hown
  have hM : hx_S T_tb [(64, 0)] L h L h := hx_S.rf
  have b_pn0 := hT.gi gx tt_10 (k := 20) rfl
  rw [f_x_20] at b_pn0
  have b_pn0 : 0 ≤ pn0.toInt ∧ pn0.toInt ≤ 40 := b_pn0
  refine lv_aload_n hx hb dX10_dies_0 rfl (lv_at hl 0 rfl) ?_
  refine lv_iload_n hx hb dX10_dies_1 rfl (lv_at hl 1 rfl) ?_
  refine hx_goi (hx_runV (As := [.int i1]) (rest := []) ⟨hx, hb, hml, hown, hts⟩ hW gx tt_10 (T := TX10) (N := 98) rfl (t_X10_isPerson l dC dI dA L h s.heap.size x i1 hT gx pn0 f_x_20) (cwV 1 hts (hx_gV kw_1552 kw_1549 kw_1551 kw_68 kw_103) rfl rfl rfl (by decide +kernel) ⟨Nat.le_of_ble_eq_true rfl, Nat.le_of_ble_eq_true rfl⟩) rfl hl.1 rfl (Nat.le_of_ble_eq_true rfl) dX10_dies_2 ⟨Nat.le_of_ble_eq_true rfl, Nat.le_of_ble_eq_true rfl⟩) hW (fun r_3 L_1 h_2 H locs p_4 hW => ?_)
  obtain ⟨hr_5, hT, hs⟩ := p_4
  have hT : hx_T T_tb L_1 h_2 := hT
  have hs : hx_S T_tb [] L h L_1 h_2 := hs
  have f_x_27 := (hs.o gx trivial rfl).2.trans f_x_27
  have f_x_20 := (hs.o gx trivial rfl).1.trans f_x_20
  have af_qd : h_2.2.1 qd = df := (funext fun j => (hs.a gqd rfl j).1).trans af_qd
  have hM := hM.tr (hs.mono (by decide))
  have gx := gx.S hs
  have gqd := gqd.S hs
  refine hb_if_eq (zx := r_3.toInt) (tgt := 17) hx hb rfl dX10_dies_5 (by decide) (fun c_6 => ?_) (fun c_6 => ?_)
  · skip
    refine lv_iconst (v := 0) hx hb dX10_dies_17 (by decide) ?_
    exact hx_retz hx hb hr rfl hlk hW ⟨⟨df, af_qd, (Or.inl ⟨by decide, rfl, fun hc => by have := hc.1; have := hc.2.1; omega⟩)⟩, hT, hM⟩ dX10_dies_18
  · skip
    refine lv_aload_n hx hb dX10_dies_8 rfl (lv_at hl 0 rfl) ?_
    refine hk_getr hx hb hts hC_10 hown hW gx tt_10 27 (by decide) rfl kw_1170 ⟨rfl, rfl, rfl⟩ f_x_27 dX10_dies_9 ?_
    refine lv_iload_n hx hb dX10_dies_12 rfl (lv_at hl 1 rfl) ?_
    refine hx_zald hx hb hW hT gqd tt_64 rfl ⟨by omega, by omega⟩ dX10_dies_13 (fun x_7 ex_7 lx_7 ux_7 => ?_)
    have ax_7 : x_7 = df i1.toNatClampNeg := ex_7.trans (congrFun af_qd _)
    refine hb_if_eq (zx := x_7.toInt) (tgt := 19) hx hb rfl dX10_dies_14 (by decide) (fun c_8 => ?_) (fun c_8 => ?_)
    · skip
      refine lv_aload_n hx hb dX10_dies_19 rfl (lv_at hl 0 rfl) ?_
      refine hk_getr hx hb hts hC_10 hown hW gx tt_10 27 (by decide) rfl kw_1170 ⟨rfl, rfl, rfl⟩ f_x_27 dX10_dies_20 ?_
      refine lv_iload_n hx hb dX10_dies_23 rfl (lv_at hl 1 rfl) ?_
      refine lv_iconst (v := 1) hx hb dX10_dies_24 (by decide) ?_
      have af_qdO := af_qd
      refine hx_zast hx hb hW hT (hx_S.rf (M := [(64, 0)])) gqd tt_64 rfl ⟨by omega, by omega⟩ (y := 1) (by decide) (by decide) (List.mem_singleton.mpr rfl) dX10_dies_25 (fun H locs h_9 eh_9 hW hT hs => ?_)
      have f_x_27 := (hs.o gx trivial rfl).2.trans f_x_27
      have f_x_20 := (hs.o gx trivial rfl).1.trans f_x_20
      have hM := hM.tr (hs.mono (by decide))
      have gx := gx.S hs
      have gqd := gqd.S hs
      obtain ⟨fa_10, dfa_10⟩ : ∃ g : Nat → Int32, g = hx_up df i1.toNatClampNeg (1 : Int32) := ⟨_, rfl⟩
      have nfa_10 : h_9.2.1 qd = fa_10 := by rw [eh_9, dfa_10, ← af_qdO]; exact hx_pi_fun _ _ _ _
      refine lv_iconst (v := 1) hx hb dX10_dies_26 (by decide) ?_
      exact hx_retz hx hb hr rfl hlk hW ⟨⟨fa_10, nfa_10, (Or.inr ⟨by decide, dfa_10, by omega, by omega, (by have z1 : (1 : Int32).toInt = 1 := (by decide); show (df i1.toNatClampNeg).toInt ≠ _; rw [← ax_7]; omega)⟩)⟩, hT, hM⟩ dX10_dies_27
    · skip
      refine lv_iconst (v := 0) hx hb dX10_dies_17 (by decide) ?_
      exact hx_retz hx hb hr rfl hlk hW ⟨⟨df, af_qd, (Or.inl ⟨by decide, rfl, fun hc => hc.2.2 (by have z1 : (1 : Int32).toInt = 1 := (by decide); show (df i1.toNatClampNeg).toInt = _; rw [← ax_7]; omega)⟩)⟩, hT, hM⟩ dX10_dies_18


set_option maxHeartbeats 4000000 in
set_option maxRecDepth 100000 in
theorem t_X10_judge_2 (l : Launch) (dC : Nat → ClassId) (dI : Nat → Nat → Nat) (dA : Nat → ClassId) (L : List Nat) (h : hx_h) (sz : Nat) (x : Nat) (i1 : Int32) (i2 : Int32) (hT : hx_T T_tb L h) (gx : hx_g L h x 10) (qd : Nat) (gqd : hx_g L h qd 65) (f_x_28 : h.2.2 x 28 = some qd) (df : Nat → Int32) (af_qd : h.2.1 qd = df) (pn0 : Int32) (f_x_20 : h.2.1 x 20 = pn0) (hi2 : i2.toInt = 0 ∨ i2.toInt = 1) : Met l yX10_judge (Cond.code yX10_judge cX10_judge 3 (some .boolean) :: hx_all) ({ frames := 2, cells := 0, slots := 0, locals := 43 }) (va_Pc [.ref x, .int i1, .int i2] (hx_B T_tb (P_ty dA) (dC, dI) vwCl L h sz)) (va_Qi (fun (r : Int32) (u : List Nat × hx_h) => (∃ (df1 : Nat → Int32), u.2.2.1 qd = df1 ∧ (hx_JS pn0.toInt i1.toInt i2 df r.toInt df1)) ∧ hx_T T_tb u.1 u.2 ∧ hx_S T_tb [(65, 0)] L h u.1 u.2) (hx_E T_tb (P_ty dA) (dC, dI) vwCl (hx_A L sz)) (hx_A L sz)) 0 0 (hx_A L sz) := by
  refine hx_met (lv := [(0, .ref x), (1, .int i1), (2, .int i2)]) (by decide +kernel) rfl (Nat.le_of_ble_eq_true rfl) rfl ?_
  intro p e s m below meth c hx hb hml hr hlk hts0 hown hin hsz hW ls hl
  have hts : ∀ w ∈ hx_all, w.before _ s = true := fun w hw => hts0 w (List.mem_cons_of_mem _ hw)
  have hown : s.vm.findClass "SmallCourtModel" = some m.cls := hown
  have hM : hx_S T_tb [(65, 0)] L h L h := hx_S.rf
  have b_pn0 := hT.gi gx tt_10 (k := 20) rfl
  rw [f_x_20] at b_pn0
  have b_pn0 : 0 ≤ pn0.toInt ∧ pn0.toInt ≤ 40 := b_pn0
  refine lv_aload_n hx hb dX10_judge_0 rfl (lv_at hl 0 rfl) ?_
  refine lv_iload_n hx hb dX10_judge_1 rfl (lv_at hl 1 rfl) ?_
  refine hx_goi (hx_runV (As := [.int i1]) (rest := []) ⟨hx, hb, hml, hown, hts⟩ hW gx tt_10 (T := TX10) (N := 98) rfl (t_X10_isPerson l dC dI dA L h s.heap.size x i1 hT gx pn0 f_x_20) (cwV 1 hts (hx_gV kw_1552 kw_1549 kw_1551 kw_68 kw_103) rfl rfl rfl (by decide +kernel) ⟨Nat.le_of_ble_eq_true rfl, Nat.le_of_ble_eq_true rfl⟩) rfl hl.1 rfl (Nat.le_of_ble_eq_true rfl) dX10_judge_2 ⟨Nat.le_of_ble_eq_true rfl, Nat.le_of_ble_eq_true rfl⟩) hW (fun r_3 L_1 h_2 H locs p_4 hW => ?_)
  obtain ⟨hr_5, hT, hs⟩ := p_4
  have hT : hx_T T_tb L_1 h_2 := hT
  have hs : hx_S T_tb [] L h L_1 h_2 := hs
  have f_x_28 := (hs.o gx trivial rfl).2.trans f_x_28
  have f_x_20 := (hs.o gx trivial rfl).1.trans f_x_20
  have af_qd : h_2.2.1 qd = df := (funext fun j => (hs.a gqd rfl j).1).trans af_qd
  have hM := hM.tr (hs.mono (by decide))
  have gx := gx.S hs
  have gqd := gqd.S hs
  refine hb_if_eq (zx := r_3.toInt) (tgt := 18) hx hb rfl dX10_judge_5 (by decide) (fun c_6 => ?_) (fun c_6 => ?_)
  · skip
    refine lv_iconst (v := 0) hx hb dX10_judge_18 (by decide) ?_
    exact hx_retz hx hb hr rfl hlk hW ⟨⟨df, af_qd, (Or.inl ⟨by decide, rfl, fun hc => by have := hc.1; have := hc.2.1; omega⟩)⟩, hT, hM⟩ dX10_judge_19
  · skip
    refine lv_aload_n hx hb dX10_judge_8 rfl (lv_at hl 0 rfl) ?_
    refine hk_getr hx hb hts hC_10 hown hW gx tt_10 28 (by decide) rfl kw_1171 ⟨rfl, rfl, rfl⟩ f_x_28 dX10_judge_9 ?_
    refine lv_iload_n hx hb dX10_judge_12 rfl (lv_at hl 1 rfl) ?_
    refine hx_zald hx hb hW hT gqd tt_65 rfl ⟨by omega, by omega⟩ dX10_judge_13 (fun x_7 ex_7 lx_7 ux_7 => ?_)
    have ax_7 : x_7 = df i1.toNatClampNeg := ex_7.trans (congrFun af_qd _)
    refine lv_iload_n hx hb dX10_judge_14 rfl (lv_at hl 2 rfl) ?_
    refine hb_icmp_ne (zx := x_7.toInt) (zy := i2.toInt) (tgt := 20) hx hb rfl rfl dX10_judge_15 (by decide) (fun c_8 => ?_) (fun c_8 => ?_)
    · skip
      refine lv_aload_n hx hb dX10_judge_20 rfl (lv_at hl 0 rfl) ?_
      refine hk_getr hx hb hts hC_10 hown hW gx tt_10 28 (by decide) rfl kw_1171 ⟨rfl, rfl, rfl⟩ f_x_28 dX10_judge_21 ?_
      refine lv_iload_n hx hb dX10_judge_24 rfl (lv_at hl 1 rfl) ?_
      refine lv_iload_n hx hb dX10_judge_25 rfl (lv_at hl 2 rfl) ?_
      have af_qdO := af_qd
      refine hx_zast hx hb hW hT (hx_S.rf (M := [(65, 0)])) gqd tt_65 rfl ⟨by omega, by omega⟩ (y := i2) (hx_nz01 (by omega)) ⟨by omega, by omega⟩ (List.mem_singleton.mpr rfl) dX10_judge_26 (fun H locs h_9 eh_9 hW hT hs => ?_)
      have f_x_28 := (hs.o gx trivial rfl).2.trans f_x_28
      have f_x_20 := (hs.o gx trivial rfl).1.trans f_x_20
      have hM := hM.tr (hs.mono (by decide))
      have gx := gx.S hs
      have gqd := gqd.S hs
      obtain ⟨fa_10, dfa_10⟩ : ∃ g : Nat → Int32, g = hx_up df i1.toNatClampNeg i2 := ⟨_, rfl⟩
      have nfa_10 : h_9.2.1 qd = fa_10 := by rw [eh_9, dfa_10, ← af_qdO]; exact hx_pi_fun _ _ _ _
      refine lv_iconst (v := 1) hx hb dX10_judge_27 (by decide) ?_
      exact hx_retz hx hb hr rfl hlk hW ⟨⟨fa_10, nfa_10, (Or.inr ⟨by decide, dfa_10, by omega, by omega, (by have z1 : (1 : Int32).toInt = 1 := (by decide); show (df i1.toNatClampNeg).toInt ≠ _; rw [← ax_7]; omega)⟩)⟩, hT, hM⟩ dX10_judge_28
    · skip
      refine lv_iconst (v := 0) hx hb dX10_judge_18 (by decide) ?_
      exact hx_retz hx hb hr rfl hlk hW ⟨⟨df, af_qd, (Or.inl ⟨by decide, rfl, fun hc => hc.2.2 (by have z1 : (1 : Int32).toInt = 1 := (by decide); show (df i1.toNatClampNeg).toInt = _; rw [← ax_7]; omega)⟩)⟩, hT, hM⟩ dX10_judge_19


set_option maxHeartbeats 4000000 in
set_option maxRecDepth 100000 in
theorem t_X10_anew_2 (l : Launch) (dC : Nat → ClassId) (dI : Nat → Nat → Nat) (dA : Nat → ClassId) (L : List Nat) (h : hx_h) (sz : Nat) (x : Nat) (i1 : Int32) (i2 : Int32) (i3 : Int32) (i4 : Int32) (i5 : Int32) (hT : hx_T T_tb L h) (gx : hx_g L h x 10) (qd : Nat) (gqd : hx_g L h qd 64) (f_x_27 : h.2.2 x 27 = some qd) (df : Nat → Int32) (af_qd : h.2.1 qd = df) (pn0 : Int32) (f_x_20 : h.2.1 x 20 = pn0) : Met l yX10_anew (Cond.code yX10_anew cX10_anew 6 (some .boolean) :: hx_all) ({ frames := 2, cells := 0, slots := 0, locals := 45 }) (va_Pc [.ref x, .int i1, .int i2, .int i3, .int i4, .int i5] (hx_B T_tb (P_ty dA) (dC, dI) vwCl L h sz)) (va_Qi (fun (r : Int32) (u : List Nat × hx_h) => (hx_AS pn0.toInt i1.toInt i2.toInt i3.toInt i4.toInt i5.toInt df r.toInt) ∧ hx_T T_tb u.1 u.2 ∧ hx_S T_tb [(59, 0), (60, 0), (61, 0), (62, 0)] L h u.1 u.2) (hx_E T_tb (P_ty dA) (dC, dI) vwCl (hx_A L sz)) (hx_A L sz)) 0 0 (hx_A L sz) := by
  refine hx_met (lv := [(0, .ref x), (1, .int i1), (2, .int i2), (3, .int i3), (4, .int i4), (5, .int i5)]) (by decide +kernel) rfl (Nat.le_of_ble_eq_true rfl) rfl ?_
  intro p e s m below meth c hx hb hml hr hlk hts0 hown hin hsz hW ls hl
  have hts : ∀ w ∈ hx_all, w.before _ s = true := fun w hw => hts0 w (List.mem_cons_of_mem _ hw)
  have hown : s.vm.findClass "SmallCourtModel" = some m.cls := hown
  have hM : hx_S T_tb [(59, 0), (60, 0), (61, 0), (62, 0)] L h L h := hx_S.rf
  have b_pn0 := hT.gi gx tt_10 (k := 20) rfl
  rw [f_x_20] at b_pn0
  have b_pn0 : 0 ≤ pn0.toInt ∧ pn0.toInt ≤ 40 := b_pn0
  refine lv_aload_n hx hb dX10_anew_0 rfl (lv_at hl 0 rfl) ?_
  refine lv_iload_n hx hb dX10_anew_1 rfl (lv_at hl 1 rfl) ?_
  refine hx_goi (hx_runV (As := [.int i1]) (rest := []) ⟨hx, hb, hml, hown, hts⟩ hW gx tt_10 (T := TX10) (N := 98) rfl (t_X10_isPerson l dC dI dA L h s.heap.size x i1 hT gx pn0 f_x_20) (cwV 1 hts (hx_gV kw_1552 kw_1549 kw_1551 kw_68 kw_103) rfl rfl rfl (by decide +kernel) ⟨Nat.le_of_ble_eq_true rfl, Nat.le_of_ble_eq_true rfl⟩) rfl hl.1 rfl (Nat.le_of_ble_eq_true rfl) dX10_anew_2 ⟨Nat.le_of_ble_eq_true rfl, Nat.le_of_ble_eq_true rfl⟩) hW (fun r_3 L_1 h_2 H locs p_4 hW => ?_)
  obtain ⟨hr_5, hT, hs⟩ := p_4
  have hT : hx_T T_tb L_1 h_2 := hT
  have hs : hx_S T_tb [] L h L_1 h_2 := hs
  have f_x_27 := (hs.o gx trivial rfl).2.trans f_x_27
  have f_x_20 := (hs.o gx trivial rfl).1.trans f_x_20
  have af_qd : h_2.2.1 qd = df := (funext fun j => (hs.a gqd rfl j).1).trans af_qd
  have hM := hM.tr (hs.mono (by decide))
  have gx := gx.S hs
  have gqd := gqd.S hs
  refine hb_if_eq (zx := r_3.toInt) (tgt := 29) hx hb rfl dX10_anew_5 (by decide) (fun c_6 => ?_) (fun c_6 => ?_)
  · skip
    refine lv_iconst (v := 0) hx hb dX10_anew_29 (by decide) ?_
    exact hx_retz hx hb hr rfl hlk hW ⟨(Or.inl ⟨by decide, fun hc => by have := hc.1; omega⟩), hT, hM⟩ dX10_anew_30
  · skip
    refine lv_aload_n hx hb dX10_anew_8 rfl (lv_at hl 0 rfl) ?_
    refine hk_getr hx hb hts hC_10 hown hW gx tt_10 27 (by decide) rfl kw_1170 ⟨rfl, rfl, rfl⟩ f_x_27 dX10_anew_9 ?_
    refine lv_iload_n hx hb dX10_anew_12 rfl (lv_at hl 1 rfl) ?_
    refine hx_zald hx hb hW hT gqd tt_64 rfl ⟨by omega, by omega⟩ dX10_anew_13 (fun x_7 ex_7 lx_7 ux_7 => ?_)
    have ax_7 : x_7 = df i1.toNatClampNeg := ex_7.trans (congrFun af_qd _)
    refine hb_if_ne (zx := x_7.toInt) (tgt := 29) hx hb rfl dX10_anew_14 (by decide) (fun c_8 => ?_) (fun c_8 => ?_)
    · skip
      refine lv_iconst (v := 0) hx hb dX10_anew_29 (by decide) ?_
      exact hx_retz hx hb hr rfl hlk hW ⟨(Or.inl ⟨by decide, fun hc => by have h1 : (df i1.toNatClampNeg).toInt = 0 := hc.2.1; have h2 := hc.2.2; unfold hx_hh at h2; rw [← ax_7] at h1; omega⟩), hT, hM⟩ dX10_anew_30
    · skip
      refine lv_iload_n hx hb dX10_anew_17 rfl (lv_at hl 2 rfl) ?_
      refine lv_iload_n hx hb dX10_anew_18 rfl (lv_at hl 3 rfl) ?_
      refine lv_iload hx hb dX10_anew_19 (lv_at hl 4 rfl) ?_
      refine lv_iload hx hb dX10_anew_21 (lv_at hl 5 rfl) ?_
      refine hx_goi (hx_runS (As := [.int i2, .int i3, .int i4, .int i5]) (rest := []) ⟨hx, hb, hml, hown, hts⟩ hW (t_X10_areLives_2 l dC dI dA L_1 h_2 H.size i2 i3 i4 i5 hT) (va_cwS 4 hts (hx_gS kw_1540 kw_1538 kw_1539 kw_103) rfl rfl rfl (by decide +kernel) ⟨Nat.le_of_ble_eq_true rfl, Nat.le_of_ble_eq_true rfl⟩) rfl hl.1 rfl (Nat.le_of_ble_eq_true rfl) dX10_anew_23 ⟨Nat.le_of_ble_eq_true rfl, Nat.le_of_ble_eq_true rfl⟩) hW (fun r_11 L_9 h_10 H locs p_12 hW => ?_)
      obtain ⟨hr_13, hT, hs⟩ := p_12
      have hT : hx_T T_tb L_9 h_10 := hT
      have hs : hx_S T_tb [] L_1 h_2 L_9 h_10 := hs
      have f_x_27 := (hs.o gx trivial rfl).2.trans f_x_27
      have f_x_20 := (hs.o gx trivial rfl).1.trans f_x_20
      have af_qd : h_10.2.1 qd = df := (funext fun j => (hs.a gqd rfl j).1).trans af_qd
      have ex_7 := ex_7.trans (hs.a gqd rfl _).1.symm
      have hM := hM.tr (hs.mono (by decide))
      have gx := gx.S hs
      have gqd := gqd.S hs
      refine hb_if_ne (zx := r_11.toInt) (tgt := 31) hx hb rfl dX10_anew_26 (by decide) (fun c_14 => ?_) (fun c_14 => ?_)
      · skip
        refine lv_aload_n hx hb dX10_anew_31 rfl (lv_at hl 0 rfl) ?_
        refine lv_iload_n hx hb dX10_anew_32 rfl (lv_at hl 1 rfl) ?_
        refine lv_iload_n hx hb dX10_anew_33 rfl (lv_at hl 2 rfl) ?_
        refine lv_iload_n hx hb dX10_anew_34 rfl (lv_at hl 3 rfl) ?_
        refine lv_iload hx hb dX10_anew_35 (lv_at hl 4 rfl) ?_
        refine lv_iload hx hb dX10_anew_37 (lv_at hl 5 rfl) ?_
        refine hx_gov (hx_runV (As := [.int i1, .int i2, .int i3, .int i4, .int i5]) (rest := []) ⟨hx, hb, hml, hown, hts⟩ hW gx tt_10 (T := TX10) (N := 98) rfl (t_X10_lives l dC dI dA L_9 h_10 H.size x i1 i2 i3 i4 i5 hT gx ⟨by omega, by omega⟩ ⟨by omega, by omega⟩ ⟨by omega, by omega⟩) (cwV 5 hts (hx_gV kw_1544 kw_1541 kw_1543 kw_67 kw_103) rfl rfl rfl (by decide +kernel) ⟨Nat.le_of_ble_eq_true rfl, Nat.le_of_ble_eq_true rfl⟩) rfl hl.1 rfl (Nat.le_of_ble_eq_true rfl) dX10_anew_39 ⟨Nat.le_of_ble_eq_true rfl, Nat.le_of_ble_eq_true rfl⟩) hW (fun L_15 h_16 H locs p_18 hW => ?_)
        obtain ⟨hT, hs⟩ := p_18
        have hT : hx_T T_tb L_15 h_16 := hT
        have hs : hx_S T_tb [(59, 0), (60, 0), (61, 0), (62, 0)] L_9 h_10 L_15 h_16 := hs
        have f_x_27 := (hs.o gx trivial rfl).2.trans f_x_27
        have f_x_20 := (hs.o gx trivial rfl).1.trans f_x_20
        have af_qd : h_16.2.1 qd = df := (funext fun j => (hs.a gqd rfl j).1).trans af_qd
        have ex_7 := ex_7.trans (hs.a gqd rfl _).1.symm
        have hM := hM.tr (hs.mono (by decide))
        have gx := gx.S hs
        have gqd := gqd.S hs
        refine lv_iconst (v := 1) hx hb dX10_anew_42 (by decide) ?_
        exact hx_retz hx hb hr rfl hlk hW ⟨(Or.inr ⟨by decide, ⟨by omega, by omega⟩, (by show (df i1.toNatClampNeg).toInt = 0; rw [← ax_7]; omega), by unfold hx_hh; omega⟩), hT, hM⟩ dX10_anew_43
      · skip
        refine lv_iconst (v := 0) hx hb dX10_anew_29 (by decide) ?_
        exact hx_retz hx hb hr rfl hlk hW ⟨(Or.inl ⟨by decide, fun hc => by have h1 : (df i1.toNatClampNeg).toInt = 0 := hc.2.1; have h2 := hc.2.2; unfold hx_hh at h2; rw [← ax_7] at h1; omega⟩), hT, hM⟩ dX10_anew_30


set_option maxHeartbeats 4000000 in
set_option maxRecDepth 100000 in
theorem t_X10_line_2 (l : Launch) (dC : Nat → ClassId) (dI : Nat → Nat → Nat) (dA : Nat → ClassId) (L : List Nat) (h : hx_h) (sz : Nat) (x : Nat) (i1 : Int32) (i2 : Int32) (i3 : Int32) (i4 : Int32) (i5 : Int32) (hT : hx_T T_tb L h) (gx : hx_g L h x 10) (ln0 : Int32) (f_x_29 : h.2.1 x 29 = ln0) (pn0 : Int32) (f_x_20 : h.2.1 x 20 = pn0) (nw0 : Int32) (f_x_0 : h.2.1 x 0 = nw0) : Met l yX10_line (Cond.code yX10_line cX10_line 6 (some .int) :: hx_all) ({ frames := 2, cells := 0, slots := 0, locals := 43 }) (va_Pc [.ref x, .int i1, .int i2, .int i3, .int i4, .int i5] (hx_B T_tb (P_ty dA) (dC, dI) vwCl L h sz)) (va_Qi (fun (r : Int32) (u : List Nat × hx_h) => (∃ (ln1 : Int32), u.2.2.1 x 29 = ln1 ∧ (hx_LS ln0.toInt pn0.toInt nw0.toInt i1.toInt i2.toInt i3.toInt i4.toInt i5.toInt r.toInt ln1.toInt)) ∧ hx_T T_tb u.1 u.2 ∧ hx_S T_tb [(10, 29), (66, 0), (67, 0), (68, 0), (69, 0), (70, 0)] L h u.1 u.2) (hx_E T_tb (P_ty dA) (dC, dI) vwCl (hx_A L sz)) (hx_A L sz)) 0 0 (hx_A L sz) := by
  refine hx_met (lv := [(0, .ref x), (1, .int i1), (2, .int i2), (3, .int i3), (4, .int i4), (5, .int i5)]) (by decide +kernel) rfl (Nat.le_of_ble_eq_true rfl) rfl ?_
  intro p e s m below meth c hx hb hml hr hlk hts0 hown hin hsz hW ls hl
  have hts : ∀ w ∈ hx_all, w.before _ s = true := fun w hw => hts0 w (List.mem_cons_of_mem _ hw)
  have hown : s.vm.findClass "SmallCourtModel" = some m.cls := hown
  have hM : hx_S T_tb [(10, 29), (66, 0), (67, 0), (68, 0), (69, 0), (70, 0)] L h L h := hx_S.rf
  have b_ln0 := hT.gi gx tt_10 (k := 29) rfl
  rw [f_x_29] at b_ln0
  have b_ln0 : 0 ≤ ln0.toInt ∧ ln0.toInt ≤ 400 := b_ln0
  have b_pn0 := hT.gi gx tt_10 (k := 20) rfl
  rw [f_x_20] at b_pn0
  have b_pn0 : 0 ≤ pn0.toInt ∧ pn0.toInt ≤ 40 := b_pn0
  have b_nw0 := hT.gi gx tt_10 (k := 0) rfl
  rw [f_x_0] at b_nw0
  have b_nw0 : 0 ≤ nw0.toInt ∧ nw0.toInt ≤ 7999 := b_nw0
  refine lv_aload_n hx hb dX10_line_0 rfl (lv_at hl 0 rfl) ?_
  refine hk_geti hx hb hts hC_10 hown hW gx tt_10 29 (by decide) rfl kw_1172 ⟨rfl, rfl, rfl⟩ f_x_29 dX10_line_1 ?_
  refine lv_sipush (v := 400) hx hb dX10_line_4 (by decide) ?_
  refine hb_icmp_eq (zx := ln0.toInt) (zy := 400) (tgt := 65) hx hb rfl (by decide) dX10_line_7 (by decide) (fun c_1 => ?_) (fun c_1 => ?_)
  · skip
    refine lv_iconst (v := -1) hx hb dX10_line_65 (by decide) ?_
    exact hx_reti hx hb hr hlk hW ⟨⟨ln0, f_x_29, (Or.inl ⟨by decide, by omega, by unfold hx_LC; omega⟩)⟩, hT, hM⟩ dX10_line_66
  · skip
    refine lv_aload_n hx hb dX10_line_10 rfl (lv_at hl 0 rfl) ?_
    refine lv_iload_n hx hb dX10_line_11 rfl (lv_at hl 1 rfl) ?_
    refine hx_goi (hx_runV (As := [.int i1]) (rest := []) ⟨hx, hb, hml, hown, hts⟩ hW gx tt_10 (T := TX10) (N := 98) rfl (t_X10_isPerson l dC dI dA L h s.heap.size x i1 hT gx pn0 f_x_20) (cwV 1 hts (hx_gV kw_1552 kw_1549 kw_1551 kw_68 kw_103) rfl rfl rfl (by decide +kernel) ⟨Nat.le_of_ble_eq_true rfl, Nat.le_of_ble_eq_true rfl⟩) rfl hl.1 rfl (Nat.le_of_ble_eq_true rfl) dX10_line_12 ⟨Nat.le_of_ble_eq_true rfl, Nat.le_of_ble_eq_true rfl⟩) hW (fun r_4 L_2 h_3 H locs p_5 hW => ?_)
    obtain ⟨hr_6, hT, hs⟩ := p_5
    have hT : hx_T T_tb L_2 h_3 := hT
    have hs : hx_S T_tb [] L h L_2 h_3 := hs
    have f_x_29 := (hs.o gx trivial rfl).1.trans f_x_29
    have f_x_20 := (hs.o gx trivial rfl).1.trans f_x_20
    have f_x_0 := (hs.o gx trivial rfl).1.trans f_x_0
    have hM := hM.tr (hs.mono (by decide))
    have gx := gx.S hs
    refine hb_if_eq (zx := r_4.toInt) (tgt := 65) hx hb rfl dX10_line_15 (by decide) (fun c_7 => ?_) (fun c_7 => ?_)
    · skip
      refine lv_iconst (v := -1) hx hb dX10_line_65 (by decide) ?_
      exact hx_reti hx hb hr hlk hW ⟨⟨ln0, f_x_29, (Or.inl ⟨by decide, by omega, by unfold hx_LC; omega⟩)⟩, hT, hM⟩ dX10_line_66
    · skip
      refine lv_aload_n hx hb dX10_line_18 rfl (lv_at hl 0 rfl) ?_
      refine lv_iload_n hx hb dX10_line_19 rfl (lv_at hl 2 rfl) ?_
      refine hx_goi (hx_runV (As := [.int i2]) (rest := []) ⟨hx, hb, hml, hown, hts⟩ hW gx tt_10 (T := TX10) (N := 98) rfl (t_X10_isPerson l dC dI dA L_2 h_3 H.size x i2 hT gx pn0 f_x_20) (cwV 1 hts (hx_gV kw_1552 kw_1549 kw_1551 kw_68 kw_103) rfl rfl rfl (by decide +kernel) ⟨Nat.le_of_ble_eq_true rfl, Nat.le_of_ble_eq_true rfl⟩) rfl hl.1 rfl (Nat.le_of_ble_eq_true rfl) dX10_line_20 ⟨Nat.le_of_ble_eq_true rfl, Nat.le_of_ble_eq_true rfl⟩) hW (fun r_10 L_8 h_9 H locs p_11 hW => ?_)
      obtain ⟨hr_12, hT, hs⟩ := p_11
      have hT : hx_T T_tb L_8 h_9 := hT
      have hs : hx_S T_tb [] L_2 h_3 L_8 h_9 := hs
      have f_x_29 := (hs.o gx trivial rfl).1.trans f_x_29
      have f_x_20 := (hs.o gx trivial rfl).1.trans f_x_20
      have f_x_0 := (hs.o gx trivial rfl).1.trans f_x_0
      have hM := hM.tr (hs.mono (by decide))
      have gx := gx.S hs
      refine hb_if_eq (zx := r_10.toInt) (tgt := 65) hx hb rfl dX10_line_23 (by decide) (fun c_13 => ?_) (fun c_13 => ?_)
      · skip
        refine lv_iconst (v := -1) hx hb dX10_line_65 (by decide) ?_
        exact hx_reti hx hb hr hlk hW ⟨⟨ln0, f_x_29, (Or.inl ⟨by decide, by omega, by unfold hx_LC; omega⟩)⟩, hT, hM⟩ dX10_line_66
      · skip
        refine lv_iload_n hx hb dX10_line_26 rfl (lv_at hl 1 rfl) ?_
        refine lv_iload_n hx hb dX10_line_27 rfl (lv_at hl 2 rfl) ?_
        refine hb_icmp_eq (zx := i1.toInt) (zy := i2.toInt) (tgt := 65) hx hb rfl rfl dX10_line_28 (by decide) (fun c_14 => ?_) (fun c_14 => ?_)
        · skip
          refine lv_iconst (v := -1) hx hb dX10_line_65 (by decide) ?_
          exact hx_reti hx hb hr hlk hW ⟨⟨ln0, f_x_29, (Or.inl ⟨by decide, by omega, by unfold hx_LC; omega⟩)⟩, hT, hM⟩ dX10_line_66
        · skip
          refine lv_iload_n hx hb dX10_line_31 rfl (lv_at hl 3 rfl) ?_
          refine lv_iconst (v := 0) hx hb dX10_line_32 (by decide) ?_
          refine lv_aload_n hx hb dX10_line_33 rfl (lv_at hl 0 rfl) ?_
          refine hk_geti hx hb hts hC_10 hown hW gx tt_10 0 (by decide) rfl kw_1143 ⟨rfl, rfl, rfl⟩ f_x_0 dX10_line_34 ?_
          have zc_0 : (0 : Int32).toInt = 0 := by decide
          refine hx_goi (hx_runS (As := [.int i3, .int (0 : Int32), .int nw0]) (rest := []) ⟨hx, hb, hml, hown, hts⟩ hW (t_X10_in l dC dI dA L_8 h_9 H.size i3 (0 : Int32) nw0 hT) (va_cwS 3 hts (hx_gS kw_1445 kw_1443 kw_1444 kw_103) rfl rfl rfl (by decide +kernel) ⟨Nat.le_of_ble_eq_true rfl, Nat.le_of_ble_eq_true rfl⟩) rfl hl.1 rfl (Nat.le_of_ble_eq_true rfl) dX10_line_37 ⟨Nat.le_of_ble_eq_true rfl, Nat.le_of_ble_eq_true rfl⟩) hW (fun r_17 L_15 h_16 H locs p_18 hW => ?_)
          obtain ⟨hr_19, hT, hs⟩ := p_18
          have hT : hx_T T_tb L_15 h_16 := hT
          have hs : hx_S T_tb [] L_8 h_9 L_15 h_16 := hs
          have f_x_29 := (hs.o gx trivial rfl).1.trans f_x_29
          have f_x_20 := (hs.o gx trivial rfl).1.trans f_x_20
          have f_x_0 := (hs.o gx trivial rfl).1.trans f_x_0
          have hM := hM.tr (hs.mono (by decide))
          have gx := gx.S hs
          refine hb_if_eq (zx := r_17.toInt) (tgt := 65) hx hb rfl dX10_line_40 (by decide) (fun c_20 => ?_) (fun c_20 => ?_)
          · skip
            refine lv_iconst (v := -1) hx hb dX10_line_65 (by decide) ?_
            exact hx_reti hx hb hr hlk hW ⟨⟨ln0, f_x_29, (Or.inl ⟨by decide, by omega, by unfold hx_LC; omega⟩)⟩, hT, hM⟩ dX10_line_66
          · skip
            refine lv_iload hx hb dX10_line_43 (lv_at hl 4 rfl) ?_
            refine lv_iconst (v := 0) hx hb dX10_line_45 (by decide) ?_
            refine lv_iconst (v := 3) hx hb dX10_line_46 (by decide) ?_
            have zc_3 : (3 : Int32).toInt = 3 := by decide
            refine hx_goi (hx_runS (As := [.int i4, .int (0 : Int32), .int (3 : Int32)]) (rest := []) ⟨hx, hb, hml, hown, hts⟩ hW (t_X10_in l dC dI dA L_15 h_16 H.size i4 (0 : Int32) (3 : Int32) hT) (va_cwS 3 hts (hx_gS kw_1445 kw_1443 kw_1444 kw_103) rfl rfl rfl (by decide +kernel) ⟨Nat.le_of_ble_eq_true rfl, Nat.le_of_ble_eq_true rfl⟩) rfl hl.1 rfl (Nat.le_of_ble_eq_true rfl) dX10_line_47 ⟨Nat.le_of_ble_eq_true rfl, Nat.le_of_ble_eq_true rfl⟩) hW (fun r_23 L_21 h_22 H locs p_24 hW => ?_)
            obtain ⟨hr_25, hT, hs⟩ := p_24
            have hT : hx_T T_tb L_21 h_22 := hT
            have hs : hx_S T_tb [] L_15 h_16 L_21 h_22 := hs
            have f_x_29 := (hs.o gx trivial rfl).1.trans f_x_29
            have f_x_20 := (hs.o gx trivial rfl).1.trans f_x_20
            have f_x_0 := (hs.o gx trivial rfl).1.trans f_x_0
            have hM := hM.tr (hs.mono (by decide))
            have gx := gx.S hs
            refine hb_if_eq (zx := r_23.toInt) (tgt := 65) hx hb rfl dX10_line_50 (by decide) (fun c_26 => ?_) (fun c_26 => ?_)
            · skip
              refine lv_iconst (v := -1) hx hb dX10_line_65 (by decide) ?_
              exact hx_reti hx hb hr hlk hW ⟨⟨ln0, f_x_29, (Or.inl ⟨by decide, by omega, by unfold hx_LC; omega⟩)⟩, hT, hM⟩ dX10_line_66
            · skip
              refine lv_iload hx hb dX10_line_53 (lv_at hl 5 rfl) ?_
              refine lv_iconst (v := 1) hx hb dX10_line_55 (by decide) ?_
              refine lv_sipush (v := 9999) hx hb dX10_line_56 (by decide) ?_
              have zc_9999 : (9999 : Int32).toInt = 9999 := by decide
              have zc_1 : (1 : Int32).toInt = 1 := by decide
              refine hx_goi (hx_runS (As := [.int i5, .int (1 : Int32), .int (9999 : Int32)]) (rest := []) ⟨hx, hb, hml, hown, hts⟩ hW (t_X10_in l dC dI dA L_21 h_22 H.size i5 (1 : Int32) (9999 : Int32) hT) (va_cwS 3 hts (hx_gS kw_1445 kw_1443 kw_1444 kw_103) rfl rfl rfl (by decide +kernel) ⟨Nat.le_of_ble_eq_true rfl, Nat.le_of_ble_eq_true rfl⟩) rfl hl.1 rfl (Nat.le_of_ble_eq_true rfl) dX10_line_59 ⟨Nat.le_of_ble_eq_true rfl, Nat.le_of_ble_eq_true rfl⟩) hW (fun r_29 L_27 h_28 H locs p_30 hW => ?_)
              obtain ⟨hr_31, hT, hs⟩ := p_30
              have hT : hx_T T_tb L_27 h_28 := hT
              have hs : hx_S T_tb [] L_21 h_22 L_27 h_28 := hs
              have f_x_29 := (hs.o gx trivial rfl).1.trans f_x_29
              have f_x_20 := (hs.o gx trivial rfl).1.trans f_x_20
              have f_x_0 := (hs.o gx trivial rfl).1.trans f_x_0
              have hM := hM.tr (hs.mono (by decide))
              have gx := gx.S hs
              refine hb_if_ne (zx := r_29.toInt) (tgt := 67) hx hb rfl dX10_line_62 (by decide) (fun c_32 => ?_) (fun c_32 => ?_)
              · skip
                refine lv_aload_n hx hb dX10_line_67 rfl (lv_at hl 0 rfl) ?_
                refine hx_getn hx hb hts hC_10 hown hW hT gx tt_10 30 (by decide) rfl kw_1173 ⟨rfl, rfl, rfl⟩ dX10_line_68 (fun q_33 fq_33 gq_33 => ?_)
                refine lv_aload_n hx hb dX10_line_71 rfl (lv_at hl 0 rfl) ?_
                refine hk_geti hx hb hts hC_10 hown hW gx tt_10 29 (by decide) rfl kw_1172 ⟨rfl, rfl, rfl⟩ f_x_29 dX10_line_72 ?_
                refine lv_iload_n hx hb dX10_line_75 rfl (lv_at hl 1 rfl) ?_
                refine hx_iast hx hb hW hT (hx_S.rf (M := [(66, 0)])) gq_33 tt_66 rfl ⟨by omega, by omega⟩ rfl (i32_r _) (List.mem_singleton.mpr rfl) dX10_line_76 (fun H locs h_34 eh_34 hW hT hs => ?_)
                have f_x_29 := (hs.o gx trivial rfl).1.trans f_x_29
                have f_x_20 := (hs.o gx trivial rfl).1.trans f_x_20
                have f_x_0 := (hs.o gx trivial rfl).1.trans f_x_0
                have fq_33 := (hs.o gx trivial rfl).2.trans fq_33
                have hM := hM.tr (hs.mono (by decide))
                have gx := gx.S hs
                have gq_33 := gq_33.S hs
                refine lv_aload_n hx hb dX10_line_77 rfl (lv_at hl 0 rfl) ?_
                refine hx_getn hx hb hts hC_10 hown hW hT gx tt_10 31 (by decide) rfl kw_1174 ⟨rfl, rfl, rfl⟩ dX10_line_78 (fun q_35 fq_35 gq_35 => ?_)
                refine lv_aload_n hx hb dX10_line_81 rfl (lv_at hl 0 rfl) ?_
                refine hk_geti hx hb hts hC_10 hown hW gx tt_10 29 (by decide) rfl kw_1172 ⟨rfl, rfl, rfl⟩ f_x_29 dX10_line_82 ?_
                refine lv_iload_n hx hb dX10_line_85 rfl (lv_at hl 2 rfl) ?_
                refine hx_iast hx hb hW hT (hx_S.rf (M := [(67, 0)])) gq_35 tt_67 rfl ⟨by omega, by omega⟩ rfl (i32_r _) (List.mem_singleton.mpr rfl) dX10_line_86 (fun H locs h_36 eh_36 hW hT hs => ?_)
                have f_x_29 := (hs.o gx trivial rfl).1.trans f_x_29
                have f_x_20 := (hs.o gx trivial rfl).1.trans f_x_20
                have f_x_0 := (hs.o gx trivial rfl).1.trans f_x_0
                have fq_33 := (hs.o gx trivial rfl).2.trans fq_33
                have fq_35 := (hs.o gx trivial rfl).2.trans fq_35
                have hM := hM.tr (hs.mono (by decide))
                have gx := gx.S hs
                have gq_33 := gq_33.S hs
                have gq_35 := gq_35.S hs
                refine lv_aload_n hx hb dX10_line_87 rfl (lv_at hl 0 rfl) ?_
                refine hx_getn hx hb hts hC_10 hown hW hT gx tt_10 32 (by decide) rfl kw_1175 ⟨rfl, rfl, rfl⟩ dX10_line_88 (fun q_37 fq_37 gq_37 => ?_)
                refine lv_aload_n hx hb dX10_line_91 rfl (lv_at hl 0 rfl) ?_
                refine hk_geti hx hb hts hC_10 hown hW gx tt_10 29 (by decide) rfl kw_1172 ⟨rfl, rfl, rfl⟩ f_x_29 dX10_line_92 ?_
                refine lv_iload_n hx hb dX10_line_95 rfl (lv_at hl 3 rfl) ?_
                refine hx_iast hx hb hW hT (hx_S.rf (M := [(68, 0)])) gq_37 tt_68 rfl ⟨by omega, by omega⟩ rfl (i32_r _) (List.mem_singleton.mpr rfl) dX10_line_96 (fun H locs h_38 eh_38 hW hT hs => ?_)
                have f_x_29 := (hs.o gx trivial rfl).1.trans f_x_29
                have f_x_20 := (hs.o gx trivial rfl).1.trans f_x_20
                have f_x_0 := (hs.o gx trivial rfl).1.trans f_x_0
                have fq_33 := (hs.o gx trivial rfl).2.trans fq_33
                have fq_35 := (hs.o gx trivial rfl).2.trans fq_35
                have fq_37 := (hs.o gx trivial rfl).2.trans fq_37
                have hM := hM.tr (hs.mono (by decide))
                have gx := gx.S hs
                have gq_33 := gq_33.S hs
                have gq_35 := gq_35.S hs
                have gq_37 := gq_37.S hs
                refine lv_aload_n hx hb dX10_line_97 rfl (lv_at hl 0 rfl) ?_
                refine hx_getn hx hb hts hC_10 hown hW hT gx tt_10 33 (by decide) rfl kw_1176 ⟨rfl, rfl, rfl⟩ dX10_line_98 (fun q_39 fq_39 gq_39 => ?_)
                refine lv_aload_n hx hb dX10_line_101 rfl (lv_at hl 0 rfl) ?_
                refine hk_geti hx hb hts hC_10 hown hW gx tt_10 29 (by decide) rfl kw_1172 ⟨rfl, rfl, rfl⟩ f_x_29 dX10_line_102 ?_
                refine lv_iload hx hb dX10_line_105 (lv_at hl 4 rfl) ?_
                refine hx_iast hx hb hW hT (hx_S.rf (M := [(69, 0)])) gq_39 tt_69 rfl ⟨by omega, by omega⟩ rfl (i32_r _) (List.mem_singleton.mpr rfl) dX10_line_107 (fun H locs h_40 eh_40 hW hT hs => ?_)
                have f_x_29 := (hs.o gx trivial rfl).1.trans f_x_29
                have f_x_20 := (hs.o gx trivial rfl).1.trans f_x_20
                have f_x_0 := (hs.o gx trivial rfl).1.trans f_x_0
                have fq_33 := (hs.o gx trivial rfl).2.trans fq_33
                have fq_35 := (hs.o gx trivial rfl).2.trans fq_35
                have fq_37 := (hs.o gx trivial rfl).2.trans fq_37
                have fq_39 := (hs.o gx trivial rfl).2.trans fq_39
                have hM := hM.tr (hs.mono (by decide))
                have gx := gx.S hs
                have gq_33 := gq_33.S hs
                have gq_35 := gq_35.S hs
                have gq_37 := gq_37.S hs
                have gq_39 := gq_39.S hs
                refine lv_aload_n hx hb dX10_line_108 rfl (lv_at hl 0 rfl) ?_
                refine hx_getn hx hb hts hC_10 hown hW hT gx tt_10 34 (by decide) rfl kw_1177 ⟨rfl, rfl, rfl⟩ dX10_line_109 (fun q_41 fq_41 gq_41 => ?_)
                refine lv_aload_n hx hb dX10_line_112 rfl (lv_at hl 0 rfl) ?_
                refine hk_geti hx hb hts hC_10 hown hW gx tt_10 29 (by decide) rfl kw_1172 ⟨rfl, rfl, rfl⟩ f_x_29 dX10_line_113 ?_
                refine lv_iload hx hb dX10_line_116 (lv_at hl 5 rfl) ?_
                refine hx_iast hx hb hW hT (hx_S.rf (M := [(70, 0)])) gq_41 tt_70 rfl ⟨by omega, by omega⟩ rfl (i32_r _) (List.mem_singleton.mpr rfl) dX10_line_118 (fun H locs h_42 eh_42 hW hT hs => ?_)
                have f_x_29 := (hs.o gx trivial rfl).1.trans f_x_29
                have f_x_20 := (hs.o gx trivial rfl).1.trans f_x_20
                have f_x_0 := (hs.o gx trivial rfl).1.trans f_x_0
                have fq_33 := (hs.o gx trivial rfl).2.trans fq_33
                have fq_35 := (hs.o gx trivial rfl).2.trans fq_35
                have fq_37 := (hs.o gx trivial rfl).2.trans fq_37
                have fq_39 := (hs.o gx trivial rfl).2.trans fq_39
                have fq_41 := (hs.o gx trivial rfl).2.trans fq_41
                have hM := hM.tr (hs.mono (by decide))
                have gx := gx.S hs
                have gq_33 := gq_33.S hs
                have gq_35 := gq_35.S hs
                have gq_37 := gq_37.S hs
                have gq_39 := gq_39.S hs
                have gq_41 := gq_41.S hs
                refine lv_aload_n hx hb dX10_line_119 rfl (lv_at hl 0 rfl) ?_
                refine lv_dup hx hb dX10_line_120 rfl ?_
                refine hk_geti hx hb hts hC_10 hown hW gx tt_10 29 (by decide) rfl kw_1172 ⟨rfl, rfl, rfl⟩ f_x_29 dX10_line_121 ?_
                refine lv_iconst (v := 1) hx hb dX10_line_124 (by decide) ?_
                refine lv_iadd hx hb dX10_line_125 ?_
                have rg_43 := i32_r ln0
                refine lv_topi (fun x_44 ex_44 => ?_)
                have zx_44 : x_44.toInt = ln0.toInt + 1 := by rw [ex_44]; exact i32_add rfl (by decide) (by omega) (by omega)
                refine hx_puti hx hb hts hC_10 hown hW hT (hx_S.rf (M := [(10, 29)])) gx tt_10 29 (by decide) rfl kw_1172 ⟨rfl, rfl, rfl⟩ rfl (x := x_44) ⟨by omega, by omega⟩ rfl rfl rfl (List.mem_singleton.mpr rfl) dX10_line_126 (fun H locs h_45 eh_45 hW hT hs => ?_)
                have f_x_20 := (hs.o gx trivial rfl).1.trans f_x_20
                have f_x_0 := (hs.o gx trivial rfl).1.trans f_x_0
                have fq_33 := (hs.o gx trivial rfl).2.trans fq_33
                have fq_35 := (hs.o gx trivial rfl).2.trans fq_35
                have fq_37 := (hs.o gx trivial rfl).2.trans fq_37
                have fq_39 := (hs.o gx trivial rfl).2.trans fq_39
                have fq_41 := (hs.o gx trivial rfl).2.trans fq_41
                have hM := hM.tr (hs.mono (by decide))
                have gx := gx.S hs
                have gq_33 := gq_33.S hs
                have gq_35 := gq_35.S hs
                have gq_37 := gq_37.S hs
                have gq_39 := gq_39.S hs
                have gq_41 := gq_41.S hs
                have f_46 : h_45.2.1 x 29 = x_44 := by rw [eh_45]; exact hx_pi_at _ _ _ _
                refine lv_aload_n hx hb dX10_line_129 rfl (lv_at hl 0 rfl) ?_
                refine hk_geti hx hb hts hC_10 hown hW gx tt_10 29 (by decide) rfl kw_1172 ⟨rfl, rfl, rfl⟩ f_46 dX10_line_130 ?_
                exact hx_reti hx hb hr hlk hW ⟨⟨x_44, f_46, (Or.inr ⟨by omega, by omega, by unfold hx_LC; omega⟩)⟩, hT, hM⟩ dX10_line_133
              · skip
                refine lv_iconst (v := -1) hx hb dX10_line_65 (by decide) ?_
                exact hx_reti hx hb hr hlk hW ⟨⟨ln0, f_x_29, (Or.inl ⟨by decide, by omega, by unfold hx_LC; omega⟩)⟩, hT, hM⟩ dX10_line_66


set_option maxHeartbeats 4000000 in
set_option maxRecDepth 100000 in
theorem t_X10_file_3 (l : Launch) (dC : Nat → ClassId) (dI : Nat → Nat → Nat) (dA : Nat → ClassId) (L : List Nat) (h : hx_h) (sz : Nat) (x : Nat) (i1 : Int32) (i2 : Int32) (i3 : Int32) (i4 : Int32) (i5 : Int32) (i6 : Int32) (hT : hx_T T_tb L h) (gx : hx_g L h x 10) (qh : Nat) (gqh : hx_g L h qh 82) (f_x_47 : h.2.2 x 47 = some qh) (qc : Nat) (gqc : hx_g L h qc 79) (f_x_44 : h.2.2 x 44 = some qc) (qd : Nat) (gqd : hx_g L h qd 64) (f_x_27 : h.2.2 x 27 = some qd) (hf : Nat → Int32) (af_qh : h.2.1 qh = hf) (plf : Nat → Int32) (af_qc : h.2.1 qc = plf) (df : Nat → Int32) (af_qd : h.2.1 qd = df) (a0 : Int32) (f_x_1 : h.2.1 x 1 = a0) (c0 : Int32) (f_x_36 : h.2.1 x 36 = c0) (m0 : Int32) (f_x_57 : h.2.1 x 57 = m0) (pn0 : Int32) (f_x_20 : h.2.1 x 20 = pn0) (nw0 : Int32) (f_x_0 : h.2.1 x 0 = nw0) (hPL : hx_PL plf c0.toInt a0.toInt) (hHC : m0.toInt = hx_hc hf c0.toInt.toNat) : Met l yX10_file (Cond.code yX10_file cX10_file 9 (some .int) :: hx_all) ({ frames := 2, cells := 0, slots := 0, locals := 43 }) (va_Pc [.ref x, .int i1, .int i2, .int i3, .int i4, .int i5, .int i6] (hx_B T_tb (P_ty dA) (dC, dI) vwCl L h sz)) (va_Qi (fun (r : Int32) (u : List Nat × hx_h) => (∃ (cn1 : Int32) (hf1 : Nat → Int32) (plf1 : Nat → Int32), u.2.2.1 x 36 = cn1 ∧ u.2.2.1 qh = hf1 ∧ u.2.2.1 qc = plf1 ∧ (m0.toInt = hx_hc hf1 cn1.toInt.toNat ∧ hx_PL plf1 cn1.toInt a0.toInt ∧ hx_FS c0.toInt pn0.toInt nw0.toInt i1.toInt i2.toInt i3.toInt i4.toInt i6.toInt df r.toInt cn1.toInt)) ∧ hx_T T_tb u.1 u.2 ∧ hx_S T_tb [(10, 36), (72, 0), (73, 0), (74, 0), (75, 0), (76, 0), (77, 0), (78, 0), (79, 0), (81, 0), (82, 0), (83, 0), (84, 0), (85, 0), (87, 0)] L h u.1 u.2) (hx_E T_tb (P_ty dA) (dC, dI) vwCl (hx_A L sz)) (hx_A L sz)) 0 0 (hx_A L sz) := by
  refine hx_met (lv := [(0, .ref x), (1, .int i1), (2, .int i2), (3, .int i3), (4, .int i4), (5, .int i5), (6, .int i6)]) (by decide +kernel) rfl (Nat.le_of_ble_eq_true rfl) rfl ?_
  intro p e s m below meth c hx hb hml hr hlk hts0 hown hin hsz hW ls hl
  have hts : ∀ w ∈ hx_all, w.before _ s = true := fun w hw => hts0 w (List.mem_cons_of_mem _ hw)
  have hown : s.vm.findClass "SmallCourtModel" = some m.cls := hown
  have hM : hx_S T_tb [(10, 36), (72, 0), (73, 0), (74, 0), (75, 0), (76, 0), (77, 0), (78, 0), (79, 0), (81, 0), (82, 0), (83, 0), (84, 0), (85, 0), (87, 0)] L h L h := hx_S.rf
  have b_a0 := hT.gi gx tt_10 (k := 1) rfl
  rw [f_x_1] at b_a0
  have b_a0 : 0 ≤ a0.toInt ∧ a0.toInt ≤ 8 := b_a0
  have b_c0 := hT.gi gx tt_10 (k := 36) rfl
  rw [f_x_36] at b_c0
  have b_c0 : 0 ≤ c0.toInt ∧ c0.toInt ≤ 100 := b_c0
  have b_m0 := hT.gi gx tt_10 (k := 57) rfl
  rw [f_x_57] at b_m0
  have b_m0 : 0 ≤ m0.toInt ∧ m0.toInt ≤ 100 := b_m0
  have b_pn0 := hT.gi gx tt_10 (k := 20) rfl
  rw [f_x_20] at b_pn0
  have b_pn0 : 0 ≤ pn0.toInt ∧ pn0.toInt ≤ 40 := b_pn0
  have b_nw0 := hT.gi gx tt_10 (k := 0) rfl
  rw [f_x_0] at b_nw0
  have b_nw0 : 0 ≤ nw0.toInt ∧ nw0.toInt ≤ 7999 := b_nw0
  refine lv_aload_n hx hb dX10_file_0 rfl (lv_at hl 0 rfl) ?_
  refine hk_geti hx hb hts hC_10 hown hW gx tt_10 36 (by decide) rfl kw_1179 ⟨rfl, rfl, rfl⟩ f_x_36 dX10_file_1 ?_
  refine lv_bipush (v := 100) hx hb dX10_file_4 (by decide) ?_
  refine hb_icmp_eq (zx := c0.toInt) (zy := 100) (tgt := 74) hx hb rfl (by decide) dX10_file_6 (by decide) (fun c_1 => ?_) (fun c_1 => ?_)
  · skip
    refine lv_iconst (v := -1) hx hb dX10_file_74 (by decide) ?_
    exact hx_reti hx hb hr hlk hW ⟨⟨c0, hf, plf, f_x_36, af_qh, af_qc, ⟨hHC, hPL, (Or.inl ⟨by decide, by omega, fun hc => by unfold hx_FC at hc; omega⟩)⟩⟩, hT, hM⟩ dX10_file_75
  · skip
    refine lv_aload_n hx hb dX10_file_9 rfl (lv_at hl 0 rfl) ?_
    refine lv_iload_n hx hb dX10_file_10 rfl (lv_at hl 1 rfl) ?_
    refine hx_goi (hx_runV (As := [.int i1]) (rest := []) ⟨hx, hb, hml, hown, hts⟩ hW gx tt_10 (T := TX10) (N := 98) rfl (t_X10_isPerson l dC dI dA L h s.heap.size x i1 hT gx pn0 f_x_20) (cwV 1 hts (hx_gV kw_1552 kw_1549 kw_1551 kw_68 kw_103) rfl rfl rfl (by decide +kernel) ⟨Nat.le_of_ble_eq_true rfl, Nat.le_of_ble_eq_true rfl⟩) rfl hl.1 rfl (Nat.le_of_ble_eq_true rfl) dX10_file_11 ⟨Nat.le_of_ble_eq_true rfl, Nat.le_of_ble_eq_true rfl⟩) hW (fun r_4 L_2 h_3 H locs p_5 hW => ?_)
    obtain ⟨hr_6, hT, hs⟩ := p_5
    have hT : hx_T T_tb L_2 h_3 := hT
    have hs : hx_S T_tb [] L h L_2 h_3 := hs
    have f_x_47 := (hs.o gx trivial rfl).2.trans f_x_47
    have f_x_44 := (hs.o gx trivial rfl).2.trans f_x_44
    have f_x_27 := (hs.o gx trivial rfl).2.trans f_x_27
    have f_x_1 := (hs.o gx trivial rfl).1.trans f_x_1
    have f_x_36 := (hs.o gx trivial rfl).1.trans f_x_36
    have f_x_57 := (hs.o gx trivial rfl).1.trans f_x_57
    have f_x_20 := (hs.o gx trivial rfl).1.trans f_x_20
    have f_x_0 := (hs.o gx trivial rfl).1.trans f_x_0
    have af_qh : h_3.2.1 qh = hf := (funext fun j => (hs.a gqh rfl j).1).trans af_qh
    have af_qc : h_3.2.1 qc = plf := (funext fun j => (hs.a gqc rfl j).1).trans af_qc
    have af_qd : h_3.2.1 qd = df := (funext fun j => (hs.a gqd rfl j).1).trans af_qd
    have hM := hM.tr (hs.mono (by decide))
    have gx := gx.S hs
    have gqh := gqh.S hs
    have gqc := gqc.S hs
    have gqd := gqd.S hs
    refine hb_if_eq (zx := r_4.toInt) (tgt := 74) hx hb rfl dX10_file_14 (by decide) (fun c_7 => ?_) (fun c_7 => ?_)
    · skip
      refine lv_iconst (v := -1) hx hb dX10_file_74 (by decide) ?_
      exact hx_reti hx hb hr hlk hW ⟨⟨c0, hf, plf, f_x_36, af_qh, af_qc, ⟨hHC, hPL, (Or.inl ⟨by decide, by omega, fun hc => by unfold hx_FC at hc; omega⟩)⟩⟩, hT, hM⟩ dX10_file_75
    · skip
      refine lv_aload_n hx hb dX10_file_17 rfl (lv_at hl 0 rfl) ?_
      refine lv_iload_n hx hb dX10_file_18 rfl (lv_at hl 2 rfl) ?_
      refine hx_goi (hx_runV (As := [.int i2]) (rest := []) ⟨hx, hb, hml, hown, hts⟩ hW gx tt_10 (T := TX10) (N := 98) rfl (t_X10_isPerson l dC dI dA L_2 h_3 H.size x i2 hT gx pn0 f_x_20) (cwV 1 hts (hx_gV kw_1552 kw_1549 kw_1551 kw_68 kw_103) rfl rfl rfl (by decide +kernel) ⟨Nat.le_of_ble_eq_true rfl, Nat.le_of_ble_eq_true rfl⟩) rfl hl.1 rfl (Nat.le_of_ble_eq_true rfl) dX10_file_19 ⟨Nat.le_of_ble_eq_true rfl, Nat.le_of_ble_eq_true rfl⟩) hW (fun r_10 L_8 h_9 H locs p_11 hW => ?_)
      obtain ⟨hr_12, hT, hs⟩ := p_11
      have hT : hx_T T_tb L_8 h_9 := hT
      have hs : hx_S T_tb [] L_2 h_3 L_8 h_9 := hs
      have f_x_47 := (hs.o gx trivial rfl).2.trans f_x_47
      have f_x_44 := (hs.o gx trivial rfl).2.trans f_x_44
      have f_x_27 := (hs.o gx trivial rfl).2.trans f_x_27
      have f_x_1 := (hs.o gx trivial rfl).1.trans f_x_1
      have f_x_36 := (hs.o gx trivial rfl).1.trans f_x_36
      have f_x_57 := (hs.o gx trivial rfl).1.trans f_x_57
      have f_x_20 := (hs.o gx trivial rfl).1.trans f_x_20
      have f_x_0 := (hs.o gx trivial rfl).1.trans f_x_0
      have af_qh : h_9.2.1 qh = hf := (funext fun j => (hs.a gqh rfl j).1).trans af_qh
      have af_qc : h_9.2.1 qc = plf := (funext fun j => (hs.a gqc rfl j).1).trans af_qc
      have af_qd : h_9.2.1 qd = df := (funext fun j => (hs.a gqd rfl j).1).trans af_qd
      have hM := hM.tr (hs.mono (by decide))
      have gx := gx.S hs
      have gqh := gqh.S hs
      have gqc := gqc.S hs
      have gqd := gqd.S hs
      refine hb_if_eq (zx := r_10.toInt) (tgt := 74) hx hb rfl dX10_file_22 (by decide) (fun c_13 => ?_) (fun c_13 => ?_)
      · skip
        refine lv_iconst (v := -1) hx hb dX10_file_74 (by decide) ?_
        exact hx_reti hx hb hr hlk hW ⟨⟨c0, hf, plf, f_x_36, af_qh, af_qc, ⟨hHC, hPL, (Or.inl ⟨by decide, by omega, fun hc => by unfold hx_FC at hc; omega⟩)⟩⟩, hT, hM⟩ dX10_file_75
      · skip
        refine lv_iload_n hx hb dX10_file_25 rfl (lv_at hl 1 rfl) ?_
        refine lv_iload_n hx hb dX10_file_26 rfl (lv_at hl 2 rfl) ?_
        refine hb_icmp_eq (zx := i1.toInt) (zy := i2.toInt) (tgt := 74) hx hb rfl rfl dX10_file_27 (by decide) (fun c_14 => ?_) (fun c_14 => ?_)
        · skip
          refine lv_iconst (v := -1) hx hb dX10_file_74 (by decide) ?_
          exact hx_reti hx hb hr hlk hW ⟨⟨c0, hf, plf, f_x_36, af_qh, af_qc, ⟨hHC, hPL, (Or.inl ⟨by decide, by omega, fun hc => by unfold hx_FC at hc; omega⟩)⟩⟩, hT, hM⟩ dX10_file_75
        · skip
          refine lv_aload_n hx hb dX10_file_30 rfl (lv_at hl 0 rfl) ?_
          refine hk_getr hx hb hts hC_10 hown hW gx tt_10 27 (by decide) rfl kw_1170 ⟨rfl, rfl, rfl⟩ f_x_27 dX10_file_31 ?_
          refine lv_iload_n hx hb dX10_file_34 rfl (lv_at hl 2 rfl) ?_
          refine hx_zald hx hb hW hT gqd tt_64 rfl ⟨by omega, by omega⟩ dX10_file_35 (fun x_15 ex_15 lx_15 ux_15 => ?_)
          have ax_15 : x_15 = df i2.toNatClampNeg := ex_15.trans (congrFun af_qd _)
          refine hb_if_ne (zx := x_15.toInt) (tgt := 74) hx hb rfl dX10_file_36 (by decide) (fun c_16 => ?_) (fun c_16 => ?_)
          · skip
            refine lv_iconst (v := -1) hx hb dX10_file_74 (by decide) ?_
            exact hx_reti hx hb hr hlk hW ⟨⟨c0, hf, plf, f_x_36, af_qh, af_qc, ⟨hHC, hPL, (Or.inl ⟨by decide, by omega, fun hc => by unfold hx_FC at hc; have h1 : (df i2.toNatClampNeg).toInt = 0 := hc.2.2.2.2.1; rw [← ax_15] at h1; omega⟩)⟩⟩, hT, hM⟩ dX10_file_75
          · skip
            refine lv_iload_n hx hb dX10_file_39 rfl (lv_at hl 3 rfl) ?_
            refine lv_iconst (v := 1) hx hb dX10_file_40 (by decide) ?_
            refine lv_sipush (v := 9999) hx hb dX10_file_41 (by decide) ?_
            have zc_9999 : (9999 : Int32).toInt = 9999 := by decide
            have zc_1 : (1 : Int32).toInt = 1 := by decide
            refine hx_goi (hx_runS (As := [.int i3, .int (1 : Int32), .int (9999 : Int32)]) (rest := []) ⟨hx, hb, hml, hown, hts⟩ hW (t_X10_in l dC dI dA L_8 h_9 H.size i3 (1 : Int32) (9999 : Int32) hT) (va_cwS 3 hts (hx_gS kw_1445 kw_1443 kw_1444 kw_103) rfl rfl rfl (by decide +kernel) ⟨Nat.le_of_ble_eq_true rfl, Nat.le_of_ble_eq_true rfl⟩) rfl hl.1 rfl (Nat.le_of_ble_eq_true rfl) dX10_file_44 ⟨Nat.le_of_ble_eq_true rfl, Nat.le_of_ble_eq_true rfl⟩) hW (fun r_19 L_17 h_18 H locs p_20 hW => ?_)
            obtain ⟨hr_21, hT, hs⟩ := p_20
            have hT : hx_T T_tb L_17 h_18 := hT
            have hs : hx_S T_tb [] L_8 h_9 L_17 h_18 := hs
            have f_x_47 := (hs.o gx trivial rfl).2.trans f_x_47
            have f_x_44 := (hs.o gx trivial rfl).2.trans f_x_44
            have f_x_27 := (hs.o gx trivial rfl).2.trans f_x_27
            have f_x_1 := (hs.o gx trivial rfl).1.trans f_x_1
            have f_x_36 := (hs.o gx trivial rfl).1.trans f_x_36
            have f_x_57 := (hs.o gx trivial rfl).1.trans f_x_57
            have f_x_20 := (hs.o gx trivial rfl).1.trans f_x_20
            have f_x_0 := (hs.o gx trivial rfl).1.trans f_x_0
            have af_qh : h_18.2.1 qh = hf := (funext fun j => (hs.a gqh rfl j).1).trans af_qh
            have af_qc : h_18.2.1 qc = plf := (funext fun j => (hs.a gqc rfl j).1).trans af_qc
            have af_qd : h_18.2.1 qd = df := (funext fun j => (hs.a gqd rfl j).1).trans af_qd
            have ex_15 := ex_15.trans (hs.a gqd rfl _).1.symm
            have hM := hM.tr (hs.mono (by decide))
            have gx := gx.S hs
            have gqh := gqh.S hs
            have gqc := gqc.S hs
            have gqd := gqd.S hs
            refine hb_if_eq (zx := r_19.toInt) (tgt := 74) hx hb rfl dX10_file_47 (by decide) (fun c_22 => ?_) (fun c_22 => ?_)
            · skip
              refine lv_iconst (v := -1) hx hb dX10_file_74 (by decide) ?_
              exact hx_reti hx hb hr hlk hW ⟨⟨c0, hf, plf, f_x_36, af_qh, af_qc, ⟨hHC, hPL, (Or.inl ⟨by decide, by omega, fun hc => by unfold hx_FC at hc; have h1 : (df i2.toNatClampNeg).toInt = 0 := hc.2.2.2.2.1; rw [← ax_15] at h1; omega⟩)⟩⟩, hT, hM⟩ dX10_file_75
            · skip
              refine lv_iload hx hb dX10_file_50 (lv_at hl 4 rfl) ?_
              refine lv_iconst (v := 0) hx hb dX10_file_52 (by decide) ?_
              refine lv_aload_n hx hb dX10_file_53 rfl (lv_at hl 0 rfl) ?_
              refine hk_geti hx hb hts hC_10 hown hW gx tt_10 0 (by decide) rfl kw_1143 ⟨rfl, rfl, rfl⟩ f_x_0 dX10_file_54 ?_
              have zc_0 : (0 : Int32).toInt = 0 := by decide
              refine hx_goi (hx_runS (As := [.int i4, .int (0 : Int32), .int nw0]) (rest := []) ⟨hx, hb, hml, hown, hts⟩ hW (t_X10_in l dC dI dA L_17 h_18 H.size i4 (0 : Int32) nw0 hT) (va_cwS 3 hts (hx_gS kw_1445 kw_1443 kw_1444 kw_103) rfl rfl rfl (by decide +kernel) ⟨Nat.le_of_ble_eq_true rfl, Nat.le_of_ble_eq_true rfl⟩) rfl hl.1 rfl (Nat.le_of_ble_eq_true rfl) dX10_file_57 ⟨Nat.le_of_ble_eq_true rfl, Nat.le_of_ble_eq_true rfl⟩) hW (fun r_25 L_23 h_24 H locs p_26 hW => ?_)
              obtain ⟨hr_27, hT, hs⟩ := p_26
              have hT : hx_T T_tb L_23 h_24 := hT
              have hs : hx_S T_tb [] L_17 h_18 L_23 h_24 := hs
              have f_x_47 := (hs.o gx trivial rfl).2.trans f_x_47
              have f_x_44 := (hs.o gx trivial rfl).2.trans f_x_44
              have f_x_27 := (hs.o gx trivial rfl).2.trans f_x_27
              have f_x_1 := (hs.o gx trivial rfl).1.trans f_x_1
              have f_x_36 := (hs.o gx trivial rfl).1.trans f_x_36
              have f_x_57 := (hs.o gx trivial rfl).1.trans f_x_57
              have f_x_20 := (hs.o gx trivial rfl).1.trans f_x_20
              have f_x_0 := (hs.o gx trivial rfl).1.trans f_x_0
              have af_qh : h_24.2.1 qh = hf := (funext fun j => (hs.a gqh rfl j).1).trans af_qh
              have af_qc : h_24.2.1 qc = plf := (funext fun j => (hs.a gqc rfl j).1).trans af_qc
              have af_qd : h_24.2.1 qd = df := (funext fun j => (hs.a gqd rfl j).1).trans af_qd
              have ex_15 := ex_15.trans (hs.a gqd rfl _).1.symm
              have hM := hM.tr (hs.mono (by decide))
              have gx := gx.S hs
              have gqh := gqh.S hs
              have gqc := gqc.S hs
              have gqd := gqd.S hs
              refine hb_if_eq (zx := r_25.toInt) (tgt := 74) hx hb rfl dX10_file_60 (by decide) (fun c_28 => ?_) (fun c_28 => ?_)
              · skip
                refine lv_iconst (v := -1) hx hb dX10_file_74 (by decide) ?_
                exact hx_reti hx hb hr hlk hW ⟨⟨c0, hf, plf, f_x_36, af_qh, af_qc, ⟨hHC, hPL, (Or.inl ⟨by decide, by omega, fun hc => by unfold hx_FC at hc; have h1 : (df i2.toNatClampNeg).toInt = 0 := hc.2.2.2.2.1; rw [← ax_15] at h1; omega⟩)⟩⟩, hT, hM⟩ dX10_file_75
              · skip
                refine lv_iload hx hb dX10_file_63 (lv_at hl 6 rfl) ?_
                refine lv_iconst (v := 0) hx hb dX10_file_65 (by decide) ?_
                refine lv_bipush (v := 9) hx hb dX10_file_66 (by decide) ?_
                have zc_9 : (9 : Int32).toInt = 9 := by decide
                refine hx_goi (hx_runS (As := [.int i6, .int (0 : Int32), .int (9 : Int32)]) (rest := []) ⟨hx, hb, hml, hown, hts⟩ hW (t_X10_in l dC dI dA L_23 h_24 H.size i6 (0 : Int32) (9 : Int32) hT) (va_cwS 3 hts (hx_gS kw_1445 kw_1443 kw_1444 kw_103) rfl rfl rfl (by decide +kernel) ⟨Nat.le_of_ble_eq_true rfl, Nat.le_of_ble_eq_true rfl⟩) rfl hl.1 rfl (Nat.le_of_ble_eq_true rfl) dX10_file_68 ⟨Nat.le_of_ble_eq_true rfl, Nat.le_of_ble_eq_true rfl⟩) hW (fun r_31 L_29 h_30 H locs p_32 hW => ?_)
                obtain ⟨hr_33, hT, hs⟩ := p_32
                have hT : hx_T T_tb L_29 h_30 := hT
                have hs : hx_S T_tb [] L_23 h_24 L_29 h_30 := hs
                have f_x_47 := (hs.o gx trivial rfl).2.trans f_x_47
                have f_x_44 := (hs.o gx trivial rfl).2.trans f_x_44
                have f_x_27 := (hs.o gx trivial rfl).2.trans f_x_27
                have f_x_1 := (hs.o gx trivial rfl).1.trans f_x_1
                have f_x_36 := (hs.o gx trivial rfl).1.trans f_x_36
                have f_x_57 := (hs.o gx trivial rfl).1.trans f_x_57
                have f_x_20 := (hs.o gx trivial rfl).1.trans f_x_20
                have f_x_0 := (hs.o gx trivial rfl).1.trans f_x_0
                have af_qh : h_30.2.1 qh = hf := (funext fun j => (hs.a gqh rfl j).1).trans af_qh
                have af_qc : h_30.2.1 qc = plf := (funext fun j => (hs.a gqc rfl j).1).trans af_qc
                have af_qd : h_30.2.1 qd = df := (funext fun j => (hs.a gqd rfl j).1).trans af_qd
                have ex_15 := ex_15.trans (hs.a gqd rfl _).1.symm
                have hM := hM.tr (hs.mono (by decide))
                have gx := gx.S hs
                have gqh := gqh.S hs
                have gqc := gqc.S hs
                have gqd := gqd.S hs
                refine hb_if_ne (zx := r_31.toInt) (tgt := 76) hx hb rfl dX10_file_71 (by decide) (fun c_34 => ?_) (fun c_34 => ?_)
                · skip
                  refine lv_aload_n hx hb dX10_file_76 rfl (lv_at hl 0 rfl) ?_
                  refine hk_geti hx hb hts hC_10 hown hW gx tt_10 36 (by decide) rfl kw_1179 ⟨rfl, rfl, rfl⟩ f_x_36 dX10_file_77 ?_
                  refine lv_istore (lv' := [(7, .int c0), (0, .ref x), (1, .int i1), (2, .int i2), (3, .int i3), (4, .int i4), (5, .int i5), (6, .int i6)]) hx hb dX10_file_80 hl (by decide) rfl (fun ls hl => ?_)
                  refine lv_aload_n hx hb dX10_file_82 rfl (lv_at hl 1 rfl) ?_
                  refine hx_getn hx hb hts hC_10 hown hW hT gx tt_10 37 (by decide) rfl kw_1180 ⟨rfl, rfl, rfl⟩ dX10_file_83 (fun q_35 fq_35 gq_35 => ?_)
                  refine lv_iload hx hb dX10_file_86 (lv_at hl 0 rfl) ?_
                  refine lv_iload_n hx hb dX10_file_88 rfl (lv_at hl 2 rfl) ?_
                  refine hx_iast hx hb hW hT (hx_S.rf (M := [(72, 0)])) gq_35 tt_72 rfl ⟨by omega, by omega⟩ rfl ⟨by omega, by omega⟩ (List.mem_singleton.mpr rfl) dX10_file_89 (fun H locs h_36 eh_36 hW hT hs => ?_)
                  have f_x_47 := (hs.o gx trivial rfl).2.trans f_x_47
                  have f_x_44 := (hs.o gx trivial rfl).2.trans f_x_44
                  have f_x_27 := (hs.o gx trivial rfl).2.trans f_x_27
                  have f_x_1 := (hs.o gx trivial rfl).1.trans f_x_1
                  have f_x_36 := (hs.o gx trivial rfl).1.trans f_x_36
                  have f_x_57 := (hs.o gx trivial rfl).1.trans f_x_57
                  have f_x_20 := (hs.o gx trivial rfl).1.trans f_x_20
                  have f_x_0 := (hs.o gx trivial rfl).1.trans f_x_0
                  have fq_35 := (hs.o gx trivial rfl).2.trans fq_35
                  have af_qh : h_36.2.1 qh = hf := (funext fun j => (hs.a gqh rfl j).1).trans af_qh
                  have af_qc : h_36.2.1 qc = plf := (funext fun j => (hs.a gqc rfl j).1).trans af_qc
                  have af_qd : h_36.2.1 qd = df := (funext fun j => (hs.a gqd rfl j).1).trans af_qd
                  have ex_15 := ex_15.trans (hs.a gqd rfl _).1.symm
                  have hM := hM.tr (hs.mono (by decide))
                  have gx := gx.S hs
                  have gqh := gqh.S hs
                  have gqc := gqc.S hs
                  have gqd := gqd.S hs
                  have gq_35 := gq_35.S hs
                  refine lv_aload_n hx hb dX10_file_90 rfl (lv_at hl 1 rfl) ?_
                  refine hx_getn hx hb hts hC_10 hown hW hT gx tt_10 38 (by decide) rfl kw_1181 ⟨rfl, rfl, rfl⟩ dX10_file_91 (fun q_37 fq_37 gq_37 => ?_)
                  refine lv_iload hx hb dX10_file_94 (lv_at hl 0 rfl) ?_
                  refine lv_iload_n hx hb dX10_file_96 rfl (lv_at hl 3 rfl) ?_
                  refine hx_iast hx hb hW hT (hx_S.rf (M := [(73, 0)])) gq_37 tt_73 rfl ⟨by omega, by omega⟩ rfl ⟨by omega, by omega⟩ (List.mem_singleton.mpr rfl) dX10_file_97 (fun H locs h_38 eh_38 hW hT hs => ?_)
                  have f_x_47 := (hs.o gx trivial rfl).2.trans f_x_47
                  have f_x_44 := (hs.o gx trivial rfl).2.trans f_x_44
                  have f_x_27 := (hs.o gx trivial rfl).2.trans f_x_27
                  have f_x_1 := (hs.o gx trivial rfl).1.trans f_x_1
                  have f_x_36 := (hs.o gx trivial rfl).1.trans f_x_36
                  have f_x_57 := (hs.o gx trivial rfl).1.trans f_x_57
                  have f_x_20 := (hs.o gx trivial rfl).1.trans f_x_20
                  have f_x_0 := (hs.o gx trivial rfl).1.trans f_x_0
                  have fq_35 := (hs.o gx trivial rfl).2.trans fq_35
                  have fq_37 := (hs.o gx trivial rfl).2.trans fq_37
                  have af_qh : h_38.2.1 qh = hf := (funext fun j => (hs.a gqh rfl j).1).trans af_qh
                  have af_qc : h_38.2.1 qc = plf := (funext fun j => (hs.a gqc rfl j).1).trans af_qc
                  have af_qd : h_38.2.1 qd = df := (funext fun j => (hs.a gqd rfl j).1).trans af_qd
                  have ex_15 := ex_15.trans (hs.a gqd rfl _).1.symm
                  have hM := hM.tr (hs.mono (by decide))
                  have gx := gx.S hs
                  have gqh := gqh.S hs
                  have gqc := gqc.S hs
                  have gqd := gqd.S hs
                  have gq_35 := gq_35.S hs
                  have gq_37 := gq_37.S hs
                  refine lv_aload_n hx hb dX10_file_98 rfl (lv_at hl 1 rfl) ?_
                  refine hx_getn hx hb hts hC_10 hown hW hT gx tt_10 39 (by decide) rfl kw_1182 ⟨rfl, rfl, rfl⟩ dX10_file_99 (fun q_39 fq_39 gq_39 => ?_)
                  refine lv_iload hx hb dX10_file_102 (lv_at hl 0 rfl) ?_
                  refine lv_iload_n hx hb dX10_file_104 rfl (lv_at hl 4 rfl) ?_
                  refine hx_iast hx hb hW hT (hx_S.rf (M := [(74, 0)])) gq_39 tt_74 rfl ⟨by omega, by omega⟩ rfl ⟨by omega, by omega⟩ (List.mem_singleton.mpr rfl) dX10_file_105 (fun H locs h_40 eh_40 hW hT hs => ?_)
                  have f_x_47 := (hs.o gx trivial rfl).2.trans f_x_47
                  have f_x_44 := (hs.o gx trivial rfl).2.trans f_x_44
                  have f_x_27 := (hs.o gx trivial rfl).2.trans f_x_27
                  have f_x_1 := (hs.o gx trivial rfl).1.trans f_x_1
                  have f_x_36 := (hs.o gx trivial rfl).1.trans f_x_36
                  have f_x_57 := (hs.o gx trivial rfl).1.trans f_x_57
                  have f_x_20 := (hs.o gx trivial rfl).1.trans f_x_20
                  have f_x_0 := (hs.o gx trivial rfl).1.trans f_x_0
                  have fq_35 := (hs.o gx trivial rfl).2.trans fq_35
                  have fq_37 := (hs.o gx trivial rfl).2.trans fq_37
                  have fq_39 := (hs.o gx trivial rfl).2.trans fq_39
                  have af_qh : h_40.2.1 qh = hf := (funext fun j => (hs.a gqh rfl j).1).trans af_qh
                  have af_qc : h_40.2.1 qc = plf := (funext fun j => (hs.a gqc rfl j).1).trans af_qc
                  have af_qd : h_40.2.1 qd = df := (funext fun j => (hs.a gqd rfl j).1).trans af_qd
                  have ex_15 := ex_15.trans (hs.a gqd rfl _).1.symm
                  have hM := hM.tr (hs.mono (by decide))
                  have gx := gx.S hs
                  have gqh := gqh.S hs
                  have gqc := gqc.S hs
                  have gqd := gqd.S hs
                  have gq_35 := gq_35.S hs
                  have gq_37 := gq_37.S hs
                  have gq_39 := gq_39.S hs
                  refine lv_aload_n hx hb dX10_file_106 rfl (lv_at hl 1 rfl) ?_
                  refine hx_getn hx hb hts hC_10 hown hW hT gx tt_10 40 (by decide) rfl kw_1183 ⟨rfl, rfl, rfl⟩ dX10_file_107 (fun q_41 fq_41 gq_41 => ?_)
                  refine lv_iload hx hb dX10_file_110 (lv_at hl 0 rfl) ?_
                  refine lv_iload hx hb dX10_file_112 (lv_at hl 5 rfl) ?_
                  refine hx_iast hx hb hW hT (hx_S.rf (M := [(75, 0)])) gq_41 tt_75 rfl ⟨by omega, by omega⟩ rfl (i32_r _) (List.mem_singleton.mpr rfl) dX10_file_114 (fun H locs h_42 eh_42 hW hT hs => ?_)
                  have f_x_47 := (hs.o gx trivial rfl).2.trans f_x_47
                  have f_x_44 := (hs.o gx trivial rfl).2.trans f_x_44
                  have f_x_27 := (hs.o gx trivial rfl).2.trans f_x_27
                  have f_x_1 := (hs.o gx trivial rfl).1.trans f_x_1
                  have f_x_36 := (hs.o gx trivial rfl).1.trans f_x_36
                  have f_x_57 := (hs.o gx trivial rfl).1.trans f_x_57
                  have f_x_20 := (hs.o gx trivial rfl).1.trans f_x_20
                  have f_x_0 := (hs.o gx trivial rfl).1.trans f_x_0
                  have fq_35 := (hs.o gx trivial rfl).2.trans fq_35
                  have fq_37 := (hs.o gx trivial rfl).2.trans fq_37
                  have fq_39 := (hs.o gx trivial rfl).2.trans fq_39
                  have fq_41 := (hs.o gx trivial rfl).2.trans fq_41
                  have af_qh : h_42.2.1 qh = hf := (funext fun j => (hs.a gqh rfl j).1).trans af_qh
                  have af_qc : h_42.2.1 qc = plf := (funext fun j => (hs.a gqc rfl j).1).trans af_qc
                  have af_qd : h_42.2.1 qd = df := (funext fun j => (hs.a gqd rfl j).1).trans af_qd
                  have ex_15 := ex_15.trans (hs.a gqd rfl _).1.symm
                  have hM := hM.tr (hs.mono (by decide))
                  have gx := gx.S hs
                  have gqh := gqh.S hs
                  have gqc := gqc.S hs
                  have gqd := gqd.S hs
                  have gq_35 := gq_35.S hs
                  have gq_37 := gq_37.S hs
                  have gq_39 := gq_39.S hs
                  have gq_41 := gq_41.S hs
                  refine lv_aload_n hx hb dX10_file_115 rfl (lv_at hl 1 rfl) ?_
                  refine hx_getn hx hb hts hC_10 hown hW hT gx tt_10 41 (by decide) rfl kw_1184 ⟨rfl, rfl, rfl⟩ dX10_file_116 (fun q_43 fq_43 gq_43 => ?_)
                  refine lv_iload hx hb dX10_file_119 (lv_at hl 0 rfl) ?_
                  refine lv_iload hx hb dX10_file_121 (lv_at hl 6 rfl) ?_
                  refine hx_zast hx hb hW hT (hx_S.rf (M := [(76, 0)])) gq_43 tt_76 rfl ⟨by omega, by omega⟩ (y := _) rfl (hx_nz _) (List.mem_singleton.mpr rfl) dX10_file_123 (fun H locs h_44 eh_44 hW hT hs => ?_)
                  have f_x_47 := (hs.o gx trivial rfl).2.trans f_x_47
                  have f_x_44 := (hs.o gx trivial rfl).2.trans f_x_44
                  have f_x_27 := (hs.o gx trivial rfl).2.trans f_x_27
                  have f_x_1 := (hs.o gx trivial rfl).1.trans f_x_1
                  have f_x_36 := (hs.o gx trivial rfl).1.trans f_x_36
                  have f_x_57 := (hs.o gx trivial rfl).1.trans f_x_57
                  have f_x_20 := (hs.o gx trivial rfl).1.trans f_x_20
                  have f_x_0 := (hs.o gx trivial rfl).1.trans f_x_0
                  have fq_35 := (hs.o gx trivial rfl).2.trans fq_35
                  have fq_37 := (hs.o gx trivial rfl).2.trans fq_37
                  have fq_39 := (hs.o gx trivial rfl).2.trans fq_39
                  have fq_41 := (hs.o gx trivial rfl).2.trans fq_41
                  have fq_43 := (hs.o gx trivial rfl).2.trans fq_43
                  have af_qh : h_44.2.1 qh = hf := (funext fun j => (hs.a gqh rfl j).1).trans af_qh
                  have af_qc : h_44.2.1 qc = plf := (funext fun j => (hs.a gqc rfl j).1).trans af_qc
                  have af_qd : h_44.2.1 qd = df := (funext fun j => (hs.a gqd rfl j).1).trans af_qd
                  have ex_15 := ex_15.trans (hs.a gqd rfl _).1.symm
                  have hM := hM.tr (hs.mono (by decide))
                  have gx := gx.S hs
                  have gqh := gqh.S hs
                  have gqc := gqc.S hs
                  have gqd := gqd.S hs
                  have gq_35 := gq_35.S hs
                  have gq_37 := gq_37.S hs
                  have gq_39 := gq_39.S hs
                  have gq_41 := gq_41.S hs
                  have gq_43 := gq_43.S hs
                  refine lv_aload_n hx hb dX10_file_124 rfl (lv_at hl 1 rfl) ?_
                  refine hx_getn hx hb hts hC_10 hown hW hT gx tt_10 42 (by decide) rfl kw_1185 ⟨rfl, rfl, rfl⟩ dX10_file_125 (fun q_45 fq_45 gq_45 => ?_)
                  refine lv_iload hx hb dX10_file_128 (lv_at hl 0 rfl) ?_
                  refine lv_iload hx hb dX10_file_130 (lv_at hl 7 rfl) ?_
                  refine hx_iast hx hb hW hT (hx_S.rf (M := [(77, 0)])) gq_45 tt_77 rfl ⟨by omega, by omega⟩ rfl (i32_r _) (List.mem_singleton.mpr rfl) dX10_file_132 (fun H locs h_46 eh_46 hW hT hs => ?_)
                  have f_x_47 := (hs.o gx trivial rfl).2.trans f_x_47
                  have f_x_44 := (hs.o gx trivial rfl).2.trans f_x_44
                  have f_x_27 := (hs.o gx trivial rfl).2.trans f_x_27
                  have f_x_1 := (hs.o gx trivial rfl).1.trans f_x_1
                  have f_x_36 := (hs.o gx trivial rfl).1.trans f_x_36
                  have f_x_57 := (hs.o gx trivial rfl).1.trans f_x_57
                  have f_x_20 := (hs.o gx trivial rfl).1.trans f_x_20
                  have f_x_0 := (hs.o gx trivial rfl).1.trans f_x_0
                  have fq_35 := (hs.o gx trivial rfl).2.trans fq_35
                  have fq_37 := (hs.o gx trivial rfl).2.trans fq_37
                  have fq_39 := (hs.o gx trivial rfl).2.trans fq_39
                  have fq_41 := (hs.o gx trivial rfl).2.trans fq_41
                  have fq_43 := (hs.o gx trivial rfl).2.trans fq_43
                  have fq_45 := (hs.o gx trivial rfl).2.trans fq_45
                  have af_qh : h_46.2.1 qh = hf := (funext fun j => (hs.a gqh rfl j).1).trans af_qh
                  have af_qc : h_46.2.1 qc = plf := (funext fun j => (hs.a gqc rfl j).1).trans af_qc
                  have af_qd : h_46.2.1 qd = df := (funext fun j => (hs.a gqd rfl j).1).trans af_qd
                  have ex_15 := ex_15.trans (hs.a gqd rfl _).1.symm
                  have hM := hM.tr (hs.mono (by decide))
                  have gx := gx.S hs
                  have gqh := gqh.S hs
                  have gqc := gqc.S hs
                  have gqd := gqd.S hs
                  have gq_35 := gq_35.S hs
                  have gq_37 := gq_37.S hs
                  have gq_39 := gq_39.S hs
                  have gq_41 := gq_41.S hs
                  have gq_43 := gq_43.S hs
                  have gq_45 := gq_45.S hs
                  refine lv_aload_n hx hb dX10_file_133 rfl (lv_at hl 1 rfl) ?_
                  refine hx_getn hx hb hts hC_10 hown hW hT gx tt_10 43 (by decide) rfl kw_1186 ⟨rfl, rfl, rfl⟩ dX10_file_134 (fun q_47 fq_47 gq_47 => ?_)
                  refine lv_iload hx hb dX10_file_137 (lv_at hl 0 rfl) ?_
                  refine lv_aload_n hx hb dX10_file_139 rfl (lv_at hl 1 rfl) ?_
                  refine hk_geti hx hb hts hC_10 hown hW gx tt_10 0 (by decide) rfl kw_1143 ⟨rfl, rfl, rfl⟩ f_x_0 dX10_file_140 ?_
                  refine hx_iast hx hb hW hT (hx_S.rf (M := [(78, 0)])) gq_47 tt_78 rfl ⟨by omega, by omega⟩ rfl ⟨by omega, by omega⟩ (List.mem_singleton.mpr rfl) dX10_file_143 (fun H locs h_48 eh_48 hW hT hs => ?_)
                  have f_x_47 := (hs.o gx trivial rfl).2.trans f_x_47
                  have f_x_44 := (hs.o gx trivial rfl).2.trans f_x_44
                  have f_x_27 := (hs.o gx trivial rfl).2.trans f_x_27
                  have f_x_1 := (hs.o gx trivial rfl).1.trans f_x_1
                  have f_x_36 := (hs.o gx trivial rfl).1.trans f_x_36
                  have f_x_57 := (hs.o gx trivial rfl).1.trans f_x_57
                  have f_x_20 := (hs.o gx trivial rfl).1.trans f_x_20
                  have f_x_0 := (hs.o gx trivial rfl).1.trans f_x_0
                  have fq_35 := (hs.o gx trivial rfl).2.trans fq_35
                  have fq_37 := (hs.o gx trivial rfl).2.trans fq_37
                  have fq_39 := (hs.o gx trivial rfl).2.trans fq_39
                  have fq_41 := (hs.o gx trivial rfl).2.trans fq_41
                  have fq_43 := (hs.o gx trivial rfl).2.trans fq_43
                  have fq_45 := (hs.o gx trivial rfl).2.trans fq_45
                  have fq_47 := (hs.o gx trivial rfl).2.trans fq_47
                  have af_qh : h_48.2.1 qh = hf := (funext fun j => (hs.a gqh rfl j).1).trans af_qh
                  have af_qc : h_48.2.1 qc = plf := (funext fun j => (hs.a gqc rfl j).1).trans af_qc
                  have af_qd : h_48.2.1 qd = df := (funext fun j => (hs.a gqd rfl j).1).trans af_qd
                  have ex_15 := ex_15.trans (hs.a gqd rfl _).1.symm
                  have hM := hM.tr (hs.mono (by decide))
                  have gx := gx.S hs
                  have gqh := gqh.S hs
                  have gqc := gqc.S hs
                  have gqd := gqd.S hs
                  have gq_35 := gq_35.S hs
                  have gq_37 := gq_37.S hs
                  have gq_39 := gq_39.S hs
                  have gq_41 := gq_41.S hs
                  have gq_43 := gq_43.S hs
                  have gq_45 := gq_45.S hs
                  have gq_47 := gq_47.S hs
                  refine lv_aload_n hx hb dX10_file_144 rfl (lv_at hl 1 rfl) ?_
                  refine hk_getr hx hb hts hC_10 hown hW gx tt_10 44 (by decide) rfl kw_1187 ⟨rfl, rfl, rfl⟩ f_x_44 dX10_file_145 ?_
                  refine lv_iload hx hb dX10_file_148 (lv_at hl 0 rfl) ?_
                  refine lv_aload_n hx hb dX10_file_150 rfl (lv_at hl 1 rfl) ?_
                  refine lv_aload_n hx hb dX10_file_151 rfl (lv_at hl 1 rfl) ?_
                  refine hk_geti hx hb hts hC_10 hown hW gx tt_10 0 (by decide) rfl kw_1143 ⟨rfl, rfl, rfl⟩ f_x_0 dX10_file_152 ?_
                  refine hx_goi (hx_runV (As := [.int nw0]) (rest := [.int c0, .ref qc]) ⟨hx, hb, hml, hown, hts⟩ hW gx tt_10 (T := TX10) (N := 98) rfl (t_X10_inForce l dC dI dA L_29 h_48 H.size x nw0 hT gx a0 f_x_1) (cwV 1 hts (hx_gV kw_1529 kw_1526 kw_1528 kw_65 kw_103) rfl rfl rfl (by decide +kernel) ⟨Nat.le_of_ble_eq_true rfl, Nat.le_of_ble_eq_true rfl⟩) rfl hl.1 rfl (Nat.le_of_ble_eq_true rfl) dX10_file_155 ⟨Nat.le_of_ble_eq_true rfl, Nat.le_of_ble_eq_true rfl⟩) hW (fun r_51 L_49 h_50 H locs p_52 hW => ?_)
                  obtain ⟨hr_53, hT, hs⟩ := p_52
                  have hT : hx_T T_tb L_49 h_50 := hT
                  have hs : hx_S T_tb [] L_29 h_48 L_49 h_50 := hs
                  have f_x_47 := (hs.o gx trivial rfl).2.trans f_x_47
                  have f_x_44 := (hs.o gx trivial rfl).2.trans f_x_44
                  have f_x_27 := (hs.o gx trivial rfl).2.trans f_x_27
                  have f_x_1 := (hs.o gx trivial rfl).1.trans f_x_1
                  have f_x_36 := (hs.o gx trivial rfl).1.trans f_x_36
                  have f_x_57 := (hs.o gx trivial rfl).1.trans f_x_57
                  have f_x_20 := (hs.o gx trivial rfl).1.trans f_x_20
                  have f_x_0 := (hs.o gx trivial rfl).1.trans f_x_0
                  have fq_35 := (hs.o gx trivial rfl).2.trans fq_35
                  have fq_37 := (hs.o gx trivial rfl).2.trans fq_37
                  have fq_39 := (hs.o gx trivial rfl).2.trans fq_39
                  have fq_41 := (hs.o gx trivial rfl).2.trans fq_41
                  have fq_43 := (hs.o gx trivial rfl).2.trans fq_43
                  have fq_45 := (hs.o gx trivial rfl).2.trans fq_45
                  have fq_47 := (hs.o gx trivial rfl).2.trans fq_47
                  have af_qh : h_50.2.1 qh = hf := (funext fun j => (hs.a gqh rfl j).1).trans af_qh
                  have af_qc : h_50.2.1 qc = plf := (funext fun j => (hs.a gqc rfl j).1).trans af_qc
                  have af_qd : h_50.2.1 qd = df := (funext fun j => (hs.a gqd rfl j).1).trans af_qd
                  have ex_15 := ex_15.trans (hs.a gqd rfl _).1.symm
                  have hM := hM.tr (hs.mono (by decide))
                  have gx := gx.S hs
                  have gqh := gqh.S hs
                  have gqc := gqc.S hs
                  have gqd := gqd.S hs
                  have gq_35 := gq_35.S hs
                  have gq_37 := gq_37.S hs
                  have gq_39 := gq_39.S hs
                  have gq_41 := gq_41.S hs
                  have gq_43 := gq_43.S hs
                  have gq_45 := gq_45.S hs
                  have gq_47 := gq_47.S hs
                  have af_qcO := af_qc
                  refine hx_iast hx hb hW hT (hx_S.rf (M := [(79, 0)])) gqc tt_79 rfl ⟨by omega, by omega⟩ rfl ⟨by omega, by omega⟩ (List.mem_singleton.mpr rfl) dX10_file_158 (fun H locs h_54 eh_54 hW hT hs => ?_)
                  have f_x_47 := (hs.o gx trivial rfl).2.trans f_x_47
                  have f_x_44 := (hs.o gx trivial rfl).2.trans f_x_44
                  have f_x_27 := (hs.o gx trivial rfl).2.trans f_x_27
                  have f_x_1 := (hs.o gx trivial rfl).1.trans f_x_1
                  have f_x_36 := (hs.o gx trivial rfl).1.trans f_x_36
                  have f_x_57 := (hs.o gx trivial rfl).1.trans f_x_57
                  have f_x_20 := (hs.o gx trivial rfl).1.trans f_x_20
                  have f_x_0 := (hs.o gx trivial rfl).1.trans f_x_0
                  have fq_35 := (hs.o gx trivial rfl).2.trans fq_35
                  have fq_37 := (hs.o gx trivial rfl).2.trans fq_37
                  have fq_39 := (hs.o gx trivial rfl).2.trans fq_39
                  have fq_41 := (hs.o gx trivial rfl).2.trans fq_41
                  have fq_43 := (hs.o gx trivial rfl).2.trans fq_43
                  have fq_45 := (hs.o gx trivial rfl).2.trans fq_45
                  have fq_47 := (hs.o gx trivial rfl).2.trans fq_47
                  have af_qh : h_54.2.1 qh = hf := (funext fun j => (hs.a gqh rfl j).1).trans af_qh
                  have af_qd : h_54.2.1 qd = df := (funext fun j => (hs.a gqd rfl j).1).trans af_qd
                  have ex_15 := ex_15.trans (hs.a gqd rfl _).1.symm
                  have hM := hM.tr (hs.mono (by decide))
                  have gx := gx.S hs
                  have gqh := gqh.S hs
                  have gqc := gqc.S hs
                  have gqd := gqd.S hs
                  have gq_35 := gq_35.S hs
                  have gq_37 := gq_37.S hs
                  have gq_39 := gq_39.S hs
                  have gq_41 := gq_41.S hs
                  have gq_43 := gq_43.S hs
                  have gq_45 := gq_45.S hs
                  have gq_47 := gq_47.S hs
                  obtain ⟨fa_55, dfa_55⟩ : ∃ g : Nat → Int32, g = hx_up plf c0.toNatClampNeg r_51 := ⟨_, rfl⟩
                  have nfa_55 : h_54.2.1 qc = fa_55 := by rw [eh_54, dfa_55, ← af_qcO]; exact hx_pi_fun _ _ _ _
                  refine lv_aload_n hx hb dX10_file_159 rfl (lv_at hl 1 rfl) ?_
                  refine hx_getn hx hb hts hC_10 hown hW hT gx tt_10 46 (by decide) rfl kw_1189 ⟨rfl, rfl, rfl⟩ dX10_file_160 (fun q_56 fq_56 gq_56 => ?_)
                  refine lv_iload hx hb dX10_file_163 (lv_at hl 0 rfl) ?_
                  refine lv_iconst (v := -1) hx hb dX10_file_165 (by decide) ?_
                  refine hx_iast hx hb hW hT (hx_S.rf (M := [(81, 0)])) gq_56 tt_81 rfl ⟨by omega, by omega⟩ rfl (by decide) (List.mem_singleton.mpr rfl) dX10_file_166 (fun H locs h_57 eh_57 hW hT hs => ?_)
                  have f_x_47 := (hs.o gx trivial rfl).2.trans f_x_47
                  have f_x_44 := (hs.o gx trivial rfl).2.trans f_x_44
                  have f_x_27 := (hs.o gx trivial rfl).2.trans f_x_27
                  have f_x_1 := (hs.o gx trivial rfl).1.trans f_x_1
                  have f_x_36 := (hs.o gx trivial rfl).1.trans f_x_36
                  have f_x_57 := (hs.o gx trivial rfl).1.trans f_x_57
                  have f_x_20 := (hs.o gx trivial rfl).1.trans f_x_20
                  have f_x_0 := (hs.o gx trivial rfl).1.trans f_x_0
                  have fq_35 := (hs.o gx trivial rfl).2.trans fq_35
                  have fq_37 := (hs.o gx trivial rfl).2.trans fq_37
                  have fq_39 := (hs.o gx trivial rfl).2.trans fq_39
                  have fq_41 := (hs.o gx trivial rfl).2.trans fq_41
                  have fq_43 := (hs.o gx trivial rfl).2.trans fq_43
                  have fq_45 := (hs.o gx trivial rfl).2.trans fq_45
                  have fq_47 := (hs.o gx trivial rfl).2.trans fq_47
                  have fq_56 := (hs.o gx trivial rfl).2.trans fq_56
                  have af_qh : h_57.2.1 qh = hf := (funext fun j => (hs.a gqh rfl j).1).trans af_qh
                  have af_qd : h_57.2.1 qd = df := (funext fun j => (hs.a gqd rfl j).1).trans af_qd
                  have nfa_55 : h_57.2.1 qc = fa_55 := (funext fun j => (hs.a gqc rfl j).1).trans nfa_55
                  have ex_15 := ex_15.trans (hs.a gqd rfl _).1.symm
                  have hM := hM.tr (hs.mono (by decide))
                  have gx := gx.S hs
                  have gqh := gqh.S hs
                  have gqc := gqc.S hs
                  have gqd := gqd.S hs
                  have gq_35 := gq_35.S hs
                  have gq_37 := gq_37.S hs
                  have gq_39 := gq_39.S hs
                  have gq_41 := gq_41.S hs
                  have gq_43 := gq_43.S hs
                  have gq_45 := gq_45.S hs
                  have gq_47 := gq_47.S hs
                  have gq_56 := gq_56.S hs
                  refine lv_aload_n hx hb dX10_file_167 rfl (lv_at hl 1 rfl) ?_
                  refine hk_getr hx hb hts hC_10 hown hW gx tt_10 47 (by decide) rfl kw_1190 ⟨rfl, rfl, rfl⟩ f_x_47 dX10_file_168 ?_
                  refine lv_iload hx hb dX10_file_171 (lv_at hl 0 rfl) ?_
                  refine lv_iconst (v := -1) hx hb dX10_file_173 (by decide) ?_
                  have af_qhO := af_qh
                  refine hx_iast hx hb hW hT (hx_S.rf (M := [(82, 0)])) gqh tt_82 rfl ⟨by omega, by omega⟩ rfl (by decide) (List.mem_singleton.mpr rfl) dX10_file_174 (fun H locs h_58 eh_58 hW hT hs => ?_)
                  have f_x_47 := (hs.o gx trivial rfl).2.trans f_x_47
                  have f_x_44 := (hs.o gx trivial rfl).2.trans f_x_44
                  have f_x_27 := (hs.o gx trivial rfl).2.trans f_x_27
                  have f_x_1 := (hs.o gx trivial rfl).1.trans f_x_1
                  have f_x_36 := (hs.o gx trivial rfl).1.trans f_x_36
                  have f_x_57 := (hs.o gx trivial rfl).1.trans f_x_57
                  have f_x_20 := (hs.o gx trivial rfl).1.trans f_x_20
                  have f_x_0 := (hs.o gx trivial rfl).1.trans f_x_0
                  have fq_35 := (hs.o gx trivial rfl).2.trans fq_35
                  have fq_37 := (hs.o gx trivial rfl).2.trans fq_37
                  have fq_39 := (hs.o gx trivial rfl).2.trans fq_39
                  have fq_41 := (hs.o gx trivial rfl).2.trans fq_41
                  have fq_43 := (hs.o gx trivial rfl).2.trans fq_43
                  have fq_45 := (hs.o gx trivial rfl).2.trans fq_45
                  have fq_47 := (hs.o gx trivial rfl).2.trans fq_47
                  have fq_56 := (hs.o gx trivial rfl).2.trans fq_56
                  have af_qd : h_58.2.1 qd = df := (funext fun j => (hs.a gqd rfl j).1).trans af_qd
                  have nfa_55 : h_58.2.1 qc = fa_55 := (funext fun j => (hs.a gqc rfl j).1).trans nfa_55
                  have ex_15 := ex_15.trans (hs.a gqd rfl _).1.symm
                  have hM := hM.tr (hs.mono (by decide))
                  have gx := gx.S hs
                  have gqh := gqh.S hs
                  have gqc := gqc.S hs
                  have gqd := gqd.S hs
                  have gq_35 := gq_35.S hs
                  have gq_37 := gq_37.S hs
                  have gq_39 := gq_39.S hs
                  have gq_41 := gq_41.S hs
                  have gq_43 := gq_43.S hs
                  have gq_45 := gq_45.S hs
                  have gq_47 := gq_47.S hs
                  have gq_56 := gq_56.S hs
                  obtain ⟨fa_59, dfa_59⟩ : ∃ g : Nat → Int32, g = hx_up hf c0.toNatClampNeg (-1 : Int32) := ⟨_, rfl⟩
                  have nfa_59 : h_58.2.1 qh = fa_59 := by rw [eh_58, dfa_59, ← af_qhO]; exact hx_pi_fun _ _ _ _
                  refine lv_aload_n hx hb dX10_file_175 rfl (lv_at hl 1 rfl) ?_
                  refine hx_getn hx hb hts hC_10 hown hW hT gx tt_10 48 (by decide) rfl kw_1191 ⟨rfl, rfl, rfl⟩ dX10_file_176 (fun q_60 fq_60 gq_60 => ?_)
                  refine lv_iload hx hb dX10_file_179 (lv_at hl 0 rfl) ?_
                  refine lv_iconst (v := -1) hx hb dX10_file_181 (by decide) ?_
                  refine hx_iast hx hb hW hT (hx_S.rf (M := [(83, 0)])) gq_60 tt_83 rfl ⟨by omega, by omega⟩ rfl (by decide) (List.mem_singleton.mpr rfl) dX10_file_182 (fun H locs h_61 eh_61 hW hT hs => ?_)
                  have f_x_47 := (hs.o gx trivial rfl).2.trans f_x_47
                  have f_x_44 := (hs.o gx trivial rfl).2.trans f_x_44
                  have f_x_27 := (hs.o gx trivial rfl).2.trans f_x_27
                  have f_x_1 := (hs.o gx trivial rfl).1.trans f_x_1
                  have f_x_36 := (hs.o gx trivial rfl).1.trans f_x_36
                  have f_x_57 := (hs.o gx trivial rfl).1.trans f_x_57
                  have f_x_20 := (hs.o gx trivial rfl).1.trans f_x_20
                  have f_x_0 := (hs.o gx trivial rfl).1.trans f_x_0
                  have fq_35 := (hs.o gx trivial rfl).2.trans fq_35
                  have fq_37 := (hs.o gx trivial rfl).2.trans fq_37
                  have fq_39 := (hs.o gx trivial rfl).2.trans fq_39
                  have fq_41 := (hs.o gx trivial rfl).2.trans fq_41
                  have fq_43 := (hs.o gx trivial rfl).2.trans fq_43
                  have fq_45 := (hs.o gx trivial rfl).2.trans fq_45
                  have fq_47 := (hs.o gx trivial rfl).2.trans fq_47
                  have fq_56 := (hs.o gx trivial rfl).2.trans fq_56
                  have fq_60 := (hs.o gx trivial rfl).2.trans fq_60
                  have af_qd : h_61.2.1 qd = df := (funext fun j => (hs.a gqd rfl j).1).trans af_qd
                  have nfa_55 : h_61.2.1 qc = fa_55 := (funext fun j => (hs.a gqc rfl j).1).trans nfa_55
                  have nfa_59 : h_61.2.1 qh = fa_59 := (funext fun j => (hs.a gqh rfl j).1).trans nfa_59
                  have ex_15 := ex_15.trans (hs.a gqd rfl _).1.symm
                  have hM := hM.tr (hs.mono (by decide))
                  have gx := gx.S hs
                  have gqh := gqh.S hs
                  have gqc := gqc.S hs
                  have gqd := gqd.S hs
                  have gq_35 := gq_35.S hs
                  have gq_37 := gq_37.S hs
                  have gq_39 := gq_39.S hs
                  have gq_41 := gq_41.S hs
                  have gq_43 := gq_43.S hs
                  have gq_45 := gq_45.S hs
                  have gq_47 := gq_47.S hs
                  have gq_56 := gq_56.S hs
                  have gq_60 := gq_60.S hs
                  refine lv_aload_n hx hb dX10_file_183 rfl (lv_at hl 1 rfl) ?_
                  refine hx_getn hx hb hts hC_10 hown hW hT gx tt_10 49 (by decide) rfl kw_1192 ⟨rfl, rfl, rfl⟩ dX10_file_184 (fun q_62 fq_62 gq_62 => ?_)
                  refine lv_iload hx hb dX10_file_187 (lv_at hl 0 rfl) ?_
                  refine lv_iconst (v := -1) hx hb dX10_file_189 (by decide) ?_
                  refine hx_iast hx hb hW hT (hx_S.rf (M := [(84, 0)])) gq_62 tt_84 rfl ⟨by omega, by omega⟩ rfl (by decide) (List.mem_singleton.mpr rfl) dX10_file_190 (fun H locs h_63 eh_63 hW hT hs => ?_)
                  have f_x_47 := (hs.o gx trivial rfl).2.trans f_x_47
                  have f_x_44 := (hs.o gx trivial rfl).2.trans f_x_44
                  have f_x_27 := (hs.o gx trivial rfl).2.trans f_x_27
                  have f_x_1 := (hs.o gx trivial rfl).1.trans f_x_1
                  have f_x_36 := (hs.o gx trivial rfl).1.trans f_x_36
                  have f_x_57 := (hs.o gx trivial rfl).1.trans f_x_57
                  have f_x_20 := (hs.o gx trivial rfl).1.trans f_x_20
                  have f_x_0 := (hs.o gx trivial rfl).1.trans f_x_0
                  have fq_35 := (hs.o gx trivial rfl).2.trans fq_35
                  have fq_37 := (hs.o gx trivial rfl).2.trans fq_37
                  have fq_39 := (hs.o gx trivial rfl).2.trans fq_39
                  have fq_41 := (hs.o gx trivial rfl).2.trans fq_41
                  have fq_43 := (hs.o gx trivial rfl).2.trans fq_43
                  have fq_45 := (hs.o gx trivial rfl).2.trans fq_45
                  have fq_47 := (hs.o gx trivial rfl).2.trans fq_47
                  have fq_56 := (hs.o gx trivial rfl).2.trans fq_56
                  have fq_60 := (hs.o gx trivial rfl).2.trans fq_60
                  have fq_62 := (hs.o gx trivial rfl).2.trans fq_62
                  have af_qd : h_63.2.1 qd = df := (funext fun j => (hs.a gqd rfl j).1).trans af_qd
                  have nfa_55 : h_63.2.1 qc = fa_55 := (funext fun j => (hs.a gqc rfl j).1).trans nfa_55
                  have nfa_59 : h_63.2.1 qh = fa_59 := (funext fun j => (hs.a gqh rfl j).1).trans nfa_59
                  have ex_15 := ex_15.trans (hs.a gqd rfl _).1.symm
                  have hM := hM.tr (hs.mono (by decide))
                  have gx := gx.S hs
                  have gqh := gqh.S hs
                  have gqc := gqc.S hs
                  have gqd := gqd.S hs
                  have gq_35 := gq_35.S hs
                  have gq_37 := gq_37.S hs
                  have gq_39 := gq_39.S hs
                  have gq_41 := gq_41.S hs
                  have gq_43 := gq_43.S hs
                  have gq_45 := gq_45.S hs
                  have gq_47 := gq_47.S hs
                  have gq_56 := gq_56.S hs
                  have gq_60 := gq_60.S hs
                  have gq_62 := gq_62.S hs
                  refine lv_aload_n hx hb dX10_file_191 rfl (lv_at hl 1 rfl) ?_
                  refine hx_getn hx hb hts hC_10 hown hW hT gx tt_10 50 (by decide) rfl kw_1193 ⟨rfl, rfl, rfl⟩ dX10_file_192 (fun q_64 fq_64 gq_64 => ?_)
                  refine lv_iload hx hb dX10_file_195 (lv_at hl 0 rfl) ?_
                  refine lv_iconst (v := -1) hx hb dX10_file_197 (by decide) ?_
                  refine hx_iast hx hb hW hT (hx_S.rf (M := [(85, 0)])) gq_64 tt_85 rfl ⟨by omega, by omega⟩ rfl (by decide) (List.mem_singleton.mpr rfl) dX10_file_198 (fun H locs h_65 eh_65 hW hT hs => ?_)
                  have f_x_47 := (hs.o gx trivial rfl).2.trans f_x_47
                  have f_x_44 := (hs.o gx trivial rfl).2.trans f_x_44
                  have f_x_27 := (hs.o gx trivial rfl).2.trans f_x_27
                  have f_x_1 := (hs.o gx trivial rfl).1.trans f_x_1
                  have f_x_36 := (hs.o gx trivial rfl).1.trans f_x_36
                  have f_x_57 := (hs.o gx trivial rfl).1.trans f_x_57
                  have f_x_20 := (hs.o gx trivial rfl).1.trans f_x_20
                  have f_x_0 := (hs.o gx trivial rfl).1.trans f_x_0
                  have fq_35 := (hs.o gx trivial rfl).2.trans fq_35
                  have fq_37 := (hs.o gx trivial rfl).2.trans fq_37
                  have fq_39 := (hs.o gx trivial rfl).2.trans fq_39
                  have fq_41 := (hs.o gx trivial rfl).2.trans fq_41
                  have fq_43 := (hs.o gx trivial rfl).2.trans fq_43
                  have fq_45 := (hs.o gx trivial rfl).2.trans fq_45
                  have fq_47 := (hs.o gx trivial rfl).2.trans fq_47
                  have fq_56 := (hs.o gx trivial rfl).2.trans fq_56
                  have fq_60 := (hs.o gx trivial rfl).2.trans fq_60
                  have fq_62 := (hs.o gx trivial rfl).2.trans fq_62
                  have fq_64 := (hs.o gx trivial rfl).2.trans fq_64
                  have af_qd : h_65.2.1 qd = df := (funext fun j => (hs.a gqd rfl j).1).trans af_qd
                  have nfa_55 : h_65.2.1 qc = fa_55 := (funext fun j => (hs.a gqc rfl j).1).trans nfa_55
                  have nfa_59 : h_65.2.1 qh = fa_59 := (funext fun j => (hs.a gqh rfl j).1).trans nfa_59
                  have ex_15 := ex_15.trans (hs.a gqd rfl _).1.symm
                  have hM := hM.tr (hs.mono (by decide))
                  have gx := gx.S hs
                  have gqh := gqh.S hs
                  have gqc := gqc.S hs
                  have gqd := gqd.S hs
                  have gq_35 := gq_35.S hs
                  have gq_37 := gq_37.S hs
                  have gq_39 := gq_39.S hs
                  have gq_41 := gq_41.S hs
                  have gq_43 := gq_43.S hs
                  have gq_45 := gq_45.S hs
                  have gq_47 := gq_47.S hs
                  have gq_56 := gq_56.S hs
                  have gq_60 := gq_60.S hs
                  have gq_62 := gq_62.S hs
                  have gq_64 := gq_64.S hs
                  refine lv_iconst (v := 0) hx hb dX10_file_199 (by decide) ?_
                  refine lv_istore (lv' := [(8, .int (0 : Int32)), (7, .int c0), (0, .ref x), (1, .int i1), (2, .int i2), (3, .int i3), (4, .int i4), (5, .int i5), (6, .int i6)]) hx hb dX10_file_200 hl (by decide) rfl (fun ls hl => ?_)
                  have loop202 : ∀ (n202 : Nat) (iv202_8 : Int32) (H : Heap) (locs : List Loc) (hL1 : List Nat) (hl1 : hx_h), 0 ≤ iv202_8.toInt → iv202_8.toInt ≤ 3 → ∀ (ls : Array Slot), 3 - iv202_8.toInt < (n202 : Int) → hx_W T_tb (P_ty dA) (dC, dI) vwCl (hx_A L sz) s.heap hL1 hl1 s H locs → hx_T T_tb hL1 hl1 → hx_S T_tb [(10, 36), (72, 0), (73, 0), (74, 0), (75, 0), (76, 0), (77, 0), (78, 0), (79, 0), (81, 0), (82, 0), (83, 0), (84, 0), (85, 0), (87, 0)] L h hL1 hl1 → hl1.2.2 x 47 = some qh → hl1.2.2 x 44 = some qc → hl1.2.2 x 27 = some qd → hl1.2.1 x 1 = a0 → hl1.2.1 x 36 = c0 → hl1.2.1 x 57 = m0 → hl1.2.1 x 20 = pn0 → hl1.2.1 x 0 = nw0 → hl1.2.2 x 37 = some q_35 → hl1.2.2 x 38 = some q_37 → hl1.2.2 x 39 = some q_39 → hl1.2.2 x 40 = some q_41 → hl1.2.2 x 41 = some q_43 → hl1.2.2 x 42 = some q_45 → hl1.2.2 x 43 = some q_47 → hl1.2.2 x 46 = some q_56 → hl1.2.2 x 48 = some q_60 → hl1.2.2 x 49 = some q_62 → hl1.2.2 x 50 = some q_64 → hx_g hL1 hl1 x 10 → hx_g hL1 hl1 qh 82 → hx_g hL1 hl1 qc 79 → hx_g hL1 hl1 qd 64 → hx_g hL1 hl1 q_35 72 → hx_g hL1 hl1 q_37 73 → hx_g hL1 hl1 q_39 74 → hx_g hL1 hl1 q_41 75 → hx_g hL1 hl1 q_43 76 → hx_g hL1 hl1 q_45 77 → hx_g hL1 hl1 q_47 78 → hx_g hL1 hl1 q_56 81 → hx_g hL1 hl1 q_60 83 → hx_g hL1 hl1 q_62 84 → hx_g hL1 hl1 q_64 85 → hl1.2.1 qd = df → hl1.2.1 qc = fa_55 → hl1.2.1 qh = fa_59 → lv_has ls 9 [(8, .int iv202_8), (7, .int c0), (0, .ref x), (1, .int i1), (2, .int i2), (3, .int i3), (4, .int i4), (5, .int i5), (6, .int i6)] → W p l e ({ frames := 2, cells := 0, slots := 0, locals := 43 }) s m ([.ref x, .int i1, .int i2, .int i3, .int i4, .int i5, .int i6] : List Value).toArray below meth c H locs 0 0 (MQ below (va_Qi (fun (r : Int32) (u : List Nat × hx_h) => (∃ (cn1 : Int32) (hf1 : Nat → Int32) (plf1 : Nat → Int32), u.2.2.1 x 36 = cn1 ∧ u.2.2.1 qh = hf1 ∧ u.2.2.1 qc = plf1 ∧ (m0.toInt = hx_hc hf1 cn1.toInt.toNat ∧ hx_PL plf1 cn1.toInt a0.toInt ∧ hx_FS c0.toInt pn0.toInt nw0.toInt i1.toInt i2.toInt i3.toInt i4.toInt i6.toInt df r.toInt cn1.toInt)) ∧ hx_T T_tb u.1 u.2 ∧ hx_S T_tb [(10, 36), (72, 0), (73, 0), (74, 0), (75, 0), (76, 0), (77, 0), (78, 0), (79, 0), (81, 0), (82, 0), (83, 0), (84, 0), (85, 0), (87, 0)] L h u.1 u.2) (hx_E T_tb (P_ty dA) (dC, dI) vwCl (hx_A L sz)) (hx_A L sz)) ([.ref x, .int i1, .int i2, .int i3, .int i4, .int i5, .int i6] : List Value).toArray s 0 0 (hx_A L sz)) (F0 m 202 ls []) := by
                    intro n202
                    induction n202 with
                    | zero => intro iv202_8 H locs hL1 hl1 bliv202_8 buiv202_8  ls hn202; exfalso; omega
                    | succ n202 ih202 =>
                      intro iv202_8 H locs hL1 hl1 bliv202_8 buiv202_8  ls hn202 hW hT hM f_x_47 f_x_44 f_x_27 f_x_1 f_x_36 f_x_57 f_x_20 f_x_0 fq_35 fq_37 fq_39 fq_41 fq_43 fq_45 fq_47 fq_56 fq_60 fq_62 fq_64 gx gqh gqc gqd gq_35 gq_37 gq_39 gq_41 gq_43 gq_45 gq_47 gq_56 gq_60 gq_62 gq_64 af_qd nfa_55 nfa_59 hl
                      refine lv_iload hx hb dX10_file_202 (lv_at hl 0 rfl) ?_
                      refine lv_iconst (v := 3) hx hb dX10_file_204 (by decide) ?_
                      refine hb_icmp_ge (zx := iv202_8.toInt) (zy := 3) (tgt := 227) hx hb rfl (by decide) dX10_file_205 (by decide) (fun c_66 => ?_) (fun c_66 => ?_)
                      · skip
                        refine lv_aload_n hx hb dX10_file_227 rfl (lv_at hl 2 rfl) ?_
                        refine lv_dup hx hb dX10_file_228 rfl ?_
                        refine hk_geti hx hb hts hC_10 hown hW gx tt_10 36 (by decide) rfl kw_1179 ⟨rfl, rfl, rfl⟩ f_x_36 dX10_file_229 ?_
                        refine lv_iconst (v := 1) hx hb dX10_file_232 (by decide) ?_
                        refine lv_iadd hx hb dX10_file_233 ?_
                        have rg_67 := i32_r c0
                        refine lv_topi (fun x_68 ex_68 => ?_)
                        have zx_68 : x_68.toInt = c0.toInt + 1 := by rw [ex_68]; exact i32_add rfl (by decide) (by omega) (by omega)
                        refine hx_puti hx hb hts hC_10 hown hW hT (hx_S.rf (M := [(10, 36)])) gx tt_10 36 (by decide) rfl kw_1179 ⟨rfl, rfl, rfl⟩ rfl (x := x_68) ⟨by omega, by omega⟩ rfl rfl rfl (List.mem_singleton.mpr rfl) dX10_file_234 (fun H locs h_69 eh_69 hW hT hs => ?_)
                        have f_x_47 := (hs.o gx trivial rfl).2.trans f_x_47
                        have f_x_44 := (hs.o gx trivial rfl).2.trans f_x_44
                        have f_x_27 := (hs.o gx trivial rfl).2.trans f_x_27
                        have f_x_1 := (hs.o gx trivial rfl).1.trans f_x_1
                        have f_x_57 := (hs.o gx trivial rfl).1.trans f_x_57
                        have f_x_20 := (hs.o gx trivial rfl).1.trans f_x_20
                        have f_x_0 := (hs.o gx trivial rfl).1.trans f_x_0
                        have fq_35 := (hs.o gx trivial rfl).2.trans fq_35
                        have fq_37 := (hs.o gx trivial rfl).2.trans fq_37
                        have fq_39 := (hs.o gx trivial rfl).2.trans fq_39
                        have fq_41 := (hs.o gx trivial rfl).2.trans fq_41
                        have fq_43 := (hs.o gx trivial rfl).2.trans fq_43
                        have fq_45 := (hs.o gx trivial rfl).2.trans fq_45
                        have fq_47 := (hs.o gx trivial rfl).2.trans fq_47
                        have fq_56 := (hs.o gx trivial rfl).2.trans fq_56
                        have fq_60 := (hs.o gx trivial rfl).2.trans fq_60
                        have fq_62 := (hs.o gx trivial rfl).2.trans fq_62
                        have fq_64 := (hs.o gx trivial rfl).2.trans fq_64
                        have af_qd : h_69.2.1 qd = df := (funext fun j => (hs.a gqd rfl j).1).trans af_qd
                        have nfa_55 : h_69.2.1 qc = fa_55 := (funext fun j => (hs.a gqc rfl j).1).trans nfa_55
                        have nfa_59 : h_69.2.1 qh = fa_59 := (funext fun j => (hs.a gqh rfl j).1).trans nfa_59
                        have hM := hM.tr (hs.mono (by decide))
                        have gx := gx.S hs
                        have gqh := gqh.S hs
                        have gqc := gqc.S hs
                        have gqd := gqd.S hs
                        have gq_35 := gq_35.S hs
                        have gq_37 := gq_37.S hs
                        have gq_39 := gq_39.S hs
                        have gq_41 := gq_41.S hs
                        have gq_43 := gq_43.S hs
                        have gq_45 := gq_45.S hs
                        have gq_47 := gq_47.S hs
                        have gq_56 := gq_56.S hs
                        have gq_60 := gq_60.S hs
                        have gq_62 := gq_62.S hs
                        have gq_64 := gq_64.S hs
                        have f_70 : h_69.2.1 x 36 = x_68 := by rw [eh_69]; exact hx_pi_at _ _ _ _
                        refine lv_iload hx hb dX10_file_237 (lv_at hl 1 rfl) ?_
                        exact hx_reti hx hb hr hlk hW ⟨⟨x_68, fa_59, fa_55, f_70, nfa_59, nfa_55, ⟨hx_filed hHC (by omega) rfl (by decide) dfa_59 (by omega), hx_PL_up hPL rfl (by omega) ⟨by omega, by omega⟩ dfa_55 (by omega), (Or.inr ⟨by omega, by omega, by unfold hx_FC; exact ⟨by omega, by omega, by omega, by omega, (by show (df i2.toNatClampNeg).toInt = 0; rw [← ax_15]; omega), by omega, by omega, by omega⟩⟩)⟩⟩, hT, hM⟩ dX10_file_239
                      · skip
                        refine lv_aload_n hx hb dX10_file_208 rfl (lv_at hl 2 rfl) ?_
                        refine hx_getn hx hb hts hC_10 hown hW hT gx tt_10 52 (by decide) rfl kw_1195 ⟨rfl, rfl, rfl⟩ dX10_file_209 (fun q_71 fq_71 gq_71 => ?_)
                        refine lv_iconst (v := 3) hx hb dX10_file_212 (by decide) ?_
                        refine lv_iload hx hb dX10_file_213 (lv_at hl 1 rfl) ?_
                        refine lv_imul hx hb dX10_file_215 ?_
                        refine lv_topi (fun x_72 ex_72 => ?_)
                        have zx_72 : x_72.toInt = 3 * c0.toInt := by rw [ex_72]; exact i32_mul (by decide) rfl rfl (by omega) (by omega)
                        refine lv_iload hx hb dX10_file_216 (lv_at hl 0 rfl) ?_
                        refine lv_iadd hx hb dX10_file_218 ?_
                        have rg_73 := i32_r x_72
                        have rg_74 := i32_r iv202_8
                        refine lv_topi (fun x_75 ex_75 => ?_)
                        have zx_75 : x_75.toInt = x_72.toInt + iv202_8.toInt := by rw [ex_75]; exact i32_add rfl rfl (by omega) (by omega)
                        refine lv_iconst (v := -1) hx hb dX10_file_219 (by decide) ?_
                        refine hx_iast hx hb hW hT (hx_S.rf (M := [(87, 0)])) gq_71 tt_87 rfl ⟨by omega, by omega⟩ rfl (by decide) (List.mem_singleton.mpr rfl) dX10_file_220 (fun H locs h_76 eh_76 hW hT hs => ?_)
                        have f_x_47 := (hs.o gx trivial rfl).2.trans f_x_47
                        have f_x_44 := (hs.o gx trivial rfl).2.trans f_x_44
                        have f_x_27 := (hs.o gx trivial rfl).2.trans f_x_27
                        have f_x_1 := (hs.o gx trivial rfl).1.trans f_x_1
                        have f_x_36 := (hs.o gx trivial rfl).1.trans f_x_36
                        have f_x_57 := (hs.o gx trivial rfl).1.trans f_x_57
                        have f_x_20 := (hs.o gx trivial rfl).1.trans f_x_20
                        have f_x_0 := (hs.o gx trivial rfl).1.trans f_x_0
                        have fq_35 := (hs.o gx trivial rfl).2.trans fq_35
                        have fq_37 := (hs.o gx trivial rfl).2.trans fq_37
                        have fq_39 := (hs.o gx trivial rfl).2.trans fq_39
                        have fq_41 := (hs.o gx trivial rfl).2.trans fq_41
                        have fq_43 := (hs.o gx trivial rfl).2.trans fq_43
                        have fq_45 := (hs.o gx trivial rfl).2.trans fq_45
                        have fq_47 := (hs.o gx trivial rfl).2.trans fq_47
                        have fq_56 := (hs.o gx trivial rfl).2.trans fq_56
                        have fq_60 := (hs.o gx trivial rfl).2.trans fq_60
                        have fq_62 := (hs.o gx trivial rfl).2.trans fq_62
                        have fq_64 := (hs.o gx trivial rfl).2.trans fq_64
                        have fq_71 := (hs.o gx trivial rfl).2.trans fq_71
                        have af_qd : h_76.2.1 qd = df := (funext fun j => (hs.a gqd rfl j).1).trans af_qd
                        have nfa_55 : h_76.2.1 qc = fa_55 := (funext fun j => (hs.a gqc rfl j).1).trans nfa_55
                        have nfa_59 : h_76.2.1 qh = fa_59 := (funext fun j => (hs.a gqh rfl j).1).trans nfa_59
                        have hM := hM.tr (hs.mono (by decide))
                        have gx := gx.S hs
                        have gqh := gqh.S hs
                        have gqc := gqc.S hs
                        have gqd := gqd.S hs
                        have gq_35 := gq_35.S hs
                        have gq_37 := gq_37.S hs
                        have gq_39 := gq_39.S hs
                        have gq_41 := gq_41.S hs
                        have gq_43 := gq_43.S hs
                        have gq_45 := gq_45.S hs
                        have gq_47 := gq_47.S hs
                        have gq_56 := gq_56.S hs
                        have gq_60 := gq_60.S hs
                        have gq_62 := gq_62.S hs
                        have gq_64 := gq_64.S hs
                        have gq_71 := gq_71.S hs
                        obtain ⟨x_77, ex_77⟩ : ∃ y : Int32, y = iv202_8 + Int32.ofInt 1 := ⟨_, rfl⟩
                        have zx_77 : x_77.toInt = iv202_8.toInt + (1) := by rw [ex_77]; exact i32_add rfl (by decide) (by omega) (by omega)
                        refine lv_iinc (v := x_77) (lv' := [(8, .int x_77), (7, .int c0), (0, .ref x), (1, .int i1), (2, .int i2), (3, .int i3), (4, .int i4), (5, .int i5), (6, .int i6)]) hx hb dX10_file_221 hl (k := 0) rfl ex_77.symm (by decide) rfl (fun ls hl => ?_)
                        refine lv_goto (tgt := 202) hx hb dX10_file_224 (by decide) ?_
                        exact ih202 x_77 _ _ hL1 h_76 (by omega) (by omega)  ls (by omega) hW hT hM f_x_47 f_x_44 f_x_27 f_x_1 f_x_36 f_x_57 f_x_20 f_x_0 fq_35 fq_37 fq_39 fq_41 fq_43 fq_45 fq_47 fq_56 fq_60 fq_62 fq_64 gx gqh gqc gqd gq_35 gq_37 gq_39 gq_41 gq_43 gq_45 gq_47 gq_56 gq_60 gq_62 gq_64 af_qd nfa_55 nfa_59 (lv_sub hl [0, 1, 2, 3, 4, 5, 6, 7, 8] rfl)
                  have zk_0 : (0 : Int32).toInt = 0 := by decide
                  exact loop202 4 (0 : Int32) _ _ L_49 h_65 (by decide) (by decide)  ls (by omega) hW hT hM f_x_47 f_x_44 f_x_27 f_x_1 f_x_36 f_x_57 f_x_20 f_x_0 fq_35 fq_37 fq_39 fq_41 fq_43 fq_45 fq_47 fq_56 fq_60 fq_62 fq_64 gx gqh gqc gqd gq_35 gq_37 gq_39 gq_41 gq_43 gq_45 gq_47 gq_56 gq_60 gq_62 gq_64 af_qd nfa_55 nfa_59 hl
                · skip
                  refine lv_iconst (v := -1) hx hb dX10_file_74 (by decide) ?_
                  exact hx_reti hx hb hr hlk hW ⟨⟨c0, hf, plf, f_x_36, af_qh, af_qc, ⟨hHC, hPL, (Or.inl ⟨by decide, by omega, fun hc => by unfold hx_FC at hc; have h1 : (df i2.toNatClampNeg).toInt = 0 := hc.2.2.2.2.1; rw [← ax_15] at h1; omega⟩)⟩⟩, hT, hM⟩ dX10_file_75
