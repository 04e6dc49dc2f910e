
set_option maxHeartbeats 4000000 in
set_option maxRecDepth 100000 in
theorem t_X9_isHousehold_2 (l : Launch) (dC : Nat → ClassId) (dI : Nat → Nat → Nat) (dA : Nat → ClassId) (L : List Nat) (h : hx_h) (sz : Nat) (i1 : Int32) (i2 : Int32) (i3 : Int32) (i4 : Int32) (hT : hx_T T_tb L h)   : Met l yX9_isHousehold (Cond.code yX9_isHousehold cX9_isHousehold 4 (some .boolean) :: hx_all) ({ frames := 1, cells := 0, slots := 0, locals := 22 }) (va_Pc [.int i1, .int i2, .int i3, .int i4] (hx_B T_tb (P_ty dA) (dC, dI) vwCl L h sz)) (va_Qi (fun (r : Int32) (u : List Nat × hx_h) => ((r.toInt = 0 ∧ (i1.toInt < 0 ∨ 9999 < i1.toInt ∨ i2.toInt < 1 ∨ 20 < i2.toInt ∨ i3.toInt < 0 ∨ 99 < i3.toInt ∨ i4.toInt < 0 ∨ 99 < i4.toInt)) ∨ (r.toInt = 1 ∧ 0 ≤ i1.toInt ∧ i1.toInt ≤ 9999 ∧ 1 ≤ i2.toInt ∧ i2.toInt ≤ 20 ∧ 0 ≤ i3.toInt ∧ i3.toInt ≤ 99 ∧ 0 ≤ i4.toInt ∧ i4.toInt ≤ 99)) ∧ hx_T T_tb u.1 u.2 ∧ hx_S T_tb [] L h u.1 u.2) (hx_E T_tb (P_ty dA) (dC, dI) vwCl (hx_A L sz)) (hx_A L sz)) 0 0 (hx_A L sz) := by
  refine hx_met (lv := [(0, .int i1), (1, .int i2), (2, .int i3), (3, .int i4)]) (by decide +kernel) rfl (Nat.le_of_ble_eq_true rfl) rfl ?_
  intro p e s m below meth c hx hb hml hr hlk hts0 hown hin hsz hW ls hl
  have hts : ∀ w ∈ hx_all, w.before _ s = true := fun w hw => hts0 w (List.mem_cons_of_mem _ hw)
  have hown : s.vm.findClass "SmallCourt" = some m.cls := hown
  have hM : hx_S T_tb [] L h L h := hx_S.rf
  refine lv_iload_n hx hb dX9_isHousehold_0 rfl (lv_at hl 0 rfl) ?_
  refine lv_iconst (v := 0) hx hb dX9_isHousehold_1 (by decide) ?_
  refine lv_sipush (v := 9999) hx hb dX9_isHousehold_2 (by decide) ?_
  have zc_9999 : (9999 : Int32).toInt = 9999 := by decide
  have zc_0 : (0 : Int32).toInt = 0 := by decide
  refine hx_goi (hx_runS (As := [.int i1, .int (0 : Int32), .int (9999 : Int32)]) (rest := []) ⟨hx, hb, hml, hown, hts⟩ hW (t_X9_isWithin_2 l dC dI dA L h s.heap.size i1 (0 : Int32) (9999 : Int32) hT) (va_cwS 3 hts (hx_gS kw_434 kw_432 kw_433 kw_94) rfl rfl rfl (by decide +kernel) ⟨Nat.le_of_ble_eq_true rfl, Nat.le_of_ble_eq_true rfl⟩) rfl hl.1 rfl (Nat.le_of_ble_eq_true rfl) dX9_isHousehold_5 ⟨Nat.le_of_ble_eq_true rfl, Nat.le_of_ble_eq_true rfl⟩) hW (fun r_3 L_1 h_2 H locs p_4 hW => ?_)
  obtain ⟨hr_5, hT, hs⟩ := p_4
  have hT : hx_T T_tb L_1 h_2 := hT
  have hs : hx_S T_tb [] L h L_1 h_2 := hs
  have hM := hM.tr (hs.mono (by decide))
  refine hb_if_eq (zx := r_3.toInt) (tgt := 45) hx hb rfl dX9_isHousehold_8 (by decide) (fun c_6 => ?_) (fun c_6 => ?_)
  · skip
    refine lv_iconst (v := 0) hx hb dX9_isHousehold_45 (by decide) ?_
    exact hx_retz hx hb hr rfl hlk hW ⟨(by have zr : (0 : Int32).toInt = 0 := (by decide); (first | omega | (refine ⟨?_, ?_⟩ <;> omega))), hT, hM⟩ dX9_isHousehold_46
  · skip
    refine lv_iload_n hx hb dX9_isHousehold_11 rfl (lv_at hl 1 rfl) ?_
    refine lv_iconst (v := 1) hx hb dX9_isHousehold_12 (by decide) ?_
    refine lv_bipush (v := 20) hx hb dX9_isHousehold_13 (by decide) ?_
    have zc_20 : (20 : Int32).toInt = 20 := by decide
    have zc_1 : (1 : Int32).toInt = 1 := by decide
    refine hx_goi (hx_runS (As := [.int i2, .int (1 : Int32), .int (20 : Int32)]) (rest := []) ⟨hx, hb, hml, hown, hts⟩ hW (t_X9_isWithin_2 l dC dI dA L_1 h_2 H.size i2 (1 : Int32) (20 : Int32) hT) (va_cwS 3 hts (hx_gS kw_434 kw_432 kw_433 kw_94) rfl rfl rfl (by decide +kernel) ⟨Nat.le_of_ble_eq_true rfl, Nat.le_of_ble_eq_true rfl⟩) rfl hl.1 rfl (Nat.le_of_ble_eq_true rfl) dX9_isHousehold_15 ⟨Nat.le_of_ble_eq_true rfl, Nat.le_of_ble_eq_true rfl⟩) hW (fun r_9 L_7 h_8 H locs p_10 hW => ?_)
    obtain ⟨hr_11, hT, hs⟩ := p_10
    have hT : hx_T T_tb L_7 h_8 := hT
    have hs : hx_S T_tb [] L_1 h_2 L_7 h_8 := hs
    have hM := hM.tr (hs.mono (by decide))
    refine hb_if_eq (zx := r_9.toInt) (tgt := 45) hx hb rfl dX9_isHousehold_18 (by decide) (fun c_12 => ?_) (fun c_12 => ?_)
    · skip
      refine lv_iconst (v := 0) hx hb dX9_isHousehold_45 (by decide) ?_
      exact hx_retz hx hb hr rfl hlk hW ⟨(by have zr : (0 : Int32).toInt = 0 := (by decide); (first | omega | (refine ⟨?_, ?_⟩ <;> omega))), hT, hM⟩ dX9_isHousehold_46
    · skip
      refine lv_iload_n hx hb dX9_isHousehold_21 rfl (lv_at hl 2 rfl) ?_
      refine lv_iconst (v := 0) hx hb dX9_isHousehold_22 (by decide) ?_
      refine lv_bipush (v := 99) hx hb dX9_isHousehold_23 (by decide) ?_
      have zc_99 : (99 : Int32).toInt = 99 := by decide
      refine hx_goi (hx_runS (As := [.int i3, .int (0 : Int32), .int (99 : Int32)]) (rest := []) ⟨hx, hb, hml, hown, hts⟩ hW (t_X9_isWithin_2 l dC dI dA L_7 h_8 H.size i3 (0 : Int32) (99 : Int32) hT) (va_cwS 3 hts (hx_gS kw_434 kw_432 kw_433 kw_94) rfl rfl rfl (by decide +kernel) ⟨Nat.le_of_ble_eq_true rfl, Nat.le_of_ble_eq_true rfl⟩) rfl hl.1 rfl (Nat.le_of_ble_eq_true rfl) dX9_isHousehold_25 ⟨Nat.le_of_ble_eq_true rfl, Nat.le_of_ble_eq_true rfl⟩) hW (fun r_15 L_13 h_14 H locs p_16 hW => ?_)
      obtain ⟨hr_17, hT, hs⟩ := p_16
      have hT : hx_T T_tb L_13 h_14 := hT
      have hs : hx_S T_tb [] L_7 h_8 L_13 h_14 := hs
      have hM := hM.tr (hs.mono (by decide))
      refine hb_if_eq (zx := r_15.toInt) (tgt := 45) hx hb rfl dX9_isHousehold_28 (by decide) (fun c_18 => ?_) (fun c_18 => ?_)
      · skip
        refine lv_iconst (v := 0) hx hb dX9_isHousehold_45 (by decide) ?_
        exact hx_retz hx hb hr rfl hlk hW ⟨(by have zr : (0 : Int32).toInt = 0 := (by decide); (first | omega | (refine ⟨?_, ?_⟩ <;> omega))), hT, hM⟩ dX9_isHousehold_46
      · skip
        refine lv_iload_n hx hb dX9_isHousehold_31 rfl (lv_at hl 3 rfl) ?_
        refine lv_iconst (v := 0) hx hb dX9_isHousehold_32 (by decide) ?_
        refine lv_bipush (v := 99) hx hb dX9_isHousehold_33 (by decide) ?_
        refine hx_goi (hx_runS (As := [.int i4, .int (0 : Int32), .int (99 : Int32)]) (rest := []) ⟨hx, hb, hml, hown, hts⟩ hW (t_X9_isWithin_2 l dC dI dA L_13 h_14 H.size i4 (0 : Int32) (99 : Int32) hT) (va_cwS 3 hts (hx_gS kw_434 kw_432 kw_433 kw_94) rfl rfl rfl (by decide +kernel) ⟨Nat.le_of_ble_eq_true rfl, Nat.le_of_ble_eq_true rfl⟩) rfl hl.1 rfl (Nat.le_of_ble_eq_true rfl) dX9_isHousehold_35 ⟨Nat.le_of_ble_eq_true rfl, Nat.le_of_ble_eq_true rfl⟩) hW (fun r_21 L_19 h_20 H locs p_22 hW => ?_)
        obtain ⟨hr_23, hT, hs⟩ := p_22
        have hT : hx_T T_tb L_19 h_20 := hT
        have hs : hx_S T_tb [] L_13 h_14 L_19 h_20 := hs
        have hM := hM.tr (hs.mono (by decide))
        refine hb_if_eq (zx := r_21.toInt) (tgt := 45) hx hb rfl dX9_isHousehold_38 (by decide) (fun c_24 => ?_) (fun c_24 => ?_)
        · skip
          refine lv_iconst (v := 0) hx hb dX9_isHousehold_45 (by decide) ?_
          exact hx_retz hx hb hr rfl hlk hW ⟨(by have zr : (0 : Int32).toInt = 0 := (by decide); (first | omega | (refine ⟨?_, ?_⟩ <;> omega))), hT, hM⟩ dX9_isHousehold_46
        · skip
          refine lv_iconst (v := 1) hx hb dX9_isHousehold_41 (by decide) ?_
          refine lv_goto (tgt := 46) hx hb dX9_isHousehold_42 (by decide) ?_
          exact hx_retz hx hb hr rfl hlk hW ⟨(by have zr : (1 : Int32).toInt = 1 := (by decide); (first | omega | (refine ⟨?_, ?_⟩ <;> omega))), hT, hM⟩ dX9_isHousehold_46


set_option maxHeartbeats 4000000 in
set_option maxRecDepth 100000 in
theorem t_X9_personAt_2 (l : Launch) (dC : Nat → ClassId) (dI : Nat → Nat → Nat) (dA : Nat → ClassId) (L : List Nat) (h : hx_h) (sz : Nat) (x : Nat) (i1 : Int32) (hT : hx_T T_tb L h) (gx : hx_g L h x 9) (pn0 : Int32) (f_x_8 : h.2.1 x 8 = pn0) (qp : Nat) (gqp : hx_g L h qp 44) (f_x_7 : h.2.2 x 7 = some qp) (pf_x_8 : ∀ j : Nat, (j : Int) < (h.2.1 x 8).toInt → h.2.2 qp j ≠ none) : Met l yX9_personAt (Cond.code yX9_personAt cX9_personAt 2 (some (.object "SmallCourt$Person")) :: hx_all) ({ frames := 0, cells := 0, slots := 0, locals := 0 }) (va_Pc [.ref x, .int i1] (hx_B T_tb (P_ty dA) (dC, dI) vwCl L h sz)) (va_Qq (fun (r : Option Nat) (u : List Nat × hx_h) => ((∀ q, r = some q → hx_g u.1 u.2 q 4) ∧ ((r = none ∧ (i1.toInt < 0 ∨ pn0.toInt ≤ i1.toInt)) ∨ (0 ≤ i1.toInt ∧ i1.toInt < pn0.toInt ∧ ∃ q, r = some q ∧ u.2.2.2 qp i1.toNatClampNeg = some q))) ∧ hx_T T_tb u.1 u.2 ∧ hx_S T_tb [] L h u.1 u.2) (hx_E T_tb (P_ty dA) (dC, dI) vwCl (hx_A L sz)) (hx_A L sz)) 0 0 (hx_A L sz) := by
  refine hx_met (lv := [(0, .ref x), (1, .int i1)]) (by decide +kernel) rfl (Nat.le_of_ble_eq_true rfl) rfl ?_
  intro p e s m below meth c hx hb hml hr hlk hts0 hown hin hsz hW ls hl
  have hts : ∀ w ∈ hx_all, w.before _ s = true := fun w hw => hts0 w (List.mem_cons_of_mem _ hw)
  have hown : s.vm.findClass "SmallCourt" = some m.cls := hown
  have hM : hx_S T_tb [] L h L h := hx_S.rf
  have b_pn0 := hT.gi gx tt_9 (k := 8) rfl
  rw [f_x_8] at b_pn0
  have b_pn0 : 0 ≤ pn0.toInt ∧ pn0.toInt ≤ 40 := b_pn0
  refine lv_iload_n hx hb dX9_personAt_0 rfl (lv_at hl 1 rfl) ?_
  refine hb_if_lt (zx := i1.toInt) (tgt := 12) hx hb rfl dX9_personAt_1 (by decide) (fun c_1 => ?_) (fun c_1 => ?_)
  · skip
    refine lv_null hx hb dX9_personAt_12 ?_
    refine lv_goto (tgt := 22) hx hb dX9_personAt_13 (by decide) ?_
    exact hx_retq (v := none) hx hb hr (Or.inl ⟨_, rfl⟩) hlk hW ⟨⟨(fun q hq => by cases hq), (Or.inl ⟨rfl, by omega⟩)⟩, hT, hM⟩ dX9_personAt_22
  · skip
    refine lv_iload_n hx hb dX9_personAt_4 rfl (lv_at hl 1 rfl) ?_
    refine lv_aload_n hx hb dX9_personAt_5 rfl (lv_at hl 0 rfl) ?_
    refine hk_geti hx hb hts hC_9 hown hW gx tt_9 8 (by decide) rfl kw_372 ⟨rfl, rfl, rfl⟩ f_x_8 dX9_personAt_6 ?_
    refine hb_icmp_lt (zx := i1.toInt) (zy := pn0.toInt) (tgt := 16) hx hb rfl rfl dX9_personAt_9 (by decide) (fun c_2 => ?_) (fun c_2 => ?_)
    · skip
      refine lv_aload_n hx hb dX9_personAt_16 rfl (lv_at hl 0 rfl) ?_
      refine hk_getr hx hb hts hC_9 hown hW gx tt_9 7 (by decide) rfl kw_371 ⟨rfl, rfl, rfl⟩ f_x_7 dX9_personAt_17 ?_
      refine lv_iload_n hx hb dX9_personAt_20 rfl (lv_at hl 1 rfl) ?_
      refine hx_aaldN hx hb hW hT gqp tt_44 (t1 := 4) rfl ⟨by omega, by omega⟩ (pf_x_8 _ (by rw [f_x_8]; exact hx_tnI (by omega) (by omega))) dX9_personAt_21 (fun q_3 fq_3 gq_3 => ?_)
      exact hx_retq (v := (some q_3)) hx hb hr (Or.inl ⟨_, rfl⟩) hlk hW ⟨⟨(fun q hq => by cases hq; exact gq_3), (Or.inr ⟨by omega, by omega, _, rfl, fq_3⟩)⟩, hT, hM⟩ dX9_personAt_22
    · skip
      refine lv_null hx hb dX9_personAt_12 ?_
      refine lv_goto (tgt := 22) hx hb dX9_personAt_13 (by decide) ?_
      exact hx_retq (v := none) hx hb hr (Or.inl ⟨_, rfl⟩) hlk hW ⟨⟨(fun q hq => by cases hq), (Or.inl ⟨rfl, by omega⟩)⟩, hT, hM⟩ dX9_personAt_22


set_option maxHeartbeats 4000000 in
set_option maxRecDepth 100000 in
theorem t_X9_claimAt_2 (l : Launch) (dC : Nat → ClassId) (dI : Nat → Nat → Nat) (dA : Nat → ClassId) (L : List Nat) (h : hx_h) (sz : Nat) (x : Nat) (i1 : Int32) (hT : hx_T T_tb L h) (gx : hx_g L h x 9) (cn0 : Int32) (f_x_11 : h.2.1 x 11 = cn0) (qc : Nat) (gqc : hx_g L h qc 45) (f_x_10 : h.2.2 x 10 = some qc) (pf_x_11 : ∀ j : Nat, (j : Int) < (h.2.1 x 11).toInt → h.2.2 qc j ≠ none) : Met l yX9_claimAt (Cond.code yX9_claimAt cX9_claimAt 2 (some (.object "SmallCourt$Claim")) :: hx_all) ({ frames := 0, cells := 0, slots := 0, locals := 0 }) (va_Pc [.ref x, .int i1] (hx_B T_tb (P_ty dA) (dC, dI) vwCl L h sz)) (va_Qq (fun (r : Option Nat) (u : List Nat × hx_h) => ((∀ q, r = some q → hx_g u.1 u.2 q 2) ∧ ((r = none ∧ (i1.toInt < 0 ∨ cn0.toInt ≤ i1.toInt)) ∨ (0 ≤ i1.toInt ∧ i1.toInt < cn0.toInt ∧ ∃ q, r = some q ∧ u.2.2.2 qc i1.toNatClampNeg = some q))) ∧ hx_T T_tb u.1 u.2 ∧ hx_S T_tb [] L h u.1 u.2) (hx_E T_tb (P_ty dA) (dC, dI) vwCl (hx_A L sz)) (hx_A L sz)) 0 0 (hx_A L sz) := by
  refine hx_met (lv := [(0, .ref x), (1, .int i1)]) (by decide +kernel) rfl (Nat.le_of_ble_eq_true rfl) rfl ?_
  intro p e s m below meth c hx hb hml hr hlk hts0 hown hin hsz hW ls hl
  have hts : ∀ w ∈ hx_all, w.before _ s = true := fun w hw => hts0 w (List.mem_cons_of_mem _ hw)
  have hown : s.vm.findClass "SmallCourt" = some m.cls := hown
  have hM : hx_S T_tb [] L h L h := hx_S.rf
  have b_cn0 := hT.gi gx tt_9 (k := 11) rfl
  rw [f_x_11] at b_cn0
  have b_cn0 : 0 ≤ cn0.toInt ∧ cn0.toInt ≤ 100 := b_cn0
  refine lv_iload_n hx hb dX9_claimAt_0 rfl (lv_at hl 1 rfl) ?_
  refine hb_if_lt (zx := i1.toInt) (tgt := 12) hx hb rfl dX9_claimAt_1 (by decide) (fun c_1 => ?_) (fun c_1 => ?_)
  · skip
    refine lv_null hx hb dX9_claimAt_12 ?_
    refine lv_goto (tgt := 22) hx hb dX9_claimAt_13 (by decide) ?_
    exact hx_retq (v := none) hx hb hr (Or.inl ⟨_, rfl⟩) hlk hW ⟨⟨(fun q hq => by cases hq), (Or.inl ⟨rfl, by omega⟩)⟩, hT, hM⟩ dX9_claimAt_22
  · skip
    refine lv_iload_n hx hb dX9_claimAt_4 rfl (lv_at hl 1 rfl) ?_
    refine lv_aload_n hx hb dX9_claimAt_5 rfl (lv_at hl 0 rfl) ?_
    refine hk_geti hx hb hts hC_9 hown hW gx tt_9 11 (by decide) rfl kw_375 ⟨rfl, rfl, rfl⟩ f_x_11 dX9_claimAt_6 ?_
    refine hb_icmp_lt (zx := i1.toInt) (zy := cn0.toInt) (tgt := 16) hx hb rfl rfl dX9_claimAt_9 (by decide) (fun c_2 => ?_) (fun c_2 => ?_)
    · skip
      refine lv_aload_n hx hb dX9_claimAt_16 rfl (lv_at hl 0 rfl) ?_
      refine hk_getr hx hb hts hC_9 hown hW gx tt_9 10 (by decide) rfl kw_374 ⟨rfl, rfl, rfl⟩ f_x_10 dX9_claimAt_17 ?_
      refine lv_iload_n hx hb dX9_claimAt_20 rfl (lv_at hl 1 rfl) ?_
      refine hx_aaldN hx hb hW hT gqc tt_45 (t1 := 2) rfl ⟨by omega, by omega⟩ (pf_x_11 _ (by rw [f_x_11]; exact hx_tnI (by omega) (by omega))) dX9_claimAt_21 (fun q_3 fq_3 gq_3 => ?_)
      exact hx_retq (v := (some q_3)) hx hb hr (Or.inl ⟨_, rfl⟩) hlk hW ⟨⟨(fun q hq => by cases hq; exact gq_3), (Or.inr ⟨by omega, by omega, _, rfl, fq_3⟩)⟩, hT, hM⟩ dX9_claimAt_22
    · skip
      refine lv_null hx hb dX9_claimAt_12 ?_
      refine lv_goto (tgt := 22) hx hb dX9_claimAt_13 (by decide) ?_
      exact hx_retq (v := none) hx hb hr (Or.inl ⟨_, rfl⟩) hlk hW ⟨⟨(fun q hq => by cases hq), (Or.inl ⟨rfl, by omega⟩)⟩, hT, hM⟩ dX9_claimAt_22


set_option maxHeartbeats 4000000 in
set_option maxRecDepth 100000 in
theorem t_X4_tell_2 (l : Launch) (dC : Nat → ClassId) (dI : Nat → Nat → Nat) (dA : Nat → ClassId) (L : List Nat) (h : hx_h) (sz : Nat) (x : Nat) (i1 : Int32) (i2 : Int32) (i3 : Int32) (i4 : Int32) (hT : hx_T T_tb L h) (gx : hx_g L h x 4)  : Met l yX4_tell (Cond.code yX4_tell cX4_tell 5 none :: hx_all) ({ frames := 0, cells := 0, slots := 0, locals := 0 }) (va_Pc [.ref x, .int i1, .int i2, .int i3, .int i4] (hx_B T_tb (P_ty dA) (dC, dI) vwCl L h sz)) (va_Qv (fun (u : List Nat × hx_h) => (∃ (x1 : Int32) (y1 : Int32), u.2.2.1 x 5 = x1 ∧ u.2.2.1 x 6 = y1 ∧ (x1 = i3 ∧ y1 = i4 ∧ ∀ a k, a ≠ x → u.2.2.1 a k = h.2.1 a k)) ∧ hx_T T_tb u.1 u.2 ∧ hx_S T_tb [(4, 3), (4, 4), (4, 5), (4, 6)] L h u.1 u.2) (hx_E T_tb (P_ty dA) (dC, dI) vwCl (hx_A L sz)) (hx_A L sz)) 0 0 (hx_A L sz) := by
  refine hx_met (lv := [(0, .ref x), (1, .int i1), (2, .int i2), (3, .int i3), (4, .int i4)]) (by decide +kernel) rfl (Nat.le_of_ble_eq_true rfl) rfl ?_
  intro p e s m below meth c hx hb hml hr hlk hts0 hown hin hsz hW ls hl
  have hts : ∀ w ∈ hx_all, w.before _ s = true := fun w hw => hts0 w (List.mem_cons_of_mem _ hw)
  have hown : s.vm.findClass "SmallCourt$Person" = some m.cls := hown
  have hM : hx_S T_tb [(4, 3), (4, 4), (4, 5), (4, 6)] L h L h := hx_S.rf
  refine lv_aload_n hx hb dX4_tell_0 rfl (lv_at hl 0 rfl) ?_
  refine lv_iload_n hx hb dX4_tell_1 rfl (lv_at hl 1 rfl) ?_
  refine hx_puti hx hb hts hC_4 hown hW hT (hx_S.rf (M := [(4, 3)])) gx tt_4 3 (by decide) rfl kw_616 ⟨rfl, rfl, rfl⟩ rfl (x := i1) (i32_r _) rfl rfl rfl (List.mem_singleton.mpr rfl) dX4_tell_2 (fun H locs h_1 eh_1 hW hT hs => ?_)
  have hM := hM.tr (hs.mono (by decide))
  have gx := gx.S hs
  have f_2 : h_1.2.1 x 3 = i1 := by rw [eh_1]; exact hx_pi_at _ _ _ _
  refine lv_aload_n hx hb dX4_tell_5 rfl (lv_at hl 0 rfl) ?_
  refine lv_iload_n hx hb dX4_tell_6 rfl (lv_at hl 2 rfl) ?_
  refine hx_puti hx hb hts hC_4 hown hW hT (hx_S.rf (M := [(4, 4)])) gx tt_4 4 (by decide) rfl kw_617 ⟨rfl, rfl, rfl⟩ rfl (x := i2) (i32_r _) rfl rfl rfl (List.mem_singleton.mpr rfl) dX4_tell_7 (fun H locs h_3 eh_3 hW hT hs => ?_)
  have f_2 := (hs.o gx trivial rfl).1.trans f_2
  have hM := hM.tr (hs.mono (by decide))
  have gx := gx.S hs
  have f_4 : h_3.2.1 x 4 = i2 := by rw [eh_3]; exact hx_pi_at _ _ _ _
  refine lv_aload_n hx hb dX4_tell_10 rfl (lv_at hl 0 rfl) ?_
  refine lv_iload_n hx hb dX4_tell_11 rfl (lv_at hl 3 rfl) ?_
  refine hx_puti hx hb hts hC_4 hown hW hT (hx_S.rf (M := [(4, 5)])) gx tt_4 5 (by decide) rfl kw_618 ⟨rfl, rfl, rfl⟩ rfl (x := i3) (i32_r _) rfl rfl rfl (List.mem_singleton.mpr rfl) dX4_tell_12 (fun H locs h_5 eh_5 hW hT hs => ?_)
  have f_2 := (hs.o gx trivial rfl).1.trans f_2
  have f_4 := (hs.o gx trivial rfl).1.trans f_4
  have hM := hM.tr (hs.mono (by decide))
  have gx := gx.S hs
  have f_6 : h_5.2.1 x 5 = i3 := by rw [eh_5]; exact hx_pi_at _ _ _ _
  refine lv_aload_n hx hb dX4_tell_15 rfl (lv_at hl 0 rfl) ?_
  refine lv_iload hx hb dX4_tell_16 (lv_at hl 4 rfl) ?_
  refine hx_puti hx hb hts hC_4 hown hW hT (hx_S.rf (M := [(4, 6)])) gx tt_4 6 (by decide) rfl kw_620 ⟨rfl, rfl, rfl⟩ rfl (x := i4) (i32_r _) rfl rfl rfl (List.mem_singleton.mpr rfl) dX4_tell_18 (fun H locs h_7 eh_7 hW hT hs => ?_)
  have f_2 := (hs.o gx trivial rfl).1.trans f_2
  have f_4 := (hs.o gx trivial rfl).1.trans f_4
  have f_6 := (hs.o gx trivial rfl).1.trans f_6
  have hM := hM.tr (hs.mono (by decide))
  have gx := gx.S hs
  have f_8 : h_7.2.1 x 6 = i4 := by rw [eh_7]; exact hx_pi_at _ _ _ _
  exact hx_retv hx hb hr hlk hW ⟨⟨i3, i4, f_6, f_8, ⟨rfl, rfl, fun a k ne => by show h_7.2.1 a k = h.2.1 a k; rw [eh_7, hx_pi_ne _ _ (fun z => ne z.1), eh_5, hx_pi_ne _ _ (fun z => ne z.1), eh_3, hx_pi_ne _ _ (fun z => ne z.1), eh_1, hx_pi_ne _ _ (fun z => ne z.1)]⟩⟩, hT, hM⟩ dX4_tell_21


set_option maxHeartbeats 4000000 in
set_option maxRecDepth 100000 in
theorem t_X10_areLives_2 (l : Launch) (dC : Nat → ClassId) (dI : Nat → Nat → Nat) (dA : Nat → ClassId) (L : List Nat) (h : hx_h) (sz : Nat) (i1 : Int32) (i2 : Int32) (i3 : Int32) (i4 : Int32) (hT : hx_T T_tb L h)   : Met l yX10_areLives (Cond.code yX10_areLives cX10_areLives 4 (some .boolean) :: hx_all) ({ frames := 1, cells := 0, slots := 0, locals := 22 }) (va_Pc [.int i1, .int i2, .int i3, .int i4] (hx_B T_tb (P_ty dA) (dC, dI) vwCl L h sz)) (va_Qi (fun (r : Int32) (u : List Nat × hx_h) => ((r.toInt = 0 ∧ (i1.toInt < 0 ∨ 9999 < i1.toInt ∨ i2.toInt < 1 ∨ 20 < i2.toInt ∨ i3.toInt < 0 ∨ 99 < i3.toInt ∨ i4.toInt < 0 ∨ 99 < i4.toInt)) ∨ (r.toInt = 1 ∧ 0 ≤ i1.toInt ∧ i1.toInt ≤ 9999 ∧ 1 ≤ i2.toInt ∧ i2.toInt ≤ 20 ∧ 0 ≤ i3.toInt ∧ i3.toInt ≤ 99 ∧ 0 ≤ i4.toInt ∧ i4.toInt ≤ 99)) ∧ hx_T T_tb u.1 u.2 ∧ hx_S T_tb [] L h u.1 u.2) (hx_E T_tb (P_ty dA) (dC, dI) vwCl (hx_A L sz)) (hx_A L sz)) 0 0 (hx_A L sz) := by
  refine hx_met (lv := [(0, .int i1), (1, .int i2), (2, .int i3), (3, .int i4)]) (by decide +kernel) rfl (Nat.le_of_ble_eq_true rfl) rfl ?_
  intro p e s m below meth c hx hb hml hr hlk hts0 hown hin hsz hW ls hl
  have hts : ∀ w ∈ hx_all, w.before _ s = true := fun w hw => hts0 w (List.mem_cons_of_mem _ hw)
  have hown : s.vm.findClass "SmallCourtModel" = some m.cls := hown
  have hM : hx_S T_tb [] L h L h := hx_S.rf
  refine lv_iload_n hx hb dX10_areLives_0 rfl (lv_at hl 0 rfl) ?_
  refine lv_iconst (v := 0) hx hb dX10_areLives_1 (by decide) ?_
  refine lv_sipush (v := 9999) hx hb dX10_areLives_2 (by decide) ?_
  have zc_9999 : (9999 : Int32).toInt = 9999 := by decide
  have zc_0 : (0 : Int32).toInt = 0 := by decide
  refine hx_goi (hx_runS (As := [.int i1, .int (0 : Int32), .int (9999 : Int32)]) (rest := []) ⟨hx, hb, hml, hown, hts⟩ hW (t_X10_in l dC dI dA L h s.heap.size i1 (0 : Int32) (9999 : Int32) hT) (va_cwS 3 hts (hx_gS kw_1445 kw_1443 kw_1444 kw_103) rfl rfl rfl (by decide +kernel) ⟨Nat.le_of_ble_eq_true rfl, Nat.le_of_ble_eq_true rfl⟩) rfl hl.1 rfl (Nat.le_of_ble_eq_true rfl) dX10_areLives_5 ⟨Nat.le_of_ble_eq_true rfl, Nat.le_of_ble_eq_true rfl⟩) hW (fun r_3 L_1 h_2 H locs p_4 hW => ?_)
  obtain ⟨hr_5, hT, hs⟩ := p_4
  have hT : hx_T T_tb L_1 h_2 := hT
  have hs : hx_S T_tb [] L h L_1 h_2 := hs
  have hM := hM.tr (hs.mono (by decide))
  refine hb_if_eq (zx := r_3.toInt) (tgt := 45) hx hb rfl dX10_areLives_8 (by decide) (fun c_6 => ?_) (fun c_6 => ?_)
  · skip
    refine lv_iconst (v := 0) hx hb dX10_areLives_45 (by decide) ?_
    exact hx_retz hx hb hr rfl hlk hW ⟨(by have zr : (0 : Int32).toInt = 0 := (by decide); (first | omega | (refine ⟨?_, ?_⟩ <;> omega))), hT, hM⟩ dX10_areLives_46
  · skip
    refine lv_iload_n hx hb dX10_areLives_11 rfl (lv_at hl 1 rfl) ?_
    refine lv_iconst (v := 1) hx hb dX10_areLives_12 (by decide) ?_
    refine lv_bipush (v := 20) hx hb dX10_areLives_13 (by decide) ?_
    have zc_20 : (20 : Int32).toInt = 20 := by decide
    have zc_1 : (1 : Int32).toInt = 1 := by decide
    refine hx_goi (hx_runS (As := [.int i2, .int (1 : Int32), .int (20 : Int32)]) (rest := []) ⟨hx, hb, hml, hown, hts⟩ hW (t_X10_in l dC dI dA L_1 h_2 H.size i2 (1 : Int32) (20 : Int32) hT) (va_cwS 3 hts (hx_gS kw_1445 kw_1443 kw_1444 kw_103) rfl rfl rfl (by decide +kernel) ⟨Nat.le_of_ble_eq_true rfl, Nat.le_of_ble_eq_true rfl⟩) rfl hl.1 rfl (Nat.le_of_ble_eq_true rfl) dX10_areLives_15 ⟨Nat.le_of_ble_eq_true rfl, Nat.le_of_ble_eq_true rfl⟩) hW (fun r_9 L_7 h_8 H locs p_10 hW => ?_)
    obtain ⟨hr_11, hT, hs⟩ := p_10
    have hT : hx_T T_tb L_7 h_8 := hT
    have hs : hx_S T_tb [] L_1 h_2 L_7 h_8 := hs
    have hM := hM.tr (hs.mono (by decide))
    refine hb_if_eq (zx := r_9.toInt) (tgt := 45) hx hb rfl dX10_areLives_18 (by decide) (fun c_12 => ?_) (fun c_12 => ?_)
    · skip
      refine lv_iconst (v := 0) hx hb dX10_areLives_45 (by decide) ?_
      exact hx_retz hx hb hr rfl hlk hW ⟨(by have zr : (0 : Int32).toInt = 0 := (by decide); (first | omega | (refine ⟨?_, ?_⟩ <;> omega))), hT, hM⟩ dX10_areLives_46
    · skip
      refine lv_iload_n hx hb dX10_areLives_21 rfl (lv_at hl 2 rfl) ?_
      refine lv_iconst (v := 0) hx hb dX10_areLives_22 (by decide) ?_
      refine lv_bipush (v := 99) hx hb dX10_areLives_23 (by decide) ?_
      have zc_99 : (99 : Int32).toInt = 99 := by decide
      refine hx_goi (hx_runS (As := [.int i3, .int (0 : Int32), .int (99 : Int32)]) (rest := []) ⟨hx, hb, hml, hown, hts⟩ hW (t_X10_in l dC dI dA L_7 h_8 H.size i3 (0 : Int32) (99 : Int32) hT) (va_cwS 3 hts (hx_gS kw_1445 kw_1443 kw_1444 kw_103) rfl rfl rfl (by decide +kernel) ⟨Nat.le_of_ble_eq_true rfl, Nat.le_of_ble_eq_true rfl⟩) rfl hl.1 rfl (Nat.le_of_ble_eq_true rfl) dX10_areLives_25 ⟨Nat.le_of_ble_eq_true rfl, Nat.le_of_ble_eq_true rfl⟩) hW (fun r_15 L_13 h_14 H locs p_16 hW => ?_)
      obtain ⟨hr_17, hT, hs⟩ := p_16
      have hT : hx_T T_tb L_13 h_14 := hT
      have hs : hx_S T_tb [] L_7 h_8 L_13 h_14 := hs
      have hM := hM.tr (hs.mono (by decide))
      refine hb_if_eq (zx := r_15.toInt) (tgt := 45) hx hb rfl dX10_areLives_28 (by decide) (fun c_18 => ?_) (fun c_18 => ?_)
      · skip
        refine lv_iconst (v := 0) hx hb dX10_areLives_45 (by decide) ?_
        exact hx_retz hx hb hr rfl hlk hW ⟨(by have zr : (0 : Int32).toInt = 0 := (by decide); (first | omega | (refine ⟨?_, ?_⟩ <;> omega))), hT, hM⟩ dX10_areLives_46
      · skip
        refine lv_iload_n hx hb dX10_areLives_31 rfl (lv_at hl 3 rfl) ?_
        refine lv_iconst (v := 0) hx hb dX10_areLives_32 (by decide) ?_
        refine lv_bipush (v := 99) hx hb dX10_areLives_33 (by decide) ?_
        refine hx_goi (hx_runS (As := [.int i4, .int (0 : Int32), .int (99 : Int32)]) (rest := []) ⟨hx, hb, hml, hown, hts⟩ hW (t_X10_in l dC dI dA L_13 h_14 H.size i4 (0 : Int32) (99 : Int32) hT) (va_cwS 3 hts (hx_gS kw_1445 kw_1443 kw_1444 kw_103) rfl rfl rfl (by decide +kernel) ⟨Nat.le_of_ble_eq_true rfl, Nat.le_of_ble_eq_true rfl⟩) rfl hl.1 rfl (Nat.le_of_ble_eq_true rfl) dX10_areLives_35 ⟨Nat.le_of_ble_eq_true rfl, Nat.le_of_ble_eq_true rfl⟩) hW (fun r_21 L_19 h_20 H locs p_22 hW => ?_)
        obtain ⟨hr_23, hT, hs⟩ := p_22
        have hT : hx_T T_tb L_19 h_20 := hT
        have hs : hx_S T_tb [] L_13 h_14 L_19 h_20 := hs
        have hM := hM.tr (hs.mono (by decide))
        refine hb_if_eq (zx := r_21.toInt) (tgt := 45) hx hb rfl dX10_areLives_38 (by decide) (fun c_24 => ?_) (fun c_24 => ?_)
        · skip
          refine lv_iconst (v := 0) hx hb dX10_areLives_45 (by decide) ?_
          exact hx_retz hx hb hr rfl hlk hW ⟨(by have zr : (0 : Int32).toInt = 0 := (by decide); (first | omega | (refine ⟨?_, ?_⟩ <;> omega))), hT, hM⟩ dX10_areLives_46
        · skip
          refine lv_iconst (v := 1) hx hb dX10_areLives_41 (by decide) ?_
          refine lv_goto (tgt := 46) hx hb dX10_areLives_42 (by decide) ?_
          exact hx_retz hx hb hr rfl hlk hW ⟨(by have zr : (1 : Int32).toInt = 1 := (by decide); (first | omega | (refine ⟨?_, ?_⟩ <;> omega))), hT, hM⟩ dX10_areLives_46


set_option maxHeartbeats 4000000 in
set_option maxRecDepth 100000 in
theorem t_X10_lives_2 (l : Launch) (dC : Nat → ClassId) (dI : Nat → Nat → Nat) (dA : Nat → ClassId) (L : List Nat) (h : hx_h) (sz : Nat) (x : Nat) (i1 : Int32) (i2 : Int32) (i3 : Int32) (i4 : Int32) (i5 : Int32) (hT : hx_T T_tb L h) (gx : hx_g L h x 10) (qdx : Nat) (gqdx : hx_g L h qdx 61) (f_x_24 : h.2.2 x 24 = some qdx) (qdy : Nat) (gqdy : hx_g L h qdy 62) (f_x_25 : h.2.2 x 25 = some qdy) (dxf : Nat → Int32) (af_qdx : h.2.1 qdx = dxf) (dyf : Nat → Int32) (af_qdy : h.2.1 qdy = dyf) (hi1 : 0 ≤ i1.toInt ∧ i1.toInt ≤ 39) (hi4 : 0 ≤ i4.toInt ∧ i4.toInt ≤ 99) (hi5 : 0 ≤ i5.toInt ∧ i5.toInt ≤ 99) : Met l yX10_lives (Cond.code yX10_lives cX10_lives 6 none :: hx_all) ({ frames := 0, cells := 0, slots := 0, locals := 0 }) (va_Pc [.ref x, .int i1, .int i2, .int i3, .int i4, .int i5] (hx_B T_tb (P_ty dA) (dC, dI) vwCl L h sz)) (va_Qv (fun (u : List Nat × hx_h) => (∃ (dxf1 : Nat → Int32) (dyf1 : Nat → Int32), u.2.2.1 qdx = dxf1 ∧ u.2.2.1 qdy = dyf1 ∧ (dxf1 = hx_up dxf i1.toInt.toNat i4 ∧ dyf1 = hx_up dyf i1.toInt.toNat i5)) ∧ hx_T T_tb u.1 u.2 ∧ hx_S T_tb [(59, 0), (60, 0), (61, 0), (62, 0)] L h u.1 u.2) (hx_E T_tb (P_ty dA) (dC, dI) vwCl (hx_A L sz)) (hx_A L sz)) 0 0 (hx_A L sz) := by
  refine hx_met (lv := [(0, .ref x), (1, .int i1), (2, .int i2), (3, .int i3), (4, .int i4), (5, .int i5)]) (by decide +kernel) rfl (Nat.le_of_ble_eq_true rfl) rfl ?_
  intro p e s m below meth c hx hb hml hr hlk hts0 hown hin hsz hW ls hl
  have hts : ∀ w ∈ hx_all, w.before _ s = true := fun w hw => hts0 w (List.mem_cons_of_mem _ hw)
  have hown : s.vm.findClass "SmallCourtModel" = some m.cls := hown
  have hM : hx_S T_tb [(59, 0), (60, 0), (61, 0), (62, 0)] L h L h := hx_S.rf
  refine lv_aload_n hx hb dX10_lives_0 rfl (lv_at hl 0 rfl) ?_
  refine hx_getn hx hb hts hC_10 hown hW hT gx tt_10 22 (by decide) rfl kw_1165 ⟨rfl, rfl, rfl⟩ dX10_lives_1 (fun q_1 fq_1 gq_1 => ?_)
  refine lv_iload_n hx hb dX10_lives_4 rfl (lv_at hl 1 rfl) ?_
  refine lv_iload_n hx hb dX10_lives_5 rfl (lv_at hl 2 rfl) ?_
  refine hx_iast hx hb hW hT (hx_S.rf (M := [(59, 0)])) gq_1 tt_59 rfl ⟨by omega, by omega⟩ rfl (i32_r _) (List.mem_singleton.mpr rfl) dX10_lives_6 (fun H locs h_2 eh_2 hW hT hs => ?_)
  have f_x_24 := (hs.o gx trivial rfl).2.trans f_x_24
  have f_x_25 := (hs.o gx trivial rfl).2.trans f_x_25
  have fq_1 := (hs.o gx trivial rfl).2.trans fq_1
  have af_qdx : h_2.2.1 qdx = dxf := (funext fun j => (hs.a gqdx rfl j).1).trans af_qdx
  have af_qdy : h_2.2.1 qdy = dyf := (funext fun j => (hs.a gqdy rfl j).1).trans af_qdy
  have hM := hM.tr (hs.mono (by decide))
  have gx := gx.S hs
  have gqdx := gqdx.S hs
  have gqdy := gqdy.S hs
  have gq_1 := gq_1.S hs
  refine lv_aload_n hx hb dX10_lives_7 rfl (lv_at hl 0 rfl) ?_
  refine hx_getn hx hb hts hC_10 hown hW hT gx tt_10 23 (by decide) rfl kw_1166 ⟨rfl, rfl, rfl⟩ dX10_lives_8 (fun q_3 fq_3 gq_3 => ?_)
  refine lv_iload_n hx hb dX10_lives_11 rfl (lv_at hl 1 rfl) ?_
  refine lv_iload_n hx hb dX10_lives_12 rfl (lv_at hl 3 rfl) ?_
  refine hx_iast hx hb hW hT (hx_S.rf (M := [(60, 0)])) gq_3 tt_60 rfl ⟨by omega, by omega⟩ rfl (i32_r _) (List.mem_singleton.mpr rfl) dX10_lives_13 (fun H locs h_4 eh_4 hW hT hs => ?_)
  have f_x_24 := (hs.o gx trivial rfl).2.trans f_x_24
  have f_x_25 := (hs.o gx trivial rfl).2.trans f_x_25
  have fq_1 := (hs.o gx trivial rfl).2.trans fq_1
  have fq_3 := (hs.o gx trivial rfl).2.trans fq_3
  have af_qdx : h_4.2.1 qdx = dxf := (funext fun j => (hs.a gqdx rfl j).1).trans af_qdx
  have af_qdy : h_4.2.1 qdy = dyf := (funext fun j => (hs.a gqdy rfl j).1).trans af_qdy
  have hM := hM.tr (hs.mono (by decide))
  have gx := gx.S hs
  have gqdx := gqdx.S hs
  have gqdy := gqdy.S hs
  have gq_1 := gq_1.S hs
  have gq_3 := gq_3.S hs
  refine lv_aload_n hx hb dX10_lives_14 rfl (lv_at hl 0 rfl) ?_
  refine hk_getr hx hb hts hC_10 hown hW gx tt_10 24 (by decide) rfl kw_1167 ⟨rfl, rfl, rfl⟩ f_x_24 dX10_lives_15 ?_
  refine lv_iload_n hx hb dX10_lives_18 rfl (lv_at hl 1 rfl) ?_
  refine lv_iload hx hb dX10_lives_19 (lv_at hl 4 rfl) ?_
  have af_qdxO := af_qdx
  refine hx_iast hx hb hW hT (hx_S.rf (M := [(61, 0)])) gqdx tt_61 rfl ⟨by omega, by omega⟩ rfl ⟨by omega, by omega⟩ (List.mem_singleton.mpr rfl) dX10_lives_21 (fun H locs h_5 eh_5 hW hT hs => ?_)
  have f_x_24 := (hs.o gx trivial rfl).2.trans f_x_24
  have f_x_25 := (hs.o gx trivial rfl).2.trans f_x_25
  have fq_1 := (hs.o gx trivial rfl).2.trans fq_1
  have fq_3 := (hs.o gx trivial rfl).2.trans fq_3
  have af_qdy : h_5.2.1 qdy = dyf := (funext fun j => (hs.a gqdy rfl j).1).trans af_qdy
  have hM := hM.tr (hs.mono (by decide))
  have gx := gx.S hs
  have gqdx := gqdx.S hs
  have gqdy := gqdy.S hs
  have gq_1 := gq_1.S hs
  have gq_3 := gq_3.S hs
  obtain ⟨fa_6, dfa_6⟩ : ∃ g : Nat → Int32, g = hx_up dxf i1.toNatClampNeg i4 := ⟨_, rfl⟩
  have nfa_6 : h_5.2.1 qdx = fa_6 := by rw [eh_5, dfa_6, ← af_qdxO]; exact hx_pi_fun _ _ _ _
  refine lv_aload_n hx hb dX10_lives_22 rfl (lv_at hl 0 rfl) ?_
  refine hk_getr hx hb hts hC_10 hown hW gx tt_10 25 (by decide) rfl kw_1168 ⟨rfl, rfl, rfl⟩ f_x_25 dX10_lives_23 ?_
  refine lv_iload_n hx hb dX10_lives_26 rfl (lv_at hl 1 rfl) ?_
  refine lv_iload hx hb dX10_lives_27 (lv_at hl 5 rfl) ?_
  have af_qdyO := af_qdy
  refine hx_iast hx hb hW hT (hx_S.rf (M := [(62, 0)])) gqdy tt_62 rfl ⟨by omega, by omega⟩ rfl ⟨by omega, by omega⟩ (List.mem_singleton.mpr rfl) dX10_lives_29 (fun H locs h_7 eh_7 hW hT hs => ?_)
  have f_x_24 := (hs.o gx trivial rfl).2.trans f_x_24
  have f_x_25 := (hs.o gx trivial rfl).2.trans f_x_25
  have fq_1 := (hs.o gx trivial rfl).2.trans fq_1
  have fq_3 := (hs.o gx trivial rfl).2.trans fq_3
  have nfa_6 : h_7.2.1 qdx = fa_6 := (funext fun j => (hs.a gqdx rfl j).1).trans nfa_6
  have hM := hM.tr (hs.mono (by decide))
  have gx := gx.S hs
  have gqdx := gqdx.S hs
  have gqdy := gqdy.S hs
  have gq_1 := gq_1.S hs
  have gq_3 := gq_3.S hs
  obtain ⟨fa_8, dfa_8⟩ : ∃ g : Nat → Int32, g = hx_up dyf i1.toNatClampNeg i5 := ⟨_, rfl⟩
  have nfa_8 : h_7.2.1 qdy = fa_8 := by rw [eh_7, dfa_8, ← af_qdyO]; exact hx_pi_fun _ _ _ _
  exact hx_retv hx hb hr hlk hW ⟨⟨fa_6, fa_8, nfa_6, nfa_8, ⟨dfa_6, dfa_8⟩⟩, hT, hM⟩ dX10_lives_30

