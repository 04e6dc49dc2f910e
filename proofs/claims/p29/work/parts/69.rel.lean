
set_option maxHeartbeats 4000000 in
set_option maxRecDepth 100000 in
theorem t_X9_isHousehold_2 (l : Launch) (dC : Nat → ClassId) (dI : Nat → Nat → Nat) (dA : Nat → ClassId) (L : List Nat) (h : hx_h) (sz : Nat) (i1 : Int32) (i2 : Int32) (i3 : Int32) (i4 : Int32) (hT : hx_T T_tb L h)   : Met l yX9_isHousehold (Cond.code yX9_isHousehold cX9_isHousehold 4 (some .boolean) :: hx_all) ({ frames := 1, cells := 0, slots := 0, locals := 22 }) (va_Pc [.int i1, .int i2, .int i3, .int i4] (hx_B T_tb (P_ty dA) (dC, dI) vwCl L h sz)) (va_Qi (fun (r : Int32) (u : List Nat × hx_h) => ((r.toInt = 0 ∧ (i1.toInt < 0 ∨ 9999 < i1.toInt ∨ i2.toInt < 1 ∨ 20 < i2.toInt ∨ i3.toInt < 0 ∨ 99 < i3.toInt ∨ i4.toInt < 0 ∨ 99 < i4.toInt)) ∨ (r.toInt = 1 ∧ 0 ≤ i1.toInt ∧ i1.toInt ≤ 9999 ∧ 1 ≤ i2.toInt ∧ i2.toInt ≤ 20 ∧ 0 ≤ i3.toInt ∧ i3.toInt ≤ 99 ∧ 0 ≤ i4.toInt ∧ i4.toInt ≤ 99)) ∧ hx_T T_tb u.1 u.2 ∧ hx_S T_tb [] L h u.1 u.2) (hx_E T_tb (P_ty dA) (dC, dI) vwCl (hx_A L sz)) (hx_A L sz)) 0 0 (hx_A L sz) := by
  refine hx_met (lv := [(0, .int i1), (1, .int i2), (2, .int i3), (3, .int i4)]) (by decide +kernel) rfl (Nat.le_of_ble_eq_true rfl) rfl ?_
  intro p e s m below meth c hx hb hml hr hlk hts0 hown hin hsz hW ls hl
  have hts : ∀ w ∈ hx_all, w.before _ s = true := fun w hw => hts0 w (List.mem_cons_of_mem _ hw)
  have hown : s.vm.findClass "SmallCourt" = some m.cls := hown
  have hM : hx_S T_tb [] L h L h := hx_S.rf
  refine lv_iload_n hx hb dX9_isHousehold_0 rfl (lv_at hl 0 rfl) ?_
  refine lv_iconst (v := 0) hx hb dX9_isHousehold_1 (by decide) ?_
  refine lv_sipush (v := 9999) hx hb dX9_isHousehold_2 (by decide) ?_
  have zc_9999 : (9999 : Int32).toInt = 9999 := by decide
  have zc_0 : (0 : Int32).toInt = 0 := by decide
  refine hx_goi (hx_runS (As := [.int i1, .int (0 : Int32), .int (9999 : Int32)]) (rest := []) ⟨hx, hb, hml, hown, hts⟩ hW (t_X9_isWithin_2 l dC dI dA L h s.heap.size i1 (0 : Int32) (9999 : Int32) hT) (va_cwS 3 hts (hx_gS kw_434 kw_432 kw_433 kw_94) rfl rfl rfl (by decide +kernel) ⟨Nat.le_of_ble_eq_true rfl, Nat.le_of_ble_eq_true rfl⟩) rfl hl.1 rfl (Nat.le_of_ble_eq_true rfl) dX9_isHousehold_5 ⟨Nat.le_of_ble_eq_true rfl, Nat.le_of_ble_eq_true rfl⟩) hW (fun r_3 L_1 h_2 H locs p_4 hW => ?_)
  obtain ⟨hr_5, hT, hs⟩ := p_4
  replace hT : hx_T T_tb L_1 h_2 := hT
  replace hs : hx_S T_tb [] L h L_1 h_2 := hs
  replace hM := hM.tr (hs.mono (by decide))
  refine hb_if_eq (zx := r_3.toInt) (tgt := 45) hx hb rfl dX9_isHousehold_8 (by decide) (fun c_6 => ?_) (fun c_6 => ?_)
  · skip
    replace hr_5 := hr_5.resolve_right (fun z9 => absurd (c_6.symm.trans z9.1) (by decide))
    replace hr_5 := hr_5.2
    refine lv_iconst (v := 0) hx hb dX9_isHousehold_45 (by decide) ?_
    exact hx_retz hx hb hr rfl hlk hW ⟨(by have zr : (0 : Int32).toInt = 0 := (by decide); (first | omega | (refine ⟨?_, ?_⟩ <;> omega))), hT, hM⟩ dX9_isHousehold_46
  · skip
    replace hr_5 := hr_5.resolve_left (fun z9 => c_6 z9.1)
    replace c_6 := hr_5.1
    replace hr_5 := hr_5.2
    refine lv_iload_n hx hb dX9_isHousehold_11 rfl (lv_at hl 1 rfl) ?_
    refine lv_iconst (v := 1) hx hb dX9_isHousehold_12 (by decide) ?_
    refine lv_bipush (v := 20) hx hb dX9_isHousehold_13 (by decide) ?_
    have zc_20 : (20 : Int32).toInt = 20 := by decide
    have zc_1 : (1 : Int32).toInt = 1 := by decide
    refine hx_goi (hx_runS (As := [.int i2, .int (1 : Int32), .int (20 : Int32)]) (rest := []) ⟨hx, hb, hml, hown, hts⟩ hW (t_X9_isWithin_2 l dC dI dA L_1 h_2 H.size i2 (1 : Int32) (20 : Int32) hT) (va_cwS 3 hts (hx_gS kw_434 kw_432 kw_433 kw_94) rfl rfl rfl (by decide +kernel) ⟨Nat.le_of_ble_eq_true rfl, Nat.le_of_ble_eq_true rfl⟩) rfl hl.1 rfl (Nat.le_of_ble_eq_true rfl) dX9_isHousehold_15 ⟨Nat.le_of_ble_eq_true rfl, Nat.le_of_ble_eq_true rfl⟩) hW (fun r_9 L_7 h_8 H locs p_10 hW => ?_)
    obtain ⟨hr_11, hT, hs⟩ := p_10
    replace hT : hx_T T_tb L_7 h_8 := hT
    replace hs : hx_S T_tb [] L_1 h_2 L_7 h_8 := hs
    replace hM := hM.tr (hs.mono (by decide))
    refine hb_if_eq (zx := r_9.toInt) (tgt := 45) hx hb rfl dX9_isHousehold_18 (by decide) (fun c_12 => ?_) (fun c_12 => ?_)
    · skip
      replace hr_11 := hr_11.resolve_right (fun z9 => absurd (c_12.symm.trans z9.1) (by decide))
      replace hr_11 := hr_11.2
      refine lv_iconst (v := 0) hx hb dX9_isHousehold_45 (by decide) ?_
      exact hx_retz hx hb hr rfl hlk hW ⟨(by have zr : (0 : Int32).toInt = 0 := (by decide); (first | omega | (refine ⟨?_, ?_⟩ <;> omega))), hT, hM⟩ dX9_isHousehold_46
    · skip
      replace hr_11 := hr_11.resolve_left (fun z9 => c_12 z9.1)
      replace c_12 := hr_11.1
      replace hr_11 := hr_11.2
      refine lv_iload_n hx hb dX9_isHousehold_21 rfl (lv_at hl 2 rfl) ?_
      refine lv_iconst (v := 0) hx hb dX9_isHousehold_22 (by decide) ?_
      refine lv_bipush (v := 99) hx hb dX9_isHousehold_23 (by decide) ?_
      have zc_99 : (99 : Int32).toInt = 99 := by decide
      refine hx_goi (hx_runS (As := [.int i3, .int (0 : Int32), .int (99 : Int32)]) (rest := []) ⟨hx, hb, hml, hown, hts⟩ hW (t_X9_isWithin_2 l dC dI dA L_7 h_8 H.size i3 (0 : Int32) (99 : Int32) hT) (va_cwS 3 hts (hx_gS kw_434 kw_432 kw_433 kw_94) rfl rfl rfl (by decide +kernel) ⟨Nat.le_of_ble_eq_true rfl, Nat.le_of_ble_eq_true rfl⟩) rfl hl.1 rfl (Nat.le_of_ble_eq_true rfl) dX9_isHousehold_25 ⟨Nat.le_of_ble_eq_true rfl, Nat.le_of_ble_eq_true rfl⟩) hW (fun r_15 L_13 h_14 H locs p_16 hW => ?_)
      obtain ⟨hr_17, hT, hs⟩ := p_16
      replace hT : hx_T T_tb L_13 h_14 := hT
      replace hs : hx_S T_tb [] L_7 h_8 L_13 h_14 := hs
      replace hM := hM.tr (hs.mono (by decide))
      refine hb_if_eq (zx := r_15.toInt) (tgt := 45) hx hb rfl dX9_isHousehold_28 (by decide) (fun c_18 => ?_) (fun c_18 => ?_)
      · skip
        replace hr_17 := hr_17.resolve_right (fun z9 => absurd (c_18.symm.trans z9.1) (by decide))
        replace hr_17 := hr_17.2
        refine lv_iconst (v := 0) hx hb dX9_isHousehold_45 (by decide) ?_
        exact hx_retz hx hb hr rfl hlk hW ⟨(by have zr : (0 : Int32).toInt = 0 := (by decide); (first | omega | (refine ⟨?_, ?_⟩ <;> omega))), hT, hM⟩ dX9_isHousehold_46
      · skip
        replace hr_17 := hr_17.resolve_left (fun z9 => c_18 z9.1)
        replace c_18 := hr_17.1
        replace hr_17 := hr_17.2
        refine lv_iload_n hx hb dX9_isHousehold_31 rfl (lv_at hl 3 rfl) ?_
        refine lv_iconst (v := 0) hx hb dX9_isHousehold_32 (by decide) ?_
        refine lv_bipush (v := 99) hx hb dX9_isHousehold_33 (by decide) ?_
        refine hx_goi (hx_runS (As := [.int i4, .int (0 : Int32), .int (99 : Int32)]) (rest := []) ⟨hx, hb, hml, hown, hts⟩ hW (t_X9_isWithin_2 l dC dI dA L_13 h_14 H.size i4 (0 : Int32) (99 : Int32) hT) (va_cwS 3 hts (hx_gS kw_434 kw_432 kw_433 kw_94) rfl rfl rfl (by decide +kernel) ⟨Nat.le_of_ble_eq_true rfl, Nat.le_of_ble_eq_true rfl⟩) rfl hl.1 rfl (Nat.le_of_ble_eq_true rfl) dX9_isHousehold_35 ⟨Nat.le_of_ble_eq_true rfl, Nat.le_of_ble_eq_true rfl⟩) hW (fun r_21 L_19 h_20 H locs p_22 hW => ?_)
        obtain ⟨hr_23, hT, hs⟩ := p_22
        replace hT : hx_T T_tb L_19 h_20 := hT
        replace hs : hx_S T_tb [] L_13 h_14 L_19 h_20 := hs
        replace hM := hM.tr (hs.mono (by decide))
        refine hb_if_eq (zx := r_21.toInt) (tgt := 45) hx hb rfl dX9_isHousehold_38 (by decide) (fun c_24 => ?_) (fun c_24 => ?_)
        · skip
          replace hr_23 := hr_23.resolve_right (fun z9 => absurd (c_24.symm.trans z9.1) (by decide))
          replace hr_23 := hr_23.2
          refine lv_iconst (v := 0) hx hb dX9_isHousehold_45 (by decide) ?_
          exact hx_retz hx hb hr rfl hlk hW ⟨(by have zr : (0 : Int32).toInt = 0 := (by decide); (first | omega | (refine ⟨?_, ?_⟩ <;> omega))), hT, hM⟩ dX9_isHousehold_46
        · skip
          replace hr_23 := hr_23.resolve_left (fun z9 => c_24 z9.1)
          replace c_24 := hr_23.1
          replace hr_23 := hr_23.2
          refine lv_iconst (v := 1) hx hb dX9_isHousehold_41 (by decide) ?_
          refine lv_goto (tgt := 46) hx hb dX9_isHousehold_42 (by decide) ?_
          exact hx_retz hx hb hr rfl hlk hW ⟨(by have zr : (1 : Int32).toInt = 1 := (by decide); (first | omega | (refine ⟨?_, ?_⟩ <;> omega))), hT, hM⟩ dX9_isHousehold_46


set_option maxHeartbeats 4000000 in
set_option maxRecDepth 100000 in
theorem t_X9_personAt_2 (l : Launch) (dC : Nat → ClassId) (dI : Nat → Nat → Nat) (dA : Nat → ClassId) (L : List Nat) (h : hx_h) (sz : Nat) (x : Nat) (i1 : Int32) (hT : hx_T T_tb L h) (gx : hx_g L h x 9) (pn0 : Int32) (f_x_8 : h.2.1 x 8 = pn0) (qp : Nat) (gqp : hx_g L h qp 44) (f_x_7 : h.2.2 x 7 = some qp) (pf_x_8 : ∀ j : Nat, (j : Int) < (h.2.1 x 8).toInt → h.2.2 qp j ≠ none) : Met l yX9_personAt (Cond.code yX9_personAt cX9_personAt 2 (some (.object "SmallCourt$Person")) :: hx_all) ({ frames := 0, cells := 0, slots := 0, locals := 0 }) (va_Pc [.ref x, .int i1] (hx_B T_tb (P_ty dA) (dC, dI) vwCl L h sz)) (va_Qq (fun (r : Option Nat) (u : List Nat × hx_h) => ((∀ q, r = some q → hx_g u.1 u.2 q 4) ∧ ((r = none ∧ (i1.toInt < 0 ∨ pn0.toInt ≤ i1.toInt)) ∨ (0 ≤ i1.toInt ∧ i1.toInt < pn0.toInt ∧ ∃ q, r = some q ∧ u.2.2.2 qp i1.toNatClampNeg = some q))) ∧ hx_T T_tb u.1 u.2 ∧ hx_S T_tb [] L h u.1 u.2) (hx_E T_tb (P_ty dA) (dC, dI) vwCl (hx_A L sz)) (hx_A L sz)) 0 0 (hx_A L sz) := by
  refine hx_met (lv := [(0, .ref x), (1, .int i1)]) (by decide +kernel) rfl (Nat.le_of_ble_eq_true rfl) rfl ?_
  intro p e s m below meth c hx hb hml hr hlk hts0 hown hin hsz hW ls hl
  have hts : ∀ w ∈ hx_all, w.before _ s = true := fun w hw => hts0 w (List.mem_cons_of_mem _ hw)
  have hown : s.vm.findClass "SmallCourt" = some m.cls := hown
  have hM : hx_S T_tb [] L h L h := hx_S.rf
  have b_pn0 := hT.gi gx tt_9 (k := 8) rfl
  rw [f_x_8] at b_pn0
  have b_pn0 : 0 ≤ pn0.toInt ∧ pn0.toInt ≤ 40 := b_pn0
  refine lv_iload_n hx hb dX9_personAt_0 rfl (lv_at hl 1 rfl) ?_
  refine hb_if_lt (zx := i1.toInt) (tgt := 12) hx hb rfl dX9_personAt_1 (by decide) (fun c_1 => ?_) (fun c_1 => ?_)
  · skip
    refine lv_null hx hb dX9_personAt_12 ?_
    refine lv_goto (tgt := 22) hx hb dX9_personAt_13 (by decide) ?_
    exact hx_retq (v := none) hx hb hr (Or.inl ⟨_, rfl⟩) hlk hW ⟨⟨(fun q hq => by cases hq), (Or.inl ⟨rfl, by omega⟩)⟩, hT, hM⟩ dX9_personAt_22
  · skip
    refine lv_iload_n hx hb dX9_personAt_4 rfl (lv_at hl 1 rfl) ?_
    refine lv_aload_n hx hb dX9_personAt_5 rfl (lv_at hl 0 rfl) ?_
    refine hk_geti hx hb hts hC_9 hown hW (gx.S hM) tt_9 8 (by decide) rfl kw_372 ⟨rfl, rfl, rfl⟩ ((hM.o gx trivial rfl).1.trans f_x_8) dX9_personAt_6 ?_
    refine hb_icmp_lt (zx := i1.toInt) (zy := pn0.toInt) (tgt := 16) hx hb rfl rfl dX9_personAt_9 (by decide) (fun c_2 => ?_) (fun c_2 => ?_)
    · skip
      refine lv_aload_n hx hb dX9_personAt_16 rfl (lv_at hl 0 rfl) ?_
      refine hk_getr hx hb hts hC_9 hown hW (gx.S hM) tt_9 7 (by decide) rfl kw_371 ⟨rfl, rfl, rfl⟩ ((hM.o gx trivial rfl).2.trans f_x_7) dX9_personAt_17 ?_
      refine lv_iload_n hx hb dX9_personAt_20 rfl (lv_at hl 1 rfl) ?_
      refine hx_aaldN hx hb hW hT (gqp.S hM) tt_44 (t1 := 4) rfl ⟨by omega, by omega⟩ (pf_x_8 _ (by rw [((hM.o gx trivial rfl).1.trans f_x_8)]; exact hx_tnI (by omega) (by omega))) dX9_personAt_21 (fun q_3 fq_3 gq_3 => ?_)
      exact hx_retq (v := (some q_3)) hx hb hr (Or.inl ⟨_, rfl⟩) hlk hW ⟨⟨(fun q hq => by cases hq; exact gq_3), (Or.inr ⟨by omega, by omega, _, rfl, fq_3⟩)⟩, hT, hM⟩ dX9_personAt_22
    · skip
      refine lv_null hx hb dX9_personAt_12 ?_
      refine lv_goto (tgt := 22) hx hb dX9_personAt_13 (by decide) ?_
      exact hx_retq (v := none) hx hb hr (Or.inl ⟨_, rfl⟩) hlk hW ⟨⟨(fun q hq => by cases hq), (Or.inl ⟨rfl, by omega⟩)⟩, hT, hM⟩ dX9_personAt_22


set_option maxHeartbeats 4000000 in
set_option maxRecDepth 100000 in
theorem t_X9_claimAt_2 (l : Launch) (dC : Nat → ClassId) (dI : Nat → Nat → Nat) (dA : Nat → ClassId) (L : List Nat) (h : hx_h) (sz : Nat) (x : Nat) (i1 : Int32) (hT : hx_T T_tb L h) (gx : hx_g L h x 9) (cn0 : Int32) (f_x_11 : h.2.1 x 11 = cn0) (qc : Nat) (gqc : hx_g L h qc 45) (f_x_10 : h.2.2 x 10 = some qc) (pf_x_11 : ∀ j : Nat, (j : Int) < (h.2.1 x 11).toInt → h.2.2 qc j ≠ none) : Met l yX9_claimAt (Cond.code yX9_claimAt cX9_claimAt 2 (some (.object "SmallCourt$Claim")) :: hx_all) ({ frames := 0, cells := 0, slots := 0, locals := 0 }) (va_Pc [.ref x, .int i1] (hx_B T_tb (P_ty dA) (dC, dI) vwCl L h sz)) (va_Qq (fun (r : Option Nat) (u : List Nat × hx_h) => ((∀ q, r = some q → hx_g u.1 u.2 q 2) ∧ ((r = none ∧ (i1.toInt < 0 ∨ cn0.toInt ≤ i1.toInt)) ∨ (0 ≤ i1.toInt ∧ i1.toInt < cn0.toInt ∧ ∃ q, r = some q ∧ u.2.2.2 qc i1.toNatClampNeg = some q))) ∧ hx_T T_tb u.1 u.2 ∧ hx_S T_tb [] L h u.1 u.2) (hx_E T_tb (P_ty dA) (dC, dI) vwCl (hx_A L sz)) (hx_A L sz)) 0 0 (hx_A L sz) := by
  refine hx_met (lv := [(0, .ref x), (1, .int i1)]) (by decide +kernel) rfl (Nat.le_of_ble_eq_true rfl) rfl ?_
  intro p e s m below meth c hx hb hml hr hlk hts0 hown hin hsz hW ls hl
  have hts : ∀ w ∈ hx_all, w.before _ s = true := fun w hw => hts0 w (List.mem_cons_of_mem _ hw)
  have hown : s.vm.findClass "SmallCourt" = some m.cls := hown
  have hM : hx_S T_tb [] L h L h := hx_S.rf
  have b_cn0 := hT.gi gx tt_9 (k := 11) rfl
  rw [f_x_11] at b_cn0
  have b_cn0 : 0 ≤ cn0.toInt ∧ cn0.toInt ≤ 100 := b_cn0
  refine lv_iload_n hx hb dX9_claimAt_0 rfl (lv_at hl 1 rfl) ?_
  refine hb_if_lt (zx := i1.toInt) (tgt := 12) hx hb rfl dX9_claimAt_1 (by decide) (fun c_1 => ?_) (fun c_1 => ?_)
  · skip
    refine lv_null hx hb dX9_claimAt_12 ?_
    refine lv_goto (tgt := 22) hx hb dX9_claimAt_13 (by decide) ?_
    exact hx_retq (v := none) hx hb hr (Or.inl ⟨_, rfl⟩) hlk hW ⟨⟨(fun q hq => by cases hq), (Or.inl ⟨rfl, by omega⟩)⟩, hT, hM⟩ dX9_claimAt_22
  · skip
    refine lv_iload_n hx hb dX9_claimAt_4 rfl (lv_at hl 1 rfl) ?_
    refine lv_aload_n hx hb dX9_claimAt_5 rfl (lv_at hl 0 rfl) ?_
    refine hk_geti hx hb hts hC_9 hown hW (gx.S hM) tt_9 11 (by decide) rfl kw_375 ⟨rfl, rfl, rfl⟩ ((hM.o gx trivial rfl).1.trans f_x_11) dX9_claimAt_6 ?_
    refine hb_icmp_lt (zx := i1.toInt) (zy := cn0.toInt) (tgt := 16) hx hb rfl rfl dX9_claimAt_9 (by decide) (fun c_2 => ?_) (fun c_2 => ?_)
    · skip
      refine lv_aload_n hx hb dX9_claimAt_16 rfl (lv_at hl 0 rfl) ?_
      refine hk_getr hx hb hts hC_9 hown hW (gx.S hM) tt_9 10 (by decide) rfl kw_374 ⟨rfl, rfl, rfl⟩ ((hM.o gx trivial rfl).2.trans f_x_10) dX9_claimAt_17 ?_
      refine lv_iload_n hx hb dX9_claimAt_20 rfl (lv_at hl 1 rfl) ?_
      refine hx_aaldN hx hb hW hT (gqc.S hM) tt_45 (t1 := 2) rfl ⟨by omega, by omega⟩ (pf_x_11 _ (by rw [((hM.o gx trivial rfl).1.trans f_x_11)]; exact hx_tnI (by omega) (by omega))) dX9_claimAt_21 (fun q_3 fq_3 gq_3 => ?_)
      exact hx_retq (v := (some q_3)) hx hb hr (Or.inl ⟨_, rfl⟩) hlk hW ⟨⟨(fun q hq => by cases hq; exact gq_3), (Or.inr ⟨by omega, by omega, _, rfl, fq_3⟩)⟩, hT, hM⟩ dX9_claimAt_22
    · skip
      refine lv_null hx hb dX9_claimAt_12 ?_
      refine lv_goto (tgt := 22) hx hb dX9_claimAt_13 (by decide) ?_
      exact hx_retq (v := none) hx hb hr (Or.inl ⟨_, rfl⟩) hlk hW ⟨⟨(fun q hq => by cases hq), (Or.inl ⟨rfl, by omega⟩)⟩, hT, hM⟩ dX9_claimAt_22


set_option maxHeartbeats 4000000 in
set_option maxRecDepth 100000 in
theorem t_X9_areTwo_2 (l : Launch) (dC : Nat → ClassId) (dI : Nat → Nat → Nat) (dA : Nat → ClassId) (L : List Nat) (h : hx_h) (sz : Nat) (x : Nat) (i1 : Int32) (i2 : Int32) (hT : hx_T T_tb L h) (gx : hx_g L h x 9) (pn0 : Int32) (f_x_8 : h.2.1 x 8 = pn0) (qp : Nat) (gqp : hx_g L h qp 44) (f_x_7 : h.2.2 x 7 = some qp) (pf_x_8 : ∀ j : Nat, (j : Int) < (h.2.1 x 8).toInt → h.2.2 qp j ≠ none) : Met l yX9_areTwo (Cond.code yX9_areTwo cX9_areTwo 3 (some .boolean) :: hx_all) ({ frames := 1, cells := 0, slots := 0, locals := 21 }) (va_Pc [.ref x, .int i1, .int i2] (hx_B T_tb (P_ty dA) (dC, dI) vwCl L h sz)) (va_Qi (fun (r : Int32) (u : List Nat × hx_h) => ((r.toInt = 0 ∧ (i1.toInt = i2.toInt ∨ i1.toInt < 0 ∨ pn0.toInt ≤ i1.toInt ∨ i2.toInt < 0 ∨ pn0.toInt ≤ i2.toInt)) ∨ (r.toInt = 1 ∧ i1.toInt ≠ i2.toInt ∧ 0 ≤ i1.toInt ∧ i1.toInt < pn0.toInt ∧ 0 ≤ i2.toInt ∧ i2.toInt < pn0.toInt)) ∧ hx_T T_tb u.1 u.2 ∧ hx_S T_tb [] L h u.1 u.2) (hx_E T_tb (P_ty dA) (dC, dI) vwCl (hx_A L sz)) (hx_A L sz)) 0 0 (hx_A L sz) := by
  refine hx_met (lv := [(0, .ref x), (1, .int i1), (2, .int i2)]) (by decide +kernel) rfl (Nat.le_of_ble_eq_true rfl) rfl ?_
  intro p e s m below meth c hx hb hml hr hlk hts0 hown hin hsz hW ls hl
  have hts : ∀ w ∈ hx_all, w.before _ s = true := fun w hw => hts0 w (List.mem_cons_of_mem _ hw)
  have hown : s.vm.findClass "SmallCourt" = some m.cls := hown
  have hM : hx_S T_tb [] L h L h := hx_S.rf
  have b_pn0 := hT.gi gx tt_9 (k := 8) rfl
  rw [f_x_8] at b_pn0
  have b_pn0 : 0 ≤ pn0.toInt ∧ pn0.toInt ≤ 40 := b_pn0
  refine lv_iload_n hx hb dX9_areTwo_0 rfl (lv_at hl 1 rfl) ?_
  refine lv_iload_n hx hb dX9_areTwo_1 rfl (lv_at hl 2 rfl) ?_
  refine hb_icmp_eq (zx := i1.toInt) (zy := i2.toInt) (tgt := 25) hx hb rfl rfl dX9_areTwo_2 (by decide) (fun c_1 => ?_) (fun c_1 => ?_)
  · skip
    refine lv_iconst (v := 0) hx hb dX9_areTwo_25 (by decide) ?_
    exact hx_retz hx hb hr rfl hlk hW ⟨(by have zr : (0 : Int32).toInt = 0 := (by decide); omega), hT, hM⟩ dX9_areTwo_26
  · skip
    refine lv_aload_n hx hb dX9_areTwo_5 rfl (lv_at hl 0 rfl) ?_
    refine lv_iload_n hx hb dX9_areTwo_6 rfl (lv_at hl 1 rfl) ?_
    refine hx_goq (hx_runV (As := [.int i1]) (rest := []) ⟨hx, hb, hml, hown, hts⟩ hW (gx.S hM) tt_9 (T := TX9) (N := 20) rfl (t_X9_personAt_2 l dC dI dA L h s.heap.size x i1 hT (gx.S hM) pn0 ((hM.o gx trivial rfl).1.trans f_x_8) qp (gqp.S hM) ((hM.o gx trivial rfl).2.trans f_x_7) pf_x_8) (cwV 1 hts (hx_gV kw_659 kw_656 kw_658 kw_20 kw_94) rfl rfl rfl (by decide +kernel) ⟨Nat.le_of_ble_eq_true rfl, Nat.le_of_ble_eq_true rfl⟩) rfl hl.1 rfl (Nat.le_of_ble_eq_true rfl) dX9_areTwo_7 ⟨Nat.le_of_ble_eq_true rfl, Nat.le_of_ble_eq_true rfl⟩) hW (fun r_4 L_2 h_3 H locs p_5 hW => ?_)
    obtain ⟨hr_6, hT, hs⟩ := p_5
    replace hT : hx_T T_tb L_2 h_3 := hT
    replace hs : hx_S T_tb [] L h L_2 h_3 := hs
    replace pf_x_8 : ∀ j : Nat, (j : Int) < (h_3.2.1 x 8).toInt → h_3.2.2 qp j ≠ none := by
      intro j hj; rw [(hs.o (gx.S hM) trivial rfl).1] at hj; rw [(hs.a (gqp.S hM) rfl j).2]; exact pf_x_8 j hj
    replace hM := hM.tr (hs.mono (by decide))
    obtain ⟨hr_6, hr_6B⟩ := hr_6
    have hr_6 : ∀ q, r_4 = some q → hx_g L_2 h_3 q 4 := hr_6
    rcases r_4 with _ | q_7
    · skip
      have k_8 : i1.toInt < 0 ∨ pn0.toInt ≤ i1.toInt := by
        rcases hr_6B with ⟨_, z⟩ | ⟨_, _, q, z, _⟩
        · exact z
        · cases z
      refine lv_ifnullN (tgt := 25) hx hb dX9_areTwo_10 (by decide) ?_
      refine lv_iconst (v := 0) hx hb dX9_areTwo_25 (by decide) ?_
      exact hx_retz hx hb hr rfl hlk hW ⟨(by have zr : (0 : Int32).toInt = 0 := (by decide); omega), hT, hM⟩ dX9_areTwo_26
    · have gq_7 := hr_6 _ rfl
      have k_9 : 0 ≤ i1.toInt ∧ i1.toInt < pn0.toInt ∧ h_3.2.2 qp i1.toNatClampNeg = some q_7 := by
        rcases hr_6B with ⟨z, _⟩ | ⟨z1, z2, q, z3, z4⟩
        · cases z
        · cases z3; exact ⟨z1, z2, z4⟩
      have fo_10 := k_9.2.2
      have k_9 : 0 ≤ i1.toInt ∧ i1.toInt < pn0.toInt := ⟨k_9.1, k_9.2.1⟩
      refine lv_ifnull hx hb dX9_areTwo_10 ?_
      refine lv_aload_n hx hb dX9_areTwo_13 rfl (lv_at hl 0 rfl) ?_
      refine lv_iload_n hx hb dX9_areTwo_14 rfl (lv_at hl 2 rfl) ?_
      refine hx_goq (hx_runV (As := [.int i2]) (rest := []) ⟨hx, hb, hml, hown, hts⟩ hW (gx.S hM) tt_9 (T := TX9) (N := 20) rfl (t_X9_personAt_2 l dC dI dA L_2 h_3 H.size x i2 hT (gx.S hM) pn0 ((hM.o gx trivial rfl).1.trans f_x_8) qp (gqp.S hM) ((hM.o gx trivial rfl).2.trans f_x_7) pf_x_8) (cwV 1 hts (hx_gV kw_659 kw_656 kw_658 kw_20 kw_94) rfl rfl rfl (by decide +kernel) ⟨Nat.le_of_ble_eq_true rfl, Nat.le_of_ble_eq_true rfl⟩) rfl hl.1 rfl (Nat.le_of_ble_eq_true rfl) dX9_areTwo_15 ⟨Nat.le_of_ble_eq_true rfl, Nat.le_of_ble_eq_true rfl⟩) hW (fun r_13 L_11 h_12 H locs p_14 hW => ?_)
      obtain ⟨hr_15, hT, hs⟩ := p_14
      replace hT : hx_T T_tb L_11 h_12 := hT
      replace hs : hx_S T_tb [] L_2 h_3 L_11 h_12 := hs
      replace pf_x_8 : ∀ j : Nat, (j : Int) < (h_12.2.1 x 8).toInt → h_12.2.2 qp j ≠ none := by
        intro j hj; rw [(hs.o (gx.S hM) trivial rfl).1] at hj; rw [(hs.a (gqp.S hM) rfl j).2]; exact pf_x_8 j hj
      replace fo_10 := (hs.a (gqp.S hM) rfl _).2.trans fo_10
      replace hM := hM.tr (hs.mono (by decide))
      replace gq_7 := gq_7.S hs
      obtain ⟨hr_15, hr_15B⟩ := hr_15
      have hr_15 : ∀ q, r_13 = some q → hx_g L_11 h_12 q 4 := hr_15
      rcases r_13 with _ | q_16
      · skip
        have k_17 : i2.toInt < 0 ∨ pn0.toInt ≤ i2.toInt := by
          rcases hr_15B with ⟨_, z⟩ | ⟨_, _, q, z, _⟩
          · exact z
          · cases z
        refine lv_ifnullN (tgt := 25) hx hb dX9_areTwo_18 (by decide) ?_
        refine lv_iconst (v := 0) hx hb dX9_areTwo_25 (by decide) ?_
        exact hx_retz hx hb hr rfl hlk hW ⟨(by have zr : (0 : Int32).toInt = 0 := (by decide); omega), hT, hM⟩ dX9_areTwo_26
      · have gq_16 := hr_15 _ rfl
        have k_18 : 0 ≤ i2.toInt ∧ i2.toInt < pn0.toInt ∧ h_12.2.2 qp i2.toNatClampNeg = some q_16 := by
          rcases hr_15B with ⟨z, _⟩ | ⟨z1, z2, q, z3, z4⟩
          · cases z
          · cases z3; exact ⟨z1, z2, z4⟩
        have fo_19 := k_18.2.2
        have k_18 : 0 ≤ i2.toInt ∧ i2.toInt < pn0.toInt := ⟨k_18.1, k_18.2.1⟩
        refine lv_ifnull hx hb dX9_areTwo_18 ?_
        refine lv_iconst (v := 1) hx hb dX9_areTwo_21 (by decide) ?_
        refine lv_goto (tgt := 26) hx hb dX9_areTwo_22 (by decide) ?_
        exact hx_retz hx hb hr rfl hlk hW ⟨(by have zr : (1 : Int32).toInt = 1 := (by decide); omega), hT, hM⟩ dX9_areTwo_26


set_option maxHeartbeats 4000000 in
set_option maxRecDepth 100000 in
theorem t_X4_tell_2 (l : Launch) (dC : Nat → ClassId) (dI : Nat → Nat → Nat) (dA : Nat → ClassId) (L : List Nat) (h : hx_h) (sz : Nat) (x : Nat) (i1 : Int32) (i2 : Int32) (i3 : Int32) (i4 : Int32) (hT : hx_T T_tb L h) (gx : hx_g L h x 4)  : Met l yX4_tell (Cond.code yX4_tell cX4_tell 5 none :: hx_all) ({ frames := 0, cells := 0, slots := 0, locals := 0 }) (va_Pc [.ref x, .int i1, .int i2, .int i3, .int i4] (hx_B T_tb (P_ty dA) (dC, dI) vwCl L h sz)) (va_Qv (fun (u : List Nat × hx_h) => (∃ (x1 : Int32) (y1 : Int32), u.2.2.1 x 5 = x1 ∧ u.2.2.1 x 6 = y1 ∧ (x1 = i3 ∧ y1 = i4 ∧ ∀ a k, a ≠ x → u.2.2.1 a k = h.2.1 a k)) ∧ hx_T T_tb u.1 u.2 ∧ hx_S T_tb [(4, 3), (4, 4), (4, 5), (4, 6)] L h u.1 u.2) (hx_E T_tb (P_ty dA) (dC, dI) vwCl (hx_A L sz)) (hx_A L sz)) 0 0 (hx_A L sz) := by
  refine hx_met (lv := [(0, .ref x), (1, .int i1), (2, .int i2), (3, .int i3), (4, .int i4)]) (by decide +kernel) rfl (Nat.le_of_ble_eq_true rfl) rfl ?_
  intro p e s m below meth c hx hb hml hr hlk hts0 hown hin hsz hW ls hl
  have hts : ∀ w ∈ hx_all, w.before _ s = true := fun w hw => hts0 w (List.mem_cons_of_mem _ hw)
  have hown : s.vm.findClass "SmallCourt$Person" = some m.cls := hown
  have hM : hx_S T_tb [(4, 3), (4, 4), (4, 5), (4, 6)] L h L h := hx_S.rf
  refine lv_aload_n hx hb dX4_tell_0 rfl (lv_at hl 0 rfl) ?_
  refine lv_iload_n hx hb dX4_tell_1 rfl (lv_at hl 1 rfl) ?_
  refine hx_puti hx hb hts hC_4 hown hW hT (hx_S.rf (M := [(4, 3)])) (gx.S hM) tt_4 3 (by decide) rfl kw_616 ⟨rfl, rfl, rfl⟩ rfl (x := i1) (i32_r _) rfl rfl rfl (List.mem_singleton.mpr rfl) dX4_tell_2 (fun H locs h_1 eh_1 hW hT hs => ?_)
  replace hM := hM.tr (hs.mono (by decide))
  have f_2 : h_1.2.1 x 3 = i1 := by rw [eh_1]; exact hx_pi_at _ _ _ _
  refine lv_aload_n hx hb dX4_tell_5 rfl (lv_at hl 0 rfl) ?_
  refine lv_iload_n hx hb dX4_tell_6 rfl (lv_at hl 2 rfl) ?_
  refine hx_puti hx hb hts hC_4 hown hW hT (hx_S.rf (M := [(4, 4)])) (gx.S hM) tt_4 4 (by decide) rfl kw_617 ⟨rfl, rfl, rfl⟩ rfl (x := i2) (i32_r _) rfl rfl rfl (List.mem_singleton.mpr rfl) dX4_tell_7 (fun H locs h_3 eh_3 hW hT hs => ?_)
  replace f_2 := (hs.o (gx.S hM) trivial rfl).1.trans f_2
  replace hM := hM.tr (hs.mono (by decide))
  have f_4 : h_3.2.1 x 4 = i2 := by rw [eh_3]; exact hx_pi_at _ _ _ _
  refine lv_aload_n hx hb dX4_tell_10 rfl (lv_at hl 0 rfl) ?_
  refine lv_iload_n hx hb dX4_tell_11 rfl (lv_at hl 3 rfl) ?_
  refine hx_puti hx hb hts hC_4 hown hW hT (hx_S.rf (M := [(4, 5)])) (gx.S hM) tt_4 5 (by decide) rfl kw_618 ⟨rfl, rfl, rfl⟩ rfl (x := i3) (i32_r _) rfl rfl rfl (List.mem_singleton.mpr rfl) dX4_tell_12 (fun H locs h_5 eh_5 hW hT hs => ?_)
  replace f_2 := (hs.o (gx.S hM) trivial rfl).1.trans f_2
  replace f_4 := (hs.o (gx.S hM) trivial rfl).1.trans f_4
  replace hM := hM.tr (hs.mono (by decide))
  have f_6 : h_5.2.1 x 5 = i3 := by rw [eh_5]; exact hx_pi_at _ _ _ _
  refine lv_aload_n hx hb dX4_tell_15 rfl (lv_at hl 0 rfl) ?_
  refine lv_iload hx hb dX4_tell_16 (lv_at hl 4 rfl) ?_
  refine hx_puti hx hb hts hC_4 hown hW hT (hx_S.rf (M := [(4, 6)])) (gx.S hM) tt_4 6 (by decide) rfl kw_620 ⟨rfl, rfl, rfl⟩ rfl (x := i4) (i32_r _) rfl rfl rfl (List.mem_singleton.mpr rfl) dX4_tell_18 (fun H locs h_7 eh_7 hW hT hs => ?_)
  replace f_2 := (hs.o (gx.S hM) trivial rfl).1.trans f_2
  replace f_4 := (hs.o (gx.S hM) trivial rfl).1.trans f_4
  replace f_6 := (hs.o (gx.S hM) trivial rfl).1.trans f_6
  replace hM := hM.tr (hs.mono (by decide))
  have f_8 : h_7.2.1 x 6 = i4 := by rw [eh_7]; exact hx_pi_at _ _ _ _
  exact hx_retv hx hb hr hlk hW ⟨⟨i3, i4, f_6, f_8, ⟨rfl, rfl, fun a k ne => by show h_7.2.1 a k = h.2.1 a k; rw [eh_7, hx_pi_ne _ _ (fun z => ne z.1), eh_5, hx_pi_ne _ _ (fun z => ne z.1), eh_3, hx_pi_ne _ _ (fun z => ne z.1), eh_1, hx_pi_ne _ _ (fun z => ne z.1)]⟩⟩, hT, hM⟩ dX4_tell_21


set_option maxHeartbeats 4000000 in
set_option maxRecDepth 100000 in
theorem t_X9_person_2 (l : Launch) (dC : Nat → ClassId) (dI : Nat → Nat → Nat) (dA : Nat → ClassId) (L : List Nat) (h : hx_h) (sz : Nat) (x : Nat) (i1 : Int32) (i2 : Int32) (i3 : Int32) (i4 : Int32) (i5 : Int32) (i6 : Int32) (hT : hx_T T_tb L h) (gx : hx_g L h x 9) (qp : Nat) (gqp : hx_g L h qp 44) (f_x_7 : h.2.2 x 7 = some qp) (qc : Nat) (gqc : hx_g L h qc 45) (f_x_10 : h.2.2 x 10 = some qc)  (pn0 : Int32) (f_x_8 : h.2.1 x 8 = pn0) (cn0 : Int32) (f_x_11 : h.2.1 x 11 = cn0) (df : Nat → Int32) (cl_qp_7 : hx_col 40 h qp 7 = df) (jf : Nat → Int32) (cl_qp_8 : hx_col 40 h qp 8 = jf) (dxf : Nat → Int32) (cl_qp_5 : hx_col 40 h qp 5 = dxf) (dyf : Nat → Int32) (cl_qp_6 : hx_col 40 h qp 6 = dyf) (nu_qp : hx_num 40 h qp 0 (pn0.toInt)) (agf : Nat → Int32) (hDF : hw_DF h qc qp 2 agf cn0.toInt) (pf_x_8 : ∀ j : Nat, (j : Int) < (h.2.1 x 8).toInt → h.2.2 qp j ≠ none) : Met l yX9_person (Cond.code yX9_person cX9_person 8 (some .int) :: hx_all) ({ frames := 2, cells := 1, slots := 10, locals := 45 }) (va_Pc [.ref x, .int i1, .int i2, .int i3, .int i4, .int i5, .int i6] (hx_B T_tb (P_ty dA) (dC, dI) vwCl L h sz)) (va_Qi (fun (r : Int32) (u : List Nat × hx_h) => (∃ (pn1 : Int32) (df1 : Nat → Int32) (jf1 : Nat → Int32) (dxf1 : Nat → Int32) (dyf1 : Nat → Int32), u.2.2.1 x 8 = pn1 ∧ hx_col 40 u.2 qp 7 = df1 ∧ hx_col 40 u.2 qp 8 = jf1 ∧ hx_col 40 u.2 qp 5 = dxf1 ∧ hx_col 40 u.2 qp 6 = dyf1 ∧ ((hx_num 40 u.2 qp 0 (pn1.toInt)) ∧ ((hx_PS pn0.toInt i1.toInt i2.toInt i3.toInt i4.toInt i5.toInt i6.toInt r.toInt pn1.toInt) ∧ hx_PD pn0.toInt r.toInt df df1 ∧ hx_PD pn0.toInt r.toInt jf jf1 ∧ hx_CD pn0.toInt r.toInt i4 dxf dxf1 ∧ hx_CD pn0.toInt r.toInt i5 dyf dyf1 ∧ hw_DF u.2 qc qp 2 agf cn0.toInt))) ∧ hx_T T_tb u.1 u.2 ∧ hx_S T_tb [(4, 3), (4, 4), (4, 5), (4, 6), (9, 8), (44, 0), (120, 0), (120, 1), (120, 2)] L h u.1 u.2 ∧ (∀ j : Nat, (j : Int) < (u.2.2.1 x 8).toInt → u.2.2.2 qp j ≠ none)) (hx_E T_tb (P_ty dA) (dC, dI) vwCl (hx_A L sz)) (hx_A L sz)) 1 10 (hx_A L sz) := by
  refine hx_met (lv := [(0, .ref x), (1, .int i1), (2, .int i2), (3, .int i3), (4, .int i4), (5, .int i5), (6, .int i6)]) (by decide +kernel) rfl (Nat.le_of_ble_eq_true rfl) rfl ?_
  intro p e s m below meth c hx hb hml hr hlk hts0 hown hin hsz hW ls hl
  have hts : ∀ w ∈ hx_all, w.before _ s = true := fun w hw => hts0 w (List.mem_cons_of_mem _ hw)
  have hown : s.vm.findClass "SmallCourt" = some m.cls := hown
  have hM : hx_S T_tb [(4, 3), (4, 4), (4, 5), (4, 6), (9, 8), (44, 0), (120, 0), (120, 1), (120, 2)] L h L h := hx_S.rf
  have b_pn0 := hT.gi gx tt_9 (k := 8) rfl
  rw [f_x_8] at b_pn0
  have b_pn0 : 0 ≤ pn0.toInt ∧ pn0.toInt ≤ 40 := b_pn0
  have b_cn0 := hT.gi gx tt_9 (k := 11) rfl
  rw [f_x_11] at b_cn0
  have b_cn0 : 0 ≤ cn0.toInt ∧ cn0.toInt ≤ 100 := b_cn0
  refine lv_aload_n hx hb dX9_person_0 rfl (lv_at hl 0 rfl) ?_
  refine hk_geti hx hb hts hC_9 hown hW gx tt_9 8 (by decide) rfl kw_372 ⟨rfl, rfl, rfl⟩ f_x_8 dX9_person_1 ?_
  refine lv_bipush (v := 40) hx hb dX9_person_4 (by decide) ?_
  refine hb_icmp_ge (zx := pn0.toInt) (zy := 40) (tgt := 45) hx hb rfl (by decide) dX9_person_6 (by decide) (fun c_1 => ?_) (fun c_1 => ?_)
  · skip
    refine lv_iconst (v := -1) hx hb dX9_person_45 (by decide) ?_
    refine W.widen (k := 1) (n := 10) (Nat.le_of_ble_eq_true rfl) (Nat.le_of_ble_eq_true rfl) ?_
    exact hx_reti hx hb hr hlk hW ⟨⟨pn0, df, jf, dxf, dyf, f_x_8, cl_qp_7, cl_qp_8, cl_qp_5, cl_qp_6, ⟨(hx_num_c nu_qp (by omega)), ⟨(Or.inl ⟨by decide, by omega, by unfold hx_pcn; omega⟩), (Or.inl ⟨by decide, rfl⟩), (Or.inl ⟨by decide, rfl⟩), (Or.inl ⟨by decide, rfl⟩), (Or.inl ⟨by decide, rfl⟩), hDF⟩⟩⟩, hT, hM, pf_x_8⟩ dX9_person_46
  · skip
    refine lv_iload_n hx hb dX9_person_9 rfl (lv_at hl 1 rfl) ?_
    refine lv_sipush (v := -30000) hx hb dX9_person_10 (by decide) ?_
    refine lv_sipush (v := 7999) hx hb dX9_person_13 (by decide) ?_
    have hTo := hT
    have zc_7999 : (7999 : Int32).toInt = 7999 := by decide
    have zc_m30000 : (-30000 : Int32).toInt = -30000 := by decide
    refine hx_goi (hx_runS (As := [.int i1, .int (-30000 : Int32), .int (7999 : Int32)]) (rest := []) ⟨hx, hb, hml, hown, hts⟩ hW (t_X9_isWithin_2 l dC dI dA L h s.heap.size i1 (-30000 : Int32) (7999 : Int32) hT) (va_cwS 3 hts (hx_gS kw_434 kw_432 kw_433 kw_94) rfl rfl rfl (by decide +kernel) ⟨Nat.le_of_ble_eq_true rfl, Nat.le_of_ble_eq_true rfl⟩) rfl hl.1 rfl (Nat.le_of_ble_eq_true rfl) dX9_person_16 ⟨Nat.le_of_ble_eq_true rfl, Nat.le_of_ble_eq_true rfl⟩) hW (fun r_4 L_2 h_3 H locs p_5 hW => ?_)
    obtain ⟨hr_6, hT, hs⟩ := p_5
    replace hT : hx_T T_tb L_2 h_3 := hT
    replace hs : hx_S T_tb [] L h L_2 h_3 := hs
    replace f_x_7 := (hs.o gx trivial rfl).2.trans f_x_7
    replace f_x_10 := (hs.o gx trivial rfl).2.trans f_x_10
    replace f_x_8 := (hs.o gx trivial rfl).1.trans f_x_8
    replace f_x_11 := (hs.o gx trivial rfl).1.trans f_x_11
    replace pf_x_8 : ∀ j : Nat, (j : Int) < (h_3.2.1 x 8).toInt → h_3.2.2 qp j ≠ none := by
      intro j hj; rw [(hs.o gx trivial rfl).1] at hj; rw [(hs.a gqp rfl j).2]; exact pf_x_8 j hj
    replace cl_qp_7 : hx_col 40 h_3 qp 7 = df := (hx_col_S hs hTo gqp tt_44 tt_4 rfl rfl).trans cl_qp_7
    replace cl_qp_8 : hx_col 40 h_3 qp 8 = jf := (hx_col_S hs hTo gqp tt_44 tt_4 rfl rfl).trans cl_qp_8
    replace cl_qp_5 : hx_col 40 h_3 qp 5 = dxf := (hx_col_S hs hTo gqp tt_44 tt_4 rfl rfl).trans cl_qp_5
    replace cl_qp_6 : hx_col 40 h_3 qp 6 = dyf := (hx_col_S hs hTo gqp tt_44 tt_4 rfl rfl).trans cl_qp_6
    replace nu_qp : hx_num 40 h_3 qp 0 (pn0.toInt) := hx_num_S hs hTo gqp tt_44 tt_4 rfl rfl nu_qp
    replace hDF : hw_DF h_3 qc qp 2 agf cn0.toInt := hw_DF_S hs hTo gqc gqp tt_45 tt_2 rfl rfl rfl hDF
    replace hM := hM.tr (hs.mono (by decide))
    replace gx := gx.S hs
    replace gqp := gqp.S hs
    replace gqc := gqc.S hs
    refine hb_if_eq (zx := r_4.toInt) (tgt := 45) hx hb rfl dX9_person_19 (by decide) (fun c_7 => ?_) (fun c_7 => ?_)
    · skip
      replace hr_6 := hr_6.resolve_right (fun z9 => absurd (c_7.symm.trans z9.1) (by decide))
      replace hr_6 := hr_6.2
      refine lv_iconst (v := -1) hx hb dX9_person_45 (by decide) ?_
      refine W.widen (k := 1) (n := 10) (Nat.le_of_ble_eq_true rfl) (Nat.le_of_ble_eq_true rfl) ?_
      exact hx_reti hx hb hr hlk hW ⟨⟨pn0, df, jf, dxf, dyf, f_x_8, cl_qp_7, cl_qp_8, cl_qp_5, cl_qp_6, ⟨(hx_num_c nu_qp (by omega)), ⟨(Or.inl ⟨by decide, by omega, by unfold hx_pcn; omega⟩), (Or.inl ⟨by decide, rfl⟩), (Or.inl ⟨by decide, rfl⟩), (Or.inl ⟨by decide, rfl⟩), (Or.inl ⟨by decide, rfl⟩), hDF⟩⟩⟩, hT, hM, pf_x_8⟩ dX9_person_46
    · skip
      replace hr_6 := hr_6.resolve_left (fun z9 => c_7 z9.1)
      replace c_7 := hr_6.1
      replace hr_6 := hr_6.2
      refine lv_iload_n hx hb dX9_person_22 rfl (lv_at hl 2 rfl) ?_
      refine lv_iload_n hx hb dX9_person_23 rfl (lv_at hl 3 rfl) ?_
      refine lv_iload hx hb dX9_person_24 (lv_at hl 4 rfl) ?_
      refine lv_iload hx hb dX9_person_26 (lv_at hl 5 rfl) ?_
      have hTo := hT
      refine hx_goi (hx_runS (As := [.int i2, .int i3, .int i4, .int i5]) (rest := []) ⟨hx, hb, hml, hown, hts⟩ hW (t_X9_isHousehold_2 l dC dI dA L_2 h_3 H.size i2 i3 i4 i5 hT) (va_cwS 4 hts (hx_gS kw_604 kw_602 kw_603 kw_94) rfl rfl rfl (by decide +kernel) ⟨Nat.le_of_ble_eq_true rfl, Nat.le_of_ble_eq_true rfl⟩) rfl hl.1 rfl (Nat.le_of_ble_eq_true rfl) dX9_person_28 ⟨Nat.le_of_ble_eq_true rfl, Nat.le_of_ble_eq_true rfl⟩) hW (fun r_10 L_8 h_9 H locs p_11 hW => ?_)
      obtain ⟨hr_12, hT, hs⟩ := p_11
      replace hT : hx_T T_tb L_8 h_9 := hT
      replace hs : hx_S T_tb [] L_2 h_3 L_8 h_9 := hs
      replace f_x_7 := (hs.o gx trivial rfl).2.trans f_x_7
      replace f_x_10 := (hs.o gx trivial rfl).2.trans f_x_10
      replace f_x_8 := (hs.o gx trivial rfl).1.trans f_x_8
      replace f_x_11 := (hs.o gx trivial rfl).1.trans f_x_11
      replace pf_x_8 : ∀ j : Nat, (j : Int) < (h_9.2.1 x 8).toInt → h_9.2.2 qp j ≠ none := by
        intro j hj; rw [(hs.o gx trivial rfl).1] at hj; rw [(hs.a gqp rfl j).2]; exact pf_x_8 j hj
      replace cl_qp_7 : hx_col 40 h_9 qp 7 = df := (hx_col_S hs hTo gqp tt_44 tt_4 rfl rfl).trans cl_qp_7
      replace cl_qp_8 : hx_col 40 h_9 qp 8 = jf := (hx_col_S hs hTo gqp tt_44 tt_4 rfl rfl).trans cl_qp_8
      replace cl_qp_5 : hx_col 40 h_9 qp 5 = dxf := (hx_col_S hs hTo gqp tt_44 tt_4 rfl rfl).trans cl_qp_5
      replace cl_qp_6 : hx_col 40 h_9 qp 6 = dyf := (hx_col_S hs hTo gqp tt_44 tt_4 rfl rfl).trans cl_qp_6
      replace nu_qp : hx_num 40 h_9 qp 0 (pn0.toInt) := hx_num_S hs hTo gqp tt_44 tt_4 rfl rfl nu_qp
      replace hDF : hw_DF h_9 qc qp 2 agf cn0.toInt := hw_DF_S hs hTo gqc gqp tt_45 tt_2 rfl rfl rfl hDF
      replace hM := hM.tr (hs.mono (by decide))
      replace gx := gx.S hs
      replace gqp := gqp.S hs
      replace gqc := gqc.S hs
      refine hb_if_eq (zx := r_10.toInt) (tgt := 45) hx hb rfl dX9_person_31 (by decide) (fun c_13 => ?_) (fun c_13 => ?_)
      · skip
        refine lv_iconst (v := -1) hx hb dX9_person_45 (by decide) ?_
        refine W.widen (k := 1) (n := 10) (Nat.le_of_ble_eq_true rfl) (Nat.le_of_ble_eq_true rfl) ?_
        exact hx_reti hx hb hr hlk hW ⟨⟨pn0, df, jf, dxf, dyf, f_x_8, cl_qp_7, cl_qp_8, cl_qp_5, cl_qp_6, ⟨(hx_num_c nu_qp (by omega)), ⟨(Or.inl ⟨by decide, by omega, by unfold hx_pcn; omega⟩), (Or.inl ⟨by decide, rfl⟩), (Or.inl ⟨by decide, rfl⟩), (Or.inl ⟨by decide, rfl⟩), (Or.inl ⟨by decide, rfl⟩), hDF⟩⟩⟩, hT, hM, pf_x_8⟩ dX9_person_46
      · skip
        refine lv_iload hx hb dX9_person_34 (lv_at hl 6 rfl) ?_
        refine lv_iconst (v := -1) hx hb dX9_person_36 (by decide) ?_
        refine lv_bipush (v := 19) hx hb dX9_person_37 (by decide) ?_
        have hTo := hT
        have zc_19 : (19 : Int32).toInt = 19 := by decide
        have zc_m1 : (-1 : Int32).toInt = -1 := by decide
        refine hx_goi (hx_runS (As := [.int i6, .int (-1 : Int32), .int (19 : Int32)]) (rest := []) ⟨hx, hb, hml, hown, hts⟩ hW (t_X9_isWithin_2 l dC dI dA L_8 h_9 H.size i6 (-1 : Int32) (19 : Int32) hT) (va_cwS 3 hts (hx_gS kw_434 kw_432 kw_433 kw_94) rfl rfl rfl (by decide +kernel) ⟨Nat.le_of_ble_eq_true rfl, Nat.le_of_ble_eq_true rfl⟩) rfl hl.1 rfl (Nat.le_of_ble_eq_true rfl) dX9_person_39 ⟨Nat.le_of_ble_eq_true rfl, Nat.le_of_ble_eq_true rfl⟩) hW (fun r_16 L_14 h_15 H locs p_17 hW => ?_)
        obtain ⟨hr_18, hT, hs⟩ := p_17
        replace hT : hx_T T_tb L_14 h_15 := hT
        replace hs : hx_S T_tb [] L_8 h_9 L_14 h_15 := hs
        replace f_x_7 := (hs.o gx trivial rfl).2.trans f_x_7
        replace f_x_10 := (hs.o gx trivial rfl).2.trans f_x_10
        replace f_x_8 := (hs.o gx trivial rfl).1.trans f_x_8
        replace f_x_11 := (hs.o gx trivial rfl).1.trans f_x_11
        replace pf_x_8 : ∀ j : Nat, (j : Int) < (h_15.2.1 x 8).toInt → h_15.2.2 qp j ≠ none := by
          intro j hj; rw [(hs.o gx trivial rfl).1] at hj; rw [(hs.a gqp rfl j).2]; exact pf_x_8 j hj
        replace cl_qp_7 : hx_col 40 h_15 qp 7 = df := (hx_col_S hs hTo gqp tt_44 tt_4 rfl rfl).trans cl_qp_7
        replace cl_qp_8 : hx_col 40 h_15 qp 8 = jf := (hx_col_S hs hTo gqp tt_44 tt_4 rfl rfl).trans cl_qp_8
        replace cl_qp_5 : hx_col 40 h_15 qp 5 = dxf := (hx_col_S hs hTo gqp tt_44 tt_4 rfl rfl).trans cl_qp_5
        replace cl_qp_6 : hx_col 40 h_15 qp 6 = dyf := (hx_col_S hs hTo gqp tt_44 tt_4 rfl rfl).trans cl_qp_6
        replace nu_qp : hx_num 40 h_15 qp 0 (pn0.toInt) := hx_num_S hs hTo gqp tt_44 tt_4 rfl rfl nu_qp
        replace hDF : hw_DF h_15 qc qp 2 agf cn0.toInt := hw_DF_S hs hTo gqc gqp tt_45 tt_2 rfl rfl rfl hDF
        replace hM := hM.tr (hs.mono (by decide))
        replace gx := gx.S hs
        replace gqp := gqp.S hs
        replace gqc := gqc.S hs
        refine hb_if_ne (zx := r_16.toInt) (tgt := 47) hx hb rfl dX9_person_42 (by decide) (fun c_19 => ?_) (fun c_19 => ?_)
        · skip
          replace hr_18 := hr_18.resolve_left (fun z9 => c_19 z9.1)
          replace c_19 := hr_18.1
          replace hr_18 := hr_18.2
          have hTo := hT
          refine hk_new hx hb hts hC_4 hown hW 120 tt_120 rfl (by decide) kw_188 kw_605 kw_108 (Nat.le_of_ble_eq_true rfl) (Nat.le_of_ble_eq_true rfl) dX9_person_47 (fun q_21 H h_20 eh_20 hqq_21 hW hs gq_21 => ?_)
          have nq_q_21 : ∀ a ∈ L, a ≠ q_21 := fun a ha z => hqq_21 (z ▸ (hM.1 a ha).1)
          have hT : hx_T T_tb (L_14 ++ [q_21]) h_20 := by rw [eh_20]; exact hx_T_nw hT hqq_21 tt_120 rfl
          replace f_x_7 := (hs.o gx trivial rfl).2.trans f_x_7
          replace f_x_10 := (hs.o gx trivial rfl).2.trans f_x_10
          replace f_x_8 := (hs.o gx trivial rfl).1.trans f_x_8
          replace f_x_11 := (hs.o gx trivial rfl).1.trans f_x_11
          replace pf_x_8 : ∀ j : Nat, (j : Int) < (h_20.2.1 x 8).toInt → h_20.2.2 qp j ≠ none := by
            intro j hj; rw [(hs.o gx trivial rfl).1] at hj; rw [(hs.a gqp rfl j).2]; exact pf_x_8 j hj
          replace cl_qp_7 : hx_col 40 h_20 qp 7 = df := (hx_col_S hs hTo gqp tt_44 tt_4 rfl rfl).trans cl_qp_7
          replace cl_qp_8 : hx_col 40 h_20 qp 8 = jf := (hx_col_S hs hTo gqp tt_44 tt_4 rfl rfl).trans cl_qp_8
          replace cl_qp_5 : hx_col 40 h_20 qp 5 = dxf := (hx_col_S hs hTo gqp tt_44 tt_4 rfl rfl).trans cl_qp_5
          replace cl_qp_6 : hx_col 40 h_20 qp 6 = dyf := (hx_col_S hs hTo gqp tt_44 tt_4 rfl rfl).trans cl_qp_6
          replace nu_qp : hx_num 40 h_20 qp 0 (pn0.toInt) := hx_num_S hs hTo gqp tt_44 tt_4 rfl rfl nu_qp
          replace hDF : hw_DF h_20 qc qp 2 agf cn0.toInt := hw_DF_S hs hTo gqc gqp tt_45 tt_2 rfl rfl rfl hDF
          replace hM := hM.tr (hs.mono (by decide))
          replace gx := gx.S hs
          replace gqp := gqp.S hs
          replace gqc := gqc.S hs
          have fz_22 : ∀ j, ([] : List Nat).contains j = false → h_20.2.1 q_21 j = 0 ∧ h_20.2.2 q_21 j = none := by rw [eh_20]; exact fun _ _ => ⟨hx_nw_i, hx_nw_r⟩
          refine lv_dup hx hb dX9_person_50 rfl ?_
          refine lv_aload_n hx hb dX9_person_51 rfl (lv_at hl 0 rfl) ?_
          refine hk_geti hx hb hts hC_9 hown hW gx tt_9 8 (by decide) rfl kw_372 ⟨rfl, rfl, rfl⟩ f_x_8 dX9_person_52 ?_
          refine lv_iload_n hx hb dX9_person_55 rfl (lv_at hl 1 rfl) ?_
          refine lv_iload hx hb dX9_person_56 (lv_at hl 6 rfl) ?_
          have hTo := hT
          refine hx_gov (hx_runI (As := [.int pn0, .int i1, .int i6]) (rest := [.ref q_21]) ⟨hx, hb, hml, hown, hts⟩ hW (t_X4_init l dC dI dA (L_14 ++ [q_21]) h_20 H.size q_21 pn0 i1 i6 hT gq_21 (fun j => fz_22 j rfl) ⟨by omega, by omega⟩) (cwI 3 hts (hx_gC kw_608) rfl rfl rfl (hts _ kw_108) (hts _ kw_606) (hts _ kw_607) rfl (by decide +kernel) ⟨Nat.le_of_ble_eq_true rfl, Nat.le_of_ble_eq_true rfl⟩) rfl hl.1 rfl (Nat.le_of_ble_eq_true rfl) dX9_person_58 ⟨Nat.le_of_ble_eq_true rfl, Nat.le_of_ble_eq_true rfl⟩) hW (fun L_23 h_24 H locs p_26 hW => ?_)
          have hTo := hT
          obtain ⟨hT, hs, gNq_21, po_27, po_28, po_29⟩ := p_26
          replace hT : hx_T T_tb L_23 h_24 := hT
          replace hs : hx_S T_tb [(120, 0), (120, 1), (120, 2)] (hx_X (L_14 ++ [q_21]) q_21) h_20 L_23 h_24 := hs
          have gx := hx_gX gx (gx.ne gq_21 (by decide))
          have gqp := hx_gX gqp (gqp.ne gq_21 (by decide))
          have gqc := hx_gX gqc (gqc.ne gq_21 (by decide))
          replace f_x_7 := (hs.o gx trivial rfl).2.trans f_x_7
          replace f_x_10 := (hs.o gx trivial rfl).2.trans f_x_10
          replace f_x_8 := (hs.o gx trivial rfl).1.trans f_x_8
          replace f_x_11 := (hs.o gx trivial rfl).1.trans f_x_11
          replace pf_x_8 : ∀ j : Nat, (j : Int) < (h_24.2.1 x 8).toInt → h_24.2.2 qp j ≠ none := by
            intro j hj; rw [(hs.o gx trivial rfl).1] at hj; rw [(hs.a gqp rfl j).2]; exact pf_x_8 j hj
          replace cl_qp_7 : hx_col 40 h_24 qp 7 = df := (hx_col_X hs hTo gqp gq_21 tt_44 tt_4 rfl rfl (by decide)).trans cl_qp_7
          replace cl_qp_8 : hx_col 40 h_24 qp 8 = jf := (hx_col_X hs hTo gqp gq_21 tt_44 tt_4 rfl rfl (by decide)).trans cl_qp_8
          replace cl_qp_5 : hx_col 40 h_24 qp 5 = dxf := (hx_col_X hs hTo gqp gq_21 tt_44 tt_4 rfl rfl (by decide)).trans cl_qp_5
          replace cl_qp_6 : hx_col 40 h_24 qp 6 = dyf := (hx_col_X hs hTo gqp gq_21 tt_44 tt_4 rfl rfl (by decide)).trans cl_qp_6
          replace nu_qp : hx_num 40 h_24 qp 0 (pn0.toInt) := hx_num_X hs hTo gqp gq_21 tt_44 tt_4 rfl rfl (by decide) nu_qp
          replace hDF : hw_DF h_24 qc qp 2 agf cn0.toInt := hw_DF_X hs hTo gqc gqp gq_21 tt_45 tt_2 rfl rfl rfl (by decide) hDF
          replace hM := hM.trX (hs.mono (by decide)) nq_q_21
          replace gx := gx.S hs
          replace gqp := gqp.S hs
          replace gqc := gqc.S hs
          have gq_21 : hx_g L_23 h_24 q_21 4 := gNq_21
          have po_27 : h_24.2.1 q_21 0 = pn0 := po_27
          have po_28 : h_24.2.1 q_21 7 = 0 := po_28
          have po_29 : h_24.2.1 q_21 8 = 0 := po_29
          refine lv_astore (lv' := [(7, .ref q_21), (0, .ref x), (1, .int i1), (2, .int i2), (3, .int i3), (4, .int i4), (5, .int i5), (6, .int i6)]) hx hb dX9_person_61 hl (by decide) rfl (fun ls hl => ?_)
          refine lv_aload hx hb dX9_person_63 (lv_at hl 0 rfl) ?_
          refine lv_iload_n hx hb dX9_person_65 rfl (lv_at hl 3 rfl) ?_
          refine lv_iload_n hx hb dX9_person_66 rfl (lv_at hl 4 rfl) ?_
          refine lv_iload hx hb dX9_person_67 (lv_at hl 5 rfl) ?_
          refine lv_iload hx hb dX9_person_69 (lv_at hl 6 rfl) ?_
          have numO9 : (h_24.2.1 q_21 0).toInt = pn0.toInt := by rw [po_27]
          have nu_qpO9 := nu_qp
          have gqpO9 := gqp
          have cl_qp_5O9 := cl_qp_5
          have cl_qp_6O9 := cl_qp_6
          have hTo := hT
          refine hx_gov (hx_runV (As := [.int i2, .int i3, .int i4, .int i5]) (rest := []) ⟨hx, hb, hml, hown, hts⟩ hW gq_21 tt_4 (T := TX4) (N := 10) rfl (t_X4_tell_2 l dC dI dA L_23 h_24 H.size q_21 i2 i3 i4 i5 hT gq_21) (cwV 4 hts (hx_gV kw_651 kw_648 kw_649 kw_650 kw_108) rfl rfl rfl (by decide +kernel) ⟨Nat.le_of_ble_eq_true rfl, Nat.le_of_ble_eq_true rfl⟩) rfl hl.1 rfl (Nat.le_of_ble_eq_true rfl) dX9_person_71 ⟨Nat.le_of_ble_eq_true rfl, Nat.le_of_ble_eq_true rfl⟩) hW (fun L_30 h_31 H locs p_33 hW => ?_)
          obtain ⟨⟨w_35, w_36, fw_35, fw_36, hr_34⟩, hT, hs⟩ := p_33
          replace hT : hx_T T_tb L_30 h_31 := hT
          replace hs : hx_S T_tb [(4, 3), (4, 4), (4, 5), (4, 6)] L_23 h_24 L_30 h_31 := hs
          replace f_x_7 := (hs.o gx trivial rfl).2.trans f_x_7
          replace f_x_10 := (hs.o gx trivial rfl).2.trans f_x_10
          replace f_x_8 := (hs.o gx trivial rfl).1.trans f_x_8
          replace f_x_11 := (hs.o gx trivial rfl).1.trans f_x_11
          replace po_27 := (hs.o gq_21 trivial rfl).1.trans po_27
          replace po_28 := (hs.o gq_21 trivial rfl).1.trans po_28
          replace po_29 := (hs.o gq_21 trivial rfl).1.trans po_29
          replace pf_x_8 : ∀ j : Nat, (j : Int) < (h_31.2.1 x 8).toInt → h_31.2.2 qp j ≠ none := by
            intro j hj; rw [(hs.o gx trivial rfl).1] at hj; rw [(hs.a gqp rfl j).2]; exact pf_x_8 j hj
          replace cl_qp_7 : hx_col 40 h_31 qp 7 = df := (hx_col_S hs hTo gqp tt_44 tt_4 rfl rfl).trans cl_qp_7
          replace cl_qp_8 : hx_col 40 h_31 qp 8 = jf := (hx_col_S hs hTo gqp tt_44 tt_4 rfl rfl).trans cl_qp_8
          replace nu_qp : hx_num 40 h_31 qp 0 (pn0.toInt) := hx_num_S hs hTo gqp tt_44 tt_4 rfl rfl nu_qp
          replace hDF : hw_DF h_31 qc qp 2 agf cn0.toInt := hw_DF_S hs hTo gqc gqp tt_45 tt_2 rfl rfl rfl hDF
          replace hM := hM.tr (hs.mono (by decide))
          replace gx := gx.S hs
          replace gqp := gqp.S hs
          replace gqc := gqc.S hs
          replace gq_21 := gq_21.S hs
          have fw_35 : h_31.2.1 q_21 5 = w_35 := fw_35
          have bw_35 := hT.gi gq_21 tt_4 (k := 5) rfl
          rw [fw_35] at bw_35
          have bw_35 : -2147483648 ≤ w_35.toInt ∧ w_35.toInt ≤ 2147483647 := bw_35
          have fw_36 : h_31.2.1 q_21 6 = w_36 := fw_36
          have bw_36 := hT.gi gq_21 tt_4 (k := 6) rfl
          rw [fw_36] at bw_36
          have bw_36 : -2147483648 ≤ w_36.toInt ∧ w_36.toInt ≤ 2147483647 := bw_36
          have tlr := fun j => (hs.a gqpO9 rfl j).2
          have nc_37 : hx_col 40 h_31 qp 5 = dxf := hw_col_k hr_34.2.2 tlr (hw_num_no nu_qpO9 numO9) cl_qp_5O9
          have nc_38 : hx_col 40 h_31 qp 6 = dyf := hw_col_k hr_34.2.2 tlr (hw_num_no nu_qpO9 numO9) cl_qp_6O9
          have tlx := hr_34.1; have tly := hr_34.2.1
          rw [tlx] at fw_35
          rw [tly] at fw_36
          refine lv_aload_n hx hb dX9_person_74 rfl (lv_at hl 1 rfl) ?_
          refine hk_getr hx hb hts hC_9 hown hW gx tt_9 7 (by decide) rfl kw_371 ⟨rfl, rfl, rfl⟩ f_x_7 dX9_person_75 ?_
          refine lv_aload_n hx hb dX9_person_78 rfl (lv_at hl 1 rfl) ?_
          refine hk_geti hx hb hts hC_9 hown hW gx tt_9 8 (by decide) rfl kw_372 ⟨rfl, rfl, rfl⟩ f_x_8 dX9_person_79 ?_
          refine lv_aload hx hb dX9_person_82 (lv_at hl 0 rfl) ?_
          have hDFO9 := hDF
          have nuP9 := nu_qp
          have hTO9 := hT
          have gqcO9 := gqc
          have gqpO8 := gqp
          have hTo := hT
          have cl_qp_7O := cl_qp_7
          have po_28O := po_28
          have cl_qp_8O := cl_qp_8
          have po_29O := po_29
          have nc_37O := nc_37
          have fw_35O := fw_35
          have nc_38O := nc_38
          have fw_36O := fw_36
          have nu_qpO := nu_qp
          have po_27O := po_27
          have pf_x_8O := pf_x_8
          refine hx_aast hx hb hW hT (hx_S.rf (M := [(44, 0)])) gqp tt_44 rfl gq_21 tt_4 rfl (by decide) ⟨by omega, by omega⟩ (List.mem_singleton.mpr rfl) dX9_person_84 (fun H locs h_39 eh_39 hW hT hs => ?_)
          replace f_x_7 := (hs.o gx trivial rfl).2.trans f_x_7
          replace f_x_10 := (hs.o gx trivial rfl).2.trans f_x_10
          replace f_x_8 := (hs.o gx trivial rfl).1.trans f_x_8
          replace f_x_11 := (hs.o gx trivial rfl).1.trans f_x_11
          replace po_27 := (hs.o gq_21 trivial rfl).1.trans po_27
          replace po_28 := (hs.o gq_21 trivial rfl).1.trans po_28
          replace po_29 := (hs.o gq_21 trivial rfl).1.trans po_29
          replace fw_35 := (hs.o gq_21 trivial rfl).1.trans fw_35
          replace fw_36 := (hs.o gq_21 trivial rfl).1.trans fw_36
          replace hM := hM.tr (hs.mono (by decide))
          replace gx := gx.S hs
          replace gqp := gqp.S hs
          replace gqc := gqc.S hs
          replace gq_21 := gq_21.S hs
          have pf_x_8 : ∀ j : Nat, (j : Int) < (h_39.2.1 x 8).toInt → h_39.2.2 qp j ≠ none := hx_pfk pf_x_8O eh_39
          have px_40 : ∀ j : Nat, (j : Int) < pn0.toInt + 1 → h_39.2.2 qp j ≠ none := hx_pfx pf_x_8O (by first | exact f_x_8 | exact ((hs.o gx trivial rfl).1.symm.trans f_x_8)) (by omega) eh_39
          obtain ⟨fc_41, dfc_41⟩ : ∃ g : Nat → Int32, g = hx_up df pn0.toNatClampNeg (0 : Int32) := ⟨_, rfl⟩
          have nfc_41 : hx_col 40 h_39 qp 7 = fc_41 := by rw [dfc_41]; exact (hx_col_pr eh_39 (by unfold Int32.toNatClampNeg; omega)).trans (by rw [cl_qp_7O, po_28O])
          obtain ⟨fc_42, dfc_42⟩ : ∃ g : Nat → Int32, g = hx_up jf pn0.toNatClampNeg (0 : Int32) := ⟨_, rfl⟩
          have nfc_42 : hx_col 40 h_39 qp 8 = fc_42 := by rw [dfc_42]; exact (hx_col_pr eh_39 (by unfold Int32.toNatClampNeg; omega)).trans (by rw [cl_qp_8O, po_29O])
          obtain ⟨fc_43, dfc_43⟩ : ∃ g : Nat → Int32, g = hx_up dxf pn0.toNatClampNeg i4 := ⟨_, rfl⟩
          have nfc_43 : hx_col 40 h_39 qp 5 = fc_43 := by rw [dfc_43]; exact (hx_col_pr eh_39 (by unfold Int32.toNatClampNeg; omega)).trans (by rw [nc_37O, fw_35O])
          obtain ⟨fc_44, dfc_44⟩ : ∃ g : Nat → Int32, g = hx_up dyf pn0.toNatClampNeg i5 := ⟨_, rfl⟩
          have nfc_44 : hx_col 40 h_39 qp 6 = fc_44 := by rw [dfc_44]; exact (hx_col_pr eh_39 (by unfold Int32.toNatClampNeg; omega)).trans (by rw [nc_38O, fw_36O])
          have nu_45 : hx_num 40 h_39 qp 0 (pn0.toInt + 1) := hx_num_pr nu_qpO eh_39 (by omega) (by omega) (by rw [po_27O])
          have hDF : hw_DF h_39 qc qp 2 agf cn0.toInt := hw_DF_p hDFO9 hTO9 gqcO9 gqpO8 tt_45 (by decide) (by decide) nuP9 eh_39 (by omega) (by omega)
          refine lv_aload_n hx hb dX9_person_85 rfl (lv_at hl 1 rfl) ?_
          refine lv_dup hx hb dX9_person_86 rfl ?_
          refine hk_geti hx hb hts hC_9 hown hW gx tt_9 8 (by decide) rfl kw_372 ⟨rfl, rfl, rfl⟩ f_x_8 dX9_person_87 ?_
          refine lv_iconst (v := 1) hx hb dX9_person_90 (by decide) ?_
          refine lv_iadd hx hb dX9_person_91 ?_
          have rg_46 := i32_r pn0
          refine lv_topi (fun x_47 ex_47 => ?_)
          have zx_47 : x_47.toInt = pn0.toInt + 1 := by rw [ex_47]; exact i32_add rfl (by decide) (by omega) (by omega)
          have hTo := hT
          refine hx_puti hx hb hts hC_9 hown hW hT (hx_S.rf (M := [(9, 8)])) gx tt_9 8 (by decide) rfl kw_372 ⟨rfl, rfl, rfl⟩ rfl (x := x_47) ⟨by omega, by omega⟩ rfl rfl rfl (List.mem_singleton.mpr rfl) dX9_person_92 (fun H locs h_48 eh_48 hW hT hs => ?_)
          replace px_40 : ∀ j : Nat, (j : Int) < pn0.toInt + 1 → h_48.2.2 qp j ≠ none := fun j hj => by rw [(hs.a gqp rfl j).2]; exact px_40 j hj
          replace f_x_7 := (hs.o gx trivial rfl).2.trans f_x_7
          replace f_x_10 := (hs.o gx trivial rfl).2.trans f_x_10
          replace f_x_11 := (hs.o gx trivial rfl).1.trans f_x_11
          replace po_27 := (hs.o gq_21 trivial rfl).1.trans po_27
          replace po_28 := (hs.o gq_21 trivial rfl).1.trans po_28
          replace po_29 := (hs.o gq_21 trivial rfl).1.trans po_29
          replace fw_35 := (hs.o gq_21 trivial rfl).1.trans fw_35
          replace fw_36 := (hs.o gq_21 trivial rfl).1.trans fw_36
          replace nfc_41 : hx_col 40 h_48 qp 7 = fc_41 := (hx_col_S hs hTo gqp tt_44 tt_4 rfl rfl).trans nfc_41
          replace nfc_42 : hx_col 40 h_48 qp 8 = fc_42 := (hx_col_S hs hTo gqp tt_44 tt_4 rfl rfl).trans nfc_42
          replace nfc_43 : hx_col 40 h_48 qp 5 = fc_43 := (hx_col_S hs hTo gqp tt_44 tt_4 rfl rfl).trans nfc_43
          replace nfc_44 : hx_col 40 h_48 qp 6 = fc_44 := (hx_col_S hs hTo gqp tt_44 tt_4 rfl rfl).trans nfc_44
          replace nu_45 : hx_num 40 h_48 qp 0 (pn0.toInt + 1) := hx_num_S hs hTo gqp tt_44 tt_4 rfl rfl nu_45
          replace hDF : hw_DF h_48 qc qp 2 agf cn0.toInt := hw_DF_S hs hTo gqc gqp tt_45 tt_2 rfl rfl rfl hDF
          replace hM := hM.tr (hs.mono (by decide))
          replace gx := gx.S hs
          replace gqp := gqp.S hs
          replace gqc := gqc.S hs
          replace gq_21 := gq_21.S hs
          have f_49 : h_48.2.1 x 8 = x_47 := by rw [eh_48]; exact hx_pi_at _ _ _ _
          have pf_50 : ∀ j : Nat, (j : Int) < (h_48.2.1 x 8).toInt → h_48.2.2 qp j ≠ none := fun j hj => px_40 j (by rw [f_49] at hj; omega)
          refine lv_aload hx hb dX9_person_95 (lv_at hl 0 rfl) ?_
          refine hk_geti hx hb hts hC_4 hown hW gq_21 tt_4 0 (by decide) rfl kw_612 ⟨rfl, rfl, rfl⟩ po_27 dX9_person_97 ?_
          refine W.widen (k := 1) (n := 10) (Nat.le_of_ble_eq_true rfl) (Nat.le_of_ble_eq_true rfl) ?_
          exact hx_reti hx hb hr hlk hW ⟨⟨x_47, fc_41, fc_42, fc_43, fc_44, f_49, nfc_41, nfc_42, nfc_43, nfc_44, ⟨(hx_num_c nu_45 (by omega)), ⟨(Or.inr ⟨by omega, by omega, by unfold hx_pcn; omega⟩), (Or.inr ⟨by omega, by omega, dfc_41⟩), (Or.inr ⟨by omega, by omega, dfc_42⟩), (Or.inr ⟨by omega, by omega, dfc_43⟩), (Or.inr ⟨by omega, by omega, dfc_44⟩), hDF⟩⟩⟩, hT, hM, pf_50⟩ dX9_person_100
        · skip
          replace hr_18 := hr_18.resolve_right (fun z9 => absurd (c_19.symm.trans z9.1) (by decide))
          replace hr_18 := hr_18.2
          refine lv_iconst (v := -1) hx hb dX9_person_45 (by decide) ?_
          refine W.widen (k := 1) (n := 10) (Nat.le_of_ble_eq_true rfl) (Nat.le_of_ble_eq_true rfl) ?_
          exact hx_reti hx hb hr hlk hW ⟨⟨pn0, df, jf, dxf, dyf, f_x_8, cl_qp_7, cl_qp_8, cl_qp_5, cl_qp_6, ⟨(hx_num_c nu_qp (by omega)), ⟨(Or.inl ⟨by decide, by omega, by unfold hx_pcn; omega⟩), (Or.inl ⟨by decide, rfl⟩), (Or.inl ⟨by decide, rfl⟩), (Or.inl ⟨by decide, rfl⟩), (Or.inl ⟨by decide, rfl⟩), hDF⟩⟩⟩, hT, hM, pf_x_8⟩ dX9_person_46


set_option maxHeartbeats 4000000 in
set_option maxRecDepth 100000 in
theorem t_X9_dies_2 (l : Launch) (dC : Nat → ClassId) (dI : Nat → Nat → Nat) (dA : Nat → ClassId) (L : List Nat) (h : hx_h) (sz : Nat) (x : Nat) (i1 : Int32) (hT : hx_T T_tb L h) (gx : hx_g L h x 9) (pn0 : Int32) (f_x_8 : h.2.1 x 8 = pn0) (qp : Nat) (gqp : hx_g L h qp 44) (f_x_7 : h.2.2 x 7 = some qp) (pf_x_8 : ∀ j : Nat, (j : Int) < (h.2.1 x 8).toInt → h.2.2 qp j ≠ none) (df : Nat → Int32) (cl_qp_7 : hx_col 40 h qp 7 = df) (nu_qp : hx_num 40 h qp 0 (pn0.toInt)) : Met l yX9_dies (Cond.code yX9_dies cX9_dies 3 (some .boolean) :: hx_all) ({ frames := 1, cells := 0, slots := 0, locals := 21 }) (va_Pc [.ref x, .int i1] (hx_B T_tb (P_ty dA) (dC, dI) vwCl L h sz)) (va_Qi (fun (r : Int32) (u : List Nat × hx_h) => (∃ (df1 : Nat → Int32), hx_col 40 u.2 qp 7 = df1 ∧ (hx_JS pn0.toInt i1.toInt 1 df r.toInt df1)) ∧ hx_T T_tb u.1 u.2 ∧ hx_S T_tb [(4, 7)] L h u.1 u.2) (hx_E T_tb (P_ty dA) (dC, dI) vwCl (hx_A L sz)) (hx_A L sz)) 0 0 (hx_A L sz) := by
  refine hx_met (lv := [(0, .ref x), (1, .int i1)]) (by decide +kernel) rfl (Nat.le_of_ble_eq_true rfl) rfl ?_
  intro p e s m below meth c hx hb hml hr hlk hts0 hown hin hsz hW ls hl
  have hts : ∀ w ∈ hx_all, w.before _ s = true := fun w hw => hts0 w (List.mem_cons_of_mem _ hw)
  have hown : s.vm.findClass "SmallCourt" = some m.cls := hown
  have hM : hx_S T_tb [(4, 7)] L h L h := hx_S.rf
  have b_pn0 := hT.gi gx tt_9 (k := 8) rfl
  rw [f_x_8] at b_pn0
  have b_pn0 : 0 ≤ pn0.toInt ∧ pn0.toInt ≤ 40 := b_pn0
  refine lv_aload_n hx hb dX9_dies_0 rfl (lv_at hl 0 rfl) ?_
  refine lv_iload_n hx hb dX9_dies_1 rfl (lv_at hl 1 rfl) ?_
  have hTo := hT
  refine hx_goq (hx_runV (As := [.int i1]) (rest := []) ⟨hx, hb, hml, hown, hts⟩ hW (gx.S hM) tt_9 (T := TX9) (N := 20) rfl (t_X9_personAt_2 l dC dI dA L h s.heap.size x i1 hT (gx.S hM) pn0 ((hM.o gx trivial rfl).1.trans f_x_8) qp (gqp.S hM) ((hM.o gx trivial rfl).2.trans f_x_7) pf_x_8) (cwV 1 hts (hx_gV kw_659 kw_656 kw_658 kw_20 kw_94) rfl rfl rfl (by decide +kernel) ⟨Nat.le_of_ble_eq_true rfl, Nat.le_of_ble_eq_true rfl⟩) rfl hl.1 rfl (Nat.le_of_ble_eq_true rfl) dX9_dies_2 ⟨Nat.le_of_ble_eq_true rfl, Nat.le_of_ble_eq_true rfl⟩) hW (fun r_3 L_1 h_2 H locs p_4 hW => ?_)
  obtain ⟨hr_5, hT, hs⟩ := p_4
  replace hT : hx_T T_tb L_1 h_2 := hT
  replace hs : hx_S T_tb [] L h L_1 h_2 := hs
  replace pf_x_8 : ∀ j : Nat, (j : Int) < (h_2.2.1 x 8).toInt → h_2.2.2 qp j ≠ none := by
    intro j hj; rw [(hs.o (gx.S hM) trivial rfl).1] at hj; rw [(hs.a (gqp.S hM) rfl j).2]; exact pf_x_8 j hj
  replace cl_qp_7 : hx_col 40 h_2 qp 7 = df := (hx_col_S hs hTo (gqp.S hM) tt_44 tt_4 rfl rfl).trans cl_qp_7
  replace nu_qp : hx_num 40 h_2 qp 0 (pn0.toInt) := hx_num_S hs hTo (gqp.S hM) tt_44 tt_4 rfl rfl nu_qp
  replace hM := hM.tr (hs.mono (by decide))
  obtain ⟨hr_5, hr_5B⟩ := hr_5
  have hr_5 : ∀ q, r_3 = some q → hx_g L_1 h_2 q 4 := hr_5
  rcases r_3 with _ | q_6
  · skip
    have k_7 : i1.toInt < 0 ∨ pn0.toInt ≤ i1.toInt := by
      rcases hr_5B with ⟨_, z⟩ | ⟨_, _, q, z, _⟩
      · exact z
      · cases z
    refine lv_astore_nN (lv' := [(2, .null), (0, .ref x), (1, .int i1)]) hx hb dX9_dies_5 rfl hl (by decide) rfl (fun ls hl => ?_)
    refine lv_aload_nN hx hb dX9_dies_6 rfl (lv_at hl 0 rfl) ?_
    refine lv_ifnullN (tgt := 17) hx hb dX9_dies_7 (by decide) ?_
    refine lv_iconst (v := 0) hx hb dX9_dies_17 (by decide) ?_
    exact hx_retz hx hb hr rfl hlk hW ⟨⟨df, cl_qp_7, (Or.inl ⟨by decide, rfl, fun hc => by have := hc.1; have := hc.2.1; omega⟩)⟩, hT, hM⟩ dX9_dies_18
  · have gq_6 := hr_5 _ rfl
    have k_8 : 0 ≤ i1.toInt ∧ i1.toInt < pn0.toInt ∧ h_2.2.2 qp i1.toNatClampNeg = some q_6 := by
      rcases hr_5B with ⟨z, _⟩ | ⟨z1, z2, q, z3, z4⟩
      · cases z
      · cases z3; exact ⟨z1, z2, z4⟩
    have fo_9 := k_8.2.2
    have k_8 : 0 ≤ i1.toInt ∧ i1.toInt < pn0.toInt := ⟨k_8.1, k_8.2.1⟩
    refine lv_astore_n (lv' := [(2, .ref q_6), (0, .ref x), (1, .int i1)]) hx hb dX9_dies_5 rfl hl (by decide) rfl (fun ls hl => ?_)
    refine lv_aload_n hx hb dX9_dies_6 rfl (lv_at hl 0 rfl) ?_
    refine lv_ifnull hx hb dX9_dies_7 ?_
    refine lv_aload_n hx hb dX9_dies_10 rfl (lv_at hl 0 rfl) ?_
    refine hx_geti hx hb hts hC_4 hown hW hT gq_6 tt_4 7 (by decide) rfl kw_623 ⟨rfl, rfl, rfl⟩ dX9_dies_11 (fun x_10 ex_10 lx_10 ux_10 => ?_)
    have fx_10 := ex_10.symm
    have cx_10 : x_10 = df i1.toNatClampNeg := by rw [ex_10, ← cl_qp_7]; exact (hx_col_at fo_9 (by unfold Int32.toNatClampNeg; omega)).symm
    refine hb_if_eq (zx := x_10.toInt) (tgt := 19) hx hb rfl dX9_dies_14 (by decide) (fun c_11 => ?_) (fun c_11 => ?_)
    · skip
      refine lv_aload_n hx hb dX9_dies_19 rfl (lv_at hl 0 rfl) ?_
      refine lv_iconst (v := 1) hx hb dX9_dies_20 (by decide) ?_
      have hTo := hT
      have cl_qp_7O := cl_qp_7
      have nu_qpO := nu_qp
      have fo_9O := fo_9
      refine hx_puti hx hb hts hC_4 hown hW hT (hx_S.rf (M := [(4, 7)])) gq_6 tt_4 7 (by decide) rfl kw_623 ⟨rfl, rfl, rfl⟩ rfl (x := (1 : Int32)) (by decide) rfl (by decide) (by decide) (List.mem_singleton.mpr rfl) dX9_dies_21 (fun H locs h_12 eh_12 hW hT hs => ?_)
      replace pf_x_8 : ∀ j : Nat, (j : Int) < (h_12.2.1 x 8).toInt → h_12.2.2 qp j ≠ none := by
        intro j hj; rw [(hs.o (gx.S hM) trivial rfl).1] at hj; rw [(hs.a (gqp.S hM) rfl j).2]; exact pf_x_8 j hj
      replace nu_qp : hx_num 40 h_12 qp 0 (pn0.toInt) := hx_num_S hs hTo (gqp.S hM) tt_44 tt_4 rfl rfl nu_qp
      replace fo_9 := (hs.a (gqp.S hM) rfl _).2.trans fo_9
      replace hM := hM.tr (hs.mono (by decide))
      replace gq_6 := gq_6.S hs
      have f_13 : h_12.2.1 q_6 7 = (1 : Int32) := by rw [eh_12]; exact hx_pi_at _ _ _ _
      obtain ⟨fc_14, dfc_14⟩ : ∃ g : Nat → Int32, g = hx_up df i1.toNatClampNeg (1 : Int32) := ⟨_, rfl⟩
      have nfc_14 : hx_col 40 h_12 qp 7 = fc_14 := by rw [dfc_14, ← cl_qp_7O]; exact hx_col_pi nu_qpO fo_9O (by unfold Int32.toNatClampNeg; omega) eh_12
      refine lv_iconst (v := 1) hx hb dX9_dies_24 (by decide) ?_
      exact hx_retz hx hb hr rfl hlk hW ⟨⟨fc_14, nfc_14, (Or.inr ⟨by decide, dfc_14, by omega, by omega, (by have z1 : (1 : Int32).toInt = 1 := (by decide); show (df i1.toNatClampNeg).toInt ≠ _; rw [← cx_10]; omega)⟩)⟩, hT, hM⟩ dX9_dies_25
    · skip
      refine lv_iconst (v := 0) hx hb dX9_dies_17 (by decide) ?_
      exact hx_retz hx hb hr rfl hlk hW ⟨⟨df, cl_qp_7, (Or.inl ⟨by decide, rfl, fun hc => hc.2.2 (by have z1 : (1 : Int32).toInt = 1 := (by decide); show (df i1.toNatClampNeg).toInt = _; rw [← cx_10]; omega)⟩)⟩, hT, hM⟩ dX9_dies_18


set_option maxHeartbeats 4000000 in
set_option maxRecDepth 100000 in
theorem t_X9_judge_2 (l : Launch) (dC : Nat → ClassId) (dI : Nat → Nat → Nat) (dA : Nat → ClassId) (L : List Nat) (h : hx_h) (sz : Nat) (x : Nat) (i1 : Int32) (i2 : Int32) (hT : hx_T T_tb L h) (gx : hx_g L h x 9) (pn0 : Int32) (f_x_8 : h.2.1 x 8 = pn0) (hi2 : i2.toInt = 0 ∨ i2.toInt = 1) (qp : Nat) (gqp : hx_g L h qp 44) (f_x_7 : h.2.2 x 7 = some qp) (pf_x_8 : ∀ j : Nat, (j : Int) < (h.2.1 x 8).toInt → h.2.2 qp j ≠ none) (df : Nat → Int32) (cl_qp_8 : hx_col 40 h qp 8 = df) (nu_qp : hx_num 40 h qp 0 (pn0.toInt)) : Met l yX9_judge (Cond.code yX9_judge cX9_judge 4 (some .boolean) :: hx_all) ({ frames := 1, cells := 0, slots := 0, locals := 21 }) (va_Pc [.ref x, .int i1, .int i2] (hx_B T_tb (P_ty dA) (dC, dI) vwCl L h sz)) (va_Qi (fun (r : Int32) (u : List Nat × hx_h) => (∃ (df1 : Nat → Int32), hx_col 40 u.2 qp 8 = df1 ∧ (hx_JS pn0.toInt i1.toInt i2 df r.toInt df1)) ∧ hx_T T_tb u.1 u.2 ∧ hx_S T_tb [(4, 8), (4, 9)] L h u.1 u.2) (hx_E T_tb (P_ty dA) (dC, dI) vwCl (hx_A L sz)) (hx_A L sz)) 0 0 (hx_A L sz) := by
  refine hx_met (lv := [(0, .ref x), (1, .int i1), (2, .int i2)]) (by decide +kernel) rfl (Nat.le_of_ble_eq_true rfl) rfl ?_
  intro p e s m below meth c hx hb hml hr hlk hts0 hown hin hsz hW ls hl
  have hts : ∀ w ∈ hx_all, w.before _ s = true := fun w hw => hts0 w (List.mem_cons_of_mem _ hw)
  have hown : s.vm.findClass "SmallCourt" = some m.cls := hown
  have hM : hx_S T_tb [(4, 8), (4, 9)] L h L h := hx_S.rf
  have b_pn0 := hT.gi gx tt_9 (k := 8) rfl
  rw [f_x_8] at b_pn0
  have b_pn0 : 0 ≤ pn0.toInt ∧ pn0.toInt ≤ 40 := b_pn0
  refine lv_aload_n hx hb dX9_judge_0 rfl (lv_at hl 0 rfl) ?_
  refine lv_iload_n hx hb dX9_judge_1 rfl (lv_at hl 1 rfl) ?_
  have hTo := hT
  refine hx_goq (hx_runV (As := [.int i1]) (rest := []) ⟨hx, hb, hml, hown, hts⟩ hW (gx.S hM) tt_9 (T := TX9) (N := 20) rfl (t_X9_personAt_2 l dC dI dA L h s.heap.size x i1 hT (gx.S hM) pn0 ((hM.o gx trivial rfl).1.trans f_x_8) qp (gqp.S hM) ((hM.o gx trivial rfl).2.trans f_x_7) pf_x_8) (cwV 1 hts (hx_gV kw_659 kw_656 kw_658 kw_20 kw_94) rfl rfl rfl (by decide +kernel) ⟨Nat.le_of_ble_eq_true rfl, Nat.le_of_ble_eq_true rfl⟩) rfl hl.1 rfl (Nat.le_of_ble_eq_true rfl) dX9_judge_2 ⟨Nat.le_of_ble_eq_true rfl, Nat.le_of_ble_eq_true rfl⟩) hW (fun r_3 L_1 h_2 H locs p_4 hW => ?_)
  obtain ⟨hr_5, hT, hs⟩ := p_4
  replace hT : hx_T T_tb L_1 h_2 := hT
  replace hs : hx_S T_tb [] L h L_1 h_2 := hs
  replace pf_x_8 : ∀ j : Nat, (j : Int) < (h_2.2.1 x 8).toInt → h_2.2.2 qp j ≠ none := by
    intro j hj; rw [(hs.o (gx.S hM) trivial rfl).1] at hj; rw [(hs.a (gqp.S hM) rfl j).2]; exact pf_x_8 j hj
  replace cl_qp_8 : hx_col 40 h_2 qp 8 = df := (hx_col_S hs hTo (gqp.S hM) tt_44 tt_4 rfl rfl).trans cl_qp_8
  replace nu_qp : hx_num 40 h_2 qp 0 (pn0.toInt) := hx_num_S hs hTo (gqp.S hM) tt_44 tt_4 rfl rfl nu_qp
  replace hM := hM.tr (hs.mono (by decide))
  obtain ⟨hr_5, hr_5B⟩ := hr_5
  have hr_5 : ∀ q, r_3 = some q → hx_g L_1 h_2 q 4 := hr_5
  rcases r_3 with _ | q_6
  · skip
    have k_7 : i1.toInt < 0 ∨ pn0.toInt ≤ i1.toInt := by
      rcases hr_5B with ⟨_, z⟩ | ⟨_, _, q, z, _⟩
      · exact z
      · cases z
    refine lv_astore_nN (lv' := [(3, .null), (0, .ref x), (1, .int i1), (2, .int i2)]) hx hb dX9_judge_5 rfl hl (by decide) rfl (fun ls hl => ?_)
    refine lv_aload_nN hx hb dX9_judge_6 rfl (lv_at hl 0 rfl) ?_
    refine lv_ifnullN (tgt := 18) hx hb dX9_judge_7 (by decide) ?_
    refine lv_iconst (v := 0) hx hb dX9_judge_18 (by decide) ?_
    exact hx_retz hx hb hr rfl hlk hW ⟨⟨df, cl_qp_8, (Or.inl ⟨by decide, rfl, fun hc => by have := hc.1; have := hc.2.1; omega⟩)⟩, hT, hM⟩ dX9_judge_19
  · have gq_6 := hr_5 _ rfl
    have k_8 : 0 ≤ i1.toInt ∧ i1.toInt < pn0.toInt ∧ h_2.2.2 qp i1.toNatClampNeg = some q_6 := by
      rcases hr_5B with ⟨z, _⟩ | ⟨z1, z2, q, z3, z4⟩
      · cases z
      · cases z3; exact ⟨z1, z2, z4⟩
    have fo_9 := k_8.2.2
    have k_8 : 0 ≤ i1.toInt ∧ i1.toInt < pn0.toInt := ⟨k_8.1, k_8.2.1⟩
    refine lv_astore_n (lv' := [(3, .ref q_6), (0, .ref x), (1, .int i1), (2, .int i2)]) hx hb dX9_judge_5 rfl hl (by decide) rfl (fun ls hl => ?_)
    refine lv_aload_n hx hb dX9_judge_6 rfl (lv_at hl 0 rfl) ?_
    refine lv_ifnull hx hb dX9_judge_7 ?_
    refine lv_aload_n hx hb dX9_judge_10 rfl (lv_at hl 0 rfl) ?_
    refine hx_geti hx hb hts hC_4 hown hW hT gq_6 tt_4 8 (by decide) rfl kw_625 ⟨rfl, rfl, rfl⟩ dX9_judge_11 (fun x_10 ex_10 lx_10 ux_10 => ?_)
    have fx_10 := ex_10.symm
    have cx_10 : x_10 = df i1.toNatClampNeg := by rw [ex_10, ← cl_qp_8]; exact (hx_col_at fo_9 (by unfold Int32.toNatClampNeg; omega)).symm
    refine lv_iload_n hx hb dX9_judge_14 rfl (lv_at hl 3 rfl) ?_
    refine hb_icmp_ne (zx := x_10.toInt) (zy := i2.toInt) (tgt := 20) hx hb rfl rfl dX9_judge_15 (by decide) (fun c_11 => ?_) (fun c_11 => ?_)
    · skip
      refine lv_aload_n hx hb dX9_judge_20 rfl (lv_at hl 0 rfl) ?_
      refine lv_iload_n hx hb dX9_judge_21 rfl (lv_at hl 3 rfl) ?_
      have hTo := hT
      have cl_qp_8O := cl_qp_8
      have nu_qpO := nu_qp
      have fo_9O := fo_9
      refine hx_puti hx hb hts hC_4 hown hW hT (hx_S.rf (M := [(4, 8)])) gq_6 tt_4 8 (by decide) rfl kw_625 ⟨rfl, rfl, rfl⟩ rfl (x := i2) ⟨by omega, by omega⟩ rfl (hx_nar01 (by omega)) (hx_fz (by omega)) (List.mem_singleton.mpr rfl) dX9_judge_22 (fun H locs h_12 eh_12 hW hT hs => ?_)
      replace pf_x_8 : ∀ j : Nat, (j : Int) < (h_12.2.1 x 8).toInt → h_12.2.2 qp j ≠ none := by
        intro j hj; rw [(hs.o (gx.S hM) trivial rfl).1] at hj; rw [(hs.a (gqp.S hM) rfl j).2]; exact pf_x_8 j hj
      replace nu_qp : hx_num 40 h_12 qp 0 (pn0.toInt) := hx_num_S hs hTo (gqp.S hM) tt_44 tt_4 rfl rfl nu_qp
      replace fo_9 := (hs.a (gqp.S hM) rfl _).2.trans fo_9
      replace hM := hM.tr (hs.mono (by decide))
      replace gq_6 := gq_6.S hs
      have f_13 : h_12.2.1 q_6 8 = i2 := by rw [eh_12]; exact hx_pi_at _ _ _ _
      obtain ⟨fc_14, dfc_14⟩ : ∃ g : Nat → Int32, g = hx_up df i1.toNatClampNeg i2 := ⟨_, rfl⟩
      have nfc_14 : hx_col 40 h_12 qp 8 = fc_14 := by rw [dfc_14, ← cl_qp_8O]; exact hx_col_pi nu_qpO fo_9O (by unfold Int32.toNatClampNeg; omega) eh_12
      refine lv_aload_n hx hb dX9_judge_25 rfl (lv_at hl 0 rfl) ?_
      refine lv_iconst (v := 1) hx hb dX9_judge_26 (by decide) ?_
      have hTo := hT
      refine hx_puti hx hb hts hC_4 hown hW hT (hx_S.rf (M := [(4, 9)])) gq_6 tt_4 9 (by decide) rfl kw_626 ⟨rfl, rfl, rfl⟩ rfl (x := (1 : Int32)) (by decide) rfl (by decide) (by decide) (List.mem_singleton.mpr rfl) dX9_judge_27 (fun H locs h_15 eh_15 hW hT hs => ?_)
      replace f_13 := (hs.o gq_6 trivial rfl).1.trans f_13
      replace pf_x_8 : ∀ j : Nat, (j : Int) < (h_15.2.1 x 8).toInt → h_15.2.2 qp j ≠ none := by
        intro j hj; rw [(hs.o (gx.S hM) trivial rfl).1] at hj; rw [(hs.a (gqp.S hM) rfl j).2]; exact pf_x_8 j hj
      replace nfc_14 : hx_col 40 h_15 qp 8 = fc_14 := (hx_col_S hs hTo (gqp.S hM) tt_44 tt_4 rfl rfl).trans nfc_14
      replace nu_qp : hx_num 40 h_15 qp 0 (pn0.toInt) := hx_num_S hs hTo (gqp.S hM) tt_44 tt_4 rfl rfl nu_qp
      replace fo_9 := (hs.a (gqp.S hM) rfl _).2.trans fo_9
      replace hM := hM.tr (hs.mono (by decide))
      replace gq_6 := gq_6.S hs
      have f_16 : h_15.2.1 q_6 9 = (1 : Int32) := by rw [eh_15]; exact hx_pi_at _ _ _ _
      refine lv_iconst (v := 1) hx hb dX9_judge_30 (by decide) ?_
      exact hx_retz hx hb hr rfl hlk hW ⟨⟨fc_14, nfc_14, (Or.inr ⟨by decide, dfc_14, by omega, by omega, (by have z1 : (1 : Int32).toInt = 1 := (by decide); show (df i1.toNatClampNeg).toInt ≠ _; rw [← cx_10]; omega)⟩)⟩, hT, hM⟩ dX9_judge_31
    · skip
      refine lv_iconst (v := 0) hx hb dX9_judge_18 (by decide) ?_
      exact hx_retz hx hb hr rfl hlk hW ⟨⟨df, cl_qp_8, (Or.inl ⟨by decide, rfl, fun hc => hc.2.2 (by have z1 : (1 : Int32).toInt = 1 := (by decide); show (df i1.toNatClampNeg).toInt = _; rw [← cx_10]; omega)⟩)⟩, hT, hM⟩ dX9_judge_19


set_option maxHeartbeats 4000000 in
set_option maxRecDepth 100000 in
theorem t_X9_anew_2 (l : Launch) (dC : Nat → ClassId) (dI : Nat → Nat → Nat) (dA : Nat → ClassId) (L : List Nat) (h : hx_h) (sz : Nat) (x : Nat) (i1 : Int32) (i2 : Int32) (i3 : Int32) (i4 : Int32) (i5 : Int32) (hT : hx_T T_tb L h) (gx : hx_g L h x 9) (pn0 : Int32) (f_x_8 : h.2.1 x 8 = pn0) (qp : Nat) (gqp : hx_g L h qp 44) (f_x_7 : h.2.2 x 7 = some qp) (pf_x_8 : ∀ j : Nat, (j : Int) < (h.2.1 x 8).toInt → h.2.2 qp j ≠ none) (df : Nat → Int32) (cl_qp_7 : hx_col 40 h qp 7 = df) (dxf : Nat → Int32) (cl_qp_5 : hx_col 40 h qp 5 = dxf) (dyf : Nat → Int32) (cl_qp_6 : hx_col 40 h qp 6 = dyf) (nu_qp : hx_num 40 h qp 0 (pn0.toInt)) : Met l yX9_anew (Cond.code yX9_anew cX9_anew 7 (some .boolean) :: hx_all) ({ frames := 2, cells := 0, slots := 0, locals := 45 }) (va_Pc [.ref x, .int i1, .int i2, .int i3, .int i4, .int i5] (hx_B T_tb (P_ty dA) (dC, dI) vwCl L h sz)) (va_Qi (fun (r : Int32) (u : List Nat × hx_h) => (∃ (dxf1 : Nat → Int32) (dyf1 : Nat → Int32), hx_col 40 u.2 qp 5 = dxf1 ∧ hx_col 40 u.2 qp 6 = dyf1 ∧ (hx_AS pn0.toInt i1.toInt i2.toInt i3.toInt i4.toInt i5.toInt df r.toInt ∧ hw_AD r.toInt i1.toInt i4 dxf dxf1 ∧ hw_AD r.toInt i1.toInt i5 dyf dyf1)) ∧ hx_T T_tb u.1 u.2 ∧ hx_S T_tb [(4, 3), (4, 4), (4, 5), (4, 6)] L h u.1 u.2) (hx_E T_tb (P_ty dA) (dC, dI) vwCl (hx_A L sz)) (hx_A L sz)) 0 0 (hx_A L sz) := by
  refine hx_met (lv := [(0, .ref x), (1, .int i1), (2, .int i2), (3, .int i3), (4, .int i4), (5, .int i5)]) (by decide +kernel) rfl (Nat.le_of_ble_eq_true rfl) rfl ?_
  intro p e s m below meth c hx hb hml hr hlk hts0 hown hin hsz hW ls hl
  have hts : ∀ w ∈ hx_all, w.before _ s = true := fun w hw => hts0 w (List.mem_cons_of_mem _ hw)
  have hown : s.vm.findClass "SmallCourt" = some m.cls := hown
  have hM : hx_S T_tb [(4, 3), (4, 4), (4, 5), (4, 6)] L h L h := hx_S.rf
  have b_pn0 := hT.gi gx tt_9 (k := 8) rfl
  rw [f_x_8] at b_pn0
  have b_pn0 : 0 ≤ pn0.toInt ∧ pn0.toInt ≤ 40 := b_pn0
  refine lv_aload_n hx hb dX9_anew_0 rfl (lv_at hl 0 rfl) ?_
  refine lv_iload_n hx hb dX9_anew_1 rfl (lv_at hl 1 rfl) ?_
  have hTo := hT
  refine hx_goq (hx_runV (As := [.int i1]) (rest := []) ⟨hx, hb, hml, hown, hts⟩ hW (gx.S hM) tt_9 (T := TX9) (N := 20) rfl (t_X9_personAt_2 l dC dI dA L h s.heap.size x i1 hT (gx.S hM) pn0 ((hM.o gx trivial rfl).1.trans f_x_8) qp (gqp.S hM) ((hM.o gx trivial rfl).2.trans f_x_7) pf_x_8) (cwV 1 hts (hx_gV kw_659 kw_656 kw_658 kw_20 kw_94) rfl rfl rfl (by decide +kernel) ⟨Nat.le_of_ble_eq_true rfl, Nat.le_of_ble_eq_true rfl⟩) rfl hl.1 rfl (Nat.le_of_ble_eq_true rfl) dX9_anew_2 ⟨Nat.le_of_ble_eq_true rfl, Nat.le_of_ble_eq_true rfl⟩) hW (fun r_3 L_1 h_2 H locs p_4 hW => ?_)
  obtain ⟨hr_5, hT, hs⟩ := p_4
  replace hT : hx_T T_tb L_1 h_2 := hT
  replace hs : hx_S T_tb [] L h L_1 h_2 := hs
  replace pf_x_8 : ∀ j : Nat, (j : Int) < (h_2.2.1 x 8).toInt → h_2.2.2 qp j ≠ none := by
    intro j hj; rw [(hs.o (gx.S hM) trivial rfl).1] at hj; rw [(hs.a (gqp.S hM) rfl j).2]; exact pf_x_8 j hj
  replace cl_qp_7 : hx_col 40 h_2 qp 7 = df := (hx_col_S hs hTo (gqp.S hM) tt_44 tt_4 rfl rfl).trans cl_qp_7
  replace cl_qp_5 : hx_col 40 h_2 qp 5 = dxf := (hx_col_S hs hTo (gqp.S hM) tt_44 tt_4 rfl rfl).trans cl_qp_5
  replace cl_qp_6 : hx_col 40 h_2 qp 6 = dyf := (hx_col_S hs hTo (gqp.S hM) tt_44 tt_4 rfl rfl).trans cl_qp_6
  replace nu_qp : hx_num 40 h_2 qp 0 (pn0.toInt) := hx_num_S hs hTo (gqp.S hM) tt_44 tt_4 rfl rfl nu_qp
  replace hM := hM.tr (hs.mono (by decide))
  obtain ⟨hr_5, hr_5B⟩ := hr_5
  have hr_5 : ∀ q, r_3 = some q → hx_g L_1 h_2 q 4 := hr_5
  rcases r_3 with _ | q_6
  · skip
    have k_7 : i1.toInt < 0 ∨ pn0.toInt ≤ i1.toInt := by
      rcases hr_5B with ⟨_, z⟩ | ⟨_, _, q, z, _⟩
      · exact z
      · cases z
    refine lv_astoreN (lv' := [(6, .null), (0, .ref x), (1, .int i1), (2, .int i2), (3, .int i3), (4, .int i4), (5, .int i5)]) hx hb dX9_anew_5 hl (by decide) rfl (fun ls hl => ?_)
    refine lv_aloadN hx hb dX9_anew_7 (lv_at hl 0 rfl) ?_
    refine lv_ifnullN (tgt := 32) hx hb dX9_anew_9 (by decide) ?_
    refine lv_iconst (v := 0) hx hb dX9_anew_32 (by decide) ?_
    exact hx_retz hx hb hr rfl hlk hW ⟨⟨dxf, dyf, cl_qp_5, cl_qp_6, ⟨(Or.inl ⟨by decide, fun hc => by have := hc.1; omega⟩), (Or.inl ⟨by decide, rfl⟩), (Or.inl ⟨by decide, rfl⟩)⟩⟩, hT, hM⟩ dX9_anew_33
  · have gq_6 := hr_5 _ rfl
    have k_8 : 0 ≤ i1.toInt ∧ i1.toInt < pn0.toInt ∧ h_2.2.2 qp i1.toNatClampNeg = some q_6 := by
      rcases hr_5B with ⟨z, _⟩ | ⟨z1, z2, q, z3, z4⟩
      · cases z
      · cases z3; exact ⟨z1, z2, z4⟩
    have fo_9 := k_8.2.2
    have k_8 : 0 ≤ i1.toInt ∧ i1.toInt < pn0.toInt := ⟨k_8.1, k_8.2.1⟩
    refine lv_astore (lv' := [(6, .ref q_6), (0, .ref x), (1, .int i1), (2, .int i2), (3, .int i3), (4, .int i4), (5, .int i5)]) hx hb dX9_anew_5 hl (by decide) rfl (fun ls hl => ?_)
    refine lv_aload hx hb dX9_anew_7 (lv_at hl 0 rfl) ?_
    refine lv_ifnull hx hb dX9_anew_9 ?_
    refine lv_aload hx hb dX9_anew_12 (lv_at hl 0 rfl) ?_
    refine hx_geti hx hb hts hC_4 hown hW hT gq_6 tt_4 7 (by decide) rfl kw_623 ⟨rfl, rfl, rfl⟩ dX9_anew_14 (fun x_10 ex_10 lx_10 ux_10 => ?_)
    have fx_10 := ex_10.symm
    have cx_10 : x_10 = df i1.toNatClampNeg := by rw [ex_10, ← cl_qp_7]; exact (hx_col_at fo_9 (by unfold Int32.toNatClampNeg; omega)).symm
    refine hb_if_ne (zx := x_10.toInt) (tgt := 32) hx hb rfl dX9_anew_17 (by decide) (fun c_11 => ?_) (fun c_11 => ?_)
    · skip
      refine lv_iconst (v := 0) hx hb dX9_anew_32 (by decide) ?_
      exact hx_retz hx hb hr rfl hlk hW ⟨⟨dxf, dyf, cl_qp_5, cl_qp_6, ⟨(Or.inl ⟨by decide, fun hc => by have h1 : (df i1.toNatClampNeg).toInt = 0 := hc.2.1; have h2 := hc.2.2; unfold hx_hh at h2; rw [← cx_10] at h1; omega⟩), (Or.inl ⟨by decide, rfl⟩), (Or.inl ⟨by decide, rfl⟩)⟩⟩, hT, hM⟩ dX9_anew_33
    · skip
      refine lv_iload_n hx hb dX9_anew_20 rfl (lv_at hl 3 rfl) ?_
      refine lv_iload_n hx hb dX9_anew_21 rfl (lv_at hl 4 rfl) ?_
      refine lv_iload hx hb dX9_anew_22 (lv_at hl 5 rfl) ?_
      refine lv_iload hx hb dX9_anew_24 (lv_at hl 6 rfl) ?_
      have hTo := hT
      refine hx_goi (hx_runS (As := [.int i2, .int i3, .int i4, .int i5]) (rest := []) ⟨hx, hb, hml, hown, hts⟩ hW (t_X9_isHousehold_2 l dC dI dA L_1 h_2 H.size i2 i3 i4 i5 hT) (va_cwS 4 hts (hx_gS kw_604 kw_602 kw_603 kw_94) rfl rfl rfl (by decide +kernel) ⟨Nat.le_of_ble_eq_true rfl, Nat.le_of_ble_eq_true rfl⟩) rfl hl.1 rfl (Nat.le_of_ble_eq_true rfl) dX9_anew_26 ⟨Nat.le_of_ble_eq_true rfl, Nat.le_of_ble_eq_true rfl⟩) hW (fun r_14 L_12 h_13 H locs p_15 hW => ?_)
      obtain ⟨hr_16, hT, hs⟩ := p_15
      replace hT : hx_T T_tb L_12 h_13 := hT
      replace hs : hx_S T_tb [] L_1 h_2 L_12 h_13 := hs
      replace fx_10 := (hs.o gq_6 trivial rfl).1.trans fx_10
      replace pf_x_8 : ∀ j : Nat, (j : Int) < (h_13.2.1 x 8).toInt → h_13.2.2 qp j ≠ none := by
        intro j hj; rw [(hs.o (gx.S hM) trivial rfl).1] at hj; rw [(hs.a (gqp.S hM) rfl j).2]; exact pf_x_8 j hj
      replace cl_qp_7 : hx_col 40 h_13 qp 7 = df := (hx_col_S hs hTo (gqp.S hM) tt_44 tt_4 rfl rfl).trans cl_qp_7
      replace cl_qp_5 : hx_col 40 h_13 qp 5 = dxf := (hx_col_S hs hTo (gqp.S hM) tt_44 tt_4 rfl rfl).trans cl_qp_5
      replace cl_qp_6 : hx_col 40 h_13 qp 6 = dyf := (hx_col_S hs hTo (gqp.S hM) tt_44 tt_4 rfl rfl).trans cl_qp_6
      replace nu_qp : hx_num 40 h_13 qp 0 (pn0.toInt) := hx_num_S hs hTo (gqp.S hM) tt_44 tt_4 rfl rfl nu_qp
      replace fo_9 := (hs.a (gqp.S hM) rfl _).2.trans fo_9
      replace hM := hM.tr (hs.mono (by decide))
      replace gq_6 := gq_6.S hs
      refine hb_if_ne (zx := r_14.toInt) (tgt := 34) hx hb rfl dX9_anew_29 (by decide) (fun c_17 => ?_) (fun c_17 => ?_)
      · skip
        refine lv_aload hx hb dX9_anew_34 (lv_at hl 0 rfl) ?_
        refine lv_iload_n hx hb dX9_anew_36 rfl (lv_at hl 3 rfl) ?_
        refine lv_iload_n hx hb dX9_anew_37 rfl (lv_at hl 4 rfl) ?_
        refine lv_iload hx hb dX9_anew_38 (lv_at hl 5 rfl) ?_
        refine lv_iload hx hb dX9_anew_40 (lv_at hl 6 rfl) ?_
        have fo_9O9 := fo_9
        have nu_qpO9 := nu_qp
        have gqpShMO9 := (gqp.S hM)
        have cl_qp_5O9 := cl_qp_5
        have cl_qp_6O9 := cl_qp_6
        have hTo := hT
        refine hx_gov (hx_runV (As := [.int i2, .int i3, .int i4, .int i5]) (rest := []) ⟨hx, hb, hml, hown, hts⟩ hW gq_6 tt_4 (T := TX4) (N := 10) rfl (t_X4_tell_2 l dC dI dA L_12 h_13 H.size q_6 i2 i3 i4 i5 hT gq_6) (cwV 4 hts (hx_gV kw_651 kw_648 kw_649 kw_650 kw_108) rfl rfl rfl (by decide +kernel) ⟨Nat.le_of_ble_eq_true rfl, Nat.le_of_ble_eq_true rfl⟩) rfl hl.1 rfl (Nat.le_of_ble_eq_true rfl) dX9_anew_42 ⟨Nat.le_of_ble_eq_true rfl, Nat.le_of_ble_eq_true rfl⟩) hW (fun L_18 h_19 H locs p_21 hW => ?_)
        obtain ⟨⟨w_23, w_24, fw_23, fw_24, hr_22⟩, hT, hs⟩ := p_21
        replace hT : hx_T T_tb L_18 h_19 := hT
        replace hs : hx_S T_tb [(4, 3), (4, 4), (4, 5), (4, 6)] L_12 h_13 L_18 h_19 := hs
        replace fx_10 := (hs.o gq_6 trivial rfl).1.trans fx_10
        replace pf_x_8 : ∀ j : Nat, (j : Int) < (h_19.2.1 x 8).toInt → h_19.2.2 qp j ≠ none := by
          intro j hj; rw [(hs.o (gx.S hM) trivial rfl).1] at hj; rw [(hs.a (gqp.S hM) rfl j).2]; exact pf_x_8 j hj
        replace cl_qp_7 : hx_col 40 h_19 qp 7 = df := (hx_col_S hs hTo (gqp.S hM) tt_44 tt_4 rfl rfl).trans cl_qp_7
        replace nu_qp : hx_num 40 h_19 qp 0 (pn0.toInt) := hx_num_S hs hTo (gqp.S hM) tt_44 tt_4 rfl rfl nu_qp
        replace fo_9 := (hs.a (gqp.S hM) rfl _).2.trans fo_9
        replace hM := hM.tr (hs.mono (by decide))
        replace gq_6 := gq_6.S hs
        have fw_23 : h_19.2.1 q_6 5 = w_23 := fw_23
        have bw_23 := hT.gi gq_6 tt_4 (k := 5) rfl
        rw [fw_23] at bw_23
        have bw_23 : -2147483648 ≤ w_23.toInt ∧ w_23.toInt ≤ 2147483647 := bw_23
        have fw_24 : h_19.2.1 q_6 6 = w_24 := fw_24
        have bw_24 := hT.gi gq_6 tt_4 (k := 6) rfl
        rw [fw_24] at bw_24
        have bw_24 : -2147483648 ≤ w_24.toInt ∧ w_24.toInt ≤ 2147483647 := bw_24
        have tlr := fun j => (hs.a gqpShMO9 rfl j).2
        obtain ⟨fc_26, dfc_26⟩ : ∃ g : Nat → Int32, g = hx_up dxf i1.toNatClampNeg i4 := ⟨_, rfl⟩
        have nc_25 : hx_col 40 h_19 qp 5 = fc_26 := by rw [dfc_26, ← hr_22.1]; exact hw_col_u hr_22.2.2 tlr nu_qpO9 fo_9O9 (by unfold Int32.toNatClampNeg; omega) fw_23 cl_qp_5O9
        obtain ⟨fc_28, dfc_28⟩ : ∃ g : Nat → Int32, g = hx_up dyf i1.toNatClampNeg i5 := ⟨_, rfl⟩
        have nc_27 : hx_col 40 h_19 qp 6 = fc_28 := by rw [dfc_28, ← hr_22.2.1]; exact hw_col_u hr_22.2.2 tlr nu_qpO9 fo_9O9 (by unfold Int32.toNatClampNeg; omega) fw_24 cl_qp_6O9
        have tlx := hr_22.1; have tly := hr_22.2.1
        rw [tlx] at fw_23
        rw [tly] at fw_24
        refine lv_iconst (v := 1) hx hb dX9_anew_45 (by decide) ?_
        exact hx_retz hx hb hr rfl hlk hW ⟨⟨fc_26, fc_28, nc_25, nc_27, ⟨(Or.inr ⟨by decide, ⟨by omega, by omega⟩, (by show (df i1.toNatClampNeg).toInt = 0; rw [← cx_10]; omega), by unfold hx_hh; omega⟩), (Or.inr ⟨by decide, dfc_26⟩), (Or.inr ⟨by decide, dfc_28⟩)⟩⟩, hT, hM⟩ dX9_anew_46
      · skip
        refine lv_iconst (v := 0) hx hb dX9_anew_32 (by decide) ?_
        exact hx_retz hx hb hr rfl hlk hW ⟨⟨dxf, dyf, cl_qp_5, cl_qp_6, ⟨(Or.inl ⟨by decide, fun hc => by have h1 : (df i1.toNatClampNeg).toInt = 0 := hc.2.1; have h2 := hc.2.2; unfold hx_hh at h2; rw [← cx_10] at h1; omega⟩), (Or.inl ⟨by decide, rfl⟩), (Or.inl ⟨by decide, rfl⟩)⟩⟩, hT, hM⟩ dX9_anew_33


set_option maxHeartbeats 4000000 in
set_option maxRecDepth 100000 in
theorem t_X9_file_2 (l : Launch) (dC : Nat → ClassId) (dI : Nat → Nat → Nat) (dA : Nat → ClassId) (L : List Nat) (h : hx_h) (sz : Nat) (x : Nat) (i1 : Int32) (i2 : Int32) (i3 : Int32) (i4 : Int32) (i5 : Int32) (i6 : Int32) (hT : hx_T T_tb L h) (gx : hx_g L h x 9) (qp : Nat) (gqp : hx_g L h qp 44) (f_x_7 : h.2.2 x 7 = some qp) (qc : Nat) (gqc : hx_g L h qc 45) (f_x_10 : h.2.2 x 10 = some qc) (qa : Nat) (gqa : hx_g L h qa 43) (f_x_5 : h.2.2 x 5 = some qa) (qw : Nat) (gqw : hx_g L h qw 8) (f_x_19 : h.2.2 x 19 = some qw) (ql : Nat) (gql : hx_g L h ql 40) (f_qw_3 : h.2.2 qw 3 = some ql)  (cn0 : Int32) (f_x_11 : h.2.1 x 11 = cn0) (pn0 : Int32) (f_x_8 : h.2.1 x 8 = pn0) (nw0 : Int32) (f_x_2 : h.2.1 x 2 = nw0) (df : Nat → Int32) (cl_qp_7 : hx_col 40 h qp 7 = df) (ff : Nat → Int32) (cl_qc_10 : hx_col 100 h qc 10 = ff) (tf : Nat → Int32) (cl_qc_9 : hx_col 100 h qc 9 = tf) (nu_qc : hx_num 100 h qc 0 (cn0.toInt)) (sb_ql_qc : hx_LQ 8 100 h ql qc) (agf : Nat → Int32) (hDF : hw_DF h qc qp 2 agf cn0.toInt) (pf_x_8 : ∀ j : Nat, (j : Int) < (h.2.1 x 8).toInt → h.2.2 qp j ≠ none) (pf_x_11 : ∀ j : Nat, (j : Int) < (h.2.1 x 11).toInt → h.2.2 qc j ≠ none) (pf_x_6 : ∀ j : Nat, (j : Int) < (h.2.1 x 6).toInt → h.2.2 qa j ≠ none) : Met l yX9_file (Cond.code yX9_file cX9_file 10 (some .int) :: hx_all) ({ frames := 2, cells := 3, slots := 30, locals := 36 }) (va_Pc [.ref x, .int i1, .int i2, .int i3, .int i4, .int i5, .int i6] (hx_B T_tb (P_ty dA) (dC, dI) vwCl L h sz)) (va_Qi (fun (r : Int32) (u : List Nat × hx_h) => (∃ (cn1 : Int32) (ff1 : Nat → Int32) (tf1 : Nat → Int32), u.2.2.1 x 11 = cn1 ∧ hx_col 100 u.2 qc 10 = ff1 ∧ hx_col 100 u.2 qc 9 = tf1 ∧ ((hx_num 100 u.2 qc 0 (cn1.toInt)) ∧ ((hx_LQ 8 100 u.2 ql qc) ∧ ((hx_FS cn0.toInt pn0.toInt nw0.toInt i1.toInt i2.toInt i3.toInt i4.toInt i6.toInt df r.toInt cn1.toInt) ∧ hx_CD cn0.toInt r.toInt (-1) ff ff1 ∧ hx_CD cn0.toInt r.toInt 0 tf tf1 ∧ (∃ agf1, hw_UP r.toInt cn0.toInt i2 agf agf1 ∧ hw_DF u.2 qc qp 2 agf1 cn1.toInt))))) ∧ hx_T T_tb u.1 u.2 ∧ hx_S T_tb [(2, 6), (2, 7), (2, 8), (9, 11), (20, 0), (21, 0), (45, 0), (118, 0), (118, 1), (118, 2), (118, 3), (118, 4), (118, 5), (118, 10), (118, 11), (118, 13), (118, 16), (118, 18)] L h u.1 u.2 ∧ (∀ j : Nat, (j : Int) < (u.2.2.1 x 11).toInt → u.2.2.2 qc j ≠ none)) (hx_E T_tb (P_ty dA) (dC, dI) vwCl (hx_A L sz)) (hx_A L sz)) 3 30 (hx_A L sz) := by
  refine hx_met (lv := [(0, .ref x), (1, .int i1), (2, .int i2), (3, .int i3), (4, .int i4), (5, .int i5), (6, .int i6)]) (by decide +kernel) rfl (Nat.le_of_ble_eq_true rfl) rfl ?_
  intro p e s m below meth c hx hb hml hr hlk hts0 hown hin hsz hW ls hl
  have hts : ∀ w ∈ hx_all, w.before _ s = true := fun w hw => hts0 w (List.mem_cons_of_mem _ hw)
  have hown : s.vm.findClass "SmallCourt" = some m.cls := hown
  have hM : hx_S T_tb [(2, 6), (2, 7), (2, 8), (9, 11), (20, 0), (21, 0), (45, 0), (118, 0), (118, 1), (118, 2), (118, 3), (118, 4), (118, 5), (118, 10), (118, 11), (118, 13), (118, 16), (118, 18)] L h L h := hx_S.rf
  have b_cn0 := hT.gi gx tt_9 (k := 11) rfl
  rw [f_x_11] at b_cn0
  have b_cn0 : 0 ≤ cn0.toInt ∧ cn0.toInt ≤ 100 := b_cn0
  have b_pn0 := hT.gi gx tt_9 (k := 8) rfl
  rw [f_x_8] at b_pn0
  have b_pn0 : 0 ≤ pn0.toInt ∧ pn0.toInt ≤ 40 := b_pn0
  have b_nw0 := hT.gi gx tt_9 (k := 2) rfl
  rw [f_x_2] at b_nw0
  have b_nw0 : 0 ≤ nw0.toInt ∧ nw0.toInt ≤ 7999 := b_nw0
  refine lv_aload_n hx hb dX9_file_0 rfl (lv_at hl 0 rfl) ?_
  refine lv_iload_n hx hb dX9_file_1 rfl (lv_at hl 1 rfl) ?_
  have hTo := hT
  refine hx_goq (hx_runV (As := [.int i1]) (rest := []) ⟨hx, hb, hml, hown, hts⟩ hW gx tt_9 (T := TX9) (N := 20) rfl (t_X9_personAt_2 l dC dI dA L h s.heap.size x i1 hT gx pn0 f_x_8 qp gqp f_x_7 pf_x_8) (cwV 1 hts (hx_gV kw_659 kw_656 kw_658 kw_20 kw_94) rfl rfl rfl (by decide +kernel) ⟨Nat.le_of_ble_eq_true rfl, Nat.le_of_ble_eq_true rfl⟩) rfl hl.1 rfl (Nat.le_of_ble_eq_true rfl) dX9_file_2 ⟨Nat.le_of_ble_eq_true rfl, Nat.le_of_ble_eq_true rfl⟩) hW (fun r_3 L_1 h_2 H locs p_4 hW => ?_)
  obtain ⟨hr_5, hT, hs⟩ := p_4
  replace hT : hx_T T_tb L_1 h_2 := hT
  replace hs : hx_S T_tb [] L h L_1 h_2 := hs
  replace f_x_7 := (hs.o gx trivial rfl).2.trans f_x_7
  replace f_x_10 := (hs.o gx trivial rfl).2.trans f_x_10
  replace f_x_5 := (hs.o gx trivial rfl).2.trans f_x_5
  replace f_x_19 := (hs.o gx trivial rfl).2.trans f_x_19
  replace f_x_11 := (hs.o gx trivial rfl).1.trans f_x_11
  replace f_x_8 := (hs.o gx trivial rfl).1.trans f_x_8
  replace f_x_2 := (hs.o gx trivial rfl).1.trans f_x_2
  replace pf_x_8 : ∀ j : Nat, (j : Int) < (h_2.2.1 x 8).toInt → h_2.2.2 qp j ≠ none := by
    intro j hj; rw [(hs.o gx trivial rfl).1] at hj; rw [(hs.a gqp rfl j).2]; exact pf_x_8 j hj
  replace pf_x_11 : ∀ j : Nat, (j : Int) < (h_2.2.1 x 11).toInt → h_2.2.2 qc j ≠ none := by
    intro j hj; rw [(hs.o gx trivial rfl).1] at hj; rw [(hs.a gqc rfl j).2]; exact pf_x_11 j hj
  replace pf_x_6 : ∀ j : Nat, (j : Int) < (h_2.2.1 x 6).toInt → h_2.2.2 qa j ≠ none := by
    intro j hj; rw [(hs.o gx trivial rfl).1] at hj; rw [(hs.a (gqa.S hM) rfl j).2]; exact pf_x_6 j hj
  replace cl_qp_7 : hx_col 40 h_2 qp 7 = df := (hx_col_S hs hTo gqp tt_44 tt_4 rfl rfl).trans cl_qp_7
  replace cl_qc_10 : hx_col 100 h_2 qc 10 = ff := (hx_col_S hs hTo gqc tt_45 tt_2 rfl rfl).trans cl_qc_10
  replace cl_qc_9 : hx_col 100 h_2 qc 9 = tf := (hx_col_S hs hTo gqc tt_45 tt_2 rfl rfl).trans cl_qc_9
  replace nu_qc : hx_num 100 h_2 qc 0 (cn0.toInt) := hx_num_S hs hTo gqc tt_45 tt_2 rfl rfl nu_qc
  replace sb_ql_qc : hx_LQ 8 100 h_2 ql qc := hx_LQ_S hs (gql.S hM) gqc rfl rfl sb_ql_qc
  replace hDF : hw_DF h_2 qc qp 2 agf cn0.toInt := hw_DF_S hs hTo gqc gqp tt_45 tt_2 rfl rfl rfl hDF
  replace hM := hM.tr (hs.mono (by decide))
  replace gx := gx.S hs
  replace gqp := gqp.S hs
  replace gqc := gqc.S hs
  obtain ⟨hr_5, hr_5B⟩ := hr_5
  have hr_5 : ∀ q, r_3 = some q → hx_g L_1 h_2 q 4 := hr_5
  rcases r_3 with _ | q_6
  · skip
    have k_7 : i1.toInt < 0 ∨ pn0.toInt ≤ i1.toInt := by
      rcases hr_5B with ⟨_, z⟩ | ⟨_, _, q, z, _⟩
      · exact z
      · cases z
    refine lv_astoreN (lv' := [(7, .null), (0, .ref x), (1, .int i1), (2, .int i2), (3, .int i3), (4, .int i4), (5, .int i5), (6, .int i6)]) hx hb dX9_file_5 hl (by decide) rfl (fun ls hl => ?_)
    refine lv_aload_n hx hb dX9_file_7 rfl (lv_at hl 1 rfl) ?_
    refine lv_iload_n hx hb dX9_file_8 rfl (lv_at hl 3 rfl) ?_
    have hTo := hT
    refine hx_goq (hx_runV (As := [.int i2]) (rest := []) ⟨hx, hb, hml, hown, hts⟩ hW gx tt_9 (T := TX9) (N := 20) rfl (t_X9_personAt_2 l dC dI dA L_1 h_2 H.size x i2 hT gx pn0 f_x_8 qp gqp f_x_7 pf_x_8) (cwV 1 hts (hx_gV kw_659 kw_656 kw_658 kw_20 kw_94) rfl rfl rfl (by decide +kernel) ⟨Nat.le_of_ble_eq_true rfl, Nat.le_of_ble_eq_true rfl⟩) rfl hl.1 rfl (Nat.le_of_ble_eq_true rfl) dX9_file_9 ⟨Nat.le_of_ble_eq_true rfl, Nat.le_of_ble_eq_true rfl⟩) hW (fun r_10 L_8 h_9 H locs p_11 hW => ?_)
    obtain ⟨hr_12, hT, hs⟩ := p_11
    replace hT : hx_T T_tb L_8 h_9 := hT
    replace hs : hx_S T_tb [] L_1 h_2 L_8 h_9 := hs
    replace f_x_7 := (hs.o gx trivial rfl).2.trans f_x_7
    replace f_x_10 := (hs.o gx trivial rfl).2.trans f_x_10
    replace f_x_5 := (hs.o gx trivial rfl).2.trans f_x_5
    replace f_x_19 := (hs.o gx trivial rfl).2.trans f_x_19
    replace f_x_11 := (hs.o gx trivial rfl).1.trans f_x_11
    replace f_x_8 := (hs.o gx trivial rfl).1.trans f_x_8
    replace f_x_2 := (hs.o gx trivial rfl).1.trans f_x_2
    replace pf_x_8 : ∀ j : Nat, (j : Int) < (h_9.2.1 x 8).toInt → h_9.2.2 qp j ≠ none := by
      intro j hj; rw [(hs.o gx trivial rfl).1] at hj; rw [(hs.a gqp rfl j).2]; exact pf_x_8 j hj
    replace pf_x_11 : ∀ j : Nat, (j : Int) < (h_9.2.1 x 11).toInt → h_9.2.2 qc j ≠ none := by
      intro j hj; rw [(hs.o gx trivial rfl).1] at hj; rw [(hs.a gqc rfl j).2]; exact pf_x_11 j hj
    replace pf_x_6 : ∀ j : Nat, (j : Int) < (h_9.2.1 x 6).toInt → h_9.2.2 qa j ≠ none := by
      intro j hj; rw [(hs.o gx trivial rfl).1] at hj; rw [(hs.a (gqa.S hM) rfl j).2]; exact pf_x_6 j hj
    replace cl_qp_7 : hx_col 40 h_9 qp 7 = df := (hx_col_S hs hTo gqp tt_44 tt_4 rfl rfl).trans cl_qp_7
    replace cl_qc_10 : hx_col 100 h_9 qc 10 = ff := (hx_col_S hs hTo gqc tt_45 tt_2 rfl rfl).trans cl_qc_10
    replace cl_qc_9 : hx_col 100 h_9 qc 9 = tf := (hx_col_S hs hTo gqc tt_45 tt_2 rfl rfl).trans cl_qc_9
    replace nu_qc : hx_num 100 h_9 qc 0 (cn0.toInt) := hx_num_S hs hTo gqc tt_45 tt_2 rfl rfl nu_qc
    replace sb_ql_qc : hx_LQ 8 100 h_9 ql qc := hx_LQ_S hs (gql.S hM) gqc rfl rfl sb_ql_qc
    replace hDF : hw_DF h_9 qc qp 2 agf cn0.toInt := hw_DF_S hs hTo gqc gqp tt_45 tt_2 rfl rfl rfl hDF
    replace hM := hM.tr (hs.mono (by decide))
    replace gx := gx.S hs
    replace gqp := gqp.S hs
    replace gqc := gqc.S hs
    obtain ⟨hr_12, hr_12B⟩ := hr_12
    have hr_12 : ∀ q, r_10 = some q → hx_g L_8 h_9 q 4 := hr_12
    rcases r_10 with _ | q_13
    · skip
      have k_14 : i2.toInt < 0 ∨ pn0.toInt ≤ i2.toInt := by
        rcases hr_12B with ⟨_, z⟩ | ⟨_, _, q, z, _⟩
        · exact z
        · cases z
      refine lv_astoreN (lv' := [(8, .null), (7, .null), (0, .ref x), (1, .int i1), (2, .int i2), (3, .int i3), (4, .int i4), (5, .int i5), (6, .int i6)]) hx hb dX9_file_12 hl (by decide) rfl (fun ls hl => ?_)
      refine lv_aload_n hx hb dX9_file_14 rfl (lv_at hl 2 rfl) ?_
      refine hk_geti hx hb hts hC_9 hown hW gx tt_9 11 (by decide) rfl kw_375 ⟨rfl, rfl, rfl⟩ f_x_11 dX9_file_15 ?_
      refine lv_bipush (v := 100) hx hb dX9_file_18 (by decide) ?_
      refine hb_icmp_ge (zx := cn0.toInt) (zy := 100) (tgt := 81) hx hb rfl (by decide) dX9_file_20 (by decide) (fun c_15 => ?_) (fun c_15 => ?_)
      · skip
        refine lv_iconst (v := -1) hx hb dX9_file_81 (by decide) ?_
        refine W.widen (k := 3) (n := 30) (Nat.le_of_ble_eq_true rfl) (Nat.le_of_ble_eq_true rfl) ?_
        exact hx_reti hx hb hr hlk hW ⟨⟨cn0, ff, tf, f_x_11, cl_qc_10, cl_qc_9, ⟨(hx_num_c nu_qc (by omega)), ⟨sb_ql_qc, ⟨(Or.inl ⟨by decide, by omega, fun hc => by unfold hx_FC at hc; omega⟩), (Or.inl ⟨by decide, rfl⟩), (Or.inl ⟨by decide, rfl⟩), ⟨agf, Or.inl ⟨by decide, rfl⟩, hw_DF_e hDF rfl (by omega)⟩⟩⟩⟩⟩, hT, hM, pf_x_11⟩ dX9_file_82
      · skip
        refine lv_aloadN hx hb dX9_file_23 (lv_at hl 1 rfl) ?_
        refine lv_ifnullN (tgt := 81) hx hb dX9_file_25 (by decide) ?_
        refine lv_iconst (v := -1) hx hb dX9_file_81 (by decide) ?_
        refine W.widen (k := 3) (n := 30) (Nat.le_of_ble_eq_true rfl) (Nat.le_of_ble_eq_true rfl) ?_
        exact hx_reti hx hb hr hlk hW ⟨⟨cn0, ff, tf, f_x_11, cl_qc_10, cl_qc_9, ⟨(hx_num_c nu_qc (by omega)), ⟨sb_ql_qc, ⟨(Or.inl ⟨by decide, by omega, fun hc => by unfold hx_FC at hc; omega⟩), (Or.inl ⟨by decide, rfl⟩), (Or.inl ⟨by decide, rfl⟩), ⟨agf, Or.inl ⟨by decide, rfl⟩, hw_DF_e hDF rfl (by omega)⟩⟩⟩⟩⟩, hT, hM, pf_x_11⟩ dX9_file_82
    · have gq_13 := hr_12 _ rfl
      have k_16 : 0 ≤ i2.toInt ∧ i2.toInt < pn0.toInt ∧ h_9.2.2 qp i2.toNatClampNeg = some q_13 := by
        rcases hr_12B with ⟨z, _⟩ | ⟨z1, z2, q, z3, z4⟩
        · cases z
        · cases z3; exact ⟨z1, z2, z4⟩
      have fo_17 := k_16.2.2
      have k_16 : 0 ≤ i2.toInt ∧ i2.toInt < pn0.toInt := ⟨k_16.1, k_16.2.1⟩
      refine lv_astore (lv' := [(8, .ref q_13), (7, .null), (0, .ref x), (1, .int i1), (2, .int i2), (3, .int i3), (4, .int i4), (5, .int i5), (6, .int i6)]) hx hb dX9_file_12 hl (by decide) rfl (fun ls hl => ?_)
      refine lv_aload_n hx hb dX9_file_14 rfl (lv_at hl 2 rfl) ?_
      refine hk_geti hx hb hts hC_9 hown hW gx tt_9 11 (by decide) rfl kw_375 ⟨rfl, rfl, rfl⟩ f_x_11 dX9_file_15 ?_
      refine lv_bipush (v := 100) hx hb dX9_file_18 (by decide) ?_
      refine hb_icmp_ge (zx := cn0.toInt) (zy := 100) (tgt := 81) hx hb rfl (by decide) dX9_file_20 (by decide) (fun c_18 => ?_) (fun c_18 => ?_)
      · skip
        refine lv_iconst (v := -1) hx hb dX9_file_81 (by decide) ?_
        refine W.widen (k := 3) (n := 30) (Nat.le_of_ble_eq_true rfl) (Nat.le_of_ble_eq_true rfl) ?_
        exact hx_reti hx hb hr hlk hW ⟨⟨cn0, ff, tf, f_x_11, cl_qc_10, cl_qc_9, ⟨(hx_num_c nu_qc (by omega)), ⟨sb_ql_qc, ⟨(Or.inl ⟨by decide, by omega, fun hc => by unfold hx_FC at hc; omega⟩), (Or.inl ⟨by decide, rfl⟩), (Or.inl ⟨by decide, rfl⟩), ⟨agf, Or.inl ⟨by decide, rfl⟩, hw_DF_e hDF rfl (by omega)⟩⟩⟩⟩⟩, hT, hM, pf_x_11⟩ dX9_file_82
      · skip
        refine lv_aloadN hx hb dX9_file_23 (lv_at hl 1 rfl) ?_
        refine lv_ifnullN (tgt := 81) hx hb dX9_file_25 (by decide) ?_
        refine lv_iconst (v := -1) hx hb dX9_file_81 (by decide) ?_
        refine W.widen (k := 3) (n := 30) (Nat.le_of_ble_eq_true rfl) (Nat.le_of_ble_eq_true rfl) ?_
        exact hx_reti hx hb hr hlk hW ⟨⟨cn0, ff, tf, f_x_11, cl_qc_10, cl_qc_9, ⟨(hx_num_c nu_qc (by omega)), ⟨sb_ql_qc, ⟨(Or.inl ⟨by decide, by omega, fun hc => by unfold hx_FC at hc; omega⟩), (Or.inl ⟨by decide, rfl⟩), (Or.inl ⟨by decide, rfl⟩), ⟨agf, Or.inl ⟨by decide, rfl⟩, hw_DF_e hDF rfl (by omega)⟩⟩⟩⟩⟩, hT, hM, pf_x_11⟩ dX9_file_82
  · have gq_6 := hr_5 _ rfl
    have k_19 : 0 ≤ i1.toInt ∧ i1.toInt < pn0.toInt ∧ h_2.2.2 qp i1.toNatClampNeg = some q_6 := by
      rcases hr_5B with ⟨z, _⟩ | ⟨z1, z2, q, z3, z4⟩
      · cases z
      · cases z3; exact ⟨z1, z2, z4⟩
    have fo_20 := k_19.2.2
    have k_19 : 0 ≤ i1.toInt ∧ i1.toInt < pn0.toInt := ⟨k_19.1, k_19.2.1⟩
    refine lv_astore (lv' := [(7, .ref q_6), (0, .ref x), (1, .int i1), (2, .int i2), (3, .int i3), (4, .int i4), (5, .int i5), (6, .int i6)]) hx hb dX9_file_5 hl (by decide) rfl (fun ls hl => ?_)
    refine lv_aload_n hx hb dX9_file_7 rfl (lv_at hl 1 rfl) ?_
    refine lv_iload_n hx hb dX9_file_8 rfl (lv_at hl 3 rfl) ?_
    have hTo := hT
    refine hx_goq (hx_runV (As := [.int i2]) (rest := []) ⟨hx, hb, hml, hown, hts⟩ hW gx tt_9 (T := TX9) (N := 20) rfl (t_X9_personAt_2 l dC dI dA L_1 h_2 H.size x i2 hT gx pn0 f_x_8 qp gqp f_x_7 pf_x_8) (cwV 1 hts (hx_gV kw_659 kw_656 kw_658 kw_20 kw_94) rfl rfl rfl (by decide +kernel) ⟨Nat.le_of_ble_eq_true rfl, Nat.le_of_ble_eq_true rfl⟩) rfl hl.1 rfl (Nat.le_of_ble_eq_true rfl) dX9_file_9 ⟨Nat.le_of_ble_eq_true rfl, Nat.le_of_ble_eq_true rfl⟩) hW (fun r_23 L_21 h_22 H locs p_24 hW => ?_)
    obtain ⟨hr_25, hT, hs⟩ := p_24
    replace hT : hx_T T_tb L_21 h_22 := hT
    replace hs : hx_S T_tb [] L_1 h_2 L_21 h_22 := hs
    replace f_x_7 := (hs.o gx trivial rfl).2.trans f_x_7
    replace f_x_10 := (hs.o gx trivial rfl).2.trans f_x_10
    replace f_x_5 := (hs.o gx trivial rfl).2.trans f_x_5
    replace f_x_19 := (hs.o gx trivial rfl).2.trans f_x_19
    replace f_x_11 := (hs.o gx trivial rfl).1.trans f_x_11
    replace f_x_8 := (hs.o gx trivial rfl).1.trans f_x_8
    replace f_x_2 := (hs.o gx trivial rfl).1.trans f_x_2
    replace pf_x_8 : ∀ j : Nat, (j : Int) < (h_22.2.1 x 8).toInt → h_22.2.2 qp j ≠ none := by
      intro j hj; rw [(hs.o gx trivial rfl).1] at hj; rw [(hs.a gqp rfl j).2]; exact pf_x_8 j hj
    replace pf_x_11 : ∀ j : Nat, (j : Int) < (h_22.2.1 x 11).toInt → h_22.2.2 qc j ≠ none := by
      intro j hj; rw [(hs.o gx trivial rfl).1] at hj; rw [(hs.a gqc rfl j).2]; exact pf_x_11 j hj
    replace pf_x_6 : ∀ j : Nat, (j : Int) < (h_22.2.1 x 6).toInt → h_22.2.2 qa j ≠ none := by
      intro j hj; rw [(hs.o gx trivial rfl).1] at hj; rw [(hs.a (gqa.S hM) rfl j).2]; exact pf_x_6 j hj
    replace cl_qp_7 : hx_col 40 h_22 qp 7 = df := (hx_col_S hs hTo gqp tt_44 tt_4 rfl rfl).trans cl_qp_7
    replace cl_qc_10 : hx_col 100 h_22 qc 10 = ff := (hx_col_S hs hTo gqc tt_45 tt_2 rfl rfl).trans cl_qc_10
    replace cl_qc_9 : hx_col 100 h_22 qc 9 = tf := (hx_col_S hs hTo gqc tt_45 tt_2 rfl rfl).trans cl_qc_9
    replace nu_qc : hx_num 100 h_22 qc 0 (cn0.toInt) := hx_num_S hs hTo gqc tt_45 tt_2 rfl rfl nu_qc
    replace sb_ql_qc : hx_LQ 8 100 h_22 ql qc := hx_LQ_S hs (gql.S hM) gqc rfl rfl sb_ql_qc
    replace hDF : hw_DF h_22 qc qp 2 agf cn0.toInt := hw_DF_S hs hTo gqc gqp tt_45 tt_2 rfl rfl rfl hDF
    replace fo_20 := (hs.a gqp rfl _).2.trans fo_20
    replace hM := hM.tr (hs.mono (by decide))
    replace gx := gx.S hs
    replace gqp := gqp.S hs
    replace gqc := gqc.S hs
    replace gq_6 := gq_6.S hs
    obtain ⟨hr_25, hr_25B⟩ := hr_25
    have hr_25 : ∀ q, r_23 = some q → hx_g L_21 h_22 q 4 := hr_25
    rcases r_23 with _ | q_26
    · skip
      have k_27 : i2.toInt < 0 ∨ pn0.toInt ≤ i2.toInt := by
        rcases hr_25B with ⟨_, z⟩ | ⟨_, _, q, z, _⟩
        · exact z
        · cases z
      refine lv_astoreN (lv' := [(8, .null), (7, .ref q_6), (0, .ref x), (1, .int i1), (2, .int i2), (3, .int i3), (4, .int i4), (5, .int i5), (6, .int i6)]) hx hb dX9_file_12 hl (by decide) rfl (fun ls hl => ?_)
      refine lv_aload_n hx hb dX9_file_14 rfl (lv_at hl 2 rfl) ?_
      refine hk_geti hx hb hts hC_9 hown hW gx tt_9 11 (by decide) rfl kw_375 ⟨rfl, rfl, rfl⟩ f_x_11 dX9_file_15 ?_
      refine lv_bipush (v := 100) hx hb dX9_file_18 (by decide) ?_
      refine hb_icmp_ge (zx := cn0.toInt) (zy := 100) (tgt := 81) hx hb rfl (by decide) dX9_file_20 (by decide) (fun c_28 => ?_) (fun c_28 => ?_)
      · skip
        refine lv_iconst (v := -1) hx hb dX9_file_81 (by decide) ?_
        refine W.widen (k := 3) (n := 30) (Nat.le_of_ble_eq_true rfl) (Nat.le_of_ble_eq_true rfl) ?_
        exact hx_reti hx hb hr hlk hW ⟨⟨cn0, ff, tf, f_x_11, cl_qc_10, cl_qc_9, ⟨(hx_num_c nu_qc (by omega)), ⟨sb_ql_qc, ⟨(Or.inl ⟨by decide, by omega, fun hc => by unfold hx_FC at hc; omega⟩), (Or.inl ⟨by decide, rfl⟩), (Or.inl ⟨by decide, rfl⟩), ⟨agf, Or.inl ⟨by decide, rfl⟩, hw_DF_e hDF rfl (by omega)⟩⟩⟩⟩⟩, hT, hM, pf_x_11⟩ dX9_file_82
      · skip
        refine lv_aload hx hb dX9_file_23 (lv_at hl 1 rfl) ?_
        refine lv_ifnull hx hb dX9_file_25 ?_
        refine lv_aloadN hx hb dX9_file_28 (lv_at hl 0 rfl) ?_
        refine lv_ifnullN (tgt := 81) hx hb dX9_file_30 (by decide) ?_
        refine lv_iconst (v := -1) hx hb dX9_file_81 (by decide) ?_
        refine W.widen (k := 3) (n := 30) (Nat.le_of_ble_eq_true rfl) (Nat.le_of_ble_eq_true rfl) ?_
        exact hx_reti hx hb hr hlk hW ⟨⟨cn0, ff, tf, f_x_11, cl_qc_10, cl_qc_9, ⟨(hx_num_c nu_qc (by omega)), ⟨sb_ql_qc, ⟨(Or.inl ⟨by decide, by omega, fun hc => by unfold hx_FC at hc; omega⟩), (Or.inl ⟨by decide, rfl⟩), (Or.inl ⟨by decide, rfl⟩), ⟨agf, Or.inl ⟨by decide, rfl⟩, hw_DF_e hDF rfl (by omega)⟩⟩⟩⟩⟩, hT, hM, pf_x_11⟩ dX9_file_82
    · have gq_26 := hr_25 _ rfl
      have k_29 : 0 ≤ i2.toInt ∧ i2.toInt < pn0.toInt ∧ h_22.2.2 qp i2.toNatClampNeg = some q_26 := by
        rcases hr_25B with ⟨z, _⟩ | ⟨z1, z2, q, z3, z4⟩
        · cases z
        · cases z3; exact ⟨z1, z2, z4⟩
      have fo_30 := k_29.2.2
      have k_29 : 0 ≤ i2.toInt ∧ i2.toInt < pn0.toInt := ⟨k_29.1, k_29.2.1⟩
      refine lv_astore (lv' := [(8, .ref q_26), (7, .ref q_6), (0, .ref x), (1, .int i1), (2, .int i2), (3, .int i3), (4, .int i4), (5, .int i5), (6, .int i6)]) hx hb dX9_file_12 hl (by decide) rfl (fun ls hl => ?_)
      refine lv_aload_n hx hb dX9_file_14 rfl (lv_at hl 2 rfl) ?_
      refine hk_geti hx hb hts hC_9 hown hW gx tt_9 11 (by decide) rfl kw_375 ⟨rfl, rfl, rfl⟩ f_x_11 dX9_file_15 ?_
      refine lv_bipush (v := 100) hx hb dX9_file_18 (by decide) ?_
      refine hb_icmp_ge (zx := cn0.toInt) (zy := 100) (tgt := 81) hx hb rfl (by decide) dX9_file_20 (by decide) (fun c_31 => ?_) (fun c_31 => ?_)
      · skip
        refine lv_iconst (v := -1) hx hb dX9_file_81 (by decide) ?_
        refine W.widen (k := 3) (n := 30) (Nat.le_of_ble_eq_true rfl) (Nat.le_of_ble_eq_true rfl) ?_
        exact hx_reti hx hb hr hlk hW ⟨⟨cn0, ff, tf, f_x_11, cl_qc_10, cl_qc_9, ⟨(hx_num_c nu_qc (by omega)), ⟨sb_ql_qc, ⟨(Or.inl ⟨by decide, by omega, fun hc => by unfold hx_FC at hc; omega⟩), (Or.inl ⟨by decide, rfl⟩), (Or.inl ⟨by decide, rfl⟩), ⟨agf, Or.inl ⟨by decide, rfl⟩, hw_DF_e hDF rfl (by omega)⟩⟩⟩⟩⟩, hT, hM, pf_x_11⟩ dX9_file_82
      · skip
        refine lv_aload hx hb dX9_file_23 (lv_at hl 1 rfl) ?_
        refine lv_ifnull hx hb dX9_file_25 ?_
        refine lv_aload hx hb dX9_file_28 (lv_at hl 0 rfl) ?_
        refine lv_ifnull hx hb dX9_file_30 ?_
        refine lv_iload_n hx hb dX9_file_33 rfl (lv_at hl 3 rfl) ?_
        refine lv_iload_n hx hb dX9_file_34 rfl (lv_at hl 4 rfl) ?_
        refine hb_icmp_eq (zx := i1.toInt) (zy := i2.toInt) (tgt := 81) hx hb rfl rfl dX9_file_35 (by decide) (fun c_32 => ?_) (fun c_32 => ?_)
        · skip
          refine lv_iconst (v := -1) hx hb dX9_file_81 (by decide) ?_
          refine W.widen (k := 3) (n := 30) (Nat.le_of_ble_eq_true rfl) (Nat.le_of_ble_eq_true rfl) ?_
          exact hx_reti hx hb hr hlk hW ⟨⟨cn0, ff, tf, f_x_11, cl_qc_10, cl_qc_9, ⟨(hx_num_c nu_qc (by omega)), ⟨sb_ql_qc, ⟨(Or.inl ⟨by decide, by omega, fun hc => by unfold hx_FC at hc; omega⟩), (Or.inl ⟨by decide, rfl⟩), (Or.inl ⟨by decide, rfl⟩), ⟨agf, Or.inl ⟨by decide, rfl⟩, hw_DF_e hDF rfl (by omega)⟩⟩⟩⟩⟩, hT, hM, pf_x_11⟩ dX9_file_82
        · skip
          refine lv_aload hx hb dX9_file_38 (lv_at hl 0 rfl) ?_
          refine hx_geti hx hb hts hC_4 hown hW hT gq_26 tt_4 7 (by decide) rfl kw_623 ⟨rfl, rfl, rfl⟩ dX9_file_40 (fun x_33 ex_33 lx_33 ux_33 => ?_)
          have fx_33 := ex_33.symm
          have cx_33 : x_33 = df i2.toNatClampNeg := by rw [ex_33, ← cl_qp_7]; exact (hx_col_at fo_30 (by unfold Int32.toNatClampNeg; omega)).symm
          refine hb_if_ne (zx := x_33.toInt) (tgt := 81) hx hb rfl dX9_file_43 (by decide) (fun c_34 => ?_) (fun c_34 => ?_)
          · skip
            refine lv_iconst (v := -1) hx hb dX9_file_81 (by decide) ?_
            refine W.widen (k := 3) (n := 30) (Nat.le_of_ble_eq_true rfl) (Nat.le_of_ble_eq_true rfl) ?_
            exact hx_reti hx hb hr hlk hW ⟨⟨cn0, ff, tf, f_x_11, cl_qc_10, cl_qc_9, ⟨(hx_num_c nu_qc (by omega)), ⟨sb_ql_qc, ⟨(Or.inl ⟨by decide, by omega, fun hc => by unfold hx_FC at hc; have h1 : (df i2.toNatClampNeg).toInt = 0 := hc.2.2.2.2.1; rw [← cx_33] at h1; omega⟩), (Or.inl ⟨by decide, rfl⟩), (Or.inl ⟨by decide, rfl⟩), ⟨agf, Or.inl ⟨by decide, rfl⟩, hw_DF_e hDF rfl (by omega)⟩⟩⟩⟩⟩, hT, hM, pf_x_11⟩ dX9_file_82
          · skip
            refine lv_iload_n hx hb dX9_file_46 rfl (lv_at hl 5 rfl) ?_
            refine lv_iconst (v := 1) hx hb dX9_file_47 (by decide) ?_
            refine lv_sipush (v := 9999) hx hb dX9_file_48 (by decide) ?_
            have hTo := hT
            have zc_9999 : (9999 : Int32).toInt = 9999 := by decide
            have zc_1 : (1 : Int32).toInt = 1 := by decide
            refine hx_goi (hx_runS (As := [.int i3, .int (1 : Int32), .int (9999 : Int32)]) (rest := []) ⟨hx, hb, hml, hown, hts⟩ hW (t_X9_isWithin_2 l dC dI dA L_21 h_22 H.size i3 (1 : Int32) (9999 : Int32) hT) (va_cwS 3 hts (hx_gS kw_434 kw_432 kw_433 kw_94) rfl rfl rfl (by decide +kernel) ⟨Nat.le_of_ble_eq_true rfl, Nat.le_of_ble_eq_true rfl⟩) rfl hl.1 rfl (Nat.le_of_ble_eq_true rfl) dX9_file_51 ⟨Nat.le_of_ble_eq_true rfl, Nat.le_of_ble_eq_true rfl⟩) hW (fun r_37 L_35 h_36 H locs p_38 hW => ?_)
            obtain ⟨hr_39, hT, hs⟩ := p_38
            replace hT : hx_T T_tb L_35 h_36 := hT
            replace hs : hx_S T_tb [] L_21 h_22 L_35 h_36 := hs
            replace f_x_7 := (hs.o gx trivial rfl).2.trans f_x_7
            replace f_x_10 := (hs.o gx trivial rfl).2.trans f_x_10
            replace f_x_5 := (hs.o gx trivial rfl).2.trans f_x_5
            replace f_x_19 := (hs.o gx trivial rfl).2.trans f_x_19
            replace f_x_11 := (hs.o gx trivial rfl).1.trans f_x_11
            replace f_x_8 := (hs.o gx trivial rfl).1.trans f_x_8
            replace f_x_2 := (hs.o gx trivial rfl).1.trans f_x_2
            replace fx_33 := (hs.o gq_26 trivial rfl).1.trans fx_33
            replace pf_x_8 : ∀ j : Nat, (j : Int) < (h_36.2.1 x 8).toInt → h_36.2.2 qp j ≠ none := by
              intro j hj; rw [(hs.o gx trivial rfl).1] at hj; rw [(hs.a gqp rfl j).2]; exact pf_x_8 j hj
            replace pf_x_11 : ∀ j : Nat, (j : Int) < (h_36.2.1 x 11).toInt → h_36.2.2 qc j ≠ none := by
              intro j hj; rw [(hs.o gx trivial rfl).1] at hj; rw [(hs.a gqc rfl j).2]; exact pf_x_11 j hj
            replace pf_x_6 : ∀ j : Nat, (j : Int) < (h_36.2.1 x 6).toInt → h_36.2.2 qa j ≠ none := by
              intro j hj; rw [(hs.o gx trivial rfl).1] at hj; rw [(hs.a (gqa.S hM) rfl j).2]; exact pf_x_6 j hj
            replace cl_qp_7 : hx_col 40 h_36 qp 7 = df := (hx_col_S hs hTo gqp tt_44 tt_4 rfl rfl).trans cl_qp_7
            replace cl_qc_10 : hx_col 100 h_36 qc 10 = ff := (hx_col_S hs hTo gqc tt_45 tt_2 rfl rfl).trans cl_qc_10
            replace cl_qc_9 : hx_col 100 h_36 qc 9 = tf := (hx_col_S hs hTo gqc tt_45 tt_2 rfl rfl).trans cl_qc_9
            replace nu_qc : hx_num 100 h_36 qc 0 (cn0.toInt) := hx_num_S hs hTo gqc tt_45 tt_2 rfl rfl nu_qc
            replace sb_ql_qc : hx_LQ 8 100 h_36 ql qc := hx_LQ_S hs (gql.S hM) gqc rfl rfl sb_ql_qc
            replace hDF : hw_DF h_36 qc qp 2 agf cn0.toInt := hw_DF_S hs hTo gqc gqp tt_45 tt_2 rfl rfl rfl hDF
            replace fo_20 := (hs.a gqp rfl _).2.trans fo_20
            replace fo_30 := (hs.a gqp rfl _).2.trans fo_30
            replace hM := hM.tr (hs.mono (by decide))
            replace gx := gx.S hs
            replace gqp := gqp.S hs
            replace gqc := gqc.S hs
            replace gq_6 := gq_6.S hs
            replace gq_26 := gq_26.S hs
            refine hb_if_eq (zx := r_37.toInt) (tgt := 81) hx hb rfl dX9_file_54 (by decide) (fun c_40 => ?_) (fun c_40 => ?_)
            · skip
              replace hr_39 := hr_39.resolve_right (fun z9 => absurd (c_40.symm.trans z9.1) (by decide))
              replace hr_39 := hr_39.2
              refine lv_iconst (v := -1) hx hb dX9_file_81 (by decide) ?_
              refine W.widen (k := 3) (n := 30) (Nat.le_of_ble_eq_true rfl) (Nat.le_of_ble_eq_true rfl) ?_
              exact hx_reti hx hb hr hlk hW ⟨⟨cn0, ff, tf, f_x_11, cl_qc_10, cl_qc_9, ⟨(hx_num_c nu_qc (by omega)), ⟨sb_ql_qc, ⟨(Or.inl ⟨by decide, by omega, fun hc => by unfold hx_FC at hc; have h1 : (df i2.toNatClampNeg).toInt = 0 := hc.2.2.2.2.1; rw [← cx_33] at h1; omega⟩), (Or.inl ⟨by decide, rfl⟩), (Or.inl ⟨by decide, rfl⟩), ⟨agf, Or.inl ⟨by decide, rfl⟩, hw_DF_e hDF rfl (by omega)⟩⟩⟩⟩⟩, hT, hM, pf_x_11⟩ dX9_file_82
            · skip
              replace hr_39 := hr_39.resolve_left (fun z9 => c_40 z9.1)
              replace c_40 := hr_39.1
              replace hr_39 := hr_39.2
              refine lv_iload hx hb dX9_file_57 (lv_at hl 6 rfl) ?_
              refine lv_iconst (v := 0) hx hb dX9_file_59 (by decide) ?_
              refine lv_aload_n hx hb dX9_file_60 rfl (lv_at hl 2 rfl) ?_
              refine hk_geti hx hb hts hC_9 hown hW gx tt_9 2 (by decide) rfl kw_366 ⟨rfl, rfl, rfl⟩ f_x_2 dX9_file_61 ?_
              have hTo := hT
              have zc_0 : (0 : Int32).toInt = 0 := by decide
              refine hx_goi (hx_runS (As := [.int i4, .int (0 : Int32), .int nw0]) (rest := []) ⟨hx, hb, hml, hown, hts⟩ hW (t_X9_isWithin_2 l dC dI dA L_35 h_36 H.size i4 (0 : Int32) nw0 hT) (va_cwS 3 hts (hx_gS kw_434 kw_432 kw_433 kw_94) rfl rfl rfl (by decide +kernel) ⟨Nat.le_of_ble_eq_true rfl, Nat.le_of_ble_eq_true rfl⟩) rfl hl.1 rfl (Nat.le_of_ble_eq_true rfl) dX9_file_64 ⟨Nat.le_of_ble_eq_true rfl, Nat.le_of_ble_eq_true rfl⟩) hW (fun r_43 L_41 h_42 H locs p_44 hW => ?_)
              obtain ⟨hr_45, hT, hs⟩ := p_44
              replace hT : hx_T T_tb L_41 h_42 := hT
              replace hs : hx_S T_tb [] L_35 h_36 L_41 h_42 := hs
              replace f_x_7 := (hs.o gx trivial rfl).2.trans f_x_7
              replace f_x_10 := (hs.o gx trivial rfl).2.trans f_x_10
              replace f_x_5 := (hs.o gx trivial rfl).2.trans f_x_5
              replace f_x_19 := (hs.o gx trivial rfl).2.trans f_x_19
              replace f_x_11 := (hs.o gx trivial rfl).1.trans f_x_11
              replace f_x_8 := (hs.o gx trivial rfl).1.trans f_x_8
              replace f_x_2 := (hs.o gx trivial rfl).1.trans f_x_2
              replace fx_33 := (hs.o gq_26 trivial rfl).1.trans fx_33
              replace pf_x_8 : ∀ j : Nat, (j : Int) < (h_42.2.1 x 8).toInt → h_42.2.2 qp j ≠ none := by
                intro j hj; rw [(hs.o gx trivial rfl).1] at hj; rw [(hs.a gqp rfl j).2]; exact pf_x_8 j hj
              replace pf_x_11 : ∀ j : Nat, (j : Int) < (h_42.2.1 x 11).toInt → h_42.2.2 qc j ≠ none := by
                intro j hj; rw [(hs.o gx trivial rfl).1] at hj; rw [(hs.a gqc rfl j).2]; exact pf_x_11 j hj
              replace pf_x_6 : ∀ j : Nat, (j : Int) < (h_42.2.1 x 6).toInt → h_42.2.2 qa j ≠ none := by
                intro j hj; rw [(hs.o gx trivial rfl).1] at hj; rw [(hs.a (gqa.S hM) rfl j).2]; exact pf_x_6 j hj
              replace cl_qp_7 : hx_col 40 h_42 qp 7 = df := (hx_col_S hs hTo gqp tt_44 tt_4 rfl rfl).trans cl_qp_7
              replace cl_qc_10 : hx_col 100 h_42 qc 10 = ff := (hx_col_S hs hTo gqc tt_45 tt_2 rfl rfl).trans cl_qc_10
              replace cl_qc_9 : hx_col 100 h_42 qc 9 = tf := (hx_col_S hs hTo gqc tt_45 tt_2 rfl rfl).trans cl_qc_9
              replace nu_qc : hx_num 100 h_42 qc 0 (cn0.toInt) := hx_num_S hs hTo gqc tt_45 tt_2 rfl rfl nu_qc
              replace sb_ql_qc : hx_LQ 8 100 h_42 ql qc := hx_LQ_S hs (gql.S hM) gqc rfl rfl sb_ql_qc
              replace hDF : hw_DF h_42 qc qp 2 agf cn0.toInt := hw_DF_S hs hTo gqc gqp tt_45 tt_2 rfl rfl rfl hDF
              replace fo_20 := (hs.a gqp rfl _).2.trans fo_20
              replace fo_30 := (hs.a gqp rfl _).2.trans fo_30
              replace hM := hM.tr (hs.mono (by decide))
              replace gx := gx.S hs
              replace gqp := gqp.S hs
              replace gqc := gqc.S hs
              replace gq_6 := gq_6.S hs
              replace gq_26 := gq_26.S hs
              refine hb_if_eq (zx := r_43.toInt) (tgt := 81) hx hb rfl dX9_file_67 (by decide) (fun c_46 => ?_) (fun c_46 => ?_)
              · skip
                replace hr_45 := hr_45.resolve_right (fun z9 => absurd (c_46.symm.trans z9.1) (by decide))
                replace hr_45 := hr_45.2
                refine lv_iconst (v := -1) hx hb dX9_file_81 (by decide) ?_
                refine W.widen (k := 3) (n := 30) (Nat.le_of_ble_eq_true rfl) (Nat.le_of_ble_eq_true rfl) ?_
                exact hx_reti hx hb hr hlk hW ⟨⟨cn0, ff, tf, f_x_11, cl_qc_10, cl_qc_9, ⟨(hx_num_c nu_qc (by omega)), ⟨sb_ql_qc, ⟨(Or.inl ⟨by decide, by omega, fun hc => by unfold hx_FC at hc; have h1 : (df i2.toNatClampNeg).toInt = 0 := hc.2.2.2.2.1; rw [← cx_33] at h1; omega⟩), (Or.inl ⟨by decide, rfl⟩), (Or.inl ⟨by decide, rfl⟩), ⟨agf, Or.inl ⟨by decide, rfl⟩, hw_DF_e hDF rfl (by omega)⟩⟩⟩⟩⟩, hT, hM, pf_x_11⟩ dX9_file_82
              · skip
                replace hr_45 := hr_45.resolve_left (fun z9 => c_46 z9.1)
                replace c_46 := hr_45.1
                replace hr_45 := hr_45.2
                refine lv_iload hx hb dX9_file_70 (lv_at hl 8 rfl) ?_
                refine lv_iconst (v := 0) hx hb dX9_file_72 (by decide) ?_
                refine lv_bipush (v := 9) hx hb dX9_file_73 (by decide) ?_
                have hTo := hT
                have zc_9 : (9 : Int32).toInt = 9 := by decide
                refine hx_goi (hx_runS (As := [.int i6, .int (0 : Int32), .int (9 : Int32)]) (rest := []) ⟨hx, hb, hml, hown, hts⟩ hW (t_X9_isWithin_2 l dC dI dA L_41 h_42 H.size i6 (0 : Int32) (9 : Int32) hT) (va_cwS 3 hts (hx_gS kw_434 kw_432 kw_433 kw_94) rfl rfl rfl (by decide +kernel) ⟨Nat.le_of_ble_eq_true rfl, Nat.le_of_ble_eq_true rfl⟩) rfl hl.1 rfl (Nat.le_of_ble_eq_true rfl) dX9_file_75 ⟨Nat.le_of_ble_eq_true rfl, Nat.le_of_ble_eq_true rfl⟩) hW (fun r_49 L_47 h_48 H locs p_50 hW => ?_)
                obtain ⟨hr_51, hT, hs⟩ := p_50
                replace hT : hx_T T_tb L_47 h_48 := hT
                replace hs : hx_S T_tb [] L_41 h_42 L_47 h_48 := hs
                replace f_x_7 := (hs.o gx trivial rfl).2.trans f_x_7
                replace f_x_10 := (hs.o gx trivial rfl).2.trans f_x_10
                replace f_x_5 := (hs.o gx trivial rfl).2.trans f_x_5
                replace f_x_19 := (hs.o gx trivial rfl).2.trans f_x_19
                replace f_x_11 := (hs.o gx trivial rfl).1.trans f_x_11
                replace f_x_8 := (hs.o gx trivial rfl).1.trans f_x_8
                replace f_x_2 := (hs.o gx trivial rfl).1.trans f_x_2
                replace fx_33 := (hs.o gq_26 trivial rfl).1.trans fx_33
                replace pf_x_8 : ∀ j : Nat, (j : Int) < (h_48.2.1 x 8).toInt → h_48.2.2 qp j ≠ none := by
                  intro j hj; rw [(hs.o gx trivial rfl).1] at hj; rw [(hs.a gqp rfl j).2]; exact pf_x_8 j hj
                replace pf_x_11 : ∀ j : Nat, (j : Int) < (h_48.2.1 x 11).toInt → h_48.2.2 qc j ≠ none := by
                  intro j hj; rw [(hs.o gx trivial rfl).1] at hj; rw [(hs.a gqc rfl j).2]; exact pf_x_11 j hj
                replace pf_x_6 : ∀ j : Nat, (j : Int) < (h_48.2.1 x 6).toInt → h_48.2.2 qa j ≠ none := by
                  intro j hj; rw [(hs.o gx trivial rfl).1] at hj; rw [(hs.a (gqa.S hM) rfl j).2]; exact pf_x_6 j hj
                replace cl_qp_7 : hx_col 40 h_48 qp 7 = df := (hx_col_S hs hTo gqp tt_44 tt_4 rfl rfl).trans cl_qp_7
                replace cl_qc_10 : hx_col 100 h_48 qc 10 = ff := (hx_col_S hs hTo gqc tt_45 tt_2 rfl rfl).trans cl_qc_10
                replace cl_qc_9 : hx_col 100 h_48 qc 9 = tf := (hx_col_S hs hTo gqc tt_45 tt_2 rfl rfl).trans cl_qc_9
                replace nu_qc : hx_num 100 h_48 qc 0 (cn0.toInt) := hx_num_S hs hTo gqc tt_45 tt_2 rfl rfl nu_qc
                replace sb_ql_qc : hx_LQ 8 100 h_48 ql qc := hx_LQ_S hs (gql.S hM) gqc rfl rfl sb_ql_qc
                replace hDF : hw_DF h_48 qc qp 2 agf cn0.toInt := hw_DF_S hs hTo gqc gqp tt_45 tt_2 rfl rfl rfl hDF
                replace fo_20 := (hs.a gqp rfl _).2.trans fo_20
                replace fo_30 := (hs.a gqp rfl _).2.trans fo_30
                replace hM := hM.tr (hs.mono (by decide))
                replace gx := gx.S hs
                replace gqp := gqp.S hs
                replace gqc := gqc.S hs
                replace gq_6 := gq_6.S hs
                replace gq_26 := gq_26.S hs
                refine hb_if_ne (zx := r_49.toInt) (tgt := 83) hx hb rfl dX9_file_78 (by decide) (fun c_52 => ?_) (fun c_52 => ?_)
                · skip
                  replace hr_51 := hr_51.resolve_left (fun z9 => c_52 z9.1)
                  replace c_52 := hr_51.1
                  replace hr_51 := hr_51.2
                  have hTo := hT
                  refine hk_new hx hb hts hC_2 hown hW 118 tt_118 rfl (by decide) kw_223 kw_716 kw_110 (Nat.le_of_ble_eq_true rfl) (Nat.le_of_ble_eq_true rfl) dX9_file_83 (fun q_54 H h_53 eh_53 hqq_54 hW hs gq_54 => ?_)
                  have nq_q_54 : ∀ a ∈ L, a ≠ q_54 := fun a ha z => hqq_54 (z ▸ (hM.1 a ha).1)
                  have hT : hx_T T_tb (L_47 ++ [q_54]) h_53 := by rw [eh_53]; exact hx_T_nw hT hqq_54 tt_118 rfl
                  replace f_x_7 := (hs.o gx trivial rfl).2.trans f_x_7
                  replace f_x_10 := (hs.o gx trivial rfl).2.trans f_x_10
                  replace f_x_5 := (hs.o gx trivial rfl).2.trans f_x_5
                  replace f_x_19 := (hs.o gx trivial rfl).2.trans f_x_19
                  replace f_x_11 := (hs.o gx trivial rfl).1.trans f_x_11
                  replace f_x_8 := (hs.o gx trivial rfl).1.trans f_x_8
                  replace f_x_2 := (hs.o gx trivial rfl).1.trans f_x_2
                  replace fx_33 := (hs.o gq_26 trivial rfl).1.trans fx_33
                  replace pf_x_8 : ∀ j : Nat, (j : Int) < (h_53.2.1 x 8).toInt → h_53.2.2 qp j ≠ none := by
                    intro j hj; rw [(hs.o gx trivial rfl).1] at hj; rw [(hs.a gqp rfl j).2]; exact pf_x_8 j hj
                  replace pf_x_11 : ∀ j : Nat, (j : Int) < (h_53.2.1 x 11).toInt → h_53.2.2 qc j ≠ none := by
                    intro j hj; rw [(hs.o gx trivial rfl).1] at hj; rw [(hs.a gqc rfl j).2]; exact pf_x_11 j hj
                  replace pf_x_6 : ∀ j : Nat, (j : Int) < (h_53.2.1 x 6).toInt → h_53.2.2 qa j ≠ none := by
                    intro j hj; rw [(hs.o gx trivial rfl).1] at hj; rw [(hs.a (gqa.S hM) rfl j).2]; exact pf_x_6 j hj
                  replace cl_qp_7 : hx_col 40 h_53 qp 7 = df := (hx_col_S hs hTo gqp tt_44 tt_4 rfl rfl).trans cl_qp_7
                  replace cl_qc_10 : hx_col 100 h_53 qc 10 = ff := (hx_col_S hs hTo gqc tt_45 tt_2 rfl rfl).trans cl_qc_10
                  replace cl_qc_9 : hx_col 100 h_53 qc 9 = tf := (hx_col_S hs hTo gqc tt_45 tt_2 rfl rfl).trans cl_qc_9
                  replace nu_qc : hx_num 100 h_53 qc 0 (cn0.toInt) := hx_num_S hs hTo gqc tt_45 tt_2 rfl rfl nu_qc
                  replace sb_ql_qc : hx_LQ 8 100 h_53 ql qc := hx_LQ_S hs (gql.S hM) gqc rfl rfl sb_ql_qc
                  replace hDF : hw_DF h_53 qc qp 2 agf cn0.toInt := hw_DF_S hs hTo gqc gqp tt_45 tt_2 rfl rfl rfl hDF
                  replace fo_20 := (hs.a gqp rfl _).2.trans fo_20
                  replace fo_30 := (hs.a gqp rfl _).2.trans fo_30
                  replace hM := hM.tr (hs.mono (by decide))
                  replace gx := gx.S hs
                  replace gqp := gqp.S hs
                  replace gqc := gqc.S hs
                  replace gq_6 := gq_6.S hs
                  replace gq_26 := gq_26.S hs
                  have fz_55 : ∀ j, ([] : List Nat).contains j = false → h_53.2.1 q_54 j = 0 ∧ h_53.2.2 q_54 j = none := by rw [eh_53]; exact fun _ _ => ⟨hx_nw_i, hx_nw_r⟩
                  refine lv_dup hx hb dX9_file_86 rfl ?_
                  refine lv_aload_n hx hb dX9_file_87 rfl (lv_at hl 2 rfl) ?_
                  refine hk_geti hx hb hts hC_9 hown hW gx tt_9 11 (by decide) rfl kw_375 ⟨rfl, rfl, rfl⟩ f_x_11 dX9_file_88 ?_
                  refine lv_aload hx hb dX9_file_91 (lv_at hl 1 rfl) ?_
                  refine lv_aload hx hb dX9_file_93 (lv_at hl 0 rfl) ?_
                  refine lv_aload_n hx hb dX9_file_95 rfl (lv_at hl 2 rfl) ?_
                  refine lv_aload_n hx hb dX9_file_96 rfl (lv_at hl 2 rfl) ?_
                  refine hk_geti hx hb hts hC_9 hown hW gx tt_9 2 (by decide) rfl kw_366 ⟨rfl, rfl, rfl⟩ f_x_2 dX9_file_97 ?_
                  have hTo := hT
                  refine hx_goq (hx_runV (As := [.int nw0]) (rest := [.ref q_26, .ref q_6, .int cn0, .ref q_54, .ref q_54]) ⟨hx, hb, hml, hown, hts⟩ hW gx tt_9 (T := TX9) (N := 20) rfl (t_X9_inForce l dC dI dA (L_47 ++ [q_54]) h_53 H.size x nw0 hT gx qa (gqa.S hM) f_x_5 pf_x_6) (cwV 1 hts (hx_gV kw_597 kw_594 kw_596 kw_19 kw_94) rfl rfl rfl (by decide +kernel) ⟨Nat.le_of_ble_eq_true rfl, Nat.le_of_ble_eq_true rfl⟩) rfl hl.1 rfl (Nat.le_of_ble_eq_true rfl) dX9_file_100 ⟨Nat.le_of_ble_eq_true rfl, Nat.le_of_ble_eq_true rfl⟩) hW (fun r_58 L_56 h_57 H locs p_59 hW => ?_)
                  obtain ⟨hr_60, hT, hs⟩ := p_59
                  replace hT : hx_T T_tb L_56 h_57 := hT
                  replace hs : hx_S T_tb [] (L_47 ++ [q_54]) h_53 L_56 h_57 := hs
                  replace f_x_7 := (hs.o gx trivial rfl).2.trans f_x_7
                  replace f_x_10 := (hs.o gx trivial rfl).2.trans f_x_10
                  replace f_x_5 := (hs.o gx trivial rfl).2.trans f_x_5
                  replace f_x_19 := (hs.o gx trivial rfl).2.trans f_x_19
                  replace f_x_11 := (hs.o gx trivial rfl).1.trans f_x_11
                  replace f_x_8 := (hs.o gx trivial rfl).1.trans f_x_8
                  replace f_x_2 := (hs.o gx trivial rfl).1.trans f_x_2
                  replace fx_33 := (hs.o gq_26 trivial rfl).1.trans fx_33
                  replace pf_x_8 : ∀ j : Nat, (j : Int) < (h_57.2.1 x 8).toInt → h_57.2.2 qp j ≠ none := by
                    intro j hj; rw [(hs.o gx trivial rfl).1] at hj; rw [(hs.a gqp rfl j).2]; exact pf_x_8 j hj
                  replace pf_x_11 : ∀ j : Nat, (j : Int) < (h_57.2.1 x 11).toInt → h_57.2.2 qc j ≠ none := by
                    intro j hj; rw [(hs.o gx trivial rfl).1] at hj; rw [(hs.a gqc rfl j).2]; exact pf_x_11 j hj
                  replace pf_x_6 : ∀ j : Nat, (j : Int) < (h_57.2.1 x 6).toInt → h_57.2.2 qa j ≠ none := by
                    intro j hj; rw [(hs.o gx trivial rfl).1] at hj; rw [(hs.a (gqa.S hM) rfl j).2]; exact pf_x_6 j hj
                  replace fz_55 := hx_zr [] fz_55 hs gq_54 trivial rfl
                  replace cl_qp_7 : hx_col 40 h_57 qp 7 = df := (hx_col_S hs hTo gqp tt_44 tt_4 rfl rfl).trans cl_qp_7
                  replace cl_qc_10 : hx_col 100 h_57 qc 10 = ff := (hx_col_S hs hTo gqc tt_45 tt_2 rfl rfl).trans cl_qc_10
                  replace cl_qc_9 : hx_col 100 h_57 qc 9 = tf := (hx_col_S hs hTo gqc tt_45 tt_2 rfl rfl).trans cl_qc_9
                  replace nu_qc : hx_num 100 h_57 qc 0 (cn0.toInt) := hx_num_S hs hTo gqc tt_45 tt_2 rfl rfl nu_qc
                  replace sb_ql_qc : hx_LQ 8 100 h_57 ql qc := hx_LQ_S hs (gql.S hM) gqc rfl rfl sb_ql_qc
                  replace hDF : hw_DF h_57 qc qp 2 agf cn0.toInt := hw_DF_S hs hTo gqc gqp tt_45 tt_2 rfl rfl rfl hDF
                  replace fo_20 := (hs.a gqp rfl _).2.trans fo_20
                  replace fo_30 := (hs.a gqp rfl _).2.trans fo_30
                  replace hM := hM.tr (hs.mono (by decide))
                  replace gx := gx.S hs
                  replace gqp := gqp.S hs
                  replace gqc := gqc.S hs
                  replace gq_6 := gq_6.S hs
                  replace gq_26 := gq_26.S hs
                  replace gq_54 := gq_54.S hs
                  obtain ⟨q_61, rfl, gq_61⟩ := hr_60
                  have gq_61 : hx_g L_56 h_57 q_61 0 := gq_61
                  have hTo := hT
                  refine hx_gov (hx_runI (As := [.int cn0, .ref q_6, .ref q_26, .ref q_61]) (rest := [.ref q_54]) ⟨hx, hb, hml, hown, hts⟩ hW (t_X2_init l dC dI dA L_56 h_57 H.size q_54 cn0 q_6 q_26 q_61 hT gq_54 gq_6 gq_26 gq_61 (fun j => fz_55 j rfl) ⟨by omega, by omega⟩) (cwI 4 hts (hx_gC kw_719) rfl rfl rfl (hts _ kw_110) (hts _ kw_717) (hts _ kw_718) rfl (by decide +kernel) ⟨Nat.le_of_ble_eq_true rfl, Nat.le_of_ble_eq_true rfl⟩) rfl hl.1 rfl (Nat.le_of_ble_eq_true rfl) dX9_file_103 ⟨Nat.le_of_ble_eq_true rfl, Nat.le_of_ble_eq_true rfl⟩) hW (fun L_62 h_63 H locs p_65 hW => ?_)
                  have hTo := hT
                  obtain ⟨hT, hs, gNq_54, po_66, po_67, po_68, po_69, po_70⟩ := p_65
                  replace hT : hx_T T_tb L_62 h_63 := hT
                  replace hs : hx_S T_tb [(21, 0), (118, 0), (118, 1), (118, 2), (118, 3), (118, 4), (118, 5), (118, 10), (118, 11), (118, 13), (118, 16), (118, 18)] (hx_X L_56 q_54) h_57 L_62 h_63 := hs
                  have gx := hx_gX gx (gx.ne gq_54 (by decide))
                  have gqp := hx_gX gqp (gqp.ne gq_54 (by decide))
                  have gqc := hx_gX gqc (gqc.ne gq_54 (by decide))
                  have gq_6 := hx_gX gq_6 (gq_6.ne gq_54 (by decide))
                  have gq_26 := hx_gX gq_26 (gq_26.ne gq_54 (by decide))
                  have gq_61 := hx_gX gq_61 (gq_61.ne gq_54 (by decide))
                  replace f_x_7 := (hs.o gx trivial rfl).2.trans f_x_7
                  replace f_x_10 := (hs.o gx trivial rfl).2.trans f_x_10
                  replace f_x_5 := (hs.o gx trivial rfl).2.trans f_x_5
                  replace f_x_19 := (hs.o gx trivial rfl).2.trans f_x_19
                  replace f_x_11 := (hs.o gx trivial rfl).1.trans f_x_11
                  replace f_x_8 := (hs.o gx trivial rfl).1.trans f_x_8
                  replace f_x_2 := (hs.o gx trivial rfl).1.trans f_x_2
                  replace fx_33 := (hs.o gq_26 trivial rfl).1.trans fx_33
                  replace pf_x_8 : ∀ j : Nat, (j : Int) < (h_63.2.1 x 8).toInt → h_63.2.2 qp j ≠ none := by
                    intro j hj; rw [(hs.o gx trivial rfl).1] at hj; rw [(hs.a gqp rfl j).2]; exact pf_x_8 j hj
                  replace pf_x_11 : ∀ j : Nat, (j : Int) < (h_63.2.1 x 11).toInt → h_63.2.2 qc j ≠ none := by
                    intro j hj; rw [(hs.o gx trivial rfl).1] at hj; rw [(hs.a gqc rfl j).2]; exact pf_x_11 j hj
                  replace pf_x_6 : ∀ j : Nat, (j : Int) < (h_63.2.1 x 6).toInt → h_63.2.2 qa j ≠ none := by
                    intro j hj; rw [(hs.o gx trivial rfl).1] at hj; rw [(hs.a (hx_gX (gqa.S hM) ((gqa.S hM).ne gq_54 (by decide))) rfl j).2]; exact pf_x_6 j hj
                  replace cl_qp_7 : hx_col 40 h_63 qp 7 = df := (hx_col_X hs hTo gqp gq_54 tt_44 tt_4 rfl rfl (by decide)).trans cl_qp_7
                  replace cl_qc_10 : hx_col 100 h_63 qc 10 = ff := (hx_col_X hs hTo gqc gq_54 tt_45 tt_2 rfl rfl (by decide)).trans cl_qc_10
                  replace cl_qc_9 : hx_col 100 h_63 qc 9 = tf := (hx_col_X hs hTo gqc gq_54 tt_45 tt_2 rfl rfl (by decide)).trans cl_qc_9
                  replace nu_qc : hx_num 100 h_63 qc 0 (cn0.toInt) := hx_num_X hs hTo gqc gq_54 tt_45 tt_2 rfl rfl (by decide) nu_qc
                  replace sb_ql_qc : hx_LQ 8 100 h_63 ql qc := hx_LQ_S hs (hx_gX (gql.S hM) ((gql.S hM).ne gq_54 (by decide))) gqc rfl rfl sb_ql_qc
                  replace hDF : hw_DF h_63 qc qp 2 agf cn0.toInt := hw_DF_X hs hTo gqc gqp gq_54 tt_45 tt_2 rfl rfl rfl (by decide) hDF
                  replace fo_20 := (hs.a gqp rfl _).2.trans fo_20
                  replace fo_30 := (hs.a gqp rfl _).2.trans fo_30
                  replace hM := hM.trX (hs.mono (by decide)) nq_q_54
                  replace gx := gx.S hs
                  replace gqp := gqp.S hs
                  replace gqc := gqc.S hs
                  replace gq_6 := gq_6.S hs
                  replace gq_26 := gq_26.S hs
                  replace gq_61 := gq_61.S hs
                  have gq_54 : hx_g L_62 h_63 q_54 2 := gNq_54
                  have po_66 : h_63.2.1 q_54 0 = cn0 := po_66
                  have po_67 : h_63.2.1 q_54 10 = -1 := po_67
                  have po_68 : h_63.2.1 q_54 11 = -1 := po_68
                  have po_69 : h_63.2.1 q_54 9 = 0 := po_69
                  have po_70 : h_63.2.2 q_54 2 = some q_26 := po_70
                  refine lv_astore (lv' := [(9, .ref q_54), (8, .ref q_26), (7, .ref q_6), (0, .ref x), (1, .int i1), (2, .int i2), (3, .int i3), (4, .int i4), (5, .int i5), (6, .int i6)]) hx hb dX9_file_106 hl (by decide) rfl (fun ls hl => ?_)
                  refine lv_aload hx hb dX9_file_108 (lv_at hl 0 rfl) ?_
                  refine lv_iload_n hx hb dX9_file_110 rfl (lv_at hl 6 rfl) ?_
                  have hTo := hT
                  refine hx_puti hx hb hts hC_2 hown hW hT (hx_S.rf (M := [(2, 6)])) gq_54 tt_2 6 (by decide) rfl kw_741 ⟨rfl, rfl, rfl⟩ rfl (x := i3) (i32_r _) rfl rfl rfl (List.mem_singleton.mpr rfl) dX9_file_111 (fun H locs h_71 eh_71 hW hT hs => ?_)
                  replace f_x_7 := (hs.o gx trivial rfl).2.trans f_x_7
                  replace f_x_10 := (hs.o gx trivial rfl).2.trans f_x_10
                  replace f_x_5 := (hs.o gx trivial rfl).2.trans f_x_5
                  replace f_x_19 := (hs.o gx trivial rfl).2.trans f_x_19
                  replace f_x_11 := (hs.o gx trivial rfl).1.trans f_x_11
                  replace f_x_8 := (hs.o gx trivial rfl).1.trans f_x_8
                  replace f_x_2 := (hs.o gx trivial rfl).1.trans f_x_2
                  replace fx_33 := (hs.o gq_26 trivial rfl).1.trans fx_33
                  replace po_66 := (hs.o gq_54 trivial rfl).1.trans po_66
                  replace po_67 := (hs.o gq_54 trivial rfl).1.trans po_67
                  replace po_68 := (hs.o gq_54 trivial rfl).1.trans po_68
                  replace po_69 := (hs.o gq_54 trivial rfl).1.trans po_69
                  replace po_70 := (hs.o gq_54 trivial rfl).2.trans po_70
                  replace pf_x_8 : ∀ j : Nat, (j : Int) < (h_71.2.1 x 8).toInt → h_71.2.2 qp j ≠ none := by
                    intro j hj; rw [(hs.o gx trivial rfl).1] at hj; rw [(hs.a gqp rfl j).2]; exact pf_x_8 j hj
                  replace pf_x_11 : ∀ j : Nat, (j : Int) < (h_71.2.1 x 11).toInt → h_71.2.2 qc j ≠ none := by
                    intro j hj; rw [(hs.o gx trivial rfl).1] at hj; rw [(hs.a gqc rfl j).2]; exact pf_x_11 j hj
                  replace pf_x_6 : ∀ j : Nat, (j : Int) < (h_71.2.1 x 6).toInt → h_71.2.2 qa j ≠ none := by
                    intro j hj; rw [(hs.o gx trivial rfl).1] at hj; rw [(hs.a (gqa.S hM) rfl j).2]; exact pf_x_6 j hj
                  replace cl_qp_7 : hx_col 40 h_71 qp 7 = df := (hx_col_S hs hTo gqp tt_44 tt_4 rfl rfl).trans cl_qp_7
                  replace cl_qc_10 : hx_col 100 h_71 qc 10 = ff := (hx_col_S hs hTo gqc tt_45 tt_2 rfl rfl).trans cl_qc_10
                  replace cl_qc_9 : hx_col 100 h_71 qc 9 = tf := (hx_col_S hs hTo gqc tt_45 tt_2 rfl rfl).trans cl_qc_9
                  replace nu_qc : hx_num 100 h_71 qc 0 (cn0.toInt) := hx_num_S hs hTo gqc tt_45 tt_2 rfl rfl nu_qc
                  replace sb_ql_qc : hx_LQ 8 100 h_71 ql qc := hx_LQ_S hs (gql.S hM) gqc rfl rfl sb_ql_qc
                  replace hDF : hw_DF h_71 qc qp 2 agf cn0.toInt := hw_DF_S hs hTo gqc gqp tt_45 tt_2 rfl rfl rfl hDF
                  replace fo_20 := (hs.a gqp rfl _).2.trans fo_20
                  replace fo_30 := (hs.a gqp rfl _).2.trans fo_30
                  replace hM := hM.tr (hs.mono (by decide))
                  replace gx := gx.S hs
                  replace gqp := gqp.S hs
                  replace gqc := gqc.S hs
                  replace gq_6 := gq_6.S hs
                  replace gq_26 := gq_26.S hs
                  replace gq_61 := gq_61.S hs
                  replace gq_54 := gq_54.S hs
                  have f_72 : h_71.2.1 q_54 6 = i3 := by rw [eh_71]; exact hx_pi_at _ _ _ _
                  refine lv_aload hx hb dX9_file_114 (lv_at hl 0 rfl) ?_
                  refine lv_iload hx hb dX9_file_116 (lv_at hl 7 rfl) ?_
                  have hTo := hT
                  refine hx_puti hx hb hts hC_2 hown hW hT (hx_S.rf (M := [(2, 7)])) gq_54 tt_2 7 (by decide) rfl kw_742 ⟨rfl, rfl, rfl⟩ rfl (x := i4) (i32_r _) rfl rfl rfl (List.mem_singleton.mpr rfl) dX9_file_118 (fun H locs h_73 eh_73 hW hT hs => ?_)
                  replace f_x_7 := (hs.o gx trivial rfl).2.trans f_x_7
                  replace f_x_10 := (hs.o gx trivial rfl).2.trans f_x_10
                  replace f_x_5 := (hs.o gx trivial rfl).2.trans f_x_5
                  replace f_x_19 := (hs.o gx trivial rfl).2.trans f_x_19
                  replace f_x_11 := (hs.o gx trivial rfl).1.trans f_x_11
                  replace f_x_8 := (hs.o gx trivial rfl).1.trans f_x_8
                  replace f_x_2 := (hs.o gx trivial rfl).1.trans f_x_2
                  replace fx_33 := (hs.o gq_26 trivial rfl).1.trans fx_33
                  replace po_66 := (hs.o gq_54 trivial rfl).1.trans po_66
                  replace po_67 := (hs.o gq_54 trivial rfl).1.trans po_67
                  replace po_68 := (hs.o gq_54 trivial rfl).1.trans po_68
                  replace po_69 := (hs.o gq_54 trivial rfl).1.trans po_69
                  replace po_70 := (hs.o gq_54 trivial rfl).2.trans po_70
                  replace f_72 := (hs.o gq_54 trivial rfl).1.trans f_72
                  replace pf_x_8 : ∀ j : Nat, (j : Int) < (h_73.2.1 x 8).toInt → h_73.2.2 qp j ≠ none := by
                    intro j hj; rw [(hs.o gx trivial rfl).1] at hj; rw [(hs.a gqp rfl j).2]; exact pf_x_8 j hj
                  replace pf_x_11 : ∀ j : Nat, (j : Int) < (h_73.2.1 x 11).toInt → h_73.2.2 qc j ≠ none := by
                    intro j hj; rw [(hs.o gx trivial rfl).1] at hj; rw [(hs.a gqc rfl j).2]; exact pf_x_11 j hj
                  replace pf_x_6 : ∀ j : Nat, (j : Int) < (h_73.2.1 x 6).toInt → h_73.2.2 qa j ≠ none := by
                    intro j hj; rw [(hs.o gx trivial rfl).1] at hj; rw [(hs.a (gqa.S hM) rfl j).2]; exact pf_x_6 j hj
                  replace cl_qp_7 : hx_col 40 h_73 qp 7 = df := (hx_col_S hs hTo gqp tt_44 tt_4 rfl rfl).trans cl_qp_7
                  replace cl_qc_10 : hx_col 100 h_73 qc 10 = ff := (hx_col_S hs hTo gqc tt_45 tt_2 rfl rfl).trans cl_qc_10
                  replace cl_qc_9 : hx_col 100 h_73 qc 9 = tf := (hx_col_S hs hTo gqc tt_45 tt_2 rfl rfl).trans cl_qc_9
                  replace nu_qc : hx_num 100 h_73 qc 0 (cn0.toInt) := hx_num_S hs hTo gqc tt_45 tt_2 rfl rfl nu_qc
                  replace sb_ql_qc : hx_LQ 8 100 h_73 ql qc := hx_LQ_S hs (gql.S hM) gqc rfl rfl sb_ql_qc
                  replace hDF : hw_DF h_73 qc qp 2 agf cn0.toInt := hw_DF_S hs hTo gqc gqp tt_45 tt_2 rfl rfl rfl hDF
                  replace fo_20 := (hs.a gqp rfl _).2.trans fo_20
                  replace fo_30 := (hs.a gqp rfl _).2.trans fo_30
                  replace hM := hM.tr (hs.mono (by decide))
                  replace gx := gx.S hs
                  replace gqp := gqp.S hs
                  replace gqc := gqc.S hs
                  replace gq_6 := gq_6.S hs
                  replace gq_26 := gq_26.S hs
                  replace gq_61 := gq_61.S hs
                  replace gq_54 := gq_54.S hs
                  have f_74 : h_73.2.1 q_54 7 = i4 := by rw [eh_73]; exact hx_pi_at _ _ _ _
                  refine lv_aload hx hb dX9_file_121 (lv_at hl 0 rfl) ?_
                  refine lv_aload_n hx hb dX9_file_123 rfl (lv_at hl 3 rfl) ?_
                  refine hk_geti hx hb hts hC_9 hown hW gx tt_9 2 (by decide) rfl kw_366 ⟨rfl, rfl, rfl⟩ f_x_2 dX9_file_124 ?_
                  have hTo := hT
                  refine hx_puti hx hb hts hC_2 hown hW hT (hx_S.rf (M := [(2, 8)])) gq_54 tt_2 8 (by decide) rfl kw_743 ⟨rfl, rfl, rfl⟩ rfl (x := nw0) (i32_r _) rfl rfl rfl (List.mem_singleton.mpr rfl) dX9_file_127 (fun H locs h_75 eh_75 hW hT hs => ?_)
                  replace f_x_7 := (hs.o gx trivial rfl).2.trans f_x_7
                  replace f_x_10 := (hs.o gx trivial rfl).2.trans f_x_10
                  replace f_x_5 := (hs.o gx trivial rfl).2.trans f_x_5
                  replace f_x_19 := (hs.o gx trivial rfl).2.trans f_x_19
                  replace f_x_11 := (hs.o gx trivial rfl).1.trans f_x_11
                  replace f_x_8 := (hs.o gx trivial rfl).1.trans f_x_8
                  replace f_x_2 := (hs.o gx trivial rfl).1.trans f_x_2
                  replace fx_33 := (hs.o gq_26 trivial rfl).1.trans fx_33
                  replace po_66 := (hs.o gq_54 trivial rfl).1.trans po_66
                  replace po_67 := (hs.o gq_54 trivial rfl).1.trans po_67
                  replace po_68 := (hs.o gq_54 trivial rfl).1.trans po_68
                  replace po_69 := (hs.o gq_54 trivial rfl).1.trans po_69
                  replace po_70 := (hs.o gq_54 trivial rfl).2.trans po_70
                  replace f_72 := (hs.o gq_54 trivial rfl).1.trans f_72
                  replace f_74 := (hs.o gq_54 trivial rfl).1.trans f_74
                  replace pf_x_8 : ∀ j : Nat, (j : Int) < (h_75.2.1 x 8).toInt → h_75.2.2 qp j ≠ none := by
                    intro j hj; rw [(hs.o gx trivial rfl).1] at hj; rw [(hs.a gqp rfl j).2]; exact pf_x_8 j hj
                  replace pf_x_11 : ∀ j : Nat, (j : Int) < (h_75.2.1 x 11).toInt → h_75.2.2 qc j ≠ none := by
                    intro j hj; rw [(hs.o gx trivial rfl).1] at hj; rw [(hs.a gqc rfl j).2]; exact pf_x_11 j hj
                  replace pf_x_6 : ∀ j : Nat, (j : Int) < (h_75.2.1 x 6).toInt → h_75.2.2 qa j ≠ none := by
                    intro j hj; rw [(hs.o gx trivial rfl).1] at hj; rw [(hs.a (gqa.S hM) rfl j).2]; exact pf_x_6 j hj
                  replace cl_qp_7 : hx_col 40 h_75 qp 7 = df := (hx_col_S hs hTo gqp tt_44 tt_4 rfl rfl).trans cl_qp_7
                  replace cl_qc_10 : hx_col 100 h_75 qc 10 = ff := (hx_col_S hs hTo gqc tt_45 tt_2 rfl rfl).trans cl_qc_10
                  replace cl_qc_9 : hx_col 100 h_75 qc 9 = tf := (hx_col_S hs hTo gqc tt_45 tt_2 rfl rfl).trans cl_qc_9
                  replace nu_qc : hx_num 100 h_75 qc 0 (cn0.toInt) := hx_num_S hs hTo gqc tt_45 tt_2 rfl rfl nu_qc
                  replace sb_ql_qc : hx_LQ 8 100 h_75 ql qc := hx_LQ_S hs (gql.S hM) gqc rfl rfl sb_ql_qc
                  replace hDF : hw_DF h_75 qc qp 2 agf cn0.toInt := hw_DF_S hs hTo gqc gqp tt_45 tt_2 rfl rfl rfl hDF
                  replace fo_20 := (hs.a gqp rfl _).2.trans fo_20
                  replace fo_30 := (hs.a gqp rfl _).2.trans fo_30
                  replace hM := hM.tr (hs.mono (by decide))
                  replace gx := gx.S hs
                  replace gqp := gqp.S hs
                  replace gqc := gqc.S hs
                  replace gq_6 := gq_6.S hs
                  replace gq_26 := gq_26.S hs
                  replace gq_61 := gq_61.S hs
                  replace gq_54 := gq_54.S hs
                  have f_76 : h_75.2.1 q_54 8 = nw0 := by rw [eh_75]; exact hx_pi_at _ _ _ _
                  refine lv_aload hx hb dX9_file_130 (lv_at hl 0 rfl) ?_
                  refine hx_getn hx hb hts hC_2 hown hW hT gq_54 tt_2 4 (by decide) rfl kw_738 ⟨rfl, rfl, rfl⟩ dX9_file_132 (fun q_77 fq_77 gq_77 => ?_)
                  refine lv_iconst (v := 2) hx hb dX9_file_135 (by decide) ?_
                  refine lv_iload hx hb dX9_file_136 (lv_at hl 8 rfl) ?_
                  refine hb_if_eq (zx := i5.toInt) (tgt := 145) hx hb rfl dX9_file_138 (by decide) (fun c_78 => ?_) (fun c_78 => ?_)
                  · skip
                    refine lv_iconst (v := 0) hx hb dX9_file_145 (by decide) ?_
                    have hTo := hT
                    refine hx_iast hx hb hW hT (hx_S.rf (M := [(20, 0)])) gq_77 tt_20 rfl (by decide) rfl (by decide) (List.mem_singleton.mpr rfl) dX9_file_146 (fun H locs h_79 eh_79 hW hT hs => ?_)
                    replace f_x_7 := (hs.o gx trivial rfl).2.trans f_x_7
                    replace f_x_10 := (hs.o gx trivial rfl).2.trans f_x_10
                    replace f_x_5 := (hs.o gx trivial rfl).2.trans f_x_5
                    replace f_x_19 := (hs.o gx trivial rfl).2.trans f_x_19
                    replace f_x_11 := (hs.o gx trivial rfl).1.trans f_x_11
                    replace f_x_8 := (hs.o gx trivial rfl).1.trans f_x_8
                    replace f_x_2 := (hs.o gx trivial rfl).1.trans f_x_2
                    replace fx_33 := (hs.o gq_26 trivial rfl).1.trans fx_33
                    replace po_66 := (hs.o gq_54 trivial rfl).1.trans po_66
                    replace po_67 := (hs.o gq_54 trivial rfl).1.trans po_67
                    replace po_68 := (hs.o gq_54 trivial rfl).1.trans po_68
                    replace po_69 := (hs.o gq_54 trivial rfl).1.trans po_69
                    replace po_70 := (hs.o gq_54 trivial rfl).2.trans po_70
                    replace f_72 := (hs.o gq_54 trivial rfl).1.trans f_72
                    replace f_74 := (hs.o gq_54 trivial rfl).1.trans f_74
                    replace f_76 := (hs.o gq_54 trivial rfl).1.trans f_76
                    replace fq_77 := (hs.o gq_54 trivial rfl).2.trans fq_77
                    replace pf_x_8 : ∀ j : Nat, (j : Int) < (h_79.2.1 x 8).toInt → h_79.2.2 qp j ≠ none := by
                      intro j hj; rw [(hs.o gx trivial rfl).1] at hj; rw [(hs.a gqp rfl j).2]; exact pf_x_8 j hj
                    replace pf_x_11 : ∀ j : Nat, (j : Int) < (h_79.2.1 x 11).toInt → h_79.2.2 qc j ≠ none := by
                      intro j hj; rw [(hs.o gx trivial rfl).1] at hj; rw [(hs.a gqc rfl j).2]; exact pf_x_11 j hj
                    replace pf_x_6 : ∀ j : Nat, (j : Int) < (h_79.2.1 x 6).toInt → h_79.2.2 qa j ≠ none := by
                      intro j hj; rw [(hs.o gx trivial rfl).1] at hj; rw [(hs.a (gqa.S hM) rfl j).2]; exact pf_x_6 j hj
                    replace cl_qp_7 : hx_col 40 h_79 qp 7 = df := (hx_col_S hs hTo gqp tt_44 tt_4 rfl rfl).trans cl_qp_7
                    replace cl_qc_10 : hx_col 100 h_79 qc 10 = ff := (hx_col_S hs hTo gqc tt_45 tt_2 rfl rfl).trans cl_qc_10
                    replace cl_qc_9 : hx_col 100 h_79 qc 9 = tf := (hx_col_S hs hTo gqc tt_45 tt_2 rfl rfl).trans cl_qc_9
                    replace nu_qc : hx_num 100 h_79 qc 0 (cn0.toInt) := hx_num_S hs hTo gqc tt_45 tt_2 rfl rfl nu_qc
                    replace sb_ql_qc : hx_LQ 8 100 h_79 ql qc := hx_LQ_S hs (gql.S hM) gqc rfl rfl sb_ql_qc
                    replace hDF : hw_DF h_79 qc qp 2 agf cn0.toInt := hw_DF_S hs hTo gqc gqp tt_45 tt_2 rfl rfl rfl hDF
                    replace fo_20 := (hs.a gqp rfl _).2.trans fo_20
                    replace fo_30 := (hs.a gqp rfl _).2.trans fo_30
                    replace hM := hM.tr (hs.mono (by decide))
                    replace gx := gx.S hs
                    replace gqp := gqp.S hs
                    replace gqc := gqc.S hs
                    replace gq_6 := gq_6.S hs
                    replace gq_26 := gq_26.S hs
                    replace gq_61 := gq_61.S hs
                    replace gq_54 := gq_54.S hs
                    replace gq_77 := gq_77.S hs
                    refine lv_aload hx hb dX9_file_147 (lv_at hl 0 rfl) ?_
                    refine hk_getr hx hb hts hC_2 hown hW gq_54 tt_2 4 (by decide) rfl kw_738 ⟨rfl, rfl, rfl⟩ fq_77 dX9_file_149 ?_
                    refine lv_iconst (v := 3) hx hb dX9_file_152 (by decide) ?_
                    refine lv_iload hx hb dX9_file_153 (lv_at hl 9 rfl) ?_
                    have hTo := hT
                    refine hx_iast hx hb hW hT (hx_S.rf (M := [(20, 0)])) gq_77 tt_20 rfl (by decide) rfl (i32_r _) (List.mem_singleton.mpr rfl) dX9_file_155 (fun H locs h_80 eh_80 hW hT hs => ?_)
                    replace f_x_7 := (hs.o gx trivial rfl).2.trans f_x_7
                    replace f_x_10 := (hs.o gx trivial rfl).2.trans f_x_10
                    replace f_x_5 := (hs.o gx trivial rfl).2.trans f_x_5
                    replace f_x_19 := (hs.o gx trivial rfl).2.trans f_x_19
                    replace f_x_11 := (hs.o gx trivial rfl).1.trans f_x_11
                    replace f_x_8 := (hs.o gx trivial rfl).1.trans f_x_8
                    replace f_x_2 := (hs.o gx trivial rfl).1.trans f_x_2
                    replace fx_33 := (hs.o gq_26 trivial rfl).1.trans fx_33
                    replace po_66 := (hs.o gq_54 trivial rfl).1.trans po_66
                    replace po_67 := (hs.o gq_54 trivial rfl).1.trans po_67
                    replace po_68 := (hs.o gq_54 trivial rfl).1.trans po_68
                    replace po_69 := (hs.o gq_54 trivial rfl).1.trans po_69
                    replace po_70 := (hs.o gq_54 trivial rfl).2.trans po_70
                    replace f_72 := (hs.o gq_54 trivial rfl).1.trans f_72
                    replace f_74 := (hs.o gq_54 trivial rfl).1.trans f_74
                    replace f_76 := (hs.o gq_54 trivial rfl).1.trans f_76
                    replace fq_77 := (hs.o gq_54 trivial rfl).2.trans fq_77
                    replace pf_x_8 : ∀ j : Nat, (j : Int) < (h_80.2.1 x 8).toInt → h_80.2.2 qp j ≠ none := by
                      intro j hj; rw [(hs.o gx trivial rfl).1] at hj; rw [(hs.a gqp rfl j).2]; exact pf_x_8 j hj
                    replace pf_x_11 : ∀ j : Nat, (j : Int) < (h_80.2.1 x 11).toInt → h_80.2.2 qc j ≠ none := by
                      intro j hj; rw [(hs.o gx trivial rfl).1] at hj; rw [(hs.a gqc rfl j).2]; exact pf_x_11 j hj
                    replace pf_x_6 : ∀ j : Nat, (j : Int) < (h_80.2.1 x 6).toInt → h_80.2.2 qa j ≠ none := by
                      intro j hj; rw [(hs.o gx trivial rfl).1] at hj; rw [(hs.a (gqa.S hM) rfl j).2]; exact pf_x_6 j hj
                    replace cl_qp_7 : hx_col 40 h_80 qp 7 = df := (hx_col_S hs hTo gqp tt_44 tt_4 rfl rfl).trans cl_qp_7
                    replace cl_qc_10 : hx_col 100 h_80 qc 10 = ff := (hx_col_S hs hTo gqc tt_45 tt_2 rfl rfl).trans cl_qc_10
                    replace cl_qc_9 : hx_col 100 h_80 qc 9 = tf := (hx_col_S hs hTo gqc tt_45 tt_2 rfl rfl).trans cl_qc_9
                    replace nu_qc : hx_num 100 h_80 qc 0 (cn0.toInt) := hx_num_S hs hTo gqc tt_45 tt_2 rfl rfl nu_qc
                    replace sb_ql_qc : hx_LQ 8 100 h_80 ql qc := hx_LQ_S hs (gql.S hM) gqc rfl rfl sb_ql_qc
                    replace hDF : hw_DF h_80 qc qp 2 agf cn0.toInt := hw_DF_S hs hTo gqc gqp tt_45 tt_2 rfl rfl rfl hDF
                    replace fo_20 := (hs.a gqp rfl _).2.trans fo_20
                    replace fo_30 := (hs.a gqp rfl _).2.trans fo_30
                    replace hM := hM.tr (hs.mono (by decide))
                    replace gx := gx.S hs
                    replace gqp := gqp.S hs
                    replace gqc := gqc.S hs
                    replace gq_6 := gq_6.S hs
                    replace gq_26 := gq_26.S hs
                    replace gq_61 := gq_61.S hs
                    replace gq_54 := gq_54.S hs
                    replace gq_77 := gq_77.S hs
                    refine lv_aload hx hb dX9_file_156 (lv_at hl 0 rfl) ?_
                    refine hk_getr hx hb hts hC_2 hown hW gq_54 tt_2 4 (by decide) rfl kw_738 ⟨rfl, rfl, rfl⟩ fq_77 dX9_file_158 ?_
                    refine lv_bipush (v := 7) hx hb dX9_file_161 (by decide) ?_
                    refine lv_iload_n hx hb dX9_file_163 rfl (lv_at hl 6 rfl) ?_
                    have hTo := hT
                    refine hx_iast hx hb hW hT (hx_S.rf (M := [(20, 0)])) gq_77 tt_20 rfl (by decide) rfl (i32_r _) (List.mem_singleton.mpr rfl) dX9_file_164 (fun H locs h_81 eh_81 hW hT hs => ?_)
                    replace f_x_7 := (hs.o gx trivial rfl).2.trans f_x_7
                    replace f_x_10 := (hs.o gx trivial rfl).2.trans f_x_10
                    replace f_x_5 := (hs.o gx trivial rfl).2.trans f_x_5
                    replace f_x_19 := (hs.o gx trivial rfl).2.trans f_x_19
                    replace f_x_11 := (hs.o gx trivial rfl).1.trans f_x_11
                    replace f_x_8 := (hs.o gx trivial rfl).1.trans f_x_8
                    replace f_x_2 := (hs.o gx trivial rfl).1.trans f_x_2
                    replace fx_33 := (hs.o gq_26 trivial rfl).1.trans fx_33
                    replace po_66 := (hs.o gq_54 trivial rfl).1.trans po_66
                    replace po_67 := (hs.o gq_54 trivial rfl).1.trans po_67
                    replace po_68 := (hs.o gq_54 trivial rfl).1.trans po_68
                    replace po_69 := (hs.o gq_54 trivial rfl).1.trans po_69
                    replace po_70 := (hs.o gq_54 trivial rfl).2.trans po_70
                    replace f_72 := (hs.o gq_54 trivial rfl).1.trans f_72
                    replace f_74 := (hs.o gq_54 trivial rfl).1.trans f_74
                    replace f_76 := (hs.o gq_54 trivial rfl).1.trans f_76
                    replace fq_77 := (hs.o gq_54 trivial rfl).2.trans fq_77
                    replace pf_x_8 : ∀ j : Nat, (j : Int) < (h_81.2.1 x 8).toInt → h_81.2.2 qp j ≠ none := by
                      intro j hj; rw [(hs.o gx trivial rfl).1] at hj; rw [(hs.a gqp rfl j).2]; exact pf_x_8 j hj
                    replace pf_x_11 : ∀ j : Nat, (j : Int) < (h_81.2.1 x 11).toInt → h_81.2.2 qc j ≠ none := by
                      intro j hj; rw [(hs.o gx trivial rfl).1] at hj; rw [(hs.a gqc rfl j).2]; exact pf_x_11 j hj
                    replace pf_x_6 : ∀ j : Nat, (j : Int) < (h_81.2.1 x 6).toInt → h_81.2.2 qa j ≠ none := by
                      intro j hj; rw [(hs.o gx trivial rfl).1] at hj; rw [(hs.a (gqa.S hM) rfl j).2]; exact pf_x_6 j hj
                    replace cl_qp_7 : hx_col 40 h_81 qp 7 = df := (hx_col_S hs hTo gqp tt_44 tt_4 rfl rfl).trans cl_qp_7
                    replace cl_qc_10 : hx_col 100 h_81 qc 10 = ff := (hx_col_S hs hTo gqc tt_45 tt_2 rfl rfl).trans cl_qc_10
                    replace cl_qc_9 : hx_col 100 h_81 qc 9 = tf := (hx_col_S hs hTo gqc tt_45 tt_2 rfl rfl).trans cl_qc_9
                    replace nu_qc : hx_num 100 h_81 qc 0 (cn0.toInt) := hx_num_S hs hTo gqc tt_45 tt_2 rfl rfl nu_qc
                    replace sb_ql_qc : hx_LQ 8 100 h_81 ql qc := hx_LQ_S hs (gql.S hM) gqc rfl rfl sb_ql_qc
                    replace hDF : hw_DF h_81 qc qp 2 agf cn0.toInt := hw_DF_S hs hTo gqc gqp tt_45 tt_2 rfl rfl rfl hDF
                    replace fo_20 := (hs.a gqp rfl _).2.trans fo_20
                    replace fo_30 := (hs.a gqp rfl _).2.trans fo_30
                    replace hM := hM.tr (hs.mono (by decide))
                    replace gx := gx.S hs
                    replace gqp := gqp.S hs
                    replace gqc := gqc.S hs
                    replace gq_6 := gq_6.S hs
                    replace gq_26 := gq_26.S hs
                    replace gq_61 := gq_61.S hs
                    replace gq_54 := gq_54.S hs
                    replace gq_77 := gq_77.S hs
                    refine lv_aload_n hx hb dX9_file_165 rfl (lv_at hl 3 rfl) ?_
                    refine hk_getr hx hb hts hC_9 hown hW gx tt_9 10 (by decide) rfl kw_374 ⟨rfl, rfl, rfl⟩ f_x_10 dX9_file_166 ?_
                    refine lv_aload_n hx hb dX9_file_169 rfl (lv_at hl 3 rfl) ?_
                    refine hk_geti hx hb hts hC_9 hown hW gx tt_9 11 (by decide) rfl kw_375 ⟨rfl, rfl, rfl⟩ f_x_11 dX9_file_170 ?_
                    refine lv_aload hx hb dX9_file_173 (lv_at hl 0 rfl) ?_
                    have hDFO9 := hDF
                    have hTO9 := hT
                    have gqcO9 := gqc
                    have gqpO8 := gqp
                    have gqNO9 := gq_54
                    have fdO9 := po_70
                    have foO9 := fo_30
                    have hTo := hT
                    have cl_qc_10O := cl_qc_10
                    have po_67O := po_67
                    have cl_qc_9O := cl_qc_9
                    have po_69O := po_69
                    have nu_qcO := nu_qc
                    have po_66O := po_66
                    have sb_ql_qcO := sb_ql_qc
                    have gsO_ql := (gql.S hM)
                    have pf_x_11O := pf_x_11
                    refine hx_aast hx hb hW hT (hx_S.rf (M := [(45, 0)])) gqc tt_45 rfl gq_54 tt_2 rfl (by decide) ⟨by omega, by omega⟩ (List.mem_singleton.mpr rfl) dX9_file_175 (fun H locs h_82 eh_82 hW hT hs => ?_)
                    replace f_x_7 := (hs.o gx trivial rfl).2.trans f_x_7
                    replace f_x_10 := (hs.o gx trivial rfl).2.trans f_x_10
                    replace f_x_5 := (hs.o gx trivial rfl).2.trans f_x_5
                    replace f_x_19 := (hs.o gx trivial rfl).2.trans f_x_19
                    replace f_x_11 := (hs.o gx trivial rfl).1.trans f_x_11
                    replace f_x_8 := (hs.o gx trivial rfl).1.trans f_x_8
                    replace f_x_2 := (hs.o gx trivial rfl).1.trans f_x_2
                    replace fx_33 := (hs.o gq_26 trivial rfl).1.trans fx_33
                    replace po_66 := (hs.o gq_54 trivial rfl).1.trans po_66
                    replace po_67 := (hs.o gq_54 trivial rfl).1.trans po_67
                    replace po_68 := (hs.o gq_54 trivial rfl).1.trans po_68
                    replace po_69 := (hs.o gq_54 trivial rfl).1.trans po_69
                    replace po_70 := (hs.o gq_54 trivial rfl).2.trans po_70
                    replace f_72 := (hs.o gq_54 trivial rfl).1.trans f_72
                    replace f_74 := (hs.o gq_54 trivial rfl).1.trans f_74
                    replace f_76 := (hs.o gq_54 trivial rfl).1.trans f_76
                    replace fq_77 := (hs.o gq_54 trivial rfl).2.trans fq_77
                    replace pf_x_8 : ∀ j : Nat, (j : Int) < (h_82.2.1 x 8).toInt → h_82.2.2 qp j ≠ none := by
                      intro j hj; rw [(hs.o gx trivial rfl).1] at hj; rw [(hs.a gqp rfl j).2]; exact pf_x_8 j hj
                    replace pf_x_6 : ∀ j : Nat, (j : Int) < (h_82.2.1 x 6).toInt → h_82.2.2 qa j ≠ none := by
                      intro j hj; rw [(hs.o gx trivial rfl).1] at hj; rw [(hs.a (gqa.S hM) rfl j).2]; exact pf_x_6 j hj
                    replace cl_qp_7 : hx_col 40 h_82 qp 7 = df := (hx_col_S hs hTo gqp tt_44 tt_4 rfl rfl).trans cl_qp_7
                    replace fo_20 := (hs.a gqp rfl _).2.trans fo_20
                    replace fo_30 := (hs.a gqp rfl _).2.trans fo_30
                    replace hM := hM.tr (hs.mono (by decide))
                    replace gx := gx.S hs
                    replace gqp := gqp.S hs
                    replace gqc := gqc.S hs
                    replace gq_6 := gq_6.S hs
                    replace gq_26 := gq_26.S hs
                    replace gq_61 := gq_61.S hs
                    replace gq_54 := gq_54.S hs
                    replace gq_77 := gq_77.S hs
                    have pf_x_11 : ∀ j : Nat, (j : Int) < (h_82.2.1 x 11).toInt → h_82.2.2 qc j ≠ none := hx_pfk pf_x_11O eh_82
                    have px_83 : ∀ j : Nat, (j : Int) < cn0.toInt + 1 → h_82.2.2 qc j ≠ none := hx_pfx pf_x_11O (by first | exact f_x_11 | exact ((hs.o gx trivial rfl).1.symm.trans f_x_11)) (by omega) eh_82
                    have sb_84 : hx_LQ 8 100 h_82 ql qc := hx_LQ_pr2 sb_ql_qcO nu_qcO eh_82 (by omega) (by omega) (gqc.ne (gql.S hM) (by decide))
                    obtain ⟨fc_85, dfc_85⟩ : ∃ g : Nat → Int32, g = hx_up ff cn0.toNatClampNeg (-1 : Int32) := ⟨_, rfl⟩
                    have nfc_85 : hx_col 100 h_82 qc 10 = fc_85 := by rw [dfc_85]; exact (hx_col_pr eh_82 (by unfold Int32.toNatClampNeg; omega)).trans (by rw [cl_qc_10O, po_67O])
                    obtain ⟨fc_86, dfc_86⟩ : ∃ g : Nat → Int32, g = hx_up tf cn0.toNatClampNeg (0 : Int32) := ⟨_, rfl⟩
                    have nfc_86 : hx_col 100 h_82 qc 9 = fc_86 := by rw [dfc_86]; exact (hx_col_pr eh_82 (by unfold Int32.toNatClampNeg; omega)).trans (by rw [cl_qc_9O, po_69O])
                    have nu_87 : hx_num 100 h_82 qc 0 (cn0.toInt + 1) := hx_num_pr nu_qcO eh_82 (by omega) (by omega) (by rw [po_66O])
                    have hDFn : hw_DF h_82 qc qp 2 (hx_up agf cn0.toInt.toNat i2) (cn0.toInt + 1) := hw_DF_c hDFO9 hTO9 gqcO9 gqpO8 gqNO9 tt_45 (by decide) (by decide) eh_82 (by omega) (by omega) fdO9 foO9 (by omega) (by omega) rfl
                    refine lv_aload_n hx hb dX9_file_176 rfl (lv_at hl 3 rfl) ?_
                    refine lv_dup hx hb dX9_file_177 rfl ?_
                    refine hk_geti hx hb hts hC_9 hown hW gx tt_9 11 (by decide) rfl kw_375 ⟨rfl, rfl, rfl⟩ f_x_11 dX9_file_178 ?_
                    refine lv_iconst (v := 1) hx hb dX9_file_181 (by decide) ?_
                    refine lv_iadd hx hb dX9_file_182 ?_
                    have rg_88 := i32_r cn0
                    refine lv_topi (fun x_89 ex_89 => ?_)
                    have zx_89 : x_89.toInt = cn0.toInt + 1 := by rw [ex_89]; exact i32_add rfl (by decide) (by omega) (by omega)
                    have hTo := hT
                    refine hx_puti hx hb hts hC_9 hown hW hT (hx_S.rf (M := [(9, 11)])) gx tt_9 11 (by decide) rfl kw_375 ⟨rfl, rfl, rfl⟩ rfl (x := x_89) ⟨by omega, by omega⟩ rfl rfl rfl (List.mem_singleton.mpr rfl) dX9_file_183 (fun H locs h_90 eh_90 hW hT hs => ?_)
                    replace px_83 : ∀ j : Nat, (j : Int) < cn0.toInt + 1 → h_90.2.2 qc j ≠ none := fun j hj => by rw [(hs.a gqc rfl j).2]; exact px_83 j hj
                    replace f_x_7 := (hs.o gx trivial rfl).2.trans f_x_7
                    replace f_x_10 := (hs.o gx trivial rfl).2.trans f_x_10
                    replace f_x_5 := (hs.o gx trivial rfl).2.trans f_x_5
                    replace f_x_19 := (hs.o gx trivial rfl).2.trans f_x_19
                    replace f_x_8 := (hs.o gx trivial rfl).1.trans f_x_8
                    replace f_x_2 := (hs.o gx trivial rfl).1.trans f_x_2
                    replace fx_33 := (hs.o gq_26 trivial rfl).1.trans fx_33
                    replace po_66 := (hs.o gq_54 trivial rfl).1.trans po_66
                    replace po_67 := (hs.o gq_54 trivial rfl).1.trans po_67
                    replace po_68 := (hs.o gq_54 trivial rfl).1.trans po_68
                    replace po_69 := (hs.o gq_54 trivial rfl).1.trans po_69
                    replace po_70 := (hs.o gq_54 trivial rfl).2.trans po_70
                    replace f_72 := (hs.o gq_54 trivial rfl).1.trans f_72
                    replace f_74 := (hs.o gq_54 trivial rfl).1.trans f_74
                    replace f_76 := (hs.o gq_54 trivial rfl).1.trans f_76
                    replace fq_77 := (hs.o gq_54 trivial rfl).2.trans fq_77
                    replace pf_x_8 : ∀ j : Nat, (j : Int) < (h_90.2.1 x 8).toInt → h_90.2.2 qp j ≠ none := by
                      intro j hj; rw [(hs.o gx trivial rfl).1] at hj; rw [(hs.a gqp rfl j).2]; exact pf_x_8 j hj
                    replace pf_x_6 : ∀ j : Nat, (j : Int) < (h_90.2.1 x 6).toInt → h_90.2.2 qa j ≠ none := by
                      intro j hj; rw [(hs.o gx trivial rfl).1] at hj; rw [(hs.a (gqa.S hM) rfl j).2]; exact pf_x_6 j hj
                    replace cl_qp_7 : hx_col 40 h_90 qp 7 = df := (hx_col_S hs hTo gqp tt_44 tt_4 rfl rfl).trans cl_qp_7
                    replace nfc_85 : hx_col 100 h_90 qc 10 = fc_85 := (hx_col_S hs hTo gqc tt_45 tt_2 rfl rfl).trans nfc_85
                    replace nfc_86 : hx_col 100 h_90 qc 9 = fc_86 := (hx_col_S hs hTo gqc tt_45 tt_2 rfl rfl).trans nfc_86
                    replace nu_87 : hx_num 100 h_90 qc 0 (cn0.toInt + 1) := hx_num_S hs hTo gqc tt_45 tt_2 rfl rfl nu_87
                    replace sb_84 : hx_LQ 8 100 h_90 ql qc := hx_LQ_S hs (gql.S hM) gqc rfl rfl sb_84
                    replace hDFn : hw_DF h_90 qc qp 2 (hx_up agf cn0.toInt.toNat i2) (cn0.toInt + 1) := hw_DF_S hs hTo gqc gqp tt_45 tt_2 rfl rfl rfl hDFn
                    replace fo_20 := (hs.a gqp rfl _).2.trans fo_20
                    replace fo_30 := (hs.a gqp rfl _).2.trans fo_30
                    replace hM := hM.tr (hs.mono (by decide))
                    replace gx := gx.S hs
                    replace gqp := gqp.S hs
                    replace gqc := gqc.S hs
                    replace gq_6 := gq_6.S hs
                    replace gq_26 := gq_26.S hs
                    replace gq_61 := gq_61.S hs
                    replace gq_54 := gq_54.S hs
                    replace gq_77 := gq_77.S hs
                    have f_91 : h_90.2.1 x 11 = x_89 := by rw [eh_90]; exact hx_pi_at _ _ _ _
                    have pf_92 : ∀ j : Nat, (j : Int) < (h_90.2.1 x 11).toInt → h_90.2.2 qc j ≠ none := fun j hj => px_83 j (by rw [f_91] at hj; omega)
                    refine lv_aload hx hb dX9_file_186 (lv_at hl 0 rfl) ?_
                    refine hk_geti hx hb hts hC_2 hown hW gq_54 tt_2 0 (by decide) rfl kw_724 ⟨rfl, rfl, rfl⟩ po_66 dX9_file_188 ?_
                    refine W.widen (k := 3) (n := 30) (Nat.le_of_ble_eq_true rfl) (Nat.le_of_ble_eq_true rfl) ?_
                    exact hx_reti hx hb hr hlk hW ⟨⟨x_89, fc_85, fc_86, f_91, nfc_85, nfc_86, ⟨(hx_num_c nu_87 (by omega)), ⟨sb_84, ⟨(Or.inr ⟨by omega, by omega, by unfold hx_FC; exact ⟨by omega, by omega, by omega, by omega, (by show (df i2.toNatClampNeg).toInt = 0; rw [← cx_33]; omega), by omega, by omega, by omega⟩⟩), (Or.inr ⟨by omega, by omega, dfc_85⟩), (Or.inr ⟨by omega, by omega, dfc_86⟩), ⟨_, Or.inr ⟨by omega, rfl⟩, hw_DF_e hDFn rfl (by omega)⟩⟩⟩⟩⟩, hT, hM, pf_92⟩ dX9_file_191
                  · skip
                    refine lv_iconst (v := 1) hx hb dX9_file_141 (by decide) ?_
                    refine lv_goto (tgt := 146) hx hb dX9_file_142 (by decide) ?_
                    have hTo := hT
                    refine hx_iast hx hb hW hT (hx_S.rf (M := [(20, 0)])) gq_77 tt_20 rfl (by decide) rfl (by decide) (List.mem_singleton.mpr rfl) dX9_file_146 (fun H locs h_93 eh_93 hW hT hs => ?_)
                    replace f_x_7 := (hs.o gx trivial rfl).2.trans f_x_7
                    replace f_x_10 := (hs.o gx trivial rfl).2.trans f_x_10
                    replace f_x_5 := (hs.o gx trivial rfl).2.trans f_x_5
                    replace f_x_19 := (hs.o gx trivial rfl).2.trans f_x_19
                    replace f_x_11 := (hs.o gx trivial rfl).1.trans f_x_11
                    replace f_x_8 := (hs.o gx trivial rfl).1.trans f_x_8
                    replace f_x_2 := (hs.o gx trivial rfl).1.trans f_x_2
                    replace fx_33 := (hs.o gq_26 trivial rfl).1.trans fx_33
                    replace po_66 := (hs.o gq_54 trivial rfl).1.trans po_66
                    replace po_67 := (hs.o gq_54 trivial rfl).1.trans po_67
                    replace po_68 := (hs.o gq_54 trivial rfl).1.trans po_68
                    replace po_69 := (hs.o gq_54 trivial rfl).1.trans po_69
                    replace po_70 := (hs.o gq_54 trivial rfl).2.trans po_70
                    replace f_72 := (hs.o gq_54 trivial rfl).1.trans f_72
                    replace f_74 := (hs.o gq_54 trivial rfl).1.trans f_74
                    replace f_76 := (hs.o gq_54 trivial rfl).1.trans f_76
                    replace fq_77 := (hs.o gq_54 trivial rfl).2.trans fq_77
                    replace pf_x_8 : ∀ j : Nat, (j : Int) < (h_93.2.1 x 8).toInt → h_93.2.2 qp j ≠ none := by
                      intro j hj; rw [(hs.o gx trivial rfl).1] at hj; rw [(hs.a gqp rfl j).2]; exact pf_x_8 j hj
                    replace pf_x_11 : ∀ j : Nat, (j : Int) < (h_93.2.1 x 11).toInt → h_93.2.2 qc j ≠ none := by
                      intro j hj; rw [(hs.o gx trivial rfl).1] at hj; rw [(hs.a gqc rfl j).2]; exact pf_x_11 j hj
                    replace pf_x_6 : ∀ j : Nat, (j : Int) < (h_93.2.1 x 6).toInt → h_93.2.2 qa j ≠ none := by
                      intro j hj; rw [(hs.o gx trivial rfl).1] at hj; rw [(hs.a (gqa.S hM) rfl j).2]; exact pf_x_6 j hj
                    replace cl_qp_7 : hx_col 40 h_93 qp 7 = df := (hx_col_S hs hTo gqp tt_44 tt_4 rfl rfl).trans cl_qp_7
                    replace cl_qc_10 : hx_col 100 h_93 qc 10 = ff := (hx_col_S hs hTo gqc tt_45 tt_2 rfl rfl).trans cl_qc_10
                    replace cl_qc_9 : hx_col 100 h_93 qc 9 = tf := (hx_col_S hs hTo gqc tt_45 tt_2 rfl rfl).trans cl_qc_9
                    replace nu_qc : hx_num 100 h_93 qc 0 (cn0.toInt) := hx_num_S hs hTo gqc tt_45 tt_2 rfl rfl nu_qc
                    replace sb_ql_qc : hx_LQ 8 100 h_93 ql qc := hx_LQ_S hs (gql.S hM) gqc rfl rfl sb_ql_qc
                    replace hDF : hw_DF h_93 qc qp 2 agf cn0.toInt := hw_DF_S hs hTo gqc gqp tt_45 tt_2 rfl rfl rfl hDF
                    replace fo_20 := (hs.a gqp rfl _).2.trans fo_20
                    replace fo_30 := (hs.a gqp rfl _).2.trans fo_30
                    replace hM := hM.tr (hs.mono (by decide))
                    replace gx := gx.S hs
                    replace gqp := gqp.S hs
                    replace gqc := gqc.S hs
                    replace gq_6 := gq_6.S hs
                    replace gq_26 := gq_26.S hs
                    replace gq_61 := gq_61.S hs
                    replace gq_54 := gq_54.S hs
                    replace gq_77 := gq_77.S hs
                    refine lv_aload hx hb dX9_file_147 (lv_at hl 0 rfl) ?_
                    refine hk_getr hx hb hts hC_2 hown hW gq_54 tt_2 4 (by decide) rfl kw_738 ⟨rfl, rfl, rfl⟩ fq_77 dX9_file_149 ?_
                    refine lv_iconst (v := 3) hx hb dX9_file_152 (by decide) ?_
                    refine lv_iload hx hb dX9_file_153 (lv_at hl 9 rfl) ?_
                    have hTo := hT
                    refine hx_iast hx hb hW hT (hx_S.rf (M := [(20, 0)])) gq_77 tt_20 rfl (by decide) rfl (i32_r _) (List.mem_singleton.mpr rfl) dX9_file_155 (fun H locs h_94 eh_94 hW hT hs => ?_)
                    replace f_x_7 := (hs.o gx trivial rfl).2.trans f_x_7
                    replace f_x_10 := (hs.o gx trivial rfl).2.trans f_x_10
                    replace f_x_5 := (hs.o gx trivial rfl).2.trans f_x_5
                    replace f_x_19 := (hs.o gx trivial rfl).2.trans f_x_19
                    replace f_x_11 := (hs.o gx trivial rfl).1.trans f_x_11
                    replace f_x_8 := (hs.o gx trivial rfl).1.trans f_x_8
                    replace f_x_2 := (hs.o gx trivial rfl).1.trans f_x_2
                    replace fx_33 := (hs.o gq_26 trivial rfl).1.trans fx_33
                    replace po_66 := (hs.o gq_54 trivial rfl).1.trans po_66
                    replace po_67 := (hs.o gq_54 trivial rfl).1.trans po_67
                    replace po_68 := (hs.o gq_54 trivial rfl).1.trans po_68
                    replace po_69 := (hs.o gq_54 trivial rfl).1.trans po_69
                    replace po_70 := (hs.o gq_54 trivial rfl).2.trans po_70
                    replace f_72 := (hs.o gq_54 trivial rfl).1.trans f_72
                    replace f_74 := (hs.o gq_54 trivial rfl).1.trans f_74
                    replace f_76 := (hs.o gq_54 trivial rfl).1.trans f_76
                    replace fq_77 := (hs.o gq_54 trivial rfl).2.trans fq_77
                    replace pf_x_8 : ∀ j : Nat, (j : Int) < (h_94.2.1 x 8).toInt → h_94.2.2 qp j ≠ none := by
                      intro j hj; rw [(hs.o gx trivial rfl).1] at hj; rw [(hs.a gqp rfl j).2]; exact pf_x_8 j hj
                    replace pf_x_11 : ∀ j : Nat, (j : Int) < (h_94.2.1 x 11).toInt → h_94.2.2 qc j ≠ none := by
                      intro j hj; rw [(hs.o gx trivial rfl).1] at hj; rw [(hs.a gqc rfl j).2]; exact pf_x_11 j hj
                    replace pf_x_6 : ∀ j : Nat, (j : Int) < (h_94.2.1 x 6).toInt → h_94.2.2 qa j ≠ none := by
                      intro j hj; rw [(hs.o gx trivial rfl).1] at hj; rw [(hs.a (gqa.S hM) rfl j).2]; exact pf_x_6 j hj
                    replace cl_qp_7 : hx_col 40 h_94 qp 7 = df := (hx_col_S hs hTo gqp tt_44 tt_4 rfl rfl).trans cl_qp_7
                    replace cl_qc_10 : hx_col 100 h_94 qc 10 = ff := (hx_col_S hs hTo gqc tt_45 tt_2 rfl rfl).trans cl_qc_10
                    replace cl_qc_9 : hx_col 100 h_94 qc 9 = tf := (hx_col_S hs hTo gqc tt_45 tt_2 rfl rfl).trans cl_qc_9
                    replace nu_qc : hx_num 100 h_94 qc 0 (cn0.toInt) := hx_num_S hs hTo gqc tt_45 tt_2 rfl rfl nu_qc
                    replace sb_ql_qc : hx_LQ 8 100 h_94 ql qc := hx_LQ_S hs (gql.S hM) gqc rfl rfl sb_ql_qc
                    replace hDF : hw_DF h_94 qc qp 2 agf cn0.toInt := hw_DF_S hs hTo gqc gqp tt_45 tt_2 rfl rfl rfl hDF
                    replace fo_20 := (hs.a gqp rfl _).2.trans fo_20
                    replace fo_30 := (hs.a gqp rfl _).2.trans fo_30
                    replace hM := hM.tr (hs.mono (by decide))
                    replace gx := gx.S hs
                    replace gqp := gqp.S hs
                    replace gqc := gqc.S hs
                    replace gq_6 := gq_6.S hs
                    replace gq_26 := gq_26.S hs
                    replace gq_61 := gq_61.S hs
                    replace gq_54 := gq_54.S hs
                    replace gq_77 := gq_77.S hs
                    refine lv_aload hx hb dX9_file_156 (lv_at hl 0 rfl) ?_
                    refine hk_getr hx hb hts hC_2 hown hW gq_54 tt_2 4 (by decide) rfl kw_738 ⟨rfl, rfl, rfl⟩ fq_77 dX9_file_158 ?_
                    refine lv_bipush (v := 7) hx hb dX9_file_161 (by decide) ?_
                    refine lv_iload_n hx hb dX9_file_163 rfl (lv_at hl 6 rfl) ?_
                    have hTo := hT
                    refine hx_iast hx hb hW hT (hx_S.rf (M := [(20, 0)])) gq_77 tt_20 rfl (by decide) rfl (i32_r _) (List.mem_singleton.mpr rfl) dX9_file_164 (fun H locs h_95 eh_95 hW hT hs => ?_)
                    replace f_x_7 := (hs.o gx trivial rfl).2.trans f_x_7
                    replace f_x_10 := (hs.o gx trivial rfl).2.trans f_x_10
                    replace f_x_5 := (hs.o gx trivial rfl).2.trans f_x_5
                    replace f_x_19 := (hs.o gx trivial rfl).2.trans f_x_19
                    replace f_x_11 := (hs.o gx trivial rfl).1.trans f_x_11
                    replace f_x_8 := (hs.o gx trivial rfl).1.trans f_x_8
                    replace f_x_2 := (hs.o gx trivial rfl).1.trans f_x_2
                    replace fx_33 := (hs.o gq_26 trivial rfl).1.trans fx_33
                    replace po_66 := (hs.o gq_54 trivial rfl).1.trans po_66
                    replace po_67 := (hs.o gq_54 trivial rfl).1.trans po_67
                    replace po_68 := (hs.o gq_54 trivial rfl).1.trans po_68
                    replace po_69 := (hs.o gq_54 trivial rfl).1.trans po_69
                    replace po_70 := (hs.o gq_54 trivial rfl).2.trans po_70
                    replace f_72 := (hs.o gq_54 trivial rfl).1.trans f_72
                    replace f_74 := (hs.o gq_54 trivial rfl).1.trans f_74
                    replace f_76 := (hs.o gq_54 trivial rfl).1.trans f_76
                    replace fq_77 := (hs.o gq_54 trivial rfl).2.trans fq_77
                    replace pf_x_8 : ∀ j : Nat, (j : Int) < (h_95.2.1 x 8).toInt → h_95.2.2 qp j ≠ none := by
                      intro j hj; rw [(hs.o gx trivial rfl).1] at hj; rw [(hs.a gqp rfl j).2]; exact pf_x_8 j hj
                    replace pf_x_11 : ∀ j : Nat, (j : Int) < (h_95.2.1 x 11).toInt → h_95.2.2 qc j ≠ none := by
                      intro j hj; rw [(hs.o gx trivial rfl).1] at hj; rw [(hs.a gqc rfl j).2]; exact pf_x_11 j hj
                    replace pf_x_6 : ∀ j : Nat, (j : Int) < (h_95.2.1 x 6).toInt → h_95.2.2 qa j ≠ none := by
                      intro j hj; rw [(hs.o gx trivial rfl).1] at hj; rw [(hs.a (gqa.S hM) rfl j).2]; exact pf_x_6 j hj
                    replace cl_qp_7 : hx_col 40 h_95 qp 7 = df := (hx_col_S hs hTo gqp tt_44 tt_4 rfl rfl).trans cl_qp_7
                    replace cl_qc_10 : hx_col 100 h_95 qc 10 = ff := (hx_col_S hs hTo gqc tt_45 tt_2 rfl rfl).trans cl_qc_10
                    replace cl_qc_9 : hx_col 100 h_95 qc 9 = tf := (hx_col_S hs hTo gqc tt_45 tt_2 rfl rfl).trans cl_qc_9
                    replace nu_qc : hx_num 100 h_95 qc 0 (cn0.toInt) := hx_num_S hs hTo gqc tt_45 tt_2 rfl rfl nu_qc
                    replace sb_ql_qc : hx_LQ 8 100 h_95 ql qc := hx_LQ_S hs (gql.S hM) gqc rfl rfl sb_ql_qc
                    replace hDF : hw_DF h_95 qc qp 2 agf cn0.toInt := hw_DF_S hs hTo gqc gqp tt_45 tt_2 rfl rfl rfl hDF
                    replace fo_20 := (hs.a gqp rfl _).2.trans fo_20
                    replace fo_30 := (hs.a gqp rfl _).2.trans fo_30
                    replace hM := hM.tr (hs.mono (by decide))
                    replace gx := gx.S hs
                    replace gqp := gqp.S hs
                    replace gqc := gqc.S hs
                    replace gq_6 := gq_6.S hs
                    replace gq_26 := gq_26.S hs
                    replace gq_61 := gq_61.S hs
                    replace gq_54 := gq_54.S hs
                    replace gq_77 := gq_77.S hs
                    refine lv_aload_n hx hb dX9_file_165 rfl (lv_at hl 3 rfl) ?_
                    refine hk_getr hx hb hts hC_9 hown hW gx tt_9 10 (by decide) rfl kw_374 ⟨rfl, rfl, rfl⟩ f_x_10 dX9_file_166 ?_
                    refine lv_aload_n hx hb dX9_file_169 rfl (lv_at hl 3 rfl) ?_
                    refine hk_geti hx hb hts hC_9 hown hW gx tt_9 11 (by decide) rfl kw_375 ⟨rfl, rfl, rfl⟩ f_x_11 dX9_file_170 ?_
                    refine lv_aload hx hb dX9_file_173 (lv_at hl 0 rfl) ?_
                    have hDFO9 := hDF
                    have hTO9 := hT
                    have gqcO9 := gqc
                    have gqpO8 := gqp
                    have gqNO9 := gq_54
                    have fdO9 := po_70
                    have foO9 := fo_30
                    have hTo := hT
                    have cl_qc_10O := cl_qc_10
                    have po_67O := po_67
                    have cl_qc_9O := cl_qc_9
                    have po_69O := po_69
                    have nu_qcO := nu_qc
                    have po_66O := po_66
                    have sb_ql_qcO := sb_ql_qc
                    have gsO_ql := (gql.S hM)
                    have pf_x_11O := pf_x_11
                    refine hx_aast hx hb hW hT (hx_S.rf (M := [(45, 0)])) gqc tt_45 rfl gq_54 tt_2 rfl (by decide) ⟨by omega, by omega⟩ (List.mem_singleton.mpr rfl) dX9_file_175 (fun H locs h_96 eh_96 hW hT hs => ?_)
                    replace f_x_7 := (hs.o gx trivial rfl).2.trans f_x_7
                    replace f_x_10 := (hs.o gx trivial rfl).2.trans f_x_10
                    replace f_x_5 := (hs.o gx trivial rfl).2.trans f_x_5
                    replace f_x_19 := (hs.o gx trivial rfl).2.trans f_x_19
                    replace f_x_11 := (hs.o gx trivial rfl).1.trans f_x_11
                    replace f_x_8 := (hs.o gx trivial rfl).1.trans f_x_8
                    replace f_x_2 := (hs.o gx trivial rfl).1.trans f_x_2
                    replace fx_33 := (hs.o gq_26 trivial rfl).1.trans fx_33
                    replace po_66 := (hs.o gq_54 trivial rfl).1.trans po_66
                    replace po_67 := (hs.o gq_54 trivial rfl).1.trans po_67
                    replace po_68 := (hs.o gq_54 trivial rfl).1.trans po_68
                    replace po_69 := (hs.o gq_54 trivial rfl).1.trans po_69
                    replace po_70 := (hs.o gq_54 trivial rfl).2.trans po_70
                    replace f_72 := (hs.o gq_54 trivial rfl).1.trans f_72
                    replace f_74 := (hs.o gq_54 trivial rfl).1.trans f_74
                    replace f_76 := (hs.o gq_54 trivial rfl).1.trans f_76
                    replace fq_77 := (hs.o gq_54 trivial rfl).2.trans fq_77
                    replace pf_x_8 : ∀ j : Nat, (j : Int) < (h_96.2.1 x 8).toInt → h_96.2.2 qp j ≠ none := by
                      intro j hj; rw [(hs.o gx trivial rfl).1] at hj; rw [(hs.a gqp rfl j).2]; exact pf_x_8 j hj
                    replace pf_x_6 : ∀ j : Nat, (j : Int) < (h_96.2.1 x 6).toInt → h_96.2.2 qa j ≠ none := by
                      intro j hj; rw [(hs.o gx trivial rfl).1] at hj; rw [(hs.a (gqa.S hM) rfl j).2]; exact pf_x_6 j hj
                    replace cl_qp_7 : hx_col 40 h_96 qp 7 = df := (hx_col_S hs hTo gqp tt_44 tt_4 rfl rfl).trans cl_qp_7
                    replace fo_20 := (hs.a gqp rfl _).2.trans fo_20
                    replace fo_30 := (hs.a gqp rfl _).2.trans fo_30
                    replace hM := hM.tr (hs.mono (by decide))
                    replace gx := gx.S hs
                    replace gqp := gqp.S hs
                    replace gqc := gqc.S hs
                    replace gq_6 := gq_6.S hs
                    replace gq_26 := gq_26.S hs
                    replace gq_61 := gq_61.S hs
                    replace gq_54 := gq_54.S hs
                    replace gq_77 := gq_77.S hs
                    have pf_x_11 : ∀ j : Nat, (j : Int) < (h_96.2.1 x 11).toInt → h_96.2.2 qc j ≠ none := hx_pfk pf_x_11O eh_96
                    have px_97 : ∀ j : Nat, (j : Int) < cn0.toInt + 1 → h_96.2.2 qc j ≠ none := hx_pfx pf_x_11O (by first | exact f_x_11 | exact ((hs.o gx trivial rfl).1.symm.trans f_x_11)) (by omega) eh_96
                    have sb_98 : hx_LQ 8 100 h_96 ql qc := hx_LQ_pr2 sb_ql_qcO nu_qcO eh_96 (by omega) (by omega) (gqc.ne (gql.S hM) (by decide))
                    obtain ⟨fc_99, dfc_99⟩ : ∃ g : Nat → Int32, g = hx_up ff cn0.toNatClampNeg (-1 : Int32) := ⟨_, rfl⟩
                    have nfc_99 : hx_col 100 h_96 qc 10 = fc_99 := by rw [dfc_99]; exact (hx_col_pr eh_96 (by unfold Int32.toNatClampNeg; omega)).trans (by rw [cl_qc_10O, po_67O])
                    obtain ⟨fc_100, dfc_100⟩ : ∃ g : Nat → Int32, g = hx_up tf cn0.toNatClampNeg (0 : Int32) := ⟨_, rfl⟩
                    have nfc_100 : hx_col 100 h_96 qc 9 = fc_100 := by rw [dfc_100]; exact (hx_col_pr eh_96 (by unfold Int32.toNatClampNeg; omega)).trans (by rw [cl_qc_9O, po_69O])
                    have nu_101 : hx_num 100 h_96 qc 0 (cn0.toInt + 1) := hx_num_pr nu_qcO eh_96 (by omega) (by omega) (by rw [po_66O])
                    have hDFn : hw_DF h_96 qc qp 2 (hx_up agf cn0.toInt.toNat i2) (cn0.toInt + 1) := hw_DF_c hDFO9 hTO9 gqcO9 gqpO8 gqNO9 tt_45 (by decide) (by decide) eh_96 (by omega) (by omega) fdO9 foO9 (by omega) (by omega) rfl
                    refine lv_aload_n hx hb dX9_file_176 rfl (lv_at hl 3 rfl) ?_
                    refine lv_dup hx hb dX9_file_177 rfl ?_
                    refine hk_geti hx hb hts hC_9 hown hW gx tt_9 11 (by decide) rfl kw_375 ⟨rfl, rfl, rfl⟩ f_x_11 dX9_file_178 ?_
                    refine lv_iconst (v := 1) hx hb dX9_file_181 (by decide) ?_
                    refine lv_iadd hx hb dX9_file_182 ?_
                    have rg_102 := i32_r cn0
                    refine lv_topi (fun x_103 ex_103 => ?_)
                    have zx_103 : x_103.toInt = cn0.toInt + 1 := by rw [ex_103]; exact i32_add rfl (by decide) (by omega) (by omega)
                    have hTo := hT
                    refine hx_puti hx hb hts hC_9 hown hW hT (hx_S.rf (M := [(9, 11)])) gx tt_9 11 (by decide) rfl kw_375 ⟨rfl, rfl, rfl⟩ rfl (x := x_103) ⟨by omega, by omega⟩ rfl rfl rfl (List.mem_singleton.mpr rfl) dX9_file_183 (fun H locs h_104 eh_104 hW hT hs => ?_)
                    replace px_97 : ∀ j : Nat, (j : Int) < cn0.toInt + 1 → h_104.2.2 qc j ≠ none := fun j hj => by rw [(hs.a gqc rfl j).2]; exact px_97 j hj
                    replace f_x_7 := (hs.o gx trivial rfl).2.trans f_x_7
                    replace f_x_10 := (hs.o gx trivial rfl).2.trans f_x_10
                    replace f_x_5 := (hs.o gx trivial rfl).2.trans f_x_5
                    replace f_x_19 := (hs.o gx trivial rfl).2.trans f_x_19
                    replace f_x_8 := (hs.o gx trivial rfl).1.trans f_x_8
                    replace f_x_2 := (hs.o gx trivial rfl).1.trans f_x_2
                    replace fx_33 := (hs.o gq_26 trivial rfl).1.trans fx_33
                    replace po_66 := (hs.o gq_54 trivial rfl).1.trans po_66
                    replace po_67 := (hs.o gq_54 trivial rfl).1.trans po_67
                    replace po_68 := (hs.o gq_54 trivial rfl).1.trans po_68
                    replace po_69 := (hs.o gq_54 trivial rfl).1.trans po_69
                    replace po_70 := (hs.o gq_54 trivial rfl).2.trans po_70
                    replace f_72 := (hs.o gq_54 trivial rfl).1.trans f_72
                    replace f_74 := (hs.o gq_54 trivial rfl).1.trans f_74
                    replace f_76 := (hs.o gq_54 trivial rfl).1.trans f_76
                    replace fq_77 := (hs.o gq_54 trivial rfl).2.trans fq_77
                    replace pf_x_8 : ∀ j : Nat, (j : Int) < (h_104.2.1 x 8).toInt → h_104.2.2 qp j ≠ none := by
                      intro j hj; rw [(hs.o gx trivial rfl).1] at hj; rw [(hs.a gqp rfl j).2]; exact pf_x_8 j hj
                    replace pf_x_6 : ∀ j : Nat, (j : Int) < (h_104.2.1 x 6).toInt → h_104.2.2 qa j ≠ none := by
                      intro j hj; rw [(hs.o gx trivial rfl).1] at hj; rw [(hs.a (gqa.S hM) rfl j).2]; exact pf_x_6 j hj
                    replace cl_qp_7 : hx_col 40 h_104 qp 7 = df := (hx_col_S hs hTo gqp tt_44 tt_4 rfl rfl).trans cl_qp_7
                    replace nfc_99 : hx_col 100 h_104 qc 10 = fc_99 := (hx_col_S hs hTo gqc tt_45 tt_2 rfl rfl).trans nfc_99
                    replace nfc_100 : hx_col 100 h_104 qc 9 = fc_100 := (hx_col_S hs hTo gqc tt_45 tt_2 rfl rfl).trans nfc_100
                    replace nu_101 : hx_num 100 h_104 qc 0 (cn0.toInt + 1) := hx_num_S hs hTo gqc tt_45 tt_2 rfl rfl nu_101
                    replace sb_98 : hx_LQ 8 100 h_104 ql qc := hx_LQ_S hs (gql.S hM) gqc rfl rfl sb_98
                    replace hDFn : hw_DF h_104 qc qp 2 (hx_up agf cn0.toInt.toNat i2) (cn0.toInt + 1) := hw_DF_S hs hTo gqc gqp tt_45 tt_2 rfl rfl rfl hDFn
                    replace fo_20 := (hs.a gqp rfl _).2.trans fo_20
                    replace fo_30 := (hs.a gqp rfl _).2.trans fo_30
                    replace hM := hM.tr (hs.mono (by decide))
                    replace gx := gx.S hs
                    replace gqp := gqp.S hs
                    replace gqc := gqc.S hs
                    replace gq_6 := gq_6.S hs
                    replace gq_26 := gq_26.S hs
                    replace gq_61 := gq_61.S hs
                    replace gq_54 := gq_54.S hs
                    replace gq_77 := gq_77.S hs
                    have f_105 : h_104.2.1 x 11 = x_103 := by rw [eh_104]; exact hx_pi_at _ _ _ _
                    have pf_106 : ∀ j : Nat, (j : Int) < (h_104.2.1 x 11).toInt → h_104.2.2 qc j ≠ none := fun j hj => px_97 j (by rw [f_105] at hj; omega)
                    refine lv_aload hx hb dX9_file_186 (lv_at hl 0 rfl) ?_
                    refine hk_geti hx hb hts hC_2 hown hW gq_54 tt_2 0 (by decide) rfl kw_724 ⟨rfl, rfl, rfl⟩ po_66 dX9_file_188 ?_
                    refine W.widen (k := 3) (n := 30) (Nat.le_of_ble_eq_true rfl) (Nat.le_of_ble_eq_true rfl) ?_
                    exact hx_reti hx hb hr hlk hW ⟨⟨x_103, fc_99, fc_100, f_105, nfc_99, nfc_100, ⟨(hx_num_c nu_101 (by omega)), ⟨sb_98, ⟨(Or.inr ⟨by omega, by omega, by unfold hx_FC; exact ⟨by omega, by omega, by omega, by omega, (by show (df i2.toNatClampNeg).toInt = 0; rw [← cx_33]; omega), by omega, by omega, by omega⟩⟩), (Or.inr ⟨by omega, by omega, dfc_99⟩), (Or.inr ⟨by omega, by omega, dfc_100⟩), ⟨_, Or.inr ⟨by omega, rfl⟩, hw_DF_e hDFn rfl (by omega)⟩⟩⟩⟩⟩, hT, hM, pf_106⟩ dX9_file_191
                · skip
                  replace hr_51 := hr_51.resolve_right (fun z9 => absurd (c_52.symm.trans z9.1) (by decide))
                  replace hr_51 := hr_51.2
                  refine lv_iconst (v := -1) hx hb dX9_file_81 (by decide) ?_
                  refine W.widen (k := 3) (n := 30) (Nat.le_of_ble_eq_true rfl) (Nat.le_of_ble_eq_true rfl) ?_
                  exact hx_reti hx hb hr hlk hW ⟨⟨cn0, ff, tf, f_x_11, cl_qc_10, cl_qc_9, ⟨(hx_num_c nu_qc (by omega)), ⟨sb_ql_qc, ⟨(Or.inl ⟨by decide, by omega, fun hc => by unfold hx_FC at hc; have h1 : (df i2.toNatClampNeg).toInt = 0 := hc.2.2.2.2.1; rw [← cx_33] at h1; omega⟩), (Or.inl ⟨by decide, rfl⟩), (Or.inl ⟨by decide, rfl⟩), ⟨agf, Or.inl ⟨by decide, rfl⟩, hw_DF_e hDF rfl (by omega)⟩⟩⟩⟩⟩, hT, hM, pf_x_11⟩ dX9_file_82


set_option maxHeartbeats 4000000 in
set_option maxRecDepth 100000 in
theorem t_X9_summons_2 (l : Launch) (dC : Nat → ClassId) (dI : Nat → Nat → Nat) (dA : Nat → ClassId) (L : List Nat) (h : hx_h) (sz : Nat) (x : Nat) (i1 : Int32) (i2 : Int32) (hT : hx_T T_tb L h) (gx : hx_g L h x 9) (cn0 : Int32) (f_x_11 : h.2.1 x 11 = cn0) (nw0 : Int32) (f_x_2 : h.2.1 x 2 = nw0) (qc : Nat) (gqc : hx_g L h qc 45) (f_x_10 : h.2.2 x 10 = some qc) (pf_x_11 : ∀ j : Nat, (j : Int) < (h.2.1 x 11).toInt → h.2.2 qc j ≠ none) (ff : Nat → Int32) (cl_qc_10 : hx_col 100 h qc 10 = ff) (tf : Nat → Int32) (cl_qc_9 : hx_col 100 h qc 9 = tf) (nu_qc : hx_num 100 h qc 0 (cn0.toInt)) : Met l yX9_summons (Cond.code yX9_summons cX9_summons 4 (some .int) :: hx_all) ({ frames := 1, cells := 0, slots := 0, locals := 21 }) (va_Pc [.ref x, .int i1, .int i2] (hx_B T_tb (P_ty dA) (dC, dI) vwCl L h sz)) (va_Qi (fun (r : Int32) (u : List Nat × hx_h) => (∃ (ff1 : Nat → Int32) (tf1 : Nat → Int32), hx_col 100 u.2 qc 10 = ff1 ∧ hx_col 100 u.2 qc 9 = tf1 ∧ (hx_SS cn0.toInt i1.toInt i2 nw0 r ff ff1 tf tf1)) ∧ hx_T T_tb u.1 u.2 ∧ hx_S T_tb [(2, 9), (2, 10)] L h u.1 u.2) (hx_E T_tb (P_ty dA) (dC, dI) vwCl (hx_A L sz)) (hx_A L sz)) 0 0 (hx_A L sz) := by
  refine hx_met (lv := [(0, .ref x), (1, .int i1), (2, .int i2)]) (by decide +kernel) rfl (Nat.le_of_ble_eq_true rfl) rfl ?_
  intro p e s m below meth c hx hb hml hr hlk hts0 hown hin hsz hW ls hl
  have hts : ∀ w ∈ hx_all, w.before _ s = true := fun w hw => hts0 w (List.mem_cons_of_mem _ hw)
  have hown : s.vm.findClass "SmallCourt" = some m.cls := hown
  have hM : hx_S T_tb [(2, 9), (2, 10)] L h L h := hx_S.rf
  have b_cn0 := hT.gi gx tt_9 (k := 11) rfl
  rw [f_x_11] at b_cn0
  have b_cn0 : 0 ≤ cn0.toInt ∧ cn0.toInt ≤ 100 := b_cn0
  have b_nw0 := hT.gi gx tt_9 (k := 2) rfl
  rw [f_x_2] at b_nw0
  have b_nw0 : 0 ≤ nw0.toInt ∧ nw0.toInt ≤ 7999 := b_nw0
  refine lv_aload_n hx hb dX9_summons_0 rfl (lv_at hl 0 rfl) ?_
  refine lv_iload_n hx hb dX9_summons_1 rfl (lv_at hl 1 rfl) ?_
  have hTo := hT
  refine hx_goq (hx_runV (As := [.int i1]) (rest := []) ⟨hx, hb, hml, hown, hts⟩ hW (gx.S hM) tt_9 (T := TX9) (N := 20) rfl (t_X9_claimAt_2 l dC dI dA L h s.heap.size x i1 hT (gx.S hM) cn0 ((hM.o gx trivial rfl).1.trans f_x_11) qc (gqc.S hM) ((hM.o gx trivial rfl).2.trans f_x_10) pf_x_11) (cwV 1 hts (hx_gV kw_810 kw_807 kw_809 kw_25 kw_94) rfl rfl rfl (by decide +kernel) ⟨Nat.le_of_ble_eq_true rfl, Nat.le_of_ble_eq_true rfl⟩) rfl hl.1 rfl (Nat.le_of_ble_eq_true rfl) dX9_summons_2 ⟨Nat.le_of_ble_eq_true rfl, Nat.le_of_ble_eq_true rfl⟩) hW (fun r_3 L_1 h_2 H locs p_4 hW => ?_)
  obtain ⟨hr_5, hT, hs⟩ := p_4
  replace hT : hx_T T_tb L_1 h_2 := hT
  replace hs : hx_S T_tb [] L h L_1 h_2 := hs
  replace pf_x_11 : ∀ j : Nat, (j : Int) < (h_2.2.1 x 11).toInt → h_2.2.2 qc j ≠ none := by
    intro j hj; rw [(hs.o (gx.S hM) trivial rfl).1] at hj; rw [(hs.a (gqc.S hM) rfl j).2]; exact pf_x_11 j hj
  replace cl_qc_10 : hx_col 100 h_2 qc 10 = ff := (hx_col_S hs hTo (gqc.S hM) tt_45 tt_2 rfl rfl).trans cl_qc_10
  replace cl_qc_9 : hx_col 100 h_2 qc 9 = tf := (hx_col_S hs hTo (gqc.S hM) tt_45 tt_2 rfl rfl).trans cl_qc_9
  replace nu_qc : hx_num 100 h_2 qc 0 (cn0.toInt) := hx_num_S hs hTo (gqc.S hM) tt_45 tt_2 rfl rfl nu_qc
  replace hM := hM.tr (hs.mono (by decide))
  obtain ⟨hr_5, hr_5B⟩ := hr_5
  have hr_5 : ∀ q, r_3 = some q → hx_g L_1 h_2 q 2 := hr_5
  rcases r_3 with _ | q_6
  · skip
    have k_7 : i1.toInt < 0 ∨ cn0.toInt ≤ i1.toInt := by
      rcases hr_5B with ⟨_, z⟩ | ⟨_, _, q, z, _⟩
      · exact z
      · cases z
    refine lv_astore_nN (lv' := [(3, .null), (0, .ref x), (1, .int i1), (2, .int i2)]) hx hb dX9_summons_5 rfl hl (by decide) rfl (fun ls hl => ?_)
    refine lv_aload_nN hx hb dX9_summons_6 rfl (lv_at hl 0 rfl) ?_
    refine lv_ifnullN (tgt := 18) hx hb dX9_summons_7 (by decide) ?_
    refine lv_iconst (v := -1) hx hb dX9_summons_18 (by decide) ?_
    exact hx_reti hx hb hr hlk hW ⟨⟨ff, tf, cl_qc_10, cl_qc_9, (Or.inl ⟨rfl, rfl, rfl, fun hc => by have := hc.1; have := hc.2.1; omega⟩)⟩, hT, hM⟩ dX9_summons_19
  · have gq_6 := hr_5 _ rfl
    have k_8 : 0 ≤ i1.toInt ∧ i1.toInt < cn0.toInt ∧ h_2.2.2 qc i1.toNatClampNeg = some q_6 := by
      rcases hr_5B with ⟨z, _⟩ | ⟨z1, z2, q, z3, z4⟩
      · cases z
      · cases z3; exact ⟨z1, z2, z4⟩
    have fo_9 := k_8.2.2
    have k_8 : 0 ≤ i1.toInt ∧ i1.toInt < cn0.toInt := ⟨k_8.1, k_8.2.1⟩
    refine lv_astore_n (lv' := [(3, .ref q_6), (0, .ref x), (1, .int i1), (2, .int i2)]) hx hb dX9_summons_5 rfl hl (by decide) rfl (fun ls hl => ?_)
    refine lv_aload_n hx hb dX9_summons_6 rfl (lv_at hl 0 rfl) ?_
    refine lv_ifnull hx hb dX9_summons_7 ?_
    refine lv_aload_n hx hb dX9_summons_10 rfl (lv_at hl 0 rfl) ?_
    refine hx_geti hx hb hts hC_2 hown hW hT gq_6 tt_2 10 (by decide) rfl kw_747 ⟨rfl, rfl, rfl⟩ dX9_summons_11 (fun x_10 ex_10 lx_10 ux_10 => ?_)
    have fx_10 := ex_10.symm
    have cx_10 : x_10 = ff i1.toNatClampNeg := by rw [ex_10, ← cl_qc_10]; exact (hx_col_at fo_9 (by unfold Int32.toNatClampNeg; omega)).symm
    refine lv_iconst (v := -1) hx hb dX9_summons_14 (by decide) ?_
    refine hb_icmp_eq (zx := x_10.toInt) (zy := (-1)) (tgt := 20) hx hb rfl (by decide) dX9_summons_15 (by decide) (fun c_11 => ?_) (fun c_11 => ?_)
    · skip
      refine lv_aload_n hx hb dX9_summons_20 rfl (lv_at hl 0 rfl) ?_
      refine lv_dup hx hb dX9_summons_21 rfl ?_
      refine hx_geti hx hb hts hC_2 hown hW hT gq_6 tt_2 9 (by decide) rfl kw_745 ⟨rfl, rfl, rfl⟩ dX9_summons_22 (fun x_12 ex_12 lx_12 ux_12 => ?_)
      have fx_12 := ex_12.symm
      have cx_12 : x_12 = tf i1.toNatClampNeg := by rw [ex_12, ← cl_qc_9]; exact (hx_col_at fo_9 (by unfold Int32.toNatClampNeg; omega)).symm
      refine lv_iconst (v := 1) hx hb dX9_summons_25 (by decide) ?_
      refine lv_iadd hx hb dX9_summons_26 ?_
      have rg_13 := i32_r x_12
      refine lv_topi (fun x_14 ex_14 => ?_)
      have hTo := hT
      have cl_qc_9O := cl_qc_9
      have nu_qcO := nu_qc
      have fo_9O := fo_9
      refine hx_puti hx hb hts hC_2 hown hW hT (hx_S.rf (M := [(2, 9)])) gq_6 tt_2 9 (by decide) rfl kw_745 ⟨rfl, rfl, rfl⟩ rfl (x := x_14) (i32_r _) rfl rfl rfl (List.mem_singleton.mpr rfl) dX9_summons_27 (fun H locs h_15 eh_15 hW hT hs => ?_)
      replace fx_10 := (hs.o gq_6 trivial rfl).1.trans fx_10
      replace pf_x_11 : ∀ j : Nat, (j : Int) < (h_15.2.1 x 11).toInt → h_15.2.2 qc j ≠ none := by
        intro j hj; rw [(hs.o (gx.S hM) trivial rfl).1] at hj; rw [(hs.a (gqc.S hM) rfl j).2]; exact pf_x_11 j hj
      replace cl_qc_10 : hx_col 100 h_15 qc 10 = ff := (hx_col_S hs hTo (gqc.S hM) tt_45 tt_2 rfl rfl).trans cl_qc_10
      replace nu_qc : hx_num 100 h_15 qc 0 (cn0.toInt) := hx_num_S hs hTo (gqc.S hM) tt_45 tt_2 rfl rfl nu_qc
      replace fo_9 := (hs.a (gqc.S hM) rfl _).2.trans fo_9
      replace hM := hM.tr (hs.mono (by decide))
      replace gq_6 := gq_6.S hs
      have f_16 : h_15.2.1 q_6 9 = x_14 := by rw [eh_15]; exact hx_pi_at _ _ _ _
      obtain ⟨fc_17, dfc_17⟩ : ∃ g : Nat → Int32, g = hx_up tf i1.toNatClampNeg x_14 := ⟨_, rfl⟩
      have nfc_17 : hx_col 100 h_15 qc 9 = fc_17 := by rw [dfc_17, ← cl_qc_9O]; exact hx_col_pi nu_qcO fo_9O (by unfold Int32.toNatClampNeg; omega) eh_15
      refine lv_iload_n hx hb dX9_summons_30 rfl (lv_at hl 3 rfl) ?_
      refine hb_if_eq (zx := i2.toInt) (tgt := 42) hx hb rfl dX9_summons_31 (by decide) (fun c_18 => ?_) (fun c_18 => ?_)
      · skip
        refine lv_aload_n hx hb dX9_summons_42 rfl (lv_at hl 0 rfl) ?_
        refine hk_geti hx hb hts hC_2 hown hW gq_6 tt_2 9 (by decide) rfl kw_745 ⟨rfl, rfl, rfl⟩ f_16 dX9_summons_43 ?_
        exact hx_reti hx hb hr hlk hW ⟨⟨ff, fc_17, cl_qc_10, nfc_17, (Or.inr ⟨⟨by omega, by omega, (by show (ff i1.toNatClampNeg).toInt = -1; rw [← cx_10]; omega)⟩, (by rw [ex_14, cx_12]; rfl), (by rw [dfc_17, ex_14, cx_12]; rfl), (Or.inl ⟨by omega, rfl⟩)⟩)⟩, hT, hM⟩ dX9_summons_46
      · skip
        refine lv_aload_n hx hb dX9_summons_34 rfl (lv_at hl 0 rfl) ?_
        refine lv_aload_n hx hb dX9_summons_35 rfl (lv_at hl 1 rfl) ?_
        refine hk_geti hx hb hts hC_9 hown hW (gx.S hM) tt_9 2 (by decide) rfl kw_366 ⟨rfl, rfl, rfl⟩ ((hM.o gx trivial rfl).1.trans f_x_2) dX9_summons_36 ?_
        have hTo := hT
        have cl_qc_10O := cl_qc_10
        have nu_qcO := nu_qc
        have fo_9O := fo_9
        refine hx_puti hx hb hts hC_2 hown hW hT (hx_S.rf (M := [(2, 10)])) gq_6 tt_2 10 (by decide) rfl kw_747 ⟨rfl, rfl, rfl⟩ rfl (x := nw0) (i32_r _) rfl rfl rfl (List.mem_singleton.mpr rfl) dX9_summons_39 (fun H locs h_19 eh_19 hW hT hs => ?_)
        replace f_16 := (hs.o gq_6 trivial rfl).1.trans f_16
        replace pf_x_11 : ∀ j : Nat, (j : Int) < (h_19.2.1 x 11).toInt → h_19.2.2 qc j ≠ none := by
          intro j hj; rw [(hs.o (gx.S hM) trivial rfl).1] at hj; rw [(hs.a (gqc.S hM) rfl j).2]; exact pf_x_11 j hj
        replace nfc_17 : hx_col 100 h_19 qc 9 = fc_17 := (hx_col_S hs hTo (gqc.S hM) tt_45 tt_2 rfl rfl).trans nfc_17
        replace nu_qc : hx_num 100 h_19 qc 0 (cn0.toInt) := hx_num_S hs hTo (gqc.S hM) tt_45 tt_2 rfl rfl nu_qc
        replace fo_9 := (hs.a (gqc.S hM) rfl _).2.trans fo_9
        replace hM := hM.tr (hs.mono (by decide))
        replace gq_6 := gq_6.S hs
        have f_20 : h_19.2.1 q_6 10 = nw0 := by rw [eh_19]; exact hx_pi_at _ _ _ _
        obtain ⟨fc_21, dfc_21⟩ : ∃ g : Nat → Int32, g = hx_up ff i1.toNatClampNeg nw0 := ⟨_, rfl⟩
        have nfc_21 : hx_col 100 h_19 qc 10 = fc_21 := by rw [dfc_21, ← cl_qc_10O]; exact hx_col_pi nu_qcO fo_9O (by unfold Int32.toNatClampNeg; omega) eh_19
        refine lv_aload_n hx hb dX9_summons_42 rfl (lv_at hl 0 rfl) ?_
        refine hk_geti hx hb hts hC_2 hown hW gq_6 tt_2 9 (by decide) rfl kw_745 ⟨rfl, rfl, rfl⟩ f_16 dX9_summons_43 ?_
        exact hx_reti hx hb hr hlk hW ⟨⟨fc_21, fc_17, nfc_21, nfc_17, (Or.inr ⟨⟨by omega, by omega, (by show (ff i1.toNatClampNeg).toInt = -1; rw [← cx_10]; omega)⟩, (by rw [ex_14, cx_12]; rfl), (by rw [dfc_17, ex_14, cx_12]; rfl), (Or.inr ⟨by omega, dfc_21⟩)⟩)⟩, hT, hM⟩ dX9_summons_46
    · skip
      refine lv_iconst (v := -1) hx hb dX9_summons_18 (by decide) ?_
      exact hx_reti hx hb hr hlk hW ⟨⟨ff, tf, cl_qc_10, cl_qc_9, (Or.inl ⟨rfl, rfl, rfl, fun hc => by have h1 : (ff i1.toNatClampNeg).toInt = -1 := hc.2.2; rw [← cx_10] at h1; omega⟩)⟩, hT, hM⟩ dX9_summons_19


set_option maxHeartbeats 4000000 in
set_option maxRecDepth 100000 in
theorem t_X8_isListed_2 (l : Launch) (dC : Nat → ClassId) (dI : Nat → Nat → Nat) (dA : Nat → ClassId) (L : List Nat) (h : hx_h) (sz : Nat) (x : Nat) (v1 : Nat) (hT : hx_T T_tb L h) (gx : hx_g L h x 8) (gv1 : hx_g L h v1 2) (ql : Nat) (gql : hx_g L h ql 40) (f_x_3 : h.2.2 x 3 = some ql)  (cn : Int32) (f_x_0 : h.2.1 x 0 = cn) (vn : Int32) (f_v1_0 : h.2.1 v1 0 = vn) (lf : Nat → Int32) (cl_ql_0 : hx_col 8 h ql 0 = lf) (hU : ∀ k p : Nat, k < 8 → h.2.2 ql k = some p → lf k = vn → p = v1) (pf_x_0 : ∀ j : Nat, (j : Int) < (h.2.1 x 0).toInt → h.2.2 ql j ≠ none) : Met l yX8_isListed (Cond.code yX8_isListed cX8_isListed 3 (some .boolean) :: hx_all) ({ frames := 0, cells := 0, slots := 0, locals := 0 }) (va_Pc [.ref x, .ref v1] (hx_B T_tb (P_ty dA) (dC, dI) vwCl L h sz)) (va_Qi (fun (r : Int32) (u : List Nat × hx_h) => ((r.toInt = 1 ∧ hx_isin lf cn.toInt vn) ∨ (r.toInt = 0 ∧ ¬ hx_isin lf cn.toInt vn)) ∧ hx_T T_tb u.1 u.2 ∧ hx_S T_tb [] L h u.1 u.2) (hx_E T_tb (P_ty dA) (dC, dI) vwCl (hx_A L sz)) (hx_A L sz)) 0 0 (hx_A L sz) := by
  refine hx_met (lv := [(0, .ref x), (1, .ref v1)]) (by decide +kernel) rfl (Nat.le_of_ble_eq_true rfl) rfl ?_
  intro p e s m below meth c hx hb hml hr hlk hts0 hown hin hsz hW ls hl
  have hts : ∀ w ∈ hx_all, w.before _ s = true := fun w hw => hts0 w (List.mem_cons_of_mem _ hw)
  have hown : s.vm.findClass "SmallCourt$Walk" = some m.cls := hown
  have hM : hx_S T_tb [] L h L h := hx_S.rf
  have b_cn := hT.gi gx tt_8 (k := 0) rfl
  rw [f_x_0] at b_cn
  have b_cn : 0 ≤ cn.toInt ∧ cn.toInt ≤ 8 := b_cn
  have b_vn := hT.gi gv1 tt_2 (k := 0) rfl
  rw [f_v1_0] at b_vn
  have b_vn : 0 ≤ vn.toInt ∧ vn.toInt ≤ 99 := b_vn
  have gqlO := gql
  have clO := cl_ql_0
  have fvO := f_v1_0
  refine lv_iconst (v := 0) hx hb dX8_isListed_0 (by decide) ?_
  refine lv_istore_n (lv' := [(2, .int (0 : Int32)), (0, .ref x), (1, .ref v1)]) hx hb dX8_isListed_1 rfl hl (by decide) rfl (fun ls hl => ?_)
  have loop2 : ∀ (n2 : Nat) (iv2_2 : Int32) (H : Heap) (locs : List Loc) (hL1 : List Nat) (hl1 : hx_h), 0 ≤ iv2_2.toInt → iv2_2.toInt ≤ 8 → (∀ k : Nat, (k : Int) < iv2_2.toInt → lf k ≠ vn) → ∀ (ls : Array Slot), 8 - iv2_2.toInt < (n2 : Int) → hx_W T_tb (P_ty dA) (dC, dI) vwCl (hx_A L sz) s.heap hL1 hl1 s H locs → hx_T T_tb hL1 hl1 → hx_S T_tb [] L h hL1 hl1 → (∀ j : Nat, (j : Int) < (hl1.2.1 x 0).toInt → hl1.2.2 ql j ≠ none) → hx_col 8 hl1 ql 0 = lf → lv_has ls 3 [(2, .int iv2_2), (0, .ref x), (1, .ref v1)] → W p l e ({ frames := 0, cells := 0, slots := 0, locals := 0 }) s m ([.ref x, .ref v1] : List Value).toArray below meth c H locs 0 0 (MQ below (va_Qi (fun (r : Int32) (u : List Nat × hx_h) => ((r.toInt = 1 ∧ hx_isin lf cn.toInt vn) ∨ (r.toInt = 0 ∧ ¬ hx_isin lf cn.toInt vn)) ∧ hx_T T_tb u.1 u.2 ∧ hx_S T_tb [] L h u.1 u.2) (hx_E T_tb (P_ty dA) (dC, dI) vwCl (hx_A L sz)) (hx_A L sz)) ([.ref x, .ref v1] : List Value).toArray s 0 0 (hx_A L sz)) (F0 m 2 ls []) := by
    intro n2
    induction n2 with
    | zero => intro iv2_2 H locs hL1 hl1 bliv2_2 buiv2_2 vi2_0 ls hn2; exfalso; omega
    | succ n2 ih2 =>
      intro iv2_2 H locs hL1 hl1 bliv2_2 buiv2_2 vi2_0 ls hn2 hW hT hM  pf_x_0 cl_ql_0 hl
      refine lv_iload_n hx hb dX8_isListed_2 rfl (lv_at hl 0 rfl) ?_
      refine lv_aload_n hx hb dX8_isListed_3 rfl (lv_at hl 1 rfl) ?_
      refine hk_geti hx hb hts hC_8 hown hW (gx.S hM) tt_8 0 (by decide) rfl kw_345 ⟨rfl, rfl, rfl⟩ ((hM.o gx trivial rfl).1.trans f_x_0) dX8_isListed_4 ?_
      refine hb_icmp_ge (zx := iv2_2.toInt) (zy := cn.toInt) (tgt := 28) hx hb rfl rfl dX8_isListed_7 (by decide) (fun c_1 => ?_) (fun c_1 => ?_)
      · skip
        refine lv_iconst (v := 0) hx hb dX8_isListed_28 (by decide) ?_
        exact hx_retz hx hb hr rfl hlk hW ⟨(Or.inr ⟨by decide, fun hc => by obtain ⟨k, hk, ek⟩ := hc; exact vi2_0 k (by omega) ek⟩), hT, hM⟩ dX8_isListed_29
      · skip
        refine lv_aload_n hx hb dX8_isListed_10 rfl (lv_at hl 1 rfl) ?_
        refine hk_getr hx hb hts hC_8 hown hW (gx.S hM) tt_8 3 (by decide) rfl kw_351 ⟨rfl, rfl, rfl⟩ ((hM.o gx trivial rfl).2.trans f_x_3) dX8_isListed_11 ?_
        refine lv_iload_n hx hb dX8_isListed_14 rfl (lv_at hl 0 rfl) ?_
        refine hx_aaldN hx hb hW hT (gql.S hM) tt_40 (t1 := 2) rfl ⟨by omega, by omega⟩ (pf_x_0 _ (by rw [((hM.o gx trivial rfl).1.trans f_x_0)]; exact hx_tnI (by omega) (by omega))) dX8_isListed_15 (fun q_2 fq_2 gq_2 => ?_)
        refine lv_aload_n hx hb dX8_isListed_16 rfl (lv_at hl 2 rfl) ?_
        refine lv_acmp_ne (rx := (some q_2)) (ry := (some v1)) (tgt := 22) hx hb dX8_isListed_17 (by decide) (fun c_3 => ?_) (fun c_3 => ?_)
        · skip
          have hne : lf iv2_2.toInt.toNat ≠ vn := fun e => c_3 (congrArg some (hU _ _ (by unfold Int32.toNatClampNeg; omega) (((hM.a gqlO rfl _).2).symm.trans fq_2) e))
          obtain ⟨x_4, ex_4⟩ : ∃ y : Int32, y = iv2_2 + Int32.ofInt 1 := ⟨_, rfl⟩
          have rg_5 := i32_r iv2_2
          have zx_4 : x_4.toInt = iv2_2.toInt + (1) := by rw [ex_4]; exact i32_add rfl (by decide) (by omega) (by omega)
          refine lv_iinc (v := x_4) (lv' := [(2, .int x_4), (0, .ref x), (1, .ref v1)]) hx hb dX8_isListed_22 hl (k := 0) rfl ex_4.symm (by decide) rfl (fun ls hl => ?_)
          refine lv_goto (tgt := 2) hx hb dX8_isListed_25 (by decide) ?_
          exact ih2 x_4 _ _ hL1 hl1 (by omega) (by omega) (hx_nin_s vi2_0 (by omega) hne zx_4) ls (by omega) hW hT hM  pf_x_0 cl_ql_0 (lv_sub hl [0, 1, 2] rfl)
        · skip
          refine lv_iconst (v := 1) hx hb dX8_isListed_20 (by decide) ?_
          exact hx_retz hx hb hr rfl hlk hW ⟨(Or.inl ⟨by decide, iv2_2.toNatClampNeg, (by unfold Int32.toNatClampNeg; omega), by rw [← clO, hx_col_at (((hM.a gqlO rfl _).2).symm.trans fq_2) (by unfold Int32.toNatClampNeg; omega), Option.some.inj c_3]; exact fvO⟩), hT, hM⟩ dX8_isListed_21
  have zk_0 : (0 : Int32).toInt = 0 := by decide
  exact loop2 9 (0 : Int32) _ _ L h (by decide) (by decide) (fun k hk => by exfalso; omega) ls (by omega) hW hT hM  pf_x_0 cl_ql_0 hl


set_option maxHeartbeats 4000000 in
set_option maxRecDepth 100000 in
theorem t_X8_putOnList_2 (l : Launch) (dC : Nat → ClassId) (dI : Nat → Nat → Nat) (dA : Nat → ClassId) (L : List Nat) (h : hx_h) (sz : Nat) (x : Nat) (v1 : Nat) (hT : hx_T T_tb L h) (gx : hx_g L h x 8) (gv1 : hx_g L h v1 2) (ql : Nat) (gql : hx_g L h ql 40) (f_x_3 : h.2.2 x 3 = some ql)  (cn : Int32) (f_x_0 : h.2.1 x 0 = cn) (vn : Int32) (f_v1_0 : h.2.1 v1 0 = vn) (lf : Nat → Int32) (cl_ql_0 : hx_col 8 h ql 0 = lf) (hcn : cn.toInt < 8) (pf_x_0 : ∀ j : Nat, (j : Int) < (h.2.1 x 0).toInt → h.2.2 ql j ≠ none) : Met l yX8_putOnList (Cond.code yX8_putOnList cX8_putOnList 3 none :: hx_all) ({ frames := 0, cells := 0, slots := 0, locals := 0 }) (va_Pc [.ref x, .ref v1] (hx_B T_tb (P_ty dA) (dC, dI) vwCl L h sz)) (va_Qv (fun (u : List Nat × hx_h) => (∃ (cn1 : Int32) (lf1 : Nat → Int32), u.2.2.1 x 0 = cn1 ∧ hx_col 8 u.2 ql 0 = lf1 ∧ (cn1.toInt = cn.toInt + 1 ∧ hx_ins lf lf1 cn.toInt vn ∧ hx_EL h u.2 ql v1)) ∧ hx_T T_tb u.1 u.2 ∧ hx_S T_tb [(8, 0), (40, 0)] L h u.1 u.2 ∧ (∀ j : Nat, (j : Int) < (u.2.2.1 x 0).toInt → u.2.2.2 ql j ≠ none)) (hx_E T_tb (P_ty dA) (dC, dI) vwCl (hx_A L sz)) (hx_A L sz)) 0 0 (hx_A L sz) := by
  refine hx_met (lv := [(0, .ref x), (1, .ref v1)]) (by decide +kernel) rfl (Nat.le_of_ble_eq_true rfl) rfl ?_
  intro p e s m below meth c hx hb hml hr hlk hts0 hown hin hsz hW ls hl
  have hts : ∀ w ∈ hx_all, w.before _ s = true := fun w hw => hts0 w (List.mem_cons_of_mem _ hw)
  have hown : s.vm.findClass "SmallCourt$Walk" = some m.cls := hown
  have hM : hx_S T_tb [(8, 0), (40, 0)] L h L h := hx_S.rf
  have b_cn := hT.gi gx tt_8 (k := 0) rfl
  rw [f_x_0] at b_cn
  have b_cn : 0 ≤ cn.toInt ∧ cn.toInt ≤ 8 := b_cn
  have b_vn := hT.gi gv1 tt_2 (k := 0) rfl
  rw [f_v1_0] at b_vn
  have b_vn : 0 ≤ vn.toInt ∧ vn.toInt ≤ 99 := b_vn
  refine lv_aload_n hx hb dX8_putOnList_0 rfl (lv_at hl 0 rfl) ?_
  refine hk_geti hx hb hts hC_8 hown hW (gx.S hM) tt_8 0 (by decide) rfl kw_345 ⟨rfl, rfl, rfl⟩ f_x_0 dX8_putOnList_1 ?_
  refine lv_bipush (v := 8) hx hb dX8_putOnList_4 (by decide) ?_
  refine hb_icmp_lt (zx := cn.toInt) (zy := 8) (tgt := 10) hx hb rfl (by decide) dX8_putOnList_6 (by decide) (fun c_1 => ?_) (fun c_1 => by exfalso; omega)
  refine lv_aload_n hx hb dX8_putOnList_10 rfl (lv_at hl 0 rfl) ?_
  refine hk_geti hx hb hts hC_8 hown hW (gx.S hM) tt_8 0 (by decide) rfl kw_345 ⟨rfl, rfl, rfl⟩ f_x_0 dX8_putOnList_11 ?_
  refine lv_istore_n (lv' := [(2, .int cn), (0, .ref x), (1, .ref v1)]) hx hb dX8_putOnList_14 rfl hl (by decide) rfl (fun ls hl => ?_)
  have loop15 : ∀ (n15 : Nat) (iv15_2 : Int32) (ic15_ql_0 : Nat → Int32) (H : Heap) (locs : List Loc) (hL1 : List Nat) (hl1 : hx_h), 0 ≤ iv15_2.toInt → iv15_2.toInt ≤ 8 → (iv15_2.toInt <= cn.toInt) → (hx_is lf ic15_ql_0 cn.toInt iv15_2.toInt vn) → (hx_EL h hl1 ql v1) → ∀ (ls : Array Slot), iv15_2.toInt < (n15 : Int) → hx_W T_tb (P_ty dA) (dC, dI) vwCl (hx_A L sz) s.heap hL1 hl1 s H locs → hx_T T_tb hL1 hl1 → hx_S T_tb [(8, 0), (40, 0)] L h hL1 hl1 → hl1.2.1 x 0 = cn → (∀ j : Nat, (j : Int) < cn.toInt + 1 → (j : Int) ≠ iv15_2.toInt → hl1.2.2 ql j ≠ none) → hx_col 8 hl1 ql 0 = ic15_ql_0 → lv_has ls 3 [(2, .int iv15_2), (0, .ref x), (1, .ref v1)] → W p l e ({ frames := 0, cells := 0, slots := 0, locals := 0 }) s m ([.ref x, .ref v1] : List Value).toArray below meth c H locs 0 0 (MQ below (va_Qv (fun (u : List Nat × hx_h) => (∃ (cn1 : Int32) (lf1 : Nat → Int32), u.2.2.1 x 0 = cn1 ∧ hx_col 8 u.2 ql 0 = lf1 ∧ (cn1.toInt = cn.toInt + 1 ∧ hx_ins lf lf1 cn.toInt vn ∧ hx_EL h u.2 ql v1)) ∧ hx_T T_tb u.1 u.2 ∧ hx_S T_tb [(8, 0), (40, 0)] L h u.1 u.2 ∧ (∀ j : Nat, (j : Int) < (u.2.2.1 x 0).toInt → u.2.2.2 ql j ≠ none)) (hx_E T_tb (P_ty dA) (dC, dI) vwCl (hx_A L sz)) (hx_A L sz)) ([.ref x, .ref v1] : List Value).toArray s 0 0 (hx_A L sz)) (F0 m 15 ls []) := by
    intro n15
    induction n15 with
    | zero => intro iv15_2 ic15_ql_0 H locs hL1 hl1 bliv15_2 buiv15_2 vi15_0 vi15_1 vi15_2 ls hn15; exfalso; omega
    | succ n15 ih15 =>
      intro iv15_2 ic15_ql_0 H locs hL1 hl1 bliv15_2 buiv15_2 vi15_0 vi15_1 vi15_2 ls hn15 hW hT hM f_x_0 hole15 nic15_ql_0 hl
      refine lv_iload_n hx hb dX8_putOnList_15 rfl (lv_at hl 0 rfl) ?_
      refine hb_if_le (zx := iv15_2.toInt) (tgt := 57) hx hb rfl dX8_putOnList_16 (by decide) (fun c_2 => ?_) (fun c_2 => ?_)
      · skip
        refine lv_aload_n hx hb dX8_putOnList_57 rfl (lv_at hl 1 rfl) ?_
        refine hk_getr hx hb hts hC_8 hown hW (gx.S hM) tt_8 3 (by decide) rfl kw_351 ⟨rfl, rfl, rfl⟩ ((hM.o gx trivial rfl).2.trans f_x_3) dX8_putOnList_58 ?_
        refine lv_iload_n hx hb dX8_putOnList_61 rfl (lv_at hl 0 rfl) ?_
        refine lv_aload_n hx hb dX8_putOnList_62 rfl (lv_at hl 2 rfl) ?_
        have hTo := hT
        have nic15_ql_0O := nic15_ql_0
        have hMogv1trivialrfl1transf_v1_0O := ((hM.o gv1 trivial rfl).1.trans f_v1_0)
        refine hx_aast hx hb hW hT (hx_S.rf (M := [(40, 0)])) (gql.S hM) tt_40 rfl (gv1.S hM) tt_2 rfl (by decide) ⟨by omega, by omega⟩ (List.mem_singleton.mpr rfl) dX8_putOnList_63 (fun H locs h_3 eh_3 hW hT hs => ?_)
        replace f_x_0 := (hs.o (gx.S hM) trivial rfl).1.trans f_x_0
        replace hM := hM.tr (hs.mono (by decide))
        have px_4 : ∀ j : Nat, (j : Int) < cn.toInt + 1 → h_3.2.2 ql j ≠ none := hx_hole hole15 (by omega) eh_3
        obtain ⟨fc_5, dfc_5⟩ : ∃ g : Nat → Int32, g = hx_up ic15_ql_0 iv15_2.toNatClampNeg vn := ⟨_, rfl⟩
        have nfc_5 : hx_col 8 h_3 ql 0 = fc_5 := by rw [dfc_5]; exact (hx_col_pr eh_3 (by unfold Int32.toNatClampNeg; omega)).trans (by rw [nic15_ql_0O, hMogv1trivialrfl1transf_v1_0O])
        refine lv_aload_n hx hb dX8_putOnList_64 rfl (lv_at hl 1 rfl) ?_
        refine lv_dup hx hb dX8_putOnList_65 rfl ?_
        refine hk_geti hx hb hts hC_8 hown hW (gx.S hM) tt_8 0 (by decide) rfl kw_345 ⟨rfl, rfl, rfl⟩ f_x_0 dX8_putOnList_66 ?_
        refine lv_iconst (v := 1) hx hb dX8_putOnList_69 (by decide) ?_
        refine lv_iadd hx hb dX8_putOnList_70 ?_
        have rg_6 := i32_r cn
        refine lv_topi (fun x_7 ex_7 => ?_)
        have zx_7 : x_7.toInt = cn.toInt + 1 := by rw [ex_7]; exact i32_add rfl (by decide) (by omega) (by omega)
        have hTo := hT
        refine hx_puti hx hb hts hC_8 hown hW hT (hx_S.rf (M := [(8, 0)])) (gx.S hM) tt_8 0 (by decide) rfl kw_345 ⟨rfl, rfl, rfl⟩ rfl (x := x_7) ⟨by omega, by omega⟩ rfl rfl rfl (List.mem_singleton.mpr rfl) dX8_putOnList_71 (fun H locs h_8 eh_8 hW hT hs => ?_)
        replace px_4 : ∀ j : Nat, (j : Int) < cn.toInt + 1 → h_8.2.2 ql j ≠ none := fun j hj => by rw [(hs.a (gql.S hM) rfl j).2]; exact px_4 j hj
        replace nfc_5 : hx_col 8 h_8 ql 0 = fc_5 := (hx_col_S hs hTo (gql.S hM) tt_40 tt_2 rfl rfl).trans nfc_5
        replace hM := hM.tr (hs.mono (by decide))
        have f_9 : h_8.2.1 x 0 = x_7 := by rw [eh_8]; exact hx_pi_at _ _ _ _
        have pf_10 : ∀ j : Nat, (j : Int) < (h_8.2.1 x 0).toInt → h_8.2.2 ql j ≠ none := fun j hj => px_4 j (by rw [f_9] at hj; omega)
        exact hx_retv hx hb hr hlk hW ⟨⟨x_7, fc_5, f_9, nfc_5, ⟨by omega, ⟨iv15_2.toInt, _, by omega, by omega, vi15_1, dfc_5, (Or.inl (by omega))⟩, hx_EL_pi (hx_EL_v vi15_2 eh_3) eh_8⟩⟩, hT, hM, pf_10⟩ dX8_putOnList_74
      · skip
        refine lv_aload_n hx hb dX8_putOnList_19 rfl (lv_at hl 1 rfl) ?_
        refine hk_getr hx hb hts hC_8 hown hW (gx.S hM) tt_8 3 (by decide) rfl kw_351 ⟨rfl, rfl, rfl⟩ ((hM.o gx trivial rfl).2.trans f_x_3) dX8_putOnList_20 ?_
        refine lv_iload_n hx hb dX8_putOnList_23 rfl (lv_at hl 0 rfl) ?_
        refine lv_iconst (v := 1) hx hb dX8_putOnList_24 (by decide) ?_
        refine lv_isub hx hb dX8_putOnList_25 ?_
        have rg_11 := i32_r iv15_2
        refine lv_topi (fun x_12 ex_12 => ?_)
        have zx_12 : x_12.toInt = iv15_2.toInt - 1 := by rw [ex_12]; exact i32_sub rfl (by decide) (by omega) (by omega)
        refine hx_aaldN hx hb hW hT (gql.S hM) tt_40 (t1 := 2) rfl ⟨by omega, by omega⟩ (hole15 _ (by rw [hx_cl (by omega)]; omega) (by rw [hx_cl (by omega)]; omega)) dX8_putOnList_26 (fun q_13 fq_13 gq_13 => ?_)
        refine hx_geti hx hb hts hC_2 hown hW hT gq_13 tt_2 0 (by decide) rfl kw_723 ⟨rfl, rfl, rfl⟩ dX8_putOnList_27 (fun x_14 ex_14 lx_14 ux_14 => ?_)
        have fx_14 := ex_14.symm
        have cx_14 : x_14 = ic15_ql_0 x_12.toNatClampNeg := by rw [ex_14, ← nic15_ql_0]; exact (hx_col_at fq_13 (by unfold Int32.toNatClampNeg; omega)).symm
        refine lv_aload_n hx hb dX8_putOnList_30 rfl (lv_at hl 2 rfl) ?_
        refine hk_geti hx hb hts hC_2 hown hW (gv1.S hM) tt_2 0 (by decide) rfl kw_723 ⟨rfl, rfl, rfl⟩ ((hM.o gv1 trivial rfl).1.trans f_v1_0) dX8_putOnList_31 ?_
        refine hb_icmp_le (zx := x_14.toInt) (zy := vn.toInt) (tgt := 57) hx hb rfl rfl dX8_putOnList_34 (by decide) (fun c_15 => ?_) (fun c_15 => ?_)
        · skip
          refine lv_aload_n hx hb dX8_putOnList_57 rfl (lv_at hl 1 rfl) ?_
          refine hk_getr hx hb hts hC_8 hown hW (gx.S hM) tt_8 3 (by decide) rfl kw_351 ⟨rfl, rfl, rfl⟩ ((hM.o gx trivial rfl).2.trans f_x_3) dX8_putOnList_58 ?_
          refine lv_iload_n hx hb dX8_putOnList_61 rfl (lv_at hl 0 rfl) ?_
          refine lv_aload_n hx hb dX8_putOnList_62 rfl (lv_at hl 2 rfl) ?_
          have hTo := hT
          have nic15_ql_0O := nic15_ql_0
          have hMogv1trivialrfl1transf_v1_0O := ((hM.o gv1 trivial rfl).1.trans f_v1_0)
          refine hx_aast hx hb hW hT (hx_S.rf (M := [(40, 0)])) (gql.S hM) tt_40 rfl (gv1.S hM) tt_2 rfl (by decide) ⟨by omega, by omega⟩ (List.mem_singleton.mpr rfl) dX8_putOnList_63 (fun H locs h_16 eh_16 hW hT hs => ?_)
          replace f_x_0 := (hs.o (gx.S hM) trivial rfl).1.trans f_x_0
          replace fx_14 := (hs.o gq_13 trivial rfl).1.trans fx_14
          replace hM := hM.tr (hs.mono (by decide))
          replace gq_13 := gq_13.S hs
          have px_17 : ∀ j : Nat, (j : Int) < cn.toInt + 1 → h_16.2.2 ql j ≠ none := hx_hole hole15 (by omega) eh_16
          obtain ⟨fc_18, dfc_18⟩ : ∃ g : Nat → Int32, g = hx_up ic15_ql_0 iv15_2.toNatClampNeg vn := ⟨_, rfl⟩
          have nfc_18 : hx_col 8 h_16 ql 0 = fc_18 := by rw [dfc_18]; exact (hx_col_pr eh_16 (by unfold Int32.toNatClampNeg; omega)).trans (by rw [nic15_ql_0O, hMogv1trivialrfl1transf_v1_0O])
          refine lv_aload_n hx hb dX8_putOnList_64 rfl (lv_at hl 1 rfl) ?_
          refine lv_dup hx hb dX8_putOnList_65 rfl ?_
          refine hk_geti hx hb hts hC_8 hown hW (gx.S hM) tt_8 0 (by decide) rfl kw_345 ⟨rfl, rfl, rfl⟩ f_x_0 dX8_putOnList_66 ?_
          refine lv_iconst (v := 1) hx hb dX8_putOnList_69 (by decide) ?_
          refine lv_iadd hx hb dX8_putOnList_70 ?_
          have rg_19 := i32_r cn
          refine lv_topi (fun x_20 ex_20 => ?_)
          have zx_20 : x_20.toInt = cn.toInt + 1 := by rw [ex_20]; exact i32_add rfl (by decide) (by omega) (by omega)
          have hTo := hT
          refine hx_puti hx hb hts hC_8 hown hW hT (hx_S.rf (M := [(8, 0)])) (gx.S hM) tt_8 0 (by decide) rfl kw_345 ⟨rfl, rfl, rfl⟩ rfl (x := x_20) ⟨by omega, by omega⟩ rfl rfl rfl (List.mem_singleton.mpr rfl) dX8_putOnList_71 (fun H locs h_21 eh_21 hW hT hs => ?_)
          replace px_17 : ∀ j : Nat, (j : Int) < cn.toInt + 1 → h_21.2.2 ql j ≠ none := fun j hj => by rw [(hs.a (gql.S hM) rfl j).2]; exact px_17 j hj
          replace fx_14 := (hs.o gq_13 trivial rfl).1.trans fx_14
          replace nfc_18 : hx_col 8 h_21 ql 0 = fc_18 := (hx_col_S hs hTo (gql.S hM) tt_40 tt_2 rfl rfl).trans nfc_18
          replace hM := hM.tr (hs.mono (by decide))
          replace gq_13 := gq_13.S hs
          have f_22 : h_21.2.1 x 0 = x_20 := by rw [eh_21]; exact hx_pi_at _ _ _ _
          have pf_23 : ∀ j : Nat, (j : Int) < (h_21.2.1 x 0).toInt → h_21.2.2 ql j ≠ none := fun j hj => px_17 j (by rw [f_22] at hj; omega)
          exact hx_retv hx hb hr hlk hW ⟨⟨x_20, fc_18, f_22, nfc_18, ⟨by omega, ⟨iv15_2.toInt, _, by omega, by omega, vi15_1, dfc_18, (by first | exact Or.inl (by omega) | exact Or.inr (by rw [← vi15_1.1 _ (by omega), ← show (x_12.toNatClampNeg) = (iv15_2.toInt - 1).toNat from by unfold Int32.toNatClampNeg; omega, ← cx_14]; omega))⟩, hx_EL_pi (hx_EL_v vi15_2 eh_16) eh_21⟩⟩, hT, hM, pf_23⟩ dX8_putOnList_74
        · skip
          refine lv_aload_n hx hb dX8_putOnList_37 rfl (lv_at hl 1 rfl) ?_
          refine hk_getr hx hb hts hC_8 hown hW (gx.S hM) tt_8 3 (by decide) rfl kw_351 ⟨rfl, rfl, rfl⟩ ((hM.o gx trivial rfl).2.trans f_x_3) dX8_putOnList_38 ?_
          refine lv_iload_n hx hb dX8_putOnList_41 rfl (lv_at hl 0 rfl) ?_
          refine lv_aload_n hx hb dX8_putOnList_42 rfl (lv_at hl 1 rfl) ?_
          refine hk_getr hx hb hts hC_8 hown hW (gx.S hM) tt_8 3 (by decide) rfl kw_351 ⟨rfl, rfl, rfl⟩ ((hM.o gx trivial rfl).2.trans f_x_3) dX8_putOnList_43 ?_
          refine lv_iload_n hx hb dX8_putOnList_46 rfl (lv_at hl 0 rfl) ?_
          refine lv_iconst (v := 1) hx hb dX8_putOnList_47 (by decide) ?_
          refine lv_isub hx hb dX8_putOnList_48 ?_
          refine lv_topi (fun x_24 ex_24 => ?_)
          have zx_24 : x_24.toInt = iv15_2.toInt - 1 := by rw [ex_24]; exact i32_sub rfl (by decide) (by omega) (by omega)
          obtain rfl : x_12 = x_24 := ex_12.trans ex_24.symm
          refine hx_aaldN hx hb hW hT (gql.S hM) tt_40 (t1 := 2) rfl ⟨by omega, by omega⟩ (hole15 _ (by rw [hx_cl (by omega)]; omega) (by rw [hx_cl (by omega)]; omega)) dX8_putOnList_49 (fun q_25 fq_25 gq_25 => ?_)
          have hTo := hT
          have nic15_ql_0O := nic15_ql_0
          have fk_26 : hl1.2.1 q_25 0 = ic15_ql_0 x_12.toNatClampNeg := by rw [← nic15_ql_0]; exact (hx_col_at fq_25 (by unfold Int32.toNatClampNeg; omega)).symm
          have fk_26O := fk_26
          refine hx_aast hx hb hW hT (hx_S.rf (M := [(40, 0)])) (gql.S hM) tt_40 rfl gq_25 tt_2 rfl (by decide) ⟨by omega, by omega⟩ (List.mem_singleton.mpr rfl) dX8_putOnList_50 (fun H locs h_27 eh_27 hW hT hs => ?_)
          replace f_x_0 := (hs.o (gx.S hM) trivial rfl).1.trans f_x_0
          replace fx_14 := (hs.o gq_13 trivial rfl).1.trans fx_14
          replace hM := hM.tr (hs.mono (by decide))
          replace gq_13 := gq_13.S hs
          replace gq_25 := gq_25.S hs
          have px_28 : ∀ j : Nat, (j : Int) < cn.toInt + 1 → h_27.2.2 ql j ≠ none := hx_hole hole15 (by omega) eh_27
          obtain ⟨fc_29, dfc_29⟩ : ∃ g : Nat → Int32, g = hx_up ic15_ql_0 iv15_2.toNatClampNeg (ic15_ql_0 x_12.toNatClampNeg) := ⟨_, rfl⟩
          have nfc_29 : hx_col 8 h_27 ql 0 = fc_29 := by rw [dfc_29]; exact (hx_col_pr eh_27 (by unfold Int32.toNatClampNeg; omega)).trans (by rw [nic15_ql_0O, fk_26O])
          obtain ⟨x_30, ex_30⟩ : ∃ y : Int32, y = iv15_2 + Int32.ofInt (-1) := ⟨_, rfl⟩
          have zx_30 : x_30.toInt = iv15_2.toInt + (-1) := by rw [ex_30]; exact i32_add rfl (by decide) (by omega) (by omega)
          refine lv_iinc (v := x_30) (lv' := [(2, .int x_30), (0, .ref x), (1, .ref v1)]) hx hb dX8_putOnList_51 hl (k := 0) rfl ex_30.symm (by decide) rfl (fun ls hl => ?_)
          refine lv_goto (tgt := 15) hx hb dX8_putOnList_54 (by decide) ?_
          exact ih15 x_30 fc_29 _ _ hL1 h_27 (by omega) (by omega) (by omega) (by have e9 : x_30.toInt = x_12.toInt := (by omega); rw [e9]; exact hx_is_s vi15_1 (by omega) (by omega) zx_12 (by rw [← cx_14]; omega) rfl dfc_29) (hx_EL_s vi15_2 eh_27 fq_25 (by unfold Int32.toNatClampNeg; omega)) ls (by omega) hW hT hM f_x_0 (fun j hj _ => px_28 j hj) nfc_29 (lv_sub hl [0, 1, 2] rfl)
  exact loop15 9 cn lf _ _ L h (by omega) (by omega) (by omega) hx_is_0 hx_EL_rf ls (by omega) hW hT hM f_x_0 (fun j hj hn => pf_x_0 j (by rw [f_x_0]; omega)) cl_ql_0 hl


set_option maxHeartbeats 4000000 in
set_option maxRecDepth 100000 in
theorem t_X9_list_2 (l : Launch) (dC : Nat → ClassId) (dI : Nat → Nat → Nat) (dA : Nat → ClassId) (L : List Nat) (h : hx_h) (sz : Nat) (x : Nat) (i1 : Int32) (hT : hx_T T_tb L h) (gx : hx_g L h x 9) (qc : Nat) (gqc : hx_g L h qc 45) (f_x_10 : h.2.2 x 10 = some qc) (qw : Nat) (gqw : hx_g L h qw 8) (f_x_19 : h.2.2 x 19 = some qw) (ql : Nat) (gql : hx_g L h ql 40) (f_qw_3 : h.2.2 qw 3 = some ql)  (cn0 : Int32) (f_x_11 : h.2.1 x 11 = cn0) (ln0 : Int32) (f_qw_0 : h.2.1 qw 0 = ln0) (ff : Nat → Int32) (cl_qc_10 : hx_col 100 h qc 10 = ff) (lf : Nat → Int32) (cl_ql_0 : hx_col 8 h ql 0 = lf) (nu_qc : hx_num 100 h qc 0 (cn0.toInt)) (sb_ql_qc : hx_LQ 8 100 h ql qc) (pf_x_11 : ∀ j : Nat, (j : Int) < (h.2.1 x 11).toInt → h.2.2 qc j ≠ none) (pf_qw_0 : ∀ j : Nat, (j : Int) < (h.2.1 qw 0).toInt → h.2.2 ql j ≠ none) : Met l yX9_list (Cond.code yX9_list cX9_list 3 (some .int) :: hx_all) ({ frames := 1, cells := 0, slots := 0, locals := 22 }) (va_Pc [.ref x, .int i1] (hx_B T_tb (P_ty dA) (dC, dI) vwCl L h sz)) (va_Qi (fun (r : Int32) (u : List Nat × hx_h) => (∃ (ln1 : Int32) (lf1 : Nat → Int32), u.2.2.1 qw 0 = ln1 ∧ hx_col 8 u.2 ql 0 = lf1 ∧ ((hx_LQ 8 100 u.2 ql qc) ∧ (hx_WL cn0.toInt i1.toInt ln0.toInt i1 ff lf lf1 r.toInt ln1.toInt))) ∧ hx_T T_tb u.1 u.2 ∧ hx_S T_tb [(8, 0), (40, 0)] L h u.1 u.2 ∧ (∀ j : Nat, (j : Int) < (u.2.2.1 qw 0).toInt → u.2.2.2 ql j ≠ none)) (hx_E T_tb (P_ty dA) (dC, dI) vwCl (hx_A L sz)) (hx_A L sz)) 0 0 (hx_A L sz) := by
  refine hx_met (lv := [(0, .ref x), (1, .int i1)]) (by decide +kernel) rfl (Nat.le_of_ble_eq_true rfl) rfl ?_
  intro p e s m below meth c hx hb hml hr hlk hts0 hown hin hsz hW ls hl
  have hts : ∀ w ∈ hx_all, w.before _ s = true := fun w hw => hts0 w (List.mem_cons_of_mem _ hw)
  have hown : s.vm.findClass "SmallCourt" = some m.cls := hown
  have hM : hx_S T_tb [(8, 0), (40, 0)] L h L h := hx_S.rf
  have b_cn0 := hT.gi gx tt_9 (k := 11) rfl
  rw [f_x_11] at b_cn0
  have b_cn0 : 0 ≤ cn0.toInt ∧ cn0.toInt ≤ 100 := b_cn0
  have b_ln0 := hT.gi gqw tt_8 (k := 0) rfl
  rw [f_qw_0] at b_ln0
  have b_ln0 : 0 ≤ ln0.toInt ∧ ln0.toInt ≤ 8 := b_ln0
  refine lv_aload_n hx hb dX9_list_0 rfl (lv_at hl 0 rfl) ?_
  refine lv_iload_n hx hb dX9_list_1 rfl (lv_at hl 1 rfl) ?_
  have hTo := hT
  refine hx_goq (hx_runV (As := [.int i1]) (rest := []) ⟨hx, hb, hml, hown, hts⟩ hW (gx.S hM) tt_9 (T := TX9) (N := 20) rfl (t_X9_claimAt_2 l dC dI dA L h s.heap.size x i1 hT (gx.S hM) cn0 ((hM.o gx trivial rfl).1.trans f_x_11) qc (gqc.S hM) ((hM.o gx trivial rfl).2.trans f_x_10) pf_x_11) (cwV 1 hts (hx_gV kw_810 kw_807 kw_809 kw_25 kw_94) rfl rfl rfl (by decide +kernel) ⟨Nat.le_of_ble_eq_true rfl, Nat.le_of_ble_eq_true rfl⟩) rfl hl.1 rfl (Nat.le_of_ble_eq_true rfl) dX9_list_2 ⟨Nat.le_of_ble_eq_true rfl, Nat.le_of_ble_eq_true rfl⟩) hW (fun r_3 L_1 h_2 H locs p_4 hW => ?_)
  obtain ⟨hr_5, hT, hs⟩ := p_4
  replace hT : hx_T T_tb L_1 h_2 := hT
  replace hs : hx_S T_tb [] L h L_1 h_2 := hs
  replace f_qw_0 := (hs.o (gqw.S hM) trivial rfl).1.trans f_qw_0
  replace pf_x_11 : ∀ j : Nat, (j : Int) < (h_2.2.1 x 11).toInt → h_2.2.2 qc j ≠ none := by
    intro j hj; rw [(hs.o (gx.S hM) trivial rfl).1] at hj; rw [(hs.a (gqc.S hM) rfl j).2]; exact pf_x_11 j hj
  replace pf_qw_0 : ∀ j : Nat, (j : Int) < (h_2.2.1 qw 0).toInt → h_2.2.2 ql j ≠ none := by
    intro j hj; rw [(hs.o (gqw.S hM) trivial rfl).1] at hj; rw [(hs.a (gql.S hM) rfl j).2]; exact pf_qw_0 j hj
  replace cl_qc_10 : hx_col 100 h_2 qc 10 = ff := (hx_col_S hs hTo (gqc.S hM) tt_45 tt_2 rfl rfl).trans cl_qc_10
  replace cl_ql_0 : hx_col 8 h_2 ql 0 = lf := (hx_col_S hs hTo (gql.S hM) tt_40 tt_2 rfl rfl).trans cl_ql_0
  replace nu_qc : hx_num 100 h_2 qc 0 (cn0.toInt) := hx_num_S hs hTo (gqc.S hM) tt_45 tt_2 rfl rfl nu_qc
  replace sb_ql_qc : hx_LQ 8 100 h_2 ql qc := hx_LQ_S hs (gql.S hM) (gqc.S hM) rfl rfl sb_ql_qc
  replace hM := hM.tr (hs.mono (by decide))
  obtain ⟨hr_5, hr_5B⟩ := hr_5
  have hr_5 : ∀ q, r_3 = some q → hx_g L_1 h_2 q 2 := hr_5
  rcases r_3 with _ | q_6
  · skip
    have k_7 : i1.toInt < 0 ∨ cn0.toInt ≤ i1.toInt := by
      rcases hr_5B with ⟨_, z⟩ | ⟨_, _, q, z, _⟩
      · exact z
      · cases z
    refine lv_astore_nN (lv' := [(2, .null), (0, .ref x), (1, .int i1)]) hx hb dX9_list_5 rfl hl (by decide) rfl (fun ls hl => ?_)
    refine lv_aload_nN hx hb dX9_list_6 rfl (lv_at hl 0 rfl) ?_
    refine lv_ifnullN (tgt := 41) hx hb dX9_list_7 (by decide) ?_
    refine lv_iconst (v := -1) hx hb dX9_list_41 (by decide) ?_
    exact hx_reti hx hb hr hlk hW ⟨⟨ln0, lf, f_qw_0, cl_ql_0, ⟨sb_ql_qc, (Or.inl ⟨by decide, rfl, by omega, fun hc => by have := hc.1; have := hc.2.1; omega⟩)⟩⟩, hT, hM, pf_qw_0⟩ dX9_list_42
  · have gq_6 := hr_5 _ rfl
    have k_8 : 0 ≤ i1.toInt ∧ i1.toInt < cn0.toInt ∧ h_2.2.2 qc i1.toNatClampNeg = some q_6 := by
      rcases hr_5B with ⟨z, _⟩ | ⟨z1, z2, q, z3, z4⟩
      · cases z
      · cases z3; exact ⟨z1, z2, z4⟩
    have fo_9 := k_8.2.2
    have k_8 : 0 ≤ i1.toInt ∧ i1.toInt < cn0.toInt := ⟨k_8.1, k_8.2.1⟩
    refine lv_astore_n (lv' := [(2, .ref q_6), (0, .ref x), (1, .int i1)]) hx hb dX9_list_5 rfl hl (by decide) rfl (fun ls hl => ?_)
    refine lv_aload_n hx hb dX9_list_6 rfl (lv_at hl 0 rfl) ?_
    refine lv_ifnull hx hb dX9_list_7 ?_
    refine lv_aload_n hx hb dX9_list_10 rfl (lv_at hl 0 rfl) ?_
    refine hx_geti hx hb hts hC_2 hown hW hT gq_6 tt_2 10 (by decide) rfl kw_747 ⟨rfl, rfl, rfl⟩ dX9_list_11 (fun x_10 ex_10 lx_10 ux_10 => ?_)
    have fx_10 := ex_10.symm
    have cx_10 : x_10 = ff i1.toNatClampNeg := by rw [ex_10, ← cl_qc_10]; exact (hx_col_at fo_9 (by unfold Int32.toNatClampNeg; omega)).symm
    refine lv_iconst (v := -1) hx hb dX9_list_14 (by decide) ?_
    refine hb_icmp_ne (zx := x_10.toInt) (zy := (-1)) (tgt := 41) hx hb rfl (by decide) dX9_list_15 (by decide) (fun c_11 => ?_) (fun c_11 => ?_)
    · skip
      refine lv_iconst (v := -1) hx hb dX9_list_41 (by decide) ?_
      exact hx_reti hx hb hr hlk hW ⟨⟨ln0, lf, f_qw_0, cl_ql_0, ⟨sb_ql_qc, (Or.inl ⟨by decide, rfl, by omega, fun hc => by have h1 : (ff i1.toNatClampNeg).toInt = -1 := hc.2.2.1; rw [← cx_10] at h1; omega⟩)⟩⟩, hT, hM, pf_qw_0⟩ dX9_list_42
    · skip
      refine lv_aload_n hx hb dX9_list_18 rfl (lv_at hl 1 rfl) ?_
      refine hk_getr hx hb hts hC_9 hown hW (gx.S hM) tt_9 19 (by decide) rfl kw_383 ⟨rfl, rfl, rfl⟩ ((hM.o gx trivial rfl).2.trans f_x_19) dX9_list_19 ?_
      refine lv_aload_n hx hb dX9_list_22 rfl (lv_at hl 0 rfl) ?_
      have fk_12 : h_2.2.1 q_6 0 = i1 := hx_num_at nu_qc fo_9 (by omega) (by omega)
      have hU : ∀ k p : Nat, k < 8 → h_2.2.2 ql k = some p → lf k = i1 → p = q_6 := fun k p hk f e => hx_LQ_u sb_ql_qc nu_qc cl_ql_0 fo_9 (by omega) (by omega) hk f e
      have hTo := hT
      refine hx_goi (hx_runV (As := [.ref q_6]) (rest := []) ⟨hx, hb, hml, hown, hts⟩ hW (gqw.S hM) tt_8 (T := TX8) (N := 5) rfl (t_X8_isListed_2 l dC dI dA L_1 h_2 H.size qw q_6 hT (gqw.S hM) gq_6 ql (gql.S hM) ((hM.o gqw trivial rfl).2.trans f_qw_3) ln0 f_qw_0 i1 fk_12 lf cl_ql_0 hU pf_qw_0) (cwV 1 hts (hx_gV kw_1043 kw_1040 kw_1041 kw_1042 kw_102) rfl rfl rfl (by decide +kernel) ⟨Nat.le_of_ble_eq_true rfl, Nat.le_of_ble_eq_true rfl⟩) rfl hl.1 rfl (Nat.le_of_ble_eq_true rfl) dX9_list_23 ⟨Nat.le_of_ble_eq_true rfl, Nat.le_of_ble_eq_true rfl⟩) hW (fun r_15 L_13 h_14 H locs p_16 hW => ?_)
      obtain ⟨hr_17, hT, hs⟩ := p_16
      replace hT : hx_T T_tb L_13 h_14 := hT
      replace hs : hx_S T_tb [] L_1 h_2 L_13 h_14 := hs
      replace f_qw_0 := (hs.o (gqw.S hM) trivial rfl).1.trans f_qw_0
      replace fx_10 := (hs.o gq_6 trivial rfl).1.trans fx_10
      replace fk_12 := (hs.o gq_6 trivial rfl).1.trans fk_12
      replace pf_x_11 : ∀ j : Nat, (j : Int) < (h_14.2.1 x 11).toInt → h_14.2.2 qc j ≠ none := by
        intro j hj; rw [(hs.o (gx.S hM) trivial rfl).1] at hj; rw [(hs.a (gqc.S hM) rfl j).2]; exact pf_x_11 j hj
      replace pf_qw_0 : ∀ j : Nat, (j : Int) < (h_14.2.1 qw 0).toInt → h_14.2.2 ql j ≠ none := by
        intro j hj; rw [(hs.o (gqw.S hM) trivial rfl).1] at hj; rw [(hs.a (gql.S hM) rfl j).2]; exact pf_qw_0 j hj
      replace cl_qc_10 : hx_col 100 h_14 qc 10 = ff := (hx_col_S hs hTo (gqc.S hM) tt_45 tt_2 rfl rfl).trans cl_qc_10
      replace cl_ql_0 : hx_col 8 h_14 ql 0 = lf := (hx_col_S hs hTo (gql.S hM) tt_40 tt_2 rfl rfl).trans cl_ql_0
      replace nu_qc : hx_num 100 h_14 qc 0 (cn0.toInt) := hx_num_S hs hTo (gqc.S hM) tt_45 tt_2 rfl rfl nu_qc
      replace sb_ql_qc : hx_LQ 8 100 h_14 ql qc := hx_LQ_S hs (gql.S hM) (gqc.S hM) rfl rfl sb_ql_qc
      replace fo_9 := (hs.a (gqc.S hM) rfl _).2.trans fo_9
      replace hM := hM.tr (hs.mono (by decide))
      replace gq_6 := gq_6.S hs
      refine hb_if_ne (zx := r_15.toInt) (tgt := 41) hx hb rfl dX9_list_26 (by decide) (fun c_18 => ?_) (fun c_18 => ?_)
      · skip
        refine lv_iconst (v := -1) hx hb dX9_list_41 (by decide) ?_
        exact hx_reti hx hb hr hlk hW ⟨⟨ln0, lf, f_qw_0, cl_ql_0, ⟨sb_ql_qc, (Or.inl ⟨by decide, rfl, by omega, fun hc => by have h2 := hc.2.2.2.2; rcases hr_17 with z | z; (first | exact hc.2.2.2.1 z.2 | omega); omega⟩)⟩⟩, hT, hM, pf_qw_0⟩ dX9_list_42
      · skip
        refine lv_aload_n hx hb dX9_list_29 rfl (lv_at hl 1 rfl) ?_
        refine hk_getr hx hb hts hC_9 hown hW (gx.S hM) tt_9 19 (by decide) rfl kw_383 ⟨rfl, rfl, rfl⟩ ((hM.o gx trivial rfl).2.trans f_x_19) dX9_list_30 ?_
        refine hk_geti hx hb hts hC_8 hown hW (gqw.S hM) tt_8 0 (by decide) rfl kw_346 ⟨rfl, rfl, rfl⟩ f_qw_0 dX9_list_33 ?_
        refine lv_bipush (v := 8) hx hb dX9_list_36 (by decide) ?_
        refine hb_icmp_lt (zx := ln0.toInt) (zy := 8) (tgt := 43) hx hb rfl (by decide) dX9_list_38 (by decide) (fun c_19 => ?_) (fun c_19 => ?_)
        · skip
          have gqcO := (gqc.S hM)
          have sbO := sb_ql_qc
          have foO := fo_9
          refine lv_aload_n hx hb dX9_list_43 rfl (lv_at hl 1 rfl) ?_
          refine hk_getr hx hb hts hC_9 hown hW (gx.S hM) tt_9 19 (by decide) rfl kw_383 ⟨rfl, rfl, rfl⟩ ((hM.o gx trivial rfl).2.trans f_x_19) dX9_list_44 ?_
          refine lv_aload_n hx hb dX9_list_47 rfl (lv_at hl 0 rfl) ?_
          have hTo := hT
          refine hx_gov (hx_runV (As := [.ref q_6]) (rest := []) ⟨hx, hb, hml, hown, hts⟩ hW (gqw.S hM) tt_8 (T := TX8) (N := 5) rfl (t_X8_putOnList_2 l dC dI dA L_13 h_14 H.size qw q_6 hT (gqw.S hM) gq_6 ql (gql.S hM) ((hM.o gqw trivial rfl).2.trans f_qw_3) ln0 f_qw_0 i1 fk_12 lf cl_ql_0 (by omega) pf_qw_0) (cwV 1 hts (hx_gV kw_1047 kw_1044 kw_1045 kw_1046 kw_102) rfl rfl rfl (by decide +kernel) ⟨Nat.le_of_ble_eq_true rfl, Nat.le_of_ble_eq_true rfl⟩) rfl hl.1 rfl (Nat.le_of_ble_eq_true rfl) dX9_list_48 ⟨Nat.le_of_ble_eq_true rfl, Nat.le_of_ble_eq_true rfl⟩) hW (fun L_20 h_21 H locs p_23 hW => ?_)
          obtain ⟨⟨w_26, w_27, fw_26, fw_27, hr_24⟩, hT, hs, pf_25⟩ := p_23
          replace hT : hx_T T_tb L_20 h_21 := hT
          replace hs : hx_S T_tb [(8, 0), (40, 0)] L_13 h_14 L_20 h_21 := hs
          replace fx_10 := (hs.o gq_6 trivial rfl).1.trans fx_10
          replace fk_12 := (hs.o gq_6 trivial rfl).1.trans fk_12
          replace pf_x_11 : ∀ j : Nat, (j : Int) < (h_21.2.1 x 11).toInt → h_21.2.2 qc j ≠ none := by
            intro j hj; rw [(hs.o (gx.S hM) trivial rfl).1] at hj; rw [(hs.a (gqc.S hM) rfl j).2]; exact pf_x_11 j hj
          replace cl_qc_10 : hx_col 100 h_21 qc 10 = ff := (hx_col_S hs hTo (gqc.S hM) tt_45 tt_2 rfl rfl).trans cl_qc_10
          replace nu_qc : hx_num 100 h_21 qc 0 (cn0.toInt) := hx_num_S hs hTo (gqc.S hM) tt_45 tt_2 rfl rfl nu_qc
          replace fo_9 := (hs.a (gqc.S hM) rfl _).2.trans fo_9
          replace hM := hM.tr (hs.mono (by decide))
          replace gq_6 := gq_6.S hs
          have pf_25 : ∀ j : Nat, (j : Int) < (h_21.2.1 qw 0).toInt → h_21.2.2 ql j ≠ none := pf_25
          have fw_26 : h_21.2.1 qw 0 = w_26 := fw_26
          have bw_26 := hT.gi (gqw.S hM) tt_8 (k := 0) rfl
          rw [fw_26] at bw_26
          have bw_26 : 0 ≤ w_26.toInt ∧ w_26.toInt ≤ 8 := bw_26
          have fw_27 : hx_col 8 h_21 ql 0 = w_27 := fw_27
          have sb_28 : hx_LQ 8 100 h_21 ql qc := hx_LQ_EL sbO hr_24.2.2 foO (by unfold Int32.toNatClampNeg; omega) (fun c => (hs.a gqcO rfl c).2)
          refine lv_aload_n hx hb dX9_list_51 rfl (lv_at hl 1 rfl) ?_
          refine hk_getr hx hb hts hC_9 hown hW (gx.S hM) tt_9 19 (by decide) rfl kw_383 ⟨rfl, rfl, rfl⟩ ((hM.o gx trivial rfl).2.trans f_x_19) dX9_list_52 ?_
          refine hk_geti hx hb hts hC_8 hown hW (gqw.S hM) tt_8 0 (by decide) rfl kw_346 ⟨rfl, rfl, rfl⟩ fw_26 dX9_list_55 ?_
          exact hx_reti hx hb hr hlk hW ⟨⟨w_26, w_27, fw_26, fw_27, ⟨sb_28, (Or.inr ⟨by omega, by omega, hr_24.2.1, by omega, by omega, (by show (ff i1.toNatClampNeg).toInt = -1; rw [← cx_10]; omega), (by rcases hr_17 with z | z; (exfalso; omega); exact z.2), by omega⟩)⟩⟩, hT, hM, pf_25⟩ dX9_list_58
        · skip
          refine lv_iconst (v := -1) hx hb dX9_list_41 (by decide) ?_
          exact hx_reti hx hb hr hlk hW ⟨⟨ln0, lf, f_qw_0, cl_ql_0, ⟨sb_ql_qc, (Or.inl ⟨by decide, rfl, by omega, fun hc => by have h2 := hc.2.2.2.2; rcases hr_17 with z | z; (first | exact hc.2.2.2.1 z.2 | omega); omega⟩)⟩⟩, hT, hM, pf_qw_0⟩ dX9_list_42


set_option maxHeartbeats 4000000 in
set_option maxRecDepth 100000 in
theorem t_X10_areLives_2 (l : Launch) (dC : Nat → ClassId) (dI : Nat → Nat → Nat) (dA : Nat → ClassId) (L : List Nat) (h : hx_h) (sz : Nat) (i1 : Int32) (i2 : Int32) (i3 : Int32) (i4 : Int32) (hT : hx_T T_tb L h)   : Met l yX10_areLives (Cond.code yX10_areLives cX10_areLives 4 (some .boolean) :: hx_all) ({ frames := 1, cells := 0, slots := 0, locals := 22 }) (va_Pc [.int i1, .int i2, .int i3, .int i4] (hx_B T_tb (P_ty dA) (dC, dI) vwCl L h sz)) (va_Qi (fun (r : Int32) (u : List Nat × hx_h) => ((r.toInt = 0 ∧ (i1.toInt < 0 ∨ 9999 < i1.toInt ∨ i2.toInt < 1 ∨ 20 < i2.toInt ∨ i3.toInt < 0 ∨ 99 < i3.toInt ∨ i4.toInt < 0 ∨ 99 < i4.toInt)) ∨ (r.toInt = 1 ∧ 0 ≤ i1.toInt ∧ i1.toInt ≤ 9999 ∧ 1 ≤ i2.toInt ∧ i2.toInt ≤ 20 ∧ 0 ≤ i3.toInt ∧ i3.toInt ≤ 99 ∧ 0 ≤ i4.toInt ∧ i4.toInt ≤ 99)) ∧ hx_T T_tb u.1 u.2 ∧ hx_S T_tb [] L h u.1 u.2) (hx_E T_tb (P_ty dA) (dC, dI) vwCl (hx_A L sz)) (hx_A L sz)) 0 0 (hx_A L sz) := by
  refine hx_met (lv := [(0, .int i1), (1, .int i2), (2, .int i3), (3, .int i4)]) (by decide +kernel) rfl (Nat.le_of_ble_eq_true rfl) rfl ?_
  intro p e s m below meth c hx hb hml hr hlk hts0 hown hin hsz hW ls hl
  have hts : ∀ w ∈ hx_all, w.before _ s = true := fun w hw => hts0 w (List.mem_cons_of_mem _ hw)
  have hown : s.vm.findClass "SmallCourtModel" = some m.cls := hown
  have hM : hx_S T_tb [] L h L h := hx_S.rf
  refine lv_iload_n hx hb dX10_areLives_0 rfl (lv_at hl 0 rfl) ?_
  refine lv_iconst (v := 0) hx hb dX10_areLives_1 (by decide) ?_
  refine lv_sipush (v := 9999) hx hb dX10_areLives_2 (by decide) ?_
  have zc_9999 : (9999 : Int32).toInt = 9999 := by decide
  have zc_0 : (0 : Int32).toInt = 0 := by decide
  refine hx_goi (hx_runS (As := [.int i1, .int (0 : Int32), .int (9999 : Int32)]) (rest := []) ⟨hx, hb, hml, hown, hts⟩ hW (t_X10_in l dC dI dA L h s.heap.size i1 (0 : Int32) (9999 : Int32) hT) (va_cwS 3 hts (hx_gS kw_1445 kw_1443 kw_1444 kw_103) rfl rfl rfl (by decide +kernel) ⟨Nat.le_of_ble_eq_true rfl, Nat.le_of_ble_eq_true rfl⟩) rfl hl.1 rfl (Nat.le_of_ble_eq_true rfl) dX10_areLives_5 ⟨Nat.le_of_ble_eq_true rfl, Nat.le_of_ble_eq_true rfl⟩) hW (fun r_3 L_1 h_2 H locs p_4 hW => ?_)
  obtain ⟨hr_5, hT, hs⟩ := p_4
  replace hT : hx_T T_tb L_1 h_2 := hT
  replace hs : hx_S T_tb [] L h L_1 h_2 := hs
  replace hM := hM.tr (hs.mono (by decide))
  refine hb_if_eq (zx := r_3.toInt) (tgt := 45) hx hb rfl dX10_areLives_8 (by decide) (fun c_6 => ?_) (fun c_6 => ?_)
  · skip
    replace hr_5 := hr_5.resolve_right (fun z9 => absurd (c_6.symm.trans z9.1) (by decide))
    replace hr_5 := hr_5.2
    refine lv_iconst (v := 0) hx hb dX10_areLives_45 (by decide) ?_
    exact hx_retz hx hb hr rfl hlk hW ⟨(by have zr : (0 : Int32).toInt = 0 := (by decide); (first | omega | (refine ⟨?_, ?_⟩ <;> omega))), hT, hM⟩ dX10_areLives_46
  · skip
    replace hr_5 := hr_5.resolve_left (fun z9 => c_6 z9.1)
    replace c_6 := hr_5.1
    replace hr_5 := hr_5.2
    refine lv_iload_n hx hb dX10_areLives_11 rfl (lv_at hl 1 rfl) ?_
    refine lv_iconst (v := 1) hx hb dX10_areLives_12 (by decide) ?_
    refine lv_bipush (v := 20) hx hb dX10_areLives_13 (by decide) ?_
    have zc_20 : (20 : Int32).toInt = 20 := by decide
    have zc_1 : (1 : Int32).toInt = 1 := by decide
    refine hx_goi (hx_runS (As := [.int i2, .int (1 : Int32), .int (20 : Int32)]) (rest := []) ⟨hx, hb, hml, hown, hts⟩ hW (t_X10_in l dC dI dA L_1 h_2 H.size i2 (1 : Int32) (20 : Int32) hT) (va_cwS 3 hts (hx_gS kw_1445 kw_1443 kw_1444 kw_103) rfl rfl rfl (by decide +kernel) ⟨Nat.le_of_ble_eq_true rfl, Nat.le_of_ble_eq_true rfl⟩) rfl hl.1 rfl (Nat.le_of_ble_eq_true rfl) dX10_areLives_15 ⟨Nat.le_of_ble_eq_true rfl, Nat.le_of_ble_eq_true rfl⟩) hW (fun r_9 L_7 h_8 H locs p_10 hW => ?_)
    obtain ⟨hr_11, hT, hs⟩ := p_10
    replace hT : hx_T T_tb L_7 h_8 := hT
    replace hs : hx_S T_tb [] L_1 h_2 L_7 h_8 := hs
    replace hM := hM.tr (hs.mono (by decide))
    refine hb_if_eq (zx := r_9.toInt) (tgt := 45) hx hb rfl dX10_areLives_18 (by decide) (fun c_12 => ?_) (fun c_12 => ?_)
    · skip
      replace hr_11 := hr_11.resolve_right (fun z9 => absurd (c_12.symm.trans z9.1) (by decide))
      replace hr_11 := hr_11.2
      refine lv_iconst (v := 0) hx hb dX10_areLives_45 (by decide) ?_
      exact hx_retz hx hb hr rfl hlk hW ⟨(by have zr : (0 : Int32).toInt = 0 := (by decide); (first | omega | (refine ⟨?_, ?_⟩ <;> omega))), hT, hM⟩ dX10_areLives_46
    · skip
      replace hr_11 := hr_11.resolve_left (fun z9 => c_12 z9.1)
      replace c_12 := hr_11.1
      replace hr_11 := hr_11.2
      refine lv_iload_n hx hb dX10_areLives_21 rfl (lv_at hl 2 rfl) ?_
      refine lv_iconst (v := 0) hx hb dX10_areLives_22 (by decide) ?_
      refine lv_bipush (v := 99) hx hb dX10_areLives_23 (by decide) ?_
      have zc_99 : (99 : Int32).toInt = 99 := by decide
      refine hx_goi (hx_runS (As := [.int i3, .int (0 : Int32), .int (99 : Int32)]) (rest := []) ⟨hx, hb, hml, hown, hts⟩ hW (t_X10_in l dC dI dA L_7 h_8 H.size i3 (0 : Int32) (99 : Int32) hT) (va_cwS 3 hts (hx_gS kw_1445 kw_1443 kw_1444 kw_103) rfl rfl rfl (by decide +kernel) ⟨Nat.le_of_ble_eq_true rfl, Nat.le_of_ble_eq_true rfl⟩) rfl hl.1 rfl (Nat.le_of_ble_eq_true rfl) dX10_areLives_25 ⟨Nat.le_of_ble_eq_true rfl, Nat.le_of_ble_eq_true rfl⟩) hW (fun r_15 L_13 h_14 H locs p_16 hW => ?_)
      obtain ⟨hr_17, hT, hs⟩ := p_16
      replace hT : hx_T T_tb L_13 h_14 := hT
      replace hs : hx_S T_tb [] L_7 h_8 L_13 h_14 := hs
      replace hM := hM.tr (hs.mono (by decide))
      refine hb_if_eq (zx := r_15.toInt) (tgt := 45) hx hb rfl dX10_areLives_28 (by decide) (fun c_18 => ?_) (fun c_18 => ?_)
      · skip
        replace hr_17 := hr_17.resolve_right (fun z9 => absurd (c_18.symm.trans z9.1) (by decide))
        replace hr_17 := hr_17.2
        refine lv_iconst (v := 0) hx hb dX10_areLives_45 (by decide) ?_
        exact hx_retz hx hb hr rfl hlk hW ⟨(by have zr : (0 : Int32).toInt = 0 := (by decide); (first | omega | (refine ⟨?_, ?_⟩ <;> omega))), hT, hM⟩ dX10_areLives_46
      · skip
        replace hr_17 := hr_17.resolve_left (fun z9 => c_18 z9.1)
        replace c_18 := hr_17.1
        replace hr_17 := hr_17.2
        refine lv_iload_n hx hb dX10_areLives_31 rfl (lv_at hl 3 rfl) ?_
        refine lv_iconst (v := 0) hx hb dX10_areLives_32 (by decide) ?_
        refine lv_bipush (v := 99) hx hb dX10_areLives_33 (by decide) ?_
        refine hx_goi (hx_runS (As := [.int i4, .int (0 : Int32), .int (99 : Int32)]) (rest := []) ⟨hx, hb, hml, hown, hts⟩ hW (t_X10_in l dC dI dA L_13 h_14 H.size i4 (0 : Int32) (99 : Int32) hT) (va_cwS 3 hts (hx_gS kw_1445 kw_1443 kw_1444 kw_103) rfl rfl rfl (by decide +kernel) ⟨Nat.le_of_ble_eq_true rfl, Nat.le_of_ble_eq_true rfl⟩) rfl hl.1 rfl (Nat.le_of_ble_eq_true rfl) dX10_areLives_35 ⟨Nat.le_of_ble_eq_true rfl, Nat.le_of_ble_eq_true rfl⟩) hW (fun r_21 L_19 h_20 H locs p_22 hW => ?_)
        obtain ⟨hr_23, hT, hs⟩ := p_22
        replace hT : hx_T T_tb L_19 h_20 := hT
        replace hs : hx_S T_tb [] L_13 h_14 L_19 h_20 := hs
        replace hM := hM.tr (hs.mono (by decide))
        refine hb_if_eq (zx := r_21.toInt) (tgt := 45) hx hb rfl dX10_areLives_38 (by decide) (fun c_24 => ?_) (fun c_24 => ?_)
        · skip
          replace hr_23 := hr_23.resolve_right (fun z9 => absurd (c_24.symm.trans z9.1) (by decide))
          replace hr_23 := hr_23.2
          refine lv_iconst (v := 0) hx hb dX10_areLives_45 (by decide) ?_
          exact hx_retz hx hb hr rfl hlk hW ⟨(by have zr : (0 : Int32).toInt = 0 := (by decide); (first | omega | (refine ⟨?_, ?_⟩ <;> omega))), hT, hM⟩ dX10_areLives_46
        · skip
          replace hr_23 := hr_23.resolve_left (fun z9 => c_24 z9.1)
          replace c_24 := hr_23.1
          replace hr_23 := hr_23.2
          refine lv_iconst (v := 1) hx hb dX10_areLives_41 (by decide) ?_
          refine lv_goto (tgt := 46) hx hb dX10_areLives_42 (by decide) ?_
          exact hx_retz hx hb hr rfl hlk hW ⟨(by have zr : (1 : Int32).toInt = 1 := (by decide); (first | omega | (refine ⟨?_, ?_⟩ <;> omega))), hT, hM⟩ dX10_areLives_46


set_option maxHeartbeats 4000000 in
set_option maxRecDepth 100000 in
theorem t_X10_lives_2 (l : Launch) (dC : Nat → ClassId) (dI : Nat → Nat → Nat) (dA : Nat → ClassId) (L : List Nat) (h : hx_h) (sz : Nat) (x : Nat) (i1 : Int32) (i2 : Int32) (i3 : Int32) (i4 : Int32) (i5 : Int32) (hT : hx_T T_tb L h) (gx : hx_g L h x 10) (qdx : Nat) (gqdx : hx_g L h qdx 61) (f_x_24 : h.2.2 x 24 = some qdx) (qdy : Nat) (gqdy : hx_g L h qdy 62) (f_x_25 : h.2.2 x 25 = some qdy) (dxf : Nat → Int32) (af_qdx : h.2.1 qdx = dxf) (dyf : Nat → Int32) (af_qdy : h.2.1 qdy = dyf) (hi1 : 0 ≤ i1.toInt ∧ i1.toInt ≤ 39) (hi4 : 0 ≤ i4.toInt ∧ i4.toInt ≤ 99) (hi5 : 0 ≤ i5.toInt ∧ i5.toInt ≤ 99) : Met l yX10_lives (Cond.code yX10_lives cX10_lives 6 none :: hx_all) ({ frames := 0, cells := 0, slots := 0, locals := 0 }) (va_Pc [.ref x, .int i1, .int i2, .int i3, .int i4, .int i5] (hx_B T_tb (P_ty dA) (dC, dI) vwCl L h sz)) (va_Qv (fun (u : List Nat × hx_h) => (∃ (dxf1 : Nat → Int32) (dyf1 : Nat → Int32), u.2.2.1 qdx = dxf1 ∧ u.2.2.1 qdy = dyf1 ∧ (dxf1 = hx_up dxf i1.toInt.toNat i4 ∧ dyf1 = hx_up dyf i1.toInt.toNat i5)) ∧ hx_T T_tb u.1 u.2 ∧ hx_S T_tb [(59, 0), (60, 0), (61, 0), (62, 0)] L h u.1 u.2) (hx_E T_tb (P_ty dA) (dC, dI) vwCl (hx_A L sz)) (hx_A L sz)) 0 0 (hx_A L sz) := by
  refine hx_met (lv := [(0, .ref x), (1, .int i1), (2, .int i2), (3, .int i3), (4, .int i4), (5, .int i5)]) (by decide +kernel) rfl (Nat.le_of_ble_eq_true rfl) rfl ?_
  intro p e s m below meth c hx hb hml hr hlk hts0 hown hin hsz hW ls hl
  have hts : ∀ w ∈ hx_all, w.before _ s = true := fun w hw => hts0 w (List.mem_cons_of_mem _ hw)
  have hown : s.vm.findClass "SmallCourtModel" = some m.cls := hown
  have hM : hx_S T_tb [(59, 0), (60, 0), (61, 0), (62, 0)] L h L h := hx_S.rf
  refine lv_aload_n hx hb dX10_lives_0 rfl (lv_at hl 0 rfl) ?_
  refine hx_getn hx hb hts hC_10 hown hW hT (gx.S hM) tt_10 22 (by decide) rfl kw_1165 ⟨rfl, rfl, rfl⟩ dX10_lives_1 (fun q_1 fq_1 gq_1 => ?_)
  refine lv_iload_n hx hb dX10_lives_4 rfl (lv_at hl 1 rfl) ?_
  refine lv_iload_n hx hb dX10_lives_5 rfl (lv_at hl 2 rfl) ?_
  refine hx_iast hx hb hW hT (hx_S.rf (M := [(59, 0)])) gq_1 tt_59 rfl ⟨by omega, by omega⟩ rfl (i32_r _) (List.mem_singleton.mpr rfl) dX10_lives_6 (fun H locs h_2 eh_2 hW hT hs => ?_)
  replace fq_1 := (hs.o (gx.S hM) trivial rfl).2.trans fq_1
  replace af_qdx : h_2.2.1 qdx = dxf := (funext fun j => (hs.a (gqdx.S hM) rfl j).1).trans af_qdx
  replace af_qdy : h_2.2.1 qdy = dyf := (funext fun j => (hs.a (gqdy.S hM) rfl j).1).trans af_qdy
  replace hM := hM.tr (hs.mono (by decide))
  replace gq_1 := gq_1.S hs
  refine lv_aload_n hx hb dX10_lives_7 rfl (lv_at hl 0 rfl) ?_
  refine hx_getn hx hb hts hC_10 hown hW hT (gx.S hM) tt_10 23 (by decide) rfl kw_1166 ⟨rfl, rfl, rfl⟩ dX10_lives_8 (fun q_3 fq_3 gq_3 => ?_)
  refine lv_iload_n hx hb dX10_lives_11 rfl (lv_at hl 1 rfl) ?_
  refine lv_iload_n hx hb dX10_lives_12 rfl (lv_at hl 3 rfl) ?_
  refine hx_iast hx hb hW hT (hx_S.rf (M := [(60, 0)])) gq_3 tt_60 rfl ⟨by omega, by omega⟩ rfl (i32_r _) (List.mem_singleton.mpr rfl) dX10_lives_13 (fun H locs h_4 eh_4 hW hT hs => ?_)
  replace fq_1 := (hs.o (gx.S hM) trivial rfl).2.trans fq_1
  replace fq_3 := (hs.o (gx.S hM) trivial rfl).2.trans fq_3
  replace af_qdx : h_4.2.1 qdx = dxf := (funext fun j => (hs.a (gqdx.S hM) rfl j).1).trans af_qdx
  replace af_qdy : h_4.2.1 qdy = dyf := (funext fun j => (hs.a (gqdy.S hM) rfl j).1).trans af_qdy
  replace hM := hM.tr (hs.mono (by decide))
  replace gq_1 := gq_1.S hs
  replace gq_3 := gq_3.S hs
  refine lv_aload_n hx hb dX10_lives_14 rfl (lv_at hl 0 rfl) ?_
  refine hk_getr hx hb hts hC_10 hown hW (gx.S hM) tt_10 24 (by decide) rfl kw_1167 ⟨rfl, rfl, rfl⟩ ((hM.o gx trivial rfl).2.trans f_x_24) dX10_lives_15 ?_
  refine lv_iload_n hx hb dX10_lives_18 rfl (lv_at hl 1 rfl) ?_
  refine lv_iload hx hb dX10_lives_19 (lv_at hl 4 rfl) ?_
  have af_qdxO := af_qdx
  refine hx_iast hx hb hW hT (hx_S.rf (M := [(61, 0)])) (gqdx.S hM) tt_61 rfl ⟨by omega, by omega⟩ rfl ⟨by omega, by omega⟩ (List.mem_singleton.mpr rfl) dX10_lives_21 (fun H locs h_5 eh_5 hW hT hs => ?_)
  replace fq_1 := (hs.o (gx.S hM) trivial rfl).2.trans fq_1
  replace fq_3 := (hs.o (gx.S hM) trivial rfl).2.trans fq_3
  replace af_qdy : h_5.2.1 qdy = dyf := (funext fun j => (hs.a (gqdy.S hM) rfl j).1).trans af_qdy
  replace hM := hM.tr (hs.mono (by decide))
  replace gq_1 := gq_1.S hs
  replace gq_3 := gq_3.S hs
  obtain ⟨fa_6, dfa_6⟩ : ∃ g : Nat → Int32, g = hx_up dxf i1.toNatClampNeg i4 := ⟨_, rfl⟩
  have nfa_6 : h_5.2.1 qdx = fa_6 := by rw [eh_5, dfa_6, ← af_qdxO]; exact hx_pi_fun _ _ _ _
  refine lv_aload_n hx hb dX10_lives_22 rfl (lv_at hl 0 rfl) ?_
  refine hk_getr hx hb hts hC_10 hown hW (gx.S hM) tt_10 25 (by decide) rfl kw_1168 ⟨rfl, rfl, rfl⟩ ((hM.o gx trivial rfl).2.trans f_x_25) dX10_lives_23 ?_
  refine lv_iload_n hx hb dX10_lives_26 rfl (lv_at hl 1 rfl) ?_
  refine lv_iload hx hb dX10_lives_27 (lv_at hl 5 rfl) ?_
  have af_qdyO := af_qdy
  refine hx_iast hx hb hW hT (hx_S.rf (M := [(62, 0)])) (gqdy.S hM) tt_62 rfl ⟨by omega, by omega⟩ rfl ⟨by omega, by omega⟩ (List.mem_singleton.mpr rfl) dX10_lives_29 (fun H locs h_7 eh_7 hW hT hs => ?_)
  replace fq_1 := (hs.o (gx.S hM) trivial rfl).2.trans fq_1
  replace fq_3 := (hs.o (gx.S hM) trivial rfl).2.trans fq_3
  replace nfa_6 : h_7.2.1 qdx = fa_6 := (funext fun j => (hs.a (gqdx.S hM) rfl j).1).trans nfa_6
  replace hM := hM.tr (hs.mono (by decide))
  replace gq_1 := gq_1.S hs
  replace gq_3 := gq_3.S hs
  obtain ⟨fa_8, dfa_8⟩ : ∃ g : Nat → Int32, g = hx_up dyf i1.toNatClampNeg i5 := ⟨_, rfl⟩
  have nfa_8 : h_7.2.1 qdy = fa_8 := by rw [eh_7, dfa_8, ← af_qdyO]; exact hx_pi_fun _ _ _ _
  exact hx_retv hx hb hr hlk hW ⟨⟨fa_6, fa_8, nfa_6, nfa_8, ⟨dfa_6, dfa_8⟩⟩, hT, hM⟩ dX10_lives_30


set_option maxHeartbeats 4000000 in
set_option maxRecDepth 100000 in
theorem t_X10_person_2 (l : Launch) (dC : Nat → ClassId) (dI : Nat → Nat → Nat) (dA : Nat → ClassId) (L : List Nat) (h : hx_h) (sz : Nat) (x : Nat) (i1 : Int32) (i2 : Int32) (i3 : Int32) (i4 : Int32) (i5 : Int32) (i6 : Int32) (hT : hx_T T_tb L h) (gx : hx_g L h x 10) (qdx : Nat) (gqdx : hx_g L h qdx 61) (f_x_24 : h.2.2 x 24 = some qdx) (qdy : Nat) (gqdy : hx_g L h qdy 62) (f_x_25 : h.2.2 x 25 = some qdy) (dxf : Nat → Int32) (af_qdx : h.2.1 qdx = dxf) (dyf : Nat → Int32) (af_qdy : h.2.1 qdy = dyf) (pn0 : Int32) (f_x_20 : h.2.1 x 20 = pn0) : Met l yX10_person (Cond.code yX10_person cX10_person 7 (some .int) :: hx_all) ({ frames := 2, cells := 0, slots := 0, locals := 45 }) (va_Pc [.ref x, .int i1, .int i2, .int i3, .int i4, .int i5, .int i6] (hx_B T_tb (P_ty dA) (dC, dI) vwCl L h sz)) (va_Qi (fun (r : Int32) (u : List Nat × hx_h) => (∃ (pn1 : Int32) (dxf1 : Nat → Int32) (dyf1 : Nat → Int32), u.2.2.1 x 20 = pn1 ∧ u.2.2.1 qdx = dxf1 ∧ u.2.2.1 qdy = dyf1 ∧ ((hx_PS pn0.toInt i1.toInt i2.toInt i3.toInt i4.toInt i5.toInt i6.toInt r.toInt pn1.toInt) ∧ hx_CD pn0.toInt r.toInt i4 dxf dxf1 ∧ hx_CD pn0.toInt r.toInt i5 dyf dyf1)) ∧ hx_T T_tb u.1 u.2 ∧ hx_S T_tb [(10, 20), (58, 0), (59, 0), (60, 0), (61, 0), (62, 0), (63, 0)] L h u.1 u.2) (hx_E T_tb (P_ty dA) (dC, dI) vwCl (hx_A L sz)) (hx_A L sz)) 0 0 (hx_A L sz) := by
  refine hx_met (lv := [(0, .ref x), (1, .int i1), (2, .int i2), (3, .int i3), (4, .int i4), (5, .int i5), (6, .int i6)]) (by decide +kernel) rfl (Nat.le_of_ble_eq_true rfl) rfl ?_
  intro p e s m below meth c hx hb hml hr hlk hts0 hown hin hsz hW ls hl
  have hts : ∀ w ∈ hx_all, w.before _ s = true := fun w hw => hts0 w (List.mem_cons_of_mem _ hw)
  have hown : s.vm.findClass "SmallCourtModel" = some m.cls := hown
  have hM : hx_S T_tb [(10, 20), (58, 0), (59, 0), (60, 0), (61, 0), (62, 0), (63, 0)] L h L h := hx_S.rf
  have b_pn0 := hT.gi gx tt_10 (k := 20) rfl
  rw [f_x_20] at b_pn0
  have b_pn0 : 0 ≤ pn0.toInt ∧ pn0.toInt ≤ 40 := b_pn0
  refine lv_aload_n hx hb dX10_person_0 rfl (lv_at hl 0 rfl) ?_
  refine hk_geti hx hb hts hC_10 hown hW (gx.S hM) tt_10 20 (by decide) rfl kw_1163 ⟨rfl, rfl, rfl⟩ f_x_20 dX10_person_1 ?_
  refine lv_bipush (v := 40) hx hb dX10_person_4 (by decide) ?_
  refine hb_icmp_eq (zx := pn0.toInt) (zy := 40) (tgt := 45) hx hb rfl (by decide) dX10_person_6 (by decide) (fun c_1 => ?_) (fun c_1 => ?_)
  · skip
    refine lv_iconst (v := -1) hx hb dX10_person_45 (by decide) ?_
    exact hx_reti hx hb hr hlk hW ⟨⟨pn0, dxf, dyf, f_x_20, af_qdx, af_qdy, ⟨(Or.inl ⟨by decide, by omega, by unfold hx_pcn; omega⟩), (Or.inl ⟨by decide, rfl⟩), (Or.inl ⟨by decide, rfl⟩)⟩⟩, hT, hM⟩ dX10_person_46
  · skip
    refine lv_iload_n hx hb dX10_person_9 rfl (lv_at hl 1 rfl) ?_
    refine lv_sipush (v := -30000) hx hb dX10_person_10 (by decide) ?_
    refine lv_sipush (v := 7999) hx hb dX10_person_13 (by decide) ?_
    have zc_7999 : (7999 : Int32).toInt = 7999 := by decide
    have zc_m30000 : (-30000 : Int32).toInt = -30000 := by decide
    refine hx_goi (hx_runS (As := [.int i1, .int (-30000 : Int32), .int (7999 : Int32)]) (rest := []) ⟨hx, hb, hml, hown, hts⟩ hW (t_X10_in l dC dI dA L h s.heap.size i1 (-30000 : Int32) (7999 : Int32) hT) (va_cwS 3 hts (hx_gS kw_1445 kw_1443 kw_1444 kw_103) rfl rfl rfl (by decide +kernel) ⟨Nat.le_of_ble_eq_true rfl, Nat.le_of_ble_eq_true rfl⟩) rfl hl.1 rfl (Nat.le_of_ble_eq_true rfl) dX10_person_16 ⟨Nat.le_of_ble_eq_true rfl, Nat.le_of_ble_eq_true rfl⟩) hW (fun r_4 L_2 h_3 H locs p_5 hW => ?_)
    obtain ⟨hr_6, hT, hs⟩ := p_5
    replace hT : hx_T T_tb L_2 h_3 := hT
    replace hs : hx_S T_tb [] L h L_2 h_3 := hs
    replace f_x_20 := (hs.o (gx.S hM) trivial rfl).1.trans f_x_20
    replace af_qdx : h_3.2.1 qdx = dxf := (funext fun j => (hs.a (gqdx.S hM) rfl j).1).trans af_qdx
    replace af_qdy : h_3.2.1 qdy = dyf := (funext fun j => (hs.a (gqdy.S hM) rfl j).1).trans af_qdy
    replace hM := hM.tr (hs.mono (by decide))
    refine hb_if_eq (zx := r_4.toInt) (tgt := 45) hx hb rfl dX10_person_19 (by decide) (fun c_7 => ?_) (fun c_7 => ?_)
    · skip
      replace hr_6 := hr_6.resolve_right (fun z9 => absurd (c_7.symm.trans z9.1) (by decide))
      replace hr_6 := hr_6.2
      refine lv_iconst (v := -1) hx hb dX10_person_45 (by decide) ?_
      exact hx_reti hx hb hr hlk hW ⟨⟨pn0, dxf, dyf, f_x_20, af_qdx, af_qdy, ⟨(Or.inl ⟨by decide, by omega, by unfold hx_pcn; omega⟩), (Or.inl ⟨by decide, rfl⟩), (Or.inl ⟨by decide, rfl⟩)⟩⟩, hT, hM⟩ dX10_person_46
    · skip
      replace hr_6 := hr_6.resolve_left (fun z9 => c_7 z9.1)
      replace c_7 := hr_6.1
      replace hr_6 := hr_6.2
      refine lv_iload_n hx hb dX10_person_22 rfl (lv_at hl 2 rfl) ?_
      refine lv_iload_n hx hb dX10_person_23 rfl (lv_at hl 3 rfl) ?_
      refine lv_iload hx hb dX10_person_24 (lv_at hl 4 rfl) ?_
      refine lv_iload hx hb dX10_person_26 (lv_at hl 5 rfl) ?_
      refine hx_goi (hx_runS (As := [.int i2, .int i3, .int i4, .int i5]) (rest := []) ⟨hx, hb, hml, hown, hts⟩ hW (t_X10_areLives_2 l dC dI dA L_2 h_3 H.size i2 i3 i4 i5 hT) (va_cwS 4 hts (hx_gS kw_1540 kw_1538 kw_1539 kw_103) rfl rfl rfl (by decide +kernel) ⟨Nat.le_of_ble_eq_true rfl, Nat.le_of_ble_eq_true rfl⟩) rfl hl.1 rfl (Nat.le_of_ble_eq_true rfl) dX10_person_28 ⟨Nat.le_of_ble_eq_true rfl, Nat.le_of_ble_eq_true rfl⟩) hW (fun r_10 L_8 h_9 H locs p_11 hW => ?_)
      obtain ⟨hr_12, hT, hs⟩ := p_11
      replace hT : hx_T T_tb L_8 h_9 := hT
      replace hs : hx_S T_tb [] L_2 h_3 L_8 h_9 := hs
      replace f_x_20 := (hs.o (gx.S hM) trivial rfl).1.trans f_x_20
      replace af_qdx : h_9.2.1 qdx = dxf := (funext fun j => (hs.a (gqdx.S hM) rfl j).1).trans af_qdx
      replace af_qdy : h_9.2.1 qdy = dyf := (funext fun j => (hs.a (gqdy.S hM) rfl j).1).trans af_qdy
      replace hM := hM.tr (hs.mono (by decide))
      refine hb_if_eq (zx := r_10.toInt) (tgt := 45) hx hb rfl dX10_person_31 (by decide) (fun c_13 => ?_) (fun c_13 => ?_)
      · skip
        refine lv_iconst (v := -1) hx hb dX10_person_45 (by decide) ?_
        exact hx_reti hx hb hr hlk hW ⟨⟨pn0, dxf, dyf, f_x_20, af_qdx, af_qdy, ⟨(Or.inl ⟨by decide, by omega, by unfold hx_pcn; omega⟩), (Or.inl ⟨by decide, rfl⟩), (Or.inl ⟨by decide, rfl⟩)⟩⟩, hT, hM⟩ dX10_person_46
      · skip
        refine lv_iload hx hb dX10_person_34 (lv_at hl 6 rfl) ?_
        refine lv_iconst (v := -1) hx hb dX10_person_36 (by decide) ?_
        refine lv_bipush (v := 19) hx hb dX10_person_37 (by decide) ?_
        have zc_19 : (19 : Int32).toInt = 19 := by decide
        have zc_m1 : (-1 : Int32).toInt = -1 := by decide
        refine hx_goi (hx_runS (As := [.int i6, .int (-1 : Int32), .int (19 : Int32)]) (rest := []) ⟨hx, hb, hml, hown, hts⟩ hW (t_X10_in l dC dI dA L_8 h_9 H.size i6 (-1 : Int32) (19 : Int32) hT) (va_cwS 3 hts (hx_gS kw_1445 kw_1443 kw_1444 kw_103) rfl rfl rfl (by decide +kernel) ⟨Nat.le_of_ble_eq_true rfl, Nat.le_of_ble_eq_true rfl⟩) rfl hl.1 rfl (Nat.le_of_ble_eq_true rfl) dX10_person_39 ⟨Nat.le_of_ble_eq_true rfl, Nat.le_of_ble_eq_true rfl⟩) hW (fun r_16 L_14 h_15 H locs p_17 hW => ?_)
        obtain ⟨hr_18, hT, hs⟩ := p_17
        replace hT : hx_T T_tb L_14 h_15 := hT
        replace hs : hx_S T_tb [] L_8 h_9 L_14 h_15 := hs
        replace f_x_20 := (hs.o (gx.S hM) trivial rfl).1.trans f_x_20
        replace af_qdx : h_15.2.1 qdx = dxf := (funext fun j => (hs.a (gqdx.S hM) rfl j).1).trans af_qdx
        replace af_qdy : h_15.2.1 qdy = dyf := (funext fun j => (hs.a (gqdy.S hM) rfl j).1).trans af_qdy
        replace hM := hM.tr (hs.mono (by decide))
        refine hb_if_ne (zx := r_16.toInt) (tgt := 47) hx hb rfl dX10_person_42 (by decide) (fun c_19 => ?_) (fun c_19 => ?_)
        · skip
          replace hr_18 := hr_18.resolve_left (fun z9 => c_19 z9.1)
          replace c_19 := hr_18.1
          replace hr_18 := hr_18.2
          refine lv_aload_n hx hb dX10_person_47 rfl (lv_at hl 0 rfl) ?_
          refine hx_getn hx hb hts hC_10 hown hW hT (gx.S hM) tt_10 21 (by decide) rfl kw_1164 ⟨rfl, rfl, rfl⟩ dX10_person_48 (fun q_20 fq_20 gq_20 => ?_)
          refine lv_aload_n hx hb dX10_person_51 rfl (lv_at hl 0 rfl) ?_
          refine hk_geti hx hb hts hC_10 hown hW (gx.S hM) tt_10 20 (by decide) rfl kw_1163 ⟨rfl, rfl, rfl⟩ f_x_20 dX10_person_52 ?_
          refine lv_iload_n hx hb dX10_person_55 rfl (lv_at hl 1 rfl) ?_
          refine hx_iast hx hb hW hT (hx_S.rf (M := [(58, 0)])) gq_20 tt_58 rfl ⟨by omega, by omega⟩ rfl (i32_r _) (List.mem_singleton.mpr rfl) dX10_person_56 (fun H locs h_21 eh_21 hW hT hs => ?_)
          replace f_x_20 := (hs.o (gx.S hM) trivial rfl).1.trans f_x_20
          replace fq_20 := (hs.o (gx.S hM) trivial rfl).2.trans fq_20
          replace af_qdx : h_21.2.1 qdx = dxf := (funext fun j => (hs.a (gqdx.S hM) rfl j).1).trans af_qdx
          replace af_qdy : h_21.2.1 qdy = dyf := (funext fun j => (hs.a (gqdy.S hM) rfl j).1).trans af_qdy
          replace hM := hM.tr (hs.mono (by decide))
          replace gq_20 := gq_20.S hs
          refine lv_aload_n hx hb dX10_person_57 rfl (lv_at hl 0 rfl) ?_
          refine hx_getn hx hb hts hC_10 hown hW hT (gx.S hM) tt_10 26 (by decide) rfl kw_1169 ⟨rfl, rfl, rfl⟩ dX10_person_58 (fun q_22 fq_22 gq_22 => ?_)
          refine lv_aload_n hx hb dX10_person_61 rfl (lv_at hl 0 rfl) ?_
          refine hk_geti hx hb hts hC_10 hown hW (gx.S hM) tt_10 20 (by decide) rfl kw_1163 ⟨rfl, rfl, rfl⟩ f_x_20 dX10_person_62 ?_
          refine lv_iload hx hb dX10_person_65 (lv_at hl 6 rfl) ?_
          refine hx_iast hx hb hW hT (hx_S.rf (M := [(63, 0)])) gq_22 tt_63 rfl ⟨by omega, by omega⟩ rfl (i32_r _) (List.mem_singleton.mpr rfl) dX10_person_67 (fun H locs h_23 eh_23 hW hT hs => ?_)
          replace f_x_20 := (hs.o (gx.S hM) trivial rfl).1.trans f_x_20
          replace fq_20 := (hs.o (gx.S hM) trivial rfl).2.trans fq_20
          replace fq_22 := (hs.o (gx.S hM) trivial rfl).2.trans fq_22
          replace af_qdx : h_23.2.1 qdx = dxf := (funext fun j => (hs.a (gqdx.S hM) rfl j).1).trans af_qdx
          replace af_qdy : h_23.2.1 qdy = dyf := (funext fun j => (hs.a (gqdy.S hM) rfl j).1).trans af_qdy
          replace hM := hM.tr (hs.mono (by decide))
          replace gq_20 := gq_20.S hs
          replace gq_22 := gq_22.S hs
          refine lv_aload_n hx hb dX10_person_68 rfl (lv_at hl 0 rfl) ?_
          refine lv_dup hx hb dX10_person_69 rfl ?_
          refine hk_geti hx hb hts hC_10 hown hW (gx.S hM) tt_10 20 (by decide) rfl kw_1163 ⟨rfl, rfl, rfl⟩ f_x_20 dX10_person_70 ?_
          refine lv_iconst (v := 1) hx hb dX10_person_73 (by decide) ?_
          refine lv_iadd hx hb dX10_person_74 ?_
          have rg_24 := i32_r pn0
          refine lv_topi (fun x_25 ex_25 => ?_)
          have zx_25 : x_25.toInt = pn0.toInt + 1 := by rw [ex_25]; exact i32_add rfl (by decide) (by omega) (by omega)
          refine hx_puti hx hb hts hC_10 hown hW hT (hx_S.rf (M := [(10, 20)])) (gx.S hM) tt_10 20 (by decide) rfl kw_1163 ⟨rfl, rfl, rfl⟩ rfl (x := x_25) ⟨by omega, by omega⟩ rfl rfl rfl (List.mem_singleton.mpr rfl) dX10_person_75 (fun H locs h_26 eh_26 hW hT hs => ?_)
          replace fq_20 := (hs.o (gx.S hM) trivial rfl).2.trans fq_20
          replace fq_22 := (hs.o (gx.S hM) trivial rfl).2.trans fq_22
          replace af_qdx : h_26.2.1 qdx = dxf := (funext fun j => (hs.a (gqdx.S hM) rfl j).1).trans af_qdx
          replace af_qdy : h_26.2.1 qdy = dyf := (funext fun j => (hs.a (gqdy.S hM) rfl j).1).trans af_qdy
          replace hM := hM.tr (hs.mono (by decide))
          replace gq_20 := gq_20.S hs
          replace gq_22 := gq_22.S hs
          have f_27 : h_26.2.1 x 20 = x_25 := by rw [eh_26]; exact hx_pi_at _ _ _ _
          refine lv_aload_n hx hb dX10_person_78 rfl (lv_at hl 0 rfl) ?_
          refine lv_aload_n hx hb dX10_person_79 rfl (lv_at hl 0 rfl) ?_
          refine hk_geti hx hb hts hC_10 hown hW (gx.S hM) tt_10 20 (by decide) rfl kw_1163 ⟨rfl, rfl, rfl⟩ f_27 dX10_person_80 ?_
          refine lv_iconst (v := 1) hx hb dX10_person_83 (by decide) ?_
          refine lv_isub hx hb dX10_person_84 ?_
          have rg_28 := i32_r x_25
          refine lv_topi (fun x_29 ex_29 => ?_)
          have zx_29 : x_29.toInt = x_25.toInt - 1 := by rw [ex_29]; exact i32_sub rfl (by decide) (by omega) (by omega)
          refine lv_iload_n hx hb dX10_person_85 rfl (lv_at hl 2 rfl) ?_
          refine lv_iload_n hx hb dX10_person_86 rfl (lv_at hl 3 rfl) ?_
          refine lv_iload hx hb dX10_person_87 (lv_at hl 4 rfl) ?_
          refine lv_iload hx hb dX10_person_89 (lv_at hl 5 rfl) ?_
          refine hx_gov (hx_runV (As := [.int x_29, .int i2, .int i3, .int i4, .int i5]) (rest := []) ⟨hx, hb, hml, hown, hts⟩ hW (gx.S hM) tt_10 (T := TX10) (N := 98) rfl (t_X10_lives_2 l dC dI dA L_14 h_26 H.size x x_29 i2 i3 i4 i5 hT (gx.S hM) qdx (gqdx.S hM) ((hM.o gx trivial rfl).2.trans f_x_24) qdy (gqdy.S hM) ((hM.o gx trivial rfl).2.trans f_x_25) dxf af_qdx dyf af_qdy ⟨by omega, by omega⟩ ⟨by omega, by omega⟩ ⟨by omega, by omega⟩) (cwV 5 hts (hx_gV kw_1544 kw_1541 kw_1543 kw_67 kw_103) rfl rfl rfl (by decide +kernel) ⟨Nat.le_of_ble_eq_true rfl, Nat.le_of_ble_eq_true rfl⟩) rfl hl.1 rfl (Nat.le_of_ble_eq_true rfl) dX10_person_91 ⟨Nat.le_of_ble_eq_true rfl, Nat.le_of_ble_eq_true rfl⟩) hW (fun L_30 h_31 H locs p_33 hW => ?_)
          obtain ⟨⟨w_35, w_36, fw_35, fw_36, hr_34⟩, hT, hs⟩ := p_33
          replace hT : hx_T T_tb L_30 h_31 := hT
          replace hs : hx_S T_tb [(59, 0), (60, 0), (61, 0), (62, 0)] L_14 h_26 L_30 h_31 := hs
          replace fq_20 := (hs.o (gx.S hM) trivial rfl).2.trans fq_20
          replace fq_22 := (hs.o (gx.S hM) trivial rfl).2.trans fq_22
          replace f_27 := (hs.o (gx.S hM) trivial rfl).1.trans f_27
          replace hM := hM.tr (hs.mono (by decide))
          replace gq_20 := gq_20.S hs
          replace gq_22 := gq_22.S hs
          have fw_35 : h_31.2.1 qdx = w_35 := fw_35
          have fw_36 : h_31.2.1 qdy = w_36 := fw_36
          refine lv_aload_n hx hb dX10_person_94 rfl (lv_at hl 0 rfl) ?_
          refine hk_geti hx hb hts hC_10 hown hW (gx.S hM) tt_10 20 (by decide) rfl kw_1163 ⟨rfl, rfl, rfl⟩ f_27 dX10_person_95 ?_
          refine lv_iconst (v := 1) hx hb dX10_person_98 (by decide) ?_
          refine lv_isub hx hb dX10_person_99 ?_
          refine lv_topi (fun x_37 ex_37 => ?_)
          have zx_37 : x_37.toInt = x_25.toInt - 1 := by rw [ex_37]; exact i32_sub rfl (by decide) (by omega) (by omega)
          exact hx_reti hx hb hr hlk hW ⟨⟨x_25, w_35, w_36, f_27, fw_35, fw_36, ⟨(Or.inr ⟨by omega, by omega, by unfold hx_pcn; omega⟩), (Or.inr ⟨by omega, by omega, (hr_34.1.trans (congrArg (fun z => hx_up dxf z i4) (by omega)))⟩), (Or.inr ⟨by omega, by omega, (hr_34.2.trans (congrArg (fun z => hx_up dyf z i5) (by omega)))⟩)⟩⟩, hT, hM⟩ dX10_person_100
        · skip
          replace hr_18 := hr_18.resolve_right (fun z9 => absurd (c_19.symm.trans z9.1) (by decide))
          replace hr_18 := hr_18.2
          refine lv_iconst (v := -1) hx hb dX10_person_45 (by decide) ?_
          exact hx_reti hx hb hr hlk hW ⟨⟨pn0, dxf, dyf, f_x_20, af_qdx, af_qdy, ⟨(Or.inl ⟨by decide, by omega, by unfold hx_pcn; omega⟩), (Or.inl ⟨by decide, rfl⟩), (Or.inl ⟨by decide, rfl⟩)⟩⟩, hT, hM⟩ dX10_person_46


set_option maxHeartbeats 4000000 in
set_option maxRecDepth 100000 in
theorem t_X10_dies_2 (l : Launch) (dC : Nat → ClassId) (dI : Nat → Nat → Nat) (dA : Nat → ClassId) (L : List Nat) (h : hx_h) (sz : Nat) (x : Nat) (i1 : Int32) (hT : hx_T T_tb L h) (gx : hx_g L h x 10) (qd : Nat) (gqd : hx_g L h qd 64) (f_x_27 : h.2.2 x 27 = some qd) (df : Nat → Int32) (af_qd : h.2.1 qd = df) (pn0 : Int32) (f_x_20 : h.2.1 x 20 = pn0) : Met l yX10_dies (Cond.code yX10_dies cX10_dies 2 (some .boolean) :: hx_all) ({ frames := 2, cells := 0, slots := 0, locals := 43 }) (va_Pc [.ref x, .int i1] (hx_B T_tb (P_ty dA) (dC, dI) vwCl L h sz)) (va_Qi (fun (r : Int32) (u : List Nat × hx_h) => (∃ (df1 : Nat → Int32), u.2.2.1 qd = df1 ∧ (hx_JS pn0.toInt i1.toInt 1 df r.toInt df1)) ∧ hx_T T_tb u.1 u.2 ∧ hx_S T_tb [(64, 0)] L h u.1 u.2) (hx_E T_tb (P_ty dA) (dC, dI) vwCl (hx_A L sz)) (hx_A L sz)) 0 0 (hx_A L sz) := by
  refine hx_met (lv := [(0, .ref x), (1, .int i1)]) (by decide +kernel) rfl (Nat.le_of_ble_eq_true rfl) rfl ?_
  intro p e s m below meth c hx hb hml hr hlk hts0 hown hin hsz hW ls hl
  have hts : ∀ w ∈ hx_all, w.before _ s = true := fun w hw => hts0 w (List.mem_cons_of_mem _ hw)
  have hown : s.vm.findClass "SmallCourtModel" = some m.cls := hown
  have hM : hx_S T_tb [(64, 0)] L h L h := hx_S.rf
  have b_pn0 := hT.gi gx tt_10 (k := 20) rfl
  rw [f_x_20] at b_pn0
  have b_pn0 : 0 ≤ pn0.toInt ∧ pn0.toInt ≤ 40 := b_pn0
  refine lv_aload_n hx hb dX10_dies_0 rfl (lv_at hl 0 rfl) ?_
  refine lv_iload_n hx hb dX10_dies_1 rfl (lv_at hl 1 rfl) ?_
  refine hx_goi (hx_runV (As := [.int i1]) (rest := []) ⟨hx, hb, hml, hown, hts⟩ hW (gx.S hM) tt_10 (T := TX10) (N := 98) rfl (t_X10_isPerson l dC dI dA L h s.heap.size x i1 hT (gx.S hM) pn0 ((hM.o gx trivial rfl).1.trans f_x_20)) (cwV 1 hts (hx_gV kw_1552 kw_1549 kw_1551 kw_68 kw_103) rfl rfl rfl (by decide +kernel) ⟨Nat.le_of_ble_eq_true rfl, Nat.le_of_ble_eq_true rfl⟩) rfl hl.1 rfl (Nat.le_of_ble_eq_true rfl) dX10_dies_2 ⟨Nat.le_of_ble_eq_true rfl, Nat.le_of_ble_eq_true rfl⟩) hW (fun r_3 L_1 h_2 H locs p_4 hW => ?_)
  obtain ⟨hr_5, hT, hs⟩ := p_4
  replace hT : hx_T T_tb L_1 h_2 := hT
  replace hs : hx_S T_tb [] L h L_1 h_2 := hs
  replace af_qd : h_2.2.1 qd = df := (funext fun j => (hs.a (gqd.S hM) rfl j).1).trans af_qd
  replace hM := hM.tr (hs.mono (by decide))
  refine hb_if_eq (zx := r_3.toInt) (tgt := 17) hx hb rfl dX10_dies_5 (by decide) (fun c_6 => ?_) (fun c_6 => ?_)
  · skip
    replace hr_5 := hr_5.resolve_right (fun z9 => absurd (c_6.symm.trans z9.1) (by decide))
    replace hr_5 := hr_5.2
    refine lv_iconst (v := 0) hx hb dX10_dies_17 (by decide) ?_
    exact hx_retz hx hb hr rfl hlk hW ⟨⟨df, af_qd, (Or.inl ⟨by decide, rfl, fun hc => by have := hc.1; have := hc.2.1; omega⟩)⟩, hT, hM⟩ dX10_dies_18
  · skip
    replace hr_5 := hr_5.resolve_left (fun z9 => c_6 z9.1)
    replace c_6 := hr_5.1
    replace hr_5 := hr_5.2
    refine lv_aload_n hx hb dX10_dies_8 rfl (lv_at hl 0 rfl) ?_
    refine hk_getr hx hb hts hC_10 hown hW (gx.S hM) tt_10 27 (by decide) rfl kw_1170 ⟨rfl, rfl, rfl⟩ ((hM.o gx trivial rfl).2.trans f_x_27) dX10_dies_9 ?_
    refine lv_iload_n hx hb dX10_dies_12 rfl (lv_at hl 1 rfl) ?_
    refine hx_zald hx hb hW hT (gqd.S hM) tt_64 rfl ⟨by omega, by omega⟩ dX10_dies_13 (fun x_7 ex_7 lx_7 ux_7 => ?_)
    have ax_7 : x_7 = df i1.toNatClampNeg := ex_7.trans (congrFun af_qd _)
    refine hb_if_eq (zx := x_7.toInt) (tgt := 19) hx hb rfl dX10_dies_14 (by decide) (fun c_8 => ?_) (fun c_8 => ?_)
    · skip
      refine lv_aload_n hx hb dX10_dies_19 rfl (lv_at hl 0 rfl) ?_
      refine hk_getr hx hb hts hC_10 hown hW (gx.S hM) tt_10 27 (by decide) rfl kw_1170 ⟨rfl, rfl, rfl⟩ ((hM.o gx trivial rfl).2.trans f_x_27) dX10_dies_20 ?_
      refine lv_iload_n hx hb dX10_dies_23 rfl (lv_at hl 1 rfl) ?_
      refine lv_iconst (v := 1) hx hb dX10_dies_24 (by decide) ?_
      have af_qdO := af_qd
      refine hx_zast hx hb hW hT (hx_S.rf (M := [(64, 0)])) (gqd.S hM) tt_64 rfl ⟨by omega, by omega⟩ (y := 1) (by decide) (by decide) (List.mem_singleton.mpr rfl) dX10_dies_25 (fun H locs h_9 eh_9 hW hT hs => ?_)
      replace hM := hM.tr (hs.mono (by decide))
      obtain ⟨fa_10, dfa_10⟩ : ∃ g : Nat → Int32, g = hx_up df i1.toNatClampNeg (1 : Int32) := ⟨_, rfl⟩
      have nfa_10 : h_9.2.1 qd = fa_10 := by rw [eh_9, dfa_10, ← af_qdO]; exact hx_pi_fun _ _ _ _
      refine lv_iconst (v := 1) hx hb dX10_dies_26 (by decide) ?_
      exact hx_retz hx hb hr rfl hlk hW ⟨⟨fa_10, nfa_10, (Or.inr ⟨by decide, dfa_10, by omega, by omega, (by have z1 : (1 : Int32).toInt = 1 := (by decide); show (df i1.toNatClampNeg).toInt ≠ _; rw [← ax_7]; omega)⟩)⟩, hT, hM⟩ dX10_dies_27
    · skip
      refine lv_iconst (v := 0) hx hb dX10_dies_17 (by decide) ?_
      exact hx_retz hx hb hr rfl hlk hW ⟨⟨df, af_qd, (Or.inl ⟨by decide, rfl, fun hc => hc.2.2 (by have z1 : (1 : Int32).toInt = 1 := (by decide); show (df i1.toNatClampNeg).toInt = _; rw [← ax_7]; omega)⟩)⟩, hT, hM⟩ dX10_dies_18


set_option maxHeartbeats 4000000 in
set_option maxRecDepth 100000 in
theorem t_X10_judge_2 (l : Launch) (dC : Nat → ClassId) (dI : Nat → Nat → Nat) (dA : Nat → ClassId) (L : List Nat) (h : hx_h) (sz : Nat) (x : Nat) (i1 : Int32) (i2 : Int32) (hT : hx_T T_tb L h) (gx : hx_g L h x 10) (qd : Nat) (gqd : hx_g L h qd 65) (f_x_28 : h.2.2 x 28 = some qd) (df : Nat → Int32) (af_qd : h.2.1 qd = df) (pn0 : Int32) (f_x_20 : h.2.1 x 20 = pn0) (hi2 : i2.toInt = 0 ∨ i2.toInt = 1) : Met l yX10_judge (Cond.code yX10_judge cX10_judge 3 (some .boolean) :: hx_all) ({ frames := 2, cells := 0, slots := 0, locals := 43 }) (va_Pc [.ref x, .int i1, .int i2] (hx_B T_tb (P_ty dA) (dC, dI) vwCl L h sz)) (va_Qi (fun (r : Int32) (u : List Nat × hx_h) => (∃ (df1 : Nat → Int32), u.2.2.1 qd = df1 ∧ (hx_JS pn0.toInt i1.toInt i2 df r.toInt df1)) ∧ hx_T T_tb u.1 u.2 ∧ hx_S T_tb [(65, 0)] L h u.1 u.2) (hx_E T_tb (P_ty dA) (dC, dI) vwCl (hx_A L sz)) (hx_A L sz)) 0 0 (hx_A L sz) := by
  refine hx_met (lv := [(0, .ref x), (1, .int i1), (2, .int i2)]) (by decide +kernel) rfl (Nat.le_of_ble_eq_true rfl) rfl ?_
  intro p e s m below meth c hx hb hml hr hlk hts0 hown hin hsz hW ls hl
  have hts : ∀ w ∈ hx_all, w.before _ s = true := fun w hw => hts0 w (List.mem_cons_of_mem _ hw)
  have hown : s.vm.findClass "SmallCourtModel" = some m.cls := hown
  have hM : hx_S T_tb [(65, 0)] L h L h := hx_S.rf
  have b_pn0 := hT.gi gx tt_10 (k := 20) rfl
  rw [f_x_20] at b_pn0
  have b_pn0 : 0 ≤ pn0.toInt ∧ pn0.toInt ≤ 40 := b_pn0
  refine lv_aload_n hx hb dX10_judge_0 rfl (lv_at hl 0 rfl) ?_
  refine lv_iload_n hx hb dX10_judge_1 rfl (lv_at hl 1 rfl) ?_
  refine hx_goi (hx_runV (As := [.int i1]) (rest := []) ⟨hx, hb, hml, hown, hts⟩ hW (gx.S hM) tt_10 (T := TX10) (N := 98) rfl (t_X10_isPerson l dC dI dA L h s.heap.size x i1 hT (gx.S hM) pn0 ((hM.o gx trivial rfl).1.trans f_x_20)) (cwV 1 hts (hx_gV kw_1552 kw_1549 kw_1551 kw_68 kw_103) rfl rfl rfl (by decide +kernel) ⟨Nat.le_of_ble_eq_true rfl, Nat.le_of_ble_eq_true rfl⟩) rfl hl.1 rfl (Nat.le_of_ble_eq_true rfl) dX10_judge_2 ⟨Nat.le_of_ble_eq_true rfl, Nat.le_of_ble_eq_true rfl⟩) hW (fun r_3 L_1 h_2 H locs p_4 hW => ?_)
  obtain ⟨hr_5, hT, hs⟩ := p_4
  replace hT : hx_T T_tb L_1 h_2 := hT
  replace hs : hx_S T_tb [] L h L_1 h_2 := hs
  replace af_qd : h_2.2.1 qd = df := (funext fun j => (hs.a (gqd.S hM) rfl j).1).trans af_qd
  replace hM := hM.tr (hs.mono (by decide))
  refine hb_if_eq (zx := r_3.toInt) (tgt := 18) hx hb rfl dX10_judge_5 (by decide) (fun c_6 => ?_) (fun c_6 => ?_)
  · skip
    replace hr_5 := hr_5.resolve_right (fun z9 => absurd (c_6.symm.trans z9.1) (by decide))
    replace hr_5 := hr_5.2
    refine lv_iconst (v := 0) hx hb dX10_judge_18 (by decide) ?_
    exact hx_retz hx hb hr rfl hlk hW ⟨⟨df, af_qd, (Or.inl ⟨by decide, rfl, fun hc => by have := hc.1; have := hc.2.1; omega⟩)⟩, hT, hM⟩ dX10_judge_19
  · skip
    replace hr_5 := hr_5.resolve_left (fun z9 => c_6 z9.1)
    replace c_6 := hr_5.1
    replace hr_5 := hr_5.2
    refine lv_aload_n hx hb dX10_judge_8 rfl (lv_at hl 0 rfl) ?_
    refine hk_getr hx hb hts hC_10 hown hW (gx.S hM) tt_10 28 (by decide) rfl kw_1171 ⟨rfl, rfl, rfl⟩ ((hM.o gx trivial rfl).2.trans f_x_28) dX10_judge_9 ?_
    refine lv_iload_n hx hb dX10_judge_12 rfl (lv_at hl 1 rfl) ?_
    refine hx_zald hx hb hW hT (gqd.S hM) tt_65 rfl ⟨by omega, by omega⟩ dX10_judge_13 (fun x_7 ex_7 lx_7 ux_7 => ?_)
    have ax_7 : x_7 = df i1.toNatClampNeg := ex_7.trans (congrFun af_qd _)
    refine lv_iload_n hx hb dX10_judge_14 rfl (lv_at hl 2 rfl) ?_
    refine hb_icmp_ne (zx := x_7.toInt) (zy := i2.toInt) (tgt := 20) hx hb rfl rfl dX10_judge_15 (by decide) (fun c_8 => ?_) (fun c_8 => ?_)
    · skip
      refine lv_aload_n hx hb dX10_judge_20 rfl (lv_at hl 0 rfl) ?_
      refine hk_getr hx hb hts hC_10 hown hW (gx.S hM) tt_10 28 (by decide) rfl kw_1171 ⟨rfl, rfl, rfl⟩ ((hM.o gx trivial rfl).2.trans f_x_28) dX10_judge_21 ?_
      refine lv_iload_n hx hb dX10_judge_24 rfl (lv_at hl 1 rfl) ?_
      refine lv_iload_n hx hb dX10_judge_25 rfl (lv_at hl 2 rfl) ?_
      have af_qdO := af_qd
      refine hx_zast hx hb hW hT (hx_S.rf (M := [(65, 0)])) (gqd.S hM) tt_65 rfl ⟨by omega, by omega⟩ (y := i2) (hx_nz01 (by omega)) ⟨by omega, by omega⟩ (List.mem_singleton.mpr rfl) dX10_judge_26 (fun H locs h_9 eh_9 hW hT hs => ?_)
      replace hM := hM.tr (hs.mono (by decide))
      obtain ⟨fa_10, dfa_10⟩ : ∃ g : Nat → Int32, g = hx_up df i1.toNatClampNeg i2 := ⟨_, rfl⟩
      have nfa_10 : h_9.2.1 qd = fa_10 := by rw [eh_9, dfa_10, ← af_qdO]; exact hx_pi_fun _ _ _ _
      refine lv_iconst (v := 1) hx hb dX10_judge_27 (by decide) ?_
      exact hx_retz hx hb hr rfl hlk hW ⟨⟨fa_10, nfa_10, (Or.inr ⟨by decide, dfa_10, by omega, by omega, (by have z1 : (1 : Int32).toInt = 1 := (by decide); show (df i1.toNatClampNeg).toInt ≠ _; rw [← ax_7]; omega)⟩)⟩, hT, hM⟩ dX10_judge_28
    · skip
      refine lv_iconst (v := 0) hx hb dX10_judge_18 (by decide) ?_
      exact hx_retz hx hb hr rfl hlk hW ⟨⟨df, af_qd, (Or.inl ⟨by decide, rfl, fun hc => hc.2.2 (by have z1 : (1 : Int32).toInt = 1 := (by decide); show (df i1.toNatClampNeg).toInt = _; rw [← ax_7]; omega)⟩)⟩, hT, hM⟩ dX10_judge_19


set_option maxHeartbeats 4000000 in
set_option maxRecDepth 100000 in
theorem t_X10_anew_2 (l : Launch) (dC : Nat → ClassId) (dI : Nat → Nat → Nat) (dA : Nat → ClassId) (L : List Nat) (h : hx_h) (sz : Nat) (x : Nat) (i1 : Int32) (i2 : Int32) (i3 : Int32) (i4 : Int32) (i5 : Int32) (hT : hx_T T_tb L h) (gx : hx_g L h x 10) (qd : Nat) (gqd : hx_g L h qd 64) (f_x_27 : h.2.2 x 27 = some qd) (qdx : Nat) (gqdx : hx_g L h qdx 61) (f_x_24 : h.2.2 x 24 = some qdx) (qdy : Nat) (gqdy : hx_g L h qdy 62) (f_x_25 : h.2.2 x 25 = some qdy) (df : Nat → Int32) (af_qd : h.2.1 qd = df) (dxf : Nat → Int32) (af_qdx : h.2.1 qdx = dxf) (dyf : Nat → Int32) (af_qdy : h.2.1 qdy = dyf) (pn0 : Int32) (f_x_20 : h.2.1 x 20 = pn0) : Met l yX10_anew (Cond.code yX10_anew cX10_anew 6 (some .boolean) :: hx_all) ({ frames := 2, cells := 0, slots := 0, locals := 45 }) (va_Pc [.ref x, .int i1, .int i2, .int i3, .int i4, .int i5] (hx_B T_tb (P_ty dA) (dC, dI) vwCl L h sz)) (va_Qi (fun (r : Int32) (u : List Nat × hx_h) => (∃ (dxf1 : Nat → Int32) (dyf1 : Nat → Int32), u.2.2.1 qdx = dxf1 ∧ u.2.2.1 qdy = dyf1 ∧ (hx_AS pn0.toInt i1.toInt i2.toInt i3.toInt i4.toInt i5.toInt df r.toInt ∧ hw_AD r.toInt i1.toInt i4 dxf dxf1 ∧ hw_AD r.toInt i1.toInt i5 dyf dyf1)) ∧ hx_T T_tb u.1 u.2 ∧ hx_S T_tb [(59, 0), (60, 0), (61, 0), (62, 0)] L h u.1 u.2) (hx_E T_tb (P_ty dA) (dC, dI) vwCl (hx_A L sz)) (hx_A L sz)) 0 0 (hx_A L sz) := by
  refine hx_met (lv := [(0, .ref x), (1, .int i1), (2, .int i2), (3, .int i3), (4, .int i4), (5, .int i5)]) (by decide +kernel) rfl (Nat.le_of_ble_eq_true rfl) rfl ?_
  intro p e s m below meth c hx hb hml hr hlk hts0 hown hin hsz hW ls hl
  have hts : ∀ w ∈ hx_all, w.before _ s = true := fun w hw => hts0 w (List.mem_cons_of_mem _ hw)
  have hown : s.vm.findClass "SmallCourtModel" = some m.cls := hown
  have hM : hx_S T_tb [(59, 0), (60, 0), (61, 0), (62, 0)] L h L h := hx_S.rf
  have b_pn0 := hT.gi gx tt_10 (k := 20) rfl
  rw [f_x_20] at b_pn0
  have b_pn0 : 0 ≤ pn0.toInt ∧ pn0.toInt ≤ 40 := b_pn0
  refine lv_aload_n hx hb dX10_anew_0 rfl (lv_at hl 0 rfl) ?_
  refine lv_iload_n hx hb dX10_anew_1 rfl (lv_at hl 1 rfl) ?_
  refine hx_goi (hx_runV (As := [.int i1]) (rest := []) ⟨hx, hb, hml, hown, hts⟩ hW (gx.S hM) tt_10 (T := TX10) (N := 98) rfl (t_X10_isPerson l dC dI dA L h s.heap.size x i1 hT (gx.S hM) pn0 ((hM.o gx trivial rfl).1.trans f_x_20)) (cwV 1 hts (hx_gV kw_1552 kw_1549 kw_1551 kw_68 kw_103) rfl rfl rfl (by decide +kernel) ⟨Nat.le_of_ble_eq_true rfl, Nat.le_of_ble_eq_true rfl⟩) rfl hl.1 rfl (Nat.le_of_ble_eq_true rfl) dX10_anew_2 ⟨Nat.le_of_ble_eq_true rfl, Nat.le_of_ble_eq_true rfl⟩) hW (fun r_3 L_1 h_2 H locs p_4 hW => ?_)
  obtain ⟨hr_5, hT, hs⟩ := p_4
  replace hT : hx_T T_tb L_1 h_2 := hT
  replace hs : hx_S T_tb [] L h L_1 h_2 := hs
  replace af_qdx : h_2.2.1 qdx = dxf := (funext fun j => (hs.a (gqdx.S hM) rfl j).1).trans af_qdx
  replace af_qdy : h_2.2.1 qdy = dyf := (funext fun j => (hs.a (gqdy.S hM) rfl j).1).trans af_qdy
  replace hM := hM.tr (hs.mono (by decide))
  refine hb_if_eq (zx := r_3.toInt) (tgt := 29) hx hb rfl dX10_anew_5 (by decide) (fun c_6 => ?_) (fun c_6 => ?_)
  · skip
    replace hr_5 := hr_5.resolve_right (fun z9 => absurd (c_6.symm.trans z9.1) (by decide))
    replace hr_5 := hr_5.2
    refine lv_iconst (v := 0) hx hb dX10_anew_29 (by decide) ?_
    exact hx_retz hx hb hr rfl hlk hW ⟨⟨dxf, dyf, af_qdx, af_qdy, ⟨(Or.inl ⟨by decide, fun hc => by have := hc.1; omega⟩), (Or.inl ⟨by decide, rfl⟩), (Or.inl ⟨by decide, rfl⟩)⟩⟩, hT, hM⟩ dX10_anew_30
  · skip
    replace hr_5 := hr_5.resolve_left (fun z9 => c_6 z9.1)
    replace c_6 := hr_5.1
    replace hr_5 := hr_5.2
    refine lv_aload_n hx hb dX10_anew_8 rfl (lv_at hl 0 rfl) ?_
    refine hk_getr hx hb hts hC_10 hown hW (gx.S hM) tt_10 27 (by decide) rfl kw_1170 ⟨rfl, rfl, rfl⟩ ((hM.o gx trivial rfl).2.trans f_x_27) dX10_anew_9 ?_
    refine lv_iload_n hx hb dX10_anew_12 rfl (lv_at hl 1 rfl) ?_
    refine hx_zald hx hb hW hT (gqd.S hM) tt_64 rfl ⟨by omega, by omega⟩ dX10_anew_13 (fun x_7 ex_7 lx_7 ux_7 => ?_)
    have ax_7 : x_7 = df i1.toNatClampNeg := ex_7.trans (congrFun (hx_afS hM gqd rfl af_qd) _)
    refine hb_if_ne (zx := x_7.toInt) (tgt := 29) hx hb rfl dX10_anew_14 (by decide) (fun c_8 => ?_) (fun c_8 => ?_)
    · skip
      refine lv_iconst (v := 0) hx hb dX10_anew_29 (by decide) ?_
      exact hx_retz hx hb hr rfl hlk hW ⟨⟨dxf, dyf, af_qdx, af_qdy, ⟨(Or.inl ⟨by decide, fun hc => by have h1 : (df i1.toNatClampNeg).toInt = 0 := hc.2.1; have h2 := hc.2.2; unfold hx_hh at h2; rw [← ax_7] at h1; omega⟩), (Or.inl ⟨by decide, rfl⟩), (Or.inl ⟨by decide, rfl⟩)⟩⟩, hT, hM⟩ dX10_anew_30
    · skip
      refine lv_iload_n hx hb dX10_anew_17 rfl (lv_at hl 2 rfl) ?_
      refine lv_iload_n hx hb dX10_anew_18 rfl (lv_at hl 3 rfl) ?_
      refine lv_iload hx hb dX10_anew_19 (lv_at hl 4 rfl) ?_
      refine lv_iload hx hb dX10_anew_21 (lv_at hl 5 rfl) ?_
      refine hx_goi (hx_runS (As := [.int i2, .int i3, .int i4, .int i5]) (rest := []) ⟨hx, hb, hml, hown, hts⟩ hW (t_X10_areLives_2 l dC dI dA L_1 h_2 H.size i2 i3 i4 i5 hT) (va_cwS 4 hts (hx_gS kw_1540 kw_1538 kw_1539 kw_103) rfl rfl rfl (by decide +kernel) ⟨Nat.le_of_ble_eq_true rfl, Nat.le_of_ble_eq_true rfl⟩) rfl hl.1 rfl (Nat.le_of_ble_eq_true rfl) dX10_anew_23 ⟨Nat.le_of_ble_eq_true rfl, Nat.le_of_ble_eq_true rfl⟩) hW (fun r_11 L_9 h_10 H locs p_12 hW => ?_)
      obtain ⟨hr_13, hT, hs⟩ := p_12
      replace hT : hx_T T_tb L_9 h_10 := hT
      replace hs : hx_S T_tb [] L_1 h_2 L_9 h_10 := hs
      replace af_qdx : h_10.2.1 qdx = dxf := (funext fun j => (hs.a (gqdx.S hM) rfl j).1).trans af_qdx
      replace af_qdy : h_10.2.1 qdy = dyf := (funext fun j => (hs.a (gqdy.S hM) rfl j).1).trans af_qdy
      replace ex_7 := ex_7.trans (hs.a (gqd.S hM) rfl _).1.symm
      replace hM := hM.tr (hs.mono (by decide))
      refine hb_if_ne (zx := r_11.toInt) (tgt := 31) hx hb rfl dX10_anew_26 (by decide) (fun c_14 => ?_) (fun c_14 => ?_)
      · skip
        refine lv_aload_n hx hb dX10_anew_31 rfl (lv_at hl 0 rfl) ?_
        refine lv_iload_n hx hb dX10_anew_32 rfl (lv_at hl 1 rfl) ?_
        refine lv_iload_n hx hb dX10_anew_33 rfl (lv_at hl 2 rfl) ?_
        refine lv_iload_n hx hb dX10_anew_34 rfl (lv_at hl 3 rfl) ?_
        refine lv_iload hx hb dX10_anew_35 (lv_at hl 4 rfl) ?_
        refine lv_iload hx hb dX10_anew_37 (lv_at hl 5 rfl) ?_
        refine hx_gov (hx_runV (As := [.int i1, .int i2, .int i3, .int i4, .int i5]) (rest := []) ⟨hx, hb, hml, hown, hts⟩ hW (gx.S hM) tt_10 (T := TX10) (N := 98) rfl (t_X10_lives_2 l dC dI dA L_9 h_10 H.size x i1 i2 i3 i4 i5 hT (gx.S hM) qdx (gqdx.S hM) ((hM.o gx trivial rfl).2.trans f_x_24) qdy (gqdy.S hM) ((hM.o gx trivial rfl).2.trans f_x_25) dxf af_qdx dyf af_qdy ⟨by omega, by omega⟩ ⟨by omega, by omega⟩ ⟨by omega, by omega⟩) (cwV 5 hts (hx_gV kw_1544 kw_1541 kw_1543 kw_67 kw_103) rfl rfl rfl (by decide +kernel) ⟨Nat.le_of_ble_eq_true rfl, Nat.le_of_ble_eq_true rfl⟩) rfl hl.1 rfl (Nat.le_of_ble_eq_true rfl) dX10_anew_39 ⟨Nat.le_of_ble_eq_true rfl, Nat.le_of_ble_eq_true rfl⟩) hW (fun L_15 h_16 H locs p_18 hW => ?_)
        obtain ⟨⟨w_20, w_21, fw_20, fw_21, hr_19⟩, hT, hs⟩ := p_18
        replace hT : hx_T T_tb L_15 h_16 := hT
        replace hs : hx_S T_tb [(59, 0), (60, 0), (61, 0), (62, 0)] L_9 h_10 L_15 h_16 := hs
        replace ex_7 := ex_7.trans (hs.a (gqd.S hM) rfl _).1.symm
        replace hM := hM.tr (hs.mono (by decide))
        have fw_20 : h_16.2.1 qdx = w_20 := fw_20
        have fw_21 : h_16.2.1 qdy = w_21 := fw_21
        refine lv_iconst (v := 1) hx hb dX10_anew_42 (by decide) ?_
        exact hx_retz hx hb hr rfl hlk hW ⟨⟨w_20, w_21, fw_20, fw_21, ⟨(Or.inr ⟨by decide, ⟨by omega, by omega⟩, (by show (df i1.toNatClampNeg).toInt = 0; rw [← ax_7]; omega), by unfold hx_hh; omega⟩), (Or.inr ⟨by decide, (hr_19.1.trans (congrArg (fun z => hx_up dxf z i4) (by omega)))⟩), (Or.inr ⟨by decide, (hr_19.2.trans (congrArg (fun z => hx_up dyf z i5) (by omega)))⟩)⟩⟩, hT, hM⟩ dX10_anew_43
      · skip
        refine lv_iconst (v := 0) hx hb dX10_anew_29 (by decide) ?_
        exact hx_retz hx hb hr rfl hlk hW ⟨⟨dxf, dyf, af_qdx, af_qdy, ⟨(Or.inl ⟨by decide, fun hc => by have h1 : (df i1.toNatClampNeg).toInt = 0 := hc.2.1; have h2 := hc.2.2; unfold hx_hh at h2; rw [← ax_7] at h1; omega⟩), (Or.inl ⟨by decide, rfl⟩), (Or.inl ⟨by decide, rfl⟩)⟩⟩, hT, hM⟩ dX10_anew_30


set_option maxHeartbeats 4000000 in
set_option maxRecDepth 100000 in
theorem t_X10_file_3 (l : Launch) (dC : Nat → ClassId) (dI : Nat → Nat → Nat) (dA : Nat → ClassId) (L : List Nat) (h : hx_h) (sz : Nat) (x : Nat) (i1 : Int32) (i2 : Int32) (i3 : Int32) (i4 : Int32) (i5 : Int32) (i6 : Int32) (hT : hx_T T_tb L h) (gx : hx_g L h x 10) (qh : Nat) (gqh : hx_g L h qh 82) (f_x_47 : h.2.2 x 47 = some qh) (qc : Nat) (gqc : hx_g L h qc 79) (f_x_44 : h.2.2 x 44 = some qc) (qd : Nat) (gqd : hx_g L h qd 64) (f_x_27 : h.2.2 x 27 = some qd) (qf : Nat) (gqf : hx_g L h qf 81) (f_x_46 : h.2.2 x 46 = some qf) (qag : Nat) (gqag : hx_g L h qag 73) (f_x_38 : h.2.2 x 38 = some qag) (hf : Nat → Int32) (af_qh : h.2.1 qh = hf) (plf : Nat → Int32) (af_qc : h.2.1 qc = plf) (df : Nat → Int32) (af_qd : h.2.1 qd = df) (ff : Nat → Int32) (af_qf : h.2.1 qf = ff) (agf : Nat → Int32) (af_qag : h.2.1 qag = agf) (a0 : Int32) (f_x_1 : h.2.1 x 1 = a0) (c0 : Int32) (f_x_36 : h.2.1 x 36 = c0) (m0 : Int32) (f_x_57 : h.2.1 x 57 = m0) (pn0 : Int32) (f_x_20 : h.2.1 x 20 = pn0) (nw0 : Int32) (f_x_0 : h.2.1 x 0 = nw0) (hPL : hx_PL plf c0.toInt a0.toInt) (hHC : m0.toInt = hx_hc hf c0.toInt.toNat) : Met l yX10_file (Cond.code yX10_file cX10_file 9 (some .int) :: hx_all) ({ frames := 2, cells := 0, slots := 0, locals := 43 }) (va_Pc [.ref x, .int i1, .int i2, .int i3, .int i4, .int i5, .int i6] (hx_B T_tb (P_ty dA) (dC, dI) vwCl L h sz)) (va_Qi (fun (r : Int32) (u : List Nat × hx_h) => (∃ (cn1 : Int32) (hf1 : Nat → Int32) (plf1 : Nat → Int32) (ff1 : Nat → Int32) (agf1 : Nat → Int32), u.2.2.1 x 36 = cn1 ∧ u.2.2.1 qh = hf1 ∧ u.2.2.1 qc = plf1 ∧ u.2.2.1 qf = ff1 ∧ u.2.2.1 qag = agf1 ∧ (m0.toInt = hx_hc hf1 cn1.toInt.toNat ∧ hx_PL plf1 cn1.toInt a0.toInt ∧ (hx_FS c0.toInt pn0.toInt nw0.toInt i1.toInt i2.toInt i3.toInt i4.toInt i6.toInt df r.toInt cn1.toInt) ∧ hx_CD c0.toInt r.toInt (-1) ff ff1 ∧ ((cn1.toInt = c0.toInt ∧ hf1 = hf ∧ ff1 = ff) ∨ (cn1.toInt = c0.toInt + 1 ∧ hf1 = hx_up hf c0.toInt.toNat (-1) ∧ ff1 = hx_up ff c0.toInt.toNat (-1))) ∧ hw_UP r.toInt c0.toInt i2 agf agf1)) ∧ hx_T T_tb u.1 u.2 ∧ hx_S T_tb [(10, 36), (72, 0), (73, 0), (74, 0), (75, 0), (76, 0), (77, 0), (78, 0), (79, 0), (81, 0), (82, 0), (83, 0), (84, 0), (85, 0), (87, 0)] L h u.1 u.2) (hx_E T_tb (P_ty dA) (dC, dI) vwCl (hx_A L sz)) (hx_A L sz)) 0 0 (hx_A L sz) := by
  refine hx_met (lv := [(0, .ref x), (1, .int i1), (2, .int i2), (3, .int i3), (4, .int i4), (5, .int i5), (6, .int i6)]) (by decide +kernel) rfl (Nat.le_of_ble_eq_true rfl) rfl ?_
  intro p e s m below meth c hx hb hml hr hlk hts0 hown hin hsz hW ls hl
  have hts : ∀ w ∈ hx_all, w.before _ s = true := fun w hw => hts0 w (List.mem_cons_of_mem _ hw)
  have hown : s.vm.findClass "SmallCourtModel" = some m.cls := hown
  have hM : hx_S T_tb [(10, 36), (72, 0), (73, 0), (74, 0), (75, 0), (76, 0), (77, 0), (78, 0), (79, 0), (81, 0), (82, 0), (83, 0), (84, 0), (85, 0), (87, 0)] L h L h := hx_S.rf
  have b_a0 := hT.gi gx tt_10 (k := 1) rfl
  rw [f_x_1] at b_a0
  have b_a0 : 0 ≤ a0.toInt ∧ a0.toInt ≤ 8 := b_a0
  have b_c0 := hT.gi gx tt_10 (k := 36) rfl
  rw [f_x_36] at b_c0
  have b_c0 : 0 ≤ c0.toInt ∧ c0.toInt ≤ 100 := b_c0
  have b_m0 := hT.gi gx tt_10 (k := 57) rfl
  rw [f_x_57] at b_m0
  have b_m0 : 0 ≤ m0.toInt ∧ m0.toInt ≤ 100 := b_m0
  have b_pn0 := hT.gi gx tt_10 (k := 20) rfl
  rw [f_x_20] at b_pn0
  have b_pn0 : 0 ≤ pn0.toInt ∧ pn0.toInt ≤ 40 := b_pn0
  have b_nw0 := hT.gi gx tt_10 (k := 0) rfl
  rw [f_x_0] at b_nw0
  have b_nw0 : 0 ≤ nw0.toInt ∧ nw0.toInt ≤ 7999 := b_nw0
  refine lv_aload_n hx hb dX10_file_0 rfl (lv_at hl 0 rfl) ?_
  refine hk_geti hx hb hts hC_10 hown hW (gx.S hM) tt_10 36 (by decide) rfl kw_1179 ⟨rfl, rfl, rfl⟩ f_x_36 dX10_file_1 ?_
  refine lv_bipush (v := 100) hx hb dX10_file_4 (by decide) ?_
  refine hb_icmp_eq (zx := c0.toInt) (zy := 100) (tgt := 74) hx hb rfl (by decide) dX10_file_6 (by decide) (fun c_1 => ?_) (fun c_1 => ?_)
  · skip
    refine lv_iconst (v := -1) hx hb dX10_file_74 (by decide) ?_
    exact hx_reti hx hb hr hlk hW ⟨⟨c0, hf, plf, ff, agf, f_x_36, af_qh, af_qc, af_qf, af_qag, ⟨hHC, hPL, (Or.inl ⟨by decide, by omega, fun hc => by unfold hx_FC at hc; omega⟩), (Or.inl ⟨by decide, rfl⟩), (Or.inl ⟨by omega, rfl, rfl⟩), (Or.inl ⟨by decide, rfl⟩)⟩⟩, hT, hM⟩ dX10_file_75
  · skip
    refine lv_aload_n hx hb dX10_file_9 rfl (lv_at hl 0 rfl) ?_
    refine lv_iload_n hx hb dX10_file_10 rfl (lv_at hl 1 rfl) ?_
    refine hx_goi (hx_runV (As := [.int i1]) (rest := []) ⟨hx, hb, hml, hown, hts⟩ hW (gx.S hM) tt_10 (T := TX10) (N := 98) rfl (t_X10_isPerson l dC dI dA L h s.heap.size x i1 hT (gx.S hM) pn0 ((hM.o gx trivial rfl).1.trans f_x_20)) (cwV 1 hts (hx_gV kw_1552 kw_1549 kw_1551 kw_68 kw_103) rfl rfl rfl (by decide +kernel) ⟨Nat.le_of_ble_eq_true rfl, Nat.le_of_ble_eq_true rfl⟩) rfl hl.1 rfl (Nat.le_of_ble_eq_true rfl) dX10_file_11 ⟨Nat.le_of_ble_eq_true rfl, Nat.le_of_ble_eq_true rfl⟩) hW (fun r_4 L_2 h_3 H locs p_5 hW => ?_)
    obtain ⟨hr_6, hT, hs⟩ := p_5
    replace hT : hx_T T_tb L_2 h_3 := hT
    replace hs : hx_S T_tb [] L h L_2 h_3 := hs
    replace f_x_36 := (hs.o (gx.S hM) trivial rfl).1.trans f_x_36
    replace af_qh : h_3.2.1 qh = hf := (funext fun j => (hs.a (gqh.S hM) rfl j).1).trans af_qh
    replace af_qc : h_3.2.1 qc = plf := (funext fun j => (hs.a (gqc.S hM) rfl j).1).trans af_qc
    replace af_qf : h_3.2.1 qf = ff := (funext fun j => (hs.a (gqf.S hM) rfl j).1).trans af_qf
    replace af_qag : h_3.2.1 qag = agf := (funext fun j => (hs.a (gqag.S hM) rfl j).1).trans af_qag
    replace hM := hM.tr (hs.mono (by decide))
    refine hb_if_eq (zx := r_4.toInt) (tgt := 74) hx hb rfl dX10_file_14 (by decide) (fun c_7 => ?_) (fun c_7 => ?_)
    · skip
      replace hr_6 := hr_6.resolve_right (fun z9 => absurd (c_7.symm.trans z9.1) (by decide))
      replace hr_6 := hr_6.2
      refine lv_iconst (v := -1) hx hb dX10_file_74 (by decide) ?_
      exact hx_reti hx hb hr hlk hW ⟨⟨c0, hf, plf, ff, agf, f_x_36, af_qh, af_qc, af_qf, af_qag, ⟨hHC, hPL, (Or.inl ⟨by decide, by omega, fun hc => by unfold hx_FC at hc; omega⟩), (Or.inl ⟨by decide, rfl⟩), (Or.inl ⟨by omega, rfl, rfl⟩), (Or.inl ⟨by decide, rfl⟩)⟩⟩, hT, hM⟩ dX10_file_75
    · skip
      replace hr_6 := hr_6.resolve_left (fun z9 => c_7 z9.1)
      replace c_7 := hr_6.1
      replace hr_6 := hr_6.2
      refine lv_aload_n hx hb dX10_file_17 rfl (lv_at hl 0 rfl) ?_
      refine lv_iload_n hx hb dX10_file_18 rfl (lv_at hl 2 rfl) ?_
      refine hx_goi (hx_runV (As := [.int i2]) (rest := []) ⟨hx, hb, hml, hown, hts⟩ hW (gx.S hM) tt_10 (T := TX10) (N := 98) rfl (t_X10_isPerson l dC dI dA L_2 h_3 H.size x i2 hT (gx.S hM) pn0 ((hM.o gx trivial rfl).1.trans f_x_20)) (cwV 1 hts (hx_gV kw_1552 kw_1549 kw_1551 kw_68 kw_103) rfl rfl rfl (by decide +kernel) ⟨Nat.le_of_ble_eq_true rfl, Nat.le_of_ble_eq_true rfl⟩) rfl hl.1 rfl (Nat.le_of_ble_eq_true rfl) dX10_file_19 ⟨Nat.le_of_ble_eq_true rfl, Nat.le_of_ble_eq_true rfl⟩) hW (fun r_10 L_8 h_9 H locs p_11 hW => ?_)
      obtain ⟨hr_12, hT, hs⟩ := p_11
      replace hT : hx_T T_tb L_8 h_9 := hT
      replace hs : hx_S T_tb [] L_2 h_3 L_8 h_9 := hs
      replace f_x_36 := (hs.o (gx.S hM) trivial rfl).1.trans f_x_36
      replace af_qh : h_9.2.1 qh = hf := (funext fun j => (hs.a (gqh.S hM) rfl j).1).trans af_qh
      replace af_qc : h_9.2.1 qc = plf := (funext fun j => (hs.a (gqc.S hM) rfl j).1).trans af_qc
      replace af_qf : h_9.2.1 qf = ff := (funext fun j => (hs.a (gqf.S hM) rfl j).1).trans af_qf
      replace af_qag : h_9.2.1 qag = agf := (funext fun j => (hs.a (gqag.S hM) rfl j).1).trans af_qag
      replace hM := hM.tr (hs.mono (by decide))
      refine hb_if_eq (zx := r_10.toInt) (tgt := 74) hx hb rfl dX10_file_22 (by decide) (fun c_13 => ?_) (fun c_13 => ?_)
      · skip
        replace hr_12 := hr_12.resolve_right (fun z9 => absurd (c_13.symm.trans z9.1) (by decide))
        replace hr_12 := hr_12.2
        refine lv_iconst (v := -1) hx hb dX10_file_74 (by decide) ?_
        exact hx_reti hx hb hr hlk hW ⟨⟨c0, hf, plf, ff, agf, f_x_36, af_qh, af_qc, af_qf, af_qag, ⟨hHC, hPL, (Or.inl ⟨by decide, by omega, fun hc => by unfold hx_FC at hc; omega⟩), (Or.inl ⟨by decide, rfl⟩), (Or.inl ⟨by omega, rfl, rfl⟩), (Or.inl ⟨by decide, rfl⟩)⟩⟩, hT, hM⟩ dX10_file_75
      · skip
        replace hr_12 := hr_12.resolve_left (fun z9 => c_13 z9.1)
        replace c_13 := hr_12.1
        replace hr_12 := hr_12.2
        refine lv_iload_n hx hb dX10_file_25 rfl (lv_at hl 1 rfl) ?_
        refine lv_iload_n hx hb dX10_file_26 rfl (lv_at hl 2 rfl) ?_
        refine hb_icmp_eq (zx := i1.toInt) (zy := i2.toInt) (tgt := 74) hx hb rfl rfl dX10_file_27 (by decide) (fun c_14 => ?_) (fun c_14 => ?_)
        · skip
          refine lv_iconst (v := -1) hx hb dX10_file_74 (by decide) ?_
          exact hx_reti hx hb hr hlk hW ⟨⟨c0, hf, plf, ff, agf, f_x_36, af_qh, af_qc, af_qf, af_qag, ⟨hHC, hPL, (Or.inl ⟨by decide, by omega, fun hc => by unfold hx_FC at hc; omega⟩), (Or.inl ⟨by decide, rfl⟩), (Or.inl ⟨by omega, rfl, rfl⟩), (Or.inl ⟨by decide, rfl⟩)⟩⟩, hT, hM⟩ dX10_file_75
        · skip
          refine lv_aload_n hx hb dX10_file_30 rfl (lv_at hl 0 rfl) ?_
          refine hk_getr hx hb hts hC_10 hown hW (gx.S hM) tt_10 27 (by decide) rfl kw_1170 ⟨rfl, rfl, rfl⟩ ((hM.o gx trivial rfl).2.trans f_x_27) dX10_file_31 ?_
          refine lv_iload_n hx hb dX10_file_34 rfl (lv_at hl 2 rfl) ?_
          refine hx_zald hx hb hW hT (gqd.S hM) tt_64 rfl ⟨by omega, by omega⟩ dX10_file_35 (fun x_15 ex_15 lx_15 ux_15 => ?_)
          have ax_15 : x_15 = df i2.toNatClampNeg := ex_15.trans (congrFun (hx_afS hM gqd rfl af_qd) _)
          refine hb_if_ne (zx := x_15.toInt) (tgt := 74) hx hb rfl dX10_file_36 (by decide) (fun c_16 => ?_) (fun c_16 => ?_)
          · skip
            refine lv_iconst (v := -1) hx hb dX10_file_74 (by decide) ?_
            exact hx_reti hx hb hr hlk hW ⟨⟨c0, hf, plf, ff, agf, f_x_36, af_qh, af_qc, af_qf, af_qag, ⟨hHC, hPL, (Or.inl ⟨by decide, by omega, fun hc => by unfold hx_FC at hc; have h1 : (df i2.toNatClampNeg).toInt = 0 := hc.2.2.2.2.1; rw [← ax_15] at h1; omega⟩), (Or.inl ⟨by decide, rfl⟩), (Or.inl ⟨by omega, rfl, rfl⟩), (Or.inl ⟨by decide, rfl⟩)⟩⟩, hT, hM⟩ dX10_file_75
          · skip
            refine lv_iload_n hx hb dX10_file_39 rfl (lv_at hl 3 rfl) ?_
            refine lv_iconst (v := 1) hx hb dX10_file_40 (by decide) ?_
            refine lv_sipush (v := 9999) hx hb dX10_file_41 (by decide) ?_
            have zc_9999 : (9999 : Int32).toInt = 9999 := by decide
            have zc_1 : (1 : Int32).toInt = 1 := by decide
            refine hx_goi (hx_runS (As := [.int i3, .int (1 : Int32), .int (9999 : Int32)]) (rest := []) ⟨hx, hb, hml, hown, hts⟩ hW (t_X10_in l dC dI dA L_8 h_9 H.size i3 (1 : Int32) (9999 : Int32) hT) (va_cwS 3 hts (hx_gS kw_1445 kw_1443 kw_1444 kw_103) rfl rfl rfl (by decide +kernel) ⟨Nat.le_of_ble_eq_true rfl, Nat.le_of_ble_eq_true rfl⟩) rfl hl.1 rfl (Nat.le_of_ble_eq_true rfl) dX10_file_44 ⟨Nat.le_of_ble_eq_true rfl, Nat.le_of_ble_eq_true rfl⟩) hW (fun r_19 L_17 h_18 H locs p_20 hW => ?_)
            obtain ⟨hr_21, hT, hs⟩ := p_20
            replace hT : hx_T T_tb L_17 h_18 := hT
            replace hs : hx_S T_tb [] L_8 h_9 L_17 h_18 := hs
            replace f_x_36 := (hs.o (gx.S hM) trivial rfl).1.trans f_x_36
            replace af_qh : h_18.2.1 qh = hf := (funext fun j => (hs.a (gqh.S hM) rfl j).1).trans af_qh
            replace af_qc : h_18.2.1 qc = plf := (funext fun j => (hs.a (gqc.S hM) rfl j).1).trans af_qc
            replace af_qf : h_18.2.1 qf = ff := (funext fun j => (hs.a (gqf.S hM) rfl j).1).trans af_qf
            replace af_qag : h_18.2.1 qag = agf := (funext fun j => (hs.a (gqag.S hM) rfl j).1).trans af_qag
            replace ex_15 := ex_15.trans (hs.a (gqd.S hM) rfl _).1.symm
            replace hM := hM.tr (hs.mono (by decide))
            refine hb_if_eq (zx := r_19.toInt) (tgt := 74) hx hb rfl dX10_file_47 (by decide) (fun c_22 => ?_) (fun c_22 => ?_)
            · skip
              replace hr_21 := hr_21.resolve_right (fun z9 => absurd (c_22.symm.trans z9.1) (by decide))
              replace hr_21 := hr_21.2
              refine lv_iconst (v := -1) hx hb dX10_file_74 (by decide) ?_
              exact hx_reti hx hb hr hlk hW ⟨⟨c0, hf, plf, ff, agf, f_x_36, af_qh, af_qc, af_qf, af_qag, ⟨hHC, hPL, (Or.inl ⟨by decide, by omega, fun hc => by unfold hx_FC at hc; have h1 : (df i2.toNatClampNeg).toInt = 0 := hc.2.2.2.2.1; rw [← ax_15] at h1; omega⟩), (Or.inl ⟨by decide, rfl⟩), (Or.inl ⟨by omega, rfl, rfl⟩), (Or.inl ⟨by decide, rfl⟩)⟩⟩, hT, hM⟩ dX10_file_75
            · skip
              replace hr_21 := hr_21.resolve_left (fun z9 => c_22 z9.1)
              replace c_22 := hr_21.1
              replace hr_21 := hr_21.2
              refine lv_iload hx hb dX10_file_50 (lv_at hl 4 rfl) ?_
              refine lv_iconst (v := 0) hx hb dX10_file_52 (by decide) ?_
              refine lv_aload_n hx hb dX10_file_53 rfl (lv_at hl 0 rfl) ?_
              refine hk_geti hx hb hts hC_10 hown hW (gx.S hM) tt_10 0 (by decide) rfl kw_1143 ⟨rfl, rfl, rfl⟩ ((hM.o gx trivial rfl).1.trans f_x_0) dX10_file_54 ?_
              have zc_0 : (0 : Int32).toInt = 0 := by decide
              refine hx_goi (hx_runS (As := [.int i4, .int (0 : Int32), .int nw0]) (rest := []) ⟨hx, hb, hml, hown, hts⟩ hW (t_X10_in l dC dI dA L_17 h_18 H.size i4 (0 : Int32) nw0 hT) (va_cwS 3 hts (hx_gS kw_1445 kw_1443 kw_1444 kw_103) rfl rfl rfl (by decide +kernel) ⟨Nat.le_of_ble_eq_true rfl, Nat.le_of_ble_eq_true rfl⟩) rfl hl.1 rfl (Nat.le_of_ble_eq_true rfl) dX10_file_57 ⟨Nat.le_of_ble_eq_true rfl, Nat.le_of_ble_eq_true rfl⟩) hW (fun r_25 L_23 h_24 H locs p_26 hW => ?_)
              obtain ⟨hr_27, hT, hs⟩ := p_26
              replace hT : hx_T T_tb L_23 h_24 := hT
              replace hs : hx_S T_tb [] L_17 h_18 L_23 h_24 := hs
              replace f_x_36 := (hs.o (gx.S hM) trivial rfl).1.trans f_x_36
              replace af_qh : h_24.2.1 qh = hf := (funext fun j => (hs.a (gqh.S hM) rfl j).1).trans af_qh
              replace af_qc : h_24.2.1 qc = plf := (funext fun j => (hs.a (gqc.S hM) rfl j).1).trans af_qc
              replace af_qf : h_24.2.1 qf = ff := (funext fun j => (hs.a (gqf.S hM) rfl j).1).trans af_qf
              replace af_qag : h_24.2.1 qag = agf := (funext fun j => (hs.a (gqag.S hM) rfl j).1).trans af_qag
              replace ex_15 := ex_15.trans (hs.a (gqd.S hM) rfl _).1.symm
              replace hM := hM.tr (hs.mono (by decide))
              refine hb_if_eq (zx := r_25.toInt) (tgt := 74) hx hb rfl dX10_file_60 (by decide) (fun c_28 => ?_) (fun c_28 => ?_)
              · skip
                replace hr_27 := hr_27.resolve_right (fun z9 => absurd (c_28.symm.trans z9.1) (by decide))
                replace hr_27 := hr_27.2
                refine lv_iconst (v := -1) hx hb dX10_file_74 (by decide) ?_
                exact hx_reti hx hb hr hlk hW ⟨⟨c0, hf, plf, ff, agf, f_x_36, af_qh, af_qc, af_qf, af_qag, ⟨hHC, hPL, (Or.inl ⟨by decide, by omega, fun hc => by unfold hx_FC at hc; have h1 : (df i2.toNatClampNeg).toInt = 0 := hc.2.2.2.2.1; rw [← ax_15] at h1; omega⟩), (Or.inl ⟨by decide, rfl⟩), (Or.inl ⟨by omega, rfl, rfl⟩), (Or.inl ⟨by decide, rfl⟩)⟩⟩, hT, hM⟩ dX10_file_75
              · skip
                replace hr_27 := hr_27.resolve_left (fun z9 => c_28 z9.1)
                replace c_28 := hr_27.1
                replace hr_27 := hr_27.2
                refine lv_iload hx hb dX10_file_63 (lv_at hl 6 rfl) ?_
                refine lv_iconst (v := 0) hx hb dX10_file_65 (by decide) ?_
                refine lv_bipush (v := 9) hx hb dX10_file_66 (by decide) ?_
                have zc_9 : (9 : Int32).toInt = 9 := by decide
                refine hx_goi (hx_runS (As := [.int i6, .int (0 : Int32), .int (9 : Int32)]) (rest := []) ⟨hx, hb, hml, hown, hts⟩ hW (t_X10_in l dC dI dA L_23 h_24 H.size i6 (0 : Int32) (9 : Int32) hT) (va_cwS 3 hts (hx_gS kw_1445 kw_1443 kw_1444 kw_103) rfl rfl rfl (by decide +kernel) ⟨Nat.le_of_ble_eq_true rfl, Nat.le_of_ble_eq_true rfl⟩) rfl hl.1 rfl (Nat.le_of_ble_eq_true rfl) dX10_file_68 ⟨Nat.le_of_ble_eq_true rfl, Nat.le_of_ble_eq_true rfl⟩) hW (fun r_31 L_29 h_30 H locs p_32 hW => ?_)
                obtain ⟨hr_33, hT, hs⟩ := p_32
                replace hT : hx_T T_tb L_29 h_30 := hT
                replace hs : hx_S T_tb [] L_23 h_24 L_29 h_30 := hs
                replace f_x_36 := (hs.o (gx.S hM) trivial rfl).1.trans f_x_36
                replace af_qh : h_30.2.1 qh = hf := (funext fun j => (hs.a (gqh.S hM) rfl j).1).trans af_qh
                replace af_qc : h_30.2.1 qc = plf := (funext fun j => (hs.a (gqc.S hM) rfl j).1).trans af_qc
                replace af_qf : h_30.2.1 qf = ff := (funext fun j => (hs.a (gqf.S hM) rfl j).1).trans af_qf
                replace af_qag : h_30.2.1 qag = agf := (funext fun j => (hs.a (gqag.S hM) rfl j).1).trans af_qag
                replace ex_15 := ex_15.trans (hs.a (gqd.S hM) rfl _).1.symm
                replace hM := hM.tr (hs.mono (by decide))
                refine hb_if_ne (zx := r_31.toInt) (tgt := 76) hx hb rfl dX10_file_71 (by decide) (fun c_34 => ?_) (fun c_34 => ?_)
                · skip
                  replace hr_33 := hr_33.resolve_left (fun z9 => c_34 z9.1)
                  replace c_34 := hr_33.1
                  replace hr_33 := hr_33.2
                  refine lv_aload_n hx hb dX10_file_76 rfl (lv_at hl 0 rfl) ?_
                  refine hk_geti hx hb hts hC_10 hown hW (gx.S hM) tt_10 36 (by decide) rfl kw_1179 ⟨rfl, rfl, rfl⟩ f_x_36 dX10_file_77 ?_
                  refine lv_istore (lv' := [(7, .int c0), (0, .ref x), (1, .int i1), (2, .int i2), (3, .int i3), (4, .int i4), (5, .int i5), (6, .int i6)]) hx hb dX10_file_80 hl (by decide) rfl (fun ls hl => ?_)
                  refine lv_aload_n hx hb dX10_file_82 rfl (lv_at hl 1 rfl) ?_
                  refine hx_getn hx hb hts hC_10 hown hW hT (gx.S hM) tt_10 37 (by decide) rfl kw_1180 ⟨rfl, rfl, rfl⟩ dX10_file_83 (fun q_35 fq_35 gq_35 => ?_)
                  refine lv_iload hx hb dX10_file_86 (lv_at hl 0 rfl) ?_
                  refine lv_iload_n hx hb dX10_file_88 rfl (lv_at hl 2 rfl) ?_
                  refine hx_iast hx hb hW hT (hx_S.rf (M := [(72, 0)])) gq_35 tt_72 rfl ⟨by omega, by omega⟩ rfl ⟨by omega, by omega⟩ (List.mem_singleton.mpr rfl) dX10_file_89 (fun H locs h_36 eh_36 hW hT hs => ?_)
                  replace f_x_36 := (hs.o (gx.S hM) trivial rfl).1.trans f_x_36
                  replace fq_35 := (hs.o (gx.S hM) trivial rfl).2.trans fq_35
                  replace af_qh : h_36.2.1 qh = hf := (funext fun j => (hs.a (gqh.S hM) rfl j).1).trans af_qh
                  replace af_qc : h_36.2.1 qc = plf := (funext fun j => (hs.a (gqc.S hM) rfl j).1).trans af_qc
                  replace af_qf : h_36.2.1 qf = ff := (funext fun j => (hs.a (gqf.S hM) rfl j).1).trans af_qf
                  replace af_qag : h_36.2.1 qag = agf := (funext fun j => (hs.a (gqag.S hM) rfl j).1).trans af_qag
                  replace ex_15 := ex_15.trans (hs.a (gqd.S hM) rfl _).1.symm
                  replace hM := hM.tr (hs.mono (by decide))
                  replace gq_35 := gq_35.S hs
                  refine lv_aload_n hx hb dX10_file_90 rfl (lv_at hl 1 rfl) ?_
                  refine hk_getr hx hb hts hC_10 hown hW (gx.S hM) tt_10 38 (by decide) rfl kw_1181 ⟨rfl, rfl, rfl⟩ ((hM.o gx trivial rfl).2.trans f_x_38) dX10_file_91 ?_
                  refine lv_iload hx hb dX10_file_94 (lv_at hl 0 rfl) ?_
                  refine lv_iload_n hx hb dX10_file_96 rfl (lv_at hl 3 rfl) ?_
                  have af_qagO := af_qag
                  refine hx_iast hx hb hW hT (hx_S.rf (M := [(73, 0)])) (gqag.S hM) tt_73 rfl ⟨by omega, by omega⟩ rfl ⟨by omega, by omega⟩ (List.mem_singleton.mpr rfl) dX10_file_97 (fun H locs h_37 eh_37 hW hT hs => ?_)
                  replace f_x_36 := (hs.o (gx.S hM) trivial rfl).1.trans f_x_36
                  replace fq_35 := (hs.o (gx.S hM) trivial rfl).2.trans fq_35
                  replace af_qh : h_37.2.1 qh = hf := (funext fun j => (hs.a (gqh.S hM) rfl j).1).trans af_qh
                  replace af_qc : h_37.2.1 qc = plf := (funext fun j => (hs.a (gqc.S hM) rfl j).1).trans af_qc
                  replace af_qf : h_37.2.1 qf = ff := (funext fun j => (hs.a (gqf.S hM) rfl j).1).trans af_qf
                  replace ex_15 := ex_15.trans (hs.a (gqd.S hM) rfl _).1.symm
                  replace hM := hM.tr (hs.mono (by decide))
                  replace gq_35 := gq_35.S hs
                  obtain ⟨fa_38, dfa_38⟩ : ∃ g : Nat → Int32, g = hx_up agf c0.toNatClampNeg i2 := ⟨_, rfl⟩
                  have nfa_38 : h_37.2.1 qag = fa_38 := by rw [eh_37, dfa_38, ← af_qagO]; exact hx_pi_fun _ _ _ _
                  refine lv_aload_n hx hb dX10_file_98 rfl (lv_at hl 1 rfl) ?_
                  refine hx_getn hx hb hts hC_10 hown hW hT (gx.S hM) tt_10 39 (by decide) rfl kw_1182 ⟨rfl, rfl, rfl⟩ dX10_file_99 (fun q_39 fq_39 gq_39 => ?_)
                  refine lv_iload hx hb dX10_file_102 (lv_at hl 0 rfl) ?_
                  refine lv_iload_n hx hb dX10_file_104 rfl (lv_at hl 4 rfl) ?_
                  refine hx_iast hx hb hW hT (hx_S.rf (M := [(74, 0)])) gq_39 tt_74 rfl ⟨by omega, by omega⟩ rfl ⟨by omega, by omega⟩ (List.mem_singleton.mpr rfl) dX10_file_105 (fun H locs h_40 eh_40 hW hT hs => ?_)
                  replace f_x_36 := (hs.o (gx.S hM) trivial rfl).1.trans f_x_36
                  replace fq_35 := (hs.o (gx.S hM) trivial rfl).2.trans fq_35
                  replace fq_39 := (hs.o (gx.S hM) trivial rfl).2.trans fq_39
                  replace af_qh : h_40.2.1 qh = hf := (funext fun j => (hs.a (gqh.S hM) rfl j).1).trans af_qh
                  replace af_qc : h_40.2.1 qc = plf := (funext fun j => (hs.a (gqc.S hM) rfl j).1).trans af_qc
                  replace af_qf : h_40.2.1 qf = ff := (funext fun j => (hs.a (gqf.S hM) rfl j).1).trans af_qf
                  replace nfa_38 : h_40.2.1 qag = fa_38 := (funext fun j => (hs.a (gqag.S hM) rfl j).1).trans nfa_38
                  replace ex_15 := ex_15.trans (hs.a (gqd.S hM) rfl _).1.symm
                  replace hM := hM.tr (hs.mono (by decide))
                  replace gq_35 := gq_35.S hs
                  replace gq_39 := gq_39.S hs
                  refine lv_aload_n hx hb dX10_file_106 rfl (lv_at hl 1 rfl) ?_
                  refine hx_getn hx hb hts hC_10 hown hW hT (gx.S hM) tt_10 40 (by decide) rfl kw_1183 ⟨rfl, rfl, rfl⟩ dX10_file_107 (fun q_41 fq_41 gq_41 => ?_)
                  refine lv_iload hx hb dX10_file_110 (lv_at hl 0 rfl) ?_
                  refine lv_iload hx hb dX10_file_112 (lv_at hl 5 rfl) ?_
                  refine hx_iast hx hb hW hT (hx_S.rf (M := [(75, 0)])) gq_41 tt_75 rfl ⟨by omega, by omega⟩ rfl (i32_r _) (List.mem_singleton.mpr rfl) dX10_file_114 (fun H locs h_42 eh_42 hW hT hs => ?_)
                  replace f_x_36 := (hs.o (gx.S hM) trivial rfl).1.trans f_x_36
                  replace fq_35 := (hs.o (gx.S hM) trivial rfl).2.trans fq_35
                  replace fq_39 := (hs.o (gx.S hM) trivial rfl).2.trans fq_39
                  replace fq_41 := (hs.o (gx.S hM) trivial rfl).2.trans fq_41
                  replace af_qh : h_42.2.1 qh = hf := (funext fun j => (hs.a (gqh.S hM) rfl j).1).trans af_qh
                  replace af_qc : h_42.2.1 qc = plf := (funext fun j => (hs.a (gqc.S hM) rfl j).1).trans af_qc
                  replace af_qf : h_42.2.1 qf = ff := (funext fun j => (hs.a (gqf.S hM) rfl j).1).trans af_qf
                  replace nfa_38 : h_42.2.1 qag = fa_38 := (funext fun j => (hs.a (gqag.S hM) rfl j).1).trans nfa_38
                  replace ex_15 := ex_15.trans (hs.a (gqd.S hM) rfl _).1.symm
                  replace hM := hM.tr (hs.mono (by decide))
                  replace gq_35 := gq_35.S hs
                  replace gq_39 := gq_39.S hs
                  replace gq_41 := gq_41.S hs
                  refine lv_aload_n hx hb dX10_file_115 rfl (lv_at hl 1 rfl) ?_
                  refine hx_getn hx hb hts hC_10 hown hW hT (gx.S hM) tt_10 41 (by decide) rfl kw_1184 ⟨rfl, rfl, rfl⟩ dX10_file_116 (fun q_43 fq_43 gq_43 => ?_)
                  refine lv_iload hx hb dX10_file_119 (lv_at hl 0 rfl) ?_
                  refine lv_iload hx hb dX10_file_121 (lv_at hl 6 rfl) ?_
                  refine hx_zast hx hb hW hT (hx_S.rf (M := [(76, 0)])) gq_43 tt_76 rfl ⟨by omega, by omega⟩ (y := _) rfl (hx_nz _) (List.mem_singleton.mpr rfl) dX10_file_123 (fun H locs h_44 eh_44 hW hT hs => ?_)
                  replace f_x_36 := (hs.o (gx.S hM) trivial rfl).1.trans f_x_36
                  replace fq_35 := (hs.o (gx.S hM) trivial rfl).2.trans fq_35
                  replace fq_39 := (hs.o (gx.S hM) trivial rfl).2.trans fq_39
                  replace fq_41 := (hs.o (gx.S hM) trivial rfl).2.trans fq_41
                  replace fq_43 := (hs.o (gx.S hM) trivial rfl).2.trans fq_43
                  replace af_qh : h_44.2.1 qh = hf := (funext fun j => (hs.a (gqh.S hM) rfl j).1).trans af_qh
                  replace af_qc : h_44.2.1 qc = plf := (funext fun j => (hs.a (gqc.S hM) rfl j).1).trans af_qc
                  replace af_qf : h_44.2.1 qf = ff := (funext fun j => (hs.a (gqf.S hM) rfl j).1).trans af_qf
                  replace nfa_38 : h_44.2.1 qag = fa_38 := (funext fun j => (hs.a (gqag.S hM) rfl j).1).trans nfa_38
                  replace ex_15 := ex_15.trans (hs.a (gqd.S hM) rfl _).1.symm
                  replace hM := hM.tr (hs.mono (by decide))
                  replace gq_35 := gq_35.S hs
                  replace gq_39 := gq_39.S hs
                  replace gq_41 := gq_41.S hs
                  replace gq_43 := gq_43.S hs
                  refine lv_aload_n hx hb dX10_file_124 rfl (lv_at hl 1 rfl) ?_
                  refine hx_getn hx hb hts hC_10 hown hW hT (gx.S hM) tt_10 42 (by decide) rfl kw_1185 ⟨rfl, rfl, rfl⟩ dX10_file_125 (fun q_45 fq_45 gq_45 => ?_)
                  refine lv_iload hx hb dX10_file_128 (lv_at hl 0 rfl) ?_
                  refine lv_iload hx hb dX10_file_130 (lv_at hl 7 rfl) ?_
                  refine hx_iast hx hb hW hT (hx_S.rf (M := [(77, 0)])) gq_45 tt_77 rfl ⟨by omega, by omega⟩ rfl (i32_r _) (List.mem_singleton.mpr rfl) dX10_file_132 (fun H locs h_46 eh_46 hW hT hs => ?_)
                  replace f_x_36 := (hs.o (gx.S hM) trivial rfl).1.trans f_x_36
                  replace fq_35 := (hs.o (gx.S hM) trivial rfl).2.trans fq_35
                  replace fq_39 := (hs.o (gx.S hM) trivial rfl).2.trans fq_39
                  replace fq_41 := (hs.o (gx.S hM) trivial rfl).2.trans fq_41
                  replace fq_43 := (hs.o (gx.S hM) trivial rfl).2.trans fq_43
                  replace fq_45 := (hs.o (gx.S hM) trivial rfl).2.trans fq_45
                  replace af_qh : h_46.2.1 qh = hf := (funext fun j => (hs.a (gqh.S hM) rfl j).1).trans af_qh
                  replace af_qc : h_46.2.1 qc = plf := (funext fun j => (hs.a (gqc.S hM) rfl j).1).trans af_qc
                  replace af_qf : h_46.2.1 qf = ff := (funext fun j => (hs.a (gqf.S hM) rfl j).1).trans af_qf
                  replace nfa_38 : h_46.2.1 qag = fa_38 := (funext fun j => (hs.a (gqag.S hM) rfl j).1).trans nfa_38
                  replace ex_15 := ex_15.trans (hs.a (gqd.S hM) rfl _).1.symm
                  replace hM := hM.tr (hs.mono (by decide))
                  replace gq_35 := gq_35.S hs
                  replace gq_39 := gq_39.S hs
                  replace gq_41 := gq_41.S hs
                  replace gq_43 := gq_43.S hs
                  replace gq_45 := gq_45.S hs
                  refine lv_aload_n hx hb dX10_file_133 rfl (lv_at hl 1 rfl) ?_
                  refine hx_getn hx hb hts hC_10 hown hW hT (gx.S hM) tt_10 43 (by decide) rfl kw_1186 ⟨rfl, rfl, rfl⟩ dX10_file_134 (fun q_47 fq_47 gq_47 => ?_)
                  refine lv_iload hx hb dX10_file_137 (lv_at hl 0 rfl) ?_
                  refine lv_aload_n hx hb dX10_file_139 rfl (lv_at hl 1 rfl) ?_
                  refine hk_geti hx hb hts hC_10 hown hW (gx.S hM) tt_10 0 (by decide) rfl kw_1143 ⟨rfl, rfl, rfl⟩ ((hM.o gx trivial rfl).1.trans f_x_0) dX10_file_140 ?_
                  refine hx_iast hx hb hW hT (hx_S.rf (M := [(78, 0)])) gq_47 tt_78 rfl ⟨by omega, by omega⟩ rfl ⟨by omega, by omega⟩ (List.mem_singleton.mpr rfl) dX10_file_143 (fun H locs h_48 eh_48 hW hT hs => ?_)
                  replace f_x_36 := (hs.o (gx.S hM) trivial rfl).1.trans f_x_36
                  replace fq_35 := (hs.o (gx.S hM) trivial rfl).2.trans fq_35
                  replace fq_39 := (hs.o (gx.S hM) trivial rfl).2.trans fq_39
                  replace fq_41 := (hs.o (gx.S hM) trivial rfl).2.trans fq_41
                  replace fq_43 := (hs.o (gx.S hM) trivial rfl).2.trans fq_43
                  replace fq_45 := (hs.o (gx.S hM) trivial rfl).2.trans fq_45
                  replace fq_47 := (hs.o (gx.S hM) trivial rfl).2.trans fq_47
                  replace af_qh : h_48.2.1 qh = hf := (funext fun j => (hs.a (gqh.S hM) rfl j).1).trans af_qh
                  replace af_qc : h_48.2.1 qc = plf := (funext fun j => (hs.a (gqc.S hM) rfl j).1).trans af_qc
                  replace af_qf : h_48.2.1 qf = ff := (funext fun j => (hs.a (gqf.S hM) rfl j).1).trans af_qf
                  replace nfa_38 : h_48.2.1 qag = fa_38 := (funext fun j => (hs.a (gqag.S hM) rfl j).1).trans nfa_38
                  replace ex_15 := ex_15.trans (hs.a (gqd.S hM) rfl _).1.symm
                  replace hM := hM.tr (hs.mono (by decide))
                  replace gq_35 := gq_35.S hs
                  replace gq_39 := gq_39.S hs
                  replace gq_41 := gq_41.S hs
                  replace gq_43 := gq_43.S hs
                  replace gq_45 := gq_45.S hs
                  replace gq_47 := gq_47.S hs
                  refine lv_aload_n hx hb dX10_file_144 rfl (lv_at hl 1 rfl) ?_
                  refine hk_getr hx hb hts hC_10 hown hW (gx.S hM) tt_10 44 (by decide) rfl kw_1187 ⟨rfl, rfl, rfl⟩ ((hM.o gx trivial rfl).2.trans f_x_44) dX10_file_145 ?_
                  refine lv_iload hx hb dX10_file_148 (lv_at hl 0 rfl) ?_
                  refine lv_aload_n hx hb dX10_file_150 rfl (lv_at hl 1 rfl) ?_
                  refine lv_aload_n hx hb dX10_file_151 rfl (lv_at hl 1 rfl) ?_
                  refine hk_geti hx hb hts hC_10 hown hW (gx.S hM) tt_10 0 (by decide) rfl kw_1143 ⟨rfl, rfl, rfl⟩ ((hM.o gx trivial rfl).1.trans f_x_0) dX10_file_152 ?_
                  refine hx_goi (hx_runV (As := [.int nw0]) (rest := [.int c0, .ref qc]) ⟨hx, hb, hml, hown, hts⟩ hW (gx.S hM) tt_10 (T := TX10) (N := 98) rfl (t_X10_inForce l dC dI dA L_29 h_48 H.size x nw0 hT (gx.S hM) a0 ((hM.o gx trivial rfl).1.trans f_x_1)) (cwV 1 hts (hx_gV kw_1529 kw_1526 kw_1528 kw_65 kw_103) rfl rfl rfl (by decide +kernel) ⟨Nat.le_of_ble_eq_true rfl, Nat.le_of_ble_eq_true rfl⟩) rfl hl.1 rfl (Nat.le_of_ble_eq_true rfl) dX10_file_155 ⟨Nat.le_of_ble_eq_true rfl, Nat.le_of_ble_eq_true rfl⟩) hW (fun r_51 L_49 h_50 H locs p_52 hW => ?_)
                  obtain ⟨hr_53, hT, hs⟩ := p_52
                  replace hT : hx_T T_tb L_49 h_50 := hT
                  replace hs : hx_S T_tb [] L_29 h_48 L_49 h_50 := hs
                  replace f_x_36 := (hs.o (gx.S hM) trivial rfl).1.trans f_x_36
                  replace fq_35 := (hs.o (gx.S hM) trivial rfl).2.trans fq_35
                  replace fq_39 := (hs.o (gx.S hM) trivial rfl).2.trans fq_39
                  replace fq_41 := (hs.o (gx.S hM) trivial rfl).2.trans fq_41
                  replace fq_43 := (hs.o (gx.S hM) trivial rfl).2.trans fq_43
                  replace fq_45 := (hs.o (gx.S hM) trivial rfl).2.trans fq_45
                  replace fq_47 := (hs.o (gx.S hM) trivial rfl).2.trans fq_47
                  replace af_qh : h_50.2.1 qh = hf := (funext fun j => (hs.a (gqh.S hM) rfl j).1).trans af_qh
                  replace af_qc : h_50.2.1 qc = plf := (funext fun j => (hs.a (gqc.S hM) rfl j).1).trans af_qc
                  replace af_qf : h_50.2.1 qf = ff := (funext fun j => (hs.a (gqf.S hM) rfl j).1).trans af_qf
                  replace nfa_38 : h_50.2.1 qag = fa_38 := (funext fun j => (hs.a (gqag.S hM) rfl j).1).trans nfa_38
                  replace ex_15 := ex_15.trans (hs.a (gqd.S hM) rfl _).1.symm
                  replace hM := hM.tr (hs.mono (by decide))
                  replace gq_35 := gq_35.S hs
                  replace gq_39 := gq_39.S hs
                  replace gq_41 := gq_41.S hs
                  replace gq_43 := gq_43.S hs
                  replace gq_45 := gq_45.S hs
                  replace gq_47 := gq_47.S hs
                  have af_qcO := af_qc
                  refine hx_iast hx hb hW hT (hx_S.rf (M := [(79, 0)])) (gqc.S hM) tt_79 rfl ⟨by omega, by omega⟩ rfl ⟨by omega, by omega⟩ (List.mem_singleton.mpr rfl) dX10_file_158 (fun H locs h_54 eh_54 hW hT hs => ?_)
                  replace f_x_36 := (hs.o (gx.S hM) trivial rfl).1.trans f_x_36
                  replace fq_35 := (hs.o (gx.S hM) trivial rfl).2.trans fq_35
                  replace fq_39 := (hs.o (gx.S hM) trivial rfl).2.trans fq_39
                  replace fq_41 := (hs.o (gx.S hM) trivial rfl).2.trans fq_41
                  replace fq_43 := (hs.o (gx.S hM) trivial rfl).2.trans fq_43
                  replace fq_45 := (hs.o (gx.S hM) trivial rfl).2.trans fq_45
                  replace fq_47 := (hs.o (gx.S hM) trivial rfl).2.trans fq_47
                  replace af_qh : h_54.2.1 qh = hf := (funext fun j => (hs.a (gqh.S hM) rfl j).1).trans af_qh
                  replace af_qf : h_54.2.1 qf = ff := (funext fun j => (hs.a (gqf.S hM) rfl j).1).trans af_qf
                  replace nfa_38 : h_54.2.1 qag = fa_38 := (funext fun j => (hs.a (gqag.S hM) rfl j).1).trans nfa_38
                  replace ex_15 := ex_15.trans (hs.a (gqd.S hM) rfl _).1.symm
                  replace hM := hM.tr (hs.mono (by decide))
                  replace gq_35 := gq_35.S hs
                  replace gq_39 := gq_39.S hs
                  replace gq_41 := gq_41.S hs
                  replace gq_43 := gq_43.S hs
                  replace gq_45 := gq_45.S hs
                  replace gq_47 := gq_47.S hs
                  obtain ⟨fa_55, dfa_55⟩ : ∃ g : Nat → Int32, g = hx_up plf c0.toNatClampNeg r_51 := ⟨_, rfl⟩
                  have nfa_55 : h_54.2.1 qc = fa_55 := by rw [eh_54, dfa_55, ← af_qcO]; exact hx_pi_fun _ _ _ _
                  refine lv_aload_n hx hb dX10_file_159 rfl (lv_at hl 1 rfl) ?_
                  refine hk_getr hx hb hts hC_10 hown hW (gx.S hM) tt_10 46 (by decide) rfl kw_1189 ⟨rfl, rfl, rfl⟩ ((hM.o gx trivial rfl).2.trans f_x_46) dX10_file_160 ?_
                  refine lv_iload hx hb dX10_file_163 (lv_at hl 0 rfl) ?_
                  refine lv_iconst (v := -1) hx hb dX10_file_165 (by decide) ?_
                  have af_qfO := af_qf
                  refine hx_iast hx hb hW hT (hx_S.rf (M := [(81, 0)])) (gqf.S hM) tt_81 rfl ⟨by omega, by omega⟩ rfl (by decide) (List.mem_singleton.mpr rfl) dX10_file_166 (fun H locs h_56 eh_56 hW hT hs => ?_)
                  replace f_x_36 := (hs.o (gx.S hM) trivial rfl).1.trans f_x_36
                  replace fq_35 := (hs.o (gx.S hM) trivial rfl).2.trans fq_35
                  replace fq_39 := (hs.o (gx.S hM) trivial rfl).2.trans fq_39
                  replace fq_41 := (hs.o (gx.S hM) trivial rfl).2.trans fq_41
                  replace fq_43 := (hs.o (gx.S hM) trivial rfl).2.trans fq_43
                  replace fq_45 := (hs.o (gx.S hM) trivial rfl).2.trans fq_45
                  replace fq_47 := (hs.o (gx.S hM) trivial rfl).2.trans fq_47
                  replace af_qh : h_56.2.1 qh = hf := (funext fun j => (hs.a (gqh.S hM) rfl j).1).trans af_qh
                  replace nfa_38 : h_56.2.1 qag = fa_38 := (funext fun j => (hs.a (gqag.S hM) rfl j).1).trans nfa_38
                  replace nfa_55 : h_56.2.1 qc = fa_55 := (funext fun j => (hs.a (gqc.S hM) rfl j).1).trans nfa_55
                  replace ex_15 := ex_15.trans (hs.a (gqd.S hM) rfl _).1.symm
                  replace hM := hM.tr (hs.mono (by decide))
                  replace gq_35 := gq_35.S hs
                  replace gq_39 := gq_39.S hs
                  replace gq_41 := gq_41.S hs
                  replace gq_43 := gq_43.S hs
                  replace gq_45 := gq_45.S hs
                  replace gq_47 := gq_47.S hs
                  obtain ⟨fa_57, dfa_57⟩ : ∃ g : Nat → Int32, g = hx_up ff c0.toNatClampNeg (-1 : Int32) := ⟨_, rfl⟩
                  have nfa_57 : h_56.2.1 qf = fa_57 := by rw [eh_56, dfa_57, ← af_qfO]; exact hx_pi_fun _ _ _ _
                  refine lv_aload_n hx hb dX10_file_167 rfl (lv_at hl 1 rfl) ?_
                  refine hk_getr hx hb hts hC_10 hown hW (gx.S hM) tt_10 47 (by decide) rfl kw_1190 ⟨rfl, rfl, rfl⟩ ((hM.o gx trivial rfl).2.trans f_x_47) dX10_file_168 ?_
                  refine lv_iload hx hb dX10_file_171 (lv_at hl 0 rfl) ?_
                  refine lv_iconst (v := -1) hx hb dX10_file_173 (by decide) ?_
                  have af_qhO := af_qh
                  refine hx_iast hx hb hW hT (hx_S.rf (M := [(82, 0)])) (gqh.S hM) tt_82 rfl ⟨by omega, by omega⟩ rfl (by decide) (List.mem_singleton.mpr rfl) dX10_file_174 (fun H locs h_58 eh_58 hW hT hs => ?_)
                  replace f_x_36 := (hs.o (gx.S hM) trivial rfl).1.trans f_x_36
                  replace fq_35 := (hs.o (gx.S hM) trivial rfl).2.trans fq_35
                  replace fq_39 := (hs.o (gx.S hM) trivial rfl).2.trans fq_39
                  replace fq_41 := (hs.o (gx.S hM) trivial rfl).2.trans fq_41
                  replace fq_43 := (hs.o (gx.S hM) trivial rfl).2.trans fq_43
                  replace fq_45 := (hs.o (gx.S hM) trivial rfl).2.trans fq_45
                  replace fq_47 := (hs.o (gx.S hM) trivial rfl).2.trans fq_47
                  replace nfa_38 : h_58.2.1 qag = fa_38 := (funext fun j => (hs.a (gqag.S hM) rfl j).1).trans nfa_38
                  replace nfa_55 : h_58.2.1 qc = fa_55 := (funext fun j => (hs.a (gqc.S hM) rfl j).1).trans nfa_55
                  replace nfa_57 : h_58.2.1 qf = fa_57 := (funext fun j => (hs.a (gqf.S hM) rfl j).1).trans nfa_57
                  replace ex_15 := ex_15.trans (hs.a (gqd.S hM) rfl _).1.symm
                  replace hM := hM.tr (hs.mono (by decide))
                  replace gq_35 := gq_35.S hs
                  replace gq_39 := gq_39.S hs
                  replace gq_41 := gq_41.S hs
                  replace gq_43 := gq_43.S hs
                  replace gq_45 := gq_45.S hs
                  replace gq_47 := gq_47.S hs
                  obtain ⟨fa_59, dfa_59⟩ : ∃ g : Nat → Int32, g = hx_up hf c0.toNatClampNeg (-1 : Int32) := ⟨_, rfl⟩
                  have nfa_59 : h_58.2.1 qh = fa_59 := by rw [eh_58, dfa_59, ← af_qhO]; exact hx_pi_fun _ _ _ _
                  refine lv_aload_n hx hb dX10_file_175 rfl (lv_at hl 1 rfl) ?_
                  refine hx_getn hx hb hts hC_10 hown hW hT (gx.S hM) tt_10 48 (by decide) rfl kw_1191 ⟨rfl, rfl, rfl⟩ dX10_file_176 (fun q_60 fq_60 gq_60 => ?_)
                  refine lv_iload hx hb dX10_file_179 (lv_at hl 0 rfl) ?_
                  refine lv_iconst (v := -1) hx hb dX10_file_181 (by decide) ?_
                  refine hx_iast hx hb hW hT (hx_S.rf (M := [(83, 0)])) gq_60 tt_83 rfl ⟨by omega, by omega⟩ rfl (by decide) (List.mem_singleton.mpr rfl) dX10_file_182 (fun H locs h_61 eh_61 hW hT hs => ?_)
                  replace f_x_36 := (hs.o (gx.S hM) trivial rfl).1.trans f_x_36
                  replace fq_35 := (hs.o (gx.S hM) trivial rfl).2.trans fq_35
                  replace fq_39 := (hs.o (gx.S hM) trivial rfl).2.trans fq_39
                  replace fq_41 := (hs.o (gx.S hM) trivial rfl).2.trans fq_41
                  replace fq_43 := (hs.o (gx.S hM) trivial rfl).2.trans fq_43
                  replace fq_45 := (hs.o (gx.S hM) trivial rfl).2.trans fq_45
                  replace fq_47 := (hs.o (gx.S hM) trivial rfl).2.trans fq_47
                  replace fq_60 := (hs.o (gx.S hM) trivial rfl).2.trans fq_60
                  replace nfa_38 : h_61.2.1 qag = fa_38 := (funext fun j => (hs.a (gqag.S hM) rfl j).1).trans nfa_38
                  replace nfa_55 : h_61.2.1 qc = fa_55 := (funext fun j => (hs.a (gqc.S hM) rfl j).1).trans nfa_55
                  replace nfa_57 : h_61.2.1 qf = fa_57 := (funext fun j => (hs.a (gqf.S hM) rfl j).1).trans nfa_57
                  replace nfa_59 : h_61.2.1 qh = fa_59 := (funext fun j => (hs.a (gqh.S hM) rfl j).1).trans nfa_59
                  replace ex_15 := ex_15.trans (hs.a (gqd.S hM) rfl _).1.symm
                  replace hM := hM.tr (hs.mono (by decide))
                  replace gq_35 := gq_35.S hs
                  replace gq_39 := gq_39.S hs
                  replace gq_41 := gq_41.S hs
                  replace gq_43 := gq_43.S hs
                  replace gq_45 := gq_45.S hs
                  replace gq_47 := gq_47.S hs
                  replace gq_60 := gq_60.S hs
                  refine lv_aload_n hx hb dX10_file_183 rfl (lv_at hl 1 rfl) ?_
                  refine hx_getn hx hb hts hC_10 hown hW hT (gx.S hM) tt_10 49 (by decide) rfl kw_1192 ⟨rfl, rfl, rfl⟩ dX10_file_184 (fun q_62 fq_62 gq_62 => ?_)
                  refine lv_iload hx hb dX10_file_187 (lv_at hl 0 rfl) ?_
                  refine lv_iconst (v := -1) hx hb dX10_file_189 (by decide) ?_
                  refine hx_iast hx hb hW hT (hx_S.rf (M := [(84, 0)])) gq_62 tt_84 rfl ⟨by omega, by omega⟩ rfl (by decide) (List.mem_singleton.mpr rfl) dX10_file_190 (fun H locs h_63 eh_63 hW hT hs => ?_)
                  replace f_x_36 := (hs.o (gx.S hM) trivial rfl).1.trans f_x_36
                  replace fq_35 := (hs.o (gx.S hM) trivial rfl).2.trans fq_35
                  replace fq_39 := (hs.o (gx.S hM) trivial rfl).2.trans fq_39
                  replace fq_41 := (hs.o (gx.S hM) trivial rfl).2.trans fq_41
                  replace fq_43 := (hs.o (gx.S hM) trivial rfl).2.trans fq_43
                  replace fq_45 := (hs.o (gx.S hM) trivial rfl).2.trans fq_45
                  replace fq_47 := (hs.o (gx.S hM) trivial rfl).2.trans fq_47
                  replace fq_60 := (hs.o (gx.S hM) trivial rfl).2.trans fq_60
                  replace fq_62 := (hs.o (gx.S hM) trivial rfl).2.trans fq_62
                  replace nfa_38 : h_63.2.1 qag = fa_38 := (funext fun j => (hs.a (gqag.S hM) rfl j).1).trans nfa_38
                  replace nfa_55 : h_63.2.1 qc = fa_55 := (funext fun j => (hs.a (gqc.S hM) rfl j).1).trans nfa_55
                  replace nfa_57 : h_63.2.1 qf = fa_57 := (funext fun j => (hs.a (gqf.S hM) rfl j).1).trans nfa_57
                  replace nfa_59 : h_63.2.1 qh = fa_59 := (funext fun j => (hs.a (gqh.S hM) rfl j).1).trans nfa_59
                  replace ex_15 := ex_15.trans (hs.a (gqd.S hM) rfl _).1.symm
                  replace hM := hM.tr (hs.mono (by decide))
                  replace gq_35 := gq_35.S hs
                  replace gq_39 := gq_39.S hs
                  replace gq_41 := gq_41.S hs
                  replace gq_43 := gq_43.S hs
                  replace gq_45 := gq_45.S hs
                  replace gq_47 := gq_47.S hs
                  replace gq_60 := gq_60.S hs
                  replace gq_62 := gq_62.S hs
                  refine lv_aload_n hx hb dX10_file_191 rfl (lv_at hl 1 rfl) ?_
                  refine hx_getn hx hb hts hC_10 hown hW hT (gx.S hM) tt_10 50 (by decide) rfl kw_1193 ⟨rfl, rfl, rfl⟩ dX10_file_192 (fun q_64 fq_64 gq_64 => ?_)
                  refine lv_iload hx hb dX10_file_195 (lv_at hl 0 rfl) ?_
                  refine lv_iconst (v := -1) hx hb dX10_file_197 (by decide) ?_
                  refine hx_iast hx hb hW hT (hx_S.rf (M := [(85, 0)])) gq_64 tt_85 rfl ⟨by omega, by omega⟩ rfl (by decide) (List.mem_singleton.mpr rfl) dX10_file_198 (fun H locs h_65 eh_65 hW hT hs => ?_)
                  replace f_x_36 := (hs.o (gx.S hM) trivial rfl).1.trans f_x_36
                  replace fq_35 := (hs.o (gx.S hM) trivial rfl).2.trans fq_35
                  replace fq_39 := (hs.o (gx.S hM) trivial rfl).2.trans fq_39
                  replace fq_41 := (hs.o (gx.S hM) trivial rfl).2.trans fq_41
                  replace fq_43 := (hs.o (gx.S hM) trivial rfl).2.trans fq_43
                  replace fq_45 := (hs.o (gx.S hM) trivial rfl).2.trans fq_45
                  replace fq_47 := (hs.o (gx.S hM) trivial rfl).2.trans fq_47
                  replace fq_60 := (hs.o (gx.S hM) trivial rfl).2.trans fq_60
                  replace fq_62 := (hs.o (gx.S hM) trivial rfl).2.trans fq_62
                  replace fq_64 := (hs.o (gx.S hM) trivial rfl).2.trans fq_64
                  replace nfa_38 : h_65.2.1 qag = fa_38 := (funext fun j => (hs.a (gqag.S hM) rfl j).1).trans nfa_38
                  replace nfa_55 : h_65.2.1 qc = fa_55 := (funext fun j => (hs.a (gqc.S hM) rfl j).1).trans nfa_55
                  replace nfa_57 : h_65.2.1 qf = fa_57 := (funext fun j => (hs.a (gqf.S hM) rfl j).1).trans nfa_57
                  replace nfa_59 : h_65.2.1 qh = fa_59 := (funext fun j => (hs.a (gqh.S hM) rfl j).1).trans nfa_59
                  replace ex_15 := ex_15.trans (hs.a (gqd.S hM) rfl _).1.symm
                  replace hM := hM.tr (hs.mono (by decide))
                  replace gq_35 := gq_35.S hs
                  replace gq_39 := gq_39.S hs
                  replace gq_41 := gq_41.S hs
                  replace gq_43 := gq_43.S hs
                  replace gq_45 := gq_45.S hs
                  replace gq_47 := gq_47.S hs
                  replace gq_60 := gq_60.S hs
                  replace gq_62 := gq_62.S hs
                  replace gq_64 := gq_64.S hs
                  refine lv_iconst (v := 0) hx hb dX10_file_199 (by decide) ?_
                  refine lv_istore (lv' := [(8, .int (0 : Int32)), (7, .int c0), (0, .ref x), (1, .int i1), (2, .int i2), (3, .int i3), (4, .int i4), (5, .int i5), (6, .int i6)]) hx hb dX10_file_200 hl (by decide) rfl (fun ls hl => ?_)
                  have loop202 : ∀ (n202 : Nat) (iv202_8 : Int32) (H : Heap) (locs : List Loc) (hL1 : List Nat) (hl1 : hx_h), 0 ≤ iv202_8.toInt → iv202_8.toInt ≤ 3 → ∀ (ls : Array Slot), 3 - iv202_8.toInt < (n202 : Int) → hx_W T_tb (P_ty dA) (dC, dI) vwCl (hx_A L sz) s.heap hL1 hl1 s H locs → hx_T T_tb hL1 hl1 → hx_S T_tb [(10, 36), (72, 0), (73, 0), (74, 0), (75, 0), (76, 0), (77, 0), (78, 0), (79, 0), (81, 0), (82, 0), (83, 0), (84, 0), (85, 0), (87, 0)] L h hL1 hl1 → hl1.2.1 x 36 = c0 → hl1.2.2 x 37 = some q_35 → hl1.2.2 x 39 = some q_39 → hl1.2.2 x 40 = some q_41 → hl1.2.2 x 41 = some q_43 → hl1.2.2 x 42 = some q_45 → hl1.2.2 x 43 = some q_47 → hl1.2.2 x 48 = some q_60 → hl1.2.2 x 49 = some q_62 → hl1.2.2 x 50 = some q_64 → hx_g hL1 hl1 q_35 72 → hx_g hL1 hl1 q_39 74 → hx_g hL1 hl1 q_41 75 → hx_g hL1 hl1 q_43 76 → hx_g hL1 hl1 q_45 77 → hx_g hL1 hl1 q_47 78 → hx_g hL1 hl1 q_60 83 → hx_g hL1 hl1 q_62 84 → hx_g hL1 hl1 q_64 85 → hl1.2.1 qag = fa_38 → hl1.2.1 qc = fa_55 → hl1.2.1 qf = fa_57 → hl1.2.1 qh = fa_59 → lv_has ls 9 [(8, .int iv202_8), (7, .int c0), (0, .ref x), (1, .int i1), (2, .int i2), (3, .int i3), (4, .int i4), (5, .int i5), (6, .int i6)] → W p l e ({ frames := 2, cells := 0, slots := 0, locals := 43 }) s m ([.ref x, .int i1, .int i2, .int i3, .int i4, .int i5, .int i6] : List Value).toArray below meth c H locs 0 0 (MQ below (va_Qi (fun (r : Int32) (u : List Nat × hx_h) => (∃ (cn1 : Int32) (hf1 : Nat → Int32) (plf1 : Nat → Int32) (ff1 : Nat → Int32) (agf1 : Nat → Int32), u.2.2.1 x 36 = cn1 ∧ u.2.2.1 qh = hf1 ∧ u.2.2.1 qc = plf1 ∧ u.2.2.1 qf = ff1 ∧ u.2.2.1 qag = agf1 ∧ (m0.toInt = hx_hc hf1 cn1.toInt.toNat ∧ hx_PL plf1 cn1.toInt a0.toInt ∧ (hx_FS c0.toInt pn0.toInt nw0.toInt i1.toInt i2.toInt i3.toInt i4.toInt i6.toInt df r.toInt cn1.toInt) ∧ hx_CD c0.toInt r.toInt (-1) ff ff1 ∧ ((cn1.toInt = c0.toInt ∧ hf1 = hf ∧ ff1 = ff) ∨ (cn1.toInt = c0.toInt + 1 ∧ hf1 = hx_up hf c0.toInt.toNat (-1) ∧ ff1 = hx_up ff c0.toInt.toNat (-1))) ∧ hw_UP r.toInt c0.toInt i2 agf agf1)) ∧ hx_T T_tb u.1 u.2 ∧ hx_S T_tb [(10, 36), (72, 0), (73, 0), (74, 0), (75, 0), (76, 0), (77, 0), (78, 0), (79, 0), (81, 0), (82, 0), (83, 0), (84, 0), (85, 0), (87, 0)] L h u.1 u.2) (hx_E T_tb (P_ty dA) (dC, dI) vwCl (hx_A L sz)) (hx_A L sz)) ([.ref x, .int i1, .int i2, .int i3, .int i4, .int i5, .int i6] : List Value).toArray s 0 0 (hx_A L sz)) (F0 m 202 ls []) := by
                    intro n202
                    induction n202 with
                    | zero => intro iv202_8 H locs hL1 hl1 bliv202_8 buiv202_8  ls hn202; exfalso; omega
                    | succ n202 ih202 =>
                      intro iv202_8 H locs hL1 hl1 bliv202_8 buiv202_8  ls hn202 hW hT hM f_x_36 fq_35 fq_39 fq_41 fq_43 fq_45 fq_47 fq_60 fq_62 fq_64 gq_35 gq_39 gq_41 gq_43 gq_45 gq_47 gq_60 gq_62 gq_64 nfa_38 nfa_55 nfa_57 nfa_59 hl
                      refine lv_iload hx hb dX10_file_202 (lv_at hl 0 rfl) ?_
                      refine lv_iconst (v := 3) hx hb dX10_file_204 (by decide) ?_
                      refine hb_icmp_ge (zx := iv202_8.toInt) (zy := 3) (tgt := 227) hx hb rfl (by decide) dX10_file_205 (by decide) (fun c_66 => ?_) (fun c_66 => ?_)
                      · skip
                        refine lv_aload_n hx hb dX10_file_227 rfl (lv_at hl 2 rfl) ?_
                        refine lv_dup hx hb dX10_file_228 rfl ?_
                        refine hk_geti hx hb hts hC_10 hown hW (gx.S hM) tt_10 36 (by decide) rfl kw_1179 ⟨rfl, rfl, rfl⟩ f_x_36 dX10_file_229 ?_
                        refine lv_iconst (v := 1) hx hb dX10_file_232 (by decide) ?_
                        refine lv_iadd hx hb dX10_file_233 ?_
                        have rg_67 := i32_r c0
                        refine lv_topi (fun x_68 ex_68 => ?_)
                        have zx_68 : x_68.toInt = c0.toInt + 1 := by rw [ex_68]; exact i32_add rfl (by decide) (by omega) (by omega)
                        refine hx_puti hx hb hts hC_10 hown hW hT (hx_S.rf (M := [(10, 36)])) (gx.S hM) tt_10 36 (by decide) rfl kw_1179 ⟨rfl, rfl, rfl⟩ rfl (x := x_68) ⟨by omega, by omega⟩ rfl rfl rfl (List.mem_singleton.mpr rfl) dX10_file_234 (fun H locs h_69 eh_69 hW hT hs => ?_)
                        replace fq_35 := (hs.o (gx.S hM) trivial rfl).2.trans fq_35
                        replace fq_39 := (hs.o (gx.S hM) trivial rfl).2.trans fq_39
                        replace fq_41 := (hs.o (gx.S hM) trivial rfl).2.trans fq_41
                        replace fq_43 := (hs.o (gx.S hM) trivial rfl).2.trans fq_43
                        replace fq_45 := (hs.o (gx.S hM) trivial rfl).2.trans fq_45
                        replace fq_47 := (hs.o (gx.S hM) trivial rfl).2.trans fq_47
                        replace fq_60 := (hs.o (gx.S hM) trivial rfl).2.trans fq_60
                        replace fq_62 := (hs.o (gx.S hM) trivial rfl).2.trans fq_62
                        replace fq_64 := (hs.o (gx.S hM) trivial rfl).2.trans fq_64
                        replace nfa_38 : h_69.2.1 qag = fa_38 := (funext fun j => (hs.a (gqag.S hM) rfl j).1).trans nfa_38
                        replace nfa_55 : h_69.2.1 qc = fa_55 := (funext fun j => (hs.a (gqc.S hM) rfl j).1).trans nfa_55
                        replace nfa_57 : h_69.2.1 qf = fa_57 := (funext fun j => (hs.a (gqf.S hM) rfl j).1).trans nfa_57
                        replace nfa_59 : h_69.2.1 qh = fa_59 := (funext fun j => (hs.a (gqh.S hM) rfl j).1).trans nfa_59
                        replace hM := hM.tr (hs.mono (by decide))
                        replace gq_35 := gq_35.S hs
                        replace gq_39 := gq_39.S hs
                        replace gq_41 := gq_41.S hs
                        replace gq_43 := gq_43.S hs
                        replace gq_45 := gq_45.S hs
                        replace gq_47 := gq_47.S hs
                        replace gq_60 := gq_60.S hs
                        replace gq_62 := gq_62.S hs
                        replace gq_64 := gq_64.S hs
                        have f_70 : h_69.2.1 x 36 = x_68 := by rw [eh_69]; exact hx_pi_at _ _ _ _
                        refine lv_iload hx hb dX10_file_237 (lv_at hl 1 rfl) ?_
                        exact hx_reti hx hb hr hlk hW ⟨⟨x_68, fa_59, fa_55, fa_57, fa_38, f_70, nfa_59, nfa_55, nfa_57, nfa_38, ⟨hx_filed hHC (by omega) rfl (by decide) dfa_59 (by omega), hx_PL_up hPL rfl (by omega) ⟨by omega, by omega⟩ dfa_55 (by omega), (Or.inr ⟨by omega, by omega, by unfold hx_FC; exact ⟨by omega, by omega, by omega, by omega, (by show (df i2.toNatClampNeg).toInt = 0; rw [← ax_15]; omega), by omega, by omega, by omega⟩⟩), (Or.inr ⟨by omega, by omega, dfa_57⟩), (Or.inr ⟨by omega, dfa_59, dfa_57⟩), (Or.inr ⟨by omega, dfa_38⟩)⟩⟩, hT, hM⟩ dX10_file_239
                      · skip
                        refine lv_aload_n hx hb dX10_file_208 rfl (lv_at hl 2 rfl) ?_
                        refine hx_getn hx hb hts hC_10 hown hW hT (gx.S hM) tt_10 52 (by decide) rfl kw_1195 ⟨rfl, rfl, rfl⟩ dX10_file_209 (fun q_71 fq_71 gq_71 => ?_)
                        refine lv_iconst (v := 3) hx hb dX10_file_212 (by decide) ?_
                        refine lv_iload hx hb dX10_file_213 (lv_at hl 1 rfl) ?_
                        refine lv_imul hx hb dX10_file_215 ?_
                        refine lv_topi (fun x_72 ex_72 => ?_)
                        have zx_72 : x_72.toInt = 3 * c0.toInt := by rw [ex_72]; exact i32_mul (by decide) rfl rfl (by omega) (by omega)
                        refine lv_iload hx hb dX10_file_216 (lv_at hl 0 rfl) ?_
                        refine lv_iadd hx hb dX10_file_218 ?_
                        have rg_73 := i32_r x_72
                        have rg_74 := i32_r iv202_8
                        refine lv_topi (fun x_75 ex_75 => ?_)
                        have zx_75 : x_75.toInt = x_72.toInt + iv202_8.toInt := by rw [ex_75]; exact i32_add rfl rfl (by omega) (by omega)
                        refine lv_iconst (v := -1) hx hb dX10_file_219 (by decide) ?_
                        refine hx_iast hx hb hW hT (hx_S.rf (M := [(87, 0)])) gq_71 tt_87 rfl ⟨by omega, by omega⟩ rfl (by decide) (List.mem_singleton.mpr rfl) dX10_file_220 (fun H locs h_76 eh_76 hW hT hs => ?_)
                        replace f_x_36 := (hs.o (gx.S hM) trivial rfl).1.trans f_x_36
                        replace fq_35 := (hs.o (gx.S hM) trivial rfl).2.trans fq_35
                        replace fq_39 := (hs.o (gx.S hM) trivial rfl).2.trans fq_39
                        replace fq_41 := (hs.o (gx.S hM) trivial rfl).2.trans fq_41
                        replace fq_43 := (hs.o (gx.S hM) trivial rfl).2.trans fq_43
                        replace fq_45 := (hs.o (gx.S hM) trivial rfl).2.trans fq_45
                        replace fq_47 := (hs.o (gx.S hM) trivial rfl).2.trans fq_47
                        replace fq_60 := (hs.o (gx.S hM) trivial rfl).2.trans fq_60
                        replace fq_62 := (hs.o (gx.S hM) trivial rfl).2.trans fq_62
                        replace fq_64 := (hs.o (gx.S hM) trivial rfl).2.trans fq_64
                        replace fq_71 := (hs.o (gx.S hM) trivial rfl).2.trans fq_71
                        replace nfa_38 : h_76.2.1 qag = fa_38 := (funext fun j => (hs.a (gqag.S hM) rfl j).1).trans nfa_38
                        replace nfa_55 : h_76.2.1 qc = fa_55 := (funext fun j => (hs.a (gqc.S hM) rfl j).1).trans nfa_55
                        replace nfa_57 : h_76.2.1 qf = fa_57 := (funext fun j => (hs.a (gqf.S hM) rfl j).1).trans nfa_57
                        replace nfa_59 : h_76.2.1 qh = fa_59 := (funext fun j => (hs.a (gqh.S hM) rfl j).1).trans nfa_59
                        replace hM := hM.tr (hs.mono (by decide))
                        replace gq_35 := gq_35.S hs
                        replace gq_39 := gq_39.S hs
                        replace gq_41 := gq_41.S hs
                        replace gq_43 := gq_43.S hs
                        replace gq_45 := gq_45.S hs
                        replace gq_47 := gq_47.S hs
                        replace gq_60 := gq_60.S hs
                        replace gq_62 := gq_62.S hs
                        replace gq_64 := gq_64.S hs
                        replace gq_71 := gq_71.S hs
                        obtain ⟨x_77, ex_77⟩ : ∃ y : Int32, y = iv202_8 + Int32.ofInt 1 := ⟨_, rfl⟩
                        have zx_77 : x_77.toInt = iv202_8.toInt + (1) := by rw [ex_77]; exact i32_add rfl (by decide) (by omega) (by omega)
                        refine lv_iinc (v := x_77) (lv' := [(8, .int x_77), (7, .int c0), (0, .ref x), (1, .int i1), (2, .int i2), (3, .int i3), (4, .int i4), (5, .int i5), (6, .int i6)]) hx hb dX10_file_221 hl (k := 0) rfl ex_77.symm (by decide) rfl (fun ls hl => ?_)
                        refine lv_goto (tgt := 202) hx hb dX10_file_224 (by decide) ?_
                        exact ih202 x_77 _ _ hL1 h_76 (by omega) (by omega)  ls (by omega) hW hT hM f_x_36 fq_35 fq_39 fq_41 fq_43 fq_45 fq_47 fq_60 fq_62 fq_64 gq_35 gq_39 gq_41 gq_43 gq_45 gq_47 gq_60 gq_62 gq_64 nfa_38 nfa_55 nfa_57 nfa_59 (lv_sub hl [0, 1, 2, 3, 4, 5, 6, 7, 8] rfl)
                  have zk_0 : (0 : Int32).toInt = 0 := by decide
                  exact loop202 4 (0 : Int32) _ _ L_49 h_65 (by decide) (by decide)  ls (by omega) hW hT hM f_x_36 fq_35 fq_39 fq_41 fq_43 fq_45 fq_47 fq_60 fq_62 fq_64 gq_35 gq_39 gq_41 gq_43 gq_45 gq_47 gq_60 gq_62 gq_64 nfa_38 nfa_55 nfa_57 nfa_59 hl
                · skip
                  replace hr_33 := hr_33.resolve_right (fun z9 => absurd (c_34.symm.trans z9.1) (by decide))
                  replace hr_33 := hr_33.2
                  refine lv_iconst (v := -1) hx hb dX10_file_74 (by decide) ?_
                  exact hx_reti hx hb hr hlk hW ⟨⟨c0, hf, plf, ff, agf, f_x_36, af_qh, af_qc, af_qf, af_qag, ⟨hHC, hPL, (Or.inl ⟨by decide, by omega, fun hc => by unfold hx_FC at hc; have h1 : (df i2.toNatClampNeg).toInt = 0 := hc.2.2.2.2.1; rw [← ax_15] at h1; omega⟩), (Or.inl ⟨by decide, rfl⟩), (Or.inl ⟨by omega, rfl, rfl⟩), (Or.inl ⟨by decide, rfl⟩)⟩⟩, hT, hM⟩ dX10_file_75


set_option maxHeartbeats 4000000 in
set_option maxRecDepth 100000 in
theorem t_X10_summons_2 (l : Launch) (dC : Nat → ClassId) (dI : Nat → Nat → Nat) (dA : Nat → ClassId) (L : List Nat) (h : hx_h) (sz : Nat) (x : Nat) (i1 : Int32) (i2 : Int32) (hT : hx_T T_tb L h) (gx : hx_g L h x 10) (qtr : Nat) (gqtr : hx_g L h qtr 80) (f_x_45 : h.2.2 x 45 = some qtr) (qf : Nat) (gqf : hx_g L h qf 81) (f_x_46 : h.2.2 x 46 = some qf) (qh : Nat) (gqh : hx_g L h qh 82) (f_x_47 : h.2.2 x 47 = some qh) (trf : Nat → Int32) (af_qtr : h.2.1 qtr = trf) (ff : Nat → Int32) (af_qf : h.2.1 qf = ff) (hf : Nat → Int32) (af_qh : h.2.1 qh = hf) (c0 : Int32) (f_x_36 : h.2.1 x 36 = c0) (nw0 : Int32) (f_x_0 : h.2.1 x 0 = nw0) (T1 : Int) (hT1 : T1 ≤ 511) (hTR : hx_TR trf T1) (hHF : hx_HF c0.toInt hf ff) : Met l yX10_summons (Cond.code yX10_summons cX10_summons 3 (some .int) :: hx_all) ({ frames := 2, cells := 0, slots := 0, locals := 43 }) (va_Pc [.ref x, .int i1, .int i2] (hx_B T_tb (P_ty dA) (dC, dI) vwCl L h sz)) (va_Qi (fun (r : Int32) (u : List Nat × hx_h) => (∃ (trf1 : Nat → Int32) (ff1 : Nat → Int32), u.2.2.1 qtr = trf1 ∧ u.2.2.1 qf = ff1 ∧ (hx_TR trf1 (T1 + 1) ∧ hx_SS c0.toInt i1.toInt i2 nw0 r ff ff1 trf trf1)) ∧ hx_T T_tb u.1 u.2 ∧ hx_S T_tb [(80, 0), (81, 0)] L h u.1 u.2) (hx_E T_tb (P_ty dA) (dC, dI) vwCl (hx_A L sz)) (hx_A L sz)) 0 0 (hx_A L sz) := by
  refine hx_met (lv := [(0, .ref x), (1, .int i1), (2, .int i2)]) (by decide +kernel) rfl (Nat.le_of_ble_eq_true rfl) rfl ?_
  intro p e s m below meth c hx hb hml hr hlk hts0 hown hin hsz hW ls hl
  have hts : ∀ w ∈ hx_all, w.before _ s = true := fun w hw => hts0 w (List.mem_cons_of_mem _ hw)
  have hown : s.vm.findClass "SmallCourtModel" = some m.cls := hown
  have hM : hx_S T_tb [(80, 0), (81, 0)] L h L h := hx_S.rf
  have b_c0 := hT.gi gx tt_10 (k := 36) rfl
  rw [f_x_36] at b_c0
  have b_c0 : 0 ≤ c0.toInt ∧ c0.toInt ≤ 100 := b_c0
  have b_nw0 := hT.gi gx tt_10 (k := 0) rfl
  rw [f_x_0] at b_nw0
  have b_nw0 : 0 ≤ nw0.toInt ∧ nw0.toInt ≤ 7999 := b_nw0
  refine lv_aload_n hx hb dX10_summons_0 rfl (lv_at hl 0 rfl) ?_
  refine lv_iload_n hx hb dX10_summons_1 rfl (lv_at hl 1 rfl) ?_
  refine hx_goi (hx_runV (As := [.int i1]) (rest := []) ⟨hx, hb, hml, hown, hts⟩ hW (gx.S hM) tt_10 (T := TX10) (N := 98) rfl (t_X10_isClaim l dC dI dA L h s.heap.size x i1 hT (gx.S hM) c0 ((hM.o gx trivial rfl).1.trans f_x_36)) (cwV 1 hts (hx_gV kw_1597 kw_1594 kw_1596 kw_73 kw_103) rfl rfl rfl (by decide +kernel) ⟨Nat.le_of_ble_eq_true rfl, Nat.le_of_ble_eq_true rfl⟩) rfl hl.1 rfl (Nat.le_of_ble_eq_true rfl) dX10_summons_2 ⟨Nat.le_of_ble_eq_true rfl, Nat.le_of_ble_eq_true rfl⟩) hW (fun r_3 L_1 h_2 H locs p_4 hW => ?_)
  obtain ⟨hr_5, hT, hs⟩ := p_4
  replace hT : hx_T T_tb L_1 h_2 := hT
  replace hs : hx_S T_tb [] L h L_1 h_2 := hs
  replace af_qtr : h_2.2.1 qtr = trf := (funext fun j => (hs.a (gqtr.S hM) rfl j).1).trans af_qtr
  replace af_qf : h_2.2.1 qf = ff := (funext fun j => (hs.a (gqf.S hM) rfl j).1).trans af_qf
  replace hM := hM.tr (hs.mono (by decide))
  refine hb_if_eq (zx := r_3.toInt) (tgt := 28) hx hb rfl dX10_summons_5 (by decide) (fun c_6 => ?_) (fun c_6 => ?_)
  · skip
    replace hr_5 := hr_5.resolve_right (fun z9 => absurd (c_6.symm.trans z9.1) (by decide))
    replace hr_5 := hr_5.2
    refine lv_iconst (v := -1) hx hb dX10_summons_28 (by decide) ?_
    exact hx_reti hx hb hr hlk hW ⟨⟨trf, ff, af_qtr, af_qf, ⟨(hx_TR_le hTR (by omega)), (Or.inl ⟨rfl, rfl, rfl, fun hc => by have := hc.1; have := hc.2.1; omega⟩)⟩⟩, hT, hM⟩ dX10_summons_29
  · skip
    replace hr_5 := hr_5.resolve_left (fun z9 => c_6 z9.1)
    replace c_6 := hr_5.1
    replace hr_5 := hr_5.2
    refine lv_aload_n hx hb dX10_summons_8 rfl (lv_at hl 0 rfl) ?_
    refine hk_getr hx hb hts hC_10 hown hW (gx.S hM) tt_10 46 (by decide) rfl kw_1189 ⟨rfl, rfl, rfl⟩ ((hM.o gx trivial rfl).2.trans f_x_46) dX10_summons_9 ?_
    refine lv_iload_n hx hb dX10_summons_12 rfl (lv_at hl 1 rfl) ?_
    refine hx_iald hx hb hW hT (gqf.S hM) tt_81 rfl ⟨by omega, by omega⟩ dX10_summons_13 (fun x_7 ex_7 lx_7 ux_7 => ?_)
    have ax_7 : x_7 = ff i1.toNatClampNeg := ex_7.trans (congrFun af_qf _)
    refine lv_iconst (v := -1) hx hb dX10_summons_14 (by decide) ?_
    refine hb_icmp_ne (zx := x_7.toInt) (zy := (-1)) (tgt := 28) hx hb rfl (by decide) dX10_summons_15 (by decide) (fun c_8 => ?_) (fun c_8 => ?_)
    · skip
      refine lv_iconst (v := -1) hx hb dX10_summons_28 (by decide) ?_
      exact hx_reti hx hb hr hlk hW ⟨⟨trf, ff, af_qtr, af_qf, ⟨(hx_TR_le hTR (by omega)), (Or.inl ⟨rfl, rfl, rfl, fun hc => by have h1 : (ff i1.toNatClampNeg).toInt = -1 := hc.2.2; rw [← ax_7] at h1; omega⟩)⟩⟩, hT, hM⟩ dX10_summons_29
    · skip
      refine lv_aload_n hx hb dX10_summons_18 rfl (lv_at hl 0 rfl) ?_
      refine hk_getr hx hb hts hC_10 hown hW (gx.S hM) tt_10 47 (by decide) rfl kw_1190 ⟨rfl, rfl, rfl⟩ ((hM.o gx trivial rfl).2.trans f_x_47) dX10_summons_19 ?_
      refine lv_iload_n hx hb dX10_summons_22 rfl (lv_at hl 1 rfl) ?_
      refine hx_iald hx hb hW hT (gqh.S hM) tt_82 rfl ⟨by omega, by omega⟩ dX10_summons_23 (fun x_9 ex_9 lx_9 ux_9 => ?_)
      have ax_9 : x_9 = hf i1.toNatClampNeg := ex_9.trans (congrFun (hx_afS hM gqh rfl af_qh) _)
      refine lv_iconst (v := -1) hx hb dX10_summons_24 (by decide) ?_
      refine hb_icmp_eq (zx := x_9.toInt) (zy := (-1)) (tgt := 30) hx hb rfl (by decide) dX10_summons_25 (by decide) (fun c_10 => ?_) (fun c_10 => ?_)
      · skip
        refine lv_aload_n hx hb dX10_summons_30 rfl (lv_at hl 0 rfl) ?_
        refine hk_getr hx hb hts hC_10 hown hW (gx.S hM) tt_10 45 (by decide) rfl kw_1188 ⟨rfl, rfl, rfl⟩ ((hM.o gx trivial rfl).2.trans f_x_45) dX10_summons_31 ?_
        refine lv_iload_n hx hb dX10_summons_34 rfl (lv_at hl 1 rfl) ?_
        refine lv_dup2_11 hx hb dX10_summons_35 rfl rfl ?_
        refine hx_iald hx hb hW hT (gqtr.S hM) tt_80 rfl ⟨by omega, by omega⟩ dX10_summons_36 (fun x_11 ex_11 lx_11 ux_11 => ?_)
        have ax_11 : x_11 = trf i1.toNatClampNeg := ex_11.trans (congrFun af_qtr _)
        have htr : x_11.toInt ≤ T1 := by rw [ax_11]; exact hTR _ (by unfold Int32.toNatClampNeg; omega)
        refine lv_iconst (v := 1) hx hb dX10_summons_37 (by decide) ?_
        refine lv_iadd hx hb dX10_summons_38 ?_
        have rg_12 := i32_r x_11
        refine lv_topi (fun x_13 ex_13 => ?_)
        have zx_13 : x_13.toInt = x_11.toInt + 1 := by rw [ex_13]; exact i32_add rfl (by decide) (by omega) (by omega)
        have af_qtrO := af_qtr
        refine hx_iast hx hb hW hT (hx_S.rf (M := [(80, 0)])) (gqtr.S hM) tt_80 rfl ⟨by omega, by omega⟩ rfl ⟨by omega, by omega⟩ (List.mem_singleton.mpr rfl) dX10_summons_39 (fun H locs h_14 eh_14 hW hT hs => ?_)
        replace af_qf : h_14.2.1 qf = ff := (funext fun j => (hs.a (gqf.S hM) rfl j).1).trans af_qf
        replace ex_7 := ex_7.trans (hs.a (gqf.S hM) rfl _).1.symm
        replace ex_9 := ex_9.trans (hs.a (gqh.S hM) rfl _).1.symm
        replace hM := hM.tr (hs.mono (by decide))
        obtain ⟨fa_15, dfa_15⟩ : ∃ g : Nat → Int32, g = hx_up trf i1.toNatClampNeg x_13 := ⟨_, rfl⟩
        have nfa_15 : h_14.2.1 qtr = fa_15 := by rw [eh_14, dfa_15, ← af_qtrO]; exact hx_pi_fun _ _ _ _
        refine lv_iload_n hx hb dX10_summons_40 rfl (lv_at hl 2 rfl) ?_
        refine hb_if_eq (zx := i2.toInt) (tgt := 54) hx hb rfl dX10_summons_41 (by decide) (fun c_16 => ?_) (fun c_16 => ?_)
        · skip
          refine lv_aload_n hx hb dX10_summons_54 rfl (lv_at hl 0 rfl) ?_
          refine hk_getr hx hb hts hC_10 hown hW (gx.S hM) tt_10 45 (by decide) rfl kw_1188 ⟨rfl, rfl, rfl⟩ ((hM.o gx trivial rfl).2.trans f_x_45) dX10_summons_55 ?_
          refine lv_iload_n hx hb dX10_summons_58 rfl (lv_at hl 1 rfl) ?_
          refine hx_iald hx hb hW hT (gqtr.S hM) tt_80 rfl ⟨by omega, by omega⟩ dX10_summons_59 (fun x_17 ex_17 lx_17 ux_17 => ?_)
          have ax_17 : x_17 = fa_15 i1.toNatClampNeg := ex_17.trans (congrFun nfa_15 _)
          exact hx_reti hx hb hr hlk hW ⟨⟨fa_15, ff, nfa_15, af_qf, ⟨(hx_TR_up hTR dfa_15 (by omega)), (Or.inr ⟨⟨by omega, by omega, (by show (ff i1.toNatClampNeg).toInt = -1; rw [← ax_7]; omega)⟩, (by rw [ax_17, dfa_15, hx_up_at, ex_13, ax_11]; rfl), (by rw [dfa_15, ex_13, ax_11]; rfl), (Or.inl ⟨by omega, rfl⟩)⟩)⟩⟩, hT, hM⟩ dX10_summons_60
        · skip
          refine lv_aload_n hx hb dX10_summons_44 rfl (lv_at hl 0 rfl) ?_
          refine hk_getr hx hb hts hC_10 hown hW (gx.S hM) tt_10 46 (by decide) rfl kw_1189 ⟨rfl, rfl, rfl⟩ ((hM.o gx trivial rfl).2.trans f_x_46) dX10_summons_45 ?_
          refine lv_iload_n hx hb dX10_summons_48 rfl (lv_at hl 1 rfl) ?_
          refine lv_aload_n hx hb dX10_summons_49 rfl (lv_at hl 0 rfl) ?_
          refine hk_geti hx hb hts hC_10 hown hW (gx.S hM) tt_10 0 (by decide) rfl kw_1143 ⟨rfl, rfl, rfl⟩ ((hM.o gx trivial rfl).1.trans f_x_0) dX10_summons_50 ?_
          have af_qfO := af_qf
          refine hx_iast hx hb hW hT (hx_S.rf (M := [(81, 0)])) (gqf.S hM) tt_81 rfl ⟨by omega, by omega⟩ rfl (i32_r _) (List.mem_singleton.mpr rfl) dX10_summons_53 (fun H locs h_18 eh_18 hW hT hs => ?_)
          replace nfa_15 : h_18.2.1 qtr = fa_15 := (funext fun j => (hs.a (gqtr.S hM) rfl j).1).trans nfa_15
          replace ex_9 := ex_9.trans (hs.a (gqh.S hM) rfl _).1.symm
          replace hM := hM.tr (hs.mono (by decide))
          obtain ⟨fa_19, dfa_19⟩ : ∃ g : Nat → Int32, g = hx_up ff i1.toNatClampNeg nw0 := ⟨_, rfl⟩
          have nfa_19 : h_18.2.1 qf = fa_19 := by rw [eh_18, dfa_19, ← af_qfO]; exact hx_pi_fun _ _ _ _
          refine lv_aload_n hx hb dX10_summons_54 rfl (lv_at hl 0 rfl) ?_
          refine hk_getr hx hb hts hC_10 hown hW (gx.S hM) tt_10 45 (by decide) rfl kw_1188 ⟨rfl, rfl, rfl⟩ ((hM.o gx trivial rfl).2.trans f_x_45) dX10_summons_55 ?_
          refine lv_iload_n hx hb dX10_summons_58 rfl (lv_at hl 1 rfl) ?_
          refine hx_iald hx hb hW hT (gqtr.S hM) tt_80 rfl ⟨by omega, by omega⟩ dX10_summons_59 (fun x_20 ex_20 lx_20 ux_20 => ?_)
          have ax_20 : x_20 = fa_15 i1.toNatClampNeg := ex_20.trans (congrFun nfa_15 _)
          exact hx_reti hx hb hr hlk hW ⟨⟨fa_15, fa_19, nfa_15, nfa_19, ⟨(hx_TR_up hTR dfa_15 (by omega)), (Or.inr ⟨⟨by omega, by omega, (by show (ff i1.toNatClampNeg).toInt = -1; rw [← ax_7]; omega)⟩, (by rw [ax_20, dfa_15, hx_up_at, ex_13, ax_11]; rfl), (by rw [dfa_15, ex_13, ax_11]; rfl), (Or.inr ⟨by omega, dfa_19⟩)⟩)⟩⟩, hT, hM⟩ dX10_summons_60
      · skip
        refine lv_iconst (v := -1) hx hb dX10_summons_28 (by decide) ?_
        exact hx_reti hx hb hr hlk hW ⟨⟨trf, ff, af_qtr, af_qf, ⟨(hx_TR_le hTR (by omega)), (Or.inl ⟨rfl, rfl, rfl, fun hc => hHF i1.toNatClampNeg (by unfold Int32.toNatClampNeg; omega) (by rw [← ax_9]; omega) hc.2.2⟩)⟩⟩, hT, hM⟩ dX10_summons_29


set_option maxHeartbeats 4000000 in
set_option maxRecDepth 100000 in
theorem t_X10_hear_2 (l : Launch) (dC : Nat → ClassId) (dI : Nat → Nat → Nat) (dA : Nat → ClassId) (L : List Nat) (h : hx_h) (sz : Nat) (x : Nat) (i1 : Int32) (i2 : Int32) (i3 : Int32) (i4 : Int32) (hT : hx_T T_tb L h) (gx : hx_g L h x 10) (qn : Nat) (gqn : hx_g L h qn 51) (f_x_4 : h.2.2 x 4 = some qn) (qp : Nat) (gqp : hx_g L h qp 52) (f_x_5 : h.2.2 x 5 = some qp) (qh : Nat) (gqh : hx_g L h qh 82) (f_x_47 : h.2.2 x 47 = some qh) (qc : Nat) (gqc : hx_g L h qc 79) (f_x_44 : h.2.2 x 44 = some qc) (qf : Nat) (gqf : hx_g L h qf 81) (f_x_46 : h.2.2 x 46 = some qf) (psf : Nat → Int32) (af_qn : h.2.1 qn = psf) (prf : Nat → Int32) (af_qp : h.2.1 qp = prf) (hf : Nat → Int32) (af_qh : h.2.1 qh = hf) (plf : Nat → Int32) (af_qc : h.2.1 qc = plf) (ff : Nat → Int32) (af_qf : h.2.1 qf = ff) (a0 : Int32) (f_x_1 : h.2.1 x 1 = a0) (c0 : Int32) (f_x_36 : h.2.1 x 36 = c0) (m0 : Int32) (f_x_57 : h.2.1 x 57 = m0) (hRP : hx_RP prf psf a0.toInt) (hPL : hx_PL plf c0.toInt a0.toInt) (hHC : m0.toInt = hx_hc hf c0.toInt.toNat) : Met l yX10_hear (Cond.code yX10_hear cX10_hear 6 (some .int) :: hx_all) ({ frames := 3, cells := 0, slots := 0, locals := 73 }) (va_Pc [.ref x, .int i1, .int i2, .int i3, .int i4] (hx_B T_tb (P_ty dA) (dC, dI) vwCl L h sz)) (va_Qi (fun (r : Int32) (u : List Nat × hx_h) => (∃ (m1 : Int32) (hf1 : Nat → Int32), u.2.2.1 x 57 = m1 ∧ u.2.2.1 qh = hf1 ∧ (m1.toInt = hx_hc hf1 c0.toInt.toNat ∧ (hf1 = hf ∨ ∃ (j : Nat) (v : Int32), hf1 = hx_up hf j v ∧ (ff j).toInt ≠ -1))) ∧ hx_T T_tb u.1 u.2 ∧ hx_S T_tb [(10, 57), (71, 0), (82, 0), (86, 0), (87, 0), (88, 0), (92, 0), (98, 0), (99, 0)] L h u.1 u.2) (hx_E T_tb (P_ty dA) (dC, dI) vwCl (hx_A L sz)) (hx_A L sz)) 0 0 (hx_A L sz) := by
  refine hx_met (lv := [(0, .ref x), (1, .int i1), (2, .int i2), (3, .int i3), (4, .int i4)]) (by decide +kernel) rfl (Nat.le_of_ble_eq_true rfl) rfl ?_
  intro p e s m below meth c hx hb hml hr hlk hts0 hown hin hsz hW ls hl
  have hts : ∀ w ∈ hx_all, w.before _ s = true := fun w hw => hts0 w (List.mem_cons_of_mem _ hw)
  have hown : s.vm.findClass "SmallCourtModel" = some m.cls := hown
  have hM : hx_S T_tb [(10, 57), (71, 0), (82, 0), (86, 0), (87, 0), (88, 0), (92, 0), (98, 0), (99, 0)] L h L h := hx_S.rf
  have b_a0 := hT.gi gx tt_10 (k := 1) rfl
  rw [f_x_1] at b_a0
  have b_a0 : 0 ≤ a0.toInt ∧ a0.toInt ≤ 8 := b_a0
  have b_c0 := hT.gi gx tt_10 (k := 36) rfl
  rw [f_x_36] at b_c0
  have b_c0 : 0 ≤ c0.toInt ∧ c0.toInt ≤ 100 := b_c0
  have b_m0 := hT.gi gx tt_10 (k := 57) rfl
  rw [f_x_57] at b_m0
  have b_m0 : 0 ≤ m0.toInt ∧ m0.toInt ≤ 100 := b_m0
  refine lv_aload_n hx hb dX10_hear_0 rfl (lv_at hl 0 rfl) ?_
  refine lv_iload_n hx hb dX10_hear_1 rfl (lv_at hl 1 rfl) ?_
  refine hx_goi (hx_runV (As := [.int i1]) (rest := []) ⟨hx, hb, hml, hown, hts⟩ hW (gx.S hM) tt_10 (T := TX10) (N := 98) rfl (t_X10_isClaim l dC dI dA L h s.heap.size x i1 hT (gx.S hM) c0 ((hM.o gx trivial rfl).1.trans f_x_36)) (cwV 1 hts (hx_gV kw_1597 kw_1594 kw_1596 kw_73 kw_103) rfl rfl rfl (by decide +kernel) ⟨Nat.le_of_ble_eq_true rfl, Nat.le_of_ble_eq_true rfl⟩) rfl hl.1 rfl (Nat.le_of_ble_eq_true rfl) dX10_hear_2 ⟨Nat.le_of_ble_eq_true rfl, Nat.le_of_ble_eq_true rfl⟩) hW (fun r_3 L_1 h_2 H locs p_4 hW => ?_)
  obtain ⟨hr_5, hT, hs⟩ := p_4
  replace hT : hx_T T_tb L_1 h_2 := hT
  replace hs : hx_S T_tb [] L h L_1 h_2 := hs
  replace f_x_57 := (hs.o (gx.S hM) trivial rfl).1.trans f_x_57
  replace af_qh : h_2.2.1 qh = hf := (funext fun j => (hs.a (gqh.S hM) rfl j).1).trans af_qh
  replace hM := hM.tr (hs.mono (by decide))
  refine hb_if_eq (zx := r_3.toInt) (tgt := 47) hx hb rfl dX10_hear_5 (by decide) (fun c_6 => ?_) (fun c_6 => ?_)
  · skip
    replace hr_5 := hr_5.resolve_right (fun z9 => absurd (c_6.symm.trans z9.1) (by decide))
    replace hr_5 := hr_5.2
    refine lv_iconst (v := -1) hx hb dX10_hear_47 (by decide) ?_
    exact hx_reti hx hb hr hlk hW ⟨⟨m0, hf, f_x_57, af_qh, ⟨hHC, Or.inl rfl⟩⟩, hT, hM⟩ dX10_hear_48
  · skip
    replace hr_5 := hr_5.resolve_left (fun z9 => c_6 z9.1)
    replace c_6 := hr_5.1
    replace hr_5 := hr_5.2
    refine lv_aload_n hx hb dX10_hear_8 rfl (lv_at hl 0 rfl) ?_
    refine hk_getr hx hb hts hC_10 hown hW (gx.S hM) tt_10 46 (by decide) rfl kw_1189 ⟨rfl, rfl, rfl⟩ ((hM.o gx trivial rfl).2.trans f_x_46) dX10_hear_9 ?_
    refine lv_iload_n hx hb dX10_hear_12 rfl (lv_at hl 1 rfl) ?_
    refine hx_iald hx hb hW hT (gqf.S hM) tt_81 rfl ⟨by omega, by omega⟩ dX10_hear_13 (fun x_7 ex_7 lx_7 ux_7 => ?_)
    have ax_7 : x_7 = ff i1.toNatClampNeg := ex_7.trans (congrFun (hx_afS hM gqf rfl af_qf) _)
    refine lv_iconst (v := -1) hx hb dX10_hear_14 (by decide) ?_
    refine hb_icmp_eq (zx := x_7.toInt) (zy := (-1)) (tgt := 47) hx hb rfl (by decide) dX10_hear_15 (by decide) (fun c_8 => ?_) (fun c_8 => ?_)
    · skip
      refine lv_iconst (v := -1) hx hb dX10_hear_47 (by decide) ?_
      exact hx_reti hx hb hr hlk hW ⟨⟨m0, hf, f_x_57, af_qh, ⟨hHC, Or.inl rfl⟩⟩, hT, hM⟩ dX10_hear_48
    · skip
      refine lv_aload_n hx hb dX10_hear_18 rfl (lv_at hl 0 rfl) ?_
      refine hk_getr hx hb hts hC_10 hown hW (gx.S hM) tt_10 47 (by decide) rfl kw_1190 ⟨rfl, rfl, rfl⟩ ((hM.o gx trivial rfl).2.trans f_x_47) dX10_hear_19 ?_
      refine lv_iload_n hx hb dX10_hear_22 rfl (lv_at hl 1 rfl) ?_
      refine hx_iald hx hb hW hT (gqh.S hM) tt_82 rfl ⟨by omega, by omega⟩ dX10_hear_23 (fun x_9 ex_9 lx_9 ux_9 => ?_)
      have ax_9 : x_9 = hf i1.toNatClampNeg := ex_9.trans (congrFun af_qh _)
      refine lv_iconst (v := -1) hx hb dX10_hear_24 (by decide) ?_
      refine hb_icmp_ne (zx := x_9.toInt) (zy := (-1)) (tgt := 47) hx hb rfl (by decide) dX10_hear_25 (by decide) (fun c_10 => ?_) (fun c_10 => ?_)
      · skip
        refine lv_iconst (v := -1) hx hb dX10_hear_47 (by decide) ?_
        exact hx_reti hx hb hr hlk hW ⟨⟨m0, hf, f_x_57, af_qh, ⟨hHC, Or.inl rfl⟩⟩, hT, hM⟩ dX10_hear_48
      · skip
        refine lv_aload_n hx hb dX10_hear_28 rfl (lv_at hl 0 rfl) ?_
        refine hx_getn hx hb hts hC_10 hown hW hT (gx.S hM) tt_10 27 (by decide) rfl kw_1170 ⟨rfl, rfl, rfl⟩ dX10_hear_29 (fun q_11 fq_11 gq_11 => ?_)
        refine lv_aload_n hx hb dX10_hear_32 rfl (lv_at hl 0 rfl) ?_
        refine hx_getn hx hb hts hC_10 hown hW hT (gx.S hM) tt_10 38 (by decide) rfl kw_1181 ⟨rfl, rfl, rfl⟩ dX10_hear_33 (fun q_12 fq_12 gq_12 => ?_)
        refine lv_iload_n hx hb dX10_hear_36 rfl (lv_at hl 1 rfl) ?_
        refine hx_iald hx hb hW hT gq_12 tt_73 rfl ⟨by omega, by omega⟩ dX10_hear_37 (fun x_13 ex_13 lx_13 ux_13 => ?_)
        refine hx_zald hx hb hW hT gq_11 tt_64 rfl ⟨by omega, by omega⟩ dX10_hear_38 (fun x_14 ex_14 lx_14 ux_14 => ?_)
        refine hb_if_ne (zx := x_14.toInt) (tgt := 47) hx hb rfl dX10_hear_39 (by decide) (fun c_15 => ?_) (fun c_15 => ?_)
        · skip
          refine lv_iconst (v := -1) hx hb dX10_hear_47 (by decide) ?_
          exact hx_reti hx hb hr hlk hW ⟨⟨m0, hf, f_x_57, af_qh, ⟨hHC, Or.inl rfl⟩⟩, hT, hM⟩ dX10_hear_48
        · skip
          refine lv_iload hx hb dX10_hear_42 (lv_at hl 4 rfl) ?_
          refine hb_if_ge (zx := i4.toInt) (tgt := 49) hx hb rfl dX10_hear_44 (by decide) (fun c_16 => ?_) (fun c_16 => ?_)
          · skip
            refine lv_aload_n hx hb dX10_hear_49 rfl (lv_at hl 0 rfl) ?_
            refine lv_iload_n hx hb dX10_hear_50 rfl (lv_at hl 1 rfl) ?_
            refine hx_goi (hx_runV (As := [.int i1]) (rest := []) ⟨hx, hb, hml, hown, hts⟩ hW (gx.S hM) tt_10 (T := TX10) (N := 98) rfl (t_X10_sits l dC dI dA L_1 h_2 H.size x i1 hT (gx.S hM) ⟨by omega, by omega⟩) (cwV 1 hts (hx_gV kw_1605 kw_1602 kw_1604 kw_74 kw_103) rfl rfl rfl (by decide +kernel) ⟨Nat.le_of_ble_eq_true rfl, Nat.le_of_ble_eq_true rfl⟩) rfl hl.1 rfl (Nat.le_of_ble_eq_true rfl) dX10_hear_51 ⟨Nat.le_of_ble_eq_true rfl, Nat.le_of_ble_eq_true rfl⟩) hW (fun r_19 L_17 h_18 H locs p_20 hW => ?_)
            obtain ⟨hr_21, hT, hs⟩ := p_20
            replace hT : hx_T T_tb L_17 h_18 := hT
            replace hs : hx_S T_tb [(98, 0)] L_1 h_2 L_17 h_18 := hs
            replace f_x_57 := (hs.o (gx.S hM) trivial rfl).1.trans f_x_57
            replace fq_11 := (hs.o (gx.S hM) trivial rfl).2.trans fq_11
            replace fq_12 := (hs.o (gx.S hM) trivial rfl).2.trans fq_12
            replace af_qh : h_18.2.1 qh = hf := (funext fun j => (hs.a (gqh.S hM) rfl j).1).trans af_qh
            replace ex_7 := ex_7.trans (hs.a (gqf.S hM) rfl _).1.symm
            replace ex_9 := ex_9.trans (hs.a (gqh.S hM) rfl _).1.symm
            replace ex_13 := ex_13.trans (hs.a gq_12 rfl _).1.symm
            replace ex_14 := ex_14.trans (hs.a gq_11 rfl _).1.symm
            replace hM := hM.tr (hs.mono (by decide))
            replace gq_11 := gq_11.S hs
            replace gq_12 := gq_12.S hs
            refine lv_istore (lv' := [(5, .int r_19), (0, .ref x), (1, .int i1), (2, .int i2), (3, .int i3), (4, .int i4)]) hx hb dX10_hear_54 hl (by decide) rfl (fun ls hl => ?_)
            refine lv_iload hx hb dX10_hear_56 (lv_at hl 0 rfl) ?_
            refine lv_iconst (v := 3) hx hb dX10_hear_58 (by decide) ?_
            refine hb_icmp_ge (zx := r_19.toInt) (zy := 3) (tgt := 64) hx hb rfl (by decide) dX10_hear_59 (by decide) (fun c_22 => ?_) (fun c_22 => ?_)
            · skip
              refine lv_aload_n hx hb dX10_hear_64 rfl (lv_at hl 1 rfl) ?_
              refine lv_iload_n hx hb dX10_hear_65 rfl (lv_at hl 2 rfl) ?_
              refine lv_iload hx hb dX10_hear_66 (lv_at hl 0 rfl) ?_
              refine lv_iload hx hb dX10_hear_68 (lv_at hl 5 rfl) ?_
              refine lv_iload hx hb dX10_hear_70 (lv_at hl 0 rfl) ?_
              refine lv_iload hx hb dX10_hear_72 (lv_at hl 0 rfl) ?_
              refine lv_iconst (v := 1) hx hb dX10_hear_74 (by decide) ?_
              refine lv_isub hx hb dX10_hear_75 ?_
              have rg_23 := i32_r r_19
              refine lv_topi (fun x_24 ex_24 => ?_)
              have zx_24 : x_24.toInt = r_19.toInt - 1 := by rw [ex_24]; exact i32_sub rfl (by decide) (by omega) (by omega)
              refine lv_imul hx hb dX10_hear_76 ?_
              refine lv_topi (fun x_25 ex_25 => ?_)
              have mx_25 : r_19.toInt = 0 → x_25.toInt = 0 := fun z => by rw [ex_25]; exact hx_mul0 z
              refine lv_iload hx hb dX10_hear_77 (lv_at hl 0 rfl) ?_
              refine lv_iconst (v := 2) hx hb dX10_hear_79 (by decide) ?_
              refine lv_isub hx hb dX10_hear_80 ?_
              refine lv_topi (fun x_26 ex_26 => ?_)
              have zx_26 : x_26.toInt = r_19.toInt - 2 := by rw [ex_26]; exact i32_sub rfl (by decide) (by omega) (by omega)
              refine lv_imul hx hb dX10_hear_81 ?_
              refine lv_topi (fun x_27 ex_27 => ?_)
              have mx_27 : x_25.toInt = 0 → x_27.toInt = 0 := fun z => by rw [ex_27]; exact hx_mul0 z
              refine lv_bipush (v := 6) hx hb dX10_hear_82 (by decide) ?_
              refine lv_idiv hx hb dX10_hear_84 (by decide) ?_
              refine lv_topi (fun x_28 ex_28 => ?_)
              have zx_28 : -1073741824 ≤ x_28.toInt ∧ x_28.toInt ≤ 1073741824 := by rw [ex_28]; exact hx_divb (by decide)
              have hdv : 1 ≤ x_28.toInt := by rw [ex_28, ex_27, ex_25, ex_24, ex_26]; exact hx_n6 (by omega) (by omega)
              refine lv_irem hx hb dX10_hear_85 (hx_ne0 (by omega)) ?_
              refine lv_topi (fun x_29 ex_29 => ?_)
              have zx_29 : 0 ≤ x_29.toInt ∧ x_29.toInt < x_28.toInt := by rw [ex_29]; exact hx_rem (by omega) (by omega)
              refine hx_gov (hx_runV (As := [.int i1, .int r_19, .int x_29]) (rest := []) ⟨hx, hb, hml, hown, hts⟩ hW (gx.S hM) tt_10 (T := TX10) (N := 98) rfl (t_X10_draws l dC dI dA L_17 h_18 H.size x i1 r_19 x_29 hT (gx.S hM) ⟨by omega, by omega⟩ ⟨by omega, by omega⟩) (cwV 3 hts (hx_gV kw_1613 kw_1610 kw_1612 kw_76 kw_103) rfl rfl rfl (by decide +kernel) ⟨Nat.le_of_ble_eq_true rfl, Nat.le_of_ble_eq_true rfl⟩) rfl hl.1 rfl (Nat.le_of_ble_eq_true rfl) dX10_hear_86 ⟨Nat.le_of_ble_eq_true rfl, Nat.le_of_ble_eq_true rfl⟩) hW (fun L_30 h_31 H locs p_33 hW => ?_)
              obtain ⟨hT, hs⟩ := p_33
              replace hT : hx_T T_tb L_30 h_31 := hT
              replace hs : hx_S T_tb [(87, 0)] L_17 h_18 L_30 h_31 := hs
              replace f_x_57 := (hs.o (gx.S hM) trivial rfl).1.trans f_x_57
              replace fq_11 := (hs.o (gx.S hM) trivial rfl).2.trans fq_11
              replace fq_12 := (hs.o (gx.S hM) trivial rfl).2.trans fq_12
              replace af_qh : h_31.2.1 qh = hf := (funext fun j => (hs.a (gqh.S hM) rfl j).1).trans af_qh
              replace ex_7 := ex_7.trans (hs.a (gqf.S hM) rfl _).1.symm
              replace ex_9 := ex_9.trans (hs.a (gqh.S hM) rfl _).1.symm
              replace ex_13 := ex_13.trans (hs.a gq_12 rfl _).1.symm
              replace ex_14 := ex_14.trans (hs.a gq_11 rfl _).1.symm
              replace hM := hM.tr (hs.mono (by decide))
              replace gq_11 := gq_11.S hs
              replace gq_12 := gq_12.S hs
              have hlt := hx_hear_lt hHC (by omega) (by omega) ax_9 (by omega)
              refine lv_aload_n hx hb dX10_hear_89 rfl (lv_at hl 1 rfl) ?_
              refine hk_getr hx hb hts hC_10 hown hW (gx.S hM) tt_10 47 (by decide) rfl kw_1190 ⟨rfl, rfl, rfl⟩ ((hM.o gx trivial rfl).2.trans f_x_47) dX10_hear_90 ?_
              refine lv_iload_n hx hb dX10_hear_93 rfl (lv_at hl 2 rfl) ?_
              refine lv_aload_n hx hb dX10_hear_94 rfl (lv_at hl 1 rfl) ?_
              refine hx_geti hx hb hts hC_10 hown hW hT (gx.S hM) tt_10 0 (by decide) rfl kw_1143 ⟨rfl, rfl, rfl⟩ dX10_hear_95 (fun x_35 ex_35 lx_35 ux_35 => ?_)
              have fx_35 := ex_35.symm
              have af_qhO := af_qh
              refine hx_iast hx hb hW hT (hx_S.rf (M := [(82, 0)])) (gqh.S hM) tt_82 rfl ⟨by omega, by omega⟩ rfl ⟨by omega, by omega⟩ (List.mem_singleton.mpr rfl) dX10_hear_98 (fun H locs h_36 eh_36 hW hT hs => ?_)
              replace f_x_57 := (hs.o (gx.S hM) trivial rfl).1.trans f_x_57
              replace fq_11 := (hs.o (gx.S hM) trivial rfl).2.trans fq_11
              replace fq_12 := (hs.o (gx.S hM) trivial rfl).2.trans fq_12
              replace fx_35 := (hs.o (gx.S hM) trivial rfl).1.trans fx_35
              replace ex_7 := ex_7.trans (hs.a (gqf.S hM) rfl _).1.symm
              replace ex_13 := ex_13.trans (hs.a gq_12 rfl _).1.symm
              replace ex_14 := ex_14.trans (hs.a gq_11 rfl _).1.symm
              replace hM := hM.tr (hs.mono (by decide))
              replace gq_11 := gq_11.S hs
              replace gq_12 := gq_12.S hs
              obtain ⟨fa_37, dfa_37⟩ : ∃ g : Nat → Int32, g = hx_up hf i1.toNatClampNeg x_35 := ⟨_, rfl⟩
              have nfa_37 : h_36.2.1 qh = fa_37 := by rw [eh_36, dfa_37, ← af_qhO]; exact hx_pi_fun _ _ _ _
              refine lv_aload_n hx hb dX10_hear_99 rfl (lv_at hl 1 rfl) ?_
              refine hx_getn hx hb hts hC_10 hown hW hT (gx.S hM) tt_10 58 (by decide) rfl kw_1201 ⟨rfl, rfl, rfl⟩ dX10_hear_100 (fun q_38 fq_38 gq_38 => ?_)
              refine lv_aload_n hx hb dX10_hear_103 rfl (lv_at hl 1 rfl) ?_
              refine hk_geti hx hb hts hC_10 hown hW (gx.S hM) tt_10 57 (by decide) rfl kw_1200 ⟨rfl, rfl, rfl⟩ f_x_57 dX10_hear_104 ?_
              refine lv_iload_n hx hb dX10_hear_107 rfl (lv_at hl 2 rfl) ?_
              refine hx_iast hx hb hW hT (hx_S.rf (M := [(92, 0)])) gq_38 tt_92 rfl ⟨by omega, by omega⟩ rfl ⟨by omega, by omega⟩ (List.mem_singleton.mpr rfl) dX10_hear_108 (fun H locs h_39 eh_39 hW hT hs => ?_)
              replace f_x_57 := (hs.o (gx.S hM) trivial rfl).1.trans f_x_57
              replace fq_11 := (hs.o (gx.S hM) trivial rfl).2.trans fq_11
              replace fq_12 := (hs.o (gx.S hM) trivial rfl).2.trans fq_12
              replace fx_35 := (hs.o (gx.S hM) trivial rfl).1.trans fx_35
              replace fq_38 := (hs.o (gx.S hM) trivial rfl).2.trans fq_38
              replace nfa_37 : h_39.2.1 qh = fa_37 := (funext fun j => (hs.a (gqh.S hM) rfl j).1).trans nfa_37
              replace ex_7 := ex_7.trans (hs.a (gqf.S hM) rfl _).1.symm
              replace ex_13 := ex_13.trans (hs.a gq_12 rfl _).1.symm
              replace ex_14 := ex_14.trans (hs.a gq_11 rfl _).1.symm
              replace hM := hM.tr (hs.mono (by decide))
              replace gq_11 := gq_11.S hs
              replace gq_12 := gq_12.S hs
              replace gq_38 := gq_38.S hs
              refine lv_aload_n hx hb dX10_hear_109 rfl (lv_at hl 1 rfl) ?_
              refine lv_dup hx hb dX10_hear_110 rfl ?_
              refine hk_geti hx hb hts hC_10 hown hW (gx.S hM) tt_10 57 (by decide) rfl kw_1200 ⟨rfl, rfl, rfl⟩ f_x_57 dX10_hear_111 ?_
              refine lv_iconst (v := 1) hx hb dX10_hear_114 (by decide) ?_
              refine lv_iadd hx hb dX10_hear_115 ?_
              have rg_40 := i32_r m0
              refine lv_topi (fun x_41 ex_41 => ?_)
              have zx_41 : x_41.toInt = m0.toInt + 1 := by rw [ex_41]; exact i32_add rfl (by decide) (by omega) (by omega)
              refine hx_puti hx hb hts hC_10 hown hW hT (hx_S.rf (M := [(10, 57)])) (gx.S hM) tt_10 57 (by decide) rfl kw_1200 ⟨rfl, rfl, rfl⟩ rfl (x := x_41) ⟨by omega, by omega⟩ rfl rfl rfl (List.mem_singleton.mpr rfl) dX10_hear_116 (fun H locs h_42 eh_42 hW hT hs => ?_)
              replace fq_11 := (hs.o (gx.S hM) trivial rfl).2.trans fq_11
              replace fq_12 := (hs.o (gx.S hM) trivial rfl).2.trans fq_12
              replace fx_35 := (hs.o (gx.S hM) trivial rfl).1.trans fx_35
              replace fq_38 := (hs.o (gx.S hM) trivial rfl).2.trans fq_38
              replace nfa_37 : h_42.2.1 qh = fa_37 := (funext fun j => (hs.a (gqh.S hM) rfl j).1).trans nfa_37
              replace ex_7 := ex_7.trans (hs.a (gqf.S hM) rfl _).1.symm
              replace ex_13 := ex_13.trans (hs.a gq_12 rfl _).1.symm
              replace ex_14 := ex_14.trans (hs.a gq_11 rfl _).1.symm
              replace hM := hM.tr (hs.mono (by decide))
              replace gq_11 := gq_11.S hs
              replace gq_12 := gq_12.S hs
              replace gq_38 := gq_38.S hs
              have f_43 : h_42.2.1 x 57 = x_41 := by rw [eh_42]; exact hx_pi_at _ _ _ _
              refine lv_aload_n hx hb dX10_hear_119 rfl (lv_at hl 1 rfl) ?_
              refine hx_getn hx hb hts hC_10 hown hW hT (gx.S hM) tt_10 53 (by decide) rfl kw_1196 ⟨rfl, rfl, rfl⟩ dX10_hear_120 (fun q_44 fq_44 gq_44 => ?_)
              refine lv_bipush (v := 8) hx hb dX10_hear_123 (by decide) ?_
              refine lv_iload_n hx hb dX10_hear_125 rfl (lv_at hl 2 rfl) ?_
              refine lv_imul hx hb dX10_hear_126 ?_
              refine lv_topi (fun x_45 ex_45 => ?_)
              have zx_45 : x_45.toInt = 8 * i1.toInt := by rw [ex_45]; exact i32_mul (by decide) rfl rfl (by omega) (by omega)
              refine lv_iload_n hx hb dX10_hear_127 rfl (lv_at hl 3 rfl) ?_
              have jn_136 : ∀ (xj_46 : Int32) (ls : Array Slot), 0 ≤ xj_46.toInt → xj_46.toInt ≤ 1 → lv_has ls 6 [(5, .int r_19), (0, .ref x), (1, .int i1), (2, .int i2), (3, .int i3), (4, .int i4)] → W p l e ({ frames := 3, cells := 0, slots := 0, locals := 73 }) s m ([.ref x, .int i1, .int i2, .int i3, .int i4] : List Value).toArray below meth c H locs 0 0 (MQ below (va_Qi (fun (r : Int32) (u : List Nat × hx_h) => (∃ (m1 : Int32) (hf1 : Nat → Int32), u.2.2.1 x 57 = m1 ∧ u.2.2.1 qh = hf1 ∧ (m1.toInt = hx_hc hf1 c0.toInt.toNat ∧ (hf1 = hf ∨ ∃ (j : Nat) (v : Int32), hf1 = hx_up hf j v ∧ (ff j).toInt ≠ -1))) ∧ hx_T T_tb u.1 u.2 ∧ hx_S T_tb [(10, 57), (71, 0), (82, 0), (86, 0), (87, 0), (88, 0), (92, 0), (98, 0), (99, 0)] L h u.1 u.2) (hx_E T_tb (P_ty dA) (dC, dI) vwCl (hx_A L sz)) (hx_A L sz)) ([.ref x, .int i1, .int i2, .int i3, .int i4] : List Value).toArray s 0 0 (hx_A L sz)) (F0 m 136 ls [.int xj_46, .int x_45, .ref q_44]) := by
                intro xj_46 ls blxj_46 buxj_46 hl
                refine hx_iast hx hb hW hT (hx_S.rf (M := [(88, 0)])) gq_44 tt_88 rfl ⟨by omega, by omega⟩ rfl (i32_r _) (List.mem_singleton.mpr rfl) dX10_hear_136 (fun H locs h_47 eh_47 hW hT hs => ?_)
                replace fq_11 := (hs.o (gx.S hM) trivial rfl).2.trans fq_11
                replace fq_12 := (hs.o (gx.S hM) trivial rfl).2.trans fq_12
                replace fx_35 := (hs.o (gx.S hM) trivial rfl).1.trans fx_35
                replace fq_38 := (hs.o (gx.S hM) trivial rfl).2.trans fq_38
                replace f_43 := (hs.o (gx.S hM) trivial rfl).1.trans f_43
                replace fq_44 := (hs.o (gx.S hM) trivial rfl).2.trans fq_44
                replace nfa_37 : h_47.2.1 qh = fa_37 := (funext fun j => (hs.a (gqh.S hM) rfl j).1).trans nfa_37
                replace ex_7 := ex_7.trans (hs.a (gqf.S hM) rfl _).1.symm
                replace ex_13 := ex_13.trans (hs.a gq_12 rfl _).1.symm
                replace ex_14 := ex_14.trans (hs.a gq_11 rfl _).1.symm
                replace hM := hM.tr (hs.mono (by decide))
                replace gq_11 := gq_11.S hs
                replace gq_12 := gq_12.S hs
                replace gq_38 := gq_38.S hs
                replace gq_44 := gq_44.S hs
                refine lv_aload_n hx hb dX10_hear_137 rfl (lv_at hl 1 rfl) ?_
                refine hk_getr hx hb hts hC_10 hown hW (gx.S hM) tt_10 53 (by decide) rfl kw_1196 ⟨rfl, rfl, rfl⟩ fq_44 dX10_hear_138 ?_
                refine lv_bipush (v := 8) hx hb dX10_hear_141 (by decide) ?_
                refine lv_iload_n hx hb dX10_hear_143 rfl (lv_at hl 2 rfl) ?_
                refine lv_imul hx hb dX10_hear_144 ?_
                refine lv_topi (fun x_48 ex_48 => ?_)
                have zx_48 : x_48.toInt = 8 * i1.toInt := by rw [ex_48]; exact i32_mul (by decide) rfl rfl (by omega) (by omega)
                refine lv_iconst (v := 1) hx hb dX10_hear_145 (by decide) ?_
                refine lv_iadd hx hb dX10_hear_146 ?_
                have rg_49 := i32_r x_48
                refine lv_topi (fun x_50 ex_50 => ?_)
                have zx_50 : x_50.toInt = x_48.toInt + 1 := by rw [ex_50]; exact i32_add rfl (by decide) (by omega) (by omega)
                refine lv_iload_n hx hb dX10_hear_147 rfl (lv_at hl 4 rfl) ?_
                have jn_156 : ∀ (xj_51 : Int32) (ls : Array Slot), 0 ≤ xj_51.toInt → xj_51.toInt ≤ 1 → lv_has ls 6 [(5, .int r_19), (0, .ref x), (1, .int i1), (2, .int i2), (3, .int i3), (4, .int i4)] → W p l e ({ frames := 3, cells := 0, slots := 0, locals := 73 }) s m ([.ref x, .int i1, .int i2, .int i3, .int i4] : List Value).toArray below meth c H locs 0 0 (MQ below (va_Qi (fun (r : Int32) (u : List Nat × hx_h) => (∃ (m1 : Int32) (hf1 : Nat → Int32), u.2.2.1 x 57 = m1 ∧ u.2.2.1 qh = hf1 ∧ (m1.toInt = hx_hc hf1 c0.toInt.toNat ∧ (hf1 = hf ∨ ∃ (j : Nat) (v : Int32), hf1 = hx_up hf j v ∧ (ff j).toInt ≠ -1))) ∧ hx_T T_tb u.1 u.2 ∧ hx_S T_tb [(10, 57), (71, 0), (82, 0), (86, 0), (87, 0), (88, 0), (92, 0), (98, 0), (99, 0)] L h u.1 u.2) (hx_E T_tb (P_ty dA) (dC, dI) vwCl (hx_A L sz)) (hx_A L sz)) ([.ref x, .int i1, .int i2, .int i3, .int i4] : List Value).toArray s 0 0 (hx_A L sz)) (F0 m 156 ls [.int xj_51, .int x_50, .ref q_44]) := by
                  intro xj_51 ls blxj_51 buxj_51 hl
                  refine hx_iast hx hb hW hT (hx_S.rf (M := [(88, 0)])) gq_44 tt_88 rfl ⟨by omega, by omega⟩ rfl (i32_r _) (List.mem_singleton.mpr rfl) dX10_hear_156 (fun H locs h_52 eh_52 hW hT hs => ?_)
                  replace fq_11 := (hs.o (gx.S hM) trivial rfl).2.trans fq_11
                  replace fq_12 := (hs.o (gx.S hM) trivial rfl).2.trans fq_12
                  replace fx_35 := (hs.o (gx.S hM) trivial rfl).1.trans fx_35
                  replace fq_38 := (hs.o (gx.S hM) trivial rfl).2.trans fq_38
                  replace f_43 := (hs.o (gx.S hM) trivial rfl).1.trans f_43
                  replace fq_44 := (hs.o (gx.S hM) trivial rfl).2.trans fq_44
                  replace nfa_37 : h_52.2.1 qh = fa_37 := (funext fun j => (hs.a (gqh.S hM) rfl j).1).trans nfa_37
                  replace ex_7 := ex_7.trans (hs.a (gqf.S hM) rfl _).1.symm
                  replace ex_13 := ex_13.trans (hs.a gq_12 rfl _).1.symm
                  replace ex_14 := ex_14.trans (hs.a gq_11 rfl _).1.symm
                  replace hM := hM.tr (hs.mono (by decide))
                  replace gq_11 := gq_11.S hs
                  replace gq_12 := gq_12.S hs
                  replace gq_38 := gq_38.S hs
                  replace gq_44 := gq_44.S hs
                  refine lv_aload_n hx hb dX10_hear_157 rfl (lv_at hl 1 rfl) ?_
                  refine hk_getr hx hb hts hC_10 hown hW (gx.S hM) tt_10 53 (by decide) rfl kw_1196 ⟨rfl, rfl, rfl⟩ fq_44 dX10_hear_158 ?_
                  refine lv_bipush (v := 8) hx hb dX10_hear_161 (by decide) ?_
                  refine lv_iload_n hx hb dX10_hear_163 rfl (lv_at hl 2 rfl) ?_
                  refine lv_imul hx hb dX10_hear_164 ?_
                  refine lv_topi (fun x_53 ex_53 => ?_)
                  have zx_53 : x_53.toInt = 8 * i1.toInt := by rw [ex_53]; exact i32_mul (by decide) rfl rfl (by omega) (by omega)
                  refine lv_iconst (v := 2) hx hb dX10_hear_165 (by decide) ?_
                  refine lv_iadd hx hb dX10_hear_166 ?_
                  have rg_54 := i32_r x_53
                  refine lv_topi (fun x_55 ex_55 => ?_)
                  have zx_55 : x_55.toInt = x_53.toInt + 2 := by rw [ex_55]; exact i32_add rfl (by decide) (by omega) (by omega)
                  refine lv_aload_n hx hb dX10_hear_167 rfl (lv_at hl 1 rfl) ?_
                  refine hx_getn hx hb hts hC_10 hown hW hT (gx.S hM) tt_10 41 (by decide) rfl kw_1184 ⟨rfl, rfl, rfl⟩ dX10_hear_168 (fun q_56 fq_56 gq_56 => ?_)
                  refine lv_iload_n hx hb dX10_hear_171 rfl (lv_at hl 2 rfl) ?_
                  refine hx_zald hx hb hW hT gq_56 tt_76 rfl ⟨by omega, by omega⟩ dX10_hear_172 (fun x_57 ex_57 lx_57 ux_57 => ?_)
                  have jn_181 : ∀ (xj_58 : Int32) (ls : Array Slot), 0 ≤ xj_58.toInt → xj_58.toInt ≤ 1 → lv_has ls 6 [(5, .int r_19), (0, .ref x), (1, .int i1), (2, .int i2), (3, .int i3), (4, .int i4)] → W p l e ({ frames := 3, cells := 0, slots := 0, locals := 73 }) s m ([.ref x, .int i1, .int i2, .int i3, .int i4] : List Value).toArray below meth c H locs 0 0 (MQ below (va_Qi (fun (r : Int32) (u : List Nat × hx_h) => (∃ (m1 : Int32) (hf1 : Nat → Int32), u.2.2.1 x 57 = m1 ∧ u.2.2.1 qh = hf1 ∧ (m1.toInt = hx_hc hf1 c0.toInt.toNat ∧ (hf1 = hf ∨ ∃ (j : Nat) (v : Int32), hf1 = hx_up hf j v ∧ (ff j).toInt ≠ -1))) ∧ hx_T T_tb u.1 u.2 ∧ hx_S T_tb [(10, 57), (71, 0), (82, 0), (86, 0), (87, 0), (88, 0), (92, 0), (98, 0), (99, 0)] L h u.1 u.2) (hx_E T_tb (P_ty dA) (dC, dI) vwCl (hx_A L sz)) (hx_A L sz)) ([.ref x, .int i1, .int i2, .int i3, .int i4] : List Value).toArray s 0 0 (hx_A L sz)) (F0 m 181 ls [.int xj_58, .int x_55, .ref q_44]) := by
                    intro xj_58 ls blxj_58 buxj_58 hl
                    refine hx_iast hx hb hW hT (hx_S.rf (M := [(88, 0)])) gq_44 tt_88 rfl ⟨by omega, by omega⟩ rfl (i32_r _) (List.mem_singleton.mpr rfl) dX10_hear_181 (fun H locs h_59 eh_59 hW hT hs => ?_)
                    replace fq_11 := (hs.o (gx.S hM) trivial rfl).2.trans fq_11
                    replace fq_12 := (hs.o (gx.S hM) trivial rfl).2.trans fq_12
                    replace fx_35 := (hs.o (gx.S hM) trivial rfl).1.trans fx_35
                    replace fq_38 := (hs.o (gx.S hM) trivial rfl).2.trans fq_38
                    replace f_43 := (hs.o (gx.S hM) trivial rfl).1.trans f_43
                    replace fq_44 := (hs.o (gx.S hM) trivial rfl).2.trans fq_44
                    replace fq_56 := (hs.o (gx.S hM) trivial rfl).2.trans fq_56
                    replace nfa_37 : h_59.2.1 qh = fa_37 := (funext fun j => (hs.a (gqh.S hM) rfl j).1).trans nfa_37
                    replace ex_7 := ex_7.trans (hs.a (gqf.S hM) rfl _).1.symm
                    replace ex_13 := ex_13.trans (hs.a gq_12 rfl _).1.symm
                    replace ex_14 := ex_14.trans (hs.a gq_11 rfl _).1.symm
                    replace ex_57 := ex_57.trans (hs.a gq_56 rfl _).1.symm
                    replace hM := hM.tr (hs.mono (by decide))
                    replace gq_11 := gq_11.S hs
                    replace gq_12 := gq_12.S hs
                    replace gq_38 := gq_38.S hs
                    replace gq_44 := gq_44.S hs
                    replace gq_56 := gq_56.S hs
                    refine lv_aload_n hx hb dX10_hear_182 rfl (lv_at hl 1 rfl) ?_
                    refine hk_getr hx hb hts hC_10 hown hW (gx.S hM) tt_10 53 (by decide) rfl kw_1196 ⟨rfl, rfl, rfl⟩ fq_44 dX10_hear_183 ?_
                    refine lv_bipush (v := 8) hx hb dX10_hear_186 (by decide) ?_
                    refine lv_iload_n hx hb dX10_hear_188 rfl (lv_at hl 2 rfl) ?_
                    refine lv_imul hx hb dX10_hear_189 ?_
                    refine lv_topi (fun x_60 ex_60 => ?_)
                    have zx_60 : x_60.toInt = 8 * i1.toInt := by rw [ex_60]; exact i32_mul (by decide) rfl rfl (by omega) (by omega)
                    refine lv_iconst (v := 3) hx hb dX10_hear_190 (by decide) ?_
                    refine lv_iadd hx hb dX10_hear_191 ?_
                    have rg_61 := i32_r x_60
                    refine lv_topi (fun x_62 ex_62 => ?_)
                    have zx_62 : x_62.toInt = x_60.toInt + 3 := by rw [ex_62]; exact i32_add rfl (by decide) (by omega) (by omega)
                    refine lv_aload_n hx hb dX10_hear_192 rfl (lv_at hl 1 rfl) ?_
                    refine hx_getn hx hb hts hC_10 hown hW hT (gx.S hM) tt_10 42 (by decide) rfl kw_1185 ⟨rfl, rfl, rfl⟩ dX10_hear_193 (fun q_63 fq_63 gq_63 => ?_)
                    refine lv_iload_n hx hb dX10_hear_196 rfl (lv_at hl 2 rfl) ?_
                    refine hx_iald hx hb hW hT gq_63 tt_77 rfl ⟨by omega, by omega⟩ dX10_hear_197 (fun x_64 ex_64 lx_64 ux_64 => ?_)
                    refine hx_iast hx hb hW hT (hx_S.rf (M := [(88, 0)])) gq_44 tt_88 rfl ⟨by omega, by omega⟩ rfl (i32_r _) (List.mem_singleton.mpr rfl) dX10_hear_198 (fun H locs h_65 eh_65 hW hT hs => ?_)
                    replace fq_11 := (hs.o (gx.S hM) trivial rfl).2.trans fq_11
                    replace fq_12 := (hs.o (gx.S hM) trivial rfl).2.trans fq_12
                    replace fx_35 := (hs.o (gx.S hM) trivial rfl).1.trans fx_35
                    replace fq_38 := (hs.o (gx.S hM) trivial rfl).2.trans fq_38
                    replace f_43 := (hs.o (gx.S hM) trivial rfl).1.trans f_43
                    replace fq_44 := (hs.o (gx.S hM) trivial rfl).2.trans fq_44
                    replace fq_56 := (hs.o (gx.S hM) trivial rfl).2.trans fq_56
                    replace fq_63 := (hs.o (gx.S hM) trivial rfl).2.trans fq_63
                    replace nfa_37 : h_65.2.1 qh = fa_37 := (funext fun j => (hs.a (gqh.S hM) rfl j).1).trans nfa_37
                    replace ex_7 := ex_7.trans (hs.a (gqf.S hM) rfl _).1.symm
                    replace ex_13 := ex_13.trans (hs.a gq_12 rfl _).1.symm
                    replace ex_14 := ex_14.trans (hs.a gq_11 rfl _).1.symm
                    replace ex_57 := ex_57.trans (hs.a gq_56 rfl _).1.symm
                    replace ex_64 := ex_64.trans (hs.a gq_63 rfl _).1.symm
                    replace hM := hM.tr (hs.mono (by decide))
                    replace gq_11 := gq_11.S hs
                    replace gq_12 := gq_12.S hs
                    replace gq_38 := gq_38.S hs
                    replace gq_44 := gq_44.S hs
                    replace gq_56 := gq_56.S hs
                    replace gq_63 := gq_63.S hs
                    refine lv_aload_n hx hb dX10_hear_199 rfl (lv_at hl 1 rfl) ?_
                    refine hk_getr hx hb hts hC_10 hown hW (gx.S hM) tt_10 53 (by decide) rfl kw_1196 ⟨rfl, rfl, rfl⟩ fq_44 dX10_hear_200 ?_
                    refine lv_bipush (v := 8) hx hb dX10_hear_203 (by decide) ?_
                    refine lv_iload_n hx hb dX10_hear_205 rfl (lv_at hl 2 rfl) ?_
                    refine lv_imul hx hb dX10_hear_206 ?_
                    refine lv_topi (fun x_66 ex_66 => ?_)
                    have zx_66 : x_66.toInt = 8 * i1.toInt := by rw [ex_66]; exact i32_mul (by decide) rfl rfl (by omega) (by omega)
                    refine lv_iconst (v := 4) hx hb dX10_hear_207 (by decide) ?_
                    refine lv_iadd hx hb dX10_hear_208 ?_
                    have rg_67 := i32_r x_66
                    refine lv_topi (fun x_68 ex_68 => ?_)
                    have zx_68 : x_68.toInt = x_66.toInt + 4 := by rw [ex_68]; exact i32_add rfl (by decide) (by omega) (by omega)
                    refine lv_aload_n hx hb dX10_hear_209 rfl (lv_at hl 1 rfl) ?_
                    refine lv_aload_n hx hb dX10_hear_210 rfl (lv_at hl 1 rfl) ?_
                    refine hx_getn hx hb hts hC_10 hown hW hT (gx.S hM) tt_10 37 (by decide) rfl kw_1180 ⟨rfl, rfl, rfl⟩ dX10_hear_211 (fun q_69 fq_69 gq_69 => ?_)
                    refine lv_iload_n hx hb dX10_hear_214 rfl (lv_at hl 2 rfl) ?_
                    refine hx_iald hx hb hW hT gq_69 tt_72 rfl ⟨by omega, by omega⟩ dX10_hear_215 (fun x_70 ex_70 lx_70 ux_70 => ?_)
                    refine lv_aload_n hx hb dX10_hear_216 rfl (lv_at hl 1 rfl) ?_
                    refine hk_getr hx hb hts hC_10 hown hW (gx.S hM) tt_10 38 (by decide) rfl kw_1181 ⟨rfl, rfl, rfl⟩ fq_12 dX10_hear_217 ?_
                    refine lv_iload_n hx hb dX10_hear_220 rfl (lv_at hl 2 rfl) ?_
                    refine hx_iald hx hb hW hT gq_12 tt_73 rfl ⟨by omega, by omega⟩ dX10_hear_221 (fun x_71 ex_71 lx_71 ux_71 => ?_)
                    obtain rfl : x_13 = x_71 := ex_13.trans ex_71.symm
                    refine lv_aload_n hx hb dX10_hear_222 rfl (lv_at hl 1 rfl) ?_
                    refine hx_getn hx hb hts hC_10 hown hW hT (gx.S hM) tt_10 43 (by decide) rfl kw_1186 ⟨rfl, rfl, rfl⟩ dX10_hear_223 (fun q_72 fq_72 gq_72 => ?_)
                    refine lv_iload_n hx hb dX10_hear_226 rfl (lv_at hl 2 rfl) ?_
                    refine hx_iald hx hb hW hT gq_72 tt_78 rfl ⟨by omega, by omega⟩ dX10_hear_227 (fun x_73 ex_73 lx_73 ux_73 => ?_)
                    refine hx_goi (hx_runV (As := [.int x_70, .int x_13, .int x_73]) (rest := [.int x_68, .ref q_44]) ⟨hx, hb, hml, hown, hts⟩ hW (gx.S hM) tt_10 (T := TX10) (N := 98) rfl (t_X10_bookSum l dC dI dA L_30 h_65 H.size x x_70 x_13 x_73 hT (gx.S hM)) (cwV 3 hts (hx_gV kw_1573 kw_1570 kw_1572 kw_69 kw_103) rfl rfl rfl (by decide +kernel) ⟨Nat.le_of_ble_eq_true rfl, Nat.le_of_ble_eq_true rfl⟩) rfl hl.1 rfl (Nat.le_of_ble_eq_true rfl) dX10_hear_228 ⟨Nat.le_of_ble_eq_true rfl, Nat.le_of_ble_eq_true rfl⟩) hW (fun r_76 L_74 h_75 H locs p_77 hW => ?_)
                    obtain ⟨hr_78, hT, hs⟩ := p_77
                    replace hT : hx_T T_tb L_74 h_75 := hT
                    replace hs : hx_S T_tb [] L_30 h_65 L_74 h_75 := hs
                    replace fq_11 := (hs.o (gx.S hM) trivial rfl).2.trans fq_11
                    replace fq_12 := (hs.o (gx.S hM) trivial rfl).2.trans fq_12
                    replace fx_35 := (hs.o (gx.S hM) trivial rfl).1.trans fx_35
                    replace fq_38 := (hs.o (gx.S hM) trivial rfl).2.trans fq_38
                    replace f_43 := (hs.o (gx.S hM) trivial rfl).1.trans f_43
                    replace fq_44 := (hs.o (gx.S hM) trivial rfl).2.trans fq_44
                    replace fq_56 := (hs.o (gx.S hM) trivial rfl).2.trans fq_56
                    replace fq_63 := (hs.o (gx.S hM) trivial rfl).2.trans fq_63
                    replace fq_69 := (hs.o (gx.S hM) trivial rfl).2.trans fq_69
                    replace fq_72 := (hs.o (gx.S hM) trivial rfl).2.trans fq_72
                    replace nfa_37 : h_75.2.1 qh = fa_37 := (funext fun j => (hs.a (gqh.S hM) rfl j).1).trans nfa_37
                    replace ex_7 := ex_7.trans (hs.a (gqf.S hM) rfl _).1.symm
                    replace ex_13 := ex_13.trans (hs.a gq_12 rfl _).1.symm
                    replace ex_14 := ex_14.trans (hs.a gq_11 rfl _).1.symm
                    replace ex_57 := ex_57.trans (hs.a gq_56 rfl _).1.symm
                    replace ex_64 := ex_64.trans (hs.a gq_63 rfl _).1.symm
                    replace ex_70 := ex_70.trans (hs.a gq_69 rfl _).1.symm
                    replace ex_73 := ex_73.trans (hs.a gq_72 rfl _).1.symm
                    replace hM := hM.tr (hs.mono (by decide))
                    replace gq_11 := gq_11.S hs
                    replace gq_12 := gq_12.S hs
                    replace gq_38 := gq_38.S hs
                    replace gq_44 := gq_44.S hs
                    replace gq_56 := gq_56.S hs
                    replace gq_63 := gq_63.S hs
                    replace gq_69 := gq_69.S hs
                    replace gq_72 := gq_72.S hs
                    refine hx_iast hx hb hW hT (hx_S.rf (M := [(88, 0)])) gq_44 tt_88 rfl ⟨by omega, by omega⟩ rfl (i32_r _) (List.mem_singleton.mpr rfl) dX10_hear_231 (fun H locs h_79 eh_79 hW hT hs => ?_)
                    replace fq_11 := (hs.o (gx.S hM) trivial rfl).2.trans fq_11
                    replace fq_12 := (hs.o (gx.S hM) trivial rfl).2.trans fq_12
                    replace fx_35 := (hs.o (gx.S hM) trivial rfl).1.trans fx_35
                    replace fq_38 := (hs.o (gx.S hM) trivial rfl).2.trans fq_38
                    replace f_43 := (hs.o (gx.S hM) trivial rfl).1.trans f_43
                    replace fq_44 := (hs.o (gx.S hM) trivial rfl).2.trans fq_44
                    replace fq_56 := (hs.o (gx.S hM) trivial rfl).2.trans fq_56
                    replace fq_63 := (hs.o (gx.S hM) trivial rfl).2.trans fq_63
                    replace fq_69 := (hs.o (gx.S hM) trivial rfl).2.trans fq_69
                    replace fq_72 := (hs.o (gx.S hM) trivial rfl).2.trans fq_72
                    replace nfa_37 : h_79.2.1 qh = fa_37 := (funext fun j => (hs.a (gqh.S hM) rfl j).1).trans nfa_37
                    replace ex_7 := ex_7.trans (hs.a (gqf.S hM) rfl _).1.symm
                    replace ex_13 := ex_13.trans (hs.a gq_12 rfl _).1.symm
                    replace ex_14 := ex_14.trans (hs.a gq_11 rfl _).1.symm
                    replace ex_57 := ex_57.trans (hs.a gq_56 rfl _).1.symm
                    replace ex_64 := ex_64.trans (hs.a gq_63 rfl _).1.symm
                    replace ex_70 := ex_70.trans (hs.a gq_69 rfl _).1.symm
                    replace ex_73 := ex_73.trans (hs.a gq_72 rfl _).1.symm
                    replace hM := hM.tr (hs.mono (by decide))
                    replace gq_11 := gq_11.S hs
                    replace gq_12 := gq_12.S hs
                    replace gq_38 := gq_38.S hs
                    replace gq_44 := gq_44.S hs
                    replace gq_56 := gq_56.S hs
                    replace gq_63 := gq_63.S hs
                    replace gq_69 := gq_69.S hs
                    replace gq_72 := gq_72.S hs
                    refine lv_aload_n hx hb dX10_hear_232 rfl (lv_at hl 1 rfl) ?_
                    refine hk_getr hx hb hts hC_10 hown hW (gx.S hM) tt_10 53 (by decide) rfl kw_1196 ⟨rfl, rfl, rfl⟩ fq_44 dX10_hear_233 ?_
                    refine lv_bipush (v := 8) hx hb dX10_hear_236 (by decide) ?_
                    refine lv_iload_n hx hb dX10_hear_238 rfl (lv_at hl 2 rfl) ?_
                    refine lv_imul hx hb dX10_hear_239 ?_
                    refine lv_topi (fun x_80 ex_80 => ?_)
                    have zx_80 : x_80.toInt = 8 * i1.toInt := by rw [ex_80]; exact i32_mul (by decide) rfl rfl (by omega) (by omega)
                    refine lv_iconst (v := 5) hx hb dX10_hear_240 (by decide) ?_
                    refine lv_iadd hx hb dX10_hear_241 ?_
                    have rg_81 := i32_r x_80
                    refine lv_topi (fun x_82 ex_82 => ?_)
                    have zx_82 : x_82.toInt = x_80.toInt + 5 := by rw [ex_82]; exact i32_add rfl (by decide) (by omega) (by omega)
                    refine lv_aload_n hx hb dX10_hear_242 rfl (lv_at hl 1 rfl) ?_
                    refine lv_aload_n hx hb dX10_hear_243 rfl (lv_at hl 1 rfl) ?_
                    refine hk_getr hx hb hts hC_10 hown hW (gx.S hM) tt_10 38 (by decide) rfl kw_1181 ⟨rfl, rfl, rfl⟩ fq_12 dX10_hear_244 ?_
                    refine lv_iload_n hx hb dX10_hear_247 rfl (lv_at hl 2 rfl) ?_
                    refine hx_iald hx hb hW hT gq_12 tt_73 rfl ⟨by omega, by omega⟩ dX10_hear_248 (fun x_83 ex_83 lx_83 ux_83 => ?_)
                    obtain rfl : x_13 = x_83 := ex_13.trans ex_83.symm
                    refine lv_aload_n hx hb dX10_hear_249 rfl (lv_at hl 1 rfl) ?_
                    refine hk_getr hx hb hts hC_10 hown hW (gx.S hM) tt_10 37 (by decide) rfl kw_1180 ⟨rfl, rfl, rfl⟩ fq_69 dX10_hear_250 ?_
                    refine lv_iload_n hx hb dX10_hear_253 rfl (lv_at hl 2 rfl) ?_
                    refine hx_iald hx hb hW hT gq_69 tt_72 rfl ⟨by omega, by omega⟩ dX10_hear_254 (fun x_84 ex_84 lx_84 ux_84 => ?_)
                    obtain rfl : x_70 = x_84 := ex_70.trans ex_84.symm
                    refine lv_aload_n hx hb dX10_hear_255 rfl (lv_at hl 1 rfl) ?_
                    refine hk_getr hx hb hts hC_10 hown hW (gx.S hM) tt_10 43 (by decide) rfl kw_1186 ⟨rfl, rfl, rfl⟩ fq_72 dX10_hear_256 ?_
                    refine lv_iload_n hx hb dX10_hear_259 rfl (lv_at hl 2 rfl) ?_
                    refine hx_iald hx hb hW hT gq_72 tt_78 rfl ⟨by omega, by omega⟩ dX10_hear_260 (fun x_85 ex_85 lx_85 ux_85 => ?_)
                    obtain rfl : x_73 = x_85 := ex_73.trans ex_85.symm
                    refine hx_goi (hx_runV (As := [.int x_13, .int x_70, .int x_73]) (rest := [.int x_82, .ref q_44]) ⟨hx, hb, hml, hown, hts⟩ hW (gx.S hM) tt_10 (T := TX10) (N := 98) rfl (t_X10_bookSum l dC dI dA L_74 h_79 H.size x x_13 x_70 x_73 hT (gx.S hM)) (cwV 3 hts (hx_gV kw_1573 kw_1570 kw_1572 kw_69 kw_103) rfl rfl rfl (by decide +kernel) ⟨Nat.le_of_ble_eq_true rfl, Nat.le_of_ble_eq_true rfl⟩) rfl hl.1 rfl (Nat.le_of_ble_eq_true rfl) dX10_hear_261 ⟨Nat.le_of_ble_eq_true rfl, Nat.le_of_ble_eq_true rfl⟩) hW (fun r_88 L_86 h_87 H locs p_89 hW => ?_)
                    obtain ⟨hr_90, hT, hs⟩ := p_89
                    replace hT : hx_T T_tb L_86 h_87 := hT
                    replace hs : hx_S T_tb [] L_74 h_79 L_86 h_87 := hs
                    replace fq_11 := (hs.o (gx.S hM) trivial rfl).2.trans fq_11
                    replace fq_12 := (hs.o (gx.S hM) trivial rfl).2.trans fq_12
                    replace fx_35 := (hs.o (gx.S hM) trivial rfl).1.trans fx_35
                    replace fq_38 := (hs.o (gx.S hM) trivial rfl).2.trans fq_38
                    replace f_43 := (hs.o (gx.S hM) trivial rfl).1.trans f_43
                    replace fq_44 := (hs.o (gx.S hM) trivial rfl).2.trans fq_44
                    replace fq_56 := (hs.o (gx.S hM) trivial rfl).2.trans fq_56
                    replace fq_63 := (hs.o (gx.S hM) trivial rfl).2.trans fq_63
                    replace fq_69 := (hs.o (gx.S hM) trivial rfl).2.trans fq_69
                    replace fq_72 := (hs.o (gx.S hM) trivial rfl).2.trans fq_72
                    replace nfa_37 : h_87.2.1 qh = fa_37 := (funext fun j => (hs.a (gqh.S hM) rfl j).1).trans nfa_37
                    replace ex_7 := ex_7.trans (hs.a (gqf.S hM) rfl _).1.symm
                    replace ex_13 := ex_13.trans (hs.a gq_12 rfl _).1.symm
                    replace ex_14 := ex_14.trans (hs.a gq_11 rfl _).1.symm
                    replace ex_57 := ex_57.trans (hs.a gq_56 rfl _).1.symm
                    replace ex_64 := ex_64.trans (hs.a gq_63 rfl _).1.symm
                    replace ex_70 := ex_70.trans (hs.a gq_69 rfl _).1.symm
                    replace ex_73 := ex_73.trans (hs.a gq_72 rfl _).1.symm
                    replace hM := hM.tr (hs.mono (by decide))
                    replace gq_11 := gq_11.S hs
                    replace gq_12 := gq_12.S hs
                    replace gq_38 := gq_38.S hs
                    replace gq_44 := gq_44.S hs
                    replace gq_56 := gq_56.S hs
                    replace gq_63 := gq_63.S hs
                    replace gq_69 := gq_69.S hs
                    replace gq_72 := gq_72.S hs
                    refine lv_ineg hx hb dX10_hear_264 ?_
                    refine lv_topi (fun x_91 ex_91 => ?_)
                    refine hx_iast hx hb hW hT (hx_S.rf (M := [(88, 0)])) gq_44 tt_88 rfl ⟨by omega, by omega⟩ rfl (i32_r _) (List.mem_singleton.mpr rfl) dX10_hear_265 (fun H locs h_92 eh_92 hW hT hs => ?_)
                    replace fq_11 := (hs.o (gx.S hM) trivial rfl).2.trans fq_11
                    replace fq_12 := (hs.o (gx.S hM) trivial rfl).2.trans fq_12
                    replace fx_35 := (hs.o (gx.S hM) trivial rfl).1.trans fx_35
                    replace fq_38 := (hs.o (gx.S hM) trivial rfl).2.trans fq_38
                    replace f_43 := (hs.o (gx.S hM) trivial rfl).1.trans f_43
                    replace fq_44 := (hs.o (gx.S hM) trivial rfl).2.trans fq_44
                    replace fq_56 := (hs.o (gx.S hM) trivial rfl).2.trans fq_56
                    replace fq_63 := (hs.o (gx.S hM) trivial rfl).2.trans fq_63
                    replace fq_69 := (hs.o (gx.S hM) trivial rfl).2.trans fq_69
                    replace fq_72 := (hs.o (gx.S hM) trivial rfl).2.trans fq_72
                    replace nfa_37 : h_92.2.1 qh = fa_37 := (funext fun j => (hs.a (gqh.S hM) rfl j).1).trans nfa_37
                    replace ex_7 := ex_7.trans (hs.a (gqf.S hM) rfl _).1.symm
                    replace ex_13 := ex_13.trans (hs.a gq_12 rfl _).1.symm
                    replace ex_14 := ex_14.trans (hs.a gq_11 rfl _).1.symm
                    replace ex_57 := ex_57.trans (hs.a gq_56 rfl _).1.symm
                    replace ex_64 := ex_64.trans (hs.a gq_63 rfl _).1.symm
                    replace ex_70 := ex_70.trans (hs.a gq_69 rfl _).1.symm
                    replace ex_73 := ex_73.trans (hs.a gq_72 rfl _).1.symm
                    replace hM := hM.tr (hs.mono (by decide))
                    replace gq_11 := gq_11.S hs
                    replace gq_12 := gq_12.S hs
                    replace gq_38 := gq_38.S hs
                    replace gq_44 := gq_44.S hs
                    replace gq_56 := gq_56.S hs
                    replace gq_63 := gq_63.S hs
                    replace gq_69 := gq_69.S hs
                    replace gq_72 := gq_72.S hs
                    refine lv_aload_n hx hb dX10_hear_266 rfl (lv_at hl 1 rfl) ?_
                    refine hk_getr hx hb hts hC_10 hown hW (gx.S hM) tt_10 53 (by decide) rfl kw_1196 ⟨rfl, rfl, rfl⟩ fq_44 dX10_hear_267 ?_
                    refine lv_bipush (v := 8) hx hb dX10_hear_270 (by decide) ?_
                    refine lv_iload_n hx hb dX10_hear_272 rfl (lv_at hl 2 rfl) ?_
                    refine lv_imul hx hb dX10_hear_273 ?_
                    refine lv_topi (fun x_93 ex_93 => ?_)
                    have zx_93 : x_93.toInt = 8 * i1.toInt := by rw [ex_93]; exact i32_mul (by decide) rfl rfl (by omega) (by omega)
                    refine lv_bipush (v := 6) hx hb dX10_hear_274 (by decide) ?_
                    refine lv_iadd hx hb dX10_hear_276 ?_
                    have rg_94 := i32_r x_93
                    refine lv_topi (fun x_95 ex_95 => ?_)
                    have zx_95 : x_95.toInt = x_93.toInt + 6 := by rw [ex_95]; exact i32_add rfl (by decide) (by omega) (by omega)
                    refine lv_aload_n hx hb dX10_hear_277 rfl (lv_at hl 1 rfl) ?_
                    refine lv_aload_n hx hb dX10_hear_278 rfl (lv_at hl 1 rfl) ?_
                    refine hk_getr hx hb hts hC_10 hown hW (gx.S hM) tt_10 37 (by decide) rfl kw_1180 ⟨rfl, rfl, rfl⟩ fq_69 dX10_hear_279 ?_
                    refine lv_iload_n hx hb dX10_hear_282 rfl (lv_at hl 2 rfl) ?_
                    refine hx_iald hx hb hW hT gq_69 tt_72 rfl ⟨by omega, by omega⟩ dX10_hear_283 (fun x_96 ex_96 lx_96 ux_96 => ?_)
                    obtain rfl : x_70 = x_96 := ex_70.trans ex_96.symm
                    refine lv_aload_n hx hb dX10_hear_284 rfl (lv_at hl 1 rfl) ?_
                    refine hk_getr hx hb hts hC_10 hown hW (gx.S hM) tt_10 38 (by decide) rfl kw_1181 ⟨rfl, rfl, rfl⟩ fq_12 dX10_hear_285 ?_
                    refine lv_iload_n hx hb dX10_hear_288 rfl (lv_at hl 2 rfl) ?_
                    refine hx_iald hx hb hW hT gq_12 tt_73 rfl ⟨by omega, by omega⟩ dX10_hear_289 (fun x_97 ex_97 lx_97 ux_97 => ?_)
                    obtain rfl : x_13 = x_97 := ex_13.trans ex_97.symm
                    refine lv_aload_n hx hb dX10_hear_290 rfl (lv_at hl 1 rfl) ?_
                    refine hk_getr hx hb hts hC_10 hown hW (gx.S hM) tt_10 43 (by decide) rfl kw_1186 ⟨rfl, rfl, rfl⟩ fq_72 dX10_hear_291 ?_
                    refine lv_iload_n hx hb dX10_hear_294 rfl (lv_at hl 2 rfl) ?_
                    refine hx_iald hx hb hW hT gq_72 tt_78 rfl ⟨by omega, by omega⟩ dX10_hear_295 (fun x_98 ex_98 lx_98 ux_98 => ?_)
                    obtain rfl : x_73 = x_98 := ex_73.trans ex_98.symm
                    refine hx_goi (hx_runV (As := [.int x_70, .int x_13, .int x_73]) (rest := [.int x_95, .ref q_44]) ⟨hx, hb, hml, hown, hts⟩ hW (gx.S hM) tt_10 (T := TX10) (N := 98) rfl (t_X10_alike l dC dI dA L_86 h_92 H.size x x_70 x_13 x_73 hT (gx.S hM) (by omega)) (cwV 3 hts (hx_gV kw_1577 kw_1574 kw_1576 kw_70 kw_103) rfl rfl rfl (by decide +kernel) ⟨Nat.le_of_ble_eq_true rfl, Nat.le_of_ble_eq_true rfl⟩) rfl hl.1 rfl (Nat.le_of_ble_eq_true rfl) dX10_hear_296 ⟨Nat.le_of_ble_eq_true rfl, Nat.le_of_ble_eq_true rfl⟩) hW (fun r_101 L_99 h_100 H locs p_102 hW => ?_)
                    obtain ⟨hr_103, hT, hs⟩ := p_102
                    replace hT : hx_T T_tb L_99 h_100 := hT
                    replace hs : hx_S T_tb [(71, 0)] L_86 h_92 L_99 h_100 := hs
                    replace fq_11 := (hs.o (gx.S hM) trivial rfl).2.trans fq_11
                    replace fq_12 := (hs.o (gx.S hM) trivial rfl).2.trans fq_12
                    replace fx_35 := (hs.o (gx.S hM) trivial rfl).1.trans fx_35
                    replace fq_38 := (hs.o (gx.S hM) trivial rfl).2.trans fq_38
                    replace f_43 := (hs.o (gx.S hM) trivial rfl).1.trans f_43
                    replace fq_44 := (hs.o (gx.S hM) trivial rfl).2.trans fq_44
                    replace fq_56 := (hs.o (gx.S hM) trivial rfl).2.trans fq_56
                    replace fq_63 := (hs.o (gx.S hM) trivial rfl).2.trans fq_63
                    replace fq_69 := (hs.o (gx.S hM) trivial rfl).2.trans fq_69
                    replace fq_72 := (hs.o (gx.S hM) trivial rfl).2.trans fq_72
                    replace nfa_37 : h_100.2.1 qh = fa_37 := (funext fun j => (hs.a (gqh.S hM) rfl j).1).trans nfa_37
                    replace ex_7 := ex_7.trans (hs.a (gqf.S hM) rfl _).1.symm
                    replace ex_13 := ex_13.trans (hs.a gq_12 rfl _).1.symm
                    replace ex_14 := ex_14.trans (hs.a gq_11 rfl _).1.symm
                    replace ex_57 := ex_57.trans (hs.a gq_56 rfl _).1.symm
                    replace ex_64 := ex_64.trans (hs.a gq_63 rfl _).1.symm
                    replace ex_70 := ex_70.trans (hs.a gq_69 rfl _).1.symm
                    replace ex_73 := ex_73.trans (hs.a gq_72 rfl _).1.symm
                    replace hM := hM.tr (hs.mono (by decide))
                    replace gq_11 := gq_11.S hs
                    replace gq_12 := gq_12.S hs
                    replace gq_38 := gq_38.S hs
                    replace gq_44 := gq_44.S hs
                    replace gq_56 := gq_56.S hs
                    replace gq_63 := gq_63.S hs
                    replace gq_69 := gq_69.S hs
                    replace gq_72 := gq_72.S hs
                    refine hx_iast hx hb hW hT (hx_S.rf (M := [(88, 0)])) gq_44 tt_88 rfl ⟨by omega, by omega⟩ rfl (i32_r _) (List.mem_singleton.mpr rfl) dX10_hear_299 (fun H locs h_104 eh_104 hW hT hs => ?_)
                    replace fq_11 := (hs.o (gx.S hM) trivial rfl).2.trans fq_11
                    replace fq_12 := (hs.o (gx.S hM) trivial rfl).2.trans fq_12
                    replace fx_35 := (hs.o (gx.S hM) trivial rfl).1.trans fx_35
                    replace fq_38 := (hs.o (gx.S hM) trivial rfl).2.trans fq_38
                    replace f_43 := (hs.o (gx.S hM) trivial rfl).1.trans f_43
                    replace fq_44 := (hs.o (gx.S hM) trivial rfl).2.trans fq_44
                    replace fq_56 := (hs.o (gx.S hM) trivial rfl).2.trans fq_56
                    replace fq_63 := (hs.o (gx.S hM) trivial rfl).2.trans fq_63
                    replace fq_69 := (hs.o (gx.S hM) trivial rfl).2.trans fq_69
                    replace fq_72 := (hs.o (gx.S hM) trivial rfl).2.trans fq_72
                    replace nfa_37 : h_104.2.1 qh = fa_37 := (funext fun j => (hs.a (gqh.S hM) rfl j).1).trans nfa_37
                    replace ex_7 := ex_7.trans (hs.a (gqf.S hM) rfl _).1.symm
                    replace ex_13 := ex_13.trans (hs.a gq_12 rfl _).1.symm
                    replace ex_14 := ex_14.trans (hs.a gq_11 rfl _).1.symm
                    replace ex_57 := ex_57.trans (hs.a gq_56 rfl _).1.symm
                    replace ex_64 := ex_64.trans (hs.a gq_63 rfl _).1.symm
                    replace ex_70 := ex_70.trans (hs.a gq_69 rfl _).1.symm
                    replace ex_73 := ex_73.trans (hs.a gq_72 rfl _).1.symm
                    replace hM := hM.tr (hs.mono (by decide))
                    replace gq_11 := gq_11.S hs
                    replace gq_12 := gq_12.S hs
                    replace gq_38 := gq_38.S hs
                    replace gq_44 := gq_44.S hs
                    replace gq_56 := gq_56.S hs
                    replace gq_63 := gq_63.S hs
                    replace gq_69 := gq_69.S hs
                    replace gq_72 := gq_72.S hs
                    refine lv_aload_n hx hb dX10_hear_300 rfl (lv_at hl 1 rfl) ?_
                    refine hk_getr hx hb hts hC_10 hown hW (gx.S hM) tt_10 53 (by decide) rfl kw_1196 ⟨rfl, rfl, rfl⟩ fq_44 dX10_hear_301 ?_
                    refine lv_bipush (v := 8) hx hb dX10_hear_304 (by decide) ?_
                    refine lv_iload_n hx hb dX10_hear_306 rfl (lv_at hl 2 rfl) ?_
                    refine lv_imul hx hb dX10_hear_307 ?_
                    refine lv_topi (fun x_105 ex_105 => ?_)
                    have zx_105 : x_105.toInt = 8 * i1.toInt := by rw [ex_105]; exact i32_mul (by decide) rfl rfl (by omega) (by omega)
                    refine lv_bipush (v := 7) hx hb dX10_hear_308 (by decide) ?_
                    refine lv_iadd hx hb dX10_hear_310 ?_
                    have rg_106 := i32_r x_105
                    refine lv_topi (fun x_107 ex_107 => ?_)
                    have zx_107 : x_107.toInt = x_105.toInt + 7 := by rw [ex_107]; exact i32_add rfl (by decide) (by omega) (by omega)
                    refine lv_aload_n hx hb dX10_hear_311 rfl (lv_at hl 1 rfl) ?_
                    refine hx_getn hx hb hts hC_10 hown hW hT (gx.S hM) tt_10 39 (by decide) rfl kw_1182 ⟨rfl, rfl, rfl⟩ dX10_hear_312 (fun q_108 fq_108 gq_108 => ?_)
                    refine lv_iload_n hx hb dX10_hear_315 rfl (lv_at hl 2 rfl) ?_
                    refine hx_iald hx hb hW hT gq_108 tt_74 rfl ⟨by omega, by omega⟩ dX10_hear_316 (fun x_109 ex_109 lx_109 ux_109 => ?_)
                    refine hx_iast hx hb hW hT (hx_S.rf (M := [(88, 0)])) gq_44 tt_88 rfl ⟨by omega, by omega⟩ rfl (i32_r _) (List.mem_singleton.mpr rfl) dX10_hear_317 (fun H locs h_110 eh_110 hW hT hs => ?_)
                    replace fq_11 := (hs.o (gx.S hM) trivial rfl).2.trans fq_11
                    replace fq_12 := (hs.o (gx.S hM) trivial rfl).2.trans fq_12
                    replace fx_35 := (hs.o (gx.S hM) trivial rfl).1.trans fx_35
                    replace fq_38 := (hs.o (gx.S hM) trivial rfl).2.trans fq_38
                    replace f_43 := (hs.o (gx.S hM) trivial rfl).1.trans f_43
                    replace fq_44 := (hs.o (gx.S hM) trivial rfl).2.trans fq_44
                    replace fq_56 := (hs.o (gx.S hM) trivial rfl).2.trans fq_56
                    replace fq_63 := (hs.o (gx.S hM) trivial rfl).2.trans fq_63
                    replace fq_69 := (hs.o (gx.S hM) trivial rfl).2.trans fq_69
                    replace fq_72 := (hs.o (gx.S hM) trivial rfl).2.trans fq_72
                    replace fq_108 := (hs.o (gx.S hM) trivial rfl).2.trans fq_108
                    replace nfa_37 : h_110.2.1 qh = fa_37 := (funext fun j => (hs.a (gqh.S hM) rfl j).1).trans nfa_37
                    replace ex_7 := ex_7.trans (hs.a (gqf.S hM) rfl _).1.symm
                    replace ex_13 := ex_13.trans (hs.a gq_12 rfl _).1.symm
                    replace ex_14 := ex_14.trans (hs.a gq_11 rfl _).1.symm
                    replace ex_57 := ex_57.trans (hs.a gq_56 rfl _).1.symm
                    replace ex_64 := ex_64.trans (hs.a gq_63 rfl _).1.symm
                    replace ex_70 := ex_70.trans (hs.a gq_69 rfl _).1.symm
                    replace ex_73 := ex_73.trans (hs.a gq_72 rfl _).1.symm
                    replace ex_109 := ex_109.trans (hs.a gq_108 rfl _).1.symm
                    replace hM := hM.tr (hs.mono (by decide))
                    replace gq_11 := gq_11.S hs
                    replace gq_12 := gq_12.S hs
                    replace gq_38 := gq_38.S hs
                    replace gq_44 := gq_44.S hs
                    replace gq_56 := gq_56.S hs
                    replace gq_63 := gq_63.S hs
                    replace gq_69 := gq_69.S hs
                    replace gq_72 := gq_72.S hs
                    replace gq_108 := gq_108.S hs
                    refine lv_aload_n hx hb dX10_hear_318 rfl (lv_at hl 1 rfl) ?_
                    refine hx_getn hx hb hts hC_10 hown hW hT (gx.S hM) tt_10 51 (by decide) rfl kw_1194 ⟨rfl, rfl, rfl⟩ dX10_hear_319 (fun q_111 fq_111 gq_111 => ?_)
                    refine lv_iload_n hx hb dX10_hear_322 rfl (lv_at hl 2 rfl) ?_
                    refine lv_aload_n hx hb dX10_hear_323 rfl (lv_at hl 1 rfl) ?_
                    refine lv_iload_n hx hb dX10_hear_324 rfl (lv_at hl 2 rfl) ?_
                    refine lv_aload_n hx hb dX10_hear_325 rfl (lv_at hl 1 rfl) ?_
                    refine hk_getr hx hb hts hC_10 hown hW (gx.S hM) tt_10 44 (by decide) rfl kw_1187 ⟨rfl, rfl, rfl⟩ ((hM.o gx trivial rfl).2.trans f_x_44) dX10_hear_326 ?_
                    refine lv_iload_n hx hb dX10_hear_329 rfl (lv_at hl 2 rfl) ?_
                    refine hx_iald hx hb hW hT (gqc.S hM) tt_79 rfl ⟨by omega, by omega⟩ dX10_hear_330 (fun x_112 ex_112 lx_112 ux_112 => ?_)
                    have ax_112 : x_112 = plf i1.toNatClampNeg := ex_112.trans (congrFun (hx_afS hM gqc rfl af_qc) _)
                    have hpl := hPL i1.toInt (by omega) (by omega)
                    have hpl2 : x_112.toInt ≤ a0.toInt := by rw [ax_112]; exact hpl.2
                    refine hx_goi (hx_runV (As := [.int i1, .int x_112]) (rest := [.int i1, .ref q_111]) ⟨hx, hb, hml, hown, hts⟩ hW (gx.S hM) tt_10 (T := TX10) (N := 98) rfl (t_X10_judges l dC dI dA L_99 h_110 H.size x i1 x_112 hT (gx.S hM) qn (gqn.S hM) ((hM.o gx trivial rfl).2.trans f_x_4) qp (gqp.S hM) ((hM.o gx trivial rfl).2.trans f_x_5) psf (hx_afS hM gqn rfl af_qn) prf (hx_afS hM gqp rfl af_qp) a0 ((hM.o gx trivial rfl).1.trans f_x_1) ⟨by omega, by omega⟩ ⟨by omega, by omega⟩ hRP) (cwV 2 hts (hx_gV kw_1617 kw_1614 kw_1616 kw_77 kw_103) rfl rfl rfl (by decide +kernel) ⟨Nat.le_of_ble_eq_true rfl, Nat.le_of_ble_eq_true rfl⟩) rfl hl.1 rfl (Nat.le_of_ble_eq_true rfl) dX10_hear_331 ⟨Nat.le_of_ble_eq_true rfl, Nat.le_of_ble_eq_true rfl⟩) hW (fun r_115 L_113 h_114 H locs p_116 hW => ?_)
                    obtain ⟨hr_117, hT, hs⟩ := p_116
                    replace hT : hx_T T_tb L_113 h_114 := hT
                    replace hs : hx_S T_tb [(99, 0)] L_99 h_110 L_113 h_114 := hs
                    replace fq_11 := (hs.o (gx.S hM) trivial rfl).2.trans fq_11
                    replace fq_12 := (hs.o (gx.S hM) trivial rfl).2.trans fq_12
                    replace fx_35 := (hs.o (gx.S hM) trivial rfl).1.trans fx_35
                    replace fq_38 := (hs.o (gx.S hM) trivial rfl).2.trans fq_38
                    replace f_43 := (hs.o (gx.S hM) trivial rfl).1.trans f_43
                    replace fq_44 := (hs.o (gx.S hM) trivial rfl).2.trans fq_44
                    replace fq_56 := (hs.o (gx.S hM) trivial rfl).2.trans fq_56
                    replace fq_63 := (hs.o (gx.S hM) trivial rfl).2.trans fq_63
                    replace fq_69 := (hs.o (gx.S hM) trivial rfl).2.trans fq_69
                    replace fq_72 := (hs.o (gx.S hM) trivial rfl).2.trans fq_72
                    replace fq_108 := (hs.o (gx.S hM) trivial rfl).2.trans fq_108
                    replace fq_111 := (hs.o (gx.S hM) trivial rfl).2.trans fq_111
                    replace nfa_37 : h_114.2.1 qh = fa_37 := (funext fun j => (hs.a (gqh.S hM) rfl j).1).trans nfa_37
                    replace ex_7 := ex_7.trans (hs.a (gqf.S hM) rfl _).1.symm
                    replace ex_13 := ex_13.trans (hs.a gq_12 rfl _).1.symm
                    replace ex_14 := ex_14.trans (hs.a gq_11 rfl _).1.symm
                    replace ex_57 := ex_57.trans (hs.a gq_56 rfl _).1.symm
                    replace ex_64 := ex_64.trans (hs.a gq_63 rfl _).1.symm
                    replace ex_70 := ex_70.trans (hs.a gq_69 rfl _).1.symm
                    replace ex_73 := ex_73.trans (hs.a gq_72 rfl _).1.symm
                    replace ex_109 := ex_109.trans (hs.a gq_108 rfl _).1.symm
                    replace ex_112 := ex_112.trans (hs.a (gqc.S hM) rfl _).1.symm
                    replace hM := hM.tr (hs.mono (by decide))
                    replace gq_11 := gq_11.S hs
                    replace gq_12 := gq_12.S hs
                    replace gq_38 := gq_38.S hs
                    replace gq_44 := gq_44.S hs
                    replace gq_56 := gq_56.S hs
                    replace gq_63 := gq_63.S hs
                    replace gq_69 := gq_69.S hs
                    replace gq_72 := gq_72.S hs
                    replace gq_108 := gq_108.S hs
                    replace gq_111 := gq_111.S hs
                    refine hx_iast hx hb hW hT (hx_S.rf (M := [(86, 0)])) gq_111 tt_86 rfl ⟨by omega, by omega⟩ rfl (i32_r _) (List.mem_singleton.mpr rfl) dX10_hear_334 (fun H locs h_118 eh_118 hW hT hs => ?_)
                    replace fq_11 := (hs.o (gx.S hM) trivial rfl).2.trans fq_11
                    replace fq_12 := (hs.o (gx.S hM) trivial rfl).2.trans fq_12
                    replace fx_35 := (hs.o (gx.S hM) trivial rfl).1.trans fx_35
                    replace fq_38 := (hs.o (gx.S hM) trivial rfl).2.trans fq_38
                    replace f_43 := (hs.o (gx.S hM) trivial rfl).1.trans f_43
                    replace fq_44 := (hs.o (gx.S hM) trivial rfl).2.trans fq_44
                    replace fq_56 := (hs.o (gx.S hM) trivial rfl).2.trans fq_56
                    replace fq_63 := (hs.o (gx.S hM) trivial rfl).2.trans fq_63
                    replace fq_69 := (hs.o (gx.S hM) trivial rfl).2.trans fq_69
                    replace fq_72 := (hs.o (gx.S hM) trivial rfl).2.trans fq_72
                    replace fq_108 := (hs.o (gx.S hM) trivial rfl).2.trans fq_108
                    replace fq_111 := (hs.o (gx.S hM) trivial rfl).2.trans fq_111
                    replace nfa_37 : h_118.2.1 qh = fa_37 := (funext fun j => (hs.a (gqh.S hM) rfl j).1).trans nfa_37
                    replace ex_7 := ex_7.trans (hs.a (gqf.S hM) rfl _).1.symm
                    replace ex_13 := ex_13.trans (hs.a gq_12 rfl _).1.symm
                    replace ex_14 := ex_14.trans (hs.a gq_11 rfl _).1.symm
                    replace ex_57 := ex_57.trans (hs.a gq_56 rfl _).1.symm
                    replace ex_64 := ex_64.trans (hs.a gq_63 rfl _).1.symm
                    replace ex_70 := ex_70.trans (hs.a gq_69 rfl _).1.symm
                    replace ex_73 := ex_73.trans (hs.a gq_72 rfl _).1.symm
                    replace ex_109 := ex_109.trans (hs.a gq_108 rfl _).1.symm
                    replace ex_112 := ex_112.trans (hs.a (gqc.S hM) rfl _).1.symm
                    replace hM := hM.tr (hs.mono (by decide))
                    replace gq_11 := gq_11.S hs
                    replace gq_12 := gq_12.S hs
                    replace gq_38 := gq_38.S hs
                    replace gq_44 := gq_44.S hs
                    replace gq_56 := gq_56.S hs
                    replace gq_63 := gq_63.S hs
                    replace gq_69 := gq_69.S hs
                    replace gq_72 := gq_72.S hs
                    replace gq_108 := gq_108.S hs
                    replace gq_111 := gq_111.S hs
                    refine lv_aload_n hx hb dX10_hear_335 rfl (lv_at hl 1 rfl) ?_
                    refine hk_getr hx hb hts hC_10 hown hW (gx.S hM) tt_10 51 (by decide) rfl kw_1194 ⟨rfl, rfl, rfl⟩ fq_111 dX10_hear_336 ?_
                    refine lv_iload_n hx hb dX10_hear_339 rfl (lv_at hl 2 rfl) ?_
                    refine hx_iald hx hb hW hT gq_111 tt_86 rfl ⟨by omega, by omega⟩ dX10_hear_340 (fun x_119 ex_119 lx_119 ux_119 => ?_)
                    exact hx_reti hx hb hr hlk hW ⟨⟨x_41, fa_37, f_43, nfa_37, ⟨(hx_hear hHC (by omega) (by omega) ax_9 (by omega) (by omega) dfa_37 (by omega)), Or.inr ⟨_, _, dfa_37, (by rw [← ax_7]; omega)⟩⟩⟩, hT, hM⟩ dX10_hear_341
                  refine hb_if_eq (zx := x_57.toInt) (tgt := 180) hx hb rfl dX10_hear_173 (by decide) (fun c_120 => ?_) (fun c_120 => ?_)
                  · skip
                    refine lv_iconst (v := 0) hx hb dX10_hear_180 (by decide) ?_
                    exact jn_181 (0 : Int32) ls (by decide) (by decide) hl
                  · skip
                    refine lv_iconst (v := 1) hx hb dX10_hear_176 (by decide) ?_
                    refine lv_goto (tgt := 181) hx hb dX10_hear_177 (by decide) ?_
                    exact jn_181 (1 : Int32) ls (by decide) (by decide) hl
                refine hb_if_eq (zx := i3.toInt) (tgt := 155) hx hb rfl dX10_hear_148 (by decide) (fun c_121 => ?_) (fun c_121 => ?_)
                · skip
                  refine lv_iconst (v := 0) hx hb dX10_hear_155 (by decide) ?_
                  exact jn_156 (0 : Int32) ls (by decide) (by decide) hl
                · skip
                  refine lv_iconst (v := 1) hx hb dX10_hear_151 (by decide) ?_
                  refine lv_goto (tgt := 156) hx hb dX10_hear_152 (by decide) ?_
                  exact jn_156 (1 : Int32) ls (by decide) (by decide) hl
              refine hb_if_eq (zx := i2.toInt) (tgt := 135) hx hb rfl dX10_hear_128 (by decide) (fun c_122 => ?_) (fun c_122 => ?_)
              · skip
                refine lv_iconst (v := 0) hx hb dX10_hear_135 (by decide) ?_
                exact jn_136 (0 : Int32) ls (by decide) (by decide) hl
              · skip
                refine lv_iconst (v := 1) hx hb dX10_hear_131 (by decide) ?_
                refine lv_goto (tgt := 136) hx hb dX10_hear_132 (by decide) ?_
                exact jn_136 (1 : Int32) ls (by decide) (by decide) hl
            · skip
              refine lv_iconst (v := -1) hx hb dX10_hear_62 (by decide) ?_
              exact hx_reti hx hb hr hlk hW ⟨⟨m0, hf, f_x_57, af_qh, ⟨hHC, Or.inl rfl⟩⟩, hT, hM⟩ dX10_hear_63
          · skip
            refine lv_iconst (v := -1) hx hb dX10_hear_47 (by decide) ?_
            exact hx_reti hx hb hr hlk hW ⟨⟨m0, hf, f_x_57, af_qh, ⟨hHC, Or.inl rfl⟩⟩, hT, hM⟩ dX10_hear_48


set_option maxHeartbeats 4000000 in
set_option maxRecDepth 100000 in
theorem t_X10_list_2 (l : Launch) (dC : Nat → ClassId) (dI : Nat → Nat → Nat) (dA : Nat → ClassId) (L : List Nat) (h : hx_h) (sz : Nat) (x : Nat) (i1 : Int32) (hT : hx_T T_tb L h) (gx : hx_g L h x 10) (qf : Nat) (gqf : hx_g L h qf 81) (f_x_46 : h.2.2 x 46 = some qf) (qh : Nat) (gqh : hx_g L h qh 82) (f_x_47 : h.2.2 x 47 = some qh) (qls : Nat) (gqls : hx_g L h qls 112) (f_x_91 : h.2.2 x 91 = some qls) (ff : Nat → Int32) (af_qf : h.2.1 qf = ff) (hf : Nat → Int32) (af_qh : h.2.1 qh = hf) (lf : Nat → Int32) (af_qls : h.2.1 qls = lf) (c0 : Int32) (f_x_36 : h.2.1 x 36 = c0) (ln0 : Int32) (f_x_90 : h.2.1 x 90 = ln0) (hHF : hx_HF c0.toInt hf ff) : Met l yX10_list (Cond.code yX10_list cX10_list 3 (some .int) :: hx_all) ({ frames := 2, cells := 0, slots := 0, locals := 43 }) (va_Pc [.ref x, .int i1] (hx_B T_tb (P_ty dA) (dC, dI) vwCl L h sz)) (va_Qi (fun (r : Int32) (u : List Nat × hx_h) => (∃ (ln1 : Int32) (lf1 : Nat → Int32), u.2.2.1 x 90 = ln1 ∧ u.2.2.1 qls = lf1 ∧ (hx_WL c0.toInt i1.toInt ln0.toInt i1 ff lf lf1 r.toInt ln1.toInt)) ∧ hx_T T_tb u.1 u.2 ∧ hx_S T_tb [(10, 90), (112, 0)] L h u.1 u.2) (hx_E T_tb (P_ty dA) (dC, dI) vwCl (hx_A L sz)) (hx_A L sz)) 0 0 (hx_A L sz) := by
  refine hx_met (lv := [(0, .ref x), (1, .int i1)]) (by decide +kernel) rfl (Nat.le_of_ble_eq_true rfl) rfl ?_
  intro p e s m below meth c hx hb hml hr hlk hts0 hown hin hsz hW ls hl
  have hts : ∀ w ∈ hx_all, w.before _ s = true := fun w hw => hts0 w (List.mem_cons_of_mem _ hw)
  have hown : s.vm.findClass "SmallCourtModel" = some m.cls := hown
  have hM : hx_S T_tb [(10, 90), (112, 0)] L h L h := hx_S.rf
  have b_c0 := hT.gi gx tt_10 (k := 36) rfl
  rw [f_x_36] at b_c0
  have b_c0 : 0 ≤ c0.toInt ∧ c0.toInt ≤ 100 := b_c0
  have b_ln0 := hT.gi gx tt_10 (k := 90) rfl
  rw [f_x_90] at b_ln0
  have b_ln0 : 0 ≤ ln0.toInt ∧ ln0.toInt ≤ 8 := b_ln0
  refine lv_aload_n hx hb dX10_list_0 rfl (lv_at hl 0 rfl) ?_
  refine lv_iload_n hx hb dX10_list_1 rfl (lv_at hl 1 rfl) ?_
  refine hx_goi (hx_runV (As := [.int i1]) (rest := []) ⟨hx, hb, hml, hown, hts⟩ hW (gx.S hM) tt_10 (T := TX10) (N := 98) rfl (t_X10_isClaim l dC dI dA L h s.heap.size x i1 hT (gx.S hM) c0 ((hM.o gx trivial rfl).1.trans f_x_36)) (cwV 1 hts (hx_gV kw_1597 kw_1594 kw_1596 kw_73 kw_103) rfl rfl rfl (by decide +kernel) ⟨Nat.le_of_ble_eq_true rfl, Nat.le_of_ble_eq_true rfl⟩) rfl hl.1 rfl (Nat.le_of_ble_eq_true rfl) dX10_list_2 ⟨Nat.le_of_ble_eq_true rfl, Nat.le_of_ble_eq_true rfl⟩) hW (fun r_3 L_1 h_2 H locs p_4 hW => ?_)
  obtain ⟨hr_5, hT, hs⟩ := p_4
  replace hT : hx_T T_tb L_1 h_2 := hT
  replace hs : hx_S T_tb [] L h L_1 h_2 := hs
  replace f_x_90 := (hs.o (gx.S hM) trivial rfl).1.trans f_x_90
  replace af_qls : h_2.2.1 qls = lf := (funext fun j => (hs.a (gqls.S hM) rfl j).1).trans af_qls
  replace hM := hM.tr (hs.mono (by decide))
  refine hb_if_eq (zx := r_3.toInt) (tgt := 37) hx hb rfl dX10_list_5 (by decide) (fun c_6 => ?_) (fun c_6 => ?_)
  · skip
    replace hr_5 := hr_5.resolve_right (fun z9 => absurd (c_6.symm.trans z9.1) (by decide))
    replace hr_5 := hr_5.2
    refine lv_iconst (v := -1) hx hb dX10_list_37 (by decide) ?_
    exact hx_reti hx hb hr hlk hW ⟨⟨ln0, lf, f_x_90, af_qls, (Or.inl ⟨by decide, rfl, by omega, fun hc => by have := hc.1; have := hc.2.1; omega⟩)⟩, hT, hM⟩ dX10_list_38
  · skip
    replace hr_5 := hr_5.resolve_left (fun z9 => c_6 z9.1)
    replace c_6 := hr_5.1
    replace hr_5 := hr_5.2
    refine lv_aload_n hx hb dX10_list_8 rfl (lv_at hl 0 rfl) ?_
    refine hk_getr hx hb hts hC_10 hown hW (gx.S hM) tt_10 46 (by decide) rfl kw_1189 ⟨rfl, rfl, rfl⟩ ((hM.o gx trivial rfl).2.trans f_x_46) dX10_list_9 ?_
    refine lv_iload_n hx hb dX10_list_12 rfl (lv_at hl 1 rfl) ?_
    refine hx_iald hx hb hW hT (gqf.S hM) tt_81 rfl ⟨by omega, by omega⟩ dX10_list_13 (fun x_7 ex_7 lx_7 ux_7 => ?_)
    have ax_7 : x_7 = ff i1.toNatClampNeg := ex_7.trans (congrFun (hx_afS hM gqf rfl af_qf) _)
    refine lv_iconst (v := -1) hx hb dX10_list_14 (by decide) ?_
    refine hb_icmp_ne (zx := x_7.toInt) (zy := (-1)) (tgt := 37) hx hb rfl (by decide) dX10_list_15 (by decide) (fun c_8 => ?_) (fun c_8 => ?_)
    · skip
      refine lv_iconst (v := -1) hx hb dX10_list_37 (by decide) ?_
      exact hx_reti hx hb hr hlk hW ⟨⟨ln0, lf, f_x_90, af_qls, (Or.inl ⟨by decide, rfl, by omega, fun hc => by have h1 : (ff i1.toNatClampNeg).toInt = -1 := hc.2.2.1; rw [← ax_7] at h1; omega⟩)⟩, hT, hM⟩ dX10_list_38
    · skip
      refine lv_aload_n hx hb dX10_list_18 rfl (lv_at hl 0 rfl) ?_
      refine hk_getr hx hb hts hC_10 hown hW (gx.S hM) tt_10 47 (by decide) rfl kw_1190 ⟨rfl, rfl, rfl⟩ ((hM.o gx trivial rfl).2.trans f_x_47) dX10_list_19 ?_
      refine lv_iload_n hx hb dX10_list_22 rfl (lv_at hl 1 rfl) ?_
      refine hx_iald hx hb hW hT (gqh.S hM) tt_82 rfl ⟨by omega, by omega⟩ dX10_list_23 (fun x_9 ex_9 lx_9 ux_9 => ?_)
      have ax_9 : x_9 = hf i1.toNatClampNeg := ex_9.trans (congrFun (hx_afS hM gqh rfl af_qh) _)
      refine lv_iconst (v := -1) hx hb dX10_list_24 (by decide) ?_
      refine hb_icmp_ne (zx := x_9.toInt) (zy := (-1)) (tgt := 37) hx hb rfl (by decide) dX10_list_25 (by decide) (fun c_10 => ?_) (fun c_10 => ?_)
      · skip
        refine lv_iconst (v := -1) hx hb dX10_list_37 (by decide) ?_
        exact hx_reti hx hb hr hlk hW ⟨⟨ln0, lf, f_x_90, af_qls, (Or.inl ⟨by decide, rfl, by omega, fun hc => by have h2 := hc.2.2.2.2; have h3 := hHF i1.toNatClampNeg (by unfold Int32.toNatClampNeg; omega); rw [← ax_9, ← ax_7] at h3; omega⟩)⟩, hT, hM⟩ dX10_list_38
      · skip
        refine lv_aload_n hx hb dX10_list_28 rfl (lv_at hl 0 rfl) ?_
        refine hk_geti hx hb hts hC_10 hown hW (gx.S hM) tt_10 90 (by decide) rfl kw_1233 ⟨rfl, rfl, rfl⟩ f_x_90 dX10_list_29 ?_
        refine lv_bipush (v := 8) hx hb dX10_list_32 (by decide) ?_
        refine hb_icmp_ne (zx := ln0.toInt) (zy := 8) (tgt := 39) hx hb rfl (by decide) dX10_list_34 (by decide) (fun c_11 => ?_) (fun c_11 => ?_)
        · skip
          refine lv_iconst (v := 0) hx hb dX10_list_39 (by decide) ?_
          refine lv_istore_n (lv' := [(2, .int (0 : Int32)), (0, .ref x), (1, .int i1)]) hx hb dX10_list_40 rfl hl (by decide) rfl (fun ls hl => ?_)
          have loop41 : ∀ (n41 : Nat) (iv41_2 : Int32) (H : Heap) (locs : List Loc) (hL1 : List Nat) (hl1 : hx_h), 0 ≤ iv41_2.toInt → iv41_2.toInt ≤ 8 → (∀ k : Nat, (k : Int) < iv41_2.toInt → lf k ≠ i1) → ∀ (ls : Array Slot), 8 - iv41_2.toInt < (n41 : Int) → hx_W T_tb (P_ty dA) (dC, dI) vwCl (hx_A L sz) s.heap hL1 hl1 s H locs → hx_T T_tb hL1 hl1 → hx_S T_tb [(10, 90), (112, 0)] L h hL1 hl1 → hl1.2.1 x 90 = ln0 → hl1.2.1 qls = lf → lv_has ls 3 [(2, .int iv41_2), (0, .ref x), (1, .int i1)] → W p l e ({ frames := 2, cells := 0, slots := 0, locals := 43 }) s m ([.ref x, .int i1] : List Value).toArray below meth c H locs 0 0 (MQ below (va_Qi (fun (r : Int32) (u : List Nat × hx_h) => (∃ (ln1 : Int32) (lf1 : Nat → Int32), u.2.2.1 x 90 = ln1 ∧ u.2.2.1 qls = lf1 ∧ (hx_WL c0.toInt i1.toInt ln0.toInt i1 ff lf lf1 r.toInt ln1.toInt)) ∧ hx_T T_tb u.1 u.2 ∧ hx_S T_tb [(10, 90), (112, 0)] L h u.1 u.2) (hx_E T_tb (P_ty dA) (dC, dI) vwCl (hx_A L sz)) (hx_A L sz)) ([.ref x, .int i1] : List Value).toArray s 0 0 (hx_A L sz)) (F0 m 41 ls []) := by
            intro n41
            induction n41 with
            | zero => intro iv41_2 H locs hL1 hl1 bliv41_2 buiv41_2 vi41_0 ls hn41; exfalso; omega
            | succ n41 ih41 =>
              intro iv41_2 H locs hL1 hl1 bliv41_2 buiv41_2 vi41_0 ls hn41 hW hT hM f_x_90 af_qls hl
              refine lv_iload_n hx hb dX10_list_41 rfl (lv_at hl 0 rfl) ?_
              refine lv_aload_n hx hb dX10_list_42 rfl (lv_at hl 1 rfl) ?_
              refine hk_geti hx hb hts hC_10 hown hW (gx.S hM) tt_10 90 (by decide) rfl kw_1233 ⟨rfl, rfl, rfl⟩ f_x_90 dX10_list_43 ?_
              refine hb_icmp_ge (zx := iv41_2.toInt) (zy := ln0.toInt) (tgt := 67) hx hb rfl rfl dX10_list_46 (by decide) (fun c_12 => ?_) (fun c_12 => ?_)
              · skip
                refine lv_aload_n hx hb dX10_list_67 rfl (lv_at hl 1 rfl) ?_
                refine hk_geti hx hb hts hC_10 hown hW (gx.S hM) tt_10 90 (by decide) rfl kw_1233 ⟨rfl, rfl, rfl⟩ f_x_90 dX10_list_68 ?_
                refine lv_istore_n (lv' := [(2, .int ln0), (0, .ref x), (1, .int i1)]) hx hb dX10_list_71 rfl hl (by decide) rfl (fun ls hl => ?_)
                have loop72 : ∀ (n72 : Nat) (iv72_2 : Int32) (ia72_qls : Nat → Int32) (H : Heap) (locs : List Loc) (hL1 : List Nat) (hl1 : hx_h), 0 ≤ iv72_2.toInt → iv72_2.toInt ≤ 8 → (iv72_2.toInt ≤ ln0.toInt) → (hx_is lf ia72_qls ln0.toInt iv72_2.toInt i1) → ∀ (ls : Array Slot), iv72_2.toInt < (n72 : Int) → hx_W T_tb (P_ty dA) (dC, dI) vwCl (hx_A L sz) s.heap hL1 hl1 s H locs → hx_T T_tb hL1 hl1 → hx_S T_tb [(10, 90), (112, 0)] L h hL1 hl1 → hl1.2.1 x 90 = ln0 → hl1.2.1 qls = ia72_qls → lv_has ls 3 [(2, .int iv72_2), (0, .ref x), (1, .int i1)] → W p l e ({ frames := 2, cells := 0, slots := 0, locals := 43 }) s m ([.ref x, .int i1] : List Value).toArray below meth c H locs 0 0 (MQ below (va_Qi (fun (r : Int32) (u : List Nat × hx_h) => (∃ (ln1 : Int32) (lf1 : Nat → Int32), u.2.2.1 x 90 = ln1 ∧ u.2.2.1 qls = lf1 ∧ (hx_WL c0.toInt i1.toInt ln0.toInt i1 ff lf lf1 r.toInt ln1.toInt)) ∧ hx_T T_tb u.1 u.2 ∧ hx_S T_tb [(10, 90), (112, 0)] L h u.1 u.2) (hx_E T_tb (P_ty dA) (dC, dI) vwCl (hx_A L sz)) (hx_A L sz)) ([.ref x, .int i1] : List Value).toArray s 0 0 (hx_A L sz)) (F0 m 72 ls []) := by
                  intro n72
                  induction n72 with
                  | zero => intro iv72_2 ia72_qls H locs hL1 hl1 bliv72_2 buiv72_2 vi72_0 vi72_1 ls hn72; exfalso; omega
                  | succ n72 ih72 =>
                    intro iv72_2 ia72_qls H locs hL1 hl1 bliv72_2 buiv72_2 vi72_0 vi72_1 ls hn72 hW hT hM f_x_90 nia72_qls hl
                    refine lv_iload_n hx hb dX10_list_72 rfl (lv_at hl 0 rfl) ?_
                    refine hb_if_le (zx := iv72_2.toInt) (tgt := 108) hx hb rfl dX10_list_73 (by decide) (fun c_13 => ?_) (fun c_13 => ?_)
                    · skip
                      refine lv_aload_n hx hb dX10_list_108 rfl (lv_at hl 1 rfl) ?_
                      refine hk_getr hx hb hts hC_10 hown hW (gx.S hM) tt_10 91 (by decide) rfl kw_1234 ⟨rfl, rfl, rfl⟩ ((hM.o gx trivial rfl).2.trans f_x_91) dX10_list_109 ?_
                      refine lv_iload_n hx hb dX10_list_112 rfl (lv_at hl 0 rfl) ?_
                      refine lv_iload_n hx hb dX10_list_113 rfl (lv_at hl 2 rfl) ?_
                      have nia72_qlsO := nia72_qls
                      refine hx_iast hx hb hW hT (hx_S.rf (M := [(112, 0)])) (gqls.S hM) tt_112 rfl ⟨by omega, by omega⟩ rfl ⟨by omega, by omega⟩ (List.mem_singleton.mpr rfl) dX10_list_114 (fun H locs h_14 eh_14 hW hT hs => ?_)
                      replace f_x_90 := (hs.o (gx.S hM) trivial rfl).1.trans f_x_90
                      replace hM := hM.tr (hs.mono (by decide))
                      obtain ⟨fa_15, dfa_15⟩ : ∃ g : Nat → Int32, g = hx_up ia72_qls iv72_2.toNatClampNeg i1 := ⟨_, rfl⟩
                      have nfa_15 : h_14.2.1 qls = fa_15 := by rw [eh_14, dfa_15, ← nia72_qlsO]; exact hx_pi_fun _ _ _ _
                      refine lv_aload_n hx hb dX10_list_115 rfl (lv_at hl 1 rfl) ?_
                      refine lv_dup hx hb dX10_list_116 rfl ?_
                      refine hk_geti hx hb hts hC_10 hown hW (gx.S hM) tt_10 90 (by decide) rfl kw_1233 ⟨rfl, rfl, rfl⟩ f_x_90 dX10_list_117 ?_
                      refine lv_iconst (v := 1) hx hb dX10_list_120 (by decide) ?_
                      refine lv_iadd hx hb dX10_list_121 ?_
                      have rg_16 := i32_r ln0
                      refine lv_topi (fun x_17 ex_17 => ?_)
                      have zx_17 : x_17.toInt = ln0.toInt + 1 := by rw [ex_17]; exact i32_add rfl (by decide) (by omega) (by omega)
                      refine hx_puti hx hb hts hC_10 hown hW hT (hx_S.rf (M := [(10, 90)])) (gx.S hM) tt_10 90 (by decide) rfl kw_1233 ⟨rfl, rfl, rfl⟩ rfl (x := x_17) ⟨by omega, by omega⟩ rfl rfl rfl (List.mem_singleton.mpr rfl) dX10_list_122 (fun H locs h_18 eh_18 hW hT hs => ?_)
                      replace nfa_15 : h_18.2.1 qls = fa_15 := (funext fun j => (hs.a (gqls.S hM) rfl j).1).trans nfa_15
                      replace hM := hM.tr (hs.mono (by decide))
                      have f_19 : h_18.2.1 x 90 = x_17 := by rw [eh_18]; exact hx_pi_at _ _ _ _
                      refine lv_aload_n hx hb dX10_list_125 rfl (lv_at hl 1 rfl) ?_
                      refine hk_geti hx hb hts hC_10 hown hW (gx.S hM) tt_10 90 (by decide) rfl kw_1233 ⟨rfl, rfl, rfl⟩ f_19 dX10_list_126 ?_
                      exact hx_reti hx hb hr hlk hW ⟨⟨x_17, fa_15, f_19, nfa_15, (Or.inr ⟨by omega, by omega, ⟨iv72_2.toInt, _, by omega, by omega, vi72_1, dfa_15, (Or.inl (by omega))⟩, by omega, by omega, (by show (ff i1.toNatClampNeg).toInt = -1; rw [← ax_7]; omega), (fun hc => by obtain ⟨k, hk, ek⟩ := hc; exact vi41_0 k (by omega) ek), by omega⟩)⟩, hT, hM⟩ dX10_list_129
                    · skip
                      refine lv_aload_n hx hb dX10_list_76 rfl (lv_at hl 1 rfl) ?_
                      refine hk_getr hx hb hts hC_10 hown hW (gx.S hM) tt_10 91 (by decide) rfl kw_1234 ⟨rfl, rfl, rfl⟩ ((hM.o gx trivial rfl).2.trans f_x_91) dX10_list_77 ?_
                      refine lv_iload_n hx hb dX10_list_80 rfl (lv_at hl 0 rfl) ?_
                      refine lv_iconst (v := 1) hx hb dX10_list_81 (by decide) ?_
                      refine lv_isub hx hb dX10_list_82 ?_
                      have rg_20 := i32_r iv72_2
                      refine lv_topi (fun x_21 ex_21 => ?_)
                      have zx_21 : x_21.toInt = iv72_2.toInt - 1 := by rw [ex_21]; exact i32_sub rfl (by decide) (by omega) (by omega)
                      refine hx_iald hx hb hW hT (gqls.S hM) tt_112 rfl ⟨by omega, by omega⟩ dX10_list_83 (fun x_22 ex_22 lx_22 ux_22 => ?_)
                      have ax_22 : x_22 = ia72_qls x_21.toNatClampNeg := ex_22.trans (congrFun nia72_qls _)
                      refine lv_iload_n hx hb dX10_list_84 rfl (lv_at hl 2 rfl) ?_
                      refine hb_icmp_le (zx := x_22.toInt) (zy := i1.toInt) (tgt := 108) hx hb rfl rfl dX10_list_85 (by decide) (fun c_23 => ?_) (fun c_23 => ?_)
                      · skip
                        refine lv_aload_n hx hb dX10_list_108 rfl (lv_at hl 1 rfl) ?_
                        refine hk_getr hx hb hts hC_10 hown hW (gx.S hM) tt_10 91 (by decide) rfl kw_1234 ⟨rfl, rfl, rfl⟩ ((hM.o gx trivial rfl).2.trans f_x_91) dX10_list_109 ?_
                        refine lv_iload_n hx hb dX10_list_112 rfl (lv_at hl 0 rfl) ?_
                        refine lv_iload_n hx hb dX10_list_113 rfl (lv_at hl 2 rfl) ?_
                        have nia72_qlsO := nia72_qls
                        refine hx_iast hx hb hW hT (hx_S.rf (M := [(112, 0)])) (gqls.S hM) tt_112 rfl ⟨by omega, by omega⟩ rfl ⟨by omega, by omega⟩ (List.mem_singleton.mpr rfl) dX10_list_114 (fun H locs h_24 eh_24 hW hT hs => ?_)
                        replace f_x_90 := (hs.o (gx.S hM) trivial rfl).1.trans f_x_90
                        replace hM := hM.tr (hs.mono (by decide))
                        obtain ⟨fa_25, dfa_25⟩ : ∃ g : Nat → Int32, g = hx_up ia72_qls iv72_2.toNatClampNeg i1 := ⟨_, rfl⟩
                        have nfa_25 : h_24.2.1 qls = fa_25 := by rw [eh_24, dfa_25, ← nia72_qlsO]; exact hx_pi_fun _ _ _ _
                        refine lv_aload_n hx hb dX10_list_115 rfl (lv_at hl 1 rfl) ?_
                        refine lv_dup hx hb dX10_list_116 rfl ?_
                        refine hk_geti hx hb hts hC_10 hown hW (gx.S hM) tt_10 90 (by decide) rfl kw_1233 ⟨rfl, rfl, rfl⟩ f_x_90 dX10_list_117 ?_
                        refine lv_iconst (v := 1) hx hb dX10_list_120 (by decide) ?_
                        refine lv_iadd hx hb dX10_list_121 ?_
                        have rg_26 := i32_r ln0
                        refine lv_topi (fun x_27 ex_27 => ?_)
                        have zx_27 : x_27.toInt = ln0.toInt + 1 := by rw [ex_27]; exact i32_add rfl (by decide) (by omega) (by omega)
                        refine hx_puti hx hb hts hC_10 hown hW hT (hx_S.rf (M := [(10, 90)])) (gx.S hM) tt_10 90 (by decide) rfl kw_1233 ⟨rfl, rfl, rfl⟩ rfl (x := x_27) ⟨by omega, by omega⟩ rfl rfl rfl (List.mem_singleton.mpr rfl) dX10_list_122 (fun H locs h_28 eh_28 hW hT hs => ?_)
                        replace nfa_25 : h_28.2.1 qls = fa_25 := (funext fun j => (hs.a (gqls.S hM) rfl j).1).trans nfa_25
                        replace hM := hM.tr (hs.mono (by decide))
                        have f_29 : h_28.2.1 x 90 = x_27 := by rw [eh_28]; exact hx_pi_at _ _ _ _
                        refine lv_aload_n hx hb dX10_list_125 rfl (lv_at hl 1 rfl) ?_
                        refine hk_geti hx hb hts hC_10 hown hW (gx.S hM) tt_10 90 (by decide) rfl kw_1233 ⟨rfl, rfl, rfl⟩ f_29 dX10_list_126 ?_
                        exact hx_reti hx hb hr hlk hW ⟨⟨x_27, fa_25, f_29, nfa_25, (Or.inr ⟨by omega, by omega, ⟨iv72_2.toInt, _, by omega, by omega, vi72_1, dfa_25, (by first | exact Or.inl (by omega) | exact Or.inr (by rw [← vi72_1.1 _ (by omega), ← show (x_21.toNatClampNeg) = (iv72_2.toInt - 1).toNat from by unfold Int32.toNatClampNeg; omega, ← ax_22]; omega))⟩, by omega, by omega, (by show (ff i1.toNatClampNeg).toInt = -1; rw [← ax_7]; omega), (fun hc => by obtain ⟨k, hk, ek⟩ := hc; exact vi41_0 k (by omega) ek), by omega⟩)⟩, hT, hM⟩ dX10_list_129
                      · skip
                        refine lv_aload_n hx hb dX10_list_88 rfl (lv_at hl 1 rfl) ?_
                        refine hk_getr hx hb hts hC_10 hown hW (gx.S hM) tt_10 91 (by decide) rfl kw_1234 ⟨rfl, rfl, rfl⟩ ((hM.o gx trivial rfl).2.trans f_x_91) dX10_list_89 ?_
                        refine lv_iload_n hx hb dX10_list_92 rfl (lv_at hl 0 rfl) ?_
                        refine lv_aload_n hx hb dX10_list_93 rfl (lv_at hl 1 rfl) ?_
                        refine hk_getr hx hb hts hC_10 hown hW (gx.S hM) tt_10 91 (by decide) rfl kw_1234 ⟨rfl, rfl, rfl⟩ ((hM.o gx trivial rfl).2.trans f_x_91) dX10_list_94 ?_
                        refine lv_iload_n hx hb dX10_list_97 rfl (lv_at hl 0 rfl) ?_
                        refine lv_iconst (v := 1) hx hb dX10_list_98 (by decide) ?_
                        refine lv_isub hx hb dX10_list_99 ?_
                        refine lv_topi (fun x_30 ex_30 => ?_)
                        have zx_30 : x_30.toInt = iv72_2.toInt - 1 := by rw [ex_30]; exact i32_sub rfl (by decide) (by omega) (by omega)
                        obtain rfl : x_21 = x_30 := ex_21.trans ex_30.symm
                        refine hx_iald hx hb hW hT (gqls.S hM) tt_112 rfl ⟨by omega, by omega⟩ dX10_list_100 (fun x_31 ex_31 lx_31 ux_31 => ?_)
                        have ax_31 : x_31 = ia72_qls x_21.toNatClampNeg := ex_31.trans (congrFun nia72_qls _)
                        obtain rfl : x_22 = x_31 := ex_22.trans ex_31.symm
                        have nia72_qlsO := nia72_qls
                        refine hx_iast hx hb hW hT (hx_S.rf (M := [(112, 0)])) (gqls.S hM) tt_112 rfl ⟨by omega, by omega⟩ rfl ⟨by omega, by omega⟩ (List.mem_singleton.mpr rfl) dX10_list_101 (fun H locs h_32 eh_32 hW hT hs => ?_)
                        replace f_x_90 := (hs.o (gx.S hM) trivial rfl).1.trans f_x_90
                        replace hM := hM.tr (hs.mono (by decide))
                        obtain ⟨fa_33, dfa_33⟩ : ∃ g : Nat → Int32, g = hx_up ia72_qls iv72_2.toNatClampNeg x_22 := ⟨_, rfl⟩
                        have nfa_33 : h_32.2.1 qls = fa_33 := by rw [eh_32, dfa_33, ← nia72_qlsO]; exact hx_pi_fun _ _ _ _
                        obtain ⟨x_34, ex_34⟩ : ∃ y : Int32, y = iv72_2 + Int32.ofInt (-1) := ⟨_, rfl⟩
                        have zx_34 : x_34.toInt = iv72_2.toInt + (-1) := by rw [ex_34]; exact i32_add rfl (by decide) (by omega) (by omega)
                        refine lv_iinc (v := x_34) (lv' := [(2, .int x_34), (0, .ref x), (1, .int i1)]) hx hb dX10_list_102 hl (k := 0) rfl ex_34.symm (by decide) rfl (fun ls hl => ?_)
                        refine lv_goto (tgt := 72) hx hb dX10_list_105 (by decide) ?_
                        exact ih72 x_34 fa_33 _ _ hL1 h_32 (by omega) (by omega) (by omega) (by have e9 : x_34.toInt = x_21.toInt := (by omega); rw [e9]; exact hx_is_s vi72_1 (by omega) (by omega) zx_21 (by rw [← ax_22]; omega) rfl (dfa_33.trans (by rw [ax_22]))) ls (by omega) hW hT hM f_x_90 nfa_33 (lv_sub hl [0, 1, 2] rfl)
                exact loop72 9 ln0 lf _ _ hL1 hl1 (by omega) (by omega) (by omega) hx_is_0 ls (by omega) hW hT hM f_x_90 af_qls hl
              · skip
                refine lv_aload_n hx hb dX10_list_49 rfl (lv_at hl 1 rfl) ?_
                refine hk_getr hx hb hts hC_10 hown hW (gx.S hM) tt_10 91 (by decide) rfl kw_1234 ⟨rfl, rfl, rfl⟩ ((hM.o gx trivial rfl).2.trans f_x_91) dX10_list_50 ?_
                refine lv_iload_n hx hb dX10_list_53 rfl (lv_at hl 0 rfl) ?_
                refine hx_iald hx hb hW hT (gqls.S hM) tt_112 rfl ⟨by omega, by omega⟩ dX10_list_54 (fun x_35 ex_35 lx_35 ux_35 => ?_)
                have ax_35 : x_35 = lf iv41_2.toNatClampNeg := ex_35.trans (congrFun af_qls _)
                refine lv_iload_n hx hb dX10_list_55 rfl (lv_at hl 2 rfl) ?_
                refine hb_icmp_ne (zx := x_35.toInt) (zy := i1.toInt) (tgt := 61) hx hb rfl rfl dX10_list_56 (by decide) (fun c_36 => ?_) (fun c_36 => ?_)
                · skip
                  obtain ⟨x_37, ex_37⟩ : ∃ y : Int32, y = iv41_2 + Int32.ofInt 1 := ⟨_, rfl⟩
                  have rg_38 := i32_r iv41_2
                  have zx_37 : x_37.toInt = iv41_2.toInt + (1) := by rw [ex_37]; exact i32_add rfl (by decide) (by omega) (by omega)
                  refine lv_iinc (v := x_37) (lv' := [(2, .int x_37), (0, .ref x), (1, .int i1)]) hx hb dX10_list_61 hl (k := 0) rfl ex_37.symm (by decide) rfl (fun ls hl => ?_)
                  refine lv_goto (tgt := 41) hx hb dX10_list_64 (by decide) ?_
                  exact ih41 x_37 _ _ hL1 hl1 (by omega) (by omega) (hx_nin_s vi41_0 (by omega) (fun e => by have h9 : x_35.toInt = i1.toInt := congrArg Int32.toInt (ax_35.trans e); omega) zx_37) ls (by omega) hW hT hM f_x_90 af_qls (lv_sub hl [0, 1, 2] rfl)
                · skip
                  refine lv_iconst (v := -1) hx hb dX10_list_59 (by decide) ?_
                  exact hx_reti hx hb hr hlk hW ⟨⟨ln0, lf, f_x_90, af_qls, (Or.inl ⟨by decide, rfl, by omega, fun hc => hc.2.2.2.1 ⟨iv41_2.toNatClampNeg, (by unfold Int32.toNatClampNeg; omega), by rw [← ax_35]; exact Int32.toInt_inj.mp (by omega)⟩⟩)⟩, hT, hM⟩ dX10_list_60
          have zk_0 : (0 : Int32).toInt = 0 := by decide
          exact loop41 9 (0 : Int32) _ _ L_1 h_2 (by decide) (by decide) (fun k hk => by exfalso; omega) ls (by omega) hW hT hM f_x_90 af_qls hl
        · skip
          refine lv_iconst (v := -1) hx hb dX10_list_37 (by decide) ?_
          exact hx_reti hx hb hr hlk hW ⟨⟨ln0, lf, f_x_90, af_qls, (Or.inl ⟨by decide, rfl, by omega, fun hc => by have h2 := hc.2.2.2.2; have h3 := hHF i1.toNatClampNeg (by unfold Int32.toNatClampNeg; omega); rw [← ax_9, ← ax_7] at h3; omega⟩)⟩, hT, hM⟩ dX10_list_38
