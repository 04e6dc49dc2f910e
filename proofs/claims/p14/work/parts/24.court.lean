theorem dX9_personAt_0 : decode cX9_personAt 0 = .ok (.iload_n 1, 1) := by decide +kernel
theorem dX9_personAt_1 : decode cX9_personAt 1 = .ok (.ifCond .lt 11, 3) := by decide +kernel
theorem dX9_personAt_4 : decode cX9_personAt 4 = .ok (.iload_n 1, 1) := by decide +kernel
theorem dX9_personAt_5 : decode cX9_personAt 5 = .ok (.aload_n 0, 1) := by decide +kernel
theorem dX9_personAt_6 : decode cX9_personAt 6 = .ok (.getfield 125, 3) := by decide +kernel
theorem dX9_personAt_9 : decode cX9_personAt 9 = .ok (.if_icmp .lt 7, 3) := by decide +kernel
theorem dX9_personAt_12 : decode cX9_personAt 12 = .ok (.aconst_null, 1) := by decide +kernel
theorem dX9_personAt_13 : decode cX9_personAt 13 = .ok (.goto 9, 3) := by decide +kernel
theorem dX9_personAt_16 : decode cX9_personAt 16 = .ok (.aload_n 0, 1) := by decide +kernel
theorem dX9_personAt_17 : decode cX9_personAt 17 = .ok (.getfield 35, 3) := by decide +kernel
theorem dX9_personAt_20 : decode cX9_personAt 20 = .ok (.iload_n 1, 1) := by decide +kernel
theorem dX9_personAt_21 : decode cX9_personAt 21 = .ok (.aaload, 1) := by decide +kernel
theorem dX9_personAt_22 : decode cX9_personAt 22 = .ok (.areturn, 1) := by decide +kernel
set_option maxHeartbeats 4000000 in
set_option maxRecDepth 100000 in
theorem t_X9_personAt (l : Launch) (dC : Nat → ClassId) (dI : Nat → Nat → Nat) (dA : Nat → ClassId) (L : List Nat) (h : hx_h) (sz : Nat) (x : Nat) (i1 : Int32) (hT : hx_T T_tb L h) (gx : hx_g L h x 9) (qp : Nat) (gqp : hx_g L h qp 44) (f_x_7 : h.2.2 x 7 = some qp) (pf_x_8 : ∀ j : Nat, (j : Int) < (h.2.1 x 8).toInt → h.2.2 qp j ≠ none) : Met l yX9_personAt (Cond.code yX9_personAt cX9_personAt 2 (some (.object "SmallCourt$Person")) :: hx_all) ({ frames := 0, cells := 0, slots := 0, locals := 0 }) (va_Pc [.ref x, .int i1] (hx_B T_tb (P_ty dA) (dC, dI) vwCl L h sz)) (va_Qq (fun (r : Option Nat) (u : List Nat × hx_h) => ((∀ q, r = some q → hx_g u.1 u.2 q 4)) ∧ hx_T T_tb u.1 u.2 ∧ hx_S T_tb [] L h u.1 u.2) (hx_E T_tb (P_ty dA) (dC, dI) vwCl (hx_A L sz)) (hx_A L sz)) 0 0 (hx_A L sz) := by
  refine hx_met (lv := [(0, .ref x), (1, .int i1)]) (by decide +kernel) rfl (Nat.le_of_ble_eq_true rfl) rfl ?_
  intro p e s m below meth c hx hb hml hr hlk hts0 hown hin hsz hW ls hl
  have hts : ∀ w ∈ hx_all, w.before _ s = true := fun w hw => hts0 w (List.mem_cons_of_mem _ hw)
  have hown : s.vm.findClass "SmallCourt" = some m.cls := hown
  have hM : hx_S T_tb [] L h L h := hx_S.rf
  refine lv_iload_n hx hb dX9_personAt_0 rfl (lv_at hl 1 rfl) ?_
  refine hb_if_lt (zx := i1.toInt) (tgt := 12) hx hb rfl dX9_personAt_1 (by decide) (fun c_1 => ?_) (fun c_1 => ?_)
  · skip
    refine lv_null hx hb dX9_personAt_12 ?_
    refine lv_goto (tgt := 22) hx hb dX9_personAt_13 (by decide) ?_
    exact hx_retq (v := none) hx hb hr (Or.inl ⟨_, rfl⟩) hlk hW ⟨(fun q hq => by cases hq), hT, hM⟩ dX9_personAt_22
  · skip
    refine lv_iload_n hx hb dX9_personAt_4 rfl (lv_at hl 1 rfl) ?_
    refine lv_aload_n hx hb dX9_personAt_5 rfl (lv_at hl 0 rfl) ?_
    refine hx_geti hx hb hts hC_9 hown hW hT gx tt_9 8 (by decide) rfl kw_372 ⟨rfl, rfl, rfl⟩ dX9_personAt_6 (fun x_2 ex_2 lx_2 ux_2 => ?_)
    have fx_2 := ex_2.symm
    refine hb_icmp_lt (zx := i1.toInt) (zy := x_2.toInt) (tgt := 16) hx hb rfl rfl dX9_personAt_9 (by decide) (fun c_3 => ?_) (fun c_3 => ?_)
    · skip
      refine lv_aload_n hx hb dX9_personAt_16 rfl (lv_at hl 0 rfl) ?_
      refine hk_getr hx hb hts hC_9 hown hW gx tt_9 7 (by decide) rfl kw_371 ⟨rfl, rfl, rfl⟩ f_x_7 dX9_personAt_17 ?_
      refine lv_iload_n hx hb dX9_personAt_20 rfl (lv_at hl 1 rfl) ?_
      refine hx_aaldN hx hb hW hT gqp tt_44 (t1 := 4) rfl ⟨by omega, by omega⟩ (pf_x_8 _ (by rw [fx_2]; exact hx_tnI (by omega) (by omega))) dX9_personAt_21 (fun q_4 fq_4 gq_4 => ?_)
      exact hx_retq (v := (some q_4)) hx hb hr (Or.inl ⟨_, rfl⟩) hlk hW ⟨(fun q hq => by cases hq; exact gq_4), hT, hM⟩ dX9_personAt_22
    · skip
      refine lv_null hx hb dX9_personAt_12 ?_
      refine lv_goto (tgt := 22) hx hb dX9_personAt_13 (by decide) ?_
      exact hx_retq (v := none) hx hb hr (Or.inl ⟨_, rfl⟩) hlk hW ⟨(fun q hq => by cases hq), hT, hM⟩ dX9_personAt_22

theorem dX9_claimAt_0 : decode cX9_claimAt 0 = .ok (.iload_n 1, 1) := by decide +kernel
theorem dX9_claimAt_1 : decode cX9_claimAt 1 = .ok (.ifCond .lt 11, 3) := by decide +kernel
theorem dX9_claimAt_4 : decode cX9_claimAt 4 = .ok (.iload_n 1, 1) := by decide +kernel
theorem dX9_claimAt_5 : decode cX9_claimAt 5 = .ok (.aload_n 0, 1) := by decide +kernel
theorem dX9_claimAt_6 : decode cX9_claimAt 6 = .ok (.getfield 181, 3) := by decide +kernel
theorem dX9_claimAt_9 : decode cX9_claimAt 9 = .ok (.if_icmp .lt 7, 3) := by decide +kernel
theorem dX9_claimAt_12 : decode cX9_claimAt 12 = .ok (.aconst_null, 1) := by decide +kernel
theorem dX9_claimAt_13 : decode cX9_claimAt 13 = .ok (.goto 9, 3) := by decide +kernel
theorem dX9_claimAt_16 : decode cX9_claimAt 16 = .ok (.aload_n 0, 1) := by decide +kernel
theorem dX9_claimAt_17 : decode cX9_claimAt 17 = .ok (.getfield 48, 3) := by decide +kernel
theorem dX9_claimAt_20 : decode cX9_claimAt 20 = .ok (.iload_n 1, 1) := by decide +kernel
theorem dX9_claimAt_21 : decode cX9_claimAt 21 = .ok (.aaload, 1) := by decide +kernel
theorem dX9_claimAt_22 : decode cX9_claimAt 22 = .ok (.areturn, 1) := by decide +kernel
set_option maxHeartbeats 4000000 in
set_option maxRecDepth 100000 in
theorem t_X9_claimAt (l : Launch) (dC : Nat → ClassId) (dI : Nat → Nat → Nat) (dA : Nat → ClassId) (L : List Nat) (h : hx_h) (sz : Nat) (x : Nat) (i1 : Int32) (hT : hx_T T_tb L h) (gx : hx_g L h x 9) (qc : Nat) (gqc : hx_g L h qc 45) (f_x_10 : h.2.2 x 10 = some qc) (pf_x_11 : ∀ j : Nat, (j : Int) < (h.2.1 x 11).toInt → h.2.2 qc j ≠ none) : Met l yX9_claimAt (Cond.code yX9_claimAt cX9_claimAt 2 (some (.object "SmallCourt$Claim")) :: hx_all) ({ frames := 0, cells := 0, slots := 0, locals := 0 }) (va_Pc [.ref x, .int i1] (hx_B T_tb (P_ty dA) (dC, dI) vwCl L h sz)) (va_Qq (fun (r : Option Nat) (u : List Nat × hx_h) => ((∀ q, r = some q → hx_g u.1 u.2 q 2)) ∧ hx_T T_tb u.1 u.2 ∧ hx_S T_tb [] L h u.1 u.2) (hx_E T_tb (P_ty dA) (dC, dI) vwCl (hx_A L sz)) (hx_A L sz)) 0 0 (hx_A L sz) := by
  refine hx_met (lv := [(0, .ref x), (1, .int i1)]) (by decide +kernel) rfl (Nat.le_of_ble_eq_true rfl) rfl ?_
  intro p e s m below meth c hx hb hml hr hlk hts0 hown hin hsz hW ls hl
  have hts : ∀ w ∈ hx_all, w.before _ s = true := fun w hw => hts0 w (List.mem_cons_of_mem _ hw)
  have hown : s.vm.findClass "SmallCourt" = some m.cls := hown
  have hM : hx_S T_tb [] L h L h := hx_S.rf
  refine lv_iload_n hx hb dX9_claimAt_0 rfl (lv_at hl 1 rfl) ?_
  refine hb_if_lt (zx := i1.toInt) (tgt := 12) hx hb rfl dX9_claimAt_1 (by decide) (fun c_1 => ?_) (fun c_1 => ?_)
  · skip
    refine lv_null hx hb dX9_claimAt_12 ?_
    refine lv_goto (tgt := 22) hx hb dX9_claimAt_13 (by decide) ?_
    exact hx_retq (v := none) hx hb hr (Or.inl ⟨_, rfl⟩) hlk hW ⟨(fun q hq => by cases hq), hT, hM⟩ dX9_claimAt_22
  · skip
    refine lv_iload_n hx hb dX9_claimAt_4 rfl (lv_at hl 1 rfl) ?_
    refine lv_aload_n hx hb dX9_claimAt_5 rfl (lv_at hl 0 rfl) ?_
    refine hx_geti hx hb hts hC_9 hown hW hT gx tt_9 11 (by decide) rfl kw_375 ⟨rfl, rfl, rfl⟩ dX9_claimAt_6 (fun x_2 ex_2 lx_2 ux_2 => ?_)
    have fx_2 := ex_2.symm
    refine hb_icmp_lt (zx := i1.toInt) (zy := x_2.toInt) (tgt := 16) hx hb rfl rfl dX9_claimAt_9 (by decide) (fun c_3 => ?_) (fun c_3 => ?_)
    · skip
      refine lv_aload_n hx hb dX9_claimAt_16 rfl (lv_at hl 0 rfl) ?_
      refine hk_getr hx hb hts hC_9 hown hW gx tt_9 10 (by decide) rfl kw_374 ⟨rfl, rfl, rfl⟩ f_x_10 dX9_claimAt_17 ?_
      refine lv_iload_n hx hb dX9_claimAt_20 rfl (lv_at hl 1 rfl) ?_
      refine hx_aaldN hx hb hW hT gqc tt_45 (t1 := 2) rfl ⟨by omega, by omega⟩ (pf_x_11 _ (by rw [fx_2]; exact hx_tnI (by omega) (by omega))) dX9_claimAt_21 (fun q_4 fq_4 gq_4 => ?_)
      exact hx_retq (v := (some q_4)) hx hb hr (Or.inl ⟨_, rfl⟩) hlk hW ⟨(fun q hq => by cases hq; exact gq_4), hT, hM⟩ dX9_claimAt_22
    · skip
      refine lv_null hx hb dX9_claimAt_12 ?_
      refine lv_goto (tgt := 22) hx hb dX9_claimAt_13 (by decide) ?_
      exact hx_retq (v := none) hx hb hr (Or.inl ⟨_, rfl⟩) hlk hW ⟨(fun q hq => by cases hq), hT, hM⟩ dX9_claimAt_22

theorem dX9_areTwo_0 : decode cX9_areTwo 0 = .ok (.iload_n 1, 1) := by decide +kernel
theorem dX9_areTwo_1 : decode cX9_areTwo 1 = .ok (.iload_n 2, 1) := by decide +kernel
theorem dX9_areTwo_2 : decode cX9_areTwo 2 = .ok (.if_icmp .eq 23, 3) := by decide +kernel
theorem dX9_areTwo_5 : decode cX9_areTwo 5 = .ok (.aload_n 0, 1) := by decide +kernel
theorem dX9_areTwo_6 : decode cX9_areTwo 6 = .ok (.iload_n 1, 1) := by decide +kernel
theorem dX9_areTwo_7 : decode cX9_areTwo 7 = .ok (.invokevirtual 144, 3) := by decide +kernel
theorem dX9_areTwo_10 : decode cX9_areTwo 10 = .ok (.ifnull 15, 3) := by decide +kernel
theorem dX9_areTwo_13 : decode cX9_areTwo 13 = .ok (.aload_n 0, 1) := by decide +kernel
theorem dX9_areTwo_14 : decode cX9_areTwo 14 = .ok (.iload_n 2, 1) := by decide +kernel
theorem dX9_areTwo_15 : decode cX9_areTwo 15 = .ok (.invokevirtual 144, 3) := by decide +kernel
theorem dX9_areTwo_18 : decode cX9_areTwo 18 = .ok (.ifnull 7, 3) := by decide +kernel
theorem dX9_areTwo_21 : decode cX9_areTwo 21 = .ok (.iconst 1, 1) := by decide +kernel
theorem dX9_areTwo_22 : decode cX9_areTwo 22 = .ok (.goto 4, 3) := by decide +kernel
theorem dX9_areTwo_25 : decode cX9_areTwo 25 = .ok (.iconst 0, 1) := by decide +kernel
theorem dX9_areTwo_26 : decode cX9_areTwo 26 = .ok (.ireturn, 1) := by decide +kernel
set_option maxHeartbeats 4000000 in
set_option maxRecDepth 100000 in
theorem t_X9_areTwo (l : Launch) (dC : Nat → ClassId) (dI : Nat → Nat → Nat) (dA : Nat → ClassId) (L : List Nat) (h : hx_h) (sz : Nat) (x : Nat) (i1 : Int32) (i2 : Int32) (hT : hx_T T_tb L h) (gx : hx_g L h x 9) (qp : Nat) (gqp : hx_g L h qp 44) (f_x_7 : h.2.2 x 7 = some qp) (pf_x_8 : ∀ j : Nat, (j : Int) < (h.2.1 x 8).toInt → h.2.2 qp j ≠ none) : Met l yX9_areTwo (Cond.code yX9_areTwo cX9_areTwo 3 (some .boolean) :: hx_all) ({ frames := 1, cells := 0, slots := 0, locals := 21 }) (va_Pc [.ref x, .int i1, .int i2] (hx_B T_tb (P_ty dA) (dC, dI) vwCl L h sz)) (va_Qi (fun (r : Int32) (u : List Nat × hx_h) => (r.toInt = 0 ∨ r.toInt = 1) ∧ hx_T T_tb u.1 u.2 ∧ hx_S T_tb [] L h u.1 u.2) (hx_E T_tb (P_ty dA) (dC, dI) vwCl (hx_A L sz)) (hx_A L sz)) 0 0 (hx_A L sz) := by
  refine hx_met (lv := [(0, .ref x), (1, .int i1), (2, .int i2)]) (by decide +kernel) rfl (Nat.le_of_ble_eq_true rfl) rfl ?_
  intro p e s m below meth c hx hb hml hr hlk hts0 hown hin hsz hW ls hl
  have hts : ∀ w ∈ hx_all, w.before _ s = true := fun w hw => hts0 w (List.mem_cons_of_mem _ hw)
  have hown : s.vm.findClass "SmallCourt" = some m.cls := hown
  have hM : hx_S T_tb [] L h L h := hx_S.rf
  refine lv_iload_n hx hb dX9_areTwo_0 rfl (lv_at hl 1 rfl) ?_
  refine lv_iload_n hx hb dX9_areTwo_1 rfl (lv_at hl 2 rfl) ?_
  refine hb_icmp_eq (zx := i1.toInt) (zy := i2.toInt) (tgt := 25) hx hb rfl rfl dX9_areTwo_2 (by decide) (fun c_1 => ?_) (fun c_1 => ?_)
  · skip
    refine lv_iconst (v := 0) hx hb dX9_areTwo_25 (by decide) ?_
    exact hx_retz hx hb hr rfl hlk hW ⟨(by decide), hT, hM⟩ dX9_areTwo_26
  · skip
    refine lv_aload_n hx hb dX9_areTwo_5 rfl (lv_at hl 0 rfl) ?_
    refine lv_iload_n hx hb dX9_areTwo_6 rfl (lv_at hl 1 rfl) ?_
    refine hx_goq (hx_runV (As := [.int i1]) (rest := []) ⟨hx, hb, hml, hown, hts⟩ hW gx tt_9 (T := TX9) (N := 20) rfl (t_X9_personAt l dC dI dA L h s.heap.size x i1 hT gx qp gqp f_x_7 pf_x_8) (cwV 1 hts (hx_gV kw_659 kw_656 kw_658 kw_20 kw_94) rfl rfl rfl (by decide +kernel) ⟨Nat.le_of_ble_eq_true rfl, Nat.le_of_ble_eq_true rfl⟩) rfl hl.1 rfl (Nat.le_of_ble_eq_true rfl) dX9_areTwo_7 ⟨Nat.le_of_ble_eq_true rfl, Nat.le_of_ble_eq_true rfl⟩) hW (fun r_4 L_2 h_3 H locs p_5 hW => ?_)
    obtain ⟨hr_6, hT, hs⟩ := p_5
    have hT : hx_T T_tb L_2 h_3 := hT
    have hs : hx_S T_tb [] L h L_2 h_3 := hs
    have f_x_7 := (hs.o gx trivial rfl).2.trans f_x_7
    have pf_x_8 : ∀ j : Nat, (j : Int) < (h_3.2.1 x 8).toInt → h_3.2.2 qp j ≠ none := by
      intro j hj; rw [(hs.o gx trivial rfl).1] at hj; rw [(hs.a gqp rfl j).2]; exact pf_x_8 j hj
    have hM := hM.tr (hs.mono (by decide))
    have gx := gx.S hs
    have gqp := gqp.S hs
    have hr_6 : ∀ q, r_4 = some q → hx_g L_2 h_3 q 4 := hr_6
    rcases r_4 with _ | q_7
    · skip
      refine lv_ifnullN (tgt := 25) hx hb dX9_areTwo_10 (by decide) ?_
      refine lv_iconst (v := 0) hx hb dX9_areTwo_25 (by decide) ?_
      exact hx_retz hx hb hr rfl hlk hW ⟨(by decide), hT, hM⟩ dX9_areTwo_26
    · have gq_7 := hr_6 _ rfl
      refine lv_ifnull hx hb dX9_areTwo_10 ?_
      refine lv_aload_n hx hb dX9_areTwo_13 rfl (lv_at hl 0 rfl) ?_
      refine lv_iload_n hx hb dX9_areTwo_14 rfl (lv_at hl 2 rfl) ?_
      refine hx_goq (hx_runV (As := [.int i2]) (rest := []) ⟨hx, hb, hml, hown, hts⟩ hW gx tt_9 (T := TX9) (N := 20) rfl (t_X9_personAt l dC dI dA L_2 h_3 H.size x i2 hT gx qp gqp f_x_7 pf_x_8) (cwV 1 hts (hx_gV kw_659 kw_656 kw_658 kw_20 kw_94) rfl rfl rfl (by decide +kernel) ⟨Nat.le_of_ble_eq_true rfl, Nat.le_of_ble_eq_true rfl⟩) rfl hl.1 rfl (Nat.le_of_ble_eq_true rfl) dX9_areTwo_15 ⟨Nat.le_of_ble_eq_true rfl, Nat.le_of_ble_eq_true rfl⟩) hW (fun r_10 L_8 h_9 H locs p_11 hW => ?_)
      obtain ⟨hr_12, hT, hs⟩ := p_11
      have hT : hx_T T_tb L_8 h_9 := hT
      have hs : hx_S T_tb [] L_2 h_3 L_8 h_9 := hs
      have f_x_7 := (hs.o gx trivial rfl).2.trans f_x_7
      have pf_x_8 : ∀ j : Nat, (j : Int) < (h_9.2.1 x 8).toInt → h_9.2.2 qp j ≠ none := by
        intro j hj; rw [(hs.o gx trivial rfl).1] at hj; rw [(hs.a gqp rfl j).2]; exact pf_x_8 j hj
      have hM := hM.tr (hs.mono (by decide))
      have gx := gx.S hs
      have gqp := gqp.S hs
      have gq_7 := gq_7.S hs
      have hr_12 : ∀ q, r_10 = some q → hx_g L_8 h_9 q 4 := hr_12
      rcases r_10 with _ | q_13
      · skip
        have jn_26 : ∀ (xj_14 : Int32) (ls : Array Slot), 0 ≤ xj_14.toInt → xj_14.toInt ≤ 1 → lv_has ls 3 [(0, .ref x), (1, .int i1), (2, .int i2)] → W p l e ({ frames := 1, cells := 0, slots := 0, locals := 21 }) s m ([.ref x, .int i1, .int i2] : List Value).toArray below meth c H locs 0 0 (MQ below (va_Qi (fun (r : Int32) (u : List Nat × hx_h) => (r.toInt = 0 ∨ r.toInt = 1) ∧ hx_T T_tb u.1 u.2 ∧ hx_S T_tb [] L h u.1 u.2) (hx_E T_tb (P_ty dA) (dC, dI) vwCl (hx_A L sz)) (hx_A L sz)) ([.ref x, .int i1, .int i2] : List Value).toArray s 0 0 (hx_A L sz)) (F0 m 26 ls [.int xj_14]) := by
          intro xj_14 ls blxj_14 buxj_14 hl
          exact hx_retz hx hb hr (hx_nar01 (by omega)) hlk hW ⟨(by omega), hT, hM⟩ dX9_areTwo_26
        refine lv_ifnullN (tgt := 25) hx hb dX9_areTwo_18 (by decide) ?_
        refine lv_iconst (v := 0) hx hb dX9_areTwo_25 (by decide) ?_
        exact jn_26 (0 : Int32) ls (by decide) (by decide) hl
      · have gq_13 := hr_12 _ rfl
        have jn_26 : ∀ (xj_15 : Int32) (ls : Array Slot), 0 ≤ xj_15.toInt → xj_15.toInt ≤ 1 → lv_has ls 3 [(0, .ref x), (1, .int i1), (2, .int i2)] → W p l e ({ frames := 1, cells := 0, slots := 0, locals := 21 }) s m ([.ref x, .int i1, .int i2] : List Value).toArray below meth c H locs 0 0 (MQ below (va_Qi (fun (r : Int32) (u : List Nat × hx_h) => (r.toInt = 0 ∨ r.toInt = 1) ∧ hx_T T_tb u.1 u.2 ∧ hx_S T_tb [] L h u.1 u.2) (hx_E T_tb (P_ty dA) (dC, dI) vwCl (hx_A L sz)) (hx_A L sz)) ([.ref x, .int i1, .int i2] : List Value).toArray s 0 0 (hx_A L sz)) (F0 m 26 ls [.int xj_15]) := by
          intro xj_15 ls blxj_15 buxj_15 hl
          exact hx_retz hx hb hr (hx_nar01 (by omega)) hlk hW ⟨(by omega), hT, hM⟩ dX9_areTwo_26
        refine lv_ifnull hx hb dX9_areTwo_18 ?_
        refine lv_iconst (v := 1) hx hb dX9_areTwo_21 (by decide) ?_
        refine lv_goto (tgt := 26) hx hb dX9_areTwo_22 (by decide) ?_
        exact jn_26 (1 : Int32) ls (by decide) (by decide) hl

theorem dX9_feedBytes_0 : decode cX9_feedBytes 0 = .ok (.bipush 24, 2) := by decide +kernel
theorem dX9_feedBytes_2 : decode cX9_feedBytes 2 = .ok (.istore_n 2, 1) := by decide +kernel
theorem dX9_feedBytes_3 : decode cX9_feedBytes 3 = .ok (.iload_n 2, 1) := by decide +kernel
theorem dX9_feedBytes_4 : decode cX9_feedBytes 4 = .ok (.ifCond .lt 42, 3) := by decide +kernel
theorem dX9_feedBytes_7 : decode cX9_feedBytes 7 = .ok (.aload_n 0, 1) := by decide +kernel
theorem dX9_feedBytes_8 : decode cX9_feedBytes 8 = .ok (.getfield 98, 3) := by decide +kernel
theorem dX9_feedBytes_11 : decode cX9_feedBytes 11 = .ok (.sipush 400, 3) := by decide +kernel
theorem dX9_feedBytes_14 : decode cX9_feedBytes 14 = .ok (.if_icmp .ge 32, 3) := by decide +kernel
theorem dX9_feedBytes_17 : decode cX9_feedBytes 17 = .ok (.aload_n 0, 1) := by decide +kernel
theorem dX9_feedBytes_18 : decode cX9_feedBytes 18 = .ok (.getfield 9, 3) := by decide +kernel
theorem dX9_feedBytes_21 : decode cX9_feedBytes 21 = .ok (.aload_n 0, 1) := by decide +kernel
theorem dX9_feedBytes_22 : decode cX9_feedBytes 22 = .ok (.getfield 98, 3) := by decide +kernel
theorem dX9_feedBytes_25 : decode cX9_feedBytes 25 = .ok (.iload_n 1, 1) := by decide +kernel
theorem dX9_feedBytes_26 : decode cX9_feedBytes 26 = .ok (.iload_n 2, 1) := by decide +kernel
theorem dX9_feedBytes_27 : decode cX9_feedBytes 27 = .ok (.ishr, 1) := by decide +kernel
theorem dX9_feedBytes_28 : decode cX9_feedBytes 28 = .ok (.i2b, 1) := by decide +kernel
theorem dX9_feedBytes_29 : decode cX9_feedBytes 29 = .ok (.bastore, 1) := by decide +kernel
theorem dX9_feedBytes_30 : decode cX9_feedBytes 30 = .ok (.aload_n 0, 1) := by decide +kernel
theorem dX9_feedBytes_31 : decode cX9_feedBytes 31 = .ok (.dup, 1) := by decide +kernel
theorem dX9_feedBytes_32 : decode cX9_feedBytes 32 = .ok (.getfield 98, 3) := by decide +kernel
theorem dX9_feedBytes_35 : decode cX9_feedBytes 35 = .ok (.iconst 1, 1) := by decide +kernel
theorem dX9_feedBytes_36 : decode cX9_feedBytes 36 = .ok (.iadd, 1) := by decide +kernel
theorem dX9_feedBytes_37 : decode cX9_feedBytes 37 = .ok (.putfield 98, 3) := by decide +kernel
theorem dX9_feedBytes_40 : decode cX9_feedBytes 40 = .ok (.iinc 2 (-8), 3) := by decide +kernel
theorem dX9_feedBytes_43 : decode cX9_feedBytes 43 = .ok (.goto (-40), 3) := by decide +kernel
theorem dX9_feedBytes_46 : decode cX9_feedBytes 46 = .ok (.return_, 1) := by decide +kernel
set_option maxHeartbeats 4000000 in
set_option maxRecDepth 100000 in
theorem t_X9_feedBytes (l : Launch) (dC : Nat → ClassId) (dI : Nat → Nat → Nat) (dA : Nat → ClassId) (L : List Nat) (h : hx_h) (sz : Nat) (x : Nat) (i1 : Int32) (hT : hx_T T_tb L h) (gx : hx_g L h x 9)  : Met l yX9_feedBytes (Cond.code yX9_feedBytes cX9_feedBytes 3 none :: hx_all) ({ frames := 0, cells := 0, slots := 0, locals := 0 }) (va_Pc [.ref x, .int i1] (hx_B T_tb (P_ty dA) (dC, dI) vwCl L h sz)) (va_Qv (fun (u : List Nat × hx_h) => hx_T T_tb u.1 u.2 ∧ hx_S T_tb [(9, 1), (42, 0)] L h u.1 u.2) (hx_E T_tb (P_ty dA) (dC, dI) vwCl (hx_A L sz)) (hx_A L sz)) 0 0 (hx_A L sz) := by
  refine hx_met (lv := [(0, .ref x), (1, .int i1)]) (by decide +kernel) rfl (Nat.le_of_ble_eq_true rfl) rfl ?_
  intro p e s m below meth c hx hb hml hr hlk hts0 hown hin hsz hW ls hl
  have hts : ∀ w ∈ hx_all, w.before _ s = true := fun w hw => hts0 w (List.mem_cons_of_mem _ hw)
  have hown : s.vm.findClass "SmallCourt" = some m.cls := hown
  have hM : hx_S T_tb [(9, 1), (42, 0)] L h L h := hx_S.rf
  refine lv_bipush (v := 24) hx hb dX9_feedBytes_0 (by decide) ?_
  refine lv_istore_n (lv' := [(2, .int (24 : Int32)), (0, .ref x), (1, .int i1)]) hx hb dX9_feedBytes_2 rfl hl (by decide) rfl (fun ls hl => ?_)
  obtain ⟨fv_1, efv_1⟩ : ∃ y : Int32, y = h.2.1 x 1 := ⟨_, rfl⟩
  have bfv_1 := hT.gi gx tt_9 (k := 1) rfl
  rw [← efv_1] at bfv_1
  have bfv_1 : 0 ≤ fv_1.toInt ∧ fv_1.toInt ≤ 400 := bfv_1
  have ffv_1 := efv_1.symm
  have loop3 : ∀ (n3 : Nat) (iv3_2 fw3_x_1 : Int32) (H : Heap) (locs : List Loc) (hL1 : List Nat) (hl1 : hx_h), -8 ≤ iv3_2.toInt → iv3_2.toInt ≤ 24 → 0 ≤ fw3_x_1.toInt → fw3_x_1.toInt ≤ 400 → ∀ (ls : Array Slot), iv3_2.toInt + 8 < (n3 : Int) → hx_W T_tb (P_ty dA) (dC, dI) vwCl (hx_A L sz) s.heap hL1 hl1 s H locs → hx_T T_tb hL1 hl1 → hx_S T_tb [(9, 1), (42, 0)] L h hL1 hl1 → hl1.2.1 x 1 = fw3_x_1 → hx_g hL1 hl1 x 9 → lv_has ls 3 [(2, .int iv3_2), (0, .ref x), (1, .int i1)] → W p l e ({ frames := 0, cells := 0, slots := 0, locals := 0 }) s m ([.ref x, .int i1] : List Value).toArray below meth c H locs 0 0 (MQ below (va_Qv (fun (u : List Nat × hx_h) => hx_T T_tb u.1 u.2 ∧ hx_S T_tb [(9, 1), (42, 0)] L h u.1 u.2) (hx_E T_tb (P_ty dA) (dC, dI) vwCl (hx_A L sz)) (hx_A L sz)) ([.ref x, .int i1] : List Value).toArray s 0 0 (hx_A L sz)) (F0 m 3 ls []) := by
    intro n3
    induction n3 with
    | zero => intro iv3_2 fw3_x_1 H locs hL1 hl1 bliv3_2 buiv3_2 blfw3_x_1 bufw3_x_1  ls hn3; exfalso; omega
    | succ n3 ih3 =>
      intro iv3_2 fw3_x_1 H locs hL1 hl1 bliv3_2 buiv3_2 blfw3_x_1 bufw3_x_1  ls hn3 hW hT hM ffw3_x_1 gx hl
      refine lv_iload_n hx hb dX9_feedBytes_3 rfl (lv_at hl 0 rfl) ?_
      refine hb_if_lt (zx := iv3_2.toInt) (tgt := 46) hx hb rfl dX9_feedBytes_4 (by decide) (fun c_2 => ?_) (fun c_2 => ?_)
      · skip
        exact hx_retv hx hb hr hlk hW ⟨hT, hM⟩ dX9_feedBytes_46
      · skip
        refine lv_aload_n hx hb dX9_feedBytes_7 rfl (lv_at hl 1 rfl) ?_
        refine hk_geti hx hb hts hC_9 hown hW gx tt_9 1 (by decide) rfl kw_365 ⟨rfl, rfl, rfl⟩ ffw3_x_1 dX9_feedBytes_8 ?_
        refine lv_sipush (v := 400) hx hb dX9_feedBytes_11 (by decide) ?_
        refine hb_icmp_ge (zx := fw3_x_1.toInt) (zy := 400) (tgt := 46) hx hb rfl (by decide) dX9_feedBytes_14 (by decide) (fun c_3 => ?_) (fun c_3 => ?_)
        · skip
          exact hx_retv hx hb hr hlk hW ⟨hT, hM⟩ dX9_feedBytes_46
        · skip
          refine lv_aload_n hx hb dX9_feedBytes_17 rfl (lv_at hl 1 rfl) ?_
          refine hx_getn hx hb hts hC_9 hown hW hT gx tt_9 0 (by decide) rfl kw_364 ⟨rfl, rfl, rfl⟩ dX9_feedBytes_18 (fun q_4 fq_4 gq_4 => ?_)
          refine lv_aload_n hx hb dX9_feedBytes_21 rfl (lv_at hl 1 rfl) ?_
          refine hk_geti hx hb hts hC_9 hown hW gx tt_9 1 (by decide) rfl kw_365 ⟨rfl, rfl, rfl⟩ ffw3_x_1 dX9_feedBytes_22 ?_
          refine lv_iload_n hx hb dX9_feedBytes_25 rfl (lv_at hl 2 rfl) ?_
          refine lv_iload_n hx hb dX9_feedBytes_26 rfl (lv_at hl 0 rfl) ?_
          refine lv_ishr hx hb dX9_feedBytes_27 ?_
          refine lv_topi (fun x_5 ex_5 => ?_)
          refine lv_i2b hx hb dX9_feedBytes_28 rfl ?_
          refine lv_topi (fun x_6 ex_6 => ?_)
          refine hx_bast hx hb hW hT (hx_S.rf (M := [(42, 0)])) gq_4 tt_42 rfl ⟨by omega, by omega⟩ (y := _) rfl (hx_nb _) (List.mem_singleton.mpr rfl) dX9_feedBytes_29 (fun H locs h_7 eh_7 hW hT hs => ?_)
          have ffw3_x_1 := (hs.o gx trivial rfl).1.trans ffw3_x_1
          have fq_4 := (hs.o gx trivial rfl).2.trans fq_4
          have hM := hM.tr (hs.mono (by decide))
          have gx := gx.S hs
          have gq_4 := gq_4.S hs
          refine lv_aload_n hx hb dX9_feedBytes_30 rfl (lv_at hl 1 rfl) ?_
          refine lv_dup hx hb dX9_feedBytes_31 rfl ?_
          refine hk_geti hx hb hts hC_9 hown hW gx tt_9 1 (by decide) rfl kw_365 ⟨rfl, rfl, rfl⟩ ffw3_x_1 dX9_feedBytes_32 ?_
          refine lv_iconst (v := 1) hx hb dX9_feedBytes_35 (by decide) ?_
          refine lv_iadd hx hb dX9_feedBytes_36 ?_
          have rg_8 := i32_r fw3_x_1
          refine lv_topi (fun x_9 ex_9 => ?_)
          have zx_9 : x_9.toInt = fw3_x_1.toInt + 1 := by rw [ex_9]; exact i32_add rfl (by decide) (by omega) (by omega)
          refine hx_puti hx hb hts hC_9 hown hW hT (hx_S.rf (M := [(9, 1)])) gx tt_9 1 (by decide) rfl kw_365 ⟨rfl, rfl, rfl⟩ rfl (x := x_9) ⟨by omega, by omega⟩ rfl rfl rfl (List.mem_singleton.mpr rfl) dX9_feedBytes_37 (fun H locs h_10 eh_10 hW hT hs => ?_)
          have fq_4 := (hs.o gx trivial rfl).2.trans fq_4
          have hM := hM.tr (hs.mono (by decide))
          have gx := gx.S hs
          have gq_4 := gq_4.S hs
          have f_11 : h_10.2.1 x 1 = x_9 := by rw [eh_10]; exact hx_pi_at _ _ _ _
          obtain ⟨x_12, ex_12⟩ : ∃ y : Int32, y = iv3_2 + Int32.ofInt (-8) := ⟨_, rfl⟩
          have rg_13 := i32_r iv3_2
          have zx_12 : x_12.toInt = iv3_2.toInt + (-8) := by rw [ex_12]; exact i32_add rfl (by decide) (by omega) (by omega)
          refine lv_iinc (v := x_12) (lv' := [(2, .int x_12), (0, .ref x), (1, .int i1)]) hx hb dX9_feedBytes_40 hl (k := 0) rfl ex_12.symm (by decide) rfl (fun ls hl => ?_)
          refine lv_goto (tgt := 3) hx hb dX9_feedBytes_43 (by decide) ?_
          exact ih3 x_12 x_9 _ _ hL1 h_10 (by omega) (by omega) (by omega) (by omega)  ls (by omega) hW hT hM f_11 gx (lv_sub hl [0, 1, 2] rfl)
  have zk_24 : (24 : Int32).toInt = 24 := by decide
  exact loop3 33 (24 : Int32) fv_1 _ _ L h (by decide) (by decide) (by omega) (by omega)  ls (by omega) hW hT hM ffv_1 gx hl

theorem dX9_feed_0 : decode cX9_feed 0 = .ok (.aload_n 0, 1) := by decide +kernel
theorem dX9_feed_1 : decode cX9_feed 1 = .ok (.getfield 98, 3) := by decide +kernel
theorem dX9_feed_4 : decode cX9_feed 4 = .ok (.bipush 20, 2) := by decide +kernel
theorem dX9_feed_6 : decode cX9_feed 6 = .ok (.iadd, 1) := by decide +kernel
theorem dX9_feed_7 : decode cX9_feed 7 = .ok (.sipush 400, 3) := by decide +kernel
theorem dX9_feed_10 : decode cX9_feed 10 = .ok (.if_icmp .le 5, 3) := by decide +kernel
theorem dX9_feed_13 : decode cX9_feed 13 = .ok (.iconst (-1), 1) := by decide +kernel
theorem dX9_feed_14 : decode cX9_feed 14 = .ok (.ireturn, 1) := by decide +kernel
theorem dX9_feed_15 : decode cX9_feed 15 = .ok (.aload_n 0, 1) := by decide +kernel
theorem dX9_feed_16 : decode cX9_feed 16 = .ok (.iload_n 1, 1) := by decide +kernel
theorem dX9_feed_17 : decode cX9_feed 17 = .ok (.invokevirtual 101, 3) := by decide +kernel
theorem dX9_feed_20 : decode cX9_feed 20 = .ok (.aload_n 0, 1) := by decide +kernel
theorem dX9_feed_21 : decode cX9_feed 21 = .ok (.iload_n 2, 1) := by decide +kernel
theorem dX9_feed_22 : decode cX9_feed 22 = .ok (.invokevirtual 101, 3) := by decide +kernel
theorem dX9_feed_25 : decode cX9_feed 25 = .ok (.aload_n 0, 1) := by decide +kernel
theorem dX9_feed_26 : decode cX9_feed 26 = .ok (.iload_n 3, 1) := by decide +kernel
theorem dX9_feed_27 : decode cX9_feed 27 = .ok (.invokevirtual 101, 3) := by decide +kernel
theorem dX9_feed_30 : decode cX9_feed 30 = .ok (.aload_n 0, 1) := by decide +kernel
theorem dX9_feed_31 : decode cX9_feed 31 = .ok (.iload 4, 2) := by decide +kernel
theorem dX9_feed_33 : decode cX9_feed 33 = .ok (.invokevirtual 101, 3) := by decide +kernel
theorem dX9_feed_36 : decode cX9_feed 36 = .ok (.aload_n 0, 1) := by decide +kernel
theorem dX9_feed_37 : decode cX9_feed 37 = .ok (.iload 5, 2) := by decide +kernel
theorem dX9_feed_39 : decode cX9_feed 39 = .ok (.invokevirtual 101, 3) := by decide +kernel
theorem dX9_feed_42 : decode cX9_feed 42 = .ok (.aload_n 0, 1) := by decide +kernel
theorem dX9_feed_43 : decode cX9_feed 43 = .ok (.getfield 98, 3) := by decide +kernel
theorem dX9_feed_46 : decode cX9_feed 46 = .ok (.ireturn, 1) := by decide +kernel
set_option maxHeartbeats 4000000 in
set_option maxRecDepth 100000 in
theorem t_X9_feed (l : Launch) (dC : Nat → ClassId) (dI : Nat → Nat → Nat) (dA : Nat → ClassId) (L : List Nat) (h : hx_h) (sz : Nat) (x : Nat) (i1 : Int32) (i2 : Int32) (i3 : Int32) (i4 : Int32) (i5 : Int32) (hT : hx_T T_tb L h) (gx : hx_g L h x 9)  : Met l yX9_feed (Cond.code yX9_feed cX9_feed 6 (some .int) :: hx_all) ({ frames := 1, cells := 0, slots := 0, locals := 22 }) (va_Pc [.ref x, .int i1, .int i2, .int i3, .int i4, .int i5] (hx_B T_tb (P_ty dA) (dC, dI) vwCl L h sz)) (va_Qi (fun (r : Int32) (u : List Nat × hx_h) => (True) ∧ hx_T T_tb u.1 u.2 ∧ hx_S T_tb [(9, 1), (42, 0)] L h u.1 u.2) (hx_E T_tb (P_ty dA) (dC, dI) vwCl (hx_A L sz)) (hx_A L sz)) 0 0 (hx_A L sz) := by
  refine hx_met (lv := [(0, .ref x), (1, .int i1), (2, .int i2), (3, .int i3), (4, .int i4), (5, .int i5)]) (by decide +kernel) rfl (Nat.le_of_ble_eq_true rfl) rfl ?_
  intro p e s m below meth c hx hb hml hr hlk hts0 hown hin hsz hW ls hl
  have hts : ∀ w ∈ hx_all, w.before _ s = true := fun w hw => hts0 w (List.mem_cons_of_mem _ hw)
  have hown : s.vm.findClass "SmallCourt" = some m.cls := hown
  have hM : hx_S T_tb [(9, 1), (42, 0)] L h L h := hx_S.rf
  refine lv_aload_n hx hb dX9_feed_0 rfl (lv_at hl 0 rfl) ?_
  refine hx_geti hx hb hts hC_9 hown hW hT gx tt_9 1 (by decide) rfl kw_365 ⟨rfl, rfl, rfl⟩ dX9_feed_1 (fun x_1 ex_1 lx_1 ux_1 => ?_)
  have fx_1 := ex_1.symm
  refine lv_bipush (v := 20) hx hb dX9_feed_4 (by decide) ?_
  refine lv_iadd hx hb dX9_feed_6 ?_
  have rg_2 := i32_r x_1
  refine lv_topi (fun x_3 ex_3 => ?_)
  have zx_3 : x_3.toInt = x_1.toInt + 20 := by rw [ex_3]; exact i32_add rfl (by decide) (by omega) (by omega)
  refine lv_sipush (v := 400) hx hb dX9_feed_7 (by decide) ?_
  refine hb_icmp_le (zx := x_3.toInt) (zy := 400) (tgt := 15) hx hb rfl (by decide) dX9_feed_10 (by decide) (fun c_4 => ?_) (fun c_4 => ?_)
  · skip
    refine lv_aload_n hx hb dX9_feed_15 rfl (lv_at hl 0 rfl) ?_
    refine lv_iload_n hx hb dX9_feed_16 rfl (lv_at hl 1 rfl) ?_
    refine hx_gov (hx_runV (As := [.int i1]) (rest := []) ⟨hx, hb, hml, hown, hts⟩ hW gx tt_9 (T := TX9) (N := 20) rfl (t_X9_feedBytes l dC dI dA L h s.heap.size x i1 hT gx) (cwV 1 hts (hx_gV kw_442 kw_439 kw_441 kw_0 kw_94) rfl rfl rfl (by decide +kernel) ⟨Nat.le_of_ble_eq_true rfl, Nat.le_of_ble_eq_true rfl⟩) rfl hl.1 rfl (Nat.le_of_ble_eq_true rfl) dX9_feed_17 ⟨Nat.le_of_ble_eq_true rfl, Nat.le_of_ble_eq_true rfl⟩) hW (fun L_5 h_6 H locs p_8 hW => ?_)
    obtain ⟨hT, hs⟩ := p_8
    have hT : hx_T T_tb L_5 h_6 := hT
    have hs : hx_S T_tb [(9, 1), (42, 0)] L h L_5 h_6 := hs
    have hM := hM.tr (hs.mono (by decide))
    have gx := gx.S hs
    refine lv_aload_n hx hb dX9_feed_20 rfl (lv_at hl 0 rfl) ?_
    refine lv_iload_n hx hb dX9_feed_21 rfl (lv_at hl 2 rfl) ?_
    refine hx_gov (hx_runV (As := [.int i2]) (rest := []) ⟨hx, hb, hml, hown, hts⟩ hW gx tt_9 (T := TX9) (N := 20) rfl (t_X9_feedBytes l dC dI dA L_5 h_6 H.size x i2 hT gx) (cwV 1 hts (hx_gV kw_442 kw_439 kw_441 kw_0 kw_94) rfl rfl rfl (by decide +kernel) ⟨Nat.le_of_ble_eq_true rfl, Nat.le_of_ble_eq_true rfl⟩) rfl hl.1 rfl (Nat.le_of_ble_eq_true rfl) dX9_feed_22 ⟨Nat.le_of_ble_eq_true rfl, Nat.le_of_ble_eq_true rfl⟩) hW (fun L_10 h_11 H locs p_13 hW => ?_)
    obtain ⟨hT, hs⟩ := p_13
    have hT : hx_T T_tb L_10 h_11 := hT
    have hs : hx_S T_tb [(9, 1), (42, 0)] L_5 h_6 L_10 h_11 := hs
    have hM := hM.tr (hs.mono (by decide))
    have gx := gx.S hs
    refine lv_aload_n hx hb dX9_feed_25 rfl (lv_at hl 0 rfl) ?_
    refine lv_iload_n hx hb dX9_feed_26 rfl (lv_at hl 3 rfl) ?_
    refine hx_gov (hx_runV (As := [.int i3]) (rest := []) ⟨hx, hb, hml, hown, hts⟩ hW gx tt_9 (T := TX9) (N := 20) rfl (t_X9_feedBytes l dC dI dA L_10 h_11 H.size x i3 hT gx) (cwV 1 hts (hx_gV kw_442 kw_439 kw_441 kw_0 kw_94) rfl rfl rfl (by decide +kernel) ⟨Nat.le_of_ble_eq_true rfl, Nat.le_of_ble_eq_true rfl⟩) rfl hl.1 rfl (Nat.le_of_ble_eq_true rfl) dX9_feed_27 ⟨Nat.le_of_ble_eq_true rfl, Nat.le_of_ble_eq_true rfl⟩) hW (fun L_15 h_16 H locs p_18 hW => ?_)
    obtain ⟨hT, hs⟩ := p_18
    have hT : hx_T T_tb L_15 h_16 := hT
    have hs : hx_S T_tb [(9, 1), (42, 0)] L_10 h_11 L_15 h_16 := hs
    have hM := hM.tr (hs.mono (by decide))
    have gx := gx.S hs
    refine lv_aload_n hx hb dX9_feed_30 rfl (lv_at hl 0 rfl) ?_
    refine lv_iload hx hb dX9_feed_31 (lv_at hl 4 rfl) ?_
    refine hx_gov (hx_runV (As := [.int i4]) (rest := []) ⟨hx, hb, hml, hown, hts⟩ hW gx tt_9 (T := TX9) (N := 20) rfl (t_X9_feedBytes l dC dI dA L_15 h_16 H.size x i4 hT gx) (cwV 1 hts (hx_gV kw_442 kw_439 kw_441 kw_0 kw_94) rfl rfl rfl (by decide +kernel) ⟨Nat.le_of_ble_eq_true rfl, Nat.le_of_ble_eq_true rfl⟩) rfl hl.1 rfl (Nat.le_of_ble_eq_true rfl) dX9_feed_33 ⟨Nat.le_of_ble_eq_true rfl, Nat.le_of_ble_eq_true rfl⟩) hW (fun L_20 h_21 H locs p_23 hW => ?_)
    obtain ⟨hT, hs⟩ := p_23
    have hT : hx_T T_tb L_20 h_21 := hT
    have hs : hx_S T_tb [(9, 1), (42, 0)] L_15 h_16 L_20 h_21 := hs
    have hM := hM.tr (hs.mono (by decide))
    have gx := gx.S hs
    refine lv_aload_n hx hb dX9_feed_36 rfl (lv_at hl 0 rfl) ?_
    refine lv_iload hx hb dX9_feed_37 (lv_at hl 5 rfl) ?_
    refine hx_gov (hx_runV (As := [.int i5]) (rest := []) ⟨hx, hb, hml, hown, hts⟩ hW gx tt_9 (T := TX9) (N := 20) rfl (t_X9_feedBytes l dC dI dA L_20 h_21 H.size x i5 hT gx) (cwV 1 hts (hx_gV kw_442 kw_439 kw_441 kw_0 kw_94) rfl rfl rfl (by decide +kernel) ⟨Nat.le_of_ble_eq_true rfl, Nat.le_of_ble_eq_true rfl⟩) rfl hl.1 rfl (Nat.le_of_ble_eq_true rfl) dX9_feed_39 ⟨Nat.le_of_ble_eq_true rfl, Nat.le_of_ble_eq_true rfl⟩) hW (fun L_25 h_26 H locs p_28 hW => ?_)
    obtain ⟨hT, hs⟩ := p_28
    have hT : hx_T T_tb L_25 h_26 := hT
    have hs : hx_S T_tb [(9, 1), (42, 0)] L_20 h_21 L_25 h_26 := hs
    have hM := hM.tr (hs.mono (by decide))
    have gx := gx.S hs
    refine lv_aload_n hx hb dX9_feed_42 rfl (lv_at hl 0 rfl) ?_
    refine hx_geti hx hb hts hC_9 hown hW hT gx tt_9 1 (by decide) rfl kw_365 ⟨rfl, rfl, rfl⟩ dX9_feed_43 (fun x_30 ex_30 lx_30 ux_30 => ?_)
    have fx_30 := ex_30.symm
    exact hx_reti hx hb hr hlk hW ⟨trivial, hT, hM⟩ dX9_feed_46
  · skip
    refine lv_iconst (v := -1) hx hb dX9_feed_13 (by decide) ?_
    exact hx_reti hx hb hr hlk hW ⟨trivial, hT, hM⟩ dX9_feed_14

theorem dX9_end_0 : decode cX9_end 0 = .ok (.iload_n 1, 1) := by decide +kernel
theorem dX9_end_1 : decode cX9_end 1 = .ok (.ifCond .lt 11, 3) := by decide +kernel
theorem dX9_end_4 : decode cX9_end 4 = .ok (.iload_n 1, 1) := by decide +kernel
theorem dX9_end_5 : decode cX9_end 5 = .ok (.aload_n 0, 1) := by decide +kernel
theorem dX9_end_6 : decode cX9_end 6 = .ok (.getfield 98, 3) := by decide +kernel
theorem dX9_end_9 : decode cX9_end 9 = .ok (.if_icmp .le 5, 3) := by decide +kernel
theorem dX9_end_12 : decode cX9_end 12 = .ok (.iconst (-1), 1) := by decide +kernel
theorem dX9_end_13 : decode cX9_end 13 = .ok (.ireturn, 1) := by decide +kernel
theorem dX9_end_14 : decode cX9_end 14 = .ok (.aload_n 0, 1) := by decide +kernel
theorem dX9_end_15 : decode cX9_end 15 = .ok (.iload_n 1, 1) := by decide +kernel
theorem dX9_end_16 : decode cX9_end 16 = .ok (.putfield 98, 3) := by decide +kernel
theorem dX9_end_19 : decode cX9_end 19 = .ok (.iload_n 1, 1) := by decide +kernel
theorem dX9_end_20 : decode cX9_end 20 = .ok (.ireturn, 1) := by decide +kernel
set_option maxHeartbeats 4000000 in
set_option maxRecDepth 100000 in
theorem t_X9_end (l : Launch) (dC : Nat → ClassId) (dI : Nat → Nat → Nat) (dA : Nat → ClassId) (L : List Nat) (h : hx_h) (sz : Nat) (x : Nat) (i1 : Int32) (hT : hx_T T_tb L h) (gx : hx_g L h x 9)  : Met l yX9_end (Cond.code yX9_end cX9_end 2 (some .int) :: hx_all) ({ frames := 0, cells := 0, slots := 0, locals := 0 }) (va_Pc [.ref x, .int i1] (hx_B T_tb (P_ty dA) (dC, dI) vwCl L h sz)) (va_Qi (fun (r : Int32) (u : List Nat × hx_h) => (True) ∧ hx_T T_tb u.1 u.2 ∧ hx_S T_tb [(9, 1)] L h u.1 u.2) (hx_E T_tb (P_ty dA) (dC, dI) vwCl (hx_A L sz)) (hx_A L sz)) 0 0 (hx_A L sz) := by
  refine hx_met (lv := [(0, .ref x), (1, .int i1)]) (by decide +kernel) rfl (Nat.le_of_ble_eq_true rfl) rfl ?_
  intro p e s m below meth c hx hb hml hr hlk hts0 hown hin hsz hW ls hl
  have hts : ∀ w ∈ hx_all, w.before _ s = true := fun w hw => hts0 w (List.mem_cons_of_mem _ hw)
  have hown : s.vm.findClass "SmallCourt" = some m.cls := hown
  have hM : hx_S T_tb [(9, 1)] L h L h := hx_S.rf
  refine lv_iload_n hx hb dX9_end_0 rfl (lv_at hl 1 rfl) ?_
  refine hb_if_lt (zx := i1.toInt) (tgt := 12) hx hb rfl dX9_end_1 (by decide) (fun c_1 => ?_) (fun c_1 => ?_)
  · skip
    refine lv_iconst (v := -1) hx hb dX9_end_12 (by decide) ?_
    exact hx_reti hx hb hr hlk hW ⟨trivial, hT, hM⟩ dX9_end_13
  · skip
    refine lv_iload_n hx hb dX9_end_4 rfl (lv_at hl 1 rfl) ?_
    refine lv_aload_n hx hb dX9_end_5 rfl (lv_at hl 0 rfl) ?_
    refine hx_geti hx hb hts hC_9 hown hW hT gx tt_9 1 (by decide) rfl kw_365 ⟨rfl, rfl, rfl⟩ dX9_end_6 (fun x_2 ex_2 lx_2 ux_2 => ?_)
    have fx_2 := ex_2.symm
    refine hb_icmp_le (zx := i1.toInt) (zy := x_2.toInt) (tgt := 14) hx hb rfl rfl dX9_end_9 (by decide) (fun c_3 => ?_) (fun c_3 => ?_)
    · skip
      refine lv_aload_n hx hb dX9_end_14 rfl (lv_at hl 0 rfl) ?_
      refine lv_iload_n hx hb dX9_end_15 rfl (lv_at hl 1 rfl) ?_
      refine hx_puti hx hb hts hC_9 hown hW hT (hx_S.rf (M := [(9, 1)])) gx tt_9 1 (by decide) rfl kw_365 ⟨rfl, rfl, rfl⟩ rfl (x := i1) ⟨by omega, by omega⟩ rfl rfl rfl (List.mem_singleton.mpr rfl) dX9_end_16 (fun H locs h_4 eh_4 hW hT hs => ?_)
      have hM := hM.tr (hs.mono (by decide))
      have gx := gx.S hs
      have f_5 : h_4.2.1 x 1 = i1 := by rw [eh_4]; exact hx_pi_at _ _ _ _
      refine lv_iload_n hx hb dX9_end_19 rfl (lv_at hl 1 rfl) ?_
      exact hx_reti hx hb hr hlk hW ⟨trivial, hT, hM⟩ dX9_end_20
    · skip
      refine lv_iconst (v := -1) hx hb dX9_end_12 (by decide) ?_
      exact hx_reti hx hb hr hlk hW ⟨trivial, hT, hM⟩ dX9_end_13

theorem dX9_anew_0 : decode cX9_anew 0 = .ok (.aload_n 0, 1) := by decide +kernel
theorem dX9_anew_1 : decode cX9_anew 1 = .ok (.iload_n 1, 1) := by decide +kernel
theorem dX9_anew_2 : decode cX9_anew 2 = .ok (.invokevirtual 144, 3) := by decide +kernel
theorem dX9_anew_5 : decode cX9_anew 5 = .ok (.astore 6, 2) := by decide +kernel
theorem dX9_anew_7 : decode cX9_anew 7 = .ok (.aload 6, 2) := by decide +kernel
theorem dX9_anew_9 : decode cX9_anew 9 = .ok (.ifnull 23, 3) := by decide +kernel
theorem dX9_anew_12 : decode cX9_anew 12 = .ok (.aload 6, 2) := by decide +kernel
theorem dX9_anew_14 : decode cX9_anew 14 = .ok (.getfield 148, 3) := by decide +kernel
theorem dX9_anew_17 : decode cX9_anew 17 = .ok (.ifCond .ne 15, 3) := by decide +kernel
theorem dX9_anew_20 : decode cX9_anew 20 = .ok (.iload_n 2, 1) := by decide +kernel
theorem dX9_anew_21 : decode cX9_anew 21 = .ok (.iload_n 3, 1) := by decide +kernel
theorem dX9_anew_22 : decode cX9_anew 22 = .ok (.iload 4, 2) := by decide +kernel
theorem dX9_anew_24 : decode cX9_anew 24 = .ok (.iload 5, 2) := by decide +kernel
theorem dX9_anew_26 : decode cX9_anew 26 = .ok (.invokestatic 132, 3) := by decide +kernel
theorem dX9_anew_29 : decode cX9_anew 29 = .ok (.ifCond .ne 5, 3) := by decide +kernel
theorem dX9_anew_32 : decode cX9_anew 32 = .ok (.iconst 0, 1) := by decide +kernel
theorem dX9_anew_33 : decode cX9_anew 33 = .ok (.ireturn, 1) := by decide +kernel
theorem dX9_anew_34 : decode cX9_anew 34 = .ok (.aload 6, 2) := by decide +kernel
theorem dX9_anew_36 : decode cX9_anew 36 = .ok (.iload_n 2, 1) := by decide +kernel
theorem dX9_anew_37 : decode cX9_anew 37 = .ok (.iload_n 3, 1) := by decide +kernel
theorem dX9_anew_38 : decode cX9_anew 38 = .ok (.iload 4, 2) := by decide +kernel
theorem dX9_anew_40 : decode cX9_anew 40 = .ok (.iload 5, 2) := by decide +kernel
theorem dX9_anew_42 : decode cX9_anew 42 = .ok (.invokevirtual 139, 3) := by decide +kernel
theorem dX9_anew_45 : decode cX9_anew 45 = .ok (.iconst 1, 1) := by decide +kernel
theorem dX9_anew_46 : decode cX9_anew 46 = .ok (.ireturn, 1) := by decide +kernel
set_option maxHeartbeats 4000000 in
set_option maxRecDepth 100000 in
theorem t_X9_anew (l : Launch) (dC : Nat → ClassId) (dI : Nat → Nat → Nat) (dA : Nat → ClassId) (L : List Nat) (h : hx_h) (sz : Nat) (x : Nat) (i1 : Int32) (i2 : Int32) (i3 : Int32) (i4 : Int32) (i5 : Int32) (hT : hx_T T_tb L h) (gx : hx_g L h x 9) (qp : Nat) (gqp : hx_g L h qp 44) (f_x_7 : h.2.2 x 7 = some qp) (pf_x_8 : ∀ j : Nat, (j : Int) < (h.2.1 x 8).toInt → h.2.2 qp j ≠ none) : Met l yX9_anew (Cond.code yX9_anew cX9_anew 7 (some .boolean) :: hx_all) ({ frames := 2, cells := 0, slots := 0, locals := 45 }) (va_Pc [.ref x, .int i1, .int i2, .int i3, .int i4, .int i5] (hx_B T_tb (P_ty dA) (dC, dI) vwCl L h sz)) (va_Qi (fun (r : Int32) (u : List Nat × hx_h) => (r.toInt = 0 ∨ r.toInt = 1) ∧ hx_T T_tb u.1 u.2 ∧ hx_S T_tb [(4, 3), (4, 4), (4, 5), (4, 6)] L h u.1 u.2) (hx_E T_tb (P_ty dA) (dC, dI) vwCl (hx_A L sz)) (hx_A L sz)) 0 0 (hx_A L sz) := by
  refine hx_met (lv := [(0, .ref x), (1, .int i1), (2, .int i2), (3, .int i3), (4, .int i4), (5, .int i5)]) (by decide +kernel) rfl (Nat.le_of_ble_eq_true rfl) rfl ?_
  intro p e s m below meth c hx hb hml hr hlk hts0 hown hin hsz hW ls hl
  have hts : ∀ w ∈ hx_all, w.before _ s = true := fun w hw => hts0 w (List.mem_cons_of_mem _ hw)
  have hown : s.vm.findClass "SmallCourt" = some m.cls := hown
  have hM : hx_S T_tb [(4, 3), (4, 4), (4, 5), (4, 6)] L h L h := hx_S.rf
  refine lv_aload_n hx hb dX9_anew_0 rfl (lv_at hl 0 rfl) ?_
  refine lv_iload_n hx hb dX9_anew_1 rfl (lv_at hl 1 rfl) ?_
  refine hx_goq (hx_runV (As := [.int i1]) (rest := []) ⟨hx, hb, hml, hown, hts⟩ hW gx tt_9 (T := TX9) (N := 20) rfl (t_X9_personAt l dC dI dA L h s.heap.size x i1 hT gx qp gqp f_x_7 pf_x_8) (cwV 1 hts (hx_gV kw_659 kw_656 kw_658 kw_20 kw_94) rfl rfl rfl (by decide +kernel) ⟨Nat.le_of_ble_eq_true rfl, Nat.le_of_ble_eq_true rfl⟩) rfl hl.1 rfl (Nat.le_of_ble_eq_true rfl) dX9_anew_2 ⟨Nat.le_of_ble_eq_true rfl, Nat.le_of_ble_eq_true rfl⟩) hW (fun r_3 L_1 h_2 H locs p_4 hW => ?_)
  obtain ⟨hr_5, hT, hs⟩ := p_4
  have hT : hx_T T_tb L_1 h_2 := hT
  have hs : hx_S T_tb [] L h L_1 h_2 := hs
  have f_x_7 := (hs.o gx trivial rfl).2.trans f_x_7
  have pf_x_8 : ∀ j : Nat, (j : Int) < (h_2.2.1 x 8).toInt → h_2.2.2 qp j ≠ none := by
    intro j hj; rw [(hs.o gx trivial rfl).1] at hj; rw [(hs.a gqp rfl j).2]; exact pf_x_8 j hj
  have hM := hM.tr (hs.mono (by decide))
  have gx := gx.S hs
  have gqp := gqp.S hs
  have hr_5 : ∀ q, r_3 = some q → hx_g L_1 h_2 q 4 := hr_5
  rcases r_3 with _ | q_6
  · skip
    refine lv_astoreN (lv' := [(6, .null), (0, .ref x), (1, .int i1), (2, .int i2), (3, .int i3), (4, .int i4), (5, .int i5)]) hx hb dX9_anew_5 hl (by decide) rfl (fun ls hl => ?_)
    refine lv_aloadN hx hb dX9_anew_7 (lv_at hl 0 rfl) ?_
    refine lv_ifnullN (tgt := 32) hx hb dX9_anew_9 (by decide) ?_
    refine lv_iconst (v := 0) hx hb dX9_anew_32 (by decide) ?_
    exact hx_retz hx hb hr rfl hlk hW ⟨(by decide), hT, hM⟩ dX9_anew_33
  · have gq_6 := hr_5 _ rfl
    refine lv_astore (lv' := [(6, .ref q_6), (0, .ref x), (1, .int i1), (2, .int i2), (3, .int i3), (4, .int i4), (5, .int i5)]) hx hb dX9_anew_5 hl (by decide) rfl (fun ls hl => ?_)
    refine lv_aload hx hb dX9_anew_7 (lv_at hl 0 rfl) ?_
    refine lv_ifnull hx hb dX9_anew_9 ?_
    refine lv_aload hx hb dX9_anew_12 (lv_at hl 0 rfl) ?_
    refine hx_geti hx hb hts hC_4 hown hW hT gq_6 tt_4 7 (by decide) rfl kw_623 ⟨rfl, rfl, rfl⟩ dX9_anew_14 (fun x_7 ex_7 lx_7 ux_7 => ?_)
    have fx_7 := ex_7.symm
    refine hb_if_ne (zx := x_7.toInt) (tgt := 32) hx hb rfl dX9_anew_17 (by decide) (fun c_8 => ?_) (fun c_8 => ?_)
    · skip
      refine lv_iconst (v := 0) hx hb dX9_anew_32 (by decide) ?_
      exact hx_retz hx hb hr rfl hlk hW ⟨(by decide), hT, hM⟩ dX9_anew_33
    · skip
      refine lv_iload_n hx hb dX9_anew_20 rfl (lv_at hl 3 rfl) ?_
      refine lv_iload_n hx hb dX9_anew_21 rfl (lv_at hl 4 rfl) ?_
      refine lv_iload hx hb dX9_anew_22 (lv_at hl 5 rfl) ?_
      refine lv_iload hx hb dX9_anew_24 (lv_at hl 6 rfl) ?_
      refine hx_goi (hx_runS (As := [.int i2, .int i3, .int i4, .int i5]) (rest := []) ⟨hx, hb, hml, hown, hts⟩ hW (t_X9_isHousehold l dC dI dA L_1 h_2 H.size i2 i3 i4 i5 hT) (va_cwS 4 hts (hx_gS kw_604 kw_602 kw_603 kw_94) rfl rfl rfl (by decide +kernel) ⟨Nat.le_of_ble_eq_true rfl, Nat.le_of_ble_eq_true rfl⟩) rfl hl.1 rfl (Nat.le_of_ble_eq_true rfl) dX9_anew_26 ⟨Nat.le_of_ble_eq_true rfl, Nat.le_of_ble_eq_true rfl⟩) hW (fun r_11 L_9 h_10 H locs p_12 hW => ?_)
      obtain ⟨hr_13, hT, hs⟩ := p_12
      have hT : hx_T T_tb L_9 h_10 := hT
      have hs : hx_S T_tb [] L_1 h_2 L_9 h_10 := hs
      have f_x_7 := (hs.o gx trivial rfl).2.trans f_x_7
      have fx_7 := (hs.o gq_6 trivial rfl).1.trans fx_7
      have pf_x_8 : ∀ j : Nat, (j : Int) < (h_10.2.1 x 8).toInt → h_10.2.2 qp j ≠ none := by
        intro j hj; rw [(hs.o gx trivial rfl).1] at hj; rw [(hs.a gqp rfl j).2]; exact pf_x_8 j hj
      have hM := hM.tr (hs.mono (by decide))
      have gx := gx.S hs
      have gqp := gqp.S hs
      have gq_6 := gq_6.S hs
      refine hb_if_ne (zx := r_11.toInt) (tgt := 34) hx hb rfl dX9_anew_29 (by decide) (fun c_14 => ?_) (fun c_14 => ?_)
      · skip
        refine lv_aload hx hb dX9_anew_34 (lv_at hl 0 rfl) ?_
        refine lv_iload_n hx hb dX9_anew_36 rfl (lv_at hl 3 rfl) ?_
        refine lv_iload_n hx hb dX9_anew_37 rfl (lv_at hl 4 rfl) ?_
        refine lv_iload hx hb dX9_anew_38 (lv_at hl 5 rfl) ?_
        refine lv_iload hx hb dX9_anew_40 (lv_at hl 6 rfl) ?_
        refine hx_gov (hx_runV (As := [.int i2, .int i3, .int i4, .int i5]) (rest := []) ⟨hx, hb, hml, hown, hts⟩ hW gq_6 tt_4 (T := TX4) (N := 10) rfl (t_X4_tell l dC dI dA L_9 h_10 H.size q_6 i2 i3 i4 i5 hT gq_6) (cwV 4 hts (hx_gV kw_651 kw_648 kw_649 kw_650 kw_108) rfl rfl rfl (by decide +kernel) ⟨Nat.le_of_ble_eq_true rfl, Nat.le_of_ble_eq_true rfl⟩) rfl hl.1 rfl (Nat.le_of_ble_eq_true rfl) dX9_anew_42 ⟨Nat.le_of_ble_eq_true rfl, Nat.le_of_ble_eq_true rfl⟩) hW (fun L_15 h_16 H locs p_18 hW => ?_)
        obtain ⟨hT, hs⟩ := p_18
        have hT : hx_T T_tb L_15 h_16 := hT
        have hs : hx_S T_tb [(4, 3), (4, 4), (4, 5), (4, 6)] L_9 h_10 L_15 h_16 := hs
        have f_x_7 := (hs.o gx trivial rfl).2.trans f_x_7
        have fx_7 := (hs.o gq_6 trivial rfl).1.trans fx_7
        have pf_x_8 : ∀ j : Nat, (j : Int) < (h_16.2.1 x 8).toInt → h_16.2.2 qp j ≠ none := by
          intro j hj; rw [(hs.o gx trivial rfl).1] at hj; rw [(hs.a gqp rfl j).2]; exact pf_x_8 j hj
        have hM := hM.tr (hs.mono (by decide))
        have gx := gx.S hs
        have gqp := gqp.S hs
        have gq_6 := gq_6.S hs
        refine lv_iconst (v := 1) hx hb dX9_anew_45 (by decide) ?_
        exact hx_retz hx hb hr rfl hlk hW ⟨(by decide), hT, hM⟩ dX9_anew_46
      · skip
        refine lv_iconst (v := 0) hx hb dX9_anew_32 (by decide) ?_
        exact hx_retz hx hb hr rfl hlk hW ⟨(by decide), hT, hM⟩ dX9_anew_33

theorem dX9_dies_0 : decode cX9_dies 0 = .ok (.aload_n 0, 1) := by decide +kernel
theorem dX9_dies_1 : decode cX9_dies 1 = .ok (.iload_n 1, 1) := by decide +kernel
theorem dX9_dies_2 : decode cX9_dies 2 = .ok (.invokevirtual 144, 3) := by decide +kernel
theorem dX9_dies_5 : decode cX9_dies 5 = .ok (.astore_n 2, 1) := by decide +kernel
theorem dX9_dies_6 : decode cX9_dies 6 = .ok (.aload_n 2, 1) := by decide +kernel
theorem dX9_dies_7 : decode cX9_dies 7 = .ok (.ifnull 10, 3) := by decide +kernel
theorem dX9_dies_10 : decode cX9_dies 10 = .ok (.aload_n 2, 1) := by decide +kernel
theorem dX9_dies_11 : decode cX9_dies 11 = .ok (.getfield 148, 3) := by decide +kernel
theorem dX9_dies_14 : decode cX9_dies 14 = .ok (.ifCond .eq 5, 3) := by decide +kernel
theorem dX9_dies_17 : decode cX9_dies 17 = .ok (.iconst 0, 1) := by decide +kernel
theorem dX9_dies_18 : decode cX9_dies 18 = .ok (.ireturn, 1) := by decide +kernel
theorem dX9_dies_19 : decode cX9_dies 19 = .ok (.aload_n 2, 1) := by decide +kernel
theorem dX9_dies_20 : decode cX9_dies 20 = .ok (.iconst 1, 1) := by decide +kernel
theorem dX9_dies_21 : decode cX9_dies 21 = .ok (.putfield 148, 3) := by decide +kernel
theorem dX9_dies_24 : decode cX9_dies 24 = .ok (.iconst 1, 1) := by decide +kernel
theorem dX9_dies_25 : decode cX9_dies 25 = .ok (.ireturn, 1) := by decide +kernel
set_option maxHeartbeats 4000000 in
set_option maxRecDepth 100000 in
theorem t_X9_dies (l : Launch) (dC : Nat → ClassId) (dI : Nat → Nat → Nat) (dA : Nat → ClassId) (L : List Nat) (h : hx_h) (sz : Nat) (x : Nat) (i1 : Int32) (hT : hx_T T_tb L h) (gx : hx_g L h x 9) (qp : Nat) (gqp : hx_g L h qp 44) (f_x_7 : h.2.2 x 7 = some qp) (pf_x_8 : ∀ j : Nat, (j : Int) < (h.2.1 x 8).toInt → h.2.2 qp j ≠ none) : Met l yX9_dies (Cond.code yX9_dies cX9_dies 3 (some .boolean) :: hx_all) ({ frames := 1, cells := 0, slots := 0, locals := 21 }) (va_Pc [.ref x, .int i1] (hx_B T_tb (P_ty dA) (dC, dI) vwCl L h sz)) (va_Qi (fun (r : Int32) (u : List Nat × hx_h) => (r.toInt = 0 ∨ r.toInt = 1) ∧ hx_T T_tb u.1 u.2 ∧ hx_S T_tb [(4, 7)] L h u.1 u.2) (hx_E T_tb (P_ty dA) (dC, dI) vwCl (hx_A L sz)) (hx_A L sz)) 0 0 (hx_A L sz) := by
  refine hx_met (lv := [(0, .ref x), (1, .int i1)]) (by decide +kernel) rfl (Nat.le_of_ble_eq_true rfl) rfl ?_
  intro p e s m below meth c hx hb hml hr hlk hts0 hown hin hsz hW ls hl
  have hts : ∀ w ∈ hx_all, w.before _ s = true := fun w hw => hts0 w (List.mem_cons_of_mem _ hw)
  have hown : s.vm.findClass "SmallCourt" = some m.cls := hown
  have hM : hx_S T_tb [(4, 7)] L h L h := hx_S.rf
  refine lv_aload_n hx hb dX9_dies_0 rfl (lv_at hl 0 rfl) ?_
  refine lv_iload_n hx hb dX9_dies_1 rfl (lv_at hl 1 rfl) ?_
  refine hx_goq (hx_runV (As := [.int i1]) (rest := []) ⟨hx, hb, hml, hown, hts⟩ hW gx tt_9 (T := TX9) (N := 20) rfl (t_X9_personAt l dC dI dA L h s.heap.size x i1 hT gx qp gqp f_x_7 pf_x_8) (cwV 1 hts (hx_gV kw_659 kw_656 kw_658 kw_20 kw_94) rfl rfl rfl (by decide +kernel) ⟨Nat.le_of_ble_eq_true rfl, Nat.le_of_ble_eq_true rfl⟩) rfl hl.1 rfl (Nat.le_of_ble_eq_true rfl) dX9_dies_2 ⟨Nat.le_of_ble_eq_true rfl, Nat.le_of_ble_eq_true rfl⟩) hW (fun r_3 L_1 h_2 H locs p_4 hW => ?_)
  obtain ⟨hr_5, hT, hs⟩ := p_4
  have hT : hx_T T_tb L_1 h_2 := hT
  have hs : hx_S T_tb [] L h L_1 h_2 := hs
  have f_x_7 := (hs.o gx trivial rfl).2.trans f_x_7
  have pf_x_8 : ∀ j : Nat, (j : Int) < (h_2.2.1 x 8).toInt → h_2.2.2 qp j ≠ none := by
    intro j hj; rw [(hs.o gx trivial rfl).1] at hj; rw [(hs.a gqp rfl j).2]; exact pf_x_8 j hj
  have hM := hM.tr (hs.mono (by decide))
  have gx := gx.S hs
  have gqp := gqp.S hs
  have hr_5 : ∀ q, r_3 = some q → hx_g L_1 h_2 q 4 := hr_5
  rcases r_3 with _ | q_6
  · skip
    refine lv_astore_nN (lv' := [(2, .null), (0, .ref x), (1, .int i1)]) hx hb dX9_dies_5 rfl hl (by decide) rfl (fun ls hl => ?_)
    refine lv_aload_nN hx hb dX9_dies_6 rfl (lv_at hl 0 rfl) ?_
    refine lv_ifnullN (tgt := 17) hx hb dX9_dies_7 (by decide) ?_
    refine lv_iconst (v := 0) hx hb dX9_dies_17 (by decide) ?_
    exact hx_retz hx hb hr rfl hlk hW ⟨(by decide), hT, hM⟩ dX9_dies_18
  · have gq_6 := hr_5 _ rfl
    refine lv_astore_n (lv' := [(2, .ref q_6), (0, .ref x), (1, .int i1)]) hx hb dX9_dies_5 rfl hl (by decide) rfl (fun ls hl => ?_)
    refine lv_aload_n hx hb dX9_dies_6 rfl (lv_at hl 0 rfl) ?_
    refine lv_ifnull hx hb dX9_dies_7 ?_
    refine lv_aload_n hx hb dX9_dies_10 rfl (lv_at hl 0 rfl) ?_
    refine hx_geti hx hb hts hC_4 hown hW hT gq_6 tt_4 7 (by decide) rfl kw_623 ⟨rfl, rfl, rfl⟩ dX9_dies_11 (fun x_7 ex_7 lx_7 ux_7 => ?_)
    have fx_7 := ex_7.symm
    refine hb_if_eq (zx := x_7.toInt) (tgt := 19) hx hb rfl dX9_dies_14 (by decide) (fun c_8 => ?_) (fun c_8 => ?_)
    · skip
      refine lv_aload_n hx hb dX9_dies_19 rfl (lv_at hl 0 rfl) ?_
      refine lv_iconst (v := 1) hx hb dX9_dies_20 (by decide) ?_
      refine hx_puti hx hb hts hC_4 hown hW hT (hx_S.rf (M := [(4, 7)])) gq_6 tt_4 7 (by decide) rfl kw_623 ⟨rfl, rfl, rfl⟩ rfl (x := (1 : Int32)) (by decide) rfl (by decide) (by decide) (List.mem_singleton.mpr rfl) dX9_dies_21 (fun H locs h_9 eh_9 hW hT hs => ?_)
      have f_x_7 := (hs.o gx trivial rfl).2.trans f_x_7
      have pf_x_8 : ∀ j : Nat, (j : Int) < (h_9.2.1 x 8).toInt → h_9.2.2 qp j ≠ none := by
        intro j hj; rw [(hs.o gx trivial rfl).1] at hj; rw [(hs.a gqp rfl j).2]; exact pf_x_8 j hj
      have hM := hM.tr (hs.mono (by decide))
      have gx := gx.S hs
      have gqp := gqp.S hs
      have gq_6 := gq_6.S hs
      have f_10 : h_9.2.1 q_6 7 = (1 : Int32) := by rw [eh_9]; exact hx_pi_at _ _ _ _
      refine lv_iconst (v := 1) hx hb dX9_dies_24 (by decide) ?_
      exact hx_retz hx hb hr rfl hlk hW ⟨(by decide), hT, hM⟩ dX9_dies_25
    · skip
      refine lv_iconst (v := 0) hx hb dX9_dies_17 (by decide) ?_
      exact hx_retz hx hb hr rfl hlk hW ⟨(by decide), hT, hM⟩ dX9_dies_18

theorem dX9_judge_0 : decode cX9_judge 0 = .ok (.aload_n 0, 1) := by decide +kernel
theorem dX9_judge_1 : decode cX9_judge 1 = .ok (.iload_n 1, 1) := by decide +kernel
theorem dX9_judge_2 : decode cX9_judge 2 = .ok (.invokevirtual 144, 3) := by decide +kernel
theorem dX9_judge_5 : decode cX9_judge 5 = .ok (.astore_n 3, 1) := by decide +kernel
theorem dX9_judge_6 : decode cX9_judge 6 = .ok (.aload_n 3, 1) := by decide +kernel
theorem dX9_judge_7 : decode cX9_judge 7 = .ok (.ifnull 11, 3) := by decide +kernel
theorem dX9_judge_10 : decode cX9_judge 10 = .ok (.aload_n 3, 1) := by decide +kernel
theorem dX9_judge_11 : decode cX9_judge 11 = .ok (.getfield 152, 3) := by decide +kernel
theorem dX9_judge_14 : decode cX9_judge 14 = .ok (.iload_n 2, 1) := by decide +kernel
theorem dX9_judge_15 : decode cX9_judge 15 = .ok (.if_icmp .ne 5, 3) := by decide +kernel
theorem dX9_judge_18 : decode cX9_judge 18 = .ok (.iconst 0, 1) := by decide +kernel
theorem dX9_judge_19 : decode cX9_judge 19 = .ok (.ireturn, 1) := by decide +kernel
theorem dX9_judge_20 : decode cX9_judge 20 = .ok (.aload_n 3, 1) := by decide +kernel
theorem dX9_judge_21 : decode cX9_judge 21 = .ok (.iload_n 2, 1) := by decide +kernel
theorem dX9_judge_22 : decode cX9_judge 22 = .ok (.putfield 152, 3) := by decide +kernel
theorem dX9_judge_25 : decode cX9_judge 25 = .ok (.aload_n 3, 1) := by decide +kernel
theorem dX9_judge_26 : decode cX9_judge 26 = .ok (.iconst 1, 1) := by decide +kernel
theorem dX9_judge_27 : decode cX9_judge 27 = .ok (.putfield 155, 3) := by decide +kernel
theorem dX9_judge_30 : decode cX9_judge 30 = .ok (.iconst 1, 1) := by decide +kernel
theorem dX9_judge_31 : decode cX9_judge 31 = .ok (.ireturn, 1) := by decide +kernel
set_option maxHeartbeats 4000000 in
set_option maxRecDepth 100000 in
theorem t_X9_judge (l : Launch) (dC : Nat → ClassId) (dI : Nat → Nat → Nat) (dA : Nat → ClassId) (L : List Nat) (h : hx_h) (sz : Nat) (x : Nat) (i1 : Int32) (i2 : Int32) (hT : hx_T T_tb L h) (gx : hx_g L h x 9) (hi2 : i2.toInt = 0 ∨ i2.toInt = 1) (qp : Nat) (gqp : hx_g L h qp 44) (f_x_7 : h.2.2 x 7 = some qp) (pf_x_8 : ∀ j : Nat, (j : Int) < (h.2.1 x 8).toInt → h.2.2 qp j ≠ none) : Met l yX9_judge (Cond.code yX9_judge cX9_judge 4 (some .boolean) :: hx_all) ({ frames := 1, cells := 0, slots := 0, locals := 21 }) (va_Pc [.ref x, .int i1, .int i2] (hx_B T_tb (P_ty dA) (dC, dI) vwCl L h sz)) (va_Qi (fun (r : Int32) (u : List Nat × hx_h) => (r.toInt = 0 ∨ r.toInt = 1) ∧ hx_T T_tb u.1 u.2 ∧ hx_S T_tb [(4, 8), (4, 9)] L h u.1 u.2) (hx_E T_tb (P_ty dA) (dC, dI) vwCl (hx_A L sz)) (hx_A L sz)) 0 0 (hx_A L sz) := by
  refine hx_met (lv := [(0, .ref x), (1, .int i1), (2, .int i2)]) (by decide +kernel) rfl (Nat.le_of_ble_eq_true rfl) rfl ?_
  intro p e s m below meth c hx hb hml hr hlk hts0 hown hin hsz hW ls hl
  have hts : ∀ w ∈ hx_all, w.before _ s = true := fun w hw => hts0 w (List.mem_cons_of_mem _ hw)
  have hown : s.vm.findClass "SmallCourt" = some m.cls := hown
  have hM : hx_S T_tb [(4, 8), (4, 9)] L h L h := hx_S.rf
  refine lv_aload_n hx hb dX9_judge_0 rfl (lv_at hl 0 rfl) ?_
  refine lv_iload_n hx hb dX9_judge_1 rfl (lv_at hl 1 rfl) ?_
  refine hx_goq (hx_runV (As := [.int i1]) (rest := []) ⟨hx, hb, hml, hown, hts⟩ hW gx tt_9 (T := TX9) (N := 20) rfl (t_X9_personAt l dC dI dA L h s.heap.size x i1 hT gx qp gqp f_x_7 pf_x_8) (cwV 1 hts (hx_gV kw_659 kw_656 kw_658 kw_20 kw_94) rfl rfl rfl (by decide +kernel) ⟨Nat.le_of_ble_eq_true rfl, Nat.le_of_ble_eq_true rfl⟩) rfl hl.1 rfl (Nat.le_of_ble_eq_true rfl) dX9_judge_2 ⟨Nat.le_of_ble_eq_true rfl, Nat.le_of_ble_eq_true rfl⟩) hW (fun r_3 L_1 h_2 H locs p_4 hW => ?_)
  obtain ⟨hr_5, hT, hs⟩ := p_4
  have hT : hx_T T_tb L_1 h_2 := hT
  have hs : hx_S T_tb [] L h L_1 h_2 := hs
  have f_x_7 := (hs.o gx trivial rfl).2.trans f_x_7
  have pf_x_8 : ∀ j : Nat, (j : Int) < (h_2.2.1 x 8).toInt → h_2.2.2 qp j ≠ none := by
    intro j hj; rw [(hs.o gx trivial rfl).1] at hj; rw [(hs.a gqp rfl j).2]; exact pf_x_8 j hj
  have hM := hM.tr (hs.mono (by decide))
  have gx := gx.S hs
  have gqp := gqp.S hs
  have hr_5 : ∀ q, r_3 = some q → hx_g L_1 h_2 q 4 := hr_5
  rcases r_3 with _ | q_6
  · skip
    refine lv_astore_nN (lv' := [(3, .null), (0, .ref x), (1, .int i1), (2, .int i2)]) hx hb dX9_judge_5 rfl hl (by decide) rfl (fun ls hl => ?_)
    refine lv_aload_nN hx hb dX9_judge_6 rfl (lv_at hl 0 rfl) ?_
    refine lv_ifnullN (tgt := 18) hx hb dX9_judge_7 (by decide) ?_
    refine lv_iconst (v := 0) hx hb dX9_judge_18 (by decide) ?_
    exact hx_retz hx hb hr rfl hlk hW ⟨(by decide), hT, hM⟩ dX9_judge_19
  · have gq_6 := hr_5 _ rfl
    refine lv_astore_n (lv' := [(3, .ref q_6), (0, .ref x), (1, .int i1), (2, .int i2)]) hx hb dX9_judge_5 rfl hl (by decide) rfl (fun ls hl => ?_)
    refine lv_aload_n hx hb dX9_judge_6 rfl (lv_at hl 0 rfl) ?_
    refine lv_ifnull hx hb dX9_judge_7 ?_
    refine lv_aload_n hx hb dX9_judge_10 rfl (lv_at hl 0 rfl) ?_
    refine hx_geti hx hb hts hC_4 hown hW hT gq_6 tt_4 8 (by decide) rfl kw_625 ⟨rfl, rfl, rfl⟩ dX9_judge_11 (fun x_7 ex_7 lx_7 ux_7 => ?_)
    have fx_7 := ex_7.symm
    refine lv_iload_n hx hb dX9_judge_14 rfl (lv_at hl 3 rfl) ?_
    refine hb_icmp_ne (zx := x_7.toInt) (zy := i2.toInt) (tgt := 20) hx hb rfl rfl dX9_judge_15 (by decide) (fun c_8 => ?_) (fun c_8 => ?_)
    · skip
      refine lv_aload_n hx hb dX9_judge_20 rfl (lv_at hl 0 rfl) ?_
      refine lv_iload_n hx hb dX9_judge_21 rfl (lv_at hl 3 rfl) ?_
      refine hx_puti hx hb hts hC_4 hown hW hT (hx_S.rf (M := [(4, 8)])) gq_6 tt_4 8 (by decide) rfl kw_625 ⟨rfl, rfl, rfl⟩ rfl (x := i2) ⟨by omega, by omega⟩ rfl (hx_nar01 (by omega)) (hx_fz (by omega)) (List.mem_singleton.mpr rfl) dX9_judge_22 (fun H locs h_9 eh_9 hW hT hs => ?_)
      have f_x_7 := (hs.o gx trivial rfl).2.trans f_x_7
      have pf_x_8 : ∀ j : Nat, (j : Int) < (h_9.2.1 x 8).toInt → h_9.2.2 qp j ≠ none := by
        intro j hj; rw [(hs.o gx trivial rfl).1] at hj; rw [(hs.a gqp rfl j).2]; exact pf_x_8 j hj
      have hM := hM.tr (hs.mono (by decide))
      have gx := gx.S hs
      have gqp := gqp.S hs
      have gq_6 := gq_6.S hs
      have f_10 : h_9.2.1 q_6 8 = i2 := by rw [eh_9]; exact hx_pi_at _ _ _ _
      refine lv_aload_n hx hb dX9_judge_25 rfl (lv_at hl 0 rfl) ?_
      refine lv_iconst (v := 1) hx hb dX9_judge_26 (by decide) ?_
      refine hx_puti hx hb hts hC_4 hown hW hT (hx_S.rf (M := [(4, 9)])) gq_6 tt_4 9 (by decide) rfl kw_626 ⟨rfl, rfl, rfl⟩ rfl (x := (1 : Int32)) (by decide) rfl (by decide) (by decide) (List.mem_singleton.mpr rfl) dX9_judge_27 (fun H locs h_11 eh_11 hW hT hs => ?_)
      have f_x_7 := (hs.o gx trivial rfl).2.trans f_x_7
      have f_10 := (hs.o gq_6 trivial rfl).1.trans f_10
      have pf_x_8 : ∀ j : Nat, (j : Int) < (h_11.2.1 x 8).toInt → h_11.2.2 qp j ≠ none := by
        intro j hj; rw [(hs.o gx trivial rfl).1] at hj; rw [(hs.a gqp rfl j).2]; exact pf_x_8 j hj
      have hM := hM.tr (hs.mono (by decide))
      have gx := gx.S hs
      have gqp := gqp.S hs
      have gq_6 := gq_6.S hs
      have f_12 : h_11.2.1 q_6 9 = (1 : Int32) := by rw [eh_11]; exact hx_pi_at _ _ _ _
      refine lv_iconst (v := 1) hx hb dX9_judge_30 (by decide) ?_
      exact hx_retz hx hb hr rfl hlk hW ⟨(by decide), hT, hM⟩ dX9_judge_31
    · skip
      refine lv_iconst (v := 0) hx hb dX9_judge_18 (by decide) ?_
      exact hx_retz hx hb hr rfl hlk hW ⟨(by decide), hT, hM⟩ dX9_judge_19

theorem dX9_line_0 : decode cX9_line 0 = .ok (.aload_n 0, 1) := by decide +kernel
theorem dX9_line_1 : decode cX9_line 1 = .ok (.getfield 42, 3) := by decide +kernel
theorem dX9_line_4 : decode cX9_line 4 = .ok (.getfield 158, 3) := by decide +kernel
theorem dX9_line_7 : decode cX9_line 7 = .ok (.sipush 400, 3) := by decide +kernel
theorem dX9_line_10 : decode cX9_line 10 = .ok (.if_icmp .ge 46, 3) := by decide +kernel
theorem dX9_line_13 : decode cX9_line 13 = .ok (.aload_n 0, 1) := by decide +kernel
theorem dX9_line_14 : decode cX9_line 14 = .ok (.iload_n 1, 1) := by decide +kernel
theorem dX9_line_15 : decode cX9_line 15 = .ok (.iload_n 2, 1) := by decide +kernel
theorem dX9_line_16 : decode cX9_line 16 = .ok (.invokevirtual 161, 3) := by decide +kernel
theorem dX9_line_19 : decode cX9_line 19 = .ok (.ifCond .eq 37, 3) := by decide +kernel
theorem dX9_line_22 : decode cX9_line 22 = .ok (.iload_n 3, 1) := by decide +kernel
theorem dX9_line_23 : decode cX9_line 23 = .ok (.iconst 0, 1) := by decide +kernel
theorem dX9_line_24 : decode cX9_line 24 = .ok (.aload_n 0, 1) := by decide +kernel
theorem dX9_line_25 : decode cX9_line 25 = .ok (.getfield 94, 3) := by decide +kernel
theorem dX9_line_28 : decode cX9_line 28 = .ok (.invokestatic 128, 3) := by decide +kernel
theorem dX9_line_31 : decode cX9_line 31 = .ok (.ifCond .eq 25, 3) := by decide +kernel
theorem dX9_line_34 : decode cX9_line 34 = .ok (.iload 4, 2) := by decide +kernel
theorem dX9_line_36 : decode cX9_line 36 = .ok (.iconst 0, 1) := by decide +kernel
theorem dX9_line_37 : decode cX9_line 37 = .ok (.iconst 3, 1) := by decide +kernel
theorem dX9_line_38 : decode cX9_line 38 = .ok (.invokestatic 128, 3) := by decide +kernel
theorem dX9_line_41 : decode cX9_line 41 = .ok (.ifCond .eq 15, 3) := by decide +kernel
theorem dX9_line_44 : decode cX9_line 44 = .ok (.iload 5, 2) := by decide +kernel
theorem dX9_line_46 : decode cX9_line 46 = .ok (.iconst 1, 1) := by decide +kernel
theorem dX9_line_47 : decode cX9_line 47 = .ok (.sipush 9999, 3) := by decide +kernel
theorem dX9_line_50 : decode cX9_line 50 = .ok (.invokestatic 128, 3) := by decide +kernel
theorem dX9_line_53 : decode cX9_line 53 = .ok (.ifCond .ne 5, 3) := by decide +kernel
theorem dX9_line_56 : decode cX9_line 56 = .ok (.iconst (-1), 1) := by decide +kernel
theorem dX9_line_57 : decode cX9_line 57 = .ok (.ireturn, 1) := by decide +kernel
theorem dX9_line_58 : decode cX9_line 58 = .ok (.aload_n 0, 1) := by decide +kernel
theorem dX9_line_59 : decode cX9_line 59 = .ok (.getfield 42, 3) := by decide +kernel
theorem dX9_line_62 : decode cX9_line 62 = .ok (.iload_n 1, 1) := by decide +kernel
theorem dX9_line_63 : decode cX9_line 63 = .ok (.iload_n 2, 1) := by decide +kernel
theorem dX9_line_64 : decode cX9_line 64 = .ok (.iload_n 3, 1) := by decide +kernel
theorem dX9_line_65 : decode cX9_line 65 = .ok (.iload 4, 2) := by decide +kernel
theorem dX9_line_67 : decode cX9_line 67 = .ok (.iload 5, 2) := by decide +kernel
theorem dX9_line_69 : decode cX9_line 69 = .ok (.invokevirtual 165, 3) := by decide +kernel
theorem dX9_line_72 : decode cX9_line 72 = .ok (.aload_n 0, 1) := by decide +kernel
theorem dX9_line_73 : decode cX9_line 73 = .ok (.getfield 42, 3) := by decide +kernel
theorem dX9_line_76 : decode cX9_line 76 = .ok (.getfield 158, 3) := by decide +kernel
theorem dX9_line_79 : decode cX9_line 79 = .ok (.ireturn, 1) := by decide +kernel
set_option maxHeartbeats 4000000 in
set_option maxRecDepth 100000 in
theorem t_X9_line (l : Launch) (dC : Nat → ClassId) (dI : Nat → Nat → Nat) (dA : Nat → ClassId) (L : List Nat) (h : hx_h) (sz : Nat) (x : Nat) (i1 : Int32) (i2 : Int32) (i3 : Int32) (i4 : Int32) (i5 : Int32) (hT : hx_T T_tb L h) (gx : hx_g L h x 9) (qp : Nat) (gqp : hx_g L h qp 44) (f_x_7 : h.2.2 x 7 = some qp) (pf_x_8 : ∀ j : Nat, (j : Int) < (h.2.1 x 8).toInt → h.2.2 qp j ≠ none) : Met l yX9_line (Cond.code yX9_line cX9_line 6 (some .int) :: hx_all) ({ frames := 2, cells := 0, slots := 0, locals := 43 }) (va_Pc [.ref x, .int i1, .int i2, .int i3, .int i4, .int i5] (hx_B T_tb (P_ty dA) (dC, dI) vwCl L h sz)) (va_Qi (fun (r : Int32) (u : List Nat × hx_h) => (True) ∧ hx_T T_tb u.1 u.2 ∧ hx_S T_tb [(1, 0), (13, 0), (14, 0), (15, 0), (16, 0), (17, 0), (18, 0)] L h u.1 u.2) (hx_E T_tb (P_ty dA) (dC, dI) vwCl (hx_A L sz)) (hx_A L sz)) 0 0 (hx_A L sz) := by
  refine hx_met (lv := [(0, .ref x), (1, .int i1), (2, .int i2), (3, .int i3), (4, .int i4), (5, .int i5)]) (by decide +kernel) rfl (Nat.le_of_ble_eq_true rfl) rfl ?_
  intro p e s m below meth c hx hb hml hr hlk hts0 hown hin hsz hW ls hl
  have hts : ∀ w ∈ hx_all, w.before _ s = true := fun w hw => hts0 w (List.mem_cons_of_mem _ hw)
  have hown : s.vm.findClass "SmallCourt" = some m.cls := hown
  have hM : hx_S T_tb [(1, 0), (13, 0), (14, 0), (15, 0), (16, 0), (17, 0), (18, 0)] L h L h := hx_S.rf
  refine lv_aload_n hx hb dX9_line_0 rfl (lv_at hl 0 rfl) ?_
  refine hx_getn hx hb hts hC_9 hown hW hT gx tt_9 9 (by decide) rfl kw_373 ⟨rfl, rfl, rfl⟩ dX9_line_1 (fun q_1 fq_1 gq_1 => ?_)
  refine hx_geti hx hb hts hC_1 hown hW hT gq_1 tt_1 0 (by decide) rfl kw_197 ⟨rfl, rfl, rfl⟩ dX9_line_4 (fun x_2 ex_2 lx_2 ux_2 => ?_)
  have fx_2 := ex_2.symm
  refine lv_sipush (v := 400) hx hb dX9_line_7 (by decide) ?_
  refine hb_icmp_ge (zx := x_2.toInt) (zy := 400) (tgt := 56) hx hb rfl (by decide) dX9_line_10 (by decide) (fun c_3 => ?_) (fun c_3 => ?_)
  · skip
    refine lv_iconst (v := -1) hx hb dX9_line_56 (by decide) ?_
    exact hx_reti hx hb hr hlk hW ⟨trivial, hT, hM⟩ dX9_line_57
  · skip
    refine lv_aload_n hx hb dX9_line_13 rfl (lv_at hl 0 rfl) ?_
    refine lv_iload_n hx hb dX9_line_14 rfl (lv_at hl 1 rfl) ?_
    refine lv_iload_n hx hb dX9_line_15 rfl (lv_at hl 2 rfl) ?_
    refine hx_goi (hx_runV (As := [.int i1, .int i2]) (rest := []) ⟨hx, hb, hml, hown, hts⟩ hW gx tt_9 (T := TX9) (N := 20) rfl (t_X9_areTwo l dC dI dA L h s.heap.size x i1 i2 hT gx qp gqp f_x_7 pf_x_8) (cwV 2 hts (hx_gV kw_675 kw_672 kw_674 kw_21 kw_94) rfl rfl rfl (by decide +kernel) ⟨Nat.le_of_ble_eq_true rfl, Nat.le_of_ble_eq_true rfl⟩) rfl hl.1 rfl (Nat.le_of_ble_eq_true rfl) dX9_line_16 ⟨Nat.le_of_ble_eq_true rfl, Nat.le_of_ble_eq_true rfl⟩) hW (fun r_6 L_4 h_5 H locs p_7 hW => ?_)
    obtain ⟨hr_8, hT, hs⟩ := p_7
    have hT : hx_T T_tb L_4 h_5 := hT
    have hs : hx_S T_tb [] L h L_4 h_5 := hs
    have f_x_7 := (hs.o gx trivial rfl).2.trans f_x_7
    have fq_1 := (hs.o gx trivial rfl).2.trans fq_1
    have fx_2 := (hs.o gq_1 trivial rfl).1.trans fx_2
    have pf_x_8 : ∀ j : Nat, (j : Int) < (h_5.2.1 x 8).toInt → h_5.2.2 qp j ≠ none := by
      intro j hj; rw [(hs.o gx trivial rfl).1] at hj; rw [(hs.a gqp rfl j).2]; exact pf_x_8 j hj
    have hM := hM.tr (hs.mono (by decide))
    have gx := gx.S hs
    have gqp := gqp.S hs
    have gq_1 := gq_1.S hs
    refine hb_if_eq (zx := r_6.toInt) (tgt := 56) hx hb rfl dX9_line_19 (by decide) (fun c_9 => ?_) (fun c_9 => ?_)
    · skip
      refine lv_iconst (v := -1) hx hb dX9_line_56 (by decide) ?_
      exact hx_reti hx hb hr hlk hW ⟨trivial, hT, hM⟩ dX9_line_57
    · skip
      refine lv_iload_n hx hb dX9_line_22 rfl (lv_at hl 3 rfl) ?_
      refine lv_iconst (v := 0) hx hb dX9_line_23 (by decide) ?_
      refine lv_aload_n hx hb dX9_line_24 rfl (lv_at hl 0 rfl) ?_
      refine hx_geti hx hb hts hC_9 hown hW hT gx tt_9 2 (by decide) rfl kw_366 ⟨rfl, rfl, rfl⟩ dX9_line_25 (fun x_10 ex_10 lx_10 ux_10 => ?_)
      have fx_10 := ex_10.symm
      have zc_0 : (0 : Int32).toInt = 0 := by decide
      refine hx_goi (hx_runS (As := [.int i3, .int (0 : Int32), .int x_10]) (rest := []) ⟨hx, hb, hml, hown, hts⟩ hW (t_X9_isWithin l dC dI dA L_4 h_5 H.size i3 (0 : Int32) x_10 hT) (va_cwS 3 hts (hx_gS kw_434 kw_432 kw_433 kw_94) rfl rfl rfl (by decide +kernel) ⟨Nat.le_of_ble_eq_true rfl, Nat.le_of_ble_eq_true rfl⟩) rfl hl.1 rfl (Nat.le_of_ble_eq_true rfl) dX9_line_28 ⟨Nat.le_of_ble_eq_true rfl, Nat.le_of_ble_eq_true rfl⟩) hW (fun r_13 L_11 h_12 H locs p_14 hW => ?_)
      obtain ⟨hr_15, hT, hs⟩ := p_14
      have hT : hx_T T_tb L_11 h_12 := hT
      have hs : hx_S T_tb [] L_4 h_5 L_11 h_12 := hs
      have f_x_7 := (hs.o gx trivial rfl).2.trans f_x_7
      have fq_1 := (hs.o gx trivial rfl).2.trans fq_1
      have fx_2 := (hs.o gq_1 trivial rfl).1.trans fx_2
      have fx_10 := (hs.o gx trivial rfl).1.trans fx_10
      have pf_x_8 : ∀ j : Nat, (j : Int) < (h_12.2.1 x 8).toInt → h_12.2.2 qp j ≠ none := by
        intro j hj; rw [(hs.o gx trivial rfl).1] at hj; rw [(hs.a gqp rfl j).2]; exact pf_x_8 j hj
      have hM := hM.tr (hs.mono (by decide))
      have gx := gx.S hs
      have gqp := gqp.S hs
      have gq_1 := gq_1.S hs
      refine hb_if_eq (zx := r_13.toInt) (tgt := 56) hx hb rfl dX9_line_31 (by decide) (fun c_16 => ?_) (fun c_16 => ?_)
      · skip
        refine lv_iconst (v := -1) hx hb dX9_line_56 (by decide) ?_
        exact hx_reti hx hb hr hlk hW ⟨trivial, hT, hM⟩ dX9_line_57
      · skip
        refine lv_iload hx hb dX9_line_34 (lv_at hl 4 rfl) ?_
        refine lv_iconst (v := 0) hx hb dX9_line_36 (by decide) ?_
        refine lv_iconst (v := 3) hx hb dX9_line_37 (by decide) ?_
        have zc_3 : (3 : Int32).toInt = 3 := by decide
        refine hx_goi (hx_runS (As := [.int i4, .int (0 : Int32), .int (3 : Int32)]) (rest := []) ⟨hx, hb, hml, hown, hts⟩ hW (t_X9_isWithin l dC dI dA L_11 h_12 H.size i4 (0 : Int32) (3 : Int32) hT) (va_cwS 3 hts (hx_gS kw_434 kw_432 kw_433 kw_94) rfl rfl rfl (by decide +kernel) ⟨Nat.le_of_ble_eq_true rfl, Nat.le_of_ble_eq_true rfl⟩) rfl hl.1 rfl (Nat.le_of_ble_eq_true rfl) dX9_line_38 ⟨Nat.le_of_ble_eq_true rfl, Nat.le_of_ble_eq_true rfl⟩) hW (fun r_19 L_17 h_18 H locs p_20 hW => ?_)
        obtain ⟨hr_21, hT, hs⟩ := p_20
        have hT : hx_T T_tb L_17 h_18 := hT
        have hs : hx_S T_tb [] L_11 h_12 L_17 h_18 := hs
        have f_x_7 := (hs.o gx trivial rfl).2.trans f_x_7
        have fq_1 := (hs.o gx trivial rfl).2.trans fq_1
        have fx_2 := (hs.o gq_1 trivial rfl).1.trans fx_2
        have fx_10 := (hs.o gx trivial rfl).1.trans fx_10
        have pf_x_8 : ∀ j : Nat, (j : Int) < (h_18.2.1 x 8).toInt → h_18.2.2 qp j ≠ none := by
          intro j hj; rw [(hs.o gx trivial rfl).1] at hj; rw [(hs.a gqp rfl j).2]; exact pf_x_8 j hj
        have hM := hM.tr (hs.mono (by decide))
        have gx := gx.S hs
        have gqp := gqp.S hs
        have gq_1 := gq_1.S hs
        refine hb_if_eq (zx := r_19.toInt) (tgt := 56) hx hb rfl dX9_line_41 (by decide) (fun c_22 => ?_) (fun c_22 => ?_)
        · skip
          refine lv_iconst (v := -1) hx hb dX9_line_56 (by decide) ?_
          exact hx_reti hx hb hr hlk hW ⟨trivial, hT, hM⟩ dX9_line_57
        · skip
          refine lv_iload hx hb dX9_line_44 (lv_at hl 5 rfl) ?_
          refine lv_iconst (v := 1) hx hb dX9_line_46 (by decide) ?_
          refine lv_sipush (v := 9999) hx hb dX9_line_47 (by decide) ?_
          have zc_9999 : (9999 : Int32).toInt = 9999 := by decide
          have zc_1 : (1 : Int32).toInt = 1 := by decide
          refine hx_goi (hx_runS (As := [.int i5, .int (1 : Int32), .int (9999 : Int32)]) (rest := []) ⟨hx, hb, hml, hown, hts⟩ hW (t_X9_isWithin l dC dI dA L_17 h_18 H.size i5 (1 : Int32) (9999 : Int32) hT) (va_cwS 3 hts (hx_gS kw_434 kw_432 kw_433 kw_94) rfl rfl rfl (by decide +kernel) ⟨Nat.le_of_ble_eq_true rfl, Nat.le_of_ble_eq_true rfl⟩) rfl hl.1 rfl (Nat.le_of_ble_eq_true rfl) dX9_line_50 ⟨Nat.le_of_ble_eq_true rfl, Nat.le_of_ble_eq_true rfl⟩) hW (fun r_25 L_23 h_24 H locs p_26 hW => ?_)
          obtain ⟨hr_27, hT, hs⟩ := p_26
          have hT : hx_T T_tb L_23 h_24 := hT
          have hs : hx_S T_tb [] L_17 h_18 L_23 h_24 := hs
          have f_x_7 := (hs.o gx trivial rfl).2.trans f_x_7
          have fq_1 := (hs.o gx trivial rfl).2.trans fq_1
          have fx_2 := (hs.o gq_1 trivial rfl).1.trans fx_2
          have fx_10 := (hs.o gx trivial rfl).1.trans fx_10
          have pf_x_8 : ∀ j : Nat, (j : Int) < (h_24.2.1 x 8).toInt → h_24.2.2 qp j ≠ none := by
            intro j hj; rw [(hs.o gx trivial rfl).1] at hj; rw [(hs.a gqp rfl j).2]; exact pf_x_8 j hj
          have hM := hM.tr (hs.mono (by decide))
          have gx := gx.S hs
          have gqp := gqp.S hs
          have gq_1 := gq_1.S hs
          refine hb_if_ne (zx := r_25.toInt) (tgt := 58) hx hb rfl dX9_line_53 (by decide) (fun c_28 => ?_) (fun c_28 => ?_)
          · skip
            refine lv_aload_n hx hb dX9_line_58 rfl (lv_at hl 0 rfl) ?_
            refine hk_getr hx hb hts hC_9 hown hW gx tt_9 9 (by decide) rfl kw_373 ⟨rfl, rfl, rfl⟩ fq_1 dX9_line_59 ?_
            refine lv_iload_n hx hb dX9_line_62 rfl (lv_at hl 1 rfl) ?_
            refine lv_iload_n hx hb dX9_line_63 rfl (lv_at hl 2 rfl) ?_
            refine lv_iload_n hx hb dX9_line_64 rfl (lv_at hl 3 rfl) ?_
            refine lv_iload hx hb dX9_line_65 (lv_at hl 4 rfl) ?_
            refine lv_iload hx hb dX9_line_67 (lv_at hl 5 rfl) ?_
            refine hx_gov (hx_runV (As := [.int i1, .int i2, .int i3, .int i4, .int i5]) (rest := []) ⟨hx, hb, hml, hown, hts⟩ hW gq_1 tt_1 (T := TX1) (N := 8) rfl (t_X1_addLine l dC dI dA L_23 h_24 H.size q_1 i1 i2 i3 i4 i5 hT gq_1) (cwV 5 hts (hx_gV kw_679 kw_676 kw_677 kw_678 kw_98) rfl rfl rfl (by decide +kernel) ⟨Nat.le_of_ble_eq_true rfl, Nat.le_of_ble_eq_true rfl⟩) rfl hl.1 rfl (Nat.le_of_ble_eq_true rfl) dX9_line_69 ⟨Nat.le_of_ble_eq_true rfl, Nat.le_of_ble_eq_true rfl⟩) hW (fun L_29 h_30 H locs p_32 hW => ?_)
            obtain ⟨hT, hs⟩ := p_32
            have hT : hx_T T_tb L_29 h_30 := hT
            have hs : hx_S T_tb [(1, 0), (13, 0), (14, 0), (15, 0), (16, 0), (17, 0), (18, 0)] L_23 h_24 L_29 h_30 := hs
            have f_x_7 := (hs.o gx trivial rfl).2.trans f_x_7
            have fq_1 := (hs.o gx trivial rfl).2.trans fq_1
            have fx_10 := (hs.o gx trivial rfl).1.trans fx_10
            have pf_x_8 : ∀ j : Nat, (j : Int) < (h_30.2.1 x 8).toInt → h_30.2.2 qp j ≠ none := by
              intro j hj; rw [(hs.o gx trivial rfl).1] at hj; rw [(hs.a gqp rfl j).2]; exact pf_x_8 j hj
            have hM := hM.tr (hs.mono (by decide))
            have gx := gx.S hs
            have gqp := gqp.S hs
            have gq_1 := gq_1.S hs
            refine lv_aload_n hx hb dX9_line_72 rfl (lv_at hl 0 rfl) ?_
            refine hk_getr hx hb hts hC_9 hown hW gx tt_9 9 (by decide) rfl kw_373 ⟨rfl, rfl, rfl⟩ fq_1 dX9_line_73 ?_
            refine hx_geti hx hb hts hC_1 hown hW hT gq_1 tt_1 0 (by decide) rfl kw_197 ⟨rfl, rfl, rfl⟩ dX9_line_76 (fun x_34 ex_34 lx_34 ux_34 => ?_)
            have fx_34 := ex_34.symm
            exact hx_reti hx hb hr hlk hW ⟨trivial, hT, hM⟩ dX9_line_79
          · skip
            refine lv_iconst (v := -1) hx hb dX9_line_56 (by decide) ?_
            exact hx_reti hx hb hr hlk hW ⟨trivial, hT, hM⟩ dX9_line_57

theorem dX9_book_0 : decode cX9_book 0 = .ok (.aload_n 0, 1) := by decide +kernel
theorem dX9_book_1 : decode cX9_book 1 = .ok (.iload_n 1, 1) := by decide +kernel
theorem dX9_book_2 : decode cX9_book 2 = .ok (.iload_n 2, 1) := by decide +kernel
theorem dX9_book_3 : decode cX9_book 3 = .ok (.invokevirtual 161, 3) := by decide +kernel
theorem dX9_book_6 : decode cX9_book 6 = .ok (.ifCond .eq 10, 3) := by decide +kernel
theorem dX9_book_9 : decode cX9_book 9 = .ok (.iload_n 3, 1) := by decide +kernel
theorem dX9_book_10 : decode cX9_book 10 = .ok (.invokestatic 90, 3) := by decide +kernel
theorem dX9_book_13 : decode cX9_book 13 = .ok (.ifCond .ne 6, 3) := by decide +kernel
theorem dX9_book_16 : decode cX9_book 16 = .ok (.ldc 169, 2) := by decide +kernel
theorem dX9_book_18 : decode cX9_book 18 = .ok (.ireturn, 1) := by decide +kernel
theorem dX9_book_19 : decode cX9_book 19 = .ok (.iload 4, 2) := by decide +kernel
theorem dX9_book_21 : decode cX9_book 21 = .ok (.tableswitch 58 0 2 #[27, 38, 49], 27) := by decide +kernel
theorem dX9_book_48 : decode cX9_book 48 = .ok (.aload_n 0, 1) := by decide +kernel
theorem dX9_book_49 : decode cX9_book 49 = .ok (.getfield 42, 3) := by decide +kernel
theorem dX9_book_52 : decode cX9_book 52 = .ok (.iload_n 1, 1) := by decide +kernel
theorem dX9_book_53 : decode cX9_book 53 = .ok (.iload_n 2, 1) := by decide +kernel
theorem dX9_book_54 : decode cX9_book 54 = .ok (.iload_n 3, 1) := by decide +kernel
theorem dX9_book_55 : decode cX9_book 55 = .ok (.invokevirtual 170, 3) := by decide +kernel
theorem dX9_book_58 : decode cX9_book 58 = .ok (.ireturn, 1) := by decide +kernel
theorem dX9_book_59 : decode cX9_book 59 = .ok (.aload_n 0, 1) := by decide +kernel
theorem dX9_book_60 : decode cX9_book 60 = .ok (.getfield 42, 3) := by decide +kernel
theorem dX9_book_63 : decode cX9_book 63 = .ok (.iload_n 1, 1) := by decide +kernel
theorem dX9_book_64 : decode cX9_book 64 = .ok (.iload_n 2, 1) := by decide +kernel
theorem dX9_book_65 : decode cX9_book 65 = .ok (.iload_n 3, 1) := by decide +kernel
theorem dX9_book_66 : decode cX9_book 66 = .ok (.invokevirtual 174, 3) := by decide +kernel
theorem dX9_book_69 : decode cX9_book 69 = .ok (.ireturn, 1) := by decide +kernel
theorem dX9_book_70 : decode cX9_book 70 = .ok (.aload_n 0, 1) := by decide +kernel
theorem dX9_book_71 : decode cX9_book 71 = .ok (.getfield 42, 3) := by decide +kernel
theorem dX9_book_74 : decode cX9_book 74 = .ok (.iload_n 1, 1) := by decide +kernel
theorem dX9_book_75 : decode cX9_book 75 = .ok (.invokevirtual 177, 3) := by decide +kernel
theorem dX9_book_78 : decode cX9_book 78 = .ok (.ireturn, 1) := by decide +kernel
theorem dX9_book_79 : decode cX9_book 79 = .ok (.ldc 169, 2) := by decide +kernel
theorem dX9_book_81 : decode cX9_book 81 = .ok (.ireturn, 1) := by decide +kernel
set_option maxHeartbeats 4000000 in
set_option maxRecDepth 100000 in
theorem t_X9_book (l : Launch) (dC : Nat → ClassId) (dI : Nat → Nat → Nat) (dA : Nat → ClassId) (L : List Nat) (h : hx_h) (sz : Nat) (x : Nat) (i1 : Int32) (i2 : Int32) (i3 : Int32) (i4 : Int32) (hT : hx_T T_tb L h) (gx : hx_g L h x 9) (qp : Nat) (gqp : hx_g L h qp 44) (f_x_7 : h.2.2 x 7 = some qp) (pf_x_8 : ∀ j : Nat, (j : Int) < (h.2.1 x 8).toInt → h.2.2 qp j ≠ none) : Met l yX9_book (Cond.code yX9_book cX9_book 5 (some .int) :: hx_all) ({ frames := 4, cells := 0, slots := 0, locals := 92 }) (va_Pc [.ref x, .int i1, .int i2, .int i3, .int i4] (hx_B T_tb (P_ty dA) (dC, dI) vwCl L h sz)) (va_Qi (fun (r : Int32) (u : List Nat × hx_h) => (True) ∧ hx_T T_tb u.1 u.2 ∧ hx_S T_tb [(19, 0)] L h u.1 u.2) (hx_E T_tb (P_ty dA) (dC, dI) vwCl (hx_A L sz)) (hx_A L sz)) 0 0 (hx_A L sz) := by
  refine hx_met (lv := [(0, .ref x), (1, .int i1), (2, .int i2), (3, .int i3), (4, .int i4)]) (by decide +kernel) rfl (Nat.le_of_ble_eq_true rfl) rfl ?_
  intro p e s m below meth c hx hb hml hr hlk hts0 hown hin hsz hW ls hl
  have hts : ∀ w ∈ hx_all, w.before _ s = true := fun w hw => hts0 w (List.mem_cons_of_mem _ hw)
  have hown : s.vm.findClass "SmallCourt" = some m.cls := hown
  have hM : hx_S T_tb [(19, 0)] L h L h := hx_S.rf
  refine lv_aload_n hx hb dX9_book_0 rfl (lv_at hl 0 rfl) ?_
  refine lv_iload_n hx hb dX9_book_1 rfl (lv_at hl 1 rfl) ?_
  refine lv_iload_n hx hb dX9_book_2 rfl (lv_at hl 2 rfl) ?_
  refine hx_goi (hx_runV (As := [.int i1, .int i2]) (rest := []) ⟨hx, hb, hml, hown, hts⟩ hW gx tt_9 (T := TX9) (N := 20) rfl (t_X9_areTwo l dC dI dA L h s.heap.size x i1 i2 hT gx qp gqp f_x_7 pf_x_8) (cwV 2 hts (hx_gV kw_675 kw_672 kw_674 kw_21 kw_94) rfl rfl rfl (by decide +kernel) ⟨Nat.le_of_ble_eq_true rfl, Nat.le_of_ble_eq_true rfl⟩) rfl hl.1 rfl (Nat.le_of_ble_eq_true rfl) dX9_book_3 ⟨Nat.le_of_ble_eq_true rfl, Nat.le_of_ble_eq_true rfl⟩) hW (fun r_3 L_1 h_2 H locs p_4 hW => ?_)
  obtain ⟨hr_5, hT, hs⟩ := p_4
  have hT : hx_T T_tb L_1 h_2 := hT
  have hs : hx_S T_tb [] L h L_1 h_2 := hs
  have f_x_7 := (hs.o gx trivial rfl).2.trans f_x_7
  have pf_x_8 : ∀ j : Nat, (j : Int) < (h_2.2.1 x 8).toInt → h_2.2.2 qp j ≠ none := by
    intro j hj; rw [(hs.o gx trivial rfl).1] at hj; rw [(hs.a gqp rfl j).2]; exact pf_x_8 j hj
  have hM := hM.tr (hs.mono (by decide))
  have gx := gx.S hs
  have gqp := gqp.S hs
  refine hb_if_eq (zx := r_3.toInt) (tgt := 16) hx hb rfl dX9_book_6 (by decide) (fun c_6 => ?_) (fun c_6 => ?_)
  · skip
    refine lv_ldc (v := -1000000) hx hb hown (hts _ kw_684) dX9_book_16 ?_
    exact hx_reti hx hb hr hlk hW ⟨trivial, hT, hM⟩ dX9_book_18
  · skip
    refine lv_iload_n hx hb dX9_book_9 rfl (lv_at hl 3 rfl) ?_
    refine hx_goi (hx_runS (As := [.int i3]) (rest := []) ⟨hx, hb, hml, hown, hts⟩ hW (t_X9_isDay l dC dI dA L_1 h_2 H.size i3 hT) (va_cwS 1 hts (hx_gS kw_431 kw_429 kw_430 kw_94) rfl rfl rfl (by decide +kernel) ⟨Nat.le_of_ble_eq_true rfl, Nat.le_of_ble_eq_true rfl⟩) rfl hl.1 rfl (Nat.le_of_ble_eq_true rfl) dX9_book_10 ⟨Nat.le_of_ble_eq_true rfl, Nat.le_of_ble_eq_true rfl⟩) hW (fun r_9 L_7 h_8 H locs p_10 hW => ?_)
    obtain ⟨hr_11, hT, hs⟩ := p_10
    have hT : hx_T T_tb L_7 h_8 := hT
    have hs : hx_S T_tb [] L_1 h_2 L_7 h_8 := hs
    have f_x_7 := (hs.o gx trivial rfl).2.trans f_x_7
    have pf_x_8 : ∀ j : Nat, (j : Int) < (h_8.2.1 x 8).toInt → h_8.2.2 qp j ≠ none := by
      intro j hj; rw [(hs.o gx trivial rfl).1] at hj; rw [(hs.a gqp rfl j).2]; exact pf_x_8 j hj
    have hM := hM.tr (hs.mono (by decide))
    have gx := gx.S hs
    have gqp := gqp.S hs
    refine hb_if_ne (zx := r_9.toInt) (tgt := 19) hx hb rfl dX9_book_13 (by decide) (fun c_12 => ?_) (fun c_12 => ?_)
    · skip
      refine lv_iload hx hb dX9_book_19 (lv_at hl 4 rfl) ?_
      rcases (show (i4.toInt < 0 ∨ 2 < i4.toInt) ∨ i4.toInt = 0 ∨ i4.toInt = 1 ∨ i4.toInt = 2 from by omega) with c_13 | c_13 | c_13 | c_13
      · refine lv_tableOut (tgt := 79) hx hb dX9_book_21 c_13 (by decide) ?_
        refine lv_ldc (v := -1000000) hx hb hown (hts _ kw_684) dX9_book_79 ?_
        exact hx_reti hx hb hr hlk hW ⟨trivial, hT, hM⟩ dX9_book_81
      · refine lv_tableIn (off := 27) (tgt := 48) hx hb dX9_book_21 (by omega) (by omega) (by rw [c_13]; rfl) (by decide) ?_
        refine lv_aload_n hx hb dX9_book_48 rfl (lv_at hl 0 rfl) ?_
        refine hx_getn hx hb hts hC_9 hown hW hT gx tt_9 9 (by decide) rfl kw_373 ⟨rfl, rfl, rfl⟩ dX9_book_49 (fun q_14 fq_14 gq_14 => ?_)
        refine lv_iload_n hx hb dX9_book_52 rfl (lv_at hl 1 rfl) ?_
        refine lv_iload_n hx hb dX9_book_53 rfl (lv_at hl 2 rfl) ?_
        refine lv_iload_n hx hb dX9_book_54 rfl (lv_at hl 3 rfl) ?_
        refine hx_goi (hx_runV (As := [.int i1, .int i2, .int i3]) (rest := []) ⟨hx, hb, hml, hown, hts⟩ hW gq_14 tt_1 (T := TX1) (N := 8) rfl (t_X1_sumWith l dC dI dA L_7 h_8 H.size q_14 i1 i2 i3 hT gq_14) (cwV 3 hts (hx_gV kw_688 kw_685 kw_686 kw_687 kw_98) rfl rfl rfl (by decide +kernel) ⟨Nat.le_of_ble_eq_true rfl, Nat.le_of_ble_eq_true rfl⟩) rfl hl.1 rfl (Nat.le_of_ble_eq_true rfl) dX9_book_55 ⟨Nat.le_of_ble_eq_true rfl, Nat.le_of_ble_eq_true rfl⟩) hW (fun r_17 L_15 h_16 H locs p_18 hW => ?_)
        obtain ⟨hr_19, hT, hs⟩ := p_18
        have hT : hx_T T_tb L_15 h_16 := hT
        have hs : hx_S T_tb [] L_7 h_8 L_15 h_16 := hs
        have f_x_7 := (hs.o gx trivial rfl).2.trans f_x_7
        have fq_14 := (hs.o gx trivial rfl).2.trans fq_14
        have pf_x_8 : ∀ j : Nat, (j : Int) < (h_16.2.1 x 8).toInt → h_16.2.2 qp j ≠ none := by
          intro j hj; rw [(hs.o gx trivial rfl).1] at hj; rw [(hs.a gqp rfl j).2]; exact pf_x_8 j hj
        have hM := hM.tr (hs.mono (by decide))
        have gx := gx.S hs
        have gqp := gqp.S hs
        have gq_14 := gq_14.S hs
        exact hx_reti hx hb hr hlk hW ⟨trivial, hT, hM⟩ dX9_book_58
      · refine lv_tableIn (off := 38) (tgt := 59) hx hb dX9_book_21 (by omega) (by omega) (by rw [c_13]; rfl) (by decide) ?_
        refine lv_aload_n hx hb dX9_book_59 rfl (lv_at hl 0 rfl) ?_
        refine hx_getn hx hb hts hC_9 hown hW hT gx tt_9 9 (by decide) rfl kw_373 ⟨rfl, rfl, rfl⟩ dX9_book_60 (fun q_20 fq_20 gq_20 => ?_)
        refine lv_iload_n hx hb dX9_book_63 rfl (lv_at hl 1 rfl) ?_
        refine lv_iload_n hx hb dX9_book_64 rfl (lv_at hl 2 rfl) ?_
        refine lv_iload_n hx hb dX9_book_65 rfl (lv_at hl 3 rfl) ?_
        refine hx_goi (hx_runV (As := [.int i1, .int i2, .int i3]) (rest := []) ⟨hx, hb, hml, hown, hts⟩ hW gq_20 tt_1 (T := TX1) (N := 8) rfl (t_X1_twinPairs l dC dI dA L_7 h_8 H.size q_20 i1 i2 i3 hT gq_20) (cwV 3 hts (hx_gV kw_696 kw_693 kw_694 kw_695 kw_98) rfl rfl rfl (by decide +kernel) ⟨Nat.le_of_ble_eq_true rfl, Nat.le_of_ble_eq_true rfl⟩) rfl hl.1 rfl (Nat.le_of_ble_eq_true rfl) dX9_book_66 ⟨Nat.le_of_ble_eq_true rfl, Nat.le_of_ble_eq_true rfl⟩) hW (fun r_23 L_21 h_22 H locs p_24 hW => ?_)
        obtain ⟨hr_25, hT, hs⟩ := p_24
        have hT : hx_T T_tb L_21 h_22 := hT
        have hs : hx_S T_tb [(19, 0)] L_7 h_8 L_21 h_22 := hs
        have f_x_7 := (hs.o gx trivial rfl).2.trans f_x_7
        have fq_20 := (hs.o gx trivial rfl).2.trans fq_20
        have pf_x_8 : ∀ j : Nat, (j : Int) < (h_22.2.1 x 8).toInt → h_22.2.2 qp j ≠ none := by
          intro j hj; rw [(hs.o gx trivial rfl).1] at hj; rw [(hs.a gqp rfl j).2]; exact pf_x_8 j hj
        have hM := hM.tr (hs.mono (by decide))
        have gx := gx.S hs
        have gqp := gqp.S hs
        have gq_20 := gq_20.S hs
        exact hx_reti hx hb hr hlk hW ⟨trivial, hT, hM⟩ dX9_book_69
      · refine lv_tableIn (off := 49) (tgt := 70) hx hb dX9_book_21 (by omega) (by omega) (by rw [c_13]; rfl) (by decide) ?_
        refine lv_aload_n hx hb dX9_book_70 rfl (lv_at hl 0 rfl) ?_
        refine hx_getn hx hb hts hC_9 hown hW hT gx tt_9 9 (by decide) rfl kw_373 ⟨rfl, rfl, rfl⟩ dX9_book_71 (fun q_26 fq_26 gq_26 => ?_)
        refine lv_iload_n hx hb dX9_book_74 rfl (lv_at hl 1 rfl) ?_
        refine hx_goi (hx_runV (As := [.int i1]) (rest := []) ⟨hx, hb, hml, hown, hts⟩ hW gq_26 tt_1 (T := TX1) (N := 8) rfl (t_X1_disorder l dC dI dA L_7 h_8 H.size q_26 i1 hT gq_26) (cwV 1 hts (hx_gV kw_711 kw_708 kw_709 kw_710 kw_98) rfl rfl rfl (by decide +kernel) ⟨Nat.le_of_ble_eq_true rfl, Nat.le_of_ble_eq_true rfl⟩) rfl hl.1 rfl (Nat.le_of_ble_eq_true rfl) dX9_book_75 ⟨Nat.le_of_ble_eq_true rfl, Nat.le_of_ble_eq_true rfl⟩) hW (fun r_29 L_27 h_28 H locs p_30 hW => ?_)
        obtain ⟨hr_31, hT, hs⟩ := p_30
        have hT : hx_T T_tb L_27 h_28 := hT
        have hs : hx_S T_tb [] L_7 h_8 L_27 h_28 := hs
        have f_x_7 := (hs.o gx trivial rfl).2.trans f_x_7
        have fq_26 := (hs.o gx trivial rfl).2.trans fq_26
        have pf_x_8 : ∀ j : Nat, (j : Int) < (h_28.2.1 x 8).toInt → h_28.2.2 qp j ≠ none := by
          intro j hj; rw [(hs.o gx trivial rfl).1] at hj; rw [(hs.a gqp rfl j).2]; exact pf_x_8 j hj
        have hM := hM.tr (hs.mono (by decide))
        have gx := gx.S hs
        have gqp := gqp.S hs
        have gq_26 := gq_26.S hs
        exact hx_reti hx hb hr hlk hW ⟨trivial, hT, hM⟩ dX9_book_78
    · skip
      refine lv_ldc (v := -1000000) hx hb hown (hts _ kw_684) dX9_book_16 ?_
      exact hx_reti hx hb hr hlk hW ⟨trivial, hT, hM⟩ dX9_book_18

theorem dX9_summons_0 : decode cX9_summons 0 = .ok (.aload_n 0, 1) := by decide +kernel
theorem dX9_summons_1 : decode cX9_summons 1 = .ok (.iload_n 1, 1) := by decide +kernel
theorem dX9_summons_2 : decode cX9_summons 2 = .ok (.invokevirtual 200, 3) := by decide +kernel
theorem dX9_summons_5 : decode cX9_summons 5 = .ok (.astore_n 3, 1) := by decide +kernel
theorem dX9_summons_6 : decode cX9_summons 6 = .ok (.aload_n 3, 1) := by decide +kernel
theorem dX9_summons_7 : decode cX9_summons 7 = .ok (.ifnull 11, 3) := by decide +kernel
theorem dX9_summons_10 : decode cX9_summons 10 = .ok (.aload_n 3, 1) := by decide +kernel
theorem dX9_summons_11 : decode cX9_summons 11 = .ok (.getfield 204, 3) := by decide +kernel
theorem dX9_summons_14 : decode cX9_summons 14 = .ok (.iconst (-1), 1) := by decide +kernel
theorem dX9_summons_15 : decode cX9_summons 15 = .ok (.if_icmp .eq 5, 3) := by decide +kernel
theorem dX9_summons_18 : decode cX9_summons 18 = .ok (.iconst (-1), 1) := by decide +kernel
theorem dX9_summons_19 : decode cX9_summons 19 = .ok (.ireturn, 1) := by decide +kernel
theorem dX9_summons_20 : decode cX9_summons 20 = .ok (.aload_n 3, 1) := by decide +kernel
theorem dX9_summons_21 : decode cX9_summons 21 = .ok (.dup, 1) := by decide +kernel
theorem dX9_summons_22 : decode cX9_summons 22 = .ok (.getfield 207, 3) := by decide +kernel
theorem dX9_summons_25 : decode cX9_summons 25 = .ok (.iconst 1, 1) := by decide +kernel
theorem dX9_summons_26 : decode cX9_summons 26 = .ok (.iadd, 1) := by decide +kernel
theorem dX9_summons_27 : decode cX9_summons 27 = .ok (.putfield 207, 3) := by decide +kernel
theorem dX9_summons_30 : decode cX9_summons 30 = .ok (.iload_n 2, 1) := by decide +kernel
theorem dX9_summons_31 : decode cX9_summons 31 = .ok (.ifCond .eq 11, 3) := by decide +kernel
theorem dX9_summons_34 : decode cX9_summons 34 = .ok (.aload_n 3, 1) := by decide +kernel
theorem dX9_summons_35 : decode cX9_summons 35 = .ok (.aload_n 0, 1) := by decide +kernel
theorem dX9_summons_36 : decode cX9_summons 36 = .ok (.getfield 94, 3) := by decide +kernel
theorem dX9_summons_39 : decode cX9_summons 39 = .ok (.putfield 204, 3) := by decide +kernel
theorem dX9_summons_42 : decode cX9_summons 42 = .ok (.aload_n 3, 1) := by decide +kernel
theorem dX9_summons_43 : decode cX9_summons 43 = .ok (.getfield 207, 3) := by decide +kernel
theorem dX9_summons_46 : decode cX9_summons 46 = .ok (.ireturn, 1) := by decide +kernel
set_option maxHeartbeats 4000000 in
set_option maxRecDepth 100000 in
theorem t_X9_summons (l : Launch) (dC : Nat → ClassId) (dI : Nat → Nat → Nat) (dA : Nat → ClassId) (L : List Nat) (h : hx_h) (sz : Nat) (x : Nat) (i1 : Int32) (i2 : Int32) (hT : hx_T T_tb L h) (gx : hx_g L h x 9) (qc : Nat) (gqc : hx_g L h qc 45) (f_x_10 : h.2.2 x 10 = some qc) (pf_x_11 : ∀ j : Nat, (j : Int) < (h.2.1 x 11).toInt → h.2.2 qc j ≠ none) : Met l yX9_summons (Cond.code yX9_summons cX9_summons 4 (some .int) :: hx_all) ({ frames := 1, cells := 0, slots := 0, locals := 21 }) (va_Pc [.ref x, .int i1, .int i2] (hx_B T_tb (P_ty dA) (dC, dI) vwCl L h sz)) (va_Qi (fun (r : Int32) (u : List Nat × hx_h) => (True) ∧ hx_T T_tb u.1 u.2 ∧ hx_S T_tb [(2, 9), (2, 10)] L h u.1 u.2) (hx_E T_tb (P_ty dA) (dC, dI) vwCl (hx_A L sz)) (hx_A L sz)) 0 0 (hx_A L sz) := by
  refine hx_met (lv := [(0, .ref x), (1, .int i1), (2, .int i2)]) (by decide +kernel) rfl (Nat.le_of_ble_eq_true rfl) rfl ?_
  intro p e s m below meth c hx hb hml hr hlk hts0 hown hin hsz hW ls hl
  have hts : ∀ w ∈ hx_all, w.before _ s = true := fun w hw => hts0 w (List.mem_cons_of_mem _ hw)
  have hown : s.vm.findClass "SmallCourt" = some m.cls := hown
  have hM : hx_S T_tb [(2, 9), (2, 10)] L h L h := hx_S.rf
  refine lv_aload_n hx hb dX9_summons_0 rfl (lv_at hl 0 rfl) ?_
  refine lv_iload_n hx hb dX9_summons_1 rfl (lv_at hl 1 rfl) ?_
  refine hx_goq (hx_runV (As := [.int i1]) (rest := []) ⟨hx, hb, hml, hown, hts⟩ hW gx tt_9 (T := TX9) (N := 20) rfl (t_X9_claimAt l dC dI dA L h s.heap.size x i1 hT gx qc gqc f_x_10 pf_x_11) (cwV 1 hts (hx_gV kw_810 kw_807 kw_809 kw_25 kw_94) rfl rfl rfl (by decide +kernel) ⟨Nat.le_of_ble_eq_true rfl, Nat.le_of_ble_eq_true rfl⟩) rfl hl.1 rfl (Nat.le_of_ble_eq_true rfl) dX9_summons_2 ⟨Nat.le_of_ble_eq_true rfl, Nat.le_of_ble_eq_true rfl⟩) hW (fun r_3 L_1 h_2 H locs p_4 hW => ?_)
  obtain ⟨hr_5, hT, hs⟩ := p_4
  have hT : hx_T T_tb L_1 h_2 := hT
  have hs : hx_S T_tb [] L h L_1 h_2 := hs
  have f_x_10 := (hs.o gx trivial rfl).2.trans f_x_10
  have pf_x_11 : ∀ j : Nat, (j : Int) < (h_2.2.1 x 11).toInt → h_2.2.2 qc j ≠ none := by
    intro j hj; rw [(hs.o gx trivial rfl).1] at hj; rw [(hs.a gqc rfl j).2]; exact pf_x_11 j hj
  have hM := hM.tr (hs.mono (by decide))
  have gx := gx.S hs
  have gqc := gqc.S hs
  have hr_5 : ∀ q, r_3 = some q → hx_g L_1 h_2 q 2 := hr_5
  rcases r_3 with _ | q_6
  · skip
    refine lv_astore_nN (lv' := [(3, .null), (0, .ref x), (1, .int i1), (2, .int i2)]) hx hb dX9_summons_5 rfl hl (by decide) rfl (fun ls hl => ?_)
    refine lv_aload_nN hx hb dX9_summons_6 rfl (lv_at hl 0 rfl) ?_
    refine lv_ifnullN (tgt := 18) hx hb dX9_summons_7 (by decide) ?_
    refine lv_iconst (v := -1) hx hb dX9_summons_18 (by decide) ?_
    exact hx_reti hx hb hr hlk hW ⟨trivial, hT, hM⟩ dX9_summons_19
  · have gq_6 := hr_5 _ rfl
    refine lv_astore_n (lv' := [(3, .ref q_6), (0, .ref x), (1, .int i1), (2, .int i2)]) hx hb dX9_summons_5 rfl hl (by decide) rfl (fun ls hl => ?_)
    refine lv_aload_n hx hb dX9_summons_6 rfl (lv_at hl 0 rfl) ?_
    refine lv_ifnull hx hb dX9_summons_7 ?_
    refine lv_aload_n hx hb dX9_summons_10 rfl (lv_at hl 0 rfl) ?_
    refine hx_geti hx hb hts hC_2 hown hW hT gq_6 tt_2 10 (by decide) rfl kw_747 ⟨rfl, rfl, rfl⟩ dX9_summons_11 (fun x_7 ex_7 lx_7 ux_7 => ?_)
    have fx_7 := ex_7.symm
    refine lv_iconst (v := -1) hx hb dX9_summons_14 (by decide) ?_
    refine hb_icmp_eq (zx := x_7.toInt) (zy := (-1)) (tgt := 20) hx hb rfl (by decide) dX9_summons_15 (by decide) (fun c_8 => ?_) (fun c_8 => ?_)
    · skip
      refine lv_aload_n hx hb dX9_summons_20 rfl (lv_at hl 0 rfl) ?_
      refine lv_dup hx hb dX9_summons_21 rfl ?_
      refine hx_geti hx hb hts hC_2 hown hW hT gq_6 tt_2 9 (by decide) rfl kw_745 ⟨rfl, rfl, rfl⟩ dX9_summons_22 (fun x_9 ex_9 lx_9 ux_9 => ?_)
      have fx_9 := ex_9.symm
      refine lv_iconst (v := 1) hx hb dX9_summons_25 (by decide) ?_
      refine lv_iadd hx hb dX9_summons_26 ?_
      have rg_10 := i32_r x_9
      refine lv_topi (fun x_11 ex_11 => ?_)
      refine hx_puti hx hb hts hC_2 hown hW hT (hx_S.rf (M := [(2, 9)])) gq_6 tt_2 9 (by decide) rfl kw_745 ⟨rfl, rfl, rfl⟩ rfl (x := x_11) (i32_r _) rfl rfl rfl (List.mem_singleton.mpr rfl) dX9_summons_27 (fun H locs h_12 eh_12 hW hT hs => ?_)
      have f_x_10 := (hs.o gx trivial rfl).2.trans f_x_10
      have fx_7 := (hs.o gq_6 trivial rfl).1.trans fx_7
      have pf_x_11 : ∀ j : Nat, (j : Int) < (h_12.2.1 x 11).toInt → h_12.2.2 qc j ≠ none := by
        intro j hj; rw [(hs.o gx trivial rfl).1] at hj; rw [(hs.a gqc rfl j).2]; exact pf_x_11 j hj
      have hM := hM.tr (hs.mono (by decide))
      have gx := gx.S hs
      have gqc := gqc.S hs
      have gq_6 := gq_6.S hs
      have f_13 : h_12.2.1 q_6 9 = x_11 := by rw [eh_12]; exact hx_pi_at _ _ _ _
      refine lv_iload_n hx hb dX9_summons_30 rfl (lv_at hl 3 rfl) ?_
      refine hb_if_eq (zx := i2.toInt) (tgt := 42) hx hb rfl dX9_summons_31 (by decide) (fun c_14 => ?_) (fun c_14 => ?_)
      · skip
        refine lv_aload_n hx hb dX9_summons_42 rfl (lv_at hl 0 rfl) ?_
        refine hk_geti hx hb hts hC_2 hown hW gq_6 tt_2 9 (by decide) rfl kw_745 ⟨rfl, rfl, rfl⟩ f_13 dX9_summons_43 ?_
        exact hx_reti hx hb hr hlk hW ⟨trivial, hT, hM⟩ dX9_summons_46
      · skip
        refine lv_aload_n hx hb dX9_summons_34 rfl (lv_at hl 0 rfl) ?_
        refine lv_aload_n hx hb dX9_summons_35 rfl (lv_at hl 1 rfl) ?_
        refine hx_geti hx hb hts hC_9 hown hW hT gx tt_9 2 (by decide) rfl kw_366 ⟨rfl, rfl, rfl⟩ dX9_summons_36 (fun x_15 ex_15 lx_15 ux_15 => ?_)
        have fx_15 := ex_15.symm
        refine hx_puti hx hb hts hC_2 hown hW hT (hx_S.rf (M := [(2, 10)])) gq_6 tt_2 10 (by decide) rfl kw_747 ⟨rfl, rfl, rfl⟩ rfl (x := x_15) (i32_r _) rfl rfl rfl (List.mem_singleton.mpr rfl) dX9_summons_39 (fun H locs h_16 eh_16 hW hT hs => ?_)
        have f_x_10 := (hs.o gx trivial rfl).2.trans f_x_10
        have f_13 := (hs.o gq_6 trivial rfl).1.trans f_13
        have fx_15 := (hs.o gx trivial rfl).1.trans fx_15
        have pf_x_11 : ∀ j : Nat, (j : Int) < (h_16.2.1 x 11).toInt → h_16.2.2 qc j ≠ none := by
          intro j hj; rw [(hs.o gx trivial rfl).1] at hj; rw [(hs.a gqc rfl j).2]; exact pf_x_11 j hj
        have hM := hM.tr (hs.mono (by decide))
        have gx := gx.S hs
        have gqc := gqc.S hs
        have gq_6 := gq_6.S hs
        have f_17 : h_16.2.1 q_6 10 = x_15 := by rw [eh_16]; exact hx_pi_at _ _ _ _
        refine lv_aload_n hx hb dX9_summons_42 rfl (lv_at hl 0 rfl) ?_
        refine hk_geti hx hb hts hC_2 hown hW gq_6 tt_2 9 (by decide) rfl kw_745 ⟨rfl, rfl, rfl⟩ f_13 dX9_summons_43 ?_
        exact hx_reti hx hb hr hlk hW ⟨trivial, hT, hM⟩ dX9_summons_46
    · skip
      refine lv_iconst (v := -1) hx hb dX9_summons_18 (by decide) ?_
      exact hx_reti hx hb hr hlk hW ⟨trivial, hT, hM⟩ dX9_summons_19
