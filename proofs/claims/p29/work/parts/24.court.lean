theorem dX9_personAt_0 : decode cX9_personAt 0 = .ok (.iload_n 1, 1) := by decide +kernel
theorem dX9_personAt_1 : decode cX9_personAt 1 = .ok (.ifCond .lt 11, 3) := by decide +kernel
theorem dX9_personAt_4 : decode cX9_personAt 4 = .ok (.iload_n 1, 1) := by decide +kernel
theorem dX9_personAt_5 : decode cX9_personAt 5 = .ok (.aload_n 0, 1) := by decide +kernel
theorem dX9_personAt_6 : decode cX9_personAt 6 = .ok (.getfield 125, 3) := by decide +kernel
theorem dX9_personAt_9 : decode cX9_personAt 9 = .ok (.if_icmp .lt 7, 3) := by decide +kernel
theorem dX9_personAt_12 : decode cX9_personAt 12 = .ok (.aconst_null, 1) := by decide +kernel
theorem dX9_personAt_13 : decode cX9_personAt 13 = .ok (.goto 9, 3) := by decide +kernel
theorem dX9_personAt_16 : decode cX9_personAt 16 = .ok (.aload_n 0, 1) := by decide +kernel
theorem dX9_personAt_17 : decode cX9_personAt 17 = .ok (.getfield 35, 3) := by decide +kernel
theorem dX9_personAt_20 : decode cX9_personAt 20 = .ok (.iload_n 1, 1) := by decide +kernel
theorem dX9_personAt_21 : decode cX9_personAt 21 = .ok (.aaload, 1) := by decide +kernel
theorem dX9_personAt_22 : decode cX9_personAt 22 = .ok (.areturn, 1) := by decide +kernel
set_option maxHeartbeats 4000000 in
set_option maxRecDepth 100000 in
theorem t_X9_personAt (l : Launch) (dC : Nat → ClassId) (dI : Nat → Nat → Nat) (dA : Nat → ClassId) (L : List Nat) (h : hx_h) (sz : Nat) (x : Nat) (i1 : Int32) (hT : hx_T T_tb L h) (gx : hx_g L h x 9) (qp : Nat) (gqp : hx_g L h qp 44) (f_x_7 : h.2.2 x 7 = some qp) (pf_x_8 : ∀ j : Nat, (j : Int) < (h.2.1 x 8).toInt → h.2.2 qp j ≠ none) : Met l yX9_personAt (Cond.code yX9_personAt cX9_personAt 2 (some (.object "SmallCourt$Person")) :: hx_all) ({ frames := 0, cells := 0, slots := 0, locals := 0 }) (va_Pc [.ref x, .int i1] (hx_B T_tb (P_ty dA) (dC, dI) vwCl L h sz)) (va_Qq (fun (r : Option Nat) (u : List Nat × hx_h) => ((∀ q, r = some q → hx_g u.1 u.2 q 4)) ∧ hx_T T_tb u.1 u.2 ∧ hx_S T_tb [] L h u.1 u.2) (hx_E T_tb (P_ty dA) (dC, dI) vwCl (hx_A L sz)) (hx_A L sz)) 0 0 (hx_A L sz) := by
  refine hx_met (lv := [(0, .ref x), (1, .int i1)]) (by decide +kernel) rfl (Nat.le_of_ble_eq_true rfl) rfl ?_
  intro p e s m below meth c hx hb hml hr hlk hts0 hown hin hsz hW ls hl
  have hts : ∀ w ∈ hx_all, w.before _ s = true := fun w hw => hts0 w (List.mem_cons_of_mem _ hw)
  have hown : s.vm.findClass "SmallCourt" = some m.cls := hown
  have hM : hx_S T_tb [] L h L h := hx_S.rf
  refine lv_iload_n hx hb dX9_personAt_0 rfl (lv_at hl 1 rfl) ?_
  refine hb_if_lt (zx := i1.toInt) (tgt := 12) hx hb rfl dX9_personAt_1 (by decide) (fun c_1 => ?_) (fun c_1 => ?_)
  · skip
    refine lv_null hx hb dX9_personAt_12 ?_
    refine lv_goto (tgt := 22) hx hb dX9_personAt_13 (by decide) ?_
    exact hx_retq (v := none) hx hb hr (Or.inl ⟨_, rfl⟩) hlk hW ⟨(fun q hq => by cases hq), hT, hM⟩ dX9_personAt_22
  · skip
    refine lv_iload_n hx hb dX9_personAt_4 rfl (lv_at hl 1 rfl) ?_
    refine lv_aload_n hx hb dX9_personAt_5 rfl (lv_at hl 0 rfl) ?_
    refine hx_geti hx hb hts hC_9 hown hW hT (gx.S hM) tt_9 8 (by decide) rfl kw_372 ⟨rfl, rfl, rfl⟩ dX9_personAt_6 (fun x_2 ex_2 lx_2 ux_2 => ?_)
    have fx_2 := ex_2.symm
    refine hb_icmp_lt (zx := i1.toInt) (zy := x_2.toInt) (tgt := 16) hx hb rfl rfl dX9_personAt_9 (by decide) (fun c_3 => ?_) (fun c_3 => ?_)
    · skip
      refine lv_aload_n hx hb dX9_personAt_16 rfl (lv_at hl 0 rfl) ?_
      refine hk_getr hx hb hts hC_9 hown hW (gx.S hM) tt_9 7 (by decide) rfl kw_371 ⟨rfl, rfl, rfl⟩ ((hM.o gx trivial rfl).2.trans f_x_7) dX9_personAt_17 ?_
      refine lv_iload_n hx hb dX9_personAt_20 rfl (lv_at hl 1 rfl) ?_
      refine hx_aaldN hx hb hW hT (gqp.S hM) tt_44 (t1 := 4) rfl ⟨by omega, by omega⟩ (pf_x_8 _ (by rw [fx_2]; exact hx_tnI (by omega) (by omega))) dX9_personAt_21 (fun q_4 fq_4 gq_4 => ?_)
      exact hx_retq (v := (some q_4)) hx hb hr (Or.inl ⟨_, rfl⟩) hlk hW ⟨(fun q hq => by cases hq; exact gq_4), hT, hM⟩ dX9_personAt_22
    · skip
      refine lv_null hx hb dX9_personAt_12 ?_
      refine lv_goto (tgt := 22) hx hb dX9_personAt_13 (by decide) ?_
      exact hx_retq (v := none) hx hb hr (Or.inl ⟨_, rfl⟩) hlk hW ⟨(fun q hq => by cases hq), hT, hM⟩ dX9_personAt_22

theorem dX9_claimAt_0 : decode cX9_claimAt 0 = .ok (.iload_n 1, 1) := by decide +kernel
theorem dX9_claimAt_1 : decode cX9_claimAt 1 = .ok (.ifCond .lt 11, 3) := by decide +kernel
theorem dX9_claimAt_4 : decode cX9_claimAt 4 = .ok (.iload_n 1, 1) := by decide +kernel
theorem dX9_claimAt_5 : decode cX9_claimAt 5 = .ok (.aload_n 0, 1) := by decide +kernel
theorem dX9_claimAt_6 : decode cX9_claimAt 6 = .ok (.getfield 181, 3) := by decide +kernel
theorem dX9_claimAt_9 : decode cX9_claimAt 9 = .ok (.if_icmp .lt 7, 3) := by decide +kernel
theorem dX9_claimAt_12 : decode cX9_claimAt 12 = .ok (.aconst_null, 1) := by decide +kernel
theorem dX9_claimAt_13 : decode cX9_claimAt 13 = .ok (.goto 9, 3) := by decide +kernel
theorem dX9_claimAt_16 : decode cX9_claimAt 16 = .ok (.aload_n 0, 1) := by decide +kernel
theorem dX9_claimAt_17 : decode cX9_claimAt 17 = .ok (.getfield 48, 3) := by decide +kernel
theorem dX9_claimAt_20 : decode cX9_claimAt 20 = .ok (.iload_n 1, 1) := by decide +kernel
theorem dX9_claimAt_21 : decode cX9_claimAt 21 = .ok (.aaload, 1) := by decide +kernel
theorem dX9_claimAt_22 : decode cX9_claimAt 22 = .ok (.areturn, 1) := by decide +kernel
set_option maxHeartbeats 4000000 in
set_option maxRecDepth 100000 in
theorem t_X9_claimAt (l : Launch) (dC : Nat → ClassId) (dI : Nat → Nat → Nat) (dA : Nat → ClassId) (L : List Nat) (h : hx_h) (sz : Nat) (x : Nat) (i1 : Int32) (hT : hx_T T_tb L h) (gx : hx_g L h x 9) (qc : Nat) (gqc : hx_g L h qc 45) (f_x_10 : h.2.2 x 10 = some qc) (pf_x_11 : ∀ j : Nat, (j : Int) < (h.2.1 x 11).toInt → h.2.2 qc j ≠ none) : Met l yX9_claimAt (Cond.code yX9_claimAt cX9_claimAt 2 (some (.object "SmallCourt$Claim")) :: hx_all) ({ frames := 0, cells := 0, slots := 0, locals := 0 }) (va_Pc [.ref x, .int i1] (hx_B T_tb (P_ty dA) (dC, dI) vwCl L h sz)) (va_Qq (fun (r : Option Nat) (u : List Nat × hx_h) => ((∀ q, r = some q → hx_g u.1 u.2 q 2)) ∧ hx_T T_tb u.1 u.2 ∧ hx_S T_tb [] L h u.1 u.2) (hx_E T_tb (P_ty dA) (dC, dI) vwCl (hx_A L sz)) (hx_A L sz)) 0 0 (hx_A L sz) := by
  refine hx_met (lv := [(0, .ref x), (1, .int i1)]) (by decide +kernel) rfl (Nat.le_of_ble_eq_true rfl) rfl ?_
  intro p e s m below meth c hx hb hml hr hlk hts0 hown hin hsz hW ls hl
  have hts : ∀ w ∈ hx_all, w.before _ s = true := fun w hw => hts0 w (List.mem_cons_of_mem _ hw)
  have hown : s.vm.findClass "SmallCourt" = some m.cls := hown
  have hM : hx_S T_tb [] L h L h := hx_S.rf
  refine lv_iload_n hx hb dX9_claimAt_0 rfl (lv_at hl 1 rfl) ?_
  refine hb_if_lt (zx := i1.toInt) (tgt := 12) hx hb rfl dX9_claimAt_1 (by decide) (fun c_1 => ?_) (fun c_1 => ?_)
  · skip
    refine lv_null hx hb dX9_claimAt_12 ?_
    refine lv_goto (tgt := 22) hx hb dX9_claimAt_13 (by decide) ?_
    exact hx_retq (v := none) hx hb hr (Or.inl ⟨_, rfl⟩) hlk hW ⟨(fun q hq => by cases hq), hT, hM⟩ dX9_claimAt_22
  · skip
    refine lv_iload_n hx hb dX9_claimAt_4 rfl (lv_at hl 1 rfl) ?_
    refine lv_aload_n hx hb dX9_claimAt_5 rfl (lv_at hl 0 rfl) ?_
    refine hx_geti hx hb hts hC_9 hown hW hT (gx.S hM) tt_9 11 (by decide) rfl kw_375 ⟨rfl, rfl, rfl⟩ dX9_claimAt_6 (fun x_2 ex_2 lx_2 ux_2 => ?_)
    have fx_2 := ex_2.symm
    refine hb_icmp_lt (zx := i1.toInt) (zy := x_2.toInt) (tgt := 16) hx hb rfl rfl dX9_claimAt_9 (by decide) (fun c_3 => ?_) (fun c_3 => ?_)
    · skip
      refine lv_aload_n hx hb dX9_claimAt_16 rfl (lv_at hl 0 rfl) ?_
      refine hk_getr hx hb hts hC_9 hown hW (gx.S hM) tt_9 10 (by decide) rfl kw_374 ⟨rfl, rfl, rfl⟩ ((hM.o gx trivial rfl).2.trans f_x_10) dX9_claimAt_17 ?_
      refine lv_iload_n hx hb dX9_claimAt_20 rfl (lv_at hl 1 rfl) ?_
      refine hx_aaldN hx hb hW hT (gqc.S hM) tt_45 (t1 := 2) rfl ⟨by omega, by omega⟩ (pf_x_11 _ (by rw [fx_2]; exact hx_tnI (by omega) (by omega))) dX9_claimAt_21 (fun q_4 fq_4 gq_4 => ?_)
      exact hx_retq (v := (some q_4)) hx hb hr (Or.inl ⟨_, rfl⟩) hlk hW ⟨(fun q hq => by cases hq; exact gq_4), hT, hM⟩ dX9_claimAt_22
    · skip
      refine lv_null hx hb dX9_claimAt_12 ?_
      refine lv_goto (tgt := 22) hx hb dX9_claimAt_13 (by decide) ?_
      exact hx_retq (v := none) hx hb hr (Or.inl ⟨_, rfl⟩) hlk hW ⟨(fun q hq => by cases hq), hT, hM⟩ dX9_claimAt_22

theorem dX9_areTwo_0 : decode cX9_areTwo 0 = .ok (.iload_n 1, 1) := by decide +kernel
theorem dX9_areTwo_1 : decode cX9_areTwo 1 = .ok (.iload_n 2, 1) := by decide +kernel
theorem dX9_areTwo_2 : decode cX9_areTwo 2 = .ok (.if_icmp .eq 23, 3) := by decide +kernel
theorem dX9_areTwo_5 : decode cX9_areTwo 5 = .ok (.aload_n 0, 1) := by decide +kernel
theorem dX9_areTwo_6 : decode cX9_areTwo 6 = .ok (.iload_n 1, 1) := by decide +kernel
theorem dX9_areTwo_7 : decode cX9_areTwo 7 = .ok (.invokevirtual 144, 3) := by decide +kernel
theorem dX9_areTwo_10 : decode cX9_areTwo 10 = .ok (.ifnull 15, 3) := by decide +kernel
theorem dX9_areTwo_13 : decode cX9_areTwo 13 = .ok (.aload_n 0, 1) := by decide +kernel
theorem dX9_areTwo_14 : decode cX9_areTwo 14 = .ok (.iload_n 2, 1) := by decide +kernel
theorem dX9_areTwo_15 : decode cX9_areTwo 15 = .ok (.invokevirtual 144, 3) := by decide +kernel
theorem dX9_areTwo_18 : decode cX9_areTwo 18 = .ok (.ifnull 7, 3) := by decide +kernel
theorem dX9_areTwo_21 : decode cX9_areTwo 21 = .ok (.iconst 1, 1) := by decide +kernel
theorem dX9_areTwo_22 : decode cX9_areTwo 22 = .ok (.goto 4, 3) := by decide +kernel
theorem dX9_areTwo_25 : decode cX9_areTwo 25 = .ok (.iconst 0, 1) := by decide +kernel
theorem dX9_areTwo_26 : decode cX9_areTwo 26 = .ok (.ireturn, 1) := by decide +kernel
def wLX9_feedBytes_0 : List Nat := [16, 24, 61, 28, 155, 0, 42, 42, 180, 0, 98, 17, 1, 144, 162, 0, 32, 42, 180, 0, 9, 42, 180, 0, 98, 27, 28, 122, 145, 84, 42, 89, 180, 0, 98, 4, 96, 181, 0, 98, 132, 2, 248, 167, 255, 216, 177]
theorem wX9_feedBytes_0 : (cX9_feedBytes.data.toList.map UInt8.toNat).drop 0 = wLX9_feedBytes_0 ++ ([]) := by decide +kernel
theorem dX9_feedBytes_0 : decode cX9_feedBytes 0 = .ok (.bipush 24, 2) := dq_16 (hz_wg wX9_feedBytes_0 (j := 0) (n := 16) rfl) (hz_wg wX9_feedBytes_0 (j := 1) (n := 24) rfl) (by decide)
theorem dX9_feedBytes_2 : decode cX9_feedBytes 2 = .ok (.istore_n 2, 1) := dq_61 (hz_wg wX9_feedBytes_0 (j := 2) (n := 61) rfl)
theorem dX9_feedBytes_3 : decode cX9_feedBytes 3 = .ok (.iload_n 2, 1) := dq_28 (hz_wg wX9_feedBytes_0 (j := 3) (n := 28) rfl)
theorem dX9_feedBytes_4 : decode cX9_feedBytes 4 = .ok (.ifCond .lt 42, 3) := dq_155 (hz_wg wX9_feedBytes_0 (j := 4) (n := 155) rfl) (hz_wg wX9_feedBytes_0 (j := 5) (n := 0) rfl) (hz_wg wX9_feedBytes_0 (j := 6) (n := 42) rfl) (by decide)
theorem dX9_feedBytes_7 : decode cX9_feedBytes 7 = .ok (.aload_n 0, 1) := dq_42 (hz_wg wX9_feedBytes_0 (j := 7) (n := 42) rfl)
theorem dX9_feedBytes_8 : decode cX9_feedBytes 8 = .ok (.getfield 98, 3) := dq_180 (hz_wg wX9_feedBytes_0 (j := 8) (n := 180) rfl) (hz_wg wX9_feedBytes_0 (j := 9) (n := 0) rfl) (hz_wg wX9_feedBytes_0 (j := 10) (n := 98) rfl) rfl
theorem dX9_feedBytes_11 : decode cX9_feedBytes 11 = .ok (.sipush 400, 3) := dq_17 (hz_wg wX9_feedBytes_0 (j := 11) (n := 17) rfl) (hz_wg wX9_feedBytes_0 (j := 12) (n := 1) rfl) (hz_wg wX9_feedBytes_0 (j := 13) (n := 144) rfl) (by decide)
theorem dX9_feedBytes_14 : decode cX9_feedBytes 14 = .ok (.if_icmp .ge 32, 3) := dq_162 (hz_wg wX9_feedBytes_0 (j := 14) (n := 162) rfl) (hz_wg wX9_feedBytes_0 (j := 15) (n := 0) rfl) (hz_wg wX9_feedBytes_0 (j := 16) (n := 32) rfl) (by decide)
theorem dX9_feedBytes_17 : decode cX9_feedBytes 17 = .ok (.aload_n 0, 1) := dq_42 (hz_wg wX9_feedBytes_0 (j := 17) (n := 42) rfl)
theorem dX9_feedBytes_18 : decode cX9_feedBytes 18 = .ok (.getfield 9, 3) := dq_180 (hz_wg wX9_feedBytes_0 (j := 18) (n := 180) rfl) (hz_wg wX9_feedBytes_0 (j := 19) (n := 0) rfl) (hz_wg wX9_feedBytes_0 (j := 20) (n := 9) rfl) rfl
theorem dX9_feedBytes_21 : decode cX9_feedBytes 21 = .ok (.aload_n 0, 1) := dq_42 (hz_wg wX9_feedBytes_0 (j := 21) (n := 42) rfl)
theorem dX9_feedBytes_22 : decode cX9_feedBytes 22 = .ok (.getfield 98, 3) := dq_180 (hz_wg wX9_feedBytes_0 (j := 22) (n := 180) rfl) (hz_wg wX9_feedBytes_0 (j := 23) (n := 0) rfl) (hz_wg wX9_feedBytes_0 (j := 24) (n := 98) rfl) rfl
theorem dX9_feedBytes_25 : decode cX9_feedBytes 25 = .ok (.iload_n 1, 1) := dq_27 (hz_wg wX9_feedBytes_0 (j := 25) (n := 27) rfl)
theorem dX9_feedBytes_26 : decode cX9_feedBytes 26 = .ok (.iload_n 2, 1) := dq_28 (hz_wg wX9_feedBytes_0 (j := 26) (n := 28) rfl)
theorem dX9_feedBytes_27 : decode cX9_feedBytes 27 = .ok (.ishr, 1) := dq_122 (hz_wg wX9_feedBytes_0 (j := 27) (n := 122) rfl)
theorem dX9_feedBytes_28 : decode cX9_feedBytes 28 = .ok (.i2b, 1) := dq_145 (hz_wg wX9_feedBytes_0 (j := 28) (n := 145) rfl)
theorem dX9_feedBytes_29 : decode cX9_feedBytes 29 = .ok (.bastore, 1) := dq_84 (hz_wg wX9_feedBytes_0 (j := 29) (n := 84) rfl)
theorem dX9_feedBytes_30 : decode cX9_feedBytes 30 = .ok (.aload_n 0, 1) := dq_42 (hz_wg wX9_feedBytes_0 (j := 30) (n := 42) rfl)
theorem dX9_feedBytes_31 : decode cX9_feedBytes 31 = .ok (.dup, 1) := dq_89 (hz_wg wX9_feedBytes_0 (j := 31) (n := 89) rfl)
theorem dX9_feedBytes_32 : decode cX9_feedBytes 32 = .ok (.getfield 98, 3) := dq_180 (hz_wg wX9_feedBytes_0 (j := 32) (n := 180) rfl) (hz_wg wX9_feedBytes_0 (j := 33) (n := 0) rfl) (hz_wg wX9_feedBytes_0 (j := 34) (n := 98) rfl) rfl
theorem dX9_feedBytes_35 : decode cX9_feedBytes 35 = .ok (.iconst 1, 1) := dq_4 (hz_wg wX9_feedBytes_0 (j := 35) (n := 4) rfl)
theorem dX9_feedBytes_36 : decode cX9_feedBytes 36 = .ok (.iadd, 1) := dq_96 (hz_wg wX9_feedBytes_0 (j := 36) (n := 96) rfl)
theorem dX9_feedBytes_37 : decode cX9_feedBytes 37 = .ok (.putfield 98, 3) := dq_181 (hz_wg wX9_feedBytes_0 (j := 37) (n := 181) rfl) (hz_wg wX9_feedBytes_0 (j := 38) (n := 0) rfl) (hz_wg wX9_feedBytes_0 (j := 39) (n := 98) rfl) rfl
theorem dX9_feedBytes_40 : decode cX9_feedBytes 40 = .ok (.iinc 2 (-8), 3) := dq_132 (hz_wg wX9_feedBytes_0 (j := 40) (n := 132) rfl) (hz_wg wX9_feedBytes_0 (j := 41) (n := 2) rfl) (hz_wg wX9_feedBytes_0 (j := 42) (n := 248) rfl) (by decide)
theorem dX9_feedBytes_43 : decode cX9_feedBytes 43 = .ok (.goto (-40), 3) := dq_167 (hz_wg wX9_feedBytes_0 (j := 43) (n := 167) rfl) (hz_wg wX9_feedBytes_0 (j := 44) (n := 255) rfl) (hz_wg wX9_feedBytes_0 (j := 45) (n := 216) rfl) (by decide)
theorem dX9_feedBytes_46 : decode cX9_feedBytes 46 = .ok (.return_, 1) := dq_177 (hz_wg wX9_feedBytes_0 (j := 46) (n := 177) rfl)
set_option maxHeartbeats 4000000 in
set_option maxRecDepth 100000 in
theorem t_X9_feedBytes (l : Launch) (dC : Nat → ClassId) (dI : Nat → Nat → Nat) (dA : Nat → ClassId) (L : List Nat) (h : hx_h) (sz : Nat) (x : Nat) (i1 : Int32) (hT : hx_T T_tb L h) (gx : hx_g L h x 9)  : Met l yX9_feedBytes (Cond.code yX9_feedBytes cX9_feedBytes 3 none :: hx_all) ({ frames := 0, cells := 0, slots := 0, locals := 0 }) (va_Pc [.ref x, .int i1] (hx_B T_tb (P_ty dA) (dC, dI) vwCl L h sz)) (va_Qv (fun (u : List Nat × hx_h) => hx_T T_tb u.1 u.2 ∧ hx_S T_tb [(9, 1), (42, 0)] L h u.1 u.2) (hx_E T_tb (P_ty dA) (dC, dI) vwCl (hx_A L sz)) (hx_A L sz)) 0 0 (hx_A L sz) := by
  refine hx_met (lv := [(0, .ref x), (1, .int i1)]) (by decide +kernel) rfl (Nat.le_of_ble_eq_true rfl) rfl ?_
  intro p e s m below meth c hx hb hml hr hlk hts0 hown hin hsz hW ls hl
  have hts : ∀ w ∈ hx_all, w.before _ s = true := fun w hw => hts0 w (List.mem_cons_of_mem _ hw)
  have hown : s.vm.findClass "SmallCourt" = some m.cls := hown
  have hM : hx_S T_tb [(9, 1), (42, 0)] L h L h := hx_S.rf
  refine lv_bipush (v := 24) hx hb dX9_feedBytes_0 (by decide) ?_
  refine lv_istore_n (lv' := [(2, .int (24 : Int32)), (0, .ref x), (1, .int i1)]) hx hb dX9_feedBytes_2 rfl hl (by decide) rfl (fun ls hl => ?_)
  obtain ⟨fv_1, efv_1⟩ : ∃ y : Int32, y = h.2.1 x 1 := ⟨_, rfl⟩
  have bfv_1 := hT.gi (gx.S hM) tt_9 (k := 1) rfl
  rw [← efv_1] at bfv_1
  have bfv_1 : 0 ≤ fv_1.toInt ∧ fv_1.toInt ≤ 400 := bfv_1
  have ffv_1 := efv_1.symm
  have loop3 : ∀ (n3 : Nat) (iv3_2 fw3_x_1 : Int32) (H : Heap) (locs : List Loc) (hL1 : List Nat) (hl1 : hx_h), -8 ≤ iv3_2.toInt → iv3_2.toInt ≤ 24 → 0 ≤ fw3_x_1.toInt → fw3_x_1.toInt ≤ 400 → ∀ (ls : Array Slot), iv3_2.toInt + 8 < (n3 : Int) → hx_W T_tb (P_ty dA) (dC, dI) vwCl (hx_A L sz) s.heap hL1 hl1 s H locs → hx_T T_tb hL1 hl1 → hx_S T_tb [(9, 1), (42, 0)] L h hL1 hl1 → hl1.2.1 x 1 = fw3_x_1 → lv_has ls 3 [(2, .int iv3_2), (0, .ref x), (1, .int i1)] → W p l e ({ frames := 0, cells := 0, slots := 0, locals := 0 }) s m ([.ref x, .int i1] : List Value).toArray below meth c H locs 0 0 (MQ below (va_Qv (fun (u : List Nat × hx_h) => hx_T T_tb u.1 u.2 ∧ hx_S T_tb [(9, 1), (42, 0)] L h u.1 u.2) (hx_E T_tb (P_ty dA) (dC, dI) vwCl (hx_A L sz)) (hx_A L sz)) ([.ref x, .int i1] : List Value).toArray s 0 0 (hx_A L sz)) (F0 m 3 ls []) := by
    intro n3
    induction n3 with
    | zero => intro iv3_2 fw3_x_1 H locs hL1 hl1 bliv3_2 buiv3_2 blfw3_x_1 bufw3_x_1  ls hn3; exfalso; omega
    | succ n3 ih3 =>
      intro iv3_2 fw3_x_1 H locs hL1 hl1 bliv3_2 buiv3_2 blfw3_x_1 bufw3_x_1  ls hn3 hW hT hM ffw3_x_1  hl
      refine lv_iload_n hx hb dX9_feedBytes_3 rfl (lv_at hl 0 rfl) ?_
      refine hb_if_lt (zx := iv3_2.toInt) (tgt := 46) hx hb rfl dX9_feedBytes_4 (by decide) (fun c_2 => ?_) (fun c_2 => ?_)
      · skip
        exact hx_retv hx hb hr hlk hW ⟨hT, hM⟩ dX9_feedBytes_46
      · skip
        refine lv_aload_n hx hb dX9_feedBytes_7 rfl (lv_at hl 1 rfl) ?_
        refine hk_geti hx hb hts hC_9 hown hW (gx.S hM) tt_9 1 (by decide) rfl kw_365 ⟨rfl, rfl, rfl⟩ ffw3_x_1 dX9_feedBytes_8 ?_
        refine lv_sipush (v := 400) hx hb dX9_feedBytes_11 (by decide) ?_
        refine hb_icmp_ge (zx := fw3_x_1.toInt) (zy := 400) (tgt := 46) hx hb rfl (by decide) dX9_feedBytes_14 (by decide) (fun c_3 => ?_) (fun c_3 => ?_)
        · skip
          exact hx_retv hx hb hr hlk hW ⟨hT, hM⟩ dX9_feedBytes_46
        · skip
          refine lv_aload_n hx hb dX9_feedBytes_17 rfl (lv_at hl 1 rfl) ?_
          refine hx_getn hx hb hts hC_9 hown hW hT (gx.S hM) tt_9 0 (by decide) rfl kw_364 ⟨rfl, rfl, rfl⟩ dX9_feedBytes_18 (fun q_4 fq_4 gq_4 => ?_)
          refine lv_aload_n hx hb dX9_feedBytes_21 rfl (lv_at hl 1 rfl) ?_
          refine hk_geti hx hb hts hC_9 hown hW (gx.S hM) tt_9 1 (by decide) rfl kw_365 ⟨rfl, rfl, rfl⟩ ffw3_x_1 dX9_feedBytes_22 ?_
          refine lv_iload_n hx hb dX9_feedBytes_25 rfl (lv_at hl 2 rfl) ?_
          refine lv_iload_n hx hb dX9_feedBytes_26 rfl (lv_at hl 0 rfl) ?_
          refine lv_ishr hx hb dX9_feedBytes_27 ?_
          refine lv_topi (fun x_5 ex_5 => ?_)
          refine lv_i2b hx hb dX9_feedBytes_28 rfl ?_
          refine lv_topi (fun x_6 ex_6 => ?_)
          refine hx_bast hx hb hW hT (hx_S.rf (M := [(42, 0)])) gq_4 tt_42 rfl ⟨by omega, by omega⟩ (y := _) rfl (hx_nb _) (List.mem_singleton.mpr rfl) dX9_feedBytes_29 (fun H locs h_7 eh_7 hW hT hs => ?_)
          replace ffw3_x_1 := (hs.o (gx.S hM) trivial rfl).1.trans ffw3_x_1
          replace fq_4 := (hs.o (gx.S hM) trivial rfl).2.trans fq_4
          replace hM := hM.tr (hs.mono (by decide))
          replace gq_4 := gq_4.S hs
          refine lv_aload_n hx hb dX9_feedBytes_30 rfl (lv_at hl 1 rfl) ?_
          refine lv_dup hx hb dX9_feedBytes_31 rfl ?_
          refine hk_geti hx hb hts hC_9 hown hW (gx.S hM) tt_9 1 (by decide) rfl kw_365 ⟨rfl, rfl, rfl⟩ ffw3_x_1 dX9_feedBytes_32 ?_
          refine lv_iconst (v := 1) hx hb dX9_feedBytes_35 (by decide) ?_
          refine lv_iadd hx hb dX9_feedBytes_36 ?_
          have rg_8 := i32_r fw3_x_1
          refine lv_topi (fun x_9 ex_9 => ?_)
          have zx_9 : x_9.toInt = fw3_x_1.toInt + 1 := by rw [ex_9]; exact i32_add rfl (by decide) (by omega) (by omega)
          refine hx_puti hx hb hts hC_9 hown hW hT (hx_S.rf (M := [(9, 1)])) (gx.S hM) tt_9 1 (by decide) rfl kw_365 ⟨rfl, rfl, rfl⟩ rfl (x := x_9) ⟨by omega, by omega⟩ rfl rfl rfl (List.mem_singleton.mpr rfl) dX9_feedBytes_37 (fun H locs h_10 eh_10 hW hT hs => ?_)
          replace fq_4 := (hs.o (gx.S hM) trivial rfl).2.trans fq_4
          replace hM := hM.tr (hs.mono (by decide))
          replace gq_4 := gq_4.S hs
          have f_11 : h_10.2.1 x 1 = x_9 := by rw [eh_10]; exact hx_pi_at _ _ _ _
          obtain ⟨x_12, ex_12⟩ : ∃ y : Int32, y = iv3_2 + Int32.ofInt (-8) := ⟨_, rfl⟩
          have rg_13 := i32_r iv3_2
          have zx_12 : x_12.toInt = iv3_2.toInt + (-8) := by rw [ex_12]; exact i32_add rfl (by decide) (by omega) (by omega)
          refine lv_iinc (v := x_12) (lv' := [(2, .int x_12), (0, .ref x), (1, .int i1)]) hx hb dX9_feedBytes_40 hl (k := 0) rfl ex_12.symm (by decide) rfl (fun ls hl => ?_)
          refine lv_goto (tgt := 3) hx hb dX9_feedBytes_43 (by decide) ?_
          exact ih3 x_12 x_9 _ _ hL1 h_10 (by omega) (by omega) (by omega) (by omega)  ls (by omega) hW hT hM f_11  (lv_sub hl [0, 1, 2] rfl)
  have zk_24 : (24 : Int32).toInt = 24 := by decide
  exact loop3 33 (24 : Int32) fv_1 _ _ L h (by decide) (by decide) (by omega) (by omega)  ls (by omega) hW hT hM ffv_1  hl

def wLX9_feed_0 : List Nat := [42, 180, 0, 98, 16, 20, 96, 17, 1, 144, 164, 0, 5, 2, 172, 42, 27, 182, 0, 101, 42, 28, 182, 0, 101, 42, 29, 182, 0, 101, 42, 21, 4, 182, 0, 101, 42, 21, 5, 182, 0, 101, 42, 180, 0, 98, 172]
theorem wX9_feed_0 : (cX9_feed.data.toList.map UInt8.toNat).drop 0 = wLX9_feed_0 ++ ([]) := by decide +kernel
theorem dX9_feed_0 : decode cX9_feed 0 = .ok (.aload_n 0, 1) := dq_42 (hz_wg wX9_feed_0 (j := 0) (n := 42) rfl)
theorem dX9_feed_1 : decode cX9_feed 1 = .ok (.getfield 98, 3) := dq_180 (hz_wg wX9_feed_0 (j := 1) (n := 180) rfl) (hz_wg wX9_feed_0 (j := 2) (n := 0) rfl) (hz_wg wX9_feed_0 (j := 3) (n := 98) rfl) rfl
theorem dX9_feed_4 : decode cX9_feed 4 = .ok (.bipush 20, 2) := dq_16 (hz_wg wX9_feed_0 (j := 4) (n := 16) rfl) (hz_wg wX9_feed_0 (j := 5) (n := 20) rfl) (by decide)
theorem dX9_feed_6 : decode cX9_feed 6 = .ok (.iadd, 1) := dq_96 (hz_wg wX9_feed_0 (j := 6) (n := 96) rfl)
theorem dX9_feed_7 : decode cX9_feed 7 = .ok (.sipush 400, 3) := dq_17 (hz_wg wX9_feed_0 (j := 7) (n := 17) rfl) (hz_wg wX9_feed_0 (j := 8) (n := 1) rfl) (hz_wg wX9_feed_0 (j := 9) (n := 144) rfl) (by decide)
theorem dX9_feed_10 : decode cX9_feed 10 = .ok (.if_icmp .le 5, 3) := dq_164 (hz_wg wX9_feed_0 (j := 10) (n := 164) rfl) (hz_wg wX9_feed_0 (j := 11) (n := 0) rfl) (hz_wg wX9_feed_0 (j := 12) (n := 5) rfl) (by decide)
theorem dX9_feed_13 : decode cX9_feed 13 = .ok (.iconst (-1), 1) := dq_2 (hz_wg wX9_feed_0 (j := 13) (n := 2) rfl)
theorem dX9_feed_14 : decode cX9_feed 14 = .ok (.ireturn, 1) := dq_172 (hz_wg wX9_feed_0 (j := 14) (n := 172) rfl)
theorem dX9_feed_15 : decode cX9_feed 15 = .ok (.aload_n 0, 1) := dq_42 (hz_wg wX9_feed_0 (j := 15) (n := 42) rfl)
theorem dX9_feed_16 : decode cX9_feed 16 = .ok (.iload_n 1, 1) := dq_27 (hz_wg wX9_feed_0 (j := 16) (n := 27) rfl)
theorem dX9_feed_17 : decode cX9_feed 17 = .ok (.invokevirtual 101, 3) := dq_182 (hz_wg wX9_feed_0 (j := 17) (n := 182) rfl) (hz_wg wX9_feed_0 (j := 18) (n := 0) rfl) (hz_wg wX9_feed_0 (j := 19) (n := 101) rfl) rfl
theorem dX9_feed_20 : decode cX9_feed 20 = .ok (.aload_n 0, 1) := dq_42 (hz_wg wX9_feed_0 (j := 20) (n := 42) rfl)
theorem dX9_feed_21 : decode cX9_feed 21 = .ok (.iload_n 2, 1) := dq_28 (hz_wg wX9_feed_0 (j := 21) (n := 28) rfl)
theorem dX9_feed_22 : decode cX9_feed 22 = .ok (.invokevirtual 101, 3) := dq_182 (hz_wg wX9_feed_0 (j := 22) (n := 182) rfl) (hz_wg wX9_feed_0 (j := 23) (n := 0) rfl) (hz_wg wX9_feed_0 (j := 24) (n := 101) rfl) rfl
theorem dX9_feed_25 : decode cX9_feed 25 = .ok (.aload_n 0, 1) := dq_42 (hz_wg wX9_feed_0 (j := 25) (n := 42) rfl)
theorem dX9_feed_26 : decode cX9_feed 26 = .ok (.iload_n 3, 1) := dq_29 (hz_wg wX9_feed_0 (j := 26) (n := 29) rfl)
theorem dX9_feed_27 : decode cX9_feed 27 = .ok (.invokevirtual 101, 3) := dq_182 (hz_wg wX9_feed_0 (j := 27) (n := 182) rfl) (hz_wg wX9_feed_0 (j := 28) (n := 0) rfl) (hz_wg wX9_feed_0 (j := 29) (n := 101) rfl) rfl
theorem dX9_feed_30 : decode cX9_feed 30 = .ok (.aload_n 0, 1) := dq_42 (hz_wg wX9_feed_0 (j := 30) (n := 42) rfl)
theorem dX9_feed_31 : decode cX9_feed 31 = .ok (.iload 4, 2) := dq_21 (hz_wg wX9_feed_0 (j := 31) (n := 21) rfl) (hz_wg wX9_feed_0 (j := 32) (n := 4) rfl)
theorem dX9_feed_33 : decode cX9_feed 33 = .ok (.invokevirtual 101, 3) := dq_182 (hz_wg wX9_feed_0 (j := 33) (n := 182) rfl) (hz_wg wX9_feed_0 (j := 34) (n := 0) rfl) (hz_wg wX9_feed_0 (j := 35) (n := 101) rfl) rfl
theorem dX9_feed_36 : decode cX9_feed 36 = .ok (.aload_n 0, 1) := dq_42 (hz_wg wX9_feed_0 (j := 36) (n := 42) rfl)
theorem dX9_feed_37 : decode cX9_feed 37 = .ok (.iload 5, 2) := dq_21 (hz_wg wX9_feed_0 (j := 37) (n := 21) rfl) (hz_wg wX9_feed_0 (j := 38) (n := 5) rfl)
theorem dX9_feed_39 : decode cX9_feed 39 = .ok (.invokevirtual 101, 3) := dq_182 (hz_wg wX9_feed_0 (j := 39) (n := 182) rfl) (hz_wg wX9_feed_0 (j := 40) (n := 0) rfl) (hz_wg wX9_feed_0 (j := 41) (n := 101) rfl) rfl
theorem dX9_feed_42 : decode cX9_feed 42 = .ok (.aload_n 0, 1) := dq_42 (hz_wg wX9_feed_0 (j := 42) (n := 42) rfl)
theorem dX9_feed_43 : decode cX9_feed 43 = .ok (.getfield 98, 3) := dq_180 (hz_wg wX9_feed_0 (j := 43) (n := 180) rfl) (hz_wg wX9_feed_0 (j := 44) (n := 0) rfl) (hz_wg wX9_feed_0 (j := 45) (n := 98) rfl) rfl
theorem dX9_feed_46 : decode cX9_feed 46 = .ok (.ireturn, 1) := dq_172 (hz_wg wX9_feed_0 (j := 46) (n := 172) rfl)
set_option maxHeartbeats 4000000 in
set_option maxRecDepth 100000 in
theorem t_X9_feed (l : Launch) (dC : Nat → ClassId) (dI : Nat → Nat → Nat) (dA : Nat → ClassId) (L : List Nat) (h : hx_h) (sz : Nat) (x : Nat) (i1 : Int32) (i2 : Int32) (i3 : Int32) (i4 : Int32) (i5 : Int32) (hT : hx_T T_tb L h) (gx : hx_g L h x 9)  : Met l yX9_feed (Cond.code yX9_feed cX9_feed 6 (some .int) :: hx_all) ({ frames := 1, cells := 0, slots := 0, locals := 22 }) (va_Pc [.ref x, .int i1, .int i2, .int i3, .int i4, .int i5] (hx_B T_tb (P_ty dA) (dC, dI) vwCl L h sz)) (va_Qi (fun (r : Int32) (u : List Nat × hx_h) => (True) ∧ hx_T T_tb u.1 u.2 ∧ hx_S T_tb [(9, 1), (42, 0)] L h u.1 u.2) (hx_E T_tb (P_ty dA) (dC, dI) vwCl (hx_A L sz)) (hx_A L sz)) 0 0 (hx_A L sz) := by
  refine hx_met (lv := [(0, .ref x), (1, .int i1), (2, .int i2), (3, .int i3), (4, .int i4), (5, .int i5)]) (by decide +kernel) rfl (Nat.le_of_ble_eq_true rfl) rfl ?_
  intro p e s m below meth c hx hb hml hr hlk hts0 hown hin hsz hW ls hl
  have hts : ∀ w ∈ hx_all, w.before _ s = true := fun w hw => hts0 w (List.mem_cons_of_mem _ hw)
  have hown : s.vm.findClass "SmallCourt" = some m.cls := hown
  have hM : hx_S T_tb [(9, 1), (42, 0)] L h L h := hx_S.rf
  refine lv_aload_n hx hb dX9_feed_0 rfl (lv_at hl 0 rfl) ?_
  refine hx_geti hx hb hts hC_9 hown hW hT (gx.S hM) tt_9 1 (by decide) rfl kw_365 ⟨rfl, rfl, rfl⟩ dX9_feed_1 (fun x_1 ex_1 lx_1 ux_1 => ?_)
  have fx_1 := ex_1.symm
  refine lv_bipush (v := 20) hx hb dX9_feed_4 (by decide) ?_
  refine lv_iadd hx hb dX9_feed_6 ?_
  have rg_2 := i32_r x_1
  refine lv_topi (fun x_3 ex_3 => ?_)
  have zx_3 : x_3.toInt = x_1.toInt + 20 := by rw [ex_3]; exact i32_add rfl (by decide) (by omega) (by omega)
  refine lv_sipush (v := 400) hx hb dX9_feed_7 (by decide) ?_
  refine hb_icmp_le (zx := x_3.toInt) (zy := 400) (tgt := 15) hx hb rfl (by decide) dX9_feed_10 (by decide) (fun c_4 => ?_) (fun c_4 => ?_)
  · skip
    refine lv_aload_n hx hb dX9_feed_15 rfl (lv_at hl 0 rfl) ?_
    refine lv_iload_n hx hb dX9_feed_16 rfl (lv_at hl 1 rfl) ?_
    refine hx_gov (hx_runV (As := [.int i1]) (rest := []) ⟨hx, hb, hml, hown, hts⟩ hW (gx.S hM) tt_9 (T := TX9) (N := 20) rfl (t_X9_feedBytes l dC dI dA L h s.heap.size x i1 hT (gx.S hM)) (cwV 1 hts (hx_gV kw_442 kw_439 kw_441 kw_0 kw_94) rfl rfl rfl (by decide +kernel) ⟨Nat.le_of_ble_eq_true rfl, Nat.le_of_ble_eq_true rfl⟩) rfl hl.1 rfl (Nat.le_of_ble_eq_true rfl) dX9_feed_17 ⟨Nat.le_of_ble_eq_true rfl, Nat.le_of_ble_eq_true rfl⟩) hW (fun L_5 h_6 H locs p_8 hW => ?_)
    obtain ⟨hT, hs⟩ := p_8
    replace hT : hx_T T_tb L_5 h_6 := hT
    replace hs : hx_S T_tb [(9, 1), (42, 0)] L h L_5 h_6 := hs
    replace hM := hM.tr (hs.mono (by decide))
    refine lv_aload_n hx hb dX9_feed_20 rfl (lv_at hl 0 rfl) ?_
    refine lv_iload_n hx hb dX9_feed_21 rfl (lv_at hl 2 rfl) ?_
    refine hx_gov (hx_runV (As := [.int i2]) (rest := []) ⟨hx, hb, hml, hown, hts⟩ hW (gx.S hM) tt_9 (T := TX9) (N := 20) rfl (t_X9_feedBytes l dC dI dA L_5 h_6 H.size x i2 hT (gx.S hM)) (cwV 1 hts (hx_gV kw_442 kw_439 kw_441 kw_0 kw_94) rfl rfl rfl (by decide +kernel) ⟨Nat.le_of_ble_eq_true rfl, Nat.le_of_ble_eq_true rfl⟩) rfl hl.1 rfl (Nat.le_of_ble_eq_true rfl) dX9_feed_22 ⟨Nat.le_of_ble_eq_true rfl, Nat.le_of_ble_eq_true rfl⟩) hW (fun L_10 h_11 H locs p_13 hW => ?_)
    obtain ⟨hT, hs⟩ := p_13
    replace hT : hx_T T_tb L_10 h_11 := hT
    replace hs : hx_S T_tb [(9, 1), (42, 0)] L_5 h_6 L_10 h_11 := hs
    replace hM := hM.tr (hs.mono (by decide))
    refine lv_aload_n hx hb dX9_feed_25 rfl (lv_at hl 0 rfl) ?_
    refine lv_iload_n hx hb dX9_feed_26 rfl (lv_at hl 3 rfl) ?_
    refine hx_gov (hx_runV (As := [.int i3]) (rest := []) ⟨hx, hb, hml, hown, hts⟩ hW (gx.S hM) tt_9 (T := TX9) (N := 20) rfl (t_X9_feedBytes l dC dI dA L_10 h_11 H.size x i3 hT (gx.S hM)) (cwV 1 hts (hx_gV kw_442 kw_439 kw_441 kw_0 kw_94) rfl rfl rfl (by decide +kernel) ⟨Nat.le_of_ble_eq_true rfl, Nat.le_of_ble_eq_true rfl⟩) rfl hl.1 rfl (Nat.le_of_ble_eq_true rfl) dX9_feed_27 ⟨Nat.le_of_ble_eq_true rfl, Nat.le_of_ble_eq_true rfl⟩) hW (fun L_15 h_16 H locs p_18 hW => ?_)
    obtain ⟨hT, hs⟩ := p_18
    replace hT : hx_T T_tb L_15 h_16 := hT
    replace hs : hx_S T_tb [(9, 1), (42, 0)] L_10 h_11 L_15 h_16 := hs
    replace hM := hM.tr (hs.mono (by decide))
    refine lv_aload_n hx hb dX9_feed_30 rfl (lv_at hl 0 rfl) ?_
    refine lv_iload hx hb dX9_feed_31 (lv_at hl 4 rfl) ?_
    refine hx_gov (hx_runV (As := [.int i4]) (rest := []) ⟨hx, hb, hml, hown, hts⟩ hW (gx.S hM) tt_9 (T := TX9) (N := 20) rfl (t_X9_feedBytes l dC dI dA L_15 h_16 H.size x i4 hT (gx.S hM)) (cwV 1 hts (hx_gV kw_442 kw_439 kw_441 kw_0 kw_94) rfl rfl rfl (by decide +kernel) ⟨Nat.le_of_ble_eq_true rfl, Nat.le_of_ble_eq_true rfl⟩) rfl hl.1 rfl (Nat.le_of_ble_eq_true rfl) dX9_feed_33 ⟨Nat.le_of_ble_eq_true rfl, Nat.le_of_ble_eq_true rfl⟩) hW (fun L_20 h_21 H locs p_23 hW => ?_)
    obtain ⟨hT, hs⟩ := p_23
    replace hT : hx_T T_tb L_20 h_21 := hT
    replace hs : hx_S T_tb [(9, 1), (42, 0)] L_15 h_16 L_20 h_21 := hs
    replace hM := hM.tr (hs.mono (by decide))
    refine lv_aload_n hx hb dX9_feed_36 rfl (lv_at hl 0 rfl) ?_
    refine lv_iload hx hb dX9_feed_37 (lv_at hl 5 rfl) ?_
    refine hx_gov (hx_runV (As := [.int i5]) (rest := []) ⟨hx, hb, hml, hown, hts⟩ hW (gx.S hM) tt_9 (T := TX9) (N := 20) rfl (t_X9_feedBytes l dC dI dA L_20 h_21 H.size x i5 hT (gx.S hM)) (cwV 1 hts (hx_gV kw_442 kw_439 kw_441 kw_0 kw_94) rfl rfl rfl (by decide +kernel) ⟨Nat.le_of_ble_eq_true rfl, Nat.le_of_ble_eq_true rfl⟩) rfl hl.1 rfl (Nat.le_of_ble_eq_true rfl) dX9_feed_39 ⟨Nat.le_of_ble_eq_true rfl, Nat.le_of_ble_eq_true rfl⟩) hW (fun L_25 h_26 H locs p_28 hW => ?_)
    obtain ⟨hT, hs⟩ := p_28
    replace hT : hx_T T_tb L_25 h_26 := hT
    replace hs : hx_S T_tb [(9, 1), (42, 0)] L_20 h_21 L_25 h_26 := hs
    replace hM := hM.tr (hs.mono (by decide))
    refine lv_aload_n hx hb dX9_feed_42 rfl (lv_at hl 0 rfl) ?_
    refine hx_geti hx hb hts hC_9 hown hW hT (gx.S hM) tt_9 1 (by decide) rfl kw_365 ⟨rfl, rfl, rfl⟩ dX9_feed_43 (fun x_30 ex_30 lx_30 ux_30 => ?_)
    have fx_30 := ex_30.symm
    exact hx_reti hx hb hr hlk hW ⟨trivial, hT, hM⟩ dX9_feed_46
  · skip
    refine lv_iconst (v := -1) hx hb dX9_feed_13 (by decide) ?_
    exact hx_reti hx hb hr hlk hW ⟨trivial, hT, hM⟩ dX9_feed_14

theorem dX9_end_0 : decode cX9_end 0 = .ok (.iload_n 1, 1) := by decide +kernel
theorem dX9_end_1 : decode cX9_end 1 = .ok (.ifCond .lt 11, 3) := by decide +kernel
theorem dX9_end_4 : decode cX9_end 4 = .ok (.iload_n 1, 1) := by decide +kernel
theorem dX9_end_5 : decode cX9_end 5 = .ok (.aload_n 0, 1) := by decide +kernel
theorem dX9_end_6 : decode cX9_end 6 = .ok (.getfield 98, 3) := by decide +kernel
theorem dX9_end_9 : decode cX9_end 9 = .ok (.if_icmp .le 5, 3) := by decide +kernel
theorem dX9_end_12 : decode cX9_end 12 = .ok (.iconst (-1), 1) := by decide +kernel
theorem dX9_end_13 : decode cX9_end 13 = .ok (.ireturn, 1) := by decide +kernel
theorem dX9_end_14 : decode cX9_end 14 = .ok (.aload_n 0, 1) := by decide +kernel
theorem dX9_end_15 : decode cX9_end 15 = .ok (.iload_n 1, 1) := by decide +kernel
theorem dX9_end_16 : decode cX9_end 16 = .ok (.putfield 98, 3) := by decide +kernel
theorem dX9_end_19 : decode cX9_end 19 = .ok (.iload_n 1, 1) := by decide +kernel
theorem dX9_end_20 : decode cX9_end 20 = .ok (.ireturn, 1) := by decide +kernel
set_option maxHeartbeats 4000000 in
set_option maxRecDepth 100000 in
theorem t_X9_end (l : Launch) (dC : Nat → ClassId) (dI : Nat → Nat → Nat) (dA : Nat → ClassId) (L : List Nat) (h : hx_h) (sz : Nat) (x : Nat) (i1 : Int32) (hT : hx_T T_tb L h) (gx : hx_g L h x 9)  : Met l yX9_end (Cond.code yX9_end cX9_end 2 (some .int) :: hx_all) ({ frames := 0, cells := 0, slots := 0, locals := 0 }) (va_Pc [.ref x, .int i1] (hx_B T_tb (P_ty dA) (dC, dI) vwCl L h sz)) (va_Qi (fun (r : Int32) (u : List Nat × hx_h) => (True) ∧ hx_T T_tb u.1 u.2 ∧ hx_S T_tb [(9, 1)] L h u.1 u.2) (hx_E T_tb (P_ty dA) (dC, dI) vwCl (hx_A L sz)) (hx_A L sz)) 0 0 (hx_A L sz) := by
  refine hx_met (lv := [(0, .ref x), (1, .int i1)]) (by decide +kernel) rfl (Nat.le_of_ble_eq_true rfl) rfl ?_
  intro p e s m below meth c hx hb hml hr hlk hts0 hown hin hsz hW ls hl
  have hts : ∀ w ∈ hx_all, w.before _ s = true := fun w hw => hts0 w (List.mem_cons_of_mem _ hw)
  have hown : s.vm.findClass "SmallCourt" = some m.cls := hown
  have hM : hx_S T_tb [(9, 1)] L h L h := hx_S.rf
  refine lv_iload_n hx hb dX9_end_0 rfl (lv_at hl 1 rfl) ?_
  refine hb_if_lt (zx := i1.toInt) (tgt := 12) hx hb rfl dX9_end_1 (by decide) (fun c_1 => ?_) (fun c_1 => ?_)
  · skip
    refine lv_iconst (v := -1) hx hb dX9_end_12 (by decide) ?_
    exact hx_reti hx hb hr hlk hW ⟨trivial, hT, hM⟩ dX9_end_13
  · skip
    refine lv_iload_n hx hb dX9_end_4 rfl (lv_at hl 1 rfl) ?_
    refine lv_aload_n hx hb dX9_end_5 rfl (lv_at hl 0 rfl) ?_
    refine hx_geti hx hb hts hC_9 hown hW hT (gx.S hM) tt_9 1 (by decide) rfl kw_365 ⟨rfl, rfl, rfl⟩ dX9_end_6 (fun x_2 ex_2 lx_2 ux_2 => ?_)
    have fx_2 := ex_2.symm
    refine hb_icmp_le (zx := i1.toInt) (zy := x_2.toInt) (tgt := 14) hx hb rfl rfl dX9_end_9 (by decide) (fun c_3 => ?_) (fun c_3 => ?_)
    · skip
      refine lv_aload_n hx hb dX9_end_14 rfl (lv_at hl 0 rfl) ?_
      refine lv_iload_n hx hb dX9_end_15 rfl (lv_at hl 1 rfl) ?_
      refine hx_puti hx hb hts hC_9 hown hW hT (hx_S.rf (M := [(9, 1)])) (gx.S hM) tt_9 1 (by decide) rfl kw_365 ⟨rfl, rfl, rfl⟩ rfl (x := i1) ⟨by omega, by omega⟩ rfl rfl rfl (List.mem_singleton.mpr rfl) dX9_end_16 (fun H locs h_4 eh_4 hW hT hs => ?_)
      replace hM := hM.tr (hs.mono (by decide))
      have f_5 : h_4.2.1 x 1 = i1 := by rw [eh_4]; exact hx_pi_at _ _ _ _
      refine lv_iload_n hx hb dX9_end_19 rfl (lv_at hl 1 rfl) ?_
      exact hx_reti hx hb hr hlk hW ⟨trivial, hT, hM⟩ dX9_end_20
    · skip
      refine lv_iconst (v := -1) hx hb dX9_end_12 (by decide) ?_
      exact hx_reti hx hb hr hlk hW ⟨trivial, hT, hM⟩ dX9_end_13

def wLX9_anew_0 : List Nat := [42, 27, 182, 0, 144, 58, 6, 25, 6, 198, 0, 23, 25, 6, 180, 0, 148, 154, 0, 15, 28, 29, 21, 4, 21, 5, 184, 0, 132, 154, 0, 5, 3, 172, 25, 6, 28, 29, 21, 4, 21, 5, 182, 0, 139, 4, 172]
theorem wX9_anew_0 : (cX9_anew.data.toList.map UInt8.toNat).drop 0 = wLX9_anew_0 ++ ([]) := by decide +kernel
theorem dX9_anew_0 : decode cX9_anew 0 = .ok (.aload_n 0, 1) := dq_42 (hz_wg wX9_anew_0 (j := 0) (n := 42) rfl)
theorem dX9_anew_1 : decode cX9_anew 1 = .ok (.iload_n 1, 1) := dq_27 (hz_wg wX9_anew_0 (j := 1) (n := 27) rfl)
theorem dX9_anew_2 : decode cX9_anew 2 = .ok (.invokevirtual 144, 3) := dq_182 (hz_wg wX9_anew_0 (j := 2) (n := 182) rfl) (hz_wg wX9_anew_0 (j := 3) (n := 0) rfl) (hz_wg wX9_anew_0 (j := 4) (n := 144) rfl) rfl
theorem dX9_anew_5 : decode cX9_anew 5 = .ok (.astore 6, 2) := dq_58 (hz_wg wX9_anew_0 (j := 5) (n := 58) rfl) (hz_wg wX9_anew_0 (j := 6) (n := 6) rfl)
theorem dX9_anew_7 : decode cX9_anew 7 = .ok (.aload 6, 2) := dq_25 (hz_wg wX9_anew_0 (j := 7) (n := 25) rfl) (hz_wg wX9_anew_0 (j := 8) (n := 6) rfl)
theorem dX9_anew_9 : decode cX9_anew 9 = .ok (.ifnull 23, 3) := dq_198 (hz_wg wX9_anew_0 (j := 9) (n := 198) rfl) (hz_wg wX9_anew_0 (j := 10) (n := 0) rfl) (hz_wg wX9_anew_0 (j := 11) (n := 23) rfl) (by decide)
theorem dX9_anew_12 : decode cX9_anew 12 = .ok (.aload 6, 2) := dq_25 (hz_wg wX9_anew_0 (j := 12) (n := 25) rfl) (hz_wg wX9_anew_0 (j := 13) (n := 6) rfl)
theorem dX9_anew_14 : decode cX9_anew 14 = .ok (.getfield 148, 3) := dq_180 (hz_wg wX9_anew_0 (j := 14) (n := 180) rfl) (hz_wg wX9_anew_0 (j := 15) (n := 0) rfl) (hz_wg wX9_anew_0 (j := 16) (n := 148) rfl) rfl
theorem dX9_anew_17 : decode cX9_anew 17 = .ok (.ifCond .ne 15, 3) := dq_154 (hz_wg wX9_anew_0 (j := 17) (n := 154) rfl) (hz_wg wX9_anew_0 (j := 18) (n := 0) rfl) (hz_wg wX9_anew_0 (j := 19) (n := 15) rfl) (by decide)
theorem dX9_anew_20 : decode cX9_anew 20 = .ok (.iload_n 2, 1) := dq_28 (hz_wg wX9_anew_0 (j := 20) (n := 28) rfl)
theorem dX9_anew_21 : decode cX9_anew 21 = .ok (.iload_n 3, 1) := dq_29 (hz_wg wX9_anew_0 (j := 21) (n := 29) rfl)
theorem dX9_anew_22 : decode cX9_anew 22 = .ok (.iload 4, 2) := dq_21 (hz_wg wX9_anew_0 (j := 22) (n := 21) rfl) (hz_wg wX9_anew_0 (j := 23) (n := 4) rfl)
theorem dX9_anew_24 : decode cX9_anew 24 = .ok (.iload 5, 2) := dq_21 (hz_wg wX9_anew_0 (j := 24) (n := 21) rfl) (hz_wg wX9_anew_0 (j := 25) (n := 5) rfl)
theorem dX9_anew_26 : decode cX9_anew 26 = .ok (.invokestatic 132, 3) := dq_184 (hz_wg wX9_anew_0 (j := 26) (n := 184) rfl) (hz_wg wX9_anew_0 (j := 27) (n := 0) rfl) (hz_wg wX9_anew_0 (j := 28) (n := 132) rfl) rfl
theorem dX9_anew_29 : decode cX9_anew 29 = .ok (.ifCond .ne 5, 3) := dq_154 (hz_wg wX9_anew_0 (j := 29) (n := 154) rfl) (hz_wg wX9_anew_0 (j := 30) (n := 0) rfl) (hz_wg wX9_anew_0 (j := 31) (n := 5) rfl) (by decide)
theorem dX9_anew_32 : decode cX9_anew 32 = .ok (.iconst 0, 1) := dq_3 (hz_wg wX9_anew_0 (j := 32) (n := 3) rfl)
theorem dX9_anew_33 : decode cX9_anew 33 = .ok (.ireturn, 1) := dq_172 (hz_wg wX9_anew_0 (j := 33) (n := 172) rfl)
theorem dX9_anew_34 : decode cX9_anew 34 = .ok (.aload 6, 2) := dq_25 (hz_wg wX9_anew_0 (j := 34) (n := 25) rfl) (hz_wg wX9_anew_0 (j := 35) (n := 6) rfl)
theorem dX9_anew_36 : decode cX9_anew 36 = .ok (.iload_n 2, 1) := dq_28 (hz_wg wX9_anew_0 (j := 36) (n := 28) rfl)
theorem dX9_anew_37 : decode cX9_anew 37 = .ok (.iload_n 3, 1) := dq_29 (hz_wg wX9_anew_0 (j := 37) (n := 29) rfl)
theorem dX9_anew_38 : decode cX9_anew 38 = .ok (.iload 4, 2) := dq_21 (hz_wg wX9_anew_0 (j := 38) (n := 21) rfl) (hz_wg wX9_anew_0 (j := 39) (n := 4) rfl)
theorem dX9_anew_40 : decode cX9_anew 40 = .ok (.iload 5, 2) := dq_21 (hz_wg wX9_anew_0 (j := 40) (n := 21) rfl) (hz_wg wX9_anew_0 (j := 41) (n := 5) rfl)
theorem dX9_anew_42 : decode cX9_anew 42 = .ok (.invokevirtual 139, 3) := dq_182 (hz_wg wX9_anew_0 (j := 42) (n := 182) rfl) (hz_wg wX9_anew_0 (j := 43) (n := 0) rfl) (hz_wg wX9_anew_0 (j := 44) (n := 139) rfl) rfl
theorem dX9_anew_45 : decode cX9_anew 45 = .ok (.iconst 1, 1) := dq_4 (hz_wg wX9_anew_0 (j := 45) (n := 4) rfl)
theorem dX9_anew_46 : decode cX9_anew 46 = .ok (.ireturn, 1) := dq_172 (hz_wg wX9_anew_0 (j := 46) (n := 172) rfl)
theorem dX9_dies_0 : decode cX9_dies 0 = .ok (.aload_n 0, 1) := by decide +kernel
theorem dX9_dies_1 : decode cX9_dies 1 = .ok (.iload_n 1, 1) := by decide +kernel
theorem dX9_dies_2 : decode cX9_dies 2 = .ok (.invokevirtual 144, 3) := by decide +kernel
theorem dX9_dies_5 : decode cX9_dies 5 = .ok (.astore_n 2, 1) := by decide +kernel
theorem dX9_dies_6 : decode cX9_dies 6 = .ok (.aload_n 2, 1) := by decide +kernel
theorem dX9_dies_7 : decode cX9_dies 7 = .ok (.ifnull 10, 3) := by decide +kernel
theorem dX9_dies_10 : decode cX9_dies 10 = .ok (.aload_n 2, 1) := by decide +kernel
theorem dX9_dies_11 : decode cX9_dies 11 = .ok (.getfield 148, 3) := by decide +kernel
theorem dX9_dies_14 : decode cX9_dies 14 = .ok (.ifCond .eq 5, 3) := by decide +kernel
theorem dX9_dies_17 : decode cX9_dies 17 = .ok (.iconst 0, 1) := by decide +kernel
theorem dX9_dies_18 : decode cX9_dies 18 = .ok (.ireturn, 1) := by decide +kernel
theorem dX9_dies_19 : decode cX9_dies 19 = .ok (.aload_n 2, 1) := by decide +kernel
theorem dX9_dies_20 : decode cX9_dies 20 = .ok (.iconst 1, 1) := by decide +kernel
theorem dX9_dies_21 : decode cX9_dies 21 = .ok (.putfield 148, 3) := by decide +kernel
theorem dX9_dies_24 : decode cX9_dies 24 = .ok (.iconst 1, 1) := by decide +kernel
theorem dX9_dies_25 : decode cX9_dies 25 = .ok (.ireturn, 1) := by decide +kernel
theorem dX9_judge_0 : decode cX9_judge 0 = .ok (.aload_n 0, 1) := by decide +kernel
theorem dX9_judge_1 : decode cX9_judge 1 = .ok (.iload_n 1, 1) := by decide +kernel
theorem dX9_judge_2 : decode cX9_judge 2 = .ok (.invokevirtual 144, 3) := by decide +kernel
theorem dX9_judge_5 : decode cX9_judge 5 = .ok (.astore_n 3, 1) := by decide +kernel
theorem dX9_judge_6 : decode cX9_judge 6 = .ok (.aload_n 3, 1) := by decide +kernel
theorem dX9_judge_7 : decode cX9_judge 7 = .ok (.ifnull 11, 3) := by decide +kernel
theorem dX9_judge_10 : decode cX9_judge 10 = .ok (.aload_n 3, 1) := by decide +kernel
theorem dX9_judge_11 : decode cX9_judge 11 = .ok (.getfield 152, 3) := by decide +kernel
theorem dX9_judge_14 : decode cX9_judge 14 = .ok (.iload_n 2, 1) := by decide +kernel
theorem dX9_judge_15 : decode cX9_judge 15 = .ok (.if_icmp .ne 5, 3) := by decide +kernel
theorem dX9_judge_18 : decode cX9_judge 18 = .ok (.iconst 0, 1) := by decide +kernel
theorem dX9_judge_19 : decode cX9_judge 19 = .ok (.ireturn, 1) := by decide +kernel
theorem dX9_judge_20 : decode cX9_judge 20 = .ok (.aload_n 3, 1) := by decide +kernel
theorem dX9_judge_21 : decode cX9_judge 21 = .ok (.iload_n 2, 1) := by decide +kernel
theorem dX9_judge_22 : decode cX9_judge 22 = .ok (.putfield 152, 3) := by decide +kernel
theorem dX9_judge_25 : decode cX9_judge 25 = .ok (.aload_n 3, 1) := by decide +kernel
theorem dX9_judge_26 : decode cX9_judge 26 = .ok (.iconst 1, 1) := by decide +kernel
theorem dX9_judge_27 : decode cX9_judge 27 = .ok (.putfield 155, 3) := by decide +kernel
theorem dX9_judge_30 : decode cX9_judge 30 = .ok (.iconst 1, 1) := by decide +kernel
theorem dX9_judge_31 : decode cX9_judge 31 = .ok (.ireturn, 1) := by decide +kernel
def wLX9_line_0 : List Nat := [42, 180, 0, 42, 180, 0, 158, 17, 1, 144, 162, 0, 46, 42, 27, 28, 182, 0, 161, 153, 0, 37, 29, 3, 42, 180, 0, 94, 184, 0, 128, 153, 0, 25, 21, 4, 3, 6, 184, 0, 128, 153, 0, 15, 21, 5, 4, 17, 39, 15, 184, 0, 128, 154, 0, 5, 2, 172, 42, 180, 0, 42, 27, 28]
def wLX9_line_1 : List Nat := [29, 21, 4, 21, 5, 182, 0, 165, 42, 180, 0, 42, 180, 0, 158, 172]
theorem wX9_line_0 : (cX9_line.data.toList.map UInt8.toNat).drop 0 = wLX9_line_0 ++ (wLX9_line_1 ++ ([])) := by decide +kernel
theorem wX9_line_1 : (cX9_line.data.toList.map UInt8.toNat).drop 64 = wLX9_line_1 ++ ([]) := hz_wn wX9_line_0 rfl
theorem dX9_line_0 : decode cX9_line 0 = .ok (.aload_n 0, 1) := dq_42 (hz_wg wX9_line_0 (j := 0) (n := 42) rfl)
theorem dX9_line_1 : decode cX9_line 1 = .ok (.getfield 42, 3) := dq_180 (hz_wg wX9_line_0 (j := 1) (n := 180) rfl) (hz_wg wX9_line_0 (j := 2) (n := 0) rfl) (hz_wg wX9_line_0 (j := 3) (n := 42) rfl) rfl
theorem dX9_line_4 : decode cX9_line 4 = .ok (.getfield 158, 3) := dq_180 (hz_wg wX9_line_0 (j := 4) (n := 180) rfl) (hz_wg wX9_line_0 (j := 5) (n := 0) rfl) (hz_wg wX9_line_0 (j := 6) (n := 158) rfl) rfl
theorem dX9_line_7 : decode cX9_line 7 = .ok (.sipush 400, 3) := dq_17 (hz_wg wX9_line_0 (j := 7) (n := 17) rfl) (hz_wg wX9_line_0 (j := 8) (n := 1) rfl) (hz_wg wX9_line_0 (j := 9) (n := 144) rfl) (by decide)
theorem dX9_line_10 : decode cX9_line 10 = .ok (.if_icmp .ge 46, 3) := dq_162 (hz_wg wX9_line_0 (j := 10) (n := 162) rfl) (hz_wg wX9_line_0 (j := 11) (n := 0) rfl) (hz_wg wX9_line_0 (j := 12) (n := 46) rfl) (by decide)
theorem dX9_line_13 : decode cX9_line 13 = .ok (.aload_n 0, 1) := dq_42 (hz_wg wX9_line_0 (j := 13) (n := 42) rfl)
theorem dX9_line_14 : decode cX9_line 14 = .ok (.iload_n 1, 1) := dq_27 (hz_wg wX9_line_0 (j := 14) (n := 27) rfl)
theorem dX9_line_15 : decode cX9_line 15 = .ok (.iload_n 2, 1) := dq_28 (hz_wg wX9_line_0 (j := 15) (n := 28) rfl)
theorem dX9_line_16 : decode cX9_line 16 = .ok (.invokevirtual 161, 3) := dq_182 (hz_wg wX9_line_0 (j := 16) (n := 182) rfl) (hz_wg wX9_line_0 (j := 17) (n := 0) rfl) (hz_wg wX9_line_0 (j := 18) (n := 161) rfl) rfl
theorem dX9_line_19 : decode cX9_line 19 = .ok (.ifCond .eq 37, 3) := dq_153 (hz_wg wX9_line_0 (j := 19) (n := 153) rfl) (hz_wg wX9_line_0 (j := 20) (n := 0) rfl) (hz_wg wX9_line_0 (j := 21) (n := 37) rfl) (by decide)
theorem dX9_line_22 : decode cX9_line 22 = .ok (.iload_n 3, 1) := dq_29 (hz_wg wX9_line_0 (j := 22) (n := 29) rfl)
theorem dX9_line_23 : decode cX9_line 23 = .ok (.iconst 0, 1) := dq_3 (hz_wg wX9_line_0 (j := 23) (n := 3) rfl)
theorem dX9_line_24 : decode cX9_line 24 = .ok (.aload_n 0, 1) := dq_42 (hz_wg wX9_line_0 (j := 24) (n := 42) rfl)
theorem dX9_line_25 : decode cX9_line 25 = .ok (.getfield 94, 3) := dq_180 (hz_wg wX9_line_0 (j := 25) (n := 180) rfl) (hz_wg wX9_line_0 (j := 26) (n := 0) rfl) (hz_wg wX9_line_0 (j := 27) (n := 94) rfl) rfl
theorem dX9_line_28 : decode cX9_line 28 = .ok (.invokestatic 128, 3) := dq_184 (hz_wg wX9_line_0 (j := 28) (n := 184) rfl) (hz_wg wX9_line_0 (j := 29) (n := 0) rfl) (hz_wg wX9_line_0 (j := 30) (n := 128) rfl) rfl
theorem dX9_line_31 : decode cX9_line 31 = .ok (.ifCond .eq 25, 3) := dq_153 (hz_wg wX9_line_0 (j := 31) (n := 153) rfl) (hz_wg wX9_line_0 (j := 32) (n := 0) rfl) (hz_wg wX9_line_0 (j := 33) (n := 25) rfl) (by decide)
theorem dX9_line_34 : decode cX9_line 34 = .ok (.iload 4, 2) := dq_21 (hz_wg wX9_line_0 (j := 34) (n := 21) rfl) (hz_wg wX9_line_0 (j := 35) (n := 4) rfl)
theorem dX9_line_36 : decode cX9_line 36 = .ok (.iconst 0, 1) := dq_3 (hz_wg wX9_line_0 (j := 36) (n := 3) rfl)
theorem dX9_line_37 : decode cX9_line 37 = .ok (.iconst 3, 1) := dq_6 (hz_wg wX9_line_0 (j := 37) (n := 6) rfl)
theorem dX9_line_38 : decode cX9_line 38 = .ok (.invokestatic 128, 3) := dq_184 (hz_wg wX9_line_0 (j := 38) (n := 184) rfl) (hz_wg wX9_line_0 (j := 39) (n := 0) rfl) (hz_wg wX9_line_0 (j := 40) (n := 128) rfl) rfl
theorem dX9_line_41 : decode cX9_line 41 = .ok (.ifCond .eq 15, 3) := dq_153 (hz_wg wX9_line_0 (j := 41) (n := 153) rfl) (hz_wg wX9_line_0 (j := 42) (n := 0) rfl) (hz_wg wX9_line_0 (j := 43) (n := 15) rfl) (by decide)
theorem dX9_line_44 : decode cX9_line 44 = .ok (.iload 5, 2) := dq_21 (hz_wg wX9_line_0 (j := 44) (n := 21) rfl) (hz_wg wX9_line_0 (j := 45) (n := 5) rfl)
theorem dX9_line_46 : decode cX9_line 46 = .ok (.iconst 1, 1) := dq_4 (hz_wg wX9_line_0 (j := 46) (n := 4) rfl)
theorem dX9_line_47 : decode cX9_line 47 = .ok (.sipush 9999, 3) := dq_17 (hz_wg wX9_line_0 (j := 47) (n := 17) rfl) (hz_wg wX9_line_0 (j := 48) (n := 39) rfl) (hz_wg wX9_line_0 (j := 49) (n := 15) rfl) (by decide)
theorem dX9_line_50 : decode cX9_line 50 = .ok (.invokestatic 128, 3) := dq_184 (hz_wg wX9_line_0 (j := 50) (n := 184) rfl) (hz_wg wX9_line_0 (j := 51) (n := 0) rfl) (hz_wg wX9_line_0 (j := 52) (n := 128) rfl) rfl
theorem dX9_line_53 : decode cX9_line 53 = .ok (.ifCond .ne 5, 3) := dq_154 (hz_wg wX9_line_0 (j := 53) (n := 154) rfl) (hz_wg wX9_line_0 (j := 54) (n := 0) rfl) (hz_wg wX9_line_0 (j := 55) (n := 5) rfl) (by decide)
theorem dX9_line_56 : decode cX9_line 56 = .ok (.iconst (-1), 1) := dq_2 (hz_wg wX9_line_0 (j := 56) (n := 2) rfl)
theorem dX9_line_57 : decode cX9_line 57 = .ok (.ireturn, 1) := dq_172 (hz_wg wX9_line_0 (j := 57) (n := 172) rfl)
theorem dX9_line_58 : decode cX9_line 58 = .ok (.aload_n 0, 1) := dq_42 (hz_wg wX9_line_0 (j := 58) (n := 42) rfl)
theorem dX9_line_59 : decode cX9_line 59 = .ok (.getfield 42, 3) := dq_180 (hz_wg wX9_line_0 (j := 59) (n := 180) rfl) (hz_wg wX9_line_0 (j := 60) (n := 0) rfl) (hz_wg wX9_line_0 (j := 61) (n := 42) rfl) rfl
theorem dX9_line_62 : decode cX9_line 62 = .ok (.iload_n 1, 1) := dq_27 (hz_wg wX9_line_0 (j := 62) (n := 27) rfl)
theorem dX9_line_63 : decode cX9_line 63 = .ok (.iload_n 2, 1) := dq_28 (hz_wg wX9_line_0 (j := 63) (n := 28) rfl)
theorem dX9_line_64 : decode cX9_line 64 = .ok (.iload_n 3, 1) := dq_29 (hz_wg wX9_line_1 (j := 0) (n := 29) rfl)
theorem dX9_line_65 : decode cX9_line 65 = .ok (.iload 4, 2) := dq_21 (hz_wg wX9_line_1 (j := 1) (n := 21) rfl) (hz_wg wX9_line_1 (j := 2) (n := 4) rfl)
theorem dX9_line_67 : decode cX9_line 67 = .ok (.iload 5, 2) := dq_21 (hz_wg wX9_line_1 (j := 3) (n := 21) rfl) (hz_wg wX9_line_1 (j := 4) (n := 5) rfl)
theorem dX9_line_69 : decode cX9_line 69 = .ok (.invokevirtual 165, 3) := dq_182 (hz_wg wX9_line_1 (j := 5) (n := 182) rfl) (hz_wg wX9_line_1 (j := 6) (n := 0) rfl) (hz_wg wX9_line_1 (j := 7) (n := 165) rfl) rfl
theorem dX9_line_72 : decode cX9_line 72 = .ok (.aload_n 0, 1) := dq_42 (hz_wg wX9_line_1 (j := 8) (n := 42) rfl)
theorem dX9_line_73 : decode cX9_line 73 = .ok (.getfield 42, 3) := dq_180 (hz_wg wX9_line_1 (j := 9) (n := 180) rfl) (hz_wg wX9_line_1 (j := 10) (n := 0) rfl) (hz_wg wX9_line_1 (j := 11) (n := 42) rfl) rfl
theorem dX9_line_76 : decode cX9_line 76 = .ok (.getfield 158, 3) := dq_180 (hz_wg wX9_line_1 (j := 12) (n := 180) rfl) (hz_wg wX9_line_1 (j := 13) (n := 0) rfl) (hz_wg wX9_line_1 (j := 14) (n := 158) rfl) rfl
theorem dX9_line_79 : decode cX9_line 79 = .ok (.ireturn, 1) := dq_172 (hz_wg wX9_line_1 (j := 15) (n := 172) rfl)
def wLX9_book_0 : List Nat := [42, 27, 28, 182, 0, 161, 153, 0, 10, 29, 184, 0, 90, 154, 0, 6, 18, 169, 172, 21, 4, 170, 0, 0, 0, 0, 0, 58, 0, 0, 0, 0, 0, 0, 0, 2, 0, 0, 0, 27, 0, 0, 0, 38, 0, 0, 0, 49, 42, 180, 0, 42, 27, 28, 29, 182, 0, 170, 172, 42, 180, 0, 42, 27]
def wLX9_book_1 : List Nat := [28, 29, 182, 0, 174, 172, 42, 180, 0, 42, 27, 182, 0, 177, 172, 18, 169, 172]
theorem wX9_book_0 : (cX9_book.data.toList.map UInt8.toNat).drop 0 = wLX9_book_0 ++ (wLX9_book_1 ++ ([])) := by decide +kernel
theorem wX9_book_1 : (cX9_book.data.toList.map UInt8.toNat).drop 64 = wLX9_book_1 ++ ([]) := hz_wn wX9_book_0 rfl
theorem dX9_book_0 : decode cX9_book 0 = .ok (.aload_n 0, 1) := dq_42 (hz_wg wX9_book_0 (j := 0) (n := 42) rfl)
theorem dX9_book_1 : decode cX9_book 1 = .ok (.iload_n 1, 1) := dq_27 (hz_wg wX9_book_0 (j := 1) (n := 27) rfl)
theorem dX9_book_2 : decode cX9_book 2 = .ok (.iload_n 2, 1) := dq_28 (hz_wg wX9_book_0 (j := 2) (n := 28) rfl)
theorem dX9_book_3 : decode cX9_book 3 = .ok (.invokevirtual 161, 3) := dq_182 (hz_wg wX9_book_0 (j := 3) (n := 182) rfl) (hz_wg wX9_book_0 (j := 4) (n := 0) rfl) (hz_wg wX9_book_0 (j := 5) (n := 161) rfl) rfl
theorem dX9_book_6 : decode cX9_book 6 = .ok (.ifCond .eq 10, 3) := dq_153 (hz_wg wX9_book_0 (j := 6) (n := 153) rfl) (hz_wg wX9_book_0 (j := 7) (n := 0) rfl) (hz_wg wX9_book_0 (j := 8) (n := 10) rfl) (by decide)
theorem dX9_book_9 : decode cX9_book 9 = .ok (.iload_n 3, 1) := dq_29 (hz_wg wX9_book_0 (j := 9) (n := 29) rfl)
theorem dX9_book_10 : decode cX9_book 10 = .ok (.invokestatic 90, 3) := dq_184 (hz_wg wX9_book_0 (j := 10) (n := 184) rfl) (hz_wg wX9_book_0 (j := 11) (n := 0) rfl) (hz_wg wX9_book_0 (j := 12) (n := 90) rfl) rfl
theorem dX9_book_13 : decode cX9_book 13 = .ok (.ifCond .ne 6, 3) := dq_154 (hz_wg wX9_book_0 (j := 13) (n := 154) rfl) (hz_wg wX9_book_0 (j := 14) (n := 0) rfl) (hz_wg wX9_book_0 (j := 15) (n := 6) rfl) (by decide)
theorem dX9_book_16 : decode cX9_book 16 = .ok (.ldc 169, 2) := dq_18 (hz_wg wX9_book_0 (j := 16) (n := 18) rfl) (hz_wg wX9_book_0 (j := 17) (n := 169) rfl)
theorem dX9_book_18 : decode cX9_book 18 = .ok (.ireturn, 1) := dq_172 (hz_wg wX9_book_0 (j := 18) (n := 172) rfl)
theorem dX9_book_19 : decode cX9_book 19 = .ok (.iload 4, 2) := dq_21 (hz_wg wX9_book_0 (j := 19) (n := 21) rfl) (hz_wg wX9_book_0 (j := 20) (n := 4) rfl)
theorem dX9_book_21 : decode cX9_book 21 = .ok (.tableswitch 58 0 2 #[27, 38, 49], 27) := by decide +kernel
theorem dX9_book_48 : decode cX9_book 48 = .ok (.aload_n 0, 1) := dq_42 (hz_wg wX9_book_0 (j := 48) (n := 42) rfl)
theorem dX9_book_49 : decode cX9_book 49 = .ok (.getfield 42, 3) := dq_180 (hz_wg wX9_book_0 (j := 49) (n := 180) rfl) (hz_wg wX9_book_0 (j := 50) (n := 0) rfl) (hz_wg wX9_book_0 (j := 51) (n := 42) rfl) rfl
theorem dX9_book_52 : decode cX9_book 52 = .ok (.iload_n 1, 1) := dq_27 (hz_wg wX9_book_0 (j := 52) (n := 27) rfl)
theorem dX9_book_53 : decode cX9_book 53 = .ok (.iload_n 2, 1) := dq_28 (hz_wg wX9_book_0 (j := 53) (n := 28) rfl)
theorem dX9_book_54 : decode cX9_book 54 = .ok (.iload_n 3, 1) := dq_29 (hz_wg wX9_book_0 (j := 54) (n := 29) rfl)
theorem dX9_book_55 : decode cX9_book 55 = .ok (.invokevirtual 170, 3) := dq_182 (hz_wg wX9_book_0 (j := 55) (n := 182) rfl) (hz_wg wX9_book_0 (j := 56) (n := 0) rfl) (hz_wg wX9_book_0 (j := 57) (n := 170) rfl) rfl
theorem dX9_book_58 : decode cX9_book 58 = .ok (.ireturn, 1) := dq_172 (hz_wg wX9_book_0 (j := 58) (n := 172) rfl)
theorem dX9_book_59 : decode cX9_book 59 = .ok (.aload_n 0, 1) := dq_42 (hz_wg wX9_book_0 (j := 59) (n := 42) rfl)
theorem dX9_book_60 : decode cX9_book 60 = .ok (.getfield 42, 3) := dq_180 (hz_wg wX9_book_0 (j := 60) (n := 180) rfl) (hz_wg wX9_book_0 (j := 61) (n := 0) rfl) (hz_wg wX9_book_0 (j := 62) (n := 42) rfl) rfl
theorem dX9_book_63 : decode cX9_book 63 = .ok (.iload_n 1, 1) := dq_27 (hz_wg wX9_book_0 (j := 63) (n := 27) rfl)
theorem dX9_book_64 : decode cX9_book 64 = .ok (.iload_n 2, 1) := dq_28 (hz_wg wX9_book_1 (j := 0) (n := 28) rfl)
theorem dX9_book_65 : decode cX9_book 65 = .ok (.iload_n 3, 1) := dq_29 (hz_wg wX9_book_1 (j := 1) (n := 29) rfl)
theorem dX9_book_66 : decode cX9_book 66 = .ok (.invokevirtual 174, 3) := dq_182 (hz_wg wX9_book_1 (j := 2) (n := 182) rfl) (hz_wg wX9_book_1 (j := 3) (n := 0) rfl) (hz_wg wX9_book_1 (j := 4) (n := 174) rfl) rfl
theorem dX9_book_69 : decode cX9_book 69 = .ok (.ireturn, 1) := dq_172 (hz_wg wX9_book_1 (j := 5) (n := 172) rfl)
theorem dX9_book_70 : decode cX9_book 70 = .ok (.aload_n 0, 1) := dq_42 (hz_wg wX9_book_1 (j := 6) (n := 42) rfl)
theorem dX9_book_71 : decode cX9_book 71 = .ok (.getfield 42, 3) := dq_180 (hz_wg wX9_book_1 (j := 7) (n := 180) rfl) (hz_wg wX9_book_1 (j := 8) (n := 0) rfl) (hz_wg wX9_book_1 (j := 9) (n := 42) rfl) rfl
theorem dX9_book_74 : decode cX9_book 74 = .ok (.iload_n 1, 1) := dq_27 (hz_wg wX9_book_1 (j := 10) (n := 27) rfl)
theorem dX9_book_75 : decode cX9_book 75 = .ok (.invokevirtual 177, 3) := dq_182 (hz_wg wX9_book_1 (j := 11) (n := 182) rfl) (hz_wg wX9_book_1 (j := 12) (n := 0) rfl) (hz_wg wX9_book_1 (j := 13) (n := 177) rfl) rfl
theorem dX9_book_78 : decode cX9_book 78 = .ok (.ireturn, 1) := dq_172 (hz_wg wX9_book_1 (j := 14) (n := 172) rfl)
theorem dX9_book_79 : decode cX9_book 79 = .ok (.ldc 169, 2) := dq_18 (hz_wg wX9_book_1 (j := 15) (n := 18) rfl) (hz_wg wX9_book_1 (j := 16) (n := 169) rfl)
theorem dX9_book_81 : decode cX9_book 81 = .ok (.ireturn, 1) := dq_172 (hz_wg wX9_book_1 (j := 17) (n := 172) rfl)
def wLX9_summons_0 : List Nat := [42, 27, 182, 0, 200, 78, 45, 198, 0, 11, 45, 180, 0, 204, 2, 159, 0, 5, 2, 172, 45, 89, 180, 0, 207, 4, 96, 181, 0, 207, 28, 153, 0, 11, 45, 42, 180, 0, 94, 181, 0, 204, 45, 180, 0, 207, 172]
theorem wX9_summons_0 : (cX9_summons.data.toList.map UInt8.toNat).drop 0 = wLX9_summons_0 ++ ([]) := by decide +kernel
theorem dX9_summons_0 : decode cX9_summons 0 = .ok (.aload_n 0, 1) := dq_42 (hz_wg wX9_summons_0 (j := 0) (n := 42) rfl)
theorem dX9_summons_1 : decode cX9_summons 1 = .ok (.iload_n 1, 1) := dq_27 (hz_wg wX9_summons_0 (j := 1) (n := 27) rfl)
theorem dX9_summons_2 : decode cX9_summons 2 = .ok (.invokevirtual 200, 3) := dq_182 (hz_wg wX9_summons_0 (j := 2) (n := 182) rfl) (hz_wg wX9_summons_0 (j := 3) (n := 0) rfl) (hz_wg wX9_summons_0 (j := 4) (n := 200) rfl) rfl
theorem dX9_summons_5 : decode cX9_summons 5 = .ok (.astore_n 3, 1) := dq_78 (hz_wg wX9_summons_0 (j := 5) (n := 78) rfl)
theorem dX9_summons_6 : decode cX9_summons 6 = .ok (.aload_n 3, 1) := dq_45 (hz_wg wX9_summons_0 (j := 6) (n := 45) rfl)
theorem dX9_summons_7 : decode cX9_summons 7 = .ok (.ifnull 11, 3) := dq_198 (hz_wg wX9_summons_0 (j := 7) (n := 198) rfl) (hz_wg wX9_summons_0 (j := 8) (n := 0) rfl) (hz_wg wX9_summons_0 (j := 9) (n := 11) rfl) (by decide)
theorem dX9_summons_10 : decode cX9_summons 10 = .ok (.aload_n 3, 1) := dq_45 (hz_wg wX9_summons_0 (j := 10) (n := 45) rfl)
theorem dX9_summons_11 : decode cX9_summons 11 = .ok (.getfield 204, 3) := dq_180 (hz_wg wX9_summons_0 (j := 11) (n := 180) rfl) (hz_wg wX9_summons_0 (j := 12) (n := 0) rfl) (hz_wg wX9_summons_0 (j := 13) (n := 204) rfl) rfl
theorem dX9_summons_14 : decode cX9_summons 14 = .ok (.iconst (-1), 1) := dq_2 (hz_wg wX9_summons_0 (j := 14) (n := 2) rfl)
theorem dX9_summons_15 : decode cX9_summons 15 = .ok (.if_icmp .eq 5, 3) := dq_159 (hz_wg wX9_summons_0 (j := 15) (n := 159) rfl) (hz_wg wX9_summons_0 (j := 16) (n := 0) rfl) (hz_wg wX9_summons_0 (j := 17) (n := 5) rfl) (by decide)
theorem dX9_summons_18 : decode cX9_summons 18 = .ok (.iconst (-1), 1) := dq_2 (hz_wg wX9_summons_0 (j := 18) (n := 2) rfl)
theorem dX9_summons_19 : decode cX9_summons 19 = .ok (.ireturn, 1) := dq_172 (hz_wg wX9_summons_0 (j := 19) (n := 172) rfl)
theorem dX9_summons_20 : decode cX9_summons 20 = .ok (.aload_n 3, 1) := dq_45 (hz_wg wX9_summons_0 (j := 20) (n := 45) rfl)
theorem dX9_summons_21 : decode cX9_summons 21 = .ok (.dup, 1) := dq_89 (hz_wg wX9_summons_0 (j := 21) (n := 89) rfl)
theorem dX9_summons_22 : decode cX9_summons 22 = .ok (.getfield 207, 3) := dq_180 (hz_wg wX9_summons_0 (j := 22) (n := 180) rfl) (hz_wg wX9_summons_0 (j := 23) (n := 0) rfl) (hz_wg wX9_summons_0 (j := 24) (n := 207) rfl) rfl
theorem dX9_summons_25 : decode cX9_summons 25 = .ok (.iconst 1, 1) := dq_4 (hz_wg wX9_summons_0 (j := 25) (n := 4) rfl)
theorem dX9_summons_26 : decode cX9_summons 26 = .ok (.iadd, 1) := dq_96 (hz_wg wX9_summons_0 (j := 26) (n := 96) rfl)
theorem dX9_summons_27 : decode cX9_summons 27 = .ok (.putfield 207, 3) := dq_181 (hz_wg wX9_summons_0 (j := 27) (n := 181) rfl) (hz_wg wX9_summons_0 (j := 28) (n := 0) rfl) (hz_wg wX9_summons_0 (j := 29) (n := 207) rfl) rfl
theorem dX9_summons_30 : decode cX9_summons 30 = .ok (.iload_n 2, 1) := dq_28 (hz_wg wX9_summons_0 (j := 30) (n := 28) rfl)
theorem dX9_summons_31 : decode cX9_summons 31 = .ok (.ifCond .eq 11, 3) := dq_153 (hz_wg wX9_summons_0 (j := 31) (n := 153) rfl) (hz_wg wX9_summons_0 (j := 32) (n := 0) rfl) (hz_wg wX9_summons_0 (j := 33) (n := 11) rfl) (by decide)
theorem dX9_summons_34 : decode cX9_summons 34 = .ok (.aload_n 3, 1) := dq_45 (hz_wg wX9_summons_0 (j := 34) (n := 45) rfl)
theorem dX9_summons_35 : decode cX9_summons 35 = .ok (.aload_n 0, 1) := dq_42 (hz_wg wX9_summons_0 (j := 35) (n := 42) rfl)
theorem dX9_summons_36 : decode cX9_summons 36 = .ok (.getfield 94, 3) := dq_180 (hz_wg wX9_summons_0 (j := 36) (n := 180) rfl) (hz_wg wX9_summons_0 (j := 37) (n := 0) rfl) (hz_wg wX9_summons_0 (j := 38) (n := 94) rfl) rfl
theorem dX9_summons_39 : decode cX9_summons 39 = .ok (.putfield 204, 3) := dq_181 (hz_wg wX9_summons_0 (j := 39) (n := 181) rfl) (hz_wg wX9_summons_0 (j := 40) (n := 0) rfl) (hz_wg wX9_summons_0 (j := 41) (n := 204) rfl) rfl
theorem dX9_summons_42 : decode cX9_summons 42 = .ok (.aload_n 3, 1) := dq_45 (hz_wg wX9_summons_0 (j := 42) (n := 45) rfl)
theorem dX9_summons_43 : decode cX9_summons 43 = .ok (.getfield 207, 3) := dq_180 (hz_wg wX9_summons_0 (j := 43) (n := 180) rfl) (hz_wg wX9_summons_0 (j := 44) (n := 0) rfl) (hz_wg wX9_summons_0 (j := 45) (n := 207) rfl) rfl
theorem dX9_summons_46 : decode cX9_summons 46 = .ok (.ireturn, 1) := dq_172 (hz_wg wX9_summons_0 (j := 46) (n := 172) rfl)