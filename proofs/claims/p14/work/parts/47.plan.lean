theorem dX10_planned_0 : decode cX10_planned 0 = .ok (.iload_n 1, 1) := by decide +kernel
theorem dX10_planned_1 : decode cX10_planned 1 = .ok (.iconst 0, 1) := by decide +kernel
theorem dX10_planned_2 : decode cX10_planned 2 = .ok (.aload_n 0, 1) := by decide +kernel
theorem dX10_planned_3 : decode cX10_planned 3 = .ok (.getfield 435, 3) := by decide +kernel
theorem dX10_planned_6 : decode cX10_planned 6 = .ok (.iconst 1, 1) := by decide +kernel
theorem dX10_planned_7 : decode cX10_planned 7 = .ok (.isub, 1) := by decide +kernel
theorem dX10_planned_8 : decode cX10_planned 8 = .ok (.invokestatic 228, 3) := by decide +kernel
theorem dX10_planned_11 : decode cX10_planned 11 = .ok (.ifCond .ne 5, 3) := by decide +kernel
theorem dX10_planned_14 : decode cX10_planned 14 = .ok (.iconst (-1), 1) := by decide +kernel
theorem dX10_planned_15 : decode cX10_planned 15 = .ok (.ireturn, 1) := by decide +kernel
theorem dX10_planned_16 : decode cX10_planned 16 = .ok (.iload_n 2, 1) := by decide +kernel
theorem dX10_planned_17 : decode cX10_planned 17 = .ok (.ifCond .ne 12, 3) := by decide +kernel
theorem dX10_planned_20 : decode cX10_planned 20 = .ok (.aload_n 0, 1) := by decide +kernel
theorem dX10_planned_21 : decode cX10_planned 21 = .ok (.getfield 165, 3) := by decide +kernel
theorem dX10_planned_24 : decode cX10_planned 24 = .ok (.iload_n 1, 1) := by decide +kernel
theorem dX10_planned_25 : decode cX10_planned 25 = .ok (.iaload, 1) := by decide +kernel
theorem dX10_planned_26 : decode cX10_planned 26 = .ok (.goto 32, 3) := by decide +kernel
theorem dX10_planned_29 : decode cX10_planned 29 = .ok (.iload_n 2, 1) := by decide +kernel
theorem dX10_planned_30 : decode cX10_planned 30 = .ok (.iconst 1, 1) := by decide +kernel
theorem dX10_planned_31 : decode cX10_planned 31 = .ok (.if_icmp .ne 12, 3) := by decide +kernel
theorem dX10_planned_34 : decode cX10_planned 34 = .ok (.aload_n 0, 1) := by decide +kernel
theorem dX10_planned_35 : decode cX10_planned 35 = .ok (.getfield 168, 3) := by decide +kernel
theorem dX10_planned_38 : decode cX10_planned 38 = .ok (.iload_n 1, 1) := by decide +kernel
theorem dX10_planned_39 : decode cX10_planned 39 = .ok (.iaload, 1) := by decide +kernel
theorem dX10_planned_40 : decode cX10_planned 40 = .ok (.goto 18, 3) := by decide +kernel
theorem dX10_planned_43 : decode cX10_planned 43 = .ok (.iload_n 2, 1) := by decide +kernel
theorem dX10_planned_44 : decode cX10_planned 44 = .ok (.iconst 2, 1) := by decide +kernel
theorem dX10_planned_45 : decode cX10_planned 45 = .ok (.if_icmp .ne 12, 3) := by decide +kernel
theorem dX10_planned_48 : decode cX10_planned 48 = .ok (.aload_n 0, 1) := by decide +kernel
theorem dX10_planned_49 : decode cX10_planned 49 = .ok (.getfield 186, 3) := by decide +kernel
theorem dX10_planned_52 : decode cX10_planned 52 = .ok (.iload_n 1, 1) := by decide +kernel
theorem dX10_planned_53 : decode cX10_planned 53 = .ok (.iaload, 1) := by decide +kernel
theorem dX10_planned_54 : decode cX10_planned 54 = .ok (.goto 4, 3) := by decide +kernel
theorem dX10_planned_57 : decode cX10_planned 57 = .ok (.iconst (-1), 1) := by decide +kernel
theorem dX10_planned_58 : decode cX10_planned 58 = .ok (.ireturn, 1) := by decide +kernel
set_option maxHeartbeats 4000000 in
set_option maxRecDepth 100000 in
theorem t_X10_planned (l : Launch) (dC : Nat → ClassId) (dI : Nat → Nat → Nat) (dA : Nat → ClassId) (L : List Nat) (h : hx_h) (sz : Nat) (x : Nat) (i1 : Int32) (i2 : Int32) (hT : hx_T T_tb L h) (gx : hx_g L h x 10)  : Met l yX10_planned (Cond.code yX10_planned cX10_planned 3 (some .int) :: hx_all) ({ frames := 1, cells := 0, slots := 0, locals := 22 }) (va_Pc [.ref x, .int i1, .int i2] (hx_B T_tb (P_ty dA) (dC, dI) vwCl L h sz)) (va_Qi (fun (r : Int32) (u : List Nat × hx_h) => (True) ∧ hx_T T_tb u.1 u.2 ∧ hx_S T_tb [] L h u.1 u.2) (hx_E T_tb (P_ty dA) (dC, dI) vwCl (hx_A L sz)) (hx_A L sz)) 0 0 (hx_A L sz) := by
  refine hx_met (lv := [(0, .ref x), (1, .int i1), (2, .int i2)]) (by decide +kernel) rfl (Nat.le_of_ble_eq_true rfl) rfl ?_
  intro p e s m below meth c hx hb hml hr hlk hts0 hown hin hsz hW ls hl
  have hts : ∀ w ∈ hx_all, w.before _ s = true := fun w hw => hts0 w (List.mem_cons_of_mem _ hw)
  have hown : s.vm.findClass "SmallCourtModel" = some m.cls := hown
  have hM : hx_S T_tb [] L h L h := hx_S.rf
  refine lv_iload_n hx hb dX10_planned_0 rfl (lv_at hl 1 rfl) ?_
  refine lv_iconst (v := 0) hx hb dX10_planned_1 (by decide) ?_
  refine lv_aload_n hx hb dX10_planned_2 rfl (lv_at hl 0 rfl) ?_
  refine hx_geti hx hb hts hC_10 hown hW hT gx tt_10 72 (by decide) rfl kw_1215 ⟨rfl, rfl, rfl⟩ dX10_planned_3 (fun x_1 ex_1 lx_1 ux_1 => ?_)
  have fx_1 := ex_1.symm
  refine lv_iconst (v := 1) hx hb dX10_planned_6 (by decide) ?_
  refine lv_isub hx hb dX10_planned_7 ?_
  have rg_2 := i32_r x_1
  refine lv_topi (fun x_3 ex_3 => ?_)
  have zx_3 : x_3.toInt = x_1.toInt - 1 := by rw [ex_3]; exact i32_sub rfl (by decide) (by omega) (by omega)
  have zc_0 : (0 : Int32).toInt = 0 := by decide
  refine hx_goi (hx_runS (As := [.int i1, .int (0 : Int32), .int x_3]) (rest := []) ⟨hx, hb, hml, hown, hts⟩ hW (t_X10_in l dC dI dA L h s.heap.size i1 (0 : Int32) x_3 hT) (va_cwS 3 hts (hx_gS kw_1445 kw_1443 kw_1444 kw_103) rfl rfl rfl (by decide +kernel) ⟨Nat.le_of_ble_eq_true rfl, Nat.le_of_ble_eq_true rfl⟩) rfl hl.1 rfl (Nat.le_of_ble_eq_true rfl) dX10_planned_8 ⟨Nat.le_of_ble_eq_true rfl, Nat.le_of_ble_eq_true rfl⟩) hW (fun r_6 L_4 h_5 H locs p_7 hW => ?_)
  obtain ⟨hr_8, hT, hs⟩ := p_7
  have hT : hx_T T_tb L_4 h_5 := hT
  have hs : hx_S T_tb [] L h L_4 h_5 := hs
  have fx_1 := (hs.o gx trivial rfl).1.trans fx_1
  have hM := hM.tr (hs.mono (by decide))
  have gx := gx.S hs
  refine hb_if_ne (zx := r_6.toInt) (tgt := 16) hx hb rfl dX10_planned_11 (by decide) (fun c_9 => ?_) (fun c_9 => ?_)
  · skip
    refine lv_iload_n hx hb dX10_planned_16 rfl (lv_at hl 2 rfl) ?_
    refine hb_if_ne (zx := i2.toInt) (tgt := 29) hx hb rfl dX10_planned_17 (by decide) (fun c_10 => ?_) (fun c_10 => ?_)
    · skip
      refine lv_iload_n hx hb dX10_planned_29 rfl (lv_at hl 2 rfl) ?_
      refine lv_iconst (v := 1) hx hb dX10_planned_30 (by decide) ?_
      refine hb_icmp_ne (zx := i2.toInt) (zy := 1) (tgt := 43) hx hb rfl (by decide) dX10_planned_31 (by decide) (fun c_11 => ?_) (fun c_11 => ?_)
      · skip
        refine lv_iload_n hx hb dX10_planned_43 rfl (lv_at hl 2 rfl) ?_
        refine lv_iconst (v := 2) hx hb dX10_planned_44 (by decide) ?_
        refine hb_icmp_ne (zx := i2.toInt) (zy := 2) (tgt := 57) hx hb rfl (by decide) dX10_planned_45 (by decide) (fun c_12 => ?_) (fun c_12 => ?_)
        · skip
          refine lv_iconst (v := -1) hx hb dX10_planned_57 (by decide) ?_
          exact hx_reti hx hb hr hlk hW ⟨trivial, hT, hM⟩ dX10_planned_58
        · skip
          refine lv_aload_n hx hb dX10_planned_48 rfl (lv_at hl 0 rfl) ?_
          refine hx_getn hx hb hts hC_10 hown hW hT gx tt_10 81 (by decide) rfl kw_1224 ⟨rfl, rfl, rfl⟩ dX10_planned_49 (fun q_13 fq_13 gq_13 => ?_)
          refine lv_iload_n hx hb dX10_planned_52 rfl (lv_at hl 1 rfl) ?_
          refine hx_iald hx hb hW hT gq_13 tt_107 rfl ⟨by omega, by omega⟩ dX10_planned_53 (fun x_14 ex_14 lx_14 ux_14 => ?_)
          refine lv_goto (tgt := 58) hx hb dX10_planned_54 (by decide) ?_
          exact hx_reti hx hb hr hlk hW ⟨trivial, hT, hM⟩ dX10_planned_58
      · skip
        refine lv_aload_n hx hb dX10_planned_34 rfl (lv_at hl 0 rfl) ?_
        refine hx_getn hx hb hts hC_10 hown hW hT gx tt_10 74 (by decide) rfl kw_1217 ⟨rfl, rfl, rfl⟩ dX10_planned_35 (fun q_15 fq_15 gq_15 => ?_)
        refine lv_iload_n hx hb dX10_planned_38 rfl (lv_at hl 1 rfl) ?_
        refine hx_iald hx hb hW hT gq_15 tt_101 rfl ⟨by omega, by omega⟩ dX10_planned_39 (fun x_16 ex_16 lx_16 ux_16 => ?_)
        refine lv_goto (tgt := 58) hx hb dX10_planned_40 (by decide) ?_
        exact hx_reti hx hb hr hlk hW ⟨trivial, hT, hM⟩ dX10_planned_58
    · skip
      refine lv_aload_n hx hb dX10_planned_20 rfl (lv_at hl 0 rfl) ?_
      refine hx_getn hx hb hts hC_10 hown hW hT gx tt_10 73 (by decide) rfl kw_1216 ⟨rfl, rfl, rfl⟩ dX10_planned_21 (fun q_17 fq_17 gq_17 => ?_)
      refine lv_iload_n hx hb dX10_planned_24 rfl (lv_at hl 1 rfl) ?_
      refine hx_iald hx hb hW hT gq_17 tt_100 rfl ⟨by omega, by omega⟩ dX10_planned_25 (fun x_18 ex_18 lx_18 ux_18 => ?_)
      refine lv_goto (tgt := 58) hx hb dX10_planned_26 (by decide) ?_
      exact hx_reti hx hb hr hlk hW ⟨trivial, hT, hM⟩ dX10_planned_58
  · skip
    refine lv_iconst (v := -1) hx hb dX10_planned_14 (by decide) ?_
    exact hx_reti hx hb hr hlk hW ⟨trivial, hT, hM⟩ dX10_planned_15

theorem dX10_lesser_0 : decode cX10_lesser 0 = .ok (.iload_n 0, 1) := by decide +kernel
theorem dX10_lesser_1 : decode cX10_lesser 1 = .ok (.iload_n 1, 1) := by decide +kernel
theorem dX10_lesser_2 : decode cX10_lesser 2 = .ok (.if_icmp .ge 7, 3) := by decide +kernel
theorem dX10_lesser_5 : decode cX10_lesser 5 = .ok (.iload_n 0, 1) := by decide +kernel
theorem dX10_lesser_6 : decode cX10_lesser 6 = .ok (.goto 4, 3) := by decide +kernel
theorem dX10_lesser_9 : decode cX10_lesser 9 = .ok (.iload_n 1, 1) := by decide +kernel
theorem dX10_lesser_10 : decode cX10_lesser 10 = .ok (.ireturn, 1) := by decide +kernel
set_option maxHeartbeats 4000000 in
set_option maxRecDepth 100000 in
theorem t_X10_lesser (l : Launch) (dC : Nat → ClassId) (dI : Nat → Nat → Nat) (dA : Nat → ClassId) (L : List Nat) (h : hx_h) (sz : Nat) (i1 : Int32) (i2 : Int32) (hT : hx_T T_tb L h)   : Met l yX10_lesser (Cond.code yX10_lesser cX10_lesser 2 (some .int) :: hx_all) ({ frames := 0, cells := 0, slots := 0, locals := 0 }) (va_Pc [.int i1, .int i2] (hx_B T_tb (P_ty dA) (dC, dI) vwCl L h sz)) (va_Qi (fun (r : Int32) (u : List Nat × hx_h) => ((r = i1 ∧ i1.toInt < i2.toInt) ∨ (r = i2 ∧ i2.toInt ≤ i1.toInt)) ∧ hx_T T_tb u.1 u.2 ∧ hx_S T_tb [] L h u.1 u.2) (hx_E T_tb (P_ty dA) (dC, dI) vwCl (hx_A L sz)) (hx_A L sz)) 0 0 (hx_A L sz) := by
  refine hx_met (lv := [(0, .int i1), (1, .int i2)]) (by decide +kernel) rfl (Nat.le_of_ble_eq_true rfl) rfl ?_
  intro p e s m below meth c hx hb hml hr hlk hts0 hown hin hsz hW ls hl
  have hts : ∀ w ∈ hx_all, w.before _ s = true := fun w hw => hts0 w (List.mem_cons_of_mem _ hw)
  have hown : s.vm.findClass "SmallCourtModel" = some m.cls := hown
  have hM : hx_S T_tb [] L h L h := hx_S.rf
  refine lv_iload_n hx hb dX10_lesser_0 rfl (lv_at hl 0 rfl) ?_
  refine lv_iload_n hx hb dX10_lesser_1 rfl (lv_at hl 1 rfl) ?_
  refine hb_icmp_ge (zx := i1.toInt) (zy := i2.toInt) (tgt := 9) hx hb rfl rfl dX10_lesser_2 (by decide) (fun c_1 => ?_) (fun c_1 => ?_)
  · skip
    refine lv_iload_n hx hb dX10_lesser_9 rfl (lv_at hl 1 rfl) ?_
    exact hx_reti hx hb hr hlk hW ⟨(by first | exact Or.inl ⟨rfl, by omega⟩ | exact Or.inr ⟨rfl, by omega⟩), hT, hM⟩ dX10_lesser_10
  · skip
    refine lv_iload_n hx hb dX10_lesser_5 rfl (lv_at hl 0 rfl) ?_
    refine lv_goto (tgt := 10) hx hb dX10_lesser_6 (by decide) ?_
    exact hx_reti hx hb hr hlk hW ⟨(by first | exact Or.inl ⟨rfl, by omega⟩ | exact Or.inr ⟨rfl, by omega⟩), hT, hM⟩ dX10_lesser_10

theorem dX10_debts_0 : decode cX10_debts 0 = .ok (.iconst 0, 1) := by decide +kernel
theorem dX10_debts_1 : decode cX10_debts 1 = .ok (.istore_n 1, 1) := by decide +kernel
theorem dX10_debts_2 : decode cX10_debts 2 = .ok (.iload_n 1, 1) := by decide +kernel
theorem dX10_debts_3 : decode cX10_debts 3 = .ok (.sipush 1600, 3) := by decide +kernel
theorem dX10_debts_6 : decode cX10_debts 6 = .ok (.if_icmp .ge 16, 3) := by decide +kernel
theorem dX10_debts_9 : decode cX10_debts 9 = .ok (.aload_n 0, 1) := by decide +kernel
theorem dX10_debts_10 : decode cX10_debts 10 = .ok (.getfield 189, 3) := by decide +kernel
theorem dX10_debts_13 : decode cX10_debts 13 = .ok (.iload_n 1, 1) := by decide +kernel
theorem dX10_debts_14 : decode cX10_debts 14 = .ok (.iconst 0, 1) := by decide +kernel
theorem dX10_debts_15 : decode cX10_debts 15 = .ok (.iastore, 1) := by decide +kernel
theorem dX10_debts_16 : decode cX10_debts 16 = .ok (.iinc 1 1, 3) := by decide +kernel
theorem dX10_debts_19 : decode cX10_debts 19 = .ok (.goto (-17), 3) := by decide +kernel
theorem dX10_debts_22 : decode cX10_debts 22 = .ok (.iconst 0, 1) := by decide +kernel
theorem dX10_debts_23 : decode cX10_debts 23 = .ok (.istore_n 1, 1) := by decide +kernel
theorem dX10_debts_24 : decode cX10_debts 24 = .ok (.iload_n 1, 1) := by decide +kernel
theorem dX10_debts_25 : decode cX10_debts 25 = .ok (.aload_n 0, 1) := by decide +kernel
theorem dX10_debts_26 : decode cX10_debts 26 = .ok (.getfield 367, 3) := by decide +kernel
theorem dX10_debts_29 : decode cX10_debts 29 = .ok (.if_icmp .ge 45, 3) := by decide +kernel
theorem dX10_debts_32 : decode cX10_debts 32 = .ok (.aload_n 0, 1) := by decide +kernel
theorem dX10_debts_33 : decode cX10_debts 33 = .ok (.iload_n 1, 1) := by decide +kernel
theorem dX10_debts_34 : decode cX10_debts 34 = .ok (.invokevirtual 419, 3) := by decide +kernel
theorem dX10_debts_37 : decode cX10_debts 37 = .ok (.ifCond .eq 31, 3) := by decide +kernel
theorem dX10_debts_40 : decode cX10_debts 40 = .ok (.aload_n 0, 1) := by decide +kernel
theorem dX10_debts_41 : decode cX10_debts 41 = .ok (.getfield 189, 3) := by decide +kernel
theorem dX10_debts_44 : decode cX10_debts 44 = .ok (.bipush 40, 2) := by decide +kernel
theorem dX10_debts_46 : decode cX10_debts 46 = .ok (.aload_n 0, 1) := by decide +kernel
theorem dX10_debts_47 : decode cX10_debts 47 = .ok (.getfield 84, 3) := by decide +kernel
theorem dX10_debts_50 : decode cX10_debts 50 = .ok (.iload_n 1, 1) := by decide +kernel
theorem dX10_debts_51 : decode cX10_debts 51 = .ok (.iaload, 1) := by decide +kernel
theorem dX10_debts_52 : decode cX10_debts 52 = .ok (.imul, 1) := by decide +kernel
theorem dX10_debts_53 : decode cX10_debts 53 = .ok (.aload_n 0, 1) := by decide +kernel
theorem dX10_debts_54 : decode cX10_debts 54 = .ok (.getfield 81, 3) := by decide +kernel
theorem dX10_debts_57 : decode cX10_debts 57 = .ok (.iload_n 1, 1) := by decide +kernel
theorem dX10_debts_58 : decode cX10_debts 58 = .ok (.iaload, 1) := by decide +kernel
theorem dX10_debts_59 : decode cX10_debts 59 = .ok (.iadd, 1) := by decide +kernel
theorem dX10_debts_60 : decode cX10_debts 60 = .ok (.dup2, 1) := by decide +kernel
theorem dX10_debts_61 : decode cX10_debts 61 = .ok (.iaload, 1) := by decide +kernel
theorem dX10_debts_62 : decode cX10_debts 62 = .ok (.aload_n 0, 1) := by decide +kernel
theorem dX10_debts_63 : decode cX10_debts 63 = .ok (.getfield 401, 3) := by decide +kernel
theorem dX10_debts_66 : decode cX10_debts 66 = .ok (.iadd, 1) := by decide +kernel
theorem dX10_debts_67 : decode cX10_debts 67 = .ok (.iastore, 1) := by decide +kernel
theorem dX10_debts_68 : decode cX10_debts 68 = .ok (.iinc 1 1, 3) := by decide +kernel
theorem dX10_debts_71 : decode cX10_debts 71 = .ok (.goto (-47), 3) := by decide +kernel
theorem dX10_debts_74 : decode cX10_debts 74 = .ok (.return_, 1) := by decide +kernel
set_option maxHeartbeats 4000000 in
set_option maxRecDepth 100000 in
theorem t_X10_debts (l : Launch) (dC : Nat → ClassId) (dI : Nat → Nat → Nat) (dA : Nat → ClassId) (L : List Nat) (h : hx_h) (sz : Nat) (x : Nat) (hT : hx_T T_tb L h) (gx : hx_g L h x 10)  : Met l yX10_debts (Cond.code yX10_debts cX10_debts 2 none :: hx_all) ({ frames := 3, cells := 0, slots := 0, locals := 71 }) (va_Pc [.ref x] (hx_B T_tb (P_ty dA) (dC, dI) vwCl L h sz)) (va_Qv (fun (u : List Nat × hx_h) => hx_T T_tb u.1 u.2 ∧ hx_S T_tb [(10, 67), (10, 68), (10, 69), (10, 70), (10, 71), (108, 0)] L h u.1 u.2) (hx_E T_tb (P_ty dA) (dC, dI) vwCl (hx_A L sz)) (hx_A L sz)) 0 0 (hx_A L sz) := by
  refine hx_met (lv := [(0, .ref x)]) (by decide +kernel) rfl (Nat.le_of_ble_eq_true rfl) rfl ?_
  intro p e s m below meth c hx hb hml hr hlk hts0 hown hin hsz hW ls hl
  have hts : ∀ w ∈ hx_all, w.before _ s = true := fun w hw => hts0 w (List.mem_cons_of_mem _ hw)
  have hown : s.vm.findClass "SmallCourtModel" = some m.cls := hown
  have hM : hx_S T_tb [(10, 67), (10, 68), (10, 69), (10, 70), (10, 71), (108, 0)] L h L h := hx_S.rf
  refine lv_iconst (v := 0) hx hb dX10_debts_0 (by decide) ?_
  refine lv_istore_n (lv' := [(1, .int (0 : Int32)), (0, .ref x)]) hx hb dX10_debts_1 rfl hl (by decide) rfl (fun ls hl => ?_)
  have loop2 : ∀ (n2 : Nat) (iv2_1 : Int32) (H : Heap) (locs : List Loc) (hL1 : List Nat) (hl1 : hx_h), 0 ≤ iv2_1.toInt → iv2_1.toInt ≤ 1600 → ∀ (ls : Array Slot), 1600 - iv2_1.toInt < (n2 : Int) → hx_W T_tb (P_ty dA) (dC, dI) vwCl (hx_A L sz) s.heap hL1 hl1 s H locs → hx_T T_tb hL1 hl1 → hx_S T_tb [(10, 67), (10, 68), (10, 69), (10, 70), (10, 71), (108, 0)] L h hL1 hl1 → hx_g hL1 hl1 x 10 → lv_has ls 2 [(1, .int iv2_1), (0, .ref x)] → W p l e ({ frames := 3, cells := 0, slots := 0, locals := 71 }) s m ([.ref x] : List Value).toArray below meth c H locs 0 0 (MQ below (va_Qv (fun (u : List Nat × hx_h) => hx_T T_tb u.1 u.2 ∧ hx_S T_tb [(10, 67), (10, 68), (10, 69), (10, 70), (10, 71), (108, 0)] L h u.1 u.2) (hx_E T_tb (P_ty dA) (dC, dI) vwCl (hx_A L sz)) (hx_A L sz)) ([.ref x] : List Value).toArray s 0 0 (hx_A L sz)) (F0 m 2 ls []) := by
    intro n2
    induction n2 with
    | zero => intro iv2_1 H locs hL1 hl1 bliv2_1 buiv2_1  ls hn2; exfalso; omega
    | succ n2 ih2 =>
      intro iv2_1 H locs hL1 hl1 bliv2_1 buiv2_1  ls hn2 hW hT hM  gx hl
      refine lv_iload_n hx hb dX10_debts_2 rfl (lv_at hl 0 rfl) ?_
      refine lv_sipush (v := 1600) hx hb dX10_debts_3 (by decide) ?_
      refine hb_icmp_ge (zx := iv2_1.toInt) (zy := 1600) (tgt := 22) hx hb rfl (by decide) dX10_debts_6 (by decide) (fun c_1 => ?_) (fun c_1 => ?_)
      · skip
        refine lv_iconst (v := 0) hx hb dX10_debts_22 (by decide) ?_
        refine lv_istore_n (lv' := [(1, .int (0 : Int32)), (0, .ref x)]) hx hb dX10_debts_23 rfl hl (by decide) rfl (fun ls hl => ?_)
        have loop24 : ∀ (n24 : Nat) (iv24_1 : Int32) (H : Heap) (locs : List Loc) (hL1 : List Nat) (hl1 : hx_h), 0 ≤ iv24_1.toInt → iv24_1.toInt ≤ 100 → ∀ (ls : Array Slot), 100 - iv24_1.toInt < (n24 : Int) → hx_W T_tb (P_ty dA) (dC, dI) vwCl (hx_A L sz) s.heap hL1 hl1 s H locs → hx_T T_tb hL1 hl1 → hx_S T_tb [(10, 67), (10, 68), (10, 69), (10, 70), (10, 71), (108, 0)] L h hL1 hl1 → hx_g hL1 hl1 x 10 → lv_has ls 2 [(1, .int iv24_1), (0, .ref x)] → W p l e ({ frames := 3, cells := 0, slots := 0, locals := 71 }) s m ([.ref x] : List Value).toArray below meth c H locs 0 0 (MQ below (va_Qv (fun (u : List Nat × hx_h) => hx_T T_tb u.1 u.2 ∧ hx_S T_tb [(10, 67), (10, 68), (10, 69), (10, 70), (10, 71), (108, 0)] L h u.1 u.2) (hx_E T_tb (P_ty dA) (dC, dI) vwCl (hx_A L sz)) (hx_A L sz)) ([.ref x] : List Value).toArray s 0 0 (hx_A L sz)) (F0 m 24 ls []) := by
          intro n24
          induction n24 with
          | zero => intro iv24_1 H locs hL1 hl1 bliv24_1 buiv24_1  ls hn24; exfalso; omega
          | succ n24 ih24 =>
            intro iv24_1 H locs hL1 hl1 bliv24_1 buiv24_1  ls hn24 hW hT hM  gx hl
            refine lv_iload_n hx hb dX10_debts_24 rfl (lv_at hl 0 rfl) ?_
            refine lv_aload_n hx hb dX10_debts_25 rfl (lv_at hl 1 rfl) ?_
            refine hx_geti hx hb hts hC_10 hown hW hT gx tt_10 36 (by decide) rfl kw_1179 ⟨rfl, rfl, rfl⟩ dX10_debts_26 (fun x_2 ex_2 lx_2 ux_2 => ?_)
            have fx_2 := ex_2.symm
            refine hb_icmp_ge (zx := iv24_1.toInt) (zy := x_2.toInt) (tgt := 74) hx hb rfl rfl dX10_debts_29 (by decide) (fun c_3 => ?_) (fun c_3 => ?_)
            · skip
              exact hx_retv hx hb hr hlk hW ⟨hT, hM⟩ dX10_debts_74
            · skip
              refine lv_aload_n hx hb dX10_debts_32 rfl (lv_at hl 1 rfl) ?_
              refine lv_iload_n hx hb dX10_debts_33 rfl (lv_at hl 0 rfl) ?_
              refine hx_goi (hx_runV (As := [.int iv24_1]) (rest := []) ⟨hx, hb, hml, hown, hts⟩ hW gx tt_10 (T := TX10) (N := 98) rfl (t_X10_isOpen l dC dI dA hL1 hl1 H.size x iv24_1 hT gx ⟨by omega, by omega⟩) (cwV 1 hts (hx_gV kw_1637 kw_1634 kw_1636 kw_81 kw_103) rfl rfl rfl (by decide +kernel) ⟨Nat.le_of_ble_eq_true rfl, Nat.le_of_ble_eq_true rfl⟩) rfl hl.1 rfl (Nat.le_of_ble_eq_true rfl) dX10_debts_34 ⟨Nat.le_of_ble_eq_true rfl, Nat.le_of_ble_eq_true rfl⟩) hW (fun r_6 L_4 h_5 H locs p_7 hW => ?_)
              obtain ⟨⟨w_9, fw_9, hr_8⟩, hT, hs⟩ := p_7
              have hT : hx_T T_tb L_4 h_5 := hT
              have hs : hx_S T_tb [(10, 67), (10, 68), (10, 69), (10, 70), (10, 71)] hL1 hl1 L_4 h_5 := hs
              have fx_2 := (hs.o gx trivial rfl).1.trans fx_2
              have hM := hM.tr (hs.mono (by decide))
              have gx := gx.S hs
              have fw_9 : h_5.2.1 x 68 = w_9 := fw_9
              have bw_9 := hT.gi gx tt_10 (k := 68) rfl
              rw [fw_9] at bw_9
              have bw_9 : 0 ≤ w_9.toInt ∧ w_9.toInt ≤ 610000 := bw_9
              refine hb_if_eq (zx := r_6.toInt) (tgt := 68) hx hb rfl dX10_debts_37 (by decide) (fun c_10 => ?_) (fun c_10 => ?_)
              · skip
                obtain ⟨x_11, ex_11⟩ : ∃ y : Int32, y = iv24_1 + Int32.ofInt 1 := ⟨_, rfl⟩
                have rg_12 := i32_r iv24_1
                have zx_11 : x_11.toInt = iv24_1.toInt + (1) := by rw [ex_11]; exact i32_add rfl (by decide) (by omega) (by omega)
                refine lv_iinc (v := x_11) (lv' := [(1, .int x_11), (0, .ref x)]) hx hb dX10_debts_68 hl (k := 0) rfl ex_11.symm (by decide) rfl (fun ls hl => ?_)
                refine lv_goto (tgt := 24) hx hb dX10_debts_71 (by decide) ?_
                exact ih24 x_11 _ _ L_4 h_5 (by omega) (by omega)  ls (by omega) hW hT hM  gx (lv_sub hl [0, 1] rfl)
              · skip
                refine lv_aload_n hx hb dX10_debts_40 rfl (lv_at hl 1 rfl) ?_
                refine hx_getn hx hb hts hC_10 hown hW hT gx tt_10 82 (by decide) rfl kw_1225 ⟨rfl, rfl, rfl⟩ dX10_debts_41 (fun q_13 fq_13 gq_13 => ?_)
                refine lv_bipush (v := 40) hx hb dX10_debts_44 (by decide) ?_
                refine lv_aload_n hx hb dX10_debts_46 rfl (lv_at hl 1 rfl) ?_
                refine hx_getn hx hb hts hC_10 hown hW hT gx tt_10 38 (by decide) rfl kw_1181 ⟨rfl, rfl, rfl⟩ dX10_debts_47 (fun q_14 fq_14 gq_14 => ?_)
                refine lv_iload_n hx hb dX10_debts_50 rfl (lv_at hl 0 rfl) ?_
                refine hx_iald hx hb hW hT gq_14 tt_73 rfl ⟨by omega, by omega⟩ dX10_debts_51 (fun x_15 ex_15 lx_15 ux_15 => ?_)
                refine lv_imul hx hb dX10_debts_52 ?_
                refine lv_topi (fun x_16 ex_16 => ?_)
                have zx_16 : x_16.toInt = 40 * x_15.toInt := by rw [ex_16]; exact i32_mul (by decide) rfl rfl (by omega) (by omega)
                refine lv_aload_n hx hb dX10_debts_53 rfl (lv_at hl 1 rfl) ?_
                refine hx_getn hx hb hts hC_10 hown hW hT gx tt_10 37 (by decide) rfl kw_1180 ⟨rfl, rfl, rfl⟩ dX10_debts_54 (fun q_17 fq_17 gq_17 => ?_)
                refine lv_iload_n hx hb dX10_debts_57 rfl (lv_at hl 0 rfl) ?_
                refine hx_iald hx hb hW hT gq_17 tt_72 rfl ⟨by omega, by omega⟩ dX10_debts_58 (fun x_18 ex_18 lx_18 ux_18 => ?_)
                refine lv_iadd hx hb dX10_debts_59 ?_
                have rg_19 := i32_r x_16
                have rg_20 := i32_r x_18
                refine lv_topi (fun x_21 ex_21 => ?_)
                have zx_21 : x_21.toInt = x_16.toInt + x_18.toInt := by rw [ex_21]; exact i32_add rfl rfl (by omega) (by omega)
                refine lv_dup2_11 hx hb dX10_debts_60 rfl rfl ?_
                refine hx_iald hx hb hW hT gq_13 tt_108 rfl ⟨by omega, by omega⟩ dX10_debts_61 (fun x_22 ex_22 lx_22 ux_22 => ?_)
                refine lv_aload_n hx hb dX10_debts_62 rfl (lv_at hl 1 rfl) ?_
                refine hk_geti hx hb hts hC_10 hown hW gx tt_10 68 (by decide) rfl kw_1211 ⟨rfl, rfl, rfl⟩ fw_9 dX10_debts_63 ?_
                refine lv_iadd hx hb dX10_debts_66 ?_
                have rg_23 := i32_r x_22
                have rg_24 := i32_r w_9
                refine lv_topi (fun x_25 ex_25 => ?_)
                refine hx_iast hx hb hW hT (hx_S.rf (M := [(108, 0)])) gq_13 tt_108 rfl ⟨by omega, by omega⟩ rfl (i32_r _) (List.mem_singleton.mpr rfl) dX10_debts_67 (fun H locs h_26 eh_26 hW hT hs => ?_)
                have fx_2 := (hs.o gx trivial rfl).1.trans fx_2
                have fw_9 := (hs.o gx trivial rfl).1.trans fw_9
                have fq_13 := (hs.o gx trivial rfl).2.trans fq_13
                have fq_14 := (hs.o gx trivial rfl).2.trans fq_14
                have fq_17 := (hs.o gx trivial rfl).2.trans fq_17
                have ex_15 := ex_15.trans (hs.a gq_14 rfl _).1.symm
                have ex_18 := ex_18.trans (hs.a gq_17 rfl _).1.symm
                have hM := hM.tr (hs.mono (by decide))
                have gx := gx.S hs
                have gq_13 := gq_13.S hs
                have gq_14 := gq_14.S hs
                have gq_17 := gq_17.S hs
                obtain ⟨x_27, ex_27⟩ : ∃ y : Int32, y = iv24_1 + Int32.ofInt 1 := ⟨_, rfl⟩
                have rg_28 := i32_r iv24_1
                have zx_27 : x_27.toInt = iv24_1.toInt + (1) := by rw [ex_27]; exact i32_add rfl (by decide) (by omega) (by omega)
                refine lv_iinc (v := x_27) (lv' := [(1, .int x_27), (0, .ref x)]) hx hb dX10_debts_68 hl (k := 0) rfl ex_27.symm (by decide) rfl (fun ls hl => ?_)
                refine lv_goto (tgt := 24) hx hb dX10_debts_71 (by decide) ?_
                exact ih24 x_27 _ _ L_4 h_26 (by omega) (by omega)  ls (by omega) hW hT hM  gx (lv_sub hl [0, 1] rfl)
        have zk_0 : (0 : Int32).toInt = 0 := by decide
        exact loop24 101 (0 : Int32) _ _ hL1 hl1 (by decide) (by decide)  ls (by omega) hW hT hM  gx hl
      · skip
        refine lv_aload_n hx hb dX10_debts_9 rfl (lv_at hl 1 rfl) ?_
        refine hx_getn hx hb hts hC_10 hown hW hT gx tt_10 82 (by decide) rfl kw_1225 ⟨rfl, rfl, rfl⟩ dX10_debts_10 (fun q_29 fq_29 gq_29 => ?_)
        refine lv_iload_n hx hb dX10_debts_13 rfl (lv_at hl 0 rfl) ?_
        refine lv_iconst (v := 0) hx hb dX10_debts_14 (by decide) ?_
        refine hx_iast hx hb hW hT (hx_S.rf (M := [(108, 0)])) gq_29 tt_108 rfl ⟨by omega, by omega⟩ rfl (by decide) (List.mem_singleton.mpr rfl) dX10_debts_15 (fun H locs h_30 eh_30 hW hT hs => ?_)
        have fq_29 := (hs.o gx trivial rfl).2.trans fq_29
        have hM := hM.tr (hs.mono (by decide))
        have gx := gx.S hs
        have gq_29 := gq_29.S hs
        obtain ⟨x_31, ex_31⟩ : ∃ y : Int32, y = iv2_1 + Int32.ofInt 1 := ⟨_, rfl⟩
        have rg_32 := i32_r iv2_1
        have zx_31 : x_31.toInt = iv2_1.toInt + (1) := by rw [ex_31]; exact i32_add rfl (by decide) (by omega) (by omega)
        refine lv_iinc (v := x_31) (lv' := [(1, .int x_31), (0, .ref x)]) hx hb dX10_debts_16 hl (k := 0) rfl ex_31.symm (by decide) rfl (fun ls hl => ?_)
        refine lv_goto (tgt := 2) hx hb dX10_debts_19 (by decide) ?_
        exact ih2 x_31 _ _ hL1 h_30 (by omega) (by omega)  ls (by omega) hW hT hM  gx (lv_sub hl [0, 1] rfl)
  have zk_0 : (0 : Int32).toInt = 0 := by decide
  exact loop2 1601 (0 : Int32) _ _ L h (by decide) (by decide)  ls (by omega) hW hT hM  gx hl

theorem dX10_offers_0 : decode cX10_offers 0 = .ok (.aload_n 0, 1) := by decide +kernel
theorem dX10_offers_1 : decode cX10_offers 1 = .ok (.getfield 189, 3) := by decide +kernel
theorem dX10_offers_4 : decode cX10_offers 4 = .ok (.bipush 40, 2) := by decide +kernel
theorem dX10_offers_6 : decode cX10_offers 6 = .ok (.aload_n 0, 1) := by decide +kernel
theorem dX10_offers_7 : decode cX10_offers 7 = .ok (.getfield 198, 3) := by decide +kernel
theorem dX10_offers_10 : decode cX10_offers 10 = .ok (.iload_n 1, 1) := by decide +kernel
theorem dX10_offers_11 : decode cX10_offers 11 = .ok (.iconst 1, 1) := by decide +kernel
theorem dX10_offers_12 : decode cX10_offers 12 = .ok (.isub, 1) := by decide +kernel
theorem dX10_offers_13 : decode cX10_offers 13 = .ok (.iaload, 1) := by decide +kernel
theorem dX10_offers_14 : decode cX10_offers 14 = .ok (.imul, 1) := by decide +kernel
theorem dX10_offers_15 : decode cX10_offers 15 = .ok (.aload_n 0, 1) := by decide +kernel
theorem dX10_offers_16 : decode cX10_offers 16 = .ok (.getfield 198, 3) := by decide +kernel
theorem dX10_offers_19 : decode cX10_offers 19 = .ok (.iconst 0, 1) := by decide +kernel
theorem dX10_offers_20 : decode cX10_offers 20 = .ok (.iaload, 1) := by decide +kernel
theorem dX10_offers_21 : decode cX10_offers 21 = .ok (.iadd, 1) := by decide +kernel
theorem dX10_offers_22 : decode cX10_offers 22 = .ok (.iaload, 1) := by decide +kernel
theorem dX10_offers_23 : decode cX10_offers 23 = .ok (.istore_n 3, 1) := by decide +kernel
theorem dX10_offers_24 : decode cX10_offers 24 = .ok (.iload_n 3, 1) := by decide +kernel
theorem dX10_offers_25 : decode cX10_offers 25 = .ok (.iload_n 2, 1) := by decide +kernel
theorem dX10_offers_26 : decode cX10_offers 26 = .ok (.if_icmp .ge 7, 3) := by decide +kernel
theorem dX10_offers_29 : decode cX10_offers 29 = .ok (.iload_n 3, 1) := by decide +kernel
theorem dX10_offers_30 : decode cX10_offers 30 = .ok (.goto 4, 3) := by decide +kernel
theorem dX10_offers_33 : decode cX10_offers 33 = .ok (.iload_n 2, 1) := by decide +kernel
theorem dX10_offers_34 : decode cX10_offers 34 = .ok (.istore 4, 2) := by decide +kernel
theorem dX10_offers_36 : decode cX10_offers 36 = .ok (.iload 4, 2) := by decide +kernel
theorem dX10_offers_38 : decode cX10_offers 38 = .ok (.ifCond .eq 29, 3) := by decide +kernel
theorem dX10_offers_41 : decode cX10_offers 41 = .ok (.iload 4, 2) := by decide +kernel
theorem dX10_offers_43 : decode cX10_offers 43 = .ok (.aload_n 0, 1) := by decide +kernel
theorem dX10_offers_44 : decode cX10_offers 44 = .ok (.getfield 438, 3) := by decide +kernel
theorem dX10_offers_47 : decode cX10_offers 47 = .ok (.if_icmp .lt 20, 3) := by decide +kernel
theorem dX10_offers_50 : decode cX10_offers 50 = .ok (.iload 4, 2) := by decide +kernel
theorem dX10_offers_52 : decode cX10_offers 52 = .ok (.aload_n 0, 1) := by decide +kernel
theorem dX10_offers_53 : decode cX10_offers 53 = .ok (.getfield 438, 3) := by decide +kernel
theorem dX10_offers_56 : decode cX10_offers 56 = .ok (.if_icmp .ne 12, 3) := by decide +kernel
theorem dX10_offers_59 : decode cX10_offers 59 = .ok (.iload_n 1, 1) := by decide +kernel
theorem dX10_offers_60 : decode cX10_offers 60 = .ok (.aload_n 0, 1) := by decide +kernel
theorem dX10_offers_61 : decode cX10_offers 61 = .ok (.getfield 441, 3) := by decide +kernel
theorem dX10_offers_64 : decode cX10_offers 64 = .ok (.if_icmp .lt 4, 3) := by decide +kernel
theorem dX10_offers_67 : decode cX10_offers 67 = .ok (.return_, 1) := by decide +kernel
theorem dX10_offers_68 : decode cX10_offers 68 = .ok (.aload_n 0, 1) := by decide +kernel
theorem dX10_offers_69 : decode cX10_offers 69 = .ok (.iload 4, 2) := by decide +kernel
theorem dX10_offers_71 : decode cX10_offers 71 = .ok (.putfield 438, 3) := by decide +kernel
theorem dX10_offers_74 : decode cX10_offers 74 = .ok (.aload_n 0, 1) := by decide +kernel
theorem dX10_offers_75 : decode cX10_offers 75 = .ok (.iload_n 1, 1) := by decide +kernel
theorem dX10_offers_76 : decode cX10_offers 76 = .ok (.putfield 441, 3) := by decide +kernel
theorem dX10_offers_79 : decode cX10_offers 79 = .ok (.iconst 0, 1) := by decide +kernel
theorem dX10_offers_80 : decode cX10_offers 80 = .ok (.istore 5, 2) := by decide +kernel
theorem dX10_offers_82 : decode cX10_offers 82 = .ok (.iload 5, 2) := by decide +kernel
theorem dX10_offers_84 : decode cX10_offers 84 = .ok (.iload_n 1, 1) := by decide +kernel
theorem dX10_offers_85 : decode cX10_offers 85 = .ok (.if_icmp .ge 23, 3) := by decide +kernel
theorem dX10_offers_88 : decode cX10_offers 88 = .ok (.aload_n 0, 1) := by decide +kernel
theorem dX10_offers_89 : decode cX10_offers 89 = .ok (.getfield 195, 3) := by decide +kernel
theorem dX10_offers_92 : decode cX10_offers 92 = .ok (.iload 5, 2) := by decide +kernel
theorem dX10_offers_94 : decode cX10_offers 94 = .ok (.aload_n 0, 1) := by decide +kernel
theorem dX10_offers_95 : decode cX10_offers 95 = .ok (.getfield 198, 3) := by decide +kernel
theorem dX10_offers_98 : decode cX10_offers 98 = .ok (.iload 5, 2) := by decide +kernel
theorem dX10_offers_100 : decode cX10_offers 100 = .ok (.iaload, 1) := by decide +kernel
theorem dX10_offers_101 : decode cX10_offers 101 = .ok (.iastore, 1) := by decide +kernel
theorem dX10_offers_102 : decode cX10_offers 102 = .ok (.iinc 5 1, 3) := by decide +kernel
theorem dX10_offers_105 : decode cX10_offers 105 = .ok (.goto (-23), 3) := by decide +kernel
theorem dX10_offers_108 : decode cX10_offers 108 = .ok (.return_, 1) := by decide +kernel
set_option maxHeartbeats 4000000 in
set_option maxRecDepth 100000 in
theorem t_X10_offers (l : Launch) (dC : Nat → ClassId) (dI : Nat → Nat → Nat) (dA : Nat → ClassId) (L : List Nat) (h : hx_h) (sz : Nat) (x : Nat) (i1 : Int32) (i2 : Int32) (hT : hx_T T_tb L h) (gx : hx_g L h x 10) (hi1 : 1 ≤ i1.toInt ∧ i1.toInt ≤ 4) : Met l yX10_offers (Cond.code yX10_offers cX10_offers 6 none :: hx_all) ({ frames := 0, cells := 0, slots := 0, locals := 0 }) (va_Pc [.ref x, .int i1, .int i2] (hx_B T_tb (P_ty dA) (dC, dI) vwCl L h sz)) (va_Qv (fun (u : List Nat × hx_h) => hx_T T_tb u.1 u.2 ∧ hx_S T_tb [(10, 86), (10, 87), (110, 0)] L h u.1 u.2) (hx_E T_tb (P_ty dA) (dC, dI) vwCl (hx_A L sz)) (hx_A L sz)) 0 0 (hx_A L sz) := by
  refine hx_met (lv := [(0, .ref x), (1, .int i1), (2, .int i2)]) (by decide +kernel) rfl (Nat.le_of_ble_eq_true rfl) rfl ?_
  intro p e s m below meth c hx hb hml hr hlk hts0 hown hin hsz hW ls hl
  have hts : ∀ w ∈ hx_all, w.before _ s = true := fun w hw => hts0 w (List.mem_cons_of_mem _ hw)
  have hown : s.vm.findClass "SmallCourtModel" = some m.cls := hown
  have hM : hx_S T_tb [(10, 86), (10, 87), (110, 0)] L h L h := hx_S.rf
  refine lv_aload_n hx hb dX10_offers_0 rfl (lv_at hl 0 rfl) ?_
  refine hx_getn hx hb hts hC_10 hown hW hT gx tt_10 82 (by decide) rfl kw_1225 ⟨rfl, rfl, rfl⟩ dX10_offers_1 (fun q_1 fq_1 gq_1 => ?_)
  refine lv_bipush (v := 40) hx hb dX10_offers_4 (by decide) ?_
  refine lv_aload_n hx hb dX10_offers_6 rfl (lv_at hl 0 rfl) ?_
  refine hx_getn hx hb hts hC_10 hown hW hT gx tt_10 89 (by decide) rfl kw_1232 ⟨rfl, rfl, rfl⟩ dX10_offers_7 (fun q_2 fq_2 gq_2 => ?_)
  refine lv_iload_n hx hb dX10_offers_10 rfl (lv_at hl 1 rfl) ?_
  refine lv_iconst (v := 1) hx hb dX10_offers_11 (by decide) ?_
  refine lv_isub hx hb dX10_offers_12 ?_
  have rg_3 := i32_r i1
  refine lv_topi (fun x_4 ex_4 => ?_)
  have zx_4 : x_4.toInt = i1.toInt - 1 := by rw [ex_4]; exact i32_sub rfl (by decide) (by omega) (by omega)
  refine hx_iald hx hb hW hT gq_2 tt_111 rfl ⟨by omega, by omega⟩ dX10_offers_13 (fun x_5 ex_5 lx_5 ux_5 => ?_)
  refine lv_imul hx hb dX10_offers_14 ?_
  refine lv_topi (fun x_6 ex_6 => ?_)
  have zx_6 : x_6.toInt = 40 * x_5.toInt := by rw [ex_6]; exact i32_mul (by decide) rfl rfl (by omega) (by omega)
  refine lv_aload_n hx hb dX10_offers_15 rfl (lv_at hl 0 rfl) ?_
  refine hk_getr hx hb hts hC_10 hown hW gx tt_10 89 (by decide) rfl kw_1232 ⟨rfl, rfl, rfl⟩ fq_2 dX10_offers_16 ?_
  refine lv_iconst (v := 0) hx hb dX10_offers_19 (by decide) ?_
  refine hx_iald hx hb hW hT gq_2 tt_111 rfl (by decide) dX10_offers_20 (fun x_7 ex_7 lx_7 ux_7 => ?_)
  refine lv_iadd hx hb dX10_offers_21 ?_
  have rg_8 := i32_r x_6
  have rg_9 := i32_r x_7
  refine lv_topi (fun x_10 ex_10 => ?_)
  have zx_10 : x_10.toInt = x_6.toInt + x_7.toInt := by rw [ex_10]; exact i32_add rfl rfl (by omega) (by omega)
  refine hx_iald hx hb hW hT gq_1 tt_108 rfl ⟨by omega, by omega⟩ dX10_offers_22 (fun x_11 ex_11 lx_11 ux_11 => ?_)
  refine lv_istore_n (lv' := [(3, .int x_11), (0, .ref x), (1, .int i1), (2, .int i2)]) hx hb dX10_offers_23 rfl hl (by decide) rfl (fun ls hl => ?_)
  refine lv_iload_n hx hb dX10_offers_24 rfl (lv_at hl 0 rfl) ?_
  refine lv_iload_n hx hb dX10_offers_25 rfl (lv_at hl 3 rfl) ?_
  refine hb_icmp_ge (zx := x_11.toInt) (zy := i2.toInt) (tgt := 33) hx hb rfl rfl dX10_offers_26 (by decide) (fun c_12 => ?_) (fun c_12 => ?_)
  · skip
    refine lv_iload_n hx hb dX10_offers_33 rfl (lv_at hl 3 rfl) ?_
    refine lv_istore (lv' := [(4, .int i2), (3, .int x_11), (0, .ref x), (1, .int i1), (2, .int i2)]) hx hb dX10_offers_34 hl (by decide) rfl (fun ls hl => ?_)
    refine lv_iload hx hb dX10_offers_36 (lv_at hl 0 rfl) ?_
    refine hb_if_eq (zx := i2.toInt) (tgt := 67) hx hb rfl dX10_offers_38 (by decide) (fun c_13 => ?_) (fun c_13 => ?_)
    · skip
      exact hx_retv hx hb hr hlk hW ⟨hT, hM⟩ dX10_offers_67
    · skip
      refine lv_iload hx hb dX10_offers_41 (lv_at hl 0 rfl) ?_
      refine lv_aload_n hx hb dX10_offers_43 rfl (lv_at hl 2 rfl) ?_
      refine hx_geti hx hb hts hC_10 hown hW hT gx tt_10 86 (by decide) rfl kw_1229 ⟨rfl, rfl, rfl⟩ dX10_offers_44 (fun x_14 ex_14 lx_14 ux_14 => ?_)
      have fx_14 := ex_14.symm
      refine hb_icmp_lt (zx := i2.toInt) (zy := x_14.toInt) (tgt := 67) hx hb rfl rfl dX10_offers_47 (by decide) (fun c_15 => ?_) (fun c_15 => ?_)
      · skip
        exact hx_retv hx hb hr hlk hW ⟨hT, hM⟩ dX10_offers_67
      · skip
        refine lv_iload hx hb dX10_offers_50 (lv_at hl 0 rfl) ?_
        refine lv_aload_n hx hb dX10_offers_52 rfl (lv_at hl 2 rfl) ?_
        refine hk_geti hx hb hts hC_10 hown hW gx tt_10 86 (by decide) rfl kw_1229 ⟨rfl, rfl, rfl⟩ fx_14 dX10_offers_53 ?_
        refine hb_icmp_ne (zx := i2.toInt) (zy := x_14.toInt) (tgt := 68) hx hb rfl rfl dX10_offers_56 (by decide) (fun c_16 => ?_) (fun c_16 => ?_)
        · skip
          refine lv_aload_n hx hb dX10_offers_68 rfl (lv_at hl 2 rfl) ?_
          refine lv_iload hx hb dX10_offers_69 (lv_at hl 0 rfl) ?_
          refine hx_puti hx hb hts hC_10 hown hW hT (hx_S.rf (M := [(10, 86)])) gx tt_10 86 (by decide) rfl kw_1229 ⟨rfl, rfl, rfl⟩ rfl (x := i2) (i32_r _) rfl rfl rfl (List.mem_singleton.mpr rfl) dX10_offers_71 (fun H locs h_17 eh_17 hW hT hs => ?_)
          have fq_1 := (hs.o gx trivial rfl).2.trans fq_1
          have fq_2 := (hs.o gx trivial rfl).2.trans fq_2
          have ex_5 := ex_5.trans (hs.a gq_2 rfl _).1.symm
          have ex_7 := ex_7.trans (hs.a gq_2 rfl _).1.symm
          have ex_11 := ex_11.trans (hs.a gq_1 rfl _).1.symm
          have hM := hM.tr (hs.mono (by decide))
          have gx := gx.S hs
          have gq_1 := gq_1.S hs
          have gq_2 := gq_2.S hs
          have f_18 : h_17.2.1 x 86 = i2 := by rw [eh_17]; exact hx_pi_at _ _ _ _
          refine lv_aload_n hx hb dX10_offers_74 rfl (lv_at hl 2 rfl) ?_
          refine lv_iload_n hx hb dX10_offers_75 rfl (lv_at hl 3 rfl) ?_
          refine hx_puti hx hb hts hC_10 hown hW hT (hx_S.rf (M := [(10, 87)])) gx tt_10 87 (by decide) rfl kw_1230 ⟨rfl, rfl, rfl⟩ rfl (x := i1) ⟨by omega, by omega⟩ rfl rfl rfl (List.mem_singleton.mpr rfl) dX10_offers_76 (fun H locs h_19 eh_19 hW hT hs => ?_)
          have fq_1 := (hs.o gx trivial rfl).2.trans fq_1
          have fq_2 := (hs.o gx trivial rfl).2.trans fq_2
          have f_18 := (hs.o gx trivial rfl).1.trans f_18
          have ex_5 := ex_5.trans (hs.a gq_2 rfl _).1.symm
          have ex_7 := ex_7.trans (hs.a gq_2 rfl _).1.symm
          have ex_11 := ex_11.trans (hs.a gq_1 rfl _).1.symm
          have hM := hM.tr (hs.mono (by decide))
          have gx := gx.S hs
          have gq_1 := gq_1.S hs
          have gq_2 := gq_2.S hs
          have f_20 : h_19.2.1 x 87 = i1 := by rw [eh_19]; exact hx_pi_at _ _ _ _
          refine lv_iconst (v := 0) hx hb dX10_offers_79 (by decide) ?_
          refine lv_istore (lv' := [(5, .int (0 : Int32)), (4, .int i2), (3, .int x_11), (0, .ref x), (1, .int i1), (2, .int i2)]) hx hb dX10_offers_80 hl (by decide) rfl (fun ls hl => ?_)
          have loop82 : ∀ (n82 : Nat) (iv82_5 : Int32) (H : Heap) (locs : List Loc) (hL1 : List Nat) (hl1 : hx_h), 0 ≤ iv82_5.toInt → iv82_5.toInt ≤ 4 → ∀ (ls : Array Slot), 4 - iv82_5.toInt < (n82 : Int) → hx_W T_tb (P_ty dA) (dC, dI) vwCl (hx_A L sz) s.heap hL1 hl1 s H locs → hx_T T_tb hL1 hl1 → hx_S T_tb [(10, 86), (10, 87), (110, 0)] L h hL1 hl1 → hl1.2.2 x 82 = some q_1 → hl1.2.2 x 89 = some q_2 → hx_g hL1 hl1 x 10 → hx_g hL1 hl1 q_1 108 → hx_g hL1 hl1 q_2 111 → lv_has ls 6 [(5, .int iv82_5), (4, .int i2), (3, .int x_11), (0, .ref x), (1, .int i1), (2, .int i2)] → W p l e ({ frames := 0, cells := 0, slots := 0, locals := 0 }) s m ([.ref x, .int i1, .int i2] : List Value).toArray below meth c H locs 0 0 (MQ below (va_Qv (fun (u : List Nat × hx_h) => hx_T T_tb u.1 u.2 ∧ hx_S T_tb [(10, 86), (10, 87), (110, 0)] L h u.1 u.2) (hx_E T_tb (P_ty dA) (dC, dI) vwCl (hx_A L sz)) (hx_A L sz)) ([.ref x, .int i1, .int i2] : List Value).toArray s 0 0 (hx_A L sz)) (F0 m 82 ls []) := by
            intro n82
            induction n82 with
            | zero => intro iv82_5 H locs hL1 hl1 bliv82_5 buiv82_5  ls hn82; exfalso; omega
            | succ n82 ih82 =>
              intro iv82_5 H locs hL1 hl1 bliv82_5 buiv82_5  ls hn82 hW hT hM fq_1 fq_2 gx gq_1 gq_2 hl
              refine lv_iload hx hb dX10_offers_82 (lv_at hl 0 rfl) ?_
              refine lv_iload_n hx hb dX10_offers_84 rfl (lv_at hl 4 rfl) ?_
              refine hb_icmp_ge (zx := iv82_5.toInt) (zy := i1.toInt) (tgt := 108) hx hb rfl rfl dX10_offers_85 (by decide) (fun c_21 => ?_) (fun c_21 => ?_)
              · skip
                exact hx_retv hx hb hr hlk hW ⟨hT, hM⟩ dX10_offers_108
              · skip
                refine lv_aload_n hx hb dX10_offers_88 rfl (lv_at hl 3 rfl) ?_
                refine hx_getn hx hb hts hC_10 hown hW hT gx tt_10 88 (by decide) rfl kw_1231 ⟨rfl, rfl, rfl⟩ dX10_offers_89 (fun q_22 fq_22 gq_22 => ?_)
                refine lv_iload hx hb dX10_offers_92 (lv_at hl 0 rfl) ?_
                refine lv_aload_n hx hb dX10_offers_94 rfl (lv_at hl 3 rfl) ?_
                refine hk_getr hx hb hts hC_10 hown hW gx tt_10 89 (by decide) rfl kw_1232 ⟨rfl, rfl, rfl⟩ fq_2 dX10_offers_95 ?_
                refine lv_iload hx hb dX10_offers_98 (lv_at hl 0 rfl) ?_
                refine hx_iald hx hb hW hT gq_2 tt_111 rfl ⟨by omega, by omega⟩ dX10_offers_100 (fun x_23 ex_23 lx_23 ux_23 => ?_)
                refine hx_iast hx hb hW hT (hx_S.rf (M := [(110, 0)])) gq_22 tt_110 rfl ⟨by omega, by omega⟩ rfl ⟨by omega, by omega⟩ (List.mem_singleton.mpr rfl) dX10_offers_101 (fun H locs h_24 eh_24 hW hT hs => ?_)
                have fq_1 := (hs.o gx trivial rfl).2.trans fq_1
                have fq_2 := (hs.o gx trivial rfl).2.trans fq_2
                have fq_22 := (hs.o gx trivial rfl).2.trans fq_22
                have ex_23 := ex_23.trans (hs.a gq_2 rfl _).1.symm
                have hM := hM.tr (hs.mono (by decide))
                have gx := gx.S hs
                have gq_1 := gq_1.S hs
                have gq_2 := gq_2.S hs
                have gq_22 := gq_22.S hs
                obtain ⟨x_25, ex_25⟩ : ∃ y : Int32, y = iv82_5 + Int32.ofInt 1 := ⟨_, rfl⟩
                have rg_26 := i32_r iv82_5
                have zx_25 : x_25.toInt = iv82_5.toInt + (1) := by rw [ex_25]; exact i32_add rfl (by decide) (by omega) (by omega)
                refine lv_iinc (v := x_25) (lv' := [(5, .int x_25), (4, .int i2), (3, .int x_11), (0, .ref x), (1, .int i1), (2, .int i2)]) hx hb dX10_offers_102 hl (k := 0) rfl ex_25.symm (by decide) rfl (fun ls hl => ?_)
                refine lv_goto (tgt := 82) hx hb dX10_offers_105 (by decide) ?_
                exact ih82 x_25 _ _ hL1 h_24 (by omega) (by omega)  ls (by omega) hW hT hM fq_1 fq_2 gx gq_1 gq_2 (lv_sub hl [0, 1, 2, 3, 4, 5] rfl)
          have zk_0 : (0 : Int32).toInt = 0 := by decide
          exact loop82 5 (0 : Int32) _ _ L h_19 (by decide) (by decide)  ls (by omega) hW hT hM fq_1 fq_2 gx gq_1 gq_2 hl
        · skip
          refine lv_iload_n hx hb dX10_offers_59 rfl (lv_at hl 3 rfl) ?_
          refine lv_aload_n hx hb dX10_offers_60 rfl (lv_at hl 2 rfl) ?_
          refine hx_geti hx hb hts hC_10 hown hW hT gx tt_10 87 (by decide) rfl kw_1230 ⟨rfl, rfl, rfl⟩ dX10_offers_61 (fun x_27 ex_27 lx_27 ux_27 => ?_)
          have fx_27 := ex_27.symm
          refine hb_icmp_lt (zx := i1.toInt) (zy := x_27.toInt) (tgt := 68) hx hb rfl rfl dX10_offers_64 (by decide) (fun c_28 => ?_) (fun c_28 => ?_)
          · skip
            refine lv_aload_n hx hb dX10_offers_68 rfl (lv_at hl 2 rfl) ?_
            refine lv_iload hx hb dX10_offers_69 (lv_at hl 0 rfl) ?_
            refine hx_puti hx hb hts hC_10 hown hW hT (hx_S.rf (M := [(10, 86)])) gx tt_10 86 (by decide) rfl kw_1229 ⟨rfl, rfl, rfl⟩ rfl (x := i2) (i32_r _) rfl rfl rfl (List.mem_singleton.mpr rfl) dX10_offers_71 (fun H locs h_29 eh_29 hW hT hs => ?_)
            have fq_1 := (hs.o gx trivial rfl).2.trans fq_1
            have fq_2 := (hs.o gx trivial rfl).2.trans fq_2
            have fx_27 := (hs.o gx trivial rfl).1.trans fx_27
            have ex_5 := ex_5.trans (hs.a gq_2 rfl _).1.symm
            have ex_7 := ex_7.trans (hs.a gq_2 rfl _).1.symm
            have ex_11 := ex_11.trans (hs.a gq_1 rfl _).1.symm
            have hM := hM.tr (hs.mono (by decide))
            have gx := gx.S hs
            have gq_1 := gq_1.S hs
            have gq_2 := gq_2.S hs
            have f_30 : h_29.2.1 x 86 = i2 := by rw [eh_29]; exact hx_pi_at _ _ _ _
            refine lv_aload_n hx hb dX10_offers_74 rfl (lv_at hl 2 rfl) ?_
            refine lv_iload_n hx hb dX10_offers_75 rfl (lv_at hl 3 rfl) ?_
            refine hx_puti hx hb hts hC_10 hown hW hT (hx_S.rf (M := [(10, 87)])) gx tt_10 87 (by decide) rfl kw_1230 ⟨rfl, rfl, rfl⟩ rfl (x := i1) ⟨by omega, by omega⟩ rfl rfl rfl (List.mem_singleton.mpr rfl) dX10_offers_76 (fun H locs h_31 eh_31 hW hT hs => ?_)
            have fq_1 := (hs.o gx trivial rfl).2.trans fq_1
            have fq_2 := (hs.o gx trivial rfl).2.trans fq_2
            have f_30 := (hs.o gx trivial rfl).1.trans f_30
            have ex_5 := ex_5.trans (hs.a gq_2 rfl _).1.symm
            have ex_7 := ex_7.trans (hs.a gq_2 rfl _).1.symm
            have ex_11 := ex_11.trans (hs.a gq_1 rfl _).1.symm
            have hM := hM.tr (hs.mono (by decide))
            have gx := gx.S hs
            have gq_1 := gq_1.S hs
            have gq_2 := gq_2.S hs
            have f_32 : h_31.2.1 x 87 = i1 := by rw [eh_31]; exact hx_pi_at _ _ _ _
            refine lv_iconst (v := 0) hx hb dX10_offers_79 (by decide) ?_
            refine lv_istore (lv' := [(5, .int (0 : Int32)), (4, .int i2), (3, .int x_11), (0, .ref x), (1, .int i1), (2, .int i2)]) hx hb dX10_offers_80 hl (by decide) rfl (fun ls hl => ?_)
            have loop82 : ∀ (n82 : Nat) (iv82_5 : Int32) (H : Heap) (locs : List Loc) (hL1 : List Nat) (hl1 : hx_h), 0 ≤ iv82_5.toInt → iv82_5.toInt ≤ 4 → ∀ (ls : Array Slot), 4 - iv82_5.toInt < (n82 : Int) → hx_W T_tb (P_ty dA) (dC, dI) vwCl (hx_A L sz) s.heap hL1 hl1 s H locs → hx_T T_tb hL1 hl1 → hx_S T_tb [(10, 86), (10, 87), (110, 0)] L h hL1 hl1 → hl1.2.2 x 82 = some q_1 → hl1.2.2 x 89 = some q_2 → hx_g hL1 hl1 x 10 → hx_g hL1 hl1 q_1 108 → hx_g hL1 hl1 q_2 111 → lv_has ls 6 [(5, .int iv82_5), (4, .int i2), (3, .int x_11), (0, .ref x), (1, .int i1), (2, .int i2)] → W p l e ({ frames := 0, cells := 0, slots := 0, locals := 0 }) s m ([.ref x, .int i1, .int i2] : List Value).toArray below meth c H locs 0 0 (MQ below (va_Qv (fun (u : List Nat × hx_h) => hx_T T_tb u.1 u.2 ∧ hx_S T_tb [(10, 86), (10, 87), (110, 0)] L h u.1 u.2) (hx_E T_tb (P_ty dA) (dC, dI) vwCl (hx_A L sz)) (hx_A L sz)) ([.ref x, .int i1, .int i2] : List Value).toArray s 0 0 (hx_A L sz)) (F0 m 82 ls []) := by
              intro n82
              induction n82 with
              | zero => intro iv82_5 H locs hL1 hl1 bliv82_5 buiv82_5  ls hn82; exfalso; omega
              | succ n82 ih82 =>
                intro iv82_5 H locs hL1 hl1 bliv82_5 buiv82_5  ls hn82 hW hT hM fq_1 fq_2 gx gq_1 gq_2 hl
                refine lv_iload hx hb dX10_offers_82 (lv_at hl 0 rfl) ?_
                refine lv_iload_n hx hb dX10_offers_84 rfl (lv_at hl 4 rfl) ?_
                refine hb_icmp_ge (zx := iv82_5.toInt) (zy := i1.toInt) (tgt := 108) hx hb rfl rfl dX10_offers_85 (by decide) (fun c_33 => ?_) (fun c_33 => ?_)
                · skip
                  exact hx_retv hx hb hr hlk hW ⟨hT, hM⟩ dX10_offers_108
                · skip
                  refine lv_aload_n hx hb dX10_offers_88 rfl (lv_at hl 3 rfl) ?_
                  refine hx_getn hx hb hts hC_10 hown hW hT gx tt_10 88 (by decide) rfl kw_1231 ⟨rfl, rfl, rfl⟩ dX10_offers_89 (fun q_34 fq_34 gq_34 => ?_)
                  refine lv_iload hx hb dX10_offers_92 (lv_at hl 0 rfl) ?_
                  refine lv_aload_n hx hb dX10_offers_94 rfl (lv_at hl 3 rfl) ?_
                  refine hk_getr hx hb hts hC_10 hown hW gx tt_10 89 (by decide) rfl kw_1232 ⟨rfl, rfl, rfl⟩ fq_2 dX10_offers_95 ?_
                  refine lv_iload hx hb dX10_offers_98 (lv_at hl 0 rfl) ?_
                  refine hx_iald hx hb hW hT gq_2 tt_111 rfl ⟨by omega, by omega⟩ dX10_offers_100 (fun x_35 ex_35 lx_35 ux_35 => ?_)
                  refine hx_iast hx hb hW hT (hx_S.rf (M := [(110, 0)])) gq_34 tt_110 rfl ⟨by omega, by omega⟩ rfl ⟨by omega, by omega⟩ (List.mem_singleton.mpr rfl) dX10_offers_101 (fun H locs h_36 eh_36 hW hT hs => ?_)
                  have fq_1 := (hs.o gx trivial rfl).2.trans fq_1
                  have fq_2 := (hs.o gx trivial rfl).2.trans fq_2
                  have fq_34 := (hs.o gx trivial rfl).2.trans fq_34
                  have ex_35 := ex_35.trans (hs.a gq_2 rfl _).1.symm
                  have hM := hM.tr (hs.mono (by decide))
                  have gx := gx.S hs
                  have gq_1 := gq_1.S hs
                  have gq_2 := gq_2.S hs
                  have gq_34 := gq_34.S hs
                  obtain ⟨x_37, ex_37⟩ : ∃ y : Int32, y = iv82_5 + Int32.ofInt 1 := ⟨_, rfl⟩
                  have rg_38 := i32_r iv82_5
                  have zx_37 : x_37.toInt = iv82_5.toInt + (1) := by rw [ex_37]; exact i32_add rfl (by decide) (by omega) (by omega)
                  refine lv_iinc (v := x_37) (lv' := [(5, .int x_37), (4, .int i2), (3, .int x_11), (0, .ref x), (1, .int i1), (2, .int i2)]) hx hb dX10_offers_102 hl (k := 0) rfl ex_37.symm (by decide) rfl (fun ls hl => ?_)
                  refine lv_goto (tgt := 82) hx hb dX10_offers_105 (by decide) ?_
                  exact ih82 x_37 _ _ hL1 h_36 (by omega) (by omega)  ls (by omega) hW hT hM fq_1 fq_2 gx gq_1 gq_2 (lv_sub hl [0, 1, 2, 3, 4, 5] rfl)
            have zk_0 : (0 : Int32).toInt = 0 := by decide
            exact loop82 5 (0 : Int32) _ _ L h_31 (by decide) (by decide)  ls (by omega) hW hT hM fq_1 fq_2 gx gq_1 gq_2 hl
          · skip
            exact hx_retv hx hb hr hlk hW ⟨hT, hM⟩ dX10_offers_67
  · skip
    refine lv_iload_n hx hb dX10_offers_29 rfl (lv_at hl 0 rfl) ?_
    refine lv_goto (tgt := 34) hx hb dX10_offers_30 (by decide) ?_
    refine lv_istore (lv' := [(4, .int x_11), (3, .int x_11), (0, .ref x), (1, .int i1), (2, .int i2)]) hx hb dX10_offers_34 hl (by decide) rfl (fun ls hl => ?_)
    refine lv_iload hx hb dX10_offers_36 (lv_at hl 0 rfl) ?_
    refine hb_if_eq (zx := x_11.toInt) (tgt := 67) hx hb rfl dX10_offers_38 (by decide) (fun c_39 => ?_) (fun c_39 => ?_)
    · skip
      exact hx_retv hx hb hr hlk hW ⟨hT, hM⟩ dX10_offers_67
    · skip
      refine lv_iload hx hb dX10_offers_41 (lv_at hl 0 rfl) ?_
      refine lv_aload_n hx hb dX10_offers_43 rfl (lv_at hl 2 rfl) ?_
      refine hx_geti hx hb hts hC_10 hown hW hT gx tt_10 86 (by decide) rfl kw_1229 ⟨rfl, rfl, rfl⟩ dX10_offers_44 (fun x_40 ex_40 lx_40 ux_40 => ?_)
      have fx_40 := ex_40.symm
      refine hb_icmp_lt (zx := x_11.toInt) (zy := x_40.toInt) (tgt := 67) hx hb rfl rfl dX10_offers_47 (by decide) (fun c_41 => ?_) (fun c_41 => ?_)
      · skip
        exact hx_retv hx hb hr hlk hW ⟨hT, hM⟩ dX10_offers_67
      · skip
        refine lv_iload hx hb dX10_offers_50 (lv_at hl 0 rfl) ?_
        refine lv_aload_n hx hb dX10_offers_52 rfl (lv_at hl 2 rfl) ?_
        refine hk_geti hx hb hts hC_10 hown hW gx tt_10 86 (by decide) rfl kw_1229 ⟨rfl, rfl, rfl⟩ fx_40 dX10_offers_53 ?_
        refine hb_icmp_ne (zx := x_11.toInt) (zy := x_40.toInt) (tgt := 68) hx hb rfl rfl dX10_offers_56 (by decide) (fun c_42 => ?_) (fun c_42 => ?_)
        · skip
          refine lv_aload_n hx hb dX10_offers_68 rfl (lv_at hl 2 rfl) ?_
          refine lv_iload hx hb dX10_offers_69 (lv_at hl 0 rfl) ?_
          refine hx_puti hx hb hts hC_10 hown hW hT (hx_S.rf (M := [(10, 86)])) gx tt_10 86 (by decide) rfl kw_1229 ⟨rfl, rfl, rfl⟩ rfl (x := x_11) (i32_r _) rfl rfl rfl (List.mem_singleton.mpr rfl) dX10_offers_71 (fun H locs h_43 eh_43 hW hT hs => ?_)
          have fq_1 := (hs.o gx trivial rfl).2.trans fq_1
          have fq_2 := (hs.o gx trivial rfl).2.trans fq_2
          have ex_5 := ex_5.trans (hs.a gq_2 rfl _).1.symm
          have ex_7 := ex_7.trans (hs.a gq_2 rfl _).1.symm
          have ex_11 := ex_11.trans (hs.a gq_1 rfl _).1.symm
          have hM := hM.tr (hs.mono (by decide))
          have gx := gx.S hs
          have gq_1 := gq_1.S hs
          have gq_2 := gq_2.S hs
          have f_44 : h_43.2.1 x 86 = x_11 := by rw [eh_43]; exact hx_pi_at _ _ _ _
          refine lv_aload_n hx hb dX10_offers_74 rfl (lv_at hl 2 rfl) ?_
          refine lv_iload_n hx hb dX10_offers_75 rfl (lv_at hl 3 rfl) ?_
          refine hx_puti hx hb hts hC_10 hown hW hT (hx_S.rf (M := [(10, 87)])) gx tt_10 87 (by decide) rfl kw_1230 ⟨rfl, rfl, rfl⟩ rfl (x := i1) ⟨by omega, by omega⟩ rfl rfl rfl (List.mem_singleton.mpr rfl) dX10_offers_76 (fun H locs h_45 eh_45 hW hT hs => ?_)
          have fq_1 := (hs.o gx trivial rfl).2.trans fq_1
          have fq_2 := (hs.o gx trivial rfl).2.trans fq_2
          have f_44 := (hs.o gx trivial rfl).1.trans f_44
          have ex_5 := ex_5.trans (hs.a gq_2 rfl _).1.symm
          have ex_7 := ex_7.trans (hs.a gq_2 rfl _).1.symm
          have ex_11 := ex_11.trans (hs.a gq_1 rfl _).1.symm
          have hM := hM.tr (hs.mono (by decide))
          have gx := gx.S hs
          have gq_1 := gq_1.S hs
          have gq_2 := gq_2.S hs
          have f_46 : h_45.2.1 x 87 = i1 := by rw [eh_45]; exact hx_pi_at _ _ _ _
          refine lv_iconst (v := 0) hx hb dX10_offers_79 (by decide) ?_
          refine lv_istore (lv' := [(5, .int (0 : Int32)), (4, .int x_11), (3, .int x_11), (0, .ref x), (1, .int i1), (2, .int i2)]) hx hb dX10_offers_80 hl (by decide) rfl (fun ls hl => ?_)
          have loop82 : ∀ (n82 : Nat) (iv82_5 : Int32) (H : Heap) (locs : List Loc) (hL1 : List Nat) (hl1 : hx_h), 0 ≤ iv82_5.toInt → iv82_5.toInt ≤ 4 → ∀ (ls : Array Slot), 4 - iv82_5.toInt < (n82 : Int) → hx_W T_tb (P_ty dA) (dC, dI) vwCl (hx_A L sz) s.heap hL1 hl1 s H locs → hx_T T_tb hL1 hl1 → hx_S T_tb [(10, 86), (10, 87), (110, 0)] L h hL1 hl1 → hl1.2.2 x 82 = some q_1 → hl1.2.2 x 89 = some q_2 → hx_g hL1 hl1 x 10 → hx_g hL1 hl1 q_1 108 → hx_g hL1 hl1 q_2 111 → lv_has ls 6 [(5, .int iv82_5), (4, .int x_11), (3, .int x_11), (0, .ref x), (1, .int i1), (2, .int i2)] → W p l e ({ frames := 0, cells := 0, slots := 0, locals := 0 }) s m ([.ref x, .int i1, .int i2] : List Value).toArray below meth c H locs 0 0 (MQ below (va_Qv (fun (u : List Nat × hx_h) => hx_T T_tb u.1 u.2 ∧ hx_S T_tb [(10, 86), (10, 87), (110, 0)] L h u.1 u.2) (hx_E T_tb (P_ty dA) (dC, dI) vwCl (hx_A L sz)) (hx_A L sz)) ([.ref x, .int i1, .int i2] : List Value).toArray s 0 0 (hx_A L sz)) (F0 m 82 ls []) := by
            intro n82
            induction n82 with
            | zero => intro iv82_5 H locs hL1 hl1 bliv82_5 buiv82_5  ls hn82; exfalso; omega
            | succ n82 ih82 =>
              intro iv82_5 H locs hL1 hl1 bliv82_5 buiv82_5  ls hn82 hW hT hM fq_1 fq_2 gx gq_1 gq_2 hl
              refine lv_iload hx hb dX10_offers_82 (lv_at hl 0 rfl) ?_
              refine lv_iload_n hx hb dX10_offers_84 rfl (lv_at hl 4 rfl) ?_
              refine hb_icmp_ge (zx := iv82_5.toInt) (zy := i1.toInt) (tgt := 108) hx hb rfl rfl dX10_offers_85 (by decide) (fun c_47 => ?_) (fun c_47 => ?_)
              · skip
                exact hx_retv hx hb hr hlk hW ⟨hT, hM⟩ dX10_offers_108
              · skip
                refine lv_aload_n hx hb dX10_offers_88 rfl (lv_at hl 3 rfl) ?_
                refine hx_getn hx hb hts hC_10 hown hW hT gx tt_10 88 (by decide) rfl kw_1231 ⟨rfl, rfl, rfl⟩ dX10_offers_89 (fun q_48 fq_48 gq_48 => ?_)
                refine lv_iload hx hb dX10_offers_92 (lv_at hl 0 rfl) ?_
                refine lv_aload_n hx hb dX10_offers_94 rfl (lv_at hl 3 rfl) ?_
                refine hk_getr hx hb hts hC_10 hown hW gx tt_10 89 (by decide) rfl kw_1232 ⟨rfl, rfl, rfl⟩ fq_2 dX10_offers_95 ?_
                refine lv_iload hx hb dX10_offers_98 (lv_at hl 0 rfl) ?_
                refine hx_iald hx hb hW hT gq_2 tt_111 rfl ⟨by omega, by omega⟩ dX10_offers_100 (fun x_49 ex_49 lx_49 ux_49 => ?_)
                refine hx_iast hx hb hW hT (hx_S.rf (M := [(110, 0)])) gq_48 tt_110 rfl ⟨by omega, by omega⟩ rfl ⟨by omega, by omega⟩ (List.mem_singleton.mpr rfl) dX10_offers_101 (fun H locs h_50 eh_50 hW hT hs => ?_)
                have fq_1 := (hs.o gx trivial rfl).2.trans fq_1
                have fq_2 := (hs.o gx trivial rfl).2.trans fq_2
                have fq_48 := (hs.o gx trivial rfl).2.trans fq_48
                have ex_49 := ex_49.trans (hs.a gq_2 rfl _).1.symm
                have hM := hM.tr (hs.mono (by decide))
                have gx := gx.S hs
                have gq_1 := gq_1.S hs
                have gq_2 := gq_2.S hs
                have gq_48 := gq_48.S hs
                obtain ⟨x_51, ex_51⟩ : ∃ y : Int32, y = iv82_5 + Int32.ofInt 1 := ⟨_, rfl⟩
                have rg_52 := i32_r iv82_5
                have zx_51 : x_51.toInt = iv82_5.toInt + (1) := by rw [ex_51]; exact i32_add rfl (by decide) (by omega) (by omega)
                refine lv_iinc (v := x_51) (lv' := [(5, .int x_51), (4, .int x_11), (3, .int x_11), (0, .ref x), (1, .int i1), (2, .int i2)]) hx hb dX10_offers_102 hl (k := 0) rfl ex_51.symm (by decide) rfl (fun ls hl => ?_)
                refine lv_goto (tgt := 82) hx hb dX10_offers_105 (by decide) ?_
                exact ih82 x_51 _ _ hL1 h_50 (by omega) (by omega)  ls (by omega) hW hT hM fq_1 fq_2 gx gq_1 gq_2 (lv_sub hl [0, 1, 2, 3, 4, 5] rfl)
          have zk_0 : (0 : Int32).toInt = 0 := by decide
          exact loop82 5 (0 : Int32) _ _ L h_45 (by decide) (by decide)  ls (by omega) hW hT hM fq_1 fq_2 gx gq_1 gq_2 hl
        · skip
          refine lv_iload_n hx hb dX10_offers_59 rfl (lv_at hl 3 rfl) ?_
          refine lv_aload_n hx hb dX10_offers_60 rfl (lv_at hl 2 rfl) ?_
          refine hx_geti hx hb hts hC_10 hown hW hT gx tt_10 87 (by decide) rfl kw_1230 ⟨rfl, rfl, rfl⟩ dX10_offers_61 (fun x_53 ex_53 lx_53 ux_53 => ?_)
          have fx_53 := ex_53.symm
          refine hb_icmp_lt (zx := i1.toInt) (zy := x_53.toInt) (tgt := 68) hx hb rfl rfl dX10_offers_64 (by decide) (fun c_54 => ?_) (fun c_54 => ?_)
          · skip
            refine lv_aload_n hx hb dX10_offers_68 rfl (lv_at hl 2 rfl) ?_
            refine lv_iload hx hb dX10_offers_69 (lv_at hl 0 rfl) ?_
            refine hx_puti hx hb hts hC_10 hown hW hT (hx_S.rf (M := [(10, 86)])) gx tt_10 86 (by decide) rfl kw_1229 ⟨rfl, rfl, rfl⟩ rfl (x := x_11) (i32_r _) rfl rfl rfl (List.mem_singleton.mpr rfl) dX10_offers_71 (fun H locs h_55 eh_55 hW hT hs => ?_)
            have fq_1 := (hs.o gx trivial rfl).2.trans fq_1
            have fq_2 := (hs.o gx trivial rfl).2.trans fq_2
            have fx_53 := (hs.o gx trivial rfl).1.trans fx_53
            have ex_5 := ex_5.trans (hs.a gq_2 rfl _).1.symm
            have ex_7 := ex_7.trans (hs.a gq_2 rfl _).1.symm
            have ex_11 := ex_11.trans (hs.a gq_1 rfl _).1.symm
            have hM := hM.tr (hs.mono (by decide))
            have gx := gx.S hs
            have gq_1 := gq_1.S hs
            have gq_2 := gq_2.S hs
            have f_56 : h_55.2.1 x 86 = x_11 := by rw [eh_55]; exact hx_pi_at _ _ _ _
            refine lv_aload_n hx hb dX10_offers_74 rfl (lv_at hl 2 rfl) ?_
            refine lv_iload_n hx hb dX10_offers_75 rfl (lv_at hl 3 rfl) ?_
            refine hx_puti hx hb hts hC_10 hown hW hT (hx_S.rf (M := [(10, 87)])) gx tt_10 87 (by decide) rfl kw_1230 ⟨rfl, rfl, rfl⟩ rfl (x := i1) ⟨by omega, by omega⟩ rfl rfl rfl (List.mem_singleton.mpr rfl) dX10_offers_76 (fun H locs h_57 eh_57 hW hT hs => ?_)
            have fq_1 := (hs.o gx trivial rfl).2.trans fq_1
            have fq_2 := (hs.o gx trivial rfl).2.trans fq_2
            have f_56 := (hs.o gx trivial rfl).1.trans f_56
            have ex_5 := ex_5.trans (hs.a gq_2 rfl _).1.symm
            have ex_7 := ex_7.trans (hs.a gq_2 rfl _).1.symm
            have ex_11 := ex_11.trans (hs.a gq_1 rfl _).1.symm
            have hM := hM.tr (hs.mono (by decide))
            have gx := gx.S hs
            have gq_1 := gq_1.S hs
            have gq_2 := gq_2.S hs
            have f_58 : h_57.2.1 x 87 = i1 := by rw [eh_57]; exact hx_pi_at _ _ _ _
            refine lv_iconst (v := 0) hx hb dX10_offers_79 (by decide) ?_
            refine lv_istore (lv' := [(5, .int (0 : Int32)), (4, .int x_11), (3, .int x_11), (0, .ref x), (1, .int i1), (2, .int i2)]) hx hb dX10_offers_80 hl (by decide) rfl (fun ls hl => ?_)
            have loop82 : ∀ (n82 : Nat) (iv82_5 : Int32) (H : Heap) (locs : List Loc) (hL1 : List Nat) (hl1 : hx_h), 0 ≤ iv82_5.toInt → iv82_5.toInt ≤ 4 → ∀ (ls : Array Slot), 4 - iv82_5.toInt < (n82 : Int) → hx_W T_tb (P_ty dA) (dC, dI) vwCl (hx_A L sz) s.heap hL1 hl1 s H locs → hx_T T_tb hL1 hl1 → hx_S T_tb [(10, 86), (10, 87), (110, 0)] L h hL1 hl1 → hl1.2.2 x 82 = some q_1 → hl1.2.2 x 89 = some q_2 → hx_g hL1 hl1 x 10 → hx_g hL1 hl1 q_1 108 → hx_g hL1 hl1 q_2 111 → lv_has ls 6 [(5, .int iv82_5), (4, .int x_11), (3, .int x_11), (0, .ref x), (1, .int i1), (2, .int i2)] → W p l e ({ frames := 0, cells := 0, slots := 0, locals := 0 }) s m ([.ref x, .int i1, .int i2] : List Value).toArray below meth c H locs 0 0 (MQ below (va_Qv (fun (u : List Nat × hx_h) => hx_T T_tb u.1 u.2 ∧ hx_S T_tb [(10, 86), (10, 87), (110, 0)] L h u.1 u.2) (hx_E T_tb (P_ty dA) (dC, dI) vwCl (hx_A L sz)) (hx_A L sz)) ([.ref x, .int i1, .int i2] : List Value).toArray s 0 0 (hx_A L sz)) (F0 m 82 ls []) := by
              intro n82
              induction n82 with
              | zero => intro iv82_5 H locs hL1 hl1 bliv82_5 buiv82_5  ls hn82; exfalso; omega
              | succ n82 ih82 =>
                intro iv82_5 H locs hL1 hl1 bliv82_5 buiv82_5  ls hn82 hW hT hM fq_1 fq_2 gx gq_1 gq_2 hl
                refine lv_iload hx hb dX10_offers_82 (lv_at hl 0 rfl) ?_
                refine lv_iload_n hx hb dX10_offers_84 rfl (lv_at hl 4 rfl) ?_
                refine hb_icmp_ge (zx := iv82_5.toInt) (zy := i1.toInt) (tgt := 108) hx hb rfl rfl dX10_offers_85 (by decide) (fun c_59 => ?_) (fun c_59 => ?_)
                · skip
                  exact hx_retv hx hb hr hlk hW ⟨hT, hM⟩ dX10_offers_108
                · skip
                  refine lv_aload_n hx hb dX10_offers_88 rfl (lv_at hl 3 rfl) ?_
                  refine hx_getn hx hb hts hC_10 hown hW hT gx tt_10 88 (by decide) rfl kw_1231 ⟨rfl, rfl, rfl⟩ dX10_offers_89 (fun q_60 fq_60 gq_60 => ?_)
                  refine lv_iload hx hb dX10_offers_92 (lv_at hl 0 rfl) ?_
                  refine lv_aload_n hx hb dX10_offers_94 rfl (lv_at hl 3 rfl) ?_
                  refine hk_getr hx hb hts hC_10 hown hW gx tt_10 89 (by decide) rfl kw_1232 ⟨rfl, rfl, rfl⟩ fq_2 dX10_offers_95 ?_
                  refine lv_iload hx hb dX10_offers_98 (lv_at hl 0 rfl) ?_
                  refine hx_iald hx hb hW hT gq_2 tt_111 rfl ⟨by omega, by omega⟩ dX10_offers_100 (fun x_61 ex_61 lx_61 ux_61 => ?_)
                  refine hx_iast hx hb hW hT (hx_S.rf (M := [(110, 0)])) gq_60 tt_110 rfl ⟨by omega, by omega⟩ rfl ⟨by omega, by omega⟩ (List.mem_singleton.mpr rfl) dX10_offers_101 (fun H locs h_62 eh_62 hW hT hs => ?_)
                  have fq_1 := (hs.o gx trivial rfl).2.trans fq_1
                  have fq_2 := (hs.o gx trivial rfl).2.trans fq_2
                  have fq_60 := (hs.o gx trivial rfl).2.trans fq_60
                  have ex_61 := ex_61.trans (hs.a gq_2 rfl _).1.symm
                  have hM := hM.tr (hs.mono (by decide))
                  have gx := gx.S hs
                  have gq_1 := gq_1.S hs
                  have gq_2 := gq_2.S hs
                  have gq_60 := gq_60.S hs
                  obtain ⟨x_63, ex_63⟩ : ∃ y : Int32, y = iv82_5 + Int32.ofInt 1 := ⟨_, rfl⟩
                  have rg_64 := i32_r iv82_5
                  have zx_63 : x_63.toInt = iv82_5.toInt + (1) := by rw [ex_63]; exact i32_add rfl (by decide) (by omega) (by omega)
                  refine lv_iinc (v := x_63) (lv' := [(5, .int x_63), (4, .int x_11), (3, .int x_11), (0, .ref x), (1, .int i1), (2, .int i2)]) hx hb dX10_offers_102 hl (k := 0) rfl ex_63.symm (by decide) rfl (fun ls hl => ?_)
                  refine lv_goto (tgt := 82) hx hb dX10_offers_105 (by decide) ?_
                  exact ih82 x_63 _ _ hL1 h_62 (by omega) (by omega)  ls (by omega) hW hT hM fq_1 fq_2 gx gq_1 gq_2 (lv_sub hl [0, 1, 2, 3, 4, 5] rfl)
            have zk_0 : (0 : Int32).toInt = 0 := by decide
            exact loop82 5 (0 : Int32) _ _ L h_57 (by decide) (by decide)  ls (by omega) hW hT hM fq_1 fq_2 gx gq_1 gq_2 hl
          · skip
            exact hx_retv hx hb hr hlk hW ⟨hT, hM⟩ dX10_offers_67

theorem dX10_finds_0 : decode cX10_finds 0 = .ok (.aload_n 0, 1) := by decide +kernel
theorem dX10_finds_1 : decode cX10_finds 1 = .ok (.iconst 0, 1) := by decide +kernel
theorem dX10_finds_2 : decode cX10_finds 2 = .ok (.putfield 438, 3) := by decide +kernel
theorem dX10_finds_5 : decode cX10_finds 5 = .ok (.aload_n 0, 1) := by decide +kernel
theorem dX10_finds_6 : decode cX10_finds 6 = .ok (.iconst 0, 1) := by decide +kernel
theorem dX10_finds_7 : decode cX10_finds 7 = .ok (.putfield 441, 3) := by decide +kernel
theorem dX10_finds_10 : decode cX10_finds 10 = .ok (.iconst 0, 1) := by decide +kernel
theorem dX10_finds_11 : decode cX10_finds 11 = .ok (.istore_n 1, 1) := by decide +kernel
theorem dX10_finds_12 : decode cX10_finds 12 = .ok (.iload_n 1, 1) := by decide +kernel
theorem dX10_finds_13 : decode cX10_finds 13 = .ok (.aload_n 0, 1) := by decide +kernel
theorem dX10_finds_14 : decode cX10_finds 14 = .ok (.getfield 337, 3) := by decide +kernel
theorem dX10_finds_17 : decode cX10_finds 17 = .ok (.if_icmp .ge 209, 3) := by decide +kernel
theorem dX10_finds_20 : decode cX10_finds 20 = .ok (.aload_n 0, 1) := by decide +kernel
theorem dX10_finds_21 : decode cX10_finds 21 = .ok (.getfield 198, 3) := by decide +kernel
theorem dX10_finds_24 : decode cX10_finds 24 = .ok (.iconst 0, 1) := by decide +kernel
theorem dX10_finds_25 : decode cX10_finds 25 = .ok (.iload_n 1, 1) := by decide +kernel
theorem dX10_finds_26 : decode cX10_finds 26 = .ok (.iastore, 1) := by decide +kernel
theorem dX10_finds_27 : decode cX10_finds 27 = .ok (.iload_n 1, 1) := by decide +kernel
theorem dX10_finds_28 : decode cX10_finds 28 = .ok (.iconst 1, 1) := by decide +kernel
theorem dX10_finds_29 : decode cX10_finds 29 = .ok (.iadd, 1) := by decide +kernel
theorem dX10_finds_30 : decode cX10_finds 30 = .ok (.istore_n 2, 1) := by decide +kernel
theorem dX10_finds_31 : decode cX10_finds 31 = .ok (.iload_n 2, 1) := by decide +kernel
theorem dX10_finds_32 : decode cX10_finds 32 = .ok (.aload_n 0, 1) := by decide +kernel
theorem dX10_finds_33 : decode cX10_finds 33 = .ok (.getfield 337, 3) := by decide +kernel
theorem dX10_finds_36 : decode cX10_finds 36 = .ok (.if_icmp .ge 184, 3) := by decide +kernel
theorem dX10_finds_39 : decode cX10_finds 39 = .ok (.aload_n 0, 1) := by decide +kernel
theorem dX10_finds_40 : decode cX10_finds 40 = .ok (.getfield 189, 3) := by decide +kernel
theorem dX10_finds_43 : decode cX10_finds 43 = .ok (.bipush 40, 2) := by decide +kernel
theorem dX10_finds_45 : decode cX10_finds 45 = .ok (.iload_n 1, 1) := by decide +kernel
theorem dX10_finds_46 : decode cX10_finds 46 = .ok (.imul, 1) := by decide +kernel
theorem dX10_finds_47 : decode cX10_finds 47 = .ok (.iload_n 2, 1) := by decide +kernel
theorem dX10_finds_48 : decode cX10_finds 48 = .ok (.iadd, 1) := by decide +kernel
theorem dX10_finds_49 : decode cX10_finds 49 = .ok (.iaload, 1) := by decide +kernel
theorem dX10_finds_50 : decode cX10_finds 50 = .ok (.istore_n 3, 1) := by decide +kernel
theorem dX10_finds_51 : decode cX10_finds 51 = .ok (.iload_n 3, 1) := by decide +kernel
theorem dX10_finds_52 : decode cX10_finds 52 = .ok (.ifCond .ne 6, 3) := by decide +kernel
theorem dX10_finds_55 : decode cX10_finds 55 = .ok (.goto 159, 3) := by decide +kernel
theorem dX10_finds_58 : decode cX10_finds 58 = .ok (.aload_n 0, 1) := by decide +kernel
theorem dX10_finds_59 : decode cX10_finds 59 = .ok (.getfield 198, 3) := by decide +kernel
theorem dX10_finds_62 : decode cX10_finds 62 = .ok (.iconst 1, 1) := by decide +kernel
theorem dX10_finds_63 : decode cX10_finds 63 = .ok (.iload_n 2, 1) := by decide +kernel
theorem dX10_finds_64 : decode cX10_finds 64 = .ok (.iastore, 1) := by decide +kernel
theorem dX10_finds_65 : decode cX10_finds 65 = .ok (.aload_n 0, 1) := by decide +kernel
theorem dX10_finds_66 : decode cX10_finds 66 = .ok (.iconst 2, 1) := by decide +kernel
theorem dX10_finds_67 : decode cX10_finds 67 = .ok (.iload_n 3, 1) := by decide +kernel
theorem dX10_finds_68 : decode cX10_finds 68 = .ok (.invokevirtual 444, 3) := by decide +kernel
theorem dX10_finds_71 : decode cX10_finds 71 = .ok (.iload_n 1, 1) := by decide +kernel
theorem dX10_finds_72 : decode cX10_finds 72 = .ok (.iconst 1, 1) := by decide +kernel
theorem dX10_finds_73 : decode cX10_finds 73 = .ok (.iadd, 1) := by decide +kernel
theorem dX10_finds_74 : decode cX10_finds 74 = .ok (.istore 4, 2) := by decide +kernel
theorem dX10_finds_76 : decode cX10_finds 76 = .ok (.iload 4, 2) := by decide +kernel
theorem dX10_finds_78 : decode cX10_finds 78 = .ok (.aload_n 0, 1) := by decide +kernel
theorem dX10_finds_79 : decode cX10_finds 79 = .ok (.getfield 337, 3) := by decide +kernel
theorem dX10_finds_82 : decode cX10_finds 82 = .ok (.if_icmp .ge 132, 3) := by decide +kernel
theorem dX10_finds_85 : decode cX10_finds 85 = .ok (.iload_n 3, 1) := by decide +kernel
theorem dX10_finds_86 : decode cX10_finds 86 = .ok (.aload_n 0, 1) := by decide +kernel
theorem dX10_finds_87 : decode cX10_finds 87 = .ok (.getfield 189, 3) := by decide +kernel
theorem dX10_finds_90 : decode cX10_finds 90 = .ok (.bipush 40, 2) := by decide +kernel
theorem dX10_finds_92 : decode cX10_finds 92 = .ok (.iload_n 2, 1) := by decide +kernel
theorem dX10_finds_93 : decode cX10_finds 93 = .ok (.imul, 1) := by decide +kernel
theorem dX10_finds_94 : decode cX10_finds 94 = .ok (.iload 4, 2) := by decide +kernel
theorem dX10_finds_96 : decode cX10_finds 96 = .ok (.iadd, 1) := by decide +kernel
theorem dX10_finds_97 : decode cX10_finds 97 = .ok (.iaload, 1) := by decide +kernel
theorem dX10_finds_98 : decode cX10_finds 98 = .ok (.invokestatic 448, 3) := by decide +kernel
theorem dX10_finds_101 : decode cX10_finds 101 = .ok (.istore 5, 2) := by decide +kernel
theorem dX10_finds_103 : decode cX10_finds 103 = .ok (.iload 4, 2) := by decide +kernel
theorem dX10_finds_105 : decode cX10_finds 105 = .ok (.iload_n 2, 1) := by decide +kernel
theorem dX10_finds_106 : decode cX10_finds 106 = .ok (.if_icmp .eq 102, 3) := by decide +kernel
theorem dX10_finds_109 : decode cX10_finds 109 = .ok (.iload 5, 2) := by decide +kernel
theorem dX10_finds_111 : decode cX10_finds 111 = .ok (.ifCond .ne 6, 3) := by decide +kernel
theorem dX10_finds_114 : decode cX10_finds 114 = .ok (.goto 94, 3) := by decide +kernel
theorem dX10_finds_117 : decode cX10_finds 117 = .ok (.aload_n 0, 1) := by decide +kernel
theorem dX10_finds_118 : decode cX10_finds 118 = .ok (.getfield 198, 3) := by decide +kernel
theorem dX10_finds_121 : decode cX10_finds 121 = .ok (.iconst 2, 1) := by decide +kernel
theorem dX10_finds_122 : decode cX10_finds 122 = .ok (.iload 4, 2) := by decide +kernel
theorem dX10_finds_124 : decode cX10_finds 124 = .ok (.iastore, 1) := by decide +kernel
theorem dX10_finds_125 : decode cX10_finds 125 = .ok (.aload_n 0, 1) := by decide +kernel
theorem dX10_finds_126 : decode cX10_finds 126 = .ok (.iconst 3, 1) := by decide +kernel
theorem dX10_finds_127 : decode cX10_finds 127 = .ok (.iload 5, 2) := by decide +kernel
theorem dX10_finds_129 : decode cX10_finds 129 = .ok (.invokevirtual 444, 3) := by decide +kernel
theorem dX10_finds_132 : decode cX10_finds 132 = .ok (.iload_n 1, 1) := by decide +kernel
theorem dX10_finds_133 : decode cX10_finds 133 = .ok (.iconst 1, 1) := by decide +kernel
theorem dX10_finds_134 : decode cX10_finds 134 = .ok (.iadd, 1) := by decide +kernel
theorem dX10_finds_135 : decode cX10_finds 135 = .ok (.istore 6, 2) := by decide +kernel
theorem dX10_finds_137 : decode cX10_finds 137 = .ok (.iload 6, 2) := by decide +kernel
theorem dX10_finds_139 : decode cX10_finds 139 = .ok (.aload_n 0, 1) := by decide +kernel
theorem dX10_finds_140 : decode cX10_finds 140 = .ok (.getfield 337, 3) := by decide +kernel
theorem dX10_finds_143 : decode cX10_finds 143 = .ok (.if_icmp .ge 65, 3) := by decide +kernel
theorem dX10_finds_146 : decode cX10_finds 146 = .ok (.iload 5, 2) := by decide +kernel
theorem dX10_finds_148 : decode cX10_finds 148 = .ok (.aload_n 0, 1) := by decide +kernel
theorem dX10_finds_149 : decode cX10_finds 149 = .ok (.getfield 189, 3) := by decide +kernel
theorem dX10_finds_152 : decode cX10_finds 152 = .ok (.bipush 40, 2) := by decide +kernel
theorem dX10_finds_154 : decode cX10_finds 154 = .ok (.iload 4, 2) := by decide +kernel
theorem dX10_finds_156 : decode cX10_finds 156 = .ok (.imul, 1) := by decide +kernel
theorem dX10_finds_157 : decode cX10_finds 157 = .ok (.iload 6, 2) := by decide +kernel
theorem dX10_finds_159 : decode cX10_finds 159 = .ok (.iadd, 1) := by decide +kernel
theorem dX10_finds_160 : decode cX10_finds 160 = .ok (.iaload, 1) := by decide +kernel
theorem dX10_finds_161 : decode cX10_finds 161 = .ok (.invokestatic 448, 3) := by decide +kernel
theorem dX10_finds_164 : decode cX10_finds 164 = .ok (.istore 7, 2) := by decide +kernel
theorem dX10_finds_166 : decode cX10_finds 166 = .ok (.iload 6, 2) := by decide +kernel
theorem dX10_finds_168 : decode cX10_finds 168 = .ok (.iload_n 2, 1) := by decide +kernel
theorem dX10_finds_169 : decode cX10_finds 169 = .ok (.if_icmp .eq 33, 3) := by decide +kernel
theorem dX10_finds_172 : decode cX10_finds 172 = .ok (.iload 6, 2) := by decide +kernel
theorem dX10_finds_174 : decode cX10_finds 174 = .ok (.iload 4, 2) := by decide +kernel
theorem dX10_finds_176 : decode cX10_finds 176 = .ok (.if_icmp .eq 26, 3) := by decide +kernel
theorem dX10_finds_179 : decode cX10_finds 179 = .ok (.iload 7, 2) := by decide +kernel
theorem dX10_finds_181 : decode cX10_finds 181 = .ok (.ifCond .ne 6, 3) := by decide +kernel
theorem dX10_finds_184 : decode cX10_finds 184 = .ok (.goto 18, 3) := by decide +kernel
theorem dX10_finds_187 : decode cX10_finds 187 = .ok (.aload_n 0, 1) := by decide +kernel
theorem dX10_finds_188 : decode cX10_finds 188 = .ok (.getfield 198, 3) := by decide +kernel
theorem dX10_finds_191 : decode cX10_finds 191 = .ok (.iconst 3, 1) := by decide +kernel
theorem dX10_finds_192 : decode cX10_finds 192 = .ok (.iload 6, 2) := by decide +kernel
theorem dX10_finds_194 : decode cX10_finds 194 = .ok (.iastore, 1) := by decide +kernel
theorem dX10_finds_195 : decode cX10_finds 195 = .ok (.aload_n 0, 1) := by decide +kernel
theorem dX10_finds_196 : decode cX10_finds 196 = .ok (.iconst 4, 1) := by decide +kernel
theorem dX10_finds_197 : decode cX10_finds 197 = .ok (.iload 7, 2) := by decide +kernel
theorem dX10_finds_199 : decode cX10_finds 199 = .ok (.invokevirtual 444, 3) := by decide +kernel
theorem dX10_finds_202 : decode cX10_finds 202 = .ok (.iinc 6 1, 3) := by decide +kernel
theorem dX10_finds_205 : decode cX10_finds 205 = .ok (.goto (-68), 3) := by decide +kernel
theorem dX10_finds_208 : decode cX10_finds 208 = .ok (.iinc 4 1, 3) := by decide +kernel
theorem dX10_finds_211 : decode cX10_finds 211 = .ok (.goto (-135), 3) := by decide +kernel
theorem dX10_finds_214 : decode cX10_finds 214 = .ok (.iinc 2 1, 3) := by decide +kernel
theorem dX10_finds_217 : decode cX10_finds 217 = .ok (.goto (-186), 3) := by decide +kernel
theorem dX10_finds_220 : decode cX10_finds 220 = .ok (.iinc 1 1, 3) := by decide +kernel
theorem dX10_finds_223 : decode cX10_finds 223 = .ok (.goto (-211), 3) := by decide +kernel
theorem dX10_finds_226 : decode cX10_finds 226 = .ok (.return_, 1) := by decide +kernel
set_option maxHeartbeats 4000000 in
set_option maxRecDepth 100000 in
theorem t_X10_finds (l : Launch) (dC : Nat → ClassId) (dI : Nat → Nat → Nat) (dA : Nat → ClassId) (L : List Nat) (h : hx_h) (sz : Nat) (x : Nat) (hT : hx_T T_tb L h) (gx : hx_g L h x 10)  : Met l yX10_finds (Cond.code yX10_finds cX10_finds 8 none :: hx_all) ({ frames := 1, cells := 0, slots := 0, locals := 25 }) (va_Pc [.ref x] (hx_B T_tb (P_ty dA) (dC, dI) vwCl L h sz)) (va_Qv (fun (u : List Nat × hx_h) => hx_T T_tb u.1 u.2 ∧ hx_S T_tb [(10, 86), (10, 87), (110, 0), (111, 0)] L h u.1 u.2) (hx_E T_tb (P_ty dA) (dC, dI) vwCl (hx_A L sz)) (hx_A L sz)) 0 0 (hx_A L sz) := by
  refine hx_met (lv := [(0, .ref x)]) (by decide +kernel) rfl (Nat.le_of_ble_eq_true rfl) rfl ?_
  intro p e s m below meth c hx hb hml hr hlk hts0 hown hin hsz hW ls hl
  have hts : ∀ w ∈ hx_all, w.before _ s = true := fun w hw => hts0 w (List.mem_cons_of_mem _ hw)
  have hown : s.vm.findClass "SmallCourtModel" = some m.cls := hown
  have hM : hx_S T_tb [(10, 86), (10, 87), (110, 0), (111, 0)] L h L h := hx_S.rf
  refine lv_aload_n hx hb dX10_finds_0 rfl (lv_at hl 0 rfl) ?_
  refine lv_iconst (v := 0) hx hb dX10_finds_1 (by decide) ?_
  refine hx_puti hx hb hts hC_10 hown hW hT (hx_S.rf (M := [(10, 86)])) gx tt_10 86 (by decide) rfl kw_1229 ⟨rfl, rfl, rfl⟩ rfl (x := (0 : Int32)) (by decide) rfl rfl rfl (List.mem_singleton.mpr rfl) dX10_finds_2 (fun H locs h_1 eh_1 hW hT hs => ?_)
  have hM := hM.tr (hs.mono (by decide))
  have gx := gx.S hs
  have f_2 : h_1.2.1 x 86 = (0 : Int32) := by rw [eh_1]; exact hx_pi_at _ _ _ _
  refine lv_aload_n hx hb dX10_finds_5 rfl (lv_at hl 0 rfl) ?_
  refine lv_iconst (v := 0) hx hb dX10_finds_6 (by decide) ?_
  refine hx_puti hx hb hts hC_10 hown hW hT (hx_S.rf (M := [(10, 87)])) gx tt_10 87 (by decide) rfl kw_1230 ⟨rfl, rfl, rfl⟩ rfl (x := (0 : Int32)) (by decide) rfl rfl rfl (List.mem_singleton.mpr rfl) dX10_finds_7 (fun H locs h_3 eh_3 hW hT hs => ?_)
  have f_2 := (hs.o gx trivial rfl).1.trans f_2
  have hM := hM.tr (hs.mono (by decide))
  have gx := gx.S hs
  have f_4 : h_3.2.1 x 87 = (0 : Int32) := by rw [eh_3]; exact hx_pi_at _ _ _ _
  refine lv_iconst (v := 0) hx hb dX10_finds_10 (by decide) ?_
  refine lv_istore_n (lv' := [(1, .int (0 : Int32)), (0, .ref x)]) hx hb dX10_finds_11 rfl hl (by decide) rfl (fun ls hl => ?_)
  have loop12 : ∀ (n12 : Nat) (iv12_1 : Int32) (H : Heap) (locs : List Loc) (hL1 : List Nat) (hl1 : hx_h), 0 ≤ iv12_1.toInt → iv12_1.toInt ≤ 40 → ∀ (ls : Array Slot), 40 - iv12_1.toInt < (n12 : Int) → hx_W T_tb (P_ty dA) (dC, dI) vwCl (hx_A L sz) s.heap hL1 hl1 s H locs → hx_T T_tb hL1 hl1 → hx_S T_tb [(10, 86), (10, 87), (110, 0), (111, 0)] L h hL1 hl1 → hx_g hL1 hl1 x 10 → lv_has ls 8 [(1, .int iv12_1), (0, .ref x)] → W p l e ({ frames := 1, cells := 0, slots := 0, locals := 25 }) s m ([.ref x] : List Value).toArray below meth c H locs 0 0 (MQ below (va_Qv (fun (u : List Nat × hx_h) => hx_T T_tb u.1 u.2 ∧ hx_S T_tb [(10, 86), (10, 87), (110, 0), (111, 0)] L h u.1 u.2) (hx_E T_tb (P_ty dA) (dC, dI) vwCl (hx_A L sz)) (hx_A L sz)) ([.ref x] : List Value).toArray s 0 0 (hx_A L sz)) (F0 m 12 ls []) := by
    intro n12
    induction n12 with
    | zero => intro iv12_1 H locs hL1 hl1 bliv12_1 buiv12_1  ls hn12; exfalso; omega
    | succ n12 ih12 =>
      intro iv12_1 H locs hL1 hl1 bliv12_1 buiv12_1  ls hn12 hW hT hM  gx hl
      refine lv_iload_n hx hb dX10_finds_12 rfl (lv_at hl 0 rfl) ?_
      refine lv_aload_n hx hb dX10_finds_13 rfl (lv_at hl 1 rfl) ?_
      refine hx_geti hx hb hts hC_10 hown hW hT gx tt_10 20 (by decide) rfl kw_1163 ⟨rfl, rfl, rfl⟩ dX10_finds_14 (fun x_5 ex_5 lx_5 ux_5 => ?_)
      have fx_5 := ex_5.symm
      refine hb_icmp_ge (zx := iv12_1.toInt) (zy := x_5.toInt) (tgt := 226) hx hb rfl rfl dX10_finds_17 (by decide) (fun c_6 => ?_) (fun c_6 => ?_)
      · skip
        exact hx_retv hx hb hr hlk hW ⟨hT, hM⟩ dX10_finds_226
      · skip
        refine lv_aload_n hx hb dX10_finds_20 rfl (lv_at hl 1 rfl) ?_
        refine hx_getn hx hb hts hC_10 hown hW hT gx tt_10 89 (by decide) rfl kw_1232 ⟨rfl, rfl, rfl⟩ dX10_finds_21 (fun q_7 fq_7 gq_7 => ?_)
        refine lv_iconst (v := 0) hx hb dX10_finds_24 (by decide) ?_
        refine lv_iload_n hx hb dX10_finds_25 rfl (lv_at hl 0 rfl) ?_
        refine hx_iast hx hb hW hT (hx_S.rf (M := [(111, 0)])) gq_7 tt_111 rfl (by decide) rfl ⟨by omega, by omega⟩ (List.mem_singleton.mpr rfl) dX10_finds_26 (fun H locs h_8 eh_8 hW hT hs => ?_)
        have fx_5 := (hs.o gx trivial rfl).1.trans fx_5
        have fq_7 := (hs.o gx trivial rfl).2.trans fq_7
        have hM := hM.tr (hs.mono (by decide))
        have gx := gx.S hs
        have gq_7 := gq_7.S hs
        refine lv_iload_n hx hb dX10_finds_27 rfl (lv_at hl 0 rfl) ?_
        refine lv_iconst (v := 1) hx hb dX10_finds_28 (by decide) ?_
        refine lv_iadd hx hb dX10_finds_29 ?_
        have rg_9 := i32_r iv12_1
        refine lv_topi (fun x_10 ex_10 => ?_)
        have zx_10 : x_10.toInt = iv12_1.toInt + 1 := by rw [ex_10]; exact i32_add rfl (by decide) (by omega) (by omega)
        refine lv_istore_n (lv' := [(2, .int x_10), (1, .int iv12_1), (0, .ref x)]) hx hb dX10_finds_30 rfl hl (by decide) rfl (fun ls hl => ?_)
        have loop31 : ∀ (n31 : Nat) (iv31_2 : Int32) (H : Heap) (locs : List Loc) (hL1 : List Nat) (hl1 : hx_h), 0 ≤ iv31_2.toInt → iv31_2.toInt ≤ 40 → ∀ (ls : Array Slot), 40 - iv31_2.toInt < (n31 : Int) → hx_W T_tb (P_ty dA) (dC, dI) vwCl (hx_A L sz) s.heap hL1 hl1 s H locs → hx_T T_tb hL1 hl1 → hx_S T_tb [(10, 86), (10, 87), (110, 0), (111, 0)] L h hL1 hl1 → hl1.2.1 x 20 = x_5 → hl1.2.2 x 89 = some q_7 → hx_g hL1 hl1 x 10 → hx_g hL1 hl1 q_7 111 → lv_has ls 8 [(2, .int iv31_2), (1, .int iv12_1), (0, .ref x)] → W p l e ({ frames := 1, cells := 0, slots := 0, locals := 25 }) s m ([.ref x] : List Value).toArray below meth c H locs 0 0 (MQ below (va_Qv (fun (u : List Nat × hx_h) => hx_T T_tb u.1 u.2 ∧ hx_S T_tb [(10, 86), (10, 87), (110, 0), (111, 0)] L h u.1 u.2) (hx_E T_tb (P_ty dA) (dC, dI) vwCl (hx_A L sz)) (hx_A L sz)) ([.ref x] : List Value).toArray s 0 0 (hx_A L sz)) (F0 m 31 ls []) := by
          intro n31
          induction n31 with
          | zero => intro iv31_2 H locs hL1 hl1 bliv31_2 buiv31_2  ls hn31; exfalso; omega
          | succ n31 ih31 =>
            intro iv31_2 H locs hL1 hl1 bliv31_2 buiv31_2  ls hn31 hW hT hM fx_5 fq_7 gx gq_7 hl
            refine lv_iload_n hx hb dX10_finds_31 rfl (lv_at hl 0 rfl) ?_
            refine lv_aload_n hx hb dX10_finds_32 rfl (lv_at hl 2 rfl) ?_
            refine hk_geti hx hb hts hC_10 hown hW gx tt_10 20 (by decide) rfl kw_1163 ⟨rfl, rfl, rfl⟩ fx_5 dX10_finds_33 ?_
            refine hb_icmp_ge (zx := iv31_2.toInt) (zy := x_5.toInt) (tgt := 220) hx hb rfl rfl dX10_finds_36 (by decide) (fun c_11 => ?_) (fun c_11 => ?_)
            · skip
              obtain ⟨x_12, ex_12⟩ : ∃ y : Int32, y = iv12_1 + Int32.ofInt 1 := ⟨_, rfl⟩
              have zx_12 : x_12.toInt = iv12_1.toInt + (1) := by rw [ex_12]; exact i32_add rfl (by decide) (by omega) (by omega)
              refine lv_iinc (v := x_12) (lv' := [(1, .int x_12), (2, .int iv31_2), (0, .ref x)]) hx hb dX10_finds_220 hl (k := 1) rfl ex_12.symm (by decide) rfl (fun ls hl => ?_)
              refine lv_goto (tgt := 12) hx hb dX10_finds_223 (by decide) ?_
              exact ih12 x_12 _ _ hL1 hl1 (by omega) (by omega)  ls (by omega) hW hT hM  gx (lv_sub hl [0, 2] rfl)
            · skip
              refine lv_aload_n hx hb dX10_finds_39 rfl (lv_at hl 2 rfl) ?_
              refine hx_getn hx hb hts hC_10 hown hW hT gx tt_10 82 (by decide) rfl kw_1225 ⟨rfl, rfl, rfl⟩ dX10_finds_40 (fun q_13 fq_13 gq_13 => ?_)
              refine lv_bipush (v := 40) hx hb dX10_finds_43 (by decide) ?_
              refine lv_iload_n hx hb dX10_finds_45 rfl (lv_at hl 1 rfl) ?_
              refine lv_imul hx hb dX10_finds_46 ?_
              refine lv_topi (fun x_14 ex_14 => ?_)
              have zx_14 : x_14.toInt = 40 * iv12_1.toInt := by rw [ex_14]; exact i32_mul (by decide) rfl rfl (by omega) (by omega)
              refine lv_iload_n hx hb dX10_finds_47 rfl (lv_at hl 0 rfl) ?_
              refine lv_iadd hx hb dX10_finds_48 ?_
              have rg_15 := i32_r x_14
              have rg_16 := i32_r iv31_2
              refine lv_topi (fun x_17 ex_17 => ?_)
              have zx_17 : x_17.toInt = x_14.toInt + iv31_2.toInt := by rw [ex_17]; exact i32_add rfl rfl (by omega) (by omega)
              refine hx_iald hx hb hW hT gq_13 tt_108 rfl ⟨by omega, by omega⟩ dX10_finds_49 (fun x_18 ex_18 lx_18 ux_18 => ?_)
              refine lv_istore_n (lv' := [(3, .int x_18), (2, .int iv31_2), (1, .int iv12_1), (0, .ref x)]) hx hb dX10_finds_50 rfl hl (by decide) rfl (fun ls hl => ?_)
              refine lv_iload_n hx hb dX10_finds_51 rfl (lv_at hl 0 rfl) ?_
              refine hb_if_ne (zx := x_18.toInt) (tgt := 58) hx hb rfl dX10_finds_52 (by decide) (fun c_19 => ?_) (fun c_19 => ?_)
              · skip
                refine lv_aload_n hx hb dX10_finds_58 rfl (lv_at hl 3 rfl) ?_
                refine hk_getr hx hb hts hC_10 hown hW gx tt_10 89 (by decide) rfl kw_1232 ⟨rfl, rfl, rfl⟩ fq_7 dX10_finds_59 ?_
                refine lv_iconst (v := 1) hx hb dX10_finds_62 (by decide) ?_
                refine lv_iload_n hx hb dX10_finds_63 rfl (lv_at hl 1 rfl) ?_
                refine hx_iast hx hb hW hT (hx_S.rf (M := [(111, 0)])) gq_7 tt_111 rfl (by decide) rfl ⟨by omega, by omega⟩ (List.mem_singleton.mpr rfl) dX10_finds_64 (fun H locs h_20 eh_20 hW hT hs => ?_)
                have fx_5 := (hs.o gx trivial rfl).1.trans fx_5
                have fq_7 := (hs.o gx trivial rfl).2.trans fq_7
                have fq_13 := (hs.o gx trivial rfl).2.trans fq_13
                have ex_18 := ex_18.trans (hs.a gq_13 rfl _).1.symm
                have hM := hM.tr (hs.mono (by decide))
                have gx := gx.S hs
                have gq_7 := gq_7.S hs
                have gq_13 := gq_13.S hs
                refine lv_aload_n hx hb dX10_finds_65 rfl (lv_at hl 3 rfl) ?_
                refine lv_iconst (v := 2) hx hb dX10_finds_66 (by decide) ?_
                refine lv_iload_n hx hb dX10_finds_67 rfl (lv_at hl 0 rfl) ?_
                have zc_2 : (2 : Int32).toInt = 2 := by decide
                refine hx_gov (hx_runV (As := [.int (2 : Int32), .int x_18]) (rest := []) ⟨hx, hb, hml, hown, hts⟩ hW gx tt_10 (T := TX10) (N := 98) rfl (t_X10_offers l dC dI dA hL1 h_20 H.size x (2 : Int32) x_18 hT gx (by decide)) (cwV 2 hts (hx_gV kw_1702 kw_1699 kw_1701 kw_88 kw_103) rfl rfl rfl (by decide +kernel) ⟨Nat.le_of_ble_eq_true rfl, Nat.le_of_ble_eq_true rfl⟩) rfl hl.1 rfl (Nat.le_of_ble_eq_true rfl) dX10_finds_68 ⟨Nat.le_of_ble_eq_true rfl, Nat.le_of_ble_eq_true rfl⟩) hW (fun L_21 h_22 H locs p_24 hW => ?_)
                obtain ⟨hT, hs⟩ := p_24
                have hT : hx_T T_tb L_21 h_22 := hT
                have hs : hx_S T_tb [(10, 86), (10, 87), (110, 0)] hL1 h_20 L_21 h_22 := hs
                have fx_5 := (hs.o gx trivial rfl).1.trans fx_5
                have fq_7 := (hs.o gx trivial rfl).2.trans fq_7
                have fq_13 := (hs.o gx trivial rfl).2.trans fq_13
                have ex_18 := ex_18.trans (hs.a gq_13 rfl _).1.symm
                have hM := hM.tr (hs.mono (by decide))
                have gx := gx.S hs
                have gq_7 := gq_7.S hs
                have gq_13 := gq_13.S hs
                refine lv_iload_n hx hb dX10_finds_71 rfl (lv_at hl 2 rfl) ?_
                refine lv_iconst (v := 1) hx hb dX10_finds_72 (by decide) ?_
                refine lv_iadd hx hb dX10_finds_73 ?_
                refine lv_topi (fun x_26 ex_26 => ?_)
                have zx_26 : x_26.toInt = iv12_1.toInt + 1 := by rw [ex_26]; exact i32_add rfl (by decide) (by omega) (by omega)
                refine lv_istore (lv' := [(4, .int x_26), (3, .int x_18), (2, .int iv31_2), (1, .int iv12_1), (0, .ref x)]) hx hb dX10_finds_74 hl (by decide) rfl (fun ls hl => ?_)
                have loop76 : ∀ (n76 : Nat) (iv76_4 : Int32) (H : Heap) (locs : List Loc) (hL1 : List Nat) (hl1 : hx_h), 0 ≤ iv76_4.toInt → iv76_4.toInt ≤ 40 → ∀ (ls : Array Slot), 40 - iv76_4.toInt < (n76 : Int) → hx_W T_tb (P_ty dA) (dC, dI) vwCl (hx_A L sz) s.heap hL1 hl1 s H locs → hx_T T_tb hL1 hl1 → hx_S T_tb [(10, 86), (10, 87), (110, 0), (111, 0)] L h hL1 hl1 → hl1.2.1 x 20 = x_5 → hl1.2.2 x 89 = some q_7 → hl1.2.2 x 82 = some q_13 → hx_g hL1 hl1 x 10 → hx_g hL1 hl1 q_7 111 → hx_g hL1 hl1 q_13 108 → lv_has ls 8 [(4, .int iv76_4), (3, .int x_18), (2, .int iv31_2), (1, .int iv12_1), (0, .ref x)] → W p l e ({ frames := 1, cells := 0, slots := 0, locals := 25 }) s m ([.ref x] : List Value).toArray below meth c H locs 0 0 (MQ below (va_Qv (fun (u : List Nat × hx_h) => hx_T T_tb u.1 u.2 ∧ hx_S T_tb [(10, 86), (10, 87), (110, 0), (111, 0)] L h u.1 u.2) (hx_E T_tb (P_ty dA) (dC, dI) vwCl (hx_A L sz)) (hx_A L sz)) ([.ref x] : List Value).toArray s 0 0 (hx_A L sz)) (F0 m 76 ls []) := by
                  intro n76
                  induction n76 with
                  | zero => intro iv76_4 H locs hL1 hl1 bliv76_4 buiv76_4  ls hn76; exfalso; omega
                  | succ n76 ih76 =>
                    intro iv76_4 H locs hL1 hl1 bliv76_4 buiv76_4  ls hn76 hW hT hM fx_5 fq_7 fq_13 gx gq_7 gq_13 hl
                    refine lv_iload hx hb dX10_finds_76 (lv_at hl 0 rfl) ?_
                    refine lv_aload_n hx hb dX10_finds_78 rfl (lv_at hl 4 rfl) ?_
                    refine hk_geti hx hb hts hC_10 hown hW gx tt_10 20 (by decide) rfl kw_1163 ⟨rfl, rfl, rfl⟩ fx_5 dX10_finds_79 ?_
                    refine hb_icmp_ge (zx := iv76_4.toInt) (zy := x_5.toInt) (tgt := 214) hx hb rfl rfl dX10_finds_82 (by decide) (fun c_27 => ?_) (fun c_27 => ?_)
                    · skip
                      obtain ⟨x_28, ex_28⟩ : ∃ y : Int32, y = iv31_2 + Int32.ofInt 1 := ⟨_, rfl⟩
                      have zx_28 : x_28.toInt = iv31_2.toInt + (1) := by rw [ex_28]; exact i32_add rfl (by decide) (by omega) (by omega)
                      refine lv_iinc (v := x_28) (lv' := [(2, .int x_28), (4, .int iv76_4), (3, .int x_18), (1, .int iv12_1), (0, .ref x)]) hx hb dX10_finds_214 hl (k := 2) rfl ex_28.symm (by decide) rfl (fun ls hl => ?_)
                      refine lv_goto (tgt := 31) hx hb dX10_finds_217 (by decide) ?_
                      exact ih31 x_28 _ _ hL1 hl1 (by omega) (by omega)  ls (by omega) hW hT hM fx_5 fq_7 gx gq_7 (lv_sub hl [0, 3, 4] rfl)
                    · skip
                      refine lv_iload_n hx hb dX10_finds_85 rfl (lv_at hl 1 rfl) ?_
                      refine lv_aload_n hx hb dX10_finds_86 rfl (lv_at hl 4 rfl) ?_
                      refine hk_getr hx hb hts hC_10 hown hW gx tt_10 82 (by decide) rfl kw_1225 ⟨rfl, rfl, rfl⟩ fq_13 dX10_finds_87 ?_
                      refine lv_bipush (v := 40) hx hb dX10_finds_90 (by decide) ?_
                      refine lv_iload_n hx hb dX10_finds_92 rfl (lv_at hl 2 rfl) ?_
                      refine lv_imul hx hb dX10_finds_93 ?_
                      refine lv_topi (fun x_29 ex_29 => ?_)
                      have zx_29 : x_29.toInt = 40 * iv31_2.toInt := by rw [ex_29]; exact i32_mul (by decide) rfl rfl (by omega) (by omega)
                      refine lv_iload hx hb dX10_finds_94 (lv_at hl 0 rfl) ?_
                      refine lv_iadd hx hb dX10_finds_96 ?_
                      have rg_30 := i32_r x_29
                      have rg_31 := i32_r iv76_4
                      refine lv_topi (fun x_32 ex_32 => ?_)
                      have zx_32 : x_32.toInt = x_29.toInt + iv76_4.toInt := by rw [ex_32]; exact i32_add rfl rfl (by omega) (by omega)
                      refine hx_iald hx hb hW hT gq_13 tt_108 rfl ⟨by omega, by omega⟩ dX10_finds_97 (fun x_33 ex_33 lx_33 ux_33 => ?_)
                      refine hx_goi (hx_runS (As := [.int x_18, .int x_33]) (rest := []) ⟨hx, hb, hml, hown, hts⟩ hW (t_X10_lesser l dC dI dA hL1 hl1 H.size x_18 x_33 hT) (va_cwS 2 hts (hx_gS kw_1705 kw_1703 kw_1704 kw_103) rfl rfl rfl (by decide +kernel) ⟨Nat.le_of_ble_eq_true rfl, Nat.le_of_ble_eq_true rfl⟩) rfl hl.1 rfl (Nat.le_of_ble_eq_true rfl) dX10_finds_98 ⟨Nat.le_of_ble_eq_true rfl, Nat.le_of_ble_eq_true rfl⟩) hW (fun r_36 L_34 h_35 H locs p_37 hW => ?_)
                      obtain ⟨hr_38, hT, hs⟩ := p_37
                      have hT : hx_T T_tb L_34 h_35 := hT
                      have hs : hx_S T_tb [] hL1 hl1 L_34 h_35 := hs
                      have fx_5 := (hs.o gx trivial rfl).1.trans fx_5
                      have fq_7 := (hs.o gx trivial rfl).2.trans fq_7
                      have fq_13 := (hs.o gx trivial rfl).2.trans fq_13
                      have ex_33 := ex_33.trans (hs.a gq_13 rfl _).1.symm
                      have hM := hM.tr (hs.mono (by decide))
                      have gx := gx.S hs
                      have gq_7 := gq_7.S hs
                      have gq_13 := gq_13.S hs
                      refine lv_istore (lv' := [(5, .int r_36), (4, .int iv76_4), (3, .int x_18), (2, .int iv31_2), (1, .int iv12_1), (0, .ref x)]) hx hb dX10_finds_101 hl (by decide) rfl (fun ls hl => ?_)
                      refine lv_iload hx hb dX10_finds_103 (lv_at hl 1 rfl) ?_
                      refine lv_iload_n hx hb dX10_finds_105 rfl (lv_at hl 3 rfl) ?_
                      refine hb_icmp_eq (zx := iv76_4.toInt) (zy := iv31_2.toInt) (tgt := 208) hx hb rfl rfl dX10_finds_106 (by decide) (fun c_39 => ?_) (fun c_39 => ?_)
                      · skip
                        obtain ⟨x_40, ex_40⟩ : ∃ y : Int32, y = iv76_4 + Int32.ofInt 1 := ⟨_, rfl⟩
                        have zx_40 : x_40.toInt = iv76_4.toInt + (1) := by rw [ex_40]; exact i32_add rfl (by decide) (by omega) (by omega)
                        refine lv_iinc (v := x_40) (lv' := [(4, .int x_40), (5, .int r_36), (3, .int x_18), (2, .int iv31_2), (1, .int iv12_1), (0, .ref x)]) hx hb dX10_finds_208 hl (k := 1) rfl ex_40.symm (by decide) rfl (fun ls hl => ?_)
                        refine lv_goto (tgt := 76) hx hb dX10_finds_211 (by decide) ?_
                        exact ih76 x_40 _ _ L_34 h_35 (by omega) (by omega)  ls (by omega) hW hT hM fx_5 fq_7 fq_13 gx gq_7 gq_13 (lv_sub hl [0, 2, 3, 4, 5] rfl)
                      · skip
                        refine lv_iload hx hb dX10_finds_109 (lv_at hl 0 rfl) ?_
                        refine hb_if_ne (zx := r_36.toInt) (tgt := 117) hx hb rfl dX10_finds_111 (by decide) (fun c_41 => ?_) (fun c_41 => ?_)
                        · skip
                          refine lv_aload_n hx hb dX10_finds_117 rfl (lv_at hl 5 rfl) ?_
                          refine hk_getr hx hb hts hC_10 hown hW gx tt_10 89 (by decide) rfl kw_1232 ⟨rfl, rfl, rfl⟩ fq_7 dX10_finds_118 ?_
                          refine lv_iconst (v := 2) hx hb dX10_finds_121 (by decide) ?_
                          refine lv_iload hx hb dX10_finds_122 (lv_at hl 1 rfl) ?_
                          refine hx_iast hx hb hW hT (hx_S.rf (M := [(111, 0)])) gq_7 tt_111 rfl (by decide) rfl ⟨by omega, by omega⟩ (List.mem_singleton.mpr rfl) dX10_finds_124 (fun H locs h_42 eh_42 hW hT hs => ?_)
                          have fx_5 := (hs.o gx trivial rfl).1.trans fx_5
                          have fq_7 := (hs.o gx trivial rfl).2.trans fq_7
                          have fq_13 := (hs.o gx trivial rfl).2.trans fq_13
                          have ex_33 := ex_33.trans (hs.a gq_13 rfl _).1.symm
                          have hM := hM.tr (hs.mono (by decide))
                          have gx := gx.S hs
                          have gq_7 := gq_7.S hs
                          have gq_13 := gq_13.S hs
                          refine lv_aload_n hx hb dX10_finds_125 rfl (lv_at hl 5 rfl) ?_
                          refine lv_iconst (v := 3) hx hb dX10_finds_126 (by decide) ?_
                          refine lv_iload hx hb dX10_finds_127 (lv_at hl 0 rfl) ?_
                          have zc_3 : (3 : Int32).toInt = 3 := by decide
                          refine hx_gov (hx_runV (As := [.int (3 : Int32), .int r_36]) (rest := []) ⟨hx, hb, hml, hown, hts⟩ hW gx tt_10 (T := TX10) (N := 98) rfl (t_X10_offers l dC dI dA L_34 h_42 H.size x (3 : Int32) r_36 hT gx (by decide)) (cwV 2 hts (hx_gV kw_1702 kw_1699 kw_1701 kw_88 kw_103) rfl rfl rfl (by decide +kernel) ⟨Nat.le_of_ble_eq_true rfl, Nat.le_of_ble_eq_true rfl⟩) rfl hl.1 rfl (Nat.le_of_ble_eq_true rfl) dX10_finds_129 ⟨Nat.le_of_ble_eq_true rfl, Nat.le_of_ble_eq_true rfl⟩) hW (fun L_43 h_44 H locs p_46 hW => ?_)
                          obtain ⟨hT, hs⟩ := p_46
                          have hT : hx_T T_tb L_43 h_44 := hT
                          have hs : hx_S T_tb [(10, 86), (10, 87), (110, 0)] L_34 h_42 L_43 h_44 := hs
                          have fx_5 := (hs.o gx trivial rfl).1.trans fx_5
                          have fq_7 := (hs.o gx trivial rfl).2.trans fq_7
                          have fq_13 := (hs.o gx trivial rfl).2.trans fq_13
                          have ex_33 := ex_33.trans (hs.a gq_13 rfl _).1.symm
                          have hM := hM.tr (hs.mono (by decide))
                          have gx := gx.S hs
                          have gq_7 := gq_7.S hs
                          have gq_13 := gq_13.S hs
                          refine lv_iload_n hx hb dX10_finds_132 rfl (lv_at hl 4 rfl) ?_
                          refine lv_iconst (v := 1) hx hb dX10_finds_133 (by decide) ?_
                          refine lv_iadd hx hb dX10_finds_134 ?_
                          refine lv_topi (fun x_48 ex_48 => ?_)
                          have zx_48 : x_48.toInt = iv12_1.toInt + 1 := by rw [ex_48]; exact i32_add rfl (by decide) (by omega) (by omega)
                          refine lv_istore (lv' := [(6, .int x_48), (5, .int r_36), (4, .int iv76_4), (3, .int x_18), (2, .int iv31_2), (1, .int iv12_1), (0, .ref x)]) hx hb dX10_finds_135 hl (by decide) rfl (fun ls hl => ?_)
                          have loop137 : ∀ (n137 : Nat) (iv137_6 : Int32) (H : Heap) (locs : List Loc) (hL1 : List Nat) (hl1 : hx_h), 0 ≤ iv137_6.toInt → iv137_6.toInt ≤ 40 → ∀ (ls : Array Slot), 40 - iv137_6.toInt < (n137 : Int) → hx_W T_tb (P_ty dA) (dC, dI) vwCl (hx_A L sz) s.heap hL1 hl1 s H locs → hx_T T_tb hL1 hl1 → hx_S T_tb [(10, 86), (10, 87), (110, 0), (111, 0)] L h hL1 hl1 → hl1.2.1 x 20 = x_5 → hl1.2.2 x 89 = some q_7 → hl1.2.2 x 82 = some q_13 → hx_g hL1 hl1 x 10 → hx_g hL1 hl1 q_7 111 → hx_g hL1 hl1 q_13 108 → lv_has ls 8 [(6, .int iv137_6), (5, .int r_36), (4, .int iv76_4), (3, .int x_18), (2, .int iv31_2), (1, .int iv12_1), (0, .ref x)] → W p l e ({ frames := 1, cells := 0, slots := 0, locals := 25 }) s m ([.ref x] : List Value).toArray below meth c H locs 0 0 (MQ below (va_Qv (fun (u : List Nat × hx_h) => hx_T T_tb u.1 u.2 ∧ hx_S T_tb [(10, 86), (10, 87), (110, 0), (111, 0)] L h u.1 u.2) (hx_E T_tb (P_ty dA) (dC, dI) vwCl (hx_A L sz)) (hx_A L sz)) ([.ref x] : List Value).toArray s 0 0 (hx_A L sz)) (F0 m 137 ls []) := by
                            intro n137
                            induction n137 with
                            | zero => intro iv137_6 H locs hL1 hl1 bliv137_6 buiv137_6  ls hn137; exfalso; omega
                            | succ n137 ih137 =>
                              intro iv137_6 H locs hL1 hl1 bliv137_6 buiv137_6  ls hn137 hW hT hM fx_5 fq_7 fq_13 gx gq_7 gq_13 hl
                              refine lv_iload hx hb dX10_finds_137 (lv_at hl 0 rfl) ?_
                              refine lv_aload_n hx hb dX10_finds_139 rfl (lv_at hl 6 rfl) ?_
                              refine hk_geti hx hb hts hC_10 hown hW gx tt_10 20 (by decide) rfl kw_1163 ⟨rfl, rfl, rfl⟩ fx_5 dX10_finds_140 ?_
                              refine hb_icmp_ge (zx := iv137_6.toInt) (zy := x_5.toInt) (tgt := 208) hx hb rfl rfl dX10_finds_143 (by decide) (fun c_49 => ?_) (fun c_49 => ?_)
                              · skip
                                obtain ⟨x_50, ex_50⟩ : ∃ y : Int32, y = iv76_4 + Int32.ofInt 1 := ⟨_, rfl⟩
                                have zx_50 : x_50.toInt = iv76_4.toInt + (1) := by rw [ex_50]; exact i32_add rfl (by decide) (by omega) (by omega)
                                refine lv_iinc (v := x_50) (lv' := [(4, .int x_50), (6, .int iv137_6), (5, .int r_36), (3, .int x_18), (2, .int iv31_2), (1, .int iv12_1), (0, .ref x)]) hx hb dX10_finds_208 hl (k := 2) rfl ex_50.symm (by decide) rfl (fun ls hl => ?_)
                                refine lv_goto (tgt := 76) hx hb dX10_finds_211 (by decide) ?_
                                exact ih76 x_50 _ _ hL1 hl1 (by omega) (by omega)  ls (by omega) hW hT hM fx_5 fq_7 fq_13 gx gq_7 gq_13 (lv_sub hl [0, 3, 4, 5, 6] rfl)
                              · skip
                                refine lv_iload hx hb dX10_finds_146 (lv_at hl 1 rfl) ?_
                                refine lv_aload_n hx hb dX10_finds_148 rfl (lv_at hl 6 rfl) ?_
                                refine hk_getr hx hb hts hC_10 hown hW gx tt_10 82 (by decide) rfl kw_1225 ⟨rfl, rfl, rfl⟩ fq_13 dX10_finds_149 ?_
                                refine lv_bipush (v := 40) hx hb dX10_finds_152 (by decide) ?_
                                refine lv_iload hx hb dX10_finds_154 (lv_at hl 2 rfl) ?_
                                refine lv_imul hx hb dX10_finds_156 ?_
                                refine lv_topi (fun x_51 ex_51 => ?_)
                                have zx_51 : x_51.toInt = 40 * iv76_4.toInt := by rw [ex_51]; exact i32_mul (by decide) rfl rfl (by omega) (by omega)
                                refine lv_iload hx hb dX10_finds_157 (lv_at hl 0 rfl) ?_
                                refine lv_iadd hx hb dX10_finds_159 ?_
                                have rg_52 := i32_r x_51
                                have rg_53 := i32_r iv137_6
                                refine lv_topi (fun x_54 ex_54 => ?_)
                                have zx_54 : x_54.toInt = x_51.toInt + iv137_6.toInt := by rw [ex_54]; exact i32_add rfl rfl (by omega) (by omega)
                                refine hx_iald hx hb hW hT gq_13 tt_108 rfl ⟨by omega, by omega⟩ dX10_finds_160 (fun x_55 ex_55 lx_55 ux_55 => ?_)
                                refine hx_goi (hx_runS (As := [.int r_36, .int x_55]) (rest := []) ⟨hx, hb, hml, hown, hts⟩ hW (t_X10_lesser l dC dI dA hL1 hl1 H.size r_36 x_55 hT) (va_cwS 2 hts (hx_gS kw_1705 kw_1703 kw_1704 kw_103) rfl rfl rfl (by decide +kernel) ⟨Nat.le_of_ble_eq_true rfl, Nat.le_of_ble_eq_true rfl⟩) rfl hl.1 rfl (Nat.le_of_ble_eq_true rfl) dX10_finds_161 ⟨Nat.le_of_ble_eq_true rfl, Nat.le_of_ble_eq_true rfl⟩) hW (fun r_58 L_56 h_57 H locs p_59 hW => ?_)
                                obtain ⟨hr_60, hT, hs⟩ := p_59
                                have hT : hx_T T_tb L_56 h_57 := hT
                                have hs : hx_S T_tb [] hL1 hl1 L_56 h_57 := hs
                                have fx_5 := (hs.o gx trivial rfl).1.trans fx_5
                                have fq_7 := (hs.o gx trivial rfl).2.trans fq_7
                                have fq_13 := (hs.o gx trivial rfl).2.trans fq_13
                                have ex_55 := ex_55.trans (hs.a gq_13 rfl _).1.symm
                                have hM := hM.tr (hs.mono (by decide))
                                have gx := gx.S hs
                                have gq_7 := gq_7.S hs
                                have gq_13 := gq_13.S hs
                                refine lv_istore (lv' := [(7, .int r_58), (6, .int iv137_6), (5, .int r_36), (4, .int iv76_4), (3, .int x_18), (2, .int iv31_2), (1, .int iv12_1), (0, .ref x)]) hx hb dX10_finds_164 hl (by decide) rfl (fun ls hl => ?_)
                                refine lv_iload hx hb dX10_finds_166 (lv_at hl 1 rfl) ?_
                                refine lv_iload_n hx hb dX10_finds_168 rfl (lv_at hl 5 rfl) ?_
                                refine hb_icmp_eq (zx := iv137_6.toInt) (zy := iv31_2.toInt) (tgt := 202) hx hb rfl rfl dX10_finds_169 (by decide) (fun c_61 => ?_) (fun c_61 => ?_)
                                · skip
                                  obtain ⟨x_62, ex_62⟩ : ∃ y : Int32, y = iv137_6 + Int32.ofInt 1 := ⟨_, rfl⟩
                                  have zx_62 : x_62.toInt = iv137_6.toInt + (1) := by rw [ex_62]; exact i32_add rfl (by decide) (by omega) (by omega)
                                  refine lv_iinc (v := x_62) (lv' := [(6, .int x_62), (7, .int r_58), (5, .int r_36), (4, .int iv76_4), (3, .int x_18), (2, .int iv31_2), (1, .int iv12_1), (0, .ref x)]) hx hb dX10_finds_202 hl (k := 1) rfl ex_62.symm (by decide) rfl (fun ls hl => ?_)
                                  refine lv_goto (tgt := 137) hx hb dX10_finds_205 (by decide) ?_
                                  exact ih137 x_62 _ _ L_56 h_57 (by omega) (by omega)  ls (by omega) hW hT hM fx_5 fq_7 fq_13 gx gq_7 gq_13 (lv_sub hl [0, 2, 3, 4, 5, 6, 7] rfl)
                                · skip
                                  refine lv_iload hx hb dX10_finds_172 (lv_at hl 1 rfl) ?_
                                  refine lv_iload hx hb dX10_finds_174 (lv_at hl 3 rfl) ?_
                                  refine hb_icmp_eq (zx := iv137_6.toInt) (zy := iv76_4.toInt) (tgt := 202) hx hb rfl rfl dX10_finds_176 (by decide) (fun c_63 => ?_) (fun c_63 => ?_)
                                  · skip
                                    obtain ⟨x_64, ex_64⟩ : ∃ y : Int32, y = iv137_6 + Int32.ofInt 1 := ⟨_, rfl⟩
                                    have zx_64 : x_64.toInt = iv137_6.toInt + (1) := by rw [ex_64]; exact i32_add rfl (by decide) (by omega) (by omega)
                                    refine lv_iinc (v := x_64) (lv' := [(6, .int x_64), (7, .int r_58), (5, .int r_36), (4, .int iv76_4), (3, .int x_18), (2, .int iv31_2), (1, .int iv12_1), (0, .ref x)]) hx hb dX10_finds_202 hl (k := 1) rfl ex_64.symm (by decide) rfl (fun ls hl => ?_)
                                    refine lv_goto (tgt := 137) hx hb dX10_finds_205 (by decide) ?_
                                    exact ih137 x_64 _ _ L_56 h_57 (by omega) (by omega)  ls (by omega) hW hT hM fx_5 fq_7 fq_13 gx gq_7 gq_13 (lv_sub hl [0, 2, 3, 4, 5, 6, 7] rfl)
                                  · skip
                                    refine lv_iload hx hb dX10_finds_179 (lv_at hl 0 rfl) ?_
                                    refine hb_if_ne (zx := r_58.toInt) (tgt := 187) hx hb rfl dX10_finds_181 (by decide) (fun c_65 => ?_) (fun c_65 => ?_)
                                    · skip
                                      refine lv_aload_n hx hb dX10_finds_187 rfl (lv_at hl 7 rfl) ?_
                                      refine hk_getr hx hb hts hC_10 hown hW gx tt_10 89 (by decide) rfl kw_1232 ⟨rfl, rfl, rfl⟩ fq_7 dX10_finds_188 ?_
                                      refine lv_iconst (v := 3) hx hb dX10_finds_191 (by decide) ?_
                                      refine lv_iload hx hb dX10_finds_192 (lv_at hl 1 rfl) ?_
                                      refine hx_iast hx hb hW hT (hx_S.rf (M := [(111, 0)])) gq_7 tt_111 rfl (by decide) rfl ⟨by omega, by omega⟩ (List.mem_singleton.mpr rfl) dX10_finds_194 (fun H locs h_66 eh_66 hW hT hs => ?_)
                                      have fx_5 := (hs.o gx trivial rfl).1.trans fx_5
                                      have fq_7 := (hs.o gx trivial rfl).2.trans fq_7
                                      have fq_13 := (hs.o gx trivial rfl).2.trans fq_13
                                      have ex_55 := ex_55.trans (hs.a gq_13 rfl _).1.symm
                                      have hM := hM.tr (hs.mono (by decide))
                                      have gx := gx.S hs
                                      have gq_7 := gq_7.S hs
                                      have gq_13 := gq_13.S hs
                                      refine lv_aload_n hx hb dX10_finds_195 rfl (lv_at hl 7 rfl) ?_
                                      refine lv_iconst (v := 4) hx hb dX10_finds_196 (by decide) ?_
                                      refine lv_iload hx hb dX10_finds_197 (lv_at hl 0 rfl) ?_
                                      have zc_4 : (4 : Int32).toInt = 4 := by decide
                                      refine hx_gov (hx_runV (As := [.int (4 : Int32), .int r_58]) (rest := []) ⟨hx, hb, hml, hown, hts⟩ hW gx tt_10 (T := TX10) (N := 98) rfl (t_X10_offers l dC dI dA L_56 h_66 H.size x (4 : Int32) r_58 hT gx (by decide)) (cwV 2 hts (hx_gV kw_1702 kw_1699 kw_1701 kw_88 kw_103) rfl rfl rfl (by decide +kernel) ⟨Nat.le_of_ble_eq_true rfl, Nat.le_of_ble_eq_true rfl⟩) rfl hl.1 rfl (Nat.le_of_ble_eq_true rfl) dX10_finds_199 ⟨Nat.le_of_ble_eq_true rfl, Nat.le_of_ble_eq_true rfl⟩) hW (fun L_67 h_68 H locs p_70 hW => ?_)
                                      obtain ⟨hT, hs⟩ := p_70
                                      have hT : hx_T T_tb L_67 h_68 := hT
                                      have hs : hx_S T_tb [(10, 86), (10, 87), (110, 0)] L_56 h_66 L_67 h_68 := hs
                                      have fx_5 := (hs.o gx trivial rfl).1.trans fx_5
                                      have fq_7 := (hs.o gx trivial rfl).2.trans fq_7
                                      have fq_13 := (hs.o gx trivial rfl).2.trans fq_13
                                      have ex_55 := ex_55.trans (hs.a gq_13 rfl _).1.symm
                                      have hM := hM.tr (hs.mono (by decide))
                                      have gx := gx.S hs
                                      have gq_7 := gq_7.S hs
                                      have gq_13 := gq_13.S hs
                                      obtain ⟨x_72, ex_72⟩ : ∃ y : Int32, y = iv137_6 + Int32.ofInt 1 := ⟨_, rfl⟩
                                      have zx_72 : x_72.toInt = iv137_6.toInt + (1) := by rw [ex_72]; exact i32_add rfl (by decide) (by omega) (by omega)
                                      refine lv_iinc (v := x_72) (lv' := [(6, .int x_72), (7, .int r_58), (5, .int r_36), (4, .int iv76_4), (3, .int x_18), (2, .int iv31_2), (1, .int iv12_1), (0, .ref x)]) hx hb dX10_finds_202 hl (k := 1) rfl ex_72.symm (by decide) rfl (fun ls hl => ?_)
                                      refine lv_goto (tgt := 137) hx hb dX10_finds_205 (by decide) ?_
                                      exact ih137 x_72 _ _ L_67 h_68 (by omega) (by omega)  ls (by omega) hW hT hM fx_5 fq_7 fq_13 gx gq_7 gq_13 (lv_sub hl [0, 2, 3, 4, 5, 6, 7] rfl)
                                    · skip
                                      refine lv_goto (tgt := 202) hx hb dX10_finds_184 (by decide) ?_
                                      obtain ⟨x_73, ex_73⟩ : ∃ y : Int32, y = iv137_6 + Int32.ofInt 1 := ⟨_, rfl⟩
                                      have zx_73 : x_73.toInt = iv137_6.toInt + (1) := by rw [ex_73]; exact i32_add rfl (by decide) (by omega) (by omega)
                                      refine lv_iinc (v := x_73) (lv' := [(6, .int x_73), (7, .int r_58), (5, .int r_36), (4, .int iv76_4), (3, .int x_18), (2, .int iv31_2), (1, .int iv12_1), (0, .ref x)]) hx hb dX10_finds_202 hl (k := 1) rfl ex_73.symm (by decide) rfl (fun ls hl => ?_)
                                      refine lv_goto (tgt := 137) hx hb dX10_finds_205 (by decide) ?_
                                      exact ih137 x_73 _ _ L_56 h_57 (by omega) (by omega)  ls (by omega) hW hT hM fx_5 fq_7 fq_13 gx gq_7 gq_13 (lv_sub hl [0, 2, 3, 4, 5, 6, 7] rfl)
                          exact loop137 41 x_48 _ _ L_43 h_44 (by omega) (by omega)  ls (by omega) hW hT hM fx_5 fq_7 fq_13 gx gq_7 gq_13 hl
                        · skip
                          refine lv_goto (tgt := 208) hx hb dX10_finds_114 (by decide) ?_
                          obtain ⟨x_74, ex_74⟩ : ∃ y : Int32, y = iv76_4 + Int32.ofInt 1 := ⟨_, rfl⟩
                          have zx_74 : x_74.toInt = iv76_4.toInt + (1) := by rw [ex_74]; exact i32_add rfl (by decide) (by omega) (by omega)
                          refine lv_iinc (v := x_74) (lv' := [(4, .int x_74), (5, .int r_36), (3, .int x_18), (2, .int iv31_2), (1, .int iv12_1), (0, .ref x)]) hx hb dX10_finds_208 hl (k := 1) rfl ex_74.symm (by decide) rfl (fun ls hl => ?_)
                          refine lv_goto (tgt := 76) hx hb dX10_finds_211 (by decide) ?_
                          exact ih76 x_74 _ _ L_34 h_35 (by omega) (by omega)  ls (by omega) hW hT hM fx_5 fq_7 fq_13 gx gq_7 gq_13 (lv_sub hl [0, 2, 3, 4, 5] rfl)
                exact loop76 41 x_26 _ _ L_21 h_22 (by omega) (by omega)  ls (by omega) hW hT hM fx_5 fq_7 fq_13 gx gq_7 gq_13 hl
              · skip
                refine lv_goto (tgt := 214) hx hb dX10_finds_55 (by decide) ?_
                obtain ⟨x_75, ex_75⟩ : ∃ y : Int32, y = iv31_2 + Int32.ofInt 1 := ⟨_, rfl⟩
                have zx_75 : x_75.toInt = iv31_2.toInt + (1) := by rw [ex_75]; exact i32_add rfl (by decide) (by omega) (by omega)
                refine lv_iinc (v := x_75) (lv' := [(2, .int x_75), (3, .int x_18), (1, .int iv12_1), (0, .ref x)]) hx hb dX10_finds_214 hl (k := 1) rfl ex_75.symm (by decide) rfl (fun ls hl => ?_)
                refine lv_goto (tgt := 31) hx hb dX10_finds_217 (by decide) ?_
                exact ih31 x_75 _ _ hL1 hl1 (by omega) (by omega)  ls (by omega) hW hT hM fx_5 fq_7 gx gq_7 (lv_sub hl [0, 2, 3] rfl)
        exact loop31 41 x_10 _ _ hL1 h_8 (by omega) (by omega)  ls (by omega) hW hT hM fx_5 fq_7 gx gq_7 hl
  have zk_0 : (0 : Int32).toInt = 0 := by decide
  exact loop12 41 (0 : Int32) _ _ L h_3 (by decide) (by decide)  ls (by omega) hW hT hM  gx hl

theorem dX10_netted_0 : decode cX10_netted 0 = .ok (.aload_n 0, 1) := by decide +kernel
theorem dX10_netted_1 : decode cX10_netted 1 = .ok (.getfield 451, 3) := by decide +kernel
theorem dX10_netted_4 : decode cX10_netted 4 = .ok (.ifCond .ne 7, 3) := by decide +kernel
theorem dX10_netted_7 : decode cX10_netted 7 = .ok (.iconst (-1), 1) := by decide +kernel
theorem dX10_netted_8 : decode cX10_netted 8 = .ok (.goto 39, 3) := by decide +kernel
theorem dX10_netted_11 : decode cX10_netted 11 = .ok (.iload_n 1, 1) := by decide +kernel
theorem dX10_netted_12 : decode cX10_netted 12 = .ok (.iconst (-1), 1) := by decide +kernel
theorem dX10_netted_13 : decode cX10_netted 13 = .ok (.if_icmp .ne 10, 3) := by decide +kernel
theorem dX10_netted_16 : decode cX10_netted 16 = .ok (.aload_n 0, 1) := by decide +kernel
theorem dX10_netted_17 : decode cX10_netted 17 = .ok (.getfield 455, 3) := by decide +kernel
theorem dX10_netted_20 : decode cX10_netted 20 = .ok (.goto 27, 3) := by decide +kernel
theorem dX10_netted_23 : decode cX10_netted 23 = .ok (.iload_n 1, 1) := by decide +kernel
theorem dX10_netted_24 : decode cX10_netted 24 = .ok (.iconst 0, 1) := by decide +kernel
theorem dX10_netted_25 : decode cX10_netted 25 = .ok (.aload_n 0, 1) := by decide +kernel
theorem dX10_netted_26 : decode cX10_netted 26 = .ok (.getfield 455, 3) := by decide +kernel
theorem dX10_netted_29 : decode cX10_netted 29 = .ok (.iconst 1, 1) := by decide +kernel
theorem dX10_netted_30 : decode cX10_netted 30 = .ok (.isub, 1) := by decide +kernel
theorem dX10_netted_31 : decode cX10_netted 31 = .ok (.invokestatic 228, 3) := by decide +kernel
theorem dX10_netted_34 : decode cX10_netted 34 = .ok (.ifCond .eq 12, 3) := by decide +kernel
theorem dX10_netted_37 : decode cX10_netted 37 = .ok (.aload_n 0, 1) := by decide +kernel
theorem dX10_netted_38 : decode cX10_netted 38 = .ok (.getfield 192, 3) := by decide +kernel
theorem dX10_netted_41 : decode cX10_netted 41 = .ok (.iload_n 1, 1) := by decide +kernel
theorem dX10_netted_42 : decode cX10_netted 42 = .ok (.iaload, 1) := by decide +kernel
theorem dX10_netted_43 : decode cX10_netted 43 = .ok (.goto 4, 3) := by decide +kernel
theorem dX10_netted_46 : decode cX10_netted 46 = .ok (.iconst (-1), 1) := by decide +kernel
theorem dX10_netted_47 : decode cX10_netted 47 = .ok (.ireturn, 1) := by decide +kernel
set_option maxHeartbeats 4000000 in
set_option maxRecDepth 100000 in
theorem t_X10_netted (l : Launch) (dC : Nat → ClassId) (dI : Nat → Nat → Nat) (dA : Nat → ClassId) (L : List Nat) (h : hx_h) (sz : Nat) (x : Nat) (i1 : Int32) (hT : hx_T T_tb L h) (gx : hx_g L h x 10)  : Met l yX10_netted (Cond.code yX10_netted cX10_netted 2 (some .int) :: hx_all) ({ frames := 1, cells := 0, slots := 0, locals := 22 }) (va_Pc [.ref x, .int i1] (hx_B T_tb (P_ty dA) (dC, dI) vwCl L h sz)) (va_Qi (fun (r : Int32) (u : List Nat × hx_h) => (True) ∧ hx_T T_tb u.1 u.2 ∧ hx_S T_tb [] L h u.1 u.2) (hx_E T_tb (P_ty dA) (dC, dI) vwCl (hx_A L sz)) (hx_A L sz)) 0 0 (hx_A L sz) := by
  refine hx_met (lv := [(0, .ref x), (1, .int i1)]) (by decide +kernel) rfl (Nat.le_of_ble_eq_true rfl) rfl ?_
  intro p e s m below meth c hx hb hml hr hlk hts0 hown hin hsz hW ls hl
  have hts : ∀ w ∈ hx_all, w.before _ s = true := fun w hw => hts0 w (List.mem_cons_of_mem _ hw)
  have hown : s.vm.findClass "SmallCourtModel" = some m.cls := hown
  have hM : hx_S T_tb [] L h L h := hx_S.rf
  refine lv_aload_n hx hb dX10_netted_0 rfl (lv_at hl 0 rfl) ?_
  refine hx_geti hx hb hts hC_10 hown hW hT gx tt_10 83 (by decide) rfl kw_1226 ⟨rfl, rfl, rfl⟩ dX10_netted_1 (fun x_1 ex_1 lx_1 ux_1 => ?_)
  have fx_1 := ex_1.symm
  refine hb_if_ne (zx := x_1.toInt) (tgt := 11) hx hb rfl dX10_netted_4 (by decide) (fun c_2 => ?_) (fun c_2 => ?_)
  · skip
    refine lv_iload_n hx hb dX10_netted_11 rfl (lv_at hl 1 rfl) ?_
    refine lv_iconst (v := -1) hx hb dX10_netted_12 (by decide) ?_
    refine hb_icmp_ne (zx := i1.toInt) (zy := (-1)) (tgt := 23) hx hb rfl (by decide) dX10_netted_13 (by decide) (fun c_3 => ?_) (fun c_3 => ?_)
    · skip
      refine lv_iload_n hx hb dX10_netted_23 rfl (lv_at hl 1 rfl) ?_
      refine lv_iconst (v := 0) hx hb dX10_netted_24 (by decide) ?_
      refine lv_aload_n hx hb dX10_netted_25 rfl (lv_at hl 0 rfl) ?_
      refine hx_geti hx hb hts hC_10 hown hW hT gx tt_10 84 (by decide) rfl kw_1227 ⟨rfl, rfl, rfl⟩ dX10_netted_26 (fun x_4 ex_4 lx_4 ux_4 => ?_)
      have fx_4 := ex_4.symm
      refine lv_iconst (v := 1) hx hb dX10_netted_29 (by decide) ?_
      refine lv_isub hx hb dX10_netted_30 ?_
      have rg_5 := i32_r x_4
      refine lv_topi (fun x_6 ex_6 => ?_)
      have zx_6 : x_6.toInt = x_4.toInt - 1 := by rw [ex_6]; exact i32_sub rfl (by decide) (by omega) (by omega)
      have zc_0 : (0 : Int32).toInt = 0 := by decide
      refine hx_goi (hx_runS (As := [.int i1, .int (0 : Int32), .int x_6]) (rest := []) ⟨hx, hb, hml, hown, hts⟩ hW (t_X10_in l dC dI dA L h s.heap.size i1 (0 : Int32) x_6 hT) (va_cwS 3 hts (hx_gS kw_1445 kw_1443 kw_1444 kw_103) rfl rfl rfl (by decide +kernel) ⟨Nat.le_of_ble_eq_true rfl, Nat.le_of_ble_eq_true rfl⟩) rfl hl.1 rfl (Nat.le_of_ble_eq_true rfl) dX10_netted_31 ⟨Nat.le_of_ble_eq_true rfl, Nat.le_of_ble_eq_true rfl⟩) hW (fun r_9 L_7 h_8 H locs p_10 hW => ?_)
      obtain ⟨hr_11, hT, hs⟩ := p_10
      have hT : hx_T T_tb L_7 h_8 := hT
      have hs : hx_S T_tb [] L h L_7 h_8 := hs
      have fx_1 := (hs.o gx trivial rfl).1.trans fx_1
      have fx_4 := (hs.o gx trivial rfl).1.trans fx_4
      have hM := hM.tr (hs.mono (by decide))
      have gx := gx.S hs
      refine hb_if_eq (zx := r_9.toInt) (tgt := 46) hx hb rfl dX10_netted_34 (by decide) (fun c_12 => ?_) (fun c_12 => ?_)
      · skip
        refine lv_iconst (v := -1) hx hb dX10_netted_46 (by decide) ?_
        exact hx_reti hx hb hr hlk hW ⟨trivial, hT, hM⟩ dX10_netted_47
      · skip
        refine lv_aload_n hx hb dX10_netted_37 rfl (lv_at hl 0 rfl) ?_
        refine hx_getn hx hb hts hC_10 hown hW hT gx tt_10 85 (by decide) rfl kw_1228 ⟨rfl, rfl, rfl⟩ dX10_netted_38 (fun q_13 fq_13 gq_13 => ?_)
        refine lv_iload_n hx hb dX10_netted_41 rfl (lv_at hl 1 rfl) ?_
        refine hx_iald hx hb hW hT gq_13 tt_109 rfl ⟨by omega, by omega⟩ dX10_netted_42 (fun x_14 ex_14 lx_14 ux_14 => ?_)
        refine lv_goto (tgt := 47) hx hb dX10_netted_43 (by decide) ?_
        exact hx_reti hx hb hr hlk hW ⟨trivial, hT, hM⟩ dX10_netted_47
    · skip
      refine lv_aload_n hx hb dX10_netted_16 rfl (lv_at hl 0 rfl) ?_
      refine hx_geti hx hb hts hC_10 hown hW hT gx tt_10 84 (by decide) rfl kw_1227 ⟨rfl, rfl, rfl⟩ dX10_netted_17 (fun x_15 ex_15 lx_15 ux_15 => ?_)
      have fx_15 := ex_15.symm
      refine lv_goto (tgt := 47) hx hb dX10_netted_20 (by decide) ?_
      exact hx_reti hx hb hr hlk hW ⟨trivial, hT, hM⟩ dX10_netted_47
  · skip
    refine lv_iconst (v := -1) hx hb dX10_netted_7 (by decide) ?_
    refine lv_goto (tgt := 47) hx hb dX10_netted_8 (by decide) ?_
    exact hx_reti hx hb hr hlk hW ⟨trivial, hT, hM⟩ dX10_netted_47
