theorem dX10_summons_0 : decode cX10_summons 0 = .ok (.aload_n 0, 1) := by decide +kernel
theorem dX10_summons_1 : decode cX10_summons 1 = .ok (.iload_n 1, 1) := by decide +kernel
theorem dX10_summons_2 : decode cX10_summons 2 = .ok (.invokevirtual 370, 3) := by decide +kernel
theorem dX10_summons_5 : decode cX10_summons 5 = .ok (.ifCond .eq 23, 3) := by decide +kernel
theorem dX10_summons_8 : decode cX10_summons 8 = .ok (.aload_n 0, 1) := by decide +kernel
theorem dX10_summons_9 : decode cX10_summons 9 = .ok (.getfield 108, 3) := by decide +kernel
theorem dX10_summons_12 : decode cX10_summons 12 = .ok (.iload_n 1, 1) := by decide +kernel
theorem dX10_summons_13 : decode cX10_summons 13 = .ok (.iaload, 1) := by decide +kernel
theorem dX10_summons_14 : decode cX10_summons 14 = .ok (.iconst (-1), 1) := by decide +kernel
theorem dX10_summons_15 : decode cX10_summons 15 = .ok (.if_icmp .ne 13, 3) := by decide +kernel
theorem dX10_summons_18 : decode cX10_summons 18 = .ok (.aload_n 0, 1) := by decide +kernel
theorem dX10_summons_19 : decode cX10_summons 19 = .ok (.getfield 111, 3) := by decide +kernel
theorem dX10_summons_22 : decode cX10_summons 22 = .ok (.iload_n 1, 1) := by decide +kernel
theorem dX10_summons_23 : decode cX10_summons 23 = .ok (.iaload, 1) := by decide +kernel
theorem dX10_summons_24 : decode cX10_summons 24 = .ok (.iconst (-1), 1) := by decide +kernel
theorem dX10_summons_25 : decode cX10_summons 25 = .ok (.if_icmp .eq 5, 3) := by decide +kernel
theorem dX10_summons_28 : decode cX10_summons 28 = .ok (.iconst (-1), 1) := by decide +kernel
theorem dX10_summons_29 : decode cX10_summons 29 = .ok (.ireturn, 1) := by decide +kernel
theorem dX10_summons_30 : decode cX10_summons 30 = .ok (.aload_n 0, 1) := by decide +kernel
theorem dX10_summons_31 : decode cX10_summons 31 = .ok (.getfield 105, 3) := by decide +kernel
theorem dX10_summons_34 : decode cX10_summons 34 = .ok (.iload_n 1, 1) := by decide +kernel
theorem dX10_summons_35 : decode cX10_summons 35 = .ok (.dup2, 1) := by decide +kernel
theorem dX10_summons_36 : decode cX10_summons 36 = .ok (.iaload, 1) := by decide +kernel
theorem dX10_summons_37 : decode cX10_summons 37 = .ok (.iconst 1, 1) := by decide +kernel
theorem dX10_summons_38 : decode cX10_summons 38 = .ok (.iadd, 1) := by decide +kernel
theorem dX10_summons_39 : decode cX10_summons 39 = .ok (.iastore, 1) := by decide +kernel
theorem dX10_summons_40 : decode cX10_summons 40 = .ok (.iload_n 2, 1) := by decide +kernel
theorem dX10_summons_41 : decode cX10_summons 41 = .ok (.ifCond .eq 13, 3) := by decide +kernel
theorem dX10_summons_44 : decode cX10_summons 44 = .ok (.aload_n 0, 1) := by decide +kernel
theorem dX10_summons_45 : decode cX10_summons 45 = .ok (.getfield 108, 3) := by decide +kernel
theorem dX10_summons_48 : decode cX10_summons 48 = .ok (.iload_n 1, 1) := by decide +kernel
theorem dX10_summons_49 : decode cX10_summons 49 = .ok (.aload_n 0, 1) := by decide +kernel
theorem dX10_summons_50 : decode cX10_summons 50 = .ok (.getfield 232, 3) := by decide +kernel
theorem dX10_summons_53 : decode cX10_summons 53 = .ok (.iastore, 1) := by decide +kernel
theorem dX10_summons_54 : decode cX10_summons 54 = .ok (.aload_n 0, 1) := by decide +kernel
theorem dX10_summons_55 : decode cX10_summons 55 = .ok (.getfield 105, 3) := by decide +kernel
theorem dX10_summons_58 : decode cX10_summons 58 = .ok (.iload_n 1, 1) := by decide +kernel
theorem dX10_summons_59 : decode cX10_summons 59 = .ok (.iaload, 1) := by decide +kernel
theorem dX10_summons_60 : decode cX10_summons 60 = .ok (.ireturn, 1) := by decide +kernel
set_option maxHeartbeats 4000000 in
set_option maxRecDepth 100000 in
theorem t_X10_summons (l : Launch) (dC : Nat → ClassId) (dI : Nat → Nat → Nat) (dA : Nat → ClassId) (L : List Nat) (h : hx_h) (sz : Nat) (x : Nat) (i1 : Int32) (i2 : Int32) (hT : hx_T T_tb L h) (gx : hx_g L h x 10) (qtr : Nat) (gqtr : hx_g L h qtr 80) (f_x_45 : h.2.2 x 45 = some qtr) (trf : Nat → Int32) (af_qtr : h.2.1 qtr = trf) (T1 : Int) (hT1 : T1 ≤ 511) (hTR : hx_TR trf T1) : Met l yX10_summons (Cond.code yX10_summons cX10_summons 3 (some .int) :: hx_all) ({ frames := 2, cells := 0, slots := 0, locals := 43 }) (va_Pc [.ref x, .int i1, .int i2] (hx_B T_tb (P_ty dA) (dC, dI) vwCl L h sz)) (va_Qi (fun (r : Int32) (u : List Nat × hx_h) => (∃ (trf1 : Nat → Int32), u.2.2.1 qtr = trf1 ∧ (hx_TR trf1 (T1 + 1))) ∧ hx_T T_tb u.1 u.2 ∧ hx_S T_tb [(80, 0), (81, 0)] L h u.1 u.2) (hx_E T_tb (P_ty dA) (dC, dI) vwCl (hx_A L sz)) (hx_A L sz)) 0 0 (hx_A L sz) := by
  refine hx_met (lv := [(0, .ref x), (1, .int i1), (2, .int i2)]) (by decide +kernel) rfl (Nat.le_of_ble_eq_true rfl) rfl ?_
  intro p e s m below meth c hx hb hml hr hlk hts0 hown hin hsz hW ls hl
  have hts : ∀ w ∈ hx_all, w.before _ s = true := fun w hw => hts0 w (List.mem_cons_of_mem _ hw)
  have hown : s.vm.findClass "SmallCourtModel" = some m.cls := hown
  have hM : hx_S T_tb [(80, 0), (81, 0)] L h L h := hx_S.rf
  refine lv_aload_n hx hb dX10_summons_0 rfl (lv_at hl 0 rfl) ?_
  refine lv_iload_n hx hb dX10_summons_1 rfl (lv_at hl 1 rfl) ?_
  obtain ⟨fv_1, efv_1⟩ : ∃ y : Int32, y = h.2.1 x 36 := ⟨_, rfl⟩
  have bfv_1 := hT.gi gx tt_10 (k := 36) rfl
  rw [← efv_1] at bfv_1
  have bfv_1 : 0 ≤ fv_1.toInt ∧ fv_1.toInt ≤ 100 := bfv_1
  have ffv_1 := efv_1.symm
  refine hx_goi (hx_runV (As := [.int i1]) (rest := []) ⟨hx, hb, hml, hown, hts⟩ hW gx tt_10 (T := TX10) (N := 98) rfl (t_X10_isClaim l dC dI dA L h s.heap.size x i1 hT gx fv_1 ffv_1) (cwV 1 hts (hx_gV kw_1597 kw_1594 kw_1596 kw_73 kw_103) rfl rfl rfl (by decide +kernel) ⟨Nat.le_of_ble_eq_true rfl, Nat.le_of_ble_eq_true rfl⟩) rfl hl.1 rfl (Nat.le_of_ble_eq_true rfl) dX10_summons_2 ⟨Nat.le_of_ble_eq_true rfl, Nat.le_of_ble_eq_true rfl⟩) hW (fun r_4 L_2 h_3 H locs p_5 hW => ?_)
  obtain ⟨hr_6, hT, hs⟩ := p_5
  have hT : hx_T T_tb L_2 h_3 := hT
  have hs : hx_S T_tb [] L h L_2 h_3 := hs
  have f_x_45 := (hs.o gx trivial rfl).2.trans f_x_45
  have ffv_1 := (hs.o gx trivial rfl).1.trans ffv_1
  have af_qtr : h_3.2.1 qtr = trf := (funext fun j => (hs.a gqtr rfl j).1).trans af_qtr
  have hM := hM.tr (hs.mono (by decide))
  have gx := gx.S hs
  have gqtr := gqtr.S hs
  refine hb_if_eq (zx := r_4.toInt) (tgt := 28) hx hb rfl dX10_summons_5 (by decide) (fun c_7 => ?_) (fun c_7 => ?_)
  · skip
    refine lv_iconst (v := -1) hx hb dX10_summons_28 (by decide) ?_
    exact hx_reti hx hb hr hlk hW ⟨⟨trf, af_qtr, (hx_TR_le hTR (by omega))⟩, hT, hM⟩ dX10_summons_29
  · skip
    refine lv_aload_n hx hb dX10_summons_8 rfl (lv_at hl 0 rfl) ?_
    refine hx_getn hx hb hts hC_10 hown hW hT gx tt_10 46 (by decide) rfl kw_1189 ⟨rfl, rfl, rfl⟩ dX10_summons_9 (fun q_8 fq_8 gq_8 => ?_)
    refine lv_iload_n hx hb dX10_summons_12 rfl (lv_at hl 1 rfl) ?_
    refine hx_iald hx hb hW hT gq_8 tt_81 rfl ⟨by omega, by omega⟩ dX10_summons_13 (fun x_9 ex_9 lx_9 ux_9 => ?_)
    refine lv_iconst (v := -1) hx hb dX10_summons_14 (by decide) ?_
    refine hb_icmp_ne (zx := x_9.toInt) (zy := (-1)) (tgt := 28) hx hb rfl (by decide) dX10_summons_15 (by decide) (fun c_10 => ?_) (fun c_10 => ?_)
    · skip
      refine lv_iconst (v := -1) hx hb dX10_summons_28 (by decide) ?_
      exact hx_reti hx hb hr hlk hW ⟨⟨trf, af_qtr, (hx_TR_le hTR (by omega))⟩, hT, hM⟩ dX10_summons_29
    · skip
      refine lv_aload_n hx hb dX10_summons_18 rfl (lv_at hl 0 rfl) ?_
      refine hx_getn hx hb hts hC_10 hown hW hT gx tt_10 47 (by decide) rfl kw_1190 ⟨rfl, rfl, rfl⟩ dX10_summons_19 (fun q_11 fq_11 gq_11 => ?_)
      refine lv_iload_n hx hb dX10_summons_22 rfl (lv_at hl 1 rfl) ?_
      refine hx_iald hx hb hW hT gq_11 tt_82 rfl ⟨by omega, by omega⟩ dX10_summons_23 (fun x_12 ex_12 lx_12 ux_12 => ?_)
      refine lv_iconst (v := -1) hx hb dX10_summons_24 (by decide) ?_
      refine hb_icmp_eq (zx := x_12.toInt) (zy := (-1)) (tgt := 30) hx hb rfl (by decide) dX10_summons_25 (by decide) (fun c_13 => ?_) (fun c_13 => ?_)
      · skip
        refine lv_aload_n hx hb dX10_summons_30 rfl (lv_at hl 0 rfl) ?_
        refine hk_getr hx hb hts hC_10 hown hW gx tt_10 45 (by decide) rfl kw_1188 ⟨rfl, rfl, rfl⟩ f_x_45 dX10_summons_31 ?_
        refine lv_iload_n hx hb dX10_summons_34 rfl (lv_at hl 1 rfl) ?_
        refine lv_dup2_11 hx hb dX10_summons_35 rfl rfl ?_
        refine hx_iald hx hb hW hT gqtr tt_80 rfl ⟨by omega, by omega⟩ dX10_summons_36 (fun x_14 ex_14 lx_14 ux_14 => ?_)
        have ax_14 : x_14 = trf i1.toNatClampNeg := ex_14.trans (congrFun af_qtr _)
        have htr : x_14.toInt ≤ T1 := by rw [ax_14]; exact hTR _ (by unfold Int32.toNatClampNeg; omega)
        refine lv_iconst (v := 1) hx hb dX10_summons_37 (by decide) ?_
        refine lv_iadd hx hb dX10_summons_38 ?_
        have rg_15 := i32_r x_14
        refine lv_topi (fun x_16 ex_16 => ?_)
        have zx_16 : x_16.toInt = x_14.toInt + 1 := by rw [ex_16]; exact i32_add rfl (by decide) (by omega) (by omega)
        have af_qtrO := af_qtr
        refine hx_iast hx hb hW hT (hx_S.rf (M := [(80, 0)])) gqtr tt_80 rfl ⟨by omega, by omega⟩ rfl ⟨by omega, by omega⟩ (List.mem_singleton.mpr rfl) dX10_summons_39 (fun H locs h_17 eh_17 hW hT hs => ?_)
        have f_x_45 := (hs.o gx trivial rfl).2.trans f_x_45
        have ffv_1 := (hs.o gx trivial rfl).1.trans ffv_1
        have fq_8 := (hs.o gx trivial rfl).2.trans fq_8
        have fq_11 := (hs.o gx trivial rfl).2.trans fq_11
        have ex_9 := ex_9.trans (hs.a gq_8 rfl _).1.symm
        have ex_12 := ex_12.trans (hs.a gq_11 rfl _).1.symm
        have hM := hM.tr (hs.mono (by decide))
        have gx := gx.S hs
        have gqtr := gqtr.S hs
        have gq_8 := gq_8.S hs
        have gq_11 := gq_11.S hs
        obtain ⟨fa_18, dfa_18⟩ : ∃ g : Nat → Int32, g = hx_up trf i1.toNatClampNeg x_16 := ⟨_, rfl⟩
        have nfa_18 : h_17.2.1 qtr = fa_18 := by rw [eh_17, dfa_18, ← af_qtrO]; exact hx_pi_fun _ _ _ _
        refine lv_iload_n hx hb dX10_summons_40 rfl (lv_at hl 2 rfl) ?_
        refine hb_if_eq (zx := i2.toInt) (tgt := 54) hx hb rfl dX10_summons_41 (by decide) (fun c_19 => ?_) (fun c_19 => ?_)
        · skip
          refine lv_aload_n hx hb dX10_summons_54 rfl (lv_at hl 0 rfl) ?_
          refine hk_getr hx hb hts hC_10 hown hW gx tt_10 45 (by decide) rfl kw_1188 ⟨rfl, rfl, rfl⟩ f_x_45 dX10_summons_55 ?_
          refine lv_iload_n hx hb dX10_summons_58 rfl (lv_at hl 1 rfl) ?_
          refine hx_iald hx hb hW hT gqtr tt_80 rfl ⟨by omega, by omega⟩ dX10_summons_59 (fun x_20 ex_20 lx_20 ux_20 => ?_)
          have ax_20 : x_20 = fa_18 i1.toNatClampNeg := ex_20.trans (congrFun nfa_18 _)
          exact hx_reti hx hb hr hlk hW ⟨⟨fa_18, nfa_18, (hx_TR_up hTR dfa_18 (by omega))⟩, hT, hM⟩ dX10_summons_60
        · skip
          refine lv_aload_n hx hb dX10_summons_44 rfl (lv_at hl 0 rfl) ?_
          refine hk_getr hx hb hts hC_10 hown hW gx tt_10 46 (by decide) rfl kw_1189 ⟨rfl, rfl, rfl⟩ fq_8 dX10_summons_45 ?_
          refine lv_iload_n hx hb dX10_summons_48 rfl (lv_at hl 1 rfl) ?_
          refine lv_aload_n hx hb dX10_summons_49 rfl (lv_at hl 0 rfl) ?_
          refine hx_geti hx hb hts hC_10 hown hW hT gx tt_10 0 (by decide) rfl kw_1143 ⟨rfl, rfl, rfl⟩ dX10_summons_50 (fun x_21 ex_21 lx_21 ux_21 => ?_)
          have fx_21 := ex_21.symm
          refine hx_iast hx hb hW hT (hx_S.rf (M := [(81, 0)])) gq_8 tt_81 rfl ⟨by omega, by omega⟩ rfl (i32_r _) (List.mem_singleton.mpr rfl) dX10_summons_53 (fun H locs h_22 eh_22 hW hT hs => ?_)
          have f_x_45 := (hs.o gx trivial rfl).2.trans f_x_45
          have ffv_1 := (hs.o gx trivial rfl).1.trans ffv_1
          have fq_8 := (hs.o gx trivial rfl).2.trans fq_8
          have fq_11 := (hs.o gx trivial rfl).2.trans fq_11
          have fx_21 := (hs.o gx trivial rfl).1.trans fx_21
          have nfa_18 : h_22.2.1 qtr = fa_18 := (funext fun j => (hs.a gqtr rfl j).1).trans nfa_18
          have ex_12 := ex_12.trans (hs.a gq_11 rfl _).1.symm
          have hM := hM.tr (hs.mono (by decide))
          have gx := gx.S hs
          have gqtr := gqtr.S hs
          have gq_8 := gq_8.S hs
          have gq_11 := gq_11.S hs
          refine lv_aload_n hx hb dX10_summons_54 rfl (lv_at hl 0 rfl) ?_
          refine hk_getr hx hb hts hC_10 hown hW gx tt_10 45 (by decide) rfl kw_1188 ⟨rfl, rfl, rfl⟩ f_x_45 dX10_summons_55 ?_
          refine lv_iload_n hx hb dX10_summons_58 rfl (lv_at hl 1 rfl) ?_
          refine hx_iald hx hb hW hT gqtr tt_80 rfl ⟨by omega, by omega⟩ dX10_summons_59 (fun x_23 ex_23 lx_23 ux_23 => ?_)
          have ax_23 : x_23 = fa_18 i1.toNatClampNeg := ex_23.trans (congrFun nfa_18 _)
          exact hx_reti hx hb hr hlk hW ⟨⟨fa_18, nfa_18, (hx_TR_up hTR dfa_18 (by omega))⟩, hT, hM⟩ dX10_summons_60
      · skip
        refine lv_iconst (v := -1) hx hb dX10_summons_28 (by decide) ?_
        exact hx_reti hx hb hr hlk hW ⟨⟨trf, af_qtr, (hx_TR_le hTR (by omega))⟩, hT, hM⟩ dX10_summons_29
