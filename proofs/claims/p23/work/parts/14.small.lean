theorem dX9_roundUp_0 : decode cX9_roundUp 0 = .ok (.iload_n 0, 1) := by decide +kernel
theorem dX9_roundUp_1 : decode cX9_roundUp 1 = .ok (.ifCond .le 8, 3) := by decide +kernel
theorem dX9_roundUp_4 : decode cX9_roundUp 4 = .ok (.iload_n 1, 1) := by decide +kernel
theorem dX9_roundUp_5 : decode cX9_roundUp 5 = .ok (.iconst 1, 1) := by decide +kernel
theorem dX9_roundUp_6 : decode cX9_roundUp 6 = .ok (.if_icmp .ge 7, 3) := by decide +kernel
theorem dX9_roundUp_9 : decode cX9_roundUp 9 = .ok (.iconst 0, 1) := by decide +kernel
theorem dX9_roundUp_10 : decode cX9_roundUp 10 = .ok (.goto 10, 3) := by decide +kernel
theorem dX9_roundUp_13 : decode cX9_roundUp 13 = .ok (.iload_n 0, 1) := by decide +kernel
theorem dX9_roundUp_14 : decode cX9_roundUp 14 = .ok (.iconst 1, 1) := by decide +kernel
theorem dX9_roundUp_15 : decode cX9_roundUp 15 = .ok (.isub, 1) := by decide +kernel
theorem dX9_roundUp_16 : decode cX9_roundUp 16 = .ok (.iload_n 1, 1) := by decide +kernel
theorem dX9_roundUp_17 : decode cX9_roundUp 17 = .ok (.idiv, 1) := by decide +kernel
theorem dX9_roundUp_18 : decode cX9_roundUp 18 = .ok (.iconst 1, 1) := by decide +kernel
theorem dX9_roundUp_19 : decode cX9_roundUp 19 = .ok (.iadd, 1) := by decide +kernel
theorem dX9_roundUp_20 : decode cX9_roundUp 20 = .ok (.ireturn, 1) := by decide +kernel
theorem dX9_isWithin_0 : decode cX9_isWithin 0 = .ok (.iload_n 0, 1) := by decide +kernel
theorem dX9_isWithin_1 : decode cX9_isWithin 1 = .ok (.iload_n 1, 1) := by decide +kernel
theorem dX9_isWithin_2 : decode cX9_isWithin 2 = .ok (.if_icmp .lt 12, 3) := by decide +kernel
theorem dX9_isWithin_5 : decode cX9_isWithin 5 = .ok (.iload_n 0, 1) := by decide +kernel
theorem dX9_isWithin_6 : decode cX9_isWithin 6 = .ok (.iload_n 2, 1) := by decide +kernel
theorem dX9_isWithin_7 : decode cX9_isWithin 7 = .ok (.if_icmp .gt 7, 3) := by decide +kernel
theorem dX9_isWithin_10 : decode cX9_isWithin 10 = .ok (.iconst 1, 1) := by decide +kernel
theorem dX9_isWithin_11 : decode cX9_isWithin 11 = .ok (.goto 4, 3) := by decide +kernel
theorem dX9_isWithin_14 : decode cX9_isWithin 14 = .ok (.iconst 0, 1) := by decide +kernel
theorem dX9_isWithin_15 : decode cX9_isWithin 15 = .ok (.ireturn, 1) := by decide +kernel
theorem dX9_isDay_0 : decode cX9_isDay 0 = .ok (.iload_n 0, 1) := by decide +kernel
theorem dX9_isDay_1 : decode cX9_isDay 1 = .ok (.iconst 0, 1) := by decide +kernel
theorem dX9_isDay_2 : decode cX9_isDay 2 = .ok (.sipush 7999, 3) := by decide +kernel
theorem dX9_isDay_5 : decode cX9_isDay 5 = .ok (.invokestatic 128, 3) := by decide +kernel
theorem dX9_isDay_8 : decode cX9_isDay 8 = .ok (.ireturn, 1) := by decide +kernel
def wNX9_isHousehold : Nat := 103418109351803139985375290474821349032687198977854690463137942832115764430441506311384183274369859889770584408858
theorem wX9_isHousehold_c : hz_cd cX9_isHousehold wNX9_isHousehold 47 := ⟨by decide +kernel, by decide +kernel⟩
theorem dX9_isHousehold_0 : decode cX9_isHousehold 0 = .ok (.iload_n 0, 1) := dw_26 wX9_isHousehold_c rfl
theorem dX9_isHousehold_1 : decode cX9_isHousehold 1 = .ok (.iconst 0, 1) := dw_3 wX9_isHousehold_c rfl
theorem dX9_isHousehold_2 : decode cX9_isHousehold 2 = .ok (.sipush 9999, 3) := dw_17 wX9_isHousehold_c 39 15 rfl rfl rfl
theorem dX9_isHousehold_5 : decode cX9_isHousehold 5 = .ok (.invokestatic 128, 3) := dw_184 wX9_isHousehold_c 0 128 rfl rfl
theorem dX9_isHousehold_8 : decode cX9_isHousehold 8 = .ok (.ifCond .eq 37, 3) := dw_153 wX9_isHousehold_c 0 37 rfl rfl rfl
theorem dX9_isHousehold_11 : decode cX9_isHousehold 11 = .ok (.iload_n 1, 1) := dw_27 wX9_isHousehold_c rfl
theorem dX9_isHousehold_12 : decode cX9_isHousehold 12 = .ok (.iconst 1, 1) := dw_4 wX9_isHousehold_c rfl
theorem dX9_isHousehold_13 : decode cX9_isHousehold 13 = .ok (.bipush 20, 2) := dw_16 wX9_isHousehold_c 20 rfl rfl rfl
theorem dX9_isHousehold_15 : decode cX9_isHousehold 15 = .ok (.invokestatic 128, 3) := dw_184 wX9_isHousehold_c 0 128 rfl rfl
theorem dX9_isHousehold_18 : decode cX9_isHousehold 18 = .ok (.ifCond .eq 27, 3) := dw_153 wX9_isHousehold_c 0 27 rfl rfl rfl
theorem dX9_isHousehold_21 : decode cX9_isHousehold 21 = .ok (.iload_n 2, 1) := dw_28 wX9_isHousehold_c rfl
theorem dX9_isHousehold_22 : decode cX9_isHousehold 22 = .ok (.iconst 0, 1) := dw_3 wX9_isHousehold_c rfl
theorem dX9_isHousehold_23 : decode cX9_isHousehold 23 = .ok (.bipush 99, 2) := dw_16 wX9_isHousehold_c 99 rfl rfl rfl
theorem dX9_isHousehold_25 : decode cX9_isHousehold 25 = .ok (.invokestatic 128, 3) := dw_184 wX9_isHousehold_c 0 128 rfl rfl
theorem dX9_isHousehold_28 : decode cX9_isHousehold 28 = .ok (.ifCond .eq 17, 3) := dw_153 wX9_isHousehold_c 0 17 rfl rfl rfl
theorem dX9_isHousehold_31 : decode cX9_isHousehold 31 = .ok (.iload_n 3, 1) := dw_29 wX9_isHousehold_c rfl
theorem dX9_isHousehold_32 : decode cX9_isHousehold 32 = .ok (.iconst 0, 1) := dw_3 wX9_isHousehold_c rfl
theorem dX9_isHousehold_33 : decode cX9_isHousehold 33 = .ok (.bipush 99, 2) := dw_16 wX9_isHousehold_c 99 rfl rfl rfl
theorem dX9_isHousehold_35 : decode cX9_isHousehold 35 = .ok (.invokestatic 128, 3) := dw_184 wX9_isHousehold_c 0 128 rfl rfl
theorem dX9_isHousehold_38 : decode cX9_isHousehold 38 = .ok (.ifCond .eq 7, 3) := dw_153 wX9_isHousehold_c 0 7 rfl rfl rfl
theorem dX9_isHousehold_41 : decode cX9_isHousehold 41 = .ok (.iconst 1, 1) := dw_4 wX9_isHousehold_c rfl
theorem dX9_isHousehold_42 : decode cX9_isHousehold 42 = .ok (.goto 4, 3) := dw_167 wX9_isHousehold_c 0 4 rfl rfl rfl
theorem dX9_isHousehold_45 : decode cX9_isHousehold 45 = .ok (.iconst 0, 1) := dw_3 wX9_isHousehold_c rfl
theorem dX9_isHousehold_46 : decode cX9_isHousehold 46 = .ok (.ireturn, 1) := dw_172 wX9_isHousehold_c rfl
theorem dX2_isDone_0 : decode cX2_isDone 0 = .ok (.iload_n 0, 1) := by decide +kernel
theorem dX2_isDone_1 : decode cX2_isDone 1 = .ok (.iconst (-1), 1) := by decide +kernel
theorem dX2_isDone_2 : decode cX2_isDone 2 = .ok (.if_icmp .eq 12, 3) := by decide +kernel
theorem dX2_isDone_5 : decode cX2_isDone 5 = .ok (.iload_n 0, 1) := by decide +kernel
theorem dX2_isDone_6 : decode cX2_isDone 6 = .ok (.iload_n 1, 1) := by decide +kernel
theorem dX2_isDone_7 : decode cX2_isDone 7 = .ok (.if_icmp .gt 7, 3) := by decide +kernel
theorem dX2_isDone_10 : decode cX2_isDone 10 = .ok (.iconst 1, 1) := by decide +kernel
theorem dX2_isDone_11 : decode cX2_isDone 11 = .ok (.goto 4, 3) := by decide +kernel
theorem dX2_isDone_14 : decode cX2_isDone 14 = .ok (.iconst 0, 1) := by decide +kernel
theorem dX2_isDone_15 : decode cX2_isDone 15 = .ok (.ireturn, 1) := by decide +kernel
theorem dX0_addProof_0 : decode cX0_addProof 0 = .ok (.aload_n 0, 1) := by decide +kernel
theorem dX0_addProof_1 : decode cX0_addProof 1 = .ok (.getfield 38, 3) := by decide +kernel
theorem dX0_addProof_4 : decode cX0_addProof 4 = .ok (.sipush 160, 3) := by decide +kernel
theorem dX0_addProof_7 : decode cX0_addProof 7 = .ok (.if_icmp .ge 23, 3) := by decide +kernel
theorem dX0_addProof_10 : decode cX0_addProof 10 = .ok (.aload_n 0, 1) := by decide +kernel
theorem dX0_addProof_11 : decode cX0_addProof 11 = .ok (.getfield 15, 3) := by decide +kernel
theorem dX0_addProof_14 : decode cX0_addProof 14 = .ok (.aload_n 0, 1) := by decide +kernel
theorem dX0_addProof_15 : decode cX0_addProof 15 = .ok (.getfield 38, 3) := by decide +kernel
theorem dX0_addProof_18 : decode cX0_addProof 18 = .ok (.iload_n 1, 1) := by decide +kernel
theorem dX0_addProof_19 : decode cX0_addProof 19 = .ok (.iastore, 1) := by decide +kernel
theorem dX0_addProof_20 : decode cX0_addProof 20 = .ok (.aload_n 0, 1) := by decide +kernel
theorem dX0_addProof_21 : decode cX0_addProof 21 = .ok (.dup, 1) := by decide +kernel
theorem dX0_addProof_22 : decode cX0_addProof 22 = .ok (.getfield 38, 3) := by decide +kernel
theorem dX0_addProof_25 : decode cX0_addProof 25 = .ok (.iconst 1, 1) := by decide +kernel
theorem dX0_addProof_26 : decode cX0_addProof 26 = .ok (.iadd, 1) := by decide +kernel
theorem dX0_addProof_27 : decode cX0_addProof 27 = .ok (.putfield 38, 3) := by decide +kernel
theorem dX0_addProof_30 : decode cX0_addProof 30 = .ok (.return_, 1) := by decide +kernel
theorem dX4_tell_0 : decode cX4_tell 0 = .ok (.aload_n 0, 1) := by decide +kernel
theorem dX4_tell_1 : decode cX4_tell 1 = .ok (.iload_n 1, 1) := by decide +kernel
theorem dX4_tell_2 : decode cX4_tell 2 = .ok (.putfield 21, 3) := by decide +kernel
theorem dX4_tell_5 : decode cX4_tell 5 = .ok (.aload_n 0, 1) := by decide +kernel
theorem dX4_tell_6 : decode cX4_tell 6 = .ok (.iload_n 2, 1) := by decide +kernel
theorem dX4_tell_7 : decode cX4_tell 7 = .ok (.putfield 24, 3) := by decide +kernel
theorem dX4_tell_10 : decode cX4_tell 10 = .ok (.aload_n 0, 1) := by decide +kernel
theorem dX4_tell_11 : decode cX4_tell 11 = .ok (.iload_n 3, 1) := by decide +kernel
theorem dX4_tell_12 : decode cX4_tell 12 = .ok (.putfield 27, 3) := by decide +kernel
theorem dX4_tell_15 : decode cX4_tell 15 = .ok (.aload_n 0, 1) := by decide +kernel
theorem dX4_tell_16 : decode cX4_tell 16 = .ok (.iload 4, 2) := by decide +kernel
theorem dX4_tell_18 : decode cX4_tell 18 = .ok (.putfield 30, 3) := by decide +kernel
theorem dX4_tell_21 : decode cX4_tell 21 = .ok (.return_, 1) := by decide +kernel
def wNX2_isOnBench : Nat := 334161933760548910903231574857798947876352164035313591489003604206631589975947063899178
theorem wX2_isOnBench_c : hz_cd cX2_isOnBench wNX2_isOnBench 36 := ⟨by decide +kernel, by decide +kernel⟩
theorem dX2_isOnBench_0 : decode cX2_isOnBench 0 = .ok (.aload_n 0, 1) := dw_42 wX2_isOnBench_c rfl
theorem dX2_isOnBench_1 : decode cX2_isOnBench 1 = .ok (.getfield 15, 3) := dw_180 wX2_isOnBench_c 0 15 rfl rfl
theorem dX2_isOnBench_4 : decode cX2_isOnBench 4 = .ok (.iconst 0, 1) := dw_3 wX2_isOnBench_c rfl
theorem dX2_isOnBench_5 : decode cX2_isOnBench 5 = .ok (.iaload, 1) := dw_46 wX2_isOnBench_c rfl
theorem dX2_isOnBench_6 : decode cX2_isOnBench 6 = .ok (.iload_n 1, 1) := dw_27 wX2_isOnBench_c rfl
theorem dX2_isOnBench_7 : decode cX2_isOnBench 7 = .ok (.if_icmp .eq 23, 3) := dw_159 wX2_isOnBench_c 0 23 rfl rfl rfl
theorem dX2_isOnBench_10 : decode cX2_isOnBench 10 = .ok (.aload_n 0, 1) := dw_42 wX2_isOnBench_c rfl
theorem dX2_isOnBench_11 : decode cX2_isOnBench 11 = .ok (.getfield 15, 3) := dw_180 wX2_isOnBench_c 0 15 rfl rfl
theorem dX2_isOnBench_14 : decode cX2_isOnBench 14 = .ok (.iconst 1, 1) := dw_4 wX2_isOnBench_c rfl
theorem dX2_isOnBench_15 : decode cX2_isOnBench 15 = .ok (.iaload, 1) := dw_46 wX2_isOnBench_c rfl
theorem dX2_isOnBench_16 : decode cX2_isOnBench 16 = .ok (.iload_n 1, 1) := dw_27 wX2_isOnBench_c rfl
theorem dX2_isOnBench_17 : decode cX2_isOnBench 17 = .ok (.if_icmp .eq 13, 3) := dw_159 wX2_isOnBench_c 0 13 rfl rfl rfl
theorem dX2_isOnBench_20 : decode cX2_isOnBench 20 = .ok (.aload_n 0, 1) := dw_42 wX2_isOnBench_c rfl
theorem dX2_isOnBench_21 : decode cX2_isOnBench 21 = .ok (.getfield 15, 3) := dw_180 wX2_isOnBench_c 0 15 rfl rfl
theorem dX2_isOnBench_24 : decode cX2_isOnBench 24 = .ok (.iconst 2, 1) := dw_5 wX2_isOnBench_c rfl
theorem dX2_isOnBench_25 : decode cX2_isOnBench 25 = .ok (.iaload, 1) := dw_46 wX2_isOnBench_c rfl
theorem dX2_isOnBench_26 : decode cX2_isOnBench 26 = .ok (.iload_n 1, 1) := dw_27 wX2_isOnBench_c rfl
theorem dX2_isOnBench_27 : decode cX2_isOnBench 27 = .ok (.if_icmp .ne 7, 3) := dw_160 wX2_isOnBench_c 0 7 rfl rfl rfl
theorem dX2_isOnBench_30 : decode cX2_isOnBench 30 = .ok (.iconst 1, 1) := dw_4 wX2_isOnBench_c rfl
theorem dX2_isOnBench_31 : decode cX2_isOnBench 31 = .ok (.goto 4, 3) := dw_167 wX2_isOnBench_c 0 4 rfl rfl rfl
theorem dX2_isOnBench_34 : decode cX2_isOnBench 34 = .ok (.iconst 0, 1) := dw_3 wX2_isOnBench_c rfl
theorem dX2_isOnBench_35 : decode cX2_isOnBench 35 = .ok (.ireturn, 1) := dw_172 wX2_isOnBench_c rfl
set_option maxHeartbeats 4000000 in
set_option maxRecDepth 100000 in
theorem t_X2_isOnBench (l : Launch) (dC : Nat → ClassId) (dI : Nat → Nat → Nat) (dA : Nat → ClassId) (L : List Nat) (h : hx_h) (sz : Nat) (x : Nat) (i1 : Int32) (hT : hx_T T_tb L h) (gx : hx_g L h x 2)  : Met l yX2_isOnBench (Cond.code yX2_isOnBench cX2_isOnBench 2 (some .boolean) :: hx_all) ({ frames := 0, cells := 0, slots := 0, locals := 0 }) (va_Pc [.ref x, .int i1] (hx_B T_tb (P_ty dA) (dC, dI) vwCl L h sz)) (va_Qi (fun (r : Int32) (u : List Nat × hx_h) => (r.toInt = 0 ∨ r.toInt = 1) ∧ hx_T T_tb u.1 u.2 ∧ hx_S T_tb [] L h u.1 u.2) (hx_E T_tb (P_ty dA) (dC, dI) vwCl (hx_A L sz)) (hx_A L sz)) 0 0 (hx_A L sz) := by
  refine hx_met (lv := [(0, .ref x), (1, .int i1)]) (by decide +kernel) rfl (Nat.le_of_ble_eq_true rfl) rfl ?_
  intro p e s m below meth c hx hb hml hr hlk hts0 hown hin hsz hW ls hl
  have hts : ∀ w ∈ hx_all, w.before _ s = true := fun w hw => hts0 w (List.mem_cons_of_mem _ hw)
  have hown : s.vm.findClass "SmallCourt$Claim" = some m.cls := hown
  have hM : hx_S T_tb [] L h L h := hx_S.rf
  refine lv_aload_n hx hb dX2_isOnBench_0 rfl (lv_at hl 0 rfl) ?_
  refine hx_getn hx hb hts hC_2 hown hW hT gx tt_2 5 (by decide) rfl kw_739 ⟨rfl, rfl, rfl⟩ dX2_isOnBench_1 (fun q_1 fq_1 gq_1 => ?_)
  refine lv_iconst (v := 0) hx hb dX2_isOnBench_4 (by decide) ?_
  refine hx_iald hx hb hW hT gq_1 tt_21 rfl (by decide) dX2_isOnBench_5 (fun x_2 ex_2 lx_2 ux_2 => ?_)
  refine lv_iload_n hx hb dX2_isOnBench_6 rfl (lv_at hl 1 rfl) ?_
  refine hb_icmp_eq (zx := x_2.toInt) (zy := i1.toInt) (tgt := 30) hx hb rfl rfl dX2_isOnBench_7 (by decide) (fun c_3 => ?_) (fun c_3 => ?_)
  · skip
    refine lv_iconst (v := 1) hx hb dX2_isOnBench_30 (by decide) ?_
    refine lv_goto (tgt := 35) hx hb dX2_isOnBench_31 (by decide) ?_
    exact hx_retz hx hb hr rfl hlk hW ⟨(by decide), hT, hM⟩ dX2_isOnBench_35
  · skip
    refine lv_aload_n hx hb dX2_isOnBench_10 rfl (lv_at hl 0 rfl) ?_
    refine hk_getr hx hb hts hC_2 hown hW gx tt_2 5 (by decide) rfl kw_739 ⟨rfl, rfl, rfl⟩ fq_1 dX2_isOnBench_11 ?_
    refine lv_iconst (v := 1) hx hb dX2_isOnBench_14 (by decide) ?_
    refine hx_iald hx hb hW hT gq_1 tt_21 rfl (by decide) dX2_isOnBench_15 (fun x_4 ex_4 lx_4 ux_4 => ?_)
    refine lv_iload_n hx hb dX2_isOnBench_16 rfl (lv_at hl 1 rfl) ?_
    refine hb_icmp_eq (zx := x_4.toInt) (zy := i1.toInt) (tgt := 30) hx hb rfl rfl dX2_isOnBench_17 (by decide) (fun c_5 => ?_) (fun c_5 => ?_)
    · skip
      refine lv_iconst (v := 1) hx hb dX2_isOnBench_30 (by decide) ?_
      refine lv_goto (tgt := 35) hx hb dX2_isOnBench_31 (by decide) ?_
      exact hx_retz hx hb hr rfl hlk hW ⟨(by decide), hT, hM⟩ dX2_isOnBench_35
    · skip
      refine lv_aload_n hx hb dX2_isOnBench_20 rfl (lv_at hl 0 rfl) ?_
      refine hk_getr hx hb hts hC_2 hown hW gx tt_2 5 (by decide) rfl kw_739 ⟨rfl, rfl, rfl⟩ fq_1 dX2_isOnBench_21 ?_
      refine lv_iconst (v := 2) hx hb dX2_isOnBench_24 (by decide) ?_
      refine hx_iald hx hb hW hT gq_1 tt_21 rfl (by decide) dX2_isOnBench_25 (fun x_6 ex_6 lx_6 ux_6 => ?_)
      refine lv_iload_n hx hb dX2_isOnBench_26 rfl (lv_at hl 1 rfl) ?_
      refine hb_icmp_ne (zx := x_6.toInt) (zy := i1.toInt) (tgt := 34) hx hb rfl rfl dX2_isOnBench_27 (by decide) (fun c_7 => ?_) (fun c_7 => ?_)
      · skip
        refine lv_iconst (v := 0) hx hb dX2_isOnBench_34 (by decide) ?_
        exact hx_retz hx hb hr rfl hlk hW ⟨(by decide), hT, hM⟩ dX2_isOnBench_35
      · skip
        refine lv_iconst (v := 1) hx hb dX2_isOnBench_30 (by decide) ?_
        refine lv_goto (tgt := 35) hx hb dX2_isOnBench_31 (by decide) ?_
        exact hx_retz hx hb hr rfl hlk hW ⟨(by decide), hT, hM⟩ dX2_isOnBench_35

def wNX5_addOpen : Nat := 9276994135897999559303478370265213130622066312182869578897217734200745184385363268084961038199966799637989678573233682167865459246256721462071381352035370
theorem wX5_addOpen_c : hz_cd cX5_addOpen wNX5_addOpen 64 := ⟨by decide +kernel, by decide +kernel⟩
theorem dX5_addOpen_0 : decode cX5_addOpen 0 = .ok (.aload_n 0, 1) := dw_42 wX5_addOpen_c rfl
theorem dX5_addOpen_1 : decode cX5_addOpen 1 = .ok (.getfield 33, 3) := dw_180 wX5_addOpen_c 0 33 rfl rfl
theorem dX5_addOpen_4 : decode cX5_addOpen 4 = .ok (.iconst 4, 1) := dw_7 wX5_addOpen_c rfl
theorem dX5_addOpen_5 : decode cX5_addOpen 5 = .ok (.if_icmp .ge 58, 3) := dw_162 wX5_addOpen_c 0 58 rfl rfl rfl
theorem dX5_addOpen_8 : decode cX5_addOpen 8 = .ok (.aload_n 0, 1) := dw_42 wX5_addOpen_c rfl
theorem dX5_addOpen_9 : decode cX5_addOpen 9 = .ok (.getfield 21, 3) := dw_180 wX5_addOpen_c 0 21 rfl rfl
theorem dX5_addOpen_12 : decode cX5_addOpen 12 = .ok (.aload_n 0, 1) := dw_42 wX5_addOpen_c rfl
theorem dX5_addOpen_13 : decode cX5_addOpen 13 = .ok (.getfield 33, 3) := dw_180 wX5_addOpen_c 0 33 rfl rfl
theorem dX5_addOpen_16 : decode cX5_addOpen 16 = .ok (.aload_n 1, 1) := dw_43 wX5_addOpen_c rfl
theorem dX5_addOpen_17 : decode cX5_addOpen 17 = .ok (.getfield 43, 3) := dw_180 wX5_addOpen_c 0 43 rfl rfl
theorem dX5_addOpen_20 : decode cX5_addOpen 20 = .ok (.iastore, 1) := dw_79 wX5_addOpen_c rfl
theorem dX5_addOpen_21 : decode cX5_addOpen 21 = .ok (.aload_n 0, 1) := dw_42 wX5_addOpen_c rfl
theorem dX5_addOpen_22 : decode cX5_addOpen 22 = .ok (.getfield 24, 3) := dw_180 wX5_addOpen_c 0 24 rfl rfl
theorem dX5_addOpen_25 : decode cX5_addOpen 25 = .ok (.aload_n 0, 1) := dw_42 wX5_addOpen_c rfl
theorem dX5_addOpen_26 : decode cX5_addOpen 26 = .ok (.getfield 33, 3) := dw_180 wX5_addOpen_c 0 33 rfl rfl
theorem dX5_addOpen_29 : decode cX5_addOpen 29 = .ok (.iload_n 2, 1) := dw_28 wX5_addOpen_c rfl
theorem dX5_addOpen_30 : decode cX5_addOpen 30 = .ok (.iastore, 1) := dw_79 wX5_addOpen_c rfl
theorem dX5_addOpen_31 : decode cX5_addOpen 31 = .ok (.aload_n 0, 1) := dw_42 wX5_addOpen_c rfl
theorem dX5_addOpen_32 : decode cX5_addOpen 32 = .ok (.getfield 27, 3) := dw_180 wX5_addOpen_c 0 27 rfl rfl
theorem dX5_addOpen_35 : decode cX5_addOpen 35 = .ok (.aload_n 0, 1) := dw_42 wX5_addOpen_c rfl
theorem dX5_addOpen_36 : decode cX5_addOpen 36 = .ok (.getfield 33, 3) := dw_180 wX5_addOpen_c 0 33 rfl rfl
theorem dX5_addOpen_39 : decode cX5_addOpen 39 = .ok (.aload_n 1, 1) := dw_43 wX5_addOpen_c rfl
theorem dX5_addOpen_40 : decode cX5_addOpen 40 = .ok (.getfield 48, 3) := dw_180 wX5_addOpen_c 0 48 rfl rfl
theorem dX5_addOpen_43 : decode cX5_addOpen 43 = .ok (.getfield 52, 3) := dw_180 wX5_addOpen_c 0 52 rfl rfl
theorem dX5_addOpen_46 : decode cX5_addOpen 46 = .ok (.iconst 3, 1) := dw_6 wX5_addOpen_c rfl
theorem dX5_addOpen_47 : decode cX5_addOpen 47 = .ok (.iaload, 1) := dw_46 wX5_addOpen_c rfl
theorem dX5_addOpen_48 : decode cX5_addOpen 48 = .ok (.iload_n 2, 1) := dw_28 wX5_addOpen_c rfl
theorem dX5_addOpen_49 : decode cX5_addOpen 49 = .ok (.invokestatic 57, 3) := dw_184 wX5_addOpen_c 0 57 rfl rfl
theorem dX5_addOpen_52 : decode cX5_addOpen 52 = .ok (.iastore, 1) := dw_79 wX5_addOpen_c rfl
theorem dX5_addOpen_53 : decode cX5_addOpen 53 = .ok (.aload_n 0, 1) := dw_42 wX5_addOpen_c rfl
theorem dX5_addOpen_54 : decode cX5_addOpen 54 = .ok (.dup, 1) := dw_89 wX5_addOpen_c rfl
theorem dX5_addOpen_55 : decode cX5_addOpen 55 = .ok (.getfield 33, 3) := dw_180 wX5_addOpen_c 0 33 rfl rfl
theorem dX5_addOpen_58 : decode cX5_addOpen 58 = .ok (.iconst 1, 1) := dw_4 wX5_addOpen_c rfl
theorem dX5_addOpen_59 : decode cX5_addOpen 59 = .ok (.iadd, 1) := dw_96 wX5_addOpen_c rfl
theorem dX5_addOpen_60 : decode cX5_addOpen 60 = .ok (.putfield 33, 3) := dw_181 wX5_addOpen_c 0 33 rfl rfl
theorem dX5_addOpen_63 : decode cX5_addOpen 63 = .ok (.return_, 1) := dw_177 wX5_addOpen_c rfl
theorem dX4_meansBy_0 : decode cX4_meansBy 0 = .ok (.aload_n 0, 1) := by decide +kernel
theorem dX4_meansBy_1 : decode cX4_meansBy 1 = .ok (.getfield 21, 3) := by decide +kernel
theorem dX4_meansBy_4 : decode cX4_meansBy 4 = .ok (.aload_n 1, 1) := by decide +kernel
theorem dX4_meansBy_5 : decode cX4_meansBy 5 = .ok (.getfield 33, 3) := by decide +kernel
theorem dX4_meansBy_8 : decode cX4_meansBy 8 = .ok (.iconst 4, 1) := by decide +kernel
theorem dX4_meansBy_9 : decode cX4_meansBy 9 = .ok (.iaload, 1) := by decide +kernel
theorem dX4_meansBy_10 : decode cX4_meansBy 10 = .ok (.aload_n 0, 1) := by decide +kernel
theorem dX4_meansBy_11 : decode cX4_meansBy 11 = .ok (.getfield 24, 3) := by decide +kernel
theorem dX4_meansBy_14 : decode cX4_meansBy 14 = .ok (.imul, 1) := by decide +kernel
theorem dX4_meansBy_15 : decode cX4_meansBy 15 = .ok (.isub, 1) := by decide +kernel
theorem dX4_meansBy_16 : decode cX4_meansBy 16 = .ok (.ireturn, 1) := by decide +kernel
def wNX2_costsBy : Nat := 5609617125142696553029147605886465675698549055834129518617025394332553060406323033773382349866
theorem wX2_costsBy_c : hz_cd cX2_costsBy wNX2_costsBy 39 := ⟨by decide +kernel, by decide +kernel⟩
theorem dX2_costsBy_0 : decode cX2_costsBy 0 = .ok (.aload_n 0, 1) := dw_42 wX2_costsBy_c rfl
theorem dX2_costsBy_1 : decode cX2_costsBy 1 = .ok (.getfield 48, 3) := dw_180 wX2_costsBy_c 0 48 rfl rfl
theorem dX2_costsBy_4 : decode cX2_costsBy 4 = .ok (.aload_n 1, 1) := dw_43 wX2_costsBy_c rfl
theorem dX2_costsBy_5 : decode cX2_costsBy 5 = .ok (.getfield 51, 3) := dw_180 wX2_costsBy_c 0 51 rfl rfl
theorem dX2_costsBy_8 : decode cX2_costsBy 8 = .ok (.bipush 10, 2) := dw_16 wX2_costsBy_c 10 rfl rfl rfl
theorem dX2_costsBy_10 : decode cX2_costsBy 10 = .ok (.iaload, 1) := dw_46 wX2_costsBy_c rfl
theorem dX2_costsBy_11 : decode cX2_costsBy 11 = .ok (.imul, 1) := dw_104 wX2_costsBy_c rfl
theorem dX2_costsBy_12 : decode cX2_costsBy 12 = .ok (.aload_n 1, 1) := dw_43 wX2_costsBy_c rfl
theorem dX2_costsBy_13 : decode cX2_costsBy 13 = .ok (.getfield 51, 3) := dw_180 wX2_costsBy_c 0 51 rfl rfl
theorem dX2_costsBy_16 : decode cX2_costsBy 16 = .ok (.bipush 11, 2) := dw_16 wX2_costsBy_c 11 rfl rfl rfl
theorem dX2_costsBy_18 : decode cX2_costsBy 18 = .ok (.iaload, 1) := dw_46 wX2_costsBy_c rfl
theorem dX2_costsBy_19 : decode cX2_costsBy 19 = .ok (.iadd, 1) := dw_96 wX2_costsBy_c rfl
theorem dX2_costsBy_20 : decode cX2_costsBy 20 = .ok (.istore_n 3, 1) := dw_62 wX2_costsBy_c rfl
theorem dX2_costsBy_21 : decode cX2_costsBy 21 = .ok (.iload_n 2, 1) := dw_28 wX2_costsBy_c rfl
theorem dX2_costsBy_22 : decode cX2_costsBy 22 = .ok (.ifCond .eq 15, 3) := dw_153 wX2_costsBy_c 0 15 rfl rfl rfl
theorem dX2_costsBy_25 : decode cX2_costsBy 25 = .ok (.iload_n 3, 1) := dw_29 wX2_costsBy_c rfl
theorem dX2_costsBy_26 : decode cX2_costsBy 26 = .ok (.aload_n 1, 1) := dw_43 wX2_costsBy_c rfl
theorem dX2_costsBy_27 : decode cX2_costsBy 27 = .ok (.getfield 51, 3) := dw_180 wX2_costsBy_c 0 51 rfl rfl
theorem dX2_costsBy_30 : decode cX2_costsBy 30 = .ok (.bipush 12, 2) := dw_16 wX2_costsBy_c 12 rfl rfl rfl
theorem dX2_costsBy_32 : decode cX2_costsBy 32 = .ok (.iaload, 1) := dw_46 wX2_costsBy_c rfl
theorem dX2_costsBy_33 : decode cX2_costsBy 33 = .ok (.iadd, 1) := dw_96 wX2_costsBy_c rfl
theorem dX2_costsBy_34 : decode cX2_costsBy 34 = .ok (.goto 4, 3) := dw_167 wX2_costsBy_c 0 4 rfl rfl rfl
theorem dX2_costsBy_37 : decode cX2_costsBy 37 = .ok (.iload_n 3, 1) := dw_29 wX2_costsBy_c rfl
theorem dX2_costsBy_38 : decode cX2_costsBy 38 = .ok (.ireturn, 1) := dw_172 wX2_costsBy_c rfl