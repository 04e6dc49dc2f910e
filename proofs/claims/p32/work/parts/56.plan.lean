
set_option maxHeartbeats 4000000 in
set_option maxRecDepth 100000 in
theorem t_X10_ruleOf_2 (l : Launch) (dC : Nat → ClassId) (dI : Nat → Nat → Nat) (dA : Nat → ClassId) (L : List Nat) (h : hx_h) (sz : Nat) (x : Nat) (i1 : Int32) (i2 : Int32) (hT : hx_T T_tb L h) (gx : hx_g L h x 10) (ql : Nat) (gql : hx_g L h ql 50) (f_x_3 : h.2.2 x 3 = some ql) (rf : Nat → Int32) (af_ql : h.2.1 ql = rf) (hi1 : 0 ≤ i1.toInt ∧ i1.toInt ≤ 8) (hi2 : 0 ≤ i2.toInt ∧ i2.toInt ≤ 12) : Met l yX10_ruleOf (Cond.code yX10_ruleOf cX10_ruleOf 3 (some .int) :: hx_all) ({ frames := 0, cells := 0, slots := 0, locals := 0 }) (va_Pc [.ref x, .int i1, .int i2] (hx_B T_tb (P_ty dA) (dC, dI) vwCl L h sz)) (va_Qi (fun (r : Int32) (u : List Nat × hx_h) => (0 ≤ r.toInt ∧ r.toInt ≤ 9999 ∧ r = rf (13 * i1.toInt.toNat + i2.toInt.toNat)) ∧ hx_T T_tb u.1 u.2 ∧ hx_S T_tb [] L h u.1 u.2) (hx_E T_tb (P_ty dA) (dC, dI) vwCl (hx_A L sz)) (hx_A L sz)) 0 0 (hx_A L sz) := by
  refine hx_met (lv := [(0, .ref x), (1, .int i1), (2, .int i2)]) (by decide +kernel) rfl (Nat.le_of_ble_eq_true rfl) rfl ?_
  intro p e s m below meth c hx hb hml hr hlk hts0 hown hin hsz hW ls hl
  have hts : ∀ w ∈ hx_all, w.before _ s = true := fun w hw => hts0 w (List.mem_cons_of_mem _ hw)
  have hown : s.vm.findClass "SmallCourtModel" = some m.cls := hown
  have hM : hx_S T_tb [] L h L h := hx_S.rf
  refine lv_aload_n hx hb dX10_ruleOf_0 rfl (lv_at hl 0 rfl) ?_
  refine hk_getr hx hb hts hC_10 hown hW (gx.S hM) tt_10 3 ?o0 rfl kw_1146 ⟨rfl, rfl, rfl⟩ ((hM.o gx trivial rfl).2.trans f_x_3) dX10_ruleOf_1 ?_
  case o0 => decide
  refine lv_bipush (v := 13) hx hb dX10_ruleOf_4 ?o1 ?_
  case o1 => decide
  refine lv_iload_n hx hb dX10_ruleOf_6 rfl (lv_at hl 1 rfl) ?_
  refine lv_imul hx hb dX10_ruleOf_7 ?_
  refine lv_topi (fun x_1 ex_1 => ?_)
  have zx_1 : x_1.toInt = 13 * i1.toInt := ?o2
  case o2 =>
    rw [ex_1]
    refine i32_mul ?o3 rfl rfl ?o4 ?o5
    case o3 => decide
    case o4 => omega
    case o5 => omega
  refine lv_iload_n hx hb dX10_ruleOf_8 rfl (lv_at hl 2 rfl) ?_
  refine lv_iadd hx hb dX10_ruleOf_9 ?_
  have rg_2 := i32_r x_1
  have rg_3 := i32_r i2
  refine lv_topi (fun x_4 ex_4 => ?_)
  have zx_4 : x_4.toInt = x_1.toInt + i2.toInt := ?o6
  case o6 =>
    rw [ex_4]
    refine i32_add rfl rfl ?o7 ?o8
    case o7 => omega
    case o8 => omega
  refine hx_iald hx hb hW hT (gql.S hM) tt_50 rfl ⟨?o9, ?o10⟩ dX10_ruleOf_10 (fun x_5 ex_5 lx_5 ux_5 => ?_)
  case o9 => omega
  case o10 => omega
  have ax_5 : x_5 = rf x_4.toNatClampNeg := ex_5.trans (congrFun (hx_afS hM gql rfl af_ql) _)
  refine hx_reti hx hb hr hlk hW ⟨⟨?o11, ?o12, ax_5.trans (congrArg rf (by unfold Int32.toNatClampNeg; omega))⟩, hT, hM⟩ dX10_ruleOf_11
  case o11 => omega
  case o12 => omega

theorem dX10_weeksOf_0 : decode cX10_weeksOf 0 = .ok (.aload_n 0, 1) := by decide +kernel
theorem dX10_weeksOf_1 : decode cX10_weeksOf 1 = .ok (.getfield 177, 3) := by decide +kernel
theorem dX10_weeksOf_4 : decode cX10_weeksOf 4 = .ok (.iload_n 1, 1) := by decide +kernel
theorem dX10_weeksOf_5 : decode cX10_weeksOf 5 = .ok (.iaload, 1) := by decide +kernel
theorem dX10_weeksOf_6 : decode cX10_weeksOf 6 = .ok (.iload_n 2, 1) := by decide +kernel
theorem dX10_weeksOf_7 : decode cX10_weeksOf 7 = .ok (.iload_n 3, 1) := by decide +kernel
theorem dX10_weeksOf_8 : decode cX10_weeksOf 8 = .ok (.imul, 1) := by decide +kernel
theorem dX10_weeksOf_9 : decode cX10_weeksOf 9 = .ok (.iadd, 1) := by decide +kernel
theorem dX10_weeksOf_10 : decode cX10_weeksOf 10 = .ok (.istore 4, 2) := by decide +kernel
theorem dX10_weeksOf_12 : decode cX10_weeksOf 12 = .ok (.aload_n 0, 1) := by decide +kernel
theorem dX10_weeksOf_13 : decode cX10_weeksOf 13 = .ok (.getfield 174, 3) := by decide +kernel
theorem dX10_weeksOf_16 : decode cX10_weeksOf 16 = .ok (.iload_n 1, 1) := by decide +kernel
theorem dX10_weeksOf_17 : decode cX10_weeksOf 17 = .ok (.iaload, 1) := by decide +kernel
theorem dX10_weeksOf_18 : decode cX10_weeksOf 18 = .ok (.iload 4, 2) := by decide +kernel
theorem dX10_weeksOf_20 : decode cX10_weeksOf 20 = .ok (.iadd, 1) := by decide +kernel
theorem dX10_weeksOf_21 : decode cX10_weeksOf 21 = .ok (.iconst 1, 1) := by decide +kernel
theorem dX10_weeksOf_22 : decode cX10_weeksOf 22 = .ok (.isub, 1) := by decide +kernel
theorem dX10_weeksOf_23 : decode cX10_weeksOf 23 = .ok (.iload 4, 2) := by decide +kernel
theorem dX10_weeksOf_25 : decode cX10_weeksOf 25 = .ok (.idiv, 1) := by decide +kernel
theorem dX10_weeksOf_26 : decode cX10_weeksOf 26 = .ok (.ireturn, 1) := by decide +kernel
set_option maxHeartbeats 4000000 in
set_option maxRecDepth 100000 in
theorem t_X10_weeksOf (l : Launch) (dC : Nat → ClassId) (dI : Nat → Nat → Nat) (dA : Nat → ClassId) (L : List Nat) (h : hx_h) (sz : Nat) (x : Nat) (i1 : Int32) (i2 : Int32) (i3 : Int32) (hT : hx_T T_tb L h) (gx : hx_g L h x 10) (f0 : Int32) (f_x_75 : h.2.1 x 75 = f0) (hi1 : 0 ≤ i1.toInt ∧ i1.toInt < f0.toInt) (hi2 : 0 ≤ i2.toInt ∧ i2.toInt ≤ 12) (hi3 : 1 ≤ i3.toInt ∧ i3.toInt ≤ 99) (qf : Nat) (gqf : hx_g L h qf 104) (f_x_78 : h.2.2 x 78 = some qf) (pi_x_75 : ∀ j : Nat, (j : Int) < (h.2.1 x 75).toInt → 1 ≤ (h.2.1 qf j).toInt) : Met l yX10_weeksOf (Cond.code yX10_weeksOf cX10_weeksOf 5 (some .int) :: hx_all) ({ frames := 0, cells := 0, slots := 0, locals := 0 }) (va_Pc [.ref x, .int i1, .int i2, .int i3] (hx_B T_tb (P_ty dA) (dC, dI) vwCl L h sz)) (va_Qi (fun (r : Int32) (u : List Nat × hx_h) => (True) ∧ hx_T T_tb u.1 u.2 ∧ hx_S T_tb [] L h u.1 u.2) (hx_E T_tb (P_ty dA) (dC, dI) vwCl (hx_A L sz)) (hx_A L sz)) 0 0 (hx_A L sz) := by
  refine hx_met (lv := [(0, .ref x), (1, .int i1), (2, .int i2), (3, .int i3)]) (by decide +kernel) rfl (Nat.le_of_ble_eq_true rfl) rfl ?_
  intro p e s m below meth c hx hb hml hr hlk hts0 hown hin hsz hW ls hl
  have hts : ∀ w ∈ hx_all, w.before _ s = true := fun w hw => hts0 w (List.mem_cons_of_mem _ hw)
  have hown : s.vm.findClass "SmallCourtModel" = some m.cls := hown
  have hM : hx_S T_tb [] L h L h := hx_S.rf
  have b_f0 := hT.gi gx tt_10 (k := 75) rfl
  rw [f_x_75] at b_f0
  have b_f0 : 0 ≤ f0.toInt ∧ f0.toInt ≤ 4 := b_f0
  refine lv_aload_n hx hb dX10_weeksOf_0 rfl (lv_at hl 0 rfl) ?_
  refine hk_getr hx hb hts hC_10 hown hW (gx.S hM) tt_10 78 ?o0 rfl kw_1221 ⟨rfl, rfl, rfl⟩ ((hM.o gx trivial rfl).2.trans f_x_78) dX10_weeksOf_1 ?_
  case o0 => decide
  refine lv_iload_n hx hb dX10_weeksOf_4 rfl (lv_at hl 1 rfl) ?_
  refine hx_iald hx hb hW hT (gqf.S hM) tt_104 rfl ⟨?o1, ?o2⟩ dX10_weeksOf_5 (fun x_1 ex_1 lx_1 ux_1 => ?_)
  case o1 => omega
  case o2 => omega
  have px_1 : 1 ≤ x_1.toInt := ?o3
  case o3 =>
    rw [ex_1]
    exact pi_x_75 _ (by rw [((hM.o gx trivial rfl).1.trans f_x_75)]; exact hx_tnI (by omega) (by omega))
  refine lv_iload_n hx hb dX10_weeksOf_6 rfl (lv_at hl 2 rfl) ?_
  refine lv_iload_n hx hb dX10_weeksOf_7 rfl (lv_at hl 3 rfl) ?_
  refine lv_imul hx hb dX10_weeksOf_8 ?_
  refine lv_topi (fun x_2 ex_2 => ?_)
  have zx_2 : 0 ≤ x_2.toInt ∧ x_2.toInt ≤ 1188 := ?o4
  case o4 =>
    rw [ex_2]
    refine hx_mulb (A := 12) (B := 99) ?o5 ?o6 ?o7 ?o8 ?o9
    case o5 => omega
    case o6 => omega
    case o7 => omega
    case o8 => omega
    case o9 => decide
  refine lv_iadd hx hb dX10_weeksOf_9 ?_
  have rg_3 := i32_r x_1
  have rg_4 := i32_r x_2
  refine lv_topi (fun x_5 ex_5 => ?_)
  have zx_5 : x_5.toInt = x_1.toInt + x_2.toInt := ?o10
  case o10 =>
    rw [ex_5]
    refine i32_add rfl rfl ?o11 ?o12
    case o11 => omega
    case o12 => omega
  refine lv_istore (lv' := [(4, .int x_5), (0, .ref x), (1, .int i1), (2, .int i2), (3, .int i3)]) hx hb dX10_weeksOf_10 hl ?o13 rfl (fun ls hl => ?_)
  case o13 => decide
  refine lv_aload_n hx hb dX10_weeksOf_12 rfl (lv_at hl 1 rfl) ?_
  refine hx_getn hx hb hts hC_10 hown hW hT (gx.S hM) tt_10 77 ?o14 rfl kw_1220 ⟨rfl, rfl, rfl⟩ dX10_weeksOf_13 (fun q_6 fq_6 gq_6 => ?_)
  case o14 => decide
  refine lv_iload_n hx hb dX10_weeksOf_16 rfl (lv_at hl 2 rfl) ?_
  refine hx_iald hx hb hW hT gq_6 tt_103 rfl ⟨?o15, ?o16⟩ dX10_weeksOf_17 (fun x_7 ex_7 lx_7 ux_7 => ?_)
  case o15 => omega
  case o16 => omega
  refine lv_iload hx hb dX10_weeksOf_18 (lv_at hl 0 rfl) ?_
  refine lv_iadd hx hb dX10_weeksOf_20 ?_
  have rg_8 := i32_r x_7
  have rg_9 := i32_r x_5
  refine lv_topi (fun x_10 ex_10 => ?_)
  refine lv_iconst (v := 1) hx hb dX10_weeksOf_21 ?o17 ?_
  case o17 => decide
  refine lv_isub hx hb dX10_weeksOf_22 ?_
  have rg_11 := i32_r x_10
  refine lv_topi (fun x_12 ex_12 => ?_)
  refine lv_iload hx hb dX10_weeksOf_23 (lv_at hl 0 rfl) ?_
  refine lv_idiv hx hb dX10_weeksOf_25 (hx_ne0 ?o18) ?_
  case o18 => omega
  refine lv_topi (fun x_13 ex_13 => ?_)
  exact hx_reti hx hb hr hlk hW ⟨trivial, hT, hM⟩ dX10_weeksOf_26

def wNX10_plan : Nat := 262561038005215289767552208456793037325545967589197935550019451761172642780494932453543665110558174406611087459015676134520782371411733191055724713485986346413857372447593843214361941936669669304780532797969823554144228907294548323516562665724890304485354766194323820032000274351887737675721758642803553656824960324031709223749244663897182852249829463321823041462707120051033101464440593109113592956516159297709013891503062687189244108940068782151324612852052605882510892007111360575024402541750521783980287575757656268037236107199633559857885352695081454026907193953843193459062341943148827437471524664366596864880127186963783424555675695088445800483686113492861674146583397287425867708624689351163773640646675699182133521459802772194830856659142999109478020332297926439742351092019452209671116693751332317392658391169433700159492008391403812296970966579862491476831586013299266389579803387312261388608653016715007687205965295106898879573422420189485243951488607458489248696314713807300475367695077869023356330939644340830435836435347746003977724784953649150522190299819645650805420368348950135174847437559565062404787459234766821080174534594882504371556430603592049101979825023557240075871153824291148460316052126828780500922191313662917464367091531308083772131189383151613419854634
theorem wX10_plan_c : hz_cd cX10_plan wNX10_plan 533 := ⟨by decide +kernel, by decide +kernel⟩
theorem dX10_plan_0 : decode cX10_plan 0 = .ok (.aload_n 0, 1) := dw_42 wX10_plan_c rfl
theorem dX10_plan_1 : decode cX10_plan 1 = .ok (.iload_n 1, 1) := dw_27 wX10_plan_c rfl
theorem dX10_plan_2 : decode cX10_plan 2 = .ok (.invokevirtual 348, 3) := dw_182 wX10_plan_c 1 92 rfl rfl
theorem dX10_plan_5 : decode cX10_plan 5 = .ok (.ifCond .eq 13, 3) := dw_153 wX10_plan_c 0 13 rfl rfl rfl
theorem dX10_plan_8 : decode cX10_plan 8 = .ok (.iload_n 2, 1) := dw_28 wX10_plan_c rfl
theorem dX10_plan_9 : decode cX10_plan 9 = .ok (.iconst 1, 1) := dw_4 wX10_plan_c rfl
theorem dX10_plan_10 : decode cX10_plan 10 = .ok (.bipush 99, 2) := dw_16 wX10_plan_c 99 rfl rfl rfl
theorem dX10_plan_12 : decode cX10_plan 12 = .ok (.invokestatic 228, 3) := dw_184 wX10_plan_c 0 228 rfl rfl
theorem dX10_plan_15 : decode cX10_plan 15 = .ok (.ifCond .ne 5, 3) := dw_154 wX10_plan_c 0 5 rfl rfl rfl
theorem dX10_plan_18 : decode cX10_plan 18 = .ok (.iconst (-1), 1) := dw_2 wX10_plan_c rfl
theorem dX10_plan_19 : decode cX10_plan 19 = .ok (.ireturn, 1) := dw_172 wX10_plan_c rfl
theorem dX10_plan_20 : decode cX10_plan 20 = .ok (.aload_n 0, 1) := dw_42 wX10_plan_c rfl
theorem dX10_plan_21 : decode cX10_plan 21 = .ok (.iconst 0, 1) := dw_3 wX10_plan_c rfl
theorem dX10_plan_22 : decode cX10_plan 22 = .ok (.putfield 428, 3) := dw_181 wX10_plan_c 1 172 rfl rfl
theorem dX10_plan_25 : decode cX10_plan 25 = .ok (.iconst 0, 1) := dw_3 wX10_plan_c rfl
theorem dX10_plan_26 : decode cX10_plan 26 = .ok (.istore_n 3, 1) := dw_62 wX10_plan_c rfl
theorem dX10_plan_27 : decode cX10_plan 27 = .ok (.iload_n 3, 1) := dw_29 wX10_plan_c rfl
theorem dX10_plan_28 : decode cX10_plan 28 = .ok (.aload_n 0, 1) := dw_42 wX10_plan_c rfl
theorem dX10_plan_29 : decode cX10_plan 29 = .ok (.getfield 367, 3) := dw_180 wX10_plan_c 1 111 rfl rfl
theorem dX10_plan_32 : decode cX10_plan 32 = .ok (.if_icmp .ge 123, 3) := dw_162 wX10_plan_c 0 123 rfl rfl rfl
theorem dX10_plan_35 : decode cX10_plan 35 = .ok (.aload_n 0, 1) := dw_42 wX10_plan_c rfl
theorem dX10_plan_36 : decode cX10_plan 36 = .ok (.getfield 84, 3) := dw_180 wX10_plan_c 0 84 rfl rfl
theorem dX10_plan_39 : decode cX10_plan 39 = .ok (.iload_n 3, 1) := dw_29 wX10_plan_c rfl
theorem dX10_plan_40 : decode cX10_plan 40 = .ok (.iaload, 1) := dw_46 wX10_plan_c rfl
theorem dX10_plan_41 : decode cX10_plan 41 = .ok (.iload_n 1, 1) := dw_27 wX10_plan_c rfl
theorem dX10_plan_42 : decode cX10_plan 42 = .ok (.if_icmp .ne 107, 3) := dw_160 wX10_plan_c 0 107 rfl rfl rfl
theorem dX10_plan_45 : decode cX10_plan 45 = .ok (.aload_n 0, 1) := dw_42 wX10_plan_c rfl
theorem dX10_plan_46 : decode cX10_plan 46 = .ok (.iload_n 3, 1) := dw_29 wX10_plan_c rfl
theorem dX10_plan_47 : decode cX10_plan 47 = .ok (.invokevirtual 419, 3) := dw_182 wX10_plan_c 1 163 rfl rfl
theorem dX10_plan_50 : decode cX10_plan 50 = .ok (.ifCond .ne 6, 3) := dw_154 wX10_plan_c 0 6 rfl rfl rfl
theorem dX10_plan_53 : decode cX10_plan 53 = .ok (.goto 96, 3) := dw_167 wX10_plan_c 0 96 rfl rfl rfl
theorem dX10_plan_56 : decode cX10_plan 56 = .ok (.aload_n 0, 1) := dw_42 wX10_plan_c rfl
theorem dX10_plan_57 : decode cX10_plan 57 = .ok (.getfield 428, 3) := dw_180 wX10_plan_c 1 172 rfl rfl
theorem dX10_plan_60 : decode cX10_plan 60 = .ok (.iconst 4, 1) := dw_7 wX10_plan_c rfl
theorem dX10_plan_61 : decode cX10_plan 61 = .ok (.if_icmp .ne 5, 3) := dw_160 wX10_plan_c 0 5 rfl rfl rfl
theorem dX10_plan_64 : decode cX10_plan 64 = .ok (.iconst (-1), 1) := dw_2 wX10_plan_c rfl
theorem dX10_plan_65 : decode cX10_plan 65 = .ok (.ireturn, 1) := dw_172 wX10_plan_c rfl
theorem dX10_plan_66 : decode cX10_plan 66 = .ok (.aload_n 0, 1) := dw_42 wX10_plan_c rfl
theorem dX10_plan_67 : decode cX10_plan 67 = .ok (.aload_n 0, 1) := dw_42 wX10_plan_c rfl
theorem dX10_plan_68 : decode cX10_plan 68 = .ok (.getfield 102, 3) := dw_180 wX10_plan_c 0 102 rfl rfl
theorem dX10_plan_71 : decode cX10_plan 71 = .ok (.iload_n 3, 1) := dw_29 wX10_plan_c rfl
theorem dX10_plan_72 : decode cX10_plan 72 = .ok (.iaload, 1) := dw_46 wX10_plan_c rfl
theorem dX10_plan_73 : decode cX10_plan 73 = .ok (.iconst 2, 1) := dw_5 wX10_plan_c rfl
theorem dX10_plan_74 : decode cX10_plan 74 = .ok (.invokevirtual 333, 3) := dw_182 wX10_plan_c 1 77 rfl rfl
theorem dX10_plan_77 : decode cX10_plan 77 = .ok (.istore 4, 2) := dw_54 wX10_plan_c 4 rfl
theorem dX10_plan_79 : decode cX10_plan 79 = .ok (.aload_n 0, 1) := dw_42 wX10_plan_c rfl
theorem dX10_plan_80 : decode cX10_plan 80 = .ok (.getfield 171, 3) := dw_180 wX10_plan_c 0 171 rfl rfl
theorem dX10_plan_83 : decode cX10_plan 83 = .ok (.aload_n 0, 1) := dw_42 wX10_plan_c rfl
theorem dX10_plan_84 : decode cX10_plan 84 = .ok (.getfield 428, 3) := dw_180 wX10_plan_c 1 172 rfl rfl
theorem dX10_plan_87 : decode cX10_plan 87 = .ok (.iload_n 3, 1) := dw_29 wX10_plan_c rfl
theorem dX10_plan_88 : decode cX10_plan 88 = .ok (.iastore, 1) := dw_79 wX10_plan_c rfl
theorem dX10_plan_89 : decode cX10_plan 89 = .ok (.aload_n 0, 1) := dw_42 wX10_plan_c rfl
theorem dX10_plan_90 : decode cX10_plan 90 = .ok (.getfield 174, 3) := dw_180 wX10_plan_c 0 174 rfl rfl
theorem dX10_plan_93 : decode cX10_plan 93 = .ok (.aload_n 0, 1) := dw_42 wX10_plan_c rfl
theorem dX10_plan_94 : decode cX10_plan 94 = .ok (.getfield 428, 3) := dw_180 wX10_plan_c 1 172 rfl rfl
theorem dX10_plan_97 : decode cX10_plan 97 = .ok (.aload_n 0, 1) := dw_42 wX10_plan_c rfl
theorem dX10_plan_98 : decode cX10_plan 98 = .ok (.getfield 401, 3) := dw_180 wX10_plan_c 1 145 rfl rfl
theorem dX10_plan_101 : decode cX10_plan 101 = .ok (.iastore, 1) := dw_79 wX10_plan_c rfl
theorem dX10_plan_102 : decode cX10_plan 102 = .ok (.aload_n 0, 1) := dw_42 wX10_plan_c rfl
theorem dX10_plan_103 : decode cX10_plan 103 = .ok (.getfield 177, 3) := dw_180 wX10_plan_c 0 177 rfl rfl
theorem dX10_plan_106 : decode cX10_plan 106 = .ok (.aload_n 0, 1) := dw_42 wX10_plan_c rfl
theorem dX10_plan_107 : decode cX10_plan 107 = .ok (.getfield 428, 3) := dw_180 wX10_plan_c 1 172 rfl rfl
theorem dX10_plan_110 : decode cX10_plan 110 = .ok (.iload 4, 2) := dw_21 wX10_plan_c 4 rfl
theorem dX10_plan_112 : decode cX10_plan 112 = .ok (.aload_n 0, 1) := dw_42 wX10_plan_c rfl
theorem dX10_plan_113 : decode cX10_plan 113 = .ok (.getfield 401, 3) := dw_180 wX10_plan_c 1 145 rfl rfl
theorem dX10_plan_116 : decode cX10_plan 116 = .ok (.if_icmp .ge 8, 3) := dw_162 wX10_plan_c 0 8 rfl rfl rfl
theorem dX10_plan_119 : decode cX10_plan 119 = .ok (.iload 4, 2) := dw_21 wX10_plan_c 4 rfl
theorem dX10_plan_121 : decode cX10_plan 121 = .ok (.goto 7, 3) := dw_167 wX10_plan_c 0 7 rfl rfl rfl
theorem dX10_plan_124 : decode cX10_plan 124 = .ok (.aload_n 0, 1) := dw_42 wX10_plan_c rfl
theorem dX10_plan_125 : decode cX10_plan 125 = .ok (.getfield 401, 3) := dw_180 wX10_plan_c 1 145 rfl rfl
theorem dX10_plan_128 : decode cX10_plan 128 = .ok (.iastore, 1) := dw_79 wX10_plan_c rfl
theorem dX10_plan_129 : decode cX10_plan 129 = .ok (.aload_n 0, 1) := dw_42 wX10_plan_c rfl
theorem dX10_plan_130 : decode cX10_plan 130 = .ok (.getfield 180, 3) := dw_180 wX10_plan_c 0 180 rfl rfl
theorem dX10_plan_133 : decode cX10_plan 133 = .ok (.aload_n 0, 1) := dw_42 wX10_plan_c rfl
theorem dX10_plan_134 : decode cX10_plan 134 = .ok (.getfield 428, 3) := dw_180 wX10_plan_c 1 172 rfl rfl
theorem dX10_plan_137 : decode cX10_plan 137 = .ok (.iconst 0, 1) := dw_3 wX10_plan_c rfl
theorem dX10_plan_138 : decode cX10_plan 138 = .ok (.iastore, 1) := dw_79 wX10_plan_c rfl
theorem dX10_plan_139 : decode cX10_plan 139 = .ok (.aload_n 0, 1) := dw_42 wX10_plan_c rfl
theorem dX10_plan_140 : decode cX10_plan 140 = .ok (.dup, 1) := dw_89 wX10_plan_c rfl
theorem dX10_plan_141 : decode cX10_plan 141 = .ok (.getfield 428, 3) := dw_180 wX10_plan_c 1 172 rfl rfl
theorem dX10_plan_144 : decode cX10_plan 144 = .ok (.iconst 1, 1) := dw_4 wX10_plan_c rfl
theorem dX10_plan_145 : decode cX10_plan 145 = .ok (.iadd, 1) := dw_96 wX10_plan_c rfl
theorem dX10_plan_146 : decode cX10_plan 146 = .ok (.putfield 428, 3) := dw_181 wX10_plan_c 1 172 rfl rfl
theorem dX10_plan_149 : decode cX10_plan 149 = .ok (.iinc 3 1, 3) := dw_132 wX10_plan_c 3 1 rfl rfl rfl
theorem dX10_plan_152 : decode cX10_plan 152 = .ok (.goto (-125), 3) := dn_167 wX10_plan_c 255 131 rfl (by decide)
theorem dX10_plan_155 : decode cX10_plan 155 = .ok (.aload_n 0, 1) := dw_42 wX10_plan_c rfl
theorem dX10_plan_156 : decode cX10_plan 156 = .ok (.iload_n 1, 1) := dw_27 wX10_plan_c rfl
theorem dX10_plan_157 : decode cX10_plan 157 = .ok (.aload_n 0, 1) := dw_42 wX10_plan_c rfl
theorem dX10_plan_158 : decode cX10_plan 158 = .ok (.aload_n 0, 1) := dw_42 wX10_plan_c rfl
theorem dX10_plan_159 : decode cX10_plan 159 = .ok (.getfield 232, 3) := dw_180 wX10_plan_c 0 232 rfl rfl
theorem dX10_plan_162 : decode cX10_plan 162 = .ok (.invokevirtual 330, 3) := dw_182 wX10_plan_c 1 74 rfl rfl
theorem dX10_plan_165 : decode cX10_plan 165 = .ok (.invokevirtual 422, 3) := dw_182 wX10_plan_c 1 166 rfl rfl
theorem dX10_plan_168 : decode cX10_plan 168 = .ok (.istore_n 3, 1) := dw_62 wX10_plan_c rfl
theorem dX10_plan_169 : decode cX10_plan 169 = .ok (.aload_n 0, 1) := dw_42 wX10_plan_c rfl
theorem dX10_plan_170 : decode cX10_plan 170 = .ok (.getfield 428, 3) := dw_180 wX10_plan_c 1 172 rfl rfl
theorem dX10_plan_173 : decode cX10_plan 173 = .ok (.ifCond .ne 7, 3) := dw_154 wX10_plan_c 0 7 rfl rfl rfl
theorem dX10_plan_176 : decode cX10_plan 176 = .ok (.iconst 0, 1) := dw_3 wX10_plan_c rfl
theorem dX10_plan_177 : decode cX10_plan 177 = .ok (.goto 6, 3) := dw_167 wX10_plan_c 0 6 rfl rfl rfl
theorem dX10_plan_180 : decode cX10_plan 180 = .ok (.ldc_w 431, 3) := dw_19 wX10_plan_c 1 175 rfl rfl
theorem dX10_plan_183 : decode cX10_plan 183 = .ok (.istore 4, 2) := dw_54 wX10_plan_c 4 rfl
theorem dX10_plan_185 : decode cX10_plan 185 = .ok (.ldc_w 431, 3) := dw_19 wX10_plan_c 1 175 rfl rfl
theorem dX10_plan_188 : decode cX10_plan 188 = .ok (.istore 5, 2) := dw_54 wX10_plan_c 5 rfl
theorem dX10_plan_190 : decode cX10_plan 190 = .ok (.aload_n 0, 1) := dw_42 wX10_plan_c rfl
theorem dX10_plan_191 : decode cX10_plan 191 = .ok (.getfield 428, 3) := dw_180 wX10_plan_c 1 172 rfl rfl
theorem dX10_plan_194 : decode cX10_plan 194 = .ok (.ifCond .le 7, 3) := dw_158 wX10_plan_c 0 7 rfl rfl rfl
theorem dX10_plan_197 : decode cX10_plan 197 = .ok (.iconst 1, 1) := dw_4 wX10_plan_c rfl
theorem dX10_plan_198 : decode cX10_plan 198 = .ok (.goto 4, 3) := dw_167 wX10_plan_c 0 4 rfl rfl rfl
theorem dX10_plan_201 : decode cX10_plan 201 = .ok (.iconst 0, 1) := dw_3 wX10_plan_c rfl
theorem dX10_plan_202 : decode cX10_plan 202 = .ok (.istore 6, 2) := dw_54 wX10_plan_c 6 rfl
theorem dX10_plan_204 : decode cX10_plan 204 = .ok (.iload 6, 2) := dw_21 wX10_plan_c 6 rfl
theorem dX10_plan_206 : decode cX10_plan 206 = .ok (.ifCond .eq 228, 3) := dw_153 wX10_plan_c 0 228 rfl rfl rfl
theorem dX10_plan_209 : decode cX10_plan 209 = .ok (.iconst 0, 1) := dw_3 wX10_plan_c rfl
theorem dX10_plan_210 : decode cX10_plan 210 = .ok (.istore 7, 2) := dw_54 wX10_plan_c 7 rfl
theorem dX10_plan_212 : decode cX10_plan 212 = .ok (.iconst 0, 1) := dw_3 wX10_plan_c rfl
theorem dX10_plan_213 : decode cX10_plan 213 = .ok (.istore 8, 2) := dw_54 wX10_plan_c 8 rfl
theorem dX10_plan_215 : decode cX10_plan 215 = .ok (.iconst 0, 1) := dw_3 wX10_plan_c rfl
theorem dX10_plan_216 : decode cX10_plan 216 = .ok (.istore 9, 2) := dw_54 wX10_plan_c 9 rfl
theorem dX10_plan_218 : decode cX10_plan 218 = .ok (.iconst 0, 1) := dw_3 wX10_plan_c rfl
theorem dX10_plan_219 : decode cX10_plan 219 = .ok (.istore 10, 2) := dw_54 wX10_plan_c 10 rfl
theorem dX10_plan_221 : decode cX10_plan 221 = .ok (.iload 10, 2) := dw_21 wX10_plan_c 10 rfl
theorem dX10_plan_223 : decode cX10_plan 223 = .ok (.aload_n 0, 1) := dw_42 wX10_plan_c rfl
theorem dX10_plan_224 : decode cX10_plan 224 = .ok (.getfield 428, 3) := dw_180 wX10_plan_c 1 172 rfl rfl
theorem dX10_plan_227 : decode cX10_plan 227 = .ok (.if_icmp .ge 70, 3) := dw_162 wX10_plan_c 0 70 rfl rfl rfl
theorem dX10_plan_230 : decode cX10_plan 230 = .ok (.aload_n 0, 1) := dw_42 wX10_plan_c rfl
theorem dX10_plan_231 : decode cX10_plan 231 = .ok (.iload 10, 2) := dw_21 wX10_plan_c 10 rfl
theorem dX10_plan_233 : decode cX10_plan 233 = .ok (.aload_n 0, 1) := dw_42 wX10_plan_c rfl
theorem dX10_plan_234 : decode cX10_plan 234 = .ok (.getfield 180, 3) := dw_180 wX10_plan_c 0 180 rfl rfl
theorem dX10_plan_237 : decode cX10_plan 237 = .ok (.iload 10, 2) := dw_21 wX10_plan_c 10 rfl
theorem dX10_plan_239 : decode cX10_plan 239 = .ok (.iaload, 1) := dw_46 wX10_plan_c rfl
theorem dX10_plan_240 : decode cX10_plan 240 = .ok (.iload_n 2, 1) := dw_28 wX10_plan_c rfl
theorem dX10_plan_241 : decode cX10_plan 241 = .ok (.invokevirtual 432, 3) := dw_182 wX10_plan_c 1 176 rfl rfl
theorem dX10_plan_244 : decode cX10_plan 244 = .ok (.istore 11, 2) := dw_54 wX10_plan_c 11 rfl
theorem dX10_plan_246 : decode cX10_plan 246 = .ok (.iload 7, 2) := dw_21 wX10_plan_c 7 rfl
theorem dX10_plan_248 : decode cX10_plan 248 = .ok (.aload_n 0, 1) := dw_42 wX10_plan_c rfl
theorem dX10_plan_249 : decode cX10_plan 249 = .ok (.getfield 177, 3) := dw_180 wX10_plan_c 0 177 rfl rfl
theorem dX10_plan_252 : decode cX10_plan 252 = .ok (.iload 10, 2) := dw_21 wX10_plan_c 10 rfl
theorem dX10_plan_254 : decode cX10_plan 254 = .ok (.iaload, 1) := dw_46 wX10_plan_c rfl
theorem dX10_plan_255 : decode cX10_plan 255 = .ok (.aload_n 0, 1) := dw_42 wX10_plan_c rfl
theorem dX10_plan_256 : decode cX10_plan 256 = .ok (.getfield 180, 3) := dw_180 wX10_plan_c 0 180 rfl rfl
theorem dX10_plan_259 : decode cX10_plan 259 = .ok (.iload 10, 2) := dw_21 wX10_plan_c 10 rfl
theorem dX10_plan_261 : decode cX10_plan 261 = .ok (.iaload, 1) := dw_46 wX10_plan_c rfl
theorem dX10_plan_262 : decode cX10_plan 262 = .ok (.iload_n 2, 1) := dw_28 wX10_plan_c rfl
theorem dX10_plan_263 : decode cX10_plan 263 = .ok (.imul, 1) := dw_104 wX10_plan_c rfl
theorem dX10_plan_264 : decode cX10_plan 264 = .ok (.iadd, 1) := dw_96 wX10_plan_c rfl
theorem dX10_plan_265 : decode cX10_plan 265 = .ok (.iadd, 1) := dw_96 wX10_plan_c rfl
theorem dX10_plan_266 : decode cX10_plan 266 = .ok (.istore 7, 2) := dw_54 wX10_plan_c 7 rfl
theorem dX10_plan_268 : decode cX10_plan 268 = .ok (.iload 11, 2) := dw_21 wX10_plan_c 11 rfl
theorem dX10_plan_270 : decode cX10_plan 270 = .ok (.iload 8, 2) := dw_21 wX10_plan_c 8 rfl
theorem dX10_plan_272 : decode cX10_plan 272 = .ok (.if_icmp .le 8, 3) := dw_164 wX10_plan_c 0 8 rfl rfl rfl
theorem dX10_plan_275 : decode cX10_plan 275 = .ok (.iload 11, 2) := dw_21 wX10_plan_c 11 rfl
theorem dX10_plan_277 : decode cX10_plan 277 = .ok (.goto 5, 3) := dw_167 wX10_plan_c 0 5 rfl rfl rfl
theorem dX10_plan_280 : decode cX10_plan 280 = .ok (.iload 8, 2) := dw_21 wX10_plan_c 8 rfl
theorem dX10_plan_282 : decode cX10_plan 282 = .ok (.istore 8, 2) := dw_54 wX10_plan_c 8 rfl
theorem dX10_plan_284 : decode cX10_plan 284 = .ok (.iload 9, 2) := dw_21 wX10_plan_c 9 rfl
theorem dX10_plan_286 : decode cX10_plan 286 = .ok (.iload 11, 2) := dw_21 wX10_plan_c 11 rfl
theorem dX10_plan_288 : decode cX10_plan 288 = .ok (.iadd, 1) := dw_96 wX10_plan_c rfl
theorem dX10_plan_289 : decode cX10_plan 289 = .ok (.istore 9, 2) := dw_54 wX10_plan_c 9 rfl
theorem dX10_plan_291 : decode cX10_plan 291 = .ok (.iinc 10 1, 3) := dw_132 wX10_plan_c 10 1 rfl rfl rfl
theorem dX10_plan_294 : decode cX10_plan 294 = .ok (.goto (-73), 3) := dn_167 wX10_plan_c 255 183 rfl (by decide)
theorem dX10_plan_297 : decode cX10_plan 297 = .ok (.iload 7, 2) := dw_21 wX10_plan_c 7 rfl
theorem dX10_plan_299 : decode cX10_plan 299 = .ok (.iload_n 3, 1) := dw_29 wX10_plan_c rfl
theorem dX10_plan_300 : decode cX10_plan 300 = .ok (.if_icmp .gt 64, 3) := dw_163 wX10_plan_c 0 64 rfl rfl rfl
theorem dX10_plan_303 : decode cX10_plan 303 = .ok (.iload 8, 2) := dw_21 wX10_plan_c 8 rfl
theorem dX10_plan_305 : decode cX10_plan 305 = .ok (.iload 4, 2) := dw_21 wX10_plan_c 4 rfl
theorem dX10_plan_307 : decode cX10_plan 307 = .ok (.if_icmp .lt 17, 3) := dw_161 wX10_plan_c 0 17 rfl rfl rfl
theorem dX10_plan_310 : decode cX10_plan 310 = .ok (.iload 8, 2) := dw_21 wX10_plan_c 8 rfl
theorem dX10_plan_312 : decode cX10_plan 312 = .ok (.iload 4, 2) := dw_21 wX10_plan_c 4 rfl
theorem dX10_plan_314 : decode cX10_plan 314 = .ok (.if_icmp .ne 50, 3) := dw_160 wX10_plan_c 0 50 rfl rfl rfl
theorem dX10_plan_317 : decode cX10_plan 317 = .ok (.iload 9, 2) := dw_21 wX10_plan_c 9 rfl
theorem dX10_plan_319 : decode cX10_plan 319 = .ok (.iload 5, 2) := dw_21 wX10_plan_c 5 rfl
theorem dX10_plan_321 : decode cX10_plan 321 = .ok (.if_icmp .ge 43, 3) := dw_162 wX10_plan_c 0 43 rfl rfl rfl
theorem dX10_plan_324 : decode cX10_plan 324 = .ok (.iload 8, 2) := dw_21 wX10_plan_c 8 rfl
theorem dX10_plan_326 : decode cX10_plan 326 = .ok (.istore 4, 2) := dw_54 wX10_plan_c 4 rfl
theorem dX10_plan_328 : decode cX10_plan 328 = .ok (.iload 9, 2) := dw_21 wX10_plan_c 9 rfl
theorem dX10_plan_330 : decode cX10_plan 330 = .ok (.istore 5, 2) := dw_54 wX10_plan_c 5 rfl
theorem dX10_plan_332 : decode cX10_plan 332 = .ok (.iconst 0, 1) := dw_3 wX10_plan_c rfl
theorem dX10_plan_333 : decode cX10_plan 333 = .ok (.istore 10, 2) := dw_54 wX10_plan_c 10 rfl
theorem dX10_plan_335 : decode cX10_plan 335 = .ok (.iload 10, 2) := dw_21 wX10_plan_c 10 rfl
theorem dX10_plan_337 : decode cX10_plan 337 = .ok (.aload_n 0, 1) := dw_42 wX10_plan_c rfl
theorem dX10_plan_338 : decode cX10_plan 338 = .ok (.getfield 428, 3) := dw_180 wX10_plan_c 1 172 rfl rfl
theorem dX10_plan_341 : decode cX10_plan 341 = .ok (.if_icmp .ge 23, 3) := dw_162 wX10_plan_c 0 23 rfl rfl rfl
theorem dX10_plan_344 : decode cX10_plan 344 = .ok (.aload_n 0, 1) := dw_42 wX10_plan_c rfl
theorem dX10_plan_345 : decode cX10_plan 345 = .ok (.getfield 183, 3) := dw_180 wX10_plan_c 0 183 rfl rfl
theorem dX10_plan_348 : decode cX10_plan 348 = .ok (.iload 10, 2) := dw_21 wX10_plan_c 10 rfl
theorem dX10_plan_350 : decode cX10_plan 350 = .ok (.aload_n 0, 1) := dw_42 wX10_plan_c rfl
theorem dX10_plan_351 : decode cX10_plan 351 = .ok (.getfield 180, 3) := dw_180 wX10_plan_c 0 180 rfl rfl
theorem dX10_plan_354 : decode cX10_plan 354 = .ok (.iload 10, 2) := dw_21 wX10_plan_c 10 rfl
theorem dX10_plan_356 : decode cX10_plan 356 = .ok (.iaload, 1) := dw_46 wX10_plan_c rfl
theorem dX10_plan_357 : decode cX10_plan 357 = .ok (.iastore, 1) := dw_79 wX10_plan_c rfl
theorem dX10_plan_358 : decode cX10_plan 358 = .ok (.iinc 10 1, 3) := dw_132 wX10_plan_c 10 1 rfl rfl rfl
theorem dX10_plan_361 : decode cX10_plan 361 = .ok (.goto (-26), 3) := dn_167 wX10_plan_c 255 230 rfl (by decide)
theorem dX10_plan_364 : decode cX10_plan 364 = .ok (.aload_n 0, 1) := dw_42 wX10_plan_c rfl
theorem dX10_plan_365 : decode cX10_plan 365 = .ok (.getfield 428, 3) := dw_180 wX10_plan_c 1 172 rfl rfl
theorem dX10_plan_368 : decode cX10_plan 368 = .ok (.iconst 1, 1) := dw_4 wX10_plan_c rfl
theorem dX10_plan_369 : decode cX10_plan 369 = .ok (.isub, 1) := dw_100 wX10_plan_c rfl
theorem dX10_plan_370 : decode cX10_plan 370 = .ok (.istore 10, 2) := dw_54 wX10_plan_c 10 rfl
theorem dX10_plan_372 : decode cX10_plan 372 = .ok (.iload 10, 2) := dw_21 wX10_plan_c 10 rfl
theorem dX10_plan_374 : decode cX10_plan 374 = .ok (.ifCond .lt 29, 3) := dw_155 wX10_plan_c 0 29 rfl rfl rfl
theorem dX10_plan_377 : decode cX10_plan 377 = .ok (.aload_n 0, 1) := dw_42 wX10_plan_c rfl
theorem dX10_plan_378 : decode cX10_plan 378 = .ok (.getfield 180, 3) := dw_180 wX10_plan_c 0 180 rfl rfl
theorem dX10_plan_381 : decode cX10_plan 381 = .ok (.iload 10, 2) := dw_21 wX10_plan_c 10 rfl
theorem dX10_plan_383 : decode cX10_plan 383 = .ok (.iaload, 1) := dw_46 wX10_plan_c rfl
theorem dX10_plan_384 : decode cX10_plan 384 = .ok (.bipush 12, 2) := dw_16 wX10_plan_c 12 rfl rfl rfl
theorem dX10_plan_386 : decode cX10_plan 386 = .ok (.if_icmp .ne 17, 3) := dw_160 wX10_plan_c 0 17 rfl rfl rfl
theorem dX10_plan_389 : decode cX10_plan 389 = .ok (.aload_n 0, 1) := dw_42 wX10_plan_c rfl
theorem dX10_plan_390 : decode cX10_plan 390 = .ok (.getfield 180, 3) := dw_180 wX10_plan_c 0 180 rfl rfl
theorem dX10_plan_393 : decode cX10_plan 393 = .ok (.iload 10, 2) := dw_21 wX10_plan_c 10 rfl
theorem dX10_plan_395 : decode cX10_plan 395 = .ok (.iconst 0, 1) := dw_3 wX10_plan_c rfl
theorem dX10_plan_396 : decode cX10_plan 396 = .ok (.iastore, 1) := dw_79 wX10_plan_c rfl
theorem dX10_plan_397 : decode cX10_plan 397 = .ok (.iinc 10 (-1), 3) := dn_132 wX10_plan_c 10 255 rfl (by decide)
theorem dX10_plan_400 : decode cX10_plan 400 = .ok (.goto (-28), 3) := dn_167 wX10_plan_c 255 228 rfl (by decide)
theorem dX10_plan_403 : decode cX10_plan 403 = .ok (.iload 10, 2) := dw_21 wX10_plan_c 10 rfl
theorem dX10_plan_405 : decode cX10_plan 405 = .ok (.ifCond .lt 7, 3) := dw_155 wX10_plan_c 0 7 rfl rfl rfl
theorem dX10_plan_408 : decode cX10_plan 408 = .ok (.iconst 1, 1) := dw_4 wX10_plan_c rfl
theorem dX10_plan_409 : decode cX10_plan 409 = .ok (.goto 4, 3) := dw_167 wX10_plan_c 0 4 rfl rfl rfl
theorem dX10_plan_412 : decode cX10_plan 412 = .ok (.iconst 0, 1) := dw_3 wX10_plan_c rfl
theorem dX10_plan_413 : decode cX10_plan 413 = .ok (.istore 6, 2) := dw_54 wX10_plan_c 6 rfl
theorem dX10_plan_415 : decode cX10_plan 415 = .ok (.iload 6, 2) := dw_21 wX10_plan_c 6 rfl
theorem dX10_plan_417 : decode cX10_plan 417 = .ok (.ifCond .eq 14, 3) := dw_153 wX10_plan_c 0 14 rfl rfl rfl
theorem dX10_plan_420 : decode cX10_plan 420 = .ok (.aload_n 0, 1) := dw_42 wX10_plan_c rfl
theorem dX10_plan_421 : decode cX10_plan 421 = .ok (.getfield 180, 3) := dw_180 wX10_plan_c 0 180 rfl rfl
theorem dX10_plan_424 : decode cX10_plan 424 = .ok (.iload 10, 2) := dw_21 wX10_plan_c 10 rfl
theorem dX10_plan_426 : decode cX10_plan 426 = .ok (.dup2, 1) := dw_92 wX10_plan_c rfl
theorem dX10_plan_427 : decode cX10_plan 427 = .ok (.iaload, 1) := dw_46 wX10_plan_c rfl
theorem dX10_plan_428 : decode cX10_plan 428 = .ok (.iconst 1, 1) := dw_4 wX10_plan_c rfl
theorem dX10_plan_429 : decode cX10_plan 429 = .ok (.iadd, 1) := dw_96 wX10_plan_c rfl
theorem dX10_plan_430 : decode cX10_plan 430 = .ok (.iastore, 1) := dw_79 wX10_plan_c rfl
theorem dX10_plan_431 : decode cX10_plan 431 = .ok (.goto (-227), 3) := dn_167 wX10_plan_c 255 29 rfl (by decide)
theorem dX10_plan_434 : decode cX10_plan 434 = .ok (.iload 4, 2) := dw_21 wX10_plan_c 4 rfl
theorem dX10_plan_436 : decode cX10_plan 436 = .ok (.ldc_w 431, 3) := dw_19 wX10_plan_c 1 175 rfl rfl
theorem dX10_plan_439 : decode cX10_plan 439 = .ok (.if_icmp .ne 6, 3) := dw_160 wX10_plan_c 0 6 rfl rfl rfl
theorem dX10_plan_442 : decode cX10_plan 442 = .ok (.bipush (-2), 2) := dn_16 wX10_plan_c 254 rfl (by decide)
theorem dX10_plan_444 : decode cX10_plan 444 = .ok (.ireturn, 1) := dw_172 wX10_plan_c rfl
theorem dX10_plan_445 : decode cX10_plan 445 = .ok (.aload_n 0, 1) := dw_42 wX10_plan_c rfl
theorem dX10_plan_446 : decode cX10_plan 446 = .ok (.aload_n 0, 1) := dw_42 wX10_plan_c rfl
theorem dX10_plan_447 : decode cX10_plan 447 = .ok (.getfield 428, 3) := dw_180 wX10_plan_c 1 172 rfl rfl
theorem dX10_plan_450 : decode cX10_plan 450 = .ok (.putfield 435, 3) := dw_181 wX10_plan_c 1 179 rfl rfl
theorem dX10_plan_453 : decode cX10_plan 453 = .ok (.iconst 0, 1) := dw_3 wX10_plan_c rfl
theorem dX10_plan_454 : decode cX10_plan 454 = .ok (.istore 7, 2) := dw_54 wX10_plan_c 7 rfl
theorem dX10_plan_456 : decode cX10_plan 456 = .ok (.iload 7, 2) := dw_21 wX10_plan_c 7 rfl
theorem dX10_plan_458 : decode cX10_plan 458 = .ok (.aload_n 0, 1) := dw_42 wX10_plan_c rfl
theorem dX10_plan_459 : decode cX10_plan 459 = .ok (.getfield 428, 3) := dw_180 wX10_plan_c 1 172 rfl rfl
theorem dX10_plan_462 : decode cX10_plan 462 = .ok (.if_icmp .ge 68, 3) := dw_162 wX10_plan_c 0 68 rfl rfl rfl
theorem dX10_plan_465 : decode cX10_plan 465 = .ok (.aload_n 0, 1) := dw_42 wX10_plan_c rfl
theorem dX10_plan_466 : decode cX10_plan 466 = .ok (.getfield 165, 3) := dw_180 wX10_plan_c 0 165 rfl rfl
theorem dX10_plan_469 : decode cX10_plan 469 = .ok (.iload 7, 2) := dw_21 wX10_plan_c 7 rfl
theorem dX10_plan_471 : decode cX10_plan 471 = .ok (.aload_n 0, 1) := dw_42 wX10_plan_c rfl
theorem dX10_plan_472 : decode cX10_plan 472 = .ok (.getfield 171, 3) := dw_180 wX10_plan_c 0 171 rfl rfl
theorem dX10_plan_475 : decode cX10_plan 475 = .ok (.iload 7, 2) := dw_21 wX10_plan_c 7 rfl
theorem dX10_plan_477 : decode cX10_plan 477 = .ok (.iaload, 1) := dw_46 wX10_plan_c rfl
theorem dX10_plan_478 : decode cX10_plan 478 = .ok (.iastore, 1) := dw_79 wX10_plan_c rfl
theorem dX10_plan_479 : decode cX10_plan 479 = .ok (.aload_n 0, 1) := dw_42 wX10_plan_c rfl
theorem dX10_plan_480 : decode cX10_plan 480 = .ok (.getfield 168, 3) := dw_180 wX10_plan_c 0 168 rfl rfl
theorem dX10_plan_483 : decode cX10_plan 483 = .ok (.iload 7, 2) := dw_21 wX10_plan_c 7 rfl
theorem dX10_plan_485 : decode cX10_plan 485 = .ok (.aload_n 0, 1) := dw_42 wX10_plan_c rfl
theorem dX10_plan_486 : decode cX10_plan 486 = .ok (.getfield 177, 3) := dw_180 wX10_plan_c 0 177 rfl rfl
theorem dX10_plan_489 : decode cX10_plan 489 = .ok (.iload 7, 2) := dw_21 wX10_plan_c 7 rfl
theorem dX10_plan_491 : decode cX10_plan 491 = .ok (.iaload, 1) := dw_46 wX10_plan_c rfl
theorem dX10_plan_492 : decode cX10_plan 492 = .ok (.aload_n 0, 1) := dw_42 wX10_plan_c rfl
theorem dX10_plan_493 : decode cX10_plan 493 = .ok (.getfield 183, 3) := dw_180 wX10_plan_c 0 183 rfl rfl
theorem dX10_plan_496 : decode cX10_plan 496 = .ok (.iload 7, 2) := dw_21 wX10_plan_c 7 rfl
theorem dX10_plan_498 : decode cX10_plan 498 = .ok (.iaload, 1) := dw_46 wX10_plan_c rfl
theorem dX10_plan_499 : decode cX10_plan 499 = .ok (.iload_n 2, 1) := dw_28 wX10_plan_c rfl
theorem dX10_plan_500 : decode cX10_plan 500 = .ok (.imul, 1) := dw_104 wX10_plan_c rfl
theorem dX10_plan_501 : decode cX10_plan 501 = .ok (.iadd, 1) := dw_96 wX10_plan_c rfl
theorem dX10_plan_502 : decode cX10_plan 502 = .ok (.iastore, 1) := dw_79 wX10_plan_c rfl
theorem dX10_plan_503 : decode cX10_plan 503 = .ok (.aload_n 0, 1) := dw_42 wX10_plan_c rfl
theorem dX10_plan_504 : decode cX10_plan 504 = .ok (.getfield 186, 3) := dw_180 wX10_plan_c 0 186 rfl rfl
theorem dX10_plan_507 : decode cX10_plan 507 = .ok (.iload 7, 2) := dw_21 wX10_plan_c 7 rfl
theorem dX10_plan_509 : decode cX10_plan 509 = .ok (.aload_n 0, 1) := dw_42 wX10_plan_c rfl
theorem dX10_plan_510 : decode cX10_plan 510 = .ok (.iload 7, 2) := dw_21 wX10_plan_c 7 rfl
theorem dX10_plan_512 : decode cX10_plan 512 = .ok (.aload_n 0, 1) := dw_42 wX10_plan_c rfl
theorem dX10_plan_513 : decode cX10_plan 513 = .ok (.getfield 183, 3) := dw_180 wX10_plan_c 0 183 rfl rfl
theorem dX10_plan_516 : decode cX10_plan 516 = .ok (.iload 7, 2) := dw_21 wX10_plan_c 7 rfl
theorem dX10_plan_518 : decode cX10_plan 518 = .ok (.iaload, 1) := dw_46 wX10_plan_c rfl
theorem dX10_plan_519 : decode cX10_plan 519 = .ok (.iload_n 2, 1) := dw_28 wX10_plan_c rfl
theorem dX10_plan_520 : decode cX10_plan 520 = .ok (.invokevirtual 432, 3) := dw_182 wX10_plan_c 1 176 rfl rfl
theorem dX10_plan_523 : decode cX10_plan 523 = .ok (.iastore, 1) := dw_79 wX10_plan_c rfl
theorem dX10_plan_524 : decode cX10_plan 524 = .ok (.iinc 7 1, 3) := dw_132 wX10_plan_c 7 1 rfl rfl rfl
theorem dX10_plan_527 : decode cX10_plan 527 = .ok (.goto (-71), 3) := dn_167 wX10_plan_c 255 185 rfl (by decide)
theorem dX10_plan_530 : decode cX10_plan 530 = .ok (.iload 4, 2) := dw_21 wX10_plan_c 4 rfl
theorem dX10_plan_532 : decode cX10_plan 532 = .ok (.ireturn, 1) := dw_172 wX10_plan_c rfl
set_option maxHeartbeats 4000000 in
set_option maxRecDepth 100000 in
theorem t_X10_plan (l : Launch) (dC : Nat → ClassId) (dI : Nat → Nat → Nat) (dA : Nat → ClassId) (L : List Nat) (h : hx_h) (sz : Nat) (x : Nat) (i1 : Int32) (i2 : Int32) (hT : hx_T T_tb L h) (gx : hx_g L h x 10) (ql : Nat) (gql : hx_g L h ql 50) (f_x_3 : h.2.2 x 3 = some ql) (qc : Nat) (gqc : hx_g L h qc 79) (f_x_44 : h.2.2 x 44 = some qc) (qf : Nat) (gqf : hx_g L h qf 104) (f_x_78 : h.2.2 x 78 = some qf) (qm : Nat) (gqm : hx_g L h qm 105) (f_x_79 : h.2.2 x 79 = some qm) (rf : Nat → Int32) (af_ql : h.2.1 ql = rf) (plf : Nat → Int32) (af_qc : h.2.1 qc = plf) (a0 : Int32) (f_x_1 : h.2.1 x 1 = a0) (c0 : Int32) (f_x_36 : h.2.1 x 36 = c0) (hWK : hx_WK rf a0.toInt) (hPL : hx_PL plf c0.toInt a0.toInt) : Met l yX10_plan (Cond.code yX10_plan cX10_plan 12 (some .int) :: hx_all) ({ frames := 3, cells := 0, slots := 0, locals := 71 }) (va_Pc [.ref x, .int i1, .int i2] (hx_B T_tb (P_ty dA) (dC, dI) vwCl L h sz)) (va_Qi (fun (r : Int32) (u : List Nat × hx_h) => (True) ∧ hx_T T_tb u.1 u.2 ∧ hx_S T_tb [(10, 67), (10, 68), (10, 69), (10, 70), (10, 71), (10, 72), (10, 75), (100, 0), (101, 0), (102, 0), (103, 0), (104, 0), (105, 0), (106, 0), (107, 0)] L h u.1 u.2) (hx_E T_tb (P_ty dA) (dC, dI) vwCl (hx_A L sz)) (hx_A L sz)) 0 0 (hx_A L sz) := by
  refine hx_met (lv := [(0, .ref x), (1, .int i1), (2, .int i2)]) (by decide +kernel) rfl (Nat.le_of_ble_eq_true rfl) rfl ?_
  intro p e s m below meth c hx hb hml hr hlk hts0 hown hin hsz hW ls hl
  have hts : ∀ w ∈ hx_all, w.before _ s = true := fun w hw => hts0 w (List.mem_cons_of_mem _ hw)
  have hown : s.vm.findClass "SmallCourtModel" = some m.cls := hown
  have hM : hx_S T_tb [(10, 67), (10, 68), (10, 69), (10, 70), (10, 71), (10, 72), (10, 75), (100, 0), (101, 0), (102, 0), (103, 0), (104, 0), (105, 0), (106, 0), (107, 0)] L h L h := hx_S.rf
  have b_a0 := hT.gi gx tt_10 (k := 1) rfl
  rw [f_x_1] at b_a0
  have b_a0 : 0 ≤ a0.toInt ∧ a0.toInt ≤ 8 := b_a0
  have b_c0 := hT.gi gx tt_10 (k := 36) rfl
  rw [f_x_36] at b_c0
  have b_c0 : 0 ≤ c0.toInt ∧ c0.toInt ≤ 100 := b_c0
  refine lv_aload_n hx hb dX10_plan_0 rfl (lv_at hl 0 rfl) ?_
  refine lv_iload_n hx hb dX10_plan_1 rfl (lv_at hl 1 rfl) ?_
  obtain ⟨fv_1, efv_1⟩ : ∃ y : Int32, y = h.2.1 x 20 := ⟨_, rfl⟩
  have bfv_1 := hT.gi (gx.S hM) tt_10 (k := 20) rfl
  rw [← efv_1] at bfv_1
  have bfv_1 : 0 ≤ fv_1.toInt ∧ fv_1.toInt ≤ 40 := bfv_1
  have ffv_1 := efv_1.symm
  refine hx_goi (hx_runV (As := [.int i1]) (rest := []) ⟨hx, hb, hml, hown, hts⟩ hW (gx.S hM) tt_10 (T := TX10) (N := 98) rfl (t_X10_isPerson l dC dI dA L h s.heap.size x i1 hT (gx.S hM) fv_1 ffv_1) (cwV 1 hts (hx_gV kw_1552 kw_1549 kw_1551 kw_68 kw_103) rfl rfl rfl (by decide +kernel) ⟨Nat.le_of_ble_eq_true rfl, Nat.le_of_ble_eq_true rfl⟩) rfl hl.1 rfl (Nat.le_of_ble_eq_true rfl) dX10_plan_2 ⟨Nat.le_of_ble_eq_true rfl, Nat.le_of_ble_eq_true rfl⟩) hW (fun r_4 L_2 h_3 H locs p_5 hW => ?_)
  obtain ⟨hr_6, hT, hs⟩ := p_5
  replace hT : hx_T T_tb L_2 h_3 := hT
  replace hs : hx_S T_tb [] L h L_2 h_3 := hs
  replace ffv_1 := (hs.o (gx.S hM) trivial rfl).1.trans ffv_1
  replace hM := hM.tr (hs.mono ?o0)
  case o0 => decide
  refine hb_if_eq (zx := r_4.toInt) (tgt := 18) hx hb rfl dX10_plan_5 ?o1 (fun c_7 => ?_) (fun c_7 => ?_)
  case o1 => decide
  · skip
    replace hr_6 := hr_6.resolve_right (fun z9 => absurd (c_7.symm.trans z9.1) ?o2)
    case o2 => decide
    replace hr_6 := hr_6.2
    refine lv_iconst (v := -1) hx hb dX10_plan_18 ?o3 ?_
    case o3 => decide
    exact hx_reti hx hb hr hlk hW ⟨trivial, hT, hM⟩ dX10_plan_19
  · skip
    replace hr_6 := hr_6.resolve_left (fun z9 => c_7 z9.1)
    replace c_7 := hr_6.1
    replace hr_6 := hr_6.2
    refine lv_iload_n hx hb dX10_plan_8 rfl (lv_at hl 2 rfl) ?_
    refine lv_iconst (v := 1) hx hb dX10_plan_9 ?o4 ?_
    case o4 => decide
    refine lv_bipush (v := 99) hx hb dX10_plan_10 ?o5 ?_
    case o5 => decide
    have zc_99 : (99 : Int32).toInt = 99 := ?o6
    case o6 => decide
    have zc_1 : (1 : Int32).toInt = 1 := ?o7
    case o7 => decide
    refine hx_goi (hx_runS (As := [.int i2, .int (1 : Int32), .int (99 : Int32)]) (rest := []) ⟨hx, hb, hml, hown, hts⟩ hW (t_X10_in l dC dI dA L_2 h_3 H.size i2 (1 : Int32) (99 : Int32) hT) (va_cwS 3 hts (hx_gS kw_1445 kw_1443 kw_1444 kw_103) rfl rfl rfl (by decide +kernel) ⟨Nat.le_of_ble_eq_true rfl, Nat.le_of_ble_eq_true rfl⟩) rfl hl.1 rfl (Nat.le_of_ble_eq_true rfl) dX10_plan_12 ⟨Nat.le_of_ble_eq_true rfl, Nat.le_of_ble_eq_true rfl⟩) hW (fun r_10 L_8 h_9 H locs p_11 hW => ?_)
    obtain ⟨hr_12, hT, hs⟩ := p_11
    replace hT : hx_T T_tb L_8 h_9 := hT
    replace hs : hx_S T_tb [] L_2 h_3 L_8 h_9 := hs
    replace ffv_1 := (hs.o (gx.S hM) trivial rfl).1.trans ffv_1
    replace hM := hM.tr (hs.mono ?o8)
    case o8 => decide
    refine hb_if_ne (zx := r_10.toInt) (tgt := 20) hx hb rfl dX10_plan_15 ?o9 (fun c_13 => ?_) (fun c_13 => ?_)
    case o9 => decide
    · skip
      replace hr_12 := hr_12.resolve_left (fun z9 => c_13 z9.1)
      replace c_13 := hr_12.1
      replace hr_12 := hr_12.2
      refine lv_aload_n hx hb dX10_plan_20 rfl (lv_at hl 0 rfl) ?_
      refine lv_iconst (v := 0) hx hb dX10_plan_21 ?o10 ?_
      case o10 => decide
      refine hx_puti hx hb hts hC_10 hown hW hT (hx_S.rf (M := [(10, 75)])) (gx.S hM) tt_10 75 ?o11 rfl kw_1218 ⟨rfl, rfl, rfl⟩ rfl (x := (0 : Int32)) ?o12 rfl rfl rfl (List.mem_singleton.mpr rfl) dX10_plan_22 (fun H locs h_14 eh_14 hW hT hs => ?_)
      case o11 => decide
      case o12 => decide
      replace ffv_1 := (hs.o (gx.S hM) trivial rfl).1.trans ffv_1
      replace hM := hM.tr (hs.mono ?o13)
      case o13 => decide
      have f_15 : h_14.2.1 x 75 = (0 : Int32) := ?o14
      case o14 =>
        rw [eh_14]
        exact hx_pi_at _ _ _ _
      have pi0 : ∀ j : Nat, (j : Int) < (h_14.2.1 x 75).toInt → 1 ≤ (h_14.2.1 qf j).toInt := by
        intro j hj; rw [f_15] at hj; have z0 : (0 : Int32).toInt = 0 := (by decide); omega
      refine lv_iconst (v := 0) hx hb dX10_plan_25 ?o15 ?_
      case o15 => decide
      refine lv_istore_n (lv' := [(3, .int (0 : Int32)), (0, .ref x), (1, .int i1), (2, .int i2)]) hx hb dX10_plan_26 rfl hl ?o16 rfl (fun ls hl => ?_)
      case o16 => decide
      have loop27 : ∀ (n27 : Nat) (iv27_3 fw27_x_75 : Int32) (H : Heap) (locs : List Loc) (hL1 : List Nat) (hl1 : hx_h), 0 ≤ iv27_3.toInt → iv27_3.toInt ≤ 100 → 0 ≤ fw27_x_75.toInt → fw27_x_75.toInt ≤ 4 → ∀ (ls : Array Slot), 100 - iv27_3.toInt < (n27 : Int) → hx_W T_tb (P_ty dA) (dC, dI) vwCl (hx_A L sz) s.heap hL1 hl1 s H locs → hx_T T_tb hL1 hl1 → hx_S T_tb [(10, 67), (10, 68), (10, 69), (10, 70), (10, 71), (10, 72), (10, 75), (100, 0), (101, 0), (102, 0), (103, 0), (104, 0), (105, 0), (106, 0), (107, 0)] L h hL1 hl1 → hl1.2.1 x 75 = fw27_x_75 → hl1.2.1 x 20 = fv_1 → (∀ j : Nat, (j : Int) < (hl1.2.1 x 75).toInt → 1 ≤ (hl1.2.1 qf j).toInt) → lv_has ls 12 [(3, .int iv27_3), (0, .ref x), (1, .int i1), (2, .int i2)] → W p l e ({ frames := 3, cells := 0, slots := 0, locals := 71 }) s m ([.ref x, .int i1, .int i2] : List Value).toArray below meth c H locs 0 0 (MQ below (va_Qi (fun (r : Int32) (u : List Nat × hx_h) => (True) ∧ hx_T T_tb u.1 u.2 ∧ hx_S T_tb [(10, 67), (10, 68), (10, 69), (10, 70), (10, 71), (10, 72), (10, 75), (100, 0), (101, 0), (102, 0), (103, 0), (104, 0), (105, 0), (106, 0), (107, 0)] L h u.1 u.2) (hx_E T_tb (P_ty dA) (dC, dI) vwCl (hx_A L sz)) (hx_A L sz)) ([.ref x, .int i1, .int i2] : List Value).toArray s 0 0 (hx_A L sz)) (F0 m 27 ls []) := by
        intro n27
        induction n27 with
        | zero => intro iv27_3 fw27_x_75 H locs hL1 hl1 bliv27_3 buiv27_3 blfw27_x_75 bufw27_x_75  ls hn27; exfalso; omega
        | succ n27 ih27 =>
          intro iv27_3 fw27_x_75 H locs hL1 hl1 bliv27_3 buiv27_3 blfw27_x_75 bufw27_x_75  ls hn27 hW hT hM ffw27_x_75 ffv_1 pi0 hl
          refine lv_iload_n hx hb dX10_plan_27 rfl (lv_at hl 0 rfl) ?_
          refine lv_aload_n hx hb dX10_plan_28 rfl (lv_at hl 1 rfl) ?_
          refine hk_geti hx hb hts hC_10 hown hW (gx.S hM) tt_10 36 ?o17 rfl kw_1179 ⟨rfl, rfl, rfl⟩ ((hM.o gx trivial rfl).1.trans f_x_36) dX10_plan_29 ?_
          case o17 => decide
          refine hb_icmp_ge (zx := iv27_3.toInt) (zy := c0.toInt) (tgt := 155) hx hb rfl rfl dX10_plan_32 ?o18 (fun c_16 => ?_) (fun c_16 => ?_)
          case o18 => decide
          · skip
            refine lv_aload_n hx hb dX10_plan_155 rfl (lv_at hl 1 rfl) ?_
            refine lv_iload_n hx hb dX10_plan_156 rfl (lv_at hl 2 rfl) ?_
            refine lv_aload_n hx hb dX10_plan_157 rfl (lv_at hl 1 rfl) ?_
            refine lv_aload_n hx hb dX10_plan_158 rfl (lv_at hl 1 rfl) ?_
            refine hx_geti hx hb hts hC_10 hown hW hT (gx.S hM) tt_10 0 ?o19 rfl kw_1143 ⟨rfl, rfl, rfl⟩ dX10_plan_159 (fun x_17 ex_17 lx_17 ux_17 => ?_)
            case o19 => decide
            have fx_17 := ex_17.symm
            refine hx_goi (hx_runV (As := [.int x_17]) (rest := [.int i1, .ref x]) ⟨hx, hb, hml, hown, hts⟩ hW (gx.S hM) tt_10 (T := TX10) (N := 98) rfl (t_X10_inForce l dC dI dA hL1 hl1 H.size x x_17 hT (gx.S hM) a0 ((hM.o gx trivial rfl).1.trans f_x_1)) (cwV 1 hts (hx_gV kw_1529 kw_1526 kw_1528 kw_65 kw_103) rfl rfl rfl (by decide +kernel) ⟨Nat.le_of_ble_eq_true rfl, Nat.le_of_ble_eq_true rfl⟩) rfl hl.1 rfl (Nat.le_of_ble_eq_true rfl) dX10_plan_162 ⟨Nat.le_of_ble_eq_true rfl, Nat.le_of_ble_eq_true rfl⟩) hW (fun r_20 L_18 h_19 H locs p_21 hW => ?_)
            obtain ⟨hr_22, hT, hs⟩ := p_21
            replace hT : hx_T T_tb L_18 h_19 := hT
            replace hs : hx_S T_tb [] hL1 hl1 L_18 h_19 := hs
            replace ffv_1 := (hs.o (gx.S hM) trivial rfl).1.trans ffv_1
            replace ffw27_x_75 := (hs.o (gx.S hM) trivial rfl).1.trans ffw27_x_75
            replace fx_17 := (hs.o (gx.S hM) trivial rfl).1.trans fx_17
            replace pi0 : ∀ j : Nat, (j : Int) < (h_19.2.1 x 75).toInt → 1 ≤ (h_19.2.1 qf j).toInt := by
              intro j hj; rw [(hs.o (gx.S hM) trivial rfl).1] at hj; rw [(hs.a (gqf.S hM) rfl j).1]; exact pi0 j hj
            replace hM := hM.tr (hs.mono ?o20)
            case o20 => decide
            refine hx_goi (hx_runV (As := [.int i1, .int r_20]) (rest := []) ⟨hx, hb, hml, hown, hts⟩ hW (gx.S hM) tt_10 (T := TX10) (N := 98) rfl (t_X10_means l dC dI dA L_18 h_19 H.size x i1 r_20 hT (gx.S hM) ⟨?o21, ?o22⟩ ⟨?o23, ?o24⟩) (cwV 2 hts (hx_gV kw_1645 kw_1642 kw_1644 kw_83 kw_103) rfl rfl rfl (by decide +kernel) ⟨Nat.le_of_ble_eq_true rfl, Nat.le_of_ble_eq_true rfl⟩) rfl hl.1 rfl (Nat.le_of_ble_eq_true rfl) dX10_plan_165 ⟨Nat.le_of_ble_eq_true rfl, Nat.le_of_ble_eq_true rfl⟩) hW (fun r_25 L_23 h_24 H locs p_26 hW => ?_)
            case o21 => omega
            case o22 => omega
            case o23 => omega
            case o24 => omega
            obtain ⟨hr_27, hT, hs⟩ := p_26
            replace hT : hx_T T_tb L_23 h_24 := hT
            replace hs : hx_S T_tb [] L_18 h_19 L_23 h_24 := hs
            replace ffv_1 := (hs.o (gx.S hM) trivial rfl).1.trans ffv_1
            replace ffw27_x_75 := (hs.o (gx.S hM) trivial rfl).1.trans ffw27_x_75
            replace fx_17 := (hs.o (gx.S hM) trivial rfl).1.trans fx_17
            replace pi0 : ∀ j : Nat, (j : Int) < (h_24.2.1 x 75).toInt → 1 ≤ (h_24.2.1 qf j).toInt := by
              intro j hj; rw [(hs.o (gx.S hM) trivial rfl).1] at hj; rw [(hs.a (gqf.S hM) rfl j).1]; exact pi0 j hj
            replace hM := hM.tr (hs.mono ?o25)
            case o25 => decide
            refine lv_istore_n (lv' := [(3, .int r_25), (0, .ref x), (1, .int i1), (2, .int i2)]) hx hb dX10_plan_168 rfl hl ?o26 rfl (fun ls hl => ?_)
            case o26 => decide
            refine lv_aload_n hx hb dX10_plan_169 rfl (lv_at hl 1 rfl) ?_
            refine hk_geti hx hb hts hC_10 hown hW (gx.S hM) tt_10 75 ?o27 rfl kw_1218 ⟨rfl, rfl, rfl⟩ ffw27_x_75 dX10_plan_170 ?_
            case o27 => decide
            refine hb_if_ne (zx := fw27_x_75.toInt) (tgt := 180) hx hb rfl dX10_plan_173 ?o28 (fun c_28 => ?_) (fun c_28 => ?_)
            case o28 => decide
            · skip
              refine lv_ldcw (v := 1000000000) hx hb hown (hts _ kw_1678) dX10_plan_180 ?_
              refine lv_istore (lv' := [(4, .int (1000000000 : Int32)), (3, .int r_25), (0, .ref x), (1, .int i1), (2, .int i2)]) hx hb dX10_plan_183 hl ?o29 rfl (fun ls hl => ?_)
              case o29 => decide
              refine lv_ldcw (v := 1000000000) hx hb hown (hts _ kw_1678) dX10_plan_185 ?_
              refine lv_istore (lv' := [(5, .int (1000000000 : Int32)), (4, .int (1000000000 : Int32)), (3, .int r_25), (0, .ref x), (1, .int i1), (2, .int i2)]) hx hb dX10_plan_188 hl ?o30 rfl (fun ls hl => ?_)
              case o30 => decide
              refine lv_aload_n hx hb dX10_plan_190 rfl (lv_at hl 3 rfl) ?_
              refine hk_geti hx hb hts hC_10 hown hW (gx.S hM) tt_10 75 ?o31 rfl kw_1218 ⟨rfl, rfl, rfl⟩ ffw27_x_75 dX10_plan_191 ?_
              case o31 => decide
              refine hb_if_le (zx := fw27_x_75.toInt) (tgt := 201) hx hb rfl dX10_plan_194 ?o32 (fun c_29 => ?o33) (fun c_29 => ?_)
              case o32 => decide
              case o33 =>
                exfalso
                omega
              refine lv_iconst (v := 1) hx hb dX10_plan_197 ?o34 ?_
              case o34 => decide
              refine lv_goto (tgt := 202) hx hb dX10_plan_198 ?o35 ?_
              case o35 => decide
              obtain ⟨fa_30, nfa_30⟩ : ∃ g : Nat → Int32, h_24.2.1 qm = g := ⟨_, rfl⟩
              have hm12 : hx_m12 fa_30 := (fun k hk => by have q := hT.ei (gqm.S hM) tt_105 (k := k) hk; rw [nfa_30] at q; exact q)
              have hvb := hx_V_b hm12
              refine lv_istore (lv' := [(6, .int (1 : Int32)), (5, .int (1000000000 : Int32)), (4, .int (1000000000 : Int32)), (3, .int r_25), (0, .ref x), (1, .int i1), (2, .int i2)]) hx hb dX10_plan_202 hl ?o36 rfl (fun ls hl => ?_)
              case o36 => decide
              have loop204 : ∀ (n204 : Nat) (iv204_4 iv204_5 iv204_6 : Int32) (ia204_qm : Nat → Int32) (H : Heap) (locs : List Loc) (hL1 : List Nat) (hl1 : hx_h), -2147483648 ≤ iv204_4.toInt → iv204_4.toInt ≤ 2147483647 → -2147483648 ≤ iv204_5.toInt → iv204_5.toInt ≤ 2147483647 → 0 ≤ iv204_6.toInt → iv204_6.toInt ≤ 1 → (hx_m12 ia204_qm) → ∀ (ls : Array Slot), (iv204_6.toInt = 0 ∧ 0 < (n204 : Int)) ∨ 28562 - hx_V ia204_qm < (n204 : Int) → hx_W T_tb (P_ty dA) (dC, dI) vwCl (hx_A L sz) s.heap hL1 hl1 s H locs → hx_T T_tb hL1 hl1 → hx_S T_tb [(10, 67), (10, 68), (10, 69), (10, 70), (10, 71), (10, 72), (10, 75), (100, 0), (101, 0), (102, 0), (103, 0), (104, 0), (105, 0), (106, 0), (107, 0)] L h hL1 hl1 → hl1.2.1 x 20 = fv_1 → hl1.2.1 x 75 = fw27_x_75 → hl1.2.1 x 0 = x_17 → (∀ j : Nat, (j : Int) < (hl1.2.1 x 75).toInt → 1 ≤ (hl1.2.1 qf j).toInt) → hl1.2.1 qm = ia204_qm → lv_has ls 12 [(6, .int iv204_6), (5, .int iv204_5), (4, .int iv204_4), (3, .int r_25), (0, .ref x), (1, .int i1), (2, .int i2)] → W p l e ({ frames := 3, cells := 0, slots := 0, locals := 71 }) s m ([.ref x, .int i1, .int i2] : List Value).toArray below meth c H locs 0 0 (MQ below (va_Qi (fun (r : Int32) (u : List Nat × hx_h) => (True) ∧ hx_T T_tb u.1 u.2 ∧ hx_S T_tb [(10, 67), (10, 68), (10, 69), (10, 70), (10, 71), (10, 72), (10, 75), (100, 0), (101, 0), (102, 0), (103, 0), (104, 0), (105, 0), (106, 0), (107, 0)] L h u.1 u.2) (hx_E T_tb (P_ty dA) (dC, dI) vwCl (hx_A L sz)) (hx_A L sz)) ([.ref x, .int i1, .int i2] : List Value).toArray s 0 0 (hx_A L sz)) (F0 m 204 ls []) := by
                intro n204
                induction n204 with
                | zero => intro iv204_4 iv204_5 iv204_6 ia204_qm H locs hL1 hl1 bliv204_4 buiv204_4 bliv204_5 buiv204_5 bliv204_6 buiv204_6 vi204_0 ls hn204; exfalso; have hvbz := hx_V_b vi204_0; omega
                | succ n204 ih204 =>
                  intro iv204_4 iv204_5 iv204_6 ia204_qm H locs hL1 hl1 bliv204_4 buiv204_4 bliv204_5 buiv204_5 bliv204_6 buiv204_6 vi204_0 ls hn204 hW hT hM ffv_1 ffw27_x_75 fx_17 pi0 nia204_qm hl
                  refine lv_iload hx hb dX10_plan_204 (lv_at hl 0 rfl) ?_
                  have hvb0 := hx_V_b vi204_0
                  refine hb_if_eq (zx := iv204_6.toInt) (tgt := 434) hx hb rfl dX10_plan_206 ?o37 (fun c_31 => ?_) (fun c_31 => ?_)
                  case o37 => decide
                  · skip
                    refine lv_iload hx hb dX10_plan_434 (lv_at hl 2 rfl) ?_
                    refine lv_ldcw (v := 1000000000) hx hb hown (hts _ kw_1678) dX10_plan_436 ?_
                    refine hb_icmp_ne (zx := iv204_4.toInt) (zy := 1000000000) (tgt := 445) hx hb rfl ?o38 dX10_plan_439 ?o39 (fun c_32 => ?_) (fun c_32 => ?_)
                    case o38 => decide
                    case o39 => decide
                    · skip
                      refine lv_aload_n hx hb dX10_plan_445 rfl (lv_at hl 4 rfl) ?_
                      refine lv_aload_n hx hb dX10_plan_446 rfl (lv_at hl 4 rfl) ?_
                      refine hk_geti hx hb hts hC_10 hown hW (gx.S hM) tt_10 75 ?o40 rfl kw_1218 ⟨rfl, rfl, rfl⟩ ffw27_x_75 dX10_plan_447 ?_
                      case o40 => decide
                      refine hx_puti hx hb hts hC_10 hown hW hT (hx_S.rf (M := [(10, 72)])) (gx.S hM) tt_10 72 ?o41 rfl kw_1215 ⟨rfl, rfl, rfl⟩ rfl (x := fw27_x_75) ⟨?o42, ?o43⟩ rfl rfl rfl (List.mem_singleton.mpr rfl) dX10_plan_450 (fun H locs h_33 eh_33 hW hT hs => ?_)
                      case o41 => decide
                      case o42 => omega
                      case o43 => omega
                      replace ffv_1 := (hs.o (gx.S hM) trivial rfl).1.trans ffv_1
                      replace ffw27_x_75 := (hs.o (gx.S hM) trivial rfl).1.trans ffw27_x_75
                      replace fx_17 := (hs.o (gx.S hM) trivial rfl).1.trans fx_17
                      replace nia204_qm : h_33.2.1 qm = ia204_qm := (funext fun j => (hs.a (gqm.S hM) rfl j).1).trans nia204_qm
                      replace pi0 : ∀ j : Nat, (j : Int) < (h_33.2.1 x 75).toInt → 1 ≤ (h_33.2.1 qf j).toInt := by
                        intro j hj; rw [(hs.o (gx.S hM) trivial rfl).1] at hj; rw [(hs.a (gqf.S hM) rfl j).1]; exact pi0 j hj
                      replace hM := hM.tr (hs.mono ?o44)
                      case o44 => decide
                      have f_34 : h_33.2.1 x 72 = fw27_x_75 := ?o45
                      case o45 =>
                        rw [eh_33]
                        exact hx_pi_at _ _ _ _
                      refine lv_iconst (v := 0) hx hb dX10_plan_453 ?o46 ?_
                      case o46 => decide
                      refine lv_istore (lv' := [(7, .int (0 : Int32)), (6, .int iv204_6), (5, .int iv204_5), (4, .int iv204_4), (3, .int r_25), (0, .ref x), (1, .int i1), (2, .int i2)]) hx hb dX10_plan_454 hl ?o47 rfl (fun ls hl => ?_)
                      case o47 => decide
                      have loop456 : ∀ (n456 : Nat) (iv456_7 : Int32) (H : Heap) (locs : List Loc) (hL1 : List Nat) (hl1 : hx_h), 0 ≤ iv456_7.toInt → iv456_7.toInt ≤ 4 → ∀ (ls : Array Slot), 4 - iv456_7.toInt < (n456 : Int) → hx_W T_tb (P_ty dA) (dC, dI) vwCl (hx_A L sz) s.heap hL1 hl1 s H locs → hx_T T_tb hL1 hl1 → hx_S T_tb [(10, 67), (10, 68), (10, 69), (10, 70), (10, 71), (10, 72), (10, 75), (100, 0), (101, 0), (102, 0), (103, 0), (104, 0), (105, 0), (106, 0), (107, 0)] L h hL1 hl1 → hl1.2.1 x 20 = fv_1 → hl1.2.1 x 75 = fw27_x_75 → hl1.2.1 x 0 = x_17 → (∀ j : Nat, (j : Int) < (hl1.2.1 x 75).toInt → 1 ≤ (hl1.2.1 qf j).toInt) → lv_has ls 12 [(7, .int iv456_7), (6, .int iv204_6), (5, .int iv204_5), (4, .int iv204_4), (3, .int r_25), (0, .ref x), (1, .int i1), (2, .int i2)] → W p l e ({ frames := 3, cells := 0, slots := 0, locals := 71 }) s m ([.ref x, .int i1, .int i2] : List Value).toArray below meth c H locs 0 0 (MQ below (va_Qi (fun (r : Int32) (u : List Nat × hx_h) => (True) ∧ hx_T T_tb u.1 u.2 ∧ hx_S T_tb [(10, 67), (10, 68), (10, 69), (10, 70), (10, 71), (10, 72), (10, 75), (100, 0), (101, 0), (102, 0), (103, 0), (104, 0), (105, 0), (106, 0), (107, 0)] L h u.1 u.2) (hx_E T_tb (P_ty dA) (dC, dI) vwCl (hx_A L sz)) (hx_A L sz)) ([.ref x, .int i1, .int i2] : List Value).toArray s 0 0 (hx_A L sz)) (F0 m 456 ls []) := by
                        intro n456
                        induction n456 with
                        | zero => intro iv456_7 H locs hL1 hl1 bliv456_7 buiv456_7  ls hn456; exfalso; omega
                        | succ n456 ih456 =>
                          intro iv456_7 H locs hL1 hl1 bliv456_7 buiv456_7  ls hn456 hW hT hM ffv_1 ffw27_x_75 fx_17 pi0 hl
                          refine lv_iload hx hb dX10_plan_456 (lv_at hl 0 rfl) ?_
                          refine lv_aload_n hx hb dX10_plan_458 rfl (lv_at hl 5 rfl) ?_
                          refine hk_geti hx hb hts hC_10 hown hW (gx.S hM) tt_10 75 ?o48 rfl kw_1218 ⟨rfl, rfl, rfl⟩ ffw27_x_75 dX10_plan_459 ?_
                          case o48 => decide
                          refine hb_icmp_ge (zx := iv456_7.toInt) (zy := fw27_x_75.toInt) (tgt := 530) hx hb rfl rfl dX10_plan_462 ?o49 (fun c_35 => ?_) (fun c_35 => ?_)
                          case o49 => decide
                          · skip
                            refine lv_iload hx hb dX10_plan_530 (lv_at hl 3 rfl) ?_
                            exact hx_reti hx hb hr hlk hW ⟨trivial, hT, hM⟩ dX10_plan_532
                          · skip
                            refine lv_aload_n hx hb dX10_plan_465 rfl (lv_at hl 5 rfl) ?_
                            refine hx_getn hx hb hts hC_10 hown hW hT (gx.S hM) tt_10 73 ?o50 rfl kw_1216 ⟨rfl, rfl, rfl⟩ dX10_plan_466 (fun q_36 fq_36 gq_36 => ?_)
                            case o50 => decide
                            refine lv_iload hx hb dX10_plan_469 (lv_at hl 0 rfl) ?_
                            refine lv_aload_n hx hb dX10_plan_471 rfl (lv_at hl 5 rfl) ?_
                            refine hx_getn hx hb hts hC_10 hown hW hT (gx.S hM) tt_10 76 ?o51 rfl kw_1219 ⟨rfl, rfl, rfl⟩ dX10_plan_472 (fun q_37 fq_37 gq_37 => ?_)
                            case o51 => decide
                            refine lv_iload hx hb dX10_plan_475 (lv_at hl 0 rfl) ?_
                            refine hx_iald hx hb hW hT gq_37 tt_102 rfl ⟨?o52, ?o53⟩ dX10_plan_477 (fun x_38 ex_38 lx_38 ux_38 => ?_)
                            case o52 => omega
                            case o53 => omega
                            refine hx_iast hx hb hW hT (hx_S.rf (M := [(100, 0)])) gq_36 tt_100 rfl ⟨?o54, ?o55⟩ rfl (i32_r _) (List.mem_singleton.mpr rfl) dX10_plan_478 (fun H locs h_39 eh_39 hW hT hs => ?_)
                            case o54 => omega
                            case o55 => omega
                            replace ffv_1 := (hs.o (gx.S hM) trivial rfl).1.trans ffv_1
                            replace ffw27_x_75 := (hs.o (gx.S hM) trivial rfl).1.trans ffw27_x_75
                            replace fx_17 := (hs.o (gx.S hM) trivial rfl).1.trans fx_17
                            replace fq_36 := (hs.o (gx.S hM) trivial rfl).2.trans fq_36
                            replace fq_37 := (hs.o (gx.S hM) trivial rfl).2.trans fq_37
                            replace ex_38 := ex_38.trans (hs.a gq_37 rfl _).1.symm
                            replace pi0 : ∀ j : Nat, (j : Int) < (h_39.2.1 x 75).toInt → 1 ≤ (h_39.2.1 qf j).toInt := by
                              intro j hj; rw [(hs.o (gx.S hM) trivial rfl).1] at hj; rw [(hs.a (gqf.S hM) rfl j).1]; exact pi0 j hj
                            replace hM := hM.tr (hs.mono ?o56)
                            case o56 => decide
                            replace gq_36 := gq_36.S hs
                            replace gq_37 := gq_37.S hs
                            refine lv_aload_n hx hb dX10_plan_479 rfl (lv_at hl 5 rfl) ?_
                            refine hx_getn hx hb hts hC_10 hown hW hT (gx.S hM) tt_10 74 ?o57 rfl kw_1217 ⟨rfl, rfl, rfl⟩ dX10_plan_480 (fun q_40 fq_40 gq_40 => ?_)
                            case o57 => decide
                            refine lv_iload hx hb dX10_plan_483 (lv_at hl 0 rfl) ?_
                            refine lv_aload_n hx hb dX10_plan_485 rfl (lv_at hl 5 rfl) ?_
                            refine hk_getr hx hb hts hC_10 hown hW (gx.S hM) tt_10 78 ?o58 rfl kw_1221 ⟨rfl, rfl, rfl⟩ ((hM.o gx trivial rfl).2.trans f_x_78) dX10_plan_486 ?_
                            case o58 => decide
                            refine lv_iload hx hb dX10_plan_489 (lv_at hl 0 rfl) ?_
                            refine hx_iald hx hb hW hT (gqf.S hM) tt_104 rfl ⟨?o59, ?o60⟩ dX10_plan_491 (fun x_41 ex_41 lx_41 ux_41 => ?_)
                            case o59 => omega
                            case o60 => omega
                            have px_41 : 1 ≤ x_41.toInt := ?o61
                            case o61 =>
                              rw [ex_41]
                              exact pi0 _ (by rw [ffw27_x_75]; exact hx_tnI (by omega) (by omega))
                            refine lv_aload_n hx hb dX10_plan_492 rfl (lv_at hl 5 rfl) ?_
                            refine hx_getn hx hb hts hC_10 hown hW hT (gx.S hM) tt_10 80 ?o62 rfl kw_1223 ⟨rfl, rfl, rfl⟩ dX10_plan_493 (fun q_42 fq_42 gq_42 => ?_)
                            case o62 => decide
                            refine lv_iload hx hb dX10_plan_496 (lv_at hl 0 rfl) ?_
                            refine hx_iald hx hb hW hT gq_42 tt_106 rfl ⟨?o63, ?o64⟩ dX10_plan_498 (fun x_43 ex_43 lx_43 ux_43 => ?_)
                            case o63 => omega
                            case o64 => omega
                            refine lv_iload_n hx hb dX10_plan_499 rfl (lv_at hl 7 rfl) ?_
                            refine lv_imul hx hb dX10_plan_500 ?_
                            refine lv_topi (fun x_44 ex_44 => ?_)
                            have mx_44 : x_43.toInt = 0 → x_44.toInt = 0 := fun z => by rw [ex_44]; exact hx_mul0 z
                            refine lv_iadd hx hb dX10_plan_501 ?_
                            have rg_45 := i32_r x_41
                            have rg_46 := i32_r x_44
                            refine lv_topi (fun x_47 ex_47 => ?_)
                            refine hx_iast hx hb hW hT (hx_S.rf (M := [(101, 0)])) gq_40 tt_101 rfl ⟨?o65, ?o66⟩ rfl (i32_r _) (List.mem_singleton.mpr rfl) dX10_plan_502 (fun H locs h_48 eh_48 hW hT hs => ?_)
                            case o65 => omega
                            case o66 => omega
                            replace ffv_1 := (hs.o (gx.S hM) trivial rfl).1.trans ffv_1
                            replace ffw27_x_75 := (hs.o (gx.S hM) trivial rfl).1.trans ffw27_x_75
                            replace fx_17 := (hs.o (gx.S hM) trivial rfl).1.trans fx_17
                            replace fq_36 := (hs.o (gx.S hM) trivial rfl).2.trans fq_36
                            replace fq_37 := (hs.o (gx.S hM) trivial rfl).2.trans fq_37
                            replace fq_40 := (hs.o (gx.S hM) trivial rfl).2.trans fq_40
                            replace fq_42 := (hs.o (gx.S hM) trivial rfl).2.trans fq_42
                            replace ex_38 := ex_38.trans (hs.a gq_37 rfl _).1.symm
                            replace ex_41 := ex_41.trans (hs.a (gqf.S hM) rfl _).1.symm
                            replace ex_43 := ex_43.trans (hs.a gq_42 rfl _).1.symm
                            replace pi0 : ∀ j : Nat, (j : Int) < (h_48.2.1 x 75).toInt → 1 ≤ (h_48.2.1 qf j).toInt := by
                              intro j hj; rw [(hs.o (gx.S hM) trivial rfl).1] at hj; rw [(hs.a (gqf.S hM) rfl j).1]; exact pi0 j hj
                            replace hM := hM.tr (hs.mono ?o67)
                            case o67 => decide
                            replace gq_36 := gq_36.S hs
                            replace gq_37 := gq_37.S hs
                            replace gq_40 := gq_40.S hs
                            replace gq_42 := gq_42.S hs
                            refine lv_aload_n hx hb dX10_plan_503 rfl (lv_at hl 5 rfl) ?_
                            refine hx_getn hx hb hts hC_10 hown hW hT (gx.S hM) tt_10 81 ?o68 rfl kw_1224 ⟨rfl, rfl, rfl⟩ dX10_plan_504 (fun q_49 fq_49 gq_49 => ?_)
                            case o68 => decide
                            refine lv_iload hx hb dX10_plan_507 (lv_at hl 0 rfl) ?_
                            refine lv_aload_n hx hb dX10_plan_509 rfl (lv_at hl 5 rfl) ?_
                            refine lv_iload hx hb dX10_plan_510 (lv_at hl 0 rfl) ?_
                            refine lv_aload_n hx hb dX10_plan_512 rfl (lv_at hl 5 rfl) ?_
                            refine hk_getr hx hb hts hC_10 hown hW (gx.S hM) tt_10 80 ?o69 rfl kw_1223 ⟨rfl, rfl, rfl⟩ fq_42 dX10_plan_513 ?_
                            case o69 => decide
                            refine lv_iload hx hb dX10_plan_516 (lv_at hl 0 rfl) ?_
                            refine hx_iald hx hb hW hT gq_42 tt_106 rfl ⟨?o70, ?o71⟩ dX10_plan_518 (fun x_50 ex_50 lx_50 ux_50 => ?_)
                            case o70 => omega
                            case o71 => omega
                            obtain rfl : x_43 = x_50 := ex_43.trans ex_50.symm
                            refine lv_iload_n hx hb dX10_plan_519 rfl (lv_at hl 7 rfl) ?_
                            refine hx_goi (hx_runV (As := [.int iv456_7, .int x_43, .int i2]) (rest := [.int iv456_7, .ref q_49]) ⟨hx, hb, hml, hown, hts⟩ hW (gx.S hM) tt_10 (T := TX10) (N := 98) rfl (t_X10_weeksOf l dC dI dA hL1 h_48 H.size x iv456_7 x_43 i2 hT (gx.S hM) fw27_x_75 ffw27_x_75 ⟨?o72, ?o73⟩ ⟨?o74, ?o75⟩ ⟨?o76, ?o77⟩ qf (gqf.S hM) ((hM.o gx trivial rfl).2.trans f_x_78) pi0) (cwV 3 hts (hx_gV kw_1682 kw_1679 kw_1681 kw_85 kw_103) rfl rfl rfl (by decide +kernel) ⟨Nat.le_of_ble_eq_true rfl, Nat.le_of_ble_eq_true rfl⟩) rfl hl.1 rfl (Nat.le_of_ble_eq_true rfl) dX10_plan_520 ⟨Nat.le_of_ble_eq_true rfl, Nat.le_of_ble_eq_true rfl⟩) hW (fun r_53 L_51 h_52 H locs p_54 hW => ?_)
                            case o72 => omega
                            case o73 => omega
                            case o74 => omega
                            case o75 => omega
                            case o76 => omega
                            case o77 => omega
                            obtain ⟨hr_55, hT, hs⟩ := p_54
                            replace hT : hx_T T_tb L_51 h_52 := hT
                            replace hs : hx_S T_tb [] hL1 h_48 L_51 h_52 := hs
                            replace ffv_1 := (hs.o (gx.S hM) trivial rfl).1.trans ffv_1
                            replace ffw27_x_75 := (hs.o (gx.S hM) trivial rfl).1.trans ffw27_x_75
                            replace fx_17 := (hs.o (gx.S hM) trivial rfl).1.trans fx_17
                            replace fq_36 := (hs.o (gx.S hM) trivial rfl).2.trans fq_36
                            replace fq_37 := (hs.o (gx.S hM) trivial rfl).2.trans fq_37
                            replace fq_40 := (hs.o (gx.S hM) trivial rfl).2.trans fq_40
                            replace fq_42 := (hs.o (gx.S hM) trivial rfl).2.trans fq_42
                            replace fq_49 := (hs.o (gx.S hM) trivial rfl).2.trans fq_49
                            replace ex_38 := ex_38.trans (hs.a gq_37 rfl _).1.symm
                            replace ex_41 := ex_41.trans (hs.a (gqf.S hM) rfl _).1.symm
                            replace ex_43 := ex_43.trans (hs.a gq_42 rfl _).1.symm
                            replace pi0 : ∀ j : Nat, (j : Int) < (h_52.2.1 x 75).toInt → 1 ≤ (h_52.2.1 qf j).toInt := by
                              intro j hj; rw [(hs.o (gx.S hM) trivial rfl).1] at hj; rw [(hs.a (gqf.S hM) rfl j).1]; exact pi0 j hj
                            replace hM := hM.tr (hs.mono ?o78)
                            case o78 => decide
                            replace gq_36 := gq_36.S hs
                            replace gq_37 := gq_37.S hs
                            replace gq_40 := gq_40.S hs
                            replace gq_42 := gq_42.S hs
                            replace gq_49 := gq_49.S hs
                            refine hx_iast hx hb hW hT (hx_S.rf (M := [(107, 0)])) gq_49 tt_107 rfl ⟨?o79, ?o80⟩ rfl (i32_r _) (List.mem_singleton.mpr rfl) dX10_plan_523 (fun H locs h_56 eh_56 hW hT hs => ?_)
                            case o79 => omega
                            case o80 => omega
                            replace ffv_1 := (hs.o (gx.S hM) trivial rfl).1.trans ffv_1
                            replace ffw27_x_75 := (hs.o (gx.S hM) trivial rfl).1.trans ffw27_x_75
                            replace fx_17 := (hs.o (gx.S hM) trivial rfl).1.trans fx_17
                            replace fq_36 := (hs.o (gx.S hM) trivial rfl).2.trans fq_36
                            replace fq_37 := (hs.o (gx.S hM) trivial rfl).2.trans fq_37
                            replace fq_40 := (hs.o (gx.S hM) trivial rfl).2.trans fq_40
                            replace fq_42 := (hs.o (gx.S hM) trivial rfl).2.trans fq_42
                            replace fq_49 := (hs.o (gx.S hM) trivial rfl).2.trans fq_49
                            replace ex_38 := ex_38.trans (hs.a gq_37 rfl _).1.symm
                            replace ex_41 := ex_41.trans (hs.a (gqf.S hM) rfl _).1.symm
                            replace ex_43 := ex_43.trans (hs.a gq_42 rfl _).1.symm
                            replace pi0 : ∀ j : Nat, (j : Int) < (h_56.2.1 x 75).toInt → 1 ≤ (h_56.2.1 qf j).toInt := by
                              intro j hj; rw [(hs.o (gx.S hM) trivial rfl).1] at hj; rw [(hs.a (gqf.S hM) rfl j).1]; exact pi0 j hj
                            replace hM := hM.tr (hs.mono ?o81)
                            case o81 => decide
                            replace gq_36 := gq_36.S hs
                            replace gq_37 := gq_37.S hs
                            replace gq_40 := gq_40.S hs
                            replace gq_42 := gq_42.S hs
                            replace gq_49 := gq_49.S hs
                            obtain ⟨x_57, ex_57⟩ : ∃ y : Int32, y = iv456_7 + Int32.ofInt 1 := ⟨_, rfl⟩
                            have rg_58 := i32_r iv456_7
                            have zx_57 : x_57.toInt = iv456_7.toInt + (1) := ?o82
                            case o82 =>
                              rw [ex_57]
                              refine i32_add rfl ?o83 ?o84 ?o85
                              case o83 => decide
                              case o84 => omega
                              case o85 => omega
                            refine lv_iinc (v := x_57) (lv' := [(7, .int x_57), (6, .int iv204_6), (5, .int iv204_5), (4, .int iv204_4), (3, .int r_25), (0, .ref x), (1, .int i1), (2, .int i2)]) hx hb dX10_plan_524 hl (k := 0) rfl ex_57.symm ?o86 rfl (fun ls hl => ?_)
                            case o86 => decide
                            refine lv_goto (tgt := 456) hx hb dX10_plan_527 ?o87 ?_
                            case o87 => decide
                            refine ih456 x_57 _ _ L_51 h_56 ?o88 ?o89  ls ?o90 hW hT hM ffv_1 ffw27_x_75 fx_17 pi0 (lv_sub hl [0, 1, 2, 3, 4, 5, 6, 7] rfl)
                            case o88 => omega
                            case o89 => omega
                            case o90 => omega
                      have zk_0 : (0 : Int32).toInt = 0 := ?o91
                      case o91 => decide
                      refine loop456 5 (0 : Int32) _ _ hL1 h_33 ?o92 ?o93  ls ?o94 hW hT hM ffv_1 ffw27_x_75 fx_17 pi0 hl
                      case o92 => decide
                      case o93 => decide
                      case o94 => omega
                    · skip
                      refine lv_bipush (v := -2) hx hb dX10_plan_442 ?o95 ?_
                      case o95 => decide
                      exact hx_reti hx hb hr hlk hW ⟨trivial, hT, hM⟩ dX10_plan_444
                  · skip
                    refine lv_iconst (v := 0) hx hb dX10_plan_209 ?o96 ?_
                    case o96 => decide
                    refine lv_istore (lv' := [(7, .int (0 : Int32)), (6, .int iv204_6), (5, .int iv204_5), (4, .int iv204_4), (3, .int r_25), (0, .ref x), (1, .int i1), (2, .int i2)]) hx hb dX10_plan_210 hl ?o97 rfl (fun ls hl => ?_)
                    case o97 => decide
                    refine lv_iconst (v := 0) hx hb dX10_plan_212 ?o98 ?_
                    case o98 => decide
                    refine lv_istore (lv' := [(8, .int (0 : Int32)), (7, .int (0 : Int32)), (6, .int iv204_6), (5, .int iv204_5), (4, .int iv204_4), (3, .int r_25), (0, .ref x), (1, .int i1), (2, .int i2)]) hx hb dX10_plan_213 hl ?o99 rfl (fun ls hl => ?_)
                    case o99 => decide
                    refine lv_iconst (v := 0) hx hb dX10_plan_215 ?o100 ?_
                    case o100 => decide
                    refine lv_istore (lv' := [(9, .int (0 : Int32)), (8, .int (0 : Int32)), (7, .int (0 : Int32)), (6, .int iv204_6), (5, .int iv204_5), (4, .int iv204_4), (3, .int r_25), (0, .ref x), (1, .int i1), (2, .int i2)]) hx hb dX10_plan_216 hl ?o101 rfl (fun ls hl => ?_)
                    case o101 => decide
                    refine lv_iconst (v := 0) hx hb dX10_plan_218 ?o102 ?_
                    case o102 => decide
                    refine lv_istore (lv' := [(10, .int (0 : Int32)), (9, .int (0 : Int32)), (8, .int (0 : Int32)), (7, .int (0 : Int32)), (6, .int iv204_6), (5, .int iv204_5), (4, .int iv204_4), (3, .int r_25), (0, .ref x), (1, .int i1), (2, .int i2)]) hx hb dX10_plan_219 hl ?o103 rfl (fun ls hl => ?_)
                    case o103 => decide
                    have loop221 : ∀ (n221 : Nat) (iv221_7 iv221_8 iv221_9 iv221_10 : Int32) (H : Heap) (locs : List Loc) (hL1 : List Nat) (hl1 : hx_h), -2147483648 ≤ iv221_7.toInt → iv221_7.toInt ≤ 2147483647 → -2147483648 ≤ iv221_8.toInt → iv221_8.toInt ≤ 2147483647 → -2147483648 ≤ iv221_9.toInt → iv221_9.toInt ≤ 2147483647 → 0 ≤ iv221_10.toInt → iv221_10.toInt ≤ 4 → ∀ (ls : Array Slot), 4 - iv221_10.toInt < (n221 : Int) → hx_W T_tb (P_ty dA) (dC, dI) vwCl (hx_A L sz) s.heap hL1 hl1 s H locs → hx_T T_tb hL1 hl1 → hx_S T_tb [(10, 67), (10, 68), (10, 69), (10, 70), (10, 71), (10, 72), (10, 75), (100, 0), (101, 0), (102, 0), (103, 0), (104, 0), (105, 0), (106, 0), (107, 0)] L h hL1 hl1 → hl1.2.1 x 20 = fv_1 → hl1.2.1 x 75 = fw27_x_75 → hl1.2.1 x 0 = x_17 → (∀ j : Nat, (j : Int) < (hl1.2.1 x 75).toInt → 1 ≤ (hl1.2.1 qf j).toInt) → hl1.2.1 qm = ia204_qm → lv_has ls 12 [(10, .int iv221_10), (9, .int iv221_9), (8, .int iv221_8), (7, .int iv221_7), (6, .int iv204_6), (5, .int iv204_5), (4, .int iv204_4), (3, .int r_25), (0, .ref x), (1, .int i1), (2, .int i2)] → W p l e ({ frames := 3, cells := 0, slots := 0, locals := 71 }) s m ([.ref x, .int i1, .int i2] : List Value).toArray below meth c H locs 0 0 (MQ below (va_Qi (fun (r : Int32) (u : List Nat × hx_h) => (True) ∧ hx_T T_tb u.1 u.2 ∧ hx_S T_tb [(10, 67), (10, 68), (10, 69), (10, 70), (10, 71), (10, 72), (10, 75), (100, 0), (101, 0), (102, 0), (103, 0), (104, 0), (105, 0), (106, 0), (107, 0)] L h u.1 u.2) (hx_E T_tb (P_ty dA) (dC, dI) vwCl (hx_A L sz)) (hx_A L sz)) ([.ref x, .int i1, .int i2] : List Value).toArray s 0 0 (hx_A L sz)) (F0 m 221 ls []) := by
                      intro n221
                      induction n221 with
                      | zero => intro iv221_7 iv221_8 iv221_9 iv221_10 H locs hL1 hl1 bliv221_7 buiv221_7 bliv221_8 buiv221_8 bliv221_9 buiv221_9 bliv221_10 buiv221_10  ls hn221; exfalso; omega
                      | succ n221 ih221 =>
                        intro iv221_7 iv221_8 iv221_9 iv221_10 H locs hL1 hl1 bliv221_7 buiv221_7 bliv221_8 buiv221_8 bliv221_9 buiv221_9 bliv221_10 buiv221_10  ls hn221 hW hT hM ffv_1 ffw27_x_75 fx_17 pi0 nia204_qm hl
                        refine lv_iload hx hb dX10_plan_221 (lv_at hl 0 rfl) ?_
                        refine lv_aload_n hx hb dX10_plan_223 rfl (lv_at hl 8 rfl) ?_
                        refine hk_geti hx hb hts hC_10 hown hW (gx.S hM) tt_10 75 ?o104 rfl kw_1218 ⟨rfl, rfl, rfl⟩ ffw27_x_75 dX10_plan_224 ?_
                        case o104 => decide
                        refine hb_icmp_ge (zx := iv221_10.toInt) (zy := fw27_x_75.toInt) (tgt := 297) hx hb rfl rfl dX10_plan_227 ?o105 (fun c_59 => ?_) (fun c_59 => ?_)
                        case o105 => decide
                        · skip
                          refine lv_iload hx hb dX10_plan_297 (lv_at hl 3 rfl) ?_
                          refine lv_iload_n hx hb dX10_plan_299 rfl (lv_at hl 7 rfl) ?_
                          refine hb_icmp_gt (zx := iv221_7.toInt) (zy := r_25.toInt) (tgt := 364) hx hb rfl rfl dX10_plan_300 ?o106 (fun c_60 => ?_) (fun c_60 => ?_)
                          case o106 => decide
                          · skip
                            refine lv_aload_n hx hb dX10_plan_364 rfl (lv_at hl 8 rfl) ?_
                            refine hk_geti hx hb hts hC_10 hown hW (gx.S hM) tt_10 75 ?o107 rfl kw_1218 ⟨rfl, rfl, rfl⟩ ffw27_x_75 dX10_plan_365 ?_
                            case o107 => decide
                            refine lv_iconst (v := 1) hx hb dX10_plan_368 ?o108 ?_
                            case o108 => decide
                            refine lv_isub hx hb dX10_plan_369 ?_
                            have rg_61 := i32_r fw27_x_75
                            refine lv_topi (fun x_62 ex_62 => ?_)
                            have zx_62 : x_62.toInt = fw27_x_75.toInt - 1 := ?o109
                            case o109 =>
                              rw [ex_62]
                              refine i32_sub rfl ?o110 ?o111 ?o112
                              case o110 => decide
                              case o111 => omega
                              case o112 => omega
                            refine lv_istore (lv' := [(10, .int x_62), (9, .int iv221_9), (8, .int iv221_8), (7, .int iv221_7), (6, .int iv204_6), (5, .int iv204_5), (4, .int iv204_4), (3, .int r_25), (0, .ref x), (1, .int i1), (2, .int i2)]) hx hb dX10_plan_370 hl ?o113 rfl (fun ls hl => ?_)
                            case o113 => decide
                            have loop372 : ∀ (n372 : Nat) (iv372_10 : Int32) (ia372_qm : Nat → Int32) (H : Heap) (locs : List Loc) (hL1 : List Nat) (hl1 : hx_h), -1 ≤ iv372_10.toInt → iv372_10.toInt ≤ 3 → (hx_V ia372_qm + hx_w iv372_10.toInt = hx_V ia204_qm + hx_w (fw27_x_75.toInt - 1)) → (iv372_10.toInt < fw27_x_75.toInt) → ∀ (ls : Array Slot), iv372_10.toInt + 1 < (n372 : Int) → hx_W T_tb (P_ty dA) (dC, dI) vwCl (hx_A L sz) s.heap hL1 hl1 s H locs → hx_T T_tb hL1 hl1 → hx_S T_tb [(10, 67), (10, 68), (10, 69), (10, 70), (10, 71), (10, 72), (10, 75), (100, 0), (101, 0), (102, 0), (103, 0), (104, 0), (105, 0), (106, 0), (107, 0)] L h hL1 hl1 → hl1.2.1 x 20 = fv_1 → hl1.2.1 x 75 = fw27_x_75 → hl1.2.1 x 0 = x_17 → (∀ j : Nat, (j : Int) < (hl1.2.1 x 75).toInt → 1 ≤ (hl1.2.1 qf j).toInt) → hl1.2.1 qm = ia372_qm → lv_has ls 12 [(10, .int iv372_10), (9, .int iv221_9), (8, .int iv221_8), (7, .int iv221_7), (6, .int iv204_6), (5, .int iv204_5), (4, .int iv204_4), (3, .int r_25), (0, .ref x), (1, .int i1), (2, .int i2)] → W p l e ({ frames := 3, cells := 0, slots := 0, locals := 71 }) s m ([.ref x, .int i1, .int i2] : List Value).toArray below meth c H locs 0 0 (MQ below (va_Qi (fun (r : Int32) (u : List Nat × hx_h) => (True) ∧ hx_T T_tb u.1 u.2 ∧ hx_S T_tb [(10, 67), (10, 68), (10, 69), (10, 70), (10, 71), (10, 72), (10, 75), (100, 0), (101, 0), (102, 0), (103, 0), (104, 0), (105, 0), (106, 0), (107, 0)] L h u.1 u.2) (hx_E T_tb (P_ty dA) (dC, dI) vwCl (hx_A L sz)) (hx_A L sz)) ([.ref x, .int i1, .int i2] : List Value).toArray s 0 0 (hx_A L sz)) (F0 m 372 ls []) := by
                              intro n372
                              induction n372 with
                              | zero => intro iv372_10 ia372_qm H locs hL1 hl1 bliv372_10 buiv372_10 vi372_0 vi372_1 ls hn372; exfalso; omega
                              | succ n372 ih372 =>
                                intro iv372_10 ia372_qm H locs hL1 hl1 bliv372_10 buiv372_10 vi372_0 vi372_1 ls hn372 hW hT hM ffv_1 ffw27_x_75 fx_17 pi0 nia372_qm hl
                                refine lv_iload hx hb dX10_plan_372 (lv_at hl 0 rfl) ?_
                                refine hb_if_lt (zx := iv372_10.toInt) (tgt := 403) hx hb rfl dX10_plan_374 ?o114 (fun c_63 => ?_) (fun c_63 => ?_)
                                case o114 => decide
                                · skip
                                  refine lv_iload hx hb dX10_plan_403 (lv_at hl 0 rfl) ?_
                                  refine hb_if_lt (zx := iv372_10.toInt) (tgt := 412) hx hb rfl dX10_plan_405 ?o115 (fun c_64 => ?_) (fun c_64 => ?o116)
                                  case o115 => decide
                                  case o116 =>
                                    exfalso
                                    omega
                                  refine lv_iconst (v := 0) hx hb dX10_plan_412 ?o117 ?_
                                  case o117 => decide
                                  refine lv_istore (lv' := [(6, .int (0 : Int32)), (10, .int iv372_10), (9, .int iv221_9), (8, .int iv221_8), (7, .int iv221_7), (5, .int iv204_5), (4, .int iv204_4), (3, .int r_25), (0, .ref x), (1, .int i1), (2, .int i2)]) hx hb dX10_plan_413 hl ?o118 rfl (fun ls hl => ?_)
                                  case o118 => decide
                                  refine lv_iload hx hb dX10_plan_415 (lv_at hl 0 rfl) ?_
                                  refine hb_if_eq (zx := 0) (tgt := 431) hx hb ?o119 dX10_plan_417 ?o120 (fun c_65 => ?_) (fun c_65 => absurd c_65 ?o121)
                                  case o119 => decide
                                  case o120 => decide
                                  case o121 => decide
                                  have hm12 : hx_m12 ia372_qm := (fun k hk => by have q := hT.ei (gqm.S hM) tt_105 (k := k) hk; rw [nia372_qm] at q; exact q)
                                  have hvb := hx_V_b hm12
                                  refine lv_goto (tgt := 204) hx hb dX10_plan_431 ?o122 ?_
                                  case o122 => decide
                                  have zk_0 : (0 : Int32).toInt = 0 := ?o123
                                  case o123 => decide
                                  refine ih204 iv204_4 iv204_5 (0 : Int32) ia372_qm _ _ hL1 hl1 (i32_r _).1 (i32_r _).2 (i32_r _).1 (i32_r _).2 ?o124 ?o125 hm12 ls ?o126 hW hT hM ffv_1 ffw27_x_75 fx_17 pi0 nia372_qm (lv_sub hl [0, 5, 6, 7, 8, 9, 10] rfl)
                                  case o124 => decide
                                  case o125 => decide
                                  case o126 => omega
                                · skip
                                  refine lv_aload_n hx hb dX10_plan_377 rfl (lv_at hl 8 rfl) ?_
                                  refine hk_getr hx hb hts hC_10 hown hW (gx.S hM) tt_10 79 ?o127 rfl kw_1222 ⟨rfl, rfl, rfl⟩ ((hM.o gx trivial rfl).2.trans f_x_79) dX10_plan_378 ?_
                                  case o127 => decide
                                  refine lv_iload hx hb dX10_plan_381 (lv_at hl 0 rfl) ?_
                                  refine hx_iald hx hb hW hT (gqm.S hM) tt_105 rfl ⟨?o128, ?o129⟩ dX10_plan_383 (fun x_66 ex_66 lx_66 ux_66 => ?_)
                                  case o128 => omega
                                  case o129 => omega
                                  have ax_66 : x_66 = ia372_qm iv372_10.toNatClampNeg := ex_66.trans (congrFun nia372_qm _)
                                  refine lv_bipush (v := 12) hx hb dX10_plan_384 ?o130 ?_
                                  case o130 => decide
                                  refine hb_icmp_ne (zx := x_66.toInt) (zy := 12) (tgt := 403) hx hb rfl ?o131 dX10_plan_386 ?o132 (fun c_67 => ?_) (fun c_67 => ?_)
                                  case o131 => decide
                                  case o132 => decide
                                  · skip
                                    refine lv_iload hx hb dX10_plan_403 (lv_at hl 0 rfl) ?_
                                    refine hb_if_lt (zx := iv372_10.toInt) (tgt := 412) hx hb rfl dX10_plan_405 ?o133 (fun c_68 => ?o134) (fun c_68 => ?_)
                                    case o133 => decide
                                    case o134 =>
                                      exfalso
                                      omega
                                    refine lv_iconst (v := 1) hx hb dX10_plan_408 ?o135 ?_
                                    case o135 => decide
                                    refine lv_goto (tgt := 413) hx hb dX10_plan_409 ?o136 ?_
                                    case o136 => decide
                                    refine lv_istore (lv' := [(6, .int (1 : Int32)), (10, .int iv372_10), (9, .int iv221_9), (8, .int iv221_8), (7, .int iv221_7), (5, .int iv204_5), (4, .int iv204_4), (3, .int r_25), (0, .ref x), (1, .int i1), (2, .int i2)]) hx hb dX10_plan_413 hl ?o137 rfl (fun ls hl => ?_)
                                    case o137 => decide
                                    refine lv_iload hx hb dX10_plan_415 (lv_at hl 0 rfl) ?_
                                    refine hb_if_eq (zx := 1) (tgt := 431) hx hb ?o138 dX10_plan_417 ?o139 (fun c_69 => absurd c_69 ?o140) (fun c_69 => ?_)
                                    case o138 => decide
                                    case o139 => decide
                                    case o140 => decide
                                    refine lv_aload_n hx hb dX10_plan_420 rfl (lv_at hl 8 rfl) ?_
                                    refine hk_getr hx hb hts hC_10 hown hW (gx.S hM) tt_10 79 ?o141 rfl kw_1222 ⟨rfl, rfl, rfl⟩ ((hM.o gx trivial rfl).2.trans f_x_79) dX10_plan_421 ?_
                                    case o141 => decide
                                    refine lv_iload hx hb dX10_plan_424 (lv_at hl 1 rfl) ?_
                                    refine lv_dup2_11 hx hb dX10_plan_426 rfl rfl ?_
                                    refine hx_iald hx hb hW hT (gqm.S hM) tt_105 rfl ⟨?o142, ?o143⟩ dX10_plan_427 (fun x_70 ex_70 lx_70 ux_70 => ?_)
                                    case o142 => omega
                                    case o143 => omega
                                    have ax_70 : x_70 = ia372_qm iv372_10.toNatClampNeg := ex_70.trans (congrFun nia372_qm _)
                                    obtain rfl : x_66 = x_70 := ex_66.trans ex_70.symm
                                    refine lv_iconst (v := 1) hx hb dX10_plan_428 ?o144 ?_
                                    case o144 => decide
                                    refine lv_iadd hx hb dX10_plan_429 ?_
                                    have rg_71 := i32_r x_66
                                    refine lv_topi (fun x_72 ex_72 => ?_)
                                    have zx_72 : x_72.toInt = x_66.toInt + 1 := ?o145
                                    case o145 =>
                                      rw [ex_72]
                                      refine i32_add rfl ?o146 ?o147 ?o148
                                      case o146 => decide
                                      case o147 => omega
                                      case o148 => omega
                                    have nia372_qmO := nia372_qm
                                    refine hx_iast hx hb hW hT (hx_S.rf (M := [(105, 0)])) (gqm.S hM) tt_105 rfl ⟨?o149, ?o150⟩ rfl ⟨?o151, ?o152⟩ (List.mem_singleton.mpr rfl) dX10_plan_430 (fun H locs h_73 eh_73 hW hT hs => ?_)
                                    case o149 => omega
                                    case o150 => omega
                                    case o151 => omega
                                    case o152 => omega
                                    replace ffv_1 := (hs.o (gx.S hM) trivial rfl).1.trans ffv_1
                                    replace ffw27_x_75 := (hs.o (gx.S hM) trivial rfl).1.trans ffw27_x_75
                                    replace fx_17 := (hs.o (gx.S hM) trivial rfl).1.trans fx_17
                                    replace pi0 : ∀ j : Nat, (j : Int) < (h_73.2.1 x 75).toInt → 1 ≤ (h_73.2.1 qf j).toInt := by
                                      intro j hj; rw [(hs.o (gx.S hM) trivial rfl).1] at hj; rw [(hs.a (gqf.S hM) rfl j).1]; exact pi0 j hj
                                    replace hM := hM.tr (hs.mono ?o153)
                                    case o153 => decide
                                    obtain ⟨fa_74, dfa_74⟩ : ∃ g : Nat → Int32, g = hx_up ia372_qm iv372_10.toNatClampNeg x_72 := ⟨_, rfl⟩
                                    have nfa_74 : h_73.2.1 qm = fa_74 := ?o154
                                    case o154 =>
                                      rw [eh_73, dfa_74, ← nia372_qmO]
                                      exact hx_pi_fun _ _ _ _
                                    have hvq := (hx_V_up ?o155 ?o156 ax_66 dfa_74).2 ?o157
                                    case o155 => omega
                                    case o156 => omega
                                    case o157 => omega
                                    have hwq := hx_w_b (i := (fw27_x_75.toInt - 1 : Int))
                                    have hm12 : hx_m12 fa_74 := (fun k hk => by have q := hT.ei (gqm.S hM) tt_105 (k := k) hk; rw [nfa_74] at q; exact q)
                                    have hvb := hx_V_b hm12
                                    refine lv_goto (tgt := 204) hx hb dX10_plan_431 ?o158 ?_
                                    case o158 => decide
                                    have zk_1 : (1 : Int32).toInt = 1 := ?o159
                                    case o159 => decide
                                    refine ih204 iv204_4 iv204_5 (1 : Int32) fa_74 _ _ hL1 h_73 (i32_r _).1 (i32_r _).2 (i32_r _).1 (i32_r _).2 ?o160 ?o161 hm12 ls ?o162 hW hT hM ffv_1 ffw27_x_75 fx_17 pi0 nfa_74 (lv_sub hl [0, 5, 6, 7, 8, 9, 10] rfl)
                                    case o160 => decide
                                    case o161 => decide
                                    case o162 => omega
                                  · skip
                                    refine lv_aload_n hx hb dX10_plan_389 rfl (lv_at hl 8 rfl) ?_
                                    refine hk_getr hx hb hts hC_10 hown hW (gx.S hM) tt_10 79 ?o163 rfl kw_1222 ⟨rfl, rfl, rfl⟩ ((hM.o gx trivial rfl).2.trans f_x_79) dX10_plan_390 ?_
                                    case o163 => decide
                                    refine lv_iload hx hb dX10_plan_393 (lv_at hl 0 rfl) ?_
                                    refine lv_iconst (v := 0) hx hb dX10_plan_395 ?o164 ?_
                                    case o164 => decide
                                    have nia372_qmO := nia372_qm
                                    refine hx_iast hx hb hW hT (hx_S.rf (M := [(105, 0)])) (gqm.S hM) tt_105 rfl ⟨?o165, ?o166⟩ rfl ?o167 (List.mem_singleton.mpr rfl) dX10_plan_396 (fun H locs h_75 eh_75 hW hT hs => ?_)
                                    case o165 => omega
                                    case o166 => omega
                                    case o167 => decide
                                    replace ffv_1 := (hs.o (gx.S hM) trivial rfl).1.trans ffv_1
                                    replace ffw27_x_75 := (hs.o (gx.S hM) trivial rfl).1.trans ffw27_x_75
                                    replace fx_17 := (hs.o (gx.S hM) trivial rfl).1.trans fx_17
                                    replace pi0 : ∀ j : Nat, (j : Int) < (h_75.2.1 x 75).toInt → 1 ≤ (h_75.2.1 qf j).toInt := by
                                      intro j hj; rw [(hs.o (gx.S hM) trivial rfl).1] at hj; rw [(hs.a (gqf.S hM) rfl j).1]; exact pi0 j hj
                                    replace hM := hM.tr (hs.mono ?o168)
                                    case o168 => decide
                                    obtain ⟨fa_76, dfa_76⟩ : ∃ g : Nat → Int32, g = hx_up ia372_qm iv372_10.toNatClampNeg (0 : Int32) := ⟨_, rfl⟩
                                    have nfa_76 : h_75.2.1 qm = fa_76 := ?o169
                                    case o169 =>
                                      rw [eh_75, dfa_76, ← nia372_qmO]
                                      exact hx_pi_fun _ _ _ _
                                    obtain ⟨x_77, ex_77⟩ : ∃ y : Int32, y = iv372_10 + Int32.ofInt (-1) := ⟨_, rfl⟩
                                    have rg_78 := i32_r iv372_10
                                    have zx_77 : x_77.toInt = iv372_10.toInt + (-1) := ?o170
                                    case o170 =>
                                      rw [ex_77]
                                      refine i32_add rfl ?o171 ?o172 ?o173
                                      case o171 => decide
                                      case o172 => omega
                                      case o173 => omega
                                    refine lv_iinc (v := x_77) (lv' := [(10, .int x_77), (9, .int iv221_9), (8, .int iv221_8), (7, .int iv221_7), (6, .int iv204_6), (5, .int iv204_5), (4, .int iv204_4), (3, .int r_25), (0, .ref x), (1, .int i1), (2, .int i2)]) hx hb dX10_plan_397 hl (k := 0) rfl ex_77.symm ?o174 rfl (fun ls hl => ?_)
                                    case o174 => decide
                                    refine lv_goto (tgt := 372) hx hb dX10_plan_400 ?o175 ?_
                                    case o175 => decide
                                    refine ih372 x_77 fa_76 _ _ hL1 h_75 ?o176 ?o177 (by have q := (hx_V_up (by omega) (by omega) ax_66 dfa_76).1 (by omega) (by decide); rw [show x_77.toInt = iv372_10.toInt - 1 from by omega]; omega) ?o178 ls ?o179 hW hT hM ffv_1 ffw27_x_75 fx_17 pi0 nfa_76 (lv_sub hl [0, 1, 2, 3, 4, 5, 6, 7, 8, 9, 10] rfl)
                                    case o176 => omega
                                    case o177 => omega
                                    case o178 => omega
                                    case o179 => omega
                            refine loop372 5 x_62 ia204_qm _ _ hL1 hl1 ?o180 ?o181 (by rw [zx_62]) ?o182 ls ?o183 hW hT hM ffv_1 ffw27_x_75 fx_17 pi0 nia204_qm hl
                            case o180 => omega
                            case o181 => omega
                            case o182 => omega
                            case o183 => omega
                          · skip
                            refine lv_iload hx hb dX10_plan_303 (lv_at hl 2 rfl) ?_
                            refine lv_iload hx hb dX10_plan_305 (lv_at hl 6 rfl) ?_
                            refine hb_icmp_lt (zx := iv221_8.toInt) (zy := iv204_4.toInt) (tgt := 324) hx hb rfl rfl dX10_plan_307 ?o184 (fun c_79 => ?_) (fun c_79 => ?_)
                            case o184 => decide
                            · skip
                              refine lv_iload hx hb dX10_plan_324 (lv_at hl 2 rfl) ?_
                              refine lv_istore (lv' := [(4, .int iv221_8), (10, .int iv221_10), (9, .int iv221_9), (8, .int iv221_8), (7, .int iv221_7), (6, .int iv204_6), (5, .int iv204_5), (3, .int r_25), (0, .ref x), (1, .int i1), (2, .int i2)]) hx hb dX10_plan_326 hl ?o185 rfl (fun ls hl => ?_)
                              case o185 => decide
                              refine lv_iload hx hb dX10_plan_328 (lv_at hl 2 rfl) ?_
                              refine lv_istore (lv' := [(5, .int iv221_9), (4, .int iv221_8), (10, .int iv221_10), (9, .int iv221_9), (8, .int iv221_8), (7, .int iv221_7), (6, .int iv204_6), (3, .int r_25), (0, .ref x), (1, .int i1), (2, .int i2)]) hx hb dX10_plan_330 hl ?o186 rfl (fun ls hl => ?_)
                              case o186 => decide
                              refine lv_iconst (v := 0) hx hb dX10_plan_332 ?o187 ?_
                              case o187 => decide
                              refine lv_istore (lv' := [(10, .int (0 : Int32)), (5, .int iv221_9), (4, .int iv221_8), (9, .int iv221_9), (8, .int iv221_8), (7, .int iv221_7), (6, .int iv204_6), (3, .int r_25), (0, .ref x), (1, .int i1), (2, .int i2)]) hx hb dX10_plan_333 hl ?o188 rfl (fun ls hl => ?_)
                              case o188 => decide
                              have loop335 : ∀ (n335 : Nat) (iv335_10 : Int32) (H : Heap) (locs : List Loc) (hL1 : List Nat) (hl1 : hx_h), 0 ≤ iv335_10.toInt → iv335_10.toInt ≤ 4 → ∀ (ls : Array Slot), 4 - iv335_10.toInt < (n335 : Int) → hx_W T_tb (P_ty dA) (dC, dI) vwCl (hx_A L sz) s.heap hL1 hl1 s H locs → hx_T T_tb hL1 hl1 → hx_S T_tb [(10, 67), (10, 68), (10, 69), (10, 70), (10, 71), (10, 72), (10, 75), (100, 0), (101, 0), (102, 0), (103, 0), (104, 0), (105, 0), (106, 0), (107, 0)] L h hL1 hl1 → hl1.2.1 x 20 = fv_1 → hl1.2.1 x 75 = fw27_x_75 → hl1.2.1 x 0 = x_17 → (∀ j : Nat, (j : Int) < (hl1.2.1 x 75).toInt → 1 ≤ (hl1.2.1 qf j).toInt) → hl1.2.1 qm = ia204_qm → lv_has ls 12 [(10, .int iv335_10), (5, .int iv221_9), (4, .int iv221_8), (9, .int iv221_9), (8, .int iv221_8), (7, .int iv221_7), (6, .int iv204_6), (3, .int r_25), (0, .ref x), (1, .int i1), (2, .int i2)] → W p l e ({ frames := 3, cells := 0, slots := 0, locals := 71 }) s m ([.ref x, .int i1, .int i2] : List Value).toArray below meth c H locs 0 0 (MQ below (va_Qi (fun (r : Int32) (u : List Nat × hx_h) => (True) ∧ hx_T T_tb u.1 u.2 ∧ hx_S T_tb [(10, 67), (10, 68), (10, 69), (10, 70), (10, 71), (10, 72), (10, 75), (100, 0), (101, 0), (102, 0), (103, 0), (104, 0), (105, 0), (106, 0), (107, 0)] L h u.1 u.2) (hx_E T_tb (P_ty dA) (dC, dI) vwCl (hx_A L sz)) (hx_A L sz)) ([.ref x, .int i1, .int i2] : List Value).toArray s 0 0 (hx_A L sz)) (F0 m 335 ls []) := by
                                intro n335
                                induction n335 with
                                | zero => intro iv335_10 H locs hL1 hl1 bliv335_10 buiv335_10  ls hn335; exfalso; omega
                                | succ n335 ih335 =>
                                  intro iv335_10 H locs hL1 hl1 bliv335_10 buiv335_10  ls hn335 hW hT hM ffv_1 ffw27_x_75 fx_17 pi0 nia204_qm hl
                                  refine lv_iload hx hb dX10_plan_335 (lv_at hl 0 rfl) ?_
                                  refine lv_aload_n hx hb dX10_plan_337 rfl (lv_at hl 8 rfl) ?_
                                  refine hk_geti hx hb hts hC_10 hown hW (gx.S hM) tt_10 75 ?o189 rfl kw_1218 ⟨rfl, rfl, rfl⟩ ffw27_x_75 dX10_plan_338 ?_
                                  case o189 => decide
                                  refine hb_icmp_ge (zx := iv335_10.toInt) (zy := fw27_x_75.toInt) (tgt := 364) hx hb rfl rfl dX10_plan_341 ?o190 (fun c_80 => ?_) (fun c_80 => ?_)
                                  case o190 => decide
                                  · skip
                                    refine lv_aload_n hx hb dX10_plan_364 rfl (lv_at hl 8 rfl) ?_
                                    refine hk_geti hx hb hts hC_10 hown hW (gx.S hM) tt_10 75 ?o191 rfl kw_1218 ⟨rfl, rfl, rfl⟩ ffw27_x_75 dX10_plan_365 ?_
                                    case o191 => decide
                                    refine lv_iconst (v := 1) hx hb dX10_plan_368 ?o192 ?_
                                    case o192 => decide
                                    refine lv_isub hx hb dX10_plan_369 ?_
                                    have rg_81 := i32_r fw27_x_75
                                    refine lv_topi (fun x_82 ex_82 => ?_)
                                    have zx_82 : x_82.toInt = fw27_x_75.toInt - 1 := ?o193
                                    case o193 =>
                                      rw [ex_82]
                                      refine i32_sub rfl ?o194 ?o195 ?o196
                                      case o194 => decide
                                      case o195 => omega
                                      case o196 => omega
                                    refine lv_istore (lv' := [(10, .int x_82), (5, .int iv221_9), (4, .int iv221_8), (9, .int iv221_9), (8, .int iv221_8), (7, .int iv221_7), (6, .int iv204_6), (3, .int r_25), (0, .ref x), (1, .int i1), (2, .int i2)]) hx hb dX10_plan_370 hl ?o197 rfl (fun ls hl => ?_)
                                    case o197 => decide
                                    have loop372 : ∀ (n372 : Nat) (iv372_10 : Int32) (ia372_qm : Nat → Int32) (H : Heap) (locs : List Loc) (hL1 : List Nat) (hl1 : hx_h), -1 ≤ iv372_10.toInt → iv372_10.toInt ≤ 3 → (hx_V ia372_qm + hx_w iv372_10.toInt = hx_V ia204_qm + hx_w (fw27_x_75.toInt - 1)) → (iv372_10.toInt < fw27_x_75.toInt) → ∀ (ls : Array Slot), iv372_10.toInt + 1 < (n372 : Int) → hx_W T_tb (P_ty dA) (dC, dI) vwCl (hx_A L sz) s.heap hL1 hl1 s H locs → hx_T T_tb hL1 hl1 → hx_S T_tb [(10, 67), (10, 68), (10, 69), (10, 70), (10, 71), (10, 72), (10, 75), (100, 0), (101, 0), (102, 0), (103, 0), (104, 0), (105, 0), (106, 0), (107, 0)] L h hL1 hl1 → hl1.2.1 x 20 = fv_1 → hl1.2.1 x 75 = fw27_x_75 → hl1.2.1 x 0 = x_17 → (∀ j : Nat, (j : Int) < (hl1.2.1 x 75).toInt → 1 ≤ (hl1.2.1 qf j).toInt) → hl1.2.1 qm = ia372_qm → lv_has ls 12 [(10, .int iv372_10), (5, .int iv221_9), (4, .int iv221_8), (9, .int iv221_9), (8, .int iv221_8), (7, .int iv221_7), (6, .int iv204_6), (3, .int r_25), (0, .ref x), (1, .int i1), (2, .int i2)] → W p l e ({ frames := 3, cells := 0, slots := 0, locals := 71 }) s m ([.ref x, .int i1, .int i2] : List Value).toArray below meth c H locs 0 0 (MQ below (va_Qi (fun (r : Int32) (u : List Nat × hx_h) => (True) ∧ hx_T T_tb u.1 u.2 ∧ hx_S T_tb [(10, 67), (10, 68), (10, 69), (10, 70), (10, 71), (10, 72), (10, 75), (100, 0), (101, 0), (102, 0), (103, 0), (104, 0), (105, 0), (106, 0), (107, 0)] L h u.1 u.2) (hx_E T_tb (P_ty dA) (dC, dI) vwCl (hx_A L sz)) (hx_A L sz)) ([.ref x, .int i1, .int i2] : List Value).toArray s 0 0 (hx_A L sz)) (F0 m 372 ls []) := by
                                      intro n372
                                      induction n372 with
                                      | zero => intro iv372_10 ia372_qm H locs hL1 hl1 bliv372_10 buiv372_10 vi372_0 vi372_1 ls hn372; exfalso; omega
                                      | succ n372 ih372 =>
                                        intro iv372_10 ia372_qm H locs hL1 hl1 bliv372_10 buiv372_10 vi372_0 vi372_1 ls hn372 hW hT hM ffv_1 ffw27_x_75 fx_17 pi0 nia372_qm hl
                                        refine lv_iload hx hb dX10_plan_372 (lv_at hl 0 rfl) ?_
                                        refine hb_if_lt (zx := iv372_10.toInt) (tgt := 403) hx hb rfl dX10_plan_374 ?o198 (fun c_83 => ?_) (fun c_83 => ?_)
                                        case o198 => decide
                                        · skip
                                          refine lv_iload hx hb dX10_plan_403 (lv_at hl 0 rfl) ?_
                                          refine hb_if_lt (zx := iv372_10.toInt) (tgt := 412) hx hb rfl dX10_plan_405 ?o199 (fun c_84 => ?_) (fun c_84 => ?o200)
                                          case o199 => decide
                                          case o200 =>
                                            exfalso
                                            omega
                                          refine lv_iconst (v := 0) hx hb dX10_plan_412 ?o201 ?_
                                          case o201 => decide
                                          refine lv_istore (lv' := [(6, .int (0 : Int32)), (10, .int iv372_10), (5, .int iv221_9), (4, .int iv221_8), (9, .int iv221_9), (8, .int iv221_8), (7, .int iv221_7), (3, .int r_25), (0, .ref x), (1, .int i1), (2, .int i2)]) hx hb dX10_plan_413 hl ?o202 rfl (fun ls hl => ?_)
                                          case o202 => decide
                                          refine lv_iload hx hb dX10_plan_415 (lv_at hl 0 rfl) ?_
                                          refine hb_if_eq (zx := 0) (tgt := 431) hx hb ?o203 dX10_plan_417 ?o204 (fun c_85 => ?_) (fun c_85 => absurd c_85 ?o205)
                                          case o203 => decide
                                          case o204 => decide
                                          case o205 => decide
                                          have hm12 : hx_m12 ia372_qm := (fun k hk => by have q := hT.ei (gqm.S hM) tt_105 (k := k) hk; rw [nia372_qm] at q; exact q)
                                          have hvb := hx_V_b hm12
                                          refine lv_goto (tgt := 204) hx hb dX10_plan_431 ?o206 ?_
                                          case o206 => decide
                                          have zk_0 : (0 : Int32).toInt = 0 := ?o207
                                          case o207 => decide
                                          refine ih204 iv221_8 iv221_9 (0 : Int32) ia372_qm _ _ hL1 hl1 (i32_r _).1 (i32_r _).2 (i32_r _).1 (i32_r _).2 ?o208 ?o209 hm12 ls ?o210 hW hT hM ffv_1 ffw27_x_75 fx_17 pi0 nia372_qm (lv_sub hl [0, 2, 3, 7, 8, 9, 10] rfl)
                                          case o208 => decide
                                          case o209 => decide
                                          case o210 => omega
                                        · skip
                                          refine lv_aload_n hx hb dX10_plan_377 rfl (lv_at hl 8 rfl) ?_
                                          refine hk_getr hx hb hts hC_10 hown hW (gx.S hM) tt_10 79 ?o211 rfl kw_1222 ⟨rfl, rfl, rfl⟩ ((hM.o gx trivial rfl).2.trans f_x_79) dX10_plan_378 ?_
                                          case o211 => decide
                                          refine lv_iload hx hb dX10_plan_381 (lv_at hl 0 rfl) ?_
                                          refine hx_iald hx hb hW hT (gqm.S hM) tt_105 rfl ⟨?o212, ?o213⟩ dX10_plan_383 (fun x_86 ex_86 lx_86 ux_86 => ?_)
                                          case o212 => omega
                                          case o213 => omega
                                          have ax_86 : x_86 = ia372_qm iv372_10.toNatClampNeg := ex_86.trans (congrFun nia372_qm _)
                                          refine lv_bipush (v := 12) hx hb dX10_plan_384 ?o214 ?_
                                          case o214 => decide
                                          refine hb_icmp_ne (zx := x_86.toInt) (zy := 12) (tgt := 403) hx hb rfl ?o215 dX10_plan_386 ?o216 (fun c_87 => ?_) (fun c_87 => ?_)
                                          case o215 => decide
                                          case o216 => decide
                                          · skip
                                            refine lv_iload hx hb dX10_plan_403 (lv_at hl 0 rfl) ?_
                                            refine hb_if_lt (zx := iv372_10.toInt) (tgt := 412) hx hb rfl dX10_plan_405 ?o217 (fun c_88 => ?o218) (fun c_88 => ?_)
                                            case o217 => decide
                                            case o218 =>
                                              exfalso
                                              omega
                                            refine lv_iconst (v := 1) hx hb dX10_plan_408 ?o219 ?_
                                            case o219 => decide
                                            refine lv_goto (tgt := 413) hx hb dX10_plan_409 ?o220 ?_
                                            case o220 => decide
                                            refine lv_istore (lv' := [(6, .int (1 : Int32)), (10, .int iv372_10), (5, .int iv221_9), (4, .int iv221_8), (9, .int iv221_9), (8, .int iv221_8), (7, .int iv221_7), (3, .int r_25), (0, .ref x), (1, .int i1), (2, .int i2)]) hx hb dX10_plan_413 hl ?o221 rfl (fun ls hl => ?_)
                                            case o221 => decide
                                            refine lv_iload hx hb dX10_plan_415 (lv_at hl 0 rfl) ?_
                                            refine hb_if_eq (zx := 1) (tgt := 431) hx hb ?o222 dX10_plan_417 ?o223 (fun c_89 => absurd c_89 ?o224) (fun c_89 => ?_)
                                            case o222 => decide
                                            case o223 => decide
                                            case o224 => decide
                                            refine lv_aload_n hx hb dX10_plan_420 rfl (lv_at hl 8 rfl) ?_
                                            refine hk_getr hx hb hts hC_10 hown hW (gx.S hM) tt_10 79 ?o225 rfl kw_1222 ⟨rfl, rfl, rfl⟩ ((hM.o gx trivial rfl).2.trans f_x_79) dX10_plan_421 ?_
                                            case o225 => decide
                                            refine lv_iload hx hb dX10_plan_424 (lv_at hl 1 rfl) ?_
                                            refine lv_dup2_11 hx hb dX10_plan_426 rfl rfl ?_
                                            refine hx_iald hx hb hW hT (gqm.S hM) tt_105 rfl ⟨?o226, ?o227⟩ dX10_plan_427 (fun x_90 ex_90 lx_90 ux_90 => ?_)
                                            case o226 => omega
                                            case o227 => omega
                                            have ax_90 : x_90 = ia372_qm iv372_10.toNatClampNeg := ex_90.trans (congrFun nia372_qm _)
                                            obtain rfl : x_86 = x_90 := ex_86.trans ex_90.symm
                                            refine lv_iconst (v := 1) hx hb dX10_plan_428 ?o228 ?_
                                            case o228 => decide
                                            refine lv_iadd hx hb dX10_plan_429 ?_
                                            have rg_91 := i32_r x_86
                                            refine lv_topi (fun x_92 ex_92 => ?_)
                                            have zx_92 : x_92.toInt = x_86.toInt + 1 := ?o229
                                            case o229 =>
                                              rw [ex_92]
                                              refine i32_add rfl ?o230 ?o231 ?o232
                                              case o230 => decide
                                              case o231 => omega
                                              case o232 => omega
                                            have nia372_qmO := nia372_qm
                                            refine hx_iast hx hb hW hT (hx_S.rf (M := [(105, 0)])) (gqm.S hM) tt_105 rfl ⟨?o233, ?o234⟩ rfl ⟨?o235, ?o236⟩ (List.mem_singleton.mpr rfl) dX10_plan_430 (fun H locs h_93 eh_93 hW hT hs => ?_)
                                            case o233 => omega
                                            case o234 => omega
                                            case o235 => omega
                                            case o236 => omega
                                            replace ffv_1 := (hs.o (gx.S hM) trivial rfl).1.trans ffv_1
                                            replace ffw27_x_75 := (hs.o (gx.S hM) trivial rfl).1.trans ffw27_x_75
                                            replace fx_17 := (hs.o (gx.S hM) trivial rfl).1.trans fx_17
                                            replace pi0 : ∀ j : Nat, (j : Int) < (h_93.2.1 x 75).toInt → 1 ≤ (h_93.2.1 qf j).toInt := by
                                              intro j hj; rw [(hs.o (gx.S hM) trivial rfl).1] at hj; rw [(hs.a (gqf.S hM) rfl j).1]; exact pi0 j hj
                                            replace hM := hM.tr (hs.mono ?o237)
                                            case o237 => decide
                                            obtain ⟨fa_94, dfa_94⟩ : ∃ g : Nat → Int32, g = hx_up ia372_qm iv372_10.toNatClampNeg x_92 := ⟨_, rfl⟩
                                            have nfa_94 : h_93.2.1 qm = fa_94 := ?o238
                                            case o238 =>
                                              rw [eh_93, dfa_94, ← nia372_qmO]
                                              exact hx_pi_fun _ _ _ _
                                            have hvq := (hx_V_up ?o239 ?o240 ax_86 dfa_94).2 ?o241
                                            case o239 => omega
                                            case o240 => omega
                                            case o241 => omega
                                            have hwq := hx_w_b (i := (fw27_x_75.toInt - 1 : Int))
                                            have hm12 : hx_m12 fa_94 := (fun k hk => by have q := hT.ei (gqm.S hM) tt_105 (k := k) hk; rw [nfa_94] at q; exact q)
                                            have hvb := hx_V_b hm12
                                            refine lv_goto (tgt := 204) hx hb dX10_plan_431 ?o242 ?_
                                            case o242 => decide
                                            have zk_1 : (1 : Int32).toInt = 1 := ?o243
                                            case o243 => decide
                                            refine ih204 iv221_8 iv221_9 (1 : Int32) fa_94 _ _ hL1 h_93 (i32_r _).1 (i32_r _).2 (i32_r _).1 (i32_r _).2 ?o244 ?o245 hm12 ls ?o246 hW hT hM ffv_1 ffw27_x_75 fx_17 pi0 nfa_94 (lv_sub hl [0, 2, 3, 7, 8, 9, 10] rfl)
                                            case o244 => decide
                                            case o245 => decide
                                            case o246 => omega
                                          · skip
                                            refine lv_aload_n hx hb dX10_plan_389 rfl (lv_at hl 8 rfl) ?_
                                            refine hk_getr hx hb hts hC_10 hown hW (gx.S hM) tt_10 79 ?o247 rfl kw_1222 ⟨rfl, rfl, rfl⟩ ((hM.o gx trivial rfl).2.trans f_x_79) dX10_plan_390 ?_
                                            case o247 => decide
                                            refine lv_iload hx hb dX10_plan_393 (lv_at hl 0 rfl) ?_
                                            refine lv_iconst (v := 0) hx hb dX10_plan_395 ?o248 ?_
                                            case o248 => decide
                                            have nia372_qmO := nia372_qm
                                            refine hx_iast hx hb hW hT (hx_S.rf (M := [(105, 0)])) (gqm.S hM) tt_105 rfl ⟨?o249, ?o250⟩ rfl ?o251 (List.mem_singleton.mpr rfl) dX10_plan_396 (fun H locs h_95 eh_95 hW hT hs => ?_)
                                            case o249 => omega
                                            case o250 => omega
                                            case o251 => decide
                                            replace ffv_1 := (hs.o (gx.S hM) trivial rfl).1.trans ffv_1
                                            replace ffw27_x_75 := (hs.o (gx.S hM) trivial rfl).1.trans ffw27_x_75
                                            replace fx_17 := (hs.o (gx.S hM) trivial rfl).1.trans fx_17
                                            replace pi0 : ∀ j : Nat, (j : Int) < (h_95.2.1 x 75).toInt → 1 ≤ (h_95.2.1 qf j).toInt := by
                                              intro j hj; rw [(hs.o (gx.S hM) trivial rfl).1] at hj; rw [(hs.a (gqf.S hM) rfl j).1]; exact pi0 j hj
                                            replace hM := hM.tr (hs.mono ?o252)
                                            case o252 => decide
                                            obtain ⟨fa_96, dfa_96⟩ : ∃ g : Nat → Int32, g = hx_up ia372_qm iv372_10.toNatClampNeg (0 : Int32) := ⟨_, rfl⟩
                                            have nfa_96 : h_95.2.1 qm = fa_96 := ?o253
                                            case o253 =>
                                              rw [eh_95, dfa_96, ← nia372_qmO]
                                              exact hx_pi_fun _ _ _ _
                                            obtain ⟨x_97, ex_97⟩ : ∃ y : Int32, y = iv372_10 + Int32.ofInt (-1) := ⟨_, rfl⟩
                                            have rg_98 := i32_r iv372_10
                                            have zx_97 : x_97.toInt = iv372_10.toInt + (-1) := ?o254
                                            case o254 =>
                                              rw [ex_97]
                                              refine i32_add rfl ?o255 ?o256 ?o257
                                              case o255 => decide
                                              case o256 => omega
                                              case o257 => omega
                                            refine lv_iinc (v := x_97) (lv' := [(10, .int x_97), (5, .int iv221_9), (4, .int iv221_8), (9, .int iv221_9), (8, .int iv221_8), (7, .int iv221_7), (6, .int iv204_6), (3, .int r_25), (0, .ref x), (1, .int i1), (2, .int i2)]) hx hb dX10_plan_397 hl (k := 0) rfl ex_97.symm ?o258 rfl (fun ls hl => ?_)
                                            case o258 => decide
                                            refine lv_goto (tgt := 372) hx hb dX10_plan_400 ?o259 ?_
                                            case o259 => decide
                                            refine ih372 x_97 fa_96 _ _ hL1 h_95 ?o260 ?o261 (by have q := (hx_V_up (by omega) (by omega) ax_86 dfa_96).1 (by omega) (by decide); rw [show x_97.toInt = iv372_10.toInt - 1 from by omega]; omega) ?o262 ls ?o263 hW hT hM ffv_1 ffw27_x_75 fx_17 pi0 nfa_96 (lv_sub hl [0, 1, 2, 3, 4, 5, 6, 7, 8, 9, 10] rfl)
                                            case o260 => omega
                                            case o261 => omega
                                            case o262 => omega
                                            case o263 => omega
                                    refine loop372 5 x_82 ia204_qm _ _ hL1 hl1 ?o264 ?o265 (by rw [zx_82]) ?o266 ls ?o267 hW hT hM ffv_1 ffw27_x_75 fx_17 pi0 nia204_qm hl
                                    case o264 => omega
                                    case o265 => omega
                                    case o266 => omega
                                    case o267 => omega
                                  · skip
                                    refine lv_aload_n hx hb dX10_plan_344 rfl (lv_at hl 8 rfl) ?_
                                    refine hx_getn hx hb hts hC_10 hown hW hT (gx.S hM) tt_10 80 ?o268 rfl kw_1223 ⟨rfl, rfl, rfl⟩ dX10_plan_345 (fun q_99 fq_99 gq_99 => ?_)
                                    case o268 => decide
                                    refine lv_iload hx hb dX10_plan_348 (lv_at hl 0 rfl) ?_
                                    refine lv_aload_n hx hb dX10_plan_350 rfl (lv_at hl 8 rfl) ?_
                                    refine hk_getr hx hb hts hC_10 hown hW (gx.S hM) tt_10 79 ?o269 rfl kw_1222 ⟨rfl, rfl, rfl⟩ ((hM.o gx trivial rfl).2.trans f_x_79) dX10_plan_351 ?_
                                    case o269 => decide
                                    refine lv_iload hx hb dX10_plan_354 (lv_at hl 0 rfl) ?_
                                    refine hx_iald hx hb hW hT (gqm.S hM) tt_105 rfl ⟨?o270, ?o271⟩ dX10_plan_356 (fun x_100 ex_100 lx_100 ux_100 => ?_)
                                    case o270 => omega
                                    case o271 => omega
                                    have ax_100 : x_100 = ia204_qm iv335_10.toNatClampNeg := ex_100.trans (congrFun nia204_qm _)
                                    refine hx_iast hx hb hW hT (hx_S.rf (M := [(106, 0)])) gq_99 tt_106 rfl ⟨?o272, ?o273⟩ rfl ⟨?o274, ?o275⟩ (List.mem_singleton.mpr rfl) dX10_plan_357 (fun H locs h_101 eh_101 hW hT hs => ?_)
                                    case o272 => omega
                                    case o273 => omega
                                    case o274 => omega
                                    case o275 => omega
                                    replace ffv_1 := (hs.o (gx.S hM) trivial rfl).1.trans ffv_1
                                    replace ffw27_x_75 := (hs.o (gx.S hM) trivial rfl).1.trans ffw27_x_75
                                    replace fx_17 := (hs.o (gx.S hM) trivial rfl).1.trans fx_17
                                    replace fq_99 := (hs.o (gx.S hM) trivial rfl).2.trans fq_99
                                    replace nia204_qm : h_101.2.1 qm = ia204_qm := (funext fun j => (hs.a (gqm.S hM) rfl j).1).trans nia204_qm
                                    replace ex_100 := ex_100.trans (hs.a (gqm.S hM) rfl _).1.symm
                                    replace pi0 : ∀ j : Nat, (j : Int) < (h_101.2.1 x 75).toInt → 1 ≤ (h_101.2.1 qf j).toInt := by
                                      intro j hj; rw [(hs.o (gx.S hM) trivial rfl).1] at hj; rw [(hs.a (gqf.S hM) rfl j).1]; exact pi0 j hj
                                    replace hM := hM.tr (hs.mono ?o276)
                                    case o276 => decide
                                    replace gq_99 := gq_99.S hs
                                    obtain ⟨x_102, ex_102⟩ : ∃ y : Int32, y = iv335_10 + Int32.ofInt 1 := ⟨_, rfl⟩
                                    have rg_103 := i32_r iv335_10
                                    have zx_102 : x_102.toInt = iv335_10.toInt + (1) := ?o277
                                    case o277 =>
                                      rw [ex_102]
                                      refine i32_add rfl ?o278 ?o279 ?o280
                                      case o278 => decide
                                      case o279 => omega
                                      case o280 => omega
                                    refine lv_iinc (v := x_102) (lv' := [(10, .int x_102), (5, .int iv221_9), (4, .int iv221_8), (9, .int iv221_9), (8, .int iv221_8), (7, .int iv221_7), (6, .int iv204_6), (3, .int r_25), (0, .ref x), (1, .int i1), (2, .int i2)]) hx hb dX10_plan_358 hl (k := 0) rfl ex_102.symm ?o281 rfl (fun ls hl => ?_)
                                    case o281 => decide
                                    refine lv_goto (tgt := 335) hx hb dX10_plan_361 ?o282 ?_
                                    case o282 => decide
                                    refine ih335 x_102 _ _ hL1 h_101 ?o283 ?o284  ls ?o285 hW hT hM ffv_1 ffw27_x_75 fx_17 pi0 nia204_qm (lv_sub hl [0, 1, 2, 3, 4, 5, 6, 7, 8, 9, 10] rfl)
                                    case o283 => omega
                                    case o284 => omega
                                    case o285 => omega
                              have zk_0 : (0 : Int32).toInt = 0 := ?o286
                              case o286 => decide
                              refine loop335 5 (0 : Int32) _ _ hL1 hl1 ?o287 ?o288  ls ?o289 hW hT hM ffv_1 ffw27_x_75 fx_17 pi0 nia204_qm hl
                              case o287 => decide
                              case o288 => decide
                              case o289 => omega
                            · skip
                              refine lv_iload hx hb dX10_plan_310 (lv_at hl 2 rfl) ?_
                              refine lv_iload hx hb dX10_plan_312 (lv_at hl 6 rfl) ?_
                              refine hb_icmp_ne (zx := iv221_8.toInt) (zy := iv204_4.toInt) (tgt := 364) hx hb rfl rfl dX10_plan_314 ?o290 (fun c_104 => ?_) (fun c_104 => ?_)
                              case o290 => decide
                              · skip
                                refine lv_aload_n hx hb dX10_plan_364 rfl (lv_at hl 8 rfl) ?_
                                refine hk_geti hx hb hts hC_10 hown hW (gx.S hM) tt_10 75 ?o291 rfl kw_1218 ⟨rfl, rfl, rfl⟩ ffw27_x_75 dX10_plan_365 ?_
                                case o291 => decide
                                refine lv_iconst (v := 1) hx hb dX10_plan_368 ?o292 ?_
                                case o292 => decide
                                refine lv_isub hx hb dX10_plan_369 ?_
                                have rg_105 := i32_r fw27_x_75
                                refine lv_topi (fun x_106 ex_106 => ?_)
                                have zx_106 : x_106.toInt = fw27_x_75.toInt - 1 := ?o293
                                case o293 =>
                                  rw [ex_106]
                                  refine i32_sub rfl ?o294 ?o295 ?o296
                                  case o294 => decide
                                  case o295 => omega
                                  case o296 => omega
                                refine lv_istore (lv' := [(10, .int x_106), (9, .int iv221_9), (8, .int iv221_8), (7, .int iv221_7), (6, .int iv204_6), (5, .int iv204_5), (4, .int iv204_4), (3, .int r_25), (0, .ref x), (1, .int i1), (2, .int i2)]) hx hb dX10_plan_370 hl ?o297 rfl (fun ls hl => ?_)
                                case o297 => decide
                                have loop372 : ∀ (n372 : Nat) (iv372_10 : Int32) (ia372_qm : Nat → Int32) (H : Heap) (locs : List Loc) (hL1 : List Nat) (hl1 : hx_h), -1 ≤ iv372_10.toInt → iv372_10.toInt ≤ 3 → (hx_V ia372_qm + hx_w iv372_10.toInt = hx_V ia204_qm + hx_w (fw27_x_75.toInt - 1)) → (iv372_10.toInt < fw27_x_75.toInt) → ∀ (ls : Array Slot), iv372_10.toInt + 1 < (n372 : Int) → hx_W T_tb (P_ty dA) (dC, dI) vwCl (hx_A L sz) s.heap hL1 hl1 s H locs → hx_T T_tb hL1 hl1 → hx_S T_tb [(10, 67), (10, 68), (10, 69), (10, 70), (10, 71), (10, 72), (10, 75), (100, 0), (101, 0), (102, 0), (103, 0), (104, 0), (105, 0), (106, 0), (107, 0)] L h hL1 hl1 → hl1.2.1 x 20 = fv_1 → hl1.2.1 x 75 = fw27_x_75 → hl1.2.1 x 0 = x_17 → (∀ j : Nat, (j : Int) < (hl1.2.1 x 75).toInt → 1 ≤ (hl1.2.1 qf j).toInt) → hl1.2.1 qm = ia372_qm → lv_has ls 12 [(10, .int iv372_10), (9, .int iv221_9), (8, .int iv221_8), (7, .int iv221_7), (6, .int iv204_6), (5, .int iv204_5), (4, .int iv204_4), (3, .int r_25), (0, .ref x), (1, .int i1), (2, .int i2)] → W p l e ({ frames := 3, cells := 0, slots := 0, locals := 71 }) s m ([.ref x, .int i1, .int i2] : List Value).toArray below meth c H locs 0 0 (MQ below (va_Qi (fun (r : Int32) (u : List Nat × hx_h) => (True) ∧ hx_T T_tb u.1 u.2 ∧ hx_S T_tb [(10, 67), (10, 68), (10, 69), (10, 70), (10, 71), (10, 72), (10, 75), (100, 0), (101, 0), (102, 0), (103, 0), (104, 0), (105, 0), (106, 0), (107, 0)] L h u.1 u.2) (hx_E T_tb (P_ty dA) (dC, dI) vwCl (hx_A L sz)) (hx_A L sz)) ([.ref x, .int i1, .int i2] : List Value).toArray s 0 0 (hx_A L sz)) (F0 m 372 ls []) := by
                                  intro n372
                                  induction n372 with
                                  | zero => intro iv372_10 ia372_qm H locs hL1 hl1 bliv372_10 buiv372_10 vi372_0 vi372_1 ls hn372; exfalso; omega
                                  | succ n372 ih372 =>
                                    intro iv372_10 ia372_qm H locs hL1 hl1 bliv372_10 buiv372_10 vi372_0 vi372_1 ls hn372 hW hT hM ffv_1 ffw27_x_75 fx_17 pi0 nia372_qm hl
                                    refine lv_iload hx hb dX10_plan_372 (lv_at hl 0 rfl) ?_
                                    refine hb_if_lt (zx := iv372_10.toInt) (tgt := 403) hx hb rfl dX10_plan_374 ?o298 (fun c_107 => ?_) (fun c_107 => ?_)
                                    case o298 => decide
                                    · skip
                                      refine lv_iload hx hb dX10_plan_403 (lv_at hl 0 rfl) ?_
                                      refine hb_if_lt (zx := iv372_10.toInt) (tgt := 412) hx hb rfl dX10_plan_405 ?o299 (fun c_108 => ?_) (fun c_108 => ?o300)
                                      case o299 => decide
                                      case o300 =>
                                        exfalso
                                        omega
                                      refine lv_iconst (v := 0) hx hb dX10_plan_412 ?o301 ?_
                                      case o301 => decide
                                      refine lv_istore (lv' := [(6, .int (0 : Int32)), (10, .int iv372_10), (9, .int iv221_9), (8, .int iv221_8), (7, .int iv221_7), (5, .int iv204_5), (4, .int iv204_4), (3, .int r_25), (0, .ref x), (1, .int i1), (2, .int i2)]) hx hb dX10_plan_413 hl ?o302 rfl (fun ls hl => ?_)
                                      case o302 => decide
                                      refine lv_iload hx hb dX10_plan_415 (lv_at hl 0 rfl) ?_
                                      refine hb_if_eq (zx := 0) (tgt := 431) hx hb ?o303 dX10_plan_417 ?o304 (fun c_109 => ?_) (fun c_109 => absurd c_109 ?o305)
                                      case o303 => decide
                                      case o304 => decide
                                      case o305 => decide
                                      have hm12 : hx_m12 ia372_qm := (fun k hk => by have q := hT.ei (gqm.S hM) tt_105 (k := k) hk; rw [nia372_qm] at q; exact q)
                                      have hvb := hx_V_b hm12
                                      refine lv_goto (tgt := 204) hx hb dX10_plan_431 ?o306 ?_
                                      case o306 => decide
                                      have zk_0 : (0 : Int32).toInt = 0 := ?o307
                                      case o307 => decide
                                      refine ih204 iv204_4 iv204_5 (0 : Int32) ia372_qm _ _ hL1 hl1 (i32_r _).1 (i32_r _).2 (i32_r _).1 (i32_r _).2 ?o308 ?o309 hm12 ls ?o310 hW hT hM ffv_1 ffw27_x_75 fx_17 pi0 nia372_qm (lv_sub hl [0, 5, 6, 7, 8, 9, 10] rfl)
                                      case o308 => decide
                                      case o309 => decide
                                      case o310 => omega
                                    · skip
                                      refine lv_aload_n hx hb dX10_plan_377 rfl (lv_at hl 8 rfl) ?_
                                      refine hk_getr hx hb hts hC_10 hown hW (gx.S hM) tt_10 79 ?o311 rfl kw_1222 ⟨rfl, rfl, rfl⟩ ((hM.o gx trivial rfl).2.trans f_x_79) dX10_plan_378 ?_
                                      case o311 => decide
                                      refine lv_iload hx hb dX10_plan_381 (lv_at hl 0 rfl) ?_
                                      refine hx_iald hx hb hW hT (gqm.S hM) tt_105 rfl ⟨?o312, ?o313⟩ dX10_plan_383 (fun x_110 ex_110 lx_110 ux_110 => ?_)
                                      case o312 => omega
                                      case o313 => omega
                                      have ax_110 : x_110 = ia372_qm iv372_10.toNatClampNeg := ex_110.trans (congrFun nia372_qm _)
                                      refine lv_bipush (v := 12) hx hb dX10_plan_384 ?o314 ?_
                                      case o314 => decide
                                      refine hb_icmp_ne (zx := x_110.toInt) (zy := 12) (tgt := 403) hx hb rfl ?o315 dX10_plan_386 ?o316 (fun c_111 => ?_) (fun c_111 => ?_)
                                      case o315 => decide
                                      case o316 => decide
                                      · skip
                                        refine lv_iload hx hb dX10_plan_403 (lv_at hl 0 rfl) ?_
                                        refine hb_if_lt (zx := iv372_10.toInt) (tgt := 412) hx hb rfl dX10_plan_405 ?o317 (fun c_112 => ?o318) (fun c_112 => ?_)
                                        case o317 => decide
                                        case o318 =>
                                          exfalso
                                          omega
                                        refine lv_iconst (v := 1) hx hb dX10_plan_408 ?o319 ?_
                                        case o319 => decide
                                        refine lv_goto (tgt := 413) hx hb dX10_plan_409 ?o320 ?_
                                        case o320 => decide
                                        refine lv_istore (lv' := [(6, .int (1 : Int32)), (10, .int iv372_10), (9, .int iv221_9), (8, .int iv221_8), (7, .int iv221_7), (5, .int iv204_5), (4, .int iv204_4), (3, .int r_25), (0, .ref x), (1, .int i1), (2, .int i2)]) hx hb dX10_plan_413 hl ?o321 rfl (fun ls hl => ?_)
                                        case o321 => decide
                                        refine lv_iload hx hb dX10_plan_415 (lv_at hl 0 rfl) ?_
                                        refine hb_if_eq (zx := 1) (tgt := 431) hx hb ?o322 dX10_plan_417 ?o323 (fun c_113 => absurd c_113 ?o324) (fun c_113 => ?_)
                                        case o322 => decide
                                        case o323 => decide
                                        case o324 => decide
                                        refine lv_aload_n hx hb dX10_plan_420 rfl (lv_at hl 8 rfl) ?_
                                        refine hk_getr hx hb hts hC_10 hown hW (gx.S hM) tt_10 79 ?o325 rfl kw_1222 ⟨rfl, rfl, rfl⟩ ((hM.o gx trivial rfl).2.trans f_x_79) dX10_plan_421 ?_
                                        case o325 => decide
                                        refine lv_iload hx hb dX10_plan_424 (lv_at hl 1 rfl) ?_
                                        refine lv_dup2_11 hx hb dX10_plan_426 rfl rfl ?_
                                        refine hx_iald hx hb hW hT (gqm.S hM) tt_105 rfl ⟨?o326, ?o327⟩ dX10_plan_427 (fun x_114 ex_114 lx_114 ux_114 => ?_)
                                        case o326 => omega
                                        case o327 => omega
                                        have ax_114 : x_114 = ia372_qm iv372_10.toNatClampNeg := ex_114.trans (congrFun nia372_qm _)
                                        obtain rfl : x_110 = x_114 := ex_110.trans ex_114.symm
                                        refine lv_iconst (v := 1) hx hb dX10_plan_428 ?o328 ?_
                                        case o328 => decide
                                        refine lv_iadd hx hb dX10_plan_429 ?_
                                        have rg_115 := i32_r x_110
                                        refine lv_topi (fun x_116 ex_116 => ?_)
                                        have zx_116 : x_116.toInt = x_110.toInt + 1 := ?o329
                                        case o329 =>
                                          rw [ex_116]
                                          refine i32_add rfl ?o330 ?o331 ?o332
                                          case o330 => decide
                                          case o331 => omega
                                          case o332 => omega
                                        have nia372_qmO := nia372_qm
                                        refine hx_iast hx hb hW hT (hx_S.rf (M := [(105, 0)])) (gqm.S hM) tt_105 rfl ⟨?o333, ?o334⟩ rfl ⟨?o335, ?o336⟩ (List.mem_singleton.mpr rfl) dX10_plan_430 (fun H locs h_117 eh_117 hW hT hs => ?_)
                                        case o333 => omega
                                        case o334 => omega
                                        case o335 => omega
                                        case o336 => omega
                                        replace ffv_1 := (hs.o (gx.S hM) trivial rfl).1.trans ffv_1
                                        replace ffw27_x_75 := (hs.o (gx.S hM) trivial rfl).1.trans ffw27_x_75
                                        replace fx_17 := (hs.o (gx.S hM) trivial rfl).1.trans fx_17
                                        replace pi0 : ∀ j : Nat, (j : Int) < (h_117.2.1 x 75).toInt → 1 ≤ (h_117.2.1 qf j).toInt := by
                                          intro j hj; rw [(hs.o (gx.S hM) trivial rfl).1] at hj; rw [(hs.a (gqf.S hM) rfl j).1]; exact pi0 j hj
                                        replace hM := hM.tr (hs.mono ?o337)
                                        case o337 => decide
                                        obtain ⟨fa_118, dfa_118⟩ : ∃ g : Nat → Int32, g = hx_up ia372_qm iv372_10.toNatClampNeg x_116 := ⟨_, rfl⟩
                                        have nfa_118 : h_117.2.1 qm = fa_118 := ?o338
                                        case o338 =>
                                          rw [eh_117, dfa_118, ← nia372_qmO]
                                          exact hx_pi_fun _ _ _ _
                                        have hvq := (hx_V_up ?o339 ?o340 ax_110 dfa_118).2 ?o341
                                        case o339 => omega
                                        case o340 => omega
                                        case o341 => omega
                                        have hwq := hx_w_b (i := (fw27_x_75.toInt - 1 : Int))
                                        have hm12 : hx_m12 fa_118 := (fun k hk => by have q := hT.ei (gqm.S hM) tt_105 (k := k) hk; rw [nfa_118] at q; exact q)
                                        have hvb := hx_V_b hm12
                                        refine lv_goto (tgt := 204) hx hb dX10_plan_431 ?o342 ?_
                                        case o342 => decide
                                        have zk_1 : (1 : Int32).toInt = 1 := ?o343
                                        case o343 => decide
                                        refine ih204 iv204_4 iv204_5 (1 : Int32) fa_118 _ _ hL1 h_117 (i32_r _).1 (i32_r _).2 (i32_r _).1 (i32_r _).2 ?o344 ?o345 hm12 ls ?o346 hW hT hM ffv_1 ffw27_x_75 fx_17 pi0 nfa_118 (lv_sub hl [0, 5, 6, 7, 8, 9, 10] rfl)
                                        case o344 => decide
                                        case o345 => decide
                                        case o346 => omega
                                      · skip
                                        refine lv_aload_n hx hb dX10_plan_389 rfl (lv_at hl 8 rfl) ?_
                                        refine hk_getr hx hb hts hC_10 hown hW (gx.S hM) tt_10 79 ?o347 rfl kw_1222 ⟨rfl, rfl, rfl⟩ ((hM.o gx trivial rfl).2.trans f_x_79) dX10_plan_390 ?_
                                        case o347 => decide
                                        refine lv_iload hx hb dX10_plan_393 (lv_at hl 0 rfl) ?_
                                        refine lv_iconst (v := 0) hx hb dX10_plan_395 ?o348 ?_
                                        case o348 => decide
                                        have nia372_qmO := nia372_qm
                                        refine hx_iast hx hb hW hT (hx_S.rf (M := [(105, 0)])) (gqm.S hM) tt_105 rfl ⟨?o349, ?o350⟩ rfl ?o351 (List.mem_singleton.mpr rfl) dX10_plan_396 (fun H locs h_119 eh_119 hW hT hs => ?_)
                                        case o349 => omega
                                        case o350 => omega
                                        case o351 => decide
                                        replace ffv_1 := (hs.o (gx.S hM) trivial rfl).1.trans ffv_1
                                        replace ffw27_x_75 := (hs.o (gx.S hM) trivial rfl).1.trans ffw27_x_75
                                        replace fx_17 := (hs.o (gx.S hM) trivial rfl).1.trans fx_17
                                        replace pi0 : ∀ j : Nat, (j : Int) < (h_119.2.1 x 75).toInt → 1 ≤ (h_119.2.1 qf j).toInt := by
                                          intro j hj; rw [(hs.o (gx.S hM) trivial rfl).1] at hj; rw [(hs.a (gqf.S hM) rfl j).1]; exact pi0 j hj
                                        replace hM := hM.tr (hs.mono ?o352)
                                        case o352 => decide
                                        obtain ⟨fa_120, dfa_120⟩ : ∃ g : Nat → Int32, g = hx_up ia372_qm iv372_10.toNatClampNeg (0 : Int32) := ⟨_, rfl⟩
                                        have nfa_120 : h_119.2.1 qm = fa_120 := ?o353
                                        case o353 =>
                                          rw [eh_119, dfa_120, ← nia372_qmO]
                                          exact hx_pi_fun _ _ _ _
                                        obtain ⟨x_121, ex_121⟩ : ∃ y : Int32, y = iv372_10 + Int32.ofInt (-1) := ⟨_, rfl⟩
                                        have rg_122 := i32_r iv372_10
                                        have zx_121 : x_121.toInt = iv372_10.toInt + (-1) := ?o354
                                        case o354 =>
                                          rw [ex_121]
                                          refine i32_add rfl ?o355 ?o356 ?o357
                                          case o355 => decide
                                          case o356 => omega
                                          case o357 => omega
                                        refine lv_iinc (v := x_121) (lv' := [(10, .int x_121), (9, .int iv221_9), (8, .int iv221_8), (7, .int iv221_7), (6, .int iv204_6), (5, .int iv204_5), (4, .int iv204_4), (3, .int r_25), (0, .ref x), (1, .int i1), (2, .int i2)]) hx hb dX10_plan_397 hl (k := 0) rfl ex_121.symm ?o358 rfl (fun ls hl => ?_)
                                        case o358 => decide
                                        refine lv_goto (tgt := 372) hx hb dX10_plan_400 ?o359 ?_
                                        case o359 => decide
                                        refine ih372 x_121 fa_120 _ _ hL1 h_119 ?o360 ?o361 (by have q := (hx_V_up (by omega) (by omega) ax_110 dfa_120).1 (by omega) (by decide); rw [show x_121.toInt = iv372_10.toInt - 1 from by omega]; omega) ?o362 ls ?o363 hW hT hM ffv_1 ffw27_x_75 fx_17 pi0 nfa_120 (lv_sub hl [0, 1, 2, 3, 4, 5, 6, 7, 8, 9, 10] rfl)
                                        case o360 => omega
                                        case o361 => omega
                                        case o362 => omega
                                        case o363 => omega
                                refine loop372 5 x_106 ia204_qm _ _ hL1 hl1 ?o364 ?o365 (by rw [zx_106]) ?o366 ls ?o367 hW hT hM ffv_1 ffw27_x_75 fx_17 pi0 nia204_qm hl
                                case o364 => omega
                                case o365 => omega
                                case o366 => omega
                                case o367 => omega
                              · skip
                                refine lv_iload hx hb dX10_plan_317 (lv_at hl 1 rfl) ?_
                                refine lv_iload hx hb dX10_plan_319 (lv_at hl 5 rfl) ?_
                                refine hb_icmp_ge (zx := iv221_9.toInt) (zy := iv204_5.toInt) (tgt := 364) hx hb rfl rfl dX10_plan_321 ?o368 (fun c_123 => ?_) (fun c_123 => ?_)
                                case o368 => decide
                                · skip
                                  refine lv_aload_n hx hb dX10_plan_364 rfl (lv_at hl 8 rfl) ?_
                                  refine hk_geti hx hb hts hC_10 hown hW (gx.S hM) tt_10 75 ?o369 rfl kw_1218 ⟨rfl, rfl, rfl⟩ ffw27_x_75 dX10_plan_365 ?_
                                  case o369 => decide
                                  refine lv_iconst (v := 1) hx hb dX10_plan_368 ?o370 ?_
                                  case o370 => decide
                                  refine lv_isub hx hb dX10_plan_369 ?_
                                  have rg_124 := i32_r fw27_x_75
                                  refine lv_topi (fun x_125 ex_125 => ?_)
                                  have zx_125 : x_125.toInt = fw27_x_75.toInt - 1 := ?o371
                                  case o371 =>
                                    rw [ex_125]
                                    refine i32_sub rfl ?o372 ?o373 ?o374
                                    case o372 => decide
                                    case o373 => omega
                                    case o374 => omega
                                  refine lv_istore (lv' := [(10, .int x_125), (9, .int iv221_9), (8, .int iv221_8), (7, .int iv221_7), (6, .int iv204_6), (5, .int iv204_5), (4, .int iv204_4), (3, .int r_25), (0, .ref x), (1, .int i1), (2, .int i2)]) hx hb dX10_plan_370 hl ?o375 rfl (fun ls hl => ?_)
                                  case o375 => decide
                                  have loop372 : ∀ (n372 : Nat) (iv372_10 : Int32) (ia372_qm : Nat → Int32) (H : Heap) (locs : List Loc) (hL1 : List Nat) (hl1 : hx_h), -1 ≤ iv372_10.toInt → iv372_10.toInt ≤ 3 → (hx_V ia372_qm + hx_w iv372_10.toInt = hx_V ia204_qm + hx_w (fw27_x_75.toInt - 1)) → (iv372_10.toInt < fw27_x_75.toInt) → ∀ (ls : Array Slot), iv372_10.toInt + 1 < (n372 : Int) → hx_W T_tb (P_ty dA) (dC, dI) vwCl (hx_A L sz) s.heap hL1 hl1 s H locs → hx_T T_tb hL1 hl1 → hx_S T_tb [(10, 67), (10, 68), (10, 69), (10, 70), (10, 71), (10, 72), (10, 75), (100, 0), (101, 0), (102, 0), (103, 0), (104, 0), (105, 0), (106, 0), (107, 0)] L h hL1 hl1 → hl1.2.1 x 20 = fv_1 → hl1.2.1 x 75 = fw27_x_75 → hl1.2.1 x 0 = x_17 → (∀ j : Nat, (j : Int) < (hl1.2.1 x 75).toInt → 1 ≤ (hl1.2.1 qf j).toInt) → hl1.2.1 qm = ia372_qm → lv_has ls 12 [(10, .int iv372_10), (9, .int iv221_9), (8, .int iv221_8), (7, .int iv221_7), (6, .int iv204_6), (5, .int iv204_5), (4, .int iv204_4), (3, .int r_25), (0, .ref x), (1, .int i1), (2, .int i2)] → W p l e ({ frames := 3, cells := 0, slots := 0, locals := 71 }) s m ([.ref x, .int i1, .int i2] : List Value).toArray below meth c H locs 0 0 (MQ below (va_Qi (fun (r : Int32) (u : List Nat × hx_h) => (True) ∧ hx_T T_tb u.1 u.2 ∧ hx_S T_tb [(10, 67), (10, 68), (10, 69), (10, 70), (10, 71), (10, 72), (10, 75), (100, 0), (101, 0), (102, 0), (103, 0), (104, 0), (105, 0), (106, 0), (107, 0)] L h u.1 u.2) (hx_E T_tb (P_ty dA) (dC, dI) vwCl (hx_A L sz)) (hx_A L sz)) ([.ref x, .int i1, .int i2] : List Value).toArray s 0 0 (hx_A L sz)) (F0 m 372 ls []) := by
                                    intro n372
                                    induction n372 with
                                    | zero => intro iv372_10 ia372_qm H locs hL1 hl1 bliv372_10 buiv372_10 vi372_0 vi372_1 ls hn372; exfalso; omega
                                    | succ n372 ih372 =>
                                      intro iv372_10 ia372_qm H locs hL1 hl1 bliv372_10 buiv372_10 vi372_0 vi372_1 ls hn372 hW hT hM ffv_1 ffw27_x_75 fx_17 pi0 nia372_qm hl
                                      refine lv_iload hx hb dX10_plan_372 (lv_at hl 0 rfl) ?_
                                      refine hb_if_lt (zx := iv372_10.toInt) (tgt := 403) hx hb rfl dX10_plan_374 ?o376 (fun c_126 => ?_) (fun c_126 => ?_)
                                      case o376 => decide
                                      · skip
                                        refine lv_iload hx hb dX10_plan_403 (lv_at hl 0 rfl) ?_
                                        refine hb_if_lt (zx := iv372_10.toInt) (tgt := 412) hx hb rfl dX10_plan_405 ?o377 (fun c_127 => ?_) (fun c_127 => ?o378)
                                        case o377 => decide
                                        case o378 =>
                                          exfalso
                                          omega
                                        refine lv_iconst (v := 0) hx hb dX10_plan_412 ?o379 ?_
                                        case o379 => decide
                                        refine lv_istore (lv' := [(6, .int (0 : Int32)), (10, .int iv372_10), (9, .int iv221_9), (8, .int iv221_8), (7, .int iv221_7), (5, .int iv204_5), (4, .int iv204_4), (3, .int r_25), (0, .ref x), (1, .int i1), (2, .int i2)]) hx hb dX10_plan_413 hl ?o380 rfl (fun ls hl => ?_)
                                        case o380 => decide
                                        refine lv_iload hx hb dX10_plan_415 (lv_at hl 0 rfl) ?_
                                        refine hb_if_eq (zx := 0) (tgt := 431) hx hb ?o381 dX10_plan_417 ?o382 (fun c_128 => ?_) (fun c_128 => absurd c_128 ?o383)
                                        case o381 => decide
                                        case o382 => decide
                                        case o383 => decide
                                        have hm12 : hx_m12 ia372_qm := (fun k hk => by have q := hT.ei (gqm.S hM) tt_105 (k := k) hk; rw [nia372_qm] at q; exact q)
                                        have hvb := hx_V_b hm12
                                        refine lv_goto (tgt := 204) hx hb dX10_plan_431 ?o384 ?_
                                        case o384 => decide
                                        have zk_0 : (0 : Int32).toInt = 0 := ?o385
                                        case o385 => decide
                                        refine ih204 iv204_4 iv204_5 (0 : Int32) ia372_qm _ _ hL1 hl1 (i32_r _).1 (i32_r _).2 (i32_r _).1 (i32_r _).2 ?o386 ?o387 hm12 ls ?o388 hW hT hM ffv_1 ffw27_x_75 fx_17 pi0 nia372_qm (lv_sub hl [0, 5, 6, 7, 8, 9, 10] rfl)
                                        case o386 => decide
                                        case o387 => decide
                                        case o388 => omega
                                      · skip
                                        refine lv_aload_n hx hb dX10_plan_377 rfl (lv_at hl 8 rfl) ?_
                                        refine hk_getr hx hb hts hC_10 hown hW (gx.S hM) tt_10 79 ?o389 rfl kw_1222 ⟨rfl, rfl, rfl⟩ ((hM.o gx trivial rfl).2.trans f_x_79) dX10_plan_378 ?_
                                        case o389 => decide
                                        refine lv_iload hx hb dX10_plan_381 (lv_at hl 0 rfl) ?_
                                        refine hx_iald hx hb hW hT (gqm.S hM) tt_105 rfl ⟨?o390, ?o391⟩ dX10_plan_383 (fun x_129 ex_129 lx_129 ux_129 => ?_)
                                        case o390 => omega
                                        case o391 => omega
                                        have ax_129 : x_129 = ia372_qm iv372_10.toNatClampNeg := ex_129.trans (congrFun nia372_qm _)
                                        refine lv_bipush (v := 12) hx hb dX10_plan_384 ?o392 ?_
                                        case o392 => decide
                                        refine hb_icmp_ne (zx := x_129.toInt) (zy := 12) (tgt := 403) hx hb rfl ?o393 dX10_plan_386 ?o394 (fun c_130 => ?_) (fun c_130 => ?_)
                                        case o393 => decide
                                        case o394 => decide
                                        · skip
                                          refine lv_iload hx hb dX10_plan_403 (lv_at hl 0 rfl) ?_
                                          refine hb_if_lt (zx := iv372_10.toInt) (tgt := 412) hx hb rfl dX10_plan_405 ?o395 (fun c_131 => ?o396) (fun c_131 => ?_)
                                          case o395 => decide
                                          case o396 =>
                                            exfalso
                                            omega
                                          refine lv_iconst (v := 1) hx hb dX10_plan_408 ?o397 ?_
                                          case o397 => decide
                                          refine lv_goto (tgt := 413) hx hb dX10_plan_409 ?o398 ?_
                                          case o398 => decide
                                          refine lv_istore (lv' := [(6, .int (1 : Int32)), (10, .int iv372_10), (9, .int iv221_9), (8, .int iv221_8), (7, .int iv221_7), (5, .int iv204_5), (4, .int iv204_4), (3, .int r_25), (0, .ref x), (1, .int i1), (2, .int i2)]) hx hb dX10_plan_413 hl ?o399 rfl (fun ls hl => ?_)
                                          case o399 => decide
                                          refine lv_iload hx hb dX10_plan_415 (lv_at hl 0 rfl) ?_
                                          refine hb_if_eq (zx := 1) (tgt := 431) hx hb ?o400 dX10_plan_417 ?o401 (fun c_132 => absurd c_132 ?o402) (fun c_132 => ?_)
                                          case o400 => decide
                                          case o401 => decide
                                          case o402 => decide
                                          refine lv_aload_n hx hb dX10_plan_420 rfl (lv_at hl 8 rfl) ?_
                                          refine hk_getr hx hb hts hC_10 hown hW (gx.S hM) tt_10 79 ?o403 rfl kw_1222 ⟨rfl, rfl, rfl⟩ ((hM.o gx trivial rfl).2.trans f_x_79) dX10_plan_421 ?_
                                          case o403 => decide
                                          refine lv_iload hx hb dX10_plan_424 (lv_at hl 1 rfl) ?_
                                          refine lv_dup2_11 hx hb dX10_plan_426 rfl rfl ?_
                                          refine hx_iald hx hb hW hT (gqm.S hM) tt_105 rfl ⟨?o404, ?o405⟩ dX10_plan_427 (fun x_133 ex_133 lx_133 ux_133 => ?_)
                                          case o404 => omega
                                          case o405 => omega
                                          have ax_133 : x_133 = ia372_qm iv372_10.toNatClampNeg := ex_133.trans (congrFun nia372_qm _)
                                          obtain rfl : x_129 = x_133 := ex_129.trans ex_133.symm
                                          refine lv_iconst (v := 1) hx hb dX10_plan_428 ?o406 ?_
                                          case o406 => decide
                                          refine lv_iadd hx hb dX10_plan_429 ?_
                                          have rg_134 := i32_r x_129
                                          refine lv_topi (fun x_135 ex_135 => ?_)
                                          have zx_135 : x_135.toInt = x_129.toInt + 1 := ?o407
                                          case o407 =>
                                            rw [ex_135]
                                            refine i32_add rfl ?o408 ?o409 ?o410
                                            case o408 => decide
                                            case o409 => omega
                                            case o410 => omega
                                          have nia372_qmO := nia372_qm
                                          refine hx_iast hx hb hW hT (hx_S.rf (M := [(105, 0)])) (gqm.S hM) tt_105 rfl ⟨?o411, ?o412⟩ rfl ⟨?o413, ?o414⟩ (List.mem_singleton.mpr rfl) dX10_plan_430 (fun H locs h_136 eh_136 hW hT hs => ?_)
                                          case o411 => omega
                                          case o412 => omega
                                          case o413 => omega
                                          case o414 => omega
                                          replace ffv_1 := (hs.o (gx.S hM) trivial rfl).1.trans ffv_1
                                          replace ffw27_x_75 := (hs.o (gx.S hM) trivial rfl).1.trans ffw27_x_75
                                          replace fx_17 := (hs.o (gx.S hM) trivial rfl).1.trans fx_17
                                          replace pi0 : ∀ j : Nat, (j : Int) < (h_136.2.1 x 75).toInt → 1 ≤ (h_136.2.1 qf j).toInt := by
                                            intro j hj; rw [(hs.o (gx.S hM) trivial rfl).1] at hj; rw [(hs.a (gqf.S hM) rfl j).1]; exact pi0 j hj
                                          replace hM := hM.tr (hs.mono ?o415)
                                          case o415 => decide
                                          obtain ⟨fa_137, dfa_137⟩ : ∃ g : Nat → Int32, g = hx_up ia372_qm iv372_10.toNatClampNeg x_135 := ⟨_, rfl⟩
                                          have nfa_137 : h_136.2.1 qm = fa_137 := ?o416
                                          case o416 =>
                                            rw [eh_136, dfa_137, ← nia372_qmO]
                                            exact hx_pi_fun _ _ _ _
                                          have hvq := (hx_V_up ?o417 ?o418 ax_129 dfa_137).2 ?o419
                                          case o417 => omega
                                          case o418 => omega
                                          case o419 => omega
                                          have hwq := hx_w_b (i := (fw27_x_75.toInt - 1 : Int))
                                          have hm12 : hx_m12 fa_137 := (fun k hk => by have q := hT.ei (gqm.S hM) tt_105 (k := k) hk; rw [nfa_137] at q; exact q)
                                          have hvb := hx_V_b hm12
                                          refine lv_goto (tgt := 204) hx hb dX10_plan_431 ?o420 ?_
                                          case o420 => decide
                                          have zk_1 : (1 : Int32).toInt = 1 := ?o421
                                          case o421 => decide
                                          refine ih204 iv204_4 iv204_5 (1 : Int32) fa_137 _ _ hL1 h_136 (i32_r _).1 (i32_r _).2 (i32_r _).1 (i32_r _).2 ?o422 ?o423 hm12 ls ?o424 hW hT hM ffv_1 ffw27_x_75 fx_17 pi0 nfa_137 (lv_sub hl [0, 5, 6, 7, 8, 9, 10] rfl)
                                          case o422 => decide
                                          case o423 => decide
                                          case o424 => omega
                                        · skip
                                          refine lv_aload_n hx hb dX10_plan_389 rfl (lv_at hl 8 rfl) ?_
                                          refine hk_getr hx hb hts hC_10 hown hW (gx.S hM) tt_10 79 ?o425 rfl kw_1222 ⟨rfl, rfl, rfl⟩ ((hM.o gx trivial rfl).2.trans f_x_79) dX10_plan_390 ?_
                                          case o425 => decide
                                          refine lv_iload hx hb dX10_plan_393 (lv_at hl 0 rfl) ?_
                                          refine lv_iconst (v := 0) hx hb dX10_plan_395 ?o426 ?_
                                          case o426 => decide
                                          have nia372_qmO := nia372_qm
                                          refine hx_iast hx hb hW hT (hx_S.rf (M := [(105, 0)])) (gqm.S hM) tt_105 rfl ⟨?o427, ?o428⟩ rfl ?o429 (List.mem_singleton.mpr rfl) dX10_plan_396 (fun H locs h_138 eh_138 hW hT hs => ?_)
                                          case o427 => omega
                                          case o428 => omega
                                          case o429 => decide
                                          replace ffv_1 := (hs.o (gx.S hM) trivial rfl).1.trans ffv_1
                                          replace ffw27_x_75 := (hs.o (gx.S hM) trivial rfl).1.trans ffw27_x_75
                                          replace fx_17 := (hs.o (gx.S hM) trivial rfl).1.trans fx_17
                                          replace pi0 : ∀ j : Nat, (j : Int) < (h_138.2.1 x 75).toInt → 1 ≤ (h_138.2.1 qf j).toInt := by
                                            intro j hj; rw [(hs.o (gx.S hM) trivial rfl).1] at hj; rw [(hs.a (gqf.S hM) rfl j).1]; exact pi0 j hj
                                          replace hM := hM.tr (hs.mono ?o430)
                                          case o430 => decide
                                          obtain ⟨fa_139, dfa_139⟩ : ∃ g : Nat → Int32, g = hx_up ia372_qm iv372_10.toNatClampNeg (0 : Int32) := ⟨_, rfl⟩
                                          have nfa_139 : h_138.2.1 qm = fa_139 := ?o431
                                          case o431 =>
                                            rw [eh_138, dfa_139, ← nia372_qmO]
                                            exact hx_pi_fun _ _ _ _
                                          obtain ⟨x_140, ex_140⟩ : ∃ y : Int32, y = iv372_10 + Int32.ofInt (-1) := ⟨_, rfl⟩
                                          have rg_141 := i32_r iv372_10
                                          have zx_140 : x_140.toInt = iv372_10.toInt + (-1) := ?o432
                                          case o432 =>
                                            rw [ex_140]
                                            refine i32_add rfl ?o433 ?o434 ?o435
                                            case o433 => decide
                                            case o434 => omega
                                            case o435 => omega
                                          refine lv_iinc (v := x_140) (lv' := [(10, .int x_140), (9, .int iv221_9), (8, .int iv221_8), (7, .int iv221_7), (6, .int iv204_6), (5, .int iv204_5), (4, .int iv204_4), (3, .int r_25), (0, .ref x), (1, .int i1), (2, .int i2)]) hx hb dX10_plan_397 hl (k := 0) rfl ex_140.symm ?o436 rfl (fun ls hl => ?_)
                                          case o436 => decide
                                          refine lv_goto (tgt := 372) hx hb dX10_plan_400 ?o437 ?_
                                          case o437 => decide
                                          refine ih372 x_140 fa_139 _ _ hL1 h_138 ?o438 ?o439 (by have q := (hx_V_up (by omega) (by omega) ax_129 dfa_139).1 (by omega) (by decide); rw [show x_140.toInt = iv372_10.toInt - 1 from by omega]; omega) ?o440 ls ?o441 hW hT hM ffv_1 ffw27_x_75 fx_17 pi0 nfa_139 (lv_sub hl [0, 1, 2, 3, 4, 5, 6, 7, 8, 9, 10] rfl)
                                          case o438 => omega
                                          case o439 => omega
                                          case o440 => omega
                                          case o441 => omega
                                  refine loop372 5 x_125 ia204_qm _ _ hL1 hl1 ?o442 ?o443 (by rw [zx_125]) ?o444 ls ?o445 hW hT hM ffv_1 ffw27_x_75 fx_17 pi0 nia204_qm hl
                                  case o442 => omega
                                  case o443 => omega
                                  case o444 => omega
                                  case o445 => omega
                                · skip
                                  refine lv_iload hx hb dX10_plan_324 (lv_at hl 2 rfl) ?_
                                  refine lv_istore (lv' := [(4, .int iv221_8), (10, .int iv221_10), (9, .int iv221_9), (8, .int iv221_8), (7, .int iv221_7), (6, .int iv204_6), (5, .int iv204_5), (3, .int r_25), (0, .ref x), (1, .int i1), (2, .int i2)]) hx hb dX10_plan_326 hl ?o446 rfl (fun ls hl => ?_)
                                  case o446 => decide
                                  refine lv_iload hx hb dX10_plan_328 (lv_at hl 2 rfl) ?_
                                  refine lv_istore (lv' := [(5, .int iv221_9), (4, .int iv221_8), (10, .int iv221_10), (9, .int iv221_9), (8, .int iv221_8), (7, .int iv221_7), (6, .int iv204_6), (3, .int r_25), (0, .ref x), (1, .int i1), (2, .int i2)]) hx hb dX10_plan_330 hl ?o447 rfl (fun ls hl => ?_)
                                  case o447 => decide
                                  refine lv_iconst (v := 0) hx hb dX10_plan_332 ?o448 ?_
                                  case o448 => decide
                                  refine lv_istore (lv' := [(10, .int (0 : Int32)), (5, .int iv221_9), (4, .int iv221_8), (9, .int iv221_9), (8, .int iv221_8), (7, .int iv221_7), (6, .int iv204_6), (3, .int r_25), (0, .ref x), (1, .int i1), (2, .int i2)]) hx hb dX10_plan_333 hl ?o449 rfl (fun ls hl => ?_)
                                  case o449 => decide
                                  have loop335 : ∀ (n335 : Nat) (iv335_10 : Int32) (H : Heap) (locs : List Loc) (hL1 : List Nat) (hl1 : hx_h), 0 ≤ iv335_10.toInt → iv335_10.toInt ≤ 4 → ∀ (ls : Array Slot), 4 - iv335_10.toInt < (n335 : Int) → hx_W T_tb (P_ty dA) (dC, dI) vwCl (hx_A L sz) s.heap hL1 hl1 s H locs → hx_T T_tb hL1 hl1 → hx_S T_tb [(10, 67), (10, 68), (10, 69), (10, 70), (10, 71), (10, 72), (10, 75), (100, 0), (101, 0), (102, 0), (103, 0), (104, 0), (105, 0), (106, 0), (107, 0)] L h hL1 hl1 → hl1.2.1 x 20 = fv_1 → hl1.2.1 x 75 = fw27_x_75 → hl1.2.1 x 0 = x_17 → (∀ j : Nat, (j : Int) < (hl1.2.1 x 75).toInt → 1 ≤ (hl1.2.1 qf j).toInt) → hl1.2.1 qm = ia204_qm → lv_has ls 12 [(10, .int iv335_10), (5, .int iv221_9), (4, .int iv221_8), (9, .int iv221_9), (8, .int iv221_8), (7, .int iv221_7), (6, .int iv204_6), (3, .int r_25), (0, .ref x), (1, .int i1), (2, .int i2)] → W p l e ({ frames := 3, cells := 0, slots := 0, locals := 71 }) s m ([.ref x, .int i1, .int i2] : List Value).toArray below meth c H locs 0 0 (MQ below (va_Qi (fun (r : Int32) (u : List Nat × hx_h) => (True) ∧ hx_T T_tb u.1 u.2 ∧ hx_S T_tb [(10, 67), (10, 68), (10, 69), (10, 70), (10, 71), (10, 72), (10, 75), (100, 0), (101, 0), (102, 0), (103, 0), (104, 0), (105, 0), (106, 0), (107, 0)] L h u.1 u.2) (hx_E T_tb (P_ty dA) (dC, dI) vwCl (hx_A L sz)) (hx_A L sz)) ([.ref x, .int i1, .int i2] : List Value).toArray s 0 0 (hx_A L sz)) (F0 m 335 ls []) := by
                                    intro n335
                                    induction n335 with
                                    | zero => intro iv335_10 H locs hL1 hl1 bliv335_10 buiv335_10  ls hn335; exfalso; omega
                                    | succ n335 ih335 =>
                                      intro iv335_10 H locs hL1 hl1 bliv335_10 buiv335_10  ls hn335 hW hT hM ffv_1 ffw27_x_75 fx_17 pi0 nia204_qm hl
                                      refine lv_iload hx hb dX10_plan_335 (lv_at hl 0 rfl) ?_
                                      refine lv_aload_n hx hb dX10_plan_337 rfl (lv_at hl 8 rfl) ?_
                                      refine hk_geti hx hb hts hC_10 hown hW (gx.S hM) tt_10 75 ?o450 rfl kw_1218 ⟨rfl, rfl, rfl⟩ ffw27_x_75 dX10_plan_338 ?_
                                      case o450 => decide
                                      refine hb_icmp_ge (zx := iv335_10.toInt) (zy := fw27_x_75.toInt) (tgt := 364) hx hb rfl rfl dX10_plan_341 ?o451 (fun c_142 => ?_) (fun c_142 => ?_)
                                      case o451 => decide
                                      · skip
                                        refine lv_aload_n hx hb dX10_plan_364 rfl (lv_at hl 8 rfl) ?_
                                        refine hk_geti hx hb hts hC_10 hown hW (gx.S hM) tt_10 75 ?o452 rfl kw_1218 ⟨rfl, rfl, rfl⟩ ffw27_x_75 dX10_plan_365 ?_
                                        case o452 => decide
                                        refine lv_iconst (v := 1) hx hb dX10_plan_368 ?o453 ?_
                                        case o453 => decide
                                        refine lv_isub hx hb dX10_plan_369 ?_
                                        have rg_143 := i32_r fw27_x_75
                                        refine lv_topi (fun x_144 ex_144 => ?_)
                                        have zx_144 : x_144.toInt = fw27_x_75.toInt - 1 := ?o454
                                        case o454 =>
                                          rw [ex_144]
                                          refine i32_sub rfl ?o455 ?o456 ?o457
                                          case o455 => decide
                                          case o456 => omega
                                          case o457 => omega
                                        refine lv_istore (lv' := [(10, .int x_144), (5, .int iv221_9), (4, .int iv221_8), (9, .int iv221_9), (8, .int iv221_8), (7, .int iv221_7), (6, .int iv204_6), (3, .int r_25), (0, .ref x), (1, .int i1), (2, .int i2)]) hx hb dX10_plan_370 hl ?o458 rfl (fun ls hl => ?_)
                                        case o458 => decide
                                        have loop372 : ∀ (n372 : Nat) (iv372_10 : Int32) (ia372_qm : Nat → Int32) (H : Heap) (locs : List Loc) (hL1 : List Nat) (hl1 : hx_h), -1 ≤ iv372_10.toInt → iv372_10.toInt ≤ 3 → (hx_V ia372_qm + hx_w iv372_10.toInt = hx_V ia204_qm + hx_w (fw27_x_75.toInt - 1)) → (iv372_10.toInt < fw27_x_75.toInt) → ∀ (ls : Array Slot), iv372_10.toInt + 1 < (n372 : Int) → hx_W T_tb (P_ty dA) (dC, dI) vwCl (hx_A L sz) s.heap hL1 hl1 s H locs → hx_T T_tb hL1 hl1 → hx_S T_tb [(10, 67), (10, 68), (10, 69), (10, 70), (10, 71), (10, 72), (10, 75), (100, 0), (101, 0), (102, 0), (103, 0), (104, 0), (105, 0), (106, 0), (107, 0)] L h hL1 hl1 → hl1.2.1 x 20 = fv_1 → hl1.2.1 x 75 = fw27_x_75 → hl1.2.1 x 0 = x_17 → (∀ j : Nat, (j : Int) < (hl1.2.1 x 75).toInt → 1 ≤ (hl1.2.1 qf j).toInt) → hl1.2.1 qm = ia372_qm → lv_has ls 12 [(10, .int iv372_10), (5, .int iv221_9), (4, .int iv221_8), (9, .int iv221_9), (8, .int iv221_8), (7, .int iv221_7), (6, .int iv204_6), (3, .int r_25), (0, .ref x), (1, .int i1), (2, .int i2)] → W p l e ({ frames := 3, cells := 0, slots := 0, locals := 71 }) s m ([.ref x, .int i1, .int i2] : List Value).toArray below meth c H locs 0 0 (MQ below (va_Qi (fun (r : Int32) (u : List Nat × hx_h) => (True) ∧ hx_T T_tb u.1 u.2 ∧ hx_S T_tb [(10, 67), (10, 68), (10, 69), (10, 70), (10, 71), (10, 72), (10, 75), (100, 0), (101, 0), (102, 0), (103, 0), (104, 0), (105, 0), (106, 0), (107, 0)] L h u.1 u.2) (hx_E T_tb (P_ty dA) (dC, dI) vwCl (hx_A L sz)) (hx_A L sz)) ([.ref x, .int i1, .int i2] : List Value).toArray s 0 0 (hx_A L sz)) (F0 m 372 ls []) := by
                                          intro n372
                                          induction n372 with
                                          | zero => intro iv372_10 ia372_qm H locs hL1 hl1 bliv372_10 buiv372_10 vi372_0 vi372_1 ls hn372; exfalso; omega
                                          | succ n372 ih372 =>
                                            intro iv372_10 ia372_qm H locs hL1 hl1 bliv372_10 buiv372_10 vi372_0 vi372_1 ls hn372 hW hT hM ffv_1 ffw27_x_75 fx_17 pi0 nia372_qm hl
                                            refine lv_iload hx hb dX10_plan_372 (lv_at hl 0 rfl) ?_
                                            refine hb_if_lt (zx := iv372_10.toInt) (tgt := 403) hx hb rfl dX10_plan_374 ?o459 (fun c_145 => ?_) (fun c_145 => ?_)
                                            case o459 => decide
                                            · skip
                                              refine lv_iload hx hb dX10_plan_403 (lv_at hl 0 rfl) ?_
                                              refine hb_if_lt (zx := iv372_10.toInt) (tgt := 412) hx hb rfl dX10_plan_405 ?o460 (fun c_146 => ?_) (fun c_146 => ?o461)
                                              case o460 => decide
                                              case o461 =>
                                                exfalso
                                                omega
                                              refine lv_iconst (v := 0) hx hb dX10_plan_412 ?o462 ?_
                                              case o462 => decide
                                              refine lv_istore (lv' := [(6, .int (0 : Int32)), (10, .int iv372_10), (5, .int iv221_9), (4, .int iv221_8), (9, .int iv221_9), (8, .int iv221_8), (7, .int iv221_7), (3, .int r_25), (0, .ref x), (1, .int i1), (2, .int i2)]) hx hb dX10_plan_413 hl ?o463 rfl (fun ls hl => ?_)
                                              case o463 => decide
                                              refine lv_iload hx hb dX10_plan_415 (lv_at hl 0 rfl) ?_
                                              refine hb_if_eq (zx := 0) (tgt := 431) hx hb ?o464 dX10_plan_417 ?o465 (fun c_147 => ?_) (fun c_147 => absurd c_147 ?o466)
                                              case o464 => decide
                                              case o465 => decide
                                              case o466 => decide
                                              have hm12 : hx_m12 ia372_qm := (fun k hk => by have q := hT.ei (gqm.S hM) tt_105 (k := k) hk; rw [nia372_qm] at q; exact q)
                                              have hvb := hx_V_b hm12
                                              refine lv_goto (tgt := 204) hx hb dX10_plan_431 ?o467 ?_
                                              case o467 => decide
                                              have zk_0 : (0 : Int32).toInt = 0 := ?o468
                                              case o468 => decide
                                              refine ih204 iv221_8 iv221_9 (0 : Int32) ia372_qm _ _ hL1 hl1 (i32_r _).1 (i32_r _).2 (i32_r _).1 (i32_r _).2 ?o469 ?o470 hm12 ls ?o471 hW hT hM ffv_1 ffw27_x_75 fx_17 pi0 nia372_qm (lv_sub hl [0, 2, 3, 7, 8, 9, 10] rfl)
                                              case o469 => decide
                                              case o470 => decide
                                              case o471 => omega
                                            · skip
                                              refine lv_aload_n hx hb dX10_plan_377 rfl (lv_at hl 8 rfl) ?_
                                              refine hk_getr hx hb hts hC_10 hown hW (gx.S hM) tt_10 79 ?o472 rfl kw_1222 ⟨rfl, rfl, rfl⟩ ((hM.o gx trivial rfl).2.trans f_x_79) dX10_plan_378 ?_
                                              case o472 => decide
                                              refine lv_iload hx hb dX10_plan_381 (lv_at hl 0 rfl) ?_
                                              refine hx_iald hx hb hW hT (gqm.S hM) tt_105 rfl ⟨?o473, ?o474⟩ dX10_plan_383 (fun x_148 ex_148 lx_148 ux_148 => ?_)
                                              case o473 => omega
                                              case o474 => omega
                                              have ax_148 : x_148 = ia372_qm iv372_10.toNatClampNeg := ex_148.trans (congrFun nia372_qm _)
                                              refine lv_bipush (v := 12) hx hb dX10_plan_384 ?o475 ?_
                                              case o475 => decide
                                              refine hb_icmp_ne (zx := x_148.toInt) (zy := 12) (tgt := 403) hx hb rfl ?o476 dX10_plan_386 ?o477 (fun c_149 => ?_) (fun c_149 => ?_)
                                              case o476 => decide
                                              case o477 => decide
                                              · skip
                                                refine lv_iload hx hb dX10_plan_403 (lv_at hl 0 rfl) ?_
                                                refine hb_if_lt (zx := iv372_10.toInt) (tgt := 412) hx hb rfl dX10_plan_405 ?o478 (fun c_150 => ?o479) (fun c_150 => ?_)
                                                case o478 => decide
                                                case o479 =>
                                                  exfalso
                                                  omega
                                                refine lv_iconst (v := 1) hx hb dX10_plan_408 ?o480 ?_
                                                case o480 => decide
                                                refine lv_goto (tgt := 413) hx hb dX10_plan_409 ?o481 ?_
                                                case o481 => decide
                                                refine lv_istore (lv' := [(6, .int (1 : Int32)), (10, .int iv372_10), (5, .int iv221_9), (4, .int iv221_8), (9, .int iv221_9), (8, .int iv221_8), (7, .int iv221_7), (3, .int r_25), (0, .ref x), (1, .int i1), (2, .int i2)]) hx hb dX10_plan_413 hl ?o482 rfl (fun ls hl => ?_)
                                                case o482 => decide
                                                refine lv_iload hx hb dX10_plan_415 (lv_at hl 0 rfl) ?_
                                                refine hb_if_eq (zx := 1) (tgt := 431) hx hb ?o483 dX10_plan_417 ?o484 (fun c_151 => absurd c_151 ?o485) (fun c_151 => ?_)
                                                case o483 => decide
                                                case o484 => decide
                                                case o485 => decide
                                                refine lv_aload_n hx hb dX10_plan_420 rfl (lv_at hl 8 rfl) ?_
                                                refine hk_getr hx hb hts hC_10 hown hW (gx.S hM) tt_10 79 ?o486 rfl kw_1222 ⟨rfl, rfl, rfl⟩ ((hM.o gx trivial rfl).2.trans f_x_79) dX10_plan_421 ?_
                                                case o486 => decide
                                                refine lv_iload hx hb dX10_plan_424 (lv_at hl 1 rfl) ?_
                                                refine lv_dup2_11 hx hb dX10_plan_426 rfl rfl ?_
                                                refine hx_iald hx hb hW hT (gqm.S hM) tt_105 rfl ⟨?o487, ?o488⟩ dX10_plan_427 (fun x_152 ex_152 lx_152 ux_152 => ?_)
                                                case o487 => omega
                                                case o488 => omega
                                                have ax_152 : x_152 = ia372_qm iv372_10.toNatClampNeg := ex_152.trans (congrFun nia372_qm _)
                                                obtain rfl : x_148 = x_152 := ex_148.trans ex_152.symm
                                                refine lv_iconst (v := 1) hx hb dX10_plan_428 ?o489 ?_
                                                case o489 => decide
                                                refine lv_iadd hx hb dX10_plan_429 ?_
                                                have rg_153 := i32_r x_148
                                                refine lv_topi (fun x_154 ex_154 => ?_)
                                                have zx_154 : x_154.toInt = x_148.toInt + 1 := ?o490
                                                case o490 =>
                                                  rw [ex_154]
                                                  refine i32_add rfl ?o491 ?o492 ?o493
                                                  case o491 => decide
                                                  case o492 => omega
                                                  case o493 => omega
                                                have nia372_qmO := nia372_qm
                                                refine hx_iast hx hb hW hT (hx_S.rf (M := [(105, 0)])) (gqm.S hM) tt_105 rfl ⟨?o494, ?o495⟩ rfl ⟨?o496, ?o497⟩ (List.mem_singleton.mpr rfl) dX10_plan_430 (fun H locs h_155 eh_155 hW hT hs => ?_)
                                                case o494 => omega
                                                case o495 => omega
                                                case o496 => omega
                                                case o497 => omega
                                                replace ffv_1 := (hs.o (gx.S hM) trivial rfl).1.trans ffv_1
                                                replace ffw27_x_75 := (hs.o (gx.S hM) trivial rfl).1.trans ffw27_x_75
                                                replace fx_17 := (hs.o (gx.S hM) trivial rfl).1.trans fx_17
                                                replace pi0 : ∀ j : Nat, (j : Int) < (h_155.2.1 x 75).toInt → 1 ≤ (h_155.2.1 qf j).toInt := by
                                                  intro j hj; rw [(hs.o (gx.S hM) trivial rfl).1] at hj; rw [(hs.a (gqf.S hM) rfl j).1]; exact pi0 j hj
                                                replace hM := hM.tr (hs.mono ?o498)
                                                case o498 => decide
                                                obtain ⟨fa_156, dfa_156⟩ : ∃ g : Nat → Int32, g = hx_up ia372_qm iv372_10.toNatClampNeg x_154 := ⟨_, rfl⟩
                                                have nfa_156 : h_155.2.1 qm = fa_156 := ?o499
                                                case o499 =>
                                                  rw [eh_155, dfa_156, ← nia372_qmO]
                                                  exact hx_pi_fun _ _ _ _
                                                have hvq := (hx_V_up ?o500 ?o501 ax_148 dfa_156).2 ?o502
                                                case o500 => omega
                                                case o501 => omega
                                                case o502 => omega
                                                have hwq := hx_w_b (i := (fw27_x_75.toInt - 1 : Int))
                                                have hm12 : hx_m12 fa_156 := (fun k hk => by have q := hT.ei (gqm.S hM) tt_105 (k := k) hk; rw [nfa_156] at q; exact q)
                                                have hvb := hx_V_b hm12
                                                refine lv_goto (tgt := 204) hx hb dX10_plan_431 ?o503 ?_
                                                case o503 => decide
                                                have zk_1 : (1 : Int32).toInt = 1 := ?o504
                                                case o504 => decide
                                                refine ih204 iv221_8 iv221_9 (1 : Int32) fa_156 _ _ hL1 h_155 (i32_r _).1 (i32_r _).2 (i32_r _).1 (i32_r _).2 ?o505 ?o506 hm12 ls ?o507 hW hT hM ffv_1 ffw27_x_75 fx_17 pi0 nfa_156 (lv_sub hl [0, 2, 3, 7, 8, 9, 10] rfl)
                                                case o505 => decide
                                                case o506 => decide
                                                case o507 => omega
                                              · skip
                                                refine lv_aload_n hx hb dX10_plan_389 rfl (lv_at hl 8 rfl) ?_
                                                refine hk_getr hx hb hts hC_10 hown hW (gx.S hM) tt_10 79 ?o508 rfl kw_1222 ⟨rfl, rfl, rfl⟩ ((hM.o gx trivial rfl).2.trans f_x_79) dX10_plan_390 ?_
                                                case o508 => decide
                                                refine lv_iload hx hb dX10_plan_393 (lv_at hl 0 rfl) ?_
                                                refine lv_iconst (v := 0) hx hb dX10_plan_395 ?o509 ?_
                                                case o509 => decide
                                                have nia372_qmO := nia372_qm
                                                refine hx_iast hx hb hW hT (hx_S.rf (M := [(105, 0)])) (gqm.S hM) tt_105 rfl ⟨?o510, ?o511⟩ rfl ?o512 (List.mem_singleton.mpr rfl) dX10_plan_396 (fun H locs h_157 eh_157 hW hT hs => ?_)
                                                case o510 => omega
                                                case o511 => omega
                                                case o512 => decide
                                                replace ffv_1 := (hs.o (gx.S hM) trivial rfl).1.trans ffv_1
                                                replace ffw27_x_75 := (hs.o (gx.S hM) trivial rfl).1.trans ffw27_x_75
                                                replace fx_17 := (hs.o (gx.S hM) trivial rfl).1.trans fx_17
                                                replace pi0 : ∀ j : Nat, (j : Int) < (h_157.2.1 x 75).toInt → 1 ≤ (h_157.2.1 qf j).toInt := by
                                                  intro j hj; rw [(hs.o (gx.S hM) trivial rfl).1] at hj; rw [(hs.a (gqf.S hM) rfl j).1]; exact pi0 j hj
                                                replace hM := hM.tr (hs.mono ?o513)
                                                case o513 => decide
                                                obtain ⟨fa_158, dfa_158⟩ : ∃ g : Nat → Int32, g = hx_up ia372_qm iv372_10.toNatClampNeg (0 : Int32) := ⟨_, rfl⟩
                                                have nfa_158 : h_157.2.1 qm = fa_158 := ?o514
                                                case o514 =>
                                                  rw [eh_157, dfa_158, ← nia372_qmO]
                                                  exact hx_pi_fun _ _ _ _
                                                obtain ⟨x_159, ex_159⟩ : ∃ y : Int32, y = iv372_10 + Int32.ofInt (-1) := ⟨_, rfl⟩
                                                have rg_160 := i32_r iv372_10
                                                have zx_159 : x_159.toInt = iv372_10.toInt + (-1) := ?o515
                                                case o515 =>
                                                  rw [ex_159]
                                                  refine i32_add rfl ?o516 ?o517 ?o518
                                                  case o516 => decide
                                                  case o517 => omega
                                                  case o518 => omega
                                                refine lv_iinc (v := x_159) (lv' := [(10, .int x_159), (5, .int iv221_9), (4, .int iv221_8), (9, .int iv221_9), (8, .int iv221_8), (7, .int iv221_7), (6, .int iv204_6), (3, .int r_25), (0, .ref x), (1, .int i1), (2, .int i2)]) hx hb dX10_plan_397 hl (k := 0) rfl ex_159.symm ?o519 rfl (fun ls hl => ?_)
                                                case o519 => decide
                                                refine lv_goto (tgt := 372) hx hb dX10_plan_400 ?o520 ?_
                                                case o520 => decide
                                                refine ih372 x_159 fa_158 _ _ hL1 h_157 ?o521 ?o522 (by have q := (hx_V_up (by omega) (by omega) ax_148 dfa_158).1 (by omega) (by decide); rw [show x_159.toInt = iv372_10.toInt - 1 from by omega]; omega) ?o523 ls ?o524 hW hT hM ffv_1 ffw27_x_75 fx_17 pi0 nfa_158 (lv_sub hl [0, 1, 2, 3, 4, 5, 6, 7, 8, 9, 10] rfl)
                                                case o521 => omega
                                                case o522 => omega
                                                case o523 => omega
                                                case o524 => omega
                                        refine loop372 5 x_144 ia204_qm _ _ hL1 hl1 ?o525 ?o526 (by rw [zx_144]) ?o527 ls ?o528 hW hT hM ffv_1 ffw27_x_75 fx_17 pi0 nia204_qm hl
                                        case o525 => omega
                                        case o526 => omega
                                        case o527 => omega
                                        case o528 => omega
                                      · skip
                                        refine lv_aload_n hx hb dX10_plan_344 rfl (lv_at hl 8 rfl) ?_
                                        refine hx_getn hx hb hts hC_10 hown hW hT (gx.S hM) tt_10 80 ?o529 rfl kw_1223 ⟨rfl, rfl, rfl⟩ dX10_plan_345 (fun q_161 fq_161 gq_161 => ?_)
                                        case o529 => decide
                                        refine lv_iload hx hb dX10_plan_348 (lv_at hl 0 rfl) ?_
                                        refine lv_aload_n hx hb dX10_plan_350 rfl (lv_at hl 8 rfl) ?_
                                        refine hk_getr hx hb hts hC_10 hown hW (gx.S hM) tt_10 79 ?o530 rfl kw_1222 ⟨rfl, rfl, rfl⟩ ((hM.o gx trivial rfl).2.trans f_x_79) dX10_plan_351 ?_
                                        case o530 => decide
                                        refine lv_iload hx hb dX10_plan_354 (lv_at hl 0 rfl) ?_
                                        refine hx_iald hx hb hW hT (gqm.S hM) tt_105 rfl ⟨?o531, ?o532⟩ dX10_plan_356 (fun x_162 ex_162 lx_162 ux_162 => ?_)
                                        case o531 => omega
                                        case o532 => omega
                                        have ax_162 : x_162 = ia204_qm iv335_10.toNatClampNeg := ex_162.trans (congrFun nia204_qm _)
                                        refine hx_iast hx hb hW hT (hx_S.rf (M := [(106, 0)])) gq_161 tt_106 rfl ⟨?o533, ?o534⟩ rfl ⟨?o535, ?o536⟩ (List.mem_singleton.mpr rfl) dX10_plan_357 (fun H locs h_163 eh_163 hW hT hs => ?_)
                                        case o533 => omega
                                        case o534 => omega
                                        case o535 => omega
                                        case o536 => omega
                                        replace ffv_1 := (hs.o (gx.S hM) trivial rfl).1.trans ffv_1
                                        replace ffw27_x_75 := (hs.o (gx.S hM) trivial rfl).1.trans ffw27_x_75
                                        replace fx_17 := (hs.o (gx.S hM) trivial rfl).1.trans fx_17
                                        replace fq_161 := (hs.o (gx.S hM) trivial rfl).2.trans fq_161
                                        replace nia204_qm : h_163.2.1 qm = ia204_qm := (funext fun j => (hs.a (gqm.S hM) rfl j).1).trans nia204_qm
                                        replace ex_162 := ex_162.trans (hs.a (gqm.S hM) rfl _).1.symm
                                        replace pi0 : ∀ j : Nat, (j : Int) < (h_163.2.1 x 75).toInt → 1 ≤ (h_163.2.1 qf j).toInt := by
                                          intro j hj; rw [(hs.o (gx.S hM) trivial rfl).1] at hj; rw [(hs.a (gqf.S hM) rfl j).1]; exact pi0 j hj
                                        replace hM := hM.tr (hs.mono ?o537)
                                        case o537 => decide
                                        replace gq_161 := gq_161.S hs
                                        obtain ⟨x_164, ex_164⟩ : ∃ y : Int32, y = iv335_10 + Int32.ofInt 1 := ⟨_, rfl⟩
                                        have rg_165 := i32_r iv335_10
                                        have zx_164 : x_164.toInt = iv335_10.toInt + (1) := ?o538
                                        case o538 =>
                                          rw [ex_164]
                                          refine i32_add rfl ?o539 ?o540 ?o541
                                          case o539 => decide
                                          case o540 => omega
                                          case o541 => omega
                                        refine lv_iinc (v := x_164) (lv' := [(10, .int x_164), (5, .int iv221_9), (4, .int iv221_8), (9, .int iv221_9), (8, .int iv221_8), (7, .int iv221_7), (6, .int iv204_6), (3, .int r_25), (0, .ref x), (1, .int i1), (2, .int i2)]) hx hb dX10_plan_358 hl (k := 0) rfl ex_164.symm ?o542 rfl (fun ls hl => ?_)
                                        case o542 => decide
                                        refine lv_goto (tgt := 335) hx hb dX10_plan_361 ?o543 ?_
                                        case o543 => decide
                                        refine ih335 x_164 _ _ hL1 h_163 ?o544 ?o545  ls ?o546 hW hT hM ffv_1 ffw27_x_75 fx_17 pi0 nia204_qm (lv_sub hl [0, 1, 2, 3, 4, 5, 6, 7, 8, 9, 10] rfl)
                                        case o544 => omega
                                        case o545 => omega
                                        case o546 => omega
                                  have zk_0 : (0 : Int32).toInt = 0 := ?o547
                                  case o547 => decide
                                  refine loop335 5 (0 : Int32) _ _ hL1 hl1 ?o548 ?o549  ls ?o550 hW hT hM ffv_1 ffw27_x_75 fx_17 pi0 nia204_qm hl
                                  case o548 => decide
                                  case o549 => decide
                                  case o550 => omega
                        · skip
                          refine lv_aload_n hx hb dX10_plan_230 rfl (lv_at hl 8 rfl) ?_
                          refine lv_iload hx hb dX10_plan_231 (lv_at hl 0 rfl) ?_
                          refine lv_aload_n hx hb dX10_plan_233 rfl (lv_at hl 8 rfl) ?_
                          refine hk_getr hx hb hts hC_10 hown hW (gx.S hM) tt_10 79 ?o551 rfl kw_1222 ⟨rfl, rfl, rfl⟩ ((hM.o gx trivial rfl).2.trans f_x_79) dX10_plan_234 ?_
                          case o551 => decide
                          refine lv_iload hx hb dX10_plan_237 (lv_at hl 0 rfl) ?_
                          refine hx_iald hx hb hW hT (gqm.S hM) tt_105 rfl ⟨?o552, ?o553⟩ dX10_plan_239 (fun x_166 ex_166 lx_166 ux_166 => ?_)
                          case o552 => omega
                          case o553 => omega
                          have ax_166 : x_166 = ia204_qm iv221_10.toNatClampNeg := ex_166.trans (congrFun nia204_qm _)
                          refine lv_iload_n hx hb dX10_plan_240 rfl (lv_at hl 10 rfl) ?_
                          refine hx_goi (hx_runV (As := [.int iv221_10, .int x_166, .int i2]) (rest := []) ⟨hx, hb, hml, hown, hts⟩ hW (gx.S hM) tt_10 (T := TX10) (N := 98) rfl (t_X10_weeksOf l dC dI dA hL1 hl1 H.size x iv221_10 x_166 i2 hT (gx.S hM) fw27_x_75 ffw27_x_75 ⟨?o554, ?o555⟩ ⟨?o556, ?o557⟩ ⟨?o558, ?o559⟩ qf (gqf.S hM) ((hM.o gx trivial rfl).2.trans f_x_78) pi0) (cwV 3 hts (hx_gV kw_1682 kw_1679 kw_1681 kw_85 kw_103) rfl rfl rfl (by decide +kernel) ⟨Nat.le_of_ble_eq_true rfl, Nat.le_of_ble_eq_true rfl⟩) rfl hl.1 rfl (Nat.le_of_ble_eq_true rfl) dX10_plan_241 ⟨Nat.le_of_ble_eq_true rfl, Nat.le_of_ble_eq_true rfl⟩) hW (fun r_169 L_167 h_168 H locs p_170 hW => ?_)
                          case o554 => omega
                          case o555 => omega
                          case o556 => omega
                          case o557 => omega
                          case o558 => omega
                          case o559 => omega
                          obtain ⟨hr_171, hT, hs⟩ := p_170
                          replace hT : hx_T T_tb L_167 h_168 := hT
                          replace hs : hx_S T_tb [] hL1 hl1 L_167 h_168 := hs
                          replace ffv_1 := (hs.o (gx.S hM) trivial rfl).1.trans ffv_1
                          replace ffw27_x_75 := (hs.o (gx.S hM) trivial rfl).1.trans ffw27_x_75
                          replace fx_17 := (hs.o (gx.S hM) trivial rfl).1.trans fx_17
                          replace nia204_qm : h_168.2.1 qm = ia204_qm := (funext fun j => (hs.a (gqm.S hM) rfl j).1).trans nia204_qm
                          replace ex_166 := ex_166.trans (hs.a (gqm.S hM) rfl _).1.symm
                          replace pi0 : ∀ j : Nat, (j : Int) < (h_168.2.1 x 75).toInt → 1 ≤ (h_168.2.1 qf j).toInt := by
                            intro j hj; rw [(hs.o (gx.S hM) trivial rfl).1] at hj; rw [(hs.a (gqf.S hM) rfl j).1]; exact pi0 j hj
                          replace hM := hM.tr (hs.mono ?o560)
                          case o560 => decide
                          refine lv_istore (lv' := [(11, .int r_169), (10, .int iv221_10), (9, .int iv221_9), (8, .int iv221_8), (7, .int iv221_7), (6, .int iv204_6), (5, .int iv204_5), (4, .int iv204_4), (3, .int r_25), (0, .ref x), (1, .int i1), (2, .int i2)]) hx hb dX10_plan_244 hl ?o561 rfl (fun ls hl => ?_)
                          case o561 => decide
                          refine lv_iload hx hb dX10_plan_246 (lv_at hl 4 rfl) ?_
                          refine lv_aload_n hx hb dX10_plan_248 rfl (lv_at hl 9 rfl) ?_
                          refine hk_getr hx hb hts hC_10 hown hW (gx.S hM) tt_10 78 ?o562 rfl kw_1221 ⟨rfl, rfl, rfl⟩ ((hM.o gx trivial rfl).2.trans f_x_78) dX10_plan_249 ?_
                          case o562 => decide
                          refine lv_iload hx hb dX10_plan_252 (lv_at hl 1 rfl) ?_
                          refine hx_iald hx hb hW hT (gqf.S hM) tt_104 rfl ⟨?o563, ?o564⟩ dX10_plan_254 (fun x_172 ex_172 lx_172 ux_172 => ?_)
                          case o563 => omega
                          case o564 => omega
                          have px_172 : 1 ≤ x_172.toInt := ?o565
                          case o565 =>
                            rw [ex_172]
                            exact pi0 _ (by rw [ffw27_x_75]; exact hx_tnI (by omega) (by omega))
                          refine lv_aload_n hx hb dX10_plan_255 rfl (lv_at hl 9 rfl) ?_
                          refine hk_getr hx hb hts hC_10 hown hW (gx.S hM) tt_10 79 ?o566 rfl kw_1222 ⟨rfl, rfl, rfl⟩ ((hM.o gx trivial rfl).2.trans f_x_79) dX10_plan_256 ?_
                          case o566 => decide
                          refine lv_iload hx hb dX10_plan_259 (lv_at hl 1 rfl) ?_
                          refine hx_iald hx hb hW hT (gqm.S hM) tt_105 rfl ⟨?o567, ?o568⟩ dX10_plan_261 (fun x_173 ex_173 lx_173 ux_173 => ?_)
                          case o567 => omega
                          case o568 => omega
                          have ax_173 : x_173 = ia204_qm iv221_10.toNatClampNeg := ex_173.trans (congrFun nia204_qm _)
                          obtain rfl : x_166 = x_173 := ex_166.trans ex_173.symm
                          refine lv_iload_n hx hb dX10_plan_262 rfl (lv_at hl 11 rfl) ?_
                          refine lv_imul hx hb dX10_plan_263 ?_
                          refine lv_topi (fun x_174 ex_174 => ?_)
                          have mx_174 : x_166.toInt = 0 → x_174.toInt = 0 := fun z => by rw [ex_174]; exact hx_mul0 z
                          refine lv_iadd hx hb dX10_plan_264 ?_
                          have rg_175 := i32_r x_172
                          have rg_176 := i32_r x_174
                          refine lv_topi (fun x_177 ex_177 => ?_)
                          refine lv_iadd hx hb dX10_plan_265 ?_
                          have rg_178 := i32_r iv221_7
                          have rg_179 := i32_r x_177
                          refine lv_topi (fun x_180 ex_180 => ?_)
                          refine lv_istore (lv' := [(7, .int x_180), (11, .int r_169), (10, .int iv221_10), (9, .int iv221_9), (8, .int iv221_8), (6, .int iv204_6), (5, .int iv204_5), (4, .int iv204_4), (3, .int r_25), (0, .ref x), (1, .int i1), (2, .int i2)]) hx hb dX10_plan_266 hl ?o569 rfl (fun ls hl => ?_)
                          case o569 => decide
                          refine lv_iload hx hb dX10_plan_268 (lv_at hl 1 rfl) ?_
                          refine lv_iload hx hb dX10_plan_270 (lv_at hl 4 rfl) ?_
                          refine hb_icmp_le (zx := r_169.toInt) (zy := iv221_8.toInt) (tgt := 280) hx hb rfl rfl dX10_plan_272 ?o570 (fun c_181 => ?_) (fun c_181 => ?_)
                          case o570 => decide
                          · skip
                            refine lv_iload hx hb dX10_plan_280 (lv_at hl 4 rfl) ?_
                            refine lv_istore (lv' := [(8, .int iv221_8), (7, .int x_180), (11, .int r_169), (10, .int iv221_10), (9, .int iv221_9), (6, .int iv204_6), (5, .int iv204_5), (4, .int iv204_4), (3, .int r_25), (0, .ref x), (1, .int i1), (2, .int i2)]) hx hb dX10_plan_282 hl ?o571 rfl (fun ls hl => ?_)
                            case o571 => decide
                            refine lv_iload hx hb dX10_plan_284 (lv_at hl 4 rfl) ?_
                            refine lv_iload hx hb dX10_plan_286 (lv_at hl 2 rfl) ?_
                            refine lv_iadd hx hb dX10_plan_288 ?_
                            have rg_182 := i32_r iv221_9
                            have rg_183 := i32_r r_169
                            refine lv_topi (fun x_184 ex_184 => ?_)
                            refine lv_istore (lv' := [(9, .int x_184), (8, .int iv221_8), (7, .int x_180), (11, .int r_169), (10, .int iv221_10), (6, .int iv204_6), (5, .int iv204_5), (4, .int iv204_4), (3, .int r_25), (0, .ref x), (1, .int i1), (2, .int i2)]) hx hb dX10_plan_289 hl ?o572 rfl (fun ls hl => ?_)
                            case o572 => decide
                            obtain ⟨x_185, ex_185⟩ : ∃ y : Int32, y = iv221_10 + Int32.ofInt 1 := ⟨_, rfl⟩
                            have rg_186 := i32_r iv221_10
                            have zx_185 : x_185.toInt = iv221_10.toInt + (1) := ?o573
                            case o573 =>
                              rw [ex_185]
                              refine i32_add rfl ?o574 ?o575 ?o576
                              case o574 => decide
                              case o575 => omega
                              case o576 => omega
                            refine lv_iinc (v := x_185) (lv' := [(10, .int x_185), (9, .int x_184), (8, .int iv221_8), (7, .int x_180), (11, .int r_169), (6, .int iv204_6), (5, .int iv204_5), (4, .int iv204_4), (3, .int r_25), (0, .ref x), (1, .int i1), (2, .int i2)]) hx hb dX10_plan_291 hl (k := 4) rfl ex_185.symm ?o577 rfl (fun ls hl => ?_)
                            case o577 => decide
                            refine lv_goto (tgt := 221) hx hb dX10_plan_294 ?o578 ?_
                            case o578 => decide
                            refine ih221 x_180 iv221_8 x_184 x_185 _ _ L_167 h_168 (i32_r _).1 (i32_r _).2 (i32_r _).1 (i32_r _).2 (i32_r _).1 (i32_r _).2 ?o579 ?o580  ls ?o581 hW hT hM ffv_1 ffw27_x_75 fx_17 pi0 nia204_qm (lv_sub hl [0, 1, 2, 3, 5, 6, 7, 8, 9, 10, 11] rfl)
                            case o579 => omega
                            case o580 => omega
                            case o581 => omega
                          · skip
                            refine lv_iload hx hb dX10_plan_275 (lv_at hl 1 rfl) ?_
                            refine lv_goto (tgt := 282) hx hb dX10_plan_277 ?o582 ?_
                            case o582 => decide
                            refine lv_istore (lv' := [(8, .int r_169), (7, .int x_180), (11, .int r_169), (10, .int iv221_10), (9, .int iv221_9), (6, .int iv204_6), (5, .int iv204_5), (4, .int iv204_4), (3, .int r_25), (0, .ref x), (1, .int i1), (2, .int i2)]) hx hb dX10_plan_282 hl ?o583 rfl (fun ls hl => ?_)
                            case o583 => decide
                            refine lv_iload hx hb dX10_plan_284 (lv_at hl 4 rfl) ?_
                            refine lv_iload hx hb dX10_plan_286 (lv_at hl 2 rfl) ?_
                            refine lv_iadd hx hb dX10_plan_288 ?_
                            have rg_187 := i32_r iv221_9
                            have rg_188 := i32_r r_169
                            refine lv_topi (fun x_189 ex_189 => ?_)
                            refine lv_istore (lv' := [(9, .int x_189), (8, .int r_169), (7, .int x_180), (11, .int r_169), (10, .int iv221_10), (6, .int iv204_6), (5, .int iv204_5), (4, .int iv204_4), (3, .int r_25), (0, .ref x), (1, .int i1), (2, .int i2)]) hx hb dX10_plan_289 hl ?o584 rfl (fun ls hl => ?_)
                            case o584 => decide
                            obtain ⟨x_190, ex_190⟩ : ∃ y : Int32, y = iv221_10 + Int32.ofInt 1 := ⟨_, rfl⟩
                            have rg_191 := i32_r iv221_10
                            have zx_190 : x_190.toInt = iv221_10.toInt + (1) := ?o585
                            case o585 =>
                              rw [ex_190]
                              refine i32_add rfl ?o586 ?o587 ?o588
                              case o586 => decide
                              case o587 => omega
                              case o588 => omega
                            refine lv_iinc (v := x_190) (lv' := [(10, .int x_190), (9, .int x_189), (8, .int r_169), (7, .int x_180), (11, .int r_169), (6, .int iv204_6), (5, .int iv204_5), (4, .int iv204_4), (3, .int r_25), (0, .ref x), (1, .int i1), (2, .int i2)]) hx hb dX10_plan_291 hl (k := 4) rfl ex_190.symm ?o589 rfl (fun ls hl => ?_)
                            case o589 => decide
                            refine lv_goto (tgt := 221) hx hb dX10_plan_294 ?o590 ?_
                            case o590 => decide
                            refine ih221 x_180 r_169 x_189 x_190 _ _ L_167 h_168 (i32_r _).1 (i32_r _).2 (i32_r _).1 (i32_r _).2 (i32_r _).1 (i32_r _).2 ?o591 ?o592  ls ?o593 hW hT hM ffv_1 ffw27_x_75 fx_17 pi0 nia204_qm (lv_sub hl [0, 1, 2, 3, 5, 6, 7, 8, 9, 10, 11] rfl)
                            case o591 => omega
                            case o592 => omega
                            case o593 => omega
                    have zk_0 : (0 : Int32).toInt = 0 := ?o594
                    case o594 => decide
                    have zk_0 : (0 : Int32).toInt = 0 := ?o595
                    case o595 => decide
                    have zk_0 : (0 : Int32).toInt = 0 := ?o596
                    case o596 => decide
                    have zk_0 : (0 : Int32).toInt = 0 := ?o597
                    case o597 => decide
                    refine loop221 5 (0 : Int32) (0 : Int32) (0 : Int32) (0 : Int32) _ _ hL1 hl1 ?o598 ?o599 ?o600 ?o601 ?o602 ?o603 ?o604 ?o605  ls ?o606 hW hT hM ffv_1 ffw27_x_75 fx_17 pi0 nia204_qm hl
                    case o598 => decide
                    case o599 => decide
                    case o600 => decide
                    case o601 => decide
                    case o602 => decide
                    case o603 => decide
                    case o604 => decide
                    case o605 => decide
                    case o606 => omega
              have zk_1000000000 : (1000000000 : Int32).toInt = 1000000000 := ?o607
              case o607 => decide
              have zk_1000000000 : (1000000000 : Int32).toInt = 1000000000 := ?o608
              case o608 => decide
              have zk_1 : (1 : Int32).toInt = 1 := ?o609
              case o609 => decide
              refine loop204 28564 (1000000000 : Int32) (1000000000 : Int32) (1 : Int32) fa_30 _ _ L_23 h_24 ?o610 ?o611 ?o612 ?o613 ?o614 ?o615 hm12 ls ?o616 hW hT hM ffv_1 ffw27_x_75 fx_17 pi0 nfa_30 hl
              case o610 => decide
              case o611 => decide
              case o612 => decide
              case o613 => decide
              case o614 => decide
              case o615 => decide
              case o616 => omega
            · skip
              refine lv_iconst (v := 0) hx hb dX10_plan_176 ?o617 ?_
              case o617 => decide
              refine lv_goto (tgt := 183) hx hb dX10_plan_177 ?o618 ?_
              case o618 => decide
              refine lv_istore (lv' := [(4, .int (0 : Int32)), (3, .int r_25), (0, .ref x), (1, .int i1), (2, .int i2)]) hx hb dX10_plan_183 hl ?o619 rfl (fun ls hl => ?_)
              case o619 => decide
              refine lv_ldcw (v := 1000000000) hx hb hown (hts _ kw_1678) dX10_plan_185 ?_
              refine lv_istore (lv' := [(5, .int (1000000000 : Int32)), (4, .int (0 : Int32)), (3, .int r_25), (0, .ref x), (1, .int i1), (2, .int i2)]) hx hb dX10_plan_188 hl ?o620 rfl (fun ls hl => ?_)
              case o620 => decide
              refine lv_aload_n hx hb dX10_plan_190 rfl (lv_at hl 3 rfl) ?_
              refine hk_geti hx hb hts hC_10 hown hW (gx.S hM) tt_10 75 ?o621 rfl kw_1218 ⟨rfl, rfl, rfl⟩ ffw27_x_75 dX10_plan_191 ?_
              case o621 => decide
              refine hb_if_le (zx := fw27_x_75.toInt) (tgt := 201) hx hb rfl dX10_plan_194 ?o622 (fun c_192 => ?_) (fun c_192 => ?o623)
              case o622 => decide
              case o623 =>
                exfalso
                omega
              refine lv_iconst (v := 0) hx hb dX10_plan_201 ?o624 ?_
              case o624 => decide
              obtain ⟨fa_193, nfa_193⟩ : ∃ g : Nat → Int32, h_24.2.1 qm = g := ⟨_, rfl⟩
              have hm12 : hx_m12 fa_193 := (fun k hk => by have q := hT.ei (gqm.S hM) tt_105 (k := k) hk; rw [nfa_193] at q; exact q)
              have hvb := hx_V_b hm12
              refine lv_istore (lv' := [(6, .int (0 : Int32)), (5, .int (1000000000 : Int32)), (4, .int (0 : Int32)), (3, .int r_25), (0, .ref x), (1, .int i1), (2, .int i2)]) hx hb dX10_plan_202 hl ?o625 rfl (fun ls hl => ?_)
              case o625 => decide
              have loop204 : ∀ (n204 : Nat) (iv204_4 iv204_5 iv204_6 : Int32) (ia204_qm : Nat → Int32) (H : Heap) (locs : List Loc) (hL1 : List Nat) (hl1 : hx_h), -2147483648 ≤ iv204_4.toInt → iv204_4.toInt ≤ 2147483647 → -2147483648 ≤ iv204_5.toInt → iv204_5.toInt ≤ 2147483647 → 0 ≤ iv204_6.toInt → iv204_6.toInt ≤ 1 → (hx_m12 ia204_qm) → ∀ (ls : Array Slot), (iv204_6.toInt = 0 ∧ 0 < (n204 : Int)) ∨ 28562 - hx_V ia204_qm < (n204 : Int) → hx_W T_tb (P_ty dA) (dC, dI) vwCl (hx_A L sz) s.heap hL1 hl1 s H locs → hx_T T_tb hL1 hl1 → hx_S T_tb [(10, 67), (10, 68), (10, 69), (10, 70), (10, 71), (10, 72), (10, 75), (100, 0), (101, 0), (102, 0), (103, 0), (104, 0), (105, 0), (106, 0), (107, 0)] L h hL1 hl1 → hl1.2.1 x 20 = fv_1 → hl1.2.1 x 75 = fw27_x_75 → hl1.2.1 x 0 = x_17 → (∀ j : Nat, (j : Int) < (hl1.2.1 x 75).toInt → 1 ≤ (hl1.2.1 qf j).toInt) → hl1.2.1 qm = ia204_qm → lv_has ls 12 [(6, .int iv204_6), (5, .int iv204_5), (4, .int iv204_4), (3, .int r_25), (0, .ref x), (1, .int i1), (2, .int i2)] → W p l e ({ frames := 3, cells := 0, slots := 0, locals := 71 }) s m ([.ref x, .int i1, .int i2] : List Value).toArray below meth c H locs 0 0 (MQ below (va_Qi (fun (r : Int32) (u : List Nat × hx_h) => (True) ∧ hx_T T_tb u.1 u.2 ∧ hx_S T_tb [(10, 67), (10, 68), (10, 69), (10, 70), (10, 71), (10, 72), (10, 75), (100, 0), (101, 0), (102, 0), (103, 0), (104, 0), (105, 0), (106, 0), (107, 0)] L h u.1 u.2) (hx_E T_tb (P_ty dA) (dC, dI) vwCl (hx_A L sz)) (hx_A L sz)) ([.ref x, .int i1, .int i2] : List Value).toArray s 0 0 (hx_A L sz)) (F0 m 204 ls []) := by
                intro n204
                induction n204 with
                | zero => intro iv204_4 iv204_5 iv204_6 ia204_qm H locs hL1 hl1 bliv204_4 buiv204_4 bliv204_5 buiv204_5 bliv204_6 buiv204_6 vi204_0 ls hn204; exfalso; have hvbz := hx_V_b vi204_0; omega
                | succ n204 ih204 =>
                  intro iv204_4 iv204_5 iv204_6 ia204_qm H locs hL1 hl1 bliv204_4 buiv204_4 bliv204_5 buiv204_5 bliv204_6 buiv204_6 vi204_0 ls hn204 hW hT hM ffv_1 ffw27_x_75 fx_17 pi0 nia204_qm hl
                  refine lv_iload hx hb dX10_plan_204 (lv_at hl 0 rfl) ?_
                  have hvb0 := hx_V_b vi204_0
                  refine hb_if_eq (zx := iv204_6.toInt) (tgt := 434) hx hb rfl dX10_plan_206 ?o626 (fun c_194 => ?_) (fun c_194 => ?_)
                  case o626 => decide
                  · skip
                    refine lv_iload hx hb dX10_plan_434 (lv_at hl 2 rfl) ?_
                    refine lv_ldcw (v := 1000000000) hx hb hown (hts _ kw_1678) dX10_plan_436 ?_
                    refine hb_icmp_ne (zx := iv204_4.toInt) (zy := 1000000000) (tgt := 445) hx hb rfl ?o627 dX10_plan_439 ?o628 (fun c_195 => ?_) (fun c_195 => ?_)
                    case o627 => decide
                    case o628 => decide
                    · skip
                      refine lv_aload_n hx hb dX10_plan_445 rfl (lv_at hl 4 rfl) ?_
                      refine lv_aload_n hx hb dX10_plan_446 rfl (lv_at hl 4 rfl) ?_
                      refine hk_geti hx hb hts hC_10 hown hW (gx.S hM) tt_10 75 ?o629 rfl kw_1218 ⟨rfl, rfl, rfl⟩ ffw27_x_75 dX10_plan_447 ?_
                      case o629 => decide
                      refine hx_puti hx hb hts hC_10 hown hW hT (hx_S.rf (M := [(10, 72)])) (gx.S hM) tt_10 72 ?o630 rfl kw_1215 ⟨rfl, rfl, rfl⟩ rfl (x := fw27_x_75) ⟨?o631, ?o632⟩ rfl rfl rfl (List.mem_singleton.mpr rfl) dX10_plan_450 (fun H locs h_196 eh_196 hW hT hs => ?_)
                      case o630 => decide
                      case o631 => omega
                      case o632 => omega
                      replace ffv_1 := (hs.o (gx.S hM) trivial rfl).1.trans ffv_1
                      replace ffw27_x_75 := (hs.o (gx.S hM) trivial rfl).1.trans ffw27_x_75
                      replace fx_17 := (hs.o (gx.S hM) trivial rfl).1.trans fx_17
                      replace nia204_qm : h_196.2.1 qm = ia204_qm := (funext fun j => (hs.a (gqm.S hM) rfl j).1).trans nia204_qm
                      replace pi0 : ∀ j : Nat, (j : Int) < (h_196.2.1 x 75).toInt → 1 ≤ (h_196.2.1 qf j).toInt := by
                        intro j hj; rw [(hs.o (gx.S hM) trivial rfl).1] at hj; rw [(hs.a (gqf.S hM) rfl j).1]; exact pi0 j hj
                      replace hM := hM.tr (hs.mono ?o633)
                      case o633 => decide
                      have f_197 : h_196.2.1 x 72 = fw27_x_75 := ?o634
                      case o634 =>
                        rw [eh_196]
                        exact hx_pi_at _ _ _ _
                      refine lv_iconst (v := 0) hx hb dX10_plan_453 ?o635 ?_
                      case o635 => decide
                      refine lv_istore (lv' := [(7, .int (0 : Int32)), (6, .int iv204_6), (5, .int iv204_5), (4, .int iv204_4), (3, .int r_25), (0, .ref x), (1, .int i1), (2, .int i2)]) hx hb dX10_plan_454 hl ?o636 rfl (fun ls hl => ?_)
                      case o636 => decide
                      have loop456 : ∀ (n456 : Nat) (iv456_7 : Int32) (H : Heap) (locs : List Loc) (hL1 : List Nat) (hl1 : hx_h), 0 ≤ iv456_7.toInt → iv456_7.toInt ≤ 4 → ∀ (ls : Array Slot), 4 - iv456_7.toInt < (n456 : Int) → hx_W T_tb (P_ty dA) (dC, dI) vwCl (hx_A L sz) s.heap hL1 hl1 s H locs → hx_T T_tb hL1 hl1 → hx_S T_tb [(10, 67), (10, 68), (10, 69), (10, 70), (10, 71), (10, 72), (10, 75), (100, 0), (101, 0), (102, 0), (103, 0), (104, 0), (105, 0), (106, 0), (107, 0)] L h hL1 hl1 → hl1.2.1 x 20 = fv_1 → hl1.2.1 x 75 = fw27_x_75 → hl1.2.1 x 0 = x_17 → (∀ j : Nat, (j : Int) < (hl1.2.1 x 75).toInt → 1 ≤ (hl1.2.1 qf j).toInt) → lv_has ls 12 [(7, .int iv456_7), (6, .int iv204_6), (5, .int iv204_5), (4, .int iv204_4), (3, .int r_25), (0, .ref x), (1, .int i1), (2, .int i2)] → W p l e ({ frames := 3, cells := 0, slots := 0, locals := 71 }) s m ([.ref x, .int i1, .int i2] : List Value).toArray below meth c H locs 0 0 (MQ below (va_Qi (fun (r : Int32) (u : List Nat × hx_h) => (True) ∧ hx_T T_tb u.1 u.2 ∧ hx_S T_tb [(10, 67), (10, 68), (10, 69), (10, 70), (10, 71), (10, 72), (10, 75), (100, 0), (101, 0), (102, 0), (103, 0), (104, 0), (105, 0), (106, 0), (107, 0)] L h u.1 u.2) (hx_E T_tb (P_ty dA) (dC, dI) vwCl (hx_A L sz)) (hx_A L sz)) ([.ref x, .int i1, .int i2] : List Value).toArray s 0 0 (hx_A L sz)) (F0 m 456 ls []) := by
                        intro n456
                        induction n456 with
                        | zero => intro iv456_7 H locs hL1 hl1 bliv456_7 buiv456_7  ls hn456; exfalso; omega
                        | succ n456 ih456 =>
                          intro iv456_7 H locs hL1 hl1 bliv456_7 buiv456_7  ls hn456 hW hT hM ffv_1 ffw27_x_75 fx_17 pi0 hl
                          refine lv_iload hx hb dX10_plan_456 (lv_at hl 0 rfl) ?_
                          refine lv_aload_n hx hb dX10_plan_458 rfl (lv_at hl 5 rfl) ?_
                          refine hk_geti hx hb hts hC_10 hown hW (gx.S hM) tt_10 75 ?o637 rfl kw_1218 ⟨rfl, rfl, rfl⟩ ffw27_x_75 dX10_plan_459 ?_
                          case o637 => decide
                          refine hb_icmp_ge (zx := iv456_7.toInt) (zy := fw27_x_75.toInt) (tgt := 530) hx hb rfl rfl dX10_plan_462 ?o638 (fun c_198 => ?_) (fun c_198 => ?o639)
                          case o638 => decide
                          case o639 =>
                            exfalso
                            omega
                          refine lv_iload hx hb dX10_plan_530 (lv_at hl 3 rfl) ?_
                          exact hx_reti hx hb hr hlk hW ⟨trivial, hT, hM⟩ dX10_plan_532
                      have zk_0 : (0 : Int32).toInt = 0 := ?o640
                      case o640 => decide
                      refine loop456 5 (0 : Int32) _ _ hL1 h_196 ?o641 ?o642  ls ?o643 hW hT hM ffv_1 ffw27_x_75 fx_17 pi0 hl
                      case o641 => decide
                      case o642 => decide
                      case o643 => omega
                    · skip
                      refine lv_bipush (v := -2) hx hb dX10_plan_442 ?o644 ?_
                      case o644 => decide
                      exact hx_reti hx hb hr hlk hW ⟨trivial, hT, hM⟩ dX10_plan_444
                  · skip
                    refine lv_iconst (v := 0) hx hb dX10_plan_209 ?o645 ?_
                    case o645 => decide
                    refine lv_istore (lv' := [(7, .int (0 : Int32)), (6, .int iv204_6), (5, .int iv204_5), (4, .int iv204_4), (3, .int r_25), (0, .ref x), (1, .int i1), (2, .int i2)]) hx hb dX10_plan_210 hl ?o646 rfl (fun ls hl => ?_)
                    case o646 => decide
                    refine lv_iconst (v := 0) hx hb dX10_plan_212 ?o647 ?_
                    case o647 => decide
                    refine lv_istore (lv' := [(8, .int (0 : Int32)), (7, .int (0 : Int32)), (6, .int iv204_6), (5, .int iv204_5), (4, .int iv204_4), (3, .int r_25), (0, .ref x), (1, .int i1), (2, .int i2)]) hx hb dX10_plan_213 hl ?o648 rfl (fun ls hl => ?_)
                    case o648 => decide
                    refine lv_iconst (v := 0) hx hb dX10_plan_215 ?o649 ?_
                    case o649 => decide
                    refine lv_istore (lv' := [(9, .int (0 : Int32)), (8, .int (0 : Int32)), (7, .int (0 : Int32)), (6, .int iv204_6), (5, .int iv204_5), (4, .int iv204_4), (3, .int r_25), (0, .ref x), (1, .int i1), (2, .int i2)]) hx hb dX10_plan_216 hl ?o650 rfl (fun ls hl => ?_)
                    case o650 => decide
                    refine lv_iconst (v := 0) hx hb dX10_plan_218 ?o651 ?_
                    case o651 => decide
                    refine lv_istore (lv' := [(10, .int (0 : Int32)), (9, .int (0 : Int32)), (8, .int (0 : Int32)), (7, .int (0 : Int32)), (6, .int iv204_6), (5, .int iv204_5), (4, .int iv204_4), (3, .int r_25), (0, .ref x), (1, .int i1), (2, .int i2)]) hx hb dX10_plan_219 hl ?o652 rfl (fun ls hl => ?_)
                    case o652 => decide
                    have loop221 : ∀ (n221 : Nat) (iv221_7 iv221_8 iv221_9 iv221_10 : Int32) (H : Heap) (locs : List Loc) (hL1 : List Nat) (hl1 : hx_h), -2147483648 ≤ iv221_7.toInt → iv221_7.toInt ≤ 2147483647 → -2147483648 ≤ iv221_8.toInt → iv221_8.toInt ≤ 2147483647 → -2147483648 ≤ iv221_9.toInt → iv221_9.toInt ≤ 2147483647 → 0 ≤ iv221_10.toInt → iv221_10.toInt ≤ 4 → ∀ (ls : Array Slot), 4 - iv221_10.toInt < (n221 : Int) → hx_W T_tb (P_ty dA) (dC, dI) vwCl (hx_A L sz) s.heap hL1 hl1 s H locs → hx_T T_tb hL1 hl1 → hx_S T_tb [(10, 67), (10, 68), (10, 69), (10, 70), (10, 71), (10, 72), (10, 75), (100, 0), (101, 0), (102, 0), (103, 0), (104, 0), (105, 0), (106, 0), (107, 0)] L h hL1 hl1 → hl1.2.1 x 20 = fv_1 → hl1.2.1 x 75 = fw27_x_75 → hl1.2.1 x 0 = x_17 → (∀ j : Nat, (j : Int) < (hl1.2.1 x 75).toInt → 1 ≤ (hl1.2.1 qf j).toInt) → hl1.2.1 qm = ia204_qm → lv_has ls 12 [(10, .int iv221_10), (9, .int iv221_9), (8, .int iv221_8), (7, .int iv221_7), (6, .int iv204_6), (5, .int iv204_5), (4, .int iv204_4), (3, .int r_25), (0, .ref x), (1, .int i1), (2, .int i2)] → W p l e ({ frames := 3, cells := 0, slots := 0, locals := 71 }) s m ([.ref x, .int i1, .int i2] : List Value).toArray below meth c H locs 0 0 (MQ below (va_Qi (fun (r : Int32) (u : List Nat × hx_h) => (True) ∧ hx_T T_tb u.1 u.2 ∧ hx_S T_tb [(10, 67), (10, 68), (10, 69), (10, 70), (10, 71), (10, 72), (10, 75), (100, 0), (101, 0), (102, 0), (103, 0), (104, 0), (105, 0), (106, 0), (107, 0)] L h u.1 u.2) (hx_E T_tb (P_ty dA) (dC, dI) vwCl (hx_A L sz)) (hx_A L sz)) ([.ref x, .int i1, .int i2] : List Value).toArray s 0 0 (hx_A L sz)) (F0 m 221 ls []) := by
                      intro n221
                      induction n221 with
                      | zero => intro iv221_7 iv221_8 iv221_9 iv221_10 H locs hL1 hl1 bliv221_7 buiv221_7 bliv221_8 buiv221_8 bliv221_9 buiv221_9 bliv221_10 buiv221_10  ls hn221; exfalso; omega
                      | succ n221 ih221 =>
                        intro iv221_7 iv221_8 iv221_9 iv221_10 H locs hL1 hl1 bliv221_7 buiv221_7 bliv221_8 buiv221_8 bliv221_9 buiv221_9 bliv221_10 buiv221_10  ls hn221 hW hT hM ffv_1 ffw27_x_75 fx_17 pi0 nia204_qm hl
                        refine lv_iload hx hb dX10_plan_221 (lv_at hl 0 rfl) ?_
                        refine lv_aload_n hx hb dX10_plan_223 rfl (lv_at hl 8 rfl) ?_
                        refine hk_geti hx hb hts hC_10 hown hW (gx.S hM) tt_10 75 ?o653 rfl kw_1218 ⟨rfl, rfl, rfl⟩ ffw27_x_75 dX10_plan_224 ?_
                        case o653 => decide
                        refine hb_icmp_ge (zx := iv221_10.toInt) (zy := fw27_x_75.toInt) (tgt := 297) hx hb rfl rfl dX10_plan_227 ?o654 (fun c_199 => ?_) (fun c_199 => ?o655)
                        case o654 => decide
                        case o655 =>
                          exfalso
                          omega
                        refine lv_iload hx hb dX10_plan_297 (lv_at hl 3 rfl) ?_
                        refine lv_iload_n hx hb dX10_plan_299 rfl (lv_at hl 7 rfl) ?_
                        refine hb_icmp_gt (zx := iv221_7.toInt) (zy := r_25.toInt) (tgt := 364) hx hb rfl rfl dX10_plan_300 ?o656 (fun c_200 => ?_) (fun c_200 => ?_)
                        case o656 => decide
                        · skip
                          refine lv_aload_n hx hb dX10_plan_364 rfl (lv_at hl 8 rfl) ?_
                          refine hk_geti hx hb hts hC_10 hown hW (gx.S hM) tt_10 75 ?o657 rfl kw_1218 ⟨rfl, rfl, rfl⟩ ffw27_x_75 dX10_plan_365 ?_
                          case o657 => decide
                          refine lv_iconst (v := 1) hx hb dX10_plan_368 ?o658 ?_
                          case o658 => decide
                          refine lv_isub hx hb dX10_plan_369 ?_
                          have rg_201 := i32_r fw27_x_75
                          refine lv_topi (fun x_202 ex_202 => ?_)
                          have zx_202 : x_202.toInt = fw27_x_75.toInt - 1 := ?o659
                          case o659 =>
                            rw [ex_202]
                            refine i32_sub rfl ?o660 ?o661 ?o662
                            case o660 => decide
                            case o661 => omega
                            case o662 => omega
                          refine lv_istore (lv' := [(10, .int x_202), (9, .int iv221_9), (8, .int iv221_8), (7, .int iv221_7), (6, .int iv204_6), (5, .int iv204_5), (4, .int iv204_4), (3, .int r_25), (0, .ref x), (1, .int i1), (2, .int i2)]) hx hb dX10_plan_370 hl ?o663 rfl (fun ls hl => ?_)
                          case o663 => decide
                          have loop372 : ∀ (n372 : Nat) (iv372_10 : Int32) (ia372_qm : Nat → Int32) (H : Heap) (locs : List Loc) (hL1 : List Nat) (hl1 : hx_h), -1 ≤ iv372_10.toInt → iv372_10.toInt ≤ 3 → (hx_V ia372_qm + hx_w iv372_10.toInt = hx_V ia204_qm + hx_w (fw27_x_75.toInt - 1)) → (iv372_10.toInt < fw27_x_75.toInt) → ∀ (ls : Array Slot), iv372_10.toInt + 1 < (n372 : Int) → hx_W T_tb (P_ty dA) (dC, dI) vwCl (hx_A L sz) s.heap hL1 hl1 s H locs → hx_T T_tb hL1 hl1 → hx_S T_tb [(10, 67), (10, 68), (10, 69), (10, 70), (10, 71), (10, 72), (10, 75), (100, 0), (101, 0), (102, 0), (103, 0), (104, 0), (105, 0), (106, 0), (107, 0)] L h hL1 hl1 → hl1.2.1 x 20 = fv_1 → hl1.2.1 x 75 = fw27_x_75 → hl1.2.1 x 0 = x_17 → (∀ j : Nat, (j : Int) < (hl1.2.1 x 75).toInt → 1 ≤ (hl1.2.1 qf j).toInt) → hl1.2.1 qm = ia372_qm → lv_has ls 12 [(10, .int iv372_10), (9, .int iv221_9), (8, .int iv221_8), (7, .int iv221_7), (6, .int iv204_6), (5, .int iv204_5), (4, .int iv204_4), (3, .int r_25), (0, .ref x), (1, .int i1), (2, .int i2)] → W p l e ({ frames := 3, cells := 0, slots := 0, locals := 71 }) s m ([.ref x, .int i1, .int i2] : List Value).toArray below meth c H locs 0 0 (MQ below (va_Qi (fun (r : Int32) (u : List Nat × hx_h) => (True) ∧ hx_T T_tb u.1 u.2 ∧ hx_S T_tb [(10, 67), (10, 68), (10, 69), (10, 70), (10, 71), (10, 72), (10, 75), (100, 0), (101, 0), (102, 0), (103, 0), (104, 0), (105, 0), (106, 0), (107, 0)] L h u.1 u.2) (hx_E T_tb (P_ty dA) (dC, dI) vwCl (hx_A L sz)) (hx_A L sz)) ([.ref x, .int i1, .int i2] : List Value).toArray s 0 0 (hx_A L sz)) (F0 m 372 ls []) := by
                            intro n372
                            induction n372 with
                            | zero => intro iv372_10 ia372_qm H locs hL1 hl1 bliv372_10 buiv372_10 vi372_0 vi372_1 ls hn372; exfalso; omega
                            | succ n372 ih372 =>
                              intro iv372_10 ia372_qm H locs hL1 hl1 bliv372_10 buiv372_10 vi372_0 vi372_1 ls hn372 hW hT hM ffv_1 ffw27_x_75 fx_17 pi0 nia372_qm hl
                              refine lv_iload hx hb dX10_plan_372 (lv_at hl 0 rfl) ?_
                              refine hb_if_lt (zx := iv372_10.toInt) (tgt := 403) hx hb rfl dX10_plan_374 ?o664 (fun c_203 => ?_) (fun c_203 => ?_)
                              case o664 => decide
                              · skip
                                refine lv_iload hx hb dX10_plan_403 (lv_at hl 0 rfl) ?_
                                refine hb_if_lt (zx := iv372_10.toInt) (tgt := 412) hx hb rfl dX10_plan_405 ?o665 (fun c_204 => ?_) (fun c_204 => ?o666)
                                case o665 => decide
                                case o666 =>
                                  exfalso
                                  omega
                                refine lv_iconst (v := 0) hx hb dX10_plan_412 ?o667 ?_
                                case o667 => decide
                                refine lv_istore (lv' := [(6, .int (0 : Int32)), (10, .int iv372_10), (9, .int iv221_9), (8, .int iv221_8), (7, .int iv221_7), (5, .int iv204_5), (4, .int iv204_4), (3, .int r_25), (0, .ref x), (1, .int i1), (2, .int i2)]) hx hb dX10_plan_413 hl ?o668 rfl (fun ls hl => ?_)
                                case o668 => decide
                                refine lv_iload hx hb dX10_plan_415 (lv_at hl 0 rfl) ?_
                                refine hb_if_eq (zx := 0) (tgt := 431) hx hb ?o669 dX10_plan_417 ?o670 (fun c_205 => ?_) (fun c_205 => absurd c_205 ?o671)
                                case o669 => decide
                                case o670 => decide
                                case o671 => decide
                                have hm12 : hx_m12 ia372_qm := (fun k hk => by have q := hT.ei (gqm.S hM) tt_105 (k := k) hk; rw [nia372_qm] at q; exact q)
                                have hvb := hx_V_b hm12
                                refine lv_goto (tgt := 204) hx hb dX10_plan_431 ?o672 ?_
                                case o672 => decide
                                have zk_0 : (0 : Int32).toInt = 0 := ?o673
                                case o673 => decide
                                refine ih204 iv204_4 iv204_5 (0 : Int32) ia372_qm _ _ hL1 hl1 (i32_r _).1 (i32_r _).2 (i32_r _).1 (i32_r _).2 ?o674 ?o675 hm12 ls ?o676 hW hT hM ffv_1 ffw27_x_75 fx_17 pi0 nia372_qm (lv_sub hl [0, 5, 6, 7, 8, 9, 10] rfl)
                                case o674 => decide
                                case o675 => decide
                                case o676 => omega
                              · skip
                                refine lv_aload_n hx hb dX10_plan_377 rfl (lv_at hl 8 rfl) ?_
                                refine hk_getr hx hb hts hC_10 hown hW (gx.S hM) tt_10 79 ?o677 rfl kw_1222 ⟨rfl, rfl, rfl⟩ ((hM.o gx trivial rfl).2.trans f_x_79) dX10_plan_378 ?_
                                case o677 => decide
                                refine lv_iload hx hb dX10_plan_381 (lv_at hl 0 rfl) ?_
                                refine hx_iald hx hb hW hT (gqm.S hM) tt_105 rfl ⟨?o678, ?o679⟩ dX10_plan_383 (fun x_206 ex_206 lx_206 ux_206 => ?_)
                                case o678 => omega
                                case o679 => omega
                                have ax_206 : x_206 = ia372_qm iv372_10.toNatClampNeg := ex_206.trans (congrFun nia372_qm _)
                                refine lv_bipush (v := 12) hx hb dX10_plan_384 ?o680 ?_
                                case o680 => decide
                                refine hb_icmp_ne (zx := x_206.toInt) (zy := 12) (tgt := 403) hx hb rfl ?o681 dX10_plan_386 ?o682 (fun c_207 => ?_) (fun c_207 => ?_)
                                case o681 => decide
                                case o682 => decide
                                · skip
                                  refine lv_iload hx hb dX10_plan_403 (lv_at hl 0 rfl) ?_
                                  refine hb_if_lt (zx := iv372_10.toInt) (tgt := 412) hx hb rfl dX10_plan_405 ?o683 (fun c_208 => ?o684) (fun c_208 => ?_)
                                  case o683 => decide
                                  case o684 =>
                                    exfalso
                                    omega
                                  refine lv_iconst (v := 1) hx hb dX10_plan_408 ?o685 ?_
                                  case o685 => decide
                                  refine lv_goto (tgt := 413) hx hb dX10_plan_409 ?o686 ?_
                                  case o686 => decide
                                  refine lv_istore (lv' := [(6, .int (1 : Int32)), (10, .int iv372_10), (9, .int iv221_9), (8, .int iv221_8), (7, .int iv221_7), (5, .int iv204_5), (4, .int iv204_4), (3, .int r_25), (0, .ref x), (1, .int i1), (2, .int i2)]) hx hb dX10_plan_413 hl ?o687 rfl (fun ls hl => ?_)
                                  case o687 => decide
                                  refine lv_iload hx hb dX10_plan_415 (lv_at hl 0 rfl) ?_
                                  refine hb_if_eq (zx := 1) (tgt := 431) hx hb ?o688 dX10_plan_417 ?o689 (fun c_209 => absurd c_209 ?o690) (fun c_209 => ?_)
                                  case o688 => decide
                                  case o689 => decide
                                  case o690 => decide
                                  refine lv_aload_n hx hb dX10_plan_420 rfl (lv_at hl 8 rfl) ?_
                                  refine hk_getr hx hb hts hC_10 hown hW (gx.S hM) tt_10 79 ?o691 rfl kw_1222 ⟨rfl, rfl, rfl⟩ ((hM.o gx trivial rfl).2.trans f_x_79) dX10_plan_421 ?_
                                  case o691 => decide
                                  refine lv_iload hx hb dX10_plan_424 (lv_at hl 1 rfl) ?_
                                  refine lv_dup2_11 hx hb dX10_plan_426 rfl rfl ?_
                                  refine hx_iald hx hb hW hT (gqm.S hM) tt_105 rfl ⟨?o692, ?o693⟩ dX10_plan_427 (fun x_210 ex_210 lx_210 ux_210 => ?_)
                                  case o692 => omega
                                  case o693 => omega
                                  have ax_210 : x_210 = ia372_qm iv372_10.toNatClampNeg := ex_210.trans (congrFun nia372_qm _)
                                  obtain rfl : x_206 = x_210 := ex_206.trans ex_210.symm
                                  refine lv_iconst (v := 1) hx hb dX10_plan_428 ?o694 ?_
                                  case o694 => decide
                                  refine lv_iadd hx hb dX10_plan_429 ?_
                                  have rg_211 := i32_r x_206
                                  refine lv_topi (fun x_212 ex_212 => ?_)
                                  have zx_212 : x_212.toInt = x_206.toInt + 1 := ?o695
                                  case o695 =>
                                    rw [ex_212]
                                    refine i32_add rfl ?o696 ?o697 ?o698
                                    case o696 => decide
                                    case o697 => omega
                                    case o698 => omega
                                  have nia372_qmO := nia372_qm
                                  refine hx_iast hx hb hW hT (hx_S.rf (M := [(105, 0)])) (gqm.S hM) tt_105 rfl ⟨?o699, ?o700⟩ rfl ⟨?o701, ?o702⟩ (List.mem_singleton.mpr rfl) dX10_plan_430 (fun H locs h_213 eh_213 hW hT hs => ?_)
                                  case o699 => omega
                                  case o700 => omega
                                  case o701 => omega
                                  case o702 => omega
                                  replace ffv_1 := (hs.o (gx.S hM) trivial rfl).1.trans ffv_1
                                  replace ffw27_x_75 := (hs.o (gx.S hM) trivial rfl).1.trans ffw27_x_75
                                  replace fx_17 := (hs.o (gx.S hM) trivial rfl).1.trans fx_17
                                  replace pi0 : ∀ j : Nat, (j : Int) < (h_213.2.1 x 75).toInt → 1 ≤ (h_213.2.1 qf j).toInt := by
                                    intro j hj; rw [(hs.o (gx.S hM) trivial rfl).1] at hj; rw [(hs.a (gqf.S hM) rfl j).1]; exact pi0 j hj
                                  replace hM := hM.tr (hs.mono ?o703)
                                  case o703 => decide
                                  obtain ⟨fa_214, dfa_214⟩ : ∃ g : Nat → Int32, g = hx_up ia372_qm iv372_10.toNatClampNeg x_212 := ⟨_, rfl⟩
                                  have nfa_214 : h_213.2.1 qm = fa_214 := ?o704
                                  case o704 =>
                                    rw [eh_213, dfa_214, ← nia372_qmO]
                                    exact hx_pi_fun _ _ _ _
                                  have hvq := (hx_V_up ?o705 ?o706 ax_206 dfa_214).2 ?o707
                                  case o705 => omega
                                  case o706 => omega
                                  case o707 => omega
                                  have hwq := hx_w_b (i := (fw27_x_75.toInt - 1 : Int))
                                  have hm12 : hx_m12 fa_214 := (fun k hk => by have q := hT.ei (gqm.S hM) tt_105 (k := k) hk; rw [nfa_214] at q; exact q)
                                  have hvb := hx_V_b hm12
                                  refine lv_goto (tgt := 204) hx hb dX10_plan_431 ?o708 ?_
                                  case o708 => decide
                                  have zk_1 : (1 : Int32).toInt = 1 := ?o709
                                  case o709 => decide
                                  refine ih204 iv204_4 iv204_5 (1 : Int32) fa_214 _ _ hL1 h_213 (i32_r _).1 (i32_r _).2 (i32_r _).1 (i32_r _).2 ?o710 ?o711 hm12 ls ?o712 hW hT hM ffv_1 ffw27_x_75 fx_17 pi0 nfa_214 (lv_sub hl [0, 5, 6, 7, 8, 9, 10] rfl)
                                  case o710 => decide
                                  case o711 => decide
                                  case o712 => omega
                                · skip
                                  refine lv_aload_n hx hb dX10_plan_389 rfl (lv_at hl 8 rfl) ?_
                                  refine hk_getr hx hb hts hC_10 hown hW (gx.S hM) tt_10 79 ?o713 rfl kw_1222 ⟨rfl, rfl, rfl⟩ ((hM.o gx trivial rfl).2.trans f_x_79) dX10_plan_390 ?_
                                  case o713 => decide
                                  refine lv_iload hx hb dX10_plan_393 (lv_at hl 0 rfl) ?_
                                  refine lv_iconst (v := 0) hx hb dX10_plan_395 ?o714 ?_
                                  case o714 => decide
                                  have nia372_qmO := nia372_qm
                                  refine hx_iast hx hb hW hT (hx_S.rf (M := [(105, 0)])) (gqm.S hM) tt_105 rfl ⟨?o715, ?o716⟩ rfl ?o717 (List.mem_singleton.mpr rfl) dX10_plan_396 (fun H locs h_215 eh_215 hW hT hs => ?_)
                                  case o715 => omega
                                  case o716 => omega
                                  case o717 => decide
                                  replace ffv_1 := (hs.o (gx.S hM) trivial rfl).1.trans ffv_1
                                  replace ffw27_x_75 := (hs.o (gx.S hM) trivial rfl).1.trans ffw27_x_75
                                  replace fx_17 := (hs.o (gx.S hM) trivial rfl).1.trans fx_17
                                  replace pi0 : ∀ j : Nat, (j : Int) < (h_215.2.1 x 75).toInt → 1 ≤ (h_215.2.1 qf j).toInt := by
                                    intro j hj; rw [(hs.o (gx.S hM) trivial rfl).1] at hj; rw [(hs.a (gqf.S hM) rfl j).1]; exact pi0 j hj
                                  replace hM := hM.tr (hs.mono ?o718)
                                  case o718 => decide
                                  obtain ⟨fa_216, dfa_216⟩ : ∃ g : Nat → Int32, g = hx_up ia372_qm iv372_10.toNatClampNeg (0 : Int32) := ⟨_, rfl⟩
                                  have nfa_216 : h_215.2.1 qm = fa_216 := ?o719
                                  case o719 =>
                                    rw [eh_215, dfa_216, ← nia372_qmO]
                                    exact hx_pi_fun _ _ _ _
                                  obtain ⟨x_217, ex_217⟩ : ∃ y : Int32, y = iv372_10 + Int32.ofInt (-1) := ⟨_, rfl⟩
                                  have rg_218 := i32_r iv372_10
                                  have zx_217 : x_217.toInt = iv372_10.toInt + (-1) := ?o720
                                  case o720 =>
                                    rw [ex_217]
                                    refine i32_add rfl ?o721 ?o722 ?o723
                                    case o721 => decide
                                    case o722 => omega
                                    case o723 => omega
                                  refine lv_iinc (v := x_217) (lv' := [(10, .int x_217), (9, .int iv221_9), (8, .int iv221_8), (7, .int iv221_7), (6, .int iv204_6), (5, .int iv204_5), (4, .int iv204_4), (3, .int r_25), (0, .ref x), (1, .int i1), (2, .int i2)]) hx hb dX10_plan_397 hl (k := 0) rfl ex_217.symm ?o724 rfl (fun ls hl => ?_)
                                  case o724 => decide
                                  refine lv_goto (tgt := 372) hx hb dX10_plan_400 ?o725 ?_
                                  case o725 => decide
                                  refine ih372 x_217 fa_216 _ _ hL1 h_215 ?o726 ?o727 (by have q := (hx_V_up (by omega) (by omega) ax_206 dfa_216).1 (by omega) (by decide); rw [show x_217.toInt = iv372_10.toInt - 1 from by omega]; omega) ?o728 ls ?o729 hW hT hM ffv_1 ffw27_x_75 fx_17 pi0 nfa_216 (lv_sub hl [0, 1, 2, 3, 4, 5, 6, 7, 8, 9, 10] rfl)
                                  case o726 => omega
                                  case o727 => omega
                                  case o728 => omega
                                  case o729 => omega
                          refine loop372 5 x_202 ia204_qm _ _ hL1 hl1 ?o730 ?o731 (by rw [zx_202]) ?o732 ls ?o733 hW hT hM ffv_1 ffw27_x_75 fx_17 pi0 nia204_qm hl
                          case o730 => omega
                          case o731 => omega
                          case o732 => omega
                          case o733 => omega
                        · skip
                          refine lv_iload hx hb dX10_plan_303 (lv_at hl 2 rfl) ?_
                          refine lv_iload hx hb dX10_plan_305 (lv_at hl 6 rfl) ?_
                          refine hb_icmp_lt (zx := iv221_8.toInt) (zy := iv204_4.toInt) (tgt := 324) hx hb rfl rfl dX10_plan_307 ?o734 (fun c_219 => ?_) (fun c_219 => ?_)
                          case o734 => decide
                          · skip
                            refine lv_iload hx hb dX10_plan_324 (lv_at hl 2 rfl) ?_
                            refine lv_istore (lv' := [(4, .int iv221_8), (10, .int iv221_10), (9, .int iv221_9), (8, .int iv221_8), (7, .int iv221_7), (6, .int iv204_6), (5, .int iv204_5), (3, .int r_25), (0, .ref x), (1, .int i1), (2, .int i2)]) hx hb dX10_plan_326 hl ?o735 rfl (fun ls hl => ?_)
                            case o735 => decide
                            refine lv_iload hx hb dX10_plan_328 (lv_at hl 2 rfl) ?_
                            refine lv_istore (lv' := [(5, .int iv221_9), (4, .int iv221_8), (10, .int iv221_10), (9, .int iv221_9), (8, .int iv221_8), (7, .int iv221_7), (6, .int iv204_6), (3, .int r_25), (0, .ref x), (1, .int i1), (2, .int i2)]) hx hb dX10_plan_330 hl ?o736 rfl (fun ls hl => ?_)
                            case o736 => decide
                            refine lv_iconst (v := 0) hx hb dX10_plan_332 ?o737 ?_
                            case o737 => decide
                            refine lv_istore (lv' := [(10, .int (0 : Int32)), (5, .int iv221_9), (4, .int iv221_8), (9, .int iv221_9), (8, .int iv221_8), (7, .int iv221_7), (6, .int iv204_6), (3, .int r_25), (0, .ref x), (1, .int i1), (2, .int i2)]) hx hb dX10_plan_333 hl ?o738 rfl (fun ls hl => ?_)
                            case o738 => decide
                            have loop335 : ∀ (n335 : Nat) (iv335_10 : Int32) (H : Heap) (locs : List Loc) (hL1 : List Nat) (hl1 : hx_h), 0 ≤ iv335_10.toInt → iv335_10.toInt ≤ 4 → ∀ (ls : Array Slot), 4 - iv335_10.toInt < (n335 : Int) → hx_W T_tb (P_ty dA) (dC, dI) vwCl (hx_A L sz) s.heap hL1 hl1 s H locs → hx_T T_tb hL1 hl1 → hx_S T_tb [(10, 67), (10, 68), (10, 69), (10, 70), (10, 71), (10, 72), (10, 75), (100, 0), (101, 0), (102, 0), (103, 0), (104, 0), (105, 0), (106, 0), (107, 0)] L h hL1 hl1 → hl1.2.1 x 20 = fv_1 → hl1.2.1 x 75 = fw27_x_75 → hl1.2.1 x 0 = x_17 → (∀ j : Nat, (j : Int) < (hl1.2.1 x 75).toInt → 1 ≤ (hl1.2.1 qf j).toInt) → hl1.2.1 qm = ia204_qm → lv_has ls 12 [(10, .int iv335_10), (5, .int iv221_9), (4, .int iv221_8), (9, .int iv221_9), (8, .int iv221_8), (7, .int iv221_7), (6, .int iv204_6), (3, .int r_25), (0, .ref x), (1, .int i1), (2, .int i2)] → W p l e ({ frames := 3, cells := 0, slots := 0, locals := 71 }) s m ([.ref x, .int i1, .int i2] : List Value).toArray below meth c H locs 0 0 (MQ below (va_Qi (fun (r : Int32) (u : List Nat × hx_h) => (True) ∧ hx_T T_tb u.1 u.2 ∧ hx_S T_tb [(10, 67), (10, 68), (10, 69), (10, 70), (10, 71), (10, 72), (10, 75), (100, 0), (101, 0), (102, 0), (103, 0), (104, 0), (105, 0), (106, 0), (107, 0)] L h u.1 u.2) (hx_E T_tb (P_ty dA) (dC, dI) vwCl (hx_A L sz)) (hx_A L sz)) ([.ref x, .int i1, .int i2] : List Value).toArray s 0 0 (hx_A L sz)) (F0 m 335 ls []) := by
                              intro n335
                              induction n335 with
                              | zero => intro iv335_10 H locs hL1 hl1 bliv335_10 buiv335_10  ls hn335; exfalso; omega
                              | succ n335 ih335 =>
                                intro iv335_10 H locs hL1 hl1 bliv335_10 buiv335_10  ls hn335 hW hT hM ffv_1 ffw27_x_75 fx_17 pi0 nia204_qm hl
                                refine lv_iload hx hb dX10_plan_335 (lv_at hl 0 rfl) ?_
                                refine lv_aload_n hx hb dX10_plan_337 rfl (lv_at hl 8 rfl) ?_
                                refine hk_geti hx hb hts hC_10 hown hW (gx.S hM) tt_10 75 ?o739 rfl kw_1218 ⟨rfl, rfl, rfl⟩ ffw27_x_75 dX10_plan_338 ?_
                                case o739 => decide
                                refine hb_icmp_ge (zx := iv335_10.toInt) (zy := fw27_x_75.toInt) (tgt := 364) hx hb rfl rfl dX10_plan_341 ?o740 (fun c_220 => ?_) (fun c_220 => ?o741)
                                case o740 => decide
                                case o741 =>
                                  exfalso
                                  omega
                                refine lv_aload_n hx hb dX10_plan_364 rfl (lv_at hl 8 rfl) ?_
                                refine hk_geti hx hb hts hC_10 hown hW (gx.S hM) tt_10 75 ?o742 rfl kw_1218 ⟨rfl, rfl, rfl⟩ ffw27_x_75 dX10_plan_365 ?_
                                case o742 => decide
                                refine lv_iconst (v := 1) hx hb dX10_plan_368 ?o743 ?_
                                case o743 => decide
                                refine lv_isub hx hb dX10_plan_369 ?_
                                have rg_221 := i32_r fw27_x_75
                                refine lv_topi (fun x_222 ex_222 => ?_)
                                have zx_222 : x_222.toInt = fw27_x_75.toInt - 1 := ?o744
                                case o744 =>
                                  rw [ex_222]
                                  refine i32_sub rfl ?o745 ?o746 ?o747
                                  case o745 => decide
                                  case o746 => omega
                                  case o747 => omega
                                refine lv_istore (lv' := [(10, .int x_222), (5, .int iv221_9), (4, .int iv221_8), (9, .int iv221_9), (8, .int iv221_8), (7, .int iv221_7), (6, .int iv204_6), (3, .int r_25), (0, .ref x), (1, .int i1), (2, .int i2)]) hx hb dX10_plan_370 hl ?o748 rfl (fun ls hl => ?_)
                                case o748 => decide
                                have loop372 : ∀ (n372 : Nat) (iv372_10 : Int32) (ia372_qm : Nat → Int32) (H : Heap) (locs : List Loc) (hL1 : List Nat) (hl1 : hx_h), -1 ≤ iv372_10.toInt → iv372_10.toInt ≤ 3 → (hx_V ia372_qm + hx_w iv372_10.toInt = hx_V ia204_qm + hx_w (fw27_x_75.toInt - 1)) → (iv372_10.toInt < fw27_x_75.toInt) → ∀ (ls : Array Slot), iv372_10.toInt + 1 < (n372 : Int) → hx_W T_tb (P_ty dA) (dC, dI) vwCl (hx_A L sz) s.heap hL1 hl1 s H locs → hx_T T_tb hL1 hl1 → hx_S T_tb [(10, 67), (10, 68), (10, 69), (10, 70), (10, 71), (10, 72), (10, 75), (100, 0), (101, 0), (102, 0), (103, 0), (104, 0), (105, 0), (106, 0), (107, 0)] L h hL1 hl1 → hl1.2.1 x 20 = fv_1 → hl1.2.1 x 75 = fw27_x_75 → hl1.2.1 x 0 = x_17 → (∀ j : Nat, (j : Int) < (hl1.2.1 x 75).toInt → 1 ≤ (hl1.2.1 qf j).toInt) → hl1.2.1 qm = ia372_qm → lv_has ls 12 [(10, .int iv372_10), (5, .int iv221_9), (4, .int iv221_8), (9, .int iv221_9), (8, .int iv221_8), (7, .int iv221_7), (6, .int iv204_6), (3, .int r_25), (0, .ref x), (1, .int i1), (2, .int i2)] → W p l e ({ frames := 3, cells := 0, slots := 0, locals := 71 }) s m ([.ref x, .int i1, .int i2] : List Value).toArray below meth c H locs 0 0 (MQ below (va_Qi (fun (r : Int32) (u : List Nat × hx_h) => (True) ∧ hx_T T_tb u.1 u.2 ∧ hx_S T_tb [(10, 67), (10, 68), (10, 69), (10, 70), (10, 71), (10, 72), (10, 75), (100, 0), (101, 0), (102, 0), (103, 0), (104, 0), (105, 0), (106, 0), (107, 0)] L h u.1 u.2) (hx_E T_tb (P_ty dA) (dC, dI) vwCl (hx_A L sz)) (hx_A L sz)) ([.ref x, .int i1, .int i2] : List Value).toArray s 0 0 (hx_A L sz)) (F0 m 372 ls []) := by
                                  intro n372
                                  induction n372 with
                                  | zero => intro iv372_10 ia372_qm H locs hL1 hl1 bliv372_10 buiv372_10 vi372_0 vi372_1 ls hn372; exfalso; omega
                                  | succ n372 ih372 =>
                                    intro iv372_10 ia372_qm H locs hL1 hl1 bliv372_10 buiv372_10 vi372_0 vi372_1 ls hn372 hW hT hM ffv_1 ffw27_x_75 fx_17 pi0 nia372_qm hl
                                    refine lv_iload hx hb dX10_plan_372 (lv_at hl 0 rfl) ?_
                                    refine hb_if_lt (zx := iv372_10.toInt) (tgt := 403) hx hb rfl dX10_plan_374 ?o749 (fun c_223 => ?_) (fun c_223 => ?_)
                                    case o749 => decide
                                    · skip
                                      refine lv_iload hx hb dX10_plan_403 (lv_at hl 0 rfl) ?_
                                      refine hb_if_lt (zx := iv372_10.toInt) (tgt := 412) hx hb rfl dX10_plan_405 ?o750 (fun c_224 => ?_) (fun c_224 => ?o751)
                                      case o750 => decide
                                      case o751 =>
                                        exfalso
                                        omega
                                      refine lv_iconst (v := 0) hx hb dX10_plan_412 ?o752 ?_
                                      case o752 => decide
                                      refine lv_istore (lv' := [(6, .int (0 : Int32)), (10, .int iv372_10), (5, .int iv221_9), (4, .int iv221_8), (9, .int iv221_9), (8, .int iv221_8), (7, .int iv221_7), (3, .int r_25), (0, .ref x), (1, .int i1), (2, .int i2)]) hx hb dX10_plan_413 hl ?o753 rfl (fun ls hl => ?_)
                                      case o753 => decide
                                      refine lv_iload hx hb dX10_plan_415 (lv_at hl 0 rfl) ?_
                                      refine hb_if_eq (zx := 0) (tgt := 431) hx hb ?o754 dX10_plan_417 ?o755 (fun c_225 => ?_) (fun c_225 => absurd c_225 ?o756)
                                      case o754 => decide
                                      case o755 => decide
                                      case o756 => decide
                                      have hm12 : hx_m12 ia372_qm := (fun k hk => by have q := hT.ei (gqm.S hM) tt_105 (k := k) hk; rw [nia372_qm] at q; exact q)
                                      have hvb := hx_V_b hm12
                                      refine lv_goto (tgt := 204) hx hb dX10_plan_431 ?o757 ?_
                                      case o757 => decide
                                      have zk_0 : (0 : Int32).toInt = 0 := ?o758
                                      case o758 => decide
                                      refine ih204 iv221_8 iv221_9 (0 : Int32) ia372_qm _ _ hL1 hl1 (i32_r _).1 (i32_r _).2 (i32_r _).1 (i32_r _).2 ?o759 ?o760 hm12 ls ?o761 hW hT hM ffv_1 ffw27_x_75 fx_17 pi0 nia372_qm (lv_sub hl [0, 2, 3, 7, 8, 9, 10] rfl)
                                      case o759 => decide
                                      case o760 => decide
                                      case o761 => omega
                                    · skip
                                      refine lv_aload_n hx hb dX10_plan_377 rfl (lv_at hl 8 rfl) ?_
                                      refine hk_getr hx hb hts hC_10 hown hW (gx.S hM) tt_10 79 ?o762 rfl kw_1222 ⟨rfl, rfl, rfl⟩ ((hM.o gx trivial rfl).2.trans f_x_79) dX10_plan_378 ?_
                                      case o762 => decide
                                      refine lv_iload hx hb dX10_plan_381 (lv_at hl 0 rfl) ?_
                                      refine hx_iald hx hb hW hT (gqm.S hM) tt_105 rfl ⟨?o763, ?o764⟩ dX10_plan_383 (fun x_226 ex_226 lx_226 ux_226 => ?_)
                                      case o763 => omega
                                      case o764 => omega
                                      have ax_226 : x_226 = ia372_qm iv372_10.toNatClampNeg := ex_226.trans (congrFun nia372_qm _)
                                      refine lv_bipush (v := 12) hx hb dX10_plan_384 ?o765 ?_
                                      case o765 => decide
                                      refine hb_icmp_ne (zx := x_226.toInt) (zy := 12) (tgt := 403) hx hb rfl ?o766 dX10_plan_386 ?o767 (fun c_227 => ?_) (fun c_227 => ?_)
                                      case o766 => decide
                                      case o767 => decide
                                      · skip
                                        refine lv_iload hx hb dX10_plan_403 (lv_at hl 0 rfl) ?_
                                        refine hb_if_lt (zx := iv372_10.toInt) (tgt := 412) hx hb rfl dX10_plan_405 ?o768 (fun c_228 => ?o769) (fun c_228 => ?_)
                                        case o768 => decide
                                        case o769 =>
                                          exfalso
                                          omega
                                        refine lv_iconst (v := 1) hx hb dX10_plan_408 ?o770 ?_
                                        case o770 => decide
                                        refine lv_goto (tgt := 413) hx hb dX10_plan_409 ?o771 ?_
                                        case o771 => decide
                                        refine lv_istore (lv' := [(6, .int (1 : Int32)), (10, .int iv372_10), (5, .int iv221_9), (4, .int iv221_8), (9, .int iv221_9), (8, .int iv221_8), (7, .int iv221_7), (3, .int r_25), (0, .ref x), (1, .int i1), (2, .int i2)]) hx hb dX10_plan_413 hl ?o772 rfl (fun ls hl => ?_)
                                        case o772 => decide
                                        refine lv_iload hx hb dX10_plan_415 (lv_at hl 0 rfl) ?_
                                        refine hb_if_eq (zx := 1) (tgt := 431) hx hb ?o773 dX10_plan_417 ?o774 (fun c_229 => absurd c_229 ?o775) (fun c_229 => ?_)
                                        case o773 => decide
                                        case o774 => decide
                                        case o775 => decide
                                        refine lv_aload_n hx hb dX10_plan_420 rfl (lv_at hl 8 rfl) ?_
                                        refine hk_getr hx hb hts hC_10 hown hW (gx.S hM) tt_10 79 ?o776 rfl kw_1222 ⟨rfl, rfl, rfl⟩ ((hM.o gx trivial rfl).2.trans f_x_79) dX10_plan_421 ?_
                                        case o776 => decide
                                        refine lv_iload hx hb dX10_plan_424 (lv_at hl 1 rfl) ?_
                                        refine lv_dup2_11 hx hb dX10_plan_426 rfl rfl ?_
                                        refine hx_iald hx hb hW hT (gqm.S hM) tt_105 rfl ⟨?o777, ?o778⟩ dX10_plan_427 (fun x_230 ex_230 lx_230 ux_230 => ?_)
                                        case o777 => omega
                                        case o778 => omega
                                        have ax_230 : x_230 = ia372_qm iv372_10.toNatClampNeg := ex_230.trans (congrFun nia372_qm _)
                                        obtain rfl : x_226 = x_230 := ex_226.trans ex_230.symm
                                        refine lv_iconst (v := 1) hx hb dX10_plan_428 ?o779 ?_
                                        case o779 => decide
                                        refine lv_iadd hx hb dX10_plan_429 ?_
                                        have rg_231 := i32_r x_226
                                        refine lv_topi (fun x_232 ex_232 => ?_)
                                        have zx_232 : x_232.toInt = x_226.toInt + 1 := ?o780
                                        case o780 =>
                                          rw [ex_232]
                                          refine i32_add rfl ?o781 ?o782 ?o783
                                          case o781 => decide
                                          case o782 => omega
                                          case o783 => omega
                                        have nia372_qmO := nia372_qm
                                        refine hx_iast hx hb hW hT (hx_S.rf (M := [(105, 0)])) (gqm.S hM) tt_105 rfl ⟨?o784, ?o785⟩ rfl ⟨?o786, ?o787⟩ (List.mem_singleton.mpr rfl) dX10_plan_430 (fun H locs h_233 eh_233 hW hT hs => ?_)
                                        case o784 => omega
                                        case o785 => omega
                                        case o786 => omega
                                        case o787 => omega
                                        replace ffv_1 := (hs.o (gx.S hM) trivial rfl).1.trans ffv_1
                                        replace ffw27_x_75 := (hs.o (gx.S hM) trivial rfl).1.trans ffw27_x_75
                                        replace fx_17 := (hs.o (gx.S hM) trivial rfl).1.trans fx_17
                                        replace pi0 : ∀ j : Nat, (j : Int) < (h_233.2.1 x 75).toInt → 1 ≤ (h_233.2.1 qf j).toInt := by
                                          intro j hj; rw [(hs.o (gx.S hM) trivial rfl).1] at hj; rw [(hs.a (gqf.S hM) rfl j).1]; exact pi0 j hj
                                        replace hM := hM.tr (hs.mono ?o788)
                                        case o788 => decide
                                        obtain ⟨fa_234, dfa_234⟩ : ∃ g : Nat → Int32, g = hx_up ia372_qm iv372_10.toNatClampNeg x_232 := ⟨_, rfl⟩
                                        have nfa_234 : h_233.2.1 qm = fa_234 := ?o789
                                        case o789 =>
                                          rw [eh_233, dfa_234, ← nia372_qmO]
                                          exact hx_pi_fun _ _ _ _
                                        have hvq := (hx_V_up ?o790 ?o791 ax_226 dfa_234).2 ?o792
                                        case o790 => omega
                                        case o791 => omega
                                        case o792 => omega
                                        have hwq := hx_w_b (i := (fw27_x_75.toInt - 1 : Int))
                                        have hm12 : hx_m12 fa_234 := (fun k hk => by have q := hT.ei (gqm.S hM) tt_105 (k := k) hk; rw [nfa_234] at q; exact q)
                                        have hvb := hx_V_b hm12
                                        refine lv_goto (tgt := 204) hx hb dX10_plan_431 ?o793 ?_
                                        case o793 => decide
                                        have zk_1 : (1 : Int32).toInt = 1 := ?o794
                                        case o794 => decide
                                        refine ih204 iv221_8 iv221_9 (1 : Int32) fa_234 _ _ hL1 h_233 (i32_r _).1 (i32_r _).2 (i32_r _).1 (i32_r _).2 ?o795 ?o796 hm12 ls ?o797 hW hT hM ffv_1 ffw27_x_75 fx_17 pi0 nfa_234 (lv_sub hl [0, 2, 3, 7, 8, 9, 10] rfl)
                                        case o795 => decide
                                        case o796 => decide
                                        case o797 => omega
                                      · skip
                                        refine lv_aload_n hx hb dX10_plan_389 rfl (lv_at hl 8 rfl) ?_
                                        refine hk_getr hx hb hts hC_10 hown hW (gx.S hM) tt_10 79 ?o798 rfl kw_1222 ⟨rfl, rfl, rfl⟩ ((hM.o gx trivial rfl).2.trans f_x_79) dX10_plan_390 ?_
                                        case o798 => decide
                                        refine lv_iload hx hb dX10_plan_393 (lv_at hl 0 rfl) ?_
                                        refine lv_iconst (v := 0) hx hb dX10_plan_395 ?o799 ?_
                                        case o799 => decide
                                        have nia372_qmO := nia372_qm
                                        refine hx_iast hx hb hW hT (hx_S.rf (M := [(105, 0)])) (gqm.S hM) tt_105 rfl ⟨?o800, ?o801⟩ rfl ?o802 (List.mem_singleton.mpr rfl) dX10_plan_396 (fun H locs h_235 eh_235 hW hT hs => ?_)
                                        case o800 => omega
                                        case o801 => omega
                                        case o802 => decide
                                        replace ffv_1 := (hs.o (gx.S hM) trivial rfl).1.trans ffv_1
                                        replace ffw27_x_75 := (hs.o (gx.S hM) trivial rfl).1.trans ffw27_x_75
                                        replace fx_17 := (hs.o (gx.S hM) trivial rfl).1.trans fx_17
                                        replace pi0 : ∀ j : Nat, (j : Int) < (h_235.2.1 x 75).toInt → 1 ≤ (h_235.2.1 qf j).toInt := by
                                          intro j hj; rw [(hs.o (gx.S hM) trivial rfl).1] at hj; rw [(hs.a (gqf.S hM) rfl j).1]; exact pi0 j hj
                                        replace hM := hM.tr (hs.mono ?o803)
                                        case o803 => decide
                                        obtain ⟨fa_236, dfa_236⟩ : ∃ g : Nat → Int32, g = hx_up ia372_qm iv372_10.toNatClampNeg (0 : Int32) := ⟨_, rfl⟩
                                        have nfa_236 : h_235.2.1 qm = fa_236 := ?o804
                                        case o804 =>
                                          rw [eh_235, dfa_236, ← nia372_qmO]
                                          exact hx_pi_fun _ _ _ _
                                        obtain ⟨x_237, ex_237⟩ : ∃ y : Int32, y = iv372_10 + Int32.ofInt (-1) := ⟨_, rfl⟩
                                        have rg_238 := i32_r iv372_10
                                        have zx_237 : x_237.toInt = iv372_10.toInt + (-1) := ?o805
                                        case o805 =>
                                          rw [ex_237]
                                          refine i32_add rfl ?o806 ?o807 ?o808
                                          case o806 => decide
                                          case o807 => omega
                                          case o808 => omega
                                        refine lv_iinc (v := x_237) (lv' := [(10, .int x_237), (5, .int iv221_9), (4, .int iv221_8), (9, .int iv221_9), (8, .int iv221_8), (7, .int iv221_7), (6, .int iv204_6), (3, .int r_25), (0, .ref x), (1, .int i1), (2, .int i2)]) hx hb dX10_plan_397 hl (k := 0) rfl ex_237.symm ?o809 rfl (fun ls hl => ?_)
                                        case o809 => decide
                                        refine lv_goto (tgt := 372) hx hb dX10_plan_400 ?o810 ?_
                                        case o810 => decide
                                        refine ih372 x_237 fa_236 _ _ hL1 h_235 ?o811 ?o812 (by have q := (hx_V_up (by omega) (by omega) ax_226 dfa_236).1 (by omega) (by decide); rw [show x_237.toInt = iv372_10.toInt - 1 from by omega]; omega) ?o813 ls ?o814 hW hT hM ffv_1 ffw27_x_75 fx_17 pi0 nfa_236 (lv_sub hl [0, 1, 2, 3, 4, 5, 6, 7, 8, 9, 10] rfl)
                                        case o811 => omega
                                        case o812 => omega
                                        case o813 => omega
                                        case o814 => omega
                                refine loop372 5 x_222 ia204_qm _ _ hL1 hl1 ?o815 ?o816 (by rw [zx_222]) ?o817 ls ?o818 hW hT hM ffv_1 ffw27_x_75 fx_17 pi0 nia204_qm hl
                                case o815 => omega
                                case o816 => omega
                                case o817 => omega
                                case o818 => omega
                            have zk_0 : (0 : Int32).toInt = 0 := ?o819
                            case o819 => decide
                            refine loop335 5 (0 : Int32) _ _ hL1 hl1 ?o820 ?o821  ls ?o822 hW hT hM ffv_1 ffw27_x_75 fx_17 pi0 nia204_qm hl
                            case o820 => decide
                            case o821 => decide
                            case o822 => omega
                          · skip
                            refine lv_iload hx hb dX10_plan_310 (lv_at hl 2 rfl) ?_
                            refine lv_iload hx hb dX10_plan_312 (lv_at hl 6 rfl) ?_
                            refine hb_icmp_ne (zx := iv221_8.toInt) (zy := iv204_4.toInt) (tgt := 364) hx hb rfl rfl dX10_plan_314 ?o823 (fun c_239 => ?_) (fun c_239 => ?_)
                            case o823 => decide
                            · skip
                              refine lv_aload_n hx hb dX10_plan_364 rfl (lv_at hl 8 rfl) ?_
                              refine hk_geti hx hb hts hC_10 hown hW (gx.S hM) tt_10 75 ?o824 rfl kw_1218 ⟨rfl, rfl, rfl⟩ ffw27_x_75 dX10_plan_365 ?_
                              case o824 => decide
                              refine lv_iconst (v := 1) hx hb dX10_plan_368 ?o825 ?_
                              case o825 => decide
                              refine lv_isub hx hb dX10_plan_369 ?_
                              have rg_240 := i32_r fw27_x_75
                              refine lv_topi (fun x_241 ex_241 => ?_)
                              have zx_241 : x_241.toInt = fw27_x_75.toInt - 1 := ?o826
                              case o826 =>
                                rw [ex_241]
                                refine i32_sub rfl ?o827 ?o828 ?o829
                                case o827 => decide
                                case o828 => omega
                                case o829 => omega
                              refine lv_istore (lv' := [(10, .int x_241), (9, .int iv221_9), (8, .int iv221_8), (7, .int iv221_7), (6, .int iv204_6), (5, .int iv204_5), (4, .int iv204_4), (3, .int r_25), (0, .ref x), (1, .int i1), (2, .int i2)]) hx hb dX10_plan_370 hl ?o830 rfl (fun ls hl => ?_)
                              case o830 => decide
                              have loop372 : ∀ (n372 : Nat) (iv372_10 : Int32) (ia372_qm : Nat → Int32) (H : Heap) (locs : List Loc) (hL1 : List Nat) (hl1 : hx_h), -1 ≤ iv372_10.toInt → iv372_10.toInt ≤ 3 → (hx_V ia372_qm + hx_w iv372_10.toInt = hx_V ia204_qm + hx_w (fw27_x_75.toInt - 1)) → (iv372_10.toInt < fw27_x_75.toInt) → ∀ (ls : Array Slot), iv372_10.toInt + 1 < (n372 : Int) → hx_W T_tb (P_ty dA) (dC, dI) vwCl (hx_A L sz) s.heap hL1 hl1 s H locs → hx_T T_tb hL1 hl1 → hx_S T_tb [(10, 67), (10, 68), (10, 69), (10, 70), (10, 71), (10, 72), (10, 75), (100, 0), (101, 0), (102, 0), (103, 0), (104, 0), (105, 0), (106, 0), (107, 0)] L h hL1 hl1 → hl1.2.1 x 20 = fv_1 → hl1.2.1 x 75 = fw27_x_75 → hl1.2.1 x 0 = x_17 → (∀ j : Nat, (j : Int) < (hl1.2.1 x 75).toInt → 1 ≤ (hl1.2.1 qf j).toInt) → hl1.2.1 qm = ia372_qm → lv_has ls 12 [(10, .int iv372_10), (9, .int iv221_9), (8, .int iv221_8), (7, .int iv221_7), (6, .int iv204_6), (5, .int iv204_5), (4, .int iv204_4), (3, .int r_25), (0, .ref x), (1, .int i1), (2, .int i2)] → W p l e ({ frames := 3, cells := 0, slots := 0, locals := 71 }) s m ([.ref x, .int i1, .int i2] : List Value).toArray below meth c H locs 0 0 (MQ below (va_Qi (fun (r : Int32) (u : List Nat × hx_h) => (True) ∧ hx_T T_tb u.1 u.2 ∧ hx_S T_tb [(10, 67), (10, 68), (10, 69), (10, 70), (10, 71), (10, 72), (10, 75), (100, 0), (101, 0), (102, 0), (103, 0), (104, 0), (105, 0), (106, 0), (107, 0)] L h u.1 u.2) (hx_E T_tb (P_ty dA) (dC, dI) vwCl (hx_A L sz)) (hx_A L sz)) ([.ref x, .int i1, .int i2] : List Value).toArray s 0 0 (hx_A L sz)) (F0 m 372 ls []) := by
                                intro n372
                                induction n372 with
                                | zero => intro iv372_10 ia372_qm H locs hL1 hl1 bliv372_10 buiv372_10 vi372_0 vi372_1 ls hn372; exfalso; omega
                                | succ n372 ih372 =>
                                  intro iv372_10 ia372_qm H locs hL1 hl1 bliv372_10 buiv372_10 vi372_0 vi372_1 ls hn372 hW hT hM ffv_1 ffw27_x_75 fx_17 pi0 nia372_qm hl
                                  refine lv_iload hx hb dX10_plan_372 (lv_at hl 0 rfl) ?_
                                  refine hb_if_lt (zx := iv372_10.toInt) (tgt := 403) hx hb rfl dX10_plan_374 ?o831 (fun c_242 => ?_) (fun c_242 => ?_)
                                  case o831 => decide
                                  · skip
                                    refine lv_iload hx hb dX10_plan_403 (lv_at hl 0 rfl) ?_
                                    refine hb_if_lt (zx := iv372_10.toInt) (tgt := 412) hx hb rfl dX10_plan_405 ?o832 (fun c_243 => ?_) (fun c_243 => ?o833)
                                    case o832 => decide
                                    case o833 =>
                                      exfalso
                                      omega
                                    refine lv_iconst (v := 0) hx hb dX10_plan_412 ?o834 ?_
                                    case o834 => decide
                                    refine lv_istore (lv' := [(6, .int (0 : Int32)), (10, .int iv372_10), (9, .int iv221_9), (8, .int iv221_8), (7, .int iv221_7), (5, .int iv204_5), (4, .int iv204_4), (3, .int r_25), (0, .ref x), (1, .int i1), (2, .int i2)]) hx hb dX10_plan_413 hl ?o835 rfl (fun ls hl => ?_)
                                    case o835 => decide
                                    refine lv_iload hx hb dX10_plan_415 (lv_at hl 0 rfl) ?_
                                    refine hb_if_eq (zx := 0) (tgt := 431) hx hb ?o836 dX10_plan_417 ?o837 (fun c_244 => ?_) (fun c_244 => absurd c_244 ?o838)
                                    case o836 => decide
                                    case o837 => decide
                                    case o838 => decide
                                    have hm12 : hx_m12 ia372_qm := (fun k hk => by have q := hT.ei (gqm.S hM) tt_105 (k := k) hk; rw [nia372_qm] at q; exact q)
                                    have hvb := hx_V_b hm12
                                    refine lv_goto (tgt := 204) hx hb dX10_plan_431 ?o839 ?_
                                    case o839 => decide
                                    have zk_0 : (0 : Int32).toInt = 0 := ?o840
                                    case o840 => decide
                                    refine ih204 iv204_4 iv204_5 (0 : Int32) ia372_qm _ _ hL1 hl1 (i32_r _).1 (i32_r _).2 (i32_r _).1 (i32_r _).2 ?o841 ?o842 hm12 ls ?o843 hW hT hM ffv_1 ffw27_x_75 fx_17 pi0 nia372_qm (lv_sub hl [0, 5, 6, 7, 8, 9, 10] rfl)
                                    case o841 => decide
                                    case o842 => decide
                                    case o843 => omega
                                  · skip
                                    refine lv_aload_n hx hb dX10_plan_377 rfl (lv_at hl 8 rfl) ?_
                                    refine hk_getr hx hb hts hC_10 hown hW (gx.S hM) tt_10 79 ?o844 rfl kw_1222 ⟨rfl, rfl, rfl⟩ ((hM.o gx trivial rfl).2.trans f_x_79) dX10_plan_378 ?_
                                    case o844 => decide
                                    refine lv_iload hx hb dX10_plan_381 (lv_at hl 0 rfl) ?_
                                    refine hx_iald hx hb hW hT (gqm.S hM) tt_105 rfl ⟨?o845, ?o846⟩ dX10_plan_383 (fun x_245 ex_245 lx_245 ux_245 => ?_)
                                    case o845 => omega
                                    case o846 => omega
                                    have ax_245 : x_245 = ia372_qm iv372_10.toNatClampNeg := ex_245.trans (congrFun nia372_qm _)
                                    refine lv_bipush (v := 12) hx hb dX10_plan_384 ?o847 ?_
                                    case o847 => decide
                                    refine hb_icmp_ne (zx := x_245.toInt) (zy := 12) (tgt := 403) hx hb rfl ?o848 dX10_plan_386 ?o849 (fun c_246 => ?_) (fun c_246 => ?_)
                                    case o848 => decide
                                    case o849 => decide
                                    · skip
                                      refine lv_iload hx hb dX10_plan_403 (lv_at hl 0 rfl) ?_
                                      refine hb_if_lt (zx := iv372_10.toInt) (tgt := 412) hx hb rfl dX10_plan_405 ?o850 (fun c_247 => ?o851) (fun c_247 => ?_)
                                      case o850 => decide
                                      case o851 =>
                                        exfalso
                                        omega
                                      refine lv_iconst (v := 1) hx hb dX10_plan_408 ?o852 ?_
                                      case o852 => decide
                                      refine lv_goto (tgt := 413) hx hb dX10_plan_409 ?o853 ?_
                                      case o853 => decide
                                      refine lv_istore (lv' := [(6, .int (1 : Int32)), (10, .int iv372_10), (9, .int iv221_9), (8, .int iv221_8), (7, .int iv221_7), (5, .int iv204_5), (4, .int iv204_4), (3, .int r_25), (0, .ref x), (1, .int i1), (2, .int i2)]) hx hb dX10_plan_413 hl ?o854 rfl (fun ls hl => ?_)
                                      case o854 => decide
                                      refine lv_iload hx hb dX10_plan_415 (lv_at hl 0 rfl) ?_
                                      refine hb_if_eq (zx := 1) (tgt := 431) hx hb ?o855 dX10_plan_417 ?o856 (fun c_248 => absurd c_248 ?o857) (fun c_248 => ?_)
                                      case o855 => decide
                                      case o856 => decide
                                      case o857 => decide
                                      refine lv_aload_n hx hb dX10_plan_420 rfl (lv_at hl 8 rfl) ?_
                                      refine hk_getr hx hb hts hC_10 hown hW (gx.S hM) tt_10 79 ?o858 rfl kw_1222 ⟨rfl, rfl, rfl⟩ ((hM.o gx trivial rfl).2.trans f_x_79) dX10_plan_421 ?_
                                      case o858 => decide
                                      refine lv_iload hx hb dX10_plan_424 (lv_at hl 1 rfl) ?_
                                      refine lv_dup2_11 hx hb dX10_plan_426 rfl rfl ?_
                                      refine hx_iald hx hb hW hT (gqm.S hM) tt_105 rfl ⟨?o859, ?o860⟩ dX10_plan_427 (fun x_249 ex_249 lx_249 ux_249 => ?_)
                                      case o859 => omega
                                      case o860 => omega
                                      have ax_249 : x_249 = ia372_qm iv372_10.toNatClampNeg := ex_249.trans (congrFun nia372_qm _)
                                      obtain rfl : x_245 = x_249 := ex_245.trans ex_249.symm
                                      refine lv_iconst (v := 1) hx hb dX10_plan_428 ?o861 ?_
                                      case o861 => decide
                                      refine lv_iadd hx hb dX10_plan_429 ?_
                                      have rg_250 := i32_r x_245
                                      refine lv_topi (fun x_251 ex_251 => ?_)
                                      have zx_251 : x_251.toInt = x_245.toInt + 1 := ?o862
                                      case o862 =>
                                        rw [ex_251]
                                        refine i32_add rfl ?o863 ?o864 ?o865
                                        case o863 => decide
                                        case o864 => omega
                                        case o865 => omega
                                      have nia372_qmO := nia372_qm
                                      refine hx_iast hx hb hW hT (hx_S.rf (M := [(105, 0)])) (gqm.S hM) tt_105 rfl ⟨?o866, ?o867⟩ rfl ⟨?o868, ?o869⟩ (List.mem_singleton.mpr rfl) dX10_plan_430 (fun H locs h_252 eh_252 hW hT hs => ?_)
                                      case o866 => omega
                                      case o867 => omega
                                      case o868 => omega
                                      case o869 => omega
                                      replace ffv_1 := (hs.o (gx.S hM) trivial rfl).1.trans ffv_1
                                      replace ffw27_x_75 := (hs.o (gx.S hM) trivial rfl).1.trans ffw27_x_75
                                      replace fx_17 := (hs.o (gx.S hM) trivial rfl).1.trans fx_17
                                      replace pi0 : ∀ j : Nat, (j : Int) < (h_252.2.1 x 75).toInt → 1 ≤ (h_252.2.1 qf j).toInt := by
                                        intro j hj; rw [(hs.o (gx.S hM) trivial rfl).1] at hj; rw [(hs.a (gqf.S hM) rfl j).1]; exact pi0 j hj
                                      replace hM := hM.tr (hs.mono ?o870)
                                      case o870 => decide
                                      obtain ⟨fa_253, dfa_253⟩ : ∃ g : Nat → Int32, g = hx_up ia372_qm iv372_10.toNatClampNeg x_251 := ⟨_, rfl⟩
                                      have nfa_253 : h_252.2.1 qm = fa_253 := ?o871
                                      case o871 =>
                                        rw [eh_252, dfa_253, ← nia372_qmO]
                                        exact hx_pi_fun _ _ _ _
                                      have hvq := (hx_V_up ?o872 ?o873 ax_245 dfa_253).2 ?o874
                                      case o872 => omega
                                      case o873 => omega
                                      case o874 => omega
                                      have hwq := hx_w_b (i := (fw27_x_75.toInt - 1 : Int))
                                      have hm12 : hx_m12 fa_253 := (fun k hk => by have q := hT.ei (gqm.S hM) tt_105 (k := k) hk; rw [nfa_253] at q; exact q)
                                      have hvb := hx_V_b hm12
                                      refine lv_goto (tgt := 204) hx hb dX10_plan_431 ?o875 ?_
                                      case o875 => decide
                                      have zk_1 : (1 : Int32).toInt = 1 := ?o876
                                      case o876 => decide
                                      refine ih204 iv204_4 iv204_5 (1 : Int32) fa_253 _ _ hL1 h_252 (i32_r _).1 (i32_r _).2 (i32_r _).1 (i32_r _).2 ?o877 ?o878 hm12 ls ?o879 hW hT hM ffv_1 ffw27_x_75 fx_17 pi0 nfa_253 (lv_sub hl [0, 5, 6, 7, 8, 9, 10] rfl)
                                      case o877 => decide
                                      case o878 => decide
                                      case o879 => omega
                                    · skip
                                      refine lv_aload_n hx hb dX10_plan_389 rfl (lv_at hl 8 rfl) ?_
                                      refine hk_getr hx hb hts hC_10 hown hW (gx.S hM) tt_10 79 ?o880 rfl kw_1222 ⟨rfl, rfl, rfl⟩ ((hM.o gx trivial rfl).2.trans f_x_79) dX10_plan_390 ?_
                                      case o880 => decide
                                      refine lv_iload hx hb dX10_plan_393 (lv_at hl 0 rfl) ?_
                                      refine lv_iconst (v := 0) hx hb dX10_plan_395 ?o881 ?_
                                      case o881 => decide
                                      have nia372_qmO := nia372_qm
                                      refine hx_iast hx hb hW hT (hx_S.rf (M := [(105, 0)])) (gqm.S hM) tt_105 rfl ⟨?o882, ?o883⟩ rfl ?o884 (List.mem_singleton.mpr rfl) dX10_plan_396 (fun H locs h_254 eh_254 hW hT hs => ?_)
                                      case o882 => omega
                                      case o883 => omega
                                      case o884 => decide
                                      replace ffv_1 := (hs.o (gx.S hM) trivial rfl).1.trans ffv_1
                                      replace ffw27_x_75 := (hs.o (gx.S hM) trivial rfl).1.trans ffw27_x_75
                                      replace fx_17 := (hs.o (gx.S hM) trivial rfl).1.trans fx_17
                                      replace pi0 : ∀ j : Nat, (j : Int) < (h_254.2.1 x 75).toInt → 1 ≤ (h_254.2.1 qf j).toInt := by
                                        intro j hj; rw [(hs.o (gx.S hM) trivial rfl).1] at hj; rw [(hs.a (gqf.S hM) rfl j).1]; exact pi0 j hj
                                      replace hM := hM.tr (hs.mono ?o885)
                                      case o885 => decide
                                      obtain ⟨fa_255, dfa_255⟩ : ∃ g : Nat → Int32, g = hx_up ia372_qm iv372_10.toNatClampNeg (0 : Int32) := ⟨_, rfl⟩
                                      have nfa_255 : h_254.2.1 qm = fa_255 := ?o886
                                      case o886 =>
                                        rw [eh_254, dfa_255, ← nia372_qmO]
                                        exact hx_pi_fun _ _ _ _
                                      obtain ⟨x_256, ex_256⟩ : ∃ y : Int32, y = iv372_10 + Int32.ofInt (-1) := ⟨_, rfl⟩
                                      have rg_257 := i32_r iv372_10
                                      have zx_256 : x_256.toInt = iv372_10.toInt + (-1) := ?o887
                                      case o887 =>
                                        rw [ex_256]
                                        refine i32_add rfl ?o888 ?o889 ?o890
                                        case o888 => decide
                                        case o889 => omega
                                        case o890 => omega
                                      refine lv_iinc (v := x_256) (lv' := [(10, .int x_256), (9, .int iv221_9), (8, .int iv221_8), (7, .int iv221_7), (6, .int iv204_6), (5, .int iv204_5), (4, .int iv204_4), (3, .int r_25), (0, .ref x), (1, .int i1), (2, .int i2)]) hx hb dX10_plan_397 hl (k := 0) rfl ex_256.symm ?o891 rfl (fun ls hl => ?_)
                                      case o891 => decide
                                      refine lv_goto (tgt := 372) hx hb dX10_plan_400 ?o892 ?_
                                      case o892 => decide
                                      refine ih372 x_256 fa_255 _ _ hL1 h_254 ?o893 ?o894 (by have q := (hx_V_up (by omega) (by omega) ax_245 dfa_255).1 (by omega) (by decide); rw [show x_256.toInt = iv372_10.toInt - 1 from by omega]; omega) ?o895 ls ?o896 hW hT hM ffv_1 ffw27_x_75 fx_17 pi0 nfa_255 (lv_sub hl [0, 1, 2, 3, 4, 5, 6, 7, 8, 9, 10] rfl)
                                      case o893 => omega
                                      case o894 => omega
                                      case o895 => omega
                                      case o896 => omega
                              refine loop372 5 x_241 ia204_qm _ _ hL1 hl1 ?o897 ?o898 (by rw [zx_241]) ?o899 ls ?o900 hW hT hM ffv_1 ffw27_x_75 fx_17 pi0 nia204_qm hl
                              case o897 => omega
                              case o898 => omega
                              case o899 => omega
                              case o900 => omega
                            · skip
                              refine lv_iload hx hb dX10_plan_317 (lv_at hl 1 rfl) ?_
                              refine lv_iload hx hb dX10_plan_319 (lv_at hl 5 rfl) ?_
                              refine hb_icmp_ge (zx := iv221_9.toInt) (zy := iv204_5.toInt) (tgt := 364) hx hb rfl rfl dX10_plan_321 ?o901 (fun c_258 => ?_) (fun c_258 => ?_)
                              case o901 => decide
                              · skip
                                refine lv_aload_n hx hb dX10_plan_364 rfl (lv_at hl 8 rfl) ?_
                                refine hk_geti hx hb hts hC_10 hown hW (gx.S hM) tt_10 75 ?o902 rfl kw_1218 ⟨rfl, rfl, rfl⟩ ffw27_x_75 dX10_plan_365 ?_
                                case o902 => decide
                                refine lv_iconst (v := 1) hx hb dX10_plan_368 ?o903 ?_
                                case o903 => decide
                                refine lv_isub hx hb dX10_plan_369 ?_
                                have rg_259 := i32_r fw27_x_75
                                refine lv_topi (fun x_260 ex_260 => ?_)
                                have zx_260 : x_260.toInt = fw27_x_75.toInt - 1 := ?o904
                                case o904 =>
                                  rw [ex_260]
                                  refine i32_sub rfl ?o905 ?o906 ?o907
                                  case o905 => decide
                                  case o906 => omega
                                  case o907 => omega
                                refine lv_istore (lv' := [(10, .int x_260), (9, .int iv221_9), (8, .int iv221_8), (7, .int iv221_7), (6, .int iv204_6), (5, .int iv204_5), (4, .int iv204_4), (3, .int r_25), (0, .ref x), (1, .int i1), (2, .int i2)]) hx hb dX10_plan_370 hl ?o908 rfl (fun ls hl => ?_)
                                case o908 => decide
                                have loop372 : ∀ (n372 : Nat) (iv372_10 : Int32) (ia372_qm : Nat → Int32) (H : Heap) (locs : List Loc) (hL1 : List Nat) (hl1 : hx_h), -1 ≤ iv372_10.toInt → iv372_10.toInt ≤ 3 → (hx_V ia372_qm + hx_w iv372_10.toInt = hx_V ia204_qm + hx_w (fw27_x_75.toInt - 1)) → (iv372_10.toInt < fw27_x_75.toInt) → ∀ (ls : Array Slot), iv372_10.toInt + 1 < (n372 : Int) → hx_W T_tb (P_ty dA) (dC, dI) vwCl (hx_A L sz) s.heap hL1 hl1 s H locs → hx_T T_tb hL1 hl1 → hx_S T_tb [(10, 67), (10, 68), (10, 69), (10, 70), (10, 71), (10, 72), (10, 75), (100, 0), (101, 0), (102, 0), (103, 0), (104, 0), (105, 0), (106, 0), (107, 0)] L h hL1 hl1 → hl1.2.1 x 20 = fv_1 → hl1.2.1 x 75 = fw27_x_75 → hl1.2.1 x 0 = x_17 → (∀ j : Nat, (j : Int) < (hl1.2.1 x 75).toInt → 1 ≤ (hl1.2.1 qf j).toInt) → hl1.2.1 qm = ia372_qm → lv_has ls 12 [(10, .int iv372_10), (9, .int iv221_9), (8, .int iv221_8), (7, .int iv221_7), (6, .int iv204_6), (5, .int iv204_5), (4, .int iv204_4), (3, .int r_25), (0, .ref x), (1, .int i1), (2, .int i2)] → W p l e ({ frames := 3, cells := 0, slots := 0, locals := 71 }) s m ([.ref x, .int i1, .int i2] : List Value).toArray below meth c H locs 0 0 (MQ below (va_Qi (fun (r : Int32) (u : List Nat × hx_h) => (True) ∧ hx_T T_tb u.1 u.2 ∧ hx_S T_tb [(10, 67), (10, 68), (10, 69), (10, 70), (10, 71), (10, 72), (10, 75), (100, 0), (101, 0), (102, 0), (103, 0), (104, 0), (105, 0), (106, 0), (107, 0)] L h u.1 u.2) (hx_E T_tb (P_ty dA) (dC, dI) vwCl (hx_A L sz)) (hx_A L sz)) ([.ref x, .int i1, .int i2] : List Value).toArray s 0 0 (hx_A L sz)) (F0 m 372 ls []) := by
                                  intro n372
                                  induction n372 with
                                  | zero => intro iv372_10 ia372_qm H locs hL1 hl1 bliv372_10 buiv372_10 vi372_0 vi372_1 ls hn372; exfalso; omega
                                  | succ n372 ih372 =>
                                    intro iv372_10 ia372_qm H locs hL1 hl1 bliv372_10 buiv372_10 vi372_0 vi372_1 ls hn372 hW hT hM ffv_1 ffw27_x_75 fx_17 pi0 nia372_qm hl
                                    refine lv_iload hx hb dX10_plan_372 (lv_at hl 0 rfl) ?_
                                    refine hb_if_lt (zx := iv372_10.toInt) (tgt := 403) hx hb rfl dX10_plan_374 ?o909 (fun c_261 => ?_) (fun c_261 => ?_)
                                    case o909 => decide
                                    · skip
                                      refine lv_iload hx hb dX10_plan_403 (lv_at hl 0 rfl) ?_
                                      refine hb_if_lt (zx := iv372_10.toInt) (tgt := 412) hx hb rfl dX10_plan_405 ?o910 (fun c_262 => ?_) (fun c_262 => ?o911)
                                      case o910 => decide
                                      case o911 =>
                                        exfalso
                                        omega
                                      refine lv_iconst (v := 0) hx hb dX10_plan_412 ?o912 ?_
                                      case o912 => decide
                                      refine lv_istore (lv' := [(6, .int (0 : Int32)), (10, .int iv372_10), (9, .int iv221_9), (8, .int iv221_8), (7, .int iv221_7), (5, .int iv204_5), (4, .int iv204_4), (3, .int r_25), (0, .ref x), (1, .int i1), (2, .int i2)]) hx hb dX10_plan_413 hl ?o913 rfl (fun ls hl => ?_)
                                      case o913 => decide
                                      refine lv_iload hx hb dX10_plan_415 (lv_at hl 0 rfl) ?_
                                      refine hb_if_eq (zx := 0) (tgt := 431) hx hb ?o914 dX10_plan_417 ?o915 (fun c_263 => ?_) (fun c_263 => absurd c_263 ?o916)
                                      case o914 => decide
                                      case o915 => decide
                                      case o916 => decide
                                      have hm12 : hx_m12 ia372_qm := (fun k hk => by have q := hT.ei (gqm.S hM) tt_105 (k := k) hk; rw [nia372_qm] at q; exact q)
                                      have hvb := hx_V_b hm12
                                      refine lv_goto (tgt := 204) hx hb dX10_plan_431 ?o917 ?_
                                      case o917 => decide
                                      have zk_0 : (0 : Int32).toInt = 0 := ?o918
                                      case o918 => decide
                                      refine ih204 iv204_4 iv204_5 (0 : Int32) ia372_qm _ _ hL1 hl1 (i32_r _).1 (i32_r _).2 (i32_r _).1 (i32_r _).2 ?o919 ?o920 hm12 ls ?o921 hW hT hM ffv_1 ffw27_x_75 fx_17 pi0 nia372_qm (lv_sub hl [0, 5, 6, 7, 8, 9, 10] rfl)
                                      case o919 => decide
                                      case o920 => decide
                                      case o921 => omega
                                    · skip
                                      refine lv_aload_n hx hb dX10_plan_377 rfl (lv_at hl 8 rfl) ?_
                                      refine hk_getr hx hb hts hC_10 hown hW (gx.S hM) tt_10 79 ?o922 rfl kw_1222 ⟨rfl, rfl, rfl⟩ ((hM.o gx trivial rfl).2.trans f_x_79) dX10_plan_378 ?_
                                      case o922 => decide
                                      refine lv_iload hx hb dX10_plan_381 (lv_at hl 0 rfl) ?_
                                      refine hx_iald hx hb hW hT (gqm.S hM) tt_105 rfl ⟨?o923, ?o924⟩ dX10_plan_383 (fun x_264 ex_264 lx_264 ux_264 => ?_)
                                      case o923 => omega
                                      case o924 => omega
                                      have ax_264 : x_264 = ia372_qm iv372_10.toNatClampNeg := ex_264.trans (congrFun nia372_qm _)
                                      refine lv_bipush (v := 12) hx hb dX10_plan_384 ?o925 ?_
                                      case o925 => decide
                                      refine hb_icmp_ne (zx := x_264.toInt) (zy := 12) (tgt := 403) hx hb rfl ?o926 dX10_plan_386 ?o927 (fun c_265 => ?_) (fun c_265 => ?_)
                                      case o926 => decide
                                      case o927 => decide
                                      · skip
                                        refine lv_iload hx hb dX10_plan_403 (lv_at hl 0 rfl) ?_
                                        refine hb_if_lt (zx := iv372_10.toInt) (tgt := 412) hx hb rfl dX10_plan_405 ?o928 (fun c_266 => ?o929) (fun c_266 => ?_)
                                        case o928 => decide
                                        case o929 =>
                                          exfalso
                                          omega
                                        refine lv_iconst (v := 1) hx hb dX10_plan_408 ?o930 ?_
                                        case o930 => decide
                                        refine lv_goto (tgt := 413) hx hb dX10_plan_409 ?o931 ?_
                                        case o931 => decide
                                        refine lv_istore (lv' := [(6, .int (1 : Int32)), (10, .int iv372_10), (9, .int iv221_9), (8, .int iv221_8), (7, .int iv221_7), (5, .int iv204_5), (4, .int iv204_4), (3, .int r_25), (0, .ref x), (1, .int i1), (2, .int i2)]) hx hb dX10_plan_413 hl ?o932 rfl (fun ls hl => ?_)
                                        case o932 => decide
                                        refine lv_iload hx hb dX10_plan_415 (lv_at hl 0 rfl) ?_
                                        refine hb_if_eq (zx := 1) (tgt := 431) hx hb ?o933 dX10_plan_417 ?o934 (fun c_267 => absurd c_267 ?o935) (fun c_267 => ?_)
                                        case o933 => decide
                                        case o934 => decide
                                        case o935 => decide
                                        refine lv_aload_n hx hb dX10_plan_420 rfl (lv_at hl 8 rfl) ?_
                                        refine hk_getr hx hb hts hC_10 hown hW (gx.S hM) tt_10 79 ?o936 rfl kw_1222 ⟨rfl, rfl, rfl⟩ ((hM.o gx trivial rfl).2.trans f_x_79) dX10_plan_421 ?_
                                        case o936 => decide
                                        refine lv_iload hx hb dX10_plan_424 (lv_at hl 1 rfl) ?_
                                        refine lv_dup2_11 hx hb dX10_plan_426 rfl rfl ?_
                                        refine hx_iald hx hb hW hT (gqm.S hM) tt_105 rfl ⟨?o937, ?o938⟩ dX10_plan_427 (fun x_268 ex_268 lx_268 ux_268 => ?_)
                                        case o937 => omega
                                        case o938 => omega
                                        have ax_268 : x_268 = ia372_qm iv372_10.toNatClampNeg := ex_268.trans (congrFun nia372_qm _)
                                        obtain rfl : x_264 = x_268 := ex_264.trans ex_268.symm
                                        refine lv_iconst (v := 1) hx hb dX10_plan_428 ?o939 ?_
                                        case o939 => decide
                                        refine lv_iadd hx hb dX10_plan_429 ?_
                                        have rg_269 := i32_r x_264
                                        refine lv_topi (fun x_270 ex_270 => ?_)
                                        have zx_270 : x_270.toInt = x_264.toInt + 1 := ?o940
                                        case o940 =>
                                          rw [ex_270]
                                          refine i32_add rfl ?o941 ?o942 ?o943
                                          case o941 => decide
                                          case o942 => omega
                                          case o943 => omega
                                        have nia372_qmO := nia372_qm
                                        refine hx_iast hx hb hW hT (hx_S.rf (M := [(105, 0)])) (gqm.S hM) tt_105 rfl ⟨?o944, ?o945⟩ rfl ⟨?o946, ?o947⟩ (List.mem_singleton.mpr rfl) dX10_plan_430 (fun H locs h_271 eh_271 hW hT hs => ?_)
                                        case o944 => omega
                                        case o945 => omega
                                        case o946 => omega
                                        case o947 => omega
                                        replace ffv_1 := (hs.o (gx.S hM) trivial rfl).1.trans ffv_1
                                        replace ffw27_x_75 := (hs.o (gx.S hM) trivial rfl).1.trans ffw27_x_75
                                        replace fx_17 := (hs.o (gx.S hM) trivial rfl).1.trans fx_17
                                        replace pi0 : ∀ j : Nat, (j : Int) < (h_271.2.1 x 75).toInt → 1 ≤ (h_271.2.1 qf j).toInt := by
                                          intro j hj; rw [(hs.o (gx.S hM) trivial rfl).1] at hj; rw [(hs.a (gqf.S hM) rfl j).1]; exact pi0 j hj
                                        replace hM := hM.tr (hs.mono ?o948)
                                        case o948 => decide
                                        obtain ⟨fa_272, dfa_272⟩ : ∃ g : Nat → Int32, g = hx_up ia372_qm iv372_10.toNatClampNeg x_270 := ⟨_, rfl⟩
                                        have nfa_272 : h_271.2.1 qm = fa_272 := ?o949
                                        case o949 =>
                                          rw [eh_271, dfa_272, ← nia372_qmO]
                                          exact hx_pi_fun _ _ _ _
                                        have hvq := (hx_V_up ?o950 ?o951 ax_264 dfa_272).2 ?o952
                                        case o950 => omega
                                        case o951 => omega
                                        case o952 => omega
                                        have hwq := hx_w_b (i := (fw27_x_75.toInt - 1 : Int))
                                        have hm12 : hx_m12 fa_272 := (fun k hk => by have q := hT.ei (gqm.S hM) tt_105 (k := k) hk; rw [nfa_272] at q; exact q)
                                        have hvb := hx_V_b hm12
                                        refine lv_goto (tgt := 204) hx hb dX10_plan_431 ?o953 ?_
                                        case o953 => decide
                                        have zk_1 : (1 : Int32).toInt = 1 := ?o954
                                        case o954 => decide
                                        refine ih204 iv204_4 iv204_5 (1 : Int32) fa_272 _ _ hL1 h_271 (i32_r _).1 (i32_r _).2 (i32_r _).1 (i32_r _).2 ?o955 ?o956 hm12 ls ?o957 hW hT hM ffv_1 ffw27_x_75 fx_17 pi0 nfa_272 (lv_sub hl [0, 5, 6, 7, 8, 9, 10] rfl)
                                        case o955 => decide
                                        case o956 => decide
                                        case o957 => omega
                                      · skip
                                        refine lv_aload_n hx hb dX10_plan_389 rfl (lv_at hl 8 rfl) ?_
                                        refine hk_getr hx hb hts hC_10 hown hW (gx.S hM) tt_10 79 ?o958 rfl kw_1222 ⟨rfl, rfl, rfl⟩ ((hM.o gx trivial rfl).2.trans f_x_79) dX10_plan_390 ?_
                                        case o958 => decide
                                        refine lv_iload hx hb dX10_plan_393 (lv_at hl 0 rfl) ?_
                                        refine lv_iconst (v := 0) hx hb dX10_plan_395 ?o959 ?_
                                        case o959 => decide
                                        have nia372_qmO := nia372_qm
                                        refine hx_iast hx hb hW hT (hx_S.rf (M := [(105, 0)])) (gqm.S hM) tt_105 rfl ⟨?o960, ?o961⟩ rfl ?o962 (List.mem_singleton.mpr rfl) dX10_plan_396 (fun H locs h_273 eh_273 hW hT hs => ?_)
                                        case o960 => omega
                                        case o961 => omega
                                        case o962 => decide
                                        replace ffv_1 := (hs.o (gx.S hM) trivial rfl).1.trans ffv_1
                                        replace ffw27_x_75 := (hs.o (gx.S hM) trivial rfl).1.trans ffw27_x_75
                                        replace fx_17 := (hs.o (gx.S hM) trivial rfl).1.trans fx_17
                                        replace pi0 : ∀ j : Nat, (j : Int) < (h_273.2.1 x 75).toInt → 1 ≤ (h_273.2.1 qf j).toInt := by
                                          intro j hj; rw [(hs.o (gx.S hM) trivial rfl).1] at hj; rw [(hs.a (gqf.S hM) rfl j).1]; exact pi0 j hj
                                        replace hM := hM.tr (hs.mono ?o963)
                                        case o963 => decide
                                        obtain ⟨fa_274, dfa_274⟩ : ∃ g : Nat → Int32, g = hx_up ia372_qm iv372_10.toNatClampNeg (0 : Int32) := ⟨_, rfl⟩
                                        have nfa_274 : h_273.2.1 qm = fa_274 := ?o964
                                        case o964 =>
                                          rw [eh_273, dfa_274, ← nia372_qmO]
                                          exact hx_pi_fun _ _ _ _
                                        obtain ⟨x_275, ex_275⟩ : ∃ y : Int32, y = iv372_10 + Int32.ofInt (-1) := ⟨_, rfl⟩
                                        have rg_276 := i32_r iv372_10
                                        have zx_275 : x_275.toInt = iv372_10.toInt + (-1) := ?o965
                                        case o965 =>
                                          rw [ex_275]
                                          refine i32_add rfl ?o966 ?o967 ?o968
                                          case o966 => decide
                                          case o967 => omega
                                          case o968 => omega
                                        refine lv_iinc (v := x_275) (lv' := [(10, .int x_275), (9, .int iv221_9), (8, .int iv221_8), (7, .int iv221_7), (6, .int iv204_6), (5, .int iv204_5), (4, .int iv204_4), (3, .int r_25), (0, .ref x), (1, .int i1), (2, .int i2)]) hx hb dX10_plan_397 hl (k := 0) rfl ex_275.symm ?o969 rfl (fun ls hl => ?_)
                                        case o969 => decide
                                        refine lv_goto (tgt := 372) hx hb dX10_plan_400 ?o970 ?_
                                        case o970 => decide
                                        refine ih372 x_275 fa_274 _ _ hL1 h_273 ?o971 ?o972 (by have q := (hx_V_up (by omega) (by omega) ax_264 dfa_274).1 (by omega) (by decide); rw [show x_275.toInt = iv372_10.toInt - 1 from by omega]; omega) ?o973 ls ?o974 hW hT hM ffv_1 ffw27_x_75 fx_17 pi0 nfa_274 (lv_sub hl [0, 1, 2, 3, 4, 5, 6, 7, 8, 9, 10] rfl)
                                        case o971 => omega
                                        case o972 => omega
                                        case o973 => omega
                                        case o974 => omega
                                refine loop372 5 x_260 ia204_qm _ _ hL1 hl1 ?o975 ?o976 (by rw [zx_260]) ?o977 ls ?o978 hW hT hM ffv_1 ffw27_x_75 fx_17 pi0 nia204_qm hl
                                case o975 => omega
                                case o976 => omega
                                case o977 => omega
                                case o978 => omega
                              · skip
                                refine lv_iload hx hb dX10_plan_324 (lv_at hl 2 rfl) ?_
                                refine lv_istore (lv' := [(4, .int iv221_8), (10, .int iv221_10), (9, .int iv221_9), (8, .int iv221_8), (7, .int iv221_7), (6, .int iv204_6), (5, .int iv204_5), (3, .int r_25), (0, .ref x), (1, .int i1), (2, .int i2)]) hx hb dX10_plan_326 hl ?o979 rfl (fun ls hl => ?_)
                                case o979 => decide
                                refine lv_iload hx hb dX10_plan_328 (lv_at hl 2 rfl) ?_
                                refine lv_istore (lv' := [(5, .int iv221_9), (4, .int iv221_8), (10, .int iv221_10), (9, .int iv221_9), (8, .int iv221_8), (7, .int iv221_7), (6, .int iv204_6), (3, .int r_25), (0, .ref x), (1, .int i1), (2, .int i2)]) hx hb dX10_plan_330 hl ?o980 rfl (fun ls hl => ?_)
                                case o980 => decide
                                refine lv_iconst (v := 0) hx hb dX10_plan_332 ?o981 ?_
                                case o981 => decide
                                refine lv_istore (lv' := [(10, .int (0 : Int32)), (5, .int iv221_9), (4, .int iv221_8), (9, .int iv221_9), (8, .int iv221_8), (7, .int iv221_7), (6, .int iv204_6), (3, .int r_25), (0, .ref x), (1, .int i1), (2, .int i2)]) hx hb dX10_plan_333 hl ?o982 rfl (fun ls hl => ?_)
                                case o982 => decide
                                have loop335 : ∀ (n335 : Nat) (iv335_10 : Int32) (H : Heap) (locs : List Loc) (hL1 : List Nat) (hl1 : hx_h), 0 ≤ iv335_10.toInt → iv335_10.toInt ≤ 4 → ∀ (ls : Array Slot), 4 - iv335_10.toInt < (n335 : Int) → hx_W T_tb (P_ty dA) (dC, dI) vwCl (hx_A L sz) s.heap hL1 hl1 s H locs → hx_T T_tb hL1 hl1 → hx_S T_tb [(10, 67), (10, 68), (10, 69), (10, 70), (10, 71), (10, 72), (10, 75), (100, 0), (101, 0), (102, 0), (103, 0), (104, 0), (105, 0), (106, 0), (107, 0)] L h hL1 hl1 → hl1.2.1 x 20 = fv_1 → hl1.2.1 x 75 = fw27_x_75 → hl1.2.1 x 0 = x_17 → (∀ j : Nat, (j : Int) < (hl1.2.1 x 75).toInt → 1 ≤ (hl1.2.1 qf j).toInt) → hl1.2.1 qm = ia204_qm → lv_has ls 12 [(10, .int iv335_10), (5, .int iv221_9), (4, .int iv221_8), (9, .int iv221_9), (8, .int iv221_8), (7, .int iv221_7), (6, .int iv204_6), (3, .int r_25), (0, .ref x), (1, .int i1), (2, .int i2)] → W p l e ({ frames := 3, cells := 0, slots := 0, locals := 71 }) s m ([.ref x, .int i1, .int i2] : List Value).toArray below meth c H locs 0 0 (MQ below (va_Qi (fun (r : Int32) (u : List Nat × hx_h) => (True) ∧ hx_T T_tb u.1 u.2 ∧ hx_S T_tb [(10, 67), (10, 68), (10, 69), (10, 70), (10, 71), (10, 72), (10, 75), (100, 0), (101, 0), (102, 0), (103, 0), (104, 0), (105, 0), (106, 0), (107, 0)] L h u.1 u.2) (hx_E T_tb (P_ty dA) (dC, dI) vwCl (hx_A L sz)) (hx_A L sz)) ([.ref x, .int i1, .int i2] : List Value).toArray s 0 0 (hx_A L sz)) (F0 m 335 ls []) := by
                                  intro n335
                                  induction n335 with
                                  | zero => intro iv335_10 H locs hL1 hl1 bliv335_10 buiv335_10  ls hn335; exfalso; omega
                                  | succ n335 ih335 =>
                                    intro iv335_10 H locs hL1 hl1 bliv335_10 buiv335_10  ls hn335 hW hT hM ffv_1 ffw27_x_75 fx_17 pi0 nia204_qm hl
                                    refine lv_iload hx hb dX10_plan_335 (lv_at hl 0 rfl) ?_
                                    refine lv_aload_n hx hb dX10_plan_337 rfl (lv_at hl 8 rfl) ?_
                                    refine hk_geti hx hb hts hC_10 hown hW (gx.S hM) tt_10 75 ?o983 rfl kw_1218 ⟨rfl, rfl, rfl⟩ ffw27_x_75 dX10_plan_338 ?_
                                    case o983 => decide
                                    refine hb_icmp_ge (zx := iv335_10.toInt) (zy := fw27_x_75.toInt) (tgt := 364) hx hb rfl rfl dX10_plan_341 ?o984 (fun c_277 => ?_) (fun c_277 => ?o985)
                                    case o984 => decide
                                    case o985 =>
                                      exfalso
                                      omega
                                    refine lv_aload_n hx hb dX10_plan_364 rfl (lv_at hl 8 rfl) ?_
                                    refine hk_geti hx hb hts hC_10 hown hW (gx.S hM) tt_10 75 ?o986 rfl kw_1218 ⟨rfl, rfl, rfl⟩ ffw27_x_75 dX10_plan_365 ?_
                                    case o986 => decide
                                    refine lv_iconst (v := 1) hx hb dX10_plan_368 ?o987 ?_
                                    case o987 => decide
                                    refine lv_isub hx hb dX10_plan_369 ?_
                                    have rg_278 := i32_r fw27_x_75
                                    refine lv_topi (fun x_279 ex_279 => ?_)
                                    have zx_279 : x_279.toInt = fw27_x_75.toInt - 1 := ?o988
                                    case o988 =>
                                      rw [ex_279]
                                      refine i32_sub rfl ?o989 ?o990 ?o991
                                      case o989 => decide
                                      case o990 => omega
                                      case o991 => omega
                                    refine lv_istore (lv' := [(10, .int x_279), (5, .int iv221_9), (4, .int iv221_8), (9, .int iv221_9), (8, .int iv221_8), (7, .int iv221_7), (6, .int iv204_6), (3, .int r_25), (0, .ref x), (1, .int i1), (2, .int i2)]) hx hb dX10_plan_370 hl ?o992 rfl (fun ls hl => ?_)
                                    case o992 => decide
                                    have loop372 : ∀ (n372 : Nat) (iv372_10 : Int32) (ia372_qm : Nat → Int32) (H : Heap) (locs : List Loc) (hL1 : List Nat) (hl1 : hx_h), -1 ≤ iv372_10.toInt → iv372_10.toInt ≤ 3 → (hx_V ia372_qm + hx_w iv372_10.toInt = hx_V ia204_qm + hx_w (fw27_x_75.toInt - 1)) → (iv372_10.toInt < fw27_x_75.toInt) → ∀ (ls : Array Slot), iv372_10.toInt + 1 < (n372 : Int) → hx_W T_tb (P_ty dA) (dC, dI) vwCl (hx_A L sz) s.heap hL1 hl1 s H locs → hx_T T_tb hL1 hl1 → hx_S T_tb [(10, 67), (10, 68), (10, 69), (10, 70), (10, 71), (10, 72), (10, 75), (100, 0), (101, 0), (102, 0), (103, 0), (104, 0), (105, 0), (106, 0), (107, 0)] L h hL1 hl1 → hl1.2.1 x 20 = fv_1 → hl1.2.1 x 75 = fw27_x_75 → hl1.2.1 x 0 = x_17 → (∀ j : Nat, (j : Int) < (hl1.2.1 x 75).toInt → 1 ≤ (hl1.2.1 qf j).toInt) → hl1.2.1 qm = ia372_qm → lv_has ls 12 [(10, .int iv372_10), (5, .int iv221_9), (4, .int iv221_8), (9, .int iv221_9), (8, .int iv221_8), (7, .int iv221_7), (6, .int iv204_6), (3, .int r_25), (0, .ref x), (1, .int i1), (2, .int i2)] → W p l e ({ frames := 3, cells := 0, slots := 0, locals := 71 }) s m ([.ref x, .int i1, .int i2] : List Value).toArray below meth c H locs 0 0 (MQ below (va_Qi (fun (r : Int32) (u : List Nat × hx_h) => (True) ∧ hx_T T_tb u.1 u.2 ∧ hx_S T_tb [(10, 67), (10, 68), (10, 69), (10, 70), (10, 71), (10, 72), (10, 75), (100, 0), (101, 0), (102, 0), (103, 0), (104, 0), (105, 0), (106, 0), (107, 0)] L h u.1 u.2) (hx_E T_tb (P_ty dA) (dC, dI) vwCl (hx_A L sz)) (hx_A L sz)) ([.ref x, .int i1, .int i2] : List Value).toArray s 0 0 (hx_A L sz)) (F0 m 372 ls []) := by
                                      intro n372
                                      induction n372 with
                                      | zero => intro iv372_10 ia372_qm H locs hL1 hl1 bliv372_10 buiv372_10 vi372_0 vi372_1 ls hn372; exfalso; omega
                                      | succ n372 ih372 =>
                                        intro iv372_10 ia372_qm H locs hL1 hl1 bliv372_10 buiv372_10 vi372_0 vi372_1 ls hn372 hW hT hM ffv_1 ffw27_x_75 fx_17 pi0 nia372_qm hl
                                        refine lv_iload hx hb dX10_plan_372 (lv_at hl 0 rfl) ?_
                                        refine hb_if_lt (zx := iv372_10.toInt) (tgt := 403) hx hb rfl dX10_plan_374 ?o993 (fun c_280 => ?_) (fun c_280 => ?_)
                                        case o993 => decide
                                        · skip
                                          refine lv_iload hx hb dX10_plan_403 (lv_at hl 0 rfl) ?_
                                          refine hb_if_lt (zx := iv372_10.toInt) (tgt := 412) hx hb rfl dX10_plan_405 ?o994 (fun c_281 => ?_) (fun c_281 => ?o995)
                                          case o994 => decide
                                          case o995 =>
                                            exfalso
                                            omega
                                          refine lv_iconst (v := 0) hx hb dX10_plan_412 ?o996 ?_
                                          case o996 => decide
                                          refine lv_istore (lv' := [(6, .int (0 : Int32)), (10, .int iv372_10), (5, .int iv221_9), (4, .int iv221_8), (9, .int iv221_9), (8, .int iv221_8), (7, .int iv221_7), (3, .int r_25), (0, .ref x), (1, .int i1), (2, .int i2)]) hx hb dX10_plan_413 hl ?o997 rfl (fun ls hl => ?_)
                                          case o997 => decide
                                          refine lv_iload hx hb dX10_plan_415 (lv_at hl 0 rfl) ?_
                                          refine hb_if_eq (zx := 0) (tgt := 431) hx hb ?o998 dX10_plan_417 ?o999 (fun c_282 => ?_) (fun c_282 => absurd c_282 ?o1000)
                                          case o998 => decide
                                          case o999 => decide
                                          case o1000 => decide
                                          have hm12 : hx_m12 ia372_qm := (fun k hk => by have q := hT.ei (gqm.S hM) tt_105 (k := k) hk; rw [nia372_qm] at q; exact q)
                                          have hvb := hx_V_b hm12
                                          refine lv_goto (tgt := 204) hx hb dX10_plan_431 ?o1001 ?_
                                          case o1001 => decide
                                          have zk_0 : (0 : Int32).toInt = 0 := ?o1002
                                          case o1002 => decide
                                          refine ih204 iv221_8 iv221_9 (0 : Int32) ia372_qm _ _ hL1 hl1 (i32_r _).1 (i32_r _).2 (i32_r _).1 (i32_r _).2 ?o1003 ?o1004 hm12 ls ?o1005 hW hT hM ffv_1 ffw27_x_75 fx_17 pi0 nia372_qm (lv_sub hl [0, 2, 3, 7, 8, 9, 10] rfl)
                                          case o1003 => decide
                                          case o1004 => decide
                                          case o1005 => omega
                                        · skip
                                          refine lv_aload_n hx hb dX10_plan_377 rfl (lv_at hl 8 rfl) ?_
                                          refine hk_getr hx hb hts hC_10 hown hW (gx.S hM) tt_10 79 ?o1006 rfl kw_1222 ⟨rfl, rfl, rfl⟩ ((hM.o gx trivial rfl).2.trans f_x_79) dX10_plan_378 ?_
                                          case o1006 => decide
                                          refine lv_iload hx hb dX10_plan_381 (lv_at hl 0 rfl) ?_
                                          refine hx_iald hx hb hW hT (gqm.S hM) tt_105 rfl ⟨?o1007, ?o1008⟩ dX10_plan_383 (fun x_283 ex_283 lx_283 ux_283 => ?_)
                                          case o1007 => omega
                                          case o1008 => omega
                                          have ax_283 : x_283 = ia372_qm iv372_10.toNatClampNeg := ex_283.trans (congrFun nia372_qm _)
                                          refine lv_bipush (v := 12) hx hb dX10_plan_384 ?o1009 ?_
                                          case o1009 => decide
                                          refine hb_icmp_ne (zx := x_283.toInt) (zy := 12) (tgt := 403) hx hb rfl ?o1010 dX10_plan_386 ?o1011 (fun c_284 => ?_) (fun c_284 => ?_)
                                          case o1010 => decide
                                          case o1011 => decide
                                          · skip
                                            refine lv_iload hx hb dX10_plan_403 (lv_at hl 0 rfl) ?_
                                            refine hb_if_lt (zx := iv372_10.toInt) (tgt := 412) hx hb rfl dX10_plan_405 ?o1012 (fun c_285 => ?o1013) (fun c_285 => ?_)
                                            case o1012 => decide
                                            case o1013 =>
                                              exfalso
                                              omega
                                            refine lv_iconst (v := 1) hx hb dX10_plan_408 ?o1014 ?_
                                            case o1014 => decide
                                            refine lv_goto (tgt := 413) hx hb dX10_plan_409 ?o1015 ?_
                                            case o1015 => decide
                                            refine lv_istore (lv' := [(6, .int (1 : Int32)), (10, .int iv372_10), (5, .int iv221_9), (4, .int iv221_8), (9, .int iv221_9), (8, .int iv221_8), (7, .int iv221_7), (3, .int r_25), (0, .ref x), (1, .int i1), (2, .int i2)]) hx hb dX10_plan_413 hl ?o1016 rfl (fun ls hl => ?_)
                                            case o1016 => decide
                                            refine lv_iload hx hb dX10_plan_415 (lv_at hl 0 rfl) ?_
                                            refine hb_if_eq (zx := 1) (tgt := 431) hx hb ?o1017 dX10_plan_417 ?o1018 (fun c_286 => absurd c_286 ?o1019) (fun c_286 => ?_)
                                            case o1017 => decide
                                            case o1018 => decide
                                            case o1019 => decide
                                            refine lv_aload_n hx hb dX10_plan_420 rfl (lv_at hl 8 rfl) ?_
                                            refine hk_getr hx hb hts hC_10 hown hW (gx.S hM) tt_10 79 ?o1020 rfl kw_1222 ⟨rfl, rfl, rfl⟩ ((hM.o gx trivial rfl).2.trans f_x_79) dX10_plan_421 ?_
                                            case o1020 => decide
                                            refine lv_iload hx hb dX10_plan_424 (lv_at hl 1 rfl) ?_
                                            refine lv_dup2_11 hx hb dX10_plan_426 rfl rfl ?_
                                            refine hx_iald hx hb hW hT (gqm.S hM) tt_105 rfl ⟨?o1021, ?o1022⟩ dX10_plan_427 (fun x_287 ex_287 lx_287 ux_287 => ?_)
                                            case o1021 => omega
                                            case o1022 => omega
                                            have ax_287 : x_287 = ia372_qm iv372_10.toNatClampNeg := ex_287.trans (congrFun nia372_qm _)
                                            obtain rfl : x_283 = x_287 := ex_283.trans ex_287.symm
                                            refine lv_iconst (v := 1) hx hb dX10_plan_428 ?o1023 ?_
                                            case o1023 => decide
                                            refine lv_iadd hx hb dX10_plan_429 ?_
                                            have rg_288 := i32_r x_283
                                            refine lv_topi (fun x_289 ex_289 => ?_)
                                            have zx_289 : x_289.toInt = x_283.toInt + 1 := ?o1024
                                            case o1024 =>
                                              rw [ex_289]
                                              refine i32_add rfl ?o1025 ?o1026 ?o1027
                                              case o1025 => decide
                                              case o1026 => omega
                                              case o1027 => omega
                                            have nia372_qmO := nia372_qm
                                            refine hx_iast hx hb hW hT (hx_S.rf (M := [(105, 0)])) (gqm.S hM) tt_105 rfl ⟨?o1028, ?o1029⟩ rfl ⟨?o1030, ?o1031⟩ (List.mem_singleton.mpr rfl) dX10_plan_430 (fun H locs h_290 eh_290 hW hT hs => ?_)
                                            case o1028 => omega
                                            case o1029 => omega
                                            case o1030 => omega
                                            case o1031 => omega
                                            replace ffv_1 := (hs.o (gx.S hM) trivial rfl).1.trans ffv_1
                                            replace ffw27_x_75 := (hs.o (gx.S hM) trivial rfl).1.trans ffw27_x_75
                                            replace fx_17 := (hs.o (gx.S hM) trivial rfl).1.trans fx_17
                                            replace pi0 : ∀ j : Nat, (j : Int) < (h_290.2.1 x 75).toInt → 1 ≤ (h_290.2.1 qf j).toInt := by
                                              intro j hj; rw [(hs.o (gx.S hM) trivial rfl).1] at hj; rw [(hs.a (gqf.S hM) rfl j).1]; exact pi0 j hj
                                            replace hM := hM.tr (hs.mono ?o1032)
                                            case o1032 => decide
                                            obtain ⟨fa_291, dfa_291⟩ : ∃ g : Nat → Int32, g = hx_up ia372_qm iv372_10.toNatClampNeg x_289 := ⟨_, rfl⟩
                                            have nfa_291 : h_290.2.1 qm = fa_291 := ?o1033
                                            case o1033 =>
                                              rw [eh_290, dfa_291, ← nia372_qmO]
                                              exact hx_pi_fun _ _ _ _
                                            have hvq := (hx_V_up ?o1034 ?o1035 ax_283 dfa_291).2 ?o1036
                                            case o1034 => omega
                                            case o1035 => omega
                                            case o1036 => omega
                                            have hwq := hx_w_b (i := (fw27_x_75.toInt - 1 : Int))
                                            have hm12 : hx_m12 fa_291 := (fun k hk => by have q := hT.ei (gqm.S hM) tt_105 (k := k) hk; rw [nfa_291] at q; exact q)
                                            have hvb := hx_V_b hm12
                                            refine lv_goto (tgt := 204) hx hb dX10_plan_431 ?o1037 ?_
                                            case o1037 => decide
                                            have zk_1 : (1 : Int32).toInt = 1 := ?o1038
                                            case o1038 => decide
                                            refine ih204 iv221_8 iv221_9 (1 : Int32) fa_291 _ _ hL1 h_290 (i32_r _).1 (i32_r _).2 (i32_r _).1 (i32_r _).2 ?o1039 ?o1040 hm12 ls ?o1041 hW hT hM ffv_1 ffw27_x_75 fx_17 pi0 nfa_291 (lv_sub hl [0, 2, 3, 7, 8, 9, 10] rfl)
                                            case o1039 => decide
                                            case o1040 => decide
                                            case o1041 => omega
                                          · skip
                                            refine lv_aload_n hx hb dX10_plan_389 rfl (lv_at hl 8 rfl) ?_
                                            refine hk_getr hx hb hts hC_10 hown hW (gx.S hM) tt_10 79 ?o1042 rfl kw_1222 ⟨rfl, rfl, rfl⟩ ((hM.o gx trivial rfl).2.trans f_x_79) dX10_plan_390 ?_
                                            case o1042 => decide
                                            refine lv_iload hx hb dX10_plan_393 (lv_at hl 0 rfl) ?_
                                            refine lv_iconst (v := 0) hx hb dX10_plan_395 ?o1043 ?_
                                            case o1043 => decide
                                            have nia372_qmO := nia372_qm
                                            refine hx_iast hx hb hW hT (hx_S.rf (M := [(105, 0)])) (gqm.S hM) tt_105 rfl ⟨?o1044, ?o1045⟩ rfl ?o1046 (List.mem_singleton.mpr rfl) dX10_plan_396 (fun H locs h_292 eh_292 hW hT hs => ?_)
                                            case o1044 => omega
                                            case o1045 => omega
                                            case o1046 => decide
                                            replace ffv_1 := (hs.o (gx.S hM) trivial rfl).1.trans ffv_1
                                            replace ffw27_x_75 := (hs.o (gx.S hM) trivial rfl).1.trans ffw27_x_75
                                            replace fx_17 := (hs.o (gx.S hM) trivial rfl).1.trans fx_17
                                            replace pi0 : ∀ j : Nat, (j : Int) < (h_292.2.1 x 75).toInt → 1 ≤ (h_292.2.1 qf j).toInt := by
                                              intro j hj; rw [(hs.o (gx.S hM) trivial rfl).1] at hj; rw [(hs.a (gqf.S hM) rfl j).1]; exact pi0 j hj
                                            replace hM := hM.tr (hs.mono ?o1047)
                                            case o1047 => decide
                                            obtain ⟨fa_293, dfa_293⟩ : ∃ g : Nat → Int32, g = hx_up ia372_qm iv372_10.toNatClampNeg (0 : Int32) := ⟨_, rfl⟩
                                            have nfa_293 : h_292.2.1 qm = fa_293 := ?o1048
                                            case o1048 =>
                                              rw [eh_292, dfa_293, ← nia372_qmO]
                                              exact hx_pi_fun _ _ _ _
                                            obtain ⟨x_294, ex_294⟩ : ∃ y : Int32, y = iv372_10 + Int32.ofInt (-1) := ⟨_, rfl⟩
                                            have rg_295 := i32_r iv372_10
                                            have zx_294 : x_294.toInt = iv372_10.toInt + (-1) := ?o1049
                                            case o1049 =>
                                              rw [ex_294]
                                              refine i32_add rfl ?o1050 ?o1051 ?o1052
                                              case o1050 => decide
                                              case o1051 => omega
                                              case o1052 => omega
                                            refine lv_iinc (v := x_294) (lv' := [(10, .int x_294), (5, .int iv221_9), (4, .int iv221_8), (9, .int iv221_9), (8, .int iv221_8), (7, .int iv221_7), (6, .int iv204_6), (3, .int r_25), (0, .ref x), (1, .int i1), (2, .int i2)]) hx hb dX10_plan_397 hl (k := 0) rfl ex_294.symm ?o1053 rfl (fun ls hl => ?_)
                                            case o1053 => decide
                                            refine lv_goto (tgt := 372) hx hb dX10_plan_400 ?o1054 ?_
                                            case o1054 => decide
                                            refine ih372 x_294 fa_293 _ _ hL1 h_292 ?o1055 ?o1056 (by have q := (hx_V_up (by omega) (by omega) ax_283 dfa_293).1 (by omega) (by decide); rw [show x_294.toInt = iv372_10.toInt - 1 from by omega]; omega) ?o1057 ls ?o1058 hW hT hM ffv_1 ffw27_x_75 fx_17 pi0 nfa_293 (lv_sub hl [0, 1, 2, 3, 4, 5, 6, 7, 8, 9, 10] rfl)
                                            case o1055 => omega
                                            case o1056 => omega
                                            case o1057 => omega
                                            case o1058 => omega
                                    refine loop372 5 x_279 ia204_qm _ _ hL1 hl1 ?o1059 ?o1060 (by rw [zx_279]) ?o1061 ls ?o1062 hW hT hM ffv_1 ffw27_x_75 fx_17 pi0 nia204_qm hl
                                    case o1059 => omega
                                    case o1060 => omega
                                    case o1061 => omega
                                    case o1062 => omega
                                have zk_0 : (0 : Int32).toInt = 0 := ?o1063
                                case o1063 => decide
                                refine loop335 5 (0 : Int32) _ _ hL1 hl1 ?o1064 ?o1065  ls ?o1066 hW hT hM ffv_1 ffw27_x_75 fx_17 pi0 nia204_qm hl
                                case o1064 => decide
                                case o1065 => decide
                                case o1066 => omega
                    have zk_0 : (0 : Int32).toInt = 0 := ?o1067
                    case o1067 => decide
                    have zk_0 : (0 : Int32).toInt = 0 := ?o1068
                    case o1068 => decide
                    have zk_0 : (0 : Int32).toInt = 0 := ?o1069
                    case o1069 => decide
                    have zk_0 : (0 : Int32).toInt = 0 := ?o1070
                    case o1070 => decide
                    refine loop221 5 (0 : Int32) (0 : Int32) (0 : Int32) (0 : Int32) _ _ hL1 hl1 ?o1071 ?o1072 ?o1073 ?o1074 ?o1075 ?o1076 ?o1077 ?o1078  ls ?o1079 hW hT hM ffv_1 ffw27_x_75 fx_17 pi0 nia204_qm hl
                    case o1071 => decide
                    case o1072 => decide
                    case o1073 => decide
                    case o1074 => decide
                    case o1075 => decide
                    case o1076 => decide
                    case o1077 => decide
                    case o1078 => decide
                    case o1079 => omega
              have zk_0 : (0 : Int32).toInt = 0 := ?o1080
              case o1080 => decide
              have zk_1000000000 : (1000000000 : Int32).toInt = 1000000000 := ?o1081
              case o1081 => decide
              have zk_0 : (0 : Int32).toInt = 0 := ?o1082
              case o1082 => decide
              refine loop204 28564 (0 : Int32) (1000000000 : Int32) (0 : Int32) fa_193 _ _ L_23 h_24 ?o1083 ?o1084 ?o1085 ?o1086 ?o1087 ?o1088 hm12 ls ?o1089 hW hT hM ffv_1 ffw27_x_75 fx_17 pi0 nfa_193 hl
              case o1083 => decide
              case o1084 => decide
              case o1085 => decide
              case o1086 => decide
              case o1087 => decide
              case o1088 => decide
              case o1089 => omega
          · skip
            refine lv_aload_n hx hb dX10_plan_35 rfl (lv_at hl 1 rfl) ?_
            refine hx_getn hx hb hts hC_10 hown hW hT (gx.S hM) tt_10 38 ?o1090 rfl kw_1181 ⟨rfl, rfl, rfl⟩ dX10_plan_36 (fun q_296 fq_296 gq_296 => ?_)
            case o1090 => decide
            refine lv_iload_n hx hb dX10_plan_39 rfl (lv_at hl 0 rfl) ?_
            refine hx_iald hx hb hW hT gq_296 tt_73 rfl ⟨?o1091, ?o1092⟩ dX10_plan_40 (fun x_297 ex_297 lx_297 ux_297 => ?_)
            case o1091 => omega
            case o1092 => omega
            refine lv_iload_n hx hb dX10_plan_41 rfl (lv_at hl 2 rfl) ?_
            refine hb_icmp_ne (zx := x_297.toInt) (zy := i1.toInt) (tgt := 149) hx hb rfl rfl dX10_plan_42 ?o1093 (fun c_298 => ?_) (fun c_298 => ?_)
            case o1093 => decide
            · skip
              obtain ⟨x_299, ex_299⟩ : ∃ y : Int32, y = iv27_3 + Int32.ofInt 1 := ⟨_, rfl⟩
              have rg_300 := i32_r iv27_3
              have zx_299 : x_299.toInt = iv27_3.toInt + (1) := ?o1094
              case o1094 =>
                rw [ex_299]
                refine i32_add rfl ?o1095 ?o1096 ?o1097
                case o1095 => decide
                case o1096 => omega
                case o1097 => omega
              refine lv_iinc (v := x_299) (lv' := [(3, .int x_299), (0, .ref x), (1, .int i1), (2, .int i2)]) hx hb dX10_plan_149 hl (k := 0) rfl ex_299.symm ?o1098 rfl (fun ls hl => ?_)
              case o1098 => decide
              refine lv_goto (tgt := 27) hx hb dX10_plan_152 ?o1099 ?_
              case o1099 => decide
              refine ih27 x_299 fw27_x_75 _ _ hL1 hl1 ?o1100 ?o1101 ?o1102 ?o1103  ls ?o1104 hW hT hM ffw27_x_75 ffv_1 pi0 (lv_sub hl [0, 1, 2, 3] rfl)
              case o1100 => omega
              case o1101 => omega
              case o1102 => omega
              case o1103 => omega
              case o1104 => omega
            · skip
              refine lv_aload_n hx hb dX10_plan_45 rfl (lv_at hl 1 rfl) ?_
              refine lv_iload_n hx hb dX10_plan_46 rfl (lv_at hl 0 rfl) ?_
              refine hx_goi (hx_runV (As := [.int iv27_3]) (rest := []) ⟨hx, hb, hml, hown, hts⟩ hW (gx.S hM) tt_10 (T := TX10) (N := 98) rfl (t_X10_isOpen l dC dI dA hL1 hl1 H.size x iv27_3 hT (gx.S hM) ⟨?o1105, ?o1106⟩) (cwV 1 hts (hx_gV kw_1637 kw_1634 kw_1636 kw_81 kw_103) rfl rfl rfl (by decide +kernel) ⟨Nat.le_of_ble_eq_true rfl, Nat.le_of_ble_eq_true rfl⟩) rfl hl.1 rfl (Nat.le_of_ble_eq_true rfl) dX10_plan_47 ⟨Nat.le_of_ble_eq_true rfl, Nat.le_of_ble_eq_true rfl⟩) hW (fun r_303 L_301 h_302 H locs p_304 hW => ?_)
              case o1105 => omega
              case o1106 => omega
              obtain ⟨⟨w_306, fw_306, hr_305⟩, hT, hs⟩ := p_304
              replace hT : hx_T T_tb L_301 h_302 := hT
              replace hs : hx_S T_tb [(10, 67), (10, 68), (10, 69), (10, 70), (10, 71)] hL1 hl1 L_301 h_302 := hs
              replace ffv_1 := (hs.o (gx.S hM) trivial rfl).1.trans ffv_1
              replace ffw27_x_75 := (hs.o (gx.S hM) trivial rfl).1.trans ffw27_x_75
              replace fq_296 := (hs.o (gx.S hM) trivial rfl).2.trans fq_296
              replace ex_297 := ex_297.trans (hs.a gq_296 rfl _).1.symm
              replace pi0 : ∀ j : Nat, (j : Int) < (h_302.2.1 x 75).toInt → 1 ≤ (h_302.2.1 qf j).toInt := by
                intro j hj; rw [(hs.o (gx.S hM) trivial rfl).1] at hj; rw [(hs.a (gqf.S hM) rfl j).1]; exact pi0 j hj
              replace hM := hM.tr (hs.mono ?o1107)
              case o1107 => decide
              replace gq_296 := gq_296.S hs
              have fw_306 : h_302.2.1 x 68 = w_306 := fw_306
              have bw_306 := hT.gi (gx.S hM) tt_10 (k := 68) rfl
              rw [fw_306] at bw_306
              have bw_306 : 0 ≤ w_306.toInt ∧ w_306.toInt ≤ 610000 := bw_306
              refine hb_if_ne (zx := r_303.toInt) (tgt := 56) hx hb rfl dX10_plan_50 ?o1108 (fun c_307 => ?_) (fun c_307 => ?_)
              case o1108 => decide
              · skip
                refine lv_aload_n hx hb dX10_plan_56 rfl (lv_at hl 1 rfl) ?_
                refine hk_geti hx hb hts hC_10 hown hW (gx.S hM) tt_10 75 ?o1109 rfl kw_1218 ⟨rfl, rfl, rfl⟩ ffw27_x_75 dX10_plan_57 ?_
                case o1109 => decide
                refine lv_iconst (v := 4) hx hb dX10_plan_60 ?o1110 ?_
                case o1110 => decide
                refine hb_icmp_ne (zx := fw27_x_75.toInt) (zy := 4) (tgt := 66) hx hb rfl ?o1111 dX10_plan_61 ?o1112 (fun c_308 => ?_) (fun c_308 => ?_)
                case o1111 => decide
                case o1112 => decide
                · skip
                  refine lv_aload_n hx hb dX10_plan_66 rfl (lv_at hl 1 rfl) ?_
                  refine lv_aload_n hx hb dX10_plan_67 rfl (lv_at hl 1 rfl) ?_
                  refine hk_getr hx hb hts hC_10 hown hW (gx.S hM) tt_10 44 ?o1113 rfl kw_1187 ⟨rfl, rfl, rfl⟩ ((hM.o gx trivial rfl).2.trans f_x_44) dX10_plan_68 ?_
                  case o1113 => decide
                  refine lv_iload_n hx hb dX10_plan_71 rfl (lv_at hl 0 rfl) ?_
                  refine hx_iald hx hb hW hT (gqc.S hM) tt_79 rfl ⟨?o1114, ?o1115⟩ dX10_plan_72 (fun x_309 ex_309 lx_309 ux_309 => ?_)
                  case o1114 => omega
                  case o1115 => omega
                  have ax_309 : x_309 = plf iv27_3.toNatClampNeg := ex_309.trans (congrFun (hx_afS hM gqc rfl af_qc) _)
                  refine lv_iconst (v := 2) hx hb dX10_plan_73 ?o1116 ?_
                  case o1116 => decide
                  have zc_2 : (2 : Int32).toInt = 2 := ?o1117
                  case o1117 => decide
                  refine hx_goi (hx_runV (As := [.int x_309, .int (2 : Int32)]) (rest := []) ⟨hx, hb, hml, hown, hts⟩ hW (gx.S hM) tt_10 (T := TX10) (N := 98) rfl (t_X10_ruleOf_2 l dC dI dA L_301 h_302 H.size x x_309 (2 : Int32) hT (gx.S hM) ql (gql.S hM) ((hM.o gx trivial rfl).2.trans f_x_3) rf (hx_afS hM gql rfl af_ql) ⟨?o1118, ?o1119⟩ ?o1120) (cwV 2 hts (hx_gV kw_1533 kw_1530 kw_1532 kw_66 kw_103) rfl rfl rfl (by decide +kernel) ⟨Nat.le_of_ble_eq_true rfl, Nat.le_of_ble_eq_true rfl⟩) rfl hl.1 rfl (Nat.le_of_ble_eq_true rfl) dX10_plan_74 ⟨Nat.le_of_ble_eq_true rfl, Nat.le_of_ble_eq_true rfl⟩) hW (fun r_312 L_310 h_311 H locs p_313 hW => ?_)
                  case o1118 => omega
                  case o1119 => omega
                  case o1120 => decide
                  obtain ⟨hr_314, hT, hs⟩ := p_313
                  replace hT : hx_T T_tb L_310 h_311 := hT
                  replace hs : hx_S T_tb [] L_301 h_302 L_310 h_311 := hs
                  replace ffv_1 := (hs.o (gx.S hM) trivial rfl).1.trans ffv_1
                  replace ffw27_x_75 := (hs.o (gx.S hM) trivial rfl).1.trans ffw27_x_75
                  replace fq_296 := (hs.o (gx.S hM) trivial rfl).2.trans fq_296
                  replace fw_306 := (hs.o (gx.S hM) trivial rfl).1.trans fw_306
                  replace ex_297 := ex_297.trans (hs.a gq_296 rfl _).1.symm
                  replace ex_309 := ex_309.trans (hs.a (gqc.S hM) rfl _).1.symm
                  replace pi0 : ∀ j : Nat, (j : Int) < (h_311.2.1 x 75).toInt → 1 ≤ (h_311.2.1 qf j).toInt := by
                    intro j hj; rw [(hs.o (gx.S hM) trivial rfl).1] at hj; rw [(hs.a (gqf.S hM) rfl j).1]; exact pi0 j hj
                  replace hM := hM.tr (hs.mono ?o1121)
                  case o1121 => decide
                  replace gq_296 := gq_296.S hs
                  have hpl := hPL iv27_3.toInt ?o1122 ?o1123
                  case o1122 => omega
                  case o1123 => omega
                  have hwk : 1 ≤ r_312.toInt := ?o1124
                  case o1124 =>
                    rw [hr_314.2.2]
                    refine (hWK x_309.toInt ?o1125 (by rw [ax_309]; exact hpl.2)).1
                    case o1125 => omega
                  refine lv_istore (lv' := [(4, .int r_312), (3, .int iv27_3), (0, .ref x), (1, .int i1), (2, .int i2)]) hx hb dX10_plan_77 hl ?o1126 rfl (fun ls hl => ?_)
                  case o1126 => decide
                  refine lv_aload_n hx hb dX10_plan_79 rfl (lv_at hl 2 rfl) ?_
                  refine hx_getn hx hb hts hC_10 hown hW hT (gx.S hM) tt_10 76 ?o1127 rfl kw_1219 ⟨rfl, rfl, rfl⟩ dX10_plan_80 (fun q_315 fq_315 gq_315 => ?_)
                  case o1127 => decide
                  refine lv_aload_n hx hb dX10_plan_83 rfl (lv_at hl 2 rfl) ?_
                  refine hk_geti hx hb hts hC_10 hown hW (gx.S hM) tt_10 75 ?o1128 rfl kw_1218 ⟨rfl, rfl, rfl⟩ ffw27_x_75 dX10_plan_84 ?_
                  case o1128 => decide
                  refine lv_iload_n hx hb dX10_plan_87 rfl (lv_at hl 1 rfl) ?_
                  refine hx_iast hx hb hW hT (hx_S.rf (M := [(102, 0)])) gq_315 tt_102 rfl ⟨?o1129, ?o1130⟩ rfl ⟨?o1131, ?o1132⟩ (List.mem_singleton.mpr rfl) dX10_plan_88 (fun H locs h_316 eh_316 hW hT hs => ?_)
                  case o1129 => omega
                  case o1130 => omega
                  case o1131 => omega
                  case o1132 => omega
                  replace ffv_1 := (hs.o (gx.S hM) trivial rfl).1.trans ffv_1
                  replace ffw27_x_75 := (hs.o (gx.S hM) trivial rfl).1.trans ffw27_x_75
                  replace fq_296 := (hs.o (gx.S hM) trivial rfl).2.trans fq_296
                  replace fw_306 := (hs.o (gx.S hM) trivial rfl).1.trans fw_306
                  replace fq_315 := (hs.o (gx.S hM) trivial rfl).2.trans fq_315
                  replace ex_297 := ex_297.trans (hs.a gq_296 rfl _).1.symm
                  replace ex_309 := ex_309.trans (hs.a (gqc.S hM) rfl _).1.symm
                  replace pi0 : ∀ j : Nat, (j : Int) < (h_316.2.1 x 75).toInt → 1 ≤ (h_316.2.1 qf j).toInt := by
                    intro j hj; rw [(hs.o (gx.S hM) trivial rfl).1] at hj; rw [(hs.a (gqf.S hM) rfl j).1]; exact pi0 j hj
                  replace hM := hM.tr (hs.mono ?o1133)
                  case o1133 => decide
                  replace gq_296 := gq_296.S hs
                  replace gq_315 := gq_315.S hs
                  refine lv_aload_n hx hb dX10_plan_89 rfl (lv_at hl 2 rfl) ?_
                  refine hx_getn hx hb hts hC_10 hown hW hT (gx.S hM) tt_10 77 ?o1134 rfl kw_1220 ⟨rfl, rfl, rfl⟩ dX10_plan_90 (fun q_317 fq_317 gq_317 => ?_)
                  case o1134 => decide
                  refine lv_aload_n hx hb dX10_plan_93 rfl (lv_at hl 2 rfl) ?_
                  refine hk_geti hx hb hts hC_10 hown hW (gx.S hM) tt_10 75 ?o1135 rfl kw_1218 ⟨rfl, rfl, rfl⟩ ffw27_x_75 dX10_plan_94 ?_
                  case o1135 => decide
                  refine lv_aload_n hx hb dX10_plan_97 rfl (lv_at hl 2 rfl) ?_
                  refine hk_geti hx hb hts hC_10 hown hW (gx.S hM) tt_10 68 ?o1136 rfl kw_1211 ⟨rfl, rfl, rfl⟩ fw_306 dX10_plan_98 ?_
                  case o1136 => decide
                  refine hx_iast hx hb hW hT (hx_S.rf (M := [(103, 0)])) gq_317 tt_103 rfl ⟨?o1137, ?o1138⟩ rfl ⟨?o1139, ?o1140⟩ (List.mem_singleton.mpr rfl) dX10_plan_101 (fun H locs h_318 eh_318 hW hT hs => ?_)
                  case o1137 => omega
                  case o1138 => omega
                  case o1139 => omega
                  case o1140 => omega
                  replace ffv_1 := (hs.o (gx.S hM) trivial rfl).1.trans ffv_1
                  replace ffw27_x_75 := (hs.o (gx.S hM) trivial rfl).1.trans ffw27_x_75
                  replace fq_296 := (hs.o (gx.S hM) trivial rfl).2.trans fq_296
                  replace fw_306 := (hs.o (gx.S hM) trivial rfl).1.trans fw_306
                  replace fq_315 := (hs.o (gx.S hM) trivial rfl).2.trans fq_315
                  replace fq_317 := (hs.o (gx.S hM) trivial rfl).2.trans fq_317
                  replace ex_297 := ex_297.trans (hs.a gq_296 rfl _).1.symm
                  replace ex_309 := ex_309.trans (hs.a (gqc.S hM) rfl _).1.symm
                  replace pi0 : ∀ j : Nat, (j : Int) < (h_318.2.1 x 75).toInt → 1 ≤ (h_318.2.1 qf j).toInt := by
                    intro j hj; rw [(hs.o (gx.S hM) trivial rfl).1] at hj; rw [(hs.a (gqf.S hM) rfl j).1]; exact pi0 j hj
                  replace hM := hM.tr (hs.mono ?o1141)
                  case o1141 => decide
                  replace gq_296 := gq_296.S hs
                  replace gq_315 := gq_315.S hs
                  replace gq_317 := gq_317.S hs
                  refine lv_aload_n hx hb dX10_plan_102 rfl (lv_at hl 2 rfl) ?_
                  refine hk_getr hx hb hts hC_10 hown hW (gx.S hM) tt_10 78 ?o1142 rfl kw_1221 ⟨rfl, rfl, rfl⟩ ((hM.o gx trivial rfl).2.trans f_x_78) dX10_plan_103 ?_
                  case o1142 => decide
                  refine lv_aload_n hx hb dX10_plan_106 rfl (lv_at hl 2 rfl) ?_
                  refine hk_geti hx hb hts hC_10 hown hW (gx.S hM) tt_10 75 ?o1143 rfl kw_1218 ⟨rfl, rfl, rfl⟩ ffw27_x_75 dX10_plan_107 ?_
                  case o1143 => decide
                  refine lv_iload hx hb dX10_plan_110 (lv_at hl 0 rfl) ?_
                  refine lv_aload_n hx hb dX10_plan_112 rfl (lv_at hl 2 rfl) ?_
                  refine hk_geti hx hb hts hC_10 hown hW (gx.S hM) tt_10 68 ?o1144 rfl kw_1211 ⟨rfl, rfl, rfl⟩ fw_306 dX10_plan_113 ?_
                  case o1144 => decide
                  refine hb_icmp_ge (zx := r_312.toInt) (zy := w_306.toInt) (tgt := 124) hx hb rfl rfl dX10_plan_116 ?o1145 (fun c_319 => ?_) (fun c_319 => ?_)
                  case o1145 => decide
                  · skip
                    refine lv_aload_n hx hb dX10_plan_124 rfl (lv_at hl 2 rfl) ?_
                    refine hk_geti hx hb hts hC_10 hown hW (gx.S hM) tt_10 68 ?o1146 rfl kw_1211 ⟨rfl, rfl, rfl⟩ fw_306 dX10_plan_125 ?_
                    case o1146 => decide
                    have pi0O := pi0
                    refine hx_iast hx hb hW hT (hx_S.rf (M := [(104, 0)])) (gqf.S hM) tt_104 rfl ⟨?o1147, ?o1148⟩ rfl ⟨?o1149, ?o1150⟩ (List.mem_singleton.mpr rfl) dX10_plan_128 (fun H locs h_320 eh_320 hW hT hs => ?_)
                    case o1147 => omega
                    case o1148 => omega
                    case o1149 => omega
                    case o1150 => omega
                    replace ffv_1 := (hs.o (gx.S hM) trivial rfl).1.trans ffv_1
                    replace ffw27_x_75 := (hs.o (gx.S hM) trivial rfl).1.trans ffw27_x_75
                    replace fq_296 := (hs.o (gx.S hM) trivial rfl).2.trans fq_296
                    replace fw_306 := (hs.o (gx.S hM) trivial rfl).1.trans fw_306
                    replace fq_315 := (hs.o (gx.S hM) trivial rfl).2.trans fq_315
                    replace fq_317 := (hs.o (gx.S hM) trivial rfl).2.trans fq_317
                    replace ex_297 := ex_297.trans (hs.a gq_296 rfl _).1.symm
                    replace ex_309 := ex_309.trans (hs.a (gqc.S hM) rfl _).1.symm
                    replace hM := hM.tr (hs.mono ?o1151)
                    case o1151 => decide
                    replace gq_296 := gq_296.S hs
                    replace gq_315 := gq_315.S hs
                    replace gq_317 := gq_317.S hs
                    have pj_321 : ∀ j : Nat, (j : Int) < fw27_x_75.toInt + 1 → 1 ≤ (h_320.2.1 qf j).toInt := hx_pix pi0O ffw27_x_75 ?o1152 ?o1153 eh_320 ((gx.S hM).ne (gqf.S hM) ?o1154)
                    case o1152 => omega
                    case o1153 => omega
                    case o1154 => decide
                    refine lv_aload_n hx hb dX10_plan_129 rfl (lv_at hl 2 rfl) ?_
                    refine hk_getr hx hb hts hC_10 hown hW (gx.S hM) tt_10 79 ?o1155 rfl kw_1222 ⟨rfl, rfl, rfl⟩ ((hM.o gx trivial rfl).2.trans f_x_79) dX10_plan_130 ?_
                    case o1155 => decide
                    refine lv_aload_n hx hb dX10_plan_133 rfl (lv_at hl 2 rfl) ?_
                    refine hk_geti hx hb hts hC_10 hown hW (gx.S hM) tt_10 75 ?o1156 rfl kw_1218 ⟨rfl, rfl, rfl⟩ ffw27_x_75 dX10_plan_134 ?_
                    case o1156 => decide
                    refine lv_iconst (v := 0) hx hb dX10_plan_137 ?o1157 ?_
                    case o1157 => decide
                    refine hx_iast hx hb hW hT (hx_S.rf (M := [(105, 0)])) (gqm.S hM) tt_105 rfl ⟨?o1158, ?o1159⟩ rfl ?o1160 (List.mem_singleton.mpr rfl) dX10_plan_138 (fun H locs h_322 eh_322 hW hT hs => ?_)
                    case o1158 => omega
                    case o1159 => omega
                    case o1160 => decide
                    replace ffv_1 := (hs.o (gx.S hM) trivial rfl).1.trans ffv_1
                    replace ffw27_x_75 := (hs.o (gx.S hM) trivial rfl).1.trans ffw27_x_75
                    replace fq_296 := (hs.o (gx.S hM) trivial rfl).2.trans fq_296
                    replace fw_306 := (hs.o (gx.S hM) trivial rfl).1.trans fw_306
                    replace fq_315 := (hs.o (gx.S hM) trivial rfl).2.trans fq_315
                    replace fq_317 := (hs.o (gx.S hM) trivial rfl).2.trans fq_317
                    replace ex_297 := ex_297.trans (hs.a gq_296 rfl _).1.symm
                    replace ex_309 := ex_309.trans (hs.a (gqc.S hM) rfl _).1.symm
                    replace pj_321 : ∀ j : Nat, (j : Int) < fw27_x_75.toInt + 1 → 1 ≤ (h_322.2.1 qf j).toInt := fun j hj => by rw [(hs.a (gqf.S hM) rfl j).1]; exact pj_321 j hj
                    replace hM := hM.tr (hs.mono ?o1161)
                    case o1161 => decide
                    replace gq_296 := gq_296.S hs
                    replace gq_315 := gq_315.S hs
                    replace gq_317 := gq_317.S hs
                    refine lv_aload_n hx hb dX10_plan_139 rfl (lv_at hl 2 rfl) ?_
                    refine lv_dup hx hb dX10_plan_140 rfl ?_
                    refine hk_geti hx hb hts hC_10 hown hW (gx.S hM) tt_10 75 ?o1162 rfl kw_1218 ⟨rfl, rfl, rfl⟩ ffw27_x_75 dX10_plan_141 ?_
                    case o1162 => decide
                    refine lv_iconst (v := 1) hx hb dX10_plan_144 ?o1163 ?_
                    case o1163 => decide
                    refine lv_iadd hx hb dX10_plan_145 ?_
                    have rg_323 := i32_r fw27_x_75
                    refine lv_topi (fun x_324 ex_324 => ?_)
                    have zx_324 : x_324.toInt = fw27_x_75.toInt + 1 := ?o1164
                    case o1164 =>
                      rw [ex_324]
                      refine i32_add rfl ?o1165 ?o1166 ?o1167
                      case o1165 => decide
                      case o1166 => omega
                      case o1167 => omega
                    refine hx_puti hx hb hts hC_10 hown hW hT (hx_S.rf (M := [(10, 75)])) (gx.S hM) tt_10 75 ?o1168 rfl kw_1218 ⟨rfl, rfl, rfl⟩ rfl (x := x_324) ⟨?o1169, ?o1170⟩ rfl rfl rfl (List.mem_singleton.mpr rfl) dX10_plan_146 (fun H locs h_325 eh_325 hW hT hs => ?_)
                    case o1168 => decide
                    case o1169 => omega
                    case o1170 => omega
                    replace ffv_1 := (hs.o (gx.S hM) trivial rfl).1.trans ffv_1
                    replace fq_296 := (hs.o (gx.S hM) trivial rfl).2.trans fq_296
                    replace fw_306 := (hs.o (gx.S hM) trivial rfl).1.trans fw_306
                    replace fq_315 := (hs.o (gx.S hM) trivial rfl).2.trans fq_315
                    replace fq_317 := (hs.o (gx.S hM) trivial rfl).2.trans fq_317
                    replace ex_297 := ex_297.trans (hs.a gq_296 rfl _).1.symm
                    replace ex_309 := ex_309.trans (hs.a (gqc.S hM) rfl _).1.symm
                    replace pj_321 : ∀ j : Nat, (j : Int) < fw27_x_75.toInt + 1 → 1 ≤ (h_325.2.1 qf j).toInt := fun j hj => by rw [(hs.a (gqf.S hM) rfl j).1]; exact pj_321 j hj
                    replace hM := hM.tr (hs.mono ?o1171)
                    case o1171 => decide
                    replace gq_296 := gq_296.S hs
                    replace gq_315 := gq_315.S hs
                    replace gq_317 := gq_317.S hs
                    have f_326 : h_325.2.1 x 75 = x_324 := ?o1172
                    case o1172 =>
                      rw [eh_325]
                      exact hx_pi_at _ _ _ _
                    have pi_327 : ∀ j : Nat, (j : Int) < (h_325.2.1 x 75).toInt → 1 ≤ (h_325.2.1 qf j).toInt := fun j hj => pj_321 j (by rw [f_326] at hj; omega)
                    obtain ⟨x_328, ex_328⟩ : ∃ y : Int32, y = iv27_3 + Int32.ofInt 1 := ⟨_, rfl⟩
                    have rg_329 := i32_r iv27_3
                    have zx_328 : x_328.toInt = iv27_3.toInt + (1) := ?o1173
                    case o1173 =>
                      rw [ex_328]
                      refine i32_add rfl ?o1174 ?o1175 ?o1176
                      case o1174 => decide
                      case o1175 => omega
                      case o1176 => omega
                    refine lv_iinc (v := x_328) (lv' := [(3, .int x_328), (4, .int r_312), (0, .ref x), (1, .int i1), (2, .int i2)]) hx hb dX10_plan_149 hl (k := 1) rfl ex_328.symm ?o1177 rfl (fun ls hl => ?_)
                    case o1177 => decide
                    refine lv_goto (tgt := 27) hx hb dX10_plan_152 ?o1178 ?_
                    case o1178 => decide
                    refine ih27 x_328 x_324 _ _ L_310 h_325 ?o1179 ?o1180 ?o1181 ?o1182  ls ?o1183 hW hT hM f_326 ffv_1 pi_327 (lv_sub hl [0, 2, 3, 4] rfl)
                    case o1179 => omega
                    case o1180 => omega
                    case o1181 => omega
                    case o1182 => omega
                    case o1183 => omega
                  · skip
                    refine lv_iload hx hb dX10_plan_119 (lv_at hl 0 rfl) ?_
                    refine lv_goto (tgt := 128) hx hb dX10_plan_121 ?o1184 ?_
                    case o1184 => decide
                    have pi0O := pi0
                    refine hx_iast hx hb hW hT (hx_S.rf (M := [(104, 0)])) (gqf.S hM) tt_104 rfl ⟨?o1185, ?o1186⟩ rfl ⟨?o1187, ?o1188⟩ (List.mem_singleton.mpr rfl) dX10_plan_128 (fun H locs h_330 eh_330 hW hT hs => ?_)
                    case o1185 => omega
                    case o1186 => omega
                    case o1187 => omega
                    case o1188 => omega
                    replace ffv_1 := (hs.o (gx.S hM) trivial rfl).1.trans ffv_1
                    replace ffw27_x_75 := (hs.o (gx.S hM) trivial rfl).1.trans ffw27_x_75
                    replace fq_296 := (hs.o (gx.S hM) trivial rfl).2.trans fq_296
                    replace fw_306 := (hs.o (gx.S hM) trivial rfl).1.trans fw_306
                    replace fq_315 := (hs.o (gx.S hM) trivial rfl).2.trans fq_315
                    replace fq_317 := (hs.o (gx.S hM) trivial rfl).2.trans fq_317
                    replace ex_297 := ex_297.trans (hs.a gq_296 rfl _).1.symm
                    replace ex_309 := ex_309.trans (hs.a (gqc.S hM) rfl _).1.symm
                    replace hM := hM.tr (hs.mono ?o1189)
                    case o1189 => decide
                    replace gq_296 := gq_296.S hs
                    replace gq_315 := gq_315.S hs
                    replace gq_317 := gq_317.S hs
                    have pj_331 : ∀ j : Nat, (j : Int) < fw27_x_75.toInt + 1 → 1 ≤ (h_330.2.1 qf j).toInt := hx_pix pi0O ffw27_x_75 ?o1190 ?o1191 eh_330 ((gx.S hM).ne (gqf.S hM) ?o1192)
                    case o1190 => omega
                    case o1191 => omega
                    case o1192 => decide
                    refine lv_aload_n hx hb dX10_plan_129 rfl (lv_at hl 2 rfl) ?_
                    refine hk_getr hx hb hts hC_10 hown hW (gx.S hM) tt_10 79 ?o1193 rfl kw_1222 ⟨rfl, rfl, rfl⟩ ((hM.o gx trivial rfl).2.trans f_x_79) dX10_plan_130 ?_
                    case o1193 => decide
                    refine lv_aload_n hx hb dX10_plan_133 rfl (lv_at hl 2 rfl) ?_
                    refine hk_geti hx hb hts hC_10 hown hW (gx.S hM) tt_10 75 ?o1194 rfl kw_1218 ⟨rfl, rfl, rfl⟩ ffw27_x_75 dX10_plan_134 ?_
                    case o1194 => decide
                    refine lv_iconst (v := 0) hx hb dX10_plan_137 ?o1195 ?_
                    case o1195 => decide
                    refine hx_iast hx hb hW hT (hx_S.rf (M := [(105, 0)])) (gqm.S hM) tt_105 rfl ⟨?o1196, ?o1197⟩ rfl ?o1198 (List.mem_singleton.mpr rfl) dX10_plan_138 (fun H locs h_332 eh_332 hW hT hs => ?_)
                    case o1196 => omega
                    case o1197 => omega
                    case o1198 => decide
                    replace ffv_1 := (hs.o (gx.S hM) trivial rfl).1.trans ffv_1
                    replace ffw27_x_75 := (hs.o (gx.S hM) trivial rfl).1.trans ffw27_x_75
                    replace fq_296 := (hs.o (gx.S hM) trivial rfl).2.trans fq_296
                    replace fw_306 := (hs.o (gx.S hM) trivial rfl).1.trans fw_306
                    replace fq_315 := (hs.o (gx.S hM) trivial rfl).2.trans fq_315
                    replace fq_317 := (hs.o (gx.S hM) trivial rfl).2.trans fq_317
                    replace ex_297 := ex_297.trans (hs.a gq_296 rfl _).1.symm
                    replace ex_309 := ex_309.trans (hs.a (gqc.S hM) rfl _).1.symm
                    replace pj_331 : ∀ j : Nat, (j : Int) < fw27_x_75.toInt + 1 → 1 ≤ (h_332.2.1 qf j).toInt := fun j hj => by rw [(hs.a (gqf.S hM) rfl j).1]; exact pj_331 j hj
                    replace hM := hM.tr (hs.mono ?o1199)
                    case o1199 => decide
                    replace gq_296 := gq_296.S hs
                    replace gq_315 := gq_315.S hs
                    replace gq_317 := gq_317.S hs
                    refine lv_aload_n hx hb dX10_plan_139 rfl (lv_at hl 2 rfl) ?_
                    refine lv_dup hx hb dX10_plan_140 rfl ?_
                    refine hk_geti hx hb hts hC_10 hown hW (gx.S hM) tt_10 75 ?o1200 rfl kw_1218 ⟨rfl, rfl, rfl⟩ ffw27_x_75 dX10_plan_141 ?_
                    case o1200 => decide
                    refine lv_iconst (v := 1) hx hb dX10_plan_144 ?o1201 ?_
                    case o1201 => decide
                    refine lv_iadd hx hb dX10_plan_145 ?_
                    have rg_333 := i32_r fw27_x_75
                    refine lv_topi (fun x_334 ex_334 => ?_)
                    have zx_334 : x_334.toInt = fw27_x_75.toInt + 1 := ?o1202
                    case o1202 =>
                      rw [ex_334]
                      refine i32_add rfl ?o1203 ?o1204 ?o1205
                      case o1203 => decide
                      case o1204 => omega
                      case o1205 => omega
                    refine hx_puti hx hb hts hC_10 hown hW hT (hx_S.rf (M := [(10, 75)])) (gx.S hM) tt_10 75 ?o1206 rfl kw_1218 ⟨rfl, rfl, rfl⟩ rfl (x := x_334) ⟨?o1207, ?o1208⟩ rfl rfl rfl (List.mem_singleton.mpr rfl) dX10_plan_146 (fun H locs h_335 eh_335 hW hT hs => ?_)
                    case o1206 => decide
                    case o1207 => omega
                    case o1208 => omega
                    replace ffv_1 := (hs.o (gx.S hM) trivial rfl).1.trans ffv_1
                    replace fq_296 := (hs.o (gx.S hM) trivial rfl).2.trans fq_296
                    replace fw_306 := (hs.o (gx.S hM) trivial rfl).1.trans fw_306
                    replace fq_315 := (hs.o (gx.S hM) trivial rfl).2.trans fq_315
                    replace fq_317 := (hs.o (gx.S hM) trivial rfl).2.trans fq_317
                    replace ex_297 := ex_297.trans (hs.a gq_296 rfl _).1.symm
                    replace ex_309 := ex_309.trans (hs.a (gqc.S hM) rfl _).1.symm
                    replace pj_331 : ∀ j : Nat, (j : Int) < fw27_x_75.toInt + 1 → 1 ≤ (h_335.2.1 qf j).toInt := fun j hj => by rw [(hs.a (gqf.S hM) rfl j).1]; exact pj_331 j hj
                    replace hM := hM.tr (hs.mono ?o1209)
                    case o1209 => decide
                    replace gq_296 := gq_296.S hs
                    replace gq_315 := gq_315.S hs
                    replace gq_317 := gq_317.S hs
                    have f_336 : h_335.2.1 x 75 = x_334 := ?o1210
                    case o1210 =>
                      rw [eh_335]
                      exact hx_pi_at _ _ _ _
                    have pi_337 : ∀ j : Nat, (j : Int) < (h_335.2.1 x 75).toInt → 1 ≤ (h_335.2.1 qf j).toInt := fun j hj => pj_331 j (by rw [f_336] at hj; omega)
                    obtain ⟨x_338, ex_338⟩ : ∃ y : Int32, y = iv27_3 + Int32.ofInt 1 := ⟨_, rfl⟩
                    have rg_339 := i32_r iv27_3
                    have zx_338 : x_338.toInt = iv27_3.toInt + (1) := ?o1211
                    case o1211 =>
                      rw [ex_338]
                      refine i32_add rfl ?o1212 ?o1213 ?o1214
                      case o1212 => decide
                      case o1213 => omega
                      case o1214 => omega
                    refine lv_iinc (v := x_338) (lv' := [(3, .int x_338), (4, .int r_312), (0, .ref x), (1, .int i1), (2, .int i2)]) hx hb dX10_plan_149 hl (k := 1) rfl ex_338.symm ?o1215 rfl (fun ls hl => ?_)
                    case o1215 => decide
                    refine lv_goto (tgt := 27) hx hb dX10_plan_152 ?o1216 ?_
                    case o1216 => decide
                    refine ih27 x_338 x_334 _ _ L_310 h_335 ?o1217 ?o1218 ?o1219 ?o1220  ls ?o1221 hW hT hM f_336 ffv_1 pi_337 (lv_sub hl [0, 2, 3, 4] rfl)
                    case o1217 => omega
                    case o1218 => omega
                    case o1219 => omega
                    case o1220 => omega
                    case o1221 => omega
                · skip
                  refine lv_iconst (v := -1) hx hb dX10_plan_64 ?o1222 ?_
                  case o1222 => decide
                  exact hx_reti hx hb hr hlk hW ⟨trivial, hT, hM⟩ dX10_plan_65
              · skip
                refine lv_goto (tgt := 149) hx hb dX10_plan_53 ?o1223 ?_
                case o1223 => decide
                obtain ⟨x_340, ex_340⟩ : ∃ y : Int32, y = iv27_3 + Int32.ofInt 1 := ⟨_, rfl⟩
                have rg_341 := i32_r iv27_3
                have zx_340 : x_340.toInt = iv27_3.toInt + (1) := ?o1224
                case o1224 =>
                  rw [ex_340]
                  refine i32_add rfl ?o1225 ?o1226 ?o1227
                  case o1225 => decide
                  case o1226 => omega
                  case o1227 => omega
                refine lv_iinc (v := x_340) (lv' := [(3, .int x_340), (0, .ref x), (1, .int i1), (2, .int i2)]) hx hb dX10_plan_149 hl (k := 0) rfl ex_340.symm ?o1228 rfl (fun ls hl => ?_)
                case o1228 => decide
                refine lv_goto (tgt := 27) hx hb dX10_plan_152 ?o1229 ?_
                case o1229 => decide
                refine ih27 x_340 fw27_x_75 _ _ L_301 h_302 ?o1230 ?o1231 ?o1232 ?o1233  ls ?o1234 hW hT hM ffw27_x_75 ffv_1 pi0 (lv_sub hl [0, 1, 2, 3] rfl)
                case o1230 => omega
                case o1231 => omega
                case o1232 => omega
                case o1233 => omega
                case o1234 => omega
      have zk_0 : (0 : Int32).toInt = 0 := ?o1235
      case o1235 => decide
      have zk_0 : (0 : Int32).toInt = 0 := ?o1236
      case o1236 => decide
      refine loop27 101 (0 : Int32) (0 : Int32) _ _ L_8 h_14 ?o1237 ?o1238 ?o1239 ?o1240  ls ?o1241 hW hT hM f_15 ffv_1 pi0 hl
      case o1237 => decide
      case o1238 => decide
      case o1239 => decide
      case o1240 => decide
      case o1241 => omega
    · skip
      replace hr_12 := hr_12.resolve_right (fun z9 => absurd (c_13.symm.trans z9.1) ?o1242)
      case o1242 => decide
      replace hr_12 := hr_12.2
      refine lv_iconst (v := -1) hx hb dX10_plan_18 ?o1243 ?_
      case o1243 => decide
      exact hx_reti hx hb hr hlk hW ⟨trivial, hT, hM⟩ dX10_plan_19

def wNX10_order : Nat := 13513278903888547982771721520741113581370481956095540754622856484791002486467826908604566179474507294386456113627865779913623497160404233631455945296214808001384337339881716223766677468524664502472020943654583656843051290876485609186466450965351520062099716322675244139140037645488139978219687315817782931480267234839704995925253378317123266134534507903600386211502534467833037203465298212573505379952535407815729966947403411947150112581299290953741846165086683855167412216279376427250837705598888264765233636223373914808607686555680402002749310744690826026
theorem wX10_order_c : hz_cd cX10_order wNX10_order 231 := ⟨by decide +kernel, by decide +kernel⟩
theorem dX10_order_0 : decode cX10_order 0 = .ok (.aload_n 0, 1) := dw_42 wX10_order_c rfl
theorem dX10_order_1 : decode cX10_order 1 = .ok (.iload_n 1, 1) := dw_27 wX10_order_c rfl
theorem dX10_order_2 : decode cX10_order 2 = .ok (.invokevirtual 370, 3) := dw_182 wX10_order_c 1 114 rfl rfl
theorem dX10_order_5 : decode cX10_order 5 = .ok (.ifCond .eq 48, 3) := dw_153 wX10_order_c 0 48 rfl rfl rfl
theorem dX10_order_8 : decode cX10_order 8 = .ok (.aload_n 0, 1) := dw_42 wX10_order_c rfl
theorem dX10_order_9 : decode cX10_order 9 = .ok (.getfield 123, 3) := dw_180 wX10_order_c 0 123 rfl rfl
theorem dX10_order_12 : decode cX10_order 12 = .ok (.iload_n 1, 1) := dw_27 wX10_order_c rfl
theorem dX10_order_13 : decode cX10_order 13 = .ok (.iaload, 1) := dw_46 wX10_order_c rfl
theorem dX10_order_14 : decode cX10_order 14 = .ok (.iconst 5, 1) := dw_8 wX10_order_c rfl
theorem dX10_order_15 : decode cX10_order 15 = .ok (.if_icmp .ne 38, 3) := dw_160 wX10_order_c 0 38 rfl rfl rfl
theorem dX10_order_18 : decode cX10_order 18 = .ok (.aload_n 0, 1) := dw_42 wX10_order_c rfl
theorem dX10_order_19 : decode cX10_order 19 = .ok (.getfield 114, 3) := dw_180 wX10_order_c 0 114 rfl rfl
theorem dX10_order_22 : decode cX10_order 22 = .ok (.iload_n 1, 1) := dw_27 wX10_order_c rfl
theorem dX10_order_23 : decode cX10_order 23 = .ok (.iaload, 1) := dw_46 wX10_order_c rfl
theorem dX10_order_24 : decode cX10_order 24 = .ok (.iconst (-1), 1) := dw_2 wX10_order_c rfl
theorem dX10_order_25 : decode cX10_order 25 = .ok (.if_icmp .ne 28, 3) := dw_160 wX10_order_c 0 28 rfl rfl rfl
theorem dX10_order_28 : decode cX10_order 28 = .ok (.aload_n 0, 1) := dw_42 wX10_order_c rfl
theorem dX10_order_29 : decode cX10_order 29 = .ok (.getfield 56, 3) := dw_180 wX10_order_c 0 56 rfl rfl
theorem dX10_order_32 : decode cX10_order 32 = .ok (.aload_n 0, 1) := dw_42 wX10_order_c rfl
theorem dX10_order_33 : decode cX10_order 33 = .ok (.getfield 84, 3) := dw_180 wX10_order_c 0 84 rfl rfl
theorem dX10_order_36 : decode cX10_order 36 = .ok (.iload_n 1, 1) := dw_27 wX10_order_c rfl
theorem dX10_order_37 : decode cX10_order 37 = .ok (.iaload, 1) := dw_46 wX10_order_c rfl
theorem dX10_order_38 : decode cX10_order 38 = .ok (.baload, 1) := dw_51 wX10_order_c rfl
theorem dX10_order_39 : decode cX10_order 39 = .ok (.ifCond .ne 14, 3) := dw_154 wX10_order_c 0 14 rfl rfl rfl
theorem dX10_order_42 : decode cX10_order 42 = .ok (.iload_n 2, 1) := dw_28 wX10_order_c rfl
theorem dX10_order_43 : decode cX10_order 43 = .ok (.iconst 1, 1) := dw_4 wX10_order_c rfl
theorem dX10_order_44 : decode cX10_order 44 = .ok (.sipush 9999, 3) := dw_17 wX10_order_c 39 15 rfl rfl rfl
theorem dX10_order_47 : decode cX10_order 47 = .ok (.invokestatic 228, 3) := dw_184 wX10_order_c 0 228 rfl rfl
theorem dX10_order_50 : decode cX10_order 50 = .ok (.ifCond .ne 5, 3) := dw_154 wX10_order_c 0 5 rfl rfl rfl
theorem dX10_order_53 : decode cX10_order 53 = .ok (.iconst (-1), 1) := dw_2 wX10_order_c rfl
theorem dX10_order_54 : decode cX10_order 54 = .ok (.ireturn, 1) := dw_172 wX10_order_c rfl
theorem dX10_order_55 : decode cX10_order 55 = .ok (.aload_n 0, 1) := dw_42 wX10_order_c rfl
theorem dX10_order_56 : decode cX10_order 56 = .ok (.getfield 102, 3) := dw_180 wX10_order_c 0 102 rfl rfl
theorem dX10_order_59 : decode cX10_order 59 = .ok (.iload_n 1, 1) := dw_27 wX10_order_c rfl
theorem dX10_order_60 : decode cX10_order 60 = .ok (.iaload, 1) := dw_46 wX10_order_c rfl
theorem dX10_order_61 : decode cX10_order 61 = .ok (.istore_n 3, 1) := dw_62 wX10_order_c rfl
theorem dX10_order_62 : decode cX10_order 62 = .ok (.aload_n 0, 1) := dw_42 wX10_order_c rfl
theorem dX10_order_63 : decode cX10_order 63 = .ok (.getfield 87, 3) := dw_180 wX10_order_c 0 87 rfl rfl
theorem dX10_order_66 : decode cX10_order 66 = .ok (.iload_n 1, 1) := dw_27 wX10_order_c rfl
theorem dX10_order_67 : decode cX10_order 67 = .ok (.iaload, 1) := dw_46 wX10_order_c rfl
theorem dX10_order_68 : decode cX10_order 68 = .ok (.aload_n 0, 1) := dw_42 wX10_order_c rfl
theorem dX10_order_69 : decode cX10_order 69 = .ok (.getfield 105, 3) := dw_180 wX10_order_c 0 105 rfl rfl
theorem dX10_order_72 : decode cX10_order 72 = .ok (.iload_n 1, 1) := dw_27 wX10_order_c rfl
theorem dX10_order_73 : decode cX10_order 73 = .ok (.iaload, 1) := dw_46 wX10_order_c rfl
theorem dX10_order_74 : decode cX10_order 74 = .ok (.aload_n 0, 1) := dw_42 wX10_order_c rfl
theorem dX10_order_75 : decode cX10_order 75 = .ok (.iload_n 3, 1) := dw_29 wX10_order_c rfl
theorem dX10_order_76 : decode cX10_order 76 = .ok (.bipush 9, 2) := dw_16 wX10_order_c 9 rfl rfl rfl
theorem dX10_order_78 : decode cX10_order 78 = .ok (.invokevirtual 333, 3) := dw_182 wX10_order_c 1 77 rfl rfl
theorem dX10_order_81 : decode cX10_order 81 = .ok (.imul, 1) := dw_104 wX10_order_c rfl
theorem dX10_order_82 : decode cX10_order 82 = .ok (.iadd, 1) := dw_96 wX10_order_c rfl
theorem dX10_order_83 : decode cX10_order 83 = .ok (.aload_n 0, 1) := dw_42 wX10_order_c rfl
theorem dX10_order_84 : decode cX10_order 84 = .ok (.iload_n 3, 1) := dw_29 wX10_order_c rfl
theorem dX10_order_85 : decode cX10_order 85 = .ok (.bipush 10, 2) := dw_16 wX10_order_c 10 rfl rfl rfl
theorem dX10_order_87 : decode cX10_order 87 = .ok (.invokevirtual 333, 3) := dw_182 wX10_order_c 1 77 rfl rfl
theorem dX10_order_90 : decode cX10_order 90 = .ok (.iadd, 1) := dw_96 wX10_order_c rfl
theorem dX10_order_91 : decode cX10_order 91 = .ok (.aload_n 0, 1) := dw_42 wX10_order_c rfl
theorem dX10_order_92 : decode cX10_order 92 = .ok (.iload_n 3, 1) := dw_29 wX10_order_c rfl
theorem dX10_order_93 : decode cX10_order 93 = .ok (.bipush 11, 2) := dw_16 wX10_order_c 11 rfl rfl rfl
theorem dX10_order_95 : decode cX10_order 95 = .ok (.invokevirtual 333, 3) := dw_182 wX10_order_c 1 77 rfl rfl
theorem dX10_order_98 : decode cX10_order 98 = .ok (.iadd, 1) := dw_96 wX10_order_c rfl
theorem dX10_order_99 : decode cX10_order 99 = .ok (.istore 4, 2) := dw_54 wX10_order_c 4 rfl
theorem dX10_order_101 : decode cX10_order 101 = .ok (.iload_n 2, 1) := dw_28 wX10_order_c rfl
theorem dX10_order_102 : decode cX10_order 102 = .ok (.aload_n 0, 1) := dw_42 wX10_order_c rfl
theorem dX10_order_103 : decode cX10_order 103 = .ok (.iload_n 3, 1) := dw_29 wX10_order_c rfl
theorem dX10_order_104 : decode cX10_order 104 = .ok (.iconst 2, 1) := dw_5 wX10_order_c rfl
theorem dX10_order_105 : decode cX10_order 105 = .ok (.invokevirtual 333, 3) := dw_182 wX10_order_c 1 77 rfl rfl
theorem dX10_order_108 : decode cX10_order 108 = .ok (.if_icmp .ge 12, 3) := dw_162 wX10_order_c 0 12 rfl rfl rfl
theorem dX10_order_111 : decode cX10_order 111 = .ok (.iload_n 2, 1) := dw_28 wX10_order_c rfl
theorem dX10_order_112 : decode cX10_order 112 = .ok (.iload 4, 2) := dw_21 wX10_order_c 4 rfl
theorem dX10_order_114 : decode cX10_order 114 = .ok (.if_icmp .ge 6, 3) := dw_162 wX10_order_c 0 6 rfl rfl rfl
theorem dX10_order_117 : decode cX10_order 117 = .ok (.bipush (-2), 2) := dn_16 wX10_order_c 254 rfl (by decide)
theorem dX10_order_119 : decode cX10_order 119 = .ok (.ireturn, 1) := dw_172 wX10_order_c rfl
theorem dX10_order_120 : decode cX10_order 120 = .ok (.iconst 0, 1) := dw_3 wX10_order_c rfl
theorem dX10_order_121 : decode cX10_order 121 = .ok (.istore 5, 2) := dw_54 wX10_order_c 5 rfl
theorem dX10_order_123 : decode cX10_order 123 = .ok (.iconst 0, 1) := dw_3 wX10_order_c rfl
theorem dX10_order_124 : decode cX10_order 124 = .ok (.istore 6, 2) := dw_54 wX10_order_c 6 rfl
theorem dX10_order_126 : decode cX10_order 126 = .ok (.iload 6, 2) := dw_21 wX10_order_c 6 rfl
theorem dX10_order_128 : decode cX10_order 128 = .ok (.aload_n 0, 1) := dw_42 wX10_order_c rfl
theorem dX10_order_129 : decode cX10_order 129 = .ok (.getfield 367, 3) := dw_180 wX10_order_c 1 111 rfl rfl
theorem dX10_order_132 : decode cX10_order 132 = .ok (.if_icmp .ge 50, 3) := dw_162 wX10_order_c 0 50 rfl rfl rfl
theorem dX10_order_135 : decode cX10_order 135 = .ok (.iload 5, 2) := dw_21 wX10_order_c 5 rfl
theorem dX10_order_137 : decode cX10_order 137 = .ok (.aload_n 0, 1) := dw_42 wX10_order_c rfl
theorem dX10_order_138 : decode cX10_order 138 = .ok (.getfield 84, 3) := dw_180 wX10_order_c 0 84 rfl rfl
theorem dX10_order_141 : decode cX10_order 141 = .ok (.iload 6, 2) := dw_21 wX10_order_c 6 rfl
theorem dX10_order_143 : decode cX10_order 143 = .ok (.iaload, 1) := dw_46 wX10_order_c rfl
theorem dX10_order_144 : decode cX10_order 144 = .ok (.aload_n 0, 1) := dw_42 wX10_order_c rfl
theorem dX10_order_145 : decode cX10_order 145 = .ok (.getfield 84, 3) := dw_180 wX10_order_c 0 84 rfl rfl
theorem dX10_order_148 : decode cX10_order 148 = .ok (.iload_n 1, 1) := dw_27 wX10_order_c rfl
theorem dX10_order_149 : decode cX10_order 149 = .ok (.iaload, 1) := dw_46 wX10_order_c rfl
theorem dX10_order_150 : decode cX10_order 150 = .ok (.if_icmp .ne 22, 3) := dw_160 wX10_order_c 0 22 rfl rfl rfl
theorem dX10_order_153 : decode cX10_order 153 = .ok (.aload_n 0, 1) := dw_42 wX10_order_c rfl
theorem dX10_order_154 : decode cX10_order 154 = .ok (.iload 6, 2) := dw_21 wX10_order_c 6 rfl
theorem dX10_order_156 : decode cX10_order 156 = .ok (.invokevirtual 419, 3) := dw_182 wX10_order_c 1 163 rfl rfl
theorem dX10_order_159 : decode cX10_order 159 = .ok (.ifCond .eq 13, 3) := dw_153 wX10_order_c 0 13 rfl rfl rfl
theorem dX10_order_162 : decode cX10_order 162 = .ok (.aload_n 0, 1) := dw_42 wX10_order_c rfl
theorem dX10_order_163 : decode cX10_order 163 = .ok (.getfield 132, 3) := dw_180 wX10_order_c 0 132 rfl rfl
theorem dX10_order_166 : decode cX10_order 166 = .ok (.iload 6, 2) := dw_21 wX10_order_c 6 rfl
theorem dX10_order_168 : decode cX10_order 168 = .ok (.iaload, 1) := dw_46 wX10_order_c rfl
theorem dX10_order_169 : decode cX10_order 169 = .ok (.goto 4, 3) := dw_167 wX10_order_c 0 4 rfl rfl rfl
theorem dX10_order_172 : decode cX10_order 172 = .ok (.iconst 0, 1) := dw_3 wX10_order_c rfl
theorem dX10_order_173 : decode cX10_order 173 = .ok (.iadd, 1) := dw_96 wX10_order_c rfl
theorem dX10_order_174 : decode cX10_order 174 = .ok (.istore 5, 2) := dw_54 wX10_order_c 5 rfl
theorem dX10_order_176 : decode cX10_order 176 = .ok (.iinc 6 1, 3) := dw_132 wX10_order_c 6 1 rfl rfl rfl
theorem dX10_order_179 : decode cX10_order 179 = .ok (.goto (-53), 3) := dn_167 wX10_order_c 255 203 rfl (by decide)
theorem dX10_order_182 : decode cX10_order 182 = .ok (.iload_n 2, 1) := dw_28 wX10_order_c rfl
theorem dX10_order_183 : decode cX10_order 183 = .ok (.iload 5, 2) := dw_21 wX10_order_c 5 rfl
theorem dX10_order_185 : decode cX10_order 185 = .ok (.iadd, 1) := dw_96 wX10_order_c rfl
theorem dX10_order_186 : decode cX10_order 186 = .ok (.aload_n 0, 1) := dw_42 wX10_order_c rfl
theorem dX10_order_187 : decode cX10_order 187 = .ok (.aload_n 0, 1) := dw_42 wX10_order_c rfl
theorem dX10_order_188 : decode cX10_order 188 = .ok (.getfield 84, 3) := dw_180 wX10_order_c 0 84 rfl rfl
theorem dX10_order_191 : decode cX10_order 191 = .ok (.iload_n 1, 1) := dw_27 wX10_order_c rfl
theorem dX10_order_192 : decode cX10_order 192 = .ok (.iaload, 1) := dw_46 wX10_order_c rfl
theorem dX10_order_193 : decode cX10_order 193 = .ok (.iload_n 3, 1) := dw_29 wX10_order_c rfl
theorem dX10_order_194 : decode cX10_order 194 = .ok (.invokevirtual 422, 3) := dw_182 wX10_order_c 1 166 rfl rfl
theorem dX10_order_197 : decode cX10_order 197 = .ok (.if_icmp .le 6, 3) := dw_164 wX10_order_c 0 6 rfl rfl rfl
theorem dX10_order_200 : decode cX10_order 200 = .ok (.bipush (-3), 2) := dn_16 wX10_order_c 253 rfl (by decide)
theorem dX10_order_202 : decode cX10_order 202 = .ok (.ireturn, 1) := dw_172 wX10_order_c rfl
theorem dX10_order_203 : decode cX10_order 203 = .ok (.aload_n 0, 1) := dw_42 wX10_order_c rfl
theorem dX10_order_204 : decode cX10_order 204 = .ok (.getfield 114, 3) := dw_180 wX10_order_c 0 114 rfl rfl
theorem dX10_order_207 : decode cX10_order 207 = .ok (.iload_n 1, 1) := dw_27 wX10_order_c rfl
theorem dX10_order_208 : decode cX10_order 208 = .ok (.aload_n 0, 1) := dw_42 wX10_order_c rfl
theorem dX10_order_209 : decode cX10_order 209 = .ok (.getfield 232, 3) := dw_180 wX10_order_c 0 232 rfl rfl
theorem dX10_order_212 : decode cX10_order 212 = .ok (.iastore, 1) := dw_79 wX10_order_c rfl
theorem dX10_order_213 : decode cX10_order 213 = .ok (.aload_n 0, 1) := dw_42 wX10_order_c rfl
theorem dX10_order_214 : decode cX10_order 214 = .ok (.getfield 132, 3) := dw_180 wX10_order_c 0 132 rfl rfl
theorem dX10_order_217 : decode cX10_order 217 = .ok (.iload_n 1, 1) := dw_27 wX10_order_c rfl
theorem dX10_order_218 : decode cX10_order 218 = .ok (.iload_n 2, 1) := dw_28 wX10_order_c rfl
theorem dX10_order_219 : decode cX10_order 219 = .ok (.iastore, 1) := dw_79 wX10_order_c rfl
theorem dX10_order_220 : decode cX10_order 220 = .ok (.aload_n 0, 1) := dw_42 wX10_order_c rfl
theorem dX10_order_221 : decode cX10_order 221 = .ok (.getfield 135, 3) := dw_180 wX10_order_c 0 135 rfl rfl
theorem dX10_order_224 : decode cX10_order 224 = .ok (.iload_n 1, 1) := dw_27 wX10_order_c rfl
theorem dX10_order_225 : decode cX10_order 225 = .ok (.iload 4, 2) := dw_21 wX10_order_c 4 rfl
theorem dX10_order_227 : decode cX10_order 227 = .ok (.iastore, 1) := dw_79 wX10_order_c rfl
theorem dX10_order_228 : decode cX10_order 228 = .ok (.iload 4, 2) := dw_21 wX10_order_c 4 rfl
theorem dX10_order_230 : decode cX10_order 230 = .ok (.ireturn, 1) := dw_172 wX10_order_c rfl