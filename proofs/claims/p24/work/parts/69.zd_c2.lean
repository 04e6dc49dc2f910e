section
set_option maxHeartbeats 4000000 in
set_option maxRecDepth 100000 in
theorem t_X10_planned_v (l : Launch) (dC : Nat → ClassId) (dI : Nat → Nat → Nat) (dA : Nat → ClassId) (L : List Nat) (h : hx_h) (sz : Nat) (x : Nat) (i1 : Int32) (i2 : Int32) (hT : hx_T T_tb L h) (gx : hx_g L h x 10) (zpc : Nat) (gzpc : hx_g L h zpc 100) (f_x_73 : h.2.2 x 73 = some zpc) (zpw : Nat) (gzpw : hx_g L h zpw 101) (f_x_74 : h.2.2 x 74 = some zpw) (zpk : Nat) (gzpk : hx_g L h zpk 107) (f_x_81 : h.2.2 x 81 = some zpk) (clf : Nat → Int32) (af_zpc : h.2.1 zpc = clf) (wlf : Nat → Int32) (af_zpw : h.2.1 zpw = wlf) (wsf : Nat → Int32) (af_zpk : h.2.1 zpk = wsf) (td0 : Int32) (f_x_72 : h.2.1 x 72 = td0) : Met l yX10_planned (Cond.code yX10_planned cX10_planned 3 (some .int) :: hx_all) ({ frames := 1, cells := 0, slots := 0, locals := 22 }) (va_Pc [.ref x, .int i1, .int i2] (hx_B T_tb (P_ty dA) (dC, dI) vwCl L h sz)) (va_Qi (fun (r : Int32) (u : List Nat × hx_h) => (hp_PD i1.toInt i2.toInt td0.toInt clf wlf wsf r.toInt) ∧ hx_T T_tb u.1 u.2 ∧ hx_S T_tb [] L h u.1 u.2) (hx_E T_tb (P_ty dA) (dC, dI) vwCl (hx_A L sz)) (hx_A L sz)) 0 0 (hx_A L sz) := by
  refine hx_met (lv := [(0, .ref x), (1, .int i1), (2, .int i2)]) (by decide +kernel) rfl (Nat.le_of_ble_eq_true rfl) rfl ?_
  intro p e s m below meth c hx hb hml hr hlk hts0 hown hin hsz hW ls hl
  have hts : ∀ w ∈ hx_all, w.before _ s = true := fun w hw => hts0 w (List.mem_cons_of_mem _ hw)
  have hown : s.vm.findClass "SmallCourtModel" = some m.cls := hown
  have hM : hx_S T_tb [] L h L h := hx_S.rf
  have b_td0 := hT.gi gx tt_10 (k := 72) rfl
  rw [f_x_72] at b_td0
  have b_td0 : 0 ≤ td0.toInt ∧ td0.toInt ≤ 4 := b_td0
  refine lv_iload_n hx hb dX10_planned_0 rfl (lv_at hl 1 rfl) ?_
  refine lv_iconst (v := 0) hx hb dX10_planned_1 ?o0 ?_
  case o0 => decide
  refine lv_aload_n hx hb dX10_planned_2 rfl (lv_at hl 0 rfl) ?_
  refine hk_geti hx hb hts hC_10 hown hW (gx.S hM) tt_10 72 ?o1 rfl kw_1215 ⟨rfl, rfl, rfl⟩ ((hM.o gx trivial rfl).1.trans f_x_72) dX10_planned_3 ?_
  case o1 => decide
  refine lv_iconst (v := 1) hx hb dX10_planned_6 ?o2 ?_
  case o2 => decide
  refine lv_isub hx hb dX10_planned_7 ?_
  have rg_1 := i32_r td0
  refine lv_topi (fun x_2 ex_2 => ?_)
  have zx_2 : x_2.toInt = td0.toInt - 1 := ?o3
  case o3 =>
    rw [ex_2]
    refine i32_sub rfl ?o4 ?o5 ?o6
    case o4 => decide
    case o5 => omega
    case o6 => omega
  have zc_0 : (0 : Int32).toInt = 0 := ?o7
  case o7 => decide
  refine hx_goi (hx_runS (As := [.int i1, .int (0 : Int32), .int x_2]) (rest := []) ⟨hx, hb, hml, hown, hts⟩ hW (t_X10_in l dC dI dA L h s.heap.size i1 (0 : Int32) x_2 hT) (va_cwS 3 hts (hx_gS kw_1445 kw_1443 kw_1444 kw_103) rfl rfl rfl (by decide +kernel) ⟨Nat.le_of_ble_eq_true rfl, Nat.le_of_ble_eq_true rfl⟩) rfl hl.1 rfl (Nat.le_of_ble_eq_true rfl) dX10_planned_8 ⟨Nat.le_of_ble_eq_true rfl, Nat.le_of_ble_eq_true rfl⟩) hW (fun r_5 L_3 h_4 H locs p_6 hW => ?_)
  obtain ⟨hr_7, hT, hs⟩ := p_6
  replace hT : hx_T T_tb L_3 h_4 := hT
  replace hs : hx_S T_tb [] L h L_3 h_4 := hs
  replace hM := hM.tr (hs.mono ?o8)
  case o8 => decide
  refine hb_if_ne (zx := r_5.toInt) (tgt := 16) hx hb rfl dX10_planned_11 ?o9 (fun c_8 => ?_) (fun c_8 => ?_)
  case o9 => decide
  · skip
    replace hr_7 := hr_7.resolve_left (fun z9 => c_8 z9.1)
    replace c_8 := hr_7.1
    replace hr_7 := hr_7.2
    refine lv_iload_n hx hb dX10_planned_16 rfl (lv_at hl 2 rfl) ?_
    refine hb_if_ne (zx := i2.toInt) (tgt := 29) hx hb rfl dX10_planned_17 ?o10 (fun c_9 => ?_) (fun c_9 => ?_)
    case o10 => decide
    · skip
      refine lv_iload_n hx hb dX10_planned_29 rfl (lv_at hl 2 rfl) ?_
      refine lv_iconst (v := 1) hx hb dX10_planned_30 ?o11 ?_
      case o11 => decide
      refine hb_icmp_ne (zx := i2.toInt) (zy := 1) (tgt := 43) hx hb rfl ?o12 dX10_planned_31 ?o13 (fun c_10 => ?_) (fun c_10 => ?_)
      case o12 => decide
      case o13 => decide
      · skip
        refine lv_iload_n hx hb dX10_planned_43 rfl (lv_at hl 2 rfl) ?_
        refine lv_iconst (v := 2) hx hb dX10_planned_44 ?o14 ?_
        case o14 => decide
        refine hb_icmp_ne (zx := i2.toInt) (zy := 2) (tgt := 57) hx hb rfl ?o15 dX10_planned_45 ?o16 (fun c_11 => ?_) (fun c_11 => ?_)
        case o15 => decide
        case o16 => decide
        · skip
          refine lv_iconst (v := -1) hx hb dX10_planned_57 ?o17 ?_
          case o17 => decide
          refine hx_reti hx hb hr hlk hW ⟨(Or.inr ⟨⟨?o18, ?o19⟩, Or.inr (Or.inr (Or.inr ⟨?o20, ?o21⟩))⟩), hT, hM⟩ dX10_planned_58
          case o18 => omega
          case o19 => omega
          case o20 => omega
          case o21 => decide
        · skip
          refine lv_aload_n hx hb dX10_planned_48 rfl (lv_at hl 0 rfl) ?_
          refine hk_getr hx hb hts hC_10 hown hW (gx.S hM) tt_10 81 ?o22 rfl kw_1224 ⟨rfl, rfl, rfl⟩ ((hM.o gx trivial rfl).2.trans f_x_81) dX10_planned_49 ?_
          case o22 => decide
          refine lv_iload_n hx hb dX10_planned_52 rfl (lv_at hl 1 rfl) ?_
          refine hx_iald hx hb hW hT (gzpk.S hM) tt_107 rfl ⟨?o23, ?o24⟩ dX10_planned_53 (fun x_12 ex_12 lx_12 ux_12 => ?_)
          case o23 => omega
          case o24 => omega
          have ax_12 : x_12 = wsf i1.toNatClampNeg := ex_12.trans (congrFun (hx_afS hM gzpk rfl af_zpk) _)
          refine lv_goto (tgt := 58) hx hb dX10_planned_54 ?o25 ?_
          case o25 => decide
          refine hx_reti hx hb hr hlk hW ⟨(Or.inr ⟨⟨?o26, ?o27⟩, Or.inr (Or.inr (Or.inl ⟨?o28, congrArg Int32.toInt ax_12⟩))⟩), hT, hM⟩ dX10_planned_58
          case o26 => omega
          case o27 => omega
          case o28 => omega
      · skip
        refine lv_aload_n hx hb dX10_planned_34 rfl (lv_at hl 0 rfl) ?_
        refine hk_getr hx hb hts hC_10 hown hW (gx.S hM) tt_10 74 ?o29 rfl kw_1217 ⟨rfl, rfl, rfl⟩ ((hM.o gx trivial rfl).2.trans f_x_74) dX10_planned_35 ?_
        case o29 => decide
        refine lv_iload_n hx hb dX10_planned_38 rfl (lv_at hl 1 rfl) ?_
        refine hx_iald hx hb hW hT (gzpw.S hM) tt_101 rfl ⟨?o30, ?o31⟩ dX10_planned_39 (fun x_13 ex_13 lx_13 ux_13 => ?_)
        case o30 => omega
        case o31 => omega
        have ax_13 : x_13 = wlf i1.toNatClampNeg := ex_13.trans (congrFun (hx_afS hM gzpw rfl af_zpw) _)
        refine lv_goto (tgt := 58) hx hb dX10_planned_40 ?o32 ?_
        case o32 => decide
        refine hx_reti hx hb hr hlk hW ⟨(Or.inr ⟨⟨?o33, ?o34⟩, Or.inr (Or.inl ⟨?o35, congrArg Int32.toInt ax_13⟩)⟩), hT, hM⟩ dX10_planned_58
        case o33 => omega
        case o34 => omega
        case o35 => omega
    · skip
      refine lv_aload_n hx hb dX10_planned_20 rfl (lv_at hl 0 rfl) ?_
      refine hk_getr hx hb hts hC_10 hown hW (gx.S hM) tt_10 73 ?o36 rfl kw_1216 ⟨rfl, rfl, rfl⟩ ((hM.o gx trivial rfl).2.trans f_x_73) dX10_planned_21 ?_
      case o36 => decide
      refine lv_iload_n hx hb dX10_planned_24 rfl (lv_at hl 1 rfl) ?_
      refine hx_iald hx hb hW hT (gzpc.S hM) tt_100 rfl ⟨?o37, ?o38⟩ dX10_planned_25 (fun x_14 ex_14 lx_14 ux_14 => ?_)
      case o37 => omega
      case o38 => omega
      have ax_14 : x_14 = clf i1.toNatClampNeg := ex_14.trans (congrFun (hx_afS hM gzpc rfl af_zpc) _)
      refine lv_goto (tgt := 58) hx hb dX10_planned_26 ?o39 ?_
      case o39 => decide
      refine hx_reti hx hb hr hlk hW ⟨(Or.inr ⟨⟨?o40, ?o41⟩, Or.inl ⟨?o42, congrArg Int32.toInt ax_14⟩⟩), hT, hM⟩ dX10_planned_58
      case o40 => omega
      case o41 => omega
      case o42 => omega
  · skip
    replace hr_7 := hr_7.resolve_right (fun z9 => absurd (c_8.symm.trans z9.1) ?o43)
    case o43 => decide
    replace hr_7 := hr_7.2
    refine lv_iconst (v := -1) hx hb dX10_planned_14 ?o44 ?_
    case o44 => decide
    refine hx_reti hx hb hr hlk hW ⟨(Or.inl ⟨?o45, ?o46⟩), hT, hM⟩ dX10_planned_15
    case o45 => omega
    case o46 => decide


set_option maxHeartbeats 4000000 in
set_option maxRecDepth 100000 in
theorem t_X5_init_p (l : Launch) (dC : Nat → ClassId) (dI : Nat → Nat → Nat) (dA : Nat → ClassId) (L : List Nat) (h : hx_h) (sz : Nat) (x : Nat) (hT : hx_T T_tb L h) (gx : hx_g L h x 121) (hz : ∀ j, h.2.1 x j = 0 ∧ h.2.2 x j = none) : Met l yX5_init (Cond.code yX5_init cX5_init 1 none :: hx_all) ({ frames := 1, cells := 7, slots := 28, locals := 12 }) (va_Pc [.ref x] (hx_B T_tb (P_ty dA) (dC, dI) vwCl L h sz)) (va_Qv (fun (u : List Nat × hx_h) => hx_T T_tb u.1 u.2 ∧ hx_S T_tb [(121, 2), (121, 3), (121, 4), (121, 5), (121, 6), (121, 7), (121, 8)] (hx_X L x) h u.1 u.2 ∧ hx_g u.1 u.2 x 5 ∧ u.2.2.1 x 1 = 0) (hx_E T_tb (P_ty dA) (dC, dI) vwCl (hx_A L sz)) (hx_A L sz)) 7 28 (hx_A L sz) := by
  refine hx_met (lv := [(0, .ref x)]) (by decide +kernel) rfl (Nat.le_of_ble_eq_true rfl) rfl ?_
  intro p e s m below meth c hx hb hml hr hlk hts0 hown hin hsz hW ls hl
  have hts : ∀ w ∈ hx_all, w.before _ s = true := fun w hw => hts0 w (List.mem_cons_of_mem _ hw)
  have hown : s.vm.findClass "SmallCourt$Plan" = some m.cls := hown
  have hin : meth.name = "<init>" := hin
  have hM : hx_S T_tb [(121, 2), (121, 3), (121, 4), (121, 5), (121, 6), (121, 7), (121, 8)] (hx_X L x) h L h := hx_SX_rf
  have hz : ∀ j, ([] : List Nat).contains j = false → h.2.1 x j = 0 ∧ h.2.2 x j = none := fun j _ => hz j
  refine lv_aload_n hx hb dX5_init_0 rfl (lv_at hl 0 rfl) ?_
  refine W.objInit hx hb hown (hts _ kw_257) (hts _ kw_117) (hts _ kw_118) rfl (by rw [hml]; exact hl.1) rfl dX5_init_1 (Nat.le_of_ble_eq_true rfl) (Nat.le_of_ble_eq_true rfl) ?_
  refine W.eq (g2 := F0 m 4 ls []) rfl ?_
  refine lv_aload_n hx hb dX5_init_4 rfl (lv_at hl 0 rfl) ?_
  refine lv_iconst (v := 4) hx hb dX5_init_5 ?o0 ?_
  case o0 => decide
  refine hk_newa hx hb hts hW 27 tt_27 (atype := .int) rfl kw_186 (tys := P_ty dA) (t0 := 0) rfl (fun _ => Iff.rfl) rfl (i := (4 : Int32)) ?o1 (Nat.le_of_ble_eq_true rfl) (Nat.le_of_ble_eq_true rfl) (Nat.le_of_ble_eq_true rfl) dX5_init_6 (fun q_2 H h_1 eh_1 hqq_2 hW hs gq_2 => ?_)
  case o1 => decide
  have nq_q_2 : ∀ a ∈ (hx_X L x), a ≠ q_2 := fun a ha z => hqq_2 (z ▸ (hM.1 a ha).1)
  have hT : hx_T T_tb (L ++ [q_2]) h_1 := ?o2
  case o2 =>
    rw [eh_1]
    exact hx_T_nw hT hqq_2 tt_27 rfl
  replace hz := hx_zr [] hz hs gx trivial rfl
  replace hM := hM.tr (hs.mono ?o3)
  case o3 => decide
  replace gx := gx.S hs
  refine hx_putrF hx hb hts hC_5 hown hW hT (hx_S.rf (M := [(121, 2)])) gx tt_121 2 ?o4 rfl kw_262 ⟨rfl, rfl, rfl⟩ rfl hin rfl (x := (some q_2)) ⟨fun _ z => (by cases z), fun q hq => (by cases hq; exact ⟨gq_2.1, by rw [gq_2.2]; decide⟩)⟩ rfl rfl rfl (List.mem_singleton.mpr rfl) dX5_init_8 (fun H locs h_3 eh_3 hW hT hs => ?_)
  case o4 => decide
  replace hz := hx_zr [2] hz hs gx trivial rfl
  replace hM := hM.tr (hs.mono ?o5)
  case o5 => decide
  replace gx := gx.S hs
  replace gq_2 := gq_2.S hs
  have f_4 : h_3.2.2 x 2 = (some q_2) := ?o6
  case o6 =>
    rw [eh_3]
    exact hx_pr_at _ _ _ _
  refine lv_aload_n hx hb dX5_init_11 rfl (lv_at hl 0 rfl) ?_
  refine lv_iconst (v := 4) hx hb dX5_init_12 ?o7 ?_
  case o7 => decide
  refine hk_newa hx hb hts hW 28 tt_28 (atype := .int) rfl kw_186 (tys := P_ty dA) (t0 := 0) rfl (fun _ => Iff.rfl) rfl (i := (4 : Int32)) ?o8 (Nat.le_of_ble_eq_true rfl) (Nat.le_of_ble_eq_true rfl) (Nat.le_of_ble_eq_true rfl) dX5_init_13 (fun q_6 H h_5 eh_5 hqq_6 hW hs gq_6 => ?_)
  case o8 => decide
  have nq_q_6 : ∀ a ∈ (hx_X L x), a ≠ q_6 := fun a ha z => hqq_6 (z ▸ (hM.1 a ha).1)
  have hT : hx_T T_tb ((L ++ [q_2]) ++ [q_6]) h_5 := ?o9
  case o9 =>
    rw [eh_5]
    exact hx_T_nw hT hqq_6 tt_28 rfl
  replace f_4 := (hs.o gx trivial rfl).2.trans f_4
  replace hz := hx_zr [2] hz hs gx trivial rfl
  replace hM := hM.tr (hs.mono ?o10)
  case o10 => decide
  replace gx := gx.S hs
  replace gq_2 := gq_2.S hs
  refine hx_putrF hx hb hts hC_5 hown hW hT (hx_S.rf (M := [(121, 3)])) gx tt_121 3 ?o11 rfl kw_264 ⟨rfl, rfl, rfl⟩ rfl hin rfl (x := (some q_6)) ⟨fun _ z => (by cases z), fun q hq => (by cases hq; exact ⟨gq_6.1, by rw [gq_6.2]; decide⟩)⟩ rfl rfl rfl (List.mem_singleton.mpr rfl) dX5_init_15 (fun H locs h_7 eh_7 hW hT hs => ?_)
  case o11 => decide
  replace f_4 := (hs.o gx trivial rfl).2.trans f_4
  replace hz := hx_zr [2, 3] hz hs gx trivial rfl
  replace hM := hM.tr (hs.mono ?o12)
  case o12 => decide
  replace gx := gx.S hs
  replace gq_2 := gq_2.S hs
  replace gq_6 := gq_6.S hs
  have f_8 : h_7.2.2 x 3 = (some q_6) := ?o13
  case o13 =>
    rw [eh_7]
    exact hx_pr_at _ _ _ _
  refine lv_aload_n hx hb dX5_init_18 rfl (lv_at hl 0 rfl) ?_
  refine lv_iconst (v := 4) hx hb dX5_init_19 ?o14 ?_
  case o14 => decide
  refine hk_newa hx hb hts hW 29 tt_29 (atype := .int) rfl kw_186 (tys := P_ty dA) (t0 := 0) rfl (fun _ => Iff.rfl) rfl (i := (4 : Int32)) ?o15 (Nat.le_of_ble_eq_true rfl) (Nat.le_of_ble_eq_true rfl) (Nat.le_of_ble_eq_true rfl) dX5_init_20 (fun q_10 H h_9 eh_9 hqq_10 hW hs gq_10 => ?_)
  case o15 => decide
  have nq_q_10 : ∀ a ∈ (hx_X L x), a ≠ q_10 := fun a ha z => hqq_10 (z ▸ (hM.1 a ha).1)
  have hT : hx_T T_tb (((L ++ [q_2]) ++ [q_6]) ++ [q_10]) h_9 := ?o16
  case o16 =>
    rw [eh_9]
    exact hx_T_nw hT hqq_10 tt_29 rfl
  replace f_4 := (hs.o gx trivial rfl).2.trans f_4
  replace f_8 := (hs.o gx trivial rfl).2.trans f_8
  replace hz := hx_zr [2, 3] hz hs gx trivial rfl
  replace hM := hM.tr (hs.mono ?o17)
  case o17 => decide
  replace gx := gx.S hs
  replace gq_2 := gq_2.S hs
  replace gq_6 := gq_6.S hs
  refine hx_putrF hx hb hts hC_5 hown hW hT (hx_S.rf (M := [(121, 4)])) gx tt_121 4 ?o18 rfl kw_266 ⟨rfl, rfl, rfl⟩ rfl hin rfl (x := (some q_10)) ⟨fun _ z => (by cases z), fun q hq => (by cases hq; exact ⟨gq_10.1, by rw [gq_10.2]; decide⟩)⟩ rfl rfl rfl (List.mem_singleton.mpr rfl) dX5_init_22 (fun H locs h_11 eh_11 hW hT hs => ?_)
  case o18 => decide
  replace f_4 := (hs.o gx trivial rfl).2.trans f_4
  replace f_8 := (hs.o gx trivial rfl).2.trans f_8
  replace hz := hx_zr [2, 3, 4] hz hs gx trivial rfl
  replace hM := hM.tr (hs.mono ?o19)
  case o19 => decide
  replace gx := gx.S hs
  replace gq_2 := gq_2.S hs
  replace gq_6 := gq_6.S hs
  replace gq_10 := gq_10.S hs
  have f_12 : h_11.2.2 x 4 = (some q_10) := ?o20
  case o20 =>
    rw [eh_11]
    exact hx_pr_at _ _ _ _
  refine lv_aload_n hx hb dX5_init_25 rfl (lv_at hl 0 rfl) ?_
  refine lv_iconst (v := 4) hx hb dX5_init_26 ?o21 ?_
  case o21 => decide
  refine hk_newa hx hb hts hW 30 tt_30 (atype := .int) rfl kw_186 (tys := P_ty dA) (t0 := 0) rfl (fun _ => Iff.rfl) rfl (i := (4 : Int32)) ?o22 (Nat.le_of_ble_eq_true rfl) (Nat.le_of_ble_eq_true rfl) (Nat.le_of_ble_eq_true rfl) dX5_init_27 (fun q_14 H h_13 eh_13 hqq_14 hW hs gq_14 => ?_)
  case o22 => decide
  have nq_q_14 : ∀ a ∈ (hx_X L x), a ≠ q_14 := fun a ha z => hqq_14 (z ▸ (hM.1 a ha).1)
  have hT : hx_T T_tb ((((L ++ [q_2]) ++ [q_6]) ++ [q_10]) ++ [q_14]) h_13 := ?o23
  case o23 =>
    rw [eh_13]
    exact hx_T_nw hT hqq_14 tt_30 rfl
  replace f_4 := (hs.o gx trivial rfl).2.trans f_4
  replace f_8 := (hs.o gx trivial rfl).2.trans f_8
  replace f_12 := (hs.o gx trivial rfl).2.trans f_12
  replace hz := hx_zr [2, 3, 4] hz hs gx trivial rfl
  replace hM := hM.tr (hs.mono ?o24)
  case o24 => decide
  replace gx := gx.S hs
  replace gq_2 := gq_2.S hs
  replace gq_6 := gq_6.S hs
  replace gq_10 := gq_10.S hs
  refine hx_putrF hx hb hts hC_5 hown hW hT (hx_S.rf (M := [(121, 5)])) gx tt_121 5 ?o25 rfl kw_268 ⟨rfl, rfl, rfl⟩ rfl hin rfl (x := (some q_14)) ⟨fun _ z => (by cases z), fun q hq => (by cases hq; exact ⟨gq_14.1, by rw [gq_14.2]; decide⟩)⟩ rfl rfl rfl (List.mem_singleton.mpr rfl) dX5_init_29 (fun H locs h_15 eh_15 hW hT hs => ?_)
  case o25 => decide
  replace f_4 := (hs.o gx trivial rfl).2.trans f_4
  replace f_8 := (hs.o gx trivial rfl).2.trans f_8
  replace f_12 := (hs.o gx trivial rfl).2.trans f_12
  replace hz := hx_zr [2, 3, 4, 5] hz hs gx trivial rfl
  replace hM := hM.tr (hs.mono ?o26)
  case o26 => decide
  replace gx := gx.S hs
  replace gq_2 := gq_2.S hs
  replace gq_6 := gq_6.S hs
  replace gq_10 := gq_10.S hs
  replace gq_14 := gq_14.S hs
  have f_16 : h_15.2.2 x 5 = (some q_14) := ?o27
  case o27 =>
    rw [eh_15]
    exact hx_pr_at _ _ _ _
  refine lv_aload_n hx hb dX5_init_32 rfl (lv_at hl 0 rfl) ?_
  refine lv_iconst (v := 4) hx hb dX5_init_33 ?o28 ?_
  case o28 => decide
  refine hk_newa hx hb hts hW 31 tt_31 (atype := .int) rfl kw_186 (tys := P_ty dA) (t0 := 0) rfl (fun _ => Iff.rfl) rfl (i := (4 : Int32)) ?o29 (Nat.le_of_ble_eq_true rfl) (Nat.le_of_ble_eq_true rfl) (Nat.le_of_ble_eq_true rfl) dX5_init_34 (fun q_18 H h_17 eh_17 hqq_18 hW hs gq_18 => ?_)
  case o29 => decide
  have nq_q_18 : ∀ a ∈ (hx_X L x), a ≠ q_18 := fun a ha z => hqq_18 (z ▸ (hM.1 a ha).1)
  have hT : hx_T T_tb (((((L ++ [q_2]) ++ [q_6]) ++ [q_10]) ++ [q_14]) ++ [q_18]) h_17 := ?o30
  case o30 =>
    rw [eh_17]
    exact hx_T_nw hT hqq_18 tt_31 rfl
  replace f_4 := (hs.o gx trivial rfl).2.trans f_4
  replace f_8 := (hs.o gx trivial rfl).2.trans f_8
  replace f_12 := (hs.o gx trivial rfl).2.trans f_12
  replace f_16 := (hs.o gx trivial rfl).2.trans f_16
  replace hz := hx_zr [2, 3, 4, 5] hz hs gx trivial rfl
  replace hM := hM.tr (hs.mono ?o31)
  case o31 => decide
  replace gx := gx.S hs
  replace gq_2 := gq_2.S hs
  replace gq_6 := gq_6.S hs
  replace gq_10 := gq_10.S hs
  replace gq_14 := gq_14.S hs
  refine hx_putrF hx hb hts hC_5 hown hW hT (hx_S.rf (M := [(121, 6)])) gx tt_121 6 ?o32 rfl kw_269 ⟨rfl, rfl, rfl⟩ rfl hin rfl (x := (some q_18)) ⟨fun _ z => (by cases z), fun q hq => (by cases hq; exact ⟨gq_18.1, by rw [gq_18.2]; decide⟩)⟩ rfl rfl rfl (List.mem_singleton.mpr rfl) dX5_init_36 (fun H locs h_19 eh_19 hW hT hs => ?_)
  case o32 => decide
  replace f_4 := (hs.o gx trivial rfl).2.trans f_4
  replace f_8 := (hs.o gx trivial rfl).2.trans f_8
  replace f_12 := (hs.o gx trivial rfl).2.trans f_12
  replace f_16 := (hs.o gx trivial rfl).2.trans f_16
  replace hz := hx_zr [2, 3, 4, 5, 6] hz hs gx trivial rfl
  replace hM := hM.tr (hs.mono ?o33)
  case o33 => decide
  replace gx := gx.S hs
  replace gq_2 := gq_2.S hs
  replace gq_6 := gq_6.S hs
  replace gq_10 := gq_10.S hs
  replace gq_14 := gq_14.S hs
  replace gq_18 := gq_18.S hs
  have f_20 : h_19.2.2 x 6 = (some q_18) := ?o34
  case o34 =>
    rw [eh_19]
    exact hx_pr_at _ _ _ _
  refine lv_aload_n hx hb dX5_init_39 rfl (lv_at hl 0 rfl) ?_
  refine lv_iconst (v := 4) hx hb dX5_init_40 ?o35 ?_
  case o35 => decide
  refine hk_newa hx hb hts hW 32 tt_32 (atype := .int) rfl kw_186 (tys := P_ty dA) (t0 := 0) rfl (fun _ => Iff.rfl) rfl (i := (4 : Int32)) ?o36 (Nat.le_of_ble_eq_true rfl) (Nat.le_of_ble_eq_true rfl) (Nat.le_of_ble_eq_true rfl) dX5_init_41 (fun q_22 H h_21 eh_21 hqq_22 hW hs gq_22 => ?_)
  case o36 => decide
  have nq_q_22 : ∀ a ∈ (hx_X L x), a ≠ q_22 := fun a ha z => hqq_22 (z ▸ (hM.1 a ha).1)
  have hT : hx_T T_tb ((((((L ++ [q_2]) ++ [q_6]) ++ [q_10]) ++ [q_14]) ++ [q_18]) ++ [q_22]) h_21 := ?o37
  case o37 =>
    rw [eh_21]
    exact hx_T_nw hT hqq_22 tt_32 rfl
  replace f_4 := (hs.o gx trivial rfl).2.trans f_4
  replace f_8 := (hs.o gx trivial rfl).2.trans f_8
  replace f_12 := (hs.o gx trivial rfl).2.trans f_12
  replace f_16 := (hs.o gx trivial rfl).2.trans f_16
  replace f_20 := (hs.o gx trivial rfl).2.trans f_20
  replace hz := hx_zr [2, 3, 4, 5, 6] hz hs gx trivial rfl
  replace hM := hM.tr (hs.mono ?o38)
  case o38 => decide
  replace gx := gx.S hs
  replace gq_2 := gq_2.S hs
  replace gq_6 := gq_6.S hs
  replace gq_10 := gq_10.S hs
  replace gq_14 := gq_14.S hs
  replace gq_18 := gq_18.S hs
  refine hx_putrF hx hb hts hC_5 hown hW hT (hx_S.rf (M := [(121, 7)])) gx tt_121 7 ?o39 rfl kw_270 ⟨rfl, rfl, rfl⟩ rfl hin rfl (x := (some q_22)) ⟨fun _ z => (by cases z), fun q hq => (by cases hq; exact ⟨gq_22.1, by rw [gq_22.2]; decide⟩)⟩ rfl rfl rfl (List.mem_singleton.mpr rfl) dX5_init_43 (fun H locs h_23 eh_23 hW hT hs => ?_)
  case o39 => decide
  replace f_4 := (hs.o gx trivial rfl).2.trans f_4
  replace f_8 := (hs.o gx trivial rfl).2.trans f_8
  replace f_12 := (hs.o gx trivial rfl).2.trans f_12
  replace f_16 := (hs.o gx trivial rfl).2.trans f_16
  replace f_20 := (hs.o gx trivial rfl).2.trans f_20
  replace hz := hx_zr [2, 3, 4, 5, 6, 7] hz hs gx trivial rfl
  replace hM := hM.tr (hs.mono ?o40)
  case o40 => decide
  replace gx := gx.S hs
  replace gq_2 := gq_2.S hs
  replace gq_6 := gq_6.S hs
  replace gq_10 := gq_10.S hs
  replace gq_14 := gq_14.S hs
  replace gq_18 := gq_18.S hs
  replace gq_22 := gq_22.S hs
  have f_24 : h_23.2.2 x 7 = (some q_22) := ?o41
  case o41 =>
    rw [eh_23]
    exact hx_pr_at _ _ _ _
  refine lv_aload_n hx hb dX5_init_46 rfl (lv_at hl 0 rfl) ?_
  refine lv_iconst (v := 4) hx hb dX5_init_47 ?o42 ?_
  case o42 => decide
  refine hk_newa hx hb hts hW 33 tt_33 (atype := .int) rfl kw_186 (tys := P_ty dA) (t0 := 0) rfl (fun _ => Iff.rfl) rfl (i := (4 : Int32)) ?o43 (Nat.le_of_ble_eq_true rfl) (Nat.le_of_ble_eq_true rfl) (Nat.le_of_ble_eq_true rfl) dX5_init_48 (fun q_26 H h_25 eh_25 hqq_26 hW hs gq_26 => ?_)
  case o43 => decide
  have nq_q_26 : ∀ a ∈ (hx_X L x), a ≠ q_26 := fun a ha z => hqq_26 (z ▸ (hM.1 a ha).1)
  have hT : hx_T T_tb (((((((L ++ [q_2]) ++ [q_6]) ++ [q_10]) ++ [q_14]) ++ [q_18]) ++ [q_22]) ++ [q_26]) h_25 := ?o44
  case o44 =>
    rw [eh_25]
    exact hx_T_nw hT hqq_26 tt_33 rfl
  replace f_4 := (hs.o gx trivial rfl).2.trans f_4
  replace f_8 := (hs.o gx trivial rfl).2.trans f_8
  replace f_12 := (hs.o gx trivial rfl).2.trans f_12
  replace f_16 := (hs.o gx trivial rfl).2.trans f_16
  replace f_20 := (hs.o gx trivial rfl).2.trans f_20
  replace f_24 := (hs.o gx trivial rfl).2.trans f_24
  replace hz := hx_zr [2, 3, 4, 5, 6, 7] hz hs gx trivial rfl
  replace hM := hM.tr (hs.mono ?o45)
  case o45 => decide
  replace gx := gx.S hs
  replace gq_2 := gq_2.S hs
  replace gq_6 := gq_6.S hs
  replace gq_10 := gq_10.S hs
  replace gq_14 := gq_14.S hs
  replace gq_18 := gq_18.S hs
  replace gq_22 := gq_22.S hs
  refine hx_putrF hx hb hts hC_5 hown hW hT (hx_S.rf (M := [(121, 8)])) gx tt_121 8 ?o46 rfl kw_271 ⟨rfl, rfl, rfl⟩ rfl hin rfl (x := (some q_26)) ⟨fun _ z => (by cases z), fun q hq => (by cases hq; exact ⟨gq_26.1, by rw [gq_26.2]; decide⟩)⟩ rfl rfl rfl (List.mem_singleton.mpr rfl) dX5_init_50 (fun H locs h_27 eh_27 hW hT hs => ?_)
  case o46 => decide
  replace f_4 := (hs.o gx trivial rfl).2.trans f_4
  replace f_8 := (hs.o gx trivial rfl).2.trans f_8
  replace f_12 := (hs.o gx trivial rfl).2.trans f_12
  replace f_16 := (hs.o gx trivial rfl).2.trans f_16
  replace f_20 := (hs.o gx trivial rfl).2.trans f_20
  replace f_24 := (hs.o gx trivial rfl).2.trans f_24
  replace hz := hx_zr [2, 3, 4, 5, 6, 7, 8] hz hs gx trivial rfl
  replace hM := hM.tr (hs.mono ?o47)
  case o47 => decide
  replace gx := gx.S hs
  replace gq_2 := gq_2.S hs
  replace gq_6 := gq_6.S hs
  replace gq_10 := gq_10.S hs
  replace gq_14 := gq_14.S hs
  replace gq_18 := gq_18.S hs
  replace gq_22 := gq_22.S hs
  replace gq_26 := gq_26.S hs
  have f_28 : h_27.2.2 x 8 = (some q_26) := ?o48
  case o48 =>
    rw [eh_27]
    exact hx_pr_at _ _ _ _
  have f_29 : h_27.2.1 x 1 = 0 := (hz 1 rfl).1
  have hF : hx_F (fun k f => hx_o (((((((L ++ [q_2]) ++ [q_6]) ++ [q_10]) ++ [q_14]) ++ [q_18]) ++ [q_22]) ++ [q_26]) h_27 f (h_27.2.1 x k) (h_27.2.2 x k)) T_f5 0 := ⟨hx_oi (hz 0 rfl).1 ?o49, hx_oi f_29 ?o50, hx_or f_4 gq_2 ?o51, hx_or f_8 gq_6 ?o52, hx_or f_12 gq_10 ?o53, hx_or f_16 gq_14 ?o54, hx_or f_20 gq_18 ?o55, hx_or f_24 gq_22 ?o56, hx_or f_28 gq_26 ?o57, hx_oi (hz 9 rfl).1 ?o58, hx_oi (hz 10 rfl).1 ?o59, hx_oi (hz 11 rfl).1 ?o60, hx_oi (hz 12 rfl).1 ?o61, trivial⟩
  case o49 => decide
  case o50 => decide
  case o51 => decide
  case o52 => decide
  case o53 => decide
  case o54 => decide
  case o55 => decide
  case o56 => decide
  case o57 => decide
  case o58 => decide
  case o59 => decide
  case o60 => decide
  case o61 => decide
  have hT := hx_T_rt hT gx tt_5 rfl (hx_F_all hF)
  have hW := hx_W_rt hW gx tt_121 tt_5 (fun _ _ => rfl)
  have hM := hx_SX_rt (x := x) (t := 5) hM
  have gq_2 := hx_rt_o (t := 5) gq_2 (gq_2.ne gx ?o62)
  case o62 => decide
  have gq_6 := hx_rt_o (t := 5) gq_6 (gq_6.ne gx ?o63)
  case o63 => decide
  have gq_10 := hx_rt_o (t := 5) gq_10 (gq_10.ne gx ?o64)
  case o64 => decide
  have gq_14 := hx_rt_o (t := 5) gq_14 (gq_14.ne gx ?o65)
  case o65 => decide
  have gq_18 := hx_rt_o (t := 5) gq_18 (gq_18.ne gx ?o66)
  case o66 => decide
  have gq_22 := hx_rt_o (t := 5) gq_22 (gq_22.ne gx ?o67)
  case o67 => decide
  have gq_26 := hx_rt_o (t := 5) gq_26 (gq_26.ne gx ?o68)
  case o68 => decide
  have gx := hx_rt_g (t := 5) gx
  have f_4 : (hx_rt h_27 x 5).2.2 x 2 = some q_2 := f_4
  have f_8 : (hx_rt h_27 x 5).2.2 x 3 = some q_6 := f_8
  have f_12 : (hx_rt h_27 x 5).2.2 x 4 = some q_10 := f_12
  have f_16 : (hx_rt h_27 x 5).2.2 x 5 = some q_14 := f_16
  have f_20 : (hx_rt h_27 x 5).2.2 x 6 = some q_18 := f_20
  have f_24 : (hx_rt h_27 x 5).2.2 x 7 = some q_22 := f_24
  have f_28 : (hx_rt h_27 x 5).2.2 x 8 = some q_26 := f_28
  have f_29 : (hx_rt h_27 x 5).2.1 x 1 = (0 : Int32) := f_29
  generalize eh : hx_rt h_27 x 5 = h_30 at hT hW hM gx gq_2 gq_6 gq_10 gq_14 gq_18 gq_22 gq_26 f_4 f_8 f_12 f_16 f_20 f_24 f_28 f_29
  refine W.widen (k := 7) (n := 28) (Nat.le_of_ble_eq_true rfl) (Nat.le_of_ble_eq_true rfl) ?_
  exact hx_retv hx hb hr hlk hW ⟨hT, hM, gx, f_29⟩ dX5_init_53


set_option maxHeartbeats 4000000 in
set_option maxRecDepth 100000 in
theorem t_X9_init_q (l : Launch) (dC : Nat → ClassId) (dI : Nat → Nat → Nat) (dA : Nat → ClassId) (L : List Nat) (h : hx_h) (sz : Nat) (b0 : hx_z) (x : Nat) (hT : hx_T T_tb L h) (gx : hx_g L h x 125) (hz : ∀ j, h.2.1 x j = 0 ∧ h.2.2 x j = none) : Met l yX9_init (Cond.code yX9_init cX9_init 1 none :: hx_all) ({ frames := 2, cells := 43, slots := 10614, locals := 62 }) (va_Pc [.ref x] (hx_BX T_tb (P_ty dA) (dC, dI) vwCl L h sz b0)) (va_Qv (fun (u : List Nat × hx_h) => hx_T T_tb u.1 u.2 ∧ hx_S T_tb [(11, 0), (12, 0), (116, 0), (116, 1), (116, 2), (116, 3), (116, 4), (117, 1), (117, 2), (117, 3), (117, 4), (117, 5), (117, 6), (117, 7), (119, 1), (119, 2), (119, 3), (119, 4), (119, 5), (121, 2), (121, 3), (121, 4), (121, 5), (121, 6), (121, 7), (121, 8), (122, 0), (123, 0), (123, 3), (123, 5), (123, 6), (123, 7), (124, 2), (124, 3), (124, 4), (125, 0), (125, 3), (125, 4), (125, 5), (125, 7), (125, 9), (125, 10), (125, 12), (125, 14), (125, 15), (125, 16), (125, 17), (125, 18), (125, 19)] (hx_X L x) h u.1 u.2 ∧ hx_g u.1 u.2 x 9 ∧ u.2.2.1 x 2 = 0 ∧ u.2.2.1 x 6 = 0 ∧ u.2.2.1 x 8 = 0 ∧ u.2.2.1 x 11 = 0 ∧ u.2.2.1 x 13 = 0 ∧ (∃ q, u.2.2.2 x 19 = some q ∧ hx_g u.1 u.2 q 8 ∧ u.2.2.1 q 0 = 0 ∧ u.2.2.1 q 1 = 0 ∧ ∃ w, u.2.2.2 q 3 = some w ∧ hx_g u.1 u.2 w 40 ∧ ∀ j, u.2.2.1 w j = 0 ∧ u.2.2.2 w j = none) ∧ (∃ q, u.2.2.2 x 9 = some q ∧ hx_g u.1 u.2 q 1 ∧ u.2.2.1 q 0 = 0) ∧ (∃ q, u.2.2.2 x 7 = some q ∧ hx_g u.1 u.2 q 44 ∧ ∀ j, u.2.2.1 q j = 0 ∧ u.2.2.2 q j = none) ∧ (∃ q, u.2.2.2 x 10 = some q ∧ hx_g u.1 u.2 q 45 ∧ ∀ j, u.2.2.1 q j = 0 ∧ u.2.2.2 q j = none) ∧ u.2.2.1 x 1 = 0 ∧ (∃ q, u.2.2.2 x 0 = some q ∧ hx_g u.1 u.2 q 42 ∧ ∀ j, u.2.2.1 q j = 0 ∧ u.2.2.2 q j = none) ∧ (∃ q, u.2.2.2 x 4 = some q ∧ hx_g u.1 u.2 q 0 ∧ hv_AQ u.2 q (-1) hv_A0) ∧ (∃ q, u.2.2.2 x 14 = some q ∧ hx_g u.1 u.2 q 3 ∧ u.2.2.1 q 0 = 0 ∧ ∃ w0, u.2.2.2 q 2 = some w0 ∧ hx_g u.1 u.2 w0 23 ∧ (∀ j, u.2.2.1 w0 j = 0 ∧ u.2.2.2 w0 j = none) ∧ ∃ w1, u.2.2.2 q 3 = some w1 ∧ hx_g u.1 u.2 w1 24 ∧ (∀ j, u.2.2.1 w1 j = 0 ∧ u.2.2.2 w1 j = none) ∧ ∃ w2, u.2.2.2 q 5 = some w2 ∧ hx_g u.1 u.2 w2 26 ∧ (∀ j, u.2.2.1 w2 j = 0 ∧ u.2.2.2 w2 j = none) ∧ ∃ w3, u.2.2.2 q 4 = some w3 ∧ hx_g u.1 u.2 w3 25 ∧ (∀ j, u.2.2.1 w3 j = 0 ∧ u.2.2.2 w3 j = none) ∧ ∃ w4, u.2.2.2 q 1 = some w4 ∧ hx_g u.1 u.2 w4 22 ∧ (∀ j, u.2.2.1 w4 j = 0 ∧ u.2.2.2 w4 j = none)) ∧ (∃ q, u.2.2.2 x 18 = some q ∧ hx_g u.1 u.2 q 7 ∧ u.2.2.1 q 0 = -1) ∧ (∃ q, u.2.2.2 x 17 = some q ∧ hx_g u.1 u.2 q 5 ∧ u.2.2.1 q 1 = 0 ∧ True)) (hx_E T_tb (P_ty dA) (dC, dI) vwCl (hx_A L sz)) (hx_A L sz)) 43 10614 (hx_A L sz) := by
  refine hx_metX (lv := [(0, .ref x)]) (by decide +kernel) rfl (Nat.le_of_ble_eq_true rfl) rfl ?_
  intro p e s m below meth c hx hb hml hr hlk hts0 hown hin hsz hW hZ ls hl
  have hts : ∀ w ∈ hx_all, w.before _ s = true := fun w hw => hts0 w (List.mem_cons_of_mem _ hw)
  have hown : s.vm.findClass "SmallCourt" = some m.cls := hown
  have hin : meth.name = "<init>" := hin
  have hM : hx_S T_tb [(11, 0), (12, 0), (116, 0), (116, 1), (116, 2), (116, 3), (116, 4), (117, 1), (117, 2), (117, 3), (117, 4), (117, 5), (117, 6), (117, 7), (119, 1), (119, 2), (119, 3), (119, 4), (119, 5), (121, 2), (121, 3), (121, 4), (121, 5), (121, 6), (121, 7), (121, 8), (122, 0), (123, 0), (123, 3), (123, 5), (123, 6), (123, 7), (124, 2), (124, 3), (124, 4), (125, 0), (125, 3), (125, 4), (125, 5), (125, 7), (125, 9), (125, 10), (125, 12), (125, 14), (125, 15), (125, 16), (125, 17), (125, 18), (125, 19)] (hx_X L x) h L h := hx_SX_rf
  have hz : ∀ j, ([] : List Nat).contains j = false → h.2.1 x j = 0 ∧ h.2.2 x j = none := fun j _ => hz j
  refine lv_aload_n hx hb dX9_init_0 rfl (lv_at hl 0 rfl) ?_
  refine W.objInit hx hb hown (hts _ kw_116) (hts _ kw_117) (hts _ kw_118) rfl (by rw [hml]; exact hl.1) rfl dX9_init_1 (Nat.le_of_ble_eq_true rfl) (Nat.le_of_ble_eq_true rfl) ?_
  refine W.eq (g2 := F0 m 4 ls []) rfl ?_
  refine lv_aload_n hx hb dX9_init_4 rfl (lv_at hl 0 rfl) ?_
  refine lv_sipush (v := 400) hx hb dX9_init_5 ?o0 ?_
  case o0 => decide
  refine hk_newa hx hb hts hW 42 tt_42 (atype := .byte) rfl kw_147 (tys := P_ty dA) (t0 := 1) rfl (fun _ => Iff.rfl) rfl (i := (400 : Int32)) ?o1 (Nat.le_of_ble_eq_true rfl) (Nat.le_of_ble_eq_true rfl) (Nat.le_of_ble_eq_true rfl) dX9_init_8 (fun q_2 H h_1 eh_1 hqq_2 hW hs gq_2 => ?_)
  case o1 => decide
  have nq_q_2 : ∀ a ∈ (hx_X L x), a ≠ q_2 := fun a ha z => hqq_2 (z ▸ (hM.1 a ha).1)
  have hT : hx_T T_tb (L ++ [q_2]) h_1 := ?o2
  case o2 =>
    rw [eh_1]
    exact hx_T_nw hT hqq_2 tt_42 rfl
  replace hz := hx_zr [] hz hs gx trivial rfl
  replace hM := hM.tr (hs.mono ?o3)
  case o3 => decide
  replace gx := gx.S hs
  have za_3 : ∀ j, h_1.2.1 q_2 j = 0 ∧ h_1.2.2 q_2 j = none := ?o4
  case o4 =>
    rw [eh_1]
    exact fun _ => ⟨hx_nw_i, hx_nw_r⟩
  refine hx_putrF hx hb hts hC_9 hown hW hT (hx_S.rf (M := [(125, 0)])) gx tt_125 0 ?o5 rfl kw_364 ⟨rfl, rfl, rfl⟩ rfl hin rfl (x := (some q_2)) ⟨fun _ z => (by cases z), fun q hq => (by cases hq; exact ⟨gq_2.1, by rw [gq_2.2]; decide⟩)⟩ rfl rfl rfl (List.mem_singleton.mpr rfl) dX9_init_10 (fun H locs h_4 eh_4 hW hT hs => ?_)
  case o5 => decide
  replace hz := hx_zr [0] hz hs gx trivial rfl
  replace za_3 : ∀ j, h_4.2.1 q_2 j = 0 ∧ h_4.2.2 q_2 j = none := fun j => ⟨(hs.a gq_2 rfl j).1.trans (za_3 j).1, (hs.a gq_2 rfl j).2.trans (za_3 j).2⟩
  replace hM := hM.tr (hs.mono ?o6)
  case o6 => decide
  replace gx := gx.S hs
  replace gq_2 := gq_2.S hs
  have f_5 : h_4.2.2 x 0 = (some q_2) := ?o7
  case o7 =>
    rw [eh_4]
    exact hx_pr_at _ _ _ _
  refine lv_aload_n hx hb dX9_init_13 rfl (lv_at hl 0 rfl) ?_
  refine hk_new hx hb hts hC_6 hown hW 122 tt_122 rfl ?o8 kw_119 kw_120 kw_95 (Nat.le_of_ble_eq_true rfl) (Nat.le_of_ble_eq_true rfl) dX9_init_14 (fun q_7 H h_6 eh_6 hqq_7 hW hs gq_7 => ?_)
  case o8 => decide
  have nq_q_7 : ∀ a ∈ (hx_X L x), a ≠ q_7 := fun a ha z => hqq_7 (z ▸ (hM.1 a ha).1)
  have hT : hx_T T_tb ((L ++ [q_2]) ++ [q_7]) h_6 := ?o9
  case o9 =>
    rw [eh_6]
    exact hx_T_nw hT hqq_7 tt_122 rfl
  replace f_5 := (hs.o gx trivial rfl).2.trans f_5
  replace hz := hx_zr [0] hz hs gx trivial rfl
  replace za_3 : ∀ j, h_6.2.1 q_2 j = 0 ∧ h_6.2.2 q_2 j = none := fun j => ⟨(hs.a gq_2 rfl j).1.trans (za_3 j).1, (hs.a gq_2 rfl j).2.trans (za_3 j).2⟩
  replace hM := hM.tr (hs.mono ?o10)
  case o10 => decide
  replace gx := gx.S hs
  replace gq_2 := gq_2.S hs
  have fz_8 : ∀ j, ([] : List Nat).contains j = false → h_6.2.1 q_7 j = 0 ∧ h_6.2.2 q_7 j = none := ?o11
  case o11 =>
    rw [eh_6]
    exact fun _ _ => ⟨hx_nw_i, hx_nw_r⟩
  refine lv_dup hx hb dX9_init_17 rfl ?_
  refine hx_gov (hx_runIN (As := []) (rest := [.ref q_7, .ref x]) ⟨hx, hb, hml, hown, hts⟩ hW (t_X6_init l dC dI dA ((L ++ [q_2]) ++ [q_7]) h_6 H.size q_7 hT gq_7 (fun j => fz_8 j rfl)) ⟨va_cnB 0 hts (hx_gC kw_123) rfl rfl rfl (hZ.1 _ (List.mem_of_getElem? (i := 0) rfl)) (hts _ kw_95) (by decide +kernel) ⟨Nat.le_of_ble_eq_true rfl, Nat.le_of_ble_eq_true rfl⟩, rfl, hts _ kw_122⟩ rfl hl.1 rfl (Nat.le_of_ble_eq_true rfl) dX9_init_18 ⟨Nat.le_of_ble_eq_true rfl, Nat.le_of_ble_eq_true rfl⟩) hW (fun L_9 h_10 H locs p_12 hW => ?_)
  obtain ⟨hT, hs, gNq_7⟩ := p_12
  replace hT : hx_T T_tb L_9 h_10 := hT
  replace hs : hx_S T_tb [(122, 0)] (hx_X ((L ++ [q_2]) ++ [q_7]) q_7) h_6 L_9 h_10 := hs
  have gx := hx_gX gx (gx.ne gq_7 ?o12)
  case o12 => decide
  have gq_2 := hx_gX gq_2 (gq_2.ne gq_7 ?o13)
  case o13 => decide
  replace f_5 := (hs.o gx trivial rfl).2.trans f_5
  replace hz := hx_zr [0] hz hs gx trivial rfl
  replace za_3 : ∀ j, h_10.2.1 q_2 j = 0 ∧ h_10.2.2 q_2 j = none := fun j => ⟨(hs.a gq_2 rfl j).1.trans (za_3 j).1, (hs.a gq_2 rfl j).2.trans (za_3 j).2⟩
  replace hM := hM.trX (hs.mono ?o14) nq_q_7
  case o14 => decide
  replace gx := gx.S hs
  replace gq_2 := gq_2.S hs
  have gq_7 : hx_g L_9 h_10 q_7 6 := gNq_7
  refine hx_putrF hx hb hts hC_9 hown hW hT (hx_S.rf (M := [(125, 3)])) gx tt_125 3 ?o15 rfl kw_367 ⟨rfl, rfl, rfl⟩ rfl hin rfl (x := (some q_7)) ⟨fun _ z => (by cases z), fun q hq => (by cases hq; exact ⟨gq_7.1, by rw [gq_7.2]; decide⟩)⟩ rfl rfl rfl (List.mem_singleton.mpr rfl) dX9_init_21 (fun H locs h_13 eh_13 hW hT hs => ?_)
  case o15 => decide
  replace f_5 := (hs.o gx trivial rfl).2.trans f_5
  replace hz := hx_zr [0, 3] hz hs gx trivial rfl
  replace za_3 : ∀ j, h_13.2.1 q_2 j = 0 ∧ h_13.2.2 q_2 j = none := fun j => ⟨(hs.a gq_2 rfl j).1.trans (za_3 j).1, (hs.a gq_2 rfl j).2.trans (za_3 j).2⟩
  replace hM := hM.tr (hs.mono ?o16)
  case o16 => decide
  replace gx := gx.S hs
  replace gq_2 := gq_2.S hs
  replace gq_7 := gq_7.S hs
  have f_14 : h_13.2.2 x 3 = (some q_7) := ?o17
  case o17 =>
    rw [eh_13]
    exact hx_pr_at _ _ _ _
  refine lv_aload_n hx hb dX9_init_24 rfl (lv_at hl 0 rfl) ?_
  refine hk_new hx hb hts hC_0 hown hW 116 tt_116 rfl ?o18 kw_148 kw_149 kw_96 (Nat.le_of_ble_eq_true rfl) (Nat.le_of_ble_eq_true rfl) dX9_init_25 (fun q_16 H h_15 eh_15 hqq_16 hW hs gq_16 => ?_)
  case o18 => decide
  have nq_q_16 : ∀ a ∈ (hx_X L x), a ≠ q_16 := fun a ha z => hqq_16 (z ▸ (hM.1 a ha).1)
  have hT : hx_T T_tb (L_9 ++ [q_16]) h_15 := ?o19
  case o19 =>
    rw [eh_15]
    exact hx_T_nw hT hqq_16 tt_116 rfl
  replace f_5 := (hs.o gx trivial rfl).2.trans f_5
  replace f_14 := (hs.o gx trivial rfl).2.trans f_14
  replace hz := hx_zr [0, 3] hz hs gx trivial rfl
  replace za_3 : ∀ j, h_15.2.1 q_2 j = 0 ∧ h_15.2.2 q_2 j = none := fun j => ⟨(hs.a gq_2 rfl j).1.trans (za_3 j).1, (hs.a gq_2 rfl j).2.trans (za_3 j).2⟩
  replace hM := hM.tr (hs.mono ?o20)
  case o20 => decide
  replace gx := gx.S hs
  replace gq_2 := gq_2.S hs
  replace gq_7 := gq_7.S hs
  have fz_17 : ∀ j, ([] : List Nat).contains j = false → h_15.2.1 q_16 j = 0 ∧ h_15.2.2 q_16 j = none := ?o21
  case o21 =>
    rw [eh_15]
    exact fun _ _ => ⟨hx_nw_i, hx_nw_r⟩
  refine lv_dup hx hb dX9_init_28 rfl ?_
  refine lv_iconst (v := -1) hx hb dX9_init_29 ?o22 ?_
  case o22 => decide
  refine lv_iconst (v := -1) hx hb dX9_init_30 ?o23 ?_
  case o23 => decide
  have zc_m1 : (-1 : Int32).toInt = -1 := ?o24
  case o24 => decide
  refine hx_gov (hx_runIX (As := [.int (-1 : Int32), .int (-1 : Int32)]) (rest := [.ref q_16, .ref x]) ⟨hx, hb, hml, hown, hts⟩ hW (t_X0_init_w l dC dI dA (L_9 ++ [q_16]) h_15 H.size b0 q_16 (-1 : Int32) (-1 : Int32) hT gq_16 (fun j => fz_17 j rfl) ?o25 ?o26) hZ (cwI 2 hts (hx_gC kw_152) rfl rfl rfl (hts _ kw_96) (hts _ kw_150) (hts _ kw_151) rfl (by decide +kernel) ⟨Nat.le_of_ble_eq_true rfl, Nat.le_of_ble_eq_true rfl⟩) rfl hl.1 rfl (Nat.le_of_ble_eq_true rfl) dX9_init_31 ⟨Nat.le_of_ble_eq_true rfl, Nat.le_of_ble_eq_true rfl⟩) hW (fun L_18 h_19 H locs p_21 hW => ?_)
  case o25 => decide
  case o26 => decide
  obtain ⟨hT, hs, gNq_16, po_22, po_23, po_24, po_25, po_26⟩ := p_21
  replace hT : hx_T T_tb L_18 h_19 := hT
  replace hs : hx_S T_tb [(11, 0), (12, 0), (116, 0), (116, 1), (116, 2), (116, 3), (116, 4)] (hx_X (L_9 ++ [q_16]) q_16) h_15 L_18 h_19 := hs
  have gx := hx_gX gx (gx.ne gq_16 ?o27)
  case o27 => decide
  have gq_2 := hx_gX gq_2 (gq_2.ne gq_16 ?o28)
  case o28 => decide
  have gq_7 := hx_gX gq_7 (gq_7.ne gq_16 ?o29)
  case o29 => decide
  replace f_5 := (hs.o gx trivial rfl).2.trans f_5
  replace f_14 := (hs.o gx trivial rfl).2.trans f_14
  replace hz := hx_zr [0, 3] hz hs gx trivial rfl
  replace za_3 : ∀ j, h_19.2.1 q_2 j = 0 ∧ h_19.2.2 q_2 j = none := fun j => ⟨(hs.a gq_2 rfl j).1.trans (za_3 j).1, (hs.a gq_2 rfl j).2.trans (za_3 j).2⟩
  replace hM := hM.trX (hs.mono ?o30) nq_q_16
  case o30 => decide
  replace gx := gx.S hs
  replace gq_2 := gq_2.S hs
  replace gq_7 := gq_7.S hs
  have gq_16 : hx_g L_18 h_19 q_16 0 := gNq_16
  have po_22 : h_19.2.1 q_16 0 = (-1 : Int32) := po_22
  have po_23 : h_19.2.1 q_16 1 = (-1 : Int32) := po_23
  have po_24 : h_19.2.1 q_16 4 = 3 := po_24
  obtain ⟨q_27, fq_27, gq_27, po_25⟩ := po_25
  have fq_27 : h_19.2.2 q_16 2 = some q_27 := fq_27
  have gq_27 : hx_g L_18 h_19 q_27 11 := gq_27
  obtain ⟨po_25, po_25N⟩ := po_25
  have po_25 : (∀ j, j < 14 → h_19.2.1 q_27 j = P_wo j) := po_25
  have po_25N : ∀ a ∈ hx_X (L_9 ++ [q_16]) q_16, a ≠ q_27 := po_25N
  obtain ⟨fw_28, nfw_28⟩ : ∃ g : Nat → Int32, h_19.2.1 q_27 = g := ⟨_, rfl⟩
  rw [nfw_28] at po_25
  obtain ⟨q_29, fq_29, gq_29, po_26⟩ := po_26
  have fq_29 : h_19.2.2 q_16 3 = some q_29 := fq_29
  have gq_29 : hx_g L_18 h_19 q_29 12 := gq_29
  obtain ⟨po_26, po_26N⟩ := po_26
  have po_26 : ((h_19.2.1 q_29 0).toInt = 144 ∧ (h_19.2.1 q_29 1).toInt = 17 ∧ (h_19.2.1 q_29 2).toInt = -1) := po_26
  have po_26N : ∀ a ∈ hx_X (L_9 ++ [q_16]) q_16, a ≠ q_29 := po_26N
  obtain ⟨fw_30, nfw_30⟩ : ∃ g : Nat → Int32, h_19.2.1 q_29 = g := ⟨_, rfl⟩
  rw [nfw_30] at po_26
  refine hx_putrF hx hb hts hC_9 hown hW hT (hx_S.rf (M := [(125, 4)])) gx tt_125 4 ?o31 rfl kw_368 ⟨rfl, rfl, rfl⟩ rfl hin rfl (x := (some q_16)) ⟨fun _ z => (by cases z), fun q hq => (by cases hq; exact ⟨gq_16.1, by rw [gq_16.2]; decide⟩)⟩ rfl rfl rfl (List.mem_singleton.mpr rfl) dX9_init_34 (fun H locs h_31 eh_31 hW hT hs => ?_)
  case o31 => decide
  replace f_5 := (hs.o gx trivial rfl).2.trans f_5
  replace f_14 := (hs.o gx trivial rfl).2.trans f_14
  replace po_22 := (hs.o gq_16 trivial rfl).1.trans po_22
  replace po_23 := (hs.o gq_16 trivial rfl).1.trans po_23
  replace po_24 := (hs.o gq_16 trivial rfl).1.trans po_24
  replace fq_27 := (hs.o gq_16 trivial rfl).2.trans fq_27
  replace fq_29 := (hs.o gq_16 trivial rfl).2.trans fq_29
  replace hz := hx_zr [0, 3, 4] hz hs gx trivial rfl
  replace za_3 : ∀ j, h_31.2.1 q_2 j = 0 ∧ h_31.2.2 q_2 j = none := fun j => ⟨(hs.a gq_2 rfl j).1.trans (za_3 j).1, (hs.a gq_2 rfl j).2.trans (za_3 j).2⟩
  replace nfw_28 : h_31.2.1 q_27 = fw_28 := (funext fun j => (hs.a gq_27 rfl j).1).trans nfw_28
  replace nfw_30 : h_31.2.1 q_29 = fw_30 := (funext fun j => (hs.a gq_29 rfl j).1).trans nfw_30
  replace hM := hM.tr (hs.mono ?o32)
  case o32 => decide
  replace gx := gx.S hs
  replace gq_2 := gq_2.S hs
  replace gq_7 := gq_7.S hs
  replace gq_16 := gq_16.S hs
  replace gq_27 := gq_27.S hs
  replace gq_29 := gq_29.S hs
  have f_32 : h_31.2.2 x 4 = (some q_16) := ?o33
  case o33 =>
    rw [eh_31]
    exact hx_pr_at _ _ _ _
  refine lv_aload_n hx hb dX9_init_37 rfl (lv_at hl 0 rfl) ?_
  refine lv_bipush (v := 8) hx hb dX9_init_38 ?o34 ?_
  case o34 => decide
  refine hk_newqX hx hb hts hown hW 43 tt_43 kw_148 hZ.2.1.1 (tys := P_ty dA) (t0 := 4) rfl (i := (8 : Int32)) ?o35 (Nat.le_of_ble_eq_true rfl) (Nat.le_of_ble_eq_true rfl) (Nat.le_of_ble_eq_true rfl) dX9_init_40 (fun q_34 H h_33 eh_33 hqq_34 hW hs gq_34 => ?_)
  case o35 => decide
  have nq_q_34 : ∀ a ∈ (hx_X L x), a ≠ q_34 := fun a ha z => hqq_34 (z ▸ (hM.1 a ha).1)
  have hT : hx_T T_tb (L_18 ++ [q_34]) h_33 := ?o36
  case o36 =>
    rw [eh_33]
    exact hx_T_nw hT hqq_34 tt_43 rfl
  replace f_5 := (hs.o gx trivial rfl).2.trans f_5
  replace f_14 := (hs.o gx trivial rfl).2.trans f_14
  replace po_22 := (hs.o gq_16 trivial rfl).1.trans po_22
  replace po_23 := (hs.o gq_16 trivial rfl).1.trans po_23
  replace po_24 := (hs.o gq_16 trivial rfl).1.trans po_24
  replace fq_27 := (hs.o gq_16 trivial rfl).2.trans fq_27
  replace fq_29 := (hs.o gq_16 trivial rfl).2.trans fq_29
  replace f_32 := (hs.o gx trivial rfl).2.trans f_32
  replace hz := hx_zr [0, 3, 4] hz hs gx trivial rfl
  replace za_3 : ∀ j, h_33.2.1 q_2 j = 0 ∧ h_33.2.2 q_2 j = none := fun j => ⟨(hs.a gq_2 rfl j).1.trans (za_3 j).1, (hs.a gq_2 rfl j).2.trans (za_3 j).2⟩
  replace nfw_28 : h_33.2.1 q_27 = fw_28 := (funext fun j => (hs.a gq_27 rfl j).1).trans nfw_28
  replace nfw_30 : h_33.2.1 q_29 = fw_30 := (funext fun j => (hs.a gq_29 rfl j).1).trans nfw_30
  replace hM := hM.tr (hs.mono ?o37)
  case o37 => decide
  replace gx := gx.S hs
  replace gq_2 := gq_2.S hs
  replace gq_7 := gq_7.S hs
  replace gq_16 := gq_16.S hs
  replace gq_27 := gq_27.S hs
  replace gq_29 := gq_29.S hs
  refine hx_putrF hx hb hts hC_9 hown hW hT (hx_S.rf (M := [(125, 5)])) gx tt_125 5 ?o38 rfl kw_369 ⟨rfl, rfl, rfl⟩ rfl hin rfl (x := (some q_34)) ⟨fun _ z => (by cases z), fun q hq => (by cases hq; exact ⟨gq_34.1, by rw [gq_34.2]; decide⟩)⟩ rfl rfl rfl (List.mem_singleton.mpr rfl) dX9_init_43 (fun H locs h_35 eh_35 hW hT hs => ?_)
  case o38 => decide
  replace f_5 := (hs.o gx trivial rfl).2.trans f_5
  replace f_14 := (hs.o gx trivial rfl).2.trans f_14
  replace po_22 := (hs.o gq_16 trivial rfl).1.trans po_22
  replace po_23 := (hs.o gq_16 trivial rfl).1.trans po_23
  replace po_24 := (hs.o gq_16 trivial rfl).1.trans po_24
  replace fq_27 := (hs.o gq_16 trivial rfl).2.trans fq_27
  replace fq_29 := (hs.o gq_16 trivial rfl).2.trans fq_29
  replace f_32 := (hs.o gx trivial rfl).2.trans f_32
  replace hz := hx_zr [0, 3, 4, 5] hz hs gx trivial rfl
  replace za_3 : ∀ j, h_35.2.1 q_2 j = 0 ∧ h_35.2.2 q_2 j = none := fun j => ⟨(hs.a gq_2 rfl j).1.trans (za_3 j).1, (hs.a gq_2 rfl j).2.trans (za_3 j).2⟩
  replace nfw_28 : h_35.2.1 q_27 = fw_28 := (funext fun j => (hs.a gq_27 rfl j).1).trans nfw_28
  replace nfw_30 : h_35.2.1 q_29 = fw_30 := (funext fun j => (hs.a gq_29 rfl j).1).trans nfw_30
  replace hM := hM.tr (hs.mono ?o39)
  case o39 => decide
  replace gx := gx.S hs
  replace gq_2 := gq_2.S hs
  replace gq_7 := gq_7.S hs
  replace gq_16 := gq_16.S hs
  replace gq_27 := gq_27.S hs
  replace gq_29 := gq_29.S hs
  replace gq_34 := gq_34.S hs
  have f_36 : h_35.2.2 x 5 = (some q_34) := ?o40
  case o40 =>
    rw [eh_35]
    exact hx_pr_at _ _ _ _
  refine lv_aload_n hx hb dX9_init_46 rfl (lv_at hl 0 rfl) ?_
  refine lv_bipush (v := 40) hx hb dX9_init_47 ?o41 ?_
  case o41 => decide
  refine hk_newqX hx hb hts hown hW 44 tt_44 kw_188 hZ.2.1.2.1 (tys := P_ty dA) (t0 := 5) rfl (i := (40 : Int32)) ?o42 (Nat.le_of_ble_eq_true rfl) (Nat.le_of_ble_eq_true rfl) (Nat.le_of_ble_eq_true rfl) dX9_init_49 (fun q_38 H h_37 eh_37 hqq_38 hW hs gq_38 => ?_)
  case o42 => decide
  have nq_q_38 : ∀ a ∈ (hx_X L x), a ≠ q_38 := fun a ha z => hqq_38 (z ▸ (hM.1 a ha).1)
  have hT : hx_T T_tb ((L_18 ++ [q_34]) ++ [q_38]) h_37 := ?o43
  case o43 =>
    rw [eh_37]
    exact hx_T_nw hT hqq_38 tt_44 rfl
  replace f_5 := (hs.o gx trivial rfl).2.trans f_5
  replace f_14 := (hs.o gx trivial rfl).2.trans f_14
  replace po_22 := (hs.o gq_16 trivial rfl).1.trans po_22
  replace po_23 := (hs.o gq_16 trivial rfl).1.trans po_23
  replace po_24 := (hs.o gq_16 trivial rfl).1.trans po_24
  replace fq_27 := (hs.o gq_16 trivial rfl).2.trans fq_27
  replace fq_29 := (hs.o gq_16 trivial rfl).2.trans fq_29
  replace f_32 := (hs.o gx trivial rfl).2.trans f_32
  replace f_36 := (hs.o gx trivial rfl).2.trans f_36
  replace hz := hx_zr [0, 3, 4, 5] hz hs gx trivial rfl
  replace za_3 : ∀ j, h_37.2.1 q_2 j = 0 ∧ h_37.2.2 q_2 j = none := fun j => ⟨(hs.a gq_2 rfl j).1.trans (za_3 j).1, (hs.a gq_2 rfl j).2.trans (za_3 j).2⟩
  replace nfw_28 : h_37.2.1 q_27 = fw_28 := (funext fun j => (hs.a gq_27 rfl j).1).trans nfw_28
  replace nfw_30 : h_37.2.1 q_29 = fw_30 := (funext fun j => (hs.a gq_29 rfl j).1).trans nfw_30
  replace hM := hM.tr (hs.mono ?o44)
  case o44 => decide
  replace gx := gx.S hs
  replace gq_2 := gq_2.S hs
  replace gq_7 := gq_7.S hs
  replace gq_16 := gq_16.S hs
  replace gq_27 := gq_27.S hs
  replace gq_29 := gq_29.S hs
  replace gq_34 := gq_34.S hs
  have za_39 : ∀ j, h_37.2.1 q_38 j = 0 ∧ h_37.2.2 q_38 j = none := ?o45
  case o45 =>
    rw [eh_37]
    exact fun _ => ⟨hx_nw_i, hx_nw_r⟩
  refine hx_putrF hx hb hts hC_9 hown hW hT (hx_S.rf (M := [(125, 7)])) gx tt_125 7 ?o46 rfl kw_371 ⟨rfl, rfl, rfl⟩ rfl hin rfl (x := (some q_38)) ⟨fun _ z => (by cases z), fun q hq => (by cases hq; exact ⟨gq_38.1, by rw [gq_38.2]; decide⟩)⟩ rfl rfl rfl (List.mem_singleton.mpr rfl) dX9_init_52 (fun H locs h_40 eh_40 hW hT hs => ?_)
  case o46 => decide
  replace f_5 := (hs.o gx trivial rfl).2.trans f_5
  replace f_14 := (hs.o gx trivial rfl).2.trans f_14
  replace po_22 := (hs.o gq_16 trivial rfl).1.trans po_22
  replace po_23 := (hs.o gq_16 trivial rfl).1.trans po_23
  replace po_24 := (hs.o gq_16 trivial rfl).1.trans po_24
  replace fq_27 := (hs.o gq_16 trivial rfl).2.trans fq_27
  replace fq_29 := (hs.o gq_16 trivial rfl).2.trans fq_29
  replace f_32 := (hs.o gx trivial rfl).2.trans f_32
  replace f_36 := (hs.o gx trivial rfl).2.trans f_36
  replace hz := hx_zr [0, 3, 4, 5, 7] hz hs gx trivial rfl
  replace za_3 : ∀ j, h_40.2.1 q_2 j = 0 ∧ h_40.2.2 q_2 j = none := fun j => ⟨(hs.a gq_2 rfl j).1.trans (za_3 j).1, (hs.a gq_2 rfl j).2.trans (za_3 j).2⟩
  replace za_39 : ∀ j, h_40.2.1 q_38 j = 0 ∧ h_40.2.2 q_38 j = none := fun j => ⟨(hs.a gq_38 rfl j).1.trans (za_39 j).1, (hs.a gq_38 rfl j).2.trans (za_39 j).2⟩
  replace nfw_28 : h_40.2.1 q_27 = fw_28 := (funext fun j => (hs.a gq_27 rfl j).1).trans nfw_28
  replace nfw_30 : h_40.2.1 q_29 = fw_30 := (funext fun j => (hs.a gq_29 rfl j).1).trans nfw_30
  replace hM := hM.tr (hs.mono ?o47)
  case o47 => decide
  replace gx := gx.S hs
  replace gq_2 := gq_2.S hs
  replace gq_7 := gq_7.S hs
  replace gq_16 := gq_16.S hs
  replace gq_27 := gq_27.S hs
  replace gq_29 := gq_29.S hs
  replace gq_34 := gq_34.S hs
  replace gq_38 := gq_38.S hs
  have f_41 : h_40.2.2 x 7 = (some q_38) := ?o48
  case o48 =>
    rw [eh_40]
    exact hx_pr_at _ _ _ _
  refine lv_aload_n hx hb dX9_init_55 rfl (lv_at hl 0 rfl) ?_
  refine hk_new hx hb hts hC_1 hown hW 117 tt_117 rfl ?o49 kw_190 kw_191 kw_98 (Nat.le_of_ble_eq_true rfl) (Nat.le_of_ble_eq_true rfl) dX9_init_56 (fun q_43 H h_42 eh_42 hqq_43 hW hs gq_43 => ?_)
  case o49 => decide
  have nq_q_43 : ∀ a ∈ (hx_X L x), a ≠ q_43 := fun a ha z => hqq_43 (z ▸ (hM.1 a ha).1)
  have hT : hx_T T_tb (((L_18 ++ [q_34]) ++ [q_38]) ++ [q_43]) h_42 := ?o50
  case o50 =>
    rw [eh_42]
    exact hx_T_nw hT hqq_43 tt_117 rfl
  replace f_5 := (hs.o gx trivial rfl).2.trans f_5
  replace f_14 := (hs.o gx trivial rfl).2.trans f_14
  replace po_22 := (hs.o gq_16 trivial rfl).1.trans po_22
  replace po_23 := (hs.o gq_16 trivial rfl).1.trans po_23
  replace po_24 := (hs.o gq_16 trivial rfl).1.trans po_24
  replace fq_27 := (hs.o gq_16 trivial rfl).2.trans fq_27
  replace fq_29 := (hs.o gq_16 trivial rfl).2.trans fq_29
  replace f_32 := (hs.o gx trivial rfl).2.trans f_32
  replace f_36 := (hs.o gx trivial rfl).2.trans f_36
  replace f_41 := (hs.o gx trivial rfl).2.trans f_41
  replace hz := hx_zr [0, 3, 4, 5, 7] hz hs gx trivial rfl
  replace za_3 : ∀ j, h_42.2.1 q_2 j = 0 ∧ h_42.2.2 q_2 j = none := fun j => ⟨(hs.a gq_2 rfl j).1.trans (za_3 j).1, (hs.a gq_2 rfl j).2.trans (za_3 j).2⟩
  replace za_39 : ∀ j, h_42.2.1 q_38 j = 0 ∧ h_42.2.2 q_38 j = none := fun j => ⟨(hs.a gq_38 rfl j).1.trans (za_39 j).1, (hs.a gq_38 rfl j).2.trans (za_39 j).2⟩
  replace nfw_28 : h_42.2.1 q_27 = fw_28 := (funext fun j => (hs.a gq_27 rfl j).1).trans nfw_28
  replace nfw_30 : h_42.2.1 q_29 = fw_30 := (funext fun j => (hs.a gq_29 rfl j).1).trans nfw_30
  replace hM := hM.tr (hs.mono ?o51)
  case o51 => decide
  replace gx := gx.S hs
  replace gq_2 := gq_2.S hs
  replace gq_7 := gq_7.S hs
  replace gq_16 := gq_16.S hs
  replace gq_27 := gq_27.S hs
  replace gq_29 := gq_29.S hs
  replace gq_34 := gq_34.S hs
  replace gq_38 := gq_38.S hs
  have fz_44 : ∀ j, ([] : List Nat).contains j = false → h_42.2.1 q_43 j = 0 ∧ h_42.2.2 q_43 j = none := ?o52
  case o52 =>
    rw [eh_42]
    exact fun _ _ => ⟨hx_nw_i, hx_nw_r⟩
  refine lv_dup hx hb dX9_init_59 rfl ?_
  refine hx_gov (hx_runIN (As := []) (rest := [.ref q_43, .ref x]) ⟨hx, hb, hml, hown, hts⟩ hW (t_X1_init l dC dI dA (((L_18 ++ [q_34]) ++ [q_38]) ++ [q_43]) h_42 H.size q_43 hT gq_43 (fun j => fz_44 j rfl)) ⟨va_cnB 0 hts (hx_gC kw_194) rfl rfl rfl (hZ.1 _ (List.mem_of_getElem? (i := 2) rfl)) (hts _ kw_98) (by decide +kernel) ⟨Nat.le_of_ble_eq_true rfl, Nat.le_of_ble_eq_true rfl⟩, rfl, hts _ kw_193⟩ rfl hl.1 rfl (Nat.le_of_ble_eq_true rfl) dX9_init_60 ⟨Nat.le_of_ble_eq_true rfl, Nat.le_of_ble_eq_true rfl⟩) hW (fun L_45 h_46 H locs p_48 hW => ?_)
  obtain ⟨hT, hs, gNq_43, po_49⟩ := p_48
  replace hT : hx_T T_tb L_45 h_46 := hT
  replace hs : hx_S T_tb [(117, 1), (117, 2), (117, 3), (117, 4), (117, 5), (117, 6), (117, 7)] (hx_X (((L_18 ++ [q_34]) ++ [q_38]) ++ [q_43]) q_43) h_42 L_45 h_46 := hs
  have gx := hx_gX gx (gx.ne gq_43 ?o53)
  case o53 => decide
  have gq_2 := hx_gX gq_2 (gq_2.ne gq_43 ?o54)
  case o54 => decide
  have gq_7 := hx_gX gq_7 (gq_7.ne gq_43 ?o55)
  case o55 => decide
  have gq_16 := hx_gX gq_16 (gq_16.ne gq_43 ?o56)
  case o56 => decide
  have gq_27 := hx_gX gq_27 (gq_27.ne gq_43 ?o57)
  case o57 => decide
  have gq_29 := hx_gX gq_29 (gq_29.ne gq_43 ?o58)
  case o58 => decide
  have gq_34 := hx_gX gq_34 (gq_34.ne gq_43 ?o59)
  case o59 => decide
  have gq_38 := hx_gX gq_38 (gq_38.ne gq_43 ?o60)
  case o60 => decide
  replace f_5 := (hs.o gx trivial rfl).2.trans f_5
  replace f_14 := (hs.o gx trivial rfl).2.trans f_14
  replace po_22 := (hs.o gq_16 trivial rfl).1.trans po_22
  replace po_23 := (hs.o gq_16 trivial rfl).1.trans po_23
  replace po_24 := (hs.o gq_16 trivial rfl).1.trans po_24
  replace fq_27 := (hs.o gq_16 trivial rfl).2.trans fq_27
  replace fq_29 := (hs.o gq_16 trivial rfl).2.trans fq_29
  replace f_32 := (hs.o gx trivial rfl).2.trans f_32
  replace f_36 := (hs.o gx trivial rfl).2.trans f_36
  replace f_41 := (hs.o gx trivial rfl).2.trans f_41
  replace hz := hx_zr [0, 3, 4, 5, 7] hz hs gx trivial rfl
  replace za_3 : ∀ j, h_46.2.1 q_2 j = 0 ∧ h_46.2.2 q_2 j = none := fun j => ⟨(hs.a gq_2 rfl j).1.trans (za_3 j).1, (hs.a gq_2 rfl j).2.trans (za_3 j).2⟩
  replace za_39 : ∀ j, h_46.2.1 q_38 j = 0 ∧ h_46.2.2 q_38 j = none := fun j => ⟨(hs.a gq_38 rfl j).1.trans (za_39 j).1, (hs.a gq_38 rfl j).2.trans (za_39 j).2⟩
  replace nfw_28 : h_46.2.1 q_27 = fw_28 := (funext fun j => (hs.a gq_27 rfl j).1).trans nfw_28
  replace nfw_30 : h_46.2.1 q_29 = fw_30 := (funext fun j => (hs.a gq_29 rfl j).1).trans nfw_30
  replace hM := hM.trX (hs.mono ?o61) nq_q_43
  case o61 => decide
  replace gx := gx.S hs
  replace gq_2 := gq_2.S hs
  replace gq_7 := gq_7.S hs
  replace gq_16 := gq_16.S hs
  replace gq_27 := gq_27.S hs
  replace gq_29 := gq_29.S hs
  replace gq_34 := gq_34.S hs
  replace gq_38 := gq_38.S hs
  have gq_43 : hx_g L_45 h_46 q_43 1 := gNq_43
  have po_49 : h_46.2.1 q_43 0 = 0 := po_49
  refine hx_putrF hx hb hts hC_9 hown hW hT (hx_S.rf (M := [(125, 9)])) gx tt_125 9 ?o62 rfl kw_373 ⟨rfl, rfl, rfl⟩ rfl hin rfl (x := (some q_43)) ⟨fun _ z => (by cases z), fun q hq => (by cases hq; exact ⟨gq_43.1, by rw [gq_43.2]; decide⟩)⟩ rfl rfl rfl (List.mem_singleton.mpr rfl) dX9_init_63 (fun H locs h_50 eh_50 hW hT hs => ?_)
  case o62 => decide
  replace f_5 := (hs.o gx trivial rfl).2.trans f_5
  replace f_14 := (hs.o gx trivial rfl).2.trans f_14
  replace po_22 := (hs.o gq_16 trivial rfl).1.trans po_22
  replace po_23 := (hs.o gq_16 trivial rfl).1.trans po_23
  replace po_24 := (hs.o gq_16 trivial rfl).1.trans po_24
  replace fq_27 := (hs.o gq_16 trivial rfl).2.trans fq_27
  replace fq_29 := (hs.o gq_16 trivial rfl).2.trans fq_29
  replace f_32 := (hs.o gx trivial rfl).2.trans f_32
  replace f_36 := (hs.o gx trivial rfl).2.trans f_36
  replace f_41 := (hs.o gx trivial rfl).2.trans f_41
  replace po_49 := (hs.o gq_43 trivial rfl).1.trans po_49
  replace hz := hx_zr [0, 3, 4, 5, 7, 9] hz hs gx trivial rfl
  replace za_3 : ∀ j, h_50.2.1 q_2 j = 0 ∧ h_50.2.2 q_2 j = none := fun j => ⟨(hs.a gq_2 rfl j).1.trans (za_3 j).1, (hs.a gq_2 rfl j).2.trans (za_3 j).2⟩
  replace za_39 : ∀ j, h_50.2.1 q_38 j = 0 ∧ h_50.2.2 q_38 j = none := fun j => ⟨(hs.a gq_38 rfl j).1.trans (za_39 j).1, (hs.a gq_38 rfl j).2.trans (za_39 j).2⟩
  replace nfw_28 : h_50.2.1 q_27 = fw_28 := (funext fun j => (hs.a gq_27 rfl j).1).trans nfw_28
  replace nfw_30 : h_50.2.1 q_29 = fw_30 := (funext fun j => (hs.a gq_29 rfl j).1).trans nfw_30
  replace hM := hM.tr (hs.mono ?o63)
  case o63 => decide
  replace gx := gx.S hs
  replace gq_2 := gq_2.S hs
  replace gq_7 := gq_7.S hs
  replace gq_16 := gq_16.S hs
  replace gq_27 := gq_27.S hs
  replace gq_29 := gq_29.S hs
  replace gq_34 := gq_34.S hs
  replace gq_38 := gq_38.S hs
  replace gq_43 := gq_43.S hs
  have f_51 : h_50.2.2 x 9 = (some q_43) := ?o64
  case o64 =>
    rw [eh_50]
    exact hx_pr_at _ _ _ _
  refine lv_aload_n hx hb dX9_init_66 rfl (lv_at hl 0 rfl) ?_
  refine lv_bipush (v := 100) hx hb dX9_init_67 ?o65 ?_
  case o65 => decide
  refine hk_newqX hx hb hts hown hW 45 tt_45 kw_223 hZ.2.1.2.2 (tys := P_ty dA) (t0 := 6) rfl (i := (100 : Int32)) ?o66 (Nat.le_of_ble_eq_true rfl) (Nat.le_of_ble_eq_true rfl) (Nat.le_of_ble_eq_true rfl) dX9_init_69 (fun q_53 H h_52 eh_52 hqq_53 hW hs gq_53 => ?_)
  case o66 => decide
  have nq_q_53 : ∀ a ∈ (hx_X L x), a ≠ q_53 := fun a ha z => hqq_53 (z ▸ (hM.1 a ha).1)
  have hT : hx_T T_tb (L_45 ++ [q_53]) h_52 := ?o67
  case o67 =>
    rw [eh_52]
    exact hx_T_nw hT hqq_53 tt_45 rfl
  replace f_5 := (hs.o gx trivial rfl).2.trans f_5
  replace f_14 := (hs.o gx trivial rfl).2.trans f_14
  replace po_22 := (hs.o gq_16 trivial rfl).1.trans po_22
  replace po_23 := (hs.o gq_16 trivial rfl).1.trans po_23
  replace po_24 := (hs.o gq_16 trivial rfl).1.trans po_24
  replace fq_27 := (hs.o gq_16 trivial rfl).2.trans fq_27
  replace fq_29 := (hs.o gq_16 trivial rfl).2.trans fq_29
  replace f_32 := (hs.o gx trivial rfl).2.trans f_32
  replace f_36 := (hs.o gx trivial rfl).2.trans f_36
  replace f_41 := (hs.o gx trivial rfl).2.trans f_41
  replace po_49 := (hs.o gq_43 trivial rfl).1.trans po_49
  replace f_51 := (hs.o gx trivial rfl).2.trans f_51
  replace hz := hx_zr [0, 3, 4, 5, 7, 9] hz hs gx trivial rfl
  replace za_3 : ∀ j, h_52.2.1 q_2 j = 0 ∧ h_52.2.2 q_2 j = none := fun j => ⟨(hs.a gq_2 rfl j).1.trans (za_3 j).1, (hs.a gq_2 rfl j).2.trans (za_3 j).2⟩
  replace za_39 : ∀ j, h_52.2.1 q_38 j = 0 ∧ h_52.2.2 q_38 j = none := fun j => ⟨(hs.a gq_38 rfl j).1.trans (za_39 j).1, (hs.a gq_38 rfl j).2.trans (za_39 j).2⟩
  replace nfw_28 : h_52.2.1 q_27 = fw_28 := (funext fun j => (hs.a gq_27 rfl j).1).trans nfw_28
  replace nfw_30 : h_52.2.1 q_29 = fw_30 := (funext fun j => (hs.a gq_29 rfl j).1).trans nfw_30
  replace hM := hM.tr (hs.mono ?o68)
  case o68 => decide
  replace gx := gx.S hs
  replace gq_2 := gq_2.S hs
  replace gq_7 := gq_7.S hs
  replace gq_16 := gq_16.S hs
  replace gq_27 := gq_27.S hs
  replace gq_29 := gq_29.S hs
  replace gq_34 := gq_34.S hs
  replace gq_38 := gq_38.S hs
  replace gq_43 := gq_43.S hs
  have za_54 : ∀ j, h_52.2.1 q_53 j = 0 ∧ h_52.2.2 q_53 j = none := ?o69
  case o69 =>
    rw [eh_52]
    exact fun _ => ⟨hx_nw_i, hx_nw_r⟩
  refine hx_putrF hx hb hts hC_9 hown hW hT (hx_S.rf (M := [(125, 10)])) gx tt_125 10 ?o70 rfl kw_374 ⟨rfl, rfl, rfl⟩ rfl hin rfl (x := (some q_53)) ⟨fun _ z => (by cases z), fun q hq => (by cases hq; exact ⟨gq_53.1, by rw [gq_53.2]; decide⟩)⟩ rfl rfl rfl (List.mem_singleton.mpr rfl) dX9_init_72 (fun H locs h_55 eh_55 hW hT hs => ?_)
  case o70 => decide
  replace f_5 := (hs.o gx trivial rfl).2.trans f_5
  replace f_14 := (hs.o gx trivial rfl).2.trans f_14
  replace po_22 := (hs.o gq_16 trivial rfl).1.trans po_22
  replace po_23 := (hs.o gq_16 trivial rfl).1.trans po_23
  replace po_24 := (hs.o gq_16 trivial rfl).1.trans po_24
  replace fq_27 := (hs.o gq_16 trivial rfl).2.trans fq_27
  replace fq_29 := (hs.o gq_16 trivial rfl).2.trans fq_29
  replace f_32 := (hs.o gx trivial rfl).2.trans f_32
  replace f_36 := (hs.o gx trivial rfl).2.trans f_36
  replace f_41 := (hs.o gx trivial rfl).2.trans f_41
  replace po_49 := (hs.o gq_43 trivial rfl).1.trans po_49
  replace f_51 := (hs.o gx trivial rfl).2.trans f_51
  replace hz := hx_zr [0, 3, 4, 5, 7, 9, 10] hz hs gx trivial rfl
  replace za_3 : ∀ j, h_55.2.1 q_2 j = 0 ∧ h_55.2.2 q_2 j = none := fun j => ⟨(hs.a gq_2 rfl j).1.trans (za_3 j).1, (hs.a gq_2 rfl j).2.trans (za_3 j).2⟩
  replace za_39 : ∀ j, h_55.2.1 q_38 j = 0 ∧ h_55.2.2 q_38 j = none := fun j => ⟨(hs.a gq_38 rfl j).1.trans (za_39 j).1, (hs.a gq_38 rfl j).2.trans (za_39 j).2⟩
  replace za_54 : ∀ j, h_55.2.1 q_53 j = 0 ∧ h_55.2.2 q_53 j = none := fun j => ⟨(hs.a gq_53 rfl j).1.trans (za_54 j).1, (hs.a gq_53 rfl j).2.trans (za_54 j).2⟩
  replace nfw_28 : h_55.2.1 q_27 = fw_28 := (funext fun j => (hs.a gq_27 rfl j).1).trans nfw_28
  replace nfw_30 : h_55.2.1 q_29 = fw_30 := (funext fun j => (hs.a gq_29 rfl j).1).trans nfw_30
  replace hM := hM.tr (hs.mono ?o71)
  case o71 => decide
  replace gx := gx.S hs
  replace gq_2 := gq_2.S hs
  replace gq_7 := gq_7.S hs
  replace gq_16 := gq_16.S hs
  replace gq_27 := gq_27.S hs
  replace gq_29 := gq_29.S hs
  replace gq_34 := gq_34.S hs
  replace gq_38 := gq_38.S hs
  replace gq_43 := gq_43.S hs
  replace gq_53 := gq_53.S hs
  have f_56 : h_55.2.2 x 10 = (some q_53) := ?o72
  case o72 =>
    rw [eh_55]
    exact hx_pr_at _ _ _ _
  refine lv_aload_n hx hb dX9_init_75 rfl (lv_at hl 0 rfl) ?_
  refine lv_bipush (v := 100) hx hb dX9_init_76 ?o73 ?_
  case o73 => decide
  refine hk_newqX hx hb hts hown hW 46 tt_46 kw_223 hZ.2.1.2.2 (tys := P_ty dA) (t0 := 6) rfl (i := (100 : Int32)) ?o74 (Nat.le_of_ble_eq_true rfl) (Nat.le_of_ble_eq_true rfl) (Nat.le_of_ble_eq_true rfl) dX9_init_78 (fun q_58 H h_57 eh_57 hqq_58 hW hs gq_58 => ?_)
  case o74 => decide
  have nq_q_58 : ∀ a ∈ (hx_X L x), a ≠ q_58 := fun a ha z => hqq_58 (z ▸ (hM.1 a ha).1)
  have hT : hx_T T_tb ((L_45 ++ [q_53]) ++ [q_58]) h_57 := ?o75
  case o75 =>
    rw [eh_57]
    exact hx_T_nw hT hqq_58 tt_46 rfl
  replace f_5 := (hs.o gx trivial rfl).2.trans f_5
  replace f_14 := (hs.o gx trivial rfl).2.trans f_14
  replace po_22 := (hs.o gq_16 trivial rfl).1.trans po_22
  replace po_23 := (hs.o gq_16 trivial rfl).1.trans po_23
  replace po_24 := (hs.o gq_16 trivial rfl).1.trans po_24
  replace fq_27 := (hs.o gq_16 trivial rfl).2.trans fq_27
  replace fq_29 := (hs.o gq_16 trivial rfl).2.trans fq_29
  replace f_32 := (hs.o gx trivial rfl).2.trans f_32
  replace f_36 := (hs.o gx trivial rfl).2.trans f_36
  replace f_41 := (hs.o gx trivial rfl).2.trans f_41
  replace po_49 := (hs.o gq_43 trivial rfl).1.trans po_49
  replace f_51 := (hs.o gx trivial rfl).2.trans f_51
  replace f_56 := (hs.o gx trivial rfl).2.trans f_56
  replace hz := hx_zr [0, 3, 4, 5, 7, 9, 10] hz hs gx trivial rfl
  replace za_3 : ∀ j, h_57.2.1 q_2 j = 0 ∧ h_57.2.2 q_2 j = none := fun j => ⟨(hs.a gq_2 rfl j).1.trans (za_3 j).1, (hs.a gq_2 rfl j).2.trans (za_3 j).2⟩
  replace za_39 : ∀ j, h_57.2.1 q_38 j = 0 ∧ h_57.2.2 q_38 j = none := fun j => ⟨(hs.a gq_38 rfl j).1.trans (za_39 j).1, (hs.a gq_38 rfl j).2.trans (za_39 j).2⟩
  replace za_54 : ∀ j, h_57.2.1 q_53 j = 0 ∧ h_57.2.2 q_53 j = none := fun j => ⟨(hs.a gq_53 rfl j).1.trans (za_54 j).1, (hs.a gq_53 rfl j).2.trans (za_54 j).2⟩
  replace nfw_28 : h_57.2.1 q_27 = fw_28 := (funext fun j => (hs.a gq_27 rfl j).1).trans nfw_28
  replace nfw_30 : h_57.2.1 q_29 = fw_30 := (funext fun j => (hs.a gq_29 rfl j).1).trans nfw_30
  replace hM := hM.tr (hs.mono ?o76)
  case o76 => decide
  replace gx := gx.S hs
  replace gq_2 := gq_2.S hs
  replace gq_7 := gq_7.S hs
  replace gq_16 := gq_16.S hs
  replace gq_27 := gq_27.S hs
  replace gq_29 := gq_29.S hs
  replace gq_34 := gq_34.S hs
  replace gq_38 := gq_38.S hs
  replace gq_43 := gq_43.S hs
  replace gq_53 := gq_53.S hs
  refine hx_putrF hx hb hts hC_9 hown hW hT (hx_S.rf (M := [(125, 12)])) gx tt_125 12 ?o77 rfl kw_376 ⟨rfl, rfl, rfl⟩ rfl hin rfl (x := (some q_58)) ⟨fun _ z => (by cases z), fun q hq => (by cases hq; exact ⟨gq_58.1, by rw [gq_58.2]; decide⟩)⟩ rfl rfl rfl (List.mem_singleton.mpr rfl) dX9_init_81 (fun H locs h_59 eh_59 hW hT hs => ?_)
  case o77 => decide
  replace f_5 := (hs.o gx trivial rfl).2.trans f_5
  replace f_14 := (hs.o gx trivial rfl).2.trans f_14
  replace po_22 := (hs.o gq_16 trivial rfl).1.trans po_22
  replace po_23 := (hs.o gq_16 trivial rfl).1.trans po_23
  replace po_24 := (hs.o gq_16 trivial rfl).1.trans po_24
  replace fq_27 := (hs.o gq_16 trivial rfl).2.trans fq_27
  replace fq_29 := (hs.o gq_16 trivial rfl).2.trans fq_29
  replace f_32 := (hs.o gx trivial rfl).2.trans f_32
  replace f_36 := (hs.o gx trivial rfl).2.trans f_36
  replace f_41 := (hs.o gx trivial rfl).2.trans f_41
  replace po_49 := (hs.o gq_43 trivial rfl).1.trans po_49
  replace f_51 := (hs.o gx trivial rfl).2.trans f_51
  replace f_56 := (hs.o gx trivial rfl).2.trans f_56
  replace hz := hx_zr [0, 3, 4, 5, 7, 9, 10, 12] hz hs gx trivial rfl
  replace za_3 : ∀ j, h_59.2.1 q_2 j = 0 ∧ h_59.2.2 q_2 j = none := fun j => ⟨(hs.a gq_2 rfl j).1.trans (za_3 j).1, (hs.a gq_2 rfl j).2.trans (za_3 j).2⟩
  replace za_39 : ∀ j, h_59.2.1 q_38 j = 0 ∧ h_59.2.2 q_38 j = none := fun j => ⟨(hs.a gq_38 rfl j).1.trans (za_39 j).1, (hs.a gq_38 rfl j).2.trans (za_39 j).2⟩
  replace za_54 : ∀ j, h_59.2.1 q_53 j = 0 ∧ h_59.2.2 q_53 j = none := fun j => ⟨(hs.a gq_53 rfl j).1.trans (za_54 j).1, (hs.a gq_53 rfl j).2.trans (za_54 j).2⟩
  replace nfw_28 : h_59.2.1 q_27 = fw_28 := (funext fun j => (hs.a gq_27 rfl j).1).trans nfw_28
  replace nfw_30 : h_59.2.1 q_29 = fw_30 := (funext fun j => (hs.a gq_29 rfl j).1).trans nfw_30
  replace hM := hM.tr (hs.mono ?o78)
  case o78 => decide
  replace gx := gx.S hs
  replace gq_2 := gq_2.S hs
  replace gq_7 := gq_7.S hs
  replace gq_16 := gq_16.S hs
  replace gq_27 := gq_27.S hs
  replace gq_29 := gq_29.S hs
  replace gq_34 := gq_34.S hs
  replace gq_38 := gq_38.S hs
  replace gq_43 := gq_43.S hs
  replace gq_53 := gq_53.S hs
  replace gq_58 := gq_58.S hs
  have f_60 : h_59.2.2 x 12 = (some q_58) := ?o79
  case o79 =>
    rw [eh_59]
    exact hx_pr_at _ _ _ _
  refine lv_aload_n hx hb dX9_init_84 rfl (lv_at hl 0 rfl) ?_
  refine hk_new hx hb hts hC_3 hown hW 119 tt_119 rfl ?o80 kw_225 kw_226 kw_99 (Nat.le_of_ble_eq_true rfl) (Nat.le_of_ble_eq_true rfl) dX9_init_85 (fun q_62 H h_61 eh_61 hqq_62 hW hs gq_62 => ?_)
  case o80 => decide
  have nq_q_62 : ∀ a ∈ (hx_X L x), a ≠ q_62 := fun a ha z => hqq_62 (z ▸ (hM.1 a ha).1)
  have hT : hx_T T_tb (((L_45 ++ [q_53]) ++ [q_58]) ++ [q_62]) h_61 := ?o81
  case o81 =>
    rw [eh_61]
    exact hx_T_nw hT hqq_62 tt_119 rfl
  replace f_5 := (hs.o gx trivial rfl).2.trans f_5
  replace f_14 := (hs.o gx trivial rfl).2.trans f_14
  replace po_22 := (hs.o gq_16 trivial rfl).1.trans po_22
  replace po_23 := (hs.o gq_16 trivial rfl).1.trans po_23
  replace po_24 := (hs.o gq_16 trivial rfl).1.trans po_24
  replace fq_27 := (hs.o gq_16 trivial rfl).2.trans fq_27
  replace fq_29 := (hs.o gq_16 trivial rfl).2.trans fq_29
  replace f_32 := (hs.o gx trivial rfl).2.trans f_32
  replace f_36 := (hs.o gx trivial rfl).2.trans f_36
  replace f_41 := (hs.o gx trivial rfl).2.trans f_41
  replace po_49 := (hs.o gq_43 trivial rfl).1.trans po_49
  replace f_51 := (hs.o gx trivial rfl).2.trans f_51
  replace f_56 := (hs.o gx trivial rfl).2.trans f_56
  replace f_60 := (hs.o gx trivial rfl).2.trans f_60
  replace hz := hx_zr [0, 3, 4, 5, 7, 9, 10, 12] hz hs gx trivial rfl
  replace za_3 : ∀ j, h_61.2.1 q_2 j = 0 ∧ h_61.2.2 q_2 j = none := fun j => ⟨(hs.a gq_2 rfl j).1.trans (za_3 j).1, (hs.a gq_2 rfl j).2.trans (za_3 j).2⟩
  replace za_39 : ∀ j, h_61.2.1 q_38 j = 0 ∧ h_61.2.2 q_38 j = none := fun j => ⟨(hs.a gq_38 rfl j).1.trans (za_39 j).1, (hs.a gq_38 rfl j).2.trans (za_39 j).2⟩
  replace za_54 : ∀ j, h_61.2.1 q_53 j = 0 ∧ h_61.2.2 q_53 j = none := fun j => ⟨(hs.a gq_53 rfl j).1.trans (za_54 j).1, (hs.a gq_53 rfl j).2.trans (za_54 j).2⟩
  replace nfw_28 : h_61.2.1 q_27 = fw_28 := (funext fun j => (hs.a gq_27 rfl j).1).trans nfw_28
  replace nfw_30 : h_61.2.1 q_29 = fw_30 := (funext fun j => (hs.a gq_29 rfl j).1).trans nfw_30
  replace hM := hM.tr (hs.mono ?o82)
  case o82 => decide
  replace gx := gx.S hs
  replace gq_2 := gq_2.S hs
  replace gq_7 := gq_7.S hs
  replace gq_16 := gq_16.S hs
  replace gq_27 := gq_27.S hs
  replace gq_29 := gq_29.S hs
  replace gq_34 := gq_34.S hs
  replace gq_38 := gq_38.S hs
  replace gq_43 := gq_43.S hs
  replace gq_53 := gq_53.S hs
  replace gq_58 := gq_58.S hs
  have fz_63 : ∀ j, ([] : List Nat).contains j = false → h_61.2.1 q_62 j = 0 ∧ h_61.2.2 q_62 j = none := ?o83
  case o83 =>
    rw [eh_61]
    exact fun _ _ => ⟨hx_nw_i, hx_nw_r⟩
  refine lv_dup hx hb dX9_init_88 rfl ?_
  refine hx_gov (hx_runIN (As := []) (rest := [.ref q_62, .ref x]) ⟨hx, hb, hml, hown, hts⟩ hW (t_X3_init_p l dC dI dA (((L_45 ++ [q_53]) ++ [q_58]) ++ [q_62]) h_61 H.size q_62 hT gq_62 (fun j => fz_63 j rfl)) ⟨va_cnB 0 hts (hx_gC kw_229) rfl rfl rfl (hZ.1 _ (List.mem_of_getElem? (i := 3) rfl)) (hts _ kw_99) (by decide +kernel) ⟨Nat.le_of_ble_eq_true rfl, Nat.le_of_ble_eq_true rfl⟩, rfl, hts _ kw_228⟩ rfl hl.1 rfl (Nat.le_of_ble_eq_true rfl) dX9_init_89 ⟨Nat.le_of_ble_eq_true rfl, Nat.le_of_ble_eq_true rfl⟩) hW (fun L_64 h_65 H locs p_67 hW => ?_)
  obtain ⟨hT, hs, gNq_62, po_68, po_69, po_70, po_71, po_72, po_73⟩ := p_67
  replace hT : hx_T T_tb L_64 h_65 := hT
  replace hs : hx_S T_tb [(119, 1), (119, 2), (119, 3), (119, 4), (119, 5)] (hx_X (((L_45 ++ [q_53]) ++ [q_58]) ++ [q_62]) q_62) h_61 L_64 h_65 := hs
  have gx := hx_gX gx (gx.ne gq_62 ?o84)
  case o84 => decide
  have gq_2 := hx_gX gq_2 (gq_2.ne gq_62 ?o85)
  case o85 => decide
  have gq_7 := hx_gX gq_7 (gq_7.ne gq_62 ?o86)
  case o86 => decide
  have gq_16 := hx_gX gq_16 (gq_16.ne gq_62 ?o87)
  case o87 => decide
  have gq_27 := hx_gX gq_27 (gq_27.ne gq_62 ?o88)
  case o88 => decide
  have gq_29 := hx_gX gq_29 (gq_29.ne gq_62 ?o89)
  case o89 => decide
  have gq_34 := hx_gX gq_34 (gq_34.ne gq_62 ?o90)
  case o90 => decide
  have gq_38 := hx_gX gq_38 (gq_38.ne gq_62 ?o91)
  case o91 => decide
  have gq_43 := hx_gX gq_43 (gq_43.ne gq_62 ?o92)
  case o92 => decide
  have gq_53 := hx_gX gq_53 (gq_53.ne gq_62 ?o93)
  case o93 => decide
  have gq_58 := hx_gX gq_58 (gq_58.ne gq_62 ?o94)
  case o94 => decide
  replace f_5 := (hs.o gx trivial rfl).2.trans f_5
  replace f_14 := (hs.o gx trivial rfl).2.trans f_14
  replace po_22 := (hs.o gq_16 trivial rfl).1.trans po_22
  replace po_23 := (hs.o gq_16 trivial rfl).1.trans po_23
  replace po_24 := (hs.o gq_16 trivial rfl).1.trans po_24
  replace fq_27 := (hs.o gq_16 trivial rfl).2.trans fq_27
  replace fq_29 := (hs.o gq_16 trivial rfl).2.trans fq_29
  replace f_32 := (hs.o gx trivial rfl).2.trans f_32
  replace f_36 := (hs.o gx trivial rfl).2.trans f_36
  replace f_41 := (hs.o gx trivial rfl).2.trans f_41
  replace po_49 := (hs.o gq_43 trivial rfl).1.trans po_49
  replace f_51 := (hs.o gx trivial rfl).2.trans f_51
  replace f_56 := (hs.o gx trivial rfl).2.trans f_56
  replace f_60 := (hs.o gx trivial rfl).2.trans f_60
  replace hz := hx_zr [0, 3, 4, 5, 7, 9, 10, 12] hz hs gx trivial rfl
  replace za_3 : ∀ j, h_65.2.1 q_2 j = 0 ∧ h_65.2.2 q_2 j = none := fun j => ⟨(hs.a gq_2 rfl j).1.trans (za_3 j).1, (hs.a gq_2 rfl j).2.trans (za_3 j).2⟩
  replace za_39 : ∀ j, h_65.2.1 q_38 j = 0 ∧ h_65.2.2 q_38 j = none := fun j => ⟨(hs.a gq_38 rfl j).1.trans (za_39 j).1, (hs.a gq_38 rfl j).2.trans (za_39 j).2⟩
  replace za_54 : ∀ j, h_65.2.1 q_53 j = 0 ∧ h_65.2.2 q_53 j = none := fun j => ⟨(hs.a gq_53 rfl j).1.trans (za_54 j).1, (hs.a gq_53 rfl j).2.trans (za_54 j).2⟩
  replace nfw_28 : h_65.2.1 q_27 = fw_28 := (funext fun j => (hs.a gq_27 rfl j).1).trans nfw_28
  replace nfw_30 : h_65.2.1 q_29 = fw_30 := (funext fun j => (hs.a gq_29 rfl j).1).trans nfw_30
  replace hM := hM.trX (hs.mono ?o95) nq_q_62
  case o95 => decide
  replace gx := gx.S hs
  replace gq_2 := gq_2.S hs
  replace gq_7 := gq_7.S hs
  replace gq_16 := gq_16.S hs
  replace gq_27 := gq_27.S hs
  replace gq_29 := gq_29.S hs
  replace gq_34 := gq_34.S hs
  replace gq_38 := gq_38.S hs
  replace gq_43 := gq_43.S hs
  replace gq_53 := gq_53.S hs
  replace gq_58 := gq_58.S hs
  have gq_62 : hx_g L_64 h_65 q_62 3 := gNq_62
  have po_68 : h_65.2.1 q_62 0 = 0 := po_68
  obtain ⟨q_74, fq_74, gq_74, po_69⟩ := po_69
  have fq_74 : h_65.2.2 q_62 2 = some q_74 := fq_74
  have gq_74 : hx_g L_64 h_65 q_74 23 := gq_74
  have po_69 : ∀ j, h_65.2.1 q_74 j = 0 ∧ h_65.2.2 q_74 j = none := po_69
  obtain ⟨q_75, fq_75, gq_75, po_70⟩ := po_70
  have fq_75 : h_65.2.2 q_62 3 = some q_75 := fq_75
  have gq_75 : hx_g L_64 h_65 q_75 24 := gq_75
  have po_70 : ∀ j, h_65.2.1 q_75 j = 0 ∧ h_65.2.2 q_75 j = none := po_70
  obtain ⟨q_76, fq_76, gq_76, po_71⟩ := po_71
  have fq_76 : h_65.2.2 q_62 5 = some q_76 := fq_76
  have gq_76 : hx_g L_64 h_65 q_76 26 := gq_76
  have po_71 : ∀ j, h_65.2.1 q_76 j = 0 ∧ h_65.2.2 q_76 j = none := po_71
  obtain ⟨q_77, fq_77, gq_77, po_72⟩ := po_72
  have fq_77 : h_65.2.2 q_62 4 = some q_77 := fq_77
  have gq_77 : hx_g L_64 h_65 q_77 25 := gq_77
  have po_72 : ∀ j, h_65.2.1 q_77 j = 0 ∧ h_65.2.2 q_77 j = none := po_72
  obtain ⟨q_78, fq_78, gq_78, po_73⟩ := po_73
  have fq_78 : h_65.2.2 q_62 1 = some q_78 := fq_78
  have gq_78 : hx_g L_64 h_65 q_78 22 := gq_78
  have po_73 : ∀ j, h_65.2.1 q_78 j = 0 ∧ h_65.2.2 q_78 j = none := po_73
  refine hx_putrF hx hb hts hC_9 hown hW hT (hx_S.rf (M := [(125, 14)])) gx tt_125 14 ?o96 rfl kw_378 ⟨rfl, rfl, rfl⟩ rfl hin rfl (x := (some q_62)) ⟨fun _ z => (by cases z), fun q hq => (by cases hq; exact ⟨gq_62.1, by rw [gq_62.2]; decide⟩)⟩ rfl rfl rfl (List.mem_singleton.mpr rfl) dX9_init_92 (fun H locs h_79 eh_79 hW hT hs => ?_)
  case o96 => decide
  replace f_5 := (hs.o gx trivial rfl).2.trans f_5
  replace f_14 := (hs.o gx trivial rfl).2.trans f_14
  replace po_22 := (hs.o gq_16 trivial rfl).1.trans po_22
  replace po_23 := (hs.o gq_16 trivial rfl).1.trans po_23
  replace po_24 := (hs.o gq_16 trivial rfl).1.trans po_24
  replace fq_27 := (hs.o gq_16 trivial rfl).2.trans fq_27
  replace fq_29 := (hs.o gq_16 trivial rfl).2.trans fq_29
  replace f_32 := (hs.o gx trivial rfl).2.trans f_32
  replace f_36 := (hs.o gx trivial rfl).2.trans f_36
  replace f_41 := (hs.o gx trivial rfl).2.trans f_41
  replace po_49 := (hs.o gq_43 trivial rfl).1.trans po_49
  replace f_51 := (hs.o gx trivial rfl).2.trans f_51
  replace f_56 := (hs.o gx trivial rfl).2.trans f_56
  replace f_60 := (hs.o gx trivial rfl).2.trans f_60
  replace po_68 := (hs.o gq_62 trivial rfl).1.trans po_68
  replace fq_74 := (hs.o gq_62 trivial rfl).2.trans fq_74
  replace fq_75 := (hs.o gq_62 trivial rfl).2.trans fq_75
  replace fq_76 := (hs.o gq_62 trivial rfl).2.trans fq_76
  replace fq_77 := (hs.o gq_62 trivial rfl).2.trans fq_77
  replace fq_78 := (hs.o gq_62 trivial rfl).2.trans fq_78
  replace hz := hx_zr [0, 3, 4, 5, 7, 9, 10, 12, 14] hz hs gx trivial rfl
  replace za_3 : ∀ j, h_79.2.1 q_2 j = 0 ∧ h_79.2.2 q_2 j = none := fun j => ⟨(hs.a gq_2 rfl j).1.trans (za_3 j).1, (hs.a gq_2 rfl j).2.trans (za_3 j).2⟩
  replace za_39 : ∀ j, h_79.2.1 q_38 j = 0 ∧ h_79.2.2 q_38 j = none := fun j => ⟨(hs.a gq_38 rfl j).1.trans (za_39 j).1, (hs.a gq_38 rfl j).2.trans (za_39 j).2⟩
  replace za_54 : ∀ j, h_79.2.1 q_53 j = 0 ∧ h_79.2.2 q_53 j = none := fun j => ⟨(hs.a gq_53 rfl j).1.trans (za_54 j).1, (hs.a gq_53 rfl j).2.trans (za_54 j).2⟩
  replace po_69 : ∀ j, h_79.2.1 q_74 j = 0 ∧ h_79.2.2 q_74 j = none := fun j => ⟨(hs.a gq_74 rfl j).1.trans (po_69 j).1, (hs.a gq_74 rfl j).2.trans (po_69 j).2⟩
  replace po_70 : ∀ j, h_79.2.1 q_75 j = 0 ∧ h_79.2.2 q_75 j = none := fun j => ⟨(hs.a gq_75 rfl j).1.trans (po_70 j).1, (hs.a gq_75 rfl j).2.trans (po_70 j).2⟩
  replace po_71 : ∀ j, h_79.2.1 q_76 j = 0 ∧ h_79.2.2 q_76 j = none := fun j => ⟨(hs.a gq_76 rfl j).1.trans (po_71 j).1, (hs.a gq_76 rfl j).2.trans (po_71 j).2⟩
  replace po_72 : ∀ j, h_79.2.1 q_77 j = 0 ∧ h_79.2.2 q_77 j = none := fun j => ⟨(hs.a gq_77 rfl j).1.trans (po_72 j).1, (hs.a gq_77 rfl j).2.trans (po_72 j).2⟩
  replace po_73 : ∀ j, h_79.2.1 q_78 j = 0 ∧ h_79.2.2 q_78 j = none := fun j => ⟨(hs.a gq_78 rfl j).1.trans (po_73 j).1, (hs.a gq_78 rfl j).2.trans (po_73 j).2⟩
  replace nfw_28 : h_79.2.1 q_27 = fw_28 := (funext fun j => (hs.a gq_27 rfl j).1).trans nfw_28
  replace nfw_30 : h_79.2.1 q_29 = fw_30 := (funext fun j => (hs.a gq_29 rfl j).1).trans nfw_30
  replace hM := hM.tr (hs.mono ?o97)
  case o97 => decide
  replace gx := gx.S hs
  replace gq_2 := gq_2.S hs
  replace gq_7 := gq_7.S hs
  replace gq_16 := gq_16.S hs
  replace gq_27 := gq_27.S hs
  replace gq_29 := gq_29.S hs
  replace gq_34 := gq_34.S hs
  replace gq_38 := gq_38.S hs
  replace gq_43 := gq_43.S hs
  replace gq_53 := gq_53.S hs
  replace gq_58 := gq_58.S hs
  replace gq_62 := gq_62.S hs
  replace gq_74 := gq_74.S hs
  replace gq_75 := gq_75.S hs
  replace gq_76 := gq_76.S hs
  replace gq_77 := gq_77.S hs
  replace gq_78 := gq_78.S hs
  have f_80 : h_79.2.2 x 14 = (some q_62) := ?o98
  case o98 =>
    rw [eh_79]
    exact hx_pr_at _ _ _ _
  refine lv_aload_n hx hb dX9_init_95 rfl (lv_at hl 0 rfl) ?_
  refine lv_bipush (v := 40) hx hb dX9_init_96 ?o99 ?_
  case o99 => decide
  refine hk_newa hx hb hts hW 47 tt_47 (atype := .int) rfl kw_186 (tys := P_ty dA) (t0 := 0) rfl (fun _ => Iff.rfl) rfl (i := (40 : Int32)) ?o100 (Nat.le_of_ble_eq_true rfl) (Nat.le_of_ble_eq_true rfl) (Nat.le_of_ble_eq_true rfl) dX9_init_98 (fun q_82 H h_81 eh_81 hqq_82 hW hs gq_82 => ?_)
  case o100 => decide
  have nq_q_82 : ∀ a ∈ (hx_X L x), a ≠ q_82 := fun a ha z => hqq_82 (z ▸ (hM.1 a ha).1)
  have hT : hx_T T_tb (L_64 ++ [q_82]) h_81 := ?o101
  case o101 =>
    rw [eh_81]
    exact hx_T_nw hT hqq_82 tt_47 rfl
  replace f_5 := (hs.o gx trivial rfl).2.trans f_5
  replace f_14 := (hs.o gx trivial rfl).2.trans f_14
  replace po_22 := (hs.o gq_16 trivial rfl).1.trans po_22
  replace po_23 := (hs.o gq_16 trivial rfl).1.trans po_23
  replace po_24 := (hs.o gq_16 trivial rfl).1.trans po_24
  replace fq_27 := (hs.o gq_16 trivial rfl).2.trans fq_27
  replace fq_29 := (hs.o gq_16 trivial rfl).2.trans fq_29
  replace f_32 := (hs.o gx trivial rfl).2.trans f_32
  replace f_36 := (hs.o gx trivial rfl).2.trans f_36
  replace f_41 := (hs.o gx trivial rfl).2.trans f_41
  replace po_49 := (hs.o gq_43 trivial rfl).1.trans po_49
  replace f_51 := (hs.o gx trivial rfl).2.trans f_51
  replace f_56 := (hs.o gx trivial rfl).2.trans f_56
  replace f_60 := (hs.o gx trivial rfl).2.trans f_60
  replace po_68 := (hs.o gq_62 trivial rfl).1.trans po_68
  replace fq_74 := (hs.o gq_62 trivial rfl).2.trans fq_74
  replace fq_75 := (hs.o gq_62 trivial rfl).2.trans fq_75
  replace fq_76 := (hs.o gq_62 trivial rfl).2.trans fq_76
  replace fq_77 := (hs.o gq_62 trivial rfl).2.trans fq_77
  replace fq_78 := (hs.o gq_62 trivial rfl).2.trans fq_78
  replace f_80 := (hs.o gx trivial rfl).2.trans f_80
  replace hz := hx_zr [0, 3, 4, 5, 7, 9, 10, 12, 14] hz hs gx trivial rfl
  replace za_3 : ∀ j, h_81.2.1 q_2 j = 0 ∧ h_81.2.2 q_2 j = none := fun j => ⟨(hs.a gq_2 rfl j).1.trans (za_3 j).1, (hs.a gq_2 rfl j).2.trans (za_3 j).2⟩
  replace za_39 : ∀ j, h_81.2.1 q_38 j = 0 ∧ h_81.2.2 q_38 j = none := fun j => ⟨(hs.a gq_38 rfl j).1.trans (za_39 j).1, (hs.a gq_38 rfl j).2.trans (za_39 j).2⟩
  replace za_54 : ∀ j, h_81.2.1 q_53 j = 0 ∧ h_81.2.2 q_53 j = none := fun j => ⟨(hs.a gq_53 rfl j).1.trans (za_54 j).1, (hs.a gq_53 rfl j).2.trans (za_54 j).2⟩
  replace po_69 : ∀ j, h_81.2.1 q_74 j = 0 ∧ h_81.2.2 q_74 j = none := fun j => ⟨(hs.a gq_74 rfl j).1.trans (po_69 j).1, (hs.a gq_74 rfl j).2.trans (po_69 j).2⟩
  replace po_70 : ∀ j, h_81.2.1 q_75 j = 0 ∧ h_81.2.2 q_75 j = none := fun j => ⟨(hs.a gq_75 rfl j).1.trans (po_70 j).1, (hs.a gq_75 rfl j).2.trans (po_70 j).2⟩
  replace po_71 : ∀ j, h_81.2.1 q_76 j = 0 ∧ h_81.2.2 q_76 j = none := fun j => ⟨(hs.a gq_76 rfl j).1.trans (po_71 j).1, (hs.a gq_76 rfl j).2.trans (po_71 j).2⟩
  replace po_72 : ∀ j, h_81.2.1 q_77 j = 0 ∧ h_81.2.2 q_77 j = none := fun j => ⟨(hs.a gq_77 rfl j).1.trans (po_72 j).1, (hs.a gq_77 rfl j).2.trans (po_72 j).2⟩
  replace po_73 : ∀ j, h_81.2.1 q_78 j = 0 ∧ h_81.2.2 q_78 j = none := fun j => ⟨(hs.a gq_78 rfl j).1.trans (po_73 j).1, (hs.a gq_78 rfl j).2.trans (po_73 j).2⟩
  replace nfw_28 : h_81.2.1 q_27 = fw_28 := (funext fun j => (hs.a gq_27 rfl j).1).trans nfw_28
  replace nfw_30 : h_81.2.1 q_29 = fw_30 := (funext fun j => (hs.a gq_29 rfl j).1).trans nfw_30
  replace hM := hM.tr (hs.mono ?o102)
  case o102 => decide
  replace gx := gx.S hs
  replace gq_2 := gq_2.S hs
  replace gq_7 := gq_7.S hs
  replace gq_16 := gq_16.S hs
  replace gq_27 := gq_27.S hs
  replace gq_29 := gq_29.S hs
  replace gq_34 := gq_34.S hs
  replace gq_38 := gq_38.S hs
  replace gq_43 := gq_43.S hs
  replace gq_53 := gq_53.S hs
  replace gq_58 := gq_58.S hs
  replace gq_62 := gq_62.S hs
  replace gq_74 := gq_74.S hs
  replace gq_75 := gq_75.S hs
  replace gq_76 := gq_76.S hs
  replace gq_77 := gq_77.S hs
  replace gq_78 := gq_78.S hs
  refine hx_putrF hx hb hts hC_9 hown hW hT (hx_S.rf (M := [(125, 15)])) gx tt_125 15 ?o103 rfl kw_379 ⟨rfl, rfl, rfl⟩ rfl hin rfl (x := (some q_82)) ⟨fun _ z => (by cases z), fun q hq => (by cases hq; exact ⟨gq_82.1, by rw [gq_82.2]; decide⟩)⟩ rfl rfl rfl (List.mem_singleton.mpr rfl) dX9_init_100 (fun H locs h_83 eh_83 hW hT hs => ?_)
  case o103 => decide
  replace f_5 := (hs.o gx trivial rfl).2.trans f_5
  replace f_14 := (hs.o gx trivial rfl).2.trans f_14
  replace po_22 := (hs.o gq_16 trivial rfl).1.trans po_22
  replace po_23 := (hs.o gq_16 trivial rfl).1.trans po_23
  replace po_24 := (hs.o gq_16 trivial rfl).1.trans po_24
  replace fq_27 := (hs.o gq_16 trivial rfl).2.trans fq_27
  replace fq_29 := (hs.o gq_16 trivial rfl).2.trans fq_29
  replace f_32 := (hs.o gx trivial rfl).2.trans f_32
  replace f_36 := (hs.o gx trivial rfl).2.trans f_36
  replace f_41 := (hs.o gx trivial rfl).2.trans f_41
  replace po_49 := (hs.o gq_43 trivial rfl).1.trans po_49
  replace f_51 := (hs.o gx trivial rfl).2.trans f_51
  replace f_56 := (hs.o gx trivial rfl).2.trans f_56
  replace f_60 := (hs.o gx trivial rfl).2.trans f_60
  replace po_68 := (hs.o gq_62 trivial rfl).1.trans po_68
  replace fq_74 := (hs.o gq_62 trivial rfl).2.trans fq_74
  replace fq_75 := (hs.o gq_62 trivial rfl).2.trans fq_75
  replace fq_76 := (hs.o gq_62 trivial rfl).2.trans fq_76
  replace fq_77 := (hs.o gq_62 trivial rfl).2.trans fq_77
  replace fq_78 := (hs.o gq_62 trivial rfl).2.trans fq_78
  replace f_80 := (hs.o gx trivial rfl).2.trans f_80
  replace hz := hx_zr [0, 3, 4, 5, 7, 9, 10, 12, 14, 15] hz hs gx trivial rfl
  replace za_3 : ∀ j, h_83.2.1 q_2 j = 0 ∧ h_83.2.2 q_2 j = none := fun j => ⟨(hs.a gq_2 rfl j).1.trans (za_3 j).1, (hs.a gq_2 rfl j).2.trans (za_3 j).2⟩
  replace za_39 : ∀ j, h_83.2.1 q_38 j = 0 ∧ h_83.2.2 q_38 j = none := fun j => ⟨(hs.a gq_38 rfl j).1.trans (za_39 j).1, (hs.a gq_38 rfl j).2.trans (za_39 j).2⟩
  replace za_54 : ∀ j, h_83.2.1 q_53 j = 0 ∧ h_83.2.2 q_53 j = none := fun j => ⟨(hs.a gq_53 rfl j).1.trans (za_54 j).1, (hs.a gq_53 rfl j).2.trans (za_54 j).2⟩
  replace po_69 : ∀ j, h_83.2.1 q_74 j = 0 ∧ h_83.2.2 q_74 j = none := fun j => ⟨(hs.a gq_74 rfl j).1.trans (po_69 j).1, (hs.a gq_74 rfl j).2.trans (po_69 j).2⟩
  replace po_70 : ∀ j, h_83.2.1 q_75 j = 0 ∧ h_83.2.2 q_75 j = none := fun j => ⟨(hs.a gq_75 rfl j).1.trans (po_70 j).1, (hs.a gq_75 rfl j).2.trans (po_70 j).2⟩
  replace po_71 : ∀ j, h_83.2.1 q_76 j = 0 ∧ h_83.2.2 q_76 j = none := fun j => ⟨(hs.a gq_76 rfl j).1.trans (po_71 j).1, (hs.a gq_76 rfl j).2.trans (po_71 j).2⟩
  replace po_72 : ∀ j, h_83.2.1 q_77 j = 0 ∧ h_83.2.2 q_77 j = none := fun j => ⟨(hs.a gq_77 rfl j).1.trans (po_72 j).1, (hs.a gq_77 rfl j).2.trans (po_72 j).2⟩
  replace po_73 : ∀ j, h_83.2.1 q_78 j = 0 ∧ h_83.2.2 q_78 j = none := fun j => ⟨(hs.a gq_78 rfl j).1.trans (po_73 j).1, (hs.a gq_78 rfl j).2.trans (po_73 j).2⟩
  replace nfw_28 : h_83.2.1 q_27 = fw_28 := (funext fun j => (hs.a gq_27 rfl j).1).trans nfw_28
  replace nfw_30 : h_83.2.1 q_29 = fw_30 := (funext fun j => (hs.a gq_29 rfl j).1).trans nfw_30
  replace hM := hM.tr (hs.mono ?o104)
  case o104 => decide
  replace gx := gx.S hs
  replace gq_2 := gq_2.S hs
  replace gq_7 := gq_7.S hs
  replace gq_16 := gq_16.S hs
  replace gq_27 := gq_27.S hs
  replace gq_29 := gq_29.S hs
  replace gq_34 := gq_34.S hs
  replace gq_38 := gq_38.S hs
  replace gq_43 := gq_43.S hs
  replace gq_53 := gq_53.S hs
  replace gq_58 := gq_58.S hs
  replace gq_62 := gq_62.S hs
  replace gq_74 := gq_74.S hs
  replace gq_75 := gq_75.S hs
  replace gq_76 := gq_76.S hs
  replace gq_77 := gq_77.S hs
  replace gq_78 := gq_78.S hs
  replace gq_82 := gq_82.S hs
  have f_84 : h_83.2.2 x 15 = (some q_82) := ?o105
  case o105 =>
    rw [eh_83]
    exact hx_pr_at _ _ _ _
  refine lv_aload_n hx hb dX9_init_103 rfl (lv_at hl 0 rfl) ?_
  refine lv_bipush (v := 100) hx hb dX9_init_104 ?o106 ?_
  case o106 => decide
  refine hk_newa hx hb hts hW 48 tt_48 (atype := .int) rfl kw_186 (tys := P_ty dA) (t0 := 0) rfl (fun _ => Iff.rfl) rfl (i := (100 : Int32)) ?o107 (Nat.le_of_ble_eq_true rfl) (Nat.le_of_ble_eq_true rfl) (Nat.le_of_ble_eq_true rfl) dX9_init_106 (fun q_86 H h_85 eh_85 hqq_86 hW hs gq_86 => ?_)
  case o107 => decide
  have nq_q_86 : ∀ a ∈ (hx_X L x), a ≠ q_86 := fun a ha z => hqq_86 (z ▸ (hM.1 a ha).1)
  have hT : hx_T T_tb ((L_64 ++ [q_82]) ++ [q_86]) h_85 := ?o108
  case o108 =>
    rw [eh_85]
    exact hx_T_nw hT hqq_86 tt_48 rfl
  replace f_5 := (hs.o gx trivial rfl).2.trans f_5
  replace f_14 := (hs.o gx trivial rfl).2.trans f_14
  replace po_22 := (hs.o gq_16 trivial rfl).1.trans po_22
  replace po_23 := (hs.o gq_16 trivial rfl).1.trans po_23
  replace po_24 := (hs.o gq_16 trivial rfl).1.trans po_24
  replace fq_27 := (hs.o gq_16 trivial rfl).2.trans fq_27
  replace fq_29 := (hs.o gq_16 trivial rfl).2.trans fq_29
  replace f_32 := (hs.o gx trivial rfl).2.trans f_32
  replace f_36 := (hs.o gx trivial rfl).2.trans f_36
  replace f_41 := (hs.o gx trivial rfl).2.trans f_41
  replace po_49 := (hs.o gq_43 trivial rfl).1.trans po_49
  replace f_51 := (hs.o gx trivial rfl).2.trans f_51
  replace f_56 := (hs.o gx trivial rfl).2.trans f_56
  replace f_60 := (hs.o gx trivial rfl).2.trans f_60
  replace po_68 := (hs.o gq_62 trivial rfl).1.trans po_68
  replace fq_74 := (hs.o gq_62 trivial rfl).2.trans fq_74
  replace fq_75 := (hs.o gq_62 trivial rfl).2.trans fq_75
  replace fq_76 := (hs.o gq_62 trivial rfl).2.trans fq_76
  replace fq_77 := (hs.o gq_62 trivial rfl).2.trans fq_77
  replace fq_78 := (hs.o gq_62 trivial rfl).2.trans fq_78
  replace f_80 := (hs.o gx trivial rfl).2.trans f_80
  replace f_84 := (hs.o gx trivial rfl).2.trans f_84
  replace hz := hx_zr [0, 3, 4, 5, 7, 9, 10, 12, 14, 15] hz hs gx trivial rfl
  replace za_3 : ∀ j, h_85.2.1 q_2 j = 0 ∧ h_85.2.2 q_2 j = none := fun j => ⟨(hs.a gq_2 rfl j).1.trans (za_3 j).1, (hs.a gq_2 rfl j).2.trans (za_3 j).2⟩
  replace za_39 : ∀ j, h_85.2.1 q_38 j = 0 ∧ h_85.2.2 q_38 j = none := fun j => ⟨(hs.a gq_38 rfl j).1.trans (za_39 j).1, (hs.a gq_38 rfl j).2.trans (za_39 j).2⟩
  replace za_54 : ∀ j, h_85.2.1 q_53 j = 0 ∧ h_85.2.2 q_53 j = none := fun j => ⟨(hs.a gq_53 rfl j).1.trans (za_54 j).1, (hs.a gq_53 rfl j).2.trans (za_54 j).2⟩
  replace po_69 : ∀ j, h_85.2.1 q_74 j = 0 ∧ h_85.2.2 q_74 j = none := fun j => ⟨(hs.a gq_74 rfl j).1.trans (po_69 j).1, (hs.a gq_74 rfl j).2.trans (po_69 j).2⟩
  replace po_70 : ∀ j, h_85.2.1 q_75 j = 0 ∧ h_85.2.2 q_75 j = none := fun j => ⟨(hs.a gq_75 rfl j).1.trans (po_70 j).1, (hs.a gq_75 rfl j).2.trans (po_70 j).2⟩
  replace po_71 : ∀ j, h_85.2.1 q_76 j = 0 ∧ h_85.2.2 q_76 j = none := fun j => ⟨(hs.a gq_76 rfl j).1.trans (po_71 j).1, (hs.a gq_76 rfl j).2.trans (po_71 j).2⟩
  replace po_72 : ∀ j, h_85.2.1 q_77 j = 0 ∧ h_85.2.2 q_77 j = none := fun j => ⟨(hs.a gq_77 rfl j).1.trans (po_72 j).1, (hs.a gq_77 rfl j).2.trans (po_72 j).2⟩
  replace po_73 : ∀ j, h_85.2.1 q_78 j = 0 ∧ h_85.2.2 q_78 j = none := fun j => ⟨(hs.a gq_78 rfl j).1.trans (po_73 j).1, (hs.a gq_78 rfl j).2.trans (po_73 j).2⟩
  replace nfw_28 : h_85.2.1 q_27 = fw_28 := (funext fun j => (hs.a gq_27 rfl j).1).trans nfw_28
  replace nfw_30 : h_85.2.1 q_29 = fw_30 := (funext fun j => (hs.a gq_29 rfl j).1).trans nfw_30
  replace hM := hM.tr (hs.mono ?o109)
  case o109 => decide
  replace gx := gx.S hs
  replace gq_2 := gq_2.S hs
  replace gq_7 := gq_7.S hs
  replace gq_16 := gq_16.S hs
  replace gq_27 := gq_27.S hs
  replace gq_29 := gq_29.S hs
  replace gq_34 := gq_34.S hs
  replace gq_38 := gq_38.S hs
  replace gq_43 := gq_43.S hs
  replace gq_53 := gq_53.S hs
  replace gq_58 := gq_58.S hs
  replace gq_62 := gq_62.S hs
  replace gq_74 := gq_74.S hs
  replace gq_75 := gq_75.S hs
  replace gq_76 := gq_76.S hs
  replace gq_77 := gq_77.S hs
  replace gq_78 := gq_78.S hs
  replace gq_82 := gq_82.S hs
  refine hx_putrF hx hb hts hC_9 hown hW hT (hx_S.rf (M := [(125, 16)])) gx tt_125 16 ?o110 rfl kw_380 ⟨rfl, rfl, rfl⟩ rfl hin rfl (x := (some q_86)) ⟨fun _ z => (by cases z), fun q hq => (by cases hq; exact ⟨gq_86.1, by rw [gq_86.2]; decide⟩)⟩ rfl rfl rfl (List.mem_singleton.mpr rfl) dX9_init_108 (fun H locs h_87 eh_87 hW hT hs => ?_)
  case o110 => decide
  replace f_5 := (hs.o gx trivial rfl).2.trans f_5
  replace f_14 := (hs.o gx trivial rfl).2.trans f_14
  replace po_22 := (hs.o gq_16 trivial rfl).1.trans po_22
  replace po_23 := (hs.o gq_16 trivial rfl).1.trans po_23
  replace po_24 := (hs.o gq_16 trivial rfl).1.trans po_24
  replace fq_27 := (hs.o gq_16 trivial rfl).2.trans fq_27
  replace fq_29 := (hs.o gq_16 trivial rfl).2.trans fq_29
  replace f_32 := (hs.o gx trivial rfl).2.trans f_32
  replace f_36 := (hs.o gx trivial rfl).2.trans f_36
  replace f_41 := (hs.o gx trivial rfl).2.trans f_41
  replace po_49 := (hs.o gq_43 trivial rfl).1.trans po_49
  replace f_51 := (hs.o gx trivial rfl).2.trans f_51
  replace f_56 := (hs.o gx trivial rfl).2.trans f_56
  replace f_60 := (hs.o gx trivial rfl).2.trans f_60
  replace po_68 := (hs.o gq_62 trivial rfl).1.trans po_68
  replace fq_74 := (hs.o gq_62 trivial rfl).2.trans fq_74
  replace fq_75 := (hs.o gq_62 trivial rfl).2.trans fq_75
  replace fq_76 := (hs.o gq_62 trivial rfl).2.trans fq_76
  replace fq_77 := (hs.o gq_62 trivial rfl).2.trans fq_77
  replace fq_78 := (hs.o gq_62 trivial rfl).2.trans fq_78
  replace f_80 := (hs.o gx trivial rfl).2.trans f_80
  replace f_84 := (hs.o gx trivial rfl).2.trans f_84
  replace hz := hx_zr [0, 3, 4, 5, 7, 9, 10, 12, 14, 15, 16] hz hs gx trivial rfl
  replace za_3 : ∀ j, h_87.2.1 q_2 j = 0 ∧ h_87.2.2 q_2 j = none := fun j => ⟨(hs.a gq_2 rfl j).1.trans (za_3 j).1, (hs.a gq_2 rfl j).2.trans (za_3 j).2⟩
  replace za_39 : ∀ j, h_87.2.1 q_38 j = 0 ∧ h_87.2.2 q_38 j = none := fun j => ⟨(hs.a gq_38 rfl j).1.trans (za_39 j).1, (hs.a gq_38 rfl j).2.trans (za_39 j).2⟩
  replace za_54 : ∀ j, h_87.2.1 q_53 j = 0 ∧ h_87.2.2 q_53 j = none := fun j => ⟨(hs.a gq_53 rfl j).1.trans (za_54 j).1, (hs.a gq_53 rfl j).2.trans (za_54 j).2⟩
  replace po_69 : ∀ j, h_87.2.1 q_74 j = 0 ∧ h_87.2.2 q_74 j = none := fun j => ⟨(hs.a gq_74 rfl j).1.trans (po_69 j).1, (hs.a gq_74 rfl j).2.trans (po_69 j).2⟩
  replace po_70 : ∀ j, h_87.2.1 q_75 j = 0 ∧ h_87.2.2 q_75 j = none := fun j => ⟨(hs.a gq_75 rfl j).1.trans (po_70 j).1, (hs.a gq_75 rfl j).2.trans (po_70 j).2⟩
  replace po_71 : ∀ j, h_87.2.1 q_76 j = 0 ∧ h_87.2.2 q_76 j = none := fun j => ⟨(hs.a gq_76 rfl j).1.trans (po_71 j).1, (hs.a gq_76 rfl j).2.trans (po_71 j).2⟩
  replace po_72 : ∀ j, h_87.2.1 q_77 j = 0 ∧ h_87.2.2 q_77 j = none := fun j => ⟨(hs.a gq_77 rfl j).1.trans (po_72 j).1, (hs.a gq_77 rfl j).2.trans (po_72 j).2⟩
  replace po_73 : ∀ j, h_87.2.1 q_78 j = 0 ∧ h_87.2.2 q_78 j = none := fun j => ⟨(hs.a gq_78 rfl j).1.trans (po_73 j).1, (hs.a gq_78 rfl j).2.trans (po_73 j).2⟩
  replace nfw_28 : h_87.2.1 q_27 = fw_28 := (funext fun j => (hs.a gq_27 rfl j).1).trans nfw_28
  replace nfw_30 : h_87.2.1 q_29 = fw_30 := (funext fun j => (hs.a gq_29 rfl j).1).trans nfw_30
  replace hM := hM.tr (hs.mono ?o111)
  case o111 => decide
  replace gx := gx.S hs
  replace gq_2 := gq_2.S hs
  replace gq_7 := gq_7.S hs
  replace gq_16 := gq_16.S hs
  replace gq_27 := gq_27.S hs
  replace gq_29 := gq_29.S hs
  replace gq_34 := gq_34.S hs
  replace gq_38 := gq_38.S hs
  replace gq_43 := gq_43.S hs
  replace gq_53 := gq_53.S hs
  replace gq_58 := gq_58.S hs
  replace gq_62 := gq_62.S hs
  replace gq_74 := gq_74.S hs
  replace gq_75 := gq_75.S hs
  replace gq_76 := gq_76.S hs
  replace gq_77 := gq_77.S hs
  replace gq_78 := gq_78.S hs
  replace gq_82 := gq_82.S hs
  replace gq_86 := gq_86.S hs
  have f_88 : h_87.2.2 x 16 = (some q_86) := ?o112
  case o112 =>
    rw [eh_87]
    exact hx_pr_at _ _ _ _
  refine lv_aload_n hx hb dX9_init_111 rfl (lv_at hl 0 rfl) ?_
  refine hk_new hx hb hts hC_5 hown hW 121 tt_121 rfl ?o113 kw_252 kw_253 kw_100 (Nat.le_of_ble_eq_true rfl) (Nat.le_of_ble_eq_true rfl) dX9_init_112 (fun q_90 H h_89 eh_89 hqq_90 hW hs gq_90 => ?_)
  case o113 => decide
  have nq_q_90 : ∀ a ∈ (hx_X L x), a ≠ q_90 := fun a ha z => hqq_90 (z ▸ (hM.1 a ha).1)
  have hT : hx_T T_tb (((L_64 ++ [q_82]) ++ [q_86]) ++ [q_90]) h_89 := ?o114
  case o114 =>
    rw [eh_89]
    exact hx_T_nw hT hqq_90 tt_121 rfl
  replace f_5 := (hs.o gx trivial rfl).2.trans f_5
  replace f_14 := (hs.o gx trivial rfl).2.trans f_14
  replace po_22 := (hs.o gq_16 trivial rfl).1.trans po_22
  replace po_23 := (hs.o gq_16 trivial rfl).1.trans po_23
  replace po_24 := (hs.o gq_16 trivial rfl).1.trans po_24
  replace fq_27 := (hs.o gq_16 trivial rfl).2.trans fq_27
  replace fq_29 := (hs.o gq_16 trivial rfl).2.trans fq_29
  replace f_32 := (hs.o gx trivial rfl).2.trans f_32
  replace f_36 := (hs.o gx trivial rfl).2.trans f_36
  replace f_41 := (hs.o gx trivial rfl).2.trans f_41
  replace po_49 := (hs.o gq_43 trivial rfl).1.trans po_49
  replace f_51 := (hs.o gx trivial rfl).2.trans f_51
  replace f_56 := (hs.o gx trivial rfl).2.trans f_56
  replace f_60 := (hs.o gx trivial rfl).2.trans f_60
  replace po_68 := (hs.o gq_62 trivial rfl).1.trans po_68
  replace fq_74 := (hs.o gq_62 trivial rfl).2.trans fq_74
  replace fq_75 := (hs.o gq_62 trivial rfl).2.trans fq_75
  replace fq_76 := (hs.o gq_62 trivial rfl).2.trans fq_76
  replace fq_77 := (hs.o gq_62 trivial rfl).2.trans fq_77
  replace fq_78 := (hs.o gq_62 trivial rfl).2.trans fq_78
  replace f_80 := (hs.o gx trivial rfl).2.trans f_80
  replace f_84 := (hs.o gx trivial rfl).2.trans f_84
  replace f_88 := (hs.o gx trivial rfl).2.trans f_88
  replace hz := hx_zr [0, 3, 4, 5, 7, 9, 10, 12, 14, 15, 16] hz hs gx trivial rfl
  replace za_3 : ∀ j, h_89.2.1 q_2 j = 0 ∧ h_89.2.2 q_2 j = none := fun j => ⟨(hs.a gq_2 rfl j).1.trans (za_3 j).1, (hs.a gq_2 rfl j).2.trans (za_3 j).2⟩
  replace za_39 : ∀ j, h_89.2.1 q_38 j = 0 ∧ h_89.2.2 q_38 j = none := fun j => ⟨(hs.a gq_38 rfl j).1.trans (za_39 j).1, (hs.a gq_38 rfl j).2.trans (za_39 j).2⟩
  replace za_54 : ∀ j, h_89.2.1 q_53 j = 0 ∧ h_89.2.2 q_53 j = none := fun j => ⟨(hs.a gq_53 rfl j).1.trans (za_54 j).1, (hs.a gq_53 rfl j).2.trans (za_54 j).2⟩
  replace po_69 : ∀ j, h_89.2.1 q_74 j = 0 ∧ h_89.2.2 q_74 j = none := fun j => ⟨(hs.a gq_74 rfl j).1.trans (po_69 j).1, (hs.a gq_74 rfl j).2.trans (po_69 j).2⟩
  replace po_70 : ∀ j, h_89.2.1 q_75 j = 0 ∧ h_89.2.2 q_75 j = none := fun j => ⟨(hs.a gq_75 rfl j).1.trans (po_70 j).1, (hs.a gq_75 rfl j).2.trans (po_70 j).2⟩
  replace po_71 : ∀ j, h_89.2.1 q_76 j = 0 ∧ h_89.2.2 q_76 j = none := fun j => ⟨(hs.a gq_76 rfl j).1.trans (po_71 j).1, (hs.a gq_76 rfl j).2.trans (po_71 j).2⟩
  replace po_72 : ∀ j, h_89.2.1 q_77 j = 0 ∧ h_89.2.2 q_77 j = none := fun j => ⟨(hs.a gq_77 rfl j).1.trans (po_72 j).1, (hs.a gq_77 rfl j).2.trans (po_72 j).2⟩
  replace po_73 : ∀ j, h_89.2.1 q_78 j = 0 ∧ h_89.2.2 q_78 j = none := fun j => ⟨(hs.a gq_78 rfl j).1.trans (po_73 j).1, (hs.a gq_78 rfl j).2.trans (po_73 j).2⟩
  replace nfw_28 : h_89.2.1 q_27 = fw_28 := (funext fun j => (hs.a gq_27 rfl j).1).trans nfw_28
  replace nfw_30 : h_89.2.1 q_29 = fw_30 := (funext fun j => (hs.a gq_29 rfl j).1).trans nfw_30
  replace hM := hM.tr (hs.mono ?o115)
  case o115 => decide
  replace gx := gx.S hs
  replace gq_2 := gq_2.S hs
  replace gq_7 := gq_7.S hs
  replace gq_16 := gq_16.S hs
  replace gq_27 := gq_27.S hs
  replace gq_29 := gq_29.S hs
  replace gq_34 := gq_34.S hs
  replace gq_38 := gq_38.S hs
  replace gq_43 := gq_43.S hs
  replace gq_53 := gq_53.S hs
  replace gq_58 := gq_58.S hs
  replace gq_62 := gq_62.S hs
  replace gq_74 := gq_74.S hs
  replace gq_75 := gq_75.S hs
  replace gq_76 := gq_76.S hs
  replace gq_77 := gq_77.S hs
  replace gq_78 := gq_78.S hs
  replace gq_82 := gq_82.S hs
  replace gq_86 := gq_86.S hs
  have fz_91 : ∀ j, ([] : List Nat).contains j = false → h_89.2.1 q_90 j = 0 ∧ h_89.2.2 q_90 j = none := ?o116
  case o116 =>
    rw [eh_89]
    exact fun _ _ => ⟨hx_nw_i, hx_nw_r⟩
  refine lv_dup hx hb dX9_init_115 rfl ?_
  refine hx_gov (hx_runIN (As := []) (rest := [.ref q_90, .ref x]) ⟨hx, hb, hml, hown, hts⟩ hW (t_X5_init_p l dC dI dA (((L_64 ++ [q_82]) ++ [q_86]) ++ [q_90]) h_89 H.size q_90 hT gq_90 (fun j => fz_91 j rfl)) ⟨va_cnB 0 hts (hx_gC kw_256) rfl rfl rfl (hZ.1 _ (List.mem_of_getElem? (i := 4) rfl)) (hts _ kw_100) (by decide +kernel) ⟨Nat.le_of_ble_eq_true rfl, Nat.le_of_ble_eq_true rfl⟩, rfl, hts _ kw_255⟩ rfl hl.1 rfl (Nat.le_of_ble_eq_true rfl) dX9_init_116 ⟨Nat.le_of_ble_eq_true rfl, Nat.le_of_ble_eq_true rfl⟩) hW (fun L_92 h_93 H locs p_95 hW => ?_)
  obtain ⟨hT, hs, gNq_90, po_96⟩ := p_95
  replace hT : hx_T T_tb L_92 h_93 := hT
  replace hs : hx_S T_tb [(121, 2), (121, 3), (121, 4), (121, 5), (121, 6), (121, 7), (121, 8)] (hx_X (((L_64 ++ [q_82]) ++ [q_86]) ++ [q_90]) q_90) h_89 L_92 h_93 := hs
  have gx := hx_gX gx (gx.ne gq_90 ?o117)
  case o117 => decide
  have gq_2 := hx_gX gq_2 (gq_2.ne gq_90 ?o118)
  case o118 => decide
  have gq_7 := hx_gX gq_7 (gq_7.ne gq_90 ?o119)
  case o119 => decide
  have gq_16 := hx_gX gq_16 (gq_16.ne gq_90 ?o120)
  case o120 => decide
  have gq_27 := hx_gX gq_27 (gq_27.ne gq_90 ?o121)
  case o121 => decide
  have gq_29 := hx_gX gq_29 (gq_29.ne gq_90 ?o122)
  case o122 => decide
  have gq_34 := hx_gX gq_34 (gq_34.ne gq_90 ?o123)
  case o123 => decide
  have gq_38 := hx_gX gq_38 (gq_38.ne gq_90 ?o124)
  case o124 => decide
  have gq_43 := hx_gX gq_43 (gq_43.ne gq_90 ?o125)
  case o125 => decide
  have gq_53 := hx_gX gq_53 (gq_53.ne gq_90 ?o126)
  case o126 => decide
  have gq_58 := hx_gX gq_58 (gq_58.ne gq_90 ?o127)
  case o127 => decide
  have gq_62 := hx_gX gq_62 (gq_62.ne gq_90 ?o128)
  case o128 => decide
  have gq_74 := hx_gX gq_74 (gq_74.ne gq_90 ?o129)
  case o129 => decide
  have gq_75 := hx_gX gq_75 (gq_75.ne gq_90 ?o130)
  case o130 => decide
  have gq_76 := hx_gX gq_76 (gq_76.ne gq_90 ?o131)
  case o131 => decide
  have gq_77 := hx_gX gq_77 (gq_77.ne gq_90 ?o132)
  case o132 => decide
  have gq_78 := hx_gX gq_78 (gq_78.ne gq_90 ?o133)
  case o133 => decide
  have gq_82 := hx_gX gq_82 (gq_82.ne gq_90 ?o134)
  case o134 => decide
  have gq_86 := hx_gX gq_86 (gq_86.ne gq_90 ?o135)
  case o135 => decide
  replace f_5 := (hs.o gx trivial rfl).2.trans f_5
  replace f_14 := (hs.o gx trivial rfl).2.trans f_14
  replace po_22 := (hs.o gq_16 trivial rfl).1.trans po_22
  replace po_23 := (hs.o gq_16 trivial rfl).1.trans po_23
  replace po_24 := (hs.o gq_16 trivial rfl).1.trans po_24
  replace fq_27 := (hs.o gq_16 trivial rfl).2.trans fq_27
  replace fq_29 := (hs.o gq_16 trivial rfl).2.trans fq_29
  replace f_32 := (hs.o gx trivial rfl).2.trans f_32
  replace f_36 := (hs.o gx trivial rfl).2.trans f_36
  replace f_41 := (hs.o gx trivial rfl).2.trans f_41
  replace po_49 := (hs.o gq_43 trivial rfl).1.trans po_49
  replace f_51 := (hs.o gx trivial rfl).2.trans f_51
  replace f_56 := (hs.o gx trivial rfl).2.trans f_56
  replace f_60 := (hs.o gx trivial rfl).2.trans f_60
  replace po_68 := (hs.o gq_62 trivial rfl).1.trans po_68
  replace fq_74 := (hs.o gq_62 trivial rfl).2.trans fq_74
  replace fq_75 := (hs.o gq_62 trivial rfl).2.trans fq_75
  replace fq_76 := (hs.o gq_62 trivial rfl).2.trans fq_76
  replace fq_77 := (hs.o gq_62 trivial rfl).2.trans fq_77
  replace fq_78 := (hs.o gq_62 trivial rfl).2.trans fq_78
  replace f_80 := (hs.o gx trivial rfl).2.trans f_80
  replace f_84 := (hs.o gx trivial rfl).2.trans f_84
  replace f_88 := (hs.o gx trivial rfl).2.trans f_88
  replace hz := hx_zr [0, 3, 4, 5, 7, 9, 10, 12, 14, 15, 16] hz hs gx trivial rfl
  replace za_3 : ∀ j, h_93.2.1 q_2 j = 0 ∧ h_93.2.2 q_2 j = none := fun j => ⟨(hs.a gq_2 rfl j).1.trans (za_3 j).1, (hs.a gq_2 rfl j).2.trans (za_3 j).2⟩
  replace za_39 : ∀ j, h_93.2.1 q_38 j = 0 ∧ h_93.2.2 q_38 j = none := fun j => ⟨(hs.a gq_38 rfl j).1.trans (za_39 j).1, (hs.a gq_38 rfl j).2.trans (za_39 j).2⟩
  replace za_54 : ∀ j, h_93.2.1 q_53 j = 0 ∧ h_93.2.2 q_53 j = none := fun j => ⟨(hs.a gq_53 rfl j).1.trans (za_54 j).1, (hs.a gq_53 rfl j).2.trans (za_54 j).2⟩
  replace po_69 : ∀ j, h_93.2.1 q_74 j = 0 ∧ h_93.2.2 q_74 j = none := fun j => ⟨(hs.a gq_74 rfl j).1.trans (po_69 j).1, (hs.a gq_74 rfl j).2.trans (po_69 j).2⟩
  replace po_70 : ∀ j, h_93.2.1 q_75 j = 0 ∧ h_93.2.2 q_75 j = none := fun j => ⟨(hs.a gq_75 rfl j).1.trans (po_70 j).1, (hs.a gq_75 rfl j).2.trans (po_70 j).2⟩
  replace po_71 : ∀ j, h_93.2.1 q_76 j = 0 ∧ h_93.2.2 q_76 j = none := fun j => ⟨(hs.a gq_76 rfl j).1.trans (po_71 j).1, (hs.a gq_76 rfl j).2.trans (po_71 j).2⟩
  replace po_72 : ∀ j, h_93.2.1 q_77 j = 0 ∧ h_93.2.2 q_77 j = none := fun j => ⟨(hs.a gq_77 rfl j).1.trans (po_72 j).1, (hs.a gq_77 rfl j).2.trans (po_72 j).2⟩
  replace po_73 : ∀ j, h_93.2.1 q_78 j = 0 ∧ h_93.2.2 q_78 j = none := fun j => ⟨(hs.a gq_78 rfl j).1.trans (po_73 j).1, (hs.a gq_78 rfl j).2.trans (po_73 j).2⟩
  replace nfw_28 : h_93.2.1 q_27 = fw_28 := (funext fun j => (hs.a gq_27 rfl j).1).trans nfw_28
  replace nfw_30 : h_93.2.1 q_29 = fw_30 := (funext fun j => (hs.a gq_29 rfl j).1).trans nfw_30
  replace hM := hM.trX (hs.mono ?o136) nq_q_90
  case o136 => decide
  replace gx := gx.S hs
  replace gq_2 := gq_2.S hs
  replace gq_7 := gq_7.S hs
  replace gq_16 := gq_16.S hs
  replace gq_27 := gq_27.S hs
  replace gq_29 := gq_29.S hs
  replace gq_34 := gq_34.S hs
  replace gq_38 := gq_38.S hs
  replace gq_43 := gq_43.S hs
  replace gq_53 := gq_53.S hs
  replace gq_58 := gq_58.S hs
  replace gq_62 := gq_62.S hs
  replace gq_74 := gq_74.S hs
  replace gq_75 := gq_75.S hs
  replace gq_76 := gq_76.S hs
  replace gq_77 := gq_77.S hs
  replace gq_78 := gq_78.S hs
  replace gq_82 := gq_82.S hs
  replace gq_86 := gq_86.S hs
  have gq_90 : hx_g L_92 h_93 q_90 5 := gNq_90
  have po_96 : h_93.2.1 q_90 1 = 0 := po_96
  refine hx_putrF hx hb hts hC_9 hown hW hT (hx_S.rf (M := [(125, 17)])) gx tt_125 17 ?o137 rfl kw_381 ⟨rfl, rfl, rfl⟩ rfl hin rfl (x := (some q_90)) ⟨fun _ z => (by cases z), fun q hq => (by cases hq; exact ⟨gq_90.1, by rw [gq_90.2]; decide⟩)⟩ rfl rfl rfl (List.mem_singleton.mpr rfl) dX9_init_119 (fun H locs h_97 eh_97 hW hT hs => ?_)
  case o137 => decide
  replace f_5 := (hs.o gx trivial rfl).2.trans f_5
  replace f_14 := (hs.o gx trivial rfl).2.trans f_14
  replace po_22 := (hs.o gq_16 trivial rfl).1.trans po_22
  replace po_23 := (hs.o gq_16 trivial rfl).1.trans po_23
  replace po_24 := (hs.o gq_16 trivial rfl).1.trans po_24
  replace fq_27 := (hs.o gq_16 trivial rfl).2.trans fq_27
  replace fq_29 := (hs.o gq_16 trivial rfl).2.trans fq_29
  replace f_32 := (hs.o gx trivial rfl).2.trans f_32
  replace f_36 := (hs.o gx trivial rfl).2.trans f_36
  replace f_41 := (hs.o gx trivial rfl).2.trans f_41
  replace po_49 := (hs.o gq_43 trivial rfl).1.trans po_49
  replace f_51 := (hs.o gx trivial rfl).2.trans f_51
  replace f_56 := (hs.o gx trivial rfl).2.trans f_56
  replace f_60 := (hs.o gx trivial rfl).2.trans f_60
  replace po_68 := (hs.o gq_62 trivial rfl).1.trans po_68
  replace fq_74 := (hs.o gq_62 trivial rfl).2.trans fq_74
  replace fq_75 := (hs.o gq_62 trivial rfl).2.trans fq_75
  replace fq_76 := (hs.o gq_62 trivial rfl).2.trans fq_76
  replace fq_77 := (hs.o gq_62 trivial rfl).2.trans fq_77
  replace fq_78 := (hs.o gq_62 trivial rfl).2.trans fq_78
  replace f_80 := (hs.o gx trivial rfl).2.trans f_80
  replace f_84 := (hs.o gx trivial rfl).2.trans f_84
  replace f_88 := (hs.o gx trivial rfl).2.trans f_88
  replace po_96 := (hs.o gq_90 trivial rfl).1.trans po_96
  replace hz := hx_zr [0, 3, 4, 5, 7, 9, 10, 12, 14, 15, 16, 17] hz hs gx trivial rfl
  replace za_3 : ∀ j, h_97.2.1 q_2 j = 0 ∧ h_97.2.2 q_2 j = none := fun j => ⟨(hs.a gq_2 rfl j).1.trans (za_3 j).1, (hs.a gq_2 rfl j).2.trans (za_3 j).2⟩
  replace za_39 : ∀ j, h_97.2.1 q_38 j = 0 ∧ h_97.2.2 q_38 j = none := fun j => ⟨(hs.a gq_38 rfl j).1.trans (za_39 j).1, (hs.a gq_38 rfl j).2.trans (za_39 j).2⟩
  replace za_54 : ∀ j, h_97.2.1 q_53 j = 0 ∧ h_97.2.2 q_53 j = none := fun j => ⟨(hs.a gq_53 rfl j).1.trans (za_54 j).1, (hs.a gq_53 rfl j).2.trans (za_54 j).2⟩
  replace po_69 : ∀ j, h_97.2.1 q_74 j = 0 ∧ h_97.2.2 q_74 j = none := fun j => ⟨(hs.a gq_74 rfl j).1.trans (po_69 j).1, (hs.a gq_74 rfl j).2.trans (po_69 j).2⟩
  replace po_70 : ∀ j, h_97.2.1 q_75 j = 0 ∧ h_97.2.2 q_75 j = none := fun j => ⟨(hs.a gq_75 rfl j).1.trans (po_70 j).1, (hs.a gq_75 rfl j).2.trans (po_70 j).2⟩
  replace po_71 : ∀ j, h_97.2.1 q_76 j = 0 ∧ h_97.2.2 q_76 j = none := fun j => ⟨(hs.a gq_76 rfl j).1.trans (po_71 j).1, (hs.a gq_76 rfl j).2.trans (po_71 j).2⟩
  replace po_72 : ∀ j, h_97.2.1 q_77 j = 0 ∧ h_97.2.2 q_77 j = none := fun j => ⟨(hs.a gq_77 rfl j).1.trans (po_72 j).1, (hs.a gq_77 rfl j).2.trans (po_72 j).2⟩
  replace po_73 : ∀ j, h_97.2.1 q_78 j = 0 ∧ h_97.2.2 q_78 j = none := fun j => ⟨(hs.a gq_78 rfl j).1.trans (po_73 j).1, (hs.a gq_78 rfl j).2.trans (po_73 j).2⟩
  replace nfw_28 : h_97.2.1 q_27 = fw_28 := (funext fun j => (hs.a gq_27 rfl j).1).trans nfw_28
  replace nfw_30 : h_97.2.1 q_29 = fw_30 := (funext fun j => (hs.a gq_29 rfl j).1).trans nfw_30
  replace hM := hM.tr (hs.mono ?o138)
  case o138 => decide
  replace gx := gx.S hs
  replace gq_2 := gq_2.S hs
  replace gq_7 := gq_7.S hs
  replace gq_16 := gq_16.S hs
  replace gq_27 := gq_27.S hs
  replace gq_29 := gq_29.S hs
  replace gq_34 := gq_34.S hs
  replace gq_38 := gq_38.S hs
  replace gq_43 := gq_43.S hs
  replace gq_53 := gq_53.S hs
  replace gq_58 := gq_58.S hs
  replace gq_62 := gq_62.S hs
  replace gq_74 := gq_74.S hs
  replace gq_75 := gq_75.S hs
  replace gq_76 := gq_76.S hs
  replace gq_77 := gq_77.S hs
  replace gq_78 := gq_78.S hs
  replace gq_82 := gq_82.S hs
  replace gq_86 := gq_86.S hs
  replace gq_90 := gq_90.S hs
  have f_98 : h_97.2.2 x 17 = (some q_90) := ?o139
  case o139 =>
    rw [eh_97]
    exact hx_pr_at _ _ _ _
  refine lv_aload_n hx hb dX9_init_122 rfl (lv_at hl 0 rfl) ?_
  refine hk_new hx hb hts hC_7 hown hW 123 tt_123 rfl ?o140 kw_303 kw_304 kw_101 (Nat.le_of_ble_eq_true rfl) (Nat.le_of_ble_eq_true rfl) dX9_init_123 (fun q_100 H h_99 eh_99 hqq_100 hW hs gq_100 => ?_)
  case o140 => decide
  have nq_q_100 : ∀ a ∈ (hx_X L x), a ≠ q_100 := fun a ha z => hqq_100 (z ▸ (hM.1 a ha).1)
  have hT : hx_T T_tb (L_92 ++ [q_100]) h_99 := ?o141
  case o141 =>
    rw [eh_99]
    exact hx_T_nw hT hqq_100 tt_123 rfl
  replace f_5 := (hs.o gx trivial rfl).2.trans f_5
  replace f_14 := (hs.o gx trivial rfl).2.trans f_14
  replace po_22 := (hs.o gq_16 trivial rfl).1.trans po_22
  replace po_23 := (hs.o gq_16 trivial rfl).1.trans po_23
  replace po_24 := (hs.o gq_16 trivial rfl).1.trans po_24
  replace fq_27 := (hs.o gq_16 trivial rfl).2.trans fq_27
  replace fq_29 := (hs.o gq_16 trivial rfl).2.trans fq_29
  replace f_32 := (hs.o gx trivial rfl).2.trans f_32
  replace f_36 := (hs.o gx trivial rfl).2.trans f_36
  replace f_41 := (hs.o gx trivial rfl).2.trans f_41
  replace po_49 := (hs.o gq_43 trivial rfl).1.trans po_49
  replace f_51 := (hs.o gx trivial rfl).2.trans f_51
  replace f_56 := (hs.o gx trivial rfl).2.trans f_56
  replace f_60 := (hs.o gx trivial rfl).2.trans f_60
  replace po_68 := (hs.o gq_62 trivial rfl).1.trans po_68
  replace fq_74 := (hs.o gq_62 trivial rfl).2.trans fq_74
  replace fq_75 := (hs.o gq_62 trivial rfl).2.trans fq_75
  replace fq_76 := (hs.o gq_62 trivial rfl).2.trans fq_76
  replace fq_77 := (hs.o gq_62 trivial rfl).2.trans fq_77
  replace fq_78 := (hs.o gq_62 trivial rfl).2.trans fq_78
  replace f_80 := (hs.o gx trivial rfl).2.trans f_80
  replace f_84 := (hs.o gx trivial rfl).2.trans f_84
  replace f_88 := (hs.o gx trivial rfl).2.trans f_88
  replace po_96 := (hs.o gq_90 trivial rfl).1.trans po_96
  replace f_98 := (hs.o gx trivial rfl).2.trans f_98
  replace hz := hx_zr [0, 3, 4, 5, 7, 9, 10, 12, 14, 15, 16, 17] hz hs gx trivial rfl
  replace za_3 : ∀ j, h_99.2.1 q_2 j = 0 ∧ h_99.2.2 q_2 j = none := fun j => ⟨(hs.a gq_2 rfl j).1.trans (za_3 j).1, (hs.a gq_2 rfl j).2.trans (za_3 j).2⟩
  replace za_39 : ∀ j, h_99.2.1 q_38 j = 0 ∧ h_99.2.2 q_38 j = none := fun j => ⟨(hs.a gq_38 rfl j).1.trans (za_39 j).1, (hs.a gq_38 rfl j).2.trans (za_39 j).2⟩
  replace za_54 : ∀ j, h_99.2.1 q_53 j = 0 ∧ h_99.2.2 q_53 j = none := fun j => ⟨(hs.a gq_53 rfl j).1.trans (za_54 j).1, (hs.a gq_53 rfl j).2.trans (za_54 j).2⟩
  replace po_69 : ∀ j, h_99.2.1 q_74 j = 0 ∧ h_99.2.2 q_74 j = none := fun j => ⟨(hs.a gq_74 rfl j).1.trans (po_69 j).1, (hs.a gq_74 rfl j).2.trans (po_69 j).2⟩
  replace po_70 : ∀ j, h_99.2.1 q_75 j = 0 ∧ h_99.2.2 q_75 j = none := fun j => ⟨(hs.a gq_75 rfl j).1.trans (po_70 j).1, (hs.a gq_75 rfl j).2.trans (po_70 j).2⟩
  replace po_71 : ∀ j, h_99.2.1 q_76 j = 0 ∧ h_99.2.2 q_76 j = none := fun j => ⟨(hs.a gq_76 rfl j).1.trans (po_71 j).1, (hs.a gq_76 rfl j).2.trans (po_71 j).2⟩
  replace po_72 : ∀ j, h_99.2.1 q_77 j = 0 ∧ h_99.2.2 q_77 j = none := fun j => ⟨(hs.a gq_77 rfl j).1.trans (po_72 j).1, (hs.a gq_77 rfl j).2.trans (po_72 j).2⟩
  replace po_73 : ∀ j, h_99.2.1 q_78 j = 0 ∧ h_99.2.2 q_78 j = none := fun j => ⟨(hs.a gq_78 rfl j).1.trans (po_73 j).1, (hs.a gq_78 rfl j).2.trans (po_73 j).2⟩
  replace nfw_28 : h_99.2.1 q_27 = fw_28 := (funext fun j => (hs.a gq_27 rfl j).1).trans nfw_28
  replace nfw_30 : h_99.2.1 q_29 = fw_30 := (funext fun j => (hs.a gq_29 rfl j).1).trans nfw_30
  replace hM := hM.tr (hs.mono ?o142)
  case o142 => decide
  replace gx := gx.S hs
  replace gq_2 := gq_2.S hs
  replace gq_7 := gq_7.S hs
  replace gq_16 := gq_16.S hs
  replace gq_27 := gq_27.S hs
  replace gq_29 := gq_29.S hs
  replace gq_34 := gq_34.S hs
  replace gq_38 := gq_38.S hs
  replace gq_43 := gq_43.S hs
  replace gq_53 := gq_53.S hs
  replace gq_58 := gq_58.S hs
  replace gq_62 := gq_62.S hs
  replace gq_74 := gq_74.S hs
  replace gq_75 := gq_75.S hs
  replace gq_76 := gq_76.S hs
  replace gq_77 := gq_77.S hs
  replace gq_78 := gq_78.S hs
  replace gq_82 := gq_82.S hs
  replace gq_86 := gq_86.S hs
  replace gq_90 := gq_90.S hs
  have fz_101 : ∀ j, ([] : List Nat).contains j = false → h_99.2.1 q_100 j = 0 ∧ h_99.2.2 q_100 j = none := ?o143
  case o143 =>
    rw [eh_99]
    exact fun _ _ => ⟨hx_nw_i, hx_nw_r⟩
  refine lv_dup hx hb dX9_init_126 rfl ?_
  refine hx_gov (hx_runIN (As := []) (rest := [.ref q_100, .ref x]) ⟨hx, hb, hml, hown, hts⟩ hW (t_X7_init_p l dC dI dA (L_92 ++ [q_100]) h_99 H.size q_100 hT gq_100 (fun j => fz_101 j rfl)) ⟨va_cnB 0 hts (hx_gC kw_307) rfl rfl rfl (hZ.1 _ (List.mem_of_getElem? (i := 5) rfl)) (hts _ kw_101) (by decide +kernel) ⟨Nat.le_of_ble_eq_true rfl, Nat.le_of_ble_eq_true rfl⟩, rfl, hts _ kw_306⟩ rfl hl.1 rfl (Nat.le_of_ble_eq_true rfl) dX9_init_127 ⟨Nat.le_of_ble_eq_true rfl, Nat.le_of_ble_eq_true rfl⟩) hW (fun L_102 h_103 H locs p_105 hW => ?_)
  obtain ⟨hT, hs, gNq_100, po_106⟩ := p_105
  replace hT : hx_T T_tb L_102 h_103 := hT
  replace hs : hx_S T_tb [(123, 0), (123, 3), (123, 5), (123, 6), (123, 7)] (hx_X (L_92 ++ [q_100]) q_100) h_99 L_102 h_103 := hs
  have gx := hx_gX gx (gx.ne gq_100 ?o144)
  case o144 => decide
  have gq_2 := hx_gX gq_2 (gq_2.ne gq_100 ?o145)
  case o145 => decide
  have gq_7 := hx_gX gq_7 (gq_7.ne gq_100 ?o146)
  case o146 => decide
  have gq_16 := hx_gX gq_16 (gq_16.ne gq_100 ?o147)
  case o147 => decide
  have gq_27 := hx_gX gq_27 (gq_27.ne gq_100 ?o148)
  case o148 => decide
  have gq_29 := hx_gX gq_29 (gq_29.ne gq_100 ?o149)
  case o149 => decide
  have gq_34 := hx_gX gq_34 (gq_34.ne gq_100 ?o150)
  case o150 => decide
  have gq_38 := hx_gX gq_38 (gq_38.ne gq_100 ?o151)
  case o151 => decide
  have gq_43 := hx_gX gq_43 (gq_43.ne gq_100 ?o152)
  case o152 => decide
  have gq_53 := hx_gX gq_53 (gq_53.ne gq_100 ?o153)
  case o153 => decide
  have gq_58 := hx_gX gq_58 (gq_58.ne gq_100 ?o154)
  case o154 => decide
  have gq_62 := hx_gX gq_62 (gq_62.ne gq_100 ?o155)
  case o155 => decide
  have gq_74 := hx_gX gq_74 (gq_74.ne gq_100 ?o156)
  case o156 => decide
  have gq_75 := hx_gX gq_75 (gq_75.ne gq_100 ?o157)
  case o157 => decide
  have gq_76 := hx_gX gq_76 (gq_76.ne gq_100 ?o158)
  case o158 => decide
  have gq_77 := hx_gX gq_77 (gq_77.ne gq_100 ?o159)
  case o159 => decide
  have gq_78 := hx_gX gq_78 (gq_78.ne gq_100 ?o160)
  case o160 => decide
  have gq_82 := hx_gX gq_82 (gq_82.ne gq_100 ?o161)
  case o161 => decide
  have gq_86 := hx_gX gq_86 (gq_86.ne gq_100 ?o162)
  case o162 => decide
  have gq_90 := hx_gX gq_90 (gq_90.ne gq_100 ?o163)
  case o163 => decide
  replace f_5 := (hs.o gx trivial rfl).2.trans f_5
  replace f_14 := (hs.o gx trivial rfl).2.trans f_14
  replace po_22 := (hs.o gq_16 trivial rfl).1.trans po_22
  replace po_23 := (hs.o gq_16 trivial rfl).1.trans po_23
  replace po_24 := (hs.o gq_16 trivial rfl).1.trans po_24
  replace fq_27 := (hs.o gq_16 trivial rfl).2.trans fq_27
  replace fq_29 := (hs.o gq_16 trivial rfl).2.trans fq_29
  replace f_32 := (hs.o gx trivial rfl).2.trans f_32
  replace f_36 := (hs.o gx trivial rfl).2.trans f_36
  replace f_41 := (hs.o gx trivial rfl).2.trans f_41
  replace po_49 := (hs.o gq_43 trivial rfl).1.trans po_49
  replace f_51 := (hs.o gx trivial rfl).2.trans f_51
  replace f_56 := (hs.o gx trivial rfl).2.trans f_56
  replace f_60 := (hs.o gx trivial rfl).2.trans f_60
  replace po_68 := (hs.o gq_62 trivial rfl).1.trans po_68
  replace fq_74 := (hs.o gq_62 trivial rfl).2.trans fq_74
  replace fq_75 := (hs.o gq_62 trivial rfl).2.trans fq_75
  replace fq_76 := (hs.o gq_62 trivial rfl).2.trans fq_76
  replace fq_77 := (hs.o gq_62 trivial rfl).2.trans fq_77
  replace fq_78 := (hs.o gq_62 trivial rfl).2.trans fq_78
  replace f_80 := (hs.o gx trivial rfl).2.trans f_80
  replace f_84 := (hs.o gx trivial rfl).2.trans f_84
  replace f_88 := (hs.o gx trivial rfl).2.trans f_88
  replace po_96 := (hs.o gq_90 trivial rfl).1.trans po_96
  replace f_98 := (hs.o gx trivial rfl).2.trans f_98
  replace hz := hx_zr [0, 3, 4, 5, 7, 9, 10, 12, 14, 15, 16, 17] hz hs gx trivial rfl
  replace za_3 : ∀ j, h_103.2.1 q_2 j = 0 ∧ h_103.2.2 q_2 j = none := fun j => ⟨(hs.a gq_2 rfl j).1.trans (za_3 j).1, (hs.a gq_2 rfl j).2.trans (za_3 j).2⟩
  replace za_39 : ∀ j, h_103.2.1 q_38 j = 0 ∧ h_103.2.2 q_38 j = none := fun j => ⟨(hs.a gq_38 rfl j).1.trans (za_39 j).1, (hs.a gq_38 rfl j).2.trans (za_39 j).2⟩
  replace za_54 : ∀ j, h_103.2.1 q_53 j = 0 ∧ h_103.2.2 q_53 j = none := fun j => ⟨(hs.a gq_53 rfl j).1.trans (za_54 j).1, (hs.a gq_53 rfl j).2.trans (za_54 j).2⟩
  replace po_69 : ∀ j, h_103.2.1 q_74 j = 0 ∧ h_103.2.2 q_74 j = none := fun j => ⟨(hs.a gq_74 rfl j).1.trans (po_69 j).1, (hs.a gq_74 rfl j).2.trans (po_69 j).2⟩
  replace po_70 : ∀ j, h_103.2.1 q_75 j = 0 ∧ h_103.2.2 q_75 j = none := fun j => ⟨(hs.a gq_75 rfl j).1.trans (po_70 j).1, (hs.a gq_75 rfl j).2.trans (po_70 j).2⟩
  replace po_71 : ∀ j, h_103.2.1 q_76 j = 0 ∧ h_103.2.2 q_76 j = none := fun j => ⟨(hs.a gq_76 rfl j).1.trans (po_71 j).1, (hs.a gq_76 rfl j).2.trans (po_71 j).2⟩
  replace po_72 : ∀ j, h_103.2.1 q_77 j = 0 ∧ h_103.2.2 q_77 j = none := fun j => ⟨(hs.a gq_77 rfl j).1.trans (po_72 j).1, (hs.a gq_77 rfl j).2.trans (po_72 j).2⟩
  replace po_73 : ∀ j, h_103.2.1 q_78 j = 0 ∧ h_103.2.2 q_78 j = none := fun j => ⟨(hs.a gq_78 rfl j).1.trans (po_73 j).1, (hs.a gq_78 rfl j).2.trans (po_73 j).2⟩
  replace nfw_28 : h_103.2.1 q_27 = fw_28 := (funext fun j => (hs.a gq_27 rfl j).1).trans nfw_28
  replace nfw_30 : h_103.2.1 q_29 = fw_30 := (funext fun j => (hs.a gq_29 rfl j).1).trans nfw_30
  replace hM := hM.trX (hs.mono ?o164) nq_q_100
  case o164 => decide
  replace gx := gx.S hs
  replace gq_2 := gq_2.S hs
  replace gq_7 := gq_7.S hs
  replace gq_16 := gq_16.S hs
  replace gq_27 := gq_27.S hs
  replace gq_29 := gq_29.S hs
  replace gq_34 := gq_34.S hs
  replace gq_38 := gq_38.S hs
  replace gq_43 := gq_43.S hs
  replace gq_53 := gq_53.S hs
  replace gq_58 := gq_58.S hs
  replace gq_62 := gq_62.S hs
  replace gq_74 := gq_74.S hs
  replace gq_75 := gq_75.S hs
  replace gq_76 := gq_76.S hs
  replace gq_77 := gq_77.S hs
  replace gq_78 := gq_78.S hs
  replace gq_82 := gq_82.S hs
  replace gq_86 := gq_86.S hs
  replace gq_90 := gq_90.S hs
  have gq_100 : hx_g L_102 h_103 q_100 7 := gNq_100
  have po_106 : h_103.2.1 q_100 0 = -1 := po_106
  refine hx_putrF hx hb hts hC_9 hown hW hT (hx_S.rf (M := [(125, 18)])) gx tt_125 18 ?o165 rfl kw_382 ⟨rfl, rfl, rfl⟩ rfl hin rfl (x := (some q_100)) ⟨fun _ z => (by cases z), fun q hq => (by cases hq; exact ⟨gq_100.1, by rw [gq_100.2]; decide⟩)⟩ rfl rfl rfl (List.mem_singleton.mpr rfl) dX9_init_130 (fun H locs h_107 eh_107 hW hT hs => ?_)
  case o165 => decide
  replace f_5 := (hs.o gx trivial rfl).2.trans f_5
  replace f_14 := (hs.o gx trivial rfl).2.trans f_14
  replace po_22 := (hs.o gq_16 trivial rfl).1.trans po_22
  replace po_23 := (hs.o gq_16 trivial rfl).1.trans po_23
  replace po_24 := (hs.o gq_16 trivial rfl).1.trans po_24
  replace fq_27 := (hs.o gq_16 trivial rfl).2.trans fq_27
  replace fq_29 := (hs.o gq_16 trivial rfl).2.trans fq_29
  replace f_32 := (hs.o gx trivial rfl).2.trans f_32
  replace f_36 := (hs.o gx trivial rfl).2.trans f_36
  replace f_41 := (hs.o gx trivial rfl).2.trans f_41
  replace po_49 := (hs.o gq_43 trivial rfl).1.trans po_49
  replace f_51 := (hs.o gx trivial rfl).2.trans f_51
  replace f_56 := (hs.o gx trivial rfl).2.trans f_56
  replace f_60 := (hs.o gx trivial rfl).2.trans f_60
  replace po_68 := (hs.o gq_62 trivial rfl).1.trans po_68
  replace fq_74 := (hs.o gq_62 trivial rfl).2.trans fq_74
  replace fq_75 := (hs.o gq_62 trivial rfl).2.trans fq_75
  replace fq_76 := (hs.o gq_62 trivial rfl).2.trans fq_76
  replace fq_77 := (hs.o gq_62 trivial rfl).2.trans fq_77
  replace fq_78 := (hs.o gq_62 trivial rfl).2.trans fq_78
  replace f_80 := (hs.o gx trivial rfl).2.trans f_80
  replace f_84 := (hs.o gx trivial rfl).2.trans f_84
  replace f_88 := (hs.o gx trivial rfl).2.trans f_88
  replace po_96 := (hs.o gq_90 trivial rfl).1.trans po_96
  replace f_98 := (hs.o gx trivial rfl).2.trans f_98
  replace po_106 := (hs.o gq_100 trivial rfl).1.trans po_106
  replace hz := hx_zr [0, 3, 4, 5, 7, 9, 10, 12, 14, 15, 16, 17, 18] hz hs gx trivial rfl
  replace za_3 : ∀ j, h_107.2.1 q_2 j = 0 ∧ h_107.2.2 q_2 j = none := fun j => ⟨(hs.a gq_2 rfl j).1.trans (za_3 j).1, (hs.a gq_2 rfl j).2.trans (za_3 j).2⟩
  replace za_39 : ∀ j, h_107.2.1 q_38 j = 0 ∧ h_107.2.2 q_38 j = none := fun j => ⟨(hs.a gq_38 rfl j).1.trans (za_39 j).1, (hs.a gq_38 rfl j).2.trans (za_39 j).2⟩
  replace za_54 : ∀ j, h_107.2.1 q_53 j = 0 ∧ h_107.2.2 q_53 j = none := fun j => ⟨(hs.a gq_53 rfl j).1.trans (za_54 j).1, (hs.a gq_53 rfl j).2.trans (za_54 j).2⟩
  replace po_69 : ∀ j, h_107.2.1 q_74 j = 0 ∧ h_107.2.2 q_74 j = none := fun j => ⟨(hs.a gq_74 rfl j).1.trans (po_69 j).1, (hs.a gq_74 rfl j).2.trans (po_69 j).2⟩
  replace po_70 : ∀ j, h_107.2.1 q_75 j = 0 ∧ h_107.2.2 q_75 j = none := fun j => ⟨(hs.a gq_75 rfl j).1.trans (po_70 j).1, (hs.a gq_75 rfl j).2.trans (po_70 j).2⟩
  replace po_71 : ∀ j, h_107.2.1 q_76 j = 0 ∧ h_107.2.2 q_76 j = none := fun j => ⟨(hs.a gq_76 rfl j).1.trans (po_71 j).1, (hs.a gq_76 rfl j).2.trans (po_71 j).2⟩
  replace po_72 : ∀ j, h_107.2.1 q_77 j = 0 ∧ h_107.2.2 q_77 j = none := fun j => ⟨(hs.a gq_77 rfl j).1.trans (po_72 j).1, (hs.a gq_77 rfl j).2.trans (po_72 j).2⟩
  replace po_73 : ∀ j, h_107.2.1 q_78 j = 0 ∧ h_107.2.2 q_78 j = none := fun j => ⟨(hs.a gq_78 rfl j).1.trans (po_73 j).1, (hs.a gq_78 rfl j).2.trans (po_73 j).2⟩
  replace nfw_28 : h_107.2.1 q_27 = fw_28 := (funext fun j => (hs.a gq_27 rfl j).1).trans nfw_28
  replace nfw_30 : h_107.2.1 q_29 = fw_30 := (funext fun j => (hs.a gq_29 rfl j).1).trans nfw_30
  replace hM := hM.tr (hs.mono ?o166)
  case o166 => decide
  replace gx := gx.S hs
  replace gq_2 := gq_2.S hs
  replace gq_7 := gq_7.S hs
  replace gq_16 := gq_16.S hs
  replace gq_27 := gq_27.S hs
  replace gq_29 := gq_29.S hs
  replace gq_34 := gq_34.S hs
  replace gq_38 := gq_38.S hs
  replace gq_43 := gq_43.S hs
  replace gq_53 := gq_53.S hs
  replace gq_58 := gq_58.S hs
  replace gq_62 := gq_62.S hs
  replace gq_74 := gq_74.S hs
  replace gq_75 := gq_75.S hs
  replace gq_76 := gq_76.S hs
  replace gq_77 := gq_77.S hs
  replace gq_78 := gq_78.S hs
  replace gq_82 := gq_82.S hs
  replace gq_86 := gq_86.S hs
  replace gq_90 := gq_90.S hs
  replace gq_100 := gq_100.S hs
  have f_108 : h_107.2.2 x 18 = (some q_100) := ?o167
  case o167 =>
    rw [eh_107]
    exact hx_pr_at _ _ _ _
  refine lv_aload_n hx hb dX9_init_133 rfl (lv_at hl 0 rfl) ?_
  refine hk_new hx hb hts hC_8 hown hW 124 tt_124 rfl ?o168 kw_338 kw_339 kw_102 (Nat.le_of_ble_eq_true rfl) (Nat.le_of_ble_eq_true rfl) dX9_init_134 (fun q_110 H h_109 eh_109 hqq_110 hW hs gq_110 => ?_)
  case o168 => decide
  have nq_q_110 : ∀ a ∈ (hx_X L x), a ≠ q_110 := fun a ha z => hqq_110 (z ▸ (hM.1 a ha).1)
  have hT : hx_T T_tb (L_102 ++ [q_110]) h_109 := ?o169
  case o169 =>
    rw [eh_109]
    exact hx_T_nw hT hqq_110 tt_124 rfl
  replace f_5 := (hs.o gx trivial rfl).2.trans f_5
  replace f_14 := (hs.o gx trivial rfl).2.trans f_14
  replace po_22 := (hs.o gq_16 trivial rfl).1.trans po_22
  replace po_23 := (hs.o gq_16 trivial rfl).1.trans po_23
  replace po_24 := (hs.o gq_16 trivial rfl).1.trans po_24
  replace fq_27 := (hs.o gq_16 trivial rfl).2.trans fq_27
  replace fq_29 := (hs.o gq_16 trivial rfl).2.trans fq_29
  replace f_32 := (hs.o gx trivial rfl).2.trans f_32
  replace f_36 := (hs.o gx trivial rfl).2.trans f_36
  replace f_41 := (hs.o gx trivial rfl).2.trans f_41
  replace po_49 := (hs.o gq_43 trivial rfl).1.trans po_49
  replace f_51 := (hs.o gx trivial rfl).2.trans f_51
  replace f_56 := (hs.o gx trivial rfl).2.trans f_56
  replace f_60 := (hs.o gx trivial rfl).2.trans f_60
  replace po_68 := (hs.o gq_62 trivial rfl).1.trans po_68
  replace fq_74 := (hs.o gq_62 trivial rfl).2.trans fq_74
  replace fq_75 := (hs.o gq_62 trivial rfl).2.trans fq_75
  replace fq_76 := (hs.o gq_62 trivial rfl).2.trans fq_76
  replace fq_77 := (hs.o gq_62 trivial rfl).2.trans fq_77
  replace fq_78 := (hs.o gq_62 trivial rfl).2.trans fq_78
  replace f_80 := (hs.o gx trivial rfl).2.trans f_80
  replace f_84 := (hs.o gx trivial rfl).2.trans f_84
  replace f_88 := (hs.o gx trivial rfl).2.trans f_88
  replace po_96 := (hs.o gq_90 trivial rfl).1.trans po_96
  replace f_98 := (hs.o gx trivial rfl).2.trans f_98
  replace po_106 := (hs.o gq_100 trivial rfl).1.trans po_106
  replace f_108 := (hs.o gx trivial rfl).2.trans f_108
  replace hz := hx_zr [0, 3, 4, 5, 7, 9, 10, 12, 14, 15, 16, 17, 18] hz hs gx trivial rfl
  replace za_3 : ∀ j, h_109.2.1 q_2 j = 0 ∧ h_109.2.2 q_2 j = none := fun j => ⟨(hs.a gq_2 rfl j).1.trans (za_3 j).1, (hs.a gq_2 rfl j).2.trans (za_3 j).2⟩
  replace za_39 : ∀ j, h_109.2.1 q_38 j = 0 ∧ h_109.2.2 q_38 j = none := fun j => ⟨(hs.a gq_38 rfl j).1.trans (za_39 j).1, (hs.a gq_38 rfl j).2.trans (za_39 j).2⟩
  replace za_54 : ∀ j, h_109.2.1 q_53 j = 0 ∧ h_109.2.2 q_53 j = none := fun j => ⟨(hs.a gq_53 rfl j).1.trans (za_54 j).1, (hs.a gq_53 rfl j).2.trans (za_54 j).2⟩
  replace po_69 : ∀ j, h_109.2.1 q_74 j = 0 ∧ h_109.2.2 q_74 j = none := fun j => ⟨(hs.a gq_74 rfl j).1.trans (po_69 j).1, (hs.a gq_74 rfl j).2.trans (po_69 j).2⟩
  replace po_70 : ∀ j, h_109.2.1 q_75 j = 0 ∧ h_109.2.2 q_75 j = none := fun j => ⟨(hs.a gq_75 rfl j).1.trans (po_70 j).1, (hs.a gq_75 rfl j).2.trans (po_70 j).2⟩
  replace po_71 : ∀ j, h_109.2.1 q_76 j = 0 ∧ h_109.2.2 q_76 j = none := fun j => ⟨(hs.a gq_76 rfl j).1.trans (po_71 j).1, (hs.a gq_76 rfl j).2.trans (po_71 j).2⟩
  replace po_72 : ∀ j, h_109.2.1 q_77 j = 0 ∧ h_109.2.2 q_77 j = none := fun j => ⟨(hs.a gq_77 rfl j).1.trans (po_72 j).1, (hs.a gq_77 rfl j).2.trans (po_72 j).2⟩
  replace po_73 : ∀ j, h_109.2.1 q_78 j = 0 ∧ h_109.2.2 q_78 j = none := fun j => ⟨(hs.a gq_78 rfl j).1.trans (po_73 j).1, (hs.a gq_78 rfl j).2.trans (po_73 j).2⟩
  replace nfw_28 : h_109.2.1 q_27 = fw_28 := (funext fun j => (hs.a gq_27 rfl j).1).trans nfw_28
  replace nfw_30 : h_109.2.1 q_29 = fw_30 := (funext fun j => (hs.a gq_29 rfl j).1).trans nfw_30
  replace hM := hM.tr (hs.mono ?o170)
  case o170 => decide
  replace gx := gx.S hs
  replace gq_2 := gq_2.S hs
  replace gq_7 := gq_7.S hs
  replace gq_16 := gq_16.S hs
  replace gq_27 := gq_27.S hs
  replace gq_29 := gq_29.S hs
  replace gq_34 := gq_34.S hs
  replace gq_38 := gq_38.S hs
  replace gq_43 := gq_43.S hs
  replace gq_53 := gq_53.S hs
  replace gq_58 := gq_58.S hs
  replace gq_62 := gq_62.S hs
  replace gq_74 := gq_74.S hs
  replace gq_75 := gq_75.S hs
  replace gq_76 := gq_76.S hs
  replace gq_77 := gq_77.S hs
  replace gq_78 := gq_78.S hs
  replace gq_82 := gq_82.S hs
  replace gq_86 := gq_86.S hs
  replace gq_90 := gq_90.S hs
  replace gq_100 := gq_100.S hs
  have fz_111 : ∀ j, ([] : List Nat).contains j = false → h_109.2.1 q_110 j = 0 ∧ h_109.2.2 q_110 j = none := ?o171
  case o171 =>
    rw [eh_109]
    exact fun _ _ => ⟨hx_nw_i, hx_nw_r⟩
  refine lv_dup hx hb dX9_init_137 rfl ?_
  refine hx_gov (hx_runINX (As := []) (rest := [.ref q_110, .ref x]) ⟨hx, hb, hml, hown, hts⟩ hW (t_X8_init l dC dI dA (L_102 ++ [q_110]) h_109 H.size b0 q_110 hT gq_110 (fun j => fz_111 j rfl)) hZ ⟨va_cnB 0 hts (hx_gC kw_342) rfl rfl rfl (hZ.1 _ (List.mem_of_getElem? (i := 6) rfl)) (hts _ kw_102) (by decide +kernel) ⟨Nat.le_of_ble_eq_true rfl, Nat.le_of_ble_eq_true rfl⟩, rfl, hts _ kw_341⟩ rfl hl.1 rfl (Nat.le_of_ble_eq_true rfl) dX9_init_138 ⟨Nat.le_of_ble_eq_true rfl, Nat.le_of_ble_eq_true rfl⟩) hW (fun L_112 h_113 H locs p_115 hW => ?_)
  obtain ⟨hT, hs, gNq_110, po_116, po_117, po_118⟩ := p_115
  replace hT : hx_T T_tb L_112 h_113 := hT
  replace hs : hx_S T_tb [(124, 2), (124, 3), (124, 4)] (hx_X (L_102 ++ [q_110]) q_110) h_109 L_112 h_113 := hs
  have gx := hx_gX gx (gx.ne gq_110 ?o172)
  case o172 => decide
  have gq_2 := hx_gX gq_2 (gq_2.ne gq_110 ?o173)
  case o173 => decide
  have gq_7 := hx_gX gq_7 (gq_7.ne gq_110 ?o174)
  case o174 => decide
  have gq_16 := hx_gX gq_16 (gq_16.ne gq_110 ?o175)
  case o175 => decide
  have gq_27 := hx_gX gq_27 (gq_27.ne gq_110 ?o176)
  case o176 => decide
  have gq_29 := hx_gX gq_29 (gq_29.ne gq_110 ?o177)
  case o177 => decide
  have gq_34 := hx_gX gq_34 (gq_34.ne gq_110 ?o178)
  case o178 => decide
  have gq_38 := hx_gX gq_38 (gq_38.ne gq_110 ?o179)
  case o179 => decide
  have gq_43 := hx_gX gq_43 (gq_43.ne gq_110 ?o180)
  case o180 => decide
  have gq_53 := hx_gX gq_53 (gq_53.ne gq_110 ?o181)
  case o181 => decide
  have gq_58 := hx_gX gq_58 (gq_58.ne gq_110 ?o182)
  case o182 => decide
  have gq_62 := hx_gX gq_62 (gq_62.ne gq_110 ?o183)
  case o183 => decide
  have gq_74 := hx_gX gq_74 (gq_74.ne gq_110 ?o184)
  case o184 => decide
  have gq_75 := hx_gX gq_75 (gq_75.ne gq_110 ?o185)
  case o185 => decide
  have gq_76 := hx_gX gq_76 (gq_76.ne gq_110 ?o186)
  case o186 => decide
  have gq_77 := hx_gX gq_77 (gq_77.ne gq_110 ?o187)
  case o187 => decide
  have gq_78 := hx_gX gq_78 (gq_78.ne gq_110 ?o188)
  case o188 => decide
  have gq_82 := hx_gX gq_82 (gq_82.ne gq_110 ?o189)
  case o189 => decide
  have gq_86 := hx_gX gq_86 (gq_86.ne gq_110 ?o190)
  case o190 => decide
  have gq_90 := hx_gX gq_90 (gq_90.ne gq_110 ?o191)
  case o191 => decide
  have gq_100 := hx_gX gq_100 (gq_100.ne gq_110 ?o192)
  case o192 => decide
  replace f_5 := (hs.o gx trivial rfl).2.trans f_5
  replace f_14 := (hs.o gx trivial rfl).2.trans f_14
  replace po_22 := (hs.o gq_16 trivial rfl).1.trans po_22
  replace po_23 := (hs.o gq_16 trivial rfl).1.trans po_23
  replace po_24 := (hs.o gq_16 trivial rfl).1.trans po_24
  replace fq_27 := (hs.o gq_16 trivial rfl).2.trans fq_27
  replace fq_29 := (hs.o gq_16 trivial rfl).2.trans fq_29
  replace f_32 := (hs.o gx trivial rfl).2.trans f_32
  replace f_36 := (hs.o gx trivial rfl).2.trans f_36
  replace f_41 := (hs.o gx trivial rfl).2.trans f_41
  replace po_49 := (hs.o gq_43 trivial rfl).1.trans po_49
  replace f_51 := (hs.o gx trivial rfl).2.trans f_51
  replace f_56 := (hs.o gx trivial rfl).2.trans f_56
  replace f_60 := (hs.o gx trivial rfl).2.trans f_60
  replace po_68 := (hs.o gq_62 trivial rfl).1.trans po_68
  replace fq_74 := (hs.o gq_62 trivial rfl).2.trans fq_74
  replace fq_75 := (hs.o gq_62 trivial rfl).2.trans fq_75
  replace fq_76 := (hs.o gq_62 trivial rfl).2.trans fq_76
  replace fq_77 := (hs.o gq_62 trivial rfl).2.trans fq_77
  replace fq_78 := (hs.o gq_62 trivial rfl).2.trans fq_78
  replace f_80 := (hs.o gx trivial rfl).2.trans f_80
  replace f_84 := (hs.o gx trivial rfl).2.trans f_84
  replace f_88 := (hs.o gx trivial rfl).2.trans f_88
  replace po_96 := (hs.o gq_90 trivial rfl).1.trans po_96
  replace f_98 := (hs.o gx trivial rfl).2.trans f_98
  replace po_106 := (hs.o gq_100 trivial rfl).1.trans po_106
  replace f_108 := (hs.o gx trivial rfl).2.trans f_108
  replace hz := hx_zr [0, 3, 4, 5, 7, 9, 10, 12, 14, 15, 16, 17, 18] hz hs gx trivial rfl
  replace za_3 : ∀ j, h_113.2.1 q_2 j = 0 ∧ h_113.2.2 q_2 j = none := fun j => ⟨(hs.a gq_2 rfl j).1.trans (za_3 j).1, (hs.a gq_2 rfl j).2.trans (za_3 j).2⟩
  replace za_39 : ∀ j, h_113.2.1 q_38 j = 0 ∧ h_113.2.2 q_38 j = none := fun j => ⟨(hs.a gq_38 rfl j).1.trans (za_39 j).1, (hs.a gq_38 rfl j).2.trans (za_39 j).2⟩
  replace za_54 : ∀ j, h_113.2.1 q_53 j = 0 ∧ h_113.2.2 q_53 j = none := fun j => ⟨(hs.a gq_53 rfl j).1.trans (za_54 j).1, (hs.a gq_53 rfl j).2.trans (za_54 j).2⟩
  replace po_69 : ∀ j, h_113.2.1 q_74 j = 0 ∧ h_113.2.2 q_74 j = none := fun j => ⟨(hs.a gq_74 rfl j).1.trans (po_69 j).1, (hs.a gq_74 rfl j).2.trans (po_69 j).2⟩
  replace po_70 : ∀ j, h_113.2.1 q_75 j = 0 ∧ h_113.2.2 q_75 j = none := fun j => ⟨(hs.a gq_75 rfl j).1.trans (po_70 j).1, (hs.a gq_75 rfl j).2.trans (po_70 j).2⟩
  replace po_71 : ∀ j, h_113.2.1 q_76 j = 0 ∧ h_113.2.2 q_76 j = none := fun j => ⟨(hs.a gq_76 rfl j).1.trans (po_71 j).1, (hs.a gq_76 rfl j).2.trans (po_71 j).2⟩
  replace po_72 : ∀ j, h_113.2.1 q_77 j = 0 ∧ h_113.2.2 q_77 j = none := fun j => ⟨(hs.a gq_77 rfl j).1.trans (po_72 j).1, (hs.a gq_77 rfl j).2.trans (po_72 j).2⟩
  replace po_73 : ∀ j, h_113.2.1 q_78 j = 0 ∧ h_113.2.2 q_78 j = none := fun j => ⟨(hs.a gq_78 rfl j).1.trans (po_73 j).1, (hs.a gq_78 rfl j).2.trans (po_73 j).2⟩
  replace nfw_28 : h_113.2.1 q_27 = fw_28 := (funext fun j => (hs.a gq_27 rfl j).1).trans nfw_28
  replace nfw_30 : h_113.2.1 q_29 = fw_30 := (funext fun j => (hs.a gq_29 rfl j).1).trans nfw_30
  replace hM := hM.trX (hs.mono ?o193) nq_q_110
  case o193 => decide
  replace gx := gx.S hs
  replace gq_2 := gq_2.S hs
  replace gq_7 := gq_7.S hs
  replace gq_16 := gq_16.S hs
  replace gq_27 := gq_27.S hs
  replace gq_29 := gq_29.S hs
  replace gq_34 := gq_34.S hs
  replace gq_38 := gq_38.S hs
  replace gq_43 := gq_43.S hs
  replace gq_53 := gq_53.S hs
  replace gq_58 := gq_58.S hs
  replace gq_62 := gq_62.S hs
  replace gq_74 := gq_74.S hs
  replace gq_75 := gq_75.S hs
  replace gq_76 := gq_76.S hs
  replace gq_77 := gq_77.S hs
  replace gq_78 := gq_78.S hs
  replace gq_82 := gq_82.S hs
  replace gq_86 := gq_86.S hs
  replace gq_90 := gq_90.S hs
  replace gq_100 := gq_100.S hs
  have gq_110 : hx_g L_112 h_113 q_110 8 := gNq_110
  have po_116 : h_113.2.1 q_110 0 = 0 := po_116
  have po_117 : h_113.2.1 q_110 1 = 0 := po_117
  obtain ⟨q_119, fq_119, gq_119, po_118⟩ := po_118
  have fq_119 : h_113.2.2 q_110 3 = some q_119 := fq_119
  have gq_119 : hx_g L_112 h_113 q_119 40 := gq_119
  have po_118 : ∀ j, h_113.2.1 q_119 j = 0 ∧ h_113.2.2 q_119 j = none := po_118
  refine hx_putrF hx hb hts hC_9 hown hW hT (hx_S.rf (M := [(125, 19)])) gx tt_125 19 ?o194 rfl kw_383 ⟨rfl, rfl, rfl⟩ rfl hin rfl (x := (some q_110)) ⟨fun _ z => (by cases z), fun q hq => (by cases hq; exact ⟨gq_110.1, by rw [gq_110.2]; decide⟩)⟩ rfl rfl rfl (List.mem_singleton.mpr rfl) dX9_init_141 (fun H locs h_120 eh_120 hW hT hs => ?_)
  case o194 => decide
  replace f_5 := (hs.o gx trivial rfl).2.trans f_5
  replace f_14 := (hs.o gx trivial rfl).2.trans f_14
  replace po_22 := (hs.o gq_16 trivial rfl).1.trans po_22
  replace po_23 := (hs.o gq_16 trivial rfl).1.trans po_23
  replace po_24 := (hs.o gq_16 trivial rfl).1.trans po_24
  replace fq_27 := (hs.o gq_16 trivial rfl).2.trans fq_27
  replace fq_29 := (hs.o gq_16 trivial rfl).2.trans fq_29
  replace f_32 := (hs.o gx trivial rfl).2.trans f_32
  replace f_36 := (hs.o gx trivial rfl).2.trans f_36
  replace f_41 := (hs.o gx trivial rfl).2.trans f_41
  replace po_49 := (hs.o gq_43 trivial rfl).1.trans po_49
  replace f_51 := (hs.o gx trivial rfl).2.trans f_51
  replace f_56 := (hs.o gx trivial rfl).2.trans f_56
  replace f_60 := (hs.o gx trivial rfl).2.trans f_60
  replace po_68 := (hs.o gq_62 trivial rfl).1.trans po_68
  replace fq_74 := (hs.o gq_62 trivial rfl).2.trans fq_74
  replace fq_75 := (hs.o gq_62 trivial rfl).2.trans fq_75
  replace fq_76 := (hs.o gq_62 trivial rfl).2.trans fq_76
  replace fq_77 := (hs.o gq_62 trivial rfl).2.trans fq_77
  replace fq_78 := (hs.o gq_62 trivial rfl).2.trans fq_78
  replace f_80 := (hs.o gx trivial rfl).2.trans f_80
  replace f_84 := (hs.o gx trivial rfl).2.trans f_84
  replace f_88 := (hs.o gx trivial rfl).2.trans f_88
  replace po_96 := (hs.o gq_90 trivial rfl).1.trans po_96
  replace f_98 := (hs.o gx trivial rfl).2.trans f_98
  replace po_106 := (hs.o gq_100 trivial rfl).1.trans po_106
  replace f_108 := (hs.o gx trivial rfl).2.trans f_108
  replace po_116 := (hs.o gq_110 trivial rfl).1.trans po_116
  replace po_117 := (hs.o gq_110 trivial rfl).1.trans po_117
  replace fq_119 := (hs.o gq_110 trivial rfl).2.trans fq_119
  replace hz := hx_zr [0, 3, 4, 5, 7, 9, 10, 12, 14, 15, 16, 17, 18, 19] hz hs gx trivial rfl
  replace za_3 : ∀ j, h_120.2.1 q_2 j = 0 ∧ h_120.2.2 q_2 j = none := fun j => ⟨(hs.a gq_2 rfl j).1.trans (za_3 j).1, (hs.a gq_2 rfl j).2.trans (za_3 j).2⟩
  replace za_39 : ∀ j, h_120.2.1 q_38 j = 0 ∧ h_120.2.2 q_38 j = none := fun j => ⟨(hs.a gq_38 rfl j).1.trans (za_39 j).1, (hs.a gq_38 rfl j).2.trans (za_39 j).2⟩
  replace za_54 : ∀ j, h_120.2.1 q_53 j = 0 ∧ h_120.2.2 q_53 j = none := fun j => ⟨(hs.a gq_53 rfl j).1.trans (za_54 j).1, (hs.a gq_53 rfl j).2.trans (za_54 j).2⟩
  replace po_69 : ∀ j, h_120.2.1 q_74 j = 0 ∧ h_120.2.2 q_74 j = none := fun j => ⟨(hs.a gq_74 rfl j).1.trans (po_69 j).1, (hs.a gq_74 rfl j).2.trans (po_69 j).2⟩
  replace po_70 : ∀ j, h_120.2.1 q_75 j = 0 ∧ h_120.2.2 q_75 j = none := fun j => ⟨(hs.a gq_75 rfl j).1.trans (po_70 j).1, (hs.a gq_75 rfl j).2.trans (po_70 j).2⟩
  replace po_71 : ∀ j, h_120.2.1 q_76 j = 0 ∧ h_120.2.2 q_76 j = none := fun j => ⟨(hs.a gq_76 rfl j).1.trans (po_71 j).1, (hs.a gq_76 rfl j).2.trans (po_71 j).2⟩
  replace po_72 : ∀ j, h_120.2.1 q_77 j = 0 ∧ h_120.2.2 q_77 j = none := fun j => ⟨(hs.a gq_77 rfl j).1.trans (po_72 j).1, (hs.a gq_77 rfl j).2.trans (po_72 j).2⟩
  replace po_73 : ∀ j, h_120.2.1 q_78 j = 0 ∧ h_120.2.2 q_78 j = none := fun j => ⟨(hs.a gq_78 rfl j).1.trans (po_73 j).1, (hs.a gq_78 rfl j).2.trans (po_73 j).2⟩
  replace po_118 : ∀ j, h_120.2.1 q_119 j = 0 ∧ h_120.2.2 q_119 j = none := fun j => ⟨(hs.a gq_119 rfl j).1.trans (po_118 j).1, (hs.a gq_119 rfl j).2.trans (po_118 j).2⟩
  replace nfw_28 : h_120.2.1 q_27 = fw_28 := (funext fun j => (hs.a gq_27 rfl j).1).trans nfw_28
  replace nfw_30 : h_120.2.1 q_29 = fw_30 := (funext fun j => (hs.a gq_29 rfl j).1).trans nfw_30
  replace hM := hM.tr (hs.mono ?o195)
  case o195 => decide
  replace gx := gx.S hs
  replace gq_2 := gq_2.S hs
  replace gq_7 := gq_7.S hs
  replace gq_16 := gq_16.S hs
  replace gq_27 := gq_27.S hs
  replace gq_29 := gq_29.S hs
  replace gq_34 := gq_34.S hs
  replace gq_38 := gq_38.S hs
  replace gq_43 := gq_43.S hs
  replace gq_53 := gq_53.S hs
  replace gq_58 := gq_58.S hs
  replace gq_62 := gq_62.S hs
  replace gq_74 := gq_74.S hs
  replace gq_75 := gq_75.S hs
  replace gq_76 := gq_76.S hs
  replace gq_77 := gq_77.S hs
  replace gq_78 := gq_78.S hs
  replace gq_82 := gq_82.S hs
  replace gq_86 := gq_86.S hs
  replace gq_90 := gq_90.S hs
  replace gq_100 := gq_100.S hs
  replace gq_110 := gq_110.S hs
  replace gq_119 := gq_119.S hs
  have f_121 : h_120.2.2 x 19 = (some q_110) := ?o196
  case o196 =>
    rw [eh_120]
    exact hx_pr_at _ _ _ _
  have f_122 : h_120.2.1 x 2 = 0 := (hz 2 rfl).1
  have f_123 : h_120.2.1 x 6 = 0 := (hz 6 rfl).1
  have f_124 : h_120.2.1 x 8 = 0 := (hz 8 rfl).1
  have f_125 : h_120.2.1 x 11 = 0 := (hz 11 rfl).1
  have f_126 : h_120.2.1 x 13 = 0 := (hz 13 rfl).1
  have f_127 : h_120.2.1 x 1 = 0 := (hz 1 rfl).1
  have hF : hx_F (fun k f => hx_o L_112 h_120 f (h_120.2.1 x k) (h_120.2.2 x k)) T_f9 0 := ⟨hx_or f_5 gq_2 ?o197, hx_oi f_127 ?o198, hx_oi f_122 ?o199, hx_or f_14 gq_7 ?o200, hx_or f_32 gq_16 ?o201, hx_or f_36 gq_34 ?o202, hx_oi f_123 ?o203, hx_or f_41 gq_38 ?o204, hx_oi f_124 ?o205, hx_or f_51 gq_43 ?o206, hx_or f_56 gq_53 ?o207, hx_oi f_125 ?o208, hx_or f_60 gq_58 ?o209, hx_oi f_126 ?o210, hx_or f_80 gq_62 ?o211, hx_or f_84 gq_82 ?o212, hx_or f_88 gq_86 ?o213, hx_or f_98 gq_90 ?o214, hx_or f_108 gq_100 ?o215, hx_or f_121 gq_110 ?o216, trivial⟩
  case o197 => decide
  case o198 => decide
  case o199 => decide
  case o200 => decide
  case o201 => decide
  case o202 => decide
  case o203 => decide
  case o204 => decide
  case o205 => decide
  case o206 => decide
  case o207 => decide
  case o208 => decide
  case o209 => decide
  case o210 => decide
  case o211 => decide
  case o212 => decide
  case o213 => decide
  case o214 => decide
  case o215 => decide
  case o216 => decide
  have hT := hx_T_rt hT gx tt_9 rfl (hx_F_all hF)
  have hW := hx_W_rt hW gx tt_125 tt_9 (fun _ _ => rfl)
  have hM := hx_SX_rt (x := x) (t := 9) hM
  have gq_2 := hx_rt_o (t := 9) gq_2 (gq_2.ne gx ?o217)
  case o217 => decide
  have gq_7 := hx_rt_o (t := 9) gq_7 (gq_7.ne gx ?o218)
  case o218 => decide
  have gq_16 := hx_rt_o (t := 9) gq_16 (gq_16.ne gx ?o219)
  case o219 => decide
  have gq_27 := hx_rt_o (t := 9) gq_27 (gq_27.ne gx ?o220)
  case o220 => decide
  have gq_29 := hx_rt_o (t := 9) gq_29 (gq_29.ne gx ?o221)
  case o221 => decide
  have gq_34 := hx_rt_o (t := 9) gq_34 (gq_34.ne gx ?o222)
  case o222 => decide
  have gq_38 := hx_rt_o (t := 9) gq_38 (gq_38.ne gx ?o223)
  case o223 => decide
  have gq_43 := hx_rt_o (t := 9) gq_43 (gq_43.ne gx ?o224)
  case o224 => decide
  have gq_53 := hx_rt_o (t := 9) gq_53 (gq_53.ne gx ?o225)
  case o225 => decide
  have gq_58 := hx_rt_o (t := 9) gq_58 (gq_58.ne gx ?o226)
  case o226 => decide
  have gq_62 := hx_rt_o (t := 9) gq_62 (gq_62.ne gx ?o227)
  case o227 => decide
  have gq_74 := hx_rt_o (t := 9) gq_74 (gq_74.ne gx ?o228)
  case o228 => decide
  have gq_75 := hx_rt_o (t := 9) gq_75 (gq_75.ne gx ?o229)
  case o229 => decide
  have gq_76 := hx_rt_o (t := 9) gq_76 (gq_76.ne gx ?o230)
  case o230 => decide
  have gq_77 := hx_rt_o (t := 9) gq_77 (gq_77.ne gx ?o231)
  case o231 => decide
  have gq_78 := hx_rt_o (t := 9) gq_78 (gq_78.ne gx ?o232)
  case o232 => decide
  have gq_82 := hx_rt_o (t := 9) gq_82 (gq_82.ne gx ?o233)
  case o233 => decide
  have gq_86 := hx_rt_o (t := 9) gq_86 (gq_86.ne gx ?o234)
  case o234 => decide
  have gq_90 := hx_rt_o (t := 9) gq_90 (gq_90.ne gx ?o235)
  case o235 => decide
  have gq_100 := hx_rt_o (t := 9) gq_100 (gq_100.ne gx ?o236)
  case o236 => decide
  have gq_110 := hx_rt_o (t := 9) gq_110 (gq_110.ne gx ?o237)
  case o237 => decide
  have gq_119 := hx_rt_o (t := 9) gq_119 (gq_119.ne gx ?o238)
  case o238 => decide
  have gx := hx_rt_g (t := 9) gx
  have f_5 : (hx_rt h_120 x 9).2.2 x 0 = some q_2 := f_5
  have f_14 : (hx_rt h_120 x 9).2.2 x 3 = some q_7 := f_14
  have po_22 : (hx_rt h_120 x 9).2.1 q_16 0 = (-1 : Int32) := po_22
  have po_23 : (hx_rt h_120 x 9).2.1 q_16 1 = (-1 : Int32) := po_23
  have po_24 : (hx_rt h_120 x 9).2.1 q_16 4 = (3 : Int32) := po_24
  have fq_27 : (hx_rt h_120 x 9).2.2 q_16 2 = some q_27 := fq_27
  have fq_29 : (hx_rt h_120 x 9).2.2 q_16 3 = some q_29 := fq_29
  have f_32 : (hx_rt h_120 x 9).2.2 x 4 = some q_16 := f_32
  have f_36 : (hx_rt h_120 x 9).2.2 x 5 = some q_34 := f_36
  have f_41 : (hx_rt h_120 x 9).2.2 x 7 = some q_38 := f_41
  have po_49 : (hx_rt h_120 x 9).2.1 q_43 0 = (0 : Int32) := po_49
  have f_51 : (hx_rt h_120 x 9).2.2 x 9 = some q_43 := f_51
  have f_56 : (hx_rt h_120 x 9).2.2 x 10 = some q_53 := f_56
  have f_60 : (hx_rt h_120 x 9).2.2 x 12 = some q_58 := f_60
  have po_68 : (hx_rt h_120 x 9).2.1 q_62 0 = (0 : Int32) := po_68
  have fq_74 : (hx_rt h_120 x 9).2.2 q_62 2 = some q_74 := fq_74
  have fq_75 : (hx_rt h_120 x 9).2.2 q_62 3 = some q_75 := fq_75
  have fq_76 : (hx_rt h_120 x 9).2.2 q_62 5 = some q_76 := fq_76
  have fq_77 : (hx_rt h_120 x 9).2.2 q_62 4 = some q_77 := fq_77
  have fq_78 : (hx_rt h_120 x 9).2.2 q_62 1 = some q_78 := fq_78
  have f_80 : (hx_rt h_120 x 9).2.2 x 14 = some q_62 := f_80
  have f_84 : (hx_rt h_120 x 9).2.2 x 15 = some q_82 := f_84
  have f_88 : (hx_rt h_120 x 9).2.2 x 16 = some q_86 := f_88
  have po_96 : (hx_rt h_120 x 9).2.1 q_90 1 = (0 : Int32) := po_96
  have f_98 : (hx_rt h_120 x 9).2.2 x 17 = some q_90 := f_98
  have po_106 : (hx_rt h_120 x 9).2.1 q_100 0 = (-1 : Int32) := po_106
  have f_108 : (hx_rt h_120 x 9).2.2 x 18 = some q_100 := f_108
  have po_116 : (hx_rt h_120 x 9).2.1 q_110 0 = (0 : Int32) := po_116
  have po_117 : (hx_rt h_120 x 9).2.1 q_110 1 = (0 : Int32) := po_117
  have fq_119 : (hx_rt h_120 x 9).2.2 q_110 3 = some q_119 := fq_119
  have f_121 : (hx_rt h_120 x 9).2.2 x 19 = some q_110 := f_121
  have f_122 : (hx_rt h_120 x 9).2.1 x 2 = (0 : Int32) := f_122
  have f_123 : (hx_rt h_120 x 9).2.1 x 6 = (0 : Int32) := f_123
  have f_124 : (hx_rt h_120 x 9).2.1 x 8 = (0 : Int32) := f_124
  have f_125 : (hx_rt h_120 x 9).2.1 x 11 = (0 : Int32) := f_125
  have f_126 : (hx_rt h_120 x 9).2.1 x 13 = (0 : Int32) := f_126
  have f_127 : (hx_rt h_120 x 9).2.1 x 1 = (0 : Int32) := f_127
  have za_3 : ∀ j, (hx_rt h_120 x 9).2.1 q_2 j = 0 ∧ (hx_rt h_120 x 9).2.2 q_2 j = none := za_3
  have za_39 : ∀ j, (hx_rt h_120 x 9).2.1 q_38 j = 0 ∧ (hx_rt h_120 x 9).2.2 q_38 j = none := za_39
  have za_54 : ∀ j, (hx_rt h_120 x 9).2.1 q_53 j = 0 ∧ (hx_rt h_120 x 9).2.2 q_53 j = none := za_54
  have po_69 : ∀ j, (hx_rt h_120 x 9).2.1 q_74 j = 0 ∧ (hx_rt h_120 x 9).2.2 q_74 j = none := po_69
  have po_70 : ∀ j, (hx_rt h_120 x 9).2.1 q_75 j = 0 ∧ (hx_rt h_120 x 9).2.2 q_75 j = none := po_70
  have po_71 : ∀ j, (hx_rt h_120 x 9).2.1 q_76 j = 0 ∧ (hx_rt h_120 x 9).2.2 q_76 j = none := po_71
  have po_72 : ∀ j, (hx_rt h_120 x 9).2.1 q_77 j = 0 ∧ (hx_rt h_120 x 9).2.2 q_77 j = none := po_72
  have po_73 : ∀ j, (hx_rt h_120 x 9).2.1 q_78 j = 0 ∧ (hx_rt h_120 x 9).2.2 q_78 j = none := po_73
  have po_118 : ∀ j, (hx_rt h_120 x 9).2.1 q_119 j = 0 ∧ (hx_rt h_120 x 9).2.2 q_119 j = none := po_118
  have nfw_28 : (hx_rt h_120 x 9).2.1 q_27 = fw_28 := nfw_28
  have nfw_30 : (hx_rt h_120 x 9).2.1 q_29 = fw_30 := nfw_30
  generalize eh : hx_rt h_120 x 9 = h_128 at hT hW hM gx gq_2 gq_7 gq_16 gq_27 gq_29 gq_34 gq_38 gq_43 gq_53 gq_58 gq_62 gq_74 gq_75 gq_76 gq_77 gq_78 gq_82 gq_86 gq_90 gq_100 gq_110 gq_119 f_5 f_14 po_22 po_23 po_24 fq_27 fq_29 f_32 f_36 f_41 po_49 f_51 f_56 f_60 po_68 fq_74 fq_75 fq_76 fq_77 fq_78 f_80 f_84 f_88 po_96 f_98 po_106 f_108 po_116 po_117 fq_119 f_121 f_122 f_123 f_124 f_125 f_126 f_127 za_3 za_39 za_54 po_69 po_70 po_71 po_72 po_73 po_118 nfw_28 nfw_30
  refine W.widen (k := 43) (n := 10614) (Nat.le_of_ble_eq_true rfl) (Nat.le_of_ble_eq_true rfl) ?_
  exact hx_retv hx hb hr hlk hW ⟨hT, hM, gx, f_122, f_123, f_124, f_125, f_126, ⟨q_110, f_121, gq_110, ⟨po_116, po_117, q_119, fq_119, gq_119, po_118⟩⟩, ⟨q_43, f_51, gq_43, po_49⟩, ⟨q_38, f_41, gq_38, za_39⟩, ⟨q_53, f_56, gq_53, za_54⟩, f_127, ⟨q_2, f_5, gq_2, za_3⟩, ⟨q_16, f_32, gq_16, ⟨by rw [po_22]; decide, by rw [po_23]; decide, fun t ht => by obtain rfl : q_27 = t := Option.some.inj (fq_27.symm.trans ht); rw [nfw_28]; exact hv_rC_0 po_25, fun p hp => by obtain rfl : q_29 = p := Option.some.inj (fq_29.symm.trans hp); rw [nfw_30, po_24, show (3 : Int32).toInt.toNat = 3 from by decide]; exact hv_o0_c po_26⟩⟩, ⟨q_62, f_80, gq_62, ⟨po_68, q_74, fq_74, gq_74, po_69, q_75, fq_75, gq_75, po_70, q_76, fq_76, gq_76, po_71, q_77, fq_77, gq_77, po_72, q_78, fq_78, gq_78, po_73⟩⟩, ⟨q_100, f_108, gq_100, po_106⟩, ⟨q_90, f_98, gq_90, ⟨po_96, trivial⟩⟩⟩ dX9_init_144
end
section
/-! THE CLAIM OUT OF ONE WALK OF THE LAW'S BODY. Your part is whole_start (and what it stands on); all else here is the same for every law, but numbers. -/
def R_law : String := "SmallCourtLaw"
def lw_P (b : Addr) (xs : List Int32) (args : Array Value) (s : State) : Prop := args = #[.ref b] ∧ s.IntsAt b xs ∧ xs.length ≤ 3584 ∧ (Jvm.Cond.and given_1 narrow_1).before args s = true
def lw_Q (_ : Array Value) (s : State) (o : Outcome) (t : State) : Prop := o = .returned (some (.int 1)) ∧ Framed s o t [] 600000 7302250
def lw_Z (below : List Frame) (a : Array Value) (s : State) : State → Prop := fun t => ∃ o, t.status = .running ∧ Ended t below o ∧ lw_Q a s o t
/-- the law's own end, with 1 on the stack, nothing written that was there before, its room as the claim has it -/
theorem lw_ret {p : Program} {l : Launch} {e : Env} {s : State} {m : MethodId} {below : List Frame} {meth : Method} {c : Code} {b : Nat} (hx : p.tables.exec = Jvm.exec) (hb : c.code = code) (hr : meth.sig.returnType = ret) (hlocks : meth.locks = false) {pc : Nat} {H : Heap} {ls : Array Slot} (hdg : decode code pc = .ok (.ireturn, 1)) : W p l e room_1 s m #[Value.ref b] below meth c H [] 600000 7302250 (lw_Z below #[Value.ref b] s) (F0 m pc ls [.int 1]) := by
  intro T hT X
  obtain ⟨fs, hret, hrun, hended, hW, hframe⟩ := X.leave (v := some (.int 1)) (hlocks := hlocks) (fun h => by rw [hr] at h; cases h)
  have hmeth' : T.vm.method? m = some meth := X.method'
  refine ⟨T.setFrames fs, ?_, .returned (some (.int 1)), hrun, hended, rfl, ⟨_, rfl⟩, hW, hframe⟩
  jvm_step X.here [X.here.top, hx, hb, hdg, hmeth', hr, ret, narrow_b1]
  (try refine ⟨rfl, ?_⟩); (try refine ⟨rfl, ?_⟩)
  first | (intro acts; rw [hret _ acts rfl rfl rfl]) | rw [hret _ _ rfl rfl rfl]
  exact Steps.refl _
/-- what holds at the law's entry: the machine, the code, the tables' words (any of lw_tbl by 'hts w (by decide +kernel)'), the script of L ints xs at the cell b, what the Statement gives of the start (any of its parts by flat_of_before) -/
def lw_At (p : Program) (s : State) (m : MethodId) (meth : Method) (c : Code) (b L : Nat) (xs : Nat → Int32) : Prop :=
  p.tables.exec = Jvm.exec ∧ c.code = code ∧ meth.sig.returnType = ret ∧ c.maxLocals = 4 ∧ s.vm.findClass R_law = some m.cls ∧ (∀ w ∈ lw_tbl, w.before #[Value.ref b] s = true) ∧ va_X b L xs s s.heap ∧ b < s.heap.size ∧ meth.locks = false ∧ (Jvm.Cond.and given_1 narrow_1).before #[Value.ref b] s = true
def wNL_law : Nat := 11380634711091364657009224832879126229937506724757849756267403773269168269224345556421605896284210329780931413099135119001970742644836716587504318437168654120848226374087338602692343685223935562050528865563303451118139749010802100578553520436807643616039139765072846027003595643369480036255360581847332737923485016924460708355801083009049467976476377723480303072406459428657009374369823976888600990955464109634271386097790759547530370258165032827946101170167785685773481364040642986134511092647658573490945241429244533249461866179621795126874648220092813718741034663545661663590538861053421393337798934221366496935703104067859700360208399930903418186383497001923318023274551969463675101930563099171291111445255556088137279290368647997829156520947661467552522833517983231375973372562999650937248763168500065571467889483159068594258851409737902695181480251360021451706343152837359622453291182261969750691911432207403836744872257880648876138773739517460840540979065591765644736878180171152858397178813398561908757044764327433130866164640760848027270990786496388251886702180084197389856742648454232552600762074127628184669559280986974467747247211148883521594555655473720987521046091999920930224380153509040634887349096014876615427381742823231063000247951917930404611310178740886118226978642695692797516695372351615220084504104808605880045512134761709683788690971421868468671941729590405388958034279003353664823448571892813225118922893629628236914424479046532304053557136524446692719747305429146917856957892580350732210491013120754969057415754140157553932649251455168844711457008806008679384864269128859358991296967734694327312620040997607343972152128508864891780888703704014046119047923945274892813275921384626303761935337050309546873882425920933301938354086286478057564398098992111113930819009523584625287809948959731072647906483625666164659108386180058871804589180647611930504413541105530231610494460255437568819292446765542041012456906525767488730111228209338206877192710553379811497549985821848291657231133603875753076791575529412668745549265220664581484431090120181662660267523476851049003686611311269361977483274352486797349870339010711100507362874578093310386390359248564853824643805144894826170903133293866035051163649699507237260276744078502348723676345063594964685060899001644726787683808465007315309861898595834591625095702222030078253913646820256112149297363565160591544316170515478675923751008950220006067780289754323489823016670935151746585527345304767632008397656688033509713090969792434047603251967462593743776094145065378386746477015213251822835785296832725683657383296328754467440330268800557944131849839397767700905684265484450178852636035388927266709928926719798356270937058264841904072791879811696286189017180456249651799154467887771328249453811875160295759409442099610727454519721950040482901729019410765127790605416750960315234963043989076880945236542990514990071331803129054091424680228744703833339669954466933139498237823732513130943027093761829414059759035366671126098650936713952538052412603822448321332932353449584208043228476759388022711478012999955934900289812507370158391438289685130091397454790506639195549747341941002370122508792369176438782264631936507728379268469468133244979962081397917025322762008754918908865374722880377994582475494381540370124345531622594928996776369847275396409881412378387322079946408123
theorem wL_law_c : hz_cd cL_law wNL_law 1387 := ⟨by decide +kernel, by decide +kernel⟩
theorem dL_law_0 : decode cL_law 0 = .ok (.new 7, 3) := dw_187 wL_law_c 0 7 rfl rfl
theorem dL_law_3 : decode cL_law 3 = .ok (.dup, 1) := dw_89 wL_law_c rfl
theorem dL_law_4 : decode cL_law 4 = .ok (.invokespecial 9, 3) := dw_183 wL_law_c 0 9 rfl rfl
theorem dL_law_7 : decode cL_law 7 = .ok (.astore_n 1, 1) := dw_76 wL_law_c rfl
theorem dL_law_8 : decode cL_law 8 = .ok (.new 10, 3) := dw_187 wL_law_c 0 10 rfl rfl
theorem dL_law_11 : decode cL_law 11 = .ok (.dup, 1) := dw_89 wL_law_c rfl
theorem dL_law_12 : decode cL_law 12 = .ok (.invokespecial 12, 3) := dw_183 wL_law_c 0 12 rfl rfl
theorem dL_law_15 : decode cL_law 15 = .ok (.astore_n 2, 1) := dw_77 wL_law_c rfl
theorem dL_law_16 : decode cL_law 16 = .ok (.iconst 0, 1) := dw_3 wL_law_c rfl
theorem dL_law_17 : decode cL_law 17 = .ok (.istore_n 3, 1) := dw_62 wL_law_c rfl
theorem dL_law_18 : decode cL_law 18 = .ok (.iload_n 3, 1) := dw_29 wL_law_c rfl
theorem dL_law_19 : decode cL_law 19 = .ok (.aload_n 0, 1) := dw_42 wL_law_c rfl
theorem dL_law_20 : decode cL_law 20 = .ok (.arraylength, 1) := dw_190 wL_law_c rfl
theorem dL_law_21 : decode cL_law 21 = .ok (.bipush 7, 2) := dw_16 wL_law_c 7 rfl rfl rfl
theorem dL_law_23 : decode cL_law 23 = .ok (.isub, 1) := dw_100 wL_law_c rfl
theorem dL_law_24 : decode cL_law 24 = .ok (.if_icmp .gt 1361, 3) := dw_163 wL_law_c 5 81 rfl rfl rfl
theorem dL_law_27 : decode cL_law 27 = .ok (.aload_n 0, 1) := dw_42 wL_law_c rfl
theorem dL_law_28 : decode cL_law 28 = .ok (.iload_n 3, 1) := dw_29 wL_law_c rfl
theorem dL_law_29 : decode cL_law 29 = .ok (.iaload, 1) := dw_46 wL_law_c rfl
theorem dL_law_30 : decode cL_law 30 = .ok (.bipush 31, 2) := dw_16 wL_law_c 31 rfl rfl rfl
theorem dL_law_32 : decode cL_law 32 = .ok (.iand, 1) := dw_126 wL_law_c rfl
theorem dL_law_33 : decode cL_law 33 = .ok (.tableswitch 1346 0 30 #[139, 162, 225, 248, 271, 304, 379, 442, 465, 514, 577, 630, 721, 770, 855, 888, 931, 954, 987, 1010, 1043, 1096, 1129, 1162, 1175, 1198, 1221, 1234, 1257, 1290, 1323], 139) := by decide +kernel
theorem dL_law_172 : decode cL_law 172 = .ok (.aload_n 1, 1) := dw_43 wL_law_c rfl
theorem dL_law_173 : decode cL_law 173 = .ok (.aload_n 0, 1) := dw_42 wL_law_c rfl
theorem dL_law_174 : decode cL_law 174 = .ok (.iload_n 3, 1) := dw_29 wL_law_c rfl
theorem dL_law_175 : decode cL_law 175 = .ok (.iconst 1, 1) := dw_4 wL_law_c rfl
theorem dL_law_176 : decode cL_law 176 = .ok (.iadd, 1) := dw_96 wL_law_c rfl
theorem dL_law_177 : decode cL_law 177 = .ok (.iaload, 1) := dw_46 wL_law_c rfl
theorem dL_law_178 : decode cL_law 178 = .ok (.invokevirtual 13, 3) := dw_182 wL_law_c 0 13 rfl rfl
theorem dL_law_181 : decode cL_law 181 = .ok (.pop, 1) := dw_87 wL_law_c rfl
theorem dL_law_182 : decode cL_law 182 = .ok (.aload_n 2, 1) := dw_44 wL_law_c rfl
theorem dL_law_183 : decode cL_law 183 = .ok (.aload_n 0, 1) := dw_42 wL_law_c rfl
theorem dL_law_184 : decode cL_law 184 = .ok (.iload_n 3, 1) := dw_29 wL_law_c rfl
theorem dL_law_185 : decode cL_law 185 = .ok (.iconst 1, 1) := dw_4 wL_law_c rfl
theorem dL_law_186 : decode cL_law 186 = .ok (.iadd, 1) := dw_96 wL_law_c rfl
theorem dL_law_187 : decode cL_law 187 = .ok (.iaload, 1) := dw_46 wL_law_c rfl
theorem dL_law_188 : decode cL_law 188 = .ok (.invokevirtual 17, 3) := dw_182 wL_law_c 0 17 rfl rfl
theorem dL_law_191 : decode cL_law 191 = .ok (.pop, 1) := dw_87 wL_law_c rfl
theorem dL_law_192 : decode cL_law 192 = .ok (.goto 1187, 3) := dw_167 wL_law_c 4 163 rfl rfl rfl
theorem dL_law_195 : decode cL_law 195 = .ok (.aload_n 1, 1) := dw_43 wL_law_c rfl
theorem dL_law_196 : decode cL_law 196 = .ok (.aload_n 0, 1) := dw_42 wL_law_c rfl
theorem dL_law_197 : decode cL_law 197 = .ok (.iload_n 3, 1) := dw_29 wL_law_c rfl
theorem dL_law_198 : decode cL_law 198 = .ok (.iconst 1, 1) := dw_4 wL_law_c rfl
theorem dL_law_199 : decode cL_law 199 = .ok (.iadd, 1) := dw_96 wL_law_c rfl
theorem dL_law_200 : decode cL_law 200 = .ok (.iaload, 1) := dw_46 wL_law_c rfl
theorem dL_law_201 : decode cL_law 201 = .ok (.aload_n 0, 1) := dw_42 wL_law_c rfl
theorem dL_law_202 : decode cL_law 202 = .ok (.iload_n 3, 1) := dw_29 wL_law_c rfl
theorem dL_law_203 : decode cL_law 203 = .ok (.iconst 2, 1) := dw_5 wL_law_c rfl
theorem dL_law_204 : decode cL_law 204 = .ok (.iadd, 1) := dw_96 wL_law_c rfl
theorem dL_law_205 : decode cL_law 205 = .ok (.iaload, 1) := dw_46 wL_law_c rfl
theorem dL_law_206 : decode cL_law 206 = .ok (.aload_n 0, 1) := dw_42 wL_law_c rfl
theorem dL_law_207 : decode cL_law 207 = .ok (.iload_n 3, 1) := dw_29 wL_law_c rfl
theorem dL_law_208 : decode cL_law 208 = .ok (.iconst 3, 1) := dw_6 wL_law_c rfl
theorem dL_law_209 : decode cL_law 209 = .ok (.iadd, 1) := dw_96 wL_law_c rfl
theorem dL_law_210 : decode cL_law 210 = .ok (.iaload, 1) := dw_46 wL_law_c rfl
theorem dL_law_211 : decode cL_law 211 = .ok (.aload_n 0, 1) := dw_42 wL_law_c rfl
theorem dL_law_212 : decode cL_law 212 = .ok (.iload_n 3, 1) := dw_29 wL_law_c rfl
theorem dL_law_213 : decode cL_law 213 = .ok (.iconst 4, 1) := dw_7 wL_law_c rfl
theorem dL_law_214 : decode cL_law 214 = .ok (.iadd, 1) := dw_96 wL_law_c rfl
theorem dL_law_215 : decode cL_law 215 = .ok (.iaload, 1) := dw_46 wL_law_c rfl
theorem dL_law_216 : decode cL_law 216 = .ok (.aload_n 0, 1) := dw_42 wL_law_c rfl
theorem dL_law_217 : decode cL_law 217 = .ok (.iload_n 3, 1) := dw_29 wL_law_c rfl
theorem dL_law_218 : decode cL_law 218 = .ok (.iconst 5, 1) := dw_8 wL_law_c rfl
theorem dL_law_219 : decode cL_law 219 = .ok (.iadd, 1) := dw_96 wL_law_c rfl
theorem dL_law_220 : decode cL_law 220 = .ok (.iaload, 1) := dw_46 wL_law_c rfl
theorem dL_law_221 : decode cL_law 221 = .ok (.invokevirtual 18, 3) := dw_182 wL_law_c 0 18 rfl rfl
theorem dL_law_224 : decode cL_law 224 = .ok (.pop, 1) := dw_87 wL_law_c rfl
theorem dL_law_225 : decode cL_law 225 = .ok (.aload_n 2, 1) := dw_44 wL_law_c rfl
theorem dL_law_226 : decode cL_law 226 = .ok (.aload_n 0, 1) := dw_42 wL_law_c rfl
theorem dL_law_227 : decode cL_law 227 = .ok (.iload_n 3, 1) := dw_29 wL_law_c rfl
theorem dL_law_228 : decode cL_law 228 = .ok (.iconst 1, 1) := dw_4 wL_law_c rfl
theorem dL_law_229 : decode cL_law 229 = .ok (.iadd, 1) := dw_96 wL_law_c rfl
theorem dL_law_230 : decode cL_law 230 = .ok (.iaload, 1) := dw_46 wL_law_c rfl
theorem dL_law_231 : decode cL_law 231 = .ok (.aload_n 0, 1) := dw_42 wL_law_c rfl
theorem dL_law_232 : decode cL_law 232 = .ok (.iload_n 3, 1) := dw_29 wL_law_c rfl
theorem dL_law_233 : decode cL_law 233 = .ok (.iconst 2, 1) := dw_5 wL_law_c rfl
theorem dL_law_234 : decode cL_law 234 = .ok (.iadd, 1) := dw_96 wL_law_c rfl
theorem dL_law_235 : decode cL_law 235 = .ok (.iaload, 1) := dw_46 wL_law_c rfl
theorem dL_law_236 : decode cL_law 236 = .ok (.aload_n 0, 1) := dw_42 wL_law_c rfl
theorem dL_law_237 : decode cL_law 237 = .ok (.iload_n 3, 1) := dw_29 wL_law_c rfl
theorem dL_law_238 : decode cL_law 238 = .ok (.iconst 3, 1) := dw_6 wL_law_c rfl
theorem dL_law_239 : decode cL_law 239 = .ok (.iadd, 1) := dw_96 wL_law_c rfl
theorem dL_law_240 : decode cL_law 240 = .ok (.iaload, 1) := dw_46 wL_law_c rfl
theorem dL_law_241 : decode cL_law 241 = .ok (.aload_n 0, 1) := dw_42 wL_law_c rfl
theorem dL_law_242 : decode cL_law 242 = .ok (.iload_n 3, 1) := dw_29 wL_law_c rfl
theorem dL_law_243 : decode cL_law 243 = .ok (.iconst 4, 1) := dw_7 wL_law_c rfl
theorem dL_law_244 : decode cL_law 244 = .ok (.iadd, 1) := dw_96 wL_law_c rfl
theorem dL_law_245 : decode cL_law 245 = .ok (.iaload, 1) := dw_46 wL_law_c rfl
theorem dL_law_246 : decode cL_law 246 = .ok (.aload_n 0, 1) := dw_42 wL_law_c rfl
theorem dL_law_247 : decode cL_law 247 = .ok (.iload_n 3, 1) := dw_29 wL_law_c rfl
theorem dL_law_248 : decode cL_law 248 = .ok (.iconst 5, 1) := dw_8 wL_law_c rfl
theorem dL_law_249 : decode cL_law 249 = .ok (.iadd, 1) := dw_96 wL_law_c rfl
theorem dL_law_250 : decode cL_law 250 = .ok (.iaload, 1) := dw_46 wL_law_c rfl
theorem dL_law_251 : decode cL_law 251 = .ok (.invokevirtual 22, 3) := dw_182 wL_law_c 0 22 rfl rfl
theorem dL_law_254 : decode cL_law 254 = .ok (.pop, 1) := dw_87 wL_law_c rfl
theorem dL_law_255 : decode cL_law 255 = .ok (.goto 1124, 3) := dw_167 wL_law_c 4 100 rfl rfl rfl
theorem dL_law_258 : decode cL_law 258 = .ok (.aload_n 1, 1) := dw_43 wL_law_c rfl
theorem dL_law_259 : decode cL_law 259 = .ok (.aload_n 0, 1) := dw_42 wL_law_c rfl
theorem dL_law_260 : decode cL_law 260 = .ok (.iload_n 3, 1) := dw_29 wL_law_c rfl
theorem dL_law_261 : decode cL_law 261 = .ok (.iconst 1, 1) := dw_4 wL_law_c rfl
theorem dL_law_262 : decode cL_law 262 = .ok (.iadd, 1) := dw_96 wL_law_c rfl
theorem dL_law_263 : decode cL_law 263 = .ok (.iaload, 1) := dw_46 wL_law_c rfl
theorem dL_law_264 : decode cL_law 264 = .ok (.invokevirtual 23, 3) := dw_182 wL_law_c 0 23 rfl rfl
theorem dL_law_267 : decode cL_law 267 = .ok (.pop, 1) := dw_87 wL_law_c rfl
theorem dL_law_268 : decode cL_law 268 = .ok (.aload_n 2, 1) := dw_44 wL_law_c rfl
theorem dL_law_269 : decode cL_law 269 = .ok (.aload_n 0, 1) := dw_42 wL_law_c rfl
theorem dL_law_270 : decode cL_law 270 = .ok (.iload_n 3, 1) := dw_29 wL_law_c rfl
theorem dL_law_271 : decode cL_law 271 = .ok (.iconst 1, 1) := dw_4 wL_law_c rfl
theorem dL_law_272 : decode cL_law 272 = .ok (.iadd, 1) := dw_96 wL_law_c rfl
theorem dL_law_273 : decode cL_law 273 = .ok (.iaload, 1) := dw_46 wL_law_c rfl
theorem dL_law_274 : decode cL_law 274 = .ok (.invokevirtual 27, 3) := dw_182 wL_law_c 0 27 rfl rfl
theorem dL_law_277 : decode cL_law 277 = .ok (.pop, 1) := dw_87 wL_law_c rfl
theorem dL_law_278 : decode cL_law 278 = .ok (.goto 1101, 3) := dw_167 wL_law_c 4 77 rfl rfl rfl
theorem dL_law_281 : decode cL_law 281 = .ok (.aload_n 1, 1) := dw_43 wL_law_c rfl
theorem dL_law_282 : decode cL_law 282 = .ok (.aload_n 0, 1) := dw_42 wL_law_c rfl
theorem dL_law_283 : decode cL_law 283 = .ok (.iload_n 3, 1) := dw_29 wL_law_c rfl
theorem dL_law_284 : decode cL_law 284 = .ok (.iconst 1, 1) := dw_4 wL_law_c rfl
theorem dL_law_285 : decode cL_law 285 = .ok (.iadd, 1) := dw_96 wL_law_c rfl
theorem dL_law_286 : decode cL_law 286 = .ok (.iaload, 1) := dw_46 wL_law_c rfl
theorem dL_law_287 : decode cL_law 287 = .ok (.invokevirtual 28, 3) := dw_182 wL_law_c 0 28 rfl rfl
theorem dL_law_290 : decode cL_law 290 = .ok (.pop, 1) := dw_87 wL_law_c rfl
theorem dL_law_291 : decode cL_law 291 = .ok (.aload_n 2, 1) := dw_44 wL_law_c rfl
theorem dL_law_292 : decode cL_law 292 = .ok (.aload_n 0, 1) := dw_42 wL_law_c rfl
theorem dL_law_293 : decode cL_law 293 = .ok (.iload_n 3, 1) := dw_29 wL_law_c rfl
theorem dL_law_294 : decode cL_law 294 = .ok (.iconst 1, 1) := dw_4 wL_law_c rfl
theorem dL_law_295 : decode cL_law 295 = .ok (.iadd, 1) := dw_96 wL_law_c rfl
theorem dL_law_296 : decode cL_law 296 = .ok (.iaload, 1) := dw_46 wL_law_c rfl
theorem dL_law_297 : decode cL_law 297 = .ok (.invokevirtual 31, 3) := dw_182 wL_law_c 0 31 rfl rfl
theorem dL_law_300 : decode cL_law 300 = .ok (.pop, 1) := dw_87 wL_law_c rfl
theorem dL_law_301 : decode cL_law 301 = .ok (.goto 1078, 3) := dw_167 wL_law_c 4 54 rfl rfl rfl
theorem dL_law_304 : decode cL_law 304 = .ok (.aload_n 1, 1) := dw_43 wL_law_c rfl
theorem dL_law_305 : decode cL_law 305 = .ok (.aload_n 0, 1) := dw_42 wL_law_c rfl
theorem dL_law_306 : decode cL_law 306 = .ok (.iload_n 3, 1) := dw_29 wL_law_c rfl
theorem dL_law_307 : decode cL_law 307 = .ok (.iconst 1, 1) := dw_4 wL_law_c rfl
theorem dL_law_308 : decode cL_law 308 = .ok (.iadd, 1) := dw_96 wL_law_c rfl
theorem dL_law_309 : decode cL_law 309 = .ok (.iaload, 1) := dw_46 wL_law_c rfl
theorem dL_law_310 : decode cL_law 310 = .ok (.aload_n 0, 1) := dw_42 wL_law_c rfl
theorem dL_law_311 : decode cL_law 311 = .ok (.iload_n 3, 1) := dw_29 wL_law_c rfl
theorem dL_law_312 : decode cL_law 312 = .ok (.iconst 2, 1) := dw_5 wL_law_c rfl
theorem dL_law_313 : decode cL_law 313 = .ok (.iadd, 1) := dw_96 wL_law_c rfl
theorem dL_law_314 : decode cL_law 314 = .ok (.iaload, 1) := dw_46 wL_law_c rfl
theorem dL_law_315 : decode cL_law 315 = .ok (.invokevirtual 32, 3) := dw_182 wL_law_c 0 32 rfl rfl
theorem dL_law_318 : decode cL_law 318 = .ok (.pop, 1) := dw_87 wL_law_c rfl
theorem dL_law_319 : decode cL_law 319 = .ok (.aload_n 2, 1) := dw_44 wL_law_c rfl
theorem dL_law_320 : decode cL_law 320 = .ok (.aload_n 0, 1) := dw_42 wL_law_c rfl
theorem dL_law_321 : decode cL_law 321 = .ok (.iload_n 3, 1) := dw_29 wL_law_c rfl
theorem dL_law_322 : decode cL_law 322 = .ok (.iconst 1, 1) := dw_4 wL_law_c rfl
theorem dL_law_323 : decode cL_law 323 = .ok (.iadd, 1) := dw_96 wL_law_c rfl
theorem dL_law_324 : decode cL_law 324 = .ok (.iaload, 1) := dw_46 wL_law_c rfl
theorem dL_law_325 : decode cL_law 325 = .ok (.aload_n 0, 1) := dw_42 wL_law_c rfl
theorem dL_law_326 : decode cL_law 326 = .ok (.iload_n 3, 1) := dw_29 wL_law_c rfl
theorem dL_law_327 : decode cL_law 327 = .ok (.iconst 2, 1) := dw_5 wL_law_c rfl
theorem dL_law_328 : decode cL_law 328 = .ok (.iadd, 1) := dw_96 wL_law_c rfl
theorem dL_law_329 : decode cL_law 329 = .ok (.iaload, 1) := dw_46 wL_law_c rfl
theorem dL_law_330 : decode cL_law 330 = .ok (.invokevirtual 36, 3) := dw_182 wL_law_c 0 36 rfl rfl
theorem dL_law_333 : decode cL_law 333 = .ok (.pop, 1) := dw_87 wL_law_c rfl
theorem dL_law_334 : decode cL_law 334 = .ok (.goto 1045, 3) := dw_167 wL_law_c 4 21 rfl rfl rfl
theorem dL_law_337 : decode cL_law 337 = .ok (.aload_n 1, 1) := dw_43 wL_law_c rfl
theorem dL_law_338 : decode cL_law 338 = .ok (.aload_n 0, 1) := dw_42 wL_law_c rfl
theorem dL_law_339 : decode cL_law 339 = .ok (.iload_n 3, 1) := dw_29 wL_law_c rfl
theorem dL_law_340 : decode cL_law 340 = .ok (.iconst 1, 1) := dw_4 wL_law_c rfl
theorem dL_law_341 : decode cL_law 341 = .ok (.iadd, 1) := dw_96 wL_law_c rfl
theorem dL_law_342 : decode cL_law 342 = .ok (.iaload, 1) := dw_46 wL_law_c rfl
theorem dL_law_343 : decode cL_law 343 = .ok (.aload_n 0, 1) := dw_42 wL_law_c rfl
theorem dL_law_344 : decode cL_law 344 = .ok (.iload_n 3, 1) := dw_29 wL_law_c rfl
theorem dL_law_345 : decode cL_law 345 = .ok (.iconst 2, 1) := dw_5 wL_law_c rfl
theorem dL_law_346 : decode cL_law 346 = .ok (.iadd, 1) := dw_96 wL_law_c rfl
theorem dL_law_347 : decode cL_law 347 = .ok (.iaload, 1) := dw_46 wL_law_c rfl
theorem dL_law_348 : decode cL_law 348 = .ok (.aload_n 0, 1) := dw_42 wL_law_c rfl
theorem dL_law_349 : decode cL_law 349 = .ok (.iload_n 3, 1) := dw_29 wL_law_c rfl
theorem dL_law_350 : decode cL_law 350 = .ok (.iconst 3, 1) := dw_6 wL_law_c rfl
theorem dL_law_351 : decode cL_law 351 = .ok (.iadd, 1) := dw_96 wL_law_c rfl
theorem dL_law_352 : decode cL_law 352 = .ok (.iaload, 1) := dw_46 wL_law_c rfl
theorem dL_law_353 : decode cL_law 353 = .ok (.aload_n 0, 1) := dw_42 wL_law_c rfl
theorem dL_law_354 : decode cL_law 354 = .ok (.iload_n 3, 1) := dw_29 wL_law_c rfl
theorem dL_law_355 : decode cL_law 355 = .ok (.iconst 4, 1) := dw_7 wL_law_c rfl
theorem dL_law_356 : decode cL_law 356 = .ok (.iadd, 1) := dw_96 wL_law_c rfl
theorem dL_law_357 : decode cL_law 357 = .ok (.iaload, 1) := dw_46 wL_law_c rfl
theorem dL_law_358 : decode cL_law 358 = .ok (.aload_n 0, 1) := dw_42 wL_law_c rfl
theorem dL_law_359 : decode cL_law 359 = .ok (.iload_n 3, 1) := dw_29 wL_law_c rfl
theorem dL_law_360 : decode cL_law 360 = .ok (.iconst 5, 1) := dw_8 wL_law_c rfl
theorem dL_law_361 : decode cL_law 361 = .ok (.iadd, 1) := dw_96 wL_law_c rfl
theorem dL_law_362 : decode cL_law 362 = .ok (.iaload, 1) := dw_46 wL_law_c rfl
theorem dL_law_363 : decode cL_law 363 = .ok (.aload_n 0, 1) := dw_42 wL_law_c rfl
theorem dL_law_364 : decode cL_law 364 = .ok (.iload_n 3, 1) := dw_29 wL_law_c rfl
theorem dL_law_365 : decode cL_law 365 = .ok (.bipush 6, 2) := dw_16 wL_law_c 6 rfl rfl rfl
theorem dL_law_367 : decode cL_law 367 = .ok (.iadd, 1) := dw_96 wL_law_c rfl
theorem dL_law_368 : decode cL_law 368 = .ok (.iaload, 1) := dw_46 wL_law_c rfl
theorem dL_law_369 : decode cL_law 369 = .ok (.invokevirtual 37, 3) := dw_182 wL_law_c 0 37 rfl rfl
theorem dL_law_372 : decode cL_law 372 = .ok (.pop, 1) := dw_87 wL_law_c rfl
theorem dL_law_373 : decode cL_law 373 = .ok (.aload_n 2, 1) := dw_44 wL_law_c rfl
theorem dL_law_374 : decode cL_law 374 = .ok (.aload_n 0, 1) := dw_42 wL_law_c rfl
theorem dL_law_375 : decode cL_law 375 = .ok (.iload_n 3, 1) := dw_29 wL_law_c rfl
theorem dL_law_376 : decode cL_law 376 = .ok (.iconst 1, 1) := dw_4 wL_law_c rfl
theorem dL_law_377 : decode cL_law 377 = .ok (.iadd, 1) := dw_96 wL_law_c rfl
theorem dL_law_378 : decode cL_law 378 = .ok (.iaload, 1) := dw_46 wL_law_c rfl
theorem dL_law_379 : decode cL_law 379 = .ok (.aload_n 0, 1) := dw_42 wL_law_c rfl
theorem dL_law_380 : decode cL_law 380 = .ok (.iload_n 3, 1) := dw_29 wL_law_c rfl
theorem dL_law_381 : decode cL_law 381 = .ok (.iconst 2, 1) := dw_5 wL_law_c rfl
theorem dL_law_382 : decode cL_law 382 = .ok (.iadd, 1) := dw_96 wL_law_c rfl
theorem dL_law_383 : decode cL_law 383 = .ok (.iaload, 1) := dw_46 wL_law_c rfl
theorem dL_law_384 : decode cL_law 384 = .ok (.aload_n 0, 1) := dw_42 wL_law_c rfl
theorem dL_law_385 : decode cL_law 385 = .ok (.iload_n 3, 1) := dw_29 wL_law_c rfl
theorem dL_law_386 : decode cL_law 386 = .ok (.iconst 3, 1) := dw_6 wL_law_c rfl
theorem dL_law_387 : decode cL_law 387 = .ok (.iadd, 1) := dw_96 wL_law_c rfl
theorem dL_law_388 : decode cL_law 388 = .ok (.iaload, 1) := dw_46 wL_law_c rfl
theorem dL_law_389 : decode cL_law 389 = .ok (.aload_n 0, 1) := dw_42 wL_law_c rfl
theorem dL_law_390 : decode cL_law 390 = .ok (.iload_n 3, 1) := dw_29 wL_law_c rfl
theorem dL_law_391 : decode cL_law 391 = .ok (.iconst 4, 1) := dw_7 wL_law_c rfl
theorem dL_law_392 : decode cL_law 392 = .ok (.iadd, 1) := dw_96 wL_law_c rfl
theorem dL_law_393 : decode cL_law 393 = .ok (.iaload, 1) := dw_46 wL_law_c rfl
theorem dL_law_394 : decode cL_law 394 = .ok (.aload_n 0, 1) := dw_42 wL_law_c rfl
theorem dL_law_395 : decode cL_law 395 = .ok (.iload_n 3, 1) := dw_29 wL_law_c rfl
theorem dL_law_396 : decode cL_law 396 = .ok (.iconst 5, 1) := dw_8 wL_law_c rfl
theorem dL_law_397 : decode cL_law 397 = .ok (.iadd, 1) := dw_96 wL_law_c rfl
theorem dL_law_398 : decode cL_law 398 = .ok (.iaload, 1) := dw_46 wL_law_c rfl
theorem dL_law_399 : decode cL_law 399 = .ok (.aload_n 0, 1) := dw_42 wL_law_c rfl
theorem dL_law_400 : decode cL_law 400 = .ok (.iload_n 3, 1) := dw_29 wL_law_c rfl
theorem dL_law_401 : decode cL_law 401 = .ok (.bipush 6, 2) := dw_16 wL_law_c 6 rfl rfl rfl
theorem dL_law_403 : decode cL_law 403 = .ok (.iadd, 1) := dw_96 wL_law_c rfl
theorem dL_law_404 : decode cL_law 404 = .ok (.iaload, 1) := dw_46 wL_law_c rfl
theorem dL_law_405 : decode cL_law 405 = .ok (.invokevirtual 41, 3) := dw_182 wL_law_c 0 41 rfl rfl
theorem dL_law_408 : decode cL_law 408 = .ok (.pop, 1) := dw_87 wL_law_c rfl
theorem dL_law_409 : decode cL_law 409 = .ok (.goto 970, 3) := dw_167 wL_law_c 3 202 rfl rfl rfl
theorem dL_law_412 : decode cL_law 412 = .ok (.aload_n 1, 1) := dw_43 wL_law_c rfl
theorem dL_law_413 : decode cL_law 413 = .ok (.aload_n 0, 1) := dw_42 wL_law_c rfl
theorem dL_law_414 : decode cL_law 414 = .ok (.iload_n 3, 1) := dw_29 wL_law_c rfl
theorem dL_law_415 : decode cL_law 415 = .ok (.iconst 1, 1) := dw_4 wL_law_c rfl
theorem dL_law_416 : decode cL_law 416 = .ok (.iadd, 1) := dw_96 wL_law_c rfl
theorem dL_law_417 : decode cL_law 417 = .ok (.iaload, 1) := dw_46 wL_law_c rfl
theorem dL_law_418 : decode cL_law 418 = .ok (.aload_n 0, 1) := dw_42 wL_law_c rfl
theorem dL_law_419 : decode cL_law 419 = .ok (.iload_n 3, 1) := dw_29 wL_law_c rfl
theorem dL_law_420 : decode cL_law 420 = .ok (.iconst 2, 1) := dw_5 wL_law_c rfl
theorem dL_law_421 : decode cL_law 421 = .ok (.iadd, 1) := dw_96 wL_law_c rfl
theorem dL_law_422 : decode cL_law 422 = .ok (.iaload, 1) := dw_46 wL_law_c rfl
theorem dL_law_423 : decode cL_law 423 = .ok (.aload_n 0, 1) := dw_42 wL_law_c rfl
theorem dL_law_424 : decode cL_law 424 = .ok (.iload_n 3, 1) := dw_29 wL_law_c rfl
theorem dL_law_425 : decode cL_law 425 = .ok (.iconst 3, 1) := dw_6 wL_law_c rfl
theorem dL_law_426 : decode cL_law 426 = .ok (.iadd, 1) := dw_96 wL_law_c rfl
theorem dL_law_427 : decode cL_law 427 = .ok (.iaload, 1) := dw_46 wL_law_c rfl
theorem dL_law_428 : decode cL_law 428 = .ok (.aload_n 0, 1) := dw_42 wL_law_c rfl
theorem dL_law_429 : decode cL_law 429 = .ok (.iload_n 3, 1) := dw_29 wL_law_c rfl
theorem dL_law_430 : decode cL_law 430 = .ok (.iconst 4, 1) := dw_7 wL_law_c rfl
theorem dL_law_431 : decode cL_law 431 = .ok (.iadd, 1) := dw_96 wL_law_c rfl
theorem dL_law_432 : decode cL_law 432 = .ok (.iaload, 1) := dw_46 wL_law_c rfl
theorem dL_law_433 : decode cL_law 433 = .ok (.aload_n 0, 1) := dw_42 wL_law_c rfl
theorem dL_law_434 : decode cL_law 434 = .ok (.iload_n 3, 1) := dw_29 wL_law_c rfl
theorem dL_law_435 : decode cL_law 435 = .ok (.iconst 5, 1) := dw_8 wL_law_c rfl
theorem dL_law_436 : decode cL_law 436 = .ok (.iadd, 1) := dw_96 wL_law_c rfl
theorem dL_law_437 : decode cL_law 437 = .ok (.iaload, 1) := dw_46 wL_law_c rfl
theorem dL_law_438 : decode cL_law 438 = .ok (.invokevirtual 42, 3) := dw_182 wL_law_c 0 42 rfl rfl
theorem dL_law_441 : decode cL_law 441 = .ok (.pop, 1) := dw_87 wL_law_c rfl
theorem dL_law_442 : decode cL_law 442 = .ok (.aload_n 2, 1) := dw_44 wL_law_c rfl
theorem dL_law_443 : decode cL_law 443 = .ok (.aload_n 0, 1) := dw_42 wL_law_c rfl
theorem dL_law_444 : decode cL_law 444 = .ok (.iload_n 3, 1) := dw_29 wL_law_c rfl
theorem dL_law_445 : decode cL_law 445 = .ok (.iconst 1, 1) := dw_4 wL_law_c rfl
theorem dL_law_446 : decode cL_law 446 = .ok (.iadd, 1) := dw_96 wL_law_c rfl
theorem dL_law_447 : decode cL_law 447 = .ok (.iaload, 1) := dw_46 wL_law_c rfl
theorem dL_law_448 : decode cL_law 448 = .ok (.aload_n 0, 1) := dw_42 wL_law_c rfl
theorem dL_law_449 : decode cL_law 449 = .ok (.iload_n 3, 1) := dw_29 wL_law_c rfl
theorem dL_law_450 : decode cL_law 450 = .ok (.iconst 2, 1) := dw_5 wL_law_c rfl
theorem dL_law_451 : decode cL_law 451 = .ok (.iadd, 1) := dw_96 wL_law_c rfl
theorem dL_law_452 : decode cL_law 452 = .ok (.iaload, 1) := dw_46 wL_law_c rfl
theorem dL_law_453 : decode cL_law 453 = .ok (.aload_n 0, 1) := dw_42 wL_law_c rfl
theorem dL_law_454 : decode cL_law 454 = .ok (.iload_n 3, 1) := dw_29 wL_law_c rfl
theorem dL_law_455 : decode cL_law 455 = .ok (.iconst 3, 1) := dw_6 wL_law_c rfl
theorem dL_law_456 : decode cL_law 456 = .ok (.iadd, 1) := dw_96 wL_law_c rfl
theorem dL_law_457 : decode cL_law 457 = .ok (.iaload, 1) := dw_46 wL_law_c rfl
theorem dL_law_458 : decode cL_law 458 = .ok (.aload_n 0, 1) := dw_42 wL_law_c rfl
theorem dL_law_459 : decode cL_law 459 = .ok (.iload_n 3, 1) := dw_29 wL_law_c rfl
theorem dL_law_460 : decode cL_law 460 = .ok (.iconst 4, 1) := dw_7 wL_law_c rfl
theorem dL_law_461 : decode cL_law 461 = .ok (.iadd, 1) := dw_96 wL_law_c rfl
theorem dL_law_462 : decode cL_law 462 = .ok (.iaload, 1) := dw_46 wL_law_c rfl
theorem dL_law_463 : decode cL_law 463 = .ok (.aload_n 0, 1) := dw_42 wL_law_c rfl
theorem dL_law_464 : decode cL_law 464 = .ok (.iload_n 3, 1) := dw_29 wL_law_c rfl
theorem dL_law_465 : decode cL_law 465 = .ok (.iconst 5, 1) := dw_8 wL_law_c rfl
theorem dL_law_466 : decode cL_law 466 = .ok (.iadd, 1) := dw_96 wL_law_c rfl
theorem dL_law_467 : decode cL_law 467 = .ok (.iaload, 1) := dw_46 wL_law_c rfl
theorem dL_law_468 : decode cL_law 468 = .ok (.invokevirtual 46, 3) := dw_182 wL_law_c 0 46 rfl rfl
theorem dL_law_471 : decode cL_law 471 = .ok (.pop, 1) := dw_87 wL_law_c rfl
theorem dL_law_472 : decode cL_law 472 = .ok (.goto 907, 3) := dw_167 wL_law_c 3 139 rfl rfl rfl
theorem dL_law_475 : decode cL_law 475 = .ok (.aload_n 1, 1) := dw_43 wL_law_c rfl
theorem dL_law_476 : decode cL_law 476 = .ok (.aload_n 0, 1) := dw_42 wL_law_c rfl
theorem dL_law_477 : decode cL_law 477 = .ok (.iload_n 3, 1) := dw_29 wL_law_c rfl
theorem dL_law_478 : decode cL_law 478 = .ok (.iconst 1, 1) := dw_4 wL_law_c rfl
theorem dL_law_479 : decode cL_law 479 = .ok (.iadd, 1) := dw_96 wL_law_c rfl
theorem dL_law_480 : decode cL_law 480 = .ok (.iaload, 1) := dw_46 wL_law_c rfl
theorem dL_law_481 : decode cL_law 481 = .ok (.invokevirtual 47, 3) := dw_182 wL_law_c 0 47 rfl rfl
theorem dL_law_484 : decode cL_law 484 = .ok (.pop, 1) := dw_87 wL_law_c rfl
theorem dL_law_485 : decode cL_law 485 = .ok (.aload_n 2, 1) := dw_44 wL_law_c rfl
theorem dL_law_486 : decode cL_law 486 = .ok (.aload_n 0, 1) := dw_42 wL_law_c rfl
theorem dL_law_487 : decode cL_law 487 = .ok (.iload_n 3, 1) := dw_29 wL_law_c rfl
theorem dL_law_488 : decode cL_law 488 = .ok (.iconst 1, 1) := dw_4 wL_law_c rfl
theorem dL_law_489 : decode cL_law 489 = .ok (.iadd, 1) := dw_96 wL_law_c rfl
theorem dL_law_490 : decode cL_law 490 = .ok (.iaload, 1) := dw_46 wL_law_c rfl
theorem dL_law_491 : decode cL_law 491 = .ok (.invokevirtual 50, 3) := dw_182 wL_law_c 0 50 rfl rfl
theorem dL_law_494 : decode cL_law 494 = .ok (.pop, 1) := dw_87 wL_law_c rfl
theorem dL_law_495 : decode cL_law 495 = .ok (.goto 884, 3) := dw_167 wL_law_c 3 116 rfl rfl rfl
theorem dL_law_498 : decode cL_law 498 = .ok (.aload_n 1, 1) := dw_43 wL_law_c rfl
theorem dL_law_499 : decode cL_law 499 = .ok (.aload_n 0, 1) := dw_42 wL_law_c rfl
theorem dL_law_500 : decode cL_law 500 = .ok (.iload_n 3, 1) := dw_29 wL_law_c rfl
theorem dL_law_501 : decode cL_law 501 = .ok (.iconst 1, 1) := dw_4 wL_law_c rfl
theorem dL_law_502 : decode cL_law 502 = .ok (.iadd, 1) := dw_96 wL_law_c rfl
theorem dL_law_503 : decode cL_law 503 = .ok (.iaload, 1) := dw_46 wL_law_c rfl
theorem dL_law_504 : decode cL_law 504 = .ok (.aload_n 0, 1) := dw_42 wL_law_c rfl
theorem dL_law_505 : decode cL_law 505 = .ok (.iload_n 3, 1) := dw_29 wL_law_c rfl
theorem dL_law_506 : decode cL_law 506 = .ok (.iconst 2, 1) := dw_5 wL_law_c rfl
theorem dL_law_507 : decode cL_law 507 = .ok (.iadd, 1) := dw_96 wL_law_c rfl
theorem dL_law_508 : decode cL_law 508 = .ok (.iaload, 1) := dw_46 wL_law_c rfl
theorem dL_law_509 : decode cL_law 509 = .ok (.ifCond .eq 7, 3) := dw_153 wL_law_c 0 7 rfl rfl rfl
theorem dL_law_512 : decode cL_law 512 = .ok (.iconst 1, 1) := dw_4 wL_law_c rfl
theorem dL_law_513 : decode cL_law 513 = .ok (.goto 4, 3) := dw_167 wL_law_c 0 4 rfl rfl rfl
theorem dL_law_516 : decode cL_law 516 = .ok (.iconst 0, 1) := dw_3 wL_law_c rfl
theorem dL_law_517 : decode cL_law 517 = .ok (.invokevirtual 51, 3) := dw_182 wL_law_c 0 51 rfl rfl
theorem dL_law_520 : decode cL_law 520 = .ok (.pop, 1) := dw_87 wL_law_c rfl
theorem dL_law_521 : decode cL_law 521 = .ok (.aload_n 2, 1) := dw_44 wL_law_c rfl
theorem dL_law_522 : decode cL_law 522 = .ok (.aload_n 0, 1) := dw_42 wL_law_c rfl
theorem dL_law_523 : decode cL_law 523 = .ok (.iload_n 3, 1) := dw_29 wL_law_c rfl
theorem dL_law_524 : decode cL_law 524 = .ok (.iconst 1, 1) := dw_4 wL_law_c rfl
theorem dL_law_525 : decode cL_law 525 = .ok (.iadd, 1) := dw_96 wL_law_c rfl
theorem dL_law_526 : decode cL_law 526 = .ok (.iaload, 1) := dw_46 wL_law_c rfl
theorem dL_law_527 : decode cL_law 527 = .ok (.aload_n 0, 1) := dw_42 wL_law_c rfl
theorem dL_law_528 : decode cL_law 528 = .ok (.iload_n 3, 1) := dw_29 wL_law_c rfl
theorem dL_law_529 : decode cL_law 529 = .ok (.iconst 2, 1) := dw_5 wL_law_c rfl
theorem dL_law_530 : decode cL_law 530 = .ok (.iadd, 1) := dw_96 wL_law_c rfl
theorem dL_law_531 : decode cL_law 531 = .ok (.iaload, 1) := dw_46 wL_law_c rfl
theorem dL_law_532 : decode cL_law 532 = .ok (.ifCond .eq 7, 3) := dw_153 wL_law_c 0 7 rfl rfl rfl
theorem dL_law_535 : decode cL_law 535 = .ok (.iconst 1, 1) := dw_4 wL_law_c rfl
theorem dL_law_536 : decode cL_law 536 = .ok (.goto 4, 3) := dw_167 wL_law_c 0 4 rfl rfl rfl
theorem dL_law_539 : decode cL_law 539 = .ok (.iconst 0, 1) := dw_3 wL_law_c rfl
theorem dL_law_540 : decode cL_law 540 = .ok (.invokevirtual 55, 3) := dw_182 wL_law_c 0 55 rfl rfl
theorem dL_law_543 : decode cL_law 543 = .ok (.pop, 1) := dw_87 wL_law_c rfl
theorem dL_law_544 : decode cL_law 544 = .ok (.goto 835, 3) := dw_167 wL_law_c 3 67 rfl rfl rfl
theorem dL_law_547 : decode cL_law 547 = .ok (.aload_n 1, 1) := dw_43 wL_law_c rfl
theorem dL_law_548 : decode cL_law 548 = .ok (.aload_n 0, 1) := dw_42 wL_law_c rfl
theorem dL_law_549 : decode cL_law 549 = .ok (.iload_n 3, 1) := dw_29 wL_law_c rfl
theorem dL_law_550 : decode cL_law 550 = .ok (.iconst 1, 1) := dw_4 wL_law_c rfl
theorem dL_law_551 : decode cL_law 551 = .ok (.iadd, 1) := dw_96 wL_law_c rfl
theorem dL_law_552 : decode cL_law 552 = .ok (.iaload, 1) := dw_46 wL_law_c rfl
theorem dL_law_553 : decode cL_law 553 = .ok (.aload_n 0, 1) := dw_42 wL_law_c rfl
theorem dL_law_554 : decode cL_law 554 = .ok (.iload_n 3, 1) := dw_29 wL_law_c rfl
theorem dL_law_555 : decode cL_law 555 = .ok (.iconst 2, 1) := dw_5 wL_law_c rfl
theorem dL_law_556 : decode cL_law 556 = .ok (.iadd, 1) := dw_96 wL_law_c rfl
theorem dL_law_557 : decode cL_law 557 = .ok (.iaload, 1) := dw_46 wL_law_c rfl
theorem dL_law_558 : decode cL_law 558 = .ok (.aload_n 0, 1) := dw_42 wL_law_c rfl
theorem dL_law_559 : decode cL_law 559 = .ok (.iload_n 3, 1) := dw_29 wL_law_c rfl
theorem dL_law_560 : decode cL_law 560 = .ok (.iconst 3, 1) := dw_6 wL_law_c rfl
theorem dL_law_561 : decode cL_law 561 = .ok (.iadd, 1) := dw_96 wL_law_c rfl
theorem dL_law_562 : decode cL_law 562 = .ok (.iaload, 1) := dw_46 wL_law_c rfl
theorem dL_law_563 : decode cL_law 563 = .ok (.aload_n 0, 1) := dw_42 wL_law_c rfl
theorem dL_law_564 : decode cL_law 564 = .ok (.iload_n 3, 1) := dw_29 wL_law_c rfl
theorem dL_law_565 : decode cL_law 565 = .ok (.iconst 4, 1) := dw_7 wL_law_c rfl
theorem dL_law_566 : decode cL_law 566 = .ok (.iadd, 1) := dw_96 wL_law_c rfl
theorem dL_law_567 : decode cL_law 567 = .ok (.iaload, 1) := dw_46 wL_law_c rfl
theorem dL_law_568 : decode cL_law 568 = .ok (.aload_n 0, 1) := dw_42 wL_law_c rfl
theorem dL_law_569 : decode cL_law 569 = .ok (.iload_n 3, 1) := dw_29 wL_law_c rfl
theorem dL_law_570 : decode cL_law 570 = .ok (.iconst 5, 1) := dw_8 wL_law_c rfl
theorem dL_law_571 : decode cL_law 571 = .ok (.iadd, 1) := dw_96 wL_law_c rfl
theorem dL_law_572 : decode cL_law 572 = .ok (.iaload, 1) := dw_46 wL_law_c rfl
theorem dL_law_573 : decode cL_law 573 = .ok (.invokevirtual 56, 3) := dw_182 wL_law_c 0 56 rfl rfl
theorem dL_law_576 : decode cL_law 576 = .ok (.pop, 1) := dw_87 wL_law_c rfl
theorem dL_law_577 : decode cL_law 577 = .ok (.aload_n 2, 1) := dw_44 wL_law_c rfl
theorem dL_law_578 : decode cL_law 578 = .ok (.aload_n 0, 1) := dw_42 wL_law_c rfl
theorem dL_law_579 : decode cL_law 579 = .ok (.iload_n 3, 1) := dw_29 wL_law_c rfl
theorem dL_law_580 : decode cL_law 580 = .ok (.iconst 1, 1) := dw_4 wL_law_c rfl
theorem dL_law_581 : decode cL_law 581 = .ok (.iadd, 1) := dw_96 wL_law_c rfl
theorem dL_law_582 : decode cL_law 582 = .ok (.iaload, 1) := dw_46 wL_law_c rfl
theorem dL_law_583 : decode cL_law 583 = .ok (.aload_n 0, 1) := dw_42 wL_law_c rfl
theorem dL_law_584 : decode cL_law 584 = .ok (.iload_n 3, 1) := dw_29 wL_law_c rfl
theorem dL_law_585 : decode cL_law 585 = .ok (.iconst 2, 1) := dw_5 wL_law_c rfl
theorem dL_law_586 : decode cL_law 586 = .ok (.iadd, 1) := dw_96 wL_law_c rfl
theorem dL_law_587 : decode cL_law 587 = .ok (.iaload, 1) := dw_46 wL_law_c rfl
theorem dL_law_588 : decode cL_law 588 = .ok (.aload_n 0, 1) := dw_42 wL_law_c rfl
theorem dL_law_589 : decode cL_law 589 = .ok (.iload_n 3, 1) := dw_29 wL_law_c rfl
theorem dL_law_590 : decode cL_law 590 = .ok (.iconst 3, 1) := dw_6 wL_law_c rfl
theorem dL_law_591 : decode cL_law 591 = .ok (.iadd, 1) := dw_96 wL_law_c rfl
theorem dL_law_592 : decode cL_law 592 = .ok (.iaload, 1) := dw_46 wL_law_c rfl
theorem dL_law_593 : decode cL_law 593 = .ok (.aload_n 0, 1) := dw_42 wL_law_c rfl
theorem dL_law_594 : decode cL_law 594 = .ok (.iload_n 3, 1) := dw_29 wL_law_c rfl
theorem dL_law_595 : decode cL_law 595 = .ok (.iconst 4, 1) := dw_7 wL_law_c rfl
theorem dL_law_596 : decode cL_law 596 = .ok (.iadd, 1) := dw_96 wL_law_c rfl
theorem dL_law_597 : decode cL_law 597 = .ok (.iaload, 1) := dw_46 wL_law_c rfl
theorem dL_law_598 : decode cL_law 598 = .ok (.aload_n 0, 1) := dw_42 wL_law_c rfl
theorem dL_law_599 : decode cL_law 599 = .ok (.iload_n 3, 1) := dw_29 wL_law_c rfl
theorem dL_law_600 : decode cL_law 600 = .ok (.iconst 5, 1) := dw_8 wL_law_c rfl
theorem dL_law_601 : decode cL_law 601 = .ok (.iadd, 1) := dw_96 wL_law_c rfl
theorem dL_law_602 : decode cL_law 602 = .ok (.iaload, 1) := dw_46 wL_law_c rfl
theorem dL_law_603 : decode cL_law 603 = .ok (.invokevirtual 59, 3) := dw_182 wL_law_c 0 59 rfl rfl
theorem dL_law_606 : decode cL_law 606 = .ok (.pop, 1) := dw_87 wL_law_c rfl
theorem dL_law_607 : decode cL_law 607 = .ok (.goto 772, 3) := dw_167 wL_law_c 3 4 rfl rfl rfl
theorem dL_law_610 : decode cL_law 610 = .ok (.aload_n 1, 1) := dw_43 wL_law_c rfl
theorem dL_law_611 : decode cL_law 611 = .ok (.aload_n 0, 1) := dw_42 wL_law_c rfl
theorem dL_law_612 : decode cL_law 612 = .ok (.iload_n 3, 1) := dw_29 wL_law_c rfl
theorem dL_law_613 : decode cL_law 613 = .ok (.iconst 1, 1) := dw_4 wL_law_c rfl
theorem dL_law_614 : decode cL_law 614 = .ok (.iadd, 1) := dw_96 wL_law_c rfl
theorem dL_law_615 : decode cL_law 615 = .ok (.iaload, 1) := dw_46 wL_law_c rfl
theorem dL_law_616 : decode cL_law 616 = .ok (.aload_n 0, 1) := dw_42 wL_law_c rfl
theorem dL_law_617 : decode cL_law 617 = .ok (.iload_n 3, 1) := dw_29 wL_law_c rfl
theorem dL_law_618 : decode cL_law 618 = .ok (.iconst 2, 1) := dw_5 wL_law_c rfl
theorem dL_law_619 : decode cL_law 619 = .ok (.iadd, 1) := dw_96 wL_law_c rfl
theorem dL_law_620 : decode cL_law 620 = .ok (.iaload, 1) := dw_46 wL_law_c rfl
theorem dL_law_621 : decode cL_law 621 = .ok (.aload_n 0, 1) := dw_42 wL_law_c rfl
theorem dL_law_622 : decode cL_law 622 = .ok (.iload_n 3, 1) := dw_29 wL_law_c rfl
theorem dL_law_623 : decode cL_law 623 = .ok (.iconst 3, 1) := dw_6 wL_law_c rfl
theorem dL_law_624 : decode cL_law 624 = .ok (.iadd, 1) := dw_96 wL_law_c rfl
theorem dL_law_625 : decode cL_law 625 = .ok (.iaload, 1) := dw_46 wL_law_c rfl
theorem dL_law_626 : decode cL_law 626 = .ok (.aload_n 0, 1) := dw_42 wL_law_c rfl
theorem dL_law_627 : decode cL_law 627 = .ok (.iload_n 3, 1) := dw_29 wL_law_c rfl
theorem dL_law_628 : decode cL_law 628 = .ok (.iconst 4, 1) := dw_7 wL_law_c rfl
theorem dL_law_629 : decode cL_law 629 = .ok (.iadd, 1) := dw_96 wL_law_c rfl
theorem dL_law_630 : decode cL_law 630 = .ok (.iaload, 1) := dw_46 wL_law_c rfl
theorem dL_law_631 : decode cL_law 631 = .ok (.invokevirtual 60, 3) := dw_182 wL_law_c 0 60 rfl rfl
theorem dL_law_634 : decode cL_law 634 = .ok (.pop, 1) := dw_87 wL_law_c rfl
theorem dL_law_635 : decode cL_law 635 = .ok (.aload_n 2, 1) := dw_44 wL_law_c rfl
theorem dL_law_636 : decode cL_law 636 = .ok (.aload_n 0, 1) := dw_42 wL_law_c rfl
theorem dL_law_637 : decode cL_law 637 = .ok (.iload_n 3, 1) := dw_29 wL_law_c rfl
theorem dL_law_638 : decode cL_law 638 = .ok (.iconst 1, 1) := dw_4 wL_law_c rfl
theorem dL_law_639 : decode cL_law 639 = .ok (.iadd, 1) := dw_96 wL_law_c rfl
theorem dL_law_640 : decode cL_law 640 = .ok (.iaload, 1) := dw_46 wL_law_c rfl
theorem dL_law_641 : decode cL_law 641 = .ok (.aload_n 0, 1) := dw_42 wL_law_c rfl
theorem dL_law_642 : decode cL_law 642 = .ok (.iload_n 3, 1) := dw_29 wL_law_c rfl
theorem dL_law_643 : decode cL_law 643 = .ok (.iconst 2, 1) := dw_5 wL_law_c rfl
theorem dL_law_644 : decode cL_law 644 = .ok (.iadd, 1) := dw_96 wL_law_c rfl
theorem dL_law_645 : decode cL_law 645 = .ok (.iaload, 1) := dw_46 wL_law_c rfl
theorem dL_law_646 : decode cL_law 646 = .ok (.aload_n 0, 1) := dw_42 wL_law_c rfl
theorem dL_law_647 : decode cL_law 647 = .ok (.iload_n 3, 1) := dw_29 wL_law_c rfl
theorem dL_law_648 : decode cL_law 648 = .ok (.iconst 3, 1) := dw_6 wL_law_c rfl
theorem dL_law_649 : decode cL_law 649 = .ok (.iadd, 1) := dw_96 wL_law_c rfl
theorem dL_law_650 : decode cL_law 650 = .ok (.iaload, 1) := dw_46 wL_law_c rfl
theorem dL_law_651 : decode cL_law 651 = .ok (.aload_n 0, 1) := dw_42 wL_law_c rfl
theorem dL_law_652 : decode cL_law 652 = .ok (.iload_n 3, 1) := dw_29 wL_law_c rfl
theorem dL_law_653 : decode cL_law 653 = .ok (.iconst 4, 1) := dw_7 wL_law_c rfl
theorem dL_law_654 : decode cL_law 654 = .ok (.iadd, 1) := dw_96 wL_law_c rfl
theorem dL_law_655 : decode cL_law 655 = .ok (.iaload, 1) := dw_46 wL_law_c rfl
theorem dL_law_656 : decode cL_law 656 = .ok (.invokevirtual 64, 3) := dw_182 wL_law_c 0 64 rfl rfl
theorem dL_law_659 : decode cL_law 659 = .ok (.pop, 1) := dw_87 wL_law_c rfl
theorem dL_law_660 : decode cL_law 660 = .ok (.goto 719, 3) := dw_167 wL_law_c 2 207 rfl rfl rfl
theorem dL_law_663 : decode cL_law 663 = .ok (.aload_n 1, 1) := dw_43 wL_law_c rfl
theorem dL_law_664 : decode cL_law 664 = .ok (.aload_n 0, 1) := dw_42 wL_law_c rfl
theorem dL_law_665 : decode cL_law 665 = .ok (.iload_n 3, 1) := dw_29 wL_law_c rfl
theorem dL_law_666 : decode cL_law 666 = .ok (.iconst 1, 1) := dw_4 wL_law_c rfl
theorem dL_law_667 : decode cL_law 667 = .ok (.iadd, 1) := dw_96 wL_law_c rfl
theorem dL_law_668 : decode cL_law 668 = .ok (.iaload, 1) := dw_46 wL_law_c rfl
theorem dL_law_669 : decode cL_law 669 = .ok (.aload_n 0, 1) := dw_42 wL_law_c rfl
theorem dL_law_670 : decode cL_law 670 = .ok (.iload_n 3, 1) := dw_29 wL_law_c rfl
theorem dL_law_671 : decode cL_law 671 = .ok (.iconst 2, 1) := dw_5 wL_law_c rfl
theorem dL_law_672 : decode cL_law 672 = .ok (.iadd, 1) := dw_96 wL_law_c rfl
theorem dL_law_673 : decode cL_law 673 = .ok (.iaload, 1) := dw_46 wL_law_c rfl
theorem dL_law_674 : decode cL_law 674 = .ok (.aload_n 0, 1) := dw_42 wL_law_c rfl
theorem dL_law_675 : decode cL_law 675 = .ok (.iload_n 3, 1) := dw_29 wL_law_c rfl
theorem dL_law_676 : decode cL_law 676 = .ok (.iconst 3, 1) := dw_6 wL_law_c rfl
theorem dL_law_677 : decode cL_law 677 = .ok (.iadd, 1) := dw_96 wL_law_c rfl
theorem dL_law_678 : decode cL_law 678 = .ok (.iaload, 1) := dw_46 wL_law_c rfl
theorem dL_law_679 : decode cL_law 679 = .ok (.aload_n 0, 1) := dw_42 wL_law_c rfl
theorem dL_law_680 : decode cL_law 680 = .ok (.iload_n 3, 1) := dw_29 wL_law_c rfl
theorem dL_law_681 : decode cL_law 681 = .ok (.iconst 4, 1) := dw_7 wL_law_c rfl
theorem dL_law_682 : decode cL_law 682 = .ok (.iadd, 1) := dw_96 wL_law_c rfl
theorem dL_law_683 : decode cL_law 683 = .ok (.iaload, 1) := dw_46 wL_law_c rfl
theorem dL_law_684 : decode cL_law 684 = .ok (.aload_n 0, 1) := dw_42 wL_law_c rfl
theorem dL_law_685 : decode cL_law 685 = .ok (.iload_n 3, 1) := dw_29 wL_law_c rfl
theorem dL_law_686 : decode cL_law 686 = .ok (.iconst 5, 1) := dw_8 wL_law_c rfl
theorem dL_law_687 : decode cL_law 687 = .ok (.iadd, 1) := dw_96 wL_law_c rfl
theorem dL_law_688 : decode cL_law 688 = .ok (.iaload, 1) := dw_46 wL_law_c rfl
theorem dL_law_689 : decode cL_law 689 = .ok (.ifCond .eq 7, 3) := dw_153 wL_law_c 0 7 rfl rfl rfl
theorem dL_law_692 : decode cL_law 692 = .ok (.iconst 1, 1) := dw_4 wL_law_c rfl
theorem dL_law_693 : decode cL_law 693 = .ok (.goto 4, 3) := dw_167 wL_law_c 0 4 rfl rfl rfl
theorem dL_law_696 : decode cL_law 696 = .ok (.iconst 0, 1) := dw_3 wL_law_c rfl
theorem dL_law_697 : decode cL_law 697 = .ok (.aload_n 0, 1) := dw_42 wL_law_c rfl
theorem dL_law_698 : decode cL_law 698 = .ok (.iload_n 3, 1) := dw_29 wL_law_c rfl
theorem dL_law_699 : decode cL_law 699 = .ok (.bipush 6, 2) := dw_16 wL_law_c 6 rfl rfl rfl
theorem dL_law_701 : decode cL_law 701 = .ok (.iadd, 1) := dw_96 wL_law_c rfl
theorem dL_law_702 : decode cL_law 702 = .ok (.iaload, 1) := dw_46 wL_law_c rfl
theorem dL_law_703 : decode cL_law 703 = .ok (.invokevirtual 65, 3) := dw_182 wL_law_c 0 65 rfl rfl
theorem dL_law_706 : decode cL_law 706 = .ok (.pop, 1) := dw_87 wL_law_c rfl
theorem dL_law_707 : decode cL_law 707 = .ok (.aload_n 2, 1) := dw_44 wL_law_c rfl
theorem dL_law_708 : decode cL_law 708 = .ok (.aload_n 0, 1) := dw_42 wL_law_c rfl
theorem dL_law_709 : decode cL_law 709 = .ok (.iload_n 3, 1) := dw_29 wL_law_c rfl
theorem dL_law_710 : decode cL_law 710 = .ok (.iconst 1, 1) := dw_4 wL_law_c rfl
theorem dL_law_711 : decode cL_law 711 = .ok (.iadd, 1) := dw_96 wL_law_c rfl
theorem dL_law_712 : decode cL_law 712 = .ok (.iaload, 1) := dw_46 wL_law_c rfl
theorem dL_law_713 : decode cL_law 713 = .ok (.aload_n 0, 1) := dw_42 wL_law_c rfl
theorem dL_law_714 : decode cL_law 714 = .ok (.iload_n 3, 1) := dw_29 wL_law_c rfl
theorem dL_law_715 : decode cL_law 715 = .ok (.iconst 2, 1) := dw_5 wL_law_c rfl
theorem dL_law_716 : decode cL_law 716 = .ok (.iadd, 1) := dw_96 wL_law_c rfl
theorem dL_law_717 : decode cL_law 717 = .ok (.iaload, 1) := dw_46 wL_law_c rfl
theorem dL_law_718 : decode cL_law 718 = .ok (.aload_n 0, 1) := dw_42 wL_law_c rfl
theorem dL_law_719 : decode cL_law 719 = .ok (.iload_n 3, 1) := dw_29 wL_law_c rfl
theorem dL_law_720 : decode cL_law 720 = .ok (.iconst 3, 1) := dw_6 wL_law_c rfl
theorem dL_law_721 : decode cL_law 721 = .ok (.iadd, 1) := dw_96 wL_law_c rfl
theorem dL_law_722 : decode cL_law 722 = .ok (.iaload, 1) := dw_46 wL_law_c rfl
theorem dL_law_723 : decode cL_law 723 = .ok (.aload_n 0, 1) := dw_42 wL_law_c rfl
theorem dL_law_724 : decode cL_law 724 = .ok (.iload_n 3, 1) := dw_29 wL_law_c rfl
theorem dL_law_725 : decode cL_law 725 = .ok (.iconst 4, 1) := dw_7 wL_law_c rfl
theorem dL_law_726 : decode cL_law 726 = .ok (.iadd, 1) := dw_96 wL_law_c rfl
theorem dL_law_727 : decode cL_law 727 = .ok (.iaload, 1) := dw_46 wL_law_c rfl
theorem dL_law_728 : decode cL_law 728 = .ok (.aload_n 0, 1) := dw_42 wL_law_c rfl
theorem dL_law_729 : decode cL_law 729 = .ok (.iload_n 3, 1) := dw_29 wL_law_c rfl
theorem dL_law_730 : decode cL_law 730 = .ok (.iconst 5, 1) := dw_8 wL_law_c rfl
theorem dL_law_731 : decode cL_law 731 = .ok (.iadd, 1) := dw_96 wL_law_c rfl
theorem dL_law_732 : decode cL_law 732 = .ok (.iaload, 1) := dw_46 wL_law_c rfl
theorem dL_law_733 : decode cL_law 733 = .ok (.ifCond .eq 7, 3) := dw_153 wL_law_c 0 7 rfl rfl rfl
theorem dL_law_736 : decode cL_law 736 = .ok (.iconst 1, 1) := dw_4 wL_law_c rfl
theorem dL_law_737 : decode cL_law 737 = .ok (.goto 4, 3) := dw_167 wL_law_c 0 4 rfl rfl rfl
theorem dL_law_740 : decode cL_law 740 = .ok (.iconst 0, 1) := dw_3 wL_law_c rfl
theorem dL_law_741 : decode cL_law 741 = .ok (.aload_n 0, 1) := dw_42 wL_law_c rfl
theorem dL_law_742 : decode cL_law 742 = .ok (.iload_n 3, 1) := dw_29 wL_law_c rfl
theorem dL_law_743 : decode cL_law 743 = .ok (.bipush 6, 2) := dw_16 wL_law_c 6 rfl rfl rfl
theorem dL_law_745 : decode cL_law 745 = .ok (.iadd, 1) := dw_96 wL_law_c rfl
theorem dL_law_746 : decode cL_law 746 = .ok (.iaload, 1) := dw_46 wL_law_c rfl
theorem dL_law_747 : decode cL_law 747 = .ok (.invokevirtual 69, 3) := dw_182 wL_law_c 0 69 rfl rfl
theorem dL_law_750 : decode cL_law 750 = .ok (.pop, 1) := dw_87 wL_law_c rfl
theorem dL_law_751 : decode cL_law 751 = .ok (.goto 628, 3) := dw_167 wL_law_c 2 116 rfl rfl rfl
theorem dL_law_754 : decode cL_law 754 = .ok (.aload_n 1, 1) := dw_43 wL_law_c rfl
theorem dL_law_755 : decode cL_law 755 = .ok (.aload_n 0, 1) := dw_42 wL_law_c rfl
theorem dL_law_756 : decode cL_law 756 = .ok (.iload_n 3, 1) := dw_29 wL_law_c rfl
theorem dL_law_757 : decode cL_law 757 = .ok (.iconst 1, 1) := dw_4 wL_law_c rfl
theorem dL_law_758 : decode cL_law 758 = .ok (.iadd, 1) := dw_96 wL_law_c rfl
theorem dL_law_759 : decode cL_law 759 = .ok (.iaload, 1) := dw_46 wL_law_c rfl
theorem dL_law_760 : decode cL_law 760 = .ok (.aload_n 0, 1) := dw_42 wL_law_c rfl
theorem dL_law_761 : decode cL_law 761 = .ok (.iload_n 3, 1) := dw_29 wL_law_c rfl
theorem dL_law_762 : decode cL_law 762 = .ok (.iconst 2, 1) := dw_5 wL_law_c rfl
theorem dL_law_763 : decode cL_law 763 = .ok (.iadd, 1) := dw_96 wL_law_c rfl
theorem dL_law_764 : decode cL_law 764 = .ok (.iaload, 1) := dw_46 wL_law_c rfl
theorem dL_law_765 : decode cL_law 765 = .ok (.ifCond .eq 7, 3) := dw_153 wL_law_c 0 7 rfl rfl rfl
theorem dL_law_768 : decode cL_law 768 = .ok (.iconst 1, 1) := dw_4 wL_law_c rfl
theorem dL_law_769 : decode cL_law 769 = .ok (.goto 4, 3) := dw_167 wL_law_c 0 4 rfl rfl rfl
theorem dL_law_772 : decode cL_law 772 = .ok (.iconst 0, 1) := dw_3 wL_law_c rfl
theorem dL_law_773 : decode cL_law 773 = .ok (.invokevirtual 70, 3) := dw_182 wL_law_c 0 70 rfl rfl
theorem dL_law_776 : decode cL_law 776 = .ok (.pop, 1) := dw_87 wL_law_c rfl
theorem dL_law_777 : decode cL_law 777 = .ok (.aload_n 2, 1) := dw_44 wL_law_c rfl
theorem dL_law_778 : decode cL_law 778 = .ok (.aload_n 0, 1) := dw_42 wL_law_c rfl
theorem dL_law_779 : decode cL_law 779 = .ok (.iload_n 3, 1) := dw_29 wL_law_c rfl
theorem dL_law_780 : decode cL_law 780 = .ok (.iconst 1, 1) := dw_4 wL_law_c rfl
theorem dL_law_781 : decode cL_law 781 = .ok (.iadd, 1) := dw_96 wL_law_c rfl
theorem dL_law_782 : decode cL_law 782 = .ok (.iaload, 1) := dw_46 wL_law_c rfl
theorem dL_law_783 : decode cL_law 783 = .ok (.aload_n 0, 1) := dw_42 wL_law_c rfl
theorem dL_law_784 : decode cL_law 784 = .ok (.iload_n 3, 1) := dw_29 wL_law_c rfl
theorem dL_law_785 : decode cL_law 785 = .ok (.iconst 2, 1) := dw_5 wL_law_c rfl
theorem dL_law_786 : decode cL_law 786 = .ok (.iadd, 1) := dw_96 wL_law_c rfl
theorem dL_law_787 : decode cL_law 787 = .ok (.iaload, 1) := dw_46 wL_law_c rfl
theorem dL_law_788 : decode cL_law 788 = .ok (.ifCond .eq 7, 3) := dw_153 wL_law_c 0 7 rfl rfl rfl
theorem dL_law_791 : decode cL_law 791 = .ok (.iconst 1, 1) := dw_4 wL_law_c rfl
theorem dL_law_792 : decode cL_law 792 = .ok (.goto 4, 3) := dw_167 wL_law_c 0 4 rfl rfl rfl
theorem dL_law_795 : decode cL_law 795 = .ok (.iconst 0, 1) := dw_3 wL_law_c rfl
theorem dL_law_796 : decode cL_law 796 = .ok (.invokevirtual 74, 3) := dw_182 wL_law_c 0 74 rfl rfl
theorem dL_law_799 : decode cL_law 799 = .ok (.pop, 1) := dw_87 wL_law_c rfl
theorem dL_law_800 : decode cL_law 800 = .ok (.goto 579, 3) := dw_167 wL_law_c 2 67 rfl rfl rfl
theorem dL_law_803 : decode cL_law 803 = .ok (.aload_n 1, 1) := dw_43 wL_law_c rfl
theorem dL_law_804 : decode cL_law 804 = .ok (.aload_n 0, 1) := dw_42 wL_law_c rfl
theorem dL_law_805 : decode cL_law 805 = .ok (.iload_n 3, 1) := dw_29 wL_law_c rfl
theorem dL_law_806 : decode cL_law 806 = .ok (.iconst 1, 1) := dw_4 wL_law_c rfl
theorem dL_law_807 : decode cL_law 807 = .ok (.iadd, 1) := dw_96 wL_law_c rfl
theorem dL_law_808 : decode cL_law 808 = .ok (.iaload, 1) := dw_46 wL_law_c rfl
theorem dL_law_809 : decode cL_law 809 = .ok (.aload_n 0, 1) := dw_42 wL_law_c rfl
theorem dL_law_810 : decode cL_law 810 = .ok (.iload_n 3, 1) := dw_29 wL_law_c rfl
theorem dL_law_811 : decode cL_law 811 = .ok (.iconst 2, 1) := dw_5 wL_law_c rfl
theorem dL_law_812 : decode cL_law 812 = .ok (.iadd, 1) := dw_96 wL_law_c rfl
theorem dL_law_813 : decode cL_law 813 = .ok (.iaload, 1) := dw_46 wL_law_c rfl
theorem dL_law_814 : decode cL_law 814 = .ok (.ifCond .eq 7, 3) := dw_153 wL_law_c 0 7 rfl rfl rfl
theorem dL_law_817 : decode cL_law 817 = .ok (.iconst 1, 1) := dw_4 wL_law_c rfl
theorem dL_law_818 : decode cL_law 818 = .ok (.goto 4, 3) := dw_167 wL_law_c 0 4 rfl rfl rfl
theorem dL_law_821 : decode cL_law 821 = .ok (.iconst 0, 1) := dw_3 wL_law_c rfl
theorem dL_law_822 : decode cL_law 822 = .ok (.aload_n 0, 1) := dw_42 wL_law_c rfl
theorem dL_law_823 : decode cL_law 823 = .ok (.iload_n 3, 1) := dw_29 wL_law_c rfl
theorem dL_law_824 : decode cL_law 824 = .ok (.iconst 3, 1) := dw_6 wL_law_c rfl
theorem dL_law_825 : decode cL_law 825 = .ok (.iadd, 1) := dw_96 wL_law_c rfl
theorem dL_law_826 : decode cL_law 826 = .ok (.iaload, 1) := dw_46 wL_law_c rfl
theorem dL_law_827 : decode cL_law 827 = .ok (.ifCond .eq 7, 3) := dw_153 wL_law_c 0 7 rfl rfl rfl
theorem dL_law_830 : decode cL_law 830 = .ok (.iconst 1, 1) := dw_4 wL_law_c rfl
theorem dL_law_831 : decode cL_law 831 = .ok (.goto 4, 3) := dw_167 wL_law_c 0 4 rfl rfl rfl
theorem dL_law_834 : decode cL_law 834 = .ok (.iconst 0, 1) := dw_3 wL_law_c rfl
theorem dL_law_835 : decode cL_law 835 = .ok (.aload_n 0, 1) := dw_42 wL_law_c rfl
theorem dL_law_836 : decode cL_law 836 = .ok (.iload_n 3, 1) := dw_29 wL_law_c rfl
theorem dL_law_837 : decode cL_law 837 = .ok (.iconst 4, 1) := dw_7 wL_law_c rfl
theorem dL_law_838 : decode cL_law 838 = .ok (.iadd, 1) := dw_96 wL_law_c rfl
theorem dL_law_839 : decode cL_law 839 = .ok (.iaload, 1) := dw_46 wL_law_c rfl
theorem dL_law_840 : decode cL_law 840 = .ok (.invokevirtual 75, 3) := dw_182 wL_law_c 0 75 rfl rfl
theorem dL_law_843 : decode cL_law 843 = .ok (.pop, 1) := dw_87 wL_law_c rfl
theorem dL_law_844 : decode cL_law 844 = .ok (.aload_n 2, 1) := dw_44 wL_law_c rfl
theorem dL_law_845 : decode cL_law 845 = .ok (.aload_n 0, 1) := dw_42 wL_law_c rfl
theorem dL_law_846 : decode cL_law 846 = .ok (.iload_n 3, 1) := dw_29 wL_law_c rfl
theorem dL_law_847 : decode cL_law 847 = .ok (.iconst 1, 1) := dw_4 wL_law_c rfl
theorem dL_law_848 : decode cL_law 848 = .ok (.iadd, 1) := dw_96 wL_law_c rfl
theorem dL_law_849 : decode cL_law 849 = .ok (.iaload, 1) := dw_46 wL_law_c rfl
theorem dL_law_850 : decode cL_law 850 = .ok (.aload_n 0, 1) := dw_42 wL_law_c rfl
theorem dL_law_851 : decode cL_law 851 = .ok (.iload_n 3, 1) := dw_29 wL_law_c rfl
theorem dL_law_852 : decode cL_law 852 = .ok (.iconst 2, 1) := dw_5 wL_law_c rfl
theorem dL_law_853 : decode cL_law 853 = .ok (.iadd, 1) := dw_96 wL_law_c rfl
theorem dL_law_854 : decode cL_law 854 = .ok (.iaload, 1) := dw_46 wL_law_c rfl
theorem dL_law_855 : decode cL_law 855 = .ok (.ifCond .eq 7, 3) := dw_153 wL_law_c 0 7 rfl rfl rfl
theorem dL_law_858 : decode cL_law 858 = .ok (.iconst 1, 1) := dw_4 wL_law_c rfl
theorem dL_law_859 : decode cL_law 859 = .ok (.goto 4, 3) := dw_167 wL_law_c 0 4 rfl rfl rfl
theorem dL_law_862 : decode cL_law 862 = .ok (.iconst 0, 1) := dw_3 wL_law_c rfl
theorem dL_law_863 : decode cL_law 863 = .ok (.aload_n 0, 1) := dw_42 wL_law_c rfl
theorem dL_law_864 : decode cL_law 864 = .ok (.iload_n 3, 1) := dw_29 wL_law_c rfl
theorem dL_law_865 : decode cL_law 865 = .ok (.iconst 3, 1) := dw_6 wL_law_c rfl
theorem dL_law_866 : decode cL_law 866 = .ok (.iadd, 1) := dw_96 wL_law_c rfl
theorem dL_law_867 : decode cL_law 867 = .ok (.iaload, 1) := dw_46 wL_law_c rfl
theorem dL_law_868 : decode cL_law 868 = .ok (.ifCond .eq 7, 3) := dw_153 wL_law_c 0 7 rfl rfl rfl
theorem dL_law_871 : decode cL_law 871 = .ok (.iconst 1, 1) := dw_4 wL_law_c rfl
theorem dL_law_872 : decode cL_law 872 = .ok (.goto 4, 3) := dw_167 wL_law_c 0 4 rfl rfl rfl
theorem dL_law_875 : decode cL_law 875 = .ok (.iconst 0, 1) := dw_3 wL_law_c rfl
theorem dL_law_876 : decode cL_law 876 = .ok (.aload_n 0, 1) := dw_42 wL_law_c rfl
theorem dL_law_877 : decode cL_law 877 = .ok (.iload_n 3, 1) := dw_29 wL_law_c rfl
theorem dL_law_878 : decode cL_law 878 = .ok (.iconst 4, 1) := dw_7 wL_law_c rfl
theorem dL_law_879 : decode cL_law 879 = .ok (.iadd, 1) := dw_96 wL_law_c rfl
theorem dL_law_880 : decode cL_law 880 = .ok (.iaload, 1) := dw_46 wL_law_c rfl
theorem dL_law_881 : decode cL_law 881 = .ok (.invokevirtual 79, 3) := dw_182 wL_law_c 0 79 rfl rfl
theorem dL_law_884 : decode cL_law 884 = .ok (.pop, 1) := dw_87 wL_law_c rfl
theorem dL_law_885 : decode cL_law 885 = .ok (.goto 494, 3) := dw_167 wL_law_c 1 238 rfl rfl rfl
theorem dL_law_888 : decode cL_law 888 = .ok (.aload_n 1, 1) := dw_43 wL_law_c rfl
theorem dL_law_889 : decode cL_law 889 = .ok (.aload_n 0, 1) := dw_42 wL_law_c rfl
theorem dL_law_890 : decode cL_law 890 = .ok (.iload_n 3, 1) := dw_29 wL_law_c rfl
theorem dL_law_891 : decode cL_law 891 = .ok (.iconst 1, 1) := dw_4 wL_law_c rfl
theorem dL_law_892 : decode cL_law 892 = .ok (.iadd, 1) := dw_96 wL_law_c rfl
theorem dL_law_893 : decode cL_law 893 = .ok (.iaload, 1) := dw_46 wL_law_c rfl
theorem dL_law_894 : decode cL_law 894 = .ok (.aload_n 0, 1) := dw_42 wL_law_c rfl
theorem dL_law_895 : decode cL_law 895 = .ok (.iload_n 3, 1) := dw_29 wL_law_c rfl
theorem dL_law_896 : decode cL_law 896 = .ok (.iconst 2, 1) := dw_5 wL_law_c rfl
theorem dL_law_897 : decode cL_law 897 = .ok (.iadd, 1) := dw_96 wL_law_c rfl
theorem dL_law_898 : decode cL_law 898 = .ok (.iaload, 1) := dw_46 wL_law_c rfl
theorem dL_law_899 : decode cL_law 899 = .ok (.invokevirtual 80, 3) := dw_182 wL_law_c 0 80 rfl rfl
theorem dL_law_902 : decode cL_law 902 = .ok (.pop, 1) := dw_87 wL_law_c rfl
theorem dL_law_903 : decode cL_law 903 = .ok (.aload_n 2, 1) := dw_44 wL_law_c rfl
theorem dL_law_904 : decode cL_law 904 = .ok (.aload_n 0, 1) := dw_42 wL_law_c rfl
theorem dL_law_905 : decode cL_law 905 = .ok (.iload_n 3, 1) := dw_29 wL_law_c rfl
theorem dL_law_906 : decode cL_law 906 = .ok (.iconst 1, 1) := dw_4 wL_law_c rfl
theorem dL_law_907 : decode cL_law 907 = .ok (.iadd, 1) := dw_96 wL_law_c rfl
theorem dL_law_908 : decode cL_law 908 = .ok (.iaload, 1) := dw_46 wL_law_c rfl
theorem dL_law_909 : decode cL_law 909 = .ok (.aload_n 0, 1) := dw_42 wL_law_c rfl
theorem dL_law_910 : decode cL_law 910 = .ok (.iload_n 3, 1) := dw_29 wL_law_c rfl
theorem dL_law_911 : decode cL_law 911 = .ok (.iconst 2, 1) := dw_5 wL_law_c rfl
theorem dL_law_912 : decode cL_law 912 = .ok (.iadd, 1) := dw_96 wL_law_c rfl
theorem dL_law_913 : decode cL_law 913 = .ok (.iaload, 1) := dw_46 wL_law_c rfl
theorem dL_law_914 : decode cL_law 914 = .ok (.invokevirtual 83, 3) := dw_182 wL_law_c 0 83 rfl rfl
theorem dL_law_917 : decode cL_law 917 = .ok (.pop, 1) := dw_87 wL_law_c rfl
theorem dL_law_918 : decode cL_law 918 = .ok (.goto 461, 3) := dw_167 wL_law_c 1 205 rfl rfl rfl
theorem dL_law_921 : decode cL_law 921 = .ok (.aload_n 1, 1) := dw_43 wL_law_c rfl
theorem dL_law_922 : decode cL_law 922 = .ok (.aload_n 0, 1) := dw_42 wL_law_c rfl
theorem dL_law_923 : decode cL_law 923 = .ok (.iload_n 3, 1) := dw_29 wL_law_c rfl
theorem dL_law_924 : decode cL_law 924 = .ok (.iconst 1, 1) := dw_4 wL_law_c rfl
theorem dL_law_925 : decode cL_law 925 = .ok (.iadd, 1) := dw_96 wL_law_c rfl
theorem dL_law_926 : decode cL_law 926 = .ok (.iaload, 1) := dw_46 wL_law_c rfl
theorem dL_law_927 : decode cL_law 927 = .ok (.aload_n 0, 1) := dw_42 wL_law_c rfl
theorem dL_law_928 : decode cL_law 928 = .ok (.iload_n 3, 1) := dw_29 wL_law_c rfl
theorem dL_law_929 : decode cL_law 929 = .ok (.iconst 2, 1) := dw_5 wL_law_c rfl
theorem dL_law_930 : decode cL_law 930 = .ok (.iadd, 1) := dw_96 wL_law_c rfl
theorem dL_law_931 : decode cL_law 931 = .ok (.iaload, 1) := dw_46 wL_law_c rfl
theorem dL_law_932 : decode cL_law 932 = .ok (.aload_n 0, 1) := dw_42 wL_law_c rfl
theorem dL_law_933 : decode cL_law 933 = .ok (.iload_n 3, 1) := dw_29 wL_law_c rfl
theorem dL_law_934 : decode cL_law 934 = .ok (.iconst 3, 1) := dw_6 wL_law_c rfl
theorem dL_law_935 : decode cL_law 935 = .ok (.iadd, 1) := dw_96 wL_law_c rfl
theorem dL_law_936 : decode cL_law 936 = .ok (.iaload, 1) := dw_46 wL_law_c rfl
theorem dL_law_937 : decode cL_law 937 = .ok (.invokevirtual 84, 3) := dw_182 wL_law_c 0 84 rfl rfl
theorem dL_law_940 : decode cL_law 940 = .ok (.pop, 1) := dw_87 wL_law_c rfl
theorem dL_law_941 : decode cL_law 941 = .ok (.aload_n 2, 1) := dw_44 wL_law_c rfl
theorem dL_law_942 : decode cL_law 942 = .ok (.aload_n 0, 1) := dw_42 wL_law_c rfl
theorem dL_law_943 : decode cL_law 943 = .ok (.iload_n 3, 1) := dw_29 wL_law_c rfl
theorem dL_law_944 : decode cL_law 944 = .ok (.iconst 1, 1) := dw_4 wL_law_c rfl
theorem dL_law_945 : decode cL_law 945 = .ok (.iadd, 1) := dw_96 wL_law_c rfl
theorem dL_law_946 : decode cL_law 946 = .ok (.iaload, 1) := dw_46 wL_law_c rfl
theorem dL_law_947 : decode cL_law 947 = .ok (.aload_n 0, 1) := dw_42 wL_law_c rfl
theorem dL_law_948 : decode cL_law 948 = .ok (.iload_n 3, 1) := dw_29 wL_law_c rfl
theorem dL_law_949 : decode cL_law 949 = .ok (.iconst 2, 1) := dw_5 wL_law_c rfl
theorem dL_law_950 : decode cL_law 950 = .ok (.iadd, 1) := dw_96 wL_law_c rfl
theorem dL_law_951 : decode cL_law 951 = .ok (.iaload, 1) := dw_46 wL_law_c rfl
theorem dL_law_952 : decode cL_law 952 = .ok (.aload_n 0, 1) := dw_42 wL_law_c rfl
theorem dL_law_953 : decode cL_law 953 = .ok (.iload_n 3, 1) := dw_29 wL_law_c rfl
theorem dL_law_954 : decode cL_law 954 = .ok (.iconst 3, 1) := dw_6 wL_law_c rfl
theorem dL_law_955 : decode cL_law 955 = .ok (.iadd, 1) := dw_96 wL_law_c rfl
theorem dL_law_956 : decode cL_law 956 = .ok (.iaload, 1) := dw_46 wL_law_c rfl
theorem dL_law_957 : decode cL_law 957 = .ok (.invokevirtual 88, 3) := dw_182 wL_law_c 0 88 rfl rfl
theorem dL_law_960 : decode cL_law 960 = .ok (.pop, 1) := dw_87 wL_law_c rfl
theorem dL_law_961 : decode cL_law 961 = .ok (.goto 418, 3) := dw_167 wL_law_c 1 162 rfl rfl rfl
theorem dL_law_964 : decode cL_law 964 = .ok (.aload_n 1, 1) := dw_43 wL_law_c rfl
theorem dL_law_965 : decode cL_law 965 = .ok (.aload_n 0, 1) := dw_42 wL_law_c rfl
theorem dL_law_966 : decode cL_law 966 = .ok (.iload_n 3, 1) := dw_29 wL_law_c rfl
theorem dL_law_967 : decode cL_law 967 = .ok (.iconst 1, 1) := dw_4 wL_law_c rfl
theorem dL_law_968 : decode cL_law 968 = .ok (.iadd, 1) := dw_96 wL_law_c rfl
theorem dL_law_969 : decode cL_law 969 = .ok (.iaload, 1) := dw_46 wL_law_c rfl
theorem dL_law_970 : decode cL_law 970 = .ok (.invokevirtual 89, 3) := dw_182 wL_law_c 0 89 rfl rfl
theorem dL_law_973 : decode cL_law 973 = .ok (.pop, 1) := dw_87 wL_law_c rfl
theorem dL_law_974 : decode cL_law 974 = .ok (.aload_n 2, 1) := dw_44 wL_law_c rfl
theorem dL_law_975 : decode cL_law 975 = .ok (.aload_n 0, 1) := dw_42 wL_law_c rfl
theorem dL_law_976 : decode cL_law 976 = .ok (.iload_n 3, 1) := dw_29 wL_law_c rfl
theorem dL_law_977 : decode cL_law 977 = .ok (.iconst 1, 1) := dw_4 wL_law_c rfl
theorem dL_law_978 : decode cL_law 978 = .ok (.iadd, 1) := dw_96 wL_law_c rfl
theorem dL_law_979 : decode cL_law 979 = .ok (.iaload, 1) := dw_46 wL_law_c rfl
theorem dL_law_980 : decode cL_law 980 = .ok (.invokevirtual 92, 3) := dw_182 wL_law_c 0 92 rfl rfl
theorem dL_law_983 : decode cL_law 983 = .ok (.pop, 1) := dw_87 wL_law_c rfl
theorem dL_law_984 : decode cL_law 984 = .ok (.goto 395, 3) := dw_167 wL_law_c 1 139 rfl rfl rfl
theorem dL_law_987 : decode cL_law 987 = .ok (.aload_n 1, 1) := dw_43 wL_law_c rfl
theorem dL_law_988 : decode cL_law 988 = .ok (.aload_n 0, 1) := dw_42 wL_law_c rfl
theorem dL_law_989 : decode cL_law 989 = .ok (.iload_n 3, 1) := dw_29 wL_law_c rfl
theorem dL_law_990 : decode cL_law 990 = .ok (.iconst 1, 1) := dw_4 wL_law_c rfl
theorem dL_law_991 : decode cL_law 991 = .ok (.iadd, 1) := dw_96 wL_law_c rfl
theorem dL_law_992 : decode cL_law 992 = .ok (.iaload, 1) := dw_46 wL_law_c rfl
theorem dL_law_993 : decode cL_law 993 = .ok (.aload_n 0, 1) := dw_42 wL_law_c rfl
theorem dL_law_994 : decode cL_law 994 = .ok (.iload_n 3, 1) := dw_29 wL_law_c rfl
theorem dL_law_995 : decode cL_law 995 = .ok (.iconst 2, 1) := dw_5 wL_law_c rfl
theorem dL_law_996 : decode cL_law 996 = .ok (.iadd, 1) := dw_96 wL_law_c rfl
theorem dL_law_997 : decode cL_law 997 = .ok (.iaload, 1) := dw_46 wL_law_c rfl
theorem dL_law_998 : decode cL_law 998 = .ok (.invokevirtual 93, 3) := dw_182 wL_law_c 0 93 rfl rfl
theorem dL_law_1001 : decode cL_law 1001 = .ok (.pop, 1) := dw_87 wL_law_c rfl
theorem dL_law_1002 : decode cL_law 1002 = .ok (.aload_n 2, 1) := dw_44 wL_law_c rfl
theorem dL_law_1003 : decode cL_law 1003 = .ok (.aload_n 0, 1) := dw_42 wL_law_c rfl
theorem dL_law_1004 : decode cL_law 1004 = .ok (.iload_n 3, 1) := dw_29 wL_law_c rfl
theorem dL_law_1005 : decode cL_law 1005 = .ok (.iconst 1, 1) := dw_4 wL_law_c rfl
theorem dL_law_1006 : decode cL_law 1006 = .ok (.iadd, 1) := dw_96 wL_law_c rfl
theorem dL_law_1007 : decode cL_law 1007 = .ok (.iaload, 1) := dw_46 wL_law_c rfl
theorem dL_law_1008 : decode cL_law 1008 = .ok (.aload_n 0, 1) := dw_42 wL_law_c rfl
theorem dL_law_1009 : decode cL_law 1009 = .ok (.iload_n 3, 1) := dw_29 wL_law_c rfl
theorem dL_law_1010 : decode cL_law 1010 = .ok (.iconst 2, 1) := dw_5 wL_law_c rfl
theorem dL_law_1011 : decode cL_law 1011 = .ok (.iadd, 1) := dw_96 wL_law_c rfl
theorem dL_law_1012 : decode cL_law 1012 = .ok (.iaload, 1) := dw_46 wL_law_c rfl
theorem dL_law_1013 : decode cL_law 1013 = .ok (.invokevirtual 96, 3) := dw_182 wL_law_c 0 96 rfl rfl
theorem dL_law_1016 : decode cL_law 1016 = .ok (.pop, 1) := dw_87 wL_law_c rfl
theorem dL_law_1017 : decode cL_law 1017 = .ok (.goto 362, 3) := dw_167 wL_law_c 1 106 rfl rfl rfl
theorem dL_law_1020 : decode cL_law 1020 = .ok (.aload_n 1, 1) := dw_43 wL_law_c rfl
theorem dL_law_1021 : decode cL_law 1021 = .ok (.aload_n 0, 1) := dw_42 wL_law_c rfl
theorem dL_law_1022 : decode cL_law 1022 = .ok (.iload_n 3, 1) := dw_29 wL_law_c rfl
theorem dL_law_1023 : decode cL_law 1023 = .ok (.iconst 1, 1) := dw_4 wL_law_c rfl
theorem dL_law_1024 : decode cL_law 1024 = .ok (.iadd, 1) := dw_96 wL_law_c rfl
theorem dL_law_1025 : decode cL_law 1025 = .ok (.iaload, 1) := dw_46 wL_law_c rfl
theorem dL_law_1026 : decode cL_law 1026 = .ok (.invokevirtual 97, 3) := dw_182 wL_law_c 0 97 rfl rfl
theorem dL_law_1029 : decode cL_law 1029 = .ok (.pop, 1) := dw_87 wL_law_c rfl
theorem dL_law_1030 : decode cL_law 1030 = .ok (.aload_n 2, 1) := dw_44 wL_law_c rfl
theorem dL_law_1031 : decode cL_law 1031 = .ok (.aload_n 0, 1) := dw_42 wL_law_c rfl
theorem dL_law_1032 : decode cL_law 1032 = .ok (.iload_n 3, 1) := dw_29 wL_law_c rfl
theorem dL_law_1033 : decode cL_law 1033 = .ok (.iconst 1, 1) := dw_4 wL_law_c rfl
theorem dL_law_1034 : decode cL_law 1034 = .ok (.iadd, 1) := dw_96 wL_law_c rfl
theorem dL_law_1035 : decode cL_law 1035 = .ok (.iaload, 1) := dw_46 wL_law_c rfl
theorem dL_law_1036 : decode cL_law 1036 = .ok (.invokevirtual 100, 3) := dw_182 wL_law_c 0 100 rfl rfl
theorem dL_law_1039 : decode cL_law 1039 = .ok (.pop, 1) := dw_87 wL_law_c rfl
theorem dL_law_1040 : decode cL_law 1040 = .ok (.goto 339, 3) := dw_167 wL_law_c 1 83 rfl rfl rfl
theorem dL_law_1043 : decode cL_law 1043 = .ok (.aload_n 1, 1) := dw_43 wL_law_c rfl
theorem dL_law_1044 : decode cL_law 1044 = .ok (.aload_n 0, 1) := dw_42 wL_law_c rfl
theorem dL_law_1045 : decode cL_law 1045 = .ok (.iload_n 3, 1) := dw_29 wL_law_c rfl
theorem dL_law_1046 : decode cL_law 1046 = .ok (.iconst 1, 1) := dw_4 wL_law_c rfl
theorem dL_law_1047 : decode cL_law 1047 = .ok (.iadd, 1) := dw_96 wL_law_c rfl
theorem dL_law_1048 : decode cL_law 1048 = .ok (.iaload, 1) := dw_46 wL_law_c rfl
theorem dL_law_1049 : decode cL_law 1049 = .ok (.aload_n 0, 1) := dw_42 wL_law_c rfl
theorem dL_law_1050 : decode cL_law 1050 = .ok (.iload_n 3, 1) := dw_29 wL_law_c rfl
theorem dL_law_1051 : decode cL_law 1051 = .ok (.iconst 2, 1) := dw_5 wL_law_c rfl
theorem dL_law_1052 : decode cL_law 1052 = .ok (.iadd, 1) := dw_96 wL_law_c rfl
theorem dL_law_1053 : decode cL_law 1053 = .ok (.iaload, 1) := dw_46 wL_law_c rfl
theorem dL_law_1054 : decode cL_law 1054 = .ok (.invokevirtual 101, 3) := dw_182 wL_law_c 0 101 rfl rfl
theorem dL_law_1057 : decode cL_law 1057 = .ok (.pop, 1) := dw_87 wL_law_c rfl
theorem dL_law_1058 : decode cL_law 1058 = .ok (.aload_n 2, 1) := dw_44 wL_law_c rfl
theorem dL_law_1059 : decode cL_law 1059 = .ok (.aload_n 0, 1) := dw_42 wL_law_c rfl
theorem dL_law_1060 : decode cL_law 1060 = .ok (.iload_n 3, 1) := dw_29 wL_law_c rfl
theorem dL_law_1061 : decode cL_law 1061 = .ok (.iconst 1, 1) := dw_4 wL_law_c rfl
theorem dL_law_1062 : decode cL_law 1062 = .ok (.iadd, 1) := dw_96 wL_law_c rfl
theorem dL_law_1063 : decode cL_law 1063 = .ok (.iaload, 1) := dw_46 wL_law_c rfl
theorem dL_law_1064 : decode cL_law 1064 = .ok (.aload_n 0, 1) := dw_42 wL_law_c rfl
theorem dL_law_1065 : decode cL_law 1065 = .ok (.iload_n 3, 1) := dw_29 wL_law_c rfl
theorem dL_law_1066 : decode cL_law 1066 = .ok (.iconst 2, 1) := dw_5 wL_law_c rfl
theorem dL_law_1067 : decode cL_law 1067 = .ok (.iadd, 1) := dw_96 wL_law_c rfl
theorem dL_law_1068 : decode cL_law 1068 = .ok (.iaload, 1) := dw_46 wL_law_c rfl
theorem dL_law_1069 : decode cL_law 1069 = .ok (.invokevirtual 104, 3) := dw_182 wL_law_c 0 104 rfl rfl
theorem dL_law_1072 : decode cL_law 1072 = .ok (.pop, 1) := dw_87 wL_law_c rfl
theorem dL_law_1073 : decode cL_law 1073 = .ok (.goto 306, 3) := dw_167 wL_law_c 1 50 rfl rfl rfl
theorem dL_law_1076 : decode cL_law 1076 = .ok (.aload_n 1, 1) := dw_43 wL_law_c rfl
theorem dL_law_1077 : decode cL_law 1077 = .ok (.aload_n 0, 1) := dw_42 wL_law_c rfl
theorem dL_law_1078 : decode cL_law 1078 = .ok (.iload_n 3, 1) := dw_29 wL_law_c rfl
theorem dL_law_1079 : decode cL_law 1079 = .ok (.iconst 1, 1) := dw_4 wL_law_c rfl
theorem dL_law_1080 : decode cL_law 1080 = .ok (.iadd, 1) := dw_96 wL_law_c rfl
theorem dL_law_1081 : decode cL_law 1081 = .ok (.iaload, 1) := dw_46 wL_law_c rfl
theorem dL_law_1082 : decode cL_law 1082 = .ok (.aload_n 0, 1) := dw_42 wL_law_c rfl
theorem dL_law_1083 : decode cL_law 1083 = .ok (.iload_n 3, 1) := dw_29 wL_law_c rfl
theorem dL_law_1084 : decode cL_law 1084 = .ok (.iconst 2, 1) := dw_5 wL_law_c rfl
theorem dL_law_1085 : decode cL_law 1085 = .ok (.iadd, 1) := dw_96 wL_law_c rfl
theorem dL_law_1086 : decode cL_law 1086 = .ok (.iaload, 1) := dw_46 wL_law_c rfl
theorem dL_law_1087 : decode cL_law 1087 = .ok (.aload_n 0, 1) := dw_42 wL_law_c rfl
theorem dL_law_1088 : decode cL_law 1088 = .ok (.iload_n 3, 1) := dw_29 wL_law_c rfl
theorem dL_law_1089 : decode cL_law 1089 = .ok (.iconst 3, 1) := dw_6 wL_law_c rfl
theorem dL_law_1090 : decode cL_law 1090 = .ok (.iadd, 1) := dw_96 wL_law_c rfl
theorem dL_law_1091 : decode cL_law 1091 = .ok (.iaload, 1) := dw_46 wL_law_c rfl
theorem dL_law_1092 : decode cL_law 1092 = .ok (.aload_n 0, 1) := dw_42 wL_law_c rfl
theorem dL_law_1093 : decode cL_law 1093 = .ok (.iload_n 3, 1) := dw_29 wL_law_c rfl
theorem dL_law_1094 : decode cL_law 1094 = .ok (.iconst 4, 1) := dw_7 wL_law_c rfl
theorem dL_law_1095 : decode cL_law 1095 = .ok (.iadd, 1) := dw_96 wL_law_c rfl
theorem dL_law_1096 : decode cL_law 1096 = .ok (.iaload, 1) := dw_46 wL_law_c rfl
theorem dL_law_1097 : decode cL_law 1097 = .ok (.invokevirtual 105, 3) := dw_182 wL_law_c 0 105 rfl rfl
theorem dL_law_1100 : decode cL_law 1100 = .ok (.pop, 1) := dw_87 wL_law_c rfl
theorem dL_law_1101 : decode cL_law 1101 = .ok (.aload_n 2, 1) := dw_44 wL_law_c rfl
theorem dL_law_1102 : decode cL_law 1102 = .ok (.aload_n 0, 1) := dw_42 wL_law_c rfl
theorem dL_law_1103 : decode cL_law 1103 = .ok (.iload_n 3, 1) := dw_29 wL_law_c rfl
theorem dL_law_1104 : decode cL_law 1104 = .ok (.iconst 1, 1) := dw_4 wL_law_c rfl
theorem dL_law_1105 : decode cL_law 1105 = .ok (.iadd, 1) := dw_96 wL_law_c rfl
theorem dL_law_1106 : decode cL_law 1106 = .ok (.iaload, 1) := dw_46 wL_law_c rfl
theorem dL_law_1107 : decode cL_law 1107 = .ok (.aload_n 0, 1) := dw_42 wL_law_c rfl
theorem dL_law_1108 : decode cL_law 1108 = .ok (.iload_n 3, 1) := dw_29 wL_law_c rfl
theorem dL_law_1109 : decode cL_law 1109 = .ok (.iconst 2, 1) := dw_5 wL_law_c rfl
theorem dL_law_1110 : decode cL_law 1110 = .ok (.iadd, 1) := dw_96 wL_law_c rfl
theorem dL_law_1111 : decode cL_law 1111 = .ok (.iaload, 1) := dw_46 wL_law_c rfl
theorem dL_law_1112 : decode cL_law 1112 = .ok (.aload_n 0, 1) := dw_42 wL_law_c rfl
theorem dL_law_1113 : decode cL_law 1113 = .ok (.iload_n 3, 1) := dw_29 wL_law_c rfl
theorem dL_law_1114 : decode cL_law 1114 = .ok (.iconst 3, 1) := dw_6 wL_law_c rfl
theorem dL_law_1115 : decode cL_law 1115 = .ok (.iadd, 1) := dw_96 wL_law_c rfl
theorem dL_law_1116 : decode cL_law 1116 = .ok (.iaload, 1) := dw_46 wL_law_c rfl
theorem dL_law_1117 : decode cL_law 1117 = .ok (.aload_n 0, 1) := dw_42 wL_law_c rfl
theorem dL_law_1118 : decode cL_law 1118 = .ok (.iload_n 3, 1) := dw_29 wL_law_c rfl
theorem dL_law_1119 : decode cL_law 1119 = .ok (.iconst 4, 1) := dw_7 wL_law_c rfl
theorem dL_law_1120 : decode cL_law 1120 = .ok (.iadd, 1) := dw_96 wL_law_c rfl
theorem dL_law_1121 : decode cL_law 1121 = .ok (.iaload, 1) := dw_46 wL_law_c rfl
theorem dL_law_1122 : decode cL_law 1122 = .ok (.invokevirtual 108, 3) := dw_182 wL_law_c 0 108 rfl rfl
theorem dL_law_1125 : decode cL_law 1125 = .ok (.pop, 1) := dw_87 wL_law_c rfl
theorem dL_law_1126 : decode cL_law 1126 = .ok (.goto 253, 3) := dw_167 wL_law_c 0 253 rfl rfl rfl
theorem dL_law_1129 : decode cL_law 1129 = .ok (.aload_n 1, 1) := dw_43 wL_law_c rfl
theorem dL_law_1130 : decode cL_law 1130 = .ok (.aload_n 0, 1) := dw_42 wL_law_c rfl
theorem dL_law_1131 : decode cL_law 1131 = .ok (.iload_n 3, 1) := dw_29 wL_law_c rfl
theorem dL_law_1132 : decode cL_law 1132 = .ok (.iconst 1, 1) := dw_4 wL_law_c rfl
theorem dL_law_1133 : decode cL_law 1133 = .ok (.iadd, 1) := dw_96 wL_law_c rfl
theorem dL_law_1134 : decode cL_law 1134 = .ok (.iaload, 1) := dw_46 wL_law_c rfl
theorem dL_law_1135 : decode cL_law 1135 = .ok (.aload_n 0, 1) := dw_42 wL_law_c rfl
theorem dL_law_1136 : decode cL_law 1136 = .ok (.iload_n 3, 1) := dw_29 wL_law_c rfl
theorem dL_law_1137 : decode cL_law 1137 = .ok (.iconst 2, 1) := dw_5 wL_law_c rfl
theorem dL_law_1138 : decode cL_law 1138 = .ok (.iadd, 1) := dw_96 wL_law_c rfl
theorem dL_law_1139 : decode cL_law 1139 = .ok (.iaload, 1) := dw_46 wL_law_c rfl
theorem dL_law_1140 : decode cL_law 1140 = .ok (.invokevirtual 109, 3) := dw_182 wL_law_c 0 109 rfl rfl
theorem dL_law_1143 : decode cL_law 1143 = .ok (.pop, 1) := dw_87 wL_law_c rfl
theorem dL_law_1144 : decode cL_law 1144 = .ok (.aload_n 2, 1) := dw_44 wL_law_c rfl
theorem dL_law_1145 : decode cL_law 1145 = .ok (.aload_n 0, 1) := dw_42 wL_law_c rfl
theorem dL_law_1146 : decode cL_law 1146 = .ok (.iload_n 3, 1) := dw_29 wL_law_c rfl
theorem dL_law_1147 : decode cL_law 1147 = .ok (.iconst 1, 1) := dw_4 wL_law_c rfl
theorem dL_law_1148 : decode cL_law 1148 = .ok (.iadd, 1) := dw_96 wL_law_c rfl
theorem dL_law_1149 : decode cL_law 1149 = .ok (.iaload, 1) := dw_46 wL_law_c rfl
theorem dL_law_1150 : decode cL_law 1150 = .ok (.aload_n 0, 1) := dw_42 wL_law_c rfl
theorem dL_law_1151 : decode cL_law 1151 = .ok (.iload_n 3, 1) := dw_29 wL_law_c rfl
theorem dL_law_1152 : decode cL_law 1152 = .ok (.iconst 2, 1) := dw_5 wL_law_c rfl
theorem dL_law_1153 : decode cL_law 1153 = .ok (.iadd, 1) := dw_96 wL_law_c rfl
theorem dL_law_1154 : decode cL_law 1154 = .ok (.iaload, 1) := dw_46 wL_law_c rfl
theorem dL_law_1155 : decode cL_law 1155 = .ok (.invokevirtual 112, 3) := dw_182 wL_law_c 0 112 rfl rfl
theorem dL_law_1158 : decode cL_law 1158 = .ok (.pop, 1) := dw_87 wL_law_c rfl
theorem dL_law_1159 : decode cL_law 1159 = .ok (.goto 220, 3) := dw_167 wL_law_c 0 220 rfl rfl rfl
theorem dL_law_1162 : decode cL_law 1162 = .ok (.aload_n 1, 1) := dw_43 wL_law_c rfl
theorem dL_law_1163 : decode cL_law 1163 = .ok (.aload_n 0, 1) := dw_42 wL_law_c rfl
theorem dL_law_1164 : decode cL_law 1164 = .ok (.iload_n 3, 1) := dw_29 wL_law_c rfl
theorem dL_law_1165 : decode cL_law 1165 = .ok (.iconst 1, 1) := dw_4 wL_law_c rfl
theorem dL_law_1166 : decode cL_law 1166 = .ok (.iadd, 1) := dw_96 wL_law_c rfl
theorem dL_law_1167 : decode cL_law 1167 = .ok (.iaload, 1) := dw_46 wL_law_c rfl
theorem dL_law_1168 : decode cL_law 1168 = .ok (.aload_n 0, 1) := dw_42 wL_law_c rfl
theorem dL_law_1169 : decode cL_law 1169 = .ok (.iload_n 3, 1) := dw_29 wL_law_c rfl
theorem dL_law_1170 : decode cL_law 1170 = .ok (.iconst 2, 1) := dw_5 wL_law_c rfl
theorem dL_law_1171 : decode cL_law 1171 = .ok (.iadd, 1) := dw_96 wL_law_c rfl
theorem dL_law_1172 : decode cL_law 1172 = .ok (.iaload, 1) := dw_46 wL_law_c rfl
theorem dL_law_1173 : decode cL_law 1173 = .ok (.invokevirtual 113, 3) := dw_182 wL_law_c 0 113 rfl rfl
theorem dL_law_1176 : decode cL_law 1176 = .ok (.aload_n 2, 1) := dw_44 wL_law_c rfl
theorem dL_law_1177 : decode cL_law 1177 = .ok (.aload_n 0, 1) := dw_42 wL_law_c rfl
theorem dL_law_1178 : decode cL_law 1178 = .ok (.iload_n 3, 1) := dw_29 wL_law_c rfl
theorem dL_law_1179 : decode cL_law 1179 = .ok (.iconst 1, 1) := dw_4 wL_law_c rfl
theorem dL_law_1180 : decode cL_law 1180 = .ok (.iadd, 1) := dw_96 wL_law_c rfl
theorem dL_law_1181 : decode cL_law 1181 = .ok (.iaload, 1) := dw_46 wL_law_c rfl
theorem dL_law_1182 : decode cL_law 1182 = .ok (.aload_n 0, 1) := dw_42 wL_law_c rfl
theorem dL_law_1183 : decode cL_law 1183 = .ok (.iload_n 3, 1) := dw_29 wL_law_c rfl
theorem dL_law_1184 : decode cL_law 1184 = .ok (.iconst 2, 1) := dw_5 wL_law_c rfl
theorem dL_law_1185 : decode cL_law 1185 = .ok (.iadd, 1) := dw_96 wL_law_c rfl
theorem dL_law_1186 : decode cL_law 1186 = .ok (.iaload, 1) := dw_46 wL_law_c rfl
theorem dL_law_1187 : decode cL_law 1187 = .ok (.invokevirtual 116, 3) := dw_182 wL_law_c 0 116 rfl rfl
theorem dL_law_1190 : decode cL_law 1190 = .ok (.if_icmp .eq 189, 3) := dw_159 wL_law_c 0 189 rfl rfl rfl
theorem dL_law_1195 : decode cL_law 1195 = .ok (.aload_n 1, 1) := dw_43 wL_law_c rfl
theorem dL_law_1196 : decode cL_law 1196 = .ok (.invokevirtual 117, 3) := dw_182 wL_law_c 0 117 rfl rfl
theorem dL_law_1199 : decode cL_law 1199 = .ok (.pop, 1) := dw_87 wL_law_c rfl
theorem dL_law_1200 : decode cL_law 1200 = .ok (.aload_n 2, 1) := dw_44 wL_law_c rfl
theorem dL_law_1201 : decode cL_law 1201 = .ok (.invokevirtual 121, 3) := dw_182 wL_law_c 0 121 rfl rfl
theorem dL_law_1204 : decode cL_law 1204 = .ok (.pop, 1) := dw_87 wL_law_c rfl
theorem dL_law_1205 : decode cL_law 1205 = .ok (.goto 174, 3) := dw_167 wL_law_c 0 174 rfl rfl rfl
theorem dL_law_1208 : decode cL_law 1208 = .ok (.aload_n 1, 1) := dw_43 wL_law_c rfl
theorem dL_law_1209 : decode cL_law 1209 = .ok (.aload_n 0, 1) := dw_42 wL_law_c rfl
theorem dL_law_1210 : decode cL_law 1210 = .ok (.iload_n 3, 1) := dw_29 wL_law_c rfl
theorem dL_law_1211 : decode cL_law 1211 = .ok (.iconst 1, 1) := dw_4 wL_law_c rfl
theorem dL_law_1212 : decode cL_law 1212 = .ok (.iadd, 1) := dw_96 wL_law_c rfl
theorem dL_law_1213 : decode cL_law 1213 = .ok (.iaload, 1) := dw_46 wL_law_c rfl
theorem dL_law_1214 : decode cL_law 1214 = .ok (.invokevirtual 122, 3) := dw_182 wL_law_c 0 122 rfl rfl
theorem dL_law_1217 : decode cL_law 1217 = .ok (.pop, 1) := dw_87 wL_law_c rfl
theorem dL_law_1218 : decode cL_law 1218 = .ok (.aload_n 2, 1) := dw_44 wL_law_c rfl
theorem dL_law_1219 : decode cL_law 1219 = .ok (.aload_n 0, 1) := dw_42 wL_law_c rfl
theorem dL_law_1220 : decode cL_law 1220 = .ok (.iload_n 3, 1) := dw_29 wL_law_c rfl
theorem dL_law_1221 : decode cL_law 1221 = .ok (.iconst 1, 1) := dw_4 wL_law_c rfl
theorem dL_law_1222 : decode cL_law 1222 = .ok (.iadd, 1) := dw_96 wL_law_c rfl
theorem dL_law_1223 : decode cL_law 1223 = .ok (.iaload, 1) := dw_46 wL_law_c rfl
theorem dL_law_1224 : decode cL_law 1224 = .ok (.invokevirtual 125, 3) := dw_182 wL_law_c 0 125 rfl rfl
theorem dL_law_1227 : decode cL_law 1227 = .ok (.pop, 1) := dw_87 wL_law_c rfl
theorem dL_law_1228 : decode cL_law 1228 = .ok (.goto 151, 3) := dw_167 wL_law_c 0 151 rfl rfl rfl
theorem dL_law_1231 : decode cL_law 1231 = .ok (.aload_n 1, 1) := dw_43 wL_law_c rfl
theorem dL_law_1232 : decode cL_law 1232 = .ok (.aload_n 0, 1) := dw_42 wL_law_c rfl
theorem dL_law_1233 : decode cL_law 1233 = .ok (.iload_n 3, 1) := dw_29 wL_law_c rfl
theorem dL_law_1234 : decode cL_law 1234 = .ok (.iconst 1, 1) := dw_4 wL_law_c rfl
theorem dL_law_1235 : decode cL_law 1235 = .ok (.iadd, 1) := dw_96 wL_law_c rfl
theorem dL_law_1236 : decode cL_law 1236 = .ok (.iaload, 1) := dw_46 wL_law_c rfl
theorem dL_law_1237 : decode cL_law 1237 = .ok (.invokevirtual 126, 3) := dw_182 wL_law_c 0 126 rfl rfl
theorem dL_law_1240 : decode cL_law 1240 = .ok (.pop, 1) := dw_87 wL_law_c rfl
theorem dL_law_1241 : decode cL_law 1241 = .ok (.aload_n 2, 1) := dw_44 wL_law_c rfl
theorem dL_law_1242 : decode cL_law 1242 = .ok (.aload_n 0, 1) := dw_42 wL_law_c rfl
theorem dL_law_1243 : decode cL_law 1243 = .ok (.iload_n 3, 1) := dw_29 wL_law_c rfl
theorem dL_law_1244 : decode cL_law 1244 = .ok (.iconst 1, 1) := dw_4 wL_law_c rfl
theorem dL_law_1245 : decode cL_law 1245 = .ok (.iadd, 1) := dw_96 wL_law_c rfl
theorem dL_law_1246 : decode cL_law 1246 = .ok (.iaload, 1) := dw_46 wL_law_c rfl
theorem dL_law_1247 : decode cL_law 1247 = .ok (.invokevirtual 129, 3) := dw_182 wL_law_c 0 129 rfl rfl
theorem dL_law_1250 : decode cL_law 1250 = .ok (.pop, 1) := dw_87 wL_law_c rfl
theorem dL_law_1251 : decode cL_law 1251 = .ok (.goto 128, 3) := dw_167 wL_law_c 0 128 rfl rfl rfl
theorem dL_law_1254 : decode cL_law 1254 = .ok (.aload_n 1, 1) := dw_43 wL_law_c rfl
theorem dL_law_1255 : decode cL_law 1255 = .ok (.invokevirtual 130, 3) := dw_182 wL_law_c 0 130 rfl rfl
theorem dL_law_1258 : decode cL_law 1258 = .ok (.pop, 1) := dw_87 wL_law_c rfl
theorem dL_law_1259 : decode cL_law 1259 = .ok (.aload_n 2, 1) := dw_44 wL_law_c rfl
theorem dL_law_1260 : decode cL_law 1260 = .ok (.invokevirtual 133, 3) := dw_182 wL_law_c 0 133 rfl rfl
theorem dL_law_1263 : decode cL_law 1263 = .ok (.pop, 1) := dw_87 wL_law_c rfl
theorem dL_law_1264 : decode cL_law 1264 = .ok (.goto 115, 3) := dw_167 wL_law_c 0 115 rfl rfl rfl
theorem dL_law_1267 : decode cL_law 1267 = .ok (.aload_n 1, 1) := dw_43 wL_law_c rfl
theorem dL_law_1268 : decode cL_law 1268 = .ok (.aload_n 0, 1) := dw_42 wL_law_c rfl
theorem dL_law_1269 : decode cL_law 1269 = .ok (.iload_n 3, 1) := dw_29 wL_law_c rfl
theorem dL_law_1270 : decode cL_law 1270 = .ok (.iconst 1, 1) := dw_4 wL_law_c rfl
theorem dL_law_1271 : decode cL_law 1271 = .ok (.iadd, 1) := dw_96 wL_law_c rfl
theorem dL_law_1272 : decode cL_law 1272 = .ok (.iaload, 1) := dw_46 wL_law_c rfl
theorem dL_law_1273 : decode cL_law 1273 = .ok (.invokevirtual 134, 3) := dw_182 wL_law_c 0 134 rfl rfl
theorem dL_law_1276 : decode cL_law 1276 = .ok (.pop, 1) := dw_87 wL_law_c rfl
theorem dL_law_1277 : decode cL_law 1277 = .ok (.aload_n 2, 1) := dw_44 wL_law_c rfl
theorem dL_law_1278 : decode cL_law 1278 = .ok (.aload_n 0, 1) := dw_42 wL_law_c rfl
theorem dL_law_1279 : decode cL_law 1279 = .ok (.iload_n 3, 1) := dw_29 wL_law_c rfl
theorem dL_law_1280 : decode cL_law 1280 = .ok (.iconst 1, 1) := dw_4 wL_law_c rfl
theorem dL_law_1281 : decode cL_law 1281 = .ok (.iadd, 1) := dw_96 wL_law_c rfl
theorem dL_law_1282 : decode cL_law 1282 = .ok (.iaload, 1) := dw_46 wL_law_c rfl
theorem dL_law_1283 : decode cL_law 1283 = .ok (.invokevirtual 137, 3) := dw_182 wL_law_c 0 137 rfl rfl
theorem dL_law_1286 : decode cL_law 1286 = .ok (.pop, 1) := dw_87 wL_law_c rfl
theorem dL_law_1287 : decode cL_law 1287 = .ok (.goto 92, 3) := dw_167 wL_law_c 0 92 rfl rfl rfl
theorem dL_law_1290 : decode cL_law 1290 = .ok (.aload_n 1, 1) := dw_43 wL_law_c rfl
theorem dL_law_1291 : decode cL_law 1291 = .ok (.aload_n 0, 1) := dw_42 wL_law_c rfl
theorem dL_law_1292 : decode cL_law 1292 = .ok (.iload_n 3, 1) := dw_29 wL_law_c rfl
theorem dL_law_1293 : decode cL_law 1293 = .ok (.iconst 1, 1) := dw_4 wL_law_c rfl
theorem dL_law_1294 : decode cL_law 1294 = .ok (.iadd, 1) := dw_96 wL_law_c rfl
theorem dL_law_1295 : decode cL_law 1295 = .ok (.iaload, 1) := dw_46 wL_law_c rfl
theorem dL_law_1296 : decode cL_law 1296 = .ok (.aload_n 0, 1) := dw_42 wL_law_c rfl
theorem dL_law_1297 : decode cL_law 1297 = .ok (.iload_n 3, 1) := dw_29 wL_law_c rfl
theorem dL_law_1298 : decode cL_law 1298 = .ok (.iconst 2, 1) := dw_5 wL_law_c rfl
theorem dL_law_1299 : decode cL_law 1299 = .ok (.iadd, 1) := dw_96 wL_law_c rfl
theorem dL_law_1300 : decode cL_law 1300 = .ok (.iaload, 1) := dw_46 wL_law_c rfl
theorem dL_law_1301 : decode cL_law 1301 = .ok (.invokevirtual 138, 3) := dw_182 wL_law_c 0 138 rfl rfl
theorem dL_law_1304 : decode cL_law 1304 = .ok (.pop, 1) := dw_87 wL_law_c rfl
theorem dL_law_1305 : decode cL_law 1305 = .ok (.aload_n 2, 1) := dw_44 wL_law_c rfl
theorem dL_law_1306 : decode cL_law 1306 = .ok (.aload_n 0, 1) := dw_42 wL_law_c rfl
theorem dL_law_1307 : decode cL_law 1307 = .ok (.iload_n 3, 1) := dw_29 wL_law_c rfl
theorem dL_law_1308 : decode cL_law 1308 = .ok (.iconst 1, 1) := dw_4 wL_law_c rfl
theorem dL_law_1309 : decode cL_law 1309 = .ok (.iadd, 1) := dw_96 wL_law_c rfl
theorem dL_law_1310 : decode cL_law 1310 = .ok (.iaload, 1) := dw_46 wL_law_c rfl
theorem dL_law_1311 : decode cL_law 1311 = .ok (.aload_n 0, 1) := dw_42 wL_law_c rfl
theorem dL_law_1312 : decode cL_law 1312 = .ok (.iload_n 3, 1) := dw_29 wL_law_c rfl
theorem dL_law_1313 : decode cL_law 1313 = .ok (.iconst 2, 1) := dw_5 wL_law_c rfl
theorem dL_law_1314 : decode cL_law 1314 = .ok (.iadd, 1) := dw_96 wL_law_c rfl
theorem dL_law_1315 : decode cL_law 1315 = .ok (.iaload, 1) := dw_46 wL_law_c rfl
theorem dL_law_1316 : decode cL_law 1316 = .ok (.invokevirtual 141, 3) := dw_182 wL_law_c 0 141 rfl rfl
theorem dL_law_1319 : decode cL_law 1319 = .ok (.pop, 1) := dw_87 wL_law_c rfl
theorem dL_law_1320 : decode cL_law 1320 = .ok (.goto 59, 3) := dw_167 wL_law_c 0 59 rfl rfl rfl
theorem dL_law_1323 : decode cL_law 1323 = .ok (.aload_n 1, 1) := dw_43 wL_law_c rfl
theorem dL_law_1324 : decode cL_law 1324 = .ok (.aload_n 0, 1) := dw_42 wL_law_c rfl
theorem dL_law_1325 : decode cL_law 1325 = .ok (.iload_n 3, 1) := dw_29 wL_law_c rfl
theorem dL_law_1326 : decode cL_law 1326 = .ok (.iconst 1, 1) := dw_4 wL_law_c rfl
theorem dL_law_1327 : decode cL_law 1327 = .ok (.iadd, 1) := dw_96 wL_law_c rfl
theorem dL_law_1328 : decode cL_law 1328 = .ok (.iaload, 1) := dw_46 wL_law_c rfl
theorem dL_law_1329 : decode cL_law 1329 = .ok (.aload_n 0, 1) := dw_42 wL_law_c rfl
theorem dL_law_1330 : decode cL_law 1330 = .ok (.iload_n 3, 1) := dw_29 wL_law_c rfl
theorem dL_law_1331 : decode cL_law 1331 = .ok (.iconst 2, 1) := dw_5 wL_law_c rfl
theorem dL_law_1332 : decode cL_law 1332 = .ok (.iadd, 1) := dw_96 wL_law_c rfl
theorem dL_law_1333 : decode cL_law 1333 = .ok (.iaload, 1) := dw_46 wL_law_c rfl
theorem dL_law_1334 : decode cL_law 1334 = .ok (.invokevirtual 142, 3) := dw_182 wL_law_c 0 142 rfl rfl
theorem dL_law_1337 : decode cL_law 1337 = .ok (.pop, 1) := dw_87 wL_law_c rfl
theorem dL_law_1338 : decode cL_law 1338 = .ok (.aload_n 2, 1) := dw_44 wL_law_c rfl
theorem dL_law_1339 : decode cL_law 1339 = .ok (.aload_n 0, 1) := dw_42 wL_law_c rfl
theorem dL_law_1340 : decode cL_law 1340 = .ok (.iload_n 3, 1) := dw_29 wL_law_c rfl
theorem dL_law_1341 : decode cL_law 1341 = .ok (.iconst 1, 1) := dw_4 wL_law_c rfl
theorem dL_law_1342 : decode cL_law 1342 = .ok (.iadd, 1) := dw_96 wL_law_c rfl
theorem dL_law_1343 : decode cL_law 1343 = .ok (.iaload, 1) := dw_46 wL_law_c rfl
theorem dL_law_1344 : decode cL_law 1344 = .ok (.aload_n 0, 1) := dw_42 wL_law_c rfl
theorem dL_law_1345 : decode cL_law 1345 = .ok (.iload_n 3, 1) := dw_29 wL_law_c rfl
theorem dL_law_1346 : decode cL_law 1346 = .ok (.iconst 2, 1) := dw_5 wL_law_c rfl
theorem dL_law_1347 : decode cL_law 1347 = .ok (.iadd, 1) := dw_96 wL_law_c rfl
theorem dL_law_1348 : decode cL_law 1348 = .ok (.iaload, 1) := dw_46 wL_law_c rfl
theorem dL_law_1349 : decode cL_law 1349 = .ok (.invokevirtual 145, 3) := dw_182 wL_law_c 0 145 rfl rfl
theorem dL_law_1352 : decode cL_law 1352 = .ok (.pop, 1) := dw_87 wL_law_c rfl
theorem dL_law_1353 : decode cL_law 1353 = .ok (.goto 26, 3) := dw_167 wL_law_c 0 26 rfl rfl rfl
theorem dL_law_1356 : decode cL_law 1356 = .ok (.aload_n 1, 1) := dw_43 wL_law_c rfl
theorem dL_law_1357 : decode cL_law 1357 = .ok (.aload_n 0, 1) := dw_42 wL_law_c rfl
theorem dL_law_1358 : decode cL_law 1358 = .ok (.iload_n 3, 1) := dw_29 wL_law_c rfl
theorem dL_law_1359 : decode cL_law 1359 = .ok (.iconst 1, 1) := dw_4 wL_law_c rfl
theorem dL_law_1360 : decode cL_law 1360 = .ok (.iadd, 1) := dw_96 wL_law_c rfl
theorem dL_law_1361 : decode cL_law 1361 = .ok (.iaload, 1) := dw_46 wL_law_c rfl
theorem dL_law_1362 : decode cL_law 1362 = .ok (.invokevirtual 146, 3) := dw_182 wL_law_c 0 146 rfl rfl
theorem dL_law_1365 : decode cL_law 1365 = .ok (.pop, 1) := dw_87 wL_law_c rfl
theorem dL_law_1366 : decode cL_law 1366 = .ok (.aload_n 2, 1) := dw_44 wL_law_c rfl
theorem dL_law_1367 : decode cL_law 1367 = .ok (.aload_n 0, 1) := dw_42 wL_law_c rfl
theorem dL_law_1368 : decode cL_law 1368 = .ok (.iload_n 3, 1) := dw_29 wL_law_c rfl
theorem dL_law_1369 : decode cL_law 1369 = .ok (.iconst 1, 1) := dw_4 wL_law_c rfl
theorem dL_law_1370 : decode cL_law 1370 = .ok (.iadd, 1) := dw_96 wL_law_c rfl
theorem dL_law_1371 : decode cL_law 1371 = .ok (.iaload, 1) := dw_46 wL_law_c rfl
theorem dL_law_1372 : decode cL_law 1372 = .ok (.invokevirtual 149, 3) := dw_182 wL_law_c 0 149 rfl rfl
theorem dL_law_1375 : decode cL_law 1375 = .ok (.pop, 1) := dw_87 wL_law_c rfl
theorem dL_law_1376 : decode cL_law 1376 = .ok (.goto 3, 3) := dw_167 wL_law_c 0 3 rfl rfl rfl
theorem dL_law_1379 : decode cL_law 1379 = .ok (.iinc 3 7, 3) := dw_132 wL_law_c 3 7 rfl rfl rfl
theorem dL_law_1382 : decode cL_law 1382 = .ok (.goto (-1364), 3) := dn_167 wL_law_c 250 172 rfl (by decide)
theorem dL_law_1385 : decode cL_law 1385 = .ok (.iconst 1, 1) := dw_4 wL_law_c rfl
theorem dL_law_1386 : decode cL_law 1386 = .ok (.ireturn, 1) := dw_172 wL_law_c rfl
/-! WHAT HOLDS AT THE HEAD OF THE LAW'S LOOP -/
def hx_IX (h : hx_h) (x : Nat) : Prop := (∀ q : Nat, h.2.2 x 5 = some q → ∀ j : Nat, (j : Int) < (h.2.1 x 6).toInt → h.2.2 q j ≠ none) ∧ (∀ q : Nat, h.2.2 x 7 = some q → ∀ j : Nat, (j : Int) < (h.2.1 x 8).toInt → h.2.2 q j ≠ none) ∧ (∀ q : Nat, h.2.2 x 10 = some q → ∀ j : Nat, (j : Int) < (h.2.1 x 11).toInt → h.2.2 q j ≠ none) ∧ (∀ q : Nat, h.2.2 x 12 = some q → ∀ j : Nat, (j : Int) < (h.2.1 x 13).toInt → h.2.2 q j ≠ none) ∧ (∀ w q : Nat, h.2.2 x 19 = some w → h.2.2 w 3 = some q → ∀ j : Nat, (j : Int) < (h.2.1 w 0).toInt → h.2.2 q j ≠ none)
def hx_IM (T : Int) (h : hx_h) (m : Nat) : Prop := (∀ q : Nat, h.2.2 m 19 = some q → hx_wd (h.2.1 q)) ∧ (∀ q : Nat, h.2.2 m 3 = some q → hx_WK (h.2.1 q) (h.2.1 m 1).toInt) ∧ (∀ q r : Nat, h.2.2 m 5 = some q → h.2.2 m 4 = some r → hx_RP (h.2.1 q) (h.2.1 r) (h.2.1 m 1).toInt) ∧ (∀ q : Nat, h.2.2 m 44 = some q → hx_PL (h.2.1 q) (h.2.1 m 36).toInt (h.2.1 m 1).toInt) ∧ (∀ q : Nat, h.2.2 m 47 = some q → (h.2.1 m 57).toInt = hx_hc (h.2.1 q) (h.2.1 m 36).toInt.toNat) ∧ (∀ q : Nat, h.2.2 m 45 = some q → hx_TR (h.2.1 q) T) ∧ (∀ q r : Nat, h.2.2 m 47 = some q → h.2.2 m 46 = some r → hx_HF (h.2.1 m 36).toInt (h.2.1 q) (h.2.1 r))
def hx_EQ (h : hx_h) (x m : Nat) : Prop := h.2.1 x 2 = h.2.1 m 0 ∧ h.2.1 x 8 = h.2.1 m 20 ∧ h.2.1 x 11 = h.2.1 m 36 ∧ h.2.1 x 1 = h.2.1 m 7 ∧ h.2.1 x 6 = h.2.1 m 1 ∧ h.2.1 x 13 = h.2.1 m 57 ∧ (∀ q : Nat, h.2.2 x 9 = some q → h.2.1 q 0 = h.2.1 m 29) ∧ (∀ q : Nat, h.2.2 x 19 = some q → h.2.1 q 0 = h.2.1 m 90) ∧ (∀ q : Nat, h.2.2 x 19 = some q → h.2.1 q 1 = h.2.1 m 92) ∧ (∀ q : Nat, h.2.2 x 14 = some q → h.2.1 q 0 = h.2.1 m 59) ∧ (∀ q : Nat, h.2.2 x 17 = some q → h.2.1 q 1 = h.2.1 m 72) ∧ (∀ q : Nat, h.2.2 x 7 = some q → hx_num 40 h q 0 (h.2.1 x 8).toInt) ∧ (∀ q : Nat, h.2.2 x 10 = some q → hx_num 100 h q 0 (h.2.1 x 11).toInt) ∧ (∀ b a r : Nat, h.2.2 x 9 = some b → h.2.2 b 1 = some a → h.2.2 m 30 = some r → hx_eqN (h.2.1 b 0).toInt.toNat (h.2.1 a) (h.2.1 r)) ∧ (∀ b a r : Nat, h.2.2 x 9 = some b → h.2.2 b 2 = some a → h.2.2 m 31 = some r → hx_eqN (h.2.1 b 0).toInt.toNat (h.2.1 a) (h.2.1 r)) ∧ (∀ b a r : Nat, h.2.2 x 9 = some b → h.2.2 b 3 = some a → h.2.2 m 32 = some r → hx_eqN (h.2.1 b 0).toInt.toNat (h.2.1 a) (h.2.1 r)) ∧ (∀ b a r : Nat, h.2.2 x 9 = some b → h.2.2 b 4 = some a → h.2.2 m 33 = some r → hx_eqN (h.2.1 b 0).toInt.toNat (h.2.1 a) (h.2.1 r)) ∧ (∀ b a r : Nat, h.2.2 x 9 = some b → h.2.2 b 5 = some a → h.2.2 m 34 = some r → hx_eqN (h.2.1 b 0).toInt.toNat (h.2.1 a) (h.2.1 r)) ∧ (∀ b a c : Nat, h.2.2 x 9 = some b → h.2.2 b 3 = some a → h.2.2 b 6 = some c → hy_BD (h.2.1 a) (h.2.1 c) (h.2.1 b 0).toInt.toNat ∧ hy_DY (h.2.1 a) (h.2.1 b 0).toInt.toNat) ∧ (∀ w q c : Nat, h.2.2 x 19 = some w → h.2.2 w 3 = some q → h.2.2 x 10 = some c → hx_LQ 8 100 h q c) ∧ (∀ w q r : Nat, h.2.2 x 19 = some w → h.2.2 w 3 = some q → h.2.2 m 91 = some r → hx_eqN 8 (hx_col 8 h q 0) (h.2.1 r)) ∧ (∀ w a r : Nat, h.2.2 x 19 = some w → h.2.2 w 2 = some a → h.2.2 m 93 = some r → hx_eqN (h.2.1 w 1).toInt.toNat (h.2.1 a) (h.2.1 r)) ∧ (∀ c q a : Nat, h.2.2 x 10 = some c → h.2.2 x 7 = some q → h.2.2 m 38 = some a → hw_DF h c q 2 (h.2.1 a) (h.2.1 x 11).toInt) ∧ (∀ q r : Nat, h.2.2 x 0 = some q → h.2.2 m 6 = some r → h.2.1 q = h.2.1 r) ∧ (∀ q w a b c d e p : Nat, h.2.2 x 5 = some q → h.2.2 x 4 = some w → h.2.2 m 2 = some a → h.2.2 m 3 = some b → h.2.2 m 4 = some c → h.2.2 m 5 = some d → h.2.2 x 10 = some e → h.2.2 m 44 = some p → ∃ A : Nat → hv_act, hv_RA h q w (h.2.1 x 6).toInt A ∧ hv_CA (h.2.1 a) (h.2.1 b) (h.2.1 c) (h.2.1 d) (h.2.1 x 6).toInt A ∧ hv_AC h e (h.2.1 p) (h.2.1 x 11).toInt A ∧ hv_AB A) ∧ (∀ c q a : Nat, h.2.2 x 10 = some c → h.2.2 x 7 = some q → h.2.2 m 37 = some a → hw_DF h c q 1 (h.2.1 a) (h.2.1 x 11).toInt) ∧ (∀ q c a : Nat, h.2.2 x 12 = some q → h.2.2 x 10 = some c → h.2.2 m 58 = some a → hv_HL h q c (h.2.1 a) (h.2.1 x 13).toInt (h.2.1 x 11).toInt) ∧ (∀ a b : Nat, h.2.2 m 58 = some a → h.2.2 m 47 = some b → hv_HO (h.2.1 a) (h.2.1 b) (h.2.1 m 57).toInt (h.2.1 m 36).toInt) ∧ (∀ c a b d e f : Nat, h.2.2 x 10 = some c → h.2.2 m 53 = some a → h.2.2 m 41 = some b → h.2.2 m 42 = some d → h.2.2 m 39 = some e → h.2.2 m 47 = some f → ∃ F : Nat → Int32, hv_FX 8 4 h c F (h.2.1 x 11).toInt ∧ hv_FR F (h.2.1 a) (h.2.1 b) (h.2.1 d) (h.2.1 e) (h.2.1 f) (h.2.1 x 11).toInt) ∧ (∀ c a : Nat, h.2.2 x 10 = some c → h.2.2 m 52 = some a → hv_FX 3 5 h c (h.2.1 a) (h.2.1 x 11).toInt) ∧ (∀ q r : Nat, h.2.2 x 7 = some q → h.2.2 m 21 = some r → hx_col 40 h q 1 = h.2.1 r) ∧ (∀ q r : Nat, h.2.2 x 7 = some q → h.2.2 m 26 = some r → hx_col 40 h q 2 = h.2.1 r) ∧ (∀ q r : Nat, h.2.2 x 10 = some q → h.2.2 m 39 = some r → hx_col 100 h q 6 = h.2.1 r) ∧ (∀ q r : Nat, h.2.2 x 10 = some q → h.2.2 m 40 = some r → hx_col 100 h q 7 = h.2.1 r) ∧ (∀ q r : Nat, h.2.2 x 10 = some q → h.2.2 m 43 = some r → hx_col 100 h q 8 = h.2.1 r) ∧ (∀ q r : Nat, h.2.2 x 10 = some q → h.2.2 m 47 = some r → hx_col 100 h q 11 = h.2.1 r) ∧ (∀ q r : Nat, h.2.2 x 10 = some q → h.2.2 m 51 = some r → hx_col 100 h q 12 = h.2.1 r) ∧ (∀ q r : Nat, h.2.2 x 7 = some q → h.2.2 m 22 = some r → hx_col 40 h q 3 = h.2.1 r) ∧ (∀ q r : Nat, h.2.2 x 7 = some q → h.2.2 m 23 = some r → hx_col 40 h q 4 = h.2.1 r) ∧ (∀ q r : Nat, h.2.2 x 10 = some q → h.2.2 m 48 = some r → hx_col 100 h q 13 = h.2.1 r) ∧ (∀ q r : Nat, h.2.2 x 10 = some q → h.2.2 m 54 = some r → hx_col 100 h q 14 = h.2.1 r) ∧ (∀ q r : Nat, h.2.2 x 10 = some q → h.2.2 m 55 = some r → hx_col 100 h q 15 = h.2.1 r) ∧ (∀ q r : Nat, h.2.2 x 10 = some q → h.2.2 m 56 = some r → hx_col 100 h q 17 = h.2.1 r) ∧ (∀ q r : Nat, h.2.2 x 10 = some q → h.2.2 m 49 = some r → hx_col 100 h q 16 = h.2.1 r) ∧ (∀ q r : Nat, h.2.2 x 10 = some q → h.2.2 m 50 = some r → hx_col 100 h q 18 = h.2.1 r) ∧ (∀ p q r : Nat, h.2.2 x 14 = some p → h.2.2 p 2 = some q → h.2.2 m 60 = some r → h.2.1 q = h.2.1 r) ∧ (∀ p q r : Nat, h.2.2 x 14 = some p → h.2.2 p 3 = some q → h.2.2 m 61 = some r → h.2.1 q = h.2.1 r) ∧ (∀ p q r : Nat, h.2.2 x 14 = some p → h.2.2 p 5 = some q → h.2.2 m 62 = some r → h.2.1 q = h.2.1 r) ∧ (∀ p q r : Nat, h.2.2 x 14 = some p → h.2.2 p 4 = some q → h.2.2 m 63 = some r → h.2.1 q = h.2.1 r) ∧ (∀ p q r : Nat, h.2.2 x 14 = some p → h.2.2 p 1 = some q → h.2.2 m 64 = some r → h.2.1 q = h.2.1 r) ∧ (∀ p : Nat, h.2.2 x 18 = some p → hz_NQ (h.2.1 p 0).toInt (h.2.1 m 83).toInt (h.2.1 m 84).toInt) ∧ (∀ p q r : Nat, h.2.2 x 18 = some p → h.2.2 p 3 = some q → h.2.2 m 85 = some r → ∀ j : Nat, (j : Int) < (h.2.1 p 0).toInt → (h.2.1 q j).toInt = (h.2.1 r j).toInt) ∧ (∀ p a b c d e f : Nat, h.2.2 x 17 = some p → h.2.2 p 2 = some a → h.2.2 p 3 = some b → h.2.2 p 4 = some c → h.2.2 m 73 = some d → h.2.2 m 74 = some e → h.2.2 m 81 = some f → hp_EA (h.2.1 p 1).toInt (h.2.1 a) (h.2.1 d) (h.2.1 b) (h.2.1 e) (h.2.1 c) (h.2.1 f)) ∧ (∀ q r : Nat, h.2.2 x 7 = some q → h.2.2 m 27 = some r → hx_eqN 40 (hx_col 40 h q 7) (h.2.1 r)) ∧ (∀ q r : Nat, h.2.2 x 7 = some q → h.2.2 m 28 = some r → hx_eqN 40 (hx_col 40 h q 8) (h.2.1 r)) ∧ (∀ q r : Nat, h.2.2 x 7 = some q → h.2.2 m 24 = some r → hx_eqN 40 (hx_col 40 h q 5) (h.2.1 r)) ∧ (∀ q r : Nat, h.2.2 x 7 = some q → h.2.2 m 25 = some r → hx_eqN 40 (hx_col 40 h q 6) (h.2.1 r)) ∧ (∀ q r : Nat, h.2.2 x 10 = some q → h.2.2 m 46 = some r → hx_eqN 100 (hx_col 100 h q 10) (h.2.1 r)) ∧ (∀ q r : Nat, h.2.2 x 10 = some q → h.2.2 m 45 = some r → hx_eqN 100 (hx_col 100 h q 9) (h.2.1 r)) ∧ True
def hx_IV (T : Int) (x m : Nat) (L : List Nat) (h : hx_h) : Prop := hx_T T_tb L h ∧ hx_g L h x 9 ∧ hx_g L h m 10 ∧ hx_EQ h x m ∧ hx_IX h x ∧ hx_IM T h m
theorem hx_rf {tb : List hx_d} {L : List Nat} {h : hx_h} {a t ci k u : Nat} {fs : List hx_f} (hT : hx_T tb L h) (g : hx_g L h a t) (hd : tb[t]? = some (.inl (ci, fs))) (hf : fs[k]? = some (.inr (true, [u]))) : ∃ q, h.2.2 a k = some q ∧ hx_g L h q u := by
  obtain ⟨h1, h2⟩ := hT.gr g hd hf
  cases hq : h.2.2 a k with
  | none => exact absurd hq (h1 rfl)
  | some q =>
    obtain ⟨q1, q2⟩ := h2 q hq
    exact ⟨q, rfl, q1, by simpa using q2⟩
theorem hx_ob {r : Option Nat} {a : Nat} {P : Nat → Prop} (f : r = some a) (p : P a) : ∀ q, r = some q → P q := fun q hq => by
  have : a = q := Option.some.inj (f.symm.trans hq)
  subst this; exact p
theorem hx_ob2 {r r2 : Option Nat} {a a2 : Nat} {P : Nat → Nat → Prop} (f : r = some a) (f2 : r2 = some a2) (p : P a a2) : ∀ q q2, r = some q → r2 = some q2 → P q q2 := fun q q2 hq hq2 => by
  have e1 : a = q := Option.some.inj (f.symm.trans hq)
  have e2 : a2 = q2 := Option.some.inj (f2.symm.trans hq2)
  subst e1; subst e2; exact p
theorem hx_pf0 {h : hx_h} {a k : Nat} {P : Nat → Prop} (f : h.2.1 a k = 0) : ∀ j : Nat, (j : Int) < (h.2.1 a k).toInt → P j := fun j hj => by
  rw [f] at hj
  have : (0 : Int32).toInt = 0 := by decide
  omega
theorem hx_pf1 {h : hx_h} {a k : Nat} {P : Nat → Prop} {v : Int32} (f : h.2.1 a k = v) (z : v.toInt = 0) : ∀ j : Nat, (j : Int) < (h.2.1 a k).toInt → P j := fun j hj => by
  rw [f] at hj
  omega
theorem hx_PL_le {f : Nat → Int32} {c a b : Int} (h : hx_PL f c a) (hb : a ≤ b) : hx_PL f c b := fun k h0 h1 => ⟨(h k h0 h1).1, Int.le_trans (h k h0 h1).2 hb⟩
theorem hx_hc00 {f : Nat → Int32} : (0 : Int32).toInt = ((hx_hc f (0 : Int32).toInt.toNat : Nat) : Int) := by
  have : (0 : Int32).toInt = 0 := by decide
  rw [this]; rfl
theorem hx_ck {r1 r2 i n0 n1 n2 : Int32} (p : (r1.toInt = 0 ∨ r1.toInt = 1) ∧ (r1.toInt = 0 → (i.toInt < n0.toInt ∨ 7999 < i.toInt) ∧ n1 = n0) ∧ (r1.toInt = 1 → n0.toInt ≤ i.toInt ∧ i.toInt ≤ 7999 ∧ n1 = i)) (q : (r2.toInt = 0 ∨ r2.toInt = 1) ∧ (r2.toInt = 0 → (i.toInt < n0.toInt ∨ 7999 < i.toInt) ∧ n2 = n0) ∧ (r2.toInt = 1 → n0.toInt ≤ i.toInt ∧ i.toInt ≤ 7999 ∧ n2 = i)) : r1.toInt = r2.toInt ∧ n1 = n2 := by
  obtain ⟨a, b, c⟩ := p
  obtain ⟨a', b', c'⟩ := q
  rcases a with z | z <;> rcases a' with z' | z'
  · exact ⟨by omega, (b z).2.trans (b' z').2.symm⟩
  · exfalso; have := (b z).1; have := c' z'; omega
  · exfalso; have := c z; have := (b' z').1; omega
  · exact ⟨by omega, (c z).2.2.trans (c' z').2.2.symm⟩
end
