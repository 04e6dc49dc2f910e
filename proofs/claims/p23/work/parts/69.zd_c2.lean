
set_option maxHeartbeats 4000000 in
set_option maxRecDepth 100000 in
theorem t_X10_planned_v (l : Launch) (dC : Nat → ClassId) (dI : Nat → Nat → Nat) (dA : Nat → ClassId) (L : List Nat) (h : hx_h) (sz : Nat) (x : Nat) (i1 : Int32) (i2 : Int32) (hT : hx_T T_tb L h) (gx : hx_g L h x 10) (zpc : Nat) (gzpc : hx_g L h zpc 100) (f_x_73 : h.2.2 x 73 = some zpc) (zpw : Nat) (gzpw : hx_g L h zpw 101) (f_x_74 : h.2.2 x 74 = some zpw) (zpk : Nat) (gzpk : hx_g L h zpk 107) (f_x_81 : h.2.2 x 81 = some zpk) (clf : Nat → Int32) (af_zpc : h.2.1 zpc = clf) (wlf : Nat → Int32) (af_zpw : h.2.1 zpw = wlf) (wsf : Nat → Int32) (af_zpk : h.2.1 zpk = wsf) (td0 : Int32) (f_x_72 : h.2.1 x 72 = td0) : Met l yX10_planned (Cond.code yX10_planned cX10_planned 3 (some .int) :: hx_all) ({ frames := 1, cells := 0, slots := 0, locals := 22 }) (va_Pc [.ref x, .int i1, .int i2] (hx_B T_tb (P_ty dA) (dC, dI) vwCl L h sz)) (va_Qi (fun (r : Int32) (u : List Nat × hx_h) => (hp_PD i1.toInt i2.toInt td0.toInt clf wlf wsf r.toInt) ∧ hx_T T_tb u.1 u.2 ∧ hx_S T_tb [] L h u.1 u.2) (hx_E T_tb (P_ty dA) (dC, dI) vwCl (hx_A L sz)) (hx_A L sz)) 0 0 (hx_A L sz) := by
  refine hx_met (lv := [(0, .ref x), (1, .int i1), (2, .int i2)]) (by decide +kernel) rfl (Nat.le_of_ble_eq_true rfl) rfl ?_
  intro p e s m below meth c hx hb hml hr hlk hts0 hown hin hsz hW ls hl
  have hts : ∀ w ∈ hx_all, w.before _ s = true := fun w hw => hts0 w (List.mem_cons_of_mem _ hw)
  have hown : s.vm.findClass "SmallCourtModel" = some m.cls := hown
  have hM : hx_S T_tb [] L h L h := hx_S.rf
  have b_td0 := hT.gi gx tt_10 (k := 72) rfl
  rw [f_x_72] at b_td0
  have b_td0 : 0 ≤ td0.toInt ∧ td0.toInt ≤ 4 := b_td0
  refine lv_iload_n hx hb dX10_planned_0 rfl (lv_at hl 1 rfl) ?_
  refine lv_iconst (v := 0) hx hb dX10_planned_1 (by decide) ?_
  refine lv_aload_n hx hb dX10_planned_2 rfl (lv_at hl 0 rfl) ?_
  refine hk_geti hx hb hts hC_10 hown hW (gx.S hM) tt_10 72 (by decide) rfl kw_1215 ⟨rfl, rfl, rfl⟩ ((hM.o gx trivial rfl).1.trans f_x_72) dX10_planned_3 ?_
  refine lv_iconst (v := 1) hx hb dX10_planned_6 (by decide) ?_
  refine lv_isub hx hb dX10_planned_7 ?_
  have rg_1 := i32_r td0
  refine lv_topi (fun x_2 ex_2 => ?_)
  have zx_2 : x_2.toInt = td0.toInt - 1 := by rw [ex_2]; exact i32_sub rfl (by decide) (by omega) (by omega)
  have zc_0 : (0 : Int32).toInt = 0 := by decide
  refine hx_goi (hx_runS (As := [.int i1, .int (0 : Int32), .int x_2]) (rest := []) ⟨hx, hb, hml, hown, hts⟩ hW (t_X10_in l dC dI dA L h s.heap.size i1 (0 : Int32) x_2 hT) (va_cwS 3 hts (hx_gS kw_1445 kw_1443 kw_1444 kw_103) rfl rfl rfl (by decide +kernel) ⟨Nat.le_of_ble_eq_true rfl, Nat.le_of_ble_eq_true rfl⟩) rfl hl.1 rfl (Nat.le_of_ble_eq_true rfl) dX10_planned_8 ⟨Nat.le_of_ble_eq_true rfl, Nat.le_of_ble_eq_true rfl⟩) hW (fun r_5 L_3 h_4 H locs p_6 hW => ?_)
  obtain ⟨hr_7, hT, hs⟩ := p_6
  replace hT : hx_T T_tb L_3 h_4 := hT
  replace hs : hx_S T_tb [] L h L_3 h_4 := hs
  replace hM := hM.tr (hs.mono (by decide))
  refine hb_if_ne (zx := r_5.toInt) (tgt := 16) hx hb rfl dX10_planned_11 (by decide) (fun c_8 => ?_) (fun c_8 => ?_)
  · skip
    replace hr_7 := hr_7.resolve_left (fun z9 => c_8 z9.1)
    replace c_8 := hr_7.1
    replace hr_7 := hr_7.2
    refine lv_iload_n hx hb dX10_planned_16 rfl (lv_at hl 2 rfl) ?_
    refine hb_if_ne (zx := i2.toInt) (tgt := 29) hx hb rfl dX10_planned_17 (by decide) (fun c_9 => ?_) (fun c_9 => ?_)
    · skip
      refine lv_iload_n hx hb dX10_planned_29 rfl (lv_at hl 2 rfl) ?_
      refine lv_iconst (v := 1) hx hb dX10_planned_30 (by decide) ?_
      refine hb_icmp_ne (zx := i2.toInt) (zy := 1) (tgt := 43) hx hb rfl (by decide) dX10_planned_31 (by decide) (fun c_10 => ?_) (fun c_10 => ?_)
      · skip
        refine lv_iload_n hx hb dX10_planned_43 rfl (lv_at hl 2 rfl) ?_
        refine lv_iconst (v := 2) hx hb dX10_planned_44 (by decide) ?_
        refine hb_icmp_ne (zx := i2.toInt) (zy := 2) (tgt := 57) hx hb rfl (by decide) dX10_planned_45 (by decide) (fun c_11 => ?_) (fun c_11 => ?_)
        · skip
          refine lv_iconst (v := -1) hx hb dX10_planned_57 (by decide) ?_
          exact hx_reti hx hb hr hlk hW ⟨(Or.inr ⟨⟨by omega, by omega⟩, Or.inr (Or.inr (Or.inr ⟨by omega, by decide⟩))⟩), hT, hM⟩ dX10_planned_58
        · skip
          refine lv_aload_n hx hb dX10_planned_48 rfl (lv_at hl 0 rfl) ?_
          refine hk_getr hx hb hts hC_10 hown hW (gx.S hM) tt_10 81 (by decide) rfl kw_1224 ⟨rfl, rfl, rfl⟩ ((hM.o gx trivial rfl).2.trans f_x_81) dX10_planned_49 ?_
          refine lv_iload_n hx hb dX10_planned_52 rfl (lv_at hl 1 rfl) ?_
          refine hx_iald hx hb hW hT (gzpk.S hM) tt_107 rfl ⟨by omega, by omega⟩ dX10_planned_53 (fun x_12 ex_12 lx_12 ux_12 => ?_)
          have ax_12 : x_12 = wsf i1.toNatClampNeg := ex_12.trans (congrFun (hx_afS hM gzpk rfl af_zpk) _)
          refine lv_goto (tgt := 58) hx hb dX10_planned_54 (by decide) ?_
          exact hx_reti hx hb hr hlk hW ⟨(Or.inr ⟨⟨by omega, by omega⟩, Or.inr (Or.inr (Or.inl ⟨by omega, congrArg Int32.toInt ax_12⟩))⟩), hT, hM⟩ dX10_planned_58
      · skip
        refine lv_aload_n hx hb dX10_planned_34 rfl (lv_at hl 0 rfl) ?_
        refine hk_getr hx hb hts hC_10 hown hW (gx.S hM) tt_10 74 (by decide) rfl kw_1217 ⟨rfl, rfl, rfl⟩ ((hM.o gx trivial rfl).2.trans f_x_74) dX10_planned_35 ?_
        refine lv_iload_n hx hb dX10_planned_38 rfl (lv_at hl 1 rfl) ?_
        refine hx_iald hx hb hW hT (gzpw.S hM) tt_101 rfl ⟨by omega, by omega⟩ dX10_planned_39 (fun x_13 ex_13 lx_13 ux_13 => ?_)
        have ax_13 : x_13 = wlf i1.toNatClampNeg := ex_13.trans (congrFun (hx_afS hM gzpw rfl af_zpw) _)
        refine lv_goto (tgt := 58) hx hb dX10_planned_40 (by decide) ?_
        exact hx_reti hx hb hr hlk hW ⟨(Or.inr ⟨⟨by omega, by omega⟩, Or.inr (Or.inl ⟨by omega, congrArg Int32.toInt ax_13⟩)⟩), hT, hM⟩ dX10_planned_58
    · skip
      refine lv_aload_n hx hb dX10_planned_20 rfl (lv_at hl 0 rfl) ?_
      refine hk_getr hx hb hts hC_10 hown hW (gx.S hM) tt_10 73 (by decide) rfl kw_1216 ⟨rfl, rfl, rfl⟩ ((hM.o gx trivial rfl).2.trans f_x_73) dX10_planned_21 ?_
      refine lv_iload_n hx hb dX10_planned_24 rfl (lv_at hl 1 rfl) ?_
      refine hx_iald hx hb hW hT (gzpc.S hM) tt_100 rfl ⟨by omega, by omega⟩ dX10_planned_25 (fun x_14 ex_14 lx_14 ux_14 => ?_)
      have ax_14 : x_14 = clf i1.toNatClampNeg := ex_14.trans (congrFun (hx_afS hM gzpc rfl af_zpc) _)
      refine lv_goto (tgt := 58) hx hb dX10_planned_26 (by decide) ?_
      exact hx_reti hx hb hr hlk hW ⟨(Or.inr ⟨⟨by omega, by omega⟩, Or.inl ⟨by omega, congrArg Int32.toInt ax_14⟩⟩), hT, hM⟩ dX10_planned_58
  · skip
    replace hr_7 := hr_7.resolve_right (fun z9 => absurd (c_8.symm.trans z9.1) (by decide))
    replace hr_7 := hr_7.2
    refine lv_iconst (v := -1) hx hb dX10_planned_14 (by decide) ?_
    exact hx_reti hx hb hr hlk hW ⟨(Or.inl ⟨by omega, by decide⟩), hT, hM⟩ dX10_planned_15


set_option maxHeartbeats 4000000 in
set_option maxRecDepth 100000 in
theorem t_X5_init_p (l : Launch) (dC : Nat → ClassId) (dI : Nat → Nat → Nat) (dA : Nat → ClassId) (L : List Nat) (h : hx_h) (sz : Nat) (x : Nat) (hT : hx_T T_tb L h) (gx : hx_g L h x 121) (hz : ∀ j, h.2.1 x j = 0 ∧ h.2.2 x j = none) : Met l yX5_init (Cond.code yX5_init cX5_init 1 none :: hx_all) ({ frames := 1, cells := 7, slots := 28, locals := 12 }) (va_Pc [.ref x] (hx_B T_tb (P_ty dA) (dC, dI) vwCl L h sz)) (va_Qv (fun (u : List Nat × hx_h) => hx_T T_tb u.1 u.2 ∧ hx_S T_tb [(121, 2), (121, 3), (121, 4), (121, 5), (121, 6), (121, 7), (121, 8)] (hx_X L x) h u.1 u.2 ∧ hx_g u.1 u.2 x 5 ∧ u.2.2.1 x 1 = 0) (hx_E T_tb (P_ty dA) (dC, dI) vwCl (hx_A L sz)) (hx_A L sz)) 7 28 (hx_A L sz) := by
  refine hx_met (lv := [(0, .ref x)]) (by decide +kernel) rfl (Nat.le_of_ble_eq_true rfl) rfl ?_
  intro p e s m below meth c hx hb hml hr hlk hts0 hown hin hsz hW ls hl
  have hts : ∀ w ∈ hx_all, w.before _ s = true := fun w hw => hts0 w (List.mem_cons_of_mem _ hw)
  have hown : s.vm.findClass "SmallCourt$Plan" = some m.cls := hown
  have hin : meth.name = "<init>" := hin
  have hM : hx_S T_tb [(121, 2), (121, 3), (121, 4), (121, 5), (121, 6), (121, 7), (121, 8)] (hx_X L x) h L h := hx_SX_rf
  have hz : ∀ j, ([] : List Nat).contains j = false → h.2.1 x j = 0 ∧ h.2.2 x j = none := fun j _ => hz j
  refine lv_aload_n hx hb dX5_init_0 rfl (lv_at hl 0 rfl) ?_
  refine W.objInit hx hb hown (hts _ kw_257) (hts _ kw_117) (hts _ kw_118) rfl (by rw [hml]; exact hl.1) rfl dX5_init_1 (Nat.le_of_ble_eq_true rfl) (Nat.le_of_ble_eq_true rfl) ?_
  refine W.eq (g2 := F0 m 4 ls []) rfl ?_
  refine lv_aload_n hx hb dX5_init_4 rfl (lv_at hl 0 rfl) ?_
  refine lv_iconst (v := 4) hx hb dX5_init_5 (by decide) ?_
  refine hk_newa hx hb hts hW 27 tt_27 (atype := .int) rfl kw_186 (tys := P_ty dA) (t0 := 0) rfl (fun _ => Iff.rfl) rfl (i := (4 : Int32)) (by decide) (Nat.le_of_ble_eq_true rfl) (Nat.le_of_ble_eq_true rfl) (Nat.le_of_ble_eq_true rfl) dX5_init_6 (fun q_2 H h_1 eh_1 hqq_2 hW hs gq_2 => ?_)
  have nq_q_2 : ∀ a ∈ (hx_X L x), a ≠ q_2 := fun a ha z => hqq_2 (z ▸ (hM.1 a ha).1)
  have hT : hx_T T_tb (L ++ [q_2]) h_1 := by rw [eh_1]; exact hx_T_nw hT hqq_2 tt_27 rfl
  replace hz := hx_zr [] hz hs gx trivial rfl
  replace hM := hM.tr (hs.mono (by decide))
  replace gx := gx.S hs
  refine hx_putrF hx hb hts hC_5 hown hW hT (hx_S.rf (M := [(121, 2)])) gx tt_121 2 (by decide) rfl kw_262 ⟨rfl, rfl, rfl⟩ rfl hin rfl (x := (some q_2)) ⟨fun _ z => (by cases z), fun q hq => (by cases hq; exact ⟨gq_2.1, by rw [gq_2.2]; decide⟩)⟩ rfl rfl rfl (List.mem_singleton.mpr rfl) dX5_init_8 (fun H locs h_3 eh_3 hW hT hs => ?_)
  replace hz := hx_zr [2] hz hs gx trivial rfl
  replace hM := hM.tr (hs.mono (by decide))
  replace gx := gx.S hs
  replace gq_2 := gq_2.S hs
  have f_4 : h_3.2.2 x 2 = (some q_2) := by rw [eh_3]; exact hx_pr_at _ _ _ _
  refine lv_aload_n hx hb dX5_init_11 rfl (lv_at hl 0 rfl) ?_
  refine lv_iconst (v := 4) hx hb dX5_init_12 (by decide) ?_
  refine hk_newa hx hb hts hW 28 tt_28 (atype := .int) rfl kw_186 (tys := P_ty dA) (t0 := 0) rfl (fun _ => Iff.rfl) rfl (i := (4 : Int32)) (by decide) (Nat.le_of_ble_eq_true rfl) (Nat.le_of_ble_eq_true rfl) (Nat.le_of_ble_eq_true rfl) dX5_init_13 (fun q_6 H h_5 eh_5 hqq_6 hW hs gq_6 => ?_)
  have nq_q_6 : ∀ a ∈ (hx_X L x), a ≠ q_6 := fun a ha z => hqq_6 (z ▸ (hM.1 a ha).1)
  have hT : hx_T T_tb ((L ++ [q_2]) ++ [q_6]) h_5 := by rw [eh_5]; exact hx_T_nw hT hqq_6 tt_28 rfl
  replace f_4 := (hs.o gx trivial rfl).2.trans f_4
  replace hz := hx_zr [2] hz hs gx trivial rfl
  replace hM := hM.tr (hs.mono (by decide))
  replace gx := gx.S hs
  replace gq_2 := gq_2.S hs
  refine hx_putrF hx hb hts hC_5 hown hW hT (hx_S.rf (M := [(121, 3)])) gx tt_121 3 (by decide) rfl kw_264 ⟨rfl, rfl, rfl⟩ rfl hin rfl (x := (some q_6)) ⟨fun _ z => (by cases z), fun q hq => (by cases hq; exact ⟨gq_6.1, by rw [gq_6.2]; decide⟩)⟩ rfl rfl rfl (List.mem_singleton.mpr rfl) dX5_init_15 (fun H locs h_7 eh_7 hW hT hs => ?_)
  replace f_4 := (hs.o gx trivial rfl).2.trans f_4
  replace hz := hx_zr [2, 3] hz hs gx trivial rfl
  replace hM := hM.tr (hs.mono (by decide))
  replace gx := gx.S hs
  replace gq_2 := gq_2.S hs
  replace gq_6 := gq_6.S hs
  have f_8 : h_7.2.2 x 3 = (some q_6) := by rw [eh_7]; exact hx_pr_at _ _ _ _
  refine lv_aload_n hx hb dX5_init_18 rfl (lv_at hl 0 rfl) ?_
  refine lv_iconst (v := 4) hx hb dX5_init_19 (by decide) ?_
  refine hk_newa hx hb hts hW 29 tt_29 (atype := .int) rfl kw_186 (tys := P_ty dA) (t0 := 0) rfl (fun _ => Iff.rfl) rfl (i := (4 : Int32)) (by decide) (Nat.le_of_ble_eq_true rfl) (Nat.le_of_ble_eq_true rfl) (Nat.le_of_ble_eq_true rfl) dX5_init_20 (fun q_10 H h_9 eh_9 hqq_10 hW hs gq_10 => ?_)
  have nq_q_10 : ∀ a ∈ (hx_X L x), a ≠ q_10 := fun a ha z => hqq_10 (z ▸ (hM.1 a ha).1)
  have hT : hx_T T_tb (((L ++ [q_2]) ++ [q_6]) ++ [q_10]) h_9 := by rw [eh_9]; exact hx_T_nw hT hqq_10 tt_29 rfl
  replace f_4 := (hs.o gx trivial rfl).2.trans f_4
  replace f_8 := (hs.o gx trivial rfl).2.trans f_8
  replace hz := hx_zr [2, 3] hz hs gx trivial rfl
  replace hM := hM.tr (hs.mono (by decide))
  replace gx := gx.S hs
  replace gq_2 := gq_2.S hs
  replace gq_6 := gq_6.S hs
  refine hx_putrF hx hb hts hC_5 hown hW hT (hx_S.rf (M := [(121, 4)])) gx tt_121 4 (by decide) rfl kw_266 ⟨rfl, rfl, rfl⟩ rfl hin rfl (x := (some q_10)) ⟨fun _ z => (by cases z), fun q hq => (by cases hq; exact ⟨gq_10.1, by rw [gq_10.2]; decide⟩)⟩ rfl rfl rfl (List.mem_singleton.mpr rfl) dX5_init_22 (fun H locs h_11 eh_11 hW hT hs => ?_)
  replace f_4 := (hs.o gx trivial rfl).2.trans f_4
  replace f_8 := (hs.o gx trivial rfl).2.trans f_8
  replace hz := hx_zr [2, 3, 4] hz hs gx trivial rfl
  replace hM := hM.tr (hs.mono (by decide))
  replace gx := gx.S hs
  replace gq_2 := gq_2.S hs
  replace gq_6 := gq_6.S hs
  replace gq_10 := gq_10.S hs
  have f_12 : h_11.2.2 x 4 = (some q_10) := by rw [eh_11]; exact hx_pr_at _ _ _ _
  refine lv_aload_n hx hb dX5_init_25 rfl (lv_at hl 0 rfl) ?_
  refine lv_iconst (v := 4) hx hb dX5_init_26 (by decide) ?_
  refine hk_newa hx hb hts hW 30 tt_30 (atype := .int) rfl kw_186 (tys := P_ty dA) (t0 := 0) rfl (fun _ => Iff.rfl) rfl (i := (4 : Int32)) (by decide) (Nat.le_of_ble_eq_true rfl) (Nat.le_of_ble_eq_true rfl) (Nat.le_of_ble_eq_true rfl) dX5_init_27 (fun q_14 H h_13 eh_13 hqq_14 hW hs gq_14 => ?_)
  have nq_q_14 : ∀ a ∈ (hx_X L x), a ≠ q_14 := fun a ha z => hqq_14 (z ▸ (hM.1 a ha).1)
  have hT : hx_T T_tb ((((L ++ [q_2]) ++ [q_6]) ++ [q_10]) ++ [q_14]) h_13 := by rw [eh_13]; exact hx_T_nw hT hqq_14 tt_30 rfl
  replace f_4 := (hs.o gx trivial rfl).2.trans f_4
  replace f_8 := (hs.o gx trivial rfl).2.trans f_8
  replace f_12 := (hs.o gx trivial rfl).2.trans f_12
  replace hz := hx_zr [2, 3, 4] hz hs gx trivial rfl
  replace hM := hM.tr (hs.mono (by decide))
  replace gx := gx.S hs
  replace gq_2 := gq_2.S hs
  replace gq_6 := gq_6.S hs
  replace gq_10 := gq_10.S hs
  refine hx_putrF hx hb hts hC_5 hown hW hT (hx_S.rf (M := [(121, 5)])) gx tt_121 5 (by decide) rfl kw_268 ⟨rfl, rfl, rfl⟩ rfl hin rfl (x := (some q_14)) ⟨fun _ z => (by cases z), fun q hq => (by cases hq; exact ⟨gq_14.1, by rw [gq_14.2]; decide⟩)⟩ rfl rfl rfl (List.mem_singleton.mpr rfl) dX5_init_29 (fun H locs h_15 eh_15 hW hT hs => ?_)
  replace f_4 := (hs.o gx trivial rfl).2.trans f_4
  replace f_8 := (hs.o gx trivial rfl).2.trans f_8
  replace f_12 := (hs.o gx trivial rfl).2.trans f_12
  replace hz := hx_zr [2, 3, 4, 5] hz hs gx trivial rfl
  replace hM := hM.tr (hs.mono (by decide))
  replace gx := gx.S hs
  replace gq_2 := gq_2.S hs
  replace gq_6 := gq_6.S hs
  replace gq_10 := gq_10.S hs
  replace gq_14 := gq_14.S hs
  have f_16 : h_15.2.2 x 5 = (some q_14) := by rw [eh_15]; exact hx_pr_at _ _ _ _
  refine lv_aload_n hx hb dX5_init_32 rfl (lv_at hl 0 rfl) ?_
  refine lv_iconst (v := 4) hx hb dX5_init_33 (by decide) ?_
  refine hk_newa hx hb hts hW 31 tt_31 (atype := .int) rfl kw_186 (tys := P_ty dA) (t0 := 0) rfl (fun _ => Iff.rfl) rfl (i := (4 : Int32)) (by decide) (Nat.le_of_ble_eq_true rfl) (Nat.le_of_ble_eq_true rfl) (Nat.le_of_ble_eq_true rfl) dX5_init_34 (fun q_18 H h_17 eh_17 hqq_18 hW hs gq_18 => ?_)
  have nq_q_18 : ∀ a ∈ (hx_X L x), a ≠ q_18 := fun a ha z => hqq_18 (z ▸ (hM.1 a ha).1)
  have hT : hx_T T_tb (((((L ++ [q_2]) ++ [q_6]) ++ [q_10]) ++ [q_14]) ++ [q_18]) h_17 := by rw [eh_17]; exact hx_T_nw hT hqq_18 tt_31 rfl
  replace f_4 := (hs.o gx trivial rfl).2.trans f_4
  replace f_8 := (hs.o gx trivial rfl).2.trans f_8
  replace f_12 := (hs.o gx trivial rfl).2.trans f_12
  replace f_16 := (hs.o gx trivial rfl).2.trans f_16
  replace hz := hx_zr [2, 3, 4, 5] hz hs gx trivial rfl
  replace hM := hM.tr (hs.mono (by decide))
  replace gx := gx.S hs
  replace gq_2 := gq_2.S hs
  replace gq_6 := gq_6.S hs
  replace gq_10 := gq_10.S hs
  replace gq_14 := gq_14.S hs
  refine hx_putrF hx hb hts hC_5 hown hW hT (hx_S.rf (M := [(121, 6)])) gx tt_121 6 (by decide) rfl kw_269 ⟨rfl, rfl, rfl⟩ rfl hin rfl (x := (some q_18)) ⟨fun _ z => (by cases z), fun q hq => (by cases hq; exact ⟨gq_18.1, by rw [gq_18.2]; decide⟩)⟩ rfl rfl rfl (List.mem_singleton.mpr rfl) dX5_init_36 (fun H locs h_19 eh_19 hW hT hs => ?_)
  replace f_4 := (hs.o gx trivial rfl).2.trans f_4
  replace f_8 := (hs.o gx trivial rfl).2.trans f_8
  replace f_12 := (hs.o gx trivial rfl).2.trans f_12
  replace f_16 := (hs.o gx trivial rfl).2.trans f_16
  replace hz := hx_zr [2, 3, 4, 5, 6] hz hs gx trivial rfl
  replace hM := hM.tr (hs.mono (by decide))
  replace gx := gx.S hs
  replace gq_2 := gq_2.S hs
  replace gq_6 := gq_6.S hs
  replace gq_10 := gq_10.S hs
  replace gq_14 := gq_14.S hs
  replace gq_18 := gq_18.S hs
  have f_20 : h_19.2.2 x 6 = (some q_18) := by rw [eh_19]; exact hx_pr_at _ _ _ _
  refine lv_aload_n hx hb dX5_init_39 rfl (lv_at hl 0 rfl) ?_
  refine lv_iconst (v := 4) hx hb dX5_init_40 (by decide) ?_
  refine hk_newa hx hb hts hW 32 tt_32 (atype := .int) rfl kw_186 (tys := P_ty dA) (t0 := 0) rfl (fun _ => Iff.rfl) rfl (i := (4 : Int32)) (by decide) (Nat.le_of_ble_eq_true rfl) (Nat.le_of_ble_eq_true rfl) (Nat.le_of_ble_eq_true rfl) dX5_init_41 (fun q_22 H h_21 eh_21 hqq_22 hW hs gq_22 => ?_)
  have nq_q_22 : ∀ a ∈ (hx_X L x), a ≠ q_22 := fun a ha z => hqq_22 (z ▸ (hM.1 a ha).1)
  have hT : hx_T T_tb ((((((L ++ [q_2]) ++ [q_6]) ++ [q_10]) ++ [q_14]) ++ [q_18]) ++ [q_22]) h_21 := by rw [eh_21]; exact hx_T_nw hT hqq_22 tt_32 rfl
  replace f_4 := (hs.o gx trivial rfl).2.trans f_4
  replace f_8 := (hs.o gx trivial rfl).2.trans f_8
  replace f_12 := (hs.o gx trivial rfl).2.trans f_12
  replace f_16 := (hs.o gx trivial rfl).2.trans f_16
  replace f_20 := (hs.o gx trivial rfl).2.trans f_20
  replace hz := hx_zr [2, 3, 4, 5, 6] hz hs gx trivial rfl
  replace hM := hM.tr (hs.mono (by decide))
  replace gx := gx.S hs
  replace gq_2 := gq_2.S hs
  replace gq_6 := gq_6.S hs
  replace gq_10 := gq_10.S hs
  replace gq_14 := gq_14.S hs
  replace gq_18 := gq_18.S hs
  refine hx_putrF hx hb hts hC_5 hown hW hT (hx_S.rf (M := [(121, 7)])) gx tt_121 7 (by decide) rfl kw_270 ⟨rfl, rfl, rfl⟩ rfl hin rfl (x := (some q_22)) ⟨fun _ z => (by cases z), fun q hq => (by cases hq; exact ⟨gq_22.1, by rw [gq_22.2]; decide⟩)⟩ rfl rfl rfl (List.mem_singleton.mpr rfl) dX5_init_43 (fun H locs h_23 eh_23 hW hT hs => ?_)
  replace f_4 := (hs.o gx trivial rfl).2.trans f_4
  replace f_8 := (hs.o gx trivial rfl).2.trans f_8
  replace f_12 := (hs.o gx trivial rfl).2.trans f_12
  replace f_16 := (hs.o gx trivial rfl).2.trans f_16
  replace f_20 := (hs.o gx trivial rfl).2.trans f_20
  replace hz := hx_zr [2, 3, 4, 5, 6, 7] hz hs gx trivial rfl
  replace hM := hM.tr (hs.mono (by decide))
  replace gx := gx.S hs
  replace gq_2 := gq_2.S hs
  replace gq_6 := gq_6.S hs
  replace gq_10 := gq_10.S hs
  replace gq_14 := gq_14.S hs
  replace gq_18 := gq_18.S hs
  replace gq_22 := gq_22.S hs
  have f_24 : h_23.2.2 x 7 = (some q_22) := by rw [eh_23]; exact hx_pr_at _ _ _ _
  refine lv_aload_n hx hb dX5_init_46 rfl (lv_at hl 0 rfl) ?_
  refine lv_iconst (v := 4) hx hb dX5_init_47 (by decide) ?_
  refine hk_newa hx hb hts hW 33 tt_33 (atype := .int) rfl kw_186 (tys := P_ty dA) (t0 := 0) rfl (fun _ => Iff.rfl) rfl (i := (4 : Int32)) (by decide) (Nat.le_of_ble_eq_true rfl) (Nat.le_of_ble_eq_true rfl) (Nat.le_of_ble_eq_true rfl) dX5_init_48 (fun q_26 H h_25 eh_25 hqq_26 hW hs gq_26 => ?_)
  have nq_q_26 : ∀ a ∈ (hx_X L x), a ≠ q_26 := fun a ha z => hqq_26 (z ▸ (hM.1 a ha).1)
  have hT : hx_T T_tb (((((((L ++ [q_2]) ++ [q_6]) ++ [q_10]) ++ [q_14]) ++ [q_18]) ++ [q_22]) ++ [q_26]) h_25 := by rw [eh_25]; exact hx_T_nw hT hqq_26 tt_33 rfl
  replace f_4 := (hs.o gx trivial rfl).2.trans f_4
  replace f_8 := (hs.o gx trivial rfl).2.trans f_8
  replace f_12 := (hs.o gx trivial rfl).2.trans f_12
  replace f_16 := (hs.o gx trivial rfl).2.trans f_16
  replace f_20 := (hs.o gx trivial rfl).2.trans f_20
  replace f_24 := (hs.o gx trivial rfl).2.trans f_24
  replace hz := hx_zr [2, 3, 4, 5, 6, 7] hz hs gx trivial rfl
  replace hM := hM.tr (hs.mono (by decide))
  replace gx := gx.S hs
  replace gq_2 := gq_2.S hs
  replace gq_6 := gq_6.S hs
  replace gq_10 := gq_10.S hs
  replace gq_14 := gq_14.S hs
  replace gq_18 := gq_18.S hs
  replace gq_22 := gq_22.S hs
  refine hx_putrF hx hb hts hC_5 hown hW hT (hx_S.rf (M := [(121, 8)])) gx tt_121 8 (by decide) rfl kw_271 ⟨rfl, rfl, rfl⟩ rfl hin rfl (x := (some q_26)) ⟨fun _ z => (by cases z), fun q hq => (by cases hq; exact ⟨gq_26.1, by rw [gq_26.2]; decide⟩)⟩ rfl rfl rfl (List.mem_singleton.mpr rfl) dX5_init_50 (fun H locs h_27 eh_27 hW hT hs => ?_)
  replace f_4 := (hs.o gx trivial rfl).2.trans f_4
  replace f_8 := (hs.o gx trivial rfl).2.trans f_8
  replace f_12 := (hs.o gx trivial rfl).2.trans f_12
  replace f_16 := (hs.o gx trivial rfl).2.trans f_16
  replace f_20 := (hs.o gx trivial rfl).2.trans f_20
  replace f_24 := (hs.o gx trivial rfl).2.trans f_24
  replace hz := hx_zr [2, 3, 4, 5, 6, 7, 8] hz hs gx trivial rfl
  replace hM := hM.tr (hs.mono (by decide))
  replace gx := gx.S hs
  replace gq_2 := gq_2.S hs
  replace gq_6 := gq_6.S hs
  replace gq_10 := gq_10.S hs
  replace gq_14 := gq_14.S hs
  replace gq_18 := gq_18.S hs
  replace gq_22 := gq_22.S hs
  replace gq_26 := gq_26.S hs
  have f_28 : h_27.2.2 x 8 = (some q_26) := by rw [eh_27]; exact hx_pr_at _ _ _ _
  have f_29 : h_27.2.1 x 1 = 0 := (hz 1 rfl).1
  have hF : hx_F (fun k f => hx_o (((((((L ++ [q_2]) ++ [q_6]) ++ [q_10]) ++ [q_14]) ++ [q_18]) ++ [q_22]) ++ [q_26]) h_27 f (h_27.2.1 x k) (h_27.2.2 x k)) T_f5 0 := ⟨hx_oi (hz 0 rfl).1 (by decide), hx_oi f_29 (by decide), hx_or f_4 gq_2 (by decide), hx_or f_8 gq_6 (by decide), hx_or f_12 gq_10 (by decide), hx_or f_16 gq_14 (by decide), hx_or f_20 gq_18 (by decide), hx_or f_24 gq_22 (by decide), hx_or f_28 gq_26 (by decide), hx_oi (hz 9 rfl).1 (by decide), hx_oi (hz 10 rfl).1 (by decide), hx_oi (hz 11 rfl).1 (by decide), hx_oi (hz 12 rfl).1 (by decide), trivial⟩
  have hT := hx_T_rt hT gx tt_5 rfl (hx_F_all hF)
  have hW := hx_W_rt hW gx tt_121 tt_5 (fun _ _ => rfl)
  have hM := hx_SX_rt (x := x) (t := 5) hM
  have gq_2 := hx_rt_o (t := 5) gq_2 (gq_2.ne gx (by decide))
  have gq_6 := hx_rt_o (t := 5) gq_6 (gq_6.ne gx (by decide))
  have gq_10 := hx_rt_o (t := 5) gq_10 (gq_10.ne gx (by decide))
  have gq_14 := hx_rt_o (t := 5) gq_14 (gq_14.ne gx (by decide))
  have gq_18 := hx_rt_o (t := 5) gq_18 (gq_18.ne gx (by decide))
  have gq_22 := hx_rt_o (t := 5) gq_22 (gq_22.ne gx (by decide))
  have gq_26 := hx_rt_o (t := 5) gq_26 (gq_26.ne gx (by decide))
  have gx := hx_rt_g (t := 5) gx
  have f_4 : (hx_rt h_27 x 5).2.2 x 2 = some q_2 := f_4
  have f_8 : (hx_rt h_27 x 5).2.2 x 3 = some q_6 := f_8
  have f_12 : (hx_rt h_27 x 5).2.2 x 4 = some q_10 := f_12
  have f_16 : (hx_rt h_27 x 5).2.2 x 5 = some q_14 := f_16
  have f_20 : (hx_rt h_27 x 5).2.2 x 6 = some q_18 := f_20
  have f_24 : (hx_rt h_27 x 5).2.2 x 7 = some q_22 := f_24
  have f_28 : (hx_rt h_27 x 5).2.2 x 8 = some q_26 := f_28
  have f_29 : (hx_rt h_27 x 5).2.1 x 1 = (0 : Int32) := f_29
  generalize eh : hx_rt h_27 x 5 = h_30 at hT hW hM gx gq_2 gq_6 gq_10 gq_14 gq_18 gq_22 gq_26 f_4 f_8 f_12 f_16 f_20 f_24 f_28 f_29
  refine W.widen (k := 7) (n := 28) (Nat.le_of_ble_eq_true rfl) (Nat.le_of_ble_eq_true rfl) ?_
  exact hx_retv hx hb hr hlk hW ⟨hT, hM, gx, f_29⟩ dX5_init_53


set_option maxHeartbeats 4000000 in
set_option maxRecDepth 100000 in
theorem t_X9_init_q (l : Launch) (dC : Nat → ClassId) (dI : Nat → Nat → Nat) (dA : Nat → ClassId) (L : List Nat) (h : hx_h) (sz : Nat) (b0 : hx_z) (x : Nat) (hT : hx_T T_tb L h) (gx : hx_g L h x 125) (hz : ∀ j, h.2.1 x j = 0 ∧ h.2.2 x j = none) : Met l yX9_init (Cond.code yX9_init cX9_init 1 none :: hx_all) ({ frames := 2, cells := 43, slots := 10614, locals := 62 }) (va_Pc [.ref x] (hx_BX T_tb (P_ty dA) (dC, dI) vwCl L h sz b0)) (va_Qv (fun (u : List Nat × hx_h) => hx_T T_tb u.1 u.2 ∧ hx_S T_tb [(11, 0), (12, 0), (116, 0), (116, 1), (116, 2), (116, 3), (116, 4), (117, 1), (117, 2), (117, 3), (117, 4), (117, 5), (117, 6), (117, 7), (119, 1), (119, 2), (119, 3), (119, 4), (119, 5), (121, 2), (121, 3), (121, 4), (121, 5), (121, 6), (121, 7), (121, 8), (122, 0), (123, 0), (123, 3), (123, 5), (123, 6), (123, 7), (124, 2), (124, 3), (124, 4), (125, 0), (125, 3), (125, 4), (125, 5), (125, 7), (125, 9), (125, 10), (125, 12), (125, 14), (125, 15), (125, 16), (125, 17), (125, 18), (125, 19)] (hx_X L x) h u.1 u.2 ∧ hx_g u.1 u.2 x 9 ∧ u.2.2.1 x 2 = 0 ∧ u.2.2.1 x 6 = 0 ∧ u.2.2.1 x 8 = 0 ∧ u.2.2.1 x 11 = 0 ∧ u.2.2.1 x 13 = 0 ∧ (∃ q, u.2.2.2 x 19 = some q ∧ hx_g u.1 u.2 q 8 ∧ u.2.2.1 q 0 = 0 ∧ u.2.2.1 q 1 = 0 ∧ ∃ w, u.2.2.2 q 3 = some w ∧ hx_g u.1 u.2 w 40 ∧ ∀ j, u.2.2.1 w j = 0 ∧ u.2.2.2 w j = none) ∧ (∃ q, u.2.2.2 x 9 = some q ∧ hx_g u.1 u.2 q 1 ∧ u.2.2.1 q 0 = 0) ∧ (∃ q, u.2.2.2 x 7 = some q ∧ hx_g u.1 u.2 q 44 ∧ ∀ j, u.2.2.1 q j = 0 ∧ u.2.2.2 q j = none) ∧ (∃ q, u.2.2.2 x 10 = some q ∧ hx_g u.1 u.2 q 45 ∧ ∀ j, u.2.2.1 q j = 0 ∧ u.2.2.2 q j = none) ∧ u.2.2.1 x 1 = 0 ∧ (∃ q, u.2.2.2 x 0 = some q ∧ hx_g u.1 u.2 q 42 ∧ ∀ j, u.2.2.1 q j = 0 ∧ u.2.2.2 q j = none) ∧ (∃ q, u.2.2.2 x 4 = some q ∧ hx_g u.1 u.2 q 0 ∧ hv_AQ u.2 q (-1) hv_A0) ∧ (∃ q, u.2.2.2 x 14 = some q ∧ hx_g u.1 u.2 q 3 ∧ u.2.2.1 q 0 = 0 ∧ ∃ w0, u.2.2.2 q 2 = some w0 ∧ hx_g u.1 u.2 w0 23 ∧ (∀ j, u.2.2.1 w0 j = 0 ∧ u.2.2.2 w0 j = none) ∧ ∃ w1, u.2.2.2 q 3 = some w1 ∧ hx_g u.1 u.2 w1 24 ∧ (∀ j, u.2.2.1 w1 j = 0 ∧ u.2.2.2 w1 j = none) ∧ ∃ w2, u.2.2.2 q 5 = some w2 ∧ hx_g u.1 u.2 w2 26 ∧ (∀ j, u.2.2.1 w2 j = 0 ∧ u.2.2.2 w2 j = none) ∧ ∃ w3, u.2.2.2 q 4 = some w3 ∧ hx_g u.1 u.2 w3 25 ∧ (∀ j, u.2.2.1 w3 j = 0 ∧ u.2.2.2 w3 j = none) ∧ ∃ w4, u.2.2.2 q 1 = some w4 ∧ hx_g u.1 u.2 w4 22 ∧ (∀ j, u.2.2.1 w4 j = 0 ∧ u.2.2.2 w4 j = none)) ∧ (∃ q, u.2.2.2 x 18 = some q ∧ hx_g u.1 u.2 q 7 ∧ u.2.2.1 q 0 = -1) ∧ (∃ q, u.2.2.2 x 17 = some q ∧ hx_g u.1 u.2 q 5 ∧ u.2.2.1 q 1 = 0 ∧ True)) (hx_E T_tb (P_ty dA) (dC, dI) vwCl (hx_A L sz)) (hx_A L sz)) 43 10614 (hx_A L sz) := by
  refine hx_metX (lv := [(0, .ref x)]) (by decide +kernel) rfl (Nat.le_of_ble_eq_true rfl) rfl ?_
  intro p e s m below meth c hx hb hml hr hlk hts0 hown hin hsz hW hZ ls hl
  have hts : ∀ w ∈ hx_all, w.before _ s = true := fun w hw => hts0 w (List.mem_cons_of_mem _ hw)
  have hown : s.vm.findClass "SmallCourt" = some m.cls := hown
  have hin : meth.name = "<init>" := hin
  have hM : hx_S T_tb [(11, 0), (12, 0), (116, 0), (116, 1), (116, 2), (116, 3), (116, 4), (117, 1), (117, 2), (117, 3), (117, 4), (117, 5), (117, 6), (117, 7), (119, 1), (119, 2), (119, 3), (119, 4), (119, 5), (121, 2), (121, 3), (121, 4), (121, 5), (121, 6), (121, 7), (121, 8), (122, 0), (123, 0), (123, 3), (123, 5), (123, 6), (123, 7), (124, 2), (124, 3), (124, 4), (125, 0), (125, 3), (125, 4), (125, 5), (125, 7), (125, 9), (125, 10), (125, 12), (125, 14), (125, 15), (125, 16), (125, 17), (125, 18), (125, 19)] (hx_X L x) h L h := hx_SX_rf
  have hz : ∀ j, ([] : List Nat).contains j = false → h.2.1 x j = 0 ∧ h.2.2 x j = none := fun j _ => hz j
  refine lv_aload_n hx hb dX9_init_0 rfl (lv_at hl 0 rfl) ?_
  refine W.objInit hx hb hown (hts _ kw_116) (hts _ kw_117) (hts _ kw_118) rfl (by rw [hml]; exact hl.1) rfl dX9_init_1 (Nat.le_of_ble_eq_true rfl) (Nat.le_of_ble_eq_true rfl) ?_
  refine W.eq (g2 := F0 m 4 ls []) rfl ?_
  refine lv_aload_n hx hb dX9_init_4 rfl (lv_at hl 0 rfl) ?_
  refine lv_sipush (v := 400) hx hb dX9_init_5 (by decide) ?_
  refine hk_newa hx hb hts hW 42 tt_42 (atype := .byte) rfl kw_147 (tys := P_ty dA) (t0 := 1) rfl (fun _ => Iff.rfl) rfl (i := (400 : Int32)) (by decide) (Nat.le_of_ble_eq_true rfl) (Nat.le_of_ble_eq_true rfl) (Nat.le_of_ble_eq_true rfl) dX9_init_8 (fun q_2 H h_1 eh_1 hqq_2 hW hs gq_2 => ?_)
  have nq_q_2 : ∀ a ∈ (hx_X L x), a ≠ q_2 := fun a ha z => hqq_2 (z ▸ (hM.1 a ha).1)
  have hT : hx_T T_tb (L ++ [q_2]) h_1 := by rw [eh_1]; exact hx_T_nw hT hqq_2 tt_42 rfl
  replace hz := hx_zr [] hz hs gx trivial rfl
  replace hM := hM.tr (hs.mono (by decide))
  replace gx := gx.S hs
  have za_3 : ∀ j, h_1.2.1 q_2 j = 0 ∧ h_1.2.2 q_2 j = none := by rw [eh_1]; exact fun _ => ⟨hx_nw_i, hx_nw_r⟩
  refine hx_putrF hx hb hts hC_9 hown hW hT (hx_S.rf (M := [(125, 0)])) gx tt_125 0 (by decide) rfl kw_364 ⟨rfl, rfl, rfl⟩ rfl hin rfl (x := (some q_2)) ⟨fun _ z => (by cases z), fun q hq => (by cases hq; exact ⟨gq_2.1, by rw [gq_2.2]; decide⟩)⟩ rfl rfl rfl (List.mem_singleton.mpr rfl) dX9_init_10 (fun H locs h_4 eh_4 hW hT hs => ?_)
  replace hz := hx_zr [0] hz hs gx trivial rfl
  replace za_3 : ∀ j, h_4.2.1 q_2 j = 0 ∧ h_4.2.2 q_2 j = none := fun j => ⟨(hs.a gq_2 rfl j).1.trans (za_3 j).1, (hs.a gq_2 rfl j).2.trans (za_3 j).2⟩
  replace hM := hM.tr (hs.mono (by decide))
  replace gx := gx.S hs
  replace gq_2 := gq_2.S hs
  have f_5 : h_4.2.2 x 0 = (some q_2) := by rw [eh_4]; exact hx_pr_at _ _ _ _
  refine lv_aload_n hx hb dX9_init_13 rfl (lv_at hl 0 rfl) ?_
  refine hk_new hx hb hts hC_6 hown hW 122 tt_122 rfl (by decide) kw_119 kw_120 kw_95 (Nat.le_of_ble_eq_true rfl) (Nat.le_of_ble_eq_true rfl) dX9_init_14 (fun q_7 H h_6 eh_6 hqq_7 hW hs gq_7 => ?_)
  have nq_q_7 : ∀ a ∈ (hx_X L x), a ≠ q_7 := fun a ha z => hqq_7 (z ▸ (hM.1 a ha).1)
  have hT : hx_T T_tb ((L ++ [q_2]) ++ [q_7]) h_6 := by rw [eh_6]; exact hx_T_nw hT hqq_7 tt_122 rfl
  replace f_5 := (hs.o gx trivial rfl).2.trans f_5
  replace hz := hx_zr [0] hz hs gx trivial rfl
  replace za_3 : ∀ j, h_6.2.1 q_2 j = 0 ∧ h_6.2.2 q_2 j = none := fun j => ⟨(hs.a gq_2 rfl j).1.trans (za_3 j).1, (hs.a gq_2 rfl j).2.trans (za_3 j).2⟩
  replace hM := hM.tr (hs.mono (by decide))
  replace gx := gx.S hs
  replace gq_2 := gq_2.S hs
  have fz_8 : ∀ j, ([] : List Nat).contains j = false → h_6.2.1 q_7 j = 0 ∧ h_6.2.2 q_7 j = none := by rw [eh_6]; exact fun _ _ => ⟨hx_nw_i, hx_nw_r⟩
  refine lv_dup hx hb dX9_init_17 rfl ?_
  refine hx_gov (hx_runIN (As := []) (rest := [.ref q_7, .ref x]) ⟨hx, hb, hml, hown, hts⟩ hW (t_X6_init l dC dI dA ((L ++ [q_2]) ++ [q_7]) h_6 H.size q_7 hT gq_7 (fun j => fz_8 j rfl)) ⟨va_cnB 0 hts (hx_gC kw_123) rfl rfl rfl (hZ.1 _ (List.mem_of_getElem? (i := 0) rfl)) (hts _ kw_95) (by decide +kernel) ⟨Nat.le_of_ble_eq_true rfl, Nat.le_of_ble_eq_true rfl⟩, rfl, hts _ kw_122⟩ rfl hl.1 rfl (Nat.le_of_ble_eq_true rfl) dX9_init_18 ⟨Nat.le_of_ble_eq_true rfl, Nat.le_of_ble_eq_true rfl⟩) hW (fun L_9 h_10 H locs p_12 hW => ?_)
  obtain ⟨hT, hs, gNq_7⟩ := p_12
  replace hT : hx_T T_tb L_9 h_10 := hT
  replace hs : hx_S T_tb [(122, 0)] (hx_X ((L ++ [q_2]) ++ [q_7]) q_7) h_6 L_9 h_10 := hs
  have gx := hx_gX gx (gx.ne gq_7 (by decide))
  have gq_2 := hx_gX gq_2 (gq_2.ne gq_7 (by decide))
  replace f_5 := (hs.o gx trivial rfl).2.trans f_5
  replace hz := hx_zr [0] hz hs gx trivial rfl
  replace za_3 : ∀ j, h_10.2.1 q_2 j = 0 ∧ h_10.2.2 q_2 j = none := fun j => ⟨(hs.a gq_2 rfl j).1.trans (za_3 j).1, (hs.a gq_2 rfl j).2.trans (za_3 j).2⟩
  replace hM := hM.trX (hs.mono (by decide)) nq_q_7
  replace gx := gx.S hs
  replace gq_2 := gq_2.S hs
  have gq_7 : hx_g L_9 h_10 q_7 6 := gNq_7
  refine hx_putrF hx hb hts hC_9 hown hW hT (hx_S.rf (M := [(125, 3)])) gx tt_125 3 (by decide) rfl kw_367 ⟨rfl, rfl, rfl⟩ rfl hin rfl (x := (some q_7)) ⟨fun _ z => (by cases z), fun q hq => (by cases hq; exact ⟨gq_7.1, by rw [gq_7.2]; decide⟩)⟩ rfl rfl rfl (List.mem_singleton.mpr rfl) dX9_init_21 (fun H locs h_13 eh_13 hW hT hs => ?_)
  replace f_5 := (hs.o gx trivial rfl).2.trans f_5
  replace hz := hx_zr [0, 3] hz hs gx trivial rfl
  replace za_3 : ∀ j, h_13.2.1 q_2 j = 0 ∧ h_13.2.2 q_2 j = none := fun j => ⟨(hs.a gq_2 rfl j).1.trans (za_3 j).1, (hs.a gq_2 rfl j).2.trans (za_3 j).2⟩
  replace hM := hM.tr (hs.mono (by decide))
  replace gx := gx.S hs
  replace gq_2 := gq_2.S hs
  replace gq_7 := gq_7.S hs
  have f_14 : h_13.2.2 x 3 = (some q_7) := by rw [eh_13]; exact hx_pr_at _ _ _ _
  refine lv_aload_n hx hb dX9_init_24 rfl (lv_at hl 0 rfl) ?_
  refine hk_new hx hb hts hC_0 hown hW 116 tt_116 rfl (by decide) kw_148 kw_149 kw_96 (Nat.le_of_ble_eq_true rfl) (Nat.le_of_ble_eq_true rfl) dX9_init_25 (fun q_16 H h_15 eh_15 hqq_16 hW hs gq_16 => ?_)
  have nq_q_16 : ∀ a ∈ (hx_X L x), a ≠ q_16 := fun a ha z => hqq_16 (z ▸ (hM.1 a ha).1)
  have hT : hx_T T_tb (L_9 ++ [q_16]) h_15 := by rw [eh_15]; exact hx_T_nw hT hqq_16 tt_116 rfl
  replace f_5 := (hs.o gx trivial rfl).2.trans f_5
  replace f_14 := (hs.o gx trivial rfl).2.trans f_14
  replace hz := hx_zr [0, 3] hz hs gx trivial rfl
  replace za_3 : ∀ j, h_15.2.1 q_2 j = 0 ∧ h_15.2.2 q_2 j = none := fun j => ⟨(hs.a gq_2 rfl j).1.trans (za_3 j).1, (hs.a gq_2 rfl j).2.trans (za_3 j).2⟩
  replace hM := hM.tr (hs.mono (by decide))
  replace gx := gx.S hs
  replace gq_2 := gq_2.S hs
  replace gq_7 := gq_7.S hs
  have fz_17 : ∀ j, ([] : List Nat).contains j = false → h_15.2.1 q_16 j = 0 ∧ h_15.2.2 q_16 j = none := by rw [eh_15]; exact fun _ _ => ⟨hx_nw_i, hx_nw_r⟩
  refine lv_dup hx hb dX9_init_28 rfl ?_
  refine lv_iconst (v := -1) hx hb dX9_init_29 (by decide) ?_
  refine lv_iconst (v := -1) hx hb dX9_init_30 (by decide) ?_
  have zc_m1 : (-1 : Int32).toInt = -1 := by decide
  refine hx_gov (hx_runIX (As := [.int (-1 : Int32), .int (-1 : Int32)]) (rest := [.ref q_16, .ref x]) ⟨hx, hb, hml, hown, hts⟩ hW (t_X0_init_w l dC dI dA (L_9 ++ [q_16]) h_15 H.size b0 q_16 (-1 : Int32) (-1 : Int32) hT gq_16 (fun j => fz_17 j rfl) (by decide) (by decide)) hZ (cwI 2 hts (hx_gC kw_152) rfl rfl rfl (hts _ kw_96) (hts _ kw_150) (hts _ kw_151) rfl (by decide +kernel) ⟨Nat.le_of_ble_eq_true rfl, Nat.le_of_ble_eq_true rfl⟩) rfl hl.1 rfl (Nat.le_of_ble_eq_true rfl) dX9_init_31 ⟨Nat.le_of_ble_eq_true rfl, Nat.le_of_ble_eq_true rfl⟩) hW (fun L_18 h_19 H locs p_21 hW => ?_)
  obtain ⟨hT, hs, gNq_16, po_22, po_23, po_24, po_25, po_26⟩ := p_21
  replace hT : hx_T T_tb L_18 h_19 := hT
  replace hs : hx_S T_tb [(11, 0), (12, 0), (116, 0), (116, 1), (116, 2), (116, 3), (116, 4)] (hx_X (L_9 ++ [q_16]) q_16) h_15 L_18 h_19 := hs
  have gx := hx_gX gx (gx.ne gq_16 (by decide))
  have gq_2 := hx_gX gq_2 (gq_2.ne gq_16 (by decide))
  have gq_7 := hx_gX gq_7 (gq_7.ne gq_16 (by decide))
  replace f_5 := (hs.o gx trivial rfl).2.trans f_5
  replace f_14 := (hs.o gx trivial rfl).2.trans f_14
  replace hz := hx_zr [0, 3] hz hs gx trivial rfl
  replace za_3 : ∀ j, h_19.2.1 q_2 j = 0 ∧ h_19.2.2 q_2 j = none := fun j => ⟨(hs.a gq_2 rfl j).1.trans (za_3 j).1, (hs.a gq_2 rfl j).2.trans (za_3 j).2⟩
  replace hM := hM.trX (hs.mono (by decide)) nq_q_16
  replace gx := gx.S hs
  replace gq_2 := gq_2.S hs
  replace gq_7 := gq_7.S hs
  have gq_16 : hx_g L_18 h_19 q_16 0 := gNq_16
  have po_22 : h_19.2.1 q_16 0 = (-1 : Int32) := po_22
  have po_23 : h_19.2.1 q_16 1 = (-1 : Int32) := po_23
  have po_24 : h_19.2.1 q_16 4 = 3 := po_24
  obtain ⟨q_27, fq_27, gq_27, po_25⟩ := po_25
  have fq_27 : h_19.2.2 q_16 2 = some q_27 := fq_27
  have gq_27 : hx_g L_18 h_19 q_27 11 := gq_27
  obtain ⟨po_25, po_25N⟩ := po_25
  have po_25 : (∀ j, j < 14 → h_19.2.1 q_27 j = P_wo j) := po_25
  have po_25N : ∀ a ∈ hx_X (L_9 ++ [q_16]) q_16, a ≠ q_27 := po_25N
  obtain ⟨fw_28, nfw_28⟩ : ∃ g : Nat → Int32, h_19.2.1 q_27 = g := ⟨_, rfl⟩
  rw [nfw_28] at po_25
  obtain ⟨q_29, fq_29, gq_29, po_26⟩ := po_26
  have fq_29 : h_19.2.2 q_16 3 = some q_29 := fq_29
  have gq_29 : hx_g L_18 h_19 q_29 12 := gq_29
  obtain ⟨po_26, po_26N⟩ := po_26
  have po_26 : ((h_19.2.1 q_29 0).toInt = 144 ∧ (h_19.2.1 q_29 1).toInt = 17 ∧ (h_19.2.1 q_29 2).toInt = -1) := po_26
  have po_26N : ∀ a ∈ hx_X (L_9 ++ [q_16]) q_16, a ≠ q_29 := po_26N
  obtain ⟨fw_30, nfw_30⟩ : ∃ g : Nat → Int32, h_19.2.1 q_29 = g := ⟨_, rfl⟩
  rw [nfw_30] at po_26
  refine hx_putrF hx hb hts hC_9 hown hW hT (hx_S.rf (M := [(125, 4)])) gx tt_125 4 (by decide) rfl kw_368 ⟨rfl, rfl, rfl⟩ rfl hin rfl (x := (some q_16)) ⟨fun _ z => (by cases z), fun q hq => (by cases hq; exact ⟨gq_16.1, by rw [gq_16.2]; decide⟩)⟩ rfl rfl rfl (List.mem_singleton.mpr rfl) dX9_init_34 (fun H locs h_31 eh_31 hW hT hs => ?_)
  replace f_5 := (hs.o gx trivial rfl).2.trans f_5
  replace f_14 := (hs.o gx trivial rfl).2.trans f_14
  replace po_22 := (hs.o gq_16 trivial rfl).1.trans po_22
  replace po_23 := (hs.o gq_16 trivial rfl).1.trans po_23
  replace po_24 := (hs.o gq_16 trivial rfl).1.trans po_24
  replace fq_27 := (hs.o gq_16 trivial rfl).2.trans fq_27
  replace fq_29 := (hs.o gq_16 trivial rfl).2.trans fq_29
  replace hz := hx_zr [0, 3, 4] hz hs gx trivial rfl
  replace za_3 : ∀ j, h_31.2.1 q_2 j = 0 ∧ h_31.2.2 q_2 j = none := fun j => ⟨(hs.a gq_2 rfl j).1.trans (za_3 j).1, (hs.a gq_2 rfl j).2.trans (za_3 j).2⟩
  replace nfw_28 : h_31.2.1 q_27 = fw_28 := (funext fun j => (hs.a gq_27 rfl j).1).trans nfw_28
  replace nfw_30 : h_31.2.1 q_29 = fw_30 := (funext fun j => (hs.a gq_29 rfl j).1).trans nfw_30
  replace hM := hM.tr (hs.mono (by decide))
  replace gx := gx.S hs
  replace gq_2 := gq_2.S hs
  replace gq_7 := gq_7.S hs
  replace gq_16 := gq_16.S hs
  replace gq_27 := gq_27.S hs
  replace gq_29 := gq_29.S hs
  have f_32 : h_31.2.2 x 4 = (some q_16) := by rw [eh_31]; exact hx_pr_at _ _ _ _
  refine lv_aload_n hx hb dX9_init_37 rfl (lv_at hl 0 rfl) ?_
  refine lv_bipush (v := 8) hx hb dX9_init_38 (by decide) ?_
  refine hk_newqX hx hb hts hown hW 43 tt_43 kw_148 hZ.2.1.1 (tys := P_ty dA) (t0 := 4) rfl (i := (8 : Int32)) (by decide) (Nat.le_of_ble_eq_true rfl) (Nat.le_of_ble_eq_true rfl) (Nat.le_of_ble_eq_true rfl) dX9_init_40 (fun q_34 H h_33 eh_33 hqq_34 hW hs gq_34 => ?_)
  have nq_q_34 : ∀ a ∈ (hx_X L x), a ≠ q_34 := fun a ha z => hqq_34 (z ▸ (hM.1 a ha).1)
  have hT : hx_T T_tb (L_18 ++ [q_34]) h_33 := by rw [eh_33]; exact hx_T_nw hT hqq_34 tt_43 rfl
  replace f_5 := (hs.o gx trivial rfl).2.trans f_5
  replace f_14 := (hs.o gx trivial rfl).2.trans f_14
  replace po_22 := (hs.o gq_16 trivial rfl).1.trans po_22
  replace po_23 := (hs.o gq_16 trivial rfl).1.trans po_23
  replace po_24 := (hs.o gq_16 trivial rfl).1.trans po_24
  replace fq_27 := (hs.o gq_16 trivial rfl).2.trans fq_27
  replace fq_29 := (hs.o gq_16 trivial rfl).2.trans fq_29
  replace f_32 := (hs.o gx trivial rfl).2.trans f_32
  replace hz := hx_zr [0, 3, 4] hz hs gx trivial rfl
  replace za_3 : ∀ j, h_33.2.1 q_2 j = 0 ∧ h_33.2.2 q_2 j = none := fun j => ⟨(hs.a gq_2 rfl j).1.trans (za_3 j).1, (hs.a gq_2 rfl j).2.trans (za_3 j).2⟩
  replace nfw_28 : h_33.2.1 q_27 = fw_28 := (funext fun j => (hs.a gq_27 rfl j).1).trans nfw_28
  replace nfw_30 : h_33.2.1 q_29 = fw_30 := (funext fun j => (hs.a gq_29 rfl j).1).trans nfw_30
  replace hM := hM.tr (hs.mono (by decide))
  replace gx := gx.S hs
  replace gq_2 := gq_2.S hs
  replace gq_7 := gq_7.S hs
  replace gq_16 := gq_16.S hs
  replace gq_27 := gq_27.S hs
  replace gq_29 := gq_29.S hs
  refine hx_putrF hx hb hts hC_9 hown hW hT (hx_S.rf (M := [(125, 5)])) gx tt_125 5 (by decide) rfl kw_369 ⟨rfl, rfl, rfl⟩ rfl hin rfl (x := (some q_34)) ⟨fun _ z => (by cases z), fun q hq => (by cases hq; exact ⟨gq_34.1, by rw [gq_34.2]; decide⟩)⟩ rfl rfl rfl (List.mem_singleton.mpr rfl) dX9_init_43 (fun H locs h_35 eh_35 hW hT hs => ?_)
  replace f_5 := (hs.o gx trivial rfl).2.trans f_5
  replace f_14 := (hs.o gx trivial rfl).2.trans f_14
  replace po_22 := (hs.o gq_16 trivial rfl).1.trans po_22
  replace po_23 := (hs.o gq_16 trivial rfl).1.trans po_23
  replace po_24 := (hs.o gq_16 trivial rfl).1.trans po_24
  replace fq_27 := (hs.o gq_16 trivial rfl).2.trans fq_27
  replace fq_29 := (hs.o gq_16 trivial rfl).2.trans fq_29
  replace f_32 := (hs.o gx trivial rfl).2.trans f_32
  replace hz := hx_zr [0, 3, 4, 5] hz hs gx trivial rfl
  replace za_3 : ∀ j, h_35.2.1 q_2 j = 0 ∧ h_35.2.2 q_2 j = none := fun j => ⟨(hs.a gq_2 rfl j).1.trans (za_3 j).1, (hs.a gq_2 rfl j).2.trans (za_3 j).2⟩
  replace nfw_28 : h_35.2.1 q_27 = fw_28 := (funext fun j => (hs.a gq_27 rfl j).1).trans nfw_28
  replace nfw_30 : h_35.2.1 q_29 = fw_30 := (funext fun j => (hs.a gq_29 rfl j).1).trans nfw_30
  replace hM := hM.tr (hs.mono (by decide))
  replace gx := gx.S hs
  replace gq_2 := gq_2.S hs
  replace gq_7 := gq_7.S hs
  replace gq_16 := gq_16.S hs
  replace gq_27 := gq_27.S hs
  replace gq_29 := gq_29.S hs
  replace gq_34 := gq_34.S hs
  have f_36 : h_35.2.2 x 5 = (some q_34) := by rw [eh_35]; exact hx_pr_at _ _ _ _
  refine lv_aload_n hx hb dX9_init_46 rfl (lv_at hl 0 rfl) ?_
  refine lv_bipush (v := 40) hx hb dX9_init_47 (by decide) ?_
  refine hk_newqX hx hb hts hown hW 44 tt_44 kw_188 hZ.2.1.2.1 (tys := P_ty dA) (t0 := 5) rfl (i := (40 : Int32)) (by decide) (Nat.le_of_ble_eq_true rfl) (Nat.le_of_ble_eq_true rfl) (Nat.le_of_ble_eq_true rfl) dX9_init_49 (fun q_38 H h_37 eh_37 hqq_38 hW hs gq_38 => ?_)
  have nq_q_38 : ∀ a ∈ (hx_X L x), a ≠ q_38 := fun a ha z => hqq_38 (z ▸ (hM.1 a ha).1)
  have hT : hx_T T_tb ((L_18 ++ [q_34]) ++ [q_38]) h_37 := by rw [eh_37]; exact hx_T_nw hT hqq_38 tt_44 rfl
  replace f_5 := (hs.o gx trivial rfl).2.trans f_5
  replace f_14 := (hs.o gx trivial rfl).2.trans f_14
  replace po_22 := (hs.o gq_16 trivial rfl).1.trans po_22
  replace po_23 := (hs.o gq_16 trivial rfl).1.trans po_23
  replace po_24 := (hs.o gq_16 trivial rfl).1.trans po_24
  replace fq_27 := (hs.o gq_16 trivial rfl).2.trans fq_27
  replace fq_29 := (hs.o gq_16 trivial rfl).2.trans fq_29
  replace f_32 := (hs.o gx trivial rfl).2.trans f_32
  replace f_36 := (hs.o gx trivial rfl).2.trans f_36
  replace hz := hx_zr [0, 3, 4, 5] hz hs gx trivial rfl
  replace za_3 : ∀ j, h_37.2.1 q_2 j = 0 ∧ h_37.2.2 q_2 j = none := fun j => ⟨(hs.a gq_2 rfl j).1.trans (za_3 j).1, (hs.a gq_2 rfl j).2.trans (za_3 j).2⟩
  replace nfw_28 : h_37.2.1 q_27 = fw_28 := (funext fun j => (hs.a gq_27 rfl j).1).trans nfw_28
  replace nfw_30 : h_37.2.1 q_29 = fw_30 := (funext fun j => (hs.a gq_29 rfl j).1).trans nfw_30
  replace hM := hM.tr (hs.mono (by decide))
  replace gx := gx.S hs
  replace gq_2 := gq_2.S hs
  replace gq_7 := gq_7.S hs
  replace gq_16 := gq_16.S hs
  replace gq_27 := gq_27.S hs
  replace gq_29 := gq_29.S hs
  replace gq_34 := gq_34.S hs
  have za_39 : ∀ j, h_37.2.1 q_38 j = 0 ∧ h_37.2.2 q_38 j = none := by rw [eh_37]; exact fun _ => ⟨hx_nw_i, hx_nw_r⟩
  refine hx_putrF hx hb hts hC_9 hown hW hT (hx_S.rf (M := [(125, 7)])) gx tt_125 7 (by decide) rfl kw_371 ⟨rfl, rfl, rfl⟩ rfl hin rfl (x := (some q_38)) ⟨fun _ z => (by cases z), fun q hq => (by cases hq; exact ⟨gq_38.1, by rw [gq_38.2]; decide⟩)⟩ rfl rfl rfl (List.mem_singleton.mpr rfl) dX9_init_52 (fun H locs h_40 eh_40 hW hT hs => ?_)
  replace f_5 := (hs.o gx trivial rfl).2.trans f_5
  replace f_14 := (hs.o gx trivial rfl).2.trans f_14
  replace po_22 := (hs.o gq_16 trivial rfl).1.trans po_22
  replace po_23 := (hs.o gq_16 trivial rfl).1.trans po_23
  replace po_24 := (hs.o gq_16 trivial rfl).1.trans po_24
  replace fq_27 := (hs.o gq_16 trivial rfl).2.trans fq_27
  replace fq_29 := (hs.o gq_16 trivial rfl).2.trans fq_29
  replace f_32 := (hs.o gx trivial rfl).2.trans f_32
  replace f_36 := (hs.o gx trivial rfl).2.trans f_36
  replace hz := hx_zr [0, 3, 4, 5, 7] hz hs gx trivial rfl
  replace za_3 : ∀ j, h_40.2.1 q_2 j = 0 ∧ h_40.2.2 q_2 j = none := fun j => ⟨(hs.a gq_2 rfl j).1.trans (za_3 j).1, (hs.a gq_2 rfl j).2.trans (za_3 j).2⟩
  replace za_39 : ∀ j, h_40.2.1 q_38 j = 0 ∧ h_40.2.2 q_38 j = none := fun j => ⟨(hs.a gq_38 rfl j).1.trans (za_39 j).1, (hs.a gq_38 rfl j).2.trans (za_39 j).2⟩
  replace nfw_28 : h_40.2.1 q_27 = fw_28 := (funext fun j => (hs.a gq_27 rfl j).1).trans nfw_28
  replace nfw_30 : h_40.2.1 q_29 = fw_30 := (funext fun j => (hs.a gq_29 rfl j).1).trans nfw_30
  replace hM := hM.tr (hs.mono (by decide))
  replace gx := gx.S hs
  replace gq_2 := gq_2.S hs
  replace gq_7 := gq_7.S hs
  replace gq_16 := gq_16.S hs
  replace gq_27 := gq_27.S hs
  replace gq_29 := gq_29.S hs
  replace gq_34 := gq_34.S hs
  replace gq_38 := gq_38.S hs
  have f_41 : h_40.2.2 x 7 = (some q_38) := by rw [eh_40]; exact hx_pr_at _ _ _ _
  refine lv_aload_n hx hb dX9_init_55 rfl (lv_at hl 0 rfl) ?_
  refine hk_new hx hb hts hC_1 hown hW 117 tt_117 rfl (by decide) kw_190 kw_191 kw_98 (Nat.le_of_ble_eq_true rfl) (Nat.le_of_ble_eq_true rfl) dX9_init_56 (fun q_43 H h_42 eh_42 hqq_43 hW hs gq_43 => ?_)
  have nq_q_43 : ∀ a ∈ (hx_X L x), a ≠ q_43 := fun a ha z => hqq_43 (z ▸ (hM.1 a ha).1)
  have hT : hx_T T_tb (((L_18 ++ [q_34]) ++ [q_38]) ++ [q_43]) h_42 := by rw [eh_42]; exact hx_T_nw hT hqq_43 tt_117 rfl
  replace f_5 := (hs.o gx trivial rfl).2.trans f_5
  replace f_14 := (hs.o gx trivial rfl).2.trans f_14
  replace po_22 := (hs.o gq_16 trivial rfl).1.trans po_22
  replace po_23 := (hs.o gq_16 trivial rfl).1.trans po_23
  replace po_24 := (hs.o gq_16 trivial rfl).1.trans po_24
  replace fq_27 := (hs.o gq_16 trivial rfl).2.trans fq_27
  replace fq_29 := (hs.o gq_16 trivial rfl).2.trans fq_29
  replace f_32 := (hs.o gx trivial rfl).2.trans f_32
  replace f_36 := (hs.o gx trivial rfl).2.trans f_36
  replace f_41 := (hs.o gx trivial rfl).2.trans f_41
  replace hz := hx_zr [0, 3, 4, 5, 7] hz hs gx trivial rfl
  replace za_3 : ∀ j, h_42.2.1 q_2 j = 0 ∧ h_42.2.2 q_2 j = none := fun j => ⟨(hs.a gq_2 rfl j).1.trans (za_3 j).1, (hs.a gq_2 rfl j).2.trans (za_3 j).2⟩
  replace za_39 : ∀ j, h_42.2.1 q_38 j = 0 ∧ h_42.2.2 q_38 j = none := fun j => ⟨(hs.a gq_38 rfl j).1.trans (za_39 j).1, (hs.a gq_38 rfl j).2.trans (za_39 j).2⟩
  replace nfw_28 : h_42.2.1 q_27 = fw_28 := (funext fun j => (hs.a gq_27 rfl j).1).trans nfw_28
  replace nfw_30 : h_42.2.1 q_29 = fw_30 := (funext fun j => (hs.a gq_29 rfl j).1).trans nfw_30
  replace hM := hM.tr (hs.mono (by decide))
  replace gx := gx.S hs
  replace gq_2 := gq_2.S hs
  replace gq_7 := gq_7.S hs
  replace gq_16 := gq_16.S hs
  replace gq_27 := gq_27.S hs
  replace gq_29 := gq_29.S hs
  replace gq_34 := gq_34.S hs
  replace gq_38 := gq_38.S hs
  have fz_44 : ∀ j, ([] : List Nat).contains j = false → h_42.2.1 q_43 j = 0 ∧ h_42.2.2 q_43 j = none := by rw [eh_42]; exact fun _ _ => ⟨hx_nw_i, hx_nw_r⟩
  refine lv_dup hx hb dX9_init_59 rfl ?_
  refine hx_gov (hx_runIN (As := []) (rest := [.ref q_43, .ref x]) ⟨hx, hb, hml, hown, hts⟩ hW (t_X1_init l dC dI dA (((L_18 ++ [q_34]) ++ [q_38]) ++ [q_43]) h_42 H.size q_43 hT gq_43 (fun j => fz_44 j rfl)) ⟨va_cnB 0 hts (hx_gC kw_194) rfl rfl rfl (hZ.1 _ (List.mem_of_getElem? (i := 2) rfl)) (hts _ kw_98) (by decide +kernel) ⟨Nat.le_of_ble_eq_true rfl, Nat.le_of_ble_eq_true rfl⟩, rfl, hts _ kw_193⟩ rfl hl.1 rfl (Nat.le_of_ble_eq_true rfl) dX9_init_60 ⟨Nat.le_of_ble_eq_true rfl, Nat.le_of_ble_eq_true rfl⟩) hW (fun L_45 h_46 H locs p_48 hW => ?_)
  obtain ⟨hT, hs, gNq_43, po_49⟩ := p_48
  replace hT : hx_T T_tb L_45 h_46 := hT
  replace hs : hx_S T_tb [(117, 1), (117, 2), (117, 3), (117, 4), (117, 5), (117, 6), (117, 7)] (hx_X (((L_18 ++ [q_34]) ++ [q_38]) ++ [q_43]) q_43) h_42 L_45 h_46 := hs
  have gx := hx_gX gx (gx.ne gq_43 (by decide))
  have gq_2 := hx_gX gq_2 (gq_2.ne gq_43 (by decide))
  have gq_7 := hx_gX gq_7 (gq_7.ne gq_43 (by decide))
  have gq_16 := hx_gX gq_16 (gq_16.ne gq_43 (by decide))
  have gq_27 := hx_gX gq_27 (gq_27.ne gq_43 (by decide))
  have gq_29 := hx_gX gq_29 (gq_29.ne gq_43 (by decide))
  have gq_34 := hx_gX gq_34 (gq_34.ne gq_43 (by decide))
  have gq_38 := hx_gX gq_38 (gq_38.ne gq_43 (by decide))
  replace f_5 := (hs.o gx trivial rfl).2.trans f_5
  replace f_14 := (hs.o gx trivial rfl).2.trans f_14
  replace po_22 := (hs.o gq_16 trivial rfl).1.trans po_22
  replace po_23 := (hs.o gq_16 trivial rfl).1.trans po_23
  replace po_24 := (hs.o gq_16 trivial rfl).1.trans po_24
  replace fq_27 := (hs.o gq_16 trivial rfl).2.trans fq_27
  replace fq_29 := (hs.o gq_16 trivial rfl).2.trans fq_29
  replace f_32 := (hs.o gx trivial rfl).2.trans f_32
  replace f_36 := (hs.o gx trivial rfl).2.trans f_36
  replace f_41 := (hs.o gx trivial rfl).2.trans f_41
  replace hz := hx_zr [0, 3, 4, 5, 7] hz hs gx trivial rfl
  replace za_3 : ∀ j, h_46.2.1 q_2 j = 0 ∧ h_46.2.2 q_2 j = none := fun j => ⟨(hs.a gq_2 rfl j).1.trans (za_3 j).1, (hs.a gq_2 rfl j).2.trans (za_3 j).2⟩
  replace za_39 : ∀ j, h_46.2.1 q_38 j = 0 ∧ h_46.2.2 q_38 j = none := fun j => ⟨(hs.a gq_38 rfl j).1.trans (za_39 j).1, (hs.a gq_38 rfl j).2.trans (za_39 j).2⟩
  replace nfw_28 : h_46.2.1 q_27 = fw_28 := (funext fun j => (hs.a gq_27 rfl j).1).trans nfw_28
  replace nfw_30 : h_46.2.1 q_29 = fw_30 := (funext fun j => (hs.a gq_29 rfl j).1).trans nfw_30
  replace hM := hM.trX (hs.mono (by decide)) nq_q_43
  replace gx := gx.S hs
  replace gq_2 := gq_2.S hs
  replace gq_7 := gq_7.S hs
  replace gq_16 := gq_16.S hs
  replace gq_27 := gq_27.S hs
  replace gq_29 := gq_29.S hs
  replace gq_34 := gq_34.S hs
  replace gq_38 := gq_38.S hs
  have gq_43 : hx_g L_45 h_46 q_43 1 := gNq_43
  have po_49 : h_46.2.1 q_43 0 = 0 := po_49
  refine hx_putrF hx hb hts hC_9 hown hW hT (hx_S.rf (M := [(125, 9)])) gx tt_125 9 (by decide) rfl kw_373 ⟨rfl, rfl, rfl⟩ rfl hin rfl (x := (some q_43)) ⟨fun _ z => (by cases z), fun q hq => (by cases hq; exact ⟨gq_43.1, by rw [gq_43.2]; decide⟩)⟩ rfl rfl rfl (List.mem_singleton.mpr rfl) dX9_init_63 (fun H locs h_50 eh_50 hW hT hs => ?_)
  replace f_5 := (hs.o gx trivial rfl).2.trans f_5
  replace f_14 := (hs.o gx trivial rfl).2.trans f_14
  replace po_22 := (hs.o gq_16 trivial rfl).1.trans po_22
  replace po_23 := (hs.o gq_16 trivial rfl).1.trans po_23
  replace po_24 := (hs.o gq_16 trivial rfl).1.trans po_24
  replace fq_27 := (hs.o gq_16 trivial rfl).2.trans fq_27
  replace fq_29 := (hs.o gq_16 trivial rfl).2.trans fq_29
  replace f_32 := (hs.o gx trivial rfl).2.trans f_32
  replace f_36 := (hs.o gx trivial rfl).2.trans f_36
  replace f_41 := (hs.o gx trivial rfl).2.trans f_41
  replace po_49 := (hs.o gq_43 trivial rfl).1.trans po_49
  replace hz := hx_zr [0, 3, 4, 5, 7, 9] hz hs gx trivial rfl
  replace za_3 : ∀ j, h_50.2.1 q_2 j = 0 ∧ h_50.2.2 q_2 j = none := fun j => ⟨(hs.a gq_2 rfl j).1.trans (za_3 j).1, (hs.a gq_2 rfl j).2.trans (za_3 j).2⟩
  replace za_39 : ∀ j, h_50.2.1 q_38 j = 0 ∧ h_50.2.2 q_38 j = none := fun j => ⟨(hs.a gq_38 rfl j).1.trans (za_39 j).1, (hs.a gq_38 rfl j).2.trans (za_39 j).2⟩
  replace nfw_28 : h_50.2.1 q_27 = fw_28 := (funext fun j => (hs.a gq_27 rfl j).1).trans nfw_28
  replace nfw_30 : h_50.2.1 q_29 = fw_30 := (funext fun j => (hs.a gq_29 rfl j).1).trans nfw_30
  replace hM := hM.tr (hs.mono (by decide))
  replace gx := gx.S hs
  replace gq_2 := gq_2.S hs
  replace gq_7 := gq_7.S hs
  replace gq_16 := gq_16.S hs
  replace gq_27 := gq_27.S hs
  replace gq_29 := gq_29.S hs
  replace gq_34 := gq_34.S hs
  replace gq_38 := gq_38.S hs
  replace gq_43 := gq_43.S hs
  have f_51 : h_50.2.2 x 9 = (some q_43) := by rw [eh_50]; exact hx_pr_at _ _ _ _
  refine lv_aload_n hx hb dX9_init_66 rfl (lv_at hl 0 rfl) ?_
  refine lv_bipush (v := 100) hx hb dX9_init_67 (by decide) ?_
  refine hk_newqX hx hb hts hown hW 45 tt_45 kw_223 hZ.2.1.2.2 (tys := P_ty dA) (t0 := 6) rfl (i := (100 : Int32)) (by decide) (Nat.le_of_ble_eq_true rfl) (Nat.le_of_ble_eq_true rfl) (Nat.le_of_ble_eq_true rfl) dX9_init_69 (fun q_53 H h_52 eh_52 hqq_53 hW hs gq_53 => ?_)
  have nq_q_53 : ∀ a ∈ (hx_X L x), a ≠ q_53 := fun a ha z => hqq_53 (z ▸ (hM.1 a ha).1)
  have hT : hx_T T_tb (L_45 ++ [q_53]) h_52 := by rw [eh_52]; exact hx_T_nw hT hqq_53 tt_45 rfl
  replace f_5 := (hs.o gx trivial rfl).2.trans f_5
  replace f_14 := (hs.o gx trivial rfl).2.trans f_14
  replace po_22 := (hs.o gq_16 trivial rfl).1.trans po_22
  replace po_23 := (hs.o gq_16 trivial rfl).1.trans po_23
  replace po_24 := (hs.o gq_16 trivial rfl).1.trans po_24
  replace fq_27 := (hs.o gq_16 trivial rfl).2.trans fq_27
  replace fq_29 := (hs.o gq_16 trivial rfl).2.trans fq_29
  replace f_32 := (hs.o gx trivial rfl).2.trans f_32
  replace f_36 := (hs.o gx trivial rfl).2.trans f_36
  replace f_41 := (hs.o gx trivial rfl).2.trans f_41
  replace po_49 := (hs.o gq_43 trivial rfl).1.trans po_49
  replace f_51 := (hs.o gx trivial rfl).2.trans f_51
  replace hz := hx_zr [0, 3, 4, 5, 7, 9] hz hs gx trivial rfl
  replace za_3 : ∀ j, h_52.2.1 q_2 j = 0 ∧ h_52.2.2 q_2 j = none := fun j => ⟨(hs.a gq_2 rfl j).1.trans (za_3 j).1, (hs.a gq_2 rfl j).2.trans (za_3 j).2⟩
  replace za_39 : ∀ j, h_52.2.1 q_38 j = 0 ∧ h_52.2.2 q_38 j = none := fun j => ⟨(hs.a gq_38 rfl j).1.trans (za_39 j).1, (hs.a gq_38 rfl j).2.trans (za_39 j).2⟩
  replace nfw_28 : h_52.2.1 q_27 = fw_28 := (funext fun j => (hs.a gq_27 rfl j).1).trans nfw_28
  replace nfw_30 : h_52.2.1 q_29 = fw_30 := (funext fun j => (hs.a gq_29 rfl j).1).trans nfw_30
  replace hM := hM.tr (hs.mono (by decide))
  replace gx := gx.S hs
  replace gq_2 := gq_2.S hs
  replace gq_7 := gq_7.S hs
  replace gq_16 := gq_16.S hs
  replace gq_27 := gq_27.S hs
  replace gq_29 := gq_29.S hs
  replace gq_34 := gq_34.S hs
  replace gq_38 := gq_38.S hs
  replace gq_43 := gq_43.S hs
  have za_54 : ∀ j, h_52.2.1 q_53 j = 0 ∧ h_52.2.2 q_53 j = none := by rw [eh_52]; exact fun _ => ⟨hx_nw_i, hx_nw_r⟩
  refine hx_putrF hx hb hts hC_9 hown hW hT (hx_S.rf (M := [(125, 10)])) gx tt_125 10 (by decide) rfl kw_374 ⟨rfl, rfl, rfl⟩ rfl hin rfl (x := (some q_53)) ⟨fun _ z => (by cases z), fun q hq => (by cases hq; exact ⟨gq_53.1, by rw [gq_53.2]; decide⟩)⟩ rfl rfl rfl (List.mem_singleton.mpr rfl) dX9_init_72 (fun H locs h_55 eh_55 hW hT hs => ?_)
  replace f_5 := (hs.o gx trivial rfl).2.trans f_5
  replace f_14 := (hs.o gx trivial rfl).2.trans f_14
  replace po_22 := (hs.o gq_16 trivial rfl).1.trans po_22
  replace po_23 := (hs.o gq_16 trivial rfl).1.trans po_23
  replace po_24 := (hs.o gq_16 trivial rfl).1.trans po_24
  replace fq_27 := (hs.o gq_16 trivial rfl).2.trans fq_27
  replace fq_29 := (hs.o gq_16 trivial rfl).2.trans fq_29
  replace f_32 := (hs.o gx trivial rfl).2.trans f_32
  replace f_36 := (hs.o gx trivial rfl).2.trans f_36
  replace f_41 := (hs.o gx trivial rfl).2.trans f_41
  replace po_49 := (hs.o gq_43 trivial rfl).1.trans po_49
  replace f_51 := (hs.o gx trivial rfl).2.trans f_51
  replace hz := hx_zr [0, 3, 4, 5, 7, 9, 10] hz hs gx trivial rfl
  replace za_3 : ∀ j, h_55.2.1 q_2 j = 0 ∧ h_55.2.2 q_2 j = none := fun j => ⟨(hs.a gq_2 rfl j).1.trans (za_3 j).1, (hs.a gq_2 rfl j).2.trans (za_3 j).2⟩
  replace za_39 : ∀ j, h_55.2.1 q_38 j = 0 ∧ h_55.2.2 q_38 j = none := fun j => ⟨(hs.a gq_38 rfl j).1.trans (za_39 j).1, (hs.a gq_38 rfl j).2.trans (za_39 j).2⟩
  replace za_54 : ∀ j, h_55.2.1 q_53 j = 0 ∧ h_55.2.2 q_53 j = none := fun j => ⟨(hs.a gq_53 rfl j).1.trans (za_54 j).1, (hs.a gq_53 rfl j).2.trans (za_54 j).2⟩
  replace nfw_28 : h_55.2.1 q_27 = fw_28 := (funext fun j => (hs.a gq_27 rfl j).1).trans nfw_28
  replace nfw_30 : h_55.2.1 q_29 = fw_30 := (funext fun j => (hs.a gq_29 rfl j).1).trans nfw_30
  replace hM := hM.tr (hs.mono (by decide))
  replace gx := gx.S hs
  replace gq_2 := gq_2.S hs
  replace gq_7 := gq_7.S hs
  replace gq_16 := gq_16.S hs
  replace gq_27 := gq_27.S hs
  replace gq_29 := gq_29.S hs
  replace gq_34 := gq_34.S hs
  replace gq_38 := gq_38.S hs
  replace gq_43 := gq_43.S hs
  replace gq_53 := gq_53.S hs
  have f_56 : h_55.2.2 x 10 = (some q_53) := by rw [eh_55]; exact hx_pr_at _ _ _ _
  refine lv_aload_n hx hb dX9_init_75 rfl (lv_at hl 0 rfl) ?_
  refine lv_bipush (v := 100) hx hb dX9_init_76 (by decide) ?_
  refine hk_newqX hx hb hts hown hW 46 tt_46 kw_223 hZ.2.1.2.2 (tys := P_ty dA) (t0 := 6) rfl (i := (100 : Int32)) (by decide) (Nat.le_of_ble_eq_true rfl) (Nat.le_of_ble_eq_true rfl) (Nat.le_of_ble_eq_true rfl) dX9_init_78 (fun q_58 H h_57 eh_57 hqq_58 hW hs gq_58 => ?_)
  have nq_q_58 : ∀ a ∈ (hx_X L x), a ≠ q_58 := fun a ha z => hqq_58 (z ▸ (hM.1 a ha).1)
  have hT : hx_T T_tb ((L_45 ++ [q_53]) ++ [q_58]) h_57 := by rw [eh_57]; exact hx_T_nw hT hqq_58 tt_46 rfl
  replace f_5 := (hs.o gx trivial rfl).2.trans f_5
  replace f_14 := (hs.o gx trivial rfl).2.trans f_14
  replace po_22 := (hs.o gq_16 trivial rfl).1.trans po_22
  replace po_23 := (hs.o gq_16 trivial rfl).1.trans po_23
  replace po_24 := (hs.o gq_16 trivial rfl).1.trans po_24
  replace fq_27 := (hs.o gq_16 trivial rfl).2.trans fq_27
  replace fq_29 := (hs.o gq_16 trivial rfl).2.trans fq_29
  replace f_32 := (hs.o gx trivial rfl).2.trans f_32
  replace f_36 := (hs.o gx trivial rfl).2.trans f_36
  replace f_41 := (hs.o gx trivial rfl).2.trans f_41
  replace po_49 := (hs.o gq_43 trivial rfl).1.trans po_49
  replace f_51 := (hs.o gx trivial rfl).2.trans f_51
  replace f_56 := (hs.o gx trivial rfl).2.trans f_56
  replace hz := hx_zr [0, 3, 4, 5, 7, 9, 10] hz hs gx trivial rfl
  replace za_3 : ∀ j, h_57.2.1 q_2 j = 0 ∧ h_57.2.2 q_2 j = none := fun j => ⟨(hs.a gq_2 rfl j).1.trans (za_3 j).1, (hs.a gq_2 rfl j).2.trans (za_3 j).2⟩
  replace za_39 : ∀ j, h_57.2.1 q_38 j = 0 ∧ h_57.2.2 q_38 j = none := fun j => ⟨(hs.a gq_38 rfl j).1.trans (za_39 j).1, (hs.a gq_38 rfl j).2.trans (za_39 j).2⟩
  replace za_54 : ∀ j, h_57.2.1 q_53 j = 0 ∧ h_57.2.2 q_53 j = none := fun j => ⟨(hs.a gq_53 rfl j).1.trans (za_54 j).1, (hs.a gq_53 rfl j).2.trans (za_54 j).2⟩
  replace nfw_28 : h_57.2.1 q_27 = fw_28 := (funext fun j => (hs.a gq_27 rfl j).1).trans nfw_28
  replace nfw_30 : h_57.2.1 q_29 = fw_30 := (funext fun j => (hs.a gq_29 rfl j).1).trans nfw_30
  replace hM := hM.tr (hs.mono (by decide))
  replace gx := gx.S hs
  replace gq_2 := gq_2.S hs
  replace gq_7 := gq_7.S hs
  replace gq_16 := gq_16.S hs
  replace gq_27 := gq_27.S hs
  replace gq_29 := gq_29.S hs
  replace gq_34 := gq_34.S hs
  replace gq_38 := gq_38.S hs
  replace gq_43 := gq_43.S hs
  replace gq_53 := gq_53.S hs
  refine hx_putrF hx hb hts hC_9 hown hW hT (hx_S.rf (M := [(125, 12)])) gx tt_125 12 (by decide) rfl kw_376 ⟨rfl, rfl, rfl⟩ rfl hin rfl (x := (some q_58)) ⟨fun _ z => (by cases z), fun q hq => (by cases hq; exact ⟨gq_58.1, by rw [gq_58.2]; decide⟩)⟩ rfl rfl rfl (List.mem_singleton.mpr rfl) dX9_init_81 (fun H locs h_59 eh_59 hW hT hs => ?_)
  replace f_5 := (hs.o gx trivial rfl).2.trans f_5
  replace f_14 := (hs.o gx trivial rfl).2.trans f_14
  replace po_22 := (hs.o gq_16 trivial rfl).1.trans po_22
  replace po_23 := (hs.o gq_16 trivial rfl).1.trans po_23
  replace po_24 := (hs.o gq_16 trivial rfl).1.trans po_24
  replace fq_27 := (hs.o gq_16 trivial rfl).2.trans fq_27
  replace fq_29 := (hs.o gq_16 trivial rfl).2.trans fq_29
  replace f_32 := (hs.o gx trivial rfl).2.trans f_32
  replace f_36 := (hs.o gx trivial rfl).2.trans f_36
  replace f_41 := (hs.o gx trivial rfl).2.trans f_41
  replace po_49 := (hs.o gq_43 trivial rfl).1.trans po_49
  replace f_51 := (hs.o gx trivial rfl).2.trans f_51
  replace f_56 := (hs.o gx trivial rfl).2.trans f_56
  replace hz := hx_zr [0, 3, 4, 5, 7, 9, 10, 12] hz hs gx trivial rfl
  replace za_3 : ∀ j, h_59.2.1 q_2 j = 0 ∧ h_59.2.2 q_2 j = none := fun j => ⟨(hs.a gq_2 rfl j).1.trans (za_3 j).1, (hs.a gq_2 rfl j).2.trans (za_3 j).2⟩
  replace za_39 : ∀ j, h_59.2.1 q_38 j = 0 ∧ h_59.2.2 q_38 j = none := fun j => ⟨(hs.a gq_38 rfl j).1.trans (za_39 j).1, (hs.a gq_38 rfl j).2.trans (za_39 j).2⟩
  replace za_54 : ∀ j, h_59.2.1 q_53 j = 0 ∧ h_59.2.2 q_53 j = none := fun j => ⟨(hs.a gq_53 rfl j).1.trans (za_54 j).1, (hs.a gq_53 rfl j).2.trans (za_54 j).2⟩
  replace nfw_28 : h_59.2.1 q_27 = fw_28 := (funext fun j => (hs.a gq_27 rfl j).1).trans nfw_28
  replace nfw_30 : h_59.2.1 q_29 = fw_30 := (funext fun j => (hs.a gq_29 rfl j).1).trans nfw_30
  replace hM := hM.tr (hs.mono (by decide))
  replace gx := gx.S hs
  replace gq_2 := gq_2.S hs
  replace gq_7 := gq_7.S hs
  replace gq_16 := gq_16.S hs
  replace gq_27 := gq_27.S hs
  replace gq_29 := gq_29.S hs
  replace gq_34 := gq_34.S hs
  replace gq_38 := gq_38.S hs
  replace gq_43 := gq_43.S hs
  replace gq_53 := gq_53.S hs
  replace gq_58 := gq_58.S hs
  have f_60 : h_59.2.2 x 12 = (some q_58) := by rw [eh_59]; exact hx_pr_at _ _ _ _
  refine lv_aload_n hx hb dX9_init_84 rfl (lv_at hl 0 rfl) ?_
  refine hk_new hx hb hts hC_3 hown hW 119 tt_119 rfl (by decide) kw_225 kw_226 kw_99 (Nat.le_of_ble_eq_true rfl) (Nat.le_of_ble_eq_true rfl) dX9_init_85 (fun q_62 H h_61 eh_61 hqq_62 hW hs gq_62 => ?_)
  have nq_q_62 : ∀ a ∈ (hx_X L x), a ≠ q_62 := fun a ha z => hqq_62 (z ▸ (hM.1 a ha).1)
  have hT : hx_T T_tb (((L_45 ++ [q_53]) ++ [q_58]) ++ [q_62]) h_61 := by rw [eh_61]; exact hx_T_nw hT hqq_62 tt_119 rfl
  replace f_5 := (hs.o gx trivial rfl).2.trans f_5
  replace f_14 := (hs.o gx trivial rfl).2.trans f_14
  replace po_22 := (hs.o gq_16 trivial rfl).1.trans po_22
  replace po_23 := (hs.o gq_16 trivial rfl).1.trans po_23
  replace po_24 := (hs.o gq_16 trivial rfl).1.trans po_24
  replace fq_27 := (hs.o gq_16 trivial rfl).2.trans fq_27
  replace fq_29 := (hs.o gq_16 trivial rfl).2.trans fq_29
  replace f_32 := (hs.o gx trivial rfl).2.trans f_32
  replace f_36 := (hs.o gx trivial rfl).2.trans f_36
  replace f_41 := (hs.o gx trivial rfl).2.trans f_41
  replace po_49 := (hs.o gq_43 trivial rfl).1.trans po_49
  replace f_51 := (hs.o gx trivial rfl).2.trans f_51
  replace f_56 := (hs.o gx trivial rfl).2.trans f_56
  replace f_60 := (hs.o gx trivial rfl).2.trans f_60
  replace hz := hx_zr [0, 3, 4, 5, 7, 9, 10, 12] hz hs gx trivial rfl
  replace za_3 : ∀ j, h_61.2.1 q_2 j = 0 ∧ h_61.2.2 q_2 j = none := fun j => ⟨(hs.a gq_2 rfl j).1.trans (za_3 j).1, (hs.a gq_2 rfl j).2.trans (za_3 j).2⟩
  replace za_39 : ∀ j, h_61.2.1 q_38 j = 0 ∧ h_61.2.2 q_38 j = none := fun j => ⟨(hs.a gq_38 rfl j).1.trans (za_39 j).1, (hs.a gq_38 rfl j).2.trans (za_39 j).2⟩
  replace za_54 : ∀ j, h_61.2.1 q_53 j = 0 ∧ h_61.2.2 q_53 j = none := fun j => ⟨(hs.a gq_53 rfl j).1.trans (za_54 j).1, (hs.a gq_53 rfl j).2.trans (za_54 j).2⟩
  replace nfw_28 : h_61.2.1 q_27 = fw_28 := (funext fun j => (hs.a gq_27 rfl j).1).trans nfw_28
  replace nfw_30 : h_61.2.1 q_29 = fw_30 := (funext fun j => (hs.a gq_29 rfl j).1).trans nfw_30
  replace hM := hM.tr (hs.mono (by decide))
  replace gx := gx.S hs
  replace gq_2 := gq_2.S hs
  replace gq_7 := gq_7.S hs
  replace gq_16 := gq_16.S hs
  replace gq_27 := gq_27.S hs
  replace gq_29 := gq_29.S hs
  replace gq_34 := gq_34.S hs
  replace gq_38 := gq_38.S hs
  replace gq_43 := gq_43.S hs
  replace gq_53 := gq_53.S hs
  replace gq_58 := gq_58.S hs
  have fz_63 : ∀ j, ([] : List Nat).contains j = false → h_61.2.1 q_62 j = 0 ∧ h_61.2.2 q_62 j = none := by rw [eh_61]; exact fun _ _ => ⟨hx_nw_i, hx_nw_r⟩
  refine lv_dup hx hb dX9_init_88 rfl ?_
  refine hx_gov (hx_runIN (As := []) (rest := [.ref q_62, .ref x]) ⟨hx, hb, hml, hown, hts⟩ hW (t_X3_init_p l dC dI dA (((L_45 ++ [q_53]) ++ [q_58]) ++ [q_62]) h_61 H.size q_62 hT gq_62 (fun j => fz_63 j rfl)) ⟨va_cnB 0 hts (hx_gC kw_229) rfl rfl rfl (hZ.1 _ (List.mem_of_getElem? (i := 3) rfl)) (hts _ kw_99) (by decide +kernel) ⟨Nat.le_of_ble_eq_true rfl, Nat.le_of_ble_eq_true rfl⟩, rfl, hts _ kw_228⟩ rfl hl.1 rfl (Nat.le_of_ble_eq_true rfl) dX9_init_89 ⟨Nat.le_of_ble_eq_true rfl, Nat.le_of_ble_eq_true rfl⟩) hW (fun L_64 h_65 H locs p_67 hW => ?_)
  obtain ⟨hT, hs, gNq_62, po_68, po_69, po_70, po_71, po_72, po_73⟩ := p_67
  replace hT : hx_T T_tb L_64 h_65 := hT
  replace hs : hx_S T_tb [(119, 1), (119, 2), (119, 3), (119, 4), (119, 5)] (hx_X (((L_45 ++ [q_53]) ++ [q_58]) ++ [q_62]) q_62) h_61 L_64 h_65 := hs
  have gx := hx_gX gx (gx.ne gq_62 (by decide))
  have gq_2 := hx_gX gq_2 (gq_2.ne gq_62 (by decide))
  have gq_7 := hx_gX gq_7 (gq_7.ne gq_62 (by decide))
  have gq_16 := hx_gX gq_16 (gq_16.ne gq_62 (by decide))
  have gq_27 := hx_gX gq_27 (gq_27.ne gq_62 (by decide))
  have gq_29 := hx_gX gq_29 (gq_29.ne gq_62 (by decide))
  have gq_34 := hx_gX gq_34 (gq_34.ne gq_62 (by decide))
  have gq_38 := hx_gX gq_38 (gq_38.ne gq_62 (by decide))
  have gq_43 := hx_gX gq_43 (gq_43.ne gq_62 (by decide))
  have gq_53 := hx_gX gq_53 (gq_53.ne gq_62 (by decide))
  have gq_58 := hx_gX gq_58 (gq_58.ne gq_62 (by decide))
  replace f_5 := (hs.o gx trivial rfl).2.trans f_5
  replace f_14 := (hs.o gx trivial rfl).2.trans f_14
  replace po_22 := (hs.o gq_16 trivial rfl).1.trans po_22
  replace po_23 := (hs.o gq_16 trivial rfl).1.trans po_23
  replace po_24 := (hs.o gq_16 trivial rfl).1.trans po_24
  replace fq_27 := (hs.o gq_16 trivial rfl).2.trans fq_27
  replace fq_29 := (hs.o gq_16 trivial rfl).2.trans fq_29
  replace f_32 := (hs.o gx trivial rfl).2.trans f_32
  replace f_36 := (hs.o gx trivial rfl).2.trans f_36
  replace f_41 := (hs.o gx trivial rfl).2.trans f_41
  replace po_49 := (hs.o gq_43 trivial rfl).1.trans po_49
  replace f_51 := (hs.o gx trivial rfl).2.trans f_51
  replace f_56 := (hs.o gx trivial rfl).2.trans f_56
  replace f_60 := (hs.o gx trivial rfl).2.trans f_60
  replace hz := hx_zr [0, 3, 4, 5, 7, 9, 10, 12] hz hs gx trivial rfl
  replace za_3 : ∀ j, h_65.2.1 q_2 j = 0 ∧ h_65.2.2 q_2 j = none := fun j => ⟨(hs.a gq_2 rfl j).1.trans (za_3 j).1, (hs.a gq_2 rfl j).2.trans (za_3 j).2⟩
  replace za_39 : ∀ j, h_65.2.1 q_38 j = 0 ∧ h_65.2.2 q_38 j = none := fun j => ⟨(hs.a gq_38 rfl j).1.trans (za_39 j).1, (hs.a gq_38 rfl j).2.trans (za_39 j).2⟩
  replace za_54 : ∀ j, h_65.2.1 q_53 j = 0 ∧ h_65.2.2 q_53 j = none := fun j => ⟨(hs.a gq_53 rfl j).1.trans (za_54 j).1, (hs.a gq_53 rfl j).2.trans (za_54 j).2⟩
  replace nfw_28 : h_65.2.1 q_27 = fw_28 := (funext fun j => (hs.a gq_27 rfl j).1).trans nfw_28
  replace nfw_30 : h_65.2.1 q_29 = fw_30 := (funext fun j => (hs.a gq_29 rfl j).1).trans nfw_30
  replace hM := hM.trX (hs.mono (by decide)) nq_q_62
  replace gx := gx.S hs
  replace gq_2 := gq_2.S hs
  replace gq_7 := gq_7.S hs
  replace gq_16 := gq_16.S hs
  replace gq_27 := gq_27.S hs
  replace gq_29 := gq_29.S hs
  replace gq_34 := gq_34.S hs
  replace gq_38 := gq_38.S hs
  replace gq_43 := gq_43.S hs
  replace gq_53 := gq_53.S hs
  replace gq_58 := gq_58.S hs
  have gq_62 : hx_g L_64 h_65 q_62 3 := gNq_62
  have po_68 : h_65.2.1 q_62 0 = 0 := po_68
  obtain ⟨q_74, fq_74, gq_74, po_69⟩ := po_69
  have fq_74 : h_65.2.2 q_62 2 = some q_74 := fq_74
  have gq_74 : hx_g L_64 h_65 q_74 23 := gq_74
  have po_69 : ∀ j, h_65.2.1 q_74 j = 0 ∧ h_65.2.2 q_74 j = none := po_69
  obtain ⟨q_75, fq_75, gq_75, po_70⟩ := po_70
  have fq_75 : h_65.2.2 q_62 3 = some q_75 := fq_75
  have gq_75 : hx_g L_64 h_65 q_75 24 := gq_75
  have po_70 : ∀ j, h_65.2.1 q_75 j = 0 ∧ h_65.2.2 q_75 j = none := po_70
  obtain ⟨q_76, fq_76, gq_76, po_71⟩ := po_71
  have fq_76 : h_65.2.2 q_62 5 = some q_76 := fq_76
  have gq_76 : hx_g L_64 h_65 q_76 26 := gq_76
  have po_71 : ∀ j, h_65.2.1 q_76 j = 0 ∧ h_65.2.2 q_76 j = none := po_71
  obtain ⟨q_77, fq_77, gq_77, po_72⟩ := po_72
  have fq_77 : h_65.2.2 q_62 4 = some q_77 := fq_77
  have gq_77 : hx_g L_64 h_65 q_77 25 := gq_77
  have po_72 : ∀ j, h_65.2.1 q_77 j = 0 ∧ h_65.2.2 q_77 j = none := po_72
  obtain ⟨q_78, fq_78, gq_78, po_73⟩ := po_73
  have fq_78 : h_65.2.2 q_62 1 = some q_78 := fq_78
  have gq_78 : hx_g L_64 h_65 q_78 22 := gq_78
  have po_73 : ∀ j, h_65.2.1 q_78 j = 0 ∧ h_65.2.2 q_78 j = none := po_73
  refine hx_putrF hx hb hts hC_9 hown hW hT (hx_S.rf (M := [(125, 14)])) gx tt_125 14 (by decide) rfl kw_378 ⟨rfl, rfl, rfl⟩ rfl hin rfl (x := (some q_62)) ⟨fun _ z => (by cases z), fun q hq => (by cases hq; exact ⟨gq_62.1, by rw [gq_62.2]; decide⟩)⟩ rfl rfl rfl (List.mem_singleton.mpr rfl) dX9_init_92 (fun H locs h_79 eh_79 hW hT hs => ?_)
  replace f_5 := (hs.o gx trivial rfl).2.trans f_5
  replace f_14 := (hs.o gx trivial rfl).2.trans f_14
  replace po_22 := (hs.o gq_16 trivial rfl).1.trans po_22
  replace po_23 := (hs.o gq_16 trivial rfl).1.trans po_23
  replace po_24 := (hs.o gq_16 trivial rfl).1.trans po_24
  replace fq_27 := (hs.o gq_16 trivial rfl).2.trans fq_27
  replace fq_29 := (hs.o gq_16 trivial rfl).2.trans fq_29
  replace f_32 := (hs.o gx trivial rfl).2.trans f_32
  replace f_36 := (hs.o gx trivial rfl).2.trans f_36
  replace f_41 := (hs.o gx trivial rfl).2.trans f_41
  replace po_49 := (hs.o gq_43 trivial rfl).1.trans po_49
  replace f_51 := (hs.o gx trivial rfl).2.trans f_51
  replace f_56 := (hs.o gx trivial rfl).2.trans f_56
  replace f_60 := (hs.o gx trivial rfl).2.trans f_60
  replace po_68 := (hs.o gq_62 trivial rfl).1.trans po_68
  replace fq_74 := (hs.o gq_62 trivial rfl).2.trans fq_74
  replace fq_75 := (hs.o gq_62 trivial rfl).2.trans fq_75
  replace fq_76 := (hs.o gq_62 trivial rfl).2.trans fq_76
  replace fq_77 := (hs.o gq_62 trivial rfl).2.trans fq_77
  replace fq_78 := (hs.o gq_62 trivial rfl).2.trans fq_78
  replace hz := hx_zr [0, 3, 4, 5, 7, 9, 10, 12, 14] hz hs gx trivial rfl
  replace za_3 : ∀ j, h_79.2.1 q_2 j = 0 ∧ h_79.2.2 q_2 j = none := fun j => ⟨(hs.a gq_2 rfl j).1.trans (za_3 j).1, (hs.a gq_2 rfl j).2.trans (za_3 j).2⟩
  replace za_39 : ∀ j, h_79.2.1 q_38 j = 0 ∧ h_79.2.2 q_38 j = none := fun j => ⟨(hs.a gq_38 rfl j).1.trans (za_39 j).1, (hs.a gq_38 rfl j).2.trans (za_39 j).2⟩
  replace za_54 : ∀ j, h_79.2.1 q_53 j = 0 ∧ h_79.2.2 q_53 j = none := fun j => ⟨(hs.a gq_53 rfl j).1.trans (za_54 j).1, (hs.a gq_53 rfl j).2.trans (za_54 j).2⟩
  replace po_69 : ∀ j, h_79.2.1 q_74 j = 0 ∧ h_79.2.2 q_74 j = none := fun j => ⟨(hs.a gq_74 rfl j).1.trans (po_69 j).1, (hs.a gq_74 rfl j).2.trans (po_69 j).2⟩
  replace po_70 : ∀ j, h_79.2.1 q_75 j = 0 ∧ h_79.2.2 q_75 j = none := fun j => ⟨(hs.a gq_75 rfl j).1.trans (po_70 j).1, (hs.a gq_75 rfl j).2.trans (po_70 j).2⟩
  replace po_71 : ∀ j, h_79.2.1 q_76 j = 0 ∧ h_79.2.2 q_76 j = none := fun j => ⟨(hs.a gq_76 rfl j).1.trans (po_71 j).1, (hs.a gq_76 rfl j).2.trans (po_71 j).2⟩
  replace po_72 : ∀ j, h_79.2.1 q_77 j = 0 ∧ h_79.2.2 q_77 j = none := fun j => ⟨(hs.a gq_77 rfl j).1.trans (po_72 j).1, (hs.a gq_77 rfl j).2.trans (po_72 j).2⟩
  replace po_73 : ∀ j, h_79.2.1 q_78 j = 0 ∧ h_79.2.2 q_78 j = none := fun j => ⟨(hs.a gq_78 rfl j).1.trans (po_73 j).1, (hs.a gq_78 rfl j).2.trans (po_73 j).2⟩
  replace nfw_28 : h_79.2.1 q_27 = fw_28 := (funext fun j => (hs.a gq_27 rfl j).1).trans nfw_28
  replace nfw_30 : h_79.2.1 q_29 = fw_30 := (funext fun j => (hs.a gq_29 rfl j).1).trans nfw_30
  replace hM := hM.tr (hs.mono (by decide))
  replace gx := gx.S hs
  replace gq_2 := gq_2.S hs
  replace gq_7 := gq_7.S hs
  replace gq_16 := gq_16.S hs
  replace gq_27 := gq_27.S hs
  replace gq_29 := gq_29.S hs
  replace gq_34 := gq_34.S hs
  replace gq_38 := gq_38.S hs
  replace gq_43 := gq_43.S hs
  replace gq_53 := gq_53.S hs
  replace gq_58 := gq_58.S hs
  replace gq_62 := gq_62.S hs
  replace gq_74 := gq_74.S hs
  replace gq_75 := gq_75.S hs
  replace gq_76 := gq_76.S hs
  replace gq_77 := gq_77.S hs
  replace gq_78 := gq_78.S hs
  have f_80 : h_79.2.2 x 14 = (some q_62) := by rw [eh_79]; exact hx_pr_at _ _ _ _
  refine lv_aload_n hx hb dX9_init_95 rfl (lv_at hl 0 rfl) ?_
  refine lv_bipush (v := 40) hx hb dX9_init_96 (by decide) ?_
  refine hk_newa hx hb hts hW 47 tt_47 (atype := .int) rfl kw_186 (tys := P_ty dA) (t0 := 0) rfl (fun _ => Iff.rfl) rfl (i := (40 : Int32)) (by decide) (Nat.le_of_ble_eq_true rfl) (Nat.le_of_ble_eq_true rfl) (Nat.le_of_ble_eq_true rfl) dX9_init_98 (fun q_82 H h_81 eh_81 hqq_82 hW hs gq_82 => ?_)
  have nq_q_82 : ∀ a ∈ (hx_X L x), a ≠ q_82 := fun a ha z => hqq_82 (z ▸ (hM.1 a ha).1)
  have hT : hx_T T_tb (L_64 ++ [q_82]) h_81 := by rw [eh_81]; exact hx_T_nw hT hqq_82 tt_47 rfl
  replace f_5 := (hs.o gx trivial rfl).2.trans f_5
  replace f_14 := (hs.o gx trivial rfl).2.trans f_14
  replace po_22 := (hs.o gq_16 trivial rfl).1.trans po_22
  replace po_23 := (hs.o gq_16 trivial rfl).1.trans po_23
  replace po_24 := (hs.o gq_16 trivial rfl).1.trans po_24
  replace fq_27 := (hs.o gq_16 trivial rfl).2.trans fq_27
  replace fq_29 := (hs.o gq_16 trivial rfl).2.trans fq_29
  replace f_32 := (hs.o gx trivial rfl).2.trans f_32
  replace f_36 := (hs.o gx trivial rfl).2.trans f_36
  replace f_41 := (hs.o gx trivial rfl).2.trans f_41
  replace po_49 := (hs.o gq_43 trivial rfl).1.trans po_49
  replace f_51 := (hs.o gx trivial rfl).2.trans f_51
  replace f_56 := (hs.o gx trivial rfl).2.trans f_56
  replace f_60 := (hs.o gx trivial rfl).2.trans f_60
  replace po_68 := (hs.o gq_62 trivial rfl).1.trans po_68
  replace fq_74 := (hs.o gq_62 trivial rfl).2.trans fq_74
  replace fq_75 := (hs.o gq_62 trivial rfl).2.trans fq_75
  replace fq_76 := (hs.o gq_62 trivial rfl).2.trans fq_76
  replace fq_77 := (hs.o gq_62 trivial rfl).2.trans fq_77
  replace fq_78 := (hs.o gq_62 trivial rfl).2.trans fq_78
  replace f_80 := (hs.o gx trivial rfl).2.trans f_80
  replace hz := hx_zr [0, 3, 4, 5, 7, 9, 10, 12, 14] hz hs gx trivial rfl
  replace za_3 : ∀ j, h_81.2.1 q_2 j = 0 ∧ h_81.2.2 q_2 j = none := fun j => ⟨(hs.a gq_2 rfl j).1.trans (za_3 j).1, (hs.a gq_2 rfl j).2.trans (za_3 j).2⟩
  replace za_39 : ∀ j, h_81.2.1 q_38 j = 0 ∧ h_81.2.2 q_38 j = none := fun j => ⟨(hs.a gq_38 rfl j).1.trans (za_39 j).1, (hs.a gq_38 rfl j).2.trans (za_39 j).2⟩
  replace za_54 : ∀ j, h_81.2.1 q_53 j = 0 ∧ h_81.2.2 q_53 j = none := fun j => ⟨(hs.a gq_53 rfl j).1.trans (za_54 j).1, (hs.a gq_53 rfl j).2.trans (za_54 j).2⟩
  replace po_69 : ∀ j, h_81.2.1 q_74 j = 0 ∧ h_81.2.2 q_74 j = none := fun j => ⟨(hs.a gq_74 rfl j).1.trans (po_69 j).1, (hs.a gq_74 rfl j).2.trans (po_69 j).2⟩
  replace po_70 : ∀ j, h_81.2.1 q_75 j = 0 ∧ h_81.2.2 q_75 j = none := fun j => ⟨(hs.a gq_75 rfl j).1.trans (po_70 j).1, (hs.a gq_75 rfl j).2.trans (po_70 j).2⟩
  replace po_71 : ∀ j, h_81.2.1 q_76 j = 0 ∧ h_81.2.2 q_76 j = none := fun j => ⟨(hs.a gq_76 rfl j).1.trans (po_71 j).1, (hs.a gq_76 rfl j).2.trans (po_71 j).2⟩
  replace po_72 : ∀ j, h_81.2.1 q_77 j = 0 ∧ h_81.2.2 q_77 j = none := fun j => ⟨(hs.a gq_77 rfl j).1.trans (po_72 j).1, (hs.a gq_77 rfl j).2.trans (po_72 j).2⟩
  replace po_73 : ∀ j, h_81.2.1 q_78 j = 0 ∧ h_81.2.2 q_78 j = none := fun j => ⟨(hs.a gq_78 rfl j).1.trans (po_73 j).1, (hs.a gq_78 rfl j).2.trans (po_73 j).2⟩
  replace nfw_28 : h_81.2.1 q_27 = fw_28 := (funext fun j => (hs.a gq_27 rfl j).1).trans nfw_28
  replace nfw_30 : h_81.2.1 q_29 = fw_30 := (funext fun j => (hs.a gq_29 rfl j).1).trans nfw_30
  replace hM := hM.tr (hs.mono (by decide))
  replace gx := gx.S hs
  replace gq_2 := gq_2.S hs
  replace gq_7 := gq_7.S hs
  replace gq_16 := gq_16.S hs
  replace gq_27 := gq_27.S hs
  replace gq_29 := gq_29.S hs
  replace gq_34 := gq_34.S hs
  replace gq_38 := gq_38.S hs
  replace gq_43 := gq_43.S hs
  replace gq_53 := gq_53.S hs
  replace gq_58 := gq_58.S hs
  replace gq_62 := gq_62.S hs
  replace gq_74 := gq_74.S hs
  replace gq_75 := gq_75.S hs
  replace gq_76 := gq_76.S hs
  replace gq_77 := gq_77.S hs
  replace gq_78 := gq_78.S hs
  refine hx_putrF hx hb hts hC_9 hown hW hT (hx_S.rf (M := [(125, 15)])) gx tt_125 15 (by decide) rfl kw_379 ⟨rfl, rfl, rfl⟩ rfl hin rfl (x := (some q_82)) ⟨fun _ z => (by cases z), fun q hq => (by cases hq; exact ⟨gq_82.1, by rw [gq_82.2]; decide⟩)⟩ rfl rfl rfl (List.mem_singleton.mpr rfl) dX9_init_100 (fun H locs h_83 eh_83 hW hT hs => ?_)
  replace f_5 := (hs.o gx trivial rfl).2.trans f_5
  replace f_14 := (hs.o gx trivial rfl).2.trans f_14
  replace po_22 := (hs.o gq_16 trivial rfl).1.trans po_22
  replace po_23 := (hs.o gq_16 trivial rfl).1.trans po_23
  replace po_24 := (hs.o gq_16 trivial rfl).1.trans po_24
  replace fq_27 := (hs.o gq_16 trivial rfl).2.trans fq_27
  replace fq_29 := (hs.o gq_16 trivial rfl).2.trans fq_29
  replace f_32 := (hs.o gx trivial rfl).2.trans f_32
  replace f_36 := (hs.o gx trivial rfl).2.trans f_36
  replace f_41 := (hs.o gx trivial rfl).2.trans f_41
  replace po_49 := (hs.o gq_43 trivial rfl).1.trans po_49
  replace f_51 := (hs.o gx trivial rfl).2.trans f_51
  replace f_56 := (hs.o gx trivial rfl).2.trans f_56
  replace f_60 := (hs.o gx trivial rfl).2.trans f_60
  replace po_68 := (hs.o gq_62 trivial rfl).1.trans po_68
  replace fq_74 := (hs.o gq_62 trivial rfl).2.trans fq_74
  replace fq_75 := (hs.o gq_62 trivial rfl).2.trans fq_75
  replace fq_76 := (hs.o gq_62 trivial rfl).2.trans fq_76
  replace fq_77 := (hs.o gq_62 trivial rfl).2.trans fq_77
  replace fq_78 := (hs.o gq_62 trivial rfl).2.trans fq_78
  replace f_80 := (hs.o gx trivial rfl).2.trans f_80
  replace hz := hx_zr [0, 3, 4, 5, 7, 9, 10, 12, 14, 15] hz hs gx trivial rfl
  replace za_3 : ∀ j, h_83.2.1 q_2 j = 0 ∧ h_83.2.2 q_2 j = none := fun j => ⟨(hs.a gq_2 rfl j).1.trans (za_3 j).1, (hs.a gq_2 rfl j).2.trans (za_3 j).2⟩
  replace za_39 : ∀ j, h_83.2.1 q_38 j = 0 ∧ h_83.2.2 q_38 j = none := fun j => ⟨(hs.a gq_38 rfl j).1.trans (za_39 j).1, (hs.a gq_38 rfl j).2.trans (za_39 j).2⟩
  replace za_54 : ∀ j, h_83.2.1 q_53 j = 0 ∧ h_83.2.2 q_53 j = none := fun j => ⟨(hs.a gq_53 rfl j).1.trans (za_54 j).1, (hs.a gq_53 rfl j).2.trans (za_54 j).2⟩
  replace po_69 : ∀ j, h_83.2.1 q_74 j = 0 ∧ h_83.2.2 q_74 j = none := fun j => ⟨(hs.a gq_74 rfl j).1.trans (po_69 j).1, (hs.a gq_74 rfl j).2.trans (po_69 j).2⟩
  replace po_70 : ∀ j, h_83.2.1 q_75 j = 0 ∧ h_83.2.2 q_75 j = none := fun j => ⟨(hs.a gq_75 rfl j).1.trans (po_70 j).1, (hs.a gq_75 rfl j).2.trans (po_70 j).2⟩
  replace po_71 : ∀ j, h_83.2.1 q_76 j = 0 ∧ h_83.2.2 q_76 j = none := fun j => ⟨(hs.a gq_76 rfl j).1.trans (po_71 j).1, (hs.a gq_76 rfl j).2.trans (po_71 j).2⟩
  replace po_72 : ∀ j, h_83.2.1 q_77 j = 0 ∧ h_83.2.2 q_77 j = none := fun j => ⟨(hs.a gq_77 rfl j).1.trans (po_72 j).1, (hs.a gq_77 rfl j).2.trans (po_72 j).2⟩
  replace po_73 : ∀ j, h_83.2.1 q_78 j = 0 ∧ h_83.2.2 q_78 j = none := fun j => ⟨(hs.a gq_78 rfl j).1.trans (po_73 j).1, (hs.a gq_78 rfl j).2.trans (po_73 j).2⟩
  replace nfw_28 : h_83.2.1 q_27 = fw_28 := (funext fun j => (hs.a gq_27 rfl j).1).trans nfw_28
  replace nfw_30 : h_83.2.1 q_29 = fw_30 := (funext fun j => (hs.a gq_29 rfl j).1).trans nfw_30
  replace hM := hM.tr (hs.mono (by decide))
  replace gx := gx.S hs
  replace gq_2 := gq_2.S hs
  replace gq_7 := gq_7.S hs
  replace gq_16 := gq_16.S hs
  replace gq_27 := gq_27.S hs
  replace gq_29 := gq_29.S hs
  replace gq_34 := gq_34.S hs
  replace gq_38 := gq_38.S hs
  replace gq_43 := gq_43.S hs
  replace gq_53 := gq_53.S hs
  replace gq_58 := gq_58.S hs
  replace gq_62 := gq_62.S hs
  replace gq_74 := gq_74.S hs
  replace gq_75 := gq_75.S hs
  replace gq_76 := gq_76.S hs
  replace gq_77 := gq_77.S hs
  replace gq_78 := gq_78.S hs
  replace gq_82 := gq_82.S hs
  have f_84 : h_83.2.2 x 15 = (some q_82) := by rw [eh_83]; exact hx_pr_at _ _ _ _
  refine lv_aload_n hx hb dX9_init_103 rfl (lv_at hl 0 rfl) ?_
  refine lv_bipush (v := 100) hx hb dX9_init_104 (by decide) ?_
  refine hk_newa hx hb hts hW 48 tt_48 (atype := .int) rfl kw_186 (tys := P_ty dA) (t0 := 0) rfl (fun _ => Iff.rfl) rfl (i := (100 : Int32)) (by decide) (Nat.le_of_ble_eq_true rfl) (Nat.le_of_ble_eq_true rfl) (Nat.le_of_ble_eq_true rfl) dX9_init_106 (fun q_86 H h_85 eh_85 hqq_86 hW hs gq_86 => ?_)
  have nq_q_86 : ∀ a ∈ (hx_X L x), a ≠ q_86 := fun a ha z => hqq_86 (z ▸ (hM.1 a ha).1)
  have hT : hx_T T_tb ((L_64 ++ [q_82]) ++ [q_86]) h_85 := by rw [eh_85]; exact hx_T_nw hT hqq_86 tt_48 rfl
  replace f_5 := (hs.o gx trivial rfl).2.trans f_5
  replace f_14 := (hs.o gx trivial rfl).2.trans f_14
  replace po_22 := (hs.o gq_16 trivial rfl).1.trans po_22
  replace po_23 := (hs.o gq_16 trivial rfl).1.trans po_23
  replace po_24 := (hs.o gq_16 trivial rfl).1.trans po_24
  replace fq_27 := (hs.o gq_16 trivial rfl).2.trans fq_27
  replace fq_29 := (hs.o gq_16 trivial rfl).2.trans fq_29
  replace f_32 := (hs.o gx trivial rfl).2.trans f_32
  replace f_36 := (hs.o gx trivial rfl).2.trans f_36
  replace f_41 := (hs.o gx trivial rfl).2.trans f_41
  replace po_49 := (hs.o gq_43 trivial rfl).1.trans po_49
  replace f_51 := (hs.o gx trivial rfl).2.trans f_51
  replace f_56 := (hs.o gx trivial rfl).2.trans f_56
  replace f_60 := (hs.o gx trivial rfl).2.trans f_60
  replace po_68 := (hs.o gq_62 trivial rfl).1.trans po_68
  replace fq_74 := (hs.o gq_62 trivial rfl).2.trans fq_74
  replace fq_75 := (hs.o gq_62 trivial rfl).2.trans fq_75
  replace fq_76 := (hs.o gq_62 trivial rfl).2.trans fq_76
  replace fq_77 := (hs.o gq_62 trivial rfl).2.trans fq_77
  replace fq_78 := (hs.o gq_62 trivial rfl).2.trans fq_78
  replace f_80 := (hs.o gx trivial rfl).2.trans f_80
  replace f_84 := (hs.o gx trivial rfl).2.trans f_84
  replace hz := hx_zr [0, 3, 4, 5, 7, 9, 10, 12, 14, 15] hz hs gx trivial rfl
  replace za_3 : ∀ j, h_85.2.1 q_2 j = 0 ∧ h_85.2.2 q_2 j = none := fun j => ⟨(hs.a gq_2 rfl j).1.trans (za_3 j).1, (hs.a gq_2 rfl j).2.trans (za_3 j).2⟩
  replace za_39 : ∀ j, h_85.2.1 q_38 j = 0 ∧ h_85.2.2 q_38 j = none := fun j => ⟨(hs.a gq_38 rfl j).1.trans (za_39 j).1, (hs.a gq_38 rfl j).2.trans (za_39 j).2⟩
  replace za_54 : ∀ j, h_85.2.1 q_53 j = 0 ∧ h_85.2.2 q_53 j = none := fun j => ⟨(hs.a gq_53 rfl j).1.trans (za_54 j).1, (hs.a gq_53 rfl j).2.trans (za_54 j).2⟩
  replace po_69 : ∀ j, h_85.2.1 q_74 j = 0 ∧ h_85.2.2 q_74 j = none := fun j => ⟨(hs.a gq_74 rfl j).1.trans (po_69 j).1, (hs.a gq_74 rfl j).2.trans (po_69 j).2⟩
  replace po_70 : ∀ j, h_85.2.1 q_75 j = 0 ∧ h_85.2.2 q_75 j = none := fun j => ⟨(hs.a gq_75 rfl j).1.trans (po_70 j).1, (hs.a gq_75 rfl j).2.trans (po_70 j).2⟩
  replace po_71 : ∀ j, h_85.2.1 q_76 j = 0 ∧ h_85.2.2 q_76 j = none := fun j => ⟨(hs.a gq_76 rfl j).1.trans (po_71 j).1, (hs.a gq_76 rfl j).2.trans (po_71 j).2⟩
  replace po_72 : ∀ j, h_85.2.1 q_77 j = 0 ∧ h_85.2.2 q_77 j = none := fun j => ⟨(hs.a gq_77 rfl j).1.trans (po_72 j).1, (hs.a gq_77 rfl j).2.trans (po_72 j).2⟩
  replace po_73 : ∀ j, h_85.2.1 q_78 j = 0 ∧ h_85.2.2 q_78 j = none := fun j => ⟨(hs.a gq_78 rfl j).1.trans (po_73 j).1, (hs.a gq_78 rfl j).2.trans (po_73 j).2⟩
  replace nfw_28 : h_85.2.1 q_27 = fw_28 := (funext fun j => (hs.a gq_27 rfl j).1).trans nfw_28
  replace nfw_30 : h_85.2.1 q_29 = fw_30 := (funext fun j => (hs.a gq_29 rfl j).1).trans nfw_30
  replace hM := hM.tr (hs.mono (by decide))
  replace gx := gx.S hs
  replace gq_2 := gq_2.S hs
  replace gq_7 := gq_7.S hs
  replace gq_16 := gq_16.S hs
  replace gq_27 := gq_27.S hs
  replace gq_29 := gq_29.S hs
  replace gq_34 := gq_34.S hs
  replace gq_38 := gq_38.S hs
  replace gq_43 := gq_43.S hs
  replace gq_53 := gq_53.S hs
  replace gq_58 := gq_58.S hs
  replace gq_62 := gq_62.S hs
  replace gq_74 := gq_74.S hs
  replace gq_75 := gq_75.S hs
  replace gq_76 := gq_76.S hs
  replace gq_77 := gq_77.S hs
  replace gq_78 := gq_78.S hs
  replace gq_82 := gq_82.S hs
  refine hx_putrF hx hb hts hC_9 hown hW hT (hx_S.rf (M := [(125, 16)])) gx tt_125 16 (by decide) rfl kw_380 ⟨rfl, rfl, rfl⟩ rfl hin rfl (x := (some q_86)) ⟨fun _ z => (by cases z), fun q hq => (by cases hq; exact ⟨gq_86.1, by rw [gq_86.2]; decide⟩)⟩ rfl rfl rfl (List.mem_singleton.mpr rfl) dX9_init_108 (fun H locs h_87 eh_87 hW hT hs => ?_)
  replace f_5 := (hs.o gx trivial rfl).2.trans f_5
  replace f_14 := (hs.o gx trivial rfl).2.trans f_14
  replace po_22 := (hs.o gq_16 trivial rfl).1.trans po_22
  replace po_23 := (hs.o gq_16 trivial rfl).1.trans po_23
  replace po_24 := (hs.o gq_16 trivial rfl).1.trans po_24
  replace fq_27 := (hs.o gq_16 trivial rfl).2.trans fq_27
  replace fq_29 := (hs.o gq_16 trivial rfl).2.trans fq_29
  replace f_32 := (hs.o gx trivial rfl).2.trans f_32
  replace f_36 := (hs.o gx trivial rfl).2.trans f_36
  replace f_41 := (hs.o gx trivial rfl).2.trans f_41
  replace po_49 := (hs.o gq_43 trivial rfl).1.trans po_49
  replace f_51 := (hs.o gx trivial rfl).2.trans f_51
  replace f_56 := (hs.o gx trivial rfl).2.trans f_56
  replace f_60 := (hs.o gx trivial rfl).2.trans f_60
  replace po_68 := (hs.o gq_62 trivial rfl).1.trans po_68
  replace fq_74 := (hs.o gq_62 trivial rfl).2.trans fq_74
  replace fq_75 := (hs.o gq_62 trivial rfl).2.trans fq_75
  replace fq_76 := (hs.o gq_62 trivial rfl).2.trans fq_76
  replace fq_77 := (hs.o gq_62 trivial rfl).2.trans fq_77
  replace fq_78 := (hs.o gq_62 trivial rfl).2.trans fq_78
  replace f_80 := (hs.o gx trivial rfl).2.trans f_80
  replace f_84 := (hs.o gx trivial rfl).2.trans f_84
  replace hz := hx_zr [0, 3, 4, 5, 7, 9, 10, 12, 14, 15, 16] hz hs gx trivial rfl
  replace za_3 : ∀ j, h_87.2.1 q_2 j = 0 ∧ h_87.2.2 q_2 j = none := fun j => ⟨(hs.a gq_2 rfl j).1.trans (za_3 j).1, (hs.a gq_2 rfl j).2.trans (za_3 j).2⟩
  replace za_39 : ∀ j, h_87.2.1 q_38 j = 0 ∧ h_87.2.2 q_38 j = none := fun j => ⟨(hs.a gq_38 rfl j).1.trans (za_39 j).1, (hs.a gq_38 rfl j).2.trans (za_39 j).2⟩
  replace za_54 : ∀ j, h_87.2.1 q_53 j = 0 ∧ h_87.2.2 q_53 j = none := fun j => ⟨(hs.a gq_53 rfl j).1.trans (za_54 j).1, (hs.a gq_53 rfl j).2.trans (za_54 j).2⟩
  replace po_69 : ∀ j, h_87.2.1 q_74 j = 0 ∧ h_87.2.2 q_74 j = none := fun j => ⟨(hs.a gq_74 rfl j).1.trans (po_69 j).1, (hs.a gq_74 rfl j).2.trans (po_69 j).2⟩
  replace po_70 : ∀ j, h_87.2.1 q_75 j = 0 ∧ h_87.2.2 q_75 j = none := fun j => ⟨(hs.a gq_75 rfl j).1.trans (po_70 j).1, (hs.a gq_75 rfl j).2.trans (po_70 j).2⟩
  replace po_71 : ∀ j, h_87.2.1 q_76 j = 0 ∧ h_87.2.2 q_76 j = none := fun j => ⟨(hs.a gq_76 rfl j).1.trans (po_71 j).1, (hs.a gq_76 rfl j).2.trans (po_71 j).2⟩
  replace po_72 : ∀ j, h_87.2.1 q_77 j = 0 ∧ h_87.2.2 q_77 j = none := fun j => ⟨(hs.a gq_77 rfl j).1.trans (po_72 j).1, (hs.a gq_77 rfl j).2.trans (po_72 j).2⟩
  replace po_73 : ∀ j, h_87.2.1 q_78 j = 0 ∧ h_87.2.2 q_78 j = none := fun j => ⟨(hs.a gq_78 rfl j).1.trans (po_73 j).1, (hs.a gq_78 rfl j).2.trans (po_73 j).2⟩
  replace nfw_28 : h_87.2.1 q_27 = fw_28 := (funext fun j => (hs.a gq_27 rfl j).1).trans nfw_28
  replace nfw_30 : h_87.2.1 q_29 = fw_30 := (funext fun j => (hs.a gq_29 rfl j).1).trans nfw_30
  replace hM := hM.tr (hs.mono (by decide))
  replace gx := gx.S hs
  replace gq_2 := gq_2.S hs
  replace gq_7 := gq_7.S hs
  replace gq_16 := gq_16.S hs
  replace gq_27 := gq_27.S hs
  replace gq_29 := gq_29.S hs
  replace gq_34 := gq_34.S hs
  replace gq_38 := gq_38.S hs
  replace gq_43 := gq_43.S hs
  replace gq_53 := gq_53.S hs
  replace gq_58 := gq_58.S hs
  replace gq_62 := gq_62.S hs
  replace gq_74 := gq_74.S hs
  replace gq_75 := gq_75.S hs
  replace gq_76 := gq_76.S hs
  replace gq_77 := gq_77.S hs
  replace gq_78 := gq_78.S hs
  replace gq_82 := gq_82.S hs
  replace gq_86 := gq_86.S hs
  have f_88 : h_87.2.2 x 16 = (some q_86) := by rw [eh_87]; exact hx_pr_at _ _ _ _
  refine lv_aload_n hx hb dX9_init_111 rfl (lv_at hl 0 rfl) ?_
  refine hk_new hx hb hts hC_5 hown hW 121 tt_121 rfl (by decide) kw_252 kw_253 kw_100 (Nat.le_of_ble_eq_true rfl) (Nat.le_of_ble_eq_true rfl) dX9_init_112 (fun q_90 H h_89 eh_89 hqq_90 hW hs gq_90 => ?_)
  have nq_q_90 : ∀ a ∈ (hx_X L x), a ≠ q_90 := fun a ha z => hqq_90 (z ▸ (hM.1 a ha).1)
  have hT : hx_T T_tb (((L_64 ++ [q_82]) ++ [q_86]) ++ [q_90]) h_89 := by rw [eh_89]; exact hx_T_nw hT hqq_90 tt_121 rfl
  replace f_5 := (hs.o gx trivial rfl).2.trans f_5
  replace f_14 := (hs.o gx trivial rfl).2.trans f_14
  replace po_22 := (hs.o gq_16 trivial rfl).1.trans po_22
  replace po_23 := (hs.o gq_16 trivial rfl).1.trans po_23
  replace po_24 := (hs.o gq_16 trivial rfl).1.trans po_24
  replace fq_27 := (hs.o gq_16 trivial rfl).2.trans fq_27
  replace fq_29 := (hs.o gq_16 trivial rfl).2.trans fq_29
  replace f_32 := (hs.o gx trivial rfl).2.trans f_32
  replace f_36 := (hs.o gx trivial rfl).2.trans f_36
  replace f_41 := (hs.o gx trivial rfl).2.trans f_41
  replace po_49 := (hs.o gq_43 trivial rfl).1.trans po_49
  replace f_51 := (hs.o gx trivial rfl).2.trans f_51
  replace f_56 := (hs.o gx trivial rfl).2.trans f_56
  replace f_60 := (hs.o gx trivial rfl).2.trans f_60
  replace po_68 := (hs.o gq_62 trivial rfl).1.trans po_68
  replace fq_74 := (hs.o gq_62 trivial rfl).2.trans fq_74
  replace fq_75 := (hs.o gq_62 trivial rfl).2.trans fq_75
  replace fq_76 := (hs.o gq_62 trivial rfl).2.trans fq_76
  replace fq_77 := (hs.o gq_62 trivial rfl).2.trans fq_77
  replace fq_78 := (hs.o gq_62 trivial rfl).2.trans fq_78
  replace f_80 := (hs.o gx trivial rfl).2.trans f_80
  replace f_84 := (hs.o gx trivial rfl).2.trans f_84
  replace f_88 := (hs.o gx trivial rfl).2.trans f_88
  replace hz := hx_zr [0, 3, 4, 5, 7, 9, 10, 12, 14, 15, 16] hz hs gx trivial rfl
  replace za_3 : ∀ j, h_89.2.1 q_2 j = 0 ∧ h_89.2.2 q_2 j = none := fun j => ⟨(hs.a gq_2 rfl j).1.trans (za_3 j).1, (hs.a gq_2 rfl j).2.trans (za_3 j).2⟩
  replace za_39 : ∀ j, h_89.2.1 q_38 j = 0 ∧ h_89.2.2 q_38 j = none := fun j => ⟨(hs.a gq_38 rfl j).1.trans (za_39 j).1, (hs.a gq_38 rfl j).2.trans (za_39 j).2⟩
  replace za_54 : ∀ j, h_89.2.1 q_53 j = 0 ∧ h_89.2.2 q_53 j = none := fun j => ⟨(hs.a gq_53 rfl j).1.trans (za_54 j).1, (hs.a gq_53 rfl j).2.trans (za_54 j).2⟩
  replace po_69 : ∀ j, h_89.2.1 q_74 j = 0 ∧ h_89.2.2 q_74 j = none := fun j => ⟨(hs.a gq_74 rfl j).1.trans (po_69 j).1, (hs.a gq_74 rfl j).2.trans (po_69 j).2⟩
  replace po_70 : ∀ j, h_89.2.1 q_75 j = 0 ∧ h_89.2.2 q_75 j = none := fun j => ⟨(hs.a gq_75 rfl j).1.trans (po_70 j).1, (hs.a gq_75 rfl j).2.trans (po_70 j).2⟩
  replace po_71 : ∀ j, h_89.2.1 q_76 j = 0 ∧ h_89.2.2 q_76 j = none := fun j => ⟨(hs.a gq_76 rfl j).1.trans (po_71 j).1, (hs.a gq_76 rfl j).2.trans (po_71 j).2⟩
  replace po_72 : ∀ j, h_89.2.1 q_77 j = 0 ∧ h_89.2.2 q_77 j = none := fun j => ⟨(hs.a gq_77 rfl j).1.trans (po_72 j).1, (hs.a gq_77 rfl j).2.trans (po_72 j).2⟩
  replace po_73 : ∀ j, h_89.2.1 q_78 j = 0 ∧ h_89.2.2 q_78 j = none := fun j => ⟨(hs.a gq_78 rfl j).1.trans (po_73 j).1, (hs.a gq_78 rfl j).2.trans (po_73 j).2⟩
  replace nfw_28 : h_89.2.1 q_27 = fw_28 := (funext fun j => (hs.a gq_27 rfl j).1).trans nfw_28
  replace nfw_30 : h_89.2.1 q_29 = fw_30 := (funext fun j => (hs.a gq_29 rfl j).1).trans nfw_30
  replace hM := hM.tr (hs.mono (by decide))
  replace gx := gx.S hs
  replace gq_2 := gq_2.S hs
  replace gq_7 := gq_7.S hs
  replace gq_16 := gq_16.S hs
  replace gq_27 := gq_27.S hs
  replace gq_29 := gq_29.S hs
  replace gq_34 := gq_34.S hs
  replace gq_38 := gq_38.S hs
  replace gq_43 := gq_43.S hs
  replace gq_53 := gq_53.S hs
  replace gq_58 := gq_58.S hs
  replace gq_62 := gq_62.S hs
  replace gq_74 := gq_74.S hs
  replace gq_75 := gq_75.S hs
  replace gq_76 := gq_76.S hs
  replace gq_77 := gq_77.S hs
  replace gq_78 := gq_78.S hs
  replace gq_82 := gq_82.S hs
  replace gq_86 := gq_86.S hs
  have fz_91 : ∀ j, ([] : List Nat).contains j = false → h_89.2.1 q_90 j = 0 ∧ h_89.2.2 q_90 j = none := by rw [eh_89]; exact fun _ _ => ⟨hx_nw_i, hx_nw_r⟩
  refine lv_dup hx hb dX9_init_115 rfl ?_
  refine hx_gov (hx_runIN (As := []) (rest := [.ref q_90, .ref x]) ⟨hx, hb, hml, hown, hts⟩ hW (t_X5_init_p l dC dI dA (((L_64 ++ [q_82]) ++ [q_86]) ++ [q_90]) h_89 H.size q_90 hT gq_90 (fun j => fz_91 j rfl)) ⟨va_cnB 0 hts (hx_gC kw_256) rfl rfl rfl (hZ.1 _ (List.mem_of_getElem? (i := 4) rfl)) (hts _ kw_100) (by decide +kernel) ⟨Nat.le_of_ble_eq_true rfl, Nat.le_of_ble_eq_true rfl⟩, rfl, hts _ kw_255⟩ rfl hl.1 rfl (Nat.le_of_ble_eq_true rfl) dX9_init_116 ⟨Nat.le_of_ble_eq_true rfl, Nat.le_of_ble_eq_true rfl⟩) hW (fun L_92 h_93 H locs p_95 hW => ?_)
  obtain ⟨hT, hs, gNq_90, po_96⟩ := p_95
  replace hT : hx_T T_tb L_92 h_93 := hT
  replace hs : hx_S T_tb [(121, 2), (121, 3), (121, 4), (121, 5), (121, 6), (121, 7), (121, 8)] (hx_X (((L_64 ++ [q_82]) ++ [q_86]) ++ [q_90]) q_90) h_89 L_92 h_93 := hs
  have gx := hx_gX gx (gx.ne gq_90 (by decide))
  have gq_2 := hx_gX gq_2 (gq_2.ne gq_90 (by decide))
  have gq_7 := hx_gX gq_7 (gq_7.ne gq_90 (by decide))
  have gq_16 := hx_gX gq_16 (gq_16.ne gq_90 (by decide))
  have gq_27 := hx_gX gq_27 (gq_27.ne gq_90 (by decide))
  have gq_29 := hx_gX gq_29 (gq_29.ne gq_90 (by decide))
  have gq_34 := hx_gX gq_34 (gq_34.ne gq_90 (by decide))
  have gq_38 := hx_gX gq_38 (gq_38.ne gq_90 (by decide))
  have gq_43 := hx_gX gq_43 (gq_43.ne gq_90 (by decide))
  have gq_53 := hx_gX gq_53 (gq_53.ne gq_90 (by decide))
  have gq_58 := hx_gX gq_58 (gq_58.ne gq_90 (by decide))
  have gq_62 := hx_gX gq_62 (gq_62.ne gq_90 (by decide))
  have gq_74 := hx_gX gq_74 (gq_74.ne gq_90 (by decide))
  have gq_75 := hx_gX gq_75 (gq_75.ne gq_90 (by decide))
  have gq_76 := hx_gX gq_76 (gq_76.ne gq_90 (by decide))
  have gq_77 := hx_gX gq_77 (gq_77.ne gq_90 (by decide))
  have gq_78 := hx_gX gq_78 (gq_78.ne gq_90 (by decide))
  have gq_82 := hx_gX gq_82 (gq_82.ne gq_90 (by decide))
  have gq_86 := hx_gX gq_86 (gq_86.ne gq_90 (by decide))
  replace f_5 := (hs.o gx trivial rfl).2.trans f_5
  replace f_14 := (hs.o gx trivial rfl).2.trans f_14
  replace po_22 := (hs.o gq_16 trivial rfl).1.trans po_22
  replace po_23 := (hs.o gq_16 trivial rfl).1.trans po_23
  replace po_24 := (hs.o gq_16 trivial rfl).1.trans po_24
  replace fq_27 := (hs.o gq_16 trivial rfl).2.trans fq_27
  replace fq_29 := (hs.o gq_16 trivial rfl).2.trans fq_29
  replace f_32 := (hs.o gx trivial rfl).2.trans f_32
  replace f_36 := (hs.o gx trivial rfl).2.trans f_36
  replace f_41 := (hs.o gx trivial rfl).2.trans f_41
  replace po_49 := (hs.o gq_43 trivial rfl).1.trans po_49
  replace f_51 := (hs.o gx trivial rfl).2.trans f_51
  replace f_56 := (hs.o gx trivial rfl).2.trans f_56
  replace f_60 := (hs.o gx trivial rfl).2.trans f_60
  replace po_68 := (hs.o gq_62 trivial rfl).1.trans po_68
  replace fq_74 := (hs.o gq_62 trivial rfl).2.trans fq_74
  replace fq_75 := (hs.o gq_62 trivial rfl).2.trans fq_75
  replace fq_76 := (hs.o gq_62 trivial rfl).2.trans fq_76
  replace fq_77 := (hs.o gq_62 trivial rfl).2.trans fq_77
  replace fq_78 := (hs.o gq_62 trivial rfl).2.trans fq_78
  replace f_80 := (hs.o gx trivial rfl).2.trans f_80
  replace f_84 := (hs.o gx trivial rfl).2.trans f_84
  replace f_88 := (hs.o gx trivial rfl).2.trans f_88
  replace hz := hx_zr [0, 3, 4, 5, 7, 9, 10, 12, 14, 15, 16] hz hs gx trivial rfl
  replace za_3 : ∀ j, h_93.2.1 q_2 j = 0 ∧ h_93.2.2 q_2 j = none := fun j => ⟨(hs.a gq_2 rfl j).1.trans (za_3 j).1, (hs.a gq_2 rfl j).2.trans (za_3 j).2⟩
  replace za_39 : ∀ j, h_93.2.1 q_38 j = 0 ∧ h_93.2.2 q_38 j = none := fun j => ⟨(hs.a gq_38 rfl j).1.trans (za_39 j).1, (hs.a gq_38 rfl j).2.trans (za_39 j).2⟩
  replace za_54 : ∀ j, h_93.2.1 q_53 j = 0 ∧ h_93.2.2 q_53 j = none := fun j => ⟨(hs.a gq_53 rfl j).1.trans (za_54 j).1, (hs.a gq_53 rfl j).2.trans (za_54 j).2⟩
  replace po_69 : ∀ j, h_93.2.1 q_74 j = 0 ∧ h_93.2.2 q_74 j = none := fun j => ⟨(hs.a gq_74 rfl j).1.trans (po_69 j).1, (hs.a gq_74 rfl j).2.trans (po_69 j).2⟩
  replace po_70 : ∀ j, h_93.2.1 q_75 j = 0 ∧ h_93.2.2 q_75 j = none := fun j => ⟨(hs.a gq_75 rfl j).1.trans (po_70 j).1, (hs.a gq_75 rfl j).2.trans (po_70 j).2⟩
  replace po_71 : ∀ j, h_93.2.1 q_76 j = 0 ∧ h_93.2.2 q_76 j = none := fun j => ⟨(hs.a gq_76 rfl j).1.trans (po_71 j).1, (hs.a gq_76 rfl j).2.trans (po_71 j).2⟩
  replace po_72 : ∀ j, h_93.2.1 q_77 j = 0 ∧ h_93.2.2 q_77 j = none := fun j => ⟨(hs.a gq_77 rfl j).1.trans (po_72 j).1, (hs.a gq_77 rfl j).2.trans (po_72 j).2⟩
  replace po_73 : ∀ j, h_93.2.1 q_78 j = 0 ∧ h_93.2.2 q_78 j = none := fun j => ⟨(hs.a gq_78 rfl j).1.trans (po_73 j).1, (hs.a gq_78 rfl j).2.trans (po_73 j).2⟩
  replace nfw_28 : h_93.2.1 q_27 = fw_28 := (funext fun j => (hs.a gq_27 rfl j).1).trans nfw_28
  replace nfw_30 : h_93.2.1 q_29 = fw_30 := (funext fun j => (hs.a gq_29 rfl j).1).trans nfw_30
  replace hM := hM.trX (hs.mono (by decide)) nq_q_90
  replace gx := gx.S hs
  replace gq_2 := gq_2.S hs
  replace gq_7 := gq_7.S hs
  replace gq_16 := gq_16.S hs
  replace gq_27 := gq_27.S hs
  replace gq_29 := gq_29.S hs
  replace gq_34 := gq_34.S hs
  replace gq_38 := gq_38.S hs
  replace gq_43 := gq_43.S hs
  replace gq_53 := gq_53.S hs
  replace gq_58 := gq_58.S hs
  replace gq_62 := gq_62.S hs
  replace gq_74 := gq_74.S hs
  replace gq_75 := gq_75.S hs
  replace gq_76 := gq_76.S hs
  replace gq_77 := gq_77.S hs
  replace gq_78 := gq_78.S hs
  replace gq_82 := gq_82.S hs
  replace gq_86 := gq_86.S hs
  have gq_90 : hx_g L_92 h_93 q_90 5 := gNq_90
  have po_96 : h_93.2.1 q_90 1 = 0 := po_96
  refine hx_putrF hx hb hts hC_9 hown hW hT (hx_S.rf (M := [(125, 17)])) gx tt_125 17 (by decide) rfl kw_381 ⟨rfl, rfl, rfl⟩ rfl hin rfl (x := (some q_90)) ⟨fun _ z => (by cases z), fun q hq => (by cases hq; exact ⟨gq_90.1, by rw [gq_90.2]; decide⟩)⟩ rfl rfl rfl (List.mem_singleton.mpr rfl) dX9_init_119 (fun H locs h_97 eh_97 hW hT hs => ?_)
  replace f_5 := (hs.o gx trivial rfl).2.trans f_5
  replace f_14 := (hs.o gx trivial rfl).2.trans f_14
  replace po_22 := (hs.o gq_16 trivial rfl).1.trans po_22
  replace po_23 := (hs.o gq_16 trivial rfl).1.trans po_23
  replace po_24 := (hs.o gq_16 trivial rfl).1.trans po_24
  replace fq_27 := (hs.o gq_16 trivial rfl).2.trans fq_27
  replace fq_29 := (hs.o gq_16 trivial rfl).2.trans fq_29
  replace f_32 := (hs.o gx trivial rfl).2.trans f_32
  replace f_36 := (hs.o gx trivial rfl).2.trans f_36
  replace f_41 := (hs.o gx trivial rfl).2.trans f_41
  replace po_49 := (hs.o gq_43 trivial rfl).1.trans po_49
  replace f_51 := (hs.o gx trivial rfl).2.trans f_51
  replace f_56 := (hs.o gx trivial rfl).2.trans f_56
  replace f_60 := (hs.o gx trivial rfl).2.trans f_60
  replace po_68 := (hs.o gq_62 trivial rfl).1.trans po_68
  replace fq_74 := (hs.o gq_62 trivial rfl).2.trans fq_74
  replace fq_75 := (hs.o gq_62 trivial rfl).2.trans fq_75
  replace fq_76 := (hs.o gq_62 trivial rfl).2.trans fq_76
  replace fq_77 := (hs.o gq_62 trivial rfl).2.trans fq_77
  replace fq_78 := (hs.o gq_62 trivial rfl).2.trans fq_78
  replace f_80 := (hs.o gx trivial rfl).2.trans f_80
  replace f_84 := (hs.o gx trivial rfl).2.trans f_84
  replace f_88 := (hs.o gx trivial rfl).2.trans f_88
  replace po_96 := (hs.o gq_90 trivial rfl).1.trans po_96
  replace hz := hx_zr [0, 3, 4, 5, 7, 9, 10, 12, 14, 15, 16, 17] hz hs gx trivial rfl
  replace za_3 : ∀ j, h_97.2.1 q_2 j = 0 ∧ h_97.2.2 q_2 j = none := fun j => ⟨(hs.a gq_2 rfl j).1.trans (za_3 j).1, (hs.a gq_2 rfl j).2.trans (za_3 j).2⟩
  replace za_39 : ∀ j, h_97.2.1 q_38 j = 0 ∧ h_97.2.2 q_38 j = none := fun j => ⟨(hs.a gq_38 rfl j).1.trans (za_39 j).1, (hs.a gq_38 rfl j).2.trans (za_39 j).2⟩
  replace za_54 : ∀ j, h_97.2.1 q_53 j = 0 ∧ h_97.2.2 q_53 j = none := fun j => ⟨(hs.a gq_53 rfl j).1.trans (za_54 j).1, (hs.a gq_53 rfl j).2.trans (za_54 j).2⟩
  replace po_69 : ∀ j, h_97.2.1 q_74 j = 0 ∧ h_97.2.2 q_74 j = none := fun j => ⟨(hs.a gq_74 rfl j).1.trans (po_69 j).1, (hs.a gq_74 rfl j).2.trans (po_69 j).2⟩
  replace po_70 : ∀ j, h_97.2.1 q_75 j = 0 ∧ h_97.2.2 q_75 j = none := fun j => ⟨(hs.a gq_75 rfl j).1.trans (po_70 j).1, (hs.a gq_75 rfl j).2.trans (po_70 j).2⟩
  replace po_71 : ∀ j, h_97.2.1 q_76 j = 0 ∧ h_97.2.2 q_76 j = none := fun j => ⟨(hs.a gq_76 rfl j).1.trans (po_71 j).1, (hs.a gq_76 rfl j).2.trans (po_71 j).2⟩
  replace po_72 : ∀ j, h_97.2.1 q_77 j = 0 ∧ h_97.2.2 q_77 j = none := fun j => ⟨(hs.a gq_77 rfl j).1.trans (po_72 j).1, (hs.a gq_77 rfl j).2.trans (po_72 j).2⟩
  replace po_73 : ∀ j, h_97.2.1 q_78 j = 0 ∧ h_97.2.2 q_78 j = none := fun j => ⟨(hs.a gq_78 rfl j).1.trans (po_73 j).1, (hs.a gq_78 rfl j).2.trans (po_73 j).2⟩
  replace nfw_28 : h_97.2.1 q_27 = fw_28 := (funext fun j => (hs.a gq_27 rfl j).1).trans nfw_28
  replace nfw_30 : h_97.2.1 q_29 = fw_30 := (funext fun j => (hs.a gq_29 rfl j).1).trans nfw_30
  replace hM := hM.tr (hs.mono (by decide))
  replace gx := gx.S hs
  replace gq_2 := gq_2.S hs
  replace gq_7 := gq_7.S hs
  replace gq_16 := gq_16.S hs
  replace gq_27 := gq_27.S hs
  replace gq_29 := gq_29.S hs
  replace gq_34 := gq_34.S hs
  replace gq_38 := gq_38.S hs
  replace gq_43 := gq_43.S hs
  replace gq_53 := gq_53.S hs
  replace gq_58 := gq_58.S hs
  replace gq_62 := gq_62.S hs
  replace gq_74 := gq_74.S hs
  replace gq_75 := gq_75.S hs
  replace gq_76 := gq_76.S hs
  replace gq_77 := gq_77.S hs
  replace gq_78 := gq_78.S hs
  replace gq_82 := gq_82.S hs
  replace gq_86 := gq_86.S hs
  replace gq_90 := gq_90.S hs
  have f_98 : h_97.2.2 x 17 = (some q_90) := by rw [eh_97]; exact hx_pr_at _ _ _ _
  refine lv_aload_n hx hb dX9_init_122 rfl (lv_at hl 0 rfl) ?_
  refine hk_new hx hb hts hC_7 hown hW 123 tt_123 rfl (by decide) kw_303 kw_304 kw_101 (Nat.le_of_ble_eq_true rfl) (Nat.le_of_ble_eq_true rfl) dX9_init_123 (fun q_100 H h_99 eh_99 hqq_100 hW hs gq_100 => ?_)
  have nq_q_100 : ∀ a ∈ (hx_X L x), a ≠ q_100 := fun a ha z => hqq_100 (z ▸ (hM.1 a ha).1)
  have hT : hx_T T_tb (L_92 ++ [q_100]) h_99 := by rw [eh_99]; exact hx_T_nw hT hqq_100 tt_123 rfl
  replace f_5 := (hs.o gx trivial rfl).2.trans f_5
  replace f_14 := (hs.o gx trivial rfl).2.trans f_14
  replace po_22 := (hs.o gq_16 trivial rfl).1.trans po_22
  replace po_23 := (hs.o gq_16 trivial rfl).1.trans po_23
  replace po_24 := (hs.o gq_16 trivial rfl).1.trans po_24
  replace fq_27 := (hs.o gq_16 trivial rfl).2.trans fq_27
  replace fq_29 := (hs.o gq_16 trivial rfl).2.trans fq_29
  replace f_32 := (hs.o gx trivial rfl).2.trans f_32
  replace f_36 := (hs.o gx trivial rfl).2.trans f_36
  replace f_41 := (hs.o gx trivial rfl).2.trans f_41
  replace po_49 := (hs.o gq_43 trivial rfl).1.trans po_49
  replace f_51 := (hs.o gx trivial rfl).2.trans f_51
  replace f_56 := (hs.o gx trivial rfl).2.trans f_56
  replace f_60 := (hs.o gx trivial rfl).2.trans f_60
  replace po_68 := (hs.o gq_62 trivial rfl).1.trans po_68
  replace fq_74 := (hs.o gq_62 trivial rfl).2.trans fq_74
  replace fq_75 := (hs.o gq_62 trivial rfl).2.trans fq_75
  replace fq_76 := (hs.o gq_62 trivial rfl).2.trans fq_76
  replace fq_77 := (hs.o gq_62 trivial rfl).2.trans fq_77
  replace fq_78 := (hs.o gq_62 trivial rfl).2.trans fq_78
  replace f_80 := (hs.o gx trivial rfl).2.trans f_80
  replace f_84 := (hs.o gx trivial rfl).2.trans f_84
  replace f_88 := (hs.o gx trivial rfl).2.trans f_88
  replace po_96 := (hs.o gq_90 trivial rfl).1.trans po_96
  replace f_98 := (hs.o gx trivial rfl).2.trans f_98
  replace hz := hx_zr [0, 3, 4, 5, 7, 9, 10, 12, 14, 15, 16, 17] hz hs gx trivial rfl
  replace za_3 : ∀ j, h_99.2.1 q_2 j = 0 ∧ h_99.2.2 q_2 j = none := fun j => ⟨(hs.a gq_2 rfl j).1.trans (za_3 j).1, (hs.a gq_2 rfl j).2.trans (za_3 j).2⟩
  replace za_39 : ∀ j, h_99.2.1 q_38 j = 0 ∧ h_99.2.2 q_38 j = none := fun j => ⟨(hs.a gq_38 rfl j).1.trans (za_39 j).1, (hs.a gq_38 rfl j).2.trans (za_39 j).2⟩
  replace za_54 : ∀ j, h_99.2.1 q_53 j = 0 ∧ h_99.2.2 q_53 j = none := fun j => ⟨(hs.a gq_53 rfl j).1.trans (za_54 j).1, (hs.a gq_53 rfl j).2.trans (za_54 j).2⟩
  replace po_69 : ∀ j, h_99.2.1 q_74 j = 0 ∧ h_99.2.2 q_74 j = none := fun j => ⟨(hs.a gq_74 rfl j).1.trans (po_69 j).1, (hs.a gq_74 rfl j).2.trans (po_69 j).2⟩
  replace po_70 : ∀ j, h_99.2.1 q_75 j = 0 ∧ h_99.2.2 q_75 j = none := fun j => ⟨(hs.a gq_75 rfl j).1.trans (po_70 j).1, (hs.a gq_75 rfl j).2.trans (po_70 j).2⟩
  replace po_71 : ∀ j, h_99.2.1 q_76 j = 0 ∧ h_99.2.2 q_76 j = none := fun j => ⟨(hs.a gq_76 rfl j).1.trans (po_71 j).1, (hs.a gq_76 rfl j).2.trans (po_71 j).2⟩
  replace po_72 : ∀ j, h_99.2.1 q_77 j = 0 ∧ h_99.2.2 q_77 j = none := fun j => ⟨(hs.a gq_77 rfl j).1.trans (po_72 j).1, (hs.a gq_77 rfl j).2.trans (po_72 j).2⟩
  replace po_73 : ∀ j, h_99.2.1 q_78 j = 0 ∧ h_99.2.2 q_78 j = none := fun j => ⟨(hs.a gq_78 rfl j).1.trans (po_73 j).1, (hs.a gq_78 rfl j).2.trans (po_73 j).2⟩
  replace nfw_28 : h_99.2.1 q_27 = fw_28 := (funext fun j => (hs.a gq_27 rfl j).1).trans nfw_28
  replace nfw_30 : h_99.2.1 q_29 = fw_30 := (funext fun j => (hs.a gq_29 rfl j).1).trans nfw_30
  replace hM := hM.tr (hs.mono (by decide))
  replace gx := gx.S hs
  replace gq_2 := gq_2.S hs
  replace gq_7 := gq_7.S hs
  replace gq_16 := gq_16.S hs
  replace gq_27 := gq_27.S hs
  replace gq_29 := gq_29.S hs
  replace gq_34 := gq_34.S hs
  replace gq_38 := gq_38.S hs
  replace gq_43 := gq_43.S hs
  replace gq_53 := gq_53.S hs
  replace gq_58 := gq_58.S hs
  replace gq_62 := gq_62.S hs
  replace gq_74 := gq_74.S hs
  replace gq_75 := gq_75.S hs
  replace gq_76 := gq_76.S hs
  replace gq_77 := gq_77.S hs
  replace gq_78 := gq_78.S hs
  replace gq_82 := gq_82.S hs
  replace gq_86 := gq_86.S hs
  replace gq_90 := gq_90.S hs
  have fz_101 : ∀ j, ([] : List Nat).contains j = false → h_99.2.1 q_100 j = 0 ∧ h_99.2.2 q_100 j = none := by rw [eh_99]; exact fun _ _ => ⟨hx_nw_i, hx_nw_r⟩
  refine lv_dup hx hb dX9_init_126 rfl ?_
  refine hx_gov (hx_runIN (As := []) (rest := [.ref q_100, .ref x]) ⟨hx, hb, hml, hown, hts⟩ hW (t_X7_init_p l dC dI dA (L_92 ++ [q_100]) h_99 H.size q_100 hT gq_100 (fun j => fz_101 j rfl)) ⟨va_cnB 0 hts (hx_gC kw_307) rfl rfl rfl (hZ.1 _ (List.mem_of_getElem? (i := 5) rfl)) (hts _ kw_101) (by decide +kernel) ⟨Nat.le_of_ble_eq_true rfl, Nat.le_of_ble_eq_true rfl⟩, rfl, hts _ kw_306⟩ rfl hl.1 rfl (Nat.le_of_ble_eq_true rfl) dX9_init_127 ⟨Nat.le_of_ble_eq_true rfl, Nat.le_of_ble_eq_true rfl⟩) hW (fun L_102 h_103 H locs p_105 hW => ?_)
  obtain ⟨hT, hs, gNq_100, po_106⟩ := p_105
  replace hT : hx_T T_tb L_102 h_103 := hT
  replace hs : hx_S T_tb [(123, 0), (123, 3), (123, 5), (123, 6), (123, 7)] (hx_X (L_92 ++ [q_100]) q_100) h_99 L_102 h_103 := hs
  have gx := hx_gX gx (gx.ne gq_100 (by decide))
  have gq_2 := hx_gX gq_2 (gq_2.ne gq_100 (by decide))
  have gq_7 := hx_gX gq_7 (gq_7.ne gq_100 (by decide))
  have gq_16 := hx_gX gq_16 (gq_16.ne gq_100 (by decide))
  have gq_27 := hx_gX gq_27 (gq_27.ne gq_100 (by decide))
  have gq_29 := hx_gX gq_29 (gq_29.ne gq_100 (by decide))
  have gq_34 := hx_gX gq_34 (gq_34.ne gq_100 (by decide))
  have gq_38 := hx_gX gq_38 (gq_38.ne gq_100 (by decide))
  have gq_43 := hx_gX gq_43 (gq_43.ne gq_100 (by decide))
  have gq_53 := hx_gX gq_53 (gq_53.ne gq_100 (by decide))
  have gq_58 := hx_gX gq_58 (gq_58.ne gq_100 (by decide))
  have gq_62 := hx_gX gq_62 (gq_62.ne gq_100 (by decide))
  have gq_74 := hx_gX gq_74 (gq_74.ne gq_100 (by decide))
  have gq_75 := hx_gX gq_75 (gq_75.ne gq_100 (by decide))
  have gq_76 := hx_gX gq_76 (gq_76.ne gq_100 (by decide))
  have gq_77 := hx_gX gq_77 (gq_77.ne gq_100 (by decide))
  have gq_78 := hx_gX gq_78 (gq_78.ne gq_100 (by decide))
  have gq_82 := hx_gX gq_82 (gq_82.ne gq_100 (by decide))
  have gq_86 := hx_gX gq_86 (gq_86.ne gq_100 (by decide))
  have gq_90 := hx_gX gq_90 (gq_90.ne gq_100 (by decide))
  replace f_5 := (hs.o gx trivial rfl).2.trans f_5
  replace f_14 := (hs.o gx trivial rfl).2.trans f_14
  replace po_22 := (hs.o gq_16 trivial rfl).1.trans po_22
  replace po_23 := (hs.o gq_16 trivial rfl).1.trans po_23
  replace po_24 := (hs.o gq_16 trivial rfl).1.trans po_24
  replace fq_27 := (hs.o gq_16 trivial rfl).2.trans fq_27
  replace fq_29 := (hs.o gq_16 trivial rfl).2.trans fq_29
  replace f_32 := (hs.o gx trivial rfl).2.trans f_32
  replace f_36 := (hs.o gx trivial rfl).2.trans f_36
  replace f_41 := (hs.o gx trivial rfl).2.trans f_41
  replace po_49 := (hs.o gq_43 trivial rfl).1.trans po_49
  replace f_51 := (hs.o gx trivial rfl).2.trans f_51
  replace f_56 := (hs.o gx trivial rfl).2.trans f_56
  replace f_60 := (hs.o gx trivial rfl).2.trans f_60
  replace po_68 := (hs.o gq_62 trivial rfl).1.trans po_68
  replace fq_74 := (hs.o gq_62 trivial rfl).2.trans fq_74
  replace fq_75 := (hs.o gq_62 trivial rfl).2.trans fq_75
  replace fq_76 := (hs.o gq_62 trivial rfl).2.trans fq_76
  replace fq_77 := (hs.o gq_62 trivial rfl).2.trans fq_77
  replace fq_78 := (hs.o gq_62 trivial rfl).2.trans fq_78
  replace f_80 := (hs.o gx trivial rfl).2.trans f_80
  replace f_84 := (hs.o gx trivial rfl).2.trans f_84
  replace f_88 := (hs.o gx trivial rfl).2.trans f_88
  replace po_96 := (hs.o gq_90 trivial rfl).1.trans po_96
  replace f_98 := (hs.o gx trivial rfl).2.trans f_98
  replace hz := hx_zr [0, 3, 4, 5, 7, 9, 10, 12, 14, 15, 16, 17] hz hs gx trivial rfl
  replace za_3 : ∀ j, h_103.2.1 q_2 j = 0 ∧ h_103.2.2 q_2 j = none := fun j => ⟨(hs.a gq_2 rfl j).1.trans (za_3 j).1, (hs.a gq_2 rfl j).2.trans (za_3 j).2⟩
  replace za_39 : ∀ j, h_103.2.1 q_38 j = 0 ∧ h_103.2.2 q_38 j = none := fun j => ⟨(hs.a gq_38 rfl j).1.trans (za_39 j).1, (hs.a gq_38 rfl j).2.trans (za_39 j).2⟩
  replace za_54 : ∀ j, h_103.2.1 q_53 j = 0 ∧ h_103.2.2 q_53 j = none := fun j => ⟨(hs.a gq_53 rfl j).1.trans (za_54 j).1, (hs.a gq_53 rfl j).2.trans (za_54 j).2⟩
  replace po_69 : ∀ j, h_103.2.1 q_74 j = 0 ∧ h_103.2.2 q_74 j = none := fun j => ⟨(hs.a gq_74 rfl j).1.trans (po_69 j).1, (hs.a gq_74 rfl j).2.trans (po_69 j).2⟩
  replace po_70 : ∀ j, h_103.2.1 q_75 j = 0 ∧ h_103.2.2 q_75 j = none := fun j => ⟨(hs.a gq_75 rfl j).1.trans (po_70 j).1, (hs.a gq_75 rfl j).2.trans (po_70 j).2⟩
  replace po_71 : ∀ j, h_103.2.1 q_76 j = 0 ∧ h_103.2.2 q_76 j = none := fun j => ⟨(hs.a gq_76 rfl j).1.trans (po_71 j).1, (hs.a gq_76 rfl j).2.trans (po_71 j).2⟩
  replace po_72 : ∀ j, h_103.2.1 q_77 j = 0 ∧ h_103.2.2 q_77 j = none := fun j => ⟨(hs.a gq_77 rfl j).1.trans (po_72 j).1, (hs.a gq_77 rfl j).2.trans (po_72 j).2⟩
  replace po_73 : ∀ j, h_103.2.1 q_78 j = 0 ∧ h_103.2.2 q_78 j = none := fun j => ⟨(hs.a gq_78 rfl j).1.trans (po_73 j).1, (hs.a gq_78 rfl j).2.trans (po_73 j).2⟩
  replace nfw_28 : h_103.2.1 q_27 = fw_28 := (funext fun j => (hs.a gq_27 rfl j).1).trans nfw_28
  replace nfw_30 : h_103.2.1 q_29 = fw_30 := (funext fun j => (hs.a gq_29 rfl j).1).trans nfw_30
  replace hM := hM.trX (hs.mono (by decide)) nq_q_100
  replace gx := gx.S hs
  replace gq_2 := gq_2.S hs
  replace gq_7 := gq_7.S hs
  replace gq_16 := gq_16.S hs
  replace gq_27 := gq_27.S hs
  replace gq_29 := gq_29.S hs
  replace gq_34 := gq_34.S hs
  replace gq_38 := gq_38.S hs
  replace gq_43 := gq_43.S hs
  replace gq_53 := gq_53.S hs
  replace gq_58 := gq_58.S hs
  replace gq_62 := gq_62.S hs
  replace gq_74 := gq_74.S hs
  replace gq_75 := gq_75.S hs
  replace gq_76 := gq_76.S hs
  replace gq_77 := gq_77.S hs
  replace gq_78 := gq_78.S hs
  replace gq_82 := gq_82.S hs
  replace gq_86 := gq_86.S hs
  replace gq_90 := gq_90.S hs
  have gq_100 : hx_g L_102 h_103 q_100 7 := gNq_100
  have po_106 : h_103.2.1 q_100 0 = -1 := po_106
  refine hx_putrF hx hb hts hC_9 hown hW hT (hx_S.rf (M := [(125, 18)])) gx tt_125 18 (by decide) rfl kw_382 ⟨rfl, rfl, rfl⟩ rfl hin rfl (x := (some q_100)) ⟨fun _ z => (by cases z), fun q hq => (by cases hq; exact ⟨gq_100.1, by rw [gq_100.2]; decide⟩)⟩ rfl rfl rfl (List.mem_singleton.mpr rfl) dX9_init_130 (fun H locs h_107 eh_107 hW hT hs => ?_)
  replace f_5 := (hs.o gx trivial rfl).2.trans f_5
  replace f_14 := (hs.o gx trivial rfl).2.trans f_14
  replace po_22 := (hs.o gq_16 trivial rfl).1.trans po_22
  replace po_23 := (hs.o gq_16 trivial rfl).1.trans po_23
  replace po_24 := (hs.o gq_16 trivial rfl).1.trans po_24
  replace fq_27 := (hs.o gq_16 trivial rfl).2.trans fq_27
  replace fq_29 := (hs.o gq_16 trivial rfl).2.trans fq_29
  replace f_32 := (hs.o gx trivial rfl).2.trans f_32
  replace f_36 := (hs.o gx trivial rfl).2.trans f_36
  replace f_41 := (hs.o gx trivial rfl).2.trans f_41
  replace po_49 := (hs.o gq_43 trivial rfl).1.trans po_49
  replace f_51 := (hs.o gx trivial rfl).2.trans f_51
  replace f_56 := (hs.o gx trivial rfl).2.trans f_56
  replace f_60 := (hs.o gx trivial rfl).2.trans f_60
  replace po_68 := (hs.o gq_62 trivial rfl).1.trans po_68
  replace fq_74 := (hs.o gq_62 trivial rfl).2.trans fq_74
  replace fq_75 := (hs.o gq_62 trivial rfl).2.trans fq_75
  replace fq_76 := (hs.o gq_62 trivial rfl).2.trans fq_76
  replace fq_77 := (hs.o gq_62 trivial rfl).2.trans fq_77
  replace fq_78 := (hs.o gq_62 trivial rfl).2.trans fq_78
  replace f_80 := (hs.o gx trivial rfl).2.trans f_80
  replace f_84 := (hs.o gx trivial rfl).2.trans f_84
  replace f_88 := (hs.o gx trivial rfl).2.trans f_88
  replace po_96 := (hs.o gq_90 trivial rfl).1.trans po_96
  replace f_98 := (hs.o gx trivial rfl).2.trans f_98
  replace po_106 := (hs.o gq_100 trivial rfl).1.trans po_106
  replace hz := hx_zr [0, 3, 4, 5, 7, 9, 10, 12, 14, 15, 16, 17, 18] hz hs gx trivial rfl
  replace za_3 : ∀ j, h_107.2.1 q_2 j = 0 ∧ h_107.2.2 q_2 j = none := fun j => ⟨(hs.a gq_2 rfl j).1.trans (za_3 j).1, (hs.a gq_2 rfl j).2.trans (za_3 j).2⟩
  replace za_39 : ∀ j, h_107.2.1 q_38 j = 0 ∧ h_107.2.2 q_38 j = none := fun j => ⟨(hs.a gq_38 rfl j).1.trans (za_39 j).1, (hs.a gq_38 rfl j).2.trans (za_39 j).2⟩
  replace za_54 : ∀ j, h_107.2.1 q_53 j = 0 ∧ h_107.2.2 q_53 j = none := fun j => ⟨(hs.a gq_53 rfl j).1.trans (za_54 j).1, (hs.a gq_53 rfl j).2.trans (za_54 j).2⟩
  replace po_69 : ∀ j, h_107.2.1 q_74 j = 0 ∧ h_107.2.2 q_74 j = none := fun j => ⟨(hs.a gq_74 rfl j).1.trans (po_69 j).1, (hs.a gq_74 rfl j).2.trans (po_69 j).2⟩
  replace po_70 : ∀ j, h_107.2.1 q_75 j = 0 ∧ h_107.2.2 q_75 j = none := fun j => ⟨(hs.a gq_75 rfl j).1.trans (po_70 j).1, (hs.a gq_75 rfl j).2.trans (po_70 j).2⟩
  replace po_71 : ∀ j, h_107.2.1 q_76 j = 0 ∧ h_107.2.2 q_76 j = none := fun j => ⟨(hs.a gq_76 rfl j).1.trans (po_71 j).1, (hs.a gq_76 rfl j).2.trans (po_71 j).2⟩
  replace po_72 : ∀ j, h_107.2.1 q_77 j = 0 ∧ h_107.2.2 q_77 j = none := fun j => ⟨(hs.a gq_77 rfl j).1.trans (po_72 j).1, (hs.a gq_77 rfl j).2.trans (po_72 j).2⟩
  replace po_73 : ∀ j, h_107.2.1 q_78 j = 0 ∧ h_107.2.2 q_78 j = none := fun j => ⟨(hs.a gq_78 rfl j).1.trans (po_73 j).1, (hs.a gq_78 rfl j).2.trans (po_73 j).2⟩
  replace nfw_28 : h_107.2.1 q_27 = fw_28 := (funext fun j => (hs.a gq_27 rfl j).1).trans nfw_28
  replace nfw_30 : h_107.2.1 q_29 = fw_30 := (funext fun j => (hs.a gq_29 rfl j).1).trans nfw_30
  replace hM := hM.tr (hs.mono (by decide))
  replace gx := gx.S hs
  replace gq_2 := gq_2.S hs
  replace gq_7 := gq_7.S hs
  replace gq_16 := gq_16.S hs
  replace gq_27 := gq_27.S hs
  replace gq_29 := gq_29.S hs
  replace gq_34 := gq_34.S hs
  replace gq_38 := gq_38.S hs
  replace gq_43 := gq_43.S hs
  replace gq_53 := gq_53.S hs
  replace gq_58 := gq_58.S hs
  replace gq_62 := gq_62.S hs
  replace gq_74 := gq_74.S hs
  replace gq_75 := gq_75.S hs
  replace gq_76 := gq_76.S hs
  replace gq_77 := gq_77.S hs
  replace gq_78 := gq_78.S hs
  replace gq_82 := gq_82.S hs
  replace gq_86 := gq_86.S hs
  replace gq_90 := gq_90.S hs
  replace gq_100 := gq_100.S hs
  have f_108 : h_107.2.2 x 18 = (some q_100) := by rw [eh_107]; exact hx_pr_at _ _ _ _
  refine lv_aload_n hx hb dX9_init_133 rfl (lv_at hl 0 rfl) ?_
  refine hk_new hx hb hts hC_8 hown hW 124 tt_124 rfl (by decide) kw_338 kw_339 kw_102 (Nat.le_of_ble_eq_true rfl) (Nat.le_of_ble_eq_true rfl) dX9_init_134 (fun q_110 H h_109 eh_109 hqq_110 hW hs gq_110 => ?_)
  have nq_q_110 : ∀ a ∈ (hx_X L x), a ≠ q_110 := fun a ha z => hqq_110 (z ▸ (hM.1 a ha).1)
  have hT : hx_T T_tb (L_102 ++ [q_110]) h_109 := by rw [eh_109]; exact hx_T_nw hT hqq_110 tt_124 rfl
  replace f_5 := (hs.o gx trivial rfl).2.trans f_5
  replace f_14 := (hs.o gx trivial rfl).2.trans f_14
  replace po_22 := (hs.o gq_16 trivial rfl).1.trans po_22
  replace po_23 := (hs.o gq_16 trivial rfl).1.trans po_23
  replace po_24 := (hs.o gq_16 trivial rfl).1.trans po_24
  replace fq_27 := (hs.o gq_16 trivial rfl).2.trans fq_27
  replace fq_29 := (hs.o gq_16 trivial rfl).2.trans fq_29
  replace f_32 := (hs.o gx trivial rfl).2.trans f_32
  replace f_36 := (hs.o gx trivial rfl).2.trans f_36
  replace f_41 := (hs.o gx trivial rfl).2.trans f_41
  replace po_49 := (hs.o gq_43 trivial rfl).1.trans po_49
  replace f_51 := (hs.o gx trivial rfl).2.trans f_51
  replace f_56 := (hs.o gx trivial rfl).2.trans f_56
  replace f_60 := (hs.o gx trivial rfl).2.trans f_60
  replace po_68 := (hs.o gq_62 trivial rfl).1.trans po_68
  replace fq_74 := (hs.o gq_62 trivial rfl).2.trans fq_74
  replace fq_75 := (hs.o gq_62 trivial rfl).2.trans fq_75
  replace fq_76 := (hs.o gq_62 trivial rfl).2.trans fq_76
  replace fq_77 := (hs.o gq_62 trivial rfl).2.trans fq_77
  replace fq_78 := (hs.o gq_62 trivial rfl).2.trans fq_78
  replace f_80 := (hs.o gx trivial rfl).2.trans f_80
  replace f_84 := (hs.o gx trivial rfl).2.trans f_84
  replace f_88 := (hs.o gx trivial rfl).2.trans f_88
  replace po_96 := (hs.o gq_90 trivial rfl).1.trans po_96
  replace f_98 := (hs.o gx trivial rfl).2.trans f_98
  replace po_106 := (hs.o gq_100 trivial rfl).1.trans po_106
  replace f_108 := (hs.o gx trivial rfl).2.trans f_108
  replace hz := hx_zr [0, 3, 4, 5, 7, 9, 10, 12, 14, 15, 16, 17, 18] hz hs gx trivial rfl
  replace za_3 : ∀ j, h_109.2.1 q_2 j = 0 ∧ h_109.2.2 q_2 j = none := fun j => ⟨(hs.a gq_2 rfl j).1.trans (za_3 j).1, (hs.a gq_2 rfl j).2.trans (za_3 j).2⟩
  replace za_39 : ∀ j, h_109.2.1 q_38 j = 0 ∧ h_109.2.2 q_38 j = none := fun j => ⟨(hs.a gq_38 rfl j).1.trans (za_39 j).1, (hs.a gq_38 rfl j).2.trans (za_39 j).2⟩
  replace za_54 : ∀ j, h_109.2.1 q_53 j = 0 ∧ h_109.2.2 q_53 j = none := fun j => ⟨(hs.a gq_53 rfl j).1.trans (za_54 j).1, (hs.a gq_53 rfl j).2.trans (za_54 j).2⟩
  replace po_69 : ∀ j, h_109.2.1 q_74 j = 0 ∧ h_109.2.2 q_74 j = none := fun j => ⟨(hs.a gq_74 rfl j).1.trans (po_69 j).1, (hs.a gq_74 rfl j).2.trans (po_69 j).2⟩
  replace po_70 : ∀ j, h_109.2.1 q_75 j = 0 ∧ h_109.2.2 q_75 j = none := fun j => ⟨(hs.a gq_75 rfl j).1.trans (po_70 j).1, (hs.a gq_75 rfl j).2.trans (po_70 j).2⟩
  replace po_71 : ∀ j, h_109.2.1 q_76 j = 0 ∧ h_109.2.2 q_76 j = none := fun j => ⟨(hs.a gq_76 rfl j).1.trans (po_71 j).1, (hs.a gq_76 rfl j).2.trans (po_71 j).2⟩
  replace po_72 : ∀ j, h_109.2.1 q_77 j = 0 ∧ h_109.2.2 q_77 j = none := fun j => ⟨(hs.a gq_77 rfl j).1.trans (po_72 j).1, (hs.a gq_77 rfl j).2.trans (po_72 j).2⟩
  replace po_73 : ∀ j, h_109.2.1 q_78 j = 0 ∧ h_109.2.2 q_78 j = none := fun j => ⟨(hs.a gq_78 rfl j).1.trans (po_73 j).1, (hs.a gq_78 rfl j).2.trans (po_73 j).2⟩
  replace nfw_28 : h_109.2.1 q_27 = fw_28 := (funext fun j => (hs.a gq_27 rfl j).1).trans nfw_28
  replace nfw_30 : h_109.2.1 q_29 = fw_30 := (funext fun j => (hs.a gq_29 rfl j).1).trans nfw_30
  replace hM := hM.tr (hs.mono (by decide))
  replace gx := gx.S hs
  replace gq_2 := gq_2.S hs
  replace gq_7 := gq_7.S hs
  replace gq_16 := gq_16.S hs
  replace gq_27 := gq_27.S hs
  replace gq_29 := gq_29.S hs
  replace gq_34 := gq_34.S hs
  replace gq_38 := gq_38.S hs
  replace gq_43 := gq_43.S hs
  replace gq_53 := gq_53.S hs
  replace gq_58 := gq_58.S hs
  replace gq_62 := gq_62.S hs
  replace gq_74 := gq_74.S hs
  replace gq_75 := gq_75.S hs
  replace gq_76 := gq_76.S hs
  replace gq_77 := gq_77.S hs
  replace gq_78 := gq_78.S hs
  replace gq_82 := gq_82.S hs
  replace gq_86 := gq_86.S hs
  replace gq_90 := gq_90.S hs
  replace gq_100 := gq_100.S hs
  have fz_111 : ∀ j, ([] : List Nat).contains j = false → h_109.2.1 q_110 j = 0 ∧ h_109.2.2 q_110 j = none := by rw [eh_109]; exact fun _ _ => ⟨hx_nw_i, hx_nw_r⟩
  refine lv_dup hx hb dX9_init_137 rfl ?_
  refine hx_gov (hx_runINX (As := []) (rest := [.ref q_110, .ref x]) ⟨hx, hb, hml, hown, hts⟩ hW (t_X8_init l dC dI dA (L_102 ++ [q_110]) h_109 H.size b0 q_110 hT gq_110 (fun j => fz_111 j rfl)) hZ ⟨va_cnB 0 hts (hx_gC kw_342) rfl rfl rfl (hZ.1 _ (List.mem_of_getElem? (i := 6) rfl)) (hts _ kw_102) (by decide +kernel) ⟨Nat.le_of_ble_eq_true rfl, Nat.le_of_ble_eq_true rfl⟩, rfl, hts _ kw_341⟩ rfl hl.1 rfl (Nat.le_of_ble_eq_true rfl) dX9_init_138 ⟨Nat.le_of_ble_eq_true rfl, Nat.le_of_ble_eq_true rfl⟩) hW (fun L_112 h_113 H locs p_115 hW => ?_)
  obtain ⟨hT, hs, gNq_110, po_116, po_117, po_118⟩ := p_115
  replace hT : hx_T T_tb L_112 h_113 := hT
  replace hs : hx_S T_tb [(124, 2), (124, 3), (124, 4)] (hx_X (L_102 ++ [q_110]) q_110) h_109 L_112 h_113 := hs
  have gx := hx_gX gx (gx.ne gq_110 (by decide))
  have gq_2 := hx_gX gq_2 (gq_2.ne gq_110 (by decide))
  have gq_7 := hx_gX gq_7 (gq_7.ne gq_110 (by decide))
  have gq_16 := hx_gX gq_16 (gq_16.ne gq_110 (by decide))
  have gq_27 := hx_gX gq_27 (gq_27.ne gq_110 (by decide))
  have gq_29 := hx_gX gq_29 (gq_29.ne gq_110 (by decide))
  have gq_34 := hx_gX gq_34 (gq_34.ne gq_110 (by decide))
  have gq_38 := hx_gX gq_38 (gq_38.ne gq_110 (by decide))
  have gq_43 := hx_gX gq_43 (gq_43.ne gq_110 (by decide))
  have gq_53 := hx_gX gq_53 (gq_53.ne gq_110 (by decide))
  have gq_58 := hx_gX gq_58 (gq_58.ne gq_110 (by decide))
  have gq_62 := hx_gX gq_62 (gq_62.ne gq_110 (by decide))
  have gq_74 := hx_gX gq_74 (gq_74.ne gq_110 (by decide))
  have gq_75 := hx_gX gq_75 (gq_75.ne gq_110 (by decide))
  have gq_76 := hx_gX gq_76 (gq_76.ne gq_110 (by decide))
  have gq_77 := hx_gX gq_77 (gq_77.ne gq_110 (by decide))
  have gq_78 := hx_gX gq_78 (gq_78.ne gq_110 (by decide))
  have gq_82 := hx_gX gq_82 (gq_82.ne gq_110 (by decide))
  have gq_86 := hx_gX gq_86 (gq_86.ne gq_110 (by decide))
  have gq_90 := hx_gX gq_90 (gq_90.ne gq_110 (by decide))
  have gq_100 := hx_gX gq_100 (gq_100.ne gq_110 (by decide))
  replace f_5 := (hs.o gx trivial rfl).2.trans f_5
  replace f_14 := (hs.o gx trivial rfl).2.trans f_14
  replace po_22 := (hs.o gq_16 trivial rfl).1.trans po_22
  replace po_23 := (hs.o gq_16 trivial rfl).1.trans po_23
  replace po_24 := (hs.o gq_16 trivial rfl).1.trans po_24
  replace fq_27 := (hs.o gq_16 trivial rfl).2.trans fq_27
  replace fq_29 := (hs.o gq_16 trivial rfl).2.trans fq_29
  replace f_32 := (hs.o gx trivial rfl).2.trans f_32
  replace f_36 := (hs.o gx trivial rfl).2.trans f_36
  replace f_41 := (hs.o gx trivial rfl).2.trans f_41
  replace po_49 := (hs.o gq_43 trivial rfl).1.trans po_49
  replace f_51 := (hs.o gx trivial rfl).2.trans f_51
  replace f_56 := (hs.o gx trivial rfl).2.trans f_56
  replace f_60 := (hs.o gx trivial rfl).2.trans f_60
  replace po_68 := (hs.o gq_62 trivial rfl).1.trans po_68
  replace fq_74 := (hs.o gq_62 trivial rfl).2.trans fq_74
  replace fq_75 := (hs.o gq_62 trivial rfl).2.trans fq_75
  replace fq_76 := (hs.o gq_62 trivial rfl).2.trans fq_76
  replace fq_77 := (hs.o gq_62 trivial rfl).2.trans fq_77
  replace fq_78 := (hs.o gq_62 trivial rfl).2.trans fq_78
  replace f_80 := (hs.o gx trivial rfl).2.trans f_80
  replace f_84 := (hs.o gx trivial rfl).2.trans f_84
  replace f_88 := (hs.o gx trivial rfl).2.trans f_88
  replace po_96 := (hs.o gq_90 trivial rfl).1.trans po_96
  replace f_98 := (hs.o gx trivial rfl).2.trans f_98
  replace po_106 := (hs.o gq_100 trivial rfl).1.trans po_106
  replace f_108 := (hs.o gx trivial rfl).2.trans f_108
  replace hz := hx_zr [0, 3, 4, 5, 7, 9, 10, 12, 14, 15, 16, 17, 18] hz hs gx trivial rfl
  replace za_3 : ∀ j, h_113.2.1 q_2 j = 0 ∧ h_113.2.2 q_2 j = none := fun j => ⟨(hs.a gq_2 rfl j).1.trans (za_3 j).1, (hs.a gq_2 rfl j).2.trans (za_3 j).2⟩
  replace za_39 : ∀ j, h_113.2.1 q_38 j = 0 ∧ h_113.2.2 q_38 j = none := fun j => ⟨(hs.a gq_38 rfl j).1.trans (za_39 j).1, (hs.a gq_38 rfl j).2.trans (za_39 j).2⟩
  replace za_54 : ∀ j, h_113.2.1 q_53 j = 0 ∧ h_113.2.2 q_53 j = none := fun j => ⟨(hs.a gq_53 rfl j).1.trans (za_54 j).1, (hs.a gq_53 rfl j).2.trans (za_54 j).2⟩
  replace po_69 : ∀ j, h_113.2.1 q_74 j = 0 ∧ h_113.2.2 q_74 j = none := fun j => ⟨(hs.a gq_74 rfl j).1.trans (po_69 j).1, (hs.a gq_74 rfl j).2.trans (po_69 j).2⟩
  replace po_70 : ∀ j, h_113.2.1 q_75 j = 0 ∧ h_113.2.2 q_75 j = none := fun j => ⟨(hs.a gq_75 rfl j).1.trans (po_70 j).1, (hs.a gq_75 rfl j).2.trans (po_70 j).2⟩
  replace po_71 : ∀ j, h_113.2.1 q_76 j = 0 ∧ h_113.2.2 q_76 j = none := fun j => ⟨(hs.a gq_76 rfl j).1.trans (po_71 j).1, (hs.a gq_76 rfl j).2.trans (po_71 j).2⟩
  replace po_72 : ∀ j, h_113.2.1 q_77 j = 0 ∧ h_113.2.2 q_77 j = none := fun j => ⟨(hs.a gq_77 rfl j).1.trans (po_72 j).1, (hs.a gq_77 rfl j).2.trans (po_72 j).2⟩
  replace po_73 : ∀ j, h_113.2.1 q_78 j = 0 ∧ h_113.2.2 q_78 j = none := fun j => ⟨(hs.a gq_78 rfl j).1.trans (po_73 j).1, (hs.a gq_78 rfl j).2.trans (po_73 j).2⟩
  replace nfw_28 : h_113.2.1 q_27 = fw_28 := (funext fun j => (hs.a gq_27 rfl j).1).trans nfw_28
  replace nfw_30 : h_113.2.1 q_29 = fw_30 := (funext fun j => (hs.a gq_29 rfl j).1).trans nfw_30
  replace hM := hM.trX (hs.mono (by decide)) nq_q_110
  replace gx := gx.S hs
  replace gq_2 := gq_2.S hs
  replace gq_7 := gq_7.S hs
  replace gq_16 := gq_16.S hs
  replace gq_27 := gq_27.S hs
  replace gq_29 := gq_29.S hs
  replace gq_34 := gq_34.S hs
  replace gq_38 := gq_38.S hs
  replace gq_43 := gq_43.S hs
  replace gq_53 := gq_53.S hs
  replace gq_58 := gq_58.S hs
  replace gq_62 := gq_62.S hs
  replace gq_74 := gq_74.S hs
  replace gq_75 := gq_75.S hs
  replace gq_76 := gq_76.S hs
  replace gq_77 := gq_77.S hs
  replace gq_78 := gq_78.S hs
  replace gq_82 := gq_82.S hs
  replace gq_86 := gq_86.S hs
  replace gq_90 := gq_90.S hs
  replace gq_100 := gq_100.S hs
  have gq_110 : hx_g L_112 h_113 q_110 8 := gNq_110
  have po_116 : h_113.2.1 q_110 0 = 0 := po_116
  have po_117 : h_113.2.1 q_110 1 = 0 := po_117
  obtain ⟨q_119, fq_119, gq_119, po_118⟩ := po_118
  have fq_119 : h_113.2.2 q_110 3 = some q_119 := fq_119
  have gq_119 : hx_g L_112 h_113 q_119 40 := gq_119
  have po_118 : ∀ j, h_113.2.1 q_119 j = 0 ∧ h_113.2.2 q_119 j = none := po_118
  refine hx_putrF hx hb hts hC_9 hown hW hT (hx_S.rf (M := [(125, 19)])) gx tt_125 19 (by decide) rfl kw_383 ⟨rfl, rfl, rfl⟩ rfl hin rfl (x := (some q_110)) ⟨fun _ z => (by cases z), fun q hq => (by cases hq; exact ⟨gq_110.1, by rw [gq_110.2]; decide⟩)⟩ rfl rfl rfl (List.mem_singleton.mpr rfl) dX9_init_141 (fun H locs h_120 eh_120 hW hT hs => ?_)
  replace f_5 := (hs.o gx trivial rfl).2.trans f_5
  replace f_14 := (hs.o gx trivial rfl).2.trans f_14
  replace po_22 := (hs.o gq_16 trivial rfl).1.trans po_22
  replace po_23 := (hs.o gq_16 trivial rfl).1.trans po_23
  replace po_24 := (hs.o gq_16 trivial rfl).1.trans po_24
  replace fq_27 := (hs.o gq_16 trivial rfl).2.trans fq_27
  replace fq_29 := (hs.o gq_16 trivial rfl).2.trans fq_29
  replace f_32 := (hs.o gx trivial rfl).2.trans f_32
  replace f_36 := (hs.o gx trivial rfl).2.trans f_36
  replace f_41 := (hs.o gx trivial rfl).2.trans f_41
  replace po_49 := (hs.o gq_43 trivial rfl).1.trans po_49
  replace f_51 := (hs.o gx trivial rfl).2.trans f_51
  replace f_56 := (hs.o gx trivial rfl).2.trans f_56
  replace f_60 := (hs.o gx trivial rfl).2.trans f_60
  replace po_68 := (hs.o gq_62 trivial rfl).1.trans po_68
  replace fq_74 := (hs.o gq_62 trivial rfl).2.trans fq_74
  replace fq_75 := (hs.o gq_62 trivial rfl).2.trans fq_75
  replace fq_76 := (hs.o gq_62 trivial rfl).2.trans fq_76
  replace fq_77 := (hs.o gq_62 trivial rfl).2.trans fq_77
  replace fq_78 := (hs.o gq_62 trivial rfl).2.trans fq_78
  replace f_80 := (hs.o gx trivial rfl).2.trans f_80
  replace f_84 := (hs.o gx trivial rfl).2.trans f_84
  replace f_88 := (hs.o gx trivial rfl).2.trans f_88
  replace po_96 := (hs.o gq_90 trivial rfl).1.trans po_96
  replace f_98 := (hs.o gx trivial rfl).2.trans f_98
  replace po_106 := (hs.o gq_100 trivial rfl).1.trans po_106
  replace f_108 := (hs.o gx trivial rfl).2.trans f_108
  replace po_116 := (hs.o gq_110 trivial rfl).1.trans po_116
  replace po_117 := (hs.o gq_110 trivial rfl).1.trans po_117
  replace fq_119 := (hs.o gq_110 trivial rfl).2.trans fq_119
  replace hz := hx_zr [0, 3, 4, 5, 7, 9, 10, 12, 14, 15, 16, 17, 18, 19] hz hs gx trivial rfl
  replace za_3 : ∀ j, h_120.2.1 q_2 j = 0 ∧ h_120.2.2 q_2 j = none := fun j => ⟨(hs.a gq_2 rfl j).1.trans (za_3 j).1, (hs.a gq_2 rfl j).2.trans (za_3 j).2⟩
  replace za_39 : ∀ j, h_120.2.1 q_38 j = 0 ∧ h_120.2.2 q_38 j = none := fun j => ⟨(hs.a gq_38 rfl j).1.trans (za_39 j).1, (hs.a gq_38 rfl j).2.trans (za_39 j).2⟩
  replace za_54 : ∀ j, h_120.2.1 q_53 j = 0 ∧ h_120.2.2 q_53 j = none := fun j => ⟨(hs.a gq_53 rfl j).1.trans (za_54 j).1, (hs.a gq_53 rfl j).2.trans (za_54 j).2⟩
  replace po_69 : ∀ j, h_120.2.1 q_74 j = 0 ∧ h_120.2.2 q_74 j = none := fun j => ⟨(hs.a gq_74 rfl j).1.trans (po_69 j).1, (hs.a gq_74 rfl j).2.trans (po_69 j).2⟩
  replace po_70 : ∀ j, h_120.2.1 q_75 j = 0 ∧ h_120.2.2 q_75 j = none := fun j => ⟨(hs.a gq_75 rfl j).1.trans (po_70 j).1, (hs.a gq_75 rfl j).2.trans (po_70 j).2⟩
  replace po_71 : ∀ j, h_120.2.1 q_76 j = 0 ∧ h_120.2.2 q_76 j = none := fun j => ⟨(hs.a gq_76 rfl j).1.trans (po_71 j).1, (hs.a gq_76 rfl j).2.trans (po_71 j).2⟩
  replace po_72 : ∀ j, h_120.2.1 q_77 j = 0 ∧ h_120.2.2 q_77 j = none := fun j => ⟨(hs.a gq_77 rfl j).1.trans (po_72 j).1, (hs.a gq_77 rfl j).2.trans (po_72 j).2⟩
  replace po_73 : ∀ j, h_120.2.1 q_78 j = 0 ∧ h_120.2.2 q_78 j = none := fun j => ⟨(hs.a gq_78 rfl j).1.trans (po_73 j).1, (hs.a gq_78 rfl j).2.trans (po_73 j).2⟩
  replace po_118 : ∀ j, h_120.2.1 q_119 j = 0 ∧ h_120.2.2 q_119 j = none := fun j => ⟨(hs.a gq_119 rfl j).1.trans (po_118 j).1, (hs.a gq_119 rfl j).2.trans (po_118 j).2⟩
  replace nfw_28 : h_120.2.1 q_27 = fw_28 := (funext fun j => (hs.a gq_27 rfl j).1).trans nfw_28
  replace nfw_30 : h_120.2.1 q_29 = fw_30 := (funext fun j => (hs.a gq_29 rfl j).1).trans nfw_30
  replace hM := hM.tr (hs.mono (by decide))
  replace gx := gx.S hs
  replace gq_2 := gq_2.S hs
  replace gq_7 := gq_7.S hs
  replace gq_16 := gq_16.S hs
  replace gq_27 := gq_27.S hs
  replace gq_29 := gq_29.S hs
  replace gq_34 := gq_34.S hs
  replace gq_38 := gq_38.S hs
  replace gq_43 := gq_43.S hs
  replace gq_53 := gq_53.S hs
  replace gq_58 := gq_58.S hs
  replace gq_62 := gq_62.S hs
  replace gq_74 := gq_74.S hs
  replace gq_75 := gq_75.S hs
  replace gq_76 := gq_76.S hs
  replace gq_77 := gq_77.S hs
  replace gq_78 := gq_78.S hs
  replace gq_82 := gq_82.S hs
  replace gq_86 := gq_86.S hs
  replace gq_90 := gq_90.S hs
  replace gq_100 := gq_100.S hs
  replace gq_110 := gq_110.S hs
  replace gq_119 := gq_119.S hs
  have f_121 : h_120.2.2 x 19 = (some q_110) := by rw [eh_120]; exact hx_pr_at _ _ _ _
  have f_122 : h_120.2.1 x 2 = 0 := (hz 2 rfl).1
  have f_123 : h_120.2.1 x 6 = 0 := (hz 6 rfl).1
  have f_124 : h_120.2.1 x 8 = 0 := (hz 8 rfl).1
  have f_125 : h_120.2.1 x 11 = 0 := (hz 11 rfl).1
  have f_126 : h_120.2.1 x 13 = 0 := (hz 13 rfl).1
  have f_127 : h_120.2.1 x 1 = 0 := (hz 1 rfl).1
  have hF : hx_F (fun k f => hx_o L_112 h_120 f (h_120.2.1 x k) (h_120.2.2 x k)) T_f9 0 := ⟨hx_or f_5 gq_2 (by decide), hx_oi f_127 (by decide), hx_oi f_122 (by decide), hx_or f_14 gq_7 (by decide), hx_or f_32 gq_16 (by decide), hx_or f_36 gq_34 (by decide), hx_oi f_123 (by decide), hx_or f_41 gq_38 (by decide), hx_oi f_124 (by decide), hx_or f_51 gq_43 (by decide), hx_or f_56 gq_53 (by decide), hx_oi f_125 (by decide), hx_or f_60 gq_58 (by decide), hx_oi f_126 (by decide), hx_or f_80 gq_62 (by decide), hx_or f_84 gq_82 (by decide), hx_or f_88 gq_86 (by decide), hx_or f_98 gq_90 (by decide), hx_or f_108 gq_100 (by decide), hx_or f_121 gq_110 (by decide), trivial⟩
  have hT := hx_T_rt hT gx tt_9 rfl (hx_F_all hF)
  have hW := hx_W_rt hW gx tt_125 tt_9 (fun _ _ => rfl)
  have hM := hx_SX_rt (x := x) (t := 9) hM
  have gq_2 := hx_rt_o (t := 9) gq_2 (gq_2.ne gx (by decide))
  have gq_7 := hx_rt_o (t := 9) gq_7 (gq_7.ne gx (by decide))
  have gq_16 := hx_rt_o (t := 9) gq_16 (gq_16.ne gx (by decide))
  have gq_27 := hx_rt_o (t := 9) gq_27 (gq_27.ne gx (by decide))
  have gq_29 := hx_rt_o (t := 9) gq_29 (gq_29.ne gx (by decide))
  have gq_34 := hx_rt_o (t := 9) gq_34 (gq_34.ne gx (by decide))
  have gq_38 := hx_rt_o (t := 9) gq_38 (gq_38.ne gx (by decide))
  have gq_43 := hx_rt_o (t := 9) gq_43 (gq_43.ne gx (by decide))
  have gq_53 := hx_rt_o (t := 9) gq_53 (gq_53.ne gx (by decide))
  have gq_58 := hx_rt_o (t := 9) gq_58 (gq_58.ne gx (by decide))
  have gq_62 := hx_rt_o (t := 9) gq_62 (gq_62.ne gx (by decide))
  have gq_74 := hx_rt_o (t := 9) gq_74 (gq_74.ne gx (by decide))
  have gq_75 := hx_rt_o (t := 9) gq_75 (gq_75.ne gx (by decide))
  have gq_76 := hx_rt_o (t := 9) gq_76 (gq_76.ne gx (by decide))
  have gq_77 := hx_rt_o (t := 9) gq_77 (gq_77.ne gx (by decide))
  have gq_78 := hx_rt_o (t := 9) gq_78 (gq_78.ne gx (by decide))
  have gq_82 := hx_rt_o (t := 9) gq_82 (gq_82.ne gx (by decide))
  have gq_86 := hx_rt_o (t := 9) gq_86 (gq_86.ne gx (by decide))
  have gq_90 := hx_rt_o (t := 9) gq_90 (gq_90.ne gx (by decide))
  have gq_100 := hx_rt_o (t := 9) gq_100 (gq_100.ne gx (by decide))
  have gq_110 := hx_rt_o (t := 9) gq_110 (gq_110.ne gx (by decide))
  have gq_119 := hx_rt_o (t := 9) gq_119 (gq_119.ne gx (by decide))
  have gx := hx_rt_g (t := 9) gx
  have f_5 : (hx_rt h_120 x 9).2.2 x 0 = some q_2 := f_5
  have f_14 : (hx_rt h_120 x 9).2.2 x 3 = some q_7 := f_14
  have po_22 : (hx_rt h_120 x 9).2.1 q_16 0 = (-1 : Int32) := po_22
  have po_23 : (hx_rt h_120 x 9).2.1 q_16 1 = (-1 : Int32) := po_23
  have po_24 : (hx_rt h_120 x 9).2.1 q_16 4 = (3 : Int32) := po_24
  have fq_27 : (hx_rt h_120 x 9).2.2 q_16 2 = some q_27 := fq_27
  have fq_29 : (hx_rt h_120 x 9).2.2 q_16 3 = some q_29 := fq_29
  have f_32 : (hx_rt h_120 x 9).2.2 x 4 = some q_16 := f_32
  have f_36 : (hx_rt h_120 x 9).2.2 x 5 = some q_34 := f_36
  have f_41 : (hx_rt h_120 x 9).2.2 x 7 = some q_38 := f_41
  have po_49 : (hx_rt h_120 x 9).2.1 q_43 0 = (0 : Int32) := po_49
  have f_51 : (hx_rt h_120 x 9).2.2 x 9 = some q_43 := f_51
  have f_56 : (hx_rt h_120 x 9).2.2 x 10 = some q_53 := f_56
  have f_60 : (hx_rt h_120 x 9).2.2 x 12 = some q_58 := f_60
  have po_68 : (hx_rt h_120 x 9).2.1 q_62 0 = (0 : Int32) := po_68
  have fq_74 : (hx_rt h_120 x 9).2.2 q_62 2 = some q_74 := fq_74
  have fq_75 : (hx_rt h_120 x 9).2.2 q_62 3 = some q_75 := fq_75
  have fq_76 : (hx_rt h_120 x 9).2.2 q_62 5 = some q_76 := fq_76
  have fq_77 : (hx_rt h_120 x 9).2.2 q_62 4 = some q_77 := fq_77
  have fq_78 : (hx_rt h_120 x 9).2.2 q_62 1 = some q_78 := fq_78
  have f_80 : (hx_rt h_120 x 9).2.2 x 14 = some q_62 := f_80
  have f_84 : (hx_rt h_120 x 9).2.2 x 15 = some q_82 := f_84
  have f_88 : (hx_rt h_120 x 9).2.2 x 16 = some q_86 := f_88
  have po_96 : (hx_rt h_120 x 9).2.1 q_90 1 = (0 : Int32) := po_96
  have f_98 : (hx_rt h_120 x 9).2.2 x 17 = some q_90 := f_98
  have po_106 : (hx_rt h_120 x 9).2.1 q_100 0 = (-1 : Int32) := po_106
  have f_108 : (hx_rt h_120 x 9).2.2 x 18 = some q_100 := f_108
  have po_116 : (hx_rt h_120 x 9).2.1 q_110 0 = (0 : Int32) := po_116
  have po_117 : (hx_rt h_120 x 9).2.1 q_110 1 = (0 : Int32) := po_117
  have fq_119 : (hx_rt h_120 x 9).2.2 q_110 3 = some q_119 := fq_119
  have f_121 : (hx_rt h_120 x 9).2.2 x 19 = some q_110 := f_121
  have f_122 : (hx_rt h_120 x 9).2.1 x 2 = (0 : Int32) := f_122
  have f_123 : (hx_rt h_120 x 9).2.1 x 6 = (0 : Int32) := f_123
  have f_124 : (hx_rt h_120 x 9).2.1 x 8 = (0 : Int32) := f_124
  have f_125 : (hx_rt h_120 x 9).2.1 x 11 = (0 : Int32) := f_125
  have f_126 : (hx_rt h_120 x 9).2.1 x 13 = (0 : Int32) := f_126
  have f_127 : (hx_rt h_120 x 9).2.1 x 1 = (0 : Int32) := f_127
  have za_3 : ∀ j, (hx_rt h_120 x 9).2.1 q_2 j = 0 ∧ (hx_rt h_120 x 9).2.2 q_2 j = none := za_3
  have za_39 : ∀ j, (hx_rt h_120 x 9).2.1 q_38 j = 0 ∧ (hx_rt h_120 x 9).2.2 q_38 j = none := za_39
  have za_54 : ∀ j, (hx_rt h_120 x 9).2.1 q_53 j = 0 ∧ (hx_rt h_120 x 9).2.2 q_53 j = none := za_54
  have po_69 : ∀ j, (hx_rt h_120 x 9).2.1 q_74 j = 0 ∧ (hx_rt h_120 x 9).2.2 q_74 j = none := po_69
  have po_70 : ∀ j, (hx_rt h_120 x 9).2.1 q_75 j = 0 ∧ (hx_rt h_120 x 9).2.2 q_75 j = none := po_70
  have po_71 : ∀ j, (hx_rt h_120 x 9).2.1 q_76 j = 0 ∧ (hx_rt h_120 x 9).2.2 q_76 j = none := po_71
  have po_72 : ∀ j, (hx_rt h_120 x 9).2.1 q_77 j = 0 ∧ (hx_rt h_120 x 9).2.2 q_77 j = none := po_72
  have po_73 : ∀ j, (hx_rt h_120 x 9).2.1 q_78 j = 0 ∧ (hx_rt h_120 x 9).2.2 q_78 j = none := po_73
  have po_118 : ∀ j, (hx_rt h_120 x 9).2.1 q_119 j = 0 ∧ (hx_rt h_120 x 9).2.2 q_119 j = none := po_118
  have nfw_28 : (hx_rt h_120 x 9).2.1 q_27 = fw_28 := nfw_28
  have nfw_30 : (hx_rt h_120 x 9).2.1 q_29 = fw_30 := nfw_30
  generalize eh : hx_rt h_120 x 9 = h_128 at hT hW hM gx gq_2 gq_7 gq_16 gq_27 gq_29 gq_34 gq_38 gq_43 gq_53 gq_58 gq_62 gq_74 gq_75 gq_76 gq_77 gq_78 gq_82 gq_86 gq_90 gq_100 gq_110 gq_119 f_5 f_14 po_22 po_23 po_24 fq_27 fq_29 f_32 f_36 f_41 po_49 f_51 f_56 f_60 po_68 fq_74 fq_75 fq_76 fq_77 fq_78 f_80 f_84 f_88 po_96 f_98 po_106 f_108 po_116 po_117 fq_119 f_121 f_122 f_123 f_124 f_125 f_126 f_127 za_3 za_39 za_54 po_69 po_70 po_71 po_72 po_73 po_118 nfw_28 nfw_30
  refine W.widen (k := 43) (n := 10614) (Nat.le_of_ble_eq_true rfl) (Nat.le_of_ble_eq_true rfl) ?_
  exact hx_retv hx hb hr hlk hW ⟨hT, hM, gx, f_122, f_123, f_124, f_125, f_126, ⟨q_110, f_121, gq_110, ⟨po_116, po_117, q_119, fq_119, gq_119, po_118⟩⟩, ⟨q_43, f_51, gq_43, po_49⟩, ⟨q_38, f_41, gq_38, za_39⟩, ⟨q_53, f_56, gq_53, za_54⟩, f_127, ⟨q_2, f_5, gq_2, za_3⟩, ⟨q_16, f_32, gq_16, ⟨by rw [po_22]; decide, by rw [po_23]; decide, fun t ht => by obtain rfl : q_27 = t := Option.some.inj (fq_27.symm.trans ht); rw [nfw_28]; exact hv_rC_0 po_25, fun p hp => by obtain rfl : q_29 = p := Option.some.inj (fq_29.symm.trans hp); rw [nfw_30, po_24, show (3 : Int32).toInt.toNat = 3 from by decide]; exact hv_o0_c po_26⟩⟩, ⟨q_62, f_80, gq_62, ⟨po_68, q_74, fq_74, gq_74, po_69, q_75, fq_75, gq_75, po_70, q_76, fq_76, gq_76, po_71, q_77, fq_77, gq_77, po_72, q_78, fq_78, gq_78, po_73⟩⟩, ⟨q_100, f_108, gq_100, po_106⟩, ⟨q_90, f_98, gq_90, ⟨po_96, trivial⟩⟩⟩ dX9_init_144
