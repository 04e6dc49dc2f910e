section
set_option maxHeartbeats 4000000 in
set_option maxRecDepth 100000 in
theorem t_X0_init_w (l : Launch) (dC : Nat → ClassId) (dI : Nat → Nat → Nat) (dA : Nat → ClassId) (L : List Nat) (h : hx_h) (sz : Nat) (b0 : hx_z) (x : Nat) (i1 : Int32) (i2 : Int32) (hT : hx_T T_tb L h) (gx : hx_g L h x 116) (hz : ∀ j, h.2.1 x j = 0 ∧ h.2.2 x j = none) (hi1 : -1 ≤ i1.toInt ∧ i1.toInt ≤ 7) (hi2 : -1 ≤ i2.toInt ∧ i2.toInt ≤ 7999) : Met l yX0_init (Cond.code yX0_init cX0_init 3 none :: hx_all) ({ frames := 1, cells := 2, slots := 174, locals := 40 }) (va_Pc [.ref x, .int i1, .int i2] (hx_BX T_tb (P_ty dA) (dC, dI) vwCl L h sz b0)) (va_Qv (fun (u : List Nat × hx_h) => hx_T T_tb u.1 u.2 ∧ hx_S T_tb [(11, 0), (12, 0), (116, 0), (116, 1), (116, 2), (116, 3), (116, 4)] (hx_X L x) h u.1 u.2 ∧ hx_g u.1 u.2 x 0 ∧ u.2.2.1 x 0 = i1 ∧ u.2.2.1 x 1 = i2 ∧ u.2.2.1 x 4 = 3 ∧ (∃ q, u.2.2.2 x 2 = some q ∧ hx_g u.1 u.2 q 11 ∧ (∀ j, j < 14 → u.2.2.1 q j = P_wo j) ∧ ∀ a ∈ hx_X L x, a ≠ q) ∧ (∃ q, u.2.2.2 x 3 = some q ∧ hx_g u.1 u.2 q 12 ∧ ((u.2.2.1 q 0).toInt = 144 ∧ (u.2.2.1 q 1).toInt = 17 ∧ (u.2.2.1 q 2).toInt = -1) ∧ ∀ a ∈ hx_X L x, a ≠ q)) (hx_E T_tb (P_ty dA) (dC, dI) vwCl (hx_A L sz)) (hx_A L sz)) 2 174 (hx_A L sz) := by
  refine hx_metX (lv := [(0, .ref x), (1, .int i1), (2, .int i2)]) (by decide +kernel) rfl (Nat.le_of_ble_eq_true rfl) rfl ?_
  intro p e s m below meth c hx hb hml hr hlk hts0 hown hin hsz hW hZ ls hl
  have hts : ∀ w ∈ hx_all, w.before _ s = true := fun w hw => hts0 w (List.mem_cons_of_mem _ hw)
  have hown : s.vm.findClass "SmallCourt$Act" = some m.cls := hown
  have hin : meth.name = "<init>" := hin
  have hM : hx_S T_tb [(11, 0), (12, 0), (116, 0), (116, 1), (116, 2), (116, 3), (116, 4)] (hx_X L x) h L h := hx_SX_rf
  have hz : ∀ j, ([] : List Nat).contains j = false → h.2.1 x j = 0 ∧ h.2.2 x j = none := fun j _ => hz j
  refine lv_aload_n hx hb dX0_init_0 rfl (lv_at hl 0 rfl) ?_
  refine W.objInit hx hb hown (hts _ kw_153) (hts _ kw_117) (hts _ kw_118) rfl (by rw [hml]; exact hl.1) rfl dX0_init_1 (Nat.le_of_ble_eq_true rfl) (Nat.le_of_ble_eq_true rfl) ?_
  refine W.eq (g2 := F0 m 4 ls []) rfl ?_
  refine lv_aload_n hx hb dX0_init_4 rfl (lv_at hl 0 rfl) ?_
  refine lv_bipush (v := 14) hx hb dX0_init_5 ?o0 ?_
  case o0 => decide
  refine hk_newa hx hb hts hW 11 tt_11 (atype := .int) rfl kw_186 (tys := P_ty dA) (t0 := 0) rfl (fun _ => Iff.rfl) rfl (i := (14 : Int32)) ?o1 (Nat.le_of_ble_eq_true rfl) (Nat.le_of_ble_eq_true rfl) (Nat.le_of_ble_eq_true rfl) dX0_init_7 (fun q_2 H h_1 eh_1 hqq_2 hW hs gq_2 => ?_)
  case o1 => decide
  have nq_q_2 : ∀ a ∈ (hx_X L x), a ≠ q_2 := fun a ha z => hqq_2 (z ▸ (hM.1 a ha).1)
  have hT : hx_T T_tb (L ++ [q_2]) h_1 := ?o2
  case o2 =>
    rw [eh_1]
    exact hx_T_nw hT hqq_2 tt_11 rfl
  replace hz := hx_zr [] hz hs gx trivial rfl
  replace hM := hM.tr (hs.mono ?o3)
  case o3 => decide
  replace gx := gx.S hs
  refine hx_putrF hx hb hts hC_0 hown hW hT (hx_S.rf (M := [(116, 2)])) gx tt_116 2 ?o4 rfl kw_166 ⟨rfl, rfl, rfl⟩ rfl hin rfl (x := (some q_2)) ⟨fun _ z => (by cases z), fun q hq => (by cases hq; exact ⟨gq_2.1, by rw [gq_2.2]; decide⟩)⟩ rfl rfl rfl (List.mem_singleton.mpr rfl) dX0_init_9 (fun H locs h_3 eh_3 hW hT hs => ?_)
  case o4 => decide
  replace hz := hx_zr [2] hz hs gx trivial rfl
  replace hM := hM.tr (hs.mono ?o5)
  case o5 => decide
  replace gx := gx.S hs
  replace gq_2 := gq_2.S hs
  have f_4 : h_3.2.2 x 2 = (some q_2) := ?o6
  case o6 =>
    rw [eh_3]
    exact hx_pr_at _ _ _ _
  refine lv_aload_n hx hb dX0_init_12 rfl (lv_at hl 0 rfl) ?_
  refine lv_sipush (v := 160) hx hb dX0_init_13 ?o7 ?_
  case o7 => decide
  refine hk_newa hx hb hts hW 12 tt_12 (atype := .int) rfl kw_186 (tys := P_ty dA) (t0 := 0) rfl (fun _ => Iff.rfl) rfl (i := (160 : Int32)) ?o8 (Nat.le_of_ble_eq_true rfl) (Nat.le_of_ble_eq_true rfl) (Nat.le_of_ble_eq_true rfl) dX0_init_16 (fun q_6 H h_5 eh_5 hqq_6 hW hs gq_6 => ?_)
  case o8 => decide
  have nq_q_6 : ∀ a ∈ (hx_X L x), a ≠ q_6 := fun a ha z => hqq_6 (z ▸ (hM.1 a ha).1)
  have hT : hx_T T_tb ((L ++ [q_2]) ++ [q_6]) h_5 := ?o9
  case o9 =>
    rw [eh_5]
    exact hx_T_nw hT hqq_6 tt_12 rfl
  replace f_4 := (hs.o gx trivial rfl).2.trans f_4
  replace hz := hx_zr [2] hz hs gx trivial rfl
  replace hM := hM.tr (hs.mono ?o10)
  case o10 => decide
  replace gx := gx.S hs
  replace gq_2 := gq_2.S hs
  refine hx_putrF hx hb hts hC_0 hown hW hT (hx_S.rf (M := [(116, 3)])) gx tt_116 3 ?o11 rfl kw_172 ⟨rfl, rfl, rfl⟩ rfl hin rfl (x := (some q_6)) ⟨fun _ z => (by cases z), fun q hq => (by cases hq; exact ⟨gq_6.1, by rw [gq_6.2]; decide⟩)⟩ rfl rfl rfl (List.mem_singleton.mpr rfl) dX0_init_18 (fun H locs h_7 eh_7 hW hT hs => ?_)
  case o11 => decide
  replace f_4 := (hs.o gx trivial rfl).2.trans f_4
  replace hz := hx_zr [2, 3] hz hs gx trivial rfl
  replace hM := hM.tr (hs.mono ?o12)
  case o12 => decide
  replace gx := gx.S hs
  replace gq_2 := gq_2.S hs
  replace gq_6 := gq_6.S hs
  have f_8 : h_7.2.2 x 3 = (some q_6) := ?o13
  case o13 =>
    rw [eh_7]
    exact hx_pr_at _ _ _ _
  refine lv_aload_n hx hb dX0_init_21 rfl (lv_at hl 0 rfl) ?_
  refine lv_iload_n hx hb dX0_init_22 rfl (lv_at hl 1 rfl) ?_
  refine hx_putiF hx hb hts hC_0 hown hW hT (hx_S.rf (M := [(116, 0)])) gx tt_116 0 ?o14 rfl kw_162 ⟨rfl, rfl, rfl⟩ rfl hin rfl (x := i1) ⟨?o15, ?o16⟩ rfl rfl rfl (List.mem_singleton.mpr rfl) dX0_init_23 (fun H locs h_9 eh_9 hW hT hs => ?_)
  case o14 => decide
  case o15 => omega
  case o16 => omega
  replace f_4 := (hs.o gx trivial rfl).2.trans f_4
  replace f_8 := (hs.o gx trivial rfl).2.trans f_8
  replace hz := hx_zr [0, 2, 3] hz hs gx trivial rfl
  replace hM := hM.tr (hs.mono ?o17)
  case o17 => decide
  replace gx := gx.S hs
  replace gq_2 := gq_2.S hs
  replace gq_6 := gq_6.S hs
  have f_10 : h_9.2.1 x 0 = i1 := ?o18
  case o18 =>
    rw [eh_9]
    exact hx_pi_at _ _ _ _
  refine lv_aload_n hx hb dX0_init_26 rfl (lv_at hl 0 rfl) ?_
  refine lv_iload_n hx hb dX0_init_27 rfl (lv_at hl 2 rfl) ?_
  refine hx_putiF hx hb hts hC_0 hown hW hT (hx_S.rf (M := [(116, 1)])) gx tt_116 1 ?o19 rfl kw_164 ⟨rfl, rfl, rfl⟩ rfl hin rfl (x := i2) ⟨?o20, ?o21⟩ rfl rfl rfl (List.mem_singleton.mpr rfl) dX0_init_28 (fun H locs h_11 eh_11 hW hT hs => ?_)
  case o19 => decide
  case o20 => omega
  case o21 => omega
  replace f_4 := (hs.o gx trivial rfl).2.trans f_4
  replace f_8 := (hs.o gx trivial rfl).2.trans f_8
  replace f_10 := (hs.o gx trivial rfl).1.trans f_10
  replace hz := hx_zr [0, 1, 2, 3] hz hs gx trivial rfl
  replace hM := hM.tr (hs.mono ?o22)
  case o22 => decide
  replace gx := gx.S hs
  replace gq_2 := gq_2.S hs
  replace gq_6 := gq_6.S hs
  have f_12 : h_11.2.1 x 1 = i2 := ?o23
  case o23 =>
    rw [eh_11]
    exact hx_pi_at _ _ _ _
  obtain ⟨pF0, npF0⟩ : ∃ g : Nat → Int32, h_11.2.1 q_6 = g := ⟨_, rfl⟩
  refine va_getsN hx hb hZ.2.2.1 hW.2.2.2.1 hown (va_Nw.use rfl (hZ.1 _ (List.mem_of_getElem? (i := 1) rfl))) (fun _ h9 => h9) dX0_init_31 ?_
  refine lv_iconst (v := 0) hx hb dX0_init_34 ?o24 ?_
  case o24 => decide
  refine lv_aload_n hx hb dX0_init_35 rfl (lv_at hl 0 rfl) ?_
  refine hk_getr hx hb hts hC_0 hown hW gx tt_116 2 ?o25 rfl kw_166 ⟨rfl, rfl, rfl⟩ f_4 dX0_init_36 ?_
  case o25 => decide
  refine lv_iconst (v := 0) hx hb dX0_init_39 ?o26 ?_
  case o26 => decide
  refine lv_bipush (v := 14) hx hb dX0_init_40 ?o27 ?_
  case o27 => decide
  refine hk_copyx hx hb (hml.trans hl.1.symm) hown (hts _ kw_156) (hts _ kw_158) (hts _ kw_157) (hts _ kw_97) hW hZ.2.2.2.1 hZ.2.2.2.2.1 hZ.2.2.2.2.2.1 gq_2 tt_11 rfl ?o28 rfl rfl ?o29 (Nat.le_of_ble_eq_true rfl) (Nat.le_of_ble_eq_true rfl) dX0_init_42 (fun H locs h_13 fa_14 hW hs => ?_)
  case o28 => decide
  case o29 => decide
  have hT := hx_T_full hT hs tt_11
  replace f_4 := (hs.o gx trivial rfl).2.trans f_4
  replace f_8 := (hs.o gx trivial rfl).2.trans f_8
  replace f_10 := (hs.o gx trivial rfl).1.trans f_10
  replace f_12 := (hs.o gx trivial rfl).1.trans f_12
  replace hz := hx_zr [0, 1, 2, 3] hz hs gx trivial rfl
  replace npF0 : h_13.2.1 q_6 = pF0 := (funext fun j => (hs.a gq_6 rfl j).1).trans npF0
  replace hM := hM.tr (hs.mono ?o30)
  case o30 => decide
  replace gx := gx.S hs
  replace gq_2 := gq_2.S hs
  replace gq_6 := gq_6.S hs
  obtain ⟨fw_15, nfw_15⟩ : ∃ g : Nat → Int32, h_13.2.1 q_2 = g := ⟨_, rfl⟩
  have wfw_15 : ∀ j, j < 14 → fw_15 j = P_wo j := fun j hj => by rw [← nfw_15]; exact fa_14 j hj
  refine lv_aload_n hx hb dX0_init_45 rfl (lv_at hl 0 rfl) ?_
  refine hk_getr hx hb hts hC_0 hown hW gx tt_116 3 ?o31 rfl kw_172 ⟨rfl, rfl, rfl⟩ f_8 dX0_init_46 ?_
  case o31 => decide
  refine lv_iconst (v := 0) hx hb dX0_init_49 ?o32 ?_
  case o32 => decide
  refine lv_iconst (v := 0) hx hb dX0_init_50 ?o33 ?_
  case o33 => decide
  refine lv_iconst (v := 2) hx hb dX0_init_51 ?o34 ?_
  case o34 => decide
  refine lv_iconst (v := 0) hx hb dX0_init_52 ?o35 ?_
  case o35 => decide
  refine lv_iconst (v := 1) hx hb dX0_init_53 ?o36 ?_
  case o36 => decide
  have zc_1 : (1 : Int32).toInt = 1 := ?o37
  case o37 => decide
  have zc_0 : (0 : Int32).toInt = 0 := ?o38
  case o38 => decide
  have zc_2 : (2 : Int32).toInt = 2 := ?o39
  case o39 => decide
  refine hx_goi (hx_runS (As := [.int (0 : Int32), .int (2 : Int32), .int (0 : Int32), .int (1 : Int32)]) (rest := [.int (0 : Int32), .ref q_6]) ⟨hx, hb, hml, hown, hts⟩ hW (t_X0_term_v l dC dI dA ((L ++ [q_2]) ++ [q_6]) h_13 H.size (0 : Int32) (2 : Int32) (0 : Int32) (1 : Int32) hT ⟨?o40, ?o41⟩ ⟨?o42, ?o43⟩ ⟨?o44, ?o45⟩ ⟨?o46, ?o47⟩) (va_cwS 4 hts (hx_gS kw_161 kw_159 kw_160 kw_96) rfl rfl rfl (by decide +kernel) ⟨Nat.le_of_ble_eq_true rfl, Nat.le_of_ble_eq_true rfl⟩) rfl hl.1 rfl (Nat.le_of_ble_eq_true rfl) dX0_init_54 ⟨Nat.le_of_ble_eq_true rfl, Nat.le_of_ble_eq_true rfl⟩) hW (fun r_18 L_16 h_17 H locs p_19 hW => ?_)
  case o40 => omega
  case o41 => omega
  case o42 => omega
  case o43 => omega
  case o44 => omega
  case o45 => omega
  case o46 => omega
  case o47 => omega
  obtain ⟨hr_20, hT, hs⟩ := p_19
  replace hT : hx_T T_tb L_16 h_17 := hT
  replace hs : hx_S T_tb [] ((L ++ [q_2]) ++ [q_6]) h_13 L_16 h_17 := hs
  replace f_4 := (hs.o gx trivial rfl).2.trans f_4
  replace f_8 := (hs.o gx trivial rfl).2.trans f_8
  replace f_10 := (hs.o gx trivial rfl).1.trans f_10
  replace f_12 := (hs.o gx trivial rfl).1.trans f_12
  replace hz := hx_zr [0, 1, 2, 3] hz hs gx trivial rfl
  replace npF0 : h_17.2.1 q_6 = pF0 := (funext fun j => (hs.a gq_6 rfl j).1).trans npF0
  replace nfw_15 : h_17.2.1 q_2 = fw_15 := (funext fun j => (hs.a gq_2 rfl j).1).trans nfw_15
  replace hM := hM.tr (hs.mono ?o48)
  case o48 => decide
  replace gx := gx.S hs
  replace gq_2 := gq_2.S hs
  replace gq_6 := gq_6.S hs
  have npF0O := npF0
  refine hx_iast hx hb hW hT (hx_S.rf (M := [(12, 0)])) gq_6 tt_12 rfl ?o49 rfl (i32_r _) (List.mem_singleton.mpr rfl) dX0_init_57 (fun H locs h_21 eh_21 hW hT hs => ?_)
  case o49 => decide
  replace f_4 := (hs.o gx trivial rfl).2.trans f_4
  replace f_8 := (hs.o gx trivial rfl).2.trans f_8
  replace f_10 := (hs.o gx trivial rfl).1.trans f_10
  replace f_12 := (hs.o gx trivial rfl).1.trans f_12
  replace hz := hx_zr [0, 1, 2, 3] hz hs gx trivial rfl
  replace nfw_15 : h_21.2.1 q_2 = fw_15 := (funext fun j => (hs.a gq_2 rfl j).1).trans nfw_15
  replace hM := hM.tr (hs.mono ?o50)
  case o50 => decide
  replace gx := gx.S hs
  replace gq_2 := gq_2.S hs
  replace gq_6 := gq_6.S hs
  obtain ⟨fa_22, dfa_22⟩ : ∃ g : Nat → Int32, g = hx_up pF0 (0 : Int32).toNatClampNeg r_18 := ⟨_, rfl⟩
  have nfa_22 : h_21.2.1 q_6 = fa_22 := ?o51
  case o51 =>
    rw [eh_21, dfa_22, ← npF0O]
    exact hx_pi_fun _ _ _ _
  refine lv_aload_n hx hb dX0_init_58 rfl (lv_at hl 0 rfl) ?_
  refine hk_getr hx hb hts hC_0 hown hW gx tt_116 3 ?o52 rfl kw_172 ⟨rfl, rfl, rfl⟩ f_8 dX0_init_59 ?_
  case o52 => decide
  refine lv_iconst (v := 1) hx hb dX0_init_62 ?o53 ?_
  case o53 => decide
  refine lv_iconst (v := 1) hx hb dX0_init_63 ?o54 ?_
  case o54 => decide
  refine lv_iconst (v := 2) hx hb dX0_init_64 ?o55 ?_
  case o55 => decide
  refine lv_iconst (v := 0) hx hb dX0_init_65 ?o56 ?_
  case o56 => decide
  refine lv_iconst (v := 0) hx hb dX0_init_66 ?o57 ?_
  case o57 => decide
  refine hx_goi (hx_runS (As := [.int (1 : Int32), .int (2 : Int32), .int (0 : Int32), .int (0 : Int32)]) (rest := [.int (1 : Int32), .ref q_6]) ⟨hx, hb, hml, hown, hts⟩ hW (t_X0_term_v l dC dI dA L_16 h_21 H.size (1 : Int32) (2 : Int32) (0 : Int32) (0 : Int32) hT ⟨?o58, ?o59⟩ ⟨?o60, ?o61⟩ ⟨?o62, ?o63⟩ ⟨?o64, ?o65⟩) (va_cwS 4 hts (hx_gS kw_161 kw_159 kw_160 kw_96) rfl rfl rfl (by decide +kernel) ⟨Nat.le_of_ble_eq_true rfl, Nat.le_of_ble_eq_true rfl⟩) rfl hl.1 rfl (Nat.le_of_ble_eq_true rfl) dX0_init_67 ⟨Nat.le_of_ble_eq_true rfl, Nat.le_of_ble_eq_true rfl⟩) hW (fun r_25 L_23 h_24 H locs p_26 hW => ?_)
  case o58 => omega
  case o59 => omega
  case o60 => omega
  case o61 => omega
  case o62 => omega
  case o63 => omega
  case o64 => omega
  case o65 => omega
  obtain ⟨hr_27, hT, hs⟩ := p_26
  replace hT : hx_T T_tb L_23 h_24 := hT
  replace hs : hx_S T_tb [] L_16 h_21 L_23 h_24 := hs
  replace f_4 := (hs.o gx trivial rfl).2.trans f_4
  replace f_8 := (hs.o gx trivial rfl).2.trans f_8
  replace f_10 := (hs.o gx trivial rfl).1.trans f_10
  replace f_12 := (hs.o gx trivial rfl).1.trans f_12
  replace hz := hx_zr [0, 1, 2, 3] hz hs gx trivial rfl
  replace nfw_15 : h_24.2.1 q_2 = fw_15 := (funext fun j => (hs.a gq_2 rfl j).1).trans nfw_15
  replace nfa_22 : h_24.2.1 q_6 = fa_22 := (funext fun j => (hs.a gq_6 rfl j).1).trans nfa_22
  replace hM := hM.tr (hs.mono ?o66)
  case o66 => decide
  replace gx := gx.S hs
  replace gq_2 := gq_2.S hs
  replace gq_6 := gq_6.S hs
  have nfa_22O := nfa_22
  refine hx_iast hx hb hW hT (hx_S.rf (M := [(12, 0)])) gq_6 tt_12 rfl ?o67 rfl (i32_r _) (List.mem_singleton.mpr rfl) dX0_init_70 (fun H locs h_28 eh_28 hW hT hs => ?_)
  case o67 => decide
  replace f_4 := (hs.o gx trivial rfl).2.trans f_4
  replace f_8 := (hs.o gx trivial rfl).2.trans f_8
  replace f_10 := (hs.o gx trivial rfl).1.trans f_10
  replace f_12 := (hs.o gx trivial rfl).1.trans f_12
  replace hz := hx_zr [0, 1, 2, 3] hz hs gx trivial rfl
  replace nfw_15 : h_28.2.1 q_2 = fw_15 := (funext fun j => (hs.a gq_2 rfl j).1).trans nfw_15
  replace hM := hM.tr (hs.mono ?o68)
  case o68 => decide
  replace gx := gx.S hs
  replace gq_2 := gq_2.S hs
  replace gq_6 := gq_6.S hs
  obtain ⟨fa_29, dfa_29⟩ : ∃ g : Nat → Int32, g = hx_up fa_22 (1 : Int32).toNatClampNeg r_25 := ⟨_, rfl⟩
  have nfa_29 : h_28.2.1 q_6 = fa_29 := ?o69
  case o69 =>
    rw [eh_28, dfa_29, ← nfa_22O]
    exact hx_pi_fun _ _ _ _
  refine lv_aload_n hx hb dX0_init_71 rfl (lv_at hl 0 rfl) ?_
  refine hk_getr hx hb hts hC_0 hown hW gx tt_116 3 ?o70 rfl kw_172 ⟨rfl, rfl, rfl⟩ f_8 dX0_init_72 ?_
  case o70 => decide
  refine lv_iconst (v := 2) hx hb dX0_init_75 ?o71 ?_
  case o71 => decide
  refine lv_iconst (v := -1) hx hb dX0_init_76 ?o72 ?_
  case o72 => decide
  have nfa_29O := nfa_29
  refine hx_iast hx hb hW hT (hx_S.rf (M := [(12, 0)])) gq_6 tt_12 rfl ?o73 rfl ?o74 (List.mem_singleton.mpr rfl) dX0_init_77 (fun H locs h_30 eh_30 hW hT hs => ?_)
  case o73 => decide
  case o74 => decide
  replace f_4 := (hs.o gx trivial rfl).2.trans f_4
  replace f_8 := (hs.o gx trivial rfl).2.trans f_8
  replace f_10 := (hs.o gx trivial rfl).1.trans f_10
  replace f_12 := (hs.o gx trivial rfl).1.trans f_12
  replace hz := hx_zr [0, 1, 2, 3] hz hs gx trivial rfl
  replace nfw_15 : h_30.2.1 q_2 = fw_15 := (funext fun j => (hs.a gq_2 rfl j).1).trans nfw_15
  replace hM := hM.tr (hs.mono ?o75)
  case o75 => decide
  replace gx := gx.S hs
  replace gq_2 := gq_2.S hs
  replace gq_6 := gq_6.S hs
  obtain ⟨fa_31, dfa_31⟩ : ∃ g : Nat → Int32, g = hx_up fa_29 (2 : Int32).toNatClampNeg (-1 : Int32) := ⟨_, rfl⟩
  have nfa_31 : h_30.2.1 q_6 = fa_31 := ?o76
  case o76 =>
    rw [eh_30, dfa_31, ← nfa_29O]
    exact hx_pi_fun _ _ _ _
  refine lv_aload_n hx hb dX0_init_78 rfl (lv_at hl 0 rfl) ?_
  refine lv_iconst (v := 3) hx hb dX0_init_79 ?o77 ?_
  case o77 => decide
  refine hx_puti hx hb hts hC_0 hown hW hT (hx_S.rf (M := [(116, 4)])) gx tt_116 4 ?o78 rfl kw_173 ⟨rfl, rfl, rfl⟩ rfl (x := (3 : Int32)) ?o79 rfl rfl rfl (List.mem_singleton.mpr rfl) dX0_init_80 (fun H locs h_32 eh_32 hW hT hs => ?_)
  case o78 => decide
  case o79 => decide
  replace f_4 := (hs.o gx trivial rfl).2.trans f_4
  replace f_8 := (hs.o gx trivial rfl).2.trans f_8
  replace f_10 := (hs.o gx trivial rfl).1.trans f_10
  replace f_12 := (hs.o gx trivial rfl).1.trans f_12
  replace hz := hx_zr [0, 1, 2, 3, 4] hz hs gx trivial rfl
  replace nfw_15 : h_32.2.1 q_2 = fw_15 := (funext fun j => (hs.a gq_2 rfl j).1).trans nfw_15
  replace nfa_31 : h_32.2.1 q_6 = fa_31 := (funext fun j => (hs.a gq_6 rfl j).1).trans nfa_31
  replace hM := hM.tr (hs.mono ?o80)
  case o80 => decide
  replace gx := gx.S hs
  replace gq_2 := gq_2.S hs
  replace gq_6 := gq_6.S hs
  have f_33 : h_32.2.1 x 4 = (3 : Int32) := ?o81
  case o81 =>
    rw [eh_32]
    exact hx_pi_at _ _ _ _
  have hF : hx_F (fun k f => hx_o L_23 h_32 f (h_32.2.1 x k) (h_32.2.2 x k)) T_f0 0 := ⟨hx_oi f_10 ⟨?o82, ?o83⟩, hx_oi f_12 ⟨?o84, ?o85⟩, hx_or f_4 gq_2 ?o86, hx_or f_8 gq_6 ?o87, hx_oi f_33 ?o88, trivial⟩
  case o82 => omega
  case o83 => omega
  case o84 => omega
  case o85 => omega
  case o86 => decide
  case o87 => decide
  case o88 => decide
  have hT := hx_T_rt hT gx tt_0 rfl (hx_F_all hF)
  have hW := hx_W_rt hW gx tt_116 tt_0 (fun _ _ => rfl)
  have hM := hx_SX_rt (x := x) (t := 0) hM
  have gq_2 := hx_rt_o (t := 0) gq_2 (gq_2.ne gx ?o89)
  case o89 => decide
  have gq_6 := hx_rt_o (t := 0) gq_6 (gq_6.ne gx ?o90)
  case o90 => decide
  have gx := hx_rt_g (t := 0) gx
  have f_4 : (hx_rt h_32 x 0).2.2 x 2 = some q_2 := f_4
  have f_8 : (hx_rt h_32 x 0).2.2 x 3 = some q_6 := f_8
  have f_10 : (hx_rt h_32 x 0).2.1 x 0 = i1 := f_10
  have f_12 : (hx_rt h_32 x 0).2.1 x 1 = i2 := f_12
  have f_33 : (hx_rt h_32 x 0).2.1 x 4 = (3 : Int32) := f_33
  have nfw_15 : (hx_rt h_32 x 0).2.1 q_2 = fw_15 := nfw_15
  have nfa_31 : (hx_rt h_32 x 0).2.1 q_6 = fa_31 := nfa_31
  generalize eh : hx_rt h_32 x 0 = h_34 at hT hW hM gx gq_2 gq_6 f_4 f_8 f_10 f_12 f_33 nfw_15 nfa_31
  refine W.widen (k := 2) (n := 174) (Nat.le_of_ble_eq_true rfl) (Nat.le_of_ble_eq_true rfl) ?_
  exact hx_retv hx hb hr hlk hW ⟨hT, hM, gx, f_10, f_12, f_33, ⟨q_2, f_4, gq_2, ⟨(fun j hj => by rw [nfw_15]; exact wfw_15 j hj), nq_q_2⟩⟩, ⟨q_6, f_8, gq_6, ⟨(by rw [nfa_31, dfa_31, dfa_29, dfa_22]; exact hv_pr0 (by omega) (by omega) (by decide)), nq_q_6⟩⟩⟩ dX0_init_83
end
section
/-! WHAT PROVES, GONE THROUGH: which tokens, how many, how high they pile up -/
def hv_vt (t : hv_tok) : Prop := (t.1 = 0 ∧ t.2.1 ≤ 2) ∨ (1 ≤ t.1 ∧ t.1 ≤ 8 ∧ t.2.1 ≤ 4 ∧ 0 ≤ t.2.2 ∧ t.2.2 ≤ 10007)
def hv_ct : List hv_tok → Nat
  | [] => 0
  | t :: o => if t.1 = 0 then hv_ct o else hv_ct o + 1
def hv_hg : List hv_tok → Option Nat
  | [] => some 0
  | t :: o => match hv_hg o with
    | none => none
    | some d => if t.1 = 0 then (if t.2.1 = 2 then (if 1 ≤ d then some d else none) else (if 2 ≤ d then some (d - 1) else none)) else some (d + 1)
def hv_V (o : List hv_tok) (t d : Nat) : Prop := (∀ x ∈ o, hv_vt x) ∧ hv_ct o ≤ t ∧ hv_hg o = some d
theorem hv_V_c {o : List hv_tok} {t d s : Nat} {a v : Int} (h : hv_V o t d) (h1 : 1 ≤ a) (h2 : a ≤ 8) (h3 : s ≤ 4) (h4 : 0 ≤ v) (h5 : v ≤ 10007) : hv_V ((a, s, v) :: o) (t + 1) (d + 1) := by
  obtain ⟨x, y, z⟩ := h
  have na : ¬ ((a, s, v) : hv_tok).1 = 0 := fun e => by have e' : a = 0 := e; omega
  refine ⟨fun q hq => ?_, ?_, ?_⟩
  · rcases List.mem_cons.mp hq with e | e
    · rw [e]; exact Or.inr ⟨h1, h2, h3, h4, h5⟩
    · exact x q e
  · show (if ((a, s, v) : hv_tok).1 = 0 then hv_ct o else hv_ct o + 1) ≤ t + 1
    rw [if_neg na]; omega
  · show (match hv_hg o with
      | none => none
      | some d => if ((a, s, v) : hv_tok).1 = 0 then (if ((a, s, v) : hv_tok).2.1 = 2 then (if 1 ≤ d then some d else none) else (if 2 ≤ d then some (d - 1) else none)) else some (d + 1)) = some (d + 1)
    rw [z]
    exact if_neg na
theorem hv_V_o {o : List hv_tok} {t d s e : Nat} (h : hv_V o t d) (hs : s ≤ 2) (h1 : (s = 2 ∧ 1 ≤ d ∧ e = d) ∨ (s ≤ 1 ∧ 2 ≤ d ∧ e = d - 1)) : hv_V ((0, s, 0) :: o) t e := by
  obtain ⟨x, y, z⟩ := h
  refine ⟨fun q hq => ?_, ?_, ?_⟩
  · rcases List.mem_cons.mp hq with w | w
    · rw [w]; exact Or.inl ⟨rfl, hs⟩
    · exact x q w
  · show (if ((0 : Int) = 0) then hv_ct o else hv_ct o + 1) ≤ t
    rw [if_pos rfl]; exact y
  · show (match hv_hg o with
      | none => none
      | some d => if (0 : Int) = 0 then (if s = 2 then (if 1 ≤ d then some d else none) else (if 2 ≤ d then some (d - 1) else none)) else some (d + 1)) = some e
    rw [z]
    show (if (0 : Int) = 0 then (if s = 2 then (if 1 ≤ d then some d else none) else (if 2 ≤ d then some (d - 1) else none)) else some (d + 1)) = some e
    rw [if_pos rfl]
    rcases h1 with ⟨a, b, c⟩ | ⟨a, b, c⟩
    · rw [if_pos a, if_pos b, c]
    · rw [if_neg (by omega), if_pos b, c]
theorem hv_V_j {o : List hv_tok} {t d s : Nat} {b : Bool} (h : hv_V o t (d + 1 + hv_w1 b)) (hs : s ≤ 1) : hv_V (hv_j b s o) t (d + 1) := by
  cases b with
  | false => exact h
  | true =>
    show hv_V ((0, s, 0) :: o) t (d + 1)
    exact hv_V_o h (by omega) (Or.inr ⟨hs, by have : hv_w1 true = 1 := rfl; omega, by have : hv_w1 true = 1 := rfl; omega⟩)
section HVVV
variable {T : Nat → Int32} {n : Nat}
theorem hv_dvb4 {u : Nat} (hn : u < n) (hd : hv_dg T u = true) (h4 : hv_de T n u - u ≤ 4) : 0 ≤ hv_dv T u (hv_de T n u - u) ∧ hv_dv T u (hv_de T n u - u) ≤ 9999 := by
  have hg := hv_de_gt (T := T) hn hd
  have hb := hv_dv_b (T := T) (p := u) (hv_de T n u - u) (fun j h1 h3 => by
    have h5 : j < hv_sn (hv_dg T) n u := by show j < hv_de T n u; omega
    exact hv_sn_in h1 h5)
  refine ⟨hb.1, ?_⟩
  have h1 : (10 : Int) ^ 1 = 10 := by decide
  have h2 : (10 : Int) ^ 2 = 100 := by decide
  have h3 : (10 : Int) ^ 3 = 1000 := by decide
  have h5 : (10 : Int) ^ 4 = 10000 := by decide
  rcases (show hv_de T n u - u = 1 ∨ hv_de T n u - u = 2 ∨ hv_de T n u - u = 3 ∨ hv_de T n u - u = 4 by omega) with e | e | e | e
  · rw [e] at hb ⊢; rw [h1] at hb; omega
  · rw [e] at hb ⊢; rw [h2] at hb; omega
  · rw [e] at hb ⊢; rw [h3] at hb; omega
  · rw [e] at hb ⊢; rw [h5] at hb; omega
theorem hv_term_v {p t d : Nat} {o : List hv_tok} {q : Nat × Nat × List hv_tok} (h : hv_term T n p t o = .inr q) (hV : hv_V o t d) : hv_V q.2.2 q.2.1 (d + 1) := by
  unfold hv_term at h
  split at h
  · next hw =>
    split at h
    · cases h
    · next ht =>
      unfold hv_lf at h
      split at h
      · cases h
      · next hz =>
        have hsg := hv_sg_b (T := T) (n := n) (hv_sk T n (hv_we T n p))
        unfold hv_rt at h
        split at h
        · next hv =>
          have h2 := Sum.inr.inj h
          subst h2
          exact hv_V_c hV (by omega) (by omega) hsg.2.2 (by omega) (by omega)
        · split at h
          · next hd =>
            have hl2 := hv_de_gt (T := T) hd.1 hd.2
            split at h
            · next h4 =>
              have h2 := Sum.inr.inj h
              subst h2
              have hb := hv_dvb4 (T := T) hd.1 hd.2 h4
              exact hv_V_c hV (by omega) (by omega) hsg.2.2 hb.1 (by have := hb.2; omega)
            · cases h
          · cases h
  · cases h
theorem hv_lp_v {one : Nat → Nat → List hv_tok → hv_R} (hone : ∀ p t o q d, one p t o = .inr q → hv_V o t d → hv_V q.2.2 q.2.1 (d + 1)) : ∀ (f : Nat) (a w : Bool) (p t d : Nat) (o : List hv_tok) (q : Nat × Nat × List hv_tok), hv_lp T n one f a w p t o = .inr q → hv_V o t (d + hv_w1 w + hv_w1 a) → hv_V q.2.2 q.2.1 (d + 1) := by
  intro f
  induction f with
  | zero => intro a w p t d o q h; cases h
  | succ f ih =>
    intro a w p t d o q h hV
    rw [hv_lp_s] at h
    obtain ⟨r, h1, h2⟩ := hv_bd_i h
    have g := hone _ _ _ _ _ h1 hV
    have wf : hv_w1 false = 0 := rfl
    have wt : hv_w1 true = 1 := rfl
    have g1 : hv_V (hv_j a 1 r.2.2) r.2.1 (d + hv_w1 w + 1) := hv_V_j (d := d + hv_w1 w) (by rw [show d + hv_w1 w + 1 + hv_w1 a = d + hv_w1 w + hv_w1 a + 1 by omega]; exact g) (by omega)
    split at h2
    · exact ih _ _ _ _ d _ _ h2 (by rw [wt]; exact g1)
    · have g2 : hv_V (hv_j w 0 (hv_j a 1 r.2.2)) r.2.1 (d + 1) := hv_V_j (d := d) (by rw [show d + 1 + hv_w1 w = d + hv_w1 w + 1 by omega]; exact g1) (by omega)
      split at h2
      · exact ih _ _ _ _ d _ _ h2 (by rw [wt, wf]; exact g2)
      · cases h2; exact g2
theorem hv_one_v : ∀ (D p t : Nat) (o : List hv_tok) (q : Nat × Nat × List hv_tok) (d : Nat), hv_one T n D p t o = .inr q → hv_V o t d → hv_V q.2.2 q.2.1 (d + 1) := by
  intro D
  induction D with
  | zero =>
    intro p t o q d h hV
    unfold hv_one at h
    split at h
    · cases h
    · split at h
      · cases h
      · exact hv_term_v h hV
  | succ D ih =>
    intro p t o q d h hV
    unfold hv_one at h
    split at h
    · obtain ⟨r, h1, h2⟩ := hv_bd_i h
      have g := ih _ _ _ _ _ h1 hV
      have h3 := Sum.inr.inj h2
      subst h3
      exact hv_V_o g (by omega) (Or.inl ⟨rfl, by omega, rfl⟩)
    · split at h
      · obtain ⟨r, h1, h2⟩ := hv_bd_i h
        have g := hv_lp_v ih _ _ _ _ _ d _ _ h1 hV
        unfold hv_par at h2
        split at h2
        · cases h2; exact g
        · cases h2
      · exact hv_term_v h hV
/-- what can be gone through -/
def hv_OK (o : List hv_tok) : Prop := ∃ t, t ≤ 20 ∧ hv_V o t 1
theorem hv_OK_0 : hv_OK hv_o0 := ⟨2, by omega, fun x hx => by
  have h : x = (0, 1, 0) ∨ x = (2, 2, 0) ∨ x = (1, 2, 1) := by simpa [hv_o0] using hx
  rcases h with e | e | e <;> rw [e]
  · exact Or.inl ⟨rfl, by decide⟩
  · exact Or.inr ⟨by decide, by decide, by decide, by decide, by decide⟩
  · exact Or.inr ⟨by decide, by decide, by decide, by decide, by decide⟩, by decide, by decide⟩
theorem hv_cl_v {p : Nat} {sn : Nat → Bool} {rd : Nat → Int} {o : List hv_tok} {q : hv_st} (h : hv_cl T n p sn rd o = .inr q) (hV : hv_OK o) : hv_OK q.2.2.2 := by
  unfold hv_cl at h
  split at h
  · split at h
    · split at h
      · cases h
      · obtain ⟨r, h1, h2⟩ := hv_bd_i h
        have h3 := Sum.inr.inj h2
        subst h3
        have g := hv_lp_v (hv_one_v 8) _ _ _ _ _ 0 _ _ h1 ⟨(fun x hx => nomatch hx), Nat.le_refl _, rfl⟩
        have b := hv_LE_b h1
        exact ⟨_, by have := b.2.2.2.1; omega, g⟩
    · split at h
      · unfold hv_co at h
        split at h
        · split at h
          · cases h
          · obtain ⟨r, h1, h2⟩ := hv_bd_i h
            have h3 := Sum.inr.inj h2
            subst h3; exact hV
        · cases h
      · unfold hv_ck at h
        split at h
        · cases h
        · obtain ⟨r, h1, h2⟩ := hv_bd_i h
          split at h2
          · obtain ⟨r', h1', h2'⟩ := hv_bd_i h2
            have h3 := Sum.inr.inj h2'
            subst h3; exact hV
          · have h3 := Sum.inr.inj h2
            subst h3; exact hV
  · cases h
theorem hv_al_v : ∀ (f : Nat) (s q : hv_st), hv_al T n f s = .inr q → hv_OK s.2.2.2 → hv_OK q.2.2.2
  | 0, s, q, h, _ => by cases h
  | f + 1, s, q, h, hV => by
    rw [hv_al_s] at h
    obtain ⟨r, h1, h2⟩ := hv_bd_i h
    have g := hv_cl_v h1 hV
    split at h2
    · split at h2
      · exact hv_al_v f _ _ h2 g
      · cases h2
    · have h3 := Sum.inr.inj h2
      subst h3; exact g
theorem hv_ACT_v {rd : Nat → Int} {q : hv_st} (h : hv_ACT T n rd hv_o0 = .inr q) : hv_OK q.2.2.2 := by
  unfold hv_ACT at h
  split at h
  · exact hv_al_v _ _ _ h hv_OK_0
  · have h3 := Sum.inr.inj h
    subst h3; exact hv_OK_0
end HVVV
end
section
/-! WHAT PROVES, GONE THROUGH: what is so -/
def hv_hd (F : Nat → Int) (t : hv_tok) : Bool := match t.2.1 with
  | 0 => decide (F (t.1 - 1).toNat < (if 10000 ≤ t.2.2 then F (t.2.2 - 10000).toNat else t.2.2))
  | 1 => decide (F (t.1 - 1).toNat ≤ (if 10000 ≤ t.2.2 then F (t.2.2 - 10000).toNat else t.2.2))
  | 2 => decide (F (t.1 - 1).toNat = (if 10000 ≤ t.2.2 then F (t.2.2 - 10000).toNat else t.2.2))
  | 3 => decide ((if 10000 ≤ t.2.2 then F (t.2.2 - 10000).toNat else t.2.2) ≤ F (t.1 - 1).toNat)
  | _ => decide ((if 10000 ≤ t.2.2 then F (t.2.2 - 10000).toNat else t.2.2) < F (t.1 - 1).toNat)
def hv_so : Nat → List Bool → List Bool
  | 2, b :: s => (!b) :: s
  | 1, a :: b :: s => (b && a) :: s
  | 0, a :: b :: s => (b || a) :: s
  | _, s => s
theorem hv_so_2 : ∀ (s : List Bool), 1 ≤ s.length → (hv_so 2 s).length = s.length
  | [], h => by have h' : 1 ≤ 0 := h; omega
  | _ :: _, _ => rfl
theorem hv_so_1 : ∀ (s : List Bool), 2 ≤ s.length → (hv_so 1 s).length = s.length - 1
  | [], h => by have h' : 2 ≤ 0 := h; omega
  | [_], h => by have h' : 2 ≤ 1 := h; omega
  | _ :: _ :: _, _ => rfl
theorem hv_so_0 : ∀ (s : List Bool), 2 ≤ s.length → (hv_so 0 s).length = s.length - 1
  | [], h => by have h' : 2 ≤ 0 := h; omega
  | [_], h => by have h' : 2 ≤ 1 := h; omega
  | _ :: _ :: _, _ => rfl
def hv_sp (F : Nat → Int) (t : hv_tok) (s : List Bool) : List Bool := if t.1 = 0 then hv_so t.2.1 s else hv_hd F t :: s
def hv_ev (F : Nat → Int) : List hv_tok → List Bool
  | [] => []
  | t :: o => hv_sp F t (hv_ev F o)
def hv_hs (t : hv_tok) (d : Nat) : Option Nat := if t.1 = 0 then (if t.2.1 = 2 then (if 1 ≤ d then some d else none) else (if 2 ≤ d then some (d - 1) else none)) else some (d + 1)
theorem hv_hg_s {t : hv_tok} {o : List hv_tok} {d : Nat} (h : hv_hg (t :: o) = some d) : ∃ d0, hv_hg o = some d0 ∧ hv_hs t d0 = some d := by
  have h' : (match hv_hg o with
    | none => none
    | some d => hv_hs t d) = some d := h
  cases hg : hv_hg o with
  | none => rw [hg] at h'; exact nomatch h'
  | some d0 => rw [hg] at h'; exact ⟨d0, rfl, h'⟩
theorem hv_sp_l {F : Nat → Int} {t : hv_tok} {s : List Bool} {d : Nat} (hv : hv_vt t) (h : hv_hs t s.length = some d) : (hv_sp F t s).length = d := by
  unfold hv_hs at h
  unfold hv_sp
  by_cases z : t.1 = 0
  · rw [if_pos z] at h ⊢
    have h22 : t.2.1 ≤ 2 := by
      rcases hv with ⟨_, a⟩ | ⟨a, _⟩
      · exact a
      · exfalso; omega
    rcases (show t.2.1 = 0 ∨ t.2.1 = 1 ∨ t.2.1 = 2 by omega) with e | e | e
    · rw [e] at h ⊢
      rw [if_neg (by decide)] at h
      by_cases y : 2 ≤ s.length
      · rw [if_pos y] at h; rw [hv_so_0 s y]; exact Option.some.inj h
      · rw [if_neg y] at h; exact nomatch h
    · rw [e] at h ⊢
      rw [if_neg (by decide)] at h
      by_cases y : 2 ≤ s.length
      · rw [if_pos y] at h; rw [hv_so_1 s y]; exact Option.some.inj h
      · rw [if_neg y] at h; exact nomatch h
    · rw [e] at h ⊢
      rw [if_pos rfl] at h
      by_cases y : 1 ≤ s.length
      · rw [if_pos y] at h; rw [hv_so_2 s y]; exact Option.some.inj h
      · rw [if_neg y] at h; exact nomatch h
  · rw [if_neg z] at h ⊢
    exact Option.some.inj h
theorem hv_ev_l {F : Nat → Int} : ∀ (o : List hv_tok) (d : Nat), (∀ x ∈ o, hv_vt x) → hv_hg o = some d → (hv_ev F o).length = d
  | [], d, _, h => Option.some.inj h
  | t :: o, d, hv, h => by
    obtain ⟨d0, h1, h2⟩ := hv_hg_s h
    have ih := hv_ev_l (F := F) o d0 (fun x hx => hv x (List.mem_cons_of_mem t hx)) h1
    exact hv_sp_l (hv t (List.mem_cons_self ..)) (by rw [ih]; exact h2)
theorem hv_hg_ct : ∀ (o : List hv_tok) (d : Nat), hv_hg o = some d → d ≤ hv_ct o
  | [], d, h => by have h' : 0 = d := Option.some.inj h; rw [← h']; exact Nat.le_refl _
  | t :: o, d, h => by
    obtain ⟨d0, h1, h2⟩ := hv_hg_s h
    have ih := hv_hg_ct o d0 h1
    unfold hv_hs at h2
    show d ≤ (if t.1 = 0 then hv_ct o else hv_ct o + 1)
    by_cases z : t.1 = 0
    · rw [if_pos z] at h2 ⊢
      by_cases y : t.2.1 = 2
      · rw [if_pos y] at h2
        by_cases x : 1 ≤ d0
        · rw [if_pos x] at h2; have := Option.some.inj h2; omega
        · rw [if_neg x] at h2; exact nomatch h2
      · rw [if_neg y] at h2
        by_cases x : 2 ≤ d0
        · rw [if_pos x] at h2; have := Option.some.inj h2; omega
        · rw [if_neg x] at h2; exact nomatch h2
    · rw [if_neg z] at h2 ⊢
      have := Option.some.inj h2; omega
theorem hv_ct_t {t : hv_tok} {o : List hv_tok} : hv_ct o ≤ hv_ct (t :: o) := by
  show hv_ct o ≤ (if t.1 = 0 then hv_ct o else hv_ct o + 1)
  split <;> omega
theorem hv_V_d : ∀ (k : Nat) (o : List hv_tok) (t d : Nat), hv_V o t d → ∃ d0, hv_V (o.drop k) t d0
  | 0, o, t, d, h => ⟨d, h⟩
  | k + 1, [], t, d, h => ⟨d, h⟩
  | k + 1, x :: o, t, d, h => by
    obtain ⟨d0, h0, _⟩ := hv_hg_s h.2.2
    exact hv_V_d k o t d0 ⟨fun y hy => h.1 y (List.mem_cons_of_mem _ hy), Nat.le_trans hv_ct_t h.2.1, h0⟩
theorem hv_drop_s {e : hv_tok → Int} {f : Nat → Int32} {o : List hv_tok} : ∀ (n k : Nat), hv_ls f n = o.map e → k < n → ∃ t, o.drop (n - (k + 1)) = t :: o.drop (n - k) ∧ (f k).toInt = e t ∧ t ∈ o := by
  intro n
  induction n generalizing o with
  | zero => intro k _ h; exfalso; omega
  | succ n ih =>
    intro k h hk
    match o, h with
    | [], h => exact absurd (congrArg List.length h) (by rw [hv_ls_len]; simp)
    | x :: o, h =>
      have h' : (f n).toInt :: hv_ls f n = e x :: o.map e := h
      have h1 := (List.cons.inj h').1
      have h2 := (List.cons.inj h').2
      by_cases z : k = n
      · subst z
        refine ⟨x, ?_, h1, List.mem_cons_self ..⟩
        rw [show k + 1 - (k + 1) = 0 by omega, show k + 1 - k = 0 + 1 by omega]; rfl
      · obtain ⟨t, a, b, c⟩ := ih k h2 (by omega)
        refine ⟨t, ?_, b, List.mem_cons_of_mem _ c⟩
        rw [show n + 1 - (k + 1) = (n - (k + 1)) + 1 by omega, show n + 1 - k = (n - k) + 1 by omega]
        exact a
/-- the pile, as the class has it: a bit each -/
def hv_bt (x : Int32) (s : List Bool) : Prop := ∀ i, i < s.length → x.toBitVec.getLsbD i = s.getD i false
theorem hv_bt_0 {x : Int32} : hv_bt x [] := fun i hi => absurd hi (Nat.not_lt_zero i)
theorem hv_b1 {x y : Int32} (e : y = x &&& 1) : (y.toInt = 1 ∧ x.toBitVec.getLsbD 0 = true) ∨ (y.toInt = 0 ∧ x.toBitVec.getLsbD 0 = false) := by
  have hc : y.toBitVec = BitVec.setWidth 32 (BitVec.ofBool (x.toBitVec.getLsbD 0)) := by
    have h3 : y.toBitVec = x.toBitVec &&& 1#32 := by rw [e]; rfl
    rw [h3, BitVec.and_one_eq_setWidth_ofBool_getLsbD]
  have hv : y.toInt = y.toBitVec.toInt := rfl
  rw [hv, hc]
  cases x.toBitVec.getLsbD 0 with
  | true => exact Or.inl ⟨by decide, rfl⟩
  | false => exact Or.inr ⟨by decide, rfl⟩
theorem hv_sr1 {x y : Int32} (e : y = x >>> ((1 : Int32) &&& 31)) (i : Nat) (hi : i + 1 < 32) : y.toBitVec.getLsbD i = x.toBitVec.getLsbD (i + 1) := by
  have h : y.toBitVec = x.toBitVec.sshiftRight 1 := by rw [e]; rfl
  rw [h, BitVec.getLsbD_sshiftRight, if_pos (by omega), Nat.add_comm 1 i, decide_eq_false (show ¬ 32 ≤ i by omega)]; rfl
theorem hv_sr2 {x y : Int32} (e : y = x >>> ((2 : Int32) &&& 31)) (i : Nat) (hi : i + 2 < 32) : y.toBitVec.getLsbD i = x.toBitVec.getLsbD (i + 2) := by
  have h : y.toBitVec = x.toBitVec.sshiftRight 2 := by rw [e]; rfl
  rw [h, BitVec.getLsbD_sshiftRight, if_pos (by omega), Nat.add_comm 2 i, decide_eq_false (show ¬ 32 ≤ i by omega)]; rfl
theorem hv_sl1 {x y : Int32} (e : y = x <<< ((1 : Int32) &&& 31)) : y.toBitVec.getLsbD 0 = false ∧ ∀ i, i + 1 < 32 → y.toBitVec.getLsbD (i + 1) = x.toBitVec.getLsbD i := by
  have h : y.toBitVec = x.toBitVec <<< 1 := by rw [e]; rfl
  rw [h]
  refine ⟨by rw [BitVec.getLsbD_shiftLeft]; simp, fun i hi => ?_⟩
  rw [BitVec.getLsbD_shiftLeft, decide_eq_true hi, decide_eq_false (show ¬ (i + 1 < 1) by omega), Nat.add_sub_cancel]
  simp
theorem hv_bor {x y z : Int32} (e : z = x ||| y) (i : Nat) : z.toBitVec.getLsbD i = (x.toBitVec.getLsbD i || y.toBitVec.getLsbD i) := by
  have h : z.toBitVec = x.toBitVec ||| y.toBitVec := by rw [e]; rfl
  rw [h, BitVec.getLsbD_or]
theorem hv_bxor {x y z : Int32} (e : z = x ^^^ y) (i : Nat) : z.toBitVec.getLsbD i = (x.toBitVec.getLsbD i ^^ y.toBitVec.getLsbD i) := by
  have h : z.toBitVec = x.toBitVec ^^^ y.toBitVec := by rw [e]; rfl
  rw [h, BitVec.getLsbD_xor]
theorem hv_01 : ∀ i : Nat, (1 : Int32).toBitVec.getLsbD (i + 1) = false := fun i => by
  show (1#32).getLsbD (i + 1) = false
  rw [BitVec.getLsbD_one]; simp
/-- a bit and nothing else -/
theorem hv_b01 {y : Int32} (h : y.toInt = 0 ∨ y.toInt = 1) (i : Nat) : y.toBitVec.getLsbD (i + 1) = false ∧ (y.toBitVec.getLsbD 0 = decide (y.toInt = 1)) := by
  rcases h with e | e
  · obtain rfl : y = 0 := Int32.toInt_inj.mp (e.trans (by decide))
    exact ⟨by show (0#32).getLsbD (i + 1) = false; simp, by decide⟩
  · obtain rfl : y = 1 := Int32.toInt_inj.mp (e.trans (by decide))
    exact ⟨hv_01 i, by decide⟩
theorem hv_bt_not {x x1 : Int32} {b : Bool} {s : List Bool} (h : hv_bt x (b :: s)) (e : x1 = x ^^^ 1) : hv_bt x1 ((!b) :: s) := fun i hi => by
  rw [hv_bxor e]
  match i, hi with
  | 0, _ =>
    have h0 := h 0 (by simp)
    rw [h0]
    show (b ^^ (1 : Int32).toBitVec.getLsbD 0) = !b
    rw [show (1 : Int32).toBitVec.getLsbD 0 = true from by decide]; simp
  | i + 1, hi =>
    have h0 := h (i + 1) (by simpa using hi)
    rw [h0, hv_01 i]
    show ((s.getD i false) ^^ false) = s.getD i false
    simp
theorem hv_bt_push {x y z v : Int32} {s : List Bool} (h : hv_bt x s) (hs : s.length ≤ 30) (e : y = x <<< ((1 : Int32) &&& 31)) (e2 : z = y ||| v) (hv : v.toInt = 0 ∨ v.toInt = 1) : hv_bt z (decide (v.toInt = 1) :: s) := fun i hi => by
  rw [hv_bor e2]
  have hl := hv_sl1 e
  match i, hi with
  | 0, _ =>
    rw [hl.1, (hv_b01 hv 0).2]; rfl
  | i + 1, hi =>
    have hi' : i < s.length := by simpa using hi
    rw [hl.2 i (by omega), (hv_b01 hv i).1, h i hi', Bool.or_false]; rfl
theorem hv_bt_two {x y z w v : Int32} {a b c : Bool} {s : List Bool} (h : hv_bt x (a :: b :: s)) (hs : s.length ≤ 28) (e : y = x >>> ((2 : Int32) &&& 31)) (e2 : z = y <<< ((1 : Int32) &&& 31)) (e3 : w = z ||| v) (hv : v.toInt = 0 ∨ v.toInt = 1) (hc : c = decide (v.toInt = 1)) : hv_bt w (c :: s) := by
  have h2 : hv_bt y s := fun i hi => by
    rw [hv_sr2 e i (by omega), h (i + 2) (by simp; omega)]; rfl
  rw [hc]
  exact hv_bt_push h2 (by omega) e2 e3 hv
end
section
/-! A COMPARISON, AS THE CLASS HAS IT -/
theorem hv_mskN {x y : Int32} (k : Nat) (hk : k < 32) (m : Int32) (hm : m.toBitVec.toNat = 2 ^ k - 1) (h : 0 ≤ x.toInt) (e : y = x &&& m) : y.toInt = x.toInt % (2 ^ k : Nat) := by
  have hx := hv_i32n h
  have h3 : y.toBitVec.toNat = x.toBitVec.toNat % 2 ^ k := by
    have h4 : y.toBitVec = x.toBitVec &&& m.toBitVec := by rw [e]; rfl
    rw [h4, BitVec.toNat_and, hm, Nat.and_two_pow_sub_one_eq_mod]
  have hl : x.toBitVec.toNat % 2 ^ k ≤ x.toBitVec.toNat := Nat.mod_le _ _
  have hy : y.toInt = (y.toBitVec.toNat : Int) := by
    show y.toBitVec.toInt = _
    rw [BitVec.toInt_eq_toNat_of_lt (by omega)]
  rw [hy, h3, hx.1]
  exact Int.natCast_emod _ _
theorem hv_and7 {x y : Int32} (h : 0 ≤ x.toInt) (e : y = x &&& 7) : y.toInt = x.toInt % 8 := hv_mskN 3 (by decide) 7 (by decide) h e
theorem hv_and1 {x y : Int32} (h : 0 ≤ x.toInt) (e : y = x &&& 1) : y.toInt = x.toInt % 2 := hv_mskN 1 (by decide) 1 (by decide) h e
theorem hv_shrN {x y : Int32} (k : Nat) (s : Int32) (hs : (s.toBitVec.smod 32).toNat = k) (h : 0 ≤ x.toInt) (e : y = x >>> s) : y.toInt = x.toInt / (2 ^ k : Nat) := by
  have hx := hv_i32n h
  have h4 : y.toBitVec = x.toBitVec.sshiftRight k := by
    rw [e, ← hs]; rfl
  have hy : y.toInt = y.toBitVec.toInt := rfl
  rw [hy, h4, BitVec.toInt_sshiftRight, Int.shiftRight_eq_div_pow]
  rfl
end
section
/-! A COMPARISON, AS THE CLASS HAS IT: what its parts are -/
theorem hv_bitN {z y : Int32} (k : Nat) (hk : k < 31) (m : Int32) (hm : m.toBitVec = BitVec.twoPow 32 k) (h2 : (BitVec.twoPow 32 k).toInt ≠ 0) (h : 0 ≤ z.toInt) (e : y = z &&& m) : y.toInt ≠ 0 ↔ z.toInt / ((2 ^ k : Nat) : Int) % 2 = 1 := by
  have hz := hv_i32n h
  have h4 : y.toBitVec = z.toBitVec &&& BitVec.twoPow 32 k := by rw [e, ← hm]; rfl
  have hy : y.toInt = y.toBitVec.toInt := rfl
  have hb : z.toBitVec.getLsbD k = decide (z.toBitVec.toNat / 2 ^ k % 2 = 1) := Nat.testBit_eq_decide_div_mod_eq
  have hc : z.toInt / ((2 ^ k : Nat) : Int) % 2 = ((z.toBitVec.toNat / 2 ^ k % 2 : Nat) : Int) := by rw [hz.1]; rfl
  rw [hc, hy, h4, BitVec.and_twoPow, hb]
  by_cases w : z.toBitVec.toNat / 2 ^ k % 2 = 1
  · rw [if_pos (decide_eq_true w), w]
    exact ⟨fun _ => rfl, fun _ => h2⟩
  · rw [if_neg (fun q => w (of_decide_eq_true q))]
    exact ⟨fun q => absurd (by decide) q, fun q => absurd (by omega) w⟩
theorem hv_cc_d {t : hv_tok} (hv : hv_vt t) (h1 : 1 ≤ t.1) : 0 ≤ hv_cc t ∧ hv_cc t % 8 = t.1 - 1 ∧ hv_cc t / 8 % 8 = hv_scd (t.2.1, 1) ∧ (10000 ≤ t.2.2 → hv_cc t / 64 % 2 = 1 ∧ hv_cc t / 128 = t.2.2 - 10000) ∧ (t.2.2 < 10000 → hv_cc t / 64 % 2 = 0 ∧ hv_cc t / 128 = t.2.2) := by
  have hs := hv_scd_b (g := (t.2.1, 1))
  rcases hv with ⟨a, _⟩ | ⟨a, b, c, d, e⟩
  · exfalso; omega
  · unfold hv_cc
    rw [if_neg (by omega)]
    by_cases z : 10000 ≤ t.2.2
    · rw [if_pos z]
      refine ⟨by omega, by omega, by omega, fun _ => by omega, fun _ => by omega⟩
    · rw [if_neg z]
      refine ⟨by omega, by omega, by omega, fun _ => by omega, fun _ => by omega⟩
theorem hv_hd_c {F : Nat → Int} {t : hv_tok} {l r s : Int} (hv : hv_vt t) (h1 : 1 ≤ t.1) (hl : l = F (t.1 - 1).toNat) (hr : r = (if 10000 ≤ t.2.2 then F (t.2.2 - 10000).toNat else t.2.2)) (hs : s = hv_scd (t.2.1, 1)) : ((l < r ∧ s % 2 = 1) ∨ (l = r ∧ s / 2 % 2 = 1) ∨ (r < l ∧ s / 4 % 2 = 1)) ↔ hv_hd F t = true := by
  obtain ⟨a, g, v⟩ := t
  have hg : g ≤ 4 := by
    rcases hv with ⟨_, b⟩ | ⟨_, _, c, _⟩
    · have b' : g ≤ 2 := b; omega
    · exact c
  have hl' : F (a - 1).toNat = l := hl.symm
  have hr' : (if 10000 ≤ v then F (v - 10000).toNat else v) = r := hr.symm
  rcases (show g = 0 ∨ g = 1 ∨ g = 2 ∨ g = 3 ∨ g = 4 by omega) with e | e | e | e | e <;> subst e
  · have hs' : s = 1 := hs
    show _ ↔ decide (F (a - 1).toNat < (if 10000 ≤ v then F (v - 10000).toNat else v)) = true
    rw [hl', hr', decide_eq_true_iff]; omega
  · have hs' : s = 3 := hs
    show _ ↔ decide (F (a - 1).toNat ≤ (if 10000 ≤ v then F (v - 10000).toNat else v)) = true
    rw [hl', hr', decide_eq_true_iff]; omega
  · have hs' : s = 2 := hs
    show _ ↔ decide (F (a - 1).toNat = (if 10000 ≤ v then F (v - 10000).toNat else v)) = true
    rw [hl', hr', decide_eq_true_iff]; omega
  · have hs' : s = 6 := hs
    show _ ↔ decide ((if 10000 ≤ v then F (v - 10000).toNat else v) ≤ F (a - 1).toNat) = true
    rw [hl', hr', decide_eq_true_iff]; omega
  · have hs' : s = 4 := hs
    show _ ↔ decide ((if 10000 ≤ v then F (v - 10000).toNat else v) < F (a - 1).toNat) = true
    rw [hl', hr', decide_eq_true_iff]; omega
end
section
/-! A COMPARISON AND THE PILE, AS THE REFERENCE HAS THEM -/
theorem hv_rc_d {t : hv_tok} (hv : hv_vt t) (h1 : 1 ≤ t.1) : 1000000 ≤ hv_rc t ∧ hv_rc t / 1000000 = t.1 ∧ hv_rc t % 100000 = t.2.2 ∧ hv_rc t / 100000 % 10 = (t.2.1 : Int) := by
  rcases hv with ⟨a, _⟩ | ⟨a, b, c, d, e⟩
  · exfalso; omega
  · unfold hv_rc
    rw [if_neg (by omega)]
    omega
theorem hv_rc_o {t : hv_tok} (hv : hv_vt t) (h1 : t.1 = 0) : hv_rc t = (t.2.1 : Int) ∧ t.2.1 ≤ 2 := by
  rcases hv with ⟨a, b⟩ | ⟨a, b, c, d, e⟩
  · exact ⟨if_pos h1, b⟩
  · exfalso; omega
theorem hv_rc_k {t : hv_tok} (hv : hv_vt t) : (1000000 ≤ hv_rc t ∧ 1 ≤ t.1) ∨ (hv_rc t ≤ 2 ∧ t.1 = 0) := by
  rcases (show t.1 = 0 ∨ 1 ≤ t.1 by rcases hv with ⟨a, _⟩ | ⟨a, _⟩ <;> omega) with z | z
  · have := hv_rc_o hv z; exact Or.inr ⟨by omega, z⟩
  · exact Or.inl ⟨(hv_rc_d hv z).1, z⟩
theorem hv_cc_k {t : hv_tok} (hv : hv_vt t) : (0 ≤ hv_cc t ∧ 1 ≤ t.1) ∨ (t.1 = 0 ∧ ((t.2.1 = 0 ∧ hv_cc t = -2) ∨ (t.2.1 = 1 ∧ hv_cc t = -1) ∨ (t.2.1 = 2 ∧ hv_cc t = -3))) := by
  rcases (show (t.1 = 0 ∧ t.2.1 ≤ 2) ∨ 1 ≤ t.1 by rcases hv with ⟨a, b⟩ | ⟨a, _⟩ <;> omega) with z | z
  · refine Or.inr ⟨z.1, ?_⟩
    unfold hv_cc
    rw [if_pos z.1]
    rcases (show t.2.1 = 0 ∨ t.2.1 = 1 ∨ t.2.1 = 2 by omega) with e | e | e
    · rw [e]; exact Or.inl ⟨rfl, rfl⟩
    · rw [e]; exact Or.inr (Or.inl ⟨rfl, rfl⟩)
    · rw [e]; exact Or.inr (Or.inr ⟨rfl, rfl⟩)
  · exact Or.inl ⟨(hv_cc_d hv z).1, z⟩
def hv_bi (b : Bool) : Int := if b = true then 1 else 0
def hv_BS (f : Nat → Int32) (n : Nat) (s : List Bool) : Prop := hv_ls f n = s.map hv_bi
theorem hv_BS_0 {f : Nat → Int32} : hv_BS f 0 [] := rfl
theorem hv_BS_l {f : Nat → Int32} {n : Nat} {s : List Bool} (h : hv_BS f n s) : s.length = n := by
  have := congrArg List.length h
  rw [hv_ls_len, List.length_map] at this
  exact this.symm
theorem hv_BS_r {f : Nat → Int32} {n : Nat} {a : Bool} {s : List Bool} (h : hv_BS f (n + 1) (a :: s)) : (f n).toInt = hv_bi a ∧ hv_BS f n s := List.cons.inj h
theorem hv_BS_w {f f1 : Nat → Int32} {n : Nat} {c : Bool} {s : List Bool} {v : Int32} (h : hv_BS f n s) (e : f1 = hx_up f n v) (hv : v.toInt = hv_bi c) : hv_BS f1 (n + 1) (c :: s) := by
  show (f1 n).toInt :: hv_ls f1 n = hv_bi c :: s.map hv_bi
  rw [e, hx_up_at, hv, hv_ls_c (g := f) n (fun j hj => hx_up_ne (by omega))]
  exact congrArg _ h
theorem hv_hd_m {F : Nat → Int} {t : hv_tok} {l r : Int} (hl : l = F (t.1 - 1).toNat) (hr : r = (if 10000 ≤ t.2.2 then F (t.2.2 - 10000).toNat else t.2.2)) : (t.2.1 = 0 → (hv_hd F t = true ↔ l < r)) ∧ (t.2.1 = 1 → (hv_hd F t = true ↔ l ≤ r)) ∧ (t.2.1 = 2 → (hv_hd F t = true ↔ l = r)) ∧ (t.2.1 = 3 → (hv_hd F t = true ↔ r ≤ l)) ∧ (t.2.1 = 4 → (hv_hd F t = true ↔ r < l)) := by
  obtain ⟨a, g, v⟩ := t
  have hl' : F (a - 1).toNat = l := hl.symm
  have hr' : (if 10000 ≤ v then F (v - 10000).toNat else v) = r := hr.symm
  refine ⟨fun e => ?_, fun e => ?_, fun e => ?_, fun e => ?_, fun e => ?_⟩
  · have e' : g = 0 := e
    subst e'
    show decide (F (a - 1).toNat < (if 10000 ≤ v then F (v - 10000).toNat else v)) = true ↔ _
    rw [hl', hr', decide_eq_true_iff]
  · have e' : g = 1 := e
    subst e'
    show decide (F (a - 1).toNat ≤ (if 10000 ≤ v then F (v - 10000).toNat else v)) = true ↔ _
    rw [hl', hr', decide_eq_true_iff]
  · have e' : g = 2 := e
    subst e'
    show decide (F (a - 1).toNat = (if 10000 ≤ v then F (v - 10000).toNat else v)) = true ↔ _
    rw [hl', hr', decide_eq_true_iff]
  · have e' : g = 3 := e
    subst e'
    show decide ((if 10000 ≤ v then F (v - 10000).toNat else v) ≤ F (a - 1).toNat) = true ↔ _
    rw [hl', hr', decide_eq_true_iff]
  · have e' : g = 4 := e
    subst e'
    show decide ((if 10000 ≤ v then F (v - 10000).toNat else v) < F (a - 1).toNat) = true ↔ _
    rw [hl', hr', decide_eq_true_iff]
end
section
/-! WHAT IS SO, STEP BY STEP -/
def hv_pr (F : Nat → Int) (o : List hv_tok) : Bool := (hv_ev F o).getD 0 false
theorem hv_bitA {z y : Int32} (h : 0 ≤ z.toInt) (e : y = z &&& 1) : y.toInt ≠ 0 ↔ z.toInt % 2 = 1 := by
  have := hv_bitN 0 (by decide) 1 (by decide) (by decide) h e
  rw [this]
  show z.toInt / 1 % 2 = 1 ↔ _
  rw [Int.ediv_one]
theorem hv_bitB {z y : Int32} (h : 0 ≤ z.toInt) (e : y = z &&& 2) : y.toInt ≠ 0 ↔ z.toInt / 2 % 2 = 1 := hv_bitN 1 (by decide) 2 (by decide) (by decide) h e
theorem hv_bitC {z y : Int32} (h : 0 ≤ z.toInt) (e : y = z &&& 4) : y.toInt ≠ 0 ↔ z.toInt / 4 % 2 = 1 := hv_bitN 2 (by decide) 4 (by decide) (by decide) h e
theorem hv_shr3 {x y : Int32} (h : 0 ≤ x.toInt) (e : y = x >>> ((3 : Int32) &&& 31)) : y.toInt = x.toInt / 8 := hv_shrN 3 _ (by decide) h e
theorem hv_shr6 {x y : Int32} (h : 0 ≤ x.toInt) (e : y = x >>> ((6 : Int32) &&& 31)) : y.toInt = x.toInt / 64 := hv_shrN 6 _ (by decide) h e
theorem hv_shr7 {x y : Int32} (h : 0 ≤ x.toInt) (e : y = x >>> ((7 : Int32) &&& 31)) : y.toInt = x.toInt / 128 := hv_shrN 7 _ (by decide) h e
def hv_F0 (f : Nat → Int32) (b : Nat) : Nat → Int := fun k => (f (k + b)).toInt
/-- the token that is gone through, and what it needs -/
theorem hv_pg {F : Nat → Int} {e : hv_tok → Int} {f : Nat → Int32} {o : List hv_tok} {n k : Int} {v : Int32} {ix : Nat} (hls : hv_ls f n.toNat = o.map e) (hO : hv_OK o) (h0 : 0 ≤ k) (hk : k < n) (ei : (ix : Int) = k) (ev : v = f ix) : ∃ (t : hv_tok) (s : List Bool), s = hv_ev F (o.drop (n - k).toNat) ∧ hv_vt t ∧ v.toInt = e t ∧ hv_ev F (o.drop (n - (k + 1)).toNat) = hv_sp F t s ∧ s.length ≤ 20 ∧ (t.1 = 0 → (t.2.1 = 2 ∧ 1 ≤ s.length) ∨ (t.2.1 ≤ 1 ∧ 2 ≤ s.length)) := by
  obtain ⟨t, h1, h2, h3⟩ := hv_drop_s n.toNat ix hls (by omega)
  rw [show n.toNat - (ix + 1) = (n - (k + 1)).toNat by omega, show n.toNat - ix = (n - k).toNat by omega] at h1
  obtain ⟨tt, ht, hV⟩ := hO
  obtain ⟨d, hd⟩ := hv_V_d (n - (k + 1)).toNat o tt 1 hV
  rw [h1] at hd
  obtain ⟨d0, g0, g1⟩ := hv_hg_s hd.2.2
  have hvt := hd.1 t (List.mem_cons_self ..)
  have hl := hv_ev_l (F := F) _ d0 (fun x hx => hd.1 x (List.mem_cons_of_mem t hx)) g0
  have hc := hv_hg_ct _ d0 g0
  have hc2 : hv_ct (o.drop (n - k).toNat) ≤ hv_ct (t :: o.drop (n - k).toNat) := hv_ct_t
  have hc3 := hd.2.1
  refine ⟨t, _, rfl, hvt, by rw [ev]; exact h2, by rw [h1]; rfl, by omega, fun z => ?_⟩
  rw [hl]
  unfold hv_hs at g1
  rw [if_pos z] at g1
  have h22 : t.2.1 ≤ 2 := by
    rcases hvt with ⟨_, a⟩ | ⟨a, _⟩
    · exact a
    · exfalso; omega
  by_cases y : t.2.1 = 2
  · rw [if_pos y] at g1
    by_cases w : 1 ≤ d0
    · exact Or.inl ⟨y, w⟩
    · rw [if_neg w] at g1; exact nomatch g1
  · rw [if_neg y] at g1
    by_cases w : 2 ≤ d0
    · exact Or.inr ⟨by omega, w⟩
    · rw [if_neg w] at g1; exact nomatch g1
theorem hv_len1 : ∀ {s : List Bool}, 1 ≤ s.length → ∃ a r, s = a :: r
  | [], h => absurd h (by show ¬ 1 ≤ 0; omega)
  | a :: r, _ => ⟨a, r, rfl⟩
theorem hv_len2 : ∀ {s : List Bool}, 2 ≤ s.length → ∃ a b r, s = a :: b :: r
  | [], h => absurd h (by show ¬ 2 ≤ 0; omega)
  | [_], h => absurd h (by show ¬ 2 ≤ 1; omega)
  | a :: b :: r, _ => ⟨a, b, r, rfl⟩
theorem hv_sp0 {F : Nat → Int} {t : hv_tok} {s : List Bool} (h : t.1 = 0) : hv_sp F t s = hv_so t.2.1 s := if_pos h
theorem hv_sp1 {F : Nat → Int} {t : hv_tok} {s : List Bool} (h : 1 ≤ t.1) : hv_sp F t s = hv_hd F t :: s := if_neg (by omega)
theorem hv_d0 {F : Nat → Int} {e : hv_tok → Int} {f : Nat → Int32} {o : List hv_tok} {n z : Int} (hls : hv_ls f n.toNat = o.map e) (hz : z = 0) : hv_ev F (o.drop (n - z).toNat) = [] := by
  have hl := congrArg List.length hls
  rw [hv_ls_len, List.length_map] at hl
  rw [List.drop_eq_nil_of_le (by omega)]; rfl
theorem hv_nb {b : Bool} {p : Prop} (h : b = true ↔ p) (n : ¬ p) : b = false := by
  cases b with
  | false => rfl
  | true => exact absurd (h.mp rfl) n
theorem hv_hd_e {F G : Nat → Int} {t : hv_tok} (hv : hv_vt t) (h1 : 1 ≤ t.1) (h : ∀ k, k < 8 → F k = G k) : hv_hd F t = hv_hd G t := by
  obtain ⟨a, g, v⟩ := t
  have hb : (1 ≤ a ∧ a ≤ 8) ∧ 0 ≤ v ∧ v ≤ 10007 := by
    rcases hv with ⟨x, _⟩ | ⟨x, y, _, z, w⟩
    · exfalso; have h1' : 1 ≤ a := h1; have x' : a = 0 := x; omega
    · exact ⟨⟨x, y⟩, z, w⟩
  have e1 : F (a - 1).toNat = G (a - 1).toNat := h _ (by omega)
  have e2 : (if 10000 ≤ v then F (v - 10000).toNat else v) = (if 10000 ≤ v then G (v - 10000).toNat else v) := by
    by_cases z : 10000 ≤ v
    · rw [if_pos z, if_pos z]; exact h _ (by omega)
    · rw [if_neg z, if_neg z]
  unfold hv_hd
  dsimp only
  rw [e1, e2]
theorem hv_ev_e {F G : Nat → Int} (h : ∀ k, k < 8 → F k = G k) : ∀ (o : List hv_tok), (∀ x ∈ o, hv_vt x) → hv_ev F o = hv_ev G o
  | [], _ => rfl
  | t :: o, hv => by
    have ih := hv_ev_e h o (fun x hx => hv x (List.mem_cons_of_mem t hx))
    show hv_sp F t (hv_ev F o) = hv_sp G t (hv_ev G o)
    rw [ih]
    unfold hv_sp
    by_cases z : t.1 = 0
    · rw [if_pos z, if_pos z]
    · rw [if_neg z, if_neg z]
      have hvt := hv t (List.mem_cons_self ..)
      rw [hv_hd_e hvt (by rcases hvt with ⟨x, _⟩ | ⟨x, _⟩ <;> omega) h]
theorem hv_pr_e {F G : Nat → Int} {o : List hv_tok} (hO : hv_OK o) (h : ∀ k, k < 8 → F k = G k) : hv_pr F o = hv_pr G o := by
  obtain ⟨t, _, hV⟩ := hO
  unfold hv_pr
  rw [hv_ev_e h o hV.1]
/-- the class's steps -/
theorem hv_cN {F : Nat → Int} {t : hv_tok} {s : List Bool} {x x1 : Int32} (h : hv_bt x s) (t1 : t.1 = 0) (t2 : t.2.1 = 2) (hl : 1 ≤ s.length) (e : x1 = x ^^^ 1) : hv_bt x1 (hv_sp F t s) := by
  obtain ⟨a, r, rfl⟩ := hv_len1 hl
  rw [hv_sp0 t1, t2]
  exact hv_bt_not h e
theorem hv_topb {x a b1 b : Int32} {p q : Bool} {r : List Bool} (h : hv_bt x (p :: q :: r)) (ea : a = x &&& 1) (e1 : b1 = x >>> ((1 : Int32) &&& 31)) (eb : b = b1 &&& 1) : ((a.toInt = 1 ∧ p = true) ∨ (a.toInt = 0 ∧ p = false)) ∧ ((b.toInt = 1 ∧ q = true) ∨ (b.toInt = 0 ∧ q = false)) := by
  have h0 : x.toBitVec.getLsbD 0 = p := h 0 (by simp)
  have h1 : x.toBitVec.getLsbD 1 = q := h 1 (by simp)
  have h2 : b1.toBitVec.getLsbD 0 = q := by rw [hv_sr1 e1 0 (by decide)]; exact h1
  have g0 := hv_b1 ea
  have g1 := hv_b1 eb
  rw [h0] at g0
  rw [h2] at g1
  exact ⟨g0, g1⟩
theorem hv_cA {F : Nat → Int} {t : hv_tok} {s : List Bool} {x a b1 b y z v w : Int32} (h : hv_bt x s) (t1 : t.1 = 0) (t2 : t.2.1 = 1) (hl : 2 ≤ s.length) (hs : s.length ≤ 20) (ea : a = x &&& 1) (e1 : b1 = x >>> ((1 : Int32) &&& 31)) (eb : b = b1 &&& 1) (ey : y = x >>> ((2 : Int32) &&& 31)) (ez : z = y <<< ((1 : Int32) &&& 31)) (ev : v = a &&& b) (ew : w = z ||| v) : hv_bt w (hv_sp F t s) := by
  obtain ⟨p, q, r, rfl⟩ := hv_len2 hl
  rw [hv_sp0 t1, t2]
  obtain ⟨g0, g1⟩ := hv_topb h ea e1 eb
  have k00 : ((0 : Int32) &&& 0) = 0 := by decide
  have k01 : ((0 : Int32) &&& 1) = 0 := by decide
  have k10 : ((1 : Int32) &&& 0) = 0 := by decide
  have k11 : ((1 : Int32) &&& 1) = 1 := by decide
  have c : (v.toInt = 0 ∨ v.toInt = 1) ∧ (q && p) = decide (v.toInt = 1) := by
    rcases g0 with ⟨a0, rfl⟩ | ⟨a0, rfl⟩ <;> rcases g1 with ⟨b0, rfl⟩ | ⟨b0, rfl⟩
    · obtain rfl : a = 1 := Int32.toInt_inj.mp a0
      obtain rfl : b = 1 := Int32.toInt_inj.mp b0
      rw [ev, k11]; decide
    · obtain rfl : a = 1 := Int32.toInt_inj.mp a0
      obtain rfl : b = 0 := Int32.toInt_inj.mp b0
      rw [ev, k10]; decide
    · obtain rfl : a = 0 := Int32.toInt_inj.mp a0
      obtain rfl : b = 1 := Int32.toInt_inj.mp b0
      rw [ev, k01]; decide
    · obtain rfl : a = 0 := Int32.toInt_inj.mp a0
      obtain rfl : b = 0 := Int32.toInt_inj.mp b0
      rw [ev, k00]; decide
  exact hv_bt_two (s := r) h (by simp at hs; omega) ey ez ew c.1 c.2
theorem hv_cO {F : Nat → Int} {t : hv_tok} {s : List Bool} {x a b1 b y z v w : Int32} (h : hv_bt x s) (t1 : t.1 = 0) (t2 : t.2.1 = 0) (hl : 2 ≤ s.length) (hs : s.length ≤ 20) (ea : a = x &&& 1) (e1 : b1 = x >>> ((1 : Int32) &&& 31)) (eb : b = b1 &&& 1) (ey : y = x >>> ((2 : Int32) &&& 31)) (ez : z = y <<< ((1 : Int32) &&& 31)) (ev : v = z ||| a) (ew : w = v ||| b) : hv_bt w (hv_sp F t s) := by
  obtain ⟨p, q, r, rfl⟩ := hv_len2 hl
  rw [hv_sp0 t1, t2]
  obtain ⟨g0, g1⟩ := hv_topb h ea e1 eb
  have ew2 : w = z ||| (a ||| b) := by rw [ew, ev, Int32.or_assoc]
  have k00 : ((0 : Int32) ||| 0) = 0 := by decide
  have k01 : ((0 : Int32) ||| 1) = 1 := by decide
  have k10 : ((1 : Int32) ||| 0) = 1 := by decide
  have k11 : ((1 : Int32) ||| 1) = 1 := by decide
  have c : ((a ||| b).toInt = 0 ∨ (a ||| b).toInt = 1) ∧ (q || p) = decide ((a ||| b).toInt = 1) := by
    rcases g0 with ⟨a0, rfl⟩ | ⟨a0, rfl⟩ <;> rcases g1 with ⟨b0, rfl⟩ | ⟨b0, rfl⟩
    · obtain rfl : a = 1 := Int32.toInt_inj.mp a0
      obtain rfl : b = 1 := Int32.toInt_inj.mp b0
      rw [k11]; decide
    · obtain rfl : a = 1 := Int32.toInt_inj.mp a0
      obtain rfl : b = 0 := Int32.toInt_inj.mp b0
      rw [k10]; decide
    · obtain rfl : a = 0 := Int32.toInt_inj.mp a0
      obtain rfl : b = 1 := Int32.toInt_inj.mp b0
      rw [k01]; decide
    · obtain rfl : a = 0 := Int32.toInt_inj.mp a0
      obtain rfl : b = 0 := Int32.toInt_inj.mp b0
      rw [k00]; decide
  exact hv_bt_two (s := r) h (by simp at hs; omega) ey ez ew2 c.1 c.2
theorem hv_cP {F : Nat → Int} {t : hv_tok} {s : List Bool} {x y v w : Int32} (h : hv_bt x s) (t1 : 1 ≤ t.1) (hs : s.length ≤ 20) (hv : (v.toInt = 1 ∧ hv_hd F t = true) ∨ (v.toInt = 0 ∧ hv_hd F t = false)) (e : y = x <<< ((1 : Int32) &&& 31)) (e2 : w = y ||| v) : hv_bt w (hv_sp F t s) := by
  rw [hv_sp1 t1]
  rcases hv with ⟨a, b⟩ | ⟨a, b⟩
  · have := hv_bt_push h (by omega) e e2 (Or.inr a)
    rw [b, show decide (v.toInt = 1) = true from decide_eq_true a] at *
    exact this
  · have := hv_bt_push h (by omega) e e2 (Or.inl a)
    rw [b, show decide (v.toInt = 1) = false from decide_eq_false (by omega)] at *
    exact this
theorem hv_cE {F : Nat → Int} {o : List hv_tok} {x y : Int32} (hO : hv_OK o) (h : hv_bt x (hv_ev F o)) (e : y = x &&& 1) : (y.toInt = 1 ∧ hv_pr F o = true) ∨ (y.toInt = 0 ∧ hv_pr F o = false) := by
  obtain ⟨tt, ht, hV⟩ := hO
  have hl := hv_ev_l (F := F) o 1 hV.1 hV.2.2
  obtain ⟨a, r, hr⟩ := hv_len1 (s := hv_ev F o) (by omega)
  have g := hv_b1 e
  have h0 := h 0 (by omega)
  rw [h0] at g
  exact g
/-- the reference's steps -/
theorem hv_rP {F : Nat → Int} {t : hv_tok} {s : List Bool} {f f1 : Nat → Int32} {n n1 : Int} {ix : Nat} {v : Int32} (h : hv_BS f n.toNat s) (t1 : 1 ≤ t.1) (h0 : 0 ≤ n) (hv : (v.toInt = 1 ∧ hv_hd F t = true) ∨ (v.toInt = 0 ∧ hv_hd F t = false)) (ei : (ix : Int) = n) (e : f1 = hx_up f ix v) (e1 : n1 = n + 1) : hv_BS f1 n1.toNat (hv_sp F t s) := by
  rw [hv_sp1 t1, show n1.toNat = n.toNat + 1 by omega]
  refine hv_BS_w h (by rw [e, show ix = n.toNat by omega]) ?_
  rcases hv with ⟨a, b⟩ | ⟨a, b⟩
  · rw [a, b]; rfl
  · rw [a, b]; rfl
theorem hv_rN {F : Nat → Int} {t : hv_tok} {s : List Bool} {f f1 : Nat → Int32} {n : Int} {ix : Nat} {v u : Int32} (h : hv_BS f n.toNat s) (t1 : t.1 = 0) (t2 : t.2.1 = 2) (hl : 1 ≤ s.length) (ei : (ix : Int) = n - 1) (eu : u = f ix) (hv : (u.toInt ≠ 0 ∧ v.toInt = 0) ∨ (u.toInt = 0 ∧ v.toInt = 1)) (e : f1 = hx_up f ix v) : hv_BS f1 n.toNat (hv_sp F t s) := by
  have hn := hv_BS_l h
  obtain ⟨a, r, rfl⟩ := hv_len1 hl
  rw [hv_sp0 t1, t2]
  rw [show n.toNat = ix + 1 by omega] at h ⊢
  obtain ⟨g0, g1⟩ := hv_BS_r h
  refine hv_BS_w g1 e ?_
  rw [← eu] at g0
  cases a with
  | true => have : hv_bi true = 1 := rfl; show v.toInt = hv_bi false; have : hv_bi false = 0 := rfl; omega
  | false => have : hv_bi true = 1 := rfl; show v.toInt = hv_bi true; have : hv_bi false = 0 := rfl; omega
theorem hv_rB {F : Nat → Int} {t : hv_tok} {s : List Bool} {f f1 : Nat → Int32} {n n1 : Int} {ix iy : Nat} {v u w : Int32} (h : hv_BS f n.toNat s) (t1 : t.1 = 0) (hl : 2 ≤ s.length) (ei : (ix : Int) = n - 2) (ey : (iy : Int) = n - 1) (eu : u = f ix) (ew : w = f iy) (hv : (t.2.1 = 1 ∧ ((u.toInt ≠ 0 ∧ w.toInt ≠ 0 ∧ v.toInt = 1) ∨ ((u.toInt = 0 ∨ w.toInt = 0) ∧ v.toInt = 0))) ∨ (t.2.1 = 0 ∧ (((u.toInt ≠ 0 ∨ w.toInt ≠ 0) ∧ v.toInt = 1) ∨ (u.toInt = 0 ∧ w.toInt = 0 ∧ v.toInt = 0)))) (e : f1 = hx_up f ix v) (e1 : n1 = n - 1) : hv_BS f1 n1.toNat (hv_sp F t s) := by
  have hn := hv_BS_l h
  obtain ⟨a, b, r, rfl⟩ := hv_len2 hl
  have hn2 : r.length + 1 + 1 = n.toNat := hn
  rw [hv_sp0 t1]
  rw [show n.toNat = (ix + 1) + 1 by omega] at h
  rw [show n1.toNat = ix + 1 by omega]
  obtain ⟨g0, g1⟩ := hv_BS_r h
  obtain ⟨g2, g3⟩ := hv_BS_r g1
  rw [show ix + 1 = iy by omega, ← ew] at g0
  rw [← eu] at g2
  have b1 : hv_bi true = 1 := rfl
  have b0 : hv_bi false = 0 := rfl
  rcases hv with ⟨z, hv⟩ | ⟨z, hv⟩
  · rw [z]
    refine hv_BS_w (c := (b && a)) g3 e ?_
    cases a <;> cases b
    · show v.toInt = hv_bi false; omega
    · show v.toInt = hv_bi false; omega
    · show v.toInt = hv_bi false; omega
    · show v.toInt = hv_bi true; omega
  · rw [z]
    refine hv_BS_w (c := (b || a)) g3 e ?_
    cases a <;> cases b
    · show v.toInt = hv_bi false; omega
    · show v.toInt = hv_bi true; omega
    · show v.toInt = hv_bi true; omega
    · show v.toInt = hv_bi true; omega
theorem hv_rE {F : Nat → Int} {o : List hv_tok} {f : Nat → Int32} {n : Int} {v : Int32} {ix : Nat} (hO : hv_OK o) (h : hv_BS f n.toNat (hv_ev F o)) (ei : ix = 0) (ev : v = f ix) : (v.toInt = 1 ∧ hv_pr F o = true) ∨ (v.toInt = 0 ∧ hv_pr F o = false) := by
  obtain ⟨tt, ht, hV⟩ := hO
  have hl := hv_ev_l (F := F) o 1 hV.1 hV.2.2
  have hn := hv_BS_l h
  unfold hv_pr
  revert h hl hn
  generalize hv_ev F o = s
  intro h hl hn
  match s, hl with
  | [a], _ =>
    rw [show n.toNat = 0 + 1 by simpa using hn.symm] at h
    obtain ⟨g0, _⟩ := hv_BS_r h
    subst ei
    rw [← ev] at g0
    cases a with
    | true => exact Or.inl ⟨g0, rfl⟩
    | false => exact Or.inr ⟨g0, rfl⟩
theorem hv_rf {tb : List hx_d} {L : List Nat} {h : hx_h} {a t ci k u : Nat} {fs : List hx_f} (hT : hx_T tb L h) (g : hx_g L h a t) (hd : tb[t]? = some (.inl (ci, fs))) (hf : fs[k]? = some (.inr (true, [u]))) : ∃ q, h.2.2 a k = some q ∧ hx_g L h q u := by
  obtain ⟨h1, h2⟩ := hT.gr g hd hf
  cases hq : h.2.2 a k with
  | none => exact absurd hq (h1 rfl)
  | some q =>
    obtain ⟨q1, q2⟩ := h2 q hq
    exact ⟨q, rfl, q1, by simpa using q2⟩
theorem hv_bitS {s x : Int} (hx : x % 8 = s) : s % 2 = x % 2 ∧ s / 2 % 2 = x / 2 % 2 ∧ s / 4 % 2 = x / 4 % 2 := by omega
theorem hv_hdA {P : Prop} {l r s x y : Int} (M : ((l < r ∧ s % 2 = 1) ∨ (l = r ∧ s / 2 % 2 = 1) ∨ (r < l ∧ s / 4 % 2 = 1)) ↔ P) (h : l < r) (hs : s % 2 = x % 2 ∧ s / 2 % 2 = x / 2 % 2 ∧ s / 4 % 2 = x / 4 % 2) (hb : y ≠ 0 ↔ x % 2 = 1) : P ↔ y ≠ 0 := by
  rw [← M, hb]; omega
theorem hv_hdB {P : Prop} {l r s x y : Int} (M : ((l < r ∧ s % 2 = 1) ∨ (l = r ∧ s / 2 % 2 = 1) ∨ (r < l ∧ s / 4 % 2 = 1)) ↔ P) (h : l = r) (hs : s % 2 = x % 2 ∧ s / 2 % 2 = x / 2 % 2 ∧ s / 4 % 2 = x / 4 % 2) (hb : y ≠ 0 ↔ x / 2 % 2 = 1) : P ↔ y ≠ 0 := by
  rw [← M, hb]; omega
theorem hv_hdC {P : Prop} {l r s x y : Int} (M : ((l < r ∧ s % 2 = 1) ∨ (l = r ∧ s / 2 % 2 = 1) ∨ (r < l ∧ s / 4 % 2 = 1)) ↔ P) (h : r < l) (hs : s % 2 = x % 2 ∧ s / 2 % 2 = x / 2 % 2 ∧ s / 4 % 2 = x / 4 % 2) (hb : y ≠ 0 ↔ x / 4 % 2 = 1) : P ↔ y ≠ 0 := by
  rw [← M, hb]; omega
end
section
/-! JUDGED -/
def hv_ki (kf : Nat → Int32) (j p : Nat) : Bool := decide (j = p) || (decide ((kf j).toInt ≠ -1) && decide ((kf j).toInt = (kf p).toInt))
def hv_ft (jf df kf : Nat → Int32) (p q j : Nat) : Bool := decide ((jf j).toInt ≠ 0) && (decide ((df j).toInt = 0) && (!hv_ki kf j p && !hv_ki kf j q))
/-- who may sit, by numbers -/
def hv_fs (jf df kf : Nat → Int32) (p q : Nat) : Nat → List Nat
  | 0 => []
  | j + 1 => if hv_ft jf df kf p q j = true then hv_fs jf df kf p q j ++ [j] else hv_fs jf df kf p q j
theorem hv_fs_b {jf df kf : Nat → Int32} {p q : Nat} : ∀ n, (hv_fs jf df kf p q n).length ≤ n
  | 0 => Nat.le_refl _
  | n + 1 => by
    have h := hv_fs_b (jf := jf) (df := df) (kf := kf) (p := p) (q := q) n
    unfold hv_fs
    split
    · rw [List.length_append]; show _ + 1 ≤ n + 1; omega
    · omega
theorem hv_gd1 {l m : List Nat} {i : Nat} (h : i < l.length) : (l ++ m).getD i 0 = l.getD i 0 := by
  rw [List.getD_eq_getElem?_getD, List.getD_eq_getElem?_getD, List.getElem?_append_left h]
theorem hv_gd2 {l : List Nat} {j : Nat} : (l ++ [j]).getD l.length 0 = j := by
  rw [List.getD_eq_getElem?_getD, List.getElem?_append_right (Nat.le_refl _), Nat.sub_self]; rfl
def hv_fl (f : Nat → Int32) (l : List Nat) : Prop := ∀ m, m < l.length → (f m).toInt = ((l.getD m 0 : Nat) : Int)
theorem hv_fl_0 {f : Nat → Int32} : hv_fl f [] := fun m h => absurd h (Nat.not_lt_zero m)
theorem hv_fl_s {f f1 : Nat → Int32} {l : List Nat} {j : Nat} {v : Int32} {ix : Nat} (h : hv_fl f l) (ei : ix = l.length) (hv : v.toInt = (j : Int)) (e : f1 = hx_up f ix v) : hv_fl f1 (l ++ [j]) := by
  intro m hm
  rw [List.length_append] at hm
  have hm : m < l.length + 1 := hm
  by_cases z : m = ix
  · subst z
    rw [e, hx_up_at, hv, ei, hv_gd2]
  · rw [e, hx_up_ne z, hv_gd1 (by omega)]
    exact h m (by omega)
theorem hv_fs_y {jf df kf : Nat → Int32} {p q : Nat} {f f1 : Nat → Int32} {k k1 m m1 : Int} {v : Int32} {ix : Nat} (h : hv_fl f (hv_fs jf df kf p q k.toNat) ∧ m = ((hv_fs jf df kf p q k.toNat).length : Int)) (hf : hv_ft jf df kf p q k.toNat = true) (h0 : 0 ≤ k) (ei : (ix : Int) = m) (hv : v.toInt = k) (e : f1 = hx_up f ix v) (e1 : k1 = k + 1) (e2 : m1 = m + 1) : hv_fl f1 (hv_fs jf df kf p q k1.toNat) ∧ m1 = ((hv_fs jf df kf p q k1.toNat).length : Int) := by
  have e3 : hv_fs jf df kf p q k1.toNat = hv_fs jf df kf p q k.toNat ++ [k.toNat] := by
    rw [show k1.toNat = k.toNat + 1 by omega]; exact if_pos hf
  rw [e3]
  refine ⟨hv_fl_s h.1 (by omega) (by omega) e, ?_⟩
  rw [List.length_append]
  show m1 = ((_ + 1 : Nat) : Int)
  omega
theorem hv_fs_n {jf df kf : Nat → Int32} {p q : Nat} {f : Nat → Int32} {k k1 m : Int} (h : hv_fl f (hv_fs jf df kf p q k.toNat) ∧ m = ((hv_fs jf df kf p q k.toNat).length : Int)) (hf : hv_ft jf df kf p q k.toNat = false) (h0 : 0 ≤ k) (e1 : k1 = k + 1) : hv_fl f (hv_fs jf df kf p q k1.toNat) ∧ m = ((hv_fs jf df kf p q k1.toNat).length : Int) := by
  have e3 : hv_fs jf df kf p q k1.toNat = hv_fs jf df kf p q k.toNat := by
    rw [show k1.toNat = k.toNat + 1 by omega]; exact if_neg (by rw [hf]; decide)
  rw [e3]; exact h
/-! of all sets of three the one at a place -/
def hv_T2 : Nat → Int
  | 0 => 0
  | n + 1 => hv_T2 n + n
def hv_T3 : Nat → Int
  | 0 => 0
  | n + 1 => hv_T3 n + hv_T2 n
theorem hv_T2_0 : ∀ n, 0 ≤ hv_T2 n
  | 0 => Int.le_refl _
  | n + 1 => by have := hv_T2_0 n; show 0 ≤ hv_T2 n + n; omega
theorem hv_T3_0 : ∀ n, 0 ≤ hv_T3 n
  | 0 => Int.le_refl _
  | n + 1 => by have := hv_T3_0 n; have := hv_T2_0 n; show 0 ≤ hv_T3 n + hv_T2 n; omega
theorem hv_T3_m {a b : Nat} (h : a ≤ b) : hv_T3 a ≤ hv_T3 b := by
  induction b with
  | zero => rw [show a = 0 by omega]; exact Int.le_refl _
  | succ b ih =>
    by_cases z : a = b + 1
    · rw [z]; exact Int.le_refl _
    · have := ih (by omega); have := hv_T2_0 b
      show hv_T3 a ≤ hv_T3 b + hv_T2 b; omega
theorem hv_T2_m {a b : Nat} (h : a ≤ b) : hv_T2 a ≤ hv_T2 b := by
  induction b with
  | zero => rw [show a = 0 by omega]; exact Int.le_refl _
  | succ b ih =>
    by_cases z : a = b + 1
    · rw [z]; exact Int.le_refl _
    · have := ih (by omega)
      show hv_T2 a ≤ hv_T2 b + b; omega
theorem hv_T3_b : (List.range 41).all (fun n => decide ((n : Int) * ((n : Int) - 1) * ((n : Int) - 2) / 6 = hv_T3 n) && (decide (n < 3 ∧ hv_T3 n = 0) || decide (3 ≤ n ∧ 1 ≤ hv_T3 n))) = true := by decide +kernel
theorem hv_T3_c {n : Int} (h0 : 0 ≤ n) (h1 : n ≤ 40) : n * (n - 1) * (n - 2) / 6 = hv_T3 n.toNat ∧ ((n < 3 ∧ hv_T3 n.toNat = 0) ∨ (3 ≤ n ∧ 1 ≤ hv_T3 n.toNat)) ∧ hv_T3 n.toNat ≤ 9880 := by
  have h := List.all_eq_true.mp hv_T3_b n.toNat (List.mem_range.mpr (by omega))
  rw [Bool.and_eq_true, Bool.or_eq_true, decide_eq_true_iff, decide_eq_true_iff, decide_eq_true_iff] at h
  have e : ((n.toNat : Nat) : Int) = n := by omega
  rw [e] at h
  refine ⟨h.1, ?_, ?_⟩
  · rcases h.2 with ⟨a, b⟩ | ⟨a, b⟩
    · exact Or.inl ⟨by omega, b⟩
    · exact Or.inr ⟨by omega, b⟩
  · have := hv_T3_m (a := n.toNat) (b := 40) (by omega)
    have : hv_T3 40 = 9880 := by decide
    omega
/-- the place of a set of three -/
def hv_ps (n a b c : Int) : Int := hv_T3 n.toNat - hv_T3 (n - a).toNat + (hv_T2 (n - a - 1).toNat - hv_T2 (n - b).toNat) + (c - b - 1)
def hv_is3 (n a b c : Int) : Prop := 0 ≤ a ∧ a < b ∧ b < c ∧ c < n
theorem hv_T3_p {m : Int} (h : 1 ≤ m) : hv_T3 m.toNat = hv_T3 (m - 1).toNat + hv_T2 (m - 1).toNat := by
  rw [show m.toNat = (m - 1).toNat + 1 by omega]; rfl
theorem hv_T2_p {m : Int} (h : 1 ≤ m) : hv_T2 m.toNat = hv_T2 (m - 1).toNat + (m - 1) := by
  rw [show m.toNat = (m - 1).toNat + 1 by omega]
  show hv_T2 (m - 1).toNat + (((m - 1).toNat : Nat) : Int) = _
  omega
theorem hv_ps_u {n a b c a' b' c' : Int} (h : hv_is3 n a b c) (h' : hv_is3 n a' b' c') (e : hv_ps n a b c = hv_ps n a' b' c') : a = a' ∧ b = b' ∧ c = c' := by
  have key : ∀ {a b c a' b' c' : Int}, hv_is3 n a b c → hv_is3 n a' b' c' → a < a' → hv_ps n a b c < hv_ps n a' b' c' := by
    intro a b c a' b' c' h h' z
    obtain ⟨x1, x2, x3, x4⟩ := h
    obtain ⟨y1, y2, y3, y4⟩ := h'
    unfold hv_ps
    have m1 := hv_T3_p (m := n - a) (by omega)
    have m2 := hv_T3_m (a := (n - a').toNat) (b := (n - a - 1).toNat) (by omega)
    have m3 := hv_T2_p (m := n - b) (by omega)
    have m4 := hv_T2_0 (n - b - 1).toNat
    have m5 := hv_T2_m (a := (n - b').toNat) (b := (n - a' - 1).toNat) (by omega)
    omega
  have key2 : ∀ {a b c b' c' : Int}, hv_is3 n a b c → hv_is3 n a b' c' → b < b' → hv_ps n a b c < hv_ps n a b' c' := by
    intro a b c b' c' h h' z
    obtain ⟨x1, x2, x3, x4⟩ := h
    obtain ⟨y1, y2, y3, y4⟩ := h'
    unfold hv_ps
    have m3 := hv_T2_p (m := n - b) (by omega)
    have m5 := hv_T2_m (a := (n - b').toNat) (b := (n - b - 1).toNat) (by omega)
    omega
  have ea : a = a' := by
    rcases (show a < a' ∨ a' < a ∨ a = a' by omega) with z | z | z
    · have := key h h' z; omega
    · have := key h' h z; omega
    · exact z
  subst ea
  have eb : b = b' := by
    rcases (show b < b' ∨ b' < b ∨ b = b' by omega) with z | z | z
    · have := key2 h h' z; omega
    · have := key2 h' h z; omega
    · exact z
  subst eb
  refine ⟨rfl, rfl, ?_⟩
  unfold hv_ps at e
  omega
theorem hv_ps_b {n a b c : Int} (h : hv_is3 n a b c) : 0 ≤ hv_ps n a b c ∧ hv_ps n a b c < hv_T3 n.toNat := by
  obtain ⟨x1, x2, x3, x4⟩ := h
  unfold hv_ps
  have m1 := hv_T3_p (m := n - a) (by omega)
  have m2 := hv_T3_m (a := (n - a).toNat) (b := n.toNat) (by omega)
  have m3 := hv_T2_p (m := n - b) (by omega)
  have m4 := hv_T2_0 (n - b - 1).toNat
  have m5 := hv_T2_m (a := (n - b).toNat) (b := (n - a - 1).toNat) (by omega)
  have m6 := hv_T3_0 (n - a - 1).toNat
  omega
/-- the three who sit -/
def hv_BN (l : List Nat) (p : Int) (b0 b1 b2 : Int32) : Prop := ∃ a b c : Int, hv_is3 (l.length : Int) a b c ∧ hv_ps (l.length : Int) a b c = p ∧ b0.toInt = ((l.getD a.toNat 0 : Nat) : Int) ∧ b1.toInt = ((l.getD b.toNat 0 : Nat) : Int) ∧ b2.toInt = ((l.getD c.toNat 0 : Nat) : Int)
theorem hv_BN_u {l : List Nat} {p : Int} {b0 b1 b2 c0 c1 c2 : Int32} (h : hv_BN l p b0 b1 b2) (h' : hv_BN l p c0 c1 c2) : b0 = c0 ∧ b1 = c1 ∧ b2 = c2 := by
  obtain ⟨a, b, c, h1, h2, h3, h4, h5⟩ := h
  obtain ⟨a', b', c', g1, g2, g3, g4, g5⟩ := h'
  obtain ⟨e1, e2, e3⟩ := hv_ps_u h1 g1 (h2.trans g2.symm)
  subst e1; subst e2; subst e3
  exact ⟨Int32.toInt_inj.mp (h3.trans g3.symm), Int32.toInt_inj.mp (h4.trans g4.symm), Int32.toInt_inj.mp (h5.trans g5.symm)⟩
/-- as the reference goes through them -/
def hv_DB (N p : Int) (sf bf0 bf : Nat → Int32) (c : Nat) (at' : Int) : Prop := (0 ≤ at' ∧ bf = bf0) ∨ (at' < 0 ∧ ∃ x y z : Int, hv_is3 N x y z ∧ hv_ps N x y z = p ∧ bf = hx_up (hx_up (hx_up bf0 (3 * c) (sf x.toNat)) (3 * c + 1) (sf y.toNat)) (3 * c + 2) (sf z.toNat))
theorem hv_DB_n {N p : Int} {sf bf0 bf : Nat → Int32} {c : Nat} {k k1 : Int} (h : hv_DB N p sf bf0 bf c k) (hk : k ≠ 0) (e : k1 = k - 1) : hv_DB N p sf bf0 bf c k1 := by
  rcases h with ⟨a, b⟩ | ⟨a, b⟩
  · exact Or.inl ⟨by omega, b⟩
  · exact Or.inr ⟨by omega, b⟩
theorem hv_DB_y {N p : Int} {sf bf0 bf f1 f2 f3 : Nat → Int32} {c : Nat} {k k1 x y z : Int} {i1 i2 i3 j1 j2 j3 : Nat} {v1 v2 v3 : Int32} (h : hv_DB N p sf bf0 bf c k) (hk : k = 0) (e : k1 = k - 1) (h3 : hv_is3 N x y z) (hp : hv_ps N x y z = p) (d1 : f1 = hx_up bf i1 v1) (d2 : f2 = hx_up f1 i2 v2) (d3 : f3 = hx_up f2 i3 v3) (e1 : i1 = 3 * c) (e2 : i2 = 3 * c + 1) (e3 : i3 = 3 * c + 2) (s1 : v1 = sf j1) (s2 : v2 = sf j2) (s3 : v3 = sf j3) (q1 : (j1 : Int) = x) (q2 : (j2 : Int) = y) (q3 : (j3 : Int) = z) : hv_DB N p sf bf0 f3 c k1 := by
  rcases h with ⟨a, b⟩ | ⟨a, b⟩
  · refine Or.inr ⟨by omega, x, y, z, h3, hp, ?_⟩
    rw [d3, d2, d1, b, e1, e2, e3, s1, s2, s3, show x.toNat = j1 by omega, show y.toNat = j2 by omega, show z.toNat = j3 by omega]
  · exfalso; omega
theorem hv_DB_e {N p : Int} {sf bf0 bf : Nat → Int32} {c : Nat} {k : Int} {l : List Nat} (h : hv_DB N p sf bf0 bf c k) (hk : k < 0) (hf : hv_fl sf l) (hN : N = (l.length : Int)) : ∃ b0 b1 b2 : Int32, hv_BN l p b0 b1 b2 ∧ bf = hx_up (hx_up (hx_up bf0 (3 * c) b0) (3 * c + 1) b1) (3 * c + 2) b2 := by
  rcases h with ⟨a, b⟩ | ⟨a, x, y, z, h3, hp, e⟩
  · exfalso; omega
  · subst hN
    obtain ⟨x1, x2, x3, x4⟩ := id h3
    exact ⟨_, _, _, ⟨x, y, z, h3, hp, hf _ (by omega), hf _ (by omega), hf _ (by omega)⟩, e⟩
/-! the sum of a SPLIT -/
def hv_sq (byf agf flf : Nat → Int32) (b a f : Int) (k : Nat) : Bool := decide ((byf k).toInt = b ∧ (agf k).toInt = a ∧ f ≤ (flf k).toInt)
def hv_sm (byf agf flf smf : Nat → Int32) (b a f : Int) : Nat → Int
  | 0 => 0
  | k + 1 => if hv_sq byf agf flf b a f k = true then hv_sm byf agf flf smf b a f k + (smf k).toInt else hv_sm byf agf flf smf b a f k
def hv_sct (byf agf flf : Nat → Int32) (b a f : Int) : Nat → Int
  | 0 => 0
  | k + 1 => if hv_sq byf agf flf b a f k = true then hv_sct byf agf flf b a f k + 1 else hv_sct byf agf flf b a f k
section HVSM
variable {byf agf flf smf : Nat → Int32} {b a f : Int}
theorem hv_sm_y {k k1 s s1 : Int} {v : Int32} {ix : Nat} (h : s = hv_sm byf agf flf smf b a f k.toNat) (hq : hv_sq byf agf flf b a f k.toNat = true) (h0 : 0 ≤ k) (ei : (ix : Int) = k) (ev : v = smf ix) (es : s1 = s + v.toInt) (e1 : k1 = k + 1) : s1 = hv_sm byf agf flf smf b a f k1.toNat := by
  rw [show k1.toNat = k.toNat + 1 by omega]
  show s1 = (if hv_sq byf agf flf b a f k.toNat = true then hv_sm byf agf flf smf b a f k.toNat + (smf k.toNat).toInt else hv_sm byf agf flf smf b a f k.toNat)
  rw [if_pos hq, ← h, es, ev, show ix = k.toNat by omega]
theorem hv_sm_n {k k1 s : Int} (h : s = hv_sm byf agf flf smf b a f k.toNat) (hq : hv_sq byf agf flf b a f k.toNat = false) (h0 : 0 ≤ k) (e1 : k1 = k + 1) : s = hv_sm byf agf flf smf b a f k1.toNat := by
  rw [show k1.toNat = k.toNat + 1 by omega]
  show s = (if hv_sq byf agf flf b a f k.toNat = true then hv_sm byf agf flf smf b a f k.toNat + (smf k.toNat).toInt else hv_sm byf agf flf smf b a f k.toNat)
  rw [if_neg (by rw [hq]; decide)]; exact h
theorem hv_sct_y {k k1 s s1 : Int} (h : s = hv_sct byf agf flf b a f k.toNat) (hq : hv_sq byf agf flf b a f k.toNat = true) (h0 : 0 ≤ k) (es : s1 = s + 1) (e1 : k1 = k + 1) : s1 = hv_sct byf agf flf b a f k1.toNat := by
  rw [show k1.toNat = k.toNat + 1 by omega]
  show s1 = (if hv_sq byf agf flf b a f k.toNat = true then hv_sct byf agf flf b a f k.toNat + 1 else hv_sct byf agf flf b a f k.toNat)
  rw [if_pos hq, ← h, es]
theorem hv_sct_n {k k1 s : Int} (h : s = hv_sct byf agf flf b a f k.toNat) (hq : hv_sq byf agf flf b a f k.toNat = false) (h0 : 0 ≤ k) (e1 : k1 = k + 1) : s = hv_sct byf agf flf b a f k1.toNat := by
  rw [show k1.toNat = k.toNat + 1 by omega]
  show s = (if hv_sq byf agf flf b a f k.toNat = true then hv_sct byf agf flf b a f k.toNat + 1 else hv_sct byf agf flf b a f k.toNat)
  rw [if_neg (by rw [hq]; decide)]; exact h
theorem hv_sq_t {k : Nat} : hv_sq byf agf flf b a f k = true ↔ (byf k).toInt = b ∧ (agf k).toInt = a ∧ f ≤ (flf k).toInt := decide_eq_true_iff
theorem hv_sq_f {k : Nat} (h : ¬ ((byf k).toInt = b ∧ (agf k).toInt = a ∧ f ≤ (flf k).toInt)) : hv_sq byf agf flf b a f k = false := decide_eq_false h
theorem hv_sct_0 : ∀ k, 0 ≤ hv_sct byf agf flf b a f k
  | 0 => Int.le_refl _
  | k + 1 => by
    have := hv_sct_0 k
    unfold hv_sct
    split <;> omega
theorem hv_sct_z : ∀ k, hv_sct byf agf flf b a f k = 0 → hv_sm byf agf flf smf b a f k = 0
  | 0, _ => rfl
  | k + 1, h => by
    have h0 := hv_sct_0 (byf := byf) (agf := agf) (flf := flf) (b := b) (a := a) (f := f) k
    have h2 := hv_sct_z k
    unfold hv_sct at h
    unfold hv_sm
    split at h
    · exfalso; omega
    · next z => rw [if_neg z]; exact h2 h
theorem hv_sct_p {c : Nat} (hq : hv_sq byf agf flf b a f c = true) : ∀ k, c < k → 1 ≤ hv_sct byf agf flf b a f k
  | 0, h => absurd h (Nat.not_lt_zero c)
  | k + 1, h => by
    have h0 := hv_sct_0 (byf := byf) (agf := agf) (flf := flf) (b := b) (a := a) (f := f) k
    have h2 := hv_sct_p hq k
    unfold hv_sct
    by_cases z : c = k
    · subst z; rw [if_pos hq]; omega
    · have := h2 (by omega)
      split <;> omega
theorem hv_sct_1 {c : Nat} (hq : hv_sq byf agf flf b a f c = true) : ∀ k, c < k → hv_sct byf agf flf b a f k ≤ 1 → hv_sm byf agf flf smf b a f k = (smf c).toInt
  | 0, h, _ => absurd h (Nat.not_lt_zero c)
  | k + 1, h, h1 => by
    have h0 := hv_sct_0 (byf := byf) (agf := agf) (flf := flf) (b := b) (a := a) (f := f) k
    have h2 := hv_sct_1 hq k
    have h3 := hv_sct_p (byf := byf) (agf := agf) (flf := flf) (b := b) (a := a) (f := f) hq k
    unfold hv_sct at h1
    unfold hv_sm
    by_cases z : c = k
    · subst z
      rw [if_pos hq] at h1 ⊢
      rw [hv_sct_z (smf := smf) c (by omega)]; omega
    · have h4 := h3 (by omega)
      by_cases y : hv_sq byf agf flf b a f k = true
      · rw [if_pos y] at h1; exfalso; omega
      · rw [if_neg y] at h1 ⊢
        exact h2 (by omega) h1
end HVSM
/-- what a claim is judged by an act -/
def hv_jg (F R : Nat → Int) (o : List hv_tok) (fr bo su sp : Int) : Int := if fr - bo < 365 * R 8 then 1 else if R 0 < su then 2 else if R 0 < sp then 3 else if hv_pr F o = true then 5 else 4
theorem hv_jg_1 {F R : Nat → Int} {o : List hv_tok} {fr bo su sp r : Int} (h : fr - bo < 365 * R 8) (e : r = 1) : r = hv_jg F R o fr bo su sp := by
  unfold hv_jg; rw [if_pos h]; exact e
theorem hv_jg_2 {F R : Nat → Int} {o : List hv_tok} {fr bo su sp r : Int} (h : ¬ fr - bo < 365 * R 8) (h2 : R 0 < su) (e : r = 2) : r = hv_jg F R o fr bo su sp := by
  unfold hv_jg; rw [if_neg h, if_pos h2]; exact e
theorem hv_jg_3 {F R : Nat → Int} {o : List hv_tok} {fr bo su sp r : Int} (h : ¬ fr - bo < 365 * R 8) (h2 : ¬ R 0 < su) (h3 : R 0 < sp) (e : r = 3) : r = hv_jg F R o fr bo su sp := by
  unfold hv_jg; rw [if_neg h, if_neg h2, if_pos h3]; exact e
theorem hv_jg_4 {F R : Nat → Int} {o : List hv_tok} {fr bo su sp r : Int} (h : ¬ fr - bo < 365 * R 8) (h2 : ¬ R 0 < su) (h3 : ¬ R 0 < sp) (hp : (r = 5 ∧ hv_pr F o = true) ∨ (r = 4 ∧ hv_pr F o = false)) : r = hv_jg F R o fr bo su sp := by
  unfold hv_jg; rw [if_neg h, if_neg h2, if_neg h3]
  rcases hp with ⟨a, b⟩ | ⟨a, b⟩
  · rw [if_pos b]; exact a
  · rw [if_neg (by rw [b]; decide)]; exact a
end
section
/-! CLAIMS AND THEIR ACTS, THEIR FACTS, THEIR BENCHES -/
def hv_AC (h : hx_h) (qc : Nat) (plf : Nat → Int32) (n : Int) (A : Nat → hv_act) : Prop := ∀ c : Nat, c < 100 → (c : Int) < n → ∀ o a, h.2.2 qc c = some o → h.2.2 o 3 = some a → 0 ≤ (plf c).toInt ∧ hv_AQ h a ((plf c).toInt - 1) (A (plf c).toInt.toNat)
/-- the arrays of so many numbers that the claims hold at a place -/
def hv_FX (w kf : Nat) (h : hx_h) (qc : Nat) (F : Nat → Int32) (n : Int) : Prop := (∀ c : Nat, c < 100 → (c : Int) < n → ∀ o t, h.2.2 qc c = some o → h.2.2 o kf = some t → ∀ k, k < w → h.2.1 t k = F (k + w * c)) ∧ ∀ c c' : Nat, c < 100 → c' < 100 → (c : Int) < n → (c' : Int) < n → ∀ o o' t, h.2.2 qc c = some o → h.2.2 qc c' = some o' → h.2.2 o kf = some t → h.2.2 o' kf = some t → c = c'
def hv_NF (kf : Nat) (h : hx_h) (qc t : Nat) (n : Int) : Prop := ∀ c : Nat, c < 100 → (c : Int) < n → ∀ o t', h.2.2 qc c = some o → h.2.2 o kf = some t' → t' ≠ t
section HVAC
variable {tb : List hx_d} {M : hx_m} {L L1 : List Nat} {h h1 : hx_h} {qc tc t0 ci ci2 x t9 tt tp : Nat} {nn b2 b3 b4 : Bool} {fs fs2 : List hx_f} {n : Int} {A : Nat → hv_act} {plf : Nat → Int32}
theorem hv_AQ_S {q : Nat} {m : Int} {a : hv_act} (hs : hx_S tb M L h L1 h1) (hT : hx_T tb L h) (g : hx_g L h q 0) (h0 : tb[0]? = some (.inl (ci, fs))) (f2 : fs[2]? = some (.inr (b2, [tt]))) (f3 : fs[3]? = some (.inr (b3, [tp]))) (m0 : M.any (fun q => q.1 == 0) = false) (mt : M.any (fun q => q.1 == tt) = false) (mp : M.any (fun q => q.1 == tp) = false) (H : hv_AQ h q m a) : hv_AQ h1 q m a := by
  have e := fun j => hs.all g m0 j
  refine hv_AQ_c H (e 0).1 (e 1).1 (e 4).1 (e 2).2 (e 3).2 (fun t ht => ?_) (fun p hp => ?_)
  · obtain ⟨a1, a2⟩ := (hT.gr g h0 f2).2 t ht
    have gt : hx_g L h t tt := ⟨a1, by simpa using a2⟩
    exact funext fun j => (hs.all gt mt j).1
  · obtain ⟨a1, a2⟩ := (hT.gr g h0 f3).2 p hp
    have gt : hx_g L h p tp := ⟨a1, by simpa using a2⟩
    exact funext fun j => (hs.all gt mp j).1
theorem hv_AQ_X {q : Nat} {m : Int} {a : hv_act} (hs : hx_S tb M (hx_X L x) h L1 h1) (hT : hx_T tb L h) (g : hx_g (hx_X L x) h q 0) (gx : hx_g L h x t9) (h0 : tb[0]? = some (.inl (ci, fs))) (f2 : fs[2]? = some (.inr (b2, [tt]))) (f3 : fs[3]? = some (.inr (b3, [tp]))) (m0 : M.any (fun q => q.1 == 0) = false) (mt : M.any (fun q => q.1 == tt) = false) (mp : M.any (fun q => q.1 == tp) = false) (ne : ((0 : Nat) ≠ t9 ∧ tt ≠ t9) ∧ tp ≠ t9) (H : hv_AQ h q m a) : hv_AQ h1 q m a := by
  have e := fun j => hs.all g m0 j
  have g' : hx_g L h q 0 := ⟨(hx_X_m.mp g.1).1, g.2⟩
  refine hv_AQ_c H (e 0).1 (e 1).1 (e 4).1 (e 2).2 (e 3).2 (fun t ht => ?_) (fun p hp => ?_)
  · obtain ⟨a1, a2⟩ := (hT.gr g' h0 f2).2 t ht
    have a3 : h.1 t = tt := by simpa using a2
    have gt : hx_g (hx_X L x) h t tt := ⟨hx_X_m.mpr ⟨a1, fun z => ne.1.2 (by rw [← a3, z, gx.2])⟩, a3⟩
    exact funext fun j => (hs.all gt mt j).1
  · obtain ⟨a1, a2⟩ := (hT.gr g' h0 f3).2 p hp
    have a3 : h.1 p = tp := by simpa using a2
    have gt : hx_g (hx_X L x) h p tp := ⟨hx_X_m.mpr ⟨a1, fun z => ne.2 (by rw [← a3, z, gx.2])⟩, a3⟩
    exact funext fun j => (hs.all gt mp j).1
theorem hv_AC_S (hs : hx_S tb M L h L1 h1) (hT : hx_T tb L h) (gc : hx_g L h qc tc) (hd : tb[tc]? = some (.inr (t0, 100, .inr (nn, [2])))) (h2 : tb[2]? = some (.inl (ci2, fs2))) (f23 : fs2[3]? = some (.inr (b4, [0]))) (h0 : tb[0]? = some (.inl (ci, fs))) (f2 : fs[2]? = some (.inr (b2, [tt]))) (f3 : fs[3]? = some (.inr (b3, [tp]))) (mc : M.any (fun q => q.1 == tc) = false) (m23 : M.contains (2, 3) = false) (m0 : M.any (fun q => q.1 == 0) = false) (mt : M.any (fun q => q.1 == tt) = false) (mp : M.any (fun q => q.1 == tp) = false) (H : hv_AC h qc plf n A) : hv_AC h1 qc plf n A := by
  intro c hc hcn o a fo fa
  rw [(hs.a gc mc c).2] at fo
  obtain ⟨c1, c2⟩ := (hT.er gc hd (k := c) hc).2 o fo
  have go : hx_g L h o 2 := ⟨c1, by simpa using c2⟩
  rw [(hs.o (k := 3) go (by rw [h2]; trivial) m23).2] at fa
  obtain ⟨d1, d2⟩ := (hT.gr go h2 f23).2 a fa
  have ga : hx_g L h a 0 := ⟨d1, by simpa using d2⟩
  obtain ⟨e1, e2⟩ := H c hc hcn o a fo fa
  exact ⟨e1, hv_AQ_S hs hT ga h0 f2 f3 m0 mt mp e2⟩
theorem hv_AC_X (hs : hx_S tb M (hx_X L x) h L1 h1) (hT : hx_T tb L h) (gc : hx_g (hx_X L x) h qc tc) (gx : hx_g L h x t9) (hd : tb[tc]? = some (.inr (t0, 100, .inr (nn, [2])))) (h2 : tb[2]? = some (.inl (ci2, fs2))) (f23 : fs2[3]? = some (.inr (b4, [0]))) (h0 : tb[0]? = some (.inl (ci, fs))) (f2 : fs[2]? = some (.inr (b2, [tt]))) (f3 : fs[3]? = some (.inr (b3, [tp]))) (mc : M.any (fun q => q.1 == tc) = false) (m23 : M.contains (2, 3) = false) (m0 : M.any (fun q => q.1 == 0) = false) (mt : M.any (fun q => q.1 == tt) = false) (mp : M.any (fun q => q.1 == tp) = false) (ne : ((0 : Nat) ≠ t9 ∧ tt ≠ t9) ∧ tp ≠ t9) (ne2 : (2 : Nat) ≠ t9) (H : hv_AC h qc plf n A) : hv_AC h1 qc plf n A := by
  intro c hc hcn o a fo fa
  rw [(hs.a gc mc c).2] at fo
  obtain ⟨c1, c2⟩ := (hT.er ⟨(hx_X_m.mp gc.1).1, gc.2⟩ hd (k := c) hc).2 o fo
  have c3 : h.1 o = 2 := by simpa using c2
  have go : hx_g (hx_X L x) h o 2 := ⟨hx_X_m.mpr ⟨c1, fun z => ne2 (by rw [← c3, z, gx.2])⟩, c3⟩
  rw [(hs.o (k := 3) go (by rw [h2]; trivial) m23).2] at fa
  obtain ⟨d1, d2⟩ := (hT.gr ⟨c1, c3⟩ h2 f23).2 a fa
  have d3 : h.1 a = 0 := by simpa using d2
  have ga : hx_g (hx_X L x) h a 0 := ⟨hx_X_m.mpr ⟨d1, fun z => ne.1.1 (by rw [← d3, z, gx.2])⟩, d3⟩
  obtain ⟨e1, e2⟩ := H c hc hcn o a fo fa
  exact ⟨e1, hv_AQ_X hs hT ga gx h0 f2 f3 m0 mt mp ne e2⟩
theorem hv_AC_0 (z : ∀ j, h.2.1 qc j = 0 ∧ h.2.2 qc j = none) : hv_AC h qc plf n A := fun c _ _ o a fo _ => by
  rw [(z c).2] at fo; cases fo
/-- one more claim -/
theorem hv_AC_c {p a0 : Nat} {m : Int} {i j : Int32} (H : hv_AC h qc plf n A) (hT : hx_T tb L h) (gc : hx_g L h qc tc) (gq : hx_g L h p 2) (hd : tb[tc]? = some (.inr (t0, 100, .inr (nn, [2])))) (h2 : tb[2]? = some (.inl (ci2, fs2))) (f23 : fs2[3]? = some (.inr (b4, [0]))) (ne : (2 : Nat) ≠ tc ∧ (0 : Nat) ≠ tc) (eh : h1 = hx_pr h qc i.toNatClampNeg (some p)) (h0 : 0 ≤ i.toInt) (hi : i.toInt = n) (fa0 : h.2.2 p 3 = some a0) (j0 : 0 ≤ j.toInt) (hq : hv_AQ h a0 (j.toInt - 1) (A j.toInt.toNat)) (hm : m = n + 1) : hv_AC h1 qc (hx_up plf n.toNat j) m A := by
  have e1 : i.toNatClampNeg = n.toNat := by unfold Int32.toNatClampNeg; omega
  subst eh; subst hm
  rw [e1]
  have key : ∀ (q : Nat) (m : Int) (a : hv_act), hx_g L h q 0 → hv_AQ h q m a → hv_AQ (hx_pr h qc n.toNat (some p)) q m a := by
    intro q m a g H
    have nq : q ≠ qc := fun z => ne.2 (by rw [← g.2, z, gc.2])
    exact hv_AQ_c H rfl rfl rfl (hx_pr_ne h (some p) (fun z => nq z.1)) (hx_pr_ne h (some p) (fun z => nq z.1)) (fun _ _ => rfl) (fun _ _ => rfl)
  intro c hc hcn o a fo fa
  by_cases z : c = n.toNat
  · subst z
    rw [hx_pr_at] at fo
    cases fo
    have q2 : p ≠ qc := fun z => ne.1 (by rw [← gq.2, z, gc.2])
    rw [hx_pr_ne h (some p) (fun z => q2 z.1), fa0] at fa
    cases fa
    rw [hx_up_at]
    obtain ⟨d1, d2⟩ := (hT.gr gq h2 f23).2 a0 fa0
    exact ⟨j0, key _ _ _ ⟨d1, by simpa using d2⟩ hq⟩
  · rw [hx_pr_ne h (some p) (fun w => z w.2)] at fo
    obtain ⟨c1, c2⟩ := (hT.er gc hd (k := c) hc).2 o fo
    have c3 : h.1 o = 2 := by simpa using c2
    have q2 : o ≠ qc := fun z => ne.1 (by rw [← c3, z, gc.2])
    rw [hx_pr_ne h (some p) (fun z => q2 z.1)] at fa
    obtain ⟨d1, d2⟩ := (hT.gr ⟨c1, c3⟩ h2 f23).2 a fa
    obtain ⟨e1, e2⟩ := H c hc (by omega) o a fo fa
    rw [hx_up_ne z]
    exact ⟨e1, key _ _ _ ⟨d1, by simpa using d2⟩ e2⟩
/-- one more act changes nothing of the claims' -/
theorem hv_AC_a {A1 : Nat → hv_act} {a0 : Int} (H : hv_AC h qc plf n A) (hp : ∀ c : Nat, (c : Int) < n → (plf c).toInt ≤ a0) (e : ∀ k : Nat, (k : Int) ≤ a0 → A1 k = A k) : hv_AC h qc plf n A1 := fun c hc hcn o a fo fa => by
  obtain ⟨e1, e2⟩ := H c hc hcn o a fo fa
  have := hp c hcn
  rw [e _ (by omega)]
  exact ⟨e1, e2⟩
theorem hv_AC_e {f g : Nat → Int32} {m : Int} {A1 : Nat → hv_act} (H : hv_AC h qc f n A) (e : f = g) (en : n = m) (ea : A = A1) : hv_AC h qc g m A1 := by
  subst e; subst en; subst ea; exact H
variable {w kf tf : Nat} {F : Nat → Int32}
theorem hv_FX_S (hs : hx_S tb M L h L1 h1) (hT : hx_T tb L h) (gc : hx_g L h qc tc) (hd : tb[tc]? = some (.inr (t0, 100, .inr (nn, [2])))) (h2 : tb[2]? = some (.inl (ci2, fs2))) (f2 : fs2[kf]? = some (.inr (b4, [tf]))) (mc : M.any (fun q => q.1 == tc) = false) (mk : M.contains (2, kf) = false) (mf : M.any (fun q => q.1 == tf) = false) (H : hv_FX w kf h qc F n) : hv_FX w kf h1 qc F n := by
  have key : ∀ c : Nat, c < 100 → ∀ o t, h1.2.2 qc c = some o → h1.2.2 o kf = some t → h.2.2 qc c = some o ∧ h.2.2 o kf = some t ∧ hx_g L h t tf := by
    intro c hc o t fo ft
    rw [(hs.a gc mc c).2] at fo
    obtain ⟨c1, c2⟩ := (hT.er gc hd (k := c) hc).2 o fo
    have go : hx_g L h o 2 := ⟨c1, by simpa using c2⟩
    rw [(hs.o (k := kf) go (by rw [h2]; trivial) mk).2] at ft
    obtain ⟨d1, d2⟩ := (hT.gr go h2 f2).2 t ft
    exact ⟨fo, ft, d1, by simpa using d2⟩
  refine ⟨fun c hc hcn o t fo ft k hk => ?_, fun c c' hc hc' hn hn' o o' t fo fo' ft ft' => ?_⟩
  · obtain ⟨a, b, g⟩ := key c hc o t fo ft
    rw [(hs.a g mf k).1]
    exact H.1 c hc hcn o t a b k hk
  · obtain ⟨a, b, _⟩ := key c hc o t fo ft
    obtain ⟨a', b', _⟩ := key c' hc' o' t fo' ft'
    exact H.2 c c' hc hc' hn hn' o o' t a a' b b'
theorem hv_FX_X (hs : hx_S tb M (hx_X L x) h L1 h1) (hT : hx_T tb L h) (gc : hx_g (hx_X L x) h qc tc) (gx : hx_g L h x t9) (hd : tb[tc]? = some (.inr (t0, 100, .inr (nn, [2])))) (h2 : tb[2]? = some (.inl (ci2, fs2))) (f2 : fs2[kf]? = some (.inr (b4, [tf]))) (mc : M.any (fun q => q.1 == tc) = false) (mk : M.contains (2, kf) = false) (mf : M.any (fun q => q.1 == tf) = false) (ne : (2 : Nat) ≠ t9 ∧ tf ≠ t9) (H : hv_FX w kf h qc F n) : hv_FX w kf h1 qc F n := by
  have key : ∀ c : Nat, c < 100 → ∀ o t, h1.2.2 qc c = some o → h1.2.2 o kf = some t → h.2.2 qc c = some o ∧ h.2.2 o kf = some t ∧ hx_g (hx_X L x) h t tf := by
    intro c hc o t fo ft
    rw [(hs.a gc mc c).2] at fo
    obtain ⟨c1, c2⟩ := (hT.er ⟨(hx_X_m.mp gc.1).1, gc.2⟩ hd (k := c) hc).2 o fo
    have c3 : h.1 o = 2 := by simpa using c2
    have go : hx_g (hx_X L x) h o 2 := ⟨hx_X_m.mpr ⟨c1, fun z => ne.1 (by rw [← c3, z, gx.2])⟩, c3⟩
    rw [(hs.o (k := kf) go (by rw [h2]; trivial) mk).2] at ft
    obtain ⟨d1, d2⟩ := (hT.gr ⟨c1, c3⟩ h2 f2).2 t ft
    have d3 : h.1 t = tf := by simpa using d2
    exact ⟨fo, ft, hx_X_m.mpr ⟨d1, fun z => ne.2 (by rw [← d3, z, gx.2])⟩, d3⟩
  refine ⟨fun c hc hcn o t fo ft k hk => ?_, fun c c' hc hc' hn hn' o o' t fo fo' ft ft' => ?_⟩
  · obtain ⟨a, b, g⟩ := key c hc o t fo ft
    rw [(hs.a g mf k).1]
    exact H.1 c hc hcn o t a b k hk
  · obtain ⟨a, b, _⟩ := key c hc o t fo ft
    obtain ⟨a', b', _⟩ := key c' hc' o' t fo' ft'
    exact H.2 c c' hc hc' hn hn' o o' t a a' b b'
theorem hv_FX_0 (z : ∀ j, h.2.1 qc j = 0 ∧ h.2.2 qc j = none) : hv_FX w kf h qc F n := by
  refine ⟨fun c _ _ o t fo _ => ?_, fun c _ _ _ _ _ o _ t fo _ _ _ => ?_⟩
  · rw [(z c).2] at fo; cases fo
  · rw [(z c).2] at fo; cases fo
theorem hv_FX_e {f g : Nat → Int32} {m : Int} (H : hv_FX w kf h qc f n) (e : f = g) (en : n = m) : hv_FX w kf h qc g m := by
  subst e; subst en; exact H
/-- a number of one claim's is told anew -/
theorem hv_FX_u {c o t k : Nat} {v : Int32} (H : hv_FX w kf h qc F n) (hT : hx_T tb L h) (gc : hx_g L h qc tc) (gt : hx_g L h t tf) (ne : tf ≠ tc ∧ (2 : Nat) ≠ tf) (hd : tb[tc]? = some (.inr (t0, 100, .inr (nn, [2])))) (hc : c < 100) (hcn : (c : Int) < n) (fo : h.2.2 qc c = some o) (ft : h.2.2 o kf = some t) (hk : k < w) (eh : h1 = hx_pi h t k v) : hv_FX w kf h1 qc (hx_up F (k + w * c) v) n := by
  subst eh
  refine ⟨fun c1 hc1 hn1 o1 t1 fo1 ft1 k1 hk1 => ?_, fun c1 c' hc1 hc' hn hn' o1 o' t1 fo1 fo' ft1 ft' => H.2 c1 c' hc1 hc' hn hn' o1 o' t1 fo1 fo' ft1 ft'⟩
  replace fo1 : h.2.2 qc c1 = some o1 := fo1
  replace ft1 : h.2.2 o1 kf = some t1 := ft1
  by_cases z : t1 = t
  · subst z
    have e := H.2 c1 c hc1 hc hn1 hcn o1 o t1 fo1 fo ft1 ft
    subst e
    by_cases y : k1 = k
    · subst y; rw [hx_pi_at, hx_up_at]
    · rw [hx_pi_ne _ _ (fun q => y q.2), hx_up_ne (by omega)]
      exact H.1 c1 hc1 hn1 o1 t1 fo1 ft1 k1 hk1
  · rw [hx_pi_ne _ _ (fun q => z q.1)]
    rw [hx_up_ne (fun q => z (by
      have : c1 = c ∧ k1 = k := by
        have e1 : (k1 + w * c1) % w = k1 := by rw [Nat.add_mul_mod_self_left]; exact Nat.mod_eq_of_lt hk1
        have e2 : (k + w * c) % w = k := by rw [Nat.add_mul_mod_self_left]; exact Nat.mod_eq_of_lt hk
        have e3 : k1 = k := by rw [← e1, q, e2]
        subst e3
        have e4 : w * c1 = w * c := by omega
        exact ⟨Nat.eq_of_mul_eq_mul_left (by omega) e4, rfl⟩
      obtain ⟨rfl, rfl⟩ := this
      rw [fo] at fo1
      cases fo1
      rw [ft] at ft1
      cases ft1; rfl))]
    exact H.1 c1 hc1 hn1 o1 t1 fo1 ft1 k1 hk1
/-- one more claim -/
theorem hv_FX_c {p t : Nat} {m : Int} {i : Int32} {G : Nat → Int32} (H : hv_FX w kf h qc F n) (hN : hv_NF kf h qc t n) (hT : hx_T tb L h) (gc : hx_g L h qc tc) (gq : hx_g L h p 2) (hd : tb[tc]? = some (.inr (t0, 100, .inr (nn, [2])))) (ne : (2 : Nat) ≠ tc) (eh : h1 = hx_pr h qc i.toNatClampNeg (some p)) (h0 : 0 ≤ i.toInt) (hi : i.toInt = n) (ft0 : h.2.2 p kf = some t) (hG : ∀ k, k < w → h.2.1 t k = G (k + w * n.toNat)) (hF : ∀ c k : Nat, (c : Int) < n → k < w → G (k + w * c) = F (k + w * c)) (hm : m = n + 1) : hv_FX w kf h1 qc G m := by
  have e1 : i.toNatClampNeg = n.toNat := by unfold Int32.toNatClampNeg; omega
  subst eh; subst hm
  rw [e1]
  have key : ∀ c : Nat, c < 100 → (c : Int) < n + 1 → ∀ o t1, (hx_pr h qc n.toNat (some p)).2.2 qc c = some o → (hx_pr h qc n.toNat (some p)).2.2 o kf = some t1 → (c = n.toNat ∧ o = p ∧ t1 = t) ∨ ((c : Int) < n ∧ h.2.2 qc c = some o ∧ h.2.2 o kf = some t1) := by
    intro c hc hcn o t1 fo ft
    by_cases z : c = n.toNat
    · subst z
      rw [hx_pr_at] at fo
      cases fo
      have q2 : p ≠ qc := fun z => ne (by rw [← gq.2, z, gc.2])
      rw [hx_pr_ne h (some p) (fun z => q2 z.1), ft0] at ft
      cases ft
      exact Or.inl ⟨rfl, rfl, rfl⟩
    · rw [hx_pr_ne h (some p) (fun w => z w.2)] at fo
      obtain ⟨c1, c2⟩ := (hT.er gc hd (k := c) hc).2 o fo
      have c3 : h.1 o = 2 := by simpa using c2
      have q2 : o ≠ qc := fun z => ne (by rw [← c3, z, gc.2])
      rw [hx_pr_ne h (some p) (fun z => q2 z.1)] at ft
      exact Or.inr ⟨by omega, fo, ft⟩
  refine ⟨fun c hc hcn o t1 fo ft k hk => ?_, fun c c' hc hc' hn hn' o o' t1 fo fo' ft ft' => ?_⟩
  · show h.2.1 t1 k = _
    rcases key c hc hcn o t1 fo ft with ⟨a, b, d⟩ | ⟨a, b, d⟩
    · subst a; subst d; exact hG k hk
    · rw [hF c k a hk]; exact H.1 c hc a o t1 b d k hk
  · rcases key c hc hn o t1 fo ft with ⟨a, b, d⟩ | ⟨a, b, d⟩ <;> rcases key c' hc' hn' o' t1 fo' ft' with ⟨a', b', d'⟩ | ⟨a', b', d'⟩
    · rw [a, a']
    · exact absurd d (hN c' hc' a' o' t1 b' d')
    · exact absurd d' (hN c hc a o t1 b d)
    · exact H.2 c c' hc hc' a a' o o' t1 b b' d d'
theorem hv_NF_S {t : Nat} (hs : hx_S tb M L h L1 h1) (hT : hx_T tb L h) (gc : hx_g L h qc tc) (hd : tb[tc]? = some (.inr (t0, 100, .inr (nn, [2])))) (h2 : tb[2]? = some (.inl (ci2, fs2))) (mc : M.any (fun q => q.1 == tc) = false) (mk : M.contains (2, kf) = false) (H : hv_NF kf h qc t n) : hv_NF kf h1 qc t n := by
  intro c hc hcn o t1 fo ft
  rw [(hs.a gc mc c).2] at fo
  obtain ⟨c1, c2⟩ := (hT.er gc hd (k := c) hc).2 o fo
  have go : hx_g L h o 2 := ⟨c1, by simpa using c2⟩
  rw [(hs.o (k := kf) go (by rw [h2]; trivial) mk).2] at ft
  exact H c hc hcn o t1 fo ft
/-- a new cell is none of theirs -/
theorem hv_NF_i {t : Nat} (hs : hx_S tb M (hx_X L x) h L1 h1) (hT : hx_T tb L h) (gc : hx_g (hx_X L x) h qc tc) (gx : hx_g L h x t9) (hd : tb[tc]? = some (.inr (t0, 100, .inr (nn, [2])))) (h2 : tb[2]? = some (.inl (ci2, fs2))) (f2 : fs2[kf]? = some (.inr (b4, [tf]))) (mc : M.any (fun q => q.1 == tc) = false) (mk : M.contains (2, kf) = false) (ne : (2 : Nat) ≠ t9 ∧ tf ≠ t9) (hf : ∀ a ∈ hx_X L x, a ≠ t) : hv_NF kf h1 qc t n := by
  intro c hc hcn o t1 fo ft
  rw [(hs.a gc mc c).2] at fo
  obtain ⟨c1, c2⟩ := (hT.er ⟨(hx_X_m.mp gc.1).1, gc.2⟩ hd (k := c) hc).2 o fo
  have c3 : h.1 o = 2 := by simpa using c2
  have go : hx_g (hx_X L x) h o 2 := ⟨hx_X_m.mpr ⟨c1, fun z => ne.1 (by rw [← c3, z, gx.2])⟩, c3⟩
  rw [(hs.o (k := kf) go (by rw [h2]; trivial) mk).2] at ft
  obtain ⟨d1, d2⟩ := (hT.gr ⟨c1, c3⟩ h2 f2).2 t1 ft
  have d3 : h.1 t1 = tf := by simpa using d2
  exact hf t1 (hx_X_m.mpr ⟨d1, fun z => ne.2 (by rw [← d3, z, gx.2])⟩)
end HVAC
/-- whom two claims are against or by, by their numbers -/
theorem hv_pid {h : hx_h} {qc qp pk k0 c1 c2 o1 o2 d1 d2 : Nat} {f : Nat → Int32} {n np : Int} (H : hw_DF h qc qp pk f n) (hn : hx_num 40 h qp k0 np) (l1 : c1 < 100) (l2 : c2 < 100) (n1 : (c1 : Int) < n) (n2 : (c2 : Int) < n) (f1 : h.2.2 qc c1 = some o1) (f2 : h.2.2 qc c2 = some o2) (g1 : h.2.2 o1 pk = some d1) (g2 : h.2.2 o2 pk = some d2) : d1 = d2 ↔ (f c1).toInt = (f c2).toInt := by
  obtain ⟨a1, b1, e1⟩ := H c1 l1 n1 o1 d1 f1 g1
  obtain ⟨a2, b2, e2⟩ := H c2 l2 n2 o2 d2 f2 g2
  constructor
  · intro e
    subst e
    have := hx_num_eq hn (by omega) (by omega) e1 e2
    omega
  · intro e
    rw [e, e2] at e1
    exact (Option.some.inj e1).symm
theorem hv_ki_t {kf : Nat → Int32} {j p : Nat} : hv_ki kf j p = true ↔ j = p ∨ ((kf j).toInt ≠ -1 ∧ (kf j).toInt = (kf p).toInt) := by
  unfold hv_ki
  rw [Bool.or_eq_true, Bool.and_eq_true, decide_eq_true_iff, decide_eq_true_iff, decide_eq_true_iff]
theorem hv_ki_f {kf : Nat → Int32} {j p : Nat} (h : ¬ (j = p ∨ ((kf j).toInt ≠ -1 ∧ (kf j).toInt = (kf p).toInt))) : hv_ki kf j p = false := by
  cases e : hv_ki kf j p with
  | false => rfl
  | true => exact absurd (hv_ki_t.mp e) h
theorem hv_ft_t {jf df kf : Nat → Int32} {p q j : Nat} : hv_ft jf df kf p q j = true ↔ (jf j).toInt ≠ 0 ∧ (df j).toInt = 0 ∧ hv_ki kf j p = false ∧ hv_ki kf j q = false := by
  unfold hv_ft
  rw [Bool.and_eq_true, Bool.and_eq_true, Bool.and_eq_true, decide_eq_true_iff, decide_eq_true_iff, Bool.not_eq_true', Bool.not_eq_true']
theorem hv_ft_f {jf df kf : Nat → Int32} {p q j : Nat} (h : ¬ ((jf j).toInt ≠ 0 ∧ (df j).toInt = 0 ∧ hv_ki kf j p = false ∧ hv_ki kf j q = false)) : hv_ft jf df kf p q j = false := by
  cases e : hv_ft jf df kf p q j with
  | false => rfl
  | true => exact absurd (hv_ft_t.mp e) h
theorem hv_n6b : (List.range 41).all (fun n => decide (((Int32.ofNat n) * (Int32.ofNat n - 1) * (Int32.ofNat n - 2) / 6).toInt = hv_T3 n)) = true := by decide +kernel
theorem hv_n6 {n a p b q s : Int32} (h0 : 0 ≤ n.toInt) (h1 : n.toInt ≤ 40) (ea : a.toInt = n.toInt - 1) (ep : p = n * a) (eb : b.toInt = n.toInt - 2) (eq : q = p * b) (es : s = q / 6) : s.toInt = hv_T3 n.toInt.toNat := by
  have h := List.all_eq_true.mp hv_n6b n.toInt.toNat (List.mem_range.mpr (by omega))
  rw [decide_eq_true_iff] at h
  have e0 : Int32.ofNat n.toInt.toNat = n := Int32.toInt_inj.mp (by rw [Int32.toInt_ofNat_of_lt (by omega)]; omega)
  have e1 : n - 1 = a := Int32.toInt_inj.mp ((i32_sub rfl (by decide) (by omega) (by omega)).trans ea.symm)
  have e2 : n - 2 = b := Int32.toInt_inj.mp ((i32_sub rfl (by decide) (by omega) (by omega)).trans eb.symm)
  rw [e0, e1, e2] at h
  rw [es, eq, ep]; exact h
end
section
set_option maxHeartbeats 4000000 in
set_option maxRecDepth 100000 in
theorem t_X0_holds_v (l : Launch) (dC : Nat → ClassId) (dI : Nat → Nat → Nat) (dA : Nat → ClassId) (L : List Nat) (h : hx_h) (sz : Nat) (i1 : Int32) (v1 : Nat) (hT : hx_T T_tb L h) (gv1 : hx_g L h v1 20) (ff : Nat → Int32) (af_v1 : h.2.1 v1 = ff) (t : hv_tok) (hvt : hv_vt t) (ht1 : 1 ≤ t.1) (hi1 : i1.toInt = hv_cc t) : Met l yX0_holds (Cond.code yX0_holds cX0_holds 5 (some .boolean) :: hx_all) ({ frames := 0, cells := 0, slots := 0, locals := 0 }) (va_Pc [.int i1, .ref v1] (hx_B T_tb (P_ty dA) (dC, dI) vwCl L h sz)) (va_Qi (fun (r : Int32) (u : List Nat × hx_h) => ((r.toInt = 1 ∧ hv_hd (hv_F0 ff 0) t = true) ∨ (r.toInt = 0 ∧ hv_hd (hv_F0 ff 0) t = false)) ∧ hx_T T_tb u.1 u.2 ∧ hx_S T_tb [] L h u.1 u.2) (hx_E T_tb (P_ty dA) (dC, dI) vwCl (hx_A L sz)) (hx_A L sz)) 0 0 (hx_A L sz) := by
  refine hx_met (lv := [(0, .int i1), (1, .ref v1)]) (by decide +kernel) rfl (Nat.le_of_ble_eq_true rfl) rfl ?_
  intro p e s m below meth c hx hb hml hr hlk hts0 hown hin hsz hW ls hl
  have hts : ∀ w ∈ hx_all, w.before _ s = true := fun w hw => hts0 w (List.mem_cons_of_mem _ hw)
  have hown : s.vm.findClass "SmallCourt$Act" = some m.cls := hown
  have hM : hx_S T_tb [] L h L h := hx_S.rf
  have hcd := hv_cc_d hvt ht1
  have hvb : 0 ≤ t.2.2 ∧ t.2.2 ≤ 10007 := ?o0
  case o0 =>
    rcases hvt with ⟨a, _⟩ | ⟨a, b, c, d, e⟩
    (exfalso; omega)
    exact ⟨d, e⟩
  refine lv_aload_n hx hb dX0_holds_0 rfl (lv_at hl 1 rfl) ?_
  refine lv_iload_n hx hb dX0_holds_1 rfl (lv_at hl 0 rfl) ?_
  refine lv_bipush (v := 7) hx hb dX0_holds_2 ?o1 ?_
  case o1 => decide
  refine lv_iand hx hb dX0_holds_4 ?_
  refine lv_topi (fun x_1 ex_1 => ?_)
  have zx_1 : 0 ≤ x_1.toInt ∧ x_1.toInt ≤ 7 := ?o2
  case o2 =>
    rw [ex_1]
    refine hx_andR ?o3 ?o4
    case o3 => decide
    case o4 => decide
  have hixa9 := hv_and7 ?o5 ex_1
  case o5 => omega
  refine hx_iald hx hb hW hT (gv1.S hM) tt_20 rfl ⟨?o6, ?o7⟩ dX0_holds_5 (fun x_2 ex_2 lx_2 ux_2 => ?_)
  case o6 => omega
  case o7 => omega
  have ax_2 : x_2 = ff x_1.toNatClampNeg := ex_2.trans (congrFun (hx_afS hM gv1 rfl af_v1) _)
  refine lv_istore_n (lv' := [(2, .int x_2), (0, .int i1), (1, .ref v1)]) hx hb dX0_holds_6 rfl hl ?o8 rfl (fun ls hl => ?_)
  case o8 => decide
  refine lv_iload_n hx hb dX0_holds_7 rfl (lv_at hl 1 rfl) ?_
  refine lv_bipush (v := 7) hx hb dX0_holds_8 ?o9 ?_
  case o9 => decide
  refine lv_ishr hx hb dX0_holds_10 ?_
  refine lv_topi (fun x_3 ex_3 => ?_)
  have hhr79 := hv_shr7 ?o10 ex_3
  case o10 => omega
  refine lv_istore_n (lv' := [(3, .int x_3), (2, .int x_2), (0, .int i1), (1, .ref v1)]) hx hb dX0_holds_11 rfl hl ?o11 rfl (fun ls hl => ?_)
  case o11 => decide
  refine lv_iload_n hx hb dX0_holds_12 rfl (lv_at hl 2 rfl) ?_
  refine lv_bipush (v := 6) hx hb dX0_holds_13 ?o12 ?_
  case o12 => decide
  refine lv_ishr hx hb dX0_holds_15 ?_
  refine lv_topi (fun x_4 ex_4 => ?_)
  have hh69 := hv_shr6 ?o13 ex_4
  case o13 => omega
  refine lv_iconst (v := 1) hx hb dX0_holds_16 ?o14 ?_
  case o14 => decide
  refine lv_iand hx hb dX0_holds_17 ?_
  refine lv_topi (fun x_5 ex_5 => ?_)
  have zx_5 : 0 ≤ x_5.toInt ∧ x_5.toInt ≤ 1 := ?o15
  case o15 =>
    rw [ex_5]
    refine hx_andR ?o16 ?o17
    case o16 => decide
    case o17 => decide
  have hhb69 := hv_and1 ?o18 ex_5
  case o18 => omega
  refine lv_iconst (v := 1) hx hb dX0_holds_18 ?o19 ?_
  case o19 => decide
  refine hb_icmp_ne (zx := x_5.toInt) (zy := 1) (tgt := 29) hx hb rfl ?o20 dX0_holds_19 ?o21 (fun c_6 => ?_) (fun c_6 => ?_)
  case o20 => decide
  case o21 => decide
  · skip
    have hm9 := hq_i (hv_hd_c (F := hv_F0 ff 0) (t := t) (l := x_2.toInt) (r := x_3.toInt) (s := hv_scd (t.2.1, 1)) hvt ht1 (by rw [ax_2]; exact congrArg (fun z => (ff z).toInt) (show x_1.toNatClampNeg = (t.1 - 1).toNat + 0 by unfold Int32.toNatClampNeg; omega)) (by rw [if_neg (by omega)]; omega) rfl)
    refine lv_iload_n hx hb dX0_holds_29 rfl (lv_at hl 1 rfl) ?_
    refine lv_iload_n hx hb dX0_holds_30 rfl (lv_at hl 0 rfl) ?_
    refine hb_icmp_ge (zx := x_2.toInt) (zy := x_3.toInt) (tgt := 38) hx hb rfl rfl dX0_holds_31 ?o22 (fun c_7 => ?_) (fun c_7 => ?_)
    case o22 => decide
    · skip
      refine lv_iload_n hx hb dX0_holds_38 rfl (lv_at hl 1 rfl) ?_
      refine lv_iload_n hx hb dX0_holds_39 rfl (lv_at hl 0 rfl) ?_
      refine hb_icmp_ne (zx := x_2.toInt) (zy := x_3.toInt) (tgt := 47) hx hb rfl rfl dX0_holds_40 ?o23 (fun c_8 => ?_) (fun c_8 => ?_)
      case o23 => decide
      · skip
        refine lv_iconst (v := 4) hx hb dX0_holds_47 ?o24 ?_
        case o24 => decide
        refine lv_istore (lv' := [(4, .int (4 : Int32)), (3, .int x_3), (2, .int x_2), (0, .int i1), (1, .ref v1)]) hx hb dX0_holds_48 hl ?o25 rfl (fun ls hl => ?_)
        case o25 => decide
        refine lv_iload_n hx hb dX0_holds_50 rfl (lv_at hl 3 rfl) ?_
        refine lv_iconst (v := 3) hx hb dX0_holds_51 ?o26 ?_
        case o26 => decide
        refine lv_ishr hx hb dX0_holds_52 ?_
        refine lv_topi (fun x_9 ex_9 => ?_)
        have hh39 := hv_shr3 ?o27 ex_9
        case o27 => omega
        refine lv_iload hx hb dX0_holds_53 (lv_at hl 0 rfl) ?_
        refine lv_iand hx hb dX0_holds_55 ?_
        refine lv_topi (fun x_10 ex_10 => ?_)
        have zx_10 : 0 ≤ x_10.toInt ∧ x_10.toInt ≤ 4 := ?o28
        case o28 =>
          rw [ex_10]
          refine hx_andR ?o29 ?o30
          case o29 => decide
          case o30 => decide
        have hbt9 := hv_bitC ?o31 ex_10
        case o31 => omega
        have hS9 := hv_bitS (s := hv_scd (t.2.1, 1)) (x := x_9.toInt) (by rw [hh39, hi1]; exact hcd.2.2.1)
        refine hb_if_eq (zx := x_10.toInt) (tgt := 63) hx hb rfl dX0_holds_56 ?o32 (fun c_11 => ?_) (fun c_11 => ?_)
        case o32 => decide
        · skip
          refine lv_iconst (v := 0) hx hb dX0_holds_63 ?o33 ?_
          case o33 => decide
          refine hx_retz hx hb hr rfl hlk hW ⟨(Or.inr ⟨?o34, hv_nb (hv_hdC (hq_o hm9) ?o35 hS9 hbt9) ?o36⟩), hT, hM⟩ dX0_holds_64
          case o34 => decide
          case o35 => omega
          case o36 => omega
        · skip
          refine lv_iconst (v := 1) hx hb dX0_holds_59 ?o37 ?_
          case o37 => decide
          refine lv_goto (tgt := 64) hx hb dX0_holds_60 ?o38 ?_
          case o38 => decide
          refine hx_retz hx hb hr rfl hlk hW ⟨(Or.inl ⟨?o39, (hv_hdC (hq_o hm9) ?o40 hS9 hbt9).mpr ?o41⟩), hT, hM⟩ dX0_holds_64
          case o39 => decide
          case o40 => omega
          case o41 => omega
      · skip
        refine lv_iconst (v := 2) hx hb dX0_holds_43 ?o42 ?_
        case o42 => decide
        refine lv_goto (tgt := 48) hx hb dX0_holds_44 ?o43 ?_
        case o43 => decide
        refine lv_istore (lv' := [(4, .int (2 : Int32)), (3, .int x_3), (2, .int x_2), (0, .int i1), (1, .ref v1)]) hx hb dX0_holds_48 hl ?o44 rfl (fun ls hl => ?_)
        case o44 => decide
        refine lv_iload_n hx hb dX0_holds_50 rfl (lv_at hl 3 rfl) ?_
        refine lv_iconst (v := 3) hx hb dX0_holds_51 ?o45 ?_
        case o45 => decide
        refine lv_ishr hx hb dX0_holds_52 ?_
        refine lv_topi (fun x_12 ex_12 => ?_)
        have hh39 := hv_shr3 ?o46 ex_12
        case o46 => omega
        refine lv_iload hx hb dX0_holds_53 (lv_at hl 0 rfl) ?_
        refine lv_iand hx hb dX0_holds_55 ?_
        refine lv_topi (fun x_13 ex_13 => ?_)
        have zx_13 : 0 ≤ x_13.toInt ∧ x_13.toInt ≤ 2 := ?o47
        case o47 =>
          rw [ex_13]
          refine hx_andR ?o48 ?o49
          case o48 => decide
          case o49 => decide
        have hbt9 := hv_bitB ?o50 ex_13
        case o50 => omega
        have hS9 := hv_bitS (s := hv_scd (t.2.1, 1)) (x := x_12.toInt) (by rw [hh39, hi1]; exact hcd.2.2.1)
        refine hb_if_eq (zx := x_13.toInt) (tgt := 63) hx hb rfl dX0_holds_56 ?o51 (fun c_14 => ?_) (fun c_14 => ?_)
        case o51 => decide
        · skip
          refine lv_iconst (v := 0) hx hb dX0_holds_63 ?o52 ?_
          case o52 => decide
          refine hx_retz hx hb hr rfl hlk hW ⟨(Or.inr ⟨?o53, hv_nb (hv_hdB (hq_o hm9) ?o54 hS9 hbt9) ?o55⟩), hT, hM⟩ dX0_holds_64
          case o53 => decide
          case o54 => omega
          case o55 => omega
        · skip
          refine lv_iconst (v := 1) hx hb dX0_holds_59 ?o56 ?_
          case o56 => decide
          refine lv_goto (tgt := 64) hx hb dX0_holds_60 ?o57 ?_
          case o57 => decide
          refine hx_retz hx hb hr rfl hlk hW ⟨(Or.inl ⟨?o58, (hv_hdB (hq_o hm9) ?o59 hS9 hbt9).mpr ?o60⟩), hT, hM⟩ dX0_holds_64
          case o58 => decide
          case o59 => omega
          case o60 => omega
    · skip
      refine lv_iconst (v := 1) hx hb dX0_holds_34 ?o61 ?_
      case o61 => decide
      refine lv_goto (tgt := 48) hx hb dX0_holds_35 ?o62 ?_
      case o62 => decide
      refine lv_istore (lv' := [(4, .int (1 : Int32)), (3, .int x_3), (2, .int x_2), (0, .int i1), (1, .ref v1)]) hx hb dX0_holds_48 hl ?o63 rfl (fun ls hl => ?_)
      case o63 => decide
      refine lv_iload_n hx hb dX0_holds_50 rfl (lv_at hl 3 rfl) ?_
      refine lv_iconst (v := 3) hx hb dX0_holds_51 ?o64 ?_
      case o64 => decide
      refine lv_ishr hx hb dX0_holds_52 ?_
      refine lv_topi (fun x_15 ex_15 => ?_)
      have hh39 := hv_shr3 ?o65 ex_15
      case o65 => omega
      refine lv_iload hx hb dX0_holds_53 (lv_at hl 0 rfl) ?_
      refine lv_iand hx hb dX0_holds_55 ?_
      refine lv_topi (fun x_16 ex_16 => ?_)
      have zx_16 : 0 ≤ x_16.toInt ∧ x_16.toInt ≤ 1 := ?o66
      case o66 =>
        rw [ex_16]
        refine hx_andR ?o67 ?o68
        case o67 => decide
        case o68 => decide
      have hbt9 := hv_bitA ?o69 ex_16
      case o69 => omega
      have hS9 := hv_bitS (s := hv_scd (t.2.1, 1)) (x := x_15.toInt) (by rw [hh39, hi1]; exact hcd.2.2.1)
      refine hb_if_eq (zx := x_16.toInt) (tgt := 63) hx hb rfl dX0_holds_56 ?o70 (fun c_17 => ?_) (fun c_17 => ?_)
      case o70 => decide
      · skip
        refine lv_iconst (v := 0) hx hb dX0_holds_63 ?o71 ?_
        case o71 => decide
        refine hx_retz hx hb hr rfl hlk hW ⟨(Or.inr ⟨?o72, hv_nb (hv_hdA (hq_o hm9) ?o73 hS9 hbt9) ?o74⟩), hT, hM⟩ dX0_holds_64
        case o72 => decide
        case o73 => omega
        case o74 => omega
      · skip
        refine lv_iconst (v := 1) hx hb dX0_holds_59 ?o75 ?_
        case o75 => decide
        refine lv_goto (tgt := 64) hx hb dX0_holds_60 ?o76 ?_
        case o76 => decide
        refine hx_retz hx hb hr rfl hlk hW ⟨(Or.inl ⟨?o77, (hv_hdA (hq_o hm9) ?o78 hS9 hbt9).mpr ?o79⟩), hT, hM⟩ dX0_holds_64
        case o77 => decide
        case o78 => omega
        case o79 => omega
  · skip
    refine lv_aload_n hx hb dX0_holds_22 rfl (lv_at hl 3 rfl) ?_
    refine lv_iload_n hx hb dX0_holds_23 rfl (lv_at hl 0 rfl) ?_
    refine lv_bipush (v := 7) hx hb dX0_holds_24 ?o80 ?_
    case o80 => decide
    refine lv_iand hx hb dX0_holds_26 ?_
    refine lv_topi (fun x_18 ex_18 => ?_)
    have zx_18 : 0 ≤ x_18.toInt ∧ x_18.toInt ≤ 7 := ?o81
    case o81 =>
      rw [ex_18]
      refine hx_andR ?o82 ?o83
      case o82 => decide
      case o83 => decide
    have hixb9 := hv_and7 ?o84 ex_18
    case o84 => omega
    refine hx_iald hx hb hW hT (gv1.S hM) tt_20 rfl ⟨?o85, ?o86⟩ dX0_holds_27 (fun x_19 ex_19 lx_19 ux_19 => ?_)
    case o85 => omega
    case o86 => omega
    have ax_19 : x_19 = ff x_18.toNatClampNeg := ex_19.trans (congrFun (hx_afS hM gv1 rfl af_v1) _)
    refine lv_istore_n (lv' := [(3, .int x_19), (2, .int x_2), (0, .int i1), (1, .ref v1)]) hx hb dX0_holds_28 rfl hl ?o87 rfl (fun ls hl => ?_)
    case o87 => decide
    have hm9 := hq_i (hv_hd_c (F := hv_F0 ff 0) (t := t) (l := x_2.toInt) (r := x_19.toInt) (s := hv_scd (t.2.1, 1)) hvt ht1 (by rw [ax_2]; exact congrArg (fun z => (ff z).toInt) (show x_1.toNatClampNeg = (t.1 - 1).toNat + 0 by unfold Int32.toNatClampNeg; omega)) (by rw [if_pos (by omega)]; exact (by rw [ax_19]; exact congrArg (fun z => (ff z).toInt) (show x_18.toNatClampNeg = (t.2.2 - 10000).toNat + 0 by unfold Int32.toNatClampNeg; omega))) rfl)
    refine lv_iload_n hx hb dX0_holds_29 rfl (lv_at hl 1 rfl) ?_
    refine lv_iload_n hx hb dX0_holds_30 rfl (lv_at hl 0 rfl) ?_
    refine hb_icmp_ge (zx := x_2.toInt) (zy := x_19.toInt) (tgt := 38) hx hb rfl rfl dX0_holds_31 ?o88 (fun c_20 => ?_) (fun c_20 => ?_)
    case o88 => decide
    · skip
      refine lv_iload_n hx hb dX0_holds_38 rfl (lv_at hl 1 rfl) ?_
      refine lv_iload_n hx hb dX0_holds_39 rfl (lv_at hl 0 rfl) ?_
      refine hb_icmp_ne (zx := x_2.toInt) (zy := x_19.toInt) (tgt := 47) hx hb rfl rfl dX0_holds_40 ?o89 (fun c_21 => ?_) (fun c_21 => ?_)
      case o89 => decide
      · skip
        refine lv_iconst (v := 4) hx hb dX0_holds_47 ?o90 ?_
        case o90 => decide
        refine lv_istore (lv' := [(4, .int (4 : Int32)), (3, .int x_19), (2, .int x_2), (0, .int i1), (1, .ref v1)]) hx hb dX0_holds_48 hl ?o91 rfl (fun ls hl => ?_)
        case o91 => decide
        refine lv_iload_n hx hb dX0_holds_50 rfl (lv_at hl 3 rfl) ?_
        refine lv_iconst (v := 3) hx hb dX0_holds_51 ?o92 ?_
        case o92 => decide
        refine lv_ishr hx hb dX0_holds_52 ?_
        refine lv_topi (fun x_22 ex_22 => ?_)
        have hh39 := hv_shr3 ?o93 ex_22
        case o93 => omega
        refine lv_iload hx hb dX0_holds_53 (lv_at hl 0 rfl) ?_
        refine lv_iand hx hb dX0_holds_55 ?_
        refine lv_topi (fun x_23 ex_23 => ?_)
        have zx_23 : 0 ≤ x_23.toInt ∧ x_23.toInt ≤ 4 := ?o94
        case o94 =>
          rw [ex_23]
          refine hx_andR ?o95 ?o96
          case o95 => decide
          case o96 => decide
        have hbt9 := hv_bitC ?o97 ex_23
        case o97 => omega
        have hS9 := hv_bitS (s := hv_scd (t.2.1, 1)) (x := x_22.toInt) (by rw [hh39, hi1]; exact hcd.2.2.1)
        refine hb_if_eq (zx := x_23.toInt) (tgt := 63) hx hb rfl dX0_holds_56 ?o98 (fun c_24 => ?_) (fun c_24 => ?_)
        case o98 => decide
        · skip
          refine lv_iconst (v := 0) hx hb dX0_holds_63 ?o99 ?_
          case o99 => decide
          refine hx_retz hx hb hr rfl hlk hW ⟨(Or.inr ⟨?o100, hv_nb (hv_hdC (hq_o hm9) ?o101 hS9 hbt9) ?o102⟩), hT, hM⟩ dX0_holds_64
          case o100 => decide
          case o101 => omega
          case o102 => omega
        · skip
          refine lv_iconst (v := 1) hx hb dX0_holds_59 ?o103 ?_
          case o103 => decide
          refine lv_goto (tgt := 64) hx hb dX0_holds_60 ?o104 ?_
          case o104 => decide
          refine hx_retz hx hb hr rfl hlk hW ⟨(Or.inl ⟨?o105, (hv_hdC (hq_o hm9) ?o106 hS9 hbt9).mpr ?o107⟩), hT, hM⟩ dX0_holds_64
          case o105 => decide
          case o106 => omega
          case o107 => omega
      · skip
        refine lv_iconst (v := 2) hx hb dX0_holds_43 ?o108 ?_
        case o108 => decide
        refine lv_goto (tgt := 48) hx hb dX0_holds_44 ?o109 ?_
        case o109 => decide
        refine lv_istore (lv' := [(4, .int (2 : Int32)), (3, .int x_19), (2, .int x_2), (0, .int i1), (1, .ref v1)]) hx hb dX0_holds_48 hl ?o110 rfl (fun ls hl => ?_)
        case o110 => decide
        refine lv_iload_n hx hb dX0_holds_50 rfl (lv_at hl 3 rfl) ?_
        refine lv_iconst (v := 3) hx hb dX0_holds_51 ?o111 ?_
        case o111 => decide
        refine lv_ishr hx hb dX0_holds_52 ?_
        refine lv_topi (fun x_25 ex_25 => ?_)
        have hh39 := hv_shr3 ?o112 ex_25
        case o112 => omega
        refine lv_iload hx hb dX0_holds_53 (lv_at hl 0 rfl) ?_
        refine lv_iand hx hb dX0_holds_55 ?_
        refine lv_topi (fun x_26 ex_26 => ?_)
        have zx_26 : 0 ≤ x_26.toInt ∧ x_26.toInt ≤ 2 := ?o113
        case o113 =>
          rw [ex_26]
          refine hx_andR ?o114 ?o115
          case o114 => decide
          case o115 => decide
        have hbt9 := hv_bitB ?o116 ex_26
        case o116 => omega
        have hS9 := hv_bitS (s := hv_scd (t.2.1, 1)) (x := x_25.toInt) (by rw [hh39, hi1]; exact hcd.2.2.1)
        refine hb_if_eq (zx := x_26.toInt) (tgt := 63) hx hb rfl dX0_holds_56 ?o117 (fun c_27 => ?_) (fun c_27 => ?_)
        case o117 => decide
        · skip
          refine lv_iconst (v := 0) hx hb dX0_holds_63 ?o118 ?_
          case o118 => decide
          refine hx_retz hx hb hr rfl hlk hW ⟨(Or.inr ⟨?o119, hv_nb (hv_hdB (hq_o hm9) ?o120 hS9 hbt9) ?o121⟩), hT, hM⟩ dX0_holds_64
          case o119 => decide
          case o120 => omega
          case o121 => omega
        · skip
          refine lv_iconst (v := 1) hx hb dX0_holds_59 ?o122 ?_
          case o122 => decide
          refine lv_goto (tgt := 64) hx hb dX0_holds_60 ?o123 ?_
          case o123 => decide
          refine hx_retz hx hb hr rfl hlk hW ⟨(Or.inl ⟨?o124, (hv_hdB (hq_o hm9) ?o125 hS9 hbt9).mpr ?o126⟩), hT, hM⟩ dX0_holds_64
          case o124 => decide
          case o125 => omega
          case o126 => omega
    · skip
      refine lv_iconst (v := 1) hx hb dX0_holds_34 ?o127 ?_
      case o127 => decide
      refine lv_goto (tgt := 48) hx hb dX0_holds_35 ?o128 ?_
      case o128 => decide
      refine lv_istore (lv' := [(4, .int (1 : Int32)), (3, .int x_19), (2, .int x_2), (0, .int i1), (1, .ref v1)]) hx hb dX0_holds_48 hl ?o129 rfl (fun ls hl => ?_)
      case o129 => decide
      refine lv_iload_n hx hb dX0_holds_50 rfl (lv_at hl 3 rfl) ?_
      refine lv_iconst (v := 3) hx hb dX0_holds_51 ?o130 ?_
      case o130 => decide
      refine lv_ishr hx hb dX0_holds_52 ?_
      refine lv_topi (fun x_28 ex_28 => ?_)
      have hh39 := hv_shr3 ?o131 ex_28
      case o131 => omega
      refine lv_iload hx hb dX0_holds_53 (lv_at hl 0 rfl) ?_
      refine lv_iand hx hb dX0_holds_55 ?_
      refine lv_topi (fun x_29 ex_29 => ?_)
      have zx_29 : 0 ≤ x_29.toInt ∧ x_29.toInt ≤ 1 := ?o132
      case o132 =>
        rw [ex_29]
        refine hx_andR ?o133 ?o134
        case o133 => decide
        case o134 => decide
      have hbt9 := hv_bitA ?o135 ex_29
      case o135 => omega
      have hS9 := hv_bitS (s := hv_scd (t.2.1, 1)) (x := x_28.toInt) (by rw [hh39, hi1]; exact hcd.2.2.1)
      refine hb_if_eq (zx := x_29.toInt) (tgt := 63) hx hb rfl dX0_holds_56 ?o136 (fun c_30 => ?_) (fun c_30 => ?_)
      case o136 => decide
      · skip
        refine lv_iconst (v := 0) hx hb dX0_holds_63 ?o137 ?_
        case o137 => decide
        refine hx_retz hx hb hr rfl hlk hW ⟨(Or.inr ⟨?o138, hv_nb (hv_hdA (hq_o hm9) ?o139 hS9 hbt9) ?o140⟩), hT, hM⟩ dX0_holds_64
        case o138 => decide
        case o139 => omega
        case o140 => omega
      · skip
        refine lv_iconst (v := 1) hx hb dX0_holds_59 ?o141 ?_
        case o141 => decide
        refine lv_goto (tgt := 64) hx hb dX0_holds_60 ?o142 ?_
        case o142 => decide
        refine hx_retz hx hb hr rfl hlk hW ⟨(Or.inl ⟨?o143, (hv_hdA (hq_o hm9) ?o144 hS9 hbt9).mpr ?o145⟩), hT, hM⟩ dX0_holds_64
        case o143 => decide
        case o144 => omega
        case o145 => omega


set_option maxHeartbeats 4000000 in
set_option maxRecDepth 100000 in
theorem t_X0_proves_v (l : Launch) (dC : Nat → ClassId) (dI : Nat → Nat → Nat) (dA : Nat → ClassId) (L : List Nat) (h : hx_h) (sz : Nat) (x : Nat) (v1 : Nat) (hT : hx_T T_tb L h) (gx : hx_g L h x 0) (gv1 : hx_g L h v1 20) (qp : Nat) (gqp : hx_g L h qp 12) (f_x_3 : h.2.2 x 3 = some qp) (ff : Nat → Int32) (af_v1 : h.2.1 v1 = ff) (pf : Nat → Int32) (af_qp : h.2.1 qp = pf) (pl0 : Int32) (f_x_4 : h.2.1 x 4 = pl0) (o : List hv_tok) (hO : hv_OK o) (hls : hv_ls pf pl0.toInt.toNat = o.map hv_cc) : Met l yX0_proves (Cond.code yX0_proves cX0_proves 6 (some .boolean) :: hx_all) ({ frames := 1, cells := 0, slots := 0, locals := 24 }) (va_Pc [.ref x, .ref v1] (hx_B T_tb (P_ty dA) (dC, dI) vwCl L h sz)) (va_Qi (fun (r : Int32) (u : List Nat × hx_h) => ((r.toInt = 1 ∧ hv_pr (hv_F0 ff 0) o = true) ∨ (r.toInt = 0 ∧ hv_pr (hv_F0 ff 0) o = false)) ∧ hx_T T_tb u.1 u.2 ∧ hx_S T_tb [] L h u.1 u.2) (hx_E T_tb (P_ty dA) (dC, dI) vwCl (hx_A L sz)) (hx_A L sz)) 0 0 (hx_A L sz) := by
  refine hx_met (lv := [(0, .ref x), (1, .ref v1)]) (by decide +kernel) rfl (Nat.le_of_ble_eq_true rfl) rfl ?_
  intro p e s m below meth c hx hb hml hr hlk hts0 hown hin hsz hW ls hl
  have hts : ∀ w ∈ hx_all, w.before _ s = true := fun w hw => hts0 w (List.mem_cons_of_mem _ hw)
  have hown : s.vm.findClass "SmallCourt$Act" = some m.cls := hown
  have hM : hx_S T_tb [] L h L h := hx_S.rf
  have b_pl0 := hT.gi gx tt_0 (k := 4) rfl
  rw [f_x_4] at b_pl0
  have b_pl0 : 0 ≤ pl0.toInt ∧ pl0.toInt ≤ 160 := b_pl0
  refine lv_iconst (v := 0) hx hb dX0_proves_0 ?o0 ?_
  case o0 => decide
  refine lv_istore_n (lv' := [(2, .int (0 : Int32)), (0, .ref x), (1, .ref v1)]) hx hb dX0_proves_1 rfl hl ?o1 rfl (fun ls hl => ?_)
  case o1 => decide
  refine lv_iconst (v := 0) hx hb dX0_proves_2 ?o2 ?_
  case o2 => decide
  refine lv_istore_n (lv' := [(3, .int (0 : Int32)), (2, .int (0 : Int32)), (0, .ref x), (1, .ref v1)]) hx hb dX0_proves_3 rfl hl ?o3 rfl (fun ls hl => ?_)
  case o3 => decide
  have loop4 : ∀ (n4 : Nat) (iv4_2 iv4_3 : Int32) (H : Heap) (locs : List Loc) (hL1 : List Nat) (hl1 : hx_h), -2147483648 ≤ iv4_2.toInt → iv4_2.toInt ≤ 2147483647 → 0 ≤ iv4_3.toInt → iv4_3.toInt ≤ 160 → (hv_bt iv4_2 (hv_ev (hv_F0 ff 0) (o.drop (pl0.toInt - iv4_3.toInt).toNat))) → (iv4_3.toInt ≤ pl0.toInt) → ∀ (ls : Array Slot), 160 - iv4_3.toInt < (n4 : Int) → hx_W T_tb (P_ty dA) (dC, dI) vwCl (hx_A L sz) s.heap hL1 hl1 s H locs → hx_T T_tb hL1 hl1 → hx_S T_tb [] L h hL1 hl1 → lv_has ls 6 [(3, .int iv4_3), (2, .int iv4_2), (0, .ref x), (1, .ref v1)] → W p l e ({ frames := 1, cells := 0, slots := 0, locals := 24 }) s m ([.ref x, .ref v1] : List Value).toArray below meth c H locs 0 0 (MQ below (va_Qi (fun (r : Int32) (u : List Nat × hx_h) => ((r.toInt = 1 ∧ hv_pr (hv_F0 ff 0) o = true) ∨ (r.toInt = 0 ∧ hv_pr (hv_F0 ff 0) o = false)) ∧ hx_T T_tb u.1 u.2 ∧ hx_S T_tb [] L h u.1 u.2) (hx_E T_tb (P_ty dA) (dC, dI) vwCl (hx_A L sz)) (hx_A L sz)) ([.ref x, .ref v1] : List Value).toArray s 0 0 (hx_A L sz)) (F0 m 4 ls []) := by
    intro n4
    induction n4 with
    | zero => intro iv4_2 iv4_3 H locs hL1 hl1 bliv4_2 buiv4_2 bliv4_3 buiv4_3 vi4_0 vi4_1 ls hn4; exfalso; omega
    | succ n4 ih4 =>
      intro iv4_2 iv4_3 H locs hL1 hl1 bliv4_2 buiv4_2 bliv4_3 buiv4_3 vi4_0 vi4_1 ls hn4 hW hT hM   hl
      refine lv_iload_n hx hb dX0_proves_4 rfl (lv_at hl 0 rfl) ?_
      refine lv_aload_n hx hb dX0_proves_5 rfl (lv_at hl 2 rfl) ?_
      refine hk_geti hx hb hts hC_0 hown hW (gx.S hM) tt_0 4 ?o4 rfl kw_173 ⟨rfl, rfl, rfl⟩ ((hM.o gx trivial rfl).1.trans f_x_4) dX0_proves_6 ?_
      case o4 => decide
      refine hb_icmp_ge (zx := iv4_3.toInt) (zy := pl0.toInt) (tgt := 122) hx hb rfl rfl dX0_proves_9 ?o5 (fun c_1 => ?_) (fun c_1 => ?_)
      case o5 => decide
      · skip
        refine lv_iload_n hx hb dX0_proves_122 rfl (lv_at hl 1 rfl) ?_
        refine lv_iconst (v := 1) hx hb dX0_proves_123 ?o6 ?_
        case o6 => decide
        refine lv_iand hx hb dX0_proves_124 ?_
        refine lv_topi (fun x_2 ex_2 => ?_)
        have zx_2 : 0 ≤ x_2.toInt ∧ x_2.toInt ≤ 1 := ?o7
        case o7 =>
          rw [ex_2]
          refine hx_andR ?o8 ?o9
          case o8 => decide
          case o9 => decide
        refine lv_iconst (v := 1) hx hb dX0_proves_125 ?o10 ?_
        case o10 => decide
        refine hb_icmp_ne (zx := x_2.toInt) (zy := 1) (tgt := 133) hx hb rfl ?o11 dX0_proves_126 ?o12 (fun c_3 => ?_) (fun c_3 => ?_)
        case o11 => decide
        case o12 => decide
        · skip
          refine lv_iconst (v := 0) hx hb dX0_proves_133 ?o13 ?_
          case o13 => decide
          exact hx_retz hx hb hr rfl hlk hW ⟨(by have h8 := vi4_0; rw [show (pl0.toInt - iv4_3.toInt).toNat = 0 by omega] at h8; have h7 := hv_cE hO h8 ex_2; rcases h7 with z | z; (exfalso; omega); exact Or.inr ⟨by decide, z.2⟩), hT, hM⟩ dX0_proves_134
        · skip
          refine lv_iconst (v := 1) hx hb dX0_proves_129 ?o14 ?_
          case o14 => decide
          refine lv_goto (tgt := 134) hx hb dX0_proves_130 ?o15 ?_
          case o15 => decide
          exact hx_retz hx hb hr rfl hlk hW ⟨(by have h8 := vi4_0; rw [show (pl0.toInt - iv4_3.toInt).toNat = 0 by omega] at h8; have h7 := hv_cE hO h8 ex_2; rcases h7 with z | z; exact Or.inl ⟨by decide, z.2⟩; exfalso; omega), hT, hM⟩ dX0_proves_134
      · skip
        refine lv_iload_n hx hb dX0_proves_12 rfl (lv_at hl 1 rfl) ?_
        refine lv_iconst (v := 1) hx hb dX0_proves_13 ?o16 ?_
        case o16 => decide
        refine lv_iand hx hb dX0_proves_14 ?_
        refine lv_topi (fun x_4 ex_4 => ?_)
        have zx_4 : 0 ≤ x_4.toInt ∧ x_4.toInt ≤ 1 := ?o17
        case o17 =>
          rw [ex_4]
          refine hx_andR ?o18 ?o19
          case o18 => decide
          case o19 => decide
        refine lv_istore (lv' := [(4, .int x_4), (3, .int iv4_3), (2, .int iv4_2), (0, .ref x), (1, .ref v1)]) hx hb dX0_proves_15 hl ?o20 rfl (fun ls hl => ?_)
        case o20 => decide
        refine lv_iload_n hx hb dX0_proves_17 rfl (lv_at hl 2 rfl) ?_
        refine lv_iconst (v := 1) hx hb dX0_proves_18 ?o21 ?_
        case o21 => decide
        refine lv_ishr hx hb dX0_proves_19 ?_
        refine lv_topi (fun x_5 ex_5 => ?_)
        refine lv_iconst (v := 1) hx hb dX0_proves_20 ?o22 ?_
        case o22 => decide
        refine lv_iand hx hb dX0_proves_21 ?_
        refine lv_topi (fun x_6 ex_6 => ?_)
        have zx_6 : 0 ≤ x_6.toInt ∧ x_6.toInt ≤ 1 := ?o23
        case o23 =>
          rw [ex_6]
          refine hx_andR ?o24 ?o25
          case o24 => decide
          case o25 => decide
        refine lv_istore (lv' := [(5, .int x_6), (4, .int x_4), (3, .int iv4_3), (2, .int iv4_2), (0, .ref x), (1, .ref v1)]) hx hb dX0_proves_22 hl ?o26 rfl (fun ls hl => ?_)
        case o26 => decide
        refine lv_aload_n hx hb dX0_proves_24 rfl (lv_at hl 4 rfl) ?_
        refine hk_getr hx hb hts hC_0 hown hW (gx.S hM) tt_0 3 ?o27 rfl kw_172 ⟨rfl, rfl, rfl⟩ ((hM.o gx trivial rfl).2.trans f_x_3) dX0_proves_25 ?_
        case o27 => decide
        refine lv_iload_n hx hb dX0_proves_28 rfl (lv_at hl 2 rfl) ?_
        refine hx_iald hx hb hW hT (gqp.S hM) tt_12 rfl ⟨?o28, ?o29⟩ dX0_proves_29 (fun x_7 ex_7 lx_7 ux_7 => ?_)
        case o28 => omega
        case o29 => omega
        have ax_7 : x_7 = pf iv4_3.toNatClampNeg := ex_7.trans (congrFun (hx_afS hM gqp rfl af_qp) _)
        obtain ⟨t9, s9, hs9, hvt9, hv9, hev9, hl9, hh9⟩ := hv_pg (F := hv_F0 ff 0) (n := pl0.toInt) (k := iv4_3.toInt) (ix := iv4_3.toNatClampNeg) hls hO (by omega) (by omega) (by unfold Int32.toNatClampNeg; omega) ax_7
        have hb9 := vi4_0; rw [← hs9] at hb9
        have hk9 := hv_cc_k hvt9
        rcases (show (x_7.toInt < -3 ∨ -1 < x_7.toInt) ∨ x_7.toInt = -3 ∨ x_7.toInt = -2 ∨ x_7.toInt = -1 from by omega) with c_8 | c_8 | c_8 | c_8
        · refine lv_tableOut (tgt := 93) hx hb dX0_proves_30 c_8 ?o30 ?_
          case o30 => decide
          refine lv_iload_n hx hb dX0_proves_93 rfl (lv_at hl 3 rfl) ?_
          refine lv_iconst (v := 1) hx hb dX0_proves_94 ?o31 ?_
          case o31 => decide
          refine lv_ishl hx hb dX0_proves_95 ?_
          refine lv_topi (fun x_9 ex_9 => ?_)
          refine lv_aload_n hx hb dX0_proves_96 rfl (lv_at hl 4 rfl) ?_
          refine hk_getr hx hb hts hC_0 hown hW (gx.S hM) tt_0 3 ?o32 rfl kw_172 ⟨rfl, rfl, rfl⟩ ((hM.o gx trivial rfl).2.trans f_x_3) dX0_proves_97 ?_
          case o32 => decide
          refine lv_iload_n hx hb dX0_proves_100 rfl (lv_at hl 2 rfl) ?_
          refine hx_iald hx hb hW hT (gqp.S hM) tt_12 rfl ⟨?o33, ?o34⟩ dX0_proves_101 (fun x_10 ex_10 lx_10 ux_10 => ?_)
          case o33 => omega
          case o34 => omega
          have ax_10 : x_10 = pf iv4_3.toNatClampNeg := ex_10.trans (congrFun (hx_afS hM gqp rfl af_qp) _)
          obtain rfl : x_7 = x_10 := ex_7.trans ex_10.symm
          refine lv_aload_n hx hb dX0_proves_102 rfl (lv_at hl 5 rfl) ?_
          refine hx_goi (hx_runS (As := [.int x_7, .ref v1]) (rest := [.int x_9]) ⟨hx, hb, hml, hown, hts⟩ hW (t_X0_holds_v l dC dI dA hL1 hl1 H.size x_7 v1 hT (gv1.S hM) ff (hx_afS hM gv1 rfl af_v1) t9 hvt9 ?o35 hv9) (va_cwS 2 hts (hx_gS kw_841 kw_839 kw_840 kw_96) rfl rfl rfl (by decide +kernel) ⟨Nat.le_of_ble_eq_true rfl, Nat.le_of_ble_eq_true rfl⟩) rfl hl.1 rfl (Nat.le_of_ble_eq_true rfl) dX0_proves_103 ⟨Nat.le_of_ble_eq_true rfl, Nat.le_of_ble_eq_true rfl⟩) hW (fun r_13 L_11 h_12 H locs p_14 hW => ?_)
          case o35 => omega
          obtain ⟨hr_15, hT, hs⟩ := p_14
          replace hT : hx_T T_tb L_11 h_12 := hT
          replace hs : hx_S T_tb [] hL1 hl1 L_11 h_12 := hs
          replace ex_7 := ex_7.trans (hs.a (gqp.S hM) rfl _).1.symm
          replace hM := hM.tr (hs.mono ?o36)
          case o36 => decide
          refine hb_if_eq (zx := r_13.toInt) (tgt := 113) hx hb rfl dX0_proves_106 ?o37 (fun c_16 => ?_) (fun c_16 => ?_)
          case o37 => decide
          · skip
            refine lv_iconst (v := 0) hx hb dX0_proves_113 ?o38 ?_
            case o38 => decide
            refine lv_ior hx hb dX0_proves_114 ?_
            refine lv_topi (fun x_17 ex_17 => ?_)
            refine lv_istore_n (lv' := [(2, .int x_17), (5, .int x_6), (4, .int x_4), (3, .int iv4_3), (0, .ref x), (1, .ref v1)]) hx hb dX0_proves_115 rfl hl ?o39 rfl (fun ls hl => ?_)
            case o39 => decide
            obtain ⟨x_18, ex_18⟩ : ∃ y : Int32, y = iv4_3 + Int32.ofInt 1 := ⟨_, rfl⟩
            have rg_19 := i32_r iv4_3
            have zx_18 : x_18.toInt = iv4_3.toInt + (1) := ?o40
            case o40 =>
              rw [ex_18]
              refine i32_add rfl ?o41 ?o42 ?o43
              case o41 => decide
              case o42 => omega
              case o43 => omega
            refine lv_iinc (v := x_18) (lv' := [(3, .int x_18), (2, .int x_17), (5, .int x_6), (4, .int x_4), (0, .ref x), (1, .ref v1)]) hx hb dX0_proves_116 hl (k := 3) rfl ex_18.symm ?o44 rfl (fun ls hl => ?_)
            case o44 => decide
            refine lv_goto (tgt := 4) hx hb dX0_proves_119 ?o45 ?_
            case o45 => decide
            refine ih4 x_17 x_18 _ _ L_11 h_12 (i32_r _).1 (i32_r _).2 ?o46 ?o47 (by rw [zx_18, hev9]; exact hv_cP hb9 (by omega) (by omega) (Or.inr ⟨by decide, by rcases hr_15 with z | z; (exfalso; omega); exact z.2⟩) ex_9 ex_17) ?o48 ls ?o49 hW hT hM   (lv_sub hl [0, 1, 4, 5] rfl)
            case o46 => omega
            case o47 => omega
            case o48 => omega
            case o49 => omega
          · skip
            refine lv_iconst (v := 1) hx hb dX0_proves_109 ?o50 ?_
            case o50 => decide
            refine lv_goto (tgt := 114) hx hb dX0_proves_110 ?o51 ?_
            case o51 => decide
            refine lv_ior hx hb dX0_proves_114 ?_
            refine lv_topi (fun x_20 ex_20 => ?_)
            refine lv_istore_n (lv' := [(2, .int x_20), (5, .int x_6), (4, .int x_4), (3, .int iv4_3), (0, .ref x), (1, .ref v1)]) hx hb dX0_proves_115 rfl hl ?o52 rfl (fun ls hl => ?_)
            case o52 => decide
            obtain ⟨x_21, ex_21⟩ : ∃ y : Int32, y = iv4_3 + Int32.ofInt 1 := ⟨_, rfl⟩
            have rg_22 := i32_r iv4_3
            have zx_21 : x_21.toInt = iv4_3.toInt + (1) := ?o53
            case o53 =>
              rw [ex_21]
              refine i32_add rfl ?o54 ?o55 ?o56
              case o54 => decide
              case o55 => omega
              case o56 => omega
            refine lv_iinc (v := x_21) (lv' := [(3, .int x_21), (2, .int x_20), (5, .int x_6), (4, .int x_4), (0, .ref x), (1, .ref v1)]) hx hb dX0_proves_116 hl (k := 3) rfl ex_21.symm ?o57 rfl (fun ls hl => ?_)
            case o57 => decide
            refine lv_goto (tgt := 4) hx hb dX0_proves_119 ?o58 ?_
            case o58 => decide
            refine ih4 x_20 x_21 _ _ L_11 h_12 (i32_r _).1 (i32_r _).2 ?o59 ?o60 (by rw [zx_21, hev9]; exact hv_cP hb9 (by omega) (by omega) (Or.inl ⟨by decide, by rcases hr_15 with z | z; exact z.2; exfalso; omega⟩) ex_9 ex_20) ?o61 ls ?o62 hW hT hM   (lv_sub hl [0, 1, 4, 5] rfl)
            case o59 => omega
            case o60 => omega
            case o61 => omega
            case o62 => omega
        · refine lv_tableIn (off := 26) (tgt := 56) hx hb dX0_proves_30 ?o63 ?o64 (by rw [c_8]; rfl) ?o65 ?_
          case o63 => omega
          case o64 => omega
          case o65 => decide
          refine lv_iload_n hx hb dX0_proves_56 rfl (lv_at hl 3 rfl) ?_
          refine lv_iconst (v := 1) hx hb dX0_proves_57 ?o66 ?_
          case o66 => decide
          refine lv_ixor hx hb dX0_proves_58 ?_
          refine lv_topi (fun x_23 ex_23 => ?_)
          refine lv_istore_n (lv' := [(2, .int x_23), (5, .int x_6), (4, .int x_4), (3, .int iv4_3), (0, .ref x), (1, .ref v1)]) hx hb dX0_proves_59 rfl hl ?o67 rfl (fun ls hl => ?_)
          case o67 => decide
          refine lv_goto (tgt := 116) hx hb dX0_proves_60 ?o68 ?_
          case o68 => decide
          obtain ⟨x_24, ex_24⟩ : ∃ y : Int32, y = iv4_3 + Int32.ofInt 1 := ⟨_, rfl⟩
          have rg_25 := i32_r iv4_3
          have zx_24 : x_24.toInt = iv4_3.toInt + (1) := ?o69
          case o69 =>
            rw [ex_24]
            refine i32_add rfl ?o70 ?o71 ?o72
            case o70 => decide
            case o71 => omega
            case o72 => omega
          refine lv_iinc (v := x_24) (lv' := [(3, .int x_24), (2, .int x_23), (5, .int x_6), (4, .int x_4), (0, .ref x), (1, .ref v1)]) hx hb dX0_proves_116 hl (k := 3) rfl ex_24.symm ?o73 rfl (fun ls hl => ?_)
          case o73 => decide
          refine lv_goto (tgt := 4) hx hb dX0_proves_119 ?o74 ?_
          case o74 => decide
          refine ih4 x_23 x_24 _ _ hL1 hl1 (i32_r _).1 (i32_r _).2 ?o75 ?o76 (by rw [zx_24, hev9]; exact hv_cN hb9 (by omega) (by omega) (by have := hh9 (by omega); omega) ex_23) ?o77 ls ?o78 hW hT hM   (lv_sub hl [0, 1, 4, 5] rfl)
          case o75 => omega
          case o76 => omega
          case o77 => omega
          case o78 => omega
        · refine lv_tableIn (off := 48) (tgt := 78) hx hb dX0_proves_30 ?o79 ?o80 (by rw [c_8]; rfl) ?o81 ?_
          case o79 => omega
          case o80 => omega
          case o81 => decide
          refine lv_iload_n hx hb dX0_proves_78 rfl (lv_at hl 3 rfl) ?_
          refine lv_iconst (v := 2) hx hb dX0_proves_79 ?o82 ?_
          case o82 => decide
          refine lv_ishr hx hb dX0_proves_80 ?_
          refine lv_topi (fun x_26 ex_26 => ?_)
          refine lv_iconst (v := 1) hx hb dX0_proves_81 ?o83 ?_
          case o83 => decide
          refine lv_ishl hx hb dX0_proves_82 ?_
          refine lv_topi (fun x_27 ex_27 => ?_)
          refine lv_iload hx hb dX0_proves_83 (lv_at hl 1 rfl) ?_
          refine lv_ior hx hb dX0_proves_85 ?_
          refine lv_topi (fun x_28 ex_28 => ?_)
          refine lv_iload hx hb dX0_proves_86 (lv_at hl 0 rfl) ?_
          refine lv_ior hx hb dX0_proves_88 ?_
          refine lv_topi (fun x_29 ex_29 => ?_)
          refine lv_istore_n (lv' := [(2, .int x_29), (5, .int x_6), (4, .int x_4), (3, .int iv4_3), (0, .ref x), (1, .ref v1)]) hx hb dX0_proves_89 rfl hl ?o84 rfl (fun ls hl => ?_)
          case o84 => decide
          refine lv_goto (tgt := 116) hx hb dX0_proves_90 ?o85 ?_
          case o85 => decide
          obtain ⟨x_30, ex_30⟩ : ∃ y : Int32, y = iv4_3 + Int32.ofInt 1 := ⟨_, rfl⟩
          have rg_31 := i32_r iv4_3
          have zx_30 : x_30.toInt = iv4_3.toInt + (1) := ?o86
          case o86 =>
            rw [ex_30]
            refine i32_add rfl ?o87 ?o88 ?o89
            case o87 => decide
            case o88 => omega
            case o89 => omega
          refine lv_iinc (v := x_30) (lv' := [(3, .int x_30), (2, .int x_29), (5, .int x_6), (4, .int x_4), (0, .ref x), (1, .ref v1)]) hx hb dX0_proves_116 hl (k := 3) rfl ex_30.symm ?o90 rfl (fun ls hl => ?_)
          case o90 => decide
          refine lv_goto (tgt := 4) hx hb dX0_proves_119 ?o91 ?_
          case o91 => decide
          refine ih4 x_29 x_30 _ _ hL1 hl1 (i32_r _).1 (i32_r _).2 ?o92 ?o93 (by rw [zx_30, hev9]; exact hv_cO hb9 (by omega) (by omega) (by have := hh9 (by omega); omega) (by omega) ex_4 ex_5 ex_6 ex_26 ex_27 ex_28 ex_29) ?o94 ls ?o95 hW hT hM   (lv_sub hl [0, 1, 4, 5] rfl)
          case o92 => omega
          case o93 => omega
          case o94 => omega
          case o95 => omega
        · refine lv_tableIn (off := 33) (tgt := 63) hx hb dX0_proves_30 ?o96 ?o97 (by rw [c_8]; rfl) ?o98 ?_
          case o96 => omega
          case o97 => omega
          case o98 => decide
          refine lv_iload_n hx hb dX0_proves_63 rfl (lv_at hl 3 rfl) ?_
          refine lv_iconst (v := 2) hx hb dX0_proves_64 ?o99 ?_
          case o99 => decide
          refine lv_ishr hx hb dX0_proves_65 ?_
          refine lv_topi (fun x_32 ex_32 => ?_)
          refine lv_iconst (v := 1) hx hb dX0_proves_66 ?o100 ?_
          case o100 => decide
          refine lv_ishl hx hb dX0_proves_67 ?_
          refine lv_topi (fun x_33 ex_33 => ?_)
          refine lv_iload hx hb dX0_proves_68 (lv_at hl 1 rfl) ?_
          refine lv_iload hx hb dX0_proves_70 (lv_at hl 0 rfl) ?_
          refine lv_iand hx hb dX0_proves_72 ?_
          refine lv_topi (fun x_34 ex_34 => ?_)
          refine lv_ior hx hb dX0_proves_73 ?_
          refine lv_topi (fun x_35 ex_35 => ?_)
          refine lv_istore_n (lv' := [(2, .int x_35), (5, .int x_6), (4, .int x_4), (3, .int iv4_3), (0, .ref x), (1, .ref v1)]) hx hb dX0_proves_74 rfl hl ?o101 rfl (fun ls hl => ?_)
          case o101 => decide
          refine lv_goto (tgt := 116) hx hb dX0_proves_75 ?o102 ?_
          case o102 => decide
          obtain ⟨x_36, ex_36⟩ : ∃ y : Int32, y = iv4_3 + Int32.ofInt 1 := ⟨_, rfl⟩
          have rg_37 := i32_r iv4_3
          have zx_36 : x_36.toInt = iv4_3.toInt + (1) := ?o103
          case o103 =>
            rw [ex_36]
            refine i32_add rfl ?o104 ?o105 ?o106
            case o104 => decide
            case o105 => omega
            case o106 => omega
          refine lv_iinc (v := x_36) (lv' := [(3, .int x_36), (2, .int x_35), (5, .int x_6), (4, .int x_4), (0, .ref x), (1, .ref v1)]) hx hb dX0_proves_116 hl (k := 3) rfl ex_36.symm ?o107 rfl (fun ls hl => ?_)
          case o107 => decide
          refine lv_goto (tgt := 4) hx hb dX0_proves_119 ?o108 ?_
          case o108 => decide
          refine ih4 x_35 x_36 _ _ hL1 hl1 (i32_r _).1 (i32_r _).2 ?o109 ?o110 (by rw [zx_36, hev9]; exact hv_cA hb9 (by omega) (by omega) (by have := hh9 (by omega); omega) (by omega) ex_4 ex_5 ex_6 ex_32 ex_33 ex_34 ex_35) ?o111 ls ?o112 hW hT hM   (lv_sub hl [0, 1, 4, 5] rfl)
          case o109 => omega
          case o110 => omega
          case o111 => omega
          case o112 => omega
  have zk_0 : (0 : Int32).toInt = 0 := ?o113
  case o113 => decide
  have zk_0 : (0 : Int32).toInt = 0 := ?o114
  case o114 => decide
  refine loop4 161 (0 : Int32) (0 : Int32) _ _ L h ?o115 ?o116 ?o117 ?o118 (by rw [hv_d0 hls zk_0]; exact hv_bt_0) ?o119 ls ?o120 hW hT hM   hl
  case o115 => decide
  case o116 => decide
  case o117 => decide
  case o118 => decide
  case o119 => omega
  case o120 => omega
end
section
set_option maxHeartbeats 4000000 in
set_option maxRecDepth 100000 in
theorem t_X10_isSo_v (l : Launch) (dC : Nat → ClassId) (dI : Nat → Nat → Nat) (dA : Nat → ClassId) (L : List Nat) (h : hx_h) (sz : Nat) (x : Nat) (i1 : Int32) (i2 : Int32) (hT : hx_T T_tb L h) (gx : hx_g L h x 10) (qf : Nat) (gqf : hx_g L h qf 88) (f_x_53 : h.2.2 x 53 = some qf) (rf : Nat → Int32) (af_qf : h.2.1 qf = rf) (hi1 : 0 ≤ i1.toInt ∧ i1.toInt ≤ 99) (t : hv_tok) (hvt : hv_vt t) (ht1 : 1 ≤ t.1) (hi2 : i2.toInt = hv_rc t) : Met l yX10_isSo (Cond.code yX10_isSo cX10_isSo 6 (some .boolean) :: hx_all) ({ frames := 0, cells := 0, slots := 0, locals := 0 }) (va_Pc [.ref x, .int i1, .int i2] (hx_B T_tb (P_ty dA) (dC, dI) vwCl L h sz)) (va_Qi (fun (r : Int32) (u : List Nat × hx_h) => ((r.toInt = 1 ∧ hv_hd (hv_F0 rf (8 * i1.toInt.toNat)) t = true) ∨ (r.toInt = 0 ∧ hv_hd (hv_F0 rf (8 * i1.toInt.toNat)) t = false)) ∧ hx_T T_tb u.1 u.2 ∧ hx_S T_tb [] L h u.1 u.2) (hx_E T_tb (P_ty dA) (dC, dI) vwCl (hx_A L sz)) (hx_A L sz)) 0 0 (hx_A L sz) := by
  refine hx_met (lv := [(0, .ref x), (1, .int i1), (2, .int i2)]) (by decide +kernel) rfl (Nat.le_of_ble_eq_true rfl) rfl ?_
  intro p e s m below meth c hx hb hml hr hlk hts0 hown hin hsz hW ls hl
  have hts : ∀ w ∈ hx_all, w.before _ s = true := fun w hw => hts0 w (List.mem_cons_of_mem _ hw)
  have hown : s.vm.findClass "SmallCourtModel" = some m.cls := hown
  have hM : hx_S T_tb [] L h L h := hx_S.rf
  have hrd := hv_rc_d hvt ht1
  have hvb : (1 ≤ t.1 ∧ t.1 ≤ 8) ∧ t.2.1 ≤ 4 ∧ 0 ≤ t.2.2 ∧ t.2.2 ≤ 10007 := ?o0
  case o0 =>
    rcases hvt with ⟨a, _⟩ | ⟨a, b, c, d, e⟩
    (exfalso; omega)
    exact ⟨⟨a, b⟩, c, d, e⟩
  refine lv_aload_n hx hb dX10_isSo_0 rfl (lv_at hl 0 rfl) ?_
  refine hk_getr hx hb hts hC_10 hown hW (gx.S hM) tt_10 53 ?o1 rfl kw_1196 ⟨rfl, rfl, rfl⟩ ((hM.o gx trivial rfl).2.trans f_x_53) dX10_isSo_1 ?_
  case o1 => decide
  refine lv_bipush (v := 8) hx hb dX10_isSo_4 ?o2 ?_
  case o2 => decide
  refine lv_iload_n hx hb dX10_isSo_6 rfl (lv_at hl 1 rfl) ?_
  refine lv_imul hx hb dX10_isSo_7 ?_
  refine lv_topi (fun x_1 ex_1 => ?_)
  have zx_1 : x_1.toInt = 8 * i1.toInt := ?o3
  case o3 =>
    rw [ex_1]
    refine i32_mul ?o4 rfl rfl ?o5 ?o6
    case o4 => decide
    case o5 => omega
    case o6 => omega
  refine lv_iload_n hx hb dX10_isSo_8 rfl (lv_at hl 2 rfl) ?_
  refine lv_ldcw (v := 1000000) hx hb hown (hts _ kw_1133) dX10_isSo_9 ?_
  refine lv_idiv hx hb dX10_isSo_12 ?o7 ?_
  case o7 => decide
  refine lv_topi (fun x_2 ex_2 => ?_)
  have zx_2 : x_2.toInt = i2.toInt / 1000000 := ?o8
  case o8 =>
    rw [ex_2, hx_dv (by omega) (by decide)]
    rfl
  refine lv_iadd hx hb dX10_isSo_13 ?_
  have rg_3 := i32_r x_1
  have rg_4 := i32_r x_2
  refine lv_topi (fun x_5 ex_5 => ?_)
  have zx_5 : x_5.toInt = x_1.toInt + x_2.toInt := ?o9
  case o9 =>
    rw [ex_5]
    refine i32_add rfl rfl ?o10 ?o11
    case o10 => omega
    case o11 => omega
  refine lv_iconst (v := 1) hx hb dX10_isSo_14 ?o12 ?_
  case o12 => decide
  refine lv_isub hx hb dX10_isSo_15 ?_
  have rg_6 := i32_r x_5
  refine lv_topi (fun x_7 ex_7 => ?_)
  have zx_7 : x_7.toInt = x_5.toInt - 1 := ?o13
  case o13 =>
    rw [ex_7]
    refine i32_sub rfl ?o14 ?o15 ?o16
    case o14 => decide
    case o15 => omega
    case o16 => omega
  refine hx_iald hx hb hW hT (gqf.S hM) tt_88 rfl ⟨?o17, ?o18⟩ dX10_isSo_16 (fun x_8 ex_8 lx_8 ux_8 => ?_)
  case o17 => omega
  case o18 => omega
  have ax_8 : x_8 = rf x_7.toNatClampNeg := ex_8.trans (congrFun (hx_afS hM gqf rfl af_qf) _)
  refine lv_istore_n (lv' := [(3, .int x_8), (0, .ref x), (1, .int i1), (2, .int i2)]) hx hb dX10_isSo_17 rfl hl ?o19 rfl (fun ls hl => ?_)
  case o19 => decide
  refine lv_iload_n hx hb dX10_isSo_18 rfl (lv_at hl 3 rfl) ?_
  refine lv_ldcw (v := 100000) hx hb hown (hts _ kw_1134) dX10_isSo_19 ?_
  refine lv_irem hx hb dX10_isSo_22 ?o20 ?_
  case o20 => decide
  refine lv_topi (fun x_9 ex_9 => ?_)
  have zx_9 : x_9.toInt = i2.toInt % 100000 := ?o21
  case o21 =>
    rw [ex_9, hx_remz (by omega) (by decide)]
    rfl
  refine lv_istore (lv' := [(4, .int x_9), (3, .int x_8), (0, .ref x), (1, .int i1), (2, .int i2)]) hx hb dX10_isSo_23 hl ?o22 rfl (fun ls hl => ?_)
  case o22 => decide
  refine lv_iload hx hb dX10_isSo_25 (lv_at hl 0 rfl) ?_
  refine lv_sipush (v := 10000) hx hb dX10_isSo_27 ?o23 ?_
  case o23 => decide
  refine hb_icmp_lt (zx := x_9.toInt) (zy := 10000) (tgt := 52) hx hb rfl ?o24 dX10_isSo_30 ?o25 (fun c_10 => ?_) (fun c_10 => ?_)
  case o24 => decide
  case o25 => decide
  · skip
    refine lv_iload hx hb dX10_isSo_52 (lv_at hl 0 rfl) ?_
    refine lv_istore (lv' := [(5, .int x_9), (4, .int x_9), (3, .int x_8), (0, .ref x), (1, .int i1), (2, .int i2)]) hx hb dX10_isSo_54 hl ?o26 rfl (fun ls hl => ?_)
    case o26 => decide
    refine lv_iload_n hx hb dX10_isSo_56 rfl (lv_at hl 5 rfl) ?_
    refine lv_ldcw (v := 100000) hx hb hown (hts _ kw_1134) dX10_isSo_57 ?_
    refine lv_idiv hx hb dX10_isSo_60 ?o27 ?_
    case o27 => decide
    refine lv_topi (fun x_11 ex_11 => ?_)
    have zx_11 : x_11.toInt = i2.toInt / 100000 := ?o28
    case o28 =>
      rw [ex_11, hx_dv (by omega) (by decide)]
      rfl
    refine lv_bipush (v := 10) hx hb dX10_isSo_61 ?o29 ?_
    case o29 => decide
    refine lv_irem hx hb dX10_isSo_63 ?o30 ?_
    case o30 => decide
    refine lv_topi (fun x_12 ex_12 => ?_)
    have zx_12 : x_12.toInt = x_11.toInt % 10 := ?o31
    case o31 =>
      rw [ex_12, hx_remz (by omega) (by decide)]
      rfl
    have hm9 := hq_i (hv_hd_m (F := (hv_F0 rf (8 * i1.toInt.toNat))) (t := t) (l := x_8.toInt) (r := x_9.toInt) (by rw [ax_8]; exact congrArg (fun z => (rf z).toInt) (show x_7.toNatClampNeg = (t.1 - 1).toNat + 8 * i1.toInt.toNat by unfold Int32.toNatClampNeg; omega)) (by rw [if_neg (by omega)]; omega))
    have harm9 : x_12.toInt = (t.2.1 : Int) := ?o32
    case o32 =>
      rw [zx_12, zx_11, hi2]
      exact hrd.2.2.2
    rcases (show (x_12.toInt < 0 ∨ 3 < x_12.toInt) ∨ x_12.toInt = 0 ∨ x_12.toInt = 1 ∨ x_12.toInt = 2 ∨ x_12.toInt = 3 from by omega) with c_13 | c_13 | c_13 | c_13 | c_13
    · refine lv_tableOut (tgt := 144) hx hb dX10_isSo_64 c_13 ?o33 ?_
      case o33 => decide
      refine lv_iload_n hx hb dX10_isSo_144 rfl (lv_at hl 2 rfl) ?_
      refine lv_iload hx hb dX10_isSo_145 (lv_at hl 0 rfl) ?_
      refine hb_icmp_le (zx := x_8.toInt) (zy := x_9.toInt) (tgt := 154) hx hb rfl rfl dX10_isSo_147 ?o34 (fun c_14 => ?_) (fun c_14 => ?_)
      case o34 => decide
      · skip
        refine lv_iconst (v := 0) hx hb dX10_isSo_154 ?o35 ?_
        case o35 => decide
        refine hx_retz hx hb hr rfl hlk hW ⟨(Or.inr ⟨?o36, hv_nb ((hq_o hm9).2.2.2.2 ?o37) ?o38⟩), hT, hM⟩ dX10_isSo_155
        case o36 => decide
        case o37 => omega
        case o38 => omega
      · skip
        refine lv_iconst (v := 1) hx hb dX10_isSo_150 ?o39 ?_
        case o39 => decide
        refine lv_goto (tgt := 155) hx hb dX10_isSo_151 ?o40 ?_
        case o40 => decide
        refine hx_retz hx hb hr rfl hlk hW ⟨(Or.inl ⟨?o41, ((hq_o hm9).2.2.2.2 ?o42).mpr ?o43⟩), hT, hM⟩ dX10_isSo_155
        case o41 => decide
        case o42 => omega
        case o43 => omega
    · refine lv_tableIn (off := 32) (tgt := 96) hx hb dX10_isSo_64 ?o44 ?o45 (by rw [c_13]; rfl) ?o46 ?_
      case o44 => omega
      case o45 => omega
      case o46 => decide
      refine lv_iload_n hx hb dX10_isSo_96 rfl (lv_at hl 2 rfl) ?_
      refine lv_iload hx hb dX10_isSo_97 (lv_at hl 0 rfl) ?_
      refine hb_icmp_ge (zx := x_8.toInt) (zy := x_9.toInt) (tgt := 106) hx hb rfl rfl dX10_isSo_99 ?o47 (fun c_15 => ?_) (fun c_15 => ?_)
      case o47 => decide
      · skip
        refine lv_iconst (v := 0) hx hb dX10_isSo_106 ?o48 ?_
        case o48 => decide
        refine hx_retz hx hb hr rfl hlk hW ⟨(Or.inr ⟨?o49, hv_nb ((hq_o hm9).1 ?o50) ?o51⟩), hT, hM⟩ dX10_isSo_107
        case o49 => decide
        case o50 => omega
        case o51 => omega
      · skip
        refine lv_iconst (v := 1) hx hb dX10_isSo_102 ?o52 ?_
        case o52 => decide
        refine lv_goto (tgt := 107) hx hb dX10_isSo_103 ?o53 ?_
        case o53 => decide
        refine hx_retz hx hb hr rfl hlk hW ⟨(Or.inl ⟨?o54, ((hq_o hm9).1 ?o55).mpr ?o56⟩), hT, hM⟩ dX10_isSo_107
        case o54 => decide
        case o55 => omega
        case o56 => omega
    · refine lv_tableIn (off := 44) (tgt := 108) hx hb dX10_isSo_64 ?o57 ?o58 (by rw [c_13]; rfl) ?o59 ?_
      case o57 => omega
      case o58 => omega
      case o59 => decide
      refine lv_iload_n hx hb dX10_isSo_108 rfl (lv_at hl 2 rfl) ?_
      refine lv_iload hx hb dX10_isSo_109 (lv_at hl 0 rfl) ?_
      refine hb_icmp_gt (zx := x_8.toInt) (zy := x_9.toInt) (tgt := 118) hx hb rfl rfl dX10_isSo_111 ?o60 (fun c_16 => ?_) (fun c_16 => ?_)
      case o60 => decide
      · skip
        refine lv_iconst (v := 0) hx hb dX10_isSo_118 ?o61 ?_
        case o61 => decide
        refine hx_retz hx hb hr rfl hlk hW ⟨(Or.inr ⟨?o62, hv_nb ((hq_o hm9).2.1 ?o63) ?o64⟩), hT, hM⟩ dX10_isSo_119
        case o62 => decide
        case o63 => omega
        case o64 => omega
      · skip
        refine lv_iconst (v := 1) hx hb dX10_isSo_114 ?o65 ?_
        case o65 => decide
        refine lv_goto (tgt := 119) hx hb dX10_isSo_115 ?o66 ?_
        case o66 => decide
        refine hx_retz hx hb hr rfl hlk hW ⟨(Or.inl ⟨?o67, ((hq_o hm9).2.1 ?o68).mpr ?o69⟩), hT, hM⟩ dX10_isSo_119
        case o67 => decide
        case o68 => omega
        case o69 => omega
    · refine lv_tableIn (off := 56) (tgt := 120) hx hb dX10_isSo_64 ?o70 ?o71 (by rw [c_13]; rfl) ?o72 ?_
      case o70 => omega
      case o71 => omega
      case o72 => decide
      refine lv_iload_n hx hb dX10_isSo_120 rfl (lv_at hl 2 rfl) ?_
      refine lv_iload hx hb dX10_isSo_121 (lv_at hl 0 rfl) ?_
      refine hb_icmp_ne (zx := x_8.toInt) (zy := x_9.toInt) (tgt := 130) hx hb rfl rfl dX10_isSo_123 ?o73 (fun c_17 => ?_) (fun c_17 => ?_)
      case o73 => decide
      · skip
        refine lv_iconst (v := 0) hx hb dX10_isSo_130 ?o74 ?_
        case o74 => decide
        refine hx_retz hx hb hr rfl hlk hW ⟨(Or.inr ⟨?o75, hv_nb ((hq_o hm9).2.2.1 ?o76) ?o77⟩), hT, hM⟩ dX10_isSo_131
        case o75 => decide
        case o76 => omega
        case o77 => omega
      · skip
        refine lv_iconst (v := 1) hx hb dX10_isSo_126 ?o78 ?_
        case o78 => decide
        refine lv_goto (tgt := 131) hx hb dX10_isSo_127 ?o79 ?_
        case o79 => decide
        refine hx_retz hx hb hr rfl hlk hW ⟨(Or.inl ⟨?o80, ((hq_o hm9).2.2.1 ?o81).mpr ?o82⟩), hT, hM⟩ dX10_isSo_131
        case o80 => decide
        case o81 => omega
        case o82 => omega
    · refine lv_tableIn (off := 68) (tgt := 132) hx hb dX10_isSo_64 ?o83 ?o84 (by rw [c_13]; rfl) ?o85 ?_
      case o83 => omega
      case o84 => omega
      case o85 => decide
      refine lv_iload_n hx hb dX10_isSo_132 rfl (lv_at hl 2 rfl) ?_
      refine lv_iload hx hb dX10_isSo_133 (lv_at hl 0 rfl) ?_
      refine hb_icmp_lt (zx := x_8.toInt) (zy := x_9.toInt) (tgt := 142) hx hb rfl rfl dX10_isSo_135 ?o86 (fun c_18 => ?_) (fun c_18 => ?_)
      case o86 => decide
      · skip
        refine lv_iconst (v := 0) hx hb dX10_isSo_142 ?o87 ?_
        case o87 => decide
        refine hx_retz hx hb hr rfl hlk hW ⟨(Or.inr ⟨?o88, hv_nb ((hq_o hm9).2.2.2.1 ?o89) ?o90⟩), hT, hM⟩ dX10_isSo_143
        case o88 => decide
        case o89 => omega
        case o90 => omega
      · skip
        refine lv_iconst (v := 1) hx hb dX10_isSo_138 ?o91 ?_
        case o91 => decide
        refine lv_goto (tgt := 143) hx hb dX10_isSo_139 ?o92 ?_
        case o92 => decide
        refine hx_retz hx hb hr rfl hlk hW ⟨(Or.inl ⟨?o93, ((hq_o hm9).2.2.2.1 ?o94).mpr ?o95⟩), hT, hM⟩ dX10_isSo_143
        case o93 => decide
        case o94 => omega
        case o95 => omega
  · skip
    refine lv_aload_n hx hb dX10_isSo_33 rfl (lv_at hl 2 rfl) ?_
    refine hk_getr hx hb hts hC_10 hown hW (gx.S hM) tt_10 53 ?o96 rfl kw_1196 ⟨rfl, rfl, rfl⟩ ((hM.o gx trivial rfl).2.trans f_x_53) dX10_isSo_34 ?_
    case o96 => decide
    refine lv_bipush (v := 8) hx hb dX10_isSo_37 ?o97 ?_
    case o97 => decide
    refine lv_iload_n hx hb dX10_isSo_39 rfl (lv_at hl 3 rfl) ?_
    refine lv_imul hx hb dX10_isSo_40 ?_
    refine lv_topi (fun x_19 ex_19 => ?_)
    have zx_19 : x_19.toInt = 8 * i1.toInt := ?o98
    case o98 =>
      rw [ex_19]
      refine i32_mul ?o99 rfl rfl ?o100 ?o101
      case o99 => decide
      case o100 => omega
      case o101 => omega
    refine lv_iload hx hb dX10_isSo_41 (lv_at hl 0 rfl) ?_
    refine lv_iadd hx hb dX10_isSo_43 ?_
    have rg_20 := i32_r x_19
    have rg_21 := i32_r x_9
    refine lv_topi (fun x_22 ex_22 => ?_)
    have zx_22 : x_22.toInt = x_19.toInt + x_9.toInt := ?o102
    case o102 =>
      rw [ex_22]
      refine i32_add rfl rfl ?o103 ?o104
      case o103 => omega
      case o104 => omega
    refine lv_sipush (v := 10000) hx hb dX10_isSo_44 ?o105 ?_
    case o105 => decide
    refine lv_isub hx hb dX10_isSo_47 ?_
    have rg_23 := i32_r x_22
    refine lv_topi (fun x_24 ex_24 => ?_)
    have zx_24 : x_24.toInt = x_22.toInt - 10000 := ?o106
    case o106 =>
      rw [ex_24]
      refine i32_sub rfl ?o107 ?o108 ?o109
      case o107 => decide
      case o108 => omega
      case o109 => omega
    refine hx_iald hx hb hW hT (gqf.S hM) tt_88 rfl ⟨?o110, ?o111⟩ dX10_isSo_48 (fun x_25 ex_25 lx_25 ux_25 => ?_)
    case o110 => omega
    case o111 => omega
    have ax_25 : x_25 = rf x_24.toNatClampNeg := ex_25.trans (congrFun (hx_afS hM gqf rfl af_qf) _)
    refine lv_goto (tgt := 54) hx hb dX10_isSo_49 ?o112 ?_
    case o112 => decide
    refine lv_istore (lv' := [(5, .int x_25), (4, .int x_9), (3, .int x_8), (0, .ref x), (1, .int i1), (2, .int i2)]) hx hb dX10_isSo_54 hl ?o113 rfl (fun ls hl => ?_)
    case o113 => decide
    refine lv_iload_n hx hb dX10_isSo_56 rfl (lv_at hl 5 rfl) ?_
    refine lv_ldcw (v := 100000) hx hb hown (hts _ kw_1134) dX10_isSo_57 ?_
    refine lv_idiv hx hb dX10_isSo_60 ?o114 ?_
    case o114 => decide
    refine lv_topi (fun x_26 ex_26 => ?_)
    have zx_26 : x_26.toInt = i2.toInt / 100000 := ?o115
    case o115 =>
      rw [ex_26, hx_dv (by omega) (by decide)]
      rfl
    refine lv_bipush (v := 10) hx hb dX10_isSo_61 ?o116 ?_
    case o116 => decide
    refine lv_irem hx hb dX10_isSo_63 ?o117 ?_
    case o117 => decide
    refine lv_topi (fun x_27 ex_27 => ?_)
    have zx_27 : x_27.toInt = x_26.toInt % 10 := ?o118
    case o118 =>
      rw [ex_27, hx_remz (by omega) (by decide)]
      rfl
    have hm9 := hq_i (hv_hd_m (F := (hv_F0 rf (8 * i1.toInt.toNat))) (t := t) (l := x_8.toInt) (r := x_25.toInt) (by rw [ax_8]; exact congrArg (fun z => (rf z).toInt) (show x_7.toNatClampNeg = (t.1 - 1).toNat + 8 * i1.toInt.toNat by unfold Int32.toNatClampNeg; omega)) (by rw [if_pos (by omega)]; exact (by rw [ax_25]; exact congrArg (fun z => (rf z).toInt) (show x_24.toNatClampNeg = (t.2.2 - 10000).toNat + 8 * i1.toInt.toNat by unfold Int32.toNatClampNeg; omega))))
    have harm9 : x_27.toInt = (t.2.1 : Int) := ?o119
    case o119 =>
      rw [zx_27, zx_26, hi2]
      exact hrd.2.2.2
    rcases (show (x_27.toInt < 0 ∨ 3 < x_27.toInt) ∨ x_27.toInt = 0 ∨ x_27.toInt = 1 ∨ x_27.toInt = 2 ∨ x_27.toInt = 3 from by omega) with c_28 | c_28 | c_28 | c_28 | c_28
    · refine lv_tableOut (tgt := 144) hx hb dX10_isSo_64 c_28 ?o120 ?_
      case o120 => decide
      refine lv_iload_n hx hb dX10_isSo_144 rfl (lv_at hl 2 rfl) ?_
      refine lv_iload hx hb dX10_isSo_145 (lv_at hl 0 rfl) ?_
      refine hb_icmp_le (zx := x_8.toInt) (zy := x_25.toInt) (tgt := 154) hx hb rfl rfl dX10_isSo_147 ?o121 (fun c_29 => ?_) (fun c_29 => ?_)
      case o121 => decide
      · skip
        refine lv_iconst (v := 0) hx hb dX10_isSo_154 ?o122 ?_
        case o122 => decide
        refine hx_retz hx hb hr rfl hlk hW ⟨(Or.inr ⟨?o123, hv_nb ((hq_o hm9).2.2.2.2 ?o124) ?o125⟩), hT, hM⟩ dX10_isSo_155
        case o123 => decide
        case o124 => omega
        case o125 => omega
      · skip
        refine lv_iconst (v := 1) hx hb dX10_isSo_150 ?o126 ?_
        case o126 => decide
        refine lv_goto (tgt := 155) hx hb dX10_isSo_151 ?o127 ?_
        case o127 => decide
        refine hx_retz hx hb hr rfl hlk hW ⟨(Or.inl ⟨?o128, ((hq_o hm9).2.2.2.2 ?o129).mpr ?o130⟩), hT, hM⟩ dX10_isSo_155
        case o128 => decide
        case o129 => omega
        case o130 => omega
    · refine lv_tableIn (off := 32) (tgt := 96) hx hb dX10_isSo_64 ?o131 ?o132 (by rw [c_28]; rfl) ?o133 ?_
      case o131 => omega
      case o132 => omega
      case o133 => decide
      refine lv_iload_n hx hb dX10_isSo_96 rfl (lv_at hl 2 rfl) ?_
      refine lv_iload hx hb dX10_isSo_97 (lv_at hl 0 rfl) ?_
      refine hb_icmp_ge (zx := x_8.toInt) (zy := x_25.toInt) (tgt := 106) hx hb rfl rfl dX10_isSo_99 ?o134 (fun c_30 => ?_) (fun c_30 => ?_)
      case o134 => decide
      · skip
        refine lv_iconst (v := 0) hx hb dX10_isSo_106 ?o135 ?_
        case o135 => decide
        refine hx_retz hx hb hr rfl hlk hW ⟨(Or.inr ⟨?o136, hv_nb ((hq_o hm9).1 ?o137) ?o138⟩), hT, hM⟩ dX10_isSo_107
        case o136 => decide
        case o137 => omega
        case o138 => omega
      · skip
        refine lv_iconst (v := 1) hx hb dX10_isSo_102 ?o139 ?_
        case o139 => decide
        refine lv_goto (tgt := 107) hx hb dX10_isSo_103 ?o140 ?_
        case o140 => decide
        refine hx_retz hx hb hr rfl hlk hW ⟨(Or.inl ⟨?o141, ((hq_o hm9).1 ?o142).mpr ?o143⟩), hT, hM⟩ dX10_isSo_107
        case o141 => decide
        case o142 => omega
        case o143 => omega
    · refine lv_tableIn (off := 44) (tgt := 108) hx hb dX10_isSo_64 ?o144 ?o145 (by rw [c_28]; rfl) ?o146 ?_
      case o144 => omega
      case o145 => omega
      case o146 => decide
      refine lv_iload_n hx hb dX10_isSo_108 rfl (lv_at hl 2 rfl) ?_
      refine lv_iload hx hb dX10_isSo_109 (lv_at hl 0 rfl) ?_
      refine hb_icmp_gt (zx := x_8.toInt) (zy := x_25.toInt) (tgt := 118) hx hb rfl rfl dX10_isSo_111 ?o147 (fun c_31 => ?_) (fun c_31 => ?_)
      case o147 => decide
      · skip
        refine lv_iconst (v := 0) hx hb dX10_isSo_118 ?o148 ?_
        case o148 => decide
        refine hx_retz hx hb hr rfl hlk hW ⟨(Or.inr ⟨?o149, hv_nb ((hq_o hm9).2.1 ?o150) ?o151⟩), hT, hM⟩ dX10_isSo_119
        case o149 => decide
        case o150 => omega
        case o151 => omega
      · skip
        refine lv_iconst (v := 1) hx hb dX10_isSo_114 ?o152 ?_
        case o152 => decide
        refine lv_goto (tgt := 119) hx hb dX10_isSo_115 ?o153 ?_
        case o153 => decide
        refine hx_retz hx hb hr rfl hlk hW ⟨(Or.inl ⟨?o154, ((hq_o hm9).2.1 ?o155).mpr ?o156⟩), hT, hM⟩ dX10_isSo_119
        case o154 => decide
        case o155 => omega
        case o156 => omega
    · refine lv_tableIn (off := 56) (tgt := 120) hx hb dX10_isSo_64 ?o157 ?o158 (by rw [c_28]; rfl) ?o159 ?_
      case o157 => omega
      case o158 => omega
      case o159 => decide
      refine lv_iload_n hx hb dX10_isSo_120 rfl (lv_at hl 2 rfl) ?_
      refine lv_iload hx hb dX10_isSo_121 (lv_at hl 0 rfl) ?_
      refine hb_icmp_ne (zx := x_8.toInt) (zy := x_25.toInt) (tgt := 130) hx hb rfl rfl dX10_isSo_123 ?o160 (fun c_32 => ?_) (fun c_32 => ?_)
      case o160 => decide
      · skip
        refine lv_iconst (v := 0) hx hb dX10_isSo_130 ?o161 ?_
        case o161 => decide
        refine hx_retz hx hb hr rfl hlk hW ⟨(Or.inr ⟨?o162, hv_nb ((hq_o hm9).2.2.1 ?o163) ?o164⟩), hT, hM⟩ dX10_isSo_131
        case o162 => decide
        case o163 => omega
        case o164 => omega
      · skip
        refine lv_iconst (v := 1) hx hb dX10_isSo_126 ?o165 ?_
        case o165 => decide
        refine lv_goto (tgt := 131) hx hb dX10_isSo_127 ?o166 ?_
        case o166 => decide
        refine hx_retz hx hb hr rfl hlk hW ⟨(Or.inl ⟨?o167, ((hq_o hm9).2.2.1 ?o168).mpr ?o169⟩), hT, hM⟩ dX10_isSo_131
        case o167 => decide
        case o168 => omega
        case o169 => omega
    · refine lv_tableIn (off := 68) (tgt := 132) hx hb dX10_isSo_64 ?o170 ?o171 (by rw [c_28]; rfl) ?o172 ?_
      case o170 => omega
      case o171 => omega
      case o172 => decide
      refine lv_iload_n hx hb dX10_isSo_132 rfl (lv_at hl 2 rfl) ?_
      refine lv_iload hx hb dX10_isSo_133 (lv_at hl 0 rfl) ?_
      refine hb_icmp_lt (zx := x_8.toInt) (zy := x_25.toInt) (tgt := 142) hx hb rfl rfl dX10_isSo_135 ?o173 (fun c_33 => ?_) (fun c_33 => ?_)
      case o173 => decide
      · skip
        refine lv_iconst (v := 0) hx hb dX10_isSo_142 ?o174 ?_
        case o174 => decide
        refine hx_retz hx hb hr rfl hlk hW ⟨(Or.inr ⟨?o175, hv_nb ((hq_o hm9).2.2.2.1 ?o176) ?o177⟩), hT, hM⟩ dX10_isSo_143
        case o175 => decide
        case o176 => omega
        case o177 => omega
      · skip
        refine lv_iconst (v := 1) hx hb dX10_isSo_138 ?o178 ?_
        case o178 => decide
        refine lv_goto (tgt := 143) hx hb dX10_isSo_139 ?o179 ?_
        case o179 => decide
        refine hx_retz hx hb hr rfl hlk hW ⟨(Or.inl ⟨?o180, ((hq_o hm9).2.2.2.1 ?o181).mpr ?o182⟩), hT, hM⟩ dX10_isSo_143
        case o180 => decide
        case o181 => omega
        case o182 => omega


set_option maxHeartbeats 4000000 in
set_option maxRecDepth 100000 in
theorem t_X10_isProved_v (l : Launch) (dC : Nat → ClassId) (dI : Nat → Nat → Nat) (dA : Nat → ClassId) (L : List Nat) (h : hx_h) (sz : Nat) (x : Nat) (i1 : Int32) (i2 : Int32) (hT : hx_T T_tb L h) (gx : hx_g L h x 10) (qn : Nat) (gqn : hx_g L h qn 51) (f_x_4 : h.2.2 x 4 = some qn) (qp : Nat) (gqp : hx_g L h qp 52) (f_x_5 : h.2.2 x 5 = some qp) (qs : Nat) (gqs : hx_g L h qs 99) (f_x_66 : h.2.2 x 66 = some qs) (qf : Nat) (gqf : hx_g L h qf 88) (f_x_53 : h.2.2 x 53 = some qf) (psf : Nat → Int32) (af_qn : h.2.1 qn = psf) (prf : Nat → Int32) (af_qp : h.2.1 qp = prf) (sf : Nat → Int32) (af_qs : h.2.1 qs = sf) (rf : Nat → Int32) (af_qf : h.2.1 qf = rf) (hi1 : 0 ≤ i1.toInt ∧ i1.toInt ≤ 99) (hi2 : 0 ≤ i2.toInt ∧ i2.toInt ≤ 8) (o : List hv_tok) (hO : hv_OK o) (hls : hv_ls (fun i => prf (128 * i2.toInt.toNat + i)) (psf i2.toInt.toNat).toInt.toNat = o.map hv_rc) (hps : (psf i2.toInt.toNat).toInt ≤ 128) : Met l yX10_isProved (Cond.code yX10_isProved cX10_isProved 6 (some .boolean) :: hx_all) ({ frames := 1, cells := 0, slots := 0, locals := 25 }) (va_Pc [.ref x, .int i1, .int i2] (hx_B T_tb (P_ty dA) (dC, dI) vwCl L h sz)) (va_Qi (fun (r : Int32) (u : List Nat × hx_h) => ((r.toInt = 1 ∧ hv_pr (hv_F0 rf (8 * i1.toInt.toNat)) o = true) ∨ (r.toInt = 0 ∧ hv_pr (hv_F0 rf (8 * i1.toInt.toNat)) o = false)) ∧ hx_T T_tb u.1 u.2 ∧ hx_S T_tb [(99, 0)] L h u.1 u.2) (hx_E T_tb (P_ty dA) (dC, dI) vwCl (hx_A L sz)) (hx_A L sz)) 0 0 (hx_A L sz) := by
  refine hx_met (lv := [(0, .ref x), (1, .int i1), (2, .int i2)]) (by decide +kernel) rfl (Nat.le_of_ble_eq_true rfl) rfl ?_
  intro p e s m below meth c hx hb hml hr hlk hts0 hown hin hsz hW ls hl
  have hts : ∀ w ∈ hx_all, w.before _ s = true := fun w hw => hts0 w (List.mem_cons_of_mem _ hw)
  have hown : s.vm.findClass "SmallCourtModel" = some m.cls := hown
  have hM : hx_S T_tb [(99, 0)] L h L h := hx_S.rf
  refine lv_iconst (v := 0) hx hb dX10_isProved_0 ?o0 ?_
  case o0 => decide
  refine lv_istore_n (lv' := [(3, .int (0 : Int32)), (0, .ref x), (1, .int i1), (2, .int i2)]) hx hb dX10_isProved_1 rfl hl ?o1 rfl (fun ls hl => ?_)
  case o1 => decide
  refine lv_iconst (v := 0) hx hb dX10_isProved_2 ?o2 ?_
  case o2 => decide
  refine lv_istore (lv' := [(4, .int (0 : Int32)), (3, .int (0 : Int32)), (0, .ref x), (1, .int i1), (2, .int i2)]) hx hb dX10_isProved_3 hl ?o3 rfl (fun ls hl => ?_)
  case o3 => decide
  have loop5 : ∀ (n5 : Nat) (iv5_3 iv5_4 : Int32) (ia5_qs : Nat → Int32) (H : Heap) (locs : List Loc) (hL1 : List Nat) (hl1 : hx_h), 0 ≤ iv5_3.toInt → iv5_3.toInt ≤ 128 → 0 ≤ iv5_4.toInt → iv5_4.toInt ≤ 128 → (hv_BS ia5_qs (iv5_3.toInt).toNat (hv_ev (hv_F0 rf (8 * i1.toInt.toNat)) (o.drop ((psf i2.toInt.toNat).toInt - iv5_4.toInt).toNat))) → (iv5_4.toInt = 0 ∨ iv5_4.toInt ≤ (psf i2.toInt.toNat).toInt) → ∀ (ls : Array Slot), 128 - iv5_4.toInt < (n5 : Int) → hx_W T_tb (P_ty dA) (dC, dI) vwCl (hx_A L sz) s.heap hL1 hl1 s H locs → hx_T T_tb hL1 hl1 → hx_S T_tb [(99, 0)] L h hL1 hl1 → hl1.2.1 qs = ia5_qs → lv_has ls 6 [(4, .int iv5_4), (3, .int iv5_3), (0, .ref x), (1, .int i1), (2, .int i2)] → W p l e ({ frames := 1, cells := 0, slots := 0, locals := 25 }) s m ([.ref x, .int i1, .int i2] : List Value).toArray below meth c H locs 0 0 (MQ below (va_Qi (fun (r : Int32) (u : List Nat × hx_h) => ((r.toInt = 1 ∧ hv_pr (hv_F0 rf (8 * i1.toInt.toNat)) o = true) ∨ (r.toInt = 0 ∧ hv_pr (hv_F0 rf (8 * i1.toInt.toNat)) o = false)) ∧ hx_T T_tb u.1 u.2 ∧ hx_S T_tb [(99, 0)] L h u.1 u.2) (hx_E T_tb (P_ty dA) (dC, dI) vwCl (hx_A L sz)) (hx_A L sz)) ([.ref x, .int i1, .int i2] : List Value).toArray s 0 0 (hx_A L sz)) (F0 m 5 ls []) := by
    intro n5
    induction n5 with
    | zero => intro iv5_3 iv5_4 ia5_qs H locs hL1 hl1 bliv5_3 buiv5_3 bliv5_4 buiv5_4 vi5_0 vi5_1 ls hn5; exfalso; omega
    | succ n5 ih5 =>
      intro iv5_3 iv5_4 ia5_qs H locs hL1 hl1 bliv5_3 buiv5_3 bliv5_4 buiv5_4 vi5_0 vi5_1 ls hn5 hW hT hM  nia5_qs hl
      refine lv_iload hx hb dX10_isProved_5 (lv_at hl 0 rfl) ?_
      refine lv_aload_n hx hb dX10_isProved_7 rfl (lv_at hl 2 rfl) ?_
      refine hk_getr hx hb hts hC_10 hown hW (gx.S hM) tt_10 4 ?o4 rfl kw_1147 ⟨rfl, rfl, rfl⟩ ((hM.o gx trivial rfl).2.trans f_x_4) dX10_isProved_8 ?_
      case o4 => decide
      refine lv_iload_n hx hb dX10_isProved_11 rfl (lv_at hl 4 rfl) ?_
      refine hx_iald hx hb hW hT (gqn.S hM) tt_51 rfl ⟨?o5, ?o6⟩ dX10_isProved_12 (fun x_1 ex_1 lx_1 ux_1 => ?_)
      case o5 => omega
      case o6 => omega
      have ax_1 : x_1 = psf i2.toNatClampNeg := ex_1.trans (congrFun (hx_afS hM gqn rfl af_qn) _)
      have hn9 : x_1.toInt = (psf i2.toInt.toNat).toInt := congrArg Int32.toInt ax_1
      refine hb_icmp_ge (zx := iv5_4.toInt) (zy := x_1.toInt) (tgt := 167) hx hb rfl rfl dX10_isProved_13 ?o7 (fun c_2 => ?_) (fun c_2 => ?_)
      case o7 => decide
      · skip
        refine lv_aload_n hx hb dX10_isProved_167 rfl (lv_at hl 2 rfl) ?_
        refine hk_getr hx hb hts hC_10 hown hW (gx.S hM) tt_10 66 ?o8 rfl kw_1209 ⟨rfl, rfl, rfl⟩ ((hM.o gx trivial rfl).2.trans f_x_66) dX10_isProved_168 ?_
        case o8 => decide
        refine lv_iconst (v := 0) hx hb dX10_isProved_171 ?o9 ?_
        case o9 => decide
        refine hx_zald hx hb hW hT (gqs.S hM) tt_99 rfl ?o10 dX10_isProved_172 (fun x_3 ex_3 lx_3 ux_3 => ?_)
        case o10 => decide
        have ax_3 : x_3 = ia5_qs (0 : Int32).toNatClampNeg := ex_3.trans (congrFun nia5_qs _)
        refine hx_retz hx hb hr (hx_nar01 ?o11) hlk hW ⟨(by have h8 := vi5_0; rw [show ((psf i2.toInt.toNat).toInt - iv5_4.toInt).toNat = 0 by omega] at h8; exact hv_rE hO h8 (by decide) ax_3), hT, hM⟩ dX10_isProved_173
        case o11 => omega
      · skip
        refine lv_aload_n hx hb dX10_isProved_16 rfl (lv_at hl 2 rfl) ?_
        refine hk_getr hx hb hts hC_10 hown hW (gx.S hM) tt_10 5 ?o12 rfl kw_1148 ⟨rfl, rfl, rfl⟩ ((hM.o gx trivial rfl).2.trans f_x_5) dX10_isProved_17 ?_
        case o12 => decide
        refine lv_sipush (v := 128) hx hb dX10_isProved_20 ?o13 ?_
        case o13 => decide
        refine lv_iload_n hx hb dX10_isProved_23 rfl (lv_at hl 4 rfl) ?_
        refine lv_imul hx hb dX10_isProved_24 ?_
        refine lv_topi (fun x_4 ex_4 => ?_)
        have zx_4 : x_4.toInt = 128 * i2.toInt := ?o14
        case o14 =>
          rw [ex_4]
          refine i32_mul ?o15 rfl rfl ?o16 ?o17
          case o15 => decide
          case o16 => omega
          case o17 => omega
        refine lv_iload hx hb dX10_isProved_25 (lv_at hl 0 rfl) ?_
        refine lv_iadd hx hb dX10_isProved_27 ?_
        have rg_5 := i32_r x_4
        have rg_6 := i32_r iv5_4
        refine lv_topi (fun x_7 ex_7 => ?_)
        have zx_7 : x_7.toInt = x_4.toInt + iv5_4.toInt := ?o18
        case o18 =>
          rw [ex_7]
          refine i32_add rfl rfl ?o19 ?o20
          case o19 => omega
          case o20 => omega
        refine hx_iald hx hb hW hT (gqp.S hM) tt_52 rfl ⟨?o21, ?o22⟩ dX10_isProved_28 (fun x_8 ex_8 lx_8 ux_8 => ?_)
        case o21 => omega
        case o22 => omega
        have ax_8 : x_8 = prf x_7.toNatClampNeg := ex_8.trans (congrFun (hx_afS hM gqp rfl af_qp) _)
        obtain ⟨t9, s9, hs9, hvt9, hv9, hev9, hl9, hh9⟩ := hv_pg (F := (hv_F0 rf (8 * i1.toInt.toNat))) (f := fun i => prf (128 * i2.toInt.toNat + i)) (n := (psf i2.toInt.toNat).toInt) (k := iv5_4.toInt) (ix := iv5_4.toInt.toNat) hls hO (by omega) (by omega) (by omega) (ax_8.trans (congrArg prf (by unfold Int32.toNatClampNeg; omega)))
        have hb9 := vi5_0; rw [← hs9] at hb9
        have hk9 := hv_rc_k hvt9
        have hbl9 := hv_BS_l hb9
        have hro9 : t9.1 = 0 → hv_rc t9 = (t9.2.1 : Int) := fun z => (hv_rc_o hvt9 z).1
        refine lv_istore (lv' := [(5, .int x_8), (4, .int iv5_4), (3, .int iv5_3), (0, .ref x), (1, .int i1), (2, .int i2)]) hx hb dX10_isProved_29 hl ?o23 rfl (fun ls hl => ?_)
        case o23 => decide
        refine lv_iload hx hb dX10_isProved_31 (lv_at hl 0 rfl) ?_
        refine lv_ldcw (v := 1000000) hx hb hown (hts _ kw_1133) dX10_isProved_33 ?_
        refine hb_icmp_lt (zx := x_8.toInt) (zy := 1000000) (tgt := 58) hx hb rfl ?o24 dX10_isProved_36 ?o25 (fun c_9 => ?_) (fun c_9 => ?_)
        case o24 => decide
        case o25 => decide
        · skip
          refine lv_iload hx hb dX10_isProved_58 (lv_at hl 0 rfl) ?_
          refine lv_iconst (v := 2) hx hb dX10_isProved_60 ?o26 ?_
          case o26 => decide
          refine hb_icmp_ne (zx := x_8.toInt) (zy := 2) (tgt := 91) hx hb rfl ?o27 dX10_isProved_61 ?o28 (fun c_10 => ?_) (fun c_10 => ?_)
          case o27 => decide
          case o28 => decide
          · skip
            have hh8 := hh9 ?o29
            case o29 => omega
            obtain ⟨x_11, ex_11⟩ : ∃ y : Int32, y = iv5_3 + Int32.ofInt (-1) := ⟨_, rfl⟩
            have rg_12 := i32_r iv5_3
            have zx_11 : x_11.toInt = iv5_3.toInt + (-1) := ?o30
            case o30 =>
              rw [ex_11]
              refine i32_add rfl ?o31 ?o32 ?o33
              case o31 => decide
              case o32 => omega
              case o33 => omega
            refine lv_iinc (v := x_11) (lv' := [(3, .int x_11), (5, .int x_8), (4, .int iv5_4), (0, .ref x), (1, .int i1), (2, .int i2)]) hx hb dX10_isProved_91 hl (k := 2) rfl ex_11.symm ?o34 rfl (fun ls hl => ?_)
            case o34 => decide
            refine lv_aload_n hx hb dX10_isProved_94 rfl (lv_at hl 3 rfl) ?_
            refine hk_getr hx hb hts hC_10 hown hW (gx.S hM) tt_10 66 ?o35 rfl kw_1209 ⟨rfl, rfl, rfl⟩ ((hM.o gx trivial rfl).2.trans f_x_66) dX10_isProved_95 ?_
            case o35 => decide
            refine lv_iload_n hx hb dX10_isProved_98 rfl (lv_at hl 0 rfl) ?_
            refine lv_iconst (v := 1) hx hb dX10_isProved_99 ?o36 ?_
            case o36 => decide
            refine lv_isub hx hb dX10_isProved_100 ?_
            have rg_13 := i32_r x_11
            refine lv_topi (fun x_14 ex_14 => ?_)
            have zx_14 : x_14.toInt = x_11.toInt - 1 := ?o37
            case o37 =>
              rw [ex_14]
              refine i32_sub rfl ?o38 ?o39 ?o40
              case o38 => decide
              case o39 => omega
              case o40 => omega
            refine lv_iload hx hb dX10_isProved_101 (lv_at hl 1 rfl) ?_
            refine lv_iconst (v := 1) hx hb dX10_isProved_103 ?o41 ?_
            case o41 => decide
            refine hb_icmp_ne (zx := x_8.toInt) (zy := 1) (tgt := 135) hx hb rfl ?o42 dX10_isProved_104 ?o43 (fun c_15 => ?_) (fun c_15 => ?_)
            case o42 => decide
            case o43 => decide
            · skip
              refine lv_aload_n hx hb dX10_isProved_135 rfl (lv_at hl 3 rfl) ?_
              refine hk_getr hx hb hts hC_10 hown hW (gx.S hM) tt_10 66 ?o44 rfl kw_1209 ⟨rfl, rfl, rfl⟩ ((hM.o gx trivial rfl).2.trans f_x_66) dX10_isProved_136 ?_
              case o44 => decide
              refine lv_iload_n hx hb dX10_isProved_139 rfl (lv_at hl 0 rfl) ?_
              refine lv_iconst (v := 1) hx hb dX10_isProved_140 ?o45 ?_
              case o45 => decide
              refine lv_isub hx hb dX10_isProved_141 ?_
              refine lv_topi (fun x_16 ex_16 => ?_)
              have zx_16 : x_16.toInt = x_11.toInt - 1 := ?o46
              case o46 =>
                rw [ex_16]
                refine i32_sub rfl ?o47 ?o48 ?o49
                case o47 => decide
                case o48 => omega
                case o49 => omega
              obtain rfl : x_14 = x_16 := ex_14.trans ex_16.symm
              refine hx_zald hx hb hW hT (gqs.S hM) tt_99 rfl ⟨?o50, ?o51⟩ dX10_isProved_142 (fun x_17 ex_17 lx_17 ux_17 => ?_)
              case o50 => omega
              case o51 => omega
              have ax_17 : x_17 = ia5_qs x_14.toNatClampNeg := ex_17.trans (congrFun nia5_qs _)
              refine hb_if_ne (zx := x_17.toInt) (tgt := 155) hx hb rfl dX10_isProved_143 ?o52 (fun c_18 => ?_) (fun c_18 => ?_)
              case o52 => decide
              · skip
                refine lv_iconst (v := 1) hx hb dX10_isProved_155 ?o53 ?_
                case o53 => decide
                refine lv_goto (tgt := 160) hx hb dX10_isProved_156 ?o54 ?_
                case o54 => decide
                have nia5_qsO := nia5_qs
                refine hx_zast hx hb hW hT (hx_S.rf (M := [(99, 0)])) (gqs.S hM) tt_99 rfl ⟨?o55, ?o56⟩ (y := 1) ?o57 ?o58 (List.mem_singleton.mpr rfl) dX10_isProved_160 (fun H locs h_19 eh_19 hW hT hs => ?_)
                case o55 => omega
                case o56 => omega
                case o57 => decide
                case o58 => decide
                replace ex_1 := ex_1.trans (hs.a (gqn.S hM) rfl _).1.symm
                replace ex_8 := ex_8.trans (hs.a (gqp.S hM) rfl _).1.symm
                replace hM := hM.tr (hs.mono ?o59)
                case o59 => decide
                obtain ⟨fa_20, dfa_20⟩ : ∃ g : Nat → Int32, g = hx_up ia5_qs x_14.toNatClampNeg (1 : Int32) := ⟨_, rfl⟩
                have nfa_20 : h_19.2.1 qs = fa_20 := ?o60
                case o60 =>
                  rw [eh_19, dfa_20, ← nia5_qsO]
                  exact hx_pi_fun _ _ _ _
                obtain ⟨x_21, ex_21⟩ : ∃ y : Int32, y = iv5_4 + Int32.ofInt 1 := ⟨_, rfl⟩
                have zx_21 : x_21.toInt = iv5_4.toInt + (1) := ?o61
                case o61 =>
                  rw [ex_21]
                  refine i32_add rfl ?o62 ?o63 ?o64
                  case o62 => decide
                  case o63 => omega
                  case o64 => omega
                refine lv_iinc (v := x_21) (lv' := [(4, .int x_21), (3, .int x_11), (5, .int x_8), (0, .ref x), (1, .int i1), (2, .int i2)]) hx hb dX10_isProved_161 hl (k := 2) rfl ex_21.symm ?o65 rfl (fun ls hl => ?_)
                case o65 => decide
                refine lv_goto (tgt := 5) hx hb dX10_isProved_164 ?o66 ?_
                case o66 => decide
                refine ih5 x_11 x_21 fa_20 _ _ hL1 h_19 ?o67 ?o68 ?o69 ?o70 (by rw [zx_21, hev9]; exact hv_rB hb9 (by omega) (by omega) (by unfold Int32.toNatClampNeg; omega) (iy := x_11.toNatClampNeg) (by unfold Int32.toNatClampNeg; omega) ax_17 rfl (by have zv : (1 : Int32).toInt = 1 := (by decide); omega) dfa_20 (by omega)) ?o71 ls ?o72 hW hT hM  nfa_20 (lv_sub hl [0, 1, 3, 4, 5] rfl)
                case o67 => omega
                case o68 => omega
                case o69 => omega
                case o70 => omega
                case o71 => omega
                case o72 => omega
              · skip
                refine lv_aload_n hx hb dX10_isProved_146 rfl (lv_at hl 3 rfl) ?_
                refine hk_getr hx hb hts hC_10 hown hW (gx.S hM) tt_10 66 ?o73 rfl kw_1209 ⟨rfl, rfl, rfl⟩ ((hM.o gx trivial rfl).2.trans f_x_66) dX10_isProved_147 ?_
                case o73 => decide
                refine lv_iload_n hx hb dX10_isProved_150 rfl (lv_at hl 0 rfl) ?_
                refine hx_zald hx hb hW hT (gqs.S hM) tt_99 rfl ⟨?o74, ?o75⟩ dX10_isProved_151 (fun x_22 ex_22 lx_22 ux_22 => ?_)
                case o74 => omega
                case o75 => omega
                have ax_22 : x_22 = ia5_qs x_11.toNatClampNeg := ex_22.trans (congrFun nia5_qs _)
                refine hb_if_eq (zx := x_22.toInt) (tgt := 159) hx hb rfl dX10_isProved_152 ?o76 (fun c_23 => ?_) (fun c_23 => ?_)
                case o76 => decide
                · skip
                  refine lv_iconst (v := 0) hx hb dX10_isProved_159 ?o77 ?_
                  case o77 => decide
                  have nia5_qsO := nia5_qs
                  refine hx_zast hx hb hW hT (hx_S.rf (M := [(99, 0)])) (gqs.S hM) tt_99 rfl ⟨?o78, ?o79⟩ (y := 0) ?o80 ?o81 (List.mem_singleton.mpr rfl) dX10_isProved_160 (fun H locs h_24 eh_24 hW hT hs => ?_)
                  case o78 => omega
                  case o79 => omega
                  case o80 => decide
                  case o81 => decide
                  replace ex_1 := ex_1.trans (hs.a (gqn.S hM) rfl _).1.symm
                  replace ex_8 := ex_8.trans (hs.a (gqp.S hM) rfl _).1.symm
                  replace hM := hM.tr (hs.mono ?o82)
                  case o82 => decide
                  obtain ⟨fa_25, dfa_25⟩ : ∃ g : Nat → Int32, g = hx_up ia5_qs x_14.toNatClampNeg (0 : Int32) := ⟨_, rfl⟩
                  have nfa_25 : h_24.2.1 qs = fa_25 := ?o83
                  case o83 =>
                    rw [eh_24, dfa_25, ← nia5_qsO]
                    exact hx_pi_fun _ _ _ _
                  obtain ⟨x_26, ex_26⟩ : ∃ y : Int32, y = iv5_4 + Int32.ofInt 1 := ⟨_, rfl⟩
                  have zx_26 : x_26.toInt = iv5_4.toInt + (1) := ?o84
                  case o84 =>
                    rw [ex_26]
                    refine i32_add rfl ?o85 ?o86 ?o87
                    case o85 => decide
                    case o86 => omega
                    case o87 => omega
                  refine lv_iinc (v := x_26) (lv' := [(4, .int x_26), (3, .int x_11), (5, .int x_8), (0, .ref x), (1, .int i1), (2, .int i2)]) hx hb dX10_isProved_161 hl (k := 2) rfl ex_26.symm ?o88 rfl (fun ls hl => ?_)
                  case o88 => decide
                  refine lv_goto (tgt := 5) hx hb dX10_isProved_164 ?o89 ?_
                  case o89 => decide
                  refine ih5 x_11 x_26 fa_25 _ _ hL1 h_24 ?o90 ?o91 ?o92 ?o93 (by rw [zx_26, hev9]; exact hv_rB hb9 (by omega) (by omega) (by unfold Int32.toNatClampNeg; omega) (iy := x_11.toNatClampNeg) (by unfold Int32.toNatClampNeg; omega) ax_17 ax_22 (by have zv : (0 : Int32).toInt = 0 := (by decide); omega) dfa_25 (by omega)) ?o94 ls ?o95 hW hT hM  nfa_25 (lv_sub hl [0, 1, 3, 4, 5] rfl)
                  case o90 => omega
                  case o91 => omega
                  case o92 => omega
                  case o93 => omega
                  case o94 => omega
                  case o95 => omega
                · skip
                  refine lv_iconst (v := 1) hx hb dX10_isProved_155 ?o96 ?_
                  case o96 => decide
                  refine lv_goto (tgt := 160) hx hb dX10_isProved_156 ?o97 ?_
                  case o97 => decide
                  have nia5_qsO := nia5_qs
                  refine hx_zast hx hb hW hT (hx_S.rf (M := [(99, 0)])) (gqs.S hM) tt_99 rfl ⟨?o98, ?o99⟩ (y := 1) ?o100 ?o101 (List.mem_singleton.mpr rfl) dX10_isProved_160 (fun H locs h_27 eh_27 hW hT hs => ?_)
                  case o98 => omega
                  case o99 => omega
                  case o100 => decide
                  case o101 => decide
                  replace ex_1 := ex_1.trans (hs.a (gqn.S hM) rfl _).1.symm
                  replace ex_8 := ex_8.trans (hs.a (gqp.S hM) rfl _).1.symm
                  replace hM := hM.tr (hs.mono ?o102)
                  case o102 => decide
                  obtain ⟨fa_28, dfa_28⟩ : ∃ g : Nat → Int32, g = hx_up ia5_qs x_14.toNatClampNeg (1 : Int32) := ⟨_, rfl⟩
                  have nfa_28 : h_27.2.1 qs = fa_28 := ?o103
                  case o103 =>
                    rw [eh_27, dfa_28, ← nia5_qsO]
                    exact hx_pi_fun _ _ _ _
                  obtain ⟨x_29, ex_29⟩ : ∃ y : Int32, y = iv5_4 + Int32.ofInt 1 := ⟨_, rfl⟩
                  have zx_29 : x_29.toInt = iv5_4.toInt + (1) := ?o104
                  case o104 =>
                    rw [ex_29]
                    refine i32_add rfl ?o105 ?o106 ?o107
                    case o105 => decide
                    case o106 => omega
                    case o107 => omega
                  refine lv_iinc (v := x_29) (lv' := [(4, .int x_29), (3, .int x_11), (5, .int x_8), (0, .ref x), (1, .int i1), (2, .int i2)]) hx hb dX10_isProved_161 hl (k := 2) rfl ex_29.symm ?o108 rfl (fun ls hl => ?_)
                  case o108 => decide
                  refine lv_goto (tgt := 5) hx hb dX10_isProved_164 ?o109 ?_
                  case o109 => decide
                  refine ih5 x_11 x_29 fa_28 _ _ hL1 h_27 ?o110 ?o111 ?o112 ?o113 (by rw [zx_29, hev9]; exact hv_rB hb9 (by omega) (by omega) (by unfold Int32.toNatClampNeg; omega) (iy := x_11.toNatClampNeg) (by unfold Int32.toNatClampNeg; omega) ax_17 ax_22 (by have zv : (1 : Int32).toInt = 1 := (by decide); omega) dfa_28 (by omega)) ?o114 ls ?o115 hW hT hM  nfa_28 (lv_sub hl [0, 1, 3, 4, 5] rfl)
                  case o110 => omega
                  case o111 => omega
                  case o112 => omega
                  case o113 => omega
                  case o114 => omega
                  case o115 => omega
            · skip
              refine lv_aload_n hx hb dX10_isProved_107 rfl (lv_at hl 3 rfl) ?_
              refine hk_getr hx hb hts hC_10 hown hW (gx.S hM) tt_10 66 ?o116 rfl kw_1209 ⟨rfl, rfl, rfl⟩ ((hM.o gx trivial rfl).2.trans f_x_66) dX10_isProved_108 ?_
              case o116 => decide
              refine lv_iload_n hx hb dX10_isProved_111 rfl (lv_at hl 0 rfl) ?_
              refine lv_iconst (v := 1) hx hb dX10_isProved_112 ?o117 ?_
              case o117 => decide
              refine lv_isub hx hb dX10_isProved_113 ?_
              refine lv_topi (fun x_30 ex_30 => ?_)
              have zx_30 : x_30.toInt = x_11.toInt - 1 := ?o118
              case o118 =>
                rw [ex_30]
                refine i32_sub rfl ?o119 ?o120 ?o121
                case o119 => decide
                case o120 => omega
                case o121 => omega
              obtain rfl : x_14 = x_30 := ex_14.trans ex_30.symm
              refine hx_zald hx hb hW hT (gqs.S hM) tt_99 rfl ⟨?o122, ?o123⟩ dX10_isProved_114 (fun x_31 ex_31 lx_31 ux_31 => ?_)
              case o122 => omega
              case o123 => omega
              have ax_31 : x_31 = ia5_qs x_14.toNatClampNeg := ex_31.trans (congrFun nia5_qs _)
              refine hb_if_eq (zx := x_31.toInt) (tgt := 131) hx hb rfl dX10_isProved_115 ?o124 (fun c_32 => ?_) (fun c_32 => ?_)
              case o124 => decide
              · skip
                refine lv_iconst (v := 0) hx hb dX10_isProved_131 ?o125 ?_
                case o125 => decide
                refine lv_goto (tgt := 160) hx hb dX10_isProved_132 ?o126 ?_
                case o126 => decide
                have nia5_qsO := nia5_qs
                refine hx_zast hx hb hW hT (hx_S.rf (M := [(99, 0)])) (gqs.S hM) tt_99 rfl ⟨?o127, ?o128⟩ (y := 0) ?o129 ?o130 (List.mem_singleton.mpr rfl) dX10_isProved_160 (fun H locs h_33 eh_33 hW hT hs => ?_)
                case o127 => omega
                case o128 => omega
                case o129 => decide
                case o130 => decide
                replace ex_1 := ex_1.trans (hs.a (gqn.S hM) rfl _).1.symm
                replace ex_8 := ex_8.trans (hs.a (gqp.S hM) rfl _).1.symm
                replace hM := hM.tr (hs.mono ?o131)
                case o131 => decide
                obtain ⟨fa_34, dfa_34⟩ : ∃ g : Nat → Int32, g = hx_up ia5_qs x_14.toNatClampNeg (0 : Int32) := ⟨_, rfl⟩
                have nfa_34 : h_33.2.1 qs = fa_34 := ?o132
                case o132 =>
                  rw [eh_33, dfa_34, ← nia5_qsO]
                  exact hx_pi_fun _ _ _ _
                obtain ⟨x_35, ex_35⟩ : ∃ y : Int32, y = iv5_4 + Int32.ofInt 1 := ⟨_, rfl⟩
                have zx_35 : x_35.toInt = iv5_4.toInt + (1) := ?o133
                case o133 =>
                  rw [ex_35]
                  refine i32_add rfl ?o134 ?o135 ?o136
                  case o134 => decide
                  case o135 => omega
                  case o136 => omega
                refine lv_iinc (v := x_35) (lv' := [(4, .int x_35), (3, .int x_11), (5, .int x_8), (0, .ref x), (1, .int i1), (2, .int i2)]) hx hb dX10_isProved_161 hl (k := 2) rfl ex_35.symm ?o137 rfl (fun ls hl => ?_)
                case o137 => decide
                refine lv_goto (tgt := 5) hx hb dX10_isProved_164 ?o138 ?_
                case o138 => decide
                refine ih5 x_11 x_35 fa_34 _ _ hL1 h_33 ?o139 ?o140 ?o141 ?o142 (by rw [zx_35, hev9]; exact hv_rB hb9 (by omega) (by omega) (by unfold Int32.toNatClampNeg; omega) (iy := x_11.toNatClampNeg) (by unfold Int32.toNatClampNeg; omega) ax_31 rfl (by have zv : (0 : Int32).toInt = 0 := (by decide); omega) dfa_34 (by omega)) ?o143 ls ?o144 hW hT hM  nfa_34 (lv_sub hl [0, 1, 3, 4, 5] rfl)
                case o139 => omega
                case o140 => omega
                case o141 => omega
                case o142 => omega
                case o143 => omega
                case o144 => omega
              · skip
                refine lv_aload_n hx hb dX10_isProved_118 rfl (lv_at hl 3 rfl) ?_
                refine hk_getr hx hb hts hC_10 hown hW (gx.S hM) tt_10 66 ?o145 rfl kw_1209 ⟨rfl, rfl, rfl⟩ ((hM.o gx trivial rfl).2.trans f_x_66) dX10_isProved_119 ?_
                case o145 => decide
                refine lv_iload_n hx hb dX10_isProved_122 rfl (lv_at hl 0 rfl) ?_
                refine hx_zald hx hb hW hT (gqs.S hM) tt_99 rfl ⟨?o146, ?o147⟩ dX10_isProved_123 (fun x_36 ex_36 lx_36 ux_36 => ?_)
                case o146 => omega
                case o147 => omega
                have ax_36 : x_36 = ia5_qs x_11.toNatClampNeg := ex_36.trans (congrFun nia5_qs _)
                refine hb_if_eq (zx := x_36.toInt) (tgt := 131) hx hb rfl dX10_isProved_124 ?o148 (fun c_37 => ?_) (fun c_37 => ?_)
                case o148 => decide
                · skip
                  refine lv_iconst (v := 0) hx hb dX10_isProved_131 ?o149 ?_
                  case o149 => decide
                  refine lv_goto (tgt := 160) hx hb dX10_isProved_132 ?o150 ?_
                  case o150 => decide
                  have nia5_qsO := nia5_qs
                  refine hx_zast hx hb hW hT (hx_S.rf (M := [(99, 0)])) (gqs.S hM) tt_99 rfl ⟨?o151, ?o152⟩ (y := 0) ?o153 ?o154 (List.mem_singleton.mpr rfl) dX10_isProved_160 (fun H locs h_38 eh_38 hW hT hs => ?_)
                  case o151 => omega
                  case o152 => omega
                  case o153 => decide
                  case o154 => decide
                  replace ex_1 := ex_1.trans (hs.a (gqn.S hM) rfl _).1.symm
                  replace ex_8 := ex_8.trans (hs.a (gqp.S hM) rfl _).1.symm
                  replace hM := hM.tr (hs.mono ?o155)
                  case o155 => decide
                  obtain ⟨fa_39, dfa_39⟩ : ∃ g : Nat → Int32, g = hx_up ia5_qs x_14.toNatClampNeg (0 : Int32) := ⟨_, rfl⟩
                  have nfa_39 : h_38.2.1 qs = fa_39 := ?o156
                  case o156 =>
                    rw [eh_38, dfa_39, ← nia5_qsO]
                    exact hx_pi_fun _ _ _ _
                  obtain ⟨x_40, ex_40⟩ : ∃ y : Int32, y = iv5_4 + Int32.ofInt 1 := ⟨_, rfl⟩
                  have zx_40 : x_40.toInt = iv5_4.toInt + (1) := ?o157
                  case o157 =>
                    rw [ex_40]
                    refine i32_add rfl ?o158 ?o159 ?o160
                    case o158 => decide
                    case o159 => omega
                    case o160 => omega
                  refine lv_iinc (v := x_40) (lv' := [(4, .int x_40), (3, .int x_11), (5, .int x_8), (0, .ref x), (1, .int i1), (2, .int i2)]) hx hb dX10_isProved_161 hl (k := 2) rfl ex_40.symm ?o161 rfl (fun ls hl => ?_)
                  case o161 => decide
                  refine lv_goto (tgt := 5) hx hb dX10_isProved_164 ?o162 ?_
                  case o162 => decide
                  refine ih5 x_11 x_40 fa_39 _ _ hL1 h_38 ?o163 ?o164 ?o165 ?o166 (by rw [zx_40, hev9]; exact hv_rB hb9 (by omega) (by omega) (by unfold Int32.toNatClampNeg; omega) (iy := x_11.toNatClampNeg) (by unfold Int32.toNatClampNeg; omega) ax_31 ax_36 (by have zv : (0 : Int32).toInt = 0 := (by decide); omega) dfa_39 (by omega)) ?o167 ls ?o168 hW hT hM  nfa_39 (lv_sub hl [0, 1, 3, 4, 5] rfl)
                  case o163 => omega
                  case o164 => omega
                  case o165 => omega
                  case o166 => omega
                  case o167 => omega
                  case o168 => omega
                · skip
                  refine lv_iconst (v := 1) hx hb dX10_isProved_127 ?o169 ?_
                  case o169 => decide
                  refine lv_goto (tgt := 160) hx hb dX10_isProved_128 ?o170 ?_
                  case o170 => decide
                  have nia5_qsO := nia5_qs
                  refine hx_zast hx hb hW hT (hx_S.rf (M := [(99, 0)])) (gqs.S hM) tt_99 rfl ⟨?o171, ?o172⟩ (y := 1) ?o173 ?o174 (List.mem_singleton.mpr rfl) dX10_isProved_160 (fun H locs h_41 eh_41 hW hT hs => ?_)
                  case o171 => omega
                  case o172 => omega
                  case o173 => decide
                  case o174 => decide
                  replace ex_1 := ex_1.trans (hs.a (gqn.S hM) rfl _).1.symm
                  replace ex_8 := ex_8.trans (hs.a (gqp.S hM) rfl _).1.symm
                  replace hM := hM.tr (hs.mono ?o175)
                  case o175 => decide
                  obtain ⟨fa_42, dfa_42⟩ : ∃ g : Nat → Int32, g = hx_up ia5_qs x_14.toNatClampNeg (1 : Int32) := ⟨_, rfl⟩
                  have nfa_42 : h_41.2.1 qs = fa_42 := ?o176
                  case o176 =>
                    rw [eh_41, dfa_42, ← nia5_qsO]
                    exact hx_pi_fun _ _ _ _
                  obtain ⟨x_43, ex_43⟩ : ∃ y : Int32, y = iv5_4 + Int32.ofInt 1 := ⟨_, rfl⟩
                  have zx_43 : x_43.toInt = iv5_4.toInt + (1) := ?o177
                  case o177 =>
                    rw [ex_43]
                    refine i32_add rfl ?o178 ?o179 ?o180
                    case o178 => decide
                    case o179 => omega
                    case o180 => omega
                  refine lv_iinc (v := x_43) (lv' := [(4, .int x_43), (3, .int x_11), (5, .int x_8), (0, .ref x), (1, .int i1), (2, .int i2)]) hx hb dX10_isProved_161 hl (k := 2) rfl ex_43.symm ?o181 rfl (fun ls hl => ?_)
                  case o181 => decide
                  refine lv_goto (tgt := 5) hx hb dX10_isProved_164 ?o182 ?_
                  case o182 => decide
                  refine ih5 x_11 x_43 fa_42 _ _ hL1 h_41 ?o183 ?o184 ?o185 ?o186 (by rw [zx_43, hev9]; exact hv_rB hb9 (by omega) (by omega) (by unfold Int32.toNatClampNeg; omega) (iy := x_11.toNatClampNeg) (by unfold Int32.toNatClampNeg; omega) ax_31 ax_36 (by have zv : (1 : Int32).toInt = 1 := (by decide); omega) dfa_42 (by omega)) ?o187 ls ?o188 hW hT hM  nfa_42 (lv_sub hl [0, 1, 3, 4, 5] rfl)
                  case o183 => omega
                  case o184 => omega
                  case o185 => omega
                  case o186 => omega
                  case o187 => omega
                  case o188 => omega
          · skip
            refine lv_aload_n hx hb dX10_isProved_64 rfl (lv_at hl 3 rfl) ?_
            refine hk_getr hx hb hts hC_10 hown hW (gx.S hM) tt_10 66 ?o189 rfl kw_1209 ⟨rfl, rfl, rfl⟩ ((hM.o gx trivial rfl).2.trans f_x_66) dX10_isProved_65 ?_
            case o189 => decide
            refine lv_iload_n hx hb dX10_isProved_68 rfl (lv_at hl 2 rfl) ?_
            refine lv_iconst (v := 1) hx hb dX10_isProved_69 ?o190 ?_
            case o190 => decide
            refine lv_isub hx hb dX10_isProved_70 ?_
            have rg_44 := i32_r iv5_3
            refine lv_topi (fun x_45 ex_45 => ?_)
            have zx_45 : x_45.toInt = iv5_3.toInt - 1 := ?o191
            case o191 =>
              rw [ex_45]
              refine i32_sub rfl ?o192 ?o193 ?o194
              case o192 => decide
              case o193 => omega
              case o194 => omega
            refine lv_aload_n hx hb dX10_isProved_71 rfl (lv_at hl 3 rfl) ?_
            refine hk_getr hx hb hts hC_10 hown hW (gx.S hM) tt_10 66 ?o195 rfl kw_1209 ⟨rfl, rfl, rfl⟩ ((hM.o gx trivial rfl).2.trans f_x_66) dX10_isProved_72 ?_
            case o195 => decide
            refine lv_iload_n hx hb dX10_isProved_75 rfl (lv_at hl 2 rfl) ?_
            refine lv_iconst (v := 1) hx hb dX10_isProved_76 ?o196 ?_
            case o196 => decide
            refine lv_isub hx hb dX10_isProved_77 ?_
            refine lv_topi (fun x_46 ex_46 => ?_)
            have zx_46 : x_46.toInt = iv5_3.toInt - 1 := ?o197
            case o197 =>
              rw [ex_46]
              refine i32_sub rfl ?o198 ?o199 ?o200
              case o198 => decide
              case o199 => omega
              case o200 => omega
            obtain rfl : x_45 = x_46 := ex_45.trans ex_46.symm
            refine hx_zald hx hb hW hT (gqs.S hM) tt_99 rfl ⟨?o201, ?o202⟩ dX10_isProved_78 (fun x_47 ex_47 lx_47 ux_47 => ?_)
            case o201 => omega
            case o202 => omega
            have ax_47 : x_47 = ia5_qs x_45.toNatClampNeg := ex_47.trans (congrFun nia5_qs _)
            refine hb_if_ne (zx := x_47.toInt) (tgt := 86) hx hb rfl dX10_isProved_79 ?o203 (fun c_48 => ?_) (fun c_48 => ?_)
            case o203 => decide
            · skip
              refine lv_iconst (v := 0) hx hb dX10_isProved_86 ?o204 ?_
              case o204 => decide
              have nia5_qsO := nia5_qs
              refine hx_zast hx hb hW hT (hx_S.rf (M := [(99, 0)])) (gqs.S hM) tt_99 rfl ⟨?o205, ?o206⟩ (y := 0) ?o207 ?o208 (List.mem_singleton.mpr rfl) dX10_isProved_87 (fun H locs h_49 eh_49 hW hT hs => ?_)
              case o205 => omega
              case o206 => omega
              case o207 => decide
              case o208 => decide
              replace ex_1 := ex_1.trans (hs.a (gqn.S hM) rfl _).1.symm
              replace ex_8 := ex_8.trans (hs.a (gqp.S hM) rfl _).1.symm
              replace hM := hM.tr (hs.mono ?o209)
              case o209 => decide
              obtain ⟨fa_50, dfa_50⟩ : ∃ g : Nat → Int32, g = hx_up ia5_qs x_45.toNatClampNeg (0 : Int32) := ⟨_, rfl⟩
              have nfa_50 : h_49.2.1 qs = fa_50 := ?o210
              case o210 =>
                rw [eh_49, dfa_50, ← nia5_qsO]
                exact hx_pi_fun _ _ _ _
              refine lv_goto (tgt := 161) hx hb dX10_isProved_88 ?o211 ?_
              case o211 => decide
              obtain ⟨x_51, ex_51⟩ : ∃ y : Int32, y = iv5_4 + Int32.ofInt 1 := ⟨_, rfl⟩
              have zx_51 : x_51.toInt = iv5_4.toInt + (1) := ?o212
              case o212 =>
                rw [ex_51]
                refine i32_add rfl ?o213 ?o214 ?o215
                case o213 => decide
                case o214 => omega
                case o215 => omega
              refine lv_iinc (v := x_51) (lv' := [(4, .int x_51), (5, .int x_8), (3, .int iv5_3), (0, .ref x), (1, .int i1), (2, .int i2)]) hx hb dX10_isProved_161 hl (k := 1) rfl ex_51.symm ?o216 rfl (fun ls hl => ?_)
              case o216 => decide
              refine lv_goto (tgt := 5) hx hb dX10_isProved_164 ?o217 ?_
              case o217 => decide
              refine ih5 iv5_3 x_51 fa_50 _ _ hL1 h_49 ?o218 ?o219 ?o220 ?o221 (by rw [zx_51, hev9]; exact hv_rN hb9 (by omega) (by omega) (by have := hh9 (by omega); omega) (by unfold Int32.toNatClampNeg; omega) ax_47 (by have zv : (0 : Int32).toInt = 0 := (by decide); omega) dfa_50) ?o222 ls ?o223 hW hT hM  nfa_50 (lv_sub hl [0, 2, 3, 4, 5] rfl)
              case o218 => omega
              case o219 => omega
              case o220 => omega
              case o221 => omega
              case o222 => omega
              case o223 => omega
            · skip
              refine lv_iconst (v := 1) hx hb dX10_isProved_82 ?o224 ?_
              case o224 => decide
              refine lv_goto (tgt := 87) hx hb dX10_isProved_83 ?o225 ?_
              case o225 => decide
              have nia5_qsO := nia5_qs
              refine hx_zast hx hb hW hT (hx_S.rf (M := [(99, 0)])) (gqs.S hM) tt_99 rfl ⟨?o226, ?o227⟩ (y := 1) ?o228 ?o229 (List.mem_singleton.mpr rfl) dX10_isProved_87 (fun H locs h_52 eh_52 hW hT hs => ?_)
              case o226 => omega
              case o227 => omega
              case o228 => decide
              case o229 => decide
              replace ex_1 := ex_1.trans (hs.a (gqn.S hM) rfl _).1.symm
              replace ex_8 := ex_8.trans (hs.a (gqp.S hM) rfl _).1.symm
              replace hM := hM.tr (hs.mono ?o230)
              case o230 => decide
              obtain ⟨fa_53, dfa_53⟩ : ∃ g : Nat → Int32, g = hx_up ia5_qs x_45.toNatClampNeg (1 : Int32) := ⟨_, rfl⟩
              have nfa_53 : h_52.2.1 qs = fa_53 := ?o231
              case o231 =>
                rw [eh_52, dfa_53, ← nia5_qsO]
                exact hx_pi_fun _ _ _ _
              refine lv_goto (tgt := 161) hx hb dX10_isProved_88 ?o232 ?_
              case o232 => decide
              obtain ⟨x_54, ex_54⟩ : ∃ y : Int32, y = iv5_4 + Int32.ofInt 1 := ⟨_, rfl⟩
              have zx_54 : x_54.toInt = iv5_4.toInt + (1) := ?o233
              case o233 =>
                rw [ex_54]
                refine i32_add rfl ?o234 ?o235 ?o236
                case o234 => decide
                case o235 => omega
                case o236 => omega
              refine lv_iinc (v := x_54) (lv' := [(4, .int x_54), (5, .int x_8), (3, .int iv5_3), (0, .ref x), (1, .int i1), (2, .int i2)]) hx hb dX10_isProved_161 hl (k := 1) rfl ex_54.symm ?o237 rfl (fun ls hl => ?_)
              case o237 => decide
              refine lv_goto (tgt := 5) hx hb dX10_isProved_164 ?o238 ?_
              case o238 => decide
              refine ih5 iv5_3 x_54 fa_53 _ _ hL1 h_52 ?o239 ?o240 ?o241 ?o242 (by rw [zx_54, hev9]; exact hv_rN hb9 (by omega) (by omega) (by have := hh9 (by omega); omega) (by unfold Int32.toNatClampNeg; omega) ax_47 (by have zv : (1 : Int32).toInt = 1 := (by decide); omega) dfa_53) ?o243 ls ?o244 hW hT hM  nfa_53 (lv_sub hl [0, 2, 3, 4, 5] rfl)
              case o239 => omega
              case o240 => omega
              case o241 => omega
              case o242 => omega
              case o243 => omega
              case o244 => omega
        · skip
          refine lv_aload_n hx hb dX10_isProved_39 rfl (lv_at hl 3 rfl) ?_
          refine hk_getr hx hb hts hC_10 hown hW (gx.S hM) tt_10 66 ?o245 rfl kw_1209 ⟨rfl, rfl, rfl⟩ ((hM.o gx trivial rfl).2.trans f_x_66) dX10_isProved_40 ?_
          case o245 => decide
          refine lv_iload_n hx hb dX10_isProved_43 rfl (lv_at hl 2 rfl) ?_
          refine lv_aload_n hx hb dX10_isProved_44 rfl (lv_at hl 3 rfl) ?_
          refine lv_iload_n hx hb dX10_isProved_45 rfl (lv_at hl 4 rfl) ?_
          refine lv_iload hx hb dX10_isProved_46 (lv_at hl 0 rfl) ?_
          refine hx_goi (hx_runV (As := [.int i1, .int x_8]) (rest := [.int iv5_3, .ref qs]) ⟨hx, hb, hml, hown, hts⟩ hW (gx.S hM) tt_10 (T := TX10) (N := 98) rfl (t_X10_isSo_v l dC dI dA hL1 hl1 H.size x i1 x_8 hT (gx.S hM) qf (gqf.S hM) ((hM.o gx trivial rfl).2.trans f_x_53) rf (hx_afS hM gqf rfl af_qf) ⟨?o246, ?o247⟩ t9 hvt9 ?o248 hv9) (cwV 2 hts (hx_gV kw_1629 kw_1626 kw_1628 kw_80 kw_103) rfl rfl rfl (by decide +kernel) ⟨Nat.le_of_ble_eq_true rfl, Nat.le_of_ble_eq_true rfl⟩) rfl hl.1 rfl (Nat.le_of_ble_eq_true rfl) dX10_isProved_48 ⟨Nat.le_of_ble_eq_true rfl, Nat.le_of_ble_eq_true rfl⟩) hW (fun r_57 L_55 h_56 H locs p_58 hW => ?_)
          case o246 => omega
          case o247 => omega
          case o248 => omega
          obtain ⟨hr_59, hT, hs⟩ := p_58
          replace hT : hx_T T_tb L_55 h_56 := hT
          replace hs : hx_S T_tb [] hL1 hl1 L_55 h_56 := hs
          replace nia5_qs : h_56.2.1 qs = ia5_qs := (funext fun j => (hs.a (gqs.S hM) rfl j).1).trans nia5_qs
          replace ex_1 := ex_1.trans (hs.a (gqn.S hM) rfl _).1.symm
          replace ex_8 := ex_8.trans (hs.a (gqp.S hM) rfl _).1.symm
          replace hM := hM.tr (hs.mono ?o249)
          case o249 => decide
          have nia5_qsO := nia5_qs
          refine hx_zast hx hb hW hT (hx_S.rf (M := [(99, 0)])) (gqs.S hM) tt_99 rfl ⟨?o250, ?o251⟩ (y := r_57) (hx_nz01 ?o252) ⟨?o253, ?o254⟩ (List.mem_singleton.mpr rfl) dX10_isProved_51 (fun H locs h_60 eh_60 hW hT hs => ?_)
          case o250 => omega
          case o251 => omega
          case o252 => omega
          case o253 => omega
          case o254 => omega
          replace ex_1 := ex_1.trans (hs.a (gqn.S hM) rfl _).1.symm
          replace ex_8 := ex_8.trans (hs.a (gqp.S hM) rfl _).1.symm
          replace hM := hM.tr (hs.mono ?o255)
          case o255 => decide
          obtain ⟨fa_61, dfa_61⟩ : ∃ g : Nat → Int32, g = hx_up ia5_qs iv5_3.toNatClampNeg r_57 := ⟨_, rfl⟩
          have nfa_61 : h_60.2.1 qs = fa_61 := ?o256
          case o256 =>
            rw [eh_60, dfa_61, ← nia5_qsO]
            exact hx_pi_fun _ _ _ _
          obtain ⟨x_62, ex_62⟩ : ∃ y : Int32, y = iv5_3 + Int32.ofInt 1 := ⟨_, rfl⟩
          have rg_63 := i32_r iv5_3
          have zx_62 : x_62.toInt = iv5_3.toInt + (1) := ?o257
          case o257 =>
            rw [ex_62]
            refine i32_add rfl ?o258 ?o259 ?o260
            case o258 => decide
            case o259 => omega
            case o260 => omega
          refine lv_iinc (v := x_62) (lv' := [(3, .int x_62), (5, .int x_8), (4, .int iv5_4), (0, .ref x), (1, .int i1), (2, .int i2)]) hx hb dX10_isProved_52 hl (k := 2) rfl ex_62.symm ?o261 rfl (fun ls hl => ?_)
          case o261 => decide
          refine lv_goto (tgt := 161) hx hb dX10_isProved_55 ?o262 ?_
          case o262 => decide
          obtain ⟨x_64, ex_64⟩ : ∃ y : Int32, y = iv5_4 + Int32.ofInt 1 := ⟨_, rfl⟩
          have zx_64 : x_64.toInt = iv5_4.toInt + (1) := ?o263
          case o263 =>
            rw [ex_64]
            refine i32_add rfl ?o264 ?o265 ?o266
            case o264 => decide
            case o265 => omega
            case o266 => omega
          refine lv_iinc (v := x_64) (lv' := [(4, .int x_64), (3, .int x_62), (5, .int x_8), (0, .ref x), (1, .int i1), (2, .int i2)]) hx hb dX10_isProved_161 hl (k := 2) rfl ex_64.symm ?o267 rfl (fun ls hl => ?_)
          case o267 => decide
          refine lv_goto (tgt := 5) hx hb dX10_isProved_164 ?o268 ?_
          case o268 => decide
          refine ih5 x_62 x_64 fa_61 _ _ L_55 h_60 ?o269 ?o270 ?o271 ?o272 (by rw [zx_64, hev9]; exact hv_rP hb9 (by omega) (by omega) hr_59 (by unfold Int32.toNatClampNeg; omega) dfa_61 (by omega)) ?o273 ls ?o274 hW hT hM  nfa_61 (lv_sub hl [0, 1, 3, 4, 5] rfl)
          case o269 => omega
          case o270 => omega
          case o271 => omega
          case o272 => omega
          case o273 => omega
          case o274 => omega
  have zk_0 : (0 : Int32).toInt = 0 := ?o275
  case o275 => decide
  have zk_0 : (0 : Int32).toInt = 0 := ?o276
  case o276 => decide
  refine loop5 129 (0 : Int32) (0 : Int32) sf _ _ L h ?o277 ?o278 ?o279 ?o280 (by rw [hv_d0 hls zk_0]; exact hv_BS_0) ?o281 ls ?o282 hW hT hM  af_qs hl
  case o277 => decide
  case o278 => decide
  case o279 => decide
  case o280 => decide
  case o281 => omega
  case o282 => omega
end
section
set_option maxHeartbeats 4000000 in
set_option maxRecDepth 100000 in
theorem t_X4_isKinOf_v (l : Launch) (dC : Nat → ClassId) (dI : Nat → Nat → Nat) (dA : Nat → ClassId) (L : List Nat) (h : hx_h) (sz : Nat) (x : Nat) (v1 : Nat) (hT : hx_T T_tb L h) (gx : hx_g L h x 4) (gv1 : hx_g L h v1 4) (qp : Nat) (gqp : hx_g L h qp 44) (np : Int)  (jx : Int32) (eo_x : h.2.2 qp jx.toNatClampNeg = some x) (ob_jx : 0 ≤ jx.toInt ∧ jx.toInt ≤ 39) (iv : Int32) (eo_v1 : h.2.2 qp iv.toNatClampNeg = some v1) (ob_iv : 0 ≤ iv.toInt ∧ iv.toInt ≤ 39)  (kf : Nat → Int32) (cl_qp_2 : hx_col 40 h qp 2 = kf) (nu_qp : hx_num 40 h qp 0 (np)) : Met l yX4_isKinOf (Cond.code yX4_isKinOf cX4_isKinOf 2 (some .boolean) :: hx_all) ({ frames := 0, cells := 0, slots := 0, locals := 0 }) (va_Pc [.ref x, .ref v1] (hx_B T_tb (P_ty dA) (dC, dI) vwCl L h sz)) (va_Qi (fun (r : Int32) (u : List Nat × hx_h) => ((r.toInt = 1 ∧ hv_ki kf jx.toNatClampNeg iv.toNatClampNeg = true) ∨ (r.toInt = 0 ∧ hv_ki kf jx.toNatClampNeg iv.toNatClampNeg = false)) ∧ hx_T T_tb u.1 u.2 ∧ hx_S T_tb [] L h u.1 u.2) (hx_E T_tb (P_ty dA) (dC, dI) vwCl (hx_A L sz)) (hx_A L sz)) 0 0 (hx_A L sz) := by
  refine hx_met (lv := [(0, .ref x), (1, .ref v1)]) (by decide +kernel) rfl (Nat.le_of_ble_eq_true rfl) rfl ?_
  intro p e s m below meth c hx hb hml hr hlk hts0 hown hin hsz hW ls hl
  have hts : ∀ w ∈ hx_all, w.before _ s = true := fun w hw => hts0 w (List.mem_cons_of_mem _ hw)
  have hown : s.vm.findClass "SmallCourt$Person" = some m.cls := hown
  have hM : hx_S T_tb [] L h L h := hx_S.rf
  refine lv_aload_n hx hb dX4_isKinOf_0 rfl (lv_at hl 0 rfl) ?_
  refine lv_aload_n hx hb dX4_isKinOf_1 rfl (lv_at hl 1 rfl) ?_
  refine lv_acmp_eq (rx := (some x)) (ry := (some v1)) (tgt := 24) hx hb dX4_isKinOf_2 ?o0 (fun c_1 => ?_) (fun c_1 => ?_)
  case o0 => decide
  · skip
    refine lv_iconst (v := 1) hx hb dX4_isKinOf_24 ?o1 ?_
    case o1 => decide
    refine lv_goto (tgt := 29) hx hb dX4_isKinOf_25 ?o2 ?_
    case o2 => decide
    refine hx_retz hx hb hr rfl hlk hW ⟨(Or.inl ⟨?o3, hv_ki_t.mpr (Or.inl (by have h9 : x = v1 := Option.some.inj c_1; have h8 : h.2.2 qp iv.toNatClampNeg = some x := (by rw [h9]; exact eo_v1); exact hx_num_eq nu_qp (by unfold Int32.toNatClampNeg; omega) (by unfold Int32.toNatClampNeg; omega) eo_x h8))⟩), hT, hM⟩ dX4_isKinOf_29
    case o3 => decide
  · skip
    refine lv_aload_n hx hb dX4_isKinOf_5 rfl (lv_at hl 0 rfl) ?_
    refine hx_geti hx hb hts hC_4 hown hW hT (gx.S hM) tt_4 2 ?o4 rfl kw_615 ⟨rfl, rfl, rfl⟩ dX4_isKinOf_6 (fun x_2 ex_2 lx_2 ux_2 => ?_)
    case o4 => decide
    have fx_2 := ex_2.symm
    have cx_2 : x_2 = kf jx.toNatClampNeg := ?o5
    case o5 =>
      rw [ex_2, ← cl_qp_2]
      exact (hx_col_at eo_x (by unfold Int32.toNatClampNeg; omega)).symm
    refine lv_iconst (v := -1) hx hb dX4_isKinOf_9 ?o6 ?_
    case o6 => decide
    refine hb_icmp_eq (zx := x_2.toInt) (zy := (-1)) (tgt := 28) hx hb rfl ?o7 dX4_isKinOf_10 ?o8 (fun c_3 => ?_) (fun c_3 => ?_)
    case o7 => decide
    case o8 => decide
    · skip
      refine lv_iconst (v := 0) hx hb dX4_isKinOf_28 ?o9 ?_
      case o9 => decide
      refine hx_retz hx hb hr rfl hlk hW ⟨(Or.inr ⟨?o10, hv_ki_f (fun z => by rcases z with z | ⟨z1, z2⟩; (have h9 : h.2.2 qp iv.toNatClampNeg = some x := by rw [← z]; exact eo_x); (exact absurd (h9.symm.trans eo_v1) c_1); rw [← cx_2] at z1; omega)⟩), hT, hM⟩ dX4_isKinOf_29
      case o10 => decide
    · skip
      refine lv_aload_n hx hb dX4_isKinOf_13 rfl (lv_at hl 0 rfl) ?_
      refine hk_geti hx hb hts hC_4 hown hW (gx.S hM) tt_4 2 ?o11 rfl kw_615 ⟨rfl, rfl, rfl⟩ fx_2 dX4_isKinOf_14 ?_
      case o11 => decide
      refine lv_aload_n hx hb dX4_isKinOf_17 rfl (lv_at hl 1 rfl) ?_
      refine hx_geti hx hb hts hC_4 hown hW hT (gv1.S hM) tt_4 2 ?o12 rfl kw_615 ⟨rfl, rfl, rfl⟩ dX4_isKinOf_18 (fun x_4 ex_4 lx_4 ux_4 => ?_)
      case o12 => decide
      have fx_4 := ex_4.symm
      have cx_4 : x_4 = kf iv.toNatClampNeg := ?o13
      case o13 =>
        rw [ex_4, ← cl_qp_2]
        exact (hx_col_at eo_v1 (by unfold Int32.toNatClampNeg; omega)).symm
      refine hb_icmp_ne (zx := x_2.toInt) (zy := x_4.toInt) (tgt := 28) hx hb rfl rfl dX4_isKinOf_21 ?o14 (fun c_5 => ?_) (fun c_5 => ?_)
      case o14 => decide
      · skip
        refine lv_iconst (v := 0) hx hb dX4_isKinOf_28 ?o15 ?_
        case o15 => decide
        refine hx_retz hx hb hr rfl hlk hW ⟨(Or.inr ⟨?o16, hv_ki_f (fun z => by rcases z with z | ⟨z1, z2⟩; (have h9 : h.2.2 qp iv.toNatClampNeg = some x := by rw [← z]; exact eo_x); (exact absurd (h9.symm.trans eo_v1) c_1); rw [← cx_2, ← cx_4] at z2; omega)⟩), hT, hM⟩ dX4_isKinOf_29
        case o16 => decide
      · skip
        refine lv_iconst (v := 1) hx hb dX4_isKinOf_24 ?o17 ?_
        case o17 => decide
        refine lv_goto (tgt := 29) hx hb dX4_isKinOf_25 ?o18 ?_
        case o18 => decide
        refine hx_retz hx hb hr rfl hlk hW ⟨(Or.inl ⟨?o19, hv_ki_t.mpr (Or.inr ⟨by rw [← cx_2]; omega, by rw [← cx_2, ← cx_4]; omega⟩)⟩), hT, hM⟩ dX4_isKinOf_29
        case o19 => decide


set_option maxHeartbeats 4000000 in
set_option maxRecDepth 100000 in
theorem t_X4_maySit_v (l : Launch) (dC : Nat → ClassId) (dI : Nat → Nat → Nat) (dA : Nat → ClassId) (L : List Nat) (h : hx_h) (sz : Nat) (x : Nat) (v1 : Nat) (hT : hx_T T_tb L h) (gx : hx_g L h x 4) (gv1 : hx_g L h v1 2) (qp : Nat) (gqp : hx_g L h qp 44) (qc : Nat) (gqc : hx_g L h qc 45) (np cn : Int)  (jx : Int32) (eo_x : h.2.2 qp jx.toNatClampNeg = some x) (ob_jx : 0 ≤ jx.toInt ∧ jx.toInt ≤ 39) (ic : Int32) (eo_v1 : h.2.2 qc ic.toNatClampNeg = some v1) (ob_ic : 0 ≤ ic.toInt ∧ ic.toInt ≤ 99)  (df : Nat → Int32) (cl_qp_7 : hx_col 40 h qp 7 = df) (jf : Nat → Int32) (cl_qp_8 : hx_col 40 h qp 8 = jf) (kf : Nat → Int32) (cl_qp_2 : hx_col 40 h qp 2 = kf) (nu_qp : hx_num 40 h qp 0 (np)) (agf byf : Nat → Int32) (hDF : hw_DF h qc qp 2 agf cn) (hDP : hw_DF h qc qp 1 byf cn) (hcn : ic.toInt < cn) : Met l yX4_maySit (Cond.code yX4_maySit cX4_maySit 2 (some .boolean) :: hx_all) ({ frames := 1, cells := 0, slots := 0, locals := 21 }) (va_Pc [.ref x, .ref v1] (hx_B T_tb (P_ty dA) (dC, dI) vwCl L h sz)) (va_Qi (fun (r : Int32) (u : List Nat × hx_h) => ((r.toInt = 1 ∧ hv_ft jf df kf (byf ic.toNatClampNeg).toNatClampNeg (agf ic.toNatClampNeg).toNatClampNeg jx.toNatClampNeg = true) ∨ (r.toInt = 0 ∧ hv_ft jf df kf (byf ic.toNatClampNeg).toNatClampNeg (agf ic.toNatClampNeg).toNatClampNeg jx.toNatClampNeg = false)) ∧ hx_T T_tb u.1 u.2 ∧ hx_S T_tb [] L h u.1 u.2) (hx_E T_tb (P_ty dA) (dC, dI) vwCl (hx_A L sz)) (hx_A L sz)) 0 0 (hx_A L sz) := by
  refine hx_met (lv := [(0, .ref x), (1, .ref v1)]) (by decide +kernel) rfl (Nat.le_of_ble_eq_true rfl) rfl ?_
  intro p e s m below meth c hx hb hml hr hlk hts0 hown hin hsz hW ls hl
  have hts : ∀ w ∈ hx_all, w.before _ s = true := fun w hw => hts0 w (List.mem_cons_of_mem _ hw)
  have hown : s.vm.findClass "SmallCourt$Person" = some m.cls := hown
  have hM : hx_S T_tb [] L h L h := hx_S.rf
  refine lv_aload_n hx hb dX4_maySit_0 rfl (lv_at hl 0 rfl) ?_
  refine hx_geti hx hb hts hC_4 hown hW hT gx tt_4 8 ?o0 rfl kw_624 ⟨rfl, rfl, rfl⟩ dX4_maySit_1 (fun x_1 ex_1 lx_1 ux_1 => ?_)
  case o0 => decide
  have fx_1 := ex_1.symm
  have cx_1 : x_1 = jf jx.toNatClampNeg := ?o1
  case o1 =>
    rw [ex_1, ← cl_qp_8]
    exact (hx_col_at eo_x (by unfold Int32.toNatClampNeg; omega)).symm
  refine hb_if_eq (zx := x_1.toInt) (tgt := 40) hx hb rfl dX4_maySit_4 ?o2 (fun c_2 => ?_) (fun c_2 => ?_)
  case o2 => decide
  · skip
    refine lv_iconst (v := 0) hx hb dX4_maySit_40 ?o3 ?_
    case o3 => decide
    refine hx_retz hx hb hr rfl hlk hW ⟨(Or.inr ⟨?o4, hv_ft_f (fun z => by exact z.1 ((congrArg Int32.toInt cx_1).symm.trans (by omega)))⟩), hT, hM⟩ dX4_maySit_41
    case o4 => decide
  · skip
    refine lv_aload_n hx hb dX4_maySit_7 rfl (lv_at hl 0 rfl) ?_
    refine hx_geti hx hb hts hC_4 hown hW hT gx tt_4 7 ?o5 rfl kw_622 ⟨rfl, rfl, rfl⟩ dX4_maySit_8 (fun x_3 ex_3 lx_3 ux_3 => ?_)
    case o5 => decide
    have fx_3 := ex_3.symm
    have cx_3 : x_3 = df jx.toNatClampNeg := ?o6
    case o6 =>
      rw [ex_3, ← cl_qp_7]
      exact (hx_col_at eo_x (by unfold Int32.toNatClampNeg; omega)).symm
    refine hb_if_ne (zx := x_3.toInt) (tgt := 40) hx hb rfl dX4_maySit_11 ?o7 (fun c_4 => ?_) (fun c_4 => ?_)
    case o7 => decide
    · skip
      refine lv_iconst (v := 0) hx hb dX4_maySit_40 ?o8 ?_
      case o8 => decide
      refine hx_retz hx hb hr rfl hlk hW ⟨(Or.inr ⟨?o9, hv_ft_f (fun z => by have h9 : x_3.toInt = 0 := (congrArg Int32.toInt cx_3).trans z.2.1; omega)⟩), hT, hM⟩ dX4_maySit_41
      case o9 => decide
    · skip
      refine lv_aload_n hx hb dX4_maySit_14 rfl (lv_at hl 0 rfl) ?_
      refine lv_aload_n hx hb dX4_maySit_15 rfl (lv_at hl 1 rfl) ?_
      refine hx_getn hx hb hts hC_2 hown hW hT (gv1.S hM) tt_2 1 ?o10 rfl kw_726 ⟨rfl, rfl, rfl⟩ dX4_maySit_16 (fun q_5 fq_5 gq_5 => ?_)
      case o10 => decide
      obtain ⟨dAq_5, dBq_5, dCq_5⟩ := hDP ic.toNatClampNeg (by unfold Int32.toNatClampNeg; omega) (by unfold Int32.toNatClampNeg; omega) _ _ eo_v1 fq_5
      have dAq_5 : 0 ≤ (byf ic.toNatClampNeg).toInt := dAq_5
      have dBq_5 : (byf ic.toNatClampNeg).toInt < 40 := dBq_5
      have dUq_5 : 0 ≤ (byf ic.toInt.toNat).toInt ∧ (byf ic.toInt.toNat).toInt < 40 := ⟨dAq_5, dBq_5⟩
      have eoq_5 : h.2.2 qp (byf ic.toNatClampNeg).toNatClampNeg = some q_5 := dCq_5
      have hTo := hT
      refine hx_goi (hx_runV (As := [.ref q_5]) (rest := []) ⟨hx, hb, hml, hown, hts⟩ hW gx tt_4 (T := TX4) (N := 10) rfl (t_X4_isKinOf_v l dC dI dA L h s.heap.size x q_5 hT gx gq_5 qp gqp (np) jx eo_x ⟨?o11, ?o12⟩ (byf ic.toNatClampNeg) eoq_5 ⟨?o13, ?o14⟩ kf cl_qp_2 nu_qp) (cwV 1 hts (hx_gV kw_826 kw_823 kw_825 kw_27 kw_108) rfl rfl rfl (by decide +kernel) ⟨Nat.le_of_ble_eq_true rfl, Nat.le_of_ble_eq_true rfl⟩) rfl hl.1 rfl (Nat.le_of_ble_eq_true rfl) dX4_maySit_19 ⟨Nat.le_of_ble_eq_true rfl, Nat.le_of_ble_eq_true rfl⟩) hW (fun r_8 L_6 h_7 H locs p_9 hW => ?_)
      case o11 => omega
      case o12 => omega
      case o13 => omega
      case o14 => omega
      obtain ⟨hr_10, hT, hs⟩ := p_9
      replace hT : hx_T T_tb L_6 h_7 := hT
      replace hs : hx_S T_tb [] L h L_6 h_7 := hs
      replace fx_1 := (hs.o gx trivial rfl).1.trans fx_1
      replace fx_3 := (hs.o gx trivial rfl).1.trans fx_3
      replace fq_5 := (hs.o (gv1.S hM) trivial rfl).2.trans fq_5
      replace cl_qp_7 : hx_col 40 h_7 qp 7 = df := (hx_col_S hs hTo gqp tt_44 tt_4 rfl rfl).trans cl_qp_7
      replace cl_qp_8 : hx_col 40 h_7 qp 8 = jf := (hx_col_S hs hTo gqp tt_44 tt_4 rfl rfl).trans cl_qp_8
      replace cl_qp_2 : hx_col 40 h_7 qp 2 = kf := (hx_col_S hs hTo gqp tt_44 tt_4 rfl rfl).trans cl_qp_2
      replace nu_qp : hx_num 40 h_7 qp 0 (np) := hx_num_S hs hTo gqp tt_44 tt_4 rfl rfl nu_qp
      replace hDF : hw_DF h_7 qc qp 2 agf cn := hw_DF_S hs hTo gqc gqp tt_45 tt_2 rfl rfl rfl hDF
      replace hDP : hw_DF h_7 qc qp 1 byf cn := hw_DF_S hs hTo gqc gqp tt_45 tt_2 rfl rfl rfl hDP
      replace eo_x := (hs.a gqp rfl _).2.trans eo_x
      replace eo_v1 := (hs.a gqc rfl _).2.trans eo_v1
      replace eoq_5 := (hs.a gqp rfl _).2.trans eoq_5
      replace hM := hM.tr (hs.mono ?o15)
      case o15 => decide
      replace gx := gx.S hs
      replace gqp := gqp.S hs
      replace gqc := gqc.S hs
      replace gq_5 := gq_5.S hs
      refine hb_if_ne (zx := r_8.toInt) (tgt := 40) hx hb rfl dX4_maySit_22 ?o16 (fun c_11 => ?_) (fun c_11 => ?_)
      case o16 => decide
      · skip
        refine lv_iconst (v := 0) hx hb dX4_maySit_40 ?o17 ?_
        case o17 => decide
        refine hx_retz hx hb hr rfl hlk hW ⟨(Or.inr ⟨?o18, hv_ft_f (fun z => by exact absurd (z.2.2.1.symm.trans (by rcases hr_10 with z | z; exact z.2; exfalso; omega)) (by decide))⟩), hT, hM⟩ dX4_maySit_41
        case o18 => decide
      · skip
        refine lv_aload_n hx hb dX4_maySit_25 rfl (lv_at hl 0 rfl) ?_
        refine lv_aload_n hx hb dX4_maySit_26 rfl (lv_at hl 1 rfl) ?_
        refine hx_getn hx hb hts hC_2 hown hW hT (gv1.S hM) tt_2 2 ?o19 rfl kw_730 ⟨rfl, rfl, rfl⟩ dX4_maySit_27 (fun q_12 fq_12 gq_12 => ?_)
        case o19 => decide
        obtain ⟨dAq_12, dBq_12, dCq_12⟩ := hDF ic.toNatClampNeg (by unfold Int32.toNatClampNeg; omega) (by unfold Int32.toNatClampNeg; omega) _ _ eo_v1 fq_12
        have dAq_12 : 0 ≤ (agf ic.toNatClampNeg).toInt := dAq_12
        have dBq_12 : (agf ic.toNatClampNeg).toInt < 40 := dBq_12
        have dUq_12 : 0 ≤ (agf ic.toInt.toNat).toInt ∧ (agf ic.toInt.toNat).toInt < 40 := ⟨dAq_12, dBq_12⟩
        have eoq_12 : h_7.2.2 qp (agf ic.toNatClampNeg).toNatClampNeg = some q_12 := dCq_12
        have hTo := hT
        refine hx_goi (hx_runV (As := [.ref q_12]) (rest := []) ⟨hx, hb, hml, hown, hts⟩ hW gx tt_4 (T := TX4) (N := 10) rfl (t_X4_isKinOf_v l dC dI dA L_6 h_7 H.size x q_12 hT gx gq_12 qp gqp (np) jx eo_x ⟨?o20, ?o21⟩ (agf ic.toNatClampNeg) eoq_12 ⟨?o22, ?o23⟩ kf cl_qp_2 nu_qp) (cwV 1 hts (hx_gV kw_826 kw_823 kw_825 kw_27 kw_108) rfl rfl rfl (by decide +kernel) ⟨Nat.le_of_ble_eq_true rfl, Nat.le_of_ble_eq_true rfl⟩) rfl hl.1 rfl (Nat.le_of_ble_eq_true rfl) dX4_maySit_30 ⟨Nat.le_of_ble_eq_true rfl, Nat.le_of_ble_eq_true rfl⟩) hW (fun r_15 L_13 h_14 H locs p_16 hW => ?_)
        case o20 => omega
        case o21 => omega
        case o22 => omega
        case o23 => omega
        obtain ⟨hr_17, hT, hs⟩ := p_16
        replace hT : hx_T T_tb L_13 h_14 := hT
        replace hs : hx_S T_tb [] L_6 h_7 L_13 h_14 := hs
        replace fx_1 := (hs.o gx trivial rfl).1.trans fx_1
        replace fx_3 := (hs.o gx trivial rfl).1.trans fx_3
        replace fq_5 := (hs.o (gv1.S hM) trivial rfl).2.trans fq_5
        replace fq_12 := (hs.o (gv1.S hM) trivial rfl).2.trans fq_12
        replace cl_qp_7 : hx_col 40 h_14 qp 7 = df := (hx_col_S hs hTo gqp tt_44 tt_4 rfl rfl).trans cl_qp_7
        replace cl_qp_8 : hx_col 40 h_14 qp 8 = jf := (hx_col_S hs hTo gqp tt_44 tt_4 rfl rfl).trans cl_qp_8
        replace cl_qp_2 : hx_col 40 h_14 qp 2 = kf := (hx_col_S hs hTo gqp tt_44 tt_4 rfl rfl).trans cl_qp_2
        replace nu_qp : hx_num 40 h_14 qp 0 (np) := hx_num_S hs hTo gqp tt_44 tt_4 rfl rfl nu_qp
        replace hDF : hw_DF h_14 qc qp 2 agf cn := hw_DF_S hs hTo gqc gqp tt_45 tt_2 rfl rfl rfl hDF
        replace hDP : hw_DF h_14 qc qp 1 byf cn := hw_DF_S hs hTo gqc gqp tt_45 tt_2 rfl rfl rfl hDP
        replace eo_x := (hs.a gqp rfl _).2.trans eo_x
        replace eo_v1 := (hs.a gqc rfl _).2.trans eo_v1
        replace eoq_5 := (hs.a gqp rfl _).2.trans eoq_5
        replace eoq_12 := (hs.a gqp rfl _).2.trans eoq_12
        replace hM := hM.tr (hs.mono ?o24)
        case o24 => decide
        replace gx := gx.S hs
        replace gqp := gqp.S hs
        replace gqc := gqc.S hs
        replace gq_5 := gq_5.S hs
        replace gq_12 := gq_12.S hs
        refine hb_if_ne (zx := r_15.toInt) (tgt := 40) hx hb rfl dX4_maySit_33 ?o25 (fun c_18 => ?_) (fun c_18 => ?_)
        case o25 => decide
        · skip
          refine lv_iconst (v := 0) hx hb dX4_maySit_40 ?o26 ?_
          case o26 => decide
          refine hx_retz hx hb hr rfl hlk hW ⟨(Or.inr ⟨?o27, hv_ft_f (fun z => by exact absurd (z.2.2.2.symm.trans (by rcases hr_17 with z | z; exact z.2; exfalso; omega)) (by decide))⟩), hT, hM⟩ dX4_maySit_41
          case o27 => decide
        · skip
          refine lv_iconst (v := 1) hx hb dX4_maySit_36 ?o28 ?_
          case o28 => decide
          refine lv_goto (tgt := 41) hx hb dX4_maySit_37 ?o29 ?_
          case o29 => decide
          refine hx_retz hx hb hr rfl hlk hW ⟨(Or.inl ⟨?o30, hv_ft_t.mpr ⟨(fun z9 => by have h9 : x_1.toInt = 0 := (congrArg Int32.toInt cx_1).trans z9; omega), ((congrArg Int32.toInt cx_3).symm.trans ?o31), (by rcases hr_10 with z | z; (exfalso; omega); exact z.2), (by rcases hr_17 with z | z; (exfalso; omega); exact z.2)⟩⟩), hT, hM⟩ dX4_maySit_41
          case o30 => decide
          case o31 => omega


set_option maxHeartbeats 4000000 in
set_option maxRecDepth 100000 in
theorem t_X10_isKinOf_v (l : Launch) (dC : Nat → ClassId) (dI : Nat → Nat → Nat) (dA : Nat → ClassId) (L : List Nat) (h : hx_h) (sz : Nat) (x : Nat) (i1 : Int32) (i2 : Int32) (hT : hx_T T_tb L h) (gx : hx_g L h x 10) (qk : Nat) (gqk : hx_g L h qk 63) (f_x_26 : h.2.2 x 26 = some qk) (kf : Nat → Int32) (af_qk : h.2.1 qk = kf) (hi1 : 0 ≤ i1.toInt ∧ i1.toInt ≤ 39) (hi2 : 0 ≤ i2.toInt ∧ i2.toInt ≤ 39) : Met l yX10_isKinOf (Cond.code yX10_isKinOf cX10_isKinOf 3 (some .boolean) :: hx_all) ({ frames := 0, cells := 0, slots := 0, locals := 0 }) (va_Pc [.ref x, .int i1, .int i2] (hx_B T_tb (P_ty dA) (dC, dI) vwCl L h sz)) (va_Qi (fun (r : Int32) (u : List Nat × hx_h) => ((r.toInt = 1 ∧ hv_ki kf i1.toNatClampNeg i2.toNatClampNeg = true) ∨ (r.toInt = 0 ∧ hv_ki kf i1.toNatClampNeg i2.toNatClampNeg = false)) ∧ hx_T T_tb u.1 u.2 ∧ hx_S T_tb [] L h u.1 u.2) (hx_E T_tb (P_ty dA) (dC, dI) vwCl (hx_A L sz)) (hx_A L sz)) 0 0 (hx_A L sz) := by
  refine hx_met (lv := [(0, .ref x), (1, .int i1), (2, .int i2)]) (by decide +kernel) rfl (Nat.le_of_ble_eq_true rfl) rfl ?_
  intro p e s m below meth c hx hb hml hr hlk hts0 hown hin hsz hW ls hl
  have hts : ∀ w ∈ hx_all, w.before _ s = true := fun w hw => hts0 w (List.mem_cons_of_mem _ hw)
  have hown : s.vm.findClass "SmallCourtModel" = some m.cls := hown
  have hM : hx_S T_tb [] L h L h := hx_S.rf
  refine lv_iload_n hx hb dX10_isKinOf_0 rfl (lv_at hl 1 rfl) ?_
  refine lv_iload_n hx hb dX10_isKinOf_1 rfl (lv_at hl 2 rfl) ?_
  refine hb_icmp_eq (zx := i1.toInt) (zy := i2.toInt) (tgt := 29) hx hb rfl rfl dX10_isKinOf_2 ?o0 (fun c_1 => ?_) (fun c_1 => ?_)
  case o0 => decide
  · skip
    refine lv_iconst (v := 1) hx hb dX10_isKinOf_29 ?o1 ?_
    case o1 => decide
    refine lv_goto (tgt := 34) hx hb dX10_isKinOf_30 ?o2 ?_
    case o2 => decide
    refine hx_retz hx hb hr rfl hlk hW ⟨(Or.inl ⟨?o3, hv_ki_t.mpr (Or.inl (by unfold Int32.toNatClampNeg; omega))⟩), hT, hM⟩ dX10_isKinOf_34
    case o3 => decide
  · skip
    refine lv_aload_n hx hb dX10_isKinOf_5 rfl (lv_at hl 0 rfl) ?_
    refine hk_getr hx hb hts hC_10 hown hW (gx.S hM) tt_10 26 ?o4 rfl kw_1169 ⟨rfl, rfl, rfl⟩ ((hM.o gx trivial rfl).2.trans f_x_26) dX10_isKinOf_6 ?_
    case o4 => decide
    refine lv_iload_n hx hb dX10_isKinOf_9 rfl (lv_at hl 1 rfl) ?_
    refine hx_iald hx hb hW hT (gqk.S hM) tt_63 rfl ⟨?o5, ?o6⟩ dX10_isKinOf_10 (fun x_2 ex_2 lx_2 ux_2 => ?_)
    case o5 => omega
    case o6 => omega
    have ax_2 : x_2 = kf i1.toNatClampNeg := ex_2.trans (congrFun (hx_afS hM gqk rfl af_qk) _)
    refine hb_if_lt (zx := x_2.toInt) (tgt := 33) hx hb rfl dX10_isKinOf_11 ?o7 (fun c_3 => ?_) (fun c_3 => ?_)
    case o7 => decide
    · skip
      refine lv_iconst (v := 0) hx hb dX10_isKinOf_33 ?o8 ?_
      case o8 => decide
      refine hx_retz hx hb hr rfl hlk hW ⟨(Or.inr ⟨?o9, hv_ki_f (fun z => by rcases z with z | ⟨z1, z2⟩; (unfold Int32.toNatClampNeg at z; omega); rw [← ax_2] at z1; omega)⟩), hT, hM⟩ dX10_isKinOf_34
      case o9 => decide
    · skip
      refine lv_aload_n hx hb dX10_isKinOf_14 rfl (lv_at hl 0 rfl) ?_
      refine hk_getr hx hb hts hC_10 hown hW (gx.S hM) tt_10 26 ?o10 rfl kw_1169 ⟨rfl, rfl, rfl⟩ ((hM.o gx trivial rfl).2.trans f_x_26) dX10_isKinOf_15 ?_
      case o10 => decide
      refine lv_iload_n hx hb dX10_isKinOf_18 rfl (lv_at hl 1 rfl) ?_
      refine hx_iald hx hb hW hT (gqk.S hM) tt_63 rfl ⟨?o11, ?o12⟩ dX10_isKinOf_19 (fun x_4 ex_4 lx_4 ux_4 => ?_)
      case o11 => omega
      case o12 => omega
      have ax_4 : x_4 = kf i1.toNatClampNeg := ex_4.trans (congrFun (hx_afS hM gqk rfl af_qk) _)
      obtain rfl : x_2 = x_4 := ex_2.trans ex_4.symm
      refine lv_aload_n hx hb dX10_isKinOf_20 rfl (lv_at hl 0 rfl) ?_
      refine hk_getr hx hb hts hC_10 hown hW (gx.S hM) tt_10 26 ?o13 rfl kw_1169 ⟨rfl, rfl, rfl⟩ ((hM.o gx trivial rfl).2.trans f_x_26) dX10_isKinOf_21 ?_
      case o13 => decide
      refine lv_iload_n hx hb dX10_isKinOf_24 rfl (lv_at hl 2 rfl) ?_
      refine hx_iald hx hb hW hT (gqk.S hM) tt_63 rfl ⟨?o14, ?o15⟩ dX10_isKinOf_25 (fun x_5 ex_5 lx_5 ux_5 => ?_)
      case o14 => omega
      case o15 => omega
      have ax_5 : x_5 = kf i2.toNatClampNeg := ex_5.trans (congrFun (hx_afS hM gqk rfl af_qk) _)
      refine hb_icmp_ne (zx := x_2.toInt) (zy := x_5.toInt) (tgt := 33) hx hb rfl rfl dX10_isKinOf_26 ?o16 (fun c_6 => ?_) (fun c_6 => ?_)
      case o16 => decide
      · skip
        refine lv_iconst (v := 0) hx hb dX10_isKinOf_33 ?o17 ?_
        case o17 => decide
        refine hx_retz hx hb hr rfl hlk hW ⟨(Or.inr ⟨?o18, hv_ki_f (fun z => by rcases z with z | ⟨z1, z2⟩; (unfold Int32.toNatClampNeg at z; omega); rw [← ax_2, ← ax_5] at z2; omega)⟩), hT, hM⟩ dX10_isKinOf_34
        case o18 => decide
      · skip
        refine lv_iconst (v := 1) hx hb dX10_isKinOf_29 ?o19 ?_
        case o19 => decide
        refine lv_goto (tgt := 34) hx hb dX10_isKinOf_30 ?o20 ?_
        case o20 => decide
        refine hx_retz hx hb hr rfl hlk hW ⟨(Or.inl ⟨?o21, hv_ki_t.mpr (Or.inr ⟨by rw [← ax_2]; omega, by rw [← ax_2, ← ax_5]; omega⟩)⟩), hT, hM⟩ dX10_isKinOf_34
        case o21 => decide


set_option maxHeartbeats 4000000 in
set_option maxRecDepth 100000 in
theorem t_X10_sits_v (l : Launch) (dC : Nat → ClassId) (dI : Nat → Nat → Nat) (dA : Nat → ClassId) (L : List Nat) (h : hx_h) (sz : Nat) (x : Nat) (i1 : Int32) (hT : hx_T T_tb L h) (gx : hx_g L h x 10) (qj : Nat) (gqj : hx_g L h qj 65) (f_x_28 : h.2.2 x 28 = some qj) (qd : Nat) (gqd : hx_g L h qd 64) (f_x_27 : h.2.2 x 27 = some qd) (qk : Nat) (gqk : hx_g L h qk 63) (f_x_26 : h.2.2 x 26 = some qk) (qb : Nat) (gqb : hx_g L h qb 72) (f_x_37 : h.2.2 x 37 = some qb) (qa : Nat) (gqa : hx_g L h qa 73) (f_x_38 : h.2.2 x 38 = some qa) (qs : Nat) (gqs : hx_g L h qs 98) (f_x_65 : h.2.2 x 65 = some qs) (jf : Nat → Int32) (af_qj : h.2.1 qj = jf) (df : Nat → Int32) (af_qd : h.2.1 qd = df) (kf : Nat → Int32) (af_qk : h.2.1 qk = kf) (bf : Nat → Int32) (af_qb : h.2.1 qb = bf) (agf : Nat → Int32) (af_qa : h.2.1 qa = agf) (sf : Nat → Int32) (af_qs : h.2.1 qs = sf) (pn0 : Int32) (f_x_20 : h.2.1 x 20 = pn0) (hi1 : 0 ≤ i1.toInt ∧ i1.toInt ≤ 99) : Met l yX10_sits (Cond.code yX10_sits cX10_sits 4 (some .int) :: hx_all) ({ frames := 1, cells := 0, slots := 0, locals := 22 }) (va_Pc [.ref x, .int i1] (hx_B T_tb (P_ty dA) (dC, dI) vwCl L h sz)) (va_Qi (fun (r : Int32) (u : List Nat × hx_h) => (∃ (sf1 : Nat → Int32), u.2.2.1 qs = sf1 ∧ (r.toInt = ((hv_fs jf df kf (bf i1.toNatClampNeg).toNatClampNeg (agf i1.toNatClampNeg).toNatClampNeg pn0.toInt.toNat).length : Int) ∧ hv_fl sf1 (hv_fs jf df kf (bf i1.toNatClampNeg).toNatClampNeg (agf i1.toNatClampNeg).toNatClampNeg pn0.toInt.toNat))) ∧ hx_T T_tb u.1 u.2 ∧ hx_S T_tb [(98, 0)] L h u.1 u.2) (hx_E T_tb (P_ty dA) (dC, dI) vwCl (hx_A L sz)) (hx_A L sz)) 0 0 (hx_A L sz) := by
  refine hx_met (lv := [(0, .ref x), (1, .int i1)]) (by decide +kernel) rfl (Nat.le_of_ble_eq_true rfl) rfl ?_
  intro p e s m below meth c hx hb hml hr hlk hts0 hown hin hsz hW ls hl
  have hts : ∀ w ∈ hx_all, w.before _ s = true := fun w hw => hts0 w (List.mem_cons_of_mem _ hw)
  have hown : s.vm.findClass "SmallCourtModel" = some m.cls := hown
  have hM : hx_S T_tb [(98, 0)] L h L h := hx_S.rf
  have b_pn0 := hT.gi gx tt_10 (k := 20) rfl
  rw [f_x_20] at b_pn0
  have b_pn0 : 0 ≤ pn0.toInt ∧ pn0.toInt ≤ 40 := b_pn0
  refine lv_iconst (v := 0) hx hb dX10_sits_0 ?o0 ?_
  case o0 => decide
  refine lv_istore_n (lv' := [(2, .int (0 : Int32)), (0, .ref x), (1, .int i1)]) hx hb dX10_sits_1 rfl hl ?o1 rfl (fun ls hl => ?_)
  case o1 => decide
  refine lv_iconst (v := 0) hx hb dX10_sits_2 ?o2 ?_
  case o2 => decide
  refine lv_istore_n (lv' := [(3, .int (0 : Int32)), (2, .int (0 : Int32)), (0, .ref x), (1, .int i1)]) hx hb dX10_sits_3 rfl hl ?o3 rfl (fun ls hl => ?_)
  case o3 => decide
  have loop4 : ∀ (n4 : Nat) (iv4_2 iv4_3 : Int32) (ia4_qs : Nat → Int32) (H : Heap) (locs : List Loc) (hL1 : List Nat) (hl1 : hx_h), 0 ≤ iv4_2.toInt → iv4_2.toInt ≤ 40 → 0 ≤ iv4_3.toInt → iv4_3.toInt ≤ 40 → (hv_fl ia4_qs (hv_fs jf df kf (bf i1.toNatClampNeg).toNatClampNeg (agf i1.toNatClampNeg).toNatClampNeg (iv4_3.toInt).toNat) ∧ iv4_2.toInt = ((hv_fs jf df kf (bf i1.toNatClampNeg).toNatClampNeg (agf i1.toNatClampNeg).toNatClampNeg (iv4_3.toInt).toNat).length : Int)) → (iv4_2.toInt ≤ iv4_3.toInt) → (iv4_3.toInt ≤ pn0.toInt) → ∀ (ls : Array Slot), 40 - iv4_3.toInt < (n4 : Int) → hx_W T_tb (P_ty dA) (dC, dI) vwCl (hx_A L sz) s.heap hL1 hl1 s H locs → hx_T T_tb hL1 hl1 → hx_S T_tb [(98, 0)] L h hL1 hl1 → hl1.2.1 qs = ia4_qs → lv_has ls 4 [(3, .int iv4_3), (2, .int iv4_2), (0, .ref x), (1, .int i1)] → W p l e ({ frames := 1, cells := 0, slots := 0, locals := 22 }) s m ([.ref x, .int i1] : List Value).toArray below meth c H locs 0 0 (MQ below (va_Qi (fun (r : Int32) (u : List Nat × hx_h) => (∃ (sf1 : Nat → Int32), u.2.2.1 qs = sf1 ∧ (r.toInt = ((hv_fs jf df kf (bf i1.toNatClampNeg).toNatClampNeg (agf i1.toNatClampNeg).toNatClampNeg pn0.toInt.toNat).length : Int) ∧ hv_fl sf1 (hv_fs jf df kf (bf i1.toNatClampNeg).toNatClampNeg (agf i1.toNatClampNeg).toNatClampNeg pn0.toInt.toNat))) ∧ hx_T T_tb u.1 u.2 ∧ hx_S T_tb [(98, 0)] L h u.1 u.2) (hx_E T_tb (P_ty dA) (dC, dI) vwCl (hx_A L sz)) (hx_A L sz)) ([.ref x, .int i1] : List Value).toArray s 0 0 (hx_A L sz)) (F0 m 4 ls []) := by
    intro n4
    induction n4 with
    | zero => intro iv4_2 iv4_3 ia4_qs H locs hL1 hl1 bliv4_2 buiv4_2 bliv4_3 buiv4_3 vi4_0 vi4_1 vi4_2 ls hn4; exfalso; omega
    | succ n4 ih4 =>
      intro iv4_2 iv4_3 ia4_qs H locs hL1 hl1 bliv4_2 buiv4_2 bliv4_3 buiv4_3 vi4_0 vi4_1 vi4_2 ls hn4 hW hT hM  nia4_qs hl
      refine lv_iload_n hx hb dX10_sits_4 rfl (lv_at hl 0 rfl) ?_
      refine lv_aload_n hx hb dX10_sits_5 rfl (lv_at hl 2 rfl) ?_
      refine hk_geti hx hb hts hC_10 hown hW (gx.S hM) tt_10 20 ?o4 rfl kw_1163 ⟨rfl, rfl, rfl⟩ ((hM.o gx trivial rfl).1.trans f_x_20) dX10_sits_6 ?_
      case o4 => decide
      refine hb_icmp_ge (zx := iv4_3.toInt) (zy := pn0.toInt) (tgt := 77) hx hb rfl rfl dX10_sits_9 ?o5 (fun c_1 => ?_) (fun c_1 => ?_)
      case o5 => decide
      · skip
        refine lv_iload_n hx hb dX10_sits_77 rfl (lv_at hl 1 rfl) ?_
        exact hx_reti hx hb hr hlk hW ⟨⟨ia4_qs, nia4_qs, (by have h8 := vi4_0; rw [show iv4_3.toInt.toNat = pn0.toInt.toNat by omega] at h8; exact ⟨h8.2, h8.1⟩)⟩, hT, hM⟩ dX10_sits_78
      · skip
        refine lv_aload_n hx hb dX10_sits_12 rfl (lv_at hl 2 rfl) ?_
        refine hk_getr hx hb hts hC_10 hown hW (gx.S hM) tt_10 28 ?o6 rfl kw_1171 ⟨rfl, rfl, rfl⟩ ((hM.o gx trivial rfl).2.trans f_x_28) dX10_sits_13 ?_
        case o6 => decide
        refine lv_iload_n hx hb dX10_sits_16 rfl (lv_at hl 0 rfl) ?_
        refine hx_zald hx hb hW hT (gqj.S hM) tt_65 rfl ⟨?o7, ?o8⟩ dX10_sits_17 (fun x_2 ex_2 lx_2 ux_2 => ?_)
        case o7 => omega
        case o8 => omega
        have ax_2 : x_2 = jf iv4_3.toNatClampNeg := ex_2.trans (congrFun (hx_afS hM gqj rfl af_qj) _)
        refine hb_if_eq (zx := x_2.toInt) (tgt := 71) hx hb rfl dX10_sits_18 ?o9 (fun c_3 => ?_) (fun c_3 => ?_)
        case o9 => decide
        · skip
          obtain ⟨x_4, ex_4⟩ : ∃ y : Int32, y = iv4_3 + Int32.ofInt 1 := ⟨_, rfl⟩
          have rg_5 := i32_r iv4_3
          have zx_4 : x_4.toInt = iv4_3.toInt + (1) := ?o10
          case o10 =>
            rw [ex_4]
            refine i32_add rfl ?o11 ?o12 ?o13
            case o11 => decide
            case o12 => omega
            case o13 => omega
          refine lv_iinc (v := x_4) (lv' := [(3, .int x_4), (2, .int iv4_2), (0, .ref x), (1, .int i1)]) hx hb dX10_sits_71 hl (k := 0) rfl ex_4.symm ?o14 rfl (fun ls hl => ?_)
          case o14 => decide
          refine lv_goto (tgt := 4) hx hb dX10_sits_74 ?o15 ?_
          case o15 => decide
          refine ih4 iv4_2 x_4 ia4_qs _ _ hL1 hl1 ?o16 ?o17 ?o18 ?o19 (hv_fs_n vi4_0 (hv_ft_f (fun z => by exact z.1 ((congrArg Int32.toInt ax_2).symm.trans (by omega)))) ?o20 zx_4) ?o21 ?o22 ls ?o23 hW hT hM  nia4_qs (lv_sub hl [0, 1, 2, 3] rfl)
          case o16 => omega
          case o17 => omega
          case o18 => omega
          case o19 => omega
          case o20 => omega
          case o21 => omega
          case o22 => omega
          case o23 => omega
        · skip
          refine lv_aload_n hx hb dX10_sits_21 rfl (lv_at hl 2 rfl) ?_
          refine hk_getr hx hb hts hC_10 hown hW (gx.S hM) tt_10 27 ?o24 rfl kw_1170 ⟨rfl, rfl, rfl⟩ ((hM.o gx trivial rfl).2.trans f_x_27) dX10_sits_22 ?_
          case o24 => decide
          refine lv_iload_n hx hb dX10_sits_25 rfl (lv_at hl 0 rfl) ?_
          refine hx_zald hx hb hW hT (gqd.S hM) tt_64 rfl ⟨?o25, ?o26⟩ dX10_sits_26 (fun x_6 ex_6 lx_6 ux_6 => ?_)
          case o25 => omega
          case o26 => omega
          have ax_6 : x_6 = df iv4_3.toNatClampNeg := ex_6.trans (congrFun (hx_afS hM gqd rfl af_qd) _)
          refine hb_if_ne (zx := x_6.toInt) (tgt := 71) hx hb rfl dX10_sits_27 ?o27 (fun c_7 => ?_) (fun c_7 => ?_)
          case o27 => decide
          · skip
            obtain ⟨x_8, ex_8⟩ : ∃ y : Int32, y = iv4_3 + Int32.ofInt 1 := ⟨_, rfl⟩
            have rg_9 := i32_r iv4_3
            have zx_8 : x_8.toInt = iv4_3.toInt + (1) := ?o28
            case o28 =>
              rw [ex_8]
              refine i32_add rfl ?o29 ?o30 ?o31
              case o29 => decide
              case o30 => omega
              case o31 => omega
            refine lv_iinc (v := x_8) (lv' := [(3, .int x_8), (2, .int iv4_2), (0, .ref x), (1, .int i1)]) hx hb dX10_sits_71 hl (k := 0) rfl ex_8.symm ?o32 rfl (fun ls hl => ?_)
            case o32 => decide
            refine lv_goto (tgt := 4) hx hb dX10_sits_74 ?o33 ?_
            case o33 => decide
            refine ih4 iv4_2 x_8 ia4_qs _ _ hL1 hl1 ?o34 ?o35 ?o36 ?o37 (hv_fs_n vi4_0 (hv_ft_f (fun z => by have h9 : x_6.toInt = 0 := (congrArg Int32.toInt ax_6).trans z.2.1; omega)) ?o38 zx_8) ?o39 ?o40 ls ?o41 hW hT hM  nia4_qs (lv_sub hl [0, 1, 2, 3] rfl)
            case o34 => omega
            case o35 => omega
            case o36 => omega
            case o37 => omega
            case o38 => omega
            case o39 => omega
            case o40 => omega
            case o41 => omega
          · skip
            refine lv_aload_n hx hb dX10_sits_30 rfl (lv_at hl 2 rfl) ?_
            refine lv_iload_n hx hb dX10_sits_31 rfl (lv_at hl 0 rfl) ?_
            refine lv_aload_n hx hb dX10_sits_32 rfl (lv_at hl 2 rfl) ?_
            refine hk_getr hx hb hts hC_10 hown hW (gx.S hM) tt_10 37 ?o42 rfl kw_1180 ⟨rfl, rfl, rfl⟩ ((hM.o gx trivial rfl).2.trans f_x_37) dX10_sits_33 ?_
            case o42 => decide
            refine lv_iload_n hx hb dX10_sits_36 rfl (lv_at hl 3 rfl) ?_
            refine hx_iald hx hb hW hT (gqb.S hM) tt_72 rfl ⟨?o43, ?o44⟩ dX10_sits_37 (fun x_10 ex_10 lx_10 ux_10 => ?_)
            case o43 => omega
            case o44 => omega
            have ax_10 : x_10 = bf i1.toNatClampNeg := ex_10.trans (congrFun (hx_afS hM gqb rfl af_qb) _)
            refine hx_goi (hx_runV (As := [.int iv4_3, .int x_10]) (rest := []) ⟨hx, hb, hml, hown, hts⟩ hW (gx.S hM) tt_10 (T := TX10) (N := 98) rfl (t_X10_isKinOf_v l dC dI dA hL1 hl1 H.size x iv4_3 x_10 hT (gx.S hM) qk (gqk.S hM) ((hM.o gx trivial rfl).2.trans f_x_26) kf (hx_afS hM gqk rfl af_qk) ⟨?o45, ?o46⟩ ⟨?o47, ?o48⟩) (cwV 2 hts (hx_gV kw_1609 kw_1606 kw_1608 kw_75 kw_103) rfl rfl rfl (by decide +kernel) ⟨Nat.le_of_ble_eq_true rfl, Nat.le_of_ble_eq_true rfl⟩) rfl hl.1 rfl (Nat.le_of_ble_eq_true rfl) dX10_sits_38 ⟨Nat.le_of_ble_eq_true rfl, Nat.le_of_ble_eq_true rfl⟩) hW (fun r_13 L_11 h_12 H locs p_14 hW => ?_)
            case o45 => omega
            case o46 => omega
            case o47 => omega
            case o48 => omega
            obtain ⟨hr_15, hT, hs⟩ := p_14
            replace hT : hx_T T_tb L_11 h_12 := hT
            replace hs : hx_S T_tb [] hL1 hl1 L_11 h_12 := hs
            replace nia4_qs : h_12.2.1 qs = ia4_qs := (funext fun j => (hs.a (gqs.S hM) rfl j).1).trans nia4_qs
            replace ex_2 := ex_2.trans (hs.a (gqj.S hM) rfl _).1.symm
            replace ex_6 := ex_6.trans (hs.a (gqd.S hM) rfl _).1.symm
            replace ex_10 := ex_10.trans (hs.a (gqb.S hM) rfl _).1.symm
            replace hM := hM.tr (hs.mono ?o49)
            case o49 => decide
            have kk_16 := hr_15; rw [ax_10] at kk_16
            refine hb_if_ne (zx := r_13.toInt) (tgt := 71) hx hb rfl dX10_sits_41 ?o50 (fun c_17 => ?_) (fun c_17 => ?_)
            case o50 => decide
            · skip
              obtain ⟨x_18, ex_18⟩ : ∃ y : Int32, y = iv4_3 + Int32.ofInt 1 := ⟨_, rfl⟩
              have rg_19 := i32_r iv4_3
              have zx_18 : x_18.toInt = iv4_3.toInt + (1) := ?o51
              case o51 =>
                rw [ex_18]
                refine i32_add rfl ?o52 ?o53 ?o54
                case o52 => decide
                case o53 => omega
                case o54 => omega
              refine lv_iinc (v := x_18) (lv' := [(3, .int x_18), (2, .int iv4_2), (0, .ref x), (1, .int i1)]) hx hb dX10_sits_71 hl (k := 0) rfl ex_18.symm ?o55 rfl (fun ls hl => ?_)
              case o55 => decide
              refine lv_goto (tgt := 4) hx hb dX10_sits_74 ?o56 ?_
              case o56 => decide
              refine ih4 iv4_2 x_18 ia4_qs _ _ L_11 h_12 ?o57 ?o58 ?o59 ?o60 (hv_fs_n vi4_0 (hv_ft_f (fun z => by exact absurd (z.2.2.1.symm.trans (by rcases kk_16 with z | z; exact z.2; exfalso; omega)) (by decide))) ?o61 zx_18) ?o62 ?o63 ls ?o64 hW hT hM  nia4_qs (lv_sub hl [0, 1, 2, 3] rfl)
              case o57 => omega
              case o58 => omega
              case o59 => omega
              case o60 => omega
              case o61 => omega
              case o62 => omega
              case o63 => omega
              case o64 => omega
            · skip
              refine lv_aload_n hx hb dX10_sits_44 rfl (lv_at hl 2 rfl) ?_
              refine lv_iload_n hx hb dX10_sits_45 rfl (lv_at hl 0 rfl) ?_
              refine lv_aload_n hx hb dX10_sits_46 rfl (lv_at hl 2 rfl) ?_
              refine hk_getr hx hb hts hC_10 hown hW (gx.S hM) tt_10 38 ?o65 rfl kw_1181 ⟨rfl, rfl, rfl⟩ ((hM.o gx trivial rfl).2.trans f_x_38) dX10_sits_47 ?_
              case o65 => decide
              refine lv_iload_n hx hb dX10_sits_50 rfl (lv_at hl 3 rfl) ?_
              refine hx_iald hx hb hW hT (gqa.S hM) tt_73 rfl ⟨?o66, ?o67⟩ dX10_sits_51 (fun x_20 ex_20 lx_20 ux_20 => ?_)
              case o66 => omega
              case o67 => omega
              have ax_20 : x_20 = agf i1.toNatClampNeg := ex_20.trans (congrFun (hx_afS hM gqa rfl af_qa) _)
              refine hx_goi (hx_runV (As := [.int iv4_3, .int x_20]) (rest := []) ⟨hx, hb, hml, hown, hts⟩ hW (gx.S hM) tt_10 (T := TX10) (N := 98) rfl (t_X10_isKinOf_v l dC dI dA L_11 h_12 H.size x iv4_3 x_20 hT (gx.S hM) qk (gqk.S hM) ((hM.o gx trivial rfl).2.trans f_x_26) kf (hx_afS hM gqk rfl af_qk) ⟨?o68, ?o69⟩ ⟨?o70, ?o71⟩) (cwV 2 hts (hx_gV kw_1609 kw_1606 kw_1608 kw_75 kw_103) rfl rfl rfl (by decide +kernel) ⟨Nat.le_of_ble_eq_true rfl, Nat.le_of_ble_eq_true rfl⟩) rfl hl.1 rfl (Nat.le_of_ble_eq_true rfl) dX10_sits_52 ⟨Nat.le_of_ble_eq_true rfl, Nat.le_of_ble_eq_true rfl⟩) hW (fun r_23 L_21 h_22 H locs p_24 hW => ?_)
              case o68 => omega
              case o69 => omega
              case o70 => omega
              case o71 => omega
              obtain ⟨hr_25, hT, hs⟩ := p_24
              replace hT : hx_T T_tb L_21 h_22 := hT
              replace hs : hx_S T_tb [] L_11 h_12 L_21 h_22 := hs
              replace nia4_qs : h_22.2.1 qs = ia4_qs := (funext fun j => (hs.a (gqs.S hM) rfl j).1).trans nia4_qs
              replace ex_2 := ex_2.trans (hs.a (gqj.S hM) rfl _).1.symm
              replace ex_6 := ex_6.trans (hs.a (gqd.S hM) rfl _).1.symm
              replace ex_10 := ex_10.trans (hs.a (gqb.S hM) rfl _).1.symm
              replace ex_20 := ex_20.trans (hs.a (gqa.S hM) rfl _).1.symm
              replace hM := hM.tr (hs.mono ?o72)
              case o72 => decide
              have kk_26 := hr_25; rw [ax_20] at kk_26
              refine hb_if_eq (zx := r_23.toInt) (tgt := 61) hx hb rfl dX10_sits_55 ?o73 (fun c_27 => ?_) (fun c_27 => ?_)
              case o73 => decide
              · skip
                refine lv_aload_n hx hb dX10_sits_61 rfl (lv_at hl 2 rfl) ?_
                refine hk_getr hx hb hts hC_10 hown hW (gx.S hM) tt_10 65 ?o74 rfl kw_1208 ⟨rfl, rfl, rfl⟩ ((hM.o gx trivial rfl).2.trans f_x_65) dX10_sits_62 ?_
                case o74 => decide
                refine lv_iload_n hx hb dX10_sits_65 rfl (lv_at hl 1 rfl) ?_
                refine lv_iload_n hx hb dX10_sits_66 rfl (lv_at hl 0 rfl) ?_
                have nia4_qsO := nia4_qs
                refine hx_iast hx hb hW hT (hx_S.rf (M := [(98, 0)])) (gqs.S hM) tt_98 rfl ⟨?o75, ?o76⟩ rfl ⟨?o77, ?o78⟩ (List.mem_singleton.mpr rfl) dX10_sits_67 (fun H locs h_28 eh_28 hW hT hs => ?_)
                case o75 => omega
                case o76 => omega
                case o77 => omega
                case o78 => omega
                replace ex_2 := ex_2.trans (hs.a (gqj.S hM) rfl _).1.symm
                replace ex_6 := ex_6.trans (hs.a (gqd.S hM) rfl _).1.symm
                replace ex_10 := ex_10.trans (hs.a (gqb.S hM) rfl _).1.symm
                replace ex_20 := ex_20.trans (hs.a (gqa.S hM) rfl _).1.symm
                replace hM := hM.tr (hs.mono ?o79)
                case o79 => decide
                obtain ⟨fa_29, dfa_29⟩ : ∃ g : Nat → Int32, g = hx_up ia4_qs iv4_2.toNatClampNeg iv4_3 := ⟨_, rfl⟩
                have nfa_29 : h_28.2.1 qs = fa_29 := ?o80
                case o80 =>
                  rw [eh_28, dfa_29, ← nia4_qsO]
                  exact hx_pi_fun _ _ _ _
                obtain ⟨x_30, ex_30⟩ : ∃ y : Int32, y = iv4_2 + Int32.ofInt 1 := ⟨_, rfl⟩
                have rg_31 := i32_r iv4_2
                have zx_30 : x_30.toInt = iv4_2.toInt + (1) := ?o81
                case o81 =>
                  rw [ex_30]
                  refine i32_add rfl ?o82 ?o83 ?o84
                  case o82 => decide
                  case o83 => omega
                  case o84 => omega
                refine lv_iinc (v := x_30) (lv' := [(2, .int x_30), (3, .int iv4_3), (0, .ref x), (1, .int i1)]) hx hb dX10_sits_68 hl (k := 1) rfl ex_30.symm ?o85 rfl (fun ls hl => ?_)
                case o85 => decide
                obtain ⟨x_32, ex_32⟩ : ∃ y : Int32, y = iv4_3 + Int32.ofInt 1 := ⟨_, rfl⟩
                have rg_33 := i32_r iv4_3
                have zx_32 : x_32.toInt = iv4_3.toInt + (1) := ?o86
                case o86 =>
                  rw [ex_32]
                  refine i32_add rfl ?o87 ?o88 ?o89
                  case o87 => decide
                  case o88 => omega
                  case o89 => omega
                refine lv_iinc (v := x_32) (lv' := [(3, .int x_32), (2, .int x_30), (0, .ref x), (1, .int i1)]) hx hb dX10_sits_71 hl (k := 1) rfl ex_32.symm ?o90 rfl (fun ls hl => ?_)
                case o90 => decide
                refine lv_goto (tgt := 4) hx hb dX10_sits_74 ?o91 ?_
                case o91 => decide
                refine ih4 x_30 x_32 fa_29 _ _ L_21 h_28 ?o92 ?o93 ?o94 ?o95 (hv_fs_y vi4_0 (hv_ft_t.mpr ⟨(fun z9 => by have h9 : x_2.toInt = 0 := (congrArg Int32.toInt ax_2).trans z9; omega), ((congrArg Int32.toInt ax_6).symm.trans ?o96), (by rcases kk_16 with z | z; (exfalso; omega); exact z.2), (by rcases kk_26 with z | z; (exfalso; omega); exact z.2)⟩) ?o97 (by unfold Int32.toNatClampNeg; omega) ?o98 dfa_29 zx_32 ?o99) ?o100 ?o101 ls ?o102 hW hT hM  nfa_29 (lv_sub hl [0, 1, 2, 3] rfl)
                case o92 => omega
                case o93 => omega
                case o94 => omega
                case o95 => omega
                case o96 => omega
                case o97 => omega
                case o98 => omega
                case o99 => omega
                case o100 => omega
                case o101 => omega
                case o102 => omega
              · skip
                refine lv_goto (tgt := 71) hx hb dX10_sits_58 ?o103 ?_
                case o103 => decide
                obtain ⟨x_34, ex_34⟩ : ∃ y : Int32, y = iv4_3 + Int32.ofInt 1 := ⟨_, rfl⟩
                have rg_35 := i32_r iv4_3
                have zx_34 : x_34.toInt = iv4_3.toInt + (1) := ?o104
                case o104 =>
                  rw [ex_34]
                  refine i32_add rfl ?o105 ?o106 ?o107
                  case o105 => decide
                  case o106 => omega
                  case o107 => omega
                refine lv_iinc (v := x_34) (lv' := [(3, .int x_34), (2, .int iv4_2), (0, .ref x), (1, .int i1)]) hx hb dX10_sits_71 hl (k := 0) rfl ex_34.symm ?o108 rfl (fun ls hl => ?_)
                case o108 => decide
                refine lv_goto (tgt := 4) hx hb dX10_sits_74 ?o109 ?_
                case o109 => decide
                refine ih4 iv4_2 x_34 ia4_qs _ _ L_21 h_22 ?o110 ?o111 ?o112 ?o113 (hv_fs_n vi4_0 (hv_ft_f (fun z => by exact absurd (z.2.2.2.symm.trans (by rcases kk_26 with z | z; exact z.2; exfalso; omega)) (by decide))) ?o114 zx_34) ?o115 ?o116 ls ?o117 hW hT hM  nia4_qs (lv_sub hl [0, 1, 2, 3] rfl)
                case o110 => omega
                case o111 => omega
                case o112 => omega
                case o113 => omega
                case o114 => omega
                case o115 => omega
                case o116 => omega
                case o117 => omega
  have zk_0 : (0 : Int32).toInt = 0 := ?o118
  case o118 => decide
  have zk_0 : (0 : Int32).toInt = 0 := ?o119
  case o119 => decide
  refine loop4 41 (0 : Int32) (0 : Int32) sf _ _ L h ?o120 ?o121 ?o122 ?o123 (by rw [zk_0]; exact ⟨hv_fl_0, rfl⟩) ?o124 ?o125 ls ?o126 hW hT hM  af_qs hl
  case o120 => decide
  case o121 => decide
  case o122 => decide
  case o123 => decide
  case o124 => omega
  case o125 => omega
  case o126 => omega
end
