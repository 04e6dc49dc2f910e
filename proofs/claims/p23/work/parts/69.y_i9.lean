
set_option maxHeartbeats 4000000 in
set_option maxRecDepth 100000 in
theorem t_X0_init_w (l : Launch) (dC : Nat → ClassId) (dI : Nat → Nat → Nat) (dA : Nat → ClassId) (L : List Nat) (h : hx_h) (sz : Nat) (b0 : hx_z) (x : Nat) (i1 : Int32) (i2 : Int32) (hT : hx_T T_tb L h) (gx : hx_g L h x 116) (hz : ∀ j, h.2.1 x j = 0 ∧ h.2.2 x j = none) (hi1 : -1 ≤ i1.toInt ∧ i1.toInt ≤ 7) (hi2 : -1 ≤ i2.toInt ∧ i2.toInt ≤ 7999) : Met l yX0_init (Cond.code yX0_init cX0_init 3 none :: hx_all) ({ frames := 1, cells := 2, slots := 174, locals := 40 }) (va_Pc [.ref x, .int i1, .int i2] (hx_BX T_tb (P_ty dA) (dC, dI) vwCl L h sz b0)) (va_Qv (fun (u : List Nat × hx_h) => hx_T T_tb u.1 u.2 ∧ hx_S T_tb [(11, 0), (12, 0), (116, 0), (116, 1), (116, 2), (116, 3), (116, 4)] (hx_X L x) h u.1 u.2 ∧ hx_g u.1 u.2 x 0 ∧ u.2.2.1 x 0 = i1 ∧ u.2.2.1 x 1 = i2 ∧ u.2.2.1 x 4 = 3 ∧ (∃ q, u.2.2.2 x 2 = some q ∧ hx_g u.1 u.2 q 11 ∧ (∀ j, j < 14 → u.2.2.1 q j = P_wo j) ∧ ∀ a ∈ hx_X L x, a ≠ q) ∧ (∃ q, u.2.2.2 x 3 = some q ∧ hx_g u.1 u.2 q 12 ∧ ((u.2.2.1 q 0).toInt = 144 ∧ (u.2.2.1 q 1).toInt = 17 ∧ (u.2.2.1 q 2).toInt = -1) ∧ ∀ a ∈ hx_X L x, a ≠ q)) (hx_E T_tb (P_ty dA) (dC, dI) vwCl (hx_A L sz)) (hx_A L sz)) 2 174 (hx_A L sz) := by
  refine hx_metX (lv := [(0, .ref x), (1, .int i1), (2, .int i2)]) (by decide +kernel) rfl (Nat.le_of_ble_eq_true rfl) rfl ?_
  intro p e s m below meth c hx hb hml hr hlk hts0 hown hin hsz hW hZ ls hl
  have hts : ∀ w ∈ hx_all, w.before _ s = true := fun w hw => hts0 w (List.mem_cons_of_mem _ hw)
  have hown : s.vm.findClass "SmallCourt$Act" = some m.cls := hown
  have hin : meth.name = "<init>" := hin
  have hM : hx_S T_tb [(11, 0), (12, 0), (116, 0), (116, 1), (116, 2), (116, 3), (116, 4)] (hx_X L x) h L h := hx_SX_rf
  have hz : ∀ j, ([] : List Nat).contains j = false → h.2.1 x j = 0 ∧ h.2.2 x j = none := fun j _ => hz j
  refine lv_aload_n hx hb dX0_init_0 rfl (lv_at hl 0 rfl) ?_
  refine W.objInit hx hb hown (hts _ kw_153) (hts _ kw_117) (hts _ kw_118) rfl (by rw [hml]; exact hl.1) rfl dX0_init_1 (Nat.le_of_ble_eq_true rfl) (Nat.le_of_ble_eq_true rfl) ?_
  refine W.eq (g2 := F0 m 4 ls []) rfl ?_
  refine lv_aload_n hx hb dX0_init_4 rfl (lv_at hl 0 rfl) ?_
  refine lv_bipush (v := 14) hx hb dX0_init_5 (by decide) ?_
  refine hk_newa hx hb hts hW 11 tt_11 (atype := .int) rfl kw_186 (tys := P_ty dA) (t0 := 0) rfl (fun _ => Iff.rfl) rfl (i := (14 : Int32)) (by decide) (Nat.le_of_ble_eq_true rfl) (Nat.le_of_ble_eq_true rfl) (Nat.le_of_ble_eq_true rfl) dX0_init_7 (fun q_2 H h_1 eh_1 hqq_2 hW hs gq_2 => ?_)
  have nq_q_2 : ∀ a ∈ (hx_X L x), a ≠ q_2 := fun a ha z => hqq_2 (z ▸ (hM.1 a ha).1)
  have hT : hx_T T_tb (L ++ [q_2]) h_1 := by rw [eh_1]; exact hx_T_nw hT hqq_2 tt_11 rfl
  replace hz := hx_zr [] hz hs gx trivial rfl
  replace hM := hM.tr (hs.mono (by decide))
  replace gx := gx.S hs
  refine hx_putrF hx hb hts hC_0 hown hW hT (hx_S.rf (M := [(116, 2)])) gx tt_116 2 (by decide) rfl kw_166 ⟨rfl, rfl, rfl⟩ rfl hin rfl (x := (some q_2)) ⟨fun _ z => (by cases z), fun q hq => (by cases hq; exact ⟨gq_2.1, by rw [gq_2.2]; decide⟩)⟩ rfl rfl rfl (List.mem_singleton.mpr rfl) dX0_init_9 (fun H locs h_3 eh_3 hW hT hs => ?_)
  replace hz := hx_zr [2] hz hs gx trivial rfl
  replace hM := hM.tr (hs.mono (by decide))
  replace gx := gx.S hs
  replace gq_2 := gq_2.S hs
  have f_4 : h_3.2.2 x 2 = (some q_2) := by rw [eh_3]; exact hx_pr_at _ _ _ _
  refine lv_aload_n hx hb dX0_init_12 rfl (lv_at hl 0 rfl) ?_
  refine lv_sipush (v := 160) hx hb dX0_init_13 (by decide) ?_
  refine hk_newa hx hb hts hW 12 tt_12 (atype := .int) rfl kw_186 (tys := P_ty dA) (t0 := 0) rfl (fun _ => Iff.rfl) rfl (i := (160 : Int32)) (by decide) (Nat.le_of_ble_eq_true rfl) (Nat.le_of_ble_eq_true rfl) (Nat.le_of_ble_eq_true rfl) dX0_init_16 (fun q_6 H h_5 eh_5 hqq_6 hW hs gq_6 => ?_)
  have nq_q_6 : ∀ a ∈ (hx_X L x), a ≠ q_6 := fun a ha z => hqq_6 (z ▸ (hM.1 a ha).1)
  have hT : hx_T T_tb ((L ++ [q_2]) ++ [q_6]) h_5 := by rw [eh_5]; exact hx_T_nw hT hqq_6 tt_12 rfl
  replace f_4 := (hs.o gx trivial rfl).2.trans f_4
  replace hz := hx_zr [2] hz hs gx trivial rfl
  replace hM := hM.tr (hs.mono (by decide))
  replace gx := gx.S hs
  replace gq_2 := gq_2.S hs
  refine hx_putrF hx hb hts hC_0 hown hW hT (hx_S.rf (M := [(116, 3)])) gx tt_116 3 (by decide) rfl kw_172 ⟨rfl, rfl, rfl⟩ rfl hin rfl (x := (some q_6)) ⟨fun _ z => (by cases z), fun q hq => (by cases hq; exact ⟨gq_6.1, by rw [gq_6.2]; decide⟩)⟩ rfl rfl rfl (List.mem_singleton.mpr rfl) dX0_init_18 (fun H locs h_7 eh_7 hW hT hs => ?_)
  replace f_4 := (hs.o gx trivial rfl).2.trans f_4
  replace hz := hx_zr [2, 3] hz hs gx trivial rfl
  replace hM := hM.tr (hs.mono (by decide))
  replace gx := gx.S hs
  replace gq_2 := gq_2.S hs
  replace gq_6 := gq_6.S hs
  have f_8 : h_7.2.2 x 3 = (some q_6) := by rw [eh_7]; exact hx_pr_at _ _ _ _
  refine lv_aload_n hx hb dX0_init_21 rfl (lv_at hl 0 rfl) ?_
  refine lv_iload_n hx hb dX0_init_22 rfl (lv_at hl 1 rfl) ?_
  refine hx_putiF hx hb hts hC_0 hown hW hT (hx_S.rf (M := [(116, 0)])) gx tt_116 0 (by decide) rfl kw_162 ⟨rfl, rfl, rfl⟩ rfl hin rfl (x := i1) ⟨by omega, by omega⟩ rfl rfl rfl (List.mem_singleton.mpr rfl) dX0_init_23 (fun H locs h_9 eh_9 hW hT hs => ?_)
  replace f_4 := (hs.o gx trivial rfl).2.trans f_4
  replace f_8 := (hs.o gx trivial rfl).2.trans f_8
  replace hz := hx_zr [0, 2, 3] hz hs gx trivial rfl
  replace hM := hM.tr (hs.mono (by decide))
  replace gx := gx.S hs
  replace gq_2 := gq_2.S hs
  replace gq_6 := gq_6.S hs
  have f_10 : h_9.2.1 x 0 = i1 := by rw [eh_9]; exact hx_pi_at _ _ _ _
  refine lv_aload_n hx hb dX0_init_26 rfl (lv_at hl 0 rfl) ?_
  refine lv_iload_n hx hb dX0_init_27 rfl (lv_at hl 2 rfl) ?_
  refine hx_putiF hx hb hts hC_0 hown hW hT (hx_S.rf (M := [(116, 1)])) gx tt_116 1 (by decide) rfl kw_164 ⟨rfl, rfl, rfl⟩ rfl hin rfl (x := i2) ⟨by omega, by omega⟩ rfl rfl rfl (List.mem_singleton.mpr rfl) dX0_init_28 (fun H locs h_11 eh_11 hW hT hs => ?_)
  replace f_4 := (hs.o gx trivial rfl).2.trans f_4
  replace f_8 := (hs.o gx trivial rfl).2.trans f_8
  replace f_10 := (hs.o gx trivial rfl).1.trans f_10
  replace hz := hx_zr [0, 1, 2, 3] hz hs gx trivial rfl
  replace hM := hM.tr (hs.mono (by decide))
  replace gx := gx.S hs
  replace gq_2 := gq_2.S hs
  replace gq_6 := gq_6.S hs
  have f_12 : h_11.2.1 x 1 = i2 := by rw [eh_11]; exact hx_pi_at _ _ _ _
  obtain ⟨pF0, npF0⟩ : ∃ g : Nat → Int32, h_11.2.1 q_6 = g := ⟨_, rfl⟩
  refine va_getsN hx hb hZ.2.2.1 hW.2.2.2.1 hown (va_Nw.use rfl (hZ.1 _ (List.mem_of_getElem? (i := 1) rfl))) (fun _ h9 => h9) dX0_init_31 ?_
  refine lv_iconst (v := 0) hx hb dX0_init_34 (by decide) ?_
  refine lv_aload_n hx hb dX0_init_35 rfl (lv_at hl 0 rfl) ?_
  refine hk_getr hx hb hts hC_0 hown hW gx tt_116 2 (by decide) rfl kw_166 ⟨rfl, rfl, rfl⟩ f_4 dX0_init_36 ?_
  refine lv_iconst (v := 0) hx hb dX0_init_39 (by decide) ?_
  refine lv_bipush (v := 14) hx hb dX0_init_40 (by decide) ?_
  refine hk_copyx hx hb (hml.trans hl.1.symm) hown (hts _ kw_156) (hts _ kw_158) (hts _ kw_157) (hts _ kw_97) hW hZ.2.2.2.1 hZ.2.2.2.2.1 hZ.2.2.2.2.2.1 gq_2 tt_11 rfl (by decide) rfl rfl (by decide) (Nat.le_of_ble_eq_true rfl) (Nat.le_of_ble_eq_true rfl) dX0_init_42 (fun H locs h_13 fa_14 hW hs => ?_)
  have hT := hx_T_full hT hs tt_11
  replace f_4 := (hs.o gx trivial rfl).2.trans f_4
  replace f_8 := (hs.o gx trivial rfl).2.trans f_8
  replace f_10 := (hs.o gx trivial rfl).1.trans f_10
  replace f_12 := (hs.o gx trivial rfl).1.trans f_12
  replace hz := hx_zr [0, 1, 2, 3] hz hs gx trivial rfl
  replace npF0 : h_13.2.1 q_6 = pF0 := (funext fun j => (hs.a gq_6 rfl j).1).trans npF0
  replace hM := hM.tr (hs.mono (by decide))
  replace gx := gx.S hs
  replace gq_2 := gq_2.S hs
  replace gq_6 := gq_6.S hs
  obtain ⟨fw_15, nfw_15⟩ : ∃ g : Nat → Int32, h_13.2.1 q_2 = g := ⟨_, rfl⟩
  have wfw_15 : ∀ j, j < 14 → fw_15 j = P_wo j := fun j hj => by rw [← nfw_15]; exact fa_14 j hj
  refine lv_aload_n hx hb dX0_init_45 rfl (lv_at hl 0 rfl) ?_
  refine hk_getr hx hb hts hC_0 hown hW gx tt_116 3 (by decide) rfl kw_172 ⟨rfl, rfl, rfl⟩ f_8 dX0_init_46 ?_
  refine lv_iconst (v := 0) hx hb dX0_init_49 (by decide) ?_
  refine lv_iconst (v := 0) hx hb dX0_init_50 (by decide) ?_
  refine lv_iconst (v := 2) hx hb dX0_init_51 (by decide) ?_
  refine lv_iconst (v := 0) hx hb dX0_init_52 (by decide) ?_
  refine lv_iconst (v := 1) hx hb dX0_init_53 (by decide) ?_
  have zc_1 : (1 : Int32).toInt = 1 := by decide
  have zc_0 : (0 : Int32).toInt = 0 := by decide
  have zc_2 : (2 : Int32).toInt = 2 := by decide
  refine hx_goi (hx_runS (As := [.int (0 : Int32), .int (2 : Int32), .int (0 : Int32), .int (1 : Int32)]) (rest := [.int (0 : Int32), .ref q_6]) ⟨hx, hb, hml, hown, hts⟩ hW (t_X0_term_v l dC dI dA ((L ++ [q_2]) ++ [q_6]) h_13 H.size (0 : Int32) (2 : Int32) (0 : Int32) (1 : Int32) hT ⟨by omega, by omega⟩ ⟨by omega, by omega⟩ ⟨by omega, by omega⟩ ⟨by omega, by omega⟩) (va_cwS 4 hts (hx_gS kw_161 kw_159 kw_160 kw_96) rfl rfl rfl (by decide +kernel) ⟨Nat.le_of_ble_eq_true rfl, Nat.le_of_ble_eq_true rfl⟩) rfl hl.1 rfl (Nat.le_of_ble_eq_true rfl) dX0_init_54 ⟨Nat.le_of_ble_eq_true rfl, Nat.le_of_ble_eq_true rfl⟩) hW (fun r_18 L_16 h_17 H locs p_19 hW => ?_)
  obtain ⟨hr_20, hT, hs⟩ := p_19
  replace hT : hx_T T_tb L_16 h_17 := hT
  replace hs : hx_S T_tb [] ((L ++ [q_2]) ++ [q_6]) h_13 L_16 h_17 := hs
  replace f_4 := (hs.o gx trivial rfl).2.trans f_4
  replace f_8 := (hs.o gx trivial rfl).2.trans f_8
  replace f_10 := (hs.o gx trivial rfl).1.trans f_10
  replace f_12 := (hs.o gx trivial rfl).1.trans f_12
  replace hz := hx_zr [0, 1, 2, 3] hz hs gx trivial rfl
  replace npF0 : h_17.2.1 q_6 = pF0 := (funext fun j => (hs.a gq_6 rfl j).1).trans npF0
  replace nfw_15 : h_17.2.1 q_2 = fw_15 := (funext fun j => (hs.a gq_2 rfl j).1).trans nfw_15
  replace hM := hM.tr (hs.mono (by decide))
  replace gx := gx.S hs
  replace gq_2 := gq_2.S hs
  replace gq_6 := gq_6.S hs
  have npF0O := npF0
  refine hx_iast hx hb hW hT (hx_S.rf (M := [(12, 0)])) gq_6 tt_12 rfl (by decide) rfl (i32_r _) (List.mem_singleton.mpr rfl) dX0_init_57 (fun H locs h_21 eh_21 hW hT hs => ?_)
  replace f_4 := (hs.o gx trivial rfl).2.trans f_4
  replace f_8 := (hs.o gx trivial rfl).2.trans f_8
  replace f_10 := (hs.o gx trivial rfl).1.trans f_10
  replace f_12 := (hs.o gx trivial rfl).1.trans f_12
  replace hz := hx_zr [0, 1, 2, 3] hz hs gx trivial rfl
  replace nfw_15 : h_21.2.1 q_2 = fw_15 := (funext fun j => (hs.a gq_2 rfl j).1).trans nfw_15
  replace hM := hM.tr (hs.mono (by decide))
  replace gx := gx.S hs
  replace gq_2 := gq_2.S hs
  replace gq_6 := gq_6.S hs
  obtain ⟨fa_22, dfa_22⟩ : ∃ g : Nat → Int32, g = hx_up pF0 (0 : Int32).toNatClampNeg r_18 := ⟨_, rfl⟩
  have nfa_22 : h_21.2.1 q_6 = fa_22 := by rw [eh_21, dfa_22, ← npF0O]; exact hx_pi_fun _ _ _ _
  refine lv_aload_n hx hb dX0_init_58 rfl (lv_at hl 0 rfl) ?_
  refine hk_getr hx hb hts hC_0 hown hW gx tt_116 3 (by decide) rfl kw_172 ⟨rfl, rfl, rfl⟩ f_8 dX0_init_59 ?_
  refine lv_iconst (v := 1) hx hb dX0_init_62 (by decide) ?_
  refine lv_iconst (v := 1) hx hb dX0_init_63 (by decide) ?_
  refine lv_iconst (v := 2) hx hb dX0_init_64 (by decide) ?_
  refine lv_iconst (v := 0) hx hb dX0_init_65 (by decide) ?_
  refine lv_iconst (v := 0) hx hb dX0_init_66 (by decide) ?_
  refine hx_goi (hx_runS (As := [.int (1 : Int32), .int (2 : Int32), .int (0 : Int32), .int (0 : Int32)]) (rest := [.int (1 : Int32), .ref q_6]) ⟨hx, hb, hml, hown, hts⟩ hW (t_X0_term_v l dC dI dA L_16 h_21 H.size (1 : Int32) (2 : Int32) (0 : Int32) (0 : Int32) hT ⟨by omega, by omega⟩ ⟨by omega, by omega⟩ ⟨by omega, by omega⟩ ⟨by omega, by omega⟩) (va_cwS 4 hts (hx_gS kw_161 kw_159 kw_160 kw_96) rfl rfl rfl (by decide +kernel) ⟨Nat.le_of_ble_eq_true rfl, Nat.le_of_ble_eq_true rfl⟩) rfl hl.1 rfl (Nat.le_of_ble_eq_true rfl) dX0_init_67 ⟨Nat.le_of_ble_eq_true rfl, Nat.le_of_ble_eq_true rfl⟩) hW (fun r_25 L_23 h_24 H locs p_26 hW => ?_)
  obtain ⟨hr_27, hT, hs⟩ := p_26
  replace hT : hx_T T_tb L_23 h_24 := hT
  replace hs : hx_S T_tb [] L_16 h_21 L_23 h_24 := hs
  replace f_4 := (hs.o gx trivial rfl).2.trans f_4
  replace f_8 := (hs.o gx trivial rfl).2.trans f_8
  replace f_10 := (hs.o gx trivial rfl).1.trans f_10
  replace f_12 := (hs.o gx trivial rfl).1.trans f_12
  replace hz := hx_zr [0, 1, 2, 3] hz hs gx trivial rfl
  replace nfw_15 : h_24.2.1 q_2 = fw_15 := (funext fun j => (hs.a gq_2 rfl j).1).trans nfw_15
  replace nfa_22 : h_24.2.1 q_6 = fa_22 := (funext fun j => (hs.a gq_6 rfl j).1).trans nfa_22
  replace hM := hM.tr (hs.mono (by decide))
  replace gx := gx.S hs
  replace gq_2 := gq_2.S hs
  replace gq_6 := gq_6.S hs
  have nfa_22O := nfa_22
  refine hx_iast hx hb hW hT (hx_S.rf (M := [(12, 0)])) gq_6 tt_12 rfl (by decide) rfl (i32_r _) (List.mem_singleton.mpr rfl) dX0_init_70 (fun H locs h_28 eh_28 hW hT hs => ?_)
  replace f_4 := (hs.o gx trivial rfl).2.trans f_4
  replace f_8 := (hs.o gx trivial rfl).2.trans f_8
  replace f_10 := (hs.o gx trivial rfl).1.trans f_10
  replace f_12 := (hs.o gx trivial rfl).1.trans f_12
  replace hz := hx_zr [0, 1, 2, 3] hz hs gx trivial rfl
  replace nfw_15 : h_28.2.1 q_2 = fw_15 := (funext fun j => (hs.a gq_2 rfl j).1).trans nfw_15
  replace hM := hM.tr (hs.mono (by decide))
  replace gx := gx.S hs
  replace gq_2 := gq_2.S hs
  replace gq_6 := gq_6.S hs
  obtain ⟨fa_29, dfa_29⟩ : ∃ g : Nat → Int32, g = hx_up fa_22 (1 : Int32).toNatClampNeg r_25 := ⟨_, rfl⟩
  have nfa_29 : h_28.2.1 q_6 = fa_29 := by rw [eh_28, dfa_29, ← nfa_22O]; exact hx_pi_fun _ _ _ _
  refine lv_aload_n hx hb dX0_init_71 rfl (lv_at hl 0 rfl) ?_
  refine hk_getr hx hb hts hC_0 hown hW gx tt_116 3 (by decide) rfl kw_172 ⟨rfl, rfl, rfl⟩ f_8 dX0_init_72 ?_
  refine lv_iconst (v := 2) hx hb dX0_init_75 (by decide) ?_
  refine lv_iconst (v := -1) hx hb dX0_init_76 (by decide) ?_
  have nfa_29O := nfa_29
  refine hx_iast hx hb hW hT (hx_S.rf (M := [(12, 0)])) gq_6 tt_12 rfl (by decide) rfl (by decide) (List.mem_singleton.mpr rfl) dX0_init_77 (fun H locs h_30 eh_30 hW hT hs => ?_)
  replace f_4 := (hs.o gx trivial rfl).2.trans f_4
  replace f_8 := (hs.o gx trivial rfl).2.trans f_8
  replace f_10 := (hs.o gx trivial rfl).1.trans f_10
  replace f_12 := (hs.o gx trivial rfl).1.trans f_12
  replace hz := hx_zr [0, 1, 2, 3] hz hs gx trivial rfl
  replace nfw_15 : h_30.2.1 q_2 = fw_15 := (funext fun j => (hs.a gq_2 rfl j).1).trans nfw_15
  replace hM := hM.tr (hs.mono (by decide))
  replace gx := gx.S hs
  replace gq_2 := gq_2.S hs
  replace gq_6 := gq_6.S hs
  obtain ⟨fa_31, dfa_31⟩ : ∃ g : Nat → Int32, g = hx_up fa_29 (2 : Int32).toNatClampNeg (-1 : Int32) := ⟨_, rfl⟩
  have nfa_31 : h_30.2.1 q_6 = fa_31 := by rw [eh_30, dfa_31, ← nfa_29O]; exact hx_pi_fun _ _ _ _
  refine lv_aload_n hx hb dX0_init_78 rfl (lv_at hl 0 rfl) ?_
  refine lv_iconst (v := 3) hx hb dX0_init_79 (by decide) ?_
  refine hx_puti hx hb hts hC_0 hown hW hT (hx_S.rf (M := [(116, 4)])) gx tt_116 4 (by decide) rfl kw_173 ⟨rfl, rfl, rfl⟩ rfl (x := (3 : Int32)) (by decide) rfl rfl rfl (List.mem_singleton.mpr rfl) dX0_init_80 (fun H locs h_32 eh_32 hW hT hs => ?_)
  replace f_4 := (hs.o gx trivial rfl).2.trans f_4
  replace f_8 := (hs.o gx trivial rfl).2.trans f_8
  replace f_10 := (hs.o gx trivial rfl).1.trans f_10
  replace f_12 := (hs.o gx trivial rfl).1.trans f_12
  replace hz := hx_zr [0, 1, 2, 3, 4] hz hs gx trivial rfl
  replace nfw_15 : h_32.2.1 q_2 = fw_15 := (funext fun j => (hs.a gq_2 rfl j).1).trans nfw_15
  replace nfa_31 : h_32.2.1 q_6 = fa_31 := (funext fun j => (hs.a gq_6 rfl j).1).trans nfa_31
  replace hM := hM.tr (hs.mono (by decide))
  replace gx := gx.S hs
  replace gq_2 := gq_2.S hs
  replace gq_6 := gq_6.S hs
  have f_33 : h_32.2.1 x 4 = (3 : Int32) := by rw [eh_32]; exact hx_pi_at _ _ _ _
  have hF : hx_F (fun k f => hx_o L_23 h_32 f (h_32.2.1 x k) (h_32.2.2 x k)) T_f0 0 := ⟨hx_oi f_10 ⟨by omega, by omega⟩, hx_oi f_12 ⟨by omega, by omega⟩, hx_or f_4 gq_2 (by decide), hx_or f_8 gq_6 (by decide), hx_oi f_33 (by decide), trivial⟩
  have hT := hx_T_rt hT gx tt_0 rfl (hx_F_all hF)
  have hW := hx_W_rt hW gx tt_116 tt_0 (fun _ _ => rfl)
  have hM := hx_SX_rt (x := x) (t := 0) hM
  have gq_2 := hx_rt_o (t := 0) gq_2 (gq_2.ne gx (by decide))
  have gq_6 := hx_rt_o (t := 0) gq_6 (gq_6.ne gx (by decide))
  have gx := hx_rt_g (t := 0) gx
  have f_4 : (hx_rt h_32 x 0).2.2 x 2 = some q_2 := f_4
  have f_8 : (hx_rt h_32 x 0).2.2 x 3 = some q_6 := f_8
  have f_10 : (hx_rt h_32 x 0).2.1 x 0 = i1 := f_10
  have f_12 : (hx_rt h_32 x 0).2.1 x 1 = i2 := f_12
  have f_33 : (hx_rt h_32 x 0).2.1 x 4 = (3 : Int32) := f_33
  have nfw_15 : (hx_rt h_32 x 0).2.1 q_2 = fw_15 := nfw_15
  have nfa_31 : (hx_rt h_32 x 0).2.1 q_6 = fa_31 := nfa_31
  generalize eh : hx_rt h_32 x 0 = h_34 at hT hW hM gx gq_2 gq_6 f_4 f_8 f_10 f_12 f_33 nfw_15 nfa_31
  refine W.widen (k := 2) (n := 174) (Nat.le_of_ble_eq_true rfl) (Nat.le_of_ble_eq_true rfl) ?_
  exact hx_retv hx hb hr hlk hW ⟨hT, hM, gx, f_10, f_12, f_33, ⟨q_2, f_4, gq_2, ⟨(fun j hj => by rw [nfw_15]; exact wfw_15 j hj), nq_q_2⟩⟩, ⟨q_6, f_8, gq_6, ⟨(by rw [nfa_31, dfa_31, dfa_29, dfa_22]; exact hv_pr0 (by omega) (by omega) (by decide)), nq_q_6⟩⟩⟩ dX0_init_83

