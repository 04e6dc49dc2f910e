section
set_option maxHeartbeats 4000000 in
set_option maxRecDepth 100000 in
theorem t_X0_init_w (l : Launch) (dC : Nat → ClassId) (dI : Nat → Nat → Nat) (dA : Nat → ClassId) (L : List Nat) (h : hx_h) (sz : Nat) (b0 : hx_z) (x : Nat) (i1 : Int32) (i2 : Int32) (hT : hx_T T_tb L h) (gx : hx_g L h x 116) (hz : ∀ j, h.2.1 x j = 0 ∧ h.2.2 x j = none) (hi1 : -1 ≤ i1.toInt ∧ i1.toInt ≤ 7) (hi2 : -1 ≤ i2.toInt ∧ i2.toInt ≤ 7999) : Met l yX0_init (Cond.code yX0_init cX0_init 3 none :: hx_all) ({ frames := 1, cells := 2, slots := 174, locals := 40 }) (va_Pc [.ref x, .int i1, .int i2] (hx_BX T_tb (P_ty dA) (dC, dI) vwCl L h sz b0)) (va_Qv (fun (u : List Nat × hx_h) => hx_T T_tb u.1 u.2 ∧ hx_S T_tb [(11, 0), (12, 0), (116, 0), (116, 1), (116, 2), (116, 3), (116, 4)] (hx_X L x) h u.1 u.2 ∧ hx_g u.1 u.2 x 0 ∧ u.2.2.1 x 0 = i1 ∧ u.2.2.1 x 1 = i2 ∧ u.2.2.1 x 4 = 3 ∧ (∃ q, u.2.2.2 x 2 = some q ∧ hx_g u.1 u.2 q 11 ∧ (∀ j, j < 14 → u.2.2.1 q j = P_wo j) ∧ ∀ a ∈ hx_X L x, a ≠ q) ∧ (∃ q, u.2.2.2 x 3 = some q ∧ hx_g u.1 u.2 q 12 ∧ ((u.2.2.1 q 0).toInt = 144 ∧ (u.2.2.1 q 1).toInt = 17 ∧ (u.2.2.1 q 2).toInt = -1) ∧ ∀ a ∈ hx_X L x, a ≠ q)) (hx_E T_tb (P_ty dA) (dC, dI) vwCl (hx_A L sz)) (hx_A L sz)) 2 174 (hx_A L sz) := by
  refine hx_metX (lv := [(0, .ref x), (1, .int i1), (2, .int i2)]) (by decide +kernel) rfl (Nat.le_of_ble_eq_true rfl) rfl ?_
  intro p e s m below meth c hx hb hml hr hlk hts0 hown hin hsz hW hZ ls hl
  have hts : ∀ w ∈ hx_all, w.before _ s = true := fun w hw => hts0 w (List.mem_cons_of_mem _ hw)
  have hown : s.vm.findClass "SmallCourt$Act" = some m.cls := hown
  have hin : meth.name = "<init>" := hin
  have hM : hx_S T_tb [(11, 0), (12, 0), (116, 0), (116, 1), (116, 2), (116, 3), (116, 4)] (hx_X L x) h L h := hx_SX_rf
  have hz : ∀ j, ([] : List Nat).contains j = false → h.2.1 x j = 0 ∧ h.2.2 x j = none := fun j _ => hz j
  refine lv_aload_n hx hb dX0_init_0 rfl (lv_at hl 0 rfl) ?_
  refine W.objInit hx hb hown (hts _ kw_153) (hts _ kw_117) (hts _ kw_118) rfl (by rw [hml]; exact hl.1) rfl dX0_init_1 (Nat.le_of_ble_eq_true rfl) (Nat.le_of_ble_eq_true rfl) ?_
  refine W.eq (g2 := F0 m 4 ls []) rfl ?_
  refine lv_aload_n hx hb dX0_init_4 rfl (lv_at hl 0 rfl) ?_
  refine lv_bipush (v := 14) hx hb dX0_init_5 (by decide) ?_
  refine hk_newa hx hb hts hW 11 tt_11 (atype := .int) rfl kw_186 (tys := P_ty dA) (t0 := 0) rfl (fun _ => Iff.rfl) rfl (i := (14 : Int32)) (by decide) (Nat.le_of_ble_eq_true rfl) (Nat.le_of_ble_eq_true rfl) (Nat.le_of_ble_eq_true rfl) dX0_init_7 (fun q_2 H h_1 eh_1 hqq_2 hW hs gq_2 => ?_)
  have nq_q_2 : ∀ a ∈ (hx_X L x), a ≠ q_2 := fun a ha z => hqq_2 (z ▸ (hM.1 a ha).1)
  have hT : hx_T T_tb (L ++ [q_2]) h_1 := by rw [eh_1]; exact hx_T_nw hT hqq_2 tt_11 rfl
  replace hz := hx_zr [] hz hs gx trivial rfl
  replace hM := hM.tr (hs.mono (by decide))
  replace gx := gx.S hs
  refine hx_putrF hx hb hts hC_0 hown hW hT (hx_S.rf (M := [(116, 2)])) gx tt_116 2 (by decide) rfl kw_166 ⟨rfl, rfl, rfl⟩ rfl hin rfl (x := (some q_2)) ⟨fun _ z => (by cases z), fun q hq => (by cases hq; exact ⟨gq_2.1, by rw [gq_2.2]; decide⟩)⟩ rfl rfl rfl (List.mem_singleton.mpr rfl) dX0_init_9 (fun H locs h_3 eh_3 hW hT hs => ?_)
  replace hz := hx_zr [2] hz hs gx trivial rfl
  replace hM := hM.tr (hs.mono (by decide))
  replace gx := gx.S hs
  replace gq_2 := gq_2.S hs
  have f_4 : h_3.2.2 x 2 = (some q_2) := by rw [eh_3]; exact hx_pr_at _ _ _ _
  refine lv_aload_n hx hb dX0_init_12 rfl (lv_at hl 0 rfl) ?_
  refine lv_sipush (v := 160) hx hb dX0_init_13 (by decide) ?_
  refine hk_newa hx hb hts hW 12 tt_12 (atype := .int) rfl kw_186 (tys := P_ty dA) (t0 := 0) rfl (fun _ => Iff.rfl) rfl (i := (160 : Int32)) (by decide) (Nat.le_of_ble_eq_true rfl) (Nat.le_of_ble_eq_true rfl) (Nat.le_of_ble_eq_true rfl) dX0_init_16 (fun q_6 H h_5 eh_5 hqq_6 hW hs gq_6 => ?_)
  have nq_q_6 : ∀ a ∈ (hx_X L x), a ≠ q_6 := fun a ha z => hqq_6 (z ▸ (hM.1 a ha).1)
  have hT : hx_T T_tb ((L ++ [q_2]) ++ [q_6]) h_5 := by rw [eh_5]; exact hx_T_nw hT hqq_6 tt_12 rfl
  replace f_4 := (hs.o gx trivial rfl).2.trans f_4
  replace hz := hx_zr [2] hz hs gx trivial rfl
  replace hM := hM.tr (hs.mono (by decide))
  replace gx := gx.S hs
  replace gq_2 := gq_2.S hs
  refine hx_putrF hx hb hts hC_0 hown hW hT (hx_S.rf (M := [(116, 3)])) gx tt_116 3 (by decide) rfl kw_172 ⟨rfl, rfl, rfl⟩ rfl hin rfl (x := (some q_6)) ⟨fun _ z => (by cases z), fun q hq => (by cases hq; exact ⟨gq_6.1, by rw [gq_6.2]; decide⟩)⟩ rfl rfl rfl (List.mem_singleton.mpr rfl) dX0_init_18 (fun H locs h_7 eh_7 hW hT hs => ?_)
  replace f_4 := (hs.o gx trivial rfl).2.trans f_4
  replace hz := hx_zr [2, 3] hz hs gx trivial rfl
  replace hM := hM.tr (hs.mono (by decide))
  replace gx := gx.S hs
  replace gq_2 := gq_2.S hs
  replace gq_6 := gq_6.S hs
  have f_8 : h_7.2.2 x 3 = (some q_6) := by rw [eh_7]; exact hx_pr_at _ _ _ _
  refine lv_aload_n hx hb dX0_init_21 rfl (lv_at hl 0 rfl) ?_
  refine lv_iload_n hx hb dX0_init_22 rfl (lv_at hl 1 rfl) ?_
  refine hx_putiF hx hb hts hC_0 hown hW hT (hx_S.rf (M := [(116, 0)])) gx tt_116 0 (by decide) rfl kw_162 ⟨rfl, rfl, rfl⟩ rfl hin rfl (x := i1) ⟨by omega, by omega⟩ rfl rfl rfl (List.mem_singleton.mpr rfl) dX0_init_23 (fun H locs h_9 eh_9 hW hT hs => ?_)
  replace f_4 := (hs.o gx trivial rfl).2.trans f_4
  replace f_8 := (hs.o gx trivial rfl).2.trans f_8
  replace hz := hx_zr [0, 2, 3] hz hs gx trivial rfl
  replace hM := hM.tr (hs.mono (by decide))
  replace gx := gx.S hs
  replace gq_2 := gq_2.S hs
  replace gq_6 := gq_6.S hs
  have f_10 : h_9.2.1 x 0 = i1 := by rw [eh_9]; exact hx_pi_at _ _ _ _
  refine lv_aload_n hx hb dX0_init_26 rfl (lv_at hl 0 rfl) ?_
  refine lv_iload_n hx hb dX0_init_27 rfl (lv_at hl 2 rfl) ?_
  refine hx_putiF hx hb hts hC_0 hown hW hT (hx_S.rf (M := [(116, 1)])) gx tt_116 1 (by decide) rfl kw_164 ⟨rfl, rfl, rfl⟩ rfl hin rfl (x := i2) ⟨by omega, by omega⟩ rfl rfl rfl (List.mem_singleton.mpr rfl) dX0_init_28 (fun H locs h_11 eh_11 hW hT hs => ?_)
  replace f_4 := (hs.o gx trivial rfl).2.trans f_4
  replace f_8 := (hs.o gx trivial rfl).2.trans f_8
  replace f_10 := (hs.o gx trivial rfl).1.trans f_10
  replace hz := hx_zr [0, 1, 2, 3] hz hs gx trivial rfl
  replace hM := hM.tr (hs.mono (by decide))
  replace gx := gx.S hs
  replace gq_2 := gq_2.S hs
  replace gq_6 := gq_6.S hs
  have f_12 : h_11.2.1 x 1 = i2 := by rw [eh_11]; exact hx_pi_at _ _ _ _
  obtain ⟨pF0, npF0⟩ : ∃ g : Nat → Int32, h_11.2.1 q_6 = g := ⟨_, rfl⟩
  refine va_getsN hx hb hZ.2.2.1 hW.2.2.2.1 hown (va_Nw.use rfl (hZ.1 _ (List.mem_of_getElem? (i := 1) rfl))) (fun _ h9 => h9) dX0_init_31 ?_
  refine lv_iconst (v := 0) hx hb dX0_init_34 (by decide) ?_
  refine lv_aload_n hx hb dX0_init_35 rfl (lv_at hl 0 rfl) ?_
  refine hk_getr hx hb hts hC_0 hown hW gx tt_116 2 (by decide) rfl kw_166 ⟨rfl, rfl, rfl⟩ f_4 dX0_init_36 ?_
  refine lv_iconst (v := 0) hx hb dX0_init_39 (by decide) ?_
  refine lv_bipush (v := 14) hx hb dX0_init_40 (by decide) ?_
  refine hk_copyx hx hb (hml.trans hl.1.symm) hown (hts _ kw_156) (hts _ kw_158) (hts _ kw_157) (hts _ kw_97) hW hZ.2.2.2.1 hZ.2.2.2.2.1 hZ.2.2.2.2.2.1 gq_2 tt_11 rfl (by decide) rfl rfl (by decide) (Nat.le_of_ble_eq_true rfl) (Nat.le_of_ble_eq_true rfl) dX0_init_42 (fun H locs h_13 fa_14 hW hs => ?_)
  have hT := hx_T_full hT hs tt_11
  replace f_4 := (hs.o gx trivial rfl).2.trans f_4
  replace f_8 := (hs.o gx trivial rfl).2.trans f_8
  replace f_10 := (hs.o gx trivial rfl).1.trans f_10
  replace f_12 := (hs.o gx trivial rfl).1.trans f_12
  replace hz := hx_zr [0, 1, 2, 3] hz hs gx trivial rfl
  replace npF0 : h_13.2.1 q_6 = pF0 := (funext fun j => (hs.a gq_6 rfl j).1).trans npF0
  replace hM := hM.tr (hs.mono (by decide))
  replace gx := gx.S hs
  replace gq_2 := gq_2.S hs
  replace gq_6 := gq_6.S hs
  obtain ⟨fw_15, nfw_15⟩ : ∃ g : Nat → Int32, h_13.2.1 q_2 = g := ⟨_, rfl⟩
  have wfw_15 : ∀ j, j < 14 → fw_15 j = P_wo j := fun j hj => by rw [← nfw_15]; exact fa_14 j hj
  refine lv_aload_n hx hb dX0_init_45 rfl (lv_at hl 0 rfl) ?_
  refine hk_getr hx hb hts hC_0 hown hW gx tt_116 3 (by decide) rfl kw_172 ⟨rfl, rfl, rfl⟩ f_8 dX0_init_46 ?_
  refine lv_iconst (v := 0) hx hb dX0_init_49 (by decide) ?_
  refine lv_iconst (v := 0) hx hb dX0_init_50 (by decide) ?_
  refine lv_iconst (v := 2) hx hb dX0_init_51 (by decide) ?_
  refine lv_iconst (v := 0) hx hb dX0_init_52 (by decide) ?_
  refine lv_iconst (v := 1) hx hb dX0_init_53 (by decide) ?_
  have zc_1 : (1 : Int32).toInt = 1 := by decide
  have zc_0 : (0 : Int32).toInt = 0 := by decide
  have zc_2 : (2 : Int32).toInt = 2 := by decide
  refine hx_goi (hx_runS (As := [.int (0 : Int32), .int (2 : Int32), .int (0 : Int32), .int (1 : Int32)]) (rest := [.int (0 : Int32), .ref q_6]) ⟨hx, hb, hml, hown, hts⟩ hW (t_X0_term_v l dC dI dA ((L ++ [q_2]) ++ [q_6]) h_13 H.size (0 : Int32) (2 : Int32) (0 : Int32) (1 : Int32) hT ⟨by omega, by omega⟩ ⟨by omega, by omega⟩ ⟨by omega, by omega⟩ ⟨by omega, by omega⟩) (va_cwS 4 hts (hx_gS kw_161 kw_159 kw_160 kw_96) rfl rfl rfl (by decide +kernel) ⟨Nat.le_of_ble_eq_true rfl, Nat.le_of_ble_eq_true rfl⟩) rfl hl.1 rfl (Nat.le_of_ble_eq_true rfl) dX0_init_54 ⟨Nat.le_of_ble_eq_true rfl, Nat.le_of_ble_eq_true rfl⟩) hW (fun r_18 L_16 h_17 H locs p_19 hW => ?_)
  obtain ⟨hr_20, hT, hs⟩ := p_19
  replace hT : hx_T T_tb L_16 h_17 := hT
  replace hs : hx_S T_tb [] ((L ++ [q_2]) ++ [q_6]) h_13 L_16 h_17 := hs
  replace f_4 := (hs.o gx trivial rfl).2.trans f_4
  replace f_8 := (hs.o gx trivial rfl).2.trans f_8
  replace f_10 := (hs.o gx trivial rfl).1.trans f_10
  replace f_12 := (hs.o gx trivial rfl).1.trans f_12
  replace hz := hx_zr [0, 1, 2, 3] hz hs gx trivial rfl
  replace npF0 : h_17.2.1 q_6 = pF0 := (funext fun j => (hs.a gq_6 rfl j).1).trans npF0
  replace nfw_15 : h_17.2.1 q_2 = fw_15 := (funext fun j => (hs.a gq_2 rfl j).1).trans nfw_15
  replace hM := hM.tr (hs.mono (by decide))
  replace gx := gx.S hs
  replace gq_2 := gq_2.S hs
  replace gq_6 := gq_6.S hs
  have npF0O := npF0
  refine hx_iast hx hb hW hT (hx_S.rf (M := [(12, 0)])) gq_6 tt_12 rfl (by decide) rfl (i32_r _) (List.mem_singleton.mpr rfl) dX0_init_57 (fun H locs h_21 eh_21 hW hT hs => ?_)
  replace f_4 := (hs.o gx trivial rfl).2.trans f_4
  replace f_8 := (hs.o gx trivial rfl).2.trans f_8
  replace f_10 := (hs.o gx trivial rfl).1.trans f_10
  replace f_12 := (hs.o gx trivial rfl).1.trans f_12
  replace hz := hx_zr [0, 1, 2, 3] hz hs gx trivial rfl
  replace nfw_15 : h_21.2.1 q_2 = fw_15 := (funext fun j => (hs.a gq_2 rfl j).1).trans nfw_15
  replace hM := hM.tr (hs.mono (by decide))
  replace gx := gx.S hs
  replace gq_2 := gq_2.S hs
  replace gq_6 := gq_6.S hs
  obtain ⟨fa_22, dfa_22⟩ : ∃ g : Nat → Int32, g = hx_up pF0 (0 : Int32).toNatClampNeg r_18 := ⟨_, rfl⟩
  have nfa_22 : h_21.2.1 q_6 = fa_22 := by rw [eh_21, dfa_22, ← npF0O]; exact hx_pi_fun _ _ _ _
  refine lv_aload_n hx hb dX0_init_58 rfl (lv_at hl 0 rfl) ?_
  refine hk_getr hx hb hts hC_0 hown hW gx tt_116 3 (by decide) rfl kw_172 ⟨rfl, rfl, rfl⟩ f_8 dX0_init_59 ?_
  refine lv_iconst (v := 1) hx hb dX0_init_62 (by decide) ?_
  refine lv_iconst (v := 1) hx hb dX0_init_63 (by decide) ?_
  refine lv_iconst (v := 2) hx hb dX0_init_64 (by decide) ?_
  refine lv_iconst (v := 0) hx hb dX0_init_65 (by decide) ?_
  refine lv_iconst (v := 0) hx hb dX0_init_66 (by decide) ?_
  refine hx_goi (hx_runS (As := [.int (1 : Int32), .int (2 : Int32), .int (0 : Int32), .int (0 : Int32)]) (rest := [.int (1 : Int32), .ref q_6]) ⟨hx, hb, hml, hown, hts⟩ hW (t_X0_term_v l dC dI dA L_16 h_21 H.size (1 : Int32) (2 : Int32) (0 : Int32) (0 : Int32) hT ⟨by omega, by omega⟩ ⟨by omega, by omega⟩ ⟨by omega, by omega⟩ ⟨by omega, by omega⟩) (va_cwS 4 hts (hx_gS kw_161 kw_159 kw_160 kw_96) rfl rfl rfl (by decide +kernel) ⟨Nat.le_of_ble_eq_true rfl, Nat.le_of_ble_eq_true rfl⟩) rfl hl.1 rfl (Nat.le_of_ble_eq_true rfl) dX0_init_67 ⟨Nat.le_of_ble_eq_true rfl, Nat.le_of_ble_eq_true rfl⟩) hW (fun r_25 L_23 h_24 H locs p_26 hW => ?_)
  obtain ⟨hr_27, hT, hs⟩ := p_26
  replace hT : hx_T T_tb L_23 h_24 := hT
  replace hs : hx_S T_tb [] L_16 h_21 L_23 h_24 := hs
  replace f_4 := (hs.o gx trivial rfl).2.trans f_4
  replace f_8 := (hs.o gx trivial rfl).2.trans f_8
  replace f_10 := (hs.o gx trivial rfl).1.trans f_10
  replace f_12 := (hs.o gx trivial rfl).1.trans f_12
  replace hz := hx_zr [0, 1, 2, 3] hz hs gx trivial rfl
  replace nfw_15 : h_24.2.1 q_2 = fw_15 := (funext fun j => (hs.a gq_2 rfl j).1).trans nfw_15
  replace nfa_22 : h_24.2.1 q_6 = fa_22 := (funext fun j => (hs.a gq_6 rfl j).1).trans nfa_22
  replace hM := hM.tr (hs.mono (by decide))
  replace gx := gx.S hs
  replace gq_2 := gq_2.S hs
  replace gq_6 := gq_6.S hs
  have nfa_22O := nfa_22
  refine hx_iast hx hb hW hT (hx_S.rf (M := [(12, 0)])) gq_6 tt_12 rfl (by decide) rfl (i32_r _) (List.mem_singleton.mpr rfl) dX0_init_70 (fun H locs h_28 eh_28 hW hT hs => ?_)
  replace f_4 := (hs.o gx trivial rfl).2.trans f_4
  replace f_8 := (hs.o gx trivial rfl).2.trans f_8
  replace f_10 := (hs.o gx trivial rfl).1.trans f_10
  replace f_12 := (hs.o gx trivial rfl).1.trans f_12
  replace hz := hx_zr [0, 1, 2, 3] hz hs gx trivial rfl
  replace nfw_15 : h_28.2.1 q_2 = fw_15 := (funext fun j => (hs.a gq_2 rfl j).1).trans nfw_15
  replace hM := hM.tr (hs.mono (by decide))
  replace gx := gx.S hs
  replace gq_2 := gq_2.S hs
  replace gq_6 := gq_6.S hs
  obtain ⟨fa_29, dfa_29⟩ : ∃ g : Nat → Int32, g = hx_up fa_22 (1 : Int32).toNatClampNeg r_25 := ⟨_, rfl⟩
  have nfa_29 : h_28.2.1 q_6 = fa_29 := by rw [eh_28, dfa_29, ← nfa_22O]; exact hx_pi_fun _ _ _ _
  refine lv_aload_n hx hb dX0_init_71 rfl (lv_at hl 0 rfl) ?_
  refine hk_getr hx hb hts hC_0 hown hW gx tt_116 3 (by decide) rfl kw_172 ⟨rfl, rfl, rfl⟩ f_8 dX0_init_72 ?_
  refine lv_iconst (v := 2) hx hb dX0_init_75 (by decide) ?_
  refine lv_iconst (v := -1) hx hb dX0_init_76 (by decide) ?_
  have nfa_29O := nfa_29
  refine hx_iast hx hb hW hT (hx_S.rf (M := [(12, 0)])) gq_6 tt_12 rfl (by decide) rfl (by decide) (List.mem_singleton.mpr rfl) dX0_init_77 (fun H locs h_30 eh_30 hW hT hs => ?_)
  replace f_4 := (hs.o gx trivial rfl).2.trans f_4
  replace f_8 := (hs.o gx trivial rfl).2.trans f_8
  replace f_10 := (hs.o gx trivial rfl).1.trans f_10
  replace f_12 := (hs.o gx trivial rfl).1.trans f_12
  replace hz := hx_zr [0, 1, 2, 3] hz hs gx trivial rfl
  replace nfw_15 : h_30.2.1 q_2 = fw_15 := (funext fun j => (hs.a gq_2 rfl j).1).trans nfw_15
  replace hM := hM.tr (hs.mono (by decide))
  replace gx := gx.S hs
  replace gq_2 := gq_2.S hs
  replace gq_6 := gq_6.S hs
  obtain ⟨fa_31, dfa_31⟩ : ∃ g : Nat → Int32, g = hx_up fa_29 (2 : Int32).toNatClampNeg (-1 : Int32) := ⟨_, rfl⟩
  have nfa_31 : h_30.2.1 q_6 = fa_31 := by rw [eh_30, dfa_31, ← nfa_29O]; exact hx_pi_fun _ _ _ _
  refine lv_aload_n hx hb dX0_init_78 rfl (lv_at hl 0 rfl) ?_
  refine lv_iconst (v := 3) hx hb dX0_init_79 (by decide) ?_
  refine hx_puti hx hb hts hC_0 hown hW hT (hx_S.rf (M := [(116, 4)])) gx tt_116 4 (by decide) rfl kw_173 ⟨rfl, rfl, rfl⟩ rfl (x := (3 : Int32)) (by decide) rfl rfl rfl (List.mem_singleton.mpr rfl) dX0_init_80 (fun H locs h_32 eh_32 hW hT hs => ?_)
  replace f_4 := (hs.o gx trivial rfl).2.trans f_4
  replace f_8 := (hs.o gx trivial rfl).2.trans f_8
  replace f_10 := (hs.o gx trivial rfl).1.trans f_10
  replace f_12 := (hs.o gx trivial rfl).1.trans f_12
  replace hz := hx_zr [0, 1, 2, 3, 4] hz hs gx trivial rfl
  replace nfw_15 : h_32.2.1 q_2 = fw_15 := (funext fun j => (hs.a gq_2 rfl j).1).trans nfw_15
  replace nfa_31 : h_32.2.1 q_6 = fa_31 := (funext fun j => (hs.a gq_6 rfl j).1).trans nfa_31
  replace hM := hM.tr (hs.mono (by decide))
  replace gx := gx.S hs
  replace gq_2 := gq_2.S hs
  replace gq_6 := gq_6.S hs
  have f_33 : h_32.2.1 x 4 = (3 : Int32) := by rw [eh_32]; exact hx_pi_at _ _ _ _
  have hF : hx_F (fun k f => hx_o L_23 h_32 f (h_32.2.1 x k) (h_32.2.2 x k)) T_f0 0 := ⟨hx_oi f_10 ⟨by omega, by omega⟩, hx_oi f_12 ⟨by omega, by omega⟩, hx_or f_4 gq_2 (by decide), hx_or f_8 gq_6 (by decide), hx_oi f_33 (by decide), trivial⟩
  have hT := hx_T_rt hT gx tt_0 rfl (hx_F_all hF)
  have hW := hx_W_rt hW gx tt_116 tt_0 (fun _ _ => rfl)
  have hM := hx_SX_rt (x := x) (t := 0) hM
  have gq_2 := hx_rt_o (t := 0) gq_2 (gq_2.ne gx (by decide))
  have gq_6 := hx_rt_o (t := 0) gq_6 (gq_6.ne gx (by decide))
  have gx := hx_rt_g (t := 0) gx
  have f_4 : (hx_rt h_32 x 0).2.2 x 2 = some q_2 := f_4
  have f_8 : (hx_rt h_32 x 0).2.2 x 3 = some q_6 := f_8
  have f_10 : (hx_rt h_32 x 0).2.1 x 0 = i1 := f_10
  have f_12 : (hx_rt h_32 x 0).2.1 x 1 = i2 := f_12
  have f_33 : (hx_rt h_32 x 0).2.1 x 4 = (3 : Int32) := f_33
  have nfw_15 : (hx_rt h_32 x 0).2.1 q_2 = fw_15 := nfw_15
  have nfa_31 : (hx_rt h_32 x 0).2.1 q_6 = fa_31 := nfa_31
  generalize eh : hx_rt h_32 x 0 = h_34 at hT hW hM gx gq_2 gq_6 f_4 f_8 f_10 f_12 f_33 nfw_15 nfa_31
  refine W.widen (k := 2) (n := 174) (Nat.le_of_ble_eq_true rfl) (Nat.le_of_ble_eq_true rfl) ?_
  exact hx_retv hx hb hr hlk hW ⟨hT, hM, gx, f_10, f_12, f_33, ⟨q_2, f_4, gq_2, ⟨(fun j hj => by rw [nfw_15]; exact wfw_15 j hj), nq_q_2⟩⟩, ⟨q_6, f_8, gq_6, ⟨(by rw [nfa_31, dfa_31, dfa_29, dfa_22]; exact hv_pr0 (by omega) (by omega) (by decide)), nq_q_6⟩⟩⟩ dX0_init_83
end
section
/-! WHAT PROVES, GONE THROUGH: which tokens, how many, how high they pile up -/
def hv_vt (t : hv_tok) : Prop := (t.1 = 0 ∧ t.2.1 ≤ 2) ∨ (1 ≤ t.1 ∧ t.1 ≤ 8 ∧ t.2.1 ≤ 4 ∧ 0 ≤ t.2.2 ∧ t.2.2 ≤ 10007)
def hv_ct : List hv_tok → Nat
  | [] => 0
  | t :: o => if t.1 = 0 then hv_ct o else hv_ct o + 1
def hv_hg : List hv_tok → Option Nat
  | [] => some 0
  | t :: o => match hv_hg o with
    | none => none
    | some d => if t.1 = 0 then (if t.2.1 = 2 then (if 1 ≤ d then some d else none) else (if 2 ≤ d then some (d - 1) else none)) else some (d + 1)
def hv_V (o : List hv_tok) (t d : Nat) : Prop := (∀ x ∈ o, hv_vt x) ∧ hv_ct o ≤ t ∧ hv_hg o = some d
theorem hv_V_c {o : List hv_tok} {t d s : Nat} {a v : Int} (h : hv_V o t d) (h1 : 1 ≤ a) (h2 : a ≤ 8) (h3 : s ≤ 4) (h4 : 0 ≤ v) (h5 : v ≤ 10007) : hv_V ((a, s, v) :: o) (t + 1) (d + 1) := by
  obtain ⟨x, y, z⟩ := h
  have na : ¬ ((a, s, v) : hv_tok).1 = 0 := fun e => by have e' : a = 0 := e; omega
  refine ⟨fun q hq => ?_, ?_, ?_⟩
  · rcases List.mem_cons.mp hq with e | e
    · rw [e]; exact Or.inr ⟨h1, h2, h3, h4, h5⟩
    · exact x q e
  · show (if ((a, s, v) : hv_tok).1 = 0 then hv_ct o else hv_ct o + 1) ≤ t + 1
    rw [if_neg na]; omega
  · show (match hv_hg o with
      | none => none
      | some d => if ((a, s, v) : hv_tok).1 = 0 then (if ((a, s, v) : hv_tok).2.1 = 2 then (if 1 ≤ d then some d else none) else (if 2 ≤ d then some (d - 1) else none)) else some (d + 1)) = some (d + 1)
    rw [z]
    exact if_neg na
theorem hv_V_o {o : List hv_tok} {t d s e : Nat} (h : hv_V o t d) (hs : s ≤ 2) (h1 : (s = 2 ∧ 1 ≤ d ∧ e = d) ∨ (s ≤ 1 ∧ 2 ≤ d ∧ e = d - 1)) : hv_V ((0, s, 0) :: o) t e := by
  obtain ⟨x, y, z⟩ := h
  refine ⟨fun q hq => ?_, ?_, ?_⟩
  · rcases List.mem_cons.mp hq with w | w
    · rw [w]; exact Or.inl ⟨rfl, hs⟩
    · exact x q w
  · show (if ((0 : Int) = 0) then hv_ct o else hv_ct o + 1) ≤ t
    rw [if_pos rfl]; exact y
  · show (match hv_hg o with
      | none => none
      | some d => if (0 : Int) = 0 then (if s = 2 then (if 1 ≤ d then some d else none) else (if 2 ≤ d then some (d - 1) else none)) else some (d + 1)) = some e
    rw [z]
    show (if (0 : Int) = 0 then (if s = 2 then (if 1 ≤ d then some d else none) else (if 2 ≤ d then some (d - 1) else none)) else some (d + 1)) = some e
    rw [if_pos rfl]
    rcases h1 with ⟨a, b, c⟩ | ⟨a, b, c⟩
    · rw [if_pos a, if_pos b, c]
    · rw [if_neg (by omega), if_pos b, c]
theorem hv_V_j {o : List hv_tok} {t d s : Nat} {b : Bool} (h : hv_V o t (d + 1 + hv_w1 b)) (hs : s ≤ 1) : hv_V (hv_j b s o) t (d + 1) := by
  cases b with
  | false => exact h
  | true =>
    show hv_V ((0, s, 0) :: o) t (d + 1)
    exact hv_V_o h (by omega) (Or.inr ⟨hs, by have : hv_w1 true = 1 := rfl; omega, by have : hv_w1 true = 1 := rfl; omega⟩)
section HVVV
variable {T : Nat → Int32} {n : Nat}
theorem hv_dvb4 {u : Nat} (hn : u < n) (hd : hv_dg T u = true) (h4 : hv_de T n u - u ≤ 4) : 0 ≤ hv_dv T u (hv_de T n u - u) ∧ hv_dv T u (hv_de T n u - u) ≤ 9999 := by
  have hg := hv_de_gt (T := T) hn hd
  have hb := hv_dv_b (T := T) (p := u) (hv_de T n u - u) (fun j h1 h3 => by
    have h5 : j < hv_sn (hv_dg T) n u := by show j < hv_de T n u; omega
    exact hv_sn_in h1 h5)
  refine ⟨hb.1, ?_⟩
  have h1 : (10 : Int) ^ 1 = 10 := by decide
  have h2 : (10 : Int) ^ 2 = 100 := by decide
  have h3 : (10 : Int) ^ 3 = 1000 := by decide
  have h5 : (10 : Int) ^ 4 = 10000 := by decide
  rcases (show hv_de T n u - u = 1 ∨ hv_de T n u - u = 2 ∨ hv_de T n u - u = 3 ∨ hv_de T n u - u = 4 by omega) with e | e | e | e
  · rw [e] at hb ⊢; rw [h1] at hb; omega
  · rw [e] at hb ⊢; rw [h2] at hb; omega
  · rw [e] at hb ⊢; rw [h3] at hb; omega
  · rw [e] at hb ⊢; rw [h5] at hb; omega
theorem hv_term_v {p t d : Nat} {o : List hv_tok} {q : Nat × Nat × List hv_tok} (h : hv_term T n p t o = .inr q) (hV : hv_V o t d) : hv_V q.2.2 q.2.1 (d + 1) := by
  unfold hv_term at h
  split at h
  · next hw =>
    split at h
    · cases h
    · next ht =>
      unfold hv_lf at h
      split at h
      · cases h
      · next hz =>
        have hsg := hv_sg_b (T := T) (n := n) (hv_sk T n (hv_we T n p))
        unfold hv_rt at h
        split at h
        · next hv =>
          have h2 := Sum.inr.inj h
          subst h2
          exact hv_V_c hV (by omega) (by omega) hsg.2.2 (by omega) (by omega)
        · split at h
          · next hd =>
            have hl2 := hv_de_gt (T := T) hd.1 hd.2
            split at h
            · next h4 =>
              have h2 := Sum.inr.inj h
              subst h2
              have hb := hv_dvb4 (T := T) hd.1 hd.2 h4
              exact hv_V_c hV (by omega) (by omega) hsg.2.2 hb.1 (by have := hb.2; omega)
            · cases h
          · cases h
  · cases h
theorem hv_lp_v {one : Nat → Nat → List hv_tok → hv_R} (hone : ∀ p t o q d, one p t o = .inr q → hv_V o t d → hv_V q.2.2 q.2.1 (d + 1)) : ∀ (f : Nat) (a w : Bool) (p t d : Nat) (o : List hv_tok) (q : Nat × Nat × List hv_tok), hv_lp T n one f a w p t o = .inr q → hv_V o t (d + hv_w1 w + hv_w1 a) → hv_V q.2.2 q.2.1 (d + 1) := by
  intro f
  induction f with
  | zero => intro a w p t d o q h; cases h
  | succ f ih =>
    intro a w p t d o q h hV
    rw [hv_lp_s] at h
    obtain ⟨r, h1, h2⟩ := hv_bd_i h
    have g := hone _ _ _ _ _ h1 hV
    have wf : hv_w1 false = 0 := rfl
    have wt : hv_w1 true = 1 := rfl
    have g1 : hv_V (hv_j a 1 r.2.2) r.2.1 (d + hv_w1 w + 1) := hv_V_j (d := d + hv_w1 w) (by rw [show d + hv_w1 w + 1 + hv_w1 a = d + hv_w1 w + hv_w1 a + 1 by omega]; exact g) (by omega)
    split at h2
    · exact ih _ _ _ _ d _ _ h2 (by rw [wt]; exact g1)
    · have g2 : hv_V (hv_j w 0 (hv_j a 1 r.2.2)) r.2.1 (d + 1) := hv_V_j (d := d) (by rw [show d + 1 + hv_w1 w = d + hv_w1 w + 1 by omega]; exact g1) (by omega)
      split at h2
      · exact ih _ _ _ _ d _ _ h2 (by rw [wt, wf]; exact g2)
      · cases h2; exact g2
theorem hv_one_v : ∀ (D p t : Nat) (o : List hv_tok) (q : Nat × Nat × List hv_tok) (d : Nat), hv_one T n D p t o = .inr q → hv_V o t d → hv_V q.2.2 q.2.1 (d + 1) := by
  intro D
  induction D with
  | zero =>
    intro p t o q d h hV
    unfold hv_one at h
    split at h
    · cases h
    · split at h
      · cases h
      · exact hv_term_v h hV
  | succ D ih =>
    intro p t o q d h hV
    unfold hv_one at h
    split at h
    · obtain ⟨r, h1, h2⟩ := hv_bd_i h
      have g := ih _ _ _ _ _ h1 hV
      have h3 := Sum.inr.inj h2
      subst h3
      exact hv_V_o g (by omega) (Or.inl ⟨rfl, by omega, rfl⟩)
    · split at h
      · obtain ⟨r, h1, h2⟩ := hv_bd_i h
        have g := hv_lp_v ih _ _ _ _ _ d _ _ h1 hV
        unfold hv_par at h2
        split at h2
        · cases h2; exact g
        · cases h2
      · exact hv_term_v h hV
/-- what can be gone through -/
def hv_OK (o : List hv_tok) : Prop := ∃ t, t ≤ 20 ∧ hv_V o t 1
theorem hv_OK_0 : hv_OK hv_o0 := ⟨2, by omega, fun x hx => by
  have h : x = (0, 1, 0) ∨ x = (2, 2, 0) ∨ x = (1, 2, 1) := by simpa [hv_o0] using hx
  rcases h with e | e | e <;> rw [e]
  · exact Or.inl ⟨rfl, by decide⟩
  · exact Or.inr ⟨by decide, by decide, by decide, by decide, by decide⟩
  · exact Or.inr ⟨by decide, by decide, by decide, by decide, by decide⟩, by decide, by decide⟩
theorem hv_cl_v {p : Nat} {sn : Nat → Bool} {rd : Nat → Int} {o : List hv_tok} {q : hv_st} (h : hv_cl T n p sn rd o = .inr q) (hV : hv_OK o) : hv_OK q.2.2.2 := by
  unfold hv_cl at h
  split at h
  · split at h
    · split at h
      · cases h
      · obtain ⟨r, h1, h2⟩ := hv_bd_i h
        have h3 := Sum.inr.inj h2
        subst h3
        have g := hv_lp_v (hv_one_v 8) _ _ _ _ _ 0 _ _ h1 ⟨(fun x hx => nomatch hx), Nat.le_refl _, rfl⟩
        have b := hv_LE_b h1
        exact ⟨_, by have := b.2.2.2.1; omega, g⟩
    · split at h
      · unfold hv_co at h
        split at h
        · split at h
          · cases h
          · obtain ⟨r, h1, h2⟩ := hv_bd_i h
            have h3 := Sum.inr.inj h2
            subst h3; exact hV
        · cases h
      · unfold hv_ck at h
        split at h
        · cases h
        · obtain ⟨r, h1, h2⟩ := hv_bd_i h
          split at h2
          · obtain ⟨r', h1', h2'⟩ := hv_bd_i h2
            have h3 := Sum.inr.inj h2'
            subst h3; exact hV
          · have h3 := Sum.inr.inj h2
            subst h3; exact hV
  · cases h
theorem hv_al_v : ∀ (f : Nat) (s q : hv_st), hv_al T n f s = .inr q → hv_OK s.2.2.2 → hv_OK q.2.2.2
  | 0, s, q, h, _ => by cases h
  | f + 1, s, q, h, hV => by
    rw [hv_al_s] at h
    obtain ⟨r, h1, h2⟩ := hv_bd_i h
    have g := hv_cl_v h1 hV
    split at h2
    · split at h2
      · exact hv_al_v f _ _ h2 g
      · cases h2
    · have h3 := Sum.inr.inj h2
      subst h3; exact g
theorem hv_ACT_v {rd : Nat → Int} {q : hv_st} (h : hv_ACT T n rd hv_o0 = .inr q) : hv_OK q.2.2.2 := by
  unfold hv_ACT at h
  split at h
  · exact hv_al_v _ _ _ h hv_OK_0
  · have h3 := Sum.inr.inj h
    subst h3; exact hv_OK_0
end HVVV
end
section
/-! WHAT PROVES, GONE THROUGH: what is so -/
def hv_hd (F : Nat → Int) (t : hv_tok) : Bool := match t.2.1 with
  | 0 => decide (F (t.1 - 1).toNat < (if 10000 ≤ t.2.2 then F (t.2.2 - 10000).toNat else t.2.2))
  | 1 => decide (F (t.1 - 1).toNat ≤ (if 10000 ≤ t.2.2 then F (t.2.2 - 10000).toNat else t.2.2))
  | 2 => decide (F (t.1 - 1).toNat = (if 10000 ≤ t.2.2 then F (t.2.2 - 10000).toNat else t.2.2))
  | 3 => decide ((if 10000 ≤ t.2.2 then F (t.2.2 - 10000).toNat else t.2.2) ≤ F (t.1 - 1).toNat)
  | _ => decide ((if 10000 ≤ t.2.2 then F (t.2.2 - 10000).toNat else t.2.2) < F (t.1 - 1).toNat)
def hv_so : Nat → List Bool → List Bool
  | 2, b :: s => (!b) :: s
  | 1, a :: b :: s => (b && a) :: s
  | 0, a :: b :: s => (b || a) :: s
  | _, s => s
theorem hv_so_2 : ∀ (s : List Bool), 1 ≤ s.length → (hv_so 2 s).length = s.length
  | [], h => by have h' : 1 ≤ 0 := h; omega
  | _ :: _, _ => rfl
theorem hv_so_1 : ∀ (s : List Bool), 2 ≤ s.length → (hv_so 1 s).length = s.length - 1
  | [], h => by have h' : 2 ≤ 0 := h; omega
  | [_], h => by have h' : 2 ≤ 1 := h; omega
  | _ :: _ :: _, _ => rfl
theorem hv_so_0 : ∀ (s : List Bool), 2 ≤ s.length → (hv_so 0 s).length = s.length - 1
  | [], h => by have h' : 2 ≤ 0 := h; omega
  | [_], h => by have h' : 2 ≤ 1 := h; omega
  | _ :: _ :: _, _ => rfl
def hv_sp (F : Nat → Int) (t : hv_tok) (s : List Bool) : List Bool := if t.1 = 0 then hv_so t.2.1 s else hv_hd F t :: s
def hv_ev (F : Nat → Int) : List hv_tok → List Bool
  | [] => []
  | t :: o => hv_sp F t (hv_ev F o)
def hv_hs (t : hv_tok) (d : Nat) : Option Nat := if t.1 = 0 then (if t.2.1 = 2 then (if 1 ≤ d then some d else none) else (if 2 ≤ d then some (d - 1) else none)) else some (d + 1)
theorem hv_hg_s {t : hv_tok} {o : List hv_tok} {d : Nat} (h : hv_hg (t :: o) = some d) : ∃ d0, hv_hg o = some d0 ∧ hv_hs t d0 = some d := by
  have h' : (match hv_hg o with
    | none => none
    | some d => hv_hs t d) = some d := h
  cases hg : hv_hg o with
  | none => rw [hg] at h'; exact nomatch h'
  | some d0 => rw [hg] at h'; exact ⟨d0, rfl, h'⟩
theorem hv_sp_l {F : Nat → Int} {t : hv_tok} {s : List Bool} {d : Nat} (hv : hv_vt t) (h : hv_hs t s.length = some d) : (hv_sp F t s).length = d := by
  unfold hv_hs at h
  unfold hv_sp
  by_cases z : t.1 = 0
  · rw [if_pos z] at h ⊢
    have h22 : t.2.1 ≤ 2 := by
      rcases hv with ⟨_, a⟩ | ⟨a, _⟩
      · exact a
      · exfalso; omega
    rcases (show t.2.1 = 0 ∨ t.2.1 = 1 ∨ t.2.1 = 2 by omega) with e | e | e
    · rw [e] at h ⊢
      rw [if_neg (by decide)] at h
      by_cases y : 2 ≤ s.length
      · rw [if_pos y] at h; rw [hv_so_0 s y]; exact Option.some.inj h
      · rw [if_neg y] at h; exact nomatch h
    · rw [e] at h ⊢
      rw [if_neg (by decide)] at h
      by_cases y : 2 ≤ s.length
      · rw [if_pos y] at h; rw [hv_so_1 s y]; exact Option.some.inj h
      · rw [if_neg y] at h; exact nomatch h
    · rw [e] at h ⊢
      rw [if_pos rfl] at h
      by_cases y : 1 ≤ s.length
      · rw [if_pos y] at h; rw [hv_so_2 s y]; exact Option.some.inj h
      · rw [if_neg y] at h; exact nomatch h
  · rw [if_neg z] at h ⊢
    exact Option.some.inj h
theorem hv_ev_l {F : Nat → Int} : ∀ (o : List hv_tok) (d : Nat), (∀ x ∈ o, hv_vt x) → hv_hg o = some d → (hv_ev F o).length = d
  | [], d, _, h => Option.some.inj h
  | t :: o, d, hv, h => by
    obtain ⟨d0, h1, h2⟩ := hv_hg_s h
    have ih := hv_ev_l (F := F) o d0 (fun x hx => hv x (List.mem_cons_of_mem t hx)) h1
    exact hv_sp_l (hv t (List.mem_cons_self ..)) (by rw [ih]; exact h2)
theorem hv_hg_ct : ∀ (o : List hv_tok) (d : Nat), hv_hg o = some d → d ≤ hv_ct o
  | [], d, h => by have h' : 0 = d := Option.some.inj h; rw [← h']; exact Nat.le_refl _
  | t :: o, d, h => by
    obtain ⟨d0, h1, h2⟩ := hv_hg_s h
    have ih := hv_hg_ct o d0 h1
    unfold hv_hs at h2
    show d ≤ (if t.1 = 0 then hv_ct o else hv_ct o + 1)
    by_cases z : t.1 = 0
    · rw [if_pos z] at h2 ⊢
      by_cases y : t.2.1 = 2
      · rw [if_pos y] at h2
        by_cases x : 1 ≤ d0
        · rw [if_pos x] at h2; have := Option.some.inj h2; omega
        · rw [if_neg x] at h2; exact nomatch h2
      · rw [if_neg y] at h2
        by_cases x : 2 ≤ d0
        · rw [if_pos x] at h2; have := Option.some.inj h2; omega
        · rw [if_neg x] at h2; exact nomatch h2
    · rw [if_neg z] at h2 ⊢
      have := Option.some.inj h2; omega
theorem hv_ct_t {t : hv_tok} {o : List hv_tok} : hv_ct o ≤ hv_ct (t :: o) := by
  show hv_ct o ≤ (if t.1 = 0 then hv_ct o else hv_ct o + 1)
  split <;> omega
theorem hv_V_d : ∀ (k : Nat) (o : List hv_tok) (t d : Nat), hv_V o t d → ∃ d0, hv_V (o.drop k) t d0
  | 0, o, t, d, h => ⟨d, h⟩
  | k + 1, [], t, d, h => ⟨d, h⟩
  | k + 1, x :: o, t, d, h => by
    obtain ⟨d0, h0, _⟩ := hv_hg_s h.2.2
    exact hv_V_d k o t d0 ⟨fun y hy => h.1 y (List.mem_cons_of_mem _ hy), Nat.le_trans hv_ct_t h.2.1, h0⟩
theorem hv_drop_s {e : hv_tok → Int} {f : Nat → Int32} {o : List hv_tok} : ∀ (n k : Nat), hv_ls f n = o.map e → k < n → ∃ t, o.drop (n - (k + 1)) = t :: o.drop (n - k) ∧ (f k).toInt = e t ∧ t ∈ o := by
  intro n
  induction n generalizing o with
  | zero => intro k _ h; exfalso; omega
  | succ n ih =>
    intro k h hk
    match o, h with
    | [], h => exact absurd (congrArg List.length h) (by rw [hv_ls_len]; simp)
    | x :: o, h =>
      have h' : (f n).toInt :: hv_ls f n = e x :: o.map e := h
      have h1 := (List.cons.inj h').1
      have h2 := (List.cons.inj h').2
      by_cases z : k = n
      · subst z
        refine ⟨x, ?_, h1, List.mem_cons_self ..⟩
        rw [show k + 1 - (k + 1) = 0 by omega, show k + 1 - k = 0 + 1 by omega]; rfl
      · obtain ⟨t, a, b, c⟩ := ih k h2 (by omega)
        refine ⟨t, ?_, b, List.mem_cons_of_mem _ c⟩
        rw [show n + 1 - (k + 1) = (n - (k + 1)) + 1 by omega, show n + 1 - k = (n - k) + 1 by omega]
        exact a
/-- the pile, as the class has it: a bit each -/
def hv_bt (x : Int32) (s : List Bool) : Prop := ∀ i, i < s.length → x.toBitVec.getLsbD i = s.getD i false
theorem hv_bt_0 {x : Int32} : hv_bt x [] := fun i hi => absurd hi (Nat.not_lt_zero i)
theorem hv_b1 {x y : Int32} (e : y = x &&& 1) : (y.toInt = 1 ∧ x.toBitVec.getLsbD 0 = true) ∨ (y.toInt = 0 ∧ x.toBitVec.getLsbD 0 = false) := by
  have hc : y.toBitVec = BitVec.setWidth 32 (BitVec.ofBool (x.toBitVec.getLsbD 0)) := by
    have h3 : y.toBitVec = x.toBitVec &&& 1#32 := by rw [e]; rfl
    rw [h3, BitVec.and_one_eq_setWidth_ofBool_getLsbD]
  have hv : y.toInt = y.toBitVec.toInt := rfl
  rw [hv, hc]
  cases x.toBitVec.getLsbD 0 with
  | true => exact Or.inl ⟨by decide, rfl⟩
  | false => exact Or.inr ⟨by decide, rfl⟩
theorem hv_sr1 {x y : Int32} (e : y = x >>> ((1 : Int32) &&& 31)) (i : Nat) (hi : i + 1 < 32) : y.toBitVec.getLsbD i = x.toBitVec.getLsbD (i + 1) := by
  have h : y.toBitVec = x.toBitVec.sshiftRight 1 := by rw [e]; rfl
  rw [h, BitVec.getLsbD_sshiftRight, if_pos (by omega), Nat.add_comm 1 i, decide_eq_false (show ¬ 32 ≤ i by omega)]; rfl
theorem hv_sr2 {x y : Int32} (e : y = x >>> ((2 : Int32) &&& 31)) (i : Nat) (hi : i + 2 < 32) : y.toBitVec.getLsbD i = x.toBitVec.getLsbD (i + 2) := by
  have h : y.toBitVec = x.toBitVec.sshiftRight 2 := by rw [e]; rfl
  rw [h, BitVec.getLsbD_sshiftRight, if_pos (by omega), Nat.add_comm 2 i, decide_eq_false (show ¬ 32 ≤ i by omega)]; rfl
theorem hv_sl1 {x y : Int32} (e : y = x <<< ((1 : Int32) &&& 31)) : y.toBitVec.getLsbD 0 = false ∧ ∀ i, i + 1 < 32 → y.toBitVec.getLsbD (i + 1) = x.toBitVec.getLsbD i := by
  have h : y.toBitVec = x.toBitVec <<< 1 := by rw [e]; rfl
  rw [h]
  refine ⟨by rw [BitVec.getLsbD_shiftLeft]; simp, fun i hi => ?_⟩
  rw [BitVec.getLsbD_shiftLeft, decide_eq_true hi, decide_eq_false (show ¬ (i + 1 < 1) by omega), Nat.add_sub_cancel]
  simp
theorem hv_bor {x y z : Int32} (e : z = x ||| y) (i : Nat) : z.toBitVec.getLsbD i = (x.toBitVec.getLsbD i || y.toBitVec.getLsbD i) := by
  have h : z.toBitVec = x.toBitVec ||| y.toBitVec := by rw [e]; rfl
  rw [h, BitVec.getLsbD_or]
theorem hv_bxor {x y z : Int32} (e : z = x ^^^ y) (i : Nat) : z.toBitVec.getLsbD i = (x.toBitVec.getLsbD i ^^ y.toBitVec.getLsbD i) := by
  have h : z.toBitVec = x.toBitVec ^^^ y.toBitVec := by rw [e]; rfl
  rw [h, BitVec.getLsbD_xor]
theorem hv_01 : ∀ i : Nat, (1 : Int32).toBitVec.getLsbD (i + 1) = false := fun i => by
  show (1#32).getLsbD (i + 1) = false
  rw [BitVec.getLsbD_one]; simp
/-- a bit and nothing else -/
theorem hv_b01 {y : Int32} (h : y.toInt = 0 ∨ y.toInt = 1) (i : Nat) : y.toBitVec.getLsbD (i + 1) = false ∧ (y.toBitVec.getLsbD 0 = decide (y.toInt = 1)) := by
  rcases h with e | e
  · obtain rfl : y = 0 := Int32.toInt_inj.mp (e.trans (by decide))
    exact ⟨by show (0#32).getLsbD (i + 1) = false; simp, by decide⟩
  · obtain rfl : y = 1 := Int32.toInt_inj.mp (e.trans (by decide))
    exact ⟨hv_01 i, by decide⟩
theorem hv_bt_not {x x1 : Int32} {b : Bool} {s : List Bool} (h : hv_bt x (b :: s)) (e : x1 = x ^^^ 1) : hv_bt x1 ((!b) :: s) := fun i hi => by
  rw [hv_bxor e]
  match i, hi with
  | 0, _ =>
    have h0 := h 0 (by simp)
    rw [h0]
    show (b ^^ (1 : Int32).toBitVec.getLsbD 0) = !b
    rw [show (1 : Int32).toBitVec.getLsbD 0 = true from by decide]; simp
  | i + 1, hi =>
    have h0 := h (i + 1) (by simpa using hi)
    rw [h0, hv_01 i]
    show ((s.getD i false) ^^ false) = s.getD i false
    simp
theorem hv_bt_push {x y z v : Int32} {s : List Bool} (h : hv_bt x s) (hs : s.length ≤ 30) (e : y = x <<< ((1 : Int32) &&& 31)) (e2 : z = y ||| v) (hv : v.toInt = 0 ∨ v.toInt = 1) : hv_bt z (decide (v.toInt = 1) :: s) := fun i hi => by
  rw [hv_bor e2]
  have hl := hv_sl1 e
  match i, hi with
  | 0, _ =>
    rw [hl.1, (hv_b01 hv 0).2]; rfl
  | i + 1, hi =>
    have hi' : i < s.length := by simpa using hi
    rw [hl.2 i (by omega), (hv_b01 hv i).1, h i hi', Bool.or_false]; rfl
theorem hv_bt_two {x y z w v : Int32} {a b c : Bool} {s : List Bool} (h : hv_bt x (a :: b :: s)) (hs : s.length ≤ 28) (e : y = x >>> ((2 : Int32) &&& 31)) (e2 : z = y <<< ((1 : Int32) &&& 31)) (e3 : w = z ||| v) (hv : v.toInt = 0 ∨ v.toInt = 1) (hc : c = decide (v.toInt = 1)) : hv_bt w (c :: s) := by
  have h2 : hv_bt y s := fun i hi => by
    rw [hv_sr2 e i (by omega), h (i + 2) (by simp; omega)]; rfl
  rw [hc]
  exact hv_bt_push h2 (by omega) e2 e3 hv
end
section
/-! A COMPARISON, AS THE CLASS HAS IT -/
theorem hv_mskN {x y : Int32} (k : Nat) (hk : k < 32) (m : Int32) (hm : m.toBitVec.toNat = 2 ^ k - 1) (h : 0 ≤ x.toInt) (e : y = x &&& m) : y.toInt = x.toInt % (2 ^ k : Nat) := by
  have hx := hv_i32n h
  have h3 : y.toBitVec.toNat = x.toBitVec.toNat % 2 ^ k := by
    have h4 : y.toBitVec = x.toBitVec &&& m.toBitVec := by rw [e]; rfl
    rw [h4, BitVec.toNat_and, hm, Nat.and_two_pow_sub_one_eq_mod]
  have hl : x.toBitVec.toNat % 2 ^ k ≤ x.toBitVec.toNat := Nat.mod_le _ _
  have hy : y.toInt = (y.toBitVec.toNat : Int) := by
    show y.toBitVec.toInt = _
    rw [BitVec.toInt_eq_toNat_of_lt (by omega)]
  rw [hy, h3, hx.1]
  exact Int.natCast_emod _ _
theorem hv_and7 {x y : Int32} (h : 0 ≤ x.toInt) (e : y = x &&& 7) : y.toInt = x.toInt % 8 := hv_mskN 3 (by decide) 7 (by decide) h e
theorem hv_and1 {x y : Int32} (h : 0 ≤ x.toInt) (e : y = x &&& 1) : y.toInt = x.toInt % 2 := hv_mskN 1 (by decide) 1 (by decide) h e
theorem hv_shrN {x y : Int32} (k : Nat) (s : Int32) (hs : (s.toBitVec.smod 32).toNat = k) (h : 0 ≤ x.toInt) (e : y = x >>> s) : y.toInt = x.toInt / (2 ^ k : Nat) := by
  have hx := hv_i32n h
  have h4 : y.toBitVec = x.toBitVec.sshiftRight k := by
    rw [e, ← hs]; rfl
  have hy : y.toInt = y.toBitVec.toInt := rfl
  rw [hy, h4, BitVec.toInt_sshiftRight, Int.shiftRight_eq_div_pow]
  rfl
end
section
/-! A COMPARISON, AS THE CLASS HAS IT: what its parts are -/
theorem hv_bitN {z y : Int32} (k : Nat) (hk : k < 31) (m : Int32) (hm : m.toBitVec = BitVec.twoPow 32 k) (h2 : (BitVec.twoPow 32 k).toInt ≠ 0) (h : 0 ≤ z.toInt) (e : y = z &&& m) : y.toInt ≠ 0 ↔ z.toInt / ((2 ^ k : Nat) : Int) % 2 = 1 := by
  have hz := hv_i32n h
  have h4 : y.toBitVec = z.toBitVec &&& BitVec.twoPow 32 k := by rw [e, ← hm]; rfl
  have hy : y.toInt = y.toBitVec.toInt := rfl
  have hb : z.toBitVec.getLsbD k = decide (z.toBitVec.toNat / 2 ^ k % 2 = 1) := Nat.testBit_eq_decide_div_mod_eq
  have hc : z.toInt / ((2 ^ k : Nat) : Int) % 2 = ((z.toBitVec.toNat / 2 ^ k % 2 : Nat) : Int) := by rw [hz.1]; rfl
  rw [hc, hy, h4, BitVec.and_twoPow, hb]
  by_cases w : z.toBitVec.toNat / 2 ^ k % 2 = 1
  · rw [if_pos (decide_eq_true w), w]
    exact ⟨fun _ => rfl, fun _ => h2⟩
  · rw [if_neg (fun q => w (of_decide_eq_true q))]
    exact ⟨fun q => absurd (by decide) q, fun q => absurd (by omega) w⟩
theorem hv_cc_d {t : hv_tok} (hv : hv_vt t) (h1 : 1 ≤ t.1) : 0 ≤ hv_cc t ∧ hv_cc t % 8 = t.1 - 1 ∧ hv_cc t / 8 % 8 = hv_scd (t.2.1, 1) ∧ (10000 ≤ t.2.2 → hv_cc t / 64 % 2 = 1 ∧ hv_cc t / 128 = t.2.2 - 10000) ∧ (t.2.2 < 10000 → hv_cc t / 64 % 2 = 0 ∧ hv_cc t / 128 = t.2.2) := by
  have hs := hv_scd_b (g := (t.2.1, 1))
  rcases hv with ⟨a, _⟩ | ⟨a, b, c, d, e⟩
  · exfalso; omega
  · unfold hv_cc
    rw [if_neg (by omega)]
    by_cases z : 10000 ≤ t.2.2
    · rw [if_pos z]
      refine ⟨by omega, by omega, by omega, fun _ => by omega, fun _ => by omega⟩
    · rw [if_neg z]
      refine ⟨by omega, by omega, by omega, fun _ => by omega, fun _ => by omega⟩
theorem hv_hd_c {F : Nat → Int} {t : hv_tok} {l r s : Int} (hv : hv_vt t) (h1 : 1 ≤ t.1) (hl : l = F (t.1 - 1).toNat) (hr : r = (if 10000 ≤ t.2.2 then F (t.2.2 - 10000).toNat else t.2.2)) (hs : s = hv_scd (t.2.1, 1)) : ((l < r ∧ s % 2 = 1) ∨ (l = r ∧ s / 2 % 2 = 1) ∨ (r < l ∧ s / 4 % 2 = 1)) ↔ hv_hd F t = true := by
  obtain ⟨a, g, v⟩ := t
  have hg : g ≤ 4 := by
    rcases hv with ⟨_, b⟩ | ⟨_, _, c, _⟩
    · have b' : g ≤ 2 := b; omega
    · exact c
  have hl' : F (a - 1).toNat = l := hl.symm
  have hr' : (if 10000 ≤ v then F (v - 10000).toNat else v) = r := hr.symm
  rcases (show g = 0 ∨ g = 1 ∨ g = 2 ∨ g = 3 ∨ g = 4 by omega) with e | e | e | e | e <;> subst e
  · have hs' : s = 1 := hs
    show _ ↔ decide (F (a - 1).toNat < (if 10000 ≤ v then F (v - 10000).toNat else v)) = true
    rw [hl', hr', decide_eq_true_iff]; omega
  · have hs' : s = 3 := hs
    show _ ↔ decide (F (a - 1).toNat ≤ (if 10000 ≤ v then F (v - 10000).toNat else v)) = true
    rw [hl', hr', decide_eq_true_iff]; omega
  · have hs' : s = 2 := hs
    show _ ↔ decide (F (a - 1).toNat = (if 10000 ≤ v then F (v - 10000).toNat else v)) = true
    rw [hl', hr', decide_eq_true_iff]; omega
  · have hs' : s = 6 := hs
    show _ ↔ decide ((if 10000 ≤ v then F (v - 10000).toNat else v) ≤ F (a - 1).toNat) = true
    rw [hl', hr', decide_eq_true_iff]; omega
  · have hs' : s = 4 := hs
    show _ ↔ decide ((if 10000 ≤ v then F (v - 10000).toNat else v) < F (a - 1).toNat) = true
    rw [hl', hr', decide_eq_true_iff]; omega
end
section
/-! A COMPARISON AND THE PILE, AS THE REFERENCE HAS THEM -/
theorem hv_rc_d {t : hv_tok} (hv : hv_vt t) (h1 : 1 ≤ t.1) : 1000000 ≤ hv_rc t ∧ hv_rc t / 1000000 = t.1 ∧ hv_rc t % 100000 = t.2.2 ∧ hv_rc t / 100000 % 10 = (t.2.1 : Int) := by
  rcases hv with ⟨a, _⟩ | ⟨a, b, c, d, e⟩
  · exfalso; omega
  · unfold hv_rc
    rw [if_neg (by omega)]
    omega
theorem hv_rc_o {t : hv_tok} (hv : hv_vt t) (h1 : t.1 = 0) : hv_rc t = (t.2.1 : Int) ∧ t.2.1 ≤ 2 := by
  rcases hv with ⟨a, b⟩ | ⟨a, b, c, d, e⟩
  · exact ⟨if_pos h1, b⟩
  · exfalso; omega
theorem hv_rc_k {t : hv_tok} (hv : hv_vt t) : (1000000 ≤ hv_rc t ∧ 1 ≤ t.1) ∨ (hv_rc t ≤ 2 ∧ t.1 = 0) := by
  rcases (show t.1 = 0 ∨ 1 ≤ t.1 by rcases hv with ⟨a, _⟩ | ⟨a, _⟩ <;> omega) with z | z
  · have := hv_rc_o hv z; exact Or.inr ⟨by omega, z⟩
  · exact Or.inl ⟨(hv_rc_d hv z).1, z⟩
theorem hv_cc_k {t : hv_tok} (hv : hv_vt t) : (0 ≤ hv_cc t ∧ 1 ≤ t.1) ∨ (t.1 = 0 ∧ ((t.2.1 = 0 ∧ hv_cc t = -2) ∨ (t.2.1 = 1 ∧ hv_cc t = -1) ∨ (t.2.1 = 2 ∧ hv_cc t = -3))) := by
  rcases (show (t.1 = 0 ∧ t.2.1 ≤ 2) ∨ 1 ≤ t.1 by rcases hv with ⟨a, b⟩ | ⟨a, _⟩ <;> omega) with z | z
  · refine Or.inr ⟨z.1, ?_⟩
    unfold hv_cc
    rw [if_pos z.1]
    rcases (show t.2.1 = 0 ∨ t.2.1 = 1 ∨ t.2.1 = 2 by omega) with e | e | e
    · rw [e]; exact Or.inl ⟨rfl, rfl⟩
    · rw [e]; exact Or.inr (Or.inl ⟨rfl, rfl⟩)
    · rw [e]; exact Or.inr (Or.inr ⟨rfl, rfl⟩)
  · exact Or.inl ⟨(hv_cc_d hv z).1, z⟩
def hv_bi (b : Bool) : Int := if b = true then 1 else 0
def hv_BS (f : Nat → Int32) (n : Nat) (s : List Bool) : Prop := hv_ls f n = s.map hv_bi
theorem hv_BS_0 {f : Nat → Int32} : hv_BS f 0 [] := rfl
theorem hv_BS_l {f : Nat → Int32} {n : Nat} {s : List Bool} (h : hv_BS f n s) : s.length = n := by
  have := congrArg List.length h
  rw [hv_ls_len, List.length_map] at this
  exact this.symm
theorem hv_BS_r {f : Nat → Int32} {n : Nat} {a : Bool} {s : List Bool} (h : hv_BS f (n + 1) (a :: s)) : (f n).toInt = hv_bi a ∧ hv_BS f n s := List.cons.inj h
theorem hv_BS_w {f f1 : Nat → Int32} {n : Nat} {c : Bool} {s : List Bool} {v : Int32} (h : hv_BS f n s) (e : f1 = hx_up f n v) (hv : v.toInt = hv_bi c) : hv_BS f1 (n + 1) (c :: s) := by
  show (f1 n).toInt :: hv_ls f1 n = hv_bi c :: s.map hv_bi
  rw [e, hx_up_at, hv, hv_ls_c (g := f) n (fun j hj => hx_up_ne (by omega))]
  exact congrArg _ h
theorem hv_hd_m {F : Nat → Int} {t : hv_tok} {l r : Int} (hl : l = F (t.1 - 1).toNat) (hr : r = (if 10000 ≤ t.2.2 then F (t.2.2 - 10000).toNat else t.2.2)) : (t.2.1 = 0 → (hv_hd F t = true ↔ l < r)) ∧ (t.2.1 = 1 → (hv_hd F t = true ↔ l ≤ r)) ∧ (t.2.1 = 2 → (hv_hd F t = true ↔ l = r)) ∧ (t.2.1 = 3 → (hv_hd F t = true ↔ r ≤ l)) ∧ (t.2.1 = 4 → (hv_hd F t = true ↔ r < l)) := by
  obtain ⟨a, g, v⟩ := t
  have hl' : F (a - 1).toNat = l := hl.symm
  have hr' : (if 10000 ≤ v then F (v - 10000).toNat else v) = r := hr.symm
  refine ⟨fun e => ?_, fun e => ?_, fun e => ?_, fun e => ?_, fun e => ?_⟩
  · have e' : g = 0 := e
    subst e'
    show decide (F (a - 1).toNat < (if 10000 ≤ v then F (v - 10000).toNat else v)) = true ↔ _
    rw [hl', hr', decide_eq_true_iff]
  · have e' : g = 1 := e
    subst e'
    show decide (F (a - 1).toNat ≤ (if 10000 ≤ v then F (v - 10000).toNat else v)) = true ↔ _
    rw [hl', hr', decide_eq_true_iff]
  · have e' : g = 2 := e
    subst e'
    show decide (F (a - 1).toNat = (if 10000 ≤ v then F (v - 10000).toNat else v)) = true ↔ _
    rw [hl', hr', decide_eq_true_iff]
  · have e' : g = 3 := e
    subst e'
    show decide ((if 10000 ≤ v then F (v - 10000).toNat else v) ≤ F (a - 1).toNat) = true ↔ _
    rw [hl', hr', decide_eq_true_iff]
  · have e' : g = 4 := e
    subst e'
    show decide ((if 10000 ≤ v then F (v - 10000).toNat else v) < F (a - 1).toNat) = true ↔ _
    rw [hl', hr', decide_eq_true_iff]
end
section
/-! WHAT IS SO, STEP BY STEP -/
def hv_pr (F : Nat → Int) (o : List hv_tok) : Bool := (hv_ev F o).getD 0 false
theorem hv_bitA {z y : Int32} (h : 0 ≤ z.toInt) (e : y = z &&& 1) : y.toInt ≠ 0 ↔ z.toInt % 2 = 1 := by
  have := hv_bitN 0 (by decide) 1 (by decide) (by decide) h e
  rw [this]
  show z.toInt / 1 % 2 = 1 ↔ _
  rw [Int.ediv_one]
theorem hv_bitB {z y : Int32} (h : 0 ≤ z.toInt) (e : y = z &&& 2) : y.toInt ≠ 0 ↔ z.toInt / 2 % 2 = 1 := hv_bitN 1 (by decide) 2 (by decide) (by decide) h e
theorem hv_bitC {z y : Int32} (h : 0 ≤ z.toInt) (e : y = z &&& 4) : y.toInt ≠ 0 ↔ z.toInt / 4 % 2 = 1 := hv_bitN 2 (by decide) 4 (by decide) (by decide) h e
theorem hv_shr3 {x y : Int32} (h : 0 ≤ x.toInt) (e : y = x >>> ((3 : Int32) &&& 31)) : y.toInt = x.toInt / 8 := hv_shrN 3 _ (by decide) h e
theorem hv_shr6 {x y : Int32} (h : 0 ≤ x.toInt) (e : y = x >>> ((6 : Int32) &&& 31)) : y.toInt = x.toInt / 64 := hv_shrN 6 _ (by decide) h e
theorem hv_shr7 {x y : Int32} (h : 0 ≤ x.toInt) (e : y = x >>> ((7 : Int32) &&& 31)) : y.toInt = x.toInt / 128 := hv_shrN 7 _ (by decide) h e
def hv_F0 (f : Nat → Int32) (b : Nat) : Nat → Int := fun k => (f (k + b)).toInt
/-- the token that is gone through, and what it needs -/
theorem hv_pg {F : Nat → Int} {e : hv_tok → Int} {f : Nat → Int32} {o : List hv_tok} {n k : Int} {v : Int32} {ix : Nat} (hls : hv_ls f n.toNat = o.map e) (hO : hv_OK o) (h0 : 0 ≤ k) (hk : k < n) (ei : (ix : Int) = k) (ev : v = f ix) : ∃ (t : hv_tok) (s : List Bool), s = hv_ev F (o.drop (n - k).toNat) ∧ hv_vt t ∧ v.toInt = e t ∧ hv_ev F (o.drop (n - (k + 1)).toNat) = hv_sp F t s ∧ s.length ≤ 20 ∧ (t.1 = 0 → (t.2.1 = 2 ∧ 1 ≤ s.length) ∨ (t.2.1 ≤ 1 ∧ 2 ≤ s.length)) := by
  obtain ⟨t, h1, h2, h3⟩ := hv_drop_s n.toNat ix hls (by omega)
  rw [show n.toNat - (ix + 1) = (n - (k + 1)).toNat by omega, show n.toNat - ix = (n - k).toNat by omega] at h1
  obtain ⟨tt, ht, hV⟩ := hO
  obtain ⟨d, hd⟩ := hv_V_d (n - (k + 1)).toNat o tt 1 hV
  rw [h1] at hd
  obtain ⟨d0, g0, g1⟩ := hv_hg_s hd.2.2
  have hvt := hd.1 t (List.mem_cons_self ..)
  have hl := hv_ev_l (F := F) _ d0 (fun x hx => hd.1 x (List.mem_cons_of_mem t hx)) g0
  have hc := hv_hg_ct _ d0 g0
  have hc2 : hv_ct (o.drop (n - k).toNat) ≤ hv_ct (t :: o.drop (n - k).toNat) := hv_ct_t
  have hc3 := hd.2.1
  refine ⟨t, _, rfl, hvt, by rw [ev]; exact h2, by rw [h1]; rfl, by omega, fun z => ?_⟩
  rw [hl]
  unfold hv_hs at g1
  rw [if_pos z] at g1
  have h22 : t.2.1 ≤ 2 := by
    rcases hvt with ⟨_, a⟩ | ⟨a, _⟩
    · exact a
    · exfalso; omega
  by_cases y : t.2.1 = 2
  · rw [if_pos y] at g1
    by_cases w : 1 ≤ d0
    · exact Or.inl ⟨y, w⟩
    · rw [if_neg w] at g1; exact nomatch g1
  · rw [if_neg y] at g1
    by_cases w : 2 ≤ d0
    · exact Or.inr ⟨by omega, w⟩
    · rw [if_neg w] at g1; exact nomatch g1
theorem hv_len1 : ∀ {s : List Bool}, 1 ≤ s.length → ∃ a r, s = a :: r
  | [], h => absurd h (by show ¬ 1 ≤ 0; omega)
  | a :: r, _ => ⟨a, r, rfl⟩
theorem hv_len2 : ∀ {s : List Bool}, 2 ≤ s.length → ∃ a b r, s = a :: b :: r
  | [], h => absurd h (by show ¬ 2 ≤ 0; omega)
  | [_], h => absurd h (by show ¬ 2 ≤ 1; omega)
  | a :: b :: r, _ => ⟨a, b, r, rfl⟩
theorem hv_sp0 {F : Nat → Int} {t : hv_tok} {s : List Bool} (h : t.1 = 0) : hv_sp F t s = hv_so t.2.1 s := if_pos h
theorem hv_sp1 {F : Nat → Int} {t : hv_tok} {s : List Bool} (h : 1 ≤ t.1) : hv_sp F t s = hv_hd F t :: s := if_neg (by omega)
theorem hv_d0 {F : Nat → Int} {e : hv_tok → Int} {f : Nat → Int32} {o : List hv_tok} {n z : Int} (hls : hv_ls f n.toNat = o.map e) (hz : z = 0) : hv_ev F (o.drop (n - z).toNat) = [] := by
  have hl := congrArg List.length hls
  rw [hv_ls_len, List.length_map] at hl
  rw [List.drop_eq_nil_of_le (by omega)]; rfl
theorem hv_nb {b : Bool} {p : Prop} (h : b = true ↔ p) (n : ¬ p) : b = false := by
  cases b with
  | false => rfl
  | true => exact absurd (h.mp rfl) n
theorem hv_hd_e {F G : Nat → Int} {t : hv_tok} (hv : hv_vt t) (h1 : 1 ≤ t.1) (h : ∀ k, k < 8 → F k = G k) : hv_hd F t = hv_hd G t := by
  obtain ⟨a, g, v⟩ := t
  have hb : (1 ≤ a ∧ a ≤ 8) ∧ 0 ≤ v ∧ v ≤ 10007 := by
    rcases hv with ⟨x, _⟩ | ⟨x, y, _, z, w⟩
    · exfalso; have h1' : 1 ≤ a := h1; have x' : a = 0 := x; omega
    · exact ⟨⟨x, y⟩, z, w⟩
  have e1 : F (a - 1).toNat = G (a - 1).toNat := h _ (by omega)
  have e2 : (if 10000 ≤ v then F (v - 10000).toNat else v) = (if 10000 ≤ v then G (v - 10000).toNat else v) := by
    by_cases z : 10000 ≤ v
    · rw [if_pos z, if_pos z]; exact h _ (by omega)
    · rw [if_neg z, if_neg z]
  unfold hv_hd
  dsimp only
  rw [e1, e2]
theorem hv_ev_e {F G : Nat → Int} (h : ∀ k, k < 8 → F k = G k) : ∀ (o : List hv_tok), (∀ x ∈ o, hv_vt x) → hv_ev F o = hv_ev G o
  | [], _ => rfl
  | t :: o, hv => by
    have ih := hv_ev_e h o (fun x hx => hv x (List.mem_cons_of_mem t hx))
    show hv_sp F t (hv_ev F o) = hv_sp G t (hv_ev G o)
    rw [ih]
    unfold hv_sp
    by_cases z : t.1 = 0
    · rw [if_pos z, if_pos z]
    · rw [if_neg z, if_neg z]
      have hvt := hv t (List.mem_cons_self ..)
      rw [hv_hd_e hvt (by rcases hvt with ⟨x, _⟩ | ⟨x, _⟩ <;> omega) h]
theorem hv_pr_e {F G : Nat → Int} {o : List hv_tok} (hO : hv_OK o) (h : ∀ k, k < 8 → F k = G k) : hv_pr F o = hv_pr G o := by
  obtain ⟨t, _, hV⟩ := hO
  unfold hv_pr
  rw [hv_ev_e h o hV.1]
/-- the class's steps -/
theorem hv_cN {F : Nat → Int} {t : hv_tok} {s : List Bool} {x x1 : Int32} (h : hv_bt x s) (t1 : t.1 = 0) (t2 : t.2.1 = 2) (hl : 1 ≤ s.length) (e : x1 = x ^^^ 1) : hv_bt x1 (hv_sp F t s) := by
  obtain ⟨a, r, rfl⟩ := hv_len1 hl
  rw [hv_sp0 t1, t2]
  exact hv_bt_not h e
theorem hv_topb {x a b1 b : Int32} {p q : Bool} {r : List Bool} (h : hv_bt x (p :: q :: r)) (ea : a = x &&& 1) (e1 : b1 = x >>> ((1 : Int32) &&& 31)) (eb : b = b1 &&& 1) : ((a.toInt = 1 ∧ p = true) ∨ (a.toInt = 0 ∧ p = false)) ∧ ((b.toInt = 1 ∧ q = true) ∨ (b.toInt = 0 ∧ q = false)) := by
  have h0 : x.toBitVec.getLsbD 0 = p := h 0 (by simp)
  have h1 : x.toBitVec.getLsbD 1 = q := h 1 (by simp)
  have h2 : b1.toBitVec.getLsbD 0 = q := by rw [hv_sr1 e1 0 (by decide)]; exact h1
  have g0 := hv_b1 ea
  have g1 := hv_b1 eb
  rw [h0] at g0
  rw [h2] at g1
  exact ⟨g0, g1⟩
theorem hv_cA {F : Nat → Int} {t : hv_tok} {s : List Bool} {x a b1 b y z v w : Int32} (h : hv_bt x s) (t1 : t.1 = 0) (t2 : t.2.1 = 1) (hl : 2 ≤ s.length) (hs : s.length ≤ 20) (ea : a = x &&& 1) (e1 : b1 = x >>> ((1 : Int32) &&& 31)) (eb : b = b1 &&& 1) (ey : y = x >>> ((2 : Int32) &&& 31)) (ez : z = y <<< ((1 : Int32) &&& 31)) (ev : v = a &&& b) (ew : w = z ||| v) : hv_bt w (hv_sp F t s) := by
  obtain ⟨p, q, r, rfl⟩ := hv_len2 hl
  rw [hv_sp0 t1, t2]
  obtain ⟨g0, g1⟩ := hv_topb h ea e1 eb
  have k00 : ((0 : Int32) &&& 0) = 0 := by decide
  have k01 : ((0 : Int32) &&& 1) = 0 := by decide
  have k10 : ((1 : Int32) &&& 0) = 0 := by decide
  have k11 : ((1 : Int32) &&& 1) = 1 := by decide
  have c : (v.toInt = 0 ∨ v.toInt = 1) ∧ (q && p) = decide (v.toInt = 1) := by
    rcases g0 with ⟨a0, rfl⟩ | ⟨a0, rfl⟩ <;> rcases g1 with ⟨b0, rfl⟩ | ⟨b0, rfl⟩
    · obtain rfl : a = 1 := Int32.toInt_inj.mp a0
      obtain rfl : b = 1 := Int32.toInt_inj.mp b0
      rw [ev, k11]; decide
    · obtain rfl : a = 1 := Int32.toInt_inj.mp a0
      obtain rfl : b = 0 := Int32.toInt_inj.mp b0
      rw [ev, k10]; decide
    · obtain rfl : a = 0 := Int32.toInt_inj.mp a0
      obtain rfl : b = 1 := Int32.toInt_inj.mp b0
      rw [ev, k01]; decide
    · obtain rfl : a = 0 := Int32.toInt_inj.mp a0
      obtain rfl : b = 0 := Int32.toInt_inj.mp b0
      rw [ev, k00]; decide
  exact hv_bt_two (s := r) h (by simp at hs; omega) ey ez ew c.1 c.2
theorem hv_cO {F : Nat → Int} {t : hv_tok} {s : List Bool} {x a b1 b y z v w : Int32} (h : hv_bt x s) (t1 : t.1 = 0) (t2 : t.2.1 = 0) (hl : 2 ≤ s.length) (hs : s.length ≤ 20) (ea : a = x &&& 1) (e1 : b1 = x >>> ((1 : Int32) &&& 31)) (eb : b = b1 &&& 1) (ey : y = x >>> ((2 : Int32) &&& 31)) (ez : z = y <<< ((1 : Int32) &&& 31)) (ev : v = z ||| a) (ew : w = v ||| b) : hv_bt w (hv_sp F t s) := by
  obtain ⟨p, q, r, rfl⟩ := hv_len2 hl
  rw [hv_sp0 t1, t2]
  obtain ⟨g0, g1⟩ := hv_topb h ea e1 eb
  have ew2 : w = z ||| (a ||| b) := by rw [ew, ev, Int32.or_assoc]
  have k00 : ((0 : Int32) ||| 0) = 0 := by decide
  have k01 : ((0 : Int32) ||| 1) = 1 := by decide
  have k10 : ((1 : Int32) ||| 0) = 1 := by decide
  have k11 : ((1 : Int32) ||| 1) = 1 := by decide
  have c : ((a ||| b).toInt = 0 ∨ (a ||| b).toInt = 1) ∧ (q || p) = decide ((a ||| b).toInt = 1) := by
    rcases g0 with ⟨a0, rfl⟩ | ⟨a0, rfl⟩ <;> rcases g1 with ⟨b0, rfl⟩ | ⟨b0, rfl⟩
    · obtain rfl : a = 1 := Int32.toInt_inj.mp a0
      obtain rfl : b = 1 := Int32.toInt_inj.mp b0
      rw [k11]; decide
    · obtain rfl : a = 1 := Int32.toInt_inj.mp a0
      obtain rfl : b = 0 := Int32.toInt_inj.mp b0
      rw [k10]; decide
    · obtain rfl : a = 0 := Int32.toInt_inj.mp a0
      obtain rfl : b = 1 := Int32.toInt_inj.mp b0
      rw [k01]; decide
    · obtain rfl : a = 0 := Int32.toInt_inj.mp a0
      obtain rfl : b = 0 := Int32.toInt_inj.mp b0
      rw [k00]; decide
  exact hv_bt_two (s := r) h (by simp at hs; omega) ey ez ew2 c.1 c.2
theorem hv_cP {F : Nat → Int} {t : hv_tok} {s : List Bool} {x y v w : Int32} (h : hv_bt x s) (t1 : 1 ≤ t.1) (hs : s.length ≤ 20) (hv : (v.toInt = 1 ∧ hv_hd F t = true) ∨ (v.toInt = 0 ∧ hv_hd F t = false)) (e : y = x <<< ((1 : Int32) &&& 31)) (e2 : w = y ||| v) : hv_bt w (hv_sp F t s) := by
  rw [hv_sp1 t1]
  rcases hv with ⟨a, b⟩ | ⟨a, b⟩
  · have := hv_bt_push h (by omega) e e2 (Or.inr a)
    rw [b, show decide (v.toInt = 1) = true from decide_eq_true a] at *
    exact this
  · have := hv_bt_push h (by omega) e e2 (Or.inl a)
    rw [b, show decide (v.toInt = 1) = false from decide_eq_false (by omega)] at *
    exact this
theorem hv_cE {F : Nat → Int} {o : List hv_tok} {x y : Int32} (hO : hv_OK o) (h : hv_bt x (hv_ev F o)) (e : y = x &&& 1) : (y.toInt = 1 ∧ hv_pr F o = true) ∨ (y.toInt = 0 ∧ hv_pr F o = false) := by
  obtain ⟨tt, ht, hV⟩ := hO
  have hl := hv_ev_l (F := F) o 1 hV.1 hV.2.2
  obtain ⟨a, r, hr⟩ := hv_len1 (s := hv_ev F o) (by omega)
  have g := hv_b1 e
  have h0 := h 0 (by omega)
  rw [h0] at g
  exact g
/-- the reference's steps -/
theorem hv_rP {F : Nat → Int} {t : hv_tok} {s : List Bool} {f f1 : Nat → Int32} {n n1 : Int} {ix : Nat} {v : Int32} (h : hv_BS f n.toNat s) (t1 : 1 ≤ t.1) (h0 : 0 ≤ n) (hv : (v.toInt = 1 ∧ hv_hd F t = true) ∨ (v.toInt = 0 ∧ hv_hd F t = false)) (ei : (ix : Int) = n) (e : f1 = hx_up f ix v) (e1 : n1 = n + 1) : hv_BS f1 n1.toNat (hv_sp F t s) := by
  rw [hv_sp1 t1, show n1.toNat = n.toNat + 1 by omega]
  refine hv_BS_w h (by rw [e, show ix = n.toNat by omega]) ?_
  rcases hv with ⟨a, b⟩ | ⟨a, b⟩
  · rw [a, b]; rfl
  · rw [a, b]; rfl
theorem hv_rN {F : Nat → Int} {t : hv_tok} {s : List Bool} {f f1 : Nat → Int32} {n : Int} {ix : Nat} {v u : Int32} (h : hv_BS f n.toNat s) (t1 : t.1 = 0) (t2 : t.2.1 = 2) (hl : 1 ≤ s.length) (ei : (ix : Int) = n - 1) (eu : u = f ix) (hv : (u.toInt ≠ 0 ∧ v.toInt = 0) ∨ (u.toInt = 0 ∧ v.toInt = 1)) (e : f1 = hx_up f ix v) : hv_BS f1 n.toNat (hv_sp F t s) := by
  have hn := hv_BS_l h
  obtain ⟨a, r, rfl⟩ := hv_len1 hl
  rw [hv_sp0 t1, t2]
  rw [show n.toNat = ix + 1 by omega] at h ⊢
  obtain ⟨g0, g1⟩ := hv_BS_r h
  refine hv_BS_w g1 e ?_
  rw [← eu] at g0
  cases a with
  | true => have : hv_bi true = 1 := rfl; show v.toInt = hv_bi false; have : hv_bi false = 0 := rfl; omega
  | false => have : hv_bi true = 1 := rfl; show v.toInt = hv_bi true; have : hv_bi false = 0 := rfl; omega
theorem hv_rB {F : Nat → Int} {t : hv_tok} {s : List Bool} {f f1 : Nat → Int32} {n n1 : Int} {ix iy : Nat} {v u w : Int32} (h : hv_BS f n.toNat s) (t1 : t.1 = 0) (hl : 2 ≤ s.length) (ei : (ix : Int) = n - 2) (ey : (iy : Int) = n - 1) (eu : u = f ix) (ew : w = f iy) (hv : (t.2.1 = 1 ∧ ((u.toInt ≠ 0 ∧ w.toInt ≠ 0 ∧ v.toInt = 1) ∨ ((u.toInt = 0 ∨ w.toInt = 0) ∧ v.toInt = 0))) ∨ (t.2.1 = 0 ∧ (((u.toInt ≠ 0 ∨ w.toInt ≠ 0) ∧ v.toInt = 1) ∨ (u.toInt = 0 ∧ w.toInt = 0 ∧ v.toInt = 0)))) (e : f1 = hx_up f ix v) (e1 : n1 = n - 1) : hv_BS f1 n1.toNat (hv_sp F t s) := by
  have hn := hv_BS_l h
  obtain ⟨a, b, r, rfl⟩ := hv_len2 hl
  have hn2 : r.length + 1 + 1 = n.toNat := hn
  rw [hv_sp0 t1]
  rw [show n.toNat = (ix + 1) + 1 by omega] at h
  rw [show n1.toNat = ix + 1 by omega]
  obtain ⟨g0, g1⟩ := hv_BS_r h
  obtain ⟨g2, g3⟩ := hv_BS_r g1
  rw [show ix + 1 = iy by omega, ← ew] at g0
  rw [← eu] at g2
  have b1 : hv_bi true = 1 := rfl
  have b0 : hv_bi false = 0 := rfl
  rcases hv with ⟨z, hv⟩ | ⟨z, hv⟩
  · rw [z]
    refine hv_BS_w (c := (b && a)) g3 e ?_
    cases a <;> cases b
    · show v.toInt = hv_bi false; omega
    · show v.toInt = hv_bi false; omega
    · show v.toInt = hv_bi false; omega
    · show v.toInt = hv_bi true; omega
  · rw [z]
    refine hv_BS_w (c := (b || a)) g3 e ?_
    cases a <;> cases b
    · show v.toInt = hv_bi false; omega
    · show v.toInt = hv_bi true; omega
    · show v.toInt = hv_bi true; omega
    · show v.toInt = hv_bi true; omega
theorem hv_rE {F : Nat → Int} {o : List hv_tok} {f : Nat → Int32} {n : Int} {v : Int32} {ix : Nat} (hO : hv_OK o) (h : hv_BS f n.toNat (hv_ev F o)) (ei : ix = 0) (ev : v = f ix) : (v.toInt = 1 ∧ hv_pr F o = true) ∨ (v.toInt = 0 ∧ hv_pr F o = false) := by
  obtain ⟨tt, ht, hV⟩ := hO
  have hl := hv_ev_l (F := F) o 1 hV.1 hV.2.2
  have hn := hv_BS_l h
  unfold hv_pr
  revert h hl hn
  generalize hv_ev F o = s
  intro h hl hn
  match s, hl with
  | [a], _ =>
    rw [show n.toNat = 0 + 1 by simpa using hn.symm] at h
    obtain ⟨g0, _⟩ := hv_BS_r h
    subst ei
    rw [← ev] at g0
    cases a with
    | true => exact Or.inl ⟨g0, rfl⟩
    | false => exact Or.inr ⟨g0, rfl⟩
theorem hv_rf {tb : List hx_d} {L : List Nat} {h : hx_h} {a t ci k u : Nat} {fs : List hx_f} (hT : hx_T tb L h) (g : hx_g L h a t) (hd : tb[t]? = some (.inl (ci, fs))) (hf : fs[k]? = some (.inr (true, [u]))) : ∃ q, h.2.2 a k = some q ∧ hx_g L h q u := by
  obtain ⟨h1, h2⟩ := hT.gr g hd hf
  cases hq : h.2.2 a k with
  | none => exact absurd hq (h1 rfl)
  | some q =>
    obtain ⟨q1, q2⟩ := h2 q hq
    exact ⟨q, rfl, q1, by simpa using q2⟩
theorem hv_bitS {s x : Int} (hx : x % 8 = s) : s % 2 = x % 2 ∧ s / 2 % 2 = x / 2 % 2 ∧ s / 4 % 2 = x / 4 % 2 := by omega
theorem hv_hdA {P : Prop} {l r s x y : Int} (M : ((l < r ∧ s % 2 = 1) ∨ (l = r ∧ s / 2 % 2 = 1) ∨ (r < l ∧ s / 4 % 2 = 1)) ↔ P) (h : l < r) (hs : s % 2 = x % 2 ∧ s / 2 % 2 = x / 2 % 2 ∧ s / 4 % 2 = x / 4 % 2) (hb : y ≠ 0 ↔ x % 2 = 1) : P ↔ y ≠ 0 := by
  rw [← M, hb]; omega
theorem hv_hdB {P : Prop} {l r s x y : Int} (M : ((l < r ∧ s % 2 = 1) ∨ (l = r ∧ s / 2 % 2 = 1) ∨ (r < l ∧ s / 4 % 2 = 1)) ↔ P) (h : l = r) (hs : s % 2 = x % 2 ∧ s / 2 % 2 = x / 2 % 2 ∧ s / 4 % 2 = x / 4 % 2) (hb : y ≠ 0 ↔ x / 2 % 2 = 1) : P ↔ y ≠ 0 := by
  rw [← M, hb]; omega
theorem hv_hdC {P : Prop} {l r s x y : Int} (M : ((l < r ∧ s % 2 = 1) ∨ (l = r ∧ s / 2 % 2 = 1) ∨ (r < l ∧ s / 4 % 2 = 1)) ↔ P) (h : r < l) (hs : s % 2 = x % 2 ∧ s / 2 % 2 = x / 2 % 2 ∧ s / 4 % 2 = x / 4 % 2) (hb : y ≠ 0 ↔ x / 4 % 2 = 1) : P ↔ y ≠ 0 := by
  rw [← M, hb]; omega
end
section
/-! JUDGED -/
def hv_ki (kf : Nat → Int32) (j p : Nat) : Bool := decide (j = p) || (decide ((kf j).toInt ≠ -1) && decide ((kf j).toInt = (kf p).toInt))
def hv_ft (jf df kf : Nat → Int32) (p q j : Nat) : Bool := decide ((jf j).toInt ≠ 0) && (decide ((df j).toInt = 0) && (!hv_ki kf j p && !hv_ki kf j q))
/-- who may sit, by numbers -/
def hv_fs (jf df kf : Nat → Int32) (p q : Nat) : Nat → List Nat
  | 0 => []
  | j + 1 => if hv_ft jf df kf p q j = true then hv_fs jf df kf p q j ++ [j] else hv_fs jf df kf p q j
theorem hv_fs_b {jf df kf : Nat → Int32} {p q : Nat} : ∀ n, (hv_fs jf df kf p q n).length ≤ n
  | 0 => Nat.le_refl _
  | n + 1 => by
    have h := hv_fs_b (jf := jf) (df := df) (kf := kf) (p := p) (q := q) n
    unfold hv_fs
    split
    · rw [List.length_append]; show _ + 1 ≤ n + 1; omega
    · omega
theorem hv_gd1 {l m : List Nat} {i : Nat} (h : i < l.length) : (l ++ m).getD i 0 = l.getD i 0 := by
  rw [List.getD_eq_getElem?_getD, List.getD_eq_getElem?_getD, List.getElem?_append_left h]
theorem hv_gd2 {l : List Nat} {j : Nat} : (l ++ [j]).getD l.length 0 = j := by
  rw [List.getD_eq_getElem?_getD, List.getElem?_append_right (Nat.le_refl _), Nat.sub_self]; rfl
def hv_fl (f : Nat → Int32) (l : List Nat) : Prop := ∀ m, m < l.length → (f m).toInt = ((l.getD m 0 : Nat) : Int)
theorem hv_fl_0 {f : Nat → Int32} : hv_fl f [] := fun m h => absurd h (Nat.not_lt_zero m)
theorem hv_fl_s {f f1 : Nat → Int32} {l : List Nat} {j : Nat} {v : Int32} {ix : Nat} (h : hv_fl f l) (ei : ix = l.length) (hv : v.toInt = (j : Int)) (e : f1 = hx_up f ix v) : hv_fl f1 (l ++ [j]) := by
  intro m hm
  rw [List.length_append] at hm
  have hm : m < l.length + 1 := hm
  by_cases z : m = ix
  · subst z
    rw [e, hx_up_at, hv, ei, hv_gd2]
  · rw [e, hx_up_ne z, hv_gd1 (by omega)]
    exact h m (by omega)
theorem hv_fs_y {jf df kf : Nat → Int32} {p q : Nat} {f f1 : Nat → Int32} {k k1 m m1 : Int} {v : Int32} {ix : Nat} (h : hv_fl f (hv_fs jf df kf p q k.toNat) ∧ m = ((hv_fs jf df kf p q k.toNat).length : Int)) (hf : hv_ft jf df kf p q k.toNat = true) (h0 : 0 ≤ k) (ei : (ix : Int) = m) (hv : v.toInt = k) (e : f1 = hx_up f ix v) (e1 : k1 = k + 1) (e2 : m1 = m + 1) : hv_fl f1 (hv_fs jf df kf p q k1.toNat) ∧ m1 = ((hv_fs jf df kf p q k1.toNat).length : Int) := by
  have e3 : hv_fs jf df kf p q k1.toNat = hv_fs jf df kf p q k.toNat ++ [k.toNat] := by
    rw [show k1.toNat = k.toNat + 1 by omega]; exact if_pos hf
  rw [e3]
  refine ⟨hv_fl_s h.1 (by omega) (by omega) e, ?_⟩
  rw [List.length_append]
  show m1 = ((_ + 1 : Nat) : Int)
  omega
theorem hv_fs_n {jf df kf : Nat → Int32} {p q : Nat} {f : Nat → Int32} {k k1 m : Int} (h : hv_fl f (hv_fs jf df kf p q k.toNat) ∧ m = ((hv_fs jf df kf p q k.toNat).length : Int)) (hf : hv_ft jf df kf p q k.toNat = false) (h0 : 0 ≤ k) (e1 : k1 = k + 1) : hv_fl f (hv_fs jf df kf p q k1.toNat) ∧ m = ((hv_fs jf df kf p q k1.toNat).length : Int) := by
  have e3 : hv_fs jf df kf p q k1.toNat = hv_fs jf df kf p q k.toNat := by
    rw [show k1.toNat = k.toNat + 1 by omega]; exact if_neg (by rw [hf]; decide)
  rw [e3]; exact h
/-! of all sets of three the one at a place -/
def hv_T2 : Nat → Int
  | 0 => 0
  | n + 1 => hv_T2 n + n
def hv_T3 : Nat → Int
  | 0 => 0
  | n + 1 => hv_T3 n + hv_T2 n
theorem hv_T2_0 : ∀ n, 0 ≤ hv_T2 n
  | 0 => Int.le_refl _
  | n + 1 => by have := hv_T2_0 n; show 0 ≤ hv_T2 n + n; omega
theorem hv_T3_0 : ∀ n, 0 ≤ hv_T3 n
  | 0 => Int.le_refl _
  | n + 1 => by have := hv_T3_0 n; have := hv_T2_0 n; show 0 ≤ hv_T3 n + hv_T2 n; omega
theorem hv_T3_m {a b : Nat} (h : a ≤ b) : hv_T3 a ≤ hv_T3 b := by
  induction b with
  | zero => rw [show a = 0 by omega]; exact Int.le_refl _
  | succ b ih =>
    by_cases z : a = b + 1
    · rw [z]; exact Int.le_refl _
    · have := ih (by omega); have := hv_T2_0 b
      show hv_T3 a ≤ hv_T3 b + hv_T2 b; omega
theorem hv_T2_m {a b : Nat} (h : a ≤ b) : hv_T2 a ≤ hv_T2 b := by
  induction b with
  | zero => rw [show a = 0 by omega]; exact Int.le_refl _
  | succ b ih =>
    by_cases z : a = b + 1
    · rw [z]; exact Int.le_refl _
    · have := ih (by omega)
      show hv_T2 a ≤ hv_T2 b + b; omega
theorem hv_T3_b : (List.range 41).all (fun n => decide ((n : Int) * ((n : Int) - 1) * ((n : Int) - 2) / 6 = hv_T3 n) && (decide (n < 3 ∧ hv_T3 n = 0) || decide (3 ≤ n ∧ 1 ≤ hv_T3 n))) = true := by decide +kernel
theorem hv_T3_c {n : Int} (h0 : 0 ≤ n) (h1 : n ≤ 40) : n * (n - 1) * (n - 2) / 6 = hv_T3 n.toNat ∧ ((n < 3 ∧ hv_T3 n.toNat = 0) ∨ (3 ≤ n ∧ 1 ≤ hv_T3 n.toNat)) ∧ hv_T3 n.toNat ≤ 9880 := by
  have h := List.all_eq_true.mp hv_T3_b n.toNat (List.mem_range.mpr (by omega))
  rw [Bool.and_eq_true, Bool.or_eq_true, decide_eq_true_iff, decide_eq_true_iff, decide_eq_true_iff] at h
  have e : ((n.toNat : Nat) : Int) = n := by omega
  rw [e] at h
  refine ⟨h.1, ?_, ?_⟩
  · rcases h.2 with ⟨a, b⟩ | ⟨a, b⟩
    · exact Or.inl ⟨by omega, b⟩
    · exact Or.inr ⟨by omega, b⟩
  · have := hv_T3_m (a := n.toNat) (b := 40) (by omega)
    have : hv_T3 40 = 9880 := by decide
    omega
/-- the place of a set of three -/
def hv_ps (n a b c : Int) : Int := hv_T3 n.toNat - hv_T3 (n - a).toNat + (hv_T2 (n - a - 1).toNat - hv_T2 (n - b).toNat) + (c - b - 1)
def hv_is3 (n a b c : Int) : Prop := 0 ≤ a ∧ a < b ∧ b < c ∧ c < n
theorem hv_T3_p {m : Int} (h : 1 ≤ m) : hv_T3 m.toNat = hv_T3 (m - 1).toNat + hv_T2 (m - 1).toNat := by
  rw [show m.toNat = (m - 1).toNat + 1 by omega]; rfl
theorem hv_T2_p {m : Int} (h : 1 ≤ m) : hv_T2 m.toNat = hv_T2 (m - 1).toNat + (m - 1) := by
  rw [show m.toNat = (m - 1).toNat + 1 by omega]
  show hv_T2 (m - 1).toNat + (((m - 1).toNat : Nat) : Int) = _
  omega
theorem hv_ps_u {n a b c a' b' c' : Int} (h : hv_is3 n a b c) (h' : hv_is3 n a' b' c') (e : hv_ps n a b c = hv_ps n a' b' c') : a = a' ∧ b = b' ∧ c = c' := by
  have key : ∀ {a b c a' b' c' : Int}, hv_is3 n a b c → hv_is3 n a' b' c' → a < a' → hv_ps n a b c < hv_ps n a' b' c' := by
    intro a b c a' b' c' h h' z
    obtain ⟨x1, x2, x3, x4⟩ := h
    obtain ⟨y1, y2, y3, y4⟩ := h'
    unfold hv_ps
    have m1 := hv_T3_p (m := n - a) (by omega)
    have m2 := hv_T3_m (a := (n - a').toNat) (b := (n - a - 1).toNat) (by omega)
    have m3 := hv_T2_p (m := n - b) (by omega)
    have m4 := hv_T2_0 (n - b - 1).toNat
    have m5 := hv_T2_m (a := (n - b').toNat) (b := (n - a' - 1).toNat) (by omega)
    omega
  have key2 : ∀ {a b c b' c' : Int}, hv_is3 n a b c → hv_is3 n a b' c' → b < b' → hv_ps n a b c < hv_ps n a b' c' := by
    intro a b c b' c' h h' z
    obtain ⟨x1, x2, x3, x4⟩ := h
    obtain ⟨y1, y2, y3, y4⟩ := h'
    unfold hv_ps
    have m3 := hv_T2_p (m := n - b) (by omega)
    have m5 := hv_T2_m (a := (n - b').toNat) (b := (n - b - 1).toNat) (by omega)
    omega
  have ea : a = a' := by
    rcases (show a < a' ∨ a' < a ∨ a = a' by omega) with z | z | z
    · have := key h h' z; omega
    · have := key h' h z; omega
    · exact z
  subst ea
  have eb : b = b' := by
    rcases (show b < b' ∨ b' < b ∨ b = b' by omega) with z | z | z
    · have := key2 h h' z; omega
    · have := key2 h' h z; omega
    · exact z
  subst eb
  refine ⟨rfl, rfl, ?_⟩
  unfold hv_ps at e
  omega
theorem hv_ps_b {n a b c : Int} (h : hv_is3 n a b c) : 0 ≤ hv_ps n a b c ∧ hv_ps n a b c < hv_T3 n.toNat := by
  obtain ⟨x1, x2, x3, x4⟩ := h
  unfold hv_ps
  have m1 := hv_T3_p (m := n - a) (by omega)
  have m2 := hv_T3_m (a := (n - a).toNat) (b := n.toNat) (by omega)
  have m3 := hv_T2_p (m := n - b) (by omega)
  have m4 := hv_T2_0 (n - b - 1).toNat
  have m5 := hv_T2_m (a := (n - b).toNat) (b := (n - a - 1).toNat) (by omega)
  have m6 := hv_T3_0 (n - a - 1).toNat
  omega
/-- the three who sit -/
def hv_BN (l : List Nat) (p : Int) (b0 b1 b2 : Int32) : Prop := ∃ a b c : Int, hv_is3 (l.length : Int) a b c ∧ hv_ps (l.length : Int) a b c = p ∧ b0.toInt = ((l.getD a.toNat 0 : Nat) : Int) ∧ b1.toInt = ((l.getD b.toNat 0 : Nat) : Int) ∧ b2.toInt = ((l.getD c.toNat 0 : Nat) : Int)
theorem hv_BN_u {l : List Nat} {p : Int} {b0 b1 b2 c0 c1 c2 : Int32} (h : hv_BN l p b0 b1 b2) (h' : hv_BN l p c0 c1 c2) : b0 = c0 ∧ b1 = c1 ∧ b2 = c2 := by
  obtain ⟨a, b, c, h1, h2, h3, h4, h5⟩ := h
  obtain ⟨a', b', c', g1, g2, g3, g4, g5⟩ := h'
  obtain ⟨e1, e2, e3⟩ := hv_ps_u h1 g1 (h2.trans g2.symm)
  subst e1; subst e2; subst e3
  exact ⟨Int32.toInt_inj.mp (h3.trans g3.symm), Int32.toInt_inj.mp (h4.trans g4.symm), Int32.toInt_inj.mp (h5.trans g5.symm)⟩
/-- as the reference goes through them -/
def hv_DB (N p : Int) (sf bf0 bf : Nat → Int32) (c : Nat) (at' : Int) : Prop := (0 ≤ at' ∧ bf = bf0) ∨ (at' < 0 ∧ ∃ x y z : Int, hv_is3 N x y z ∧ hv_ps N x y z = p ∧ bf = hx_up (hx_up (hx_up bf0 (3 * c) (sf x.toNat)) (3 * c + 1) (sf y.toNat)) (3 * c + 2) (sf z.toNat))
theorem hv_DB_n {N p : Int} {sf bf0 bf : Nat → Int32} {c : Nat} {k k1 : Int} (h : hv_DB N p sf bf0 bf c k) (hk : k ≠ 0) (e : k1 = k - 1) : hv_DB N p sf bf0 bf c k1 := by
  rcases h with ⟨a, b⟩ | ⟨a, b⟩
  · exact Or.inl ⟨by omega, b⟩
  · exact Or.inr ⟨by omega, b⟩
theorem hv_DB_y {N p : Int} {sf bf0 bf f1 f2 f3 : Nat → Int32} {c : Nat} {k k1 x y z : Int} {i1 i2 i3 j1 j2 j3 : Nat} {v1 v2 v3 : Int32} (h : hv_DB N p sf bf0 bf c k) (hk : k = 0) (e : k1 = k - 1) (h3 : hv_is3 N x y z) (hp : hv_ps N x y z = p) (d1 : f1 = hx_up bf i1 v1) (d2 : f2 = hx_up f1 i2 v2) (d3 : f3 = hx_up f2 i3 v3) (e1 : i1 = 3 * c) (e2 : i2 = 3 * c + 1) (e3 : i3 = 3 * c + 2) (s1 : v1 = sf j1) (s2 : v2 = sf j2) (s3 : v3 = sf j3) (q1 : (j1 : Int) = x) (q2 : (j2 : Int) = y) (q3 : (j3 : Int) = z) : hv_DB N p sf bf0 f3 c k1 := by
  rcases h with ⟨a, b⟩ | ⟨a, b⟩
  · refine Or.inr ⟨by omega, x, y, z, h3, hp, ?_⟩
    rw [d3, d2, d1, b, e1, e2, e3, s1, s2, s3, show x.toNat = j1 by omega, show y.toNat = j2 by omega, show z.toNat = j3 by omega]
  · exfalso; omega
theorem hv_DB_e {N p : Int} {sf bf0 bf : Nat → Int32} {c : Nat} {k : Int} {l : List Nat} (h : hv_DB N p sf bf0 bf c k) (hk : k < 0) (hf : hv_fl sf l) (hN : N = (l.length : Int)) : ∃ b0 b1 b2 : Int32, hv_BN l p b0 b1 b2 ∧ bf = hx_up (hx_up (hx_up bf0 (3 * c) b0) (3 * c + 1) b1) (3 * c + 2) b2 := by
  rcases h with ⟨a, b⟩ | ⟨a, x, y, z, h3, hp, e⟩
  · exfalso; omega
  · subst hN
    obtain ⟨x1, x2, x3, x4⟩ := id h3
    exact ⟨_, _, _, ⟨x, y, z, h3, hp, hf _ (by omega), hf _ (by omega), hf _ (by omega)⟩, e⟩
/-! the sum of a SPLIT -/
def hv_sq (byf agf flf : Nat → Int32) (b a f : Int) (k : Nat) : Bool := decide ((byf k).toInt = b ∧ (agf k).toInt = a ∧ f ≤ (flf k).toInt)
def hv_sm (byf agf flf smf : Nat → Int32) (b a f : Int) : Nat → Int
  | 0 => 0
  | k + 1 => if hv_sq byf agf flf b a f k = true then hv_sm byf agf flf smf b a f k + (smf k).toInt else hv_sm byf agf flf smf b a f k
def hv_sct (byf agf flf : Nat → Int32) (b a f : Int) : Nat → Int
  | 0 => 0
  | k + 1 => if hv_sq byf agf flf b a f k = true then hv_sct byf agf flf b a f k + 1 else hv_sct byf agf flf b a f k
section HVSM
variable {byf agf flf smf : Nat → Int32} {b a f : Int}
theorem hv_sm_y {k k1 s s1 : Int} {v : Int32} {ix : Nat} (h : s = hv_sm byf agf flf smf b a f k.toNat) (hq : hv_sq byf agf flf b a f k.toNat = true) (h0 : 0 ≤ k) (ei : (ix : Int) = k) (ev : v = smf ix) (es : s1 = s + v.toInt) (e1 : k1 = k + 1) : s1 = hv_sm byf agf flf smf b a f k1.toNat := by
  rw [show k1.toNat = k.toNat + 1 by omega]
  show s1 = (if hv_sq byf agf flf b a f k.toNat = true then hv_sm byf agf flf smf b a f k.toNat + (smf k.toNat).toInt else hv_sm byf agf flf smf b a f k.toNat)
  rw [if_pos hq, ← h, es, ev, show ix = k.toNat by omega]
theorem hv_sm_n {k k1 s : Int} (h : s = hv_sm byf agf flf smf b a f k.toNat) (hq : hv_sq byf agf flf b a f k.toNat = false) (h0 : 0 ≤ k) (e1 : k1 = k + 1) : s = hv_sm byf agf flf smf b a f k1.toNat := by
  rw [show k1.toNat = k.toNat + 1 by omega]
  show s = (if hv_sq byf agf flf b a f k.toNat = true then hv_sm byf agf flf smf b a f k.toNat + (smf k.toNat).toInt else hv_sm byf agf flf smf b a f k.toNat)
  rw [if_neg (by rw [hq]; decide)]; exact h
theorem hv_sct_y {k k1 s s1 : Int} (h : s = hv_sct byf agf flf b a f k.toNat) (hq : hv_sq byf agf flf b a f k.toNat = true) (h0 : 0 ≤ k) (es : s1 = s + 1) (e1 : k1 = k + 1) : s1 = hv_sct byf agf flf b a f k1.toNat := by
  rw [show k1.toNat = k.toNat + 1 by omega]
  show s1 = (if hv_sq byf agf flf b a f k.toNat = true then hv_sct byf agf flf b a f k.toNat + 1 else hv_sct byf agf flf b a f k.toNat)
  rw [if_pos hq, ← h, es]
theorem hv_sct_n {k k1 s : Int} (h : s = hv_sct byf agf flf b a f k.toNat) (hq : hv_sq byf agf flf b a f k.toNat = false) (h0 : 0 ≤ k) (e1 : k1 = k + 1) : s = hv_sct byf agf flf b a f k1.toNat := by
  rw [show k1.toNat = k.toNat + 1 by omega]
  show s = (if hv_sq byf agf flf b a f k.toNat = true then hv_sct byf agf flf b a f k.toNat + 1 else hv_sct byf agf flf b a f k.toNat)
  rw [if_neg (by rw [hq]; decide)]; exact h
theorem hv_sq_t {k : Nat} : hv_sq byf agf flf b a f k = true ↔ (byf k).toInt = b ∧ (agf k).toInt = a ∧ f ≤ (flf k).toInt := decide_eq_true_iff
theorem hv_sq_f {k : Nat} (h : ¬ ((byf k).toInt = b ∧ (agf k).toInt = a ∧ f ≤ (flf k).toInt)) : hv_sq byf agf flf b a f k = false := decide_eq_false h
theorem hv_sct_0 : ∀ k, 0 ≤ hv_sct byf agf flf b a f k
  | 0 => Int.le_refl _
  | k + 1 => by
    have := hv_sct_0 k
    unfold hv_sct
    split <;> omega
theorem hv_sct_z : ∀ k, hv_sct byf agf flf b a f k = 0 → hv_sm byf agf flf smf b a f k = 0
  | 0, _ => rfl
  | k + 1, h => by
    have h0 := hv_sct_0 (byf := byf) (agf := agf) (flf := flf) (b := b) (a := a) (f := f) k
    have h2 := hv_sct_z k
    unfold hv_sct at h
    unfold hv_sm
    split at h
    · exfalso; omega
    · next z => rw [if_neg z]; exact h2 h
theorem hv_sct_p {c : Nat} (hq : hv_sq byf agf flf b a f c = true) : ∀ k, c < k → 1 ≤ hv_sct byf agf flf b a f k
  | 0, h => absurd h (Nat.not_lt_zero c)
  | k + 1, h => by
    have h0 := hv_sct_0 (byf := byf) (agf := agf) (flf := flf) (b := b) (a := a) (f := f) k
    have h2 := hv_sct_p hq k
    unfold hv_sct
    by_cases z : c = k
    · subst z; rw [if_pos hq]; omega
    · have := h2 (by omega)
      split <;> omega
theorem hv_sct_1 {c : Nat} (hq : hv_sq byf agf flf b a f c = true) : ∀ k, c < k → hv_sct byf agf flf b a f k ≤ 1 → hv_sm byf agf flf smf b a f k = (smf c).toInt
  | 0, h, _ => absurd h (Nat.not_lt_zero c)
  | k + 1, h, h1 => by
    have h0 := hv_sct_0 (byf := byf) (agf := agf) (flf := flf) (b := b) (a := a) (f := f) k
    have h2 := hv_sct_1 hq k
    have h3 := hv_sct_p (byf := byf) (agf := agf) (flf := flf) (b := b) (a := a) (f := f) hq k
    unfold hv_sct at h1
    unfold hv_sm
    by_cases z : c = k
    · subst z
      rw [if_pos hq] at h1 ⊢
      rw [hv_sct_z (smf := smf) c (by omega)]; omega
    · have h4 := h3 (by omega)
      by_cases y : hv_sq byf agf flf b a f k = true
      · rw [if_pos y] at h1; exfalso; omega
      · rw [if_neg y] at h1 ⊢
        exact h2 (by omega) h1
end HVSM
/-- what a claim is judged by an act -/
def hv_jg (F R : Nat → Int) (o : List hv_tok) (fr bo su sp : Int) : Int := if fr - bo < 365 * R 8 then 1 else if R 0 < su then 2 else if R 0 < sp then 3 else if hv_pr F o = true then 5 else 4
theorem hv_jg_1 {F R : Nat → Int} {o : List hv_tok} {fr bo su sp r : Int} (h : fr - bo < 365 * R 8) (e : r = 1) : r = hv_jg F R o fr bo su sp := by
  unfold hv_jg; rw [if_pos h]; exact e
theorem hv_jg_2 {F R : Nat → Int} {o : List hv_tok} {fr bo su sp r : Int} (h : ¬ fr - bo < 365 * R 8) (h2 : R 0 < su) (e : r = 2) : r = hv_jg F R o fr bo su sp := by
  unfold hv_jg; rw [if_neg h, if_pos h2]; exact e
theorem hv_jg_3 {F R : Nat → Int} {o : List hv_tok} {fr bo su sp r : Int} (h : ¬ fr - bo < 365 * R 8) (h2 : ¬ R 0 < su) (h3 : R 0 < sp) (e : r = 3) : r = hv_jg F R o fr bo su sp := by
  unfold hv_jg; rw [if_neg h, if_neg h2, if_pos h3]; exact e
theorem hv_jg_4 {F R : Nat → Int} {o : List hv_tok} {fr bo su sp r : Int} (h : ¬ fr - bo < 365 * R 8) (h2 : ¬ R 0 < su) (h3 : ¬ R 0 < sp) (hp : (r = 5 ∧ hv_pr F o = true) ∨ (r = 4 ∧ hv_pr F o = false)) : r = hv_jg F R o fr bo su sp := by
  unfold hv_jg; rw [if_neg h, if_neg h2, if_neg h3]
  rcases hp with ⟨a, b⟩ | ⟨a, b⟩
  · rw [if_pos b]; exact a
  · rw [if_neg (by rw [b]; decide)]; exact a
end
section
/-! CLAIMS AND THEIR ACTS, THEIR FACTS, THEIR BENCHES -/
def hv_AC (h : hx_h) (qc : Nat) (plf : Nat → Int32) (n : Int) (A : Nat → hv_act) : Prop := ∀ c : Nat, c < 100 → (c : Int) < n → ∀ o a, h.2.2 qc c = some o → h.2.2 o 3 = some a → 0 ≤ (plf c).toInt ∧ hv_AQ h a ((plf c).toInt - 1) (A (plf c).toInt.toNat)
/-- the arrays of so many numbers that the claims hold at a place -/
def hv_FX (w kf : Nat) (h : hx_h) (qc : Nat) (F : Nat → Int32) (n : Int) : Prop := (∀ c : Nat, c < 100 → (c : Int) < n → ∀ o t, h.2.2 qc c = some o → h.2.2 o kf = some t → ∀ k, k < w → h.2.1 t k = F (k + w * c)) ∧ ∀ c c' : Nat, c < 100 → c' < 100 → (c : Int) < n → (c' : Int) < n → ∀ o o' t, h.2.2 qc c = some o → h.2.2 qc c' = some o' → h.2.2 o kf = some t → h.2.2 o' kf = some t → c = c'
def hv_NF (kf : Nat) (h : hx_h) (qc t : Nat) (n : Int) : Prop := ∀ c : Nat, c < 100 → (c : Int) < n → ∀ o t', h.2.2 qc c = some o → h.2.2 o kf = some t' → t' ≠ t
section HVAC
variable {tb : List hx_d} {M : hx_m} {L L1 : List Nat} {h h1 : hx_h} {qc tc t0 ci ci2 x t9 tt tp : Nat} {nn b2 b3 b4 : Bool} {fs fs2 : List hx_f} {n : Int} {A : Nat → hv_act} {plf : Nat → Int32}
theorem hv_AQ_S {q : Nat} {m : Int} {a : hv_act} (hs : hx_S tb M L h L1 h1) (hT : hx_T tb L h) (g : hx_g L h q 0) (h0 : tb[0]? = some (.inl (ci, fs))) (f2 : fs[2]? = some (.inr (b2, [tt]))) (f3 : fs[3]? = some (.inr (b3, [tp]))) (m0 : M.any (fun q => q.1 == 0) = false) (mt : M.any (fun q => q.1 == tt) = false) (mp : M.any (fun q => q.1 == tp) = false) (H : hv_AQ h q m a) : hv_AQ h1 q m a := by
  have e := fun j => hs.all g m0 j
  refine hv_AQ_c H (e 0).1 (e 1).1 (e 4).1 (e 2).2 (e 3).2 (fun t ht => ?_) (fun p hp => ?_)
  · obtain ⟨a1, a2⟩ := (hT.gr g h0 f2).2 t ht
    have gt : hx_g L h t tt := ⟨a1, by simpa using a2⟩
    exact funext fun j => (hs.all gt mt j).1
  · obtain ⟨a1, a2⟩ := (hT.gr g h0 f3).2 p hp
    have gt : hx_g L h p tp := ⟨a1, by simpa using a2⟩
    exact funext fun j => (hs.all gt mp j).1
theorem hv_AQ_X {q : Nat} {m : Int} {a : hv_act} (hs : hx_S tb M (hx_X L x) h L1 h1) (hT : hx_T tb L h) (g : hx_g (hx_X L x) h q 0) (gx : hx_g L h x t9) (h0 : tb[0]? = some (.inl (ci, fs))) (f2 : fs[2]? = some (.inr (b2, [tt]))) (f3 : fs[3]? = some (.inr (b3, [tp]))) (m0 : M.any (fun q => q.1 == 0) = false) (mt : M.any (fun q => q.1 == tt) = false) (mp : M.any (fun q => q.1 == tp) = false) (ne : ((0 : Nat) ≠ t9 ∧ tt ≠ t9) ∧ tp ≠ t9) (H : hv_AQ h q m a) : hv_AQ h1 q m a := by
  have e := fun j => hs.all g m0 j
  have g' : hx_g L h q 0 := ⟨(hx_X_m.mp g.1).1, g.2⟩
  refine hv_AQ_c H (e 0).1 (e 1).1 (e 4).1 (e 2).2 (e 3).2 (fun t ht => ?_) (fun p hp => ?_)
  · obtain ⟨a1, a2⟩ := (hT.gr g' h0 f2).2 t ht
    have a3 : h.1 t = tt := by simpa using a2
    have gt : hx_g (hx_X L x) h t tt := ⟨hx_X_m.mpr ⟨a1, fun z => ne.1.2 (by rw [← a3, z, gx.2])⟩, a3⟩
    exact funext fun j => (hs.all gt mt j).1
  · obtain ⟨a1, a2⟩ := (hT.gr g' h0 f3).2 p hp
    have a3 : h.1 p = tp := by simpa using a2
    have gt : hx_g (hx_X L x) h p tp := ⟨hx_X_m.mpr ⟨a1, fun z => ne.2 (by rw [← a3, z, gx.2])⟩, a3⟩
    exact funext fun j => (hs.all gt mp j).1
theorem hv_AC_S (hs : hx_S tb M L h L1 h1) (hT : hx_T tb L h) (gc : hx_g L h qc tc) (hd : tb[tc]? = some (.inr (t0, 100, .inr (nn, [2])))) (h2 : tb[2]? = some (.inl (ci2, fs2))) (f23 : fs2[3]? = some (.inr (b4, [0]))) (h0 : tb[0]? = some (.inl (ci, fs))) (f2 : fs[2]? = some (.inr (b2, [tt]))) (f3 : fs[3]? = some (.inr (b3, [tp]))) (mc : M.any (fun q => q.1 == tc) = false) (m23 : M.contains (2, 3) = false) (m0 : M.any (fun q => q.1 == 0) = false) (mt : M.any (fun q => q.1 == tt) = false) (mp : M.any (fun q => q.1 == tp) = false) (H : hv_AC h qc plf n A) : hv_AC h1 qc plf n A := by
  intro c hc hcn o a fo fa
  rw [(hs.a gc mc c).2] at fo
  obtain ⟨c1, c2⟩ := (hT.er gc hd (k := c) hc).2 o fo
  have go : hx_g L h o 2 := ⟨c1, by simpa using c2⟩
  rw [(hs.o (k := 3) go (by rw [h2]; trivial) m23).2] at fa
  obtain ⟨d1, d2⟩ := (hT.gr go h2 f23).2 a fa
  have ga : hx_g L h a 0 := ⟨d1, by simpa using d2⟩
  obtain ⟨e1, e2⟩ := H c hc hcn o a fo fa
  exact ⟨e1, hv_AQ_S hs hT ga h0 f2 f3 m0 mt mp e2⟩
theorem hv_AC_X (hs : hx_S tb M (hx_X L x) h L1 h1) (hT : hx_T tb L h) (gc : hx_g (hx_X L x) h qc tc) (gx : hx_g L h x t9) (hd : tb[tc]? = some (.inr (t0, 100, .inr (nn, [2])))) (h2 : tb[2]? = some (.inl (ci2, fs2))) (f23 : fs2[3]? = some (.inr (b4, [0]))) (h0 : tb[0]? = some (.inl (ci, fs))) (f2 : fs[2]? = some (.inr (b2, [tt]))) (f3 : fs[3]? = some (.inr (b3, [tp]))) (mc : M.any (fun q => q.1 == tc) = false) (m23 : M.contains (2, 3) = false) (m0 : M.any (fun q => q.1 == 0) = false) (mt : M.any (fun q => q.1 == tt) = false) (mp : M.any (fun q => q.1 == tp) = false) (ne : ((0 : Nat) ≠ t9 ∧ tt ≠ t9) ∧ tp ≠ t9) (ne2 : (2 : Nat) ≠ t9) (H : hv_AC h qc plf n A) : hv_AC h1 qc plf n A := by
  intro c hc hcn o a fo fa
  rw [(hs.a gc mc c).2] at fo
  obtain ⟨c1, c2⟩ := (hT.er ⟨(hx_X_m.mp gc.1).1, gc.2⟩ hd (k := c) hc).2 o fo
  have c3 : h.1 o = 2 := by simpa using c2
  have go : hx_g (hx_X L x) h o 2 := ⟨hx_X_m.mpr ⟨c1, fun z => ne2 (by rw [← c3, z, gx.2])⟩, c3⟩
  rw [(hs.o (k := 3) go (by rw [h2]; trivial) m23).2] at fa
  obtain ⟨d1, d2⟩ := (hT.gr ⟨c1, c3⟩ h2 f23).2 a fa
  have d3 : h.1 a = 0 := by simpa using d2
  have ga : hx_g (hx_X L x) h a 0 := ⟨hx_X_m.mpr ⟨d1, fun z => ne.1.1 (by rw [← d3, z, gx.2])⟩, d3⟩
  obtain ⟨e1, e2⟩ := H c hc hcn o a fo fa
  exact ⟨e1, hv_AQ_X hs hT ga gx h0 f2 f3 m0 mt mp ne e2⟩
theorem hv_AC_0 (z : ∀ j, h.2.1 qc j = 0 ∧ h.2.2 qc j = none) : hv_AC h qc plf n A := fun c _ _ o a fo _ => by
  rw [(z c).2] at fo; cases fo
/-- one more claim -/
theorem hv_AC_c {p a0 : Nat} {m : Int} {i j : Int32} (H : hv_AC h qc plf n A) (hT : hx_T tb L h) (gc : hx_g L h qc tc) (gq : hx_g L h p 2) (hd : tb[tc]? = some (.inr (t0, 100, .inr (nn, [2])))) (h2 : tb[2]? = some (.inl (ci2, fs2))) (f23 : fs2[3]? = some (.inr (b4, [0]))) (ne : (2 : Nat) ≠ tc ∧ (0 : Nat) ≠ tc) (eh : h1 = hx_pr h qc i.toNatClampNeg (some p)) (h0 : 0 ≤ i.toInt) (hi : i.toInt = n) (fa0 : h.2.2 p 3 = some a0) (j0 : 0 ≤ j.toInt) (hq : hv_AQ h a0 (j.toInt - 1) (A j.toInt.toNat)) (hm : m = n + 1) : hv_AC h1 qc (hx_up plf n.toNat j) m A := by
  have e1 : i.toNatClampNeg = n.toNat := by unfold Int32.toNatClampNeg; omega
  subst eh; subst hm
  rw [e1]
  have key : ∀ (q : Nat) (m : Int) (a : hv_act), hx_g L h q 0 → hv_AQ h q m a → hv_AQ (hx_pr h qc n.toNat (some p)) q m a := by
    intro q m a g H
    have nq : q ≠ qc := fun z => ne.2 (by rw [← g.2, z, gc.2])
    exact hv_AQ_c H rfl rfl rfl (hx_pr_ne h (some p) (fun z => nq z.1)) (hx_pr_ne h (some p) (fun z => nq z.1)) (fun _ _ => rfl) (fun _ _ => rfl)
  intro c hc hcn o a fo fa
  by_cases z : c = n.toNat
  · subst z
    rw [hx_pr_at] at fo
    cases fo
    have q2 : p ≠ qc := fun z => ne.1 (by rw [← gq.2, z, gc.2])
    rw [hx_pr_ne h (some p) (fun z => q2 z.1), fa0] at fa
    cases fa
    rw [hx_up_at]
    obtain ⟨d1, d2⟩ := (hT.gr gq h2 f23).2 a0 fa0
    exact ⟨j0, key _ _ _ ⟨d1, by simpa using d2⟩ hq⟩
  · rw [hx_pr_ne h (some p) (fun w => z w.2)] at fo
    obtain ⟨c1, c2⟩ := (hT.er gc hd (k := c) hc).2 o fo
    have c3 : h.1 o = 2 := by simpa using c2
    have q2 : o ≠ qc := fun z => ne.1 (by rw [← c3, z, gc.2])
    rw [hx_pr_ne h (some p) (fun z => q2 z.1)] at fa
    obtain ⟨d1, d2⟩ := (hT.gr ⟨c1, c3⟩ h2 f23).2 a fa
    obtain ⟨e1, e2⟩ := H c hc (by omega) o a fo fa
    rw [hx_up_ne z]
    exact ⟨e1, key _ _ _ ⟨d1, by simpa using d2⟩ e2⟩
/-- one more act changes nothing of the claims' -/
theorem hv_AC_a {A1 : Nat → hv_act} {a0 : Int} (H : hv_AC h qc plf n A) (hp : ∀ c : Nat, (c : Int) < n → (plf c).toInt ≤ a0) (e : ∀ k : Nat, (k : Int) ≤ a0 → A1 k = A k) : hv_AC h qc plf n A1 := fun c hc hcn o a fo fa => by
  obtain ⟨e1, e2⟩ := H c hc hcn o a fo fa
  have := hp c hcn
  rw [e _ (by omega)]
  exact ⟨e1, e2⟩
theorem hv_AC_e {f g : Nat → Int32} {m : Int} {A1 : Nat → hv_act} (H : hv_AC h qc f n A) (e : f = g) (en : n = m) (ea : A = A1) : hv_AC h qc g m A1 := by
  subst e; subst en; subst ea; exact H
variable {w kf tf : Nat} {F : Nat → Int32}
theorem hv_FX_S (hs : hx_S tb M L h L1 h1) (hT : hx_T tb L h) (gc : hx_g L h qc tc) (hd : tb[tc]? = some (.inr (t0, 100, .inr (nn, [2])))) (h2 : tb[2]? = some (.inl (ci2, fs2))) (f2 : fs2[kf]? = some (.inr (b4, [tf]))) (mc : M.any (fun q => q.1 == tc) = false) (mk : M.contains (2, kf) = false) (mf : M.any (fun q => q.1 == tf) = false) (H : hv_FX w kf h qc F n) : hv_FX w kf h1 qc F n := by
  have key : ∀ c : Nat, c < 100 → ∀ o t, h1.2.2 qc c = some o → h1.2.2 o kf = some t → h.2.2 qc c = some o ∧ h.2.2 o kf = some t ∧ hx_g L h t tf := by
    intro c hc o t fo ft
    rw [(hs.a gc mc c).2] at fo
    obtain ⟨c1, c2⟩ := (hT.er gc hd (k := c) hc).2 o fo
    have go : hx_g L h o 2 := ⟨c1, by simpa using c2⟩
    rw [(hs.o (k := kf) go (by rw [h2]; trivial) mk).2] at ft
    obtain ⟨d1, d2⟩ := (hT.gr go h2 f2).2 t ft
    exact ⟨fo, ft, d1, by simpa using d2⟩
  refine ⟨fun c hc hcn o t fo ft k hk => ?_, fun c c' hc hc' hn hn' o o' t fo fo' ft ft' => ?_⟩
  · obtain ⟨a, b, g⟩ := key c hc o t fo ft
    rw [(hs.a g mf k).1]
    exact H.1 c hc hcn o t a b k hk
  · obtain ⟨a, b, _⟩ := key c hc o t fo ft
    obtain ⟨a', b', _⟩ := key c' hc' o' t fo' ft'
    exact H.2 c c' hc hc' hn hn' o o' t a a' b b'
theorem hv_FX_X (hs : hx_S tb M (hx_X L x) h L1 h1) (hT : hx_T tb L h) (gc : hx_g (hx_X L x) h qc tc) (gx : hx_g L h x t9) (hd : tb[tc]? = some (.inr (t0, 100, .inr (nn, [2])))) (h2 : tb[2]? = some (.inl (ci2, fs2))) (f2 : fs2[kf]? = some (.inr (b4, [tf]))) (mc : M.any (fun q => q.1 == tc) = false) (mk : M.contains (2, kf) = false) (mf : M.any (fun q => q.1 == tf) = false) (ne : (2 : Nat) ≠ t9 ∧ tf ≠ t9) (H : hv_FX w kf h qc F n) : hv_FX w kf h1 qc F n := by
  have key : ∀ c : Nat, c < 100 → ∀ o t, h1.2.2 qc c = some o → h1.2.2 o kf = some t → h.2.2 qc c = some o ∧ h.2.2 o kf = some t ∧ hx_g (hx_X L x) h t tf := by
    intro c hc o t fo ft
    rw [(hs.a gc mc c).2] at fo
    obtain ⟨c1, c2⟩ := (hT.er ⟨(hx_X_m.mp gc.1).1, gc.2⟩ hd (k := c) hc).2 o fo
    have c3 : h.1 o = 2 := by simpa using c2
    have go : hx_g (hx_X L x) h o 2 := ⟨hx_X_m.mpr ⟨c1, fun z => ne.1 (by rw [← c3, z, gx.2])⟩, c3⟩
    rw [(hs.o (k := kf) go (by rw [h2]; trivial) mk).2] at ft
    obtain ⟨d1, d2⟩ := (hT.gr ⟨c1, c3⟩ h2 f2).2 t ft
    have d3 : h.1 t = tf := by simpa using d2
    exact ⟨fo, ft, hx_X_m.mpr ⟨d1, fun z => ne.2 (by rw [← d3, z, gx.2])⟩, d3⟩
  refine ⟨fun c hc hcn o t fo ft k hk => ?_, fun c c' hc hc' hn hn' o o' t fo fo' ft ft' => ?_⟩
  · obtain ⟨a, b, g⟩ := key c hc o t fo ft
    rw [(hs.a g mf k).1]
    exact H.1 c hc hcn o t a b k hk
  · obtain ⟨a, b, _⟩ := key c hc o t fo ft
    obtain ⟨a', b', _⟩ := key c' hc' o' t fo' ft'
    exact H.2 c c' hc hc' hn hn' o o' t a a' b b'
theorem hv_FX_0 (z : ∀ j, h.2.1 qc j = 0 ∧ h.2.2 qc j = none) : hv_FX w kf h qc F n := by
  refine ⟨fun c _ _ o t fo _ => ?_, fun c _ _ _ _ _ o _ t fo _ _ _ => ?_⟩
  · rw [(z c).2] at fo; cases fo
  · rw [(z c).2] at fo; cases fo
theorem hv_FX_e {f g : Nat → Int32} {m : Int} (H : hv_FX w kf h qc f n) (e : f = g) (en : n = m) : hv_FX w kf h qc g m := by
  subst e; subst en; exact H
/-- a number of one claim's is told anew -/
theorem hv_FX_u {c o t k : Nat} {v : Int32} (H : hv_FX w kf h qc F n) (hT : hx_T tb L h) (gc : hx_g L h qc tc) (gt : hx_g L h t tf) (ne : tf ≠ tc ∧ (2 : Nat) ≠ tf) (hd : tb[tc]? = some (.inr (t0, 100, .inr (nn, [2])))) (hc : c < 100) (hcn : (c : Int) < n) (fo : h.2.2 qc c = some o) (ft : h.2.2 o kf = some t) (hk : k < w) (eh : h1 = hx_pi h t k v) : hv_FX w kf h1 qc (hx_up F (k + w * c) v) n := by
  subst eh
  refine ⟨fun c1 hc1 hn1 o1 t1 fo1 ft1 k1 hk1 => ?_, fun c1 c' hc1 hc' hn hn' o1 o' t1 fo1 fo' ft1 ft' => H.2 c1 c' hc1 hc' hn hn' o1 o' t1 fo1 fo' ft1 ft'⟩
  replace fo1 : h.2.2 qc c1 = some o1 := fo1
  replace ft1 : h.2.2 o1 kf = some t1 := ft1
  by_cases z : t1 = t
  · subst z
    have e := H.2 c1 c hc1 hc hn1 hcn o1 o t1 fo1 fo ft1 ft
    subst e
    by_cases y : k1 = k
    · subst y; rw [hx_pi_at, hx_up_at]
    · rw [hx_pi_ne _ _ (fun q => y q.2), hx_up_ne (by omega)]
      exact H.1 c1 hc1 hn1 o1 t1 fo1 ft1 k1 hk1
  · rw [hx_pi_ne _ _ (fun q => z q.1)]
    rw [hx_up_ne (fun q => z (by
      have : c1 = c ∧ k1 = k := by
        have e1 : (k1 + w * c1) % w = k1 := by rw [Nat.add_mul_mod_self_left]; exact Nat.mod_eq_of_lt hk1
        have e2 : (k + w * c) % w = k := by rw [Nat.add_mul_mod_self_left]; exact Nat.mod_eq_of_lt hk
        have e3 : k1 = k := by rw [← e1, q, e2]
        subst e3
        have e4 : w * c1 = w * c := by omega
        exact ⟨Nat.eq_of_mul_eq_mul_left (by omega) e4, rfl⟩
      obtain ⟨rfl, rfl⟩ := this
      rw [fo] at fo1
      cases fo1
      rw [ft] at ft1
      cases ft1; rfl))]
    exact H.1 c1 hc1 hn1 o1 t1 fo1 ft1 k1 hk1
/-- one more claim -/
theorem hv_FX_c {p t : Nat} {m : Int} {i : Int32} {G : Nat → Int32} (H : hv_FX w kf h qc F n) (hN : hv_NF kf h qc t n) (hT : hx_T tb L h) (gc : hx_g L h qc tc) (gq : hx_g L h p 2) (hd : tb[tc]? = some (.inr (t0, 100, .inr (nn, [2])))) (ne : (2 : Nat) ≠ tc) (eh : h1 = hx_pr h qc i.toNatClampNeg (some p)) (h0 : 0 ≤ i.toInt) (hi : i.toInt = n) (ft0 : h.2.2 p kf = some t) (hG : ∀ k, k < w → h.2.1 t k = G (k + w * n.toNat)) (hF : ∀ c k : Nat, (c : Int) < n → k < w → G (k + w * c) = F (k + w * c)) (hm : m = n + 1) : hv_FX w kf h1 qc G m := by
  have e1 : i.toNatClampNeg = n.toNat := by unfold Int32.toNatClampNeg; omega
  subst eh; subst hm
  rw [e1]
  have key : ∀ c : Nat, c < 100 → (c : Int) < n + 1 → ∀ o t1, (hx_pr h qc n.toNat (some p)).2.2 qc c = some o → (hx_pr h qc n.toNat (some p)).2.2 o kf = some t1 → (c = n.toNat ∧ o = p ∧ t1 = t) ∨ ((c : Int) < n ∧ h.2.2 qc c = some o ∧ h.2.2 o kf = some t1) := by
    intro c hc hcn o t1 fo ft
    by_cases z : c = n.toNat
    · subst z
      rw [hx_pr_at] at fo
      cases fo
      have q2 : p ≠ qc := fun z => ne (by rw [← gq.2, z, gc.2])
      rw [hx_pr_ne h (some p) (fun z => q2 z.1), ft0] at ft
      cases ft
      exact Or.inl ⟨rfl, rfl, rfl⟩
    · rw [hx_pr_ne h (some p) (fun w => z w.2)] at fo
      obtain ⟨c1, c2⟩ := (hT.er gc hd (k := c) hc).2 o fo
      have c3 : h.1 o = 2 := by simpa using c2
      have q2 : o ≠ qc := fun z => ne (by rw [← c3, z, gc.2])
      rw [hx_pr_ne h (some p) (fun z => q2 z.1)] at ft
      exact Or.inr ⟨by omega, fo, ft⟩
  refine ⟨fun c hc hcn o t1 fo ft k hk => ?_, fun c c' hc hc' hn hn' o o' t1 fo fo' ft ft' => ?_⟩
  · show h.2.1 t1 k = _
    rcases key c hc hcn o t1 fo ft with ⟨a, b, d⟩ | ⟨a, b, d⟩
    · subst a; subst d; exact hG k hk
    · rw [hF c k a hk]; exact H.1 c hc a o t1 b d k hk
  · rcases key c hc hn o t1 fo ft with ⟨a, b, d⟩ | ⟨a, b, d⟩ <;> rcases key c' hc' hn' o' t1 fo' ft' with ⟨a', b', d'⟩ | ⟨a', b', d'⟩
    · rw [a, a']
    · exact absurd d (hN c' hc' a' o' t1 b' d')
    · exact absurd d' (hN c hc a o t1 b d)
    · exact H.2 c c' hc hc' a a' o o' t1 b b' d d'
theorem hv_NF_S {t : Nat} (hs : hx_S tb M L h L1 h1) (hT : hx_T tb L h) (gc : hx_g L h qc tc) (hd : tb[tc]? = some (.inr (t0, 100, .inr (nn, [2])))) (h2 : tb[2]? = some (.inl (ci2, fs2))) (mc : M.any (fun q => q.1 == tc) = false) (mk : M.contains (2, kf) = false) (H : hv_NF kf h qc t n) : hv_NF kf h1 qc t n := by
  intro c hc hcn o t1 fo ft
  rw [(hs.a gc mc c).2] at fo
  obtain ⟨c1, c2⟩ := (hT.er gc hd (k := c) hc).2 o fo
  have go : hx_g L h o 2 := ⟨c1, by simpa using c2⟩
  rw [(hs.o (k := kf) go (by rw [h2]; trivial) mk).2] at ft
  exact H c hc hcn o t1 fo ft
/-- a new cell is none of theirs -/
theorem hv_NF_i {t : Nat} (hs : hx_S tb M (hx_X L x) h L1 h1) (hT : hx_T tb L h) (gc : hx_g (hx_X L x) h qc tc) (gx : hx_g L h x t9) (hd : tb[tc]? = some (.inr (t0, 100, .inr (nn, [2])))) (h2 : tb[2]? = some (.inl (ci2, fs2))) (f2 : fs2[kf]? = some (.inr (b4, [tf]))) (mc : M.any (fun q => q.1 == tc) = false) (mk : M.contains (2, kf) = false) (ne : (2 : Nat) ≠ t9 ∧ tf ≠ t9) (hf : ∀ a ∈ hx_X L x, a ≠ t) : hv_NF kf h1 qc t n := by
  intro c hc hcn o t1 fo ft
  rw [(hs.a gc mc c).2] at fo
  obtain ⟨c1, c2⟩ := (hT.er ⟨(hx_X_m.mp gc.1).1, gc.2⟩ hd (k := c) hc).2 o fo
  have c3 : h.1 o = 2 := by simpa using c2
  have go : hx_g (hx_X L x) h o 2 := ⟨hx_X_m.mpr ⟨c1, fun z => ne.1 (by rw [← c3, z, gx.2])⟩, c3⟩
  rw [(hs.o (k := kf) go (by rw [h2]; trivial) mk).2] at ft
  obtain ⟨d1, d2⟩ := (hT.gr ⟨c1, c3⟩ h2 f2).2 t1 ft
  have d3 : h.1 t1 = tf := by simpa using d2
  exact hf t1 (hx_X_m.mpr ⟨d1, fun z => ne.2 (by rw [← d3, z, gx.2])⟩)
end HVAC
/-- whom two claims are against or by, by their numbers -/
theorem hv_pid {h : hx_h} {qc qp pk k0 c1 c2 o1 o2 d1 d2 : Nat} {f : Nat → Int32} {n np : Int} (H : hw_DF h qc qp pk f n) (hn : hx_num 40 h qp k0 np) (l1 : c1 < 100) (l2 : c2 < 100) (n1 : (c1 : Int) < n) (n2 : (c2 : Int) < n) (f1 : h.2.2 qc c1 = some o1) (f2 : h.2.2 qc c2 = some o2) (g1 : h.2.2 o1 pk = some d1) (g2 : h.2.2 o2 pk = some d2) : d1 = d2 ↔ (f c1).toInt = (f c2).toInt := by
  obtain ⟨a1, b1, e1⟩ := H c1 l1 n1 o1 d1 f1 g1
  obtain ⟨a2, b2, e2⟩ := H c2 l2 n2 o2 d2 f2 g2
  constructor
  · intro e
    subst e
    have := hx_num_eq hn (by omega) (by omega) e1 e2
    omega
  · intro e
    rw [e, e2] at e1
    exact (Option.some.inj e1).symm
theorem hv_ki_t {kf : Nat → Int32} {j p : Nat} : hv_ki kf j p = true ↔ j = p ∨ ((kf j).toInt ≠ -1 ∧ (kf j).toInt = (kf p).toInt) := by
  unfold hv_ki
  rw [Bool.or_eq_true, Bool.and_eq_true, decide_eq_true_iff, decide_eq_true_iff, decide_eq_true_iff]
theorem hv_ki_f {kf : Nat → Int32} {j p : Nat} (h : ¬ (j = p ∨ ((kf j).toInt ≠ -1 ∧ (kf j).toInt = (kf p).toInt))) : hv_ki kf j p = false := by
  cases e : hv_ki kf j p with
  | false => rfl
  | true => exact absurd (hv_ki_t.mp e) h
theorem hv_ft_t {jf df kf : Nat → Int32} {p q j : Nat} : hv_ft jf df kf p q j = true ↔ (jf j).toInt ≠ 0 ∧ (df j).toInt = 0 ∧ hv_ki kf j p = false ∧ hv_ki kf j q = false := by
  unfold hv_ft
  rw [Bool.and_eq_true, Bool.and_eq_true, Bool.and_eq_true, decide_eq_true_iff, decide_eq_true_iff, Bool.not_eq_true', Bool.not_eq_true']
theorem hv_ft_f {jf df kf : Nat → Int32} {p q j : Nat} (h : ¬ ((jf j).toInt ≠ 0 ∧ (df j).toInt = 0 ∧ hv_ki kf j p = false ∧ hv_ki kf j q = false)) : hv_ft jf df kf p q j = false := by
  cases e : hv_ft jf df kf p q j with
  | false => rfl
  | true => exact absurd (hv_ft_t.mp e) h
theorem hv_n6b : (List.range 41).all (fun n => decide (((Int32.ofNat n) * (Int32.ofNat n - 1) * (Int32.ofNat n - 2) / 6).toInt = hv_T3 n)) = true := by decide +kernel
theorem hv_n6 {n a p b q s : Int32} (h0 : 0 ≤ n.toInt) (h1 : n.toInt ≤ 40) (ea : a.toInt = n.toInt - 1) (ep : p = n * a) (eb : b.toInt = n.toInt - 2) (eq : q = p * b) (es : s = q / 6) : s.toInt = hv_T3 n.toInt.toNat := by
  have h := List.all_eq_true.mp hv_n6b n.toInt.toNat (List.mem_range.mpr (by omega))
  rw [decide_eq_true_iff] at h
  have e0 : Int32.ofNat n.toInt.toNat = n := Int32.toInt_inj.mp (by rw [Int32.toInt_ofNat_of_lt (by omega)]; omega)
  have e1 : n - 1 = a := Int32.toInt_inj.mp ((i32_sub rfl (by decide) (by omega) (by omega)).trans ea.symm)
  have e2 : n - 2 = b := Int32.toInt_inj.mp ((i32_sub rfl (by decide) (by omega) (by omega)).trans eb.symm)
  rw [e0, e1, e2] at h
  rw [es, eq, ep]; exact h
end
section
set_option maxHeartbeats 4000000 in
set_option maxRecDepth 100000 in
theorem t_X0_holds_v (l : Launch) (dC : Nat → ClassId) (dI : Nat → Nat → Nat) (dA : Nat → ClassId) (L : List Nat) (h : hx_h) (sz : Nat) (i1 : Int32) (v1 : Nat) (hT : hx_T T_tb L h) (gv1 : hx_g L h v1 20) (ff : Nat → Int32) (af_v1 : h.2.1 v1 = ff) (t : hv_tok) (hvt : hv_vt t) (ht1 : 1 ≤ t.1) (hi1 : i1.toInt = hv_cc t) : Met l yX0_holds (Cond.code yX0_holds cX0_holds 5 (some .boolean) :: hx_all) ({ frames := 0, cells := 0, slots := 0, locals := 0 }) (va_Pc [.int i1, .ref v1] (hx_B T_tb (P_ty dA) (dC, dI) vwCl L h sz)) (va_Qi (fun (r : Int32) (u : List Nat × hx_h) => ((r.toInt = 1 ∧ hv_hd (hv_F0 ff 0) t = true) ∨ (r.toInt = 0 ∧ hv_hd (hv_F0 ff 0) t = false)) ∧ hx_T T_tb u.1 u.2 ∧ hx_S T_tb [] L h u.1 u.2) (hx_E T_tb (P_ty dA) (dC, dI) vwCl (hx_A L sz)) (hx_A L sz)) 0 0 (hx_A L sz) := by
  refine hx_met (lv := [(0, .int i1), (1, .ref v1)]) (by decide +kernel) rfl (Nat.le_of_ble_eq_true rfl) rfl ?_
  intro p e s m below meth c hx hb hml hr hlk hts0 hown hin hsz hW ls hl
  have hts : ∀ w ∈ hx_all, w.before _ s = true := fun w hw => hts0 w (List.mem_cons_of_mem _ hw)
  have hown : s.vm.findClass "SmallCourt$Act" = some m.cls := hown
  have hM : hx_S T_tb [] L h L h := hx_S.rf
  have hcd := hv_cc_d hvt ht1
  have hvb : 0 ≤ t.2.2 ∧ t.2.2 ≤ 10007 := by rcases hvt with ⟨a, _⟩ | ⟨a, b, c, d, e⟩; (exfalso; omega); exact ⟨d, e⟩
  refine lv_aload_n hx hb dX0_holds_0 rfl (lv_at hl 1 rfl) ?_
  refine lv_iload_n hx hb dX0_holds_1 rfl (lv_at hl 0 rfl) ?_
  refine lv_bipush (v := 7) hx hb dX0_holds_2 (by decide) ?_
  refine lv_iand hx hb dX0_holds_4 ?_
  refine lv_topi (fun x_1 ex_1 => ?_)
  have zx_1 : 0 ≤ x_1.toInt ∧ x_1.toInt ≤ 7 := by rw [ex_1]; exact hx_andR (by decide) (by decide)
  have hixa9 := hv_and7 (by omega) ex_1
  refine hx_iald hx hb hW hT (gv1.S hM) tt_20 rfl ⟨by omega, by omega⟩ dX0_holds_5 (fun x_2 ex_2 lx_2 ux_2 => ?_)
  have ax_2 : x_2 = ff x_1.toNatClampNeg := ex_2.trans (congrFun (hx_afS hM gv1 rfl af_v1) _)
  refine lv_istore_n (lv' := [(2, .int x_2), (0, .int i1), (1, .ref v1)]) hx hb dX0_holds_6 rfl hl (by decide) rfl (fun ls hl => ?_)
  refine lv_iload_n hx hb dX0_holds_7 rfl (lv_at hl 1 rfl) ?_
  refine lv_bipush (v := 7) hx hb dX0_holds_8 (by decide) ?_
  refine lv_ishr hx hb dX0_holds_10 ?_
  refine lv_topi (fun x_3 ex_3 => ?_)
  have hhr79 := hv_shr7 (by omega) ex_3
  refine lv_istore_n (lv' := [(3, .int x_3), (2, .int x_2), (0, .int i1), (1, .ref v1)]) hx hb dX0_holds_11 rfl hl (by decide) rfl (fun ls hl => ?_)
  refine lv_iload_n hx hb dX0_holds_12 rfl (lv_at hl 2 rfl) ?_
  refine lv_bipush (v := 6) hx hb dX0_holds_13 (by decide) ?_
  refine lv_ishr hx hb dX0_holds_15 ?_
  refine lv_topi (fun x_4 ex_4 => ?_)
  have hh69 := hv_shr6 (by omega) ex_4
  refine lv_iconst (v := 1) hx hb dX0_holds_16 (by decide) ?_
  refine lv_iand hx hb dX0_holds_17 ?_
  refine lv_topi (fun x_5 ex_5 => ?_)
  have zx_5 : 0 ≤ x_5.toInt ∧ x_5.toInt ≤ 1 := by rw [ex_5]; exact hx_andR (by decide) (by decide)
  have hhb69 := hv_and1 (by omega) ex_5
  refine lv_iconst (v := 1) hx hb dX0_holds_18 (by decide) ?_
  refine hb_icmp_ne (zx := x_5.toInt) (zy := 1) (tgt := 29) hx hb rfl (by decide) dX0_holds_19 (by decide) (fun c_6 => ?_) (fun c_6 => ?_)
  · skip
    refine lv_iload_n hx hb dX0_holds_29 rfl (lv_at hl 1 rfl) ?_
    refine lv_iload_n hx hb dX0_holds_30 rfl (lv_at hl 0 rfl) ?_
    refine hb_icmp_ge (zx := x_2.toInt) (zy := x_3.toInt) (tgt := 38) hx hb rfl rfl dX0_holds_31 (by decide) (fun c_7 => ?_) (fun c_7 => ?_)
    · skip
      refine lv_iload_n hx hb dX0_holds_38 rfl (lv_at hl 1 rfl) ?_
      refine lv_iload_n hx hb dX0_holds_39 rfl (lv_at hl 0 rfl) ?_
      refine hb_icmp_ne (zx := x_2.toInt) (zy := x_3.toInt) (tgt := 47) hx hb rfl rfl dX0_holds_40 (by decide) (fun c_8 => ?_) (fun c_8 => ?_)
      · skip
        refine lv_iconst (v := 4) hx hb dX0_holds_47 (by decide) ?_
        refine lv_istore (lv' := [(4, .int (4 : Int32)), (3, .int x_3), (2, .int x_2), (0, .int i1), (1, .ref v1)]) hx hb dX0_holds_48 hl (by decide) rfl (fun ls hl => ?_)
        refine lv_iload_n hx hb dX0_holds_50 rfl (lv_at hl 3 rfl) ?_
        refine lv_iconst (v := 3) hx hb dX0_holds_51 (by decide) ?_
        refine lv_ishr hx hb dX0_holds_52 ?_
        refine lv_topi (fun x_9 ex_9 => ?_)
        have hh39 := hv_shr3 (by omega) ex_9
        refine lv_iload hx hb dX0_holds_53 (lv_at hl 0 rfl) ?_
        refine lv_iand hx hb dX0_holds_55 ?_
        refine lv_topi (fun x_10 ex_10 => ?_)
        have zx_10 : 0 ≤ x_10.toInt ∧ x_10.toInt ≤ 4 := by rw [ex_10]; exact hx_andR (by decide) (by decide)
        have hbt9 := hv_bitC (by omega) ex_10
        have hS9 := hv_bitS (s := hv_scd (t.2.1, 1)) (x := x_9.toInt) (by rw [hh39, hi1]; exact hcd.2.2.1)
        refine hb_if_eq (zx := x_10.toInt) (tgt := 63) hx hb rfl dX0_holds_56 (by decide) (fun c_11 => ?_) (fun c_11 => ?_)
        · skip
          refine lv_iconst (v := 0) hx hb dX0_holds_63 (by decide) ?_
          exact hx_retz hx hb hr rfl hlk hW ⟨(Or.inr ⟨by decide, hv_nb (hv_hdC (hv_hd_c (F := hv_F0 ff 0) (l := x_2.toInt) (r := x_3.toInt) hvt ht1 (by rw [ax_2]; exact congrArg (fun z => (ff z).toInt) (show x_1.toNatClampNeg = (t.1 - 1).toNat + 0 by unfold Int32.toNatClampNeg; omega)) (by rw [if_neg (by omega)]; omega) rfl) (by omega) hS9 hbt9) (by omega)⟩), hT, hM⟩ dX0_holds_64
        · skip
          refine lv_iconst (v := 1) hx hb dX0_holds_59 (by decide) ?_
          refine lv_goto (tgt := 64) hx hb dX0_holds_60 (by decide) ?_
          exact hx_retz hx hb hr rfl hlk hW ⟨(Or.inl ⟨by decide, (hv_hdC (hv_hd_c (F := hv_F0 ff 0) (l := x_2.toInt) (r := x_3.toInt) hvt ht1 (by rw [ax_2]; exact congrArg (fun z => (ff z).toInt) (show x_1.toNatClampNeg = (t.1 - 1).toNat + 0 by unfold Int32.toNatClampNeg; omega)) (by rw [if_neg (by omega)]; omega) rfl) (by omega) hS9 hbt9).mpr (by omega)⟩), hT, hM⟩ dX0_holds_64
      · skip
        refine lv_iconst (v := 2) hx hb dX0_holds_43 (by decide) ?_
        refine lv_goto (tgt := 48) hx hb dX0_holds_44 (by decide) ?_
        refine lv_istore (lv' := [(4, .int (2 : Int32)), (3, .int x_3), (2, .int x_2), (0, .int i1), (1, .ref v1)]) hx hb dX0_holds_48 hl (by decide) rfl (fun ls hl => ?_)
        refine lv_iload_n hx hb dX0_holds_50 rfl (lv_at hl 3 rfl) ?_
        refine lv_iconst (v := 3) hx hb dX0_holds_51 (by decide) ?_
        refine lv_ishr hx hb dX0_holds_52 ?_
        refine lv_topi (fun x_12 ex_12 => ?_)
        have hh39 := hv_shr3 (by omega) ex_12
        refine lv_iload hx hb dX0_holds_53 (lv_at hl 0 rfl) ?_
        refine lv_iand hx hb dX0_holds_55 ?_
        refine lv_topi (fun x_13 ex_13 => ?_)
        have zx_13 : 0 ≤ x_13.toInt ∧ x_13.toInt ≤ 2 := by rw [ex_13]; exact hx_andR (by decide) (by decide)
        have hbt9 := hv_bitB (by omega) ex_13
        have hS9 := hv_bitS (s := hv_scd (t.2.1, 1)) (x := x_12.toInt) (by rw [hh39, hi1]; exact hcd.2.2.1)
        refine hb_if_eq (zx := x_13.toInt) (tgt := 63) hx hb rfl dX0_holds_56 (by decide) (fun c_14 => ?_) (fun c_14 => ?_)
        · skip
          refine lv_iconst (v := 0) hx hb dX0_holds_63 (by decide) ?_
          exact hx_retz hx hb hr rfl hlk hW ⟨(Or.inr ⟨by decide, hv_nb (hv_hdB (hv_hd_c (F := hv_F0 ff 0) (l := x_2.toInt) (r := x_3.toInt) hvt ht1 (by rw [ax_2]; exact congrArg (fun z => (ff z).toInt) (show x_1.toNatClampNeg = (t.1 - 1).toNat + 0 by unfold Int32.toNatClampNeg; omega)) (by rw [if_neg (by omega)]; omega) rfl) (by omega) hS9 hbt9) (by omega)⟩), hT, hM⟩ dX0_holds_64
        · skip
          refine lv_iconst (v := 1) hx hb dX0_holds_59 (by decide) ?_
          refine lv_goto (tgt := 64) hx hb dX0_holds_60 (by decide) ?_
          exact hx_retz hx hb hr rfl hlk hW ⟨(Or.inl ⟨by decide, (hv_hdB (hv_hd_c (F := hv_F0 ff 0) (l := x_2.toInt) (r := x_3.toInt) hvt ht1 (by rw [ax_2]; exact congrArg (fun z => (ff z).toInt) (show x_1.toNatClampNeg = (t.1 - 1).toNat + 0 by unfold Int32.toNatClampNeg; omega)) (by rw [if_neg (by omega)]; omega) rfl) (by omega) hS9 hbt9).mpr (by omega)⟩), hT, hM⟩ dX0_holds_64
    · skip
      refine lv_iconst (v := 1) hx hb dX0_holds_34 (by decide) ?_
      refine lv_goto (tgt := 48) hx hb dX0_holds_35 (by decide) ?_
      refine lv_istore (lv' := [(4, .int (1 : Int32)), (3, .int x_3), (2, .int x_2), (0, .int i1), (1, .ref v1)]) hx hb dX0_holds_48 hl (by decide) rfl (fun ls hl => ?_)
      refine lv_iload_n hx hb dX0_holds_50 rfl (lv_at hl 3 rfl) ?_
      refine lv_iconst (v := 3) hx hb dX0_holds_51 (by decide) ?_
      refine lv_ishr hx hb dX0_holds_52 ?_
      refine lv_topi (fun x_15 ex_15 => ?_)
      have hh39 := hv_shr3 (by omega) ex_15
      refine lv_iload hx hb dX0_holds_53 (lv_at hl 0 rfl) ?_
      refine lv_iand hx hb dX0_holds_55 ?_
      refine lv_topi (fun x_16 ex_16 => ?_)
      have zx_16 : 0 ≤ x_16.toInt ∧ x_16.toInt ≤ 1 := by rw [ex_16]; exact hx_andR (by decide) (by decide)
      have hbt9 := hv_bitA (by omega) ex_16
      have hS9 := hv_bitS (s := hv_scd (t.2.1, 1)) (x := x_15.toInt) (by rw [hh39, hi1]; exact hcd.2.2.1)
      refine hb_if_eq (zx := x_16.toInt) (tgt := 63) hx hb rfl dX0_holds_56 (by decide) (fun c_17 => ?_) (fun c_17 => ?_)
      · skip
        refine lv_iconst (v := 0) hx hb dX0_holds_63 (by decide) ?_
        exact hx_retz hx hb hr rfl hlk hW ⟨(Or.inr ⟨by decide, hv_nb (hv_hdA (hv_hd_c (F := hv_F0 ff 0) (l := x_2.toInt) (r := x_3.toInt) hvt ht1 (by rw [ax_2]; exact congrArg (fun z => (ff z).toInt) (show x_1.toNatClampNeg = (t.1 - 1).toNat + 0 by unfold Int32.toNatClampNeg; omega)) (by rw [if_neg (by omega)]; omega) rfl) (by omega) hS9 hbt9) (by omega)⟩), hT, hM⟩ dX0_holds_64
      · skip
        refine lv_iconst (v := 1) hx hb dX0_holds_59 (by decide) ?_
        refine lv_goto (tgt := 64) hx hb dX0_holds_60 (by decide) ?_
        exact hx_retz hx hb hr rfl hlk hW ⟨(Or.inl ⟨by decide, (hv_hdA (hv_hd_c (F := hv_F0 ff 0) (l := x_2.toInt) (r := x_3.toInt) hvt ht1 (by rw [ax_2]; exact congrArg (fun z => (ff z).toInt) (show x_1.toNatClampNeg = (t.1 - 1).toNat + 0 by unfold Int32.toNatClampNeg; omega)) (by rw [if_neg (by omega)]; omega) rfl) (by omega) hS9 hbt9).mpr (by omega)⟩), hT, hM⟩ dX0_holds_64
  · skip
    refine lv_aload_n hx hb dX0_holds_22 rfl (lv_at hl 3 rfl) ?_
    refine lv_iload_n hx hb dX0_holds_23 rfl (lv_at hl 0 rfl) ?_
    refine lv_bipush (v := 7) hx hb dX0_holds_24 (by decide) ?_
    refine lv_iand hx hb dX0_holds_26 ?_
    refine lv_topi (fun x_18 ex_18 => ?_)
    have zx_18 : 0 ≤ x_18.toInt ∧ x_18.toInt ≤ 7 := by rw [ex_18]; exact hx_andR (by decide) (by decide)
    have hixb9 := hv_and7 (by omega) ex_18
    refine hx_iald hx hb hW hT (gv1.S hM) tt_20 rfl ⟨by omega, by omega⟩ dX0_holds_27 (fun x_19 ex_19 lx_19 ux_19 => ?_)
    have ax_19 : x_19 = ff x_18.toNatClampNeg := ex_19.trans (congrFun (hx_afS hM gv1 rfl af_v1) _)
    refine lv_istore_n (lv' := [(3, .int x_19), (2, .int x_2), (0, .int i1), (1, .ref v1)]) hx hb dX0_holds_28 rfl hl (by decide) rfl (fun ls hl => ?_)
    refine lv_iload_n hx hb dX0_holds_29 rfl (lv_at hl 1 rfl) ?_
    refine lv_iload_n hx hb dX0_holds_30 rfl (lv_at hl 0 rfl) ?_
    refine hb_icmp_ge (zx := x_2.toInt) (zy := x_19.toInt) (tgt := 38) hx hb rfl rfl dX0_holds_31 (by decide) (fun c_20 => ?_) (fun c_20 => ?_)
    · skip
      refine lv_iload_n hx hb dX0_holds_38 rfl (lv_at hl 1 rfl) ?_
      refine lv_iload_n hx hb dX0_holds_39 rfl (lv_at hl 0 rfl) ?_
      refine hb_icmp_ne (zx := x_2.toInt) (zy := x_19.toInt) (tgt := 47) hx hb rfl rfl dX0_holds_40 (by decide) (fun c_21 => ?_) (fun c_21 => ?_)
      · skip
        refine lv_iconst (v := 4) hx hb dX0_holds_47 (by decide) ?_
        refine lv_istore (lv' := [(4, .int (4 : Int32)), (3, .int x_19), (2, .int x_2), (0, .int i1), (1, .ref v1)]) hx hb dX0_holds_48 hl (by decide) rfl (fun ls hl => ?_)
        refine lv_iload_n hx hb dX0_holds_50 rfl (lv_at hl 3 rfl) ?_
        refine lv_iconst (v := 3) hx hb dX0_holds_51 (by decide) ?_
        refine lv_ishr hx hb dX0_holds_52 ?_
        refine lv_topi (fun x_22 ex_22 => ?_)
        have hh39 := hv_shr3 (by omega) ex_22
        refine lv_iload hx hb dX0_holds_53 (lv_at hl 0 rfl) ?_
        refine lv_iand hx hb dX0_holds_55 ?_
        refine lv_topi (fun x_23 ex_23 => ?_)
        have zx_23 : 0 ≤ x_23.toInt ∧ x_23.toInt ≤ 4 := by rw [ex_23]; exact hx_andR (by decide) (by decide)
        have hbt9 := hv_bitC (by omega) ex_23
        have hS9 := hv_bitS (s := hv_scd (t.2.1, 1)) (x := x_22.toInt) (by rw [hh39, hi1]; exact hcd.2.2.1)
        refine hb_if_eq (zx := x_23.toInt) (tgt := 63) hx hb rfl dX0_holds_56 (by decide) (fun c_24 => ?_) (fun c_24 => ?_)
        · skip
          refine lv_iconst (v := 0) hx hb dX0_holds_63 (by decide) ?_
          exact hx_retz hx hb hr rfl hlk hW ⟨(Or.inr ⟨by decide, hv_nb (hv_hdC (hv_hd_c (F := hv_F0 ff 0) (l := x_2.toInt) (r := x_19.toInt) hvt ht1 (by rw [ax_2]; exact congrArg (fun z => (ff z).toInt) (show x_1.toNatClampNeg = (t.1 - 1).toNat + 0 by unfold Int32.toNatClampNeg; omega)) (by rw [if_pos (by omega)]; exact (by rw [ax_19]; exact congrArg (fun z => (ff z).toInt) (show x_18.toNatClampNeg = (t.2.2 - 10000).toNat + 0 by unfold Int32.toNatClampNeg; omega))) rfl) (by omega) hS9 hbt9) (by omega)⟩), hT, hM⟩ dX0_holds_64
        · skip
          refine lv_iconst (v := 1) hx hb dX0_holds_59 (by decide) ?_
          refine lv_goto (tgt := 64) hx hb dX0_holds_60 (by decide) ?_
          exact hx_retz hx hb hr rfl hlk hW ⟨(Or.inl ⟨by decide, (hv_hdC (hv_hd_c (F := hv_F0 ff 0) (l := x_2.toInt) (r := x_19.toInt) hvt ht1 (by rw [ax_2]; exact congrArg (fun z => (ff z).toInt) (show x_1.toNatClampNeg = (t.1 - 1).toNat + 0 by unfold Int32.toNatClampNeg; omega)) (by rw [if_pos (by omega)]; exact (by rw [ax_19]; exact congrArg (fun z => (ff z).toInt) (show x_18.toNatClampNeg = (t.2.2 - 10000).toNat + 0 by unfold Int32.toNatClampNeg; omega))) rfl) (by omega) hS9 hbt9).mpr (by omega)⟩), hT, hM⟩ dX0_holds_64
      · skip
        refine lv_iconst (v := 2) hx hb dX0_holds_43 (by decide) ?_
        refine lv_goto (tgt := 48) hx hb dX0_holds_44 (by decide) ?_
        refine lv_istore (lv' := [(4, .int (2 : Int32)), (3, .int x_19), (2, .int x_2), (0, .int i1), (1, .ref v1)]) hx hb dX0_holds_48 hl (by decide) rfl (fun ls hl => ?_)
        refine lv_iload_n hx hb dX0_holds_50 rfl (lv_at hl 3 rfl) ?_
        refine lv_iconst (v := 3) hx hb dX0_holds_51 (by decide) ?_
        refine lv_ishr hx hb dX0_holds_52 ?_
        refine lv_topi (fun x_25 ex_25 => ?_)
        have hh39 := hv_shr3 (by omega) ex_25
        refine lv_iload hx hb dX0_holds_53 (lv_at hl 0 rfl) ?_
        refine lv_iand hx hb dX0_holds_55 ?_
        refine lv_topi (fun x_26 ex_26 => ?_)
        have zx_26 : 0 ≤ x_26.toInt ∧ x_26.toInt ≤ 2 := by rw [ex_26]; exact hx_andR (by decide) (by decide)
        have hbt9 := hv_bitB (by omega) ex_26
        have hS9 := hv_bitS (s := hv_scd (t.2.1, 1)) (x := x_25.toInt) (by rw [hh39, hi1]; exact hcd.2.2.1)
        refine hb_if_eq (zx := x_26.toInt) (tgt := 63) hx hb rfl dX0_holds_56 (by decide) (fun c_27 => ?_) (fun c_27 => ?_)
        · skip
          refine lv_iconst (v := 0) hx hb dX0_holds_63 (by decide) ?_
          exact hx_retz hx hb hr rfl hlk hW ⟨(Or.inr ⟨by decide, hv_nb (hv_hdB (hv_hd_c (F := hv_F0 ff 0) (l := x_2.toInt) (r := x_19.toInt) hvt ht1 (by rw [ax_2]; exact congrArg (fun z => (ff z).toInt) (show x_1.toNatClampNeg = (t.1 - 1).toNat + 0 by unfold Int32.toNatClampNeg; omega)) (by rw [if_pos (by omega)]; exact (by rw [ax_19]; exact congrArg (fun z => (ff z).toInt) (show x_18.toNatClampNeg = (t.2.2 - 10000).toNat + 0 by unfold Int32.toNatClampNeg; omega))) rfl) (by omega) hS9 hbt9) (by omega)⟩), hT, hM⟩ dX0_holds_64
        · skip
          refine lv_iconst (v := 1) hx hb dX0_holds_59 (by decide) ?_
          refine lv_goto (tgt := 64) hx hb dX0_holds_60 (by decide) ?_
          exact hx_retz hx hb hr rfl hlk hW ⟨(Or.inl ⟨by decide, (hv_hdB (hv_hd_c (F := hv_F0 ff 0) (l := x_2.toInt) (r := x_19.toInt) hvt ht1 (by rw [ax_2]; exact congrArg (fun z => (ff z).toInt) (show x_1.toNatClampNeg = (t.1 - 1).toNat + 0 by unfold Int32.toNatClampNeg; omega)) (by rw [if_pos (by omega)]; exact (by rw [ax_19]; exact congrArg (fun z => (ff z).toInt) (show x_18.toNatClampNeg = (t.2.2 - 10000).toNat + 0 by unfold Int32.toNatClampNeg; omega))) rfl) (by omega) hS9 hbt9).mpr (by omega)⟩), hT, hM⟩ dX0_holds_64
    · skip
      refine lv_iconst (v := 1) hx hb dX0_holds_34 (by decide) ?_
      refine lv_goto (tgt := 48) hx hb dX0_holds_35 (by decide) ?_
      refine lv_istore (lv' := [(4, .int (1 : Int32)), (3, .int x_19), (2, .int x_2), (0, .int i1), (1, .ref v1)]) hx hb dX0_holds_48 hl (by decide) rfl (fun ls hl => ?_)
      refine lv_iload_n hx hb dX0_holds_50 rfl (lv_at hl 3 rfl) ?_
      refine lv_iconst (v := 3) hx hb dX0_holds_51 (by decide) ?_
      refine lv_ishr hx hb dX0_holds_52 ?_
      refine lv_topi (fun x_28 ex_28 => ?_)
      have hh39 := hv_shr3 (by omega) ex_28
      refine lv_iload hx hb dX0_holds_53 (lv_at hl 0 rfl) ?_
      refine lv_iand hx hb dX0_holds_55 ?_
      refine lv_topi (fun x_29 ex_29 => ?_)
      have zx_29 : 0 ≤ x_29.toInt ∧ x_29.toInt ≤ 1 := by rw [ex_29]; exact hx_andR (by decide) (by decide)
      have hbt9 := hv_bitA (by omega) ex_29
      have hS9 := hv_bitS (s := hv_scd (t.2.1, 1)) (x := x_28.toInt) (by rw [hh39, hi1]; exact hcd.2.2.1)
      refine hb_if_eq (zx := x_29.toInt) (tgt := 63) hx hb rfl dX0_holds_56 (by decide) (fun c_30 => ?_) (fun c_30 => ?_)
      · skip
        refine lv_iconst (v := 0) hx hb dX0_holds_63 (by decide) ?_
        exact hx_retz hx hb hr rfl hlk hW ⟨(Or.inr ⟨by decide, hv_nb (hv_hdA (hv_hd_c (F := hv_F0 ff 0) (l := x_2.toInt) (r := x_19.toInt) hvt ht1 (by rw [ax_2]; exact congrArg (fun z => (ff z).toInt) (show x_1.toNatClampNeg = (t.1 - 1).toNat + 0 by unfold Int32.toNatClampNeg; omega)) (by rw [if_pos (by omega)]; exact (by rw [ax_19]; exact congrArg (fun z => (ff z).toInt) (show x_18.toNatClampNeg = (t.2.2 - 10000).toNat + 0 by unfold Int32.toNatClampNeg; omega))) rfl) (by omega) hS9 hbt9) (by omega)⟩), hT, hM⟩ dX0_holds_64
      · skip
        refine lv_iconst (v := 1) hx hb dX0_holds_59 (by decide) ?_
        refine lv_goto (tgt := 64) hx hb dX0_holds_60 (by decide) ?_
        exact hx_retz hx hb hr rfl hlk hW ⟨(Or.inl ⟨by decide, (hv_hdA (hv_hd_c (F := hv_F0 ff 0) (l := x_2.toInt) (r := x_19.toInt) hvt ht1 (by rw [ax_2]; exact congrArg (fun z => (ff z).toInt) (show x_1.toNatClampNeg = (t.1 - 1).toNat + 0 by unfold Int32.toNatClampNeg; omega)) (by rw [if_pos (by omega)]; exact (by rw [ax_19]; exact congrArg (fun z => (ff z).toInt) (show x_18.toNatClampNeg = (t.2.2 - 10000).toNat + 0 by unfold Int32.toNatClampNeg; omega))) rfl) (by omega) hS9 hbt9).mpr (by omega)⟩), hT, hM⟩ dX0_holds_64


set_option maxHeartbeats 4000000 in
set_option maxRecDepth 100000 in
theorem t_X0_proves_v (l : Launch) (dC : Nat → ClassId) (dI : Nat → Nat → Nat) (dA : Nat → ClassId) (L : List Nat) (h : hx_h) (sz : Nat) (x : Nat) (v1 : Nat) (hT : hx_T T_tb L h) (gx : hx_g L h x 0) (gv1 : hx_g L h v1 20) (qp : Nat) (gqp : hx_g L h qp 12) (f_x_3 : h.2.2 x 3 = some qp) (ff : Nat → Int32) (af_v1 : h.2.1 v1 = ff) (pf : Nat → Int32) (af_qp : h.2.1 qp = pf) (pl0 : Int32) (f_x_4 : h.2.1 x 4 = pl0) (o : List hv_tok) (hO : hv_OK o) (hls : hv_ls pf pl0.toInt.toNat = o.map hv_cc) : Met l yX0_proves (Cond.code yX0_proves cX0_proves 6 (some .boolean) :: hx_all) ({ frames := 1, cells := 0, slots := 0, locals := 24 }) (va_Pc [.ref x, .ref v1] (hx_B T_tb (P_ty dA) (dC, dI) vwCl L h sz)) (va_Qi (fun (r : Int32) (u : List Nat × hx_h) => ((r.toInt = 1 ∧ hv_pr (hv_F0 ff 0) o = true) ∨ (r.toInt = 0 ∧ hv_pr (hv_F0 ff 0) o = false)) ∧ hx_T T_tb u.1 u.2 ∧ hx_S T_tb [] L h u.1 u.2) (hx_E T_tb (P_ty dA) (dC, dI) vwCl (hx_A L sz)) (hx_A L sz)) 0 0 (hx_A L sz) := by
  refine hx_met (lv := [(0, .ref x), (1, .ref v1)]) (by decide +kernel) rfl (Nat.le_of_ble_eq_true rfl) rfl ?_
  intro p e s m below meth c hx hb hml hr hlk hts0 hown hin hsz hW ls hl
  have hts : ∀ w ∈ hx_all, w.before _ s = true := fun w hw => hts0 w (List.mem_cons_of_mem _ hw)
  have hown : s.vm.findClass "SmallCourt$Act" = some m.cls := hown
  have hM : hx_S T_tb [] L h L h := hx_S.rf
  have b_pl0 := hT.gi gx tt_0 (k := 4) rfl
  rw [f_x_4] at b_pl0
  have b_pl0 : 0 ≤ pl0.toInt ∧ pl0.toInt ≤ 160 := b_pl0
  refine lv_iconst (v := 0) hx hb dX0_proves_0 (by decide) ?_
  refine lv_istore_n (lv' := [(2, .int (0 : Int32)), (0, .ref x), (1, .ref v1)]) hx hb dX0_proves_1 rfl hl (by decide) rfl (fun ls hl => ?_)
  refine lv_iconst (v := 0) hx hb dX0_proves_2 (by decide) ?_
  refine lv_istore_n (lv' := [(3, .int (0 : Int32)), (2, .int (0 : Int32)), (0, .ref x), (1, .ref v1)]) hx hb dX0_proves_3 rfl hl (by decide) rfl (fun ls hl => ?_)
  have loop4 : ∀ (n4 : Nat) (iv4_2 iv4_3 : Int32) (H : Heap) (locs : List Loc) (hL1 : List Nat) (hl1 : hx_h), -2147483648 ≤ iv4_2.toInt → iv4_2.toInt ≤ 2147483647 → 0 ≤ iv4_3.toInt → iv4_3.toInt ≤ 160 → (hv_bt iv4_2 (hv_ev (hv_F0 ff 0) (o.drop (pl0.toInt - iv4_3.toInt).toNat))) → (iv4_3.toInt ≤ pl0.toInt) → ∀ (ls : Array Slot), 160 - iv4_3.toInt < (n4 : Int) → hx_W T_tb (P_ty dA) (dC, dI) vwCl (hx_A L sz) s.heap hL1 hl1 s H locs → hx_T T_tb hL1 hl1 → hx_S T_tb [] L h hL1 hl1 → lv_has ls 6 [(3, .int iv4_3), (2, .int iv4_2), (0, .ref x), (1, .ref v1)] → W p l e ({ frames := 1, cells := 0, slots := 0, locals := 24 }) s m ([.ref x, .ref v1] : List Value).toArray below meth c H locs 0 0 (MQ below (va_Qi (fun (r : Int32) (u : List Nat × hx_h) => ((r.toInt = 1 ∧ hv_pr (hv_F0 ff 0) o = true) ∨ (r.toInt = 0 ∧ hv_pr (hv_F0 ff 0) o = false)) ∧ hx_T T_tb u.1 u.2 ∧ hx_S T_tb [] L h u.1 u.2) (hx_E T_tb (P_ty dA) (dC, dI) vwCl (hx_A L sz)) (hx_A L sz)) ([.ref x, .ref v1] : List Value).toArray s 0 0 (hx_A L sz)) (F0 m 4 ls []) := by
    intro n4
    induction n4 with
    | zero => intro iv4_2 iv4_3 H locs hL1 hl1 bliv4_2 buiv4_2 bliv4_3 buiv4_3 vi4_0 vi4_1 ls hn4; exfalso; omega
    | succ n4 ih4 =>
      intro iv4_2 iv4_3 H locs hL1 hl1 bliv4_2 buiv4_2 bliv4_3 buiv4_3 vi4_0 vi4_1 ls hn4 hW hT hM   hl
      refine lv_iload_n hx hb dX0_proves_4 rfl (lv_at hl 0 rfl) ?_
      refine lv_aload_n hx hb dX0_proves_5 rfl (lv_at hl 2 rfl) ?_
      refine hk_geti hx hb hts hC_0 hown hW (gx.S hM) tt_0 4 (by decide) rfl kw_173 ⟨rfl, rfl, rfl⟩ ((hM.o gx trivial rfl).1.trans f_x_4) dX0_proves_6 ?_
      refine hb_icmp_ge (zx := iv4_3.toInt) (zy := pl0.toInt) (tgt := 122) hx hb rfl rfl dX0_proves_9 (by decide) (fun c_1 => ?_) (fun c_1 => ?_)
      · skip
        refine lv_iload_n hx hb dX0_proves_122 rfl (lv_at hl 1 rfl) ?_
        refine lv_iconst (v := 1) hx hb dX0_proves_123 (by decide) ?_
        refine lv_iand hx hb dX0_proves_124 ?_
        refine lv_topi (fun x_2 ex_2 => ?_)
        have zx_2 : 0 ≤ x_2.toInt ∧ x_2.toInt ≤ 1 := by rw [ex_2]; exact hx_andR (by decide) (by decide)
        refine lv_iconst (v := 1) hx hb dX0_proves_125 (by decide) ?_
        refine hb_icmp_ne (zx := x_2.toInt) (zy := 1) (tgt := 133) hx hb rfl (by decide) dX0_proves_126 (by decide) (fun c_3 => ?_) (fun c_3 => ?_)
        · skip
          refine lv_iconst (v := 0) hx hb dX0_proves_133 (by decide) ?_
          exact hx_retz hx hb hr rfl hlk hW ⟨(by have h8 := vi4_0; rw [show (pl0.toInt - iv4_3.toInt).toNat = 0 by omega] at h8; have h7 := hv_cE hO h8 ex_2; rcases h7 with z | z; (exfalso; omega); exact Or.inr ⟨by decide, z.2⟩), hT, hM⟩ dX0_proves_134
        · skip
          refine lv_iconst (v := 1) hx hb dX0_proves_129 (by decide) ?_
          refine lv_goto (tgt := 134) hx hb dX0_proves_130 (by decide) ?_
          exact hx_retz hx hb hr rfl hlk hW ⟨(by have h8 := vi4_0; rw [show (pl0.toInt - iv4_3.toInt).toNat = 0 by omega] at h8; have h7 := hv_cE hO h8 ex_2; rcases h7 with z | z; exact Or.inl ⟨by decide, z.2⟩; exfalso; omega), hT, hM⟩ dX0_proves_134
      · skip
        refine lv_iload_n hx hb dX0_proves_12 rfl (lv_at hl 1 rfl) ?_
        refine lv_iconst (v := 1) hx hb dX0_proves_13 (by decide) ?_
        refine lv_iand hx hb dX0_proves_14 ?_
        refine lv_topi (fun x_4 ex_4 => ?_)
        have zx_4 : 0 ≤ x_4.toInt ∧ x_4.toInt ≤ 1 := by rw [ex_4]; exact hx_andR (by decide) (by decide)
        refine lv_istore (lv' := [(4, .int x_4), (3, .int iv4_3), (2, .int iv4_2), (0, .ref x), (1, .ref v1)]) hx hb dX0_proves_15 hl (by decide) rfl (fun ls hl => ?_)
        refine lv_iload_n hx hb dX0_proves_17 rfl (lv_at hl 2 rfl) ?_
        refine lv_iconst (v := 1) hx hb dX0_proves_18 (by decide) ?_
        refine lv_ishr hx hb dX0_proves_19 ?_
        refine lv_topi (fun x_5 ex_5 => ?_)
        refine lv_iconst (v := 1) hx hb dX0_proves_20 (by decide) ?_
        refine lv_iand hx hb dX0_proves_21 ?_
        refine lv_topi (fun x_6 ex_6 => ?_)
        have zx_6 : 0 ≤ x_6.toInt ∧ x_6.toInt ≤ 1 := by rw [ex_6]; exact hx_andR (by decide) (by decide)
        refine lv_istore (lv' := [(5, .int x_6), (4, .int x_4), (3, .int iv4_3), (2, .int iv4_2), (0, .ref x), (1, .ref v1)]) hx hb dX0_proves_22 hl (by decide) rfl (fun ls hl => ?_)
        refine lv_aload_n hx hb dX0_proves_24 rfl (lv_at hl 4 rfl) ?_
        refine hk_getr hx hb hts hC_0 hown hW (gx.S hM) tt_0 3 (by decide) rfl kw_172 ⟨rfl, rfl, rfl⟩ ((hM.o gx trivial rfl).2.trans f_x_3) dX0_proves_25 ?_
        refine lv_iload_n hx hb dX0_proves_28 rfl (lv_at hl 2 rfl) ?_
        refine hx_iald hx hb hW hT (gqp.S hM) tt_12 rfl ⟨by omega, by omega⟩ dX0_proves_29 (fun x_7 ex_7 lx_7 ux_7 => ?_)
        have ax_7 : x_7 = pf iv4_3.toNatClampNeg := ex_7.trans (congrFun (hx_afS hM gqp rfl af_qp) _)
        obtain ⟨t9, s9, hs9, hvt9, hv9, hev9, hl9, hh9⟩ := hv_pg (F := hv_F0 ff 0) (n := pl0.toInt) (k := iv4_3.toInt) (ix := iv4_3.toNatClampNeg) hls hO (by omega) (by omega) (by unfold Int32.toNatClampNeg; omega) ax_7
        have hb9 := vi4_0; rw [← hs9] at hb9
        have hk9 := hv_cc_k hvt9
        rcases (show (x_7.toInt < -3 ∨ -1 < x_7.toInt) ∨ x_7.toInt = -3 ∨ x_7.toInt = -2 ∨ x_7.toInt = -1 from by omega) with c_8 | c_8 | c_8 | c_8
        · refine lv_tableOut (tgt := 93) hx hb dX0_proves_30 c_8 (by decide) ?_
          refine lv_iload_n hx hb dX0_proves_93 rfl (lv_at hl 3 rfl) ?_
          refine lv_iconst (v := 1) hx hb dX0_proves_94 (by decide) ?_
          refine lv_ishl hx hb dX0_proves_95 ?_
          refine lv_topi (fun x_9 ex_9 => ?_)
          refine lv_aload_n hx hb dX0_proves_96 rfl (lv_at hl 4 rfl) ?_
          refine hk_getr hx hb hts hC_0 hown hW (gx.S hM) tt_0 3 (by decide) rfl kw_172 ⟨rfl, rfl, rfl⟩ ((hM.o gx trivial rfl).2.trans f_x_3) dX0_proves_97 ?_
          refine lv_iload_n hx hb dX0_proves_100 rfl (lv_at hl 2 rfl) ?_
          refine hx_iald hx hb hW hT (gqp.S hM) tt_12 rfl ⟨by omega, by omega⟩ dX0_proves_101 (fun x_10 ex_10 lx_10 ux_10 => ?_)
          have ax_10 : x_10 = pf iv4_3.toNatClampNeg := ex_10.trans (congrFun (hx_afS hM gqp rfl af_qp) _)
          obtain rfl : x_7 = x_10 := ex_7.trans ex_10.symm
          refine lv_aload_n hx hb dX0_proves_102 rfl (lv_at hl 5 rfl) ?_
          refine hx_goi (hx_runS (As := [.int x_7, .ref v1]) (rest := [.int x_9]) ⟨hx, hb, hml, hown, hts⟩ hW (t_X0_holds_v l dC dI dA hL1 hl1 H.size x_7 v1 hT (gv1.S hM) ff (hx_afS hM gv1 rfl af_v1) t9 hvt9 (by omega) hv9) (va_cwS 2 hts (hx_gS kw_841 kw_839 kw_840 kw_96) rfl rfl rfl (by decide +kernel) ⟨Nat.le_of_ble_eq_true rfl, Nat.le_of_ble_eq_true rfl⟩) rfl hl.1 rfl (Nat.le_of_ble_eq_true rfl) dX0_proves_103 ⟨Nat.le_of_ble_eq_true rfl, Nat.le_of_ble_eq_true rfl⟩) hW (fun r_13 L_11 h_12 H locs p_14 hW => ?_)
          obtain ⟨hr_15, hT, hs⟩ := p_14
          replace hT : hx_T T_tb L_11 h_12 := hT
          replace hs : hx_S T_tb [] hL1 hl1 L_11 h_12 := hs
          replace ex_7 := ex_7.trans (hs.a (gqp.S hM) rfl _).1.symm
          replace hM := hM.tr (hs.mono (by decide))
          refine hb_if_eq (zx := r_13.toInt) (tgt := 113) hx hb rfl dX0_proves_106 (by decide) (fun c_16 => ?_) (fun c_16 => ?_)
          · skip
            refine lv_iconst (v := 0) hx hb dX0_proves_113 (by decide) ?_
            refine lv_ior hx hb dX0_proves_114 ?_
            refine lv_topi (fun x_17 ex_17 => ?_)
            refine lv_istore_n (lv' := [(2, .int x_17), (5, .int x_6), (4, .int x_4), (3, .int iv4_3), (0, .ref x), (1, .ref v1)]) hx hb dX0_proves_115 rfl hl (by decide) rfl (fun ls hl => ?_)
            obtain ⟨x_18, ex_18⟩ : ∃ y : Int32, y = iv4_3 + Int32.ofInt 1 := ⟨_, rfl⟩
            have rg_19 := i32_r iv4_3
            have zx_18 : x_18.toInt = iv4_3.toInt + (1) := by rw [ex_18]; exact i32_add rfl (by decide) (by omega) (by omega)
            refine lv_iinc (v := x_18) (lv' := [(3, .int x_18), (2, .int x_17), (5, .int x_6), (4, .int x_4), (0, .ref x), (1, .ref v1)]) hx hb dX0_proves_116 hl (k := 3) rfl ex_18.symm (by decide) rfl (fun ls hl => ?_)
            refine lv_goto (tgt := 4) hx hb dX0_proves_119 (by decide) ?_
            exact ih4 x_17 x_18 _ _ L_11 h_12 (i32_r _).1 (i32_r _).2 (by omega) (by omega) (by rw [zx_18, hev9]; exact hv_cP hb9 (by omega) (by omega) (Or.inr ⟨by decide, by rcases hr_15 with z | z; (exfalso; omega); exact z.2⟩) ex_9 ex_17) (by omega) ls (by omega) hW hT hM   (lv_sub hl [0, 1, 4, 5] rfl)
          · skip
            refine lv_iconst (v := 1) hx hb dX0_proves_109 (by decide) ?_
            refine lv_goto (tgt := 114) hx hb dX0_proves_110 (by decide) ?_
            refine lv_ior hx hb dX0_proves_114 ?_
            refine lv_topi (fun x_20 ex_20 => ?_)
            refine lv_istore_n (lv' := [(2, .int x_20), (5, .int x_6), (4, .int x_4), (3, .int iv4_3), (0, .ref x), (1, .ref v1)]) hx hb dX0_proves_115 rfl hl (by decide) rfl (fun ls hl => ?_)
            obtain ⟨x_21, ex_21⟩ : ∃ y : Int32, y = iv4_3 + Int32.ofInt 1 := ⟨_, rfl⟩
            have rg_22 := i32_r iv4_3
            have zx_21 : x_21.toInt = iv4_3.toInt + (1) := by rw [ex_21]; exact i32_add rfl (by decide) (by omega) (by omega)
            refine lv_iinc (v := x_21) (lv' := [(3, .int x_21), (2, .int x_20), (5, .int x_6), (4, .int x_4), (0, .ref x), (1, .ref v1)]) hx hb dX0_proves_116 hl (k := 3) rfl ex_21.symm (by decide) rfl (fun ls hl => ?_)
            refine lv_goto (tgt := 4) hx hb dX0_proves_119 (by decide) ?_
            exact ih4 x_20 x_21 _ _ L_11 h_12 (i32_r _).1 (i32_r _).2 (by omega) (by omega) (by rw [zx_21, hev9]; exact hv_cP hb9 (by omega) (by omega) (Or.inl ⟨by decide, by rcases hr_15 with z | z; exact z.2; exfalso; omega⟩) ex_9 ex_20) (by omega) ls (by omega) hW hT hM   (lv_sub hl [0, 1, 4, 5] rfl)
        · refine lv_tableIn (off := 26) (tgt := 56) hx hb dX0_proves_30 (by omega) (by omega) (by rw [c_8]; rfl) (by decide) ?_
          refine lv_iload_n hx hb dX0_proves_56 rfl (lv_at hl 3 rfl) ?_
          refine lv_iconst (v := 1) hx hb dX0_proves_57 (by decide) ?_
          refine lv_ixor hx hb dX0_proves_58 ?_
          refine lv_topi (fun x_23 ex_23 => ?_)
          refine lv_istore_n (lv' := [(2, .int x_23), (5, .int x_6), (4, .int x_4), (3, .int iv4_3), (0, .ref x), (1, .ref v1)]) hx hb dX0_proves_59 rfl hl (by decide) rfl (fun ls hl => ?_)
          refine lv_goto (tgt := 116) hx hb dX0_proves_60 (by decide) ?_
          obtain ⟨x_24, ex_24⟩ : ∃ y : Int32, y = iv4_3 + Int32.ofInt 1 := ⟨_, rfl⟩
          have rg_25 := i32_r iv4_3
          have zx_24 : x_24.toInt = iv4_3.toInt + (1) := by rw [ex_24]; exact i32_add rfl (by decide) (by omega) (by omega)
          refine lv_iinc (v := x_24) (lv' := [(3, .int x_24), (2, .int x_23), (5, .int x_6), (4, .int x_4), (0, .ref x), (1, .ref v1)]) hx hb dX0_proves_116 hl (k := 3) rfl ex_24.symm (by decide) rfl (fun ls hl => ?_)
          refine lv_goto (tgt := 4) hx hb dX0_proves_119 (by decide) ?_
          exact ih4 x_23 x_24 _ _ hL1 hl1 (i32_r _).1 (i32_r _).2 (by omega) (by omega) (by rw [zx_24, hev9]; exact hv_cN hb9 (by omega) (by omega) (by have := hh9 (by omega); omega) ex_23) (by omega) ls (by omega) hW hT hM   (lv_sub hl [0, 1, 4, 5] rfl)
        · refine lv_tableIn (off := 48) (tgt := 78) hx hb dX0_proves_30 (by omega) (by omega) (by rw [c_8]; rfl) (by decide) ?_
          refine lv_iload_n hx hb dX0_proves_78 rfl (lv_at hl 3 rfl) ?_
          refine lv_iconst (v := 2) hx hb dX0_proves_79 (by decide) ?_
          refine lv_ishr hx hb dX0_proves_80 ?_
          refine lv_topi (fun x_26 ex_26 => ?_)
          refine lv_iconst (v := 1) hx hb dX0_proves_81 (by decide) ?_
          refine lv_ishl hx hb dX0_proves_82 ?_
          refine lv_topi (fun x_27 ex_27 => ?_)
          refine lv_iload hx hb dX0_proves_83 (lv_at hl 1 rfl) ?_
          refine lv_ior hx hb dX0_proves_85 ?_
          refine lv_topi (fun x_28 ex_28 => ?_)
          refine lv_iload hx hb dX0_proves_86 (lv_at hl 0 rfl) ?_
          refine lv_ior hx hb dX0_proves_88 ?_
          refine lv_topi (fun x_29 ex_29 => ?_)
          refine lv_istore_n (lv' := [(2, .int x_29), (5, .int x_6), (4, .int x_4), (3, .int iv4_3), (0, .ref x), (1, .ref v1)]) hx hb dX0_proves_89 rfl hl (by decide) rfl (fun ls hl => ?_)
          refine lv_goto (tgt := 116) hx hb dX0_proves_90 (by decide) ?_
          obtain ⟨x_30, ex_30⟩ : ∃ y : Int32, y = iv4_3 + Int32.ofInt 1 := ⟨_, rfl⟩
          have rg_31 := i32_r iv4_3
          have zx_30 : x_30.toInt = iv4_3.toInt + (1) := by rw [ex_30]; exact i32_add rfl (by decide) (by omega) (by omega)
          refine lv_iinc (v := x_30) (lv' := [(3, .int x_30), (2, .int x_29), (5, .int x_6), (4, .int x_4), (0, .ref x), (1, .ref v1)]) hx hb dX0_proves_116 hl (k := 3) rfl ex_30.symm (by decide) rfl (fun ls hl => ?_)
          refine lv_goto (tgt := 4) hx hb dX0_proves_119 (by decide) ?_
          exact ih4 x_29 x_30 _ _ hL1 hl1 (i32_r _).1 (i32_r _).2 (by omega) (by omega) (by rw [zx_30, hev9]; exact hv_cO hb9 (by omega) (by omega) (by have := hh9 (by omega); omega) (by omega) ex_4 ex_5 ex_6 ex_26 ex_27 ex_28 ex_29) (by omega) ls (by omega) hW hT hM   (lv_sub hl [0, 1, 4, 5] rfl)
        · refine lv_tableIn (off := 33) (tgt := 63) hx hb dX0_proves_30 (by omega) (by omega) (by rw [c_8]; rfl) (by decide) ?_
          refine lv_iload_n hx hb dX0_proves_63 rfl (lv_at hl 3 rfl) ?_
          refine lv_iconst (v := 2) hx hb dX0_proves_64 (by decide) ?_
          refine lv_ishr hx hb dX0_proves_65 ?_
          refine lv_topi (fun x_32 ex_32 => ?_)
          refine lv_iconst (v := 1) hx hb dX0_proves_66 (by decide) ?_
          refine lv_ishl hx hb dX0_proves_67 ?_
          refine lv_topi (fun x_33 ex_33 => ?_)
          refine lv_iload hx hb dX0_proves_68 (lv_at hl 1 rfl) ?_
          refine lv_iload hx hb dX0_proves_70 (lv_at hl 0 rfl) ?_
          refine lv_iand hx hb dX0_proves_72 ?_
          refine lv_topi (fun x_34 ex_34 => ?_)
          refine lv_ior hx hb dX0_proves_73 ?_
          refine lv_topi (fun x_35 ex_35 => ?_)
          refine lv_istore_n (lv' := [(2, .int x_35), (5, .int x_6), (4, .int x_4), (3, .int iv4_3), (0, .ref x), (1, .ref v1)]) hx hb dX0_proves_74 rfl hl (by decide) rfl (fun ls hl => ?_)
          refine lv_goto (tgt := 116) hx hb dX0_proves_75 (by decide) ?_
          obtain ⟨x_36, ex_36⟩ : ∃ y : Int32, y = iv4_3 + Int32.ofInt 1 := ⟨_, rfl⟩
          have rg_37 := i32_r iv4_3
          have zx_36 : x_36.toInt = iv4_3.toInt + (1) := by rw [ex_36]; exact i32_add rfl (by decide) (by omega) (by omega)
          refine lv_iinc (v := x_36) (lv' := [(3, .int x_36), (2, .int x_35), (5, .int x_6), (4, .int x_4), (0, .ref x), (1, .ref v1)]) hx hb dX0_proves_116 hl (k := 3) rfl ex_36.symm (by decide) rfl (fun ls hl => ?_)
          refine lv_goto (tgt := 4) hx hb dX0_proves_119 (by decide) ?_
          exact ih4 x_35 x_36 _ _ hL1 hl1 (i32_r _).1 (i32_r _).2 (by omega) (by omega) (by rw [zx_36, hev9]; exact hv_cA hb9 (by omega) (by omega) (by have := hh9 (by omega); omega) (by omega) ex_4 ex_5 ex_6 ex_32 ex_33 ex_34 ex_35) (by omega) ls (by omega) hW hT hM   (lv_sub hl [0, 1, 4, 5] rfl)
  have zk_0 : (0 : Int32).toInt = 0 := by decide
  have zk_0 : (0 : Int32).toInt = 0 := by decide
  exact loop4 161 (0 : Int32) (0 : Int32) _ _ L h (by decide) (by decide) (by decide) (by decide) (by rw [hv_d0 hls zk_0]; exact hv_bt_0) (by omega) ls (by omega) hW hT hM   hl
end
section
set_option maxHeartbeats 4000000 in
set_option maxRecDepth 100000 in
theorem t_X10_isSo_v (l : Launch) (dC : Nat → ClassId) (dI : Nat → Nat → Nat) (dA : Nat → ClassId) (L : List Nat) (h : hx_h) (sz : Nat) (x : Nat) (i1 : Int32) (i2 : Int32) (hT : hx_T T_tb L h) (gx : hx_g L h x 10) (qf : Nat) (gqf : hx_g L h qf 88) (f_x_53 : h.2.2 x 53 = some qf) (rf : Nat → Int32) (af_qf : h.2.1 qf = rf) (hi1 : 0 ≤ i1.toInt ∧ i1.toInt ≤ 99) (t : hv_tok) (hvt : hv_vt t) (ht1 : 1 ≤ t.1) (hi2 : i2.toInt = hv_rc t) : Met l yX10_isSo (Cond.code yX10_isSo cX10_isSo 6 (some .boolean) :: hx_all) ({ frames := 0, cells := 0, slots := 0, locals := 0 }) (va_Pc [.ref x, .int i1, .int i2] (hx_B T_tb (P_ty dA) (dC, dI) vwCl L h sz)) (va_Qi (fun (r : Int32) (u : List Nat × hx_h) => ((r.toInt = 1 ∧ hv_hd (hv_F0 rf (8 * i1.toInt.toNat)) t = true) ∨ (r.toInt = 0 ∧ hv_hd (hv_F0 rf (8 * i1.toInt.toNat)) t = false)) ∧ hx_T T_tb u.1 u.2 ∧ hx_S T_tb [] L h u.1 u.2) (hx_E T_tb (P_ty dA) (dC, dI) vwCl (hx_A L sz)) (hx_A L sz)) 0 0 (hx_A L sz) := by
  refine hx_met (lv := [(0, .ref x), (1, .int i1), (2, .int i2)]) (by decide +kernel) rfl (Nat.le_of_ble_eq_true rfl) rfl ?_
  intro p e s m below meth c hx hb hml hr hlk hts0 hown hin hsz hW ls hl
  have hts : ∀ w ∈ hx_all, w.before _ s = true := fun w hw => hts0 w (List.mem_cons_of_mem _ hw)
  have hown : s.vm.findClass "SmallCourtModel" = some m.cls := hown
  have hM : hx_S T_tb [] L h L h := hx_S.rf
  have hrd := hv_rc_d hvt ht1
  have hvb : (1 ≤ t.1 ∧ t.1 ≤ 8) ∧ t.2.1 ≤ 4 ∧ 0 ≤ t.2.2 ∧ t.2.2 ≤ 10007 := by rcases hvt with ⟨a, _⟩ | ⟨a, b, c, d, e⟩; (exfalso; omega); exact ⟨⟨a, b⟩, c, d, e⟩
  refine lv_aload_n hx hb dX10_isSo_0 rfl (lv_at hl 0 rfl) ?_
  refine hk_getr hx hb hts hC_10 hown hW (gx.S hM) tt_10 53 (by decide) rfl kw_1196 ⟨rfl, rfl, rfl⟩ ((hM.o gx trivial rfl).2.trans f_x_53) dX10_isSo_1 ?_
  refine lv_bipush (v := 8) hx hb dX10_isSo_4 (by decide) ?_
  refine lv_iload_n hx hb dX10_isSo_6 rfl (lv_at hl 1 rfl) ?_
  refine lv_imul hx hb dX10_isSo_7 ?_
  refine lv_topi (fun x_1 ex_1 => ?_)
  have zx_1 : x_1.toInt = 8 * i1.toInt := by rw [ex_1]; exact i32_mul (by decide) rfl rfl (by omega) (by omega)
  refine lv_iload_n hx hb dX10_isSo_8 rfl (lv_at hl 2 rfl) ?_
  refine lv_ldcw (v := 1000000) hx hb hown (hts _ kw_1133) dX10_isSo_9 ?_
  refine lv_idiv hx hb dX10_isSo_12 (by decide) ?_
  refine lv_topi (fun x_2 ex_2 => ?_)
  have zx_2 : x_2.toInt = i2.toInt / 1000000 := by rw [ex_2, hx_dv (by omega) (by decide)]; rfl
  refine lv_iadd hx hb dX10_isSo_13 ?_
  have rg_3 := i32_r x_1
  have rg_4 := i32_r x_2
  refine lv_topi (fun x_5 ex_5 => ?_)
  have zx_5 : x_5.toInt = x_1.toInt + x_2.toInt := by rw [ex_5]; exact i32_add rfl rfl (by omega) (by omega)
  refine lv_iconst (v := 1) hx hb dX10_isSo_14 (by decide) ?_
  refine lv_isub hx hb dX10_isSo_15 ?_
  have rg_6 := i32_r x_5
  refine lv_topi (fun x_7 ex_7 => ?_)
  have zx_7 : x_7.toInt = x_5.toInt - 1 := by rw [ex_7]; exact i32_sub rfl (by decide) (by omega) (by omega)
  refine hx_iald hx hb hW hT (gqf.S hM) tt_88 rfl ⟨by omega, by omega⟩ dX10_isSo_16 (fun x_8 ex_8 lx_8 ux_8 => ?_)
  have ax_8 : x_8 = rf x_7.toNatClampNeg := ex_8.trans (congrFun (hx_afS hM gqf rfl af_qf) _)
  refine lv_istore_n (lv' := [(3, .int x_8), (0, .ref x), (1, .int i1), (2, .int i2)]) hx hb dX10_isSo_17 rfl hl (by decide) rfl (fun ls hl => ?_)
  refine lv_iload_n hx hb dX10_isSo_18 rfl (lv_at hl 3 rfl) ?_
  refine lv_ldcw (v := 100000) hx hb hown (hts _ kw_1134) dX10_isSo_19 ?_
  refine lv_irem hx hb dX10_isSo_22 (by decide) ?_
  refine lv_topi (fun x_9 ex_9 => ?_)
  have zx_9 : x_9.toInt = i2.toInt % 100000 := by rw [ex_9, hx_remz (by omega) (by decide)]; rfl
  refine lv_istore (lv' := [(4, .int x_9), (3, .int x_8), (0, .ref x), (1, .int i1), (2, .int i2)]) hx hb dX10_isSo_23 hl (by decide) rfl (fun ls hl => ?_)
  refine lv_iload hx hb dX10_isSo_25 (lv_at hl 0 rfl) ?_
  refine lv_sipush (v := 10000) hx hb dX10_isSo_27 (by decide) ?_
  refine hb_icmp_lt (zx := x_9.toInt) (zy := 10000) (tgt := 52) hx hb rfl (by decide) dX10_isSo_30 (by decide) (fun c_10 => ?_) (fun c_10 => ?_)
  · skip
    refine lv_iload hx hb dX10_isSo_52 (lv_at hl 0 rfl) ?_
    refine lv_istore (lv' := [(5, .int x_9), (4, .int x_9), (3, .int x_8), (0, .ref x), (1, .int i1), (2, .int i2)]) hx hb dX10_isSo_54 hl (by decide) rfl (fun ls hl => ?_)
    refine lv_iload_n hx hb dX10_isSo_56 rfl (lv_at hl 5 rfl) ?_
    refine lv_ldcw (v := 100000) hx hb hown (hts _ kw_1134) dX10_isSo_57 ?_
    refine lv_idiv hx hb dX10_isSo_60 (by decide) ?_
    refine lv_topi (fun x_11 ex_11 => ?_)
    have zx_11 : x_11.toInt = i2.toInt / 100000 := by rw [ex_11, hx_dv (by omega) (by decide)]; rfl
    refine lv_bipush (v := 10) hx hb dX10_isSo_61 (by decide) ?_
    refine lv_irem hx hb dX10_isSo_63 (by decide) ?_
    refine lv_topi (fun x_12 ex_12 => ?_)
    have zx_12 : x_12.toInt = x_11.toInt % 10 := by rw [ex_12, hx_remz (by omega) (by decide)]; rfl
    have harm9 : x_12.toInt = (t.2.1 : Int) := by rw [zx_12, zx_11, hi2]; exact hrd.2.2.2
    rcases (show (x_12.toInt < 0 ∨ 3 < x_12.toInt) ∨ x_12.toInt = 0 ∨ x_12.toInt = 1 ∨ x_12.toInt = 2 ∨ x_12.toInt = 3 from by omega) with c_13 | c_13 | c_13 | c_13 | c_13
    · refine lv_tableOut (tgt := 144) hx hb dX10_isSo_64 c_13 (by decide) ?_
      refine lv_iload_n hx hb dX10_isSo_144 rfl (lv_at hl 2 rfl) ?_
      refine lv_iload hx hb dX10_isSo_145 (lv_at hl 0 rfl) ?_
      refine hb_icmp_le (zx := x_8.toInt) (zy := x_9.toInt) (tgt := 154) hx hb rfl rfl dX10_isSo_147 (by decide) (fun c_14 => ?_) (fun c_14 => ?_)
      · skip
        refine lv_iconst (v := 0) hx hb dX10_isSo_154 (by decide) ?_
        exact hx_retz hx hb hr rfl hlk hW ⟨(Or.inr ⟨by decide, hv_nb ((hv_hd_m (F := (hv_F0 rf (8 * i1.toInt.toNat))) (l := x_8.toInt) (r := x_9.toInt) (by rw [ax_8]; exact congrArg (fun z => (rf z).toInt) (show x_7.toNatClampNeg = (t.1 - 1).toNat + 8 * i1.toInt.toNat by unfold Int32.toNatClampNeg; omega)) (by rw [if_neg (by omega)]; omega)).2.2.2.2 (by omega)) (by omega)⟩), hT, hM⟩ dX10_isSo_155
      · skip
        refine lv_iconst (v := 1) hx hb dX10_isSo_150 (by decide) ?_
        refine lv_goto (tgt := 155) hx hb dX10_isSo_151 (by decide) ?_
        exact hx_retz hx hb hr rfl hlk hW ⟨(Or.inl ⟨by decide, ((hv_hd_m (F := (hv_F0 rf (8 * i1.toInt.toNat))) (l := x_8.toInt) (r := x_9.toInt) (by rw [ax_8]; exact congrArg (fun z => (rf z).toInt) (show x_7.toNatClampNeg = (t.1 - 1).toNat + 8 * i1.toInt.toNat by unfold Int32.toNatClampNeg; omega)) (by rw [if_neg (by omega)]; omega)).2.2.2.2 (by omega)).mpr (by omega)⟩), hT, hM⟩ dX10_isSo_155
    · refine lv_tableIn (off := 32) (tgt := 96) hx hb dX10_isSo_64 (by omega) (by omega) (by rw [c_13]; rfl) (by decide) ?_
      refine lv_iload_n hx hb dX10_isSo_96 rfl (lv_at hl 2 rfl) ?_
      refine lv_iload hx hb dX10_isSo_97 (lv_at hl 0 rfl) ?_
      refine hb_icmp_ge (zx := x_8.toInt) (zy := x_9.toInt) (tgt := 106) hx hb rfl rfl dX10_isSo_99 (by decide) (fun c_15 => ?_) (fun c_15 => ?_)
      · skip
        refine lv_iconst (v := 0) hx hb dX10_isSo_106 (by decide) ?_
        exact hx_retz hx hb hr rfl hlk hW ⟨(Or.inr ⟨by decide, hv_nb ((hv_hd_m (F := (hv_F0 rf (8 * i1.toInt.toNat))) (l := x_8.toInt) (r := x_9.toInt) (by rw [ax_8]; exact congrArg (fun z => (rf z).toInt) (show x_7.toNatClampNeg = (t.1 - 1).toNat + 8 * i1.toInt.toNat by unfold Int32.toNatClampNeg; omega)) (by rw [if_neg (by omega)]; omega)).1 (by omega)) (by omega)⟩), hT, hM⟩ dX10_isSo_107
      · skip
        refine lv_iconst (v := 1) hx hb dX10_isSo_102 (by decide) ?_
        refine lv_goto (tgt := 107) hx hb dX10_isSo_103 (by decide) ?_
        exact hx_retz hx hb hr rfl hlk hW ⟨(Or.inl ⟨by decide, ((hv_hd_m (F := (hv_F0 rf (8 * i1.toInt.toNat))) (l := x_8.toInt) (r := x_9.toInt) (by rw [ax_8]; exact congrArg (fun z => (rf z).toInt) (show x_7.toNatClampNeg = (t.1 - 1).toNat + 8 * i1.toInt.toNat by unfold Int32.toNatClampNeg; omega)) (by rw [if_neg (by omega)]; omega)).1 (by omega)).mpr (by omega)⟩), hT, hM⟩ dX10_isSo_107
    · refine lv_tableIn (off := 44) (tgt := 108) hx hb dX10_isSo_64 (by omega) (by omega) (by rw [c_13]; rfl) (by decide) ?_
      refine lv_iload_n hx hb dX10_isSo_108 rfl (lv_at hl 2 rfl) ?_
      refine lv_iload hx hb dX10_isSo_109 (lv_at hl 0 rfl) ?_
      refine hb_icmp_gt (zx := x_8.toInt) (zy := x_9.toInt) (tgt := 118) hx hb rfl rfl dX10_isSo_111 (by decide) (fun c_16 => ?_) (fun c_16 => ?_)
      · skip
        refine lv_iconst (v := 0) hx hb dX10_isSo_118 (by decide) ?_
        exact hx_retz hx hb hr rfl hlk hW ⟨(Or.inr ⟨by decide, hv_nb ((hv_hd_m (F := (hv_F0 rf (8 * i1.toInt.toNat))) (l := x_8.toInt) (r := x_9.toInt) (by rw [ax_8]; exact congrArg (fun z => (rf z).toInt) (show x_7.toNatClampNeg = (t.1 - 1).toNat + 8 * i1.toInt.toNat by unfold Int32.toNatClampNeg; omega)) (by rw [if_neg (by omega)]; omega)).2.1 (by omega)) (by omega)⟩), hT, hM⟩ dX10_isSo_119
      · skip
        refine lv_iconst (v := 1) hx hb dX10_isSo_114 (by decide) ?_
        refine lv_goto (tgt := 119) hx hb dX10_isSo_115 (by decide) ?_
        exact hx_retz hx hb hr rfl hlk hW ⟨(Or.inl ⟨by decide, ((hv_hd_m (F := (hv_F0 rf (8 * i1.toInt.toNat))) (l := x_8.toInt) (r := x_9.toInt) (by rw [ax_8]; exact congrArg (fun z => (rf z).toInt) (show x_7.toNatClampNeg = (t.1 - 1).toNat + 8 * i1.toInt.toNat by unfold Int32.toNatClampNeg; omega)) (by rw [if_neg (by omega)]; omega)).2.1 (by omega)).mpr (by omega)⟩), hT, hM⟩ dX10_isSo_119
    · refine lv_tableIn (off := 56) (tgt := 120) hx hb dX10_isSo_64 (by omega) (by omega) (by rw [c_13]; rfl) (by decide) ?_
      refine lv_iload_n hx hb dX10_isSo_120 rfl (lv_at hl 2 rfl) ?_
      refine lv_iload hx hb dX10_isSo_121 (lv_at hl 0 rfl) ?_
      refine hb_icmp_ne (zx := x_8.toInt) (zy := x_9.toInt) (tgt := 130) hx hb rfl rfl dX10_isSo_123 (by decide) (fun c_17 => ?_) (fun c_17 => ?_)
      · skip
        refine lv_iconst (v := 0) hx hb dX10_isSo_130 (by decide) ?_
        exact hx_retz hx hb hr rfl hlk hW ⟨(Or.inr ⟨by decide, hv_nb ((hv_hd_m (F := (hv_F0 rf (8 * i1.toInt.toNat))) (l := x_8.toInt) (r := x_9.toInt) (by rw [ax_8]; exact congrArg (fun z => (rf z).toInt) (show x_7.toNatClampNeg = (t.1 - 1).toNat + 8 * i1.toInt.toNat by unfold Int32.toNatClampNeg; omega)) (by rw [if_neg (by omega)]; omega)).2.2.1 (by omega)) (by omega)⟩), hT, hM⟩ dX10_isSo_131
      · skip
        refine lv_iconst (v := 1) hx hb dX10_isSo_126 (by decide) ?_
        refine lv_goto (tgt := 131) hx hb dX10_isSo_127 (by decide) ?_
        exact hx_retz hx hb hr rfl hlk hW ⟨(Or.inl ⟨by decide, ((hv_hd_m (F := (hv_F0 rf (8 * i1.toInt.toNat))) (l := x_8.toInt) (r := x_9.toInt) (by rw [ax_8]; exact congrArg (fun z => (rf z).toInt) (show x_7.toNatClampNeg = (t.1 - 1).toNat + 8 * i1.toInt.toNat by unfold Int32.toNatClampNeg; omega)) (by rw [if_neg (by omega)]; omega)).2.2.1 (by omega)).mpr (by omega)⟩), hT, hM⟩ dX10_isSo_131
    · refine lv_tableIn (off := 68) (tgt := 132) hx hb dX10_isSo_64 (by omega) (by omega) (by rw [c_13]; rfl) (by decide) ?_
      refine lv_iload_n hx hb dX10_isSo_132 rfl (lv_at hl 2 rfl) ?_
      refine lv_iload hx hb dX10_isSo_133 (lv_at hl 0 rfl) ?_
      refine hb_icmp_lt (zx := x_8.toInt) (zy := x_9.toInt) (tgt := 142) hx hb rfl rfl dX10_isSo_135 (by decide) (fun c_18 => ?_) (fun c_18 => ?_)
      · skip
        refine lv_iconst (v := 0) hx hb dX10_isSo_142 (by decide) ?_
        exact hx_retz hx hb hr rfl hlk hW ⟨(Or.inr ⟨by decide, hv_nb ((hv_hd_m (F := (hv_F0 rf (8 * i1.toInt.toNat))) (l := x_8.toInt) (r := x_9.toInt) (by rw [ax_8]; exact congrArg (fun z => (rf z).toInt) (show x_7.toNatClampNeg = (t.1 - 1).toNat + 8 * i1.toInt.toNat by unfold Int32.toNatClampNeg; omega)) (by rw [if_neg (by omega)]; omega)).2.2.2.1 (by omega)) (by omega)⟩), hT, hM⟩ dX10_isSo_143
      · skip
        refine lv_iconst (v := 1) hx hb dX10_isSo_138 (by decide) ?_
        refine lv_goto (tgt := 143) hx hb dX10_isSo_139 (by decide) ?_
        exact hx_retz hx hb hr rfl hlk hW ⟨(Or.inl ⟨by decide, ((hv_hd_m (F := (hv_F0 rf (8 * i1.toInt.toNat))) (l := x_8.toInt) (r := x_9.toInt) (by rw [ax_8]; exact congrArg (fun z => (rf z).toInt) (show x_7.toNatClampNeg = (t.1 - 1).toNat + 8 * i1.toInt.toNat by unfold Int32.toNatClampNeg; omega)) (by rw [if_neg (by omega)]; omega)).2.2.2.1 (by omega)).mpr (by omega)⟩), hT, hM⟩ dX10_isSo_143
  · skip
    refine lv_aload_n hx hb dX10_isSo_33 rfl (lv_at hl 2 rfl) ?_
    refine hk_getr hx hb hts hC_10 hown hW (gx.S hM) tt_10 53 (by decide) rfl kw_1196 ⟨rfl, rfl, rfl⟩ ((hM.o gx trivial rfl).2.trans f_x_53) dX10_isSo_34 ?_
    refine lv_bipush (v := 8) hx hb dX10_isSo_37 (by decide) ?_
    refine lv_iload_n hx hb dX10_isSo_39 rfl (lv_at hl 3 rfl) ?_
    refine lv_imul hx hb dX10_isSo_40 ?_
    refine lv_topi (fun x_19 ex_19 => ?_)
    have zx_19 : x_19.toInt = 8 * i1.toInt := by rw [ex_19]; exact i32_mul (by decide) rfl rfl (by omega) (by omega)
    refine lv_iload hx hb dX10_isSo_41 (lv_at hl 0 rfl) ?_
    refine lv_iadd hx hb dX10_isSo_43 ?_
    have rg_20 := i32_r x_19
    have rg_21 := i32_r x_9
    refine lv_topi (fun x_22 ex_22 => ?_)
    have zx_22 : x_22.toInt = x_19.toInt + x_9.toInt := by rw [ex_22]; exact i32_add rfl rfl (by omega) (by omega)
    refine lv_sipush (v := 10000) hx hb dX10_isSo_44 (by decide) ?_
    refine lv_isub hx hb dX10_isSo_47 ?_
    have rg_23 := i32_r x_22
    refine lv_topi (fun x_24 ex_24 => ?_)
    have zx_24 : x_24.toInt = x_22.toInt - 10000 := by rw [ex_24]; exact i32_sub rfl (by decide) (by omega) (by omega)
    refine hx_iald hx hb hW hT (gqf.S hM) tt_88 rfl ⟨by omega, by omega⟩ dX10_isSo_48 (fun x_25 ex_25 lx_25 ux_25 => ?_)
    have ax_25 : x_25 = rf x_24.toNatClampNeg := ex_25.trans (congrFun (hx_afS hM gqf rfl af_qf) _)
    refine lv_goto (tgt := 54) hx hb dX10_isSo_49 (by decide) ?_
    refine lv_istore (lv' := [(5, .int x_25), (4, .int x_9), (3, .int x_8), (0, .ref x), (1, .int i1), (2, .int i2)]) hx hb dX10_isSo_54 hl (by decide) rfl (fun ls hl => ?_)
    refine lv_iload_n hx hb dX10_isSo_56 rfl (lv_at hl 5 rfl) ?_
    refine lv_ldcw (v := 100000) hx hb hown (hts _ kw_1134) dX10_isSo_57 ?_
    refine lv_idiv hx hb dX10_isSo_60 (by decide) ?_
    refine lv_topi (fun x_26 ex_26 => ?_)
    have zx_26 : x_26.toInt = i2.toInt / 100000 := by rw [ex_26, hx_dv (by omega) (by decide)]; rfl
    refine lv_bipush (v := 10) hx hb dX10_isSo_61 (by decide) ?_
    refine lv_irem hx hb dX10_isSo_63 (by decide) ?_
    refine lv_topi (fun x_27 ex_27 => ?_)
    have zx_27 : x_27.toInt = x_26.toInt % 10 := by rw [ex_27, hx_remz (by omega) (by decide)]; rfl
    have harm9 : x_27.toInt = (t.2.1 : Int) := by rw [zx_27, zx_26, hi2]; exact hrd.2.2.2
    rcases (show (x_27.toInt < 0 ∨ 3 < x_27.toInt) ∨ x_27.toInt = 0 ∨ x_27.toInt = 1 ∨ x_27.toInt = 2 ∨ x_27.toInt = 3 from by omega) with c_28 | c_28 | c_28 | c_28 | c_28
    · refine lv_tableOut (tgt := 144) hx hb dX10_isSo_64 c_28 (by decide) ?_
      refine lv_iload_n hx hb dX10_isSo_144 rfl (lv_at hl 2 rfl) ?_
      refine lv_iload hx hb dX10_isSo_145 (lv_at hl 0 rfl) ?_
      refine hb_icmp_le (zx := x_8.toInt) (zy := x_25.toInt) (tgt := 154) hx hb rfl rfl dX10_isSo_147 (by decide) (fun c_29 => ?_) (fun c_29 => ?_)
      · skip
        refine lv_iconst (v := 0) hx hb dX10_isSo_154 (by decide) ?_
        exact hx_retz hx hb hr rfl hlk hW ⟨(Or.inr ⟨by decide, hv_nb ((hv_hd_m (F := (hv_F0 rf (8 * i1.toInt.toNat))) (l := x_8.toInt) (r := x_25.toInt) (by rw [ax_8]; exact congrArg (fun z => (rf z).toInt) (show x_7.toNatClampNeg = (t.1 - 1).toNat + 8 * i1.toInt.toNat by unfold Int32.toNatClampNeg; omega)) (by rw [if_pos (by omega)]; exact (by rw [ax_25]; exact congrArg (fun z => (rf z).toInt) (show x_24.toNatClampNeg = (t.2.2 - 10000).toNat + 8 * i1.toInt.toNat by unfold Int32.toNatClampNeg; omega)))).2.2.2.2 (by omega)) (by omega)⟩), hT, hM⟩ dX10_isSo_155
      · skip
        refine lv_iconst (v := 1) hx hb dX10_isSo_150 (by decide) ?_
        refine lv_goto (tgt := 155) hx hb dX10_isSo_151 (by decide) ?_
        exact hx_retz hx hb hr rfl hlk hW ⟨(Or.inl ⟨by decide, ((hv_hd_m (F := (hv_F0 rf (8 * i1.toInt.toNat))) (l := x_8.toInt) (r := x_25.toInt) (by rw [ax_8]; exact congrArg (fun z => (rf z).toInt) (show x_7.toNatClampNeg = (t.1 - 1).toNat + 8 * i1.toInt.toNat by unfold Int32.toNatClampNeg; omega)) (by rw [if_pos (by omega)]; exact (by rw [ax_25]; exact congrArg (fun z => (rf z).toInt) (show x_24.toNatClampNeg = (t.2.2 - 10000).toNat + 8 * i1.toInt.toNat by unfold Int32.toNatClampNeg; omega)))).2.2.2.2 (by omega)).mpr (by omega)⟩), hT, hM⟩ dX10_isSo_155
    · refine lv_tableIn (off := 32) (tgt := 96) hx hb dX10_isSo_64 (by omega) (by omega) (by rw [c_28]; rfl) (by decide) ?_
      refine lv_iload_n hx hb dX10_isSo_96 rfl (lv_at hl 2 rfl) ?_
      refine lv_iload hx hb dX10_isSo_97 (lv_at hl 0 rfl) ?_
      refine hb_icmp_ge (zx := x_8.toInt) (zy := x_25.toInt) (tgt := 106) hx hb rfl rfl dX10_isSo_99 (by decide) (fun c_30 => ?_) (fun c_30 => ?_)
      · skip
        refine lv_iconst (v := 0) hx hb dX10_isSo_106 (by decide) ?_
        exact hx_retz hx hb hr rfl hlk hW ⟨(Or.inr ⟨by decide, hv_nb ((hv_hd_m (F := (hv_F0 rf (8 * i1.toInt.toNat))) (l := x_8.toInt) (r := x_25.toInt) (by rw [ax_8]; exact congrArg (fun z => (rf z).toInt) (show x_7.toNatClampNeg = (t.1 - 1).toNat + 8 * i1.toInt.toNat by unfold Int32.toNatClampNeg; omega)) (by rw [if_pos (by omega)]; exact (by rw [ax_25]; exact congrArg (fun z => (rf z).toInt) (show x_24.toNatClampNeg = (t.2.2 - 10000).toNat + 8 * i1.toInt.toNat by unfold Int32.toNatClampNeg; omega)))).1 (by omega)) (by omega)⟩), hT, hM⟩ dX10_isSo_107
      · skip
        refine lv_iconst (v := 1) hx hb dX10_isSo_102 (by decide) ?_
        refine lv_goto (tgt := 107) hx hb dX10_isSo_103 (by decide) ?_
        exact hx_retz hx hb hr rfl hlk hW ⟨(Or.inl ⟨by decide, ((hv_hd_m (F := (hv_F0 rf (8 * i1.toInt.toNat))) (l := x_8.toInt) (r := x_25.toInt) (by rw [ax_8]; exact congrArg (fun z => (rf z).toInt) (show x_7.toNatClampNeg = (t.1 - 1).toNat + 8 * i1.toInt.toNat by unfold Int32.toNatClampNeg; omega)) (by rw [if_pos (by omega)]; exact (by rw [ax_25]; exact congrArg (fun z => (rf z).toInt) (show x_24.toNatClampNeg = (t.2.2 - 10000).toNat + 8 * i1.toInt.toNat by unfold Int32.toNatClampNeg; omega)))).1 (by omega)).mpr (by omega)⟩), hT, hM⟩ dX10_isSo_107
    · refine lv_tableIn (off := 44) (tgt := 108) hx hb dX10_isSo_64 (by omega) (by omega) (by rw [c_28]; rfl) (by decide) ?_
      refine lv_iload_n hx hb dX10_isSo_108 rfl (lv_at hl 2 rfl) ?_
      refine lv_iload hx hb dX10_isSo_109 (lv_at hl 0 rfl) ?_
      refine hb_icmp_gt (zx := x_8.toInt) (zy := x_25.toInt) (tgt := 118) hx hb rfl rfl dX10_isSo_111 (by decide) (fun c_31 => ?_) (fun c_31 => ?_)
      · skip
        refine lv_iconst (v := 0) hx hb dX10_isSo_118 (by decide) ?_
        exact hx_retz hx hb hr rfl hlk hW ⟨(Or.inr ⟨by decide, hv_nb ((hv_hd_m (F := (hv_F0 rf (8 * i1.toInt.toNat))) (l := x_8.toInt) (r := x_25.toInt) (by rw [ax_8]; exact congrArg (fun z => (rf z).toInt) (show x_7.toNatClampNeg = (t.1 - 1).toNat + 8 * i1.toInt.toNat by unfold Int32.toNatClampNeg; omega)) (by rw [if_pos (by omega)]; exact (by rw [ax_25]; exact congrArg (fun z => (rf z).toInt) (show x_24.toNatClampNeg = (t.2.2 - 10000).toNat + 8 * i1.toInt.toNat by unfold Int32.toNatClampNeg; omega)))).2.1 (by omega)) (by omega)⟩), hT, hM⟩ dX10_isSo_119
      · skip
        refine lv_iconst (v := 1) hx hb dX10_isSo_114 (by decide) ?_
        refine lv_goto (tgt := 119) hx hb dX10_isSo_115 (by decide) ?_
        exact hx_retz hx hb hr rfl hlk hW ⟨(Or.inl ⟨by decide, ((hv_hd_m (F := (hv_F0 rf (8 * i1.toInt.toNat))) (l := x_8.toInt) (r := x_25.toInt) (by rw [ax_8]; exact congrArg (fun z => (rf z).toInt) (show x_7.toNatClampNeg = (t.1 - 1).toNat + 8 * i1.toInt.toNat by unfold Int32.toNatClampNeg; omega)) (by rw [if_pos (by omega)]; exact (by rw [ax_25]; exact congrArg (fun z => (rf z).toInt) (show x_24.toNatClampNeg = (t.2.2 - 10000).toNat + 8 * i1.toInt.toNat by unfold Int32.toNatClampNeg; omega)))).2.1 (by omega)).mpr (by omega)⟩), hT, hM⟩ dX10_isSo_119
    · refine lv_tableIn (off := 56) (tgt := 120) hx hb dX10_isSo_64 (by omega) (by omega) (by rw [c_28]; rfl) (by decide) ?_
      refine lv_iload_n hx hb dX10_isSo_120 rfl (lv_at hl 2 rfl) ?_
      refine lv_iload hx hb dX10_isSo_121 (lv_at hl 0 rfl) ?_
      refine hb_icmp_ne (zx := x_8.toInt) (zy := x_25.toInt) (tgt := 130) hx hb rfl rfl dX10_isSo_123 (by decide) (fun c_32 => ?_) (fun c_32 => ?_)
      · skip
        refine lv_iconst (v := 0) hx hb dX10_isSo_130 (by decide) ?_
        exact hx_retz hx hb hr rfl hlk hW ⟨(Or.inr ⟨by decide, hv_nb ((hv_hd_m (F := (hv_F0 rf (8 * i1.toInt.toNat))) (l := x_8.toInt) (r := x_25.toInt) (by rw [ax_8]; exact congrArg (fun z => (rf z).toInt) (show x_7.toNatClampNeg = (t.1 - 1).toNat + 8 * i1.toInt.toNat by unfold Int32.toNatClampNeg; omega)) (by rw [if_pos (by omega)]; exact (by rw [ax_25]; exact congrArg (fun z => (rf z).toInt) (show x_24.toNatClampNeg = (t.2.2 - 10000).toNat + 8 * i1.toInt.toNat by unfold Int32.toNatClampNeg; omega)))).2.2.1 (by omega)) (by omega)⟩), hT, hM⟩ dX10_isSo_131
      · skip
        refine lv_iconst (v := 1) hx hb dX10_isSo_126 (by decide) ?_
        refine lv_goto (tgt := 131) hx hb dX10_isSo_127 (by decide) ?_
        exact hx_retz hx hb hr rfl hlk hW ⟨(Or.inl ⟨by decide, ((hv_hd_m (F := (hv_F0 rf (8 * i1.toInt.toNat))) (l := x_8.toInt) (r := x_25.toInt) (by rw [ax_8]; exact congrArg (fun z => (rf z).toInt) (show x_7.toNatClampNeg = (t.1 - 1).toNat + 8 * i1.toInt.toNat by unfold Int32.toNatClampNeg; omega)) (by rw [if_pos (by omega)]; exact (by rw [ax_25]; exact congrArg (fun z => (rf z).toInt) (show x_24.toNatClampNeg = (t.2.2 - 10000).toNat + 8 * i1.toInt.toNat by unfold Int32.toNatClampNeg; omega)))).2.2.1 (by omega)).mpr (by omega)⟩), hT, hM⟩ dX10_isSo_131
    · refine lv_tableIn (off := 68) (tgt := 132) hx hb dX10_isSo_64 (by omega) (by omega) (by rw [c_28]; rfl) (by decide) ?_
      refine lv_iload_n hx hb dX10_isSo_132 rfl (lv_at hl 2 rfl) ?_
      refine lv_iload hx hb dX10_isSo_133 (lv_at hl 0 rfl) ?_
      refine hb_icmp_lt (zx := x_8.toInt) (zy := x_25.toInt) (tgt := 142) hx hb rfl rfl dX10_isSo_135 (by decide) (fun c_33 => ?_) (fun c_33 => ?_)
      · skip
        refine lv_iconst (v := 0) hx hb dX10_isSo_142 (by decide) ?_
        exact hx_retz hx hb hr rfl hlk hW ⟨(Or.inr ⟨by decide, hv_nb ((hv_hd_m (F := (hv_F0 rf (8 * i1.toInt.toNat))) (l := x_8.toInt) (r := x_25.toInt) (by rw [ax_8]; exact congrArg (fun z => (rf z).toInt) (show x_7.toNatClampNeg = (t.1 - 1).toNat + 8 * i1.toInt.toNat by unfold Int32.toNatClampNeg; omega)) (by rw [if_pos (by omega)]; exact (by rw [ax_25]; exact congrArg (fun z => (rf z).toInt) (show x_24.toNatClampNeg = (t.2.2 - 10000).toNat + 8 * i1.toInt.toNat by unfold Int32.toNatClampNeg; omega)))).2.2.2.1 (by omega)) (by omega)⟩), hT, hM⟩ dX10_isSo_143
      · skip
        refine lv_iconst (v := 1) hx hb dX10_isSo_138 (by decide) ?_
        refine lv_goto (tgt := 143) hx hb dX10_isSo_139 (by decide) ?_
        exact hx_retz hx hb hr rfl hlk hW ⟨(Or.inl ⟨by decide, ((hv_hd_m (F := (hv_F0 rf (8 * i1.toInt.toNat))) (l := x_8.toInt) (r := x_25.toInt) (by rw [ax_8]; exact congrArg (fun z => (rf z).toInt) (show x_7.toNatClampNeg = (t.1 - 1).toNat + 8 * i1.toInt.toNat by unfold Int32.toNatClampNeg; omega)) (by rw [if_pos (by omega)]; exact (by rw [ax_25]; exact congrArg (fun z => (rf z).toInt) (show x_24.toNatClampNeg = (t.2.2 - 10000).toNat + 8 * i1.toInt.toNat by unfold Int32.toNatClampNeg; omega)))).2.2.2.1 (by omega)).mpr (by omega)⟩), hT, hM⟩ dX10_isSo_143


set_option maxHeartbeats 4000000 in
set_option maxRecDepth 100000 in
theorem t_X10_isProved_v (l : Launch) (dC : Nat → ClassId) (dI : Nat → Nat → Nat) (dA : Nat → ClassId) (L : List Nat) (h : hx_h) (sz : Nat) (x : Nat) (i1 : Int32) (i2 : Int32) (hT : hx_T T_tb L h) (gx : hx_g L h x 10) (qn : Nat) (gqn : hx_g L h qn 51) (f_x_4 : h.2.2 x 4 = some qn) (qp : Nat) (gqp : hx_g L h qp 52) (f_x_5 : h.2.2 x 5 = some qp) (qs : Nat) (gqs : hx_g L h qs 99) (f_x_66 : h.2.2 x 66 = some qs) (qf : Nat) (gqf : hx_g L h qf 88) (f_x_53 : h.2.2 x 53 = some qf) (psf : Nat → Int32) (af_qn : h.2.1 qn = psf) (prf : Nat → Int32) (af_qp : h.2.1 qp = prf) (sf : Nat → Int32) (af_qs : h.2.1 qs = sf) (rf : Nat → Int32) (af_qf : h.2.1 qf = rf) (hi1 : 0 ≤ i1.toInt ∧ i1.toInt ≤ 99) (hi2 : 0 ≤ i2.toInt ∧ i2.toInt ≤ 8) (o : List hv_tok) (hO : hv_OK o) (hls : hv_ls (fun i => prf (128 * i2.toInt.toNat + i)) (psf i2.toInt.toNat).toInt.toNat = o.map hv_rc) (hps : (psf i2.toInt.toNat).toInt ≤ 128) : Met l yX10_isProved (Cond.code yX10_isProved cX10_isProved 6 (some .boolean) :: hx_all) ({ frames := 1, cells := 0, slots := 0, locals := 25 }) (va_Pc [.ref x, .int i1, .int i2] (hx_B T_tb (P_ty dA) (dC, dI) vwCl L h sz)) (va_Qi (fun (r : Int32) (u : List Nat × hx_h) => ((r.toInt = 1 ∧ hv_pr (hv_F0 rf (8 * i1.toInt.toNat)) o = true) ∨ (r.toInt = 0 ∧ hv_pr (hv_F0 rf (8 * i1.toInt.toNat)) o = false)) ∧ hx_T T_tb u.1 u.2 ∧ hx_S T_tb [(99, 0)] L h u.1 u.2) (hx_E T_tb (P_ty dA) (dC, dI) vwCl (hx_A L sz)) (hx_A L sz)) 0 0 (hx_A L sz) := by
  refine hx_met (lv := [(0, .ref x), (1, .int i1), (2, .int i2)]) (by decide +kernel) rfl (Nat.le_of_ble_eq_true rfl) rfl ?_
  intro p e s m below meth c hx hb hml hr hlk hts0 hown hin hsz hW ls hl
  have hts : ∀ w ∈ hx_all, w.before _ s = true := fun w hw => hts0 w (List.mem_cons_of_mem _ hw)
  have hown : s.vm.findClass "SmallCourtModel" = some m.cls := hown
  have hM : hx_S T_tb [(99, 0)] L h L h := hx_S.rf
  refine lv_iconst (v := 0) hx hb dX10_isProved_0 (by decide) ?_
  refine lv_istore_n (lv' := [(3, .int (0 : Int32)), (0, .ref x), (1, .int i1), (2, .int i2)]) hx hb dX10_isProved_1 rfl hl (by decide) rfl (fun ls hl => ?_)
  refine lv_iconst (v := 0) hx hb dX10_isProved_2 (by decide) ?_
  refine lv_istore (lv' := [(4, .int (0 : Int32)), (3, .int (0 : Int32)), (0, .ref x), (1, .int i1), (2, .int i2)]) hx hb dX10_isProved_3 hl (by decide) rfl (fun ls hl => ?_)
  have loop5 : ∀ (n5 : Nat) (iv5_3 iv5_4 : Int32) (ia5_qs : Nat → Int32) (H : Heap) (locs : List Loc) (hL1 : List Nat) (hl1 : hx_h), 0 ≤ iv5_3.toInt → iv5_3.toInt ≤ 128 → 0 ≤ iv5_4.toInt → iv5_4.toInt ≤ 128 → (hv_BS ia5_qs (iv5_3.toInt).toNat (hv_ev (hv_F0 rf (8 * i1.toInt.toNat)) (o.drop ((psf i2.toInt.toNat).toInt - iv5_4.toInt).toNat))) → (iv5_4.toInt = 0 ∨ iv5_4.toInt ≤ (psf i2.toInt.toNat).toInt) → ∀ (ls : Array Slot), 128 - iv5_4.toInt < (n5 : Int) → hx_W T_tb (P_ty dA) (dC, dI) vwCl (hx_A L sz) s.heap hL1 hl1 s H locs → hx_T T_tb hL1 hl1 → hx_S T_tb [(99, 0)] L h hL1 hl1 → hl1.2.1 qs = ia5_qs → lv_has ls 6 [(4, .int iv5_4), (3, .int iv5_3), (0, .ref x), (1, .int i1), (2, .int i2)] → W p l e ({ frames := 1, cells := 0, slots := 0, locals := 25 }) s m ([.ref x, .int i1, .int i2] : List Value).toArray below meth c H locs 0 0 (MQ below (va_Qi (fun (r : Int32) (u : List Nat × hx_h) => ((r.toInt = 1 ∧ hv_pr (hv_F0 rf (8 * i1.toInt.toNat)) o = true) ∨ (r.toInt = 0 ∧ hv_pr (hv_F0 rf (8 * i1.toInt.toNat)) o = false)) ∧ hx_T T_tb u.1 u.2 ∧ hx_S T_tb [(99, 0)] L h u.1 u.2) (hx_E T_tb (P_ty dA) (dC, dI) vwCl (hx_A L sz)) (hx_A L sz)) ([.ref x, .int i1, .int i2] : List Value).toArray s 0 0 (hx_A L sz)) (F0 m 5 ls []) := by
    intro n5
    induction n5 with
    | zero => intro iv5_3 iv5_4 ia5_qs H locs hL1 hl1 bliv5_3 buiv5_3 bliv5_4 buiv5_4 vi5_0 vi5_1 ls hn5; exfalso; omega
    | succ n5 ih5 =>
      intro iv5_3 iv5_4 ia5_qs H locs hL1 hl1 bliv5_3 buiv5_3 bliv5_4 buiv5_4 vi5_0 vi5_1 ls hn5 hW hT hM  nia5_qs hl
      refine lv_iload hx hb dX10_isProved_5 (lv_at hl 0 rfl) ?_
      refine lv_aload_n hx hb dX10_isProved_7 rfl (lv_at hl 2 rfl) ?_
      refine hk_getr hx hb hts hC_10 hown hW (gx.S hM) tt_10 4 (by decide) rfl kw_1147 ⟨rfl, rfl, rfl⟩ ((hM.o gx trivial rfl).2.trans f_x_4) dX10_isProved_8 ?_
      refine lv_iload_n hx hb dX10_isProved_11 rfl (lv_at hl 4 rfl) ?_
      refine hx_iald hx hb hW hT (gqn.S hM) tt_51 rfl ⟨by omega, by omega⟩ dX10_isProved_12 (fun x_1 ex_1 lx_1 ux_1 => ?_)
      have ax_1 : x_1 = psf i2.toNatClampNeg := ex_1.trans (congrFun (hx_afS hM gqn rfl af_qn) _)
      have hn9 : x_1.toInt = (psf i2.toInt.toNat).toInt := congrArg Int32.toInt ax_1
      refine hb_icmp_ge (zx := iv5_4.toInt) (zy := x_1.toInt) (tgt := 167) hx hb rfl rfl dX10_isProved_13 (by decide) (fun c_2 => ?_) (fun c_2 => ?_)
      · skip
        refine lv_aload_n hx hb dX10_isProved_167 rfl (lv_at hl 2 rfl) ?_
        refine hk_getr hx hb hts hC_10 hown hW (gx.S hM) tt_10 66 (by decide) rfl kw_1209 ⟨rfl, rfl, rfl⟩ ((hM.o gx trivial rfl).2.trans f_x_66) dX10_isProved_168 ?_
        refine lv_iconst (v := 0) hx hb dX10_isProved_171 (by decide) ?_
        refine hx_zald hx hb hW hT (gqs.S hM) tt_99 rfl (by decide) dX10_isProved_172 (fun x_3 ex_3 lx_3 ux_3 => ?_)
        have ax_3 : x_3 = ia5_qs (0 : Int32).toNatClampNeg := ex_3.trans (congrFun nia5_qs _)
        exact hx_retz hx hb hr (hx_nar01 (by omega)) hlk hW ⟨(by have h8 := vi5_0; rw [show ((psf i2.toInt.toNat).toInt - iv5_4.toInt).toNat = 0 by omega] at h8; exact hv_rE hO h8 (by decide) ax_3), hT, hM⟩ dX10_isProved_173
      · skip
        refine lv_aload_n hx hb dX10_isProved_16 rfl (lv_at hl 2 rfl) ?_
        refine hk_getr hx hb hts hC_10 hown hW (gx.S hM) tt_10 5 (by decide) rfl kw_1148 ⟨rfl, rfl, rfl⟩ ((hM.o gx trivial rfl).2.trans f_x_5) dX10_isProved_17 ?_
        refine lv_sipush (v := 128) hx hb dX10_isProved_20 (by decide) ?_
        refine lv_iload_n hx hb dX10_isProved_23 rfl (lv_at hl 4 rfl) ?_
        refine lv_imul hx hb dX10_isProved_24 ?_
        refine lv_topi (fun x_4 ex_4 => ?_)
        have zx_4 : x_4.toInt = 128 * i2.toInt := by rw [ex_4]; exact i32_mul (by decide) rfl rfl (by omega) (by omega)
        refine lv_iload hx hb dX10_isProved_25 (lv_at hl 0 rfl) ?_
        refine lv_iadd hx hb dX10_isProved_27 ?_
        have rg_5 := i32_r x_4
        have rg_6 := i32_r iv5_4
        refine lv_topi (fun x_7 ex_7 => ?_)
        have zx_7 : x_7.toInt = x_4.toInt + iv5_4.toInt := by rw [ex_7]; exact i32_add rfl rfl (by omega) (by omega)
        refine hx_iald hx hb hW hT (gqp.S hM) tt_52 rfl ⟨by omega, by omega⟩ dX10_isProved_28 (fun x_8 ex_8 lx_8 ux_8 => ?_)
        have ax_8 : x_8 = prf x_7.toNatClampNeg := ex_8.trans (congrFun (hx_afS hM gqp rfl af_qp) _)
        obtain ⟨t9, s9, hs9, hvt9, hv9, hev9, hl9, hh9⟩ := hv_pg (F := (hv_F0 rf (8 * i1.toInt.toNat))) (f := fun i => prf (128 * i2.toInt.toNat + i)) (n := (psf i2.toInt.toNat).toInt) (k := iv5_4.toInt) (ix := iv5_4.toInt.toNat) hls hO (by omega) (by omega) (by omega) (ax_8.trans (congrArg prf (by unfold Int32.toNatClampNeg; omega)))
        have hb9 := vi5_0; rw [← hs9] at hb9
        have hk9 := hv_rc_k hvt9
        have hbl9 := hv_BS_l hb9
        have hro9 : t9.1 = 0 → hv_rc t9 = (t9.2.1 : Int) := fun z => (hv_rc_o hvt9 z).1
        refine lv_istore (lv' := [(5, .int x_8), (4, .int iv5_4), (3, .int iv5_3), (0, .ref x), (1, .int i1), (2, .int i2)]) hx hb dX10_isProved_29 hl (by decide) rfl (fun ls hl => ?_)
        refine lv_iload hx hb dX10_isProved_31 (lv_at hl 0 rfl) ?_
        refine lv_ldcw (v := 1000000) hx hb hown (hts _ kw_1133) dX10_isProved_33 ?_
        refine hb_icmp_lt (zx := x_8.toInt) (zy := 1000000) (tgt := 58) hx hb rfl (by decide) dX10_isProved_36 (by decide) (fun c_9 => ?_) (fun c_9 => ?_)
        · skip
          refine lv_iload hx hb dX10_isProved_58 (lv_at hl 0 rfl) ?_
          refine lv_iconst (v := 2) hx hb dX10_isProved_60 (by decide) ?_
          refine hb_icmp_ne (zx := x_8.toInt) (zy := 2) (tgt := 91) hx hb rfl (by decide) dX10_isProved_61 (by decide) (fun c_10 => ?_) (fun c_10 => ?_)
          · skip
            have hh8 := hh9 (by omega)
            obtain ⟨x_11, ex_11⟩ : ∃ y : Int32, y = iv5_3 + Int32.ofInt (-1) := ⟨_, rfl⟩
            have rg_12 := i32_r iv5_3
            have zx_11 : x_11.toInt = iv5_3.toInt + (-1) := by rw [ex_11]; exact i32_add rfl (by decide) (by omega) (by omega)
            refine lv_iinc (v := x_11) (lv' := [(3, .int x_11), (5, .int x_8), (4, .int iv5_4), (0, .ref x), (1, .int i1), (2, .int i2)]) hx hb dX10_isProved_91 hl (k := 2) rfl ex_11.symm (by decide) rfl (fun ls hl => ?_)
            refine lv_aload_n hx hb dX10_isProved_94 rfl (lv_at hl 3 rfl) ?_
            refine hk_getr hx hb hts hC_10 hown hW (gx.S hM) tt_10 66 (by decide) rfl kw_1209 ⟨rfl, rfl, rfl⟩ ((hM.o gx trivial rfl).2.trans f_x_66) dX10_isProved_95 ?_
            refine lv_iload_n hx hb dX10_isProved_98 rfl (lv_at hl 0 rfl) ?_
            refine lv_iconst (v := 1) hx hb dX10_isProved_99 (by decide) ?_
            refine lv_isub hx hb dX10_isProved_100 ?_
            have rg_13 := i32_r x_11
            refine lv_topi (fun x_14 ex_14 => ?_)
            have zx_14 : x_14.toInt = x_11.toInt - 1 := by rw [ex_14]; exact i32_sub rfl (by decide) (by omega) (by omega)
            refine lv_iload hx hb dX10_isProved_101 (lv_at hl 1 rfl) ?_
            refine lv_iconst (v := 1) hx hb dX10_isProved_103 (by decide) ?_
            refine hb_icmp_ne (zx := x_8.toInt) (zy := 1) (tgt := 135) hx hb rfl (by decide) dX10_isProved_104 (by decide) (fun c_15 => ?_) (fun c_15 => ?_)
            · skip
              refine lv_aload_n hx hb dX10_isProved_135 rfl (lv_at hl 3 rfl) ?_
              refine hk_getr hx hb hts hC_10 hown hW (gx.S hM) tt_10 66 (by decide) rfl kw_1209 ⟨rfl, rfl, rfl⟩ ((hM.o gx trivial rfl).2.trans f_x_66) dX10_isProved_136 ?_
              refine lv_iload_n hx hb dX10_isProved_139 rfl (lv_at hl 0 rfl) ?_
              refine lv_iconst (v := 1) hx hb dX10_isProved_140 (by decide) ?_
              refine lv_isub hx hb dX10_isProved_141 ?_
              refine lv_topi (fun x_16 ex_16 => ?_)
              have zx_16 : x_16.toInt = x_11.toInt - 1 := by rw [ex_16]; exact i32_sub rfl (by decide) (by omega) (by omega)
              obtain rfl : x_14 = x_16 := ex_14.trans ex_16.symm
              refine hx_zald hx hb hW hT (gqs.S hM) tt_99 rfl ⟨by omega, by omega⟩ dX10_isProved_142 (fun x_17 ex_17 lx_17 ux_17 => ?_)
              have ax_17 : x_17 = ia5_qs x_14.toNatClampNeg := ex_17.trans (congrFun nia5_qs _)
              refine hb_if_ne (zx := x_17.toInt) (tgt := 155) hx hb rfl dX10_isProved_143 (by decide) (fun c_18 => ?_) (fun c_18 => ?_)
              · skip
                refine lv_iconst (v := 1) hx hb dX10_isProved_155 (by decide) ?_
                refine lv_goto (tgt := 160) hx hb dX10_isProved_156 (by decide) ?_
                have nia5_qsO := nia5_qs
                refine hx_zast hx hb hW hT (hx_S.rf (M := [(99, 0)])) (gqs.S hM) tt_99 rfl ⟨by omega, by omega⟩ (y := 1) (by decide) (by decide) (List.mem_singleton.mpr rfl) dX10_isProved_160 (fun H locs h_19 eh_19 hW hT hs => ?_)
                replace ex_1 := ex_1.trans (hs.a (gqn.S hM) rfl _).1.symm
                replace ex_8 := ex_8.trans (hs.a (gqp.S hM) rfl _).1.symm
                replace hM := hM.tr (hs.mono (by decide))
                obtain ⟨fa_20, dfa_20⟩ : ∃ g : Nat → Int32, g = hx_up ia5_qs x_14.toNatClampNeg (1 : Int32) := ⟨_, rfl⟩
                have nfa_20 : h_19.2.1 qs = fa_20 := by rw [eh_19, dfa_20, ← nia5_qsO]; exact hx_pi_fun _ _ _ _
                obtain ⟨x_21, ex_21⟩ : ∃ y : Int32, y = iv5_4 + Int32.ofInt 1 := ⟨_, rfl⟩
                have zx_21 : x_21.toInt = iv5_4.toInt + (1) := by rw [ex_21]; exact i32_add rfl (by decide) (by omega) (by omega)
                refine lv_iinc (v := x_21) (lv' := [(4, .int x_21), (3, .int x_11), (5, .int x_8), (0, .ref x), (1, .int i1), (2, .int i2)]) hx hb dX10_isProved_161 hl (k := 2) rfl ex_21.symm (by decide) rfl (fun ls hl => ?_)
                refine lv_goto (tgt := 5) hx hb dX10_isProved_164 (by decide) ?_
                exact ih5 x_11 x_21 fa_20 _ _ hL1 h_19 (by omega) (by omega) (by omega) (by omega) (by rw [zx_21, hev9]; exact hv_rB hb9 (by omega) (by omega) (by unfold Int32.toNatClampNeg; omega) (iy := x_11.toNatClampNeg) (by unfold Int32.toNatClampNeg; omega) ax_17 rfl (by have zv : (1 : Int32).toInt = 1 := (by decide); omega) dfa_20 (by omega)) (by omega) ls (by omega) hW hT hM  nfa_20 (lv_sub hl [0, 1, 3, 4, 5] rfl)
              · skip
                refine lv_aload_n hx hb dX10_isProved_146 rfl (lv_at hl 3 rfl) ?_
                refine hk_getr hx hb hts hC_10 hown hW (gx.S hM) tt_10 66 (by decide) rfl kw_1209 ⟨rfl, rfl, rfl⟩ ((hM.o gx trivial rfl).2.trans f_x_66) dX10_isProved_147 ?_
                refine lv_iload_n hx hb dX10_isProved_150 rfl (lv_at hl 0 rfl) ?_
                refine hx_zald hx hb hW hT (gqs.S hM) tt_99 rfl ⟨by omega, by omega⟩ dX10_isProved_151 (fun x_22 ex_22 lx_22 ux_22 => ?_)
                have ax_22 : x_22 = ia5_qs x_11.toNatClampNeg := ex_22.trans (congrFun nia5_qs _)
                refine hb_if_eq (zx := x_22.toInt) (tgt := 159) hx hb rfl dX10_isProved_152 (by decide) (fun c_23 => ?_) (fun c_23 => ?_)
                · skip
                  refine lv_iconst (v := 0) hx hb dX10_isProved_159 (by decide) ?_
                  have nia5_qsO := nia5_qs
                  refine hx_zast hx hb hW hT (hx_S.rf (M := [(99, 0)])) (gqs.S hM) tt_99 rfl ⟨by omega, by omega⟩ (y := 0) (by decide) (by decide) (List.mem_singleton.mpr rfl) dX10_isProved_160 (fun H locs h_24 eh_24 hW hT hs => ?_)
                  replace ex_1 := ex_1.trans (hs.a (gqn.S hM) rfl _).1.symm
                  replace ex_8 := ex_8.trans (hs.a (gqp.S hM) rfl _).1.symm
                  replace hM := hM.tr (hs.mono (by decide))
                  obtain ⟨fa_25, dfa_25⟩ : ∃ g : Nat → Int32, g = hx_up ia5_qs x_14.toNatClampNeg (0 : Int32) := ⟨_, rfl⟩
                  have nfa_25 : h_24.2.1 qs = fa_25 := by rw [eh_24, dfa_25, ← nia5_qsO]; exact hx_pi_fun _ _ _ _
                  obtain ⟨x_26, ex_26⟩ : ∃ y : Int32, y = iv5_4 + Int32.ofInt 1 := ⟨_, rfl⟩
                  have zx_26 : x_26.toInt = iv5_4.toInt + (1) := by rw [ex_26]; exact i32_add rfl (by decide) (by omega) (by omega)
                  refine lv_iinc (v := x_26) (lv' := [(4, .int x_26), (3, .int x_11), (5, .int x_8), (0, .ref x), (1, .int i1), (2, .int i2)]) hx hb dX10_isProved_161 hl (k := 2) rfl ex_26.symm (by decide) rfl (fun ls hl => ?_)
                  refine lv_goto (tgt := 5) hx hb dX10_isProved_164 (by decide) ?_
                  exact ih5 x_11 x_26 fa_25 _ _ hL1 h_24 (by omega) (by omega) (by omega) (by omega) (by rw [zx_26, hev9]; exact hv_rB hb9 (by omega) (by omega) (by unfold Int32.toNatClampNeg; omega) (iy := x_11.toNatClampNeg) (by unfold Int32.toNatClampNeg; omega) ax_17 ax_22 (by have zv : (0 : Int32).toInt = 0 := (by decide); omega) dfa_25 (by omega)) (by omega) ls (by omega) hW hT hM  nfa_25 (lv_sub hl [0, 1, 3, 4, 5] rfl)
                · skip
                  refine lv_iconst (v := 1) hx hb dX10_isProved_155 (by decide) ?_
                  refine lv_goto (tgt := 160) hx hb dX10_isProved_156 (by decide) ?_
                  have nia5_qsO := nia5_qs
                  refine hx_zast hx hb hW hT (hx_S.rf (M := [(99, 0)])) (gqs.S hM) tt_99 rfl ⟨by omega, by omega⟩ (y := 1) (by decide) (by decide) (List.mem_singleton.mpr rfl) dX10_isProved_160 (fun H locs h_27 eh_27 hW hT hs => ?_)
                  replace ex_1 := ex_1.trans (hs.a (gqn.S hM) rfl _).1.symm
                  replace ex_8 := ex_8.trans (hs.a (gqp.S hM) rfl _).1.symm
                  replace hM := hM.tr (hs.mono (by decide))
                  obtain ⟨fa_28, dfa_28⟩ : ∃ g : Nat → Int32, g = hx_up ia5_qs x_14.toNatClampNeg (1 : Int32) := ⟨_, rfl⟩
                  have nfa_28 : h_27.2.1 qs = fa_28 := by rw [eh_27, dfa_28, ← nia5_qsO]; exact hx_pi_fun _ _ _ _
                  obtain ⟨x_29, ex_29⟩ : ∃ y : Int32, y = iv5_4 + Int32.ofInt 1 := ⟨_, rfl⟩
                  have zx_29 : x_29.toInt = iv5_4.toInt + (1) := by rw [ex_29]; exact i32_add rfl (by decide) (by omega) (by omega)
                  refine lv_iinc (v := x_29) (lv' := [(4, .int x_29), (3, .int x_11), (5, .int x_8), (0, .ref x), (1, .int i1), (2, .int i2)]) hx hb dX10_isProved_161 hl (k := 2) rfl ex_29.symm (by decide) rfl (fun ls hl => ?_)
                  refine lv_goto (tgt := 5) hx hb dX10_isProved_164 (by decide) ?_
                  exact ih5 x_11 x_29 fa_28 _ _ hL1 h_27 (by omega) (by omega) (by omega) (by omega) (by rw [zx_29, hev9]; exact hv_rB hb9 (by omega) (by omega) (by unfold Int32.toNatClampNeg; omega) (iy := x_11.toNatClampNeg) (by unfold Int32.toNatClampNeg; omega) ax_17 ax_22 (by have zv : (1 : Int32).toInt = 1 := (by decide); omega) dfa_28 (by omega)) (by omega) ls (by omega) hW hT hM  nfa_28 (lv_sub hl [0, 1, 3, 4, 5] rfl)
            · skip
              refine lv_aload_n hx hb dX10_isProved_107 rfl (lv_at hl 3 rfl) ?_
              refine hk_getr hx hb hts hC_10 hown hW (gx.S hM) tt_10 66 (by decide) rfl kw_1209 ⟨rfl, rfl, rfl⟩ ((hM.o gx trivial rfl).2.trans f_x_66) dX10_isProved_108 ?_
              refine lv_iload_n hx hb dX10_isProved_111 rfl (lv_at hl 0 rfl) ?_
              refine lv_iconst (v := 1) hx hb dX10_isProved_112 (by decide) ?_
              refine lv_isub hx hb dX10_isProved_113 ?_
              refine lv_topi (fun x_30 ex_30 => ?_)
              have zx_30 : x_30.toInt = x_11.toInt - 1 := by rw [ex_30]; exact i32_sub rfl (by decide) (by omega) (by omega)
              obtain rfl : x_14 = x_30 := ex_14.trans ex_30.symm
              refine hx_zald hx hb hW hT (gqs.S hM) tt_99 rfl ⟨by omega, by omega⟩ dX10_isProved_114 (fun x_31 ex_31 lx_31 ux_31 => ?_)
              have ax_31 : x_31 = ia5_qs x_14.toNatClampNeg := ex_31.trans (congrFun nia5_qs _)
              refine hb_if_eq (zx := x_31.toInt) (tgt := 131) hx hb rfl dX10_isProved_115 (by decide) (fun c_32 => ?_) (fun c_32 => ?_)
              · skip
                refine lv_iconst (v := 0) hx hb dX10_isProved_131 (by decide) ?_
                refine lv_goto (tgt := 160) hx hb dX10_isProved_132 (by decide) ?_
                have nia5_qsO := nia5_qs
                refine hx_zast hx hb hW hT (hx_S.rf (M := [(99, 0)])) (gqs.S hM) tt_99 rfl ⟨by omega, by omega⟩ (y := 0) (by decide) (by decide) (List.mem_singleton.mpr rfl) dX10_isProved_160 (fun H locs h_33 eh_33 hW hT hs => ?_)
                replace ex_1 := ex_1.trans (hs.a (gqn.S hM) rfl _).1.symm
                replace ex_8 := ex_8.trans (hs.a (gqp.S hM) rfl _).1.symm
                replace hM := hM.tr (hs.mono (by decide))
                obtain ⟨fa_34, dfa_34⟩ : ∃ g : Nat → Int32, g = hx_up ia5_qs x_14.toNatClampNeg (0 : Int32) := ⟨_, rfl⟩
                have nfa_34 : h_33.2.1 qs = fa_34 := by rw [eh_33, dfa_34, ← nia5_qsO]; exact hx_pi_fun _ _ _ _
                obtain ⟨x_35, ex_35⟩ : ∃ y : Int32, y = iv5_4 + Int32.ofInt 1 := ⟨_, rfl⟩
                have zx_35 : x_35.toInt = iv5_4.toInt + (1) := by rw [ex_35]; exact i32_add rfl (by decide) (by omega) (by omega)
                refine lv_iinc (v := x_35) (lv' := [(4, .int x_35), (3, .int x_11), (5, .int x_8), (0, .ref x), (1, .int i1), (2, .int i2)]) hx hb dX10_isProved_161 hl (k := 2) rfl ex_35.symm (by decide) rfl (fun ls hl => ?_)
                refine lv_goto (tgt := 5) hx hb dX10_isProved_164 (by decide) ?_
                exact ih5 x_11 x_35 fa_34 _ _ hL1 h_33 (by omega) (by omega) (by omega) (by omega) (by rw [zx_35, hev9]; exact hv_rB hb9 (by omega) (by omega) (by unfold Int32.toNatClampNeg; omega) (iy := x_11.toNatClampNeg) (by unfold Int32.toNatClampNeg; omega) ax_31 rfl (by have zv : (0 : Int32).toInt = 0 := (by decide); omega) dfa_34 (by omega)) (by omega) ls (by omega) hW hT hM  nfa_34 (lv_sub hl [0, 1, 3, 4, 5] rfl)
              · skip
                refine lv_aload_n hx hb dX10_isProved_118 rfl (lv_at hl 3 rfl) ?_
                refine hk_getr hx hb hts hC_10 hown hW (gx.S hM) tt_10 66 (by decide) rfl kw_1209 ⟨rfl, rfl, rfl⟩ ((hM.o gx trivial rfl).2.trans f_x_66) dX10_isProved_119 ?_
                refine lv_iload_n hx hb dX10_isProved_122 rfl (lv_at hl 0 rfl) ?_
                refine hx_zald hx hb hW hT (gqs.S hM) tt_99 rfl ⟨by omega, by omega⟩ dX10_isProved_123 (fun x_36 ex_36 lx_36 ux_36 => ?_)
                have ax_36 : x_36 = ia5_qs x_11.toNatClampNeg := ex_36.trans (congrFun nia5_qs _)
                refine hb_if_eq (zx := x_36.toInt) (tgt := 131) hx hb rfl dX10_isProved_124 (by decide) (fun c_37 => ?_) (fun c_37 => ?_)
                · skip
                  refine lv_iconst (v := 0) hx hb dX10_isProved_131 (by decide) ?_
                  refine lv_goto (tgt := 160) hx hb dX10_isProved_132 (by decide) ?_
                  have nia5_qsO := nia5_qs
                  refine hx_zast hx hb hW hT (hx_S.rf (M := [(99, 0)])) (gqs.S hM) tt_99 rfl ⟨by omega, by omega⟩ (y := 0) (by decide) (by decide) (List.mem_singleton.mpr rfl) dX10_isProved_160 (fun H locs h_38 eh_38 hW hT hs => ?_)
                  replace ex_1 := ex_1.trans (hs.a (gqn.S hM) rfl _).1.symm
                  replace ex_8 := ex_8.trans (hs.a (gqp.S hM) rfl _).1.symm
                  replace hM := hM.tr (hs.mono (by decide))
                  obtain ⟨fa_39, dfa_39⟩ : ∃ g : Nat → Int32, g = hx_up ia5_qs x_14.toNatClampNeg (0 : Int32) := ⟨_, rfl⟩
                  have nfa_39 : h_38.2.1 qs = fa_39 := by rw [eh_38, dfa_39, ← nia5_qsO]; exact hx_pi_fun _ _ _ _
                  obtain ⟨x_40, ex_40⟩ : ∃ y : Int32, y = iv5_4 + Int32.ofInt 1 := ⟨_, rfl⟩
                  have zx_40 : x_40.toInt = iv5_4.toInt + (1) := by rw [ex_40]; exact i32_add rfl (by decide) (by omega) (by omega)
                  refine lv_iinc (v := x_40) (lv' := [(4, .int x_40), (3, .int x_11), (5, .int x_8), (0, .ref x), (1, .int i1), (2, .int i2)]) hx hb dX10_isProved_161 hl (k := 2) rfl ex_40.symm (by decide) rfl (fun ls hl => ?_)
                  refine lv_goto (tgt := 5) hx hb dX10_isProved_164 (by decide) ?_
                  exact ih5 x_11 x_40 fa_39 _ _ hL1 h_38 (by omega) (by omega) (by omega) (by omega) (by rw [zx_40, hev9]; exact hv_rB hb9 (by omega) (by omega) (by unfold Int32.toNatClampNeg; omega) (iy := x_11.toNatClampNeg) (by unfold Int32.toNatClampNeg; omega) ax_31 ax_36 (by have zv : (0 : Int32).toInt = 0 := (by decide); omega) dfa_39 (by omega)) (by omega) ls (by omega) hW hT hM  nfa_39 (lv_sub hl [0, 1, 3, 4, 5] rfl)
                · skip
                  refine lv_iconst (v := 1) hx hb dX10_isProved_127 (by decide) ?_
                  refine lv_goto (tgt := 160) hx hb dX10_isProved_128 (by decide) ?_
                  have nia5_qsO := nia5_qs
                  refine hx_zast hx hb hW hT (hx_S.rf (M := [(99, 0)])) (gqs.S hM) tt_99 rfl ⟨by omega, by omega⟩ (y := 1) (by decide) (by decide) (List.mem_singleton.mpr rfl) dX10_isProved_160 (fun H locs h_41 eh_41 hW hT hs => ?_)
                  replace ex_1 := ex_1.trans (hs.a (gqn.S hM) rfl _).1.symm
                  replace ex_8 := ex_8.trans (hs.a (gqp.S hM) rfl _).1.symm
                  replace hM := hM.tr (hs.mono (by decide))
                  obtain ⟨fa_42, dfa_42⟩ : ∃ g : Nat → Int32, g = hx_up ia5_qs x_14.toNatClampNeg (1 : Int32) := ⟨_, rfl⟩
                  have nfa_42 : h_41.2.1 qs = fa_42 := by rw [eh_41, dfa_42, ← nia5_qsO]; exact hx_pi_fun _ _ _ _
                  obtain ⟨x_43, ex_43⟩ : ∃ y : Int32, y = iv5_4 + Int32.ofInt 1 := ⟨_, rfl⟩
                  have zx_43 : x_43.toInt = iv5_4.toInt + (1) := by rw [ex_43]; exact i32_add rfl (by decide) (by omega) (by omega)
                  refine lv_iinc (v := x_43) (lv' := [(4, .int x_43), (3, .int x_11), (5, .int x_8), (0, .ref x), (1, .int i1), (2, .int i2)]) hx hb dX10_isProved_161 hl (k := 2) rfl ex_43.symm (by decide) rfl (fun ls hl => ?_)
                  refine lv_goto (tgt := 5) hx hb dX10_isProved_164 (by decide) ?_
                  exact ih5 x_11 x_43 fa_42 _ _ hL1 h_41 (by omega) (by omega) (by omega) (by omega) (by rw [zx_43, hev9]; exact hv_rB hb9 (by omega) (by omega) (by unfold Int32.toNatClampNeg; omega) (iy := x_11.toNatClampNeg) (by unfold Int32.toNatClampNeg; omega) ax_31 ax_36 (by have zv : (1 : Int32).toInt = 1 := (by decide); omega) dfa_42 (by omega)) (by omega) ls (by omega) hW hT hM  nfa_42 (lv_sub hl [0, 1, 3, 4, 5] rfl)
          · skip
            refine lv_aload_n hx hb dX10_isProved_64 rfl (lv_at hl 3 rfl) ?_
            refine hk_getr hx hb hts hC_10 hown hW (gx.S hM) tt_10 66 (by decide) rfl kw_1209 ⟨rfl, rfl, rfl⟩ ((hM.o gx trivial rfl).2.trans f_x_66) dX10_isProved_65 ?_
            refine lv_iload_n hx hb dX10_isProved_68 rfl (lv_at hl 2 rfl) ?_
            refine lv_iconst (v := 1) hx hb dX10_isProved_69 (by decide) ?_
            refine lv_isub hx hb dX10_isProved_70 ?_
            have rg_44 := i32_r iv5_3
            refine lv_topi (fun x_45 ex_45 => ?_)
            have zx_45 : x_45.toInt = iv5_3.toInt - 1 := by rw [ex_45]; exact i32_sub rfl (by decide) (by omega) (by omega)
            refine lv_aload_n hx hb dX10_isProved_71 rfl (lv_at hl 3 rfl) ?_
            refine hk_getr hx hb hts hC_10 hown hW (gx.S hM) tt_10 66 (by decide) rfl kw_1209 ⟨rfl, rfl, rfl⟩ ((hM.o gx trivial rfl).2.trans f_x_66) dX10_isProved_72 ?_
            refine lv_iload_n hx hb dX10_isProved_75 rfl (lv_at hl 2 rfl) ?_
            refine lv_iconst (v := 1) hx hb dX10_isProved_76 (by decide) ?_
            refine lv_isub hx hb dX10_isProved_77 ?_
            refine lv_topi (fun x_46 ex_46 => ?_)
            have zx_46 : x_46.toInt = iv5_3.toInt - 1 := by rw [ex_46]; exact i32_sub rfl (by decide) (by omega) (by omega)
            obtain rfl : x_45 = x_46 := ex_45.trans ex_46.symm
            refine hx_zald hx hb hW hT (gqs.S hM) tt_99 rfl ⟨by omega, by omega⟩ dX10_isProved_78 (fun x_47 ex_47 lx_47 ux_47 => ?_)
            have ax_47 : x_47 = ia5_qs x_45.toNatClampNeg := ex_47.trans (congrFun nia5_qs _)
            refine hb_if_ne (zx := x_47.toInt) (tgt := 86) hx hb rfl dX10_isProved_79 (by decide) (fun c_48 => ?_) (fun c_48 => ?_)
            · skip
              refine lv_iconst (v := 0) hx hb dX10_isProved_86 (by decide) ?_
              have nia5_qsO := nia5_qs
              refine hx_zast hx hb hW hT (hx_S.rf (M := [(99, 0)])) (gqs.S hM) tt_99 rfl ⟨by omega, by omega⟩ (y := 0) (by decide) (by decide) (List.mem_singleton.mpr rfl) dX10_isProved_87 (fun H locs h_49 eh_49 hW hT hs => ?_)
              replace ex_1 := ex_1.trans (hs.a (gqn.S hM) rfl _).1.symm
              replace ex_8 := ex_8.trans (hs.a (gqp.S hM) rfl _).1.symm
              replace hM := hM.tr (hs.mono (by decide))
              obtain ⟨fa_50, dfa_50⟩ : ∃ g : Nat → Int32, g = hx_up ia5_qs x_45.toNatClampNeg (0 : Int32) := ⟨_, rfl⟩
              have nfa_50 : h_49.2.1 qs = fa_50 := by rw [eh_49, dfa_50, ← nia5_qsO]; exact hx_pi_fun _ _ _ _
              refine lv_goto (tgt := 161) hx hb dX10_isProved_88 (by decide) ?_
              obtain ⟨x_51, ex_51⟩ : ∃ y : Int32, y = iv5_4 + Int32.ofInt 1 := ⟨_, rfl⟩
              have zx_51 : x_51.toInt = iv5_4.toInt + (1) := by rw [ex_51]; exact i32_add rfl (by decide) (by omega) (by omega)
              refine lv_iinc (v := x_51) (lv' := [(4, .int x_51), (5, .int x_8), (3, .int iv5_3), (0, .ref x), (1, .int i1), (2, .int i2)]) hx hb dX10_isProved_161 hl (k := 1) rfl ex_51.symm (by decide) rfl (fun ls hl => ?_)
              refine lv_goto (tgt := 5) hx hb dX10_isProved_164 (by decide) ?_
              exact ih5 iv5_3 x_51 fa_50 _ _ hL1 h_49 (by omega) (by omega) (by omega) (by omega) (by rw [zx_51, hev9]; exact hv_rN hb9 (by omega) (by omega) (by have := hh9 (by omega); omega) (by unfold Int32.toNatClampNeg; omega) ax_47 (by have zv : (0 : Int32).toInt = 0 := (by decide); omega) dfa_50) (by omega) ls (by omega) hW hT hM  nfa_50 (lv_sub hl [0, 2, 3, 4, 5] rfl)
            · skip
              refine lv_iconst (v := 1) hx hb dX10_isProved_82 (by decide) ?_
              refine lv_goto (tgt := 87) hx hb dX10_isProved_83 (by decide) ?_
              have nia5_qsO := nia5_qs
              refine hx_zast hx hb hW hT (hx_S.rf (M := [(99, 0)])) (gqs.S hM) tt_99 rfl ⟨by omega, by omega⟩ (y := 1) (by decide) (by decide) (List.mem_singleton.mpr rfl) dX10_isProved_87 (fun H locs h_52 eh_52 hW hT hs => ?_)
              replace ex_1 := ex_1.trans (hs.a (gqn.S hM) rfl _).1.symm
              replace ex_8 := ex_8.trans (hs.a (gqp.S hM) rfl _).1.symm
              replace hM := hM.tr (hs.mono (by decide))
              obtain ⟨fa_53, dfa_53⟩ : ∃ g : Nat → Int32, g = hx_up ia5_qs x_45.toNatClampNeg (1 : Int32) := ⟨_, rfl⟩
              have nfa_53 : h_52.2.1 qs = fa_53 := by rw [eh_52, dfa_53, ← nia5_qsO]; exact hx_pi_fun _ _ _ _
              refine lv_goto (tgt := 161) hx hb dX10_isProved_88 (by decide) ?_
              obtain ⟨x_54, ex_54⟩ : ∃ y : Int32, y = iv5_4 + Int32.ofInt 1 := ⟨_, rfl⟩
              have zx_54 : x_54.toInt = iv5_4.toInt + (1) := by rw [ex_54]; exact i32_add rfl (by decide) (by omega) (by omega)
              refine lv_iinc (v := x_54) (lv' := [(4, .int x_54), (5, .int x_8), (3, .int iv5_3), (0, .ref x), (1, .int i1), (2, .int i2)]) hx hb dX10_isProved_161 hl (k := 1) rfl ex_54.symm (by decide) rfl (fun ls hl => ?_)
              refine lv_goto (tgt := 5) hx hb dX10_isProved_164 (by decide) ?_
              exact ih5 iv5_3 x_54 fa_53 _ _ hL1 h_52 (by omega) (by omega) (by omega) (by omega) (by rw [zx_54, hev9]; exact hv_rN hb9 (by omega) (by omega) (by have := hh9 (by omega); omega) (by unfold Int32.toNatClampNeg; omega) ax_47 (by have zv : (1 : Int32).toInt = 1 := (by decide); omega) dfa_53) (by omega) ls (by omega) hW hT hM  nfa_53 (lv_sub hl [0, 2, 3, 4, 5] rfl)
        · skip
          refine lv_aload_n hx hb dX10_isProved_39 rfl (lv_at hl 3 rfl) ?_
          refine hk_getr hx hb hts hC_10 hown hW (gx.S hM) tt_10 66 (by decide) rfl kw_1209 ⟨rfl, rfl, rfl⟩ ((hM.o gx trivial rfl).2.trans f_x_66) dX10_isProved_40 ?_
          refine lv_iload_n hx hb dX10_isProved_43 rfl (lv_at hl 2 rfl) ?_
          refine lv_aload_n hx hb dX10_isProved_44 rfl (lv_at hl 3 rfl) ?_
          refine lv_iload_n hx hb dX10_isProved_45 rfl (lv_at hl 4 rfl) ?_
          refine lv_iload hx hb dX10_isProved_46 (lv_at hl 0 rfl) ?_
          refine hx_goi (hx_runV (As := [.int i1, .int x_8]) (rest := [.int iv5_3, .ref qs]) ⟨hx, hb, hml, hown, hts⟩ hW (gx.S hM) tt_10 (T := TX10) (N := 98) rfl (t_X10_isSo_v l dC dI dA hL1 hl1 H.size x i1 x_8 hT (gx.S hM) qf (gqf.S hM) ((hM.o gx trivial rfl).2.trans f_x_53) rf (hx_afS hM gqf rfl af_qf) ⟨by omega, by omega⟩ t9 hvt9 (by omega) hv9) (cwV 2 hts (hx_gV kw_1629 kw_1626 kw_1628 kw_80 kw_103) rfl rfl rfl (by decide +kernel) ⟨Nat.le_of_ble_eq_true rfl, Nat.le_of_ble_eq_true rfl⟩) rfl hl.1 rfl (Nat.le_of_ble_eq_true rfl) dX10_isProved_48 ⟨Nat.le_of_ble_eq_true rfl, Nat.le_of_ble_eq_true rfl⟩) hW (fun r_57 L_55 h_56 H locs p_58 hW => ?_)
          obtain ⟨hr_59, hT, hs⟩ := p_58
          replace hT : hx_T T_tb L_55 h_56 := hT
          replace hs : hx_S T_tb [] hL1 hl1 L_55 h_56 := hs
          replace nia5_qs : h_56.2.1 qs = ia5_qs := (funext fun j => (hs.a (gqs.S hM) rfl j).1).trans nia5_qs
          replace ex_1 := ex_1.trans (hs.a (gqn.S hM) rfl _).1.symm
          replace ex_8 := ex_8.trans (hs.a (gqp.S hM) rfl _).1.symm
          replace hM := hM.tr (hs.mono (by decide))
          have nia5_qsO := nia5_qs
          refine hx_zast hx hb hW hT (hx_S.rf (M := [(99, 0)])) (gqs.S hM) tt_99 rfl ⟨by omega, by omega⟩ (y := r_57) (hx_nz01 (by omega)) ⟨by omega, by omega⟩ (List.mem_singleton.mpr rfl) dX10_isProved_51 (fun H locs h_60 eh_60 hW hT hs => ?_)
          replace ex_1 := ex_1.trans (hs.a (gqn.S hM) rfl _).1.symm
          replace ex_8 := ex_8.trans (hs.a (gqp.S hM) rfl _).1.symm
          replace hM := hM.tr (hs.mono (by decide))
          obtain ⟨fa_61, dfa_61⟩ : ∃ g : Nat → Int32, g = hx_up ia5_qs iv5_3.toNatClampNeg r_57 := ⟨_, rfl⟩
          have nfa_61 : h_60.2.1 qs = fa_61 := by rw [eh_60, dfa_61, ← nia5_qsO]; exact hx_pi_fun _ _ _ _
          obtain ⟨x_62, ex_62⟩ : ∃ y : Int32, y = iv5_3 + Int32.ofInt 1 := ⟨_, rfl⟩
          have rg_63 := i32_r iv5_3
          have zx_62 : x_62.toInt = iv5_3.toInt + (1) := by rw [ex_62]; exact i32_add rfl (by decide) (by omega) (by omega)
          refine lv_iinc (v := x_62) (lv' := [(3, .int x_62), (5, .int x_8), (4, .int iv5_4), (0, .ref x), (1, .int i1), (2, .int i2)]) hx hb dX10_isProved_52 hl (k := 2) rfl ex_62.symm (by decide) rfl (fun ls hl => ?_)
          refine lv_goto (tgt := 161) hx hb dX10_isProved_55 (by decide) ?_
          obtain ⟨x_64, ex_64⟩ : ∃ y : Int32, y = iv5_4 + Int32.ofInt 1 := ⟨_, rfl⟩
          have zx_64 : x_64.toInt = iv5_4.toInt + (1) := by rw [ex_64]; exact i32_add rfl (by decide) (by omega) (by omega)
          refine lv_iinc (v := x_64) (lv' := [(4, .int x_64), (3, .int x_62), (5, .int x_8), (0, .ref x), (1, .int i1), (2, .int i2)]) hx hb dX10_isProved_161 hl (k := 2) rfl ex_64.symm (by decide) rfl (fun ls hl => ?_)
          refine lv_goto (tgt := 5) hx hb dX10_isProved_164 (by decide) ?_
          exact ih5 x_62 x_64 fa_61 _ _ L_55 h_60 (by omega) (by omega) (by omega) (by omega) (by rw [zx_64, hev9]; exact hv_rP hb9 (by omega) (by omega) hr_59 (by unfold Int32.toNatClampNeg; omega) dfa_61 (by omega)) (by omega) ls (by omega) hW hT hM  nfa_61 (lv_sub hl [0, 1, 3, 4, 5] rfl)
  have zk_0 : (0 : Int32).toInt = 0 := by decide
  have zk_0 : (0 : Int32).toInt = 0 := by decide
  exact loop5 129 (0 : Int32) (0 : Int32) sf _ _ L h (by decide) (by decide) (by decide) (by decide) (by rw [hv_d0 hls zk_0]; exact hv_BS_0) (by omega) ls (by omega) hW hT hM  af_qs hl
end
section
set_option maxHeartbeats 4000000 in
set_option maxRecDepth 100000 in
theorem t_X4_isKinOf_v (l : Launch) (dC : Nat → ClassId) (dI : Nat → Nat → Nat) (dA : Nat → ClassId) (L : List Nat) (h : hx_h) (sz : Nat) (x : Nat) (v1 : Nat) (hT : hx_T T_tb L h) (gx : hx_g L h x 4) (gv1 : hx_g L h v1 4) (qp : Nat) (gqp : hx_g L h qp 44) (np : Int)  (jx : Int32) (eo_x : h.2.2 qp jx.toNatClampNeg = some x) (ob_jx : 0 ≤ jx.toInt ∧ jx.toInt ≤ 39) (iv : Int32) (eo_v1 : h.2.2 qp iv.toNatClampNeg = some v1) (ob_iv : 0 ≤ iv.toInt ∧ iv.toInt ≤ 39)  (kf : Nat → Int32) (cl_qp_2 : hx_col 40 h qp 2 = kf) (nu_qp : hx_num 40 h qp 0 (np)) : Met l yX4_isKinOf (Cond.code yX4_isKinOf cX4_isKinOf 2 (some .boolean) :: hx_all) ({ frames := 0, cells := 0, slots := 0, locals := 0 }) (va_Pc [.ref x, .ref v1] (hx_B T_tb (P_ty dA) (dC, dI) vwCl L h sz)) (va_Qi (fun (r : Int32) (u : List Nat × hx_h) => ((r.toInt = 1 ∧ hv_ki kf jx.toNatClampNeg iv.toNatClampNeg = true) ∨ (r.toInt = 0 ∧ hv_ki kf jx.toNatClampNeg iv.toNatClampNeg = false)) ∧ hx_T T_tb u.1 u.2 ∧ hx_S T_tb [] L h u.1 u.2) (hx_E T_tb (P_ty dA) (dC, dI) vwCl (hx_A L sz)) (hx_A L sz)) 0 0 (hx_A L sz) := by
  refine hx_met (lv := [(0, .ref x), (1, .ref v1)]) (by decide +kernel) rfl (Nat.le_of_ble_eq_true rfl) rfl ?_
  intro p e s m below meth c hx hb hml hr hlk hts0 hown hin hsz hW ls hl
  have hts : ∀ w ∈ hx_all, w.before _ s = true := fun w hw => hts0 w (List.mem_cons_of_mem _ hw)
  have hown : s.vm.findClass "SmallCourt$Person" = some m.cls := hown
  have hM : hx_S T_tb [] L h L h := hx_S.rf
  refine lv_aload_n hx hb dX4_isKinOf_0 rfl (lv_at hl 0 rfl) ?_
  refine lv_aload_n hx hb dX4_isKinOf_1 rfl (lv_at hl 1 rfl) ?_
  refine lv_acmp_eq (rx := (some x)) (ry := (some v1)) (tgt := 24) hx hb dX4_isKinOf_2 (by decide) (fun c_1 => ?_) (fun c_1 => ?_)
  · skip
    refine lv_iconst (v := 1) hx hb dX4_isKinOf_24 (by decide) ?_
    refine lv_goto (tgt := 29) hx hb dX4_isKinOf_25 (by decide) ?_
    exact hx_retz hx hb hr rfl hlk hW ⟨(Or.inl ⟨by decide, hv_ki_t.mpr (Or.inl (by have h9 : x = v1 := Option.some.inj c_1; have h8 : h.2.2 qp iv.toNatClampNeg = some x := (by rw [h9]; exact eo_v1); exact hx_num_eq nu_qp (by unfold Int32.toNatClampNeg; omega) (by unfold Int32.toNatClampNeg; omega) eo_x h8))⟩), hT, hM⟩ dX4_isKinOf_29
  · skip
    refine lv_aload_n hx hb dX4_isKinOf_5 rfl (lv_at hl 0 rfl) ?_
    refine hx_geti hx hb hts hC_4 hown hW hT (gx.S hM) tt_4 2 (by decide) rfl kw_615 ⟨rfl, rfl, rfl⟩ dX4_isKinOf_6 (fun x_2 ex_2 lx_2 ux_2 => ?_)
    have fx_2 := ex_2.symm
    have cx_2 : x_2 = kf jx.toNatClampNeg := by rw [ex_2, ← cl_qp_2]; exact (hx_col_at eo_x (by unfold Int32.toNatClampNeg; omega)).symm
    refine lv_iconst (v := -1) hx hb dX4_isKinOf_9 (by decide) ?_
    refine hb_icmp_eq (zx := x_2.toInt) (zy := (-1)) (tgt := 28) hx hb rfl (by decide) dX4_isKinOf_10 (by decide) (fun c_3 => ?_) (fun c_3 => ?_)
    · skip
      refine lv_iconst (v := 0) hx hb dX4_isKinOf_28 (by decide) ?_
      exact hx_retz hx hb hr rfl hlk hW ⟨(Or.inr ⟨by decide, hv_ki_f (fun z => by rcases z with z | ⟨z1, z2⟩; (have h9 : h.2.2 qp iv.toNatClampNeg = some x := by rw [← z]; exact eo_x); (exact absurd (h9.symm.trans eo_v1) c_1); rw [← cx_2] at z1; omega)⟩), hT, hM⟩ dX4_isKinOf_29
    · skip
      refine lv_aload_n hx hb dX4_isKinOf_13 rfl (lv_at hl 0 rfl) ?_
      refine hk_geti hx hb hts hC_4 hown hW (gx.S hM) tt_4 2 (by decide) rfl kw_615 ⟨rfl, rfl, rfl⟩ fx_2 dX4_isKinOf_14 ?_
      refine lv_aload_n hx hb dX4_isKinOf_17 rfl (lv_at hl 1 rfl) ?_
      refine hx_geti hx hb hts hC_4 hown hW hT (gv1.S hM) tt_4 2 (by decide) rfl kw_615 ⟨rfl, rfl, rfl⟩ dX4_isKinOf_18 (fun x_4 ex_4 lx_4 ux_4 => ?_)
      have fx_4 := ex_4.symm
      have cx_4 : x_4 = kf iv.toNatClampNeg := by rw [ex_4, ← cl_qp_2]; exact (hx_col_at eo_v1 (by unfold Int32.toNatClampNeg; omega)).symm
      refine hb_icmp_ne (zx := x_2.toInt) (zy := x_4.toInt) (tgt := 28) hx hb rfl rfl dX4_isKinOf_21 (by decide) (fun c_5 => ?_) (fun c_5 => ?_)
      · skip
        refine lv_iconst (v := 0) hx hb dX4_isKinOf_28 (by decide) ?_
        exact hx_retz hx hb hr rfl hlk hW ⟨(Or.inr ⟨by decide, hv_ki_f (fun z => by rcases z with z | ⟨z1, z2⟩; (have h9 : h.2.2 qp iv.toNatClampNeg = some x := by rw [← z]; exact eo_x); (exact absurd (h9.symm.trans eo_v1) c_1); rw [← cx_2, ← cx_4] at z2; omega)⟩), hT, hM⟩ dX4_isKinOf_29
      · skip
        refine lv_iconst (v := 1) hx hb dX4_isKinOf_24 (by decide) ?_
        refine lv_goto (tgt := 29) hx hb dX4_isKinOf_25 (by decide) ?_
        exact hx_retz hx hb hr rfl hlk hW ⟨(Or.inl ⟨by decide, hv_ki_t.mpr (Or.inr ⟨by rw [← cx_2]; omega, by rw [← cx_2, ← cx_4]; omega⟩)⟩), hT, hM⟩ dX4_isKinOf_29


set_option maxHeartbeats 4000000 in
set_option maxRecDepth 100000 in
theorem t_X4_maySit_v (l : Launch) (dC : Nat → ClassId) (dI : Nat → Nat → Nat) (dA : Nat → ClassId) (L : List Nat) (h : hx_h) (sz : Nat) (x : Nat) (v1 : Nat) (hT : hx_T T_tb L h) (gx : hx_g L h x 4) (gv1 : hx_g L h v1 2) (qp : Nat) (gqp : hx_g L h qp 44) (qc : Nat) (gqc : hx_g L h qc 45) (np cn : Int)  (jx : Int32) (eo_x : h.2.2 qp jx.toNatClampNeg = some x) (ob_jx : 0 ≤ jx.toInt ∧ jx.toInt ≤ 39) (ic : Int32) (eo_v1 : h.2.2 qc ic.toNatClampNeg = some v1) (ob_ic : 0 ≤ ic.toInt ∧ ic.toInt ≤ 99)  (df : Nat → Int32) (cl_qp_7 : hx_col 40 h qp 7 = df) (jf : Nat → Int32) (cl_qp_8 : hx_col 40 h qp 8 = jf) (kf : Nat → Int32) (cl_qp_2 : hx_col 40 h qp 2 = kf) (nu_qp : hx_num 40 h qp 0 (np)) (agf byf : Nat → Int32) (hDF : hw_DF h qc qp 2 agf cn) (hDP : hw_DF h qc qp 1 byf cn) (hcn : ic.toInt < cn) : Met l yX4_maySit (Cond.code yX4_maySit cX4_maySit 2 (some .boolean) :: hx_all) ({ frames := 1, cells := 0, slots := 0, locals := 21 }) (va_Pc [.ref x, .ref v1] (hx_B T_tb (P_ty dA) (dC, dI) vwCl L h sz)) (va_Qi (fun (r : Int32) (u : List Nat × hx_h) => ((r.toInt = 1 ∧ hv_ft jf df kf (byf ic.toNatClampNeg).toNatClampNeg (agf ic.toNatClampNeg).toNatClampNeg jx.toNatClampNeg = true) ∨ (r.toInt = 0 ∧ hv_ft jf df kf (byf ic.toNatClampNeg).toNatClampNeg (agf ic.toNatClampNeg).toNatClampNeg jx.toNatClampNeg = false)) ∧ hx_T T_tb u.1 u.2 ∧ hx_S T_tb [] L h u.1 u.2) (hx_E T_tb (P_ty dA) (dC, dI) vwCl (hx_A L sz)) (hx_A L sz)) 0 0 (hx_A L sz) := by
  refine hx_met (lv := [(0, .ref x), (1, .ref v1)]) (by decide +kernel) rfl (Nat.le_of_ble_eq_true rfl) rfl ?_
  intro p e s m below meth c hx hb hml hr hlk hts0 hown hin hsz hW ls hl
  have hts : ∀ w ∈ hx_all, w.before _ s = true := fun w hw => hts0 w (List.mem_cons_of_mem _ hw)
  have hown : s.vm.findClass "SmallCourt$Person" = some m.cls := hown
  have hM : hx_S T_tb [] L h L h := hx_S.rf
  refine lv_aload_n hx hb dX4_maySit_0 rfl (lv_at hl 0 rfl) ?_
  refine hx_geti hx hb hts hC_4 hown hW hT gx tt_4 8 (by decide) rfl kw_624 ⟨rfl, rfl, rfl⟩ dX4_maySit_1 (fun x_1 ex_1 lx_1 ux_1 => ?_)
  have fx_1 := ex_1.symm
  have cx_1 : x_1 = jf jx.toNatClampNeg := by rw [ex_1, ← cl_qp_8]; exact (hx_col_at eo_x (by unfold Int32.toNatClampNeg; omega)).symm
  refine hb_if_eq (zx := x_1.toInt) (tgt := 40) hx hb rfl dX4_maySit_4 (by decide) (fun c_2 => ?_) (fun c_2 => ?_)
  · skip
    refine lv_iconst (v := 0) hx hb dX4_maySit_40 (by decide) ?_
    exact hx_retz hx hb hr rfl hlk hW ⟨(Or.inr ⟨by decide, hv_ft_f (fun z => by exact z.1 ((congrArg Int32.toInt cx_1).symm.trans (by omega)))⟩), hT, hM⟩ dX4_maySit_41
  · skip
    refine lv_aload_n hx hb dX4_maySit_7 rfl (lv_at hl 0 rfl) ?_
    refine hx_geti hx hb hts hC_4 hown hW hT gx tt_4 7 (by decide) rfl kw_622 ⟨rfl, rfl, rfl⟩ dX4_maySit_8 (fun x_3 ex_3 lx_3 ux_3 => ?_)
    have fx_3 := ex_3.symm
    have cx_3 : x_3 = df jx.toNatClampNeg := by rw [ex_3, ← cl_qp_7]; exact (hx_col_at eo_x (by unfold Int32.toNatClampNeg; omega)).symm
    refine hb_if_ne (zx := x_3.toInt) (tgt := 40) hx hb rfl dX4_maySit_11 (by decide) (fun c_4 => ?_) (fun c_4 => ?_)
    · skip
      refine lv_iconst (v := 0) hx hb dX4_maySit_40 (by decide) ?_
      exact hx_retz hx hb hr rfl hlk hW ⟨(Or.inr ⟨by decide, hv_ft_f (fun z => by have h9 : x_3.toInt = 0 := (congrArg Int32.toInt cx_3).trans z.2.1; omega)⟩), hT, hM⟩ dX4_maySit_41
    · skip
      refine lv_aload_n hx hb dX4_maySit_14 rfl (lv_at hl 0 rfl) ?_
      refine lv_aload_n hx hb dX4_maySit_15 rfl (lv_at hl 1 rfl) ?_
      refine hx_getn hx hb hts hC_2 hown hW hT (gv1.S hM) tt_2 1 (by decide) rfl kw_726 ⟨rfl, rfl, rfl⟩ dX4_maySit_16 (fun q_5 fq_5 gq_5 => ?_)
      obtain ⟨dAq_5, dBq_5, dCq_5⟩ := hDP ic.toNatClampNeg (by unfold Int32.toNatClampNeg; omega) (by unfold Int32.toNatClampNeg; omega) _ _ eo_v1 fq_5
      have dAq_5 : 0 ≤ (byf ic.toNatClampNeg).toInt := dAq_5
      have dBq_5 : (byf ic.toNatClampNeg).toInt < 40 := dBq_5
      have dUq_5 : 0 ≤ (byf ic.toInt.toNat).toInt ∧ (byf ic.toInt.toNat).toInt < 40 := ⟨dAq_5, dBq_5⟩
      have eoq_5 : h.2.2 qp (byf ic.toNatClampNeg).toNatClampNeg = some q_5 := dCq_5
      have hTo := hT
      refine hx_goi (hx_runV (As := [.ref q_5]) (rest := []) ⟨hx, hb, hml, hown, hts⟩ hW gx tt_4 (T := TX4) (N := 10) rfl (t_X4_isKinOf_v l dC dI dA L h s.heap.size x q_5 hT gx gq_5 qp gqp (np) jx eo_x ⟨by omega, by omega⟩ (byf ic.toNatClampNeg) eoq_5 ⟨by omega, by omega⟩ kf cl_qp_2 nu_qp) (cwV 1 hts (hx_gV kw_826 kw_823 kw_825 kw_27 kw_108) rfl rfl rfl (by decide +kernel) ⟨Nat.le_of_ble_eq_true rfl, Nat.le_of_ble_eq_true rfl⟩) rfl hl.1 rfl (Nat.le_of_ble_eq_true rfl) dX4_maySit_19 ⟨Nat.le_of_ble_eq_true rfl, Nat.le_of_ble_eq_true rfl⟩) hW (fun r_8 L_6 h_7 H locs p_9 hW => ?_)
      obtain ⟨hr_10, hT, hs⟩ := p_9
      replace hT : hx_T T_tb L_6 h_7 := hT
      replace hs : hx_S T_tb [] L h L_6 h_7 := hs
      replace fx_1 := (hs.o gx trivial rfl).1.trans fx_1
      replace fx_3 := (hs.o gx trivial rfl).1.trans fx_3
      replace fq_5 := (hs.o (gv1.S hM) trivial rfl).2.trans fq_5
      replace cl_qp_7 : hx_col 40 h_7 qp 7 = df := (hx_col_S hs hTo gqp tt_44 tt_4 rfl rfl).trans cl_qp_7
      replace cl_qp_8 : hx_col 40 h_7 qp 8 = jf := (hx_col_S hs hTo gqp tt_44 tt_4 rfl rfl).trans cl_qp_8
      replace cl_qp_2 : hx_col 40 h_7 qp 2 = kf := (hx_col_S hs hTo gqp tt_44 tt_4 rfl rfl).trans cl_qp_2
      replace nu_qp : hx_num 40 h_7 qp 0 (np) := hx_num_S hs hTo gqp tt_44 tt_4 rfl rfl nu_qp
      replace hDF : hw_DF h_7 qc qp 2 agf cn := hw_DF_S hs hTo gqc gqp tt_45 tt_2 rfl rfl rfl hDF
      replace hDP : hw_DF h_7 qc qp 1 byf cn := hw_DF_S hs hTo gqc gqp tt_45 tt_2 rfl rfl rfl hDP
      replace eo_x := (hs.a gqp rfl _).2.trans eo_x
      replace eo_v1 := (hs.a gqc rfl _).2.trans eo_v1
      replace eoq_5 := (hs.a gqp rfl _).2.trans eoq_5
      replace hM := hM.tr (hs.mono (by decide))
      replace gx := gx.S hs
      replace gqp := gqp.S hs
      replace gqc := gqc.S hs
      replace gq_5 := gq_5.S hs
      refine hb_if_ne (zx := r_8.toInt) (tgt := 40) hx hb rfl dX4_maySit_22 (by decide) (fun c_11 => ?_) (fun c_11 => ?_)
      · skip
        refine lv_iconst (v := 0) hx hb dX4_maySit_40 (by decide) ?_
        exact hx_retz hx hb hr rfl hlk hW ⟨(Or.inr ⟨by decide, hv_ft_f (fun z => by exact absurd (z.2.2.1.symm.trans (by rcases hr_10 with z | z; exact z.2; exfalso; omega)) (by decide))⟩), hT, hM⟩ dX4_maySit_41
      · skip
        refine lv_aload_n hx hb dX4_maySit_25 rfl (lv_at hl 0 rfl) ?_
        refine lv_aload_n hx hb dX4_maySit_26 rfl (lv_at hl 1 rfl) ?_
        refine hx_getn hx hb hts hC_2 hown hW hT (gv1.S hM) tt_2 2 (by decide) rfl kw_730 ⟨rfl, rfl, rfl⟩ dX4_maySit_27 (fun q_12 fq_12 gq_12 => ?_)
        obtain ⟨dAq_12, dBq_12, dCq_12⟩ := hDF ic.toNatClampNeg (by unfold Int32.toNatClampNeg; omega) (by unfold Int32.toNatClampNeg; omega) _ _ eo_v1 fq_12
        have dAq_12 : 0 ≤ (agf ic.toNatClampNeg).toInt := dAq_12
        have dBq_12 : (agf ic.toNatClampNeg).toInt < 40 := dBq_12
        have dUq_12 : 0 ≤ (agf ic.toInt.toNat).toInt ∧ (agf ic.toInt.toNat).toInt < 40 := ⟨dAq_12, dBq_12⟩
        have eoq_12 : h_7.2.2 qp (agf ic.toNatClampNeg).toNatClampNeg = some q_12 := dCq_12
        have hTo := hT
        refine hx_goi (hx_runV (As := [.ref q_12]) (rest := []) ⟨hx, hb, hml, hown, hts⟩ hW gx tt_4 (T := TX4) (N := 10) rfl (t_X4_isKinOf_v l dC dI dA L_6 h_7 H.size x q_12 hT gx gq_12 qp gqp (np) jx eo_x ⟨by omega, by omega⟩ (agf ic.toNatClampNeg) eoq_12 ⟨by omega, by omega⟩ kf cl_qp_2 nu_qp) (cwV 1 hts (hx_gV kw_826 kw_823 kw_825 kw_27 kw_108) rfl rfl rfl (by decide +kernel) ⟨Nat.le_of_ble_eq_true rfl, Nat.le_of_ble_eq_true rfl⟩) rfl hl.1 rfl (Nat.le_of_ble_eq_true rfl) dX4_maySit_30 ⟨Nat.le_of_ble_eq_true rfl, Nat.le_of_ble_eq_true rfl⟩) hW (fun r_15 L_13 h_14 H locs p_16 hW => ?_)
        obtain ⟨hr_17, hT, hs⟩ := p_16
        replace hT : hx_T T_tb L_13 h_14 := hT
        replace hs : hx_S T_tb [] L_6 h_7 L_13 h_14 := hs
        replace fx_1 := (hs.o gx trivial rfl).1.trans fx_1
        replace fx_3 := (hs.o gx trivial rfl).1.trans fx_3
        replace fq_5 := (hs.o (gv1.S hM) trivial rfl).2.trans fq_5
        replace fq_12 := (hs.o (gv1.S hM) trivial rfl).2.trans fq_12
        replace cl_qp_7 : hx_col 40 h_14 qp 7 = df := (hx_col_S hs hTo gqp tt_44 tt_4 rfl rfl).trans cl_qp_7
        replace cl_qp_8 : hx_col 40 h_14 qp 8 = jf := (hx_col_S hs hTo gqp tt_44 tt_4 rfl rfl).trans cl_qp_8
        replace cl_qp_2 : hx_col 40 h_14 qp 2 = kf := (hx_col_S hs hTo gqp tt_44 tt_4 rfl rfl).trans cl_qp_2
        replace nu_qp : hx_num 40 h_14 qp 0 (np) := hx_num_S hs hTo gqp tt_44 tt_4 rfl rfl nu_qp
        replace hDF : hw_DF h_14 qc qp 2 agf cn := hw_DF_S hs hTo gqc gqp tt_45 tt_2 rfl rfl rfl hDF
        replace hDP : hw_DF h_14 qc qp 1 byf cn := hw_DF_S hs hTo gqc gqp tt_45 tt_2 rfl rfl rfl hDP
        replace eo_x := (hs.a gqp rfl _).2.trans eo_x
        replace eo_v1 := (hs.a gqc rfl _).2.trans eo_v1
        replace eoq_5 := (hs.a gqp rfl _).2.trans eoq_5
        replace eoq_12 := (hs.a gqp rfl _).2.trans eoq_12
        replace hM := hM.tr (hs.mono (by decide))
        replace gx := gx.S hs
        replace gqp := gqp.S hs
        replace gqc := gqc.S hs
        replace gq_5 := gq_5.S hs
        replace gq_12 := gq_12.S hs
        refine hb_if_ne (zx := r_15.toInt) (tgt := 40) hx hb rfl dX4_maySit_33 (by decide) (fun c_18 => ?_) (fun c_18 => ?_)
        · skip
          refine lv_iconst (v := 0) hx hb dX4_maySit_40 (by decide) ?_
          exact hx_retz hx hb hr rfl hlk hW ⟨(Or.inr ⟨by decide, hv_ft_f (fun z => by exact absurd (z.2.2.2.symm.trans (by rcases hr_17 with z | z; exact z.2; exfalso; omega)) (by decide))⟩), hT, hM⟩ dX4_maySit_41
        · skip
          refine lv_iconst (v := 1) hx hb dX4_maySit_36 (by decide) ?_
          refine lv_goto (tgt := 41) hx hb dX4_maySit_37 (by decide) ?_
          exact hx_retz hx hb hr rfl hlk hW ⟨(Or.inl ⟨by decide, hv_ft_t.mpr ⟨(fun z9 => by have h9 : x_1.toInt = 0 := (congrArg Int32.toInt cx_1).trans z9; omega), ((congrArg Int32.toInt cx_3).symm.trans (by omega)), (by rcases hr_10 with z | z; (exfalso; omega); exact z.2), (by rcases hr_17 with z | z; (exfalso; omega); exact z.2)⟩⟩), hT, hM⟩ dX4_maySit_41


set_option maxHeartbeats 4000000 in
set_option maxRecDepth 100000 in
theorem t_X10_isKinOf_v (l : Launch) (dC : Nat → ClassId) (dI : Nat → Nat → Nat) (dA : Nat → ClassId) (L : List Nat) (h : hx_h) (sz : Nat) (x : Nat) (i1 : Int32) (i2 : Int32) (hT : hx_T T_tb L h) (gx : hx_g L h x 10) (qk : Nat) (gqk : hx_g L h qk 63) (f_x_26 : h.2.2 x 26 = some qk) (kf : Nat → Int32) (af_qk : h.2.1 qk = kf) (hi1 : 0 ≤ i1.toInt ∧ i1.toInt ≤ 39) (hi2 : 0 ≤ i2.toInt ∧ i2.toInt ≤ 39) : Met l yX10_isKinOf (Cond.code yX10_isKinOf cX10_isKinOf 3 (some .boolean) :: hx_all) ({ frames := 0, cells := 0, slots := 0, locals := 0 }) (va_Pc [.ref x, .int i1, .int i2] (hx_B T_tb (P_ty dA) (dC, dI) vwCl L h sz)) (va_Qi (fun (r : Int32) (u : List Nat × hx_h) => ((r.toInt = 1 ∧ hv_ki kf i1.toNatClampNeg i2.toNatClampNeg = true) ∨ (r.toInt = 0 ∧ hv_ki kf i1.toNatClampNeg i2.toNatClampNeg = false)) ∧ hx_T T_tb u.1 u.2 ∧ hx_S T_tb [] L h u.1 u.2) (hx_E T_tb (P_ty dA) (dC, dI) vwCl (hx_A L sz)) (hx_A L sz)) 0 0 (hx_A L sz) := by
  refine hx_met (lv := [(0, .ref x), (1, .int i1), (2, .int i2)]) (by decide +kernel) rfl (Nat.le_of_ble_eq_true rfl) rfl ?_
  intro p e s m below meth c hx hb hml hr hlk hts0 hown hin hsz hW ls hl
  have hts : ∀ w ∈ hx_all, w.before _ s = true := fun w hw => hts0 w (List.mem_cons_of_mem _ hw)
  have hown : s.vm.findClass "SmallCourtModel" = some m.cls := hown
  have hM : hx_S T_tb [] L h L h := hx_S.rf
  refine lv_iload_n hx hb dX10_isKinOf_0 rfl (lv_at hl 1 rfl) ?_
  refine lv_iload_n hx hb dX10_isKinOf_1 rfl (lv_at hl 2 rfl) ?_
  refine hb_icmp_eq (zx := i1.toInt) (zy := i2.toInt) (tgt := 29) hx hb rfl rfl dX10_isKinOf_2 (by decide) (fun c_1 => ?_) (fun c_1 => ?_)
  · skip
    refine lv_iconst (v := 1) hx hb dX10_isKinOf_29 (by decide) ?_
    refine lv_goto (tgt := 34) hx hb dX10_isKinOf_30 (by decide) ?_
    exact hx_retz hx hb hr rfl hlk hW ⟨(Or.inl ⟨by decide, hv_ki_t.mpr (Or.inl (by unfold Int32.toNatClampNeg; omega))⟩), hT, hM⟩ dX10_isKinOf_34
  · skip
    refine lv_aload_n hx hb dX10_isKinOf_5 rfl (lv_at hl 0 rfl) ?_
    refine hk_getr hx hb hts hC_10 hown hW (gx.S hM) tt_10 26 (by decide) rfl kw_1169 ⟨rfl, rfl, rfl⟩ ((hM.o gx trivial rfl).2.trans f_x_26) dX10_isKinOf_6 ?_
    refine lv_iload_n hx hb dX10_isKinOf_9 rfl (lv_at hl 1 rfl) ?_
    refine hx_iald hx hb hW hT (gqk.S hM) tt_63 rfl ⟨by omega, by omega⟩ dX10_isKinOf_10 (fun x_2 ex_2 lx_2 ux_2 => ?_)
    have ax_2 : x_2 = kf i1.toNatClampNeg := ex_2.trans (congrFun (hx_afS hM gqk rfl af_qk) _)
    refine hb_if_lt (zx := x_2.toInt) (tgt := 33) hx hb rfl dX10_isKinOf_11 (by decide) (fun c_3 => ?_) (fun c_3 => ?_)
    · skip
      refine lv_iconst (v := 0) hx hb dX10_isKinOf_33 (by decide) ?_
      exact hx_retz hx hb hr rfl hlk hW ⟨(Or.inr ⟨by decide, hv_ki_f (fun z => by rcases z with z | ⟨z1, z2⟩; (unfold Int32.toNatClampNeg at z; omega); rw [← ax_2] at z1; omega)⟩), hT, hM⟩ dX10_isKinOf_34
    · skip
      refine lv_aload_n hx hb dX10_isKinOf_14 rfl (lv_at hl 0 rfl) ?_
      refine hk_getr hx hb hts hC_10 hown hW (gx.S hM) tt_10 26 (by decide) rfl kw_1169 ⟨rfl, rfl, rfl⟩ ((hM.o gx trivial rfl).2.trans f_x_26) dX10_isKinOf_15 ?_
      refine lv_iload_n hx hb dX10_isKinOf_18 rfl (lv_at hl 1 rfl) ?_
      refine hx_iald hx hb hW hT (gqk.S hM) tt_63 rfl ⟨by omega, by omega⟩ dX10_isKinOf_19 (fun x_4 ex_4 lx_4 ux_4 => ?_)
      have ax_4 : x_4 = kf i1.toNatClampNeg := ex_4.trans (congrFun (hx_afS hM gqk rfl af_qk) _)
      obtain rfl : x_2 = x_4 := ex_2.trans ex_4.symm
      refine lv_aload_n hx hb dX10_isKinOf_20 rfl (lv_at hl 0 rfl) ?_
      refine hk_getr hx hb hts hC_10 hown hW (gx.S hM) tt_10 26 (by decide) rfl kw_1169 ⟨rfl, rfl, rfl⟩ ((hM.o gx trivial rfl).2.trans f_x_26) dX10_isKinOf_21 ?_
      refine lv_iload_n hx hb dX10_isKinOf_24 rfl (lv_at hl 2 rfl) ?_
      refine hx_iald hx hb hW hT (gqk.S hM) tt_63 rfl ⟨by omega, by omega⟩ dX10_isKinOf_25 (fun x_5 ex_5 lx_5 ux_5 => ?_)
      have ax_5 : x_5 = kf i2.toNatClampNeg := ex_5.trans (congrFun (hx_afS hM gqk rfl af_qk) _)
      refine hb_icmp_ne (zx := x_2.toInt) (zy := x_5.toInt) (tgt := 33) hx hb rfl rfl dX10_isKinOf_26 (by decide) (fun c_6 => ?_) (fun c_6 => ?_)
      · skip
        refine lv_iconst (v := 0) hx hb dX10_isKinOf_33 (by decide) ?_
        exact hx_retz hx hb hr rfl hlk hW ⟨(Or.inr ⟨by decide, hv_ki_f (fun z => by rcases z with z | ⟨z1, z2⟩; (unfold Int32.toNatClampNeg at z; omega); rw [← ax_2, ← ax_5] at z2; omega)⟩), hT, hM⟩ dX10_isKinOf_34
      · skip
        refine lv_iconst (v := 1) hx hb dX10_isKinOf_29 (by decide) ?_
        refine lv_goto (tgt := 34) hx hb dX10_isKinOf_30 (by decide) ?_
        exact hx_retz hx hb hr rfl hlk hW ⟨(Or.inl ⟨by decide, hv_ki_t.mpr (Or.inr ⟨by rw [← ax_2]; omega, by rw [← ax_2, ← ax_5]; omega⟩)⟩), hT, hM⟩ dX10_isKinOf_34


set_option maxHeartbeats 4000000 in
set_option maxRecDepth 100000 in
theorem t_X10_sits_v (l : Launch) (dC : Nat → ClassId) (dI : Nat → Nat → Nat) (dA : Nat → ClassId) (L : List Nat) (h : hx_h) (sz : Nat) (x : Nat) (i1 : Int32) (hT : hx_T T_tb L h) (gx : hx_g L h x 10) (qj : Nat) (gqj : hx_g L h qj 65) (f_x_28 : h.2.2 x 28 = some qj) (qd : Nat) (gqd : hx_g L h qd 64) (f_x_27 : h.2.2 x 27 = some qd) (qk : Nat) (gqk : hx_g L h qk 63) (f_x_26 : h.2.2 x 26 = some qk) (qb : Nat) (gqb : hx_g L h qb 72) (f_x_37 : h.2.2 x 37 = some qb) (qa : Nat) (gqa : hx_g L h qa 73) (f_x_38 : h.2.2 x 38 = some qa) (qs : Nat) (gqs : hx_g L h qs 98) (f_x_65 : h.2.2 x 65 = some qs) (jf : Nat → Int32) (af_qj : h.2.1 qj = jf) (df : Nat → Int32) (af_qd : h.2.1 qd = df) (kf : Nat → Int32) (af_qk : h.2.1 qk = kf) (bf : Nat → Int32) (af_qb : h.2.1 qb = bf) (agf : Nat → Int32) (af_qa : h.2.1 qa = agf) (sf : Nat → Int32) (af_qs : h.2.1 qs = sf) (pn0 : Int32) (f_x_20 : h.2.1 x 20 = pn0) (hi1 : 0 ≤ i1.toInt ∧ i1.toInt ≤ 99) : Met l yX10_sits (Cond.code yX10_sits cX10_sits 4 (some .int) :: hx_all) ({ frames := 1, cells := 0, slots := 0, locals := 22 }) (va_Pc [.ref x, .int i1] (hx_B T_tb (P_ty dA) (dC, dI) vwCl L h sz)) (va_Qi (fun (r : Int32) (u : List Nat × hx_h) => (∃ (sf1 : Nat → Int32), u.2.2.1 qs = sf1 ∧ (r.toInt = ((hv_fs jf df kf (bf i1.toNatClampNeg).toNatClampNeg (agf i1.toNatClampNeg).toNatClampNeg pn0.toInt.toNat).length : Int) ∧ hv_fl sf1 (hv_fs jf df kf (bf i1.toNatClampNeg).toNatClampNeg (agf i1.toNatClampNeg).toNatClampNeg pn0.toInt.toNat))) ∧ hx_T T_tb u.1 u.2 ∧ hx_S T_tb [(98, 0)] L h u.1 u.2) (hx_E T_tb (P_ty dA) (dC, dI) vwCl (hx_A L sz)) (hx_A L sz)) 0 0 (hx_A L sz) := by
  refine hx_met (lv := [(0, .ref x), (1, .int i1)]) (by decide +kernel) rfl (Nat.le_of_ble_eq_true rfl) rfl ?_
  intro p e s m below meth c hx hb hml hr hlk hts0 hown hin hsz hW ls hl
  have hts : ∀ w ∈ hx_all, w.before _ s = true := fun w hw => hts0 w (List.mem_cons_of_mem _ hw)
  have hown : s.vm.findClass "SmallCourtModel" = some m.cls := hown
  have hM : hx_S T_tb [(98, 0)] L h L h := hx_S.rf
  have b_pn0 := hT.gi gx tt_10 (k := 20) rfl
  rw [f_x_20] at b_pn0
  have b_pn0 : 0 ≤ pn0.toInt ∧ pn0.toInt ≤ 40 := b_pn0
  refine lv_iconst (v := 0) hx hb dX10_sits_0 (by decide) ?_
  refine lv_istore_n (lv' := [(2, .int (0 : Int32)), (0, .ref x), (1, .int i1)]) hx hb dX10_sits_1 rfl hl (by decide) rfl (fun ls hl => ?_)
  refine lv_iconst (v := 0) hx hb dX10_sits_2 (by decide) ?_
  refine lv_istore_n (lv' := [(3, .int (0 : Int32)), (2, .int (0 : Int32)), (0, .ref x), (1, .int i1)]) hx hb dX10_sits_3 rfl hl (by decide) rfl (fun ls hl => ?_)
  have loop4 : ∀ (n4 : Nat) (iv4_2 iv4_3 : Int32) (ia4_qs : Nat → Int32) (H : Heap) (locs : List Loc) (hL1 : List Nat) (hl1 : hx_h), 0 ≤ iv4_2.toInt → iv4_2.toInt ≤ 40 → 0 ≤ iv4_3.toInt → iv4_3.toInt ≤ 40 → (hv_fl ia4_qs (hv_fs jf df kf (bf i1.toNatClampNeg).toNatClampNeg (agf i1.toNatClampNeg).toNatClampNeg (iv4_3.toInt).toNat) ∧ iv4_2.toInt = ((hv_fs jf df kf (bf i1.toNatClampNeg).toNatClampNeg (agf i1.toNatClampNeg).toNatClampNeg (iv4_3.toInt).toNat).length : Int)) → (iv4_2.toInt ≤ iv4_3.toInt) → (iv4_3.toInt ≤ pn0.toInt) → ∀ (ls : Array Slot), 40 - iv4_3.toInt < (n4 : Int) → hx_W T_tb (P_ty dA) (dC, dI) vwCl (hx_A L sz) s.heap hL1 hl1 s H locs → hx_T T_tb hL1 hl1 → hx_S T_tb [(98, 0)] L h hL1 hl1 → hl1.2.1 qs = ia4_qs → lv_has ls 4 [(3, .int iv4_3), (2, .int iv4_2), (0, .ref x), (1, .int i1)] → W p l e ({ frames := 1, cells := 0, slots := 0, locals := 22 }) s m ([.ref x, .int i1] : List Value).toArray below meth c H locs 0 0 (MQ below (va_Qi (fun (r : Int32) (u : List Nat × hx_h) => (∃ (sf1 : Nat → Int32), u.2.2.1 qs = sf1 ∧ (r.toInt = ((hv_fs jf df kf (bf i1.toNatClampNeg).toNatClampNeg (agf i1.toNatClampNeg).toNatClampNeg pn0.toInt.toNat).length : Int) ∧ hv_fl sf1 (hv_fs jf df kf (bf i1.toNatClampNeg).toNatClampNeg (agf i1.toNatClampNeg).toNatClampNeg pn0.toInt.toNat))) ∧ hx_T T_tb u.1 u.2 ∧ hx_S T_tb [(98, 0)] L h u.1 u.2) (hx_E T_tb (P_ty dA) (dC, dI) vwCl (hx_A L sz)) (hx_A L sz)) ([.ref x, .int i1] : List Value).toArray s 0 0 (hx_A L sz)) (F0 m 4 ls []) := by
    intro n4
    induction n4 with
    | zero => intro iv4_2 iv4_3 ia4_qs H locs hL1 hl1 bliv4_2 buiv4_2 bliv4_3 buiv4_3 vi4_0 vi4_1 vi4_2 ls hn4; exfalso; omega
    | succ n4 ih4 =>
      intro iv4_2 iv4_3 ia4_qs H locs hL1 hl1 bliv4_2 buiv4_2 bliv4_3 buiv4_3 vi4_0 vi4_1 vi4_2 ls hn4 hW hT hM  nia4_qs hl
      refine lv_iload_n hx hb dX10_sits_4 rfl (lv_at hl 0 rfl) ?_
      refine lv_aload_n hx hb dX10_sits_5 rfl (lv_at hl 2 rfl) ?_
      refine hk_geti hx hb hts hC_10 hown hW (gx.S hM) tt_10 20 (by decide) rfl kw_1163 ⟨rfl, rfl, rfl⟩ ((hM.o gx trivial rfl).1.trans f_x_20) dX10_sits_6 ?_
      refine hb_icmp_ge (zx := iv4_3.toInt) (zy := pn0.toInt) (tgt := 77) hx hb rfl rfl dX10_sits_9 (by decide) (fun c_1 => ?_) (fun c_1 => ?_)
      · skip
        refine lv_iload_n hx hb dX10_sits_77 rfl (lv_at hl 1 rfl) ?_
        exact hx_reti hx hb hr hlk hW ⟨⟨ia4_qs, nia4_qs, (by have h8 := vi4_0; rw [show iv4_3.toInt.toNat = pn0.toInt.toNat by omega] at h8; exact ⟨h8.2, h8.1⟩)⟩, hT, hM⟩ dX10_sits_78
      · skip
        refine lv_aload_n hx hb dX10_sits_12 rfl (lv_at hl 2 rfl) ?_
        refine hk_getr hx hb hts hC_10 hown hW (gx.S hM) tt_10 28 (by decide) rfl kw_1171 ⟨rfl, rfl, rfl⟩ ((hM.o gx trivial rfl).2.trans f_x_28) dX10_sits_13 ?_
        refine lv_iload_n hx hb dX10_sits_16 rfl (lv_at hl 0 rfl) ?_
        refine hx_zald hx hb hW hT (gqj.S hM) tt_65 rfl ⟨by omega, by omega⟩ dX10_sits_17 (fun x_2 ex_2 lx_2 ux_2 => ?_)
        have ax_2 : x_2 = jf iv4_3.toNatClampNeg := ex_2.trans (congrFun (hx_afS hM gqj rfl af_qj) _)
        refine hb_if_eq (zx := x_2.toInt) (tgt := 71) hx hb rfl dX10_sits_18 (by decide) (fun c_3 => ?_) (fun c_3 => ?_)
        · skip
          obtain ⟨x_4, ex_4⟩ : ∃ y : Int32, y = iv4_3 + Int32.ofInt 1 := ⟨_, rfl⟩
          have rg_5 := i32_r iv4_3
          have zx_4 : x_4.toInt = iv4_3.toInt + (1) := by rw [ex_4]; exact i32_add rfl (by decide) (by omega) (by omega)
          refine lv_iinc (v := x_4) (lv' := [(3, .int x_4), (2, .int iv4_2), (0, .ref x), (1, .int i1)]) hx hb dX10_sits_71 hl (k := 0) rfl ex_4.symm (by decide) rfl (fun ls hl => ?_)
          refine lv_goto (tgt := 4) hx hb dX10_sits_74 (by decide) ?_
          exact ih4 iv4_2 x_4 ia4_qs _ _ hL1 hl1 (by omega) (by omega) (by omega) (by omega) (hv_fs_n vi4_0 (hv_ft_f (fun z => by exact z.1 ((congrArg Int32.toInt ax_2).symm.trans (by omega)))) (by omega) zx_4) (by omega) (by omega) ls (by omega) hW hT hM  nia4_qs (lv_sub hl [0, 1, 2, 3] rfl)
        · skip
          refine lv_aload_n hx hb dX10_sits_21 rfl (lv_at hl 2 rfl) ?_
          refine hk_getr hx hb hts hC_10 hown hW (gx.S hM) tt_10 27 (by decide) rfl kw_1170 ⟨rfl, rfl, rfl⟩ ((hM.o gx trivial rfl).2.trans f_x_27) dX10_sits_22 ?_
          refine lv_iload_n hx hb dX10_sits_25 rfl (lv_at hl 0 rfl) ?_
          refine hx_zald hx hb hW hT (gqd.S hM) tt_64 rfl ⟨by omega, by omega⟩ dX10_sits_26 (fun x_6 ex_6 lx_6 ux_6 => ?_)
          have ax_6 : x_6 = df iv4_3.toNatClampNeg := ex_6.trans (congrFun (hx_afS hM gqd rfl af_qd) _)
          refine hb_if_ne (zx := x_6.toInt) (tgt := 71) hx hb rfl dX10_sits_27 (by decide) (fun c_7 => ?_) (fun c_7 => ?_)
          · skip
            obtain ⟨x_8, ex_8⟩ : ∃ y : Int32, y = iv4_3 + Int32.ofInt 1 := ⟨_, rfl⟩
            have rg_9 := i32_r iv4_3
            have zx_8 : x_8.toInt = iv4_3.toInt + (1) := by rw [ex_8]; exact i32_add rfl (by decide) (by omega) (by omega)
            refine lv_iinc (v := x_8) (lv' := [(3, .int x_8), (2, .int iv4_2), (0, .ref x), (1, .int i1)]) hx hb dX10_sits_71 hl (k := 0) rfl ex_8.symm (by decide) rfl (fun ls hl => ?_)
            refine lv_goto (tgt := 4) hx hb dX10_sits_74 (by decide) ?_
            exact ih4 iv4_2 x_8 ia4_qs _ _ hL1 hl1 (by omega) (by omega) (by omega) (by omega) (hv_fs_n vi4_0 (hv_ft_f (fun z => by have h9 : x_6.toInt = 0 := (congrArg Int32.toInt ax_6).trans z.2.1; omega)) (by omega) zx_8) (by omega) (by omega) ls (by omega) hW hT hM  nia4_qs (lv_sub hl [0, 1, 2, 3] rfl)
          · skip
            refine lv_aload_n hx hb dX10_sits_30 rfl (lv_at hl 2 rfl) ?_
            refine lv_iload_n hx hb dX10_sits_31 rfl (lv_at hl 0 rfl) ?_
            refine lv_aload_n hx hb dX10_sits_32 rfl (lv_at hl 2 rfl) ?_
            refine hk_getr hx hb hts hC_10 hown hW (gx.S hM) tt_10 37 (by decide) rfl kw_1180 ⟨rfl, rfl, rfl⟩ ((hM.o gx trivial rfl).2.trans f_x_37) dX10_sits_33 ?_
            refine lv_iload_n hx hb dX10_sits_36 rfl (lv_at hl 3 rfl) ?_
            refine hx_iald hx hb hW hT (gqb.S hM) tt_72 rfl ⟨by omega, by omega⟩ dX10_sits_37 (fun x_10 ex_10 lx_10 ux_10 => ?_)
            have ax_10 : x_10 = bf i1.toNatClampNeg := ex_10.trans (congrFun (hx_afS hM gqb rfl af_qb) _)
            refine hx_goi (hx_runV (As := [.int iv4_3, .int x_10]) (rest := []) ⟨hx, hb, hml, hown, hts⟩ hW (gx.S hM) tt_10 (T := TX10) (N := 98) rfl (t_X10_isKinOf_v l dC dI dA hL1 hl1 H.size x iv4_3 x_10 hT (gx.S hM) qk (gqk.S hM) ((hM.o gx trivial rfl).2.trans f_x_26) kf (hx_afS hM gqk rfl af_qk) ⟨by omega, by omega⟩ ⟨by omega, by omega⟩) (cwV 2 hts (hx_gV kw_1609 kw_1606 kw_1608 kw_75 kw_103) rfl rfl rfl (by decide +kernel) ⟨Nat.le_of_ble_eq_true rfl, Nat.le_of_ble_eq_true rfl⟩) rfl hl.1 rfl (Nat.le_of_ble_eq_true rfl) dX10_sits_38 ⟨Nat.le_of_ble_eq_true rfl, Nat.le_of_ble_eq_true rfl⟩) hW (fun r_13 L_11 h_12 H locs p_14 hW => ?_)
            obtain ⟨hr_15, hT, hs⟩ := p_14
            replace hT : hx_T T_tb L_11 h_12 := hT
            replace hs : hx_S T_tb [] hL1 hl1 L_11 h_12 := hs
            replace nia4_qs : h_12.2.1 qs = ia4_qs := (funext fun j => (hs.a (gqs.S hM) rfl j).1).trans nia4_qs
            replace ex_2 := ex_2.trans (hs.a (gqj.S hM) rfl _).1.symm
            replace ex_6 := ex_6.trans (hs.a (gqd.S hM) rfl _).1.symm
            replace ex_10 := ex_10.trans (hs.a (gqb.S hM) rfl _).1.symm
            replace hM := hM.tr (hs.mono (by decide))
            have kk_16 := hr_15; rw [ax_10] at kk_16
            refine hb_if_ne (zx := r_13.toInt) (tgt := 71) hx hb rfl dX10_sits_41 (by decide) (fun c_17 => ?_) (fun c_17 => ?_)
            · skip
              obtain ⟨x_18, ex_18⟩ : ∃ y : Int32, y = iv4_3 + Int32.ofInt 1 := ⟨_, rfl⟩
              have rg_19 := i32_r iv4_3
              have zx_18 : x_18.toInt = iv4_3.toInt + (1) := by rw [ex_18]; exact i32_add rfl (by decide) (by omega) (by omega)
              refine lv_iinc (v := x_18) (lv' := [(3, .int x_18), (2, .int iv4_2), (0, .ref x), (1, .int i1)]) hx hb dX10_sits_71 hl (k := 0) rfl ex_18.symm (by decide) rfl (fun ls hl => ?_)
              refine lv_goto (tgt := 4) hx hb dX10_sits_74 (by decide) ?_
              exact ih4 iv4_2 x_18 ia4_qs _ _ L_11 h_12 (by omega) (by omega) (by omega) (by omega) (hv_fs_n vi4_0 (hv_ft_f (fun z => by exact absurd (z.2.2.1.symm.trans (by rcases kk_16 with z | z; exact z.2; exfalso; omega)) (by decide))) (by omega) zx_18) (by omega) (by omega) ls (by omega) hW hT hM  nia4_qs (lv_sub hl [0, 1, 2, 3] rfl)
            · skip
              refine lv_aload_n hx hb dX10_sits_44 rfl (lv_at hl 2 rfl) ?_
              refine lv_iload_n hx hb dX10_sits_45 rfl (lv_at hl 0 rfl) ?_
              refine lv_aload_n hx hb dX10_sits_46 rfl (lv_at hl 2 rfl) ?_
              refine hk_getr hx hb hts hC_10 hown hW (gx.S hM) tt_10 38 (by decide) rfl kw_1181 ⟨rfl, rfl, rfl⟩ ((hM.o gx trivial rfl).2.trans f_x_38) dX10_sits_47 ?_
              refine lv_iload_n hx hb dX10_sits_50 rfl (lv_at hl 3 rfl) ?_
              refine hx_iald hx hb hW hT (gqa.S hM) tt_73 rfl ⟨by omega, by omega⟩ dX10_sits_51 (fun x_20 ex_20 lx_20 ux_20 => ?_)
              have ax_20 : x_20 = agf i1.toNatClampNeg := ex_20.trans (congrFun (hx_afS hM gqa rfl af_qa) _)
              refine hx_goi (hx_runV (As := [.int iv4_3, .int x_20]) (rest := []) ⟨hx, hb, hml, hown, hts⟩ hW (gx.S hM) tt_10 (T := TX10) (N := 98) rfl (t_X10_isKinOf_v l dC dI dA L_11 h_12 H.size x iv4_3 x_20 hT (gx.S hM) qk (gqk.S hM) ((hM.o gx trivial rfl).2.trans f_x_26) kf (hx_afS hM gqk rfl af_qk) ⟨by omega, by omega⟩ ⟨by omega, by omega⟩) (cwV 2 hts (hx_gV kw_1609 kw_1606 kw_1608 kw_75 kw_103) rfl rfl rfl (by decide +kernel) ⟨Nat.le_of_ble_eq_true rfl, Nat.le_of_ble_eq_true rfl⟩) rfl hl.1 rfl (Nat.le_of_ble_eq_true rfl) dX10_sits_52 ⟨Nat.le_of_ble_eq_true rfl, Nat.le_of_ble_eq_true rfl⟩) hW (fun r_23 L_21 h_22 H locs p_24 hW => ?_)
              obtain ⟨hr_25, hT, hs⟩ := p_24
              replace hT : hx_T T_tb L_21 h_22 := hT
              replace hs : hx_S T_tb [] L_11 h_12 L_21 h_22 := hs
              replace nia4_qs : h_22.2.1 qs = ia4_qs := (funext fun j => (hs.a (gqs.S hM) rfl j).1).trans nia4_qs
              replace ex_2 := ex_2.trans (hs.a (gqj.S hM) rfl _).1.symm
              replace ex_6 := ex_6.trans (hs.a (gqd.S hM) rfl _).1.symm
              replace ex_10 := ex_10.trans (hs.a (gqb.S hM) rfl _).1.symm
              replace ex_20 := ex_20.trans (hs.a (gqa.S hM) rfl _).1.symm
              replace hM := hM.tr (hs.mono (by decide))
              have kk_26 := hr_25; rw [ax_20] at kk_26
              refine hb_if_eq (zx := r_23.toInt) (tgt := 61) hx hb rfl dX10_sits_55 (by decide) (fun c_27 => ?_) (fun c_27 => ?_)
              · skip
                refine lv_aload_n hx hb dX10_sits_61 rfl (lv_at hl 2 rfl) ?_
                refine hk_getr hx hb hts hC_10 hown hW (gx.S hM) tt_10 65 (by decide) rfl kw_1208 ⟨rfl, rfl, rfl⟩ ((hM.o gx trivial rfl).2.trans f_x_65) dX10_sits_62 ?_
                refine lv_iload_n hx hb dX10_sits_65 rfl (lv_at hl 1 rfl) ?_
                refine lv_iload_n hx hb dX10_sits_66 rfl (lv_at hl 0 rfl) ?_
                have nia4_qsO := nia4_qs
                refine hx_iast hx hb hW hT (hx_S.rf (M := [(98, 0)])) (gqs.S hM) tt_98 rfl ⟨by omega, by omega⟩ rfl ⟨by omega, by omega⟩ (List.mem_singleton.mpr rfl) dX10_sits_67 (fun H locs h_28 eh_28 hW hT hs => ?_)
                replace ex_2 := ex_2.trans (hs.a (gqj.S hM) rfl _).1.symm
                replace ex_6 := ex_6.trans (hs.a (gqd.S hM) rfl _).1.symm
                replace ex_10 := ex_10.trans (hs.a (gqb.S hM) rfl _).1.symm
                replace ex_20 := ex_20.trans (hs.a (gqa.S hM) rfl _).1.symm
                replace hM := hM.tr (hs.mono (by decide))
                obtain ⟨fa_29, dfa_29⟩ : ∃ g : Nat → Int32, g = hx_up ia4_qs iv4_2.toNatClampNeg iv4_3 := ⟨_, rfl⟩
                have nfa_29 : h_28.2.1 qs = fa_29 := by rw [eh_28, dfa_29, ← nia4_qsO]; exact hx_pi_fun _ _ _ _
                obtain ⟨x_30, ex_30⟩ : ∃ y : Int32, y = iv4_2 + Int32.ofInt 1 := ⟨_, rfl⟩
                have rg_31 := i32_r iv4_2
                have zx_30 : x_30.toInt = iv4_2.toInt + (1) := by rw [ex_30]; exact i32_add rfl (by decide) (by omega) (by omega)
                refine lv_iinc (v := x_30) (lv' := [(2, .int x_30), (3, .int iv4_3), (0, .ref x), (1, .int i1)]) hx hb dX10_sits_68 hl (k := 1) rfl ex_30.symm (by decide) rfl (fun ls hl => ?_)
                obtain ⟨x_32, ex_32⟩ : ∃ y : Int32, y = iv4_3 + Int32.ofInt 1 := ⟨_, rfl⟩
                have rg_33 := i32_r iv4_3
                have zx_32 : x_32.toInt = iv4_3.toInt + (1) := by rw [ex_32]; exact i32_add rfl (by decide) (by omega) (by omega)
                refine lv_iinc (v := x_32) (lv' := [(3, .int x_32), (2, .int x_30), (0, .ref x), (1, .int i1)]) hx hb dX10_sits_71 hl (k := 1) rfl ex_32.symm (by decide) rfl (fun ls hl => ?_)
                refine lv_goto (tgt := 4) hx hb dX10_sits_74 (by decide) ?_
                exact ih4 x_30 x_32 fa_29 _ _ L_21 h_28 (by omega) (by omega) (by omega) (by omega) (hv_fs_y vi4_0 (hv_ft_t.mpr ⟨(fun z9 => by have h9 : x_2.toInt = 0 := (congrArg Int32.toInt ax_2).trans z9; omega), ((congrArg Int32.toInt ax_6).symm.trans (by omega)), (by rcases kk_16 with z | z; (exfalso; omega); exact z.2), (by rcases kk_26 with z | z; (exfalso; omega); exact z.2)⟩) (by omega) (by unfold Int32.toNatClampNeg; omega) (by omega) dfa_29 zx_32 (by omega)) (by omega) (by omega) ls (by omega) hW hT hM  nfa_29 (lv_sub hl [0, 1, 2, 3] rfl)
              · skip
                refine lv_goto (tgt := 71) hx hb dX10_sits_58 (by decide) ?_
                obtain ⟨x_34, ex_34⟩ : ∃ y : Int32, y = iv4_3 + Int32.ofInt 1 := ⟨_, rfl⟩
                have rg_35 := i32_r iv4_3
                have zx_34 : x_34.toInt = iv4_3.toInt + (1) := by rw [ex_34]; exact i32_add rfl (by decide) (by omega) (by omega)
                refine lv_iinc (v := x_34) (lv' := [(3, .int x_34), (2, .int iv4_2), (0, .ref x), (1, .int i1)]) hx hb dX10_sits_71 hl (k := 0) rfl ex_34.symm (by decide) rfl (fun ls hl => ?_)
                refine lv_goto (tgt := 4) hx hb dX10_sits_74 (by decide) ?_
                exact ih4 iv4_2 x_34 ia4_qs _ _ L_21 h_22 (by omega) (by omega) (by omega) (by omega) (hv_fs_n vi4_0 (hv_ft_f (fun z => by exact absurd (z.2.2.2.symm.trans (by rcases kk_26 with z | z; exact z.2; exfalso; omega)) (by decide))) (by omega) zx_34) (by omega) (by omega) ls (by omega) hW hT hM  nia4_qs (lv_sub hl [0, 1, 2, 3] rfl)
  have zk_0 : (0 : Int32).toInt = 0 := by decide
  have zk_0 : (0 : Int32).toInt = 0 := by decide
  exact loop4 41 (0 : Int32) (0 : Int32) sf _ _ L h (by decide) (by decide) (by decide) (by decide) (by rw [zk_0]; exact ⟨hv_fl_0, rfl⟩) (by omega) (by omega) ls (by omega) hW hT hM  af_qs hl
end
section
set_option maxHeartbeats 4000000 in
set_option maxRecDepth 100000 in
theorem t_X9_sumOfSplit_v (l : Launch) (dC : Nat → ClassId) (dI : Nat → Nat → Nat) (dA : Nat → ClassId) (L : List Nat) (h : hx_h) (sz : Nat) (x : Nat) (v1 : Nat) (v2 : Nat) (hT : hx_T T_tb L h) (gx : hx_g L h x 9) (gv1 : hx_g L h v1 2) (gv2 : hx_g L h v2 0) (qp : Nat) (gqp : hx_g L h qp 44) (f_x_7 : h.2.2 x 7 = some qp) (qc : Nat) (gqc : hx_g L h qc 45) (f_x_10 : h.2.2 x 10 = some qc) (qt : Nat) (gqt : hx_g L h qt 11) (f_v2_2 : h.2.2 v2 2 = some qt) (ic : Int32) (eo_v1 : h.2.2 qc ic.toNatClampNeg = some v1) (ob_ic : 0 ≤ ic.toInt ∧ ic.toInt ≤ 99) (tf : Nat → Int32) (af_qt : h.2.1 qt = tf) (cn0 : Int32) (f_x_11 : h.2.1 x 11 = cn0) (pn0 : Int32) (f_x_8 : h.2.1 x 8 = pn0) (smf : Nat → Int32) (cl_qc_6 : hx_col 100 h qc 6 = smf) (flf : Nat → Int32) (cl_qc_8 : hx_col 100 h qc 8 = flf) (nu_qp : hx_num 40 h qp 0 (pn0.toInt)) (agf byf : Nat → Int32) (hDF : hw_DF h qc qp 2 agf cn0.toInt) (hDP : hw_DF h qc qp 1 byf cn0.toInt) (R : Nat → Int) (hR : hv_rC tf = R) (hRb : ∀ k, 0 ≤ R k ∧ R k ≤ 9999) (hcn : ic.toInt < cn0.toInt) (pf_x_8 : ∀ j : Nat, (j : Int) < (h.2.1 x 8).toInt → h.2.2 qp j ≠ none) (pf_x_11 : ∀ j : Nat, (j : Int) < (h.2.1 x 11).toInt → h.2.2 qc j ≠ none) : Met l yX9_sumOfSplit (Cond.code yX9_sumOfSplit cX9_sumOfSplit 6 (some .int) :: hx_all) ({ frames := 0, cells := 0, slots := 0, locals := 0 }) (va_Pc [.ref x, .ref v1, .ref v2] (hx_B T_tb (P_ty dA) (dC, dI) vwCl L h sz)) (va_Qi (fun (r : Int32) (u : List Nat × hx_h) => (r.toInt = hv_sm byf agf flf smf (byf ic.toNatClampNeg).toInt (agf ic.toNatClampNeg).toInt ((flf ic.toNatClampNeg).toInt - R 1) cn0.toInt.toNat ∧ (0 ≤ r.toInt ∧ r.toInt ≤ 999900)) ∧ hx_T T_tb u.1 u.2 ∧ hx_S T_tb [] L h u.1 u.2) (hx_E T_tb (P_ty dA) (dC, dI) vwCl (hx_A L sz)) (hx_A L sz)) 0 0 (hx_A L sz) := by
  refine hx_met (lv := [(0, .ref x), (1, .ref v1), (2, .ref v2)]) (by decide +kernel) rfl (Nat.le_of_ble_eq_true rfl) rfl ?_
  intro p e s m below meth c hx hb hml hr hlk hts0 hown hin hsz hW ls hl
  have hts : ∀ w ∈ hx_all, w.before _ s = true := fun w hw => hts0 w (List.mem_cons_of_mem _ hw)
  have hown : s.vm.findClass "SmallCourt" = some m.cls := hown
  have hM : hx_S T_tb [] L h L h := hx_S.rf
  have b_cn0 := hT.gi gx tt_9 (k := 11) rfl
  rw [f_x_11] at b_cn0
  have b_cn0 : 0 ≤ cn0.toInt ∧ cn0.toInt ≤ 100 := b_cn0
  have b_pn0 := hT.gi gx tt_9 (k := 8) rfl
  rw [f_x_8] at b_pn0
  have b_pn0 : 0 ≤ pn0.toInt ∧ pn0.toInt ≤ 40 := b_pn0
  obtain ⟨fv_1, efv_1⟩ : ∃ y : Int32, y = h.2.1 v1 8 := ⟨_, rfl⟩
  have bfv_1 := hT.gi (gv1.S hM) tt_2 (k := 8) rfl
  rw [← efv_1] at bfv_1
  have bfv_1 : 0 ≤ fv_1.toInt ∧ fv_1.toInt ≤ 7999 := bfv_1
  have ffv_1 := efv_1.symm
  have cv1f9 : fv_1 = flf ic.toNatClampNeg := by rw [← ffv_1, ← cl_qc_8]; exact (hx_col_at eo_v1 (by unfold Int32.toNatClampNeg; omega)).symm
  refine lv_iconst (v := 0) hx hb dX9_sumOfSplit_0 (by decide) ?_
  refine lv_istore_n (lv' := [(3, .int (0 : Int32)), (0, .ref x), (1, .ref v1), (2, .ref v2)]) hx hb dX9_sumOfSplit_1 rfl hl (by decide) rfl (fun ls hl => ?_)
  refine lv_iconst (v := 0) hx hb dX9_sumOfSplit_2 (by decide) ?_
  refine lv_istore (lv' := [(4, .int (0 : Int32)), (3, .int (0 : Int32)), (0, .ref x), (1, .ref v1), (2, .ref v2)]) hx hb dX9_sumOfSplit_3 hl (by decide) rfl (fun ls hl => ?_)
  have loop5 : ∀ (n5 : Nat) (iv5_3 iv5_4 : Int32) (H : Heap) (locs : List Loc) (hL1 : List Nat) (hl1 : hx_h), 0 ≤ iv5_3.toInt → iv5_3.toInt ≤ 999900 → 0 ≤ iv5_4.toInt → iv5_4.toInt ≤ 100 → (iv5_3.toInt = hv_sm byf agf flf smf (byf ic.toNatClampNeg).toInt (agf ic.toNatClampNeg).toInt ((flf ic.toNatClampNeg).toInt - R 1) (iv5_4.toInt).toNat) → (iv5_3.toInt ≤ 9999 * iv5_4.toInt) → (iv5_4.toInt ≤ cn0.toInt) → ∀ (ls : Array Slot), 100 - iv5_4.toInt < (n5 : Int) → hx_W T_tb (P_ty dA) (dC, dI) vwCl (hx_A L sz) s.heap hL1 hl1 s H locs → hx_T T_tb hL1 hl1 → hx_S T_tb [] L h hL1 hl1 → hl1.2.2 x 7 = some qp → hl1.2.2 x 10 = some qc → hl1.2.1 x 11 = cn0 → hl1.2.1 x 8 = pn0 → hl1.2.1 v1 8 = fv_1 → hx_g hL1 hl1 x 9 → hx_g hL1 hl1 qp 44 → hx_g hL1 hl1 qc 45 → (∀ j : Nat, (j : Int) < (hl1.2.1 x 8).toInt → hl1.2.2 qp j ≠ none) → (∀ j : Nat, (j : Int) < (hl1.2.1 x 11).toInt → hl1.2.2 qc j ≠ none) → hx_col 100 hl1 qc 6 = smf → hx_col 100 hl1 qc 8 = flf → hx_num 40 hl1 qp 0 (pn0.toInt) → hl1.2.2 qc ic.toNatClampNeg = some v1 → hw_DF hl1 qc qp 2 agf cn0.toInt → hw_DF hl1 qc qp 1 byf cn0.toInt → lv_has ls 6 [(4, .int iv5_4), (3, .int iv5_3), (0, .ref x), (1, .ref v1), (2, .ref v2)] → W p l e ({ frames := 0, cells := 0, slots := 0, locals := 0 }) s m ([.ref x, .ref v1, .ref v2] : List Value).toArray below meth c H locs 0 0 (MQ below (va_Qi (fun (r : Int32) (u : List Nat × hx_h) => (r.toInt = hv_sm byf agf flf smf (byf ic.toNatClampNeg).toInt (agf ic.toNatClampNeg).toInt ((flf ic.toNatClampNeg).toInt - R 1) cn0.toInt.toNat ∧ (0 ≤ r.toInt ∧ r.toInt ≤ 999900)) ∧ hx_T T_tb u.1 u.2 ∧ hx_S T_tb [] L h u.1 u.2) (hx_E T_tb (P_ty dA) (dC, dI) vwCl (hx_A L sz)) (hx_A L sz)) ([.ref x, .ref v1, .ref v2] : List Value).toArray s 0 0 (hx_A L sz)) (F0 m 5 ls []) := by
    intro n5
    induction n5 with
    | zero => intro iv5_3 iv5_4 H locs hL1 hl1 bliv5_3 buiv5_3 bliv5_4 buiv5_4 vi5_0 vi5_1 vi5_2 ls hn5; exfalso; omega
    | succ n5 ih5 =>
      intro iv5_3 iv5_4 H locs hL1 hl1 bliv5_3 buiv5_3 bliv5_4 buiv5_4 vi5_0 vi5_1 vi5_2 ls hn5 hW hT hM f_x_7 f_x_10 f_x_11 f_x_8 ffv_1 gx gqp gqc pf_x_8 pf_x_11 cl_qc_6 cl_qc_8 nu_qp eo_v1 hDF hDP hl
      refine lv_iload hx hb dX9_sumOfSplit_5 (lv_at hl 0 rfl) ?_
      refine lv_aload_n hx hb dX9_sumOfSplit_7 rfl (lv_at hl 2 rfl) ?_
      refine hk_geti hx hb hts hC_9 hown hW gx tt_9 11 (by decide) rfl kw_375 ⟨rfl, rfl, rfl⟩ f_x_11 dX9_sumOfSplit_8 ?_
      refine hb_icmp_ge (zx := iv5_4.toInt) (zy := cn0.toInt) (tgt := 80) hx hb rfl rfl dX9_sumOfSplit_11 (by decide) (fun c_2 => ?_) (fun c_2 => ?_)
      · skip
        refine lv_iload_n hx hb dX9_sumOfSplit_80 rfl (lv_at hl 1 rfl) ?_
        exact hx_reti hx hb hr hlk hW ⟨⟨(by have h8 := vi5_0; rw [show iv5_4.toInt.toNat = cn0.toInt.toNat by omega] at h8; exact h8), by omega, by omega⟩, hT, hM⟩ dX9_sumOfSplit_81
      · skip
        refine lv_aload_n hx hb dX9_sumOfSplit_14 rfl (lv_at hl 2 rfl) ?_
        refine hk_getr hx hb hts hC_9 hown hW gx tt_9 10 (by decide) rfl kw_374 ⟨rfl, rfl, rfl⟩ f_x_10 dX9_sumOfSplit_15 ?_
        refine lv_iload hx hb dX9_sumOfSplit_18 (lv_at hl 0 rfl) ?_
        refine hx_aaldN hx hb hW hT gqc tt_45 (t1 := 2) rfl ⟨by omega, by omega⟩ (pf_x_11 _ (by rw [f_x_11]; exact hx_tnI (by omega) (by omega))) dX9_sumOfSplit_20 (fun q_3 fq_3 gq_3 => ?_)
        refine lv_astore (lv' := [(5, .ref q_3), (4, .int iv5_4), (3, .int iv5_3), (0, .ref x), (1, .ref v1), (2, .ref v2)]) hx hb dX9_sumOfSplit_21 hl (by decide) rfl (fun ls hl => ?_)
        refine lv_aload hx hb dX9_sumOfSplit_23 (lv_at hl 0 rfl) ?_
        refine hx_getn hx hb hts hC_2 hown hW hT gq_3 tt_2 1 (by decide) rfl kw_728 ⟨rfl, rfl, rfl⟩ dX9_sumOfSplit_25 (fun q_4 fq_4 gq_4 => ?_)
        refine lv_aload_n hx hb dX9_sumOfSplit_28 rfl (lv_at hl 4 rfl) ?_
        refine hx_getn hx hb hts hC_2 hown hW hT (gv1.S hM) tt_2 1 (by decide) rfl kw_728 ⟨rfl, rfl, rfl⟩ dX9_sumOfSplit_29 (fun q_5 fq_5 gq_5 => ?_)
        have hp_6 := hv_pid hDP nu_qp (by unfold Int32.toNatClampNeg; omega) (by unfold Int32.toNatClampNeg; omega) (by unfold Int32.toNatClampNeg; omega) (by unfold Int32.toNatClampNeg; omega) fq_3 eo_v1 fq_4 fq_5
        refine lv_acmp_ne (rx := (some q_4)) (ry := (some q_5)) (tgt := 74) hx hb dX9_sumOfSplit_32 (by decide) (fun c_7 => ?_) (fun c_7 => ?_)
        · skip
          obtain ⟨x_8, ex_8⟩ : ∃ y : Int32, y = iv5_4 + Int32.ofInt 1 := ⟨_, rfl⟩
          have rg_9 := i32_r iv5_4
          have zx_8 : x_8.toInt = iv5_4.toInt + (1) := by rw [ex_8]; exact i32_add rfl (by decide) (by omega) (by omega)
          refine lv_iinc (v := x_8) (lv' := [(4, .int x_8), (5, .ref q_3), (3, .int iv5_3), (0, .ref x), (1, .ref v1), (2, .ref v2)]) hx hb dX9_sumOfSplit_74 hl (k := 1) rfl ex_8.symm (by decide) rfl (fun ls hl => ?_)
          refine lv_goto (tgt := 5) hx hb dX9_sumOfSplit_77 (by decide) ?_
          exact ih5 iv5_3 x_8 _ _ hL1 hl1 (by omega) (by omega) (by omega) (by omega) (hv_sm_n vi5_0 (hv_sq_f (fun z => c_7 (congrArg some (hp_6.mpr z.1)))) (by omega) zx_8) (by omega) (by omega) ls (by omega) hW hT hM f_x_7 f_x_10 f_x_11 f_x_8 ffv_1 gx gqp gqc pf_x_8 pf_x_11 cl_qc_6 cl_qc_8 nu_qp eo_v1 hDF hDP (lv_sub hl [0, 2, 3, 4, 5] rfl)
        · skip
          refine lv_aload hx hb dX9_sumOfSplit_35 (lv_at hl 0 rfl) ?_
          refine hx_getn hx hb hts hC_2 hown hW hT gq_3 tt_2 2 (by decide) rfl kw_733 ⟨rfl, rfl, rfl⟩ dX9_sumOfSplit_37 (fun q_10 fq_10 gq_10 => ?_)
          refine lv_aload_n hx hb dX9_sumOfSplit_40 rfl (lv_at hl 4 rfl) ?_
          refine hx_getn hx hb hts hC_2 hown hW hT (gv1.S hM) tt_2 2 (by decide) rfl kw_733 ⟨rfl, rfl, rfl⟩ dX9_sumOfSplit_41 (fun q_11 fq_11 gq_11 => ?_)
          have hp_12 := hv_pid hDF nu_qp (by unfold Int32.toNatClampNeg; omega) (by unfold Int32.toNatClampNeg; omega) (by unfold Int32.toNatClampNeg; omega) (by unfold Int32.toNatClampNeg; omega) fq_3 eo_v1 fq_10 fq_11
          refine lv_acmp_ne (rx := (some q_10)) (ry := (some q_11)) (tgt := 74) hx hb dX9_sumOfSplit_44 (by decide) (fun c_13 => ?_) (fun c_13 => ?_)
          · skip
            obtain ⟨x_14, ex_14⟩ : ∃ y : Int32, y = iv5_4 + Int32.ofInt 1 := ⟨_, rfl⟩
            have rg_15 := i32_r iv5_4
            have zx_14 : x_14.toInt = iv5_4.toInt + (1) := by rw [ex_14]; exact i32_add rfl (by decide) (by omega) (by omega)
            refine lv_iinc (v := x_14) (lv' := [(4, .int x_14), (5, .ref q_3), (3, .int iv5_3), (0, .ref x), (1, .ref v1), (2, .ref v2)]) hx hb dX9_sumOfSplit_74 hl (k := 1) rfl ex_14.symm (by decide) rfl (fun ls hl => ?_)
            refine lv_goto (tgt := 5) hx hb dX9_sumOfSplit_77 (by decide) ?_
            exact ih5 iv5_3 x_14 _ _ hL1 hl1 (by omega) (by omega) (by omega) (by omega) (hv_sm_n vi5_0 (hv_sq_f (fun z => c_13 (congrArg some (hp_12.mpr z.2.1)))) (by omega) zx_14) (by omega) (by omega) ls (by omega) hW hT hM f_x_7 f_x_10 f_x_11 f_x_8 ffv_1 gx gqp gqc pf_x_8 pf_x_11 cl_qc_6 cl_qc_8 nu_qp eo_v1 hDF hDP (lv_sub hl [0, 2, 3, 4, 5] rfl)
          · skip
            refine lv_aload hx hb dX9_sumOfSplit_47 (lv_at hl 0 rfl) ?_
            refine hx_geti hx hb hts hC_2 hown hW hT gq_3 tt_2 8 (by decide) rfl kw_743 ⟨rfl, rfl, rfl⟩ dX9_sumOfSplit_49 (fun x_16 ex_16 lx_16 ux_16 => ?_)
            have fx_16 := ex_16.symm
            have cx_16 : x_16 = flf iv5_4.toNatClampNeg := by rw [ex_16, ← cl_qc_8]; exact (hx_col_at fq_3 (by unfold Int32.toNatClampNeg; omega)).symm
            refine lv_aload_n hx hb dX9_sumOfSplit_52 rfl (lv_at hl 4 rfl) ?_
            refine hk_geti hx hb hts hC_2 hown hW (gv1.S hM) tt_2 8 (by decide) rfl kw_743 ⟨rfl, rfl, rfl⟩ ffv_1 dX9_sumOfSplit_53 ?_
            refine lv_aload_n hx hb dX9_sumOfSplit_56 rfl (lv_at hl 5 rfl) ?_
            refine hk_getr hx hb hts hC_0 hown hW (gv2.S hM) tt_0 2 (by decide) rfl kw_170 ⟨rfl, rfl, rfl⟩ ((hM.o gv2 trivial rfl).2.trans f_v2_2) dX9_sumOfSplit_57 ?_
            refine lv_iconst (v := 2) hx hb dX9_sumOfSplit_60 (by decide) ?_
            refine hx_iald hx hb hW hT (gqt.S hM) tt_11 rfl (by decide) dX9_sumOfSplit_61 (fun x_17 ex_17 lx_17 ux_17 => ?_)
            have ax_17 : x_17 = tf (2 : Int32).toNatClampNeg := ex_17.trans (congrFun (hx_afS hM gqt rfl af_qt) _)
            have hR_18 : x_17.toInt = R 1 := by rw [← hR, ax_17, show (2 : Int32).toNatClampNeg = 2 from by decide]; rfl
            have hR_18b := hRb 1
            rw [← hR_18] at hR_18b
            refine lv_isub hx hb dX9_sumOfSplit_62 ?_
            have rg_19 := i32_r fv_1
            have rg_20 := i32_r x_17
            refine lv_topi (fun x_21 ex_21 => ?_)
            have zx_21 : x_21.toInt = fv_1.toInt - x_17.toInt := by rw [ex_21]; exact i32_sub rfl rfl (by omega) (by omega)
            refine hb_icmp_lt (zx := x_16.toInt) (zy := x_21.toInt) (tgt := 74) hx hb rfl rfl dX9_sumOfSplit_63 (by decide) (fun c_22 => ?_) (fun c_22 => ?_)
            · skip
              obtain ⟨x_23, ex_23⟩ : ∃ y : Int32, y = iv5_4 + Int32.ofInt 1 := ⟨_, rfl⟩
              have rg_24 := i32_r iv5_4
              have zx_23 : x_23.toInt = iv5_4.toInt + (1) := by rw [ex_23]; exact i32_add rfl (by decide) (by omega) (by omega)
              refine lv_iinc (v := x_23) (lv' := [(4, .int x_23), (5, .ref q_3), (3, .int iv5_3), (0, .ref x), (1, .ref v1), (2, .ref v2)]) hx hb dX9_sumOfSplit_74 hl (k := 1) rfl ex_23.symm (by decide) rfl (fun ls hl => ?_)
              refine lv_goto (tgt := 5) hx hb dX9_sumOfSplit_77 (by decide) ?_
              exact ih5 iv5_3 x_23 _ _ hL1 hl1 (by omega) (by omega) (by omega) (by omega) (hv_sm_n vi5_0 (hv_sq_f (fun z => by have h9 := z.2.2; rw [show (flf iv5_4.toInt.toNat) = x_16 from cx_16.symm, show (flf ic.toNatClampNeg) = fv_1 from cv1f9.symm] at h9; omega)) (by omega) zx_23) (by omega) (by omega) ls (by omega) hW hT hM f_x_7 f_x_10 f_x_11 f_x_8 ffv_1 gx gqp gqc pf_x_8 pf_x_11 cl_qc_6 cl_qc_8 nu_qp eo_v1 hDF hDP (lv_sub hl [0, 2, 3, 4, 5] rfl)
            · skip
              refine lv_iload_n hx hb dX9_sumOfSplit_66 rfl (lv_at hl 2 rfl) ?_
              refine lv_aload hx hb dX9_sumOfSplit_67 (lv_at hl 0 rfl) ?_
              refine hx_geti hx hb hts hC_2 hown hW hT gq_3 tt_2 6 (by decide) rfl kw_741 ⟨rfl, rfl, rfl⟩ dX9_sumOfSplit_69 (fun x_25 ex_25 lx_25 ux_25 => ?_)
              have fx_25 := ex_25.symm
              have cx_25 : x_25 = smf iv5_4.toNatClampNeg := by rw [ex_25, ← cl_qc_6]; exact (hx_col_at fq_3 (by unfold Int32.toNatClampNeg; omega)).symm
              refine lv_iadd hx hb dX9_sumOfSplit_72 ?_
              have rg_26 := i32_r iv5_3
              have rg_27 := i32_r x_25
              refine lv_topi (fun x_28 ex_28 => ?_)
              have zx_28 : x_28.toInt = iv5_3.toInt + x_25.toInt := by rw [ex_28]; exact i32_add rfl rfl (by omega) (by omega)
              refine lv_istore_n (lv' := [(3, .int x_28), (5, .ref q_3), (4, .int iv5_4), (0, .ref x), (1, .ref v1), (2, .ref v2)]) hx hb dX9_sumOfSplit_73 rfl hl (by decide) rfl (fun ls hl => ?_)
              obtain ⟨x_29, ex_29⟩ : ∃ y : Int32, y = iv5_4 + Int32.ofInt 1 := ⟨_, rfl⟩
              have rg_30 := i32_r iv5_4
              have zx_29 : x_29.toInt = iv5_4.toInt + (1) := by rw [ex_29]; exact i32_add rfl (by decide) (by omega) (by omega)
              refine lv_iinc (v := x_29) (lv' := [(4, .int x_29), (3, .int x_28), (5, .ref q_3), (0, .ref x), (1, .ref v1), (2, .ref v2)]) hx hb dX9_sumOfSplit_74 hl (k := 2) rfl ex_29.symm (by decide) rfl (fun ls hl => ?_)
              refine lv_goto (tgt := 5) hx hb dX9_sumOfSplit_77 (by decide) ?_
              exact ih5 x_28 x_29 _ _ hL1 hl1 (by omega) (by omega) (by omega) (by omega) (hv_sm_y (ix := iv5_4.toNatClampNeg) (v := x_25) vi5_0 (hv_sq_t.mpr ⟨(hp_6.mp (Option.some.inj c_7)), (hp_12.mp (Option.some.inj c_13)), (by rw [show (flf iv5_4.toInt.toNat) = x_16 from cx_16.symm, show (flf ic.toNatClampNeg) = fv_1 from cv1f9.symm]; omega)⟩) (by omega) (by unfold Int32.toNatClampNeg; omega) cx_25 (by omega) zx_29) (by omega) (by omega) ls (by omega) hW hT hM f_x_7 f_x_10 f_x_11 f_x_8 ffv_1 gx gqp gqc pf_x_8 pf_x_11 cl_qc_6 cl_qc_8 nu_qp eo_v1 hDF hDP (lv_sub hl [0, 1, 3, 4, 5] rfl)
  have zk_0 : (0 : Int32).toInt = 0 := by decide
  have zk_0 : (0 : Int32).toInt = 0 := by decide
  exact loop5 101 (0 : Int32) (0 : Int32) _ _ L h (by decide) (by decide) (by decide) (by decide) (by rw [zk_0]; rfl) (by omega) (by omega) ls (by omega) hW hT hM f_x_7 f_x_10 f_x_11 f_x_8 ffv_1 gx gqp gqc pf_x_8 pf_x_11 cl_qc_6 cl_qc_8 nu_qp eo_v1 hDF hDP hl


set_option maxHeartbeats 4000000 in
set_option maxRecDepth 100000 in
theorem t_X10_isSplit_v (l : Launch) (dC : Nat → ClassId) (dI : Nat → Nat → Nat) (dA : Nat → ClassId) (L : List Nat) (h : hx_h) (sz : Nat) (x : Nat) (i1 : Int32) (i2 : Int32) (hT : hx_T T_tb L h) (gx : hx_g L h x 10) (qb : Nat) (gqb : hx_g L h qb 72) (f_x_37 : h.2.2 x 37 = some qb) (qa : Nat) (gqa : hx_g L h qa 73) (f_x_38 : h.2.2 x 38 = some qa) (qf : Nat) (gqf : hx_g L h qf 78) (f_x_43 : h.2.2 x 43 = some qf) (qs : Nat) (gqs : hx_g L h qs 74) (f_x_39 : h.2.2 x 39 = some qs) (ql : Nat) (gql : hx_g L h ql 50) (f_x_3 : h.2.2 x 3 = some ql) (byf : Nat → Int32) (af_qb : h.2.1 qb = byf) (agf : Nat → Int32) (af_qa : h.2.1 qa = agf) (flf : Nat → Int32) (af_qf : h.2.1 qf = flf) (smf : Nat → Int32) (af_qs : h.2.1 qs = smf) (rlf : Nat → Int32) (af_ql : h.2.1 ql = rlf) (c0 : Int32) (f_x_36 : h.2.1 x 36 = c0) (hi1 : 0 ≤ i1.toInt ∧ i1.toInt ≤ 99) (hi2 : 0 ≤ i2.toInt ∧ i2.toInt ≤ 8) (R : Nat → Int) (hRr : ∀ k : Nat, k ≤ 12 → (rlf (13 * i2.toInt.toNat + k)).toInt = R k) : Met l yX10_isSplit (Cond.code yX10_isSplit cX10_isSplit 6 (some .boolean) :: hx_all) ({ frames := 1, cells := 0, slots := 0, locals := 22 }) (va_Pc [.ref x, .int i1, .int i2] (hx_B T_tb (P_ty dA) (dC, dI) vwCl L h sz)) (va_Qi (fun (r : Int32) (u : List Nat × hx_h) => ((r.toInt = 1 ∧ (1 < hv_sct byf agf flf (byf i1.toNatClampNeg).toInt (agf i1.toNatClampNeg).toInt ((flf i1.toNatClampNeg).toInt - R 1) c0.toInt.toNat ∧ R 0 < hv_sm byf agf flf smf (byf i1.toNatClampNeg).toInt (agf i1.toNatClampNeg).toInt ((flf i1.toNatClampNeg).toInt - R 1) c0.toInt.toNat)) ∨ (r.toInt = 0 ∧ ¬ (1 < hv_sct byf agf flf (byf i1.toNatClampNeg).toInt (agf i1.toNatClampNeg).toInt ((flf i1.toNatClampNeg).toInt - R 1) c0.toInt.toNat ∧ R 0 < hv_sm byf agf flf smf (byf i1.toNatClampNeg).toInt (agf i1.toNatClampNeg).toInt ((flf i1.toNatClampNeg).toInt - R 1) c0.toInt.toNat))) ∧ hx_T T_tb u.1 u.2 ∧ hx_S T_tb [] L h u.1 u.2) (hx_E T_tb (P_ty dA) (dC, dI) vwCl (hx_A L sz)) (hx_A L sz)) 0 0 (hx_A L sz) := by
  refine hx_met (lv := [(0, .ref x), (1, .int i1), (2, .int i2)]) (by decide +kernel) rfl (Nat.le_of_ble_eq_true rfl) rfl ?_
  intro p e s m below meth c hx hb hml hr hlk hts0 hown hin hsz hW ls hl
  have hts : ∀ w ∈ hx_all, w.before _ s = true := fun w hw => hts0 w (List.mem_cons_of_mem _ hw)
  have hown : s.vm.findClass "SmallCourtModel" = some m.cls := hown
  have hM : hx_S T_tb [] L h L h := hx_S.rf
  have b_c0 := hT.gi gx tt_10 (k := 36) rfl
  rw [f_x_36] at b_c0
  have b_c0 : 0 ≤ c0.toInt ∧ c0.toInt ≤ 100 := b_c0
  refine lv_iconst (v := 0) hx hb dX10_isSplit_0 (by decide) ?_
  refine lv_istore_n (lv' := [(3, .int (0 : Int32)), (0, .ref x), (1, .int i1), (2, .int i2)]) hx hb dX10_isSplit_1 rfl hl (by decide) rfl (fun ls hl => ?_)
  refine lv_iconst (v := 0) hx hb dX10_isSplit_2 (by decide) ?_
  refine lv_istore (lv' := [(4, .int (0 : Int32)), (3, .int (0 : Int32)), (0, .ref x), (1, .int i1), (2, .int i2)]) hx hb dX10_isSplit_3 hl (by decide) rfl (fun ls hl => ?_)
  refine lv_iconst (v := 0) hx hb dX10_isSplit_5 (by decide) ?_
  refine lv_istore (lv' := [(5, .int (0 : Int32)), (4, .int (0 : Int32)), (3, .int (0 : Int32)), (0, .ref x), (1, .int i1), (2, .int i2)]) hx hb dX10_isSplit_6 hl (by decide) rfl (fun ls hl => ?_)
  have loop8 : ∀ (n8 : Nat) (iv8_3 iv8_4 iv8_5 : Int32) (H : Heap) (locs : List Loc) (hL1 : List Nat) (hl1 : hx_h), 0 ≤ iv8_3.toInt → iv8_3.toInt ≤ 100 → 0 ≤ iv8_4.toInt → iv8_4.toInt ≤ 999900 → 0 ≤ iv8_5.toInt → iv8_5.toInt ≤ 100 → (iv8_3.toInt = hv_sct byf agf flf (byf i1.toNatClampNeg).toInt (agf i1.toNatClampNeg).toInt ((flf i1.toNatClampNeg).toInt - R 1) (iv8_5.toInt).toNat) → (iv8_4.toInt = hv_sm byf agf flf smf (byf i1.toNatClampNeg).toInt (agf i1.toNatClampNeg).toInt ((flf i1.toNatClampNeg).toInt - R 1) (iv8_5.toInt).toNat) → (iv8_4.toInt ≤ 9999 * iv8_5.toInt) → (iv8_3.toInt ≤ iv8_5.toInt) → (iv8_5.toInt ≤ c0.toInt) → ∀ (ls : Array Slot), 100 - iv8_5.toInt < (n8 : Int) → hx_W T_tb (P_ty dA) (dC, dI) vwCl (hx_A L sz) s.heap hL1 hl1 s H locs → hx_T T_tb hL1 hl1 → hx_S T_tb [] L h hL1 hl1 → lv_has ls 6 [(5, .int iv8_5), (4, .int iv8_4), (3, .int iv8_3), (0, .ref x), (1, .int i1), (2, .int i2)] → W p l e ({ frames := 1, cells := 0, slots := 0, locals := 22 }) s m ([.ref x, .int i1, .int i2] : List Value).toArray below meth c H locs 0 0 (MQ below (va_Qi (fun (r : Int32) (u : List Nat × hx_h) => ((r.toInt = 1 ∧ (1 < hv_sct byf agf flf (byf i1.toNatClampNeg).toInt (agf i1.toNatClampNeg).toInt ((flf i1.toNatClampNeg).toInt - R 1) c0.toInt.toNat ∧ R 0 < hv_sm byf agf flf smf (byf i1.toNatClampNeg).toInt (agf i1.toNatClampNeg).toInt ((flf i1.toNatClampNeg).toInt - R 1) c0.toInt.toNat)) ∨ (r.toInt = 0 ∧ ¬ (1 < hv_sct byf agf flf (byf i1.toNatClampNeg).toInt (agf i1.toNatClampNeg).toInt ((flf i1.toNatClampNeg).toInt - R 1) c0.toInt.toNat ∧ R 0 < hv_sm byf agf flf smf (byf i1.toNatClampNeg).toInt (agf i1.toNatClampNeg).toInt ((flf i1.toNatClampNeg).toInt - R 1) c0.toInt.toNat))) ∧ hx_T T_tb u.1 u.2 ∧ hx_S T_tb [] L h u.1 u.2) (hx_E T_tb (P_ty dA) (dC, dI) vwCl (hx_A L sz)) (hx_A L sz)) ([.ref x, .int i1, .int i2] : List Value).toArray s 0 0 (hx_A L sz)) (F0 m 8 ls []) := by
    intro n8
    induction n8 with
    | zero => intro iv8_3 iv8_4 iv8_5 H locs hL1 hl1 bliv8_3 buiv8_3 bliv8_4 buiv8_4 bliv8_5 buiv8_5 vi8_0 vi8_1 vi8_2 vi8_3 vi8_4 ls hn8; exfalso; omega
    | succ n8 ih8 =>
      intro iv8_3 iv8_4 iv8_5 H locs hL1 hl1 bliv8_3 buiv8_3 bliv8_4 buiv8_4 bliv8_5 buiv8_5 vi8_0 vi8_1 vi8_2 vi8_3 vi8_4 ls hn8 hW hT hM   hl
      refine lv_iload hx hb dX10_isSplit_8 (lv_at hl 0 rfl) ?_
      refine lv_aload_n hx hb dX10_isSplit_10 rfl (lv_at hl 3 rfl) ?_
      refine hk_geti hx hb hts hC_10 hown hW (gx.S hM) tt_10 36 (by decide) rfl kw_1179 ⟨rfl, rfl, rfl⟩ ((hM.o gx trivial rfl).1.trans f_x_36) dX10_isSplit_11 ?_
      refine hb_icmp_ge (zx := iv8_5.toInt) (zy := c0.toInt) (tgt := 96) hx hb rfl rfl dX10_isSplit_14 (by decide) (fun c_1 => ?_) (fun c_1 => ?_)
      · skip
        refine lv_iload_n hx hb dX10_isSplit_96 rfl (lv_at hl 2 rfl) ?_
        refine lv_iconst (v := 1) hx hb dX10_isSplit_97 (by decide) ?_
        refine hb_icmp_le (zx := iv8_3.toInt) (zy := 1) (tgt := 116) hx hb rfl (by decide) dX10_isSplit_98 (by decide) (fun c_2 => ?_) (fun c_2 => ?_)
        · skip
          refine lv_iconst (v := 0) hx hb dX10_isSplit_116 (by decide) ?_
          exact hx_retz hx hb hr rfl hlk hW ⟨(Or.inr ⟨by decide, (by have h8 := vi8_0; have h7 := vi8_1; rw [show iv8_5.toInt.toNat = c0.toInt.toNat by omega] at h8 h7; omega)⟩), hT, hM⟩ dX10_isSplit_117
        · skip
          refine lv_iload hx hb dX10_isSplit_101 (lv_at hl 1 rfl) ?_
          refine lv_aload_n hx hb dX10_isSplit_103 rfl (lv_at hl 3 rfl) ?_
          refine lv_iload_n hx hb dX10_isSplit_104 rfl (lv_at hl 5 rfl) ?_
          refine lv_iconst (v := 0) hx hb dX10_isSplit_105 (by decide) ?_
          have zc_0 : (0 : Int32).toInt = 0 := by decide
          refine hx_goi (hx_runV (As := [.int i2, .int (0 : Int32)]) (rest := [.int iv8_4]) ⟨hx, hb, hml, hown, hts⟩ hW (gx.S hM) tt_10 (T := TX10) (N := 98) rfl (t_X10_ruleOf_v l dC dI dA hL1 hl1 H.size x i2 (0 : Int32) hT (gx.S hM) ql (gql.S hM) ((hM.o gx trivial rfl).2.trans f_x_3) rlf (hx_afS hM gql rfl af_ql) ⟨by omega, by omega⟩ (by decide)) (cwV 2 hts (hx_gV kw_1533 kw_1530 kw_1532 kw_66 kw_103) rfl rfl rfl (by decide +kernel) ⟨Nat.le_of_ble_eq_true rfl, Nat.le_of_ble_eq_true rfl⟩) rfl hl.1 rfl (Nat.le_of_ble_eq_true rfl) dX10_isSplit_106 ⟨Nat.le_of_ble_eq_true rfl, Nat.le_of_ble_eq_true rfl⟩) hW (fun r_5 L_3 h_4 H locs p_6 hW => ?_)
          obtain ⟨hr_7, hT, hs⟩ := p_6
          replace hT : hx_T T_tb L_3 h_4 := hT
          replace hs : hx_S T_tb [] hL1 hl1 L_3 h_4 := hs
          replace hM := hM.tr (hs.mono (by decide))
          have hR_8 : r_5.toInt = R 0 := by rw [hr_7.1, show (0 : Int32).toInt.toNat = 0 from by decide]; exact hRr 0 (by decide)
          refine hb_icmp_le (zx := iv8_4.toInt) (zy := r_5.toInt) (tgt := 116) hx hb rfl rfl dX10_isSplit_109 (by decide) (fun c_9 => ?_) (fun c_9 => ?_)
          · skip
            refine lv_iconst (v := 0) hx hb dX10_isSplit_116 (by decide) ?_
            exact hx_retz hx hb hr rfl hlk hW ⟨(Or.inr ⟨by decide, (by have h8 := vi8_0; have h7 := vi8_1; rw [show iv8_5.toInt.toNat = c0.toInt.toNat by omega] at h8 h7; have h6 := hR_8; omega)⟩), hT, hM⟩ dX10_isSplit_117
          · skip
            refine lv_iconst (v := 1) hx hb dX10_isSplit_112 (by decide) ?_
            refine lv_goto (tgt := 117) hx hb dX10_isSplit_113 (by decide) ?_
            exact hx_retz hx hb hr rfl hlk hW ⟨(Or.inl ⟨by decide, (by have h8 := vi8_0; have h7 := vi8_1; rw [show iv8_5.toInt.toNat = c0.toInt.toNat by omega] at h8 h7; have h6 := hR_8; omega)⟩), hT, hM⟩ dX10_isSplit_117
      · skip
        refine lv_aload_n hx hb dX10_isSplit_17 rfl (lv_at hl 3 rfl) ?_
        refine hk_getr hx hb hts hC_10 hown hW (gx.S hM) tt_10 37 (by decide) rfl kw_1180 ⟨rfl, rfl, rfl⟩ ((hM.o gx trivial rfl).2.trans f_x_37) dX10_isSplit_18 ?_
        refine lv_iload hx hb dX10_isSplit_21 (lv_at hl 0 rfl) ?_
        refine hx_iald hx hb hW hT (gqb.S hM) tt_72 rfl ⟨by omega, by omega⟩ dX10_isSplit_23 (fun x_10 ex_10 lx_10 ux_10 => ?_)
        have ax_10 : x_10 = byf iv8_5.toNatClampNeg := ex_10.trans (congrFun (hx_afS hM gqb rfl af_qb) _)
        refine lv_aload_n hx hb dX10_isSplit_24 rfl (lv_at hl 3 rfl) ?_
        refine hk_getr hx hb hts hC_10 hown hW (gx.S hM) tt_10 37 (by decide) rfl kw_1180 ⟨rfl, rfl, rfl⟩ ((hM.o gx trivial rfl).2.trans f_x_37) dX10_isSplit_25 ?_
        refine lv_iload_n hx hb dX10_isSplit_28 rfl (lv_at hl 4 rfl) ?_
        refine hx_iald hx hb hW hT (gqb.S hM) tt_72 rfl ⟨by omega, by omega⟩ dX10_isSplit_29 (fun x_11 ex_11 lx_11 ux_11 => ?_)
        have ax_11 : x_11 = byf i1.toNatClampNeg := ex_11.trans (congrFun (hx_afS hM gqb rfl af_qb) _)
        refine hb_icmp_ne (zx := x_10.toInt) (zy := x_11.toInt) (tgt := 90) hx hb rfl rfl dX10_isSplit_30 (by decide) (fun c_12 => ?_) (fun c_12 => ?_)
        · skip
          obtain ⟨x_13, ex_13⟩ : ∃ y : Int32, y = iv8_5 + Int32.ofInt 1 := ⟨_, rfl⟩
          have rg_14 := i32_r iv8_5
          have zx_13 : x_13.toInt = iv8_5.toInt + (1) := by rw [ex_13]; exact i32_add rfl (by decide) (by omega) (by omega)
          refine lv_iinc (v := x_13) (lv' := [(5, .int x_13), (4, .int iv8_4), (3, .int iv8_3), (0, .ref x), (1, .int i1), (2, .int i2)]) hx hb dX10_isSplit_90 hl (k := 0) rfl ex_13.symm (by decide) rfl (fun ls hl => ?_)
          refine lv_goto (tgt := 8) hx hb dX10_isSplit_93 (by decide) ?_
          exact ih8 iv8_3 iv8_4 x_13 _ _ hL1 hl1 (by omega) (by omega) (by omega) (by omega) (by omega) (by omega) (hv_sct_n vi8_0 (hv_sq_f (fun z => by have h9 := z.1; rw [show byf iv8_5.toInt.toNat = x_10 from ax_10.symm, show byf i1.toNatClampNeg = x_11 from ax_11.symm] at h9; omega)) (by omega) zx_13) (hv_sm_n vi8_1 (hv_sq_f (fun z => by have h9 := z.1; rw [show byf iv8_5.toInt.toNat = x_10 from ax_10.symm, show byf i1.toNatClampNeg = x_11 from ax_11.symm] at h9; omega)) (by omega) zx_13) (by omega) (by omega) (by omega) ls (by omega) hW hT hM   (lv_sub hl [0, 1, 2, 3, 4, 5] rfl)
        · skip
          refine lv_aload_n hx hb dX10_isSplit_33 rfl (lv_at hl 3 rfl) ?_
          refine hk_getr hx hb hts hC_10 hown hW (gx.S hM) tt_10 38 (by decide) rfl kw_1181 ⟨rfl, rfl, rfl⟩ ((hM.o gx trivial rfl).2.trans f_x_38) dX10_isSplit_34 ?_
          refine lv_iload hx hb dX10_isSplit_37 (lv_at hl 0 rfl) ?_
          refine hx_iald hx hb hW hT (gqa.S hM) tt_73 rfl ⟨by omega, by omega⟩ dX10_isSplit_39 (fun x_15 ex_15 lx_15 ux_15 => ?_)
          have ax_15 : x_15 = agf iv8_5.toNatClampNeg := ex_15.trans (congrFun (hx_afS hM gqa rfl af_qa) _)
          refine lv_aload_n hx hb dX10_isSplit_40 rfl (lv_at hl 3 rfl) ?_
          refine hk_getr hx hb hts hC_10 hown hW (gx.S hM) tt_10 38 (by decide) rfl kw_1181 ⟨rfl, rfl, rfl⟩ ((hM.o gx trivial rfl).2.trans f_x_38) dX10_isSplit_41 ?_
          refine lv_iload_n hx hb dX10_isSplit_44 rfl (lv_at hl 4 rfl) ?_
          refine hx_iald hx hb hW hT (gqa.S hM) tt_73 rfl ⟨by omega, by omega⟩ dX10_isSplit_45 (fun x_16 ex_16 lx_16 ux_16 => ?_)
          have ax_16 : x_16 = agf i1.toNatClampNeg := ex_16.trans (congrFun (hx_afS hM gqa rfl af_qa) _)
          refine hb_icmp_ne (zx := x_15.toInt) (zy := x_16.toInt) (tgt := 90) hx hb rfl rfl dX10_isSplit_46 (by decide) (fun c_17 => ?_) (fun c_17 => ?_)
          · skip
            obtain ⟨x_18, ex_18⟩ : ∃ y : Int32, y = iv8_5 + Int32.ofInt 1 := ⟨_, rfl⟩
            have rg_19 := i32_r iv8_5
            have zx_18 : x_18.toInt = iv8_5.toInt + (1) := by rw [ex_18]; exact i32_add rfl (by decide) (by omega) (by omega)
            refine lv_iinc (v := x_18) (lv' := [(5, .int x_18), (4, .int iv8_4), (3, .int iv8_3), (0, .ref x), (1, .int i1), (2, .int i2)]) hx hb dX10_isSplit_90 hl (k := 0) rfl ex_18.symm (by decide) rfl (fun ls hl => ?_)
            refine lv_goto (tgt := 8) hx hb dX10_isSplit_93 (by decide) ?_
            exact ih8 iv8_3 iv8_4 x_18 _ _ hL1 hl1 (by omega) (by omega) (by omega) (by omega) (by omega) (by omega) (hv_sct_n vi8_0 (hv_sq_f (fun z => by have h9 := z.2.1; rw [show agf iv8_5.toInt.toNat = x_15 from ax_15.symm, show agf i1.toNatClampNeg = x_16 from ax_16.symm] at h9; omega)) (by omega) zx_18) (hv_sm_n vi8_1 (hv_sq_f (fun z => by have h9 := z.2.1; rw [show agf iv8_5.toInt.toNat = x_15 from ax_15.symm, show agf i1.toNatClampNeg = x_16 from ax_16.symm] at h9; omega)) (by omega) zx_18) (by omega) (by omega) (by omega) ls (by omega) hW hT hM   (lv_sub hl [0, 1, 2, 3, 4, 5] rfl)
          · skip
            refine lv_aload_n hx hb dX10_isSplit_49 rfl (lv_at hl 3 rfl) ?_
            refine hk_getr hx hb hts hC_10 hown hW (gx.S hM) tt_10 43 (by decide) rfl kw_1186 ⟨rfl, rfl, rfl⟩ ((hM.o gx trivial rfl).2.trans f_x_43) dX10_isSplit_50 ?_
            refine lv_iload hx hb dX10_isSplit_53 (lv_at hl 0 rfl) ?_
            refine hx_iald hx hb hW hT (gqf.S hM) tt_78 rfl ⟨by omega, by omega⟩ dX10_isSplit_55 (fun x_20 ex_20 lx_20 ux_20 => ?_)
            have ax_20 : x_20 = flf iv8_5.toNatClampNeg := ex_20.trans (congrFun (hx_afS hM gqf rfl af_qf) _)
            refine lv_aload_n hx hb dX10_isSplit_56 rfl (lv_at hl 3 rfl) ?_
            refine hk_getr hx hb hts hC_10 hown hW (gx.S hM) tt_10 43 (by decide) rfl kw_1186 ⟨rfl, rfl, rfl⟩ ((hM.o gx trivial rfl).2.trans f_x_43) dX10_isSplit_57 ?_
            refine lv_iload_n hx hb dX10_isSplit_60 rfl (lv_at hl 4 rfl) ?_
            refine hx_iald hx hb hW hT (gqf.S hM) tt_78 rfl ⟨by omega, by omega⟩ dX10_isSplit_61 (fun x_21 ex_21 lx_21 ux_21 => ?_)
            have ax_21 : x_21 = flf i1.toNatClampNeg := ex_21.trans (congrFun (hx_afS hM gqf rfl af_qf) _)
            refine lv_aload_n hx hb dX10_isSplit_62 rfl (lv_at hl 3 rfl) ?_
            refine lv_iload_n hx hb dX10_isSplit_63 rfl (lv_at hl 5 rfl) ?_
            refine lv_iconst (v := 1) hx hb dX10_isSplit_64 (by decide) ?_
            have zc_1 : (1 : Int32).toInt = 1 := by decide
            refine hx_goi (hx_runV (As := [.int i2, .int (1 : Int32)]) (rest := [.int x_21, .int x_20]) ⟨hx, hb, hml, hown, hts⟩ hW (gx.S hM) tt_10 (T := TX10) (N := 98) rfl (t_X10_ruleOf_v l dC dI dA hL1 hl1 H.size x i2 (1 : Int32) hT (gx.S hM) ql (gql.S hM) ((hM.o gx trivial rfl).2.trans f_x_3) rlf (hx_afS hM gql rfl af_ql) ⟨by omega, by omega⟩ (by decide)) (cwV 2 hts (hx_gV kw_1533 kw_1530 kw_1532 kw_66 kw_103) rfl rfl rfl (by decide +kernel) ⟨Nat.le_of_ble_eq_true rfl, Nat.le_of_ble_eq_true rfl⟩) rfl hl.1 rfl (Nat.le_of_ble_eq_true rfl) dX10_isSplit_65 ⟨Nat.le_of_ble_eq_true rfl, Nat.le_of_ble_eq_true rfl⟩) hW (fun r_24 L_22 h_23 H locs p_25 hW => ?_)
            obtain ⟨hr_26, hT, hs⟩ := p_25
            replace hT : hx_T T_tb L_22 h_23 := hT
            replace hs : hx_S T_tb [] hL1 hl1 L_22 h_23 := hs
            replace ex_10 := ex_10.trans (hs.a (gqb.S hM) rfl _).1.symm
            replace ex_11 := ex_11.trans (hs.a (gqb.S hM) rfl _).1.symm
            replace ex_15 := ex_15.trans (hs.a (gqa.S hM) rfl _).1.symm
            replace ex_16 := ex_16.trans (hs.a (gqa.S hM) rfl _).1.symm
            replace ex_20 := ex_20.trans (hs.a (gqf.S hM) rfl _).1.symm
            replace ex_21 := ex_21.trans (hs.a (gqf.S hM) rfl _).1.symm
            replace hM := hM.tr (hs.mono (by decide))
            have hR_27 : r_24.toInt = R 1 := by rw [hr_26.1, show (1 : Int32).toInt.toNat = 1 from by decide]; exact hRr 1 (by decide)
            refine lv_isub hx hb dX10_isSplit_68 ?_
            have rg_28 := i32_r x_21
            have rg_29 := i32_r r_24
            refine lv_topi (fun x_30 ex_30 => ?_)
            have zx_30 : x_30.toInt = x_21.toInt - r_24.toInt := by rw [ex_30]; exact i32_sub rfl rfl (by omega) (by omega)
            refine hb_icmp_ge (zx := x_20.toInt) (zy := x_30.toInt) (tgt := 75) hx hb rfl rfl dX10_isSplit_69 (by decide) (fun c_31 => ?_) (fun c_31 => ?_)
            · skip
              obtain ⟨x_32, ex_32⟩ : ∃ y : Int32, y = iv8_3 + Int32.ofInt 1 := ⟨_, rfl⟩
              have rg_33 := i32_r iv8_3
              have zx_32 : x_32.toInt = iv8_3.toInt + (1) := by rw [ex_32]; exact i32_add rfl (by decide) (by omega) (by omega)
              refine lv_iinc (v := x_32) (lv' := [(3, .int x_32), (5, .int iv8_5), (4, .int iv8_4), (0, .ref x), (1, .int i1), (2, .int i2)]) hx hb dX10_isSplit_75 hl (k := 2) rfl ex_32.symm (by decide) rfl (fun ls hl => ?_)
              refine lv_iload hx hb dX10_isSplit_78 (lv_at hl 2 rfl) ?_
              refine lv_aload_n hx hb dX10_isSplit_80 rfl (lv_at hl 3 rfl) ?_
              refine hk_getr hx hb hts hC_10 hown hW (gx.S hM) tt_10 39 (by decide) rfl kw_1182 ⟨rfl, rfl, rfl⟩ ((hM.o gx trivial rfl).2.trans f_x_39) dX10_isSplit_81 ?_
              refine lv_iload hx hb dX10_isSplit_84 (lv_at hl 1 rfl) ?_
              refine hx_iald hx hb hW hT (gqs.S hM) tt_74 rfl ⟨by omega, by omega⟩ dX10_isSplit_86 (fun x_34 ex_34 lx_34 ux_34 => ?_)
              have ax_34 : x_34 = smf iv8_5.toNatClampNeg := ex_34.trans (congrFun (hx_afS hM gqs rfl af_qs) _)
              refine lv_iadd hx hb dX10_isSplit_87 ?_
              have rg_35 := i32_r iv8_4
              have rg_36 := i32_r x_34
              refine lv_topi (fun x_37 ex_37 => ?_)
              have zx_37 : x_37.toInt = iv8_4.toInt + x_34.toInt := by rw [ex_37]; exact i32_add rfl rfl (by omega) (by omega)
              refine lv_istore (lv' := [(4, .int x_37), (3, .int x_32), (5, .int iv8_5), (0, .ref x), (1, .int i1), (2, .int i2)]) hx hb dX10_isSplit_88 hl (by decide) rfl (fun ls hl => ?_)
              obtain ⟨x_38, ex_38⟩ : ∃ y : Int32, y = iv8_5 + Int32.ofInt 1 := ⟨_, rfl⟩
              have rg_39 := i32_r iv8_5
              have zx_38 : x_38.toInt = iv8_5.toInt + (1) := by rw [ex_38]; exact i32_add rfl (by decide) (by omega) (by omega)
              refine lv_iinc (v := x_38) (lv' := [(5, .int x_38), (4, .int x_37), (3, .int x_32), (0, .ref x), (1, .int i1), (2, .int i2)]) hx hb dX10_isSplit_90 hl (k := 2) rfl ex_38.symm (by decide) rfl (fun ls hl => ?_)
              refine lv_goto (tgt := 8) hx hb dX10_isSplit_93 (by decide) ?_
              exact ih8 x_32 x_37 x_38 _ _ L_22 h_23 (by omega) (by omega) (by omega) (by omega) (by omega) (by omega) (hv_sct_y vi8_0 (hv_sq_t.mpr ⟨(by rw [show byf iv8_5.toInt.toNat = x_10 from ax_10.symm, show byf i1.toNatClampNeg = x_11 from ax_11.symm]; omega), (by rw [show agf iv8_5.toInt.toNat = x_15 from ax_15.symm, show agf i1.toNatClampNeg = x_16 from ax_16.symm]; omega), (by rw [show flf iv8_5.toInt.toNat = x_20 from ax_20.symm, show flf i1.toNatClampNeg = x_21 from ax_21.symm]; omega)⟩) (by omega) (by omega) zx_38) (hv_sm_y (ix := iv8_5.toNatClampNeg) vi8_1 (hv_sq_t.mpr ⟨(by rw [show byf iv8_5.toInt.toNat = x_10 from ax_10.symm, show byf i1.toNatClampNeg = x_11 from ax_11.symm]; omega), (by rw [show agf iv8_5.toInt.toNat = x_15 from ax_15.symm, show agf i1.toNatClampNeg = x_16 from ax_16.symm]; omega), (by rw [show flf iv8_5.toInt.toNat = x_20 from ax_20.symm, show flf i1.toNatClampNeg = x_21 from ax_21.symm]; omega)⟩) (by omega) (by unfold Int32.toNatClampNeg; omega) ax_34 (by omega) zx_38) (by omega) (by omega) (by omega) ls (by omega) hW hT hM   (lv_sub hl [0, 1, 2, 3, 4, 5] rfl)
            · skip
              refine lv_goto (tgt := 90) hx hb dX10_isSplit_72 (by decide) ?_
              obtain ⟨x_40, ex_40⟩ : ∃ y : Int32, y = iv8_5 + Int32.ofInt 1 := ⟨_, rfl⟩
              have rg_41 := i32_r iv8_5
              have zx_40 : x_40.toInt = iv8_5.toInt + (1) := by rw [ex_40]; exact i32_add rfl (by decide) (by omega) (by omega)
              refine lv_iinc (v := x_40) (lv' := [(5, .int x_40), (4, .int iv8_4), (3, .int iv8_3), (0, .ref x), (1, .int i1), (2, .int i2)]) hx hb dX10_isSplit_90 hl (k := 0) rfl ex_40.symm (by decide) rfl (fun ls hl => ?_)
              refine lv_goto (tgt := 8) hx hb dX10_isSplit_93 (by decide) ?_
              exact ih8 iv8_3 iv8_4 x_40 _ _ L_22 h_23 (by omega) (by omega) (by omega) (by omega) (by omega) (by omega) (hv_sct_n vi8_0 (hv_sq_f (fun z => by have h9 := z.2.2; rw [show flf iv8_5.toInt.toNat = x_20 from ax_20.symm, show flf i1.toNatClampNeg = x_21 from ax_21.symm] at h9; omega)) (by omega) zx_40) (hv_sm_n vi8_1 (hv_sq_f (fun z => by have h9 := z.2.2; rw [show flf iv8_5.toInt.toNat = x_20 from ax_20.symm, show flf i1.toNatClampNeg = x_21 from ax_21.symm] at h9; omega)) (by omega) zx_40) (by omega) (by omega) (by omega) ls (by omega) hW hT hM   (lv_sub hl [0, 1, 2, 3, 4, 5] rfl)
  have zk_0 : (0 : Int32).toInt = 0 := by decide
  have zk_0 : (0 : Int32).toInt = 0 := by decide
  have zk_0 : (0 : Int32).toInt = 0 := by decide
  exact loop8 101 (0 : Int32) (0 : Int32) (0 : Int32) _ _ L h (by decide) (by decide) (by decide) (by decide) (by decide) (by decide) (by rw [zk_0]; rfl) (by rw [zk_0]; rfl) (by omega) (by omega) (by omega) ls (by omega) hW hT hM   hl


set_option maxHeartbeats 4000000 in
set_option maxRecDepth 100000 in
theorem t_X9_judgement_v (l : Launch) (dC : Nat → ClassId) (dI : Nat → Nat → Nat) (dA : Nat → ClassId) (L : List Nat) (h : hx_h) (sz : Nat) (x : Nat) (v1 : Nat) (v2 : Nat) (hT : hx_T T_tb L h) (gx : hx_g L h x 9) (gv1 : hx_g L h v1 2) (gv2 : hx_g L h v2 0) (qp : Nat) (gqp : hx_g L h qp 44) (f_x_7 : h.2.2 x 7 = some qp) (qc : Nat) (gqc : hx_g L h qc 45) (f_x_10 : h.2.2 x 10 = some qc) (qt : Nat) (gqt : hx_g L h qt 11) (f_v2_2 : h.2.2 v2 2 = some qt) (qpr : Nat) (gqpr : hx_g L h qpr 12) (f_v2_3 : h.2.2 v2 3 = some qpr) (qft : Nat) (gqft : hx_g L h qft 20) (f_v1_4 : h.2.2 v1 4 = some qft) (ic : Int32) (eo_v1 : h.2.2 qc ic.toNatClampNeg = some v1) (ob_ic : 0 ≤ ic.toInt ∧ ic.toInt ≤ 99) (tf : Nat → Int32) (af_qt : h.2.1 qt = tf) (prf : Nat → Int32) (af_qpr : h.2.1 qpr = prf) (ff : Nat → Int32) (af_qft : h.2.1 qft = ff) (cn0 : Int32) (f_x_11 : h.2.1 x 11 = cn0) (pn0 : Int32) (f_x_8 : h.2.1 x 8 = pn0) (pl0 : Int32) (f_v2_4 : h.2.1 v2 4 = pl0) (frf : Nat → Int32) (cl_qc_7 : hx_col 100 h qc 7 = frf) (smf : Nat → Int32) (cl_qc_6 : hx_col 100 h qc 6 = smf) (flf : Nat → Int32) (cl_qc_8 : hx_col 100 h qc 8 = flf) (bnf : Nat → Int32) (cl_qp_1 : hx_col 40 h qp 1 = bnf) (nu_qp : hx_num 40 h qp 0 (pn0.toInt)) (agf byf : Nat → Int32) (hDF : hw_DF h qc qp 2 agf cn0.toInt) (hDP : hw_DF h qc qp 1 byf cn0.toInt) (R : Nat → Int) (hR : hv_rC tf = R) (hRb : ∀ k, 0 ≤ R k ∧ R k ≤ 9999) (o : List hv_tok) (hO : hv_OK o) (hls : hv_ls prf pl0.toInt.toNat = o.map hv_cc) (hcn : ic.toInt < cn0.toInt) (pf_x_8 : ∀ j : Nat, (j : Int) < (h.2.1 x 8).toInt → h.2.2 qp j ≠ none) (pf_x_11 : ∀ j : Nat, (j : Int) < (h.2.1 x 11).toInt → h.2.2 qc j ≠ none) : Met l yX9_judgement (Cond.code yX9_judgement cX9_judgement 3 (some .int) :: hx_all) ({ frames := 2, cells := 0, slots := 0, locals := 49 }) (va_Pc [.ref x, .ref v1, .ref v2] (hx_B T_tb (P_ty dA) (dC, dI) vwCl L h sz)) (va_Qi (fun (r : Int32) (u : List Nat × hx_h) => (r.toInt = hv_jg (hv_F0 ff 0) R o (frf ic.toNatClampNeg).toInt (bnf (agf ic.toNatClampNeg).toNatClampNeg).toInt (smf ic.toNatClampNeg).toInt (hv_sm byf agf flf smf (byf ic.toNatClampNeg).toInt (agf ic.toNatClampNeg).toInt ((flf ic.toNatClampNeg).toInt - R 1) cn0.toInt.toNat) ∧ (1 ≤ r.toInt ∧ r.toInt ≤ 5)) ∧ hx_T T_tb u.1 u.2 ∧ hx_S T_tb [] L h u.1 u.2) (hx_E T_tb (P_ty dA) (dC, dI) vwCl (hx_A L sz)) (hx_A L sz)) 0 0 (hx_A L sz) := by
  refine hx_met (lv := [(0, .ref x), (1, .ref v1), (2, .ref v2)]) (by decide +kernel) rfl (Nat.le_of_ble_eq_true rfl) rfl ?_
  intro p e s m below meth c hx hb hml hr hlk hts0 hown hin hsz hW ls hl
  have hts : ∀ w ∈ hx_all, w.before _ s = true := fun w hw => hts0 w (List.mem_cons_of_mem _ hw)
  have hown : s.vm.findClass "SmallCourt" = some m.cls := hown
  have hM : hx_S T_tb [] L h L h := hx_S.rf
  have b_cn0 := hT.gi gx tt_9 (k := 11) rfl
  rw [f_x_11] at b_cn0
  have b_cn0 : 0 ≤ cn0.toInt ∧ cn0.toInt ≤ 100 := b_cn0
  have b_pn0 := hT.gi gx tt_9 (k := 8) rfl
  rw [f_x_8] at b_pn0
  have b_pn0 : 0 ≤ pn0.toInt ∧ pn0.toInt ≤ 40 := b_pn0
  have b_pl0 := hT.gi gv2 tt_0 (k := 4) rfl
  rw [f_v2_4] at b_pl0
  have b_pl0 : 0 ≤ pl0.toInt ∧ pl0.toInt ≤ 160 := b_pl0
  refine lv_aload_n hx hb dX9_judgement_0 rfl (lv_at hl 1 rfl) ?_
  refine hx_geti hx hb hts hC_2 hown hW hT (gv1.S hM) tt_2 7 (by decide) rfl kw_742 ⟨rfl, rfl, rfl⟩ dX9_judgement_1 (fun x_1 ex_1 lx_1 ux_1 => ?_)
  have fx_1 := ex_1.symm
  have cx_1 : x_1 = frf ic.toNatClampNeg := by rw [ex_1, ← cl_qc_7]; exact (hx_col_at eo_v1 (by unfold Int32.toNatClampNeg; omega)).symm
  refine lv_aload_n hx hb dX9_judgement_4 rfl (lv_at hl 1 rfl) ?_
  refine hx_getn hx hb hts hC_2 hown hW hT (gv1.S hM) tt_2 2 (by decide) rfl kw_733 ⟨rfl, rfl, rfl⟩ dX9_judgement_5 (fun q_2 fq_2 gq_2 => ?_)
  obtain ⟨dAq_2, dBq_2, dCq_2⟩ := hDF ic.toNatClampNeg (by unfold Int32.toNatClampNeg; omega) (by unfold Int32.toNatClampNeg; omega) _ _ eo_v1 fq_2
  have dAq_2 : 0 ≤ (agf ic.toNatClampNeg).toInt := dAq_2
  have dBq_2 : (agf ic.toNatClampNeg).toInt < 40 := dBq_2
  have dUq_2 : 0 ≤ (agf ic.toInt.toNat).toInt ∧ (agf ic.toInt.toNat).toInt < 40 := ⟨dAq_2, dBq_2⟩
  have eoq_2 : h.2.2 qp (agf ic.toNatClampNeg).toNatClampNeg = some q_2 := dCq_2
  refine hx_geti hx hb hts hC_4 hown hW hT gq_2 tt_4 1 (by decide) rfl kw_614 ⟨rfl, rfl, rfl⟩ dX9_judgement_8 (fun x_3 ex_3 lx_3 ux_3 => ?_)
  have fx_3 := ex_3.symm
  have cx_3 : x_3 = bnf (agf ic.toNatClampNeg).toNatClampNeg := by rw [ex_3, ← cl_qp_1]; exact (hx_col_at eoq_2 (by unfold Int32.toNatClampNeg; omega)).symm
  refine lv_sipush (v := 365) hx hb dX9_judgement_11 (by decide) ?_
  refine lv_aload_n hx hb dX9_judgement_14 rfl (lv_at hl 2 rfl) ?_
  refine hk_getr hx hb hts hC_0 hown hW (gv2.S hM) tt_0 2 (by decide) rfl kw_170 ⟨rfl, rfl, rfl⟩ ((hM.o gv2 trivial rfl).2.trans f_v2_2) dX9_judgement_15 ?_
  refine lv_bipush (v := 9) hx hb dX9_judgement_18 (by decide) ?_
  refine hx_iald hx hb hW hT (gqt.S hM) tt_11 rfl (by decide) dX9_judgement_20 (fun x_4 ex_4 lx_4 ux_4 => ?_)
  have ax_4 : x_4 = tf (9 : Int32).toNatClampNeg := ex_4.trans (congrFun (hx_afS hM gqt rfl af_qt) _)
  have hR_5 : x_4.toInt = R 8 := by rw [← hR, ax_4, show (9 : Int32).toNatClampNeg = 9 from by decide]; rfl
  have hR_5b := hRb 8
  rw [← hR_5] at hR_5b
  refine lv_imul hx hb dX9_judgement_21 ?_
  refine lv_topi (fun x_6 ex_6 => ?_)
  have zx_6 : x_6.toInt = 365 * x_4.toInt := by rw [ex_6]; exact i32_mul (by decide) rfl rfl (by omega) (by omega)
  refine lv_iadd hx hb dX9_judgement_22 ?_
  have rg_7 := i32_r x_3
  have rg_8 := i32_r x_6
  refine lv_topi (fun x_9 ex_9 => ?_)
  have zx_9 : x_9.toInt = x_3.toInt + x_6.toInt := by rw [ex_9]; exact i32_add rfl rfl (by omega) (by omega)
  refine hb_icmp_ge (zx := x_1.toInt) (zy := x_9.toInt) (tgt := 28) hx hb rfl rfl dX9_judgement_23 (by decide) (fun c_10 => ?_) (fun c_10 => ?_)
  · skip
    refine lv_aload_n hx hb dX9_judgement_28 rfl (lv_at hl 1 rfl) ?_
    refine hx_geti hx hb hts hC_2 hown hW hT (gv1.S hM) tt_2 6 (by decide) rfl kw_741 ⟨rfl, rfl, rfl⟩ dX9_judgement_29 (fun x_11 ex_11 lx_11 ux_11 => ?_)
    have fx_11 := ex_11.symm
    have cx_11 : x_11 = smf ic.toNatClampNeg := by rw [ex_11, ← cl_qc_6]; exact (hx_col_at eo_v1 (by unfold Int32.toNatClampNeg; omega)).symm
    refine lv_aload_n hx hb dX9_judgement_32 rfl (lv_at hl 2 rfl) ?_
    refine hk_getr hx hb hts hC_0 hown hW (gv2.S hM) tt_0 2 (by decide) rfl kw_170 ⟨rfl, rfl, rfl⟩ ((hM.o gv2 trivial rfl).2.trans f_v2_2) dX9_judgement_33 ?_
    refine lv_iconst (v := 1) hx hb dX9_judgement_36 (by decide) ?_
    refine hx_iald hx hb hW hT (gqt.S hM) tt_11 rfl (by decide) dX9_judgement_37 (fun x_12 ex_12 lx_12 ux_12 => ?_)
    have ax_12 : x_12 = tf (1 : Int32).toNatClampNeg := ex_12.trans (congrFun (hx_afS hM gqt rfl af_qt) _)
    have hR_13 : x_12.toInt = R 0 := by rw [← hR, ax_12, show (1 : Int32).toNatClampNeg = 1 from by decide]; rfl
    have hR_13b := hRb 0
    rw [← hR_13] at hR_13b
    refine hb_icmp_le (zx := x_11.toInt) (zy := x_12.toInt) (tgt := 43) hx hb rfl rfl dX9_judgement_38 (by decide) (fun c_14 => ?_) (fun c_14 => ?_)
    · skip
      refine lv_aload_n hx hb dX9_judgement_43 rfl (lv_at hl 0 rfl) ?_
      refine lv_aload_n hx hb dX9_judgement_44 rfl (lv_at hl 1 rfl) ?_
      refine lv_aload_n hx hb dX9_judgement_45 rfl (lv_at hl 2 rfl) ?_
      have hTo := hT
      refine hx_goi (hx_runV (As := [.ref v1, .ref v2]) (rest := []) ⟨hx, hb, hml, hown, hts⟩ hW gx tt_9 (T := TX9) (N := 20) rfl (t_X9_sumOfSplit_v l dC dI dA L h s.heap.size x v1 v2 hT gx (gv1.S hM) (gv2.S hM) qp gqp f_x_7 qc gqc f_x_10 qt (gqt.S hM) ((hM.o gv2 trivial rfl).2.trans f_v2_2) ic eo_v1 ⟨by omega, by omega⟩ tf (hx_afS hM gqt rfl af_qt) cn0 f_x_11 pn0 f_x_8 smf cl_qc_6 flf cl_qc_8 nu_qp agf byf hDF hDP R hR hRb (by omega) pf_x_8 pf_x_11) (cwV 2 hts (hx_gV kw_834 kw_831 kw_833 kw_29 kw_94) rfl rfl rfl (by decide +kernel) ⟨Nat.le_of_ble_eq_true rfl, Nat.le_of_ble_eq_true rfl⟩) rfl hl.1 rfl (Nat.le_of_ble_eq_true rfl) dX9_judgement_46 ⟨Nat.le_of_ble_eq_true rfl, Nat.le_of_ble_eq_true rfl⟩) hW (fun r_17 L_15 h_16 H locs p_18 hW => ?_)
      obtain ⟨hr_19, hT, hs⟩ := p_18
      replace hT : hx_T T_tb L_15 h_16 := hT
      replace hs : hx_S T_tb [] L h L_15 h_16 := hs
      replace f_x_7 := (hs.o gx trivial rfl).2.trans f_x_7
      replace f_x_10 := (hs.o gx trivial rfl).2.trans f_x_10
      replace f_x_11 := (hs.o gx trivial rfl).1.trans f_x_11
      replace f_x_8 := (hs.o gx trivial rfl).1.trans f_x_8
      replace fx_1 := (hs.o (gv1.S hM) trivial rfl).1.trans fx_1
      replace fq_2 := (hs.o (gv1.S hM) trivial rfl).2.trans fq_2
      replace fx_3 := (hs.o gq_2 trivial rfl).1.trans fx_3
      replace fx_11 := (hs.o (gv1.S hM) trivial rfl).1.trans fx_11
      replace pf_x_8 : ∀ j : Nat, (j : Int) < (h_16.2.1 x 8).toInt → h_16.2.2 qp j ≠ none := by
        intro j hj; rw [(hs.o gx trivial rfl).1] at hj; rw [(hs.a gqp rfl j).2]; exact pf_x_8 j hj
      replace pf_x_11 : ∀ j : Nat, (j : Int) < (h_16.2.1 x 11).toInt → h_16.2.2 qc j ≠ none := by
        intro j hj; rw [(hs.o gx trivial rfl).1] at hj; rw [(hs.a gqc rfl j).2]; exact pf_x_11 j hj
      replace cl_qc_7 : hx_col 100 h_16 qc 7 = frf := (hx_col_S hs hTo gqc tt_45 tt_2 rfl rfl).trans cl_qc_7
      replace cl_qc_6 : hx_col 100 h_16 qc 6 = smf := (hx_col_S hs hTo gqc tt_45 tt_2 rfl rfl).trans cl_qc_6
      replace cl_qc_8 : hx_col 100 h_16 qc 8 = flf := (hx_col_S hs hTo gqc tt_45 tt_2 rfl rfl).trans cl_qc_8
      replace cl_qp_1 : hx_col 40 h_16 qp 1 = bnf := (hx_col_S hs hTo gqp tt_44 tt_4 rfl rfl).trans cl_qp_1
      replace nu_qp : hx_num 40 h_16 qp 0 (pn0.toInt) := hx_num_S hs hTo gqp tt_44 tt_4 rfl rfl nu_qp
      replace hDF : hw_DF h_16 qc qp 2 agf cn0.toInt := hw_DF_S hs hTo gqc gqp tt_45 tt_2 rfl rfl rfl hDF
      replace hDP : hw_DF h_16 qc qp 1 byf cn0.toInt := hw_DF_S hs hTo gqc gqp tt_45 tt_2 rfl rfl rfl hDP
      replace eo_v1 := (hs.a gqc rfl _).2.trans eo_v1
      replace eoq_2 := (hs.a gqp rfl _).2.trans eoq_2
      replace ex_4 := ex_4.trans (hs.a (gqt.S hM) rfl _).1.symm
      replace ex_12 := ex_12.trans (hs.a (gqt.S hM) rfl _).1.symm
      replace hM := hM.tr (hs.mono (by decide))
      replace gx := gx.S hs
      replace gqp := gqp.S hs
      replace gqc := gqc.S hs
      replace gq_2 := gq_2.S hs
      refine lv_aload_n hx hb dX9_judgement_49 rfl (lv_at hl 2 rfl) ?_
      refine hk_getr hx hb hts hC_0 hown hW (gv2.S hM) tt_0 2 (by decide) rfl kw_170 ⟨rfl, rfl, rfl⟩ ((hM.o gv2 trivial rfl).2.trans f_v2_2) dX9_judgement_50 ?_
      refine lv_iconst (v := 1) hx hb dX9_judgement_53 (by decide) ?_
      refine hx_iald hx hb hW hT (gqt.S hM) tt_11 rfl (by decide) dX9_judgement_54 (fun x_20 ex_20 lx_20 ux_20 => ?_)
      have ax_20 : x_20 = tf (1 : Int32).toNatClampNeg := ex_20.trans (congrFun (hx_afS hM gqt rfl af_qt) _)
      obtain rfl : x_12 = x_20 := ex_12.trans ex_20.symm
      have hR_21 : x_12.toInt = R 0 := by rw [← hR, ax_12, show (1 : Int32).toNatClampNeg = 1 from by decide]; rfl
      have hR_21b := hRb 0
      rw [← hR_21] at hR_21b
      refine hb_icmp_le (zx := r_17.toInt) (zy := x_12.toInt) (tgt := 60) hx hb rfl rfl dX9_judgement_55 (by decide) (fun c_22 => ?_) (fun c_22 => ?_)
      · skip
        refine lv_aload_n hx hb dX9_judgement_60 rfl (lv_at hl 2 rfl) ?_
        refine lv_aload_n hx hb dX9_judgement_61 rfl (lv_at hl 1 rfl) ?_
        refine hk_getr hx hb hts hC_2 hown hW (gv1.S hM) tt_2 4 (by decide) rfl kw_738 ⟨rfl, rfl, rfl⟩ ((hM.o gv1 trivial rfl).2.trans f_v1_4) dX9_judgement_62 ?_
        have hTo := hT
        refine hx_goi (hx_runV (As := [.ref qft]) (rest := []) ⟨hx, hb, hml, hown, hts⟩ hW (gv2.S hM) tt_0 (T := TX0) (N := 5) rfl (t_X0_proves_v l dC dI dA L_15 h_16 H.size v2 qft hT (gv2.S hM) (gqft.S hM) qpr (gqpr.S hM) ((hM.o gv2 trivial rfl).2.trans f_v2_3) ff (hx_afS hM gqft rfl af_qft) prf (hx_afS hM gqpr rfl af_qpr) pl0 ((hM.o gv2 trivial rfl).1.trans f_v2_4) o hO hls) (cwV 1 hts (hx_gV kw_838 kw_835 kw_836 kw_837 kw_96) rfl rfl rfl (by decide +kernel) ⟨Nat.le_of_ble_eq_true rfl, Nat.le_of_ble_eq_true rfl⟩) rfl hl.1 rfl (Nat.le_of_ble_eq_true rfl) dX9_judgement_65 ⟨Nat.le_of_ble_eq_true rfl, Nat.le_of_ble_eq_true rfl⟩) hW (fun r_25 L_23 h_24 H locs p_26 hW => ?_)
        obtain ⟨hr_27, hT, hs⟩ := p_26
        replace hT : hx_T T_tb L_23 h_24 := hT
        replace hs : hx_S T_tb [] L_15 h_16 L_23 h_24 := hs
        replace f_x_7 := (hs.o gx trivial rfl).2.trans f_x_7
        replace f_x_10 := (hs.o gx trivial rfl).2.trans f_x_10
        replace f_x_11 := (hs.o gx trivial rfl).1.trans f_x_11
        replace f_x_8 := (hs.o gx trivial rfl).1.trans f_x_8
        replace fx_1 := (hs.o (gv1.S hM) trivial rfl).1.trans fx_1
        replace fq_2 := (hs.o (gv1.S hM) trivial rfl).2.trans fq_2
        replace fx_3 := (hs.o gq_2 trivial rfl).1.trans fx_3
        replace fx_11 := (hs.o (gv1.S hM) trivial rfl).1.trans fx_11
        replace pf_x_8 : ∀ j : Nat, (j : Int) < (h_24.2.1 x 8).toInt → h_24.2.2 qp j ≠ none := by
          intro j hj; rw [(hs.o gx trivial rfl).1] at hj; rw [(hs.a gqp rfl j).2]; exact pf_x_8 j hj
        replace pf_x_11 : ∀ j : Nat, (j : Int) < (h_24.2.1 x 11).toInt → h_24.2.2 qc j ≠ none := by
          intro j hj; rw [(hs.o gx trivial rfl).1] at hj; rw [(hs.a gqc rfl j).2]; exact pf_x_11 j hj
        replace cl_qc_7 : hx_col 100 h_24 qc 7 = frf := (hx_col_S hs hTo gqc tt_45 tt_2 rfl rfl).trans cl_qc_7
        replace cl_qc_6 : hx_col 100 h_24 qc 6 = smf := (hx_col_S hs hTo gqc tt_45 tt_2 rfl rfl).trans cl_qc_6
        replace cl_qc_8 : hx_col 100 h_24 qc 8 = flf := (hx_col_S hs hTo gqc tt_45 tt_2 rfl rfl).trans cl_qc_8
        replace cl_qp_1 : hx_col 40 h_24 qp 1 = bnf := (hx_col_S hs hTo gqp tt_44 tt_4 rfl rfl).trans cl_qp_1
        replace nu_qp : hx_num 40 h_24 qp 0 (pn0.toInt) := hx_num_S hs hTo gqp tt_44 tt_4 rfl rfl nu_qp
        replace hDF : hw_DF h_24 qc qp 2 agf cn0.toInt := hw_DF_S hs hTo gqc gqp tt_45 tt_2 rfl rfl rfl hDF
        replace hDP : hw_DF h_24 qc qp 1 byf cn0.toInt := hw_DF_S hs hTo gqc gqp tt_45 tt_2 rfl rfl rfl hDP
        replace eo_v1 := (hs.a gqc rfl _).2.trans eo_v1
        replace eoq_2 := (hs.a gqp rfl _).2.trans eoq_2
        replace ex_4 := ex_4.trans (hs.a (gqt.S hM) rfl _).1.symm
        replace ex_12 := ex_12.trans (hs.a (gqt.S hM) rfl _).1.symm
        replace hM := hM.tr (hs.mono (by decide))
        replace gx := gx.S hs
        replace gqp := gqp.S hs
        replace gqc := gqc.S hs
        replace gq_2 := gq_2.S hs
        refine hb_if_eq (zx := r_25.toInt) (tgt := 75) hx hb rfl dX9_judgement_68 (by decide) (fun c_28 => ?_) (fun c_28 => ?_)
        · skip
          refine lv_iconst (v := 4) hx hb dX9_judgement_75 (by decide) ?_
          exact hx_reti hx hb hr hlk hW ⟨⟨(hv_jg_4 (by rw [← cx_1, ← cx_3]; omega) (by rw [← cx_11]; omega) (by rw [← hr_19.1]; omega) (Or.inr ⟨by decide, (by rcases hr_27 with z | z; (exfalso; omega); exact z.2)⟩)), by decide, by decide⟩, hT, hM⟩ dX9_judgement_76
        · skip
          refine lv_iconst (v := 5) hx hb dX9_judgement_71 (by decide) ?_
          refine lv_goto (tgt := 76) hx hb dX9_judgement_72 (by decide) ?_
          exact hx_reti hx hb hr hlk hW ⟨⟨(hv_jg_4 (by rw [← cx_1, ← cx_3]; omega) (by rw [← cx_11]; omega) (by rw [← hr_19.1]; omega) (Or.inl ⟨by decide, (by rcases hr_27 with z | z; exact z.2; exfalso; omega)⟩)), by decide, by decide⟩, hT, hM⟩ dX9_judgement_76
      · skip
        refine lv_iconst (v := 3) hx hb dX9_judgement_58 (by decide) ?_
        exact hx_reti hx hb hr hlk hW ⟨⟨(hv_jg_3 (by rw [← cx_1, ← cx_3]; omega) (by rw [← cx_11]; omega) (by rw [← hr_19.1]; omega) (by decide)), by decide, by decide⟩, hT, hM⟩ dX9_judgement_59
    · skip
      refine lv_iconst (v := 2) hx hb dX9_judgement_41 (by decide) ?_
      exact hx_reti hx hb hr hlk hW ⟨⟨(hv_jg_2 (by rw [← cx_1, ← cx_3]; omega) (by rw [← cx_11]; omega) (by decide)), by decide, by decide⟩, hT, hM⟩ dX9_judgement_42
  · skip
    refine lv_iconst (v := 1) hx hb dX9_judgement_26 (by decide) ?_
    exact hx_reti hx hb hr hlk hW ⟨⟨(hv_jg_1 (by rw [← cx_1, ← cx_3]; omega) (by decide)), by decide, by decide⟩, hT, hM⟩ dX9_judgement_27


set_option maxHeartbeats 4000000 in
set_option maxRecDepth 100000 in
theorem t_X10_judges_v (l : Launch) (dC : Nat → ClassId) (dI : Nat → Nat → Nat) (dA : Nat → ClassId) (L : List Nat) (h : hx_h) (sz : Nat) (x : Nat) (i1 : Int32) (i2 : Int32) (hT : hx_T T_tb L h) (gx : hx_g L h x 10) (qb : Nat) (gqb : hx_g L h qb 72) (f_x_37 : h.2.2 x 37 = some qb) (qa : Nat) (gqa : hx_g L h qa 73) (f_x_38 : h.2.2 x 38 = some qa) (qf : Nat) (gqf : hx_g L h qf 78) (f_x_43 : h.2.2 x 43 = some qf) (qs : Nat) (gqs : hx_g L h qs 74) (f_x_39 : h.2.2 x 39 = some qs) (ql : Nat) (gql : hx_g L h ql 50) (f_x_3 : h.2.2 x 3 = some ql) (qo : Nat) (gqo : hx_g L h qo 75) (f_x_40 : h.2.2 x 40 = some qo) (qbn : Nat) (gqbn : hx_g L h qbn 58) (f_x_21 : h.2.2 x 21 = some qbn) (qn : Nat) (gqn : hx_g L h qn 51) (f_x_4 : h.2.2 x 4 = some qn) (qp : Nat) (gqp : hx_g L h qp 52) (f_x_5 : h.2.2 x 5 = some qp) (qk : Nat) (gqk : hx_g L h qk 99) (f_x_66 : h.2.2 x 66 = some qk) (qft : Nat) (gqft : hx_g L h qft 88) (f_x_53 : h.2.2 x 53 = some qft) (byf : Nat → Int32) (af_qb : h.2.1 qb = byf) (agf : Nat → Int32) (af_qa : h.2.1 qa = agf) (flf : Nat → Int32) (af_qf : h.2.1 qf = flf) (smf : Nat → Int32) (af_qs : h.2.1 qs = smf) (rlf : Nat → Int32) (af_ql : h.2.1 ql = rlf) (frf : Nat → Int32) (af_qo : h.2.1 qo = frf) (bnf : Nat → Int32) (af_qbn : h.2.1 qbn = bnf) (psf : Nat → Int32) (af_qn : h.2.1 qn = psf) (prf : Nat → Int32) (af_qp : h.2.1 qp = prf) (skf : Nat → Int32) (af_qk : h.2.1 qk = skf) (rf : Nat → Int32) (af_qft : h.2.1 qft = rf) (c0 : Int32) (f_x_36 : h.2.1 x 36 = c0) (hi1 : 0 ≤ i1.toInt ∧ i1.toInt < c0.toInt) (hi2 : 0 ≤ i2.toInt ∧ i2.toInt ≤ 8) (R : Nat → Int) (hRr : ∀ k : Nat, k ≤ 12 → (rlf (13 * i2.toInt.toNat + k)).toInt = R k) (hRb : ∀ k, 0 ≤ R k ∧ R k ≤ 9999) (o : List hv_tok) (hO : hv_OK o) (hls : hv_ls (fun i => prf (128 * i2.toInt.toNat + i)) (psf i2.toInt.toNat).toInt.toNat = o.map hv_rc) (hps : (psf i2.toInt.toNat).toInt ≤ 128) : Met l yX10_judges (Cond.code yX10_judges cX10_judges 3 (some .int) :: hx_all) ({ frames := 2, cells := 0, slots := 0, locals := 50 }) (va_Pc [.ref x, .int i1, .int i2] (hx_B T_tb (P_ty dA) (dC, dI) vwCl L h sz)) (va_Qi (fun (r : Int32) (u : List Nat × hx_h) => (r.toInt = hv_jg (hv_F0 rf (8 * i1.toInt.toNat)) R o (frf i1.toNatClampNeg).toInt (bnf (agf i1.toNatClampNeg).toNatClampNeg).toInt (smf i1.toNatClampNeg).toInt (hv_sm byf agf flf smf (byf i1.toNatClampNeg).toInt (agf i1.toNatClampNeg).toInt ((flf i1.toNatClampNeg).toInt - R 1) c0.toInt.toNat) ∧ (1 ≤ r.toInt ∧ r.toInt ≤ 5)) ∧ hx_T T_tb u.1 u.2 ∧ hx_S T_tb [(99, 0)] L h u.1 u.2) (hx_E T_tb (P_ty dA) (dC, dI) vwCl (hx_A L sz)) (hx_A L sz)) 0 0 (hx_A L sz) := by
  refine hx_met (lv := [(0, .ref x), (1, .int i1), (2, .int i2)]) (by decide +kernel) rfl (Nat.le_of_ble_eq_true rfl) rfl ?_
  intro p e s m below meth c hx hb hml hr hlk hts0 hown hin hsz hW ls hl
  have hts : ∀ w ∈ hx_all, w.before _ s = true := fun w hw => hts0 w (List.mem_cons_of_mem _ hw)
  have hown : s.vm.findClass "SmallCourtModel" = some m.cls := hown
  have hM : hx_S T_tb [(99, 0)] L h L h := hx_S.rf
  have b_c0 := hT.gi gx tt_10 (k := 36) rfl
  rw [f_x_36] at b_c0
  have b_c0 : 0 ≤ c0.toInt ∧ c0.toInt ≤ 100 := b_c0
  refine lv_aload_n hx hb dX10_judges_0 rfl (lv_at hl 0 rfl) ?_
  refine hk_getr hx hb hts hC_10 hown hW (gx.S hM) tt_10 40 (by decide) rfl kw_1183 ⟨rfl, rfl, rfl⟩ ((hM.o gx trivial rfl).2.trans f_x_40) dX10_judges_1 ?_
  refine lv_iload_n hx hb dX10_judges_4 rfl (lv_at hl 1 rfl) ?_
  refine hx_iald hx hb hW hT (gqo.S hM) tt_75 rfl ⟨by omega, by omega⟩ dX10_judges_5 (fun x_1 ex_1 lx_1 ux_1 => ?_)
  have ax_1 : x_1 = frf i1.toNatClampNeg := ex_1.trans (congrFun (hx_afS hM gqo rfl af_qo) _)
  refine lv_aload_n hx hb dX10_judges_6 rfl (lv_at hl 0 rfl) ?_
  refine hk_getr hx hb hts hC_10 hown hW (gx.S hM) tt_10 21 (by decide) rfl kw_1164 ⟨rfl, rfl, rfl⟩ ((hM.o gx trivial rfl).2.trans f_x_21) dX10_judges_7 ?_
  refine lv_aload_n hx hb dX10_judges_10 rfl (lv_at hl 0 rfl) ?_
  refine hk_getr hx hb hts hC_10 hown hW (gx.S hM) tt_10 38 (by decide) rfl kw_1181 ⟨rfl, rfl, rfl⟩ ((hM.o gx trivial rfl).2.trans f_x_38) dX10_judges_11 ?_
  refine lv_iload_n hx hb dX10_judges_14 rfl (lv_at hl 1 rfl) ?_
  refine hx_iald hx hb hW hT (gqa.S hM) tt_73 rfl ⟨by omega, by omega⟩ dX10_judges_15 (fun x_2 ex_2 lx_2 ux_2 => ?_)
  have ax_2 : x_2 = agf i1.toNatClampNeg := ex_2.trans (congrFun (hx_afS hM gqa rfl af_qa) _)
  refine hx_iald hx hb hW hT (gqbn.S hM) tt_58 rfl ⟨by omega, by omega⟩ dX10_judges_16 (fun x_3 ex_3 lx_3 ux_3 => ?_)
  have ax_3 : x_3 = bnf x_2.toNatClampNeg := ex_3.trans (congrFun (hx_afS hM gqbn rfl af_qbn) _)
  have cbo9 : x_3 = bnf (agf i1.toNatClampNeg).toNatClampNeg := by rw [ax_3, ← ax_2]
  refine lv_isub hx hb dX10_judges_17 ?_
  have rg_4 := i32_r x_1
  have rg_5 := i32_r x_3
  refine lv_topi (fun x_6 ex_6 => ?_)
  have zx_6 : x_6.toInt = x_1.toInt - x_3.toInt := by rw [ex_6]; exact i32_sub rfl rfl (by omega) (by omega)
  refine lv_sipush (v := 365) hx hb dX10_judges_18 (by decide) ?_
  refine lv_aload_n hx hb dX10_judges_21 rfl (lv_at hl 0 rfl) ?_
  refine lv_iload_n hx hb dX10_judges_22 rfl (lv_at hl 2 rfl) ?_
  refine lv_bipush (v := 8) hx hb dX10_judges_23 (by decide) ?_
  have zc_8 : (8 : Int32).toInt = 8 := by decide
  have zc_365 : (365 : Int32).toInt = 365 := by decide
  refine hx_goi (hx_runV (As := [.int i2, .int (8 : Int32)]) (rest := [.int (365 : Int32), .int x_6]) ⟨hx, hb, hml, hown, hts⟩ hW (gx.S hM) tt_10 (T := TX10) (N := 98) rfl (t_X10_ruleOf_v l dC dI dA L h s.heap.size x i2 (8 : Int32) hT (gx.S hM) ql (gql.S hM) ((hM.o gx trivial rfl).2.trans f_x_3) rlf (hx_afS hM gql rfl af_ql) ⟨by omega, by omega⟩ (by decide)) (cwV 2 hts (hx_gV kw_1533 kw_1530 kw_1532 kw_66 kw_103) rfl rfl rfl (by decide +kernel) ⟨Nat.le_of_ble_eq_true rfl, Nat.le_of_ble_eq_true rfl⟩) rfl hl.1 rfl (Nat.le_of_ble_eq_true rfl) dX10_judges_25 ⟨Nat.le_of_ble_eq_true rfl, Nat.le_of_ble_eq_true rfl⟩) hW (fun r_9 L_7 h_8 H locs p_10 hW => ?_)
  obtain ⟨hr_11, hT, hs⟩ := p_10
  replace hT : hx_T T_tb L_7 h_8 := hT
  replace hs : hx_S T_tb [] L h L_7 h_8 := hs
  replace af_qk : h_8.2.1 qk = skf := (funext fun j => (hs.a (gqk.S hM) rfl j).1).trans af_qk
  replace ex_1 := ex_1.trans (hs.a (gqo.S hM) rfl _).1.symm
  replace ex_2 := ex_2.trans (hs.a (gqa.S hM) rfl _).1.symm
  replace ex_3 := ex_3.trans (hs.a (gqbn.S hM) rfl _).1.symm
  replace hM := hM.tr (hs.mono (by decide))
  have hR_12 : r_9.toInt = R 8 := by rw [hr_11.1, show (8 : Int32).toInt.toNat = 8 from by decide]; exact hRr 8 (by decide)
  refine lv_imul hx hb dX10_judges_28 ?_
  refine lv_topi (fun x_13 ex_13 => ?_)
  have zx_13 : x_13.toInt = 365 * r_9.toInt := by rw [ex_13]; exact i32_mul (by decide) rfl rfl (by omega) (by omega)
  refine hb_icmp_ge (zx := x_6.toInt) (zy := x_13.toInt) (tgt := 34) hx hb rfl rfl dX10_judges_29 (by decide) (fun c_14 => ?_) (fun c_14 => ?_)
  · skip
    refine lv_aload_n hx hb dX10_judges_34 rfl (lv_at hl 0 rfl) ?_
    refine hk_getr hx hb hts hC_10 hown hW (gx.S hM) tt_10 39 (by decide) rfl kw_1182 ⟨rfl, rfl, rfl⟩ ((hM.o gx trivial rfl).2.trans f_x_39) dX10_judges_35 ?_
    refine lv_iload_n hx hb dX10_judges_38 rfl (lv_at hl 1 rfl) ?_
    refine hx_iald hx hb hW hT (gqs.S hM) tt_74 rfl ⟨by omega, by omega⟩ dX10_judges_39 (fun x_15 ex_15 lx_15 ux_15 => ?_)
    have ax_15 : x_15 = smf i1.toNatClampNeg := ex_15.trans (congrFun (hx_afS hM gqs rfl af_qs) _)
    refine lv_aload_n hx hb dX10_judges_40 rfl (lv_at hl 0 rfl) ?_
    refine lv_iload_n hx hb dX10_judges_41 rfl (lv_at hl 2 rfl) ?_
    refine lv_iconst (v := 0) hx hb dX10_judges_42 (by decide) ?_
    have zc_0 : (0 : Int32).toInt = 0 := by decide
    refine hx_goi (hx_runV (As := [.int i2, .int (0 : Int32)]) (rest := [.int x_15]) ⟨hx, hb, hml, hown, hts⟩ hW (gx.S hM) tt_10 (T := TX10) (N := 98) rfl (t_X10_ruleOf_v l dC dI dA L_7 h_8 H.size x i2 (0 : Int32) hT (gx.S hM) ql (gql.S hM) ((hM.o gx trivial rfl).2.trans f_x_3) rlf (hx_afS hM gql rfl af_ql) ⟨by omega, by omega⟩ (by decide)) (cwV 2 hts (hx_gV kw_1533 kw_1530 kw_1532 kw_66 kw_103) rfl rfl rfl (by decide +kernel) ⟨Nat.le_of_ble_eq_true rfl, Nat.le_of_ble_eq_true rfl⟩) rfl hl.1 rfl (Nat.le_of_ble_eq_true rfl) dX10_judges_43 ⟨Nat.le_of_ble_eq_true rfl, Nat.le_of_ble_eq_true rfl⟩) hW (fun r_18 L_16 h_17 H locs p_19 hW => ?_)
    obtain ⟨hr_20, hT, hs⟩ := p_19
    replace hT : hx_T T_tb L_16 h_17 := hT
    replace hs : hx_S T_tb [] L_7 h_8 L_16 h_17 := hs
    replace af_qk : h_17.2.1 qk = skf := (funext fun j => (hs.a (gqk.S hM) rfl j).1).trans af_qk
    replace ex_1 := ex_1.trans (hs.a (gqo.S hM) rfl _).1.symm
    replace ex_2 := ex_2.trans (hs.a (gqa.S hM) rfl _).1.symm
    replace ex_3 := ex_3.trans (hs.a (gqbn.S hM) rfl _).1.symm
    replace ex_15 := ex_15.trans (hs.a (gqs.S hM) rfl _).1.symm
    replace hM := hM.tr (hs.mono (by decide))
    have hR_21 : r_18.toInt = R 0 := by rw [hr_20.1, show (0 : Int32).toInt.toNat = 0 from by decide]; exact hRr 0 (by decide)
    refine hb_icmp_le (zx := x_15.toInt) (zy := r_18.toInt) (tgt := 51) hx hb rfl rfl dX10_judges_46 (by decide) (fun c_22 => ?_) (fun c_22 => ?_)
    · skip
      refine lv_aload_n hx hb dX10_judges_51 rfl (lv_at hl 0 rfl) ?_
      refine lv_iload_n hx hb dX10_judges_52 rfl (lv_at hl 1 rfl) ?_
      refine lv_iload_n hx hb dX10_judges_53 rfl (lv_at hl 2 rfl) ?_
      refine hx_goi (hx_runV (As := [.int i1, .int i2]) (rest := []) ⟨hx, hb, hml, hown, hts⟩ hW (gx.S hM) tt_10 (T := TX10) (N := 98) rfl (t_X10_isSplit_v l dC dI dA L_16 h_17 H.size x i1 i2 hT (gx.S hM) qb (gqb.S hM) ((hM.o gx trivial rfl).2.trans f_x_37) qa (gqa.S hM) ((hM.o gx trivial rfl).2.trans f_x_38) qf (gqf.S hM) ((hM.o gx trivial rfl).2.trans f_x_43) qs (gqs.S hM) ((hM.o gx trivial rfl).2.trans f_x_39) ql (gql.S hM) ((hM.o gx trivial rfl).2.trans f_x_3) byf (hx_afS hM gqb rfl af_qb) agf (hx_afS hM gqa rfl af_qa) flf (hx_afS hM gqf rfl af_qf) smf (hx_afS hM gqs rfl af_qs) rlf (hx_afS hM gql rfl af_ql) c0 ((hM.o gx trivial rfl).1.trans f_x_36) ⟨by omega, by omega⟩ ⟨by omega, by omega⟩ R hRr) (cwV 2 hts (hx_gV kw_1621 kw_1618 kw_1620 kw_78 kw_103) rfl rfl rfl (by decide +kernel) ⟨Nat.le_of_ble_eq_true rfl, Nat.le_of_ble_eq_true rfl⟩) rfl hl.1 rfl (Nat.le_of_ble_eq_true rfl) dX10_judges_54 ⟨Nat.le_of_ble_eq_true rfl, Nat.le_of_ble_eq_true rfl⟩) hW (fun r_25 L_23 h_24 H locs p_26 hW => ?_)
      obtain ⟨hr_27, hT, hs⟩ := p_26
      replace hT : hx_T T_tb L_23 h_24 := hT
      replace hs : hx_S T_tb [] L_16 h_17 L_23 h_24 := hs
      replace af_qk : h_24.2.1 qk = skf := (funext fun j => (hs.a (gqk.S hM) rfl j).1).trans af_qk
      replace ex_1 := ex_1.trans (hs.a (gqo.S hM) rfl _).1.symm
      replace ex_2 := ex_2.trans (hs.a (gqa.S hM) rfl _).1.symm
      replace ex_3 := ex_3.trans (hs.a (gqbn.S hM) rfl _).1.symm
      replace ex_15 := ex_15.trans (hs.a (gqs.S hM) rfl _).1.symm
      replace hM := hM.tr (hs.mono (by decide))
      refine hb_if_eq (zx := r_25.toInt) (tgt := 62) hx hb rfl dX10_judges_57 (by decide) (fun c_28 => ?_) (fun c_28 => ?_)
      · skip
        refine lv_aload_n hx hb dX10_judges_62 rfl (lv_at hl 0 rfl) ?_
        refine lv_iload_n hx hb dX10_judges_63 rfl (lv_at hl 1 rfl) ?_
        refine lv_iload_n hx hb dX10_judges_64 rfl (lv_at hl 2 rfl) ?_
        refine hx_goi (hx_runV (As := [.int i1, .int i2]) (rest := []) ⟨hx, hb, hml, hown, hts⟩ hW (gx.S hM) tt_10 (T := TX10) (N := 98) rfl (t_X10_isProved_v l dC dI dA L_23 h_24 H.size x i1 i2 hT (gx.S hM) qn (gqn.S hM) ((hM.o gx trivial rfl).2.trans f_x_4) qp (gqp.S hM) ((hM.o gx trivial rfl).2.trans f_x_5) qk (gqk.S hM) ((hM.o gx trivial rfl).2.trans f_x_66) qft (gqft.S hM) ((hM.o gx trivial rfl).2.trans f_x_53) psf (hx_afS hM gqn rfl af_qn) prf (hx_afS hM gqp rfl af_qp) skf af_qk rf (hx_afS hM gqft rfl af_qft) ⟨by omega, by omega⟩ ⟨by omega, by omega⟩ o hO hls hps) (cwV 2 hts (hx_gV kw_1625 kw_1622 kw_1624 kw_79 kw_103) rfl rfl rfl (by decide +kernel) ⟨Nat.le_of_ble_eq_true rfl, Nat.le_of_ble_eq_true rfl⟩) rfl hl.1 rfl (Nat.le_of_ble_eq_true rfl) dX10_judges_65 ⟨Nat.le_of_ble_eq_true rfl, Nat.le_of_ble_eq_true rfl⟩) hW (fun r_31 L_29 h_30 H locs p_32 hW => ?_)
        obtain ⟨hr_33, hT, hs⟩ := p_32
        replace hT : hx_T T_tb L_29 h_30 := hT
        replace hs : hx_S T_tb [(99, 0)] L_23 h_24 L_29 h_30 := hs
        replace ex_1 := ex_1.trans (hs.a (gqo.S hM) rfl _).1.symm
        replace ex_2 := ex_2.trans (hs.a (gqa.S hM) rfl _).1.symm
        replace ex_3 := ex_3.trans (hs.a (gqbn.S hM) rfl _).1.symm
        replace ex_15 := ex_15.trans (hs.a (gqs.S hM) rfl _).1.symm
        replace hM := hM.tr (hs.mono (by decide))
        refine hb_if_eq (zx := r_31.toInt) (tgt := 75) hx hb rfl dX10_judges_68 (by decide) (fun c_34 => ?_) (fun c_34 => ?_)
        · skip
          refine lv_iconst (v := 4) hx hb dX10_judges_75 (by decide) ?_
          exact hx_reti hx hb hr hlk hW ⟨⟨(hv_jg_4 (by rw [← ax_1, ← cbo9]; omega) (by rw [← ax_15]; omega) (by rcases hr_27 with z | z; (exfalso; omega); intro z9; by_cases z8 : 1 < hv_sct byf agf flf (byf i1.toNatClampNeg).toInt (agf i1.toNatClampNeg).toInt ((flf i1.toNatClampNeg).toInt - R 1) c0.toInt.toNat; exact z.2 ⟨z8, z9⟩; rw [hv_sct_1 (c := i1.toNatClampNeg) (hv_sq_t.mpr ⟨rfl, rfl, (by have := hRb 1; omega)⟩) c0.toInt.toNat (by unfold Int32.toNatClampNeg; omega) (by omega), ← ax_15] at z9; omega) (Or.inr ⟨by decide, (by rcases hr_33 with z | z; (exfalso; omega); exact z.2)⟩)), by decide, by decide⟩, hT, hM⟩ dX10_judges_76
        · skip
          refine lv_iconst (v := 5) hx hb dX10_judges_71 (by decide) ?_
          refine lv_goto (tgt := 76) hx hb dX10_judges_72 (by decide) ?_
          exact hx_reti hx hb hr hlk hW ⟨⟨(hv_jg_4 (by rw [← ax_1, ← cbo9]; omega) (by rw [← ax_15]; omega) (by rcases hr_27 with z | z; (exfalso; omega); intro z9; by_cases z8 : 1 < hv_sct byf agf flf (byf i1.toNatClampNeg).toInt (agf i1.toNatClampNeg).toInt ((flf i1.toNatClampNeg).toInt - R 1) c0.toInt.toNat; exact z.2 ⟨z8, z9⟩; rw [hv_sct_1 (c := i1.toNatClampNeg) (hv_sq_t.mpr ⟨rfl, rfl, (by have := hRb 1; omega)⟩) c0.toInt.toNat (by unfold Int32.toNatClampNeg; omega) (by omega), ← ax_15] at z9; omega) (Or.inl ⟨by decide, (by rcases hr_33 with z | z; exact z.2; exfalso; omega)⟩)), by decide, by decide⟩, hT, hM⟩ dX10_judges_76
      · skip
        refine lv_iconst (v := 3) hx hb dX10_judges_60 (by decide) ?_
        exact hx_reti hx hb hr hlk hW ⟨⟨(hv_jg_3 (by rw [← ax_1, ← cbo9]; omega) (by rw [← ax_15]; omega) (by rcases hr_27 with z | z; exact z.2.2; exfalso; omega) (by decide)), by decide, by decide⟩, hT, hM⟩ dX10_judges_61
    · skip
      refine lv_iconst (v := 2) hx hb dX10_judges_49 (by decide) ?_
      exact hx_reti hx hb hr hlk hW ⟨⟨(hv_jg_2 (by rw [← ax_1, ← cbo9]; omega) (by rw [← ax_15]; omega) (by decide)), by decide, by decide⟩, hT, hM⟩ dX10_judges_50
  · skip
    refine lv_iconst (v := 1) hx hb dX10_judges_32 (by decide) ?_
    exact hx_reti hx hb hr hlk hW ⟨⟨(hv_jg_1 (by rw [← ax_1, ← cbo9]; omega) (by decide)), by decide, by decide⟩, hT, hM⟩ dX10_judges_33
end
