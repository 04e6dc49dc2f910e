
set_option maxHeartbeats 4000000 in
set_option maxRecDepth 100000 in
theorem t_X0_init_w (l : Launch) (dC : Nat → ClassId) (dI : Nat → Nat → Nat) (dA : Nat → ClassId) (L : List Nat) (h : hx_h) (sz : Nat) (b0 : hx_z) (x : Nat) (i1 : Int32) (i2 : Int32) (hT : hx_T T_tb L h) (gx : hx_g L h x 116) (hz : ∀ j, h.2.1 x j = 0 ∧ h.2.2 x j = none) (hi1 : -1 ≤ i1.toInt ∧ i1.toInt ≤ 7) (hi2 : -1 ≤ i2.toInt ∧ i2.toInt ≤ 7999) : Met l yX0_init (Cond.code yX0_init cX0_init 3 none :: hx_all) ({ frames := 1, cells := 2, slots := 174, locals := 40 }) (va_Pc [.ref x, .int i1, .int i2] (hx_BX T_tb (P_ty dA) (dC, dI) vwCl L h sz b0)) (va_Qv (fun (u : List Nat × hx_h) => hx_T T_tb u.1 u.2 ∧ hx_S T_tb [(11, 0), (12, 0), (116, 0), (116, 1), (116, 2), (116, 3), (116, 4)] (hx_X L x) h u.1 u.2 ∧ hx_g u.1 u.2 x 0 ∧ u.2.2.1 x 0 = i1 ∧ u.2.2.1 x 1 = i2 ∧ u.2.2.1 x 4 = 3 ∧ (∃ q, u.2.2.2 x 2 = some q ∧ hx_g u.1 u.2 q 11 ∧ (∀ j, j < 14 → u.2.2.1 q j = P_wo j) ∧ ∀ a ∈ hx_X L x, a ≠ q) ∧ (∃ q, u.2.2.2 x 3 = some q ∧ hx_g u.1 u.2 q 12 ∧ ((u.2.2.1 q 0).toInt = 144 ∧ (u.2.2.1 q 1).toInt = 17 ∧ (u.2.2.1 q 2).toInt = -1) ∧ ∀ a ∈ hx_X L x, a ≠ q)) (hx_E T_tb (P_ty dA) (dC, dI) vwCl (hx_A L sz)) (hx_A L sz)) 2 174 (hx_A L sz) := by
  refine hx_metX (lv := [(0, .ref x), (1, .int i1), (2, .int i2)]) (by decide +kernel) rfl (Nat.le_of_ble_eq_true rfl) rfl ?_
  intro p e s m below meth c hx hb hml hr hlk hts0 hown hin hsz hW hZ ls hl
  have hts : ∀ w ∈ hx_all, w.before _ s = true := fun w hw => hts0 w (List.mem_cons_of_mem _ hw)
  have hown : s.vm.findClass "SmallCourt$Act" = some m.cls := hown
  have hin : meth.name = "<init>" := hin
  have hM : hx_S T_tb [(11, 0), (12, 0), (116, 0), (116, 1), (116, 2), (116, 3), (116, 4)] (hx_X L x) h L h := hx_SX_rf
  have hz : ∀ j, ([] : List Nat).contains j = false → h.2.1 x j = 0 ∧ h.2.2 x j = none := fun j _ => hz j
  refine lv_aload_n hx hb dX0_init_0 rfl (lv_at hl 0 rfl) ?_
  refine W.objInit hx hb hown (hts _ kw_153) (hts _ kw_117) (hts _ kw_118) rfl (by rw [hml]; exact hl.1) rfl dX0_init_1 (Nat.le_of_ble_eq_true rfl) (Nat.le_of_ble_eq_true rfl) ?_
  refine W.eq (g2 := F0 m 4 ls []) rfl ?_
  refine lv_aload_n hx hb dX0_init_4 rfl (lv_at hl 0 rfl) ?_
  refine lv_bipush (v := 14) hx hb dX0_init_5 (by decide) ?_
  refine hk_newa hx hb hts hW 11 tt_11 (atype := .int) rfl kw_186 (tys := P_ty dA) (t0 := 0) rfl (fun _ => Iff.rfl) rfl (i := (14 : Int32)) (by decide) (Nat.le_of_ble_eq_true rfl) (Nat.le_of_ble_eq_true rfl) (Nat.le_of_ble_eq_true rfl) dX0_init_7 (fun q_2 H h_1 eh_1 hqq_2 hW hs gq_2 => ?_)
  have nq_q_2 : ∀ a ∈ (hx_X L x), a ≠ q_2 := fun a ha z => hqq_2 (z ▸ (hM.1 a ha).1)
  have hT : hx_T T_tb (L ++ [q_2]) h_1 := by rw [eh_1]; exact hx_T_nw hT hqq_2 tt_11 rfl
  replace hz := hx_zr [] hz hs gx trivial rfl
  replace hM := hM.tr (hs.mono (by decide))
  replace gx := gx.S hs
  refine hx_putrF hx hb hts hC_0 hown hW hT (hx_S.rf (M := [(116, 2)])) gx tt_116 2 (by decide) rfl kw_166 ⟨rfl, rfl, rfl⟩ rfl hin rfl (x := (some q_2)) ⟨fun _ z => (by cases z), fun q hq => (by cases hq; exact ⟨gq_2.1, by rw [gq_2.2]; decide⟩)⟩ rfl rfl rfl (List.mem_singleton.mpr rfl) dX0_init_9 (fun H locs h_3 eh_3 hW hT hs => ?_)
  replace hz := hx_zr [2] hz hs gx trivial rfl
  replace hM := hM.tr (hs.mono (by decide))
  replace gx := gx.S hs
  replace gq_2 := gq_2.S hs
  have f_4 : h_3.2.2 x 2 = (some q_2) := by rw [eh_3]; exact hx_pr_at _ _ _ _
  refine lv_aload_n hx hb dX0_init_12 rfl (lv_at hl 0 rfl) ?_
  refine lv_sipush (v := 160) hx hb dX0_init_13 (by decide) ?_
  refine hk_newa hx hb hts hW 12 tt_12 (atype := .int) rfl kw_186 (tys := P_ty dA) (t0 := 0) rfl (fun _ => Iff.rfl) rfl (i := (160 : Int32)) (by decide) (Nat.le_of_ble_eq_true rfl) (Nat.le_of_ble_eq_true rfl) (Nat.le_of_ble_eq_true rfl) dX0_init_16 (fun q_6 H h_5 eh_5 hqq_6 hW hs gq_6 => ?_)
  have nq_q_6 : ∀ a ∈ (hx_X L x), a ≠ q_6 := fun a ha z => hqq_6 (z ▸ (hM.1 a ha).1)
  have hT : hx_T T_tb ((L ++ [q_2]) ++ [q_6]) h_5 := by rw [eh_5]; exact hx_T_nw hT hqq_6 tt_12 rfl
  replace f_4 := (hs.o gx trivial rfl).2.trans f_4
  replace hz := hx_zr [2] hz hs gx trivial rfl
  replace hM := hM.tr (hs.mono (by decide))
  replace gx := gx.S hs
  replace gq_2 := gq_2.S hs
  refine hx_putrF hx hb hts hC_0 hown hW hT (hx_S.rf (M := [(116, 3)])) gx tt_116 3 (by decide) rfl kw_172 ⟨rfl, rfl, rfl⟩ rfl hin rfl (x := (some q_6)) ⟨fun _ z => (by cases z), fun q hq => (by cases hq; exact ⟨gq_6.1, by rw [gq_6.2]; decide⟩)⟩ rfl rfl rfl (List.mem_singleton.mpr rfl) dX0_init_18 (fun H locs h_7 eh_7 hW hT hs => ?_)
  replace f_4 := (hs.o gx trivial rfl).2.trans f_4
  replace hz := hx_zr [2, 3] hz hs gx trivial rfl
  replace hM := hM.tr (hs.mono (by decide))
  replace gx := gx.S hs
  replace gq_2 := gq_2.S hs
  replace gq_6 := gq_6.S hs
  have f_8 : h_7.2.2 x 3 = (some q_6) := by rw [eh_7]; exact hx_pr_at _ _ _ _
  refine lv_aload_n hx hb dX0_init_21 rfl (lv_at hl 0 rfl) ?_
  refine lv_iload_n hx hb dX0_init_22 rfl (lv_at hl 1 rfl) ?_
  refine hx_putiF hx hb hts hC_0 hown hW hT (hx_S.rf (M := [(116, 0)])) gx tt_116 0 (by decide) rfl kw_162 ⟨rfl, rfl, rfl⟩ rfl hin rfl (x := i1) ⟨by omega, by omega⟩ rfl rfl rfl (List.mem_singleton.mpr rfl) dX0_init_23 (fun H locs h_9 eh_9 hW hT hs => ?_)
  replace f_4 := (hs.o gx trivial rfl).2.trans f_4
  replace f_8 := (hs.o gx trivial rfl).2.trans f_8
  replace hz := hx_zr [0, 2, 3] hz hs gx trivial rfl
  replace hM := hM.tr (hs.mono (by decide))
  replace gx := gx.S hs
  replace gq_2 := gq_2.S hs
  replace gq_6 := gq_6.S hs
  have f_10 : h_9.2.1 x 0 = i1 := by rw [eh_9]; exact hx_pi_at _ _ _ _
  refine lv_aload_n hx hb dX0_init_26 rfl (lv_at hl 0 rfl) ?_
  refine lv_iload_n hx hb dX0_init_27 rfl (lv_at hl 2 rfl) ?_
  refine hx_putiF hx hb hts hC_0 hown hW hT (hx_S.rf (M := [(116, 1)])) gx tt_116 1 (by decide) rfl kw_164 ⟨rfl, rfl, rfl⟩ rfl hin rfl (x := i2) ⟨by omega, by omega⟩ rfl rfl rfl (List.mem_singleton.mpr rfl) dX0_init_28 (fun H locs h_11 eh_11 hW hT hs => ?_)
  replace f_4 := (hs.o gx trivial rfl).2.trans f_4
  replace f_8 := (hs.o gx trivial rfl).2.trans f_8
  replace f_10 := (hs.o gx trivial rfl).1.trans f_10
  replace hz := hx_zr [0, 1, 2, 3] hz hs gx trivial rfl
  replace hM := hM.tr (hs.mono (by decide))
  replace gx := gx.S hs
  replace gq_2 := gq_2.S hs
  replace gq_6 := gq_6.S hs
  have f_12 : h_11.2.1 x 1 = i2 := by rw [eh_11]; exact hx_pi_at _ _ _ _
  obtain ⟨pF0, npF0⟩ : ∃ g : Nat → Int32, h_11.2.1 q_6 = g := ⟨_, rfl⟩
  refine va_getsN hx hb hZ.2.2.1 hW.2.2.2.1 hown (va_Nw.use rfl (hZ.1 _ (List.mem_of_getElem? (i := 1) rfl))) (fun _ h9 => h9) dX0_init_31 ?_
  refine lv_iconst (v := 0) hx hb dX0_init_34 (by decide) ?_
  refine lv_aload_n hx hb dX0_init_35 rfl (lv_at hl 0 rfl) ?_
  refine hk_getr hx hb hts hC_0 hown hW gx tt_116 2 (by decide) rfl kw_166 ⟨rfl, rfl, rfl⟩ f_4 dX0_init_36 ?_
  refine lv_iconst (v := 0) hx hb dX0_init_39 (by decide) ?_
  refine lv_bipush (v := 14) hx hb dX0_init_40 (by decide) ?_
  refine hk_copyx hx hb (hml.trans hl.1.symm) hown (hts _ kw_156) (hts _ kw_158) (hts _ kw_157) (hts _ kw_97) hW hZ.2.2.2.1 hZ.2.2.2.2.1 hZ.2.2.2.2.2.1 gq_2 tt_11 rfl (by decide) rfl rfl (by decide) (Nat.le_of_ble_eq_true rfl) (Nat.le_of_ble_eq_true rfl) dX0_init_42 (fun H locs h_13 fa_14 hW hs => ?_)
  have hT := hx_T_full hT hs tt_11
  replace f_4 := (hs.o gx trivial rfl).2.trans f_4
  replace f_8 := (hs.o gx trivial rfl).2.trans f_8
  replace f_10 := (hs.o gx trivial rfl).1.trans f_10
  replace f_12 := (hs.o gx trivial rfl).1.trans f_12
  replace hz := hx_zr [0, 1, 2, 3] hz hs gx trivial rfl
  replace npF0 : h_13.2.1 q_6 = pF0 := (funext fun j => (hs.a gq_6 rfl j).1).trans npF0
  replace hM := hM.tr (hs.mono (by decide))
  replace gx := gx.S hs
  replace gq_2 := gq_2.S hs
  replace gq_6 := gq_6.S hs
  obtain ⟨fw_15, nfw_15⟩ : ∃ g : Nat → Int32, h_13.2.1 q_2 = g := ⟨_, rfl⟩
  have wfw_15 : ∀ j, j < 14 → fw_15 j = P_wo j := fun j hj => by rw [← nfw_15]; exact fa_14 j hj
  refine lv_aload_n hx hb dX0_init_45 rfl (lv_at hl 0 rfl) ?_
  refine hk_getr hx hb hts hC_0 hown hW gx tt_116 3 (by decide) rfl kw_172 ⟨rfl, rfl, rfl⟩ f_8 dX0_init_46 ?_
  refine lv_iconst (v := 0) hx hb dX0_init_49 (by decide) ?_
  refine lv_iconst (v := 0) hx hb dX0_init_50 (by decide) ?_
  refine lv_iconst (v := 2) hx hb dX0_init_51 (by decide) ?_
  refine lv_iconst (v := 0) hx hb dX0_init_52 (by decide) ?_
  refine lv_iconst (v := 1) hx hb dX0_init_53 (by decide) ?_
  have zc_1 : (1 : Int32).toInt = 1 := by decide
  have zc_0 : (0 : Int32).toInt = 0 := by decide
  have zc_2 : (2 : Int32).toInt = 2 := by decide
  refine hx_goi (hx_runS (As := [.int (0 : Int32), .int (2 : Int32), .int (0 : Int32), .int (1 : Int32)]) (rest := [.int (0 : Int32), .ref q_6]) ⟨hx, hb, hml, hown, hts⟩ hW (t_X0_term_v l dC dI dA ((L ++ [q_2]) ++ [q_6]) h_13 H.size (0 : Int32) (2 : Int32) (0 : Int32) (1 : Int32) hT ⟨by omega, by omega⟩ ⟨by omega, by omega⟩ ⟨by omega, by omega⟩ ⟨by omega, by omega⟩) (va_cwS 4 hts (hx_gS kw_161 kw_159 kw_160 kw_96) rfl rfl rfl (by decide +kernel) ⟨Nat.le_of_ble_eq_true rfl, Nat.le_of_ble_eq_true rfl⟩) rfl hl.1 rfl (Nat.le_of_ble_eq_true rfl) dX0_init_54 ⟨Nat.le_of_ble_eq_true rfl, Nat.le_of_ble_eq_true rfl⟩) hW (fun r_18 L_16 h_17 H locs p_19 hW => ?_)
  obtain ⟨hr_20, hT, hs⟩ := p_19
  replace hT : hx_T T_tb L_16 h_17 := hT
  replace hs : hx_S T_tb [] ((L ++ [q_2]) ++ [q_6]) h_13 L_16 h_17 := hs
  replace f_4 := (hs.o gx trivial rfl).2.trans f_4
  replace f_8 := (hs.o gx trivial rfl).2.trans f_8
  replace f_10 := (hs.o gx trivial rfl).1.trans f_10
  replace f_12 := (hs.o gx trivial rfl).1.trans f_12
  replace hz := hx_zr [0, 1, 2, 3] hz hs gx trivial rfl
  replace npF0 : h_17.2.1 q_6 = pF0 := (funext fun j => (hs.a gq_6 rfl j).1).trans npF0
  replace nfw_15 : h_17.2.1 q_2 = fw_15 := (funext fun j => (hs.a gq_2 rfl j).1).trans nfw_15
  replace hM := hM.tr (hs.mono (by decide))
  replace gx := gx.S hs
  replace gq_2 := gq_2.S hs
  replace gq_6 := gq_6.S hs
  have npF0O := npF0
  refine hx_iast hx hb hW hT (hx_S.rf (M := [(12, 0)])) gq_6 tt_12 rfl (by decide) rfl (i32_r _) (List.mem_singleton.mpr rfl) dX0_init_57 (fun H locs h_21 eh_21 hW hT hs => ?_)
  replace f_4 := (hs.o gx trivial rfl).2.trans f_4
  replace f_8 := (hs.o gx trivial rfl).2.trans f_8
  replace f_10 := (hs.o gx trivial rfl).1.trans f_10
  replace f_12 := (hs.o gx trivial rfl).1.trans f_12
  replace hz := hx_zr [0, 1, 2, 3] hz hs gx trivial rfl
  replace nfw_15 : h_21.2.1 q_2 = fw_15 := (funext fun j => (hs.a gq_2 rfl j).1).trans nfw_15
  replace hM := hM.tr (hs.mono (by decide))
  replace gx := gx.S hs
  replace gq_2 := gq_2.S hs
  replace gq_6 := gq_6.S hs
  obtain ⟨fa_22, dfa_22⟩ : ∃ g : Nat → Int32, g = hx_up pF0 (0 : Int32).toNatClampNeg r_18 := ⟨_, rfl⟩
  have nfa_22 : h_21.2.1 q_6 = fa_22 := by rw [eh_21, dfa_22, ← npF0O]; exact hx_pi_fun _ _ _ _
  refine lv_aload_n hx hb dX0_init_58 rfl (lv_at hl 0 rfl) ?_
  refine hk_getr hx hb hts hC_0 hown hW gx tt_116 3 (by decide) rfl kw_172 ⟨rfl, rfl, rfl⟩ f_8 dX0_init_59 ?_
  refine lv_iconst (v := 1) hx hb dX0_init_62 (by decide) ?_
  refine lv_iconst (v := 1) hx hb dX0_init_63 (by decide) ?_
  refine lv_iconst (v := 2) hx hb dX0_init_64 (by decide) ?_
  refine lv_iconst (v := 0) hx hb dX0_init_65 (by decide) ?_
  refine lv_iconst (v := 0) hx hb dX0_init_66 (by decide) ?_
  refine hx_goi (hx_runS (As := [.int (1 : Int32), .int (2 : Int32), .int (0 : Int32), .int (0 : Int32)]) (rest := [.int (1 : Int32), .ref q_6]) ⟨hx, hb, hml, hown, hts⟩ hW (t_X0_term_v l dC dI dA L_16 h_21 H.size (1 : Int32) (2 : Int32) (0 : Int32) (0 : Int32) hT ⟨by omega, by omega⟩ ⟨by omega, by omega⟩ ⟨by omega, by omega⟩ ⟨by omega, by omega⟩) (va_cwS 4 hts (hx_gS kw_161 kw_159 kw_160 kw_96) rfl rfl rfl (by decide +kernel) ⟨Nat.le_of_ble_eq_true rfl, Nat.le_of_ble_eq_true rfl⟩) rfl hl.1 rfl (Nat.le_of_ble_eq_true rfl) dX0_init_67 ⟨Nat.le_of_ble_eq_true rfl, Nat.le_of_ble_eq_true rfl⟩) hW (fun r_25 L_23 h_24 H locs p_26 hW => ?_)
  obtain ⟨hr_27, hT, hs⟩ := p_26
  replace hT : hx_T T_tb L_23 h_24 := hT
  replace hs : hx_S T_tb [] L_16 h_21 L_23 h_24 := hs
  replace f_4 := (hs.o gx trivial rfl).2.trans f_4
  replace f_8 := (hs.o gx trivial rfl).2.trans f_8
  replace f_10 := (hs.o gx trivial rfl).1.trans f_10
  replace f_12 := (hs.o gx trivial rfl).1.trans f_12
  replace hz := hx_zr [0, 1, 2, 3] hz hs gx trivial rfl
  replace nfw_15 : h_24.2.1 q_2 = fw_15 := (funext fun j => (hs.a gq_2 rfl j).1).trans nfw_15
  replace nfa_22 : h_24.2.1 q_6 = fa_22 := (funext fun j => (hs.a gq_6 rfl j).1).trans nfa_22
  replace hM := hM.tr (hs.mono (by decide))
  replace gx := gx.S hs
  replace gq_2 := gq_2.S hs
  replace gq_6 := gq_6.S hs
  have nfa_22O := nfa_22
  refine hx_iast hx hb hW hT (hx_S.rf (M := [(12, 0)])) gq_6 tt_12 rfl (by decide) rfl (i32_r _) (List.mem_singleton.mpr rfl) dX0_init_70 (fun H locs h_28 eh_28 hW hT hs => ?_)
  replace f_4 := (hs.o gx trivial rfl).2.trans f_4
  replace f_8 := (hs.o gx trivial rfl).2.trans f_8
  replace f_10 := (hs.o gx trivial rfl).1.trans f_10
  replace f_12 := (hs.o gx trivial rfl).1.trans f_12
  replace hz := hx_zr [0, 1, 2, 3] hz hs gx trivial rfl
  replace nfw_15 : h_28.2.1 q_2 = fw_15 := (funext fun j => (hs.a gq_2 rfl j).1).trans nfw_15
  replace hM := hM.tr (hs.mono (by decide))
  replace gx := gx.S hs
  replace gq_2 := gq_2.S hs
  replace gq_6 := gq_6.S hs
  obtain ⟨fa_29, dfa_29⟩ : ∃ g : Nat → Int32, g = hx_up fa_22 (1 : Int32).toNatClampNeg r_25 := ⟨_, rfl⟩
  have nfa_29 : h_28.2.1 q_6 = fa_29 := by rw [eh_28, dfa_29, ← nfa_22O]; exact hx_pi_fun _ _ _ _
  refine lv_aload_n hx hb dX0_init_71 rfl (lv_at hl 0 rfl) ?_
  refine hk_getr hx hb hts hC_0 hown hW gx tt_116 3 (by decide) rfl kw_172 ⟨rfl, rfl, rfl⟩ f_8 dX0_init_72 ?_
  refine lv_iconst (v := 2) hx hb dX0_init_75 (by decide) ?_
  refine lv_iconst (v := -1) hx hb dX0_init_76 (by decide) ?_
  have nfa_29O := nfa_29
  refine hx_iast hx hb hW hT (hx_S.rf (M := [(12, 0)])) gq_6 tt_12 rfl (by decide) rfl (by decide) (List.mem_singleton.mpr rfl) dX0_init_77 (fun H locs h_30 eh_30 hW hT hs => ?_)
  replace f_4 := (hs.o gx trivial rfl).2.trans f_4
  replace f_8 := (hs.o gx trivial rfl).2.trans f_8
  replace f_10 := (hs.o gx trivial rfl).1.trans f_10
  replace f_12 := (hs.o gx trivial rfl).1.trans f_12
  replace hz := hx_zr [0, 1, 2, 3] hz hs gx trivial rfl
  replace nfw_15 : h_30.2.1 q_2 = fw_15 := (funext fun j => (hs.a gq_2 rfl j).1).trans nfw_15
  replace hM := hM.tr (hs.mono (by decide))
  replace gx := gx.S hs
  replace gq_2 := gq_2.S hs
  replace gq_6 := gq_6.S hs
  obtain ⟨fa_31, dfa_31⟩ : ∃ g : Nat → Int32, g = hx_up fa_29 (2 : Int32).toNatClampNeg (-1 : Int32) := ⟨_, rfl⟩
  have nfa_31 : h_30.2.1 q_6 = fa_31 := by rw [eh_30, dfa_31, ← nfa_29O]; exact hx_pi_fun _ _ _ _
  refine lv_aload_n hx hb dX0_init_78 rfl (lv_at hl 0 rfl) ?_
  refine lv_iconst (v := 3) hx hb dX0_init_79 (by decide) ?_
  refine hx_puti hx hb hts hC_0 hown hW hT (hx_S.rf (M := [(116, 4)])) gx tt_116 4 (by decide) rfl kw_173 ⟨rfl, rfl, rfl⟩ rfl (x := (3 : Int32)) (by decide) rfl rfl rfl (List.mem_singleton.mpr rfl) dX0_init_80 (fun H locs h_32 eh_32 hW hT hs => ?_)
  replace f_4 := (hs.o gx trivial rfl).2.trans f_4
  replace f_8 := (hs.o gx trivial rfl).2.trans f_8
  replace f_10 := (hs.o gx trivial rfl).1.trans f_10
  replace f_12 := (hs.o gx trivial rfl).1.trans f_12
  replace hz := hx_zr [0, 1, 2, 3, 4] hz hs gx trivial rfl
  replace nfw_15 : h_32.2.1 q_2 = fw_15 := (funext fun j => (hs.a gq_2 rfl j).1).trans nfw_15
  replace nfa_31 : h_32.2.1 q_6 = fa_31 := (funext fun j => (hs.a gq_6 rfl j).1).trans nfa_31
  replace hM := hM.tr (hs.mono (by decide))
  replace gx := gx.S hs
  replace gq_2 := gq_2.S hs
  replace gq_6 := gq_6.S hs
  have f_33 : h_32.2.1 x 4 = (3 : Int32) := by rw [eh_32]; exact hx_pi_at _ _ _ _
  have hF : hx_F (fun k f => hx_o L_23 h_32 f (h_32.2.1 x k) (h_32.2.2 x k)) T_f0 0 := ⟨hx_oi f_10 ⟨by omega, by omega⟩, hx_oi f_12 ⟨by omega, by omega⟩, hx_or f_4 gq_2 (by decide), hx_or f_8 gq_6 (by decide), hx_oi f_33 (by decide), trivial⟩
  have hT := hx_T_rt hT gx tt_0 rfl (hx_F_all hF)
  have hW := hx_W_rt hW gx tt_116 tt_0 (fun _ _ => rfl)
  have hM := hx_SX_rt (x := x) (t := 0) hM
  have gq_2 := hx_rt_o (t := 0) gq_2 (gq_2.ne gx (by decide))
  have gq_6 := hx_rt_o (t := 0) gq_6 (gq_6.ne gx (by decide))
  have gx := hx_rt_g (t := 0) gx
  have f_4 : (hx_rt h_32 x 0).2.2 x 2 = some q_2 := f_4
  have f_8 : (hx_rt h_32 x 0).2.2 x 3 = some q_6 := f_8
  have f_10 : (hx_rt h_32 x 0).2.1 x 0 = i1 := f_10
  have f_12 : (hx_rt h_32 x 0).2.1 x 1 = i2 := f_12
  have f_33 : (hx_rt h_32 x 0).2.1 x 4 = (3 : Int32) := f_33
  have nfw_15 : (hx_rt h_32 x 0).2.1 q_2 = fw_15 := nfw_15
  have nfa_31 : (hx_rt h_32 x 0).2.1 q_6 = fa_31 := nfa_31
  generalize eh : hx_rt h_32 x 0 = h_34 at hT hW hM gx gq_2 gq_6 f_4 f_8 f_10 f_12 f_33 nfw_15 nfa_31
  refine W.widen (k := 2) (n := 174) (Nat.le_of_ble_eq_true rfl) (Nat.le_of_ble_eq_true rfl) ?_
  exact hx_retv hx hb hr hlk hW ⟨hT, hM, gx, f_10, f_12, f_33, ⟨q_2, f_4, gq_2, ⟨(fun j hj => by rw [nfw_15]; exact wfw_15 j hj), nq_q_2⟩⟩, ⟨q_6, f_8, gq_6, ⟨(by rw [nfa_31, dfa_31, dfa_29, dfa_22]; exact hv_pr0 (by omega) (by omega) (by decide)), nq_q_6⟩⟩⟩ dX0_init_83


set_option maxHeartbeats 4000000 in
set_option maxRecDepth 100000 in
theorem t_X9_init_w (l : Launch) (dC : Nat → ClassId) (dI : Nat → Nat → Nat) (dA : Nat → ClassId) (L : List Nat) (h : hx_h) (sz : Nat) (b0 : hx_z) (x : Nat) (hT : hx_T T_tb L h) (gx : hx_g L h x 125) (hz : ∀ j, h.2.1 x j = 0 ∧ h.2.2 x j = none) : Met l yX9_init (Cond.code yX9_init cX9_init 1 none :: hx_all) ({ frames := 2, cells := 43, slots := 10614, locals := 62 }) (va_Pc [.ref x] (hx_BX T_tb (P_ty dA) (dC, dI) vwCl L h sz b0)) (va_Qv (fun (u : List Nat × hx_h) => hx_T T_tb u.1 u.2 ∧ hx_S T_tb [(11, 0), (12, 0), (116, 0), (116, 1), (116, 2), (116, 3), (116, 4), (117, 1), (117, 2), (117, 3), (117, 4), (117, 5), (117, 6), (117, 7), (119, 1), (119, 2), (119, 3), (119, 4), (119, 5), (121, 2), (121, 3), (121, 4), (121, 5), (121, 6), (121, 7), (121, 8), (122, 0), (123, 0), (123, 3), (123, 5), (123, 6), (123, 7), (124, 2), (124, 3), (124, 4), (125, 0), (125, 3), (125, 4), (125, 5), (125, 7), (125, 9), (125, 10), (125, 12), (125, 14), (125, 15), (125, 16), (125, 17), (125, 18), (125, 19)] (hx_X L x) h u.1 u.2 ∧ hx_g u.1 u.2 x 9 ∧ u.2.2.1 x 2 = 0 ∧ u.2.2.1 x 6 = 0 ∧ u.2.2.1 x 8 = 0 ∧ u.2.2.1 x 11 = 0 ∧ u.2.2.1 x 13 = 0 ∧ (∃ q, u.2.2.2 x 19 = some q ∧ hx_g u.1 u.2 q 8 ∧ u.2.2.1 q 0 = 0 ∧ u.2.2.1 q 1 = 0 ∧ ∃ w, u.2.2.2 q 3 = some w ∧ hx_g u.1 u.2 w 40 ∧ ∀ j, u.2.2.1 w j = 0 ∧ u.2.2.2 w j = none) ∧ (∃ q, u.2.2.2 x 9 = some q ∧ hx_g u.1 u.2 q 1 ∧ u.2.2.1 q 0 = 0) ∧ (∃ q, u.2.2.2 x 7 = some q ∧ hx_g u.1 u.2 q 44 ∧ ∀ j, u.2.2.1 q j = 0 ∧ u.2.2.2 q j = none) ∧ (∃ q, u.2.2.2 x 10 = some q ∧ hx_g u.1 u.2 q 45 ∧ ∀ j, u.2.2.1 q j = 0 ∧ u.2.2.2 q j = none) ∧ u.2.2.1 x 1 = 0 ∧ (∃ q, u.2.2.2 x 0 = some q ∧ hx_g u.1 u.2 q 42 ∧ ∀ j, u.2.2.1 q j = 0 ∧ u.2.2.2 q j = none) ∧ (∃ q, u.2.2.2 x 4 = some q ∧ hx_g u.1 u.2 q 0 ∧ hv_AQ u.2 q (-1) hv_A0)) (hx_E T_tb (P_ty dA) (dC, dI) vwCl (hx_A L sz)) (hx_A L sz)) 43 10614 (hx_A L sz) := by
  refine hx_metX (lv := [(0, .ref x)]) (by decide +kernel) rfl (Nat.le_of_ble_eq_true rfl) rfl ?_
  intro p e s m below meth c hx hb hml hr hlk hts0 hown hin hsz hW hZ ls hl
  have hts : ∀ w ∈ hx_all, w.before _ s = true := fun w hw => hts0 w (List.mem_cons_of_mem _ hw)
  have hown : s.vm.findClass "SmallCourt" = some m.cls := hown
  have hin : meth.name = "<init>" := hin
  have hM : hx_S T_tb [(11, 0), (12, 0), (116, 0), (116, 1), (116, 2), (116, 3), (116, 4), (117, 1), (117, 2), (117, 3), (117, 4), (117, 5), (117, 6), (117, 7), (119, 1), (119, 2), (119, 3), (119, 4), (119, 5), (121, 2), (121, 3), (121, 4), (121, 5), (121, 6), (121, 7), (121, 8), (122, 0), (123, 0), (123, 3), (123, 5), (123, 6), (123, 7), (124, 2), (124, 3), (124, 4), (125, 0), (125, 3), (125, 4), (125, 5), (125, 7), (125, 9), (125, 10), (125, 12), (125, 14), (125, 15), (125, 16), (125, 17), (125, 18), (125, 19)] (hx_X L x) h L h := hx_SX_rf
  have hz : ∀ j, ([] : List Nat).contains j = false → h.2.1 x j = 0 ∧ h.2.2 x j = none := fun j _ => hz j
  refine lv_aload_n hx hb dX9_init_0 rfl (lv_at hl 0 rfl) ?_
  refine W.objInit hx hb hown (hts _ kw_116) (hts _ kw_117) (hts _ kw_118) rfl (by rw [hml]; exact hl.1) rfl dX9_init_1 (Nat.le_of_ble_eq_true rfl) (Nat.le_of_ble_eq_true rfl) ?_
  refine W.eq (g2 := F0 m 4 ls []) rfl ?_
  refine lv_aload_n hx hb dX9_init_4 rfl (lv_at hl 0 rfl) ?_
  refine lv_sipush (v := 400) hx hb dX9_init_5 (by decide) ?_
  refine hk_newa hx hb hts hW 42 tt_42 (atype := .byte) rfl kw_147 (tys := P_ty dA) (t0 := 1) rfl (fun _ => Iff.rfl) rfl (i := (400 : Int32)) (by decide) (Nat.le_of_ble_eq_true rfl) (Nat.le_of_ble_eq_true rfl) (Nat.le_of_ble_eq_true rfl) dX9_init_8 (fun q_2 H h_1 eh_1 hqq_2 hW hs gq_2 => ?_)
  have nq_q_2 : ∀ a ∈ (hx_X L x), a ≠ q_2 := fun a ha z => hqq_2 (z ▸ (hM.1 a ha).1)
  have hT : hx_T T_tb (L ++ [q_2]) h_1 := by rw [eh_1]; exact hx_T_nw hT hqq_2 tt_42 rfl
  replace hz := hx_zr [] hz hs gx trivial rfl
  replace hM := hM.tr (hs.mono (by decide))
  replace gx := gx.S hs
  have za_3 : ∀ j, h_1.2.1 q_2 j = 0 ∧ h_1.2.2 q_2 j = none := by rw [eh_1]; exact fun _ => ⟨hx_nw_i, hx_nw_r⟩
  refine hx_putrF hx hb hts hC_9 hown hW hT (hx_S.rf (M := [(125, 0)])) gx tt_125 0 (by decide) rfl kw_364 ⟨rfl, rfl, rfl⟩ rfl hin rfl (x := (some q_2)) ⟨fun _ z => (by cases z), fun q hq => (by cases hq; exact ⟨gq_2.1, by rw [gq_2.2]; decide⟩)⟩ rfl rfl rfl (List.mem_singleton.mpr rfl) dX9_init_10 (fun H locs h_4 eh_4 hW hT hs => ?_)
  replace hz := hx_zr [0] hz hs gx trivial rfl
  replace za_3 : ∀ j, h_4.2.1 q_2 j = 0 ∧ h_4.2.2 q_2 j = none := fun j => ⟨(hs.a gq_2 rfl j).1.trans (za_3 j).1, (hs.a gq_2 rfl j).2.trans (za_3 j).2⟩
  replace hM := hM.tr (hs.mono (by decide))
  replace gx := gx.S hs
  replace gq_2 := gq_2.S hs
  have f_5 : h_4.2.2 x 0 = (some q_2) := by rw [eh_4]; exact hx_pr_at _ _ _ _
  refine lv_aload_n hx hb dX9_init_13 rfl (lv_at hl 0 rfl) ?_
  refine hk_new hx hb hts hC_6 hown hW 122 tt_122 rfl (by decide) kw_119 kw_120 kw_95 (Nat.le_of_ble_eq_true rfl) (Nat.le_of_ble_eq_true rfl) dX9_init_14 (fun q_7 H h_6 eh_6 hqq_7 hW hs gq_7 => ?_)
  have nq_q_7 : ∀ a ∈ (hx_X L x), a ≠ q_7 := fun a ha z => hqq_7 (z ▸ (hM.1 a ha).1)
  have hT : hx_T T_tb ((L ++ [q_2]) ++ [q_7]) h_6 := by rw [eh_6]; exact hx_T_nw hT hqq_7 tt_122 rfl
  replace f_5 := (hs.o gx trivial rfl).2.trans f_5
  replace hz := hx_zr [0] hz hs gx trivial rfl
  replace za_3 : ∀ j, h_6.2.1 q_2 j = 0 ∧ h_6.2.2 q_2 j = none := fun j => ⟨(hs.a gq_2 rfl j).1.trans (za_3 j).1, (hs.a gq_2 rfl j).2.trans (za_3 j).2⟩
  replace hM := hM.tr (hs.mono (by decide))
  replace gx := gx.S hs
  replace gq_2 := gq_2.S hs
  have fz_8 : ∀ j, ([] : List Nat).contains j = false → h_6.2.1 q_7 j = 0 ∧ h_6.2.2 q_7 j = none := by rw [eh_6]; exact fun _ _ => ⟨hx_nw_i, hx_nw_r⟩
  refine lv_dup hx hb dX9_init_17 rfl ?_
  refine hx_gov (hx_runIN (As := []) (rest := [.ref q_7, .ref x]) ⟨hx, hb, hml, hown, hts⟩ hW (t_X6_init l dC dI dA ((L ++ [q_2]) ++ [q_7]) h_6 H.size q_7 hT gq_7 (fun j => fz_8 j rfl)) ⟨va_cnB 0 hts (hx_gC kw_123) rfl rfl rfl (hZ.1 _ (List.mem_of_getElem? (i := 0) rfl)) (hts _ kw_95) (by decide +kernel) ⟨Nat.le_of_ble_eq_true rfl, Nat.le_of_ble_eq_true rfl⟩, rfl, hts _ kw_122⟩ rfl hl.1 rfl (Nat.le_of_ble_eq_true rfl) dX9_init_18 ⟨Nat.le_of_ble_eq_true rfl, Nat.le_of_ble_eq_true rfl⟩) hW (fun L_9 h_10 H locs p_12 hW => ?_)
  obtain ⟨hT, hs, gNq_7⟩ := p_12
  replace hT : hx_T T_tb L_9 h_10 := hT
  replace hs : hx_S T_tb [(122, 0)] (hx_X ((L ++ [q_2]) ++ [q_7]) q_7) h_6 L_9 h_10 := hs
  have gx := hx_gX gx (gx.ne gq_7 (by decide))
  have gq_2 := hx_gX gq_2 (gq_2.ne gq_7 (by decide))
  replace f_5 := (hs.o gx trivial rfl).2.trans f_5
  replace hz := hx_zr [0] hz hs gx trivial rfl
  replace za_3 : ∀ j, h_10.2.1 q_2 j = 0 ∧ h_10.2.2 q_2 j = none := fun j => ⟨(hs.a gq_2 rfl j).1.trans (za_3 j).1, (hs.a gq_2 rfl j).2.trans (za_3 j).2⟩
  replace hM := hM.trX (hs.mono (by decide)) nq_q_7
  replace gx := gx.S hs
  replace gq_2 := gq_2.S hs
  have gq_7 : hx_g L_9 h_10 q_7 6 := gNq_7
  refine hx_putrF hx hb hts hC_9 hown hW hT (hx_S.rf (M := [(125, 3)])) gx tt_125 3 (by decide) rfl kw_367 ⟨rfl, rfl, rfl⟩ rfl hin rfl (x := (some q_7)) ⟨fun _ z => (by cases z), fun q hq => (by cases hq; exact ⟨gq_7.1, by rw [gq_7.2]; decide⟩)⟩ rfl rfl rfl (List.mem_singleton.mpr rfl) dX9_init_21 (fun H locs h_13 eh_13 hW hT hs => ?_)
  replace f_5 := (hs.o gx trivial rfl).2.trans f_5
  replace hz := hx_zr [0, 3] hz hs gx trivial rfl
  replace za_3 : ∀ j, h_13.2.1 q_2 j = 0 ∧ h_13.2.2 q_2 j = none := fun j => ⟨(hs.a gq_2 rfl j).1.trans (za_3 j).1, (hs.a gq_2 rfl j).2.trans (za_3 j).2⟩
  replace hM := hM.tr (hs.mono (by decide))
  replace gx := gx.S hs
  replace gq_2 := gq_2.S hs
  replace gq_7 := gq_7.S hs
  have f_14 : h_13.2.2 x 3 = (some q_7) := by rw [eh_13]; exact hx_pr_at _ _ _ _
  refine lv_aload_n hx hb dX9_init_24 rfl (lv_at hl 0 rfl) ?_
  refine hk_new hx hb hts hC_0 hown hW 116 tt_116 rfl (by decide) kw_148 kw_149 kw_96 (Nat.le_of_ble_eq_true rfl) (Nat.le_of_ble_eq_true rfl) dX9_init_25 (fun q_16 H h_15 eh_15 hqq_16 hW hs gq_16 => ?_)
  have nq_q_16 : ∀ a ∈ (hx_X L x), a ≠ q_16 := fun a ha z => hqq_16 (z ▸ (hM.1 a ha).1)
  have hT : hx_T T_tb (L_9 ++ [q_16]) h_15 := by rw [eh_15]; exact hx_T_nw hT hqq_16 tt_116 rfl
  replace f_5 := (hs.o gx trivial rfl).2.trans f_5
  replace f_14 := (hs.o gx trivial rfl).2.trans f_14
  replace hz := hx_zr [0, 3] hz hs gx trivial rfl
  replace za_3 : ∀ j, h_15.2.1 q_2 j = 0 ∧ h_15.2.2 q_2 j = none := fun j => ⟨(hs.a gq_2 rfl j).1.trans (za_3 j).1, (hs.a gq_2 rfl j).2.trans (za_3 j).2⟩
  replace hM := hM.tr (hs.mono (by decide))
  replace gx := gx.S hs
  replace gq_2 := gq_2.S hs
  replace gq_7 := gq_7.S hs
  have fz_17 : ∀ j, ([] : List Nat).contains j = false → h_15.2.1 q_16 j = 0 ∧ h_15.2.2 q_16 j = none := by rw [eh_15]; exact fun _ _ => ⟨hx_nw_i, hx_nw_r⟩
  refine lv_dup hx hb dX9_init_28 rfl ?_
  refine lv_iconst (v := -1) hx hb dX9_init_29 (by decide) ?_
  refine lv_iconst (v := -1) hx hb dX9_init_30 (by decide) ?_
  have zc_m1 : (-1 : Int32).toInt = -1 := by decide
  refine hx_gov (hx_runIX (As := [.int (-1 : Int32), .int (-1 : Int32)]) (rest := [.ref q_16, .ref x]) ⟨hx, hb, hml, hown, hts⟩ hW (t_X0_init_w l dC dI dA (L_9 ++ [q_16]) h_15 H.size b0 q_16 (-1 : Int32) (-1 : Int32) hT gq_16 (fun j => fz_17 j rfl) (by decide) (by decide)) hZ (cwI 2 hts (hx_gC kw_152) rfl rfl rfl (hts _ kw_96) (hts _ kw_150) (hts _ kw_151) rfl (by decide +kernel) ⟨Nat.le_of_ble_eq_true rfl, Nat.le_of_ble_eq_true rfl⟩) rfl hl.1 rfl (Nat.le_of_ble_eq_true rfl) dX9_init_31 ⟨Nat.le_of_ble_eq_true rfl, Nat.le_of_ble_eq_true rfl⟩) hW (fun L_18 h_19 H locs p_21 hW => ?_)
  obtain ⟨hT, hs, gNq_16, po_22, po_23, po_24, po_25, po_26⟩ := p_21
  replace hT : hx_T T_tb L_18 h_19 := hT
  replace hs : hx_S T_tb [(11, 0), (12, 0), (116, 0), (116, 1), (116, 2), (116, 3), (116, 4)] (hx_X (L_9 ++ [q_16]) q_16) h_15 L_18 h_19 := hs
  have gx := hx_gX gx (gx.ne gq_16 (by decide))
  have gq_2 := hx_gX gq_2 (gq_2.ne gq_16 (by decide))
  have gq_7 := hx_gX gq_7 (gq_7.ne gq_16 (by decide))
  replace f_5 := (hs.o gx trivial rfl).2.trans f_5
  replace f_14 := (hs.o gx trivial rfl).2.trans f_14
  replace hz := hx_zr [0, 3] hz hs gx trivial rfl
  replace za_3 : ∀ j, h_19.2.1 q_2 j = 0 ∧ h_19.2.2 q_2 j = none := fun j => ⟨(hs.a gq_2 rfl j).1.trans (za_3 j).1, (hs.a gq_2 rfl j).2.trans (za_3 j).2⟩
  replace hM := hM.trX (hs.mono (by decide)) nq_q_16
  replace gx := gx.S hs
  replace gq_2 := gq_2.S hs
  replace gq_7 := gq_7.S hs
  have gq_16 : hx_g L_18 h_19 q_16 0 := gNq_16
  have po_22 : h_19.2.1 q_16 0 = (-1 : Int32) := po_22
  have po_23 : h_19.2.1 q_16 1 = (-1 : Int32) := po_23
  have po_24 : h_19.2.1 q_16 4 = 3 := po_24
  obtain ⟨q_27, fq_27, gq_27, po_25⟩ := po_25
  have fq_27 : h_19.2.2 q_16 2 = some q_27 := fq_27
  have gq_27 : hx_g L_18 h_19 q_27 11 := gq_27
  obtain ⟨po_25, po_25N⟩ := po_25
  have po_25 : (∀ j, j < 14 → h_19.2.1 q_27 j = P_wo j) := po_25
  have po_25N : ∀ a ∈ hx_X (L_9 ++ [q_16]) q_16, a ≠ q_27 := po_25N
  obtain ⟨fw_28, nfw_28⟩ : ∃ g : Nat → Int32, h_19.2.1 q_27 = g := ⟨_, rfl⟩
  rw [nfw_28] at po_25
  obtain ⟨q_29, fq_29, gq_29, po_26⟩ := po_26
  have fq_29 : h_19.2.2 q_16 3 = some q_29 := fq_29
  have gq_29 : hx_g L_18 h_19 q_29 12 := gq_29
  obtain ⟨po_26, po_26N⟩ := po_26
  have po_26 : ((h_19.2.1 q_29 0).toInt = 144 ∧ (h_19.2.1 q_29 1).toInt = 17 ∧ (h_19.2.1 q_29 2).toInt = -1) := po_26
  have po_26N : ∀ a ∈ hx_X (L_9 ++ [q_16]) q_16, a ≠ q_29 := po_26N
  obtain ⟨fw_30, nfw_30⟩ : ∃ g : Nat → Int32, h_19.2.1 q_29 = g := ⟨_, rfl⟩
  rw [nfw_30] at po_26
  refine hx_putrF hx hb hts hC_9 hown hW hT (hx_S.rf (M := [(125, 4)])) gx tt_125 4 (by decide) rfl kw_368 ⟨rfl, rfl, rfl⟩ rfl hin rfl (x := (some q_16)) ⟨fun _ z => (by cases z), fun q hq => (by cases hq; exact ⟨gq_16.1, by rw [gq_16.2]; decide⟩)⟩ rfl rfl rfl (List.mem_singleton.mpr rfl) dX9_init_34 (fun H locs h_31 eh_31 hW hT hs => ?_)
  replace f_5 := (hs.o gx trivial rfl).2.trans f_5
  replace f_14 := (hs.o gx trivial rfl).2.trans f_14
  replace po_22 := (hs.o gq_16 trivial rfl).1.trans po_22
  replace po_23 := (hs.o gq_16 trivial rfl).1.trans po_23
  replace po_24 := (hs.o gq_16 trivial rfl).1.trans po_24
  replace fq_27 := (hs.o gq_16 trivial rfl).2.trans fq_27
  replace fq_29 := (hs.o gq_16 trivial rfl).2.trans fq_29
  replace hz := hx_zr [0, 3, 4] hz hs gx trivial rfl
  replace za_3 : ∀ j, h_31.2.1 q_2 j = 0 ∧ h_31.2.2 q_2 j = none := fun j => ⟨(hs.a gq_2 rfl j).1.trans (za_3 j).1, (hs.a gq_2 rfl j).2.trans (za_3 j).2⟩
  replace nfw_28 : h_31.2.1 q_27 = fw_28 := (funext fun j => (hs.a gq_27 rfl j).1).trans nfw_28
  replace nfw_30 : h_31.2.1 q_29 = fw_30 := (funext fun j => (hs.a gq_29 rfl j).1).trans nfw_30
  replace hM := hM.tr (hs.mono (by decide))
  replace gx := gx.S hs
  replace gq_2 := gq_2.S hs
  replace gq_7 := gq_7.S hs
  replace gq_16 := gq_16.S hs
  replace gq_27 := gq_27.S hs
  replace gq_29 := gq_29.S hs
  have f_32 : h_31.2.2 x 4 = (some q_16) := by rw [eh_31]; exact hx_pr_at _ _ _ _
  refine lv_aload_n hx hb dX9_init_37 rfl (lv_at hl 0 rfl) ?_
  refine lv_bipush (v := 8) hx hb dX9_init_38 (by decide) ?_
  refine hk_newqX hx hb hts hown hW 43 tt_43 kw_148 hZ.2.1.1 (tys := P_ty dA) (t0 := 4) rfl (i := (8 : Int32)) (by decide) (Nat.le_of_ble_eq_true rfl) (Nat.le_of_ble_eq_true rfl) (Nat.le_of_ble_eq_true rfl) dX9_init_40 (fun q_34 H h_33 eh_33 hqq_34 hW hs gq_34 => ?_)
  have nq_q_34 : ∀ a ∈ (hx_X L x), a ≠ q_34 := fun a ha z => hqq_34 (z ▸ (hM.1 a ha).1)
  have hT : hx_T T_tb (L_18 ++ [q_34]) h_33 := by rw [eh_33]; exact hx_T_nw hT hqq_34 tt_43 rfl
  replace f_5 := (hs.o gx trivial rfl).2.trans f_5
  replace f_14 := (hs.o gx trivial rfl).2.trans f_14
  replace po_22 := (hs.o gq_16 trivial rfl).1.trans po_22
  replace po_23 := (hs.o gq_16 trivial rfl).1.trans po_23
  replace po_24 := (hs.o gq_16 trivial rfl).1.trans po_24
  replace fq_27 := (hs.o gq_16 trivial rfl).2.trans fq_27
  replace fq_29 := (hs.o gq_16 trivial rfl).2.trans fq_29
  replace f_32 := (hs.o gx trivial rfl).2.trans f_32
  replace hz := hx_zr [0, 3, 4] hz hs gx trivial rfl
  replace za_3 : ∀ j, h_33.2.1 q_2 j = 0 ∧ h_33.2.2 q_2 j = none := fun j => ⟨(hs.a gq_2 rfl j).1.trans (za_3 j).1, (hs.a gq_2 rfl j).2.trans (za_3 j).2⟩
  replace nfw_28 : h_33.2.1 q_27 = fw_28 := (funext fun j => (hs.a gq_27 rfl j).1).trans nfw_28
  replace nfw_30 : h_33.2.1 q_29 = fw_30 := (funext fun j => (hs.a gq_29 rfl j).1).trans nfw_30
  replace hM := hM.tr (hs.mono (by decide))
  replace gx := gx.S hs
  replace gq_2 := gq_2.S hs
  replace gq_7 := gq_7.S hs
  replace gq_16 := gq_16.S hs
  replace gq_27 := gq_27.S hs
  replace gq_29 := gq_29.S hs
  refine hx_putrF hx hb hts hC_9 hown hW hT (hx_S.rf (M := [(125, 5)])) gx tt_125 5 (by decide) rfl kw_369 ⟨rfl, rfl, rfl⟩ rfl hin rfl (x := (some q_34)) ⟨fun _ z => (by cases z), fun q hq => (by cases hq; exact ⟨gq_34.1, by rw [gq_34.2]; decide⟩)⟩ rfl rfl rfl (List.mem_singleton.mpr rfl) dX9_init_43 (fun H locs h_35 eh_35 hW hT hs => ?_)
  replace f_5 := (hs.o gx trivial rfl).2.trans f_5
  replace f_14 := (hs.o gx trivial rfl).2.trans f_14
  replace po_22 := (hs.o gq_16 trivial rfl).1.trans po_22
  replace po_23 := (hs.o gq_16 trivial rfl).1.trans po_23
  replace po_24 := (hs.o gq_16 trivial rfl).1.trans po_24
  replace fq_27 := (hs.o gq_16 trivial rfl).2.trans fq_27
  replace fq_29 := (hs.o gq_16 trivial rfl).2.trans fq_29
  replace f_32 := (hs.o gx trivial rfl).2.trans f_32
  replace hz := hx_zr [0, 3, 4, 5] hz hs gx trivial rfl
  replace za_3 : ∀ j, h_35.2.1 q_2 j = 0 ∧ h_35.2.2 q_2 j = none := fun j => ⟨(hs.a gq_2 rfl j).1.trans (za_3 j).1, (hs.a gq_2 rfl j).2.trans (za_3 j).2⟩
  replace nfw_28 : h_35.2.1 q_27 = fw_28 := (funext fun j => (hs.a gq_27 rfl j).1).trans nfw_28
  replace nfw_30 : h_35.2.1 q_29 = fw_30 := (funext fun j => (hs.a gq_29 rfl j).1).trans nfw_30
  replace hM := hM.tr (hs.mono (by decide))
  replace gx := gx.S hs
  replace gq_2 := gq_2.S hs
  replace gq_7 := gq_7.S hs
  replace gq_16 := gq_16.S hs
  replace gq_27 := gq_27.S hs
  replace gq_29 := gq_29.S hs
  replace gq_34 := gq_34.S hs
  have f_36 : h_35.2.2 x 5 = (some q_34) := by rw [eh_35]; exact hx_pr_at _ _ _ _
  refine lv_aload_n hx hb dX9_init_46 rfl (lv_at hl 0 rfl) ?_
  refine lv_bipush (v := 40) hx hb dX9_init_47 (by decide) ?_
  refine hk_newqX hx hb hts hown hW 44 tt_44 kw_188 hZ.2.1.2.1 (tys := P_ty dA) (t0 := 5) rfl (i := (40 : Int32)) (by decide) (Nat.le_of_ble_eq_true rfl) (Nat.le_of_ble_eq_true rfl) (Nat.le_of_ble_eq_true rfl) dX9_init_49 (fun q_38 H h_37 eh_37 hqq_38 hW hs gq_38 => ?_)
  have nq_q_38 : ∀ a ∈ (hx_X L x), a ≠ q_38 := fun a ha z => hqq_38 (z ▸ (hM.1 a ha).1)
  have hT : hx_T T_tb ((L_18 ++ [q_34]) ++ [q_38]) h_37 := by rw [eh_37]; exact hx_T_nw hT hqq_38 tt_44 rfl
  replace f_5 := (hs.o gx trivial rfl).2.trans f_5
  replace f_14 := (hs.o gx trivial rfl).2.trans f_14
  replace po_22 := (hs.o gq_16 trivial rfl).1.trans po_22
  replace po_23 := (hs.o gq_16 trivial rfl).1.trans po_23
  replace po_24 := (hs.o gq_16 trivial rfl).1.trans po_24
  replace fq_27 := (hs.o gq_16 trivial rfl).2.trans fq_27
  replace fq_29 := (hs.o gq_16 trivial rfl).2.trans fq_29
  replace f_32 := (hs.o gx trivial rfl).2.trans f_32
  replace f_36 := (hs.o gx trivial rfl).2.trans f_36
  replace hz := hx_zr [0, 3, 4, 5] hz hs gx trivial rfl
  replace za_3 : ∀ j, h_37.2.1 q_2 j = 0 ∧ h_37.2.2 q_2 j = none := fun j => ⟨(hs.a gq_2 rfl j).1.trans (za_3 j).1, (hs.a gq_2 rfl j).2.trans (za_3 j).2⟩
  replace nfw_28 : h_37.2.1 q_27 = fw_28 := (funext fun j => (hs.a gq_27 rfl j).1).trans nfw_28
  replace nfw_30 : h_37.2.1 q_29 = fw_30 := (funext fun j => (hs.a gq_29 rfl j).1).trans nfw_30
  replace hM := hM.tr (hs.mono (by decide))
  replace gx := gx.S hs
  replace gq_2 := gq_2.S hs
  replace gq_7 := gq_7.S hs
  replace gq_16 := gq_16.S hs
  replace gq_27 := gq_27.S hs
  replace gq_29 := gq_29.S hs
  replace gq_34 := gq_34.S hs
  have za_39 : ∀ j, h_37.2.1 q_38 j = 0 ∧ h_37.2.2 q_38 j = none := by rw [eh_37]; exact fun _ => ⟨hx_nw_i, hx_nw_r⟩
  refine hx_putrF hx hb hts hC_9 hown hW hT (hx_S.rf (M := [(125, 7)])) gx tt_125 7 (by decide) rfl kw_371 ⟨rfl, rfl, rfl⟩ rfl hin rfl (x := (some q_38)) ⟨fun _ z => (by cases z), fun q hq => (by cases hq; exact ⟨gq_38.1, by rw [gq_38.2]; decide⟩)⟩ rfl rfl rfl (List.mem_singleton.mpr rfl) dX9_init_52 (fun H locs h_40 eh_40 hW hT hs => ?_)
  replace f_5 := (hs.o gx trivial rfl).2.trans f_5
  replace f_14 := (hs.o gx trivial rfl).2.trans f_14
  replace po_22 := (hs.o gq_16 trivial rfl).1.trans po_22
  replace po_23 := (hs.o gq_16 trivial rfl).1.trans po_23
  replace po_24 := (hs.o gq_16 trivial rfl).1.trans po_24
  replace fq_27 := (hs.o gq_16 trivial rfl).2.trans fq_27
  replace fq_29 := (hs.o gq_16 trivial rfl).2.trans fq_29
  replace f_32 := (hs.o gx trivial rfl).2.trans f_32
  replace f_36 := (hs.o gx trivial rfl).2.trans f_36
  replace hz := hx_zr [0, 3, 4, 5, 7] hz hs gx trivial rfl
  replace za_3 : ∀ j, h_40.2.1 q_2 j = 0 ∧ h_40.2.2 q_2 j = none := fun j => ⟨(hs.a gq_2 rfl j).1.trans (za_3 j).1, (hs.a gq_2 rfl j).2.trans (za_3 j).2⟩
  replace za_39 : ∀ j, h_40.2.1 q_38 j = 0 ∧ h_40.2.2 q_38 j = none := fun j => ⟨(hs.a gq_38 rfl j).1.trans (za_39 j).1, (hs.a gq_38 rfl j).2.trans (za_39 j).2⟩
  replace nfw_28 : h_40.2.1 q_27 = fw_28 := (funext fun j => (hs.a gq_27 rfl j).1).trans nfw_28
  replace nfw_30 : h_40.2.1 q_29 = fw_30 := (funext fun j => (hs.a gq_29 rfl j).1).trans nfw_30
  replace hM := hM.tr (hs.mono (by decide))
  replace gx := gx.S hs
  replace gq_2 := gq_2.S hs
  replace gq_7 := gq_7.S hs
  replace gq_16 := gq_16.S hs
  replace gq_27 := gq_27.S hs
  replace gq_29 := gq_29.S hs
  replace gq_34 := gq_34.S hs
  replace gq_38 := gq_38.S hs
  have f_41 : h_40.2.2 x 7 = (some q_38) := by rw [eh_40]; exact hx_pr_at _ _ _ _
  refine lv_aload_n hx hb dX9_init_55 rfl (lv_at hl 0 rfl) ?_
  refine hk_new hx hb hts hC_1 hown hW 117 tt_117 rfl (by decide) kw_190 kw_191 kw_98 (Nat.le_of_ble_eq_true rfl) (Nat.le_of_ble_eq_true rfl) dX9_init_56 (fun q_43 H h_42 eh_42 hqq_43 hW hs gq_43 => ?_)
  have nq_q_43 : ∀ a ∈ (hx_X L x), a ≠ q_43 := fun a ha z => hqq_43 (z ▸ (hM.1 a ha).1)
  have hT : hx_T T_tb (((L_18 ++ [q_34]) ++ [q_38]) ++ [q_43]) h_42 := by rw [eh_42]; exact hx_T_nw hT hqq_43 tt_117 rfl
  replace f_5 := (hs.o gx trivial rfl).2.trans f_5
  replace f_14 := (hs.o gx trivial rfl).2.trans f_14
  replace po_22 := (hs.o gq_16 trivial rfl).1.trans po_22
  replace po_23 := (hs.o gq_16 trivial rfl).1.trans po_23
  replace po_24 := (hs.o gq_16 trivial rfl).1.trans po_24
  replace fq_27 := (hs.o gq_16 trivial rfl).2.trans fq_27
  replace fq_29 := (hs.o gq_16 trivial rfl).2.trans fq_29
  replace f_32 := (hs.o gx trivial rfl).2.trans f_32
  replace f_36 := (hs.o gx trivial rfl).2.trans f_36
  replace f_41 := (hs.o gx trivial rfl).2.trans f_41
  replace hz := hx_zr [0, 3, 4, 5, 7] hz hs gx trivial rfl
  replace za_3 : ∀ j, h_42.2.1 q_2 j = 0 ∧ h_42.2.2 q_2 j = none := fun j => ⟨(hs.a gq_2 rfl j).1.trans (za_3 j).1, (hs.a gq_2 rfl j).2.trans (za_3 j).2⟩
  replace za_39 : ∀ j, h_42.2.1 q_38 j = 0 ∧ h_42.2.2 q_38 j = none := fun j => ⟨(hs.a gq_38 rfl j).1.trans (za_39 j).1, (hs.a gq_38 rfl j).2.trans (za_39 j).2⟩
  replace nfw_28 : h_42.2.1 q_27 = fw_28 := (funext fun j => (hs.a gq_27 rfl j).1).trans nfw_28
  replace nfw_30 : h_42.2.1 q_29 = fw_30 := (funext fun j => (hs.a gq_29 rfl j).1).trans nfw_30
  replace hM := hM.tr (hs.mono (by decide))
  replace gx := gx.S hs
  replace gq_2 := gq_2.S hs
  replace gq_7 := gq_7.S hs
  replace gq_16 := gq_16.S hs
  replace gq_27 := gq_27.S hs
  replace gq_29 := gq_29.S hs
  replace gq_34 := gq_34.S hs
  replace gq_38 := gq_38.S hs
  have fz_44 : ∀ j, ([] : List Nat).contains j = false → h_42.2.1 q_43 j = 0 ∧ h_42.2.2 q_43 j = none := by rw [eh_42]; exact fun _ _ => ⟨hx_nw_i, hx_nw_r⟩
  refine lv_dup hx hb dX9_init_59 rfl ?_
  refine hx_gov (hx_runIN (As := []) (rest := [.ref q_43, .ref x]) ⟨hx, hb, hml, hown, hts⟩ hW (t_X1_init l dC dI dA (((L_18 ++ [q_34]) ++ [q_38]) ++ [q_43]) h_42 H.size q_43 hT gq_43 (fun j => fz_44 j rfl)) ⟨va_cnB 0 hts (hx_gC kw_194) rfl rfl rfl (hZ.1 _ (List.mem_of_getElem? (i := 2) rfl)) (hts _ kw_98) (by decide +kernel) ⟨Nat.le_of_ble_eq_true rfl, Nat.le_of_ble_eq_true rfl⟩, rfl, hts _ kw_193⟩ rfl hl.1 rfl (Nat.le_of_ble_eq_true rfl) dX9_init_60 ⟨Nat.le_of_ble_eq_true rfl, Nat.le_of_ble_eq_true rfl⟩) hW (fun L_45 h_46 H locs p_48 hW => ?_)
  obtain ⟨hT, hs, gNq_43, po_49⟩ := p_48
  replace hT : hx_T T_tb L_45 h_46 := hT
  replace hs : hx_S T_tb [(117, 1), (117, 2), (117, 3), (117, 4), (117, 5), (117, 6), (117, 7)] (hx_X (((L_18 ++ [q_34]) ++ [q_38]) ++ [q_43]) q_43) h_42 L_45 h_46 := hs
  have gx := hx_gX gx (gx.ne gq_43 (by decide))
  have gq_2 := hx_gX gq_2 (gq_2.ne gq_43 (by decide))
  have gq_7 := hx_gX gq_7 (gq_7.ne gq_43 (by decide))
  have gq_16 := hx_gX gq_16 (gq_16.ne gq_43 (by decide))
  have gq_27 := hx_gX gq_27 (gq_27.ne gq_43 (by decide))
  have gq_29 := hx_gX gq_29 (gq_29.ne gq_43 (by decide))
  have gq_34 := hx_gX gq_34 (gq_34.ne gq_43 (by decide))
  have gq_38 := hx_gX gq_38 (gq_38.ne gq_43 (by decide))
  replace f_5 := (hs.o gx trivial rfl).2.trans f_5
  replace f_14 := (hs.o gx trivial rfl).2.trans f_14
  replace po_22 := (hs.o gq_16 trivial rfl).1.trans po_22
  replace po_23 := (hs.o gq_16 trivial rfl).1.trans po_23
  replace po_24 := (hs.o gq_16 trivial rfl).1.trans po_24
  replace fq_27 := (hs.o gq_16 trivial rfl).2.trans fq_27
  replace fq_29 := (hs.o gq_16 trivial rfl).2.trans fq_29
  replace f_32 := (hs.o gx trivial rfl).2.trans f_32
  replace f_36 := (hs.o gx trivial rfl).2.trans f_36
  replace f_41 := (hs.o gx trivial rfl).2.trans f_41
  replace hz := hx_zr [0, 3, 4, 5, 7] hz hs gx trivial rfl
  replace za_3 : ∀ j, h_46.2.1 q_2 j = 0 ∧ h_46.2.2 q_2 j = none := fun j => ⟨(hs.a gq_2 rfl j).1.trans (za_3 j).1, (hs.a gq_2 rfl j).2.trans (za_3 j).2⟩
  replace za_39 : ∀ j, h_46.2.1 q_38 j = 0 ∧ h_46.2.2 q_38 j = none := fun j => ⟨(hs.a gq_38 rfl j).1.trans (za_39 j).1, (hs.a gq_38 rfl j).2.trans (za_39 j).2⟩
  replace nfw_28 : h_46.2.1 q_27 = fw_28 := (funext fun j => (hs.a gq_27 rfl j).1).trans nfw_28
  replace nfw_30 : h_46.2.1 q_29 = fw_30 := (funext fun j => (hs.a gq_29 rfl j).1).trans nfw_30
  replace hM := hM.trX (hs.mono (by decide)) nq_q_43
  replace gx := gx.S hs
  replace gq_2 := gq_2.S hs
  replace gq_7 := gq_7.S hs
  replace gq_16 := gq_16.S hs
  replace gq_27 := gq_27.S hs
  replace gq_29 := gq_29.S hs
  replace gq_34 := gq_34.S hs
  replace gq_38 := gq_38.S hs
  have gq_43 : hx_g L_45 h_46 q_43 1 := gNq_43
  have po_49 : h_46.2.1 q_43 0 = 0 := po_49
  refine hx_putrF hx hb hts hC_9 hown hW hT (hx_S.rf (M := [(125, 9)])) gx tt_125 9 (by decide) rfl kw_373 ⟨rfl, rfl, rfl⟩ rfl hin rfl (x := (some q_43)) ⟨fun _ z => (by cases z), fun q hq => (by cases hq; exact ⟨gq_43.1, by rw [gq_43.2]; decide⟩)⟩ rfl rfl rfl (List.mem_singleton.mpr rfl) dX9_init_63 (fun H locs h_50 eh_50 hW hT hs => ?_)
  replace f_5 := (hs.o gx trivial rfl).2.trans f_5
  replace f_14 := (hs.o gx trivial rfl).2.trans f_14
  replace po_22 := (hs.o gq_16 trivial rfl).1.trans po_22
  replace po_23 := (hs.o gq_16 trivial rfl).1.trans po_23
  replace po_24 := (hs.o gq_16 trivial rfl).1.trans po_24
  replace fq_27 := (hs.o gq_16 trivial rfl).2.trans fq_27
  replace fq_29 := (hs.o gq_16 trivial rfl).2.trans fq_29
  replace f_32 := (hs.o gx trivial rfl).2.trans f_32
  replace f_36 := (hs.o gx trivial rfl).2.trans f_36
  replace f_41 := (hs.o gx trivial rfl).2.trans f_41
  replace po_49 := (hs.o gq_43 trivial rfl).1.trans po_49
  replace hz := hx_zr [0, 3, 4, 5, 7, 9] hz hs gx trivial rfl
  replace za_3 : ∀ j, h_50.2.1 q_2 j = 0 ∧ h_50.2.2 q_2 j = none := fun j => ⟨(hs.a gq_2 rfl j).1.trans (za_3 j).1, (hs.a gq_2 rfl j).2.trans (za_3 j).2⟩
  replace za_39 : ∀ j, h_50.2.1 q_38 j = 0 ∧ h_50.2.2 q_38 j = none := fun j => ⟨(hs.a gq_38 rfl j).1.trans (za_39 j).1, (hs.a gq_38 rfl j).2.trans (za_39 j).2⟩
  replace nfw_28 : h_50.2.1 q_27 = fw_28 := (funext fun j => (hs.a gq_27 rfl j).1).trans nfw_28
  replace nfw_30 : h_50.2.1 q_29 = fw_30 := (funext fun j => (hs.a gq_29 rfl j).1).trans nfw_30
  replace hM := hM.tr (hs.mono (by decide))
  replace gx := gx.S hs
  replace gq_2 := gq_2.S hs
  replace gq_7 := gq_7.S hs
  replace gq_16 := gq_16.S hs
  replace gq_27 := gq_27.S hs
  replace gq_29 := gq_29.S hs
  replace gq_34 := gq_34.S hs
  replace gq_38 := gq_38.S hs
  replace gq_43 := gq_43.S hs
  have f_51 : h_50.2.2 x 9 = (some q_43) := by rw [eh_50]; exact hx_pr_at _ _ _ _
  refine lv_aload_n hx hb dX9_init_66 rfl (lv_at hl 0 rfl) ?_
  refine lv_bipush (v := 100) hx hb dX9_init_67 (by decide) ?_
  refine hk_newqX hx hb hts hown hW 45 tt_45 kw_223 hZ.2.1.2.2 (tys := P_ty dA) (t0 := 6) rfl (i := (100 : Int32)) (by decide) (Nat.le_of_ble_eq_true rfl) (Nat.le_of_ble_eq_true rfl) (Nat.le_of_ble_eq_true rfl) dX9_init_69 (fun q_53 H h_52 eh_52 hqq_53 hW hs gq_53 => ?_)
  have nq_q_53 : ∀ a ∈ (hx_X L x), a ≠ q_53 := fun a ha z => hqq_53 (z ▸ (hM.1 a ha).1)
  have hT : hx_T T_tb (L_45 ++ [q_53]) h_52 := by rw [eh_52]; exact hx_T_nw hT hqq_53 tt_45 rfl
  replace f_5 := (hs.o gx trivial rfl).2.trans f_5
  replace f_14 := (hs.o gx trivial rfl).2.trans f_14
  replace po_22 := (hs.o gq_16 trivial rfl).1.trans po_22
  replace po_23 := (hs.o gq_16 trivial rfl).1.trans po_23
  replace po_24 := (hs.o gq_16 trivial rfl).1.trans po_24
  replace fq_27 := (hs.o gq_16 trivial rfl).2.trans fq_27
  replace fq_29 := (hs.o gq_16 trivial rfl).2.trans fq_29
  replace f_32 := (hs.o gx trivial rfl).2.trans f_32
  replace f_36 := (hs.o gx trivial rfl).2.trans f_36
  replace f_41 := (hs.o gx trivial rfl).2.trans f_41
  replace po_49 := (hs.o gq_43 trivial rfl).1.trans po_49
  replace f_51 := (hs.o gx trivial rfl).2.trans f_51
  replace hz := hx_zr [0, 3, 4, 5, 7, 9] hz hs gx trivial rfl
  replace za_3 : ∀ j, h_52.2.1 q_2 j = 0 ∧ h_52.2.2 q_2 j = none := fun j => ⟨(hs.a gq_2 rfl j).1.trans (za_3 j).1, (hs.a gq_2 rfl j).2.trans (za_3 j).2⟩
  replace za_39 : ∀ j, h_52.2.1 q_38 j = 0 ∧ h_52.2.2 q_38 j = none := fun j => ⟨(hs.a gq_38 rfl j).1.trans (za_39 j).1, (hs.a gq_38 rfl j).2.trans (za_39 j).2⟩
  replace nfw_28 : h_52.2.1 q_27 = fw_28 := (funext fun j => (hs.a gq_27 rfl j).1).trans nfw_28
  replace nfw_30 : h_52.2.1 q_29 = fw_30 := (funext fun j => (hs.a gq_29 rfl j).1).trans nfw_30
  replace hM := hM.tr (hs.mono (by decide))
  replace gx := gx.S hs
  replace gq_2 := gq_2.S hs
  replace gq_7 := gq_7.S hs
  replace gq_16 := gq_16.S hs
  replace gq_27 := gq_27.S hs
  replace gq_29 := gq_29.S hs
  replace gq_34 := gq_34.S hs
  replace gq_38 := gq_38.S hs
  replace gq_43 := gq_43.S hs
  have za_54 : ∀ j, h_52.2.1 q_53 j = 0 ∧ h_52.2.2 q_53 j = none := by rw [eh_52]; exact fun _ => ⟨hx_nw_i, hx_nw_r⟩
  refine hx_putrF hx hb hts hC_9 hown hW hT (hx_S.rf (M := [(125, 10)])) gx tt_125 10 (by decide) rfl kw_374 ⟨rfl, rfl, rfl⟩ rfl hin rfl (x := (some q_53)) ⟨fun _ z => (by cases z), fun q hq => (by cases hq; exact ⟨gq_53.1, by rw [gq_53.2]; decide⟩)⟩ rfl rfl rfl (List.mem_singleton.mpr rfl) dX9_init_72 (fun H locs h_55 eh_55 hW hT hs => ?_)
  replace f_5 := (hs.o gx trivial rfl).2.trans f_5
  replace f_14 := (hs.o gx trivial rfl).2.trans f_14
  replace po_22 := (hs.o gq_16 trivial rfl).1.trans po_22
  replace po_23 := (hs.o gq_16 trivial rfl).1.trans po_23
  replace po_24 := (hs.o gq_16 trivial rfl).1.trans po_24
  replace fq_27 := (hs.o gq_16 trivial rfl).2.trans fq_27
  replace fq_29 := (hs.o gq_16 trivial rfl).2.trans fq_29
  replace f_32 := (hs.o gx trivial rfl).2.trans f_32
  replace f_36 := (hs.o gx trivial rfl).2.trans f_36
  replace f_41 := (hs.o gx trivial rfl).2.trans f_41
  replace po_49 := (hs.o gq_43 trivial rfl).1.trans po_49
  replace f_51 := (hs.o gx trivial rfl).2.trans f_51
  replace hz := hx_zr [0, 3, 4, 5, 7, 9, 10] hz hs gx trivial rfl
  replace za_3 : ∀ j, h_55.2.1 q_2 j = 0 ∧ h_55.2.2 q_2 j = none := fun j => ⟨(hs.a gq_2 rfl j).1.trans (za_3 j).1, (hs.a gq_2 rfl j).2.trans (za_3 j).2⟩
  replace za_39 : ∀ j, h_55.2.1 q_38 j = 0 ∧ h_55.2.2 q_38 j = none := fun j => ⟨(hs.a gq_38 rfl j).1.trans (za_39 j).1, (hs.a gq_38 rfl j).2.trans (za_39 j).2⟩
  replace za_54 : ∀ j, h_55.2.1 q_53 j = 0 ∧ h_55.2.2 q_53 j = none := fun j => ⟨(hs.a gq_53 rfl j).1.trans (za_54 j).1, (hs.a gq_53 rfl j).2.trans (za_54 j).2⟩
  replace nfw_28 : h_55.2.1 q_27 = fw_28 := (funext fun j => (hs.a gq_27 rfl j).1).trans nfw_28
  replace nfw_30 : h_55.2.1 q_29 = fw_30 := (funext fun j => (hs.a gq_29 rfl j).1).trans nfw_30
  replace hM := hM.tr (hs.mono (by decide))
  replace gx := gx.S hs
  replace gq_2 := gq_2.S hs
  replace gq_7 := gq_7.S hs
  replace gq_16 := gq_16.S hs
  replace gq_27 := gq_27.S hs
  replace gq_29 := gq_29.S hs
  replace gq_34 := gq_34.S hs
  replace gq_38 := gq_38.S hs
  replace gq_43 := gq_43.S hs
  replace gq_53 := gq_53.S hs
  have f_56 : h_55.2.2 x 10 = (some q_53) := by rw [eh_55]; exact hx_pr_at _ _ _ _
  refine lv_aload_n hx hb dX9_init_75 rfl (lv_at hl 0 rfl) ?_
  refine lv_bipush (v := 100) hx hb dX9_init_76 (by decide) ?_
  refine hk_newqX hx hb hts hown hW 46 tt_46 kw_223 hZ.2.1.2.2 (tys := P_ty dA) (t0 := 6) rfl (i := (100 : Int32)) (by decide) (Nat.le_of_ble_eq_true rfl) (Nat.le_of_ble_eq_true rfl) (Nat.le_of_ble_eq_true rfl) dX9_init_78 (fun q_58 H h_57 eh_57 hqq_58 hW hs gq_58 => ?_)
  have nq_q_58 : ∀ a ∈ (hx_X L x), a ≠ q_58 := fun a ha z => hqq_58 (z ▸ (hM.1 a ha).1)
  have hT : hx_T T_tb ((L_45 ++ [q_53]) ++ [q_58]) h_57 := by rw [eh_57]; exact hx_T_nw hT hqq_58 tt_46 rfl
  replace f_5 := (hs.o gx trivial rfl).2.trans f_5
  replace f_14 := (hs.o gx trivial rfl).2.trans f_14
  replace po_22 := (hs.o gq_16 trivial rfl).1.trans po_22
  replace po_23 := (hs.o gq_16 trivial rfl).1.trans po_23
  replace po_24 := (hs.o gq_16 trivial rfl).1.trans po_24
  replace fq_27 := (hs.o gq_16 trivial rfl).2.trans fq_27
  replace fq_29 := (hs.o gq_16 trivial rfl).2.trans fq_29
  replace f_32 := (hs.o gx trivial rfl).2.trans f_32
  replace f_36 := (hs.o gx trivial rfl).2.trans f_36
  replace f_41 := (hs.o gx trivial rfl).2.trans f_41
  replace po_49 := (hs.o gq_43 trivial rfl).1.trans po_49
  replace f_51 := (hs.o gx trivial rfl).2.trans f_51
  replace f_56 := (hs.o gx trivial rfl).2.trans f_56
  replace hz := hx_zr [0, 3, 4, 5, 7, 9, 10] hz hs gx trivial rfl
  replace za_3 : ∀ j, h_57.2.1 q_2 j = 0 ∧ h_57.2.2 q_2 j = none := fun j => ⟨(hs.a gq_2 rfl j).1.trans (za_3 j).1, (hs.a gq_2 rfl j).2.trans (za_3 j).2⟩
  replace za_39 : ∀ j, h_57.2.1 q_38 j = 0 ∧ h_57.2.2 q_38 j = none := fun j => ⟨(hs.a gq_38 rfl j).1.trans (za_39 j).1, (hs.a gq_38 rfl j).2.trans (za_39 j).2⟩
  replace za_54 : ∀ j, h_57.2.1 q_53 j = 0 ∧ h_57.2.2 q_53 j = none := fun j => ⟨(hs.a gq_53 rfl j).1.trans (za_54 j).1, (hs.a gq_53 rfl j).2.trans (za_54 j).2⟩
  replace nfw_28 : h_57.2.1 q_27 = fw_28 := (funext fun j => (hs.a gq_27 rfl j).1).trans nfw_28
  replace nfw_30 : h_57.2.1 q_29 = fw_30 := (funext fun j => (hs.a gq_29 rfl j).1).trans nfw_30
  replace hM := hM.tr (hs.mono (by decide))
  replace gx := gx.S hs
  replace gq_2 := gq_2.S hs
  replace gq_7 := gq_7.S hs
  replace gq_16 := gq_16.S hs
  replace gq_27 := gq_27.S hs
  replace gq_29 := gq_29.S hs
  replace gq_34 := gq_34.S hs
  replace gq_38 := gq_38.S hs
  replace gq_43 := gq_43.S hs
  replace gq_53 := gq_53.S hs
  refine hx_putrF hx hb hts hC_9 hown hW hT (hx_S.rf (M := [(125, 12)])) gx tt_125 12 (by decide) rfl kw_376 ⟨rfl, rfl, rfl⟩ rfl hin rfl (x := (some q_58)) ⟨fun _ z => (by cases z), fun q hq => (by cases hq; exact ⟨gq_58.1, by rw [gq_58.2]; decide⟩)⟩ rfl rfl rfl (List.mem_singleton.mpr rfl) dX9_init_81 (fun H locs h_59 eh_59 hW hT hs => ?_)
  replace f_5 := (hs.o gx trivial rfl).2.trans f_5
  replace f_14 := (hs.o gx trivial rfl).2.trans f_14
  replace po_22 := (hs.o gq_16 trivial rfl).1.trans po_22
  replace po_23 := (hs.o gq_16 trivial rfl).1.trans po_23
  replace po_24 := (hs.o gq_16 trivial rfl).1.trans po_24
  replace fq_27 := (hs.o gq_16 trivial rfl).2.trans fq_27
  replace fq_29 := (hs.o gq_16 trivial rfl).2.trans fq_29
  replace f_32 := (hs.o gx trivial rfl).2.trans f_32
  replace f_36 := (hs.o gx trivial rfl).2.trans f_36
  replace f_41 := (hs.o gx trivial rfl).2.trans f_41
  replace po_49 := (hs.o gq_43 trivial rfl).1.trans po_49
  replace f_51 := (hs.o gx trivial rfl).2.trans f_51
  replace f_56 := (hs.o gx trivial rfl).2.trans f_56
  replace hz := hx_zr [0, 3, 4, 5, 7, 9, 10, 12] hz hs gx trivial rfl
  replace za_3 : ∀ j, h_59.2.1 q_2 j = 0 ∧ h_59.2.2 q_2 j = none := fun j => ⟨(hs.a gq_2 rfl j).1.trans (za_3 j).1, (hs.a gq_2 rfl j).2.trans (za_3 j).2⟩
  replace za_39 : ∀ j, h_59.2.1 q_38 j = 0 ∧ h_59.2.2 q_38 j = none := fun j => ⟨(hs.a gq_38 rfl j).1.trans (za_39 j).1, (hs.a gq_38 rfl j).2.trans (za_39 j).2⟩
  replace za_54 : ∀ j, h_59.2.1 q_53 j = 0 ∧ h_59.2.2 q_53 j = none := fun j => ⟨(hs.a gq_53 rfl j).1.trans (za_54 j).1, (hs.a gq_53 rfl j).2.trans (za_54 j).2⟩
  replace nfw_28 : h_59.2.1 q_27 = fw_28 := (funext fun j => (hs.a gq_27 rfl j).1).trans nfw_28
  replace nfw_30 : h_59.2.1 q_29 = fw_30 := (funext fun j => (hs.a gq_29 rfl j).1).trans nfw_30
  replace hM := hM.tr (hs.mono (by decide))
  replace gx := gx.S hs
  replace gq_2 := gq_2.S hs
  replace gq_7 := gq_7.S hs
  replace gq_16 := gq_16.S hs
  replace gq_27 := gq_27.S hs
  replace gq_29 := gq_29.S hs
  replace gq_34 := gq_34.S hs
  replace gq_38 := gq_38.S hs
  replace gq_43 := gq_43.S hs
  replace gq_53 := gq_53.S hs
  replace gq_58 := gq_58.S hs
  have f_60 : h_59.2.2 x 12 = (some q_58) := by rw [eh_59]; exact hx_pr_at _ _ _ _
  refine lv_aload_n hx hb dX9_init_84 rfl (lv_at hl 0 rfl) ?_
  refine hk_new hx hb hts hC_3 hown hW 119 tt_119 rfl (by decide) kw_225 kw_226 kw_99 (Nat.le_of_ble_eq_true rfl) (Nat.le_of_ble_eq_true rfl) dX9_init_85 (fun q_62 H h_61 eh_61 hqq_62 hW hs gq_62 => ?_)
  have nq_q_62 : ∀ a ∈ (hx_X L x), a ≠ q_62 := fun a ha z => hqq_62 (z ▸ (hM.1 a ha).1)
  have hT : hx_T T_tb (((L_45 ++ [q_53]) ++ [q_58]) ++ [q_62]) h_61 := by rw [eh_61]; exact hx_T_nw hT hqq_62 tt_119 rfl
  replace f_5 := (hs.o gx trivial rfl).2.trans f_5
  replace f_14 := (hs.o gx trivial rfl).2.trans f_14
  replace po_22 := (hs.o gq_16 trivial rfl).1.trans po_22
  replace po_23 := (hs.o gq_16 trivial rfl).1.trans po_23
  replace po_24 := (hs.o gq_16 trivial rfl).1.trans po_24
  replace fq_27 := (hs.o gq_16 trivial rfl).2.trans fq_27
  replace fq_29 := (hs.o gq_16 trivial rfl).2.trans fq_29
  replace f_32 := (hs.o gx trivial rfl).2.trans f_32
  replace f_36 := (hs.o gx trivial rfl).2.trans f_36
  replace f_41 := (hs.o gx trivial rfl).2.trans f_41
  replace po_49 := (hs.o gq_43 trivial rfl).1.trans po_49
  replace f_51 := (hs.o gx trivial rfl).2.trans f_51
  replace f_56 := (hs.o gx trivial rfl).2.trans f_56
  replace f_60 := (hs.o gx trivial rfl).2.trans f_60
  replace hz := hx_zr [0, 3, 4, 5, 7, 9, 10, 12] hz hs gx trivial rfl
  replace za_3 : ∀ j, h_61.2.1 q_2 j = 0 ∧ h_61.2.2 q_2 j = none := fun j => ⟨(hs.a gq_2 rfl j).1.trans (za_3 j).1, (hs.a gq_2 rfl j).2.trans (za_3 j).2⟩
  replace za_39 : ∀ j, h_61.2.1 q_38 j = 0 ∧ h_61.2.2 q_38 j = none := fun j => ⟨(hs.a gq_38 rfl j).1.trans (za_39 j).1, (hs.a gq_38 rfl j).2.trans (za_39 j).2⟩
  replace za_54 : ∀ j, h_61.2.1 q_53 j = 0 ∧ h_61.2.2 q_53 j = none := fun j => ⟨(hs.a gq_53 rfl j).1.trans (za_54 j).1, (hs.a gq_53 rfl j).2.trans (za_54 j).2⟩
  replace nfw_28 : h_61.2.1 q_27 = fw_28 := (funext fun j => (hs.a gq_27 rfl j).1).trans nfw_28
  replace nfw_30 : h_61.2.1 q_29 = fw_30 := (funext fun j => (hs.a gq_29 rfl j).1).trans nfw_30
  replace hM := hM.tr (hs.mono (by decide))
  replace gx := gx.S hs
  replace gq_2 := gq_2.S hs
  replace gq_7 := gq_7.S hs
  replace gq_16 := gq_16.S hs
  replace gq_27 := gq_27.S hs
  replace gq_29 := gq_29.S hs
  replace gq_34 := gq_34.S hs
  replace gq_38 := gq_38.S hs
  replace gq_43 := gq_43.S hs
  replace gq_53 := gq_53.S hs
  replace gq_58 := gq_58.S hs
  have fz_63 : ∀ j, ([] : List Nat).contains j = false → h_61.2.1 q_62 j = 0 ∧ h_61.2.2 q_62 j = none := by rw [eh_61]; exact fun _ _ => ⟨hx_nw_i, hx_nw_r⟩
  refine lv_dup hx hb dX9_init_88 rfl ?_
  refine hx_gov (hx_runIN (As := []) (rest := [.ref q_62, .ref x]) ⟨hx, hb, hml, hown, hts⟩ hW (t_X3_init l dC dI dA (((L_45 ++ [q_53]) ++ [q_58]) ++ [q_62]) h_61 H.size q_62 hT gq_62 (fun j => fz_63 j rfl)) ⟨va_cnB 0 hts (hx_gC kw_229) rfl rfl rfl (hZ.1 _ (List.mem_of_getElem? (i := 3) rfl)) (hts _ kw_99) (by decide +kernel) ⟨Nat.le_of_ble_eq_true rfl, Nat.le_of_ble_eq_true rfl⟩, rfl, hts _ kw_228⟩ rfl hl.1 rfl (Nat.le_of_ble_eq_true rfl) dX9_init_89 ⟨Nat.le_of_ble_eq_true rfl, Nat.le_of_ble_eq_true rfl⟩) hW (fun L_64 h_65 H locs p_67 hW => ?_)
  obtain ⟨hT, hs, gNq_62⟩ := p_67
  replace hT : hx_T T_tb L_64 h_65 := hT
  replace hs : hx_S T_tb [(119, 1), (119, 2), (119, 3), (119, 4), (119, 5)] (hx_X (((L_45 ++ [q_53]) ++ [q_58]) ++ [q_62]) q_62) h_61 L_64 h_65 := hs
  have gx := hx_gX gx (gx.ne gq_62 (by decide))
  have gq_2 := hx_gX gq_2 (gq_2.ne gq_62 (by decide))
  have gq_7 := hx_gX gq_7 (gq_7.ne gq_62 (by decide))
  have gq_16 := hx_gX gq_16 (gq_16.ne gq_62 (by decide))
  have gq_27 := hx_gX gq_27 (gq_27.ne gq_62 (by decide))
  have gq_29 := hx_gX gq_29 (gq_29.ne gq_62 (by decide))
  have gq_34 := hx_gX gq_34 (gq_34.ne gq_62 (by decide))
  have gq_38 := hx_gX gq_38 (gq_38.ne gq_62 (by decide))
  have gq_43 := hx_gX gq_43 (gq_43.ne gq_62 (by decide))
  have gq_53 := hx_gX gq_53 (gq_53.ne gq_62 (by decide))
  have gq_58 := hx_gX gq_58 (gq_58.ne gq_62 (by decide))
  replace f_5 := (hs.o gx trivial rfl).2.trans f_5
  replace f_14 := (hs.o gx trivial rfl).2.trans f_14
  replace po_22 := (hs.o gq_16 trivial rfl).1.trans po_22
  replace po_23 := (hs.o gq_16 trivial rfl).1.trans po_23
  replace po_24 := (hs.o gq_16 trivial rfl).1.trans po_24
  replace fq_27 := (hs.o gq_16 trivial rfl).2.trans fq_27
  replace fq_29 := (hs.o gq_16 trivial rfl).2.trans fq_29
  replace f_32 := (hs.o gx trivial rfl).2.trans f_32
  replace f_36 := (hs.o gx trivial rfl).2.trans f_36
  replace f_41 := (hs.o gx trivial rfl).2.trans f_41
  replace po_49 := (hs.o gq_43 trivial rfl).1.trans po_49
  replace f_51 := (hs.o gx trivial rfl).2.trans f_51
  replace f_56 := (hs.o gx trivial rfl).2.trans f_56
  replace f_60 := (hs.o gx trivial rfl).2.trans f_60
  replace hz := hx_zr [0, 3, 4, 5, 7, 9, 10, 12] hz hs gx trivial rfl
  replace za_3 : ∀ j, h_65.2.1 q_2 j = 0 ∧ h_65.2.2 q_2 j = none := fun j => ⟨(hs.a gq_2 rfl j).1.trans (za_3 j).1, (hs.a gq_2 rfl j).2.trans (za_3 j).2⟩
  replace za_39 : ∀ j, h_65.2.1 q_38 j = 0 ∧ h_65.2.2 q_38 j = none := fun j => ⟨(hs.a gq_38 rfl j).1.trans (za_39 j).1, (hs.a gq_38 rfl j).2.trans (za_39 j).2⟩
  replace za_54 : ∀ j, h_65.2.1 q_53 j = 0 ∧ h_65.2.2 q_53 j = none := fun j => ⟨(hs.a gq_53 rfl j).1.trans (za_54 j).1, (hs.a gq_53 rfl j).2.trans (za_54 j).2⟩
  replace nfw_28 : h_65.2.1 q_27 = fw_28 := (funext fun j => (hs.a gq_27 rfl j).1).trans nfw_28
  replace nfw_30 : h_65.2.1 q_29 = fw_30 := (funext fun j => (hs.a gq_29 rfl j).1).trans nfw_30
  replace hM := hM.trX (hs.mono (by decide)) nq_q_62
  replace gx := gx.S hs
  replace gq_2 := gq_2.S hs
  replace gq_7 := gq_7.S hs
  replace gq_16 := gq_16.S hs
  replace gq_27 := gq_27.S hs
  replace gq_29 := gq_29.S hs
  replace gq_34 := gq_34.S hs
  replace gq_38 := gq_38.S hs
  replace gq_43 := gq_43.S hs
  replace gq_53 := gq_53.S hs
  replace gq_58 := gq_58.S hs
  have gq_62 : hx_g L_64 h_65 q_62 3 := gNq_62
  refine hx_putrF hx hb hts hC_9 hown hW hT (hx_S.rf (M := [(125, 14)])) gx tt_125 14 (by decide) rfl kw_378 ⟨rfl, rfl, rfl⟩ rfl hin rfl (x := (some q_62)) ⟨fun _ z => (by cases z), fun q hq => (by cases hq; exact ⟨gq_62.1, by rw [gq_62.2]; decide⟩)⟩ rfl rfl rfl (List.mem_singleton.mpr rfl) dX9_init_92 (fun H locs h_68 eh_68 hW hT hs => ?_)
  replace f_5 := (hs.o gx trivial rfl).2.trans f_5
  replace f_14 := (hs.o gx trivial rfl).2.trans f_14
  replace po_22 := (hs.o gq_16 trivial rfl).1.trans po_22
  replace po_23 := (hs.o gq_16 trivial rfl).1.trans po_23
  replace po_24 := (hs.o gq_16 trivial rfl).1.trans po_24
  replace fq_27 := (hs.o gq_16 trivial rfl).2.trans fq_27
  replace fq_29 := (hs.o gq_16 trivial rfl).2.trans fq_29
  replace f_32 := (hs.o gx trivial rfl).2.trans f_32
  replace f_36 := (hs.o gx trivial rfl).2.trans f_36
  replace f_41 := (hs.o gx trivial rfl).2.trans f_41
  replace po_49 := (hs.o gq_43 trivial rfl).1.trans po_49
  replace f_51 := (hs.o gx trivial rfl).2.trans f_51
  replace f_56 := (hs.o gx trivial rfl).2.trans f_56
  replace f_60 := (hs.o gx trivial rfl).2.trans f_60
  replace hz := hx_zr [0, 3, 4, 5, 7, 9, 10, 12, 14] hz hs gx trivial rfl
  replace za_3 : ∀ j, h_68.2.1 q_2 j = 0 ∧ h_68.2.2 q_2 j = none := fun j => ⟨(hs.a gq_2 rfl j).1.trans (za_3 j).1, (hs.a gq_2 rfl j).2.trans (za_3 j).2⟩
  replace za_39 : ∀ j, h_68.2.1 q_38 j = 0 ∧ h_68.2.2 q_38 j = none := fun j => ⟨(hs.a gq_38 rfl j).1.trans (za_39 j).1, (hs.a gq_38 rfl j).2.trans (za_39 j).2⟩
  replace za_54 : ∀ j, h_68.2.1 q_53 j = 0 ∧ h_68.2.2 q_53 j = none := fun j => ⟨(hs.a gq_53 rfl j).1.trans (za_54 j).1, (hs.a gq_53 rfl j).2.trans (za_54 j).2⟩
  replace nfw_28 : h_68.2.1 q_27 = fw_28 := (funext fun j => (hs.a gq_27 rfl j).1).trans nfw_28
  replace nfw_30 : h_68.2.1 q_29 = fw_30 := (funext fun j => (hs.a gq_29 rfl j).1).trans nfw_30
  replace hM := hM.tr (hs.mono (by decide))
  replace gx := gx.S hs
  replace gq_2 := gq_2.S hs
  replace gq_7 := gq_7.S hs
  replace gq_16 := gq_16.S hs
  replace gq_27 := gq_27.S hs
  replace gq_29 := gq_29.S hs
  replace gq_34 := gq_34.S hs
  replace gq_38 := gq_38.S hs
  replace gq_43 := gq_43.S hs
  replace gq_53 := gq_53.S hs
  replace gq_58 := gq_58.S hs
  replace gq_62 := gq_62.S hs
  have f_69 : h_68.2.2 x 14 = (some q_62) := by rw [eh_68]; exact hx_pr_at _ _ _ _
  refine lv_aload_n hx hb dX9_init_95 rfl (lv_at hl 0 rfl) ?_
  refine lv_bipush (v := 40) hx hb dX9_init_96 (by decide) ?_
  refine hk_newa hx hb hts hW 47 tt_47 (atype := .int) rfl kw_186 (tys := P_ty dA) (t0 := 0) rfl (fun _ => Iff.rfl) rfl (i := (40 : Int32)) (by decide) (Nat.le_of_ble_eq_true rfl) (Nat.le_of_ble_eq_true rfl) (Nat.le_of_ble_eq_true rfl) dX9_init_98 (fun q_71 H h_70 eh_70 hqq_71 hW hs gq_71 => ?_)
  have nq_q_71 : ∀ a ∈ (hx_X L x), a ≠ q_71 := fun a ha z => hqq_71 (z ▸ (hM.1 a ha).1)
  have hT : hx_T T_tb (L_64 ++ [q_71]) h_70 := by rw [eh_70]; exact hx_T_nw hT hqq_71 tt_47 rfl
  replace f_5 := (hs.o gx trivial rfl).2.trans f_5
  replace f_14 := (hs.o gx trivial rfl).2.trans f_14
  replace po_22 := (hs.o gq_16 trivial rfl).1.trans po_22
  replace po_23 := (hs.o gq_16 trivial rfl).1.trans po_23
  replace po_24 := (hs.o gq_16 trivial rfl).1.trans po_24
  replace fq_27 := (hs.o gq_16 trivial rfl).2.trans fq_27
  replace fq_29 := (hs.o gq_16 trivial rfl).2.trans fq_29
  replace f_32 := (hs.o gx trivial rfl).2.trans f_32
  replace f_36 := (hs.o gx trivial rfl).2.trans f_36
  replace f_41 := (hs.o gx trivial rfl).2.trans f_41
  replace po_49 := (hs.o gq_43 trivial rfl).1.trans po_49
  replace f_51 := (hs.o gx trivial rfl).2.trans f_51
  replace f_56 := (hs.o gx trivial rfl).2.trans f_56
  replace f_60 := (hs.o gx trivial rfl).2.trans f_60
  replace f_69 := (hs.o gx trivial rfl).2.trans f_69
  replace hz := hx_zr [0, 3, 4, 5, 7, 9, 10, 12, 14] hz hs gx trivial rfl
  replace za_3 : ∀ j, h_70.2.1 q_2 j = 0 ∧ h_70.2.2 q_2 j = none := fun j => ⟨(hs.a gq_2 rfl j).1.trans (za_3 j).1, (hs.a gq_2 rfl j).2.trans (za_3 j).2⟩
  replace za_39 : ∀ j, h_70.2.1 q_38 j = 0 ∧ h_70.2.2 q_38 j = none := fun j => ⟨(hs.a gq_38 rfl j).1.trans (za_39 j).1, (hs.a gq_38 rfl j).2.trans (za_39 j).2⟩
  replace za_54 : ∀ j, h_70.2.1 q_53 j = 0 ∧ h_70.2.2 q_53 j = none := fun j => ⟨(hs.a gq_53 rfl j).1.trans (za_54 j).1, (hs.a gq_53 rfl j).2.trans (za_54 j).2⟩
  replace nfw_28 : h_70.2.1 q_27 = fw_28 := (funext fun j => (hs.a gq_27 rfl j).1).trans nfw_28
  replace nfw_30 : h_70.2.1 q_29 = fw_30 := (funext fun j => (hs.a gq_29 rfl j).1).trans nfw_30
  replace hM := hM.tr (hs.mono (by decide))
  replace gx := gx.S hs
  replace gq_2 := gq_2.S hs
  replace gq_7 := gq_7.S hs
  replace gq_16 := gq_16.S hs
  replace gq_27 := gq_27.S hs
  replace gq_29 := gq_29.S hs
  replace gq_34 := gq_34.S hs
  replace gq_38 := gq_38.S hs
  replace gq_43 := gq_43.S hs
  replace gq_53 := gq_53.S hs
  replace gq_58 := gq_58.S hs
  replace gq_62 := gq_62.S hs
  refine hx_putrF hx hb hts hC_9 hown hW hT (hx_S.rf (M := [(125, 15)])) gx tt_125 15 (by decide) rfl kw_379 ⟨rfl, rfl, rfl⟩ rfl hin rfl (x := (some q_71)) ⟨fun _ z => (by cases z), fun q hq => (by cases hq; exact ⟨gq_71.1, by rw [gq_71.2]; decide⟩)⟩ rfl rfl rfl (List.mem_singleton.mpr rfl) dX9_init_100 (fun H locs h_72 eh_72 hW hT hs => ?_)
  replace f_5 := (hs.o gx trivial rfl).2.trans f_5
  replace f_14 := (hs.o gx trivial rfl).2.trans f_14
  replace po_22 := (hs.o gq_16 trivial rfl).1.trans po_22
  replace po_23 := (hs.o gq_16 trivial rfl).1.trans po_23
  replace po_24 := (hs.o gq_16 trivial rfl).1.trans po_24
  replace fq_27 := (hs.o gq_16 trivial rfl).2.trans fq_27
  replace fq_29 := (hs.o gq_16 trivial rfl).2.trans fq_29
  replace f_32 := (hs.o gx trivial rfl).2.trans f_32
  replace f_36 := (hs.o gx trivial rfl).2.trans f_36
  replace f_41 := (hs.o gx trivial rfl).2.trans f_41
  replace po_49 := (hs.o gq_43 trivial rfl).1.trans po_49
  replace f_51 := (hs.o gx trivial rfl).2.trans f_51
  replace f_56 := (hs.o gx trivial rfl).2.trans f_56
  replace f_60 := (hs.o gx trivial rfl).2.trans f_60
  replace f_69 := (hs.o gx trivial rfl).2.trans f_69
  replace hz := hx_zr [0, 3, 4, 5, 7, 9, 10, 12, 14, 15] hz hs gx trivial rfl
  replace za_3 : ∀ j, h_72.2.1 q_2 j = 0 ∧ h_72.2.2 q_2 j = none := fun j => ⟨(hs.a gq_2 rfl j).1.trans (za_3 j).1, (hs.a gq_2 rfl j).2.trans (za_3 j).2⟩
  replace za_39 : ∀ j, h_72.2.1 q_38 j = 0 ∧ h_72.2.2 q_38 j = none := fun j => ⟨(hs.a gq_38 rfl j).1.trans (za_39 j).1, (hs.a gq_38 rfl j).2.trans (za_39 j).2⟩
  replace za_54 : ∀ j, h_72.2.1 q_53 j = 0 ∧ h_72.2.2 q_53 j = none := fun j => ⟨(hs.a gq_53 rfl j).1.trans (za_54 j).1, (hs.a gq_53 rfl j).2.trans (za_54 j).2⟩
  replace nfw_28 : h_72.2.1 q_27 = fw_28 := (funext fun j => (hs.a gq_27 rfl j).1).trans nfw_28
  replace nfw_30 : h_72.2.1 q_29 = fw_30 := (funext fun j => (hs.a gq_29 rfl j).1).trans nfw_30
  replace hM := hM.tr (hs.mono (by decide))
  replace gx := gx.S hs
  replace gq_2 := gq_2.S hs
  replace gq_7 := gq_7.S hs
  replace gq_16 := gq_16.S hs
  replace gq_27 := gq_27.S hs
  replace gq_29 := gq_29.S hs
  replace gq_34 := gq_34.S hs
  replace gq_38 := gq_38.S hs
  replace gq_43 := gq_43.S hs
  replace gq_53 := gq_53.S hs
  replace gq_58 := gq_58.S hs
  replace gq_62 := gq_62.S hs
  replace gq_71 := gq_71.S hs
  have f_73 : h_72.2.2 x 15 = (some q_71) := by rw [eh_72]; exact hx_pr_at _ _ _ _
  refine lv_aload_n hx hb dX9_init_103 rfl (lv_at hl 0 rfl) ?_
  refine lv_bipush (v := 100) hx hb dX9_init_104 (by decide) ?_
  refine hk_newa hx hb hts hW 48 tt_48 (atype := .int) rfl kw_186 (tys := P_ty dA) (t0 := 0) rfl (fun _ => Iff.rfl) rfl (i := (100 : Int32)) (by decide) (Nat.le_of_ble_eq_true rfl) (Nat.le_of_ble_eq_true rfl) (Nat.le_of_ble_eq_true rfl) dX9_init_106 (fun q_75 H h_74 eh_74 hqq_75 hW hs gq_75 => ?_)
  have nq_q_75 : ∀ a ∈ (hx_X L x), a ≠ q_75 := fun a ha z => hqq_75 (z ▸ (hM.1 a ha).1)
  have hT : hx_T T_tb ((L_64 ++ [q_71]) ++ [q_75]) h_74 := by rw [eh_74]; exact hx_T_nw hT hqq_75 tt_48 rfl
  replace f_5 := (hs.o gx trivial rfl).2.trans f_5
  replace f_14 := (hs.o gx trivial rfl).2.trans f_14
  replace po_22 := (hs.o gq_16 trivial rfl).1.trans po_22
  replace po_23 := (hs.o gq_16 trivial rfl).1.trans po_23
  replace po_24 := (hs.o gq_16 trivial rfl).1.trans po_24
  replace fq_27 := (hs.o gq_16 trivial rfl).2.trans fq_27
  replace fq_29 := (hs.o gq_16 trivial rfl).2.trans fq_29
  replace f_32 := (hs.o gx trivial rfl).2.trans f_32
  replace f_36 := (hs.o gx trivial rfl).2.trans f_36
  replace f_41 := (hs.o gx trivial rfl).2.trans f_41
  replace po_49 := (hs.o gq_43 trivial rfl).1.trans po_49
  replace f_51 := (hs.o gx trivial rfl).2.trans f_51
  replace f_56 := (hs.o gx trivial rfl).2.trans f_56
  replace f_60 := (hs.o gx trivial rfl).2.trans f_60
  replace f_69 := (hs.o gx trivial rfl).2.trans f_69
  replace f_73 := (hs.o gx trivial rfl).2.trans f_73
  replace hz := hx_zr [0, 3, 4, 5, 7, 9, 10, 12, 14, 15] hz hs gx trivial rfl
  replace za_3 : ∀ j, h_74.2.1 q_2 j = 0 ∧ h_74.2.2 q_2 j = none := fun j => ⟨(hs.a gq_2 rfl j).1.trans (za_3 j).1, (hs.a gq_2 rfl j).2.trans (za_3 j).2⟩
  replace za_39 : ∀ j, h_74.2.1 q_38 j = 0 ∧ h_74.2.2 q_38 j = none := fun j => ⟨(hs.a gq_38 rfl j).1.trans (za_39 j).1, (hs.a gq_38 rfl j).2.trans (za_39 j).2⟩
  replace za_54 : ∀ j, h_74.2.1 q_53 j = 0 ∧ h_74.2.2 q_53 j = none := fun j => ⟨(hs.a gq_53 rfl j).1.trans (za_54 j).1, (hs.a gq_53 rfl j).2.trans (za_54 j).2⟩
  replace nfw_28 : h_74.2.1 q_27 = fw_28 := (funext fun j => (hs.a gq_27 rfl j).1).trans nfw_28
  replace nfw_30 : h_74.2.1 q_29 = fw_30 := (funext fun j => (hs.a gq_29 rfl j).1).trans nfw_30
  replace hM := hM.tr (hs.mono (by decide))
  replace gx := gx.S hs
  replace gq_2 := gq_2.S hs
  replace gq_7 := gq_7.S hs
  replace gq_16 := gq_16.S hs
  replace gq_27 := gq_27.S hs
  replace gq_29 := gq_29.S hs
  replace gq_34 := gq_34.S hs
  replace gq_38 := gq_38.S hs
  replace gq_43 := gq_43.S hs
  replace gq_53 := gq_53.S hs
  replace gq_58 := gq_58.S hs
  replace gq_62 := gq_62.S hs
  replace gq_71 := gq_71.S hs
  refine hx_putrF hx hb hts hC_9 hown hW hT (hx_S.rf (M := [(125, 16)])) gx tt_125 16 (by decide) rfl kw_380 ⟨rfl, rfl, rfl⟩ rfl hin rfl (x := (some q_75)) ⟨fun _ z => (by cases z), fun q hq => (by cases hq; exact ⟨gq_75.1, by rw [gq_75.2]; decide⟩)⟩ rfl rfl rfl (List.mem_singleton.mpr rfl) dX9_init_108 (fun H locs h_76 eh_76 hW hT hs => ?_)
  replace f_5 := (hs.o gx trivial rfl).2.trans f_5
  replace f_14 := (hs.o gx trivial rfl).2.trans f_14
  replace po_22 := (hs.o gq_16 trivial rfl).1.trans po_22
  replace po_23 := (hs.o gq_16 trivial rfl).1.trans po_23
  replace po_24 := (hs.o gq_16 trivial rfl).1.trans po_24
  replace fq_27 := (hs.o gq_16 trivial rfl).2.trans fq_27
  replace fq_29 := (hs.o gq_16 trivial rfl).2.trans fq_29
  replace f_32 := (hs.o gx trivial rfl).2.trans f_32
  replace f_36 := (hs.o gx trivial rfl).2.trans f_36
  replace f_41 := (hs.o gx trivial rfl).2.trans f_41
  replace po_49 := (hs.o gq_43 trivial rfl).1.trans po_49
  replace f_51 := (hs.o gx trivial rfl).2.trans f_51
  replace f_56 := (hs.o gx trivial rfl).2.trans f_56
  replace f_60 := (hs.o gx trivial rfl).2.trans f_60
  replace f_69 := (hs.o gx trivial rfl).2.trans f_69
  replace f_73 := (hs.o gx trivial rfl).2.trans f_73
  replace hz := hx_zr [0, 3, 4, 5, 7, 9, 10, 12, 14, 15, 16] hz hs gx trivial rfl
  replace za_3 : ∀ j, h_76.2.1 q_2 j = 0 ∧ h_76.2.2 q_2 j = none := fun j => ⟨(hs.a gq_2 rfl j).1.trans (za_3 j).1, (hs.a gq_2 rfl j).2.trans (za_3 j).2⟩
  replace za_39 : ∀ j, h_76.2.1 q_38 j = 0 ∧ h_76.2.2 q_38 j = none := fun j => ⟨(hs.a gq_38 rfl j).1.trans (za_39 j).1, (hs.a gq_38 rfl j).2.trans (za_39 j).2⟩
  replace za_54 : ∀ j, h_76.2.1 q_53 j = 0 ∧ h_76.2.2 q_53 j = none := fun j => ⟨(hs.a gq_53 rfl j).1.trans (za_54 j).1, (hs.a gq_53 rfl j).2.trans (za_54 j).2⟩
  replace nfw_28 : h_76.2.1 q_27 = fw_28 := (funext fun j => (hs.a gq_27 rfl j).1).trans nfw_28
  replace nfw_30 : h_76.2.1 q_29 = fw_30 := (funext fun j => (hs.a gq_29 rfl j).1).trans nfw_30
  replace hM := hM.tr (hs.mono (by decide))
  replace gx := gx.S hs
  replace gq_2 := gq_2.S hs
  replace gq_7 := gq_7.S hs
  replace gq_16 := gq_16.S hs
  replace gq_27 := gq_27.S hs
  replace gq_29 := gq_29.S hs
  replace gq_34 := gq_34.S hs
  replace gq_38 := gq_38.S hs
  replace gq_43 := gq_43.S hs
  replace gq_53 := gq_53.S hs
  replace gq_58 := gq_58.S hs
  replace gq_62 := gq_62.S hs
  replace gq_71 := gq_71.S hs
  replace gq_75 := gq_75.S hs
  have f_77 : h_76.2.2 x 16 = (some q_75) := by rw [eh_76]; exact hx_pr_at _ _ _ _
  refine lv_aload_n hx hb dX9_init_111 rfl (lv_at hl 0 rfl) ?_
  refine hk_new hx hb hts hC_5 hown hW 121 tt_121 rfl (by decide) kw_252 kw_253 kw_100 (Nat.le_of_ble_eq_true rfl) (Nat.le_of_ble_eq_true rfl) dX9_init_112 (fun q_79 H h_78 eh_78 hqq_79 hW hs gq_79 => ?_)
  have nq_q_79 : ∀ a ∈ (hx_X L x), a ≠ q_79 := fun a ha z => hqq_79 (z ▸ (hM.1 a ha).1)
  have hT : hx_T T_tb (((L_64 ++ [q_71]) ++ [q_75]) ++ [q_79]) h_78 := by rw [eh_78]; exact hx_T_nw hT hqq_79 tt_121 rfl
  replace f_5 := (hs.o gx trivial rfl).2.trans f_5
  replace f_14 := (hs.o gx trivial rfl).2.trans f_14
  replace po_22 := (hs.o gq_16 trivial rfl).1.trans po_22
  replace po_23 := (hs.o gq_16 trivial rfl).1.trans po_23
  replace po_24 := (hs.o gq_16 trivial rfl).1.trans po_24
  replace fq_27 := (hs.o gq_16 trivial rfl).2.trans fq_27
  replace fq_29 := (hs.o gq_16 trivial rfl).2.trans fq_29
  replace f_32 := (hs.o gx trivial rfl).2.trans f_32
  replace f_36 := (hs.o gx trivial rfl).2.trans f_36
  replace f_41 := (hs.o gx trivial rfl).2.trans f_41
  replace po_49 := (hs.o gq_43 trivial rfl).1.trans po_49
  replace f_51 := (hs.o gx trivial rfl).2.trans f_51
  replace f_56 := (hs.o gx trivial rfl).2.trans f_56
  replace f_60 := (hs.o gx trivial rfl).2.trans f_60
  replace f_69 := (hs.o gx trivial rfl).2.trans f_69
  replace f_73 := (hs.o gx trivial rfl).2.trans f_73
  replace f_77 := (hs.o gx trivial rfl).2.trans f_77
  replace hz := hx_zr [0, 3, 4, 5, 7, 9, 10, 12, 14, 15, 16] hz hs gx trivial rfl
  replace za_3 : ∀ j, h_78.2.1 q_2 j = 0 ∧ h_78.2.2 q_2 j = none := fun j => ⟨(hs.a gq_2 rfl j).1.trans (za_3 j).1, (hs.a gq_2 rfl j).2.trans (za_3 j).2⟩
  replace za_39 : ∀ j, h_78.2.1 q_38 j = 0 ∧ h_78.2.2 q_38 j = none := fun j => ⟨(hs.a gq_38 rfl j).1.trans (za_39 j).1, (hs.a gq_38 rfl j).2.trans (za_39 j).2⟩
  replace za_54 : ∀ j, h_78.2.1 q_53 j = 0 ∧ h_78.2.2 q_53 j = none := fun j => ⟨(hs.a gq_53 rfl j).1.trans (za_54 j).1, (hs.a gq_53 rfl j).2.trans (za_54 j).2⟩
  replace nfw_28 : h_78.2.1 q_27 = fw_28 := (funext fun j => (hs.a gq_27 rfl j).1).trans nfw_28
  replace nfw_30 : h_78.2.1 q_29 = fw_30 := (funext fun j => (hs.a gq_29 rfl j).1).trans nfw_30
  replace hM := hM.tr (hs.mono (by decide))
  replace gx := gx.S hs
  replace gq_2 := gq_2.S hs
  replace gq_7 := gq_7.S hs
  replace gq_16 := gq_16.S hs
  replace gq_27 := gq_27.S hs
  replace gq_29 := gq_29.S hs
  replace gq_34 := gq_34.S hs
  replace gq_38 := gq_38.S hs
  replace gq_43 := gq_43.S hs
  replace gq_53 := gq_53.S hs
  replace gq_58 := gq_58.S hs
  replace gq_62 := gq_62.S hs
  replace gq_71 := gq_71.S hs
  replace gq_75 := gq_75.S hs
  have fz_80 : ∀ j, ([] : List Nat).contains j = false → h_78.2.1 q_79 j = 0 ∧ h_78.2.2 q_79 j = none := by rw [eh_78]; exact fun _ _ => ⟨hx_nw_i, hx_nw_r⟩
  refine lv_dup hx hb dX9_init_115 rfl ?_
  refine hx_gov (hx_runIN (As := []) (rest := [.ref q_79, .ref x]) ⟨hx, hb, hml, hown, hts⟩ hW (t_X5_init l dC dI dA (((L_64 ++ [q_71]) ++ [q_75]) ++ [q_79]) h_78 H.size q_79 hT gq_79 (fun j => fz_80 j rfl)) ⟨va_cnB 0 hts (hx_gC kw_256) rfl rfl rfl (hZ.1 _ (List.mem_of_getElem? (i := 4) rfl)) (hts _ kw_100) (by decide +kernel) ⟨Nat.le_of_ble_eq_true rfl, Nat.le_of_ble_eq_true rfl⟩, rfl, hts _ kw_255⟩ rfl hl.1 rfl (Nat.le_of_ble_eq_true rfl) dX9_init_116 ⟨Nat.le_of_ble_eq_true rfl, Nat.le_of_ble_eq_true rfl⟩) hW (fun L_81 h_82 H locs p_84 hW => ?_)
  obtain ⟨hT, hs, gNq_79⟩ := p_84
  replace hT : hx_T T_tb L_81 h_82 := hT
  replace hs : hx_S T_tb [(121, 2), (121, 3), (121, 4), (121, 5), (121, 6), (121, 7), (121, 8)] (hx_X (((L_64 ++ [q_71]) ++ [q_75]) ++ [q_79]) q_79) h_78 L_81 h_82 := hs
  have gx := hx_gX gx (gx.ne gq_79 (by decide))
  have gq_2 := hx_gX gq_2 (gq_2.ne gq_79 (by decide))
  have gq_7 := hx_gX gq_7 (gq_7.ne gq_79 (by decide))
  have gq_16 := hx_gX gq_16 (gq_16.ne gq_79 (by decide))
  have gq_27 := hx_gX gq_27 (gq_27.ne gq_79 (by decide))
  have gq_29 := hx_gX gq_29 (gq_29.ne gq_79 (by decide))
  have gq_34 := hx_gX gq_34 (gq_34.ne gq_79 (by decide))
  have gq_38 := hx_gX gq_38 (gq_38.ne gq_79 (by decide))
  have gq_43 := hx_gX gq_43 (gq_43.ne gq_79 (by decide))
  have gq_53 := hx_gX gq_53 (gq_53.ne gq_79 (by decide))
  have gq_58 := hx_gX gq_58 (gq_58.ne gq_79 (by decide))
  have gq_62 := hx_gX gq_62 (gq_62.ne gq_79 (by decide))
  have gq_71 := hx_gX gq_71 (gq_71.ne gq_79 (by decide))
  have gq_75 := hx_gX gq_75 (gq_75.ne gq_79 (by decide))
  replace f_5 := (hs.o gx trivial rfl).2.trans f_5
  replace f_14 := (hs.o gx trivial rfl).2.trans f_14
  replace po_22 := (hs.o gq_16 trivial rfl).1.trans po_22
  replace po_23 := (hs.o gq_16 trivial rfl).1.trans po_23
  replace po_24 := (hs.o gq_16 trivial rfl).1.trans po_24
  replace fq_27 := (hs.o gq_16 trivial rfl).2.trans fq_27
  replace fq_29 := (hs.o gq_16 trivial rfl).2.trans fq_29
  replace f_32 := (hs.o gx trivial rfl).2.trans f_32
  replace f_36 := (hs.o gx trivial rfl).2.trans f_36
  replace f_41 := (hs.o gx trivial rfl).2.trans f_41
  replace po_49 := (hs.o gq_43 trivial rfl).1.trans po_49
  replace f_51 := (hs.o gx trivial rfl).2.trans f_51
  replace f_56 := (hs.o gx trivial rfl).2.trans f_56
  replace f_60 := (hs.o gx trivial rfl).2.trans f_60
  replace f_69 := (hs.o gx trivial rfl).2.trans f_69
  replace f_73 := (hs.o gx trivial rfl).2.trans f_73
  replace f_77 := (hs.o gx trivial rfl).2.trans f_77
  replace hz := hx_zr [0, 3, 4, 5, 7, 9, 10, 12, 14, 15, 16] hz hs gx trivial rfl
  replace za_3 : ∀ j, h_82.2.1 q_2 j = 0 ∧ h_82.2.2 q_2 j = none := fun j => ⟨(hs.a gq_2 rfl j).1.trans (za_3 j).1, (hs.a gq_2 rfl j).2.trans (za_3 j).2⟩
  replace za_39 : ∀ j, h_82.2.1 q_38 j = 0 ∧ h_82.2.2 q_38 j = none := fun j => ⟨(hs.a gq_38 rfl j).1.trans (za_39 j).1, (hs.a gq_38 rfl j).2.trans (za_39 j).2⟩
  replace za_54 : ∀ j, h_82.2.1 q_53 j = 0 ∧ h_82.2.2 q_53 j = none := fun j => ⟨(hs.a gq_53 rfl j).1.trans (za_54 j).1, (hs.a gq_53 rfl j).2.trans (za_54 j).2⟩
  replace nfw_28 : h_82.2.1 q_27 = fw_28 := (funext fun j => (hs.a gq_27 rfl j).1).trans nfw_28
  replace nfw_30 : h_82.2.1 q_29 = fw_30 := (funext fun j => (hs.a gq_29 rfl j).1).trans nfw_30
  replace hM := hM.trX (hs.mono (by decide)) nq_q_79
  replace gx := gx.S hs
  replace gq_2 := gq_2.S hs
  replace gq_7 := gq_7.S hs
  replace gq_16 := gq_16.S hs
  replace gq_27 := gq_27.S hs
  replace gq_29 := gq_29.S hs
  replace gq_34 := gq_34.S hs
  replace gq_38 := gq_38.S hs
  replace gq_43 := gq_43.S hs
  replace gq_53 := gq_53.S hs
  replace gq_58 := gq_58.S hs
  replace gq_62 := gq_62.S hs
  replace gq_71 := gq_71.S hs
  replace gq_75 := gq_75.S hs
  have gq_79 : hx_g L_81 h_82 q_79 5 := gNq_79
  refine hx_putrF hx hb hts hC_9 hown hW hT (hx_S.rf (M := [(125, 17)])) gx tt_125 17 (by decide) rfl kw_381 ⟨rfl, rfl, rfl⟩ rfl hin rfl (x := (some q_79)) ⟨fun _ z => (by cases z), fun q hq => (by cases hq; exact ⟨gq_79.1, by rw [gq_79.2]; decide⟩)⟩ rfl rfl rfl (List.mem_singleton.mpr rfl) dX9_init_119 (fun H locs h_85 eh_85 hW hT hs => ?_)
  replace f_5 := (hs.o gx trivial rfl).2.trans f_5
  replace f_14 := (hs.o gx trivial rfl).2.trans f_14
  replace po_22 := (hs.o gq_16 trivial rfl).1.trans po_22
  replace po_23 := (hs.o gq_16 trivial rfl).1.trans po_23
  replace po_24 := (hs.o gq_16 trivial rfl).1.trans po_24
  replace fq_27 := (hs.o gq_16 trivial rfl).2.trans fq_27
  replace fq_29 := (hs.o gq_16 trivial rfl).2.trans fq_29
  replace f_32 := (hs.o gx trivial rfl).2.trans f_32
  replace f_36 := (hs.o gx trivial rfl).2.trans f_36
  replace f_41 := (hs.o gx trivial rfl).2.trans f_41
  replace po_49 := (hs.o gq_43 trivial rfl).1.trans po_49
  replace f_51 := (hs.o gx trivial rfl).2.trans f_51
  replace f_56 := (hs.o gx trivial rfl).2.trans f_56
  replace f_60 := (hs.o gx trivial rfl).2.trans f_60
  replace f_69 := (hs.o gx trivial rfl).2.trans f_69
  replace f_73 := (hs.o gx trivial rfl).2.trans f_73
  replace f_77 := (hs.o gx trivial rfl).2.trans f_77
  replace hz := hx_zr [0, 3, 4, 5, 7, 9, 10, 12, 14, 15, 16, 17] hz hs gx trivial rfl
  replace za_3 : ∀ j, h_85.2.1 q_2 j = 0 ∧ h_85.2.2 q_2 j = none := fun j => ⟨(hs.a gq_2 rfl j).1.trans (za_3 j).1, (hs.a gq_2 rfl j).2.trans (za_3 j).2⟩
  replace za_39 : ∀ j, h_85.2.1 q_38 j = 0 ∧ h_85.2.2 q_38 j = none := fun j => ⟨(hs.a gq_38 rfl j).1.trans (za_39 j).1, (hs.a gq_38 rfl j).2.trans (za_39 j).2⟩
  replace za_54 : ∀ j, h_85.2.1 q_53 j = 0 ∧ h_85.2.2 q_53 j = none := fun j => ⟨(hs.a gq_53 rfl j).1.trans (za_54 j).1, (hs.a gq_53 rfl j).2.trans (za_54 j).2⟩
  replace nfw_28 : h_85.2.1 q_27 = fw_28 := (funext fun j => (hs.a gq_27 rfl j).1).trans nfw_28
  replace nfw_30 : h_85.2.1 q_29 = fw_30 := (funext fun j => (hs.a gq_29 rfl j).1).trans nfw_30
  replace hM := hM.tr (hs.mono (by decide))
  replace gx := gx.S hs
  replace gq_2 := gq_2.S hs
  replace gq_7 := gq_7.S hs
  replace gq_16 := gq_16.S hs
  replace gq_27 := gq_27.S hs
  replace gq_29 := gq_29.S hs
  replace gq_34 := gq_34.S hs
  replace gq_38 := gq_38.S hs
  replace gq_43 := gq_43.S hs
  replace gq_53 := gq_53.S hs
  replace gq_58 := gq_58.S hs
  replace gq_62 := gq_62.S hs
  replace gq_71 := gq_71.S hs
  replace gq_75 := gq_75.S hs
  replace gq_79 := gq_79.S hs
  have f_86 : h_85.2.2 x 17 = (some q_79) := by rw [eh_85]; exact hx_pr_at _ _ _ _
  refine lv_aload_n hx hb dX9_init_122 rfl (lv_at hl 0 rfl) ?_
  refine hk_new hx hb hts hC_7 hown hW 123 tt_123 rfl (by decide) kw_303 kw_304 kw_101 (Nat.le_of_ble_eq_true rfl) (Nat.le_of_ble_eq_true rfl) dX9_init_123 (fun q_88 H h_87 eh_87 hqq_88 hW hs gq_88 => ?_)
  have nq_q_88 : ∀ a ∈ (hx_X L x), a ≠ q_88 := fun a ha z => hqq_88 (z ▸ (hM.1 a ha).1)
  have hT : hx_T T_tb (L_81 ++ [q_88]) h_87 := by rw [eh_87]; exact hx_T_nw hT hqq_88 tt_123 rfl
  replace f_5 := (hs.o gx trivial rfl).2.trans f_5
  replace f_14 := (hs.o gx trivial rfl).2.trans f_14
  replace po_22 := (hs.o gq_16 trivial rfl).1.trans po_22
  replace po_23 := (hs.o gq_16 trivial rfl).1.trans po_23
  replace po_24 := (hs.o gq_16 trivial rfl).1.trans po_24
  replace fq_27 := (hs.o gq_16 trivial rfl).2.trans fq_27
  replace fq_29 := (hs.o gq_16 trivial rfl).2.trans fq_29
  replace f_32 := (hs.o gx trivial rfl).2.trans f_32
  replace f_36 := (hs.o gx trivial rfl).2.trans f_36
  replace f_41 := (hs.o gx trivial rfl).2.trans f_41
  replace po_49 := (hs.o gq_43 trivial rfl).1.trans po_49
  replace f_51 := (hs.o gx trivial rfl).2.trans f_51
  replace f_56 := (hs.o gx trivial rfl).2.trans f_56
  replace f_60 := (hs.o gx trivial rfl).2.trans f_60
  replace f_69 := (hs.o gx trivial rfl).2.trans f_69
  replace f_73 := (hs.o gx trivial rfl).2.trans f_73
  replace f_77 := (hs.o gx trivial rfl).2.trans f_77
  replace f_86 := (hs.o gx trivial rfl).2.trans f_86
  replace hz := hx_zr [0, 3, 4, 5, 7, 9, 10, 12, 14, 15, 16, 17] hz hs gx trivial rfl
  replace za_3 : ∀ j, h_87.2.1 q_2 j = 0 ∧ h_87.2.2 q_2 j = none := fun j => ⟨(hs.a gq_2 rfl j).1.trans (za_3 j).1, (hs.a gq_2 rfl j).2.trans (za_3 j).2⟩
  replace za_39 : ∀ j, h_87.2.1 q_38 j = 0 ∧ h_87.2.2 q_38 j = none := fun j => ⟨(hs.a gq_38 rfl j).1.trans (za_39 j).1, (hs.a gq_38 rfl j).2.trans (za_39 j).2⟩
  replace za_54 : ∀ j, h_87.2.1 q_53 j = 0 ∧ h_87.2.2 q_53 j = none := fun j => ⟨(hs.a gq_53 rfl j).1.trans (za_54 j).1, (hs.a gq_53 rfl j).2.trans (za_54 j).2⟩
  replace nfw_28 : h_87.2.1 q_27 = fw_28 := (funext fun j => (hs.a gq_27 rfl j).1).trans nfw_28
  replace nfw_30 : h_87.2.1 q_29 = fw_30 := (funext fun j => (hs.a gq_29 rfl j).1).trans nfw_30
  replace hM := hM.tr (hs.mono (by decide))
  replace gx := gx.S hs
  replace gq_2 := gq_2.S hs
  replace gq_7 := gq_7.S hs
  replace gq_16 := gq_16.S hs
  replace gq_27 := gq_27.S hs
  replace gq_29 := gq_29.S hs
  replace gq_34 := gq_34.S hs
  replace gq_38 := gq_38.S hs
  replace gq_43 := gq_43.S hs
  replace gq_53 := gq_53.S hs
  replace gq_58 := gq_58.S hs
  replace gq_62 := gq_62.S hs
  replace gq_71 := gq_71.S hs
  replace gq_75 := gq_75.S hs
  replace gq_79 := gq_79.S hs
  have fz_89 : ∀ j, ([] : List Nat).contains j = false → h_87.2.1 q_88 j = 0 ∧ h_87.2.2 q_88 j = none := by rw [eh_87]; exact fun _ _ => ⟨hx_nw_i, hx_nw_r⟩
  refine lv_dup hx hb dX9_init_126 rfl ?_
  refine hx_gov (hx_runIN (As := []) (rest := [.ref q_88, .ref x]) ⟨hx, hb, hml, hown, hts⟩ hW (t_X7_init l dC dI dA (L_81 ++ [q_88]) h_87 H.size q_88 hT gq_88 (fun j => fz_89 j rfl)) ⟨va_cnB 0 hts (hx_gC kw_307) rfl rfl rfl (hZ.1 _ (List.mem_of_getElem? (i := 5) rfl)) (hts _ kw_101) (by decide +kernel) ⟨Nat.le_of_ble_eq_true rfl, Nat.le_of_ble_eq_true rfl⟩, rfl, hts _ kw_306⟩ rfl hl.1 rfl (Nat.le_of_ble_eq_true rfl) dX9_init_127 ⟨Nat.le_of_ble_eq_true rfl, Nat.le_of_ble_eq_true rfl⟩) hW (fun L_90 h_91 H locs p_93 hW => ?_)
  obtain ⟨hT, hs, gNq_88⟩ := p_93
  replace hT : hx_T T_tb L_90 h_91 := hT
  replace hs : hx_S T_tb [(123, 0), (123, 3), (123, 5), (123, 6), (123, 7)] (hx_X (L_81 ++ [q_88]) q_88) h_87 L_90 h_91 := hs
  have gx := hx_gX gx (gx.ne gq_88 (by decide))
  have gq_2 := hx_gX gq_2 (gq_2.ne gq_88 (by decide))
  have gq_7 := hx_gX gq_7 (gq_7.ne gq_88 (by decide))
  have gq_16 := hx_gX gq_16 (gq_16.ne gq_88 (by decide))
  have gq_27 := hx_gX gq_27 (gq_27.ne gq_88 (by decide))
  have gq_29 := hx_gX gq_29 (gq_29.ne gq_88 (by decide))
  have gq_34 := hx_gX gq_34 (gq_34.ne gq_88 (by decide))
  have gq_38 := hx_gX gq_38 (gq_38.ne gq_88 (by decide))
  have gq_43 := hx_gX gq_43 (gq_43.ne gq_88 (by decide))
  have gq_53 := hx_gX gq_53 (gq_53.ne gq_88 (by decide))
  have gq_58 := hx_gX gq_58 (gq_58.ne gq_88 (by decide))
  have gq_62 := hx_gX gq_62 (gq_62.ne gq_88 (by decide))
  have gq_71 := hx_gX gq_71 (gq_71.ne gq_88 (by decide))
  have gq_75 := hx_gX gq_75 (gq_75.ne gq_88 (by decide))
  have gq_79 := hx_gX gq_79 (gq_79.ne gq_88 (by decide))
  replace f_5 := (hs.o gx trivial rfl).2.trans f_5
  replace f_14 := (hs.o gx trivial rfl).2.trans f_14
  replace po_22 := (hs.o gq_16 trivial rfl).1.trans po_22
  replace po_23 := (hs.o gq_16 trivial rfl).1.trans po_23
  replace po_24 := (hs.o gq_16 trivial rfl).1.trans po_24
  replace fq_27 := (hs.o gq_16 trivial rfl).2.trans fq_27
  replace fq_29 := (hs.o gq_16 trivial rfl).2.trans fq_29
  replace f_32 := (hs.o gx trivial rfl).2.trans f_32
  replace f_36 := (hs.o gx trivial rfl).2.trans f_36
  replace f_41 := (hs.o gx trivial rfl).2.trans f_41
  replace po_49 := (hs.o gq_43 trivial rfl).1.trans po_49
  replace f_51 := (hs.o gx trivial rfl).2.trans f_51
  replace f_56 := (hs.o gx trivial rfl).2.trans f_56
  replace f_60 := (hs.o gx trivial rfl).2.trans f_60
  replace f_69 := (hs.o gx trivial rfl).2.trans f_69
  replace f_73 := (hs.o gx trivial rfl).2.trans f_73
  replace f_77 := (hs.o gx trivial rfl).2.trans f_77
  replace f_86 := (hs.o gx trivial rfl).2.trans f_86
  replace hz := hx_zr [0, 3, 4, 5, 7, 9, 10, 12, 14, 15, 16, 17] hz hs gx trivial rfl
  replace za_3 : ∀ j, h_91.2.1 q_2 j = 0 ∧ h_91.2.2 q_2 j = none := fun j => ⟨(hs.a gq_2 rfl j).1.trans (za_3 j).1, (hs.a gq_2 rfl j).2.trans (za_3 j).2⟩
  replace za_39 : ∀ j, h_91.2.1 q_38 j = 0 ∧ h_91.2.2 q_38 j = none := fun j => ⟨(hs.a gq_38 rfl j).1.trans (za_39 j).1, (hs.a gq_38 rfl j).2.trans (za_39 j).2⟩
  replace za_54 : ∀ j, h_91.2.1 q_53 j = 0 ∧ h_91.2.2 q_53 j = none := fun j => ⟨(hs.a gq_53 rfl j).1.trans (za_54 j).1, (hs.a gq_53 rfl j).2.trans (za_54 j).2⟩
  replace nfw_28 : h_91.2.1 q_27 = fw_28 := (funext fun j => (hs.a gq_27 rfl j).1).trans nfw_28
  replace nfw_30 : h_91.2.1 q_29 = fw_30 := (funext fun j => (hs.a gq_29 rfl j).1).trans nfw_30
  replace hM := hM.trX (hs.mono (by decide)) nq_q_88
  replace gx := gx.S hs
  replace gq_2 := gq_2.S hs
  replace gq_7 := gq_7.S hs
  replace gq_16 := gq_16.S hs
  replace gq_27 := gq_27.S hs
  replace gq_29 := gq_29.S hs
  replace gq_34 := gq_34.S hs
  replace gq_38 := gq_38.S hs
  replace gq_43 := gq_43.S hs
  replace gq_53 := gq_53.S hs
  replace gq_58 := gq_58.S hs
  replace gq_62 := gq_62.S hs
  replace gq_71 := gq_71.S hs
  replace gq_75 := gq_75.S hs
  replace gq_79 := gq_79.S hs
  have gq_88 : hx_g L_90 h_91 q_88 7 := gNq_88
  refine hx_putrF hx hb hts hC_9 hown hW hT (hx_S.rf (M := [(125, 18)])) gx tt_125 18 (by decide) rfl kw_382 ⟨rfl, rfl, rfl⟩ rfl hin rfl (x := (some q_88)) ⟨fun _ z => (by cases z), fun q hq => (by cases hq; exact ⟨gq_88.1, by rw [gq_88.2]; decide⟩)⟩ rfl rfl rfl (List.mem_singleton.mpr rfl) dX9_init_130 (fun H locs h_94 eh_94 hW hT hs => ?_)
  replace f_5 := (hs.o gx trivial rfl).2.trans f_5
  replace f_14 := (hs.o gx trivial rfl).2.trans f_14
  replace po_22 := (hs.o gq_16 trivial rfl).1.trans po_22
  replace po_23 := (hs.o gq_16 trivial rfl).1.trans po_23
  replace po_24 := (hs.o gq_16 trivial rfl).1.trans po_24
  replace fq_27 := (hs.o gq_16 trivial rfl).2.trans fq_27
  replace fq_29 := (hs.o gq_16 trivial rfl).2.trans fq_29
  replace f_32 := (hs.o gx trivial rfl).2.trans f_32
  replace f_36 := (hs.o gx trivial rfl).2.trans f_36
  replace f_41 := (hs.o gx trivial rfl).2.trans f_41
  replace po_49 := (hs.o gq_43 trivial rfl).1.trans po_49
  replace f_51 := (hs.o gx trivial rfl).2.trans f_51
  replace f_56 := (hs.o gx trivial rfl).2.trans f_56
  replace f_60 := (hs.o gx trivial rfl).2.trans f_60
  replace f_69 := (hs.o gx trivial rfl).2.trans f_69
  replace f_73 := (hs.o gx trivial rfl).2.trans f_73
  replace f_77 := (hs.o gx trivial rfl).2.trans f_77
  replace f_86 := (hs.o gx trivial rfl).2.trans f_86
  replace hz := hx_zr [0, 3, 4, 5, 7, 9, 10, 12, 14, 15, 16, 17, 18] hz hs gx trivial rfl
  replace za_3 : ∀ j, h_94.2.1 q_2 j = 0 ∧ h_94.2.2 q_2 j = none := fun j => ⟨(hs.a gq_2 rfl j).1.trans (za_3 j).1, (hs.a gq_2 rfl j).2.trans (za_3 j).2⟩
  replace za_39 : ∀ j, h_94.2.1 q_38 j = 0 ∧ h_94.2.2 q_38 j = none := fun j => ⟨(hs.a gq_38 rfl j).1.trans (za_39 j).1, (hs.a gq_38 rfl j).2.trans (za_39 j).2⟩
  replace za_54 : ∀ j, h_94.2.1 q_53 j = 0 ∧ h_94.2.2 q_53 j = none := fun j => ⟨(hs.a gq_53 rfl j).1.trans (za_54 j).1, (hs.a gq_53 rfl j).2.trans (za_54 j).2⟩
  replace nfw_28 : h_94.2.1 q_27 = fw_28 := (funext fun j => (hs.a gq_27 rfl j).1).trans nfw_28
  replace nfw_30 : h_94.2.1 q_29 = fw_30 := (funext fun j => (hs.a gq_29 rfl j).1).trans nfw_30
  replace hM := hM.tr (hs.mono (by decide))
  replace gx := gx.S hs
  replace gq_2 := gq_2.S hs
  replace gq_7 := gq_7.S hs
  replace gq_16 := gq_16.S hs
  replace gq_27 := gq_27.S hs
  replace gq_29 := gq_29.S hs
  replace gq_34 := gq_34.S hs
  replace gq_38 := gq_38.S hs
  replace gq_43 := gq_43.S hs
  replace gq_53 := gq_53.S hs
  replace gq_58 := gq_58.S hs
  replace gq_62 := gq_62.S hs
  replace gq_71 := gq_71.S hs
  replace gq_75 := gq_75.S hs
  replace gq_79 := gq_79.S hs
  replace gq_88 := gq_88.S hs
  have f_95 : h_94.2.2 x 18 = (some q_88) := by rw [eh_94]; exact hx_pr_at _ _ _ _
  refine lv_aload_n hx hb dX9_init_133 rfl (lv_at hl 0 rfl) ?_
  refine hk_new hx hb hts hC_8 hown hW 124 tt_124 rfl (by decide) kw_338 kw_339 kw_102 (Nat.le_of_ble_eq_true rfl) (Nat.le_of_ble_eq_true rfl) dX9_init_134 (fun q_97 H h_96 eh_96 hqq_97 hW hs gq_97 => ?_)
  have nq_q_97 : ∀ a ∈ (hx_X L x), a ≠ q_97 := fun a ha z => hqq_97 (z ▸ (hM.1 a ha).1)
  have hT : hx_T T_tb (L_90 ++ [q_97]) h_96 := by rw [eh_96]; exact hx_T_nw hT hqq_97 tt_124 rfl
  replace f_5 := (hs.o gx trivial rfl).2.trans f_5
  replace f_14 := (hs.o gx trivial rfl).2.trans f_14
  replace po_22 := (hs.o gq_16 trivial rfl).1.trans po_22
  replace po_23 := (hs.o gq_16 trivial rfl).1.trans po_23
  replace po_24 := (hs.o gq_16 trivial rfl).1.trans po_24
  replace fq_27 := (hs.o gq_16 trivial rfl).2.trans fq_27
  replace fq_29 := (hs.o gq_16 trivial rfl).2.trans fq_29
  replace f_32 := (hs.o gx trivial rfl).2.trans f_32
  replace f_36 := (hs.o gx trivial rfl).2.trans f_36
  replace f_41 := (hs.o gx trivial rfl).2.trans f_41
  replace po_49 := (hs.o gq_43 trivial rfl).1.trans po_49
  replace f_51 := (hs.o gx trivial rfl).2.trans f_51
  replace f_56 := (hs.o gx trivial rfl).2.trans f_56
  replace f_60 := (hs.o gx trivial rfl).2.trans f_60
  replace f_69 := (hs.o gx trivial rfl).2.trans f_69
  replace f_73 := (hs.o gx trivial rfl).2.trans f_73
  replace f_77 := (hs.o gx trivial rfl).2.trans f_77
  replace f_86 := (hs.o gx trivial rfl).2.trans f_86
  replace f_95 := (hs.o gx trivial rfl).2.trans f_95
  replace hz := hx_zr [0, 3, 4, 5, 7, 9, 10, 12, 14, 15, 16, 17, 18] hz hs gx trivial rfl
  replace za_3 : ∀ j, h_96.2.1 q_2 j = 0 ∧ h_96.2.2 q_2 j = none := fun j => ⟨(hs.a gq_2 rfl j).1.trans (za_3 j).1, (hs.a gq_2 rfl j).2.trans (za_3 j).2⟩
  replace za_39 : ∀ j, h_96.2.1 q_38 j = 0 ∧ h_96.2.2 q_38 j = none := fun j => ⟨(hs.a gq_38 rfl j).1.trans (za_39 j).1, (hs.a gq_38 rfl j).2.trans (za_39 j).2⟩
  replace za_54 : ∀ j, h_96.2.1 q_53 j = 0 ∧ h_96.2.2 q_53 j = none := fun j => ⟨(hs.a gq_53 rfl j).1.trans (za_54 j).1, (hs.a gq_53 rfl j).2.trans (za_54 j).2⟩
  replace nfw_28 : h_96.2.1 q_27 = fw_28 := (funext fun j => (hs.a gq_27 rfl j).1).trans nfw_28
  replace nfw_30 : h_96.2.1 q_29 = fw_30 := (funext fun j => (hs.a gq_29 rfl j).1).trans nfw_30
  replace hM := hM.tr (hs.mono (by decide))
  replace gx := gx.S hs
  replace gq_2 := gq_2.S hs
  replace gq_7 := gq_7.S hs
  replace gq_16 := gq_16.S hs
  replace gq_27 := gq_27.S hs
  replace gq_29 := gq_29.S hs
  replace gq_34 := gq_34.S hs
  replace gq_38 := gq_38.S hs
  replace gq_43 := gq_43.S hs
  replace gq_53 := gq_53.S hs
  replace gq_58 := gq_58.S hs
  replace gq_62 := gq_62.S hs
  replace gq_71 := gq_71.S hs
  replace gq_75 := gq_75.S hs
  replace gq_79 := gq_79.S hs
  replace gq_88 := gq_88.S hs
  have fz_98 : ∀ j, ([] : List Nat).contains j = false → h_96.2.1 q_97 j = 0 ∧ h_96.2.2 q_97 j = none := by rw [eh_96]; exact fun _ _ => ⟨hx_nw_i, hx_nw_r⟩
  refine lv_dup hx hb dX9_init_137 rfl ?_
  refine hx_gov (hx_runINX (As := []) (rest := [.ref q_97, .ref x]) ⟨hx, hb, hml, hown, hts⟩ hW (t_X8_init l dC dI dA (L_90 ++ [q_97]) h_96 H.size b0 q_97 hT gq_97 (fun j => fz_98 j rfl)) hZ ⟨va_cnB 0 hts (hx_gC kw_342) rfl rfl rfl (hZ.1 _ (List.mem_of_getElem? (i := 6) rfl)) (hts _ kw_102) (by decide +kernel) ⟨Nat.le_of_ble_eq_true rfl, Nat.le_of_ble_eq_true rfl⟩, rfl, hts _ kw_341⟩ rfl hl.1 rfl (Nat.le_of_ble_eq_true rfl) dX9_init_138 ⟨Nat.le_of_ble_eq_true rfl, Nat.le_of_ble_eq_true rfl⟩) hW (fun L_99 h_100 H locs p_102 hW => ?_)
  obtain ⟨hT, hs, gNq_97, po_103, po_104, po_105⟩ := p_102
  replace hT : hx_T T_tb L_99 h_100 := hT
  replace hs : hx_S T_tb [(124, 2), (124, 3), (124, 4)] (hx_X (L_90 ++ [q_97]) q_97) h_96 L_99 h_100 := hs
  have gx := hx_gX gx (gx.ne gq_97 (by decide))
  have gq_2 := hx_gX gq_2 (gq_2.ne gq_97 (by decide))
  have gq_7 := hx_gX gq_7 (gq_7.ne gq_97 (by decide))
  have gq_16 := hx_gX gq_16 (gq_16.ne gq_97 (by decide))
  have gq_27 := hx_gX gq_27 (gq_27.ne gq_97 (by decide))
  have gq_29 := hx_gX gq_29 (gq_29.ne gq_97 (by decide))
  have gq_34 := hx_gX gq_34 (gq_34.ne gq_97 (by decide))
  have gq_38 := hx_gX gq_38 (gq_38.ne gq_97 (by decide))
  have gq_43 := hx_gX gq_43 (gq_43.ne gq_97 (by decide))
  have gq_53 := hx_gX gq_53 (gq_53.ne gq_97 (by decide))
  have gq_58 := hx_gX gq_58 (gq_58.ne gq_97 (by decide))
  have gq_62 := hx_gX gq_62 (gq_62.ne gq_97 (by decide))
  have gq_71 := hx_gX gq_71 (gq_71.ne gq_97 (by decide))
  have gq_75 := hx_gX gq_75 (gq_75.ne gq_97 (by decide))
  have gq_79 := hx_gX gq_79 (gq_79.ne gq_97 (by decide))
  have gq_88 := hx_gX gq_88 (gq_88.ne gq_97 (by decide))
  replace f_5 := (hs.o gx trivial rfl).2.trans f_5
  replace f_14 := (hs.o gx trivial rfl).2.trans f_14
  replace po_22 := (hs.o gq_16 trivial rfl).1.trans po_22
  replace po_23 := (hs.o gq_16 trivial rfl).1.trans po_23
  replace po_24 := (hs.o gq_16 trivial rfl).1.trans po_24
  replace fq_27 := (hs.o gq_16 trivial rfl).2.trans fq_27
  replace fq_29 := (hs.o gq_16 trivial rfl).2.trans fq_29
  replace f_32 := (hs.o gx trivial rfl).2.trans f_32
  replace f_36 := (hs.o gx trivial rfl).2.trans f_36
  replace f_41 := (hs.o gx trivial rfl).2.trans f_41
  replace po_49 := (hs.o gq_43 trivial rfl).1.trans po_49
  replace f_51 := (hs.o gx trivial rfl).2.trans f_51
  replace f_56 := (hs.o gx trivial rfl).2.trans f_56
  replace f_60 := (hs.o gx trivial rfl).2.trans f_60
  replace f_69 := (hs.o gx trivial rfl).2.trans f_69
  replace f_73 := (hs.o gx trivial rfl).2.trans f_73
  replace f_77 := (hs.o gx trivial rfl).2.trans f_77
  replace f_86 := (hs.o gx trivial rfl).2.trans f_86
  replace f_95 := (hs.o gx trivial rfl).2.trans f_95
  replace hz := hx_zr [0, 3, 4, 5, 7, 9, 10, 12, 14, 15, 16, 17, 18] hz hs gx trivial rfl
  replace za_3 : ∀ j, h_100.2.1 q_2 j = 0 ∧ h_100.2.2 q_2 j = none := fun j => ⟨(hs.a gq_2 rfl j).1.trans (za_3 j).1, (hs.a gq_2 rfl j).2.trans (za_3 j).2⟩
  replace za_39 : ∀ j, h_100.2.1 q_38 j = 0 ∧ h_100.2.2 q_38 j = none := fun j => ⟨(hs.a gq_38 rfl j).1.trans (za_39 j).1, (hs.a gq_38 rfl j).2.trans (za_39 j).2⟩
  replace za_54 : ∀ j, h_100.2.1 q_53 j = 0 ∧ h_100.2.2 q_53 j = none := fun j => ⟨(hs.a gq_53 rfl j).1.trans (za_54 j).1, (hs.a gq_53 rfl j).2.trans (za_54 j).2⟩
  replace nfw_28 : h_100.2.1 q_27 = fw_28 := (funext fun j => (hs.a gq_27 rfl j).1).trans nfw_28
  replace nfw_30 : h_100.2.1 q_29 = fw_30 := (funext fun j => (hs.a gq_29 rfl j).1).trans nfw_30
  replace hM := hM.trX (hs.mono (by decide)) nq_q_97
  replace gx := gx.S hs
  replace gq_2 := gq_2.S hs
  replace gq_7 := gq_7.S hs
  replace gq_16 := gq_16.S hs
  replace gq_27 := gq_27.S hs
  replace gq_29 := gq_29.S hs
  replace gq_34 := gq_34.S hs
  replace gq_38 := gq_38.S hs
  replace gq_43 := gq_43.S hs
  replace gq_53 := gq_53.S hs
  replace gq_58 := gq_58.S hs
  replace gq_62 := gq_62.S hs
  replace gq_71 := gq_71.S hs
  replace gq_75 := gq_75.S hs
  replace gq_79 := gq_79.S hs
  replace gq_88 := gq_88.S hs
  have gq_97 : hx_g L_99 h_100 q_97 8 := gNq_97
  have po_103 : h_100.2.1 q_97 0 = 0 := po_103
  have po_104 : h_100.2.1 q_97 1 = 0 := po_104
  obtain ⟨q_106, fq_106, gq_106, po_105⟩ := po_105
  have fq_106 : h_100.2.2 q_97 3 = some q_106 := fq_106
  have gq_106 : hx_g L_99 h_100 q_106 40 := gq_106
  have po_105 : ∀ j, h_100.2.1 q_106 j = 0 ∧ h_100.2.2 q_106 j = none := po_105
  refine hx_putrF hx hb hts hC_9 hown hW hT (hx_S.rf (M := [(125, 19)])) gx tt_125 19 (by decide) rfl kw_383 ⟨rfl, rfl, rfl⟩ rfl hin rfl (x := (some q_97)) ⟨fun _ z => (by cases z), fun q hq => (by cases hq; exact ⟨gq_97.1, by rw [gq_97.2]; decide⟩)⟩ rfl rfl rfl (List.mem_singleton.mpr rfl) dX9_init_141 (fun H locs h_107 eh_107 hW hT hs => ?_)
  replace f_5 := (hs.o gx trivial rfl).2.trans f_5
  replace f_14 := (hs.o gx trivial rfl).2.trans f_14
  replace po_22 := (hs.o gq_16 trivial rfl).1.trans po_22
  replace po_23 := (hs.o gq_16 trivial rfl).1.trans po_23
  replace po_24 := (hs.o gq_16 trivial rfl).1.trans po_24
  replace fq_27 := (hs.o gq_16 trivial rfl).2.trans fq_27
  replace fq_29 := (hs.o gq_16 trivial rfl).2.trans fq_29
  replace f_32 := (hs.o gx trivial rfl).2.trans f_32
  replace f_36 := (hs.o gx trivial rfl).2.trans f_36
  replace f_41 := (hs.o gx trivial rfl).2.trans f_41
  replace po_49 := (hs.o gq_43 trivial rfl).1.trans po_49
  replace f_51 := (hs.o gx trivial rfl).2.trans f_51
  replace f_56 := (hs.o gx trivial rfl).2.trans f_56
  replace f_60 := (hs.o gx trivial rfl).2.trans f_60
  replace f_69 := (hs.o gx trivial rfl).2.trans f_69
  replace f_73 := (hs.o gx trivial rfl).2.trans f_73
  replace f_77 := (hs.o gx trivial rfl).2.trans f_77
  replace f_86 := (hs.o gx trivial rfl).2.trans f_86
  replace f_95 := (hs.o gx trivial rfl).2.trans f_95
  replace po_103 := (hs.o gq_97 trivial rfl).1.trans po_103
  replace po_104 := (hs.o gq_97 trivial rfl).1.trans po_104
  replace fq_106 := (hs.o gq_97 trivial rfl).2.trans fq_106
  replace hz := hx_zr [0, 3, 4, 5, 7, 9, 10, 12, 14, 15, 16, 17, 18, 19] hz hs gx trivial rfl
  replace za_3 : ∀ j, h_107.2.1 q_2 j = 0 ∧ h_107.2.2 q_2 j = none := fun j => ⟨(hs.a gq_2 rfl j).1.trans (za_3 j).1, (hs.a gq_2 rfl j).2.trans (za_3 j).2⟩
  replace za_39 : ∀ j, h_107.2.1 q_38 j = 0 ∧ h_107.2.2 q_38 j = none := fun j => ⟨(hs.a gq_38 rfl j).1.trans (za_39 j).1, (hs.a gq_38 rfl j).2.trans (za_39 j).2⟩
  replace za_54 : ∀ j, h_107.2.1 q_53 j = 0 ∧ h_107.2.2 q_53 j = none := fun j => ⟨(hs.a gq_53 rfl j).1.trans (za_54 j).1, (hs.a gq_53 rfl j).2.trans (za_54 j).2⟩
  replace po_105 : ∀ j, h_107.2.1 q_106 j = 0 ∧ h_107.2.2 q_106 j = none := fun j => ⟨(hs.a gq_106 rfl j).1.trans (po_105 j).1, (hs.a gq_106 rfl j).2.trans (po_105 j).2⟩
  replace nfw_28 : h_107.2.1 q_27 = fw_28 := (funext fun j => (hs.a gq_27 rfl j).1).trans nfw_28
  replace nfw_30 : h_107.2.1 q_29 = fw_30 := (funext fun j => (hs.a gq_29 rfl j).1).trans nfw_30
  replace hM := hM.tr (hs.mono (by decide))
  replace gx := gx.S hs
  replace gq_2 := gq_2.S hs
  replace gq_7 := gq_7.S hs
  replace gq_16 := gq_16.S hs
  replace gq_27 := gq_27.S hs
  replace gq_29 := gq_29.S hs
  replace gq_34 := gq_34.S hs
  replace gq_38 := gq_38.S hs
  replace gq_43 := gq_43.S hs
  replace gq_53 := gq_53.S hs
  replace gq_58 := gq_58.S hs
  replace gq_62 := gq_62.S hs
  replace gq_71 := gq_71.S hs
  replace gq_75 := gq_75.S hs
  replace gq_79 := gq_79.S hs
  replace gq_88 := gq_88.S hs
  replace gq_97 := gq_97.S hs
  replace gq_106 := gq_106.S hs
  have f_108 : h_107.2.2 x 19 = (some q_97) := by rw [eh_107]; exact hx_pr_at _ _ _ _
  have f_109 : h_107.2.1 x 2 = 0 := (hz 2 rfl).1
  have f_110 : h_107.2.1 x 6 = 0 := (hz 6 rfl).1
  have f_111 : h_107.2.1 x 8 = 0 := (hz 8 rfl).1
  have f_112 : h_107.2.1 x 11 = 0 := (hz 11 rfl).1
  have f_113 : h_107.2.1 x 13 = 0 := (hz 13 rfl).1
  have f_114 : h_107.2.1 x 1 = 0 := (hz 1 rfl).1
  have hF : hx_F (fun k f => hx_o L_99 h_107 f (h_107.2.1 x k) (h_107.2.2 x k)) T_f9 0 := ⟨hx_or f_5 gq_2 (by decide), hx_oi f_114 (by decide), hx_oi f_109 (by decide), hx_or f_14 gq_7 (by decide), hx_or f_32 gq_16 (by decide), hx_or f_36 gq_34 (by decide), hx_oi f_110 (by decide), hx_or f_41 gq_38 (by decide), hx_oi f_111 (by decide), hx_or f_51 gq_43 (by decide), hx_or f_56 gq_53 (by decide), hx_oi f_112 (by decide), hx_or f_60 gq_58 (by decide), hx_oi f_113 (by decide), hx_or f_69 gq_62 (by decide), hx_or f_73 gq_71 (by decide), hx_or f_77 gq_75 (by decide), hx_or f_86 gq_79 (by decide), hx_or f_95 gq_88 (by decide), hx_or f_108 gq_97 (by decide), trivial⟩
  have hT := hx_T_rt hT gx tt_9 rfl (hx_F_all hF)
  have hW := hx_W_rt hW gx tt_125 tt_9 (fun _ _ => rfl)
  have hM := hx_SX_rt (x := x) (t := 9) hM
  have gq_2 := hx_rt_o (t := 9) gq_2 (gq_2.ne gx (by decide))
  have gq_7 := hx_rt_o (t := 9) gq_7 (gq_7.ne gx (by decide))
  have gq_16 := hx_rt_o (t := 9) gq_16 (gq_16.ne gx (by decide))
  have gq_27 := hx_rt_o (t := 9) gq_27 (gq_27.ne gx (by decide))
  have gq_29 := hx_rt_o (t := 9) gq_29 (gq_29.ne gx (by decide))
  have gq_34 := hx_rt_o (t := 9) gq_34 (gq_34.ne gx (by decide))
  have gq_38 := hx_rt_o (t := 9) gq_38 (gq_38.ne gx (by decide))
  have gq_43 := hx_rt_o (t := 9) gq_43 (gq_43.ne gx (by decide))
  have gq_53 := hx_rt_o (t := 9) gq_53 (gq_53.ne gx (by decide))
  have gq_58 := hx_rt_o (t := 9) gq_58 (gq_58.ne gx (by decide))
  have gq_62 := hx_rt_o (t := 9) gq_62 (gq_62.ne gx (by decide))
  have gq_71 := hx_rt_o (t := 9) gq_71 (gq_71.ne gx (by decide))
  have gq_75 := hx_rt_o (t := 9) gq_75 (gq_75.ne gx (by decide))
  have gq_79 := hx_rt_o (t := 9) gq_79 (gq_79.ne gx (by decide))
  have gq_88 := hx_rt_o (t := 9) gq_88 (gq_88.ne gx (by decide))
  have gq_97 := hx_rt_o (t := 9) gq_97 (gq_97.ne gx (by decide))
  have gq_106 := hx_rt_o (t := 9) gq_106 (gq_106.ne gx (by decide))
  have gx := hx_rt_g (t := 9) gx
  have f_5 : (hx_rt h_107 x 9).2.2 x 0 = some q_2 := f_5
  have f_14 : (hx_rt h_107 x 9).2.2 x 3 = some q_7 := f_14
  have po_22 : (hx_rt h_107 x 9).2.1 q_16 0 = (-1 : Int32) := po_22
  have po_23 : (hx_rt h_107 x 9).2.1 q_16 1 = (-1 : Int32) := po_23
  have po_24 : (hx_rt h_107 x 9).2.1 q_16 4 = (3 : Int32) := po_24
  have fq_27 : (hx_rt h_107 x 9).2.2 q_16 2 = some q_27 := fq_27
  have fq_29 : (hx_rt h_107 x 9).2.2 q_16 3 = some q_29 := fq_29
  have f_32 : (hx_rt h_107 x 9).2.2 x 4 = some q_16 := f_32
  have f_36 : (hx_rt h_107 x 9).2.2 x 5 = some q_34 := f_36
  have f_41 : (hx_rt h_107 x 9).2.2 x 7 = some q_38 := f_41
  have po_49 : (hx_rt h_107 x 9).2.1 q_43 0 = (0 : Int32) := po_49
  have f_51 : (hx_rt h_107 x 9).2.2 x 9 = some q_43 := f_51
  have f_56 : (hx_rt h_107 x 9).2.2 x 10 = some q_53 := f_56
  have f_60 : (hx_rt h_107 x 9).2.2 x 12 = some q_58 := f_60
  have f_69 : (hx_rt h_107 x 9).2.2 x 14 = some q_62 := f_69
  have f_73 : (hx_rt h_107 x 9).2.2 x 15 = some q_71 := f_73
  have f_77 : (hx_rt h_107 x 9).2.2 x 16 = some q_75 := f_77
  have f_86 : (hx_rt h_107 x 9).2.2 x 17 = some q_79 := f_86
  have f_95 : (hx_rt h_107 x 9).2.2 x 18 = some q_88 := f_95
  have po_103 : (hx_rt h_107 x 9).2.1 q_97 0 = (0 : Int32) := po_103
  have po_104 : (hx_rt h_107 x 9).2.1 q_97 1 = (0 : Int32) := po_104
  have fq_106 : (hx_rt h_107 x 9).2.2 q_97 3 = some q_106 := fq_106
  have f_108 : (hx_rt h_107 x 9).2.2 x 19 = some q_97 := f_108
  have f_109 : (hx_rt h_107 x 9).2.1 x 2 = (0 : Int32) := f_109
  have f_110 : (hx_rt h_107 x 9).2.1 x 6 = (0 : Int32) := f_110
  have f_111 : (hx_rt h_107 x 9).2.1 x 8 = (0 : Int32) := f_111
  have f_112 : (hx_rt h_107 x 9).2.1 x 11 = (0 : Int32) := f_112
  have f_113 : (hx_rt h_107 x 9).2.1 x 13 = (0 : Int32) := f_113
  have f_114 : (hx_rt h_107 x 9).2.1 x 1 = (0 : Int32) := f_114
  have za_3 : ∀ j, (hx_rt h_107 x 9).2.1 q_2 j = 0 ∧ (hx_rt h_107 x 9).2.2 q_2 j = none := za_3
  have za_39 : ∀ j, (hx_rt h_107 x 9).2.1 q_38 j = 0 ∧ (hx_rt h_107 x 9).2.2 q_38 j = none := za_39
  have za_54 : ∀ j, (hx_rt h_107 x 9).2.1 q_53 j = 0 ∧ (hx_rt h_107 x 9).2.2 q_53 j = none := za_54
  have po_105 : ∀ j, (hx_rt h_107 x 9).2.1 q_106 j = 0 ∧ (hx_rt h_107 x 9).2.2 q_106 j = none := po_105
  have nfw_28 : (hx_rt h_107 x 9).2.1 q_27 = fw_28 := nfw_28
  have nfw_30 : (hx_rt h_107 x 9).2.1 q_29 = fw_30 := nfw_30
  generalize eh : hx_rt h_107 x 9 = h_115 at hT hW hM gx gq_2 gq_7 gq_16 gq_27 gq_29 gq_34 gq_38 gq_43 gq_53 gq_58 gq_62 gq_71 gq_75 gq_79 gq_88 gq_97 gq_106 f_5 f_14 po_22 po_23 po_24 fq_27 fq_29 f_32 f_36 f_41 po_49 f_51 f_56 f_60 f_69 f_73 f_77 f_86 f_95 po_103 po_104 fq_106 f_108 f_109 f_110 f_111 f_112 f_113 f_114 za_3 za_39 za_54 po_105 nfw_28 nfw_30
  refine W.widen (k := 43) (n := 10614) (Nat.le_of_ble_eq_true rfl) (Nat.le_of_ble_eq_true rfl) ?_
  exact hx_retv hx hb hr hlk hW ⟨hT, hM, gx, f_109, f_110, f_111, f_112, f_113, ⟨q_97, f_108, gq_97, ⟨po_103, po_104, q_106, fq_106, gq_106, po_105⟩⟩, ⟨q_43, f_51, gq_43, po_49⟩, ⟨q_38, f_41, gq_38, za_39⟩, ⟨q_53, f_56, gq_53, za_54⟩, f_114, ⟨q_2, f_5, gq_2, za_3⟩, ⟨q_16, f_32, gq_16, ⟨by rw [po_22]; decide, by rw [po_23]; decide, fun t ht => by obtain rfl : q_27 = t := Option.some.inj (fq_27.symm.trans ht); rw [nfw_28]; exact hv_rC_0 po_25, fun p hp => by obtain rfl : q_29 = p := Option.some.inj (fq_29.symm.trans hp); rw [nfw_30, po_24, show (3 : Int32).toInt.toNat = 3 from by decide]; exact hv_o0_c po_26⟩⟩⟩ dX9_init_144
