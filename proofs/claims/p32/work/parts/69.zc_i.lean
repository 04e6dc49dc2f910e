
set_option maxHeartbeats 4000000 in
set_option maxRecDepth 100000 in
theorem t_X3_init_p (l : Launch) (dC : Nat → ClassId) (dI : Nat → Nat → Nat) (dA : Nat → ClassId) (L : List Nat) (h : hx_h) (sz : Nat) (x : Nat) (hT : hx_T T_tb L h) (gx : hx_g L h x 119) (hz : ∀ j, h.2.1 x j = 0 ∧ h.2.2 x j = none) : Met l yX3_init (Cond.code yX3_init cX3_init 1 none :: hx_all) ({ frames := 1, cells := 5, slots := 3000, locals := 12 }) (va_Pc [.ref x] (hx_B T_tb (P_ty dA) (dC, dI) vwCl L h sz)) (va_Qv (fun (u : List Nat × hx_h) => hx_T T_tb u.1 u.2 ∧ hx_S T_tb [(119, 1), (119, 2), (119, 3), (119, 4), (119, 5)] (hx_X L x) h u.1 u.2 ∧ hx_g u.1 u.2 x 3 ∧ u.2.2.1 x 0 = 0 ∧ (∃ q, u.2.2.2 x 2 = some q ∧ hx_g u.1 u.2 q 23 ∧ ∀ j, u.2.2.1 q j = 0 ∧ u.2.2.2 q j = none) ∧ (∃ q, u.2.2.2 x 3 = some q ∧ hx_g u.1 u.2 q 24 ∧ ∀ j, u.2.2.1 q j = 0 ∧ u.2.2.2 q j = none) ∧ (∃ q, u.2.2.2 x 5 = some q ∧ hx_g u.1 u.2 q 26 ∧ ∀ j, u.2.2.1 q j = 0 ∧ u.2.2.2 q j = none) ∧ (∃ q, u.2.2.2 x 4 = some q ∧ hx_g u.1 u.2 q 25 ∧ ∀ j, u.2.2.1 q j = 0 ∧ u.2.2.2 q j = none) ∧ (∃ q, u.2.2.2 x 1 = some q ∧ hx_g u.1 u.2 q 22 ∧ ∀ j, u.2.2.1 q j = 0 ∧ u.2.2.2 q j = none)) (hx_E T_tb (P_ty dA) (dC, dI) vwCl (hx_A L sz)) (hx_A L sz)) 5 3000 (hx_A L sz) := by
  refine hx_met (lv := [(0, .ref x)]) (by decide +kernel) rfl (Nat.le_of_ble_eq_true rfl) rfl ?_
  intro p e s m below meth c hx hb hml hr hlk hts0 hown hin hsz hW ls hl
  have hts : ∀ w ∈ hx_all, w.before _ s = true := fun w hw => hts0 w (List.mem_cons_of_mem _ hw)
  have hown : s.vm.findClass "SmallCourt$Payments" = some m.cls := hown
  have hin : meth.name = "<init>" := hin
  have hM : hx_S T_tb [(119, 1), (119, 2), (119, 3), (119, 4), (119, 5)] (hx_X L x) h L h := hx_SX_rf
  have hz : ∀ j, ([] : List Nat).contains j = false → h.2.1 x j = 0 ∧ h.2.2 x j = none := fun j _ => hz j
  refine lv_aload_n hx hb dX3_init_0 rfl (lv_at hl 0 rfl) ?_
  refine W.objInit hx hb hown (hts _ kw_230) (hts _ kw_117) (hts _ kw_118) rfl (by rw [hml]; exact hl.1) rfl dX3_init_1 (Nat.le_of_ble_eq_true rfl) (Nat.le_of_ble_eq_true rfl) ?_
  refine W.eq (g2 := F0 m 4 ls []) rfl ?_
  refine lv_aload_n hx hb dX3_init_4 rfl (lv_at hl 0 rfl) ?_
  refine lv_sipush (v := 600) hx hb dX3_init_5 ?o0 ?_
  case o0 => decide
  refine hk_newa hx hb hts hW 22 tt_22 (atype := .int) rfl kw_186 (tys := P_ty dA) (t0 := 0) rfl (fun _ => Iff.rfl) rfl (i := (600 : Int32)) ?o1 (Nat.le_of_ble_eq_true rfl) (Nat.le_of_ble_eq_true rfl) (Nat.le_of_ble_eq_true rfl) dX3_init_8 (fun q_2 H h_1 eh_1 hqq_2 hW hs gq_2 => ?_)
  case o1 => decide
  have nq_q_2 : ∀ a ∈ (hx_X L x), a ≠ q_2 := fun a ha z => hqq_2 (z ▸ (hM.1 a ha).1)
  have hT : hx_T T_tb (L ++ [q_2]) h_1 := ?o2
  case o2 =>
    rw [eh_1]
    exact hx_T_nw hT hqq_2 tt_22 rfl
  replace hz := hx_zr [] hz hs gx trivial rfl
  replace hM := hM.tr (hs.mono ?o3)
  case o3 => decide
  replace gx := gx.S hs
  have za_3 : ∀ j, h_1.2.1 q_2 j = 0 ∧ h_1.2.2 q_2 j = none := ?o4
  case o4 =>
    rw [eh_1]
    exact fun _ => ⟨hx_nw_i, hx_nw_r⟩
  refine hx_putrF hx hb hts hC_3 hown hW hT (hx_S.rf (M := [(119, 1)])) gx tt_119 1 ?o5 rfl kw_233 ⟨rfl, rfl, rfl⟩ rfl hin rfl (x := (some q_2)) ⟨fun _ z => (by cases z), fun q hq => (by cases hq; exact ⟨gq_2.1, by rw [gq_2.2]; decide⟩)⟩ rfl rfl rfl (List.mem_singleton.mpr rfl) dX3_init_10 (fun H locs h_4 eh_4 hW hT hs => ?_)
  case o5 => decide
  replace hz := hx_zr [1] hz hs gx trivial rfl
  replace za_3 : ∀ j, h_4.2.1 q_2 j = 0 ∧ h_4.2.2 q_2 j = none := fun j => ⟨(hs.a gq_2 rfl j).1.trans (za_3 j).1, (hs.a gq_2 rfl j).2.trans (za_3 j).2⟩
  replace hM := hM.tr (hs.mono ?o6)
  case o6 => decide
  replace gx := gx.S hs
  replace gq_2 := gq_2.S hs
  have f_5 : h_4.2.2 x 1 = (some q_2) := ?o7
  case o7 =>
    rw [eh_4]
    exact hx_pr_at _ _ _ _
  refine lv_aload_n hx hb dX3_init_13 rfl (lv_at hl 0 rfl) ?_
  refine lv_sipush (v := 600) hx hb dX3_init_14 ?o8 ?_
  case o8 => decide
  refine hk_newa hx hb hts hW 23 tt_23 (atype := .int) rfl kw_186 (tys := P_ty dA) (t0 := 0) rfl (fun _ => Iff.rfl) rfl (i := (600 : Int32)) ?o9 (Nat.le_of_ble_eq_true rfl) (Nat.le_of_ble_eq_true rfl) (Nat.le_of_ble_eq_true rfl) dX3_init_17 (fun q_7 H h_6 eh_6 hqq_7 hW hs gq_7 => ?_)
  case o9 => decide
  have nq_q_7 : ∀ a ∈ (hx_X L x), a ≠ q_7 := fun a ha z => hqq_7 (z ▸ (hM.1 a ha).1)
  have hT : hx_T T_tb ((L ++ [q_2]) ++ [q_7]) h_6 := ?o10
  case o10 =>
    rw [eh_6]
    exact hx_T_nw hT hqq_7 tt_23 rfl
  replace f_5 := (hs.o gx trivial rfl).2.trans f_5
  replace hz := hx_zr [1] hz hs gx trivial rfl
  replace za_3 : ∀ j, h_6.2.1 q_2 j = 0 ∧ h_6.2.2 q_2 j = none := fun j => ⟨(hs.a gq_2 rfl j).1.trans (za_3 j).1, (hs.a gq_2 rfl j).2.trans (za_3 j).2⟩
  replace hM := hM.tr (hs.mono ?o11)
  case o11 => decide
  replace gx := gx.S hs
  replace gq_2 := gq_2.S hs
  have za_8 : ∀ j, h_6.2.1 q_7 j = 0 ∧ h_6.2.2 q_7 j = none := ?o12
  case o12 =>
    rw [eh_6]
    exact fun _ => ⟨hx_nw_i, hx_nw_r⟩
  refine hx_putrF hx hb hts hC_3 hown hW hT (hx_S.rf (M := [(119, 2)])) gx tt_119 2 ?o13 rfl kw_235 ⟨rfl, rfl, rfl⟩ rfl hin rfl (x := (some q_7)) ⟨fun _ z => (by cases z), fun q hq => (by cases hq; exact ⟨gq_7.1, by rw [gq_7.2]; decide⟩)⟩ rfl rfl rfl (List.mem_singleton.mpr rfl) dX3_init_19 (fun H locs h_9 eh_9 hW hT hs => ?_)
  case o13 => decide
  replace f_5 := (hs.o gx trivial rfl).2.trans f_5
  replace hz := hx_zr [1, 2] hz hs gx trivial rfl
  replace za_3 : ∀ j, h_9.2.1 q_2 j = 0 ∧ h_9.2.2 q_2 j = none := fun j => ⟨(hs.a gq_2 rfl j).1.trans (za_3 j).1, (hs.a gq_2 rfl j).2.trans (za_3 j).2⟩
  replace za_8 : ∀ j, h_9.2.1 q_7 j = 0 ∧ h_9.2.2 q_7 j = none := fun j => ⟨(hs.a gq_7 rfl j).1.trans (za_8 j).1, (hs.a gq_7 rfl j).2.trans (za_8 j).2⟩
  replace hM := hM.tr (hs.mono ?o14)
  case o14 => decide
  replace gx := gx.S hs
  replace gq_2 := gq_2.S hs
  replace gq_7 := gq_7.S hs
  have f_10 : h_9.2.2 x 2 = (some q_7) := ?o15
  case o15 =>
    rw [eh_9]
    exact hx_pr_at _ _ _ _
  refine lv_aload_n hx hb dX3_init_22 rfl (lv_at hl 0 rfl) ?_
  refine lv_sipush (v := 600) hx hb dX3_init_23 ?o16 ?_
  case o16 => decide
  refine hk_newa hx hb hts hW 24 tt_24 (atype := .int) rfl kw_186 (tys := P_ty dA) (t0 := 0) rfl (fun _ => Iff.rfl) rfl (i := (600 : Int32)) ?o17 (Nat.le_of_ble_eq_true rfl) (Nat.le_of_ble_eq_true rfl) (Nat.le_of_ble_eq_true rfl) dX3_init_26 (fun q_12 H h_11 eh_11 hqq_12 hW hs gq_12 => ?_)
  case o17 => decide
  have nq_q_12 : ∀ a ∈ (hx_X L x), a ≠ q_12 := fun a ha z => hqq_12 (z ▸ (hM.1 a ha).1)
  have hT : hx_T T_tb (((L ++ [q_2]) ++ [q_7]) ++ [q_12]) h_11 := ?o18
  case o18 =>
    rw [eh_11]
    exact hx_T_nw hT hqq_12 tt_24 rfl
  replace f_5 := (hs.o gx trivial rfl).2.trans f_5
  replace f_10 := (hs.o gx trivial rfl).2.trans f_10
  replace hz := hx_zr [1, 2] hz hs gx trivial rfl
  replace za_3 : ∀ j, h_11.2.1 q_2 j = 0 ∧ h_11.2.2 q_2 j = none := fun j => ⟨(hs.a gq_2 rfl j).1.trans (za_3 j).1, (hs.a gq_2 rfl j).2.trans (za_3 j).2⟩
  replace za_8 : ∀ j, h_11.2.1 q_7 j = 0 ∧ h_11.2.2 q_7 j = none := fun j => ⟨(hs.a gq_7 rfl j).1.trans (za_8 j).1, (hs.a gq_7 rfl j).2.trans (za_8 j).2⟩
  replace hM := hM.tr (hs.mono ?o19)
  case o19 => decide
  replace gx := gx.S hs
  replace gq_2 := gq_2.S hs
  replace gq_7 := gq_7.S hs
  have za_13 : ∀ j, h_11.2.1 q_12 j = 0 ∧ h_11.2.2 q_12 j = none := ?o20
  case o20 =>
    rw [eh_11]
    exact fun _ => ⟨hx_nw_i, hx_nw_r⟩
  refine hx_putrF hx hb hts hC_3 hown hW hT (hx_S.rf (M := [(119, 3)])) gx tt_119 3 ?o21 rfl kw_236 ⟨rfl, rfl, rfl⟩ rfl hin rfl (x := (some q_12)) ⟨fun _ z => (by cases z), fun q hq => (by cases hq; exact ⟨gq_12.1, by rw [gq_12.2]; decide⟩)⟩ rfl rfl rfl (List.mem_singleton.mpr rfl) dX3_init_28 (fun H locs h_14 eh_14 hW hT hs => ?_)
  case o21 => decide
  replace f_5 := (hs.o gx trivial rfl).2.trans f_5
  replace f_10 := (hs.o gx trivial rfl).2.trans f_10
  replace hz := hx_zr [1, 2, 3] hz hs gx trivial rfl
  replace za_3 : ∀ j, h_14.2.1 q_2 j = 0 ∧ h_14.2.2 q_2 j = none := fun j => ⟨(hs.a gq_2 rfl j).1.trans (za_3 j).1, (hs.a gq_2 rfl j).2.trans (za_3 j).2⟩
  replace za_8 : ∀ j, h_14.2.1 q_7 j = 0 ∧ h_14.2.2 q_7 j = none := fun j => ⟨(hs.a gq_7 rfl j).1.trans (za_8 j).1, (hs.a gq_7 rfl j).2.trans (za_8 j).2⟩
  replace za_13 : ∀ j, h_14.2.1 q_12 j = 0 ∧ h_14.2.2 q_12 j = none := fun j => ⟨(hs.a gq_12 rfl j).1.trans (za_13 j).1, (hs.a gq_12 rfl j).2.trans (za_13 j).2⟩
  replace hM := hM.tr (hs.mono ?o22)
  case o22 => decide
  replace gx := gx.S hs
  replace gq_2 := gq_2.S hs
  replace gq_7 := gq_7.S hs
  replace gq_12 := gq_12.S hs
  have f_15 : h_14.2.2 x 3 = (some q_12) := ?o23
  case o23 =>
    rw [eh_14]
    exact hx_pr_at _ _ _ _
  refine lv_aload_n hx hb dX3_init_31 rfl (lv_at hl 0 rfl) ?_
  refine lv_sipush (v := 600) hx hb dX3_init_32 ?o24 ?_
  case o24 => decide
  refine hk_newa hx hb hts hW 25 tt_25 (atype := .int) rfl kw_186 (tys := P_ty dA) (t0 := 0) rfl (fun _ => Iff.rfl) rfl (i := (600 : Int32)) ?o25 (Nat.le_of_ble_eq_true rfl) (Nat.le_of_ble_eq_true rfl) (Nat.le_of_ble_eq_true rfl) dX3_init_35 (fun q_17 H h_16 eh_16 hqq_17 hW hs gq_17 => ?_)
  case o25 => decide
  have nq_q_17 : ∀ a ∈ (hx_X L x), a ≠ q_17 := fun a ha z => hqq_17 (z ▸ (hM.1 a ha).1)
  have hT : hx_T T_tb ((((L ++ [q_2]) ++ [q_7]) ++ [q_12]) ++ [q_17]) h_16 := ?o26
  case o26 =>
    rw [eh_16]
    exact hx_T_nw hT hqq_17 tt_25 rfl
  replace f_5 := (hs.o gx trivial rfl).2.trans f_5
  replace f_10 := (hs.o gx trivial rfl).2.trans f_10
  replace f_15 := (hs.o gx trivial rfl).2.trans f_15
  replace hz := hx_zr [1, 2, 3] hz hs gx trivial rfl
  replace za_3 : ∀ j, h_16.2.1 q_2 j = 0 ∧ h_16.2.2 q_2 j = none := fun j => ⟨(hs.a gq_2 rfl j).1.trans (za_3 j).1, (hs.a gq_2 rfl j).2.trans (za_3 j).2⟩
  replace za_8 : ∀ j, h_16.2.1 q_7 j = 0 ∧ h_16.2.2 q_7 j = none := fun j => ⟨(hs.a gq_7 rfl j).1.trans (za_8 j).1, (hs.a gq_7 rfl j).2.trans (za_8 j).2⟩
  replace za_13 : ∀ j, h_16.2.1 q_12 j = 0 ∧ h_16.2.2 q_12 j = none := fun j => ⟨(hs.a gq_12 rfl j).1.trans (za_13 j).1, (hs.a gq_12 rfl j).2.trans (za_13 j).2⟩
  replace hM := hM.tr (hs.mono ?o27)
  case o27 => decide
  replace gx := gx.S hs
  replace gq_2 := gq_2.S hs
  replace gq_7 := gq_7.S hs
  replace gq_12 := gq_12.S hs
  have za_18 : ∀ j, h_16.2.1 q_17 j = 0 ∧ h_16.2.2 q_17 j = none := ?o28
  case o28 =>
    rw [eh_16]
    exact fun _ => ⟨hx_nw_i, hx_nw_r⟩
  refine hx_putrF hx hb hts hC_3 hown hW hT (hx_S.rf (M := [(119, 4)])) gx tt_119 4 ?o29 rfl kw_237 ⟨rfl, rfl, rfl⟩ rfl hin rfl (x := (some q_17)) ⟨fun _ z => (by cases z), fun q hq => (by cases hq; exact ⟨gq_17.1, by rw [gq_17.2]; decide⟩)⟩ rfl rfl rfl (List.mem_singleton.mpr rfl) dX3_init_37 (fun H locs h_19 eh_19 hW hT hs => ?_)
  case o29 => decide
  replace f_5 := (hs.o gx trivial rfl).2.trans f_5
  replace f_10 := (hs.o gx trivial rfl).2.trans f_10
  replace f_15 := (hs.o gx trivial rfl).2.trans f_15
  replace hz := hx_zr [1, 2, 3, 4] hz hs gx trivial rfl
  replace za_3 : ∀ j, h_19.2.1 q_2 j = 0 ∧ h_19.2.2 q_2 j = none := fun j => ⟨(hs.a gq_2 rfl j).1.trans (za_3 j).1, (hs.a gq_2 rfl j).2.trans (za_3 j).2⟩
  replace za_8 : ∀ j, h_19.2.1 q_7 j = 0 ∧ h_19.2.2 q_7 j = none := fun j => ⟨(hs.a gq_7 rfl j).1.trans (za_8 j).1, (hs.a gq_7 rfl j).2.trans (za_8 j).2⟩
  replace za_13 : ∀ j, h_19.2.1 q_12 j = 0 ∧ h_19.2.2 q_12 j = none := fun j => ⟨(hs.a gq_12 rfl j).1.trans (za_13 j).1, (hs.a gq_12 rfl j).2.trans (za_13 j).2⟩
  replace za_18 : ∀ j, h_19.2.1 q_17 j = 0 ∧ h_19.2.2 q_17 j = none := fun j => ⟨(hs.a gq_17 rfl j).1.trans (za_18 j).1, (hs.a gq_17 rfl j).2.trans (za_18 j).2⟩
  replace hM := hM.tr (hs.mono ?o30)
  case o30 => decide
  replace gx := gx.S hs
  replace gq_2 := gq_2.S hs
  replace gq_7 := gq_7.S hs
  replace gq_12 := gq_12.S hs
  replace gq_17 := gq_17.S hs
  have f_20 : h_19.2.2 x 4 = (some q_17) := ?o31
  case o31 =>
    rw [eh_19]
    exact hx_pr_at _ _ _ _
  refine lv_aload_n hx hb dX3_init_40 rfl (lv_at hl 0 rfl) ?_
  refine lv_sipush (v := 600) hx hb dX3_init_41 ?o32 ?_
  case o32 => decide
  refine hk_newa hx hb hts hW 26 tt_26 (atype := .int) rfl kw_186 (tys := P_ty dA) (t0 := 0) rfl (fun _ => Iff.rfl) rfl (i := (600 : Int32)) ?o33 (Nat.le_of_ble_eq_true rfl) (Nat.le_of_ble_eq_true rfl) (Nat.le_of_ble_eq_true rfl) dX3_init_44 (fun q_22 H h_21 eh_21 hqq_22 hW hs gq_22 => ?_)
  case o33 => decide
  have nq_q_22 : ∀ a ∈ (hx_X L x), a ≠ q_22 := fun a ha z => hqq_22 (z ▸ (hM.1 a ha).1)
  have hT : hx_T T_tb (((((L ++ [q_2]) ++ [q_7]) ++ [q_12]) ++ [q_17]) ++ [q_22]) h_21 := ?o34
  case o34 =>
    rw [eh_21]
    exact hx_T_nw hT hqq_22 tt_26 rfl
  replace f_5 := (hs.o gx trivial rfl).2.trans f_5
  replace f_10 := (hs.o gx trivial rfl).2.trans f_10
  replace f_15 := (hs.o gx trivial rfl).2.trans f_15
  replace f_20 := (hs.o gx trivial rfl).2.trans f_20
  replace hz := hx_zr [1, 2, 3, 4] hz hs gx trivial rfl
  replace za_3 : ∀ j, h_21.2.1 q_2 j = 0 ∧ h_21.2.2 q_2 j = none := fun j => ⟨(hs.a gq_2 rfl j).1.trans (za_3 j).1, (hs.a gq_2 rfl j).2.trans (za_3 j).2⟩
  replace za_8 : ∀ j, h_21.2.1 q_7 j = 0 ∧ h_21.2.2 q_7 j = none := fun j => ⟨(hs.a gq_7 rfl j).1.trans (za_8 j).1, (hs.a gq_7 rfl j).2.trans (za_8 j).2⟩
  replace za_13 : ∀ j, h_21.2.1 q_12 j = 0 ∧ h_21.2.2 q_12 j = none := fun j => ⟨(hs.a gq_12 rfl j).1.trans (za_13 j).1, (hs.a gq_12 rfl j).2.trans (za_13 j).2⟩
  replace za_18 : ∀ j, h_21.2.1 q_17 j = 0 ∧ h_21.2.2 q_17 j = none := fun j => ⟨(hs.a gq_17 rfl j).1.trans (za_18 j).1, (hs.a gq_17 rfl j).2.trans (za_18 j).2⟩
  replace hM := hM.tr (hs.mono ?o35)
  case o35 => decide
  replace gx := gx.S hs
  replace gq_2 := gq_2.S hs
  replace gq_7 := gq_7.S hs
  replace gq_12 := gq_12.S hs
  replace gq_17 := gq_17.S hs
  have za_23 : ∀ j, h_21.2.1 q_22 j = 0 ∧ h_21.2.2 q_22 j = none := ?o36
  case o36 =>
    rw [eh_21]
    exact fun _ => ⟨hx_nw_i, hx_nw_r⟩
  refine hx_putrF hx hb hts hC_3 hown hW hT (hx_S.rf (M := [(119, 5)])) gx tt_119 5 ?o37 rfl kw_238 ⟨rfl, rfl, rfl⟩ rfl hin rfl (x := (some q_22)) ⟨fun _ z => (by cases z), fun q hq => (by cases hq; exact ⟨gq_22.1, by rw [gq_22.2]; decide⟩)⟩ rfl rfl rfl (List.mem_singleton.mpr rfl) dX3_init_46 (fun H locs h_24 eh_24 hW hT hs => ?_)
  case o37 => decide
  replace f_5 := (hs.o gx trivial rfl).2.trans f_5
  replace f_10 := (hs.o gx trivial rfl).2.trans f_10
  replace f_15 := (hs.o gx trivial rfl).2.trans f_15
  replace f_20 := (hs.o gx trivial rfl).2.trans f_20
  replace hz := hx_zr [1, 2, 3, 4, 5] hz hs gx trivial rfl
  replace za_3 : ∀ j, h_24.2.1 q_2 j = 0 ∧ h_24.2.2 q_2 j = none := fun j => ⟨(hs.a gq_2 rfl j).1.trans (za_3 j).1, (hs.a gq_2 rfl j).2.trans (za_3 j).2⟩
  replace za_8 : ∀ j, h_24.2.1 q_7 j = 0 ∧ h_24.2.2 q_7 j = none := fun j => ⟨(hs.a gq_7 rfl j).1.trans (za_8 j).1, (hs.a gq_7 rfl j).2.trans (za_8 j).2⟩
  replace za_13 : ∀ j, h_24.2.1 q_12 j = 0 ∧ h_24.2.2 q_12 j = none := fun j => ⟨(hs.a gq_12 rfl j).1.trans (za_13 j).1, (hs.a gq_12 rfl j).2.trans (za_13 j).2⟩
  replace za_18 : ∀ j, h_24.2.1 q_17 j = 0 ∧ h_24.2.2 q_17 j = none := fun j => ⟨(hs.a gq_17 rfl j).1.trans (za_18 j).1, (hs.a gq_17 rfl j).2.trans (za_18 j).2⟩
  replace za_23 : ∀ j, h_24.2.1 q_22 j = 0 ∧ h_24.2.2 q_22 j = none := fun j => ⟨(hs.a gq_22 rfl j).1.trans (za_23 j).1, (hs.a gq_22 rfl j).2.trans (za_23 j).2⟩
  replace hM := hM.tr (hs.mono ?o38)
  case o38 => decide
  replace gx := gx.S hs
  replace gq_2 := gq_2.S hs
  replace gq_7 := gq_7.S hs
  replace gq_12 := gq_12.S hs
  replace gq_17 := gq_17.S hs
  replace gq_22 := gq_22.S hs
  have f_25 : h_24.2.2 x 5 = (some q_22) := ?o39
  case o39 =>
    rw [eh_24]
    exact hx_pr_at _ _ _ _
  have f_26 : h_24.2.1 x 0 = 0 := (hz 0 rfl).1
  have hF : hx_F (fun k f => hx_o (((((L ++ [q_2]) ++ [q_7]) ++ [q_12]) ++ [q_17]) ++ [q_22]) h_24 f (h_24.2.1 x k) (h_24.2.2 x k)) T_f3 0 := ⟨hx_oi f_26 ?o40, hx_or f_5 gq_2 ?o41, hx_or f_10 gq_7 ?o42, hx_or f_15 gq_12 ?o43, hx_or f_20 gq_17 ?o44, hx_or f_25 gq_22 ?o45, trivial⟩
  case o40 => decide
  case o41 => decide
  case o42 => decide
  case o43 => decide
  case o44 => decide
  case o45 => decide
  have hT := hx_T_rt hT gx tt_3 rfl (hx_F_all hF)
  have hW := hx_W_rt hW gx tt_119 tt_3 (fun _ _ => rfl)
  have hM := hx_SX_rt (x := x) (t := 3) hM
  have gq_2 := hx_rt_o (t := 3) gq_2 (gq_2.ne gx ?o46)
  case o46 => decide
  have gq_7 := hx_rt_o (t := 3) gq_7 (gq_7.ne gx ?o47)
  case o47 => decide
  have gq_12 := hx_rt_o (t := 3) gq_12 (gq_12.ne gx ?o48)
  case o48 => decide
  have gq_17 := hx_rt_o (t := 3) gq_17 (gq_17.ne gx ?o49)
  case o49 => decide
  have gq_22 := hx_rt_o (t := 3) gq_22 (gq_22.ne gx ?o50)
  case o50 => decide
  have gx := hx_rt_g (t := 3) gx
  have f_5 : (hx_rt h_24 x 3).2.2 x 1 = some q_2 := f_5
  have f_10 : (hx_rt h_24 x 3).2.2 x 2 = some q_7 := f_10
  have f_15 : (hx_rt h_24 x 3).2.2 x 3 = some q_12 := f_15
  have f_20 : (hx_rt h_24 x 3).2.2 x 4 = some q_17 := f_20
  have f_25 : (hx_rt h_24 x 3).2.2 x 5 = some q_22 := f_25
  have f_26 : (hx_rt h_24 x 3).2.1 x 0 = (0 : Int32) := f_26
  have za_3 : ∀ j, (hx_rt h_24 x 3).2.1 q_2 j = 0 ∧ (hx_rt h_24 x 3).2.2 q_2 j = none := za_3
  have za_8 : ∀ j, (hx_rt h_24 x 3).2.1 q_7 j = 0 ∧ (hx_rt h_24 x 3).2.2 q_7 j = none := za_8
  have za_13 : ∀ j, (hx_rt h_24 x 3).2.1 q_12 j = 0 ∧ (hx_rt h_24 x 3).2.2 q_12 j = none := za_13
  have za_18 : ∀ j, (hx_rt h_24 x 3).2.1 q_17 j = 0 ∧ (hx_rt h_24 x 3).2.2 q_17 j = none := za_18
  have za_23 : ∀ j, (hx_rt h_24 x 3).2.1 q_22 j = 0 ∧ (hx_rt h_24 x 3).2.2 q_22 j = none := za_23
  generalize eh : hx_rt h_24 x 3 = h_27 at hT hW hM gx gq_2 gq_7 gq_12 gq_17 gq_22 f_5 f_10 f_15 f_20 f_25 f_26 za_3 za_8 za_13 za_18 za_23
  refine W.widen (k := 5) (n := 3000) (Nat.le_of_ble_eq_true rfl) (Nat.le_of_ble_eq_true rfl) ?_
  exact hx_retv hx hb hr hlk hW ⟨hT, hM, gx, f_26, ⟨q_7, f_10, gq_7, za_8⟩, ⟨q_12, f_15, gq_12, za_13⟩, ⟨q_22, f_25, gq_22, za_23⟩, ⟨q_17, f_20, gq_17, za_18⟩, ⟨q_2, f_5, gq_2, za_3⟩⟩ dX3_init_49


set_option maxHeartbeats 4000000 in
set_option maxRecDepth 100000 in
theorem t_X7_init_p (l : Launch) (dC : Nat → ClassId) (dI : Nat → Nat → Nat) (dA : Nat → ClassId) (L : List Nat) (h : hx_h) (sz : Nat) (x : Nat) (hT : hx_T T_tb L h) (gx : hx_g L h x 123) (hz : ∀ j, h.2.1 x j = 0 ∧ h.2.2 x j = none) : Met l yX7_init (Cond.code yX7_init cX7_init 1 none :: hx_all) ({ frames := 1, cells := 4, slots := 1708, locals := 12 }) (va_Pc [.ref x] (hx_B T_tb (P_ty dA) (dC, dI) vwCl L h sz)) (va_Qv (fun (u : List Nat × hx_h) => hx_T T_tb u.1 u.2 ∧ hx_S T_tb [(123, 0), (123, 3), (123, 5), (123, 6), (123, 7)] (hx_X L x) h u.1 u.2 ∧ hx_g u.1 u.2 x 7 ∧ u.2.2.1 x 0 = -1) (hx_E T_tb (P_ty dA) (dC, dI) vwCl (hx_A L sz)) (hx_A L sz)) 4 1708 (hx_A L sz) := by
  refine hx_met (lv := [(0, .ref x)]) (by decide +kernel) rfl (Nat.le_of_ble_eq_true rfl) rfl ?_
  intro p e s m below meth c hx hb hml hr hlk hts0 hown hin hsz hW ls hl
  have hts : ∀ w ∈ hx_all, w.before _ s = true := fun w hw => hts0 w (List.mem_cons_of_mem _ hw)
  have hown : s.vm.findClass "SmallCourt$Rings" = some m.cls := hown
  have hin : meth.name = "<init>" := hin
  have hM : hx_S T_tb [(123, 0), (123, 3), (123, 5), (123, 6), (123, 7)] (hx_X L x) h L h := hx_SX_rf
  have hz : ∀ j, ([] : List Nat).contains j = false → h.2.1 x j = 0 ∧ h.2.2 x j = none := fun j _ => hz j
  refine lv_aload_n hx hb dX7_init_0 rfl (lv_at hl 0 rfl) ?_
  refine W.objInit hx hb hown (hts _ kw_308) (hts _ kw_117) (hts _ kw_118) rfl (by rw [hml]; exact hl.1) rfl dX7_init_1 (Nat.le_of_ble_eq_true rfl) (Nat.le_of_ble_eq_true rfl) ?_
  refine W.eq (g2 := F0 m 4 ls []) rfl ?_
  refine lv_aload_n hx hb dX7_init_4 rfl (lv_at hl 0 rfl) ?_
  refine lv_iconst (v := -1) hx hb dX7_init_5 ?o0 ?_
  case o0 => decide
  refine hx_puti hx hb hts hC_7 hown hW hT (hx_S.rf (M := [(123, 0)])) gx tt_123 0 ?o1 rfl kw_309 ⟨rfl, rfl, rfl⟩ rfl (x := (-1 : Int32)) ?o2 rfl rfl rfl (List.mem_singleton.mpr rfl) dX7_init_6 (fun H locs h_1 eh_1 hW hT hs => ?_)
  case o1 => decide
  case o2 => decide
  replace hz := hx_zr [0] hz hs gx trivial rfl
  replace hM := hM.tr (hs.mono ?o3)
  case o3 => decide
  replace gx := gx.S hs
  have f_2 : h_1.2.1 x 0 = (-1 : Int32) := ?o4
  case o4 =>
    rw [eh_1]
    exact hx_pi_at _ _ _ _
  refine lv_aload_n hx hb dX7_init_9 rfl (lv_at hl 0 rfl) ?_
  refine lv_bipush (v := 100) hx hb dX7_init_10 ?o5 ?_
  case o5 => decide
  refine hk_newa hx hb hts hW 35 tt_35 (atype := .int) rfl kw_186 (tys := P_ty dA) (t0 := 0) rfl (fun _ => Iff.rfl) rfl (i := (100 : Int32)) ?o6 (Nat.le_of_ble_eq_true rfl) (Nat.le_of_ble_eq_true rfl) (Nat.le_of_ble_eq_true rfl) dX7_init_12 (fun q_4 H h_3 eh_3 hqq_4 hW hs gq_4 => ?_)
  case o6 => decide
  have nq_q_4 : ∀ a ∈ (hx_X L x), a ≠ q_4 := fun a ha z => hqq_4 (z ▸ (hM.1 a ha).1)
  have hT : hx_T T_tb (L ++ [q_4]) h_3 := ?o7
  case o7 =>
    rw [eh_3]
    exact hx_T_nw hT hqq_4 tt_35 rfl
  replace f_2 := (hs.o gx trivial rfl).1.trans f_2
  replace hz := hx_zr [0] hz hs gx trivial rfl
  replace hM := hM.tr (hs.mono ?o8)
  case o8 => decide
  replace gx := gx.S hs
  refine hx_putrF hx hb hts hC_7 hown hW hT (hx_S.rf (M := [(123, 3)])) gx tt_123 3 ?o9 rfl kw_315 ⟨rfl, rfl, rfl⟩ rfl hin rfl (x := (some q_4)) ⟨fun _ z => (by cases z), fun q hq => (by cases hq; exact ⟨gq_4.1, by rw [gq_4.2]; decide⟩)⟩ rfl rfl rfl (List.mem_singleton.mpr rfl) dX7_init_14 (fun H locs h_5 eh_5 hW hT hs => ?_)
  case o9 => decide
  replace f_2 := (hs.o gx trivial rfl).1.trans f_2
  replace hz := hx_zr [0, 3] hz hs gx trivial rfl
  replace hM := hM.tr (hs.mono ?o10)
  case o10 => decide
  replace gx := gx.S hs
  replace gq_4 := gq_4.S hs
  have f_6 : h_5.2.2 x 3 = (some q_4) := ?o11
  case o11 =>
    rw [eh_5]
    exact hx_pr_at _ _ _ _
  refine lv_aload_n hx hb dX7_init_17 rfl (lv_at hl 0 rfl) ?_
  refine lv_sipush (v := 1600) hx hb dX7_init_18 ?o12 ?_
  case o12 => decide
  refine hk_newa hx hb hts hW 36 tt_36 (atype := .int) rfl kw_186 (tys := P_ty dA) (t0 := 0) rfl (fun _ => Iff.rfl) rfl (i := (1600 : Int32)) ?o13 (Nat.le_of_ble_eq_true rfl) (Nat.le_of_ble_eq_true rfl) (Nat.le_of_ble_eq_true rfl) dX7_init_21 (fun q_8 H h_7 eh_7 hqq_8 hW hs gq_8 => ?_)
  case o13 => decide
  have nq_q_8 : ∀ a ∈ (hx_X L x), a ≠ q_8 := fun a ha z => hqq_8 (z ▸ (hM.1 a ha).1)
  have hT : hx_T T_tb ((L ++ [q_4]) ++ [q_8]) h_7 := ?o14
  case o14 =>
    rw [eh_7]
    exact hx_T_nw hT hqq_8 tt_36 rfl
  replace f_2 := (hs.o gx trivial rfl).1.trans f_2
  replace f_6 := (hs.o gx trivial rfl).2.trans f_6
  replace hz := hx_zr [0, 3] hz hs gx trivial rfl
  replace hM := hM.tr (hs.mono ?o15)
  case o15 => decide
  replace gx := gx.S hs
  replace gq_4 := gq_4.S hs
  refine hx_putrF hx hb hts hC_7 hown hW hT (hx_S.rf (M := [(123, 5)])) gx tt_123 5 ?o16 rfl kw_318 ⟨rfl, rfl, rfl⟩ rfl hin rfl (x := (some q_8)) ⟨fun _ z => (by cases z), fun q hq => (by cases hq; exact ⟨gq_8.1, by rw [gq_8.2]; decide⟩)⟩ rfl rfl rfl (List.mem_singleton.mpr rfl) dX7_init_23 (fun H locs h_9 eh_9 hW hT hs => ?_)
  case o16 => decide
  replace f_2 := (hs.o gx trivial rfl).1.trans f_2
  replace f_6 := (hs.o gx trivial rfl).2.trans f_6
  replace hz := hx_zr [0, 3, 5] hz hs gx trivial rfl
  replace hM := hM.tr (hs.mono ?o17)
  case o17 => decide
  replace gx := gx.S hs
  replace gq_4 := gq_4.S hs
  replace gq_8 := gq_8.S hs
  have f_10 : h_9.2.2 x 5 = (some q_8) := ?o18
  case o18 =>
    rw [eh_9]
    exact hx_pr_at _ _ _ _
  refine lv_aload_n hx hb dX7_init_26 rfl (lv_at hl 0 rfl) ?_
  refine lv_iconst (v := 4) hx hb dX7_init_27 ?o19 ?_
  case o19 => decide
  refine hk_newa hx hb hts hW 37 tt_37 (atype := .int) rfl kw_186 (tys := P_ty dA) (t0 := 0) rfl (fun _ => Iff.rfl) rfl (i := (4 : Int32)) ?o20 (Nat.le_of_ble_eq_true rfl) (Nat.le_of_ble_eq_true rfl) (Nat.le_of_ble_eq_true rfl) dX7_init_28 (fun q_12 H h_11 eh_11 hqq_12 hW hs gq_12 => ?_)
  case o20 => decide
  have nq_q_12 : ∀ a ∈ (hx_X L x), a ≠ q_12 := fun a ha z => hqq_12 (z ▸ (hM.1 a ha).1)
  have hT : hx_T T_tb (((L ++ [q_4]) ++ [q_8]) ++ [q_12]) h_11 := ?o21
  case o21 =>
    rw [eh_11]
    exact hx_T_nw hT hqq_12 tt_37 rfl
  replace f_2 := (hs.o gx trivial rfl).1.trans f_2
  replace f_6 := (hs.o gx trivial rfl).2.trans f_6
  replace f_10 := (hs.o gx trivial rfl).2.trans f_10
  replace hz := hx_zr [0, 3, 5] hz hs gx trivial rfl
  replace hM := hM.tr (hs.mono ?o22)
  case o22 => decide
  replace gx := gx.S hs
  replace gq_4 := gq_4.S hs
  replace gq_8 := gq_8.S hs
  refine hx_putrF hx hb hts hC_7 hown hW hT (hx_S.rf (M := [(123, 6)])) gx tt_123 6 ?o23 rfl kw_319 ⟨rfl, rfl, rfl⟩ rfl hin rfl (x := (some q_12)) ⟨fun _ z => (by cases z), fun q hq => (by cases hq; exact ⟨gq_12.1, by rw [gq_12.2]; decide⟩)⟩ rfl rfl rfl (List.mem_singleton.mpr rfl) dX7_init_30 (fun H locs h_13 eh_13 hW hT hs => ?_)
  case o23 => decide
  replace f_2 := (hs.o gx trivial rfl).1.trans f_2
  replace f_6 := (hs.o gx trivial rfl).2.trans f_6
  replace f_10 := (hs.o gx trivial rfl).2.trans f_10
  replace hz := hx_zr [0, 3, 5, 6] hz hs gx trivial rfl
  replace hM := hM.tr (hs.mono ?o24)
  case o24 => decide
  replace gx := gx.S hs
  replace gq_4 := gq_4.S hs
  replace gq_8 := gq_8.S hs
  replace gq_12 := gq_12.S hs
  have f_14 : h_13.2.2 x 6 = (some q_12) := ?o25
  case o25 =>
    rw [eh_13]
    exact hx_pr_at _ _ _ _
  refine lv_aload_n hx hb dX7_init_33 rfl (lv_at hl 0 rfl) ?_
  refine lv_iconst (v := 4) hx hb dX7_init_34 ?o26 ?_
  case o26 => decide
  refine hk_newa hx hb hts hW 38 tt_38 (atype := .int) rfl kw_186 (tys := P_ty dA) (t0 := 0) rfl (fun _ => Iff.rfl) rfl (i := (4 : Int32)) ?o27 (Nat.le_of_ble_eq_true rfl) (Nat.le_of_ble_eq_true rfl) (Nat.le_of_ble_eq_true rfl) dX7_init_35 (fun q_16 H h_15 eh_15 hqq_16 hW hs gq_16 => ?_)
  case o27 => decide
  have nq_q_16 : ∀ a ∈ (hx_X L x), a ≠ q_16 := fun a ha z => hqq_16 (z ▸ (hM.1 a ha).1)
  have hT : hx_T T_tb ((((L ++ [q_4]) ++ [q_8]) ++ [q_12]) ++ [q_16]) h_15 := ?o28
  case o28 =>
    rw [eh_15]
    exact hx_T_nw hT hqq_16 tt_38 rfl
  replace f_2 := (hs.o gx trivial rfl).1.trans f_2
  replace f_6 := (hs.o gx trivial rfl).2.trans f_6
  replace f_10 := (hs.o gx trivial rfl).2.trans f_10
  replace f_14 := (hs.o gx trivial rfl).2.trans f_14
  replace hz := hx_zr [0, 3, 5, 6] hz hs gx trivial rfl
  replace hM := hM.tr (hs.mono ?o29)
  case o29 => decide
  replace gx := gx.S hs
  replace gq_4 := gq_4.S hs
  replace gq_8 := gq_8.S hs
  replace gq_12 := gq_12.S hs
  refine hx_putrF hx hb hts hC_7 hown hW hT (hx_S.rf (M := [(123, 7)])) gx tt_123 7 ?o30 rfl kw_320 ⟨rfl, rfl, rfl⟩ rfl hin rfl (x := (some q_16)) ⟨fun _ z => (by cases z), fun q hq => (by cases hq; exact ⟨gq_16.1, by rw [gq_16.2]; decide⟩)⟩ rfl rfl rfl (List.mem_singleton.mpr rfl) dX7_init_37 (fun H locs h_17 eh_17 hW hT hs => ?_)
  case o30 => decide
  replace f_2 := (hs.o gx trivial rfl).1.trans f_2
  replace f_6 := (hs.o gx trivial rfl).2.trans f_6
  replace f_10 := (hs.o gx trivial rfl).2.trans f_10
  replace f_14 := (hs.o gx trivial rfl).2.trans f_14
  replace hz := hx_zr [0, 3, 5, 6, 7] hz hs gx trivial rfl
  replace hM := hM.tr (hs.mono ?o31)
  case o31 => decide
  replace gx := gx.S hs
  replace gq_4 := gq_4.S hs
  replace gq_8 := gq_8.S hs
  replace gq_12 := gq_12.S hs
  replace gq_16 := gq_16.S hs
  have f_18 : h_17.2.2 x 7 = (some q_16) := ?o32
  case o32 =>
    rw [eh_17]
    exact hx_pr_at _ _ _ _
  have hF : hx_F (fun k f => hx_o ((((L ++ [q_4]) ++ [q_8]) ++ [q_12]) ++ [q_16]) h_17 f (h_17.2.1 x k) (h_17.2.2 x k)) T_f7 0 := ⟨hx_oi f_2 ?o33, hx_oi (hz 1 rfl).1 ?o34, hx_oi (hz 2 rfl).1 ?o35, hx_or f_6 gq_4 ?o36, hx_oi (hz 4 rfl).1 ?o37, hx_or f_10 gq_8 ?o38, hx_or f_14 gq_12 ?o39, hx_or f_18 gq_16 ?o40, trivial⟩
  case o33 => decide
  case o34 => decide
  case o35 => decide
  case o36 => decide
  case o37 => decide
  case o38 => decide
  case o39 => decide
  case o40 => decide
  have hT := hx_T_rt hT gx tt_7 rfl (hx_F_all hF)
  have hW := hx_W_rt hW gx tt_123 tt_7 (fun _ _ => rfl)
  have hM := hx_SX_rt (x := x) (t := 7) hM
  have gq_4 := hx_rt_o (t := 7) gq_4 (gq_4.ne gx ?o41)
  case o41 => decide
  have gq_8 := hx_rt_o (t := 7) gq_8 (gq_8.ne gx ?o42)
  case o42 => decide
  have gq_12 := hx_rt_o (t := 7) gq_12 (gq_12.ne gx ?o43)
  case o43 => decide
  have gq_16 := hx_rt_o (t := 7) gq_16 (gq_16.ne gx ?o44)
  case o44 => decide
  have gx := hx_rt_g (t := 7) gx
  have f_2 : (hx_rt h_17 x 7).2.1 x 0 = (-1 : Int32) := f_2
  have f_6 : (hx_rt h_17 x 7).2.2 x 3 = some q_4 := f_6
  have f_10 : (hx_rt h_17 x 7).2.2 x 5 = some q_8 := f_10
  have f_14 : (hx_rt h_17 x 7).2.2 x 6 = some q_12 := f_14
  have f_18 : (hx_rt h_17 x 7).2.2 x 7 = some q_16 := f_18
  generalize eh : hx_rt h_17 x 7 = h_19 at hT hW hM gx gq_4 gq_8 gq_12 gq_16 f_2 f_6 f_10 f_14 f_18
  refine W.widen (k := 4) (n := 1708) (Nat.le_of_ble_eq_true rfl) (Nat.le_of_ble_eq_true rfl) ?_
  exact hx_retv hx hb hr hlk hW ⟨hT, hM, gx, f_2⟩ dX7_init_40


set_option maxHeartbeats 4000000 in
set_option maxRecDepth 100000 in
theorem t_X9_init_p (l : Launch) (dC : Nat → ClassId) (dI : Nat → Nat → Nat) (dA : Nat → ClassId) (L : List Nat) (h : hx_h) (sz : Nat) (b0 : hx_z) (x : Nat) (hT : hx_T T_tb L h) (gx : hx_g L h x 125) (hz : ∀ j, h.2.1 x j = 0 ∧ h.2.2 x j = none) : Met l yX9_init (Cond.code yX9_init cX9_init 1 none :: hx_all) ({ frames := 2, cells := 43, slots := 10614, locals := 62 }) (va_Pc [.ref x] (hx_BX T_tb (P_ty dA) (dC, dI) vwCl L h sz b0)) (va_Qv (fun (u : List Nat × hx_h) => hx_T T_tb u.1 u.2 ∧ hx_S T_tb [(11, 0), (12, 0), (116, 0), (116, 1), (116, 2), (116, 3), (116, 4), (117, 1), (117, 2), (117, 3), (117, 4), (117, 5), (117, 6), (117, 7), (119, 1), (119, 2), (119, 3), (119, 4), (119, 5), (121, 2), (121, 3), (121, 4), (121, 5), (121, 6), (121, 7), (121, 8), (122, 0), (123, 0), (123, 3), (123, 5), (123, 6), (123, 7), (124, 2), (124, 3), (124, 4), (125, 0), (125, 3), (125, 4), (125, 5), (125, 7), (125, 9), (125, 10), (125, 12), (125, 14), (125, 15), (125, 16), (125, 17), (125, 18), (125, 19)] (hx_X L x) h u.1 u.2 ∧ hx_g u.1 u.2 x 9 ∧ u.2.2.1 x 2 = 0 ∧ u.2.2.1 x 6 = 0 ∧ u.2.2.1 x 8 = 0 ∧ u.2.2.1 x 11 = 0 ∧ u.2.2.1 x 13 = 0 ∧ (∃ q, u.2.2.2 x 19 = some q ∧ hx_g u.1 u.2 q 8 ∧ u.2.2.1 q 0 = 0 ∧ u.2.2.1 q 1 = 0 ∧ ∃ w, u.2.2.2 q 3 = some w ∧ hx_g u.1 u.2 w 40 ∧ ∀ j, u.2.2.1 w j = 0 ∧ u.2.2.2 w j = none) ∧ (∃ q, u.2.2.2 x 9 = some q ∧ hx_g u.1 u.2 q 1 ∧ u.2.2.1 q 0 = 0) ∧ (∃ q, u.2.2.2 x 7 = some q ∧ hx_g u.1 u.2 q 44 ∧ ∀ j, u.2.2.1 q j = 0 ∧ u.2.2.2 q j = none) ∧ (∃ q, u.2.2.2 x 10 = some q ∧ hx_g u.1 u.2 q 45 ∧ ∀ j, u.2.2.1 q j = 0 ∧ u.2.2.2 q j = none) ∧ u.2.2.1 x 1 = 0 ∧ (∃ q, u.2.2.2 x 0 = some q ∧ hx_g u.1 u.2 q 42 ∧ ∀ j, u.2.2.1 q j = 0 ∧ u.2.2.2 q j = none) ∧ (∃ q, u.2.2.2 x 4 = some q ∧ hx_g u.1 u.2 q 0 ∧ hv_AQ u.2 q (-1) hv_A0) ∧ (∃ q, u.2.2.2 x 14 = some q ∧ hx_g u.1 u.2 q 3 ∧ u.2.2.1 q 0 = 0 ∧ ∃ w0, u.2.2.2 q 2 = some w0 ∧ hx_g u.1 u.2 w0 23 ∧ (∀ j, u.2.2.1 w0 j = 0 ∧ u.2.2.2 w0 j = none) ∧ ∃ w1, u.2.2.2 q 3 = some w1 ∧ hx_g u.1 u.2 w1 24 ∧ (∀ j, u.2.2.1 w1 j = 0 ∧ u.2.2.2 w1 j = none) ∧ ∃ w2, u.2.2.2 q 5 = some w2 ∧ hx_g u.1 u.2 w2 26 ∧ (∀ j, u.2.2.1 w2 j = 0 ∧ u.2.2.2 w2 j = none) ∧ ∃ w3, u.2.2.2 q 4 = some w3 ∧ hx_g u.1 u.2 w3 25 ∧ (∀ j, u.2.2.1 w3 j = 0 ∧ u.2.2.2 w3 j = none) ∧ ∃ w4, u.2.2.2 q 1 = some w4 ∧ hx_g u.1 u.2 w4 22 ∧ (∀ j, u.2.2.1 w4 j = 0 ∧ u.2.2.2 w4 j = none)) ∧ (∃ q, u.2.2.2 x 18 = some q ∧ hx_g u.1 u.2 q 7 ∧ u.2.2.1 q 0 = -1)) (hx_E T_tb (P_ty dA) (dC, dI) vwCl (hx_A L sz)) (hx_A L sz)) 43 10614 (hx_A L sz) := by
  refine hx_metX (lv := [(0, .ref x)]) (by decide +kernel) rfl (Nat.le_of_ble_eq_true rfl) rfl ?_
  intro p e s m below meth c hx hb hml hr hlk hts0 hown hin hsz hW hZ ls hl
  have hts : ∀ w ∈ hx_all, w.before _ s = true := fun w hw => hts0 w (List.mem_cons_of_mem _ hw)
  have hown : s.vm.findClass "SmallCourt" = some m.cls := hown
  have hin : meth.name = "<init>" := hin
  have hM : hx_S T_tb [(11, 0), (12, 0), (116, 0), (116, 1), (116, 2), (116, 3), (116, 4), (117, 1), (117, 2), (117, 3), (117, 4), (117, 5), (117, 6), (117, 7), (119, 1), (119, 2), (119, 3), (119, 4), (119, 5), (121, 2), (121, 3), (121, 4), (121, 5), (121, 6), (121, 7), (121, 8), (122, 0), (123, 0), (123, 3), (123, 5), (123, 6), (123, 7), (124, 2), (124, 3), (124, 4), (125, 0), (125, 3), (125, 4), (125, 5), (125, 7), (125, 9), (125, 10), (125, 12), (125, 14), (125, 15), (125, 16), (125, 17), (125, 18), (125, 19)] (hx_X L x) h L h := hx_SX_rf
  have hz : ∀ j, ([] : List Nat).contains j = false → h.2.1 x j = 0 ∧ h.2.2 x j = none := fun j _ => hz j
  refine lv_aload_n hx hb dX9_init_0 rfl (lv_at hl 0 rfl) ?_
  refine W.objInit hx hb hown (hts _ kw_116) (hts _ kw_117) (hts _ kw_118) rfl (by rw [hml]; exact hl.1) rfl dX9_init_1 (Nat.le_of_ble_eq_true rfl) (Nat.le_of_ble_eq_true rfl) ?_
  refine W.eq (g2 := F0 m 4 ls []) rfl ?_
  refine lv_aload_n hx hb dX9_init_4 rfl (lv_at hl 0 rfl) ?_
  refine lv_sipush (v := 400) hx hb dX9_init_5 ?o0 ?_
  case o0 => decide
  refine hk_newa hx hb hts hW 42 tt_42 (atype := .byte) rfl kw_147 (tys := P_ty dA) (t0 := 1) rfl (fun _ => Iff.rfl) rfl (i := (400 : Int32)) ?o1 (Nat.le_of_ble_eq_true rfl) (Nat.le_of_ble_eq_true rfl) (Nat.le_of_ble_eq_true rfl) dX9_init_8 (fun q_2 H h_1 eh_1 hqq_2 hW hs gq_2 => ?_)
  case o1 => decide
  have nq_q_2 : ∀ a ∈ (hx_X L x), a ≠ q_2 := fun a ha z => hqq_2 (z ▸ (hM.1 a ha).1)
  have hT : hx_T T_tb (L ++ [q_2]) h_1 := ?o2
  case o2 =>
    rw [eh_1]
    exact hx_T_nw hT hqq_2 tt_42 rfl
  replace hz := hx_zr [] hz hs gx trivial rfl
  replace hM := hM.tr (hs.mono ?o3)
  case o3 => decide
  replace gx := gx.S hs
  have za_3 : ∀ j, h_1.2.1 q_2 j = 0 ∧ h_1.2.2 q_2 j = none := ?o4
  case o4 =>
    rw [eh_1]
    exact fun _ => ⟨hx_nw_i, hx_nw_r⟩
  refine hx_putrF hx hb hts hC_9 hown hW hT (hx_S.rf (M := [(125, 0)])) gx tt_125 0 ?o5 rfl kw_364 ⟨rfl, rfl, rfl⟩ rfl hin rfl (x := (some q_2)) ⟨fun _ z => (by cases z), fun q hq => (by cases hq; exact ⟨gq_2.1, by rw [gq_2.2]; decide⟩)⟩ rfl rfl rfl (List.mem_singleton.mpr rfl) dX9_init_10 (fun H locs h_4 eh_4 hW hT hs => ?_)
  case o5 => decide
  replace hz := hx_zr [0] hz hs gx trivial rfl
  replace za_3 : ∀ j, h_4.2.1 q_2 j = 0 ∧ h_4.2.2 q_2 j = none := fun j => ⟨(hs.a gq_2 rfl j).1.trans (za_3 j).1, (hs.a gq_2 rfl j).2.trans (za_3 j).2⟩
  replace hM := hM.tr (hs.mono ?o6)
  case o6 => decide
  replace gx := gx.S hs
  replace gq_2 := gq_2.S hs
  have f_5 : h_4.2.2 x 0 = (some q_2) := ?o7
  case o7 =>
    rw [eh_4]
    exact hx_pr_at _ _ _ _
  refine lv_aload_n hx hb dX9_init_13 rfl (lv_at hl 0 rfl) ?_
  refine hk_new hx hb hts hC_6 hown hW 122 tt_122 rfl ?o8 kw_119 kw_120 kw_95 (Nat.le_of_ble_eq_true rfl) (Nat.le_of_ble_eq_true rfl) dX9_init_14 (fun q_7 H h_6 eh_6 hqq_7 hW hs gq_7 => ?_)
  case o8 => decide
  have nq_q_7 : ∀ a ∈ (hx_X L x), a ≠ q_7 := fun a ha z => hqq_7 (z ▸ (hM.1 a ha).1)
  have hT : hx_T T_tb ((L ++ [q_2]) ++ [q_7]) h_6 := ?o9
  case o9 =>
    rw [eh_6]
    exact hx_T_nw hT hqq_7 tt_122 rfl
  replace f_5 := (hs.o gx trivial rfl).2.trans f_5
  replace hz := hx_zr [0] hz hs gx trivial rfl
  replace za_3 : ∀ j, h_6.2.1 q_2 j = 0 ∧ h_6.2.2 q_2 j = none := fun j => ⟨(hs.a gq_2 rfl j).1.trans (za_3 j).1, (hs.a gq_2 rfl j).2.trans (za_3 j).2⟩
  replace hM := hM.tr (hs.mono ?o10)
  case o10 => decide
  replace gx := gx.S hs
  replace gq_2 := gq_2.S hs
  have fz_8 : ∀ j, ([] : List Nat).contains j = false → h_6.2.1 q_7 j = 0 ∧ h_6.2.2 q_7 j = none := ?o11
  case o11 =>
    rw [eh_6]
    exact fun _ _ => ⟨hx_nw_i, hx_nw_r⟩
  refine lv_dup hx hb dX9_init_17 rfl ?_
  refine hx_gov (hx_runIN (As := []) (rest := [.ref q_7, .ref x]) ⟨hx, hb, hml, hown, hts⟩ hW (t_X6_init l dC dI dA ((L ++ [q_2]) ++ [q_7]) h_6 H.size q_7 hT gq_7 (fun j => fz_8 j rfl)) ⟨va_cnB 0 hts (hx_gC kw_123) rfl rfl rfl (hZ.1 _ (List.mem_of_getElem? (i := 0) rfl)) (hts _ kw_95) (by decide +kernel) ⟨Nat.le_of_ble_eq_true rfl, Nat.le_of_ble_eq_true rfl⟩, rfl, hts _ kw_122⟩ rfl hl.1 rfl (Nat.le_of_ble_eq_true rfl) dX9_init_18 ⟨Nat.le_of_ble_eq_true rfl, Nat.le_of_ble_eq_true rfl⟩) hW (fun L_9 h_10 H locs p_12 hW => ?_)
  obtain ⟨hT, hs, gNq_7⟩ := p_12
  replace hT : hx_T T_tb L_9 h_10 := hT
  replace hs : hx_S T_tb [(122, 0)] (hx_X ((L ++ [q_2]) ++ [q_7]) q_7) h_6 L_9 h_10 := hs
  have gx := hx_gX gx (gx.ne gq_7 ?o12)
  case o12 => decide
  have gq_2 := hx_gX gq_2 (gq_2.ne gq_7 ?o13)
  case o13 => decide
  replace f_5 := (hs.o gx trivial rfl).2.trans f_5
  replace hz := hx_zr [0] hz hs gx trivial rfl
  replace za_3 : ∀ j, h_10.2.1 q_2 j = 0 ∧ h_10.2.2 q_2 j = none := fun j => ⟨(hs.a gq_2 rfl j).1.trans (za_3 j).1, (hs.a gq_2 rfl j).2.trans (za_3 j).2⟩
  replace hM := hM.trX (hs.mono ?o14) nq_q_7
  case o14 => decide
  replace gx := gx.S hs
  replace gq_2 := gq_2.S hs
  have gq_7 : hx_g L_9 h_10 q_7 6 := gNq_7
  refine hx_putrF hx hb hts hC_9 hown hW hT (hx_S.rf (M := [(125, 3)])) gx tt_125 3 ?o15 rfl kw_367 ⟨rfl, rfl, rfl⟩ rfl hin rfl (x := (some q_7)) ⟨fun _ z => (by cases z), fun q hq => (by cases hq; exact ⟨gq_7.1, by rw [gq_7.2]; decide⟩)⟩ rfl rfl rfl (List.mem_singleton.mpr rfl) dX9_init_21 (fun H locs h_13 eh_13 hW hT hs => ?_)
  case o15 => decide
  replace f_5 := (hs.o gx trivial rfl).2.trans f_5
  replace hz := hx_zr [0, 3] hz hs gx trivial rfl
  replace za_3 : ∀ j, h_13.2.1 q_2 j = 0 ∧ h_13.2.2 q_2 j = none := fun j => ⟨(hs.a gq_2 rfl j).1.trans (za_3 j).1, (hs.a gq_2 rfl j).2.trans (za_3 j).2⟩
  replace hM := hM.tr (hs.mono ?o16)
  case o16 => decide
  replace gx := gx.S hs
  replace gq_2 := gq_2.S hs
  replace gq_7 := gq_7.S hs
  have f_14 : h_13.2.2 x 3 = (some q_7) := ?o17
  case o17 =>
    rw [eh_13]
    exact hx_pr_at _ _ _ _
  refine lv_aload_n hx hb dX9_init_24 rfl (lv_at hl 0 rfl) ?_
  refine hk_new hx hb hts hC_0 hown hW 116 tt_116 rfl ?o18 kw_148 kw_149 kw_96 (Nat.le_of_ble_eq_true rfl) (Nat.le_of_ble_eq_true rfl) dX9_init_25 (fun q_16 H h_15 eh_15 hqq_16 hW hs gq_16 => ?_)
  case o18 => decide
  have nq_q_16 : ∀ a ∈ (hx_X L x), a ≠ q_16 := fun a ha z => hqq_16 (z ▸ (hM.1 a ha).1)
  have hT : hx_T T_tb (L_9 ++ [q_16]) h_15 := ?o19
  case o19 =>
    rw [eh_15]
    exact hx_T_nw hT hqq_16 tt_116 rfl
  replace f_5 := (hs.o gx trivial rfl).2.trans f_5
  replace f_14 := (hs.o gx trivial rfl).2.trans f_14
  replace hz := hx_zr [0, 3] hz hs gx trivial rfl
  replace za_3 : ∀ j, h_15.2.1 q_2 j = 0 ∧ h_15.2.2 q_2 j = none := fun j => ⟨(hs.a gq_2 rfl j).1.trans (za_3 j).1, (hs.a gq_2 rfl j).2.trans (za_3 j).2⟩
  replace hM := hM.tr (hs.mono ?o20)
  case o20 => decide
  replace gx := gx.S hs
  replace gq_2 := gq_2.S hs
  replace gq_7 := gq_7.S hs
  have fz_17 : ∀ j, ([] : List Nat).contains j = false → h_15.2.1 q_16 j = 0 ∧ h_15.2.2 q_16 j = none := ?o21
  case o21 =>
    rw [eh_15]
    exact fun _ _ => ⟨hx_nw_i, hx_nw_r⟩
  refine lv_dup hx hb dX9_init_28 rfl ?_
  refine lv_iconst (v := -1) hx hb dX9_init_29 ?o22 ?_
  case o22 => decide
  refine lv_iconst (v := -1) hx hb dX9_init_30 ?o23 ?_
  case o23 => decide
  have zc_m1 : (-1 : Int32).toInt = -1 := ?o24
  case o24 => decide
  refine hx_gov (hx_runIX (As := [.int (-1 : Int32), .int (-1 : Int32)]) (rest := [.ref q_16, .ref x]) ⟨hx, hb, hml, hown, hts⟩ hW (t_X0_init_w l dC dI dA (L_9 ++ [q_16]) h_15 H.size b0 q_16 (-1 : Int32) (-1 : Int32) hT gq_16 (fun j => fz_17 j rfl) ?o25 ?o26) hZ (cwI 2 hts (hx_gC kw_152) rfl rfl rfl (hts _ kw_96) (hts _ kw_150) (hts _ kw_151) rfl (by decide +kernel) ⟨Nat.le_of_ble_eq_true rfl, Nat.le_of_ble_eq_true rfl⟩) rfl hl.1 rfl (Nat.le_of_ble_eq_true rfl) dX9_init_31 ⟨Nat.le_of_ble_eq_true rfl, Nat.le_of_ble_eq_true rfl⟩) hW (fun L_18 h_19 H locs p_21 hW => ?_)
  case o25 => decide
  case o26 => decide
  obtain ⟨hT, hs, gNq_16, po_22, po_23, po_24, po_25, po_26⟩ := p_21
  replace hT : hx_T T_tb L_18 h_19 := hT
  replace hs : hx_S T_tb [(11, 0), (12, 0), (116, 0), (116, 1), (116, 2), (116, 3), (116, 4)] (hx_X (L_9 ++ [q_16]) q_16) h_15 L_18 h_19 := hs
  have gx := hx_gX gx (gx.ne gq_16 ?o27)
  case o27 => decide
  have gq_2 := hx_gX gq_2 (gq_2.ne gq_16 ?o28)
  case o28 => decide
  have gq_7 := hx_gX gq_7 (gq_7.ne gq_16 ?o29)
  case o29 => decide
  replace f_5 := (hs.o gx trivial rfl).2.trans f_5
  replace f_14 := (hs.o gx trivial rfl).2.trans f_14
  replace hz := hx_zr [0, 3] hz hs gx trivial rfl
  replace za_3 : ∀ j, h_19.2.1 q_2 j = 0 ∧ h_19.2.2 q_2 j = none := fun j => ⟨(hs.a gq_2 rfl j).1.trans (za_3 j).1, (hs.a gq_2 rfl j).2.trans (za_3 j).2⟩
  replace hM := hM.trX (hs.mono ?o30) nq_q_16
  case o30 => decide
  replace gx := gx.S hs
  replace gq_2 := gq_2.S hs
  replace gq_7 := gq_7.S hs
  have gq_16 : hx_g L_18 h_19 q_16 0 := gNq_16
  have po_22 : h_19.2.1 q_16 0 = (-1 : Int32) := po_22
  have po_23 : h_19.2.1 q_16 1 = (-1 : Int32) := po_23
  have po_24 : h_19.2.1 q_16 4 = 3 := po_24
  obtain ⟨q_27, fq_27, gq_27, po_25⟩ := po_25
  have fq_27 : h_19.2.2 q_16 2 = some q_27 := fq_27
  have gq_27 : hx_g L_18 h_19 q_27 11 := gq_27
  obtain ⟨po_25, po_25N⟩ := po_25
  have po_25 : (∀ j, j < 14 → h_19.2.1 q_27 j = P_wo j) := po_25
  have po_25N : ∀ a ∈ hx_X (L_9 ++ [q_16]) q_16, a ≠ q_27 := po_25N
  obtain ⟨fw_28, nfw_28⟩ : ∃ g : Nat → Int32, h_19.2.1 q_27 = g := ⟨_, rfl⟩
  rw [nfw_28] at po_25
  obtain ⟨q_29, fq_29, gq_29, po_26⟩ := po_26
  have fq_29 : h_19.2.2 q_16 3 = some q_29 := fq_29
  have gq_29 : hx_g L_18 h_19 q_29 12 := gq_29
  obtain ⟨po_26, po_26N⟩ := po_26
  have po_26 : ((h_19.2.1 q_29 0).toInt = 144 ∧ (h_19.2.1 q_29 1).toInt = 17 ∧ (h_19.2.1 q_29 2).toInt = -1) := po_26
  have po_26N : ∀ a ∈ hx_X (L_9 ++ [q_16]) q_16, a ≠ q_29 := po_26N
  obtain ⟨fw_30, nfw_30⟩ : ∃ g : Nat → Int32, h_19.2.1 q_29 = g := ⟨_, rfl⟩
  rw [nfw_30] at po_26
  refine hx_putrF hx hb hts hC_9 hown hW hT (hx_S.rf (M := [(125, 4)])) gx tt_125 4 ?o31 rfl kw_368 ⟨rfl, rfl, rfl⟩ rfl hin rfl (x := (some q_16)) ⟨fun _ z => (by cases z), fun q hq => (by cases hq; exact ⟨gq_16.1, by rw [gq_16.2]; decide⟩)⟩ rfl rfl rfl (List.mem_singleton.mpr rfl) dX9_init_34 (fun H locs h_31 eh_31 hW hT hs => ?_)
  case o31 => decide
  replace f_5 := (hs.o gx trivial rfl).2.trans f_5
  replace f_14 := (hs.o gx trivial rfl).2.trans f_14
  replace po_22 := (hs.o gq_16 trivial rfl).1.trans po_22
  replace po_23 := (hs.o gq_16 trivial rfl).1.trans po_23
  replace po_24 := (hs.o gq_16 trivial rfl).1.trans po_24
  replace fq_27 := (hs.o gq_16 trivial rfl).2.trans fq_27
  replace fq_29 := (hs.o gq_16 trivial rfl).2.trans fq_29
  replace hz := hx_zr [0, 3, 4] hz hs gx trivial rfl
  replace za_3 : ∀ j, h_31.2.1 q_2 j = 0 ∧ h_31.2.2 q_2 j = none := fun j => ⟨(hs.a gq_2 rfl j).1.trans (za_3 j).1, (hs.a gq_2 rfl j).2.trans (za_3 j).2⟩
  replace nfw_28 : h_31.2.1 q_27 = fw_28 := (funext fun j => (hs.a gq_27 rfl j).1).trans nfw_28
  replace nfw_30 : h_31.2.1 q_29 = fw_30 := (funext fun j => (hs.a gq_29 rfl j).1).trans nfw_30
  replace hM := hM.tr (hs.mono ?o32)
  case o32 => decide
  replace gx := gx.S hs
  replace gq_2 := gq_2.S hs
  replace gq_7 := gq_7.S hs
  replace gq_16 := gq_16.S hs
  replace gq_27 := gq_27.S hs
  replace gq_29 := gq_29.S hs
  have f_32 : h_31.2.2 x 4 = (some q_16) := ?o33
  case o33 =>
    rw [eh_31]
    exact hx_pr_at _ _ _ _
  refine lv_aload_n hx hb dX9_init_37 rfl (lv_at hl 0 rfl) ?_
  refine lv_bipush (v := 8) hx hb dX9_init_38 ?o34 ?_
  case o34 => decide
  refine hk_newqX hx hb hts hown hW 43 tt_43 kw_148 hZ.2.1.1 (tys := P_ty dA) (t0 := 4) rfl (i := (8 : Int32)) ?o35 (Nat.le_of_ble_eq_true rfl) (Nat.le_of_ble_eq_true rfl) (Nat.le_of_ble_eq_true rfl) dX9_init_40 (fun q_34 H h_33 eh_33 hqq_34 hW hs gq_34 => ?_)
  case o35 => decide
  have nq_q_34 : ∀ a ∈ (hx_X L x), a ≠ q_34 := fun a ha z => hqq_34 (z ▸ (hM.1 a ha).1)
  have hT : hx_T T_tb (L_18 ++ [q_34]) h_33 := ?o36
  case o36 =>
    rw [eh_33]
    exact hx_T_nw hT hqq_34 tt_43 rfl
  replace f_5 := (hs.o gx trivial rfl).2.trans f_5
  replace f_14 := (hs.o gx trivial rfl).2.trans f_14
  replace po_22 := (hs.o gq_16 trivial rfl).1.trans po_22
  replace po_23 := (hs.o gq_16 trivial rfl).1.trans po_23
  replace po_24 := (hs.o gq_16 trivial rfl).1.trans po_24
  replace fq_27 := (hs.o gq_16 trivial rfl).2.trans fq_27
  replace fq_29 := (hs.o gq_16 trivial rfl).2.trans fq_29
  replace f_32 := (hs.o gx trivial rfl).2.trans f_32
  replace hz := hx_zr [0, 3, 4] hz hs gx trivial rfl
  replace za_3 : ∀ j, h_33.2.1 q_2 j = 0 ∧ h_33.2.2 q_2 j = none := fun j => ⟨(hs.a gq_2 rfl j).1.trans (za_3 j).1, (hs.a gq_2 rfl j).2.trans (za_3 j).2⟩
  replace nfw_28 : h_33.2.1 q_27 = fw_28 := (funext fun j => (hs.a gq_27 rfl j).1).trans nfw_28
  replace nfw_30 : h_33.2.1 q_29 = fw_30 := (funext fun j => (hs.a gq_29 rfl j).1).trans nfw_30
  replace hM := hM.tr (hs.mono ?o37)
  case o37 => decide
  replace gx := gx.S hs
  replace gq_2 := gq_2.S hs
  replace gq_7 := gq_7.S hs
  replace gq_16 := gq_16.S hs
  replace gq_27 := gq_27.S hs
  replace gq_29 := gq_29.S hs
  refine hx_putrF hx hb hts hC_9 hown hW hT (hx_S.rf (M := [(125, 5)])) gx tt_125 5 ?o38 rfl kw_369 ⟨rfl, rfl, rfl⟩ rfl hin rfl (x := (some q_34)) ⟨fun _ z => (by cases z), fun q hq => (by cases hq; exact ⟨gq_34.1, by rw [gq_34.2]; decide⟩)⟩ rfl rfl rfl (List.mem_singleton.mpr rfl) dX9_init_43 (fun H locs h_35 eh_35 hW hT hs => ?_)
  case o38 => decide
  replace f_5 := (hs.o gx trivial rfl).2.trans f_5
  replace f_14 := (hs.o gx trivial rfl).2.trans f_14
  replace po_22 := (hs.o gq_16 trivial rfl).1.trans po_22
  replace po_23 := (hs.o gq_16 trivial rfl).1.trans po_23
  replace po_24 := (hs.o gq_16 trivial rfl).1.trans po_24
  replace fq_27 := (hs.o gq_16 trivial rfl).2.trans fq_27
  replace fq_29 := (hs.o gq_16 trivial rfl).2.trans fq_29
  replace f_32 := (hs.o gx trivial rfl).2.trans f_32
  replace hz := hx_zr [0, 3, 4, 5] hz hs gx trivial rfl
  replace za_3 : ∀ j, h_35.2.1 q_2 j = 0 ∧ h_35.2.2 q_2 j = none := fun j => ⟨(hs.a gq_2 rfl j).1.trans (za_3 j).1, (hs.a gq_2 rfl j).2.trans (za_3 j).2⟩
  replace nfw_28 : h_35.2.1 q_27 = fw_28 := (funext fun j => (hs.a gq_27 rfl j).1).trans nfw_28
  replace nfw_30 : h_35.2.1 q_29 = fw_30 := (funext fun j => (hs.a gq_29 rfl j).1).trans nfw_30
  replace hM := hM.tr (hs.mono ?o39)
  case o39 => decide
  replace gx := gx.S hs
  replace gq_2 := gq_2.S hs
  replace gq_7 := gq_7.S hs
  replace gq_16 := gq_16.S hs
  replace gq_27 := gq_27.S hs
  replace gq_29 := gq_29.S hs
  replace gq_34 := gq_34.S hs
  have f_36 : h_35.2.2 x 5 = (some q_34) := ?o40
  case o40 =>
    rw [eh_35]
    exact hx_pr_at _ _ _ _
  refine lv_aload_n hx hb dX9_init_46 rfl (lv_at hl 0 rfl) ?_
  refine lv_bipush (v := 40) hx hb dX9_init_47 ?o41 ?_
  case o41 => decide
  refine hk_newqX hx hb hts hown hW 44 tt_44 kw_188 hZ.2.1.2.1 (tys := P_ty dA) (t0 := 5) rfl (i := (40 : Int32)) ?o42 (Nat.le_of_ble_eq_true rfl) (Nat.le_of_ble_eq_true rfl) (Nat.le_of_ble_eq_true rfl) dX9_init_49 (fun q_38 H h_37 eh_37 hqq_38 hW hs gq_38 => ?_)
  case o42 => decide
  have nq_q_38 : ∀ a ∈ (hx_X L x), a ≠ q_38 := fun a ha z => hqq_38 (z ▸ (hM.1 a ha).1)
  have hT : hx_T T_tb ((L_18 ++ [q_34]) ++ [q_38]) h_37 := ?o43
  case o43 =>
    rw [eh_37]
    exact hx_T_nw hT hqq_38 tt_44 rfl
  replace f_5 := (hs.o gx trivial rfl).2.trans f_5
  replace f_14 := (hs.o gx trivial rfl).2.trans f_14
  replace po_22 := (hs.o gq_16 trivial rfl).1.trans po_22
  replace po_23 := (hs.o gq_16 trivial rfl).1.trans po_23
  replace po_24 := (hs.o gq_16 trivial rfl).1.trans po_24
  replace fq_27 := (hs.o gq_16 trivial rfl).2.trans fq_27
  replace fq_29 := (hs.o gq_16 trivial rfl).2.trans fq_29
  replace f_32 := (hs.o gx trivial rfl).2.trans f_32
  replace f_36 := (hs.o gx trivial rfl).2.trans f_36
  replace hz := hx_zr [0, 3, 4, 5] hz hs gx trivial rfl
  replace za_3 : ∀ j, h_37.2.1 q_2 j = 0 ∧ h_37.2.2 q_2 j = none := fun j => ⟨(hs.a gq_2 rfl j).1.trans (za_3 j).1, (hs.a gq_2 rfl j).2.trans (za_3 j).2⟩
  replace nfw_28 : h_37.2.1 q_27 = fw_28 := (funext fun j => (hs.a gq_27 rfl j).1).trans nfw_28
  replace nfw_30 : h_37.2.1 q_29 = fw_30 := (funext fun j => (hs.a gq_29 rfl j).1).trans nfw_30
  replace hM := hM.tr (hs.mono ?o44)
  case o44 => decide
  replace gx := gx.S hs
  replace gq_2 := gq_2.S hs
  replace gq_7 := gq_7.S hs
  replace gq_16 := gq_16.S hs
  replace gq_27 := gq_27.S hs
  replace gq_29 := gq_29.S hs
  replace gq_34 := gq_34.S hs
  have za_39 : ∀ j, h_37.2.1 q_38 j = 0 ∧ h_37.2.2 q_38 j = none := ?o45
  case o45 =>
    rw [eh_37]
    exact fun _ => ⟨hx_nw_i, hx_nw_r⟩
  refine hx_putrF hx hb hts hC_9 hown hW hT (hx_S.rf (M := [(125, 7)])) gx tt_125 7 ?o46 rfl kw_371 ⟨rfl, rfl, rfl⟩ rfl hin rfl (x := (some q_38)) ⟨fun _ z => (by cases z), fun q hq => (by cases hq; exact ⟨gq_38.1, by rw [gq_38.2]; decide⟩)⟩ rfl rfl rfl (List.mem_singleton.mpr rfl) dX9_init_52 (fun H locs h_40 eh_40 hW hT hs => ?_)
  case o46 => decide
  replace f_5 := (hs.o gx trivial rfl).2.trans f_5
  replace f_14 := (hs.o gx trivial rfl).2.trans f_14
  replace po_22 := (hs.o gq_16 trivial rfl).1.trans po_22
  replace po_23 := (hs.o gq_16 trivial rfl).1.trans po_23
  replace po_24 := (hs.o gq_16 trivial rfl).1.trans po_24
  replace fq_27 := (hs.o gq_16 trivial rfl).2.trans fq_27
  replace fq_29 := (hs.o gq_16 trivial rfl).2.trans fq_29
  replace f_32 := (hs.o gx trivial rfl).2.trans f_32
  replace f_36 := (hs.o gx trivial rfl).2.trans f_36
  replace hz := hx_zr [0, 3, 4, 5, 7] hz hs gx trivial rfl
  replace za_3 : ∀ j, h_40.2.1 q_2 j = 0 ∧ h_40.2.2 q_2 j = none := fun j => ⟨(hs.a gq_2 rfl j).1.trans (za_3 j).1, (hs.a gq_2 rfl j).2.trans (za_3 j).2⟩
  replace za_39 : ∀ j, h_40.2.1 q_38 j = 0 ∧ h_40.2.2 q_38 j = none := fun j => ⟨(hs.a gq_38 rfl j).1.trans (za_39 j).1, (hs.a gq_38 rfl j).2.trans (za_39 j).2⟩
  replace nfw_28 : h_40.2.1 q_27 = fw_28 := (funext fun j => (hs.a gq_27 rfl j).1).trans nfw_28
  replace nfw_30 : h_40.2.1 q_29 = fw_30 := (funext fun j => (hs.a gq_29 rfl j).1).trans nfw_30
  replace hM := hM.tr (hs.mono ?o47)
  case o47 => decide
  replace gx := gx.S hs
  replace gq_2 := gq_2.S hs
  replace gq_7 := gq_7.S hs
  replace gq_16 := gq_16.S hs
  replace gq_27 := gq_27.S hs
  replace gq_29 := gq_29.S hs
  replace gq_34 := gq_34.S hs
  replace gq_38 := gq_38.S hs
  have f_41 : h_40.2.2 x 7 = (some q_38) := ?o48
  case o48 =>
    rw [eh_40]
    exact hx_pr_at _ _ _ _
  refine lv_aload_n hx hb dX9_init_55 rfl (lv_at hl 0 rfl) ?_
  refine hk_new hx hb hts hC_1 hown hW 117 tt_117 rfl ?o49 kw_190 kw_191 kw_98 (Nat.le_of_ble_eq_true rfl) (Nat.le_of_ble_eq_true rfl) dX9_init_56 (fun q_43 H h_42 eh_42 hqq_43 hW hs gq_43 => ?_)
  case o49 => decide
  have nq_q_43 : ∀ a ∈ (hx_X L x), a ≠ q_43 := fun a ha z => hqq_43 (z ▸ (hM.1 a ha).1)
  have hT : hx_T T_tb (((L_18 ++ [q_34]) ++ [q_38]) ++ [q_43]) h_42 := ?o50
  case o50 =>
    rw [eh_42]
    exact hx_T_nw hT hqq_43 tt_117 rfl
  replace f_5 := (hs.o gx trivial rfl).2.trans f_5
  replace f_14 := (hs.o gx trivial rfl).2.trans f_14
  replace po_22 := (hs.o gq_16 trivial rfl).1.trans po_22
  replace po_23 := (hs.o gq_16 trivial rfl).1.trans po_23
  replace po_24 := (hs.o gq_16 trivial rfl).1.trans po_24
  replace fq_27 := (hs.o gq_16 trivial rfl).2.trans fq_27
  replace fq_29 := (hs.o gq_16 trivial rfl).2.trans fq_29
  replace f_32 := (hs.o gx trivial rfl).2.trans f_32
  replace f_36 := (hs.o gx trivial rfl).2.trans f_36
  replace f_41 := (hs.o gx trivial rfl).2.trans f_41
  replace hz := hx_zr [0, 3, 4, 5, 7] hz hs gx trivial rfl
  replace za_3 : ∀ j, h_42.2.1 q_2 j = 0 ∧ h_42.2.2 q_2 j = none := fun j => ⟨(hs.a gq_2 rfl j).1.trans (za_3 j).1, (hs.a gq_2 rfl j).2.trans (za_3 j).2⟩
  replace za_39 : ∀ j, h_42.2.1 q_38 j = 0 ∧ h_42.2.2 q_38 j = none := fun j => ⟨(hs.a gq_38 rfl j).1.trans (za_39 j).1, (hs.a gq_38 rfl j).2.trans (za_39 j).2⟩
  replace nfw_28 : h_42.2.1 q_27 = fw_28 := (funext fun j => (hs.a gq_27 rfl j).1).trans nfw_28
  replace nfw_30 : h_42.2.1 q_29 = fw_30 := (funext fun j => (hs.a gq_29 rfl j).1).trans nfw_30
  replace hM := hM.tr (hs.mono ?o51)
  case o51 => decide
  replace gx := gx.S hs
  replace gq_2 := gq_2.S hs
  replace gq_7 := gq_7.S hs
  replace gq_16 := gq_16.S hs
  replace gq_27 := gq_27.S hs
  replace gq_29 := gq_29.S hs
  replace gq_34 := gq_34.S hs
  replace gq_38 := gq_38.S hs
  have fz_44 : ∀ j, ([] : List Nat).contains j = false → h_42.2.1 q_43 j = 0 ∧ h_42.2.2 q_43 j = none := ?o52
  case o52 =>
    rw [eh_42]
    exact fun _ _ => ⟨hx_nw_i, hx_nw_r⟩
  refine lv_dup hx hb dX9_init_59 rfl ?_
  refine hx_gov (hx_runIN (As := []) (rest := [.ref q_43, .ref x]) ⟨hx, hb, hml, hown, hts⟩ hW (t_X1_init l dC dI dA (((L_18 ++ [q_34]) ++ [q_38]) ++ [q_43]) h_42 H.size q_43 hT gq_43 (fun j => fz_44 j rfl)) ⟨va_cnB 0 hts (hx_gC kw_194) rfl rfl rfl (hZ.1 _ (List.mem_of_getElem? (i := 2) rfl)) (hts _ kw_98) (by decide +kernel) ⟨Nat.le_of_ble_eq_true rfl, Nat.le_of_ble_eq_true rfl⟩, rfl, hts _ kw_193⟩ rfl hl.1 rfl (Nat.le_of_ble_eq_true rfl) dX9_init_60 ⟨Nat.le_of_ble_eq_true rfl, Nat.le_of_ble_eq_true rfl⟩) hW (fun L_45 h_46 H locs p_48 hW => ?_)
  obtain ⟨hT, hs, gNq_43, po_49⟩ := p_48
  replace hT : hx_T T_tb L_45 h_46 := hT
  replace hs : hx_S T_tb [(117, 1), (117, 2), (117, 3), (117, 4), (117, 5), (117, 6), (117, 7)] (hx_X (((L_18 ++ [q_34]) ++ [q_38]) ++ [q_43]) q_43) h_42 L_45 h_46 := hs
  have gx := hx_gX gx (gx.ne gq_43 ?o53)
  case o53 => decide
  have gq_2 := hx_gX gq_2 (gq_2.ne gq_43 ?o54)
  case o54 => decide
  have gq_7 := hx_gX gq_7 (gq_7.ne gq_43 ?o55)
  case o55 => decide
  have gq_16 := hx_gX gq_16 (gq_16.ne gq_43 ?o56)
  case o56 => decide
  have gq_27 := hx_gX gq_27 (gq_27.ne gq_43 ?o57)
  case o57 => decide
  have gq_29 := hx_gX gq_29 (gq_29.ne gq_43 ?o58)
  case o58 => decide
  have gq_34 := hx_gX gq_34 (gq_34.ne gq_43 ?o59)
  case o59 => decide
  have gq_38 := hx_gX gq_38 (gq_38.ne gq_43 ?o60)
  case o60 => decide
  replace f_5 := (hs.o gx trivial rfl).2.trans f_5
  replace f_14 := (hs.o gx trivial rfl).2.trans f_14
  replace po_22 := (hs.o gq_16 trivial rfl).1.trans po_22
  replace po_23 := (hs.o gq_16 trivial rfl).1.trans po_23
  replace po_24 := (hs.o gq_16 trivial rfl).1.trans po_24
  replace fq_27 := (hs.o gq_16 trivial rfl).2.trans fq_27
  replace fq_29 := (hs.o gq_16 trivial rfl).2.trans fq_29
  replace f_32 := (hs.o gx trivial rfl).2.trans f_32
  replace f_36 := (hs.o gx trivial rfl).2.trans f_36
  replace f_41 := (hs.o gx trivial rfl).2.trans f_41
  replace hz := hx_zr [0, 3, 4, 5, 7] hz hs gx trivial rfl
  replace za_3 : ∀ j, h_46.2.1 q_2 j = 0 ∧ h_46.2.2 q_2 j = none := fun j => ⟨(hs.a gq_2 rfl j).1.trans (za_3 j).1, (hs.a gq_2 rfl j).2.trans (za_3 j).2⟩
  replace za_39 : ∀ j, h_46.2.1 q_38 j = 0 ∧ h_46.2.2 q_38 j = none := fun j => ⟨(hs.a gq_38 rfl j).1.trans (za_39 j).1, (hs.a gq_38 rfl j).2.trans (za_39 j).2⟩
  replace nfw_28 : h_46.2.1 q_27 = fw_28 := (funext fun j => (hs.a gq_27 rfl j).1).trans nfw_28
  replace nfw_30 : h_46.2.1 q_29 = fw_30 := (funext fun j => (hs.a gq_29 rfl j).1).trans nfw_30
  replace hM := hM.trX (hs.mono ?o61) nq_q_43
  case o61 => decide
  replace gx := gx.S hs
  replace gq_2 := gq_2.S hs
  replace gq_7 := gq_7.S hs
  replace gq_16 := gq_16.S hs
  replace gq_27 := gq_27.S hs
  replace gq_29 := gq_29.S hs
  replace gq_34 := gq_34.S hs
  replace gq_38 := gq_38.S hs
  have gq_43 : hx_g L_45 h_46 q_43 1 := gNq_43
  have po_49 : h_46.2.1 q_43 0 = 0 := po_49
  refine hx_putrF hx hb hts hC_9 hown hW hT (hx_S.rf (M := [(125, 9)])) gx tt_125 9 ?o62 rfl kw_373 ⟨rfl, rfl, rfl⟩ rfl hin rfl (x := (some q_43)) ⟨fun _ z => (by cases z), fun q hq => (by cases hq; exact ⟨gq_43.1, by rw [gq_43.2]; decide⟩)⟩ rfl rfl rfl (List.mem_singleton.mpr rfl) dX9_init_63 (fun H locs h_50 eh_50 hW hT hs => ?_)
  case o62 => decide
  replace f_5 := (hs.o gx trivial rfl).2.trans f_5
  replace f_14 := (hs.o gx trivial rfl).2.trans f_14
  replace po_22 := (hs.o gq_16 trivial rfl).1.trans po_22
  replace po_23 := (hs.o gq_16 trivial rfl).1.trans po_23
  replace po_24 := (hs.o gq_16 trivial rfl).1.trans po_24
  replace fq_27 := (hs.o gq_16 trivial rfl).2.trans fq_27
  replace fq_29 := (hs.o gq_16 trivial rfl).2.trans fq_29
  replace f_32 := (hs.o gx trivial rfl).2.trans f_32
  replace f_36 := (hs.o gx trivial rfl).2.trans f_36
  replace f_41 := (hs.o gx trivial rfl).2.trans f_41
  replace po_49 := (hs.o gq_43 trivial rfl).1.trans po_49
  replace hz := hx_zr [0, 3, 4, 5, 7, 9] hz hs gx trivial rfl
  replace za_3 : ∀ j, h_50.2.1 q_2 j = 0 ∧ h_50.2.2 q_2 j = none := fun j => ⟨(hs.a gq_2 rfl j).1.trans (za_3 j).1, (hs.a gq_2 rfl j).2.trans (za_3 j).2⟩
  replace za_39 : ∀ j, h_50.2.1 q_38 j = 0 ∧ h_50.2.2 q_38 j = none := fun j => ⟨(hs.a gq_38 rfl j).1.trans (za_39 j).1, (hs.a gq_38 rfl j).2.trans (za_39 j).2⟩
  replace nfw_28 : h_50.2.1 q_27 = fw_28 := (funext fun j => (hs.a gq_27 rfl j).1).trans nfw_28
  replace nfw_30 : h_50.2.1 q_29 = fw_30 := (funext fun j => (hs.a gq_29 rfl j).1).trans nfw_30
  replace hM := hM.tr (hs.mono ?o63)
  case o63 => decide
  replace gx := gx.S hs
  replace gq_2 := gq_2.S hs
  replace gq_7 := gq_7.S hs
  replace gq_16 := gq_16.S hs
  replace gq_27 := gq_27.S hs
  replace gq_29 := gq_29.S hs
  replace gq_34 := gq_34.S hs
  replace gq_38 := gq_38.S hs
  replace gq_43 := gq_43.S hs
  have f_51 : h_50.2.2 x 9 = (some q_43) := ?o64
  case o64 =>
    rw [eh_50]
    exact hx_pr_at _ _ _ _
  refine lv_aload_n hx hb dX9_init_66 rfl (lv_at hl 0 rfl) ?_
  refine lv_bipush (v := 100) hx hb dX9_init_67 ?o65 ?_
  case o65 => decide
  refine hk_newqX hx hb hts hown hW 45 tt_45 kw_223 hZ.2.1.2.2 (tys := P_ty dA) (t0 := 6) rfl (i := (100 : Int32)) ?o66 (Nat.le_of_ble_eq_true rfl) (Nat.le_of_ble_eq_true rfl) (Nat.le_of_ble_eq_true rfl) dX9_init_69 (fun q_53 H h_52 eh_52 hqq_53 hW hs gq_53 => ?_)
  case o66 => decide
  have nq_q_53 : ∀ a ∈ (hx_X L x), a ≠ q_53 := fun a ha z => hqq_53 (z ▸ (hM.1 a ha).1)
  have hT : hx_T T_tb (L_45 ++ [q_53]) h_52 := ?o67
  case o67 =>
    rw [eh_52]
    exact hx_T_nw hT hqq_53 tt_45 rfl
  replace f_5 := (hs.o gx trivial rfl).2.trans f_5
  replace f_14 := (hs.o gx trivial rfl).2.trans f_14
  replace po_22 := (hs.o gq_16 trivial rfl).1.trans po_22
  replace po_23 := (hs.o gq_16 trivial rfl).1.trans po_23
  replace po_24 := (hs.o gq_16 trivial rfl).1.trans po_24
  replace fq_27 := (hs.o gq_16 trivial rfl).2.trans fq_27
  replace fq_29 := (hs.o gq_16 trivial rfl).2.trans fq_29
  replace f_32 := (hs.o gx trivial rfl).2.trans f_32
  replace f_36 := (hs.o gx trivial rfl).2.trans f_36
  replace f_41 := (hs.o gx trivial rfl).2.trans f_41
  replace po_49 := (hs.o gq_43 trivial rfl).1.trans po_49
  replace f_51 := (hs.o gx trivial rfl).2.trans f_51
  replace hz := hx_zr [0, 3, 4, 5, 7, 9] hz hs gx trivial rfl
  replace za_3 : ∀ j, h_52.2.1 q_2 j = 0 ∧ h_52.2.2 q_2 j = none := fun j => ⟨(hs.a gq_2 rfl j).1.trans (za_3 j).1, (hs.a gq_2 rfl j).2.trans (za_3 j).2⟩
  replace za_39 : ∀ j, h_52.2.1 q_38 j = 0 ∧ h_52.2.2 q_38 j = none := fun j => ⟨(hs.a gq_38 rfl j).1.trans (za_39 j).1, (hs.a gq_38 rfl j).2.trans (za_39 j).2⟩
  replace nfw_28 : h_52.2.1 q_27 = fw_28 := (funext fun j => (hs.a gq_27 rfl j).1).trans nfw_28
  replace nfw_30 : h_52.2.1 q_29 = fw_30 := (funext fun j => (hs.a gq_29 rfl j).1).trans nfw_30
  replace hM := hM.tr (hs.mono ?o68)
  case o68 => decide
  replace gx := gx.S hs
  replace gq_2 := gq_2.S hs
  replace gq_7 := gq_7.S hs
  replace gq_16 := gq_16.S hs
  replace gq_27 := gq_27.S hs
  replace gq_29 := gq_29.S hs
  replace gq_34 := gq_34.S hs
  replace gq_38 := gq_38.S hs
  replace gq_43 := gq_43.S hs
  have za_54 : ∀ j, h_52.2.1 q_53 j = 0 ∧ h_52.2.2 q_53 j = none := ?o69
  case o69 =>
    rw [eh_52]
    exact fun _ => ⟨hx_nw_i, hx_nw_r⟩
  refine hx_putrF hx hb hts hC_9 hown hW hT (hx_S.rf (M := [(125, 10)])) gx tt_125 10 ?o70 rfl kw_374 ⟨rfl, rfl, rfl⟩ rfl hin rfl (x := (some q_53)) ⟨fun _ z => (by cases z), fun q hq => (by cases hq; exact ⟨gq_53.1, by rw [gq_53.2]; decide⟩)⟩ rfl rfl rfl (List.mem_singleton.mpr rfl) dX9_init_72 (fun H locs h_55 eh_55 hW hT hs => ?_)
  case o70 => decide
  replace f_5 := (hs.o gx trivial rfl).2.trans f_5
  replace f_14 := (hs.o gx trivial rfl).2.trans f_14
  replace po_22 := (hs.o gq_16 trivial rfl).1.trans po_22
  replace po_23 := (hs.o gq_16 trivial rfl).1.trans po_23
  replace po_24 := (hs.o gq_16 trivial rfl).1.trans po_24
  replace fq_27 := (hs.o gq_16 trivial rfl).2.trans fq_27
  replace fq_29 := (hs.o gq_16 trivial rfl).2.trans fq_29
  replace f_32 := (hs.o gx trivial rfl).2.trans f_32
  replace f_36 := (hs.o gx trivial rfl).2.trans f_36
  replace f_41 := (hs.o gx trivial rfl).2.trans f_41
  replace po_49 := (hs.o gq_43 trivial rfl).1.trans po_49
  replace f_51 := (hs.o gx trivial rfl).2.trans f_51
  replace hz := hx_zr [0, 3, 4, 5, 7, 9, 10] hz hs gx trivial rfl
  replace za_3 : ∀ j, h_55.2.1 q_2 j = 0 ∧ h_55.2.2 q_2 j = none := fun j => ⟨(hs.a gq_2 rfl j).1.trans (za_3 j).1, (hs.a gq_2 rfl j).2.trans (za_3 j).2⟩
  replace za_39 : ∀ j, h_55.2.1 q_38 j = 0 ∧ h_55.2.2 q_38 j = none := fun j => ⟨(hs.a gq_38 rfl j).1.trans (za_39 j).1, (hs.a gq_38 rfl j).2.trans (za_39 j).2⟩
  replace za_54 : ∀ j, h_55.2.1 q_53 j = 0 ∧ h_55.2.2 q_53 j = none := fun j => ⟨(hs.a gq_53 rfl j).1.trans (za_54 j).1, (hs.a gq_53 rfl j).2.trans (za_54 j).2⟩
  replace nfw_28 : h_55.2.1 q_27 = fw_28 := (funext fun j => (hs.a gq_27 rfl j).1).trans nfw_28
  replace nfw_30 : h_55.2.1 q_29 = fw_30 := (funext fun j => (hs.a gq_29 rfl j).1).trans nfw_30
  replace hM := hM.tr (hs.mono ?o71)
  case o71 => decide
  replace gx := gx.S hs
  replace gq_2 := gq_2.S hs
  replace gq_7 := gq_7.S hs
  replace gq_16 := gq_16.S hs
  replace gq_27 := gq_27.S hs
  replace gq_29 := gq_29.S hs
  replace gq_34 := gq_34.S hs
  replace gq_38 := gq_38.S hs
  replace gq_43 := gq_43.S hs
  replace gq_53 := gq_53.S hs
  have f_56 : h_55.2.2 x 10 = (some q_53) := ?o72
  case o72 =>
    rw [eh_55]
    exact hx_pr_at _ _ _ _
  refine lv_aload_n hx hb dX9_init_75 rfl (lv_at hl 0 rfl) ?_
  refine lv_bipush (v := 100) hx hb dX9_init_76 ?o73 ?_
  case o73 => decide
  refine hk_newqX hx hb hts hown hW 46 tt_46 kw_223 hZ.2.1.2.2 (tys := P_ty dA) (t0 := 6) rfl (i := (100 : Int32)) ?o74 (Nat.le_of_ble_eq_true rfl) (Nat.le_of_ble_eq_true rfl) (Nat.le_of_ble_eq_true rfl) dX9_init_78 (fun q_58 H h_57 eh_57 hqq_58 hW hs gq_58 => ?_)
  case o74 => decide
  have nq_q_58 : ∀ a ∈ (hx_X L x), a ≠ q_58 := fun a ha z => hqq_58 (z ▸ (hM.1 a ha).1)
  have hT : hx_T T_tb ((L_45 ++ [q_53]) ++ [q_58]) h_57 := ?o75
  case o75 =>
    rw [eh_57]
    exact hx_T_nw hT hqq_58 tt_46 rfl
  replace f_5 := (hs.o gx trivial rfl).2.trans f_5
  replace f_14 := (hs.o gx trivial rfl).2.trans f_14
  replace po_22 := (hs.o gq_16 trivial rfl).1.trans po_22
  replace po_23 := (hs.o gq_16 trivial rfl).1.trans po_23
  replace po_24 := (hs.o gq_16 trivial rfl).1.trans po_24
  replace fq_27 := (hs.o gq_16 trivial rfl).2.trans fq_27
  replace fq_29 := (hs.o gq_16 trivial rfl).2.trans fq_29
  replace f_32 := (hs.o gx trivial rfl).2.trans f_32
  replace f_36 := (hs.o gx trivial rfl).2.trans f_36
  replace f_41 := (hs.o gx trivial rfl).2.trans f_41
  replace po_49 := (hs.o gq_43 trivial rfl).1.trans po_49
  replace f_51 := (hs.o gx trivial rfl).2.trans f_51
  replace f_56 := (hs.o gx trivial rfl).2.trans f_56
  replace hz := hx_zr [0, 3, 4, 5, 7, 9, 10] hz hs gx trivial rfl
  replace za_3 : ∀ j, h_57.2.1 q_2 j = 0 ∧ h_57.2.2 q_2 j = none := fun j => ⟨(hs.a gq_2 rfl j).1.trans (za_3 j).1, (hs.a gq_2 rfl j).2.trans (za_3 j).2⟩
  replace za_39 : ∀ j, h_57.2.1 q_38 j = 0 ∧ h_57.2.2 q_38 j = none := fun j => ⟨(hs.a gq_38 rfl j).1.trans (za_39 j).1, (hs.a gq_38 rfl j).2.trans (za_39 j).2⟩
  replace za_54 : ∀ j, h_57.2.1 q_53 j = 0 ∧ h_57.2.2 q_53 j = none := fun j => ⟨(hs.a gq_53 rfl j).1.trans (za_54 j).1, (hs.a gq_53 rfl j).2.trans (za_54 j).2⟩
  replace nfw_28 : h_57.2.1 q_27 = fw_28 := (funext fun j => (hs.a gq_27 rfl j).1).trans nfw_28
  replace nfw_30 : h_57.2.1 q_29 = fw_30 := (funext fun j => (hs.a gq_29 rfl j).1).trans nfw_30
  replace hM := hM.tr (hs.mono ?o76)
  case o76 => decide
  replace gx := gx.S hs
  replace gq_2 := gq_2.S hs
  replace gq_7 := gq_7.S hs
  replace gq_16 := gq_16.S hs
  replace gq_27 := gq_27.S hs
  replace gq_29 := gq_29.S hs
  replace gq_34 := gq_34.S hs
  replace gq_38 := gq_38.S hs
  replace gq_43 := gq_43.S hs
  replace gq_53 := gq_53.S hs
  refine hx_putrF hx hb hts hC_9 hown hW hT (hx_S.rf (M := [(125, 12)])) gx tt_125 12 ?o77 rfl kw_376 ⟨rfl, rfl, rfl⟩ rfl hin rfl (x := (some q_58)) ⟨fun _ z => (by cases z), fun q hq => (by cases hq; exact ⟨gq_58.1, by rw [gq_58.2]; decide⟩)⟩ rfl rfl rfl (List.mem_singleton.mpr rfl) dX9_init_81 (fun H locs h_59 eh_59 hW hT hs => ?_)
  case o77 => decide
  replace f_5 := (hs.o gx trivial rfl).2.trans f_5
  replace f_14 := (hs.o gx trivial rfl).2.trans f_14
  replace po_22 := (hs.o gq_16 trivial rfl).1.trans po_22
  replace po_23 := (hs.o gq_16 trivial rfl).1.trans po_23
  replace po_24 := (hs.o gq_16 trivial rfl).1.trans po_24
  replace fq_27 := (hs.o gq_16 trivial rfl).2.trans fq_27
  replace fq_29 := (hs.o gq_16 trivial rfl).2.trans fq_29
  replace f_32 := (hs.o gx trivial rfl).2.trans f_32
  replace f_36 := (hs.o gx trivial rfl).2.trans f_36
  replace f_41 := (hs.o gx trivial rfl).2.trans f_41
  replace po_49 := (hs.o gq_43 trivial rfl).1.trans po_49
  replace f_51 := (hs.o gx trivial rfl).2.trans f_51
  replace f_56 := (hs.o gx trivial rfl).2.trans f_56
  replace hz := hx_zr [0, 3, 4, 5, 7, 9, 10, 12] hz hs gx trivial rfl
  replace za_3 : ∀ j, h_59.2.1 q_2 j = 0 ∧ h_59.2.2 q_2 j = none := fun j => ⟨(hs.a gq_2 rfl j).1.trans (za_3 j).1, (hs.a gq_2 rfl j).2.trans (za_3 j).2⟩
  replace za_39 : ∀ j, h_59.2.1 q_38 j = 0 ∧ h_59.2.2 q_38 j = none := fun j => ⟨(hs.a gq_38 rfl j).1.trans (za_39 j).1, (hs.a gq_38 rfl j).2.trans (za_39 j).2⟩
  replace za_54 : ∀ j, h_59.2.1 q_53 j = 0 ∧ h_59.2.2 q_53 j = none := fun j => ⟨(hs.a gq_53 rfl j).1.trans (za_54 j).1, (hs.a gq_53 rfl j).2.trans (za_54 j).2⟩
  replace nfw_28 : h_59.2.1 q_27 = fw_28 := (funext fun j => (hs.a gq_27 rfl j).1).trans nfw_28
  replace nfw_30 : h_59.2.1 q_29 = fw_30 := (funext fun j => (hs.a gq_29 rfl j).1).trans nfw_30
  replace hM := hM.tr (hs.mono ?o78)
  case o78 => decide
  replace gx := gx.S hs
  replace gq_2 := gq_2.S hs
  replace gq_7 := gq_7.S hs
  replace gq_16 := gq_16.S hs
  replace gq_27 := gq_27.S hs
  replace gq_29 := gq_29.S hs
  replace gq_34 := gq_34.S hs
  replace gq_38 := gq_38.S hs
  replace gq_43 := gq_43.S hs
  replace gq_53 := gq_53.S hs
  replace gq_58 := gq_58.S hs
  have f_60 : h_59.2.2 x 12 = (some q_58) := ?o79
  case o79 =>
    rw [eh_59]
    exact hx_pr_at _ _ _ _
  refine lv_aload_n hx hb dX9_init_84 rfl (lv_at hl 0 rfl) ?_
  refine hk_new hx hb hts hC_3 hown hW 119 tt_119 rfl ?o80 kw_225 kw_226 kw_99 (Nat.le_of_ble_eq_true rfl) (Nat.le_of_ble_eq_true rfl) dX9_init_85 (fun q_62 H h_61 eh_61 hqq_62 hW hs gq_62 => ?_)
  case o80 => decide
  have nq_q_62 : ∀ a ∈ (hx_X L x), a ≠ q_62 := fun a ha z => hqq_62 (z ▸ (hM.1 a ha).1)
  have hT : hx_T T_tb (((L_45 ++ [q_53]) ++ [q_58]) ++ [q_62]) h_61 := ?o81
  case o81 =>
    rw [eh_61]
    exact hx_T_nw hT hqq_62 tt_119 rfl
  replace f_5 := (hs.o gx trivial rfl).2.trans f_5
  replace f_14 := (hs.o gx trivial rfl).2.trans f_14
  replace po_22 := (hs.o gq_16 trivial rfl).1.trans po_22
  replace po_23 := (hs.o gq_16 trivial rfl).1.trans po_23
  replace po_24 := (hs.o gq_16 trivial rfl).1.trans po_24
  replace fq_27 := (hs.o gq_16 trivial rfl).2.trans fq_27
  replace fq_29 := (hs.o gq_16 trivial rfl).2.trans fq_29
  replace f_32 := (hs.o gx trivial rfl).2.trans f_32
  replace f_36 := (hs.o gx trivial rfl).2.trans f_36
  replace f_41 := (hs.o gx trivial rfl).2.trans f_41
  replace po_49 := (hs.o gq_43 trivial rfl).1.trans po_49
  replace f_51 := (hs.o gx trivial rfl).2.trans f_51
  replace f_56 := (hs.o gx trivial rfl).2.trans f_56
  replace f_60 := (hs.o gx trivial rfl).2.trans f_60
  replace hz := hx_zr [0, 3, 4, 5, 7, 9, 10, 12] hz hs gx trivial rfl
  replace za_3 : ∀ j, h_61.2.1 q_2 j = 0 ∧ h_61.2.2 q_2 j = none := fun j => ⟨(hs.a gq_2 rfl j).1.trans (za_3 j).1, (hs.a gq_2 rfl j).2.trans (za_3 j).2⟩
  replace za_39 : ∀ j, h_61.2.1 q_38 j = 0 ∧ h_61.2.2 q_38 j = none := fun j => ⟨(hs.a gq_38 rfl j).1.trans (za_39 j).1, (hs.a gq_38 rfl j).2.trans (za_39 j).2⟩
  replace za_54 : ∀ j, h_61.2.1 q_53 j = 0 ∧ h_61.2.2 q_53 j = none := fun j => ⟨(hs.a gq_53 rfl j).1.trans (za_54 j).1, (hs.a gq_53 rfl j).2.trans (za_54 j).2⟩
  replace nfw_28 : h_61.2.1 q_27 = fw_28 := (funext fun j => (hs.a gq_27 rfl j).1).trans nfw_28
  replace nfw_30 : h_61.2.1 q_29 = fw_30 := (funext fun j => (hs.a gq_29 rfl j).1).trans nfw_30
  replace hM := hM.tr (hs.mono ?o82)
  case o82 => decide
  replace gx := gx.S hs
  replace gq_2 := gq_2.S hs
  replace gq_7 := gq_7.S hs
  replace gq_16 := gq_16.S hs
  replace gq_27 := gq_27.S hs
  replace gq_29 := gq_29.S hs
  replace gq_34 := gq_34.S hs
  replace gq_38 := gq_38.S hs
  replace gq_43 := gq_43.S hs
  replace gq_53 := gq_53.S hs
  replace gq_58 := gq_58.S hs
  have fz_63 : ∀ j, ([] : List Nat).contains j = false → h_61.2.1 q_62 j = 0 ∧ h_61.2.2 q_62 j = none := ?o83
  case o83 =>
    rw [eh_61]
    exact fun _ _ => ⟨hx_nw_i, hx_nw_r⟩
  refine lv_dup hx hb dX9_init_88 rfl ?_
  refine hx_gov (hx_runIN (As := []) (rest := [.ref q_62, .ref x]) ⟨hx, hb, hml, hown, hts⟩ hW (t_X3_init_p l dC dI dA (((L_45 ++ [q_53]) ++ [q_58]) ++ [q_62]) h_61 H.size q_62 hT gq_62 (fun j => fz_63 j rfl)) ⟨va_cnB 0 hts (hx_gC kw_229) rfl rfl rfl (hZ.1 _ (List.mem_of_getElem? (i := 3) rfl)) (hts _ kw_99) (by decide +kernel) ⟨Nat.le_of_ble_eq_true rfl, Nat.le_of_ble_eq_true rfl⟩, rfl, hts _ kw_228⟩ rfl hl.1 rfl (Nat.le_of_ble_eq_true rfl) dX9_init_89 ⟨Nat.le_of_ble_eq_true rfl, Nat.le_of_ble_eq_true rfl⟩) hW (fun L_64 h_65 H locs p_67 hW => ?_)
  obtain ⟨hT, hs, gNq_62, po_68, po_69, po_70, po_71, po_72, po_73⟩ := p_67
  replace hT : hx_T T_tb L_64 h_65 := hT
  replace hs : hx_S T_tb [(119, 1), (119, 2), (119, 3), (119, 4), (119, 5)] (hx_X (((L_45 ++ [q_53]) ++ [q_58]) ++ [q_62]) q_62) h_61 L_64 h_65 := hs
  have gx := hx_gX gx (gx.ne gq_62 ?o84)
  case o84 => decide
  have gq_2 := hx_gX gq_2 (gq_2.ne gq_62 ?o85)
  case o85 => decide
  have gq_7 := hx_gX gq_7 (gq_7.ne gq_62 ?o86)
  case o86 => decide
  have gq_16 := hx_gX gq_16 (gq_16.ne gq_62 ?o87)
  case o87 => decide
  have gq_27 := hx_gX gq_27 (gq_27.ne gq_62 ?o88)
  case o88 => decide
  have gq_29 := hx_gX gq_29 (gq_29.ne gq_62 ?o89)
  case o89 => decide
  have gq_34 := hx_gX gq_34 (gq_34.ne gq_62 ?o90)
  case o90 => decide
  have gq_38 := hx_gX gq_38 (gq_38.ne gq_62 ?o91)
  case o91 => decide
  have gq_43 := hx_gX gq_43 (gq_43.ne gq_62 ?o92)
  case o92 => decide
  have gq_53 := hx_gX gq_53 (gq_53.ne gq_62 ?o93)
  case o93 => decide
  have gq_58 := hx_gX gq_58 (gq_58.ne gq_62 ?o94)
  case o94 => decide
  replace f_5 := (hs.o gx trivial rfl).2.trans f_5
  replace f_14 := (hs.o gx trivial rfl).2.trans f_14
  replace po_22 := (hs.o gq_16 trivial rfl).1.trans po_22
  replace po_23 := (hs.o gq_16 trivial rfl).1.trans po_23
  replace po_24 := (hs.o gq_16 trivial rfl).1.trans po_24
  replace fq_27 := (hs.o gq_16 trivial rfl).2.trans fq_27
  replace fq_29 := (hs.o gq_16 trivial rfl).2.trans fq_29
  replace f_32 := (hs.o gx trivial rfl).2.trans f_32
  replace f_36 := (hs.o gx trivial rfl).2.trans f_36
  replace f_41 := (hs.o gx trivial rfl).2.trans f_41
  replace po_49 := (hs.o gq_43 trivial rfl).1.trans po_49
  replace f_51 := (hs.o gx trivial rfl).2.trans f_51
  replace f_56 := (hs.o gx trivial rfl).2.trans f_56
  replace f_60 := (hs.o gx trivial rfl).2.trans f_60
  replace hz := hx_zr [0, 3, 4, 5, 7, 9, 10, 12] hz hs gx trivial rfl
  replace za_3 : ∀ j, h_65.2.1 q_2 j = 0 ∧ h_65.2.2 q_2 j = none := fun j => ⟨(hs.a gq_2 rfl j).1.trans (za_3 j).1, (hs.a gq_2 rfl j).2.trans (za_3 j).2⟩
  replace za_39 : ∀ j, h_65.2.1 q_38 j = 0 ∧ h_65.2.2 q_38 j = none := fun j => ⟨(hs.a gq_38 rfl j).1.trans (za_39 j).1, (hs.a gq_38 rfl j).2.trans (za_39 j).2⟩
  replace za_54 : ∀ j, h_65.2.1 q_53 j = 0 ∧ h_65.2.2 q_53 j = none := fun j => ⟨(hs.a gq_53 rfl j).1.trans (za_54 j).1, (hs.a gq_53 rfl j).2.trans (za_54 j).2⟩
  replace nfw_28 : h_65.2.1 q_27 = fw_28 := (funext fun j => (hs.a gq_27 rfl j).1).trans nfw_28
  replace nfw_30 : h_65.2.1 q_29 = fw_30 := (funext fun j => (hs.a gq_29 rfl j).1).trans nfw_30
  replace hM := hM.trX (hs.mono ?o95) nq_q_62
  case o95 => decide
  replace gx := gx.S hs
  replace gq_2 := gq_2.S hs
  replace gq_7 := gq_7.S hs
  replace gq_16 := gq_16.S hs
  replace gq_27 := gq_27.S hs
  replace gq_29 := gq_29.S hs
  replace gq_34 := gq_34.S hs
  replace gq_38 := gq_38.S hs
  replace gq_43 := gq_43.S hs
  replace gq_53 := gq_53.S hs
  replace gq_58 := gq_58.S hs
  have gq_62 : hx_g L_64 h_65 q_62 3 := gNq_62
  have po_68 : h_65.2.1 q_62 0 = 0 := po_68
  obtain ⟨q_74, fq_74, gq_74, po_69⟩ := po_69
  have fq_74 : h_65.2.2 q_62 2 = some q_74 := fq_74
  have gq_74 : hx_g L_64 h_65 q_74 23 := gq_74
  have po_69 : ∀ j, h_65.2.1 q_74 j = 0 ∧ h_65.2.2 q_74 j = none := po_69
  obtain ⟨q_75, fq_75, gq_75, po_70⟩ := po_70
  have fq_75 : h_65.2.2 q_62 3 = some q_75 := fq_75
  have gq_75 : hx_g L_64 h_65 q_75 24 := gq_75
  have po_70 : ∀ j, h_65.2.1 q_75 j = 0 ∧ h_65.2.2 q_75 j = none := po_70
  obtain ⟨q_76, fq_76, gq_76, po_71⟩ := po_71
  have fq_76 : h_65.2.2 q_62 5 = some q_76 := fq_76
  have gq_76 : hx_g L_64 h_65 q_76 26 := gq_76
  have po_71 : ∀ j, h_65.2.1 q_76 j = 0 ∧ h_65.2.2 q_76 j = none := po_71
  obtain ⟨q_77, fq_77, gq_77, po_72⟩ := po_72
  have fq_77 : h_65.2.2 q_62 4 = some q_77 := fq_77
  have gq_77 : hx_g L_64 h_65 q_77 25 := gq_77
  have po_72 : ∀ j, h_65.2.1 q_77 j = 0 ∧ h_65.2.2 q_77 j = none := po_72
  obtain ⟨q_78, fq_78, gq_78, po_73⟩ := po_73
  have fq_78 : h_65.2.2 q_62 1 = some q_78 := fq_78
  have gq_78 : hx_g L_64 h_65 q_78 22 := gq_78
  have po_73 : ∀ j, h_65.2.1 q_78 j = 0 ∧ h_65.2.2 q_78 j = none := po_73
  refine hx_putrF hx hb hts hC_9 hown hW hT (hx_S.rf (M := [(125, 14)])) gx tt_125 14 ?o96 rfl kw_378 ⟨rfl, rfl, rfl⟩ rfl hin rfl (x := (some q_62)) ⟨fun _ z => (by cases z), fun q hq => (by cases hq; exact ⟨gq_62.1, by rw [gq_62.2]; decide⟩)⟩ rfl rfl rfl (List.mem_singleton.mpr rfl) dX9_init_92 (fun H locs h_79 eh_79 hW hT hs => ?_)
  case o96 => decide
  replace f_5 := (hs.o gx trivial rfl).2.trans f_5
  replace f_14 := (hs.o gx trivial rfl).2.trans f_14
  replace po_22 := (hs.o gq_16 trivial rfl).1.trans po_22
  replace po_23 := (hs.o gq_16 trivial rfl).1.trans po_23
  replace po_24 := (hs.o gq_16 trivial rfl).1.trans po_24
  replace fq_27 := (hs.o gq_16 trivial rfl).2.trans fq_27
  replace fq_29 := (hs.o gq_16 trivial rfl).2.trans fq_29
  replace f_32 := (hs.o gx trivial rfl).2.trans f_32
  replace f_36 := (hs.o gx trivial rfl).2.trans f_36
  replace f_41 := (hs.o gx trivial rfl).2.trans f_41
  replace po_49 := (hs.o gq_43 trivial rfl).1.trans po_49
  replace f_51 := (hs.o gx trivial rfl).2.trans f_51
  replace f_56 := (hs.o gx trivial rfl).2.trans f_56
  replace f_60 := (hs.o gx trivial rfl).2.trans f_60
  replace po_68 := (hs.o gq_62 trivial rfl).1.trans po_68
  replace fq_74 := (hs.o gq_62 trivial rfl).2.trans fq_74
  replace fq_75 := (hs.o gq_62 trivial rfl).2.trans fq_75
  replace fq_76 := (hs.o gq_62 trivial rfl).2.trans fq_76
  replace fq_77 := (hs.o gq_62 trivial rfl).2.trans fq_77
  replace fq_78 := (hs.o gq_62 trivial rfl).2.trans fq_78
  replace hz := hx_zr [0, 3, 4, 5, 7, 9, 10, 12, 14] hz hs gx trivial rfl
  replace za_3 : ∀ j, h_79.2.1 q_2 j = 0 ∧ h_79.2.2 q_2 j = none := fun j => ⟨(hs.a gq_2 rfl j).1.trans (za_3 j).1, (hs.a gq_2 rfl j).2.trans (za_3 j).2⟩
  replace za_39 : ∀ j, h_79.2.1 q_38 j = 0 ∧ h_79.2.2 q_38 j = none := fun j => ⟨(hs.a gq_38 rfl j).1.trans (za_39 j).1, (hs.a gq_38 rfl j).2.trans (za_39 j).2⟩
  replace za_54 : ∀ j, h_79.2.1 q_53 j = 0 ∧ h_79.2.2 q_53 j = none := fun j => ⟨(hs.a gq_53 rfl j).1.trans (za_54 j).1, (hs.a gq_53 rfl j).2.trans (za_54 j).2⟩
  replace po_69 : ∀ j, h_79.2.1 q_74 j = 0 ∧ h_79.2.2 q_74 j = none := fun j => ⟨(hs.a gq_74 rfl j).1.trans (po_69 j).1, (hs.a gq_74 rfl j).2.trans (po_69 j).2⟩
  replace po_70 : ∀ j, h_79.2.1 q_75 j = 0 ∧ h_79.2.2 q_75 j = none := fun j => ⟨(hs.a gq_75 rfl j).1.trans (po_70 j).1, (hs.a gq_75 rfl j).2.trans (po_70 j).2⟩
  replace po_71 : ∀ j, h_79.2.1 q_76 j = 0 ∧ h_79.2.2 q_76 j = none := fun j => ⟨(hs.a gq_76 rfl j).1.trans (po_71 j).1, (hs.a gq_76 rfl j).2.trans (po_71 j).2⟩
  replace po_72 : ∀ j, h_79.2.1 q_77 j = 0 ∧ h_79.2.2 q_77 j = none := fun j => ⟨(hs.a gq_77 rfl j).1.trans (po_72 j).1, (hs.a gq_77 rfl j).2.trans (po_72 j).2⟩
  replace po_73 : ∀ j, h_79.2.1 q_78 j = 0 ∧ h_79.2.2 q_78 j = none := fun j => ⟨(hs.a gq_78 rfl j).1.trans (po_73 j).1, (hs.a gq_78 rfl j).2.trans (po_73 j).2⟩
  replace nfw_28 : h_79.2.1 q_27 = fw_28 := (funext fun j => (hs.a gq_27 rfl j).1).trans nfw_28
  replace nfw_30 : h_79.2.1 q_29 = fw_30 := (funext fun j => (hs.a gq_29 rfl j).1).trans nfw_30
  replace hM := hM.tr (hs.mono ?o97)
  case o97 => decide
  replace gx := gx.S hs
  replace gq_2 := gq_2.S hs
  replace gq_7 := gq_7.S hs
  replace gq_16 := gq_16.S hs
  replace gq_27 := gq_27.S hs
  replace gq_29 := gq_29.S hs
  replace gq_34 := gq_34.S hs
  replace gq_38 := gq_38.S hs
  replace gq_43 := gq_43.S hs
  replace gq_53 := gq_53.S hs
  replace gq_58 := gq_58.S hs
  replace gq_62 := gq_62.S hs
  replace gq_74 := gq_74.S hs
  replace gq_75 := gq_75.S hs
  replace gq_76 := gq_76.S hs
  replace gq_77 := gq_77.S hs
  replace gq_78 := gq_78.S hs
  have f_80 : h_79.2.2 x 14 = (some q_62) := ?o98
  case o98 =>
    rw [eh_79]
    exact hx_pr_at _ _ _ _
  refine lv_aload_n hx hb dX9_init_95 rfl (lv_at hl 0 rfl) ?_
  refine lv_bipush (v := 40) hx hb dX9_init_96 ?o99 ?_
  case o99 => decide
  refine hk_newa hx hb hts hW 47 tt_47 (atype := .int) rfl kw_186 (tys := P_ty dA) (t0 := 0) rfl (fun _ => Iff.rfl) rfl (i := (40 : Int32)) ?o100 (Nat.le_of_ble_eq_true rfl) (Nat.le_of_ble_eq_true rfl) (Nat.le_of_ble_eq_true rfl) dX9_init_98 (fun q_82 H h_81 eh_81 hqq_82 hW hs gq_82 => ?_)
  case o100 => decide
  have nq_q_82 : ∀ a ∈ (hx_X L x), a ≠ q_82 := fun a ha z => hqq_82 (z ▸ (hM.1 a ha).1)
  have hT : hx_T T_tb (L_64 ++ [q_82]) h_81 := ?o101
  case o101 =>
    rw [eh_81]
    exact hx_T_nw hT hqq_82 tt_47 rfl
  replace f_5 := (hs.o gx trivial rfl).2.trans f_5
  replace f_14 := (hs.o gx trivial rfl).2.trans f_14
  replace po_22 := (hs.o gq_16 trivial rfl).1.trans po_22
  replace po_23 := (hs.o gq_16 trivial rfl).1.trans po_23
  replace po_24 := (hs.o gq_16 trivial rfl).1.trans po_24
  replace fq_27 := (hs.o gq_16 trivial rfl).2.trans fq_27
  replace fq_29 := (hs.o gq_16 trivial rfl).2.trans fq_29
  replace f_32 := (hs.o gx trivial rfl).2.trans f_32
  replace f_36 := (hs.o gx trivial rfl).2.trans f_36
  replace f_41 := (hs.o gx trivial rfl).2.trans f_41
  replace po_49 := (hs.o gq_43 trivial rfl).1.trans po_49
  replace f_51 := (hs.o gx trivial rfl).2.trans f_51
  replace f_56 := (hs.o gx trivial rfl).2.trans f_56
  replace f_60 := (hs.o gx trivial rfl).2.trans f_60
  replace po_68 := (hs.o gq_62 trivial rfl).1.trans po_68
  replace fq_74 := (hs.o gq_62 trivial rfl).2.trans fq_74
  replace fq_75 := (hs.o gq_62 trivial rfl).2.trans fq_75
  replace fq_76 := (hs.o gq_62 trivial rfl).2.trans fq_76
  replace fq_77 := (hs.o gq_62 trivial rfl).2.trans fq_77
  replace fq_78 := (hs.o gq_62 trivial rfl).2.trans fq_78
  replace f_80 := (hs.o gx trivial rfl).2.trans f_80
  replace hz := hx_zr [0, 3, 4, 5, 7, 9, 10, 12, 14] hz hs gx trivial rfl
  replace za_3 : ∀ j, h_81.2.1 q_2 j = 0 ∧ h_81.2.2 q_2 j = none := fun j => ⟨(hs.a gq_2 rfl j).1.trans (za_3 j).1, (hs.a gq_2 rfl j).2.trans (za_3 j).2⟩
  replace za_39 : ∀ j, h_81.2.1 q_38 j = 0 ∧ h_81.2.2 q_38 j = none := fun j => ⟨(hs.a gq_38 rfl j).1.trans (za_39 j).1, (hs.a gq_38 rfl j).2.trans (za_39 j).2⟩
  replace za_54 : ∀ j, h_81.2.1 q_53 j = 0 ∧ h_81.2.2 q_53 j = none := fun j => ⟨(hs.a gq_53 rfl j).1.trans (za_54 j).1, (hs.a gq_53 rfl j).2.trans (za_54 j).2⟩
  replace po_69 : ∀ j, h_81.2.1 q_74 j = 0 ∧ h_81.2.2 q_74 j = none := fun j => ⟨(hs.a gq_74 rfl j).1.trans (po_69 j).1, (hs.a gq_74 rfl j).2.trans (po_69 j).2⟩
  replace po_70 : ∀ j, h_81.2.1 q_75 j = 0 ∧ h_81.2.2 q_75 j = none := fun j => ⟨(hs.a gq_75 rfl j).1.trans (po_70 j).1, (hs.a gq_75 rfl j).2.trans (po_70 j).2⟩
  replace po_71 : ∀ j, h_81.2.1 q_76 j = 0 ∧ h_81.2.2 q_76 j = none := fun j => ⟨(hs.a gq_76 rfl j).1.trans (po_71 j).1, (hs.a gq_76 rfl j).2.trans (po_71 j).2⟩
  replace po_72 : ∀ j, h_81.2.1 q_77 j = 0 ∧ h_81.2.2 q_77 j = none := fun j => ⟨(hs.a gq_77 rfl j).1.trans (po_72 j).1, (hs.a gq_77 rfl j).2.trans (po_72 j).2⟩
  replace po_73 : ∀ j, h_81.2.1 q_78 j = 0 ∧ h_81.2.2 q_78 j = none := fun j => ⟨(hs.a gq_78 rfl j).1.trans (po_73 j).1, (hs.a gq_78 rfl j).2.trans (po_73 j).2⟩
  replace nfw_28 : h_81.2.1 q_27 = fw_28 := (funext fun j => (hs.a gq_27 rfl j).1).trans nfw_28
  replace nfw_30 : h_81.2.1 q_29 = fw_30 := (funext fun j => (hs.a gq_29 rfl j).1).trans nfw_30
  replace hM := hM.tr (hs.mono ?o102)
  case o102 => decide
  replace gx := gx.S hs
  replace gq_2 := gq_2.S hs
  replace gq_7 := gq_7.S hs
  replace gq_16 := gq_16.S hs
  replace gq_27 := gq_27.S hs
  replace gq_29 := gq_29.S hs
  replace gq_34 := gq_34.S hs
  replace gq_38 := gq_38.S hs
  replace gq_43 := gq_43.S hs
  replace gq_53 := gq_53.S hs
  replace gq_58 := gq_58.S hs
  replace gq_62 := gq_62.S hs
  replace gq_74 := gq_74.S hs
  replace gq_75 := gq_75.S hs
  replace gq_76 := gq_76.S hs
  replace gq_77 := gq_77.S hs
  replace gq_78 := gq_78.S hs
  refine hx_putrF hx hb hts hC_9 hown hW hT (hx_S.rf (M := [(125, 15)])) gx tt_125 15 ?o103 rfl kw_379 ⟨rfl, rfl, rfl⟩ rfl hin rfl (x := (some q_82)) ⟨fun _ z => (by cases z), fun q hq => (by cases hq; exact ⟨gq_82.1, by rw [gq_82.2]; decide⟩)⟩ rfl rfl rfl (List.mem_singleton.mpr rfl) dX9_init_100 (fun H locs h_83 eh_83 hW hT hs => ?_)
  case o103 => decide
  replace f_5 := (hs.o gx trivial rfl).2.trans f_5
  replace f_14 := (hs.o gx trivial rfl).2.trans f_14
  replace po_22 := (hs.o gq_16 trivial rfl).1.trans po_22
  replace po_23 := (hs.o gq_16 trivial rfl).1.trans po_23
  replace po_24 := (hs.o gq_16 trivial rfl).1.trans po_24
  replace fq_27 := (hs.o gq_16 trivial rfl).2.trans fq_27
  replace fq_29 := (hs.o gq_16 trivial rfl).2.trans fq_29
  replace f_32 := (hs.o gx trivial rfl).2.trans f_32
  replace f_36 := (hs.o gx trivial rfl).2.trans f_36
  replace f_41 := (hs.o gx trivial rfl).2.trans f_41
  replace po_49 := (hs.o gq_43 trivial rfl).1.trans po_49
  replace f_51 := (hs.o gx trivial rfl).2.trans f_51
  replace f_56 := (hs.o gx trivial rfl).2.trans f_56
  replace f_60 := (hs.o gx trivial rfl).2.trans f_60
  replace po_68 := (hs.o gq_62 trivial rfl).1.trans po_68
  replace fq_74 := (hs.o gq_62 trivial rfl).2.trans fq_74
  replace fq_75 := (hs.o gq_62 trivial rfl).2.trans fq_75
  replace fq_76 := (hs.o gq_62 trivial rfl).2.trans fq_76
  replace fq_77 := (hs.o gq_62 trivial rfl).2.trans fq_77
  replace fq_78 := (hs.o gq_62 trivial rfl).2.trans fq_78
  replace f_80 := (hs.o gx trivial rfl).2.trans f_80
  replace hz := hx_zr [0, 3, 4, 5, 7, 9, 10, 12, 14, 15] hz hs gx trivial rfl
  replace za_3 : ∀ j, h_83.2.1 q_2 j = 0 ∧ h_83.2.2 q_2 j = none := fun j => ⟨(hs.a gq_2 rfl j).1.trans (za_3 j).1, (hs.a gq_2 rfl j).2.trans (za_3 j).2⟩
  replace za_39 : ∀ j, h_83.2.1 q_38 j = 0 ∧ h_83.2.2 q_38 j = none := fun j => ⟨(hs.a gq_38 rfl j).1.trans (za_39 j).1, (hs.a gq_38 rfl j).2.trans (za_39 j).2⟩
  replace za_54 : ∀ j, h_83.2.1 q_53 j = 0 ∧ h_83.2.2 q_53 j = none := fun j => ⟨(hs.a gq_53 rfl j).1.trans (za_54 j).1, (hs.a gq_53 rfl j).2.trans (za_54 j).2⟩
  replace po_69 : ∀ j, h_83.2.1 q_74 j = 0 ∧ h_83.2.2 q_74 j = none := fun j => ⟨(hs.a gq_74 rfl j).1.trans (po_69 j).1, (hs.a gq_74 rfl j).2.trans (po_69 j).2⟩
  replace po_70 : ∀ j, h_83.2.1 q_75 j = 0 ∧ h_83.2.2 q_75 j = none := fun j => ⟨(hs.a gq_75 rfl j).1.trans (po_70 j).1, (hs.a gq_75 rfl j).2.trans (po_70 j).2⟩
  replace po_71 : ∀ j, h_83.2.1 q_76 j = 0 ∧ h_83.2.2 q_76 j = none := fun j => ⟨(hs.a gq_76 rfl j).1.trans (po_71 j).1, (hs.a gq_76 rfl j).2.trans (po_71 j).2⟩
  replace po_72 : ∀ j, h_83.2.1 q_77 j = 0 ∧ h_83.2.2 q_77 j = none := fun j => ⟨(hs.a gq_77 rfl j).1.trans (po_72 j).1, (hs.a gq_77 rfl j).2.trans (po_72 j).2⟩
  replace po_73 : ∀ j, h_83.2.1 q_78 j = 0 ∧ h_83.2.2 q_78 j = none := fun j => ⟨(hs.a gq_78 rfl j).1.trans (po_73 j).1, (hs.a gq_78 rfl j).2.trans (po_73 j).2⟩
  replace nfw_28 : h_83.2.1 q_27 = fw_28 := (funext fun j => (hs.a gq_27 rfl j).1).trans nfw_28
  replace nfw_30 : h_83.2.1 q_29 = fw_30 := (funext fun j => (hs.a gq_29 rfl j).1).trans nfw_30
  replace hM := hM.tr (hs.mono ?o104)
  case o104 => decide
  replace gx := gx.S hs
  replace gq_2 := gq_2.S hs
  replace gq_7 := gq_7.S hs
  replace gq_16 := gq_16.S hs
  replace gq_27 := gq_27.S hs
  replace gq_29 := gq_29.S hs
  replace gq_34 := gq_34.S hs
  replace gq_38 := gq_38.S hs
  replace gq_43 := gq_43.S hs
  replace gq_53 := gq_53.S hs
  replace gq_58 := gq_58.S hs
  replace gq_62 := gq_62.S hs
  replace gq_74 := gq_74.S hs
  replace gq_75 := gq_75.S hs
  replace gq_76 := gq_76.S hs
  replace gq_77 := gq_77.S hs
  replace gq_78 := gq_78.S hs
  replace gq_82 := gq_82.S hs
  have f_84 : h_83.2.2 x 15 = (some q_82) := ?o105
  case o105 =>
    rw [eh_83]
    exact hx_pr_at _ _ _ _
  refine lv_aload_n hx hb dX9_init_103 rfl (lv_at hl 0 rfl) ?_
  refine lv_bipush (v := 100) hx hb dX9_init_104 ?o106 ?_
  case o106 => decide
  refine hk_newa hx hb hts hW 48 tt_48 (atype := .int) rfl kw_186 (tys := P_ty dA) (t0 := 0) rfl (fun _ => Iff.rfl) rfl (i := (100 : Int32)) ?o107 (Nat.le_of_ble_eq_true rfl) (Nat.le_of_ble_eq_true rfl) (Nat.le_of_ble_eq_true rfl) dX9_init_106 (fun q_86 H h_85 eh_85 hqq_86 hW hs gq_86 => ?_)
  case o107 => decide
  have nq_q_86 : ∀ a ∈ (hx_X L x), a ≠ q_86 := fun a ha z => hqq_86 (z ▸ (hM.1 a ha).1)
  have hT : hx_T T_tb ((L_64 ++ [q_82]) ++ [q_86]) h_85 := ?o108
  case o108 =>
    rw [eh_85]
    exact hx_T_nw hT hqq_86 tt_48 rfl
  replace f_5 := (hs.o gx trivial rfl).2.trans f_5
  replace f_14 := (hs.o gx trivial rfl).2.trans f_14
  replace po_22 := (hs.o gq_16 trivial rfl).1.trans po_22
  replace po_23 := (hs.o gq_16 trivial rfl).1.trans po_23
  replace po_24 := (hs.o gq_16 trivial rfl).1.trans po_24
  replace fq_27 := (hs.o gq_16 trivial rfl).2.trans fq_27
  replace fq_29 := (hs.o gq_16 trivial rfl).2.trans fq_29
  replace f_32 := (hs.o gx trivial rfl).2.trans f_32
  replace f_36 := (hs.o gx trivial rfl).2.trans f_36
  replace f_41 := (hs.o gx trivial rfl).2.trans f_41
  replace po_49 := (hs.o gq_43 trivial rfl).1.trans po_49
  replace f_51 := (hs.o gx trivial rfl).2.trans f_51
  replace f_56 := (hs.o gx trivial rfl).2.trans f_56
  replace f_60 := (hs.o gx trivial rfl).2.trans f_60
  replace po_68 := (hs.o gq_62 trivial rfl).1.trans po_68
  replace fq_74 := (hs.o gq_62 trivial rfl).2.trans fq_74
  replace fq_75 := (hs.o gq_62 trivial rfl).2.trans fq_75
  replace fq_76 := (hs.o gq_62 trivial rfl).2.trans fq_76
  replace fq_77 := (hs.o gq_62 trivial rfl).2.trans fq_77
  replace fq_78 := (hs.o gq_62 trivial rfl).2.trans fq_78
  replace f_80 := (hs.o gx trivial rfl).2.trans f_80
  replace f_84 := (hs.o gx trivial rfl).2.trans f_84
  replace hz := hx_zr [0, 3, 4, 5, 7, 9, 10, 12, 14, 15] hz hs gx trivial rfl
  replace za_3 : ∀ j, h_85.2.1 q_2 j = 0 ∧ h_85.2.2 q_2 j = none := fun j => ⟨(hs.a gq_2 rfl j).1.trans (za_3 j).1, (hs.a gq_2 rfl j).2.trans (za_3 j).2⟩
  replace za_39 : ∀ j, h_85.2.1 q_38 j = 0 ∧ h_85.2.2 q_38 j = none := fun j => ⟨(hs.a gq_38 rfl j).1.trans (za_39 j).1, (hs.a gq_38 rfl j).2.trans (za_39 j).2⟩
  replace za_54 : ∀ j, h_85.2.1 q_53 j = 0 ∧ h_85.2.2 q_53 j = none := fun j => ⟨(hs.a gq_53 rfl j).1.trans (za_54 j).1, (hs.a gq_53 rfl j).2.trans (za_54 j).2⟩
  replace po_69 : ∀ j, h_85.2.1 q_74 j = 0 ∧ h_85.2.2 q_74 j = none := fun j => ⟨(hs.a gq_74 rfl j).1.trans (po_69 j).1, (hs.a gq_74 rfl j).2.trans (po_69 j).2⟩
  replace po_70 : ∀ j, h_85.2.1 q_75 j = 0 ∧ h_85.2.2 q_75 j = none := fun j => ⟨(hs.a gq_75 rfl j).1.trans (po_70 j).1, (hs.a gq_75 rfl j).2.trans (po_70 j).2⟩
  replace po_71 : ∀ j, h_85.2.1 q_76 j = 0 ∧ h_85.2.2 q_76 j = none := fun j => ⟨(hs.a gq_76 rfl j).1.trans (po_71 j).1, (hs.a gq_76 rfl j).2.trans (po_71 j).2⟩
  replace po_72 : ∀ j, h_85.2.1 q_77 j = 0 ∧ h_85.2.2 q_77 j = none := fun j => ⟨(hs.a gq_77 rfl j).1.trans (po_72 j).1, (hs.a gq_77 rfl j).2.trans (po_72 j).2⟩
  replace po_73 : ∀ j, h_85.2.1 q_78 j = 0 ∧ h_85.2.2 q_78 j = none := fun j => ⟨(hs.a gq_78 rfl j).1.trans (po_73 j).1, (hs.a gq_78 rfl j).2.trans (po_73 j).2⟩
  replace nfw_28 : h_85.2.1 q_27 = fw_28 := (funext fun j => (hs.a gq_27 rfl j).1).trans nfw_28
  replace nfw_30 : h_85.2.1 q_29 = fw_30 := (funext fun j => (hs.a gq_29 rfl j).1).trans nfw_30
  replace hM := hM.tr (hs.mono ?o109)
  case o109 => decide
  replace gx := gx.S hs
  replace gq_2 := gq_2.S hs
  replace gq_7 := gq_7.S hs
  replace gq_16 := gq_16.S hs
  replace gq_27 := gq_27.S hs
  replace gq_29 := gq_29.S hs
  replace gq_34 := gq_34.S hs
  replace gq_38 := gq_38.S hs
  replace gq_43 := gq_43.S hs
  replace gq_53 := gq_53.S hs
  replace gq_58 := gq_58.S hs
  replace gq_62 := gq_62.S hs
  replace gq_74 := gq_74.S hs
  replace gq_75 := gq_75.S hs
  replace gq_76 := gq_76.S hs
  replace gq_77 := gq_77.S hs
  replace gq_78 := gq_78.S hs
  replace gq_82 := gq_82.S hs
  refine hx_putrF hx hb hts hC_9 hown hW hT (hx_S.rf (M := [(125, 16)])) gx tt_125 16 ?o110 rfl kw_380 ⟨rfl, rfl, rfl⟩ rfl hin rfl (x := (some q_86)) ⟨fun _ z => (by cases z), fun q hq => (by cases hq; exact ⟨gq_86.1, by rw [gq_86.2]; decide⟩)⟩ rfl rfl rfl (List.mem_singleton.mpr rfl) dX9_init_108 (fun H locs h_87 eh_87 hW hT hs => ?_)
  case o110 => decide
  replace f_5 := (hs.o gx trivial rfl).2.trans f_5
  replace f_14 := (hs.o gx trivial rfl).2.trans f_14
  replace po_22 := (hs.o gq_16 trivial rfl).1.trans po_22
  replace po_23 := (hs.o gq_16 trivial rfl).1.trans po_23
  replace po_24 := (hs.o gq_16 trivial rfl).1.trans po_24
  replace fq_27 := (hs.o gq_16 trivial rfl).2.trans fq_27
  replace fq_29 := (hs.o gq_16 trivial rfl).2.trans fq_29
  replace f_32 := (hs.o gx trivial rfl).2.trans f_32
  replace f_36 := (hs.o gx trivial rfl).2.trans f_36
  replace f_41 := (hs.o gx trivial rfl).2.trans f_41
  replace po_49 := (hs.o gq_43 trivial rfl).1.trans po_49
  replace f_51 := (hs.o gx trivial rfl).2.trans f_51
  replace f_56 := (hs.o gx trivial rfl).2.trans f_56
  replace f_60 := (hs.o gx trivial rfl).2.trans f_60
  replace po_68 := (hs.o gq_62 trivial rfl).1.trans po_68
  replace fq_74 := (hs.o gq_62 trivial rfl).2.trans fq_74
  replace fq_75 := (hs.o gq_62 trivial rfl).2.trans fq_75
  replace fq_76 := (hs.o gq_62 trivial rfl).2.trans fq_76
  replace fq_77 := (hs.o gq_62 trivial rfl).2.trans fq_77
  replace fq_78 := (hs.o gq_62 trivial rfl).2.trans fq_78
  replace f_80 := (hs.o gx trivial rfl).2.trans f_80
  replace f_84 := (hs.o gx trivial rfl).2.trans f_84
  replace hz := hx_zr [0, 3, 4, 5, 7, 9, 10, 12, 14, 15, 16] hz hs gx trivial rfl
  replace za_3 : ∀ j, h_87.2.1 q_2 j = 0 ∧ h_87.2.2 q_2 j = none := fun j => ⟨(hs.a gq_2 rfl j).1.trans (za_3 j).1, (hs.a gq_2 rfl j).2.trans (za_3 j).2⟩
  replace za_39 : ∀ j, h_87.2.1 q_38 j = 0 ∧ h_87.2.2 q_38 j = none := fun j => ⟨(hs.a gq_38 rfl j).1.trans (za_39 j).1, (hs.a gq_38 rfl j).2.trans (za_39 j).2⟩
  replace za_54 : ∀ j, h_87.2.1 q_53 j = 0 ∧ h_87.2.2 q_53 j = none := fun j => ⟨(hs.a gq_53 rfl j).1.trans (za_54 j).1, (hs.a gq_53 rfl j).2.trans (za_54 j).2⟩
  replace po_69 : ∀ j, h_87.2.1 q_74 j = 0 ∧ h_87.2.2 q_74 j = none := fun j => ⟨(hs.a gq_74 rfl j).1.trans (po_69 j).1, (hs.a gq_74 rfl j).2.trans (po_69 j).2⟩
  replace po_70 : ∀ j, h_87.2.1 q_75 j = 0 ∧ h_87.2.2 q_75 j = none := fun j => ⟨(hs.a gq_75 rfl j).1.trans (po_70 j).1, (hs.a gq_75 rfl j).2.trans (po_70 j).2⟩
  replace po_71 : ∀ j, h_87.2.1 q_76 j = 0 ∧ h_87.2.2 q_76 j = none := fun j => ⟨(hs.a gq_76 rfl j).1.trans (po_71 j).1, (hs.a gq_76 rfl j).2.trans (po_71 j).2⟩
  replace po_72 : ∀ j, h_87.2.1 q_77 j = 0 ∧ h_87.2.2 q_77 j = none := fun j => ⟨(hs.a gq_77 rfl j).1.trans (po_72 j).1, (hs.a gq_77 rfl j).2.trans (po_72 j).2⟩
  replace po_73 : ∀ j, h_87.2.1 q_78 j = 0 ∧ h_87.2.2 q_78 j = none := fun j => ⟨(hs.a gq_78 rfl j).1.trans (po_73 j).1, (hs.a gq_78 rfl j).2.trans (po_73 j).2⟩
  replace nfw_28 : h_87.2.1 q_27 = fw_28 := (funext fun j => (hs.a gq_27 rfl j).1).trans nfw_28
  replace nfw_30 : h_87.2.1 q_29 = fw_30 := (funext fun j => (hs.a gq_29 rfl j).1).trans nfw_30
  replace hM := hM.tr (hs.mono ?o111)
  case o111 => decide
  replace gx := gx.S hs
  replace gq_2 := gq_2.S hs
  replace gq_7 := gq_7.S hs
  replace gq_16 := gq_16.S hs
  replace gq_27 := gq_27.S hs
  replace gq_29 := gq_29.S hs
  replace gq_34 := gq_34.S hs
  replace gq_38 := gq_38.S hs
  replace gq_43 := gq_43.S hs
  replace gq_53 := gq_53.S hs
  replace gq_58 := gq_58.S hs
  replace gq_62 := gq_62.S hs
  replace gq_74 := gq_74.S hs
  replace gq_75 := gq_75.S hs
  replace gq_76 := gq_76.S hs
  replace gq_77 := gq_77.S hs
  replace gq_78 := gq_78.S hs
  replace gq_82 := gq_82.S hs
  replace gq_86 := gq_86.S hs
  have f_88 : h_87.2.2 x 16 = (some q_86) := ?o112
  case o112 =>
    rw [eh_87]
    exact hx_pr_at _ _ _ _
  refine lv_aload_n hx hb dX9_init_111 rfl (lv_at hl 0 rfl) ?_
  refine hk_new hx hb hts hC_5 hown hW 121 tt_121 rfl ?o113 kw_252 kw_253 kw_100 (Nat.le_of_ble_eq_true rfl) (Nat.le_of_ble_eq_true rfl) dX9_init_112 (fun q_90 H h_89 eh_89 hqq_90 hW hs gq_90 => ?_)
  case o113 => decide
  have nq_q_90 : ∀ a ∈ (hx_X L x), a ≠ q_90 := fun a ha z => hqq_90 (z ▸ (hM.1 a ha).1)
  have hT : hx_T T_tb (((L_64 ++ [q_82]) ++ [q_86]) ++ [q_90]) h_89 := ?o114
  case o114 =>
    rw [eh_89]
    exact hx_T_nw hT hqq_90 tt_121 rfl
  replace f_5 := (hs.o gx trivial rfl).2.trans f_5
  replace f_14 := (hs.o gx trivial rfl).2.trans f_14
  replace po_22 := (hs.o gq_16 trivial rfl).1.trans po_22
  replace po_23 := (hs.o gq_16 trivial rfl).1.trans po_23
  replace po_24 := (hs.o gq_16 trivial rfl).1.trans po_24
  replace fq_27 := (hs.o gq_16 trivial rfl).2.trans fq_27
  replace fq_29 := (hs.o gq_16 trivial rfl).2.trans fq_29
  replace f_32 := (hs.o gx trivial rfl).2.trans f_32
  replace f_36 := (hs.o gx trivial rfl).2.trans f_36
  replace f_41 := (hs.o gx trivial rfl).2.trans f_41
  replace po_49 := (hs.o gq_43 trivial rfl).1.trans po_49
  replace f_51 := (hs.o gx trivial rfl).2.trans f_51
  replace f_56 := (hs.o gx trivial rfl).2.trans f_56
  replace f_60 := (hs.o gx trivial rfl).2.trans f_60
  replace po_68 := (hs.o gq_62 trivial rfl).1.trans po_68
  replace fq_74 := (hs.o gq_62 trivial rfl).2.trans fq_74
  replace fq_75 := (hs.o gq_62 trivial rfl).2.trans fq_75
  replace fq_76 := (hs.o gq_62 trivial rfl).2.trans fq_76
  replace fq_77 := (hs.o gq_62 trivial rfl).2.trans fq_77
  replace fq_78 := (hs.o gq_62 trivial rfl).2.trans fq_78
  replace f_80 := (hs.o gx trivial rfl).2.trans f_80
  replace f_84 := (hs.o gx trivial rfl).2.trans f_84
  replace f_88 := (hs.o gx trivial rfl).2.trans f_88
  replace hz := hx_zr [0, 3, 4, 5, 7, 9, 10, 12, 14, 15, 16] hz hs gx trivial rfl
  replace za_3 : ∀ j, h_89.2.1 q_2 j = 0 ∧ h_89.2.2 q_2 j = none := fun j => ⟨(hs.a gq_2 rfl j).1.trans (za_3 j).1, (hs.a gq_2 rfl j).2.trans (za_3 j).2⟩
  replace za_39 : ∀ j, h_89.2.1 q_38 j = 0 ∧ h_89.2.2 q_38 j = none := fun j => ⟨(hs.a gq_38 rfl j).1.trans (za_39 j).1, (hs.a gq_38 rfl j).2.trans (za_39 j).2⟩
  replace za_54 : ∀ j, h_89.2.1 q_53 j = 0 ∧ h_89.2.2 q_53 j = none := fun j => ⟨(hs.a gq_53 rfl j).1.trans (za_54 j).1, (hs.a gq_53 rfl j).2.trans (za_54 j).2⟩
  replace po_69 : ∀ j, h_89.2.1 q_74 j = 0 ∧ h_89.2.2 q_74 j = none := fun j => ⟨(hs.a gq_74 rfl j).1.trans (po_69 j).1, (hs.a gq_74 rfl j).2.trans (po_69 j).2⟩
  replace po_70 : ∀ j, h_89.2.1 q_75 j = 0 ∧ h_89.2.2 q_75 j = none := fun j => ⟨(hs.a gq_75 rfl j).1.trans (po_70 j).1, (hs.a gq_75 rfl j).2.trans (po_70 j).2⟩
  replace po_71 : ∀ j, h_89.2.1 q_76 j = 0 ∧ h_89.2.2 q_76 j = none := fun j => ⟨(hs.a gq_76 rfl j).1.trans (po_71 j).1, (hs.a gq_76 rfl j).2.trans (po_71 j).2⟩
  replace po_72 : ∀ j, h_89.2.1 q_77 j = 0 ∧ h_89.2.2 q_77 j = none := fun j => ⟨(hs.a gq_77 rfl j).1.trans (po_72 j).1, (hs.a gq_77 rfl j).2.trans (po_72 j).2⟩
  replace po_73 : ∀ j, h_89.2.1 q_78 j = 0 ∧ h_89.2.2 q_78 j = none := fun j => ⟨(hs.a gq_78 rfl j).1.trans (po_73 j).1, (hs.a gq_78 rfl j).2.trans (po_73 j).2⟩
  replace nfw_28 : h_89.2.1 q_27 = fw_28 := (funext fun j => (hs.a gq_27 rfl j).1).trans nfw_28
  replace nfw_30 : h_89.2.1 q_29 = fw_30 := (funext fun j => (hs.a gq_29 rfl j).1).trans nfw_30
  replace hM := hM.tr (hs.mono ?o115)
  case o115 => decide
  replace gx := gx.S hs
  replace gq_2 := gq_2.S hs
  replace gq_7 := gq_7.S hs
  replace gq_16 := gq_16.S hs
  replace gq_27 := gq_27.S hs
  replace gq_29 := gq_29.S hs
  replace gq_34 := gq_34.S hs
  replace gq_38 := gq_38.S hs
  replace gq_43 := gq_43.S hs
  replace gq_53 := gq_53.S hs
  replace gq_58 := gq_58.S hs
  replace gq_62 := gq_62.S hs
  replace gq_74 := gq_74.S hs
  replace gq_75 := gq_75.S hs
  replace gq_76 := gq_76.S hs
  replace gq_77 := gq_77.S hs
  replace gq_78 := gq_78.S hs
  replace gq_82 := gq_82.S hs
  replace gq_86 := gq_86.S hs
  have fz_91 : ∀ j, ([] : List Nat).contains j = false → h_89.2.1 q_90 j = 0 ∧ h_89.2.2 q_90 j = none := ?o116
  case o116 =>
    rw [eh_89]
    exact fun _ _ => ⟨hx_nw_i, hx_nw_r⟩
  refine lv_dup hx hb dX9_init_115 rfl ?_
  refine hx_gov (hx_runIN (As := []) (rest := [.ref q_90, .ref x]) ⟨hx, hb, hml, hown, hts⟩ hW (t_X5_init l dC dI dA (((L_64 ++ [q_82]) ++ [q_86]) ++ [q_90]) h_89 H.size q_90 hT gq_90 (fun j => fz_91 j rfl)) ⟨va_cnB 0 hts (hx_gC kw_256) rfl rfl rfl (hZ.1 _ (List.mem_of_getElem? (i := 4) rfl)) (hts _ kw_100) (by decide +kernel) ⟨Nat.le_of_ble_eq_true rfl, Nat.le_of_ble_eq_true rfl⟩, rfl, hts _ kw_255⟩ rfl hl.1 rfl (Nat.le_of_ble_eq_true rfl) dX9_init_116 ⟨Nat.le_of_ble_eq_true rfl, Nat.le_of_ble_eq_true rfl⟩) hW (fun L_92 h_93 H locs p_95 hW => ?_)
  obtain ⟨hT, hs, gNq_90⟩ := p_95
  replace hT : hx_T T_tb L_92 h_93 := hT
  replace hs : hx_S T_tb [(121, 2), (121, 3), (121, 4), (121, 5), (121, 6), (121, 7), (121, 8)] (hx_X (((L_64 ++ [q_82]) ++ [q_86]) ++ [q_90]) q_90) h_89 L_92 h_93 := hs
  have gx := hx_gX gx (gx.ne gq_90 ?o117)
  case o117 => decide
  have gq_2 := hx_gX gq_2 (gq_2.ne gq_90 ?o118)
  case o118 => decide
  have gq_7 := hx_gX gq_7 (gq_7.ne gq_90 ?o119)
  case o119 => decide
  have gq_16 := hx_gX gq_16 (gq_16.ne gq_90 ?o120)
  case o120 => decide
  have gq_27 := hx_gX gq_27 (gq_27.ne gq_90 ?o121)
  case o121 => decide
  have gq_29 := hx_gX gq_29 (gq_29.ne gq_90 ?o122)
  case o122 => decide
  have gq_34 := hx_gX gq_34 (gq_34.ne gq_90 ?o123)
  case o123 => decide
  have gq_38 := hx_gX gq_38 (gq_38.ne gq_90 ?o124)
  case o124 => decide
  have gq_43 := hx_gX gq_43 (gq_43.ne gq_90 ?o125)
  case o125 => decide
  have gq_53 := hx_gX gq_53 (gq_53.ne gq_90 ?o126)
  case o126 => decide
  have gq_58 := hx_gX gq_58 (gq_58.ne gq_90 ?o127)
  case o127 => decide
  have gq_62 := hx_gX gq_62 (gq_62.ne gq_90 ?o128)
  case o128 => decide
  have gq_74 := hx_gX gq_74 (gq_74.ne gq_90 ?o129)
  case o129 => decide
  have gq_75 := hx_gX gq_75 (gq_75.ne gq_90 ?o130)
  case o130 => decide
  have gq_76 := hx_gX gq_76 (gq_76.ne gq_90 ?o131)
  case o131 => decide
  have gq_77 := hx_gX gq_77 (gq_77.ne gq_90 ?o132)
  case o132 => decide
  have gq_78 := hx_gX gq_78 (gq_78.ne gq_90 ?o133)
  case o133 => decide
  have gq_82 := hx_gX gq_82 (gq_82.ne gq_90 ?o134)
  case o134 => decide
  have gq_86 := hx_gX gq_86 (gq_86.ne gq_90 ?o135)
  case o135 => decide
  replace f_5 := (hs.o gx trivial rfl).2.trans f_5
  replace f_14 := (hs.o gx trivial rfl).2.trans f_14
  replace po_22 := (hs.o gq_16 trivial rfl).1.trans po_22
  replace po_23 := (hs.o gq_16 trivial rfl).1.trans po_23
  replace po_24 := (hs.o gq_16 trivial rfl).1.trans po_24
  replace fq_27 := (hs.o gq_16 trivial rfl).2.trans fq_27
  replace fq_29 := (hs.o gq_16 trivial rfl).2.trans fq_29
  replace f_32 := (hs.o gx trivial rfl).2.trans f_32
  replace f_36 := (hs.o gx trivial rfl).2.trans f_36
  replace f_41 := (hs.o gx trivial rfl).2.trans f_41
  replace po_49 := (hs.o gq_43 trivial rfl).1.trans po_49
  replace f_51 := (hs.o gx trivial rfl).2.trans f_51
  replace f_56 := (hs.o gx trivial rfl).2.trans f_56
  replace f_60 := (hs.o gx trivial rfl).2.trans f_60
  replace po_68 := (hs.o gq_62 trivial rfl).1.trans po_68
  replace fq_74 := (hs.o gq_62 trivial rfl).2.trans fq_74
  replace fq_75 := (hs.o gq_62 trivial rfl).2.trans fq_75
  replace fq_76 := (hs.o gq_62 trivial rfl).2.trans fq_76
  replace fq_77 := (hs.o gq_62 trivial rfl).2.trans fq_77
  replace fq_78 := (hs.o gq_62 trivial rfl).2.trans fq_78
  replace f_80 := (hs.o gx trivial rfl).2.trans f_80
  replace f_84 := (hs.o gx trivial rfl).2.trans f_84
  replace f_88 := (hs.o gx trivial rfl).2.trans f_88
  replace hz := hx_zr [0, 3, 4, 5, 7, 9, 10, 12, 14, 15, 16] hz hs gx trivial rfl
  replace za_3 : ∀ j, h_93.2.1 q_2 j = 0 ∧ h_93.2.2 q_2 j = none := fun j => ⟨(hs.a gq_2 rfl j).1.trans (za_3 j).1, (hs.a gq_2 rfl j).2.trans (za_3 j).2⟩
  replace za_39 : ∀ j, h_93.2.1 q_38 j = 0 ∧ h_93.2.2 q_38 j = none := fun j => ⟨(hs.a gq_38 rfl j).1.trans (za_39 j).1, (hs.a gq_38 rfl j).2.trans (za_39 j).2⟩
  replace za_54 : ∀ j, h_93.2.1 q_53 j = 0 ∧ h_93.2.2 q_53 j = none := fun j => ⟨(hs.a gq_53 rfl j).1.trans (za_54 j).1, (hs.a gq_53 rfl j).2.trans (za_54 j).2⟩
  replace po_69 : ∀ j, h_93.2.1 q_74 j = 0 ∧ h_93.2.2 q_74 j = none := fun j => ⟨(hs.a gq_74 rfl j).1.trans (po_69 j).1, (hs.a gq_74 rfl j).2.trans (po_69 j).2⟩
  replace po_70 : ∀ j, h_93.2.1 q_75 j = 0 ∧ h_93.2.2 q_75 j = none := fun j => ⟨(hs.a gq_75 rfl j).1.trans (po_70 j).1, (hs.a gq_75 rfl j).2.trans (po_70 j).2⟩
  replace po_71 : ∀ j, h_93.2.1 q_76 j = 0 ∧ h_93.2.2 q_76 j = none := fun j => ⟨(hs.a gq_76 rfl j).1.trans (po_71 j).1, (hs.a gq_76 rfl j).2.trans (po_71 j).2⟩
  replace po_72 : ∀ j, h_93.2.1 q_77 j = 0 ∧ h_93.2.2 q_77 j = none := fun j => ⟨(hs.a gq_77 rfl j).1.trans (po_72 j).1, (hs.a gq_77 rfl j).2.trans (po_72 j).2⟩
  replace po_73 : ∀ j, h_93.2.1 q_78 j = 0 ∧ h_93.2.2 q_78 j = none := fun j => ⟨(hs.a gq_78 rfl j).1.trans (po_73 j).1, (hs.a gq_78 rfl j).2.trans (po_73 j).2⟩
  replace nfw_28 : h_93.2.1 q_27 = fw_28 := (funext fun j => (hs.a gq_27 rfl j).1).trans nfw_28
  replace nfw_30 : h_93.2.1 q_29 = fw_30 := (funext fun j => (hs.a gq_29 rfl j).1).trans nfw_30
  replace hM := hM.trX (hs.mono ?o136) nq_q_90
  case o136 => decide
  replace gx := gx.S hs
  replace gq_2 := gq_2.S hs
  replace gq_7 := gq_7.S hs
  replace gq_16 := gq_16.S hs
  replace gq_27 := gq_27.S hs
  replace gq_29 := gq_29.S hs
  replace gq_34 := gq_34.S hs
  replace gq_38 := gq_38.S hs
  replace gq_43 := gq_43.S hs
  replace gq_53 := gq_53.S hs
  replace gq_58 := gq_58.S hs
  replace gq_62 := gq_62.S hs
  replace gq_74 := gq_74.S hs
  replace gq_75 := gq_75.S hs
  replace gq_76 := gq_76.S hs
  replace gq_77 := gq_77.S hs
  replace gq_78 := gq_78.S hs
  replace gq_82 := gq_82.S hs
  replace gq_86 := gq_86.S hs
  have gq_90 : hx_g L_92 h_93 q_90 5 := gNq_90
  refine hx_putrF hx hb hts hC_9 hown hW hT (hx_S.rf (M := [(125, 17)])) gx tt_125 17 ?o137 rfl kw_381 ⟨rfl, rfl, rfl⟩ rfl hin rfl (x := (some q_90)) ⟨fun _ z => (by cases z), fun q hq => (by cases hq; exact ⟨gq_90.1, by rw [gq_90.2]; decide⟩)⟩ rfl rfl rfl (List.mem_singleton.mpr rfl) dX9_init_119 (fun H locs h_96 eh_96 hW hT hs => ?_)
  case o137 => decide
  replace f_5 := (hs.o gx trivial rfl).2.trans f_5
  replace f_14 := (hs.o gx trivial rfl).2.trans f_14
  replace po_22 := (hs.o gq_16 trivial rfl).1.trans po_22
  replace po_23 := (hs.o gq_16 trivial rfl).1.trans po_23
  replace po_24 := (hs.o gq_16 trivial rfl).1.trans po_24
  replace fq_27 := (hs.o gq_16 trivial rfl).2.trans fq_27
  replace fq_29 := (hs.o gq_16 trivial rfl).2.trans fq_29
  replace f_32 := (hs.o gx trivial rfl).2.trans f_32
  replace f_36 := (hs.o gx trivial rfl).2.trans f_36
  replace f_41 := (hs.o gx trivial rfl).2.trans f_41
  replace po_49 := (hs.o gq_43 trivial rfl).1.trans po_49
  replace f_51 := (hs.o gx trivial rfl).2.trans f_51
  replace f_56 := (hs.o gx trivial rfl).2.trans f_56
  replace f_60 := (hs.o gx trivial rfl).2.trans f_60
  replace po_68 := (hs.o gq_62 trivial rfl).1.trans po_68
  replace fq_74 := (hs.o gq_62 trivial rfl).2.trans fq_74
  replace fq_75 := (hs.o gq_62 trivial rfl).2.trans fq_75
  replace fq_76 := (hs.o gq_62 trivial rfl).2.trans fq_76
  replace fq_77 := (hs.o gq_62 trivial rfl).2.trans fq_77
  replace fq_78 := (hs.o gq_62 trivial rfl).2.trans fq_78
  replace f_80 := (hs.o gx trivial rfl).2.trans f_80
  replace f_84 := (hs.o gx trivial rfl).2.trans f_84
  replace f_88 := (hs.o gx trivial rfl).2.trans f_88
  replace hz := hx_zr [0, 3, 4, 5, 7, 9, 10, 12, 14, 15, 16, 17] hz hs gx trivial rfl
  replace za_3 : ∀ j, h_96.2.1 q_2 j = 0 ∧ h_96.2.2 q_2 j = none := fun j => ⟨(hs.a gq_2 rfl j).1.trans (za_3 j).1, (hs.a gq_2 rfl j).2.trans (za_3 j).2⟩
  replace za_39 : ∀ j, h_96.2.1 q_38 j = 0 ∧ h_96.2.2 q_38 j = none := fun j => ⟨(hs.a gq_38 rfl j).1.trans (za_39 j).1, (hs.a gq_38 rfl j).2.trans (za_39 j).2⟩
  replace za_54 : ∀ j, h_96.2.1 q_53 j = 0 ∧ h_96.2.2 q_53 j = none := fun j => ⟨(hs.a gq_53 rfl j).1.trans (za_54 j).1, (hs.a gq_53 rfl j).2.trans (za_54 j).2⟩
  replace po_69 : ∀ j, h_96.2.1 q_74 j = 0 ∧ h_96.2.2 q_74 j = none := fun j => ⟨(hs.a gq_74 rfl j).1.trans (po_69 j).1, (hs.a gq_74 rfl j).2.trans (po_69 j).2⟩
  replace po_70 : ∀ j, h_96.2.1 q_75 j = 0 ∧ h_96.2.2 q_75 j = none := fun j => ⟨(hs.a gq_75 rfl j).1.trans (po_70 j).1, (hs.a gq_75 rfl j).2.trans (po_70 j).2⟩
  replace po_71 : ∀ j, h_96.2.1 q_76 j = 0 ∧ h_96.2.2 q_76 j = none := fun j => ⟨(hs.a gq_76 rfl j).1.trans (po_71 j).1, (hs.a gq_76 rfl j).2.trans (po_71 j).2⟩
  replace po_72 : ∀ j, h_96.2.1 q_77 j = 0 ∧ h_96.2.2 q_77 j = none := fun j => ⟨(hs.a gq_77 rfl j).1.trans (po_72 j).1, (hs.a gq_77 rfl j).2.trans (po_72 j).2⟩
  replace po_73 : ∀ j, h_96.2.1 q_78 j = 0 ∧ h_96.2.2 q_78 j = none := fun j => ⟨(hs.a gq_78 rfl j).1.trans (po_73 j).1, (hs.a gq_78 rfl j).2.trans (po_73 j).2⟩
  replace nfw_28 : h_96.2.1 q_27 = fw_28 := (funext fun j => (hs.a gq_27 rfl j).1).trans nfw_28
  replace nfw_30 : h_96.2.1 q_29 = fw_30 := (funext fun j => (hs.a gq_29 rfl j).1).trans nfw_30
  replace hM := hM.tr (hs.mono ?o138)
  case o138 => decide
  replace gx := gx.S hs
  replace gq_2 := gq_2.S hs
  replace gq_7 := gq_7.S hs
  replace gq_16 := gq_16.S hs
  replace gq_27 := gq_27.S hs
  replace gq_29 := gq_29.S hs
  replace gq_34 := gq_34.S hs
  replace gq_38 := gq_38.S hs
  replace gq_43 := gq_43.S hs
  replace gq_53 := gq_53.S hs
  replace gq_58 := gq_58.S hs
  replace gq_62 := gq_62.S hs
  replace gq_74 := gq_74.S hs
  replace gq_75 := gq_75.S hs
  replace gq_76 := gq_76.S hs
  replace gq_77 := gq_77.S hs
  replace gq_78 := gq_78.S hs
  replace gq_82 := gq_82.S hs
  replace gq_86 := gq_86.S hs
  replace gq_90 := gq_90.S hs
  have f_97 : h_96.2.2 x 17 = (some q_90) := ?o139
  case o139 =>
    rw [eh_96]
    exact hx_pr_at _ _ _ _
  refine lv_aload_n hx hb dX9_init_122 rfl (lv_at hl 0 rfl) ?_
  refine hk_new hx hb hts hC_7 hown hW 123 tt_123 rfl ?o140 kw_303 kw_304 kw_101 (Nat.le_of_ble_eq_true rfl) (Nat.le_of_ble_eq_true rfl) dX9_init_123 (fun q_99 H h_98 eh_98 hqq_99 hW hs gq_99 => ?_)
  case o140 => decide
  have nq_q_99 : ∀ a ∈ (hx_X L x), a ≠ q_99 := fun a ha z => hqq_99 (z ▸ (hM.1 a ha).1)
  have hT : hx_T T_tb (L_92 ++ [q_99]) h_98 := ?o141
  case o141 =>
    rw [eh_98]
    exact hx_T_nw hT hqq_99 tt_123 rfl
  replace f_5 := (hs.o gx trivial rfl).2.trans f_5
  replace f_14 := (hs.o gx trivial rfl).2.trans f_14
  replace po_22 := (hs.o gq_16 trivial rfl).1.trans po_22
  replace po_23 := (hs.o gq_16 trivial rfl).1.trans po_23
  replace po_24 := (hs.o gq_16 trivial rfl).1.trans po_24
  replace fq_27 := (hs.o gq_16 trivial rfl).2.trans fq_27
  replace fq_29 := (hs.o gq_16 trivial rfl).2.trans fq_29
  replace f_32 := (hs.o gx trivial rfl).2.trans f_32
  replace f_36 := (hs.o gx trivial rfl).2.trans f_36
  replace f_41 := (hs.o gx trivial rfl).2.trans f_41
  replace po_49 := (hs.o gq_43 trivial rfl).1.trans po_49
  replace f_51 := (hs.o gx trivial rfl).2.trans f_51
  replace f_56 := (hs.o gx trivial rfl).2.trans f_56
  replace f_60 := (hs.o gx trivial rfl).2.trans f_60
  replace po_68 := (hs.o gq_62 trivial rfl).1.trans po_68
  replace fq_74 := (hs.o gq_62 trivial rfl).2.trans fq_74
  replace fq_75 := (hs.o gq_62 trivial rfl).2.trans fq_75
  replace fq_76 := (hs.o gq_62 trivial rfl).2.trans fq_76
  replace fq_77 := (hs.o gq_62 trivial rfl).2.trans fq_77
  replace fq_78 := (hs.o gq_62 trivial rfl).2.trans fq_78
  replace f_80 := (hs.o gx trivial rfl).2.trans f_80
  replace f_84 := (hs.o gx trivial rfl).2.trans f_84
  replace f_88 := (hs.o gx trivial rfl).2.trans f_88
  replace f_97 := (hs.o gx trivial rfl).2.trans f_97
  replace hz := hx_zr [0, 3, 4, 5, 7, 9, 10, 12, 14, 15, 16, 17] hz hs gx trivial rfl
  replace za_3 : ∀ j, h_98.2.1 q_2 j = 0 ∧ h_98.2.2 q_2 j = none := fun j => ⟨(hs.a gq_2 rfl j).1.trans (za_3 j).1, (hs.a gq_2 rfl j).2.trans (za_3 j).2⟩
  replace za_39 : ∀ j, h_98.2.1 q_38 j = 0 ∧ h_98.2.2 q_38 j = none := fun j => ⟨(hs.a gq_38 rfl j).1.trans (za_39 j).1, (hs.a gq_38 rfl j).2.trans (za_39 j).2⟩
  replace za_54 : ∀ j, h_98.2.1 q_53 j = 0 ∧ h_98.2.2 q_53 j = none := fun j => ⟨(hs.a gq_53 rfl j).1.trans (za_54 j).1, (hs.a gq_53 rfl j).2.trans (za_54 j).2⟩
  replace po_69 : ∀ j, h_98.2.1 q_74 j = 0 ∧ h_98.2.2 q_74 j = none := fun j => ⟨(hs.a gq_74 rfl j).1.trans (po_69 j).1, (hs.a gq_74 rfl j).2.trans (po_69 j).2⟩
  replace po_70 : ∀ j, h_98.2.1 q_75 j = 0 ∧ h_98.2.2 q_75 j = none := fun j => ⟨(hs.a gq_75 rfl j).1.trans (po_70 j).1, (hs.a gq_75 rfl j).2.trans (po_70 j).2⟩
  replace po_71 : ∀ j, h_98.2.1 q_76 j = 0 ∧ h_98.2.2 q_76 j = none := fun j => ⟨(hs.a gq_76 rfl j).1.trans (po_71 j).1, (hs.a gq_76 rfl j).2.trans (po_71 j).2⟩
  replace po_72 : ∀ j, h_98.2.1 q_77 j = 0 ∧ h_98.2.2 q_77 j = none := fun j => ⟨(hs.a gq_77 rfl j).1.trans (po_72 j).1, (hs.a gq_77 rfl j).2.trans (po_72 j).2⟩
  replace po_73 : ∀ j, h_98.2.1 q_78 j = 0 ∧ h_98.2.2 q_78 j = none := fun j => ⟨(hs.a gq_78 rfl j).1.trans (po_73 j).1, (hs.a gq_78 rfl j).2.trans (po_73 j).2⟩
  replace nfw_28 : h_98.2.1 q_27 = fw_28 := (funext fun j => (hs.a gq_27 rfl j).1).trans nfw_28
  replace nfw_30 : h_98.2.1 q_29 = fw_30 := (funext fun j => (hs.a gq_29 rfl j).1).trans nfw_30
  replace hM := hM.tr (hs.mono ?o142)
  case o142 => decide
  replace gx := gx.S hs
  replace gq_2 := gq_2.S hs
  replace gq_7 := gq_7.S hs
  replace gq_16 := gq_16.S hs
  replace gq_27 := gq_27.S hs
  replace gq_29 := gq_29.S hs
  replace gq_34 := gq_34.S hs
  replace gq_38 := gq_38.S hs
  replace gq_43 := gq_43.S hs
  replace gq_53 := gq_53.S hs
  replace gq_58 := gq_58.S hs
  replace gq_62 := gq_62.S hs
  replace gq_74 := gq_74.S hs
  replace gq_75 := gq_75.S hs
  replace gq_76 := gq_76.S hs
  replace gq_77 := gq_77.S hs
  replace gq_78 := gq_78.S hs
  replace gq_82 := gq_82.S hs
  replace gq_86 := gq_86.S hs
  replace gq_90 := gq_90.S hs
  have fz_100 : ∀ j, ([] : List Nat).contains j = false → h_98.2.1 q_99 j = 0 ∧ h_98.2.2 q_99 j = none := ?o143
  case o143 =>
    rw [eh_98]
    exact fun _ _ => ⟨hx_nw_i, hx_nw_r⟩
  refine lv_dup hx hb dX9_init_126 rfl ?_
  refine hx_gov (hx_runIN (As := []) (rest := [.ref q_99, .ref x]) ⟨hx, hb, hml, hown, hts⟩ hW (t_X7_init_p l dC dI dA (L_92 ++ [q_99]) h_98 H.size q_99 hT gq_99 (fun j => fz_100 j rfl)) ⟨va_cnB 0 hts (hx_gC kw_307) rfl rfl rfl (hZ.1 _ (List.mem_of_getElem? (i := 5) rfl)) (hts _ kw_101) (by decide +kernel) ⟨Nat.le_of_ble_eq_true rfl, Nat.le_of_ble_eq_true rfl⟩, rfl, hts _ kw_306⟩ rfl hl.1 rfl (Nat.le_of_ble_eq_true rfl) dX9_init_127 ⟨Nat.le_of_ble_eq_true rfl, Nat.le_of_ble_eq_true rfl⟩) hW (fun L_101 h_102 H locs p_104 hW => ?_)
  obtain ⟨hT, hs, gNq_99, po_105⟩ := p_104
  replace hT : hx_T T_tb L_101 h_102 := hT
  replace hs : hx_S T_tb [(123, 0), (123, 3), (123, 5), (123, 6), (123, 7)] (hx_X (L_92 ++ [q_99]) q_99) h_98 L_101 h_102 := hs
  have gx := hx_gX gx (gx.ne gq_99 ?o144)
  case o144 => decide
  have gq_2 := hx_gX gq_2 (gq_2.ne gq_99 ?o145)
  case o145 => decide
  have gq_7 := hx_gX gq_7 (gq_7.ne gq_99 ?o146)
  case o146 => decide
  have gq_16 := hx_gX gq_16 (gq_16.ne gq_99 ?o147)
  case o147 => decide
  have gq_27 := hx_gX gq_27 (gq_27.ne gq_99 ?o148)
  case o148 => decide
  have gq_29 := hx_gX gq_29 (gq_29.ne gq_99 ?o149)
  case o149 => decide
  have gq_34 := hx_gX gq_34 (gq_34.ne gq_99 ?o150)
  case o150 => decide
  have gq_38 := hx_gX gq_38 (gq_38.ne gq_99 ?o151)
  case o151 => decide
  have gq_43 := hx_gX gq_43 (gq_43.ne gq_99 ?o152)
  case o152 => decide
  have gq_53 := hx_gX gq_53 (gq_53.ne gq_99 ?o153)
  case o153 => decide
  have gq_58 := hx_gX gq_58 (gq_58.ne gq_99 ?o154)
  case o154 => decide
  have gq_62 := hx_gX gq_62 (gq_62.ne gq_99 ?o155)
  case o155 => decide
  have gq_74 := hx_gX gq_74 (gq_74.ne gq_99 ?o156)
  case o156 => decide
  have gq_75 := hx_gX gq_75 (gq_75.ne gq_99 ?o157)
  case o157 => decide
  have gq_76 := hx_gX gq_76 (gq_76.ne gq_99 ?o158)
  case o158 => decide
  have gq_77 := hx_gX gq_77 (gq_77.ne gq_99 ?o159)
  case o159 => decide
  have gq_78 := hx_gX gq_78 (gq_78.ne gq_99 ?o160)
  case o160 => decide
  have gq_82 := hx_gX gq_82 (gq_82.ne gq_99 ?o161)
  case o161 => decide
  have gq_86 := hx_gX gq_86 (gq_86.ne gq_99 ?o162)
  case o162 => decide
  have gq_90 := hx_gX gq_90 (gq_90.ne gq_99 ?o163)
  case o163 => decide
  replace f_5 := (hs.o gx trivial rfl).2.trans f_5
  replace f_14 := (hs.o gx trivial rfl).2.trans f_14
  replace po_22 := (hs.o gq_16 trivial rfl).1.trans po_22
  replace po_23 := (hs.o gq_16 trivial rfl).1.trans po_23
  replace po_24 := (hs.o gq_16 trivial rfl).1.trans po_24
  replace fq_27 := (hs.o gq_16 trivial rfl).2.trans fq_27
  replace fq_29 := (hs.o gq_16 trivial rfl).2.trans fq_29
  replace f_32 := (hs.o gx trivial rfl).2.trans f_32
  replace f_36 := (hs.o gx trivial rfl).2.trans f_36
  replace f_41 := (hs.o gx trivial rfl).2.trans f_41
  replace po_49 := (hs.o gq_43 trivial rfl).1.trans po_49
  replace f_51 := (hs.o gx trivial rfl).2.trans f_51
  replace f_56 := (hs.o gx trivial rfl).2.trans f_56
  replace f_60 := (hs.o gx trivial rfl).2.trans f_60
  replace po_68 := (hs.o gq_62 trivial rfl).1.trans po_68
  replace fq_74 := (hs.o gq_62 trivial rfl).2.trans fq_74
  replace fq_75 := (hs.o gq_62 trivial rfl).2.trans fq_75
  replace fq_76 := (hs.o gq_62 trivial rfl).2.trans fq_76
  replace fq_77 := (hs.o gq_62 trivial rfl).2.trans fq_77
  replace fq_78 := (hs.o gq_62 trivial rfl).2.trans fq_78
  replace f_80 := (hs.o gx trivial rfl).2.trans f_80
  replace f_84 := (hs.o gx trivial rfl).2.trans f_84
  replace f_88 := (hs.o gx trivial rfl).2.trans f_88
  replace f_97 := (hs.o gx trivial rfl).2.trans f_97
  replace hz := hx_zr [0, 3, 4, 5, 7, 9, 10, 12, 14, 15, 16, 17] hz hs gx trivial rfl
  replace za_3 : ∀ j, h_102.2.1 q_2 j = 0 ∧ h_102.2.2 q_2 j = none := fun j => ⟨(hs.a gq_2 rfl j).1.trans (za_3 j).1, (hs.a gq_2 rfl j).2.trans (za_3 j).2⟩
  replace za_39 : ∀ j, h_102.2.1 q_38 j = 0 ∧ h_102.2.2 q_38 j = none := fun j => ⟨(hs.a gq_38 rfl j).1.trans (za_39 j).1, (hs.a gq_38 rfl j).2.trans (za_39 j).2⟩
  replace za_54 : ∀ j, h_102.2.1 q_53 j = 0 ∧ h_102.2.2 q_53 j = none := fun j => ⟨(hs.a gq_53 rfl j).1.trans (za_54 j).1, (hs.a gq_53 rfl j).2.trans (za_54 j).2⟩
  replace po_69 : ∀ j, h_102.2.1 q_74 j = 0 ∧ h_102.2.2 q_74 j = none := fun j => ⟨(hs.a gq_74 rfl j).1.trans (po_69 j).1, (hs.a gq_74 rfl j).2.trans (po_69 j).2⟩
  replace po_70 : ∀ j, h_102.2.1 q_75 j = 0 ∧ h_102.2.2 q_75 j = none := fun j => ⟨(hs.a gq_75 rfl j).1.trans (po_70 j).1, (hs.a gq_75 rfl j).2.trans (po_70 j).2⟩
  replace po_71 : ∀ j, h_102.2.1 q_76 j = 0 ∧ h_102.2.2 q_76 j = none := fun j => ⟨(hs.a gq_76 rfl j).1.trans (po_71 j).1, (hs.a gq_76 rfl j).2.trans (po_71 j).2⟩
  replace po_72 : ∀ j, h_102.2.1 q_77 j = 0 ∧ h_102.2.2 q_77 j = none := fun j => ⟨(hs.a gq_77 rfl j).1.trans (po_72 j).1, (hs.a gq_77 rfl j).2.trans (po_72 j).2⟩
  replace po_73 : ∀ j, h_102.2.1 q_78 j = 0 ∧ h_102.2.2 q_78 j = none := fun j => ⟨(hs.a gq_78 rfl j).1.trans (po_73 j).1, (hs.a gq_78 rfl j).2.trans (po_73 j).2⟩
  replace nfw_28 : h_102.2.1 q_27 = fw_28 := (funext fun j => (hs.a gq_27 rfl j).1).trans nfw_28
  replace nfw_30 : h_102.2.1 q_29 = fw_30 := (funext fun j => (hs.a gq_29 rfl j).1).trans nfw_30
  replace hM := hM.trX (hs.mono ?o164) nq_q_99
  case o164 => decide
  replace gx := gx.S hs
  replace gq_2 := gq_2.S hs
  replace gq_7 := gq_7.S hs
  replace gq_16 := gq_16.S hs
  replace gq_27 := gq_27.S hs
  replace gq_29 := gq_29.S hs
  replace gq_34 := gq_34.S hs
  replace gq_38 := gq_38.S hs
  replace gq_43 := gq_43.S hs
  replace gq_53 := gq_53.S hs
  replace gq_58 := gq_58.S hs
  replace gq_62 := gq_62.S hs
  replace gq_74 := gq_74.S hs
  replace gq_75 := gq_75.S hs
  replace gq_76 := gq_76.S hs
  replace gq_77 := gq_77.S hs
  replace gq_78 := gq_78.S hs
  replace gq_82 := gq_82.S hs
  replace gq_86 := gq_86.S hs
  replace gq_90 := gq_90.S hs
  have gq_99 : hx_g L_101 h_102 q_99 7 := gNq_99
  have po_105 : h_102.2.1 q_99 0 = -1 := po_105
  refine hx_putrF hx hb hts hC_9 hown hW hT (hx_S.rf (M := [(125, 18)])) gx tt_125 18 ?o165 rfl kw_382 ⟨rfl, rfl, rfl⟩ rfl hin rfl (x := (some q_99)) ⟨fun _ z => (by cases z), fun q hq => (by cases hq; exact ⟨gq_99.1, by rw [gq_99.2]; decide⟩)⟩ rfl rfl rfl (List.mem_singleton.mpr rfl) dX9_init_130 (fun H locs h_106 eh_106 hW hT hs => ?_)
  case o165 => decide
  replace f_5 := (hs.o gx trivial rfl).2.trans f_5
  replace f_14 := (hs.o gx trivial rfl).2.trans f_14
  replace po_22 := (hs.o gq_16 trivial rfl).1.trans po_22
  replace po_23 := (hs.o gq_16 trivial rfl).1.trans po_23
  replace po_24 := (hs.o gq_16 trivial rfl).1.trans po_24
  replace fq_27 := (hs.o gq_16 trivial rfl).2.trans fq_27
  replace fq_29 := (hs.o gq_16 trivial rfl).2.trans fq_29
  replace f_32 := (hs.o gx trivial rfl).2.trans f_32
  replace f_36 := (hs.o gx trivial rfl).2.trans f_36
  replace f_41 := (hs.o gx trivial rfl).2.trans f_41
  replace po_49 := (hs.o gq_43 trivial rfl).1.trans po_49
  replace f_51 := (hs.o gx trivial rfl).2.trans f_51
  replace f_56 := (hs.o gx trivial rfl).2.trans f_56
  replace f_60 := (hs.o gx trivial rfl).2.trans f_60
  replace po_68 := (hs.o gq_62 trivial rfl).1.trans po_68
  replace fq_74 := (hs.o gq_62 trivial rfl).2.trans fq_74
  replace fq_75 := (hs.o gq_62 trivial rfl).2.trans fq_75
  replace fq_76 := (hs.o gq_62 trivial rfl).2.trans fq_76
  replace fq_77 := (hs.o gq_62 trivial rfl).2.trans fq_77
  replace fq_78 := (hs.o gq_62 trivial rfl).2.trans fq_78
  replace f_80 := (hs.o gx trivial rfl).2.trans f_80
  replace f_84 := (hs.o gx trivial rfl).2.trans f_84
  replace f_88 := (hs.o gx trivial rfl).2.trans f_88
  replace f_97 := (hs.o gx trivial rfl).2.trans f_97
  replace po_105 := (hs.o gq_99 trivial rfl).1.trans po_105
  replace hz := hx_zr [0, 3, 4, 5, 7, 9, 10, 12, 14, 15, 16, 17, 18] hz hs gx trivial rfl
  replace za_3 : ∀ j, h_106.2.1 q_2 j = 0 ∧ h_106.2.2 q_2 j = none := fun j => ⟨(hs.a gq_2 rfl j).1.trans (za_3 j).1, (hs.a gq_2 rfl j).2.trans (za_3 j).2⟩
  replace za_39 : ∀ j, h_106.2.1 q_38 j = 0 ∧ h_106.2.2 q_38 j = none := fun j => ⟨(hs.a gq_38 rfl j).1.trans (za_39 j).1, (hs.a gq_38 rfl j).2.trans (za_39 j).2⟩
  replace za_54 : ∀ j, h_106.2.1 q_53 j = 0 ∧ h_106.2.2 q_53 j = none := fun j => ⟨(hs.a gq_53 rfl j).1.trans (za_54 j).1, (hs.a gq_53 rfl j).2.trans (za_54 j).2⟩
  replace po_69 : ∀ j, h_106.2.1 q_74 j = 0 ∧ h_106.2.2 q_74 j = none := fun j => ⟨(hs.a gq_74 rfl j).1.trans (po_69 j).1, (hs.a gq_74 rfl j).2.trans (po_69 j).2⟩
  replace po_70 : ∀ j, h_106.2.1 q_75 j = 0 ∧ h_106.2.2 q_75 j = none := fun j => ⟨(hs.a gq_75 rfl j).1.trans (po_70 j).1, (hs.a gq_75 rfl j).2.trans (po_70 j).2⟩
  replace po_71 : ∀ j, h_106.2.1 q_76 j = 0 ∧ h_106.2.2 q_76 j = none := fun j => ⟨(hs.a gq_76 rfl j).1.trans (po_71 j).1, (hs.a gq_76 rfl j).2.trans (po_71 j).2⟩
  replace po_72 : ∀ j, h_106.2.1 q_77 j = 0 ∧ h_106.2.2 q_77 j = none := fun j => ⟨(hs.a gq_77 rfl j).1.trans (po_72 j).1, (hs.a gq_77 rfl j).2.trans (po_72 j).2⟩
  replace po_73 : ∀ j, h_106.2.1 q_78 j = 0 ∧ h_106.2.2 q_78 j = none := fun j => ⟨(hs.a gq_78 rfl j).1.trans (po_73 j).1, (hs.a gq_78 rfl j).2.trans (po_73 j).2⟩
  replace nfw_28 : h_106.2.1 q_27 = fw_28 := (funext fun j => (hs.a gq_27 rfl j).1).trans nfw_28
  replace nfw_30 : h_106.2.1 q_29 = fw_30 := (funext fun j => (hs.a gq_29 rfl j).1).trans nfw_30
  replace hM := hM.tr (hs.mono ?o166)
  case o166 => decide
  replace gx := gx.S hs
  replace gq_2 := gq_2.S hs
  replace gq_7 := gq_7.S hs
  replace gq_16 := gq_16.S hs
  replace gq_27 := gq_27.S hs
  replace gq_29 := gq_29.S hs
  replace gq_34 := gq_34.S hs
  replace gq_38 := gq_38.S hs
  replace gq_43 := gq_43.S hs
  replace gq_53 := gq_53.S hs
  replace gq_58 := gq_58.S hs
  replace gq_62 := gq_62.S hs
  replace gq_74 := gq_74.S hs
  replace gq_75 := gq_75.S hs
  replace gq_76 := gq_76.S hs
  replace gq_77 := gq_77.S hs
  replace gq_78 := gq_78.S hs
  replace gq_82 := gq_82.S hs
  replace gq_86 := gq_86.S hs
  replace gq_90 := gq_90.S hs
  replace gq_99 := gq_99.S hs
  have f_107 : h_106.2.2 x 18 = (some q_99) := ?o167
  case o167 =>
    rw [eh_106]
    exact hx_pr_at _ _ _ _
  refine lv_aload_n hx hb dX9_init_133 rfl (lv_at hl 0 rfl) ?_
  refine hk_new hx hb hts hC_8 hown hW 124 tt_124 rfl ?o168 kw_338 kw_339 kw_102 (Nat.le_of_ble_eq_true rfl) (Nat.le_of_ble_eq_true rfl) dX9_init_134 (fun q_109 H h_108 eh_108 hqq_109 hW hs gq_109 => ?_)
  case o168 => decide
  have nq_q_109 : ∀ a ∈ (hx_X L x), a ≠ q_109 := fun a ha z => hqq_109 (z ▸ (hM.1 a ha).1)
  have hT : hx_T T_tb (L_101 ++ [q_109]) h_108 := ?o169
  case o169 =>
    rw [eh_108]
    exact hx_T_nw hT hqq_109 tt_124 rfl
  replace f_5 := (hs.o gx trivial rfl).2.trans f_5
  replace f_14 := (hs.o gx trivial rfl).2.trans f_14
  replace po_22 := (hs.o gq_16 trivial rfl).1.trans po_22
  replace po_23 := (hs.o gq_16 trivial rfl).1.trans po_23
  replace po_24 := (hs.o gq_16 trivial rfl).1.trans po_24
  replace fq_27 := (hs.o gq_16 trivial rfl).2.trans fq_27
  replace fq_29 := (hs.o gq_16 trivial rfl).2.trans fq_29
  replace f_32 := (hs.o gx trivial rfl).2.trans f_32
  replace f_36 := (hs.o gx trivial rfl).2.trans f_36
  replace f_41 := (hs.o gx trivial rfl).2.trans f_41
  replace po_49 := (hs.o gq_43 trivial rfl).1.trans po_49
  replace f_51 := (hs.o gx trivial rfl).2.trans f_51
  replace f_56 := (hs.o gx trivial rfl).2.trans f_56
  replace f_60 := (hs.o gx trivial rfl).2.trans f_60
  replace po_68 := (hs.o gq_62 trivial rfl).1.trans po_68
  replace fq_74 := (hs.o gq_62 trivial rfl).2.trans fq_74
  replace fq_75 := (hs.o gq_62 trivial rfl).2.trans fq_75
  replace fq_76 := (hs.o gq_62 trivial rfl).2.trans fq_76
  replace fq_77 := (hs.o gq_62 trivial rfl).2.trans fq_77
  replace fq_78 := (hs.o gq_62 trivial rfl).2.trans fq_78
  replace f_80 := (hs.o gx trivial rfl).2.trans f_80
  replace f_84 := (hs.o gx trivial rfl).2.trans f_84
  replace f_88 := (hs.o gx trivial rfl).2.trans f_88
  replace f_97 := (hs.o gx trivial rfl).2.trans f_97
  replace po_105 := (hs.o gq_99 trivial rfl).1.trans po_105
  replace f_107 := (hs.o gx trivial rfl).2.trans f_107
  replace hz := hx_zr [0, 3, 4, 5, 7, 9, 10, 12, 14, 15, 16, 17, 18] hz hs gx trivial rfl
  replace za_3 : ∀ j, h_108.2.1 q_2 j = 0 ∧ h_108.2.2 q_2 j = none := fun j => ⟨(hs.a gq_2 rfl j).1.trans (za_3 j).1, (hs.a gq_2 rfl j).2.trans (za_3 j).2⟩
  replace za_39 : ∀ j, h_108.2.1 q_38 j = 0 ∧ h_108.2.2 q_38 j = none := fun j => ⟨(hs.a gq_38 rfl j).1.trans (za_39 j).1, (hs.a gq_38 rfl j).2.trans (za_39 j).2⟩
  replace za_54 : ∀ j, h_108.2.1 q_53 j = 0 ∧ h_108.2.2 q_53 j = none := fun j => ⟨(hs.a gq_53 rfl j).1.trans (za_54 j).1, (hs.a gq_53 rfl j).2.trans (za_54 j).2⟩
  replace po_69 : ∀ j, h_108.2.1 q_74 j = 0 ∧ h_108.2.2 q_74 j = none := fun j => ⟨(hs.a gq_74 rfl j).1.trans (po_69 j).1, (hs.a gq_74 rfl j).2.trans (po_69 j).2⟩
  replace po_70 : ∀ j, h_108.2.1 q_75 j = 0 ∧ h_108.2.2 q_75 j = none := fun j => ⟨(hs.a gq_75 rfl j).1.trans (po_70 j).1, (hs.a gq_75 rfl j).2.trans (po_70 j).2⟩
  replace po_71 : ∀ j, h_108.2.1 q_76 j = 0 ∧ h_108.2.2 q_76 j = none := fun j => ⟨(hs.a gq_76 rfl j).1.trans (po_71 j).1, (hs.a gq_76 rfl j).2.trans (po_71 j).2⟩
  replace po_72 : ∀ j, h_108.2.1 q_77 j = 0 ∧ h_108.2.2 q_77 j = none := fun j => ⟨(hs.a gq_77 rfl j).1.trans (po_72 j).1, (hs.a gq_77 rfl j).2.trans (po_72 j).2⟩
  replace po_73 : ∀ j, h_108.2.1 q_78 j = 0 ∧ h_108.2.2 q_78 j = none := fun j => ⟨(hs.a gq_78 rfl j).1.trans (po_73 j).1, (hs.a gq_78 rfl j).2.trans (po_73 j).2⟩
  replace nfw_28 : h_108.2.1 q_27 = fw_28 := (funext fun j => (hs.a gq_27 rfl j).1).trans nfw_28
  replace nfw_30 : h_108.2.1 q_29 = fw_30 := (funext fun j => (hs.a gq_29 rfl j).1).trans nfw_30
  replace hM := hM.tr (hs.mono ?o170)
  case o170 => decide
  replace gx := gx.S hs
  replace gq_2 := gq_2.S hs
  replace gq_7 := gq_7.S hs
  replace gq_16 := gq_16.S hs
  replace gq_27 := gq_27.S hs
  replace gq_29 := gq_29.S hs
  replace gq_34 := gq_34.S hs
  replace gq_38 := gq_38.S hs
  replace gq_43 := gq_43.S hs
  replace gq_53 := gq_53.S hs
  replace gq_58 := gq_58.S hs
  replace gq_62 := gq_62.S hs
  replace gq_74 := gq_74.S hs
  replace gq_75 := gq_75.S hs
  replace gq_76 := gq_76.S hs
  replace gq_77 := gq_77.S hs
  replace gq_78 := gq_78.S hs
  replace gq_82 := gq_82.S hs
  replace gq_86 := gq_86.S hs
  replace gq_90 := gq_90.S hs
  replace gq_99 := gq_99.S hs
  have fz_110 : ∀ j, ([] : List Nat).contains j = false → h_108.2.1 q_109 j = 0 ∧ h_108.2.2 q_109 j = none := ?o171
  case o171 =>
    rw [eh_108]
    exact fun _ _ => ⟨hx_nw_i, hx_nw_r⟩
  refine lv_dup hx hb dX9_init_137 rfl ?_
  refine hx_gov (hx_runINX (As := []) (rest := [.ref q_109, .ref x]) ⟨hx, hb, hml, hown, hts⟩ hW (t_X8_init l dC dI dA (L_101 ++ [q_109]) h_108 H.size b0 q_109 hT gq_109 (fun j => fz_110 j rfl)) hZ ⟨va_cnB 0 hts (hx_gC kw_342) rfl rfl rfl (hZ.1 _ (List.mem_of_getElem? (i := 6) rfl)) (hts _ kw_102) (by decide +kernel) ⟨Nat.le_of_ble_eq_true rfl, Nat.le_of_ble_eq_true rfl⟩, rfl, hts _ kw_341⟩ rfl hl.1 rfl (Nat.le_of_ble_eq_true rfl) dX9_init_138 ⟨Nat.le_of_ble_eq_true rfl, Nat.le_of_ble_eq_true rfl⟩) hW (fun L_111 h_112 H locs p_114 hW => ?_)
  obtain ⟨hT, hs, gNq_109, po_115, po_116, po_117⟩ := p_114
  replace hT : hx_T T_tb L_111 h_112 := hT
  replace hs : hx_S T_tb [(124, 2), (124, 3), (124, 4)] (hx_X (L_101 ++ [q_109]) q_109) h_108 L_111 h_112 := hs
  have gx := hx_gX gx (gx.ne gq_109 ?o172)
  case o172 => decide
  have gq_2 := hx_gX gq_2 (gq_2.ne gq_109 ?o173)
  case o173 => decide
  have gq_7 := hx_gX gq_7 (gq_7.ne gq_109 ?o174)
  case o174 => decide
  have gq_16 := hx_gX gq_16 (gq_16.ne gq_109 ?o175)
  case o175 => decide
  have gq_27 := hx_gX gq_27 (gq_27.ne gq_109 ?o176)
  case o176 => decide
  have gq_29 := hx_gX gq_29 (gq_29.ne gq_109 ?o177)
  case o177 => decide
  have gq_34 := hx_gX gq_34 (gq_34.ne gq_109 ?o178)
  case o178 => decide
  have gq_38 := hx_gX gq_38 (gq_38.ne gq_109 ?o179)
  case o179 => decide
  have gq_43 := hx_gX gq_43 (gq_43.ne gq_109 ?o180)
  case o180 => decide
  have gq_53 := hx_gX gq_53 (gq_53.ne gq_109 ?o181)
  case o181 => decide
  have gq_58 := hx_gX gq_58 (gq_58.ne gq_109 ?o182)
  case o182 => decide
  have gq_62 := hx_gX gq_62 (gq_62.ne gq_109 ?o183)
  case o183 => decide
  have gq_74 := hx_gX gq_74 (gq_74.ne gq_109 ?o184)
  case o184 => decide
  have gq_75 := hx_gX gq_75 (gq_75.ne gq_109 ?o185)
  case o185 => decide
  have gq_76 := hx_gX gq_76 (gq_76.ne gq_109 ?o186)
  case o186 => decide
  have gq_77 := hx_gX gq_77 (gq_77.ne gq_109 ?o187)
  case o187 => decide
  have gq_78 := hx_gX gq_78 (gq_78.ne gq_109 ?o188)
  case o188 => decide
  have gq_82 := hx_gX gq_82 (gq_82.ne gq_109 ?o189)
  case o189 => decide
  have gq_86 := hx_gX gq_86 (gq_86.ne gq_109 ?o190)
  case o190 => decide
  have gq_90 := hx_gX gq_90 (gq_90.ne gq_109 ?o191)
  case o191 => decide
  have gq_99 := hx_gX gq_99 (gq_99.ne gq_109 ?o192)
  case o192 => decide
  replace f_5 := (hs.o gx trivial rfl).2.trans f_5
  replace f_14 := (hs.o gx trivial rfl).2.trans f_14
  replace po_22 := (hs.o gq_16 trivial rfl).1.trans po_22
  replace po_23 := (hs.o gq_16 trivial rfl).1.trans po_23
  replace po_24 := (hs.o gq_16 trivial rfl).1.trans po_24
  replace fq_27 := (hs.o gq_16 trivial rfl).2.trans fq_27
  replace fq_29 := (hs.o gq_16 trivial rfl).2.trans fq_29
  replace f_32 := (hs.o gx trivial rfl).2.trans f_32
  replace f_36 := (hs.o gx trivial rfl).2.trans f_36
  replace f_41 := (hs.o gx trivial rfl).2.trans f_41
  replace po_49 := (hs.o gq_43 trivial rfl).1.trans po_49
  replace f_51 := (hs.o gx trivial rfl).2.trans f_51
  replace f_56 := (hs.o gx trivial rfl).2.trans f_56
  replace f_60 := (hs.o gx trivial rfl).2.trans f_60
  replace po_68 := (hs.o gq_62 trivial rfl).1.trans po_68
  replace fq_74 := (hs.o gq_62 trivial rfl).2.trans fq_74
  replace fq_75 := (hs.o gq_62 trivial rfl).2.trans fq_75
  replace fq_76 := (hs.o gq_62 trivial rfl).2.trans fq_76
  replace fq_77 := (hs.o gq_62 trivial rfl).2.trans fq_77
  replace fq_78 := (hs.o gq_62 trivial rfl).2.trans fq_78
  replace f_80 := (hs.o gx trivial rfl).2.trans f_80
  replace f_84 := (hs.o gx trivial rfl).2.trans f_84
  replace f_88 := (hs.o gx trivial rfl).2.trans f_88
  replace f_97 := (hs.o gx trivial rfl).2.trans f_97
  replace po_105 := (hs.o gq_99 trivial rfl).1.trans po_105
  replace f_107 := (hs.o gx trivial rfl).2.trans f_107
  replace hz := hx_zr [0, 3, 4, 5, 7, 9, 10, 12, 14, 15, 16, 17, 18] hz hs gx trivial rfl
  replace za_3 : ∀ j, h_112.2.1 q_2 j = 0 ∧ h_112.2.2 q_2 j = none := fun j => ⟨(hs.a gq_2 rfl j).1.trans (za_3 j).1, (hs.a gq_2 rfl j).2.trans (za_3 j).2⟩
  replace za_39 : ∀ j, h_112.2.1 q_38 j = 0 ∧ h_112.2.2 q_38 j = none := fun j => ⟨(hs.a gq_38 rfl j).1.trans (za_39 j).1, (hs.a gq_38 rfl j).2.trans (za_39 j).2⟩
  replace za_54 : ∀ j, h_112.2.1 q_53 j = 0 ∧ h_112.2.2 q_53 j = none := fun j => ⟨(hs.a gq_53 rfl j).1.trans (za_54 j).1, (hs.a gq_53 rfl j).2.trans (za_54 j).2⟩
  replace po_69 : ∀ j, h_112.2.1 q_74 j = 0 ∧ h_112.2.2 q_74 j = none := fun j => ⟨(hs.a gq_74 rfl j).1.trans (po_69 j).1, (hs.a gq_74 rfl j).2.trans (po_69 j).2⟩
  replace po_70 : ∀ j, h_112.2.1 q_75 j = 0 ∧ h_112.2.2 q_75 j = none := fun j => ⟨(hs.a gq_75 rfl j).1.trans (po_70 j).1, (hs.a gq_75 rfl j).2.trans (po_70 j).2⟩
  replace po_71 : ∀ j, h_112.2.1 q_76 j = 0 ∧ h_112.2.2 q_76 j = none := fun j => ⟨(hs.a gq_76 rfl j).1.trans (po_71 j).1, (hs.a gq_76 rfl j).2.trans (po_71 j).2⟩
  replace po_72 : ∀ j, h_112.2.1 q_77 j = 0 ∧ h_112.2.2 q_77 j = none := fun j => ⟨(hs.a gq_77 rfl j).1.trans (po_72 j).1, (hs.a gq_77 rfl j).2.trans (po_72 j).2⟩
  replace po_73 : ∀ j, h_112.2.1 q_78 j = 0 ∧ h_112.2.2 q_78 j = none := fun j => ⟨(hs.a gq_78 rfl j).1.trans (po_73 j).1, (hs.a gq_78 rfl j).2.trans (po_73 j).2⟩
  replace nfw_28 : h_112.2.1 q_27 = fw_28 := (funext fun j => (hs.a gq_27 rfl j).1).trans nfw_28
  replace nfw_30 : h_112.2.1 q_29 = fw_30 := (funext fun j => (hs.a gq_29 rfl j).1).trans nfw_30
  replace hM := hM.trX (hs.mono ?o193) nq_q_109
  case o193 => decide
  replace gx := gx.S hs
  replace gq_2 := gq_2.S hs
  replace gq_7 := gq_7.S hs
  replace gq_16 := gq_16.S hs
  replace gq_27 := gq_27.S hs
  replace gq_29 := gq_29.S hs
  replace gq_34 := gq_34.S hs
  replace gq_38 := gq_38.S hs
  replace gq_43 := gq_43.S hs
  replace gq_53 := gq_53.S hs
  replace gq_58 := gq_58.S hs
  replace gq_62 := gq_62.S hs
  replace gq_74 := gq_74.S hs
  replace gq_75 := gq_75.S hs
  replace gq_76 := gq_76.S hs
  replace gq_77 := gq_77.S hs
  replace gq_78 := gq_78.S hs
  replace gq_82 := gq_82.S hs
  replace gq_86 := gq_86.S hs
  replace gq_90 := gq_90.S hs
  replace gq_99 := gq_99.S hs
  have gq_109 : hx_g L_111 h_112 q_109 8 := gNq_109
  have po_115 : h_112.2.1 q_109 0 = 0 := po_115
  have po_116 : h_112.2.1 q_109 1 = 0 := po_116
  obtain ⟨q_118, fq_118, gq_118, po_117⟩ := po_117
  have fq_118 : h_112.2.2 q_109 3 = some q_118 := fq_118
  have gq_118 : hx_g L_111 h_112 q_118 40 := gq_118
  have po_117 : ∀ j, h_112.2.1 q_118 j = 0 ∧ h_112.2.2 q_118 j = none := po_117
  refine hx_putrF hx hb hts hC_9 hown hW hT (hx_S.rf (M := [(125, 19)])) gx tt_125 19 ?o194 rfl kw_383 ⟨rfl, rfl, rfl⟩ rfl hin rfl (x := (some q_109)) ⟨fun _ z => (by cases z), fun q hq => (by cases hq; exact ⟨gq_109.1, by rw [gq_109.2]; decide⟩)⟩ rfl rfl rfl (List.mem_singleton.mpr rfl) dX9_init_141 (fun H locs h_119 eh_119 hW hT hs => ?_)
  case o194 => decide
  replace f_5 := (hs.o gx trivial rfl).2.trans f_5
  replace f_14 := (hs.o gx trivial rfl).2.trans f_14
  replace po_22 := (hs.o gq_16 trivial rfl).1.trans po_22
  replace po_23 := (hs.o gq_16 trivial rfl).1.trans po_23
  replace po_24 := (hs.o gq_16 trivial rfl).1.trans po_24
  replace fq_27 := (hs.o gq_16 trivial rfl).2.trans fq_27
  replace fq_29 := (hs.o gq_16 trivial rfl).2.trans fq_29
  replace f_32 := (hs.o gx trivial rfl).2.trans f_32
  replace f_36 := (hs.o gx trivial rfl).2.trans f_36
  replace f_41 := (hs.o gx trivial rfl).2.trans f_41
  replace po_49 := (hs.o gq_43 trivial rfl).1.trans po_49
  replace f_51 := (hs.o gx trivial rfl).2.trans f_51
  replace f_56 := (hs.o gx trivial rfl).2.trans f_56
  replace f_60 := (hs.o gx trivial rfl).2.trans f_60
  replace po_68 := (hs.o gq_62 trivial rfl).1.trans po_68
  replace fq_74 := (hs.o gq_62 trivial rfl).2.trans fq_74
  replace fq_75 := (hs.o gq_62 trivial rfl).2.trans fq_75
  replace fq_76 := (hs.o gq_62 trivial rfl).2.trans fq_76
  replace fq_77 := (hs.o gq_62 trivial rfl).2.trans fq_77
  replace fq_78 := (hs.o gq_62 trivial rfl).2.trans fq_78
  replace f_80 := (hs.o gx trivial rfl).2.trans f_80
  replace f_84 := (hs.o gx trivial rfl).2.trans f_84
  replace f_88 := (hs.o gx trivial rfl).2.trans f_88
  replace f_97 := (hs.o gx trivial rfl).2.trans f_97
  replace po_105 := (hs.o gq_99 trivial rfl).1.trans po_105
  replace f_107 := (hs.o gx trivial rfl).2.trans f_107
  replace po_115 := (hs.o gq_109 trivial rfl).1.trans po_115
  replace po_116 := (hs.o gq_109 trivial rfl).1.trans po_116
  replace fq_118 := (hs.o gq_109 trivial rfl).2.trans fq_118
  replace hz := hx_zr [0, 3, 4, 5, 7, 9, 10, 12, 14, 15, 16, 17, 18, 19] hz hs gx trivial rfl
  replace za_3 : ∀ j, h_119.2.1 q_2 j = 0 ∧ h_119.2.2 q_2 j = none := fun j => ⟨(hs.a gq_2 rfl j).1.trans (za_3 j).1, (hs.a gq_2 rfl j).2.trans (za_3 j).2⟩
  replace za_39 : ∀ j, h_119.2.1 q_38 j = 0 ∧ h_119.2.2 q_38 j = none := fun j => ⟨(hs.a gq_38 rfl j).1.trans (za_39 j).1, (hs.a gq_38 rfl j).2.trans (za_39 j).2⟩
  replace za_54 : ∀ j, h_119.2.1 q_53 j = 0 ∧ h_119.2.2 q_53 j = none := fun j => ⟨(hs.a gq_53 rfl j).1.trans (za_54 j).1, (hs.a gq_53 rfl j).2.trans (za_54 j).2⟩
  replace po_69 : ∀ j, h_119.2.1 q_74 j = 0 ∧ h_119.2.2 q_74 j = none := fun j => ⟨(hs.a gq_74 rfl j).1.trans (po_69 j).1, (hs.a gq_74 rfl j).2.trans (po_69 j).2⟩
  replace po_70 : ∀ j, h_119.2.1 q_75 j = 0 ∧ h_119.2.2 q_75 j = none := fun j => ⟨(hs.a gq_75 rfl j).1.trans (po_70 j).1, (hs.a gq_75 rfl j).2.trans (po_70 j).2⟩
  replace po_71 : ∀ j, h_119.2.1 q_76 j = 0 ∧ h_119.2.2 q_76 j = none := fun j => ⟨(hs.a gq_76 rfl j).1.trans (po_71 j).1, (hs.a gq_76 rfl j).2.trans (po_71 j).2⟩
  replace po_72 : ∀ j, h_119.2.1 q_77 j = 0 ∧ h_119.2.2 q_77 j = none := fun j => ⟨(hs.a gq_77 rfl j).1.trans (po_72 j).1, (hs.a gq_77 rfl j).2.trans (po_72 j).2⟩
  replace po_73 : ∀ j, h_119.2.1 q_78 j = 0 ∧ h_119.2.2 q_78 j = none := fun j => ⟨(hs.a gq_78 rfl j).1.trans (po_73 j).1, (hs.a gq_78 rfl j).2.trans (po_73 j).2⟩
  replace po_117 : ∀ j, h_119.2.1 q_118 j = 0 ∧ h_119.2.2 q_118 j = none := fun j => ⟨(hs.a gq_118 rfl j).1.trans (po_117 j).1, (hs.a gq_118 rfl j).2.trans (po_117 j).2⟩
  replace nfw_28 : h_119.2.1 q_27 = fw_28 := (funext fun j => (hs.a gq_27 rfl j).1).trans nfw_28
  replace nfw_30 : h_119.2.1 q_29 = fw_30 := (funext fun j => (hs.a gq_29 rfl j).1).trans nfw_30
  replace hM := hM.tr (hs.mono ?o195)
  case o195 => decide
  replace gx := gx.S hs
  replace gq_2 := gq_2.S hs
  replace gq_7 := gq_7.S hs
  replace gq_16 := gq_16.S hs
  replace gq_27 := gq_27.S hs
  replace gq_29 := gq_29.S hs
  replace gq_34 := gq_34.S hs
  replace gq_38 := gq_38.S hs
  replace gq_43 := gq_43.S hs
  replace gq_53 := gq_53.S hs
  replace gq_58 := gq_58.S hs
  replace gq_62 := gq_62.S hs
  replace gq_74 := gq_74.S hs
  replace gq_75 := gq_75.S hs
  replace gq_76 := gq_76.S hs
  replace gq_77 := gq_77.S hs
  replace gq_78 := gq_78.S hs
  replace gq_82 := gq_82.S hs
  replace gq_86 := gq_86.S hs
  replace gq_90 := gq_90.S hs
  replace gq_99 := gq_99.S hs
  replace gq_109 := gq_109.S hs
  replace gq_118 := gq_118.S hs
  have f_120 : h_119.2.2 x 19 = (some q_109) := ?o196
  case o196 =>
    rw [eh_119]
    exact hx_pr_at _ _ _ _
  have f_121 : h_119.2.1 x 2 = 0 := (hz 2 rfl).1
  have f_122 : h_119.2.1 x 6 = 0 := (hz 6 rfl).1
  have f_123 : h_119.2.1 x 8 = 0 := (hz 8 rfl).1
  have f_124 : h_119.2.1 x 11 = 0 := (hz 11 rfl).1
  have f_125 : h_119.2.1 x 13 = 0 := (hz 13 rfl).1
  have f_126 : h_119.2.1 x 1 = 0 := (hz 1 rfl).1
  have hF : hx_F (fun k f => hx_o L_111 h_119 f (h_119.2.1 x k) (h_119.2.2 x k)) T_f9 0 := ⟨hx_or f_5 gq_2 ?o197, hx_oi f_126 ?o198, hx_oi f_121 ?o199, hx_or f_14 gq_7 ?o200, hx_or f_32 gq_16 ?o201, hx_or f_36 gq_34 ?o202, hx_oi f_122 ?o203, hx_or f_41 gq_38 ?o204, hx_oi f_123 ?o205, hx_or f_51 gq_43 ?o206, hx_or f_56 gq_53 ?o207, hx_oi f_124 ?o208, hx_or f_60 gq_58 ?o209, hx_oi f_125 ?o210, hx_or f_80 gq_62 ?o211, hx_or f_84 gq_82 ?o212, hx_or f_88 gq_86 ?o213, hx_or f_97 gq_90 ?o214, hx_or f_107 gq_99 ?o215, hx_or f_120 gq_109 ?o216, trivial⟩
  case o197 => decide
  case o198 => decide
  case o199 => decide
  case o200 => decide
  case o201 => decide
  case o202 => decide
  case o203 => decide
  case o204 => decide
  case o205 => decide
  case o206 => decide
  case o207 => decide
  case o208 => decide
  case o209 => decide
  case o210 => decide
  case o211 => decide
  case o212 => decide
  case o213 => decide
  case o214 => decide
  case o215 => decide
  case o216 => decide
  have hT := hx_T_rt hT gx tt_9 rfl (hx_F_all hF)
  have hW := hx_W_rt hW gx tt_125 tt_9 (fun _ _ => rfl)
  have hM := hx_SX_rt (x := x) (t := 9) hM
  have gq_2 := hx_rt_o (t := 9) gq_2 (gq_2.ne gx ?o217)
  case o217 => decide
  have gq_7 := hx_rt_o (t := 9) gq_7 (gq_7.ne gx ?o218)
  case o218 => decide
  have gq_16 := hx_rt_o (t := 9) gq_16 (gq_16.ne gx ?o219)
  case o219 => decide
  have gq_27 := hx_rt_o (t := 9) gq_27 (gq_27.ne gx ?o220)
  case o220 => decide
  have gq_29 := hx_rt_o (t := 9) gq_29 (gq_29.ne gx ?o221)
  case o221 => decide
  have gq_34 := hx_rt_o (t := 9) gq_34 (gq_34.ne gx ?o222)
  case o222 => decide
  have gq_38 := hx_rt_o (t := 9) gq_38 (gq_38.ne gx ?o223)
  case o223 => decide
  have gq_43 := hx_rt_o (t := 9) gq_43 (gq_43.ne gx ?o224)
  case o224 => decide
  have gq_53 := hx_rt_o (t := 9) gq_53 (gq_53.ne gx ?o225)
  case o225 => decide
  have gq_58 := hx_rt_o (t := 9) gq_58 (gq_58.ne gx ?o226)
  case o226 => decide
  have gq_62 := hx_rt_o (t := 9) gq_62 (gq_62.ne gx ?o227)
  case o227 => decide
  have gq_74 := hx_rt_o (t := 9) gq_74 (gq_74.ne gx ?o228)
  case o228 => decide
  have gq_75 := hx_rt_o (t := 9) gq_75 (gq_75.ne gx ?o229)
  case o229 => decide
  have gq_76 := hx_rt_o (t := 9) gq_76 (gq_76.ne gx ?o230)
  case o230 => decide
  have gq_77 := hx_rt_o (t := 9) gq_77 (gq_77.ne gx ?o231)
  case o231 => decide
  have gq_78 := hx_rt_o (t := 9) gq_78 (gq_78.ne gx ?o232)
  case o232 => decide
  have gq_82 := hx_rt_o (t := 9) gq_82 (gq_82.ne gx ?o233)
  case o233 => decide
  have gq_86 := hx_rt_o (t := 9) gq_86 (gq_86.ne gx ?o234)
  case o234 => decide
  have gq_90 := hx_rt_o (t := 9) gq_90 (gq_90.ne gx ?o235)
  case o235 => decide
  have gq_99 := hx_rt_o (t := 9) gq_99 (gq_99.ne gx ?o236)
  case o236 => decide
  have gq_109 := hx_rt_o (t := 9) gq_109 (gq_109.ne gx ?o237)
  case o237 => decide
  have gq_118 := hx_rt_o (t := 9) gq_118 (gq_118.ne gx ?o238)
  case o238 => decide
  have gx := hx_rt_g (t := 9) gx
  have f_5 : (hx_rt h_119 x 9).2.2 x 0 = some q_2 := f_5
  have f_14 : (hx_rt h_119 x 9).2.2 x 3 = some q_7 := f_14
  have po_22 : (hx_rt h_119 x 9).2.1 q_16 0 = (-1 : Int32) := po_22
  have po_23 : (hx_rt h_119 x 9).2.1 q_16 1 = (-1 : Int32) := po_23
  have po_24 : (hx_rt h_119 x 9).2.1 q_16 4 = (3 : Int32) := po_24
  have fq_27 : (hx_rt h_119 x 9).2.2 q_16 2 = some q_27 := fq_27
  have fq_29 : (hx_rt h_119 x 9).2.2 q_16 3 = some q_29 := fq_29
  have f_32 : (hx_rt h_119 x 9).2.2 x 4 = some q_16 := f_32
  have f_36 : (hx_rt h_119 x 9).2.2 x 5 = some q_34 := f_36
  have f_41 : (hx_rt h_119 x 9).2.2 x 7 = some q_38 := f_41
  have po_49 : (hx_rt h_119 x 9).2.1 q_43 0 = (0 : Int32) := po_49
  have f_51 : (hx_rt h_119 x 9).2.2 x 9 = some q_43 := f_51
  have f_56 : (hx_rt h_119 x 9).2.2 x 10 = some q_53 := f_56
  have f_60 : (hx_rt h_119 x 9).2.2 x 12 = some q_58 := f_60
  have po_68 : (hx_rt h_119 x 9).2.1 q_62 0 = (0 : Int32) := po_68
  have fq_74 : (hx_rt h_119 x 9).2.2 q_62 2 = some q_74 := fq_74
  have fq_75 : (hx_rt h_119 x 9).2.2 q_62 3 = some q_75 := fq_75
  have fq_76 : (hx_rt h_119 x 9).2.2 q_62 5 = some q_76 := fq_76
  have fq_77 : (hx_rt h_119 x 9).2.2 q_62 4 = some q_77 := fq_77
  have fq_78 : (hx_rt h_119 x 9).2.2 q_62 1 = some q_78 := fq_78
  have f_80 : (hx_rt h_119 x 9).2.2 x 14 = some q_62 := f_80
  have f_84 : (hx_rt h_119 x 9).2.2 x 15 = some q_82 := f_84
  have f_88 : (hx_rt h_119 x 9).2.2 x 16 = some q_86 := f_88
  have f_97 : (hx_rt h_119 x 9).2.2 x 17 = some q_90 := f_97
  have po_105 : (hx_rt h_119 x 9).2.1 q_99 0 = (-1 : Int32) := po_105
  have f_107 : (hx_rt h_119 x 9).2.2 x 18 = some q_99 := f_107
  have po_115 : (hx_rt h_119 x 9).2.1 q_109 0 = (0 : Int32) := po_115
  have po_116 : (hx_rt h_119 x 9).2.1 q_109 1 = (0 : Int32) := po_116
  have fq_118 : (hx_rt h_119 x 9).2.2 q_109 3 = some q_118 := fq_118
  have f_120 : (hx_rt h_119 x 9).2.2 x 19 = some q_109 := f_120
  have f_121 : (hx_rt h_119 x 9).2.1 x 2 = (0 : Int32) := f_121
  have f_122 : (hx_rt h_119 x 9).2.1 x 6 = (0 : Int32) := f_122
  have f_123 : (hx_rt h_119 x 9).2.1 x 8 = (0 : Int32) := f_123
  have f_124 : (hx_rt h_119 x 9).2.1 x 11 = (0 : Int32) := f_124
  have f_125 : (hx_rt h_119 x 9).2.1 x 13 = (0 : Int32) := f_125
  have f_126 : (hx_rt h_119 x 9).2.1 x 1 = (0 : Int32) := f_126
  have za_3 : ∀ j, (hx_rt h_119 x 9).2.1 q_2 j = 0 ∧ (hx_rt h_119 x 9).2.2 q_2 j = none := za_3
  have za_39 : ∀ j, (hx_rt h_119 x 9).2.1 q_38 j = 0 ∧ (hx_rt h_119 x 9).2.2 q_38 j = none := za_39
  have za_54 : ∀ j, (hx_rt h_119 x 9).2.1 q_53 j = 0 ∧ (hx_rt h_119 x 9).2.2 q_53 j = none := za_54
  have po_69 : ∀ j, (hx_rt h_119 x 9).2.1 q_74 j = 0 ∧ (hx_rt h_119 x 9).2.2 q_74 j = none := po_69
  have po_70 : ∀ j, (hx_rt h_119 x 9).2.1 q_75 j = 0 ∧ (hx_rt h_119 x 9).2.2 q_75 j = none := po_70
  have po_71 : ∀ j, (hx_rt h_119 x 9).2.1 q_76 j = 0 ∧ (hx_rt h_119 x 9).2.2 q_76 j = none := po_71
  have po_72 : ∀ j, (hx_rt h_119 x 9).2.1 q_77 j = 0 ∧ (hx_rt h_119 x 9).2.2 q_77 j = none := po_72
  have po_73 : ∀ j, (hx_rt h_119 x 9).2.1 q_78 j = 0 ∧ (hx_rt h_119 x 9).2.2 q_78 j = none := po_73
  have po_117 : ∀ j, (hx_rt h_119 x 9).2.1 q_118 j = 0 ∧ (hx_rt h_119 x 9).2.2 q_118 j = none := po_117
  have nfw_28 : (hx_rt h_119 x 9).2.1 q_27 = fw_28 := nfw_28
  have nfw_30 : (hx_rt h_119 x 9).2.1 q_29 = fw_30 := nfw_30
  generalize eh : hx_rt h_119 x 9 = h_127 at hT hW hM gx gq_2 gq_7 gq_16 gq_27 gq_29 gq_34 gq_38 gq_43 gq_53 gq_58 gq_62 gq_74 gq_75 gq_76 gq_77 gq_78 gq_82 gq_86 gq_90 gq_99 gq_109 gq_118 f_5 f_14 po_22 po_23 po_24 fq_27 fq_29 f_32 f_36 f_41 po_49 f_51 f_56 f_60 po_68 fq_74 fq_75 fq_76 fq_77 fq_78 f_80 f_84 f_88 f_97 po_105 f_107 po_115 po_116 fq_118 f_120 f_121 f_122 f_123 f_124 f_125 f_126 za_3 za_39 za_54 po_69 po_70 po_71 po_72 po_73 po_117 nfw_28 nfw_30
  refine W.widen (k := 43) (n := 10614) (Nat.le_of_ble_eq_true rfl) (Nat.le_of_ble_eq_true rfl) ?_
  exact hx_retv hx hb hr hlk hW ⟨hT, hM, gx, f_121, f_122, f_123, f_124, f_125, ⟨q_109, f_120, gq_109, ⟨po_115, po_116, q_118, fq_118, gq_118, po_117⟩⟩, ⟨q_43, f_51, gq_43, po_49⟩, ⟨q_38, f_41, gq_38, za_39⟩, ⟨q_53, f_56, gq_53, za_54⟩, f_126, ⟨q_2, f_5, gq_2, za_3⟩, ⟨q_16, f_32, gq_16, ⟨by rw [po_22]; decide, by rw [po_23]; decide, fun t ht => by obtain rfl : q_27 = t := Option.some.inj (fq_27.symm.trans ht); rw [nfw_28]; exact hv_rC_0 po_25, fun p hp => by obtain rfl : q_29 = p := Option.some.inj (fq_29.symm.trans hp); rw [nfw_30, po_24, show (3 : Int32).toInt.toNat = 3 from by decide]; exact hv_o0_c po_26⟩⟩, ⟨q_62, f_80, gq_62, ⟨po_68, q_74, fq_74, gq_74, po_69, q_75, fq_75, gq_75, po_70, q_76, fq_76, gq_76, po_71, q_77, fq_77, gq_77, po_72, q_78, fq_78, gq_78, po_73⟩⟩, ⟨q_99, f_107, gq_99, po_105⟩⟩ dX9_init_144
