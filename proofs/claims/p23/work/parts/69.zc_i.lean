
set_option maxHeartbeats 4000000 in
set_option maxRecDepth 100000 in
theorem t_X3_init_p (l : Launch) (dC : Nat → ClassId) (dI : Nat → Nat → Nat) (dA : Nat → ClassId) (L : List Nat) (h : hx_h) (sz : Nat) (x : Nat) (hT : hx_T T_tb L h) (gx : hx_g L h x 119) (hz : ∀ j, h.2.1 x j = 0 ∧ h.2.2 x j = none) : Met l yX3_init (Cond.code yX3_init cX3_init 1 none :: hx_all) ({ frames := 1, cells := 5, slots := 3000, locals := 12 }) (va_Pc [.ref x] (hx_B T_tb (P_ty dA) (dC, dI) vwCl L h sz)) (va_Qv (fun (u : List Nat × hx_h) => hx_T T_tb u.1 u.2 ∧ hx_S T_tb [(119, 1), (119, 2), (119, 3), (119, 4), (119, 5)] (hx_X L x) h u.1 u.2 ∧ hx_g u.1 u.2 x 3 ∧ u.2.2.1 x 0 = 0 ∧ (∃ q, u.2.2.2 x 2 = some q ∧ hx_g u.1 u.2 q 23 ∧ ∀ j, u.2.2.1 q j = 0 ∧ u.2.2.2 q j = none) ∧ (∃ q, u.2.2.2 x 3 = some q ∧ hx_g u.1 u.2 q 24 ∧ ∀ j, u.2.2.1 q j = 0 ∧ u.2.2.2 q j = none) ∧ (∃ q, u.2.2.2 x 5 = some q ∧ hx_g u.1 u.2 q 26 ∧ ∀ j, u.2.2.1 q j = 0 ∧ u.2.2.2 q j = none) ∧ (∃ q, u.2.2.2 x 4 = some q ∧ hx_g u.1 u.2 q 25 ∧ ∀ j, u.2.2.1 q j = 0 ∧ u.2.2.2 q j = none) ∧ (∃ q, u.2.2.2 x 1 = some q ∧ hx_g u.1 u.2 q 22 ∧ ∀ j, u.2.2.1 q j = 0 ∧ u.2.2.2 q j = none)) (hx_E T_tb (P_ty dA) (dC, dI) vwCl (hx_A L sz)) (hx_A L sz)) 5 3000 (hx_A L sz) := by
  refine hx_met (lv := [(0, .ref x)]) (by decide +kernel) rfl (Nat.le_of_ble_eq_true rfl) rfl ?_
  intro p e s m below meth c hx hb hml hr hlk hts0 hown hin hsz hW ls hl
  have hts : ∀ w ∈ hx_all, w.before _ s = true := fun w hw => hts0 w (List.mem_cons_of_mem _ hw)
  have hown : s.vm.findClass "SmallCourt$Payments" = some m.cls := hown
  have hin : meth.name = "<init>" := hin
  have hM : hx_S T_tb [(119, 1), (119, 2), (119, 3), (119, 4), (119, 5)] (hx_X L x) h L h := hx_SX_rf
  have hz : ∀ j, ([] : List Nat).contains j = false → h.2.1 x j = 0 ∧ h.2.2 x j = none := fun j _ => hz j
  refine lv_aload_n hx hb dX3_init_0 rfl (lv_at hl 0 rfl) ?_
  refine W.objInit hx hb hown (hts _ kw_230) (hts _ kw_117) (hts _ kw_118) rfl (by rw [hml]; exact hl.1) rfl dX3_init_1 (Nat.le_of_ble_eq_true rfl) (Nat.le_of_ble_eq_true rfl) ?_
  refine W.eq (g2 := F0 m 4 ls []) rfl ?_
  refine lv_aload_n hx hb dX3_init_4 rfl (lv_at hl 0 rfl) ?_
  refine lv_sipush (v := 600) hx hb dX3_init_5 (by decide) ?_
  refine hk_newa hx hb hts hW 22 tt_22 (atype := .int) rfl kw_186 (tys := P_ty dA) (t0 := 0) rfl (fun _ => Iff.rfl) rfl (i := (600 : Int32)) (by decide) (Nat.le_of_ble_eq_true rfl) (Nat.le_of_ble_eq_true rfl) (Nat.le_of_ble_eq_true rfl) dX3_init_8 (fun q_2 H h_1 eh_1 hqq_2 hW hs gq_2 => ?_)
  have nq_q_2 : ∀ a ∈ (hx_X L x), a ≠ q_2 := fun a ha z => hqq_2 (z ▸ (hM.1 a ha).1)
  have hT : hx_T T_tb (L ++ [q_2]) h_1 := by rw [eh_1]; exact hx_T_nw hT hqq_2 tt_22 rfl
  replace hz := hx_zr [] hz hs gx trivial rfl
  replace hM := hM.tr (hs.mono (by decide))
  replace gx := gx.S hs
  have za_3 : ∀ j, h_1.2.1 q_2 j = 0 ∧ h_1.2.2 q_2 j = none := by rw [eh_1]; exact fun _ => ⟨hx_nw_i, hx_nw_r⟩
  refine hx_putrF hx hb hts hC_3 hown hW hT (hx_S.rf (M := [(119, 1)])) gx tt_119 1 (by decide) rfl kw_233 ⟨rfl, rfl, rfl⟩ rfl hin rfl (x := (some q_2)) ⟨fun _ z => (by cases z), fun q hq => (by cases hq; exact ⟨gq_2.1, by rw [gq_2.2]; decide⟩)⟩ rfl rfl rfl (List.mem_singleton.mpr rfl) dX3_init_10 (fun H locs h_4 eh_4 hW hT hs => ?_)
  replace hz := hx_zr [1] hz hs gx trivial rfl
  replace za_3 : ∀ j, h_4.2.1 q_2 j = 0 ∧ h_4.2.2 q_2 j = none := fun j => ⟨(hs.a gq_2 rfl j).1.trans (za_3 j).1, (hs.a gq_2 rfl j).2.trans (za_3 j).2⟩
  replace hM := hM.tr (hs.mono (by decide))
  replace gx := gx.S hs
  replace gq_2 := gq_2.S hs
  have f_5 : h_4.2.2 x 1 = (some q_2) := by rw [eh_4]; exact hx_pr_at _ _ _ _
  refine lv_aload_n hx hb dX3_init_13 rfl (lv_at hl 0 rfl) ?_
  refine lv_sipush (v := 600) hx hb dX3_init_14 (by decide) ?_
  refine hk_newa hx hb hts hW 23 tt_23 (atype := .int) rfl kw_186 (tys := P_ty dA) (t0 := 0) rfl (fun _ => Iff.rfl) rfl (i := (600 : Int32)) (by decide) (Nat.le_of_ble_eq_true rfl) (Nat.le_of_ble_eq_true rfl) (Nat.le_of_ble_eq_true rfl) dX3_init_17 (fun q_7 H h_6 eh_6 hqq_7 hW hs gq_7 => ?_)
  have nq_q_7 : ∀ a ∈ (hx_X L x), a ≠ q_7 := fun a ha z => hqq_7 (z ▸ (hM.1 a ha).1)
  have hT : hx_T T_tb ((L ++ [q_2]) ++ [q_7]) h_6 := by rw [eh_6]; exact hx_T_nw hT hqq_7 tt_23 rfl
  replace f_5 := (hs.o gx trivial rfl).2.trans f_5
  replace hz := hx_zr [1] hz hs gx trivial rfl
  replace za_3 : ∀ j, h_6.2.1 q_2 j = 0 ∧ h_6.2.2 q_2 j = none := fun j => ⟨(hs.a gq_2 rfl j).1.trans (za_3 j).1, (hs.a gq_2 rfl j).2.trans (za_3 j).2⟩
  replace hM := hM.tr (hs.mono (by decide))
  replace gx := gx.S hs
  replace gq_2 := gq_2.S hs
  have za_8 : ∀ j, h_6.2.1 q_7 j = 0 ∧ h_6.2.2 q_7 j = none := by rw [eh_6]; exact fun _ => ⟨hx_nw_i, hx_nw_r⟩
  refine hx_putrF hx hb hts hC_3 hown hW hT (hx_S.rf (M := [(119, 2)])) gx tt_119 2 (by decide) rfl kw_235 ⟨rfl, rfl, rfl⟩ rfl hin rfl (x := (some q_7)) ⟨fun _ z => (by cases z), fun q hq => (by cases hq; exact ⟨gq_7.1, by rw [gq_7.2]; decide⟩)⟩ rfl rfl rfl (List.mem_singleton.mpr rfl) dX3_init_19 (fun H locs h_9 eh_9 hW hT hs => ?_)
  replace f_5 := (hs.o gx trivial rfl).2.trans f_5
  replace hz := hx_zr [1, 2] hz hs gx trivial rfl
  replace za_3 : ∀ j, h_9.2.1 q_2 j = 0 ∧ h_9.2.2 q_2 j = none := fun j => ⟨(hs.a gq_2 rfl j).1.trans (za_3 j).1, (hs.a gq_2 rfl j).2.trans (za_3 j).2⟩
  replace za_8 : ∀ j, h_9.2.1 q_7 j = 0 ∧ h_9.2.2 q_7 j = none := fun j => ⟨(hs.a gq_7 rfl j).1.trans (za_8 j).1, (hs.a gq_7 rfl j).2.trans (za_8 j).2⟩
  replace hM := hM.tr (hs.mono (by decide))
  replace gx := gx.S hs
  replace gq_2 := gq_2.S hs
  replace gq_7 := gq_7.S hs
  have f_10 : h_9.2.2 x 2 = (some q_7) := by rw [eh_9]; exact hx_pr_at _ _ _ _
  refine lv_aload_n hx hb dX3_init_22 rfl (lv_at hl 0 rfl) ?_
  refine lv_sipush (v := 600) hx hb dX3_init_23 (by decide) ?_
  refine hk_newa hx hb hts hW 24 tt_24 (atype := .int) rfl kw_186 (tys := P_ty dA) (t0 := 0) rfl (fun _ => Iff.rfl) rfl (i := (600 : Int32)) (by decide) (Nat.le_of_ble_eq_true rfl) (Nat.le_of_ble_eq_true rfl) (Nat.le_of_ble_eq_true rfl) dX3_init_26 (fun q_12 H h_11 eh_11 hqq_12 hW hs gq_12 => ?_)
  have nq_q_12 : ∀ a ∈ (hx_X L x), a ≠ q_12 := fun a ha z => hqq_12 (z ▸ (hM.1 a ha).1)
  have hT : hx_T T_tb (((L ++ [q_2]) ++ [q_7]) ++ [q_12]) h_11 := by rw [eh_11]; exact hx_T_nw hT hqq_12 tt_24 rfl
  replace f_5 := (hs.o gx trivial rfl).2.trans f_5
  replace f_10 := (hs.o gx trivial rfl).2.trans f_10
  replace hz := hx_zr [1, 2] hz hs gx trivial rfl
  replace za_3 : ∀ j, h_11.2.1 q_2 j = 0 ∧ h_11.2.2 q_2 j = none := fun j => ⟨(hs.a gq_2 rfl j).1.trans (za_3 j).1, (hs.a gq_2 rfl j).2.trans (za_3 j).2⟩
  replace za_8 : ∀ j, h_11.2.1 q_7 j = 0 ∧ h_11.2.2 q_7 j = none := fun j => ⟨(hs.a gq_7 rfl j).1.trans (za_8 j).1, (hs.a gq_7 rfl j).2.trans (za_8 j).2⟩
  replace hM := hM.tr (hs.mono (by decide))
  replace gx := gx.S hs
  replace gq_2 := gq_2.S hs
  replace gq_7 := gq_7.S hs
  have za_13 : ∀ j, h_11.2.1 q_12 j = 0 ∧ h_11.2.2 q_12 j = none := by rw [eh_11]; exact fun _ => ⟨hx_nw_i, hx_nw_r⟩
  refine hx_putrF hx hb hts hC_3 hown hW hT (hx_S.rf (M := [(119, 3)])) gx tt_119 3 (by decide) rfl kw_236 ⟨rfl, rfl, rfl⟩ rfl hin rfl (x := (some q_12)) ⟨fun _ z => (by cases z), fun q hq => (by cases hq; exact ⟨gq_12.1, by rw [gq_12.2]; decide⟩)⟩ rfl rfl rfl (List.mem_singleton.mpr rfl) dX3_init_28 (fun H locs h_14 eh_14 hW hT hs => ?_)
  replace f_5 := (hs.o gx trivial rfl).2.trans f_5
  replace f_10 := (hs.o gx trivial rfl).2.trans f_10
  replace hz := hx_zr [1, 2, 3] hz hs gx trivial rfl
  replace za_3 : ∀ j, h_14.2.1 q_2 j = 0 ∧ h_14.2.2 q_2 j = none := fun j => ⟨(hs.a gq_2 rfl j).1.trans (za_3 j).1, (hs.a gq_2 rfl j).2.trans (za_3 j).2⟩
  replace za_8 : ∀ j, h_14.2.1 q_7 j = 0 ∧ h_14.2.2 q_7 j = none := fun j => ⟨(hs.a gq_7 rfl j).1.trans (za_8 j).1, (hs.a gq_7 rfl j).2.trans (za_8 j).2⟩
  replace za_13 : ∀ j, h_14.2.1 q_12 j = 0 ∧ h_14.2.2 q_12 j = none := fun j => ⟨(hs.a gq_12 rfl j).1.trans (za_13 j).1, (hs.a gq_12 rfl j).2.trans (za_13 j).2⟩
  replace hM := hM.tr (hs.mono (by decide))
  replace gx := gx.S hs
  replace gq_2 := gq_2.S hs
  replace gq_7 := gq_7.S hs
  replace gq_12 := gq_12.S hs
  have f_15 : h_14.2.2 x 3 = (some q_12) := by rw [eh_14]; exact hx_pr_at _ _ _ _
  refine lv_aload_n hx hb dX3_init_31 rfl (lv_at hl 0 rfl) ?_
  refine lv_sipush (v := 600) hx hb dX3_init_32 (by decide) ?_
  refine hk_newa hx hb hts hW 25 tt_25 (atype := .int) rfl kw_186 (tys := P_ty dA) (t0 := 0) rfl (fun _ => Iff.rfl) rfl (i := (600 : Int32)) (by decide) (Nat.le_of_ble_eq_true rfl) (Nat.le_of_ble_eq_true rfl) (Nat.le_of_ble_eq_true rfl) dX3_init_35 (fun q_17 H h_16 eh_16 hqq_17 hW hs gq_17 => ?_)
  have nq_q_17 : ∀ a ∈ (hx_X L x), a ≠ q_17 := fun a ha z => hqq_17 (z ▸ (hM.1 a ha).1)
  have hT : hx_T T_tb ((((L ++ [q_2]) ++ [q_7]) ++ [q_12]) ++ [q_17]) h_16 := by rw [eh_16]; exact hx_T_nw hT hqq_17 tt_25 rfl
  replace f_5 := (hs.o gx trivial rfl).2.trans f_5
  replace f_10 := (hs.o gx trivial rfl).2.trans f_10
  replace f_15 := (hs.o gx trivial rfl).2.trans f_15
  replace hz := hx_zr [1, 2, 3] hz hs gx trivial rfl
  replace za_3 : ∀ j, h_16.2.1 q_2 j = 0 ∧ h_16.2.2 q_2 j = none := fun j => ⟨(hs.a gq_2 rfl j).1.trans (za_3 j).1, (hs.a gq_2 rfl j).2.trans (za_3 j).2⟩
  replace za_8 : ∀ j, h_16.2.1 q_7 j = 0 ∧ h_16.2.2 q_7 j = none := fun j => ⟨(hs.a gq_7 rfl j).1.trans (za_8 j).1, (hs.a gq_7 rfl j).2.trans (za_8 j).2⟩
  replace za_13 : ∀ j, h_16.2.1 q_12 j = 0 ∧ h_16.2.2 q_12 j = none := fun j => ⟨(hs.a gq_12 rfl j).1.trans (za_13 j).1, (hs.a gq_12 rfl j).2.trans (za_13 j).2⟩
  replace hM := hM.tr (hs.mono (by decide))
  replace gx := gx.S hs
  replace gq_2 := gq_2.S hs
  replace gq_7 := gq_7.S hs
  replace gq_12 := gq_12.S hs
  have za_18 : ∀ j, h_16.2.1 q_17 j = 0 ∧ h_16.2.2 q_17 j = none := by rw [eh_16]; exact fun _ => ⟨hx_nw_i, hx_nw_r⟩
  refine hx_putrF hx hb hts hC_3 hown hW hT (hx_S.rf (M := [(119, 4)])) gx tt_119 4 (by decide) rfl kw_237 ⟨rfl, rfl, rfl⟩ rfl hin rfl (x := (some q_17)) ⟨fun _ z => (by cases z), fun q hq => (by cases hq; exact ⟨gq_17.1, by rw [gq_17.2]; decide⟩)⟩ rfl rfl rfl (List.mem_singleton.mpr rfl) dX3_init_37 (fun H locs h_19 eh_19 hW hT hs => ?_)
  replace f_5 := (hs.o gx trivial rfl).2.trans f_5
  replace f_10 := (hs.o gx trivial rfl).2.trans f_10
  replace f_15 := (hs.o gx trivial rfl).2.trans f_15
  replace hz := hx_zr [1, 2, 3, 4] hz hs gx trivial rfl
  replace za_3 : ∀ j, h_19.2.1 q_2 j = 0 ∧ h_19.2.2 q_2 j = none := fun j => ⟨(hs.a gq_2 rfl j).1.trans (za_3 j).1, (hs.a gq_2 rfl j).2.trans (za_3 j).2⟩
  replace za_8 : ∀ j, h_19.2.1 q_7 j = 0 ∧ h_19.2.2 q_7 j = none := fun j => ⟨(hs.a gq_7 rfl j).1.trans (za_8 j).1, (hs.a gq_7 rfl j).2.trans (za_8 j).2⟩
  replace za_13 : ∀ j, h_19.2.1 q_12 j = 0 ∧ h_19.2.2 q_12 j = none := fun j => ⟨(hs.a gq_12 rfl j).1.trans (za_13 j).1, (hs.a gq_12 rfl j).2.trans (za_13 j).2⟩
  replace za_18 : ∀ j, h_19.2.1 q_17 j = 0 ∧ h_19.2.2 q_17 j = none := fun j => ⟨(hs.a gq_17 rfl j).1.trans (za_18 j).1, (hs.a gq_17 rfl j).2.trans (za_18 j).2⟩
  replace hM := hM.tr (hs.mono (by decide))
  replace gx := gx.S hs
  replace gq_2 := gq_2.S hs
  replace gq_7 := gq_7.S hs
  replace gq_12 := gq_12.S hs
  replace gq_17 := gq_17.S hs
  have f_20 : h_19.2.2 x 4 = (some q_17) := by rw [eh_19]; exact hx_pr_at _ _ _ _
  refine lv_aload_n hx hb dX3_init_40 rfl (lv_at hl 0 rfl) ?_
  refine lv_sipush (v := 600) hx hb dX3_init_41 (by decide) ?_
  refine hk_newa hx hb hts hW 26 tt_26 (atype := .int) rfl kw_186 (tys := P_ty dA) (t0 := 0) rfl (fun _ => Iff.rfl) rfl (i := (600 : Int32)) (by decide) (Nat.le_of_ble_eq_true rfl) (Nat.le_of_ble_eq_true rfl) (Nat.le_of_ble_eq_true rfl) dX3_init_44 (fun q_22 H h_21 eh_21 hqq_22 hW hs gq_22 => ?_)
  have nq_q_22 : ∀ a ∈ (hx_X L x), a ≠ q_22 := fun a ha z => hqq_22 (z ▸ (hM.1 a ha).1)
  have hT : hx_T T_tb (((((L ++ [q_2]) ++ [q_7]) ++ [q_12]) ++ [q_17]) ++ [q_22]) h_21 := by rw [eh_21]; exact hx_T_nw hT hqq_22 tt_26 rfl
  replace f_5 := (hs.o gx trivial rfl).2.trans f_5
  replace f_10 := (hs.o gx trivial rfl).2.trans f_10
  replace f_15 := (hs.o gx trivial rfl).2.trans f_15
  replace f_20 := (hs.o gx trivial rfl).2.trans f_20
  replace hz := hx_zr [1, 2, 3, 4] hz hs gx trivial rfl
  replace za_3 : ∀ j, h_21.2.1 q_2 j = 0 ∧ h_21.2.2 q_2 j = none := fun j => ⟨(hs.a gq_2 rfl j).1.trans (za_3 j).1, (hs.a gq_2 rfl j).2.trans (za_3 j).2⟩
  replace za_8 : ∀ j, h_21.2.1 q_7 j = 0 ∧ h_21.2.2 q_7 j = none := fun j => ⟨(hs.a gq_7 rfl j).1.trans (za_8 j).1, (hs.a gq_7 rfl j).2.trans (za_8 j).2⟩
  replace za_13 : ∀ j, h_21.2.1 q_12 j = 0 ∧ h_21.2.2 q_12 j = none := fun j => ⟨(hs.a gq_12 rfl j).1.trans (za_13 j).1, (hs.a gq_12 rfl j).2.trans (za_13 j).2⟩
  replace za_18 : ∀ j, h_21.2.1 q_17 j = 0 ∧ h_21.2.2 q_17 j = none := fun j => ⟨(hs.a gq_17 rfl j).1.trans (za_18 j).1, (hs.a gq_17 rfl j).2.trans (za_18 j).2⟩
  replace hM := hM.tr (hs.mono (by decide))
  replace gx := gx.S hs
  replace gq_2 := gq_2.S hs
  replace gq_7 := gq_7.S hs
  replace gq_12 := gq_12.S hs
  replace gq_17 := gq_17.S hs
  have za_23 : ∀ j, h_21.2.1 q_22 j = 0 ∧ h_21.2.2 q_22 j = none := by rw [eh_21]; exact fun _ => ⟨hx_nw_i, hx_nw_r⟩
  refine hx_putrF hx hb hts hC_3 hown hW hT (hx_S.rf (M := [(119, 5)])) gx tt_119 5 (by decide) rfl kw_238 ⟨rfl, rfl, rfl⟩ rfl hin rfl (x := (some q_22)) ⟨fun _ z => (by cases z), fun q hq => (by cases hq; exact ⟨gq_22.1, by rw [gq_22.2]; decide⟩)⟩ rfl rfl rfl (List.mem_singleton.mpr rfl) dX3_init_46 (fun H locs h_24 eh_24 hW hT hs => ?_)
  replace f_5 := (hs.o gx trivial rfl).2.trans f_5
  replace f_10 := (hs.o gx trivial rfl).2.trans f_10
  replace f_15 := (hs.o gx trivial rfl).2.trans f_15
  replace f_20 := (hs.o gx trivial rfl).2.trans f_20
  replace hz := hx_zr [1, 2, 3, 4, 5] hz hs gx trivial rfl
  replace za_3 : ∀ j, h_24.2.1 q_2 j = 0 ∧ h_24.2.2 q_2 j = none := fun j => ⟨(hs.a gq_2 rfl j).1.trans (za_3 j).1, (hs.a gq_2 rfl j).2.trans (za_3 j).2⟩
  replace za_8 : ∀ j, h_24.2.1 q_7 j = 0 ∧ h_24.2.2 q_7 j = none := fun j => ⟨(hs.a gq_7 rfl j).1.trans (za_8 j).1, (hs.a gq_7 rfl j).2.trans (za_8 j).2⟩
  replace za_13 : ∀ j, h_24.2.1 q_12 j = 0 ∧ h_24.2.2 q_12 j = none := fun j => ⟨(hs.a gq_12 rfl j).1.trans (za_13 j).1, (hs.a gq_12 rfl j).2.trans (za_13 j).2⟩
  replace za_18 : ∀ j, h_24.2.1 q_17 j = 0 ∧ h_24.2.2 q_17 j = none := fun j => ⟨(hs.a gq_17 rfl j).1.trans (za_18 j).1, (hs.a gq_17 rfl j).2.trans (za_18 j).2⟩
  replace za_23 : ∀ j, h_24.2.1 q_22 j = 0 ∧ h_24.2.2 q_22 j = none := fun j => ⟨(hs.a gq_22 rfl j).1.trans (za_23 j).1, (hs.a gq_22 rfl j).2.trans (za_23 j).2⟩
  replace hM := hM.tr (hs.mono (by decide))
  replace gx := gx.S hs
  replace gq_2 := gq_2.S hs
  replace gq_7 := gq_7.S hs
  replace gq_12 := gq_12.S hs
  replace gq_17 := gq_17.S hs
  replace gq_22 := gq_22.S hs
  have f_25 : h_24.2.2 x 5 = (some q_22) := by rw [eh_24]; exact hx_pr_at _ _ _ _
  have f_26 : h_24.2.1 x 0 = 0 := (hz 0 rfl).1
  have hF : hx_F (fun k f => hx_o (((((L ++ [q_2]) ++ [q_7]) ++ [q_12]) ++ [q_17]) ++ [q_22]) h_24 f (h_24.2.1 x k) (h_24.2.2 x k)) T_f3 0 := ⟨hx_oi f_26 (by decide), hx_or f_5 gq_2 (by decide), hx_or f_10 gq_7 (by decide), hx_or f_15 gq_12 (by decide), hx_or f_20 gq_17 (by decide), hx_or f_25 gq_22 (by decide), trivial⟩
  have hT := hx_T_rt hT gx tt_3 rfl (hx_F_all hF)
  have hW := hx_W_rt hW gx tt_119 tt_3 (fun _ _ => rfl)
  have hM := hx_SX_rt (x := x) (t := 3) hM
  have gq_2 := hx_rt_o (t := 3) gq_2 (gq_2.ne gx (by decide))
  have gq_7 := hx_rt_o (t := 3) gq_7 (gq_7.ne gx (by decide))
  have gq_12 := hx_rt_o (t := 3) gq_12 (gq_12.ne gx (by decide))
  have gq_17 := hx_rt_o (t := 3) gq_17 (gq_17.ne gx (by decide))
  have gq_22 := hx_rt_o (t := 3) gq_22 (gq_22.ne gx (by decide))
  have gx := hx_rt_g (t := 3) gx
  have f_5 : (hx_rt h_24 x 3).2.2 x 1 = some q_2 := f_5
  have f_10 : (hx_rt h_24 x 3).2.2 x 2 = some q_7 := f_10
  have f_15 : (hx_rt h_24 x 3).2.2 x 3 = some q_12 := f_15
  have f_20 : (hx_rt h_24 x 3).2.2 x 4 = some q_17 := f_20
  have f_25 : (hx_rt h_24 x 3).2.2 x 5 = some q_22 := f_25
  have f_26 : (hx_rt h_24 x 3).2.1 x 0 = (0 : Int32) := f_26
  have za_3 : ∀ j, (hx_rt h_24 x 3).2.1 q_2 j = 0 ∧ (hx_rt h_24 x 3).2.2 q_2 j = none := za_3
  have za_8 : ∀ j, (hx_rt h_24 x 3).2.1 q_7 j = 0 ∧ (hx_rt h_24 x 3).2.2 q_7 j = none := za_8
  have za_13 : ∀ j, (hx_rt h_24 x 3).2.1 q_12 j = 0 ∧ (hx_rt h_24 x 3).2.2 q_12 j = none := za_13
  have za_18 : ∀ j, (hx_rt h_24 x 3).2.1 q_17 j = 0 ∧ (hx_rt h_24 x 3).2.2 q_17 j = none := za_18
  have za_23 : ∀ j, (hx_rt h_24 x 3).2.1 q_22 j = 0 ∧ (hx_rt h_24 x 3).2.2 q_22 j = none := za_23
  generalize eh : hx_rt h_24 x 3 = h_27 at hT hW hM gx gq_2 gq_7 gq_12 gq_17 gq_22 f_5 f_10 f_15 f_20 f_25 f_26 za_3 za_8 za_13 za_18 za_23
  refine W.widen (k := 5) (n := 3000) (Nat.le_of_ble_eq_true rfl) (Nat.le_of_ble_eq_true rfl) ?_
  exact hx_retv hx hb hr hlk hW ⟨hT, hM, gx, f_26, ⟨q_7, f_10, gq_7, za_8⟩, ⟨q_12, f_15, gq_12, za_13⟩, ⟨q_22, f_25, gq_22, za_23⟩, ⟨q_17, f_20, gq_17, za_18⟩, ⟨q_2, f_5, gq_2, za_3⟩⟩ dX3_init_49


set_option maxHeartbeats 4000000 in
set_option maxRecDepth 100000 in
theorem t_X7_init_p (l : Launch) (dC : Nat → ClassId) (dI : Nat → Nat → Nat) (dA : Nat → ClassId) (L : List Nat) (h : hx_h) (sz : Nat) (x : Nat) (hT : hx_T T_tb L h) (gx : hx_g L h x 123) (hz : ∀ j, h.2.1 x j = 0 ∧ h.2.2 x j = none) : Met l yX7_init (Cond.code yX7_init cX7_init 1 none :: hx_all) ({ frames := 1, cells := 4, slots := 1708, locals := 12 }) (va_Pc [.ref x] (hx_B T_tb (P_ty dA) (dC, dI) vwCl L h sz)) (va_Qv (fun (u : List Nat × hx_h) => hx_T T_tb u.1 u.2 ∧ hx_S T_tb [(123, 0), (123, 3), (123, 5), (123, 6), (123, 7)] (hx_X L x) h u.1 u.2 ∧ hx_g u.1 u.2 x 7 ∧ u.2.2.1 x 0 = -1) (hx_E T_tb (P_ty dA) (dC, dI) vwCl (hx_A L sz)) (hx_A L sz)) 4 1708 (hx_A L sz) := by
  refine hx_met (lv := [(0, .ref x)]) (by decide +kernel) rfl (Nat.le_of_ble_eq_true rfl) rfl ?_
  intro p e s m below meth c hx hb hml hr hlk hts0 hown hin hsz hW ls hl
  have hts : ∀ w ∈ hx_all, w.before _ s = true := fun w hw => hts0 w (List.mem_cons_of_mem _ hw)
  have hown : s.vm.findClass "SmallCourt$Rings" = some m.cls := hown
  have hin : meth.name = "<init>" := hin
  have hM : hx_S T_tb [(123, 0), (123, 3), (123, 5), (123, 6), (123, 7)] (hx_X L x) h L h := hx_SX_rf
  have hz : ∀ j, ([] : List Nat).contains j = false → h.2.1 x j = 0 ∧ h.2.2 x j = none := fun j _ => hz j
  refine lv_aload_n hx hb dX7_init_0 rfl (lv_at hl 0 rfl) ?_
  refine W.objInit hx hb hown (hts _ kw_308) (hts _ kw_117) (hts _ kw_118) rfl (by rw [hml]; exact hl.1) rfl dX7_init_1 (Nat.le_of_ble_eq_true rfl) (Nat.le_of_ble_eq_true rfl) ?_
  refine W.eq (g2 := F0 m 4 ls []) rfl ?_
  refine lv_aload_n hx hb dX7_init_4 rfl (lv_at hl 0 rfl) ?_
  refine lv_iconst (v := -1) hx hb dX7_init_5 (by decide) ?_
  refine hx_puti hx hb hts hC_7 hown hW hT (hx_S.rf (M := [(123, 0)])) gx tt_123 0 (by decide) rfl kw_309 ⟨rfl, rfl, rfl⟩ rfl (x := (-1 : Int32)) (by decide) rfl rfl rfl (List.mem_singleton.mpr rfl) dX7_init_6 (fun H locs h_1 eh_1 hW hT hs => ?_)
  replace hz := hx_zr [0] hz hs gx trivial rfl
  replace hM := hM.tr (hs.mono (by decide))
  replace gx := gx.S hs
  have f_2 : h_1.2.1 x 0 = (-1 : Int32) := by rw [eh_1]; exact hx_pi_at _ _ _ _
  refine lv_aload_n hx hb dX7_init_9 rfl (lv_at hl 0 rfl) ?_
  refine lv_bipush (v := 100) hx hb dX7_init_10 (by decide) ?_
  refine hk_newa hx hb hts hW 35 tt_35 (atype := .int) rfl kw_186 (tys := P_ty dA) (t0 := 0) rfl (fun _ => Iff.rfl) rfl (i := (100 : Int32)) (by decide) (Nat.le_of_ble_eq_true rfl) (Nat.le_of_ble_eq_true rfl) (Nat.le_of_ble_eq_true rfl) dX7_init_12 (fun q_4 H h_3 eh_3 hqq_4 hW hs gq_4 => ?_)
  have nq_q_4 : ∀ a ∈ (hx_X L x), a ≠ q_4 := fun a ha z => hqq_4 (z ▸ (hM.1 a ha).1)
  have hT : hx_T T_tb (L ++ [q_4]) h_3 := by rw [eh_3]; exact hx_T_nw hT hqq_4 tt_35 rfl
  replace f_2 := (hs.o gx trivial rfl).1.trans f_2
  replace hz := hx_zr [0] hz hs gx trivial rfl
  replace hM := hM.tr (hs.mono (by decide))
  replace gx := gx.S hs
  refine hx_putrF hx hb hts hC_7 hown hW hT (hx_S.rf (M := [(123, 3)])) gx tt_123 3 (by decide) rfl kw_315 ⟨rfl, rfl, rfl⟩ rfl hin rfl (x := (some q_4)) ⟨fun _ z => (by cases z), fun q hq => (by cases hq; exact ⟨gq_4.1, by rw [gq_4.2]; decide⟩)⟩ rfl rfl rfl (List.mem_singleton.mpr rfl) dX7_init_14 (fun H locs h_5 eh_5 hW hT hs => ?_)
  replace f_2 := (hs.o gx trivial rfl).1.trans f_2
  replace hz := hx_zr [0, 3] hz hs gx trivial rfl
  replace hM := hM.tr (hs.mono (by decide))
  replace gx := gx.S hs
  replace gq_4 := gq_4.S hs
  have f_6 : h_5.2.2 x 3 = (some q_4) := by rw [eh_5]; exact hx_pr_at _ _ _ _
  refine lv_aload_n hx hb dX7_init_17 rfl (lv_at hl 0 rfl) ?_
  refine lv_sipush (v := 1600) hx hb dX7_init_18 (by decide) ?_
  refine hk_newa hx hb hts hW 36 tt_36 (atype := .int) rfl kw_186 (tys := P_ty dA) (t0 := 0) rfl (fun _ => Iff.rfl) rfl (i := (1600 : Int32)) (by decide) (Nat.le_of_ble_eq_true rfl) (Nat.le_of_ble_eq_true rfl) (Nat.le_of_ble_eq_true rfl) dX7_init_21 (fun q_8 H h_7 eh_7 hqq_8 hW hs gq_8 => ?_)
  have nq_q_8 : ∀ a ∈ (hx_X L x), a ≠ q_8 := fun a ha z => hqq_8 (z ▸ (hM.1 a ha).1)
  have hT : hx_T T_tb ((L ++ [q_4]) ++ [q_8]) h_7 := by rw [eh_7]; exact hx_T_nw hT hqq_8 tt_36 rfl
  replace f_2 := (hs.o gx trivial rfl).1.trans f_2
  replace f_6 := (hs.o gx trivial rfl).2.trans f_6
  replace hz := hx_zr [0, 3] hz hs gx trivial rfl
  replace hM := hM.tr (hs.mono (by decide))
  replace gx := gx.S hs
  replace gq_4 := gq_4.S hs
  refine hx_putrF hx hb hts hC_7 hown hW hT (hx_S.rf (M := [(123, 5)])) gx tt_123 5 (by decide) rfl kw_318 ⟨rfl, rfl, rfl⟩ rfl hin rfl (x := (some q_8)) ⟨fun _ z => (by cases z), fun q hq => (by cases hq; exact ⟨gq_8.1, by rw [gq_8.2]; decide⟩)⟩ rfl rfl rfl (List.mem_singleton.mpr rfl) dX7_init_23 (fun H locs h_9 eh_9 hW hT hs => ?_)
  replace f_2 := (hs.o gx trivial rfl).1.trans f_2
  replace f_6 := (hs.o gx trivial rfl).2.trans f_6
  replace hz := hx_zr [0, 3, 5] hz hs gx trivial rfl
  replace hM := hM.tr (hs.mono (by decide))
  replace gx := gx.S hs
  replace gq_4 := gq_4.S hs
  replace gq_8 := gq_8.S hs
  have f_10 : h_9.2.2 x 5 = (some q_8) := by rw [eh_9]; exact hx_pr_at _ _ _ _
  refine lv_aload_n hx hb dX7_init_26 rfl (lv_at hl 0 rfl) ?_
  refine lv_iconst (v := 4) hx hb dX7_init_27 (by decide) ?_
  refine hk_newa hx hb hts hW 37 tt_37 (atype := .int) rfl kw_186 (tys := P_ty dA) (t0 := 0) rfl (fun _ => Iff.rfl) rfl (i := (4 : Int32)) (by decide) (Nat.le_of_ble_eq_true rfl) (Nat.le_of_ble_eq_true rfl) (Nat.le_of_ble_eq_true rfl) dX7_init_28 (fun q_12 H h_11 eh_11 hqq_12 hW hs gq_12 => ?_)
  have nq_q_12 : ∀ a ∈ (hx_X L x), a ≠ q_12 := fun a ha z => hqq_12 (z ▸ (hM.1 a ha).1)
  have hT : hx_T T_tb (((L ++ [q_4]) ++ [q_8]) ++ [q_12]) h_11 := by rw [eh_11]; exact hx_T_nw hT hqq_12 tt_37 rfl
  replace f_2 := (hs.o gx trivial rfl).1.trans f_2
  replace f_6 := (hs.o gx trivial rfl).2.trans f_6
  replace f_10 := (hs.o gx trivial rfl).2.trans f_10
  replace hz := hx_zr [0, 3, 5] hz hs gx trivial rfl
  replace hM := hM.tr (hs.mono (by decide))
  replace gx := gx.S hs
  replace gq_4 := gq_4.S hs
  replace gq_8 := gq_8.S hs
  refine hx_putrF hx hb hts hC_7 hown hW hT (hx_S.rf (M := [(123, 6)])) gx tt_123 6 (by decide) rfl kw_319 ⟨rfl, rfl, rfl⟩ rfl hin rfl (x := (some q_12)) ⟨fun _ z => (by cases z), fun q hq => (by cases hq; exact ⟨gq_12.1, by rw [gq_12.2]; decide⟩)⟩ rfl rfl rfl (List.mem_singleton.mpr rfl) dX7_init_30 (fun H locs h_13 eh_13 hW hT hs => ?_)
  replace f_2 := (hs.o gx trivial rfl).1.trans f_2
  replace f_6 := (hs.o gx trivial rfl).2.trans f_6
  replace f_10 := (hs.o gx trivial rfl).2.trans f_10
  replace hz := hx_zr [0, 3, 5, 6] hz hs gx trivial rfl
  replace hM := hM.tr (hs.mono (by decide))
  replace gx := gx.S hs
  replace gq_4 := gq_4.S hs
  replace gq_8 := gq_8.S hs
  replace gq_12 := gq_12.S hs
  have f_14 : h_13.2.2 x 6 = (some q_12) := by rw [eh_13]; exact hx_pr_at _ _ _ _
  refine lv_aload_n hx hb dX7_init_33 rfl (lv_at hl 0 rfl) ?_
  refine lv_iconst (v := 4) hx hb dX7_init_34 (by decide) ?_
  refine hk_newa hx hb hts hW 38 tt_38 (atype := .int) rfl kw_186 (tys := P_ty dA) (t0 := 0) rfl (fun _ => Iff.rfl) rfl (i := (4 : Int32)) (by decide) (Nat.le_of_ble_eq_true rfl) (Nat.le_of_ble_eq_true rfl) (Nat.le_of_ble_eq_true rfl) dX7_init_35 (fun q_16 H h_15 eh_15 hqq_16 hW hs gq_16 => ?_)
  have nq_q_16 : ∀ a ∈ (hx_X L x), a ≠ q_16 := fun a ha z => hqq_16 (z ▸ (hM.1 a ha).1)
  have hT : hx_T T_tb ((((L ++ [q_4]) ++ [q_8]) ++ [q_12]) ++ [q_16]) h_15 := by rw [eh_15]; exact hx_T_nw hT hqq_16 tt_38 rfl
  replace f_2 := (hs.o gx trivial rfl).1.trans f_2
  replace f_6 := (hs.o gx trivial rfl).2.trans f_6
  replace f_10 := (hs.o gx trivial rfl).2.trans f_10
  replace f_14 := (hs.o gx trivial rfl).2.trans f_14
  replace hz := hx_zr [0, 3, 5, 6] hz hs gx trivial rfl
  replace hM := hM.tr (hs.mono (by decide))
  replace gx := gx.S hs
  replace gq_4 := gq_4.S hs
  replace gq_8 := gq_8.S hs
  replace gq_12 := gq_12.S hs
  refine hx_putrF hx hb hts hC_7 hown hW hT (hx_S.rf (M := [(123, 7)])) gx tt_123 7 (by decide) rfl kw_320 ⟨rfl, rfl, rfl⟩ rfl hin rfl (x := (some q_16)) ⟨fun _ z => (by cases z), fun q hq => (by cases hq; exact ⟨gq_16.1, by rw [gq_16.2]; decide⟩)⟩ rfl rfl rfl (List.mem_singleton.mpr rfl) dX7_init_37 (fun H locs h_17 eh_17 hW hT hs => ?_)
  replace f_2 := (hs.o gx trivial rfl).1.trans f_2
  replace f_6 := (hs.o gx trivial rfl).2.trans f_6
  replace f_10 := (hs.o gx trivial rfl).2.trans f_10
  replace f_14 := (hs.o gx trivial rfl).2.trans f_14
  replace hz := hx_zr [0, 3, 5, 6, 7] hz hs gx trivial rfl
  replace hM := hM.tr (hs.mono (by decide))
  replace gx := gx.S hs
  replace gq_4 := gq_4.S hs
  replace gq_8 := gq_8.S hs
  replace gq_12 := gq_12.S hs
  replace gq_16 := gq_16.S hs
  have f_18 : h_17.2.2 x 7 = (some q_16) := by rw [eh_17]; exact hx_pr_at _ _ _ _
  have hF : hx_F (fun k f => hx_o ((((L ++ [q_4]) ++ [q_8]) ++ [q_12]) ++ [q_16]) h_17 f (h_17.2.1 x k) (h_17.2.2 x k)) T_f7 0 := ⟨hx_oi f_2 (by decide), hx_oi (hz 1 rfl).1 (by decide), hx_oi (hz 2 rfl).1 (by decide), hx_or f_6 gq_4 (by decide), hx_oi (hz 4 rfl).1 (by decide), hx_or f_10 gq_8 (by decide), hx_or f_14 gq_12 (by decide), hx_or f_18 gq_16 (by decide), trivial⟩
  have hT := hx_T_rt hT gx tt_7 rfl (hx_F_all hF)
  have hW := hx_W_rt hW gx tt_123 tt_7 (fun _ _ => rfl)
  have hM := hx_SX_rt (x := x) (t := 7) hM
  have gq_4 := hx_rt_o (t := 7) gq_4 (gq_4.ne gx (by decide))
  have gq_8 := hx_rt_o (t := 7) gq_8 (gq_8.ne gx (by decide))
  have gq_12 := hx_rt_o (t := 7) gq_12 (gq_12.ne gx (by decide))
  have gq_16 := hx_rt_o (t := 7) gq_16 (gq_16.ne gx (by decide))
  have gx := hx_rt_g (t := 7) gx
  have f_2 : (hx_rt h_17 x 7).2.1 x 0 = (-1 : Int32) := f_2
  have f_6 : (hx_rt h_17 x 7).2.2 x 3 = some q_4 := f_6
  have f_10 : (hx_rt h_17 x 7).2.2 x 5 = some q_8 := f_10
  have f_14 : (hx_rt h_17 x 7).2.2 x 6 = some q_12 := f_14
  have f_18 : (hx_rt h_17 x 7).2.2 x 7 = some q_16 := f_18
  generalize eh : hx_rt h_17 x 7 = h_19 at hT hW hM gx gq_4 gq_8 gq_12 gq_16 f_2 f_6 f_10 f_14 f_18
  refine W.widen (k := 4) (n := 1708) (Nat.le_of_ble_eq_true rfl) (Nat.le_of_ble_eq_true rfl) ?_
  exact hx_retv hx hb hr hlk hW ⟨hT, hM, gx, f_2⟩ dX7_init_40

