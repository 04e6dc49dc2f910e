
set_option maxHeartbeats 4000000 in
set_option maxRecDepth 100000 in
theorem t_X2_init_v (l : Launch) (dC : Nat → ClassId) (dI : Nat → Nat → Nat) (dA : Nat → ClassId) (L : List Nat) (h : hx_h) (sz : Nat) (x : Nat) (i1 : Int32) (v1 : Nat) (v2 : Nat) (v3 : Nat) (hT : hx_T T_tb L h) (gx : hx_g L h x 118) (gv1 : hx_g L h v1 4) (gv2 : hx_g L h v2 4) (gv3 : hx_g L h v3 0) (hz : ∀ j, h.2.1 x j = 0 ∧ h.2.2 x j = none) (hi1 : 0 ≤ i1.toInt ∧ i1.toInt ≤ 99) : Met l yX2_init (Cond.code yX2_init cX2_init 5 none :: hx_all) ({ frames := 1, cells := 2, slots := 11, locals := 12 }) (va_Pc [.ref x, .int i1, .ref v1, .ref v2, .ref v3] (hx_B T_tb (P_ty dA) (dC, dI) vwCl L h sz)) (va_Qv (fun (u : List Nat × hx_h) => hx_T T_tb u.1 u.2 ∧ hx_S T_tb [(118, 0), (118, 1), (118, 2), (118, 3), (118, 4), (118, 5), (118, 10), (118, 11), (118, 13), (118, 16), (118, 18)] (hx_X L x) h u.1 u.2 ∧ hx_g u.1 u.2 x 2 ∧ u.2.2.1 x 0 = i1 ∧ u.2.2.1 x 10 = -1 ∧ u.2.2.1 x 11 = -1 ∧ u.2.2.1 x 9 = 0 ∧ u.2.2.1 x 12 = 0 ∧ u.2.2.1 x 13 = -1 ∧ u.2.2.1 x 16 = -1 ∧ u.2.2.1 x 18 = -1 ∧ u.2.2.1 x 14 = 0 ∧ u.2.2.1 x 15 = 0 ∧ u.2.2.1 x 17 = 0 ∧ u.2.2.2 x 1 = some v1 ∧ u.2.2.2 x 2 = some v2 ∧ u.2.2.2 x 3 = some v3 ∧ (∃ q, u.2.2.2 x 4 = some q ∧ hx_g u.1 u.2 q 20 ∧ True ∧ ∀ a ∈ hx_X L x, a ≠ q) ∧ (∃ q, u.2.2.2 x 5 = some q ∧ hx_g u.1 u.2 q 21 ∧ (u.2.2.1 q 0 = -1 ∧ u.2.2.1 q 1 = -1 ∧ u.2.2.1 q 2 = -1) ∧ ∀ a ∈ hx_X L x, a ≠ q)) (hx_E T_tb (P_ty dA) (dC, dI) vwCl (hx_A L sz)) (hx_A L sz)) 2 11 (hx_A L sz) := by
  refine hx_met (lv := [(0, .ref x), (1, .int i1), (2, .ref v1), (3, .ref v2), (4, .ref v3)]) (by decide +kernel) rfl (Nat.le_of_ble_eq_true rfl) rfl ?_
  intro p e s m below meth c hx hb hml hr hlk hts0 hown hin hsz hW ls hl
  have hts : ∀ w ∈ hx_all, w.before _ s = true := fun w hw => hts0 w (List.mem_cons_of_mem _ hw)
  have hown : s.vm.findClass "SmallCourt$Claim" = some m.cls := hown
  have hin : meth.name = "<init>" := hin
  have hM : hx_S T_tb [(118, 0), (118, 1), (118, 2), (118, 3), (118, 4), (118, 5), (118, 10), (118, 11), (118, 13), (118, 16), (118, 18)] (hx_X L x) h L h := hx_SX_rf
  have hz : ∀ j, ([] : List Nat).contains j = false → h.2.1 x j = 0 ∧ h.2.2 x j = none := fun j _ => hz j
  refine lv_aload_n hx hb dX2_init_0 rfl (lv_at hl 0 rfl) ?_
  refine W.objInit hx hb hown (hts _ kw_720) (hts _ kw_117) (hts _ kw_118) rfl (by rw [hml]; exact hl.1) rfl dX2_init_1 (Nat.le_of_ble_eq_true rfl) (Nat.le_of_ble_eq_true rfl) ?_
  refine W.eq (g2 := F0 m 4 ls []) rfl ?_
  refine lv_aload_n hx hb dX2_init_4 rfl (lv_at hl 0 rfl) ?_
  refine lv_bipush (v := 8) hx hb dX2_init_5 (by decide) ?_
  refine hk_newa hx hb hts hW 20 tt_20 (atype := .int) rfl kw_186 (tys := P_ty dA) (t0 := 0) rfl (fun _ => Iff.rfl) rfl (i := (8 : Int32)) (by decide) (Nat.le_of_ble_eq_true rfl) (Nat.le_of_ble_eq_true rfl) (Nat.le_of_ble_eq_true rfl) dX2_init_7 (fun q_2 H h_1 eh_1 hqq_2 hW hs gq_2 => ?_)
  have nq_q_2 : ∀ a ∈ (hx_X L x), a ≠ q_2 := fun a ha z => hqq_2 (z ▸ (hM.1 a ha).1)
  have hT : hx_T T_tb (L ++ [q_2]) h_1 := by rw [eh_1]; exact hx_T_nw hT hqq_2 tt_20 rfl
  replace hz := hx_zr [] hz hs gx trivial rfl
  replace hM := hM.tr (hs.mono (by decide))
  replace gx := gx.S hs
  replace gv1 := gv1.S hs
  replace gv2 := gv2.S hs
  replace gv3 := gv3.S hs
  refine hx_putrF hx hb hts hC_2 hown hW hT (hx_S.rf (M := [(118, 4)])) gx tt_118 4 (by decide) rfl kw_737 ⟨rfl, rfl, rfl⟩ rfl hin rfl (x := (some q_2)) ⟨fun _ z => (by cases z), fun q hq => (by cases hq; exact ⟨gq_2.1, by rw [gq_2.2]; decide⟩)⟩ rfl rfl rfl (List.mem_singleton.mpr rfl) dX2_init_9 (fun H locs h_3 eh_3 hW hT hs => ?_)
  replace hz := hx_zr [4] hz hs gx trivial rfl
  replace hM := hM.tr (hs.mono (by decide))
  replace gx := gx.S hs
  replace gv1 := gv1.S hs
  replace gv2 := gv2.S hs
  replace gv3 := gv3.S hs
  replace gq_2 := gq_2.S hs
  have f_4 : h_3.2.2 x 4 = (some q_2) := by rw [eh_3]; exact hx_pr_at _ _ _ _
  refine lv_aload_n hx hb dX2_init_12 rfl (lv_at hl 0 rfl) ?_
  refine lv_iconst (v := 3) hx hb dX2_init_13 (by decide) ?_
  refine hk_newa hx hb hts hW 21 tt_21 (atype := .int) rfl kw_186 (tys := P_ty dA) (t0 := 0) rfl (fun _ => Iff.rfl) rfl (i := (3 : Int32)) (by decide) (Nat.le_of_ble_eq_true rfl) (Nat.le_of_ble_eq_true rfl) (Nat.le_of_ble_eq_true rfl) dX2_init_14 (fun q_6 H h_5 eh_5 hqq_6 hW hs gq_6 => ?_)
  have nq_q_6 : ∀ a ∈ (hx_X L x), a ≠ q_6 := fun a ha z => hqq_6 (z ▸ (hM.1 a ha).1)
  have hT : hx_T T_tb ((L ++ [q_2]) ++ [q_6]) h_5 := by rw [eh_5]; exact hx_T_nw hT hqq_6 tt_21 rfl
  replace f_4 := (hs.o gx trivial rfl).2.trans f_4
  replace hz := hx_zr [4] hz hs gx trivial rfl
  replace hM := hM.tr (hs.mono (by decide))
  replace gx := gx.S hs
  replace gv1 := gv1.S hs
  replace gv2 := gv2.S hs
  replace gv3 := gv3.S hs
  replace gq_2 := gq_2.S hs
  refine hx_putrF hx hb hts hC_2 hown hW hT (hx_S.rf (M := [(118, 5)])) gx tt_118 5 (by decide) rfl kw_739 ⟨rfl, rfl, rfl⟩ rfl hin rfl (x := (some q_6)) ⟨fun _ z => (by cases z), fun q hq => (by cases hq; exact ⟨gq_6.1, by rw [gq_6.2]; decide⟩)⟩ rfl rfl rfl (List.mem_singleton.mpr rfl) dX2_init_16 (fun H locs h_7 eh_7 hW hT hs => ?_)
  replace f_4 := (hs.o gx trivial rfl).2.trans f_4
  replace hz := hx_zr [4, 5] hz hs gx trivial rfl
  replace hM := hM.tr (hs.mono (by decide))
  replace gx := gx.S hs
  replace gv1 := gv1.S hs
  replace gv2 := gv2.S hs
  replace gv3 := gv3.S hs
  replace gq_2 := gq_2.S hs
  replace gq_6 := gq_6.S hs
  have f_8 : h_7.2.2 x 5 = (some q_6) := by rw [eh_7]; exact hx_pr_at _ _ _ _
  obtain ⟨bF0, nbF0⟩ : ∃ g : Nat → Int32, h_7.2.1 q_6 = g := ⟨_, rfl⟩
  refine lv_aload_n hx hb dX2_init_19 rfl (lv_at hl 0 rfl) ?_
  refine lv_iconst (v := -1) hx hb dX2_init_20 (by decide) ?_
  refine hx_puti hx hb hts hC_2 hown hW hT (hx_S.rf (M := [(118, 10)])) gx tt_118 10 (by decide) rfl kw_746 ⟨rfl, rfl, rfl⟩ rfl (x := (-1 : Int32)) (by decide) rfl rfl rfl (List.mem_singleton.mpr rfl) dX2_init_21 (fun H locs h_9 eh_9 hW hT hs => ?_)
  replace f_4 := (hs.o gx trivial rfl).2.trans f_4
  replace f_8 := (hs.o gx trivial rfl).2.trans f_8
  replace hz := hx_zr [4, 5, 10] hz hs gx trivial rfl
  replace nbF0 : h_9.2.1 q_6 = bF0 := (funext fun j => (hs.a gq_6 rfl j).1).trans nbF0
  replace hM := hM.tr (hs.mono (by decide))
  replace gx := gx.S hs
  replace gv1 := gv1.S hs
  replace gv2 := gv2.S hs
  replace gv3 := gv3.S hs
  replace gq_2 := gq_2.S hs
  replace gq_6 := gq_6.S hs
  have f_10 : h_9.2.1 x 10 = (-1 : Int32) := by rw [eh_9]; exact hx_pi_at _ _ _ _
  refine lv_aload_n hx hb dX2_init_24 rfl (lv_at hl 0 rfl) ?_
  refine lv_iconst (v := -1) hx hb dX2_init_25 (by decide) ?_
  refine hx_puti hx hb hts hC_2 hown hW hT (hx_S.rf (M := [(118, 11)])) gx tt_118 11 (by decide) rfl kw_748 ⟨rfl, rfl, rfl⟩ rfl (x := (-1 : Int32)) (by decide) rfl rfl rfl (List.mem_singleton.mpr rfl) dX2_init_26 (fun H locs h_11 eh_11 hW hT hs => ?_)
  replace f_4 := (hs.o gx trivial rfl).2.trans f_4
  replace f_8 := (hs.o gx trivial rfl).2.trans f_8
  replace f_10 := (hs.o gx trivial rfl).1.trans f_10
  replace hz := hx_zr [4, 5, 10, 11] hz hs gx trivial rfl
  replace nbF0 : h_11.2.1 q_6 = bF0 := (funext fun j => (hs.a gq_6 rfl j).1).trans nbF0
  replace hM := hM.tr (hs.mono (by decide))
  replace gx := gx.S hs
  replace gv1 := gv1.S hs
  replace gv2 := gv2.S hs
  replace gv3 := gv3.S hs
  replace gq_2 := gq_2.S hs
  replace gq_6 := gq_6.S hs
  have f_12 : h_11.2.1 x 11 = (-1 : Int32) := by rw [eh_11]; exact hx_pi_at _ _ _ _
  refine lv_aload_n hx hb dX2_init_29 rfl (lv_at hl 0 rfl) ?_
  refine lv_iconst (v := -1) hx hb dX2_init_30 (by decide) ?_
  refine hx_puti hx hb hts hC_2 hown hW hT (hx_S.rf (M := [(118, 13)])) gx tt_118 13 (by decide) rfl kw_752 ⟨rfl, rfl, rfl⟩ rfl (x := (-1 : Int32)) (by decide) rfl rfl rfl (List.mem_singleton.mpr rfl) dX2_init_31 (fun H locs h_13 eh_13 hW hT hs => ?_)
  replace f_4 := (hs.o gx trivial rfl).2.trans f_4
  replace f_8 := (hs.o gx trivial rfl).2.trans f_8
  replace f_10 := (hs.o gx trivial rfl).1.trans f_10
  replace f_12 := (hs.o gx trivial rfl).1.trans f_12
  replace hz := hx_zr [4, 5, 10, 11, 13] hz hs gx trivial rfl
  replace nbF0 : h_13.2.1 q_6 = bF0 := (funext fun j => (hs.a gq_6 rfl j).1).trans nbF0
  replace hM := hM.tr (hs.mono (by decide))
  replace gx := gx.S hs
  replace gv1 := gv1.S hs
  replace gv2 := gv2.S hs
  replace gv3 := gv3.S hs
  replace gq_2 := gq_2.S hs
  replace gq_6 := gq_6.S hs
  have f_14 : h_13.2.1 x 13 = (-1 : Int32) := by rw [eh_13]; exact hx_pi_at _ _ _ _
  refine lv_aload_n hx hb dX2_init_34 rfl (lv_at hl 0 rfl) ?_
  refine lv_iconst (v := -1) hx hb dX2_init_35 (by decide) ?_
  refine hx_puti hx hb hts hC_2 hown hW hT (hx_S.rf (M := [(118, 16)])) gx tt_118 16 (by decide) rfl kw_758 ⟨rfl, rfl, rfl⟩ rfl (x := (-1 : Int32)) (by decide) rfl rfl rfl (List.mem_singleton.mpr rfl) dX2_init_36 (fun H locs h_15 eh_15 hW hT hs => ?_)
  replace f_4 := (hs.o gx trivial rfl).2.trans f_4
  replace f_8 := (hs.o gx trivial rfl).2.trans f_8
  replace f_10 := (hs.o gx trivial rfl).1.trans f_10
  replace f_12 := (hs.o gx trivial rfl).1.trans f_12
  replace f_14 := (hs.o gx trivial rfl).1.trans f_14
  replace hz := hx_zr [4, 5, 10, 11, 13, 16] hz hs gx trivial rfl
  replace nbF0 : h_15.2.1 q_6 = bF0 := (funext fun j => (hs.a gq_6 rfl j).1).trans nbF0
  replace hM := hM.tr (hs.mono (by decide))
  replace gx := gx.S hs
  replace gv1 := gv1.S hs
  replace gv2 := gv2.S hs
  replace gv3 := gv3.S hs
  replace gq_2 := gq_2.S hs
  replace gq_6 := gq_6.S hs
  have f_16 : h_15.2.1 x 16 = (-1 : Int32) := by rw [eh_15]; exact hx_pi_at _ _ _ _
  refine lv_aload_n hx hb dX2_init_39 rfl (lv_at hl 0 rfl) ?_
  refine lv_iconst (v := -1) hx hb dX2_init_40 (by decide) ?_
  refine hx_puti hx hb hts hC_2 hown hW hT (hx_S.rf (M := [(118, 18)])) gx tt_118 18 (by decide) rfl kw_762 ⟨rfl, rfl, rfl⟩ rfl (x := (-1 : Int32)) (by decide) rfl rfl rfl (List.mem_singleton.mpr rfl) dX2_init_41 (fun H locs h_17 eh_17 hW hT hs => ?_)
  replace f_4 := (hs.o gx trivial rfl).2.trans f_4
  replace f_8 := (hs.o gx trivial rfl).2.trans f_8
  replace f_10 := (hs.o gx trivial rfl).1.trans f_10
  replace f_12 := (hs.o gx trivial rfl).1.trans f_12
  replace f_14 := (hs.o gx trivial rfl).1.trans f_14
  replace f_16 := (hs.o gx trivial rfl).1.trans f_16
  replace hz := hx_zr [4, 5, 10, 11, 13, 16, 18] hz hs gx trivial rfl
  replace nbF0 : h_17.2.1 q_6 = bF0 := (funext fun j => (hs.a gq_6 rfl j).1).trans nbF0
  replace hM := hM.tr (hs.mono (by decide))
  replace gx := gx.S hs
  replace gv1 := gv1.S hs
  replace gv2 := gv2.S hs
  replace gv3 := gv3.S hs
  replace gq_2 := gq_2.S hs
  replace gq_6 := gq_6.S hs
  have f_18 : h_17.2.1 x 18 = (-1 : Int32) := by rw [eh_17]; exact hx_pi_at _ _ _ _
  refine lv_aload_n hx hb dX2_init_44 rfl (lv_at hl 0 rfl) ?_
  refine lv_iload_n hx hb dX2_init_45 rfl (lv_at hl 1 rfl) ?_
  refine hx_putiF hx hb hts hC_2 hown hW hT (hx_S.rf (M := [(118, 0)])) gx tt_118 0 (by decide) rfl kw_721 ⟨rfl, rfl, rfl⟩ rfl hin rfl (x := i1) ⟨by omega, by omega⟩ rfl rfl rfl (List.mem_singleton.mpr rfl) dX2_init_46 (fun H locs h_19 eh_19 hW hT hs => ?_)
  replace f_4 := (hs.o gx trivial rfl).2.trans f_4
  replace f_8 := (hs.o gx trivial rfl).2.trans f_8
  replace f_10 := (hs.o gx trivial rfl).1.trans f_10
  replace f_12 := (hs.o gx trivial rfl).1.trans f_12
  replace f_14 := (hs.o gx trivial rfl).1.trans f_14
  replace f_16 := (hs.o gx trivial rfl).1.trans f_16
  replace f_18 := (hs.o gx trivial rfl).1.trans f_18
  replace hz := hx_zr [0, 4, 5, 10, 11, 13, 16, 18] hz hs gx trivial rfl
  replace nbF0 : h_19.2.1 q_6 = bF0 := (funext fun j => (hs.a gq_6 rfl j).1).trans nbF0
  replace hM := hM.tr (hs.mono (by decide))
  replace gx := gx.S hs
  replace gv1 := gv1.S hs
  replace gv2 := gv2.S hs
  replace gv3 := gv3.S hs
  replace gq_2 := gq_2.S hs
  replace gq_6 := gq_6.S hs
  have f_20 : h_19.2.1 x 0 = i1 := by rw [eh_19]; exact hx_pi_at _ _ _ _
  refine lv_aload_n hx hb dX2_init_49 rfl (lv_at hl 0 rfl) ?_
  refine lv_aload_n hx hb dX2_init_50 rfl (lv_at hl 2 rfl) ?_
  refine hx_putrF hx hb hts hC_2 hown hW hT (hx_S.rf (M := [(118, 1)])) gx tt_118 1 (by decide) rfl kw_725 ⟨rfl, rfl, rfl⟩ rfl hin rfl (x := (some v1)) ⟨fun _ z => (by cases z), fun q hq => (by cases hq; exact ⟨gv1.1, by rw [gv1.2]; decide⟩)⟩ rfl rfl rfl (List.mem_singleton.mpr rfl) dX2_init_51 (fun H locs h_21 eh_21 hW hT hs => ?_)
  replace f_4 := (hs.o gx trivial rfl).2.trans f_4
  replace f_8 := (hs.o gx trivial rfl).2.trans f_8
  replace f_10 := (hs.o gx trivial rfl).1.trans f_10
  replace f_12 := (hs.o gx trivial rfl).1.trans f_12
  replace f_14 := (hs.o gx trivial rfl).1.trans f_14
  replace f_16 := (hs.o gx trivial rfl).1.trans f_16
  replace f_18 := (hs.o gx trivial rfl).1.trans f_18
  replace f_20 := (hs.o gx trivial rfl).1.trans f_20
  replace hz := hx_zr [0, 1, 4, 5, 10, 11, 13, 16, 18] hz hs gx trivial rfl
  replace nbF0 : h_21.2.1 q_6 = bF0 := (funext fun j => (hs.a gq_6 rfl j).1).trans nbF0
  replace hM := hM.tr (hs.mono (by decide))
  replace gx := gx.S hs
  replace gv1 := gv1.S hs
  replace gv2 := gv2.S hs
  replace gv3 := gv3.S hs
  replace gq_2 := gq_2.S hs
  replace gq_6 := gq_6.S hs
  have f_22 : h_21.2.2 x 1 = (some v1) := by rw [eh_21]; exact hx_pr_at _ _ _ _
  refine lv_aload_n hx hb dX2_init_54 rfl (lv_at hl 0 rfl) ?_
  refine lv_aload_n hx hb dX2_init_55 rfl (lv_at hl 3 rfl) ?_
  refine hx_putrF hx hb hts hC_2 hown hW hT (hx_S.rf (M := [(118, 2)])) gx tt_118 2 (by decide) rfl kw_729 ⟨rfl, rfl, rfl⟩ rfl hin rfl (x := (some v2)) ⟨fun _ z => (by cases z), fun q hq => (by cases hq; exact ⟨gv2.1, by rw [gv2.2]; decide⟩)⟩ rfl rfl rfl (List.mem_singleton.mpr rfl) dX2_init_56 (fun H locs h_23 eh_23 hW hT hs => ?_)
  replace f_4 := (hs.o gx trivial rfl).2.trans f_4
  replace f_8 := (hs.o gx trivial rfl).2.trans f_8
  replace f_10 := (hs.o gx trivial rfl).1.trans f_10
  replace f_12 := (hs.o gx trivial rfl).1.trans f_12
  replace f_14 := (hs.o gx trivial rfl).1.trans f_14
  replace f_16 := (hs.o gx trivial rfl).1.trans f_16
  replace f_18 := (hs.o gx trivial rfl).1.trans f_18
  replace f_20 := (hs.o gx trivial rfl).1.trans f_20
  replace f_22 := (hs.o gx trivial rfl).2.trans f_22
  replace hz := hx_zr [0, 1, 2, 4, 5, 10, 11, 13, 16, 18] hz hs gx trivial rfl
  replace nbF0 : h_23.2.1 q_6 = bF0 := (funext fun j => (hs.a gq_6 rfl j).1).trans nbF0
  replace hM := hM.tr (hs.mono (by decide))
  replace gx := gx.S hs
  replace gv1 := gv1.S hs
  replace gv2 := gv2.S hs
  replace gv3 := gv3.S hs
  replace gq_2 := gq_2.S hs
  replace gq_6 := gq_6.S hs
  have f_24 : h_23.2.2 x 2 = (some v2) := by rw [eh_23]; exact hx_pr_at _ _ _ _
  refine lv_aload_n hx hb dX2_init_59 rfl (lv_at hl 0 rfl) ?_
  refine lv_aload hx hb dX2_init_60 (lv_at hl 4 rfl) ?_
  refine hx_putrF hx hb hts hC_2 hown hW hT (hx_S.rf (M := [(118, 3)])) gx tt_118 3 (by decide) rfl kw_734 ⟨rfl, rfl, rfl⟩ rfl hin rfl (x := (some v3)) ⟨fun _ z => (by cases z), fun q hq => (by cases hq; exact ⟨gv3.1, by rw [gv3.2]; decide⟩)⟩ rfl rfl rfl (List.mem_singleton.mpr rfl) dX2_init_62 (fun H locs h_25 eh_25 hW hT hs => ?_)
  replace f_4 := (hs.o gx trivial rfl).2.trans f_4
  replace f_8 := (hs.o gx trivial rfl).2.trans f_8
  replace f_10 := (hs.o gx trivial rfl).1.trans f_10
  replace f_12 := (hs.o gx trivial rfl).1.trans f_12
  replace f_14 := (hs.o gx trivial rfl).1.trans f_14
  replace f_16 := (hs.o gx trivial rfl).1.trans f_16
  replace f_18 := (hs.o gx trivial rfl).1.trans f_18
  replace f_20 := (hs.o gx trivial rfl).1.trans f_20
  replace f_22 := (hs.o gx trivial rfl).2.trans f_22
  replace f_24 := (hs.o gx trivial rfl).2.trans f_24
  replace hz := hx_zr [0, 1, 2, 3, 4, 5, 10, 11, 13, 16, 18] hz hs gx trivial rfl
  replace nbF0 : h_25.2.1 q_6 = bF0 := (funext fun j => (hs.a gq_6 rfl j).1).trans nbF0
  replace hM := hM.tr (hs.mono (by decide))
  replace gx := gx.S hs
  replace gv1 := gv1.S hs
  replace gv2 := gv2.S hs
  replace gv3 := gv3.S hs
  replace gq_2 := gq_2.S hs
  replace gq_6 := gq_6.S hs
  have f_26 : h_25.2.2 x 3 = (some v3) := by rw [eh_25]; exact hx_pr_at _ _ _ _
  refine lv_aload_n hx hb dX2_init_65 rfl (lv_at hl 0 rfl) ?_
  refine hk_getr hx hb hts hC_2 hown hW gx tt_118 5 (by decide) rfl kw_739 ⟨rfl, rfl, rfl⟩ f_8 dX2_init_66 ?_
  refine lv_iconst (v := 0) hx hb dX2_init_69 (by decide) ?_
  refine lv_iconst (v := -1) hx hb dX2_init_70 (by decide) ?_
  have nbF0O := nbF0
  refine hx_iast hx hb hW hT (hx_S.rf (M := [(21, 0)])) gq_6 tt_21 rfl (by decide) rfl (by decide) (List.mem_singleton.mpr rfl) dX2_init_71 (fun H locs h_27 eh_27 hW hT hs => ?_)
  replace f_4 := (hs.o gx trivial rfl).2.trans f_4
  replace f_8 := (hs.o gx trivial rfl).2.trans f_8
  replace f_10 := (hs.o gx trivial rfl).1.trans f_10
  replace f_12 := (hs.o gx trivial rfl).1.trans f_12
  replace f_14 := (hs.o gx trivial rfl).1.trans f_14
  replace f_16 := (hs.o gx trivial rfl).1.trans f_16
  replace f_18 := (hs.o gx trivial rfl).1.trans f_18
  replace f_20 := (hs.o gx trivial rfl).1.trans f_20
  replace f_22 := (hs.o gx trivial rfl).2.trans f_22
  replace f_24 := (hs.o gx trivial rfl).2.trans f_24
  replace f_26 := (hs.o gx trivial rfl).2.trans f_26
  replace hz := hx_zr [0, 1, 2, 3, 4, 5, 10, 11, 13, 16, 18] hz hs gx trivial rfl
  replace hM := hx_S_pn hM nq_q_6 eh_27
  replace gx := gx.S hs
  replace gv1 := gv1.S hs
  replace gv2 := gv2.S hs
  replace gv3 := gv3.S hs
  replace gq_2 := gq_2.S hs
  replace gq_6 := gq_6.S hs
  obtain ⟨fa_28, dfa_28⟩ : ∃ g : Nat → Int32, g = hx_up bF0 (0 : Int32).toNatClampNeg (-1 : Int32) := ⟨_, rfl⟩
  have nfa_28 : h_27.2.1 q_6 = fa_28 := by rw [eh_27, dfa_28, ← nbF0O]; exact hx_pi_fun _ _ _ _
  refine lv_aload_n hx hb dX2_init_72 rfl (lv_at hl 0 rfl) ?_
  refine hk_getr hx hb hts hC_2 hown hW gx tt_118 5 (by decide) rfl kw_739 ⟨rfl, rfl, rfl⟩ f_8 dX2_init_73 ?_
  refine lv_iconst (v := 1) hx hb dX2_init_76 (by decide) ?_
  refine lv_iconst (v := -1) hx hb dX2_init_77 (by decide) ?_
  have nfa_28O := nfa_28
  refine hx_iast hx hb hW hT (hx_S.rf (M := [(21, 0)])) gq_6 tt_21 rfl (by decide) rfl (by decide) (List.mem_singleton.mpr rfl) dX2_init_78 (fun H locs h_29 eh_29 hW hT hs => ?_)
  replace f_4 := (hs.o gx trivial rfl).2.trans f_4
  replace f_8 := (hs.o gx trivial rfl).2.trans f_8
  replace f_10 := (hs.o gx trivial rfl).1.trans f_10
  replace f_12 := (hs.o gx trivial rfl).1.trans f_12
  replace f_14 := (hs.o gx trivial rfl).1.trans f_14
  replace f_16 := (hs.o gx trivial rfl).1.trans f_16
  replace f_18 := (hs.o gx trivial rfl).1.trans f_18
  replace f_20 := (hs.o gx trivial rfl).1.trans f_20
  replace f_22 := (hs.o gx trivial rfl).2.trans f_22
  replace f_24 := (hs.o gx trivial rfl).2.trans f_24
  replace f_26 := (hs.o gx trivial rfl).2.trans f_26
  replace hz := hx_zr [0, 1, 2, 3, 4, 5, 10, 11, 13, 16, 18] hz hs gx trivial rfl
  replace hM := hx_S_pn hM nq_q_6 eh_29
  replace gx := gx.S hs
  replace gv1 := gv1.S hs
  replace gv2 := gv2.S hs
  replace gv3 := gv3.S hs
  replace gq_2 := gq_2.S hs
  replace gq_6 := gq_6.S hs
  obtain ⟨fa_30, dfa_30⟩ : ∃ g : Nat → Int32, g = hx_up fa_28 (1 : Int32).toNatClampNeg (-1 : Int32) := ⟨_, rfl⟩
  have nfa_30 : h_29.2.1 q_6 = fa_30 := by rw [eh_29, dfa_30, ← nfa_28O]; exact hx_pi_fun _ _ _ _
  refine lv_aload_n hx hb dX2_init_79 rfl (lv_at hl 0 rfl) ?_
  refine hk_getr hx hb hts hC_2 hown hW gx tt_118 5 (by decide) rfl kw_739 ⟨rfl, rfl, rfl⟩ f_8 dX2_init_80 ?_
  refine lv_iconst (v := 2) hx hb dX2_init_83 (by decide) ?_
  refine lv_iconst (v := -1) hx hb dX2_init_84 (by decide) ?_
  have nfa_30O := nfa_30
  refine hx_iast hx hb hW hT (hx_S.rf (M := [(21, 0)])) gq_6 tt_21 rfl (by decide) rfl (by decide) (List.mem_singleton.mpr rfl) dX2_init_85 (fun H locs h_31 eh_31 hW hT hs => ?_)
  replace f_4 := (hs.o gx trivial rfl).2.trans f_4
  replace f_8 := (hs.o gx trivial rfl).2.trans f_8
  replace f_10 := (hs.o gx trivial rfl).1.trans f_10
  replace f_12 := (hs.o gx trivial rfl).1.trans f_12
  replace f_14 := (hs.o gx trivial rfl).1.trans f_14
  replace f_16 := (hs.o gx trivial rfl).1.trans f_16
  replace f_18 := (hs.o gx trivial rfl).1.trans f_18
  replace f_20 := (hs.o gx trivial rfl).1.trans f_20
  replace f_22 := (hs.o gx trivial rfl).2.trans f_22
  replace f_24 := (hs.o gx trivial rfl).2.trans f_24
  replace f_26 := (hs.o gx trivial rfl).2.trans f_26
  replace hz := hx_zr [0, 1, 2, 3, 4, 5, 10, 11, 13, 16, 18] hz hs gx trivial rfl
  replace hM := hx_S_pn hM nq_q_6 eh_31
  replace gx := gx.S hs
  replace gv1 := gv1.S hs
  replace gv2 := gv2.S hs
  replace gv3 := gv3.S hs
  replace gq_2 := gq_2.S hs
  replace gq_6 := gq_6.S hs
  obtain ⟨fa_32, dfa_32⟩ : ∃ g : Nat → Int32, g = hx_up fa_30 (2 : Int32).toNatClampNeg (-1 : Int32) := ⟨_, rfl⟩
  have nfa_32 : h_31.2.1 q_6 = fa_32 := by rw [eh_31, dfa_32, ← nfa_30O]; exact hx_pi_fun _ _ _ _
  have f_33 : h_31.2.1 x 9 = 0 := (hz 9 rfl).1
  have f_34 : h_31.2.1 x 12 = 0 := (hz 12 rfl).1
  have f_35 : h_31.2.1 x 14 = 0 := (hz 14 rfl).1
  have f_36 : h_31.2.1 x 15 = 0 := (hz 15 rfl).1
  have f_37 : h_31.2.1 x 17 = 0 := (hz 17 rfl).1
  have hF : hx_F (fun k f => hx_o ((L ++ [q_2]) ++ [q_6]) h_31 f (h_31.2.1 x k) (h_31.2.2 x k)) T_f2 0 := ⟨hx_oi f_20 ⟨by omega, by omega⟩, hx_or f_22 gv1 (by decide), hx_or f_24 gv2 (by decide), hx_or f_26 gv3 (by decide), hx_or f_4 gq_2 (by decide), hx_or f_8 gq_6 (by decide), hx_oi (hz 6 rfl).1 (by decide), hx_oi (hz 7 rfl).1 (by decide), hx_oi (hz 8 rfl).1 (by decide), hx_oi f_33 (by decide), hx_oi f_10 (by decide), hx_oi f_12 (by decide), hx_oi f_34 (by decide), hx_oi f_14 (by decide), hx_oi f_35 (by decide), hx_oi f_36 (by decide), hx_oi f_16 (by decide), hx_oi f_37 (by decide), hx_oi f_18 (by decide), trivial⟩
  have hT := hx_T_rt hT gx tt_2 rfl (hx_F_all hF)
  have hW := hx_W_rt hW gx tt_118 tt_2 (fun _ _ => rfl)
  have hM := hx_SX_rt (x := x) (t := 2) hM
  have gv1 := hx_rt_o (t := 2) gv1 (gv1.ne gx (by decide))
  have gv2 := hx_rt_o (t := 2) gv2 (gv2.ne gx (by decide))
  have gv3 := hx_rt_o (t := 2) gv3 (gv3.ne gx (by decide))
  have gq_2 := hx_rt_o (t := 2) gq_2 (gq_2.ne gx (by decide))
  have gq_6 := hx_rt_o (t := 2) gq_6 (gq_6.ne gx (by decide))
  have gx := hx_rt_g (t := 2) gx
  have f_4 : (hx_rt h_31 x 2).2.2 x 4 = some q_2 := f_4
  have f_8 : (hx_rt h_31 x 2).2.2 x 5 = some q_6 := f_8
  have f_10 : (hx_rt h_31 x 2).2.1 x 10 = (-1 : Int32) := f_10
  have f_12 : (hx_rt h_31 x 2).2.1 x 11 = (-1 : Int32) := f_12
  have f_14 : (hx_rt h_31 x 2).2.1 x 13 = (-1 : Int32) := f_14
  have f_16 : (hx_rt h_31 x 2).2.1 x 16 = (-1 : Int32) := f_16
  have f_18 : (hx_rt h_31 x 2).2.1 x 18 = (-1 : Int32) := f_18
  have f_20 : (hx_rt h_31 x 2).2.1 x 0 = i1 := f_20
  have f_22 : (hx_rt h_31 x 2).2.2 x 1 = some v1 := f_22
  have f_24 : (hx_rt h_31 x 2).2.2 x 2 = some v2 := f_24
  have f_26 : (hx_rt h_31 x 2).2.2 x 3 = some v3 := f_26
  have f_33 : (hx_rt h_31 x 2).2.1 x 9 = (0 : Int32) := f_33
  have f_34 : (hx_rt h_31 x 2).2.1 x 12 = (0 : Int32) := f_34
  have f_35 : (hx_rt h_31 x 2).2.1 x 14 = (0 : Int32) := f_35
  have f_36 : (hx_rt h_31 x 2).2.1 x 15 = (0 : Int32) := f_36
  have f_37 : (hx_rt h_31 x 2).2.1 x 17 = (0 : Int32) := f_37
  have nfa_32 : (hx_rt h_31 x 2).2.1 q_6 = fa_32 := nfa_32
  generalize eh : hx_rt h_31 x 2 = h_38 at hT hW hM gx gv1 gv2 gv3 gq_2 gq_6 f_4 f_8 f_10 f_12 f_14 f_16 f_18 f_20 f_22 f_24 f_26 f_33 f_34 f_35 f_36 f_37 nfa_32
  refine W.widen (k := 2) (n := 11) (Nat.le_of_ble_eq_true rfl) (Nat.le_of_ble_eq_true rfl) ?_
  exact hx_retv hx hb hr hlk hW ⟨hT, hM, gx, f_20, f_10, f_12, f_33, f_34, f_14, f_16, f_18, f_35, f_36, f_37, f_22, f_24, f_26, ⟨q_2, f_4, gq_2, ⟨trivial, nq_q_2⟩⟩, ⟨q_6, f_8, gq_6, ⟨(by rw [nfa_32]; exact hv_bn3 dfa_28 dfa_30 dfa_32), nq_q_6⟩⟩⟩ dX2_init_86
