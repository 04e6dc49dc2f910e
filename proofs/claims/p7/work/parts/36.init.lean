theorem dX9_init_0 : decode cX9_init 0 = .ok (.aload_n 0, 1) := by decide +kernel
theorem dX9_init_1 : decode cX9_init 1 = .ok (.invokespecial 3, 3) := by decide +kernel
theorem dX9_init_4 : decode cX9_init 4 = .ok (.aload_n 0, 1) := by decide +kernel
theorem dX9_init_5 : decode cX9_init 5 = .ok (.sipush 400, 3) := by decide +kernel
theorem dX9_init_8 : decode cX9_init 8 = .ok (.newarray .byte, 2) := by decide +kernel
theorem dX9_init_10 : decode cX9_init 10 = .ok (.putfield 9, 3) := by decide +kernel
theorem dX9_init_13 : decode cX9_init 13 = .ok (.aload_n 0, 1) := by decide +kernel
theorem dX9_init_14 : decode cX9_init 14 = .ok (.new 13, 3) := by decide +kernel
theorem dX9_init_17 : decode cX9_init 17 = .ok (.dup, 1) := by decide +kernel
theorem dX9_init_18 : decode cX9_init 18 = .ok (.invokespecial 15, 3) := by decide +kernel
theorem dX9_init_21 : decode cX9_init 21 = .ok (.putfield 16, 3) := by decide +kernel
theorem dX9_init_24 : decode cX9_init 24 = .ok (.aload_n 0, 1) := by decide +kernel
theorem dX9_init_25 : decode cX9_init 25 = .ok (.new 20, 3) := by decide +kernel
theorem dX9_init_28 : decode cX9_init 28 = .ok (.dup, 1) := by decide +kernel
theorem dX9_init_29 : decode cX9_init 29 = .ok (.iconst (-1), 1) := by decide +kernel
theorem dX9_init_30 : decode cX9_init 30 = .ok (.iconst (-1), 1) := by decide +kernel
theorem dX9_init_31 : decode cX9_init 31 = .ok (.invokespecial 22, 3) := by decide +kernel
theorem dX9_init_34 : decode cX9_init 34 = .ok (.putfield 25, 3) := by decide +kernel
theorem dX9_init_37 : decode cX9_init 37 = .ok (.aload_n 0, 1) := by decide +kernel
theorem dX9_init_38 : decode cX9_init 38 = .ok (.bipush 8, 2) := by decide +kernel
theorem dX9_init_40 : decode cX9_init 40 = .ok (.anewarray 20, 3) := by decide +kernel
theorem dX9_init_43 : decode cX9_init 43 = .ok (.putfield 29, 3) := by decide +kernel
theorem dX9_init_46 : decode cX9_init 46 = .ok (.aload_n 0, 1) := by decide +kernel
theorem dX9_init_47 : decode cX9_init 47 = .ok (.bipush 40, 2) := by decide +kernel
theorem dX9_init_49 : decode cX9_init 49 = .ok (.anewarray 33, 3) := by decide +kernel
theorem dX9_init_52 : decode cX9_init 52 = .ok (.putfield 35, 3) := by decide +kernel
theorem dX9_init_55 : decode cX9_init 55 = .ok (.aload_n 0, 1) := by decide +kernel
theorem dX9_init_56 : decode cX9_init 56 = .ok (.new 39, 3) := by decide +kernel
theorem dX9_init_59 : decode cX9_init 59 = .ok (.dup, 1) := by decide +kernel
theorem dX9_init_60 : decode cX9_init 60 = .ok (.invokespecial 41, 3) := by decide +kernel
theorem dX9_init_63 : decode cX9_init 63 = .ok (.putfield 42, 3) := by decide +kernel
theorem dX9_init_66 : decode cX9_init 66 = .ok (.aload_n 0, 1) := by decide +kernel
theorem dX9_init_67 : decode cX9_init 67 = .ok (.bipush 100, 2) := by decide +kernel
theorem dX9_init_69 : decode cX9_init 69 = .ok (.anewarray 46, 3) := by decide +kernel
theorem dX9_init_72 : decode cX9_init 72 = .ok (.putfield 48, 3) := by decide +kernel
theorem dX9_init_75 : decode cX9_init 75 = .ok (.aload_n 0, 1) := by decide +kernel
theorem dX9_init_76 : decode cX9_init 76 = .ok (.bipush 100, 2) := by decide +kernel
theorem dX9_init_78 : decode cX9_init 78 = .ok (.anewarray 46, 3) := by decide +kernel
theorem dX9_init_81 : decode cX9_init 81 = .ok (.putfield 52, 3) := by decide +kernel
theorem dX9_init_84 : decode cX9_init 84 = .ok (.aload_n 0, 1) := by decide +kernel
theorem dX9_init_85 : decode cX9_init 85 = .ok (.new 55, 3) := by decide +kernel
theorem dX9_init_88 : decode cX9_init 88 = .ok (.dup, 1) := by decide +kernel
theorem dX9_init_89 : decode cX9_init 89 = .ok (.invokespecial 57, 3) := by decide +kernel
theorem dX9_init_92 : decode cX9_init 92 = .ok (.putfield 58, 3) := by decide +kernel
theorem dX9_init_95 : decode cX9_init 95 = .ok (.aload_n 0, 1) := by decide +kernel
theorem dX9_init_96 : decode cX9_init 96 = .ok (.bipush 40, 2) := by decide +kernel
theorem dX9_init_98 : decode cX9_init 98 = .ok (.newarray .int, 2) := by decide +kernel
theorem dX9_init_100 : decode cX9_init 100 = .ok (.putfield 62, 3) := by decide +kernel
theorem dX9_init_103 : decode cX9_init 103 = .ok (.aload_n 0, 1) := by decide +kernel
theorem dX9_init_104 : decode cX9_init 104 = .ok (.bipush 100, 2) := by decide +kernel
theorem dX9_init_106 : decode cX9_init 106 = .ok (.newarray .int, 2) := by decide +kernel
theorem dX9_init_108 : decode cX9_init 108 = .ok (.putfield 66, 3) := by decide +kernel
theorem dX9_init_111 : decode cX9_init 111 = .ok (.aload_n 0, 1) := by decide +kernel
theorem dX9_init_112 : decode cX9_init 112 = .ok (.new 69, 3) := by decide +kernel
theorem dX9_init_115 : decode cX9_init 115 = .ok (.dup, 1) := by decide +kernel
theorem dX9_init_116 : decode cX9_init 116 = .ok (.invokespecial 71, 3) := by decide +kernel
theorem dX9_init_119 : decode cX9_init 119 = .ok (.putfield 72, 3) := by decide +kernel
theorem dX9_init_122 : decode cX9_init 122 = .ok (.aload_n 0, 1) := by decide +kernel
theorem dX9_init_123 : decode cX9_init 123 = .ok (.new 76, 3) := by decide +kernel
theorem dX9_init_126 : decode cX9_init 126 = .ok (.dup, 1) := by decide +kernel
theorem dX9_init_127 : decode cX9_init 127 = .ok (.invokespecial 78, 3) := by decide +kernel
theorem dX9_init_130 : decode cX9_init 130 = .ok (.putfield 79, 3) := by decide +kernel
theorem dX9_init_133 : decode cX9_init 133 = .ok (.aload_n 0, 1) := by decide +kernel
theorem dX9_init_134 : decode cX9_init 134 = .ok (.new 83, 3) := by decide +kernel
theorem dX9_init_137 : decode cX9_init 137 = .ok (.dup, 1) := by decide +kernel
theorem dX9_init_138 : decode cX9_init 138 = .ok (.invokespecial 85, 3) := by decide +kernel
theorem dX9_init_141 : decode cX9_init 141 = .ok (.putfield 86, 3) := by decide +kernel
theorem dX9_init_144 : decode cX9_init 144 = .ok (.return_, 1) := by decide +kernel
set_option maxHeartbeats 4000000 in
set_option maxRecDepth 100000 in
theorem t_X9_init (l : Launch) (dC : Nat → ClassId) (dI : Nat → Nat → Nat) (dA : Nat → ClassId) (L : List Nat) (h : hx_h) (sz : Nat) (b0 : hx_z) (x : Nat) (hT : hx_T T_tb L h) (gx : hx_g L h x 125) (hz : ∀ j, h.2.1 x j = 0 ∧ h.2.2 x j = none) : Met l yX9_init (Cond.code yX9_init cX9_init 1 none :: hx_all) ({ frames := 2, cells := 43, slots := 10614, locals := 62 }) (va_Pc [.ref x] (hx_BX T_tb (P_ty dA) (dC, dI) vwCl L h sz b0)) (va_Qv (fun (u : List Nat × hx_h) => hx_T T_tb u.1 u.2 ∧ hx_S T_tb [(11, 0), (12, 0), (116, 0), (116, 1), (116, 2), (116, 3), (116, 4), (117, 1), (117, 2), (117, 3), (117, 4), (117, 5), (117, 6), (117, 7), (119, 1), (119, 2), (119, 3), (119, 4), (119, 5), (121, 2), (121, 3), (121, 4), (121, 5), (121, 6), (121, 7), (121, 8), (122, 0), (123, 0), (123, 3), (123, 5), (123, 6), (123, 7), (124, 2), (124, 3), (124, 4), (125, 0), (125, 3), (125, 4), (125, 5), (125, 7), (125, 9), (125, 10), (125, 12), (125, 14), (125, 15), (125, 16), (125, 17), (125, 18), (125, 19)] (hx_X L x) h u.1 u.2 ∧ hx_g u.1 u.2 x 9 ∧ u.2.2.1 x 2 = 0 ∧ u.2.2.1 x 6 = 0 ∧ u.2.2.1 x 8 = 0 ∧ u.2.2.1 x 11 = 0 ∧ u.2.2.1 x 13 = 0 ∧ (∃ q, u.2.2.2 x 19 = some q ∧ hx_g u.1 u.2 q 8 ∧ u.2.2.1 q 0 = 0)) (hx_E T_tb (P_ty dA) (dC, dI) vwCl (hx_A L sz)) (hx_A L sz)) 43 10614 (hx_A L sz) := by
  refine hx_metX (lv := [(0, .ref x)]) (by decide +kernel) rfl (Nat.le_of_ble_eq_true rfl) rfl ?_
  intro p e s m below meth c hx hb hml hr hlk hts0 hown hin hsz hW hZ ls hl
  have hts : ∀ w ∈ hx_all, w.before _ s = true := fun w hw => hts0 w (List.mem_cons_of_mem _ hw)
  have hown : s.vm.findClass "SmallCourt" = some m.cls := hown
  have hin : meth.name = "<init>" := hin
  have hM : hx_S T_tb [(11, 0), (12, 0), (116, 0), (116, 1), (116, 2), (116, 3), (116, 4), (117, 1), (117, 2), (117, 3), (117, 4), (117, 5), (117, 6), (117, 7), (119, 1), (119, 2), (119, 3), (119, 4), (119, 5), (121, 2), (121, 3), (121, 4), (121, 5), (121, 6), (121, 7), (121, 8), (122, 0), (123, 0), (123, 3), (123, 5), (123, 6), (123, 7), (124, 2), (124, 3), (124, 4), (125, 0), (125, 3), (125, 4), (125, 5), (125, 7), (125, 9), (125, 10), (125, 12), (125, 14), (125, 15), (125, 16), (125, 17), (125, 18), (125, 19)] (hx_X L x) h L h := hx_SX_rf
  have hz : ∀ j, ([] : List Nat).contains j = false → h.2.1 x j = 0 ∧ h.2.2 x j = none := fun j _ => hz j
  refine lv_aload_n hx hb dX9_init_0 rfl (lv_at hl 0 rfl) ?_
  refine W.objInit hx hb hown (hts _ kw_116) (hts _ kw_117) (hts _ kw_118) rfl (by rw [hml]; exact hl.1) rfl dX9_init_1 (Nat.le_of_ble_eq_true rfl) (Nat.le_of_ble_eq_true rfl) ?_
  refine W.eq (g2 := F0 m 4 ls []) rfl ?_
  refine lv_aload_n hx hb dX9_init_4 rfl (lv_at hl 0 rfl) ?_
  refine lv_sipush (v := 400) hx hb dX9_init_5 (by decide) ?_
  refine hk_newa hx hb hts hW 42 tt_42 (atype := .byte) rfl kw_147 (tys := P_ty dA) (t0 := 1) rfl (fun _ => Iff.rfl) rfl (i := (400 : Int32)) (by decide) (Nat.le_of_ble_eq_true rfl) (Nat.le_of_ble_eq_true rfl) (Nat.le_of_ble_eq_true rfl) dX9_init_8 (fun q_2 H h_1 eh_1 hqq_2 hW hs gq_2 => ?_)
  have nq_q_2 : ∀ a ∈ (hx_X L x), a ≠ q_2 := fun a ha z => hqq_2 (z ▸ (hM.1 a ha).1)
  have hT : hx_T T_tb (L ++ [q_2]) h_1 := by rw [eh_1]; exact hx_T_nw hT hqq_2 tt_42 rfl
  have hz := hx_zr [] hz hs gx trivial rfl
  have hM := hM.tr (hs.mono (by decide))
  have gx := gx.S hs
  refine hx_putrF hx hb hts hC_9 hown hW hT (hx_S.rf (M := [(125, 0)])) gx tt_125 0 (by decide) rfl kw_364 ⟨rfl, rfl, rfl⟩ rfl hin rfl (x := (some q_2)) ⟨fun _ z => (by cases z), fun q hq => (by cases hq; exact ⟨gq_2.1, by rw [gq_2.2]; decide⟩)⟩ rfl rfl rfl (List.mem_singleton.mpr rfl) dX9_init_10 (fun H locs h_3 eh_3 hW hT hs => ?_)
  have hz := hx_zr [0] hz hs gx trivial rfl
  have hM := hM.tr (hs.mono (by decide))
  have gx := gx.S hs
  have gq_2 := gq_2.S hs
  have f_4 : h_3.2.2 x 0 = (some q_2) := by rw [eh_3]; exact hx_pr_at _ _ _ _
  refine lv_aload_n hx hb dX9_init_13 rfl (lv_at hl 0 rfl) ?_
  refine hk_new hx hb hts hC_6 hown hW 122 tt_122 rfl (by decide) kw_119 kw_120 kw_95 (Nat.le_of_ble_eq_true rfl) (Nat.le_of_ble_eq_true rfl) dX9_init_14 (fun q_6 H h_5 eh_5 hqq_6 hW hs gq_6 => ?_)
  have nq_q_6 : ∀ a ∈ (hx_X L x), a ≠ q_6 := fun a ha z => hqq_6 (z ▸ (hM.1 a ha).1)
  have hT : hx_T T_tb ((L ++ [q_2]) ++ [q_6]) h_5 := by rw [eh_5]; exact hx_T_nw hT hqq_6 tt_122 rfl
  have f_4 := (hs.o gx trivial rfl).2.trans f_4
  have hz := hx_zr [0] hz hs gx trivial rfl
  have hM := hM.tr (hs.mono (by decide))
  have gx := gx.S hs
  have gq_2 := gq_2.S hs
  have fz_7 : ∀ j, ([] : List Nat).contains j = false → h_5.2.1 q_6 j = 0 ∧ h_5.2.2 q_6 j = none := by rw [eh_5]; exact fun _ _ => ⟨hx_nw_i, hx_nw_r⟩
  refine lv_dup hx hb dX9_init_17 rfl ?_
  refine hx_gov (hx_runIN (As := []) (rest := [.ref q_6, .ref x]) ⟨hx, hb, hml, hown, hts⟩ hW (t_X6_init l dC dI dA ((L ++ [q_2]) ++ [q_6]) h_5 H.size q_6 hT gq_6 (fun j => fz_7 j rfl)) ⟨va_cnB 0 hts (hx_gC kw_123) rfl rfl rfl (hZ.1 _ (List.mem_of_getElem? (i := 0) rfl)) (hts _ kw_95) (by decide +kernel) ⟨Nat.le_of_ble_eq_true rfl, Nat.le_of_ble_eq_true rfl⟩, rfl, hts _ kw_122⟩ rfl hl.1 rfl (Nat.le_of_ble_eq_true rfl) dX9_init_18 ⟨Nat.le_of_ble_eq_true rfl, Nat.le_of_ble_eq_true rfl⟩) hW (fun L_8 h_9 H locs p_11 hW => ?_)
  obtain ⟨hT, hs, gNq_6⟩ := p_11
  have hT : hx_T T_tb L_8 h_9 := hT
  have hs : hx_S T_tb [(122, 0)] (hx_X ((L ++ [q_2]) ++ [q_6]) q_6) h_5 L_8 h_9 := hs
  have gx := hx_gX gx (gx.ne gq_6 (by decide))
  have gq_2 := hx_gX gq_2 (gq_2.ne gq_6 (by decide))
  have f_4 := (hs.o gx trivial rfl).2.trans f_4
  have hz := hx_zr [0] hz hs gx trivial rfl
  have hM := hM.trX (hs.mono (by decide)) nq_q_6
  have gx := gx.S hs
  have gq_2 := gq_2.S hs
  have gq_6 : hx_g L_8 h_9 q_6 6 := gNq_6
  refine hx_putrF hx hb hts hC_9 hown hW hT (hx_S.rf (M := [(125, 3)])) gx tt_125 3 (by decide) rfl kw_367 ⟨rfl, rfl, rfl⟩ rfl hin rfl (x := (some q_6)) ⟨fun _ z => (by cases z), fun q hq => (by cases hq; exact ⟨gq_6.1, by rw [gq_6.2]; decide⟩)⟩ rfl rfl rfl (List.mem_singleton.mpr rfl) dX9_init_21 (fun H locs h_12 eh_12 hW hT hs => ?_)
  have f_4 := (hs.o gx trivial rfl).2.trans f_4
  have hz := hx_zr [0, 3] hz hs gx trivial rfl
  have hM := hM.tr (hs.mono (by decide))
  have gx := gx.S hs
  have gq_2 := gq_2.S hs
  have gq_6 := gq_6.S hs
  have f_13 : h_12.2.2 x 3 = (some q_6) := by rw [eh_12]; exact hx_pr_at _ _ _ _
  refine lv_aload_n hx hb dX9_init_24 rfl (lv_at hl 0 rfl) ?_
  refine hk_new hx hb hts hC_0 hown hW 116 tt_116 rfl (by decide) kw_148 kw_149 kw_96 (Nat.le_of_ble_eq_true rfl) (Nat.le_of_ble_eq_true rfl) dX9_init_25 (fun q_15 H h_14 eh_14 hqq_15 hW hs gq_15 => ?_)
  have nq_q_15 : ∀ a ∈ (hx_X L x), a ≠ q_15 := fun a ha z => hqq_15 (z ▸ (hM.1 a ha).1)
  have hT : hx_T T_tb (L_8 ++ [q_15]) h_14 := by rw [eh_14]; exact hx_T_nw hT hqq_15 tt_116 rfl
  have f_4 := (hs.o gx trivial rfl).2.trans f_4
  have f_13 := (hs.o gx trivial rfl).2.trans f_13
  have hz := hx_zr [0, 3] hz hs gx trivial rfl
  have hM := hM.tr (hs.mono (by decide))
  have gx := gx.S hs
  have gq_2 := gq_2.S hs
  have gq_6 := gq_6.S hs
  have fz_16 : ∀ j, ([] : List Nat).contains j = false → h_14.2.1 q_15 j = 0 ∧ h_14.2.2 q_15 j = none := by rw [eh_14]; exact fun _ _ => ⟨hx_nw_i, hx_nw_r⟩
  refine lv_dup hx hb dX9_init_28 rfl ?_
  refine lv_iconst (v := -1) hx hb dX9_init_29 (by decide) ?_
  refine lv_iconst (v := -1) hx hb dX9_init_30 (by decide) ?_
  have zc_m1 : (-1 : Int32).toInt = -1 := by decide
  refine hx_gov (hx_runIX (As := [.int (-1 : Int32), .int (-1 : Int32)]) (rest := [.ref q_15, .ref x]) ⟨hx, hb, hml, hown, hts⟩ hW (t_X0_init l dC dI dA (L_8 ++ [q_15]) h_14 H.size b0 q_15 (-1 : Int32) (-1 : Int32) hT gq_15 (fun j => fz_16 j rfl) (by decide) (by decide)) hZ (cwI 2 hts (hx_gC kw_152) rfl rfl rfl (hts _ kw_96) (hts _ kw_150) (hts _ kw_151) rfl (by decide +kernel) ⟨Nat.le_of_ble_eq_true rfl, Nat.le_of_ble_eq_true rfl⟩) rfl hl.1 rfl (Nat.le_of_ble_eq_true rfl) dX9_init_31 ⟨Nat.le_of_ble_eq_true rfl, Nat.le_of_ble_eq_true rfl⟩) hW (fun L_17 h_18 H locs p_20 hW => ?_)
  obtain ⟨hT, hs, gNq_15⟩ := p_20
  have hT : hx_T T_tb L_17 h_18 := hT
  have hs : hx_S T_tb [(11, 0), (12, 0), (116, 0), (116, 1), (116, 2), (116, 3), (116, 4)] (hx_X (L_8 ++ [q_15]) q_15) h_14 L_17 h_18 := hs
  have gx := hx_gX gx (gx.ne gq_15 (by decide))
  have gq_2 := hx_gX gq_2 (gq_2.ne gq_15 (by decide))
  have gq_6 := hx_gX gq_6 (gq_6.ne gq_15 (by decide))
  have f_4 := (hs.o gx trivial rfl).2.trans f_4
  have f_13 := (hs.o gx trivial rfl).2.trans f_13
  have hz := hx_zr [0, 3] hz hs gx trivial rfl
  have hM := hM.trX (hs.mono (by decide)) nq_q_15
  have gx := gx.S hs
  have gq_2 := gq_2.S hs
  have gq_6 := gq_6.S hs
  have gq_15 : hx_g L_17 h_18 q_15 0 := gNq_15
  refine hx_putrF hx hb hts hC_9 hown hW hT (hx_S.rf (M := [(125, 4)])) gx tt_125 4 (by decide) rfl kw_368 ⟨rfl, rfl, rfl⟩ rfl hin rfl (x := (some q_15)) ⟨fun _ z => (by cases z), fun q hq => (by cases hq; exact ⟨gq_15.1, by rw [gq_15.2]; decide⟩)⟩ rfl rfl rfl (List.mem_singleton.mpr rfl) dX9_init_34 (fun H locs h_21 eh_21 hW hT hs => ?_)
  have f_4 := (hs.o gx trivial rfl).2.trans f_4
  have f_13 := (hs.o gx trivial rfl).2.trans f_13
  have hz := hx_zr [0, 3, 4] hz hs gx trivial rfl
  have hM := hM.tr (hs.mono (by decide))
  have gx := gx.S hs
  have gq_2 := gq_2.S hs
  have gq_6 := gq_6.S hs
  have gq_15 := gq_15.S hs
  have f_22 : h_21.2.2 x 4 = (some q_15) := by rw [eh_21]; exact hx_pr_at _ _ _ _
  refine lv_aload_n hx hb dX9_init_37 rfl (lv_at hl 0 rfl) ?_
  refine lv_bipush (v := 8) hx hb dX9_init_38 (by decide) ?_
  refine hk_newqX hx hb hts hown hW 43 tt_43 kw_148 hZ.2.1.1 (tys := P_ty dA) (t0 := 4) rfl (i := (8 : Int32)) (by decide) (Nat.le_of_ble_eq_true rfl) (Nat.le_of_ble_eq_true rfl) (Nat.le_of_ble_eq_true rfl) dX9_init_40 (fun q_24 H h_23 eh_23 hqq_24 hW hs gq_24 => ?_)
  have nq_q_24 : ∀ a ∈ (hx_X L x), a ≠ q_24 := fun a ha z => hqq_24 (z ▸ (hM.1 a ha).1)
  have hT : hx_T T_tb (L_17 ++ [q_24]) h_23 := by rw [eh_23]; exact hx_T_nw hT hqq_24 tt_43 rfl
  have f_4 := (hs.o gx trivial rfl).2.trans f_4
  have f_13 := (hs.o gx trivial rfl).2.trans f_13
  have f_22 := (hs.o gx trivial rfl).2.trans f_22
  have hz := hx_zr [0, 3, 4] hz hs gx trivial rfl
  have hM := hM.tr (hs.mono (by decide))
  have gx := gx.S hs
  have gq_2 := gq_2.S hs
  have gq_6 := gq_6.S hs
  have gq_15 := gq_15.S hs
  refine hx_putrF hx hb hts hC_9 hown hW hT (hx_S.rf (M := [(125, 5)])) gx tt_125 5 (by decide) rfl kw_369 ⟨rfl, rfl, rfl⟩ rfl hin rfl (x := (some q_24)) ⟨fun _ z => (by cases z), fun q hq => (by cases hq; exact ⟨gq_24.1, by rw [gq_24.2]; decide⟩)⟩ rfl rfl rfl (List.mem_singleton.mpr rfl) dX9_init_43 (fun H locs h_25 eh_25 hW hT hs => ?_)
  have f_4 := (hs.o gx trivial rfl).2.trans f_4
  have f_13 := (hs.o gx trivial rfl).2.trans f_13
  have f_22 := (hs.o gx trivial rfl).2.trans f_22
  have hz := hx_zr [0, 3, 4, 5] hz hs gx trivial rfl
  have hM := hM.tr (hs.mono (by decide))
  have gx := gx.S hs
  have gq_2 := gq_2.S hs
  have gq_6 := gq_6.S hs
  have gq_15 := gq_15.S hs
  have gq_24 := gq_24.S hs
  have f_26 : h_25.2.2 x 5 = (some q_24) := by rw [eh_25]; exact hx_pr_at _ _ _ _
  refine lv_aload_n hx hb dX9_init_46 rfl (lv_at hl 0 rfl) ?_
  refine lv_bipush (v := 40) hx hb dX9_init_47 (by decide) ?_
  refine hk_newqX hx hb hts hown hW 44 tt_44 kw_188 hZ.2.1.2.1 (tys := P_ty dA) (t0 := 5) rfl (i := (40 : Int32)) (by decide) (Nat.le_of_ble_eq_true rfl) (Nat.le_of_ble_eq_true rfl) (Nat.le_of_ble_eq_true rfl) dX9_init_49 (fun q_28 H h_27 eh_27 hqq_28 hW hs gq_28 => ?_)
  have nq_q_28 : ∀ a ∈ (hx_X L x), a ≠ q_28 := fun a ha z => hqq_28 (z ▸ (hM.1 a ha).1)
  have hT : hx_T T_tb ((L_17 ++ [q_24]) ++ [q_28]) h_27 := by rw [eh_27]; exact hx_T_nw hT hqq_28 tt_44 rfl
  have f_4 := (hs.o gx trivial rfl).2.trans f_4
  have f_13 := (hs.o gx trivial rfl).2.trans f_13
  have f_22 := (hs.o gx trivial rfl).2.trans f_22
  have f_26 := (hs.o gx trivial rfl).2.trans f_26
  have hz := hx_zr [0, 3, 4, 5] hz hs gx trivial rfl
  have hM := hM.tr (hs.mono (by decide))
  have gx := gx.S hs
  have gq_2 := gq_2.S hs
  have gq_6 := gq_6.S hs
  have gq_15 := gq_15.S hs
  have gq_24 := gq_24.S hs
  refine hx_putrF hx hb hts hC_9 hown hW hT (hx_S.rf (M := [(125, 7)])) gx tt_125 7 (by decide) rfl kw_371 ⟨rfl, rfl, rfl⟩ rfl hin rfl (x := (some q_28)) ⟨fun _ z => (by cases z), fun q hq => (by cases hq; exact ⟨gq_28.1, by rw [gq_28.2]; decide⟩)⟩ rfl rfl rfl (List.mem_singleton.mpr rfl) dX9_init_52 (fun H locs h_29 eh_29 hW hT hs => ?_)
  have f_4 := (hs.o gx trivial rfl).2.trans f_4
  have f_13 := (hs.o gx trivial rfl).2.trans f_13
  have f_22 := (hs.o gx trivial rfl).2.trans f_22
  have f_26 := (hs.o gx trivial rfl).2.trans f_26
  have hz := hx_zr [0, 3, 4, 5, 7] hz hs gx trivial rfl
  have hM := hM.tr (hs.mono (by decide))
  have gx := gx.S hs
  have gq_2 := gq_2.S hs
  have gq_6 := gq_6.S hs
  have gq_15 := gq_15.S hs
  have gq_24 := gq_24.S hs
  have gq_28 := gq_28.S hs
  have f_30 : h_29.2.2 x 7 = (some q_28) := by rw [eh_29]; exact hx_pr_at _ _ _ _
  refine lv_aload_n hx hb dX9_init_55 rfl (lv_at hl 0 rfl) ?_
  refine hk_new hx hb hts hC_1 hown hW 117 tt_117 rfl (by decide) kw_190 kw_191 kw_98 (Nat.le_of_ble_eq_true rfl) (Nat.le_of_ble_eq_true rfl) dX9_init_56 (fun q_32 H h_31 eh_31 hqq_32 hW hs gq_32 => ?_)
  have nq_q_32 : ∀ a ∈ (hx_X L x), a ≠ q_32 := fun a ha z => hqq_32 (z ▸ (hM.1 a ha).1)
  have hT : hx_T T_tb (((L_17 ++ [q_24]) ++ [q_28]) ++ [q_32]) h_31 := by rw [eh_31]; exact hx_T_nw hT hqq_32 tt_117 rfl
  have f_4 := (hs.o gx trivial rfl).2.trans f_4
  have f_13 := (hs.o gx trivial rfl).2.trans f_13
  have f_22 := (hs.o gx trivial rfl).2.trans f_22
  have f_26 := (hs.o gx trivial rfl).2.trans f_26
  have f_30 := (hs.o gx trivial rfl).2.trans f_30
  have hz := hx_zr [0, 3, 4, 5, 7] hz hs gx trivial rfl
  have hM := hM.tr (hs.mono (by decide))
  have gx := gx.S hs
  have gq_2 := gq_2.S hs
  have gq_6 := gq_6.S hs
  have gq_15 := gq_15.S hs
  have gq_24 := gq_24.S hs
  have gq_28 := gq_28.S hs
  have fz_33 : ∀ j, ([] : List Nat).contains j = false → h_31.2.1 q_32 j = 0 ∧ h_31.2.2 q_32 j = none := by rw [eh_31]; exact fun _ _ => ⟨hx_nw_i, hx_nw_r⟩
  refine lv_dup hx hb dX9_init_59 rfl ?_
  refine hx_gov (hx_runIN (As := []) (rest := [.ref q_32, .ref x]) ⟨hx, hb, hml, hown, hts⟩ hW (t_X1_init l dC dI dA (((L_17 ++ [q_24]) ++ [q_28]) ++ [q_32]) h_31 H.size q_32 hT gq_32 (fun j => fz_33 j rfl)) ⟨va_cnB 0 hts (hx_gC kw_194) rfl rfl rfl (hZ.1 _ (List.mem_of_getElem? (i := 2) rfl)) (hts _ kw_98) (by decide +kernel) ⟨Nat.le_of_ble_eq_true rfl, Nat.le_of_ble_eq_true rfl⟩, rfl, hts _ kw_193⟩ rfl hl.1 rfl (Nat.le_of_ble_eq_true rfl) dX9_init_60 ⟨Nat.le_of_ble_eq_true rfl, Nat.le_of_ble_eq_true rfl⟩) hW (fun L_34 h_35 H locs p_37 hW => ?_)
  obtain ⟨hT, hs, gNq_32⟩ := p_37
  have hT : hx_T T_tb L_34 h_35 := hT
  have hs : hx_S T_tb [(117, 1), (117, 2), (117, 3), (117, 4), (117, 5), (117, 6), (117, 7)] (hx_X (((L_17 ++ [q_24]) ++ [q_28]) ++ [q_32]) q_32) h_31 L_34 h_35 := hs
  have gx := hx_gX gx (gx.ne gq_32 (by decide))
  have gq_2 := hx_gX gq_2 (gq_2.ne gq_32 (by decide))
  have gq_6 := hx_gX gq_6 (gq_6.ne gq_32 (by decide))
  have gq_15 := hx_gX gq_15 (gq_15.ne gq_32 (by decide))
  have gq_24 := hx_gX gq_24 (gq_24.ne gq_32 (by decide))
  have gq_28 := hx_gX gq_28 (gq_28.ne gq_32 (by decide))
  have f_4 := (hs.o gx trivial rfl).2.trans f_4
  have f_13 := (hs.o gx trivial rfl).2.trans f_13
  have f_22 := (hs.o gx trivial rfl).2.trans f_22
  have f_26 := (hs.o gx trivial rfl).2.trans f_26
  have f_30 := (hs.o gx trivial rfl).2.trans f_30
  have hz := hx_zr [0, 3, 4, 5, 7] hz hs gx trivial rfl
  have hM := hM.trX (hs.mono (by decide)) nq_q_32
  have gx := gx.S hs
  have gq_2 := gq_2.S hs
  have gq_6 := gq_6.S hs
  have gq_15 := gq_15.S hs
  have gq_24 := gq_24.S hs
  have gq_28 := gq_28.S hs
  have gq_32 : hx_g L_34 h_35 q_32 1 := gNq_32
  refine hx_putrF hx hb hts hC_9 hown hW hT (hx_S.rf (M := [(125, 9)])) gx tt_125 9 (by decide) rfl kw_373 ⟨rfl, rfl, rfl⟩ rfl hin rfl (x := (some q_32)) ⟨fun _ z => (by cases z), fun q hq => (by cases hq; exact ⟨gq_32.1, by rw [gq_32.2]; decide⟩)⟩ rfl rfl rfl (List.mem_singleton.mpr rfl) dX9_init_63 (fun H locs h_38 eh_38 hW hT hs => ?_)
  have f_4 := (hs.o gx trivial rfl).2.trans f_4
  have f_13 := (hs.o gx trivial rfl).2.trans f_13
  have f_22 := (hs.o gx trivial rfl).2.trans f_22
  have f_26 := (hs.o gx trivial rfl).2.trans f_26
  have f_30 := (hs.o gx trivial rfl).2.trans f_30
  have hz := hx_zr [0, 3, 4, 5, 7, 9] hz hs gx trivial rfl
  have hM := hM.tr (hs.mono (by decide))
  have gx := gx.S hs
  have gq_2 := gq_2.S hs
  have gq_6 := gq_6.S hs
  have gq_15 := gq_15.S hs
  have gq_24 := gq_24.S hs
  have gq_28 := gq_28.S hs
  have gq_32 := gq_32.S hs
  have f_39 : h_38.2.2 x 9 = (some q_32) := by rw [eh_38]; exact hx_pr_at _ _ _ _
  refine lv_aload_n hx hb dX9_init_66 rfl (lv_at hl 0 rfl) ?_
  refine lv_bipush (v := 100) hx hb dX9_init_67 (by decide) ?_
  refine hk_newqX hx hb hts hown hW 45 tt_45 kw_223 hZ.2.1.2.2 (tys := P_ty dA) (t0 := 6) rfl (i := (100 : Int32)) (by decide) (Nat.le_of_ble_eq_true rfl) (Nat.le_of_ble_eq_true rfl) (Nat.le_of_ble_eq_true rfl) dX9_init_69 (fun q_41 H h_40 eh_40 hqq_41 hW hs gq_41 => ?_)
  have nq_q_41 : ∀ a ∈ (hx_X L x), a ≠ q_41 := fun a ha z => hqq_41 (z ▸ (hM.1 a ha).1)
  have hT : hx_T T_tb (L_34 ++ [q_41]) h_40 := by rw [eh_40]; exact hx_T_nw hT hqq_41 tt_45 rfl
  have f_4 := (hs.o gx trivial rfl).2.trans f_4
  have f_13 := (hs.o gx trivial rfl).2.trans f_13
  have f_22 := (hs.o gx trivial rfl).2.trans f_22
  have f_26 := (hs.o gx trivial rfl).2.trans f_26
  have f_30 := (hs.o gx trivial rfl).2.trans f_30
  have f_39 := (hs.o gx trivial rfl).2.trans f_39
  have hz := hx_zr [0, 3, 4, 5, 7, 9] hz hs gx trivial rfl
  have hM := hM.tr (hs.mono (by decide))
  have gx := gx.S hs
  have gq_2 := gq_2.S hs
  have gq_6 := gq_6.S hs
  have gq_15 := gq_15.S hs
  have gq_24 := gq_24.S hs
  have gq_28 := gq_28.S hs
  have gq_32 := gq_32.S hs
  refine hx_putrF hx hb hts hC_9 hown hW hT (hx_S.rf (M := [(125, 10)])) gx tt_125 10 (by decide) rfl kw_374 ⟨rfl, rfl, rfl⟩ rfl hin rfl (x := (some q_41)) ⟨fun _ z => (by cases z), fun q hq => (by cases hq; exact ⟨gq_41.1, by rw [gq_41.2]; decide⟩)⟩ rfl rfl rfl (List.mem_singleton.mpr rfl) dX9_init_72 (fun H locs h_42 eh_42 hW hT hs => ?_)
  have f_4 := (hs.o gx trivial rfl).2.trans f_4
  have f_13 := (hs.o gx trivial rfl).2.trans f_13
  have f_22 := (hs.o gx trivial rfl).2.trans f_22
  have f_26 := (hs.o gx trivial rfl).2.trans f_26
  have f_30 := (hs.o gx trivial rfl).2.trans f_30
  have f_39 := (hs.o gx trivial rfl).2.trans f_39
  have hz := hx_zr [0, 3, 4, 5, 7, 9, 10] hz hs gx trivial rfl
  have hM := hM.tr (hs.mono (by decide))
  have gx := gx.S hs
  have gq_2 := gq_2.S hs
  have gq_6 := gq_6.S hs
  have gq_15 := gq_15.S hs
  have gq_24 := gq_24.S hs
  have gq_28 := gq_28.S hs
  have gq_32 := gq_32.S hs
  have gq_41 := gq_41.S hs
  have f_43 : h_42.2.2 x 10 = (some q_41) := by rw [eh_42]; exact hx_pr_at _ _ _ _
  refine lv_aload_n hx hb dX9_init_75 rfl (lv_at hl 0 rfl) ?_
  refine lv_bipush (v := 100) hx hb dX9_init_76 (by decide) ?_
  refine hk_newqX hx hb hts hown hW 46 tt_46 kw_223 hZ.2.1.2.2 (tys := P_ty dA) (t0 := 6) rfl (i := (100 : Int32)) (by decide) (Nat.le_of_ble_eq_true rfl) (Nat.le_of_ble_eq_true rfl) (Nat.le_of_ble_eq_true rfl) dX9_init_78 (fun q_45 H h_44 eh_44 hqq_45 hW hs gq_45 => ?_)
  have nq_q_45 : ∀ a ∈ (hx_X L x), a ≠ q_45 := fun a ha z => hqq_45 (z ▸ (hM.1 a ha).1)
  have hT : hx_T T_tb ((L_34 ++ [q_41]) ++ [q_45]) h_44 := by rw [eh_44]; exact hx_T_nw hT hqq_45 tt_46 rfl
  have f_4 := (hs.o gx trivial rfl).2.trans f_4
  have f_13 := (hs.o gx trivial rfl).2.trans f_13
  have f_22 := (hs.o gx trivial rfl).2.trans f_22
  have f_26 := (hs.o gx trivial rfl).2.trans f_26
  have f_30 := (hs.o gx trivial rfl).2.trans f_30
  have f_39 := (hs.o gx trivial rfl).2.trans f_39
  have f_43 := (hs.o gx trivial rfl).2.trans f_43
  have hz := hx_zr [0, 3, 4, 5, 7, 9, 10] hz hs gx trivial rfl
  have hM := hM.tr (hs.mono (by decide))
  have gx := gx.S hs
  have gq_2 := gq_2.S hs
  have gq_6 := gq_6.S hs
  have gq_15 := gq_15.S hs
  have gq_24 := gq_24.S hs
  have gq_28 := gq_28.S hs
  have gq_32 := gq_32.S hs
  have gq_41 := gq_41.S hs
  refine hx_putrF hx hb hts hC_9 hown hW hT (hx_S.rf (M := [(125, 12)])) gx tt_125 12 (by decide) rfl kw_376 ⟨rfl, rfl, rfl⟩ rfl hin rfl (x := (some q_45)) ⟨fun _ z => (by cases z), fun q hq => (by cases hq; exact ⟨gq_45.1, by rw [gq_45.2]; decide⟩)⟩ rfl rfl rfl (List.mem_singleton.mpr rfl) dX9_init_81 (fun H locs h_46 eh_46 hW hT hs => ?_)
  have f_4 := (hs.o gx trivial rfl).2.trans f_4
  have f_13 := (hs.o gx trivial rfl).2.trans f_13
  have f_22 := (hs.o gx trivial rfl).2.trans f_22
  have f_26 := (hs.o gx trivial rfl).2.trans f_26
  have f_30 := (hs.o gx trivial rfl).2.trans f_30
  have f_39 := (hs.o gx trivial rfl).2.trans f_39
  have f_43 := (hs.o gx trivial rfl).2.trans f_43
  have hz := hx_zr [0, 3, 4, 5, 7, 9, 10, 12] hz hs gx trivial rfl
  have hM := hM.tr (hs.mono (by decide))
  have gx := gx.S hs
  have gq_2 := gq_2.S hs
  have gq_6 := gq_6.S hs
  have gq_15 := gq_15.S hs
  have gq_24 := gq_24.S hs
  have gq_28 := gq_28.S hs
  have gq_32 := gq_32.S hs
  have gq_41 := gq_41.S hs
  have gq_45 := gq_45.S hs
  have f_47 : h_46.2.2 x 12 = (some q_45) := by rw [eh_46]; exact hx_pr_at _ _ _ _
  refine lv_aload_n hx hb dX9_init_84 rfl (lv_at hl 0 rfl) ?_
  refine hk_new hx hb hts hC_3 hown hW 119 tt_119 rfl (by decide) kw_225 kw_226 kw_99 (Nat.le_of_ble_eq_true rfl) (Nat.le_of_ble_eq_true rfl) dX9_init_85 (fun q_49 H h_48 eh_48 hqq_49 hW hs gq_49 => ?_)
  have nq_q_49 : ∀ a ∈ (hx_X L x), a ≠ q_49 := fun a ha z => hqq_49 (z ▸ (hM.1 a ha).1)
  have hT : hx_T T_tb (((L_34 ++ [q_41]) ++ [q_45]) ++ [q_49]) h_48 := by rw [eh_48]; exact hx_T_nw hT hqq_49 tt_119 rfl
  have f_4 := (hs.o gx trivial rfl).2.trans f_4
  have f_13 := (hs.o gx trivial rfl).2.trans f_13
  have f_22 := (hs.o gx trivial rfl).2.trans f_22
  have f_26 := (hs.o gx trivial rfl).2.trans f_26
  have f_30 := (hs.o gx trivial rfl).2.trans f_30
  have f_39 := (hs.o gx trivial rfl).2.trans f_39
  have f_43 := (hs.o gx trivial rfl).2.trans f_43
  have f_47 := (hs.o gx trivial rfl).2.trans f_47
  have hz := hx_zr [0, 3, 4, 5, 7, 9, 10, 12] hz hs gx trivial rfl
  have hM := hM.tr (hs.mono (by decide))
  have gx := gx.S hs
  have gq_2 := gq_2.S hs
  have gq_6 := gq_6.S hs
  have gq_15 := gq_15.S hs
  have gq_24 := gq_24.S hs
  have gq_28 := gq_28.S hs
  have gq_32 := gq_32.S hs
  have gq_41 := gq_41.S hs
  have gq_45 := gq_45.S hs
  have fz_50 : ∀ j, ([] : List Nat).contains j = false → h_48.2.1 q_49 j = 0 ∧ h_48.2.2 q_49 j = none := by rw [eh_48]; exact fun _ _ => ⟨hx_nw_i, hx_nw_r⟩
  refine lv_dup hx hb dX9_init_88 rfl ?_
  refine hx_gov (hx_runIN (As := []) (rest := [.ref q_49, .ref x]) ⟨hx, hb, hml, hown, hts⟩ hW (t_X3_init l dC dI dA (((L_34 ++ [q_41]) ++ [q_45]) ++ [q_49]) h_48 H.size q_49 hT gq_49 (fun j => fz_50 j rfl)) ⟨va_cnB 0 hts (hx_gC kw_229) rfl rfl rfl (hZ.1 _ (List.mem_of_getElem? (i := 3) rfl)) (hts _ kw_99) (by decide +kernel) ⟨Nat.le_of_ble_eq_true rfl, Nat.le_of_ble_eq_true rfl⟩, rfl, hts _ kw_228⟩ rfl hl.1 rfl (Nat.le_of_ble_eq_true rfl) dX9_init_89 ⟨Nat.le_of_ble_eq_true rfl, Nat.le_of_ble_eq_true rfl⟩) hW (fun L_51 h_52 H locs p_54 hW => ?_)
  obtain ⟨hT, hs, gNq_49⟩ := p_54
  have hT : hx_T T_tb L_51 h_52 := hT
  have hs : hx_S T_tb [(119, 1), (119, 2), (119, 3), (119, 4), (119, 5)] (hx_X (((L_34 ++ [q_41]) ++ [q_45]) ++ [q_49]) q_49) h_48 L_51 h_52 := hs
  have gx := hx_gX gx (gx.ne gq_49 (by decide))
  have gq_2 := hx_gX gq_2 (gq_2.ne gq_49 (by decide))
  have gq_6 := hx_gX gq_6 (gq_6.ne gq_49 (by decide))
  have gq_15 := hx_gX gq_15 (gq_15.ne gq_49 (by decide))
  have gq_24 := hx_gX gq_24 (gq_24.ne gq_49 (by decide))
  have gq_28 := hx_gX gq_28 (gq_28.ne gq_49 (by decide))
  have gq_32 := hx_gX gq_32 (gq_32.ne gq_49 (by decide))
  have gq_41 := hx_gX gq_41 (gq_41.ne gq_49 (by decide))
  have gq_45 := hx_gX gq_45 (gq_45.ne gq_49 (by decide))
  have f_4 := (hs.o gx trivial rfl).2.trans f_4
  have f_13 := (hs.o gx trivial rfl).2.trans f_13
  have f_22 := (hs.o gx trivial rfl).2.trans f_22
  have f_26 := (hs.o gx trivial rfl).2.trans f_26
  have f_30 := (hs.o gx trivial rfl).2.trans f_30
  have f_39 := (hs.o gx trivial rfl).2.trans f_39
  have f_43 := (hs.o gx trivial rfl).2.trans f_43
  have f_47 := (hs.o gx trivial rfl).2.trans f_47
  have hz := hx_zr [0, 3, 4, 5, 7, 9, 10, 12] hz hs gx trivial rfl
  have hM := hM.trX (hs.mono (by decide)) nq_q_49
  have gx := gx.S hs
  have gq_2 := gq_2.S hs
  have gq_6 := gq_6.S hs
  have gq_15 := gq_15.S hs
  have gq_24 := gq_24.S hs
  have gq_28 := gq_28.S hs
  have gq_32 := gq_32.S hs
  have gq_41 := gq_41.S hs
  have gq_45 := gq_45.S hs
  have gq_49 : hx_g L_51 h_52 q_49 3 := gNq_49
  refine hx_putrF hx hb hts hC_9 hown hW hT (hx_S.rf (M := [(125, 14)])) gx tt_125 14 (by decide) rfl kw_378 ⟨rfl, rfl, rfl⟩ rfl hin rfl (x := (some q_49)) ⟨fun _ z => (by cases z), fun q hq => (by cases hq; exact ⟨gq_49.1, by rw [gq_49.2]; decide⟩)⟩ rfl rfl rfl (List.mem_singleton.mpr rfl) dX9_init_92 (fun H locs h_55 eh_55 hW hT hs => ?_)
  have f_4 := (hs.o gx trivial rfl).2.trans f_4
  have f_13 := (hs.o gx trivial rfl).2.trans f_13
  have f_22 := (hs.o gx trivial rfl).2.trans f_22
  have f_26 := (hs.o gx trivial rfl).2.trans f_26
  have f_30 := (hs.o gx trivial rfl).2.trans f_30
  have f_39 := (hs.o gx trivial rfl).2.trans f_39
  have f_43 := (hs.o gx trivial rfl).2.trans f_43
  have f_47 := (hs.o gx trivial rfl).2.trans f_47
  have hz := hx_zr [0, 3, 4, 5, 7, 9, 10, 12, 14] hz hs gx trivial rfl
  have hM := hM.tr (hs.mono (by decide))
  have gx := gx.S hs
  have gq_2 := gq_2.S hs
  have gq_6 := gq_6.S hs
  have gq_15 := gq_15.S hs
  have gq_24 := gq_24.S hs
  have gq_28 := gq_28.S hs
  have gq_32 := gq_32.S hs
  have gq_41 := gq_41.S hs
  have gq_45 := gq_45.S hs
  have gq_49 := gq_49.S hs
  have f_56 : h_55.2.2 x 14 = (some q_49) := by rw [eh_55]; exact hx_pr_at _ _ _ _
  refine lv_aload_n hx hb dX9_init_95 rfl (lv_at hl 0 rfl) ?_
  refine lv_bipush (v := 40) hx hb dX9_init_96 (by decide) ?_
  refine hk_newa hx hb hts hW 47 tt_47 (atype := .int) rfl kw_186 (tys := P_ty dA) (t0 := 0) rfl (fun _ => Iff.rfl) rfl (i := (40 : Int32)) (by decide) (Nat.le_of_ble_eq_true rfl) (Nat.le_of_ble_eq_true rfl) (Nat.le_of_ble_eq_true rfl) dX9_init_98 (fun q_58 H h_57 eh_57 hqq_58 hW hs gq_58 => ?_)
  have nq_q_58 : ∀ a ∈ (hx_X L x), a ≠ q_58 := fun a ha z => hqq_58 (z ▸ (hM.1 a ha).1)
  have hT : hx_T T_tb (L_51 ++ [q_58]) h_57 := by rw [eh_57]; exact hx_T_nw hT hqq_58 tt_47 rfl
  have f_4 := (hs.o gx trivial rfl).2.trans f_4
  have f_13 := (hs.o gx trivial rfl).2.trans f_13
  have f_22 := (hs.o gx trivial rfl).2.trans f_22
  have f_26 := (hs.o gx trivial rfl).2.trans f_26
  have f_30 := (hs.o gx trivial rfl).2.trans f_30
  have f_39 := (hs.o gx trivial rfl).2.trans f_39
  have f_43 := (hs.o gx trivial rfl).2.trans f_43
  have f_47 := (hs.o gx trivial rfl).2.trans f_47
  have f_56 := (hs.o gx trivial rfl).2.trans f_56
  have hz := hx_zr [0, 3, 4, 5, 7, 9, 10, 12, 14] hz hs gx trivial rfl
  have hM := hM.tr (hs.mono (by decide))
  have gx := gx.S hs
  have gq_2 := gq_2.S hs
  have gq_6 := gq_6.S hs
  have gq_15 := gq_15.S hs
  have gq_24 := gq_24.S hs
  have gq_28 := gq_28.S hs
  have gq_32 := gq_32.S hs
  have gq_41 := gq_41.S hs
  have gq_45 := gq_45.S hs
  have gq_49 := gq_49.S hs
  refine hx_putrF hx hb hts hC_9 hown hW hT (hx_S.rf (M := [(125, 15)])) gx tt_125 15 (by decide) rfl kw_379 ⟨rfl, rfl, rfl⟩ rfl hin rfl (x := (some q_58)) ⟨fun _ z => (by cases z), fun q hq => (by cases hq; exact ⟨gq_58.1, by rw [gq_58.2]; decide⟩)⟩ rfl rfl rfl (List.mem_singleton.mpr rfl) dX9_init_100 (fun H locs h_59 eh_59 hW hT hs => ?_)
  have f_4 := (hs.o gx trivial rfl).2.trans f_4
  have f_13 := (hs.o gx trivial rfl).2.trans f_13
  have f_22 := (hs.o gx trivial rfl).2.trans f_22
  have f_26 := (hs.o gx trivial rfl).2.trans f_26
  have f_30 := (hs.o gx trivial rfl).2.trans f_30
  have f_39 := (hs.o gx trivial rfl).2.trans f_39
  have f_43 := (hs.o gx trivial rfl).2.trans f_43
  have f_47 := (hs.o gx trivial rfl).2.trans f_47
  have f_56 := (hs.o gx trivial rfl).2.trans f_56
  have hz := hx_zr [0, 3, 4, 5, 7, 9, 10, 12, 14, 15] hz hs gx trivial rfl
  have hM := hM.tr (hs.mono (by decide))
  have gx := gx.S hs
  have gq_2 := gq_2.S hs
  have gq_6 := gq_6.S hs
  have gq_15 := gq_15.S hs
  have gq_24 := gq_24.S hs
  have gq_28 := gq_28.S hs
  have gq_32 := gq_32.S hs
  have gq_41 := gq_41.S hs
  have gq_45 := gq_45.S hs
  have gq_49 := gq_49.S hs
  have gq_58 := gq_58.S hs
  have f_60 : h_59.2.2 x 15 = (some q_58) := by rw [eh_59]; exact hx_pr_at _ _ _ _
  refine lv_aload_n hx hb dX9_init_103 rfl (lv_at hl 0 rfl) ?_
  refine lv_bipush (v := 100) hx hb dX9_init_104 (by decide) ?_
  refine hk_newa hx hb hts hW 48 tt_48 (atype := .int) rfl kw_186 (tys := P_ty dA) (t0 := 0) rfl (fun _ => Iff.rfl) rfl (i := (100 : Int32)) (by decide) (Nat.le_of_ble_eq_true rfl) (Nat.le_of_ble_eq_true rfl) (Nat.le_of_ble_eq_true rfl) dX9_init_106 (fun q_62 H h_61 eh_61 hqq_62 hW hs gq_62 => ?_)
  have nq_q_62 : ∀ a ∈ (hx_X L x), a ≠ q_62 := fun a ha z => hqq_62 (z ▸ (hM.1 a ha).1)
  have hT : hx_T T_tb ((L_51 ++ [q_58]) ++ [q_62]) h_61 := by rw [eh_61]; exact hx_T_nw hT hqq_62 tt_48 rfl
  have f_4 := (hs.o gx trivial rfl).2.trans f_4
  have f_13 := (hs.o gx trivial rfl).2.trans f_13
  have f_22 := (hs.o gx trivial rfl).2.trans f_22
  have f_26 := (hs.o gx trivial rfl).2.trans f_26
  have f_30 := (hs.o gx trivial rfl).2.trans f_30
  have f_39 := (hs.o gx trivial rfl).2.trans f_39
  have f_43 := (hs.o gx trivial rfl).2.trans f_43
  have f_47 := (hs.o gx trivial rfl).2.trans f_47
  have f_56 := (hs.o gx trivial rfl).2.trans f_56
  have f_60 := (hs.o gx trivial rfl).2.trans f_60
  have hz := hx_zr [0, 3, 4, 5, 7, 9, 10, 12, 14, 15] hz hs gx trivial rfl
  have hM := hM.tr (hs.mono (by decide))
  have gx := gx.S hs
  have gq_2 := gq_2.S hs
  have gq_6 := gq_6.S hs
  have gq_15 := gq_15.S hs
  have gq_24 := gq_24.S hs
  have gq_28 := gq_28.S hs
  have gq_32 := gq_32.S hs
  have gq_41 := gq_41.S hs
  have gq_45 := gq_45.S hs
  have gq_49 := gq_49.S hs
  have gq_58 := gq_58.S hs
  refine hx_putrF hx hb hts hC_9 hown hW hT (hx_S.rf (M := [(125, 16)])) gx tt_125 16 (by decide) rfl kw_380 ⟨rfl, rfl, rfl⟩ rfl hin rfl (x := (some q_62)) ⟨fun _ z => (by cases z), fun q hq => (by cases hq; exact ⟨gq_62.1, by rw [gq_62.2]; decide⟩)⟩ rfl rfl rfl (List.mem_singleton.mpr rfl) dX9_init_108 (fun H locs h_63 eh_63 hW hT hs => ?_)
  have f_4 := (hs.o gx trivial rfl).2.trans f_4
  have f_13 := (hs.o gx trivial rfl).2.trans f_13
  have f_22 := (hs.o gx trivial rfl).2.trans f_22
  have f_26 := (hs.o gx trivial rfl).2.trans f_26
  have f_30 := (hs.o gx trivial rfl).2.trans f_30
  have f_39 := (hs.o gx trivial rfl).2.trans f_39
  have f_43 := (hs.o gx trivial rfl).2.trans f_43
  have f_47 := (hs.o gx trivial rfl).2.trans f_47
  have f_56 := (hs.o gx trivial rfl).2.trans f_56
  have f_60 := (hs.o gx trivial rfl).2.trans f_60
  have hz := hx_zr [0, 3, 4, 5, 7, 9, 10, 12, 14, 15, 16] hz hs gx trivial rfl
  have hM := hM.tr (hs.mono (by decide))
  have gx := gx.S hs
  have gq_2 := gq_2.S hs
  have gq_6 := gq_6.S hs
  have gq_15 := gq_15.S hs
  have gq_24 := gq_24.S hs
  have gq_28 := gq_28.S hs
  have gq_32 := gq_32.S hs
  have gq_41 := gq_41.S hs
  have gq_45 := gq_45.S hs
  have gq_49 := gq_49.S hs
  have gq_58 := gq_58.S hs
  have gq_62 := gq_62.S hs
  have f_64 : h_63.2.2 x 16 = (some q_62) := by rw [eh_63]; exact hx_pr_at _ _ _ _
  refine lv_aload_n hx hb dX9_init_111 rfl (lv_at hl 0 rfl) ?_
  refine hk_new hx hb hts hC_5 hown hW 121 tt_121 rfl (by decide) kw_252 kw_253 kw_100 (Nat.le_of_ble_eq_true rfl) (Nat.le_of_ble_eq_true rfl) dX9_init_112 (fun q_66 H h_65 eh_65 hqq_66 hW hs gq_66 => ?_)
  have nq_q_66 : ∀ a ∈ (hx_X L x), a ≠ q_66 := fun a ha z => hqq_66 (z ▸ (hM.1 a ha).1)
  have hT : hx_T T_tb (((L_51 ++ [q_58]) ++ [q_62]) ++ [q_66]) h_65 := by rw [eh_65]; exact hx_T_nw hT hqq_66 tt_121 rfl
  have f_4 := (hs.o gx trivial rfl).2.trans f_4
  have f_13 := (hs.o gx trivial rfl).2.trans f_13
  have f_22 := (hs.o gx trivial rfl).2.trans f_22
  have f_26 := (hs.o gx trivial rfl).2.trans f_26
  have f_30 := (hs.o gx trivial rfl).2.trans f_30
  have f_39 := (hs.o gx trivial rfl).2.trans f_39
  have f_43 := (hs.o gx trivial rfl).2.trans f_43
  have f_47 := (hs.o gx trivial rfl).2.trans f_47
  have f_56 := (hs.o gx trivial rfl).2.trans f_56
  have f_60 := (hs.o gx trivial rfl).2.trans f_60
  have f_64 := (hs.o gx trivial rfl).2.trans f_64
  have hz := hx_zr [0, 3, 4, 5, 7, 9, 10, 12, 14, 15, 16] hz hs gx trivial rfl
  have hM := hM.tr (hs.mono (by decide))
  have gx := gx.S hs
  have gq_2 := gq_2.S hs
  have gq_6 := gq_6.S hs
  have gq_15 := gq_15.S hs
  have gq_24 := gq_24.S hs
  have gq_28 := gq_28.S hs
  have gq_32 := gq_32.S hs
  have gq_41 := gq_41.S hs
  have gq_45 := gq_45.S hs
  have gq_49 := gq_49.S hs
  have gq_58 := gq_58.S hs
  have gq_62 := gq_62.S hs
  have fz_67 : ∀ j, ([] : List Nat).contains j = false → h_65.2.1 q_66 j = 0 ∧ h_65.2.2 q_66 j = none := by rw [eh_65]; exact fun _ _ => ⟨hx_nw_i, hx_nw_r⟩
  refine lv_dup hx hb dX9_init_115 rfl ?_
  refine hx_gov (hx_runIN (As := []) (rest := [.ref q_66, .ref x]) ⟨hx, hb, hml, hown, hts⟩ hW (t_X5_init l dC dI dA (((L_51 ++ [q_58]) ++ [q_62]) ++ [q_66]) h_65 H.size q_66 hT gq_66 (fun j => fz_67 j rfl)) ⟨va_cnB 0 hts (hx_gC kw_256) rfl rfl rfl (hZ.1 _ (List.mem_of_getElem? (i := 4) rfl)) (hts _ kw_100) (by decide +kernel) ⟨Nat.le_of_ble_eq_true rfl, Nat.le_of_ble_eq_true rfl⟩, rfl, hts _ kw_255⟩ rfl hl.1 rfl (Nat.le_of_ble_eq_true rfl) dX9_init_116 ⟨Nat.le_of_ble_eq_true rfl, Nat.le_of_ble_eq_true rfl⟩) hW (fun L_68 h_69 H locs p_71 hW => ?_)
  obtain ⟨hT, hs, gNq_66⟩ := p_71
  have hT : hx_T T_tb L_68 h_69 := hT
  have hs : hx_S T_tb [(121, 2), (121, 3), (121, 4), (121, 5), (121, 6), (121, 7), (121, 8)] (hx_X (((L_51 ++ [q_58]) ++ [q_62]) ++ [q_66]) q_66) h_65 L_68 h_69 := hs
  have gx := hx_gX gx (gx.ne gq_66 (by decide))
  have gq_2 := hx_gX gq_2 (gq_2.ne gq_66 (by decide))
  have gq_6 := hx_gX gq_6 (gq_6.ne gq_66 (by decide))
  have gq_15 := hx_gX gq_15 (gq_15.ne gq_66 (by decide))
  have gq_24 := hx_gX gq_24 (gq_24.ne gq_66 (by decide))
  have gq_28 := hx_gX gq_28 (gq_28.ne gq_66 (by decide))
  have gq_32 := hx_gX gq_32 (gq_32.ne gq_66 (by decide))
  have gq_41 := hx_gX gq_41 (gq_41.ne gq_66 (by decide))
  have gq_45 := hx_gX gq_45 (gq_45.ne gq_66 (by decide))
  have gq_49 := hx_gX gq_49 (gq_49.ne gq_66 (by decide))
  have gq_58 := hx_gX gq_58 (gq_58.ne gq_66 (by decide))
  have gq_62 := hx_gX gq_62 (gq_62.ne gq_66 (by decide))
  have f_4 := (hs.o gx trivial rfl).2.trans f_4
  have f_13 := (hs.o gx trivial rfl).2.trans f_13
  have f_22 := (hs.o gx trivial rfl).2.trans f_22
  have f_26 := (hs.o gx trivial rfl).2.trans f_26
  have f_30 := (hs.o gx trivial rfl).2.trans f_30
  have f_39 := (hs.o gx trivial rfl).2.trans f_39
  have f_43 := (hs.o gx trivial rfl).2.trans f_43
  have f_47 := (hs.o gx trivial rfl).2.trans f_47
  have f_56 := (hs.o gx trivial rfl).2.trans f_56
  have f_60 := (hs.o gx trivial rfl).2.trans f_60
  have f_64 := (hs.o gx trivial rfl).2.trans f_64
  have hz := hx_zr [0, 3, 4, 5, 7, 9, 10, 12, 14, 15, 16] hz hs gx trivial rfl
  have hM := hM.trX (hs.mono (by decide)) nq_q_66
  have gx := gx.S hs
  have gq_2 := gq_2.S hs
  have gq_6 := gq_6.S hs
  have gq_15 := gq_15.S hs
  have gq_24 := gq_24.S hs
  have gq_28 := gq_28.S hs
  have gq_32 := gq_32.S hs
  have gq_41 := gq_41.S hs
  have gq_45 := gq_45.S hs
  have gq_49 := gq_49.S hs
  have gq_58 := gq_58.S hs
  have gq_62 := gq_62.S hs
  have gq_66 : hx_g L_68 h_69 q_66 5 := gNq_66
  refine hx_putrF hx hb hts hC_9 hown hW hT (hx_S.rf (M := [(125, 17)])) gx tt_125 17 (by decide) rfl kw_381 ⟨rfl, rfl, rfl⟩ rfl hin rfl (x := (some q_66)) ⟨fun _ z => (by cases z), fun q hq => (by cases hq; exact ⟨gq_66.1, by rw [gq_66.2]; decide⟩)⟩ rfl rfl rfl (List.mem_singleton.mpr rfl) dX9_init_119 (fun H locs h_72 eh_72 hW hT hs => ?_)
  have f_4 := (hs.o gx trivial rfl).2.trans f_4
  have f_13 := (hs.o gx trivial rfl).2.trans f_13
  have f_22 := (hs.o gx trivial rfl).2.trans f_22
  have f_26 := (hs.o gx trivial rfl).2.trans f_26
  have f_30 := (hs.o gx trivial rfl).2.trans f_30
  have f_39 := (hs.o gx trivial rfl).2.trans f_39
  have f_43 := (hs.o gx trivial rfl).2.trans f_43
  have f_47 := (hs.o gx trivial rfl).2.trans f_47
  have f_56 := (hs.o gx trivial rfl).2.trans f_56
  have f_60 := (hs.o gx trivial rfl).2.trans f_60
  have f_64 := (hs.o gx trivial rfl).2.trans f_64
  have hz := hx_zr [0, 3, 4, 5, 7, 9, 10, 12, 14, 15, 16, 17] hz hs gx trivial rfl
  have hM := hM.tr (hs.mono (by decide))
  have gx := gx.S hs
  have gq_2 := gq_2.S hs
  have gq_6 := gq_6.S hs
  have gq_15 := gq_15.S hs
  have gq_24 := gq_24.S hs
  have gq_28 := gq_28.S hs
  have gq_32 := gq_32.S hs
  have gq_41 := gq_41.S hs
  have gq_45 := gq_45.S hs
  have gq_49 := gq_49.S hs
  have gq_58 := gq_58.S hs
  have gq_62 := gq_62.S hs
  have gq_66 := gq_66.S hs
  have f_73 : h_72.2.2 x 17 = (some q_66) := by rw [eh_72]; exact hx_pr_at _ _ _ _
  refine lv_aload_n hx hb dX9_init_122 rfl (lv_at hl 0 rfl) ?_
  refine hk_new hx hb hts hC_7 hown hW 123 tt_123 rfl (by decide) kw_303 kw_304 kw_101 (Nat.le_of_ble_eq_true rfl) (Nat.le_of_ble_eq_true rfl) dX9_init_123 (fun q_75 H h_74 eh_74 hqq_75 hW hs gq_75 => ?_)
  have nq_q_75 : ∀ a ∈ (hx_X L x), a ≠ q_75 := fun a ha z => hqq_75 (z ▸ (hM.1 a ha).1)
  have hT : hx_T T_tb (L_68 ++ [q_75]) h_74 := by rw [eh_74]; exact hx_T_nw hT hqq_75 tt_123 rfl
  have f_4 := (hs.o gx trivial rfl).2.trans f_4
  have f_13 := (hs.o gx trivial rfl).2.trans f_13
  have f_22 := (hs.o gx trivial rfl).2.trans f_22
  have f_26 := (hs.o gx trivial rfl).2.trans f_26
  have f_30 := (hs.o gx trivial rfl).2.trans f_30
  have f_39 := (hs.o gx trivial rfl).2.trans f_39
  have f_43 := (hs.o gx trivial rfl).2.trans f_43
  have f_47 := (hs.o gx trivial rfl).2.trans f_47
  have f_56 := (hs.o gx trivial rfl).2.trans f_56
  have f_60 := (hs.o gx trivial rfl).2.trans f_60
  have f_64 := (hs.o gx trivial rfl).2.trans f_64
  have f_73 := (hs.o gx trivial rfl).2.trans f_73
  have hz := hx_zr [0, 3, 4, 5, 7, 9, 10, 12, 14, 15, 16, 17] hz hs gx trivial rfl
  have hM := hM.tr (hs.mono (by decide))
  have gx := gx.S hs
  have gq_2 := gq_2.S hs
  have gq_6 := gq_6.S hs
  have gq_15 := gq_15.S hs
  have gq_24 := gq_24.S hs
  have gq_28 := gq_28.S hs
  have gq_32 := gq_32.S hs
  have gq_41 := gq_41.S hs
  have gq_45 := gq_45.S hs
  have gq_49 := gq_49.S hs
  have gq_58 := gq_58.S hs
  have gq_62 := gq_62.S hs
  have gq_66 := gq_66.S hs
  have fz_76 : ∀ j, ([] : List Nat).contains j = false → h_74.2.1 q_75 j = 0 ∧ h_74.2.2 q_75 j = none := by rw [eh_74]; exact fun _ _ => ⟨hx_nw_i, hx_nw_r⟩
  refine lv_dup hx hb dX9_init_126 rfl ?_
  refine hx_gov (hx_runIN (As := []) (rest := [.ref q_75, .ref x]) ⟨hx, hb, hml, hown, hts⟩ hW (t_X7_init l dC dI dA (L_68 ++ [q_75]) h_74 H.size q_75 hT gq_75 (fun j => fz_76 j rfl)) ⟨va_cnB 0 hts (hx_gC kw_307) rfl rfl rfl (hZ.1 _ (List.mem_of_getElem? (i := 5) rfl)) (hts _ kw_101) (by decide +kernel) ⟨Nat.le_of_ble_eq_true rfl, Nat.le_of_ble_eq_true rfl⟩, rfl, hts _ kw_306⟩ rfl hl.1 rfl (Nat.le_of_ble_eq_true rfl) dX9_init_127 ⟨Nat.le_of_ble_eq_true rfl, Nat.le_of_ble_eq_true rfl⟩) hW (fun L_77 h_78 H locs p_80 hW => ?_)
  obtain ⟨hT, hs, gNq_75⟩ := p_80
  have hT : hx_T T_tb L_77 h_78 := hT
  have hs : hx_S T_tb [(123, 0), (123, 3), (123, 5), (123, 6), (123, 7)] (hx_X (L_68 ++ [q_75]) q_75) h_74 L_77 h_78 := hs
  have gx := hx_gX gx (gx.ne gq_75 (by decide))
  have gq_2 := hx_gX gq_2 (gq_2.ne gq_75 (by decide))
  have gq_6 := hx_gX gq_6 (gq_6.ne gq_75 (by decide))
  have gq_15 := hx_gX gq_15 (gq_15.ne gq_75 (by decide))
  have gq_24 := hx_gX gq_24 (gq_24.ne gq_75 (by decide))
  have gq_28 := hx_gX gq_28 (gq_28.ne gq_75 (by decide))
  have gq_32 := hx_gX gq_32 (gq_32.ne gq_75 (by decide))
  have gq_41 := hx_gX gq_41 (gq_41.ne gq_75 (by decide))
  have gq_45 := hx_gX gq_45 (gq_45.ne gq_75 (by decide))
  have gq_49 := hx_gX gq_49 (gq_49.ne gq_75 (by decide))
  have gq_58 := hx_gX gq_58 (gq_58.ne gq_75 (by decide))
  have gq_62 := hx_gX gq_62 (gq_62.ne gq_75 (by decide))
  have gq_66 := hx_gX gq_66 (gq_66.ne gq_75 (by decide))
  have f_4 := (hs.o gx trivial rfl).2.trans f_4
  have f_13 := (hs.o gx trivial rfl).2.trans f_13
  have f_22 := (hs.o gx trivial rfl).2.trans f_22
  have f_26 := (hs.o gx trivial rfl).2.trans f_26
  have f_30 := (hs.o gx trivial rfl).2.trans f_30
  have f_39 := (hs.o gx trivial rfl).2.trans f_39
  have f_43 := (hs.o gx trivial rfl).2.trans f_43
  have f_47 := (hs.o gx trivial rfl).2.trans f_47
  have f_56 := (hs.o gx trivial rfl).2.trans f_56
  have f_60 := (hs.o gx trivial rfl).2.trans f_60
  have f_64 := (hs.o gx trivial rfl).2.trans f_64
  have f_73 := (hs.o gx trivial rfl).2.trans f_73
  have hz := hx_zr [0, 3, 4, 5, 7, 9, 10, 12, 14, 15, 16, 17] hz hs gx trivial rfl
  have hM := hM.trX (hs.mono (by decide)) nq_q_75
  have gx := gx.S hs
  have gq_2 := gq_2.S hs
  have gq_6 := gq_6.S hs
  have gq_15 := gq_15.S hs
  have gq_24 := gq_24.S hs
  have gq_28 := gq_28.S hs
  have gq_32 := gq_32.S hs
  have gq_41 := gq_41.S hs
  have gq_45 := gq_45.S hs
  have gq_49 := gq_49.S hs
  have gq_58 := gq_58.S hs
  have gq_62 := gq_62.S hs
  have gq_66 := gq_66.S hs
  have gq_75 : hx_g L_77 h_78 q_75 7 := gNq_75
  refine hx_putrF hx hb hts hC_9 hown hW hT (hx_S.rf (M := [(125, 18)])) gx tt_125 18 (by decide) rfl kw_382 ⟨rfl, rfl, rfl⟩ rfl hin rfl (x := (some q_75)) ⟨fun _ z => (by cases z), fun q hq => (by cases hq; exact ⟨gq_75.1, by rw [gq_75.2]; decide⟩)⟩ rfl rfl rfl (List.mem_singleton.mpr rfl) dX9_init_130 (fun H locs h_81 eh_81 hW hT hs => ?_)
  have f_4 := (hs.o gx trivial rfl).2.trans f_4
  have f_13 := (hs.o gx trivial rfl).2.trans f_13
  have f_22 := (hs.o gx trivial rfl).2.trans f_22
  have f_26 := (hs.o gx trivial rfl).2.trans f_26
  have f_30 := (hs.o gx trivial rfl).2.trans f_30
  have f_39 := (hs.o gx trivial rfl).2.trans f_39
  have f_43 := (hs.o gx trivial rfl).2.trans f_43
  have f_47 := (hs.o gx trivial rfl).2.trans f_47
  have f_56 := (hs.o gx trivial rfl).2.trans f_56
  have f_60 := (hs.o gx trivial rfl).2.trans f_60
  have f_64 := (hs.o gx trivial rfl).2.trans f_64
  have f_73 := (hs.o gx trivial rfl).2.trans f_73
  have hz := hx_zr [0, 3, 4, 5, 7, 9, 10, 12, 14, 15, 16, 17, 18] hz hs gx trivial rfl
  have hM := hM.tr (hs.mono (by decide))
  have gx := gx.S hs
  have gq_2 := gq_2.S hs
  have gq_6 := gq_6.S hs
  have gq_15 := gq_15.S hs
  have gq_24 := gq_24.S hs
  have gq_28 := gq_28.S hs
  have gq_32 := gq_32.S hs
  have gq_41 := gq_41.S hs
  have gq_45 := gq_45.S hs
  have gq_49 := gq_49.S hs
  have gq_58 := gq_58.S hs
  have gq_62 := gq_62.S hs
  have gq_66 := gq_66.S hs
  have gq_75 := gq_75.S hs
  have f_82 : h_81.2.2 x 18 = (some q_75) := by rw [eh_81]; exact hx_pr_at _ _ _ _
  refine lv_aload_n hx hb dX9_init_133 rfl (lv_at hl 0 rfl) ?_
  refine hk_new hx hb hts hC_8 hown hW 124 tt_124 rfl (by decide) kw_338 kw_339 kw_102 (Nat.le_of_ble_eq_true rfl) (Nat.le_of_ble_eq_true rfl) dX9_init_134 (fun q_84 H h_83 eh_83 hqq_84 hW hs gq_84 => ?_)
  have nq_q_84 : ∀ a ∈ (hx_X L x), a ≠ q_84 := fun a ha z => hqq_84 (z ▸ (hM.1 a ha).1)
  have hT : hx_T T_tb (L_77 ++ [q_84]) h_83 := by rw [eh_83]; exact hx_T_nw hT hqq_84 tt_124 rfl
  have f_4 := (hs.o gx trivial rfl).2.trans f_4
  have f_13 := (hs.o gx trivial rfl).2.trans f_13
  have f_22 := (hs.o gx trivial rfl).2.trans f_22
  have f_26 := (hs.o gx trivial rfl).2.trans f_26
  have f_30 := (hs.o gx trivial rfl).2.trans f_30
  have f_39 := (hs.o gx trivial rfl).2.trans f_39
  have f_43 := (hs.o gx trivial rfl).2.trans f_43
  have f_47 := (hs.o gx trivial rfl).2.trans f_47
  have f_56 := (hs.o gx trivial rfl).2.trans f_56
  have f_60 := (hs.o gx trivial rfl).2.trans f_60
  have f_64 := (hs.o gx trivial rfl).2.trans f_64
  have f_73 := (hs.o gx trivial rfl).2.trans f_73
  have f_82 := (hs.o gx trivial rfl).2.trans f_82
  have hz := hx_zr [0, 3, 4, 5, 7, 9, 10, 12, 14, 15, 16, 17, 18] hz hs gx trivial rfl
  have hM := hM.tr (hs.mono (by decide))
  have gx := gx.S hs
  have gq_2 := gq_2.S hs
  have gq_6 := gq_6.S hs
  have gq_15 := gq_15.S hs
  have gq_24 := gq_24.S hs
  have gq_28 := gq_28.S hs
  have gq_32 := gq_32.S hs
  have gq_41 := gq_41.S hs
  have gq_45 := gq_45.S hs
  have gq_49 := gq_49.S hs
  have gq_58 := gq_58.S hs
  have gq_62 := gq_62.S hs
  have gq_66 := gq_66.S hs
  have gq_75 := gq_75.S hs
  have fz_85 : ∀ j, ([] : List Nat).contains j = false → h_83.2.1 q_84 j = 0 ∧ h_83.2.2 q_84 j = none := by rw [eh_83]; exact fun _ _ => ⟨hx_nw_i, hx_nw_r⟩
  refine lv_dup hx hb dX9_init_137 rfl ?_
  refine hx_gov (hx_runINX (As := []) (rest := [.ref q_84, .ref x]) ⟨hx, hb, hml, hown, hts⟩ hW (t_X8_init l dC dI dA (L_77 ++ [q_84]) h_83 H.size b0 q_84 hT gq_84 (fun j => fz_85 j rfl)) hZ ⟨va_cnB 0 hts (hx_gC kw_342) rfl rfl rfl (hZ.1 _ (List.mem_of_getElem? (i := 6) rfl)) (hts _ kw_102) (by decide +kernel) ⟨Nat.le_of_ble_eq_true rfl, Nat.le_of_ble_eq_true rfl⟩, rfl, hts _ kw_341⟩ rfl hl.1 rfl (Nat.le_of_ble_eq_true rfl) dX9_init_138 ⟨Nat.le_of_ble_eq_true rfl, Nat.le_of_ble_eq_true rfl⟩) hW (fun L_86 h_87 H locs p_89 hW => ?_)
  obtain ⟨hT, hs, gNq_84, po_90⟩ := p_89
  have hT : hx_T T_tb L_86 h_87 := hT
  have hs : hx_S T_tb [(124, 2), (124, 3), (124, 4)] (hx_X (L_77 ++ [q_84]) q_84) h_83 L_86 h_87 := hs
  have gx := hx_gX gx (gx.ne gq_84 (by decide))
  have gq_2 := hx_gX gq_2 (gq_2.ne gq_84 (by decide))
  have gq_6 := hx_gX gq_6 (gq_6.ne gq_84 (by decide))
  have gq_15 := hx_gX gq_15 (gq_15.ne gq_84 (by decide))
  have gq_24 := hx_gX gq_24 (gq_24.ne gq_84 (by decide))
  have gq_28 := hx_gX gq_28 (gq_28.ne gq_84 (by decide))
  have gq_32 := hx_gX gq_32 (gq_32.ne gq_84 (by decide))
  have gq_41 := hx_gX gq_41 (gq_41.ne gq_84 (by decide))
  have gq_45 := hx_gX gq_45 (gq_45.ne gq_84 (by decide))
  have gq_49 := hx_gX gq_49 (gq_49.ne gq_84 (by decide))
  have gq_58 := hx_gX gq_58 (gq_58.ne gq_84 (by decide))
  have gq_62 := hx_gX gq_62 (gq_62.ne gq_84 (by decide))
  have gq_66 := hx_gX gq_66 (gq_66.ne gq_84 (by decide))
  have gq_75 := hx_gX gq_75 (gq_75.ne gq_84 (by decide))
  have f_4 := (hs.o gx trivial rfl).2.trans f_4
  have f_13 := (hs.o gx trivial rfl).2.trans f_13
  have f_22 := (hs.o gx trivial rfl).2.trans f_22
  have f_26 := (hs.o gx trivial rfl).2.trans f_26
  have f_30 := (hs.o gx trivial rfl).2.trans f_30
  have f_39 := (hs.o gx trivial rfl).2.trans f_39
  have f_43 := (hs.o gx trivial rfl).2.trans f_43
  have f_47 := (hs.o gx trivial rfl).2.trans f_47
  have f_56 := (hs.o gx trivial rfl).2.trans f_56
  have f_60 := (hs.o gx trivial rfl).2.trans f_60
  have f_64 := (hs.o gx trivial rfl).2.trans f_64
  have f_73 := (hs.o gx trivial rfl).2.trans f_73
  have f_82 := (hs.o gx trivial rfl).2.trans f_82
  have hz := hx_zr [0, 3, 4, 5, 7, 9, 10, 12, 14, 15, 16, 17, 18] hz hs gx trivial rfl
  have hM := hM.trX (hs.mono (by decide)) nq_q_84
  have gx := gx.S hs
  have gq_2 := gq_2.S hs
  have gq_6 := gq_6.S hs
  have gq_15 := gq_15.S hs
  have gq_24 := gq_24.S hs
  have gq_28 := gq_28.S hs
  have gq_32 := gq_32.S hs
  have gq_41 := gq_41.S hs
  have gq_45 := gq_45.S hs
  have gq_49 := gq_49.S hs
  have gq_58 := gq_58.S hs
  have gq_62 := gq_62.S hs
  have gq_66 := gq_66.S hs
  have gq_75 := gq_75.S hs
  have gq_84 : hx_g L_86 h_87 q_84 8 := gNq_84
  have po_90 : h_87.2.1 q_84 0 = 0 := po_90
  refine hx_putrF hx hb hts hC_9 hown hW hT (hx_S.rf (M := [(125, 19)])) gx tt_125 19 (by decide) rfl kw_383 ⟨rfl, rfl, rfl⟩ rfl hin rfl (x := (some q_84)) ⟨fun _ z => (by cases z), fun q hq => (by cases hq; exact ⟨gq_84.1, by rw [gq_84.2]; decide⟩)⟩ rfl rfl rfl (List.mem_singleton.mpr rfl) dX9_init_141 (fun H locs h_91 eh_91 hW hT hs => ?_)
  have f_4 := (hs.o gx trivial rfl).2.trans f_4
  have f_13 := (hs.o gx trivial rfl).2.trans f_13
  have f_22 := (hs.o gx trivial rfl).2.trans f_22
  have f_26 := (hs.o gx trivial rfl).2.trans f_26
  have f_30 := (hs.o gx trivial rfl).2.trans f_30
  have f_39 := (hs.o gx trivial rfl).2.trans f_39
  have f_43 := (hs.o gx trivial rfl).2.trans f_43
  have f_47 := (hs.o gx trivial rfl).2.trans f_47
  have f_56 := (hs.o gx trivial rfl).2.trans f_56
  have f_60 := (hs.o gx trivial rfl).2.trans f_60
  have f_64 := (hs.o gx trivial rfl).2.trans f_64
  have f_73 := (hs.o gx trivial rfl).2.trans f_73
  have f_82 := (hs.o gx trivial rfl).2.trans f_82
  have po_90 := (hs.o gq_84 trivial rfl).1.trans po_90
  have hz := hx_zr [0, 3, 4, 5, 7, 9, 10, 12, 14, 15, 16, 17, 18, 19] hz hs gx trivial rfl
  have hM := hM.tr (hs.mono (by decide))
  have gx := gx.S hs
  have gq_2 := gq_2.S hs
  have gq_6 := gq_6.S hs
  have gq_15 := gq_15.S hs
  have gq_24 := gq_24.S hs
  have gq_28 := gq_28.S hs
  have gq_32 := gq_32.S hs
  have gq_41 := gq_41.S hs
  have gq_45 := gq_45.S hs
  have gq_49 := gq_49.S hs
  have gq_58 := gq_58.S hs
  have gq_62 := gq_62.S hs
  have gq_66 := gq_66.S hs
  have gq_75 := gq_75.S hs
  have gq_84 := gq_84.S hs
  have f_92 : h_91.2.2 x 19 = (some q_84) := by rw [eh_91]; exact hx_pr_at _ _ _ _
  have f_93 : h_91.2.1 x 2 = 0 := (hz 2 rfl).1
  have f_94 : h_91.2.1 x 6 = 0 := (hz 6 rfl).1
  have f_95 : h_91.2.1 x 8 = 0 := (hz 8 rfl).1
  have f_96 : h_91.2.1 x 11 = 0 := (hz 11 rfl).1
  have f_97 : h_91.2.1 x 13 = 0 := (hz 13 rfl).1
  have hF : hx_F (fun k f => hx_o L_86 h_91 f (h_91.2.1 x k) (h_91.2.2 x k)) T_f9 0 := ⟨hx_or f_4 gq_2 (by decide), hx_oi (hz 1 rfl).1 (by decide), hx_oi f_93 (by decide), hx_or f_13 gq_6 (by decide), hx_or f_22 gq_15 (by decide), hx_or f_26 gq_24 (by decide), hx_oi f_94 (by decide), hx_or f_30 gq_28 (by decide), hx_oi f_95 (by decide), hx_or f_39 gq_32 (by decide), hx_or f_43 gq_41 (by decide), hx_oi f_96 (by decide), hx_or f_47 gq_45 (by decide), hx_oi f_97 (by decide), hx_or f_56 gq_49 (by decide), hx_or f_60 gq_58 (by decide), hx_or f_64 gq_62 (by decide), hx_or f_73 gq_66 (by decide), hx_or f_82 gq_75 (by decide), hx_or f_92 gq_84 (by decide), trivial⟩
  have hT := hx_T_rt hT gx tt_9 rfl (hx_F_all hF)
  have hW := hx_W_rt hW gx tt_125 tt_9 (fun _ _ => rfl)
  have hM := hx_SX_rt (x := x) (t := 9) hM
  have gq_2 := hx_rt_o (t := 9) gq_2 (gq_2.ne gx (by decide))
  have gq_6 := hx_rt_o (t := 9) gq_6 (gq_6.ne gx (by decide))
  have gq_15 := hx_rt_o (t := 9) gq_15 (gq_15.ne gx (by decide))
  have gq_24 := hx_rt_o (t := 9) gq_24 (gq_24.ne gx (by decide))
  have gq_28 := hx_rt_o (t := 9) gq_28 (gq_28.ne gx (by decide))
  have gq_32 := hx_rt_o (t := 9) gq_32 (gq_32.ne gx (by decide))
  have gq_41 := hx_rt_o (t := 9) gq_41 (gq_41.ne gx (by decide))
  have gq_45 := hx_rt_o (t := 9) gq_45 (gq_45.ne gx (by decide))
  have gq_49 := hx_rt_o (t := 9) gq_49 (gq_49.ne gx (by decide))
  have gq_58 := hx_rt_o (t := 9) gq_58 (gq_58.ne gx (by decide))
  have gq_62 := hx_rt_o (t := 9) gq_62 (gq_62.ne gx (by decide))
  have gq_66 := hx_rt_o (t := 9) gq_66 (gq_66.ne gx (by decide))
  have gq_75 := hx_rt_o (t := 9) gq_75 (gq_75.ne gx (by decide))
  have gq_84 := hx_rt_o (t := 9) gq_84 (gq_84.ne gx (by decide))
  have gx := hx_rt_g (t := 9) gx
  have f_4 : (hx_rt h_91 x 9).2.2 x 0 = some q_2 := f_4
  have f_13 : (hx_rt h_91 x 9).2.2 x 3 = some q_6 := f_13
  have f_22 : (hx_rt h_91 x 9).2.2 x 4 = some q_15 := f_22
  have f_26 : (hx_rt h_91 x 9).2.2 x 5 = some q_24 := f_26
  have f_30 : (hx_rt h_91 x 9).2.2 x 7 = some q_28 := f_30
  have f_39 : (hx_rt h_91 x 9).2.2 x 9 = some q_32 := f_39
  have f_43 : (hx_rt h_91 x 9).2.2 x 10 = some q_41 := f_43
  have f_47 : (hx_rt h_91 x 9).2.2 x 12 = some q_45 := f_47
  have f_56 : (hx_rt h_91 x 9).2.2 x 14 = some q_49 := f_56
  have f_60 : (hx_rt h_91 x 9).2.2 x 15 = some q_58 := f_60
  have f_64 : (hx_rt h_91 x 9).2.2 x 16 = some q_62 := f_64
  have f_73 : (hx_rt h_91 x 9).2.2 x 17 = some q_66 := f_73
  have f_82 : (hx_rt h_91 x 9).2.2 x 18 = some q_75 := f_82
  have po_90 : (hx_rt h_91 x 9).2.1 q_84 0 = (0 : Int32) := po_90
  have f_92 : (hx_rt h_91 x 9).2.2 x 19 = some q_84 := f_92
  have f_93 : (hx_rt h_91 x 9).2.1 x 2 = (0 : Int32) := f_93
  have f_94 : (hx_rt h_91 x 9).2.1 x 6 = (0 : Int32) := f_94
  have f_95 : (hx_rt h_91 x 9).2.1 x 8 = (0 : Int32) := f_95
  have f_96 : (hx_rt h_91 x 9).2.1 x 11 = (0 : Int32) := f_96
  have f_97 : (hx_rt h_91 x 9).2.1 x 13 = (0 : Int32) := f_97
  generalize eh : hx_rt h_91 x 9 = h_98 at hT hW hM gx gq_2 gq_6 gq_15 gq_24 gq_28 gq_32 gq_41 gq_45 gq_49 gq_58 gq_62 gq_66 gq_75 gq_84 f_4 f_13 f_22 f_26 f_30 f_39 f_43 f_47 f_56 f_60 f_64 f_73 f_82 po_90 f_92 f_93 f_94 f_95 f_96 f_97
  refine W.widen (k := 43) (n := 10614) (Nat.le_of_ble_eq_true rfl) (Nat.le_of_ble_eq_true rfl) ?_
  exact hx_retv hx hb hr hlk hW ⟨hT, hM, gx, f_93, f_94, f_95, f_96, f_97, ⟨q_84, f_92, gq_84, po_90⟩⟩ dX9_init_144
