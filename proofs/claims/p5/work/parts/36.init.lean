theorem dX9_init_0 : decode cX9_init 0 = .ok (.aload_n 0, 1) := by decide +kernel
theorem dX9_init_1 : decode cX9_init 1 = .ok (.invokespecial 3, 3) := by decide +kernel
theorem dX9_init_4 : decode cX9_init 4 = .ok (.aload_n 0, 1) := by decide +kernel
theorem dX9_init_5 : decode cX9_init 5 = .ok (.sipush 400, 3) := by decide +kernel
theorem dX9_init_8 : decode cX9_init 8 = .ok (.newarray .byte, 2) := by decide +kernel
theorem dX9_init_10 : decode cX9_init 10 = .ok (.putfield 9, 3) := by decide +kernel
theorem dX9_init_13 : decode cX9_init 13 = .ok (.aload_n 0, 1) := by decide +kernel
theorem dX9_init_14 : decode cX9_init 14 = .ok (.new 13, 3) := by decide +kernel
theorem dX9_init_17 : decode cX9_init 17 = .ok (.dup, 1) := by decide +kernel
theorem dX9_init_18 : decode cX9_init 18 = .ok (.invokespecial 15, 3) := by decide +kernel
theorem dX9_init_21 : decode cX9_init 21 = .ok (.putfield 16, 3) := by decide +kernel
theorem dX9_init_24 : decode cX9_init 24 = .ok (.aload_n 0, 1) := by decide +kernel
theorem dX9_init_25 : decode cX9_init 25 = .ok (.new 20, 3) := by decide +kernel
theorem dX9_init_28 : decode cX9_init 28 = .ok (.dup, 1) := by decide +kernel
theorem dX9_init_29 : decode cX9_init 29 = .ok (.iconst (-1), 1) := by decide +kernel
theorem dX9_init_30 : decode cX9_init 30 = .ok (.iconst (-1), 1) := by decide +kernel
theorem dX9_init_31 : decode cX9_init 31 = .ok (.invokespecial 22, 3) := by decide +kernel
theorem dX9_init_34 : decode cX9_init 34 = .ok (.putfield 25, 3) := by decide +kernel
theorem dX9_init_37 : decode cX9_init 37 = .ok (.aload_n 0, 1) := by decide +kernel
theorem dX9_init_38 : decode cX9_init 38 = .ok (.bipush 8, 2) := by decide +kernel
theorem dX9_init_40 : decode cX9_init 40 = .ok (.anewarray 20, 3) := by decide +kernel
theorem dX9_init_43 : decode cX9_init 43 = .ok (.putfield 29, 3) := by decide +kernel
theorem dX9_init_46 : decode cX9_init 46 = .ok (.aload_n 0, 1) := by decide +kernel
theorem dX9_init_47 : decode cX9_init 47 = .ok (.bipush 40, 2) := by decide +kernel
theorem dX9_init_49 : decode cX9_init 49 = .ok (.anewarray 33, 3) := by decide +kernel
theorem dX9_init_52 : decode cX9_init 52 = .ok (.putfield 35, 3) := by decide +kernel
theorem dX9_init_55 : decode cX9_init 55 = .ok (.aload_n 0, 1) := by decide +kernel
theorem dX9_init_56 : decode cX9_init 56 = .ok (.new 39, 3) := by decide +kernel
theorem dX9_init_59 : decode cX9_init 59 = .ok (.dup, 1) := by decide +kernel
theorem dX9_init_60 : decode cX9_init 60 = .ok (.invokespecial 41, 3) := by decide +kernel
theorem dX9_init_63 : decode cX9_init 63 = .ok (.putfield 42, 3) := by decide +kernel
theorem dX9_init_66 : decode cX9_init 66 = .ok (.aload_n 0, 1) := by decide +kernel
theorem dX9_init_67 : decode cX9_init 67 = .ok (.bipush 100, 2) := by decide +kernel
theorem dX9_init_69 : decode cX9_init 69 = .ok (.anewarray 46, 3) := by decide +kernel
theorem dX9_init_72 : decode cX9_init 72 = .ok (.putfield 48, 3) := by decide +kernel
theorem dX9_init_75 : decode cX9_init 75 = .ok (.aload_n 0, 1) := by decide +kernel
theorem dX9_init_76 : decode cX9_init 76 = .ok (.bipush 100, 2) := by decide +kernel
theorem dX9_init_78 : decode cX9_init 78 = .ok (.anewarray 46, 3) := by decide +kernel
theorem dX9_init_81 : decode cX9_init 81 = .ok (.putfield 52, 3) := by decide +kernel
theorem dX9_init_84 : decode cX9_init 84 = .ok (.aload_n 0, 1) := by decide +kernel
theorem dX9_init_85 : decode cX9_init 85 = .ok (.new 55, 3) := by decide +kernel
theorem dX9_init_88 : decode cX9_init 88 = .ok (.dup, 1) := by decide +kernel
theorem dX9_init_89 : decode cX9_init 89 = .ok (.invokespecial 57, 3) := by decide +kernel
theorem dX9_init_92 : decode cX9_init 92 = .ok (.putfield 58, 3) := by decide +kernel
theorem dX9_init_95 : decode cX9_init 95 = .ok (.aload_n 0, 1) := by decide +kernel
theorem dX9_init_96 : decode cX9_init 96 = .ok (.bipush 40, 2) := by decide +kernel
theorem dX9_init_98 : decode cX9_init 98 = .ok (.newarray .int, 2) := by decide +kernel
theorem dX9_init_100 : decode cX9_init 100 = .ok (.putfield 62, 3) := by decide +kernel
theorem dX9_init_103 : decode cX9_init 103 = .ok (.aload_n 0, 1) := by decide +kernel
theorem dX9_init_104 : decode cX9_init 104 = .ok (.bipush 100, 2) := by decide +kernel
theorem dX9_init_106 : decode cX9_init 106 = .ok (.newarray .int, 2) := by decide +kernel
theorem dX9_init_108 : decode cX9_init 108 = .ok (.putfield 66, 3) := by decide +kernel
theorem dX9_init_111 : decode cX9_init 111 = .ok (.aload_n 0, 1) := by decide +kernel
theorem dX9_init_112 : decode cX9_init 112 = .ok (.new 69, 3) := by decide +kernel
theorem dX9_init_115 : decode cX9_init 115 = .ok (.dup, 1) := by decide +kernel
theorem dX9_init_116 : decode cX9_init 116 = .ok (.invokespecial 71, 3) := by decide +kernel
theorem dX9_init_119 : decode cX9_init 119 = .ok (.putfield 72, 3) := by decide +kernel
theorem dX9_init_122 : decode cX9_init 122 = .ok (.aload_n 0, 1) := by decide +kernel
theorem dX9_init_123 : decode cX9_init 123 = .ok (.new 76, 3) := by decide +kernel
theorem dX9_init_126 : decode cX9_init 126 = .ok (.dup, 1) := by decide +kernel
theorem dX9_init_127 : decode cX9_init 127 = .ok (.invokespecial 78, 3) := by decide +kernel
theorem dX9_init_130 : decode cX9_init 130 = .ok (.putfield 79, 3) := by decide +kernel
theorem dX9_init_133 : decode cX9_init 133 = .ok (.aload_n 0, 1) := by decide +kernel
theorem dX9_init_134 : decode cX9_init 134 = .ok (.new 83, 3) := by decide +kernel
theorem dX9_init_137 : decode cX9_init 137 = .ok (.dup, 1) := by decide +kernel
theorem dX9_init_138 : decode cX9_init 138 = .ok (.invokespecial 85, 3) := by decide +kernel
theorem dX9_init_141 : decode cX9_init 141 = .ok (.putfield 86, 3) := by decide +kernel
theorem dX9_init_144 : decode cX9_init 144 = .ok (.return_, 1) := by decide +kernel
set_option maxHeartbeats 4000000 in
set_option maxRecDepth 100000 in
theorem t_X9_init (l : Launch) (dC : Nat → ClassId) (dI : Nat → Nat → Nat) (dA : Nat → ClassId) (L : List Nat) (h : hx_h) (sz : Nat) (b0 : hx_z) (x : Nat) (hT : hx_T T_tb L h) (gx : hx_g L h x 125) (hz : ∀ j, h.2.1 x j = 0 ∧ h.2.2 x j = none) : Met l yX9_init (Cond.code yX9_init cX9_init 1 none :: hx_all) ({ frames := 2, cells := 43, slots := 10614, locals := 62 }) (va_Pc [.ref x] (hx_BX T_tb (P_ty dA) (dC, dI) vwCl L h sz b0)) (va_Qv (fun (u : List Nat × hx_h) => hx_T T_tb u.1 u.2 ∧ hx_S T_tb [(11, 0), (12, 0), (116, 0), (116, 1), (116, 2), (116, 3), (116, 4), (117, 1), (117, 2), (117, 3), (117, 4), (117, 5), (117, 6), (117, 7), (119, 1), (119, 2), (119, 3), (119, 4), (119, 5), (121, 2), (121, 3), (121, 4), (121, 5), (121, 6), (121, 7), (121, 8), (122, 0), (123, 0), (123, 3), (123, 5), (123, 6), (123, 7), (124, 2), (124, 3), (124, 4), (125, 0), (125, 3), (125, 4), (125, 5), (125, 7), (125, 9), (125, 10), (125, 12), (125, 14), (125, 15), (125, 16), (125, 17), (125, 18), (125, 19)] (hx_X L x) h u.1 u.2 ∧ hx_g u.1 u.2 x 9 ∧ u.2.2.1 x 2 = 0 ∧ u.2.2.1 x 6 = 0 ∧ u.2.2.1 x 8 = 0 ∧ u.2.2.1 x 11 = 0 ∧ u.2.2.1 x 13 = 0 ∧ (∃ q, u.2.2.2 x 19 = some q ∧ hx_g u.1 u.2 q 8 ∧ u.2.2.1 q 0 = 0 ∧ u.2.2.1 q 1 = 0 ∧ ∃ w, u.2.2.2 q 3 = some w ∧ hx_g u.1 u.2 w 40 ∧ ∀ j, u.2.2.1 w j = 0 ∧ u.2.2.2 w j = none) ∧ (∃ q, u.2.2.2 x 9 = some q ∧ hx_g u.1 u.2 q 1 ∧ u.2.2.1 q 0 = 0) ∧ (∃ q, u.2.2.2 x 7 = some q ∧ hx_g u.1 u.2 q 44 ∧ ∀ j, u.2.2.1 q j = 0 ∧ u.2.2.2 q j = none) ∧ (∃ q, u.2.2.2 x 10 = some q ∧ hx_g u.1 u.2 q 45 ∧ ∀ j, u.2.2.1 q j = 0 ∧ u.2.2.2 q j = none) ∧ u.2.2.1 x 1 = 0 ∧ (∃ q, u.2.2.2 x 0 = some q ∧ hx_g u.1 u.2 q 42 ∧ ∀ j, u.2.2.1 q j = 0 ∧ u.2.2.2 q j = none)) (hx_E T_tb (P_ty dA) (dC, dI) vwCl (hx_A L sz)) (hx_A L sz)) 43 10614 (hx_A L sz) := by
  refine hx_metX (lv := [(0, .ref x)]) (by decide +kernel) rfl (Nat.le_of_ble_eq_true rfl) rfl ?_
  intro p e s m below meth c hx hb hml hr hlk hts0 hown hin hsz hW hZ ls hl
  have hts : ∀ w ∈ hx_all, w.before _ s = true := fun w hw => hts0 w (List.mem_cons_of_mem _ hw)
  have hown : s.vm.findClass "SmallCourt" = some m.cls := hown
  have hin : meth.name = "<init>" := hin
  have hM : hx_S T_tb [(11, 0), (12, 0), (116, 0), (116, 1), (116, 2), (116, 3), (116, 4), (117, 1), (117, 2), (117, 3), (117, 4), (117, 5), (117, 6), (117, 7), (119, 1), (119, 2), (119, 3), (119, 4), (119, 5), (121, 2), (121, 3), (121, 4), (121, 5), (121, 6), (121, 7), (121, 8), (122, 0), (123, 0), (123, 3), (123, 5), (123, 6), (123, 7), (124, 2), (124, 3), (124, 4), (125, 0), (125, 3), (125, 4), (125, 5), (125, 7), (125, 9), (125, 10), (125, 12), (125, 14), (125, 15), (125, 16), (125, 17), (125, 18), (125, 19)] (hx_X L x) h L h := hx_SX_rf
  have hz : ∀ j, ([] : List Nat).contains j = false → h.2.1 x j = 0 ∧ h.2.2 x j = none := fun j _ => hz j
  refine lv_aload_n hx hb dX9_init_0 rfl (lv_at hl 0 rfl) ?_
  refine W.objInit hx hb hown (hts _ kw_116) (hts _ kw_117) (hts _ kw_118) rfl (by rw [hml]; exact hl.1) rfl dX9_init_1 (Nat.le_of_ble_eq_true rfl) (Nat.le_of_ble_eq_true rfl) ?_
  refine W.eq (g2 := F0 m 4 ls []) rfl ?_
  refine lv_aload_n hx hb dX9_init_4 rfl (lv_at hl 0 rfl) ?_
  refine lv_sipush (v := 400) hx hb dX9_init_5 (by decide) ?_
  refine hk_newa hx hb hts hW 42 tt_42 (atype := .byte) rfl kw_147 (tys := P_ty dA) (t0 := 1) rfl (fun _ => Iff.rfl) rfl (i := (400 : Int32)) (by decide) (Nat.le_of_ble_eq_true rfl) (Nat.le_of_ble_eq_true rfl) (Nat.le_of_ble_eq_true rfl) dX9_init_8 (fun q_2 H h_1 eh_1 hqq_2 hW hs gq_2 => ?_)
  have nq_q_2 : ∀ a ∈ (hx_X L x), a ≠ q_2 := fun a ha z => hqq_2 (z ▸ (hM.1 a ha).1)
  have hT : hx_T T_tb (L ++ [q_2]) h_1 := by rw [eh_1]; exact hx_T_nw hT hqq_2 tt_42 rfl
  have hz := hx_zr [] hz hs gx trivial rfl
  have hM := hM.tr (hs.mono (by decide))
  have gx := gx.S hs
  have za_3 : ∀ j, h_1.2.1 q_2 j = 0 ∧ h_1.2.2 q_2 j = none := by rw [eh_1]; exact fun _ => ⟨hx_nw_i, hx_nw_r⟩
  refine hx_putrF hx hb hts hC_9 hown hW hT (hx_S.rf (M := [(125, 0)])) gx tt_125 0 (by decide) rfl kw_364 ⟨rfl, rfl, rfl⟩ rfl hin rfl (x := (some q_2)) ⟨fun _ z => (by cases z), fun q hq => (by cases hq; exact ⟨gq_2.1, by rw [gq_2.2]; decide⟩)⟩ rfl rfl rfl (List.mem_singleton.mpr rfl) dX9_init_10 (fun H locs h_4 eh_4 hW hT hs => ?_)
  have hz := hx_zr [0] hz hs gx trivial rfl
  have za_3 : ∀ j, h_4.2.1 q_2 j = 0 ∧ h_4.2.2 q_2 j = none := fun j => ⟨(hs.a gq_2 rfl j).1.trans (za_3 j).1, (hs.a gq_2 rfl j).2.trans (za_3 j).2⟩
  have hM := hM.tr (hs.mono (by decide))
  have gx := gx.S hs
  have gq_2 := gq_2.S hs
  have f_5 : h_4.2.2 x 0 = (some q_2) := by rw [eh_4]; exact hx_pr_at _ _ _ _
  refine lv_aload_n hx hb dX9_init_13 rfl (lv_at hl 0 rfl) ?_
  refine hk_new hx hb hts hC_6 hown hW 122 tt_122 rfl (by decide) kw_119 kw_120 kw_95 (Nat.le_of_ble_eq_true rfl) (Nat.le_of_ble_eq_true rfl) dX9_init_14 (fun q_7 H h_6 eh_6 hqq_7 hW hs gq_7 => ?_)
  have nq_q_7 : ∀ a ∈ (hx_X L x), a ≠ q_7 := fun a ha z => hqq_7 (z ▸ (hM.1 a ha).1)
  have hT : hx_T T_tb ((L ++ [q_2]) ++ [q_7]) h_6 := by rw [eh_6]; exact hx_T_nw hT hqq_7 tt_122 rfl
  have f_5 := (hs.o gx trivial rfl).2.trans f_5
  have hz := hx_zr [0] hz hs gx trivial rfl
  have za_3 : ∀ j, h_6.2.1 q_2 j = 0 ∧ h_6.2.2 q_2 j = none := fun j => ⟨(hs.a gq_2 rfl j).1.trans (za_3 j).1, (hs.a gq_2 rfl j).2.trans (za_3 j).2⟩
  have hM := hM.tr (hs.mono (by decide))
  have gx := gx.S hs
  have gq_2 := gq_2.S hs
  have fz_8 : ∀ j, ([] : List Nat).contains j = false → h_6.2.1 q_7 j = 0 ∧ h_6.2.2 q_7 j = none := by rw [eh_6]; exact fun _ _ => ⟨hx_nw_i, hx_nw_r⟩
  refine lv_dup hx hb dX9_init_17 rfl ?_
  refine hx_gov (hx_runIN (As := []) (rest := [.ref q_7, .ref x]) ⟨hx, hb, hml, hown, hts⟩ hW (t_X6_init l dC dI dA ((L ++ [q_2]) ++ [q_7]) h_6 H.size q_7 hT gq_7 (fun j => fz_8 j rfl)) ⟨va_cnB 0 hts (hx_gC kw_123) rfl rfl rfl (hZ.1 _ (List.mem_of_getElem? (i := 0) rfl)) (hts _ kw_95) (by decide +kernel) ⟨Nat.le_of_ble_eq_true rfl, Nat.le_of_ble_eq_true rfl⟩, rfl, hts _ kw_122⟩ rfl hl.1 rfl (Nat.le_of_ble_eq_true rfl) dX9_init_18 ⟨Nat.le_of_ble_eq_true rfl, Nat.le_of_ble_eq_true rfl⟩) hW (fun L_9 h_10 H locs p_12 hW => ?_)
  obtain ⟨hT, hs, gNq_7⟩ := p_12
  have hT : hx_T T_tb L_9 h_10 := hT
  have hs : hx_S T_tb [(122, 0)] (hx_X ((L ++ [q_2]) ++ [q_7]) q_7) h_6 L_9 h_10 := hs
  have gx := hx_gX gx (gx.ne gq_7 (by decide))
  have gq_2 := hx_gX gq_2 (gq_2.ne gq_7 (by decide))
  have f_5 := (hs.o gx trivial rfl).2.trans f_5
  have hz := hx_zr [0] hz hs gx trivial rfl
  have za_3 : ∀ j, h_10.2.1 q_2 j = 0 ∧ h_10.2.2 q_2 j = none := fun j => ⟨(hs.a gq_2 rfl j).1.trans (za_3 j).1, (hs.a gq_2 rfl j).2.trans (za_3 j).2⟩
  have hM := hM.trX (hs.mono (by decide)) nq_q_7
  have gx := gx.S hs
  have gq_2 := gq_2.S hs
  have gq_7 : hx_g L_9 h_10 q_7 6 := gNq_7
  refine hx_putrF hx hb hts hC_9 hown hW hT (hx_S.rf (M := [(125, 3)])) gx tt_125 3 (by decide) rfl kw_367 ⟨rfl, rfl, rfl⟩ rfl hin rfl (x := (some q_7)) ⟨fun _ z => (by cases z), fun q hq => (by cases hq; exact ⟨gq_7.1, by rw [gq_7.2]; decide⟩)⟩ rfl rfl rfl (List.mem_singleton.mpr rfl) dX9_init_21 (fun H locs h_13 eh_13 hW hT hs => ?_)
  have f_5 := (hs.o gx trivial rfl).2.trans f_5
  have hz := hx_zr [0, 3] hz hs gx trivial rfl
  have za_3 : ∀ j, h_13.2.1 q_2 j = 0 ∧ h_13.2.2 q_2 j = none := fun j => ⟨(hs.a gq_2 rfl j).1.trans (za_3 j).1, (hs.a gq_2 rfl j).2.trans (za_3 j).2⟩
  have hM := hM.tr (hs.mono (by decide))
  have gx := gx.S hs
  have gq_2 := gq_2.S hs
  have gq_7 := gq_7.S hs
  have f_14 : h_13.2.2 x 3 = (some q_7) := by rw [eh_13]; exact hx_pr_at _ _ _ _
  refine lv_aload_n hx hb dX9_init_24 rfl (lv_at hl 0 rfl) ?_
  refine hk_new hx hb hts hC_0 hown hW 116 tt_116 rfl (by decide) kw_148 kw_149 kw_96 (Nat.le_of_ble_eq_true rfl) (Nat.le_of_ble_eq_true rfl) dX9_init_25 (fun q_16 H h_15 eh_15 hqq_16 hW hs gq_16 => ?_)
  have nq_q_16 : ∀ a ∈ (hx_X L x), a ≠ q_16 := fun a ha z => hqq_16 (z ▸ (hM.1 a ha).1)
  have hT : hx_T T_tb (L_9 ++ [q_16]) h_15 := by rw [eh_15]; exact hx_T_nw hT hqq_16 tt_116 rfl
  have f_5 := (hs.o gx trivial rfl).2.trans f_5
  have f_14 := (hs.o gx trivial rfl).2.trans f_14
  have hz := hx_zr [0, 3] hz hs gx trivial rfl
  have za_3 : ∀ j, h_15.2.1 q_2 j = 0 ∧ h_15.2.2 q_2 j = none := fun j => ⟨(hs.a gq_2 rfl j).1.trans (za_3 j).1, (hs.a gq_2 rfl j).2.trans (za_3 j).2⟩
  have hM := hM.tr (hs.mono (by decide))
  have gx := gx.S hs
  have gq_2 := gq_2.S hs
  have gq_7 := gq_7.S hs
  have fz_17 : ∀ j, ([] : List Nat).contains j = false → h_15.2.1 q_16 j = 0 ∧ h_15.2.2 q_16 j = none := by rw [eh_15]; exact fun _ _ => ⟨hx_nw_i, hx_nw_r⟩
  refine lv_dup hx hb dX9_init_28 rfl ?_
  refine lv_iconst (v := -1) hx hb dX9_init_29 (by decide) ?_
  refine lv_iconst (v := -1) hx hb dX9_init_30 (by decide) ?_
  have zc_m1 : (-1 : Int32).toInt = -1 := by decide
  refine hx_gov (hx_runIX (As := [.int (-1 : Int32), .int (-1 : Int32)]) (rest := [.ref q_16, .ref x]) ⟨hx, hb, hml, hown, hts⟩ hW (t_X0_init l dC dI dA (L_9 ++ [q_16]) h_15 H.size b0 q_16 (-1 : Int32) (-1 : Int32) hT gq_16 (fun j => fz_17 j rfl) (by decide) (by decide)) hZ (cwI 2 hts (hx_gC kw_152) rfl rfl rfl (hts _ kw_96) (hts _ kw_150) (hts _ kw_151) rfl (by decide +kernel) ⟨Nat.le_of_ble_eq_true rfl, Nat.le_of_ble_eq_true rfl⟩) rfl hl.1 rfl (Nat.le_of_ble_eq_true rfl) dX9_init_31 ⟨Nat.le_of_ble_eq_true rfl, Nat.le_of_ble_eq_true rfl⟩) hW (fun L_18 h_19 H locs p_21 hW => ?_)
  obtain ⟨hT, hs, gNq_16⟩ := p_21
  have hT : hx_T T_tb L_18 h_19 := hT
  have hs : hx_S T_tb [(11, 0), (12, 0), (116, 0), (116, 1), (116, 2), (116, 3), (116, 4)] (hx_X (L_9 ++ [q_16]) q_16) h_15 L_18 h_19 := hs
  have gx := hx_gX gx (gx.ne gq_16 (by decide))
  have gq_2 := hx_gX gq_2 (gq_2.ne gq_16 (by decide))
  have gq_7 := hx_gX gq_7 (gq_7.ne gq_16 (by decide))
  have f_5 := (hs.o gx trivial rfl).2.trans f_5
  have f_14 := (hs.o gx trivial rfl).2.trans f_14
  have hz := hx_zr [0, 3] hz hs gx trivial rfl
  have za_3 : ∀ j, h_19.2.1 q_2 j = 0 ∧ h_19.2.2 q_2 j = none := fun j => ⟨(hs.a gq_2 rfl j).1.trans (za_3 j).1, (hs.a gq_2 rfl j).2.trans (za_3 j).2⟩
  have hM := hM.trX (hs.mono (by decide)) nq_q_16
  have gx := gx.S hs
  have gq_2 := gq_2.S hs
  have gq_7 := gq_7.S hs
  have gq_16 : hx_g L_18 h_19 q_16 0 := gNq_16
  refine hx_putrF hx hb hts hC_9 hown hW hT (hx_S.rf (M := [(125, 4)])) gx tt_125 4 (by decide) rfl kw_368 ⟨rfl, rfl, rfl⟩ rfl hin rfl (x := (some q_16)) ⟨fun _ z => (by cases z), fun q hq => (by cases hq; exact ⟨gq_16.1, by rw [gq_16.2]; decide⟩)⟩ rfl rfl rfl (List.mem_singleton.mpr rfl) dX9_init_34 (fun H locs h_22 eh_22 hW hT hs => ?_)
  have f_5 := (hs.o gx trivial rfl).2.trans f_5
  have f_14 := (hs.o gx trivial rfl).2.trans f_14
  have hz := hx_zr [0, 3, 4] hz hs gx trivial rfl
  have za_3 : ∀ j, h_22.2.1 q_2 j = 0 ∧ h_22.2.2 q_2 j = none := fun j => ⟨(hs.a gq_2 rfl j).1.trans (za_3 j).1, (hs.a gq_2 rfl j).2.trans (za_3 j).2⟩
  have hM := hM.tr (hs.mono (by decide))
  have gx := gx.S hs
  have gq_2 := gq_2.S hs
  have gq_7 := gq_7.S hs
  have gq_16 := gq_16.S hs
  have f_23 : h_22.2.2 x 4 = (some q_16) := by rw [eh_22]; exact hx_pr_at _ _ _ _
  refine lv_aload_n hx hb dX9_init_37 rfl (lv_at hl 0 rfl) ?_
  refine lv_bipush (v := 8) hx hb dX9_init_38 (by decide) ?_
  refine hk_newqX hx hb hts hown hW 43 tt_43 kw_148 hZ.2.1.1 (tys := P_ty dA) (t0 := 4) rfl (i := (8 : Int32)) (by decide) (Nat.le_of_ble_eq_true rfl) (Nat.le_of_ble_eq_true rfl) (Nat.le_of_ble_eq_true rfl) dX9_init_40 (fun q_25 H h_24 eh_24 hqq_25 hW hs gq_25 => ?_)
  have nq_q_25 : ∀ a ∈ (hx_X L x), a ≠ q_25 := fun a ha z => hqq_25 (z ▸ (hM.1 a ha).1)
  have hT : hx_T T_tb (L_18 ++ [q_25]) h_24 := by rw [eh_24]; exact hx_T_nw hT hqq_25 tt_43 rfl
  have f_5 := (hs.o gx trivial rfl).2.trans f_5
  have f_14 := (hs.o gx trivial rfl).2.trans f_14
  have f_23 := (hs.o gx trivial rfl).2.trans f_23
  have hz := hx_zr [0, 3, 4] hz hs gx trivial rfl
  have za_3 : ∀ j, h_24.2.1 q_2 j = 0 ∧ h_24.2.2 q_2 j = none := fun j => ⟨(hs.a gq_2 rfl j).1.trans (za_3 j).1, (hs.a gq_2 rfl j).2.trans (za_3 j).2⟩
  have hM := hM.tr (hs.mono (by decide))
  have gx := gx.S hs
  have gq_2 := gq_2.S hs
  have gq_7 := gq_7.S hs
  have gq_16 := gq_16.S hs
  refine hx_putrF hx hb hts hC_9 hown hW hT (hx_S.rf (M := [(125, 5)])) gx tt_125 5 (by decide) rfl kw_369 ⟨rfl, rfl, rfl⟩ rfl hin rfl (x := (some q_25)) ⟨fun _ z => (by cases z), fun q hq => (by cases hq; exact ⟨gq_25.1, by rw [gq_25.2]; decide⟩)⟩ rfl rfl rfl (List.mem_singleton.mpr rfl) dX9_init_43 (fun H locs h_26 eh_26 hW hT hs => ?_)
  have f_5 := (hs.o gx trivial rfl).2.trans f_5
  have f_14 := (hs.o gx trivial rfl).2.trans f_14
  have f_23 := (hs.o gx trivial rfl).2.trans f_23
  have hz := hx_zr [0, 3, 4, 5] hz hs gx trivial rfl
  have za_3 : ∀ j, h_26.2.1 q_2 j = 0 ∧ h_26.2.2 q_2 j = none := fun j => ⟨(hs.a gq_2 rfl j).1.trans (za_3 j).1, (hs.a gq_2 rfl j).2.trans (za_3 j).2⟩
  have hM := hM.tr (hs.mono (by decide))
  have gx := gx.S hs
  have gq_2 := gq_2.S hs
  have gq_7 := gq_7.S hs
  have gq_16 := gq_16.S hs
  have gq_25 := gq_25.S hs
  have f_27 : h_26.2.2 x 5 = (some q_25) := by rw [eh_26]; exact hx_pr_at _ _ _ _
  refine lv_aload_n hx hb dX9_init_46 rfl (lv_at hl 0 rfl) ?_
  refine lv_bipush (v := 40) hx hb dX9_init_47 (by decide) ?_
  refine hk_newqX hx hb hts hown hW 44 tt_44 kw_188 hZ.2.1.2.1 (tys := P_ty dA) (t0 := 5) rfl (i := (40 : Int32)) (by decide) (Nat.le_of_ble_eq_true rfl) (Nat.le_of_ble_eq_true rfl) (Nat.le_of_ble_eq_true rfl) dX9_init_49 (fun q_29 H h_28 eh_28 hqq_29 hW hs gq_29 => ?_)
  have nq_q_29 : ∀ a ∈ (hx_X L x), a ≠ q_29 := fun a ha z => hqq_29 (z ▸ (hM.1 a ha).1)
  have hT : hx_T T_tb ((L_18 ++ [q_25]) ++ [q_29]) h_28 := by rw [eh_28]; exact hx_T_nw hT hqq_29 tt_44 rfl
  have f_5 := (hs.o gx trivial rfl).2.trans f_5
  have f_14 := (hs.o gx trivial rfl).2.trans f_14
  have f_23 := (hs.o gx trivial rfl).2.trans f_23
  have f_27 := (hs.o gx trivial rfl).2.trans f_27
  have hz := hx_zr [0, 3, 4, 5] hz hs gx trivial rfl
  have za_3 : ∀ j, h_28.2.1 q_2 j = 0 ∧ h_28.2.2 q_2 j = none := fun j => ⟨(hs.a gq_2 rfl j).1.trans (za_3 j).1, (hs.a gq_2 rfl j).2.trans (za_3 j).2⟩
  have hM := hM.tr (hs.mono (by decide))
  have gx := gx.S hs
  have gq_2 := gq_2.S hs
  have gq_7 := gq_7.S hs
  have gq_16 := gq_16.S hs
  have gq_25 := gq_25.S hs
  have za_30 : ∀ j, h_28.2.1 q_29 j = 0 ∧ h_28.2.2 q_29 j = none := by rw [eh_28]; exact fun _ => ⟨hx_nw_i, hx_nw_r⟩
  refine hx_putrF hx hb hts hC_9 hown hW hT (hx_S.rf (M := [(125, 7)])) gx tt_125 7 (by decide) rfl kw_371 ⟨rfl, rfl, rfl⟩ rfl hin rfl (x := (some q_29)) ⟨fun _ z => (by cases z), fun q hq => (by cases hq; exact ⟨gq_29.1, by rw [gq_29.2]; decide⟩)⟩ rfl rfl rfl (List.mem_singleton.mpr rfl) dX9_init_52 (fun H locs h_31 eh_31 hW hT hs => ?_)
  have f_5 := (hs.o gx trivial rfl).2.trans f_5
  have f_14 := (hs.o gx trivial rfl).2.trans f_14
  have f_23 := (hs.o gx trivial rfl).2.trans f_23
  have f_27 := (hs.o gx trivial rfl).2.trans f_27
  have hz := hx_zr [0, 3, 4, 5, 7] hz hs gx trivial rfl
  have za_3 : ∀ j, h_31.2.1 q_2 j = 0 ∧ h_31.2.2 q_2 j = none := fun j => ⟨(hs.a gq_2 rfl j).1.trans (za_3 j).1, (hs.a gq_2 rfl j).2.trans (za_3 j).2⟩
  have za_30 : ∀ j, h_31.2.1 q_29 j = 0 ∧ h_31.2.2 q_29 j = none := fun j => ⟨(hs.a gq_29 rfl j).1.trans (za_30 j).1, (hs.a gq_29 rfl j).2.trans (za_30 j).2⟩
  have hM := hM.tr (hs.mono (by decide))
  have gx := gx.S hs
  have gq_2 := gq_2.S hs
  have gq_7 := gq_7.S hs
  have gq_16 := gq_16.S hs
  have gq_25 := gq_25.S hs
  have gq_29 := gq_29.S hs
  have f_32 : h_31.2.2 x 7 = (some q_29) := by rw [eh_31]; exact hx_pr_at _ _ _ _
  refine lv_aload_n hx hb dX9_init_55 rfl (lv_at hl 0 rfl) ?_
  refine hk_new hx hb hts hC_1 hown hW 117 tt_117 rfl (by decide) kw_190 kw_191 kw_98 (Nat.le_of_ble_eq_true rfl) (Nat.le_of_ble_eq_true rfl) dX9_init_56 (fun q_34 H h_33 eh_33 hqq_34 hW hs gq_34 => ?_)
  have nq_q_34 : ∀ a ∈ (hx_X L x), a ≠ q_34 := fun a ha z => hqq_34 (z ▸ (hM.1 a ha).1)
  have hT : hx_T T_tb (((L_18 ++ [q_25]) ++ [q_29]) ++ [q_34]) h_33 := by rw [eh_33]; exact hx_T_nw hT hqq_34 tt_117 rfl
  have f_5 := (hs.o gx trivial rfl).2.trans f_5
  have f_14 := (hs.o gx trivial rfl).2.trans f_14
  have f_23 := (hs.o gx trivial rfl).2.trans f_23
  have f_27 := (hs.o gx trivial rfl).2.trans f_27
  have f_32 := (hs.o gx trivial rfl).2.trans f_32
  have hz := hx_zr [0, 3, 4, 5, 7] hz hs gx trivial rfl
  have za_3 : ∀ j, h_33.2.1 q_2 j = 0 ∧ h_33.2.2 q_2 j = none := fun j => ⟨(hs.a gq_2 rfl j).1.trans (za_3 j).1, (hs.a gq_2 rfl j).2.trans (za_3 j).2⟩
  have za_30 : ∀ j, h_33.2.1 q_29 j = 0 ∧ h_33.2.2 q_29 j = none := fun j => ⟨(hs.a gq_29 rfl j).1.trans (za_30 j).1, (hs.a gq_29 rfl j).2.trans (za_30 j).2⟩
  have hM := hM.tr (hs.mono (by decide))
  have gx := gx.S hs
  have gq_2 := gq_2.S hs
  have gq_7 := gq_7.S hs
  have gq_16 := gq_16.S hs
  have gq_25 := gq_25.S hs
  have gq_29 := gq_29.S hs
  have fz_35 : ∀ j, ([] : List Nat).contains j = false → h_33.2.1 q_34 j = 0 ∧ h_33.2.2 q_34 j = none := by rw [eh_33]; exact fun _ _ => ⟨hx_nw_i, hx_nw_r⟩
  refine lv_dup hx hb dX9_init_59 rfl ?_
  refine hx_gov (hx_runIN (As := []) (rest := [.ref q_34, .ref x]) ⟨hx, hb, hml, hown, hts⟩ hW (t_X1_init l dC dI dA (((L_18 ++ [q_25]) ++ [q_29]) ++ [q_34]) h_33 H.size q_34 hT gq_34 (fun j => fz_35 j rfl)) ⟨va_cnB 0 hts (hx_gC kw_194) rfl rfl rfl (hZ.1 _ (List.mem_of_getElem? (i := 2) rfl)) (hts _ kw_98) (by decide +kernel) ⟨Nat.le_of_ble_eq_true rfl, Nat.le_of_ble_eq_true rfl⟩, rfl, hts _ kw_193⟩ rfl hl.1 rfl (Nat.le_of_ble_eq_true rfl) dX9_init_60 ⟨Nat.le_of_ble_eq_true rfl, Nat.le_of_ble_eq_true rfl⟩) hW (fun L_36 h_37 H locs p_39 hW => ?_)
  obtain ⟨hT, hs, gNq_34, po_40⟩ := p_39
  have hT : hx_T T_tb L_36 h_37 := hT
  have hs : hx_S T_tb [(117, 1), (117, 2), (117, 3), (117, 4), (117, 5), (117, 6), (117, 7)] (hx_X (((L_18 ++ [q_25]) ++ [q_29]) ++ [q_34]) q_34) h_33 L_36 h_37 := hs
  have gx := hx_gX gx (gx.ne gq_34 (by decide))
  have gq_2 := hx_gX gq_2 (gq_2.ne gq_34 (by decide))
  have gq_7 := hx_gX gq_7 (gq_7.ne gq_34 (by decide))
  have gq_16 := hx_gX gq_16 (gq_16.ne gq_34 (by decide))
  have gq_25 := hx_gX gq_25 (gq_25.ne gq_34 (by decide))
  have gq_29 := hx_gX gq_29 (gq_29.ne gq_34 (by decide))
  have f_5 := (hs.o gx trivial rfl).2.trans f_5
  have f_14 := (hs.o gx trivial rfl).2.trans f_14
  have f_23 := (hs.o gx trivial rfl).2.trans f_23
  have f_27 := (hs.o gx trivial rfl).2.trans f_27
  have f_32 := (hs.o gx trivial rfl).2.trans f_32
  have hz := hx_zr [0, 3, 4, 5, 7] hz hs gx trivial rfl
  have za_3 : ∀ j, h_37.2.1 q_2 j = 0 ∧ h_37.2.2 q_2 j = none := fun j => ⟨(hs.a gq_2 rfl j).1.trans (za_3 j).1, (hs.a gq_2 rfl j).2.trans (za_3 j).2⟩
  have za_30 : ∀ j, h_37.2.1 q_29 j = 0 ∧ h_37.2.2 q_29 j = none := fun j => ⟨(hs.a gq_29 rfl j).1.trans (za_30 j).1, (hs.a gq_29 rfl j).2.trans (za_30 j).2⟩
  have hM := hM.trX (hs.mono (by decide)) nq_q_34
  have gx := gx.S hs
  have gq_2 := gq_2.S hs
  have gq_7 := gq_7.S hs
  have gq_16 := gq_16.S hs
  have gq_25 := gq_25.S hs
  have gq_29 := gq_29.S hs
  have gq_34 : hx_g L_36 h_37 q_34 1 := gNq_34
  have po_40 : h_37.2.1 q_34 0 = 0 := po_40
  refine hx_putrF hx hb hts hC_9 hown hW hT (hx_S.rf (M := [(125, 9)])) gx tt_125 9 (by decide) rfl kw_373 ⟨rfl, rfl, rfl⟩ rfl hin rfl (x := (some q_34)) ⟨fun _ z => (by cases z), fun q hq => (by cases hq; exact ⟨gq_34.1, by rw [gq_34.2]; decide⟩)⟩ rfl rfl rfl (List.mem_singleton.mpr rfl) dX9_init_63 (fun H locs h_41 eh_41 hW hT hs => ?_)
  have f_5 := (hs.o gx trivial rfl).2.trans f_5
  have f_14 := (hs.o gx trivial rfl).2.trans f_14
  have f_23 := (hs.o gx trivial rfl).2.trans f_23
  have f_27 := (hs.o gx trivial rfl).2.trans f_27
  have f_32 := (hs.o gx trivial rfl).2.trans f_32
  have po_40 := (hs.o gq_34 trivial rfl).1.trans po_40
  have hz := hx_zr [0, 3, 4, 5, 7, 9] hz hs gx trivial rfl
  have za_3 : ∀ j, h_41.2.1 q_2 j = 0 ∧ h_41.2.2 q_2 j = none := fun j => ⟨(hs.a gq_2 rfl j).1.trans (za_3 j).1, (hs.a gq_2 rfl j).2.trans (za_3 j).2⟩
  have za_30 : ∀ j, h_41.2.1 q_29 j = 0 ∧ h_41.2.2 q_29 j = none := fun j => ⟨(hs.a gq_29 rfl j).1.trans (za_30 j).1, (hs.a gq_29 rfl j).2.trans (za_30 j).2⟩
  have hM := hM.tr (hs.mono (by decide))
  have gx := gx.S hs
  have gq_2 := gq_2.S hs
  have gq_7 := gq_7.S hs
  have gq_16 := gq_16.S hs
  have gq_25 := gq_25.S hs
  have gq_29 := gq_29.S hs
  have gq_34 := gq_34.S hs
  have f_42 : h_41.2.2 x 9 = (some q_34) := by rw [eh_41]; exact hx_pr_at _ _ _ _
  refine lv_aload_n hx hb dX9_init_66 rfl (lv_at hl 0 rfl) ?_
  refine lv_bipush (v := 100) hx hb dX9_init_67 (by decide) ?_
  refine hk_newqX hx hb hts hown hW 45 tt_45 kw_223 hZ.2.1.2.2 (tys := P_ty dA) (t0 := 6) rfl (i := (100 : Int32)) (by decide) (Nat.le_of_ble_eq_true rfl) (Nat.le_of_ble_eq_true rfl) (Nat.le_of_ble_eq_true rfl) dX9_init_69 (fun q_44 H h_43 eh_43 hqq_44 hW hs gq_44 => ?_)
  have nq_q_44 : ∀ a ∈ (hx_X L x), a ≠ q_44 := fun a ha z => hqq_44 (z ▸ (hM.1 a ha).1)
  have hT : hx_T T_tb (L_36 ++ [q_44]) h_43 := by rw [eh_43]; exact hx_T_nw hT hqq_44 tt_45 rfl
  have f_5 := (hs.o gx trivial rfl).2.trans f_5
  have f_14 := (hs.o gx trivial rfl).2.trans f_14
  have f_23 := (hs.o gx trivial rfl).2.trans f_23
  have f_27 := (hs.o gx trivial rfl).2.trans f_27
  have f_32 := (hs.o gx trivial rfl).2.trans f_32
  have po_40 := (hs.o gq_34 trivial rfl).1.trans po_40
  have f_42 := (hs.o gx trivial rfl).2.trans f_42
  have hz := hx_zr [0, 3, 4, 5, 7, 9] hz hs gx trivial rfl
  have za_3 : ∀ j, h_43.2.1 q_2 j = 0 ∧ h_43.2.2 q_2 j = none := fun j => ⟨(hs.a gq_2 rfl j).1.trans (za_3 j).1, (hs.a gq_2 rfl j).2.trans (za_3 j).2⟩
  have za_30 : ∀ j, h_43.2.1 q_29 j = 0 ∧ h_43.2.2 q_29 j = none := fun j => ⟨(hs.a gq_29 rfl j).1.trans (za_30 j).1, (hs.a gq_29 rfl j).2.trans (za_30 j).2⟩
  have hM := hM.tr (hs.mono (by decide))
  have gx := gx.S hs
  have gq_2 := gq_2.S hs
  have gq_7 := gq_7.S hs
  have gq_16 := gq_16.S hs
  have gq_25 := gq_25.S hs
  have gq_29 := gq_29.S hs
  have gq_34 := gq_34.S hs
  have za_45 : ∀ j, h_43.2.1 q_44 j = 0 ∧ h_43.2.2 q_44 j = none := by rw [eh_43]; exact fun _ => ⟨hx_nw_i, hx_nw_r⟩
  refine hx_putrF hx hb hts hC_9 hown hW hT (hx_S.rf (M := [(125, 10)])) gx tt_125 10 (by decide) rfl kw_374 ⟨rfl, rfl, rfl⟩ rfl hin rfl (x := (some q_44)) ⟨fun _ z => (by cases z), fun q hq => (by cases hq; exact ⟨gq_44.1, by rw [gq_44.2]; decide⟩)⟩ rfl rfl rfl (List.mem_singleton.mpr rfl) dX9_init_72 (fun H locs h_46 eh_46 hW hT hs => ?_)
  have f_5 := (hs.o gx trivial rfl).2.trans f_5
  have f_14 := (hs.o gx trivial rfl).2.trans f_14
  have f_23 := (hs.o gx trivial rfl).2.trans f_23
  have f_27 := (hs.o gx trivial rfl).2.trans f_27
  have f_32 := (hs.o gx trivial rfl).2.trans f_32
  have po_40 := (hs.o gq_34 trivial rfl).1.trans po_40
  have f_42 := (hs.o gx trivial rfl).2.trans f_42
  have hz := hx_zr [0, 3, 4, 5, 7, 9, 10] hz hs gx trivial rfl
  have za_3 : ∀ j, h_46.2.1 q_2 j = 0 ∧ h_46.2.2 q_2 j = none := fun j => ⟨(hs.a gq_2 rfl j).1.trans (za_3 j).1, (hs.a gq_2 rfl j).2.trans (za_3 j).2⟩
  have za_30 : ∀ j, h_46.2.1 q_29 j = 0 ∧ h_46.2.2 q_29 j = none := fun j => ⟨(hs.a gq_29 rfl j).1.trans (za_30 j).1, (hs.a gq_29 rfl j).2.trans (za_30 j).2⟩
  have za_45 : ∀ j, h_46.2.1 q_44 j = 0 ∧ h_46.2.2 q_44 j = none := fun j => ⟨(hs.a gq_44 rfl j).1.trans (za_45 j).1, (hs.a gq_44 rfl j).2.trans (za_45 j).2⟩
  have hM := hM.tr (hs.mono (by decide))
  have gx := gx.S hs
  have gq_2 := gq_2.S hs
  have gq_7 := gq_7.S hs
  have gq_16 := gq_16.S hs
  have gq_25 := gq_25.S hs
  have gq_29 := gq_29.S hs
  have gq_34 := gq_34.S hs
  have gq_44 := gq_44.S hs
  have f_47 : h_46.2.2 x 10 = (some q_44) := by rw [eh_46]; exact hx_pr_at _ _ _ _
  refine lv_aload_n hx hb dX9_init_75 rfl (lv_at hl 0 rfl) ?_
  refine lv_bipush (v := 100) hx hb dX9_init_76 (by decide) ?_
  refine hk_newqX hx hb hts hown hW 46 tt_46 kw_223 hZ.2.1.2.2 (tys := P_ty dA) (t0 := 6) rfl (i := (100 : Int32)) (by decide) (Nat.le_of_ble_eq_true rfl) (Nat.le_of_ble_eq_true rfl) (Nat.le_of_ble_eq_true rfl) dX9_init_78 (fun q_49 H h_48 eh_48 hqq_49 hW hs gq_49 => ?_)
  have nq_q_49 : ∀ a ∈ (hx_X L x), a ≠ q_49 := fun a ha z => hqq_49 (z ▸ (hM.1 a ha).1)
  have hT : hx_T T_tb ((L_36 ++ [q_44]) ++ [q_49]) h_48 := by rw [eh_48]; exact hx_T_nw hT hqq_49 tt_46 rfl
  have f_5 := (hs.o gx trivial rfl).2.trans f_5
  have f_14 := (hs.o gx trivial rfl).2.trans f_14
  have f_23 := (hs.o gx trivial rfl).2.trans f_23
  have f_27 := (hs.o gx trivial rfl).2.trans f_27
  have f_32 := (hs.o gx trivial rfl).2.trans f_32
  have po_40 := (hs.o gq_34 trivial rfl).1.trans po_40
  have f_42 := (hs.o gx trivial rfl).2.trans f_42
  have f_47 := (hs.o gx trivial rfl).2.trans f_47
  have hz := hx_zr [0, 3, 4, 5, 7, 9, 10] hz hs gx trivial rfl
  have za_3 : ∀ j, h_48.2.1 q_2 j = 0 ∧ h_48.2.2 q_2 j = none := fun j => ⟨(hs.a gq_2 rfl j).1.trans (za_3 j).1, (hs.a gq_2 rfl j).2.trans (za_3 j).2⟩
  have za_30 : ∀ j, h_48.2.1 q_29 j = 0 ∧ h_48.2.2 q_29 j = none := fun j => ⟨(hs.a gq_29 rfl j).1.trans (za_30 j).1, (hs.a gq_29 rfl j).2.trans (za_30 j).2⟩
  have za_45 : ∀ j, h_48.2.1 q_44 j = 0 ∧ h_48.2.2 q_44 j = none := fun j => ⟨(hs.a gq_44 rfl j).1.trans (za_45 j).1, (hs.a gq_44 rfl j).2.trans (za_45 j).2⟩
  have hM := hM.tr (hs.mono (by decide))
  have gx := gx.S hs
  have gq_2 := gq_2.S hs
  have gq_7 := gq_7.S hs
  have gq_16 := gq_16.S hs
  have gq_25 := gq_25.S hs
  have gq_29 := gq_29.S hs
  have gq_34 := gq_34.S hs
  have gq_44 := gq_44.S hs
  refine hx_putrF hx hb hts hC_9 hown hW hT (hx_S.rf (M := [(125, 12)])) gx tt_125 12 (by decide) rfl kw_376 ⟨rfl, rfl, rfl⟩ rfl hin rfl (x := (some q_49)) ⟨fun _ z => (by cases z), fun q hq => (by cases hq; exact ⟨gq_49.1, by rw [gq_49.2]; decide⟩)⟩ rfl rfl rfl (List.mem_singleton.mpr rfl) dX9_init_81 (fun H locs h_50 eh_50 hW hT hs => ?_)
  have f_5 := (hs.o gx trivial rfl).2.trans f_5
  have f_14 := (hs.o gx trivial rfl).2.trans f_14
  have f_23 := (hs.o gx trivial rfl).2.trans f_23
  have f_27 := (hs.o gx trivial rfl).2.trans f_27
  have f_32 := (hs.o gx trivial rfl).2.trans f_32
  have po_40 := (hs.o gq_34 trivial rfl).1.trans po_40
  have f_42 := (hs.o gx trivial rfl).2.trans f_42
  have f_47 := (hs.o gx trivial rfl).2.trans f_47
  have hz := hx_zr [0, 3, 4, 5, 7, 9, 10, 12] hz hs gx trivial rfl
  have za_3 : ∀ j, h_50.2.1 q_2 j = 0 ∧ h_50.2.2 q_2 j = none := fun j => ⟨(hs.a gq_2 rfl j).1.trans (za_3 j).1, (hs.a gq_2 rfl j).2.trans (za_3 j).2⟩
  have za_30 : ∀ j, h_50.2.1 q_29 j = 0 ∧ h_50.2.2 q_29 j = none := fun j => ⟨(hs.a gq_29 rfl j).1.trans (za_30 j).1, (hs.a gq_29 rfl j).2.trans (za_30 j).2⟩
  have za_45 : ∀ j, h_50.2.1 q_44 j = 0 ∧ h_50.2.2 q_44 j = none := fun j => ⟨(hs.a gq_44 rfl j).1.trans (za_45 j).1, (hs.a gq_44 rfl j).2.trans (za_45 j).2⟩
  have hM := hM.tr (hs.mono (by decide))
  have gx := gx.S hs
  have gq_2 := gq_2.S hs
  have gq_7 := gq_7.S hs
  have gq_16 := gq_16.S hs
  have gq_25 := gq_25.S hs
  have gq_29 := gq_29.S hs
  have gq_34 := gq_34.S hs
  have gq_44 := gq_44.S hs
  have gq_49 := gq_49.S hs
  have f_51 : h_50.2.2 x 12 = (some q_49) := by rw [eh_50]; exact hx_pr_at _ _ _ _
  refine lv_aload_n hx hb dX9_init_84 rfl (lv_at hl 0 rfl) ?_
  refine hk_new hx hb hts hC_3 hown hW 119 tt_119 rfl (by decide) kw_225 kw_226 kw_99 (Nat.le_of_ble_eq_true rfl) (Nat.le_of_ble_eq_true rfl) dX9_init_85 (fun q_53 H h_52 eh_52 hqq_53 hW hs gq_53 => ?_)
  have nq_q_53 : ∀ a ∈ (hx_X L x), a ≠ q_53 := fun a ha z => hqq_53 (z ▸ (hM.1 a ha).1)
  have hT : hx_T T_tb (((L_36 ++ [q_44]) ++ [q_49]) ++ [q_53]) h_52 := by rw [eh_52]; exact hx_T_nw hT hqq_53 tt_119 rfl
  have f_5 := (hs.o gx trivial rfl).2.trans f_5
  have f_14 := (hs.o gx trivial rfl).2.trans f_14
  have f_23 := (hs.o gx trivial rfl).2.trans f_23
  have f_27 := (hs.o gx trivial rfl).2.trans f_27
  have f_32 := (hs.o gx trivial rfl).2.trans f_32
  have po_40 := (hs.o gq_34 trivial rfl).1.trans po_40
  have f_42 := (hs.o gx trivial rfl).2.trans f_42
  have f_47 := (hs.o gx trivial rfl).2.trans f_47
  have f_51 := (hs.o gx trivial rfl).2.trans f_51
  have hz := hx_zr [0, 3, 4, 5, 7, 9, 10, 12] hz hs gx trivial rfl
  have za_3 : ∀ j, h_52.2.1 q_2 j = 0 ∧ h_52.2.2 q_2 j = none := fun j => ⟨(hs.a gq_2 rfl j).1.trans (za_3 j).1, (hs.a gq_2 rfl j).2.trans (za_3 j).2⟩
  have za_30 : ∀ j, h_52.2.1 q_29 j = 0 ∧ h_52.2.2 q_29 j = none := fun j => ⟨(hs.a gq_29 rfl j).1.trans (za_30 j).1, (hs.a gq_29 rfl j).2.trans (za_30 j).2⟩
  have za_45 : ∀ j, h_52.2.1 q_44 j = 0 ∧ h_52.2.2 q_44 j = none := fun j => ⟨(hs.a gq_44 rfl j).1.trans (za_45 j).1, (hs.a gq_44 rfl j).2.trans (za_45 j).2⟩
  have hM := hM.tr (hs.mono (by decide))
  have gx := gx.S hs
  have gq_2 := gq_2.S hs
  have gq_7 := gq_7.S hs
  have gq_16 := gq_16.S hs
  have gq_25 := gq_25.S hs
  have gq_29 := gq_29.S hs
  have gq_34 := gq_34.S hs
  have gq_44 := gq_44.S hs
  have gq_49 := gq_49.S hs
  have fz_54 : ∀ j, ([] : List Nat).contains j = false → h_52.2.1 q_53 j = 0 ∧ h_52.2.2 q_53 j = none := by rw [eh_52]; exact fun _ _ => ⟨hx_nw_i, hx_nw_r⟩
  refine lv_dup hx hb dX9_init_88 rfl ?_
  refine hx_gov (hx_runIN (As := []) (rest := [.ref q_53, .ref x]) ⟨hx, hb, hml, hown, hts⟩ hW (t_X3_init l dC dI dA (((L_36 ++ [q_44]) ++ [q_49]) ++ [q_53]) h_52 H.size q_53 hT gq_53 (fun j => fz_54 j rfl)) ⟨va_cnB 0 hts (hx_gC kw_229) rfl rfl rfl (hZ.1 _ (List.mem_of_getElem? (i := 3) rfl)) (hts _ kw_99) (by decide +kernel) ⟨Nat.le_of_ble_eq_true rfl, Nat.le_of_ble_eq_true rfl⟩, rfl, hts _ kw_228⟩ rfl hl.1 rfl (Nat.le_of_ble_eq_true rfl) dX9_init_89 ⟨Nat.le_of_ble_eq_true rfl, Nat.le_of_ble_eq_true rfl⟩) hW (fun L_55 h_56 H locs p_58 hW => ?_)
  obtain ⟨hT, hs, gNq_53⟩ := p_58
  have hT : hx_T T_tb L_55 h_56 := hT
  have hs : hx_S T_tb [(119, 1), (119, 2), (119, 3), (119, 4), (119, 5)] (hx_X (((L_36 ++ [q_44]) ++ [q_49]) ++ [q_53]) q_53) h_52 L_55 h_56 := hs
  have gx := hx_gX gx (gx.ne gq_53 (by decide))
  have gq_2 := hx_gX gq_2 (gq_2.ne gq_53 (by decide))
  have gq_7 := hx_gX gq_7 (gq_7.ne gq_53 (by decide))
  have gq_16 := hx_gX gq_16 (gq_16.ne gq_53 (by decide))
  have gq_25 := hx_gX gq_25 (gq_25.ne gq_53 (by decide))
  have gq_29 := hx_gX gq_29 (gq_29.ne gq_53 (by decide))
  have gq_34 := hx_gX gq_34 (gq_34.ne gq_53 (by decide))
  have gq_44 := hx_gX gq_44 (gq_44.ne gq_53 (by decide))
  have gq_49 := hx_gX gq_49 (gq_49.ne gq_53 (by decide))
  have f_5 := (hs.o gx trivial rfl).2.trans f_5
  have f_14 := (hs.o gx trivial rfl).2.trans f_14
  have f_23 := (hs.o gx trivial rfl).2.trans f_23
  have f_27 := (hs.o gx trivial rfl).2.trans f_27
  have f_32 := (hs.o gx trivial rfl).2.trans f_32
  have po_40 := (hs.o gq_34 trivial rfl).1.trans po_40
  have f_42 := (hs.o gx trivial rfl).2.trans f_42
  have f_47 := (hs.o gx trivial rfl).2.trans f_47
  have f_51 := (hs.o gx trivial rfl).2.trans f_51
  have hz := hx_zr [0, 3, 4, 5, 7, 9, 10, 12] hz hs gx trivial rfl
  have za_3 : ∀ j, h_56.2.1 q_2 j = 0 ∧ h_56.2.2 q_2 j = none := fun j => ⟨(hs.a gq_2 rfl j).1.trans (za_3 j).1, (hs.a gq_2 rfl j).2.trans (za_3 j).2⟩
  have za_30 : ∀ j, h_56.2.1 q_29 j = 0 ∧ h_56.2.2 q_29 j = none := fun j => ⟨(hs.a gq_29 rfl j).1.trans (za_30 j).1, (hs.a gq_29 rfl j).2.trans (za_30 j).2⟩
  have za_45 : ∀ j, h_56.2.1 q_44 j = 0 ∧ h_56.2.2 q_44 j = none := fun j => ⟨(hs.a gq_44 rfl j).1.trans (za_45 j).1, (hs.a gq_44 rfl j).2.trans (za_45 j).2⟩
  have hM := hM.trX (hs.mono (by decide)) nq_q_53
  have gx := gx.S hs
  have gq_2 := gq_2.S hs
  have gq_7 := gq_7.S hs
  have gq_16 := gq_16.S hs
  have gq_25 := gq_25.S hs
  have gq_29 := gq_29.S hs
  have gq_34 := gq_34.S hs
  have gq_44 := gq_44.S hs
  have gq_49 := gq_49.S hs
  have gq_53 : hx_g L_55 h_56 q_53 3 := gNq_53
  refine hx_putrF hx hb hts hC_9 hown hW hT (hx_S.rf (M := [(125, 14)])) gx tt_125 14 (by decide) rfl kw_378 ⟨rfl, rfl, rfl⟩ rfl hin rfl (x := (some q_53)) ⟨fun _ z => (by cases z), fun q hq => (by cases hq; exact ⟨gq_53.1, by rw [gq_53.2]; decide⟩)⟩ rfl rfl rfl (List.mem_singleton.mpr rfl) dX9_init_92 (fun H locs h_59 eh_59 hW hT hs => ?_)
  have f_5 := (hs.o gx trivial rfl).2.trans f_5
  have f_14 := (hs.o gx trivial rfl).2.trans f_14
  have f_23 := (hs.o gx trivial rfl).2.trans f_23
  have f_27 := (hs.o gx trivial rfl).2.trans f_27
  have f_32 := (hs.o gx trivial rfl).2.trans f_32
  have po_40 := (hs.o gq_34 trivial rfl).1.trans po_40
  have f_42 := (hs.o gx trivial rfl).2.trans f_42
  have f_47 := (hs.o gx trivial rfl).2.trans f_47
  have f_51 := (hs.o gx trivial rfl).2.trans f_51
  have hz := hx_zr [0, 3, 4, 5, 7, 9, 10, 12, 14] hz hs gx trivial rfl
  have za_3 : ∀ j, h_59.2.1 q_2 j = 0 ∧ h_59.2.2 q_2 j = none := fun j => ⟨(hs.a gq_2 rfl j).1.trans (za_3 j).1, (hs.a gq_2 rfl j).2.trans (za_3 j).2⟩
  have za_30 : ∀ j, h_59.2.1 q_29 j = 0 ∧ h_59.2.2 q_29 j = none := fun j => ⟨(hs.a gq_29 rfl j).1.trans (za_30 j).1, (hs.a gq_29 rfl j).2.trans (za_30 j).2⟩
  have za_45 : ∀ j, h_59.2.1 q_44 j = 0 ∧ h_59.2.2 q_44 j = none := fun j => ⟨(hs.a gq_44 rfl j).1.trans (za_45 j).1, (hs.a gq_44 rfl j).2.trans (za_45 j).2⟩
  have hM := hM.tr (hs.mono (by decide))
  have gx := gx.S hs
  have gq_2 := gq_2.S hs
  have gq_7 := gq_7.S hs
  have gq_16 := gq_16.S hs
  have gq_25 := gq_25.S hs
  have gq_29 := gq_29.S hs
  have gq_34 := gq_34.S hs
  have gq_44 := gq_44.S hs
  have gq_49 := gq_49.S hs
  have gq_53 := gq_53.S hs
  have f_60 : h_59.2.2 x 14 = (some q_53) := by rw [eh_59]; exact hx_pr_at _ _ _ _
  refine lv_aload_n hx hb dX9_init_95 rfl (lv_at hl 0 rfl) ?_
  refine lv_bipush (v := 40) hx hb dX9_init_96 (by decide) ?_
  refine hk_newa hx hb hts hW 47 tt_47 (atype := .int) rfl kw_186 (tys := P_ty dA) (t0 := 0) rfl (fun _ => Iff.rfl) rfl (i := (40 : Int32)) (by decide) (Nat.le_of_ble_eq_true rfl) (Nat.le_of_ble_eq_true rfl) (Nat.le_of_ble_eq_true rfl) dX9_init_98 (fun q_62 H h_61 eh_61 hqq_62 hW hs gq_62 => ?_)
  have nq_q_62 : ∀ a ∈ (hx_X L x), a ≠ q_62 := fun a ha z => hqq_62 (z ▸ (hM.1 a ha).1)
  have hT : hx_T T_tb (L_55 ++ [q_62]) h_61 := by rw [eh_61]; exact hx_T_nw hT hqq_62 tt_47 rfl
  have f_5 := (hs.o gx trivial rfl).2.trans f_5
  have f_14 := (hs.o gx trivial rfl).2.trans f_14
  have f_23 := (hs.o gx trivial rfl).2.trans f_23
  have f_27 := (hs.o gx trivial rfl).2.trans f_27
  have f_32 := (hs.o gx trivial rfl).2.trans f_32
  have po_40 := (hs.o gq_34 trivial rfl).1.trans po_40
  have f_42 := (hs.o gx trivial rfl).2.trans f_42
  have f_47 := (hs.o gx trivial rfl).2.trans f_47
  have f_51 := (hs.o gx trivial rfl).2.trans f_51
  have f_60 := (hs.o gx trivial rfl).2.trans f_60
  have hz := hx_zr [0, 3, 4, 5, 7, 9, 10, 12, 14] hz hs gx trivial rfl
  have za_3 : ∀ j, h_61.2.1 q_2 j = 0 ∧ h_61.2.2 q_2 j = none := fun j => ⟨(hs.a gq_2 rfl j).1.trans (za_3 j).1, (hs.a gq_2 rfl j).2.trans (za_3 j).2⟩
  have za_30 : ∀ j, h_61.2.1 q_29 j = 0 ∧ h_61.2.2 q_29 j = none := fun j => ⟨(hs.a gq_29 rfl j).1.trans (za_30 j).1, (hs.a gq_29 rfl j).2.trans (za_30 j).2⟩
  have za_45 : ∀ j, h_61.2.1 q_44 j = 0 ∧ h_61.2.2 q_44 j = none := fun j => ⟨(hs.a gq_44 rfl j).1.trans (za_45 j).1, (hs.a gq_44 rfl j).2.trans (za_45 j).2⟩
  have hM := hM.tr (hs.mono (by decide))
  have gx := gx.S hs
  have gq_2 := gq_2.S hs
  have gq_7 := gq_7.S hs
  have gq_16 := gq_16.S hs
  have gq_25 := gq_25.S hs
  have gq_29 := gq_29.S hs
  have gq_34 := gq_34.S hs
  have gq_44 := gq_44.S hs
  have gq_49 := gq_49.S hs
  have gq_53 := gq_53.S hs
  refine hx_putrF hx hb hts hC_9 hown hW hT (hx_S.rf (M := [(125, 15)])) gx tt_125 15 (by decide) rfl kw_379 ⟨rfl, rfl, rfl⟩ rfl hin rfl (x := (some q_62)) ⟨fun _ z => (by cases z), fun q hq => (by cases hq; exact ⟨gq_62.1, by rw [gq_62.2]; decide⟩)⟩ rfl rfl rfl (List.mem_singleton.mpr rfl) dX9_init_100 (fun H locs h_63 eh_63 hW hT hs => ?_)
  have f_5 := (hs.o gx trivial rfl).2.trans f_5
  have f_14 := (hs.o gx trivial rfl).2.trans f_14
  have f_23 := (hs.o gx trivial rfl).2.trans f_23
  have f_27 := (hs.o gx trivial rfl).2.trans f_27
  have f_32 := (hs.o gx trivial rfl).2.trans f_32
  have po_40 := (hs.o gq_34 trivial rfl).1.trans po_40
  have f_42 := (hs.o gx trivial rfl).2.trans f_42
  have f_47 := (hs.o gx trivial rfl).2.trans f_47
  have f_51 := (hs.o gx trivial rfl).2.trans f_51
  have f_60 := (hs.o gx trivial rfl).2.trans f_60
  have hz := hx_zr [0, 3, 4, 5, 7, 9, 10, 12, 14, 15] hz hs gx trivial rfl
  have za_3 : ∀ j, h_63.2.1 q_2 j = 0 ∧ h_63.2.2 q_2 j = none := fun j => ⟨(hs.a gq_2 rfl j).1.trans (za_3 j).1, (hs.a gq_2 rfl j).2.trans (za_3 j).2⟩
  have za_30 : ∀ j, h_63.2.1 q_29 j = 0 ∧ h_63.2.2 q_29 j = none := fun j => ⟨(hs.a gq_29 rfl j).1.trans (za_30 j).1, (hs.a gq_29 rfl j).2.trans (za_30 j).2⟩
  have za_45 : ∀ j, h_63.2.1 q_44 j = 0 ∧ h_63.2.2 q_44 j = none := fun j => ⟨(hs.a gq_44 rfl j).1.trans (za_45 j).1, (hs.a gq_44 rfl j).2.trans (za_45 j).2⟩
  have hM := hM.tr (hs.mono (by decide))
  have gx := gx.S hs
  have gq_2 := gq_2.S hs
  have gq_7 := gq_7.S hs
  have gq_16 := gq_16.S hs
  have gq_25 := gq_25.S hs
  have gq_29 := gq_29.S hs
  have gq_34 := gq_34.S hs
  have gq_44 := gq_44.S hs
  have gq_49 := gq_49.S hs
  have gq_53 := gq_53.S hs
  have gq_62 := gq_62.S hs
  have f_64 : h_63.2.2 x 15 = (some q_62) := by rw [eh_63]; exact hx_pr_at _ _ _ _
  refine lv_aload_n hx hb dX9_init_103 rfl (lv_at hl 0 rfl) ?_
  refine lv_bipush (v := 100) hx hb dX9_init_104 (by decide) ?_
  refine hk_newa hx hb hts hW 48 tt_48 (atype := .int) rfl kw_186 (tys := P_ty dA) (t0 := 0) rfl (fun _ => Iff.rfl) rfl (i := (100 : Int32)) (by decide) (Nat.le_of_ble_eq_true rfl) (Nat.le_of_ble_eq_true rfl) (Nat.le_of_ble_eq_true rfl) dX9_init_106 (fun q_66 H h_65 eh_65 hqq_66 hW hs gq_66 => ?_)
  have nq_q_66 : ∀ a ∈ (hx_X L x), a ≠ q_66 := fun a ha z => hqq_66 (z ▸ (hM.1 a ha).1)
  have hT : hx_T T_tb ((L_55 ++ [q_62]) ++ [q_66]) h_65 := by rw [eh_65]; exact hx_T_nw hT hqq_66 tt_48 rfl
  have f_5 := (hs.o gx trivial rfl).2.trans f_5
  have f_14 := (hs.o gx trivial rfl).2.trans f_14
  have f_23 := (hs.o gx trivial rfl).2.trans f_23
  have f_27 := (hs.o gx trivial rfl).2.trans f_27
  have f_32 := (hs.o gx trivial rfl).2.trans f_32
  have po_40 := (hs.o gq_34 trivial rfl).1.trans po_40
  have f_42 := (hs.o gx trivial rfl).2.trans f_42
  have f_47 := (hs.o gx trivial rfl).2.trans f_47
  have f_51 := (hs.o gx trivial rfl).2.trans f_51
  have f_60 := (hs.o gx trivial rfl).2.trans f_60
  have f_64 := (hs.o gx trivial rfl).2.trans f_64
  have hz := hx_zr [0, 3, 4, 5, 7, 9, 10, 12, 14, 15] hz hs gx trivial rfl
  have za_3 : ∀ j, h_65.2.1 q_2 j = 0 ∧ h_65.2.2 q_2 j = none := fun j => ⟨(hs.a gq_2 rfl j).1.trans (za_3 j).1, (hs.a gq_2 rfl j).2.trans (za_3 j).2⟩
  have za_30 : ∀ j, h_65.2.1 q_29 j = 0 ∧ h_65.2.2 q_29 j = none := fun j => ⟨(hs.a gq_29 rfl j).1.trans (za_30 j).1, (hs.a gq_29 rfl j).2.trans (za_30 j).2⟩
  have za_45 : ∀ j, h_65.2.1 q_44 j = 0 ∧ h_65.2.2 q_44 j = none := fun j => ⟨(hs.a gq_44 rfl j).1.trans (za_45 j).1, (hs.a gq_44 rfl j).2.trans (za_45 j).2⟩
  have hM := hM.tr (hs.mono (by decide))
  have gx := gx.S hs
  have gq_2 := gq_2.S hs
  have gq_7 := gq_7.S hs
  have gq_16 := gq_16.S hs
  have gq_25 := gq_25.S hs
  have gq_29 := gq_29.S hs
  have gq_34 := gq_34.S hs
  have gq_44 := gq_44.S hs
  have gq_49 := gq_49.S hs
  have gq_53 := gq_53.S hs
  have gq_62 := gq_62.S hs
  refine hx_putrF hx hb hts hC_9 hown hW hT (hx_S.rf (M := [(125, 16)])) gx tt_125 16 (by decide) rfl kw_380 ⟨rfl, rfl, rfl⟩ rfl hin rfl (x := (some q_66)) ⟨fun _ z => (by cases z), fun q hq => (by cases hq; exact ⟨gq_66.1, by rw [gq_66.2]; decide⟩)⟩ rfl rfl rfl (List.mem_singleton.mpr rfl) dX9_init_108 (fun H locs h_67 eh_67 hW hT hs => ?_)
  have f_5 := (hs.o gx trivial rfl).2.trans f_5
  have f_14 := (hs.o gx trivial rfl).2.trans f_14
  have f_23 := (hs.o gx trivial rfl).2.trans f_23
  have f_27 := (hs.o gx trivial rfl).2.trans f_27
  have f_32 := (hs.o gx trivial rfl).2.trans f_32
  have po_40 := (hs.o gq_34 trivial rfl).1.trans po_40
  have f_42 := (hs.o gx trivial rfl).2.trans f_42
  have f_47 := (hs.o gx trivial rfl).2.trans f_47
  have f_51 := (hs.o gx trivial rfl).2.trans f_51
  have f_60 := (hs.o gx trivial rfl).2.trans f_60
  have f_64 := (hs.o gx trivial rfl).2.trans f_64
  have hz := hx_zr [0, 3, 4, 5, 7, 9, 10, 12, 14, 15, 16] hz hs gx trivial rfl
  have za_3 : ∀ j, h_67.2.1 q_2 j = 0 ∧ h_67.2.2 q_2 j = none := fun j => ⟨(hs.a gq_2 rfl j).1.trans (za_3 j).1, (hs.a gq_2 rfl j).2.trans (za_3 j).2⟩
  have za_30 : ∀ j, h_67.2.1 q_29 j = 0 ∧ h_67.2.2 q_29 j = none := fun j => ⟨(hs.a gq_29 rfl j).1.trans (za_30 j).1, (hs.a gq_29 rfl j).2.trans (za_30 j).2⟩
  have za_45 : ∀ j, h_67.2.1 q_44 j = 0 ∧ h_67.2.2 q_44 j = none := fun j => ⟨(hs.a gq_44 rfl j).1.trans (za_45 j).1, (hs.a gq_44 rfl j).2.trans (za_45 j).2⟩
  have hM := hM.tr (hs.mono (by decide))
  have gx := gx.S hs
  have gq_2 := gq_2.S hs
  have gq_7 := gq_7.S hs
  have gq_16 := gq_16.S hs
  have gq_25 := gq_25.S hs
  have gq_29 := gq_29.S hs
  have gq_34 := gq_34.S hs
  have gq_44 := gq_44.S hs
  have gq_49 := gq_49.S hs
  have gq_53 := gq_53.S hs
  have gq_62 := gq_62.S hs
  have gq_66 := gq_66.S hs
  have f_68 : h_67.2.2 x 16 = (some q_66) := by rw [eh_67]; exact hx_pr_at _ _ _ _
  refine lv_aload_n hx hb dX9_init_111 rfl (lv_at hl 0 rfl) ?_
  refine hk_new hx hb hts hC_5 hown hW 121 tt_121 rfl (by decide) kw_252 kw_253 kw_100 (Nat.le_of_ble_eq_true rfl) (Nat.le_of_ble_eq_true rfl) dX9_init_112 (fun q_70 H h_69 eh_69 hqq_70 hW hs gq_70 => ?_)
  have nq_q_70 : ∀ a ∈ (hx_X L x), a ≠ q_70 := fun a ha z => hqq_70 (z ▸ (hM.1 a ha).1)
  have hT : hx_T T_tb (((L_55 ++ [q_62]) ++ [q_66]) ++ [q_70]) h_69 := by rw [eh_69]; exact hx_T_nw hT hqq_70 tt_121 rfl
  have f_5 := (hs.o gx trivial rfl).2.trans f_5
  have f_14 := (hs.o gx trivial rfl).2.trans f_14
  have f_23 := (hs.o gx trivial rfl).2.trans f_23
  have f_27 := (hs.o gx trivial rfl).2.trans f_27
  have f_32 := (hs.o gx trivial rfl).2.trans f_32
  have po_40 := (hs.o gq_34 trivial rfl).1.trans po_40
  have f_42 := (hs.o gx trivial rfl).2.trans f_42
  have f_47 := (hs.o gx trivial rfl).2.trans f_47
  have f_51 := (hs.o gx trivial rfl).2.trans f_51
  have f_60 := (hs.o gx trivial rfl).2.trans f_60
  have f_64 := (hs.o gx trivial rfl).2.trans f_64
  have f_68 := (hs.o gx trivial rfl).2.trans f_68
  have hz := hx_zr [0, 3, 4, 5, 7, 9, 10, 12, 14, 15, 16] hz hs gx trivial rfl
  have za_3 : ∀ j, h_69.2.1 q_2 j = 0 ∧ h_69.2.2 q_2 j = none := fun j => ⟨(hs.a gq_2 rfl j).1.trans (za_3 j).1, (hs.a gq_2 rfl j).2.trans (za_3 j).2⟩
  have za_30 : ∀ j, h_69.2.1 q_29 j = 0 ∧ h_69.2.2 q_29 j = none := fun j => ⟨(hs.a gq_29 rfl j).1.trans (za_30 j).1, (hs.a gq_29 rfl j).2.trans (za_30 j).2⟩
  have za_45 : ∀ j, h_69.2.1 q_44 j = 0 ∧ h_69.2.2 q_44 j = none := fun j => ⟨(hs.a gq_44 rfl j).1.trans (za_45 j).1, (hs.a gq_44 rfl j).2.trans (za_45 j).2⟩
  have hM := hM.tr (hs.mono (by decide))
  have gx := gx.S hs
  have gq_2 := gq_2.S hs
  have gq_7 := gq_7.S hs
  have gq_16 := gq_16.S hs
  have gq_25 := gq_25.S hs
  have gq_29 := gq_29.S hs
  have gq_34 := gq_34.S hs
  have gq_44 := gq_44.S hs
  have gq_49 := gq_49.S hs
  have gq_53 := gq_53.S hs
  have gq_62 := gq_62.S hs
  have gq_66 := gq_66.S hs
  have fz_71 : ∀ j, ([] : List Nat).contains j = false → h_69.2.1 q_70 j = 0 ∧ h_69.2.2 q_70 j = none := by rw [eh_69]; exact fun _ _ => ⟨hx_nw_i, hx_nw_r⟩
  refine lv_dup hx hb dX9_init_115 rfl ?_
  refine hx_gov (hx_runIN (As := []) (rest := [.ref q_70, .ref x]) ⟨hx, hb, hml, hown, hts⟩ hW (t_X5_init l dC dI dA (((L_55 ++ [q_62]) ++ [q_66]) ++ [q_70]) h_69 H.size q_70 hT gq_70 (fun j => fz_71 j rfl)) ⟨va_cnB 0 hts (hx_gC kw_256) rfl rfl rfl (hZ.1 _ (List.mem_of_getElem? (i := 4) rfl)) (hts _ kw_100) (by decide +kernel) ⟨Nat.le_of_ble_eq_true rfl, Nat.le_of_ble_eq_true rfl⟩, rfl, hts _ kw_255⟩ rfl hl.1 rfl (Nat.le_of_ble_eq_true rfl) dX9_init_116 ⟨Nat.le_of_ble_eq_true rfl, Nat.le_of_ble_eq_true rfl⟩) hW (fun L_72 h_73 H locs p_75 hW => ?_)
  obtain ⟨hT, hs, gNq_70⟩ := p_75
  have hT : hx_T T_tb L_72 h_73 := hT
  have hs : hx_S T_tb [(121, 2), (121, 3), (121, 4), (121, 5), (121, 6), (121, 7), (121, 8)] (hx_X (((L_55 ++ [q_62]) ++ [q_66]) ++ [q_70]) q_70) h_69 L_72 h_73 := hs
  have gx := hx_gX gx (gx.ne gq_70 (by decide))
  have gq_2 := hx_gX gq_2 (gq_2.ne gq_70 (by decide))
  have gq_7 := hx_gX gq_7 (gq_7.ne gq_70 (by decide))
  have gq_16 := hx_gX gq_16 (gq_16.ne gq_70 (by decide))
  have gq_25 := hx_gX gq_25 (gq_25.ne gq_70 (by decide))
  have gq_29 := hx_gX gq_29 (gq_29.ne gq_70 (by decide))
  have gq_34 := hx_gX gq_34 (gq_34.ne gq_70 (by decide))
  have gq_44 := hx_gX gq_44 (gq_44.ne gq_70 (by decide))
  have gq_49 := hx_gX gq_49 (gq_49.ne gq_70 (by decide))
  have gq_53 := hx_gX gq_53 (gq_53.ne gq_70 (by decide))
  have gq_62 := hx_gX gq_62 (gq_62.ne gq_70 (by decide))
  have gq_66 := hx_gX gq_66 (gq_66.ne gq_70 (by decide))
  have f_5 := (hs.o gx trivial rfl).2.trans f_5
  have f_14 := (hs.o gx trivial rfl).2.trans f_14
  have f_23 := (hs.o gx trivial rfl).2.trans f_23
  have f_27 := (hs.o gx trivial rfl).2.trans f_27
  have f_32 := (hs.o gx trivial rfl).2.trans f_32
  have po_40 := (hs.o gq_34 trivial rfl).1.trans po_40
  have f_42 := (hs.o gx trivial rfl).2.trans f_42
  have f_47 := (hs.o gx trivial rfl).2.trans f_47
  have f_51 := (hs.o gx trivial rfl).2.trans f_51
  have f_60 := (hs.o gx trivial rfl).2.trans f_60
  have f_64 := (hs.o gx trivial rfl).2.trans f_64
  have f_68 := (hs.o gx trivial rfl).2.trans f_68
  have hz := hx_zr [0, 3, 4, 5, 7, 9, 10, 12, 14, 15, 16] hz hs gx trivial rfl
  have za_3 : ∀ j, h_73.2.1 q_2 j = 0 ∧ h_73.2.2 q_2 j = none := fun j => ⟨(hs.a gq_2 rfl j).1.trans (za_3 j).1, (hs.a gq_2 rfl j).2.trans (za_3 j).2⟩
  have za_30 : ∀ j, h_73.2.1 q_29 j = 0 ∧ h_73.2.2 q_29 j = none := fun j => ⟨(hs.a gq_29 rfl j).1.trans (za_30 j).1, (hs.a gq_29 rfl j).2.trans (za_30 j).2⟩
  have za_45 : ∀ j, h_73.2.1 q_44 j = 0 ∧ h_73.2.2 q_44 j = none := fun j => ⟨(hs.a gq_44 rfl j).1.trans (za_45 j).1, (hs.a gq_44 rfl j).2.trans (za_45 j).2⟩
  have hM := hM.trX (hs.mono (by decide)) nq_q_70
  have gx := gx.S hs
  have gq_2 := gq_2.S hs
  have gq_7 := gq_7.S hs
  have gq_16 := gq_16.S hs
  have gq_25 := gq_25.S hs
  have gq_29 := gq_29.S hs
  have gq_34 := gq_34.S hs
  have gq_44 := gq_44.S hs
  have gq_49 := gq_49.S hs
  have gq_53 := gq_53.S hs
  have gq_62 := gq_62.S hs
  have gq_66 := gq_66.S hs
  have gq_70 : hx_g L_72 h_73 q_70 5 := gNq_70
  refine hx_putrF hx hb hts hC_9 hown hW hT (hx_S.rf (M := [(125, 17)])) gx tt_125 17 (by decide) rfl kw_381 ⟨rfl, rfl, rfl⟩ rfl hin rfl (x := (some q_70)) ⟨fun _ z => (by cases z), fun q hq => (by cases hq; exact ⟨gq_70.1, by rw [gq_70.2]; decide⟩)⟩ rfl rfl rfl (List.mem_singleton.mpr rfl) dX9_init_119 (fun H locs h_76 eh_76 hW hT hs => ?_)
  have f_5 := (hs.o gx trivial rfl).2.trans f_5
  have f_14 := (hs.o gx trivial rfl).2.trans f_14
  have f_23 := (hs.o gx trivial rfl).2.trans f_23
  have f_27 := (hs.o gx trivial rfl).2.trans f_27
  have f_32 := (hs.o gx trivial rfl).2.trans f_32
  have po_40 := (hs.o gq_34 trivial rfl).1.trans po_40
  have f_42 := (hs.o gx trivial rfl).2.trans f_42
  have f_47 := (hs.o gx trivial rfl).2.trans f_47
  have f_51 := (hs.o gx trivial rfl).2.trans f_51
  have f_60 := (hs.o gx trivial rfl).2.trans f_60
  have f_64 := (hs.o gx trivial rfl).2.trans f_64
  have f_68 := (hs.o gx trivial rfl).2.trans f_68
  have hz := hx_zr [0, 3, 4, 5, 7, 9, 10, 12, 14, 15, 16, 17] hz hs gx trivial rfl
  have za_3 : ∀ j, h_76.2.1 q_2 j = 0 ∧ h_76.2.2 q_2 j = none := fun j => ⟨(hs.a gq_2 rfl j).1.trans (za_3 j).1, (hs.a gq_2 rfl j).2.trans (za_3 j).2⟩
  have za_30 : ∀ j, h_76.2.1 q_29 j = 0 ∧ h_76.2.2 q_29 j = none := fun j => ⟨(hs.a gq_29 rfl j).1.trans (za_30 j).1, (hs.a gq_29 rfl j).2.trans (za_30 j).2⟩
  have za_45 : ∀ j, h_76.2.1 q_44 j = 0 ∧ h_76.2.2 q_44 j = none := fun j => ⟨(hs.a gq_44 rfl j).1.trans (za_45 j).1, (hs.a gq_44 rfl j).2.trans (za_45 j).2⟩
  have hM := hM.tr (hs.mono (by decide))
  have gx := gx.S hs
  have gq_2 := gq_2.S hs
  have gq_7 := gq_7.S hs
  have gq_16 := gq_16.S hs
  have gq_25 := gq_25.S hs
  have gq_29 := gq_29.S hs
  have gq_34 := gq_34.S hs
  have gq_44 := gq_44.S hs
  have gq_49 := gq_49.S hs
  have gq_53 := gq_53.S hs
  have gq_62 := gq_62.S hs
  have gq_66 := gq_66.S hs
  have gq_70 := gq_70.S hs
  have f_77 : h_76.2.2 x 17 = (some q_70) := by rw [eh_76]; exact hx_pr_at _ _ _ _
  refine lv_aload_n hx hb dX9_init_122 rfl (lv_at hl 0 rfl) ?_
  refine hk_new hx hb hts hC_7 hown hW 123 tt_123 rfl (by decide) kw_303 kw_304 kw_101 (Nat.le_of_ble_eq_true rfl) (Nat.le_of_ble_eq_true rfl) dX9_init_123 (fun q_79 H h_78 eh_78 hqq_79 hW hs gq_79 => ?_)
  have nq_q_79 : ∀ a ∈ (hx_X L x), a ≠ q_79 := fun a ha z => hqq_79 (z ▸ (hM.1 a ha).1)
  have hT : hx_T T_tb (L_72 ++ [q_79]) h_78 := by rw [eh_78]; exact hx_T_nw hT hqq_79 tt_123 rfl
  have f_5 := (hs.o gx trivial rfl).2.trans f_5
  have f_14 := (hs.o gx trivial rfl).2.trans f_14
  have f_23 := (hs.o gx trivial rfl).2.trans f_23
  have f_27 := (hs.o gx trivial rfl).2.trans f_27
  have f_32 := (hs.o gx trivial rfl).2.trans f_32
  have po_40 := (hs.o gq_34 trivial rfl).1.trans po_40
  have f_42 := (hs.o gx trivial rfl).2.trans f_42
  have f_47 := (hs.o gx trivial rfl).2.trans f_47
  have f_51 := (hs.o gx trivial rfl).2.trans f_51
  have f_60 := (hs.o gx trivial rfl).2.trans f_60
  have f_64 := (hs.o gx trivial rfl).2.trans f_64
  have f_68 := (hs.o gx trivial rfl).2.trans f_68
  have f_77 := (hs.o gx trivial rfl).2.trans f_77
  have hz := hx_zr [0, 3, 4, 5, 7, 9, 10, 12, 14, 15, 16, 17] hz hs gx trivial rfl
  have za_3 : ∀ j, h_78.2.1 q_2 j = 0 ∧ h_78.2.2 q_2 j = none := fun j => ⟨(hs.a gq_2 rfl j).1.trans (za_3 j).1, (hs.a gq_2 rfl j).2.trans (za_3 j).2⟩
  have za_30 : ∀ j, h_78.2.1 q_29 j = 0 ∧ h_78.2.2 q_29 j = none := fun j => ⟨(hs.a gq_29 rfl j).1.trans (za_30 j).1, (hs.a gq_29 rfl j).2.trans (za_30 j).2⟩
  have za_45 : ∀ j, h_78.2.1 q_44 j = 0 ∧ h_78.2.2 q_44 j = none := fun j => ⟨(hs.a gq_44 rfl j).1.trans (za_45 j).1, (hs.a gq_44 rfl j).2.trans (za_45 j).2⟩
  have hM := hM.tr (hs.mono (by decide))
  have gx := gx.S hs
  have gq_2 := gq_2.S hs
  have gq_7 := gq_7.S hs
  have gq_16 := gq_16.S hs
  have gq_25 := gq_25.S hs
  have gq_29 := gq_29.S hs
  have gq_34 := gq_34.S hs
  have gq_44 := gq_44.S hs
  have gq_49 := gq_49.S hs
  have gq_53 := gq_53.S hs
  have gq_62 := gq_62.S hs
  have gq_66 := gq_66.S hs
  have gq_70 := gq_70.S hs
  have fz_80 : ∀ j, ([] : List Nat).contains j = false → h_78.2.1 q_79 j = 0 ∧ h_78.2.2 q_79 j = none := by rw [eh_78]; exact fun _ _ => ⟨hx_nw_i, hx_nw_r⟩
  refine lv_dup hx hb dX9_init_126 rfl ?_
  refine hx_gov (hx_runIN (As := []) (rest := [.ref q_79, .ref x]) ⟨hx, hb, hml, hown, hts⟩ hW (t_X7_init l dC dI dA (L_72 ++ [q_79]) h_78 H.size q_79 hT gq_79 (fun j => fz_80 j rfl)) ⟨va_cnB 0 hts (hx_gC kw_307) rfl rfl rfl (hZ.1 _ (List.mem_of_getElem? (i := 5) rfl)) (hts _ kw_101) (by decide +kernel) ⟨Nat.le_of_ble_eq_true rfl, Nat.le_of_ble_eq_true rfl⟩, rfl, hts _ kw_306⟩ rfl hl.1 rfl (Nat.le_of_ble_eq_true rfl) dX9_init_127 ⟨Nat.le_of_ble_eq_true rfl, Nat.le_of_ble_eq_true rfl⟩) hW (fun L_81 h_82 H locs p_84 hW => ?_)
  obtain ⟨hT, hs, gNq_79⟩ := p_84
  have hT : hx_T T_tb L_81 h_82 := hT
  have hs : hx_S T_tb [(123, 0), (123, 3), (123, 5), (123, 6), (123, 7)] (hx_X (L_72 ++ [q_79]) q_79) h_78 L_81 h_82 := hs
  have gx := hx_gX gx (gx.ne gq_79 (by decide))
  have gq_2 := hx_gX gq_2 (gq_2.ne gq_79 (by decide))
  have gq_7 := hx_gX gq_7 (gq_7.ne gq_79 (by decide))
  have gq_16 := hx_gX gq_16 (gq_16.ne gq_79 (by decide))
  have gq_25 := hx_gX gq_25 (gq_25.ne gq_79 (by decide))
  have gq_29 := hx_gX gq_29 (gq_29.ne gq_79 (by decide))
  have gq_34 := hx_gX gq_34 (gq_34.ne gq_79 (by decide))
  have gq_44 := hx_gX gq_44 (gq_44.ne gq_79 (by decide))
  have gq_49 := hx_gX gq_49 (gq_49.ne gq_79 (by decide))
  have gq_53 := hx_gX gq_53 (gq_53.ne gq_79 (by decide))
  have gq_62 := hx_gX gq_62 (gq_62.ne gq_79 (by decide))
  have gq_66 := hx_gX gq_66 (gq_66.ne gq_79 (by decide))
  have gq_70 := hx_gX gq_70 (gq_70.ne gq_79 (by decide))
  have f_5 := (hs.o gx trivial rfl).2.trans f_5
  have f_14 := (hs.o gx trivial rfl).2.trans f_14
  have f_23 := (hs.o gx trivial rfl).2.trans f_23
  have f_27 := (hs.o gx trivial rfl).2.trans f_27
  have f_32 := (hs.o gx trivial rfl).2.trans f_32
  have po_40 := (hs.o gq_34 trivial rfl).1.trans po_40
  have f_42 := (hs.o gx trivial rfl).2.trans f_42
  have f_47 := (hs.o gx trivial rfl).2.trans f_47
  have f_51 := (hs.o gx trivial rfl).2.trans f_51
  have f_60 := (hs.o gx trivial rfl).2.trans f_60
  have f_64 := (hs.o gx trivial rfl).2.trans f_64
  have f_68 := (hs.o gx trivial rfl).2.trans f_68
  have f_77 := (hs.o gx trivial rfl).2.trans f_77
  have hz := hx_zr [0, 3, 4, 5, 7, 9, 10, 12, 14, 15, 16, 17] hz hs gx trivial rfl
  have za_3 : ∀ j, h_82.2.1 q_2 j = 0 ∧ h_82.2.2 q_2 j = none := fun j => ⟨(hs.a gq_2 rfl j).1.trans (za_3 j).1, (hs.a gq_2 rfl j).2.trans (za_3 j).2⟩
  have za_30 : ∀ j, h_82.2.1 q_29 j = 0 ∧ h_82.2.2 q_29 j = none := fun j => ⟨(hs.a gq_29 rfl j).1.trans (za_30 j).1, (hs.a gq_29 rfl j).2.trans (za_30 j).2⟩
  have za_45 : ∀ j, h_82.2.1 q_44 j = 0 ∧ h_82.2.2 q_44 j = none := fun j => ⟨(hs.a gq_44 rfl j).1.trans (za_45 j).1, (hs.a gq_44 rfl j).2.trans (za_45 j).2⟩
  have hM := hM.trX (hs.mono (by decide)) nq_q_79
  have gx := gx.S hs
  have gq_2 := gq_2.S hs
  have gq_7 := gq_7.S hs
  have gq_16 := gq_16.S hs
  have gq_25 := gq_25.S hs
  have gq_29 := gq_29.S hs
  have gq_34 := gq_34.S hs
  have gq_44 := gq_44.S hs
  have gq_49 := gq_49.S hs
  have gq_53 := gq_53.S hs
  have gq_62 := gq_62.S hs
  have gq_66 := gq_66.S hs
  have gq_70 := gq_70.S hs
  have gq_79 : hx_g L_81 h_82 q_79 7 := gNq_79
  refine hx_putrF hx hb hts hC_9 hown hW hT (hx_S.rf (M := [(125, 18)])) gx tt_125 18 (by decide) rfl kw_382 ⟨rfl, rfl, rfl⟩ rfl hin rfl (x := (some q_79)) ⟨fun _ z => (by cases z), fun q hq => (by cases hq; exact ⟨gq_79.1, by rw [gq_79.2]; decide⟩)⟩ rfl rfl rfl (List.mem_singleton.mpr rfl) dX9_init_130 (fun H locs h_85 eh_85 hW hT hs => ?_)
  have f_5 := (hs.o gx trivial rfl).2.trans f_5
  have f_14 := (hs.o gx trivial rfl).2.trans f_14
  have f_23 := (hs.o gx trivial rfl).2.trans f_23
  have f_27 := (hs.o gx trivial rfl).2.trans f_27
  have f_32 := (hs.o gx trivial rfl).2.trans f_32
  have po_40 := (hs.o gq_34 trivial rfl).1.trans po_40
  have f_42 := (hs.o gx trivial rfl).2.trans f_42
  have f_47 := (hs.o gx trivial rfl).2.trans f_47
  have f_51 := (hs.o gx trivial rfl).2.trans f_51
  have f_60 := (hs.o gx trivial rfl).2.trans f_60
  have f_64 := (hs.o gx trivial rfl).2.trans f_64
  have f_68 := (hs.o gx trivial rfl).2.trans f_68
  have f_77 := (hs.o gx trivial rfl).2.trans f_77
  have hz := hx_zr [0, 3, 4, 5, 7, 9, 10, 12, 14, 15, 16, 17, 18] hz hs gx trivial rfl
  have za_3 : ∀ j, h_85.2.1 q_2 j = 0 ∧ h_85.2.2 q_2 j = none := fun j => ⟨(hs.a gq_2 rfl j).1.trans (za_3 j).1, (hs.a gq_2 rfl j).2.trans (za_3 j).2⟩
  have za_30 : ∀ j, h_85.2.1 q_29 j = 0 ∧ h_85.2.2 q_29 j = none := fun j => ⟨(hs.a gq_29 rfl j).1.trans (za_30 j).1, (hs.a gq_29 rfl j).2.trans (za_30 j).2⟩
  have za_45 : ∀ j, h_85.2.1 q_44 j = 0 ∧ h_85.2.2 q_44 j = none := fun j => ⟨(hs.a gq_44 rfl j).1.trans (za_45 j).1, (hs.a gq_44 rfl j).2.trans (za_45 j).2⟩
  have hM := hM.tr (hs.mono (by decide))
  have gx := gx.S hs
  have gq_2 := gq_2.S hs
  have gq_7 := gq_7.S hs
  have gq_16 := gq_16.S hs
  have gq_25 := gq_25.S hs
  have gq_29 := gq_29.S hs
  have gq_34 := gq_34.S hs
  have gq_44 := gq_44.S hs
  have gq_49 := gq_49.S hs
  have gq_53 := gq_53.S hs
  have gq_62 := gq_62.S hs
  have gq_66 := gq_66.S hs
  have gq_70 := gq_70.S hs
  have gq_79 := gq_79.S hs
  have f_86 : h_85.2.2 x 18 = (some q_79) := by rw [eh_85]; exact hx_pr_at _ _ _ _
  refine lv_aload_n hx hb dX9_init_133 rfl (lv_at hl 0 rfl) ?_
  refine hk_new hx hb hts hC_8 hown hW 124 tt_124 rfl (by decide) kw_338 kw_339 kw_102 (Nat.le_of_ble_eq_true rfl) (Nat.le_of_ble_eq_true rfl) dX9_init_134 (fun q_88 H h_87 eh_87 hqq_88 hW hs gq_88 => ?_)
  have nq_q_88 : ∀ a ∈ (hx_X L x), a ≠ q_88 := fun a ha z => hqq_88 (z ▸ (hM.1 a ha).1)
  have hT : hx_T T_tb (L_81 ++ [q_88]) h_87 := by rw [eh_87]; exact hx_T_nw hT hqq_88 tt_124 rfl
  have f_5 := (hs.o gx trivial rfl).2.trans f_5
  have f_14 := (hs.o gx trivial rfl).2.trans f_14
  have f_23 := (hs.o gx trivial rfl).2.trans f_23
  have f_27 := (hs.o gx trivial rfl).2.trans f_27
  have f_32 := (hs.o gx trivial rfl).2.trans f_32
  have po_40 := (hs.o gq_34 trivial rfl).1.trans po_40
  have f_42 := (hs.o gx trivial rfl).2.trans f_42
  have f_47 := (hs.o gx trivial rfl).2.trans f_47
  have f_51 := (hs.o gx trivial rfl).2.trans f_51
  have f_60 := (hs.o gx trivial rfl).2.trans f_60
  have f_64 := (hs.o gx trivial rfl).2.trans f_64
  have f_68 := (hs.o gx trivial rfl).2.trans f_68
  have f_77 := (hs.o gx trivial rfl).2.trans f_77
  have f_86 := (hs.o gx trivial rfl).2.trans f_86
  have hz := hx_zr [0, 3, 4, 5, 7, 9, 10, 12, 14, 15, 16, 17, 18] hz hs gx trivial rfl
  have za_3 : ∀ j, h_87.2.1 q_2 j = 0 ∧ h_87.2.2 q_2 j = none := fun j => ⟨(hs.a gq_2 rfl j).1.trans (za_3 j).1, (hs.a gq_2 rfl j).2.trans (za_3 j).2⟩
  have za_30 : ∀ j, h_87.2.1 q_29 j = 0 ∧ h_87.2.2 q_29 j = none := fun j => ⟨(hs.a gq_29 rfl j).1.trans (za_30 j).1, (hs.a gq_29 rfl j).2.trans (za_30 j).2⟩
  have za_45 : ∀ j, h_87.2.1 q_44 j = 0 ∧ h_87.2.2 q_44 j = none := fun j => ⟨(hs.a gq_44 rfl j).1.trans (za_45 j).1, (hs.a gq_44 rfl j).2.trans (za_45 j).2⟩
  have hM := hM.tr (hs.mono (by decide))
  have gx := gx.S hs
  have gq_2 := gq_2.S hs
  have gq_7 := gq_7.S hs
  have gq_16 := gq_16.S hs
  have gq_25 := gq_25.S hs
  have gq_29 := gq_29.S hs
  have gq_34 := gq_34.S hs
  have gq_44 := gq_44.S hs
  have gq_49 := gq_49.S hs
  have gq_53 := gq_53.S hs
  have gq_62 := gq_62.S hs
  have gq_66 := gq_66.S hs
  have gq_70 := gq_70.S hs
  have gq_79 := gq_79.S hs
  have fz_89 : ∀ j, ([] : List Nat).contains j = false → h_87.2.1 q_88 j = 0 ∧ h_87.2.2 q_88 j = none := by rw [eh_87]; exact fun _ _ => ⟨hx_nw_i, hx_nw_r⟩
  refine lv_dup hx hb dX9_init_137 rfl ?_
  refine hx_gov (hx_runINX (As := []) (rest := [.ref q_88, .ref x]) ⟨hx, hb, hml, hown, hts⟩ hW (t_X8_init l dC dI dA (L_81 ++ [q_88]) h_87 H.size b0 q_88 hT gq_88 (fun j => fz_89 j rfl)) hZ ⟨va_cnB 0 hts (hx_gC kw_342) rfl rfl rfl (hZ.1 _ (List.mem_of_getElem? (i := 6) rfl)) (hts _ kw_102) (by decide +kernel) ⟨Nat.le_of_ble_eq_true rfl, Nat.le_of_ble_eq_true rfl⟩, rfl, hts _ kw_341⟩ rfl hl.1 rfl (Nat.le_of_ble_eq_true rfl) dX9_init_138 ⟨Nat.le_of_ble_eq_true rfl, Nat.le_of_ble_eq_true rfl⟩) hW (fun L_90 h_91 H locs p_93 hW => ?_)
  obtain ⟨hT, hs, gNq_88, po_94, po_95, po_96⟩ := p_93
  have hT : hx_T T_tb L_90 h_91 := hT
  have hs : hx_S T_tb [(124, 2), (124, 3), (124, 4)] (hx_X (L_81 ++ [q_88]) q_88) h_87 L_90 h_91 := hs
  have gx := hx_gX gx (gx.ne gq_88 (by decide))
  have gq_2 := hx_gX gq_2 (gq_2.ne gq_88 (by decide))
  have gq_7 := hx_gX gq_7 (gq_7.ne gq_88 (by decide))
  have gq_16 := hx_gX gq_16 (gq_16.ne gq_88 (by decide))
  have gq_25 := hx_gX gq_25 (gq_25.ne gq_88 (by decide))
  have gq_29 := hx_gX gq_29 (gq_29.ne gq_88 (by decide))
  have gq_34 := hx_gX gq_34 (gq_34.ne gq_88 (by decide))
  have gq_44 := hx_gX gq_44 (gq_44.ne gq_88 (by decide))
  have gq_49 := hx_gX gq_49 (gq_49.ne gq_88 (by decide))
  have gq_53 := hx_gX gq_53 (gq_53.ne gq_88 (by decide))
  have gq_62 := hx_gX gq_62 (gq_62.ne gq_88 (by decide))
  have gq_66 := hx_gX gq_66 (gq_66.ne gq_88 (by decide))
  have gq_70 := hx_gX gq_70 (gq_70.ne gq_88 (by decide))
  have gq_79 := hx_gX gq_79 (gq_79.ne gq_88 (by decide))
  have f_5 := (hs.o gx trivial rfl).2.trans f_5
  have f_14 := (hs.o gx trivial rfl).2.trans f_14
  have f_23 := (hs.o gx trivial rfl).2.trans f_23
  have f_27 := (hs.o gx trivial rfl).2.trans f_27
  have f_32 := (hs.o gx trivial rfl).2.trans f_32
  have po_40 := (hs.o gq_34 trivial rfl).1.trans po_40
  have f_42 := (hs.o gx trivial rfl).2.trans f_42
  have f_47 := (hs.o gx trivial rfl).2.trans f_47
  have f_51 := (hs.o gx trivial rfl).2.trans f_51
  have f_60 := (hs.o gx trivial rfl).2.trans f_60
  have f_64 := (hs.o gx trivial rfl).2.trans f_64
  have f_68 := (hs.o gx trivial rfl).2.trans f_68
  have f_77 := (hs.o gx trivial rfl).2.trans f_77
  have f_86 := (hs.o gx trivial rfl).2.trans f_86
  have hz := hx_zr [0, 3, 4, 5, 7, 9, 10, 12, 14, 15, 16, 17, 18] hz hs gx trivial rfl
  have za_3 : ∀ j, h_91.2.1 q_2 j = 0 ∧ h_91.2.2 q_2 j = none := fun j => ⟨(hs.a gq_2 rfl j).1.trans (za_3 j).1, (hs.a gq_2 rfl j).2.trans (za_3 j).2⟩
  have za_30 : ∀ j, h_91.2.1 q_29 j = 0 ∧ h_91.2.2 q_29 j = none := fun j => ⟨(hs.a gq_29 rfl j).1.trans (za_30 j).1, (hs.a gq_29 rfl j).2.trans (za_30 j).2⟩
  have za_45 : ∀ j, h_91.2.1 q_44 j = 0 ∧ h_91.2.2 q_44 j = none := fun j => ⟨(hs.a gq_44 rfl j).1.trans (za_45 j).1, (hs.a gq_44 rfl j).2.trans (za_45 j).2⟩
  have hM := hM.trX (hs.mono (by decide)) nq_q_88
  have gx := gx.S hs
  have gq_2 := gq_2.S hs
  have gq_7 := gq_7.S hs
  have gq_16 := gq_16.S hs
  have gq_25 := gq_25.S hs
  have gq_29 := gq_29.S hs
  have gq_34 := gq_34.S hs
  have gq_44 := gq_44.S hs
  have gq_49 := gq_49.S hs
  have gq_53 := gq_53.S hs
  have gq_62 := gq_62.S hs
  have gq_66 := gq_66.S hs
  have gq_70 := gq_70.S hs
  have gq_79 := gq_79.S hs
  have gq_88 : hx_g L_90 h_91 q_88 8 := gNq_88
  have po_94 : h_91.2.1 q_88 0 = 0 := po_94
  have po_95 : h_91.2.1 q_88 1 = 0 := po_95
  obtain ⟨q_97, fq_97, gq_97, po_96⟩ := po_96
  have fq_97 : h_91.2.2 q_88 3 = some q_97 := fq_97
  have gq_97 : hx_g L_90 h_91 q_97 40 := gq_97
  have po_96 : ∀ j, h_91.2.1 q_97 j = 0 ∧ h_91.2.2 q_97 j = none := po_96
  refine hx_putrF hx hb hts hC_9 hown hW hT (hx_S.rf (M := [(125, 19)])) gx tt_125 19 (by decide) rfl kw_383 ⟨rfl, rfl, rfl⟩ rfl hin rfl (x := (some q_88)) ⟨fun _ z => (by cases z), fun q hq => (by cases hq; exact ⟨gq_88.1, by rw [gq_88.2]; decide⟩)⟩ rfl rfl rfl (List.mem_singleton.mpr rfl) dX9_init_141 (fun H locs h_98 eh_98 hW hT hs => ?_)
  have f_5 := (hs.o gx trivial rfl).2.trans f_5
  have f_14 := (hs.o gx trivial rfl).2.trans f_14
  have f_23 := (hs.o gx trivial rfl).2.trans f_23
  have f_27 := (hs.o gx trivial rfl).2.trans f_27
  have f_32 := (hs.o gx trivial rfl).2.trans f_32
  have po_40 := (hs.o gq_34 trivial rfl).1.trans po_40
  have f_42 := (hs.o gx trivial rfl).2.trans f_42
  have f_47 := (hs.o gx trivial rfl).2.trans f_47
  have f_51 := (hs.o gx trivial rfl).2.trans f_51
  have f_60 := (hs.o gx trivial rfl).2.trans f_60
  have f_64 := (hs.o gx trivial rfl).2.trans f_64
  have f_68 := (hs.o gx trivial rfl).2.trans f_68
  have f_77 := (hs.o gx trivial rfl).2.trans f_77
  have f_86 := (hs.o gx trivial rfl).2.trans f_86
  have po_94 := (hs.o gq_88 trivial rfl).1.trans po_94
  have po_95 := (hs.o gq_88 trivial rfl).1.trans po_95
  have fq_97 := (hs.o gq_88 trivial rfl).2.trans fq_97
  have hz := hx_zr [0, 3, 4, 5, 7, 9, 10, 12, 14, 15, 16, 17, 18, 19] hz hs gx trivial rfl
  have za_3 : ∀ j, h_98.2.1 q_2 j = 0 ∧ h_98.2.2 q_2 j = none := fun j => ⟨(hs.a gq_2 rfl j).1.trans (za_3 j).1, (hs.a gq_2 rfl j).2.trans (za_3 j).2⟩
  have za_30 : ∀ j, h_98.2.1 q_29 j = 0 ∧ h_98.2.2 q_29 j = none := fun j => ⟨(hs.a gq_29 rfl j).1.trans (za_30 j).1, (hs.a gq_29 rfl j).2.trans (za_30 j).2⟩
  have za_45 : ∀ j, h_98.2.1 q_44 j = 0 ∧ h_98.2.2 q_44 j = none := fun j => ⟨(hs.a gq_44 rfl j).1.trans (za_45 j).1, (hs.a gq_44 rfl j).2.trans (za_45 j).2⟩
  have po_96 : ∀ j, h_98.2.1 q_97 j = 0 ∧ h_98.2.2 q_97 j = none := fun j => ⟨(hs.a gq_97 rfl j).1.trans (po_96 j).1, (hs.a gq_97 rfl j).2.trans (po_96 j).2⟩
  have hM := hM.tr (hs.mono (by decide))
  have gx := gx.S hs
  have gq_2 := gq_2.S hs
  have gq_7 := gq_7.S hs
  have gq_16 := gq_16.S hs
  have gq_25 := gq_25.S hs
  have gq_29 := gq_29.S hs
  have gq_34 := gq_34.S hs
  have gq_44 := gq_44.S hs
  have gq_49 := gq_49.S hs
  have gq_53 := gq_53.S hs
  have gq_62 := gq_62.S hs
  have gq_66 := gq_66.S hs
  have gq_70 := gq_70.S hs
  have gq_79 := gq_79.S hs
  have gq_88 := gq_88.S hs
  have gq_97 := gq_97.S hs
  have f_99 : h_98.2.2 x 19 = (some q_88) := by rw [eh_98]; exact hx_pr_at _ _ _ _
  have f_100 : h_98.2.1 x 2 = 0 := (hz 2 rfl).1
  have f_101 : h_98.2.1 x 6 = 0 := (hz 6 rfl).1
  have f_102 : h_98.2.1 x 8 = 0 := (hz 8 rfl).1
  have f_103 : h_98.2.1 x 11 = 0 := (hz 11 rfl).1
  have f_104 : h_98.2.1 x 13 = 0 := (hz 13 rfl).1
  have f_105 : h_98.2.1 x 1 = 0 := (hz 1 rfl).1
  have hF : hx_F (fun k f => hx_o L_90 h_98 f (h_98.2.1 x k) (h_98.2.2 x k)) T_f9 0 := ⟨hx_or f_5 gq_2 (by decide), hx_oi f_105 (by decide), hx_oi f_100 (by decide), hx_or f_14 gq_7 (by decide), hx_or f_23 gq_16 (by decide), hx_or f_27 gq_25 (by decide), hx_oi f_101 (by decide), hx_or f_32 gq_29 (by decide), hx_oi f_102 (by decide), hx_or f_42 gq_34 (by decide), hx_or f_47 gq_44 (by decide), hx_oi f_103 (by decide), hx_or f_51 gq_49 (by decide), hx_oi f_104 (by decide), hx_or f_60 gq_53 (by decide), hx_or f_64 gq_62 (by decide), hx_or f_68 gq_66 (by decide), hx_or f_77 gq_70 (by decide), hx_or f_86 gq_79 (by decide), hx_or f_99 gq_88 (by decide), trivial⟩
  have hT := hx_T_rt hT gx tt_9 rfl (hx_F_all hF)
  have hW := hx_W_rt hW gx tt_125 tt_9 (fun _ _ => rfl)
  have hM := hx_SX_rt (x := x) (t := 9) hM
  have gq_2 := hx_rt_o (t := 9) gq_2 (gq_2.ne gx (by decide))
  have gq_7 := hx_rt_o (t := 9) gq_7 (gq_7.ne gx (by decide))
  have gq_16 := hx_rt_o (t := 9) gq_16 (gq_16.ne gx (by decide))
  have gq_25 := hx_rt_o (t := 9) gq_25 (gq_25.ne gx (by decide))
  have gq_29 := hx_rt_o (t := 9) gq_29 (gq_29.ne gx (by decide))
  have gq_34 := hx_rt_o (t := 9) gq_34 (gq_34.ne gx (by decide))
  have gq_44 := hx_rt_o (t := 9) gq_44 (gq_44.ne gx (by decide))
  have gq_49 := hx_rt_o (t := 9) gq_49 (gq_49.ne gx (by decide))
  have gq_53 := hx_rt_o (t := 9) gq_53 (gq_53.ne gx (by decide))
  have gq_62 := hx_rt_o (t := 9) gq_62 (gq_62.ne gx (by decide))
  have gq_66 := hx_rt_o (t := 9) gq_66 (gq_66.ne gx (by decide))
  have gq_70 := hx_rt_o (t := 9) gq_70 (gq_70.ne gx (by decide))
  have gq_79 := hx_rt_o (t := 9) gq_79 (gq_79.ne gx (by decide))
  have gq_88 := hx_rt_o (t := 9) gq_88 (gq_88.ne gx (by decide))
  have gq_97 := hx_rt_o (t := 9) gq_97 (gq_97.ne gx (by decide))
  have gx := hx_rt_g (t := 9) gx
  have f_5 : (hx_rt h_98 x 9).2.2 x 0 = some q_2 := f_5
  have f_14 : (hx_rt h_98 x 9).2.2 x 3 = some q_7 := f_14
  have f_23 : (hx_rt h_98 x 9).2.2 x 4 = some q_16 := f_23
  have f_27 : (hx_rt h_98 x 9).2.2 x 5 = some q_25 := f_27
  have f_32 : (hx_rt h_98 x 9).2.2 x 7 = some q_29 := f_32
  have po_40 : (hx_rt h_98 x 9).2.1 q_34 0 = (0 : Int32) := po_40
  have f_42 : (hx_rt h_98 x 9).2.2 x 9 = some q_34 := f_42
  have f_47 : (hx_rt h_98 x 9).2.2 x 10 = some q_44 := f_47
  have f_51 : (hx_rt h_98 x 9).2.2 x 12 = some q_49 := f_51
  have f_60 : (hx_rt h_98 x 9).2.2 x 14 = some q_53 := f_60
  have f_64 : (hx_rt h_98 x 9).2.2 x 15 = some q_62 := f_64
  have f_68 : (hx_rt h_98 x 9).2.2 x 16 = some q_66 := f_68
  have f_77 : (hx_rt h_98 x 9).2.2 x 17 = some q_70 := f_77
  have f_86 : (hx_rt h_98 x 9).2.2 x 18 = some q_79 := f_86
  have po_94 : (hx_rt h_98 x 9).2.1 q_88 0 = (0 : Int32) := po_94
  have po_95 : (hx_rt h_98 x 9).2.1 q_88 1 = (0 : Int32) := po_95
  have fq_97 : (hx_rt h_98 x 9).2.2 q_88 3 = some q_97 := fq_97
  have f_99 : (hx_rt h_98 x 9).2.2 x 19 = some q_88 := f_99
  have f_100 : (hx_rt h_98 x 9).2.1 x 2 = (0 : Int32) := f_100
  have f_101 : (hx_rt h_98 x 9).2.1 x 6 = (0 : Int32) := f_101
  have f_102 : (hx_rt h_98 x 9).2.1 x 8 = (0 : Int32) := f_102
  have f_103 : (hx_rt h_98 x 9).2.1 x 11 = (0 : Int32) := f_103
  have f_104 : (hx_rt h_98 x 9).2.1 x 13 = (0 : Int32) := f_104
  have f_105 : (hx_rt h_98 x 9).2.1 x 1 = (0 : Int32) := f_105
  have za_3 : ∀ j, (hx_rt h_98 x 9).2.1 q_2 j = 0 ∧ (hx_rt h_98 x 9).2.2 q_2 j = none := za_3
  have za_30 : ∀ j, (hx_rt h_98 x 9).2.1 q_29 j = 0 ∧ (hx_rt h_98 x 9).2.2 q_29 j = none := za_30
  have za_45 : ∀ j, (hx_rt h_98 x 9).2.1 q_44 j = 0 ∧ (hx_rt h_98 x 9).2.2 q_44 j = none := za_45
  have po_96 : ∀ j, (hx_rt h_98 x 9).2.1 q_97 j = 0 ∧ (hx_rt h_98 x 9).2.2 q_97 j = none := po_96
  generalize eh : hx_rt h_98 x 9 = h_106 at hT hW hM gx gq_2 gq_7 gq_16 gq_25 gq_29 gq_34 gq_44 gq_49 gq_53 gq_62 gq_66 gq_70 gq_79 gq_88 gq_97 f_5 f_14 f_23 f_27 f_32 po_40 f_42 f_47 f_51 f_60 f_64 f_68 f_77 f_86 po_94 po_95 fq_97 f_99 f_100 f_101 f_102 f_103 f_104 f_105 za_3 za_30 za_45 po_96
  refine W.widen (k := 43) (n := 10614) (Nat.le_of_ble_eq_true rfl) (Nat.le_of_ble_eq_true rfl) ?_
  exact hx_retv hx hb hr hlk hW ⟨hT, hM, gx, f_100, f_101, f_102, f_103, f_104, ⟨q_88, f_99, gq_88, ⟨po_94, po_95, q_97, fq_97, gq_97, po_96⟩⟩, ⟨q_34, f_42, gq_34, po_40⟩, ⟨q_29, f_32, gq_29, za_30⟩, ⟨q_44, f_47, gq_44, za_45⟩, f_105, ⟨q_2, f_5, gq_2, za_3⟩⟩ dX9_init_144
