
set_option maxHeartbeats 4000000 in
set_option maxRecDepth 100000 in
theorem t_J1_charAt_v (l : Launch) (dC : Nat → ClassId) (dI : Nat → Nat → Nat) (dA : Nat → ClassId) (L : List Nat) (h : hx_h) (sz : Nat) (b0 : hx_z) (js : Nat) (i1 : Int32) (hT : hx_T T_tb L h) (hjs : js < 6) (hi1 : 0 ≤ i1.toInt ∧ i1.toInt < (Int32.ofNat (P_ln.getD js 0)).toInt) : Met l yJ1_charAt_3b067 (Cond.code yJ1_charAt_3b067 cJ1_charAt_3b067 2 (some .char) :: hx_all) ({ frames := 2, cells := 0, slots := 0, locals := 43 }) (va_Pc [.ref (b0.2.2.2.2 js), .int i1] (hx_BX T_tb (P_ty dA) (dC, dI) vwCl L h sz b0)) (va_Qi (fun (r : Int32) (u : List Nat × hx_h) => (narrow .char (.int r) = .int r ∧ r = (P_by.getD js []).getD i1.toNatClampNeg 0) ∧ hx_T T_tb u.1 u.2 ∧ hx_S T_tb [] L h u.1 u.2) (hx_E T_tb (P_ty dA) (dC, dI) vwCl (hx_A L sz)) (hx_A L sz)) 0 0 (hx_A L sz) := by
  refine hx_metX (lv := [(0, .ref (b0.2.2.2.2 js)), (1, .int i1)]) (by decide +kernel) rfl (Nat.le_of_ble_eq_true rfl) rfl ?_
  intro p e s m below meth c hx hb hml hr hlk hts0 hown hin hsz hW hZ ls hl
  have hts : ∀ w ∈ hx_all, w.before _ s = true := fun w hw => hts0 w (List.mem_cons_of_mem _ hw)
  have hown : s.vm.findClass "java/lang/StringLatin1" = some m.cls := hown
  have hM : hx_S T_tb [] L h L h := hx_S.rf
  obtain ⟨zLT, zLA, zMT, zMA, zCS, zSF, zVS, zVR⟩ := hZ.2.2.2.2.2.2
  refine lv_iload_n hx hb dJ1_charAt_3b067_0 rfl (lv_at hl 1 rfl) ?_
  refine lv_aload_n hx hb dJ1_charAt_3b067_1 rfl (lv_at hl 0 rfl) ?_
  refine va_tlen hx hb (zVS.1 js hjs).2.2.2 hW.2.2.2.1 rfl dJ1_charAt_3b067_2 ?_
  refine lv_topi (fun xl_1 exl_1 => ?_)
  have lxl_1 := hx_ln js hjs; rw [← exl_1] at lxl_1
  have kxl_1 : (Int32.ofNat (P_ln.getD js 0)).toInt = xl_1.toInt := by rw [exl_1]
  refine hx_gov (hx_runSX (As := [.int i1, .int xl_1]) (rest := []) ⟨hx, hb, hml, hown, hts⟩ hW (t_J0_checkIndex_df160 l dC dI dA L h s.heap.size b0 i1 xl_1 hT ⟨by omega, by omega⟩) hZ (va_cwS 2 hts (hx_gS kw_499 kw_497 kw_498 kw_104) rfl rfl rfl (by decide +kernel) ⟨Nat.le_of_ble_eq_true rfl, Nat.le_of_ble_eq_true rfl⟩) rfl hl.1 rfl (Nat.le_of_ble_eq_true rfl) dJ1_charAt_3b067_3 ⟨Nat.le_of_ble_eq_true rfl, Nat.le_of_ble_eq_true rfl⟩) hW (fun L_2 h_3 H locs p_5 hW => ?_)
  obtain ⟨hT, hs⟩ := p_5
  replace hT : hx_T T_tb L_2 h_3 := hT
  replace hs : hx_S T_tb [] L h L_2 h_3 := hs
  replace hM := hM.tr (hs.mono (by decide))
  refine lv_aload_n hx hb dJ1_charAt_3b067_6 rfl (lv_at hl 0 rfl) ?_
  refine lv_iload_n hx hb dJ1_charAt_3b067_7 rfl (lv_at hl 1 rfl) ?_
  refine va_tb hx hb (zVS.1 js hjs).2.2.2 hW.2.2.2.1 (vp_in_iff.mpr ⟨by omega, by omega⟩) rfl dJ1_charAt_3b067_8 ?_
  refine lv_topi (fun x_7 ex_7 => ?_)
  refine lv_sipush (v := 255) hx hb dJ1_charAt_3b067_9 (by decide) ?_
  refine lv_iand hx hb dJ1_charAt_3b067_12 ?_
  refine lv_topi (fun x_8 ex_8 => ?_)
  have zx_8 : 0 ≤ x_8.toInt ∧ x_8.toInt ≤ 255 := by rw [ex_8]; exact hx_andR (by decide) (by decide)
  refine lv_i2c hx hb dJ1_charAt_3b067_13 rfl ?_
  refine lv_topi (fun x_9 ex_9 => ?_)
  exact hx_retz hx hb hr (by rw [ex_9]; exact hx_narc _) hlk hW ⟨⟨(by rw [ex_9]; exact hx_narc _), (by rw [ex_9, ex_8, ex_7]; exact hv_chr js hjs _ (by have h9 := hx_ln js hjs; unfold Int32.toNatClampNeg; omega))⟩, hT, hM⟩ dJ1_charAt_3b067_14


set_option maxHeartbeats 4000000 in
set_option maxRecDepth 100000 in
theorem t_J0_charAt_v (l : Launch) (dC : Nat → ClassId) (dI : Nat → Nat → Nat) (dA : Nat → ClassId) (L : List Nat) (h : hx_h) (sz : Nat) (b0 : hx_z) (js : Nat) (i1 : Int32) (hT : hx_T T_tb L h) (hjs : js < 6) (hi1 : 0 ≤ i1.toInt ∧ i1.toInt < (Int32.ofNat (P_ln.getD js 0)).toInt) : Met l yJ0_charAt_5068e (Cond.code yJ0_charAt_5068e cJ0_charAt_5068e 2 (some .char) :: hx_all) ({ frames := 3, cells := 0, slots := 0, locals := 64 }) (va_Pc [.ref (b0.2.2.2.1 js), .int i1] (hx_BX T_tb (P_ty dA) (dC, dI) vwCl L h sz b0)) (va_Qi (fun (r : Int32) (u : List Nat × hx_h) => (r = (P_by.getD js []).getD i1.toNatClampNeg 0) ∧ hx_T T_tb u.1 u.2 ∧ hx_S T_tb [] L h u.1 u.2) (hx_E T_tb (P_ty dA) (dC, dI) vwCl (hx_A L sz)) (hx_A L sz)) 0 0 (hx_A L sz) := by
  refine hx_metX (lv := [(0, .ref (b0.2.2.2.1 js)), (1, .int i1)]) (by decide +kernel) rfl (Nat.le_of_ble_eq_true rfl) rfl ?_
  intro p e s m below meth c hx hb hml hr hlk hts0 hown hin hsz hW hZ ls hl
  have hts : ∀ w ∈ hx_all, w.before _ s = true := fun w hw => hts0 w (List.mem_cons_of_mem _ hw)
  have hown : s.vm.findClass "java/lang/String" = some m.cls := hown
  have hM : hx_S T_tb [] L h L h := hx_S.rf
  obtain ⟨zLT, zLA, zMT, zMA, zCS, zSF, zVS, zVR⟩ := hZ.2.2.2.2.2.2
  refine lv_aload_n hx hb dJ0_charAt_5068e_0 rfl (lv_at hl 0 rfl) ?_
  refine hx_goi (hx_runVS (As := []) (rest := []) ⟨hx, hb, hml, hown, hts⟩ hW hZ (i := js) hjs (t_J0_isLatin1_aae02 l dC dI dA L h s.heap.size b0 js hT hjs) (cwV 0 hts (hx_gV kw_493 kw_490 kw_491 kw_492 kw_104) rfl rfl rfl (by decide +kernel) ⟨Nat.le_of_ble_eq_true rfl, Nat.le_of_ble_eq_true rfl⟩) rfl hl.1 rfl (Nat.le_of_ble_eq_true rfl) dJ0_charAt_5068e_1 ⟨Nat.le_of_ble_eq_true rfl, Nat.le_of_ble_eq_true rfl⟩) hW (fun r_3 L_1 h_2 H locs p_4 hW => ?_)
  obtain ⟨hr_5, hT, hs⟩ := p_4
  replace hT : hx_T T_tb L_1 h_2 := hT
  replace hs : hx_S T_tb [] L h L_1 h_2 := hs
  replace hM := hM.tr (hs.mono (by decide))
  obtain rfl : r_3 = 1 := hr_5
  refine hb_if_eq (zx := 1) (tgt := 16) hx hb (by decide) dJ0_charAt_5068e_4 (by decide) (fun c_6 => absurd c_6 (by decide)) (fun c_6 => ?_)
  refine lv_aload_n hx hb dJ0_charAt_5068e_7 rfl (lv_at hl 0 rfl) ?_
  refine vk_getf hx hb (zVS.1 js hjs).2.2.1 hW.2.2.2.1 hown (hts _ kw_1754) (fun _ h9 => h9) dJ0_charAt_5068e_8 ?_
  refine lv_iload_n hx hb dJ0_charAt_5068e_11 rfl (lv_at hl 1 rfl) ?_
  refine hx_goi (hx_runSX (As := [.ref (b0.2.2.2.2 js), .int i1]) (rest := []) ⟨hx, hb, hml, hown, hts⟩ hW (t_J1_charAt_v l dC dI dA L_1 h_2 H.size b0 js i1 hT hjs hi1) hZ (va_cwS 2 hts (hx_gS kw_496 kw_494 kw_495 kw_105) rfl rfl rfl (by decide +kernel) ⟨Nat.le_of_ble_eq_true rfl, Nat.le_of_ble_eq_true rfl⟩) rfl hl.1 rfl (Nat.le_of_ble_eq_true rfl) dJ0_charAt_5068e_12 ⟨Nat.le_of_ble_eq_true rfl, Nat.le_of_ble_eq_true rfl⟩) hW (fun r_9 L_7 h_8 H locs p_10 hW => ?_)
  obtain ⟨hr_11, hT, hs⟩ := p_10
  replace hT : hx_T T_tb L_7 h_8 := hT
  replace hs : hx_S T_tb [] L_1 h_2 L_7 h_8 := hs
  replace hM := hM.tr (hs.mono (by decide))
  exact hx_retz hx hb hr hr_11.1 hlk hW ⟨hr_11.2, hT, hM⟩ dJ0_charAt_5068e_15
