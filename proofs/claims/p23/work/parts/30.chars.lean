theorem dJ0_coder_7d493_0 : decode cJ0_coder_7d493 0 = .ok (.getstatic 38, 3) := by decide +kernel
theorem dJ0_coder_7d493_3 : decode cJ0_coder_7d493 3 = .ok (.ifCond .eq 10, 3) := by decide +kernel
theorem dJ0_coder_7d493_6 : decode cJ0_coder_7d493 6 = .ok (.aload_n 0, 1) := by decide +kernel
theorem dJ0_coder_7d493_7 : decode cJ0_coder_7d493 7 = .ok (.getfield 15, 3) := by decide +kernel
theorem dJ0_coder_7d493_10 : decode cJ0_coder_7d493 10 = .ok (.goto 4, 3) := by decide +kernel
theorem dJ0_coder_7d493_14 : decode cJ0_coder_7d493 14 = .ok (.ireturn, 1) := by decide +kernel
set_option maxHeartbeats 4000000 in
set_option maxRecDepth 100000 in
theorem t_J0_coder_7d493 (l : Launch) (dC : Nat → ClassId) (dI : Nat → Nat → Nat) (dA : Nat → ClassId) (L : List Nat) (h : hx_h) (sz : Nat) (b0 : hx_z) (js : Nat) (hT : hx_T T_tb L h) (hjs : js < 6)  : Met l yJ0_coder_7d493 (Cond.code yJ0_coder_7d493 cJ0_coder_7d493 1 (some .byte) :: hx_all) ({ frames := 0, cells := 0, slots := 0, locals := 0 }) (va_Pc [.ref (b0.2.2.2.1 js)] (hx_BX T_tb (P_ty dA) (dC, dI) vwCl L h sz b0)) (va_Qi (fun (r : Int32) (u : List Nat × hx_h) => (r = 0) ∧ hx_T T_tb u.1 u.2 ∧ hx_S T_tb [] L h u.1 u.2) (hx_E T_tb (P_ty dA) (dC, dI) vwCl (hx_A L sz)) (hx_A L sz)) 0 0 (hx_A L sz) := by
  refine hx_metX (lv := [(0, .ref (b0.2.2.2.1 js))]) (by decide +kernel) rfl (Nat.le_of_ble_eq_true rfl) rfl ?_
  intro p e s m below meth c hx hb hml hr hlk hts0 hown hin hsz hW hZ ls hl
  have hts : ∀ w ∈ hx_all, w.before _ s = true := fun w hw => hts0 w (List.mem_cons_of_mem _ hw)
  have hown : s.vm.findClass "java/lang/String" = some m.cls := hown
  have hM : hx_S T_tb [] L h L h := hx_S.rf
  obtain ⟨zLT, zLA, zMT, zMA, zCS, zSF, zVS, zVR⟩ := hZ.2.2.2.2.2.2
  refine va_gets hx hb zCS hW.2.2.2.1 hown (hts _ kw_480) (fun _ h9 => h9) dJ0_coder_7d493_0 ?_
  refine hb_if_eq (zx := 1) (tgt := 13) hx hb (by decide) dJ0_coder_7d493_3 (by decide) (fun c_1 => absurd c_1 (by decide)) (fun c_1 => ?_)
  refine lv_aload_n hx hb dJ0_coder_7d493_6 rfl (lv_at hl 0 rfl) ?_
  refine vk_getf hx hb (zVS.1 js hjs).2.1 hW.2.2.2.1 hown (hts _ kw_1755) (fun _ h9 => h9) dJ0_coder_7d493_7 ?_
  refine lv_goto (tgt := 14) hx hb dJ0_coder_7d493_10 (by decide) ?_
  exact hx_retz hx hb hr rfl hlk hW ⟨rfl, hT, hM⟩ dJ0_coder_7d493_14

theorem dJ0_isLatin1_aae02_0 : decode cJ0_isLatin1_aae02 0 = .ok (.getstatic 38, 3) := by decide +kernel
theorem dJ0_isLatin1_aae02_3 : decode cJ0_isLatin1_aae02 3 = .ok (.ifCond .eq 14, 3) := by decide +kernel
theorem dJ0_isLatin1_aae02_6 : decode cJ0_isLatin1_aae02 6 = .ok (.aload_n 0, 1) := by decide +kernel
theorem dJ0_isLatin1_aae02_7 : decode cJ0_isLatin1_aae02 7 = .ok (.getfield 15, 3) := by decide +kernel
theorem dJ0_isLatin1_aae02_10 : decode cJ0_isLatin1_aae02 10 = .ok (.ifCond .ne 7, 3) := by decide +kernel
theorem dJ0_isLatin1_aae02_13 : decode cJ0_isLatin1_aae02 13 = .ok (.iconst 1, 1) := by decide +kernel
theorem dJ0_isLatin1_aae02_14 : decode cJ0_isLatin1_aae02 14 = .ok (.goto 4, 3) := by decide +kernel
theorem dJ0_isLatin1_aae02_18 : decode cJ0_isLatin1_aae02 18 = .ok (.ireturn, 1) := by decide +kernel
set_option maxHeartbeats 4000000 in
set_option maxRecDepth 100000 in
theorem t_J0_isLatin1_aae02 (l : Launch) (dC : Nat → ClassId) (dI : Nat → Nat → Nat) (dA : Nat → ClassId) (L : List Nat) (h : hx_h) (sz : Nat) (b0 : hx_z) (js : Nat) (hT : hx_T T_tb L h) (hjs : js < 6)  : Met l yJ0_isLatin1_aae02 (Cond.code yJ0_isLatin1_aae02 cJ0_isLatin1_aae02 1 (some .boolean) :: hx_all) ({ frames := 0, cells := 0, slots := 0, locals := 0 }) (va_Pc [.ref (b0.2.2.2.1 js)] (hx_BX T_tb (P_ty dA) (dC, dI) vwCl L h sz b0)) (va_Qi (fun (r : Int32) (u : List Nat × hx_h) => (r = 1) ∧ hx_T T_tb u.1 u.2 ∧ hx_S T_tb [] L h u.1 u.2) (hx_E T_tb (P_ty dA) (dC, dI) vwCl (hx_A L sz)) (hx_A L sz)) 0 0 (hx_A L sz) := by
  refine hx_metX (lv := [(0, .ref (b0.2.2.2.1 js))]) (by decide +kernel) rfl (Nat.le_of_ble_eq_true rfl) rfl ?_
  intro p e s m below meth c hx hb hml hr hlk hts0 hown hin hsz hW hZ ls hl
  have hts : ∀ w ∈ hx_all, w.before _ s = true := fun w hw => hts0 w (List.mem_cons_of_mem _ hw)
  have hown : s.vm.findClass "java/lang/String" = some m.cls := hown
  have hM : hx_S T_tb [] L h L h := hx_S.rf
  obtain ⟨zLT, zLA, zMT, zMA, zCS, zSF, zVS, zVR⟩ := hZ.2.2.2.2.2.2
  refine va_gets hx hb zCS hW.2.2.2.1 hown (hts _ kw_480) (fun _ h9 => h9) dJ0_isLatin1_aae02_0 ?_
  refine hb_if_eq (zx := 1) (tgt := 17) hx hb (by decide) dJ0_isLatin1_aae02_3 (by decide) (fun c_1 => absurd c_1 (by decide)) (fun c_1 => ?_)
  refine lv_aload_n hx hb dJ0_isLatin1_aae02_6 rfl (lv_at hl 0 rfl) ?_
  refine vk_getf hx hb (zVS.1 js hjs).2.1 hW.2.2.2.1 hown (hts _ kw_1755) (fun _ h9 => h9) dJ0_isLatin1_aae02_7 ?_
  refine hb_if_ne (zx := 0) (tgt := 17) hx hb (by decide) dJ0_isLatin1_aae02_10 (by decide) (fun c_2 => absurd c_2 (by decide)) (fun c_2 => ?_)
  refine lv_iconst (v := 1) hx hb dJ0_isLatin1_aae02_13 (by decide) ?_
  refine lv_goto (tgt := 18) hx hb dJ0_isLatin1_aae02_14 (by decide) ?_
  exact hx_retz hx hb hr rfl hlk hW ⟨rfl, hT, hM⟩ dJ0_isLatin1_aae02_18

theorem dJ0_length_8abf5_0 : decode cJ0_length_8abf5 0 = .ok (.aload_n 0, 1) := by decide +kernel
theorem dJ0_length_8abf5_1 : decode cJ0_length_8abf5 1 = .ok (.getfield 9, 3) := by decide +kernel
theorem dJ0_length_8abf5_4 : decode cJ0_length_8abf5 4 = .ok (.arraylength, 1) := by decide +kernel
theorem dJ0_length_8abf5_5 : decode cJ0_length_8abf5 5 = .ok (.aload_n 0, 1) := by decide +kernel
theorem dJ0_length_8abf5_6 : decode cJ0_length_8abf5 6 = .ok (.invokevirtual 335, 3) := by decide +kernel
theorem dJ0_length_8abf5_9 : decode cJ0_length_8abf5 9 = .ok (.ishr, 1) := by decide +kernel
theorem dJ0_length_8abf5_10 : decode cJ0_length_8abf5 10 = .ok (.ireturn, 1) := by decide +kernel
set_option maxHeartbeats 4000000 in
set_option maxRecDepth 100000 in
theorem t_J0_length_8abf5 (l : Launch) (dC : Nat → ClassId) (dI : Nat → Nat → Nat) (dA : Nat → ClassId) (L : List Nat) (h : hx_h) (sz : Nat) (b0 : hx_z) (js : Nat) (hT : hx_T T_tb L h) (hjs : js < 6)  : Met l yJ0_length_8abf5 (Cond.code yJ0_length_8abf5 cJ0_length_8abf5 1 (some .int) :: hx_all) ({ frames := 1, cells := 0, slots := 0, locals := 20 }) (va_Pc [.ref (b0.2.2.2.1 js)] (hx_BX T_tb (P_ty dA) (dC, dI) vwCl L h sz b0)) (va_Qi (fun (r : Int32) (u : List Nat × hx_h) => (r = Int32.ofNat (P_ln.getD js 0)) ∧ hx_T T_tb u.1 u.2 ∧ hx_S T_tb [] L h u.1 u.2) (hx_E T_tb (P_ty dA) (dC, dI) vwCl (hx_A L sz)) (hx_A L sz)) 0 0 (hx_A L sz) := by
  refine hx_metX (lv := [(0, .ref (b0.2.2.2.1 js))]) (by decide +kernel) rfl (Nat.le_of_ble_eq_true rfl) rfl ?_
  intro p e s m below meth c hx hb hml hr hlk hts0 hown hin hsz hW hZ ls hl
  have hts : ∀ w ∈ hx_all, w.before _ s = true := fun w hw => hts0 w (List.mem_cons_of_mem _ hw)
  have hown : s.vm.findClass "java/lang/String" = some m.cls := hown
  have hM : hx_S T_tb [] L h L h := hx_S.rf
  obtain ⟨zLT, zLA, zMT, zMA, zCS, zSF, zVS, zVR⟩ := hZ.2.2.2.2.2.2
  refine lv_aload_n hx hb dJ0_length_8abf5_0 rfl (lv_at hl 0 rfl) ?_
  refine vk_getf hx hb (zVS.1 js hjs).2.2.1 hW.2.2.2.1 hown (hts _ kw_1754) (fun _ h9 => h9) dJ0_length_8abf5_1 ?_
  refine va_tlen hx hb (zVS.1 js hjs).2.2.2 hW.2.2.2.1 rfl dJ0_length_8abf5_4 ?_
  refine lv_topi (fun xl_1 exl_1 => ?_)
  have lxl_1 := hx_ln js hjs; rw [← exl_1] at lxl_1
  have kxl_1 : (Int32.ofNat (P_ln.getD js 0)).toInt = xl_1.toInt := by rw [exl_1]
  refine lv_aload_n hx hb dJ0_length_8abf5_5 rfl (lv_at hl 0 rfl) ?_
  refine hx_goi (hx_runVS (As := []) (rest := [.int xl_1]) ⟨hx, hb, hml, hown, hts⟩ hW hZ (i := js) hjs (t_J0_coder_7d493 l dC dI dA L h s.heap.size b0 js hT hjs) (cwV 0 hts (hx_gV kw_479 kw_476 kw_477 kw_478 kw_104) rfl rfl rfl (by decide +kernel) ⟨Nat.le_of_ble_eq_true rfl, Nat.le_of_ble_eq_true rfl⟩) rfl hl.1 rfl (Nat.le_of_ble_eq_true rfl) dJ0_length_8abf5_6 ⟨Nat.le_of_ble_eq_true rfl, Nat.le_of_ble_eq_true rfl⟩) hW (fun r_4 L_2 h_3 H locs p_5 hW => ?_)
  obtain ⟨hr_6, hT, hs⟩ := p_5
  replace hT : hx_T T_tb L_2 h_3 := hT
  replace hs : hx_S T_tb [] L h L_2 h_3 := hs
  replace hM := hM.tr (hs.mono (by decide))
  obtain rfl : r_4 = 0 := hr_6
  refine lv_ishr hx hb dJ0_length_8abf5_9 ?_
  rw [hx_shr0]
  exact hx_reti hx hb hr hlk hW ⟨exl_1, hT, hM⟩ dJ0_length_8abf5_10

theorem dJ3_checkIndex_8e157_0 : decode cJ3_checkIndex_8e157 0 = .ok (.iload_n 0, 1) := by decide +kernel
theorem dJ3_checkIndex_8e157_1 : decode cJ3_checkIndex_8e157 1 = .ok (.ifCond .lt 8, 3) := by decide +kernel
theorem dJ3_checkIndex_8e157_4 : decode cJ3_checkIndex_8e157 4 = .ok (.iload_n 0, 1) := by decide +kernel
theorem dJ3_checkIndex_8e157_5 : decode cJ3_checkIndex_8e157 5 = .ok (.iload_n 1, 1) := by decide +kernel
theorem dJ3_checkIndex_8e157_6 : decode cJ3_checkIndex_8e157 6 = .ok (.if_icmp .lt 10, 3) := by decide +kernel
theorem dJ3_checkIndex_8e157_16 : decode cJ3_checkIndex_8e157 16 = .ok (.iload_n 0, 1) := by decide +kernel
theorem dJ3_checkIndex_8e157_17 : decode cJ3_checkIndex_8e157 17 = .ok (.ireturn, 1) := by decide +kernel
set_option maxHeartbeats 4000000 in
set_option maxRecDepth 100000 in
theorem t_J3_checkIndex_n (l : Launch) (dC : Nat → ClassId) (dI : Nat → Nat → Nat) (dA : Nat → ClassId) (L : List Nat) (h : hx_h) (sz : Nat) (i1 : Int32) (i2 : Int32) (hT : hx_T T_tb L h)  (hi1 : 0 ≤ i1.toInt ∧ i1.toInt < i2.toInt) : Met l yJ3_checkIndex_8e157 (Cond.code yJ3_checkIndex_8e157 cJ3_checkIndex_8e157 3 (some .int) :: hx_all) ({ frames := 0, cells := 0, slots := 0, locals := 0 }) (va_Pc [.int i1, .int i2, .null] (hx_B T_tb (P_ty dA) (dC, dI) vwCl L h sz)) (va_Qi (fun (r : Int32) (u : List Nat × hx_h) => (True) ∧ hx_T T_tb u.1 u.2 ∧ hx_S T_tb [] L h u.1 u.2) (hx_E T_tb (P_ty dA) (dC, dI) vwCl (hx_A L sz)) (hx_A L sz)) 0 0 (hx_A L sz) := by
  refine hx_met (lv := [(0, .int i1), (1, .int i2), (2, .null)]) (by decide +kernel) rfl (Nat.le_of_ble_eq_true rfl) rfl ?_
  intro p e s m below meth c hx hb hml hr hlk hts0 hown hin hsz hW ls hl
  have hts : ∀ w ∈ hx_all, w.before _ s = true := fun w hw => hts0 w (List.mem_cons_of_mem _ hw)
  have hown : s.vm.findClass "jdk/internal/util/Preconditions" = some m.cls := hown
  have hM : hx_S T_tb [] L h L h := hx_S.rf
  refine lv_iload_n hx hb dJ3_checkIndex_8e157_0 rfl (lv_at hl 0 rfl) ?_
  refine hb_if_lt (zx := i1.toInt) (tgt := 9) hx hb rfl dJ3_checkIndex_8e157_1 (by decide) (fun c_1 => by exfalso; omega) (fun c_1 => ?_)
  refine lv_iload_n hx hb dJ3_checkIndex_8e157_4 rfl (lv_at hl 0 rfl) ?_
  refine lv_iload_n hx hb dJ3_checkIndex_8e157_5 rfl (lv_at hl 1 rfl) ?_
  refine hb_icmp_lt (zx := i1.toInt) (zy := i2.toInt) (tgt := 16) hx hb rfl rfl dJ3_checkIndex_8e157_6 (by decide) (fun c_2 => ?_) (fun c_2 => by exfalso; omega)
  refine lv_iload_n hx hb dJ3_checkIndex_8e157_16 rfl (lv_at hl 0 rfl) ?_
  exact hx_reti hx hb hr hlk hW ⟨trivial, hT, hM⟩ dJ3_checkIndex_8e157_17


set_option maxHeartbeats 4000000 in
set_option maxRecDepth 100000 in
theorem t_J3_checkIndex_r (l : Launch) (dC : Nat → ClassId) (dI : Nat → Nat → Nat) (dA : Nat → ClassId) (L : List Nat) (h : hx_h) (sz : Nat) (i1 : Int32) (i2 : Int32) (t3 : Nat) (hT : hx_T T_tb L h)  (hi1 : 0 ≤ i1.toInt ∧ i1.toInt < i2.toInt) : Met l yJ3_checkIndex_8e157 (Cond.code yJ3_checkIndex_8e157 cJ3_checkIndex_8e157 3 (some .int) :: hx_all) ({ frames := 0, cells := 0, slots := 0, locals := 0 }) (va_Pc [.int i1, .int i2, .ref t3] (hx_B T_tb (P_ty dA) (dC, dI) vwCl L h sz)) (va_Qi (fun (r : Int32) (u : List Nat × hx_h) => (True) ∧ hx_T T_tb u.1 u.2 ∧ hx_S T_tb [] L h u.1 u.2) (hx_E T_tb (P_ty dA) (dC, dI) vwCl (hx_A L sz)) (hx_A L sz)) 0 0 (hx_A L sz) := by
  refine hx_met (lv := [(0, .int i1), (1, .int i2), (2, .ref t3)]) (by decide +kernel) rfl (Nat.le_of_ble_eq_true rfl) rfl ?_
  intro p e s m below meth c hx hb hml hr hlk hts0 hown hin hsz hW ls hl
  have hts : ∀ w ∈ hx_all, w.before _ s = true := fun w hw => hts0 w (List.mem_cons_of_mem _ hw)
  have hown : s.vm.findClass "jdk/internal/util/Preconditions" = some m.cls := hown
  have hM : hx_S T_tb [] L h L h := hx_S.rf
  refine lv_iload_n hx hb dJ3_checkIndex_8e157_0 rfl (lv_at hl 0 rfl) ?_
  refine hb_if_lt (zx := i1.toInt) (tgt := 9) hx hb rfl dJ3_checkIndex_8e157_1 (by decide) (fun c_1 => by exfalso; omega) (fun c_1 => ?_)
  refine lv_iload_n hx hb dJ3_checkIndex_8e157_4 rfl (lv_at hl 0 rfl) ?_
  refine lv_iload_n hx hb dJ3_checkIndex_8e157_5 rfl (lv_at hl 1 rfl) ?_
  refine hb_icmp_lt (zx := i1.toInt) (zy := i2.toInt) (tgt := 16) hx hb rfl rfl dJ3_checkIndex_8e157_6 (by decide) (fun c_2 => ?_) (fun c_2 => by exfalso; omega)
  refine lv_iload_n hx hb dJ3_checkIndex_8e157_16 rfl (lv_at hl 0 rfl) ?_
  exact hx_reti hx hb hr hlk hW ⟨trivial, hT, hM⟩ dJ3_checkIndex_8e157_17

theorem dJ0_checkIndex_df160_0 : decode cJ0_checkIndex_df160 0 = .ok (.iload_n 0, 1) := by decide +kernel
theorem dJ0_checkIndex_df160_1 : decode cJ0_checkIndex_df160 1 = .ok (.iload_n 1, 1) := by decide +kernel
theorem dJ0_checkIndex_df160_2 : decode cJ0_checkIndex_df160 2 = .ok (.getstatic 1053, 3) := by decide +kernel
theorem dJ0_checkIndex_df160_5 : decode cJ0_checkIndex_df160 5 = .ok (.invokestatic 1059, 3) := by decide +kernel
theorem dJ0_checkIndex_df160_8 : decode cJ0_checkIndex_df160 8 = .ok (.pop, 1) := by decide +kernel
theorem dJ0_checkIndex_df160_9 : decode cJ0_checkIndex_df160 9 = .ok (.return_, 1) := by decide +kernel
set_option maxHeartbeats 4000000 in
set_option maxRecDepth 100000 in
theorem t_J0_checkIndex_df160 (l : Launch) (dC : Nat → ClassId) (dI : Nat → Nat → Nat) (dA : Nat → ClassId) (L : List Nat) (h : hx_h) (sz : Nat) (b0 : hx_z) (i1 : Int32) (i2 : Int32) (hT : hx_T T_tb L h)  (hi1 : 0 ≤ i1.toInt ∧ i1.toInt < i2.toInt) : Met l yJ0_checkIndex_df160 (Cond.code yJ0_checkIndex_df160 cJ0_checkIndex_df160 2 none :: hx_all) ({ frames := 1, cells := 0, slots := 0, locals := 22 }) (va_Pc [.int i1, .int i2] (hx_BX T_tb (P_ty dA) (dC, dI) vwCl L h sz b0)) (va_Qv (fun (u : List Nat × hx_h) => hx_T T_tb u.1 u.2 ∧ hx_S T_tb [] L h u.1 u.2) (hx_E T_tb (P_ty dA) (dC, dI) vwCl (hx_A L sz)) (hx_A L sz)) 0 0 (hx_A L sz) := by
  refine hx_metX (lv := [(0, .int i1), (1, .int i2)]) (by decide +kernel) rfl (Nat.le_of_ble_eq_true rfl) rfl ?_
  intro p e s m below meth c hx hb hml hr hlk hts0 hown hin hsz hW hZ ls hl
  have hts : ∀ w ∈ hx_all, w.before _ s = true := fun w hw => hts0 w (List.mem_cons_of_mem _ hw)
  have hown : s.vm.findClass "java/lang/String" = some m.cls := hown
  have hM : hx_S T_tb [] L h L h := hx_S.rf
  obtain ⟨zLT, zLA, zMT, zMA, zCS, zSF, zVS, zVR⟩ := hZ.2.2.2.2.2.2
  refine lv_iload_n hx hb dJ0_checkIndex_df160_0 rfl (lv_at hl 0 rfl) ?_
  refine lv_iload_n hx hb dJ0_checkIndex_df160_1 rfl (lv_at hl 1 rfl) ?_
  rcases zSF with zF | ⟨tF, zF⟩
  · refine va_gets hx hb zF hW.2.2.2.1 hown (hts _ kw_500) (fun _ h9 => h9) dJ0_checkIndex_df160_2 ?_
    refine hx_goi (hx_runS (As := [.int i1, .int i2, .null]) (rest := []) ⟨hx, hb, hml, hown, hts⟩ hW (t_J3_checkIndex_n l dC dI dA L h s.heap.size i1 i2 hT ⟨by omega, by omega⟩) (va_cwS 3 hts (hx_gS kw_504 kw_502 kw_503 kw_106) rfl rfl rfl (by decide +kernel) ⟨Nat.le_of_ble_eq_true rfl, Nat.le_of_ble_eq_true rfl⟩) rfl hl.1 rfl (Nat.le_of_ble_eq_true rfl) dJ0_checkIndex_df160_5 ⟨Nat.le_of_ble_eq_true rfl, Nat.le_of_ble_eq_true rfl⟩) hW (fun r_3 L_1 h_2 H locs p_4 hW => ?_)
    obtain ⟨hr_5, hT, hs⟩ := p_4
    replace hT : hx_T T_tb L_1 h_2 := hT
    replace hs : hx_S T_tb [] L h L_1 h_2 := hs
    replace hM := hM.tr (hs.mono (by decide))
    refine lv_pop hx hb dJ0_checkIndex_df160_8 rfl ?_
    exact hx_retv hx hb hr hlk hW ⟨hT, hM⟩ dJ0_checkIndex_df160_9
  · refine va_gets hx hb zF hW.2.2.2.1 hown (hts _ kw_500) (fun _ h9 => h9) dJ0_checkIndex_df160_2 ?_
    refine hx_goi (hx_runS (As := [.int i1, .int i2, .ref tF]) (rest := []) ⟨hx, hb, hml, hown, hts⟩ hW (t_J3_checkIndex_r l dC dI dA L h s.heap.size i1 i2 tF hT ⟨by omega, by omega⟩) (va_cwS 3 hts (hx_gS kw_504 kw_502 kw_503 kw_106) rfl rfl rfl (by decide +kernel) ⟨Nat.le_of_ble_eq_true rfl, Nat.le_of_ble_eq_true rfl⟩) rfl hl.1 rfl (Nat.le_of_ble_eq_true rfl) dJ0_checkIndex_df160_5 ⟨Nat.le_of_ble_eq_true rfl, Nat.le_of_ble_eq_true rfl⟩) hW (fun r_8 L_6 h_7 H locs p_9 hW => ?_)
    obtain ⟨hr_10, hT, hs⟩ := p_9
    replace hT : hx_T T_tb L_6 h_7 := hT
    replace hs : hx_S T_tb [] L h L_6 h_7 := hs
    replace hM := hM.tr (hs.mono (by decide))
    refine lv_pop hx hb dJ0_checkIndex_df160_8 rfl ?_
    exact hx_retv hx hb hr hlk hW ⟨hT, hM⟩ dJ0_checkIndex_df160_9

theorem dJ1_charAt_3b067_0 : decode cJ1_charAt_3b067 0 = .ok (.iload_n 1, 1) := by decide +kernel
theorem dJ1_charAt_3b067_1 : decode cJ1_charAt_3b067 1 = .ok (.aload_n 0, 1) := by decide +kernel
theorem dJ1_charAt_3b067_2 : decode cJ1_charAt_3b067 2 = .ok (.arraylength, 1) := by decide +kernel
theorem dJ1_charAt_3b067_3 : decode cJ1_charAt_3b067 3 = .ok (.invokestatic 9, 3) := by decide +kernel
theorem dJ1_charAt_3b067_6 : decode cJ1_charAt_3b067 6 = .ok (.aload_n 0, 1) := by decide +kernel
theorem dJ1_charAt_3b067_7 : decode cJ1_charAt_3b067 7 = .ok (.iload_n 1, 1) := by decide +kernel
theorem dJ1_charAt_3b067_8 : decode cJ1_charAt_3b067 8 = .ok (.baload, 1) := by decide +kernel
theorem dJ1_charAt_3b067_9 : decode cJ1_charAt_3b067 9 = .ok (.sipush 255, 3) := by decide +kernel
theorem dJ1_charAt_3b067_12 : decode cJ1_charAt_3b067 12 = .ok (.iand, 1) := by decide +kernel
theorem dJ1_charAt_3b067_13 : decode cJ1_charAt_3b067 13 = .ok (.i2c, 1) := by decide +kernel
theorem dJ1_charAt_3b067_14 : decode cJ1_charAt_3b067 14 = .ok (.ireturn, 1) := by decide +kernel
theorem dJ0_charAt_5068e_0 : decode cJ0_charAt_5068e 0 = .ok (.aload_n 0, 1) := by decide +kernel
theorem dJ0_charAt_5068e_1 : decode cJ0_charAt_5068e 1 = .ok (.invokevirtual 492, 3) := by decide +kernel
theorem dJ0_charAt_5068e_4 : decode cJ0_charAt_5068e 4 = .ok (.ifCond .eq 12, 3) := by decide +kernel
theorem dJ0_charAt_5068e_7 : decode cJ0_charAt_5068e 7 = .ok (.aload_n 0, 1) := by decide +kernel
theorem dJ0_charAt_5068e_8 : decode cJ0_charAt_5068e 8 = .ok (.getfield 9, 3) := by decide +kernel
theorem dJ0_charAt_5068e_11 : decode cJ0_charAt_5068e 11 = .ok (.iload_n 1, 1) := by decide +kernel
theorem dJ0_charAt_5068e_12 : decode cJ0_charAt_5068e 12 = .ok (.invokestatic 495, 3) := by decide +kernel
theorem dJ0_charAt_5068e_15 : decode cJ0_charAt_5068e 15 = .ok (.ireturn, 1) := by decide +kernel