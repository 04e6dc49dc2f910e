theorem dX10_in_0 : decode cX10_in 0 = .ok (.iload_n 0, 1) := by decide +kernel
theorem dX10_in_1 : decode cX10_in 1 = .ok (.iload_n 1, 1) := by decide +kernel
theorem dX10_in_2 : decode cX10_in 2 = .ok (.if_icmp .lt 12, 3) := by decide +kernel
theorem dX10_in_5 : decode cX10_in 5 = .ok (.iload_n 0, 1) := by decide +kernel
theorem dX10_in_6 : decode cX10_in 6 = .ok (.iload_n 2, 1) := by decide +kernel
theorem dX10_in_7 : decode cX10_in 7 = .ok (.if_icmp .gt 7, 3) := by decide +kernel
theorem dX10_in_10 : decode cX10_in 10 = .ok (.iconst 1, 1) := by decide +kernel
theorem dX10_in_11 : decode cX10_in 11 = .ok (.goto 4, 3) := by decide +kernel
theorem dX10_in_14 : decode cX10_in 14 = .ok (.iconst 0, 1) := by decide +kernel
theorem dX10_in_15 : decode cX10_in 15 = .ok (.ireturn, 1) := by decide +kernel
set_option maxHeartbeats 4000000 in
set_option maxRecDepth 100000 in
theorem t_X10_in (l : Launch) (dC : Nat → ClassId) (dI : Nat → Nat → Nat) (dA : Nat → ClassId) (L : List Nat) (h : hx_h) (sz : Nat) (i1 : Int32) (i2 : Int32) (i3 : Int32) (hT : hx_T T_tb L h)   : Met l yX10_in (Cond.code yX10_in cX10_in 3 (some .boolean) :: hx_all) ({ frames := 0, cells := 0, slots := 0, locals := 0 }) (va_Pc [.int i1, .int i2, .int i3] (hx_B T_tb (P_ty dA) (dC, dI) vwCl L h sz)) (va_Qi (fun (r : Int32) (u : List Nat × hx_h) => ((r.toInt = 0 ∧ (i1.toInt < i2.toInt ∨ i3.toInt < i1.toInt)) ∨ (r.toInt = 1 ∧ i2.toInt ≤ i1.toInt ∧ i1.toInt ≤ i3.toInt)) ∧ hx_T T_tb u.1 u.2 ∧ hx_S T_tb [] L h u.1 u.2) (hx_E T_tb (P_ty dA) (dC, dI) vwCl (hx_A L sz)) (hx_A L sz)) 0 0 (hx_A L sz) := by
  refine hx_met (lv := [(0, .int i1), (1, .int i2), (2, .int i3)]) (by decide +kernel) rfl (Nat.le_of_ble_eq_true rfl) rfl ?_
  intro p e s m below meth c hx hb hml hr hlk hts0 hown hin hsz hW ls hl
  have hts : ∀ w ∈ hx_all, w.before _ s = true := fun w hw => hts0 w (List.mem_cons_of_mem _ hw)
  have hown : s.vm.findClass "SmallCourtModel" = some m.cls := hown
  have hM : hx_S T_tb [] L h L h := hx_S.rf
  refine lv_iload_n hx hb dX10_in_0 rfl (lv_at hl 0 rfl) ?_
  refine lv_iload_n hx hb dX10_in_1 rfl (lv_at hl 1 rfl) ?_
  refine hb_icmp_lt (zx := i1.toInt) (zy := i2.toInt) (tgt := 14) hx hb rfl rfl dX10_in_2 (by decide) (fun c_1 => ?_) (fun c_1 => ?_)
  · skip
    refine lv_iconst (v := 0) hx hb dX10_in_14 (by decide) ?_
    exact hx_retz hx hb hr rfl hlk hW ⟨(by have zr : (0 : Int32).toInt = 0 := (by decide); (first | omega | (refine ⟨?_, ?_⟩ <;> omega))), hT, hM⟩ dX10_in_15
  · skip
    refine lv_iload_n hx hb dX10_in_5 rfl (lv_at hl 0 rfl) ?_
    refine lv_iload_n hx hb dX10_in_6 rfl (lv_at hl 2 rfl) ?_
    refine hb_icmp_gt (zx := i1.toInt) (zy := i3.toInt) (tgt := 14) hx hb rfl rfl dX10_in_7 (by decide) (fun c_2 => ?_) (fun c_2 => ?_)
    · skip
      refine lv_iconst (v := 0) hx hb dX10_in_14 (by decide) ?_
      exact hx_retz hx hb hr rfl hlk hW ⟨(by have zr : (0 : Int32).toInt = 0 := (by decide); (first | omega | (refine ⟨?_, ?_⟩ <;> omega))), hT, hM⟩ dX10_in_15
    · skip
      refine lv_iconst (v := 1) hx hb dX10_in_10 (by decide) ?_
      refine lv_goto (tgt := 15) hx hb dX10_in_11 (by decide) ?_
      exact hx_retz hx hb hr rfl hlk hW ⟨(by have zr : (1 : Int32).toInt = 1 := (by decide); (first | omega | (refine ⟨?_, ?_⟩ <;> omega))), hT, hM⟩ dX10_in_15

theorem dX10_isDay_0 : decode cX10_isDay 0 = .ok (.iload_n 0, 1) := by decide +kernel
theorem dX10_isDay_1 : decode cX10_isDay 1 = .ok (.iconst 0, 1) := by decide +kernel
theorem dX10_isDay_2 : decode cX10_isDay 2 = .ok (.sipush 7999, 3) := by decide +kernel
theorem dX10_isDay_5 : decode cX10_isDay 5 = .ok (.invokestatic 228, 3) := by decide +kernel
theorem dX10_isDay_8 : decode cX10_isDay 8 = .ok (.ireturn, 1) := by decide +kernel
set_option maxHeartbeats 4000000 in
set_option maxRecDepth 100000 in
theorem t_X10_isDay (l : Launch) (dC : Nat → ClassId) (dI : Nat → Nat → Nat) (dA : Nat → ClassId) (L : List Nat) (h : hx_h) (sz : Nat) (i1 : Int32) (hT : hx_T T_tb L h)   : Met l yX10_isDay (Cond.code yX10_isDay cX10_isDay 1 (some .boolean) :: hx_all) ({ frames := 1, cells := 0, slots := 0, locals := 22 }) (va_Pc [.int i1] (hx_B T_tb (P_ty dA) (dC, dI) vwCl L h sz)) (va_Qi (fun (r : Int32) (u : List Nat × hx_h) => ((r.toInt = 0 ∧ (i1.toInt < 0 ∨ 7999 < i1.toInt)) ∨ (r.toInt = 1 ∧ 0 ≤ i1.toInt ∧ i1.toInt ≤ 7999)) ∧ hx_T T_tb u.1 u.2 ∧ hx_S T_tb [] L h u.1 u.2) (hx_E T_tb (P_ty dA) (dC, dI) vwCl (hx_A L sz)) (hx_A L sz)) 0 0 (hx_A L sz) := by
  refine hx_met (lv := [(0, .int i1)]) (by decide +kernel) rfl (Nat.le_of_ble_eq_true rfl) rfl ?_
  intro p e s m below meth c hx hb hml hr hlk hts0 hown hin hsz hW ls hl
  have hts : ∀ w ∈ hx_all, w.before _ s = true := fun w hw => hts0 w (List.mem_cons_of_mem _ hw)
  have hown : s.vm.findClass "SmallCourtModel" = some m.cls := hown
  have hM : hx_S T_tb [] L h L h := hx_S.rf
  refine lv_iload_n hx hb dX10_isDay_0 rfl (lv_at hl 0 rfl) ?_
  refine lv_iconst (v := 0) hx hb dX10_isDay_1 (by decide) ?_
  refine lv_sipush (v := 7999) hx hb dX10_isDay_2 (by decide) ?_
  have zc_7999 : (7999 : Int32).toInt = 7999 := by decide
  have zc_0 : (0 : Int32).toInt = 0 := by decide
  refine hx_goi (hx_runS (As := [.int i1, .int (0 : Int32), .int (7999 : Int32)]) (rest := []) ⟨hx, hb, hml, hown, hts⟩ hW (t_X10_in l dC dI dA L h s.heap.size i1 (0 : Int32) (7999 : Int32) hT) (va_cwS 3 hts (hx_gS kw_1445 kw_1443 kw_1444 kw_103) rfl rfl rfl (by decide +kernel) ⟨Nat.le_of_ble_eq_true rfl, Nat.le_of_ble_eq_true rfl⟩) rfl hl.1 rfl (Nat.le_of_ble_eq_true rfl) dX10_isDay_5 ⟨Nat.le_of_ble_eq_true rfl, Nat.le_of_ble_eq_true rfl⟩) hW (fun r_3 L_1 h_2 H locs p_4 hW => ?_)
  obtain ⟨hr_5, hT, hs⟩ := p_4
  replace hT : hx_T T_tb L_1 h_2 := hT
  replace hs : hx_S T_tb [] L h L_1 h_2 := hs
  replace hM := hM.tr (hs.mono (by decide))
  exact hx_retz hx hb hr (hx_nar01 (by omega)) hlk hW ⟨(by first | omega | (refine ⟨?_, ?_⟩ <;> omega)), hT, hM⟩ dX10_isDay_8

theorem dX10_clock_0 : decode cX10_clock 0 = .ok (.iload_n 1, 1) := by decide +kernel
theorem dX10_clock_1 : decode cX10_clock 1 = .ok (.aload_n 0, 1) := by decide +kernel
theorem dX10_clock_2 : decode cX10_clock 2 = .ok (.getfield 232, 3) := by decide +kernel
theorem dX10_clock_5 : decode cX10_clock 5 = .ok (.sipush 7999, 3) := by decide +kernel
theorem dX10_clock_8 : decode cX10_clock 8 = .ok (.invokestatic 228, 3) := by decide +kernel
theorem dX10_clock_11 : decode cX10_clock 11 = .ok (.ifCond .ne 5, 3) := by decide +kernel
theorem dX10_clock_14 : decode cX10_clock 14 = .ok (.iconst 0, 1) := by decide +kernel
theorem dX10_clock_15 : decode cX10_clock 15 = .ok (.ireturn, 1) := by decide +kernel
theorem dX10_clock_16 : decode cX10_clock 16 = .ok (.aload_n 0, 1) := by decide +kernel
theorem dX10_clock_17 : decode cX10_clock 17 = .ok (.iload_n 1, 1) := by decide +kernel
theorem dX10_clock_18 : decode cX10_clock 18 = .ok (.putfield 232, 3) := by decide +kernel
theorem dX10_clock_21 : decode cX10_clock 21 = .ok (.iconst 1, 1) := by decide +kernel
theorem dX10_clock_22 : decode cX10_clock 22 = .ok (.ireturn, 1) := by decide +kernel
set_option maxHeartbeats 4000000 in
set_option maxRecDepth 100000 in
theorem t_X10_clock (l : Launch) (dC : Nat → ClassId) (dI : Nat → Nat → Nat) (dA : Nat → ClassId) (L : List Nat) (h : hx_h) (sz : Nat) (x : Nat) (i1 : Int32) (hT : hx_T T_tb L h) (gx : hx_g L h x 10) (now0 : Int32) (f_x_0 : h.2.1 x 0 = now0) : Met l yX10_clock (Cond.code yX10_clock cX10_clock 2 (some .boolean) :: hx_all) ({ frames := 1, cells := 0, slots := 0, locals := 22 }) (va_Pc [.ref x, .int i1] (hx_B T_tb (P_ty dA) (dC, dI) vwCl L h sz)) (va_Qi (fun (r : Int32) (u : List Nat × hx_h) => (∃ (now1 : Int32), u.2.2.1 x 0 = now1 ∧ ((r.toInt = 0 ∨ r.toInt = 1) ∧ (r.toInt = 0 → (i1.toInt < now0.toInt ∨ 7999 < i1.toInt) ∧ now1 = now0) ∧ (r.toInt = 1 → now0.toInt ≤ i1.toInt ∧ i1.toInt ≤ 7999 ∧ now1 = i1))) ∧ hx_T T_tb u.1 u.2 ∧ hx_S T_tb [(10, 0)] L h u.1 u.2) (hx_E T_tb (P_ty dA) (dC, dI) vwCl (hx_A L sz)) (hx_A L sz)) 0 0 (hx_A L sz) := by
  refine hx_met (lv := [(0, .ref x), (1, .int i1)]) (by decide +kernel) rfl (Nat.le_of_ble_eq_true rfl) rfl ?_
  intro p e s m below meth c hx hb hml hr hlk hts0 hown hin hsz hW ls hl
  have hts : ∀ w ∈ hx_all, w.before _ s = true := fun w hw => hts0 w (List.mem_cons_of_mem _ hw)
  have hown : s.vm.findClass "SmallCourtModel" = some m.cls := hown
  have hM : hx_S T_tb [(10, 0)] L h L h := hx_S.rf
  have b_now0 := hT.gi gx tt_10 (k := 0) rfl
  rw [f_x_0] at b_now0
  have b_now0 : 0 ≤ now0.toInt ∧ now0.toInt ≤ 7999 := b_now0
  refine lv_iload_n hx hb dX10_clock_0 rfl (lv_at hl 1 rfl) ?_
  refine lv_aload_n hx hb dX10_clock_1 rfl (lv_at hl 0 rfl) ?_
  refine hk_geti hx hb hts hC_10 hown hW (gx.S hM) tt_10 0 (by decide) rfl kw_1143 ⟨rfl, rfl, rfl⟩ f_x_0 dX10_clock_2 ?_
  refine lv_sipush (v := 7999) hx hb dX10_clock_5 (by decide) ?_
  have zc_7999 : (7999 : Int32).toInt = 7999 := by decide
  refine hx_goi (hx_runS (As := [.int i1, .int now0, .int (7999 : Int32)]) (rest := []) ⟨hx, hb, hml, hown, hts⟩ hW (t_X10_in l dC dI dA L h s.heap.size i1 now0 (7999 : Int32) hT) (va_cwS 3 hts (hx_gS kw_1445 kw_1443 kw_1444 kw_103) rfl rfl rfl (by decide +kernel) ⟨Nat.le_of_ble_eq_true rfl, Nat.le_of_ble_eq_true rfl⟩) rfl hl.1 rfl (Nat.le_of_ble_eq_true rfl) dX10_clock_8 ⟨Nat.le_of_ble_eq_true rfl, Nat.le_of_ble_eq_true rfl⟩) hW (fun r_3 L_1 h_2 H locs p_4 hW => ?_)
  obtain ⟨hr_5, hT, hs⟩ := p_4
  replace hT : hx_T T_tb L_1 h_2 := hT
  replace hs : hx_S T_tb [] L h L_1 h_2 := hs
  replace f_x_0 := (hs.o (gx.S hM) trivial rfl).1.trans f_x_0
  replace hM := hM.tr (hs.mono (by decide))
  refine hb_if_ne (zx := r_3.toInt) (tgt := 16) hx hb rfl dX10_clock_11 (by decide) (fun c_6 => ?_) (fun c_6 => ?_)
  · skip
    replace hr_5 := hr_5.resolve_left (fun z9 => c_6 z9.1)
    replace c_6 := hr_5.1
    replace hr_5 := hr_5.2
    refine lv_aload_n hx hb dX10_clock_16 rfl (lv_at hl 0 rfl) ?_
    refine lv_iload_n hx hb dX10_clock_17 rfl (lv_at hl 1 rfl) ?_
    refine hx_puti hx hb hts hC_10 hown hW hT (hx_S.rf (M := [(10, 0)])) (gx.S hM) tt_10 0 (by decide) rfl kw_1143 ⟨rfl, rfl, rfl⟩ rfl (x := i1) ⟨by omega, by omega⟩ rfl rfl rfl (List.mem_singleton.mpr rfl) dX10_clock_18 (fun H locs h_7 eh_7 hW hT hs => ?_)
    replace hM := hM.tr (hs.mono (by decide))
    have f_8 : h_7.2.1 x 0 = i1 := by rw [eh_7]; exact hx_pi_at _ _ _ _
    refine lv_iconst (v := 1) hx hb dX10_clock_21 (by decide) ?_
    exact hx_retz hx hb hr rfl hlk hW ⟨⟨i1, f_8, (by have zr : (1 : Int32).toInt = 1 := (by decide); exact ⟨by omega, fun z => absurd z (by decide), fun _ => ⟨by omega, by omega, rfl⟩⟩)⟩, hT, hM⟩ dX10_clock_22
  · skip
    replace hr_5 := hr_5.resolve_right (fun z9 => absurd (c_6.symm.trans z9.1) (by decide))
    replace hr_5 := hr_5.2
    refine lv_iconst (v := 0) hx hb dX10_clock_14 (by decide) ?_
    exact hx_retz hx hb hr rfl hlk hW ⟨⟨now0, f_x_0, (by have zr : (0 : Int32).toInt = 0 := (by decide); exact ⟨by omega, fun _ => ⟨by omega, rfl⟩, fun z => absurd z (by decide)⟩)⟩, hT, hM⟩ dX10_clock_15

def wLX10_without_0 : List Nat := [26, 170, 0, 0, 0, 0, 0, 76, 0, 0, 0, 0, 0, 0, 0, 8, 0, 0, 0, 51, 0, 0, 0, 55, 0, 0, 0, 58, 0, 0, 0, 61, 0, 0, 0, 64, 0, 0, 0, 66, 0, 0, 0, 68, 0, 0, 0, 70, 0, 0, 0, 73, 17, 1, 224, 172, 16, 30, 172, 16, 12, 172, 16, 60]
def wLX10_without_1 : List Nat := [172, 5, 172, 7, 172, 4, 172, 16, 40, 172, 16, 21, 172, 3, 172]
theorem wX10_without_0 : (cX10_without.data.toList.map UInt8.toNat).drop 0 = wLX10_without_0 ++ (wLX10_without_1 ++ ([])) := by decide +kernel
theorem wX10_without_1 : (cX10_without.data.toList.map UInt8.toNat).drop 64 = wLX10_without_1 ++ ([]) := hz_wn wX10_without_0 rfl
theorem dX10_without_0 : decode cX10_without 0 = .ok (.iload_n 0, 1) := dq_26 (hz_wg wX10_without_0 (j := 0) (n := 26) rfl)
theorem dX10_without_1 : decode cX10_without 1 = .ok (.tableswitch 76 0 8 #[51, 55, 58, 61, 64, 66, 68, 70, 73], 51) := by decide +kernel
theorem dX10_without_52 : decode cX10_without 52 = .ok (.sipush 480, 3) := dq_17 (hz_wg wX10_without_0 (j := 52) (n := 17) rfl) (hz_wg wX10_without_0 (j := 53) (n := 1) rfl) (hz_wg wX10_without_0 (j := 54) (n := 224) rfl) (by decide)
theorem dX10_without_55 : decode cX10_without 55 = .ok (.ireturn, 1) := dq_172 (hz_wg wX10_without_0 (j := 55) (n := 172) rfl)
theorem dX10_without_56 : decode cX10_without 56 = .ok (.bipush 30, 2) := dq_16 (hz_wg wX10_without_0 (j := 56) (n := 16) rfl) (hz_wg wX10_without_0 (j := 57) (n := 30) rfl) (by decide)
theorem dX10_without_58 : decode cX10_without 58 = .ok (.ireturn, 1) := dq_172 (hz_wg wX10_without_0 (j := 58) (n := 172) rfl)
theorem dX10_without_59 : decode cX10_without 59 = .ok (.bipush 12, 2) := dq_16 (hz_wg wX10_without_0 (j := 59) (n := 16) rfl) (hz_wg wX10_without_0 (j := 60) (n := 12) rfl) (by decide)
theorem dX10_without_61 : decode cX10_without 61 = .ok (.ireturn, 1) := dq_172 (hz_wg wX10_without_0 (j := 61) (n := 172) rfl)
theorem dX10_without_62 : decode cX10_without 62 = .ok (.bipush 60, 2) := dq_16 (hz_wg wX10_without_0 (j := 62) (n := 16) rfl) (hz_wg wX10_without_0 (j := 63) (n := 60) rfl) (by decide)
theorem dX10_without_64 : decode cX10_without 64 = .ok (.ireturn, 1) := dq_172 (hz_wg wX10_without_1 (j := 0) (n := 172) rfl)
theorem dX10_without_65 : decode cX10_without 65 = .ok (.iconst 2, 1) := dq_5 (hz_wg wX10_without_1 (j := 1) (n := 5) rfl)
theorem dX10_without_66 : decode cX10_without 66 = .ok (.ireturn, 1) := dq_172 (hz_wg wX10_without_1 (j := 2) (n := 172) rfl)
theorem dX10_without_67 : decode cX10_without 67 = .ok (.iconst 4, 1) := dq_7 (hz_wg wX10_without_1 (j := 3) (n := 7) rfl)
theorem dX10_without_68 : decode cX10_without 68 = .ok (.ireturn, 1) := dq_172 (hz_wg wX10_without_1 (j := 4) (n := 172) rfl)
theorem dX10_without_69 : decode cX10_without 69 = .ok (.iconst 1, 1) := dq_4 (hz_wg wX10_without_1 (j := 5) (n := 4) rfl)
theorem dX10_without_70 : decode cX10_without 70 = .ok (.ireturn, 1) := dq_172 (hz_wg wX10_without_1 (j := 6) (n := 172) rfl)
theorem dX10_without_71 : decode cX10_without 71 = .ok (.bipush 40, 2) := dq_16 (hz_wg wX10_without_1 (j := 7) (n := 16) rfl) (hz_wg wX10_without_1 (j := 8) (n := 40) rfl) (by decide)
theorem dX10_without_73 : decode cX10_without 73 = .ok (.ireturn, 1) := dq_172 (hz_wg wX10_without_1 (j := 9) (n := 172) rfl)
theorem dX10_without_74 : decode cX10_without 74 = .ok (.bipush 21, 2) := dq_16 (hz_wg wX10_without_1 (j := 10) (n := 16) rfl) (hz_wg wX10_without_1 (j := 11) (n := 21) rfl) (by decide)
theorem dX10_without_76 : decode cX10_without 76 = .ok (.ireturn, 1) := dq_172 (hz_wg wX10_without_1 (j := 12) (n := 172) rfl)
theorem dX10_without_77 : decode cX10_without 77 = .ok (.iconst 0, 1) := dq_3 (hz_wg wX10_without_1 (j := 13) (n := 3) rfl)
theorem dX10_without_78 : decode cX10_without 78 = .ok (.ireturn, 1) := dq_172 (hz_wg wX10_without_1 (j := 14) (n := 172) rfl)
set_option maxHeartbeats 4000000 in
set_option maxRecDepth 100000 in
theorem t_X10_without (l : Launch) (dC : Nat → ClassId) (dI : Nat → Nat → Nat) (dA : Nat → ClassId) (L : List Nat) (h : hx_h) (sz : Nat) (i1 : Int32) (hT : hx_T T_tb L h)   : Met l yX10_without (Cond.code yX10_without cX10_without 1 (some .int) :: hx_all) ({ frames := 0, cells := 0, slots := 0, locals := 0 }) (va_Pc [.int i1] (hx_B T_tb (P_ty dA) (dC, dI) vwCl L h sz)) (va_Qi (fun (r : Int32) (u : List Nat × hx_h) => (0 ≤ r.toInt ∧ r.toInt ≤ 480 ∧ ((i1.toInt = 2 → 1 ≤ r.toInt) ∧ (9 ≤ i1.toInt → r.toInt = 0))) ∧ hx_T T_tb u.1 u.2 ∧ hx_S T_tb [] L h u.1 u.2) (hx_E T_tb (P_ty dA) (dC, dI) vwCl (hx_A L sz)) (hx_A L sz)) 0 0 (hx_A L sz) := by
  refine hx_met (lv := [(0, .int i1)]) (by decide +kernel) rfl (Nat.le_of_ble_eq_true rfl) rfl ?_
  intro p e s m below meth c hx hb hml hr hlk hts0 hown hin hsz hW ls hl
  have hts : ∀ w ∈ hx_all, w.before _ s = true := fun w hw => hts0 w (List.mem_cons_of_mem _ hw)
  have hown : s.vm.findClass "SmallCourtModel" = some m.cls := hown
  have hM : hx_S T_tb [] L h L h := hx_S.rf
  refine lv_iload_n hx hb dX10_without_0 rfl (lv_at hl 0 rfl) ?_
  rcases (show (i1.toInt < 0 ∨ 8 < i1.toInt) ∨ i1.toInt = 0 ∨ i1.toInt = 1 ∨ i1.toInt = 2 ∨ i1.toInt = 3 ∨ i1.toInt = 4 ∨ i1.toInt = 5 ∨ i1.toInt = 6 ∨ i1.toInt = 7 ∨ i1.toInt = 8 from by omega) with c_1 | c_1 | c_1 | c_1 | c_1 | c_1 | c_1 | c_1 | c_1 | c_1
  · refine lv_tableOut (tgt := 77) hx hb dX10_without_1 c_1 (by decide) ?_
    refine lv_iconst (v := 0) hx hb dX10_without_77 (by decide) ?_
    exact hx_reti hx hb hr hlk hW ⟨(by have zr : (0 : Int32).toInt = 0 := (by decide); refine ⟨?_, ?_, ?_⟩ <;> omega), hT, hM⟩ dX10_without_78
  · refine lv_tableIn (off := 51) (tgt := 52) hx hb dX10_without_1 (by omega) (by omega) (by rw [c_1]; rfl) (by decide) ?_
    refine lv_sipush (v := 480) hx hb dX10_without_52 (by decide) ?_
    exact hx_reti hx hb hr hlk hW ⟨(by have zr : (480 : Int32).toInt = 480 := (by decide); refine ⟨?_, ?_, ?_⟩ <;> omega), hT, hM⟩ dX10_without_55
  · refine lv_tableIn (off := 55) (tgt := 56) hx hb dX10_without_1 (by omega) (by omega) (by rw [c_1]; rfl) (by decide) ?_
    refine lv_bipush (v := 30) hx hb dX10_without_56 (by decide) ?_
    exact hx_reti hx hb hr hlk hW ⟨(by have zr : (30 : Int32).toInt = 30 := (by decide); refine ⟨?_, ?_, ?_⟩ <;> omega), hT, hM⟩ dX10_without_58
  · refine lv_tableIn (off := 58) (tgt := 59) hx hb dX10_without_1 (by omega) (by omega) (by rw [c_1]; rfl) (by decide) ?_
    refine lv_bipush (v := 12) hx hb dX10_without_59 (by decide) ?_
    exact hx_reti hx hb hr hlk hW ⟨(by have zr : (12 : Int32).toInt = 12 := (by decide); refine ⟨?_, ?_, ?_⟩ <;> omega), hT, hM⟩ dX10_without_61
  · refine lv_tableIn (off := 61) (tgt := 62) hx hb dX10_without_1 (by omega) (by omega) (by rw [c_1]; rfl) (by decide) ?_
    refine lv_bipush (v := 60) hx hb dX10_without_62 (by decide) ?_
    exact hx_reti hx hb hr hlk hW ⟨(by have zr : (60 : Int32).toInt = 60 := (by decide); refine ⟨?_, ?_, ?_⟩ <;> omega), hT, hM⟩ dX10_without_64
  · refine lv_tableIn (off := 64) (tgt := 65) hx hb dX10_without_1 (by omega) (by omega) (by rw [c_1]; rfl) (by decide) ?_
    refine lv_iconst (v := 2) hx hb dX10_without_65 (by decide) ?_
    exact hx_reti hx hb hr hlk hW ⟨(by have zr : (2 : Int32).toInt = 2 := (by decide); refine ⟨?_, ?_, ?_⟩ <;> omega), hT, hM⟩ dX10_without_66
  · refine lv_tableIn (off := 66) (tgt := 67) hx hb dX10_without_1 (by omega) (by omega) (by rw [c_1]; rfl) (by decide) ?_
    refine lv_iconst (v := 4) hx hb dX10_without_67 (by decide) ?_
    exact hx_reti hx hb hr hlk hW ⟨(by have zr : (4 : Int32).toInt = 4 := (by decide); refine ⟨?_, ?_, ?_⟩ <;> omega), hT, hM⟩ dX10_without_68
  · refine lv_tableIn (off := 68) (tgt := 69) hx hb dX10_without_1 (by omega) (by omega) (by rw [c_1]; rfl) (by decide) ?_
    refine lv_iconst (v := 1) hx hb dX10_without_69 (by decide) ?_
    exact hx_reti hx hb hr hlk hW ⟨(by have zr : (1 : Int32).toInt = 1 := (by decide); refine ⟨?_, ?_, ?_⟩ <;> omega), hT, hM⟩ dX10_without_70
  · refine lv_tableIn (off := 70) (tgt := 71) hx hb dX10_without_1 (by omega) (by omega) (by rw [c_1]; rfl) (by decide) ?_
    refine lv_bipush (v := 40) hx hb dX10_without_71 (by decide) ?_
    exact hx_reti hx hb hr hlk hW ⟨(by have zr : (40 : Int32).toInt = 40 := (by decide); refine ⟨?_, ?_, ?_⟩ <;> omega), hT, hM⟩ dX10_without_73
  · refine lv_tableIn (off := 73) (tgt := 74) hx hb dX10_without_1 (by omega) (by omega) (by rw [c_1]; rfl) (by decide) ?_
    refine lv_bipush (v := 21) hx hb dX10_without_74 (by decide) ?_
    exact hx_reti hx hb hr hlk hW ⟨(by have zr : (21 : Int32).toInt = 21 := (by decide); refine ⟨?_, ?_, ?_⟩ <;> omega), hT, hM⟩ dX10_without_76

theorem dX10_leastOf_0 : decode cX10_leastOf 0 = .ok (.iload_n 0, 1) := by decide +kernel
theorem dX10_leastOf_1 : decode cX10_leastOf 1 = .ok (.iconst 1, 1) := by decide +kernel
theorem dX10_leastOf_2 : decode cX10_leastOf 2 = .ok (.if_icmp .eq 14, 3) := by decide +kernel
theorem dX10_leastOf_5 : decode cX10_leastOf 5 = .ok (.iload_n 0, 1) := by decide +kernel
theorem dX10_leastOf_6 : decode cX10_leastOf 6 = .ok (.iconst 3, 1) := by decide +kernel
theorem dX10_leastOf_7 : decode cX10_leastOf 7 = .ok (.if_icmp .eq 9, 3) := by decide +kernel
theorem dX10_leastOf_10 : decode cX10_leastOf 10 = .ok (.iload_n 0, 1) := by decide +kernel
theorem dX10_leastOf_11 : decode cX10_leastOf 11 = .ok (.bipush 8, 2) := by decide +kernel
theorem dX10_leastOf_13 : decode cX10_leastOf 13 = .ok (.if_icmp .lt 7, 3) := by decide +kernel
theorem dX10_leastOf_16 : decode cX10_leastOf 16 = .ok (.iconst 0, 1) := by decide +kernel
theorem dX10_leastOf_17 : decode cX10_leastOf 17 = .ok (.goto 4, 3) := by decide +kernel
theorem dX10_leastOf_20 : decode cX10_leastOf 20 = .ok (.iconst 1, 1) := by decide +kernel
theorem dX10_leastOf_21 : decode cX10_leastOf 21 = .ok (.ireturn, 1) := by decide +kernel
set_option maxHeartbeats 4000000 in
set_option maxRecDepth 100000 in
theorem t_X10_leastOf (l : Launch) (dC : Nat → ClassId) (dI : Nat → Nat → Nat) (dA : Nat → ClassId) (L : List Nat) (h : hx_h) (sz : Nat) (i1 : Int32) (hT : hx_T T_tb L h)   : Met l yX10_leastOf (Cond.code yX10_leastOf cX10_leastOf 1 (some .int) :: hx_all) ({ frames := 0, cells := 0, slots := 0, locals := 0 }) (va_Pc [.int i1] (hx_B T_tb (P_ty dA) (dC, dI) vwCl L h sz)) (va_Qi (fun (r : Int32) (u : List Nat × hx_h) => (0 ≤ r.toInt ∧ r.toInt ≤ 1 ∧ (i1.toInt = 2 → r.toInt = 1)) ∧ hx_T T_tb u.1 u.2 ∧ hx_S T_tb [] L h u.1 u.2) (hx_E T_tb (P_ty dA) (dC, dI) vwCl (hx_A L sz)) (hx_A L sz)) 0 0 (hx_A L sz) := by
  refine hx_met (lv := [(0, .int i1)]) (by decide +kernel) rfl (Nat.le_of_ble_eq_true rfl) rfl ?_
  intro p e s m below meth c hx hb hml hr hlk hts0 hown hin hsz hW ls hl
  have hts : ∀ w ∈ hx_all, w.before _ s = true := fun w hw => hts0 w (List.mem_cons_of_mem _ hw)
  have hown : s.vm.findClass "SmallCourtModel" = some m.cls := hown
  have hM : hx_S T_tb [] L h L h := hx_S.rf
  refine lv_iload_n hx hb dX10_leastOf_0 rfl (lv_at hl 0 rfl) ?_
  refine lv_iconst (v := 1) hx hb dX10_leastOf_1 (by decide) ?_
  refine hb_icmp_eq (zx := i1.toInt) (zy := 1) (tgt := 16) hx hb rfl (by decide) dX10_leastOf_2 (by decide) (fun c_1 => ?_) (fun c_1 => ?_)
  · skip
    refine lv_iconst (v := 0) hx hb dX10_leastOf_16 (by decide) ?_
    refine lv_goto (tgt := 21) hx hb dX10_leastOf_17 (by decide) ?_
    exact hx_reti hx hb hr hlk hW ⟨(by have zr : (0 : Int32).toInt = 0 := (by decide); refine ⟨?_, ?_, ?_⟩ <;> omega), hT, hM⟩ dX10_leastOf_21
  · skip
    refine lv_iload_n hx hb dX10_leastOf_5 rfl (lv_at hl 0 rfl) ?_
    refine lv_iconst (v := 3) hx hb dX10_leastOf_6 (by decide) ?_
    refine hb_icmp_eq (zx := i1.toInt) (zy := 3) (tgt := 16) hx hb rfl (by decide) dX10_leastOf_7 (by decide) (fun c_2 => ?_) (fun c_2 => ?_)
    · skip
      refine lv_iconst (v := 0) hx hb dX10_leastOf_16 (by decide) ?_
      refine lv_goto (tgt := 21) hx hb dX10_leastOf_17 (by decide) ?_
      exact hx_reti hx hb hr hlk hW ⟨(by have zr : (0 : Int32).toInt = 0 := (by decide); refine ⟨?_, ?_, ?_⟩ <;> omega), hT, hM⟩ dX10_leastOf_21
    · skip
      refine lv_iload_n hx hb dX10_leastOf_10 rfl (lv_at hl 0 rfl) ?_
      refine lv_bipush (v := 8) hx hb dX10_leastOf_11 (by decide) ?_
      refine hb_icmp_lt (zx := i1.toInt) (zy := 8) (tgt := 20) hx hb rfl (by decide) dX10_leastOf_13 (by decide) (fun c_3 => ?_) (fun c_3 => ?_)
      · skip
        refine lv_iconst (v := 1) hx hb dX10_leastOf_20 (by decide) ?_
        exact hx_reti hx hb hr hlk hW ⟨(by have zr : (1 : Int32).toInt = 1 := (by decide); refine ⟨?_, ?_, ?_⟩ <;> omega), hT, hM⟩ dX10_leastOf_21
      · skip
        refine lv_iconst (v := 0) hx hb dX10_leastOf_16 (by decide) ?_
        refine lv_goto (tgt := 21) hx hb dX10_leastOf_17 (by decide) ?_
        exact hx_reti hx hb hr hlk hW ⟨(by have zr : (0 : Int32).toInt = 0 := (by decide); refine ⟨?_, ?_, ?_⟩ <;> omega), hT, hM⟩ dX10_leastOf_21

def wLX10_mostOf_0 : List Nat := [26, 170, 0, 0, 0, 0, 0, 83, 0, 0, 0, 0, 0, 0, 0, 8, 0, 0, 0, 51, 0, 0, 0, 55, 0, 0, 0, 59, 0, 0, 0, 63, 0, 0, 0, 67, 0, 0, 0, 70, 0, 0, 0, 73, 0, 0, 0, 76, 0, 0, 0, 80, 17, 39, 15, 172, 17, 1, 109, 172, 17, 3, 231, 172]
def wLX10_mostOf_1 : List Nat := [17, 3, 231, 172, 16, 20, 172, 16, 20, 172, 16, 30, 172, 17, 1, 144, 172, 16, 40, 172, 17, 3, 231, 172]
theorem wX10_mostOf_0 : (cX10_mostOf.data.toList.map UInt8.toNat).drop 0 = wLX10_mostOf_0 ++ (wLX10_mostOf_1 ++ ([])) := by decide +kernel
theorem wX10_mostOf_1 : (cX10_mostOf.data.toList.map UInt8.toNat).drop 64 = wLX10_mostOf_1 ++ ([]) := hz_wn wX10_mostOf_0 rfl
theorem dX10_mostOf_0 : decode cX10_mostOf 0 = .ok (.iload_n 0, 1) := dq_26 (hz_wg wX10_mostOf_0 (j := 0) (n := 26) rfl)
theorem dX10_mostOf_1 : decode cX10_mostOf 1 = .ok (.tableswitch 83 0 8 #[51, 55, 59, 63, 67, 70, 73, 76, 80], 51) := by decide +kernel
theorem dX10_mostOf_52 : decode cX10_mostOf 52 = .ok (.sipush 9999, 3) := dq_17 (hz_wg wX10_mostOf_0 (j := 52) (n := 17) rfl) (hz_wg wX10_mostOf_0 (j := 53) (n := 39) rfl) (hz_wg wX10_mostOf_0 (j := 54) (n := 15) rfl) (by decide)
theorem dX10_mostOf_55 : decode cX10_mostOf 55 = .ok (.ireturn, 1) := dq_172 (hz_wg wX10_mostOf_0 (j := 55) (n := 172) rfl)
theorem dX10_mostOf_56 : decode cX10_mostOf 56 = .ok (.sipush 365, 3) := dq_17 (hz_wg wX10_mostOf_0 (j := 56) (n := 17) rfl) (hz_wg wX10_mostOf_0 (j := 57) (n := 1) rfl) (hz_wg wX10_mostOf_0 (j := 58) (n := 109) rfl) (by decide)
theorem dX10_mostOf_59 : decode cX10_mostOf 59 = .ok (.ireturn, 1) := dq_172 (hz_wg wX10_mostOf_0 (j := 59) (n := 172) rfl)
theorem dX10_mostOf_60 : decode cX10_mostOf 60 = .ok (.sipush 999, 3) := dq_17 (hz_wg wX10_mostOf_0 (j := 60) (n := 17) rfl) (hz_wg wX10_mostOf_0 (j := 61) (n := 3) rfl) (hz_wg wX10_mostOf_0 (j := 62) (n := 231) rfl) (by decide)
theorem dX10_mostOf_63 : decode cX10_mostOf 63 = .ok (.ireturn, 1) := dq_172 (hz_wg wX10_mostOf_0 (j := 63) (n := 172) rfl)
theorem dX10_mostOf_64 : decode cX10_mostOf 64 = .ok (.sipush 999, 3) := dq_17 (hz_wg wX10_mostOf_1 (j := 0) (n := 17) rfl) (hz_wg wX10_mostOf_1 (j := 1) (n := 3) rfl) (hz_wg wX10_mostOf_1 (j := 2) (n := 231) rfl) (by decide)
theorem dX10_mostOf_67 : decode cX10_mostOf 67 = .ok (.ireturn, 1) := dq_172 (hz_wg wX10_mostOf_1 (j := 3) (n := 172) rfl)
theorem dX10_mostOf_68 : decode cX10_mostOf 68 = .ok (.bipush 20, 2) := dq_16 (hz_wg wX10_mostOf_1 (j := 4) (n := 16) rfl) (hz_wg wX10_mostOf_1 (j := 5) (n := 20) rfl) (by decide)
theorem dX10_mostOf_70 : decode cX10_mostOf 70 = .ok (.ireturn, 1) := dq_172 (hz_wg wX10_mostOf_1 (j := 6) (n := 172) rfl)
theorem dX10_mostOf_71 : decode cX10_mostOf 71 = .ok (.bipush 20, 2) := dq_16 (hz_wg wX10_mostOf_1 (j := 7) (n := 16) rfl) (hz_wg wX10_mostOf_1 (j := 8) (n := 20) rfl) (by decide)
theorem dX10_mostOf_73 : decode cX10_mostOf 73 = .ok (.ireturn, 1) := dq_172 (hz_wg wX10_mostOf_1 (j := 9) (n := 172) rfl)
theorem dX10_mostOf_74 : decode cX10_mostOf 74 = .ok (.bipush 30, 2) := dq_16 (hz_wg wX10_mostOf_1 (j := 10) (n := 16) rfl) (hz_wg wX10_mostOf_1 (j := 11) (n := 30) rfl) (by decide)
theorem dX10_mostOf_76 : decode cX10_mostOf 76 = .ok (.ireturn, 1) := dq_172 (hz_wg wX10_mostOf_1 (j := 12) (n := 172) rfl)
theorem dX10_mostOf_77 : decode cX10_mostOf 77 = .ok (.sipush 400, 3) := dq_17 (hz_wg wX10_mostOf_1 (j := 13) (n := 17) rfl) (hz_wg wX10_mostOf_1 (j := 14) (n := 1) rfl) (hz_wg wX10_mostOf_1 (j := 15) (n := 144) rfl) (by decide)
theorem dX10_mostOf_80 : decode cX10_mostOf 80 = .ok (.ireturn, 1) := dq_172 (hz_wg wX10_mostOf_1 (j := 16) (n := 172) rfl)
theorem dX10_mostOf_81 : decode cX10_mostOf 81 = .ok (.bipush 40, 2) := dq_16 (hz_wg wX10_mostOf_1 (j := 17) (n := 16) rfl) (hz_wg wX10_mostOf_1 (j := 18) (n := 40) rfl) (by decide)
theorem dX10_mostOf_83 : decode cX10_mostOf 83 = .ok (.ireturn, 1) := dq_172 (hz_wg wX10_mostOf_1 (j := 19) (n := 172) rfl)
theorem dX10_mostOf_84 : decode cX10_mostOf 84 = .ok (.sipush 999, 3) := dq_17 (hz_wg wX10_mostOf_1 (j := 20) (n := 17) rfl) (hz_wg wX10_mostOf_1 (j := 21) (n := 3) rfl) (hz_wg wX10_mostOf_1 (j := 22) (n := 231) rfl) (by decide)
theorem dX10_mostOf_87 : decode cX10_mostOf 87 = .ok (.ireturn, 1) := dq_172 (hz_wg wX10_mostOf_1 (j := 23) (n := 172) rfl)
set_option maxHeartbeats 4000000 in
set_option maxRecDepth 100000 in
theorem t_X10_mostOf (l : Launch) (dC : Nat → ClassId) (dI : Nat → Nat → Nat) (dA : Nat → ClassId) (L : List Nat) (h : hx_h) (sz : Nat) (i1 : Int32) (hT : hx_T T_tb L h)   : Met l yX10_mostOf (Cond.code yX10_mostOf cX10_mostOf 1 (some .int) :: hx_all) ({ frames := 0, cells := 0, slots := 0, locals := 0 }) (va_Pc [.int i1] (hx_B T_tb (P_ty dA) (dC, dI) vwCl L h sz)) (va_Qi (fun (r : Int32) (u : List Nat × hx_h) => (0 ≤ r.toInt ∧ r.toInt ≤ 9999) ∧ hx_T T_tb u.1 u.2 ∧ hx_S T_tb [] L h u.1 u.2) (hx_E T_tb (P_ty dA) (dC, dI) vwCl (hx_A L sz)) (hx_A L sz)) 0 0 (hx_A L sz) := by
  refine hx_met (lv := [(0, .int i1)]) (by decide +kernel) rfl (Nat.le_of_ble_eq_true rfl) rfl ?_
  intro p e s m below meth c hx hb hml hr hlk hts0 hown hin hsz hW ls hl
  have hts : ∀ w ∈ hx_all, w.before _ s = true := fun w hw => hts0 w (List.mem_cons_of_mem _ hw)
  have hown : s.vm.findClass "SmallCourtModel" = some m.cls := hown
  have hM : hx_S T_tb [] L h L h := hx_S.rf
  refine lv_iload_n hx hb dX10_mostOf_0 rfl (lv_at hl 0 rfl) ?_
  rcases (show (i1.toInt < 0 ∨ 8 < i1.toInt) ∨ i1.toInt = 0 ∨ i1.toInt = 1 ∨ i1.toInt = 2 ∨ i1.toInt = 3 ∨ i1.toInt = 4 ∨ i1.toInt = 5 ∨ i1.toInt = 6 ∨ i1.toInt = 7 ∨ i1.toInt = 8 from by omega) with c_1 | c_1 | c_1 | c_1 | c_1 | c_1 | c_1 | c_1 | c_1 | c_1
  · refine lv_tableOut (tgt := 84) hx hb dX10_mostOf_1 c_1 (by decide) ?_
    refine lv_sipush (v := 999) hx hb dX10_mostOf_84 (by decide) ?_
    exact hx_reti hx hb hr hlk hW ⟨(by have zr : (999 : Int32).toInt = 999 := (by decide); (first | omega | (refine ⟨?_, ?_⟩ <;> omega))), hT, hM⟩ dX10_mostOf_87
  · refine lv_tableIn (off := 51) (tgt := 52) hx hb dX10_mostOf_1 (by omega) (by omega) (by rw [c_1]; rfl) (by decide) ?_
    refine lv_sipush (v := 9999) hx hb dX10_mostOf_52 (by decide) ?_
    exact hx_reti hx hb hr hlk hW ⟨(by have zr : (9999 : Int32).toInt = 9999 := (by decide); (first | omega | (refine ⟨?_, ?_⟩ <;> omega))), hT, hM⟩ dX10_mostOf_55
  · refine lv_tableIn (off := 55) (tgt := 56) hx hb dX10_mostOf_1 (by omega) (by omega) (by rw [c_1]; rfl) (by decide) ?_
    refine lv_sipush (v := 365) hx hb dX10_mostOf_56 (by decide) ?_
    exact hx_reti hx hb hr hlk hW ⟨(by have zr : (365 : Int32).toInt = 365 := (by decide); (first | omega | (refine ⟨?_, ?_⟩ <;> omega))), hT, hM⟩ dX10_mostOf_59
  · refine lv_tableIn (off := 59) (tgt := 60) hx hb dX10_mostOf_1 (by omega) (by omega) (by rw [c_1]; rfl) (by decide) ?_
    refine lv_sipush (v := 999) hx hb dX10_mostOf_60 (by decide) ?_
    exact hx_reti hx hb hr hlk hW ⟨(by have zr : (999 : Int32).toInt = 999 := (by decide); (first | omega | (refine ⟨?_, ?_⟩ <;> omega))), hT, hM⟩ dX10_mostOf_63
  · refine lv_tableIn (off := 63) (tgt := 64) hx hb dX10_mostOf_1 (by omega) (by omega) (by rw [c_1]; rfl) (by decide) ?_
    refine lv_sipush (v := 999) hx hb dX10_mostOf_64 (by decide) ?_
    exact hx_reti hx hb hr hlk hW ⟨(by have zr : (999 : Int32).toInt = 999 := (by decide); (first | omega | (refine ⟨?_, ?_⟩ <;> omega))), hT, hM⟩ dX10_mostOf_67
  · refine lv_tableIn (off := 67) (tgt := 68) hx hb dX10_mostOf_1 (by omega) (by omega) (by rw [c_1]; rfl) (by decide) ?_
    refine lv_bipush (v := 20) hx hb dX10_mostOf_68 (by decide) ?_
    exact hx_reti hx hb hr hlk hW ⟨(by have zr : (20 : Int32).toInt = 20 := (by decide); (first | omega | (refine ⟨?_, ?_⟩ <;> omega))), hT, hM⟩ dX10_mostOf_70
  · refine lv_tableIn (off := 70) (tgt := 71) hx hb dX10_mostOf_1 (by omega) (by omega) (by rw [c_1]; rfl) (by decide) ?_
    refine lv_bipush (v := 20) hx hb dX10_mostOf_71 (by decide) ?_
    exact hx_reti hx hb hr hlk hW ⟨(by have zr : (20 : Int32).toInt = 20 := (by decide); (first | omega | (refine ⟨?_, ?_⟩ <;> omega))), hT, hM⟩ dX10_mostOf_73
  · refine lv_tableIn (off := 73) (tgt := 74) hx hb dX10_mostOf_1 (by omega) (by omega) (by rw [c_1]; rfl) (by decide) ?_
    refine lv_bipush (v := 30) hx hb dX10_mostOf_74 (by decide) ?_
    exact hx_reti hx hb hr hlk hW ⟨(by have zr : (30 : Int32).toInt = 30 := (by decide); (first | omega | (refine ⟨?_, ?_⟩ <;> omega))), hT, hM⟩ dX10_mostOf_76
  · refine lv_tableIn (off := 76) (tgt := 77) hx hb dX10_mostOf_1 (by omega) (by omega) (by rw [c_1]; rfl) (by decide) ?_
    refine lv_sipush (v := 400) hx hb dX10_mostOf_77 (by decide) ?_
    exact hx_reti hx hb hr hlk hW ⟨(by have zr : (400 : Int32).toInt = 400 := (by decide); (first | omega | (refine ⟨?_, ?_⟩ <;> omega))), hT, hM⟩ dX10_mostOf_80
  · refine lv_tableIn (off := 80) (tgt := 81) hx hb dX10_mostOf_1 (by omega) (by omega) (by rw [c_1]; rfl) (by decide) ?_
    refine lv_bipush (v := 40) hx hb dX10_mostOf_81 (by decide) ?_
    exact hx_reti hx hb hr hlk hW ⟨(by have zr : (40 : Int32).toInt = 40 := (by decide); (first | omega | (refine ⟨?_, ?_⟩ <;> omega))), hT, hM⟩ dX10_mostOf_83

def wLX10_four_0 : List Nat := [16, 24, 61, 28, 155, 0, 32, 42, 180, 0, 22, 42, 180, 0, 236, 27, 28, 122, 145, 84, 42, 89, 180, 0, 236, 4, 96, 181, 0, 236, 132, 2, 248, 167, 255, 226, 177]
theorem wX10_four_0 : (cX10_four.data.toList.map UInt8.toNat).drop 0 = wLX10_four_0 ++ ([]) := by decide +kernel
theorem dX10_four_0 : decode cX10_four 0 = .ok (.bipush 24, 2) := dq_16 (hz_wg wX10_four_0 (j := 0) (n := 16) rfl) (hz_wg wX10_four_0 (j := 1) (n := 24) rfl) (by decide)
theorem dX10_four_2 : decode cX10_four 2 = .ok (.istore_n 2, 1) := dq_61 (hz_wg wX10_four_0 (j := 2) (n := 61) rfl)
theorem dX10_four_3 : decode cX10_four 3 = .ok (.iload_n 2, 1) := dq_28 (hz_wg wX10_four_0 (j := 3) (n := 28) rfl)
theorem dX10_four_4 : decode cX10_four 4 = .ok (.ifCond .lt 32, 3) := dq_155 (hz_wg wX10_four_0 (j := 4) (n := 155) rfl) (hz_wg wX10_four_0 (j := 5) (n := 0) rfl) (hz_wg wX10_four_0 (j := 6) (n := 32) rfl) (by decide)
theorem dX10_four_7 : decode cX10_four 7 = .ok (.aload_n 0, 1) := dq_42 (hz_wg wX10_four_0 (j := 7) (n := 42) rfl)
theorem dX10_four_8 : decode cX10_four 8 = .ok (.getfield 22, 3) := dq_180 (hz_wg wX10_four_0 (j := 8) (n := 180) rfl) (hz_wg wX10_four_0 (j := 9) (n := 0) rfl) (hz_wg wX10_four_0 (j := 10) (n := 22) rfl) rfl
theorem dX10_four_11 : decode cX10_four 11 = .ok (.aload_n 0, 1) := dq_42 (hz_wg wX10_four_0 (j := 11) (n := 42) rfl)
theorem dX10_four_12 : decode cX10_four 12 = .ok (.getfield 236, 3) := dq_180 (hz_wg wX10_four_0 (j := 12) (n := 180) rfl) (hz_wg wX10_four_0 (j := 13) (n := 0) rfl) (hz_wg wX10_four_0 (j := 14) (n := 236) rfl) rfl
theorem dX10_four_15 : decode cX10_four 15 = .ok (.iload_n 1, 1) := dq_27 (hz_wg wX10_four_0 (j := 15) (n := 27) rfl)
theorem dX10_four_16 : decode cX10_four 16 = .ok (.iload_n 2, 1) := dq_28 (hz_wg wX10_four_0 (j := 16) (n := 28) rfl)
theorem dX10_four_17 : decode cX10_four 17 = .ok (.ishr, 1) := dq_122 (hz_wg wX10_four_0 (j := 17) (n := 122) rfl)
theorem dX10_four_18 : decode cX10_four 18 = .ok (.i2b, 1) := dq_145 (hz_wg wX10_four_0 (j := 18) (n := 145) rfl)
theorem dX10_four_19 : decode cX10_four 19 = .ok (.bastore, 1) := dq_84 (hz_wg wX10_four_0 (j := 19) (n := 84) rfl)
theorem dX10_four_20 : decode cX10_four 20 = .ok (.aload_n 0, 1) := dq_42 (hz_wg wX10_four_0 (j := 20) (n := 42) rfl)
theorem dX10_four_21 : decode cX10_four 21 = .ok (.dup, 1) := dq_89 (hz_wg wX10_four_0 (j := 21) (n := 89) rfl)
theorem dX10_four_22 : decode cX10_four 22 = .ok (.getfield 236, 3) := dq_180 (hz_wg wX10_four_0 (j := 22) (n := 180) rfl) (hz_wg wX10_four_0 (j := 23) (n := 0) rfl) (hz_wg wX10_four_0 (j := 24) (n := 236) rfl) rfl
theorem dX10_four_25 : decode cX10_four 25 = .ok (.iconst 1, 1) := dq_4 (hz_wg wX10_four_0 (j := 25) (n := 4) rfl)
theorem dX10_four_26 : decode cX10_four 26 = .ok (.iadd, 1) := dq_96 (hz_wg wX10_four_0 (j := 26) (n := 96) rfl)
theorem dX10_four_27 : decode cX10_four 27 = .ok (.putfield 236, 3) := dq_181 (hz_wg wX10_four_0 (j := 27) (n := 181) rfl) (hz_wg wX10_four_0 (j := 28) (n := 0) rfl) (hz_wg wX10_four_0 (j := 29) (n := 236) rfl) rfl
theorem dX10_four_30 : decode cX10_four 30 = .ok (.iinc 2 (-8), 3) := dq_132 (hz_wg wX10_four_0 (j := 30) (n := 132) rfl) (hz_wg wX10_four_0 (j := 31) (n := 2) rfl) (hz_wg wX10_four_0 (j := 32) (n := 248) rfl) (by decide)
theorem dX10_four_33 : decode cX10_four 33 = .ok (.goto (-30), 3) := dq_167 (hz_wg wX10_four_0 (j := 33) (n := 167) rfl) (hz_wg wX10_four_0 (j := 34) (n := 255) rfl) (hz_wg wX10_four_0 (j := 35) (n := 226) rfl) (by decide)
theorem dX10_four_36 : decode cX10_four 36 = .ok (.return_, 1) := dq_177 (hz_wg wX10_four_0 (j := 36) (n := 177) rfl)
set_option maxHeartbeats 4000000 in
set_option maxRecDepth 100000 in
theorem t_X10_four (l : Launch) (dC : Nat → ClassId) (dI : Nat → Nat → Nat) (dA : Nat → ClassId) (L : List Nat) (h : hx_h) (sz : Nat) (x : Nat) (i1 : Int32) (hT : hx_T T_tb L h) (gx : hx_g L h x 10) (t0 : Int32) (f_x_7 : h.2.1 x 7 = t0) (ht0 : t0.toInt ≤ 396) : Met l yX10_four (Cond.code yX10_four cX10_four 3 none :: hx_all) ({ frames := 0, cells := 0, slots := 0, locals := 0 }) (va_Pc [.ref x, .int i1] (hx_B T_tb (P_ty dA) (dC, dI) vwCl L h sz)) (va_Qv (fun (u : List Nat × hx_h) => (∃ (t1 : Int32), u.2.2.1 x 7 = t1 ∧ (t1.toInt = t0.toInt + 4)) ∧ hx_T T_tb u.1 u.2 ∧ hx_S T_tb [(10, 7), (53, 0)] L h u.1 u.2) (hx_E T_tb (P_ty dA) (dC, dI) vwCl (hx_A L sz)) (hx_A L sz)) 0 0 (hx_A L sz) := by
  refine hx_met (lv := [(0, .ref x), (1, .int i1)]) (by decide +kernel) rfl (Nat.le_of_ble_eq_true rfl) rfl ?_
  intro p e s m below meth c hx hb hml hr hlk hts0 hown hin hsz hW ls hl
  have hts : ∀ w ∈ hx_all, w.before _ s = true := fun w hw => hts0 w (List.mem_cons_of_mem _ hw)
  have hown : s.vm.findClass "SmallCourtModel" = some m.cls := hown
  have hM : hx_S T_tb [(10, 7), (53, 0)] L h L h := hx_S.rf
  have b_t0 := hT.gi gx tt_10 (k := 7) rfl
  rw [f_x_7] at b_t0
  have b_t0 : 0 ≤ t0.toInt ∧ t0.toInt ≤ 400 := b_t0
  refine lv_bipush (v := 24) hx hb dX10_four_0 (by decide) ?_
  refine lv_istore_n (lv' := [(2, .int (24 : Int32)), (0, .ref x), (1, .int i1)]) hx hb dX10_four_2 rfl hl (by decide) rfl (fun ls hl => ?_)
  have loop3 : ∀ (n3 : Nat) (iv3_2 fw3_x_7 : Int32) (H : Heap) (locs : List Loc) (hL1 : List Nat) (hl1 : hx_h), -8 ≤ iv3_2.toInt → iv3_2.toInt ≤ 24 → 0 ≤ fw3_x_7.toInt → fw3_x_7.toInt ≤ 400 → (8 * fw3_x_7.toInt = 8 * t0.toInt + 24 - iv3_2.toInt) → ∀ (ls : Array Slot), iv3_2.toInt + 8 < (n3 : Int) → hx_W T_tb (P_ty dA) (dC, dI) vwCl (hx_A L sz) s.heap hL1 hl1 s H locs → hx_T T_tb hL1 hl1 → hx_S T_tb [(10, 7), (53, 0)] L h hL1 hl1 → hl1.2.1 x 7 = fw3_x_7 → lv_has ls 3 [(2, .int iv3_2), (0, .ref x), (1, .int i1)] → W p l e ({ frames := 0, cells := 0, slots := 0, locals := 0 }) s m ([.ref x, .int i1] : List Value).toArray below meth c H locs 0 0 (MQ below (va_Qv (fun (u : List Nat × hx_h) => (∃ (t1 : Int32), u.2.2.1 x 7 = t1 ∧ (t1.toInt = t0.toInt + 4)) ∧ hx_T T_tb u.1 u.2 ∧ hx_S T_tb [(10, 7), (53, 0)] L h u.1 u.2) (hx_E T_tb (P_ty dA) (dC, dI) vwCl (hx_A L sz)) (hx_A L sz)) ([.ref x, .int i1] : List Value).toArray s 0 0 (hx_A L sz)) (F0 m 3 ls []) := by
    intro n3
    induction n3 with
    | zero => intro iv3_2 fw3_x_7 H locs hL1 hl1 bliv3_2 buiv3_2 blfw3_x_7 bufw3_x_7 vi3_0 ls hn3; exfalso; omega
    | succ n3 ih3 =>
      intro iv3_2 fw3_x_7 H locs hL1 hl1 bliv3_2 buiv3_2 blfw3_x_7 bufw3_x_7 vi3_0 ls hn3 hW hT hM ffw3_x_7  hl
      refine lv_iload_n hx hb dX10_four_3 rfl (lv_at hl 0 rfl) ?_
      refine hb_if_lt (zx := iv3_2.toInt) (tgt := 36) hx hb rfl dX10_four_4 (by decide) (fun c_1 => ?_) (fun c_1 => ?_)
      · skip
        exact hx_retv hx hb hr hlk hW ⟨⟨fw3_x_7, ffw3_x_7, (by first | omega | (refine ⟨?_, ?_⟩ <;> omega))⟩, hT, hM⟩ dX10_four_36
      · skip
        refine lv_aload_n hx hb dX10_four_7 rfl (lv_at hl 1 rfl) ?_
        refine hx_getn hx hb hts hC_10 hown hW hT (gx.S hM) tt_10 6 (by decide) rfl kw_1149 ⟨rfl, rfl, rfl⟩ dX10_four_8 (fun q_2 fq_2 gq_2 => ?_)
        refine lv_aload_n hx hb dX10_four_11 rfl (lv_at hl 1 rfl) ?_
        refine hk_geti hx hb hts hC_10 hown hW (gx.S hM) tt_10 7 (by decide) rfl kw_1150 ⟨rfl, rfl, rfl⟩ ffw3_x_7 dX10_four_12 ?_
        refine lv_iload_n hx hb dX10_four_15 rfl (lv_at hl 2 rfl) ?_
        refine lv_iload_n hx hb dX10_four_16 rfl (lv_at hl 0 rfl) ?_
        refine lv_ishr hx hb dX10_four_17 ?_
        refine lv_topi (fun x_3 ex_3 => ?_)
        refine lv_i2b hx hb dX10_four_18 rfl ?_
        refine lv_topi (fun x_4 ex_4 => ?_)
        refine hx_bast hx hb hW hT (hx_S.rf (M := [(53, 0)])) gq_2 tt_53 rfl ⟨by omega, by omega⟩ (y := _) rfl (hx_nb _) (List.mem_singleton.mpr rfl) dX10_four_19 (fun H locs h_5 eh_5 hW hT hs => ?_)
        replace ffw3_x_7 := (hs.o (gx.S hM) trivial rfl).1.trans ffw3_x_7
        replace fq_2 := (hs.o (gx.S hM) trivial rfl).2.trans fq_2
        replace hM := hM.tr (hs.mono (by decide))
        replace gq_2 := gq_2.S hs
        refine lv_aload_n hx hb dX10_four_20 rfl (lv_at hl 1 rfl) ?_
        refine lv_dup hx hb dX10_four_21 rfl ?_
        refine hk_geti hx hb hts hC_10 hown hW (gx.S hM) tt_10 7 (by decide) rfl kw_1150 ⟨rfl, rfl, rfl⟩ ffw3_x_7 dX10_four_22 ?_
        refine lv_iconst (v := 1) hx hb dX10_four_25 (by decide) ?_
        refine lv_iadd hx hb dX10_four_26 ?_
        have rg_6 := i32_r fw3_x_7
        refine lv_topi (fun x_7 ex_7 => ?_)
        have zx_7 : x_7.toInt = fw3_x_7.toInt + 1 := by rw [ex_7]; exact i32_add rfl (by decide) (by omega) (by omega)
        refine hx_puti hx hb hts hC_10 hown hW hT (hx_S.rf (M := [(10, 7)])) (gx.S hM) tt_10 7 (by decide) rfl kw_1150 ⟨rfl, rfl, rfl⟩ rfl (x := x_7) ⟨by omega, by omega⟩ rfl rfl rfl (List.mem_singleton.mpr rfl) dX10_four_27 (fun H locs h_8 eh_8 hW hT hs => ?_)
        replace fq_2 := (hs.o (gx.S hM) trivial rfl).2.trans fq_2
        replace hM := hM.tr (hs.mono (by decide))
        replace gq_2 := gq_2.S hs
        have f_9 : h_8.2.1 x 7 = x_7 := by rw [eh_8]; exact hx_pi_at _ _ _ _
        obtain ⟨x_10, ex_10⟩ : ∃ y : Int32, y = iv3_2 + Int32.ofInt (-8) := ⟨_, rfl⟩
        have rg_11 := i32_r iv3_2
        have zx_10 : x_10.toInt = iv3_2.toInt + (-8) := by rw [ex_10]; exact i32_add rfl (by decide) (by omega) (by omega)
        refine lv_iinc (v := x_10) (lv' := [(2, .int x_10), (0, .ref x), (1, .int i1)]) hx hb dX10_four_30 hl (k := 0) rfl ex_10.symm (by decide) rfl (fun ls hl => ?_)
        refine lv_goto (tgt := 3) hx hb dX10_four_33 (by decide) ?_
        exact ih3 x_10 x_7 _ _ hL1 h_8 (by omega) (by omega) (by omega) (by omega) (by omega) ls (by omega) hW hT hM f_9  (lv_sub hl [0, 1, 2] rfl)
  have zk_24 : (24 : Int32).toInt = 24 := by decide
  exact loop3 33 (24 : Int32) t0 _ _ L h (by decide) (by decide) (by omega) (by omega) (by omega) ls (by omega) hW hT hM f_x_7  hl

def wLX10_feed_0 : List Nat := [42, 180, 0, 236, 16, 20, 96, 17, 1, 144, 164, 0, 5, 2, 172, 42, 27, 182, 0, 239, 42, 28, 182, 0, 239, 42, 29, 182, 0, 239, 42, 21, 4, 182, 0, 239, 42, 21, 5, 182, 0, 239, 42, 180, 0, 236, 172]
theorem wX10_feed_0 : (cX10_feed.data.toList.map UInt8.toNat).drop 0 = wLX10_feed_0 ++ ([]) := by decide +kernel
theorem dX10_feed_0 : decode cX10_feed 0 = .ok (.aload_n 0, 1) := dq_42 (hz_wg wX10_feed_0 (j := 0) (n := 42) rfl)
theorem dX10_feed_1 : decode cX10_feed 1 = .ok (.getfield 236, 3) := dq_180 (hz_wg wX10_feed_0 (j := 1) (n := 180) rfl) (hz_wg wX10_feed_0 (j := 2) (n := 0) rfl) (hz_wg wX10_feed_0 (j := 3) (n := 236) rfl) rfl
theorem dX10_feed_4 : decode cX10_feed 4 = .ok (.bipush 20, 2) := dq_16 (hz_wg wX10_feed_0 (j := 4) (n := 16) rfl) (hz_wg wX10_feed_0 (j := 5) (n := 20) rfl) (by decide)
theorem dX10_feed_6 : decode cX10_feed 6 = .ok (.iadd, 1) := dq_96 (hz_wg wX10_feed_0 (j := 6) (n := 96) rfl)
theorem dX10_feed_7 : decode cX10_feed 7 = .ok (.sipush 400, 3) := dq_17 (hz_wg wX10_feed_0 (j := 7) (n := 17) rfl) (hz_wg wX10_feed_0 (j := 8) (n := 1) rfl) (hz_wg wX10_feed_0 (j := 9) (n := 144) rfl) (by decide)
theorem dX10_feed_10 : decode cX10_feed 10 = .ok (.if_icmp .le 5, 3) := dq_164 (hz_wg wX10_feed_0 (j := 10) (n := 164) rfl) (hz_wg wX10_feed_0 (j := 11) (n := 0) rfl) (hz_wg wX10_feed_0 (j := 12) (n := 5) rfl) (by decide)
theorem dX10_feed_13 : decode cX10_feed 13 = .ok (.iconst (-1), 1) := dq_2 (hz_wg wX10_feed_0 (j := 13) (n := 2) rfl)
theorem dX10_feed_14 : decode cX10_feed 14 = .ok (.ireturn, 1) := dq_172 (hz_wg wX10_feed_0 (j := 14) (n := 172) rfl)
theorem dX10_feed_15 : decode cX10_feed 15 = .ok (.aload_n 0, 1) := dq_42 (hz_wg wX10_feed_0 (j := 15) (n := 42) rfl)
theorem dX10_feed_16 : decode cX10_feed 16 = .ok (.iload_n 1, 1) := dq_27 (hz_wg wX10_feed_0 (j := 16) (n := 27) rfl)
theorem dX10_feed_17 : decode cX10_feed 17 = .ok (.invokevirtual 239, 3) := dq_182 (hz_wg wX10_feed_0 (j := 17) (n := 182) rfl) (hz_wg wX10_feed_0 (j := 18) (n := 0) rfl) (hz_wg wX10_feed_0 (j := 19) (n := 239) rfl) rfl
theorem dX10_feed_20 : decode cX10_feed 20 = .ok (.aload_n 0, 1) := dq_42 (hz_wg wX10_feed_0 (j := 20) (n := 42) rfl)
theorem dX10_feed_21 : decode cX10_feed 21 = .ok (.iload_n 2, 1) := dq_28 (hz_wg wX10_feed_0 (j := 21) (n := 28) rfl)
theorem dX10_feed_22 : decode cX10_feed 22 = .ok (.invokevirtual 239, 3) := dq_182 (hz_wg wX10_feed_0 (j := 22) (n := 182) rfl) (hz_wg wX10_feed_0 (j := 23) (n := 0) rfl) (hz_wg wX10_feed_0 (j := 24) (n := 239) rfl) rfl
theorem dX10_feed_25 : decode cX10_feed 25 = .ok (.aload_n 0, 1) := dq_42 (hz_wg wX10_feed_0 (j := 25) (n := 42) rfl)
theorem dX10_feed_26 : decode cX10_feed 26 = .ok (.iload_n 3, 1) := dq_29 (hz_wg wX10_feed_0 (j := 26) (n := 29) rfl)
theorem dX10_feed_27 : decode cX10_feed 27 = .ok (.invokevirtual 239, 3) := dq_182 (hz_wg wX10_feed_0 (j := 27) (n := 182) rfl) (hz_wg wX10_feed_0 (j := 28) (n := 0) rfl) (hz_wg wX10_feed_0 (j := 29) (n := 239) rfl) rfl
theorem dX10_feed_30 : decode cX10_feed 30 = .ok (.aload_n 0, 1) := dq_42 (hz_wg wX10_feed_0 (j := 30) (n := 42) rfl)
theorem dX10_feed_31 : decode cX10_feed 31 = .ok (.iload 4, 2) := dq_21 (hz_wg wX10_feed_0 (j := 31) (n := 21) rfl) (hz_wg wX10_feed_0 (j := 32) (n := 4) rfl)
theorem dX10_feed_33 : decode cX10_feed 33 = .ok (.invokevirtual 239, 3) := dq_182 (hz_wg wX10_feed_0 (j := 33) (n := 182) rfl) (hz_wg wX10_feed_0 (j := 34) (n := 0) rfl) (hz_wg wX10_feed_0 (j := 35) (n := 239) rfl) rfl
theorem dX10_feed_36 : decode cX10_feed 36 = .ok (.aload_n 0, 1) := dq_42 (hz_wg wX10_feed_0 (j := 36) (n := 42) rfl)
theorem dX10_feed_37 : decode cX10_feed 37 = .ok (.iload 5, 2) := dq_21 (hz_wg wX10_feed_0 (j := 37) (n := 21) rfl) (hz_wg wX10_feed_0 (j := 38) (n := 5) rfl)
theorem dX10_feed_39 : decode cX10_feed 39 = .ok (.invokevirtual 239, 3) := dq_182 (hz_wg wX10_feed_0 (j := 39) (n := 182) rfl) (hz_wg wX10_feed_0 (j := 40) (n := 0) rfl) (hz_wg wX10_feed_0 (j := 41) (n := 239) rfl) rfl
theorem dX10_feed_42 : decode cX10_feed 42 = .ok (.aload_n 0, 1) := dq_42 (hz_wg wX10_feed_0 (j := 42) (n := 42) rfl)
theorem dX10_feed_43 : decode cX10_feed 43 = .ok (.getfield 236, 3) := dq_180 (hz_wg wX10_feed_0 (j := 43) (n := 180) rfl) (hz_wg wX10_feed_0 (j := 44) (n := 0) rfl) (hz_wg wX10_feed_0 (j := 45) (n := 236) rfl) rfl
theorem dX10_feed_46 : decode cX10_feed 46 = .ok (.ireturn, 1) := dq_172 (hz_wg wX10_feed_0 (j := 46) (n := 172) rfl)
set_option maxHeartbeats 4000000 in
set_option maxRecDepth 100000 in
theorem t_X10_feed (l : Launch) (dC : Nat → ClassId) (dI : Nat → Nat → Nat) (dA : Nat → ClassId) (L : List Nat) (h : hx_h) (sz : Nat) (x : Nat) (i1 : Int32) (i2 : Int32) (i3 : Int32) (i4 : Int32) (i5 : Int32) (hT : hx_T T_tb L h) (gx : hx_g L h x 10)  : Met l yX10_feed (Cond.code yX10_feed cX10_feed 6 (some .int) :: hx_all) ({ frames := 1, cells := 0, slots := 0, locals := 22 }) (va_Pc [.ref x, .int i1, .int i2, .int i3, .int i4, .int i5] (hx_B T_tb (P_ty dA) (dC, dI) vwCl L h sz)) (va_Qi (fun (r : Int32) (u : List Nat × hx_h) => (True) ∧ hx_T T_tb u.1 u.2 ∧ hx_S T_tb [(10, 7), (53, 0)] L h u.1 u.2) (hx_E T_tb (P_ty dA) (dC, dI) vwCl (hx_A L sz)) (hx_A L sz)) 0 0 (hx_A L sz) := by
  refine hx_met (lv := [(0, .ref x), (1, .int i1), (2, .int i2), (3, .int i3), (4, .int i4), (5, .int i5)]) (by decide +kernel) rfl (Nat.le_of_ble_eq_true rfl) rfl ?_
  intro p e s m below meth c hx hb hml hr hlk hts0 hown hin hsz hW ls hl
  have hts : ∀ w ∈ hx_all, w.before _ s = true := fun w hw => hts0 w (List.mem_cons_of_mem _ hw)
  have hown : s.vm.findClass "SmallCourtModel" = some m.cls := hown
  have hM : hx_S T_tb [(10, 7), (53, 0)] L h L h := hx_S.rf
  refine lv_aload_n hx hb dX10_feed_0 rfl (lv_at hl 0 rfl) ?_
  refine hx_geti hx hb hts hC_10 hown hW hT (gx.S hM) tt_10 7 (by decide) rfl kw_1150 ⟨rfl, rfl, rfl⟩ dX10_feed_1 (fun x_1 ex_1 lx_1 ux_1 => ?_)
  have fx_1 := ex_1.symm
  refine lv_bipush (v := 20) hx hb dX10_feed_4 (by decide) ?_
  refine lv_iadd hx hb dX10_feed_6 ?_
  have rg_2 := i32_r x_1
  refine lv_topi (fun x_3 ex_3 => ?_)
  have zx_3 : x_3.toInt = x_1.toInt + 20 := by rw [ex_3]; exact i32_add rfl (by decide) (by omega) (by omega)
  refine lv_sipush (v := 400) hx hb dX10_feed_7 (by decide) ?_
  refine hb_icmp_le (zx := x_3.toInt) (zy := 400) (tgt := 15) hx hb rfl (by decide) dX10_feed_10 (by decide) (fun c_4 => ?_) (fun c_4 => ?_)
  · skip
    refine lv_aload_n hx hb dX10_feed_15 rfl (lv_at hl 0 rfl) ?_
    refine lv_iload_n hx hb dX10_feed_16 rfl (lv_at hl 1 rfl) ?_
    refine hx_gov (hx_runV (As := [.int i1]) (rest := []) ⟨hx, hb, hml, hown, hts⟩ hW (gx.S hM) tt_10 (T := TX10) (N := 98) rfl (t_X10_four l dC dI dA L h s.heap.size x i1 hT (gx.S hM) x_1 fx_1 (by omega)) (cwV 1 hts (hx_gV kw_1453 kw_1450 kw_1452 kw_52 kw_103) rfl rfl rfl (by decide +kernel) ⟨Nat.le_of_ble_eq_true rfl, Nat.le_of_ble_eq_true rfl⟩) rfl hl.1 rfl (Nat.le_of_ble_eq_true rfl) dX10_feed_17 ⟨Nat.le_of_ble_eq_true rfl, Nat.le_of_ble_eq_true rfl⟩) hW (fun L_5 h_6 H locs p_8 hW => ?_)
    obtain ⟨⟨w_10, fw_10, hr_9⟩, hT, hs⟩ := p_8
    replace hT : hx_T T_tb L_5 h_6 := hT
    replace hs : hx_S T_tb [(10, 7), (53, 0)] L h L_5 h_6 := hs
    replace hM := hM.tr (hs.mono (by decide))
    have fw_10 : h_6.2.1 x 7 = w_10 := fw_10
    have bw_10 := hT.gi (gx.S hM) tt_10 (k := 7) rfl
    rw [fw_10] at bw_10
    have bw_10 : 0 ≤ w_10.toInt ∧ w_10.toInt ≤ 400 := bw_10
    refine lv_aload_n hx hb dX10_feed_20 rfl (lv_at hl 0 rfl) ?_
    refine lv_iload_n hx hb dX10_feed_21 rfl (lv_at hl 2 rfl) ?_
    refine hx_gov (hx_runV (As := [.int i2]) (rest := []) ⟨hx, hb, hml, hown, hts⟩ hW (gx.S hM) tt_10 (T := TX10) (N := 98) rfl (t_X10_four l dC dI dA L_5 h_6 H.size x i2 hT (gx.S hM) w_10 fw_10 (by omega)) (cwV 1 hts (hx_gV kw_1453 kw_1450 kw_1452 kw_52 kw_103) rfl rfl rfl (by decide +kernel) ⟨Nat.le_of_ble_eq_true rfl, Nat.le_of_ble_eq_true rfl⟩) rfl hl.1 rfl (Nat.le_of_ble_eq_true rfl) dX10_feed_22 ⟨Nat.le_of_ble_eq_true rfl, Nat.le_of_ble_eq_true rfl⟩) hW (fun L_11 h_12 H locs p_14 hW => ?_)
    obtain ⟨⟨w_16, fw_16, hr_15⟩, hT, hs⟩ := p_14
    replace hT : hx_T T_tb L_11 h_12 := hT
    replace hs : hx_S T_tb [(10, 7), (53, 0)] L_5 h_6 L_11 h_12 := hs
    replace hM := hM.tr (hs.mono (by decide))
    have fw_16 : h_12.2.1 x 7 = w_16 := fw_16
    have bw_16 := hT.gi (gx.S hM) tt_10 (k := 7) rfl
    rw [fw_16] at bw_16
    have bw_16 : 0 ≤ w_16.toInt ∧ w_16.toInt ≤ 400 := bw_16
    refine lv_aload_n hx hb dX10_feed_25 rfl (lv_at hl 0 rfl) ?_
    refine lv_iload_n hx hb dX10_feed_26 rfl (lv_at hl 3 rfl) ?_
    refine hx_gov (hx_runV (As := [.int i3]) (rest := []) ⟨hx, hb, hml, hown, hts⟩ hW (gx.S hM) tt_10 (T := TX10) (N := 98) rfl (t_X10_four l dC dI dA L_11 h_12 H.size x i3 hT (gx.S hM) w_16 fw_16 (by omega)) (cwV 1 hts (hx_gV kw_1453 kw_1450 kw_1452 kw_52 kw_103) rfl rfl rfl (by decide +kernel) ⟨Nat.le_of_ble_eq_true rfl, Nat.le_of_ble_eq_true rfl⟩) rfl hl.1 rfl (Nat.le_of_ble_eq_true rfl) dX10_feed_27 ⟨Nat.le_of_ble_eq_true rfl, Nat.le_of_ble_eq_true rfl⟩) hW (fun L_17 h_18 H locs p_20 hW => ?_)
    obtain ⟨⟨w_22, fw_22, hr_21⟩, hT, hs⟩ := p_20
    replace hT : hx_T T_tb L_17 h_18 := hT
    replace hs : hx_S T_tb [(10, 7), (53, 0)] L_11 h_12 L_17 h_18 := hs
    replace hM := hM.tr (hs.mono (by decide))
    have fw_22 : h_18.2.1 x 7 = w_22 := fw_22
    have bw_22 := hT.gi (gx.S hM) tt_10 (k := 7) rfl
    rw [fw_22] at bw_22
    have bw_22 : 0 ≤ w_22.toInt ∧ w_22.toInt ≤ 400 := bw_22
    refine lv_aload_n hx hb dX10_feed_30 rfl (lv_at hl 0 rfl) ?_
    refine lv_iload hx hb dX10_feed_31 (lv_at hl 4 rfl) ?_
    refine hx_gov (hx_runV (As := [.int i4]) (rest := []) ⟨hx, hb, hml, hown, hts⟩ hW (gx.S hM) tt_10 (T := TX10) (N := 98) rfl (t_X10_four l dC dI dA L_17 h_18 H.size x i4 hT (gx.S hM) w_22 fw_22 (by omega)) (cwV 1 hts (hx_gV kw_1453 kw_1450 kw_1452 kw_52 kw_103) rfl rfl rfl (by decide +kernel) ⟨Nat.le_of_ble_eq_true rfl, Nat.le_of_ble_eq_true rfl⟩) rfl hl.1 rfl (Nat.le_of_ble_eq_true rfl) dX10_feed_33 ⟨Nat.le_of_ble_eq_true rfl, Nat.le_of_ble_eq_true rfl⟩) hW (fun L_23 h_24 H locs p_26 hW => ?_)
    obtain ⟨⟨w_28, fw_28, hr_27⟩, hT, hs⟩ := p_26
    replace hT : hx_T T_tb L_23 h_24 := hT
    replace hs : hx_S T_tb [(10, 7), (53, 0)] L_17 h_18 L_23 h_24 := hs
    replace hM := hM.tr (hs.mono (by decide))
    have fw_28 : h_24.2.1 x 7 = w_28 := fw_28
    have bw_28 := hT.gi (gx.S hM) tt_10 (k := 7) rfl
    rw [fw_28] at bw_28
    have bw_28 : 0 ≤ w_28.toInt ∧ w_28.toInt ≤ 400 := bw_28
    refine lv_aload_n hx hb dX10_feed_36 rfl (lv_at hl 0 rfl) ?_
    refine lv_iload hx hb dX10_feed_37 (lv_at hl 5 rfl) ?_
    refine hx_gov (hx_runV (As := [.int i5]) (rest := []) ⟨hx, hb, hml, hown, hts⟩ hW (gx.S hM) tt_10 (T := TX10) (N := 98) rfl (t_X10_four l dC dI dA L_23 h_24 H.size x i5 hT (gx.S hM) w_28 fw_28 (by omega)) (cwV 1 hts (hx_gV kw_1453 kw_1450 kw_1452 kw_52 kw_103) rfl rfl rfl (by decide +kernel) ⟨Nat.le_of_ble_eq_true rfl, Nat.le_of_ble_eq_true rfl⟩) rfl hl.1 rfl (Nat.le_of_ble_eq_true rfl) dX10_feed_39 ⟨Nat.le_of_ble_eq_true rfl, Nat.le_of_ble_eq_true rfl⟩) hW (fun L_29 h_30 H locs p_32 hW => ?_)
    obtain ⟨⟨w_34, fw_34, hr_33⟩, hT, hs⟩ := p_32
    replace hT : hx_T T_tb L_29 h_30 := hT
    replace hs : hx_S T_tb [(10, 7), (53, 0)] L_23 h_24 L_29 h_30 := hs
    replace hM := hM.tr (hs.mono (by decide))
    have fw_34 : h_30.2.1 x 7 = w_34 := fw_34
    have bw_34 := hT.gi (gx.S hM) tt_10 (k := 7) rfl
    rw [fw_34] at bw_34
    have bw_34 : 0 ≤ w_34.toInt ∧ w_34.toInt ≤ 400 := bw_34
    refine lv_aload_n hx hb dX10_feed_42 rfl (lv_at hl 0 rfl) ?_
    refine hk_geti hx hb hts hC_10 hown hW (gx.S hM) tt_10 7 (by decide) rfl kw_1150 ⟨rfl, rfl, rfl⟩ fw_34 dX10_feed_43 ?_
    exact hx_reti hx hb hr hlk hW ⟨trivial, hT, hM⟩ dX10_feed_46
  · skip
    refine lv_iconst (v := -1) hx hb dX10_feed_13 (by decide) ?_
    exact hx_reti hx hb hr hlk hW ⟨trivial, hT, hM⟩ dX10_feed_14

theorem dX10_end_0 : decode cX10_end 0 = .ok (.iload_n 1, 1) := by decide +kernel
theorem dX10_end_1 : decode cX10_end 1 = .ok (.ifCond .lt 11, 3) := by decide +kernel
theorem dX10_end_4 : decode cX10_end 4 = .ok (.iload_n 1, 1) := by decide +kernel
theorem dX10_end_5 : decode cX10_end 5 = .ok (.aload_n 0, 1) := by decide +kernel
theorem dX10_end_6 : decode cX10_end 6 = .ok (.getfield 236, 3) := by decide +kernel
theorem dX10_end_9 : decode cX10_end 9 = .ok (.if_icmp .le 5, 3) := by decide +kernel
theorem dX10_end_12 : decode cX10_end 12 = .ok (.iconst (-1), 1) := by decide +kernel
theorem dX10_end_13 : decode cX10_end 13 = .ok (.ireturn, 1) := by decide +kernel
theorem dX10_end_14 : decode cX10_end 14 = .ok (.aload_n 0, 1) := by decide +kernel
theorem dX10_end_15 : decode cX10_end 15 = .ok (.iload_n 1, 1) := by decide +kernel
theorem dX10_end_16 : decode cX10_end 16 = .ok (.putfield 236, 3) := by decide +kernel
theorem dX10_end_19 : decode cX10_end 19 = .ok (.iload_n 1, 1) := by decide +kernel
theorem dX10_end_20 : decode cX10_end 20 = .ok (.ireturn, 1) := by decide +kernel
set_option maxHeartbeats 4000000 in
set_option maxRecDepth 100000 in
theorem t_X10_end (l : Launch) (dC : Nat → ClassId) (dI : Nat → Nat → Nat) (dA : Nat → ClassId) (L : List Nat) (h : hx_h) (sz : Nat) (x : Nat) (i1 : Int32) (hT : hx_T T_tb L h) (gx : hx_g L h x 10)  : Met l yX10_end (Cond.code yX10_end cX10_end 2 (some .int) :: hx_all) ({ frames := 0, cells := 0, slots := 0, locals := 0 }) (va_Pc [.ref x, .int i1] (hx_B T_tb (P_ty dA) (dC, dI) vwCl L h sz)) (va_Qi (fun (r : Int32) (u : List Nat × hx_h) => (True) ∧ hx_T T_tb u.1 u.2 ∧ hx_S T_tb [(10, 7)] L h u.1 u.2) (hx_E T_tb (P_ty dA) (dC, dI) vwCl (hx_A L sz)) (hx_A L sz)) 0 0 (hx_A L sz) := by
  refine hx_met (lv := [(0, .ref x), (1, .int i1)]) (by decide +kernel) rfl (Nat.le_of_ble_eq_true rfl) rfl ?_
  intro p e s m below meth c hx hb hml hr hlk hts0 hown hin hsz hW ls hl
  have hts : ∀ w ∈ hx_all, w.before _ s = true := fun w hw => hts0 w (List.mem_cons_of_mem _ hw)
  have hown : s.vm.findClass "SmallCourtModel" = some m.cls := hown
  have hM : hx_S T_tb [(10, 7)] L h L h := hx_S.rf
  refine lv_iload_n hx hb dX10_end_0 rfl (lv_at hl 1 rfl) ?_
  refine hb_if_lt (zx := i1.toInt) (tgt := 12) hx hb rfl dX10_end_1 (by decide) (fun c_1 => ?_) (fun c_1 => ?_)
  · skip
    refine lv_iconst (v := -1) hx hb dX10_end_12 (by decide) ?_
    exact hx_reti hx hb hr hlk hW ⟨trivial, hT, hM⟩ dX10_end_13
  · skip
    refine lv_iload_n hx hb dX10_end_4 rfl (lv_at hl 1 rfl) ?_
    refine lv_aload_n hx hb dX10_end_5 rfl (lv_at hl 0 rfl) ?_
    refine hx_geti hx hb hts hC_10 hown hW hT (gx.S hM) tt_10 7 (by decide) rfl kw_1150 ⟨rfl, rfl, rfl⟩ dX10_end_6 (fun x_2 ex_2 lx_2 ux_2 => ?_)
    have fx_2 := ex_2.symm
    refine hb_icmp_le (zx := i1.toInt) (zy := x_2.toInt) (tgt := 14) hx hb rfl rfl dX10_end_9 (by decide) (fun c_3 => ?_) (fun c_3 => ?_)
    · skip
      refine lv_aload_n hx hb dX10_end_14 rfl (lv_at hl 0 rfl) ?_
      refine lv_iload_n hx hb dX10_end_15 rfl (lv_at hl 1 rfl) ?_
      refine hx_puti hx hb hts hC_10 hown hW hT (hx_S.rf (M := [(10, 7)])) (gx.S hM) tt_10 7 (by decide) rfl kw_1150 ⟨rfl, rfl, rfl⟩ rfl (x := i1) ⟨by omega, by omega⟩ rfl rfl rfl (List.mem_singleton.mpr rfl) dX10_end_16 (fun H locs h_4 eh_4 hW hT hs => ?_)
      replace hM := hM.tr (hs.mono (by decide))
      have f_5 : h_4.2.1 x 7 = i1 := by rw [eh_4]; exact hx_pi_at _ _ _ _
      refine lv_iload_n hx hb dX10_end_19 rfl (lv_at hl 1 rfl) ?_
      exact hx_reti hx hb hr hlk hW ⟨trivial, hT, hM⟩ dX10_end_20
    · skip
      refine lv_iconst (v := -1) hx hb dX10_end_12 (by decide) ?_
      exact hx_reti hx hb hr hlk hW ⟨trivial, hT, hM⟩ dX10_end_13

theorem dX10_fails_0 : decode cX10_fails 0 = .ok (.aload_n 0, 1) := by decide +kernel
theorem dX10_fails_1 : decode cX10_fails 1 = .ok (.getfield 242, 3) := by decide +kernel
theorem dX10_fails_4 : decode cX10_fails 4 = .ok (.ifCond .ne 15, 3) := by decide +kernel
theorem dX10_fails_7 : decode cX10_fails 7 = .ok (.aload_n 0, 1) := by decide +kernel
theorem dX10_fails_8 : decode cX10_fails 8 = .ok (.iconst 1, 1) := by decide +kernel
theorem dX10_fails_9 : decode cX10_fails 9 = .ok (.bipush 8, 2) := by decide +kernel
theorem dX10_fails_11 : decode cX10_fails 11 = .ok (.iload_n 2, 1) := by decide +kernel
theorem dX10_fails_12 : decode cX10_fails 12 = .ok (.imul, 1) := by decide +kernel
theorem dX10_fails_13 : decode cX10_fails 13 = .ok (.iadd, 1) := by decide +kernel
theorem dX10_fails_14 : decode cX10_fails 14 = .ok (.iload_n 1, 1) := by decide +kernel
theorem dX10_fails_15 : decode cX10_fails 15 = .ok (.iadd, 1) := by decide +kernel
theorem dX10_fails_16 : decode cX10_fails 16 = .ok (.putfield 242, 3) := by decide +kernel
theorem dX10_fails_19 : decode cX10_fails 19 = .ok (.iconst 0, 1) := by decide +kernel
theorem dX10_fails_20 : decode cX10_fails 20 = .ok (.ireturn, 1) := by decide +kernel
set_option maxHeartbeats 4000000 in
set_option maxRecDepth 100000 in
theorem t_X10_fails (l : Launch) (dC : Nat → ClassId) (dI : Nat → Nat → Nat) (dA : Nat → ClassId) (L : List Nat) (h : hx_h) (sz : Nat) (x : Nat) (i1 : Int32) (i2 : Int32) (hT : hx_T T_tb L h) (gx : hx_g L h x 10)  : Met l yX10_fails (Cond.code yX10_fails cX10_fails 3 (some .boolean) :: hx_all) ({ frames := 0, cells := 0, slots := 0, locals := 0 }) (va_Pc [.ref x, .int i1, .int i2] (hx_B T_tb (P_ty dA) (dC, dI) vwCl L h sz)) (va_Qi (fun (r : Int32) (u : List Nat × hx_h) => (r.toInt = 0) ∧ hx_T T_tb u.1 u.2 ∧ hx_S T_tb [(10, 9)] L h u.1 u.2) (hx_E T_tb (P_ty dA) (dC, dI) vwCl (hx_A L sz)) (hx_A L sz)) 0 0 (hx_A L sz) := by
  refine hx_met (lv := [(0, .ref x), (1, .int i1), (2, .int i2)]) (by decide +kernel) rfl (Nat.le_of_ble_eq_true rfl) rfl ?_
  intro p e s m below meth c hx hb hml hr hlk hts0 hown hin hsz hW ls hl
  have hts : ∀ w ∈ hx_all, w.before _ s = true := fun w hw => hts0 w (List.mem_cons_of_mem _ hw)
  have hown : s.vm.findClass "SmallCourtModel" = some m.cls := hown
  have hM : hx_S T_tb [(10, 9)] L h L h := hx_S.rf
  refine lv_aload_n hx hb dX10_fails_0 rfl (lv_at hl 0 rfl) ?_
  refine hx_geti hx hb hts hC_10 hown hW hT (gx.S hM) tt_10 9 (by decide) rfl kw_1152 ⟨rfl, rfl, rfl⟩ dX10_fails_1 (fun x_1 ex_1 lx_1 ux_1 => ?_)
  have fx_1 := ex_1.symm
  refine hb_if_ne (zx := x_1.toInt) (tgt := 19) hx hb rfl dX10_fails_4 (by decide) (fun c_2 => ?_) (fun c_2 => ?_)
  · skip
    refine lv_iconst (v := 0) hx hb dX10_fails_19 (by decide) ?_
    exact hx_retz hx hb hr rfl hlk hW ⟨(by decide), hT, hM⟩ dX10_fails_20
  · skip
    refine lv_aload_n hx hb dX10_fails_7 rfl (lv_at hl 0 rfl) ?_
    refine lv_iconst (v := 1) hx hb dX10_fails_8 (by decide) ?_
    refine lv_bipush (v := 8) hx hb dX10_fails_9 (by decide) ?_
    refine lv_iload_n hx hb dX10_fails_11 rfl (lv_at hl 2 rfl) ?_
    refine lv_imul hx hb dX10_fails_12 ?_
    refine lv_topi (fun x_3 ex_3 => ?_)
    refine lv_iadd hx hb dX10_fails_13 ?_
    have rg_4 := i32_r x_3
    refine lv_topi (fun x_5 ex_5 => ?_)
    refine lv_iload_n hx hb dX10_fails_14 rfl (lv_at hl 1 rfl) ?_
    refine lv_iadd hx hb dX10_fails_15 ?_
    have rg_6 := i32_r x_5
    have rg_7 := i32_r i1
    refine lv_topi (fun x_8 ex_8 => ?_)
    refine hx_puti hx hb hts hC_10 hown hW hT (hx_S.rf (M := [(10, 9)])) (gx.S hM) tt_10 9 (by decide) rfl kw_1152 ⟨rfl, rfl, rfl⟩ rfl (x := x_8) (i32_r _) rfl rfl rfl (List.mem_singleton.mpr rfl) dX10_fails_16 (fun H locs h_9 eh_9 hW hT hs => ?_)
    replace hM := hM.tr (hs.mono (by decide))
    have f_10 : h_9.2.1 x 9 = x_8 := by rw [eh_9]; exact hx_pi_at _ _ _ _
    refine lv_iconst (v := 0) hx hb dX10_fails_19 (by decide) ?_
    exact hx_retz hx hb hr rfl hlk hW ⟨(by decide), hT, hM⟩ dX10_fails_20

theorem dX10_isFact_0 : decode cX10_isFact 0 = .ok (.iload_n 0, 1) := by decide +kernel
theorem dX10_isFact_1 : decode cX10_isFact 1 = .ok (.iconst 3, 1) := by decide +kernel
theorem dX10_isFact_2 : decode cX10_isFact 2 = .ok (.bipush 10, 2) := by decide +kernel
theorem dX10_isFact_4 : decode cX10_isFact 4 = .ok (.invokestatic 228, 3) := by decide +kernel
theorem dX10_isFact_7 : decode cX10_isFact 7 = .ok (.ireturn, 1) := by decide +kernel
set_option maxHeartbeats 4000000 in
set_option maxRecDepth 100000 in
theorem t_X10_isFact (l : Launch) (dC : Nat → ClassId) (dI : Nat → Nat → Nat) (dA : Nat → ClassId) (L : List Nat) (h : hx_h) (sz : Nat) (i1 : Int32) (hT : hx_T T_tb L h)   : Met l yX10_isFact (Cond.code yX10_isFact cX10_isFact 1 (some .boolean) :: hx_all) ({ frames := 1, cells := 0, slots := 0, locals := 22 }) (va_Pc [.int i1] (hx_B T_tb (P_ty dA) (dC, dI) vwCl L h sz)) (va_Qi (fun (r : Int32) (u : List Nat × hx_h) => ((r.toInt = 0 ∧ (i1.toInt < 3 ∨ 10 < i1.toInt)) ∨ (r.toInt = 1 ∧ 3 ≤ i1.toInt ∧ i1.toInt ≤ 10)) ∧ hx_T T_tb u.1 u.2 ∧ hx_S T_tb [] L h u.1 u.2) (hx_E T_tb (P_ty dA) (dC, dI) vwCl (hx_A L sz)) (hx_A L sz)) 0 0 (hx_A L sz) := by
  refine hx_met (lv := [(0, .int i1)]) (by decide +kernel) rfl (Nat.le_of_ble_eq_true rfl) rfl ?_
  intro p e s m below meth c hx hb hml hr hlk hts0 hown hin hsz hW ls hl
  have hts : ∀ w ∈ hx_all, w.before _ s = true := fun w hw => hts0 w (List.mem_cons_of_mem _ hw)
  have hown : s.vm.findClass "SmallCourtModel" = some m.cls := hown
  have hM : hx_S T_tb [] L h L h := hx_S.rf
  refine lv_iload_n hx hb dX10_isFact_0 rfl (lv_at hl 0 rfl) ?_
  refine lv_iconst (v := 3) hx hb dX10_isFact_1 (by decide) ?_
  refine lv_bipush (v := 10) hx hb dX10_isFact_2 (by decide) ?_
  have zc_10 : (10 : Int32).toInt = 10 := by decide
  have zc_3 : (3 : Int32).toInt = 3 := by decide
  refine hx_goi (hx_runS (As := [.int i1, .int (3 : Int32), .int (10 : Int32)]) (rest := []) ⟨hx, hb, hml, hown, hts⟩ hW (t_X10_in l dC dI dA L h s.heap.size i1 (3 : Int32) (10 : Int32) hT) (va_cwS 3 hts (hx_gS kw_1445 kw_1443 kw_1444 kw_103) rfl rfl rfl (by decide +kernel) ⟨Nat.le_of_ble_eq_true rfl, Nat.le_of_ble_eq_true rfl⟩) rfl hl.1 rfl (Nat.le_of_ble_eq_true rfl) dX10_isFact_4 ⟨Nat.le_of_ble_eq_true rfl, Nat.le_of_ble_eq_true rfl⟩) hW (fun r_3 L_1 h_2 H locs p_4 hW => ?_)
  obtain ⟨hr_5, hT, hs⟩ := p_4
  replace hT : hx_T T_tb L_1 h_2 := hT
  replace hs : hx_S T_tb [] L h L_1 h_2 := hs
  replace hM := hM.tr (hs.mono (by decide))
  exact hx_retz hx hb hr (hx_nar01 (by omega)) hlk hW ⟨(by first | omega | (refine ⟨?_, ?_⟩ <;> omega)), hT, hM⟩ dX10_isFact_7

def wLX10_deep_0 : List Nat := [3, 60, 3, 61, 28, 42, 180, 1, 9, 162, 0, 38, 27, 42, 180, 0, 32, 28, 46, 5, 159, 0, 14, 42, 180, 0, 32, 28, 46, 16, 100, 160, 0, 7, 4, 167, 0, 4, 3, 96, 60, 132, 2, 1, 167, 255, 216, 27, 172]
theorem wX10_deep_0 : (cX10_deep.data.toList.map UInt8.toNat).drop 0 = wLX10_deep_0 ++ ([]) := by decide +kernel
theorem dX10_deep_0 : decode cX10_deep 0 = .ok (.iconst 0, 1) := dq_3 (hz_wg wX10_deep_0 (j := 0) (n := 3) rfl)
theorem dX10_deep_1 : decode cX10_deep 1 = .ok (.istore_n 1, 1) := dq_60 (hz_wg wX10_deep_0 (j := 1) (n := 60) rfl)
theorem dX10_deep_2 : decode cX10_deep 2 = .ok (.iconst 0, 1) := dq_3 (hz_wg wX10_deep_0 (j := 2) (n := 3) rfl)
theorem dX10_deep_3 : decode cX10_deep 3 = .ok (.istore_n 2, 1) := dq_61 (hz_wg wX10_deep_0 (j := 3) (n := 61) rfl)
theorem dX10_deep_4 : decode cX10_deep 4 = .ok (.iload_n 2, 1) := dq_28 (hz_wg wX10_deep_0 (j := 4) (n := 28) rfl)
theorem dX10_deep_5 : decode cX10_deep 5 = .ok (.aload_n 0, 1) := dq_42 (hz_wg wX10_deep_0 (j := 5) (n := 42) rfl)
theorem dX10_deep_6 : decode cX10_deep 6 = .ok (.getfield 265, 3) := dq_180 (hz_wg wX10_deep_0 (j := 6) (n := 180) rfl) (hz_wg wX10_deep_0 (j := 7) (n := 1) rfl) (hz_wg wX10_deep_0 (j := 8) (n := 9) rfl) rfl
theorem dX10_deep_9 : decode cX10_deep 9 = .ok (.if_icmp .ge 38, 3) := dq_162 (hz_wg wX10_deep_0 (j := 9) (n := 162) rfl) (hz_wg wX10_deep_0 (j := 10) (n := 0) rfl) (hz_wg wX10_deep_0 (j := 11) (n := 38) rfl) (by decide)
theorem dX10_deep_12 : decode cX10_deep 12 = .ok (.iload_n 1, 1) := dq_27 (hz_wg wX10_deep_0 (j := 12) (n := 27) rfl)
theorem dX10_deep_13 : decode cX10_deep 13 = .ok (.aload_n 0, 1) := dq_42 (hz_wg wX10_deep_0 (j := 13) (n := 42) rfl)
theorem dX10_deep_14 : decode cX10_deep 14 = .ok (.getfield 32, 3) := dq_180 (hz_wg wX10_deep_0 (j := 14) (n := 180) rfl) (hz_wg wX10_deep_0 (j := 15) (n := 0) rfl) (hz_wg wX10_deep_0 (j := 16) (n := 32) rfl) rfl
theorem dX10_deep_17 : decode cX10_deep 17 = .ok (.iload_n 2, 1) := dq_28 (hz_wg wX10_deep_0 (j := 17) (n := 28) rfl)
theorem dX10_deep_18 : decode cX10_deep 18 = .ok (.iaload, 1) := dq_46 (hz_wg wX10_deep_0 (j := 18) (n := 46) rfl)
theorem dX10_deep_19 : decode cX10_deep 19 = .ok (.iconst 2, 1) := dq_5 (hz_wg wX10_deep_0 (j := 19) (n := 5) rfl)
theorem dX10_deep_20 : decode cX10_deep 20 = .ok (.if_icmp .eq 14, 3) := dq_159 (hz_wg wX10_deep_0 (j := 20) (n := 159) rfl) (hz_wg wX10_deep_0 (j := 21) (n := 0) rfl) (hz_wg wX10_deep_0 (j := 22) (n := 14) rfl) (by decide)
theorem dX10_deep_23 : decode cX10_deep 23 = .ok (.aload_n 0, 1) := dq_42 (hz_wg wX10_deep_0 (j := 23) (n := 42) rfl)
theorem dX10_deep_24 : decode cX10_deep 24 = .ok (.getfield 32, 3) := dq_180 (hz_wg wX10_deep_0 (j := 24) (n := 180) rfl) (hz_wg wX10_deep_0 (j := 25) (n := 0) rfl) (hz_wg wX10_deep_0 (j := 26) (n := 32) rfl) rfl
theorem dX10_deep_27 : decode cX10_deep 27 = .ok (.iload_n 2, 1) := dq_28 (hz_wg wX10_deep_0 (j := 27) (n := 28) rfl)
theorem dX10_deep_28 : decode cX10_deep 28 = .ok (.iaload, 1) := dq_46 (hz_wg wX10_deep_0 (j := 28) (n := 46) rfl)
theorem dX10_deep_29 : decode cX10_deep 29 = .ok (.bipush 100, 2) := dq_16 (hz_wg wX10_deep_0 (j := 29) (n := 16) rfl) (hz_wg wX10_deep_0 (j := 30) (n := 100) rfl) (by decide)
theorem dX10_deep_31 : decode cX10_deep 31 = .ok (.if_icmp .ne 7, 3) := dq_160 (hz_wg wX10_deep_0 (j := 31) (n := 160) rfl) (hz_wg wX10_deep_0 (j := 32) (n := 0) rfl) (hz_wg wX10_deep_0 (j := 33) (n := 7) rfl) (by decide)
theorem dX10_deep_34 : decode cX10_deep 34 = .ok (.iconst 1, 1) := dq_4 (hz_wg wX10_deep_0 (j := 34) (n := 4) rfl)
theorem dX10_deep_35 : decode cX10_deep 35 = .ok (.goto 4, 3) := dq_167 (hz_wg wX10_deep_0 (j := 35) (n := 167) rfl) (hz_wg wX10_deep_0 (j := 36) (n := 0) rfl) (hz_wg wX10_deep_0 (j := 37) (n := 4) rfl) (by decide)
theorem dX10_deep_38 : decode cX10_deep 38 = .ok (.iconst 0, 1) := dq_3 (hz_wg wX10_deep_0 (j := 38) (n := 3) rfl)
theorem dX10_deep_39 : decode cX10_deep 39 = .ok (.iadd, 1) := dq_96 (hz_wg wX10_deep_0 (j := 39) (n := 96) rfl)
theorem dX10_deep_40 : decode cX10_deep 40 = .ok (.istore_n 1, 1) := dq_60 (hz_wg wX10_deep_0 (j := 40) (n := 60) rfl)
theorem dX10_deep_41 : decode cX10_deep 41 = .ok (.iinc 2 1, 3) := dq_132 (hz_wg wX10_deep_0 (j := 41) (n := 132) rfl) (hz_wg wX10_deep_0 (j := 42) (n := 2) rfl) (hz_wg wX10_deep_0 (j := 43) (n := 1) rfl) (by decide)
theorem dX10_deep_44 : decode cX10_deep 44 = .ok (.goto (-40), 3) := dq_167 (hz_wg wX10_deep_0 (j := 44) (n := 167) rfl) (hz_wg wX10_deep_0 (j := 45) (n := 255) rfl) (hz_wg wX10_deep_0 (j := 46) (n := 216) rfl) (by decide)
theorem dX10_deep_47 : decode cX10_deep 47 = .ok (.iload_n 1, 1) := dq_27 (hz_wg wX10_deep_0 (j := 47) (n := 27) rfl)
theorem dX10_deep_48 : decode cX10_deep 48 = .ok (.ireturn, 1) := dq_172 (hz_wg wX10_deep_0 (j := 48) (n := 172) rfl)