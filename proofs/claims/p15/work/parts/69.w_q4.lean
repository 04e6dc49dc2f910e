
set_option maxHeartbeats 4000000 in
set_option maxRecDepth 100000 in
theorem t_X10_without_v (l : Launch) (dC : Nat → ClassId) (dI : Nat → Nat → Nat) (dA : Nat → ClassId) (L : List Nat) (h : hx_h) (sz : Nat) (i1 : Int32) (hT : hx_T T_tb L h)  (hi1 : 0 ≤ i1.toInt ∧ i1.toInt ≤ 12) : Met l yX10_without (Cond.code yX10_without cX10_without 1 (some .int) :: hx_all) ({ frames := 0, cells := 0, slots := 0, locals := 0 }) (va_Pc [.int i1] (hx_B T_tb (P_ty dA) (dC, dI) vwCl L h sz)) (va_Qi (fun (r : Int32) (u : List Nat × hx_h) => (r.toInt = hv_W0 i1.toInt.toNat ∧ (0 ≤ r.toInt ∧ r.toInt ≤ 480 ∧ ((i1.toInt = 2 → 1 ≤ r.toInt) ∧ (9 ≤ i1.toInt → r.toInt = 0)))) ∧ hx_T T_tb u.1 u.2 ∧ hx_S T_tb [] L h u.1 u.2) (hx_E T_tb (P_ty dA) (dC, dI) vwCl (hx_A L sz)) (hx_A L sz)) 0 0 (hx_A L sz) := by
  refine hx_met (lv := [(0, .int i1)]) (by decide +kernel) rfl (Nat.le_of_ble_eq_true rfl) rfl ?_
  intro p e s m below meth c hx hb hml hr hlk hts0 hown hin hsz hW ls hl
  have hts : ∀ w ∈ hx_all, w.before _ s = true := fun w hw => hts0 w (List.mem_cons_of_mem _ hw)
  have hown : s.vm.findClass "SmallCourtModel" = some m.cls := hown
  have hM : hx_S T_tb [] L h L h := hx_S.rf
  refine lv_iload_n hx hb dX10_without_0 rfl (lv_at hl 0 rfl) ?_
  rcases (show (i1.toInt < 0 ∨ 8 < i1.toInt) ∨ i1.toInt = 0 ∨ i1.toInt = 1 ∨ i1.toInt = 2 ∨ i1.toInt = 3 ∨ i1.toInt = 4 ∨ i1.toInt = 5 ∨ i1.toInt = 6 ∨ i1.toInt = 7 ∨ i1.toInt = 8 from by omega) with c_1 | c_1 | c_1 | c_1 | c_1 | c_1 | c_1 | c_1 | c_1 | c_1
  · refine lv_tableOut (tgt := 77) hx hb dX10_without_1 c_1 (by decide) ?_
    refine lv_iconst (v := 0) hx hb dX10_without_77 (by decide) ?_
    exact hx_reti hx hb hr hlk hW ⟨⟨hv_W0_e (show (0 : Int32).toInt = 0 from by decide) (by omega), (by have zr : (0 : Int32).toInt = 0 := (by decide); refine ⟨?_, ?_, ?_⟩ <;> omega)⟩, hT, hM⟩ dX10_without_78
  · refine lv_tableIn (off := 51) (tgt := 52) hx hb dX10_without_1 (by omega) (by omega) (by rw [c_1]; rfl) (by decide) ?_
    refine lv_sipush (v := 480) hx hb dX10_without_52 (by decide) ?_
    exact hx_reti hx hb hr hlk hW ⟨⟨hv_W0_e (show (480 : Int32).toInt = 480 from by decide) (by omega), (by have zr : (480 : Int32).toInt = 480 := (by decide); refine ⟨?_, ?_, ?_⟩ <;> omega)⟩, hT, hM⟩ dX10_without_55
  · refine lv_tableIn (off := 55) (tgt := 56) hx hb dX10_without_1 (by omega) (by omega) (by rw [c_1]; rfl) (by decide) ?_
    refine lv_bipush (v := 30) hx hb dX10_without_56 (by decide) ?_
    exact hx_reti hx hb hr hlk hW ⟨⟨hv_W0_e (show (30 : Int32).toInt = 30 from by decide) (by omega), (by have zr : (30 : Int32).toInt = 30 := (by decide); refine ⟨?_, ?_, ?_⟩ <;> omega)⟩, hT, hM⟩ dX10_without_58
  · refine lv_tableIn (off := 58) (tgt := 59) hx hb dX10_without_1 (by omega) (by omega) (by rw [c_1]; rfl) (by decide) ?_
    refine lv_bipush (v := 12) hx hb dX10_without_59 (by decide) ?_
    exact hx_reti hx hb hr hlk hW ⟨⟨hv_W0_e (show (12 : Int32).toInt = 12 from by decide) (by omega), (by have zr : (12 : Int32).toInt = 12 := (by decide); refine ⟨?_, ?_, ?_⟩ <;> omega)⟩, hT, hM⟩ dX10_without_61
  · refine lv_tableIn (off := 61) (tgt := 62) hx hb dX10_without_1 (by omega) (by omega) (by rw [c_1]; rfl) (by decide) ?_
    refine lv_bipush (v := 60) hx hb dX10_without_62 (by decide) ?_
    exact hx_reti hx hb hr hlk hW ⟨⟨hv_W0_e (show (60 : Int32).toInt = 60 from by decide) (by omega), (by have zr : (60 : Int32).toInt = 60 := (by decide); refine ⟨?_, ?_, ?_⟩ <;> omega)⟩, hT, hM⟩ dX10_without_64
  · refine lv_tableIn (off := 64) (tgt := 65) hx hb dX10_without_1 (by omega) (by omega) (by rw [c_1]; rfl) (by decide) ?_
    refine lv_iconst (v := 2) hx hb dX10_without_65 (by decide) ?_
    exact hx_reti hx hb hr hlk hW ⟨⟨hv_W0_e (show (2 : Int32).toInt = 2 from by decide) (by omega), (by have zr : (2 : Int32).toInt = 2 := (by decide); refine ⟨?_, ?_, ?_⟩ <;> omega)⟩, hT, hM⟩ dX10_without_66
  · refine lv_tableIn (off := 66) (tgt := 67) hx hb dX10_without_1 (by omega) (by omega) (by rw [c_1]; rfl) (by decide) ?_
    refine lv_iconst (v := 4) hx hb dX10_without_67 (by decide) ?_
    exact hx_reti hx hb hr hlk hW ⟨⟨hv_W0_e (show (4 : Int32).toInt = 4 from by decide) (by omega), (by have zr : (4 : Int32).toInt = 4 := (by decide); refine ⟨?_, ?_, ?_⟩ <;> omega)⟩, hT, hM⟩ dX10_without_68
  · refine lv_tableIn (off := 68) (tgt := 69) hx hb dX10_without_1 (by omega) (by omega) (by rw [c_1]; rfl) (by decide) ?_
    refine lv_iconst (v := 1) hx hb dX10_without_69 (by decide) ?_
    exact hx_reti hx hb hr hlk hW ⟨⟨hv_W0_e (show (1 : Int32).toInt = 1 from by decide) (by omega), (by have zr : (1 : Int32).toInt = 1 := (by decide); refine ⟨?_, ?_, ?_⟩ <;> omega)⟩, hT, hM⟩ dX10_without_70
  · refine lv_tableIn (off := 70) (tgt := 71) hx hb dX10_without_1 (by omega) (by omega) (by rw [c_1]; rfl) (by decide) ?_
    refine lv_bipush (v := 40) hx hb dX10_without_71 (by decide) ?_
    exact hx_reti hx hb hr hlk hW ⟨⟨hv_W0_e (show (40 : Int32).toInt = 40 from by decide) (by omega), (by have zr : (40 : Int32).toInt = 40 := (by decide); refine ⟨?_, ?_, ?_⟩ <;> omega)⟩, hT, hM⟩ dX10_without_73
  · refine lv_tableIn (off := 73) (tgt := 74) hx hb dX10_without_1 (by omega) (by omega) (by rw [c_1]; rfl) (by decide) ?_
    refine lv_bipush (v := 21) hx hb dX10_without_74 (by decide) ?_
    exact hx_reti hx hb hr hlk hW ⟨⟨hv_W0_e (show (21 : Int32).toInt = 21 from by decide) (by omega), (by have zr : (21 : Int32).toInt = 21 := (by decide); refine ⟨?_, ?_, ?_⟩ <;> omega)⟩, hT, hM⟩ dX10_without_76


set_option maxHeartbeats 4000000 in
set_option maxRecDepth 100000 in
theorem t_X10_withoutProof_v (l : Launch) (dC : Nat → ClassId) (dI : Nat → Nat → Nat) (dA : Nat → ClassId) (L : List Nat) (h : hx_h) (sz : Nat) (x : Nat) (hT : hx_T T_tb L h) (gx : hx_g L h x 10) (qs : Nat) (gqs : hx_g L h qs 55) (f_x_15 : h.2.2 x 15 = some qs) (sf : Nat → Int32) (af_qs : h.2.1 qs = sf) (st0 : Int32) (f_x_14 : h.2.1 x 14 = st0) (hst : st0.toInt = 0) : Met l yX10_withoutProof (Cond.code yX10_withoutProof cX10_withoutProof 1 none :: hx_all) ({ frames := 1, cells := 0, slots := 0, locals := 22 }) (va_Pc [.ref x] (hx_B T_tb (P_ty dA) (dC, dI) vwCl L h sz)) (va_Qv (fun (u : List Nat × hx_h) => (∃ (st1 : Int32) (sf1 : Nat → Int32), u.2.2.1 x 14 = st1 ∧ u.2.2.1 qs = sf1 ∧ (hx_rp sf1 st1.toInt.toNat = some 1 ∧ hv_ls sf1 st1.toInt.toNat = hv_o0.map hv_rc)) ∧ hx_T T_tb u.1 u.2 ∧ hx_S T_tb [(10, 14), (55, 0)] L h u.1 u.2) (hx_E T_tb (P_ty dA) (dC, dI) vwCl (hx_A L sz)) (hx_A L sz)) 0 0 (hx_A L sz) := by
  refine hx_met (lv := [(0, .ref x)]) (by decide +kernel) rfl (Nat.le_of_ble_eq_true rfl) rfl ?_
  intro p e s m below meth c hx hb hml hr hlk hts0 hown hin hsz hW ls hl
  have hts : ∀ w ∈ hx_all, w.before _ s = true := fun w hw => hts0 w (List.mem_cons_of_mem _ hw)
  have hown : s.vm.findClass "SmallCourtModel" = some m.cls := hown
  have hM : hx_S T_tb [(10, 14), (55, 0)] L h L h := hx_S.rf
  have b_st0 := hT.gi gx tt_10 (k := 14) rfl
  rw [f_x_14] at b_st0
  have b_st0 : 0 ≤ st0.toInt ∧ st0.toInt ≤ 128 := b_st0
  refine lv_aload_n hx hb dX10_withoutProof_0 rfl (lv_at hl 0 rfl) ?_
  refine lv_iconst (v := 0) hx hb dX10_withoutProof_1 (by decide) ?_
  refine lv_iconst (v := 2) hx hb dX10_withoutProof_2 (by decide) ?_
  refine lv_iconst (v := 1) hx hb dX10_withoutProof_3 (by decide) ?_
  have zc_1 : (1 : Int32).toInt = 1 := by decide
  have zc_2 : (2 : Int32).toInt = 2 := by decide
  have zc_0 : (0 : Int32).toInt = 0 := by decide
  refine hx_goi (hx_runS (As := [.int (0 : Int32), .int (2 : Int32), .int (1 : Int32)]) (rest := [.ref x]) ⟨hx, hb, hml, hown, hts⟩ hW (t_X10_compareOf_v l dC dI dA L h s.heap.size (0 : Int32) (2 : Int32) (1 : Int32) hT (by decide) (by decide) (by decide)) (va_cwS 3 hts (hx_gS kw_1132 kw_1130 kw_1131 kw_103) rfl rfl rfl (by decide +kernel) ⟨Nat.le_of_ble_eq_true rfl, Nat.le_of_ble_eq_true rfl⟩) rfl hl.1 rfl (Nat.le_of_ble_eq_true rfl) dX10_withoutProof_4 ⟨Nat.le_of_ble_eq_true rfl, Nat.le_of_ble_eq_true rfl⟩) hW (fun r_3 L_1 h_2 H locs p_4 hW => ?_)
  obtain ⟨hr_5, hT, hs⟩ := p_4
  have hT : hx_T T_tb L_1 h_2 := hT
  have hs : hx_S T_tb [] L h L_1 h_2 := hs
  have f_x_15 := (hs.o gx trivial rfl).2.trans f_x_15
  have f_x_14 := (hs.o gx trivial rfl).1.trans f_x_14
  have af_qs : h_2.2.1 qs = sf := (funext fun j => (hs.a gqs rfl j).1).trans af_qs
  have hM := hM.tr (hs.mono (by decide))
  have gx := gx.S hs
  have gqs := gqs.S hs
  refine hx_gov (hx_runV (As := [.int r_3]) (rest := []) ⟨hx, hb, hml, hown, hts⟩ hW gx tt_10 (T := TX10) (N := 98) rfl (t_X10_writes l dC dI dA L_1 h_2 H.size x r_3 hT gx qs gqs f_x_15 sf af_qs st0 f_x_14 (by omega)) (cwV 1 hts (hx_gV kw_1138 kw_1135 kw_1137 kw_50 kw_103) rfl rfl rfl (by decide +kernel) ⟨Nat.le_of_ble_eq_true rfl, Nat.le_of_ble_eq_true rfl⟩) rfl hl.1 rfl (Nat.le_of_ble_eq_true rfl) dX10_withoutProof_7 ⟨Nat.le_of_ble_eq_true rfl, Nat.le_of_ble_eq_true rfl⟩) hW (fun L_6 h_7 H locs p_9 hW => ?_)
  obtain ⟨⟨w_11, w_12, fw_11, fw_12, hr_10⟩, hT, hs⟩ := p_9
  have hT : hx_T T_tb L_6 h_7 := hT
  have hs : hx_S T_tb [(10, 14), (55, 0)] L_1 h_2 L_6 h_7 := hs
  have f_x_15 := (hs.o gx trivial rfl).2.trans f_x_15
  have hM := hM.tr (hs.mono (by decide))
  have gx := gx.S hs
  have gqs := gqs.S hs
  have fw_11 : h_7.2.1 x 14 = w_11 := fw_11
  have bw_11 := hT.gi gx tt_10 (k := 14) rfl
  rw [fw_11] at bw_11
  have bw_11 : 0 ≤ w_11.toInt ∧ w_11.toInt ≤ 128 := bw_11
  have fw_12 : h_7.2.1 qs = w_12 := fw_12
  refine lv_aload_n hx hb dX10_withoutProof_10 rfl (lv_at hl 0 rfl) ?_
  refine lv_iconst (v := 1) hx hb dX10_withoutProof_11 (by decide) ?_
  refine lv_iconst (v := 2) hx hb dX10_withoutProof_12 (by decide) ?_
  refine lv_iconst (v := 0) hx hb dX10_withoutProof_13 (by decide) ?_
  refine hx_goi (hx_runS (As := [.int (1 : Int32), .int (2 : Int32), .int (0 : Int32)]) (rest := [.ref x]) ⟨hx, hb, hml, hown, hts⟩ hW (t_X10_compareOf_v l dC dI dA L_6 h_7 H.size (1 : Int32) (2 : Int32) (0 : Int32) hT (by decide) (by decide) (by decide)) (va_cwS 3 hts (hx_gS kw_1132 kw_1130 kw_1131 kw_103) rfl rfl rfl (by decide +kernel) ⟨Nat.le_of_ble_eq_true rfl, Nat.le_of_ble_eq_true rfl⟩) rfl hl.1 rfl (Nat.le_of_ble_eq_true rfl) dX10_withoutProof_14 ⟨Nat.le_of_ble_eq_true rfl, Nat.le_of_ble_eq_true rfl⟩) hW (fun r_15 L_13 h_14 H locs p_16 hW => ?_)
  obtain ⟨hr_17, hT, hs⟩ := p_16
  have hT : hx_T T_tb L_13 h_14 := hT
  have hs : hx_S T_tb [] L_6 h_7 L_13 h_14 := hs
  have f_x_15 := (hs.o gx trivial rfl).2.trans f_x_15
  have fw_11 := (hs.o gx trivial rfl).1.trans fw_11
  have fw_12 : h_14.2.1 qs = w_12 := (funext fun j => (hs.a gqs rfl j).1).trans fw_12
  have hM := hM.tr (hs.mono (by decide))
  have gx := gx.S hs
  have gqs := gqs.S hs
  refine hx_gov (hx_runV (As := [.int r_15]) (rest := []) ⟨hx, hb, hml, hown, hts⟩ hW gx tt_10 (T := TX10) (N := 98) rfl (t_X10_writes l dC dI dA L_13 h_14 H.size x r_15 hT gx qs gqs f_x_15 w_12 fw_12 w_11 fw_11 (by omega)) (cwV 1 hts (hx_gV kw_1138 kw_1135 kw_1137 kw_50 kw_103) rfl rfl rfl (by decide +kernel) ⟨Nat.le_of_ble_eq_true rfl, Nat.le_of_ble_eq_true rfl⟩) rfl hl.1 rfl (Nat.le_of_ble_eq_true rfl) dX10_withoutProof_17 ⟨Nat.le_of_ble_eq_true rfl, Nat.le_of_ble_eq_true rfl⟩) hW (fun L_18 h_19 H locs p_21 hW => ?_)
  obtain ⟨⟨w_23, w_24, fw_23, fw_24, hr_22⟩, hT, hs⟩ := p_21
  have hT : hx_T T_tb L_18 h_19 := hT
  have hs : hx_S T_tb [(10, 14), (55, 0)] L_13 h_14 L_18 h_19 := hs
  have f_x_15 := (hs.o gx trivial rfl).2.trans f_x_15
  have hM := hM.tr (hs.mono (by decide))
  have gx := gx.S hs
  have gqs := gqs.S hs
  have fw_23 : h_19.2.1 x 14 = w_23 := fw_23
  have bw_23 := hT.gi gx tt_10 (k := 14) rfl
  rw [fw_23] at bw_23
  have bw_23 : 0 ≤ w_23.toInt ∧ w_23.toInt ≤ 128 := bw_23
  have fw_24 : h_19.2.1 qs = w_24 := fw_24
  refine lv_aload_n hx hb dX10_withoutProof_20 rfl (lv_at hl 0 rfl) ?_
  refine lv_iconst (v := 1) hx hb dX10_withoutProof_21 (by decide) ?_
  refine hx_gov (hx_runV (As := [.int (1 : Int32)]) (rest := []) ⟨hx, hb, hml, hown, hts⟩ hW gx tt_10 (T := TX10) (N := 98) rfl (t_X10_writes l dC dI dA L_18 h_19 H.size x (1 : Int32) hT gx qs gqs f_x_15 w_24 fw_24 w_23 fw_23 (by omega)) (cwV 1 hts (hx_gV kw_1138 kw_1135 kw_1137 kw_50 kw_103) rfl rfl rfl (by decide +kernel) ⟨Nat.le_of_ble_eq_true rfl, Nat.le_of_ble_eq_true rfl⟩) rfl hl.1 rfl (Nat.le_of_ble_eq_true rfl) dX10_withoutProof_22 ⟨Nat.le_of_ble_eq_true rfl, Nat.le_of_ble_eq_true rfl⟩) hW (fun L_25 h_26 H locs p_28 hW => ?_)
  obtain ⟨⟨w_30, w_31, fw_30, fw_31, hr_29⟩, hT, hs⟩ := p_28
  have hT : hx_T T_tb L_25 h_26 := hT
  have hs : hx_S T_tb [(10, 14), (55, 0)] L_18 h_19 L_25 h_26 := hs
  have f_x_15 := (hs.o gx trivial rfl).2.trans f_x_15
  have hM := hM.tr (hs.mono (by decide))
  have gx := gx.S hs
  have gqs := gqs.S hs
  have fw_30 : h_26.2.1 x 14 = w_30 := fw_30
  have bw_30 := hT.gi gx tt_10 (k := 14) rfl
  rw [fw_30] at bw_30
  have bw_30 : 0 ≤ w_30.toInt ∧ w_30.toInt ≤ 128 := bw_30
  have fw_31 : h_26.2.1 qs = w_31 := fw_31
  exact hx_retv hx hb hr hlk hW ⟨⟨w_30, w_31, fw_30, fw_31, (by have q0 : hv_ls sf st0.toInt.toNat = ([] : List hv_tok).map hv_rc := (by rw [show st0.toInt.toNat = 0 by omega]; rfl); have q1 := hv_ls_u (t := (1, 2, 1)) q0 (hr_5.2.trans (by decide)) (show w_11.toInt.toNat = st0.toInt.toNat + 1 by omega) hr_10.2; have q2 := hv_ls_u (t := (2, 2, 0)) q1 (hr_17.2.trans (by decide)) (show w_23.toInt.toNat = w_11.toInt.toNat + 1 by omega) hr_22.2; have q3 := hv_ls_u (t := (0, 1, 0)) q2 (show (1 : Int32).toInt = hv_rc (0, 1, 0) from by decide) (show w_30.toInt.toNat = w_23.toInt.toNat + 1 by omega) hr_29.2; exact ⟨hx_rp_wo hst hr_10 hr_22 hr_29 hr_5.1 hr_17.1 (by decide), q3⟩)⟩, hT, hM⟩ dX10_withoutProof_25

