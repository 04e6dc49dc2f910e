
set_option maxHeartbeats 4000000 in
set_option maxRecDepth 100000 in
theorem t_X6_tellOnce_v (l : Launch) (dC : Nat → ClassId) (dI : Nat → Nat → Nat) (dA : Nat → ClassId) (L : List Nat) (h : hx_h) (sz : Nat) (x : Nat) (i1 : Int32) (i2 : Int32) (hT : hx_T T_tb L h) (gx : hx_g L h x 6) (to0 : Int32) (f_x_4 : h.2.1 x 4 = to0) (ft0 : Int32) (f_x_3 : h.2.1 x 3 = ft0) (hi1 : 1 ≤ i1.toInt ∧ i1.toInt ≤ 14) (hi2 : 0 ≤ i2.toInt ∧ i2.toInt ≤ 402) : Met l yX6_tellOnce (Cond.code yX6_tellOnce cX6_tellOnce 4 (some .boolean) :: hx_all) ({ frames := 1, cells := 0, slots := 0, locals := 22 }) (va_Pc [.ref x, .int i1, .int i2] (hx_B T_tb (P_ty dA) (dC, dI) vwCl L h sz)) (va_Qi (fun (r : Int32) (u : List Nat × hx_h) => (∃ (to1 : Int32) (ft1 : Int32), u.2.2.1 x 4 = to1 ∧ u.2.2.1 x 3 = ft1 ∧ ((r.toInt = 1 ∧ ft1.toInt = ft0.toInt ∧ hv_sC to0 (i1.toInt - 1).toNat = false ∧ hv_sC to1 = hv_ub (hv_sC to0) (i1.toInt - 1).toNat) ∨ (r.toInt = 0 ∧ hv_sC to0 (i1.toInt - 1).toNat = true ∧ ft1.toInt = 3 + 8 * i2.toInt))) ∧ hx_T T_tb u.1 u.2 ∧ hx_S T_tb [(6, 3), (6, 4)] L h u.1 u.2) (hx_E T_tb (P_ty dA) (dC, dI) vwCl (hx_A L sz)) (hx_A L sz)) 0 0 (hx_A L sz) := by
  refine hx_met (lv := [(0, .ref x), (1, .int i1), (2, .int i2)]) (by decide +kernel) rfl (Nat.le_of_ble_eq_true rfl) rfl ?_
  intro p e s m below meth c hx hb hml hr hlk hts0 hown hin hsz hW ls hl
  have hts : ∀ w ∈ hx_all, w.before _ s = true := fun w hw => hts0 w (List.mem_cons_of_mem _ hw)
  have hown : s.vm.findClass "SmallCourt$Reader" = some m.cls := hown
  have hM : hx_S T_tb [(6, 3), (6, 4)] L h L h := hx_S.rf
  have b_to0 := hT.gi gx tt_6 (k := 4) rfl
  rw [f_x_4] at b_to0
  have b_to0 : -2147483648 ≤ to0.toInt ∧ to0.toInt ≤ 2147483647 := b_to0
  have b_ft0 := hT.gi gx tt_6 (k := 3) rfl
  rw [f_x_3] at b_ft0
  have b_ft0 : -2147483648 ≤ ft0.toInt ∧ ft0.toInt ≤ 2147483647 := b_ft0
  refine lv_iconst (v := 1) hx hb dX6_tellOnce_0 (by decide) ?_
  refine lv_iload_n hx hb dX6_tellOnce_1 rfl (lv_at hl 1 rfl) ?_
  refine lv_ishl hx hb dX6_tellOnce_2 ?_
  refine lv_topi (fun x_1 ex_1 => ?_)
  refine lv_istore_n (lv' := [(3, .int x_1), (0, .ref x), (1, .int i1), (2, .int i2)]) hx hb dX6_tellOnce_3 rfl hl (by decide) rfl (fun ls hl => ?_)
  refine lv_aload_n hx hb dX6_tellOnce_4 rfl (lv_at hl 1 rfl) ?_
  refine hk_geti hx hb hts hC_6 hown hW (gx.S hM) tt_6 4 (by decide) rfl kw_129 ⟨rfl, rfl, rfl⟩ f_x_4 dX6_tellOnce_5 ?_
  refine lv_iload_n hx hb dX6_tellOnce_8 rfl (lv_at hl 0 rfl) ?_
  refine lv_iand hx hb dX6_tellOnce_9 ?_
  refine lv_topi (fun x_2 ex_2 => ?_)
  refine hb_if_eq (zx := x_2.toInt) (tgt := 20) hx hb rfl dX6_tellOnce_10 (by decide) (fun c_3 => ?_) (fun c_3 => ?_)
  · skip
    refine lv_aload_n hx hb dX6_tellOnce_20 rfl (lv_at hl 1 rfl) ?_
    refine lv_dup hx hb dX6_tellOnce_21 rfl ?_
    refine hk_geti hx hb hts hC_6 hown hW (gx.S hM) tt_6 4 (by decide) rfl kw_129 ⟨rfl, rfl, rfl⟩ f_x_4 dX6_tellOnce_22 ?_
    refine lv_iload_n hx hb dX6_tellOnce_25 rfl (lv_at hl 0 rfl) ?_
    refine lv_ior hx hb dX6_tellOnce_26 ?_
    refine lv_topi (fun x_4 ex_4 => ?_)
    refine hx_puti hx hb hts hC_6 hown hW hT (hx_S.rf (M := [(6, 4)])) (gx.S hM) tt_6 4 (by decide) rfl kw_129 ⟨rfl, rfl, rfl⟩ rfl (x := x_4) (i32_r _) rfl rfl rfl (List.mem_singleton.mpr rfl) dX6_tellOnce_27 (fun H locs h_5 eh_5 hW hT hs => ?_)
    replace f_x_3 := (hs.o (gx.S hM) trivial rfl).1.trans f_x_3
    replace hM := hM.tr (hs.mono (by decide))
    have f_6 : h_5.2.1 x 4 = x_4 := by rw [eh_5]; exact hx_pi_at _ _ _ _
    refine lv_iconst (v := 1) hx hb dX6_tellOnce_30 (by decide) ?_
    exact hx_retz hx hb hr rfl hlk hW ⟨⟨x_4, ft0, f_6, f_x_3, (Or.inl ⟨by decide, rfl, (by rw [hv_sC_a (by omega) (by omega)]; cases h9 : to0.toBitVec.getLsbD i1.toInt.toNat with | false => rfl | true => exact absurd (by omega) ((hv_b_and (by omega) (by omega) ex_1 ex_2).mpr h9)), hv_sC_u (by omega) (by omega) ex_1 ex_4⟩)⟩, hT, hM⟩ dX6_tellOnce_31
  · skip
    refine lv_aload_n hx hb dX6_tellOnce_13 rfl (lv_at hl 1 rfl) ?_
    refine lv_iload_n hx hb dX6_tellOnce_14 rfl (lv_at hl 3 rfl) ?_
    refine lv_iconst (v := 2) hx hb dX6_tellOnce_15 (by decide) ?_
    have zc_2 : (2 : Int32).toInt = 2 := by decide
    refine hx_goi (hx_runV (As := [.int i2, .int (2 : Int32)]) (rest := []) ⟨hx, hb, hml, hown, hts⟩ hW (gx.S hM) tt_6 (T := TX6) (N := 7) rfl (t_X6_refuse_v l dC dI dA L h s.heap.size x i2 (2 : Int32) hT (gx.S hM) ⟨by omega, by omega⟩ (by decide)) (cwV 2 hts (hx_gV kw_527 kw_524 kw_526 kw_6 kw_95) rfl rfl rfl (by decide +kernel) ⟨Nat.le_of_ble_eq_true rfl, Nat.le_of_ble_eq_true rfl⟩) rfl hl.1 rfl (Nat.le_of_ble_eq_true rfl) dX6_tellOnce_16 ⟨Nat.le_of_ble_eq_true rfl, Nat.le_of_ble_eq_true rfl⟩) hW (fun r_9 L_7 h_8 H locs p_10 hW => ?_)
    obtain ⟨⟨w_12, fw_12, hr_11⟩, hT, hs⟩ := p_10
    replace hT : hx_T T_tb L_7 h_8 := hT
    replace hs : hx_S T_tb [(6, 3)] L h L_7 h_8 := hs
    replace f_x_4 := (hs.o (gx.S hM) trivial rfl).1.trans f_x_4
    replace hM := hM.tr (hs.mono (by decide))
    have fw_12 : h_8.2.1 x 3 = w_12 := fw_12
    have bw_12 := hT.gi (gx.S hM) tt_6 (k := 3) rfl
    rw [fw_12] at bw_12
    have bw_12 : -2147483648 ≤ w_12.toInt ∧ w_12.toInt ≤ 2147483647 := bw_12
    exact hx_retz hx hb hr (hx_nar01 (by omega)) hlk hW ⟨⟨to0, w_12, f_x_4, fw_12, (Or.inr ⟨by omega, (by rw [hv_sC_a (by omega) (by omega)]; exact (hv_b_and (by omega) (by omega) ex_1 ex_2).mp (by omega)), by omega⟩)⟩, hT, hM⟩ dX6_tellOnce_19


set_option maxHeartbeats 4000000 in
set_option maxRecDepth 100000 in
theorem t_X6_readTold_v (l : Launch) (dC : Nat → ClassId) (dI : Nat → Nat → Nat) (dA : Nat → ClassId) (L : List Nat) (h : hx_h) (sz : Nat) (b0 : hx_z) (x : Nat) (i1 : Int32) (hT : hx_T T_tb L h) (gx : hx_g L h x 6) (qt : Nat) (gqt : hx_g L h qt 42) (f_x_0 : h.2.2 x 0 = some qt) (qi : Nat) (gqi : hx_g L h qi 129) (f_x_6 : h.2.2 x 6 = some qi) (qd : Nat) (gqd : hx_g L h qd 127) (f_qi_2 : h.2.2 qi 2 = some qd) (tf : Nat → Int32) (af_qt : h.2.1 qt = tf) (df : Nat → Int32) (af_qd : h.2.1 qd = df) (at0 : Int32) (f_x_2 : h.2.1 x 2 = at0) (ln0 : Int32) (f_x_1 : h.2.1 x 1 = ln0) (ft0 : Int32) (f_x_3 : h.2.1 x 3 = ft0) (hi1 : 1 ≤ i1.toInt ∧ i1.toInt ≤ 13) (hA : at0.toInt ≤ ln0.toInt) : Met l yX6_readTold (Cond.code yX6_readTold cX6_readTold 4 (some .boolean) :: hx_all) ({ frames := 2, cells := 0, slots := 0, locals := 43 }) (va_Pc [.ref x, .int i1] (hx_BX T_tb (P_ty dA) (dC, dI) vwCl L h sz b0)) (va_Qi (fun (r : Int32) (u : List Nat × hx_h) => (∃ (at1 : Int32) (ft1 : Int32) (df1 : Nat → Int32), u.2.2.1 x 2 = at1 ∧ u.2.2.1 x 3 = ft1 ∧ u.2.2.1 qd = df1 ∧ (hv_N (hv_num tf ln0.toInt.toNat at0.toInt.toNat (hv_lo (i1.toInt - 1).toNat) (hv_hi (i1.toInt - 1).toNat)) r.toInt ft1.toInt ft0.toInt at1.toInt df df1 i1.toNatClampNeg ∧ (r.toInt = 1 → at0.toInt < at1.toInt ∧ at1.toInt ≤ ln0.toInt))) ∧ hx_T T_tb u.1 u.2 ∧ hx_S T_tb [(6, 2), (6, 3), (127, 0)] L h u.1 u.2) (hx_E T_tb (P_ty dA) (dC, dI) vwCl (hx_A L sz)) (hx_A L sz)) 0 0 (hx_A L sz) := by
  refine hx_metX (lv := [(0, .ref x), (1, .int i1)]) (by decide +kernel) rfl (Nat.le_of_ble_eq_true rfl) rfl ?_
  intro p e s m below meth c hx hb hml hr hlk hts0 hown hin hsz hW hZ ls hl
  have hts : ∀ w ∈ hx_all, w.before _ s = true := fun w hw => hts0 w (List.mem_cons_of_mem _ hw)
  have hown : s.vm.findClass "SmallCourt$Reader" = some m.cls := hown
  have hM : hx_S T_tb [(6, 2), (6, 3), (127, 0)] L h L h := hx_S.rf
  obtain ⟨zLT, zLA, zMT, zMA, zCS, zSF, zVS, zVR⟩ := hZ.2.2.2.2.2.2
  have b_at0 := hT.gi gx tt_6 (k := 2) rfl
  rw [f_x_2] at b_at0
  have b_at0 : 0 ≤ at0.toInt ∧ at0.toInt ≤ 402 := b_at0
  have b_ln0 := hT.gi gx tt_6 (k := 1) rfl
  rw [f_x_1] at b_ln0
  have b_ln0 : 0 ≤ ln0.toInt ∧ ln0.toInt ≤ 400 := b_ln0
  have b_ft0 := hT.gi gx tt_6 (k := 3) rfl
  rw [f_x_3] at b_ft0
  have b_ft0 : -2147483648 ≤ ft0.toInt ∧ ft0.toInt ≤ 2147483647 := b_ft0
  refine lv_aload_n hx hb dX6_readTold_0 rfl (lv_at hl 0 rfl) ?_
  refine hx_gov (hx_runV (As := []) (rest := []) ⟨hx, hb, hml, hown, hts⟩ hW (gx.S hM) tt_6 (T := TX6) (N := 7) rfl (t_X6_skipBlanks_v l dC dI dA L h s.heap.size x hT (gx.S hM) qt (gqt.S hM) ((hM.o gx trivial rfl).2.trans f_x_0) tf (hx_afS hM gqt rfl af_qt) at0 f_x_2 ln0 ((hM.o gx trivial rfl).1.trans f_x_1) (by omega)) (cwV 0 hts (hx_gV kw_458 kw_455 kw_457 kw_1 kw_95) rfl rfl rfl (by decide +kernel) ⟨Nat.le_of_ble_eq_true rfl, Nat.le_of_ble_eq_true rfl⟩) rfl hl.1 rfl (Nat.le_of_ble_eq_true rfl) dX6_readTold_1 ⟨Nat.le_of_ble_eq_true rfl, Nat.le_of_ble_eq_true rfl⟩) hW (fun L_1 h_2 H locs p_4 hW => ?_)
  obtain ⟨⟨w_6, fw_6, hr_5⟩, hT, hs⟩ := p_4
  replace hT : hx_T T_tb L_1 h_2 := hT
  replace hs : hx_S T_tb [(6, 2)] L h L_1 h_2 := hs
  replace f_x_3 := (hs.o (gx.S hM) trivial rfl).1.trans f_x_3
  replace af_qd : h_2.2.1 qd = df := (funext fun j => (hs.a (gqd.S hM) rfl j).1).trans af_qd
  replace hM := hM.tr (hs.mono (by decide))
  have fw_6 : h_2.2.1 x 2 = w_6 := fw_6
  have bw_6 := hT.gi (gx.S hM) tt_6 (k := 2) rfl
  rw [fw_6] at bw_6
  have bw_6 : 0 ≤ w_6.toInt ∧ w_6.toInt ≤ 402 := bw_6
  have ek_7 : w_6.toInt.toNat = hv_sk tf ln0.toInt.toNat at0.toInt.toNat := by omega
  refine lv_aload_n hx hb dX6_readTold_4 rfl (lv_at hl 0 rfl) ?_
  refine hk_geti hx hb hts hC_6 hown hW (gx.S hM) tt_6 2 (by decide) rfl kw_127 ⟨rfl, rfl, rfl⟩ fw_6 dX6_readTold_5 ?_
  refine lv_istore_n (lv' := [(2, .int w_6), (0, .ref x), (1, .int i1)]) hx hb dX6_readTold_8 rfl hl (by decide) rfl (fun ls hl => ?_)
  refine lv_aload_n hx hb dX6_readTold_9 rfl (lv_at hl 1 rfl) ?_
  refine lv_aload_n hx hb dX6_readTold_10 rfl (lv_at hl 1 rfl) ?_
  refine hk_geti hx hb hts hC_6 hown hW (gx.S hM) tt_6 2 (by decide) rfl kw_127 ⟨rfl, rfl, rfl⟩ fw_6 dX6_readTold_11 ?_
  refine hx_goi (hx_runV (As := [.int w_6]) (rest := []) ⟨hx, hb, hml, hown, hts⟩ hW (gx.S hM) tt_6 (T := TX6) (N := 7) rfl (t_X6_isDigit_v l dC dI dA L_1 h_2 H.size x w_6 hT (gx.S hM) qt (gqt.S hM) ((hM.o gx trivial rfl).2.trans f_x_0) tf (hx_afS hM gqt rfl af_qt) ln0 ((hM.o gx trivial rfl).1.trans f_x_1) (by omega)) (cwV 1 hts (hx_gV kw_544 kw_541 kw_543 kw_10 kw_95) rfl rfl rfl (by decide +kernel) ⟨Nat.le_of_ble_eq_true rfl, Nat.le_of_ble_eq_true rfl⟩) rfl hl.1 rfl (Nat.le_of_ble_eq_true rfl) dX6_readTold_14 ⟨Nat.le_of_ble_eq_true rfl, Nat.le_of_ble_eq_true rfl⟩) hW (fun r_10 L_8 h_9 H locs p_11 hW => ?_)
  obtain ⟨hr_12, hT, hs⟩ := p_11
  replace hT : hx_T T_tb L_8 h_9 := hT
  replace hs : hx_S T_tb [] L_1 h_2 L_8 h_9 := hs
  replace f_x_3 := (hs.o (gx.S hM) trivial rfl).1.trans f_x_3
  replace fw_6 := (hs.o (gx.S hM) trivial rfl).1.trans fw_6
  replace af_qd : h_9.2.1 qd = df := (funext fun j => (hs.a (gqd.S hM) rfl j).1).trans af_qd
  replace hM := hM.tr (hs.mono (by decide))
  refine hb_if_ne (zx := r_10.toInt) (tgt := 27) hx hb rfl dX6_readTold_17 (by decide) (fun c_13 => ?_) (fun c_13 => ?_)
  · skip
    refine lv_aload_n hx hb dX6_readTold_27 rfl (lv_at hl 1 rfl) ?_
    refine hx_goi (hx_runV (As := []) (rest := []) ⟨hx, hb, hml, hown, hts⟩ hW (gx.S hM) tt_6 (T := TX6) (N := 7) rfl (t_X6_readNumber_v l dC dI dA L_8 h_9 H.size x hT (gx.S hM) qt (gqt.S hM) ((hM.o gx trivial rfl).2.trans f_x_0) tf (hx_afS hM gqt rfl af_qt) w_6 fw_6 ln0 ((hM.o gx trivial rfl).1.trans f_x_1) (by omega)) (cwV 0 hts (hx_gV kw_548 kw_545 kw_547 kw_11 kw_95) rfl rfl rfl (by decide +kernel) ⟨Nat.le_of_ble_eq_true rfl, Nat.le_of_ble_eq_true rfl⟩) rfl hl.1 rfl (Nat.le_of_ble_eq_true rfl) dX6_readTold_28 ⟨Nat.le_of_ble_eq_true rfl, Nat.le_of_ble_eq_true rfl⟩) hW (fun r_16 L_14 h_15 H locs p_17 hW => ?_)
    obtain ⟨⟨w_19, fw_19, hr_18⟩, hT, hs⟩ := p_17
    replace hT : hx_T T_tb L_14 h_15 := hT
    replace hs : hx_S T_tb [(6, 2)] L_8 h_9 L_14 h_15 := hs
    replace f_x_3 := (hs.o (gx.S hM) trivial rfl).1.trans f_x_3
    replace af_qd : h_15.2.1 qd = df := (funext fun j => (hs.a (gqd.S hM) rfl j).1).trans af_qd
    replace hM := hM.tr (hs.mono (by decide))
    have fw_19 : h_15.2.1 x 2 = w_19 := fw_19
    have bw_19 := hT.gi (gx.S hM) tt_6 (k := 2) rfl
    rw [fw_19] at bw_19
    have bw_19 : 0 ≤ w_19.toInt ∧ w_19.toInt ≤ 402 := bw_19
    refine lv_istore_n (lv' := [(3, .int r_16), (2, .int w_6), (0, .ref x), (1, .int i1)]) hx hb dX6_readTold_31 rfl hl (by decide) rfl (fun ls hl => ?_)
    refine lv_iload_n hx hb dX6_readTold_32 rfl (lv_at hl 0 rfl) ?_
    refine va_getsN hx hb zLT hW.2.2.2.1 hown (va_Nw.use rfl (hZ.1 _ (List.mem_of_getElem? (i := 7) rfl))) (fun _ h9 => h9) dX6_readTold_33 ?_
    refine lv_iload_n hx hb dX6_readTold_36 rfl (lv_at hl 3 rfl) ?_
    refine va_ti hx hb zLA hW.2.2.2.1 (vp_in_iff.mpr ⟨by omega, by omega⟩) rfl dX6_readTold_37 ?_
    refine lv_topi (fun x_20 ex_20 => ?_)
    have hlo : x_20.toInt = hv_lo (i1.toInt - 1).toNat := by have h9 := hv_ltv i1.toNatClampNeg (by unfold Int32.toNatClampNeg; omega) (by unfold Int32.toNatClampNeg; omega) x_20 (congrArg Value.int ex_20); rw [h9]; congr 1; unfold Int32.toNatClampNeg; omega
    refine hb_icmp_lt (zx := r_16.toInt) (zy := x_20.toInt) (tgt := 50) hx hb rfl rfl dX6_readTold_38 (by decide) (fun c_21 => ?_) (fun c_21 => ?_)
    · skip
      refine lv_aload_n hx hb dX6_readTold_50 rfl (lv_at hl 2 rfl) ?_
      refine lv_iload_n hx hb dX6_readTold_51 rfl (lv_at hl 1 rfl) ?_
      refine lv_iconst (v := 1) hx hb dX6_readTold_52 (by decide) ?_
      have zc_1 : (1 : Int32).toInt = 1 := by decide
      refine hx_goi (hx_runV (As := [.int w_6, .int (1 : Int32)]) (rest := []) ⟨hx, hb, hml, hown, hts⟩ hW (gx.S hM) tt_6 (T := TX6) (N := 7) rfl (t_X6_refuse_v l dC dI dA L_14 h_15 H.size x w_6 (1 : Int32) hT (gx.S hM) ⟨by omega, by omega⟩ (by decide)) (cwV 2 hts (hx_gV kw_527 kw_524 kw_526 kw_6 kw_95) rfl rfl rfl (by decide +kernel) ⟨Nat.le_of_ble_eq_true rfl, Nat.le_of_ble_eq_true rfl⟩) rfl hl.1 rfl (Nat.le_of_ble_eq_true rfl) dX6_readTold_53 ⟨Nat.le_of_ble_eq_true rfl, Nat.le_of_ble_eq_true rfl⟩) hW (fun r_24 L_22 h_23 H locs p_25 hW => ?_)
      obtain ⟨⟨w_27, fw_27, hr_26⟩, hT, hs⟩ := p_25
      replace hT : hx_T T_tb L_22 h_23 := hT
      replace hs : hx_S T_tb [(6, 3)] L_14 h_15 L_22 h_23 := hs
      replace fw_19 := (hs.o (gx.S hM) trivial rfl).1.trans fw_19
      replace af_qd : h_23.2.1 qd = df := (funext fun j => (hs.a (gqd.S hM) rfl j).1).trans af_qd
      replace hM := hM.tr (hs.mono (by decide))
      have fw_27 : h_23.2.1 x 3 = w_27 := fw_27
      have bw_27 := hT.gi (gx.S hM) tt_6 (k := 3) rfl
      rw [fw_27] at bw_27
      have bw_27 : -2147483648 ≤ w_27.toInt ∧ w_27.toInt ≤ 2147483647 := bw_27
      have hlb := hv_lo_b (i1.toInt - 1).toNat
      exact hx_retz hx hb hr (hx_nar01 (by omega)) hlk hW ⟨⟨w_19, w_27, df, fw_19, fw_27, af_qd, ⟨(Or.inr ⟨by omega, by omega, (hv_num_2 (by rw [← ek_7]; rcases hr_12 with z | z; exact ⟨by omega, z.2.2⟩; exfalso; omega) (by rw [← ek_7]; omega)).trans (by rw [← ek_7]; congr 1; omega)⟩), by omega⟩⟩, hT, hM⟩ dX6_readTold_56
    · skip
      refine lv_iload_n hx hb dX6_readTold_41 rfl (lv_at hl 0 rfl) ?_
      refine va_getsN hx hb zMT hW.2.2.2.1 hown (va_Nw.use rfl (hZ.1 _ (List.mem_of_getElem? (i := 8) rfl))) (fun _ h9 => h9) dX6_readTold_42 ?_
      refine lv_iload_n hx hb dX6_readTold_45 rfl (lv_at hl 3 rfl) ?_
      refine va_ti hx hb zMA hW.2.2.2.1 (vp_in_iff.mpr ⟨by omega, by omega⟩) rfl dX6_readTold_46 ?_
      refine lv_topi (fun x_28 ex_28 => ?_)
      have hhi : x_28.toInt = hv_hi (i1.toInt - 1).toNat := by have h9 := hv_mtv i1.toNatClampNeg (by unfold Int32.toNatClampNeg; omega) (by unfold Int32.toNatClampNeg; omega) x_28 (congrArg Value.int ex_28); rw [h9]; congr 1; unfold Int32.toNatClampNeg; omega
      refine hb_icmp_le (zx := r_16.toInt) (zy := x_28.toInt) (tgt := 57) hx hb rfl rfl dX6_readTold_47 (by decide) (fun c_29 => ?_) (fun c_29 => ?_)
      · skip
        refine lv_aload_n hx hb dX6_readTold_57 rfl (lv_at hl 2 rfl) ?_
        refine hk_getr hx hb hts hC_6 hown hW (gx.S hM) tt_6 6 (by decide) rfl kw_131 ⟨rfl, rfl, rfl⟩ ((hM.o gx trivial rfl).2.trans f_x_6) dX6_readTold_58 ?_
        refine hk_getr hx hb hts hC_0 hown hW (gqi.S hM) tt_129 2 (by decide) rfl kw_171 ⟨rfl, rfl, rfl⟩ ((hM.o gqi trivial rfl).2.trans f_qi_2) dX6_readTold_61 ?_
        refine lv_iload_n hx hb dX6_readTold_64 rfl (lv_at hl 3 rfl) ?_
        refine lv_iload_n hx hb dX6_readTold_65 rfl (lv_at hl 0 rfl) ?_
        have af_qdO := af_qd
        refine hx_iast hx hb hW hT (hx_S.rf (M := [(127, 0)])) (gqd.S hM) tt_127 rfl ⟨by omega, by omega⟩ rfl (i32_r _) (List.mem_singleton.mpr rfl) dX6_readTold_66 (fun H locs h_30 eh_30 hW hT hs => ?_)
        replace f_x_3 := (hs.o (gx.S hM) trivial rfl).1.trans f_x_3
        replace fw_19 := (hs.o (gx.S hM) trivial rfl).1.trans fw_19
        replace hM := hM.tr (hs.mono (by decide))
        obtain ⟨fa_31, dfa_31⟩ : ∃ g : Nat → Int32, g = hx_up df i1.toNatClampNeg r_16 := ⟨_, rfl⟩
        have nfa_31 : h_30.2.1 qd = fa_31 := by rw [eh_30, dfa_31, ← af_qdO]; exact hx_pi_fun _ _ _ _
        refine lv_iconst (v := 1) hx hb dX6_readTold_67 (by decide) ?_
        have hlb := hv_lo_b (i1.toInt - 1).toNat
        have hdg9 : w_6.toInt.toNat < hv_de tf ln0.toInt.toNat w_6.toInt.toNat ∧ hv_de tf ln0.toInt.toNat w_6.toInt.toNat ≤ ln0.toInt.toNat := hv_de_gt (by omega) (by rcases hr_12 with z | z; exact z.2.2; exfalso; omega)
        exact hx_retz hx hb hr rfl hlk hW ⟨⟨w_19, ft0, fa_31, fw_19, f_x_3, nfa_31, ⟨(Or.inl ⟨by decide, rfl, r_16, (hv_num_3 (by rw [← ek_7]; rcases hr_12 with z | z; exact ⟨by omega, z.2.2⟩; exfalso; omega) (by rw [← ek_7]; omega) (by rw [← ek_7]; omega) (by rw [← ek_7]; omega)).trans (by rw [← ek_7, show hv_dv tf w_6.toInt.toNat (hv_de tf ln0.toInt.toNat w_6.toInt.toNat - w_6.toInt.toNat) = r_16.toInt by omega, show hv_de tf ln0.toInt.toNat w_6.toInt.toNat = w_19.toInt.toNat by omega]), dfa_31⟩), by omega⟩⟩, hT, hM⟩ dX6_readTold_68
      · skip
        refine lv_aload_n hx hb dX6_readTold_50 rfl (lv_at hl 2 rfl) ?_
        refine lv_iload_n hx hb dX6_readTold_51 rfl (lv_at hl 1 rfl) ?_
        refine lv_iconst (v := 1) hx hb dX6_readTold_52 (by decide) ?_
        have zc_1 : (1 : Int32).toInt = 1 := by decide
        refine hx_goi (hx_runV (As := [.int w_6, .int (1 : Int32)]) (rest := []) ⟨hx, hb, hml, hown, hts⟩ hW (gx.S hM) tt_6 (T := TX6) (N := 7) rfl (t_X6_refuse_v l dC dI dA L_14 h_15 H.size x w_6 (1 : Int32) hT (gx.S hM) ⟨by omega, by omega⟩ (by decide)) (cwV 2 hts (hx_gV kw_527 kw_524 kw_526 kw_6 kw_95) rfl rfl rfl (by decide +kernel) ⟨Nat.le_of_ble_eq_true rfl, Nat.le_of_ble_eq_true rfl⟩) rfl hl.1 rfl (Nat.le_of_ble_eq_true rfl) dX6_readTold_53 ⟨Nat.le_of_ble_eq_true rfl, Nat.le_of_ble_eq_true rfl⟩) hW (fun r_34 L_32 h_33 H locs p_35 hW => ?_)
        obtain ⟨⟨w_37, fw_37, hr_36⟩, hT, hs⟩ := p_35
        replace hT : hx_T T_tb L_32 h_33 := hT
        replace hs : hx_S T_tb [(6, 3)] L_14 h_15 L_32 h_33 := hs
        replace fw_19 := (hs.o (gx.S hM) trivial rfl).1.trans fw_19
        replace af_qd : h_33.2.1 qd = df := (funext fun j => (hs.a (gqd.S hM) rfl j).1).trans af_qd
        replace hM := hM.tr (hs.mono (by decide))
        have fw_37 : h_33.2.1 x 3 = w_37 := fw_37
        have bw_37 := hT.gi (gx.S hM) tt_6 (k := 3) rfl
        rw [fw_37] at bw_37
        have bw_37 : -2147483648 ≤ w_37.toInt ∧ w_37.toInt ≤ 2147483647 := bw_37
        have hlb := hv_lo_b (i1.toInt - 1).toNat
        exact hx_retz hx hb hr (hx_nar01 (by omega)) hlk hW ⟨⟨w_19, w_37, df, fw_19, fw_37, af_qd, ⟨(Or.inr ⟨by omega, by omega, (hv_num_2 (by rw [← ek_7]; rcases hr_12 with z | z; exact ⟨by omega, z.2.2⟩; exfalso; omega) (by rw [← ek_7]; omega)).trans (by rw [← ek_7]; congr 1; omega)⟩), by omega⟩⟩, hT, hM⟩ dX6_readTold_56
  · skip
    refine lv_aload_n hx hb dX6_readTold_20 rfl (lv_at hl 1 rfl) ?_
    refine lv_iload_n hx hb dX6_readTold_21 rfl (lv_at hl 0 rfl) ?_
    refine lv_iconst (v := 0) hx hb dX6_readTold_22 (by decide) ?_
    have zc_0 : (0 : Int32).toInt = 0 := by decide
    refine hx_goi (hx_runV (As := [.int w_6, .int (0 : Int32)]) (rest := []) ⟨hx, hb, hml, hown, hts⟩ hW (gx.S hM) tt_6 (T := TX6) (N := 7) rfl (t_X6_refuse_v l dC dI dA L_8 h_9 H.size x w_6 (0 : Int32) hT (gx.S hM) ⟨by omega, by omega⟩ (by decide)) (cwV 2 hts (hx_gV kw_527 kw_524 kw_526 kw_6 kw_95) rfl rfl rfl (by decide +kernel) ⟨Nat.le_of_ble_eq_true rfl, Nat.le_of_ble_eq_true rfl⟩) rfl hl.1 rfl (Nat.le_of_ble_eq_true rfl) dX6_readTold_23 ⟨Nat.le_of_ble_eq_true rfl, Nat.le_of_ble_eq_true rfl⟩) hW (fun r_40 L_38 h_39 H locs p_41 hW => ?_)
    obtain ⟨⟨w_43, fw_43, hr_42⟩, hT, hs⟩ := p_41
    replace hT : hx_T T_tb L_38 h_39 := hT
    replace hs : hx_S T_tb [(6, 3)] L_8 h_9 L_38 h_39 := hs
    replace fw_6 := (hs.o (gx.S hM) trivial rfl).1.trans fw_6
    replace af_qd : h_39.2.1 qd = df := (funext fun j => (hs.a (gqd.S hM) rfl j).1).trans af_qd
    replace hM := hM.tr (hs.mono (by decide))
    have fw_43 : h_39.2.1 x 3 = w_43 := fw_43
    have bw_43 := hT.gi (gx.S hM) tt_6 (k := 3) rfl
    rw [fw_43] at bw_43
    have bw_43 : -2147483648 ≤ w_43.toInt ∧ w_43.toInt ≤ 2147483647 := bw_43
    exact hx_retz hx hb hr (hx_nar01 (by omega)) hlk hW ⟨⟨w_6, w_43, df, fw_6, fw_43, af_qd, ⟨(Or.inr ⟨by omega, by omega, (hv_num_1 (by rw [← ek_7]; rcases hr_12 with z | z; (exfalso; omega); exact fun z9 => z.2 (by omega))).trans (by rw [← ek_7]; congr 1; omega)⟩), by omega⟩⟩, hT, hM⟩ dX6_readTold_26


set_option maxHeartbeats 4000000 in
set_option maxRecDepth 100000 in
theorem t_X6_readCost_v (l : Launch) (dC : Nat → ClassId) (dI : Nat → Nat → Nat) (dA : Nat → ClassId) (L : List Nat) (h : hx_h) (sz : Nat) (b0 : hx_z) (x : Nat) (hT : hx_T T_tb L h) (gx : hx_g L h x 6) (qt : Nat) (gqt : hx_g L h qt 42) (f_x_0 : h.2.2 x 0 = some qt) (qi : Nat) (gqi : hx_g L h qi 129) (f_x_6 : h.2.2 x 6 = some qi) (qd : Nat) (gqd : hx_g L h qd 127) (f_qi_2 : h.2.2 qi 2 = some qd) (tf : Nat → Int32) (af_qt : h.2.1 qt = tf) (df : Nat → Int32) (af_qd : h.2.1 qd = df) (at0 : Int32) (f_x_2 : h.2.1 x 2 = at0) (ln0 : Int32) (f_x_1 : h.2.1 x 1 = ln0) (ft0 : Int32) (f_x_3 : h.2.1 x 3 = ft0) (to0 : Int32) (f_x_4 : h.2.1 x 4 = to0) (ls9 : List Int) (o : List hv_tok) (hO : ls9 = o.map hv_cc) (hF : ft0.toInt = 0) (hA : at0.toInt ≤ ln0.toInt) : Met l yX6_readCost (Cond.code yX6_readCost cX6_readCost 3 (some .boolean) :: hx_all) ({ frames := 6, cells := 0, slots := 0, locals := 133 }) (va_Pc [.ref x] (hx_BX T_tb (P_ty dA) (dC, dI) vwCl L h sz b0)) (va_Qi (fun (r : Int32) (u : List Nat × hx_h) => (∃ (at1 : Int32) (ft1 : Int32) (to1 : Int32) (df1 : Nat → Int32), u.2.2.1 x 2 = at1 ∧ u.2.2.1 x 3 = ft1 ∧ u.2.2.1 x 4 = to1 ∧ u.2.2.1 qd = df1 ∧ (hv_CK hv_cc (hv_co tf ln0.toInt.toNat (hv_sk tf ln0.toInt.toNat at0.toInt.toNat) (hv_sC to0) (hv_rC df) o) r.toInt ft1.toInt at1.toInt (hv_sC to1) (hv_rC df1) ls9 ∧ (r.toInt = 1 → at0.toInt < at1.toInt ∧ at1.toInt ≤ ln0.toInt ∧ hv_sC to1 13 = hv_sC to0 13))) ∧ hx_T T_tb u.1 u.2 ∧ hx_S T_tb [(6, 2), (6, 3), (6, 4), (127, 0)] L h u.1 u.2) (hx_E T_tb (P_ty dA) (dC, dI) vwCl (hx_A L sz)) (hx_A L sz)) 0 0 (hx_A L sz) := by
  refine hx_metX (lv := [(0, .ref x)]) (by decide +kernel) rfl (Nat.le_of_ble_eq_true rfl) rfl ?_
  intro p e s m below meth c hx hb hml hr hlk hts0 hown hin hsz hW hZ ls hl
  have hts : ∀ w ∈ hx_all, w.before _ s = true := fun w hw => hts0 w (List.mem_cons_of_mem _ hw)
  have hown : s.vm.findClass "SmallCourt$Reader" = some m.cls := hown
  have hM : hx_S T_tb [(6, 2), (6, 3), (6, 4), (127, 0)] L h L h := hx_S.rf
  obtain ⟨zLT, zLA, zMT, zMA, zCS, zSF, zVS, zVR⟩ := hZ.2.2.2.2.2.2
  have b_at0 := hT.gi gx tt_6 (k := 2) rfl
  rw [f_x_2] at b_at0
  have b_at0 : 0 ≤ at0.toInt ∧ at0.toInt ≤ 402 := b_at0
  have b_ln0 := hT.gi gx tt_6 (k := 1) rfl
  rw [f_x_1] at b_ln0
  have b_ln0 : 0 ≤ ln0.toInt ∧ ln0.toInt ≤ 400 := b_ln0
  have b_ft0 := hT.gi gx tt_6 (k := 3) rfl
  rw [f_x_3] at b_ft0
  have b_ft0 : -2147483648 ≤ ft0.toInt ∧ ft0.toInt ≤ 2147483647 := b_ft0
  have b_to0 := hT.gi gx tt_6 (k := 4) rfl
  rw [f_x_4] at b_to0
  have b_to0 : -2147483648 ≤ to0.toInt ∧ to0.toInt ≤ 2147483647 := b_to0
  refine lv_aload_n hx hb dX6_readCost_0 rfl (lv_at hl 0 rfl) ?_
  refine hx_gov (hx_runV (As := []) (rest := []) ⟨hx, hb, hml, hown, hts⟩ hW (gx.S hM) tt_6 (T := TX6) (N := 7) rfl (t_X6_skipBlanks_v l dC dI dA L h s.heap.size x hT (gx.S hM) qt (gqt.S hM) ((hM.o gx trivial rfl).2.trans f_x_0) tf (hx_afS hM gqt rfl af_qt) at0 f_x_2 ln0 ((hM.o gx trivial rfl).1.trans f_x_1) (by omega)) (cwV 0 hts (hx_gV kw_458 kw_455 kw_457 kw_1 kw_95) rfl rfl rfl (by decide +kernel) ⟨Nat.le_of_ble_eq_true rfl, Nat.le_of_ble_eq_true rfl⟩) rfl hl.1 rfl (Nat.le_of_ble_eq_true rfl) dX6_readCost_1 ⟨Nat.le_of_ble_eq_true rfl, Nat.le_of_ble_eq_true rfl⟩) hW (fun L_1 h_2 H locs p_4 hW => ?_)
  obtain ⟨⟨w_6, fw_6, hr_5⟩, hT, hs⟩ := p_4
  replace hT : hx_T T_tb L_1 h_2 := hT
  replace hs : hx_S T_tb [(6, 2)] L h L_1 h_2 := hs
  replace f_x_3 := (hs.o (gx.S hM) trivial rfl).1.trans f_x_3
  replace f_x_4 := (hs.o (gx.S hM) trivial rfl).1.trans f_x_4
  replace af_qd : h_2.2.1 qd = df := (funext fun j => (hs.a (gqd.S hM) rfl j).1).trans af_qd
  replace hM := hM.tr (hs.mono (by decide))
  have fw_6 : h_2.2.1 x 2 = w_6 := fw_6
  have bw_6 := hT.gi (gx.S hM) tt_6 (k := 2) rfl
  rw [fw_6] at bw_6
  have bw_6 : 0 ≤ w_6.toInt ∧ w_6.toInt ≤ 402 := bw_6
  have ek_7 : w_6.toInt.toNat = hv_sk tf ln0.toInt.toNat at0.toInt.toNat := by omega
  refine lv_aload_n hx hb dX6_readCost_4 rfl (lv_at hl 0 rfl) ?_
  refine hk_geti hx hb hts hC_6 hown hW (gx.S hM) tt_6 2 (by decide) rfl kw_127 ⟨rfl, rfl, rfl⟩ fw_6 dX6_readCost_5 ?_
  refine lv_istore_n (lv' := [(1, .int w_6), (0, .ref x)]) hx hb dX6_readCost_8 rfl hl (by decide) rfl (fun ls hl => ?_)
  refine lv_aload_n hx hb dX6_readCost_9 rfl (lv_at hl 1 rfl) ?_
  refine va_ldcS (tx := P_st.getD 1 "") hx hb hown (zVR 1 (by decide)) dX6_readCost_10 ?_
  refine hx_goi (hx_runVX (As := [.ref (b0.2.2.2.1 1)]) (rest := []) ⟨hx, hb, hml, hown, hts⟩ hW (gx.S hM) tt_6 (T := TX6) (N := 7) rfl (t_X6_readWord_v l dC dI dA L_1 h_2 H.size b0 x 1 hT (gx.S hM) (by decide) qt (gqt.S hM) ((hM.o gx trivial rfl).2.trans f_x_0) tf (hx_afS hM gqt rfl af_qt) w_6 fw_6 ln0 ((hM.o gx trivial rfl).1.trans f_x_1) (by omega)) hZ (cwV 1 hts (hx_gV kw_467 kw_464 kw_466 kw_3 kw_95) rfl rfl rfl (by decide +kernel) ⟨Nat.le_of_ble_eq_true rfl, Nat.le_of_ble_eq_true rfl⟩) rfl hl.1 rfl (Nat.le_of_ble_eq_true rfl) dX6_readCost_12 ⟨Nat.le_of_ble_eq_true rfl, Nat.le_of_ble_eq_true rfl⟩) hW (fun r_10 L_8 h_9 H locs p_11 hW => ?_)
  obtain ⟨⟨w_13, fw_13, hr_12⟩, hT, hs⟩ := p_11
  replace hT : hx_T T_tb L_8 h_9 := hT
  replace hs : hx_S T_tb [(6, 2)] L_1 h_2 L_8 h_9 := hs
  replace f_x_3 := (hs.o (gx.S hM) trivial rfl).1.trans f_x_3
  replace f_x_4 := (hs.o (gx.S hM) trivial rfl).1.trans f_x_4
  replace af_qd : h_9.2.1 qd = df := (funext fun j => (hs.a (gqd.S hM) rfl j).1).trans af_qd
  replace hM := hM.tr (hs.mono (by decide))
  have fw_13 : h_9.2.1 x 2 = w_13 := fw_13
  have bw_13 := hT.gi (gx.S hM) tt_6 (k := 2) rfl
  rw [fw_13] at bw_13
  have bw_13 : 0 ≤ w_13.toInt ∧ w_13.toInt ≤ 402 := bw_13
  have eu_14 := hv_RW_1 hr_12.2.1
  refine lv_istore_n (lv' := [(2, .int r_10), (1, .int w_6), (0, .ref x)]) hx hb dX6_readCost_15 rfl hl (by decide) rfl (fun ls hl => ?_)
  have sid : hv_sk tf ln0.toInt.toNat w_6.toInt.toNat = w_6.toInt.toNat := by rw [ek_7]; exact hv_sk_id
  have hrw := hr_12.1; rw [sid] at hrw eu_14
  refine lv_iload_n hx hb dX6_readCost_16 rfl (lv_at hl 0 rfl) ?_
  refine hb_if_ge (zx := r_10.toInt) (tgt := 27) hx hb rfl dX6_readCost_17 (by decide) (fun c_15 => ?_) (fun c_15 => ?_)
  · skip
    have hst : 0 ≤ r_10.toInt ∧ r_10.toInt ≤ 3 ∧ hv_wd tf ln0.toInt.toNat w_6.toInt.toNat = 21 + r_10.toInt := by omega
    have ha1 : w_13.toInt.toNat = hv_we tf ln0.toInt.toNat w_6.toInt.toNat := by omega
    have hw3 := hv_wd_3 (T := tf) (n := ln0.toInt.toNat) (p := w_6.toInt.toNat) (by omega)
    refine lv_aload_n hx hb dX6_readCost_27 rfl (lv_at hl 2 rfl) ?_
    refine lv_bipush (v := 10) hx hb dX6_readCost_28 (by decide) ?_
    refine lv_iload_n hx hb dX6_readCost_30 rfl (lv_at hl 0 rfl) ?_
    refine lv_iadd hx hb dX6_readCost_31 ?_
    have rg_16 := i32_r r_10
    refine lv_topi (fun x_17 ex_17 => ?_)
    have zx_17 : x_17.toInt = 10 + r_10.toInt := by rw [ex_17]; exact i32_add (by decide) rfl (by omega) (by omega)
    refine lv_iload_n hx hb dX6_readCost_32 rfl (lv_at hl 1 rfl) ?_
    refine hx_goi (hx_runV (As := [.int x_17, .int w_6]) (rest := []) ⟨hx, hb, hml, hown, hts⟩ hW (gx.S hM) tt_6 (T := TX6) (N := 7) rfl (t_X6_tellOnce_v l dC dI dA L_8 h_9 H.size x x_17 w_6 hT (gx.S hM) to0 f_x_4 ft0 f_x_3 ⟨by omega, by omega⟩ ⟨by omega, by omega⟩) (cwV 2 hts (hx_gV kw_536 kw_533 kw_535 kw_8 kw_95) rfl rfl rfl (by decide +kernel) ⟨Nat.le_of_ble_eq_true rfl, Nat.le_of_ble_eq_true rfl⟩) rfl hl.1 rfl (Nat.le_of_ble_eq_true rfl) dX6_readCost_33 ⟨Nat.le_of_ble_eq_true rfl, Nat.le_of_ble_eq_true rfl⟩) hW (fun r_20 L_18 h_19 H locs p_21 hW => ?_)
    obtain ⟨⟨w_23, w_24, fw_23, fw_24, hr_22⟩, hT, hs⟩ := p_21
    replace hT : hx_T T_tb L_18 h_19 := hT
    replace hs : hx_S T_tb [(6, 3), (6, 4)] L_8 h_9 L_18 h_19 := hs
    replace fw_13 := (hs.o (gx.S hM) trivial rfl).1.trans fw_13
    replace af_qd : h_19.2.1 qd = df := (funext fun j => (hs.a (gqd.S hM) rfl j).1).trans af_qd
    replace hM := hM.tr (hs.mono (by decide))
    have fw_23 : h_19.2.1 x 4 = w_23 := fw_23
    have bw_23 := hT.gi (gx.S hM) tt_6 (k := 4) rfl
    rw [fw_23] at bw_23
    have bw_23 : -2147483648 ≤ w_23.toInt ∧ w_23.toInt ≤ 2147483647 := bw_23
    have fw_24 : h_19.2.1 x 3 = w_24 := fw_24
    have bw_24 := hT.gi (gx.S hM) tt_6 (k := 3) rfl
    rw [fw_24] at bw_24
    have bw_24 : -2147483648 ≤ w_24.toInt ∧ w_24.toInt ≤ 2147483647 := bw_24
    refine hb_if_eq (zx := r_20.toInt) (tgt := 54) hx hb rfl dX6_readCost_36 (by decide) (fun c_25 => ?_) (fun c_25 => ?_)
    · skip
      refine lv_iconst (v := 0) hx hb dX6_readCost_54 (by decide) ?_
      exact hx_retz hx hb hr rfl hlk hW ⟨⟨w_13, w_24, w_23, df, fw_13, fw_24, fw_23, af_qd, ⟨(hv_CK_f (x := 3 + 8 * w_6.toInt.toNat) (by decide) (by omega) (by omega) (by rw [← ek_7]; exact hv_co_2 (by omega) (by rw [show (hv_wd tf ln0.toInt.toNat w_6.toInt.toNat - 12).toNat = (x_17.toInt - 1).toNat by omega]; rcases hr_22 with z | z; (exfalso; omega); exact z.2.1))), (fun z9 => absurd z9 (by decide))⟩⟩, hT, hM⟩ dX6_readCost_55
    · skip
      refine lv_aload_n hx hb dX6_readCost_39 rfl (lv_at hl 2 rfl) ?_
      refine lv_bipush (v := 10) hx hb dX6_readCost_40 (by decide) ?_
      refine lv_iload_n hx hb dX6_readCost_42 rfl (lv_at hl 0 rfl) ?_
      refine lv_iadd hx hb dX6_readCost_43 ?_
      refine lv_topi (fun x_26 ex_26 => ?_)
      have zx_26 : x_26.toInt = 10 + r_10.toInt := by rw [ex_26]; exact i32_add (by decide) rfl (by omega) (by omega)
      obtain rfl : x_17 = x_26 := ex_17.trans ex_26.symm
      refine hx_goi (hx_runVX (As := [.int x_17]) (rest := []) ⟨hx, hb, hml, hown, hts⟩ hW (gx.S hM) tt_6 (T := TX6) (N := 7) rfl (t_X6_readTold_v l dC dI dA L_18 h_19 H.size b0 x x_17 hT (gx.S hM) qt (gqt.S hM) ((hM.o gx trivial rfl).2.trans f_x_0) qi (gqi.S hM) ((hM.o gx trivial rfl).2.trans f_x_6) qd (gqd.S hM) ((hM.o gqi trivial rfl).2.trans f_qi_2) tf (hx_afS hM gqt rfl af_qt) df af_qd w_13 fw_13 ln0 ((hM.o gx trivial rfl).1.trans f_x_1) w_24 fw_24 ⟨by omega, by omega⟩ (by omega)) hZ (cwV 1 hts (hx_gV kw_540 kw_537 kw_539 kw_9 kw_95) rfl rfl rfl (by decide +kernel) ⟨Nat.le_of_ble_eq_true rfl, Nat.le_of_ble_eq_true rfl⟩) rfl hl.1 rfl (Nat.le_of_ble_eq_true rfl) dX6_readCost_44 ⟨Nat.le_of_ble_eq_true rfl, Nat.le_of_ble_eq_true rfl⟩) hW (fun r_29 L_27 h_28 H locs p_30 hW => ?_)
      obtain ⟨⟨w_32, w_33, w_34, fw_32, fw_33, fw_34, hr_31⟩, hT, hs⟩ := p_30
      replace hT : hx_T T_tb L_27 h_28 := hT
      replace hs : hx_S T_tb [(6, 2), (6, 3), (127, 0)] L_18 h_19 L_27 h_28 := hs
      replace fw_23 := (hs.o (gx.S hM) trivial rfl).1.trans fw_23
      replace hM := hM.tr (hs.mono (by decide))
      have fw_32 : h_28.2.1 x 2 = w_32 := fw_32
      have bw_32 := hT.gi (gx.S hM) tt_6 (k := 2) rfl
      rw [fw_32] at bw_32
      have bw_32 : 0 ≤ w_32.toInt ∧ w_32.toInt ≤ 402 := bw_32
      have fw_33 : h_28.2.1 x 3 = w_33 := fw_33
      have bw_33 := hT.gi (gx.S hM) tt_6 (k := 3) rfl
      rw [fw_33] at bw_33
      have bw_33 : -2147483648 ≤ w_33.toInt ∧ w_33.toInt ≤ 2147483647 := bw_33
      have fw_34 : h_28.2.1 qd = w_34 := fw_34
      have hr_31B := hr_31.2
      have hr_31b := hv_N_b hr_31.1
      refine hb_if_eq (zx := r_29.toInt) (tgt := 54) hx hb rfl dX6_readCost_47 (by decide) (fun c_35 => ?_) (fun c_35 => ?_)
      · skip
        refine lv_iconst (v := 0) hx hb dX6_readCost_54 (by decide) ?_
        exact hx_retz hx hb hr rfl hlk hW ⟨⟨w_32, w_33, w_23, w_34, fw_32, fw_33, fw_23, fw_34, ⟨(hv_CK_f (x := w_33.toInt.toNat) (by decide) (by have h8 := (hv_N_0 hr_31.1 (by omega)).1; omega) (by have h8 := (hv_N_0 hr_31.1 (by omega)).1; omega) (by rw [← ek_7]; exact hv_co_3 (by omega) (by rw [show (hv_wd tf ln0.toInt.toNat w_6.toInt.toNat - 12).toNat = (x_17.toInt - 1).toNat by omega]; rcases hr_22 with z | z; exact z.2.2.1; exfalso; omega) (by have h8 := (hv_N_0 hr_31.1 (by omega)).2; rw [ha1, hv_lo9 (by omega), hv_hi9 (by omega)] at h8; exact h8))), (fun z9 => absurd z9 (by decide))⟩⟩, hT, hM⟩ dX6_readCost_55
      · skip
        obtain ⟨n1_36F, nv_37, n1_36N, n1_36D⟩ := hv_N_1 hr_31.1 (by omega)
        refine lv_iconst (v := 1) hx hb dX6_readCost_50 (by decide) ?_
        refine lv_goto (tgt := 55) hx hb dX6_readCost_51 (by decide) ?_
        exact hx_retz hx hb hr rfl hlk hW ⟨⟨w_32, w_33, w_23, w_34, fw_32, fw_33, fw_23, fw_34, ⟨(hv_CK_t (x := w_32.toInt.toNat) (by decide) (by omega) (by omega) (by rcases hr_22 with z | z; exact z.2.2.2; exfalso; omega) (hv_rC_u (by omega) (by omega) n1_36D) hO (by rw [← ek_7]; have h7 := hv_co_4 (T := tf) (n := ln0.toInt.toNat) (q := w_6.toInt.toNat) (sn := hv_sC to0) (rd := hv_rC df) (o := o) (by omega) (by rw [show (hv_wd tf ln0.toInt.toNat w_6.toInt.toNat - 12).toNat = (x_17.toInt - 1).toNat by omega]; rcases hr_22 with z | z; exact z.2.2.1; exfalso; omega) (by have h8 := n1_36N; rw [ha1, hv_lo9 (by omega), hv_hi9 (by omega)] at h8; exact h8); rw [show (hv_wd tf ln0.toInt.toNat w_6.toInt.toNat - 12).toNat = (x_17.toInt - 1).toNat by omega] at h7; exact h7)), fun _ => ⟨by omega, by omega, by rcases hr_22 with z | z; (rw [z.2.2.2, hv_ub_ne (by omega)]); exfalso; omega⟩⟩⟩, hT, hM⟩ dX6_readCost_55
  · skip
    refine lv_aload_n hx hb dX6_readCost_20 rfl (lv_at hl 2 rfl) ?_
    refine lv_iload_n hx hb dX6_readCost_21 rfl (lv_at hl 1 rfl) ?_
    refine lv_iconst (v := 0) hx hb dX6_readCost_22 (by decide) ?_
    have zc_0 : (0 : Int32).toInt = 0 := by decide
    refine hx_goi (hx_runV (As := [.int w_6, .int (0 : Int32)]) (rest := []) ⟨hx, hb, hml, hown, hts⟩ hW (gx.S hM) tt_6 (T := TX6) (N := 7) rfl (t_X6_refuse_v l dC dI dA L_8 h_9 H.size x w_6 (0 : Int32) hT (gx.S hM) ⟨by omega, by omega⟩ (by decide)) (cwV 2 hts (hx_gV kw_527 kw_524 kw_526 kw_6 kw_95) rfl rfl rfl (by decide +kernel) ⟨Nat.le_of_ble_eq_true rfl, Nat.le_of_ble_eq_true rfl⟩) rfl hl.1 rfl (Nat.le_of_ble_eq_true rfl) dX6_readCost_23 ⟨Nat.le_of_ble_eq_true rfl, Nat.le_of_ble_eq_true rfl⟩) hW (fun r_40 L_38 h_39 H locs p_41 hW => ?_)
    obtain ⟨⟨w_43, fw_43, hr_42⟩, hT, hs⟩ := p_41
    replace hT : hx_T T_tb L_38 h_39 := hT
    replace hs : hx_S T_tb [(6, 3)] L_8 h_9 L_38 h_39 := hs
    replace f_x_4 := (hs.o (gx.S hM) trivial rfl).1.trans f_x_4
    replace fw_13 := (hs.o (gx.S hM) trivial rfl).1.trans fw_13
    replace af_qd : h_39.2.1 qd = df := (funext fun j => (hs.a (gqd.S hM) rfl j).1).trans af_qd
    replace hM := hM.tr (hs.mono (by decide))
    have fw_43 : h_39.2.1 x 3 = w_43 := fw_43
    have bw_43 := hT.gi (gx.S hM) tt_6 (k := 3) rfl
    rw [fw_43] at bw_43
    have bw_43 : -2147483648 ≤ w_43.toInt ∧ w_43.toInt ≤ 2147483647 := bw_43
    exact hx_retz hx hb hr (hx_nar01 (by omega)) hlk hW ⟨⟨w_13, w_43, to0, df, fw_13, fw_43, f_x_4, af_qd, ⟨(hv_CK_f (x := 1 + 8 * w_6.toInt.toNat) (by omega) (by omega) (by omega) (by rw [← ek_7]; exact hv_co_1 (by omega))), (fun z9 => by exfalso; omega)⟩⟩, hT, hM⟩ dX6_readCost_26


set_option maxHeartbeats 4000000 in
set_option maxRecDepth 100000 in
theorem t_X6_readClause_v (l : Launch) (dC : Nat → ClassId) (dI : Nat → Nat → Nat) (dA : Nat → ClassId) (L : List Nat) (h : hx_h) (sz : Nat) (b0 : hx_z) (x : Nat) (hT : hx_T T_tb L h) (gx : hx_g L h x 6) (qt : Nat) (gqt : hx_g L h qt 42) (f_x_0 : h.2.2 x 0 = some qt) (qi : Nat) (gqi : hx_g L h qi 129) (f_x_6 : h.2.2 x 6 = some qi) (qp : Nat) (gqp : hx_g L h qp 128) (f_qi_3 : h.2.2 qi 3 = some qp) (qd : Nat) (gqd : hx_g L h qd 127) (f_qi_2 : h.2.2 qi 2 = some qd) (tf : Nat → Int32) (af_qt : h.2.1 qt = tf) (pf : Nat → Int32) (af_qp : h.2.1 qp = pf) (df : Nat → Int32) (af_qd : h.2.1 qd = df) (at0 : Int32) (f_x_2 : h.2.1 x 2 = at0) (ln0 : Int32) (f_x_1 : h.2.1 x 1 = ln0) (ft0 : Int32) (f_x_3 : h.2.1 x 3 = ft0) (tm0 : Int32) (f_x_5 : h.2.1 x 5 = tm0) (pl0 : Int32) (f_qi_4 : h.2.1 qi 4 = pl0) (to0 : Int32) (f_x_4 : h.2.1 x 4 = to0) (o : List hv_tok) (hO : hv_ls pf pl0.toInt.toNat = o.map hv_cc) (hF : ft0.toInt = 0) (hA : at0.toInt ≤ ln0.toInt) (hT0 : 0 ≤ tm0.toInt ∧ tm0.toInt ≤ 20) (hTM : hv_sC to0 13 = false → tm0.toInt = 0) : Met l yX6_readClause (Cond.code yX6_readClause cX6_readClause 3 (some .boolean) :: hx_all) ({ frames := 25, cells := 0, slots := 0, locals := 572 }) (va_Pc [.ref x] (hx_BX T_tb (P_ty dA) (dC, dI) vwCl L h sz b0)) (va_Qi (fun (r : Int32) (u : List Nat × hx_h) => (∃ (at1 : Int32) (ft1 : Int32) (tm1 : Int32) (pl1 : Int32) (pf1 : Nat → Int32) (to1 : Int32) (df1 : Nat → Int32), u.2.2.1 x 2 = at1 ∧ u.2.2.1 x 3 = ft1 ∧ u.2.2.1 x 5 = tm1 ∧ u.2.2.1 qi 4 = pl1 ∧ u.2.2.1 qp = pf1 ∧ u.2.2.1 x 4 = to1 ∧ u.2.2.1 qd = df1 ∧ (hv_CK hv_cc (hv_cl tf ln0.toInt.toNat at0.toInt.toNat (hv_sC to0) (hv_rC df) o) r.toInt ft1.toInt at1.toInt (hv_sC to1) (hv_rC df1) (hv_ls pf1 pl1.toInt.toNat) ∧ (r.toInt = 1 → at0.toInt < at1.toInt ∧ at1.toInt ≤ ln0.toInt ∧ 0 ≤ tm1.toInt ∧ tm1.toInt ≤ 20 ∧ (hv_sC to1 13 = false → tm1.toInt = 0)))) ∧ hx_T T_tb u.1 u.2 ∧ hx_S T_tb [(6, 2), (6, 3), (6, 4), (6, 5), (127, 0), (128, 0), (129, 4)] L h u.1 u.2) (hx_E T_tb (P_ty dA) (dC, dI) vwCl (hx_A L sz)) (hx_A L sz)) 0 0 (hx_A L sz) := by
  refine hx_metX (lv := [(0, .ref x)]) (by decide +kernel) rfl (Nat.le_of_ble_eq_true rfl) rfl ?_
  intro p e s m below meth c hx hb hml hr hlk hts0 hown hin hsz hW hZ ls hl
  have hts : ∀ w ∈ hx_all, w.before _ s = true := fun w hw => hts0 w (List.mem_cons_of_mem _ hw)
  have hown : s.vm.findClass "SmallCourt$Reader" = some m.cls := hown
  have hM : hx_S T_tb [(6, 2), (6, 3), (6, 4), (6, 5), (127, 0), (128, 0), (129, 4)] L h L h := hx_S.rf
  obtain ⟨zLT, zLA, zMT, zMA, zCS, zSF, zVS, zVR⟩ := hZ.2.2.2.2.2.2
  have b_at0 := hT.gi gx tt_6 (k := 2) rfl
  rw [f_x_2] at b_at0
  have b_at0 : 0 ≤ at0.toInt ∧ at0.toInt ≤ 402 := b_at0
  have b_ln0 := hT.gi gx tt_6 (k := 1) rfl
  rw [f_x_1] at b_ln0
  have b_ln0 : 0 ≤ ln0.toInt ∧ ln0.toInt ≤ 400 := b_ln0
  have b_ft0 := hT.gi gx tt_6 (k := 3) rfl
  rw [f_x_3] at b_ft0
  have b_ft0 : -2147483648 ≤ ft0.toInt ∧ ft0.toInt ≤ 2147483647 := b_ft0
  have b_tm0 := hT.gi gx tt_6 (k := 5) rfl
  rw [f_x_5] at b_tm0
  have b_tm0 : -2147483648 ≤ tm0.toInt ∧ tm0.toInt ≤ 2147483647 := b_tm0
  have b_pl0 := hT.gi gqi tt_129 (k := 4) rfl
  rw [f_qi_4] at b_pl0
  have b_pl0 : 0 ≤ pl0.toInt ∧ pl0.toInt ≤ 160 := b_pl0
  have b_to0 := hT.gi gx tt_6 (k := 4) rfl
  rw [f_x_4] at b_to0
  have b_to0 : -2147483648 ≤ to0.toInt ∧ to0.toInt ≤ 2147483647 := b_to0
  refine lv_aload_n hx hb dX6_readClause_0 rfl (lv_at hl 0 rfl) ?_
  refine hx_gov (hx_runV (As := []) (rest := []) ⟨hx, hb, hml, hown, hts⟩ hW (gx.S hM) tt_6 (T := TX6) (N := 7) rfl (t_X6_skipBlanks_v l dC dI dA L h s.heap.size x hT (gx.S hM) qt (gqt.S hM) ((hM.o gx trivial rfl).2.trans f_x_0) tf (hx_afS hM gqt rfl af_qt) at0 f_x_2 ln0 ((hM.o gx trivial rfl).1.trans f_x_1) (by omega)) (cwV 0 hts (hx_gV kw_458 kw_455 kw_457 kw_1 kw_95) rfl rfl rfl (by decide +kernel) ⟨Nat.le_of_ble_eq_true rfl, Nat.le_of_ble_eq_true rfl⟩) rfl hl.1 rfl (Nat.le_of_ble_eq_true rfl) dX6_readClause_1 ⟨Nat.le_of_ble_eq_true rfl, Nat.le_of_ble_eq_true rfl⟩) hW (fun L_1 h_2 H locs p_4 hW => ?_)
  obtain ⟨⟨w_6, fw_6, hr_5⟩, hT, hs⟩ := p_4
  replace hT : hx_T T_tb L_1 h_2 := hT
  replace hs : hx_S T_tb [(6, 2)] L h L_1 h_2 := hs
  replace f_x_3 := (hs.o (gx.S hM) trivial rfl).1.trans f_x_3
  replace f_x_5 := (hs.o (gx.S hM) trivial rfl).1.trans f_x_5
  replace f_qi_4 := (hs.o (gqi.S hM) trivial rfl).1.trans f_qi_4
  replace f_x_4 := (hs.o (gx.S hM) trivial rfl).1.trans f_x_4
  replace af_qp : h_2.2.1 qp = pf := (funext fun j => (hs.a (gqp.S hM) rfl j).1).trans af_qp
  replace af_qd : h_2.2.1 qd = df := (funext fun j => (hs.a (gqd.S hM) rfl j).1).trans af_qd
  replace hM := hM.tr (hs.mono (by decide))
  have fw_6 : h_2.2.1 x 2 = w_6 := fw_6
  have bw_6 := hT.gi (gx.S hM) tt_6 (k := 2) rfl
  rw [fw_6] at bw_6
  have bw_6 : 0 ≤ w_6.toInt ∧ w_6.toInt ≤ 402 := bw_6
  have ek_7 : w_6.toInt.toNat = hv_sk tf ln0.toInt.toNat at0.toInt.toNat := by omega
  refine lv_aload_n hx hb dX6_readClause_4 rfl (lv_at hl 0 rfl) ?_
  refine hk_geti hx hb hts hC_6 hown hW (gx.S hM) tt_6 2 (by decide) rfl kw_127 ⟨rfl, rfl, rfl⟩ fw_6 dX6_readClause_5 ?_
  refine lv_istore_n (lv' := [(1, .int w_6), (0, .ref x)]) hx hb dX6_readClause_8 rfl hl (by decide) rfl (fun ls hl => ?_)
  refine lv_aload_n hx hb dX6_readClause_9 rfl (lv_at hl 1 rfl) ?_
  refine va_ldcS (tx := P_st.getD 0 "") hx hb hown (zVR 0 (by decide)) dX6_readClause_10 ?_
  refine hx_goi (hx_runVX (As := [.ref (b0.2.2.2.1 0)]) (rest := []) ⟨hx, hb, hml, hown, hts⟩ hW (gx.S hM) tt_6 (T := TX6) (N := 7) rfl (t_X6_readWord_v l dC dI dA L_1 h_2 H.size b0 x 0 hT (gx.S hM) (by decide) qt (gqt.S hM) ((hM.o gx trivial rfl).2.trans f_x_0) tf (hx_afS hM gqt rfl af_qt) w_6 fw_6 ln0 ((hM.o gx trivial rfl).1.trans f_x_1) (by omega)) hZ (cwV 1 hts (hx_gV kw_467 kw_464 kw_466 kw_3 kw_95) rfl rfl rfl (by decide +kernel) ⟨Nat.le_of_ble_eq_true rfl, Nat.le_of_ble_eq_true rfl⟩) rfl hl.1 rfl (Nat.le_of_ble_eq_true rfl) dX6_readClause_12 ⟨Nat.le_of_ble_eq_true rfl, Nat.le_of_ble_eq_true rfl⟩) hW (fun r_10 L_8 h_9 H locs p_11 hW => ?_)
  obtain ⟨⟨w_13, fw_13, hr_12⟩, hT, hs⟩ := p_11
  replace hT : hx_T T_tb L_8 h_9 := hT
  replace hs : hx_S T_tb [(6, 2)] L_1 h_2 L_8 h_9 := hs
  replace f_x_3 := (hs.o (gx.S hM) trivial rfl).1.trans f_x_3
  replace f_x_5 := (hs.o (gx.S hM) trivial rfl).1.trans f_x_5
  replace f_qi_4 := (hs.o (gqi.S hM) trivial rfl).1.trans f_qi_4
  replace f_x_4 := (hs.o (gx.S hM) trivial rfl).1.trans f_x_4
  replace af_qp : h_9.2.1 qp = pf := (funext fun j => (hs.a (gqp.S hM) rfl j).1).trans af_qp
  replace af_qd : h_9.2.1 qd = df := (funext fun j => (hs.a (gqd.S hM) rfl j).1).trans af_qd
  replace hM := hM.tr (hs.mono (by decide))
  have fw_13 : h_9.2.1 x 2 = w_13 := fw_13
  have bw_13 := hT.gi (gx.S hM) tt_6 (k := 2) rfl
  rw [fw_13] at bw_13
  have bw_13 : 0 ≤ w_13.toInt ∧ w_13.toInt ≤ 402 := bw_13
  have eu_14 := hv_RW_0 hr_12.2.1
  refine lv_istore_n (lv' := [(2, .int r_10), (1, .int w_6), (0, .ref x)]) hx hb dX6_readClause_15 rfl hl (by decide) rfl (fun ls hl => ?_)
  have sid : hv_sk tf ln0.toInt.toNat w_6.toInt.toNat = w_6.toInt.toNat := by rw [ek_7]; exact hv_sk_id
  have hrw := hr_12.1; rw [sid] at hrw eu_14
  refine lv_iload_n hx hb dX6_readClause_16 rfl (lv_at hl 0 rfl) ?_
  refine hb_if_ge (zx := r_10.toInt) (tgt := 27) hx hb rfl dX6_readClause_17 (by decide) (fun c_15 => ?_) (fun c_15 => ?_)
  · skip
    have hcl : 1 ≤ r_10.toInt ∧ r_10.toInt ≤ 11 ∧ r_10.toInt ≠ 7 ∧ hv_wd tf ln0.toInt.toNat w_6.toInt.toNat = (if r_10.toInt ≤ 6 then 10 + r_10.toInt else 9 + r_10.toInt) := by rcases eu_14 with z | z; (exfalso; omega); exact z
    have hwr : 11 ≤ hv_wd tf ln0.toInt.toNat w_6.toInt.toNat ∧ hv_wd tf ln0.toInt.toNat w_6.toInt.toNat ≤ 20 := by have h8 := hcl.2.2.2; split at h8 <;> omega
    have ha1 : w_13.toInt.toNat = hv_we tf ln0.toInt.toNat w_6.toInt.toNat := by omega
    have hw3 := hv_wd_3 (T := tf) (n := ln0.toInt.toNat) (p := w_6.toInt.toNat) (by omega)
    refine lv_iload_n hx hb dX6_readClause_27 rfl (lv_at hl 0 rfl) ?_
    refine lv_bipush (v := 10) hx hb dX6_readClause_28 (by decide) ?_
    refine hb_icmp_ne (zx := r_10.toInt) (zy := 10) (tgt := 38) hx hb rfl (by decide) dX6_readClause_30 (by decide) (fun c_16 => ?_) (fun c_16 => ?_)
    · skip
      refine lv_iload_n hx hb dX6_readClause_38 rfl (lv_at hl 0 rfl) ?_
      refine lv_bipush (v := 11) hx hb dX6_readClause_39 (by decide) ?_
      refine hb_icmp_ne (zx := r_10.toInt) (zy := 11) (tgt := 76) hx hb rfl (by decide) dX6_readClause_41 (by decide) (fun c_17 => ?_) (fun c_17 => ?_)
      · skip
        have hkk := hv_kk_r (by omega) (by omega) hcl.2.2.1 hcl.2.2.2
        refine lv_aload_n hx hb dX6_readClause_76 rfl (lv_at hl 2 rfl) ?_
        refine lv_iload_n hx hb dX6_readClause_77 rfl (lv_at hl 0 rfl) ?_
        refine lv_iload_n hx hb dX6_readClause_78 rfl (lv_at hl 1 rfl) ?_
        refine hx_goi (hx_runV (As := [.int r_10, .int w_6]) (rest := []) ⟨hx, hb, hml, hown, hts⟩ hW (gx.S hM) tt_6 (T := TX6) (N := 7) rfl (t_X6_tellOnce_v l dC dI dA L_8 h_9 H.size x r_10 w_6 hT (gx.S hM) to0 f_x_4 ft0 f_x_3 ⟨by omega, by omega⟩ ⟨by omega, by omega⟩) (cwV 2 hts (hx_gV kw_536 kw_533 kw_535 kw_8 kw_95) rfl rfl rfl (by decide +kernel) ⟨Nat.le_of_ble_eq_true rfl, Nat.le_of_ble_eq_true rfl⟩) rfl hl.1 rfl (Nat.le_of_ble_eq_true rfl) dX6_readClause_79 ⟨Nat.le_of_ble_eq_true rfl, Nat.le_of_ble_eq_true rfl⟩) hW (fun r_20 L_18 h_19 H locs p_21 hW => ?_)
        obtain ⟨⟨w_23, w_24, fw_23, fw_24, hr_22⟩, hT, hs⟩ := p_21
        replace hT : hx_T T_tb L_18 h_19 := hT
        replace hs : hx_S T_tb [(6, 3), (6, 4)] L_8 h_9 L_18 h_19 := hs
        replace f_x_5 := (hs.o (gx.S hM) trivial rfl).1.trans f_x_5
        replace f_qi_4 := (hs.o (gqi.S hM) trivial rfl).1.trans f_qi_4
        replace fw_13 := (hs.o (gx.S hM) trivial rfl).1.trans fw_13
        replace af_qp : h_19.2.1 qp = pf := (funext fun j => (hs.a (gqp.S hM) rfl j).1).trans af_qp
        replace af_qd : h_19.2.1 qd = df := (funext fun j => (hs.a (gqd.S hM) rfl j).1).trans af_qd
        replace hM := hM.tr (hs.mono (by decide))
        have fw_23 : h_19.2.1 x 4 = w_23 := fw_23
        have bw_23 := hT.gi (gx.S hM) tt_6 (k := 4) rfl
        rw [fw_23] at bw_23
        have bw_23 : -2147483648 ≤ w_23.toInt ∧ w_23.toInt ≤ 2147483647 := bw_23
        have fw_24 : h_19.2.1 x 3 = w_24 := fw_24
        have bw_24 := hT.gi (gx.S hM) tt_6 (k := 3) rfl
        rw [fw_24] at bw_24
        have bw_24 : -2147483648 ≤ w_24.toInt ∧ w_24.toInt ≤ 2147483647 := bw_24
        refine hb_if_eq (zx := r_20.toInt) (tgt := 112) hx hb rfl dX6_readClause_82 (by decide) (fun c_25 => ?_) (fun c_25 => ?_)
        · skip
          refine lv_iconst (v := 0) hx hb dX6_readClause_112 (by decide) ?_
          exact hx_retz hx hb hr rfl hlk hW ⟨⟨w_13, w_24, tm0, pl0, pf, w_23, df, fw_13, fw_24, f_x_5, f_qi_4, af_qp, fw_23, af_qd, ⟨(hv_CK_f (x := 3 + 8 * w_6.toInt.toNat) (by first | decide | omega) (by omega) (by omega) ((hv_cl_k (k := (r_10.toInt - 1).toNat) (by rw [← ek_7]; exact ⟨by omega, by have h8 := hcl.2.2.2; split at h8 <;> omega⟩) (by rw [← ek_7]; exact hkk.symm)).trans (by rw [← ek_7]; exact hv_ck_1 (by rcases hr_22 with z | z; (exfalso; omega); exact z.2.1)))), (fun z9 => absurd z9 (by decide))⟩⟩, hT, hM⟩ dX6_readClause_113
        · skip
          refine lv_aload_n hx hb dX6_readClause_85 rfl (lv_at hl 2 rfl) ?_
          refine lv_iload_n hx hb dX6_readClause_86 rfl (lv_at hl 0 rfl) ?_
          refine hx_goi (hx_runVX (As := [.int r_10]) (rest := []) ⟨hx, hb, hml, hown, hts⟩ hW (gx.S hM) tt_6 (T := TX6) (N := 7) rfl (t_X6_readTold_v l dC dI dA L_18 h_19 H.size b0 x r_10 hT (gx.S hM) qt (gqt.S hM) ((hM.o gx trivial rfl).2.trans f_x_0) qi (gqi.S hM) ((hM.o gx trivial rfl).2.trans f_x_6) qd (gqd.S hM) ((hM.o gqi trivial rfl).2.trans f_qi_2) tf (hx_afS hM gqt rfl af_qt) df af_qd w_13 fw_13 ln0 ((hM.o gx trivial rfl).1.trans f_x_1) w_24 fw_24 ⟨by omega, by omega⟩ (by omega)) hZ (cwV 1 hts (hx_gV kw_540 kw_537 kw_539 kw_9 kw_95) rfl rfl rfl (by decide +kernel) ⟨Nat.le_of_ble_eq_true rfl, Nat.le_of_ble_eq_true rfl⟩) rfl hl.1 rfl (Nat.le_of_ble_eq_true rfl) dX6_readClause_87 ⟨Nat.le_of_ble_eq_true rfl, Nat.le_of_ble_eq_true rfl⟩) hW (fun r_28 L_26 h_27 H locs p_29 hW => ?_)
          obtain ⟨⟨w_31, w_32, w_33, fw_31, fw_32, fw_33, hr_30⟩, hT, hs⟩ := p_29
          replace hT : hx_T T_tb L_26 h_27 := hT
          replace hs : hx_S T_tb [(6, 2), (6, 3), (127, 0)] L_18 h_19 L_26 h_27 := hs
          replace f_x_5 := (hs.o (gx.S hM) trivial rfl).1.trans f_x_5
          replace f_qi_4 := (hs.o (gqi.S hM) trivial rfl).1.trans f_qi_4
          replace fw_23 := (hs.o (gx.S hM) trivial rfl).1.trans fw_23
          replace af_qp : h_27.2.1 qp = pf := (funext fun j => (hs.a (gqp.S hM) rfl j).1).trans af_qp
          replace hM := hM.tr (hs.mono (by decide))
          have fw_31 : h_27.2.1 x 2 = w_31 := fw_31
          have bw_31 := hT.gi (gx.S hM) tt_6 (k := 2) rfl
          rw [fw_31] at bw_31
          have bw_31 : 0 ≤ w_31.toInt ∧ w_31.toInt ≤ 402 := bw_31
          have fw_32 : h_27.2.1 x 3 = w_32 := fw_32
          have bw_32 := hT.gi (gx.S hM) tt_6 (k := 3) rfl
          rw [fw_32] at bw_32
          have bw_32 : -2147483648 ≤ w_32.toInt ∧ w_32.toInt ≤ 2147483647 := bw_32
          have fw_33 : h_27.2.1 qd = w_33 := fw_33
          have hr_30B := hr_30.2
          have hr_30b := hv_N_b hr_30.1
          refine hb_if_eq (zx := r_28.toInt) (tgt := 112) hx hb rfl dX6_readClause_90 (by decide) (fun c_34 => ?_) (fun c_34 => ?_)
          · skip
            refine lv_iconst (v := 0) hx hb dX6_readClause_112 (by decide) ?_
            exact hx_retz hx hb hr rfl hlk hW ⟨⟨w_31, w_32, tm0, pl0, pf, w_23, w_33, fw_31, fw_32, f_x_5, f_qi_4, af_qp, fw_23, fw_33, ⟨(hv_CK_f (x := w_32.toInt.toNat) (by decide) (by have h8 := (hv_N_0 hr_30.1 (by omega)).1; omega) (by have h8 := (hv_N_0 hr_30.1 (by omega)).1; omega) ((hv_cl_k (k := (r_10.toInt - 1).toNat) (by rw [← ek_7]; exact ⟨by omega, by have h8 := hcl.2.2.2; split at h8 <;> omega⟩) (by rw [← ek_7]; exact hkk.symm)).trans (by rw [← ek_7]; exact (hv_ck_2 (by rcases hr_22 with z | z; exact z.2.2.1; exfalso; omega) (by have h8 := (hv_N_0 hr_30.1 (by omega)).2; rw [ha1] at h8; exact h8))))), (fun z9 => absurd z9 (by decide))⟩⟩, hT, hM⟩ dX6_readClause_113
          · skip
            obtain ⟨n1_35F, nv_36, n1_35N, n1_35D⟩ := hv_N_1 hr_30.1 (by omega)
            refine lv_iload_n hx hb dX6_readClause_93 rfl (lv_at hl 0 rfl) ?_
            refine lv_bipush (v := 6) hx hb dX6_readClause_94 (by decide) ?_
            refine hb_icmp_ne (zx := r_10.toInt) (zy := 6) (tgt := 108) hx hb rfl (by decide) dX6_readClause_96 (by decide) (fun c_37 => ?_) (fun c_37 => ?_)
            · skip
              refine lv_iconst (v := 1) hx hb dX6_readClause_108 (by decide) ?_
              refine lv_goto (tgt := 113) hx hb dX6_readClause_109 (by decide) ?_
              exact hx_retz hx hb hr rfl hlk hW ⟨⟨w_31, w_32, tm0, pl0, pf, w_23, w_33, fw_31, fw_32, f_x_5, f_qi_4, af_qp, fw_23, fw_33, ⟨(hv_CK_t (x := w_31.toInt.toNat) (by decide) (by omega) (by omega) (by rcases hr_22 with z | z; exact z.2.2.2; exfalso; omega) (hv_rC_u (by omega) (by omega) n1_35D) hO ((hv_cl_k (k := (r_10.toInt - 1).toNat) (by rw [← ek_7]; exact ⟨by omega, by have h8 := hcl.2.2.2; split at h8 <;> omega⟩) (by rw [← ek_7]; exact hkk.symm)).trans (by rw [← ek_7]; exact (hv_ck_3 (by rcases hr_22 with z | z; exact z.2.2.1; exfalso; omega) (by have h8 := n1_35N; rw [ha1] at h8; exact h8) (by omega))))), fun _ => ⟨by omega, by omega, by omega, by omega, fun z8 => by rcases hr_22 with z | z; (rw [z.2.2.2, hv_ub_ne (by omega)] at z8; exact hTM z8); exfalso; omega⟩⟩⟩, hT, hM⟩ dX6_readClause_113
            · skip
              refine lv_aload_n hx hb dX6_readClause_99 rfl (lv_at hl 2 rfl) ?_
              refine lv_bipush (v := 7) hx hb dX6_readClause_100 (by decide) ?_
              have zc_7 : (7 : Int32).toInt = 7 := by decide
              refine hx_goi (hx_runVX (As := [.int (7 : Int32)]) (rest := []) ⟨hx, hb, hml, hown, hts⟩ hW (gx.S hM) tt_6 (T := TX6) (N := 7) rfl (t_X6_readTold_v l dC dI dA L_26 h_27 H.size b0 x (7 : Int32) hT (gx.S hM) qt (gqt.S hM) ((hM.o gx trivial rfl).2.trans f_x_0) qi (gqi.S hM) ((hM.o gx trivial rfl).2.trans f_x_6) qd (gqd.S hM) ((hM.o gqi trivial rfl).2.trans f_qi_2) tf (hx_afS hM gqt rfl af_qt) w_33 fw_33 w_31 fw_31 ln0 ((hM.o gx trivial rfl).1.trans f_x_1) w_32 fw_32 (by decide) (by omega)) hZ (cwV 1 hts (hx_gV kw_540 kw_537 kw_539 kw_9 kw_95) rfl rfl rfl (by decide +kernel) ⟨Nat.le_of_ble_eq_true rfl, Nat.le_of_ble_eq_true rfl⟩) rfl hl.1 rfl (Nat.le_of_ble_eq_true rfl) dX6_readClause_102 ⟨Nat.le_of_ble_eq_true rfl, Nat.le_of_ble_eq_true rfl⟩) hW (fun r_40 L_38 h_39 H locs p_41 hW => ?_)
              obtain ⟨⟨w_43, w_44, w_45, fw_43, fw_44, fw_45, hr_42⟩, hT, hs⟩ := p_41
              replace hT : hx_T T_tb L_38 h_39 := hT
              replace hs : hx_S T_tb [(6, 2), (6, 3), (127, 0)] L_26 h_27 L_38 h_39 := hs
              replace f_x_5 := (hs.o (gx.S hM) trivial rfl).1.trans f_x_5
              replace f_qi_4 := (hs.o (gqi.S hM) trivial rfl).1.trans f_qi_4
              replace fw_23 := (hs.o (gx.S hM) trivial rfl).1.trans fw_23
              replace af_qp : h_39.2.1 qp = pf := (funext fun j => (hs.a (gqp.S hM) rfl j).1).trans af_qp
              replace hM := hM.tr (hs.mono (by decide))
              have fw_43 : h_39.2.1 x 2 = w_43 := fw_43
              have bw_43 := hT.gi (gx.S hM) tt_6 (k := 2) rfl
              rw [fw_43] at bw_43
              have bw_43 : 0 ≤ w_43.toInt ∧ w_43.toInt ≤ 402 := bw_43
              have fw_44 : h_39.2.1 x 3 = w_44 := fw_44
              have bw_44 := hT.gi (gx.S hM) tt_6 (k := 3) rfl
              rw [fw_44] at bw_44
              have bw_44 : -2147483648 ≤ w_44.toInt ∧ w_44.toInt ≤ 2147483647 := bw_44
              have fw_45 : h_39.2.1 qd = w_45 := fw_45
              have hr_42B := hr_42.2
              have hr_42b := hv_N_b hr_42.1
              refine hb_if_eq (zx := r_40.toInt) (tgt := 112) hx hb rfl dX6_readClause_105 (by decide) (fun c_46 => ?_) (fun c_46 => ?_)
              · skip
                refine lv_iconst (v := 0) hx hb dX6_readClause_112 (by decide) ?_
                exact hx_retz hx hb hr rfl hlk hW ⟨⟨w_43, w_44, tm0, pl0, pf, w_23, w_45, fw_43, fw_44, f_x_5, f_qi_4, af_qp, fw_23, fw_45, ⟨(hv_CK_f (x := w_44.toInt.toNat) (by decide) (by have h8 := (hv_N_0 hr_42.1 (by omega)).1; omega) (by have h8 := (hv_N_0 hr_42.1 (by omega)).1; omega) ((hv_cl_k (k := (r_10.toInt - 1).toNat) (by rw [← ek_7]; exact ⟨by omega, by have h8 := hcl.2.2.2; split at h8 <;> omega⟩) (by rw [← ek_7]; exact hkk.symm)).trans (by rw [← ek_7]; exact (by have h5 : hv_sC to0 (r_10.toInt - 1).toNat = false := (by rcases hr_22 with z | z; exact z.2.2.1; exfalso; omega); rw [show (r_10.toInt - 1).toNat = 5 by omega] at h5; have h6 := (by have h8 := n1_35N; rw [ha1] at h8; exact h8); rw [show (r_10.toInt - 1).toNat = 5 by omega] at h6; rw [show (r_10.toInt - 1).toNat = 5 by omega]; exact hv_ck_4 h5 h6 (by have h8 := (hv_N_0 hr_42.1 (by omega)).2; rw [show ((7 : Int32).toInt - 1).toNat = 6 by decide] at h8; exact h8))))), (fun z9 => absurd z9 (by decide))⟩⟩, hT, hM⟩ dX6_readClause_113
              · skip
                obtain ⟨n1_47F, nv_48, n1_47N, n1_47D⟩ := hv_N_1 hr_42.1 (by omega)
                refine lv_iconst (v := 1) hx hb dX6_readClause_108 (by decide) ?_
                refine lv_goto (tgt := 113) hx hb dX6_readClause_109 (by decide) ?_
                exact hx_retz hx hb hr rfl hlk hW ⟨⟨w_43, w_44, tm0, pl0, pf, w_23, w_45, fw_43, fw_44, f_x_5, f_qi_4, af_qp, fw_23, fw_45, ⟨(hv_CK_t (x := w_43.toInt.toNat) (by decide) (by omega) (by omega) (by rcases hr_22 with z | z; exact z.2.2.2.trans (congrArg (hv_ub (hv_sC to0)) (show (r_10.toInt - 1).toNat = 5 by omega)); exfalso; omega) (by rw [hv_rC_u (i := 7) (by decide) (by decide) n1_47D, hv_rC_u (by omega) (by omega) n1_35D, show (r_10.toInt - 1).toNat = 5 by omega] <;> rfl) hO ((hv_cl_k (k := (r_10.toInt - 1).toNat) (by rw [← ek_7]; exact ⟨by omega, by have h8 := hcl.2.2.2; split at h8 <;> omega⟩) (by rw [← ek_7]; exact hkk.symm)).trans (by rw [← ek_7]; exact (by have h5 : hv_sC to0 (r_10.toInt - 1).toNat = false := (by rcases hr_22 with z | z; exact z.2.2.1; exfalso; omega); rw [show (r_10.toInt - 1).toNat = 5 by omega] at h5; have h6 := (by have h8 := n1_35N; rw [ha1] at h8; exact h8); rw [show (r_10.toInt - 1).toNat = 5 by omega] at h6; rw [show (r_10.toInt - 1).toNat = 5 by omega]; exact hv_ck_5 h5 h6 (by have h8 := n1_47N; rw [show ((7 : Int32).toInt - 1).toNat = 6 by decide] at h8; exact h8))))), fun _ => ⟨by omega, by omega, by omega, by omega, fun z8 => by rcases hr_22 with z | z; (rw [z.2.2.2, hv_ub_ne (by omega)] at z8; exact hTM z8); exfalso; omega⟩⟩⟩, hT, hM⟩ dX6_readClause_113
      · skip
        have hw20 : hv_wd tf ln0.toInt.toNat w_6.toInt.toNat = 20 := by have h8 := hcl.2.2.2; rw [if_neg (by omega)] at h8; omega
        refine lv_aload_n hx hb dX6_readClause_44 rfl (lv_at hl 2 rfl) ?_
        refine hk_getr hx hb hts hC_6 hown hW (gx.S hM) tt_6 6 (by decide) rfl kw_131 ⟨rfl, rfl, rfl⟩ ((hM.o gx trivial rfl).2.trans f_x_6) dX6_readClause_45 ?_
        refine lv_iconst (v := 0) hx hb dX6_readClause_48 (by decide) ?_
        refine hx_puti hx hb hts hC_0 hown hW hT (hx_S.rf (M := [(129, 4)])) (gqi.S hM) tt_129 4 (by decide) rfl kw_174 ⟨rfl, rfl, rfl⟩ rfl (x := (0 : Int32)) (by decide) rfl rfl rfl (List.mem_singleton.mpr rfl) dX6_readClause_49 (fun H locs h_49 eh_49 hW hT hs => ?_)
        replace f_x_3 := (hs.o (gx.S hM) trivial rfl).1.trans f_x_3
        replace f_x_5 := (hs.o (gx.S hM) trivial rfl).1.trans f_x_5
        replace f_x_4 := (hs.o (gx.S hM) trivial rfl).1.trans f_x_4
        replace fw_13 := (hs.o (gx.S hM) trivial rfl).1.trans fw_13
        replace af_qp : h_49.2.1 qp = pf := (funext fun j => (hs.a (gqp.S hM) rfl j).1).trans af_qp
        replace af_qd : h_49.2.1 qd = df := (funext fun j => (hs.a (gqd.S hM) rfl j).1).trans af_qd
        replace hM := hM.tr (hs.mono (by decide))
        have f_50 : h_49.2.1 qi 4 = (0 : Int32) := by rw [eh_49]; exact hx_pi_at _ _ _ _
        refine lv_aload_n hx hb dX6_readClause_52 rfl (lv_at hl 2 rfl) ?_
        refine lv_bipush (v := 14) hx hb dX6_readClause_53 (by decide) ?_
        refine lv_iload_n hx hb dX6_readClause_55 rfl (lv_at hl 1 rfl) ?_
        have zc_14 : (14 : Int32).toInt = 14 := by decide
        refine hx_goi (hx_runV (As := [.int (14 : Int32), .int w_6]) (rest := []) ⟨hx, hb, hml, hown, hts⟩ hW (gx.S hM) tt_6 (T := TX6) (N := 7) rfl (t_X6_tellOnce_v l dC dI dA L_8 h_49 H.size x (14 : Int32) w_6 hT (gx.S hM) to0 f_x_4 ft0 f_x_3 (by decide) ⟨by omega, by omega⟩) (cwV 2 hts (hx_gV kw_536 kw_533 kw_535 kw_8 kw_95) rfl rfl rfl (by decide +kernel) ⟨Nat.le_of_ble_eq_true rfl, Nat.le_of_ble_eq_true rfl⟩) rfl hl.1 rfl (Nat.le_of_ble_eq_true rfl) dX6_readClause_56 ⟨Nat.le_of_ble_eq_true rfl, Nat.le_of_ble_eq_true rfl⟩) hW (fun r_53 L_51 h_52 H locs p_54 hW => ?_)
        obtain ⟨⟨w_56, w_57, fw_56, fw_57, hr_55⟩, hT, hs⟩ := p_54
        replace hT : hx_T T_tb L_51 h_52 := hT
        replace hs : hx_S T_tb [(6, 3), (6, 4)] L_8 h_49 L_51 h_52 := hs
        replace f_x_5 := (hs.o (gx.S hM) trivial rfl).1.trans f_x_5
        replace fw_13 := (hs.o (gx.S hM) trivial rfl).1.trans fw_13
        replace f_50 := (hs.o (gqi.S hM) trivial rfl).1.trans f_50
        replace af_qp : h_52.2.1 qp = pf := (funext fun j => (hs.a (gqp.S hM) rfl j).1).trans af_qp
        replace af_qd : h_52.2.1 qd = df := (funext fun j => (hs.a (gqd.S hM) rfl j).1).trans af_qd
        replace hM := hM.tr (hs.mono (by decide))
        have fw_56 : h_52.2.1 x 4 = w_56 := fw_56
        have bw_56 := hT.gi (gx.S hM) tt_6 (k := 4) rfl
        rw [fw_56] at bw_56
        have bw_56 : -2147483648 ≤ w_56.toInt ∧ w_56.toInt ≤ 2147483647 := bw_56
        have fw_57 : h_52.2.1 x 3 = w_57 := fw_57
        have bw_57 := hT.gi (gx.S hM) tt_6 (k := 3) rfl
        rw [fw_57] at bw_57
        have bw_57 : -2147483648 ≤ w_57.toInt ∧ w_57.toInt ≤ 2147483647 := bw_57
        refine hb_if_eq (zx := r_53.toInt) (tgt := 74) hx hb rfl dX6_readClause_59 (by decide) (fun c_58 => ?_) (fun c_58 => ?_)
        · skip
          refine lv_iconst (v := 0) hx hb dX6_readClause_74 (by decide) ?_
          have zo_0 : (0 : Int32).toInt = 0 := by decide
          exact hx_retz hx hb hr rfl hlk hW ⟨⟨w_13, w_57, tm0, (0 : Int32), pf, w_56, df, fw_13, fw_57, f_x_5, f_50, af_qp, fw_56, af_qd, ⟨(hv_CK_f (x := 3 + 8 * w_6.toInt.toNat) (by first | decide | omega) (by omega) (by omega) ((hv_cl_p1 (by rw [← ek_7]; exact hw20) (by rcases hr_55 with z | z; (exfalso; omega); exact z.2.1)).trans (by rw [← ek_7]))), (fun z9 => absurd z9 (by decide))⟩⟩, hT, hM⟩ dX6_readClause_75
        · skip
          have hs13 : hv_sC to0 13 = false := by rcases hr_55 with z | z; exact z.2.2.1; exfalso; omega
          have htz := hTM hs13
          refine lv_aload_n hx hb dX6_readClause_62 rfl (lv_at hl 2 rfl) ?_
          refine lv_iconst (v := 0) hx hb dX6_readClause_63 (by decide) ?_
          have zc_0 : (0 : Int32).toInt = 0 := by decide
          have zq_0 : (0 : Int32).toInt = 0 := by decide
          refine hx_goi (hx_runVX (As := [.int (0 : Int32)]) (rest := []) ⟨hx, hb, hml, hown, hts⟩ hW (gx.S hM) tt_6 (T := TX6) (N := 7) rfl (t_X6_readEither_v0 l dC dI dA L_51 h_52 H.size b0 x hT (gx.S hM) qt (gqt.S hM) ((hM.o gx trivial rfl).2.trans f_x_0) qi (gqi.S hM) ((hM.o gx trivial rfl).2.trans f_x_6) qp (gqp.S hM) ((hM.o gqi trivial rfl).2.trans f_qi_3) tf (hx_afS hM gqt rfl af_qt) pf af_qp w_13 fw_13 ln0 ((hM.o gx trivial rfl).1.trans f_x_1) w_57 fw_57 tm0 f_x_5 (0 : Int32) f_50 [] (show hv_ls pf 0 = [] from rfl) (by omega) (by omega) (by omega) ⟨by omega, by omega⟩) hZ (cwV 1 hts (hx_gV kw_556 kw_553 kw_555 kw_12 kw_95) rfl rfl rfl (by decide +kernel) ⟨Nat.le_of_ble_eq_true rfl, Nat.le_of_ble_eq_true rfl⟩) rfl hl.1 rfl (Nat.le_of_ble_eq_true rfl) dX6_readClause_64 ⟨Nat.le_of_ble_eq_true rfl, Nat.le_of_ble_eq_true rfl⟩) hW (fun r_61 L_59 h_60 H locs p_62 hW => ?_)
          obtain ⟨⟨w_64, w_65, w_66, w_67, w_68, fw_64, fw_65, fw_66, fw_67, fw_68, hr_63⟩, hT, hs⟩ := p_62
          replace hT : hx_T T_tb L_59 h_60 := hT
          replace hs : hx_S T_tb [(6, 2), (6, 3), (6, 5), (128, 0), (129, 4)] L_51 h_52 L_59 h_60 := hs
          replace fw_56 := (hs.o (gx.S hM) trivial rfl).1.trans fw_56
          replace af_qd : h_60.2.1 qd = df := (funext fun j => (hs.a (gqd.S hM) rfl j).1).trans af_qd
          replace hM := hM.tr (hs.mono (by decide))
          have fw_64 : h_60.2.1 x 2 = w_64 := fw_64
          have bw_64 := hT.gi (gx.S hM) tt_6 (k := 2) rfl
          rw [fw_64] at bw_64
          have bw_64 : 0 ≤ w_64.toInt ∧ w_64.toInt ≤ 402 := bw_64
          have fw_65 : h_60.2.1 x 3 = w_65 := fw_65
          have bw_65 := hT.gi (gx.S hM) tt_6 (k := 3) rfl
          rw [fw_65] at bw_65
          have bw_65 : -2147483648 ≤ w_65.toInt ∧ w_65.toInt ≤ 2147483647 := bw_65
          have fw_66 : h_60.2.1 x 5 = w_66 := fw_66
          have bw_66 := hT.gi (gx.S hM) tt_6 (k := 5) rfl
          rw [fw_66] at bw_66
          have bw_66 : -2147483648 ≤ w_66.toInt ∧ w_66.toInt ≤ 2147483647 := bw_66
          have fw_67 : h_60.2.1 qi 4 = w_67 := fw_67
          have bw_67 := hT.gi (gqi.S hM) tt_129 (k := 4) rfl
          rw [fw_67] at bw_67
          have bw_67 : 0 ≤ w_67.toInt ∧ w_67.toInt ≤ 160 := bw_67
          have fw_68 : h_60.2.1 qp = w_68 := fw_68
          have hr_63b := hv_K_b hr_63
          refine hb_if_eq (zx := r_61.toInt) (tgt := 74) hx hb rfl dX6_readClause_67 (by decide) (fun c_69 => ?_) (fun c_69 => ?_)
          · skip
            refine lv_iconst (v := 0) hx hb dX6_readClause_74 (by decide) ?_
            exact hx_retz hx hb hr rfl hlk hW ⟨⟨w_64, w_65, w_66, w_67, w_68, w_56, df, fw_64, fw_65, fw_66, fw_67, fw_68, fw_56, af_qd, ⟨(hv_CK_f (x := w_65.toInt.toNat) (by decide) (by have h8 := (hv_K_0 hr_63 (by omega)).1; omega) (by have h8 := (hv_K_0 hr_63 (by omega)).1; omega) (hv_cl_p2 (by rw [← ek_7]; exact hw20) hs13 (by have h8 := (hv_K_0 hr_63 (by omega)).2; rw [ha1, show tm0.toInt.toNat = 0 by omega] at h8; rw [← ek_7]; exact h8))), (fun z9 => absurd z9 (by decide))⟩⟩, hT, hM⟩ dX6_readClause_75
          · skip
            obtain ⟨k1_70F, k1_70p, k1_70t, oo_71, k1_70O, k1_70E⟩ := hv_K_1 hr_63 (by omega)
            have k1_70l := hv_ls_l k1_70O
            replace hr_63b : r_61.toInt = 1 := by omega
            have k1_70g := hv_LE_g k1_70E (by omega)
            refine lv_iconst (v := 1) hx hb dX6_readClause_70 (by decide) ?_
            refine lv_goto (tgt := 75) hx hb dX6_readClause_71 (by decide) ?_
            exact hx_retz hx hb hr rfl hlk hW ⟨⟨w_64, w_65, w_66, w_67, w_68, w_56, df, fw_64, fw_65, fw_66, fw_67, fw_68, fw_56, af_qd, ⟨(hv_CK_t (x := w_64.toInt.toNat) (by decide) (by omega) (by omega) (by rcases hr_55 with z | z; exact z.2.2.2; exfalso; omega) rfl k1_70O (hv_cl_p3 (by rw [← ek_7]; exact hw20) hs13 (by have h8 := k1_70E; rw [ha1, show tm0.toInt.toNat = 0 by omega] at h8; rw [← ek_7]; exact h8))), fun _ => ⟨by omega, by omega, by omega, by omega, fun z8 => by exfalso; rcases hr_55 with z | z; (rw [z.2.2.2] at z8; exact absurd (hv_ub_at.symm.trans z8) (by decide)); omega⟩⟩⟩, hT, hM⟩ dX6_readClause_75
    · skip
      have hw19 : hv_wd tf ln0.toInt.toNat w_6.toInt.toNat = 19 := by have h8 := hcl.2.2.2; rw [if_neg (by omega)] at h8; omega
      refine lv_aload_n hx hb dX6_readClause_33 rfl (lv_at hl 2 rfl) ?_
      refine hx_goi (hx_runVX (As := []) (rest := []) ⟨hx, hb, hml, hown, hts⟩ hW (gx.S hM) tt_6 (T := TX6) (N := 7) rfl (t_X6_readCost_v l dC dI dA L_8 h_9 H.size b0 x hT (gx.S hM) qt (gqt.S hM) ((hM.o gx trivial rfl).2.trans f_x_0) qi (gqi.S hM) ((hM.o gx trivial rfl).2.trans f_x_6) qd (gqd.S hM) ((hM.o gqi trivial rfl).2.trans f_qi_2) tf (hx_afS hM gqt rfl af_qt) df af_qd w_13 fw_13 ln0 ((hM.o gx trivial rfl).1.trans f_x_1) ft0 f_x_3 to0 f_x_4 _ o hO (by omega) (by omega)) hZ (cwV 0 hts (hx_gV kw_531 kw_528 kw_530 kw_7 kw_95) rfl rfl rfl (by decide +kernel) ⟨Nat.le_of_ble_eq_true rfl, Nat.le_of_ble_eq_true rfl⟩) rfl hl.1 rfl (Nat.le_of_ble_eq_true rfl) dX6_readClause_34 ⟨Nat.le_of_ble_eq_true rfl, Nat.le_of_ble_eq_true rfl⟩) hW (fun r_74 L_72 h_73 H locs p_75 hW => ?_)
      obtain ⟨⟨w_77, w_78, w_79, w_80, fw_77, fw_78, fw_79, fw_80, hr_76⟩, hT, hs⟩ := p_75
      replace hT : hx_T T_tb L_72 h_73 := hT
      replace hs : hx_S T_tb [(6, 2), (6, 3), (6, 4), (127, 0)] L_8 h_9 L_72 h_73 := hs
      replace f_x_5 := (hs.o (gx.S hM) trivial rfl).1.trans f_x_5
      replace f_qi_4 := (hs.o (gqi.S hM) trivial rfl).1.trans f_qi_4
      replace af_qp : h_73.2.1 qp = pf := (funext fun j => (hs.a (gqp.S hM) rfl j).1).trans af_qp
      replace hM := hM.tr (hs.mono (by decide))
      have fw_77 : h_73.2.1 x 2 = w_77 := fw_77
      have bw_77 := hT.gi (gx.S hM) tt_6 (k := 2) rfl
      rw [fw_77] at bw_77
      have bw_77 : 0 ≤ w_77.toInt ∧ w_77.toInt ≤ 402 := bw_77
      have fw_78 : h_73.2.1 x 3 = w_78 := fw_78
      have bw_78 := hT.gi (gx.S hM) tt_6 (k := 3) rfl
      rw [fw_78] at bw_78
      have bw_78 : -2147483648 ≤ w_78.toInt ∧ w_78.toInt ≤ 2147483647 := bw_78
      have fw_79 : h_73.2.1 x 4 = w_79 := fw_79
      have bw_79 := hT.gi (gx.S hM) tt_6 (k := 4) rfl
      rw [fw_79] at bw_79
      have bw_79 : -2147483648 ≤ w_79.toInt ∧ w_79.toInt ≤ 2147483647 := bw_79
      have fw_80 : h_73.2.1 qd = w_80 := fw_80
      have hr_76b := hv_CK_b hr_76.1
      exact hx_retz hx hb hr (hx_nar01 (by omega)) hlk hW ⟨⟨w_77, w_78, tm0, pl0, pf, w_79, w_80, fw_77, fw_78, f_x_5, f_qi_4, af_qp, fw_79, fw_80, ⟨hv_CK_c hr_76.1 ((hv_cl_c (by rw [← ek_7]; exact hw19)).trans (by rw [← ek_7, ha1])), fun z9 => by have h8 := hr_76.2 z9; exact ⟨by omega, by omega, by omega, by omega, fun z8 => hTM (h8.2.2.symm.trans z8)⟩⟩⟩, hT, hM⟩ dX6_readClause_37
  · skip
    refine lv_aload_n hx hb dX6_readClause_20 rfl (lv_at hl 2 rfl) ?_
    refine lv_iload_n hx hb dX6_readClause_21 rfl (lv_at hl 1 rfl) ?_
    refine lv_iconst (v := 0) hx hb dX6_readClause_22 (by decide) ?_
    have zc_0 : (0 : Int32).toInt = 0 := by decide
    refine hx_goi (hx_runV (As := [.int w_6, .int (0 : Int32)]) (rest := []) ⟨hx, hb, hml, hown, hts⟩ hW (gx.S hM) tt_6 (T := TX6) (N := 7) rfl (t_X6_refuse_v l dC dI dA L_8 h_9 H.size x w_6 (0 : Int32) hT (gx.S hM) ⟨by omega, by omega⟩ (by decide)) (cwV 2 hts (hx_gV kw_527 kw_524 kw_526 kw_6 kw_95) rfl rfl rfl (by decide +kernel) ⟨Nat.le_of_ble_eq_true rfl, Nat.le_of_ble_eq_true rfl⟩) rfl hl.1 rfl (Nat.le_of_ble_eq_true rfl) dX6_readClause_23 ⟨Nat.le_of_ble_eq_true rfl, Nat.le_of_ble_eq_true rfl⟩) hW (fun r_83 L_81 h_82 H locs p_84 hW => ?_)
    obtain ⟨⟨w_86, fw_86, hr_85⟩, hT, hs⟩ := p_84
    replace hT : hx_T T_tb L_81 h_82 := hT
    replace hs : hx_S T_tb [(6, 3)] L_8 h_9 L_81 h_82 := hs
    replace f_x_5 := (hs.o (gx.S hM) trivial rfl).1.trans f_x_5
    replace f_qi_4 := (hs.o (gqi.S hM) trivial rfl).1.trans f_qi_4
    replace f_x_4 := (hs.o (gx.S hM) trivial rfl).1.trans f_x_4
    replace fw_13 := (hs.o (gx.S hM) trivial rfl).1.trans fw_13
    replace af_qp : h_82.2.1 qp = pf := (funext fun j => (hs.a (gqp.S hM) rfl j).1).trans af_qp
    replace af_qd : h_82.2.1 qd = df := (funext fun j => (hs.a (gqd.S hM) rfl j).1).trans af_qd
    replace hM := hM.tr (hs.mono (by decide))
    have fw_86 : h_82.2.1 x 3 = w_86 := fw_86
    have bw_86 := hT.gi (gx.S hM) tt_6 (k := 3) rfl
    rw [fw_86] at bw_86
    have bw_86 : -2147483648 ≤ w_86.toInt ∧ w_86.toInt ≤ 2147483647 := bw_86
    exact hx_retz hx hb hr (hx_nar01 (by omega)) hlk hW ⟨⟨w_13, w_86, tm0, pl0, pf, to0, df, fw_13, fw_86, f_x_5, f_qi_4, af_qp, f_x_4, af_qd, ⟨(hv_CK_f (x := 1 + 8 * w_6.toInt.toNat) (by first | decide | omega) (by omega) (by omega) ((hv_cl_1 (by rw [← ek_7]; omega)).trans (by rw [← ek_7]))), (fun z9 => by exfalso; omega)⟩⟩, hT, hM⟩ dX6_readClause_26


set_option maxHeartbeats 4000000 in
set_option maxRecDepth 100000 in
theorem t_X6_isAnotherClause_v (l : Launch) (dC : Nat → ClassId) (dI : Nat → Nat → Nat) (dA : Nat → ClassId) (L : List Nat) (h : hx_h) (sz : Nat) (x : Nat) (hT : hx_T T_tb L h) (gx : hx_g L h x 6) (qt : Nat) (gqt : hx_g L h qt 42) (f_x_0 : h.2.2 x 0 = some qt) (tf : Nat → Int32) (af_qt : h.2.1 qt = tf) (at0 : Int32) (f_x_2 : h.2.1 x 2 = at0) (ln0 : Int32) (f_x_1 : h.2.1 x 1 = ln0) (ft0 : Int32) (f_x_3 : h.2.1 x 3 = ft0) (hA : at0.toInt ≤ ln0.toInt) : Met l yX6_isAnotherClause (Cond.code yX6_isAnotherClause cX6_isAnotherClause 1 (some .boolean) :: hx_all) ({ frames := 1, cells := 0, slots := 0, locals := 22 }) (va_Pc [.ref x] (hx_B T_tb (P_ty dA) (dC, dI) vwCl L h sz)) (va_Qi (fun (r : Int32) (u : List Nat × hx_h) => (∃ (at1 : Int32) (ft1 : Int32), u.2.2.1 x 2 = at1 ∧ u.2.2.1 x 3 = ft1 ∧ ((r.toInt = 1 ∧ ft1 = ft0 ∧ hv_sk tf ln0.toInt.toNat at0.toInt.toNat < ln0.toInt.toNat ∧ (tf (hv_sk tf ln0.toInt.toNat at0.toInt.toNat)).toInt = 59 ∧ at1.toInt = ((hv_sk tf ln0.toInt.toNat at0.toInt.toNat + 1 : Nat) : Int)) ∨ (r.toInt = 0 ∧ ((ln0.toInt.toNat ≤ hv_sk tf ln0.toInt.toNat at0.toInt.toNat ∧ ft1 = ft0) ∨ (hv_sk tf ln0.toInt.toNat at0.toInt.toNat < ln0.toInt.toNat ∧ (tf (hv_sk tf ln0.toInt.toNat at0.toInt.toNat)).toInt ≠ 59 ∧ ft1.toInt = ((1 + 8 * hv_sk tf ln0.toInt.toNat at0.toInt.toNat : Nat) : Int)))))) ∧ hx_T T_tb u.1 u.2 ∧ hx_S T_tb [(6, 2), (6, 3)] L h u.1 u.2) (hx_E T_tb (P_ty dA) (dC, dI) vwCl (hx_A L sz)) (hx_A L sz)) 0 0 (hx_A L sz) := by
  refine hx_met (lv := [(0, .ref x)]) (by decide +kernel) rfl (Nat.le_of_ble_eq_true rfl) rfl ?_
  intro p e s m below meth c hx hb hml hr hlk hts0 hown hin hsz hW ls hl
  have hts : ∀ w ∈ hx_all, w.before _ s = true := fun w hw => hts0 w (List.mem_cons_of_mem _ hw)
  have hown : s.vm.findClass "SmallCourt$Reader" = some m.cls := hown
  have hM : hx_S T_tb [(6, 2), (6, 3)] L h L h := hx_S.rf
  have b_at0 := hT.gi gx tt_6 (k := 2) rfl
  rw [f_x_2] at b_at0
  have b_at0 : 0 ≤ at0.toInt ∧ at0.toInt ≤ 402 := b_at0
  have b_ln0 := hT.gi gx tt_6 (k := 1) rfl
  rw [f_x_1] at b_ln0
  have b_ln0 : 0 ≤ ln0.toInt ∧ ln0.toInt ≤ 400 := b_ln0
  have b_ft0 := hT.gi gx tt_6 (k := 3) rfl
  rw [f_x_3] at b_ft0
  have b_ft0 : -2147483648 ≤ ft0.toInt ∧ ft0.toInt ≤ 2147483647 := b_ft0
  refine lv_aload_n hx hb dX6_isAnotherClause_0 rfl (lv_at hl 0 rfl) ?_
  refine hx_gov (hx_runV (As := []) (rest := []) ⟨hx, hb, hml, hown, hts⟩ hW (gx.S hM) tt_6 (T := TX6) (N := 7) rfl (t_X6_skipBlanks_v l dC dI dA L h s.heap.size x hT (gx.S hM) qt (gqt.S hM) ((hM.o gx trivial rfl).2.trans f_x_0) tf (hx_afS hM gqt rfl af_qt) at0 f_x_2 ln0 ((hM.o gx trivial rfl).1.trans f_x_1) (by omega)) (cwV 0 hts (hx_gV kw_458 kw_455 kw_457 kw_1 kw_95) rfl rfl rfl (by decide +kernel) ⟨Nat.le_of_ble_eq_true rfl, Nat.le_of_ble_eq_true rfl⟩) rfl hl.1 rfl (Nat.le_of_ble_eq_true rfl) dX6_isAnotherClause_1 ⟨Nat.le_of_ble_eq_true rfl, Nat.le_of_ble_eq_true rfl⟩) hW (fun L_1 h_2 H locs p_4 hW => ?_)
  obtain ⟨⟨w_6, fw_6, hr_5⟩, hT, hs⟩ := p_4
  replace hT : hx_T T_tb L_1 h_2 := hT
  replace hs : hx_S T_tb [(6, 2)] L h L_1 h_2 := hs
  replace f_x_3 := (hs.o (gx.S hM) trivial rfl).1.trans f_x_3
  replace hM := hM.tr (hs.mono (by decide))
  have fw_6 : h_2.2.1 x 2 = w_6 := fw_6
  have bw_6 := hT.gi (gx.S hM) tt_6 (k := 2) rfl
  rw [fw_6] at bw_6
  have bw_6 : 0 ≤ w_6.toInt ∧ w_6.toInt ≤ 402 := bw_6
  have ek_7 : w_6.toInt.toNat = hv_sk tf ln0.toInt.toNat at0.toInt.toNat := by omega
  refine lv_aload_n hx hb dX6_isAnotherClause_4 rfl (lv_at hl 0 rfl) ?_
  refine hk_geti hx hb hts hC_6 hown hW (gx.S hM) tt_6 2 (by decide) rfl kw_127 ⟨rfl, rfl, rfl⟩ fw_6 dX6_isAnotherClause_5 ?_
  refine lv_aload_n hx hb dX6_isAnotherClause_8 rfl (lv_at hl 0 rfl) ?_
  refine hk_geti hx hb hts hC_6 hown hW (gx.S hM) tt_6 1 (by decide) rfl kw_126 ⟨rfl, rfl, rfl⟩ ((hM.o gx trivial rfl).1.trans f_x_1) dX6_isAnotherClause_9 ?_
  refine hb_icmp_lt (zx := w_6.toInt) (zy := ln0.toInt) (tgt := 17) hx hb rfl rfl dX6_isAnotherClause_12 (by decide) (fun c_8 => ?_) (fun c_8 => ?_)
  · skip
    refine lv_aload_n hx hb dX6_isAnotherClause_17 rfl (lv_at hl 0 rfl) ?_
    refine hk_getr hx hb hts hC_6 hown hW (gx.S hM) tt_6 0 (by decide) rfl kw_125 ⟨rfl, rfl, rfl⟩ ((hM.o gx trivial rfl).2.trans f_x_0) dX6_isAnotherClause_18 ?_
    refine lv_aload_n hx hb dX6_isAnotherClause_21 rfl (lv_at hl 0 rfl) ?_
    refine hk_geti hx hb hts hC_6 hown hW (gx.S hM) tt_6 2 (by decide) rfl kw_127 ⟨rfl, rfl, rfl⟩ fw_6 dX6_isAnotherClause_22 ?_
    refine hx_bald hx hb hW hT (gqt.S hM) tt_42 rfl ⟨by omega, by omega⟩ dX6_isAnotherClause_25 (fun x_9 ex_9 lx_9 ux_9 => ?_)
    have ax_9 : x_9 = tf w_6.toNatClampNeg := ex_9.trans (congrFun (hx_afS hM gqt rfl af_qt) _)
    refine lv_bipush (v := 59) hx hb dX6_isAnotherClause_26 (by decide) ?_
    refine hb_icmp_eq (zx := x_9.toInt) (zy := 59) (tgt := 41) hx hb rfl (by decide) dX6_isAnotherClause_28 (by decide) (fun c_10 => ?_) (fun c_10 => ?_)
    · skip
      refine lv_aload_n hx hb dX6_isAnotherClause_41 rfl (lv_at hl 0 rfl) ?_
      refine lv_dup hx hb dX6_isAnotherClause_42 rfl ?_
      refine hk_geti hx hb hts hC_6 hown hW (gx.S hM) tt_6 2 (by decide) rfl kw_127 ⟨rfl, rfl, rfl⟩ fw_6 dX6_isAnotherClause_43 ?_
      refine lv_iconst (v := 1) hx hb dX6_isAnotherClause_46 (by decide) ?_
      refine lv_iadd hx hb dX6_isAnotherClause_47 ?_
      have rg_11 := i32_r w_6
      refine lv_topi (fun x_12 ex_12 => ?_)
      have zx_12 : x_12.toInt = w_6.toInt + 1 := by rw [ex_12]; exact i32_add rfl (by decide) (by omega) (by omega)
      refine hx_puti hx hb hts hC_6 hown hW hT (hx_S.rf (M := [(6, 2)])) (gx.S hM) tt_6 2 (by decide) rfl kw_127 ⟨rfl, rfl, rfl⟩ rfl (x := x_12) ⟨by omega, by omega⟩ rfl rfl rfl (List.mem_singleton.mpr rfl) dX6_isAnotherClause_48 (fun H locs h_13 eh_13 hW hT hs => ?_)
      replace f_x_3 := (hs.o (gx.S hM) trivial rfl).1.trans f_x_3
      replace ex_9 := ex_9.trans (hs.a (gqt.S hM) rfl _).1.symm
      replace hM := hM.tr (hs.mono (by decide))
      have f_14 : h_13.2.1 x 2 = x_12 := by rw [eh_13]; exact hx_pi_at _ _ _ _
      refine lv_iconst (v := 1) hx hb dX6_isAnotherClause_51 (by decide) ?_
      exact hx_retz hx hb hr rfl hlk hW ⟨⟨x_12, ft0, f_14, f_x_3, (Or.inl ⟨by decide, rfl, (by rw [← ek_7]; omega), (by rw [← ek_7]; show (tf w_6.toNatClampNeg).toInt = 59; rw [← ax_9]; omega), (by rw [← ek_7]; omega)⟩)⟩, hT, hM⟩ dX6_isAnotherClause_52
    · skip
      refine lv_aload_n hx hb dX6_isAnotherClause_31 rfl (lv_at hl 0 rfl) ?_
      refine lv_aload_n hx hb dX6_isAnotherClause_32 rfl (lv_at hl 0 rfl) ?_
      refine hk_geti hx hb hts hC_6 hown hW (gx.S hM) tt_6 2 (by decide) rfl kw_127 ⟨rfl, rfl, rfl⟩ fw_6 dX6_isAnotherClause_33 ?_
      refine lv_iconst (v := 0) hx hb dX6_isAnotherClause_36 (by decide) ?_
      have zc_0 : (0 : Int32).toInt = 0 := by decide
      refine hx_goi (hx_runV (As := [.int w_6, .int (0 : Int32)]) (rest := []) ⟨hx, hb, hml, hown, hts⟩ hW (gx.S hM) tt_6 (T := TX6) (N := 7) rfl (t_X6_refuse_v l dC dI dA L_1 h_2 H.size x w_6 (0 : Int32) hT (gx.S hM) ⟨by omega, by omega⟩ (by decide)) (cwV 2 hts (hx_gV kw_527 kw_524 kw_526 kw_6 kw_95) rfl rfl rfl (by decide +kernel) ⟨Nat.le_of_ble_eq_true rfl, Nat.le_of_ble_eq_true rfl⟩) rfl hl.1 rfl (Nat.le_of_ble_eq_true rfl) dX6_isAnotherClause_37 ⟨Nat.le_of_ble_eq_true rfl, Nat.le_of_ble_eq_true rfl⟩) hW (fun r_17 L_15 h_16 H locs p_18 hW => ?_)
      obtain ⟨⟨w_20, fw_20, hr_19⟩, hT, hs⟩ := p_18
      replace hT : hx_T T_tb L_15 h_16 := hT
      replace hs : hx_S T_tb [(6, 3)] L_1 h_2 L_15 h_16 := hs
      replace fw_6 := (hs.o (gx.S hM) trivial rfl).1.trans fw_6
      replace ex_9 := ex_9.trans (hs.a (gqt.S hM) rfl _).1.symm
      replace hM := hM.tr (hs.mono (by decide))
      have fw_20 : h_16.2.1 x 3 = w_20 := fw_20
      have bw_20 := hT.gi (gx.S hM) tt_6 (k := 3) rfl
      rw [fw_20] at bw_20
      have bw_20 : -2147483648 ≤ w_20.toInt ∧ w_20.toInt ≤ 2147483647 := bw_20
      exact hx_retz hx hb hr (hx_nar01 (by omega)) hlk hW ⟨⟨w_6, w_20, fw_6, fw_20, (Or.inr ⟨by omega, Or.inr ⟨(by rw [← ek_7]; omega), (by rw [← ek_7]; show (tf w_6.toNatClampNeg).toInt ≠ 59; rw [← ax_9]; omega), (by rw [← ek_7]; omega)⟩⟩)⟩, hT, hM⟩ dX6_isAnotherClause_40
  · skip
    refine lv_iconst (v := 0) hx hb dX6_isAnotherClause_15 (by decide) ?_
    exact hx_retz hx hb hr rfl hlk hW ⟨⟨w_6, ft0, fw_6, f_x_3, (Or.inr ⟨by decide, Or.inl ⟨(by rw [← ek_7]; omega), rfl⟩⟩)⟩, hT, hM⟩ dX6_isAnotherClause_16


set_option maxHeartbeats 4000000 in
set_option maxRecDepth 100000 in
theorem t_X6_readAct_v (l : Launch) (dC : Nat → ClassId) (dI : Nat → Nat → Nat) (dA : Nat → ClassId) (L : List Nat) (h : hx_h) (sz : Nat) (b0 : hx_z) (x : Nat) (v1 : Nat) (i2 : Int32) (v3 : Nat) (hT : hx_T T_tb L h) (gx : hx_g L h x 6) (gv1 : hx_g L h v1 42) (gv3 : hx_g L h v3 129) (qp : Nat) (gqp : hx_g L h qp 128) (f_v3_3 : h.2.2 v3 3 = some qp) (qd : Nat) (gqd : hx_g L h qd 127) (f_v3_2 : h.2.2 v3 2 = some qd) (tf : Nat → Int32) (af_v1 : h.2.1 v1 = tf) (pf : Nat → Int32) (af_qp : h.2.1 qp = pf) (df : Nat → Int32) (af_qd : h.2.1 qd = df) (pl0 : Int32) (f_v3_4 : h.2.1 v3 4 = pl0) (hi2 : 0 ≤ i2.toInt ∧ i2.toInt ≤ 400) (o : List hv_tok) (hO : hv_ls pf pl0.toInt.toNat = o.map hv_cc) : Met l yX6_readAct (Cond.code yX6_readAct cX6_readAct 6 (some .int) :: hx_all) ({ frames := 26, cells := 0, slots := 0, locals := 594 }) (va_Pc [.ref x, .ref v1, .int i2, .ref v3] (hx_BX T_tb (P_ty dA) (dC, dI) vwCl L h sz b0)) (va_Qi (fun (r : Int32) (u : List Nat × hx_h) => (∃ (pl1 : Int32) (pf1 : Nat → Int32) (df1 : Nat → Int32), u.2.2.1 v3 4 = pl1 ∧ u.2.2.1 qp = pf1 ∧ u.2.2.1 qd = df1 ∧ (hv_AR hv_cc (hv_ACT tf i2.toInt.toNat (hv_rC df) o) r.toInt (hv_rC df1) (hv_ls pf1 pl1.toInt.toNat))) ∧ hx_T T_tb u.1 u.2 ∧ hx_S T_tb [(6, 0), (6, 1), (6, 2), (6, 3), (6, 4), (6, 5), (6, 6), (127, 0), (128, 0), (129, 4)] L h u.1 u.2) (hx_E T_tb (P_ty dA) (dC, dI) vwCl (hx_A L sz)) (hx_A L sz)) 0 0 (hx_A L sz) := by
  refine hx_metX (lv := [(0, .ref x), (1, .ref v1), (2, .int i2), (3, .ref v3)]) (by decide +kernel) rfl (Nat.le_of_ble_eq_true rfl) rfl ?_
  intro p e s m below meth c hx hb hml hr hlk hts0 hown hin hsz hW hZ ls hl
  have hts : ∀ w ∈ hx_all, w.before _ s = true := fun w hw => hts0 w (List.mem_cons_of_mem _ hw)
  have hown : s.vm.findClass "SmallCourt$Reader" = some m.cls := hown
  have hM : hx_S T_tb [(6, 0), (6, 1), (6, 2), (6, 3), (6, 4), (6, 5), (6, 6), (127, 0), (128, 0), (129, 4)] L h L h := hx_S.rf
  obtain ⟨zLT, zLA, zMT, zMA, zCS, zSF, zVS, zVR⟩ := hZ.2.2.2.2.2.2
  have b_pl0 := hT.gi gv3 tt_129 (k := 4) rfl
  rw [f_v3_4] at b_pl0
  have b_pl0 : 0 ≤ pl0.toInt ∧ pl0.toInt ≤ 160 := b_pl0
  refine lv_aload_n hx hb dX6_readAct_0 rfl (lv_at hl 0 rfl) ?_
  refine lv_aload_n hx hb dX6_readAct_1 rfl (lv_at hl 1 rfl) ?_
  refine hx_putr hx hb hts hC_6 hown hW hT (hx_S.rf (M := [(6, 0)])) (gx.S hM) tt_6 0 (by decide) rfl kw_125 ⟨rfl, rfl, rfl⟩ rfl (x := (some v1)) ⟨fun _ z => (by cases z), fun q hq => (by cases hq; exact ⟨(gv1.S hM).1, by rw [(gv1.S hM).2]; decide⟩)⟩ rfl rfl rfl (List.mem_singleton.mpr rfl) dX6_readAct_2 (fun H locs h_1 eh_1 hW hT hs => ?_)
  replace f_v3_4 := (hs.o (gv3.S hM) trivial rfl).1.trans f_v3_4
  replace af_qp : h_1.2.1 qp = pf := (funext fun j => (hs.a (gqp.S hM) rfl j).1).trans af_qp
  replace af_qd : h_1.2.1 qd = df := (funext fun j => (hs.a (gqd.S hM) rfl j).1).trans af_qd
  replace hM := hM.tr (hs.mono (by decide))
  have f_2 : h_1.2.2 x 0 = (some v1) := by rw [eh_1]; exact hx_pr_at _ _ _ _
  refine lv_aload_n hx hb dX6_readAct_5 rfl (lv_at hl 0 rfl) ?_
  refine lv_iload_n hx hb dX6_readAct_6 rfl (lv_at hl 2 rfl) ?_
  refine hb_if_lt (zx := i2.toInt) (tgt := 16) hx hb rfl dX6_readAct_7 (by decide) (fun c_3 => by exfalso; omega) (fun c_3 => ?_)
  refine lv_iload_n hx hb dX6_readAct_10 rfl (lv_at hl 2 rfl) ?_
  refine lv_aload_n hx hb dX6_readAct_11 rfl (lv_at hl 1 rfl) ?_
  refine hx_alen hx hb hW (gv1.S hM) tt_42 rfl dX6_readAct_12 ?_
  refine lv_topi (fun x_4 ex_4 => ?_)
  obtain rfl : x_4 = (400 : Int32) := ex_4.trans (by decide)
  refine hb_icmp_le (zx := i2.toInt) (zy := 400) (tgt := 20) hx hb rfl (by decide) dX6_readAct_13 (by decide) (fun c_5 => ?_) (fun c_5 => by exfalso; omega)
  refine lv_iload_n hx hb dX6_readAct_20 rfl (lv_at hl 2 rfl) ?_
  refine hx_puti hx hb hts hC_6 hown hW hT (hx_S.rf (M := [(6, 1)])) (gx.S hM) tt_6 1 (by decide) rfl kw_126 ⟨rfl, rfl, rfl⟩ rfl (x := i2) ⟨by omega, by omega⟩ rfl rfl rfl (List.mem_singleton.mpr rfl) dX6_readAct_21 (fun H locs h_6 eh_6 hW hT hs => ?_)
  replace f_v3_4 := (hs.o (gv3.S hM) trivial rfl).1.trans f_v3_4
  replace f_2 := (hs.o (gx.S hM) trivial rfl).2.trans f_2
  replace af_qp : h_6.2.1 qp = pf := (funext fun j => (hs.a (gqp.S hM) rfl j).1).trans af_qp
  replace af_qd : h_6.2.1 qd = df := (funext fun j => (hs.a (gqd.S hM) rfl j).1).trans af_qd
  replace hM := hM.tr (hs.mono (by decide))
  have f_7 : h_6.2.1 x 1 = i2 := by rw [eh_6]; exact hx_pi_at _ _ _ _
  refine lv_aload_n hx hb dX6_readAct_24 rfl (lv_at hl 0 rfl) ?_
  refine lv_iconst (v := 0) hx hb dX6_readAct_25 (by decide) ?_
  refine hx_puti hx hb hts hC_6 hown hW hT (hx_S.rf (M := [(6, 2)])) (gx.S hM) tt_6 2 (by decide) rfl kw_127 ⟨rfl, rfl, rfl⟩ rfl (x := (0 : Int32)) (by decide) rfl rfl rfl (List.mem_singleton.mpr rfl) dX6_readAct_26 (fun H locs h_8 eh_8 hW hT hs => ?_)
  replace f_v3_4 := (hs.o (gv3.S hM) trivial rfl).1.trans f_v3_4
  replace f_2 := (hs.o (gx.S hM) trivial rfl).2.trans f_2
  replace f_7 := (hs.o (gx.S hM) trivial rfl).1.trans f_7
  replace af_qp : h_8.2.1 qp = pf := (funext fun j => (hs.a (gqp.S hM) rfl j).1).trans af_qp
  replace af_qd : h_8.2.1 qd = df := (funext fun j => (hs.a (gqd.S hM) rfl j).1).trans af_qd
  replace hM := hM.tr (hs.mono (by decide))
  have f_9 : h_8.2.1 x 2 = (0 : Int32) := by rw [eh_8]; exact hx_pi_at _ _ _ _
  refine lv_aload_n hx hb dX6_readAct_29 rfl (lv_at hl 0 rfl) ?_
  refine lv_iconst (v := 0) hx hb dX6_readAct_30 (by decide) ?_
  refine hx_puti hx hb hts hC_6 hown hW hT (hx_S.rf (M := [(6, 3)])) (gx.S hM) tt_6 3 (by decide) rfl kw_128 ⟨rfl, rfl, rfl⟩ rfl (x := (0 : Int32)) (by decide) rfl rfl rfl (List.mem_singleton.mpr rfl) dX6_readAct_31 (fun H locs h_10 eh_10 hW hT hs => ?_)
  replace f_v3_4 := (hs.o (gv3.S hM) trivial rfl).1.trans f_v3_4
  replace f_2 := (hs.o (gx.S hM) trivial rfl).2.trans f_2
  replace f_7 := (hs.o (gx.S hM) trivial rfl).1.trans f_7
  replace f_9 := (hs.o (gx.S hM) trivial rfl).1.trans f_9
  replace af_qp : h_10.2.1 qp = pf := (funext fun j => (hs.a (gqp.S hM) rfl j).1).trans af_qp
  replace af_qd : h_10.2.1 qd = df := (funext fun j => (hs.a (gqd.S hM) rfl j).1).trans af_qd
  replace hM := hM.tr (hs.mono (by decide))
  have f_11 : h_10.2.1 x 3 = (0 : Int32) := by rw [eh_10]; exact hx_pi_at _ _ _ _
  refine lv_aload_n hx hb dX6_readAct_34 rfl (lv_at hl 0 rfl) ?_
  refine lv_iconst (v := 0) hx hb dX6_readAct_35 (by decide) ?_
  refine hx_puti hx hb hts hC_6 hown hW hT (hx_S.rf (M := [(6, 4)])) (gx.S hM) tt_6 4 (by decide) rfl kw_129 ⟨rfl, rfl, rfl⟩ rfl (x := (0 : Int32)) (by decide) rfl rfl rfl (List.mem_singleton.mpr rfl) dX6_readAct_36 (fun H locs h_12 eh_12 hW hT hs => ?_)
  replace f_v3_4 := (hs.o (gv3.S hM) trivial rfl).1.trans f_v3_4
  replace f_2 := (hs.o (gx.S hM) trivial rfl).2.trans f_2
  replace f_7 := (hs.o (gx.S hM) trivial rfl).1.trans f_7
  replace f_9 := (hs.o (gx.S hM) trivial rfl).1.trans f_9
  replace f_11 := (hs.o (gx.S hM) trivial rfl).1.trans f_11
  replace af_qp : h_12.2.1 qp = pf := (funext fun j => (hs.a (gqp.S hM) rfl j).1).trans af_qp
  replace af_qd : h_12.2.1 qd = df := (funext fun j => (hs.a (gqd.S hM) rfl j).1).trans af_qd
  replace hM := hM.tr (hs.mono (by decide))
  have f_13 : h_12.2.1 x 4 = (0 : Int32) := by rw [eh_12]; exact hx_pi_at _ _ _ _
  refine lv_aload_n hx hb dX6_readAct_39 rfl (lv_at hl 0 rfl) ?_
  refine lv_iconst (v := 0) hx hb dX6_readAct_40 (by decide) ?_
  refine hx_puti hx hb hts hC_6 hown hW hT (hx_S.rf (M := [(6, 5)])) (gx.S hM) tt_6 5 (by decide) rfl kw_130 ⟨rfl, rfl, rfl⟩ rfl (x := (0 : Int32)) (by decide) rfl rfl rfl (List.mem_singleton.mpr rfl) dX6_readAct_41 (fun H locs h_14 eh_14 hW hT hs => ?_)
  replace f_v3_4 := (hs.o (gv3.S hM) trivial rfl).1.trans f_v3_4
  replace f_2 := (hs.o (gx.S hM) trivial rfl).2.trans f_2
  replace f_7 := (hs.o (gx.S hM) trivial rfl).1.trans f_7
  replace f_9 := (hs.o (gx.S hM) trivial rfl).1.trans f_9
  replace f_11 := (hs.o (gx.S hM) trivial rfl).1.trans f_11
  replace f_13 := (hs.o (gx.S hM) trivial rfl).1.trans f_13
  replace af_qp : h_14.2.1 qp = pf := (funext fun j => (hs.a (gqp.S hM) rfl j).1).trans af_qp
  replace af_qd : h_14.2.1 qd = df := (funext fun j => (hs.a (gqd.S hM) rfl j).1).trans af_qd
  replace hM := hM.tr (hs.mono (by decide))
  have f_15 : h_14.2.1 x 5 = (0 : Int32) := by rw [eh_14]; exact hx_pi_at _ _ _ _
  refine lv_aload_n hx hb dX6_readAct_44 rfl (lv_at hl 0 rfl) ?_
  refine lv_aload_n hx hb dX6_readAct_45 rfl (lv_at hl 3 rfl) ?_
  refine hx_putr hx hb hts hC_6 hown hW hT (hx_S.rf (M := [(6, 6)])) (gx.S hM) tt_6 6 (by decide) rfl kw_131 ⟨rfl, rfl, rfl⟩ rfl (x := (some v3)) ⟨fun _ z => (by cases z), fun q hq => (by cases hq; exact ⟨(gv3.S hM).1, by rw [(gv3.S hM).2]; decide⟩)⟩ rfl rfl rfl (List.mem_singleton.mpr rfl) dX6_readAct_46 (fun H locs h_16 eh_16 hW hT hs => ?_)
  replace f_v3_4 := (hs.o (gv3.S hM) trivial rfl).1.trans f_v3_4
  replace f_2 := (hs.o (gx.S hM) trivial rfl).2.trans f_2
  replace f_7 := (hs.o (gx.S hM) trivial rfl).1.trans f_7
  replace f_9 := (hs.o (gx.S hM) trivial rfl).1.trans f_9
  replace f_11 := (hs.o (gx.S hM) trivial rfl).1.trans f_11
  replace f_13 := (hs.o (gx.S hM) trivial rfl).1.trans f_13
  replace f_15 := (hs.o (gx.S hM) trivial rfl).1.trans f_15
  replace af_qp : h_16.2.1 qp = pf := (funext fun j => (hs.a (gqp.S hM) rfl j).1).trans af_qp
  replace af_qd : h_16.2.1 qd = df := (funext fun j => (hs.a (gqd.S hM) rfl j).1).trans af_qd
  replace hM := hM.tr (hs.mono (by decide))
  have f_17 : h_16.2.2 x 6 = (some v3) := by rw [eh_16]; exact hx_pr_at _ _ _ _
  refine lv_aload_n hx hb dX6_readAct_49 rfl (lv_at hl 0 rfl) ?_
  have zq_0 : (0 : Int32).toInt = 0 := by decide
  refine hx_gov (hx_runV (As := []) (rest := []) ⟨hx, hb, hml, hown, hts⟩ hW (gx.S hM) tt_6 (T := TX6) (N := 7) rfl (t_X6_skipBlanks_v l dC dI dA L h_16 H.size x hT (gx.S hM) v1 (gv1.S hM) f_2 tf (hx_afS hM gv1 rfl af_v1) (0 : Int32) f_9 i2 f_7 (by omega)) (cwV 0 hts (hx_gV kw_458 kw_455 kw_457 kw_1 kw_95) rfl rfl rfl (by decide +kernel) ⟨Nat.le_of_ble_eq_true rfl, Nat.le_of_ble_eq_true rfl⟩) rfl hl.1 rfl (Nat.le_of_ble_eq_true rfl) dX6_readAct_50 ⟨Nat.le_of_ble_eq_true rfl, Nat.le_of_ble_eq_true rfl⟩) hW (fun L_18 h_19 H locs p_21 hW => ?_)
  obtain ⟨⟨w_23, fw_23, hr_22⟩, hT, hs⟩ := p_21
  replace hT : hx_T T_tb L_18 h_19 := hT
  replace hs : hx_S T_tb [(6, 2)] L h_16 L_18 h_19 := hs
  replace f_v3_4 := (hs.o (gv3.S hM) trivial rfl).1.trans f_v3_4
  replace f_2 := (hs.o (gx.S hM) trivial rfl).2.trans f_2
  replace f_7 := (hs.o (gx.S hM) trivial rfl).1.trans f_7
  replace f_11 := (hs.o (gx.S hM) trivial rfl).1.trans f_11
  replace f_13 := (hs.o (gx.S hM) trivial rfl).1.trans f_13
  replace f_15 := (hs.o (gx.S hM) trivial rfl).1.trans f_15
  replace f_17 := (hs.o (gx.S hM) trivial rfl).2.trans f_17
  replace af_qp : h_19.2.1 qp = pf := (funext fun j => (hs.a (gqp.S hM) rfl j).1).trans af_qp
  replace af_qd : h_19.2.1 qd = df := (funext fun j => (hs.a (gqd.S hM) rfl j).1).trans af_qd
  replace hM := hM.tr (hs.mono (by decide))
  have fw_23 : h_19.2.1 x 2 = w_23 := fw_23
  have bw_23 := hT.gi (gx.S hM) tt_6 (k := 2) rfl
  rw [fw_23] at bw_23
  have bw_23 : 0 ≤ w_23.toInt ∧ w_23.toInt ≤ 402 := bw_23
  have ek_24 : w_23.toInt.toNat = hv_sk tf i2.toInt.toNat (0 : Int32).toInt.toNat := by omega
  have ez : (0 : Int32).toInt.toNat = 0 := by decide
  rw [ez] at ek_24
  refine lv_aload_n hx hb dX6_readAct_53 rfl (lv_at hl 0 rfl) ?_
  refine hk_geti hx hb hts hC_6 hown hW (gx.S hM) tt_6 2 (by decide) rfl kw_127 ⟨rfl, rfl, rfl⟩ fw_23 dX6_readAct_54 ?_
  refine lv_aload_n hx hb dX6_readAct_57 rfl (lv_at hl 0 rfl) ?_
  refine hk_geti hx hb hts hC_6 hown hW (gx.S hM) tt_6 1 (by decide) rfl kw_126 ⟨rfl, rfl, rfl⟩ f_7 dX6_readAct_58 ?_
  refine hb_icmp_ge (zx := w_23.toInt) (zy := i2.toInt) (tgt := 68) hx hb rfl rfl dX6_readAct_61 (by decide) (fun c_25 => ?_) (fun c_25 => ?_)
  · skip
    refine lv_iconst (v := 0) hx hb dX6_readAct_68 (by decide) ?_
    refine lv_istore (lv' := [(4, .int (0 : Int32)), (0, .ref x), (1, .ref v1), (2, .int i2), (3, .ref v3)]) hx hb dX6_readAct_69 hl (by decide) rfl (fun ls hl => ?_)
    refine lv_iconst (v := 0) hx hb dX6_readAct_71 (by decide) ?_
    refine lv_istore (lv' := [(5, .int (0 : Int32)), (4, .int (0 : Int32)), (0, .ref x), (1, .ref v1), (2, .int i2), (3, .ref v3)]) hx hb dX6_readAct_72 hl (by decide) rfl (fun ls hl => ?_)
    have loop74 : ∀ (n74 : Nat) (iv74_4 iv74_5 fw74_x_2 fw74_x_3 fw74_x_4 fw74_x_5 fw74_v3_4 : Int32) (ia74_qp ia74_qd : Nat → Int32) (H : Heap) (locs : List Loc) (hL1 : List Nat) (hl1 : hx_h), 0 ≤ iv74_4.toInt → iv74_4.toInt ≤ 1 → 0 ≤ iv74_5.toInt → iv74_5.toInt ≤ 401 → 0 ≤ fw74_x_2.toInt → fw74_x_2.toInt ≤ 402 → -2147483648 ≤ fw74_x_3.toInt → fw74_x_3.toInt ≤ 2147483647 → -2147483648 ≤ fw74_x_4.toInt → fw74_x_4.toInt ≤ 2147483647 → -2147483648 ≤ fw74_x_5.toInt → fw74_x_5.toInt ≤ 2147483647 → 0 ≤ fw74_v3_4.toInt → fw74_v3_4.toInt ≤ 160 → (hv_AI hv_cc tf i2.toInt.toNat (hv_ACT tf i2.toInt.toNat (hv_rC df) o) iv74_4.toInt (fw74_x_3.toInt) (fw74_x_2.toInt) (fw74_x_5.toInt) iv74_5.toInt (hv_sC fw74_x_4) (hv_rC ia74_qd) (hv_ls ia74_qp (fw74_v3_4.toInt).toNat)) → ∀ (ls : Array Slot), 401 - iv74_5.toInt < (n74 : Int) → hx_W T_tb (P_ty dA) (dC, dI) vwCl (hx_A L sz) s.heap hL1 hl1 s H locs → hx_T T_tb hL1 hl1 → hx_S T_tb [(6, 0), (6, 1), (6, 2), (6, 3), (6, 4), (6, 5), (6, 6), (127, 0), (128, 0), (129, 4)] L h hL1 hl1 → hl1.2.1 x 2 = fw74_x_2 → hl1.2.1 x 3 = fw74_x_3 → hl1.2.1 x 4 = fw74_x_4 → hl1.2.1 x 5 = fw74_x_5 → hl1.2.1 v3 4 = fw74_v3_4 → hl1.2.2 x 0 = some v1 → hl1.2.1 x 1 = i2 → hl1.2.2 x 6 = some v3 → hl1.2.1 qp = ia74_qp → hl1.2.1 qd = ia74_qd → lv_has ls 6 [(5, .int iv74_5), (4, .int iv74_4), (0, .ref x), (1, .ref v1), (2, .int i2), (3, .ref v3)] → W p l e ({ frames := 26, cells := 0, slots := 0, locals := 594 }) s m ([.ref x, .ref v1, .int i2, .ref v3] : List Value).toArray below meth c H locs 0 0 (MQ below (va_Qi (fun (r : Int32) (u : List Nat × hx_h) => (∃ (pl1 : Int32) (pf1 : Nat → Int32) (df1 : Nat → Int32), u.2.2.1 v3 4 = pl1 ∧ u.2.2.1 qp = pf1 ∧ u.2.2.1 qd = df1 ∧ (hv_AR hv_cc (hv_ACT tf i2.toInt.toNat (hv_rC df) o) r.toInt (hv_rC df1) (hv_ls pf1 pl1.toInt.toNat))) ∧ hx_T T_tb u.1 u.2 ∧ hx_S T_tb [(6, 0), (6, 1), (6, 2), (6, 3), (6, 4), (6, 5), (6, 6), (127, 0), (128, 0), (129, 4)] L h u.1 u.2) (hx_E T_tb (P_ty dA) (dC, dI) vwCl (hx_A L sz)) (hx_A L sz)) ([.ref x, .ref v1, .int i2, .ref v3] : List Value).toArray s 0 0 (hx_A L sz)) (F0 m 74 ls []) := by
      intro n74
      induction n74 with
      | zero => intro iv74_4 iv74_5 fw74_x_2 fw74_x_3 fw74_x_4 fw74_x_5 fw74_v3_4 ia74_qp ia74_qd H locs hL1 hl1 bliv74_4 buiv74_4 bliv74_5 buiv74_5 blfw74_x_2 bufw74_x_2 blfw74_x_3 bufw74_x_3 blfw74_x_4 bufw74_x_4 blfw74_x_5 bufw74_x_5 blfw74_v3_4 bufw74_v3_4 vi74_0 ls hn74; exfalso; omega
      | succ n74 ih74 =>
        intro iv74_4 iv74_5 fw74_x_2 fw74_x_3 fw74_x_4 fw74_x_5 fw74_v3_4 ia74_qp ia74_qd H locs hL1 hl1 bliv74_4 buiv74_4 bliv74_5 buiv74_5 blfw74_x_2 bufw74_x_2 blfw74_x_3 bufw74_x_3 blfw74_x_4 bufw74_x_4 blfw74_x_5 bufw74_x_5 blfw74_v3_4 bufw74_v3_4 vi74_0 ls hn74 hW hT hM ffw74_x_2 ffw74_x_3 ffw74_x_4 ffw74_x_5 ffw74_v3_4 f_2 f_7 f_17 nia74_qp nia74_qd hl
        refine lv_iload hx hb dX6_readAct_74 (lv_at hl 0 rfl) ?_
        refine lv_aload_n hx hb dX6_readAct_76 rfl (lv_at hl 2 rfl) ?_
        refine hk_geti hx hb hts hC_6 hown hW (gx.S hM) tt_6 1 (by decide) rfl kw_126 ⟨rfl, rfl, rfl⟩ f_7 dX6_readAct_77 ?_
        refine hb_icmp_gt (zx := iv74_5.toInt) (zy := i2.toInt) (tgt := 115) hx hb rfl rfl dX6_readAct_80 (by decide) (fun c_26 => ?_) (fun c_26 => ?_)
        · skip
          refine lv_aload_n hx hb dX6_readAct_115 rfl (lv_at hl 2 rfl) ?_
          refine hk_geti hx hb hts hC_6 hown hW (gx.S hM) tt_6 3 (by decide) rfl kw_128 ⟨rfl, rfl, rfl⟩ ffw74_x_3 dX6_readAct_116 ?_
          exact hx_reti hx hb hr hlk hW ⟨⟨fw74_v3_4, ia74_qp, ia74_qd, ffw74_v3_4, nia74_qp, nia74_qd, (hv_AI_e vi74_0 (by omega))⟩, hT, hM⟩ dX6_readAct_119
        · skip
          refine lv_iload hx hb dX6_readAct_83 (lv_at hl 1 rfl) ?_
          refine hb_if_eq (zx := iv74_4.toInt) (tgt := 115) hx hb rfl dX6_readAct_85 (by decide) (fun c_27 => ?_) (fun c_27 => ?_)
          · skip
            refine lv_aload_n hx hb dX6_readAct_115 rfl (lv_at hl 2 rfl) ?_
            refine hk_geti hx hb hts hC_6 hown hW (gx.S hM) tt_6 3 (by decide) rfl kw_128 ⟨rfl, rfl, rfl⟩ ffw74_x_3 dX6_readAct_116 ?_
            exact hx_reti hx hb hr hlk hW ⟨⟨fw74_v3_4, ia74_qp, ia74_qd, ffw74_v3_4, nia74_qp, nia74_qd, (hv_AI_e vi74_0 (by omega))⟩, hT, hM⟩ dX6_readAct_119
          · skip
            obtain ⟨hF7, hp7, hpn7, hi7, ht7, hTM7, o7, hO7, hg7⟩ := hv_AI_g vi74_0 (by omega)
            refine lv_aload_n hx hb dX6_readAct_88 rfl (lv_at hl 2 rfl) ?_
            refine hx_goi (hx_runVX (As := []) (rest := []) ⟨hx, hb, hml, hown, hts⟩ hW (gx.S hM) tt_6 (T := TX6) (N := 7) rfl (t_X6_readClause_v l dC dI dA hL1 hl1 H.size b0 x hT (gx.S hM) v1 (gv1.S hM) f_2 v3 (gv3.S hM) f_17 qp (gqp.S hM) ((hM.o gv3 trivial rfl).2.trans f_v3_3) qd (gqd.S hM) ((hM.o gv3 trivial rfl).2.trans f_v3_2) tf (hx_afS hM gv1 rfl af_v1) ia74_qp nia74_qp ia74_qd nia74_qd fw74_x_2 ffw74_x_2 i2 f_7 fw74_x_3 ffw74_x_3 fw74_x_5 ffw74_x_5 fw74_v3_4 ffw74_v3_4 fw74_x_4 ffw74_x_4 o7 hO7 (by omega) (by omega) ⟨by omega, by omega⟩ hTM7) hZ (cwV 0 hts (hx_gV kw_462 kw_459 kw_461 kw_2 kw_95) rfl rfl rfl (by decide +kernel) ⟨Nat.le_of_ble_eq_true rfl, Nat.le_of_ble_eq_true rfl⟩) rfl hl.1 rfl (Nat.le_of_ble_eq_true rfl) dX6_readAct_89 ⟨Nat.le_of_ble_eq_true rfl, Nat.le_of_ble_eq_true rfl⟩) hW (fun r_30 L_28 h_29 H locs p_31 hW => ?_)
            obtain ⟨⟨w_33, w_34, w_35, w_36, w_37, w_38, w_39, fw_33, fw_34, fw_35, fw_36, fw_37, fw_38, fw_39, hr_32⟩, hT, hs⟩ := p_31
            replace hT : hx_T T_tb L_28 h_29 := hT
            replace hs : hx_S T_tb [(6, 2), (6, 3), (6, 4), (6, 5), (127, 0), (128, 0), (129, 4)] hL1 hl1 L_28 h_29 := hs
            replace f_2 := (hs.o (gx.S hM) trivial rfl).2.trans f_2
            replace f_7 := (hs.o (gx.S hM) trivial rfl).1.trans f_7
            replace f_17 := (hs.o (gx.S hM) trivial rfl).2.trans f_17
            replace hM := hM.tr (hs.mono (by decide))
            have fw_33 : h_29.2.1 x 2 = w_33 := fw_33
            have bw_33 := hT.gi (gx.S hM) tt_6 (k := 2) rfl
            rw [fw_33] at bw_33
            have bw_33 : 0 ≤ w_33.toInt ∧ w_33.toInt ≤ 402 := bw_33
            have fw_34 : h_29.2.1 x 3 = w_34 := fw_34
            have bw_34 := hT.gi (gx.S hM) tt_6 (k := 3) rfl
            rw [fw_34] at bw_34
            have bw_34 : -2147483648 ≤ w_34.toInt ∧ w_34.toInt ≤ 2147483647 := bw_34
            have fw_35 : h_29.2.1 x 5 = w_35 := fw_35
            have bw_35 := hT.gi (gx.S hM) tt_6 (k := 5) rfl
            rw [fw_35] at bw_35
            have bw_35 : -2147483648 ≤ w_35.toInt ∧ w_35.toInt ≤ 2147483647 := bw_35
            have fw_36 : h_29.2.1 v3 4 = w_36 := fw_36
            have bw_36 := hT.gi (gv3.S hM) tt_129 (k := 4) rfl
            rw [fw_36] at bw_36
            have bw_36 : 0 ≤ w_36.toInt ∧ w_36.toInt ≤ 160 := bw_36
            have fw_37 : h_29.2.1 qp = w_37 := fw_37
            have fw_38 : h_29.2.1 x 4 = w_38 := fw_38
            have bw_38 := hT.gi (gx.S hM) tt_6 (k := 4) rfl
            rw [fw_38] at bw_38
            have bw_38 : -2147483648 ≤ w_38.toInt ∧ w_38.toInt ≤ 2147483647 := bw_38
            have fw_39 : h_29.2.1 qd = w_39 := fw_39
            have hr_32b := hv_CK_b hr_32.1
            refine hb_if_eq (zx := r_30.toInt) (tgt := 106) hx hb rfl dX6_readAct_92 (by decide) (fun c_40 => ?_) (fun c_40 => ?_)
            · skip
              refine lv_iconst (v := 0) hx hb dX6_readAct_106 (by decide) ?_
              refine lv_istore (lv' := [(4, .int (0 : Int32)), (5, .int iv74_5), (0, .ref x), (1, .ref v1), (2, .int i2), (3, .ref v3)]) hx hb dX6_readAct_107 hl (by decide) rfl (fun ls hl => ?_)
              obtain ⟨x_41, ex_41⟩ : ∃ y : Int32, y = iv74_5 + Int32.ofInt 1 := ⟨_, rfl⟩
              have rg_42 := i32_r iv74_5
              have zx_41 : x_41.toInt = iv74_5.toInt + (1) := by rw [ex_41]; exact i32_add rfl (by decide) (by omega) (by omega)
              refine lv_iinc (v := x_41) (lv' := [(5, .int x_41), (4, .int (0 : Int32)), (0, .ref x), (1, .ref v1), (2, .int i2), (3, .ref v3)]) hx hb dX6_readAct_109 hl (k := 1) rfl ex_41.symm (by decide) rfl (fun ls hl => ?_)
              refine lv_goto (tgt := 74) hx hb dX6_readAct_112 (by decide) ?_
              have zk_0 : (0 : Int32).toInt = 0 := by decide
              exact ih74 (0 : Int32) x_41 w_33 w_34 w_38 w_35 w_36 w_37 w_39 _ _ L_28 h_29 (by decide) (by decide) (by omega) (by omega) (by omega) (by omega) (i32_r _).1 (i32_r _).2 (i32_r _).1 (i32_r _).2 (i32_r _).1 (i32_r _).2 (by omega) (by omega) (have h8 := hv_CK_0 hr_32.1 (by omega); Or.inr (Or.inr ⟨by decide, h8.1, hg7.trans (hv_AL_1 h8.2)⟩)) ls (by omega) hW hT hM fw_33 fw_34 fw_38 fw_35 fw_36 f_2 f_7 f_17 fw_37 fw_39 (lv_sub hl [0, 1, 2, 3, 4, 5] rfl)
            · skip
              have hc8 := hr_32.2 (by omega)
              obtain ⟨hF8, hp8, o8, hO8, hE8⟩ := hv_CK_1 hr_32.1 (by omega)
              refine lv_aload_n hx hb dX6_readAct_95 rfl (lv_at hl 2 rfl) ?_
              refine hx_goi (hx_runV (As := []) (rest := []) ⟨hx, hb, hml, hown, hts⟩ hW (gx.S hM) tt_6 (T := TX6) (N := 7) rfl (t_X6_isAnotherClause_v l dC dI dA L_28 h_29 H.size x hT (gx.S hM) v1 (gv1.S hM) f_2 tf (hx_afS hM gv1 rfl af_v1) w_33 fw_33 i2 f_7 w_34 fw_34 (by omega)) (cwV 0 hts (hx_gV kw_589 kw_586 kw_588 kw_18 kw_95) rfl rfl rfl (by decide +kernel) ⟨Nat.le_of_ble_eq_true rfl, Nat.le_of_ble_eq_true rfl⟩) rfl hl.1 rfl (Nat.le_of_ble_eq_true rfl) dX6_readAct_96 ⟨Nat.le_of_ble_eq_true rfl, Nat.le_of_ble_eq_true rfl⟩) hW (fun r_45 L_43 h_44 H locs p_46 hW => ?_)
              obtain ⟨⟨w_48, w_49, fw_48, fw_49, hr_47⟩, hT, hs⟩ := p_46
              replace hT : hx_T T_tb L_43 h_44 := hT
              replace hs : hx_S T_tb [(6, 2), (6, 3)] L_28 h_29 L_43 h_44 := hs
              replace f_2 := (hs.o (gx.S hM) trivial rfl).2.trans f_2
              replace f_7 := (hs.o (gx.S hM) trivial rfl).1.trans f_7
              replace f_17 := (hs.o (gx.S hM) trivial rfl).2.trans f_17
              replace fw_35 := (hs.o (gx.S hM) trivial rfl).1.trans fw_35
              replace fw_36 := (hs.o (gv3.S hM) trivial rfl).1.trans fw_36
              replace fw_38 := (hs.o (gx.S hM) trivial rfl).1.trans fw_38
              replace fw_37 : h_44.2.1 qp = w_37 := (funext fun j => (hs.a (gqp.S hM) rfl j).1).trans fw_37
              replace fw_39 : h_44.2.1 qd = w_39 := (funext fun j => (hs.a (gqd.S hM) rfl j).1).trans fw_39
              replace hM := hM.tr (hs.mono (by decide))
              have fw_48 : h_44.2.1 x 2 = w_48 := fw_48
              have bw_48 := hT.gi (gx.S hM) tt_6 (k := 2) rfl
              rw [fw_48] at bw_48
              have bw_48 : 0 ≤ w_48.toInt ∧ w_48.toInt ≤ 402 := bw_48
              have fw_49 : h_44.2.1 x 3 = w_49 := fw_49
              have bw_49 := hT.gi (gx.S hM) tt_6 (k := 3) rfl
              rw [fw_49] at bw_49
              have bw_49 : -2147483648 ≤ w_49.toInt ∧ w_49.toInt ≤ 2147483647 := bw_49
              have hr_47g := hv_sk_ge (T := tf) (n := i2.toInt.toNat) (p := w_33.toInt.toNat)
              refine hb_if_eq (zx := r_45.toInt) (tgt := 106) hx hb rfl dX6_readAct_99 (by decide) (fun c_50 => ?_) (fun c_50 => ?_)
              · skip
                refine lv_iconst (v := 0) hx hb dX6_readAct_106 (by decide) ?_
                refine lv_istore (lv' := [(4, .int (0 : Int32)), (5, .int iv74_5), (0, .ref x), (1, .ref v1), (2, .int i2), (3, .ref v3)]) hx hb dX6_readAct_107 hl (by decide) rfl (fun ls hl => ?_)
                obtain ⟨x_51, ex_51⟩ : ∃ y : Int32, y = iv74_5 + Int32.ofInt 1 := ⟨_, rfl⟩
                have rg_52 := i32_r iv74_5
                have zx_51 : x_51.toInt = iv74_5.toInt + (1) := by rw [ex_51]; exact i32_add rfl (by decide) (by omega) (by omega)
                refine lv_iinc (v := x_51) (lv' := [(5, .int x_51), (4, .int (0 : Int32)), (0, .ref x), (1, .ref v1), (2, .int i2), (3, .ref v3)]) hx hb dX6_readAct_109 hl (k := 1) rfl ex_51.symm (by decide) rfl (fun ls hl => ?_)
                refine lv_goto (tgt := 74) hx hb dX6_readAct_112 (by decide) ?_
                have zk_0 : (0 : Int32).toInt = 0 := by decide
                exact ih74 (0 : Int32) x_51 w_48 w_49 w_38 w_35 w_36 w_37 w_39 _ _ L_43 h_44 (by decide) (by decide) (by omega) (by omega) (by omega) (by omega) (i32_r _).1 (i32_r _).2 (i32_r _).1 (i32_r _).2 (i32_r _).1 (i32_r _).2 (by omega) (by omega) (by rcases hr_47 with z | ⟨_, ⟨z1, z2⟩ | ⟨z1, z2, z3⟩⟩; (exfalso; omega); exact Or.inr (Or.inl ⟨by decide, (by rw [z2]; exact hF8), _, _, o8, hO8, hg7.trans (Eq.trans (hv_AL_2 hE8 z1) rfl)⟩); exact Or.inr (Or.inr ⟨by decide, by omega, hg7.trans ((hv_AL_3 hE8 z1 z2).trans (by rw [z3, Int.toNat_natCast]))⟩)) ls (by omega) hW hT hM fw_48 fw_49 fw_38 fw_35 fw_36 f_2 f_7 f_17 fw_37 fw_39 (lv_sub hl [0, 1, 2, 3, 4, 5] rfl)
              · skip
                refine lv_iconst (v := 1) hx hb dX6_readAct_102 (by decide) ?_
                refine lv_goto (tgt := 107) hx hb dX6_readAct_103 (by decide) ?_
                refine lv_istore (lv' := [(4, .int (1 : Int32)), (5, .int iv74_5), (0, .ref x), (1, .ref v1), (2, .int i2), (3, .ref v3)]) hx hb dX6_readAct_107 hl (by decide) rfl (fun ls hl => ?_)
                obtain ⟨x_53, ex_53⟩ : ∃ y : Int32, y = iv74_5 + Int32.ofInt 1 := ⟨_, rfl⟩
                have rg_54 := i32_r iv74_5
                have zx_53 : x_53.toInt = iv74_5.toInt + (1) := by rw [ex_53]; exact i32_add rfl (by decide) (by omega) (by omega)
                refine lv_iinc (v := x_53) (lv' := [(5, .int x_53), (4, .int (1 : Int32)), (0, .ref x), (1, .ref v1), (2, .int i2), (3, .ref v3)]) hx hb dX6_readAct_109 hl (k := 1) rfl ex_53.symm (by decide) rfl (fun ls hl => ?_)
                refine lv_goto (tgt := 74) hx hb dX6_readAct_112 (by decide) ?_
                have zk_1 : (1 : Int32).toInt = 1 := by decide
                exact ih74 (1 : Int32) x_53 w_48 w_49 w_38 w_35 w_36 w_37 w_39 _ _ L_43 h_44 (by decide) (by decide) (by omega) (by omega) (by omega) (by omega) (i32_r _).1 (i32_r _).2 (i32_r _).1 (i32_r _).2 (i32_r _).1 (i32_r _).2 (by omega) (by omega) (Or.inl ⟨by decide, (by rcases hr_47 with z | z; (rw [z.2.1]; exact hF8); exfalso; omega), by omega, by omega, by omega, ⟨by omega, by omega⟩, hc8.2.2.2.2, o8, hO8, hg7.trans ((hv_AL_4 hE8 (by rcases hr_47 with z | z; exact z.2.2.1; exfalso; omega) (by rcases hr_47 with z | z; exact z.2.2.2.1; exfalso; omega)).trans (by rw [show w_48.toInt.toNat = hv_sk tf i2.toInt.toNat w_33.toInt.toNat + 1 by omega]))⟩) ls (by omega) hW hT hM fw_48 fw_49 fw_38 fw_35 fw_36 f_2 f_7 f_17 fw_37 fw_39 (lv_sub hl [0, 1, 2, 3, 4, 5] rfl)
    have zk_0 : (0 : Int32).toInt = 0 := by decide
    have zk_0 : (0 : Int32).toInt = 0 := by decide
    have zk_0 : (0 : Int32).toInt = 0 := by decide
    have zk_0 : (0 : Int32).toInt = 0 := by decide
    have zk_0 : (0 : Int32).toInt = 0 := by decide
    exact loop74 402 (0 : Int32) (0 : Int32) w_23 (0 : Int32) (0 : Int32) (0 : Int32) pl0 pf df _ _ L_18 h_19 (by decide) (by decide) (by decide) (by decide) (by omega) (by omega) (by decide) (by decide) (by decide) (by decide) (by decide) (by decide) (by omega) (by omega) (Or.inr (Or.inl ⟨by decide, by decide, _, _, o, hO, if_neg (by rw [← ek_24]; omega)⟩)) ls (by omega) hW hT hM fw_23 f_11 f_13 f_15 f_v3_4 f_2 f_7 f_17 af_qp af_qd hl
  · skip
    refine lv_iconst (v := 1) hx hb dX6_readAct_64 (by decide) ?_
    refine lv_goto (tgt := 69) hx hb dX6_readAct_65 (by decide) ?_
    refine lv_istore (lv' := [(4, .int (1 : Int32)), (0, .ref x), (1, .ref v1), (2, .int i2), (3, .ref v3)]) hx hb dX6_readAct_69 hl (by decide) rfl (fun ls hl => ?_)
    refine lv_iconst (v := 0) hx hb dX6_readAct_71 (by decide) ?_
    refine lv_istore (lv' := [(5, .int (0 : Int32)), (4, .int (1 : Int32)), (0, .ref x), (1, .ref v1), (2, .int i2), (3, .ref v3)]) hx hb dX6_readAct_72 hl (by decide) rfl (fun ls hl => ?_)
    have loop74 : ∀ (n74 : Nat) (iv74_4 iv74_5 fw74_x_2 fw74_x_3 fw74_x_4 fw74_x_5 fw74_v3_4 : Int32) (ia74_qp ia74_qd : Nat → Int32) (H : Heap) (locs : List Loc) (hL1 : List Nat) (hl1 : hx_h), 0 ≤ iv74_4.toInt → iv74_4.toInt ≤ 1 → 0 ≤ iv74_5.toInt → iv74_5.toInt ≤ 401 → 0 ≤ fw74_x_2.toInt → fw74_x_2.toInt ≤ 402 → -2147483648 ≤ fw74_x_3.toInt → fw74_x_3.toInt ≤ 2147483647 → -2147483648 ≤ fw74_x_4.toInt → fw74_x_4.toInt ≤ 2147483647 → -2147483648 ≤ fw74_x_5.toInt → fw74_x_5.toInt ≤ 2147483647 → 0 ≤ fw74_v3_4.toInt → fw74_v3_4.toInt ≤ 160 → (hv_AI hv_cc tf i2.toInt.toNat (hv_ACT tf i2.toInt.toNat (hv_rC df) o) iv74_4.toInt (fw74_x_3.toInt) (fw74_x_2.toInt) (fw74_x_5.toInt) iv74_5.toInt (hv_sC fw74_x_4) (hv_rC ia74_qd) (hv_ls ia74_qp (fw74_v3_4.toInt).toNat)) → ∀ (ls : Array Slot), 401 - iv74_5.toInt < (n74 : Int) → hx_W T_tb (P_ty dA) (dC, dI) vwCl (hx_A L sz) s.heap hL1 hl1 s H locs → hx_T T_tb hL1 hl1 → hx_S T_tb [(6, 0), (6, 1), (6, 2), (6, 3), (6, 4), (6, 5), (6, 6), (127, 0), (128, 0), (129, 4)] L h hL1 hl1 → hl1.2.1 x 2 = fw74_x_2 → hl1.2.1 x 3 = fw74_x_3 → hl1.2.1 x 4 = fw74_x_4 → hl1.2.1 x 5 = fw74_x_5 → hl1.2.1 v3 4 = fw74_v3_4 → hl1.2.2 x 0 = some v1 → hl1.2.1 x 1 = i2 → hl1.2.2 x 6 = some v3 → hl1.2.1 qp = ia74_qp → hl1.2.1 qd = ia74_qd → lv_has ls 6 [(5, .int iv74_5), (4, .int iv74_4), (0, .ref x), (1, .ref v1), (2, .int i2), (3, .ref v3)] → W p l e ({ frames := 26, cells := 0, slots := 0, locals := 594 }) s m ([.ref x, .ref v1, .int i2, .ref v3] : List Value).toArray below meth c H locs 0 0 (MQ below (va_Qi (fun (r : Int32) (u : List Nat × hx_h) => (∃ (pl1 : Int32) (pf1 : Nat → Int32) (df1 : Nat → Int32), u.2.2.1 v3 4 = pl1 ∧ u.2.2.1 qp = pf1 ∧ u.2.2.1 qd = df1 ∧ (hv_AR hv_cc (hv_ACT tf i2.toInt.toNat (hv_rC df) o) r.toInt (hv_rC df1) (hv_ls pf1 pl1.toInt.toNat))) ∧ hx_T T_tb u.1 u.2 ∧ hx_S T_tb [(6, 0), (6, 1), (6, 2), (6, 3), (6, 4), (6, 5), (6, 6), (127, 0), (128, 0), (129, 4)] L h u.1 u.2) (hx_E T_tb (P_ty dA) (dC, dI) vwCl (hx_A L sz)) (hx_A L sz)) ([.ref x, .ref v1, .int i2, .ref v3] : List Value).toArray s 0 0 (hx_A L sz)) (F0 m 74 ls []) := by
      intro n74
      induction n74 with
      | zero => intro iv74_4 iv74_5 fw74_x_2 fw74_x_3 fw74_x_4 fw74_x_5 fw74_v3_4 ia74_qp ia74_qd H locs hL1 hl1 bliv74_4 buiv74_4 bliv74_5 buiv74_5 blfw74_x_2 bufw74_x_2 blfw74_x_3 bufw74_x_3 blfw74_x_4 bufw74_x_4 blfw74_x_5 bufw74_x_5 blfw74_v3_4 bufw74_v3_4 vi74_0 ls hn74; exfalso; omega
      | succ n74 ih74 =>
        intro iv74_4 iv74_5 fw74_x_2 fw74_x_3 fw74_x_4 fw74_x_5 fw74_v3_4 ia74_qp ia74_qd H locs hL1 hl1 bliv74_4 buiv74_4 bliv74_5 buiv74_5 blfw74_x_2 bufw74_x_2 blfw74_x_3 bufw74_x_3 blfw74_x_4 bufw74_x_4 blfw74_x_5 bufw74_x_5 blfw74_v3_4 bufw74_v3_4 vi74_0 ls hn74 hW hT hM ffw74_x_2 ffw74_x_3 ffw74_x_4 ffw74_x_5 ffw74_v3_4 f_2 f_7 f_17 nia74_qp nia74_qd hl
        refine lv_iload hx hb dX6_readAct_74 (lv_at hl 0 rfl) ?_
        refine lv_aload_n hx hb dX6_readAct_76 rfl (lv_at hl 2 rfl) ?_
        refine hk_geti hx hb hts hC_6 hown hW (gx.S hM) tt_6 1 (by decide) rfl kw_126 ⟨rfl, rfl, rfl⟩ f_7 dX6_readAct_77 ?_
        refine hb_icmp_gt (zx := iv74_5.toInt) (zy := i2.toInt) (tgt := 115) hx hb rfl rfl dX6_readAct_80 (by decide) (fun c_55 => ?_) (fun c_55 => ?_)
        · skip
          refine lv_aload_n hx hb dX6_readAct_115 rfl (lv_at hl 2 rfl) ?_
          refine hk_geti hx hb hts hC_6 hown hW (gx.S hM) tt_6 3 (by decide) rfl kw_128 ⟨rfl, rfl, rfl⟩ ffw74_x_3 dX6_readAct_116 ?_
          exact hx_reti hx hb hr hlk hW ⟨⟨fw74_v3_4, ia74_qp, ia74_qd, ffw74_v3_4, nia74_qp, nia74_qd, (hv_AI_e vi74_0 (by omega))⟩, hT, hM⟩ dX6_readAct_119
        · skip
          refine lv_iload hx hb dX6_readAct_83 (lv_at hl 1 rfl) ?_
          refine hb_if_eq (zx := iv74_4.toInt) (tgt := 115) hx hb rfl dX6_readAct_85 (by decide) (fun c_56 => ?_) (fun c_56 => ?_)
          · skip
            refine lv_aload_n hx hb dX6_readAct_115 rfl (lv_at hl 2 rfl) ?_
            refine hk_geti hx hb hts hC_6 hown hW (gx.S hM) tt_6 3 (by decide) rfl kw_128 ⟨rfl, rfl, rfl⟩ ffw74_x_3 dX6_readAct_116 ?_
            exact hx_reti hx hb hr hlk hW ⟨⟨fw74_v3_4, ia74_qp, ia74_qd, ffw74_v3_4, nia74_qp, nia74_qd, (hv_AI_e vi74_0 (by omega))⟩, hT, hM⟩ dX6_readAct_119
          · skip
            obtain ⟨hF7, hp7, hpn7, hi7, ht7, hTM7, o7, hO7, hg7⟩ := hv_AI_g vi74_0 (by omega)
            refine lv_aload_n hx hb dX6_readAct_88 rfl (lv_at hl 2 rfl) ?_
            refine hx_goi (hx_runVX (As := []) (rest := []) ⟨hx, hb, hml, hown, hts⟩ hW (gx.S hM) tt_6 (T := TX6) (N := 7) rfl (t_X6_readClause_v l dC dI dA hL1 hl1 H.size b0 x hT (gx.S hM) v1 (gv1.S hM) f_2 v3 (gv3.S hM) f_17 qp (gqp.S hM) ((hM.o gv3 trivial rfl).2.trans f_v3_3) qd (gqd.S hM) ((hM.o gv3 trivial rfl).2.trans f_v3_2) tf (hx_afS hM gv1 rfl af_v1) ia74_qp nia74_qp ia74_qd nia74_qd fw74_x_2 ffw74_x_2 i2 f_7 fw74_x_3 ffw74_x_3 fw74_x_5 ffw74_x_5 fw74_v3_4 ffw74_v3_4 fw74_x_4 ffw74_x_4 o7 hO7 (by omega) (by omega) ⟨by omega, by omega⟩ hTM7) hZ (cwV 0 hts (hx_gV kw_462 kw_459 kw_461 kw_2 kw_95) rfl rfl rfl (by decide +kernel) ⟨Nat.le_of_ble_eq_true rfl, Nat.le_of_ble_eq_true rfl⟩) rfl hl.1 rfl (Nat.le_of_ble_eq_true rfl) dX6_readAct_89 ⟨Nat.le_of_ble_eq_true rfl, Nat.le_of_ble_eq_true rfl⟩) hW (fun r_59 L_57 h_58 H locs p_60 hW => ?_)
            obtain ⟨⟨w_62, w_63, w_64, w_65, w_66, w_67, w_68, fw_62, fw_63, fw_64, fw_65, fw_66, fw_67, fw_68, hr_61⟩, hT, hs⟩ := p_60
            replace hT : hx_T T_tb L_57 h_58 := hT
            replace hs : hx_S T_tb [(6, 2), (6, 3), (6, 4), (6, 5), (127, 0), (128, 0), (129, 4)] hL1 hl1 L_57 h_58 := hs
            replace f_2 := (hs.o (gx.S hM) trivial rfl).2.trans f_2
            replace f_7 := (hs.o (gx.S hM) trivial rfl).1.trans f_7
            replace f_17 := (hs.o (gx.S hM) trivial rfl).2.trans f_17
            replace hM := hM.tr (hs.mono (by decide))
            have fw_62 : h_58.2.1 x 2 = w_62 := fw_62
            have bw_62 := hT.gi (gx.S hM) tt_6 (k := 2) rfl
            rw [fw_62] at bw_62
            have bw_62 : 0 ≤ w_62.toInt ∧ w_62.toInt ≤ 402 := bw_62
            have fw_63 : h_58.2.1 x 3 = w_63 := fw_63
            have bw_63 := hT.gi (gx.S hM) tt_6 (k := 3) rfl
            rw [fw_63] at bw_63
            have bw_63 : -2147483648 ≤ w_63.toInt ∧ w_63.toInt ≤ 2147483647 := bw_63
            have fw_64 : h_58.2.1 x 5 = w_64 := fw_64
            have bw_64 := hT.gi (gx.S hM) tt_6 (k := 5) rfl
            rw [fw_64] at bw_64
            have bw_64 : -2147483648 ≤ w_64.toInt ∧ w_64.toInt ≤ 2147483647 := bw_64
            have fw_65 : h_58.2.1 v3 4 = w_65 := fw_65
            have bw_65 := hT.gi (gv3.S hM) tt_129 (k := 4) rfl
            rw [fw_65] at bw_65
            have bw_65 : 0 ≤ w_65.toInt ∧ w_65.toInt ≤ 160 := bw_65
            have fw_66 : h_58.2.1 qp = w_66 := fw_66
            have fw_67 : h_58.2.1 x 4 = w_67 := fw_67
            have bw_67 := hT.gi (gx.S hM) tt_6 (k := 4) rfl
            rw [fw_67] at bw_67
            have bw_67 : -2147483648 ≤ w_67.toInt ∧ w_67.toInt ≤ 2147483647 := bw_67
            have fw_68 : h_58.2.1 qd = w_68 := fw_68
            have hr_61b := hv_CK_b hr_61.1
            refine hb_if_eq (zx := r_59.toInt) (tgt := 106) hx hb rfl dX6_readAct_92 (by decide) (fun c_69 => ?_) (fun c_69 => ?_)
            · skip
              refine lv_iconst (v := 0) hx hb dX6_readAct_106 (by decide) ?_
              refine lv_istore (lv' := [(4, .int (0 : Int32)), (5, .int iv74_5), (0, .ref x), (1, .ref v1), (2, .int i2), (3, .ref v3)]) hx hb dX6_readAct_107 hl (by decide) rfl (fun ls hl => ?_)
              obtain ⟨x_70, ex_70⟩ : ∃ y : Int32, y = iv74_5 + Int32.ofInt 1 := ⟨_, rfl⟩
              have rg_71 := i32_r iv74_5
              have zx_70 : x_70.toInt = iv74_5.toInt + (1) := by rw [ex_70]; exact i32_add rfl (by decide) (by omega) (by omega)
              refine lv_iinc (v := x_70) (lv' := [(5, .int x_70), (4, .int (0 : Int32)), (0, .ref x), (1, .ref v1), (2, .int i2), (3, .ref v3)]) hx hb dX6_readAct_109 hl (k := 1) rfl ex_70.symm (by decide) rfl (fun ls hl => ?_)
              refine lv_goto (tgt := 74) hx hb dX6_readAct_112 (by decide) ?_
              have zk_0 : (0 : Int32).toInt = 0 := by decide
              exact ih74 (0 : Int32) x_70 w_62 w_63 w_67 w_64 w_65 w_66 w_68 _ _ L_57 h_58 (by decide) (by decide) (by omega) (by omega) (by omega) (by omega) (i32_r _).1 (i32_r _).2 (i32_r _).1 (i32_r _).2 (i32_r _).1 (i32_r _).2 (by omega) (by omega) (have h8 := hv_CK_0 hr_61.1 (by omega); Or.inr (Or.inr ⟨by decide, h8.1, hg7.trans (hv_AL_1 h8.2)⟩)) ls (by omega) hW hT hM fw_62 fw_63 fw_67 fw_64 fw_65 f_2 f_7 f_17 fw_66 fw_68 (lv_sub hl [0, 1, 2, 3, 4, 5] rfl)
            · skip
              have hc8 := hr_61.2 (by omega)
              obtain ⟨hF8, hp8, o8, hO8, hE8⟩ := hv_CK_1 hr_61.1 (by omega)
              refine lv_aload_n hx hb dX6_readAct_95 rfl (lv_at hl 2 rfl) ?_
              refine hx_goi (hx_runV (As := []) (rest := []) ⟨hx, hb, hml, hown, hts⟩ hW (gx.S hM) tt_6 (T := TX6) (N := 7) rfl (t_X6_isAnotherClause_v l dC dI dA L_57 h_58 H.size x hT (gx.S hM) v1 (gv1.S hM) f_2 tf (hx_afS hM gv1 rfl af_v1) w_62 fw_62 i2 f_7 w_63 fw_63 (by omega)) (cwV 0 hts (hx_gV kw_589 kw_586 kw_588 kw_18 kw_95) rfl rfl rfl (by decide +kernel) ⟨Nat.le_of_ble_eq_true rfl, Nat.le_of_ble_eq_true rfl⟩) rfl hl.1 rfl (Nat.le_of_ble_eq_true rfl) dX6_readAct_96 ⟨Nat.le_of_ble_eq_true rfl, Nat.le_of_ble_eq_true rfl⟩) hW (fun r_74 L_72 h_73 H locs p_75 hW => ?_)
              obtain ⟨⟨w_77, w_78, fw_77, fw_78, hr_76⟩, hT, hs⟩ := p_75
              replace hT : hx_T T_tb L_72 h_73 := hT
              replace hs : hx_S T_tb [(6, 2), (6, 3)] L_57 h_58 L_72 h_73 := hs
              replace f_2 := (hs.o (gx.S hM) trivial rfl).2.trans f_2
              replace f_7 := (hs.o (gx.S hM) trivial rfl).1.trans f_7
              replace f_17 := (hs.o (gx.S hM) trivial rfl).2.trans f_17
              replace fw_64 := (hs.o (gx.S hM) trivial rfl).1.trans fw_64
              replace fw_65 := (hs.o (gv3.S hM) trivial rfl).1.trans fw_65
              replace fw_67 := (hs.o (gx.S hM) trivial rfl).1.trans fw_67
              replace fw_66 : h_73.2.1 qp = w_66 := (funext fun j => (hs.a (gqp.S hM) rfl j).1).trans fw_66
              replace fw_68 : h_73.2.1 qd = w_68 := (funext fun j => (hs.a (gqd.S hM) rfl j).1).trans fw_68
              replace hM := hM.tr (hs.mono (by decide))
              have fw_77 : h_73.2.1 x 2 = w_77 := fw_77
              have bw_77 := hT.gi (gx.S hM) tt_6 (k := 2) rfl
              rw [fw_77] at bw_77
              have bw_77 : 0 ≤ w_77.toInt ∧ w_77.toInt ≤ 402 := bw_77
              have fw_78 : h_73.2.1 x 3 = w_78 := fw_78
              have bw_78 := hT.gi (gx.S hM) tt_6 (k := 3) rfl
              rw [fw_78] at bw_78
              have bw_78 : -2147483648 ≤ w_78.toInt ∧ w_78.toInt ≤ 2147483647 := bw_78
              have hr_76g := hv_sk_ge (T := tf) (n := i2.toInt.toNat) (p := w_62.toInt.toNat)
              refine hb_if_eq (zx := r_74.toInt) (tgt := 106) hx hb rfl dX6_readAct_99 (by decide) (fun c_79 => ?_) (fun c_79 => ?_)
              · skip
                refine lv_iconst (v := 0) hx hb dX6_readAct_106 (by decide) ?_
                refine lv_istore (lv' := [(4, .int (0 : Int32)), (5, .int iv74_5), (0, .ref x), (1, .ref v1), (2, .int i2), (3, .ref v3)]) hx hb dX6_readAct_107 hl (by decide) rfl (fun ls hl => ?_)
                obtain ⟨x_80, ex_80⟩ : ∃ y : Int32, y = iv74_5 + Int32.ofInt 1 := ⟨_, rfl⟩
                have rg_81 := i32_r iv74_5
                have zx_80 : x_80.toInt = iv74_5.toInt + (1) := by rw [ex_80]; exact i32_add rfl (by decide) (by omega) (by omega)
                refine lv_iinc (v := x_80) (lv' := [(5, .int x_80), (4, .int (0 : Int32)), (0, .ref x), (1, .ref v1), (2, .int i2), (3, .ref v3)]) hx hb dX6_readAct_109 hl (k := 1) rfl ex_80.symm (by decide) rfl (fun ls hl => ?_)
                refine lv_goto (tgt := 74) hx hb dX6_readAct_112 (by decide) ?_
                have zk_0 : (0 : Int32).toInt = 0 := by decide
                exact ih74 (0 : Int32) x_80 w_77 w_78 w_67 w_64 w_65 w_66 w_68 _ _ L_72 h_73 (by decide) (by decide) (by omega) (by omega) (by omega) (by omega) (i32_r _).1 (i32_r _).2 (i32_r _).1 (i32_r _).2 (i32_r _).1 (i32_r _).2 (by omega) (by omega) (by rcases hr_76 with z | ⟨_, ⟨z1, z2⟩ | ⟨z1, z2, z3⟩⟩; (exfalso; omega); exact Or.inr (Or.inl ⟨by decide, (by rw [z2]; exact hF8), _, _, o8, hO8, hg7.trans (Eq.trans (hv_AL_2 hE8 z1) rfl)⟩); exact Or.inr (Or.inr ⟨by decide, by omega, hg7.trans ((hv_AL_3 hE8 z1 z2).trans (by rw [z3, Int.toNat_natCast]))⟩)) ls (by omega) hW hT hM fw_77 fw_78 fw_67 fw_64 fw_65 f_2 f_7 f_17 fw_66 fw_68 (lv_sub hl [0, 1, 2, 3, 4, 5] rfl)
              · skip
                refine lv_iconst (v := 1) hx hb dX6_readAct_102 (by decide) ?_
                refine lv_goto (tgt := 107) hx hb dX6_readAct_103 (by decide) ?_
                refine lv_istore (lv' := [(4, .int (1 : Int32)), (5, .int iv74_5), (0, .ref x), (1, .ref v1), (2, .int i2), (3, .ref v3)]) hx hb dX6_readAct_107 hl (by decide) rfl (fun ls hl => ?_)
                obtain ⟨x_82, ex_82⟩ : ∃ y : Int32, y = iv74_5 + Int32.ofInt 1 := ⟨_, rfl⟩
                have rg_83 := i32_r iv74_5
                have zx_82 : x_82.toInt = iv74_5.toInt + (1) := by rw [ex_82]; exact i32_add rfl (by decide) (by omega) (by omega)
                refine lv_iinc (v := x_82) (lv' := [(5, .int x_82), (4, .int (1 : Int32)), (0, .ref x), (1, .ref v1), (2, .int i2), (3, .ref v3)]) hx hb dX6_readAct_109 hl (k := 1) rfl ex_82.symm (by decide) rfl (fun ls hl => ?_)
                refine lv_goto (tgt := 74) hx hb dX6_readAct_112 (by decide) ?_
                have zk_1 : (1 : Int32).toInt = 1 := by decide
                exact ih74 (1 : Int32) x_82 w_77 w_78 w_67 w_64 w_65 w_66 w_68 _ _ L_72 h_73 (by decide) (by decide) (by omega) (by omega) (by omega) (by omega) (i32_r _).1 (i32_r _).2 (i32_r _).1 (i32_r _).2 (i32_r _).1 (i32_r _).2 (by omega) (by omega) (Or.inl ⟨by decide, (by rcases hr_76 with z | z; (rw [z.2.1]; exact hF8); exfalso; omega), by omega, by omega, by omega, ⟨by omega, by omega⟩, hc8.2.2.2.2, o8, hO8, hg7.trans ((hv_AL_4 hE8 (by rcases hr_76 with z | z; exact z.2.2.1; exfalso; omega) (by rcases hr_76 with z | z; exact z.2.2.2.1; exfalso; omega)).trans (by rw [show w_77.toInt.toNat = hv_sk tf i2.toInt.toNat w_62.toInt.toNat + 1 by omega]))⟩) ls (by omega) hW hT hM fw_77 fw_78 fw_67 fw_64 fw_65 f_2 f_7 f_17 fw_66 fw_68 (lv_sub hl [0, 1, 2, 3, 4, 5] rfl)
    have zk_1 : (1 : Int32).toInt = 1 := by decide
    have zk_0 : (0 : Int32).toInt = 0 := by decide
    have zk_0 : (0 : Int32).toInt = 0 := by decide
    have zk_0 : (0 : Int32).toInt = 0 := by decide
    have zk_0 : (0 : Int32).toInt = 0 := by decide
    exact loop74 402 (1 : Int32) (0 : Int32) w_23 (0 : Int32) (0 : Int32) (0 : Int32) pl0 pf df _ _ L_18 h_19 (by decide) (by decide) (by decide) (by decide) (by omega) (by omega) (by decide) (by decide) (by decide) (by decide) (by decide) (by decide) (by omega) (by omega) (Or.inl ⟨by decide, by decide, by omega, by omega, by omega, ⟨by decide, by decide⟩, fun _ => by decide, o, hO, (by rw [hv_sC_0, ek_24]; exact if_pos (by rw [← ek_24]; omega))⟩) ls (by omega) hW hT hM fw_23 f_11 f_13 f_15 f_v3_4 f_2 f_7 f_17 af_qp af_qd hl
