
set_option maxHeartbeats 4000000 in
set_option maxRecDepth 100000 in
theorem t_X10_closesNots_v (l : Launch) (dC : Nat → ClassId) (dI : Nat → Nat → Nat) (dA : Nat → ClassId) (L : List Nat) (h : hx_h) (sz : Nat) (x : Nat) (hT : hx_T T_tb L h) (gx : hx_g L h x 10) (qs : Nat) (gqs : hx_g L h qs 55) (f_x_15 : h.2.2 x 15 = some qs) (qo : Nat) (gqo : hx_g L h qo 56) (f_x_17 : h.2.2 x 17 = some qo) (sf : Nat → Int32) (af_qs : h.2.1 qs = sf) (of : Nat → Int32) (af_qo : h.2.1 qo = of) (cp0 : Int32) (f_x_16 : h.2.1 x 16 = cp0) (nx0 : Int32) (f_x_8 : h.2.1 x 8 = nx0) (st0 : Int32) (f_x_14 : h.2.1 x 14 = st0) (op0 : Int32) (f_x_18 : h.2.1 x 18 = op0) (hQ : hx_QQ 1 cp0.toInt nx0.toInt st0.toInt op0.toInt sf of) (o : List hv_tok) (hO : hv_ls sf st0.toInt.toNat = o.map hv_rc) : Met l yX10_closesNots (Cond.code yX10_closesNots cX10_closesNots 1 none :: hx_all) ({ frames := 1, cells := 0, slots := 0, locals := 21 }) (va_Pc [.ref x] (hx_B T_tb (P_ty dA) (dC, dI) vwCl L h sz)) (va_Qv (fun (u : List Nat × hx_h) => (∃ (st1 : Int32) (op1 : Int32) (sf1 : Nat → Int32), u.2.2.1 x 14 = st1 ∧ u.2.2.1 x 18 = op1 ∧ u.2.2.1 qs = sf1 ∧ (hx_QQ 1 cp0.toInt nx0.toInt st1.toInt op1.toInt sf1 of ∧ (∃ o1 : List hv_tok, hv_ls sf1 st1.toInt.toNat = o1.map hv_rc ∧ hv_cn o (hv_ls of op0.toInt.toNat) = (o1, hv_ls of op1.toInt.toNat)))) ∧ hx_T T_tb u.1 u.2 ∧ hx_S T_tb [(10, 14), (10, 18), (55, 0)] L h u.1 u.2) (hx_E T_tb (P_ty dA) (dC, dI) vwCl (hx_A L sz)) (hx_A L sz)) 0 0 (hx_A L sz) := by
  refine hx_met (lv := [(0, .ref x)]) (by decide +kernel) rfl (Nat.le_of_ble_eq_true rfl) rfl ?_
  intro p e s m below meth c hx hb hml hr hlk hts0 hown hin hsz hW ls hl
  have hts : ∀ w ∈ hx_all, w.before _ s = true := fun w hw => hts0 w (List.mem_cons_of_mem _ hw)
  have hown : s.vm.findClass "SmallCourtModel" = some m.cls := hown
  have hM : hx_S T_tb [(10, 14), (10, 18), (55, 0)] L h L h := hx_S.rf
  have b_cp0 := hT.gi gx tt_10 (k := 16) rfl
  rw [f_x_16] at b_cp0
  have b_cp0 : 0 ≤ cp0.toInt ∧ cp0.toInt ≤ 20 := b_cp0
  have b_nx0 := hT.gi gx tt_10 (k := 8) rfl
  rw [f_x_8] at b_nx0
  have b_nx0 : 0 ≤ nx0.toInt ∧ nx0.toInt ≤ 402 := b_nx0
  have b_st0 := hT.gi gx tt_10 (k := 14) rfl
  rw [f_x_14] at b_st0
  have b_st0 : 0 ≤ st0.toInt ∧ st0.toInt ≤ 128 := b_st0
  have b_op0 := hT.gi gx tt_10 (k := 18) rfl
  rw [f_x_18] at b_op0
  have b_op0 : 0 ≤ op0.toInt ∧ op0.toInt ≤ 128 := b_op0
  have loop0 : ∀ (n0 : Nat) (fw0_x_14 fw0_x_18 : Int32) (ia0_qs : Nat → Int32) (H : Heap) (locs : List Loc) (hL1 : List Nat) (hl1 : hx_h), 0 ≤ fw0_x_14.toInt → fw0_x_14.toInt ≤ 128 → 0 ≤ fw0_x_18.toInt → fw0_x_18.toInt ≤ 128 → (hx_QQ 1 cp0.toInt nx0.toInt fw0_x_14.toInt fw0_x_18.toInt ia0_qs of) → (∃ o9 : List hv_tok, hv_ls ia0_qs (fw0_x_14.toInt).toNat = o9.map hv_rc ∧ hv_cn o (hv_ls of op0.toInt.toNat) = hv_cn o9 (hv_ls of (fw0_x_18.toInt).toNat)) → ∀ (ls : Array Slot), fw0_x_18.toInt < (n0 : Int) → hx_W T_tb (P_ty dA) (dC, dI) vwCl (hx_A L sz) s.heap hL1 hl1 s H locs → hx_T T_tb hL1 hl1 → hx_S T_tb [(10, 14), (10, 18), (55, 0)] L h hL1 hl1 → hl1.2.1 x 14 = fw0_x_14 → hl1.2.1 x 18 = fw0_x_18 → hl1.2.1 qs = ia0_qs → lv_has ls 1 [(0, .ref x)] → W p l e ({ frames := 1, cells := 0, slots := 0, locals := 21 }) s m ([.ref x] : List Value).toArray below meth c H locs 0 0 (MQ below (va_Qv (fun (u : List Nat × hx_h) => (∃ (st1 : Int32) (op1 : Int32) (sf1 : Nat → Int32), u.2.2.1 x 14 = st1 ∧ u.2.2.1 x 18 = op1 ∧ u.2.2.1 qs = sf1 ∧ (hx_QQ 1 cp0.toInt nx0.toInt st1.toInt op1.toInt sf1 of ∧ (∃ o1 : List hv_tok, hv_ls sf1 st1.toInt.toNat = o1.map hv_rc ∧ hv_cn o (hv_ls of op0.toInt.toNat) = (o1, hv_ls of op1.toInt.toNat)))) ∧ hx_T T_tb u.1 u.2 ∧ hx_S T_tb [(10, 14), (10, 18), (55, 0)] L h u.1 u.2) (hx_E T_tb (P_ty dA) (dC, dI) vwCl (hx_A L sz)) (hx_A L sz)) ([.ref x] : List Value).toArray s 0 0 (hx_A L sz)) (F0 m 0 ls []) := by
    intro n0
    induction n0 with
    | zero => intro fw0_x_14 fw0_x_18 ia0_qs H locs hL1 hl1 blfw0_x_14 bufw0_x_14 blfw0_x_18 bufw0_x_18 vi0_0 vi0_1 ls hn0; exfalso; omega
    | succ n0 ih0 =>
      intro fw0_x_14 fw0_x_18 ia0_qs H locs hL1 hl1 blfw0_x_14 bufw0_x_14 blfw0_x_18 bufw0_x_18 vi0_0 vi0_1 ls hn0 hW hT hM ffw0_x_14 ffw0_x_18 nia0_qs hl
      obtain ⟨o9, hO9, hE9⟩ := vi0_1
      refine lv_aload_n hx hb dX10_closesNots_0 rfl (lv_at hl 0 rfl) ?_
      refine hk_geti hx hb hts hC_10 hown hW (gx.S hM) tt_10 18 (by decide) rfl kw_1161 ⟨rfl, rfl, rfl⟩ ffw0_x_18 dX10_closesNots_1 ?_
      refine hb_if_le (zx := fw0_x_18.toInt) (tgt := 40) hx hb rfl dX10_closesNots_4 (by decide) (fun c_1 => ?_) (fun c_1 => ?_)
      · skip
        exact hx_retv hx hb hr hlk hW ⟨⟨fw0_x_14, fw0_x_18, ia0_qs, ffw0_x_14, ffw0_x_18, nia0_qs, ⟨vi0_0, o9, hO9, hE9.trans (by rw [hv_ls_0 (by omega)]; rfl)⟩⟩, hT, hM⟩ dX10_closesNots_40
      · skip
        refine lv_aload_n hx hb dX10_closesNots_7 rfl (lv_at hl 0 rfl) ?_
        refine hk_getr hx hb hts hC_10 hown hW (gx.S hM) tt_10 17 (by decide) rfl kw_1160 ⟨rfl, rfl, rfl⟩ ((hM.o gx trivial rfl).2.trans f_x_17) dX10_closesNots_8 ?_
        refine lv_aload_n hx hb dX10_closesNots_11 rfl (lv_at hl 0 rfl) ?_
        refine hk_geti hx hb hts hC_10 hown hW (gx.S hM) tt_10 18 (by decide) rfl kw_1161 ⟨rfl, rfl, rfl⟩ ffw0_x_18 dX10_closesNots_12 ?_
        refine lv_iconst (v := 1) hx hb dX10_closesNots_15 (by decide) ?_
        refine lv_isub hx hb dX10_closesNots_16 ?_
        have rg_2 := i32_r fw0_x_18
        refine lv_topi (fun x_3 ex_3 => ?_)
        have zx_3 : x_3.toInt = fw0_x_18.toInt - 1 := by rw [ex_3]; exact i32_sub rfl (by decide) (by omega) (by omega)
        refine hx_iald hx hb hW hT (gqo.S hM) tt_56 rfl ⟨by omega, by omega⟩ dX10_closesNots_17 (fun x_4 ex_4 lx_4 ux_4 => ?_)
        have ax_4 : x_4 = of x_3.toNatClampNeg := ex_4.trans (congrFun (hx_afS hM gqo rfl af_qo) _)
        refine lv_iconst (v := 2) hx hb dX10_closesNots_18 (by decide) ?_
        refine hb_icmp_ne (zx := x_4.toInt) (zy := 2) (tgt := 40) hx hb rfl (by decide) dX10_closesNots_19 (by decide) (fun c_5 => ?_) (fun c_5 => ?_)
        · skip
          exact hx_retv hx hb hr hlk hW ⟨⟨fw0_x_14, fw0_x_18, ia0_qs, ffw0_x_14, ffw0_x_18, nia0_qs, ⟨vi0_0, o9, hO9, hE9.trans (by rw [hv_ls_t (op := fw0_x_18.toInt) (j := x_3) (by omega) ax_4 (by omega) (by omega)]; exact hv_cn_n (by omega))⟩⟩, hT, hM⟩ dX10_closesNots_40
        · skip
          have hroom := hx_QQ_poproom vi0_0 (by omega) ax_4 (by omega) (by omega)
          have htop := hx_top vi0_0 (by omega) ax_4 (by omega)
          refine lv_aload_n hx hb dX10_closesNots_22 rfl (lv_at hl 0 rfl) ?_
          refine lv_iconst (v := 2) hx hb dX10_closesNots_23 (by decide) ?_
          have zc_2 : (2 : Int32).toInt = 2 := by decide
          refine hx_gov (hx_runV (As := [.int (2 : Int32)]) (rest := []) ⟨hx, hb, hml, hown, hts⟩ hW (gx.S hM) tt_10 (T := TX10) (N := 98) rfl (t_X10_writes l dC dI dA hL1 hl1 H.size x (2 : Int32) hT (gx.S hM) qs (gqs.S hM) ((hM.o gx trivial rfl).2.trans f_x_15) ia0_qs nia0_qs fw0_x_14 ffw0_x_14 (by omega)) (cwV 1 hts (hx_gV kw_1138 kw_1135 kw_1137 kw_50 kw_103) rfl rfl rfl (by decide +kernel) ⟨Nat.le_of_ble_eq_true rfl, Nat.le_of_ble_eq_true rfl⟩) rfl hl.1 rfl (Nat.le_of_ble_eq_true rfl) dX10_closesNots_24 ⟨Nat.le_of_ble_eq_true rfl, Nat.le_of_ble_eq_true rfl⟩) hW (fun L_6 h_7 H locs p_9 hW => ?_)
          obtain ⟨⟨w_11, w_12, fw_11, fw_12, hr_10⟩, hT, hs⟩ := p_9
          replace hT : hx_T T_tb L_6 h_7 := hT
          replace hs : hx_S T_tb [(10, 14), (55, 0)] hL1 hl1 L_6 h_7 := hs
          replace ffw0_x_18 := (hs.o (gx.S hM) trivial rfl).1.trans ffw0_x_18
          replace ex_4 := ex_4.trans (hs.a (gqo.S hM) rfl _).1.symm
          replace hM := hM.tr (hs.mono (by decide))
          have fw_11 : h_7.2.1 x 14 = w_11 := fw_11
          have bw_11 := hT.gi (gx.S hM) tt_10 (k := 14) rfl
          rw [fw_11] at bw_11
          have bw_11 : 0 ≤ w_11.toInt ∧ w_11.toInt ≤ 128 := bw_11
          have fw_12 : h_7.2.1 qs = w_12 := fw_12
          refine lv_aload_n hx hb dX10_closesNots_27 rfl (lv_at hl 0 rfl) ?_
          refine lv_dup hx hb dX10_closesNots_28 rfl ?_
          refine hk_geti hx hb hts hC_10 hown hW (gx.S hM) tt_10 18 (by decide) rfl kw_1161 ⟨rfl, rfl, rfl⟩ ffw0_x_18 dX10_closesNots_29 ?_
          refine lv_iconst (v := 1) hx hb dX10_closesNots_32 (by decide) ?_
          refine lv_isub hx hb dX10_closesNots_33 ?_
          refine lv_topi (fun x_13 ex_13 => ?_)
          have zx_13 : x_13.toInt = fw0_x_18.toInt - 1 := by rw [ex_13]; exact i32_sub rfl (by decide) (by omega) (by omega)
          refine hx_puti hx hb hts hC_10 hown hW hT (hx_S.rf (M := [(10, 18)])) (gx.S hM) tt_10 18 (by decide) rfl kw_1161 ⟨rfl, rfl, rfl⟩ rfl (x := x_13) ⟨by omega, by omega⟩ rfl rfl rfl (List.mem_singleton.mpr rfl) dX10_closesNots_34 (fun H locs h_14 eh_14 hW hT hs => ?_)
          replace fw_11 := (hs.o (gx.S hM) trivial rfl).1.trans fw_11
          replace fw_12 : h_14.2.1 qs = w_12 := (funext fun j => (hs.a (gqs.S hM) rfl j).1).trans fw_12
          replace ex_4 := ex_4.trans (hs.a (gqo.S hM) rfl _).1.symm
          replace hM := hM.tr (hs.mono (by decide))
          have f_15 : h_14.2.1 x 18 = x_13 := by rw [eh_14]; exact hx_pi_at _ _ _ _
          have hOn := hv_ls_u (t := (0, 2, 0)) hO9 (by decide) (show w_11.toInt.toNat = fw0_x_14.toInt.toNat + 1 by omega) hr_10.2
          have htp := hv_ls_t (op := fw0_x_18.toInt) (j := x_13) (by omega) ax_4 (by omega) (by omega)
          have hEn := hE9.trans ((congrArg _ htp).trans (hv_cn_2 (by omega)))
          refine lv_goto (tgt := 0) hx hb dX10_closesNots_37 (by decide) ?_
          exact ih0 w_11 x_13 w_12 _ _ L_6 h_14 (by omega) (by omega) (by omega) (by omega) (hx_QQ_pop vi0_0 (by omega) ax_4 (by omega) (by omega) (by omega) (hx_cl (by omega)) hr_10.1 (by omega) hr_10.2) ⟨_, hOn, hEn⟩ ls (by omega) hW hT hM fw_11 f_15 fw_12 (lv_sub hl [0] rfl)
  exact loop0 129 st0 op0 sf _ _ L h (by omega) (by omega) (by omega) (by omega) hQ ⟨o, hO, rfl⟩ ls (by omega) hW hT hM f_x_14 f_x_18 af_qs hl


set_option maxHeartbeats 4000000 in
set_option maxRecDepth 100000 in
theorem t_X10_closesDown_v (l : Launch) (dC : Nat → ClassId) (dI : Nat → Nat → Nat) (dA : Nat → ClassId) (L : List Nat) (h : hx_h) (sz : Nat) (x : Nat) (i1 : Int32) (hT : hx_T T_tb L h) (gx : hx_g L h x 10) (qs : Nat) (gqs : hx_g L h qs 55) (f_x_15 : h.2.2 x 15 = some qs) (qo : Nat) (gqo : hx_g L h qo 56) (f_x_17 : h.2.2 x 17 = some qo) (sf : Nat → Int32) (af_qs : h.2.1 qs = sf) (of : Nat → Int32) (af_qo : h.2.1 qo = of) (cp0 : Int32) (f_x_16 : h.2.1 x 16 = cp0) (nx0 : Int32) (f_x_8 : h.2.1 x 8 = nx0) (st0 : Int32) (f_x_14 : h.2.1 x 14 = st0) (op0 : Int32) (f_x_18 : h.2.1 x 18 = op0) (hQ : hx_QQ 1 cp0.toInt nx0.toInt st0.toInt op0.toInt sf of) (o : List hv_tok) (hO : hv_ls sf st0.toInt.toNat = o.map hv_rc) : Met l yX10_closesDown (Cond.code yX10_closesDown cX10_closesDown 2 none :: hx_all) ({ frames := 1, cells := 0, slots := 0, locals := 21 }) (va_Pc [.ref x, .int i1] (hx_B T_tb (P_ty dA) (dC, dI) vwCl L h sz)) (va_Qv (fun (u : List Nat × hx_h) => (∃ (st1 : Int32) (op1 : Int32) (sf1 : Nat → Int32), u.2.2.1 x 14 = st1 ∧ u.2.2.1 x 18 = op1 ∧ u.2.2.1 qs = sf1 ∧ (hx_QQ 1 cp0.toInt nx0.toInt st1.toInt op1.toInt sf1 of ∧ (op1.toInt = 0 ∨ (of (op1.toInt.toNat - 1)).toInt = 100 ∨ (of (op1.toInt.toNat - 1)).toInt < i1.toInt) ∧ (∃ o1 : List hv_tok, hv_ls sf1 st1.toInt.toNat = o1.map hv_rc ∧ hv_cd i1.toInt o (hv_ls of op0.toInt.toNat) = (o1, hv_ls of op1.toInt.toNat)))) ∧ hx_T T_tb u.1 u.2 ∧ hx_S T_tb [(10, 14), (10, 18), (55, 0)] L h u.1 u.2) (hx_E T_tb (P_ty dA) (dC, dI) vwCl (hx_A L sz)) (hx_A L sz)) 0 0 (hx_A L sz) := by
  refine hx_met (lv := [(0, .ref x), (1, .int i1)]) (by decide +kernel) rfl (Nat.le_of_ble_eq_true rfl) rfl ?_
  intro p e s m below meth c hx hb hml hr hlk hts0 hown hin hsz hW ls hl
  have hts : ∀ w ∈ hx_all, w.before _ s = true := fun w hw => hts0 w (List.mem_cons_of_mem _ hw)
  have hown : s.vm.findClass "SmallCourtModel" = some m.cls := hown
  have hM : hx_S T_tb [(10, 14), (10, 18), (55, 0)] L h L h := hx_S.rf
  have b_cp0 := hT.gi gx tt_10 (k := 16) rfl
  rw [f_x_16] at b_cp0
  have b_cp0 : 0 ≤ cp0.toInt ∧ cp0.toInt ≤ 20 := b_cp0
  have b_nx0 := hT.gi gx tt_10 (k := 8) rfl
  rw [f_x_8] at b_nx0
  have b_nx0 : 0 ≤ nx0.toInt ∧ nx0.toInt ≤ 402 := b_nx0
  have b_st0 := hT.gi gx tt_10 (k := 14) rfl
  rw [f_x_14] at b_st0
  have b_st0 : 0 ≤ st0.toInt ∧ st0.toInt ≤ 128 := b_st0
  have b_op0 := hT.gi gx tt_10 (k := 18) rfl
  rw [f_x_18] at b_op0
  have b_op0 : 0 ≤ op0.toInt ∧ op0.toInt ≤ 128 := b_op0
  have loop0 : ∀ (n0 : Nat) (fw0_x_14 fw0_x_18 : Int32) (ia0_qs : Nat → Int32) (H : Heap) (locs : List Loc) (hL1 : List Nat) (hl1 : hx_h), 0 ≤ fw0_x_14.toInt → fw0_x_14.toInt ≤ 128 → 0 ≤ fw0_x_18.toInt → fw0_x_18.toInt ≤ 128 → (hx_QQ 1 cp0.toInt nx0.toInt fw0_x_14.toInt fw0_x_18.toInt ia0_qs of) → (∃ o9 : List hv_tok, hv_ls ia0_qs (fw0_x_14.toInt).toNat = o9.map hv_rc ∧ hv_cd i1.toInt o (hv_ls of op0.toInt.toNat) = hv_cd i1.toInt o9 (hv_ls of (fw0_x_18.toInt).toNat)) → ∀ (ls : Array Slot), fw0_x_18.toInt < (n0 : Int) → hx_W T_tb (P_ty dA) (dC, dI) vwCl (hx_A L sz) s.heap hL1 hl1 s H locs → hx_T T_tb hL1 hl1 → hx_S T_tb [(10, 14), (10, 18), (55, 0)] L h hL1 hl1 → hl1.2.1 x 14 = fw0_x_14 → hl1.2.1 x 18 = fw0_x_18 → hl1.2.1 qs = ia0_qs → lv_has ls 2 [(0, .ref x), (1, .int i1)] → W p l e ({ frames := 1, cells := 0, slots := 0, locals := 21 }) s m ([.ref x, .int i1] : List Value).toArray below meth c H locs 0 0 (MQ below (va_Qv (fun (u : List Nat × hx_h) => (∃ (st1 : Int32) (op1 : Int32) (sf1 : Nat → Int32), u.2.2.1 x 14 = st1 ∧ u.2.2.1 x 18 = op1 ∧ u.2.2.1 qs = sf1 ∧ (hx_QQ 1 cp0.toInt nx0.toInt st1.toInt op1.toInt sf1 of ∧ (op1.toInt = 0 ∨ (of (op1.toInt.toNat - 1)).toInt = 100 ∨ (of (op1.toInt.toNat - 1)).toInt < i1.toInt) ∧ (∃ o1 : List hv_tok, hv_ls sf1 st1.toInt.toNat = o1.map hv_rc ∧ hv_cd i1.toInt o (hv_ls of op0.toInt.toNat) = (o1, hv_ls of op1.toInt.toNat)))) ∧ hx_T T_tb u.1 u.2 ∧ hx_S T_tb [(10, 14), (10, 18), (55, 0)] L h u.1 u.2) (hx_E T_tb (P_ty dA) (dC, dI) vwCl (hx_A L sz)) (hx_A L sz)) ([.ref x, .int i1] : List Value).toArray s 0 0 (hx_A L sz)) (F0 m 0 ls []) := by
    intro n0
    induction n0 with
    | zero => intro fw0_x_14 fw0_x_18 ia0_qs H locs hL1 hl1 blfw0_x_14 bufw0_x_14 blfw0_x_18 bufw0_x_18 vi0_0 vi0_1 ls hn0; exfalso; omega
    | succ n0 ih0 =>
      intro fw0_x_14 fw0_x_18 ia0_qs H locs hL1 hl1 blfw0_x_14 bufw0_x_14 blfw0_x_18 bufw0_x_18 vi0_0 vi0_1 ls hn0 hW hT hM ffw0_x_14 ffw0_x_18 nia0_qs hl
      obtain ⟨o9, hO9, hE9⟩ := vi0_1
      refine lv_aload_n hx hb dX10_closesDown_0 rfl (lv_at hl 0 rfl) ?_
      refine hk_geti hx hb hts hC_10 hown hW (gx.S hM) tt_10 18 (by decide) rfl kw_1161 ⟨rfl, rfl, rfl⟩ ffw0_x_18 dX10_closesDown_1 ?_
      refine hb_if_le (zx := fw0_x_18.toInt) (tgt := 66) hx hb rfl dX10_closesDown_4 (by decide) (fun c_1 => ?_) (fun c_1 => ?_)
      · skip
        have hex : fw0_x_18.toInt = 0 ∨ (of (fw0_x_18.toInt.toNat - 1)).toInt = 100 ∨ (of (fw0_x_18.toInt.toNat - 1)).toInt < i1.toInt := by first | exact Or.inl (by omega)
        exact hx_retv hx hb hr hlk hW ⟨⟨fw0_x_14, fw0_x_18, ia0_qs, ffw0_x_14, ffw0_x_18, nia0_qs, ⟨vi0_0, hex, o9, hO9, hE9.trans (by rw [hv_ls_0 (by omega)]; rfl)⟩⟩, hT, hM⟩ dX10_closesDown_66
      · skip
        refine lv_aload_n hx hb dX10_closesDown_7 rfl (lv_at hl 0 rfl) ?_
        refine hk_getr hx hb hts hC_10 hown hW (gx.S hM) tt_10 17 (by decide) rfl kw_1160 ⟨rfl, rfl, rfl⟩ ((hM.o gx trivial rfl).2.trans f_x_17) dX10_closesDown_8 ?_
        refine lv_aload_n hx hb dX10_closesDown_11 rfl (lv_at hl 0 rfl) ?_
        refine hk_geti hx hb hts hC_10 hown hW (gx.S hM) tt_10 18 (by decide) rfl kw_1161 ⟨rfl, rfl, rfl⟩ ffw0_x_18 dX10_closesDown_12 ?_
        refine lv_iconst (v := 1) hx hb dX10_closesDown_15 (by decide) ?_
        refine lv_isub hx hb dX10_closesDown_16 ?_
        have rg_2 := i32_r fw0_x_18
        refine lv_topi (fun x_3 ex_3 => ?_)
        have zx_3 : x_3.toInt = fw0_x_18.toInt - 1 := by rw [ex_3]; exact i32_sub rfl (by decide) (by omega) (by omega)
        refine hx_iald hx hb hW hT (gqo.S hM) tt_56 rfl ⟨by omega, by omega⟩ dX10_closesDown_17 (fun x_4 ex_4 lx_4 ux_4 => ?_)
        have ax_4 : x_4 = of x_3.toNatClampNeg := ex_4.trans (congrFun (hx_afS hM gqo rfl af_qo) _)
        refine lv_bipush (v := 100) hx hb dX10_closesDown_18 (by decide) ?_
        refine hb_icmp_eq (zx := x_4.toInt) (zy := 100) (tgt := 66) hx hb rfl (by decide) dX10_closesDown_20 (by decide) (fun c_5 => ?_) (fun c_5 => ?_)
        · skip
          have hex : fw0_x_18.toInt = 0 ∨ (of (fw0_x_18.toInt.toNat - 1)).toInt = 100 ∨ (of (fw0_x_18.toInt.toNat - 1)).toInt < i1.toInt := by first | exact Or.inl (by omega) | exact Or.inr (Or.inl (by rw [← (hx_top vi0_0 (by omega) ax_4 (by omega)).1]; omega)) | exact Or.inr (Or.inr (by rw [← (hx_top vi0_0 (by omega) ax_4 (by omega)).1]; omega))
          exact hx_retv hx hb hr hlk hW ⟨⟨fw0_x_14, fw0_x_18, ia0_qs, ffw0_x_14, ffw0_x_18, nia0_qs, ⟨vi0_0, hex, o9, hO9, hE9.trans (by rw [hv_ls_t (op := fw0_x_18.toInt) (j := x_3) (by omega) ax_4 (by omega) (by omega)]; exact hv_cd_n (by omega))⟩⟩, hT, hM⟩ dX10_closesDown_66
        · skip
          refine lv_aload_n hx hb dX10_closesDown_23 rfl (lv_at hl 0 rfl) ?_
          refine hk_getr hx hb hts hC_10 hown hW (gx.S hM) tt_10 17 (by decide) rfl kw_1160 ⟨rfl, rfl, rfl⟩ ((hM.o gx trivial rfl).2.trans f_x_17) dX10_closesDown_24 ?_
          refine lv_aload_n hx hb dX10_closesDown_27 rfl (lv_at hl 0 rfl) ?_
          refine hk_geti hx hb hts hC_10 hown hW (gx.S hM) tt_10 18 (by decide) rfl kw_1161 ⟨rfl, rfl, rfl⟩ ffw0_x_18 dX10_closesDown_28 ?_
          refine lv_iconst (v := 1) hx hb dX10_closesDown_31 (by decide) ?_
          refine lv_isub hx hb dX10_closesDown_32 ?_
          refine lv_topi (fun x_6 ex_6 => ?_)
          have zx_6 : x_6.toInt = fw0_x_18.toInt - 1 := by rw [ex_6]; exact i32_sub rfl (by decide) (by omega) (by omega)
          obtain rfl : x_3 = x_6 := ex_3.trans ex_6.symm
          refine hx_iald hx hb hW hT (gqo.S hM) tt_56 rfl ⟨by omega, by omega⟩ dX10_closesDown_33 (fun x_7 ex_7 lx_7 ux_7 => ?_)
          have ax_7 : x_7 = of x_3.toNatClampNeg := ex_7.trans (congrFun (hx_afS hM gqo rfl af_qo) _)
          obtain rfl : x_4 = x_7 := ex_4.trans ex_7.symm
          refine lv_iload_n hx hb dX10_closesDown_34 rfl (lv_at hl 1 rfl) ?_
          refine hb_icmp_lt (zx := x_4.toInt) (zy := i1.toInt) (tgt := 66) hx hb rfl rfl dX10_closesDown_35 (by decide) (fun c_8 => ?_) (fun c_8 => ?_)
          · skip
            have hex : fw0_x_18.toInt = 0 ∨ (of (fw0_x_18.toInt.toNat - 1)).toInt = 100 ∨ (of (fw0_x_18.toInt.toNat - 1)).toInt < i1.toInt := by first | exact Or.inl (by omega) | exact Or.inr (Or.inl (by rw [← (hx_top vi0_0 (by omega) ax_4 (by omega)).1]; omega)) | exact Or.inr (Or.inr (by rw [← (hx_top vi0_0 (by omega) ax_4 (by omega)).1]; omega))
            exact hx_retv hx hb hr hlk hW ⟨⟨fw0_x_14, fw0_x_18, ia0_qs, ffw0_x_14, ffw0_x_18, nia0_qs, ⟨vi0_0, hex, o9, hO9, hE9.trans (by rw [hv_ls_t (op := fw0_x_18.toInt) (j := x_3) (by omega) ax_4 (by omega) (by omega)]; exact hv_cd_n (by omega))⟩⟩, hT, hM⟩ dX10_closesDown_66
          · skip
            have hroom := hx_QQ_poproom vi0_0 (by omega) ax_4 (by omega) (by omega)
            have htop := hx_top vi0_0 (by omega) ax_4 (by omega)
            refine lv_aload_n hx hb dX10_closesDown_38 rfl (lv_at hl 0 rfl) ?_
            refine lv_aload_n hx hb dX10_closesDown_39 rfl (lv_at hl 0 rfl) ?_
            refine hk_getr hx hb hts hC_10 hown hW (gx.S hM) tt_10 17 (by decide) rfl kw_1160 ⟨rfl, rfl, rfl⟩ ((hM.o gx trivial rfl).2.trans f_x_17) dX10_closesDown_40 ?_
            refine lv_aload_n hx hb dX10_closesDown_43 rfl (lv_at hl 0 rfl) ?_
            refine hk_geti hx hb hts hC_10 hown hW (gx.S hM) tt_10 18 (by decide) rfl kw_1161 ⟨rfl, rfl, rfl⟩ ffw0_x_18 dX10_closesDown_44 ?_
            refine lv_iconst (v := 1) hx hb dX10_closesDown_47 (by decide) ?_
            refine lv_isub hx hb dX10_closesDown_48 ?_
            refine lv_topi (fun x_9 ex_9 => ?_)
            have zx_9 : x_9.toInt = fw0_x_18.toInt - 1 := by rw [ex_9]; exact i32_sub rfl (by decide) (by omega) (by omega)
            obtain rfl : x_3 = x_9 := ex_3.trans ex_9.symm
            refine hx_iald hx hb hW hT (gqo.S hM) tt_56 rfl ⟨by omega, by omega⟩ dX10_closesDown_49 (fun x_10 ex_10 lx_10 ux_10 => ?_)
            have ax_10 : x_10 = of x_3.toNatClampNeg := ex_10.trans (congrFun (hx_afS hM gqo rfl af_qo) _)
            obtain rfl : x_4 = x_10 := ex_4.trans ex_10.symm
            refine hx_gov (hx_runV (As := [.int x_4]) (rest := []) ⟨hx, hb, hml, hown, hts⟩ hW (gx.S hM) tt_10 (T := TX10) (N := 98) rfl (t_X10_writes l dC dI dA hL1 hl1 H.size x x_4 hT (gx.S hM) qs (gqs.S hM) ((hM.o gx trivial rfl).2.trans f_x_15) ia0_qs nia0_qs fw0_x_14 ffw0_x_14 (by omega)) (cwV 1 hts (hx_gV kw_1138 kw_1135 kw_1137 kw_50 kw_103) rfl rfl rfl (by decide +kernel) ⟨Nat.le_of_ble_eq_true rfl, Nat.le_of_ble_eq_true rfl⟩) rfl hl.1 rfl (Nat.le_of_ble_eq_true rfl) dX10_closesDown_50 ⟨Nat.le_of_ble_eq_true rfl, Nat.le_of_ble_eq_true rfl⟩) hW (fun L_11 h_12 H locs p_14 hW => ?_)
            obtain ⟨⟨w_16, w_17, fw_16, fw_17, hr_15⟩, hT, hs⟩ := p_14
            replace hT : hx_T T_tb L_11 h_12 := hT
            replace hs : hx_S T_tb [(10, 14), (55, 0)] hL1 hl1 L_11 h_12 := hs
            replace ffw0_x_18 := (hs.o (gx.S hM) trivial rfl).1.trans ffw0_x_18
            replace ex_4 := ex_4.trans (hs.a (gqo.S hM) rfl _).1.symm
            replace hM := hM.tr (hs.mono (by decide))
            have fw_16 : h_12.2.1 x 14 = w_16 := fw_16
            have bw_16 := hT.gi (gx.S hM) tt_10 (k := 14) rfl
            rw [fw_16] at bw_16
            have bw_16 : 0 ≤ w_16.toInt ∧ w_16.toInt ≤ 128 := bw_16
            have fw_17 : h_12.2.1 qs = w_17 := fw_17
            refine lv_aload_n hx hb dX10_closesDown_53 rfl (lv_at hl 0 rfl) ?_
            refine lv_dup hx hb dX10_closesDown_54 rfl ?_
            refine hk_geti hx hb hts hC_10 hown hW (gx.S hM) tt_10 18 (by decide) rfl kw_1161 ⟨rfl, rfl, rfl⟩ ffw0_x_18 dX10_closesDown_55 ?_
            refine lv_iconst (v := 1) hx hb dX10_closesDown_58 (by decide) ?_
            refine lv_isub hx hb dX10_closesDown_59 ?_
            refine lv_topi (fun x_18 ex_18 => ?_)
            have zx_18 : x_18.toInt = fw0_x_18.toInt - 1 := by rw [ex_18]; exact i32_sub rfl (by decide) (by omega) (by omega)
            obtain rfl : x_3 = x_18 := ex_3.trans ex_18.symm
            refine hx_puti hx hb hts hC_10 hown hW hT (hx_S.rf (M := [(10, 18)])) (gx.S hM) tt_10 18 (by decide) rfl kw_1161 ⟨rfl, rfl, rfl⟩ rfl (x := x_3) ⟨by omega, by omega⟩ rfl rfl rfl (List.mem_singleton.mpr rfl) dX10_closesDown_60 (fun H locs h_19 eh_19 hW hT hs => ?_)
            replace fw_16 := (hs.o (gx.S hM) trivial rfl).1.trans fw_16
            replace fw_17 : h_19.2.1 qs = w_17 := (funext fun j => (hs.a (gqs.S hM) rfl j).1).trans fw_17
            replace ex_4 := ex_4.trans (hs.a (gqo.S hM) rfl _).1.symm
            replace hM := hM.tr (hs.mono (by decide))
            have f_20 : h_19.2.1 x 18 = x_3 := by rw [eh_19]; exact hx_pi_at _ _ _ _
            have hOn := hv_ls_u (t := (0, x_4.toInt.toNat, 0)) hO9 (by unfold hv_rc; dsimp only; rw [if_pos rfl]; omega) (show w_16.toInt.toNat = fw0_x_14.toInt.toNat + 1 by omega) hr_15.2
            have htp := hv_ls_t (op := fw0_x_18.toInt) (j := x_3) (by omega) ax_4 (by omega) (by omega)
            have hEn := hE9.trans ((congrArg _ htp).trans (hv_cd_y (by omega) (by omega)))
            refine lv_goto (tgt := 0) hx hb dX10_closesDown_63 (by decide) ?_
            exact ih0 w_16 x_3 w_17 _ _ L_11 h_19 (by omega) (by omega) (by omega) (by omega) (hx_QQ_pop vi0_0 (by omega) ax_4 (by omega) (by omega) (by omega) (hx_cl (by omega)) hr_15.1 (by omega) hr_15.2) ⟨_, hOn, hEn⟩ ls (by omega) hW hT hM fw_16 f_20 fw_17 (lv_sub hl [0, 1] rfl)
  exact loop0 129 st0 op0 sf _ _ L h (by omega) (by omega) (by omega) (by omega) hQ ⟨o, hO, rfl⟩ ls (by omega) hW hT hM f_x_14 f_x_18 af_qs hl


set_option maxHeartbeats 4000000 in
set_option maxRecDepth 100000 in
theorem t_X10_clears_v (l : Launch) (dC : Nat → ClassId) (dI : Nat → Nat → Nat) (dA : Nat → ClassId) (L : List Nat) (h : hx_h) (sz : Nat) (x : Nat) (hT : hx_T T_tb L h) (gx : hx_g L h x 10)  : Met l yX10_clears (Cond.code yX10_clears cX10_clears 1 none :: hx_all) ({ frames := 0, cells := 0, slots := 0, locals := 0 }) (va_Pc [.ref x] (hx_B T_tb (P_ty dA) (dC, dI) vwCl L h sz)) (va_Qv (fun (u : List Nat × hx_h) => (∃ (st1 : Int32) (cp1 : Int32) (op1 : Int32), u.2.2.1 x 14 = st1 ∧ u.2.2.1 x 16 = cp1 ∧ u.2.2.1 x 18 = op1 ∧ (st1.toInt = 0 ∧ cp1.toInt = 0 ∧ op1.toInt = 0)) ∧ hx_T T_tb u.1 u.2 ∧ hx_S T_tb [(10, 14), (10, 16), (10, 18)] L h u.1 u.2) (hx_E T_tb (P_ty dA) (dC, dI) vwCl (hx_A L sz)) (hx_A L sz)) 0 0 (hx_A L sz) := by
  refine hx_met (lv := [(0, .ref x)]) (by decide +kernel) rfl (Nat.le_of_ble_eq_true rfl) rfl ?_
  intro p e s m below meth c hx hb hml hr hlk hts0 hown hin hsz hW ls hl
  have hts : ∀ w ∈ hx_all, w.before _ s = true := fun w hw => hts0 w (List.mem_cons_of_mem _ hw)
  have hown : s.vm.findClass "SmallCourtModel" = some m.cls := hown
  have hM : hx_S T_tb [(10, 14), (10, 16), (10, 18)] L h L h := hx_S.rf
  refine lv_aload_n hx hb dX10_clears_0 rfl (lv_at hl 0 rfl) ?_
  refine lv_iconst (v := 0) hx hb dX10_clears_1 (by decide) ?_
  refine hx_puti hx hb hts hC_10 hown hW hT (hx_S.rf (M := [(10, 14)])) (gx.S hM) tt_10 14 (by decide) rfl kw_1157 ⟨rfl, rfl, rfl⟩ rfl (x := (0 : Int32)) (by decide) rfl rfl rfl (List.mem_singleton.mpr rfl) dX10_clears_2 (fun H locs h_1 eh_1 hW hT hs => ?_)
  replace hM := hM.tr (hs.mono (by decide))
  have f_2 : h_1.2.1 x 14 = (0 : Int32) := by rw [eh_1]; exact hx_pi_at _ _ _ _
  refine lv_aload_n hx hb dX10_clears_5 rfl (lv_at hl 0 rfl) ?_
  refine lv_iconst (v := 0) hx hb dX10_clears_6 (by decide) ?_
  refine hx_puti hx hb hts hC_10 hown hW hT (hx_S.rf (M := [(10, 16)])) (gx.S hM) tt_10 16 (by decide) rfl kw_1159 ⟨rfl, rfl, rfl⟩ rfl (x := (0 : Int32)) (by decide) rfl rfl rfl (List.mem_singleton.mpr rfl) dX10_clears_7 (fun H locs h_3 eh_3 hW hT hs => ?_)
  replace f_2 := (hs.o (gx.S hM) trivial rfl).1.trans f_2
  replace hM := hM.tr (hs.mono (by decide))
  have f_4 : h_3.2.1 x 16 = (0 : Int32) := by rw [eh_3]; exact hx_pi_at _ _ _ _
  refine lv_aload_n hx hb dX10_clears_10 rfl (lv_at hl 0 rfl) ?_
  refine lv_iconst (v := 0) hx hb dX10_clears_11 (by decide) ?_
  refine hx_puti hx hb hts hC_10 hown hW hT (hx_S.rf (M := [(10, 18)])) (gx.S hM) tt_10 18 (by decide) rfl kw_1161 ⟨rfl, rfl, rfl⟩ rfl (x := (0 : Int32)) (by decide) rfl rfl rfl (List.mem_singleton.mpr rfl) dX10_clears_12 (fun H locs h_5 eh_5 hW hT hs => ?_)
  replace f_2 := (hs.o (gx.S hM) trivial rfl).1.trans f_2
  replace f_4 := (hs.o (gx.S hM) trivial rfl).1.trans f_4
  replace hM := hM.tr (hs.mono (by decide))
  have f_6 : h_5.2.1 x 18 = (0 : Int32) := by rw [eh_5]; exact hx_pi_at _ _ _ _
  have zo_0 : (0 : Int32).toInt = 0 := by decide
  have zo_0 : (0 : Int32).toInt = 0 := by decide
  have zo_0 : (0 : Int32).toInt = 0 := by decide
  exact hx_retv hx hb hr hlk hW ⟨⟨(0 : Int32), (0 : Int32), (0 : Int32), f_2, f_4, f_6, ⟨by decide, by decide, by decide⟩⟩, hT, hM⟩ dX10_clears_15


set_option maxHeartbeats 4000000 in
set_option maxRecDepth 100000 in
theorem t_X10_either_v (l : Launch) (dC : Nat → ClassId) (dI : Nat → Nat → Nat) (dA : Nat → ClassId) (L : List Nat) (h : hx_h) (sz : Nat) (x : Nat) (hT : hx_T T_tb L h) (gx : hx_g L h x 10) (qs : Nat) (gqs : hx_g L h qs 55) (f_x_15 : h.2.2 x 15 = some qs) (qo : Nat) (gqo : hx_g L h qo 56) (f_x_17 : h.2.2 x 17 = some qo) (qt : Nat) (gqt : hx_g L h qt 53) (f_x_6 : h.2.2 x 6 = some qt) (qw : Nat) (gqw : hx_g L h qw 57) (f_x_19 : h.2.2 x 19 = some qw) (sf : Nat → Int32) (af_qs : h.2.1 qs = sf) (of : Nat → Int32) (af_qo : h.2.1 qo = of) (tf : Nat → Int32) (af_qt : h.2.1 qt = tf) (wf : Nat → Int32) (af_qw : h.2.1 qw = wf) (nx0 : Int32) (f_x_8 : h.2.1 x 8 = nx0) (tp0 : Int32) (f_x_7 : h.2.1 x 7 = tp0) (ft0 : Int32) (f_x_9 : h.2.1 x 9 = ft0) (hnx : 5 ≤ nx0.toInt) (hwd : hx_wd wf) (hF : ft0.toInt = 0) (hA : nx0.toInt ≤ tp0.toInt) : Met l yX10_either (Cond.code yX10_either cX10_either 4 (some .boolean) :: hx_all) ({ frames := 4, cells := 0, slots := 0, locals := 95 }) (va_Pc [.ref x] (hx_B T_tb (P_ty dA) (dC, dI) vwCl L h sz)) (va_Qi (fun (r : Int32) (u : List Nat × hx_h) => (∃ (nx1 : Int32) (st1 : Int32) (cp1 : Int32) (ft1 : Int32) (sf1 : Nat → Int32), u.2.2.1 x 8 = nx1 ∧ u.2.2.1 x 14 = st1 ∧ u.2.2.1 x 16 = cp1 ∧ u.2.2.1 x 9 = ft1 ∧ u.2.2.1 qs = sf1 ∧ ((r.toInt = 0 ∨ r.toInt = 1) ∧ nx0.toInt ≤ nx1.toInt ∧ (r.toInt = 1 → hx_rp sf1 st1.toInt.toNat = some 1) ∧ hv_K hv_rc (hv_RN tf tp0.toInt.toNat true nx0.toInt.toNat 0 [] ([])) r.toInt ft1.toInt nx1.toInt cp1.toInt (hv_ls sf1 st1.toInt.toNat) ∧ (r.toInt = 1 → nx1.toInt ≤ tp0.toInt))) ∧ hx_T T_tb u.1 u.2 ∧ hx_S T_tb [(10, 8), (10, 9), (10, 10), (10, 11), (10, 14), (10, 16), (10, 18), (55, 0), (56, 0)] L h u.1 u.2) (hx_E T_tb (P_ty dA) (dC, dI) vwCl (hx_A L sz)) (hx_A L sz)) 0 0 (hx_A L sz) := by
  refine hx_met (lv := [(0, .ref x)]) (by decide +kernel) rfl (Nat.le_of_ble_eq_true rfl) rfl ?_
  intro p e s m below meth c hx hb hml hr hlk hts0 hown hin hsz hW ls hl
  have hts : ∀ w ∈ hx_all, w.before _ s = true := fun w hw => hts0 w (List.mem_cons_of_mem _ hw)
  have hown : s.vm.findClass "SmallCourtModel" = some m.cls := hown
  have hM : hx_S T_tb [(10, 8), (10, 9), (10, 10), (10, 11), (10, 14), (10, 16), (10, 18), (55, 0), (56, 0)] L h L h := hx_S.rf
  have b_nx0 := hT.gi gx tt_10 (k := 8) rfl
  rw [f_x_8] at b_nx0
  have b_nx0 : 0 ≤ nx0.toInt ∧ nx0.toInt ≤ 402 := b_nx0
  have b_tp0 := hT.gi gx tt_10 (k := 7) rfl
  rw [f_x_7] at b_tp0
  have b_tp0 : 0 ≤ tp0.toInt ∧ tp0.toInt ≤ 400 := b_tp0
  have b_ft0 := hT.gi gx tt_10 (k := 9) rfl
  rw [f_x_9] at b_ft0
  have b_ft0 : -2147483648 ≤ ft0.toInt ∧ ft0.toInt ≤ 2147483647 := b_ft0
  refine lv_aload_n hx hb dX10_either_0 rfl (lv_at hl 0 rfl) ?_
  refine hx_gov (hx_runV (As := []) (rest := []) ⟨hx, hb, hml, hown, hts⟩ hW (gx.S hM) tt_10 (T := TX10) (N := 98) rfl (t_X10_clears_v l dC dI dA L h s.heap.size x hT (gx.S hM)) (cwV 0 hts (hx_gV kw_1125 kw_1122 kw_1124 kw_48 kw_103) rfl rfl rfl (by decide +kernel) ⟨Nat.le_of_ble_eq_true rfl, Nat.le_of_ble_eq_true rfl⟩) rfl hl.1 rfl (Nat.le_of_ble_eq_true rfl) dX10_either_1 ⟨Nat.le_of_ble_eq_true rfl, Nat.le_of_ble_eq_true rfl⟩) hW (fun L_1 h_2 H locs p_4 hW => ?_)
  obtain ⟨⟨w_6, w_7, w_8, fw_6, fw_7, fw_8, hr_5⟩, hT, hs⟩ := p_4
  replace hT : hx_T T_tb L_1 h_2 := hT
  replace hs : hx_S T_tb [(10, 14), (10, 16), (10, 18)] L h L_1 h_2 := hs
  replace f_x_8 := (hs.o (gx.S hM) trivial rfl).1.trans f_x_8
  replace f_x_9 := (hs.o (gx.S hM) trivial rfl).1.trans f_x_9
  replace af_qs : h_2.2.1 qs = sf := (funext fun j => (hs.a (gqs.S hM) rfl j).1).trans af_qs
  replace af_qo : h_2.2.1 qo = of := (funext fun j => (hs.a (gqo.S hM) rfl j).1).trans af_qo
  replace hM := hM.tr (hs.mono (by decide))
  have fw_6 : h_2.2.1 x 14 = w_6 := fw_6
  have bw_6 := hT.gi (gx.S hM) tt_10 (k := 14) rfl
  rw [fw_6] at bw_6
  have bw_6 : 0 ≤ w_6.toInt ∧ w_6.toInt ≤ 128 := bw_6
  have fw_7 : h_2.2.1 x 16 = w_7 := fw_7
  have bw_7 := hT.gi (gx.S hM) tt_10 (k := 16) rfl
  rw [fw_7] at bw_7
  have bw_7 : 0 ≤ w_7.toInt ∧ w_7.toInt ≤ 20 := bw_7
  have fw_8 : h_2.2.1 x 18 = w_8 := fw_8
  have bw_8 := hT.gi (gx.S hM) tt_10 (k := 18) rfl
  rw [fw_8] at bw_8
  have bw_8 : 0 ≤ w_8.toInt ∧ w_8.toInt ≤ 128 := bw_8
  refine lv_iconst (v := 1) hx hb dX10_either_4 (by decide) ?_
  refine lv_istore_n (lv' := [(1, .int (1 : Int32)), (0, .ref x)]) hx hb dX10_either_5 rfl hl (by decide) rfl (fun ls hl => ?_)
  have loop6 : ∀ (n6 : Nat) (iv6_1 fw6_x_16 fw6_x_14 fw6_x_18 fw6_x_8 fw6_x_9 : Int32) (ia6_qs ia6_qo : Nat → Int32) (H : Heap) (locs : List Loc) (hL1 : List Nat) (hl1 : hx_h), 0 ≤ iv6_1.toInt → iv6_1.toInt ≤ 1 → 0 ≤ fw6_x_16.toInt → fw6_x_16.toInt ≤ 20 → 0 ≤ fw6_x_14.toInt → fw6_x_14.toInt ≤ 128 → 0 ≤ fw6_x_18.toInt → fw6_x_18.toInt ≤ 128 → 0 ≤ fw6_x_8.toInt → fw6_x_8.toInt ≤ 402 → -2147483648 ≤ fw6_x_9.toInt → fw6_x_9.toInt ≤ 2147483647 → (nx0.toInt ≤ fw6_x_8.toInt) → (hx_QQ (1 - (iv6_1.toInt : Int)).toNat fw6_x_16.toInt fw6_x_8.toInt fw6_x_14.toInt fw6_x_18.toInt ia6_qs ia6_qo) → (∃ o9 : List hv_tok, hv_ls ia6_qs (fw6_x_14.toInt).toNat = o9.map hv_rc ∧ hv_RN tf tp0.toInt.toNat true nx0.toInt.toNat 0 [] ([]) = hv_RN tf tp0.toInt.toNat (decide (iv6_1.toInt = 1)) (fw6_x_8.toInt).toNat (fw6_x_16.toInt).toNat o9 (hv_ls ia6_qo (fw6_x_18.toInt).toNat)) → (fw6_x_8.toInt ≤ tp0.toInt) → (fw6_x_9.toInt = 0) → ∀ (ls : Array Slot), 402 - fw6_x_8.toInt < (n6 : Int) → hx_W T_tb (P_ty dA) (dC, dI) vwCl (hx_A L sz) s.heap hL1 hl1 s H locs → hx_T T_tb hL1 hl1 → hx_S T_tb [(10, 8), (10, 9), (10, 10), (10, 11), (10, 14), (10, 16), (10, 18), (55, 0), (56, 0)] L h hL1 hl1 → hl1.2.1 x 16 = fw6_x_16 → hl1.2.1 x 14 = fw6_x_14 → hl1.2.1 x 18 = fw6_x_18 → hl1.2.1 x 8 = fw6_x_8 → hl1.2.1 x 9 = fw6_x_9 → hl1.2.1 qs = ia6_qs → hl1.2.1 qo = ia6_qo → lv_has ls 4 [(1, .int iv6_1), (0, .ref x)] → W p l e ({ frames := 4, cells := 0, slots := 0, locals := 95 }) s m ([.ref x] : List Value).toArray below meth c H locs 0 0 (MQ below (va_Qi (fun (r : Int32) (u : List Nat × hx_h) => (∃ (nx1 : Int32) (st1 : Int32) (cp1 : Int32) (ft1 : Int32) (sf1 : Nat → Int32), u.2.2.1 x 8 = nx1 ∧ u.2.2.1 x 14 = st1 ∧ u.2.2.1 x 16 = cp1 ∧ u.2.2.1 x 9 = ft1 ∧ u.2.2.1 qs = sf1 ∧ ((r.toInt = 0 ∨ r.toInt = 1) ∧ nx0.toInt ≤ nx1.toInt ∧ (r.toInt = 1 → hx_rp sf1 st1.toInt.toNat = some 1) ∧ hv_K hv_rc (hv_RN tf tp0.toInt.toNat true nx0.toInt.toNat 0 [] ([])) r.toInt ft1.toInt nx1.toInt cp1.toInt (hv_ls sf1 st1.toInt.toNat) ∧ (r.toInt = 1 → nx1.toInt ≤ tp0.toInt))) ∧ hx_T T_tb u.1 u.2 ∧ hx_S T_tb [(10, 8), (10, 9), (10, 10), (10, 11), (10, 14), (10, 16), (10, 18), (55, 0), (56, 0)] L h u.1 u.2) (hx_E T_tb (P_ty dA) (dC, dI) vwCl (hx_A L sz)) (hx_A L sz)) ([.ref x] : List Value).toArray s 0 0 (hx_A L sz)) (F0 m 6 ls []) := by
    intro n6
    induction n6 with
    | zero => intro iv6_1 fw6_x_16 fw6_x_14 fw6_x_18 fw6_x_8 fw6_x_9 ia6_qs ia6_qo H locs hL1 hl1 bliv6_1 buiv6_1 blfw6_x_16 bufw6_x_16 blfw6_x_14 bufw6_x_14 blfw6_x_18 bufw6_x_18 blfw6_x_8 bufw6_x_8 blfw6_x_9 bufw6_x_9 vi6_0 vi6_1 vi6_2 vi6_3 vi6_4 ls hn6; exfalso; omega
    | succ n6 ih6 =>
      intro iv6_1 fw6_x_16 fw6_x_14 fw6_x_18 fw6_x_8 fw6_x_9 ia6_qs ia6_qo H locs hL1 hl1 bliv6_1 buiv6_1 blfw6_x_16 bufw6_x_16 blfw6_x_14 bufw6_x_14 blfw6_x_18 bufw6_x_18 blfw6_x_8 bufw6_x_8 blfw6_x_9 bufw6_x_9 vi6_0 vi6_1 vi6_2 vi6_3 vi6_4 ls hn6 hW hT hM ffw6_x_16 ffw6_x_14 ffw6_x_18 ffw6_x_8 ffw6_x_9 nia6_qs nia6_qo hl
      obtain ⟨o6, hO6, hE6⟩ := vi6_2
      refine lv_iload_n hx hb dX10_either_6 rfl (lv_at hl 0 rfl) ?_
      refine hb_if_eq (zx := iv6_1.toInt) (tgt := 19) hx hb rfl dX10_either_7 (by decide) (fun c_9 => ?_) (fun c_9 => ?_)
      · skip
        refine lv_iload_n hx hb dX10_either_19 rfl (lv_at hl 0 rfl) ?_
        refine hb_if_eq (zx := iv6_1.toInt) (tgt := 27) hx hb rfl dX10_either_20 (by decide) (fun c_10 => ?_) (fun c_10 => by exfalso; omega)
        have hq1 : hx_QQ 1 fw6_x_16.toInt fw6_x_8.toInt fw6_x_14.toInt fw6_x_18.toInt ia6_qs ia6_qo := hx_QQ_bE vi6_1 (by omega)
        have hmE : hv_RN tf tp0.toInt.toNat true nx0.toInt.toNat 0 [] ([]) = hv_RN tf tp0.toInt.toNat false fw6_x_8.toInt.toNat fw6_x_16.toInt.toNat o6 (hv_ls ia6_qo fw6_x_18.toInt.toNat) := by rw [hE6, show decide (iv6_1.toInt = 1) = false from decide_eq_false (by omega)]
        refine lv_iconst (v := 0) hx hb dX10_either_27 (by decide) ?_
        refine lv_istore_n (lv' := [(1, .int (0 : Int32)), (0, .ref x)]) hx hb dX10_either_28 rfl hl (by decide) rfl (fun ls hl => ?_)
        refine lv_aload_n hx hb dX10_either_29 rfl (lv_at hl 1 rfl) ?_
        refine hx_goi (hx_runV (As := []) (rest := []) ⟨hx, hb, hml, hown, hts⟩ hW (gx.S hM) tt_10 (T := TX10) (N := 98) rfl (t_X10_see_v l dC dI dA hL1 hl1 H.size x hT (gx.S hM) qt (gqt.S hM) ((hM.o gx trivial rfl).2.trans f_x_6) tf (hx_afS hM gqt rfl af_qt) fw6_x_8 ffw6_x_8 tp0 ((hM.o gx trivial rfl).1.trans f_x_7) (by omega)) (cwV 0 hts (hx_gV kw_1468 kw_1465 kw_1467 kw_53 kw_103) rfl rfl rfl (by decide +kernel) ⟨Nat.le_of_ble_eq_true rfl, Nat.le_of_ble_eq_true rfl⟩) rfl hl.1 rfl (Nat.le_of_ble_eq_true rfl) dX10_either_30 ⟨Nat.le_of_ble_eq_true rfl, Nat.le_of_ble_eq_true rfl⟩) hW (fun r_13 L_11 h_12 H locs p_14 hW => ?_)
        obtain ⟨⟨w_16, fw_16, hr_15⟩, hT, hs⟩ := p_14
        replace hT : hx_T T_tb L_11 h_12 := hT
        replace hs : hx_S T_tb [(10, 8)] hL1 hl1 L_11 h_12 := hs
        replace ffw6_x_16 := (hs.o (gx.S hM) trivial rfl).1.trans ffw6_x_16
        replace ffw6_x_14 := (hs.o (gx.S hM) trivial rfl).1.trans ffw6_x_14
        replace ffw6_x_18 := (hs.o (gx.S hM) trivial rfl).1.trans ffw6_x_18
        replace ffw6_x_9 := (hs.o (gx.S hM) trivial rfl).1.trans ffw6_x_9
        replace nia6_qs : h_12.2.1 qs = ia6_qs := (funext fun j => (hs.a (gqs.S hM) rfl j).1).trans nia6_qs
        replace nia6_qo : h_12.2.1 qo = ia6_qo := (funext fun j => (hs.a (gqo.S hM) rfl j).1).trans nia6_qo
        replace hM := hM.tr (hs.mono (by decide))
        have fw_16 : h_12.2.1 x 8 = w_16 := fw_16
        have bw_16 := hT.gi (gx.S hM) tt_10 (k := 8) rfl
        rw [fw_16] at bw_16
        have bw_16 : 0 ≤ w_16.toInt ∧ w_16.toInt ≤ 402 := bw_16
        have ek_17 : w_16.toInt.toNat = hv_sk tf tp0.toInt.toNat fw6_x_8.toInt.toNat := by omega
        have hr_15S := hr_15.2.2.2.1
        refine lv_istore_n (lv' := [(2, .int r_13), (1, .int (0 : Int32)), (0, .ref x)]) hx hb dX10_either_33 rfl hl (by decide) rfl (fun ls hl => ?_)
        refine lv_aload_n hx hb dX10_either_34 rfl (lv_at hl 2 rfl) ?_
        refine hx_goi (hx_runV (As := []) (rest := []) ⟨hx, hb, hml, hown, hts⟩ hW (gx.S hM) tt_10 (T := TX10) (N := 98) rfl (t_X10_wordHere_v l dC dI dA L_11 h_12 H.size x hT (gx.S hM) qt (gqt.S hM) ((hM.o gx trivial rfl).2.trans f_x_6) qw (gqw.S hM) ((hM.o gx trivial rfl).2.trans f_x_19) tf (hx_afS hM gqt rfl af_qt) wf (hx_afS hM gqw rfl af_qw) w_16 fw_16 tp0 ((hM.o gx trivial rfl).1.trans f_x_7) hwd (by omega)) (cwV 0 hts (hx_gV kw_1476 kw_1473 kw_1475 kw_55 kw_103) rfl rfl rfl (by decide +kernel) ⟨Nat.le_of_ble_eq_true rfl, Nat.le_of_ble_eq_true rfl⟩) rfl hl.1 rfl (Nat.le_of_ble_eq_true rfl) dX10_either_35 ⟨Nat.le_of_ble_eq_true rfl, Nat.le_of_ble_eq_true rfl⟩) hW (fun r_20 L_18 h_19 H locs p_21 hW => ?_)
        obtain ⟨⟨w_23, w_24, fw_23, fw_24, hr_22⟩, hT, hs⟩ := p_21
        replace hT : hx_T T_tb L_18 h_19 := hT
        replace hs : hx_S T_tb [(10, 8), (10, 11)] L_11 h_12 L_18 h_19 := hs
        replace ffw6_x_16 := (hs.o (gx.S hM) trivial rfl).1.trans ffw6_x_16
        replace ffw6_x_14 := (hs.o (gx.S hM) trivial rfl).1.trans ffw6_x_14
        replace ffw6_x_18 := (hs.o (gx.S hM) trivial rfl).1.trans ffw6_x_18
        replace ffw6_x_9 := (hs.o (gx.S hM) trivial rfl).1.trans ffw6_x_9
        replace nia6_qs : h_19.2.1 qs = ia6_qs := (funext fun j => (hs.a (gqs.S hM) rfl j).1).trans nia6_qs
        replace nia6_qo : h_19.2.1 qo = ia6_qo := (funext fun j => (hs.a (gqo.S hM) rfl j).1).trans nia6_qo
        replace hM := hM.tr (hs.mono (by decide))
        have fw_23 : h_19.2.1 x 8 = w_23 := fw_23
        have bw_23 := hT.gi (gx.S hM) tt_10 (k := 8) rfl
        rw [fw_23] at bw_23
        have bw_23 : 0 ≤ w_23.toInt ∧ w_23.toInt ≤ 402 := bw_23
        have fw_24 : h_19.2.1 x 11 = w_24 := fw_24
        have bw_24 := hT.gi (gx.S hM) tt_10 (k := 11) rfl
        rw [fw_24] at bw_24
        have bw_24 : 0 ≤ w_24.toInt ∧ w_24.toInt ≤ 400 := bw_24
        have ek_25 : w_23.toInt.toNat = hv_sk tf tp0.toInt.toNat w_16.toInt.toNat := by omega
        have hr_22W : r_20.toInt = hv_wd tf tp0.toInt.toNat w_23.toInt.toNat := by rw [ek_25]; exact hr_22.2.2.2.2.1
        have hr_22E : ((hv_we tf tp0.toInt.toNat w_23.toInt.toNat : Nat) : Int) = w_23.toInt + w_24.toInt := by rw [ek_25]; exact hr_22.2.2.2.1.symm
        refine lv_istore_n (lv' := [(3, .int r_20), (2, .int r_13), (1, .int (0 : Int32)), (0, .ref x)]) hx hb dX10_either_38 rfl hl (by decide) rfl (fun ls hl => ?_)
        have e12 : w_23.toInt.toNat = w_16.toInt.toNat := by rw [ek_25, ek_17]; exact hv_sk_id
        have eks : w_23.toInt.toNat = hv_sk tf tp0.toInt.toNat fw6_x_8.toInt.toNat := by rw [e12, ek_17]
        refine lv_iload_n hx hb dX10_either_39 rfl (lv_at hl 0 rfl) ?_
        refine lv_iconst (v := 1) hx hb dX10_either_40 (by decide) ?_
        refine hb_icmp_eq (zx := r_20.toInt) (zy := 1) (tgt := 48) hx hb rfl (by decide) dX10_either_41 (by decide) (fun c_26 => ?_) (fun c_26 => ?_)
        · skip
          have hmw : hv_wd tf tp0.toInt.toNat w_23.toInt.toNat = r_20.toInt := hr_22W.symm
          have hml9 : w_23.toInt.toNat + 2 ≤ hv_we tf tp0.toInt.toNat w_23.toInt.toNat ∧ hv_we tf tp0.toInt.toNat w_23.toInt.toNat ≤ tp0.toInt.toNat := by rcases (show r_20.toInt = 1 ∨ r_20.toInt = 0 by omega) with z | z; (have h9 := hv_wd_1 (hmw.trans z); omega); (have h9 := hv_wd_0 (hmw.trans z); omega)
          refine lv_aload_n hx hb dX10_either_48 rfl (lv_at hl 3 rfl) ?_
          refine lv_iload_n hx hb dX10_either_49 rfl (lv_at hl 0 rfl) ?_
          refine hx_gov (hx_runV (As := [.int r_20]) (rest := []) ⟨hx, hb, hml, hown, hts⟩ hW (gx.S hM) tt_10 (T := TX10) (N := 98) rfl (t_X10_closesDown_v l dC dI dA L_18 h_19 H.size x r_20 hT (gx.S hM) qs (gqs.S hM) ((hM.o gx trivial rfl).2.trans f_x_15) qo (gqo.S hM) ((hM.o gx trivial rfl).2.trans f_x_17) ia6_qs nia6_qs ia6_qo nia6_qo fw6_x_16 ffw6_x_16 w_23 fw_23 fw6_x_14 ffw6_x_14 fw6_x_18 ffw6_x_18 (hx_QQ_next hq1 (by omega)) o6 hO6) (cwV 1 hts (hx_gV kw_1515 kw_1512 kw_1514 kw_64 kw_103) rfl rfl rfl (by decide +kernel) ⟨Nat.le_of_ble_eq_true rfl, Nat.le_of_ble_eq_true rfl⟩) rfl hl.1 rfl (Nat.le_of_ble_eq_true rfl) dX10_either_50 ⟨Nat.le_of_ble_eq_true rfl, Nat.le_of_ble_eq_true rfl⟩) hW (fun L_27 h_28 H locs p_30 hW => ?_)
          obtain ⟨⟨w_32, w_33, w_34, fw_32, fw_33, fw_34, hr_31⟩, hT, hs⟩ := p_30
          replace hT : hx_T T_tb L_27 h_28 := hT
          replace hs : hx_S T_tb [(10, 14), (10, 18), (55, 0)] L_18 h_19 L_27 h_28 := hs
          replace ffw6_x_16 := (hs.o (gx.S hM) trivial rfl).1.trans ffw6_x_16
          replace ffw6_x_9 := (hs.o (gx.S hM) trivial rfl).1.trans ffw6_x_9
          replace fw_23 := (hs.o (gx.S hM) trivial rfl).1.trans fw_23
          replace fw_24 := (hs.o (gx.S hM) trivial rfl).1.trans fw_24
          replace nia6_qo : h_28.2.1 qo = ia6_qo := (funext fun j => (hs.a (gqo.S hM) rfl j).1).trans nia6_qo
          replace hM := hM.tr (hs.mono (by decide))
          have fw_32 : h_28.2.1 x 14 = w_32 := fw_32
          have bw_32 := hT.gi (gx.S hM) tt_10 (k := 14) rfl
          rw [fw_32] at bw_32
          have bw_32 : 0 ≤ w_32.toInt ∧ w_32.toInt ≤ 128 := bw_32
          have fw_33 : h_28.2.1 x 18 = w_33 := fw_33
          have bw_33 := hT.gi (gx.S hM) tt_10 (k := 18) rfl
          rw [fw_33] at bw_33
          have bw_33 : 0 ≤ w_33.toInt ∧ w_33.toInt ≤ 128 := bw_33
          have fw_34 : h_28.2.1 qs = w_34 := fw_34
          obtain ⟨oc_35, oc_35O, oc_35E⟩ := hr_31.2.2
          have hqb := hx_QQ_b hr_31.1
          refine lv_aload_n hx hb dX10_either_53 rfl (lv_at hl 3 rfl) ?_
          refine hk_getr hx hb hts hC_10 hown hW (gx.S hM) tt_10 17 (by decide) rfl kw_1160 ⟨rfl, rfl, rfl⟩ ((hM.o gx trivial rfl).2.trans f_x_17) dX10_either_54 ?_
          refine lv_aload_n hx hb dX10_either_57 rfl (lv_at hl 3 rfl) ?_
          refine hk_geti hx hb hts hC_10 hown hW (gx.S hM) tt_10 18 (by decide) rfl kw_1161 ⟨rfl, rfl, rfl⟩ fw_33 dX10_either_58 ?_
          refine lv_iload_n hx hb dX10_either_61 rfl (lv_at hl 0 rfl) ?_
          have nia6_qoO := nia6_qo
          refine hx_iast hx hb hW hT (hx_S.rf (M := [(56, 0)])) (gqo.S hM) tt_56 rfl ⟨by omega, by omega⟩ rfl ⟨by omega, by omega⟩ (List.mem_singleton.mpr rfl) dX10_either_62 (fun H locs h_36 eh_36 hW hT hs => ?_)
          replace ffw6_x_16 := (hs.o (gx.S hM) trivial rfl).1.trans ffw6_x_16
          replace ffw6_x_9 := (hs.o (gx.S hM) trivial rfl).1.trans ffw6_x_9
          replace fw_23 := (hs.o (gx.S hM) trivial rfl).1.trans fw_23
          replace fw_24 := (hs.o (gx.S hM) trivial rfl).1.trans fw_24
          replace fw_32 := (hs.o (gx.S hM) trivial rfl).1.trans fw_32
          replace fw_33 := (hs.o (gx.S hM) trivial rfl).1.trans fw_33
          replace fw_34 : h_36.2.1 qs = w_34 := (funext fun j => (hs.a (gqs.S hM) rfl j).1).trans fw_34
          replace hM := hM.tr (hs.mono (by decide))
          obtain ⟨fa_37, dfa_37⟩ : ∃ g : Nat → Int32, g = hx_up ia6_qo w_33.toNatClampNeg r_20 := ⟨_, rfl⟩
          have nfa_37 : h_36.2.1 qo = fa_37 := by rw [eh_36, dfa_37, ← nia6_qoO]; exact hx_pi_fun _ _ _ _
          refine lv_aload_n hx hb dX10_either_63 rfl (lv_at hl 3 rfl) ?_
          refine lv_dup hx hb dX10_either_64 rfl ?_
          refine hk_geti hx hb hts hC_10 hown hW (gx.S hM) tt_10 18 (by decide) rfl kw_1161 ⟨rfl, rfl, rfl⟩ fw_33 dX10_either_65 ?_
          refine lv_iconst (v := 1) hx hb dX10_either_68 (by decide) ?_
          refine lv_iadd hx hb dX10_either_69 ?_
          have rg_38 := i32_r w_33
          refine lv_topi (fun x_39 ex_39 => ?_)
          have zx_39 : x_39.toInt = w_33.toInt + 1 := by rw [ex_39]; exact i32_add rfl (by decide) (by omega) (by omega)
          refine hx_puti hx hb hts hC_10 hown hW hT (hx_S.rf (M := [(10, 18)])) (gx.S hM) tt_10 18 (by decide) rfl kw_1161 ⟨rfl, rfl, rfl⟩ rfl (x := x_39) ⟨by omega, by omega⟩ rfl rfl rfl (List.mem_singleton.mpr rfl) dX10_either_70 (fun H locs h_40 eh_40 hW hT hs => ?_)
          replace ffw6_x_16 := (hs.o (gx.S hM) trivial rfl).1.trans ffw6_x_16
          replace ffw6_x_9 := (hs.o (gx.S hM) trivial rfl).1.trans ffw6_x_9
          replace fw_23 := (hs.o (gx.S hM) trivial rfl).1.trans fw_23
          replace fw_24 := (hs.o (gx.S hM) trivial rfl).1.trans fw_24
          replace fw_32 := (hs.o (gx.S hM) trivial rfl).1.trans fw_32
          replace fw_34 : h_40.2.1 qs = w_34 := (funext fun j => (hs.a (gqs.S hM) rfl j).1).trans fw_34
          replace nfa_37 : h_40.2.1 qo = fa_37 := (funext fun j => (hs.a (gqo.S hM) rfl j).1).trans nfa_37
          replace hM := hM.tr (hs.mono (by decide))
          have f_41 : h_40.2.1 x 18 = x_39 := by rw [eh_40]; exact hx_pi_at _ _ _ _
          refine lv_aload_n hx hb dX10_either_73 rfl (lv_at hl 3 rfl) ?_
          refine lv_dup hx hb dX10_either_74 rfl ?_
          refine hk_geti hx hb hts hC_10 hown hW (gx.S hM) tt_10 8 (by decide) rfl kw_1151 ⟨rfl, rfl, rfl⟩ fw_23 dX10_either_75 ?_
          refine lv_aload_n hx hb dX10_either_78 rfl (lv_at hl 3 rfl) ?_
          refine hk_geti hx hb hts hC_10 hown hW (gx.S hM) tt_10 11 (by decide) rfl kw_1154 ⟨rfl, rfl, rfl⟩ fw_24 dX10_either_79 ?_
          refine lv_iadd hx hb dX10_either_82 ?_
          have rg_42 := i32_r w_23
          have rg_43 := i32_r w_24
          refine lv_topi (fun x_44 ex_44 => ?_)
          have zx_44 : x_44.toInt = w_23.toInt + w_24.toInt := by rw [ex_44]; exact i32_add rfl rfl (by omega) (by omega)
          refine hx_puti hx hb hts hC_10 hown hW hT (hx_S.rf (M := [(10, 8)])) (gx.S hM) tt_10 8 (by decide) rfl kw_1151 ⟨rfl, rfl, rfl⟩ rfl (x := x_44) ⟨by omega, by omega⟩ rfl rfl rfl (List.mem_singleton.mpr rfl) dX10_either_83 (fun H locs h_45 eh_45 hW hT hs => ?_)
          replace ffw6_x_16 := (hs.o (gx.S hM) trivial rfl).1.trans ffw6_x_16
          replace ffw6_x_9 := (hs.o (gx.S hM) trivial rfl).1.trans ffw6_x_9
          replace fw_24 := (hs.o (gx.S hM) trivial rfl).1.trans fw_24
          replace fw_32 := (hs.o (gx.S hM) trivial rfl).1.trans fw_32
          replace f_41 := (hs.o (gx.S hM) trivial rfl).1.trans f_41
          replace fw_34 : h_45.2.1 qs = w_34 := (funext fun j => (hs.a (gqs.S hM) rfl j).1).trans fw_34
          replace nfa_37 : h_45.2.1 qo = fa_37 := (funext fun j => (hs.a (gqo.S hM) rfl j).1).trans nfa_37
          replace hM := hM.tr (hs.mono (by decide))
          have f_46 : h_45.2.1 x 8 = x_44 := by rw [eh_45]; exact hx_pi_at _ _ _ _
          refine lv_iconst (v := 1) hx hb dX10_either_86 (by decide) ?_
          refine lv_istore_n (lv' := [(1, .int (1 : Int32)), (3, .int r_20), (2, .int r_13), (0, .ref x)]) hx hb dX10_either_87 rfl hl (by decide) rfl (fun ls hl => ?_)
          refine lv_goto (tgt := 176) hx hb dX10_either_88 (by decide) ?_
          refine lv_goto (tgt := 6) hx hb dX10_either_176 (by decide) ?_
          have zk_1 : (1 : Int32).toInt = 1 := by decide
          exact ih6 (1 : Int32) fw6_x_16 w_32 x_39 x_44 fw6_x_9 w_34 fa_37 _ _ L_27 h_45 (by decide) (by decide) (by omega) (by omega) (by omega) (by omega) (by omega) (by omega) (by omega) (by omega) (i32_r _).1 (i32_r _).2 (by omega) (hx_QQ_bE (hx_QQ_join hr_31.1 (by omega) (by omega) (by omega) (hx_cl (by omega)) (by omega) dfa_37) (by decide)) ⟨oc_35, oc_35O, hmE.trans ((hv_RN_a (by rw [← eks]; exact hmw) (by omega) oc_35E).trans (by rw [← eks, show hv_we tf tp0.toInt.toNat w_23.toInt.toNat = x_44.toInt.toNat by omega, show decide ((1 : Int32).toInt = 1) = true from (by decide), hv_ls_p (n := w_33.toInt.toNat) (z := r_20.toInt) rfl (by omega) rfl dfa_37] <;> rfl))⟩ (by omega) (by omega) ls (by omega) hW hT hM ffw6_x_16 fw_32 f_41 f_46 ffw6_x_9 fw_34 nfa_37 (lv_sub hl [0, 3] rfl)
        · skip
          refine lv_iload_n hx hb dX10_either_44 rfl (lv_at hl 0 rfl) ?_
          refine hb_if_ne (zx := r_20.toInt) (tgt := 91) hx hb rfl dX10_either_45 (by decide) (fun c_47 => ?_) (fun c_47 => ?_)
          · skip
            have hmw : hv_wd tf tp0.toInt.toNat w_23.toInt.toNat ≠ 1 ∧ hv_wd tf tp0.toInt.toNat w_23.toInt.toNat ≠ 0 := ⟨by omega, by omega⟩
            refine lv_iload_n hx hb dX10_either_91 rfl (lv_at hl 1 rfl) ?_
            refine lv_bipush (v := 41) hx hb dX10_either_92 (by decide) ?_
            refine hb_icmp_ne (zx := r_13.toInt) (zy := 41) (tgt := 146) hx hb rfl (by decide) dX10_either_94 (by decide) (fun c_48 => ?_) (fun c_48 => ?_)
            · skip
              have hm41 : ¬ (w_23.toInt.toNat < tp0.toInt.toNat ∧ (tf w_23.toInt.toNat).toInt = 41) := by rw [e12]; exact fun z9 => hv_SE_n (k := 41) hr_15S (by omega) ⟨by omega, z9.2, by decide⟩
              refine lv_aload_n hx hb dX10_either_146 rfl (lv_at hl 3 rfl) ?_
              refine lv_iconst (v := 0) hx hb dX10_either_147 (by decide) ?_
              have zc_0 : (0 : Int32).toInt = 0 := by decide
              refine hx_gov (hx_runV (As := [.int (0 : Int32)]) (rest := []) ⟨hx, hb, hml, hown, hts⟩ hW (gx.S hM) tt_10 (T := TX10) (N := 98) rfl (t_X10_closesDown_v l dC dI dA L_18 h_19 H.size x (0 : Int32) hT (gx.S hM) qs (gqs.S hM) ((hM.o gx trivial rfl).2.trans f_x_15) qo (gqo.S hM) ((hM.o gx trivial rfl).2.trans f_x_17) ia6_qs nia6_qs ia6_qo nia6_qo fw6_x_16 ffw6_x_16 w_23 fw_23 fw6_x_14 ffw6_x_14 fw6_x_18 ffw6_x_18 (hx_QQ_next hq1 (by omega)) o6 hO6) (cwV 1 hts (hx_gV kw_1515 kw_1512 kw_1514 kw_64 kw_103) rfl rfl rfl (by decide +kernel) ⟨Nat.le_of_ble_eq_true rfl, Nat.le_of_ble_eq_true rfl⟩) rfl hl.1 rfl (Nat.le_of_ble_eq_true rfl) dX10_either_148 ⟨Nat.le_of_ble_eq_true rfl, Nat.le_of_ble_eq_true rfl⟩) hW (fun L_49 h_50 H locs p_52 hW => ?_)
              obtain ⟨⟨w_54, w_55, w_56, fw_54, fw_55, fw_56, hr_53⟩, hT, hs⟩ := p_52
              replace hT : hx_T T_tb L_49 h_50 := hT
              replace hs : hx_S T_tb [(10, 14), (10, 18), (55, 0)] L_18 h_19 L_49 h_50 := hs
              replace ffw6_x_16 := (hs.o (gx.S hM) trivial rfl).1.trans ffw6_x_16
              replace ffw6_x_9 := (hs.o (gx.S hM) trivial rfl).1.trans ffw6_x_9
              replace fw_23 := (hs.o (gx.S hM) trivial rfl).1.trans fw_23
              replace fw_24 := (hs.o (gx.S hM) trivial rfl).1.trans fw_24
              replace nia6_qo : h_50.2.1 qo = ia6_qo := (funext fun j => (hs.a (gqo.S hM) rfl j).1).trans nia6_qo
              replace hM := hM.tr (hs.mono (by decide))
              have fw_54 : h_50.2.1 x 14 = w_54 := fw_54
              have bw_54 := hT.gi (gx.S hM) tt_10 (k := 14) rfl
              rw [fw_54] at bw_54
              have bw_54 : 0 ≤ w_54.toInt ∧ w_54.toInt ≤ 128 := bw_54
              have fw_55 : h_50.2.1 x 18 = w_55 := fw_55
              have bw_55 := hT.gi (gx.S hM) tt_10 (k := 18) rfl
              rw [fw_55] at bw_55
              have bw_55 : 0 ≤ w_55.toInt ∧ w_55.toInt ≤ 128 := bw_55
              have fw_56 : h_50.2.1 qs = w_56 := fw_56
              obtain ⟨oc_57, oc_57O, oc_57E⟩ := hr_53.2.2
              refine lv_aload_n hx hb dX10_either_151 rfl (lv_at hl 3 rfl) ?_
              refine hk_geti hx hb hts hC_10 hown hW (gx.S hM) tt_10 18 (by decide) rfl kw_1161 ⟨rfl, rfl, rfl⟩ fw_55 dX10_either_152 ?_
              refine hb_if_eq (zx := w_55.toInt) (tgt := 170) hx hb rfl dX10_either_155 (by decide) (fun c_58 => ?_) (fun c_58 => ?_)
              · skip
                refine lv_iconst (v := 1) hx hb dX10_either_170 (by decide) ?_
                refine lv_goto (tgt := 175) hx hb dX10_either_171 (by decide) ?_
                exact hx_retz hx hb hr rfl hlk hW ⟨⟨w_23, w_54, fw6_x_16, fw6_x_9, w_56, fw_23, fw_54, ffw6_x_16, ffw6_x_9, fw_56, ⟨by decide, by omega, fun _ => hx_QQ_endE hr_53.1 (by omega), (hv_K_t (x := w_23.toInt.toNat) (y := fw6_x_16.toInt.toNat) (by decide) (by omega) (by omega) (by omega) oc_57O (hmE.trans ((hv_RN_e0 (by rw [← eks]; exact hmw) (by rw [← eks]; exact hm41) (by have h9 := oc_57E; have z0 : (0 : Int32).toInt = 0 := (by decide); rw [z0] at h9; rw [hv_ls_0 (op := w_55.toInt) (by omega)] at h9; exact h9)).trans (by rw [← eks])))), fun _ => by omega⟩⟩, hT, hM⟩ dX10_either_175
              · skip
                refine lv_aload_n hx hb dX10_either_158 rfl (lv_at hl 3 rfl) ?_
                refine lv_iconst (v := 0) hx hb dX10_either_159 (by decide) ?_
                refine lv_aload_n hx hb dX10_either_160 rfl (lv_at hl 3 rfl) ?_
                refine hk_geti hx hb hts hC_10 hown hW (gx.S hM) tt_10 8 (by decide) rfl kw_1151 ⟨rfl, rfl, rfl⟩ fw_23 dX10_either_161 ?_
                refine hx_goi (hx_runV (As := [.int (0 : Int32), .int w_23]) (rest := []) ⟨hx, hb, hml, hown, hts⟩ hW (gx.S hM) tt_10 (T := TX10) (N := 98) rfl (t_X10_fails_v l dC dI dA L_49 h_50 H.size x (0 : Int32) w_23 hT (gx.S hM) fw6_x_9 ffw6_x_9 (by omega) (by decide) ⟨by omega, by omega⟩) (cwV 2 hts (hx_gV kw_1480 kw_1477 kw_1479 kw_56 kw_103) rfl rfl rfl (by decide +kernel) ⟨Nat.le_of_ble_eq_true rfl, Nat.le_of_ble_eq_true rfl⟩) rfl hl.1 rfl (Nat.le_of_ble_eq_true rfl) dX10_either_164 ⟨Nat.le_of_ble_eq_true rfl, Nat.le_of_ble_eq_true rfl⟩) hW (fun r_61 L_59 h_60 H locs p_62 hW => ?_)
                obtain ⟨⟨w_64, fw_64, hr_63⟩, hT, hs⟩ := p_62
                replace hT : hx_T T_tb L_59 h_60 := hT
                replace hs : hx_S T_tb [(10, 9)] L_49 h_50 L_59 h_60 := hs
                replace ffw6_x_16 := (hs.o (gx.S hM) trivial rfl).1.trans ffw6_x_16
                replace fw_23 := (hs.o (gx.S hM) trivial rfl).1.trans fw_23
                replace fw_24 := (hs.o (gx.S hM) trivial rfl).1.trans fw_24
                replace fw_54 := (hs.o (gx.S hM) trivial rfl).1.trans fw_54
                replace fw_55 := (hs.o (gx.S hM) trivial rfl).1.trans fw_55
                replace nia6_qo : h_60.2.1 qo = ia6_qo := (funext fun j => (hs.a (gqo.S hM) rfl j).1).trans nia6_qo
                replace fw_56 : h_60.2.1 qs = w_56 := (funext fun j => (hs.a (gqs.S hM) rfl j).1).trans fw_56
                replace hM := hM.tr (hs.mono (by decide))
                have fw_64 : h_60.2.1 x 9 = w_64 := fw_64
                have bw_64 := hT.gi (gx.S hM) tt_10 (k := 9) rfl
                rw [fw_64] at bw_64
                have bw_64 : -2147483648 ≤ w_64.toInt ∧ w_64.toInt ≤ 2147483647 := bw_64
                refine hb_if_eq (zx := r_61.toInt) (tgt := 174) hx hb rfl dX10_either_167 (by decide) (fun c_65 => ?_) (fun c_65 => by exfalso; omega)
                refine lv_iconst (v := 0) hx hb dX10_either_174 (by decide) ?_
                exact hx_retz hx hb hr rfl hlk hW ⟨⟨w_23, w_54, fw6_x_16, w_64, w_56, fw_23, fw_54, ffw6_x_16, fw_64, fw_56, ⟨by omega, by omega, (fun z9 => absurd z9 (by decide)), (hv_K_f (x := 1 + 8 * w_23.toInt.toNat) (by omega) (by omega) (by omega) (hmE.trans ((hv_RN_e1 (by rw [← eks]; exact hmw) (by rw [← eks]; exact hm41) (by have h9 := oc_57E; have z0 : (0 : Int32).toInt = 0 := (by decide); rw [z0] at h9; exact h9) (hv_ls_n (by omega))).trans (by rw [← eks])))), (fun z9 => absurd z9 (by decide))⟩⟩, hT, hM⟩ dX10_either_175
            · skip
              have hm41 : w_23.toInt.toNat < tp0.toInt.toNat ∧ (tf w_23.toInt.toNat).toInt = 41 := by rw [e12]; have h8 := hv_SE_y (k := 41) hr_15S (by decide) (by decide) (by omega); exact ⟨by omega, h8.2⟩
              refine lv_aload_n hx hb dX10_either_97 rfl (lv_at hl 3 rfl) ?_
              refine lv_iconst (v := 0) hx hb dX10_either_98 (by decide) ?_
              have zc_0 : (0 : Int32).toInt = 0 := by decide
              refine hx_gov (hx_runV (As := [.int (0 : Int32)]) (rest := []) ⟨hx, hb, hml, hown, hts⟩ hW (gx.S hM) tt_10 (T := TX10) (N := 98) rfl (t_X10_closesDown_v l dC dI dA L_18 h_19 H.size x (0 : Int32) hT (gx.S hM) qs (gqs.S hM) ((hM.o gx trivial rfl).2.trans f_x_15) qo (gqo.S hM) ((hM.o gx trivial rfl).2.trans f_x_17) ia6_qs nia6_qs ia6_qo nia6_qo fw6_x_16 ffw6_x_16 w_23 fw_23 fw6_x_14 ffw6_x_14 fw6_x_18 ffw6_x_18 (hx_QQ_next hq1 (by omega)) o6 hO6) (cwV 1 hts (hx_gV kw_1515 kw_1512 kw_1514 kw_64 kw_103) rfl rfl rfl (by decide +kernel) ⟨Nat.le_of_ble_eq_true rfl, Nat.le_of_ble_eq_true rfl⟩) rfl hl.1 rfl (Nat.le_of_ble_eq_true rfl) dX10_either_99 ⟨Nat.le_of_ble_eq_true rfl, Nat.le_of_ble_eq_true rfl⟩) hW (fun L_66 h_67 H locs p_69 hW => ?_)
              obtain ⟨⟨w_71, w_72, w_73, fw_71, fw_72, fw_73, hr_70⟩, hT, hs⟩ := p_69
              replace hT : hx_T T_tb L_66 h_67 := hT
              replace hs : hx_S T_tb [(10, 14), (10, 18), (55, 0)] L_18 h_19 L_66 h_67 := hs
              replace ffw6_x_16 := (hs.o (gx.S hM) trivial rfl).1.trans ffw6_x_16
              replace ffw6_x_9 := (hs.o (gx.S hM) trivial rfl).1.trans ffw6_x_9
              replace fw_23 := (hs.o (gx.S hM) trivial rfl).1.trans fw_23
              replace fw_24 := (hs.o (gx.S hM) trivial rfl).1.trans fw_24
              replace nia6_qo : h_67.2.1 qo = ia6_qo := (funext fun j => (hs.a (gqo.S hM) rfl j).1).trans nia6_qo
              replace hM := hM.tr (hs.mono (by decide))
              have fw_71 : h_67.2.1 x 14 = w_71 := fw_71
              have bw_71 := hT.gi (gx.S hM) tt_10 (k := 14) rfl
              rw [fw_71] at bw_71
              have bw_71 : 0 ≤ w_71.toInt ∧ w_71.toInt ≤ 128 := bw_71
              have fw_72 : h_67.2.1 x 18 = w_72 := fw_72
              have bw_72 := hT.gi (gx.S hM) tt_10 (k := 18) rfl
              rw [fw_72] at bw_72
              have bw_72 : 0 ≤ w_72.toInt ∧ w_72.toInt ≤ 128 := bw_72
              have fw_73 : h_67.2.1 qs = w_73 := fw_73
              obtain ⟨oc_74, oc_74O, oc_74E⟩ := hr_70.2.2
              refine lv_aload_n hx hb dX10_either_102 rfl (lv_at hl 3 rfl) ?_
              refine hk_geti hx hb hts hC_10 hown hW (gx.S hM) tt_10 18 (by decide) rfl kw_1161 ⟨rfl, rfl, rfl⟩ fw_72 dX10_either_103 ?_
              refine hb_if_ne (zx := w_72.toInt) (tgt := 119) hx hb rfl dX10_either_106 (by decide) (fun c_75 => ?_) (fun c_75 => ?_)
              · skip
                refine lv_aload_n hx hb dX10_either_119 rfl (lv_at hl 3 rfl) ?_
                refine lv_dup hx hb dX10_either_120 rfl ?_
                refine hk_geti hx hb hts hC_10 hown hW (gx.S hM) tt_10 18 (by decide) rfl kw_1161 ⟨rfl, rfl, rfl⟩ fw_72 dX10_either_121 ?_
                refine lv_iconst (v := 1) hx hb dX10_either_124 (by decide) ?_
                refine lv_isub hx hb dX10_either_125 ?_
                have rg_76 := i32_r w_72
                refine lv_topi (fun x_77 ex_77 => ?_)
                have zx_77 : x_77.toInt = w_72.toInt - 1 := by rw [ex_77]; exact i32_sub rfl (by decide) (by omega) (by omega)
                refine hx_puti hx hb hts hC_10 hown hW hT (hx_S.rf (M := [(10, 18)])) (gx.S hM) tt_10 18 (by decide) rfl kw_1161 ⟨rfl, rfl, rfl⟩ rfl (x := x_77) ⟨by omega, by omega⟩ rfl rfl rfl (List.mem_singleton.mpr rfl) dX10_either_126 (fun H locs h_78 eh_78 hW hT hs => ?_)
                replace ffw6_x_16 := (hs.o (gx.S hM) trivial rfl).1.trans ffw6_x_16
                replace ffw6_x_9 := (hs.o (gx.S hM) trivial rfl).1.trans ffw6_x_9
                replace fw_23 := (hs.o (gx.S hM) trivial rfl).1.trans fw_23
                replace fw_24 := (hs.o (gx.S hM) trivial rfl).1.trans fw_24
                replace fw_71 := (hs.o (gx.S hM) trivial rfl).1.trans fw_71
                replace nia6_qo : h_78.2.1 qo = ia6_qo := (funext fun j => (hs.a (gqo.S hM) rfl j).1).trans nia6_qo
                replace fw_73 : h_78.2.1 qs = w_73 := (funext fun j => (hs.a (gqs.S hM) rfl j).1).trans fw_73
                replace hM := hM.tr (hs.mono (by decide))
                have f_79 : h_78.2.1 x 18 = x_77 := by rw [eh_78]; exact hx_pi_at _ _ _ _
                refine lv_aload_n hx hb dX10_either_129 rfl (lv_at hl 3 rfl) ?_
                refine lv_dup hx hb dX10_either_130 rfl ?_
                refine hk_geti hx hb hts hC_10 hown hW (gx.S hM) tt_10 8 (by decide) rfl kw_1151 ⟨rfl, rfl, rfl⟩ fw_23 dX10_either_131 ?_
                refine lv_iconst (v := 1) hx hb dX10_either_134 (by decide) ?_
                refine lv_iadd hx hb dX10_either_135 ?_
                have rg_80 := i32_r w_23
                refine lv_topi (fun x_81 ex_81 => ?_)
                have zx_81 : x_81.toInt = w_23.toInt + 1 := by rw [ex_81]; exact i32_add rfl (by decide) (by omega) (by omega)
                refine hx_puti hx hb hts hC_10 hown hW hT (hx_S.rf (M := [(10, 8)])) (gx.S hM) tt_10 8 (by decide) rfl kw_1151 ⟨rfl, rfl, rfl⟩ rfl (x := x_81) ⟨by omega, by omega⟩ rfl rfl rfl (List.mem_singleton.mpr rfl) dX10_either_136 (fun H locs h_82 eh_82 hW hT hs => ?_)
                replace ffw6_x_16 := (hs.o (gx.S hM) trivial rfl).1.trans ffw6_x_16
                replace ffw6_x_9 := (hs.o (gx.S hM) trivial rfl).1.trans ffw6_x_9
                replace fw_24 := (hs.o (gx.S hM) trivial rfl).1.trans fw_24
                replace fw_71 := (hs.o (gx.S hM) trivial rfl).1.trans fw_71
                replace f_79 := (hs.o (gx.S hM) trivial rfl).1.trans f_79
                replace nia6_qo : h_82.2.1 qo = ia6_qo := (funext fun j => (hs.a (gqo.S hM) rfl j).1).trans nia6_qo
                replace fw_73 : h_82.2.1 qs = w_73 := (funext fun j => (hs.a (gqs.S hM) rfl j).1).trans fw_73
                replace hM := hM.tr (hs.mono (by decide))
                have f_83 : h_82.2.1 x 8 = x_81 := by rw [eh_82]; exact hx_pi_at _ _ _ _
                have hcd : hv_cd 0 o6 (hv_ls ia6_qo fw6_x_18.toInt.toNat) = (oc_74, (ia6_qo (w_72.toInt.toNat - 1)).toInt :: hv_ls ia6_qo x_77.toInt.toNat) := by have h9 := oc_74E; have z0 : (0 : Int32).toInt = 0 := (by decide); rw [z0] at h9; rw [h9, show w_72.toInt.toNat = x_77.toInt.toNat + 1 by omega, show x_77.toInt.toNat + 1 - 1 = x_77.toInt.toNat by omega]; rfl
                refine lv_aload_n hx hb dX10_either_139 rfl (lv_at hl 3 rfl) ?_
                refine hx_gov (hx_runV (As := []) (rest := []) ⟨hx, hb, hml, hown, hts⟩ hW (gx.S hM) tt_10 (T := TX10) (N := 98) rfl (t_X10_closesNots_v l dC dI dA L_66 h_82 H.size x hT (gx.S hM) qs (gqs.S hM) ((hM.o gx trivial rfl).2.trans f_x_15) qo (gqo.S hM) ((hM.o gx trivial rfl).2.trans f_x_17) w_73 fw_73 ia6_qo nia6_qo fw6_x_16 ffw6_x_16 x_81 f_83 w_71 fw_71 x_77 f_79 (hx_QQ_shut hr_70.1 (by omega) (hx_QQ_t100 hr_70.1 (by omega) hr_70.2.1 (by decide)) (by omega) (by omega)) oc_74 oc_74O) (cwV 0 hts (hx_gV kw_1511 kw_1508 kw_1510 kw_63 kw_103) rfl rfl rfl (by decide +kernel) ⟨Nat.le_of_ble_eq_true rfl, Nat.le_of_ble_eq_true rfl⟩) rfl hl.1 rfl (Nat.le_of_ble_eq_true rfl) dX10_either_140 ⟨Nat.le_of_ble_eq_true rfl, Nat.le_of_ble_eq_true rfl⟩) hW (fun L_84 h_85 H locs p_87 hW => ?_)
                obtain ⟨⟨w_89, w_90, w_91, fw_89, fw_90, fw_91, hr_88⟩, hT, hs⟩ := p_87
                replace hT : hx_T T_tb L_84 h_85 := hT
                replace hs : hx_S T_tb [(10, 14), (10, 18), (55, 0)] L_66 h_82 L_84 h_85 := hs
                replace ffw6_x_16 := (hs.o (gx.S hM) trivial rfl).1.trans ffw6_x_16
                replace ffw6_x_9 := (hs.o (gx.S hM) trivial rfl).1.trans ffw6_x_9
                replace fw_24 := (hs.o (gx.S hM) trivial rfl).1.trans fw_24
                replace f_83 := (hs.o (gx.S hM) trivial rfl).1.trans f_83
                replace nia6_qo : h_85.2.1 qo = ia6_qo := (funext fun j => (hs.a (gqo.S hM) rfl j).1).trans nia6_qo
                replace hM := hM.tr (hs.mono (by decide))
                have fw_89 : h_85.2.1 x 14 = w_89 := fw_89
                have bw_89 := hT.gi (gx.S hM) tt_10 (k := 14) rfl
                rw [fw_89] at bw_89
                have bw_89 : 0 ≤ w_89.toInt ∧ w_89.toInt ≤ 128 := bw_89
                have fw_90 : h_85.2.1 x 18 = w_90 := fw_90
                have bw_90 := hT.gi (gx.S hM) tt_10 (k := 18) rfl
                rw [fw_90] at bw_90
                have bw_90 : 0 ≤ w_90.toInt ∧ w_90.toInt ≤ 128 := bw_90
                have fw_91 : h_85.2.1 qs = w_91 := fw_91
                obtain ⟨oc_92, oc_92O, oc_92E⟩ := hr_88.2
                refine lv_goto (tgt := 176) hx hb dX10_either_143 (by decide) ?_
                refine lv_goto (tgt := 6) hx hb dX10_either_176 (by decide) ?_
                have zk_0 : (0 : Int32).toInt = 0 := by decide
                exact ih6 (0 : Int32) fw6_x_16 w_89 w_90 x_81 fw6_x_9 w_91 ia6_qo _ _ L_84 h_85 (by decide) (by decide) (by omega) (by omega) (by omega) (by omega) (by omega) (by omega) (by omega) (by omega) (i32_r _).1 (i32_r _).2 (by omega) (hx_QQ_bE hr_88.1 (by decide)) ⟨oc_92, oc_92O, hmE.trans ((hv_RN_c1 (by rw [← eks]; exact hmw) (by rw [← eks]; exact hm41) hcd oc_92E).trans (by rw [← eks, show w_23.toInt.toNat + 1 = x_81.toInt.toNat by omega, show decide ((0 : Int32).toInt = 1) = false from (by decide)] <;> rfl))⟩ (by omega) (by omega) ls (by omega) hW hT hM ffw6_x_16 fw_89 fw_90 f_83 ffw6_x_9 fw_91 nia6_qo (lv_sub hl [2, 3] rfl)
              · skip
                refine lv_aload_n hx hb dX10_either_109 rfl (lv_at hl 3 rfl) ?_
                refine lv_iconst (v := 0) hx hb dX10_either_110 (by decide) ?_
                refine lv_aload_n hx hb dX10_either_111 rfl (lv_at hl 3 rfl) ?_
                refine hk_geti hx hb hts hC_10 hown hW (gx.S hM) tt_10 8 (by decide) rfl kw_1151 ⟨rfl, rfl, rfl⟩ fw_23 dX10_either_112 ?_
                refine hx_goi (hx_runV (As := [.int (0 : Int32), .int w_23]) (rest := []) ⟨hx, hb, hml, hown, hts⟩ hW (gx.S hM) tt_10 (T := TX10) (N := 98) rfl (t_X10_fails_v l dC dI dA L_66 h_67 H.size x (0 : Int32) w_23 hT (gx.S hM) fw6_x_9 ffw6_x_9 (by omega) (by decide) ⟨by omega, by omega⟩) (cwV 2 hts (hx_gV kw_1480 kw_1477 kw_1479 kw_56 kw_103) rfl rfl rfl (by decide +kernel) ⟨Nat.le_of_ble_eq_true rfl, Nat.le_of_ble_eq_true rfl⟩) rfl hl.1 rfl (Nat.le_of_ble_eq_true rfl) dX10_either_115 ⟨Nat.le_of_ble_eq_true rfl, Nat.le_of_ble_eq_true rfl⟩) hW (fun r_95 L_93 h_94 H locs p_96 hW => ?_)
                obtain ⟨⟨w_98, fw_98, hr_97⟩, hT, hs⟩ := p_96
                replace hT : hx_T T_tb L_93 h_94 := hT
                replace hs : hx_S T_tb [(10, 9)] L_66 h_67 L_93 h_94 := hs
                replace ffw6_x_16 := (hs.o (gx.S hM) trivial rfl).1.trans ffw6_x_16
                replace fw_23 := (hs.o (gx.S hM) trivial rfl).1.trans fw_23
                replace fw_24 := (hs.o (gx.S hM) trivial rfl).1.trans fw_24
                replace fw_71 := (hs.o (gx.S hM) trivial rfl).1.trans fw_71
                replace fw_72 := (hs.o (gx.S hM) trivial rfl).1.trans fw_72
                replace nia6_qo : h_94.2.1 qo = ia6_qo := (funext fun j => (hs.a (gqo.S hM) rfl j).1).trans nia6_qo
                replace fw_73 : h_94.2.1 qs = w_73 := (funext fun j => (hs.a (gqs.S hM) rfl j).1).trans fw_73
                replace hM := hM.tr (hs.mono (by decide))
                have fw_98 : h_94.2.1 x 9 = w_98 := fw_98
                have bw_98 := hT.gi (gx.S hM) tt_10 (k := 9) rfl
                rw [fw_98] at bw_98
                have bw_98 : -2147483648 ≤ w_98.toInt ∧ w_98.toInt ≤ 2147483647 := bw_98
                exact hx_retz hx hb hr (hx_nar01 (by omega)) hlk hW ⟨⟨w_23, w_71, fw6_x_16, w_98, w_73, fw_23, fw_71, ffw6_x_16, fw_98, fw_73, ⟨by omega, by omega, (fun z9 => by exfalso; omega), (hv_K_f (x := 1 + 8 * w_23.toInt.toNat) (by omega) (by omega) (by omega) (hmE.trans ((hv_RN_c0 (by rw [← eks]; exact hmw) (by rw [← eks]; exact hm41) (by have h9 := oc_74E; have z0 : (0 : Int32).toInt = 0 := (by decide); rw [z0] at h9; rw [hv_ls_0 (op := w_72.toInt) (by omega)] at h9; exact h9)).trans (by rw [← eks])))), (fun z9 => by exfalso; omega)⟩⟩, hT, hM⟩ dX10_either_118
          · skip
            have hmw : hv_wd tf tp0.toInt.toNat w_23.toInt.toNat = r_20.toInt := hr_22W.symm
            have hml9 : w_23.toInt.toNat + 2 ≤ hv_we tf tp0.toInt.toNat w_23.toInt.toNat ∧ hv_we tf tp0.toInt.toNat w_23.toInt.toNat ≤ tp0.toInt.toNat := by rcases (show r_20.toInt = 1 ∨ r_20.toInt = 0 by omega) with z | z; (have h9 := hv_wd_1 (hmw.trans z); omega); (have h9 := hv_wd_0 (hmw.trans z); omega)
            refine lv_aload_n hx hb dX10_either_48 rfl (lv_at hl 3 rfl) ?_
            refine lv_iload_n hx hb dX10_either_49 rfl (lv_at hl 0 rfl) ?_
            refine hx_gov (hx_runV (As := [.int r_20]) (rest := []) ⟨hx, hb, hml, hown, hts⟩ hW (gx.S hM) tt_10 (T := TX10) (N := 98) rfl (t_X10_closesDown_v l dC dI dA L_18 h_19 H.size x r_20 hT (gx.S hM) qs (gqs.S hM) ((hM.o gx trivial rfl).2.trans f_x_15) qo (gqo.S hM) ((hM.o gx trivial rfl).2.trans f_x_17) ia6_qs nia6_qs ia6_qo nia6_qo fw6_x_16 ffw6_x_16 w_23 fw_23 fw6_x_14 ffw6_x_14 fw6_x_18 ffw6_x_18 (hx_QQ_next hq1 (by omega)) o6 hO6) (cwV 1 hts (hx_gV kw_1515 kw_1512 kw_1514 kw_64 kw_103) rfl rfl rfl (by decide +kernel) ⟨Nat.le_of_ble_eq_true rfl, Nat.le_of_ble_eq_true rfl⟩) rfl hl.1 rfl (Nat.le_of_ble_eq_true rfl) dX10_either_50 ⟨Nat.le_of_ble_eq_true rfl, Nat.le_of_ble_eq_true rfl⟩) hW (fun L_99 h_100 H locs p_102 hW => ?_)
            obtain ⟨⟨w_104, w_105, w_106, fw_104, fw_105, fw_106, hr_103⟩, hT, hs⟩ := p_102
            replace hT : hx_T T_tb L_99 h_100 := hT
            replace hs : hx_S T_tb [(10, 14), (10, 18), (55, 0)] L_18 h_19 L_99 h_100 := hs
            replace ffw6_x_16 := (hs.o (gx.S hM) trivial rfl).1.trans ffw6_x_16
            replace ffw6_x_9 := (hs.o (gx.S hM) trivial rfl).1.trans ffw6_x_9
            replace fw_23 := (hs.o (gx.S hM) trivial rfl).1.trans fw_23
            replace fw_24 := (hs.o (gx.S hM) trivial rfl).1.trans fw_24
            replace nia6_qo : h_100.2.1 qo = ia6_qo := (funext fun j => (hs.a (gqo.S hM) rfl j).1).trans nia6_qo
            replace hM := hM.tr (hs.mono (by decide))
            have fw_104 : h_100.2.1 x 14 = w_104 := fw_104
            have bw_104 := hT.gi (gx.S hM) tt_10 (k := 14) rfl
            rw [fw_104] at bw_104
            have bw_104 : 0 ≤ w_104.toInt ∧ w_104.toInt ≤ 128 := bw_104
            have fw_105 : h_100.2.1 x 18 = w_105 := fw_105
            have bw_105 := hT.gi (gx.S hM) tt_10 (k := 18) rfl
            rw [fw_105] at bw_105
            have bw_105 : 0 ≤ w_105.toInt ∧ w_105.toInt ≤ 128 := bw_105
            have fw_106 : h_100.2.1 qs = w_106 := fw_106
            obtain ⟨oc_107, oc_107O, oc_107E⟩ := hr_103.2.2
            have hqb := hx_QQ_b hr_103.1
            refine lv_aload_n hx hb dX10_either_53 rfl (lv_at hl 3 rfl) ?_
            refine hk_getr hx hb hts hC_10 hown hW (gx.S hM) tt_10 17 (by decide) rfl kw_1160 ⟨rfl, rfl, rfl⟩ ((hM.o gx trivial rfl).2.trans f_x_17) dX10_either_54 ?_
            refine lv_aload_n hx hb dX10_either_57 rfl (lv_at hl 3 rfl) ?_
            refine hk_geti hx hb hts hC_10 hown hW (gx.S hM) tt_10 18 (by decide) rfl kw_1161 ⟨rfl, rfl, rfl⟩ fw_105 dX10_either_58 ?_
            refine lv_iload_n hx hb dX10_either_61 rfl (lv_at hl 0 rfl) ?_
            have nia6_qoO := nia6_qo
            refine hx_iast hx hb hW hT (hx_S.rf (M := [(56, 0)])) (gqo.S hM) tt_56 rfl ⟨by omega, by omega⟩ rfl ⟨by omega, by omega⟩ (List.mem_singleton.mpr rfl) dX10_either_62 (fun H locs h_108 eh_108 hW hT hs => ?_)
            replace ffw6_x_16 := (hs.o (gx.S hM) trivial rfl).1.trans ffw6_x_16
            replace ffw6_x_9 := (hs.o (gx.S hM) trivial rfl).1.trans ffw6_x_9
            replace fw_23 := (hs.o (gx.S hM) trivial rfl).1.trans fw_23
            replace fw_24 := (hs.o (gx.S hM) trivial rfl).1.trans fw_24
            replace fw_104 := (hs.o (gx.S hM) trivial rfl).1.trans fw_104
            replace fw_105 := (hs.o (gx.S hM) trivial rfl).1.trans fw_105
            replace fw_106 : h_108.2.1 qs = w_106 := (funext fun j => (hs.a (gqs.S hM) rfl j).1).trans fw_106
            replace hM := hM.tr (hs.mono (by decide))
            obtain ⟨fa_109, dfa_109⟩ : ∃ g : Nat → Int32, g = hx_up ia6_qo w_105.toNatClampNeg r_20 := ⟨_, rfl⟩
            have nfa_109 : h_108.2.1 qo = fa_109 := by rw [eh_108, dfa_109, ← nia6_qoO]; exact hx_pi_fun _ _ _ _
            refine lv_aload_n hx hb dX10_either_63 rfl (lv_at hl 3 rfl) ?_
            refine lv_dup hx hb dX10_either_64 rfl ?_
            refine hk_geti hx hb hts hC_10 hown hW (gx.S hM) tt_10 18 (by decide) rfl kw_1161 ⟨rfl, rfl, rfl⟩ fw_105 dX10_either_65 ?_
            refine lv_iconst (v := 1) hx hb dX10_either_68 (by decide) ?_
            refine lv_iadd hx hb dX10_either_69 ?_
            have rg_110 := i32_r w_105
            refine lv_topi (fun x_111 ex_111 => ?_)
            have zx_111 : x_111.toInt = w_105.toInt + 1 := by rw [ex_111]; exact i32_add rfl (by decide) (by omega) (by omega)
            refine hx_puti hx hb hts hC_10 hown hW hT (hx_S.rf (M := [(10, 18)])) (gx.S hM) tt_10 18 (by decide) rfl kw_1161 ⟨rfl, rfl, rfl⟩ rfl (x := x_111) ⟨by omega, by omega⟩ rfl rfl rfl (List.mem_singleton.mpr rfl) dX10_either_70 (fun H locs h_112 eh_112 hW hT hs => ?_)
            replace ffw6_x_16 := (hs.o (gx.S hM) trivial rfl).1.trans ffw6_x_16
            replace ffw6_x_9 := (hs.o (gx.S hM) trivial rfl).1.trans ffw6_x_9
            replace fw_23 := (hs.o (gx.S hM) trivial rfl).1.trans fw_23
            replace fw_24 := (hs.o (gx.S hM) trivial rfl).1.trans fw_24
            replace fw_104 := (hs.o (gx.S hM) trivial rfl).1.trans fw_104
            replace fw_106 : h_112.2.1 qs = w_106 := (funext fun j => (hs.a (gqs.S hM) rfl j).1).trans fw_106
            replace nfa_109 : h_112.2.1 qo = fa_109 := (funext fun j => (hs.a (gqo.S hM) rfl j).1).trans nfa_109
            replace hM := hM.tr (hs.mono (by decide))
            have f_113 : h_112.2.1 x 18 = x_111 := by rw [eh_112]; exact hx_pi_at _ _ _ _
            refine lv_aload_n hx hb dX10_either_73 rfl (lv_at hl 3 rfl) ?_
            refine lv_dup hx hb dX10_either_74 rfl ?_
            refine hk_geti hx hb hts hC_10 hown hW (gx.S hM) tt_10 8 (by decide) rfl kw_1151 ⟨rfl, rfl, rfl⟩ fw_23 dX10_either_75 ?_
            refine lv_aload_n hx hb dX10_either_78 rfl (lv_at hl 3 rfl) ?_
            refine hk_geti hx hb hts hC_10 hown hW (gx.S hM) tt_10 11 (by decide) rfl kw_1154 ⟨rfl, rfl, rfl⟩ fw_24 dX10_either_79 ?_
            refine lv_iadd hx hb dX10_either_82 ?_
            have rg_114 := i32_r w_23
            have rg_115 := i32_r w_24
            refine lv_topi (fun x_116 ex_116 => ?_)
            have zx_116 : x_116.toInt = w_23.toInt + w_24.toInt := by rw [ex_116]; exact i32_add rfl rfl (by omega) (by omega)
            refine hx_puti hx hb hts hC_10 hown hW hT (hx_S.rf (M := [(10, 8)])) (gx.S hM) tt_10 8 (by decide) rfl kw_1151 ⟨rfl, rfl, rfl⟩ rfl (x := x_116) ⟨by omega, by omega⟩ rfl rfl rfl (List.mem_singleton.mpr rfl) dX10_either_83 (fun H locs h_117 eh_117 hW hT hs => ?_)
            replace ffw6_x_16 := (hs.o (gx.S hM) trivial rfl).1.trans ffw6_x_16
            replace ffw6_x_9 := (hs.o (gx.S hM) trivial rfl).1.trans ffw6_x_9
            replace fw_24 := (hs.o (gx.S hM) trivial rfl).1.trans fw_24
            replace fw_104 := (hs.o (gx.S hM) trivial rfl).1.trans fw_104
            replace f_113 := (hs.o (gx.S hM) trivial rfl).1.trans f_113
            replace fw_106 : h_117.2.1 qs = w_106 := (funext fun j => (hs.a (gqs.S hM) rfl j).1).trans fw_106
            replace nfa_109 : h_117.2.1 qo = fa_109 := (funext fun j => (hs.a (gqo.S hM) rfl j).1).trans nfa_109
            replace hM := hM.tr (hs.mono (by decide))
            have f_118 : h_117.2.1 x 8 = x_116 := by rw [eh_117]; exact hx_pi_at _ _ _ _
            refine lv_iconst (v := 1) hx hb dX10_either_86 (by decide) ?_
            refine lv_istore_n (lv' := [(1, .int (1 : Int32)), (3, .int r_20), (2, .int r_13), (0, .ref x)]) hx hb dX10_either_87 rfl hl (by decide) rfl (fun ls hl => ?_)
            refine lv_goto (tgt := 176) hx hb dX10_either_88 (by decide) ?_
            refine lv_goto (tgt := 6) hx hb dX10_either_176 (by decide) ?_
            have zk_1 : (1 : Int32).toInt = 1 := by decide
            exact ih6 (1 : Int32) fw6_x_16 w_104 x_111 x_116 fw6_x_9 w_106 fa_109 _ _ L_99 h_117 (by decide) (by decide) (by omega) (by omega) (by omega) (by omega) (by omega) (by omega) (by omega) (by omega) (i32_r _).1 (i32_r _).2 (by omega) (hx_QQ_bE (hx_QQ_join hr_103.1 (by omega) (by omega) (by omega) (hx_cl (by omega)) (by omega) dfa_109) (by decide)) ⟨oc_107, oc_107O, hmE.trans ((hv_RN_a (by rw [← eks]; exact hmw) (by omega) oc_107E).trans (by rw [← eks, show hv_we tf tp0.toInt.toNat w_23.toInt.toNat = x_116.toInt.toNat by omega, show decide ((1 : Int32).toInt = 1) = true from (by decide), hv_ls_p (n := w_105.toInt.toNat) (z := r_20.toInt) rfl (by omega) rfl dfa_109] <;> rfl))⟩ (by omega) (by omega) ls (by omega) hW hT hM ffw6_x_16 fw_104 f_113 f_118 ffw6_x_9 fw_106 nfa_109 (lv_sub hl [0, 3] rfl)
      · skip
        have hE6t := hE6; rw [show decide (iv6_1.toInt = 1) = true from decide_eq_true (by omega)] at hE6t
        refine lv_aload_n hx hb dX10_either_10 rfl (lv_at hl 1 rfl) ?_
        refine hx_goi (hx_runV (As := []) (rest := []) ⟨hx, hb, hml, hown, hts⟩ hW (gx.S hM) tt_10 (T := TX10) (N := 98) rfl (t_X10_begins_v l dC dI dA hL1 hl1 H.size x hT (gx.S hM) qs (gqs.S hM) ((hM.o gx trivial rfl).2.trans f_x_15) qo (gqo.S hM) ((hM.o gx trivial rfl).2.trans f_x_17) qt (gqt.S hM) ((hM.o gx trivial rfl).2.trans f_x_6) qw (gqw.S hM) ((hM.o gx trivial rfl).2.trans f_x_19) ia6_qs nia6_qs ia6_qo nia6_qo tf (hx_afS hM gqt rfl af_qt) wf (hx_afS hM gqw rfl af_qw) fw6_x_16 ffw6_x_16 fw6_x_8 ffw6_x_8 fw6_x_14 ffw6_x_14 fw6_x_18 ffw6_x_18 tp0 ((hM.o gx trivial rfl).1.trans f_x_7) fw6_x_9 ffw6_x_9 (hx_QQ_bE vi6_1 (by omega)) hwd o6 hO6 (by omega) (by omega)) (cwV 0 hts (hx_gV kw_1492 kw_1489 kw_1491 kw_59 kw_103) rfl rfl rfl (by decide +kernel) ⟨Nat.le_of_ble_eq_true rfl, Nat.le_of_ble_eq_true rfl⟩) rfl hl.1 rfl (Nat.le_of_ble_eq_true rfl) dX10_either_11 ⟨Nat.le_of_ble_eq_true rfl, Nat.le_of_ble_eq_true rfl⟩) hW (fun r_121 L_119 h_120 H locs p_122 hW => ?_)
        obtain ⟨⟨w_124, w_125, w_126, w_127, w_128, w_129, w_130, fw_124, fw_125, fw_126, fw_127, fw_128, fw_129, fw_130, hr_123⟩, hT, hs⟩ := p_122
        replace hT : hx_T T_tb L_119 h_120 := hT
        replace hs : hx_S T_tb [(10, 8), (10, 9), (10, 10), (10, 11), (10, 14), (10, 16), (10, 18), (55, 0), (56, 0)] hL1 hl1 L_119 h_120 := hs
        replace hM := hM.tr (hs.mono (by decide))
        have fw_124 : h_120.2.1 x 16 = w_124 := fw_124
        have bw_124 := hT.gi (gx.S hM) tt_10 (k := 16) rfl
        rw [fw_124] at bw_124
        have bw_124 : 0 ≤ w_124.toInt ∧ w_124.toInt ≤ 20 := bw_124
        have fw_125 : h_120.2.1 x 8 = w_125 := fw_125
        have bw_125 := hT.gi (gx.S hM) tt_10 (k := 8) rfl
        rw [fw_125] at bw_125
        have bw_125 : 0 ≤ w_125.toInt ∧ w_125.toInt ≤ 402 := bw_125
        have fw_126 : h_120.2.1 x 14 = w_126 := fw_126
        have bw_126 := hT.gi (gx.S hM) tt_10 (k := 14) rfl
        rw [fw_126] at bw_126
        have bw_126 : 0 ≤ w_126.toInt ∧ w_126.toInt ≤ 128 := bw_126
        have fw_127 : h_120.2.1 x 18 = w_127 := fw_127
        have bw_127 := hT.gi (gx.S hM) tt_10 (k := 18) rfl
        rw [fw_127] at bw_127
        have bw_127 : 0 ≤ w_127.toInt ∧ w_127.toInt ≤ 128 := bw_127
        have fw_128 : h_120.2.1 x 9 = w_128 := fw_128
        have bw_128 := hT.gi (gx.S hM) tt_10 (k := 9) rfl
        rw [fw_128] at bw_128
        have bw_128 : -2147483648 ≤ w_128.toInt ∧ w_128.toInt ≤ 2147483647 := bw_128
        have fw_129 : h_120.2.1 qs = w_129 := fw_129
        have fw_130 : h_120.2.1 qo = w_130 := fw_130
        refine hb_if_ne (zx := r_121.toInt) (tgt := 19) hx hb rfl dX10_either_14 (by decide) (fun c_131 => ?_) (fun c_131 => ?_)
        · skip
          refine lv_iload_n hx hb dX10_either_19 rfl (lv_at hl 0 rfl) ?_
          refine hb_if_eq (zx := iv6_1.toInt) (tgt := 27) hx hb rfl dX10_either_20 (by decide) (fun c_132 => by exfalso; omega) (fun c_132 => ?_)
          obtain ⟨hbF, hbp, hbt, ob, hbO, hbE⟩ := hv_BG_1 hr_123.2.2.2.1 (by omega)
          have hbn := hr_123.2.2.2.2 (by omega)
          refine lv_aload_n hx hb dX10_either_23 rfl (lv_at hl 1 rfl) ?_
          refine hx_gov (hx_runV (As := []) (rest := []) ⟨hx, hb, hml, hown, hts⟩ hW (gx.S hM) tt_10 (T := TX10) (N := 98) rfl (t_X10_closesNots_v l dC dI dA L_119 h_120 H.size x hT (gx.S hM) qs (gqs.S hM) ((hM.o gx trivial rfl).2.trans f_x_15) qo (gqo.S hM) ((hM.o gx trivial rfl).2.trans f_x_17) w_129 fw_129 w_130 fw_130 w_124 fw_124 w_125 fw_125 w_126 fw_126 w_127 fw_127 (hr_123.2.2.1 (by omega)) ob hbO) (cwV 0 hts (hx_gV kw_1511 kw_1508 kw_1510 kw_63 kw_103) rfl rfl rfl (by decide +kernel) ⟨Nat.le_of_ble_eq_true rfl, Nat.le_of_ble_eq_true rfl⟩) rfl hl.1 rfl (Nat.le_of_ble_eq_true rfl) dX10_either_24 ⟨Nat.le_of_ble_eq_true rfl, Nat.le_of_ble_eq_true rfl⟩) hW (fun L_133 h_134 H locs p_136 hW => ?_)
          obtain ⟨⟨w_138, w_139, w_140, fw_138, fw_139, fw_140, hr_137⟩, hT, hs⟩ := p_136
          replace hT : hx_T T_tb L_133 h_134 := hT
          replace hs : hx_S T_tb [(10, 14), (10, 18), (55, 0)] L_119 h_120 L_133 h_134 := hs
          replace fw_124 := (hs.o (gx.S hM) trivial rfl).1.trans fw_124
          replace fw_125 := (hs.o (gx.S hM) trivial rfl).1.trans fw_125
          replace fw_128 := (hs.o (gx.S hM) trivial rfl).1.trans fw_128
          replace fw_130 : h_134.2.1 qo = w_130 := (funext fun j => (hs.a (gqo.S hM) rfl j).1).trans fw_130
          replace hM := hM.tr (hs.mono (by decide))
          have fw_138 : h_134.2.1 x 14 = w_138 := fw_138
          have bw_138 := hT.gi (gx.S hM) tt_10 (k := 14) rfl
          rw [fw_138] at bw_138
          have bw_138 : 0 ≤ w_138.toInt ∧ w_138.toInt ≤ 128 := bw_138
          have fw_139 : h_134.2.1 x 18 = w_139 := fw_139
          have bw_139 := hT.gi (gx.S hM) tt_10 (k := 18) rfl
          rw [fw_139] at bw_139
          have bw_139 : 0 ≤ w_139.toInt ∧ w_139.toInt ≤ 128 := bw_139
          have fw_140 : h_134.2.1 qs = w_140 := fw_140
          obtain ⟨oc_141, oc_141O, oc_141E⟩ := hr_137.2
          have hq1 : hx_QQ 1 w_124.toInt w_125.toInt w_138.toInt w_139.toInt w_140 w_130 := hr_137.1
          have hmE : hv_RN tf tp0.toInt.toNat true nx0.toInt.toNat 0 [] ([]) = hv_RN tf tp0.toInt.toNat false w_125.toInt.toNat w_124.toInt.toNat oc_141 (hv_ls w_130 w_139.toInt.toNat) := by rw [hE6t, hbE, oc_141E]
          refine lv_iconst (v := 0) hx hb dX10_either_27 (by decide) ?_
          refine lv_istore_n (lv' := [(1, .int (0 : Int32)), (0, .ref x)]) hx hb dX10_either_28 rfl hl (by decide) rfl (fun ls hl => ?_)
          refine lv_aload_n hx hb dX10_either_29 rfl (lv_at hl 1 rfl) ?_
          refine hx_goi (hx_runV (As := []) (rest := []) ⟨hx, hb, hml, hown, hts⟩ hW (gx.S hM) tt_10 (T := TX10) (N := 98) rfl (t_X10_see_v l dC dI dA L_133 h_134 H.size x hT (gx.S hM) qt (gqt.S hM) ((hM.o gx trivial rfl).2.trans f_x_6) tf (hx_afS hM gqt rfl af_qt) w_125 fw_125 tp0 ((hM.o gx trivial rfl).1.trans f_x_7) (by omega)) (cwV 0 hts (hx_gV kw_1468 kw_1465 kw_1467 kw_53 kw_103) rfl rfl rfl (by decide +kernel) ⟨Nat.le_of_ble_eq_true rfl, Nat.le_of_ble_eq_true rfl⟩) rfl hl.1 rfl (Nat.le_of_ble_eq_true rfl) dX10_either_30 ⟨Nat.le_of_ble_eq_true rfl, Nat.le_of_ble_eq_true rfl⟩) hW (fun r_144 L_142 h_143 H locs p_145 hW => ?_)
          obtain ⟨⟨w_147, fw_147, hr_146⟩, hT, hs⟩ := p_145
          replace hT : hx_T T_tb L_142 h_143 := hT
          replace hs : hx_S T_tb [(10, 8)] L_133 h_134 L_142 h_143 := hs
          replace fw_124 := (hs.o (gx.S hM) trivial rfl).1.trans fw_124
          replace fw_128 := (hs.o (gx.S hM) trivial rfl).1.trans fw_128
          replace fw_138 := (hs.o (gx.S hM) trivial rfl).1.trans fw_138
          replace fw_139 := (hs.o (gx.S hM) trivial rfl).1.trans fw_139
          replace fw_130 : h_143.2.1 qo = w_130 := (funext fun j => (hs.a (gqo.S hM) rfl j).1).trans fw_130
          replace fw_140 : h_143.2.1 qs = w_140 := (funext fun j => (hs.a (gqs.S hM) rfl j).1).trans fw_140
          replace hM := hM.tr (hs.mono (by decide))
          have fw_147 : h_143.2.1 x 8 = w_147 := fw_147
          have bw_147 := hT.gi (gx.S hM) tt_10 (k := 8) rfl
          rw [fw_147] at bw_147
          have bw_147 : 0 ≤ w_147.toInt ∧ w_147.toInt ≤ 402 := bw_147
          have ek_148 : w_147.toInt.toNat = hv_sk tf tp0.toInt.toNat w_125.toInt.toNat := by omega
          have hr_146S := hr_146.2.2.2.1
          refine lv_istore_n (lv' := [(2, .int r_144), (1, .int (0 : Int32)), (0, .ref x)]) hx hb dX10_either_33 rfl hl (by decide) rfl (fun ls hl => ?_)
          refine lv_aload_n hx hb dX10_either_34 rfl (lv_at hl 2 rfl) ?_
          refine hx_goi (hx_runV (As := []) (rest := []) ⟨hx, hb, hml, hown, hts⟩ hW (gx.S hM) tt_10 (T := TX10) (N := 98) rfl (t_X10_wordHere_v l dC dI dA L_142 h_143 H.size x hT (gx.S hM) qt (gqt.S hM) ((hM.o gx trivial rfl).2.trans f_x_6) qw (gqw.S hM) ((hM.o gx trivial rfl).2.trans f_x_19) tf (hx_afS hM gqt rfl af_qt) wf (hx_afS hM gqw rfl af_qw) w_147 fw_147 tp0 ((hM.o gx trivial rfl).1.trans f_x_7) hwd (by omega)) (cwV 0 hts (hx_gV kw_1476 kw_1473 kw_1475 kw_55 kw_103) rfl rfl rfl (by decide +kernel) ⟨Nat.le_of_ble_eq_true rfl, Nat.le_of_ble_eq_true rfl⟩) rfl hl.1 rfl (Nat.le_of_ble_eq_true rfl) dX10_either_35 ⟨Nat.le_of_ble_eq_true rfl, Nat.le_of_ble_eq_true rfl⟩) hW (fun r_151 L_149 h_150 H locs p_152 hW => ?_)
          obtain ⟨⟨w_154, w_155, fw_154, fw_155, hr_153⟩, hT, hs⟩ := p_152
          replace hT : hx_T T_tb L_149 h_150 := hT
          replace hs : hx_S T_tb [(10, 8), (10, 11)] L_142 h_143 L_149 h_150 := hs
          replace fw_124 := (hs.o (gx.S hM) trivial rfl).1.trans fw_124
          replace fw_128 := (hs.o (gx.S hM) trivial rfl).1.trans fw_128
          replace fw_138 := (hs.o (gx.S hM) trivial rfl).1.trans fw_138
          replace fw_139 := (hs.o (gx.S hM) trivial rfl).1.trans fw_139
          replace fw_130 : h_150.2.1 qo = w_130 := (funext fun j => (hs.a (gqo.S hM) rfl j).1).trans fw_130
          replace fw_140 : h_150.2.1 qs = w_140 := (funext fun j => (hs.a (gqs.S hM) rfl j).1).trans fw_140
          replace hM := hM.tr (hs.mono (by decide))
          have fw_154 : h_150.2.1 x 8 = w_154 := fw_154
          have bw_154 := hT.gi (gx.S hM) tt_10 (k := 8) rfl
          rw [fw_154] at bw_154
          have bw_154 : 0 ≤ w_154.toInt ∧ w_154.toInt ≤ 402 := bw_154
          have fw_155 : h_150.2.1 x 11 = w_155 := fw_155
          have bw_155 := hT.gi (gx.S hM) tt_10 (k := 11) rfl
          rw [fw_155] at bw_155
          have bw_155 : 0 ≤ w_155.toInt ∧ w_155.toInt ≤ 400 := bw_155
          have ek_156 : w_154.toInt.toNat = hv_sk tf tp0.toInt.toNat w_147.toInt.toNat := by omega
          have hr_153W : r_151.toInt = hv_wd tf tp0.toInt.toNat w_154.toInt.toNat := by rw [ek_156]; exact hr_153.2.2.2.2.1
          have hr_153E : ((hv_we tf tp0.toInt.toNat w_154.toInt.toNat : Nat) : Int) = w_154.toInt + w_155.toInt := by rw [ek_156]; exact hr_153.2.2.2.1.symm
          refine lv_istore_n (lv' := [(3, .int r_151), (2, .int r_144), (1, .int (0 : Int32)), (0, .ref x)]) hx hb dX10_either_38 rfl hl (by decide) rfl (fun ls hl => ?_)
          have e12 : w_154.toInt.toNat = w_147.toInt.toNat := by rw [ek_156, ek_148]; exact hv_sk_id
          have eks : w_154.toInt.toNat = hv_sk tf tp0.toInt.toNat w_125.toInt.toNat := by rw [e12, ek_148]
          refine lv_iload_n hx hb dX10_either_39 rfl (lv_at hl 0 rfl) ?_
          refine lv_iconst (v := 1) hx hb dX10_either_40 (by decide) ?_
          refine hb_icmp_eq (zx := r_151.toInt) (zy := 1) (tgt := 48) hx hb rfl (by decide) dX10_either_41 (by decide) (fun c_157 => ?_) (fun c_157 => ?_)
          · skip
            have hmw : hv_wd tf tp0.toInt.toNat w_154.toInt.toNat = r_151.toInt := hr_153W.symm
            have hml9 : w_154.toInt.toNat + 2 ≤ hv_we tf tp0.toInt.toNat w_154.toInt.toNat ∧ hv_we tf tp0.toInt.toNat w_154.toInt.toNat ≤ tp0.toInt.toNat := by rcases (show r_151.toInt = 1 ∨ r_151.toInt = 0 by omega) with z | z; (have h9 := hv_wd_1 (hmw.trans z); omega); (have h9 := hv_wd_0 (hmw.trans z); omega)
            refine lv_aload_n hx hb dX10_either_48 rfl (lv_at hl 3 rfl) ?_
            refine lv_iload_n hx hb dX10_either_49 rfl (lv_at hl 0 rfl) ?_
            refine hx_gov (hx_runV (As := [.int r_151]) (rest := []) ⟨hx, hb, hml, hown, hts⟩ hW (gx.S hM) tt_10 (T := TX10) (N := 98) rfl (t_X10_closesDown_v l dC dI dA L_149 h_150 H.size x r_151 hT (gx.S hM) qs (gqs.S hM) ((hM.o gx trivial rfl).2.trans f_x_15) qo (gqo.S hM) ((hM.o gx trivial rfl).2.trans f_x_17) w_140 fw_140 w_130 fw_130 w_124 fw_124 w_154 fw_154 w_138 fw_138 w_139 fw_139 (hx_QQ_next hq1 (by omega)) oc_141 oc_141O) (cwV 1 hts (hx_gV kw_1515 kw_1512 kw_1514 kw_64 kw_103) rfl rfl rfl (by decide +kernel) ⟨Nat.le_of_ble_eq_true rfl, Nat.le_of_ble_eq_true rfl⟩) rfl hl.1 rfl (Nat.le_of_ble_eq_true rfl) dX10_either_50 ⟨Nat.le_of_ble_eq_true rfl, Nat.le_of_ble_eq_true rfl⟩) hW (fun L_158 h_159 H locs p_161 hW => ?_)
            obtain ⟨⟨w_163, w_164, w_165, fw_163, fw_164, fw_165, hr_162⟩, hT, hs⟩ := p_161
            replace hT : hx_T T_tb L_158 h_159 := hT
            replace hs : hx_S T_tb [(10, 14), (10, 18), (55, 0)] L_149 h_150 L_158 h_159 := hs
            replace fw_124 := (hs.o (gx.S hM) trivial rfl).1.trans fw_124
            replace fw_128 := (hs.o (gx.S hM) trivial rfl).1.trans fw_128
            replace fw_154 := (hs.o (gx.S hM) trivial rfl).1.trans fw_154
            replace fw_155 := (hs.o (gx.S hM) trivial rfl).1.trans fw_155
            replace fw_130 : h_159.2.1 qo = w_130 := (funext fun j => (hs.a (gqo.S hM) rfl j).1).trans fw_130
            replace hM := hM.tr (hs.mono (by decide))
            have fw_163 : h_159.2.1 x 14 = w_163 := fw_163
            have bw_163 := hT.gi (gx.S hM) tt_10 (k := 14) rfl
            rw [fw_163] at bw_163
            have bw_163 : 0 ≤ w_163.toInt ∧ w_163.toInt ≤ 128 := bw_163
            have fw_164 : h_159.2.1 x 18 = w_164 := fw_164
            have bw_164 := hT.gi (gx.S hM) tt_10 (k := 18) rfl
            rw [fw_164] at bw_164
            have bw_164 : 0 ≤ w_164.toInt ∧ w_164.toInt ≤ 128 := bw_164
            have fw_165 : h_159.2.1 qs = w_165 := fw_165
            obtain ⟨oc_166, oc_166O, oc_166E⟩ := hr_162.2.2
            have hqb := hx_QQ_b hr_162.1
            refine lv_aload_n hx hb dX10_either_53 rfl (lv_at hl 3 rfl) ?_
            refine hk_getr hx hb hts hC_10 hown hW (gx.S hM) tt_10 17 (by decide) rfl kw_1160 ⟨rfl, rfl, rfl⟩ ((hM.o gx trivial rfl).2.trans f_x_17) dX10_either_54 ?_
            refine lv_aload_n hx hb dX10_either_57 rfl (lv_at hl 3 rfl) ?_
            refine hk_geti hx hb hts hC_10 hown hW (gx.S hM) tt_10 18 (by decide) rfl kw_1161 ⟨rfl, rfl, rfl⟩ fw_164 dX10_either_58 ?_
            refine lv_iload_n hx hb dX10_either_61 rfl (lv_at hl 0 rfl) ?_
            have fw_130O := fw_130
            refine hx_iast hx hb hW hT (hx_S.rf (M := [(56, 0)])) (gqo.S hM) tt_56 rfl ⟨by omega, by omega⟩ rfl ⟨by omega, by omega⟩ (List.mem_singleton.mpr rfl) dX10_either_62 (fun H locs h_167 eh_167 hW hT hs => ?_)
            replace fw_124 := (hs.o (gx.S hM) trivial rfl).1.trans fw_124
            replace fw_128 := (hs.o (gx.S hM) trivial rfl).1.trans fw_128
            replace fw_154 := (hs.o (gx.S hM) trivial rfl).1.trans fw_154
            replace fw_155 := (hs.o (gx.S hM) trivial rfl).1.trans fw_155
            replace fw_163 := (hs.o (gx.S hM) trivial rfl).1.trans fw_163
            replace fw_164 := (hs.o (gx.S hM) trivial rfl).1.trans fw_164
            replace fw_165 : h_167.2.1 qs = w_165 := (funext fun j => (hs.a (gqs.S hM) rfl j).1).trans fw_165
            replace hM := hM.tr (hs.mono (by decide))
            obtain ⟨fa_168, dfa_168⟩ : ∃ g : Nat → Int32, g = hx_up w_130 w_164.toNatClampNeg r_151 := ⟨_, rfl⟩
            have nfa_168 : h_167.2.1 qo = fa_168 := by rw [eh_167, dfa_168, ← fw_130O]; exact hx_pi_fun _ _ _ _
            refine lv_aload_n hx hb dX10_either_63 rfl (lv_at hl 3 rfl) ?_
            refine lv_dup hx hb dX10_either_64 rfl ?_
            refine hk_geti hx hb hts hC_10 hown hW (gx.S hM) tt_10 18 (by decide) rfl kw_1161 ⟨rfl, rfl, rfl⟩ fw_164 dX10_either_65 ?_
            refine lv_iconst (v := 1) hx hb dX10_either_68 (by decide) ?_
            refine lv_iadd hx hb dX10_either_69 ?_
            have rg_169 := i32_r w_164
            refine lv_topi (fun x_170 ex_170 => ?_)
            have zx_170 : x_170.toInt = w_164.toInt + 1 := by rw [ex_170]; exact i32_add rfl (by decide) (by omega) (by omega)
            refine hx_puti hx hb hts hC_10 hown hW hT (hx_S.rf (M := [(10, 18)])) (gx.S hM) tt_10 18 (by decide) rfl kw_1161 ⟨rfl, rfl, rfl⟩ rfl (x := x_170) ⟨by omega, by omega⟩ rfl rfl rfl (List.mem_singleton.mpr rfl) dX10_either_70 (fun H locs h_171 eh_171 hW hT hs => ?_)
            replace fw_124 := (hs.o (gx.S hM) trivial rfl).1.trans fw_124
            replace fw_128 := (hs.o (gx.S hM) trivial rfl).1.trans fw_128
            replace fw_154 := (hs.o (gx.S hM) trivial rfl).1.trans fw_154
            replace fw_155 := (hs.o (gx.S hM) trivial rfl).1.trans fw_155
            replace fw_163 := (hs.o (gx.S hM) trivial rfl).1.trans fw_163
            replace fw_165 : h_171.2.1 qs = w_165 := (funext fun j => (hs.a (gqs.S hM) rfl j).1).trans fw_165
            replace nfa_168 : h_171.2.1 qo = fa_168 := (funext fun j => (hs.a (gqo.S hM) rfl j).1).trans nfa_168
            replace hM := hM.tr (hs.mono (by decide))
            have f_172 : h_171.2.1 x 18 = x_170 := by rw [eh_171]; exact hx_pi_at _ _ _ _
            refine lv_aload_n hx hb dX10_either_73 rfl (lv_at hl 3 rfl) ?_
            refine lv_dup hx hb dX10_either_74 rfl ?_
            refine hk_geti hx hb hts hC_10 hown hW (gx.S hM) tt_10 8 (by decide) rfl kw_1151 ⟨rfl, rfl, rfl⟩ fw_154 dX10_either_75 ?_
            refine lv_aload_n hx hb dX10_either_78 rfl (lv_at hl 3 rfl) ?_
            refine hk_geti hx hb hts hC_10 hown hW (gx.S hM) tt_10 11 (by decide) rfl kw_1154 ⟨rfl, rfl, rfl⟩ fw_155 dX10_either_79 ?_
            refine lv_iadd hx hb dX10_either_82 ?_
            have rg_173 := i32_r w_154
            have rg_174 := i32_r w_155
            refine lv_topi (fun x_175 ex_175 => ?_)
            have zx_175 : x_175.toInt = w_154.toInt + w_155.toInt := by rw [ex_175]; exact i32_add rfl rfl (by omega) (by omega)
            refine hx_puti hx hb hts hC_10 hown hW hT (hx_S.rf (M := [(10, 8)])) (gx.S hM) tt_10 8 (by decide) rfl kw_1151 ⟨rfl, rfl, rfl⟩ rfl (x := x_175) ⟨by omega, by omega⟩ rfl rfl rfl (List.mem_singleton.mpr rfl) dX10_either_83 (fun H locs h_176 eh_176 hW hT hs => ?_)
            replace fw_124 := (hs.o (gx.S hM) trivial rfl).1.trans fw_124
            replace fw_128 := (hs.o (gx.S hM) trivial rfl).1.trans fw_128
            replace fw_155 := (hs.o (gx.S hM) trivial rfl).1.trans fw_155
            replace fw_163 := (hs.o (gx.S hM) trivial rfl).1.trans fw_163
            replace f_172 := (hs.o (gx.S hM) trivial rfl).1.trans f_172
            replace fw_165 : h_176.2.1 qs = w_165 := (funext fun j => (hs.a (gqs.S hM) rfl j).1).trans fw_165
            replace nfa_168 : h_176.2.1 qo = fa_168 := (funext fun j => (hs.a (gqo.S hM) rfl j).1).trans nfa_168
            replace hM := hM.tr (hs.mono (by decide))
            have f_177 : h_176.2.1 x 8 = x_175 := by rw [eh_176]; exact hx_pi_at _ _ _ _
            refine lv_iconst (v := 1) hx hb dX10_either_86 (by decide) ?_
            refine lv_istore_n (lv' := [(1, .int (1 : Int32)), (3, .int r_151), (2, .int r_144), (0, .ref x)]) hx hb dX10_either_87 rfl hl (by decide) rfl (fun ls hl => ?_)
            refine lv_goto (tgt := 176) hx hb dX10_either_88 (by decide) ?_
            refine lv_goto (tgt := 6) hx hb dX10_either_176 (by decide) ?_
            have zk_1 : (1 : Int32).toInt = 1 := by decide
            exact ih6 (1 : Int32) w_124 w_163 x_170 x_175 w_128 w_165 fa_168 _ _ L_158 h_176 (by decide) (by decide) (by omega) (by omega) (by omega) (by omega) (by omega) (by omega) (by omega) (by omega) (i32_r _).1 (i32_r _).2 (by omega) (hx_QQ_bE (hx_QQ_join hr_162.1 (by omega) (by omega) (by omega) (hx_cl (by omega)) (by omega) dfa_168) (by decide)) ⟨oc_166, oc_166O, hmE.trans ((hv_RN_a (by rw [← eks]; exact hmw) (by omega) oc_166E).trans (by rw [← eks, show hv_we tf tp0.toInt.toNat w_154.toInt.toNat = x_175.toInt.toNat by omega, show decide ((1 : Int32).toInt = 1) = true from (by decide), hv_ls_p (n := w_164.toInt.toNat) (z := r_151.toInt) rfl (by omega) rfl dfa_168] <;> rfl))⟩ (by omega) (by omega) ls (by omega) hW hT hM fw_124 fw_163 f_172 f_177 fw_128 fw_165 nfa_168 (lv_sub hl [0, 3] rfl)
          · skip
            refine lv_iload_n hx hb dX10_either_44 rfl (lv_at hl 0 rfl) ?_
            refine hb_if_ne (zx := r_151.toInt) (tgt := 91) hx hb rfl dX10_either_45 (by decide) (fun c_178 => ?_) (fun c_178 => ?_)
            · skip
              have hmw : hv_wd tf tp0.toInt.toNat w_154.toInt.toNat ≠ 1 ∧ hv_wd tf tp0.toInt.toNat w_154.toInt.toNat ≠ 0 := ⟨by omega, by omega⟩
              refine lv_iload_n hx hb dX10_either_91 rfl (lv_at hl 1 rfl) ?_
              refine lv_bipush (v := 41) hx hb dX10_either_92 (by decide) ?_
              refine hb_icmp_ne (zx := r_144.toInt) (zy := 41) (tgt := 146) hx hb rfl (by decide) dX10_either_94 (by decide) (fun c_179 => ?_) (fun c_179 => ?_)
              · skip
                have hm41 : ¬ (w_154.toInt.toNat < tp0.toInt.toNat ∧ (tf w_154.toInt.toNat).toInt = 41) := by rw [e12]; exact fun z9 => hv_SE_n (k := 41) hr_146S (by omega) ⟨by omega, z9.2, by decide⟩
                refine lv_aload_n hx hb dX10_either_146 rfl (lv_at hl 3 rfl) ?_
                refine lv_iconst (v := 0) hx hb dX10_either_147 (by decide) ?_
                have zc_0 : (0 : Int32).toInt = 0 := by decide
                refine hx_gov (hx_runV (As := [.int (0 : Int32)]) (rest := []) ⟨hx, hb, hml, hown, hts⟩ hW (gx.S hM) tt_10 (T := TX10) (N := 98) rfl (t_X10_closesDown_v l dC dI dA L_149 h_150 H.size x (0 : Int32) hT (gx.S hM) qs (gqs.S hM) ((hM.o gx trivial rfl).2.trans f_x_15) qo (gqo.S hM) ((hM.o gx trivial rfl).2.trans f_x_17) w_140 fw_140 w_130 fw_130 w_124 fw_124 w_154 fw_154 w_138 fw_138 w_139 fw_139 (hx_QQ_next hq1 (by omega)) oc_141 oc_141O) (cwV 1 hts (hx_gV kw_1515 kw_1512 kw_1514 kw_64 kw_103) rfl rfl rfl (by decide +kernel) ⟨Nat.le_of_ble_eq_true rfl, Nat.le_of_ble_eq_true rfl⟩) rfl hl.1 rfl (Nat.le_of_ble_eq_true rfl) dX10_either_148 ⟨Nat.le_of_ble_eq_true rfl, Nat.le_of_ble_eq_true rfl⟩) hW (fun L_180 h_181 H locs p_183 hW => ?_)
                obtain ⟨⟨w_185, w_186, w_187, fw_185, fw_186, fw_187, hr_184⟩, hT, hs⟩ := p_183
                replace hT : hx_T T_tb L_180 h_181 := hT
                replace hs : hx_S T_tb [(10, 14), (10, 18), (55, 0)] L_149 h_150 L_180 h_181 := hs
                replace fw_124 := (hs.o (gx.S hM) trivial rfl).1.trans fw_124
                replace fw_128 := (hs.o (gx.S hM) trivial rfl).1.trans fw_128
                replace fw_154 := (hs.o (gx.S hM) trivial rfl).1.trans fw_154
                replace fw_155 := (hs.o (gx.S hM) trivial rfl).1.trans fw_155
                replace fw_130 : h_181.2.1 qo = w_130 := (funext fun j => (hs.a (gqo.S hM) rfl j).1).trans fw_130
                replace hM := hM.tr (hs.mono (by decide))
                have fw_185 : h_181.2.1 x 14 = w_185 := fw_185
                have bw_185 := hT.gi (gx.S hM) tt_10 (k := 14) rfl
                rw [fw_185] at bw_185
                have bw_185 : 0 ≤ w_185.toInt ∧ w_185.toInt ≤ 128 := bw_185
                have fw_186 : h_181.2.1 x 18 = w_186 := fw_186
                have bw_186 := hT.gi (gx.S hM) tt_10 (k := 18) rfl
                rw [fw_186] at bw_186
                have bw_186 : 0 ≤ w_186.toInt ∧ w_186.toInt ≤ 128 := bw_186
                have fw_187 : h_181.2.1 qs = w_187 := fw_187
                obtain ⟨oc_188, oc_188O, oc_188E⟩ := hr_184.2.2
                refine lv_aload_n hx hb dX10_either_151 rfl (lv_at hl 3 rfl) ?_
                refine hk_geti hx hb hts hC_10 hown hW (gx.S hM) tt_10 18 (by decide) rfl kw_1161 ⟨rfl, rfl, rfl⟩ fw_186 dX10_either_152 ?_
                refine hb_if_eq (zx := w_186.toInt) (tgt := 170) hx hb rfl dX10_either_155 (by decide) (fun c_189 => ?_) (fun c_189 => ?_)
                · skip
                  refine lv_iconst (v := 1) hx hb dX10_either_170 (by decide) ?_
                  refine lv_goto (tgt := 175) hx hb dX10_either_171 (by decide) ?_
                  exact hx_retz hx hb hr rfl hlk hW ⟨⟨w_154, w_185, w_124, w_128, w_187, fw_154, fw_185, fw_124, fw_128, fw_187, ⟨by decide, by omega, fun _ => hx_QQ_endE hr_184.1 (by omega), (hv_K_t (x := w_154.toInt.toNat) (y := w_124.toInt.toNat) (by decide) (by omega) (by omega) (by omega) oc_188O (hmE.trans ((hv_RN_e0 (by rw [← eks]; exact hmw) (by rw [← eks]; exact hm41) (by have h9 := oc_188E; have z0 : (0 : Int32).toInt = 0 := (by decide); rw [z0] at h9; rw [hv_ls_0 (op := w_186.toInt) (by omega)] at h9; exact h9)).trans (by rw [← eks])))), fun _ => by omega⟩⟩, hT, hM⟩ dX10_either_175
                · skip
                  refine lv_aload_n hx hb dX10_either_158 rfl (lv_at hl 3 rfl) ?_
                  refine lv_iconst (v := 0) hx hb dX10_either_159 (by decide) ?_
                  refine lv_aload_n hx hb dX10_either_160 rfl (lv_at hl 3 rfl) ?_
                  refine hk_geti hx hb hts hC_10 hown hW (gx.S hM) tt_10 8 (by decide) rfl kw_1151 ⟨rfl, rfl, rfl⟩ fw_154 dX10_either_161 ?_
                  refine hx_goi (hx_runV (As := [.int (0 : Int32), .int w_154]) (rest := []) ⟨hx, hb, hml, hown, hts⟩ hW (gx.S hM) tt_10 (T := TX10) (N := 98) rfl (t_X10_fails_v l dC dI dA L_180 h_181 H.size x (0 : Int32) w_154 hT (gx.S hM) w_128 fw_128 (by omega) (by decide) ⟨by omega, by omega⟩) (cwV 2 hts (hx_gV kw_1480 kw_1477 kw_1479 kw_56 kw_103) rfl rfl rfl (by decide +kernel) ⟨Nat.le_of_ble_eq_true rfl, Nat.le_of_ble_eq_true rfl⟩) rfl hl.1 rfl (Nat.le_of_ble_eq_true rfl) dX10_either_164 ⟨Nat.le_of_ble_eq_true rfl, Nat.le_of_ble_eq_true rfl⟩) hW (fun r_192 L_190 h_191 H locs p_193 hW => ?_)
                  obtain ⟨⟨w_195, fw_195, hr_194⟩, hT, hs⟩ := p_193
                  replace hT : hx_T T_tb L_190 h_191 := hT
                  replace hs : hx_S T_tb [(10, 9)] L_180 h_181 L_190 h_191 := hs
                  replace fw_124 := (hs.o (gx.S hM) trivial rfl).1.trans fw_124
                  replace fw_154 := (hs.o (gx.S hM) trivial rfl).1.trans fw_154
                  replace fw_155 := (hs.o (gx.S hM) trivial rfl).1.trans fw_155
                  replace fw_185 := (hs.o (gx.S hM) trivial rfl).1.trans fw_185
                  replace fw_186 := (hs.o (gx.S hM) trivial rfl).1.trans fw_186
                  replace fw_130 : h_191.2.1 qo = w_130 := (funext fun j => (hs.a (gqo.S hM) rfl j).1).trans fw_130
                  replace fw_187 : h_191.2.1 qs = w_187 := (funext fun j => (hs.a (gqs.S hM) rfl j).1).trans fw_187
                  replace hM := hM.tr (hs.mono (by decide))
                  have fw_195 : h_191.2.1 x 9 = w_195 := fw_195
                  have bw_195 := hT.gi (gx.S hM) tt_10 (k := 9) rfl
                  rw [fw_195] at bw_195
                  have bw_195 : -2147483648 ≤ w_195.toInt ∧ w_195.toInt ≤ 2147483647 := bw_195
                  refine hb_if_eq (zx := r_192.toInt) (tgt := 174) hx hb rfl dX10_either_167 (by decide) (fun c_196 => ?_) (fun c_196 => by exfalso; omega)
                  refine lv_iconst (v := 0) hx hb dX10_either_174 (by decide) ?_
                  exact hx_retz hx hb hr rfl hlk hW ⟨⟨w_154, w_185, w_124, w_195, w_187, fw_154, fw_185, fw_124, fw_195, fw_187, ⟨by omega, by omega, (fun z9 => absurd z9 (by decide)), (hv_K_f (x := 1 + 8 * w_154.toInt.toNat) (by omega) (by omega) (by omega) (hmE.trans ((hv_RN_e1 (by rw [← eks]; exact hmw) (by rw [← eks]; exact hm41) (by have h9 := oc_188E; have z0 : (0 : Int32).toInt = 0 := (by decide); rw [z0] at h9; exact h9) (hv_ls_n (by omega))).trans (by rw [← eks])))), (fun z9 => absurd z9 (by decide))⟩⟩, hT, hM⟩ dX10_either_175
              · skip
                have hm41 : w_154.toInt.toNat < tp0.toInt.toNat ∧ (tf w_154.toInt.toNat).toInt = 41 := by rw [e12]; have h8 := hv_SE_y (k := 41) hr_146S (by decide) (by decide) (by omega); exact ⟨by omega, h8.2⟩
                refine lv_aload_n hx hb dX10_either_97 rfl (lv_at hl 3 rfl) ?_
                refine lv_iconst (v := 0) hx hb dX10_either_98 (by decide) ?_
                have zc_0 : (0 : Int32).toInt = 0 := by decide
                refine hx_gov (hx_runV (As := [.int (0 : Int32)]) (rest := []) ⟨hx, hb, hml, hown, hts⟩ hW (gx.S hM) tt_10 (T := TX10) (N := 98) rfl (t_X10_closesDown_v l dC dI dA L_149 h_150 H.size x (0 : Int32) hT (gx.S hM) qs (gqs.S hM) ((hM.o gx trivial rfl).2.trans f_x_15) qo (gqo.S hM) ((hM.o gx trivial rfl).2.trans f_x_17) w_140 fw_140 w_130 fw_130 w_124 fw_124 w_154 fw_154 w_138 fw_138 w_139 fw_139 (hx_QQ_next hq1 (by omega)) oc_141 oc_141O) (cwV 1 hts (hx_gV kw_1515 kw_1512 kw_1514 kw_64 kw_103) rfl rfl rfl (by decide +kernel) ⟨Nat.le_of_ble_eq_true rfl, Nat.le_of_ble_eq_true rfl⟩) rfl hl.1 rfl (Nat.le_of_ble_eq_true rfl) dX10_either_99 ⟨Nat.le_of_ble_eq_true rfl, Nat.le_of_ble_eq_true rfl⟩) hW (fun L_197 h_198 H locs p_200 hW => ?_)
                obtain ⟨⟨w_202, w_203, w_204, fw_202, fw_203, fw_204, hr_201⟩, hT, hs⟩ := p_200
                replace hT : hx_T T_tb L_197 h_198 := hT
                replace hs : hx_S T_tb [(10, 14), (10, 18), (55, 0)] L_149 h_150 L_197 h_198 := hs
                replace fw_124 := (hs.o (gx.S hM) trivial rfl).1.trans fw_124
                replace fw_128 := (hs.o (gx.S hM) trivial rfl).1.trans fw_128
                replace fw_154 := (hs.o (gx.S hM) trivial rfl).1.trans fw_154
                replace fw_155 := (hs.o (gx.S hM) trivial rfl).1.trans fw_155
                replace fw_130 : h_198.2.1 qo = w_130 := (funext fun j => (hs.a (gqo.S hM) rfl j).1).trans fw_130
                replace hM := hM.tr (hs.mono (by decide))
                have fw_202 : h_198.2.1 x 14 = w_202 := fw_202
                have bw_202 := hT.gi (gx.S hM) tt_10 (k := 14) rfl
                rw [fw_202] at bw_202
                have bw_202 : 0 ≤ w_202.toInt ∧ w_202.toInt ≤ 128 := bw_202
                have fw_203 : h_198.2.1 x 18 = w_203 := fw_203
                have bw_203 := hT.gi (gx.S hM) tt_10 (k := 18) rfl
                rw [fw_203] at bw_203
                have bw_203 : 0 ≤ w_203.toInt ∧ w_203.toInt ≤ 128 := bw_203
                have fw_204 : h_198.2.1 qs = w_204 := fw_204
                obtain ⟨oc_205, oc_205O, oc_205E⟩ := hr_201.2.2
                refine lv_aload_n hx hb dX10_either_102 rfl (lv_at hl 3 rfl) ?_
                refine hk_geti hx hb hts hC_10 hown hW (gx.S hM) tt_10 18 (by decide) rfl kw_1161 ⟨rfl, rfl, rfl⟩ fw_203 dX10_either_103 ?_
                refine hb_if_ne (zx := w_203.toInt) (tgt := 119) hx hb rfl dX10_either_106 (by decide) (fun c_206 => ?_) (fun c_206 => ?_)
                · skip
                  refine lv_aload_n hx hb dX10_either_119 rfl (lv_at hl 3 rfl) ?_
                  refine lv_dup hx hb dX10_either_120 rfl ?_
                  refine hk_geti hx hb hts hC_10 hown hW (gx.S hM) tt_10 18 (by decide) rfl kw_1161 ⟨rfl, rfl, rfl⟩ fw_203 dX10_either_121 ?_
                  refine lv_iconst (v := 1) hx hb dX10_either_124 (by decide) ?_
                  refine lv_isub hx hb dX10_either_125 ?_
                  have rg_207 := i32_r w_203
                  refine lv_topi (fun x_208 ex_208 => ?_)
                  have zx_208 : x_208.toInt = w_203.toInt - 1 := by rw [ex_208]; exact i32_sub rfl (by decide) (by omega) (by omega)
                  refine hx_puti hx hb hts hC_10 hown hW hT (hx_S.rf (M := [(10, 18)])) (gx.S hM) tt_10 18 (by decide) rfl kw_1161 ⟨rfl, rfl, rfl⟩ rfl (x := x_208) ⟨by omega, by omega⟩ rfl rfl rfl (List.mem_singleton.mpr rfl) dX10_either_126 (fun H locs h_209 eh_209 hW hT hs => ?_)
                  replace fw_124 := (hs.o (gx.S hM) trivial rfl).1.trans fw_124
                  replace fw_128 := (hs.o (gx.S hM) trivial rfl).1.trans fw_128
                  replace fw_154 := (hs.o (gx.S hM) trivial rfl).1.trans fw_154
                  replace fw_155 := (hs.o (gx.S hM) trivial rfl).1.trans fw_155
                  replace fw_202 := (hs.o (gx.S hM) trivial rfl).1.trans fw_202
                  replace fw_130 : h_209.2.1 qo = w_130 := (funext fun j => (hs.a (gqo.S hM) rfl j).1).trans fw_130
                  replace fw_204 : h_209.2.1 qs = w_204 := (funext fun j => (hs.a (gqs.S hM) rfl j).1).trans fw_204
                  replace hM := hM.tr (hs.mono (by decide))
                  have f_210 : h_209.2.1 x 18 = x_208 := by rw [eh_209]; exact hx_pi_at _ _ _ _
                  refine lv_aload_n hx hb dX10_either_129 rfl (lv_at hl 3 rfl) ?_
                  refine lv_dup hx hb dX10_either_130 rfl ?_
                  refine hk_geti hx hb hts hC_10 hown hW (gx.S hM) tt_10 8 (by decide) rfl kw_1151 ⟨rfl, rfl, rfl⟩ fw_154 dX10_either_131 ?_
                  refine lv_iconst (v := 1) hx hb dX10_either_134 (by decide) ?_
                  refine lv_iadd hx hb dX10_either_135 ?_
                  have rg_211 := i32_r w_154
                  refine lv_topi (fun x_212 ex_212 => ?_)
                  have zx_212 : x_212.toInt = w_154.toInt + 1 := by rw [ex_212]; exact i32_add rfl (by decide) (by omega) (by omega)
                  refine hx_puti hx hb hts hC_10 hown hW hT (hx_S.rf (M := [(10, 8)])) (gx.S hM) tt_10 8 (by decide) rfl kw_1151 ⟨rfl, rfl, rfl⟩ rfl (x := x_212) ⟨by omega, by omega⟩ rfl rfl rfl (List.mem_singleton.mpr rfl) dX10_either_136 (fun H locs h_213 eh_213 hW hT hs => ?_)
                  replace fw_124 := (hs.o (gx.S hM) trivial rfl).1.trans fw_124
                  replace fw_128 := (hs.o (gx.S hM) trivial rfl).1.trans fw_128
                  replace fw_155 := (hs.o (gx.S hM) trivial rfl).1.trans fw_155
                  replace fw_202 := (hs.o (gx.S hM) trivial rfl).1.trans fw_202
                  replace f_210 := (hs.o (gx.S hM) trivial rfl).1.trans f_210
                  replace fw_130 : h_213.2.1 qo = w_130 := (funext fun j => (hs.a (gqo.S hM) rfl j).1).trans fw_130
                  replace fw_204 : h_213.2.1 qs = w_204 := (funext fun j => (hs.a (gqs.S hM) rfl j).1).trans fw_204
                  replace hM := hM.tr (hs.mono (by decide))
                  have f_214 : h_213.2.1 x 8 = x_212 := by rw [eh_213]; exact hx_pi_at _ _ _ _
                  have hcd : hv_cd 0 oc_141 (hv_ls w_130 w_139.toInt.toNat) = (oc_205, (w_130 (w_203.toInt.toNat - 1)).toInt :: hv_ls w_130 x_208.toInt.toNat) := by have h9 := oc_205E; have z0 : (0 : Int32).toInt = 0 := (by decide); rw [z0] at h9; rw [h9, show w_203.toInt.toNat = x_208.toInt.toNat + 1 by omega, show x_208.toInt.toNat + 1 - 1 = x_208.toInt.toNat by omega]; rfl
                  refine lv_aload_n hx hb dX10_either_139 rfl (lv_at hl 3 rfl) ?_
                  refine hx_gov (hx_runV (As := []) (rest := []) ⟨hx, hb, hml, hown, hts⟩ hW (gx.S hM) tt_10 (T := TX10) (N := 98) rfl (t_X10_closesNots_v l dC dI dA L_197 h_213 H.size x hT (gx.S hM) qs (gqs.S hM) ((hM.o gx trivial rfl).2.trans f_x_15) qo (gqo.S hM) ((hM.o gx trivial rfl).2.trans f_x_17) w_204 fw_204 w_130 fw_130 w_124 fw_124 x_212 f_214 w_202 fw_202 x_208 f_210 (hx_QQ_shut hr_201.1 (by omega) (hx_QQ_t100 hr_201.1 (by omega) hr_201.2.1 (by decide)) (by omega) (by omega)) oc_205 oc_205O) (cwV 0 hts (hx_gV kw_1511 kw_1508 kw_1510 kw_63 kw_103) rfl rfl rfl (by decide +kernel) ⟨Nat.le_of_ble_eq_true rfl, Nat.le_of_ble_eq_true rfl⟩) rfl hl.1 rfl (Nat.le_of_ble_eq_true rfl) dX10_either_140 ⟨Nat.le_of_ble_eq_true rfl, Nat.le_of_ble_eq_true rfl⟩) hW (fun L_215 h_216 H locs p_218 hW => ?_)
                  obtain ⟨⟨w_220, w_221, w_222, fw_220, fw_221, fw_222, hr_219⟩, hT, hs⟩ := p_218
                  replace hT : hx_T T_tb L_215 h_216 := hT
                  replace hs : hx_S T_tb [(10, 14), (10, 18), (55, 0)] L_197 h_213 L_215 h_216 := hs
                  replace fw_124 := (hs.o (gx.S hM) trivial rfl).1.trans fw_124
                  replace fw_128 := (hs.o (gx.S hM) trivial rfl).1.trans fw_128
                  replace fw_155 := (hs.o (gx.S hM) trivial rfl).1.trans fw_155
                  replace f_214 := (hs.o (gx.S hM) trivial rfl).1.trans f_214
                  replace fw_130 : h_216.2.1 qo = w_130 := (funext fun j => (hs.a (gqo.S hM) rfl j).1).trans fw_130
                  replace hM := hM.tr (hs.mono (by decide))
                  have fw_220 : h_216.2.1 x 14 = w_220 := fw_220
                  have bw_220 := hT.gi (gx.S hM) tt_10 (k := 14) rfl
                  rw [fw_220] at bw_220
                  have bw_220 : 0 ≤ w_220.toInt ∧ w_220.toInt ≤ 128 := bw_220
                  have fw_221 : h_216.2.1 x 18 = w_221 := fw_221
                  have bw_221 := hT.gi (gx.S hM) tt_10 (k := 18) rfl
                  rw [fw_221] at bw_221
                  have bw_221 : 0 ≤ w_221.toInt ∧ w_221.toInt ≤ 128 := bw_221
                  have fw_222 : h_216.2.1 qs = w_222 := fw_222
                  obtain ⟨oc_223, oc_223O, oc_223E⟩ := hr_219.2
                  refine lv_goto (tgt := 176) hx hb dX10_either_143 (by decide) ?_
                  refine lv_goto (tgt := 6) hx hb dX10_either_176 (by decide) ?_
                  have zk_0 : (0 : Int32).toInt = 0 := by decide
                  exact ih6 (0 : Int32) w_124 w_220 w_221 x_212 w_128 w_222 w_130 _ _ L_215 h_216 (by decide) (by decide) (by omega) (by omega) (by omega) (by omega) (by omega) (by omega) (by omega) (by omega) (i32_r _).1 (i32_r _).2 (by omega) (hx_QQ_bE hr_219.1 (by decide)) ⟨oc_223, oc_223O, hmE.trans ((hv_RN_c1 (by rw [← eks]; exact hmw) (by rw [← eks]; exact hm41) hcd oc_223E).trans (by rw [← eks, show w_154.toInt.toNat + 1 = x_212.toInt.toNat by omega, show decide ((0 : Int32).toInt = 1) = false from (by decide)] <;> rfl))⟩ (by omega) (by omega) ls (by omega) hW hT hM fw_124 fw_220 fw_221 f_214 fw_128 fw_222 fw_130 (lv_sub hl [2, 3] rfl)
                · skip
                  refine lv_aload_n hx hb dX10_either_109 rfl (lv_at hl 3 rfl) ?_
                  refine lv_iconst (v := 0) hx hb dX10_either_110 (by decide) ?_
                  refine lv_aload_n hx hb dX10_either_111 rfl (lv_at hl 3 rfl) ?_
                  refine hk_geti hx hb hts hC_10 hown hW (gx.S hM) tt_10 8 (by decide) rfl kw_1151 ⟨rfl, rfl, rfl⟩ fw_154 dX10_either_112 ?_
                  refine hx_goi (hx_runV (As := [.int (0 : Int32), .int w_154]) (rest := []) ⟨hx, hb, hml, hown, hts⟩ hW (gx.S hM) tt_10 (T := TX10) (N := 98) rfl (t_X10_fails_v l dC dI dA L_197 h_198 H.size x (0 : Int32) w_154 hT (gx.S hM) w_128 fw_128 (by omega) (by decide) ⟨by omega, by omega⟩) (cwV 2 hts (hx_gV kw_1480 kw_1477 kw_1479 kw_56 kw_103) rfl rfl rfl (by decide +kernel) ⟨Nat.le_of_ble_eq_true rfl, Nat.le_of_ble_eq_true rfl⟩) rfl hl.1 rfl (Nat.le_of_ble_eq_true rfl) dX10_either_115 ⟨Nat.le_of_ble_eq_true rfl, Nat.le_of_ble_eq_true rfl⟩) hW (fun r_226 L_224 h_225 H locs p_227 hW => ?_)
                  obtain ⟨⟨w_229, fw_229, hr_228⟩, hT, hs⟩ := p_227
                  replace hT : hx_T T_tb L_224 h_225 := hT
                  replace hs : hx_S T_tb [(10, 9)] L_197 h_198 L_224 h_225 := hs
                  replace fw_124 := (hs.o (gx.S hM) trivial rfl).1.trans fw_124
                  replace fw_154 := (hs.o (gx.S hM) trivial rfl).1.trans fw_154
                  replace fw_155 := (hs.o (gx.S hM) trivial rfl).1.trans fw_155
                  replace fw_202 := (hs.o (gx.S hM) trivial rfl).1.trans fw_202
                  replace fw_203 := (hs.o (gx.S hM) trivial rfl).1.trans fw_203
                  replace fw_130 : h_225.2.1 qo = w_130 := (funext fun j => (hs.a (gqo.S hM) rfl j).1).trans fw_130
                  replace fw_204 : h_225.2.1 qs = w_204 := (funext fun j => (hs.a (gqs.S hM) rfl j).1).trans fw_204
                  replace hM := hM.tr (hs.mono (by decide))
                  have fw_229 : h_225.2.1 x 9 = w_229 := fw_229
                  have bw_229 := hT.gi (gx.S hM) tt_10 (k := 9) rfl
                  rw [fw_229] at bw_229
                  have bw_229 : -2147483648 ≤ w_229.toInt ∧ w_229.toInt ≤ 2147483647 := bw_229
                  exact hx_retz hx hb hr (hx_nar01 (by omega)) hlk hW ⟨⟨w_154, w_202, w_124, w_229, w_204, fw_154, fw_202, fw_124, fw_229, fw_204, ⟨by omega, by omega, (fun z9 => by exfalso; omega), (hv_K_f (x := 1 + 8 * w_154.toInt.toNat) (by omega) (by omega) (by omega) (hmE.trans ((hv_RN_c0 (by rw [← eks]; exact hmw) (by rw [← eks]; exact hm41) (by have h9 := oc_205E; have z0 : (0 : Int32).toInt = 0 := (by decide); rw [z0] at h9; rw [hv_ls_0 (op := w_203.toInt) (by omega)] at h9; exact h9)).trans (by rw [← eks])))), (fun z9 => by exfalso; omega)⟩⟩, hT, hM⟩ dX10_either_118
            · skip
              have hmw : hv_wd tf tp0.toInt.toNat w_154.toInt.toNat = r_151.toInt := hr_153W.symm
              have hml9 : w_154.toInt.toNat + 2 ≤ hv_we tf tp0.toInt.toNat w_154.toInt.toNat ∧ hv_we tf tp0.toInt.toNat w_154.toInt.toNat ≤ tp0.toInt.toNat := by rcases (show r_151.toInt = 1 ∨ r_151.toInt = 0 by omega) with z | z; (have h9 := hv_wd_1 (hmw.trans z); omega); (have h9 := hv_wd_0 (hmw.trans z); omega)
              refine lv_aload_n hx hb dX10_either_48 rfl (lv_at hl 3 rfl) ?_
              refine lv_iload_n hx hb dX10_either_49 rfl (lv_at hl 0 rfl) ?_
              refine hx_gov (hx_runV (As := [.int r_151]) (rest := []) ⟨hx, hb, hml, hown, hts⟩ hW (gx.S hM) tt_10 (T := TX10) (N := 98) rfl (t_X10_closesDown_v l dC dI dA L_149 h_150 H.size x r_151 hT (gx.S hM) qs (gqs.S hM) ((hM.o gx trivial rfl).2.trans f_x_15) qo (gqo.S hM) ((hM.o gx trivial rfl).2.trans f_x_17) w_140 fw_140 w_130 fw_130 w_124 fw_124 w_154 fw_154 w_138 fw_138 w_139 fw_139 (hx_QQ_next hq1 (by omega)) oc_141 oc_141O) (cwV 1 hts (hx_gV kw_1515 kw_1512 kw_1514 kw_64 kw_103) rfl rfl rfl (by decide +kernel) ⟨Nat.le_of_ble_eq_true rfl, Nat.le_of_ble_eq_true rfl⟩) rfl hl.1 rfl (Nat.le_of_ble_eq_true rfl) dX10_either_50 ⟨Nat.le_of_ble_eq_true rfl, Nat.le_of_ble_eq_true rfl⟩) hW (fun L_230 h_231 H locs p_233 hW => ?_)
              obtain ⟨⟨w_235, w_236, w_237, fw_235, fw_236, fw_237, hr_234⟩, hT, hs⟩ := p_233
              replace hT : hx_T T_tb L_230 h_231 := hT
              replace hs : hx_S T_tb [(10, 14), (10, 18), (55, 0)] L_149 h_150 L_230 h_231 := hs
              replace fw_124 := (hs.o (gx.S hM) trivial rfl).1.trans fw_124
              replace fw_128 := (hs.o (gx.S hM) trivial rfl).1.trans fw_128
              replace fw_154 := (hs.o (gx.S hM) trivial rfl).1.trans fw_154
              replace fw_155 := (hs.o (gx.S hM) trivial rfl).1.trans fw_155
              replace fw_130 : h_231.2.1 qo = w_130 := (funext fun j => (hs.a (gqo.S hM) rfl j).1).trans fw_130
              replace hM := hM.tr (hs.mono (by decide))
              have fw_235 : h_231.2.1 x 14 = w_235 := fw_235
              have bw_235 := hT.gi (gx.S hM) tt_10 (k := 14) rfl
              rw [fw_235] at bw_235
              have bw_235 : 0 ≤ w_235.toInt ∧ w_235.toInt ≤ 128 := bw_235
              have fw_236 : h_231.2.1 x 18 = w_236 := fw_236
              have bw_236 := hT.gi (gx.S hM) tt_10 (k := 18) rfl
              rw [fw_236] at bw_236
              have bw_236 : 0 ≤ w_236.toInt ∧ w_236.toInt ≤ 128 := bw_236
              have fw_237 : h_231.2.1 qs = w_237 := fw_237
              obtain ⟨oc_238, oc_238O, oc_238E⟩ := hr_234.2.2
              have hqb := hx_QQ_b hr_234.1
              refine lv_aload_n hx hb dX10_either_53 rfl (lv_at hl 3 rfl) ?_
              refine hk_getr hx hb hts hC_10 hown hW (gx.S hM) tt_10 17 (by decide) rfl kw_1160 ⟨rfl, rfl, rfl⟩ ((hM.o gx trivial rfl).2.trans f_x_17) dX10_either_54 ?_
              refine lv_aload_n hx hb dX10_either_57 rfl (lv_at hl 3 rfl) ?_
              refine hk_geti hx hb hts hC_10 hown hW (gx.S hM) tt_10 18 (by decide) rfl kw_1161 ⟨rfl, rfl, rfl⟩ fw_236 dX10_either_58 ?_
              refine lv_iload_n hx hb dX10_either_61 rfl (lv_at hl 0 rfl) ?_
              have fw_130O := fw_130
              refine hx_iast hx hb hW hT (hx_S.rf (M := [(56, 0)])) (gqo.S hM) tt_56 rfl ⟨by omega, by omega⟩ rfl ⟨by omega, by omega⟩ (List.mem_singleton.mpr rfl) dX10_either_62 (fun H locs h_239 eh_239 hW hT hs => ?_)
              replace fw_124 := (hs.o (gx.S hM) trivial rfl).1.trans fw_124
              replace fw_128 := (hs.o (gx.S hM) trivial rfl).1.trans fw_128
              replace fw_154 := (hs.o (gx.S hM) trivial rfl).1.trans fw_154
              replace fw_155 := (hs.o (gx.S hM) trivial rfl).1.trans fw_155
              replace fw_235 := (hs.o (gx.S hM) trivial rfl).1.trans fw_235
              replace fw_236 := (hs.o (gx.S hM) trivial rfl).1.trans fw_236
              replace fw_237 : h_239.2.1 qs = w_237 := (funext fun j => (hs.a (gqs.S hM) rfl j).1).trans fw_237
              replace hM := hM.tr (hs.mono (by decide))
              obtain ⟨fa_240, dfa_240⟩ : ∃ g : Nat → Int32, g = hx_up w_130 w_236.toNatClampNeg r_151 := ⟨_, rfl⟩
              have nfa_240 : h_239.2.1 qo = fa_240 := by rw [eh_239, dfa_240, ← fw_130O]; exact hx_pi_fun _ _ _ _
              refine lv_aload_n hx hb dX10_either_63 rfl (lv_at hl 3 rfl) ?_
              refine lv_dup hx hb dX10_either_64 rfl ?_
              refine hk_geti hx hb hts hC_10 hown hW (gx.S hM) tt_10 18 (by decide) rfl kw_1161 ⟨rfl, rfl, rfl⟩ fw_236 dX10_either_65 ?_
              refine lv_iconst (v := 1) hx hb dX10_either_68 (by decide) ?_
              refine lv_iadd hx hb dX10_either_69 ?_
              have rg_241 := i32_r w_236
              refine lv_topi (fun x_242 ex_242 => ?_)
              have zx_242 : x_242.toInt = w_236.toInt + 1 := by rw [ex_242]; exact i32_add rfl (by decide) (by omega) (by omega)
              refine hx_puti hx hb hts hC_10 hown hW hT (hx_S.rf (M := [(10, 18)])) (gx.S hM) tt_10 18 (by decide) rfl kw_1161 ⟨rfl, rfl, rfl⟩ rfl (x := x_242) ⟨by omega, by omega⟩ rfl rfl rfl (List.mem_singleton.mpr rfl) dX10_either_70 (fun H locs h_243 eh_243 hW hT hs => ?_)
              replace fw_124 := (hs.o (gx.S hM) trivial rfl).1.trans fw_124
              replace fw_128 := (hs.o (gx.S hM) trivial rfl).1.trans fw_128
              replace fw_154 := (hs.o (gx.S hM) trivial rfl).1.trans fw_154
              replace fw_155 := (hs.o (gx.S hM) trivial rfl).1.trans fw_155
              replace fw_235 := (hs.o (gx.S hM) trivial rfl).1.trans fw_235
              replace fw_237 : h_243.2.1 qs = w_237 := (funext fun j => (hs.a (gqs.S hM) rfl j).1).trans fw_237
              replace nfa_240 : h_243.2.1 qo = fa_240 := (funext fun j => (hs.a (gqo.S hM) rfl j).1).trans nfa_240
              replace hM := hM.tr (hs.mono (by decide))
              have f_244 : h_243.2.1 x 18 = x_242 := by rw [eh_243]; exact hx_pi_at _ _ _ _
              refine lv_aload_n hx hb dX10_either_73 rfl (lv_at hl 3 rfl) ?_
              refine lv_dup hx hb dX10_either_74 rfl ?_
              refine hk_geti hx hb hts hC_10 hown hW (gx.S hM) tt_10 8 (by decide) rfl kw_1151 ⟨rfl, rfl, rfl⟩ fw_154 dX10_either_75 ?_
              refine lv_aload_n hx hb dX10_either_78 rfl (lv_at hl 3 rfl) ?_
              refine hk_geti hx hb hts hC_10 hown hW (gx.S hM) tt_10 11 (by decide) rfl kw_1154 ⟨rfl, rfl, rfl⟩ fw_155 dX10_either_79 ?_
              refine lv_iadd hx hb dX10_either_82 ?_
              have rg_245 := i32_r w_154
              have rg_246 := i32_r w_155
              refine lv_topi (fun x_247 ex_247 => ?_)
              have zx_247 : x_247.toInt = w_154.toInt + w_155.toInt := by rw [ex_247]; exact i32_add rfl rfl (by omega) (by omega)
              refine hx_puti hx hb hts hC_10 hown hW hT (hx_S.rf (M := [(10, 8)])) (gx.S hM) tt_10 8 (by decide) rfl kw_1151 ⟨rfl, rfl, rfl⟩ rfl (x := x_247) ⟨by omega, by omega⟩ rfl rfl rfl (List.mem_singleton.mpr rfl) dX10_either_83 (fun H locs h_248 eh_248 hW hT hs => ?_)
              replace fw_124 := (hs.o (gx.S hM) trivial rfl).1.trans fw_124
              replace fw_128 := (hs.o (gx.S hM) trivial rfl).1.trans fw_128
              replace fw_155 := (hs.o (gx.S hM) trivial rfl).1.trans fw_155
              replace fw_235 := (hs.o (gx.S hM) trivial rfl).1.trans fw_235
              replace f_244 := (hs.o (gx.S hM) trivial rfl).1.trans f_244
              replace fw_237 : h_248.2.1 qs = w_237 := (funext fun j => (hs.a (gqs.S hM) rfl j).1).trans fw_237
              replace nfa_240 : h_248.2.1 qo = fa_240 := (funext fun j => (hs.a (gqo.S hM) rfl j).1).trans nfa_240
              replace hM := hM.tr (hs.mono (by decide))
              have f_249 : h_248.2.1 x 8 = x_247 := by rw [eh_248]; exact hx_pi_at _ _ _ _
              refine lv_iconst (v := 1) hx hb dX10_either_86 (by decide) ?_
              refine lv_istore_n (lv' := [(1, .int (1 : Int32)), (3, .int r_151), (2, .int r_144), (0, .ref x)]) hx hb dX10_either_87 rfl hl (by decide) rfl (fun ls hl => ?_)
              refine lv_goto (tgt := 176) hx hb dX10_either_88 (by decide) ?_
              refine lv_goto (tgt := 6) hx hb dX10_either_176 (by decide) ?_
              have zk_1 : (1 : Int32).toInt = 1 := by decide
              exact ih6 (1 : Int32) w_124 w_235 x_242 x_247 w_128 w_237 fa_240 _ _ L_230 h_248 (by decide) (by decide) (by omega) (by omega) (by omega) (by omega) (by omega) (by omega) (by omega) (by omega) (i32_r _).1 (i32_r _).2 (by omega) (hx_QQ_bE (hx_QQ_join hr_234.1 (by omega) (by omega) (by omega) (hx_cl (by omega)) (by omega) dfa_240) (by decide)) ⟨oc_238, oc_238O, hmE.trans ((hv_RN_a (by rw [← eks]; exact hmw) (by omega) oc_238E).trans (by rw [← eks, show hv_we tf tp0.toInt.toNat w_154.toInt.toNat = x_247.toInt.toNat by omega, show decide ((1 : Int32).toInt = 1) = true from (by decide), hv_ls_p (n := w_236.toInt.toNat) (z := r_151.toInt) rfl (by omega) rfl dfa_240] <;> rfl))⟩ (by omega) (by omega) ls (by omega) hW hT hM fw_124 fw_235 f_244 f_249 fw_128 fw_237 nfa_240 (lv_sub hl [0, 3] rfl)
        · skip
          refine lv_iconst (v := 0) hx hb dX10_either_17 (by decide) ?_
          exact hx_retz hx hb hr rfl hlk hW ⟨⟨w_125, w_126, w_124, w_128, w_129, fw_125, fw_126, fw_124, fw_128, fw_129, ⟨by decide, by omega, fun z => absurd z (by decide), (have h8 := hv_BG_0 hr_123.2.2.2.1 (by omega); hv_K_f (x := w_128.toInt.toNat) (by decide) (by omega) (by omega) (hE6t.trans h8.2)), fun z => absurd z (by decide)⟩⟩, hT, hM⟩ dX10_either_18
  have zk_1 : (1 : Int32).toInt = 1 := by decide
  exact loop6 403 (1 : Int32) w_7 w_6 w_8 nx0 ft0 sf of _ _ L_1 h_2 (by decide) (by decide) (by omega) (by omega) (by omega) (by omega) (by omega) (by omega) (by omega) (by omega) (i32_r _).1 (i32_r _).2 (by omega) (hx_QQ_startE rfl (by omega) (by omega) (by omega) (by omega)) ⟨[], (by rw [show w_6.toInt.toNat = 0 by omega]; rfl), (by rw [hv_ls_0 (by omega), show w_7.toInt.toNat = 0 by omega, show decide ((1 : Int32).toInt = 1) = true from (by decide)])⟩ (by omega) (by omega) ls (by omega) hW hT hM fw_7 fw_6 fw_8 f_x_8 f_x_9 af_qs af_qo hl
