def wLX10_closesNots_0 : List Nat := [42, 180, 1, 9, 158, 0, 36, 42, 180, 0, 32, 42, 180, 1, 9, 4, 100, 46, 5, 160, 0, 21, 42, 5, 182, 1, 28, 42, 89, 180, 1, 9, 4, 100, 181, 1, 9, 167, 255, 219, 177]
theorem wX10_closesNots_0 : (cX10_closesNots.data.toList.map UInt8.toNat).drop 0 = wLX10_closesNots_0 ++ ([]) := by decide +kernel
theorem dX10_closesNots_0 : decode cX10_closesNots 0 = .ok (.aload_n 0, 1) := dq_42 (hz_wg wX10_closesNots_0 (j := 0) (n := 42) rfl)
theorem dX10_closesNots_1 : decode cX10_closesNots 1 = .ok (.getfield 265, 3) := dq_180 (hz_wg wX10_closesNots_0 (j := 1) (n := 180) rfl) (hz_wg wX10_closesNots_0 (j := 2) (n := 1) rfl) (hz_wg wX10_closesNots_0 (j := 3) (n := 9) rfl) rfl
theorem dX10_closesNots_4 : decode cX10_closesNots 4 = .ok (.ifCond .le 36, 3) := dq_158 (hz_wg wX10_closesNots_0 (j := 4) (n := 158) rfl) (hz_wg wX10_closesNots_0 (j := 5) (n := 0) rfl) (hz_wg wX10_closesNots_0 (j := 6) (n := 36) rfl) (by decide)
theorem dX10_closesNots_7 : decode cX10_closesNots 7 = .ok (.aload_n 0, 1) := dq_42 (hz_wg wX10_closesNots_0 (j := 7) (n := 42) rfl)
theorem dX10_closesNots_8 : decode cX10_closesNots 8 = .ok (.getfield 32, 3) := dq_180 (hz_wg wX10_closesNots_0 (j := 8) (n := 180) rfl) (hz_wg wX10_closesNots_0 (j := 9) (n := 0) rfl) (hz_wg wX10_closesNots_0 (j := 10) (n := 32) rfl) rfl
theorem dX10_closesNots_11 : decode cX10_closesNots 11 = .ok (.aload_n 0, 1) := dq_42 (hz_wg wX10_closesNots_0 (j := 11) (n := 42) rfl)
theorem dX10_closesNots_12 : decode cX10_closesNots 12 = .ok (.getfield 265, 3) := dq_180 (hz_wg wX10_closesNots_0 (j := 12) (n := 180) rfl) (hz_wg wX10_closesNots_0 (j := 13) (n := 1) rfl) (hz_wg wX10_closesNots_0 (j := 14) (n := 9) rfl) rfl
theorem dX10_closesNots_15 : decode cX10_closesNots 15 = .ok (.iconst 1, 1) := dq_4 (hz_wg wX10_closesNots_0 (j := 15) (n := 4) rfl)
theorem dX10_closesNots_16 : decode cX10_closesNots 16 = .ok (.isub, 1) := dq_100 (hz_wg wX10_closesNots_0 (j := 16) (n := 100) rfl)
theorem dX10_closesNots_17 : decode cX10_closesNots 17 = .ok (.iaload, 1) := dq_46 (hz_wg wX10_closesNots_0 (j := 17) (n := 46) rfl)
theorem dX10_closesNots_18 : decode cX10_closesNots 18 = .ok (.iconst 2, 1) := dq_5 (hz_wg wX10_closesNots_0 (j := 18) (n := 5) rfl)
theorem dX10_closesNots_19 : decode cX10_closesNots 19 = .ok (.if_icmp .ne 21, 3) := dq_160 (hz_wg wX10_closesNots_0 (j := 19) (n := 160) rfl) (hz_wg wX10_closesNots_0 (j := 20) (n := 0) rfl) (hz_wg wX10_closesNots_0 (j := 21) (n := 21) rfl) (by decide)
theorem dX10_closesNots_22 : decode cX10_closesNots 22 = .ok (.aload_n 0, 1) := dq_42 (hz_wg wX10_closesNots_0 (j := 22) (n := 42) rfl)
theorem dX10_closesNots_23 : decode cX10_closesNots 23 = .ok (.iconst 2, 1) := dq_5 (hz_wg wX10_closesNots_0 (j := 23) (n := 5) rfl)
theorem dX10_closesNots_24 : decode cX10_closesNots 24 = .ok (.invokevirtual 284, 3) := dq_182 (hz_wg wX10_closesNots_0 (j := 24) (n := 182) rfl) (hz_wg wX10_closesNots_0 (j := 25) (n := 1) rfl) (hz_wg wX10_closesNots_0 (j := 26) (n := 28) rfl) rfl
theorem dX10_closesNots_27 : decode cX10_closesNots 27 = .ok (.aload_n 0, 1) := dq_42 (hz_wg wX10_closesNots_0 (j := 27) (n := 42) rfl)
theorem dX10_closesNots_28 : decode cX10_closesNots 28 = .ok (.dup, 1) := dq_89 (hz_wg wX10_closesNots_0 (j := 28) (n := 89) rfl)
theorem dX10_closesNots_29 : decode cX10_closesNots 29 = .ok (.getfield 265, 3) := dq_180 (hz_wg wX10_closesNots_0 (j := 29) (n := 180) rfl) (hz_wg wX10_closesNots_0 (j := 30) (n := 1) rfl) (hz_wg wX10_closesNots_0 (j := 31) (n := 9) rfl) rfl
theorem dX10_closesNots_32 : decode cX10_closesNots 32 = .ok (.iconst 1, 1) := dq_4 (hz_wg wX10_closesNots_0 (j := 32) (n := 4) rfl)
theorem dX10_closesNots_33 : decode cX10_closesNots 33 = .ok (.isub, 1) := dq_100 (hz_wg wX10_closesNots_0 (j := 33) (n := 100) rfl)
theorem dX10_closesNots_34 : decode cX10_closesNots 34 = .ok (.putfield 265, 3) := dq_181 (hz_wg wX10_closesNots_0 (j := 34) (n := 181) rfl) (hz_wg wX10_closesNots_0 (j := 35) (n := 1) rfl) (hz_wg wX10_closesNots_0 (j := 36) (n := 9) rfl) rfl
theorem dX10_closesNots_37 : decode cX10_closesNots 37 = .ok (.goto (-37), 3) := dq_167 (hz_wg wX10_closesNots_0 (j := 37) (n := 167) rfl) (hz_wg wX10_closesNots_0 (j := 38) (n := 255) rfl) (hz_wg wX10_closesNots_0 (j := 39) (n := 219) rfl) (by decide)
theorem dX10_closesNots_40 : decode cX10_closesNots 40 = .ok (.return_, 1) := dq_177 (hz_wg wX10_closesNots_0 (j := 40) (n := 177) rfl)
set_option maxHeartbeats 4000000 in
set_option maxRecDepth 100000 in
theorem t_X10_closesNots (l : Launch) (dC : Nat → ClassId) (dI : Nat → Nat → Nat) (dA : Nat → ClassId) (L : List Nat) (h : hx_h) (sz : Nat) (x : Nat) (hT : hx_T T_tb L h) (gx : hx_g L h x 10) (qs : Nat) (gqs : hx_g L h qs 55) (f_x_15 : h.2.2 x 15 = some qs) (qo : Nat) (gqo : hx_g L h qo 56) (f_x_17 : h.2.2 x 17 = some qo) (sf : Nat → Int32) (af_qs : h.2.1 qs = sf) (of : Nat → Int32) (af_qo : h.2.1 qo = of) (cp0 : Int32) (f_x_16 : h.2.1 x 16 = cp0) (nx0 : Int32) (f_x_8 : h.2.1 x 8 = nx0) (st0 : Int32) (f_x_14 : h.2.1 x 14 = st0) (op0 : Int32) (f_x_18 : h.2.1 x 18 = op0) (hQ : hx_QQ 1 cp0.toInt nx0.toInt st0.toInt op0.toInt sf of) : Met l yX10_closesNots (Cond.code yX10_closesNots cX10_closesNots 1 none :: hx_all) ({ frames := 1, cells := 0, slots := 0, locals := 21 }) (va_Pc [.ref x] (hx_B T_tb (P_ty dA) (dC, dI) vwCl L h sz)) (va_Qv (fun (u : List Nat × hx_h) => (∃ (st1 : Int32) (op1 : Int32) (sf1 : Nat → Int32), u.2.2.1 x 14 = st1 ∧ u.2.2.1 x 18 = op1 ∧ u.2.2.1 qs = sf1 ∧ (hx_QQ 1 cp0.toInt nx0.toInt st1.toInt op1.toInt sf1 of)) ∧ hx_T T_tb u.1 u.2 ∧ hx_S T_tb [(10, 14), (10, 18), (55, 0)] L h u.1 u.2) (hx_E T_tb (P_ty dA) (dC, dI) vwCl (hx_A L sz)) (hx_A L sz)) 0 0 (hx_A L sz) := by
  refine hx_met (lv := [(0, .ref x)]) (by decide +kernel) rfl (Nat.le_of_ble_eq_true rfl) rfl ?_
  intro p e s m below meth c hx hb hml hr hlk hts0 hown hin hsz hW ls hl
  have hts : ∀ w ∈ hx_all, w.before _ s = true := fun w hw => hts0 w (List.mem_cons_of_mem _ hw)
  have hown : s.vm.findClass "SmallCourtModel" = some m.cls := hown
  have hM : hx_S T_tb [(10, 14), (10, 18), (55, 0)] L h L h := hx_S.rf
  have b_cp0 := hT.gi gx tt_10 (k := 16) rfl
  rw [f_x_16] at b_cp0
  have b_cp0 : 0 ≤ cp0.toInt ∧ cp0.toInt ≤ 20 := b_cp0
  have b_nx0 := hT.gi gx tt_10 (k := 8) rfl
  rw [f_x_8] at b_nx0
  have b_nx0 : 0 ≤ nx0.toInt ∧ nx0.toInt ≤ 402 := b_nx0
  have b_st0 := hT.gi gx tt_10 (k := 14) rfl
  rw [f_x_14] at b_st0
  have b_st0 : 0 ≤ st0.toInt ∧ st0.toInt ≤ 128 := b_st0
  have b_op0 := hT.gi gx tt_10 (k := 18) rfl
  rw [f_x_18] at b_op0
  have b_op0 : 0 ≤ op0.toInt ∧ op0.toInt ≤ 128 := b_op0
  have loop0 : ∀ (n0 : Nat) (fw0_x_14 fw0_x_18 : Int32) (ia0_qs : Nat → Int32) (H : Heap) (locs : List Loc) (hL1 : List Nat) (hl1 : hx_h), 0 ≤ fw0_x_14.toInt → fw0_x_14.toInt ≤ 128 → 0 ≤ fw0_x_18.toInt → fw0_x_18.toInt ≤ 128 → (hx_QQ 1 cp0.toInt nx0.toInt fw0_x_14.toInt fw0_x_18.toInt ia0_qs of) → ∀ (ls : Array Slot), fw0_x_18.toInt < (n0 : Int) → hx_W T_tb (P_ty dA) (dC, dI) vwCl (hx_A L sz) s.heap hL1 hl1 s H locs → hx_T T_tb hL1 hl1 → hx_S T_tb [(10, 14), (10, 18), (55, 0)] L h hL1 hl1 → hl1.2.1 x 14 = fw0_x_14 → hl1.2.1 x 18 = fw0_x_18 → hl1.2.1 qs = ia0_qs → lv_has ls 1 [(0, .ref x)] → W p l e ({ frames := 1, cells := 0, slots := 0, locals := 21 }) s m ([.ref x] : List Value).toArray below meth c H locs 0 0 (MQ below (va_Qv (fun (u : List Nat × hx_h) => (∃ (st1 : Int32) (op1 : Int32) (sf1 : Nat → Int32), u.2.2.1 x 14 = st1 ∧ u.2.2.1 x 18 = op1 ∧ u.2.2.1 qs = sf1 ∧ (hx_QQ 1 cp0.toInt nx0.toInt st1.toInt op1.toInt sf1 of)) ∧ hx_T T_tb u.1 u.2 ∧ hx_S T_tb [(10, 14), (10, 18), (55, 0)] L h u.1 u.2) (hx_E T_tb (P_ty dA) (dC, dI) vwCl (hx_A L sz)) (hx_A L sz)) ([.ref x] : List Value).toArray s 0 0 (hx_A L sz)) (F0 m 0 ls []) := by
    intro n0
    induction n0 with
    | zero => intro fw0_x_14 fw0_x_18 ia0_qs H locs hL1 hl1 blfw0_x_14 bufw0_x_14 blfw0_x_18 bufw0_x_18 vi0_0 ls hn0; exfalso; omega
    | succ n0 ih0 =>
      intro fw0_x_14 fw0_x_18 ia0_qs H locs hL1 hl1 blfw0_x_14 bufw0_x_14 blfw0_x_18 bufw0_x_18 vi0_0 ls hn0 hW hT hM ffw0_x_14 ffw0_x_18 nia0_qs hl
      refine lv_aload_n hx hb dX10_closesNots_0 rfl (lv_at hl 0 rfl) ?_
      refine hk_geti hx hb hts hC_10 hown hW (gx.S hM) tt_10 18 (by decide) rfl kw_1161 ⟨rfl, rfl, rfl⟩ ffw0_x_18 dX10_closesNots_1 ?_
      refine hb_if_le (zx := fw0_x_18.toInt) (tgt := 40) hx hb rfl dX10_closesNots_4 (by decide) (fun c_1 => ?_) (fun c_1 => ?_)
      · skip
        exact hx_retv hx hb hr hlk hW ⟨⟨fw0_x_14, fw0_x_18, ia0_qs, ffw0_x_14, ffw0_x_18, nia0_qs, vi0_0⟩, hT, hM⟩ dX10_closesNots_40
      · skip
        refine lv_aload_n hx hb dX10_closesNots_7 rfl (lv_at hl 0 rfl) ?_
        refine hk_getr hx hb hts hC_10 hown hW (gx.S hM) tt_10 17 (by decide) rfl kw_1160 ⟨rfl, rfl, rfl⟩ ((hM.o gx trivial rfl).2.trans f_x_17) dX10_closesNots_8 ?_
        refine lv_aload_n hx hb dX10_closesNots_11 rfl (lv_at hl 0 rfl) ?_
        refine hk_geti hx hb hts hC_10 hown hW (gx.S hM) tt_10 18 (by decide) rfl kw_1161 ⟨rfl, rfl, rfl⟩ ffw0_x_18 dX10_closesNots_12 ?_
        refine lv_iconst (v := 1) hx hb dX10_closesNots_15 (by decide) ?_
        refine lv_isub hx hb dX10_closesNots_16 ?_
        have rg_2 := i32_r fw0_x_18
        refine lv_topi (fun x_3 ex_3 => ?_)
        have zx_3 : x_3.toInt = fw0_x_18.toInt - 1 := by rw [ex_3]; exact i32_sub rfl (by decide) (by omega) (by omega)
        refine hx_iald hx hb hW hT (gqo.S hM) tt_56 rfl ⟨by omega, by omega⟩ dX10_closesNots_17 (fun x_4 ex_4 lx_4 ux_4 => ?_)
        have ax_4 : x_4 = of x_3.toNatClampNeg := ex_4.trans (congrFun (hx_afS hM gqo rfl af_qo) _)
        refine lv_iconst (v := 2) hx hb dX10_closesNots_18 (by decide) ?_
        refine hb_icmp_ne (zx := x_4.toInt) (zy := 2) (tgt := 40) hx hb rfl (by decide) dX10_closesNots_19 (by decide) (fun c_5 => ?_) (fun c_5 => ?_)
        · skip
          exact hx_retv hx hb hr hlk hW ⟨⟨fw0_x_14, fw0_x_18, ia0_qs, ffw0_x_14, ffw0_x_18, nia0_qs, vi0_0⟩, hT, hM⟩ dX10_closesNots_40
        · skip
          have hroom := hx_QQ_poproom vi0_0 (by omega) ax_4 (by omega) (by omega)
          refine lv_aload_n hx hb dX10_closesNots_22 rfl (lv_at hl 0 rfl) ?_
          refine lv_iconst (v := 2) hx hb dX10_closesNots_23 (by decide) ?_
          have zc_2 : (2 : Int32).toInt = 2 := by decide
          refine hx_gov (hx_runV (As := [.int (2 : Int32)]) (rest := []) ⟨hx, hb, hml, hown, hts⟩ hW (gx.S hM) tt_10 (T := TX10) (N := 98) rfl (t_X10_writes l dC dI dA hL1 hl1 H.size x (2 : Int32) hT (gx.S hM) qs (gqs.S hM) ((hM.o gx trivial rfl).2.trans f_x_15) ia0_qs nia0_qs fw0_x_14 ffw0_x_14 (by omega)) (cwV 1 hts (hx_gV kw_1138 kw_1135 kw_1137 kw_50 kw_103) rfl rfl rfl (by decide +kernel) ⟨Nat.le_of_ble_eq_true rfl, Nat.le_of_ble_eq_true rfl⟩) rfl hl.1 rfl (Nat.le_of_ble_eq_true rfl) dX10_closesNots_24 ⟨Nat.le_of_ble_eq_true rfl, Nat.le_of_ble_eq_true rfl⟩) hW (fun L_6 h_7 H locs p_9 hW => ?_)
          obtain ⟨⟨w_11, w_12, fw_11, fw_12, hr_10⟩, hT, hs⟩ := p_9
          replace hT : hx_T T_tb L_6 h_7 := hT
          replace hs : hx_S T_tb [(10, 14), (55, 0)] hL1 hl1 L_6 h_7 := hs
          replace ffw0_x_18 := (hs.o (gx.S hM) trivial rfl).1.trans ffw0_x_18
          replace ex_4 := ex_4.trans (hs.a (gqo.S hM) rfl _).1.symm
          replace hM := hM.tr (hs.mono (by decide))
          have fw_11 : h_7.2.1 x 14 = w_11 := fw_11
          have bw_11 := hT.gi (gx.S hM) tt_10 (k := 14) rfl
          rw [fw_11] at bw_11
          have bw_11 : 0 ≤ w_11.toInt ∧ w_11.toInt ≤ 128 := bw_11
          have fw_12 : h_7.2.1 qs = w_12 := fw_12
          refine lv_aload_n hx hb dX10_closesNots_27 rfl (lv_at hl 0 rfl) ?_
          refine lv_dup hx hb dX10_closesNots_28 rfl ?_
          refine hk_geti hx hb hts hC_10 hown hW (gx.S hM) tt_10 18 (by decide) rfl kw_1161 ⟨rfl, rfl, rfl⟩ ffw0_x_18 dX10_closesNots_29 ?_
          refine lv_iconst (v := 1) hx hb dX10_closesNots_32 (by decide) ?_
          refine lv_isub hx hb dX10_closesNots_33 ?_
          refine lv_topi (fun x_13 ex_13 => ?_)
          have zx_13 : x_13.toInt = fw0_x_18.toInt - 1 := by rw [ex_13]; exact i32_sub rfl (by decide) (by omega) (by omega)
          refine hx_puti hx hb hts hC_10 hown hW hT (hx_S.rf (M := [(10, 18)])) (gx.S hM) tt_10 18 (by decide) rfl kw_1161 ⟨rfl, rfl, rfl⟩ rfl (x := x_13) ⟨by omega, by omega⟩ rfl rfl rfl (List.mem_singleton.mpr rfl) dX10_closesNots_34 (fun H locs h_14 eh_14 hW hT hs => ?_)
          replace fw_11 := (hs.o (gx.S hM) trivial rfl).1.trans fw_11
          replace fw_12 : h_14.2.1 qs = w_12 := (funext fun j => (hs.a (gqs.S hM) rfl j).1).trans fw_12
          replace ex_4 := ex_4.trans (hs.a (gqo.S hM) rfl _).1.symm
          replace hM := hM.tr (hs.mono (by decide))
          have f_15 : h_14.2.1 x 18 = x_13 := by rw [eh_14]; exact hx_pi_at _ _ _ _
          refine lv_goto (tgt := 0) hx hb dX10_closesNots_37 (by decide) ?_
          exact ih0 w_11 x_13 w_12 _ _ L_6 h_14 (by omega) (by omega) (by omega) (by omega) (hx_QQ_pop vi0_0 (by omega) ax_4 (by omega) (by omega) (by omega) (hx_cl (by omega)) hr_10.1 (by omega) hr_10.2) ls (by omega) hW hT hM fw_11 f_15 fw_12 (lv_sub hl [0] rfl)
  exact loop0 129 st0 op0 sf _ _ L h (by omega) (by omega) (by omega) (by omega) hQ ls (by omega) hW hT hM f_x_14 f_x_18 af_qs hl

def wLX10_closesDown_0 : List Nat := [42, 180, 1, 9, 158, 0, 62, 42, 180, 0, 32, 42, 180, 1, 9, 4, 100, 46, 16, 100, 159, 0, 46, 42, 180, 0, 32, 42, 180, 1, 9, 4, 100, 46, 27, 161, 0, 31, 42, 42, 180, 0, 32, 42, 180, 1, 9, 4, 100, 46, 182, 1, 28, 42, 89, 180, 1, 9, 4, 100, 181, 1, 9, 167]
def wLX10_closesDown_1 : List Nat := [255, 193, 177]
theorem wX10_closesDown_0 : (cX10_closesDown.data.toList.map UInt8.toNat).drop 0 = wLX10_closesDown_0 ++ (wLX10_closesDown_1 ++ ([])) := by decide +kernel
theorem wX10_closesDown_1 : (cX10_closesDown.data.toList.map UInt8.toNat).drop 64 = wLX10_closesDown_1 ++ ([]) := hz_wn wX10_closesDown_0 rfl
theorem dX10_closesDown_0 : decode cX10_closesDown 0 = .ok (.aload_n 0, 1) := dq_42 (hz_wg wX10_closesDown_0 (j := 0) (n := 42) rfl)
theorem dX10_closesDown_1 : decode cX10_closesDown 1 = .ok (.getfield 265, 3) := dq_180 (hz_wg wX10_closesDown_0 (j := 1) (n := 180) rfl) (hz_wg wX10_closesDown_0 (j := 2) (n := 1) rfl) (hz_wg wX10_closesDown_0 (j := 3) (n := 9) rfl) rfl
theorem dX10_closesDown_4 : decode cX10_closesDown 4 = .ok (.ifCond .le 62, 3) := dq_158 (hz_wg wX10_closesDown_0 (j := 4) (n := 158) rfl) (hz_wg wX10_closesDown_0 (j := 5) (n := 0) rfl) (hz_wg wX10_closesDown_0 (j := 6) (n := 62) rfl) (by decide)
theorem dX10_closesDown_7 : decode cX10_closesDown 7 = .ok (.aload_n 0, 1) := dq_42 (hz_wg wX10_closesDown_0 (j := 7) (n := 42) rfl)
theorem dX10_closesDown_8 : decode cX10_closesDown 8 = .ok (.getfield 32, 3) := dq_180 (hz_wg wX10_closesDown_0 (j := 8) (n := 180) rfl) (hz_wg wX10_closesDown_0 (j := 9) (n := 0) rfl) (hz_wg wX10_closesDown_0 (j := 10) (n := 32) rfl) rfl
theorem dX10_closesDown_11 : decode cX10_closesDown 11 = .ok (.aload_n 0, 1) := dq_42 (hz_wg wX10_closesDown_0 (j := 11) (n := 42) rfl)
theorem dX10_closesDown_12 : decode cX10_closesDown 12 = .ok (.getfield 265, 3) := dq_180 (hz_wg wX10_closesDown_0 (j := 12) (n := 180) rfl) (hz_wg wX10_closesDown_0 (j := 13) (n := 1) rfl) (hz_wg wX10_closesDown_0 (j := 14) (n := 9) rfl) rfl
theorem dX10_closesDown_15 : decode cX10_closesDown 15 = .ok (.iconst 1, 1) := dq_4 (hz_wg wX10_closesDown_0 (j := 15) (n := 4) rfl)
theorem dX10_closesDown_16 : decode cX10_closesDown 16 = .ok (.isub, 1) := dq_100 (hz_wg wX10_closesDown_0 (j := 16) (n := 100) rfl)
theorem dX10_closesDown_17 : decode cX10_closesDown 17 = .ok (.iaload, 1) := dq_46 (hz_wg wX10_closesDown_0 (j := 17) (n := 46) rfl)
theorem dX10_closesDown_18 : decode cX10_closesDown 18 = .ok (.bipush 100, 2) := dq_16 (hz_wg wX10_closesDown_0 (j := 18) (n := 16) rfl) (hz_wg wX10_closesDown_0 (j := 19) (n := 100) rfl) (by decide)
theorem dX10_closesDown_20 : decode cX10_closesDown 20 = .ok (.if_icmp .eq 46, 3) := dq_159 (hz_wg wX10_closesDown_0 (j := 20) (n := 159) rfl) (hz_wg wX10_closesDown_0 (j := 21) (n := 0) rfl) (hz_wg wX10_closesDown_0 (j := 22) (n := 46) rfl) (by decide)
theorem dX10_closesDown_23 : decode cX10_closesDown 23 = .ok (.aload_n 0, 1) := dq_42 (hz_wg wX10_closesDown_0 (j := 23) (n := 42) rfl)
theorem dX10_closesDown_24 : decode cX10_closesDown 24 = .ok (.getfield 32, 3) := dq_180 (hz_wg wX10_closesDown_0 (j := 24) (n := 180) rfl) (hz_wg wX10_closesDown_0 (j := 25) (n := 0) rfl) (hz_wg wX10_closesDown_0 (j := 26) (n := 32) rfl) rfl
theorem dX10_closesDown_27 : decode cX10_closesDown 27 = .ok (.aload_n 0, 1) := dq_42 (hz_wg wX10_closesDown_0 (j := 27) (n := 42) rfl)
theorem dX10_closesDown_28 : decode cX10_closesDown 28 = .ok (.getfield 265, 3) := dq_180 (hz_wg wX10_closesDown_0 (j := 28) (n := 180) rfl) (hz_wg wX10_closesDown_0 (j := 29) (n := 1) rfl) (hz_wg wX10_closesDown_0 (j := 30) (n := 9) rfl) rfl
theorem dX10_closesDown_31 : decode cX10_closesDown 31 = .ok (.iconst 1, 1) := dq_4 (hz_wg wX10_closesDown_0 (j := 31) (n := 4) rfl)
theorem dX10_closesDown_32 : decode cX10_closesDown 32 = .ok (.isub, 1) := dq_100 (hz_wg wX10_closesDown_0 (j := 32) (n := 100) rfl)
theorem dX10_closesDown_33 : decode cX10_closesDown 33 = .ok (.iaload, 1) := dq_46 (hz_wg wX10_closesDown_0 (j := 33) (n := 46) rfl)
theorem dX10_closesDown_34 : decode cX10_closesDown 34 = .ok (.iload_n 1, 1) := dq_27 (hz_wg wX10_closesDown_0 (j := 34) (n := 27) rfl)
theorem dX10_closesDown_35 : decode cX10_closesDown 35 = .ok (.if_icmp .lt 31, 3) := dq_161 (hz_wg wX10_closesDown_0 (j := 35) (n := 161) rfl) (hz_wg wX10_closesDown_0 (j := 36) (n := 0) rfl) (hz_wg wX10_closesDown_0 (j := 37) (n := 31) rfl) (by decide)
theorem dX10_closesDown_38 : decode cX10_closesDown 38 = .ok (.aload_n 0, 1) := dq_42 (hz_wg wX10_closesDown_0 (j := 38) (n := 42) rfl)
theorem dX10_closesDown_39 : decode cX10_closesDown 39 = .ok (.aload_n 0, 1) := dq_42 (hz_wg wX10_closesDown_0 (j := 39) (n := 42) rfl)
theorem dX10_closesDown_40 : decode cX10_closesDown 40 = .ok (.getfield 32, 3) := dq_180 (hz_wg wX10_closesDown_0 (j := 40) (n := 180) rfl) (hz_wg wX10_closesDown_0 (j := 41) (n := 0) rfl) (hz_wg wX10_closesDown_0 (j := 42) (n := 32) rfl) rfl
theorem dX10_closesDown_43 : decode cX10_closesDown 43 = .ok (.aload_n 0, 1) := dq_42 (hz_wg wX10_closesDown_0 (j := 43) (n := 42) rfl)
theorem dX10_closesDown_44 : decode cX10_closesDown 44 = .ok (.getfield 265, 3) := dq_180 (hz_wg wX10_closesDown_0 (j := 44) (n := 180) rfl) (hz_wg wX10_closesDown_0 (j := 45) (n := 1) rfl) (hz_wg wX10_closesDown_0 (j := 46) (n := 9) rfl) rfl
theorem dX10_closesDown_47 : decode cX10_closesDown 47 = .ok (.iconst 1, 1) := dq_4 (hz_wg wX10_closesDown_0 (j := 47) (n := 4) rfl)
theorem dX10_closesDown_48 : decode cX10_closesDown 48 = .ok (.isub, 1) := dq_100 (hz_wg wX10_closesDown_0 (j := 48) (n := 100) rfl)
theorem dX10_closesDown_49 : decode cX10_closesDown 49 = .ok (.iaload, 1) := dq_46 (hz_wg wX10_closesDown_0 (j := 49) (n := 46) rfl)
theorem dX10_closesDown_50 : decode cX10_closesDown 50 = .ok (.invokevirtual 284, 3) := dq_182 (hz_wg wX10_closesDown_0 (j := 50) (n := 182) rfl) (hz_wg wX10_closesDown_0 (j := 51) (n := 1) rfl) (hz_wg wX10_closesDown_0 (j := 52) (n := 28) rfl) rfl
theorem dX10_closesDown_53 : decode cX10_closesDown 53 = .ok (.aload_n 0, 1) := dq_42 (hz_wg wX10_closesDown_0 (j := 53) (n := 42) rfl)
theorem dX10_closesDown_54 : decode cX10_closesDown 54 = .ok (.dup, 1) := dq_89 (hz_wg wX10_closesDown_0 (j := 54) (n := 89) rfl)
theorem dX10_closesDown_55 : decode cX10_closesDown 55 = .ok (.getfield 265, 3) := dq_180 (hz_wg wX10_closesDown_0 (j := 55) (n := 180) rfl) (hz_wg wX10_closesDown_0 (j := 56) (n := 1) rfl) (hz_wg wX10_closesDown_0 (j := 57) (n := 9) rfl) rfl
theorem dX10_closesDown_58 : decode cX10_closesDown 58 = .ok (.iconst 1, 1) := dq_4 (hz_wg wX10_closesDown_0 (j := 58) (n := 4) rfl)
theorem dX10_closesDown_59 : decode cX10_closesDown 59 = .ok (.isub, 1) := dq_100 (hz_wg wX10_closesDown_0 (j := 59) (n := 100) rfl)
theorem dX10_closesDown_60 : decode cX10_closesDown 60 = .ok (.putfield 265, 3) := dq_181 (hz_wg wX10_closesDown_0 (j := 60) (n := 181) rfl) (hz_wg wX10_closesDown_0 (j := 61) (n := 1) rfl) (hz_wg wX10_closesDown_0 (j := 62) (n := 9) rfl) rfl
theorem dX10_closesDown_63 : decode cX10_closesDown 63 = .ok (.goto (-63), 3) := dq_167 (hz_wg wX10_closesDown_0 (j := 63) (n := 167) rfl) (hz_wg wX10_closesDown_1 (j := 0) (n := 255) rfl) (hz_wg wX10_closesDown_1 (j := 1) (n := 193) rfl) (by decide)
theorem dX10_closesDown_66 : decode cX10_closesDown 66 = .ok (.return_, 1) := dq_177 (hz_wg wX10_closesDown_1 (j := 2) (n := 177) rfl)
set_option maxHeartbeats 4000000 in
set_option maxRecDepth 100000 in
theorem t_X10_closesDown (l : Launch) (dC : Nat → ClassId) (dI : Nat → Nat → Nat) (dA : Nat → ClassId) (L : List Nat) (h : hx_h) (sz : Nat) (x : Nat) (i1 : Int32) (hT : hx_T T_tb L h) (gx : hx_g L h x 10) (qs : Nat) (gqs : hx_g L h qs 55) (f_x_15 : h.2.2 x 15 = some qs) (qo : Nat) (gqo : hx_g L h qo 56) (f_x_17 : h.2.2 x 17 = some qo) (sf : Nat → Int32) (af_qs : h.2.1 qs = sf) (of : Nat → Int32) (af_qo : h.2.1 qo = of) (cp0 : Int32) (f_x_16 : h.2.1 x 16 = cp0) (nx0 : Int32) (f_x_8 : h.2.1 x 8 = nx0) (st0 : Int32) (f_x_14 : h.2.1 x 14 = st0) (op0 : Int32) (f_x_18 : h.2.1 x 18 = op0) (hQ : hx_QQ 1 cp0.toInt nx0.toInt st0.toInt op0.toInt sf of) : Met l yX10_closesDown (Cond.code yX10_closesDown cX10_closesDown 2 none :: hx_all) ({ frames := 1, cells := 0, slots := 0, locals := 21 }) (va_Pc [.ref x, .int i1] (hx_B T_tb (P_ty dA) (dC, dI) vwCl L h sz)) (va_Qv (fun (u : List Nat × hx_h) => (∃ (st1 : Int32) (op1 : Int32) (sf1 : Nat → Int32), u.2.2.1 x 14 = st1 ∧ u.2.2.1 x 18 = op1 ∧ u.2.2.1 qs = sf1 ∧ (hx_QQ 1 cp0.toInt nx0.toInt st1.toInt op1.toInt sf1 of ∧ (op1.toInt = 0 ∨ (of (op1.toInt.toNat - 1)).toInt = 100 ∨ (of (op1.toInt.toNat - 1)).toInt < i1.toInt))) ∧ hx_T T_tb u.1 u.2 ∧ hx_S T_tb [(10, 14), (10, 18), (55, 0)] L h u.1 u.2) (hx_E T_tb (P_ty dA) (dC, dI) vwCl (hx_A L sz)) (hx_A L sz)) 0 0 (hx_A L sz) := by
  refine hx_met (lv := [(0, .ref x), (1, .int i1)]) (by decide +kernel) rfl (Nat.le_of_ble_eq_true rfl) rfl ?_
  intro p e s m below meth c hx hb hml hr hlk hts0 hown hin hsz hW ls hl
  have hts : ∀ w ∈ hx_all, w.before _ s = true := fun w hw => hts0 w (List.mem_cons_of_mem _ hw)
  have hown : s.vm.findClass "SmallCourtModel" = some m.cls := hown
  have hM : hx_S T_tb [(10, 14), (10, 18), (55, 0)] L h L h := hx_S.rf
  have b_cp0 := hT.gi gx tt_10 (k := 16) rfl
  rw [f_x_16] at b_cp0
  have b_cp0 : 0 ≤ cp0.toInt ∧ cp0.toInt ≤ 20 := b_cp0
  have b_nx0 := hT.gi gx tt_10 (k := 8) rfl
  rw [f_x_8] at b_nx0
  have b_nx0 : 0 ≤ nx0.toInt ∧ nx0.toInt ≤ 402 := b_nx0
  have b_st0 := hT.gi gx tt_10 (k := 14) rfl
  rw [f_x_14] at b_st0
  have b_st0 : 0 ≤ st0.toInt ∧ st0.toInt ≤ 128 := b_st0
  have b_op0 := hT.gi gx tt_10 (k := 18) rfl
  rw [f_x_18] at b_op0
  have b_op0 : 0 ≤ op0.toInt ∧ op0.toInt ≤ 128 := b_op0
  have loop0 : ∀ (n0 : Nat) (fw0_x_14 fw0_x_18 : Int32) (ia0_qs : Nat → Int32) (H : Heap) (locs : List Loc) (hL1 : List Nat) (hl1 : hx_h), 0 ≤ fw0_x_14.toInt → fw0_x_14.toInt ≤ 128 → 0 ≤ fw0_x_18.toInt → fw0_x_18.toInt ≤ 128 → (hx_QQ 1 cp0.toInt nx0.toInt fw0_x_14.toInt fw0_x_18.toInt ia0_qs of) → ∀ (ls : Array Slot), fw0_x_18.toInt < (n0 : Int) → hx_W T_tb (P_ty dA) (dC, dI) vwCl (hx_A L sz) s.heap hL1 hl1 s H locs → hx_T T_tb hL1 hl1 → hx_S T_tb [(10, 14), (10, 18), (55, 0)] L h hL1 hl1 → hl1.2.1 x 14 = fw0_x_14 → hl1.2.1 x 18 = fw0_x_18 → hl1.2.1 qs = ia0_qs → lv_has ls 2 [(0, .ref x), (1, .int i1)] → W p l e ({ frames := 1, cells := 0, slots := 0, locals := 21 }) s m ([.ref x, .int i1] : List Value).toArray below meth c H locs 0 0 (MQ below (va_Qv (fun (u : List Nat × hx_h) => (∃ (st1 : Int32) (op1 : Int32) (sf1 : Nat → Int32), u.2.2.1 x 14 = st1 ∧ u.2.2.1 x 18 = op1 ∧ u.2.2.1 qs = sf1 ∧ (hx_QQ 1 cp0.toInt nx0.toInt st1.toInt op1.toInt sf1 of ∧ (op1.toInt = 0 ∨ (of (op1.toInt.toNat - 1)).toInt = 100 ∨ (of (op1.toInt.toNat - 1)).toInt < i1.toInt))) ∧ hx_T T_tb u.1 u.2 ∧ hx_S T_tb [(10, 14), (10, 18), (55, 0)] L h u.1 u.2) (hx_E T_tb (P_ty dA) (dC, dI) vwCl (hx_A L sz)) (hx_A L sz)) ([.ref x, .int i1] : List Value).toArray s 0 0 (hx_A L sz)) (F0 m 0 ls []) := by
    intro n0
    induction n0 with
    | zero => intro fw0_x_14 fw0_x_18 ia0_qs H locs hL1 hl1 blfw0_x_14 bufw0_x_14 blfw0_x_18 bufw0_x_18 vi0_0 ls hn0; exfalso; omega
    | succ n0 ih0 =>
      intro fw0_x_14 fw0_x_18 ia0_qs H locs hL1 hl1 blfw0_x_14 bufw0_x_14 blfw0_x_18 bufw0_x_18 vi0_0 ls hn0 hW hT hM ffw0_x_14 ffw0_x_18 nia0_qs hl
      refine lv_aload_n hx hb dX10_closesDown_0 rfl (lv_at hl 0 rfl) ?_
      refine hk_geti hx hb hts hC_10 hown hW (gx.S hM) tt_10 18 (by decide) rfl kw_1161 ⟨rfl, rfl, rfl⟩ ffw0_x_18 dX10_closesDown_1 ?_
      refine hb_if_le (zx := fw0_x_18.toInt) (tgt := 66) hx hb rfl dX10_closesDown_4 (by decide) (fun c_1 => ?_) (fun c_1 => ?_)
      · skip
        have hex : fw0_x_18.toInt = 0 ∨ (of (fw0_x_18.toInt.toNat - 1)).toInt = 100 ∨ (of (fw0_x_18.toInt.toNat - 1)).toInt < i1.toInt := by first | exact Or.inl (by omega)
        exact hx_retv hx hb hr hlk hW ⟨⟨fw0_x_14, fw0_x_18, ia0_qs, ffw0_x_14, ffw0_x_18, nia0_qs, ⟨vi0_0, hex⟩⟩, hT, hM⟩ dX10_closesDown_66
      · skip
        refine lv_aload_n hx hb dX10_closesDown_7 rfl (lv_at hl 0 rfl) ?_
        refine hk_getr hx hb hts hC_10 hown hW (gx.S hM) tt_10 17 (by decide) rfl kw_1160 ⟨rfl, rfl, rfl⟩ ((hM.o gx trivial rfl).2.trans f_x_17) dX10_closesDown_8 ?_
        refine lv_aload_n hx hb dX10_closesDown_11 rfl (lv_at hl 0 rfl) ?_
        refine hk_geti hx hb hts hC_10 hown hW (gx.S hM) tt_10 18 (by decide) rfl kw_1161 ⟨rfl, rfl, rfl⟩ ffw0_x_18 dX10_closesDown_12 ?_
        refine lv_iconst (v := 1) hx hb dX10_closesDown_15 (by decide) ?_
        refine lv_isub hx hb dX10_closesDown_16 ?_
        have rg_2 := i32_r fw0_x_18
        refine lv_topi (fun x_3 ex_3 => ?_)
        have zx_3 : x_3.toInt = fw0_x_18.toInt - 1 := by rw [ex_3]; exact i32_sub rfl (by decide) (by omega) (by omega)
        refine hx_iald hx hb hW hT (gqo.S hM) tt_56 rfl ⟨by omega, by omega⟩ dX10_closesDown_17 (fun x_4 ex_4 lx_4 ux_4 => ?_)
        have ax_4 : x_4 = of x_3.toNatClampNeg := ex_4.trans (congrFun (hx_afS hM gqo rfl af_qo) _)
        refine lv_bipush (v := 100) hx hb dX10_closesDown_18 (by decide) ?_
        refine hb_icmp_eq (zx := x_4.toInt) (zy := 100) (tgt := 66) hx hb rfl (by decide) dX10_closesDown_20 (by decide) (fun c_5 => ?_) (fun c_5 => ?_)
        · skip
          have hex : fw0_x_18.toInt = 0 ∨ (of (fw0_x_18.toInt.toNat - 1)).toInt = 100 ∨ (of (fw0_x_18.toInt.toNat - 1)).toInt < i1.toInt := by first | exact Or.inl (by omega) | exact Or.inr (Or.inl (by rw [← (hx_top vi0_0 (by omega) ax_4 (by omega)).1]; omega)) | exact Or.inr (Or.inr (by rw [← (hx_top vi0_0 (by omega) ax_4 (by omega)).1]; omega))
          exact hx_retv hx hb hr hlk hW ⟨⟨fw0_x_14, fw0_x_18, ia0_qs, ffw0_x_14, ffw0_x_18, nia0_qs, ⟨vi0_0, hex⟩⟩, hT, hM⟩ dX10_closesDown_66
        · skip
          refine lv_aload_n hx hb dX10_closesDown_23 rfl (lv_at hl 0 rfl) ?_
          refine hk_getr hx hb hts hC_10 hown hW (gx.S hM) tt_10 17 (by decide) rfl kw_1160 ⟨rfl, rfl, rfl⟩ ((hM.o gx trivial rfl).2.trans f_x_17) dX10_closesDown_24 ?_
          refine lv_aload_n hx hb dX10_closesDown_27 rfl (lv_at hl 0 rfl) ?_
          refine hk_geti hx hb hts hC_10 hown hW (gx.S hM) tt_10 18 (by decide) rfl kw_1161 ⟨rfl, rfl, rfl⟩ ffw0_x_18 dX10_closesDown_28 ?_
          refine lv_iconst (v := 1) hx hb dX10_closesDown_31 (by decide) ?_
          refine lv_isub hx hb dX10_closesDown_32 ?_
          refine lv_topi (fun x_6 ex_6 => ?_)
          have zx_6 : x_6.toInt = fw0_x_18.toInt - 1 := by rw [ex_6]; exact i32_sub rfl (by decide) (by omega) (by omega)
          obtain rfl : x_3 = x_6 := ex_3.trans ex_6.symm
          refine hx_iald hx hb hW hT (gqo.S hM) tt_56 rfl ⟨by omega, by omega⟩ dX10_closesDown_33 (fun x_7 ex_7 lx_7 ux_7 => ?_)
          have ax_7 : x_7 = of x_3.toNatClampNeg := ex_7.trans (congrFun (hx_afS hM gqo rfl af_qo) _)
          obtain rfl : x_4 = x_7 := ex_4.trans ex_7.symm
          refine lv_iload_n hx hb dX10_closesDown_34 rfl (lv_at hl 1 rfl) ?_
          refine hb_icmp_lt (zx := x_4.toInt) (zy := i1.toInt) (tgt := 66) hx hb rfl rfl dX10_closesDown_35 (by decide) (fun c_8 => ?_) (fun c_8 => ?_)
          · skip
            have hex : fw0_x_18.toInt = 0 ∨ (of (fw0_x_18.toInt.toNat - 1)).toInt = 100 ∨ (of (fw0_x_18.toInt.toNat - 1)).toInt < i1.toInt := by first | exact Or.inl (by omega) | exact Or.inr (Or.inl (by rw [← (hx_top vi0_0 (by omega) ax_4 (by omega)).1]; omega)) | exact Or.inr (Or.inr (by rw [← (hx_top vi0_0 (by omega) ax_4 (by omega)).1]; omega))
            exact hx_retv hx hb hr hlk hW ⟨⟨fw0_x_14, fw0_x_18, ia0_qs, ffw0_x_14, ffw0_x_18, nia0_qs, ⟨vi0_0, hex⟩⟩, hT, hM⟩ dX10_closesDown_66
          · skip
            have hroom := hx_QQ_poproom vi0_0 (by omega) ax_4 (by omega) (by omega)
            refine lv_aload_n hx hb dX10_closesDown_38 rfl (lv_at hl 0 rfl) ?_
            refine lv_aload_n hx hb dX10_closesDown_39 rfl (lv_at hl 0 rfl) ?_
            refine hk_getr hx hb hts hC_10 hown hW (gx.S hM) tt_10 17 (by decide) rfl kw_1160 ⟨rfl, rfl, rfl⟩ ((hM.o gx trivial rfl).2.trans f_x_17) dX10_closesDown_40 ?_
            refine lv_aload_n hx hb dX10_closesDown_43 rfl (lv_at hl 0 rfl) ?_
            refine hk_geti hx hb hts hC_10 hown hW (gx.S hM) tt_10 18 (by decide) rfl kw_1161 ⟨rfl, rfl, rfl⟩ ffw0_x_18 dX10_closesDown_44 ?_
            refine lv_iconst (v := 1) hx hb dX10_closesDown_47 (by decide) ?_
            refine lv_isub hx hb dX10_closesDown_48 ?_
            refine lv_topi (fun x_9 ex_9 => ?_)
            have zx_9 : x_9.toInt = fw0_x_18.toInt - 1 := by rw [ex_9]; exact i32_sub rfl (by decide) (by omega) (by omega)
            obtain rfl : x_3 = x_9 := ex_3.trans ex_9.symm
            refine hx_iald hx hb hW hT (gqo.S hM) tt_56 rfl ⟨by omega, by omega⟩ dX10_closesDown_49 (fun x_10 ex_10 lx_10 ux_10 => ?_)
            have ax_10 : x_10 = of x_3.toNatClampNeg := ex_10.trans (congrFun (hx_afS hM gqo rfl af_qo) _)
            obtain rfl : x_4 = x_10 := ex_4.trans ex_10.symm
            refine hx_gov (hx_runV (As := [.int x_4]) (rest := []) ⟨hx, hb, hml, hown, hts⟩ hW (gx.S hM) tt_10 (T := TX10) (N := 98) rfl (t_X10_writes l dC dI dA hL1 hl1 H.size x x_4 hT (gx.S hM) qs (gqs.S hM) ((hM.o gx trivial rfl).2.trans f_x_15) ia0_qs nia0_qs fw0_x_14 ffw0_x_14 (by omega)) (cwV 1 hts (hx_gV kw_1138 kw_1135 kw_1137 kw_50 kw_103) rfl rfl rfl (by decide +kernel) ⟨Nat.le_of_ble_eq_true rfl, Nat.le_of_ble_eq_true rfl⟩) rfl hl.1 rfl (Nat.le_of_ble_eq_true rfl) dX10_closesDown_50 ⟨Nat.le_of_ble_eq_true rfl, Nat.le_of_ble_eq_true rfl⟩) hW (fun L_11 h_12 H locs p_14 hW => ?_)
            obtain ⟨⟨w_16, w_17, fw_16, fw_17, hr_15⟩, hT, hs⟩ := p_14
            replace hT : hx_T T_tb L_11 h_12 := hT
            replace hs : hx_S T_tb [(10, 14), (55, 0)] hL1 hl1 L_11 h_12 := hs
            replace ffw0_x_18 := (hs.o (gx.S hM) trivial rfl).1.trans ffw0_x_18
            replace ex_4 := ex_4.trans (hs.a (gqo.S hM) rfl _).1.symm
            replace hM := hM.tr (hs.mono (by decide))
            have fw_16 : h_12.2.1 x 14 = w_16 := fw_16
            have bw_16 := hT.gi (gx.S hM) tt_10 (k := 14) rfl
            rw [fw_16] at bw_16
            have bw_16 : 0 ≤ w_16.toInt ∧ w_16.toInt ≤ 128 := bw_16
            have fw_17 : h_12.2.1 qs = w_17 := fw_17
            refine lv_aload_n hx hb dX10_closesDown_53 rfl (lv_at hl 0 rfl) ?_
            refine lv_dup hx hb dX10_closesDown_54 rfl ?_
            refine hk_geti hx hb hts hC_10 hown hW (gx.S hM) tt_10 18 (by decide) rfl kw_1161 ⟨rfl, rfl, rfl⟩ ffw0_x_18 dX10_closesDown_55 ?_
            refine lv_iconst (v := 1) hx hb dX10_closesDown_58 (by decide) ?_
            refine lv_isub hx hb dX10_closesDown_59 ?_
            refine lv_topi (fun x_18 ex_18 => ?_)
            have zx_18 : x_18.toInt = fw0_x_18.toInt - 1 := by rw [ex_18]; exact i32_sub rfl (by decide) (by omega) (by omega)
            obtain rfl : x_3 = x_18 := ex_3.trans ex_18.symm
            refine hx_puti hx hb hts hC_10 hown hW hT (hx_S.rf (M := [(10, 18)])) (gx.S hM) tt_10 18 (by decide) rfl kw_1161 ⟨rfl, rfl, rfl⟩ rfl (x := x_3) ⟨by omega, by omega⟩ rfl rfl rfl (List.mem_singleton.mpr rfl) dX10_closesDown_60 (fun H locs h_19 eh_19 hW hT hs => ?_)
            replace fw_16 := (hs.o (gx.S hM) trivial rfl).1.trans fw_16
            replace fw_17 : h_19.2.1 qs = w_17 := (funext fun j => (hs.a (gqs.S hM) rfl j).1).trans fw_17
            replace ex_4 := ex_4.trans (hs.a (gqo.S hM) rfl _).1.symm
            replace hM := hM.tr (hs.mono (by decide))
            have f_20 : h_19.2.1 x 18 = x_3 := by rw [eh_19]; exact hx_pi_at _ _ _ _
            refine lv_goto (tgt := 0) hx hb dX10_closesDown_63 (by decide) ?_
            exact ih0 w_16 x_3 w_17 _ _ L_11 h_19 (by omega) (by omega) (by omega) (by omega) (hx_QQ_pop vi0_0 (by omega) ax_4 (by omega) (by omega) (by omega) (hx_cl (by omega)) hr_15.1 (by omega) hr_15.2) ls (by omega) hW hT hM fw_16 f_20 fw_17 (lv_sub hl [0, 1] rfl)
  exact loop0 129 st0 op0 sf _ _ L h (by omega) (by omega) (by omega) (by omega) hQ ls (by omega) hW hT hM f_x_14 f_x_18 af_qs hl


set_option maxHeartbeats 4000000 in
set_option maxRecDepth 100000 in
theorem t_X10_deep_2 (l : Launch) (dC : Nat → ClassId) (dI : Nat → Nat → Nat) (dA : Nat → ClassId) (L : List Nat) (h : hx_h) (sz : Nat) (x : Nat) (hT : hx_T T_tb L h) (gx : hx_g L h x 10) (qo : Nat) (gqo : hx_g L h qo 56) (f_x_17 : h.2.2 x 17 = some qo) (of : Nat → Int32) (af_qo : h.2.1 qo = of) (op0 : Int32) (f_x_18 : h.2.1 x 18 = op0) : Met l yX10_deep (Cond.code yX10_deep cX10_deep 3 (some .int) :: hx_all) ({ frames := 0, cells := 0, slots := 0, locals := 0 }) (va_Pc [.ref x] (hx_B T_tb (P_ty dA) (dC, dI) vwCl L h sz)) (va_Qi (fun (r : Int32) (u : List Nat × hx_h) => (r.toInt = (hx_dp of op0.toInt.toNat : Int)) ∧ hx_T T_tb u.1 u.2 ∧ hx_S T_tb [] L h u.1 u.2) (hx_E T_tb (P_ty dA) (dC, dI) vwCl (hx_A L sz)) (hx_A L sz)) 0 0 (hx_A L sz) := by
  refine hx_met (lv := [(0, .ref x)]) (by decide +kernel) rfl (Nat.le_of_ble_eq_true rfl) rfl ?_
  intro p e s m below meth c hx hb hml hr hlk hts0 hown hin hsz hW ls hl
  have hts : ∀ w ∈ hx_all, w.before _ s = true := fun w hw => hts0 w (List.mem_cons_of_mem _ hw)
  have hown : s.vm.findClass "SmallCourtModel" = some m.cls := hown
  have hM : hx_S T_tb [] L h L h := hx_S.rf
  have b_op0 := hT.gi gx tt_10 (k := 18) rfl
  rw [f_x_18] at b_op0
  have b_op0 : 0 ≤ op0.toInt ∧ op0.toInt ≤ 128 := b_op0
  refine lv_iconst (v := 0) hx hb dX10_deep_0 (by decide) ?_
  refine lv_istore_n (lv' := [(1, .int (0 : Int32)), (0, .ref x)]) hx hb dX10_deep_1 rfl hl (by decide) rfl (fun ls hl => ?_)
  refine lv_iconst (v := 0) hx hb dX10_deep_2 (by decide) ?_
  refine lv_istore_n (lv' := [(2, .int (0 : Int32)), (1, .int (0 : Int32)), (0, .ref x)]) hx hb dX10_deep_3 rfl hl (by decide) rfl (fun ls hl => ?_)
  have loop4 : ∀ (n4 : Nat) (iv4_1 iv4_2 : Int32) (H : Heap) (locs : List Loc) (hL1 : List Nat) (hl1 : hx_h), 0 ≤ iv4_1.toInt → iv4_1.toInt ≤ 128 → 0 ≤ iv4_2.toInt → iv4_2.toInt ≤ 128 → ((iv4_1.toInt : Int) = (hx_dp of ((iv4_2.toInt : Int)).toNat : Int)) → (iv4_2.toInt ≤ op0.toInt) → (iv4_1.toInt ≤ iv4_2.toInt) → ∀ (ls : Array Slot), 128 - iv4_2.toInt < (n4 : Int) → hx_W T_tb (P_ty dA) (dC, dI) vwCl (hx_A L sz) s.heap hL1 hl1 s H locs → hx_T T_tb hL1 hl1 → hx_S T_tb [] L h hL1 hl1 → lv_has ls 3 [(2, .int iv4_2), (1, .int iv4_1), (0, .ref x)] → W p l e ({ frames := 0, cells := 0, slots := 0, locals := 0 }) s m ([.ref x] : List Value).toArray below meth c H locs 0 0 (MQ below (va_Qi (fun (r : Int32) (u : List Nat × hx_h) => (r.toInt = (hx_dp of op0.toInt.toNat : Int)) ∧ hx_T T_tb u.1 u.2 ∧ hx_S T_tb [] L h u.1 u.2) (hx_E T_tb (P_ty dA) (dC, dI) vwCl (hx_A L sz)) (hx_A L sz)) ([.ref x] : List Value).toArray s 0 0 (hx_A L sz)) (F0 m 4 ls []) := by
    intro n4
    induction n4 with
    | zero => intro iv4_1 iv4_2 H locs hL1 hl1 bliv4_1 buiv4_1 bliv4_2 buiv4_2 vi4_0 vi4_1 vi4_2 ls hn4; exfalso; omega
    | succ n4 ih4 =>
      intro iv4_1 iv4_2 H locs hL1 hl1 bliv4_1 buiv4_1 bliv4_2 buiv4_2 vi4_0 vi4_1 vi4_2 ls hn4 hW hT hM   hl
      refine lv_iload_n hx hb dX10_deep_4 rfl (lv_at hl 0 rfl) ?_
      refine lv_aload_n hx hb dX10_deep_5 rfl (lv_at hl 2 rfl) ?_
      refine hk_geti hx hb hts hC_10 hown hW (gx.S hM) tt_10 18 (by decide) rfl kw_1161 ⟨rfl, rfl, rfl⟩ ((hM.o gx trivial rfl).1.trans f_x_18) dX10_deep_6 ?_
      refine hb_icmp_ge (zx := iv4_2.toInt) (zy := op0.toInt) (tgt := 47) hx hb rfl rfl dX10_deep_9 (by decide) (fun c_1 => ?_) (fun c_1 => ?_)
      · skip
        refine lv_iload_n hx hb dX10_deep_47 rfl (lv_at hl 1 rfl) ?_
        exact hx_reti hx hb hr hlk hW ⟨(by have e0 : iv4_2.toInt = op0.toInt := (by omega); rw [← e0]; exact vi4_0), hT, hM⟩ dX10_deep_48
      · skip
        refine lv_iload_n hx hb dX10_deep_12 rfl (lv_at hl 1 rfl) ?_
        refine lv_aload_n hx hb dX10_deep_13 rfl (lv_at hl 2 rfl) ?_
        refine hk_getr hx hb hts hC_10 hown hW (gx.S hM) tt_10 17 (by decide) rfl kw_1160 ⟨rfl, rfl, rfl⟩ ((hM.o gx trivial rfl).2.trans f_x_17) dX10_deep_14 ?_
        refine lv_iload_n hx hb dX10_deep_17 rfl (lv_at hl 0 rfl) ?_
        refine hx_iald hx hb hW hT (gqo.S hM) tt_56 rfl ⟨by omega, by omega⟩ dX10_deep_18 (fun x_2 ex_2 lx_2 ux_2 => ?_)
        have ax_2 : x_2 = of iv4_2.toNatClampNeg := ex_2.trans (congrFun (hx_afS hM gqo rfl af_qo) _)
        refine lv_iconst (v := 2) hx hb dX10_deep_19 (by decide) ?_
        refine hb_icmp_eq (zx := x_2.toInt) (zy := 2) (tgt := 34) hx hb rfl (by decide) dX10_deep_20 (by decide) (fun c_3 => ?_) (fun c_3 => ?_)
        · skip
          refine lv_iconst (v := 1) hx hb dX10_deep_34 (by decide) ?_
          refine lv_goto (tgt := 39) hx hb dX10_deep_35 (by decide) ?_
          refine lv_iadd hx hb dX10_deep_39 ?_
          have rg_4 := i32_r iv4_1
          refine lv_topi (fun x_5 ex_5 => ?_)
          have zx_5 : x_5.toInt = iv4_1.toInt + 1 := by rw [ex_5]; exact i32_add rfl (by decide) (by omega) (by omega)
          refine lv_istore_n (lv' := [(1, .int x_5), (2, .int iv4_2), (0, .ref x)]) hx hb dX10_deep_40 rfl hl (by decide) rfl (fun ls hl => ?_)
          obtain ⟨x_6, ex_6⟩ : ∃ y : Int32, y = iv4_2 + Int32.ofInt 1 := ⟨_, rfl⟩
          have rg_7 := i32_r iv4_2
          have zx_6 : x_6.toInt = iv4_2.toInt + (1) := by rw [ex_6]; exact i32_add rfl (by decide) (by omega) (by omega)
          refine lv_iinc (v := x_6) (lv' := [(2, .int x_6), (1, .int x_5), (0, .ref x)]) hx hb dX10_deep_41 hl (k := 1) rfl ex_6.symm (by decide) rfl (fun ls hl => ?_)
          refine lv_goto (tgt := 4) hx hb dX10_deep_44 (by decide) ?_
          exact ih4 x_5 x_6 _ _ hL1 hl1 (by omega) (by omega) (by omega) (by omega) (by have q := hx_dp_s (n := iv4_2.toInt) (by omega) ax_2 rfl; rw [zx_6]; first | (rw [if_pos (by omega)] at q; omega) | (rw [if_neg (by omega)] at q; omega)) (by omega) (by omega) ls (by omega) hW hT hM   (lv_sub hl [0, 1, 2] rfl)
        · skip
          refine lv_aload_n hx hb dX10_deep_23 rfl (lv_at hl 2 rfl) ?_
          refine hk_getr hx hb hts hC_10 hown hW (gx.S hM) tt_10 17 (by decide) rfl kw_1160 ⟨rfl, rfl, rfl⟩ ((hM.o gx trivial rfl).2.trans f_x_17) dX10_deep_24 ?_
          refine lv_iload_n hx hb dX10_deep_27 rfl (lv_at hl 0 rfl) ?_
          refine hx_iald hx hb hW hT (gqo.S hM) tt_56 rfl ⟨by omega, by omega⟩ dX10_deep_28 (fun x_8 ex_8 lx_8 ux_8 => ?_)
          have ax_8 : x_8 = of iv4_2.toNatClampNeg := ex_8.trans (congrFun (hx_afS hM gqo rfl af_qo) _)
          obtain rfl : x_2 = x_8 := ex_2.trans ex_8.symm
          refine lv_bipush (v := 100) hx hb dX10_deep_29 (by decide) ?_
          refine hb_icmp_ne (zx := x_2.toInt) (zy := 100) (tgt := 38) hx hb rfl (by decide) dX10_deep_31 (by decide) (fun c_9 => ?_) (fun c_9 => ?_)
          · skip
            refine lv_iconst (v := 0) hx hb dX10_deep_38 (by decide) ?_
            refine lv_iadd hx hb dX10_deep_39 ?_
            have rg_10 := i32_r iv4_1
            refine lv_topi (fun x_11 ex_11 => ?_)
            have zx_11 : x_11.toInt = iv4_1.toInt + 0 := by rw [ex_11]; exact i32_add rfl (by decide) (by omega) (by omega)
            refine lv_istore_n (lv' := [(1, .int x_11), (2, .int iv4_2), (0, .ref x)]) hx hb dX10_deep_40 rfl hl (by decide) rfl (fun ls hl => ?_)
            obtain ⟨x_12, ex_12⟩ : ∃ y : Int32, y = iv4_2 + Int32.ofInt 1 := ⟨_, rfl⟩
            have rg_13 := i32_r iv4_2
            have zx_12 : x_12.toInt = iv4_2.toInt + (1) := by rw [ex_12]; exact i32_add rfl (by decide) (by omega) (by omega)
            refine lv_iinc (v := x_12) (lv' := [(2, .int x_12), (1, .int x_11), (0, .ref x)]) hx hb dX10_deep_41 hl (k := 1) rfl ex_12.symm (by decide) rfl (fun ls hl => ?_)
            refine lv_goto (tgt := 4) hx hb dX10_deep_44 (by decide) ?_
            exact ih4 x_11 x_12 _ _ hL1 hl1 (by omega) (by omega) (by omega) (by omega) (by have q := hx_dp_s (n := iv4_2.toInt) (by omega) ax_2 rfl; rw [zx_12]; first | (rw [if_pos (by omega)] at q; omega) | (rw [if_neg (by omega)] at q; omega)) (by omega) (by omega) ls (by omega) hW hT hM   (lv_sub hl [0, 1, 2] rfl)
          · skip
            refine lv_iconst (v := 1) hx hb dX10_deep_34 (by decide) ?_
            refine lv_goto (tgt := 39) hx hb dX10_deep_35 (by decide) ?_
            refine lv_iadd hx hb dX10_deep_39 ?_
            have rg_14 := i32_r iv4_1
            refine lv_topi (fun x_15 ex_15 => ?_)
            have zx_15 : x_15.toInt = iv4_1.toInt + 1 := by rw [ex_15]; exact i32_add rfl (by decide) (by omega) (by omega)
            refine lv_istore_n (lv' := [(1, .int x_15), (2, .int iv4_2), (0, .ref x)]) hx hb dX10_deep_40 rfl hl (by decide) rfl (fun ls hl => ?_)
            obtain ⟨x_16, ex_16⟩ : ∃ y : Int32, y = iv4_2 + Int32.ofInt 1 := ⟨_, rfl⟩
            have rg_17 := i32_r iv4_2
            have zx_16 : x_16.toInt = iv4_2.toInt + (1) := by rw [ex_16]; exact i32_add rfl (by decide) (by omega) (by omega)
            refine lv_iinc (v := x_16) (lv' := [(2, .int x_16), (1, .int x_15), (0, .ref x)]) hx hb dX10_deep_41 hl (k := 1) rfl ex_16.symm (by decide) rfl (fun ls hl => ?_)
            refine lv_goto (tgt := 4) hx hb dX10_deep_44 (by decide) ?_
            exact ih4 x_15 x_16 _ _ hL1 hl1 (by omega) (by omega) (by omega) (by omega) (by have q := hx_dp_s (n := iv4_2.toInt) (by omega) ax_2 rfl; rw [zx_16]; first | (rw [if_pos (by omega)] at q; omega) | (rw [if_neg (by omega)] at q; omega)) (by omega) (by omega) ls (by omega) hW hT hM   (lv_sub hl [0, 1, 2] rfl)
  have zk_0 : (0 : Int32).toInt = 0 := by decide
  have zk_0 : (0 : Int32).toInt = 0 := by decide
  exact loop4 129 (0 : Int32) (0 : Int32) _ _ L h (by decide) (by decide) (by decide) (by decide) (by simp [hx_dp]) (by omega) (by omega) ls (by omega) hW hT hM   hl
