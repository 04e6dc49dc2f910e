def hv_MO (i1 : Int32) (D fr lo : Nat) : Prop := ∀ (l : Launch) (dC : Nat → ClassId) (dI : Nat → Nat → Nat) (dA : Nat → ClassId) (L : List Nat) (h : hx_h) (sz : Nat) (b0 : hx_z) (x : Nat) (hT : hx_T T_tb L h) (gx : hx_g L h x 6) (qt : Nat) (gqt : hx_g L h qt 42) (f_x_0 : h.2.2 x 0 = some qt) (qi : Nat) (gqi : hx_g L h qi 129) (f_x_6 : h.2.2 x 6 = some qi) (qp : Nat) (gqp : hx_g L h qp 128) (f_qi_3 : h.2.2 qi 3 = some qp) (tf : Nat → Int32) (af_qt : h.2.1 qt = tf) (pf : Nat → Int32) (af_qp : h.2.1 qp = pf) (at0 : Int32) (f_x_2 : h.2.1 x 2 = at0) (ln0 : Int32) (f_x_1 : h.2.1 x 1 = ln0) (ft0 : Int32) (f_x_3 : h.2.1 x 3 = ft0) (tm0 : Int32) (f_x_5 : h.2.1 x 5 = tm0) (pl0 : Int32) (f_qi_4 : h.2.1 qi 4 = pl0) (o : List hv_tok) (hO : hv_ls pf pl0.toInt.toNat = o.map hv_cc) (hF : ft0.toInt = 0) (hB : 3 * pl0.toInt ≤ at0.toInt + tm0.toInt) (hA : at0.toInt ≤ ln0.toInt) (hT0 : 0 ≤ tm0.toInt ∧ tm0.toInt ≤ 20), Met l yX6_readOne (Cond.code yX6_readOne cX6_readOne 3 (some .boolean) :: hx_all) ({ frames := fr, cells := 0, slots := 0, locals := lo }) (va_Pc [.ref x, .int i1] (hx_BX T_tb (P_ty dA) (dC, dI) vwCl L h sz b0)) (va_Qi (fun (r : Int32) (u : List Nat × hx_h) => (∃ (at1 : Int32) (ft1 : Int32) (tm1 : Int32) (pl1 : Int32) (pf1 : Nat → Int32), u.2.2.1 x 2 = at1 ∧ u.2.2.1 x 3 = ft1 ∧ u.2.2.1 x 5 = tm1 ∧ u.2.2.1 qi 4 = pl1 ∧ u.2.2.1 qp = pf1 ∧ (hv_K hv_cc (hv_one tf ln0.toInt.toNat D at0.toInt.toNat tm0.toInt.toNat o) r.toInt ft1.toInt at1.toInt tm1.toInt (hv_ls pf1 pl1.toInt.toNat))) ∧ hx_T T_tb u.1 u.2 ∧ hx_S T_tb [(6, 2), (6, 3), (6, 5), (128, 0), (129, 4)] L h u.1 u.2) (hx_E T_tb (P_ty dA) (dC, dI) vwCl (hx_A L sz)) (hx_A L sz)) 0 0 (hx_A L sz)

def hv_ME (i1 : Int32) (D fr lo : Nat) : Prop := ∀ (l : Launch) (dC : Nat → ClassId) (dI : Nat → Nat → Nat) (dA : Nat → ClassId) (L : List Nat) (h : hx_h) (sz : Nat) (b0 : hx_z) (x : Nat) (hT : hx_T T_tb L h) (gx : hx_g L h x 6) (qt : Nat) (gqt : hx_g L h qt 42) (f_x_0 : h.2.2 x 0 = some qt) (qi : Nat) (gqi : hx_g L h qi 129) (f_x_6 : h.2.2 x 6 = some qi) (qp : Nat) (gqp : hx_g L h qp 128) (f_qi_3 : h.2.2 qi 3 = some qp) (tf : Nat → Int32) (af_qt : h.2.1 qt = tf) (pf : Nat → Int32) (af_qp : h.2.1 qp = pf) (at0 : Int32) (f_x_2 : h.2.1 x 2 = at0) (ln0 : Int32) (f_x_1 : h.2.1 x 1 = ln0) (ft0 : Int32) (f_x_3 : h.2.1 x 3 = ft0) (tm0 : Int32) (f_x_5 : h.2.1 x 5 = tm0) (pl0 : Int32) (f_qi_4 : h.2.1 qi 4 = pl0) (o : List hv_tok) (hO : hv_ls pf pl0.toInt.toNat = o.map hv_cc) (hF : ft0.toInt = 0) (hB : 3 * pl0.toInt ≤ at0.toInt + tm0.toInt) (hA : at0.toInt ≤ ln0.toInt) (hT0 : 0 ≤ tm0.toInt ∧ tm0.toInt ≤ 20), Met l yX6_readEither (Cond.code yX6_readEither cX6_readEither 5 (some .boolean) :: hx_all) ({ frames := fr, cells := 0, slots := 0, locals := lo }) (va_Pc [.ref x, .int i1] (hx_BX T_tb (P_ty dA) (dC, dI) vwCl L h sz b0)) (va_Qi (fun (r : Int32) (u : List Nat × hx_h) => (∃ (at1 : Int32) (ft1 : Int32) (tm1 : Int32) (pl1 : Int32) (pf1 : Nat → Int32), u.2.2.1 x 2 = at1 ∧ u.2.2.1 x 3 = ft1 ∧ u.2.2.1 x 5 = tm1 ∧ u.2.2.1 qi 4 = pl1 ∧ u.2.2.1 qp = pf1 ∧ (hv_K hv_cc (hv_LE tf ln0.toInt.toNat D false false at0.toInt.toNat tm0.toInt.toNat o) r.toInt ft1.toInt at1.toInt tm1.toInt (hv_ls pf1 pl1.toInt.toNat))) ∧ hx_T T_tb u.1 u.2 ∧ hx_S T_tb [(6, 2), (6, 3), (6, 5), (128, 0), (129, 4)] L h u.1 u.2) (hx_E T_tb (P_ty dA) (dC, dI) vwCl (hx_A L sz)) (hx_A L sz)) 0 0 (hx_A L sz)


set_option maxHeartbeats 4000000 in
set_option maxRecDepth 100000 in
theorem t_X6_readOne_v8 (l : Launch) (dC : Nat → ClassId) (dI : Nat → Nat → Nat) (dA : Nat → ClassId) (L : List Nat) (h : hx_h) (sz : Nat) (b0 : hx_z) (x : Nat) (hT : hx_T T_tb L h) (gx : hx_g L h x 6) (qt : Nat) (gqt : hx_g L h qt 42) (f_x_0 : h.2.2 x 0 = some qt) (qi : Nat) (gqi : hx_g L h qi 129) (f_x_6 : h.2.2 x 6 = some qi) (qp : Nat) (gqp : hx_g L h qp 128) (f_qi_3 : h.2.2 qi 3 = some qp) (tf : Nat → Int32) (af_qt : h.2.1 qt = tf) (pf : Nat → Int32) (af_qp : h.2.1 qp = pf) (at0 : Int32) (f_x_2 : h.2.1 x 2 = at0) (ln0 : Int32) (f_x_1 : h.2.1 x 1 = ln0) (ft0 : Int32) (f_x_3 : h.2.1 x 3 = ft0) (tm0 : Int32) (f_x_5 : h.2.1 x 5 = tm0) (pl0 : Int32) (f_qi_4 : h.2.1 qi 4 = pl0) (o : List hv_tok) (hO : hv_ls pf pl0.toInt.toNat = o.map hv_cc) (hF : ft0.toInt = 0) (hB : 3 * pl0.toInt ≤ at0.toInt + tm0.toInt) (hA : at0.toInt ≤ ln0.toInt) (hT0 : 0 ≤ tm0.toInt ∧ tm0.toInt ≤ 20) : Met l yX6_readOne (Cond.code yX6_readOne cX6_readOne 3 (some .boolean) :: hx_all) ({ frames := 7, cells := 0, slots := 0, locals := 158 }) (va_Pc [.ref x, .int (8 : Int32)] (hx_BX T_tb (P_ty dA) (dC, dI) vwCl L h sz b0)) (va_Qi (fun (r : Int32) (u : List Nat × hx_h) => (∃ (at1 : Int32) (ft1 : Int32) (tm1 : Int32) (pl1 : Int32) (pf1 : Nat → Int32), u.2.2.1 x 2 = at1 ∧ u.2.2.1 x 3 = ft1 ∧ u.2.2.1 x 5 = tm1 ∧ u.2.2.1 qi 4 = pl1 ∧ u.2.2.1 qp = pf1 ∧ (hv_K hv_cc (hv_one tf ln0.toInt.toNat 0 at0.toInt.toNat tm0.toInt.toNat o) r.toInt ft1.toInt at1.toInt tm1.toInt (hv_ls pf1 pl1.toInt.toNat))) ∧ hx_T T_tb u.1 u.2 ∧ hx_S T_tb [(6, 2), (6, 3), (6, 5), (128, 0), (129, 4)] L h u.1 u.2) (hx_E T_tb (P_ty dA) (dC, dI) vwCl (hx_A L sz)) (hx_A L sz)) 0 0 (hx_A L sz) := by
  refine hx_metX (lv := [(0, .ref x), (1, .int (8 : Int32))]) (by decide +kernel) rfl (Nat.le_of_ble_eq_true rfl) rfl ?_
  intro p e s m below meth c hx hb hml hr hlk hts0 hown hin hsz hW hZ ls hl
  have hts : ∀ w ∈ hx_all, w.before _ s = true := fun w hw => hts0 w (List.mem_cons_of_mem _ hw)
  have hown : s.vm.findClass "SmallCourt$Reader" = some m.cls := hown
  have hM : hx_S T_tb [(6, 2), (6, 3), (6, 5), (128, 0), (129, 4)] L h L h := hx_S.rf
  obtain ⟨zLT, zLA, zMT, zMA, zCS, zSF, zVS, zVR⟩ := hZ.2.2.2.2.2.2
  have b_at0 := hT.gi gx tt_6 (k := 2) rfl
  rw [f_x_2] at b_at0
  have b_at0 : 0 ≤ at0.toInt ∧ at0.toInt ≤ 402 := b_at0
  have b_ln0 := hT.gi gx tt_6 (k := 1) rfl
  rw [f_x_1] at b_ln0
  have b_ln0 : 0 ≤ ln0.toInt ∧ ln0.toInt ≤ 400 := b_ln0
  have b_ft0 := hT.gi gx tt_6 (k := 3) rfl
  rw [f_x_3] at b_ft0
  have b_ft0 : -2147483648 ≤ ft0.toInt ∧ ft0.toInt ≤ 2147483647 := b_ft0
  have b_tm0 := hT.gi gx tt_6 (k := 5) rfl
  rw [f_x_5] at b_tm0
  have b_tm0 : -2147483648 ≤ tm0.toInt ∧ tm0.toInt ≤ 2147483647 := b_tm0
  have b_pl0 := hT.gi gqi tt_129 (k := 4) rfl
  rw [f_qi_4] at b_pl0
  have b_pl0 : 0 ≤ pl0.toInt ∧ pl0.toInt ≤ 160 := b_pl0
  refine lv_aload_n hx hb dX6_readOne_0 rfl (lv_at hl 0 rfl) ?_
  refine va_ldcS (tx := P_st.getD 4 "") hx hb hown (zVR 4 (by decide)) dX6_readOne_1 ?_
  refine hx_goi (hx_runVX (As := [.ref (b0.2.2.2.1 4)]) (rest := []) ⟨hx, hb, hml, hown, hts⟩ hW (gx.S hM) tt_6 (T := TX6) (N := 7) rfl (t_X6_isNextWord_v l dC dI dA L h s.heap.size b0 x 4 hT (gx.S hM) (by decide) qt (gqt.S hM) ((hM.o gx trivial rfl).2.trans f_x_0) tf (hx_afS hM gqt rfl af_qt) at0 f_x_2 ln0 ((hM.o gx trivial rfl).1.trans f_x_1) (by omega)) hZ (cwV 1 hts (hx_gV kw_565 kw_562 kw_564 kw_14 kw_95) rfl rfl rfl (by decide +kernel) ⟨Nat.le_of_ble_eq_true rfl, Nat.le_of_ble_eq_true rfl⟩) rfl hl.1 rfl (Nat.le_of_ble_eq_true rfl) dX6_readOne_3 ⟨Nat.le_of_ble_eq_true rfl, Nat.le_of_ble_eq_true rfl⟩) hW (fun r_3 L_1 h_2 H locs p_4 hW => ?_)
  obtain ⟨⟨w_6, fw_6, hr_5⟩, hT, hs⟩ := p_4
  replace hT : hx_T T_tb L_1 h_2 := hT
  replace hs : hx_S T_tb [(6, 2)] L h L_1 h_2 := hs
  replace f_x_3 := (hs.o (gx.S hM) trivial rfl).1.trans f_x_3
  replace f_x_5 := (hs.o (gx.S hM) trivial rfl).1.trans f_x_5
  replace f_qi_4 := (hs.o (gqi.S hM) trivial rfl).1.trans f_qi_4
  replace af_qp : h_2.2.1 qp = pf := (funext fun j => (hs.a (gqp.S hM) rfl j).1).trans af_qp
  replace hM := hM.tr (hs.mono (by decide))
  have fw_6 : h_2.2.1 x 2 = w_6 := fw_6
  have bw_6 := hT.gi (gx.S hM) tt_6 (k := 2) rfl
  rw [fw_6] at bw_6
  have bw_6 : 0 ≤ w_6.toInt ∧ w_6.toInt ≤ 402 := bw_6
  have eu_7 : (r_3.toInt = 1 ∧ hv_wd tf ln0.toInt.toNat (hv_sk tf ln0.toInt.toNat at0.toInt.toNat) = 2) ∨ (r_3.toInt = 0 ∧ hv_wd tf ln0.toInt.toNat (hv_sk tf ln0.toInt.toNat at0.toInt.toNat) ≠ 2) := hv_NW_u (js := 4) (by decide) hr_5.2.1
  have ek_8 : w_6.toInt.toNat = hv_sk tf ln0.toInt.toNat at0.toInt.toNat := by omega
  rw [← ek_8] at eu_7
  refine lv_istore_n (lv' := [(2, .int r_3), (0, .ref x), (1, .int (8 : Int32))]) hx hb dX6_readOne_6 rfl hl (by decide) rfl (fun ls hl => ?_)
  have sid : hv_sk tf ln0.toInt.toNat w_6.toInt.toNat = w_6.toInt.toNat := by rw [ek_8]; exact hv_sk_id
  have hl0 := hv_ls_l hO
  refine lv_iload_n hx hb dX6_readOne_7 rfl (lv_at hl 0 rfl) ?_
  refine hb_if_ne (zx := r_3.toInt) (tgt := 25) hx hb rfl dX6_readOne_8 (by decide) (fun c_9 => ?_) (fun c_9 => ?_)
  · skip
    replace eu_7 : r_3.toInt = 1 ∧ hv_wd tf ln0.toInt.toNat w_6.toInt.toNat = 2 := by rcases eu_7 with z | z; exact z; exfalso; omega
    refine lv_iload_n hx hb dX6_readOne_25 rfl (lv_at hl 2 rfl) ?_
    refine lv_bipush (v := 8) hx hb dX6_readOne_26 (by decide) ?_
    refine hb_icmp_lt (zx := 8) (zy := 8) (tgt := 41) hx hb (by decide) (by decide) dX6_readOne_28 (by decide) (fun c_10 => absurd c_10 (by decide)) (fun c_10 => ?_)
    refine lv_aload_n hx hb dX6_readOne_31 rfl (lv_at hl 1 rfl) ?_
    refine lv_aload_n hx hb dX6_readOne_32 rfl (lv_at hl 1 rfl) ?_
    refine hk_geti hx hb hts hC_6 hown hW (gx.S hM) tt_6 2 (by decide) rfl kw_127 ⟨rfl, rfl, rfl⟩ fw_6 dX6_readOne_33 ?_
    refine lv_iconst (v := 3) hx hb dX6_readOne_36 (by decide) ?_
    have zc_3 : (3 : Int32).toInt = 3 := by decide
    refine hx_goi (hx_runV (As := [.int w_6, .int (3 : Int32)]) (rest := []) ⟨hx, hb, hml, hown, hts⟩ hW (gx.S hM) tt_6 (T := TX6) (N := 7) rfl (t_X6_refuse_v l dC dI dA L_1 h_2 H.size x w_6 (3 : Int32) hT (gx.S hM) ⟨by omega, by omega⟩ (by decide)) (cwV 2 hts (hx_gV kw_527 kw_524 kw_526 kw_6 kw_95) rfl rfl rfl (by decide +kernel) ⟨Nat.le_of_ble_eq_true rfl, Nat.le_of_ble_eq_true rfl⟩) rfl hl.1 rfl (Nat.le_of_ble_eq_true rfl) dX6_readOne_37 ⟨Nat.le_of_ble_eq_true rfl, Nat.le_of_ble_eq_true rfl⟩) hW (fun r_13 L_11 h_12 H locs p_14 hW => ?_)
    obtain ⟨⟨w_16, fw_16, hr_15⟩, hT, hs⟩ := p_14
    replace hT : hx_T T_tb L_11 h_12 := hT
    replace hs : hx_S T_tb [(6, 3)] L_1 h_2 L_11 h_12 := hs
    replace f_x_5 := (hs.o (gx.S hM) trivial rfl).1.trans f_x_5
    replace f_qi_4 := (hs.o (gqi.S hM) trivial rfl).1.trans f_qi_4
    replace fw_6 := (hs.o (gx.S hM) trivial rfl).1.trans fw_6
    replace af_qp : h_12.2.1 qp = pf := (funext fun j => (hs.a (gqp.S hM) rfl j).1).trans af_qp
    replace hM := hM.tr (hs.mono (by decide))
    have fw_16 : h_12.2.1 x 3 = w_16 := fw_16
    have bw_16 := hT.gi (gx.S hM) tt_6 (k := 3) rfl
    rw [fw_16] at bw_16
    have bw_16 : -2147483648 ≤ w_16.toInt ∧ w_16.toInt ≤ 2147483647 := bw_16
    exact hx_retz hx hb hr (hx_nar01 (by omega)) hlk hW ⟨⟨w_6, w_16, tm0, pl0, pf, fw_6, fw_16, f_x_5, f_qi_4, af_qp, (hv_K_f (x := 4 + 8 * w_6.toInt.toNat) (by omega) (by omega) (by omega) ((hv_one_d (Or.inl (by rw [← ek_8]; exact eu_7.2))).trans (by rw [← ek_8])))⟩, hT, hM⟩ dX6_readOne_40
  · skip
    replace eu_7 : r_3.toInt = 0 ∧ hv_wd tf ln0.toInt.toNat w_6.toInt.toNat ≠ 2 := by rcases eu_7 with z | z; (exfalso; omega); exact z
    refine lv_aload_n hx hb dX6_readOne_11 rfl (lv_at hl 1 rfl) ?_
    refine lv_bipush (v := 40) hx hb dX6_readOne_12 (by decide) ?_
    have zc_40 : (40 : Int32).toInt = 40 := by decide
    refine hx_goi (hx_runV (As := [.int (40 : Int32)]) (rest := []) ⟨hx, hb, hml, hown, hts⟩ hW (gx.S hM) tt_6 (T := TX6) (N := 7) rfl (t_X6_isByte_v l dC dI dA L_1 h_2 H.size x (40 : Int32) hT (gx.S hM) qt (gqt.S hM) ((hM.o gx trivial rfl).2.trans f_x_0) tf (hx_afS hM gqt rfl af_qt) w_6 fw_6 ln0 ((hM.o gx trivial rfl).1.trans f_x_1)) (cwV 1 hts (hx_gV kw_569 kw_566 kw_568 kw_15 kw_95) rfl rfl rfl (by decide +kernel) ⟨Nat.le_of_ble_eq_true rfl, Nat.le_of_ble_eq_true rfl⟩) rfl hl.1 rfl (Nat.le_of_ble_eq_true rfl) dX6_readOne_14 ⟨Nat.le_of_ble_eq_true rfl, Nat.le_of_ble_eq_true rfl⟩) hW (fun r_19 L_17 h_18 H locs p_20 hW => ?_)
    obtain ⟨hr_21, hT, hs⟩ := p_20
    replace hT : hx_T T_tb L_17 h_18 := hT
    replace hs : hx_S T_tb [] L_1 h_2 L_17 h_18 := hs
    replace f_x_3 := (hs.o (gx.S hM) trivial rfl).1.trans f_x_3
    replace f_x_5 := (hs.o (gx.S hM) trivial rfl).1.trans f_x_5
    replace f_qi_4 := (hs.o (gqi.S hM) trivial rfl).1.trans f_qi_4
    replace fw_6 := (hs.o (gx.S hM) trivial rfl).1.trans fw_6
    replace af_qp : h_18.2.1 qp = pf := (funext fun j => (hs.a (gqp.S hM) rfl j).1).trans af_qp
    replace hM := hM.tr (hs.mono (by decide))
    refine hb_if_ne (zx := r_19.toInt) (tgt := 25) hx hb rfl dX6_readOne_17 (by decide) (fun c_22 => ?_) (fun c_22 => ?_)
    · skip
      replace hr_21 : r_19.toInt = 1 ∧ (w_6.toInt < ln0.toInt ∧ (tf w_6.toInt.toNat).toInt = 40) := by have z8 : (40 : Int32).toInt = 40 := (by decide); rcases hr_21 with z | z; exact ⟨z.1, by omega, by omega⟩; exfalso; omega
      refine lv_iload_n hx hb dX6_readOne_25 rfl (lv_at hl 2 rfl) ?_
      refine lv_bipush (v := 8) hx hb dX6_readOne_26 (by decide) ?_
      refine hb_icmp_lt (zx := 8) (zy := 8) (tgt := 41) hx hb (by decide) (by decide) dX6_readOne_28 (by decide) (fun c_23 => absurd c_23 (by decide)) (fun c_23 => ?_)
      refine lv_aload_n hx hb dX6_readOne_31 rfl (lv_at hl 1 rfl) ?_
      refine lv_aload_n hx hb dX6_readOne_32 rfl (lv_at hl 1 rfl) ?_
      refine hk_geti hx hb hts hC_6 hown hW (gx.S hM) tt_6 2 (by decide) rfl kw_127 ⟨rfl, rfl, rfl⟩ fw_6 dX6_readOne_33 ?_
      refine lv_iconst (v := 3) hx hb dX6_readOne_36 (by decide) ?_
      have zc_3 : (3 : Int32).toInt = 3 := by decide
      refine hx_goi (hx_runV (As := [.int w_6, .int (3 : Int32)]) (rest := []) ⟨hx, hb, hml, hown, hts⟩ hW (gx.S hM) tt_6 (T := TX6) (N := 7) rfl (t_X6_refuse_v l dC dI dA L_17 h_18 H.size x w_6 (3 : Int32) hT (gx.S hM) ⟨by omega, by omega⟩ (by decide)) (cwV 2 hts (hx_gV kw_527 kw_524 kw_526 kw_6 kw_95) rfl rfl rfl (by decide +kernel) ⟨Nat.le_of_ble_eq_true rfl, Nat.le_of_ble_eq_true rfl⟩) rfl hl.1 rfl (Nat.le_of_ble_eq_true rfl) dX6_readOne_37 ⟨Nat.le_of_ble_eq_true rfl, Nat.le_of_ble_eq_true rfl⟩) hW (fun r_26 L_24 h_25 H locs p_27 hW => ?_)
      obtain ⟨⟨w_29, fw_29, hr_28⟩, hT, hs⟩ := p_27
      replace hT : hx_T T_tb L_24 h_25 := hT
      replace hs : hx_S T_tb [(6, 3)] L_17 h_18 L_24 h_25 := hs
      replace f_x_5 := (hs.o (gx.S hM) trivial rfl).1.trans f_x_5
      replace f_qi_4 := (hs.o (gqi.S hM) trivial rfl).1.trans f_qi_4
      replace fw_6 := (hs.o (gx.S hM) trivial rfl).1.trans fw_6
      replace af_qp : h_25.2.1 qp = pf := (funext fun j => (hs.a (gqp.S hM) rfl j).1).trans af_qp
      replace hM := hM.tr (hs.mono (by decide))
      have fw_29 : h_25.2.1 x 3 = w_29 := fw_29
      have bw_29 := hT.gi (gx.S hM) tt_6 (k := 3) rfl
      rw [fw_29] at bw_29
      have bw_29 : -2147483648 ≤ w_29.toInt ∧ w_29.toInt ≤ 2147483647 := bw_29
      exact hx_retz hx hb hr (hx_nar01 (by omega)) hlk hW ⟨⟨w_6, w_29, tm0, pl0, pf, fw_6, fw_29, f_x_5, f_qi_4, af_qp, (hv_K_f (x := 4 + 8 * w_6.toInt.toNat) (by omega) (by omega) (by omega) ((hv_one_d (Or.inr (by rw [← ek_8]; exact ⟨by omega, hr_21.2.2⟩))).trans (by rw [← ek_8])))⟩, hT, hM⟩ dX6_readOne_40
    · skip
      replace hr_21 : r_19.toInt = 0 ∧ ¬ (w_6.toInt < ln0.toInt ∧ (tf w_6.toInt.toNat).toInt = 40) := by have z8 : (40 : Int32).toInt = 40 := (by decide); rcases hr_21 with z | z; (exfalso; omega); exact ⟨z.1, fun z9 => z.2 ⟨by omega, by omega⟩⟩
      refine lv_aload_n hx hb dX6_readOne_20 rfl (lv_at hl 1 rfl) ?_
      refine hx_goi (hx_runVX (As := []) (rest := []) ⟨hx, hb, hml, hown, hts⟩ hW (gx.S hM) tt_6 (T := TX6) (N := 7) rfl (t_X6_readTerm_v l dC dI dA L_17 h_18 H.size b0 x hT (gx.S hM) qt (gqt.S hM) ((hM.o gx trivial rfl).2.trans f_x_0) qi (gqi.S hM) ((hM.o gx trivial rfl).2.trans f_x_6) qp (gqp.S hM) ((hM.o gqi trivial rfl).2.trans f_qi_3) tf (hx_afS hM gqt rfl af_qt) pf af_qp w_6 fw_6 ln0 ((hM.o gx trivial rfl).1.trans f_x_1) ft0 f_x_3 tm0 f_x_5 pl0 f_qi_4 o hO (by omega) (by omega) (by omega) ⟨by omega, by omega⟩) hZ (cwV 0 hts (hx_gV kw_573 kw_570 kw_572 kw_16 kw_95) rfl rfl rfl (by decide +kernel) ⟨Nat.le_of_ble_eq_true rfl, Nat.le_of_ble_eq_true rfl⟩) rfl hl.1 rfl (Nat.le_of_ble_eq_true rfl) dX6_readOne_21 ⟨Nat.le_of_ble_eq_true rfl, Nat.le_of_ble_eq_true rfl⟩) hW (fun r_32 L_30 h_31 H locs p_33 hW => ?_)
      obtain ⟨⟨w_35, w_36, w_37, w_38, w_39, fw_35, fw_36, fw_37, fw_38, fw_39, hr_34⟩, hT, hs⟩ := p_33
      replace hT : hx_T T_tb L_30 h_31 := hT
      replace hs : hx_S T_tb [(6, 2), (6, 3), (6, 5), (128, 0), (129, 4)] L_17 h_18 L_30 h_31 := hs
      replace hM := hM.tr (hs.mono (by decide))
      have fw_35 : h_31.2.1 x 2 = w_35 := fw_35
      have bw_35 := hT.gi (gx.S hM) tt_6 (k := 2) rfl
      rw [fw_35] at bw_35
      have bw_35 : 0 ≤ w_35.toInt ∧ w_35.toInt ≤ 402 := bw_35
      have fw_36 : h_31.2.1 x 3 = w_36 := fw_36
      have bw_36 := hT.gi (gx.S hM) tt_6 (k := 3) rfl
      rw [fw_36] at bw_36
      have bw_36 : -2147483648 ≤ w_36.toInt ∧ w_36.toInt ≤ 2147483647 := bw_36
      have fw_37 : h_31.2.1 x 5 = w_37 := fw_37
      have bw_37 := hT.gi (gx.S hM) tt_6 (k := 5) rfl
      rw [fw_37] at bw_37
      have bw_37 : -2147483648 ≤ w_37.toInt ∧ w_37.toInt ≤ 2147483647 := bw_37
      have fw_38 : h_31.2.1 qi 4 = w_38 := fw_38
      have bw_38 := hT.gi (gqi.S hM) tt_129 (k := 4) rfl
      rw [fw_38] at bw_38
      have bw_38 : 0 ≤ w_38.toInt ∧ w_38.toInt ≤ 160 := bw_38
      have fw_39 : h_31.2.1 qp = w_39 := fw_39
      have hr_34b := hv_K_b hr_34
      exact hx_retz hx hb hr (hx_nar01 (by omega)) hlk hW ⟨⟨w_35, w_36, w_37, w_38, w_39, fw_35, fw_36, fw_37, fw_38, fw_39, (hv_K_c hr_34 ((hv_one_t (by rw [← ek_8]; exact eu_7.2) (by rw [← ek_8]; exact fun z => hr_21.2 ⟨by omega, z.2⟩)).trans (by rw [sid, ← ek_8])))⟩, hT, hM⟩ dX6_readOne_24


set_option maxHeartbeats 4000000 in
set_option maxRecDepth 100000 in
theorem t_X6_readEither_g (i1 : Int32) (D fr lo : Nat) (hfr : 7 ≤ fr) (hlo : 158 ≤ lo) (t_hRO : hv_MO i1 D fr lo) : hv_ME i1 D (fr + 1) (lo + 22) := by
  unfold hv_ME
  intro l dC dI dA L h sz b0 x hT gx qt gqt f_x_0 qi gqi f_x_6 qp gqp f_qi_3 tf af_qt pf af_qp at0 f_x_2 ln0 f_x_1 ft0 f_x_3 tm0 f_x_5 pl0 f_qi_4 o hO hF hB hA hT0
  refine hx_metX (lv := [(0, .ref x), (1, .int i1)]) (by decide +kernel) rfl (Nat.le_of_ble_eq_true rfl) rfl ?_
  intro p e s m below meth c hx hb hml hr hlk hts0 hown hin hsz hW hZ ls hl
  have hts : ∀ w ∈ hx_all, w.before _ s = true := fun w hw => hts0 w (List.mem_cons_of_mem _ hw)
  have hown : s.vm.findClass "SmallCourt$Reader" = some m.cls := hown
  have hM : hx_S T_tb [(6, 2), (6, 3), (6, 5), (128, 0), (129, 4)] L h L h := hx_S.rf
  obtain ⟨zLT, zLA, zMT, zMA, zCS, zSF, zVS, zVR⟩ := hZ.2.2.2.2.2.2
  have b_at0 := hT.gi gx tt_6 (k := 2) rfl
  rw [f_x_2] at b_at0
  have b_at0 : 0 ≤ at0.toInt ∧ at0.toInt ≤ 402 := b_at0
  have b_ln0 := hT.gi gx tt_6 (k := 1) rfl
  rw [f_x_1] at b_ln0
  have b_ln0 : 0 ≤ ln0.toInt ∧ ln0.toInt ≤ 400 := b_ln0
  have b_ft0 := hT.gi gx tt_6 (k := 3) rfl
  rw [f_x_3] at b_ft0
  have b_ft0 : -2147483648 ≤ ft0.toInt ∧ ft0.toInt ≤ 2147483647 := b_ft0
  have b_tm0 := hT.gi gx tt_6 (k := 5) rfl
  rw [f_x_5] at b_tm0
  have b_tm0 : -2147483648 ≤ tm0.toInt ∧ tm0.toInt ≤ 2147483647 := b_tm0
  have b_pl0 := hT.gi gqi tt_129 (k := 4) rfl
  rw [f_qi_4] at b_pl0
  have b_pl0 : 0 ≤ pl0.toInt ∧ pl0.toInt ≤ 160 := b_pl0
  refine lv_iconst (v := 0) hx hb dX6_readEither_0 (by decide) ?_
  refine lv_istore_n (lv' := [(2, .int (0 : Int32)), (0, .ref x), (1, .int i1)]) hx hb dX6_readEither_1 rfl hl (by decide) rfl (fun ls hl => ?_)
  refine lv_iconst (v := 0) hx hb dX6_readEither_2 (by decide) ?_
  refine lv_istore_n (lv' := [(3, .int (0 : Int32)), (2, .int (0 : Int32)), (0, .ref x), (1, .int i1)]) hx hb dX6_readEither_3 rfl hl (by decide) rfl (fun ls hl => ?_)
  refine lv_iconst (v := 0) hx hb dX6_readEither_4 (by decide) ?_
  refine lv_istore (lv' := [(4, .int (0 : Int32)), (3, .int (0 : Int32)), (2, .int (0 : Int32)), (0, .ref x), (1, .int i1)]) hx hb dX6_readEither_5 hl (by decide) rfl (fun ls hl => ?_)
  have loop7 : ∀ (n7 : Nat) (iv7_2 iv7_3 iv7_4 fw7_x_2 fw7_x_3 fw7_x_5 fw7_qi_4 : Int32) (ia7_qp : Nat → Int32) (H : Heap) (locs : List Loc) (hL1 : List Nat) (hl1 : hx_h), 0 ≤ iv7_2.toInt → iv7_2.toInt ≤ 1 → 0 ≤ iv7_3.toInt → iv7_3.toInt ≤ 1 → 0 ≤ iv7_4.toInt → iv7_4.toInt ≤ 401 → 0 ≤ fw7_x_2.toInt → fw7_x_2.toInt ≤ 402 → -2147483648 ≤ fw7_x_3.toInt → fw7_x_3.toInt ≤ 2147483647 → 0 ≤ fw7_x_5.toInt → fw7_x_5.toInt ≤ 20 → 0 ≤ fw7_qi_4.toInt → fw7_qi_4.toInt ≤ 160 → (∃ o9 : List hv_tok, hv_ls ia7_qp (fw7_qi_4.toInt).toNat = o9.map hv_cc ∧ hv_LE tf ln0.toInt.toNat D false false at0.toInt.toNat tm0.toInt.toNat o = hv_LE tf ln0.toInt.toNat D (decide (iv7_2.toInt = 1)) (decide (iv7_3.toInt = 1)) (fw7_x_2.toInt).toNat (fw7_x_5.toInt).toNat o9) → (3 * fw7_qi_4.toInt + 3 * iv7_2.toInt + 3 * iv7_3.toInt ≤ fw7_x_2.toInt + fw7_x_5.toInt) → (iv7_4.toInt ≤ fw7_x_2.toInt) → (fw7_x_2.toInt ≤ ln0.toInt) → (fw7_x_3.toInt = 0) → ∀ (ls : Array Slot), 401 - iv7_4.toInt < (n7 : Int) → hx_W T_tb (P_ty dA) (dC, dI) vwCl (hx_A L sz) s.heap hL1 hl1 s H locs → hx_T T_tb hL1 hl1 → hx_S T_tb [(6, 2), (6, 3), (6, 5), (128, 0), (129, 4)] L h hL1 hl1 → hl1.2.1 x 2 = fw7_x_2 → hl1.2.1 x 3 = fw7_x_3 → hl1.2.1 x 5 = fw7_x_5 → hl1.2.1 qi 4 = fw7_qi_4 → hl1.2.1 qp = ia7_qp → lv_has ls 5 [(4, .int iv7_4), (3, .int iv7_3), (2, .int iv7_2), (0, .ref x), (1, .int i1)] → W p l e ({ frames := fr + 1, cells := 0, slots := 0, locals := lo + 22 }) s m ([.ref x, .int i1] : List Value).toArray below meth c H locs 0 0 (MQ below (va_Qi (fun (r : Int32) (u : List Nat × hx_h) => (∃ (at1 : Int32) (ft1 : Int32) (tm1 : Int32) (pl1 : Int32) (pf1 : Nat → Int32), u.2.2.1 x 2 = at1 ∧ u.2.2.1 x 3 = ft1 ∧ u.2.2.1 x 5 = tm1 ∧ u.2.2.1 qi 4 = pl1 ∧ u.2.2.1 qp = pf1 ∧ (hv_K hv_cc (hv_LE tf ln0.toInt.toNat D false false at0.toInt.toNat tm0.toInt.toNat o) r.toInt ft1.toInt at1.toInt tm1.toInt (hv_ls pf1 pl1.toInt.toNat))) ∧ hx_T T_tb u.1 u.2 ∧ hx_S T_tb [(6, 2), (6, 3), (6, 5), (128, 0), (129, 4)] L h u.1 u.2) (hx_E T_tb (P_ty dA) (dC, dI) vwCl (hx_A L sz)) (hx_A L sz)) ([.ref x, .int i1] : List Value).toArray s 0 0 (hx_A L sz)) (F0 m 7 ls []) := by
    intro n7
    induction n7 with
    | zero => intro iv7_2 iv7_3 iv7_4 fw7_x_2 fw7_x_3 fw7_x_5 fw7_qi_4 ia7_qp H locs hL1 hl1 bliv7_2 buiv7_2 bliv7_3 buiv7_3 bliv7_4 buiv7_4 blfw7_x_2 bufw7_x_2 blfw7_x_3 bufw7_x_3 blfw7_x_5 bufw7_x_5 blfw7_qi_4 bufw7_qi_4 vi7_0 vi7_1 vi7_2 vi7_3 vi7_4 ls hn7; exfalso; omega
    | succ n7 ih7 =>
      intro iv7_2 iv7_3 iv7_4 fw7_x_2 fw7_x_3 fw7_x_5 fw7_qi_4 ia7_qp H locs hL1 hl1 bliv7_2 buiv7_2 bliv7_3 buiv7_3 bliv7_4 buiv7_4 blfw7_x_2 bufw7_x_2 blfw7_x_3 bufw7_x_3 blfw7_x_5 bufw7_x_5 blfw7_qi_4 bufw7_qi_4 vi7_0 vi7_1 vi7_2 vi7_3 vi7_4 ls hn7 hW hT hM ffw7_x_2 ffw7_x_3 ffw7_x_5 ffw7_qi_4 nia7_qp hl
      obtain ⟨oo, hO7, hE7⟩ := vi7_0
      have hl7 := hv_ls_l hO7
      refine lv_iload hx hb dX6_readEither_7 (lv_at hl 0 rfl) ?_
      refine lv_aload_n hx hb dX6_readEither_9 rfl (lv_at hl 3 rfl) ?_
      refine hk_geti hx hb hts hC_6 hown hW (gx.S hM) tt_6 1 (by decide) rfl kw_126 ⟨rfl, rfl, rfl⟩ ((hM.o gx trivial rfl).1.trans f_x_1) dX6_readEither_10 ?_
      refine hb_icmp_gt (zx := iv7_4.toInt) (zy := ln0.toInt) (tgt := 102) hx hb rfl rfl dX6_readEither_13 (by decide) (fun c_1 => ?_) (fun c_1 => ?_)
      · skip
        refine lv_iconst (v := 0) hx hb dX6_readEither_102 (by decide) ?_
        exact hx_retz hx hb hr rfl hlk hW ⟨⟨fw7_x_2, fw7_x_3, fw7_x_5, fw7_qi_4, ia7_qp, ffw7_x_2, ffw7_x_3, ffw7_x_5, ffw7_qi_4, nia7_qp, (by exfalso; omega)⟩, hT, hM⟩ dX6_readEither_103
      · skip
        refine lv_aload_n hx hb dX6_readEither_16 rfl (lv_at hl 3 rfl) ?_
        refine lv_iload_n hx hb dX6_readEither_17 rfl (lv_at hl 4 rfl) ?_
        refine hx_goi (hx_runVX (As := [.int i1]) (rest := []) ⟨hx, hb, hml, hown, hts⟩ hW (gx.S hM) tt_6 (T := TX6) (N := 7) rfl (t_hRO l dC dI dA hL1 hl1 H.size b0 x hT (gx.S hM) qt (gqt.S hM) ((hM.o gx trivial rfl).2.trans f_x_0) qi (gqi.S hM) ((hM.o gx trivial rfl).2.trans f_x_6) qp (gqp.S hM) ((hM.o gqi trivial rfl).2.trans f_qi_3) tf (hx_afS hM gqt rfl af_qt) ia7_qp nia7_qp fw7_x_2 ffw7_x_2 ln0 ((hM.o gx trivial rfl).1.trans f_x_1) fw7_x_3 ffw7_x_3 fw7_x_5 ffw7_x_5 fw7_qi_4 ffw7_qi_4 oo hO7 (by omega) (by omega) (by omega) ⟨by omega, by omega⟩) hZ (cwV 1 hts (hx_gV kw_560 kw_557 kw_559 kw_13 kw_95) rfl rfl rfl (by decide +kernel) ⟨(by first | omega | (dsimp only; omega)), (by first | omega | (dsimp only; omega))⟩) rfl hl.1 rfl (Nat.le_of_ble_eq_true rfl) dX6_readEither_18 ⟨Nat.le_of_ble_eq_true rfl, Nat.le_of_ble_eq_true rfl⟩) hW (fun r_4 L_2 h_3 H locs p_5 hW => ?_)
        obtain ⟨⟨w_7, w_8, w_9, w_10, w_11, fw_7, fw_8, fw_9, fw_10, fw_11, hr_6⟩, hT, hs⟩ := p_5
        replace hT : hx_T T_tb L_2 h_3 := hT
        replace hs : hx_S T_tb [(6, 2), (6, 3), (6, 5), (128, 0), (129, 4)] hL1 hl1 L_2 h_3 := hs
        replace hM := hM.tr (hs.mono (by decide))
        have fw_7 : h_3.2.1 x 2 = w_7 := fw_7
        have bw_7 := hT.gi (gx.S hM) tt_6 (k := 2) rfl
        rw [fw_7] at bw_7
        have bw_7 : 0 ≤ w_7.toInt ∧ w_7.toInt ≤ 402 := bw_7
        have fw_8 : h_3.2.1 x 3 = w_8 := fw_8
        have bw_8 := hT.gi (gx.S hM) tt_6 (k := 3) rfl
        rw [fw_8] at bw_8
        have bw_8 : -2147483648 ≤ w_8.toInt ∧ w_8.toInt ≤ 2147483647 := bw_8
        have fw_9 : h_3.2.1 x 5 = w_9 := fw_9
        have bw_9 := hT.gi (gx.S hM) tt_6 (k := 5) rfl
        rw [fw_9] at bw_9
        have bw_9 : -2147483648 ≤ w_9.toInt ∧ w_9.toInt ≤ 2147483647 := bw_9
        have fw_10 : h_3.2.1 qi 4 = w_10 := fw_10
        have bw_10 := hT.gi (gqi.S hM) tt_129 (k := 4) rfl
        rw [fw_10] at bw_10
        have bw_10 : 0 ≤ w_10.toInt ∧ w_10.toInt ≤ 160 := bw_10
        have fw_11 : h_3.2.1 qp = w_11 := fw_11
        have hr_6b := hv_K_b hr_6
        refine hb_if_eq (zx := r_4.toInt) (tgt := 102) hx hb rfl dX6_readEither_21 (by decide) (fun c_12 => ?_) (fun c_12 => ?_)
        · skip
          refine lv_iconst (v := 0) hx hb dX6_readEither_102 (by decide) ?_
          exact hx_retz hx hb hr rfl hlk hW ⟨⟨w_7, w_8, w_9, w_10, w_11, fw_7, fw_8, fw_9, fw_10, fw_11, (hv_K_f (x := w_8.toInt.toNat) (by decide) (by have h8 := (hv_K_0 hr_6 (by omega)).1; omega) (by have h8 := (hv_K_0 hr_6 (by omega)).1; omega) (hE7.trans (hv_LE_f (hv_K_0 hr_6 (by omega)).2)))⟩, hT, hM⟩ dX6_readEither_103
        · skip
          obtain ⟨k1_13F, k1_13p, k1_13t, oo_14, k1_13O, k1_13E⟩ := hv_K_1 hr_6 (by omega)
          have k1_13l := hv_ls_l k1_13O
          replace hr_6b : r_4.toInt = 1 := by omega
          have k1_13g := hv_one_g k1_13E (by omega)
          refine lv_iload_n hx hb dX6_readEither_24 rfl (lv_at hl 2 rfl) ?_
          refine hb_if_eq (zx := iv7_2.toInt) (tgt := 36) hx hb rfl dX6_readEither_25 (by decide) (fun c_15 => ?_) (fun c_15 => ?_)
          · skip
            have eA : decide (iv7_2.toInt = 1) = false := decide_eq_false (by omega)
            refine lv_aload_n hx hb dX6_readEither_36 rfl (lv_at hl 3 rfl) ?_
            refine va_ldcS (tx := P_st.getD 2 "") hx hb hown (zVR 2 (by decide)) dX6_readEither_37 ?_
            refine hx_goi (hx_runVX (As := [.ref (b0.2.2.2.1 2)]) (rest := []) ⟨hx, hb, hml, hown, hts⟩ hW (gx.S hM) tt_6 (T := TX6) (N := 7) rfl (t_X6_isNextWord_v l dC dI dA L_2 h_3 H.size b0 x 2 hT (gx.S hM) (by decide) qt (gqt.S hM) ((hM.o gx trivial rfl).2.trans f_x_0) tf (hx_afS hM gqt rfl af_qt) w_7 fw_7 ln0 ((hM.o gx trivial rfl).1.trans f_x_1) (by omega)) hZ (cwV 1 hts (hx_gV kw_565 kw_562 kw_564 kw_14 kw_95) rfl rfl rfl (by decide +kernel) ⟨(by first | omega | (dsimp only; omega)), (by first | omega | (dsimp only; omega))⟩) rfl hl.1 rfl (Nat.le_of_ble_eq_true rfl) dX6_readEither_39 ⟨Nat.le_of_ble_eq_true rfl, Nat.le_of_ble_eq_true rfl⟩) hW (fun r_18 L_16 h_17 H locs p_19 hW => ?_)
            obtain ⟨⟨w_21, fw_21, hr_20⟩, hT, hs⟩ := p_19
            replace hT : hx_T T_tb L_16 h_17 := hT
            replace hs : hx_S T_tb [(6, 2)] L_2 h_3 L_16 h_17 := hs
            replace fw_8 := (hs.o (gx.S hM) trivial rfl).1.trans fw_8
            replace fw_9 := (hs.o (gx.S hM) trivial rfl).1.trans fw_9
            replace fw_10 := (hs.o (gqi.S hM) trivial rfl).1.trans fw_10
            replace fw_11 : h_17.2.1 qp = w_11 := (funext fun j => (hs.a (gqp.S hM) rfl j).1).trans fw_11
            replace hM := hM.tr (hs.mono (by decide))
            have fw_21 : h_17.2.1 x 2 = w_21 := fw_21
            have bw_21 := hT.gi (gx.S hM) tt_6 (k := 2) rfl
            rw [fw_21] at bw_21
            have bw_21 : 0 ≤ w_21.toInt ∧ w_21.toInt ≤ 402 := bw_21
            have eu_22 : (r_18.toInt = 1 ∧ hv_wd tf ln0.toInt.toNat (hv_sk tf ln0.toInt.toNat w_7.toInt.toNat) = 1) ∨ (r_18.toInt = 0 ∧ hv_wd tf ln0.toInt.toNat (hv_sk tf ln0.toInt.toNat w_7.toInt.toNat) ≠ 1) := hv_NW_u (js := 2) (by decide) hr_20.2.1
            have ek_23 : w_21.toInt.toNat = hv_sk tf ln0.toInt.toNat w_7.toInt.toNat := by omega
            rw [← ek_23] at eu_22
            refine lv_istore_n (lv' := [(2, .int r_18), (4, .int iv7_4), (3, .int iv7_3), (0, .ref x), (1, .int i1)]) hx hb dX6_readEither_42 rfl hl (by decide) rfl (fun ls hl => ?_)
            have sid : hv_sk tf ln0.toInt.toNat w_21.toInt.toNat = w_21.toInt.toNat := by rw [ek_23]; exact hv_sk_id
            refine lv_iload_n hx hb dX6_readEither_43 rfl (lv_at hl 0 rfl) ?_
            refine hb_if_eq (zx := r_18.toInt) (tgt := 60) hx hb rfl dX6_readEither_44 (by decide) (fun c_24 => ?_) (fun c_24 => ?_)
            · skip
              replace eu_22 : r_18.toInt = 0 ∧ hv_wd tf ln0.toInt.toNat w_21.toInt.toNat ≠ 1 := by rcases eu_22 with z | z; (exfalso; omega); exact z
              refine lv_iload_n hx hb dX6_readEither_60 rfl (lv_at hl 2 rfl) ?_
              refine hb_if_eq (zx := iv7_3.toInt) (tgt := 73) hx hb rfl dX6_readEither_61 (by decide) (fun c_25 => ?_) (fun c_25 => ?_)
              · skip
                have eB : decide (iv7_3.toInt = 1) = false := decide_eq_false (by omega)
                refine lv_aload_n hx hb dX6_readEither_73 rfl (lv_at hl 3 rfl) ?_
                refine va_ldcS (tx := P_st.getD 3 "") hx hb hown (zVR 3 (by decide)) dX6_readEither_74 ?_
                refine hx_goi (hx_runVX (As := [.ref (b0.2.2.2.1 3)]) (rest := []) ⟨hx, hb, hml, hown, hts⟩ hW (gx.S hM) tt_6 (T := TX6) (N := 7) rfl (t_X6_isNextWord_v l dC dI dA L_16 h_17 H.size b0 x 3 hT (gx.S hM) (by decide) qt (gqt.S hM) ((hM.o gx trivial rfl).2.trans f_x_0) tf (hx_afS hM gqt rfl af_qt) w_21 fw_21 ln0 ((hM.o gx trivial rfl).1.trans f_x_1) (by omega)) hZ (cwV 1 hts (hx_gV kw_565 kw_562 kw_564 kw_14 kw_95) rfl rfl rfl (by decide +kernel) ⟨(by first | omega | (dsimp only; omega)), (by first | omega | (dsimp only; omega))⟩) rfl hl.1 rfl (Nat.le_of_ble_eq_true rfl) dX6_readEither_76 ⟨Nat.le_of_ble_eq_true rfl, Nat.le_of_ble_eq_true rfl⟩) hW (fun r_28 L_26 h_27 H locs p_29 hW => ?_)
                obtain ⟨⟨w_31, fw_31, hr_30⟩, hT, hs⟩ := p_29
                replace hT : hx_T T_tb L_26 h_27 := hT
                replace hs : hx_S T_tb [(6, 2)] L_16 h_17 L_26 h_27 := hs
                replace fw_8 := (hs.o (gx.S hM) trivial rfl).1.trans fw_8
                replace fw_9 := (hs.o (gx.S hM) trivial rfl).1.trans fw_9
                replace fw_10 := (hs.o (gqi.S hM) trivial rfl).1.trans fw_10
                replace fw_11 : h_27.2.1 qp = w_11 := (funext fun j => (hs.a (gqp.S hM) rfl j).1).trans fw_11
                replace hM := hM.tr (hs.mono (by decide))
                have fw_31 : h_27.2.1 x 2 = w_31 := fw_31
                have bw_31 := hT.gi (gx.S hM) tt_6 (k := 2) rfl
                rw [fw_31] at bw_31
                have bw_31 : 0 ≤ w_31.toInt ∧ w_31.toInt ≤ 402 := bw_31
                have eu_32 : (r_28.toInt = 1 ∧ hv_wd tf ln0.toInt.toNat (hv_sk tf ln0.toInt.toNat w_21.toInt.toNat) = 0) ∨ (r_28.toInt = 0 ∧ hv_wd tf ln0.toInt.toNat (hv_sk tf ln0.toInt.toNat w_21.toInt.toNat) ≠ 0) := hv_NW_u (js := 3) (by decide) hr_30.2.1
                have ek_33 : w_31.toInt.toNat = hv_sk tf ln0.toInt.toNat w_21.toInt.toNat := by omega
                rw [← ek_33] at eu_32
                refine lv_istore_n (lv' := [(3, .int r_28), (2, .int r_18), (4, .int iv7_4), (0, .ref x), (1, .int i1)]) hx hb dX6_readEither_79 rfl hl (by decide) rfl (fun ls hl => ?_)
                have e2w : w_31.toInt.toNat = w_21.toInt.toNat := by rw [ek_33, sid]
                rw [e2w] at eu_32
                refine lv_iload_n hx hb dX6_readEither_80 rfl (lv_at hl 0 rfl) ?_
                refine hb_if_ne (zx := r_28.toInt) (tgt := 86) hx hb rfl dX6_readEither_81 (by decide) (fun c_34 => ?_) (fun c_34 => ?_)
                · skip
                  replace eu_32 : r_28.toInt = 1 ∧ hv_wd tf ln0.toInt.toNat w_21.toInt.toNat = 0 := by rcases eu_32 with z | z; exact z; exfalso; omega
                  have hwo := hv_wd_0 (T := tf) (n := ln0.toInt.toNat) (p := w_21.toInt.toNat) eu_32.2
                  refine lv_aload_n hx hb dX6_readEither_86 rfl (lv_at hl 3 rfl) ?_
                  refine lv_dup hx hb dX6_readEither_87 rfl ?_
                  refine hk_geti hx hb hts hC_6 hown hW (gx.S hM) tt_6 2 (by decide) rfl kw_127 ⟨rfl, rfl, rfl⟩ fw_31 dX6_readEither_88 ?_
                  refine lv_iconst (v := 2) hx hb dX6_readEither_91 (by decide) ?_
                  refine lv_iadd hx hb dX6_readEither_92 ?_
                  have rg_35 := i32_r w_31
                  refine lv_topi (fun x_36 ex_36 => ?_)
                  have zx_36 : x_36.toInt = w_31.toInt + 2 := by rw [ex_36]; exact i32_add rfl (by decide) (by omega) (by omega)
                  refine hx_puti hx hb hts hC_6 hown hW hT (hx_S.rf (M := [(6, 2)])) (gx.S hM) tt_6 2 (by decide) rfl kw_127 ⟨rfl, rfl, rfl⟩ rfl (x := x_36) ⟨by omega, by omega⟩ rfl rfl rfl (List.mem_singleton.mpr rfl) dX6_readEither_93 (fun H locs h_37 eh_37 hW hT hs => ?_)
                  replace fw_8 := (hs.o (gx.S hM) trivial rfl).1.trans fw_8
                  replace fw_9 := (hs.o (gx.S hM) trivial rfl).1.trans fw_9
                  replace fw_10 := (hs.o (gqi.S hM) trivial rfl).1.trans fw_10
                  replace fw_11 : h_37.2.1 qp = w_11 := (funext fun j => (hs.a (gqp.S hM) rfl j).1).trans fw_11
                  replace hM := hM.tr (hs.mono (by decide))
                  have f_38 : h_37.2.1 x 2 = x_36 := by rw [eh_37]; exact hx_pi_at _ _ _ _
                  obtain ⟨x_39, ex_39⟩ : ∃ y : Int32, y = iv7_4 + Int32.ofInt 1 := ⟨_, rfl⟩
                  have rg_40 := i32_r iv7_4
                  have zx_39 : x_39.toInt = iv7_4.toInt + (1) := by rw [ex_39]; exact i32_add rfl (by decide) (by omega) (by omega)
                  refine lv_iinc (v := x_39) (lv' := [(4, .int x_39), (3, .int r_28), (2, .int r_18), (0, .ref x), (1, .int i1)]) hx hb dX6_readEither_96 hl (k := 2) rfl ex_39.symm (by decide) rfl (fun ls hl => ?_)
                  refine lv_goto (tgt := 7) hx hb dX6_readEither_99 (by decide) ?_
                  exact ih7 r_18 r_28 x_39 x_36 w_8 w_9 w_10 w_11 _ _ L_26 h_37 (by omega) (by omega) (by omega) (by omega) (by omega) (by omega) (by omega) (by omega) (i32_r _).1 (i32_r _).2 (by omega) (by omega) (by omega) (by omega) ⟨_, k1_13O, hE7.trans ((hv_LE_0 k1_13E (by rw [← ek_23]; exact eu_22.2) (by rw [← ek_23]; exact eu_32.2)).trans (by rw [eA, eB, ← ek_23, show w_21.toInt.toNat + 2 = x_36.toInt.toNat by omega, show decide (r_18.toInt = 1) = false from decide_eq_false (by omega), show decide (r_28.toInt = 1) = true from decide_eq_true (by omega)] <;> rfl))⟩ (by omega) (by omega) (by omega) (by omega) ls (by omega) hW hT hM f_38 fw_8 fw_9 fw_10 fw_11 (lv_sub hl [0, 1, 2, 3, 4] rfl)
                · skip
                  replace eu_32 : r_28.toInt = 0 ∧ hv_wd tf ln0.toInt.toNat w_21.toInt.toNat ≠ 0 := by rcases eu_32 with z | z; (exfalso; omega); exact z
                  refine lv_iconst (v := 1) hx hb dX6_readEither_84 (by decide) ?_
                  exact hx_retz hx hb hr rfl hlk hW ⟨⟨w_31, w_8, w_9, w_10, w_11, fw_31, fw_8, fw_9, fw_10, fw_11, (hv_K_t (x := w_31.toInt.toNat) (y := w_9.toInt.toNat) (by decide) (by omega) (by omega) (by omega) k1_13O (hE7.trans ((hv_LE_e k1_13E (by rw [← ek_23]; exact eu_22.2) (by rw [← ek_23]; exact eu_32.2)).trans (by rw [eA, eB, ← ek_23, ← e2w] <;> rfl))))⟩, hT, hM⟩ dX6_readEither_85
              · skip
                refine lv_aload_n hx hb dX6_readEither_64 rfl (lv_at hl 3 rfl) ?_
                refine hk_getr hx hb hts hC_6 hown hW (gx.S hM) tt_6 6 (by decide) rfl kw_131 ⟨rfl, rfl, rfl⟩ ((hM.o gx trivial rfl).2.trans f_x_6) dX6_readEither_65 ?_
                refine lv_bipush (v := -2) hx hb dX6_readEither_68 (by decide) ?_
                have zc_m2 : (-2 : Int32).toInt = -2 := by decide
                refine hx_gov (hx_runV (As := [.int (-2 : Int32)]) (rest := []) ⟨hx, hb, hml, hown, hts⟩ hW (gqi.S hM) tt_129 (T := TX0) (N := 5) rfl (t_X0_addProof_v l dC dI dA L_16 h_17 H.size qi (-2 : Int32) hT (gqi.S hM) qp (gqp.S hM) ((hM.o gqi trivial rfl).2.trans f_qi_3) w_11 fw_11 w_10 fw_10 (by omega)) (cwV 1 hts (hx_gV kw_583 kw_580 kw_581 kw_582 kw_96) rfl rfl rfl (by decide +kernel) ⟨(by first | omega | (dsimp only; omega)), (by first | omega | (dsimp only; omega))⟩) rfl hl.1 rfl (Nat.le_of_ble_eq_true rfl) dX6_readEither_70 ⟨Nat.le_of_ble_eq_true rfl, Nat.le_of_ble_eq_true rfl⟩) hW (fun L_41 h_42 H locs p_44 hW => ?_)
                obtain ⟨⟨w_46, w_47, fw_46, fw_47, hr_45⟩, hT, hs⟩ := p_44
                replace hT : hx_T T_tb L_41 h_42 := hT
                replace hs : hx_S T_tb [(128, 0), (129, 4)] L_16 h_17 L_41 h_42 := hs
                replace fw_8 := (hs.o (gx.S hM) trivial rfl).1.trans fw_8
                replace fw_9 := (hs.o (gx.S hM) trivial rfl).1.trans fw_9
                replace fw_21 := (hs.o (gx.S hM) trivial rfl).1.trans fw_21
                replace hM := hM.tr (hs.mono (by decide))
                have fw_46 : h_42.2.1 qi 4 = w_46 := fw_46
                have bw_46 := hT.gi (gqi.S hM) tt_129 (k := 4) rfl
                rw [fw_46] at bw_46
                have bw_46 : 0 ≤ w_46.toInt ∧ w_46.toInt ≤ 160 := bw_46
                have fw_47 : h_42.2.1 qp = w_47 := fw_47
                have lo_48 := hv_ls_u (t := (0, 0, 0)) k1_13O (by decide) (show w_46.toInt.toNat = w_10.toInt.toNat + 1 by omega) hr_45.2
                have eB : decide (iv7_3.toInt = 1) = true := decide_eq_true (by omega)
                refine lv_aload_n hx hb dX6_readEither_73 rfl (lv_at hl 3 rfl) ?_
                refine va_ldcS (tx := P_st.getD 3 "") hx hb hown (zVR 3 (by decide)) dX6_readEither_74 ?_
                refine hx_goi (hx_runVX (As := [.ref (b0.2.2.2.1 3)]) (rest := []) ⟨hx, hb, hml, hown, hts⟩ hW (gx.S hM) tt_6 (T := TX6) (N := 7) rfl (t_X6_isNextWord_v l dC dI dA L_41 h_42 H.size b0 x 3 hT (gx.S hM) (by decide) qt (gqt.S hM) ((hM.o gx trivial rfl).2.trans f_x_0) tf (hx_afS hM gqt rfl af_qt) w_21 fw_21 ln0 ((hM.o gx trivial rfl).1.trans f_x_1) (by omega)) hZ (cwV 1 hts (hx_gV kw_565 kw_562 kw_564 kw_14 kw_95) rfl rfl rfl (by decide +kernel) ⟨(by first | omega | (dsimp only; omega)), (by first | omega | (dsimp only; omega))⟩) rfl hl.1 rfl (Nat.le_of_ble_eq_true rfl) dX6_readEither_76 ⟨Nat.le_of_ble_eq_true rfl, Nat.le_of_ble_eq_true rfl⟩) hW (fun r_51 L_49 h_50 H locs p_52 hW => ?_)
                obtain ⟨⟨w_54, fw_54, hr_53⟩, hT, hs⟩ := p_52
                replace hT : hx_T T_tb L_49 h_50 := hT
                replace hs : hx_S T_tb [(6, 2)] L_41 h_42 L_49 h_50 := hs
                replace fw_8 := (hs.o (gx.S hM) trivial rfl).1.trans fw_8
                replace fw_9 := (hs.o (gx.S hM) trivial rfl).1.trans fw_9
                replace fw_46 := (hs.o (gqi.S hM) trivial rfl).1.trans fw_46
                replace fw_47 : h_50.2.1 qp = w_47 := (funext fun j => (hs.a (gqp.S hM) rfl j).1).trans fw_47
                replace hM := hM.tr (hs.mono (by decide))
                have fw_54 : h_50.2.1 x 2 = w_54 := fw_54
                have bw_54 := hT.gi (gx.S hM) tt_6 (k := 2) rfl
                rw [fw_54] at bw_54
                have bw_54 : 0 ≤ w_54.toInt ∧ w_54.toInt ≤ 402 := bw_54
                have eu_55 : (r_51.toInt = 1 ∧ hv_wd tf ln0.toInt.toNat (hv_sk tf ln0.toInt.toNat w_21.toInt.toNat) = 0) ∨ (r_51.toInt = 0 ∧ hv_wd tf ln0.toInt.toNat (hv_sk tf ln0.toInt.toNat w_21.toInt.toNat) ≠ 0) := hv_NW_u (js := 3) (by decide) hr_53.2.1
                have ek_56 : w_54.toInt.toNat = hv_sk tf ln0.toInt.toNat w_21.toInt.toNat := by omega
                rw [← ek_56] at eu_55
                refine lv_istore_n (lv' := [(3, .int r_51), (2, .int r_18), (4, .int iv7_4), (0, .ref x), (1, .int i1)]) hx hb dX6_readEither_79 rfl hl (by decide) rfl (fun ls hl => ?_)
                have e2w : w_54.toInt.toNat = w_21.toInt.toNat := by rw [ek_56, sid]
                rw [e2w] at eu_55
                refine lv_iload_n hx hb dX6_readEither_80 rfl (lv_at hl 0 rfl) ?_
                refine hb_if_ne (zx := r_51.toInt) (tgt := 86) hx hb rfl dX6_readEither_81 (by decide) (fun c_57 => ?_) (fun c_57 => ?_)
                · skip
                  replace eu_55 : r_51.toInt = 1 ∧ hv_wd tf ln0.toInt.toNat w_21.toInt.toNat = 0 := by rcases eu_55 with z | z; exact z; exfalso; omega
                  have hwo := hv_wd_0 (T := tf) (n := ln0.toInt.toNat) (p := w_21.toInt.toNat) eu_55.2
                  refine lv_aload_n hx hb dX6_readEither_86 rfl (lv_at hl 3 rfl) ?_
                  refine lv_dup hx hb dX6_readEither_87 rfl ?_
                  refine hk_geti hx hb hts hC_6 hown hW (gx.S hM) tt_6 2 (by decide) rfl kw_127 ⟨rfl, rfl, rfl⟩ fw_54 dX6_readEither_88 ?_
                  refine lv_iconst (v := 2) hx hb dX6_readEither_91 (by decide) ?_
                  refine lv_iadd hx hb dX6_readEither_92 ?_
                  have rg_58 := i32_r w_54
                  refine lv_topi (fun x_59 ex_59 => ?_)
                  have zx_59 : x_59.toInt = w_54.toInt + 2 := by rw [ex_59]; exact i32_add rfl (by decide) (by omega) (by omega)
                  refine hx_puti hx hb hts hC_6 hown hW hT (hx_S.rf (M := [(6, 2)])) (gx.S hM) tt_6 2 (by decide) rfl kw_127 ⟨rfl, rfl, rfl⟩ rfl (x := x_59) ⟨by omega, by omega⟩ rfl rfl rfl (List.mem_singleton.mpr rfl) dX6_readEither_93 (fun H locs h_60 eh_60 hW hT hs => ?_)
                  replace fw_8 := (hs.o (gx.S hM) trivial rfl).1.trans fw_8
                  replace fw_9 := (hs.o (gx.S hM) trivial rfl).1.trans fw_9
                  replace fw_46 := (hs.o (gqi.S hM) trivial rfl).1.trans fw_46
                  replace fw_47 : h_60.2.1 qp = w_47 := (funext fun j => (hs.a (gqp.S hM) rfl j).1).trans fw_47
                  replace hM := hM.tr (hs.mono (by decide))
                  have f_61 : h_60.2.1 x 2 = x_59 := by rw [eh_60]; exact hx_pi_at _ _ _ _
                  obtain ⟨x_62, ex_62⟩ : ∃ y : Int32, y = iv7_4 + Int32.ofInt 1 := ⟨_, rfl⟩
                  have rg_63 := i32_r iv7_4
                  have zx_62 : x_62.toInt = iv7_4.toInt + (1) := by rw [ex_62]; exact i32_add rfl (by decide) (by omega) (by omega)
                  refine lv_iinc (v := x_62) (lv' := [(4, .int x_62), (3, .int r_51), (2, .int r_18), (0, .ref x), (1, .int i1)]) hx hb dX6_readEither_96 hl (k := 2) rfl ex_62.symm (by decide) rfl (fun ls hl => ?_)
                  refine lv_goto (tgt := 7) hx hb dX6_readEither_99 (by decide) ?_
                  exact ih7 r_18 r_51 x_62 x_59 w_8 w_9 w_46 w_47 _ _ L_49 h_60 (by omega) (by omega) (by omega) (by omega) (by omega) (by omega) (by omega) (by omega) (i32_r _).1 (i32_r _).2 (by omega) (by omega) (by omega) (by omega) ⟨_, lo_48, hE7.trans ((hv_LE_0 k1_13E (by rw [← ek_23]; exact eu_22.2) (by rw [← ek_23]; exact eu_55.2)).trans (by rw [eA, eB, ← ek_23, show w_21.toInt.toNat + 2 = x_59.toInt.toNat by omega, show decide (r_18.toInt = 1) = false from decide_eq_false (by omega), show decide (r_51.toInt = 1) = true from decide_eq_true (by omega)] <;> rfl))⟩ (by omega) (by omega) (by omega) (by omega) ls (by omega) hW hT hM f_61 fw_8 fw_9 fw_46 fw_47 (lv_sub hl [0, 1, 2, 3, 4] rfl)
                · skip
                  replace eu_55 : r_51.toInt = 0 ∧ hv_wd tf ln0.toInt.toNat w_21.toInt.toNat ≠ 0 := by rcases eu_55 with z | z; (exfalso; omega); exact z
                  refine lv_iconst (v := 1) hx hb dX6_readEither_84 (by decide) ?_
                  exact hx_retz hx hb hr rfl hlk hW ⟨⟨w_54, w_8, w_9, w_46, w_47, fw_54, fw_8, fw_9, fw_46, fw_47, (hv_K_t (x := w_54.toInt.toNat) (y := w_9.toInt.toNat) (by decide) (by omega) (by omega) (by omega) lo_48 (hE7.trans ((hv_LE_e k1_13E (by rw [← ek_23]; exact eu_22.2) (by rw [← ek_23]; exact eu_55.2)).trans (by rw [eA, eB, ← ek_23, ← e2w] <;> rfl))))⟩, hT, hM⟩ dX6_readEither_85
            · skip
              replace eu_22 : r_18.toInt = 1 ∧ hv_wd tf ln0.toInt.toNat w_21.toInt.toNat = 1 := by rcases eu_22 with z | z; exact z; exfalso; omega
              have hwa := hv_wd_1 (T := tf) (n := ln0.toInt.toNat) (p := w_21.toInt.toNat) eu_22.2
              refine lv_aload_n hx hb dX6_readEither_47 rfl (lv_at hl 3 rfl) ?_
              refine lv_dup hx hb dX6_readEither_48 rfl ?_
              refine hk_geti hx hb hts hC_6 hown hW (gx.S hM) tt_6 2 (by decide) rfl kw_127 ⟨rfl, rfl, rfl⟩ fw_21 dX6_readEither_49 ?_
              refine lv_iconst (v := 3) hx hb dX6_readEither_52 (by decide) ?_
              refine lv_iadd hx hb dX6_readEither_53 ?_
              have rg_64 := i32_r w_21
              refine lv_topi (fun x_65 ex_65 => ?_)
              have zx_65 : x_65.toInt = w_21.toInt + 3 := by rw [ex_65]; exact i32_add rfl (by decide) (by omega) (by omega)
              refine hx_puti hx hb hts hC_6 hown hW hT (hx_S.rf (M := [(6, 2)])) (gx.S hM) tt_6 2 (by decide) rfl kw_127 ⟨rfl, rfl, rfl⟩ rfl (x := x_65) ⟨by omega, by omega⟩ rfl rfl rfl (List.mem_singleton.mpr rfl) dX6_readEither_54 (fun H locs h_66 eh_66 hW hT hs => ?_)
              replace fw_8 := (hs.o (gx.S hM) trivial rfl).1.trans fw_8
              replace fw_9 := (hs.o (gx.S hM) trivial rfl).1.trans fw_9
              replace fw_10 := (hs.o (gqi.S hM) trivial rfl).1.trans fw_10
              replace fw_11 : h_66.2.1 qp = w_11 := (funext fun j => (hs.a (gqp.S hM) rfl j).1).trans fw_11
              replace hM := hM.tr (hs.mono (by decide))
              have f_67 : h_66.2.1 x 2 = x_65 := by rw [eh_66]; exact hx_pi_at _ _ _ _
              refine lv_goto (tgt := 96) hx hb dX6_readEither_57 (by decide) ?_
              obtain ⟨x_68, ex_68⟩ : ∃ y : Int32, y = iv7_4 + Int32.ofInt 1 := ⟨_, rfl⟩
              have rg_69 := i32_r iv7_4
              have zx_68 : x_68.toInt = iv7_4.toInt + (1) := by rw [ex_68]; exact i32_add rfl (by decide) (by omega) (by omega)
              refine lv_iinc (v := x_68) (lv' := [(4, .int x_68), (2, .int r_18), (3, .int iv7_3), (0, .ref x), (1, .int i1)]) hx hb dX6_readEither_96 hl (k := 1) rfl ex_68.symm (by decide) rfl (fun ls hl => ?_)
              refine lv_goto (tgt := 7) hx hb dX6_readEither_99 (by decide) ?_
              exact ih7 r_18 iv7_3 x_68 x_65 w_8 w_9 w_10 w_11 _ _ L_16 h_66 (by omega) (by omega) (by omega) (by omega) (by omega) (by omega) (by omega) (by omega) (i32_r _).1 (i32_r _).2 (by omega) (by omega) (by omega) (by omega) ⟨_, k1_13O, hE7.trans ((hv_LE_1 k1_13E (by rw [← ek_23]; exact eu_22.2)).trans (by rw [eA, ← ek_23, show w_21.toInt.toNat + 3 = x_65.toInt.toNat by omega, show decide (r_18.toInt = 1) = true from decide_eq_true (by omega)] <;> rfl))⟩ (by omega) (by omega) (by omega) (by omega) ls (by omega) hW hT hM f_67 fw_8 fw_9 fw_10 fw_11 (lv_sub hl [0, 2, 1, 3, 4] rfl)
          · skip
            refine lv_aload_n hx hb dX6_readEither_28 rfl (lv_at hl 3 rfl) ?_
            refine hk_getr hx hb hts hC_6 hown hW (gx.S hM) tt_6 6 (by decide) rfl kw_131 ⟨rfl, rfl, rfl⟩ ((hM.o gx trivial rfl).2.trans f_x_6) dX6_readEither_29 ?_
            refine lv_iconst (v := -1) hx hb dX6_readEither_32 (by decide) ?_
            have zc_m1 : (-1 : Int32).toInt = -1 := by decide
            refine hx_gov (hx_runV (As := [.int (-1 : Int32)]) (rest := []) ⟨hx, hb, hml, hown, hts⟩ hW (gqi.S hM) tt_129 (T := TX0) (N := 5) rfl (t_X0_addProof_v l dC dI dA L_2 h_3 H.size qi (-1 : Int32) hT (gqi.S hM) qp (gqp.S hM) ((hM.o gqi trivial rfl).2.trans f_qi_3) w_11 fw_11 w_10 fw_10 (by omega)) (cwV 1 hts (hx_gV kw_583 kw_580 kw_581 kw_582 kw_96) rfl rfl rfl (by decide +kernel) ⟨(by first | omega | (dsimp only; omega)), (by first | omega | (dsimp only; omega))⟩) rfl hl.1 rfl (Nat.le_of_ble_eq_true rfl) dX6_readEither_33 ⟨Nat.le_of_ble_eq_true rfl, Nat.le_of_ble_eq_true rfl⟩) hW (fun L_70 h_71 H locs p_73 hW => ?_)
            obtain ⟨⟨w_75, w_76, fw_75, fw_76, hr_74⟩, hT, hs⟩ := p_73
            replace hT : hx_T T_tb L_70 h_71 := hT
            replace hs : hx_S T_tb [(128, 0), (129, 4)] L_2 h_3 L_70 h_71 := hs
            replace fw_7 := (hs.o (gx.S hM) trivial rfl).1.trans fw_7
            replace fw_8 := (hs.o (gx.S hM) trivial rfl).1.trans fw_8
            replace fw_9 := (hs.o (gx.S hM) trivial rfl).1.trans fw_9
            replace hM := hM.tr (hs.mono (by decide))
            have fw_75 : h_71.2.1 qi 4 = w_75 := fw_75
            have bw_75 := hT.gi (gqi.S hM) tt_129 (k := 4) rfl
            rw [fw_75] at bw_75
            have bw_75 : 0 ≤ w_75.toInt ∧ w_75.toInt ≤ 160 := bw_75
            have fw_76 : h_71.2.1 qp = w_76 := fw_76
            have lo_77 := hv_ls_u (t := (0, 1, 0)) k1_13O (by decide) (show w_75.toInt.toNat = w_10.toInt.toNat + 1 by omega) hr_74.2
            have eA : decide (iv7_2.toInt = 1) = true := decide_eq_true (by omega)
            refine lv_aload_n hx hb dX6_readEither_36 rfl (lv_at hl 3 rfl) ?_
            refine va_ldcS (tx := P_st.getD 2 "") hx hb hown (zVR 2 (by decide)) dX6_readEither_37 ?_
            refine hx_goi (hx_runVX (As := [.ref (b0.2.2.2.1 2)]) (rest := []) ⟨hx, hb, hml, hown, hts⟩ hW (gx.S hM) tt_6 (T := TX6) (N := 7) rfl (t_X6_isNextWord_v l dC dI dA L_70 h_71 H.size b0 x 2 hT (gx.S hM) (by decide) qt (gqt.S hM) ((hM.o gx trivial rfl).2.trans f_x_0) tf (hx_afS hM gqt rfl af_qt) w_7 fw_7 ln0 ((hM.o gx trivial rfl).1.trans f_x_1) (by omega)) hZ (cwV 1 hts (hx_gV kw_565 kw_562 kw_564 kw_14 kw_95) rfl rfl rfl (by decide +kernel) ⟨(by first | omega | (dsimp only; omega)), (by first | omega | (dsimp only; omega))⟩) rfl hl.1 rfl (Nat.le_of_ble_eq_true rfl) dX6_readEither_39 ⟨Nat.le_of_ble_eq_true rfl, Nat.le_of_ble_eq_true rfl⟩) hW (fun r_80 L_78 h_79 H locs p_81 hW => ?_)
            obtain ⟨⟨w_83, fw_83, hr_82⟩, hT, hs⟩ := p_81
            replace hT : hx_T T_tb L_78 h_79 := hT
            replace hs : hx_S T_tb [(6, 2)] L_70 h_71 L_78 h_79 := hs
            replace fw_8 := (hs.o (gx.S hM) trivial rfl).1.trans fw_8
            replace fw_9 := (hs.o (gx.S hM) trivial rfl).1.trans fw_9
            replace fw_75 := (hs.o (gqi.S hM) trivial rfl).1.trans fw_75
            replace fw_76 : h_79.2.1 qp = w_76 := (funext fun j => (hs.a (gqp.S hM) rfl j).1).trans fw_76
            replace hM := hM.tr (hs.mono (by decide))
            have fw_83 : h_79.2.1 x 2 = w_83 := fw_83
            have bw_83 := hT.gi (gx.S hM) tt_6 (k := 2) rfl
            rw [fw_83] at bw_83
            have bw_83 : 0 ≤ w_83.toInt ∧ w_83.toInt ≤ 402 := bw_83
            have eu_84 : (r_80.toInt = 1 ∧ hv_wd tf ln0.toInt.toNat (hv_sk tf ln0.toInt.toNat w_7.toInt.toNat) = 1) ∨ (r_80.toInt = 0 ∧ hv_wd tf ln0.toInt.toNat (hv_sk tf ln0.toInt.toNat w_7.toInt.toNat) ≠ 1) := hv_NW_u (js := 2) (by decide) hr_82.2.1
            have ek_85 : w_83.toInt.toNat = hv_sk tf ln0.toInt.toNat w_7.toInt.toNat := by omega
            rw [← ek_85] at eu_84
            refine lv_istore_n (lv' := [(2, .int r_80), (4, .int iv7_4), (3, .int iv7_3), (0, .ref x), (1, .int i1)]) hx hb dX6_readEither_42 rfl hl (by decide) rfl (fun ls hl => ?_)
            have sid : hv_sk tf ln0.toInt.toNat w_83.toInt.toNat = w_83.toInt.toNat := by rw [ek_85]; exact hv_sk_id
            refine lv_iload_n hx hb dX6_readEither_43 rfl (lv_at hl 0 rfl) ?_
            refine hb_if_eq (zx := r_80.toInt) (tgt := 60) hx hb rfl dX6_readEither_44 (by decide) (fun c_86 => ?_) (fun c_86 => ?_)
            · skip
              replace eu_84 : r_80.toInt = 0 ∧ hv_wd tf ln0.toInt.toNat w_83.toInt.toNat ≠ 1 := by rcases eu_84 with z | z; (exfalso; omega); exact z
              refine lv_iload_n hx hb dX6_readEither_60 rfl (lv_at hl 2 rfl) ?_
              refine hb_if_eq (zx := iv7_3.toInt) (tgt := 73) hx hb rfl dX6_readEither_61 (by decide) (fun c_87 => ?_) (fun c_87 => ?_)
              · skip
                have eB : decide (iv7_3.toInt = 1) = false := decide_eq_false (by omega)
                refine lv_aload_n hx hb dX6_readEither_73 rfl (lv_at hl 3 rfl) ?_
                refine va_ldcS (tx := P_st.getD 3 "") hx hb hown (zVR 3 (by decide)) dX6_readEither_74 ?_
                refine hx_goi (hx_runVX (As := [.ref (b0.2.2.2.1 3)]) (rest := []) ⟨hx, hb, hml, hown, hts⟩ hW (gx.S hM) tt_6 (T := TX6) (N := 7) rfl (t_X6_isNextWord_v l dC dI dA L_78 h_79 H.size b0 x 3 hT (gx.S hM) (by decide) qt (gqt.S hM) ((hM.o gx trivial rfl).2.trans f_x_0) tf (hx_afS hM gqt rfl af_qt) w_83 fw_83 ln0 ((hM.o gx trivial rfl).1.trans f_x_1) (by omega)) hZ (cwV 1 hts (hx_gV kw_565 kw_562 kw_564 kw_14 kw_95) rfl rfl rfl (by decide +kernel) ⟨(by first | omega | (dsimp only; omega)), (by first | omega | (dsimp only; omega))⟩) rfl hl.1 rfl (Nat.le_of_ble_eq_true rfl) dX6_readEither_76 ⟨Nat.le_of_ble_eq_true rfl, Nat.le_of_ble_eq_true rfl⟩) hW (fun r_90 L_88 h_89 H locs p_91 hW => ?_)
                obtain ⟨⟨w_93, fw_93, hr_92⟩, hT, hs⟩ := p_91
                replace hT : hx_T T_tb L_88 h_89 := hT
                replace hs : hx_S T_tb [(6, 2)] L_78 h_79 L_88 h_89 := hs
                replace fw_8 := (hs.o (gx.S hM) trivial rfl).1.trans fw_8
                replace fw_9 := (hs.o (gx.S hM) trivial rfl).1.trans fw_9
                replace fw_75 := (hs.o (gqi.S hM) trivial rfl).1.trans fw_75
                replace fw_76 : h_89.2.1 qp = w_76 := (funext fun j => (hs.a (gqp.S hM) rfl j).1).trans fw_76
                replace hM := hM.tr (hs.mono (by decide))
                have fw_93 : h_89.2.1 x 2 = w_93 := fw_93
                have bw_93 := hT.gi (gx.S hM) tt_6 (k := 2) rfl
                rw [fw_93] at bw_93
                have bw_93 : 0 ≤ w_93.toInt ∧ w_93.toInt ≤ 402 := bw_93
                have eu_94 : (r_90.toInt = 1 ∧ hv_wd tf ln0.toInt.toNat (hv_sk tf ln0.toInt.toNat w_83.toInt.toNat) = 0) ∨ (r_90.toInt = 0 ∧ hv_wd tf ln0.toInt.toNat (hv_sk tf ln0.toInt.toNat w_83.toInt.toNat) ≠ 0) := hv_NW_u (js := 3) (by decide) hr_92.2.1
                have ek_95 : w_93.toInt.toNat = hv_sk tf ln0.toInt.toNat w_83.toInt.toNat := by omega
                rw [← ek_95] at eu_94
                refine lv_istore_n (lv' := [(3, .int r_90), (2, .int r_80), (4, .int iv7_4), (0, .ref x), (1, .int i1)]) hx hb dX6_readEither_79 rfl hl (by decide) rfl (fun ls hl => ?_)
                have e2w : w_93.toInt.toNat = w_83.toInt.toNat := by rw [ek_95, sid]
                rw [e2w] at eu_94
                refine lv_iload_n hx hb dX6_readEither_80 rfl (lv_at hl 0 rfl) ?_
                refine hb_if_ne (zx := r_90.toInt) (tgt := 86) hx hb rfl dX6_readEither_81 (by decide) (fun c_96 => ?_) (fun c_96 => ?_)
                · skip
                  replace eu_94 : r_90.toInt = 1 ∧ hv_wd tf ln0.toInt.toNat w_83.toInt.toNat = 0 := by rcases eu_94 with z | z; exact z; exfalso; omega
                  have hwo := hv_wd_0 (T := tf) (n := ln0.toInt.toNat) (p := w_83.toInt.toNat) eu_94.2
                  refine lv_aload_n hx hb dX6_readEither_86 rfl (lv_at hl 3 rfl) ?_
                  refine lv_dup hx hb dX6_readEither_87 rfl ?_
                  refine hk_geti hx hb hts hC_6 hown hW (gx.S hM) tt_6 2 (by decide) rfl kw_127 ⟨rfl, rfl, rfl⟩ fw_93 dX6_readEither_88 ?_
                  refine lv_iconst (v := 2) hx hb dX6_readEither_91 (by decide) ?_
                  refine lv_iadd hx hb dX6_readEither_92 ?_
                  have rg_97 := i32_r w_93
                  refine lv_topi (fun x_98 ex_98 => ?_)
                  have zx_98 : x_98.toInt = w_93.toInt + 2 := by rw [ex_98]; exact i32_add rfl (by decide) (by omega) (by omega)
                  refine hx_puti hx hb hts hC_6 hown hW hT (hx_S.rf (M := [(6, 2)])) (gx.S hM) tt_6 2 (by decide) rfl kw_127 ⟨rfl, rfl, rfl⟩ rfl (x := x_98) ⟨by omega, by omega⟩ rfl rfl rfl (List.mem_singleton.mpr rfl) dX6_readEither_93 (fun H locs h_99 eh_99 hW hT hs => ?_)
                  replace fw_8 := (hs.o (gx.S hM) trivial rfl).1.trans fw_8
                  replace fw_9 := (hs.o (gx.S hM) trivial rfl).1.trans fw_9
                  replace fw_75 := (hs.o (gqi.S hM) trivial rfl).1.trans fw_75
                  replace fw_76 : h_99.2.1 qp = w_76 := (funext fun j => (hs.a (gqp.S hM) rfl j).1).trans fw_76
                  replace hM := hM.tr (hs.mono (by decide))
                  have f_100 : h_99.2.1 x 2 = x_98 := by rw [eh_99]; exact hx_pi_at _ _ _ _
                  obtain ⟨x_101, ex_101⟩ : ∃ y : Int32, y = iv7_4 + Int32.ofInt 1 := ⟨_, rfl⟩
                  have rg_102 := i32_r iv7_4
                  have zx_101 : x_101.toInt = iv7_4.toInt + (1) := by rw [ex_101]; exact i32_add rfl (by decide) (by omega) (by omega)
                  refine lv_iinc (v := x_101) (lv' := [(4, .int x_101), (3, .int r_90), (2, .int r_80), (0, .ref x), (1, .int i1)]) hx hb dX6_readEither_96 hl (k := 2) rfl ex_101.symm (by decide) rfl (fun ls hl => ?_)
                  refine lv_goto (tgt := 7) hx hb dX6_readEither_99 (by decide) ?_
                  exact ih7 r_80 r_90 x_101 x_98 w_8 w_9 w_75 w_76 _ _ L_88 h_99 (by omega) (by omega) (by omega) (by omega) (by omega) (by omega) (by omega) (by omega) (i32_r _).1 (i32_r _).2 (by omega) (by omega) (by omega) (by omega) ⟨_, lo_77, hE7.trans ((hv_LE_0 k1_13E (by rw [← ek_85]; exact eu_84.2) (by rw [← ek_85]; exact eu_94.2)).trans (by rw [eA, eB, ← ek_85, show w_83.toInt.toNat + 2 = x_98.toInt.toNat by omega, show decide (r_80.toInt = 1) = false from decide_eq_false (by omega), show decide (r_90.toInt = 1) = true from decide_eq_true (by omega)] <;> rfl))⟩ (by omega) (by omega) (by omega) (by omega) ls (by omega) hW hT hM f_100 fw_8 fw_9 fw_75 fw_76 (lv_sub hl [0, 1, 2, 3, 4] rfl)
                · skip
                  replace eu_94 : r_90.toInt = 0 ∧ hv_wd tf ln0.toInt.toNat w_83.toInt.toNat ≠ 0 := by rcases eu_94 with z | z; (exfalso; omega); exact z
                  refine lv_iconst (v := 1) hx hb dX6_readEither_84 (by decide) ?_
                  exact hx_retz hx hb hr rfl hlk hW ⟨⟨w_93, w_8, w_9, w_75, w_76, fw_93, fw_8, fw_9, fw_75, fw_76, (hv_K_t (x := w_93.toInt.toNat) (y := w_9.toInt.toNat) (by decide) (by omega) (by omega) (by omega) lo_77 (hE7.trans ((hv_LE_e k1_13E (by rw [← ek_85]; exact eu_84.2) (by rw [← ek_85]; exact eu_94.2)).trans (by rw [eA, eB, ← ek_85, ← e2w] <;> rfl))))⟩, hT, hM⟩ dX6_readEither_85
              · skip
                refine lv_aload_n hx hb dX6_readEither_64 rfl (lv_at hl 3 rfl) ?_
                refine hk_getr hx hb hts hC_6 hown hW (gx.S hM) tt_6 6 (by decide) rfl kw_131 ⟨rfl, rfl, rfl⟩ ((hM.o gx trivial rfl).2.trans f_x_6) dX6_readEither_65 ?_
                refine lv_bipush (v := -2) hx hb dX6_readEither_68 (by decide) ?_
                have zc_m2 : (-2 : Int32).toInt = -2 := by decide
                refine hx_gov (hx_runV (As := [.int (-2 : Int32)]) (rest := []) ⟨hx, hb, hml, hown, hts⟩ hW (gqi.S hM) tt_129 (T := TX0) (N := 5) rfl (t_X0_addProof_v l dC dI dA L_78 h_79 H.size qi (-2 : Int32) hT (gqi.S hM) qp (gqp.S hM) ((hM.o gqi trivial rfl).2.trans f_qi_3) w_76 fw_76 w_75 fw_75 (by omega)) (cwV 1 hts (hx_gV kw_583 kw_580 kw_581 kw_582 kw_96) rfl rfl rfl (by decide +kernel) ⟨(by first | omega | (dsimp only; omega)), (by first | omega | (dsimp only; omega))⟩) rfl hl.1 rfl (Nat.le_of_ble_eq_true rfl) dX6_readEither_70 ⟨Nat.le_of_ble_eq_true rfl, Nat.le_of_ble_eq_true rfl⟩) hW (fun L_103 h_104 H locs p_106 hW => ?_)
                obtain ⟨⟨w_108, w_109, fw_108, fw_109, hr_107⟩, hT, hs⟩ := p_106
                replace hT : hx_T T_tb L_103 h_104 := hT
                replace hs : hx_S T_tb [(128, 0), (129, 4)] L_78 h_79 L_103 h_104 := hs
                replace fw_8 := (hs.o (gx.S hM) trivial rfl).1.trans fw_8
                replace fw_9 := (hs.o (gx.S hM) trivial rfl).1.trans fw_9
                replace fw_83 := (hs.o (gx.S hM) trivial rfl).1.trans fw_83
                replace hM := hM.tr (hs.mono (by decide))
                have fw_108 : h_104.2.1 qi 4 = w_108 := fw_108
                have bw_108 := hT.gi (gqi.S hM) tt_129 (k := 4) rfl
                rw [fw_108] at bw_108
                have bw_108 : 0 ≤ w_108.toInt ∧ w_108.toInt ≤ 160 := bw_108
                have fw_109 : h_104.2.1 qp = w_109 := fw_109
                have lo_110 := hv_ls_u (t := (0, 0, 0)) lo_77 (by decide) (show w_108.toInt.toNat = w_75.toInt.toNat + 1 by omega) hr_107.2
                have eB : decide (iv7_3.toInt = 1) = true := decide_eq_true (by omega)
                refine lv_aload_n hx hb dX6_readEither_73 rfl (lv_at hl 3 rfl) ?_
                refine va_ldcS (tx := P_st.getD 3 "") hx hb hown (zVR 3 (by decide)) dX6_readEither_74 ?_
                refine hx_goi (hx_runVX (As := [.ref (b0.2.2.2.1 3)]) (rest := []) ⟨hx, hb, hml, hown, hts⟩ hW (gx.S hM) tt_6 (T := TX6) (N := 7) rfl (t_X6_isNextWord_v l dC dI dA L_103 h_104 H.size b0 x 3 hT (gx.S hM) (by decide) qt (gqt.S hM) ((hM.o gx trivial rfl).2.trans f_x_0) tf (hx_afS hM gqt rfl af_qt) w_83 fw_83 ln0 ((hM.o gx trivial rfl).1.trans f_x_1) (by omega)) hZ (cwV 1 hts (hx_gV kw_565 kw_562 kw_564 kw_14 kw_95) rfl rfl rfl (by decide +kernel) ⟨(by first | omega | (dsimp only; omega)), (by first | omega | (dsimp only; omega))⟩) rfl hl.1 rfl (Nat.le_of_ble_eq_true rfl) dX6_readEither_76 ⟨Nat.le_of_ble_eq_true rfl, Nat.le_of_ble_eq_true rfl⟩) hW (fun r_113 L_111 h_112 H locs p_114 hW => ?_)
                obtain ⟨⟨w_116, fw_116, hr_115⟩, hT, hs⟩ := p_114
                replace hT : hx_T T_tb L_111 h_112 := hT
                replace hs : hx_S T_tb [(6, 2)] L_103 h_104 L_111 h_112 := hs
                replace fw_8 := (hs.o (gx.S hM) trivial rfl).1.trans fw_8
                replace fw_9 := (hs.o (gx.S hM) trivial rfl).1.trans fw_9
                replace fw_108 := (hs.o (gqi.S hM) trivial rfl).1.trans fw_108
                replace fw_109 : h_112.2.1 qp = w_109 := (funext fun j => (hs.a (gqp.S hM) rfl j).1).trans fw_109
                replace hM := hM.tr (hs.mono (by decide))
                have fw_116 : h_112.2.1 x 2 = w_116 := fw_116
                have bw_116 := hT.gi (gx.S hM) tt_6 (k := 2) rfl
                rw [fw_116] at bw_116
                have bw_116 : 0 ≤ w_116.toInt ∧ w_116.toInt ≤ 402 := bw_116
                have eu_117 : (r_113.toInt = 1 ∧ hv_wd tf ln0.toInt.toNat (hv_sk tf ln0.toInt.toNat w_83.toInt.toNat) = 0) ∨ (r_113.toInt = 0 ∧ hv_wd tf ln0.toInt.toNat (hv_sk tf ln0.toInt.toNat w_83.toInt.toNat) ≠ 0) := hv_NW_u (js := 3) (by decide) hr_115.2.1
                have ek_118 : w_116.toInt.toNat = hv_sk tf ln0.toInt.toNat w_83.toInt.toNat := by omega
                rw [← ek_118] at eu_117
                refine lv_istore_n (lv' := [(3, .int r_113), (2, .int r_80), (4, .int iv7_4), (0, .ref x), (1, .int i1)]) hx hb dX6_readEither_79 rfl hl (by decide) rfl (fun ls hl => ?_)
                have e2w : w_116.toInt.toNat = w_83.toInt.toNat := by rw [ek_118, sid]
                rw [e2w] at eu_117
                refine lv_iload_n hx hb dX6_readEither_80 rfl (lv_at hl 0 rfl) ?_
                refine hb_if_ne (zx := r_113.toInt) (tgt := 86) hx hb rfl dX6_readEither_81 (by decide) (fun c_119 => ?_) (fun c_119 => ?_)
                · skip
                  replace eu_117 : r_113.toInt = 1 ∧ hv_wd tf ln0.toInt.toNat w_83.toInt.toNat = 0 := by rcases eu_117 with z | z; exact z; exfalso; omega
                  have hwo := hv_wd_0 (T := tf) (n := ln0.toInt.toNat) (p := w_83.toInt.toNat) eu_117.2
                  refine lv_aload_n hx hb dX6_readEither_86 rfl (lv_at hl 3 rfl) ?_
                  refine lv_dup hx hb dX6_readEither_87 rfl ?_
                  refine hk_geti hx hb hts hC_6 hown hW (gx.S hM) tt_6 2 (by decide) rfl kw_127 ⟨rfl, rfl, rfl⟩ fw_116 dX6_readEither_88 ?_
                  refine lv_iconst (v := 2) hx hb dX6_readEither_91 (by decide) ?_
                  refine lv_iadd hx hb dX6_readEither_92 ?_
                  have rg_120 := i32_r w_116
                  refine lv_topi (fun x_121 ex_121 => ?_)
                  have zx_121 : x_121.toInt = w_116.toInt + 2 := by rw [ex_121]; exact i32_add rfl (by decide) (by omega) (by omega)
                  refine hx_puti hx hb hts hC_6 hown hW hT (hx_S.rf (M := [(6, 2)])) (gx.S hM) tt_6 2 (by decide) rfl kw_127 ⟨rfl, rfl, rfl⟩ rfl (x := x_121) ⟨by omega, by omega⟩ rfl rfl rfl (List.mem_singleton.mpr rfl) dX6_readEither_93 (fun H locs h_122 eh_122 hW hT hs => ?_)
                  replace fw_8 := (hs.o (gx.S hM) trivial rfl).1.trans fw_8
                  replace fw_9 := (hs.o (gx.S hM) trivial rfl).1.trans fw_9
                  replace fw_108 := (hs.o (gqi.S hM) trivial rfl).1.trans fw_108
                  replace fw_109 : h_122.2.1 qp = w_109 := (funext fun j => (hs.a (gqp.S hM) rfl j).1).trans fw_109
                  replace hM := hM.tr (hs.mono (by decide))
                  have f_123 : h_122.2.1 x 2 = x_121 := by rw [eh_122]; exact hx_pi_at _ _ _ _
                  obtain ⟨x_124, ex_124⟩ : ∃ y : Int32, y = iv7_4 + Int32.ofInt 1 := ⟨_, rfl⟩
                  have rg_125 := i32_r iv7_4
                  have zx_124 : x_124.toInt = iv7_4.toInt + (1) := by rw [ex_124]; exact i32_add rfl (by decide) (by omega) (by omega)
                  refine lv_iinc (v := x_124) (lv' := [(4, .int x_124), (3, .int r_113), (2, .int r_80), (0, .ref x), (1, .int i1)]) hx hb dX6_readEither_96 hl (k := 2) rfl ex_124.symm (by decide) rfl (fun ls hl => ?_)
                  refine lv_goto (tgt := 7) hx hb dX6_readEither_99 (by decide) ?_
                  exact ih7 r_80 r_113 x_124 x_121 w_8 w_9 w_108 w_109 _ _ L_111 h_122 (by omega) (by omega) (by omega) (by omega) (by omega) (by omega) (by omega) (by omega) (i32_r _).1 (i32_r _).2 (by omega) (by omega) (by omega) (by omega) ⟨_, lo_110, hE7.trans ((hv_LE_0 k1_13E (by rw [← ek_85]; exact eu_84.2) (by rw [← ek_85]; exact eu_117.2)).trans (by rw [eA, eB, ← ek_85, show w_83.toInt.toNat + 2 = x_121.toInt.toNat by omega, show decide (r_80.toInt = 1) = false from decide_eq_false (by omega), show decide (r_113.toInt = 1) = true from decide_eq_true (by omega)] <;> rfl))⟩ (by omega) (by omega) (by omega) (by omega) ls (by omega) hW hT hM f_123 fw_8 fw_9 fw_108 fw_109 (lv_sub hl [0, 1, 2, 3, 4] rfl)
                · skip
                  replace eu_117 : r_113.toInt = 0 ∧ hv_wd tf ln0.toInt.toNat w_83.toInt.toNat ≠ 0 := by rcases eu_117 with z | z; (exfalso; omega); exact z
                  refine lv_iconst (v := 1) hx hb dX6_readEither_84 (by decide) ?_
                  exact hx_retz hx hb hr rfl hlk hW ⟨⟨w_116, w_8, w_9, w_108, w_109, fw_116, fw_8, fw_9, fw_108, fw_109, (hv_K_t (x := w_116.toInt.toNat) (y := w_9.toInt.toNat) (by decide) (by omega) (by omega) (by omega) lo_110 (hE7.trans ((hv_LE_e k1_13E (by rw [← ek_85]; exact eu_84.2) (by rw [← ek_85]; exact eu_117.2)).trans (by rw [eA, eB, ← ek_85, ← e2w] <;> rfl))))⟩, hT, hM⟩ dX6_readEither_85
            · skip
              replace eu_84 : r_80.toInt = 1 ∧ hv_wd tf ln0.toInt.toNat w_83.toInt.toNat = 1 := by rcases eu_84 with z | z; exact z; exfalso; omega
              have hwa := hv_wd_1 (T := tf) (n := ln0.toInt.toNat) (p := w_83.toInt.toNat) eu_84.2
              refine lv_aload_n hx hb dX6_readEither_47 rfl (lv_at hl 3 rfl) ?_
              refine lv_dup hx hb dX6_readEither_48 rfl ?_
              refine hk_geti hx hb hts hC_6 hown hW (gx.S hM) tt_6 2 (by decide) rfl kw_127 ⟨rfl, rfl, rfl⟩ fw_83 dX6_readEither_49 ?_
              refine lv_iconst (v := 3) hx hb dX6_readEither_52 (by decide) ?_
              refine lv_iadd hx hb dX6_readEither_53 ?_
              have rg_126 := i32_r w_83
              refine lv_topi (fun x_127 ex_127 => ?_)
              have zx_127 : x_127.toInt = w_83.toInt + 3 := by rw [ex_127]; exact i32_add rfl (by decide) (by omega) (by omega)
              refine hx_puti hx hb hts hC_6 hown hW hT (hx_S.rf (M := [(6, 2)])) (gx.S hM) tt_6 2 (by decide) rfl kw_127 ⟨rfl, rfl, rfl⟩ rfl (x := x_127) ⟨by omega, by omega⟩ rfl rfl rfl (List.mem_singleton.mpr rfl) dX6_readEither_54 (fun H locs h_128 eh_128 hW hT hs => ?_)
              replace fw_8 := (hs.o (gx.S hM) trivial rfl).1.trans fw_8
              replace fw_9 := (hs.o (gx.S hM) trivial rfl).1.trans fw_9
              replace fw_75 := (hs.o (gqi.S hM) trivial rfl).1.trans fw_75
              replace fw_76 : h_128.2.1 qp = w_76 := (funext fun j => (hs.a (gqp.S hM) rfl j).1).trans fw_76
              replace hM := hM.tr (hs.mono (by decide))
              have f_129 : h_128.2.1 x 2 = x_127 := by rw [eh_128]; exact hx_pi_at _ _ _ _
              refine lv_goto (tgt := 96) hx hb dX6_readEither_57 (by decide) ?_
              obtain ⟨x_130, ex_130⟩ : ∃ y : Int32, y = iv7_4 + Int32.ofInt 1 := ⟨_, rfl⟩
              have rg_131 := i32_r iv7_4
              have zx_130 : x_130.toInt = iv7_4.toInt + (1) := by rw [ex_130]; exact i32_add rfl (by decide) (by omega) (by omega)
              refine lv_iinc (v := x_130) (lv' := [(4, .int x_130), (2, .int r_80), (3, .int iv7_3), (0, .ref x), (1, .int i1)]) hx hb dX6_readEither_96 hl (k := 1) rfl ex_130.symm (by decide) rfl (fun ls hl => ?_)
              refine lv_goto (tgt := 7) hx hb dX6_readEither_99 (by decide) ?_
              exact ih7 r_80 iv7_3 x_130 x_127 w_8 w_9 w_75 w_76 _ _ L_78 h_128 (by omega) (by omega) (by omega) (by omega) (by omega) (by omega) (by omega) (by omega) (i32_r _).1 (i32_r _).2 (by omega) (by omega) (by omega) (by omega) ⟨_, lo_77, hE7.trans ((hv_LE_1 k1_13E (by rw [← ek_85]; exact eu_84.2)).trans (by rw [eA, ← ek_85, show w_83.toInt.toNat + 3 = x_127.toInt.toNat by omega, show decide (r_80.toInt = 1) = true from decide_eq_true (by omega)] <;> rfl))⟩ (by omega) (by omega) (by omega) (by omega) ls (by omega) hW hT hM f_129 fw_8 fw_9 fw_75 fw_76 (lv_sub hl [0, 2, 1, 3, 4] rfl)
  have zk_0 : (0 : Int32).toInt = 0 := by decide
  have zk_0 : (0 : Int32).toInt = 0 := by decide
  have zk_0 : (0 : Int32).toInt = 0 := by decide
  exact loop7 402 (0 : Int32) (0 : Int32) (0 : Int32) at0 ft0 tm0 pl0 pf _ _ L h (by decide) (by decide) (by decide) (by decide) (by decide) (by decide) (by omega) (by omega) (i32_r _).1 (i32_r _).2 (by omega) (by omega) (by omega) (by omega) ⟨o, hO, (by have e0 : decide ((0 : Int32).toInt = 1) = false := (by decide); rw [e0])⟩ (by omega) (by omega) (by omega) (by omega) ls (by omega) hW hT hM f_x_2 f_x_3 f_x_5 f_qi_4 af_qp hl


set_option maxHeartbeats 4000000 in
set_option maxRecDepth 100000 in
theorem t_X6_readOne_g (i1 : Int32) (hi1 : 0 ≤ i1.toInt ∧ i1.toInt ≤ 7) (D fr1 lo1 fr lo : Nat) (hfr1 : 7 ≤ fr1) (hlo1 : 158 ≤ lo1) (hfr : fr1 ≤ fr) (hlo : lo1 ≤ lo) (t_hRO : ∀ i2 : Int32, i2.toInt = i1.toInt + 1 → hv_MO i2 D fr1 lo1) (t_hRE : ∀ i2 : Int32, i2.toInt = i1.toInt + 1 → hv_ME i2 D fr lo) : hv_MO i1 (D + 1) (fr + 1) (lo + 24) := by
  unfold hv_MO
  intro l dC dI dA L h sz b0 x hT gx qt gqt f_x_0 qi gqi f_x_6 qp gqp f_qi_3 tf af_qt pf af_qp at0 f_x_2 ln0 f_x_1 ft0 f_x_3 tm0 f_x_5 pl0 f_qi_4 o hO hF hB hA hT0
  refine hx_metX (lv := [(0, .ref x), (1, .int i1)]) (by decide +kernel) rfl (Nat.le_of_ble_eq_true rfl) rfl ?_
  intro p e s m below meth c hx hb hml hr hlk hts0 hown hin hsz hW hZ ls hl
  have hts : ∀ w ∈ hx_all, w.before _ s = true := fun w hw => hts0 w (List.mem_cons_of_mem _ hw)
  have hown : s.vm.findClass "SmallCourt$Reader" = some m.cls := hown
  have hM : hx_S T_tb [(6, 2), (6, 3), (6, 5), (128, 0), (129, 4)] L h L h := hx_S.rf
  obtain ⟨zLT, zLA, zMT, zMA, zCS, zSF, zVS, zVR⟩ := hZ.2.2.2.2.2.2
  have b_at0 := hT.gi gx tt_6 (k := 2) rfl
  rw [f_x_2] at b_at0
  have b_at0 : 0 ≤ at0.toInt ∧ at0.toInt ≤ 402 := b_at0
  have b_ln0 := hT.gi gx tt_6 (k := 1) rfl
  rw [f_x_1] at b_ln0
  have b_ln0 : 0 ≤ ln0.toInt ∧ ln0.toInt ≤ 400 := b_ln0
  have b_ft0 := hT.gi gx tt_6 (k := 3) rfl
  rw [f_x_3] at b_ft0
  have b_ft0 : -2147483648 ≤ ft0.toInt ∧ ft0.toInt ≤ 2147483647 := b_ft0
  have b_tm0 := hT.gi gx tt_6 (k := 5) rfl
  rw [f_x_5] at b_tm0
  have b_tm0 : -2147483648 ≤ tm0.toInt ∧ tm0.toInt ≤ 2147483647 := b_tm0
  have b_pl0 := hT.gi gqi tt_129 (k := 4) rfl
  rw [f_qi_4] at b_pl0
  have b_pl0 : 0 ≤ pl0.toInt ∧ pl0.toInt ≤ 160 := b_pl0
  refine lv_aload_n hx hb dX6_readOne_0 rfl (lv_at hl 0 rfl) ?_
  refine va_ldcS (tx := P_st.getD 4 "") hx hb hown (zVR 4 (by decide)) dX6_readOne_1 ?_
  refine hx_goi (hx_runVX (As := [.ref (b0.2.2.2.1 4)]) (rest := []) ⟨hx, hb, hml, hown, hts⟩ hW (gx.S hM) tt_6 (T := TX6) (N := 7) rfl (t_X6_isNextWord_v l dC dI dA L h s.heap.size b0 x 4 hT (gx.S hM) (by decide) qt (gqt.S hM) ((hM.o gx trivial rfl).2.trans f_x_0) tf (hx_afS hM gqt rfl af_qt) at0 f_x_2 ln0 ((hM.o gx trivial rfl).1.trans f_x_1) (by omega)) hZ (cwV 1 hts (hx_gV kw_565 kw_562 kw_564 kw_14 kw_95) rfl rfl rfl (by decide +kernel) ⟨(by first | omega | (dsimp only; omega)), (by first | omega | (dsimp only; omega))⟩) rfl hl.1 rfl (Nat.le_of_ble_eq_true rfl) dX6_readOne_3 ⟨Nat.le_of_ble_eq_true rfl, Nat.le_of_ble_eq_true rfl⟩) hW (fun r_3 L_1 h_2 H locs p_4 hW => ?_)
  obtain ⟨⟨w_6, fw_6, hr_5⟩, hT, hs⟩ := p_4
  replace hT : hx_T T_tb L_1 h_2 := hT
  replace hs : hx_S T_tb [(6, 2)] L h L_1 h_2 := hs
  replace f_x_3 := (hs.o (gx.S hM) trivial rfl).1.trans f_x_3
  replace f_x_5 := (hs.o (gx.S hM) trivial rfl).1.trans f_x_5
  replace f_qi_4 := (hs.o (gqi.S hM) trivial rfl).1.trans f_qi_4
  replace af_qp : h_2.2.1 qp = pf := (funext fun j => (hs.a (gqp.S hM) rfl j).1).trans af_qp
  replace hM := hM.tr (hs.mono (by decide))
  have fw_6 : h_2.2.1 x 2 = w_6 := fw_6
  have bw_6 := hT.gi (gx.S hM) tt_6 (k := 2) rfl
  rw [fw_6] at bw_6
  have bw_6 : 0 ≤ w_6.toInt ∧ w_6.toInt ≤ 402 := bw_6
  have eu_7 : (r_3.toInt = 1 ∧ hv_wd tf ln0.toInt.toNat (hv_sk tf ln0.toInt.toNat at0.toInt.toNat) = 2) ∨ (r_3.toInt = 0 ∧ hv_wd tf ln0.toInt.toNat (hv_sk tf ln0.toInt.toNat at0.toInt.toNat) ≠ 2) := hv_NW_u (js := 4) (by decide) hr_5.2.1
  have ek_8 : w_6.toInt.toNat = hv_sk tf ln0.toInt.toNat at0.toInt.toNat := by omega
  rw [← ek_8] at eu_7
  refine lv_istore_n (lv' := [(2, .int r_3), (0, .ref x), (1, .int i1)]) hx hb dX6_readOne_6 rfl hl (by decide) rfl (fun ls hl => ?_)
  have sid : hv_sk tf ln0.toInt.toNat w_6.toInt.toNat = w_6.toInt.toNat := by rw [ek_8]; exact hv_sk_id
  have hl0 := hv_ls_l hO
  refine lv_iload_n hx hb dX6_readOne_7 rfl (lv_at hl 0 rfl) ?_
  refine hb_if_ne (zx := r_3.toInt) (tgt := 25) hx hb rfl dX6_readOne_8 (by decide) (fun c_9 => ?_) (fun c_9 => ?_)
  · skip
    replace eu_7 : r_3.toInt = 1 ∧ hv_wd tf ln0.toInt.toNat w_6.toInt.toNat = 2 := by rcases eu_7 with z | z; exact z; exfalso; omega
    refine lv_iload_n hx hb dX6_readOne_25 rfl (lv_at hl 2 rfl) ?_
    refine lv_bipush (v := 8) hx hb dX6_readOne_26 (by decide) ?_
    refine hb_icmp_lt (zx := i1.toInt) (zy := 8) (tgt := 41) hx hb rfl (by decide) dX6_readOne_28 (by decide) (fun c_10 => ?_) (fun c_10 => by exfalso; omega)
    refine lv_iload_n hx hb dX6_readOne_41 rfl (lv_at hl 0 rfl) ?_
    refine hb_if_eq (zx := r_3.toInt) (tgt := 78) hx hb rfl dX6_readOne_42 (by decide) (fun c_11 => by exfalso; omega) (fun c_11 => ?_)
    have hn2 := hv_wd_2 (T := tf) (n := ln0.toInt.toNat) (p := w_6.toInt.toNat) eu_7.2
    refine lv_aload_n hx hb dX6_readOne_45 rfl (lv_at hl 1 rfl) ?_
    refine lv_dup hx hb dX6_readOne_46 rfl ?_
    refine hk_geti hx hb hts hC_6 hown hW (gx.S hM) tt_6 2 (by decide) rfl kw_127 ⟨rfl, rfl, rfl⟩ fw_6 dX6_readOne_47 ?_
    refine lv_iconst (v := 3) hx hb dX6_readOne_50 (by decide) ?_
    refine lv_iadd hx hb dX6_readOne_51 ?_
    have rg_12 := i32_r w_6
    refine lv_topi (fun x_13 ex_13 => ?_)
    have zx_13 : x_13.toInt = w_6.toInt + 3 := by rw [ex_13]; exact i32_add rfl (by decide) (by omega) (by omega)
    refine hx_puti hx hb hts hC_6 hown hW hT (hx_S.rf (M := [(6, 2)])) (gx.S hM) tt_6 2 (by decide) rfl kw_127 ⟨rfl, rfl, rfl⟩ rfl (x := x_13) ⟨by omega, by omega⟩ rfl rfl rfl (List.mem_singleton.mpr rfl) dX6_readOne_52 (fun H locs h_14 eh_14 hW hT hs => ?_)
    replace f_x_3 := (hs.o (gx.S hM) trivial rfl).1.trans f_x_3
    replace f_x_5 := (hs.o (gx.S hM) trivial rfl).1.trans f_x_5
    replace f_qi_4 := (hs.o (gqi.S hM) trivial rfl).1.trans f_qi_4
    replace af_qp : h_14.2.1 qp = pf := (funext fun j => (hs.a (gqp.S hM) rfl j).1).trans af_qp
    replace hM := hM.tr (hs.mono (by decide))
    have f_15 : h_14.2.1 x 2 = x_13 := by rw [eh_14]; exact hx_pi_at _ _ _ _
    refine lv_aload_n hx hb dX6_readOne_55 rfl (lv_at hl 1 rfl) ?_
    refine lv_iload_n hx hb dX6_readOne_56 rfl (lv_at hl 2 rfl) ?_
    refine lv_iconst (v := 1) hx hb dX6_readOne_57 (by decide) ?_
    refine lv_iadd hx hb dX6_readOne_58 ?_
    have rg_16 := i32_r i1
    refine lv_topi (fun x_17 ex_17 => ?_)
    have zx_17 : x_17.toInt = i1.toInt + 1 := by rw [ex_17]; exact i32_add rfl (by decide) (by omega) (by omega)
    have t_hRO9 := t_hRO x_17 (by omega)
    refine hx_goi (hx_runVX (As := [.int x_17]) (rest := []) ⟨hx, hb, hml, hown, hts⟩ hW (gx.S hM) tt_6 (T := TX6) (N := 7) rfl (t_hRO9 l dC dI dA L_1 h_14 H.size b0 x hT (gx.S hM) qt (gqt.S hM) ((hM.o gx trivial rfl).2.trans f_x_0) qi (gqi.S hM) ((hM.o gx trivial rfl).2.trans f_x_6) qp (gqp.S hM) ((hM.o gqi trivial rfl).2.trans f_qi_3) tf (hx_afS hM gqt rfl af_qt) pf af_qp x_13 f_15 ln0 ((hM.o gx trivial rfl).1.trans f_x_1) ft0 f_x_3 tm0 f_x_5 pl0 f_qi_4 o hO (by omega) (by omega) (by omega) ⟨by omega, by omega⟩) hZ (cwV 1 hts (hx_gV kw_560 kw_557 kw_559 kw_13 kw_95) rfl rfl rfl (by decide +kernel) ⟨(by first | omega | (dsimp only; omega)), (by first | omega | (dsimp only; omega))⟩) rfl hl.1 rfl (Nat.le_of_ble_eq_true rfl) dX6_readOne_59 ⟨Nat.le_of_ble_eq_true rfl, Nat.le_of_ble_eq_true rfl⟩) hW (fun r_20 L_18 h_19 H locs p_21 hW => ?_)
    obtain ⟨⟨w_23, w_24, w_25, w_26, w_27, fw_23, fw_24, fw_25, fw_26, fw_27, hr_22⟩, hT, hs⟩ := p_21
    replace hT : hx_T T_tb L_18 h_19 := hT
    replace hs : hx_S T_tb [(6, 2), (6, 3), (6, 5), (128, 0), (129, 4)] L_1 h_14 L_18 h_19 := hs
    replace hM := hM.tr (hs.mono (by decide))
    have fw_23 : h_19.2.1 x 2 = w_23 := fw_23
    have bw_23 := hT.gi (gx.S hM) tt_6 (k := 2) rfl
    rw [fw_23] at bw_23
    have bw_23 : 0 ≤ w_23.toInt ∧ w_23.toInt ≤ 402 := bw_23
    have fw_24 : h_19.2.1 x 3 = w_24 := fw_24
    have bw_24 := hT.gi (gx.S hM) tt_6 (k := 3) rfl
    rw [fw_24] at bw_24
    have bw_24 : -2147483648 ≤ w_24.toInt ∧ w_24.toInt ≤ 2147483647 := bw_24
    have fw_25 : h_19.2.1 x 5 = w_25 := fw_25
    have bw_25 := hT.gi (gx.S hM) tt_6 (k := 5) rfl
    rw [fw_25] at bw_25
    have bw_25 : -2147483648 ≤ w_25.toInt ∧ w_25.toInt ≤ 2147483647 := bw_25
    have fw_26 : h_19.2.1 qi 4 = w_26 := fw_26
    have bw_26 := hT.gi (gqi.S hM) tt_129 (k := 4) rfl
    rw [fw_26] at bw_26
    have bw_26 : 0 ≤ w_26.toInt ∧ w_26.toInt ≤ 160 := bw_26
    have fw_27 : h_19.2.1 qp = w_27 := fw_27
    have hr_22b := hv_K_b hr_22
    refine hb_if_ne (zx := r_20.toInt) (tgt := 67) hx hb rfl dX6_readOne_62 (by decide) (fun c_28 => ?_) (fun c_28 => ?_)
    · skip
      obtain ⟨k1_29F, k1_29p, k1_29t, oo_30, k1_29O, k1_29E⟩ := hv_K_1 hr_22 (by omega)
      have k1_29l := hv_ls_l k1_29O
      replace hr_22b : r_20.toInt = 1 := by omega
      have k1_29g := hv_one_g k1_29E (by omega)
      refine lv_aload_n hx hb dX6_readOne_67 rfl (lv_at hl 1 rfl) ?_
      refine hk_getr hx hb hts hC_6 hown hW (gx.S hM) tt_6 6 (by decide) rfl kw_131 ⟨rfl, rfl, rfl⟩ ((hM.o gx trivial rfl).2.trans f_x_6) dX6_readOne_68 ?_
      refine lv_bipush (v := -3) hx hb dX6_readOne_71 (by decide) ?_
      have zc_m3 : (-3 : Int32).toInt = -3 := by decide
      refine hx_gov (hx_runV (As := [.int (-3 : Int32)]) (rest := []) ⟨hx, hb, hml, hown, hts⟩ hW (gqi.S hM) tt_129 (T := TX0) (N := 5) rfl (t_X0_addProof_v l dC dI dA L_18 h_19 H.size qi (-3 : Int32) hT (gqi.S hM) qp (gqp.S hM) ((hM.o gqi trivial rfl).2.trans f_qi_3) w_27 fw_27 w_26 fw_26 (by omega)) (cwV 1 hts (hx_gV kw_583 kw_580 kw_581 kw_582 kw_96) rfl rfl rfl (by decide +kernel) ⟨(by first | omega | (dsimp only; omega)), (by first | omega | (dsimp only; omega))⟩) rfl hl.1 rfl (Nat.le_of_ble_eq_true rfl) dX6_readOne_73 ⟨Nat.le_of_ble_eq_true rfl, Nat.le_of_ble_eq_true rfl⟩) hW (fun L_31 h_32 H locs p_34 hW => ?_)
      obtain ⟨⟨w_36, w_37, fw_36, fw_37, hr_35⟩, hT, hs⟩ := p_34
      replace hT : hx_T T_tb L_31 h_32 := hT
      replace hs : hx_S T_tb [(128, 0), (129, 4)] L_18 h_19 L_31 h_32 := hs
      replace fw_23 := (hs.o (gx.S hM) trivial rfl).1.trans fw_23
      replace fw_24 := (hs.o (gx.S hM) trivial rfl).1.trans fw_24
      replace fw_25 := (hs.o (gx.S hM) trivial rfl).1.trans fw_25
      replace hM := hM.tr (hs.mono (by decide))
      have fw_36 : h_32.2.1 qi 4 = w_36 := fw_36
      have bw_36 := hT.gi (gqi.S hM) tt_129 (k := 4) rfl
      rw [fw_36] at bw_36
      have bw_36 : 0 ≤ w_36.toInt ∧ w_36.toInt ≤ 160 := bw_36
      have fw_37 : h_32.2.1 qp = w_37 := fw_37
      refine lv_iconst (v := 1) hx hb dX6_readOne_76 (by decide) ?_
      exact hx_retz hx hb hr rfl hlk hW ⟨⟨w_23, w_24, w_25, w_36, w_37, fw_23, fw_24, fw_25, fw_36, fw_37, (hv_K_t (x := w_23.toInt.toNat) (y := w_25.toInt.toNat) (o := (0, 2, 0) :: oo_30) (by decide) (by omega) (by omega) (by omega) (hv_ls_u k1_29O (by decide) (by omega) hr_35.2) (hv_one_n1 (by rw [← ek_8]; exact eu_7.2) (by rw [← ek_8, show w_6.toInt.toNat + 3 = x_13.toInt.toNat by omega]; exact k1_29E)))⟩, hT, hM⟩ dX6_readOne_77
    · skip
      refine lv_iconst (v := 0) hx hb dX6_readOne_65 (by decide) ?_
      exact hx_retz hx hb hr rfl hlk hW ⟨⟨w_23, w_24, w_25, w_26, w_27, fw_23, fw_24, fw_25, fw_26, fw_27, (hv_K_f (x := w_24.toInt.toNat) (by decide) (by have h8 := (hv_K_0 hr_22 (by omega)).1; omega) (by have h8 := (hv_K_0 hr_22 (by omega)).1; omega) (hv_one_n0 (by rw [← ek_8]; exact eu_7.2) (by rw [← ek_8, show w_6.toInt.toNat + 3 = x_13.toInt.toNat by omega]; exact (hv_K_0 hr_22 (by omega)).2)))⟩, hT, hM⟩ dX6_readOne_66
  · skip
    replace eu_7 : r_3.toInt = 0 ∧ hv_wd tf ln0.toInt.toNat w_6.toInt.toNat ≠ 2 := by rcases eu_7 with z | z; (exfalso; omega); exact z
    refine lv_aload_n hx hb dX6_readOne_11 rfl (lv_at hl 1 rfl) ?_
    refine lv_bipush (v := 40) hx hb dX6_readOne_12 (by decide) ?_
    have zc_40 : (40 : Int32).toInt = 40 := by decide
    refine hx_goi (hx_runV (As := [.int (40 : Int32)]) (rest := []) ⟨hx, hb, hml, hown, hts⟩ hW (gx.S hM) tt_6 (T := TX6) (N := 7) rfl (t_X6_isByte_v l dC dI dA L_1 h_2 H.size x (40 : Int32) hT (gx.S hM) qt (gqt.S hM) ((hM.o gx trivial rfl).2.trans f_x_0) tf (hx_afS hM gqt rfl af_qt) w_6 fw_6 ln0 ((hM.o gx trivial rfl).1.trans f_x_1)) (cwV 1 hts (hx_gV kw_569 kw_566 kw_568 kw_15 kw_95) rfl rfl rfl (by decide +kernel) ⟨(by first | omega | (dsimp only; omega)), (by first | omega | (dsimp only; omega))⟩) rfl hl.1 rfl (Nat.le_of_ble_eq_true rfl) dX6_readOne_14 ⟨Nat.le_of_ble_eq_true rfl, Nat.le_of_ble_eq_true rfl⟩) hW (fun r_40 L_38 h_39 H locs p_41 hW => ?_)
    obtain ⟨hr_42, hT, hs⟩ := p_41
    replace hT : hx_T T_tb L_38 h_39 := hT
    replace hs : hx_S T_tb [] L_1 h_2 L_38 h_39 := hs
    replace f_x_3 := (hs.o (gx.S hM) trivial rfl).1.trans f_x_3
    replace f_x_5 := (hs.o (gx.S hM) trivial rfl).1.trans f_x_5
    replace f_qi_4 := (hs.o (gqi.S hM) trivial rfl).1.trans f_qi_4
    replace fw_6 := (hs.o (gx.S hM) trivial rfl).1.trans fw_6
    replace af_qp : h_39.2.1 qp = pf := (funext fun j => (hs.a (gqp.S hM) rfl j).1).trans af_qp
    replace hM := hM.tr (hs.mono (by decide))
    refine hb_if_ne (zx := r_40.toInt) (tgt := 25) hx hb rfl dX6_readOne_17 (by decide) (fun c_43 => ?_) (fun c_43 => ?_)
    · skip
      replace hr_42 : r_40.toInt = 1 ∧ (w_6.toInt < ln0.toInt ∧ (tf w_6.toInt.toNat).toInt = 40) := by have z8 : (40 : Int32).toInt = 40 := (by decide); rcases hr_42 with z | z; exact ⟨z.1, by omega, by omega⟩; exfalso; omega
      refine lv_iload_n hx hb dX6_readOne_25 rfl (lv_at hl 2 rfl) ?_
      refine lv_bipush (v := 8) hx hb dX6_readOne_26 (by decide) ?_
      refine hb_icmp_lt (zx := i1.toInt) (zy := 8) (tgt := 41) hx hb rfl (by decide) dX6_readOne_28 (by decide) (fun c_44 => ?_) (fun c_44 => by exfalso; omega)
      refine lv_iload_n hx hb dX6_readOne_41 rfl (lv_at hl 0 rfl) ?_
      refine hb_if_eq (zx := r_3.toInt) (tgt := 78) hx hb rfl dX6_readOne_42 (by decide) (fun c_45 => ?_) (fun c_45 => by exfalso; omega)
      refine lv_aload_n hx hb dX6_readOne_78 rfl (lv_at hl 1 rfl) ?_
      refine lv_dup hx hb dX6_readOne_79 rfl ?_
      refine hk_geti hx hb hts hC_6 hown hW (gx.S hM) tt_6 2 (by decide) rfl kw_127 ⟨rfl, rfl, rfl⟩ fw_6 dX6_readOne_80 ?_
      refine lv_iconst (v := 1) hx hb dX6_readOne_83 (by decide) ?_
      refine lv_iadd hx hb dX6_readOne_84 ?_
      have rg_46 := i32_r w_6
      refine lv_topi (fun x_47 ex_47 => ?_)
      have zx_47 : x_47.toInt = w_6.toInt + 1 := by rw [ex_47]; exact i32_add rfl (by decide) (by omega) (by omega)
      refine hx_puti hx hb hts hC_6 hown hW hT (hx_S.rf (M := [(6, 2)])) (gx.S hM) tt_6 2 (by decide) rfl kw_127 ⟨rfl, rfl, rfl⟩ rfl (x := x_47) ⟨by omega, by omega⟩ rfl rfl rfl (List.mem_singleton.mpr rfl) dX6_readOne_85 (fun H locs h_48 eh_48 hW hT hs => ?_)
      replace f_x_3 := (hs.o (gx.S hM) trivial rfl).1.trans f_x_3
      replace f_x_5 := (hs.o (gx.S hM) trivial rfl).1.trans f_x_5
      replace f_qi_4 := (hs.o (gqi.S hM) trivial rfl).1.trans f_qi_4
      replace af_qp : h_48.2.1 qp = pf := (funext fun j => (hs.a (gqp.S hM) rfl j).1).trans af_qp
      replace hM := hM.tr (hs.mono (by decide))
      have f_49 : h_48.2.1 x 2 = x_47 := by rw [eh_48]; exact hx_pi_at _ _ _ _
      refine lv_aload_n hx hb dX6_readOne_88 rfl (lv_at hl 1 rfl) ?_
      refine lv_iload_n hx hb dX6_readOne_89 rfl (lv_at hl 2 rfl) ?_
      refine lv_iconst (v := 1) hx hb dX6_readOne_90 (by decide) ?_
      refine lv_iadd hx hb dX6_readOne_91 ?_
      have rg_50 := i32_r i1
      refine lv_topi (fun x_51 ex_51 => ?_)
      have zx_51 : x_51.toInt = i1.toInt + 1 := by rw [ex_51]; exact i32_add rfl (by decide) (by omega) (by omega)
      have t_hRE9 := t_hRE x_51 (by omega)
      refine hx_goi (hx_runVX (As := [.int x_51]) (rest := []) ⟨hx, hb, hml, hown, hts⟩ hW (gx.S hM) tt_6 (T := TX6) (N := 7) rfl (t_hRE9 l dC dI dA L_38 h_48 H.size b0 x hT (gx.S hM) qt (gqt.S hM) ((hM.o gx trivial rfl).2.trans f_x_0) qi (gqi.S hM) ((hM.o gx trivial rfl).2.trans f_x_6) qp (gqp.S hM) ((hM.o gqi trivial rfl).2.trans f_qi_3) tf (hx_afS hM gqt rfl af_qt) pf af_qp x_47 f_49 ln0 ((hM.o gx trivial rfl).1.trans f_x_1) ft0 f_x_3 tm0 f_x_5 pl0 f_qi_4 o hO (by omega) (by omega) (by omega) ⟨by omega, by omega⟩) hZ (cwV 1 hts (hx_gV kw_556 kw_553 kw_555 kw_12 kw_95) rfl rfl rfl (by decide +kernel) ⟨(by first | omega | (dsimp only; omega)), (by first | omega | (dsimp only; omega))⟩) rfl hl.1 rfl (Nat.le_of_ble_eq_true rfl) dX6_readOne_92 ⟨Nat.le_of_ble_eq_true rfl, Nat.le_of_ble_eq_true rfl⟩) hW (fun r_54 L_52 h_53 H locs p_55 hW => ?_)
      obtain ⟨⟨w_57, w_58, w_59, w_60, w_61, fw_57, fw_58, fw_59, fw_60, fw_61, hr_56⟩, hT, hs⟩ := p_55
      replace hT : hx_T T_tb L_52 h_53 := hT
      replace hs : hx_S T_tb [(6, 2), (6, 3), (6, 5), (128, 0), (129, 4)] L_38 h_48 L_52 h_53 := hs
      replace hM := hM.tr (hs.mono (by decide))
      have fw_57 : h_53.2.1 x 2 = w_57 := fw_57
      have bw_57 := hT.gi (gx.S hM) tt_6 (k := 2) rfl
      rw [fw_57] at bw_57
      have bw_57 : 0 ≤ w_57.toInt ∧ w_57.toInt ≤ 402 := bw_57
      have fw_58 : h_53.2.1 x 3 = w_58 := fw_58
      have bw_58 := hT.gi (gx.S hM) tt_6 (k := 3) rfl
      rw [fw_58] at bw_58
      have bw_58 : -2147483648 ≤ w_58.toInt ∧ w_58.toInt ≤ 2147483647 := bw_58
      have fw_59 : h_53.2.1 x 5 = w_59 := fw_59
      have bw_59 := hT.gi (gx.S hM) tt_6 (k := 5) rfl
      rw [fw_59] at bw_59
      have bw_59 : -2147483648 ≤ w_59.toInt ∧ w_59.toInt ≤ 2147483647 := bw_59
      have fw_60 : h_53.2.1 qi 4 = w_60 := fw_60
      have bw_60 := hT.gi (gqi.S hM) tt_129 (k := 4) rfl
      rw [fw_60] at bw_60
      have bw_60 : 0 ≤ w_60.toInt ∧ w_60.toInt ≤ 160 := bw_60
      have fw_61 : h_53.2.1 qp = w_61 := fw_61
      have hr_56b := hv_K_b hr_56
      refine hb_if_ne (zx := r_54.toInt) (tgt := 100) hx hb rfl dX6_readOne_95 (by decide) (fun c_62 => ?_) (fun c_62 => ?_)
      · skip
        obtain ⟨k1_63F, k1_63p, k1_63t, oo_64, k1_63O, k1_63E⟩ := hv_K_1 hr_56 (by omega)
        have k1_63l := hv_ls_l k1_63O
        replace hr_56b : r_54.toInt = 1 := by omega
        have k1_63g := hv_LE_g k1_63E (by omega)
        refine lv_aload_n hx hb dX6_readOne_100 rfl (lv_at hl 1 rfl) ?_
        refine hx_gov (hx_runV (As := []) (rest := []) ⟨hx, hb, hml, hown, hts⟩ hW (gx.S hM) tt_6 (T := TX6) (N := 7) rfl (t_X6_skipBlanks_v l dC dI dA L_52 h_53 H.size x hT (gx.S hM) qt (gqt.S hM) ((hM.o gx trivial rfl).2.trans f_x_0) tf (hx_afS hM gqt rfl af_qt) w_57 fw_57 ln0 ((hM.o gx trivial rfl).1.trans f_x_1) (by omega)) (cwV 0 hts (hx_gV kw_458 kw_455 kw_457 kw_1 kw_95) rfl rfl rfl (by decide +kernel) ⟨(by first | omega | (dsimp only; omega)), (by first | omega | (dsimp only; omega))⟩) rfl hl.1 rfl (Nat.le_of_ble_eq_true rfl) dX6_readOne_101 ⟨Nat.le_of_ble_eq_true rfl, Nat.le_of_ble_eq_true rfl⟩) hW (fun L_65 h_66 H locs p_68 hW => ?_)
        obtain ⟨⟨w_70, fw_70, hr_69⟩, hT, hs⟩ := p_68
        replace hT : hx_T T_tb L_65 h_66 := hT
        replace hs : hx_S T_tb [(6, 2)] L_52 h_53 L_65 h_66 := hs
        replace fw_58 := (hs.o (gx.S hM) trivial rfl).1.trans fw_58
        replace fw_59 := (hs.o (gx.S hM) trivial rfl).1.trans fw_59
        replace fw_60 := (hs.o (gqi.S hM) trivial rfl).1.trans fw_60
        replace fw_61 : h_66.2.1 qp = w_61 := (funext fun j => (hs.a (gqp.S hM) rfl j).1).trans fw_61
        replace hM := hM.tr (hs.mono (by decide))
        have fw_70 : h_66.2.1 x 2 = w_70 := fw_70
        have bw_70 := hT.gi (gx.S hM) tt_6 (k := 2) rfl
        rw [fw_70] at bw_70
        have bw_70 : 0 ≤ w_70.toInt ∧ w_70.toInt ≤ 402 := bw_70
        have ek_71 : w_70.toInt.toNat = hv_sk tf ln0.toInt.toNat w_57.toInt.toNat := by omega
        refine lv_aload_n hx hb dX6_readOne_104 rfl (lv_at hl 1 rfl) ?_
        refine lv_bipush (v := 41) hx hb dX6_readOne_105 (by decide) ?_
        have zc_41 : (41 : Int32).toInt = 41 := by decide
        refine hx_goi (hx_runV (As := [.int (41 : Int32)]) (rest := []) ⟨hx, hb, hml, hown, hts⟩ hW (gx.S hM) tt_6 (T := TX6) (N := 7) rfl (t_X6_isByte_v l dC dI dA L_65 h_66 H.size x (41 : Int32) hT (gx.S hM) qt (gqt.S hM) ((hM.o gx trivial rfl).2.trans f_x_0) tf (hx_afS hM gqt rfl af_qt) w_70 fw_70 ln0 ((hM.o gx trivial rfl).1.trans f_x_1)) (cwV 1 hts (hx_gV kw_569 kw_566 kw_568 kw_15 kw_95) rfl rfl rfl (by decide +kernel) ⟨(by first | omega | (dsimp only; omega)), (by first | omega | (dsimp only; omega))⟩) rfl hl.1 rfl (Nat.le_of_ble_eq_true rfl) dX6_readOne_107 ⟨Nat.le_of_ble_eq_true rfl, Nat.le_of_ble_eq_true rfl⟩) hW (fun r_74 L_72 h_73 H locs p_75 hW => ?_)
        obtain ⟨hr_76, hT, hs⟩ := p_75
        replace hT : hx_T T_tb L_72 h_73 := hT
        replace hs : hx_S T_tb [] L_65 h_66 L_72 h_73 := hs
        replace fw_58 := (hs.o (gx.S hM) trivial rfl).1.trans fw_58
        replace fw_59 := (hs.o (gx.S hM) trivial rfl).1.trans fw_59
        replace fw_60 := (hs.o (gqi.S hM) trivial rfl).1.trans fw_60
        replace fw_70 := (hs.o (gx.S hM) trivial rfl).1.trans fw_70
        replace fw_61 : h_73.2.1 qp = w_61 := (funext fun j => (hs.a (gqp.S hM) rfl j).1).trans fw_61
        replace hM := hM.tr (hs.mono (by decide))
        refine hb_if_ne (zx := r_74.toInt) (tgt := 123) hx hb rfl dX6_readOne_110 (by decide) (fun c_77 => ?_) (fun c_77 => ?_)
        · skip
          replace hr_76 : r_74.toInt = 1 ∧ (w_70.toInt < ln0.toInt ∧ (tf w_70.toInt.toNat).toInt = 41) := by have z8 : (41 : Int32).toInt = 41 := (by decide); rcases hr_76 with z | z; exact ⟨z.1, by omega, by omega⟩; exfalso; omega
          refine lv_aload_n hx hb dX6_readOne_123 rfl (lv_at hl 1 rfl) ?_
          refine lv_dup hx hb dX6_readOne_124 rfl ?_
          refine hk_geti hx hb hts hC_6 hown hW (gx.S hM) tt_6 2 (by decide) rfl kw_127 ⟨rfl, rfl, rfl⟩ fw_70 dX6_readOne_125 ?_
          refine lv_iconst (v := 1) hx hb dX6_readOne_128 (by decide) ?_
          refine lv_iadd hx hb dX6_readOne_129 ?_
          have rg_78 := i32_r w_70
          refine lv_topi (fun x_79 ex_79 => ?_)
          have zx_79 : x_79.toInt = w_70.toInt + 1 := by rw [ex_79]; exact i32_add rfl (by decide) (by omega) (by omega)
          refine hx_puti hx hb hts hC_6 hown hW hT (hx_S.rf (M := [(6, 2)])) (gx.S hM) tt_6 2 (by decide) rfl kw_127 ⟨rfl, rfl, rfl⟩ rfl (x := x_79) ⟨by omega, by omega⟩ rfl rfl rfl (List.mem_singleton.mpr rfl) dX6_readOne_130 (fun H locs h_80 eh_80 hW hT hs => ?_)
          replace fw_58 := (hs.o (gx.S hM) trivial rfl).1.trans fw_58
          replace fw_59 := (hs.o (gx.S hM) trivial rfl).1.trans fw_59
          replace fw_60 := (hs.o (gqi.S hM) trivial rfl).1.trans fw_60
          replace fw_61 : h_80.2.1 qp = w_61 := (funext fun j => (hs.a (gqp.S hM) rfl j).1).trans fw_61
          replace hM := hM.tr (hs.mono (by decide))
          have f_81 : h_80.2.1 x 2 = x_79 := by rw [eh_80]; exact hx_pi_at _ _ _ _
          refine lv_iconst (v := 1) hx hb dX6_readOne_133 (by decide) ?_
          exact hx_retz hx hb hr rfl hlk hW ⟨⟨x_79, w_58, w_59, w_60, w_61, f_81, fw_58, fw_59, fw_60, fw_61, (hv_K_t (x := w_70.toInt.toNat + 1) (y := w_59.toInt.toNat) (o := oo_64) (by decide) (by omega) (by omega) (by omega) k1_63O ((hv_one_p1 (by rw [← ek_8]; exact eu_7.2) (by rw [← ek_8]; exact ⟨by omega, hr_42.2.2⟩) (by rw [← ek_8, show w_6.toInt.toNat + 1 = x_47.toInt.toNat by omega]; exact k1_63E) (by rw [← ek_71]; exact ⟨by omega, hr_76.2.2⟩)).trans (by rw [← ek_71])))⟩, hT, hM⟩ dX6_readOne_134
        · skip
          replace hr_76 : r_74.toInt = 0 ∧ ¬ (w_70.toInt < ln0.toInt ∧ (tf w_70.toInt.toNat).toInt = 41) := by have z8 : (41 : Int32).toInt = 41 := (by decide); rcases hr_76 with z | z; (exfalso; omega); exact ⟨z.1, fun z9 => z.2 ⟨by omega, by omega⟩⟩
          refine lv_aload_n hx hb dX6_readOne_113 rfl (lv_at hl 1 rfl) ?_
          refine lv_aload_n hx hb dX6_readOne_114 rfl (lv_at hl 1 rfl) ?_
          refine hk_geti hx hb hts hC_6 hown hW (gx.S hM) tt_6 2 (by decide) rfl kw_127 ⟨rfl, rfl, rfl⟩ fw_70 dX6_readOne_115 ?_
          refine lv_iconst (v := 0) hx hb dX6_readOne_118 (by decide) ?_
          have zc_0 : (0 : Int32).toInt = 0 := by decide
          refine hx_goi (hx_runV (As := [.int w_70, .int (0 : Int32)]) (rest := []) ⟨hx, hb, hml, hown, hts⟩ hW (gx.S hM) tt_6 (T := TX6) (N := 7) rfl (t_X6_refuse_v l dC dI dA L_72 h_73 H.size x w_70 (0 : Int32) hT (gx.S hM) ⟨by omega, by omega⟩ (by decide)) (cwV 2 hts (hx_gV kw_527 kw_524 kw_526 kw_6 kw_95) rfl rfl rfl (by decide +kernel) ⟨(by first | omega | (dsimp only; omega)), (by first | omega | (dsimp only; omega))⟩) rfl hl.1 rfl (Nat.le_of_ble_eq_true rfl) dX6_readOne_119 ⟨Nat.le_of_ble_eq_true rfl, Nat.le_of_ble_eq_true rfl⟩) hW (fun r_84 L_82 h_83 H locs p_85 hW => ?_)
          obtain ⟨⟨w_87, fw_87, hr_86⟩, hT, hs⟩ := p_85
          replace hT : hx_T T_tb L_82 h_83 := hT
          replace hs : hx_S T_tb [(6, 3)] L_72 h_73 L_82 h_83 := hs
          replace fw_59 := (hs.o (gx.S hM) trivial rfl).1.trans fw_59
          replace fw_60 := (hs.o (gqi.S hM) trivial rfl).1.trans fw_60
          replace fw_70 := (hs.o (gx.S hM) trivial rfl).1.trans fw_70
          replace fw_61 : h_83.2.1 qp = w_61 := (funext fun j => (hs.a (gqp.S hM) rfl j).1).trans fw_61
          replace hM := hM.tr (hs.mono (by decide))
          have fw_87 : h_83.2.1 x 3 = w_87 := fw_87
          have bw_87 := hT.gi (gx.S hM) tt_6 (k := 3) rfl
          rw [fw_87] at bw_87
          have bw_87 : -2147483648 ≤ w_87.toInt ∧ w_87.toInt ≤ 2147483647 := bw_87
          exact hx_retz hx hb hr (hx_nar01 (by omega)) hlk hW ⟨⟨w_70, w_87, w_59, w_60, w_61, fw_70, fw_87, fw_59, fw_60, fw_61, (hv_K_f (x := 1 + 8 * w_70.toInt.toNat) (by omega) (by omega) (by omega) ((hv_one_p2 (by rw [← ek_8]; exact eu_7.2) (by rw [← ek_8]; exact ⟨by omega, hr_42.2.2⟩) (by rw [← ek_8, show w_6.toInt.toNat + 1 = x_47.toInt.toNat by omega]; exact k1_63E) (by rw [← ek_71]; exact fun z => hr_76.2 ⟨by omega, z.2⟩)).trans (by rw [← ek_71])))⟩, hT, hM⟩ dX6_readOne_122
      · skip
        refine lv_iconst (v := 0) hx hb dX6_readOne_98 (by decide) ?_
        exact hx_retz hx hb hr rfl hlk hW ⟨⟨w_57, w_58, w_59, w_60, w_61, fw_57, fw_58, fw_59, fw_60, fw_61, (hv_K_f (x := w_58.toInt.toNat) (by decide) (by have h8 := (hv_K_0 hr_56 (by omega)).1; omega) (by have h8 := (hv_K_0 hr_56 (by omega)).1; omega) (hv_one_p0 (by rw [← ek_8]; exact eu_7.2) (by rw [← ek_8]; exact ⟨by omega, hr_42.2.2⟩) (by rw [← ek_8, show w_6.toInt.toNat + 1 = x_47.toInt.toNat by omega]; exact (hv_K_0 hr_56 (by omega)).2)))⟩, hT, hM⟩ dX6_readOne_99
    · skip
      replace hr_42 : r_40.toInt = 0 ∧ ¬ (w_6.toInt < ln0.toInt ∧ (tf w_6.toInt.toNat).toInt = 40) := by have z8 : (40 : Int32).toInt = 40 := (by decide); rcases hr_42 with z | z; (exfalso; omega); exact ⟨z.1, fun z9 => z.2 ⟨by omega, by omega⟩⟩
      refine lv_aload_n hx hb dX6_readOne_20 rfl (lv_at hl 1 rfl) ?_
      refine hx_goi (hx_runVX (As := []) (rest := []) ⟨hx, hb, hml, hown, hts⟩ hW (gx.S hM) tt_6 (T := TX6) (N := 7) rfl (t_X6_readTerm_v l dC dI dA L_38 h_39 H.size b0 x hT (gx.S hM) qt (gqt.S hM) ((hM.o gx trivial rfl).2.trans f_x_0) qi (gqi.S hM) ((hM.o gx trivial rfl).2.trans f_x_6) qp (gqp.S hM) ((hM.o gqi trivial rfl).2.trans f_qi_3) tf (hx_afS hM gqt rfl af_qt) pf af_qp w_6 fw_6 ln0 ((hM.o gx trivial rfl).1.trans f_x_1) ft0 f_x_3 tm0 f_x_5 pl0 f_qi_4 o hO (by omega) (by omega) (by omega) ⟨by omega, by omega⟩) hZ (cwV 0 hts (hx_gV kw_573 kw_570 kw_572 kw_16 kw_95) rfl rfl rfl (by decide +kernel) ⟨(by first | omega | (dsimp only; omega)), (by first | omega | (dsimp only; omega))⟩) rfl hl.1 rfl (Nat.le_of_ble_eq_true rfl) dX6_readOne_21 ⟨Nat.le_of_ble_eq_true rfl, Nat.le_of_ble_eq_true rfl⟩) hW (fun r_90 L_88 h_89 H locs p_91 hW => ?_)
      obtain ⟨⟨w_93, w_94, w_95, w_96, w_97, fw_93, fw_94, fw_95, fw_96, fw_97, hr_92⟩, hT, hs⟩ := p_91
      replace hT : hx_T T_tb L_88 h_89 := hT
      replace hs : hx_S T_tb [(6, 2), (6, 3), (6, 5), (128, 0), (129, 4)] L_38 h_39 L_88 h_89 := hs
      replace hM := hM.tr (hs.mono (by decide))
      have fw_93 : h_89.2.1 x 2 = w_93 := fw_93
      have bw_93 := hT.gi (gx.S hM) tt_6 (k := 2) rfl
      rw [fw_93] at bw_93
      have bw_93 : 0 ≤ w_93.toInt ∧ w_93.toInt ≤ 402 := bw_93
      have fw_94 : h_89.2.1 x 3 = w_94 := fw_94
      have bw_94 := hT.gi (gx.S hM) tt_6 (k := 3) rfl
      rw [fw_94] at bw_94
      have bw_94 : -2147483648 ≤ w_94.toInt ∧ w_94.toInt ≤ 2147483647 := bw_94
      have fw_95 : h_89.2.1 x 5 = w_95 := fw_95
      have bw_95 := hT.gi (gx.S hM) tt_6 (k := 5) rfl
      rw [fw_95] at bw_95
      have bw_95 : -2147483648 ≤ w_95.toInt ∧ w_95.toInt ≤ 2147483647 := bw_95
      have fw_96 : h_89.2.1 qi 4 = w_96 := fw_96
      have bw_96 := hT.gi (gqi.S hM) tt_129 (k := 4) rfl
      rw [fw_96] at bw_96
      have bw_96 : 0 ≤ w_96.toInt ∧ w_96.toInt ≤ 160 := bw_96
      have fw_97 : h_89.2.1 qp = w_97 := fw_97
      have hr_92b := hv_K_b hr_92
      exact hx_retz hx hb hr (hx_nar01 (by omega)) hlk hW ⟨⟨w_93, w_94, w_95, w_96, w_97, fw_93, fw_94, fw_95, fw_96, fw_97, (hv_K_c hr_92 ((hv_one_t (by rw [← ek_8]; exact eu_7.2) (by rw [← ek_8]; exact fun z => hr_42.2 ⟨by omega, z.2⟩)).trans (by rw [sid, ← ek_8])))⟩, hT, hM⟩ dX6_readOne_24

theorem hv_MO_8 : hv_MO (8 : Int32) 0 7 158 := t_X6_readOne_v8
theorem hv_ME_8 : hv_ME (8 : Int32) 0 8 180 := t_X6_readEither_g 8 0 7 158 (by decide) (by decide) hv_MO_8
theorem hv_MO_7 : hv_MO (7 : Int32) 1 9 204 := t_X6_readOne_g 7 (by decide) 0 7 158 8 180 (by decide) (by decide) (by decide) (by decide) (fun i2 h => by obtain rfl : i2 = 8 := Int32.toInt_inj.mp (h.trans (by decide)); exact hv_MO_8) (fun i2 h => by obtain rfl : i2 = 8 := Int32.toInt_inj.mp (h.trans (by decide)); exact hv_ME_8)
theorem hv_ME_7 : hv_ME (7 : Int32) 1 10 226 := t_X6_readEither_g 7 1 9 204 (by decide) (by decide) hv_MO_7
theorem hv_MO_6 : hv_MO (6 : Int32) 2 11 250 := t_X6_readOne_g 6 (by decide) 1 9 204 10 226 (by decide) (by decide) (by decide) (by decide) (fun i2 h => by obtain rfl : i2 = 7 := Int32.toInt_inj.mp (h.trans (by decide)); exact hv_MO_7) (fun i2 h => by obtain rfl : i2 = 7 := Int32.toInt_inj.mp (h.trans (by decide)); exact hv_ME_7)
theorem hv_ME_6 : hv_ME (6 : Int32) 2 12 272 := t_X6_readEither_g 6 2 11 250 (by decide) (by decide) hv_MO_6
theorem hv_MO_5 : hv_MO (5 : Int32) 3 13 296 := t_X6_readOne_g 5 (by decide) 2 11 250 12 272 (by decide) (by decide) (by decide) (by decide) (fun i2 h => by obtain rfl : i2 = 6 := Int32.toInt_inj.mp (h.trans (by decide)); exact hv_MO_6) (fun i2 h => by obtain rfl : i2 = 6 := Int32.toInt_inj.mp (h.trans (by decide)); exact hv_ME_6)
theorem hv_ME_5 : hv_ME (5 : Int32) 3 14 318 := t_X6_readEither_g 5 3 13 296 (by decide) (by decide) hv_MO_5
theorem hv_MO_4 : hv_MO (4 : Int32) 4 15 342 := t_X6_readOne_g 4 (by decide) 3 13 296 14 318 (by decide) (by decide) (by decide) (by decide) (fun i2 h => by obtain rfl : i2 = 5 := Int32.toInt_inj.mp (h.trans (by decide)); exact hv_MO_5) (fun i2 h => by obtain rfl : i2 = 5 := Int32.toInt_inj.mp (h.trans (by decide)); exact hv_ME_5)
theorem hv_ME_4 : hv_ME (4 : Int32) 4 16 364 := t_X6_readEither_g 4 4 15 342 (by decide) (by decide) hv_MO_4
theorem hv_MO_3 : hv_MO (3 : Int32) 5 17 388 := t_X6_readOne_g 3 (by decide) 4 15 342 16 364 (by decide) (by decide) (by decide) (by decide) (fun i2 h => by obtain rfl : i2 = 4 := Int32.toInt_inj.mp (h.trans (by decide)); exact hv_MO_4) (fun i2 h => by obtain rfl : i2 = 4 := Int32.toInt_inj.mp (h.trans (by decide)); exact hv_ME_4)
theorem hv_ME_3 : hv_ME (3 : Int32) 5 18 410 := t_X6_readEither_g 3 5 17 388 (by decide) (by decide) hv_MO_3
theorem hv_MO_2 : hv_MO (2 : Int32) 6 19 434 := t_X6_readOne_g 2 (by decide) 5 17 388 18 410 (by decide) (by decide) (by decide) (by decide) (fun i2 h => by obtain rfl : i2 = 3 := Int32.toInt_inj.mp (h.trans (by decide)); exact hv_MO_3) (fun i2 h => by obtain rfl : i2 = 3 := Int32.toInt_inj.mp (h.trans (by decide)); exact hv_ME_3)
theorem hv_ME_2 : hv_ME (2 : Int32) 6 20 456 := t_X6_readEither_g 2 6 19 434 (by decide) (by decide) hv_MO_2
theorem hv_MO_1 : hv_MO (1 : Int32) 7 21 480 := t_X6_readOne_g 1 (by decide) 6 19 434 20 456 (by decide) (by decide) (by decide) (by decide) (fun i2 h => by obtain rfl : i2 = 2 := Int32.toInt_inj.mp (h.trans (by decide)); exact hv_MO_2) (fun i2 h => by obtain rfl : i2 = 2 := Int32.toInt_inj.mp (h.trans (by decide)); exact hv_ME_2)
theorem hv_ME_1 : hv_ME (1 : Int32) 7 22 502 := t_X6_readEither_g 1 7 21 480 (by decide) (by decide) hv_MO_1
theorem hv_MO_0 : hv_MO (0 : Int32) 8 23 526 := t_X6_readOne_g 0 (by decide) 7 21 480 22 502 (by decide) (by decide) (by decide) (by decide) (fun i2 h => by obtain rfl : i2 = 1 := Int32.toInt_inj.mp (h.trans (by decide)); exact hv_MO_1) (fun i2 h => by obtain rfl : i2 = 1 := Int32.toInt_inj.mp (h.trans (by decide)); exact hv_ME_1)
theorem hv_ME_0 : hv_ME (0 : Int32) 8 24 548 := t_X6_readEither_g 0 8 23 526 (by decide) (by decide) hv_MO_0
theorem t_X6_readEither_v0 : hv_ME (0 : Int32) 8 24 548 := hv_ME_0
