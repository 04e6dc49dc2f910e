
set_option maxHeartbeats 4000000 in
set_option maxRecDepth 100000 in
theorem t_X10_isOpen_v (l : Launch) (dC : Nat → ClassId) (dI : Nat → Nat → Nat) (dA : Nat → ClassId) (L : List Nat) (h : hx_h) (sz : Nat) (x : Nat) (i1 : Int32) (hT : hx_T T_tb L h) (gx : hx_g L h x 10) (qfo : Nat) (gqfo : hx_g L h qfo 81) (f_x_46 : h.2.2 x 46 = some qfo) (qhe : Nat) (gqhe : hx_g L h qhe 82) (f_x_47 : h.2.2 x 47 = some qhe) (qju : Nat) (gqju : hx_g L h qju 86) (f_x_51 : h.2.2 x 51 = some qju) (qod : Nat) (gqod : hx_g L h qod 83) (f_x_48 : h.2.2 x 48 = some qod) (qsv : Nat) (gqsv : hx_g L h qsv 85) (f_x_50 : h.2.2 x 50 = some qsv) (qsz : Nat) (gqsz : hx_g L h qsz 84) (f_x_49 : h.2.2 x 49 = some qsz) (qgd : Nat) (gqgd : hx_g L h qgd 91) (f_x_56 : h.2.2 x 56 = some qgd) (qow : Nat) (gqow : hx_g L h qow 90) (f_x_55 : h.2.2 x 55 = some qow) (qwk : Nat) (gqwk : hx_g L h qwk 89) (f_x_54 : h.2.2 x 54 = some qwk) (qpl : Nat) (gqpl : hx_g L h qpl 79) (f_x_44 : h.2.2 x 44 = some qpl) (qru : Nat) (gqru : hx_g L h qru 50) (f_x_3 : h.2.2 x 3 = some qru) (qpo : Nat) (gqpo : hx_g L h qpo 93) (f_x_60 : h.2.2 x 60 = some qpo) (qpd : Nat) (gqpd : hx_g L h qpd 94) (f_x_61 : h.2.2 x 61 = some qpd) (qps : Nat) (gqps : hx_g L h qps 95) (f_x_62 : h.2.2 x 62 = some qps) (qpk : Nat) (gqpk : hx_g L h qpk 96) (f_x_63 : h.2.2 x 63 = some qpk) (qpt : Nat) (gqpt : hx_g L h qpt 97) (f_x_64 : h.2.2 x 64 = some qpt) (fof : Nat → Int32) (af_qfo : h.2.1 qfo = fof) (hrf : Nat → Int32) (af_qhe : h.2.1 qhe = hrf) (udf : Nat → Int32) (af_qju : h.2.1 qju = udf) (odf : Nat → Int32) (af_qod : h.2.1 qod = odf) (svf : Nat → Int32) (af_qsv : h.2.1 qsv = svf) (szf : Nat → Int32) (af_qsz : h.2.1 qsz = szf) (gdf : Nat → Int32) (af_qgd : h.2.1 qgd = gdf) (owf : Nat → Int32) (af_qow : h.2.1 qow = owf) (wkf : Nat → Int32) (af_qwk : h.2.1 qwk = wkf) (plf : Nat → Int32) (af_qpl : h.2.1 qpl = plf) (rlf : Nat → Int32) (af_qru : h.2.1 qru = rlf) (pof : Nat → Int32) (af_qpo : h.2.1 qpo = pof) (pdf : Nat → Int32) (af_qpd : h.2.1 qpd = pdf) (psm : Nat → Int32) (af_qps : h.2.1 qps = psm) (pkf : Nat → Int32) (af_qpk : h.2.1 qpk = pkf) (pst : Nat → Int32) (af_qpt : h.2.1 qpt = pst) (c0 : Int32) (f_x_36 : h.2.1 x 36 = c0) (a0 : Int32) (f_x_1 : h.2.1 x 1 = a0) (nw0 : Int32) (f_x_0 : h.2.1 x 0 = nw0) (n0 : Int32) (f_x_59 : h.2.1 x 59 = n0) (hi1 : 0 ≤ i1.toInt ∧ i1.toInt < c0.toInt) (adf psf prf : Nat → Int32) (A : Nat → hv_act) (hCA : hv_CA adf rlf psf prf a0.toInt A) (hPL : hx_PL plf c0.toInt a0.toInt) : Met l yX10_isOpen (Cond.code yX10_isOpen cX10_isOpen 2 (some .boolean) :: hx_all) ({ frames := 2, cells := 0, slots := 0, locals := 50 }) (va_Pc [.ref x, .int i1] (hx_B T_tb (P_ty dA) (dC, dI) vwCl L h sz)) (va_Qi (fun (r : Int32) (u : List Nat × hx_h) => (∃ (rs1 : Int32), u.2.2.1 x 68 = rs1 ∧ (((r.toInt = 1 ∧ 0 < (hz_Rn odf szf gdf owf svf (hz_rc A plf) pof pdf psm pkf pst nw0.toInt n0.toInt.toNat) i1.toInt.toNat) ∨ (r.toInt = 0 ∧ ¬ 0 < (hz_Rn odf szf gdf owf svf (hz_rc A plf) pof pdf psm pkf pst nw0.toInt n0.toInt.toNat) i1.toInt.toNat)) ∧ rs1.toInt = (hz_Rn odf szf gdf owf svf (hz_rc A plf) pof pdf psm pkf pst nw0.toInt n0.toInt.toNat) i1.toInt.toNat)) ∧ hx_T T_tb u.1 u.2 ∧ hx_S T_tb [(10, 67), (10, 68), (10, 69), (10, 70), (10, 71)] L h u.1 u.2) (hx_E T_tb (P_ty dA) (dC, dI) vwCl (hx_A L sz)) (hx_A L sz)) 0 0 (hx_A L sz) := by
  refine hx_met (lv := [(0, .ref x), (1, .int i1)]) (by decide +kernel) rfl (Nat.le_of_ble_eq_true rfl) rfl ?_
  intro p e s m below meth c hx hb hml hr hlk hts0 hown hin hsz hW ls hl
  have hts : ∀ w ∈ hx_all, w.before _ s = true := fun w hw => hts0 w (List.mem_cons_of_mem _ hw)
  have hown : s.vm.findClass "SmallCourtModel" = some m.cls := hown
  have hM : hx_S T_tb [(10, 67), (10, 68), (10, 69), (10, 70), (10, 71)] L h L h := hx_S.rf
  have b_c0 := hT.gi gx tt_10 (k := 36) rfl
  rw [f_x_36] at b_c0
  have b_c0 : 0 ≤ c0.toInt ∧ c0.toInt ≤ 100 := b_c0
  have b_a0 := hT.gi gx tt_10 (k := 1) rfl
  rw [f_x_1] at b_a0
  have b_a0 : 0 ≤ a0.toInt ∧ a0.toInt ≤ 8 := b_a0
  have b_nw0 := hT.gi gx tt_10 (k := 0) rfl
  rw [f_x_0] at b_nw0
  have b_nw0 : 0 ≤ nw0.toInt ∧ nw0.toInt ≤ 7999 := b_nw0
  have b_n0 := hT.gi gx tt_10 (k := 59) rfl
  rw [f_x_59] at b_n0
  have b_n0 : 0 ≤ n0.toInt ∧ n0.toInt ≤ 600 := b_n0
  refine lv_aload_n hx hb dX10_isOpen_0 rfl (lv_at hl 0 rfl) ?_
  refine lv_iload_n hx hb dX10_isOpen_1 rfl (lv_at hl 1 rfl) ?_
  refine lv_aload_n hx hb dX10_isOpen_2 rfl (lv_at hl 0 rfl) ?_
  refine hk_geti hx hb hts hC_10 hown hW (gx.S hM) tt_10 0 (by decide) rfl kw_1143 ⟨rfl, rfl, rfl⟩ ((hM.o gx trivial rfl).1.trans f_x_0) dX10_isOpen_3 ?_
  refine lv_aload_n hx hb dX10_isOpen_6 rfl (lv_at hl 0 rfl) ?_
  refine hk_geti hx hb hts hC_10 hown hW (gx.S hM) tt_10 0 (by decide) rfl kw_1143 ⟨rfl, rfl, rfl⟩ ((hM.o gx trivial rfl).1.trans f_x_0) dX10_isOpen_7 ?_
  have hl_1p := hPL i1.toInt (by omega) (by omega)
  obtain ⟨_, hl_12, _⟩ := hCA.2 (plf i1.toInt.toNat).toInt.toNat (by omega)
  refine hx_gov (hx_runV (As := [.int i1, .int nw0, .int nw0]) (rest := []) ⟨hx, hb, hml, hown, hts⟩ hW (gx.S hM) tt_10 (T := TX10) (N := 98) rfl (t_X10_looks_v l dC dI dA L h s.heap.size x i1 nw0 nw0 hT (gx.S hM) qfo (gqfo.S hM) ((hM.o gx trivial rfl).2.trans f_x_46) qhe (gqhe.S hM) ((hM.o gx trivial rfl).2.trans f_x_47) qju (gqju.S hM) ((hM.o gx trivial rfl).2.trans f_x_51) qod (gqod.S hM) ((hM.o gx trivial rfl).2.trans f_x_48) qsv (gqsv.S hM) ((hM.o gx trivial rfl).2.trans f_x_50) qsz (gqsz.S hM) ((hM.o gx trivial rfl).2.trans f_x_49) qgd (gqgd.S hM) ((hM.o gx trivial rfl).2.trans f_x_56) qow (gqow.S hM) ((hM.o gx trivial rfl).2.trans f_x_55) qwk (gqwk.S hM) ((hM.o gx trivial rfl).2.trans f_x_54) qpl (gqpl.S hM) ((hM.o gx trivial rfl).2.trans f_x_44) qru (gqru.S hM) ((hM.o gx trivial rfl).2.trans f_x_3) qpo (gqpo.S hM) ((hM.o gx trivial rfl).2.trans f_x_60) qpd (gqpd.S hM) ((hM.o gx trivial rfl).2.trans f_x_61) qps (gqps.S hM) ((hM.o gx trivial rfl).2.trans f_x_62) qpk (gqpk.S hM) ((hM.o gx trivial rfl).2.trans f_x_63) qpt (gqpt.S hM) ((hM.o gx trivial rfl).2.trans f_x_64) fof (hx_afS hM gqfo rfl af_qfo) hrf (hx_afS hM gqhe rfl af_qhe) udf (hx_afS hM gqju rfl af_qju) odf (hx_afS hM gqod rfl af_qod) svf (hx_afS hM gqsv rfl af_qsv) szf (hx_afS hM gqsz rfl af_qsz) gdf (hx_afS hM gqgd rfl af_qgd) owf (hx_afS hM gqow rfl af_qow) wkf (hx_afS hM gqwk rfl af_qwk) plf (hx_afS hM gqpl rfl af_qpl) rlf (hx_afS hM gqru rfl af_qru) pof (hx_afS hM gqpo rfl af_qpo) pdf (hx_afS hM gqpd rfl af_qpd) psm (hx_afS hM gqps rfl af_qps) pkf (hx_afS hM gqpk rfl af_qpk) pst (hx_afS hM gqpt rfl af_qpt) n0 ((hM.o gx trivial rfl).1.trans f_x_59) ⟨by omega, by omega⟩ ⟨by omega, by omega⟩ (A (plf i1.toInt.toNat).toInt.toNat).2.1 (fun k hk => by rw [← hl_12]; show _ = (if k < 13 then _ else 0); rw [if_pos (by omega)])) (cwV 3 hts (hx_gV kw_1641 kw_1638 kw_1640 kw_82 kw_103) rfl rfl rfl (by decide +kernel) ⟨Nat.le_of_ble_eq_true rfl, Nat.le_of_ble_eq_true rfl⟩) rfl hl.1 rfl (Nat.le_of_ble_eq_true rfl) dX10_isOpen_10 ⟨Nat.le_of_ble_eq_true rfl, Nat.le_of_ble_eq_true rfl⟩) hW (fun L_2 h_3 H locs p_5 hW => ?_)
  obtain ⟨⟨w_7, w_8, w_9, w_10, w_11, fw_7, fw_8, fw_9, fw_10, fw_11, hr_6⟩, hT, hs⟩ := p_5
  replace hT : hx_T T_tb L_2 h_3 := hT
  replace hs : hx_S T_tb [(10, 67), (10, 68), (10, 69), (10, 70), (10, 71)] L h L_2 h_3 := hs
  replace hM := hM.tr (hs.mono (by decide))
  have fw_7 : h_3.2.1 x 67 = w_7 := fw_7
  have bw_7 := hT.gi (gx.S hM) tt_10 (k := 67) rfl
  rw [fw_7] at bw_7
  have bw_7 : 0 ≤ w_7.toInt ∧ w_7.toInt ≤ 366100000 := bw_7
  have fw_8 : h_3.2.1 x 68 = w_8 := fw_8
  have bw_8 := hT.gi (gx.S hM) tt_10 (k := 68) rfl
  rw [fw_8] at bw_8
  have bw_8 : 0 ≤ w_8.toInt ∧ w_8.toInt ≤ 610000 := bw_8
  have fw_9 : h_3.2.1 x 69 = w_9 := fw_9
  have bw_9 := hT.gi (gx.S hM) tt_10 (k := 69) rfl
  rw [fw_9] at bw_9
  have bw_9 : -2147483648 ≤ w_9.toInt ∧ w_9.toInt ≤ 2147483647 := bw_9
  have fw_10 : h_3.2.1 x 70 = w_10 := fw_10
  have bw_10 := hT.gi (gx.S hM) tt_10 (k := 70) rfl
  rw [fw_10] at bw_10
  have bw_10 : -2147483648 ≤ w_10.toInt ∧ w_10.toInt ≤ 2147483647 := bw_10
  have fw_11 : h_3.2.1 x 71 = w_11 := fw_11
  have bw_11 := hT.gi (gx.S hM) tt_10 (k := 71) rfl
  rw [fw_11] at bw_11
  have bw_11 : 0 ≤ w_11.toInt ∧ w_11.toInt ≤ 8 := bw_11
  have hc9 : ((i1.toInt.toNat : Nat) : Int) = i1.toInt := by omega
  have hrn9 : w_8.toInt = (hz_Rn odf szf gdf owf svf (hz_rc A plf) pof pdf psm pkf pst nw0.toInt n0.toInt.toNat) i1.toInt.toNat := by unfold hz_Rn; rw [hc9]; exact hr_6.2.1
  refine lv_aload_n hx hb dX10_isOpen_13 rfl (lv_at hl 0 rfl) ?_
  refine hk_geti hx hb hts hC_10 hown hW (gx.S hM) tt_10 71 (by decide) rfl kw_1214 ⟨rfl, rfl, rfl⟩ fw_11 dX10_isOpen_14 ?_
  refine lv_iconst (v := 4) hx hb dX10_isOpen_17 (by decide) ?_
  refine lv_bipush (v := 6) hx hb dX10_isOpen_18 (by decide) ?_
  have zc_6 : (6 : Int32).toInt = 6 := by decide
  have zc_4 : (4 : Int32).toInt = 4 := by decide
  refine hx_goi (hx_runS (As := [.int w_11, .int (4 : Int32), .int (6 : Int32)]) (rest := []) ⟨hx, hb, hml, hown, hts⟩ hW (t_X10_in l dC dI dA L_2 h_3 H.size w_11 (4 : Int32) (6 : Int32) hT) (va_cwS 3 hts (hx_gS kw_1445 kw_1443 kw_1444 kw_103) rfl rfl rfl (by decide +kernel) ⟨Nat.le_of_ble_eq_true rfl, Nat.le_of_ble_eq_true rfl⟩) rfl hl.1 rfl (Nat.le_of_ble_eq_true rfl) dX10_isOpen_20 ⟨Nat.le_of_ble_eq_true rfl, Nat.le_of_ble_eq_true rfl⟩) hW (fun r_14 L_12 h_13 H locs p_15 hW => ?_)
  obtain ⟨hr_16, hT, hs⟩ := p_15
  replace hT : hx_T T_tb L_12 h_13 := hT
  replace hs : hx_S T_tb [] L_2 h_3 L_12 h_13 := hs
  replace fw_7 := (hs.o (gx.S hM) trivial rfl).1.trans fw_7
  replace fw_8 := (hs.o (gx.S hM) trivial rfl).1.trans fw_8
  replace fw_9 := (hs.o (gx.S hM) trivial rfl).1.trans fw_9
  replace fw_10 := (hs.o (gx.S hM) trivial rfl).1.trans fw_10
  replace fw_11 := (hs.o (gx.S hM) trivial rfl).1.trans fw_11
  replace hM := hM.tr (hs.mono (by decide))
  exact hx_retz hx hb hr (hx_nar01 (by omega)) hlk hW ⟨⟨w_8, fw_8, ⟨(by have h6 := hz_st_op (rs := w_8.toInt) (by rw [hr_6.2.1]; exact hz_rs_b) (fun z => by rw [hr_6.2.1]; exact hz_rs_0 z) (fo := (fof i1.toInt.toNat).toInt) (he := (hrf i1.toInt.toNat).toInt) (ju := (udf i1.toInt.toNat).toInt) (od := (odf i1.toInt.toNat).toInt) (sv := (svf i1.toInt.toNat).toInt) (ms := w_10.toInt) (la := (A (plf i1.toInt.toNat).toInt.toNat).2.1 4) (ga := (A (plf i1.toInt.toNat).toInt.toNat).2.1 5) (d := nw0.toInt); have h5 := hr_6.2.2.2.2; rw [← hr_6.2.1, ← hr_6.2.2.2.1] at h5; rw [← h5] at h6; have h4 := hrn9; omega), hrn9⟩⟩, hT, hM⟩ dX10_isOpen_23
