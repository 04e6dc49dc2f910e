section
set_option maxHeartbeats 4000000 in
set_option maxRecDepth 100000 in
theorem t_X10_isOpen_v (l : Launch) (dC : Nat → ClassId) (dI : Nat → Nat → Nat) (dA : Nat → ClassId) (L : List Nat) (h : hx_h) (sz : Nat) (x : Nat) (i1 : Int32) (hT : hx_T T_tb L h) (gx : hx_g L h x 10) (qfo : Nat) (gqfo : hx_g L h qfo 81) (f_x_46 : h.2.2 x 46 = some qfo) (qhe : Nat) (gqhe : hx_g L h qhe 82) (f_x_47 : h.2.2 x 47 = some qhe) (qju : Nat) (gqju : hx_g L h qju 86) (f_x_51 : h.2.2 x 51 = some qju) (qod : Nat) (gqod : hx_g L h qod 83) (f_x_48 : h.2.2 x 48 = some qod) (qsv : Nat) (gqsv : hx_g L h qsv 85) (f_x_50 : h.2.2 x 50 = some qsv) (qsz : Nat) (gqsz : hx_g L h qsz 84) (f_x_49 : h.2.2 x 49 = some qsz) (qgd : Nat) (gqgd : hx_g L h qgd 91) (f_x_56 : h.2.2 x 56 = some qgd) (qow : Nat) (gqow : hx_g L h qow 90) (f_x_55 : h.2.2 x 55 = some qow) (qwk : Nat) (gqwk : hx_g L h qwk 89) (f_x_54 : h.2.2 x 54 = some qwk) (qpl : Nat) (gqpl : hx_g L h qpl 79) (f_x_44 : h.2.2 x 44 = some qpl) (qru : Nat) (gqru : hx_g L h qru 50) (f_x_3 : h.2.2 x 3 = some qru) (qpo : Nat) (gqpo : hx_g L h qpo 93) (f_x_60 : h.2.2 x 60 = some qpo) (qpd : Nat) (gqpd : hx_g L h qpd 94) (f_x_61 : h.2.2 x 61 = some qpd) (qps : Nat) (gqps : hx_g L h qps 95) (f_x_62 : h.2.2 x 62 = some qps) (qpk : Nat) (gqpk : hx_g L h qpk 96) (f_x_63 : h.2.2 x 63 = some qpk) (qpt : Nat) (gqpt : hx_g L h qpt 97) (f_x_64 : h.2.2 x 64 = some qpt) (fof : Nat → Int32) (af_qfo : h.2.1 qfo = fof) (hrf : Nat → Int32) (af_qhe : h.2.1 qhe = hrf) (udf : Nat → Int32) (af_qju : h.2.1 qju = udf) (odf : Nat → Int32) (af_qod : h.2.1 qod = odf) (svf : Nat → Int32) (af_qsv : h.2.1 qsv = svf) (szf : Nat → Int32) (af_qsz : h.2.1 qsz = szf) (gdf : Nat → Int32) (af_qgd : h.2.1 qgd = gdf) (owf : Nat → Int32) (af_qow : h.2.1 qow = owf) (wkf : Nat → Int32) (af_qwk : h.2.1 qwk = wkf) (plf : Nat → Int32) (af_qpl : h.2.1 qpl = plf) (rlf : Nat → Int32) (af_qru : h.2.1 qru = rlf) (pof : Nat → Int32) (af_qpo : h.2.1 qpo = pof) (pdf : Nat → Int32) (af_qpd : h.2.1 qpd = pdf) (psm : Nat → Int32) (af_qps : h.2.1 qps = psm) (pkf : Nat → Int32) (af_qpk : h.2.1 qpk = pkf) (pst : Nat → Int32) (af_qpt : h.2.1 qpt = pst) (c0 : Int32) (f_x_36 : h.2.1 x 36 = c0) (a0 : Int32) (f_x_1 : h.2.1 x 1 = a0) (nw0 : Int32) (f_x_0 : h.2.1 x 0 = nw0) (n0 : Int32) (f_x_59 : h.2.1 x 59 = n0) (hi1 : 0 ≤ i1.toInt ∧ i1.toInt < c0.toInt) (adf psf prf : Nat → Int32) (A : Nat → hv_act) (hCA : hv_CA adf rlf psf prf a0.toInt A) (hPL : hx_PL plf c0.toInt a0.toInt) : Met l yX10_isOpen (Cond.code yX10_isOpen cX10_isOpen 2 (some .boolean) :: hx_all) ({ frames := 2, cells := 0, slots := 0, locals := 50 }) (va_Pc [.ref x, .int i1] (hx_B T_tb (P_ty dA) (dC, dI) vwCl L h sz)) (va_Qi (fun (r : Int32) (u : List Nat × hx_h) => (∃ (rs1 : Int32), u.2.2.1 x 68 = rs1 ∧ (((r.toInt = 1 ∧ 0 < (hz_Rn odf szf gdf owf svf (hz_rc A plf) pof pdf psm pkf pst nw0.toInt n0.toInt.toNat) i1.toInt.toNat) ∨ (r.toInt = 0 ∧ ¬ 0 < (hz_Rn odf szf gdf owf svf (hz_rc A plf) pof pdf psm pkf pst nw0.toInt n0.toInt.toNat) i1.toInt.toNat)) ∧ rs1.toInt = (hz_Rn odf szf gdf owf svf (hz_rc A plf) pof pdf psm pkf pst nw0.toInt n0.toInt.toNat) i1.toInt.toNat)) ∧ hx_T T_tb u.1 u.2 ∧ hx_S T_tb [(10, 67), (10, 68), (10, 69), (10, 70), (10, 71)] L h u.1 u.2) (hx_E T_tb (P_ty dA) (dC, dI) vwCl (hx_A L sz)) (hx_A L sz)) 0 0 (hx_A L sz) := by
  refine hx_met (lv := [(0, .ref x), (1, .int i1)]) (by decide +kernel) rfl (Nat.le_of_ble_eq_true rfl) rfl ?_
  intro p e s m below meth c hx hb hml hr hlk hts0 hown hin hsz hW ls hl
  have hts : ∀ w ∈ hx_all, w.before _ s = true := fun w hw => hts0 w (List.mem_cons_of_mem _ hw)
  have hown : s.vm.findClass "SmallCourtModel" = some m.cls := hown
  have hM : hx_S T_tb [(10, 67), (10, 68), (10, 69), (10, 70), (10, 71)] L h L h := hx_S.rf
  have b_c0 := hT.gi gx tt_10 (k := 36) rfl
  rw [f_x_36] at b_c0
  have b_c0 : 0 ≤ c0.toInt ∧ c0.toInt ≤ 100 := b_c0
  have b_a0 := hT.gi gx tt_10 (k := 1) rfl
  rw [f_x_1] at b_a0
  have b_a0 : 0 ≤ a0.toInt ∧ a0.toInt ≤ 8 := b_a0
  have b_nw0 := hT.gi gx tt_10 (k := 0) rfl
  rw [f_x_0] at b_nw0
  have b_nw0 : 0 ≤ nw0.toInt ∧ nw0.toInt ≤ 7999 := b_nw0
  have b_n0 := hT.gi gx tt_10 (k := 59) rfl
  rw [f_x_59] at b_n0
  have b_n0 : 0 ≤ n0.toInt ∧ n0.toInt ≤ 600 := b_n0
  refine lv_aload_n hx hb dX10_isOpen_0 rfl (lv_at hl 0 rfl) ?_
  refine lv_iload_n hx hb dX10_isOpen_1 rfl (lv_at hl 1 rfl) ?_
  refine lv_aload_n hx hb dX10_isOpen_2 rfl (lv_at hl 0 rfl) ?_
  refine hk_geti hx hb hts hC_10 hown hW (gx.S hM) tt_10 0 (by decide) rfl kw_1143 ⟨rfl, rfl, rfl⟩ ((hM.o gx trivial rfl).1.trans f_x_0) dX10_isOpen_3 ?_
  refine lv_aload_n hx hb dX10_isOpen_6 rfl (lv_at hl 0 rfl) ?_
  refine hk_geti hx hb hts hC_10 hown hW (gx.S hM) tt_10 0 (by decide) rfl kw_1143 ⟨rfl, rfl, rfl⟩ ((hM.o gx trivial rfl).1.trans f_x_0) dX10_isOpen_7 ?_
  have hl_1p := hPL i1.toInt (by omega) (by omega)
  obtain ⟨_, hl_12, _⟩ := hCA.2 (plf i1.toInt.toNat).toInt.toNat (by omega)
  refine hx_gov (hx_runV (As := [.int i1, .int nw0, .int nw0]) (rest := []) ⟨hx, hb, hml, hown, hts⟩ hW (gx.S hM) tt_10 (T := TX10) (N := 98) rfl (t_X10_looks_v l dC dI dA L h s.heap.size x i1 nw0 nw0 hT (gx.S hM) qfo (gqfo.S hM) ((hM.o gx trivial rfl).2.trans f_x_46) qhe (gqhe.S hM) ((hM.o gx trivial rfl).2.trans f_x_47) qju (gqju.S hM) ((hM.o gx trivial rfl).2.trans f_x_51) qod (gqod.S hM) ((hM.o gx trivial rfl).2.trans f_x_48) qsv (gqsv.S hM) ((hM.o gx trivial rfl).2.trans f_x_50) qsz (gqsz.S hM) ((hM.o gx trivial rfl).2.trans f_x_49) qgd (gqgd.S hM) ((hM.o gx trivial rfl).2.trans f_x_56) qow (gqow.S hM) ((hM.o gx trivial rfl).2.trans f_x_55) qwk (gqwk.S hM) ((hM.o gx trivial rfl).2.trans f_x_54) qpl (gqpl.S hM) ((hM.o gx trivial rfl).2.trans f_x_44) qru (gqru.S hM) ((hM.o gx trivial rfl).2.trans f_x_3) qpo (gqpo.S hM) ((hM.o gx trivial rfl).2.trans f_x_60) qpd (gqpd.S hM) ((hM.o gx trivial rfl).2.trans f_x_61) qps (gqps.S hM) ((hM.o gx trivial rfl).2.trans f_x_62) qpk (gqpk.S hM) ((hM.o gx trivial rfl).2.trans f_x_63) qpt (gqpt.S hM) ((hM.o gx trivial rfl).2.trans f_x_64) fof (hx_afS hM gqfo rfl af_qfo) hrf (hx_afS hM gqhe rfl af_qhe) udf (hx_afS hM gqju rfl af_qju) odf (hx_afS hM gqod rfl af_qod) svf (hx_afS hM gqsv rfl af_qsv) szf (hx_afS hM gqsz rfl af_qsz) gdf (hx_afS hM gqgd rfl af_qgd) owf (hx_afS hM gqow rfl af_qow) wkf (hx_afS hM gqwk rfl af_qwk) plf (hx_afS hM gqpl rfl af_qpl) rlf (hx_afS hM gqru rfl af_qru) pof (hx_afS hM gqpo rfl af_qpo) pdf (hx_afS hM gqpd rfl af_qpd) psm (hx_afS hM gqps rfl af_qps) pkf (hx_afS hM gqpk rfl af_qpk) pst (hx_afS hM gqpt rfl af_qpt) n0 ((hM.o gx trivial rfl).1.trans f_x_59) ⟨by omega, by omega⟩ ⟨by omega, by omega⟩ (A (plf i1.toInt.toNat).toInt.toNat).2.1 (fun k hk => by rw [← hl_12]; show _ = (if k < 13 then _ else 0); rw [if_pos (by omega)])) (cwV 3 hts (hx_gV kw_1641 kw_1638 kw_1640 kw_82 kw_103) rfl rfl rfl (by decide +kernel) ⟨Nat.le_of_ble_eq_true rfl, Nat.le_of_ble_eq_true rfl⟩) rfl hl.1 rfl (Nat.le_of_ble_eq_true rfl) dX10_isOpen_10 ⟨Nat.le_of_ble_eq_true rfl, Nat.le_of_ble_eq_true rfl⟩) hW (fun L_2 h_3 H locs p_5 hW => ?_)
  obtain ⟨⟨w_7, w_8, w_9, w_10, w_11, fw_7, fw_8, fw_9, fw_10, fw_11, hr_6⟩, hT, hs⟩ := p_5
  replace hT : hx_T T_tb L_2 h_3 := hT
  replace hs : hx_S T_tb [(10, 67), (10, 68), (10, 69), (10, 70), (10, 71)] L h L_2 h_3 := hs
  replace hM := hM.tr (hs.mono (by decide))
  have fw_7 : h_3.2.1 x 67 = w_7 := fw_7
  have bw_7 := hT.gi (gx.S hM) tt_10 (k := 67) rfl
  rw [fw_7] at bw_7
  have bw_7 : 0 ≤ w_7.toInt ∧ w_7.toInt ≤ 366100000 := bw_7
  have fw_8 : h_3.2.1 x 68 = w_8 := fw_8
  have bw_8 := hT.gi (gx.S hM) tt_10 (k := 68) rfl
  rw [fw_8] at bw_8
  have bw_8 : 0 ≤ w_8.toInt ∧ w_8.toInt ≤ 610000 := bw_8
  have fw_9 : h_3.2.1 x 69 = w_9 := fw_9
  have bw_9 := hT.gi (gx.S hM) tt_10 (k := 69) rfl
  rw [fw_9] at bw_9
  have bw_9 : -2147483648 ≤ w_9.toInt ∧ w_9.toInt ≤ 2147483647 := bw_9
  have fw_10 : h_3.2.1 x 70 = w_10 := fw_10
  have bw_10 := hT.gi (gx.S hM) tt_10 (k := 70) rfl
  rw [fw_10] at bw_10
  have bw_10 : -2147483648 ≤ w_10.toInt ∧ w_10.toInt ≤ 2147483647 := bw_10
  have fw_11 : h_3.2.1 x 71 = w_11 := fw_11
  have bw_11 := hT.gi (gx.S hM) tt_10 (k := 71) rfl
  rw [fw_11] at bw_11
  have bw_11 : 0 ≤ w_11.toInt ∧ w_11.toInt ≤ 8 := bw_11
  have hc9 : ((i1.toInt.toNat : Nat) : Int) = i1.toInt := by omega
  have hrn9 : w_8.toInt = (hz_Rn odf szf gdf owf svf (hz_rc A plf) pof pdf psm pkf pst nw0.toInt n0.toInt.toNat) i1.toInt.toNat := by unfold hz_Rn; rw [hc9]; exact hr_6.2.1
  refine lv_aload_n hx hb dX10_isOpen_13 rfl (lv_at hl 0 rfl) ?_
  refine hk_geti hx hb hts hC_10 hown hW (gx.S hM) tt_10 71 (by decide) rfl kw_1214 ⟨rfl, rfl, rfl⟩ fw_11 dX10_isOpen_14 ?_
  refine lv_iconst (v := 4) hx hb dX10_isOpen_17 (by decide) ?_
  refine lv_bipush (v := 6) hx hb dX10_isOpen_18 (by decide) ?_
  have zc_6 : (6 : Int32).toInt = 6 := by decide
  have zc_4 : (4 : Int32).toInt = 4 := by decide
  refine hx_goi (hx_runS (As := [.int w_11, .int (4 : Int32), .int (6 : Int32)]) (rest := []) ⟨hx, hb, hml, hown, hts⟩ hW (t_X10_in l dC dI dA L_2 h_3 H.size w_11 (4 : Int32) (6 : Int32) hT) (va_cwS 3 hts (hx_gS kw_1445 kw_1443 kw_1444 kw_103) rfl rfl rfl (by decide +kernel) ⟨Nat.le_of_ble_eq_true rfl, Nat.le_of_ble_eq_true rfl⟩) rfl hl.1 rfl (Nat.le_of_ble_eq_true rfl) dX10_isOpen_20 ⟨Nat.le_of_ble_eq_true rfl, Nat.le_of_ble_eq_true rfl⟩) hW (fun r_14 L_12 h_13 H locs p_15 hW => ?_)
  obtain ⟨hr_16, hT, hs⟩ := p_15
  replace hT : hx_T T_tb L_12 h_13 := hT
  replace hs : hx_S T_tb [] L_2 h_3 L_12 h_13 := hs
  replace fw_7 := (hs.o (gx.S hM) trivial rfl).1.trans fw_7
  replace fw_8 := (hs.o (gx.S hM) trivial rfl).1.trans fw_8
  replace fw_9 := (hs.o (gx.S hM) trivial rfl).1.trans fw_9
  replace fw_10 := (hs.o (gx.S hM) trivial rfl).1.trans fw_10
  replace fw_11 := (hs.o (gx.S hM) trivial rfl).1.trans fw_11
  replace hM := hM.tr (hs.mono (by decide))
  exact hx_retz hx hb hr (hx_nar01 (by omega)) hlk hW ⟨⟨w_8, fw_8, ⟨(by have h6 := hz_st_op (rs := w_8.toInt) (by rw [hr_6.2.1]; exact hz_rs_b) (fun z => by rw [hr_6.2.1]; exact hz_rs_0 z) (fo := (fof i1.toInt.toNat).toInt) (he := (hrf i1.toInt.toNat).toInt) (ju := (udf i1.toInt.toNat).toInt) (od := (odf i1.toInt.toNat).toInt) (sv := (svf i1.toInt.toNat).toInt) (ms := w_10.toInt) (la := (A (plf i1.toInt.toNat).toInt.toNat).2.1 4) (ga := (A (plf i1.toInt.toNat).toInt.toNat).2.1 5) (d := nw0.toInt); have h5 := hr_6.2.2.2.2; rw [← hr_6.2.1, ← hr_6.2.2.2.1] at h5; rw [← h5] at h6; have h4 := hrn9; omega), hrn9⟩⟩, hT, hM⟩ dX10_isOpen_23
end
section
theorem hz_mulc {a b x : Int32} (ha : 0 ≤ a.toInt ∧ a.toInt ≤ 512) (hb : 0 ≤ b.toInt ∧ b.toInt ≤ 999) (e : x = a * b) : x.toInt = a.toInt * b.toInt ∧ 0 ≤ x.toInt ∧ x.toInt ≤ 511488 := by
  have h1 : 0 ≤ a.toInt * b.toInt := Int.mul_nonneg ha.1 hb.1
  have h2 : a.toInt * b.toInt ≤ 512 * 999 := Int.mul_le_mul ha.2 hb.2 hb.1 (by decide)
  have h3 : x.toInt = a.toInt * b.toInt := by rw [e]; exact i32_mul rfl rfl rfl (by omega) (by omega)
  exact ⟨h3, by omega, by omega⟩


set_option maxHeartbeats 4000000 in
set_option maxRecDepth 100000 in
theorem t_X10_means_v (l : Launch) (dC : Nat → ClassId) (dI : Nat → Nat → Nat) (dA : Nat → ClassId) (L : List Nat) (h : hx_h) (sz : Nat) (x : Nat) (i1 : Int32) (i2 : Int32) (hT : hx_T T_tb L h) (gx : hx_g L h x 10) (qea : Nat) (gqea : hx_g L h qea 59) (f_x_22 : h.2.2 x 22 = some qea) (qhd : Nat) (gqhd : hx_g L h qhd 60) (f_x_23 : h.2.2 x 23 = some qhd) (qru : Nat) (gqru : hx_g L h qru 50) (f_x_3 : h.2.2 x 3 = some qru) (eaf : Nat → Int32) (af_qea : h.2.1 qea = eaf) (hdf : Nat → Int32) (af_qhd : h.2.1 qhd = hdf) (rlf : Nat → Int32) (af_qru : h.2.1 qru = rlf) (hi1 : 0 ≤ i1.toInt ∧ i1.toInt ≤ 39) (hi2 : 0 ≤ i2.toInt ∧ i2.toInt ≤ 8) (kp : Int) (hkp : (rlf (13 * i2.toInt.toNat + 3)).toInt = kp) : Met l yX10_means (Cond.code yX10_means cX10_means 3 (some .int) :: hx_all) ({ frames := 1, cells := 0, slots := 0, locals := 22 }) (va_Pc [.ref x, .int i1, .int i2] (hx_B T_tb (P_ty dA) (dC, dI) vwCl L h sz)) (va_Qi (fun (r : Int32) (u : List Nat × hx_h) => (r.toInt = (eaf i1.toInt.toNat).toInt - kp * (hdf i1.toInt.toNat).toInt ∧ (-199980 ≤ r.toInt ∧ r.toInt ≤ 9999)) ∧ hx_T T_tb u.1 u.2 ∧ hx_S T_tb [] L h u.1 u.2) (hx_E T_tb (P_ty dA) (dC, dI) vwCl (hx_A L sz)) (hx_A L sz)) 0 0 (hx_A L sz) := by
  refine hx_met (lv := [(0, .ref x), (1, .int i1), (2, .int i2)]) (by decide +kernel) rfl (Nat.le_of_ble_eq_true rfl) rfl ?_
  intro p e s m below meth c hx hb hml hr hlk hts0 hown hin hsz hW ls hl
  have hts : ∀ w ∈ hx_all, w.before _ s = true := fun w hw => hts0 w (List.mem_cons_of_mem _ hw)
  have hown : s.vm.findClass "SmallCourtModel" = some m.cls := hown
  have hM : hx_S T_tb [] L h L h := hx_S.rf
  refine lv_aload_n hx hb dX10_means_0 rfl (lv_at hl 0 rfl) ?_
  refine hk_getr hx hb hts hC_10 hown hW (gx.S hM) tt_10 22 (by decide) rfl kw_1165 ⟨rfl, rfl, rfl⟩ ((hM.o gx trivial rfl).2.trans f_x_22) dX10_means_1 ?_
  refine lv_iload_n hx hb dX10_means_4 rfl (lv_at hl 1 rfl) ?_
  refine hx_iald hx hb hW hT (gqea.S hM) tt_59 rfl ⟨by omega, by omega⟩ dX10_means_5 (fun x_1 ex_1 lx_1 ux_1 => ?_)
  have ax_1 : x_1 = eaf i1.toNatClampNeg := ex_1.trans (congrFun (hx_afS hM gqea rfl af_qea) _)
  refine lv_aload_n hx hb dX10_means_6 rfl (lv_at hl 0 rfl) ?_
  refine lv_iload_n hx hb dX10_means_7 rfl (lv_at hl 2 rfl) ?_
  refine lv_iconst (v := 3) hx hb dX10_means_8 (by decide) ?_
  have zc_3 : (3 : Int32).toInt = 3 := by decide
  refine hx_goi (hx_runV (As := [.int i2, .int (3 : Int32)]) (rest := [.int x_1]) ⟨hx, hb, hml, hown, hts⟩ hW (gx.S hM) tt_10 (T := TX10) (N := 98) rfl (t_X10_ruleOf_v l dC dI dA L h s.heap.size x i2 (3 : Int32) hT (gx.S hM) qru (gqru.S hM) ((hM.o gx trivial rfl).2.trans f_x_3) rlf (hx_afS hM gqru rfl af_qru) ⟨by omega, by omega⟩ (by decide)) (cwV 2 hts (hx_gV kw_1533 kw_1530 kw_1532 kw_66 kw_103) rfl rfl rfl (by decide +kernel) ⟨Nat.le_of_ble_eq_true rfl, Nat.le_of_ble_eq_true rfl⟩) rfl hl.1 rfl (Nat.le_of_ble_eq_true rfl) dX10_means_9 ⟨Nat.le_of_ble_eq_true rfl, Nat.le_of_ble_eq_true rfl⟩) hW (fun r_4 L_2 h_3 H locs p_5 hW => ?_)
  obtain ⟨hr_6, hT, hs⟩ := p_5
  replace hT : hx_T T_tb L_2 h_3 := hT
  replace hs : hx_S T_tb [] L h L_2 h_3 := hs
  replace ex_1 := ex_1.trans (hs.a (gqea.S hM) rfl _).1.symm
  replace hM := hM.tr (hs.mono (by decide))
  have hk9 : r_4.toInt = kp := by rw [hr_6.1, show (3 : Int32).toInt.toNat = 3 from by decide]; exact hkp
  refine lv_aload_n hx hb dX10_means_12 rfl (lv_at hl 0 rfl) ?_
  refine hk_getr hx hb hts hC_10 hown hW (gx.S hM) tt_10 23 (by decide) rfl kw_1166 ⟨rfl, rfl, rfl⟩ ((hM.o gx trivial rfl).2.trans f_x_23) dX10_means_13 ?_
  refine lv_iload_n hx hb dX10_means_16 rfl (lv_at hl 1 rfl) ?_
  refine hx_iald hx hb hW hT (gqhd.S hM) tt_60 rfl ⟨by omega, by omega⟩ dX10_means_17 (fun x_7 ex_7 lx_7 ux_7 => ?_)
  have ax_7 : x_7 = hdf i1.toNatClampNeg := ex_7.trans (congrFun (hx_afS hM gqhd rfl af_qhd) _)
  refine lv_imul hx hb dX10_means_18 ?_
  refine lv_topi (fun x_8 ex_8 => ?_)
  have mx_8 : r_4.toInt = 0 → x_8.toInt = 0 := fun z => by rw [ex_8]; exact hx_mul0 z
  obtain ⟨m9, m9l, m9h⟩ := hz_mul2 ⟨by omega, by omega⟩ ⟨by omega, by omega⟩ ex_8
  refine lv_isub hx hb dX10_means_19 ?_
  have rg_9 := i32_r x_1
  have rg_10 := i32_r x_8
  refine lv_topi (fun x_11 ex_11 => ?_)
  have zx_11 : x_11.toInt = x_1.toInt - x_8.toInt := by rw [ex_11]; exact i32_sub rfl rfl (by omega) (by omega)
  exact hx_reti hx hb hr hlk hW ⟨⟨(by rw [zx_11, m9, hk9, show eaf i1.toInt.toNat = x_1 from ax_1.symm, show hdf i1.toInt.toNat = x_7 from ax_7.symm]), by omega, by omega⟩, hT, hM⟩ dX10_means_20


set_option maxHeartbeats 4000000 in
set_option maxRecDepth 100000 in
theorem t_X10_order_v (l : Launch) (dC : Nat → ClassId) (dI : Nat → Nat → Nat) (dA : Nat → ClassId) (L : List Nat) (h : hx_h) (sz : Nat) (x : Nat) (i1 : Int32) (i2 : Int32) (hT : hx_T T_tb L h) (gx : hx_g L h x 10) (qfo : Nat) (gqfo : hx_g L h qfo 81) (f_x_46 : h.2.2 x 46 = some qfo) (qhe : Nat) (gqhe : hx_g L h qhe 82) (f_x_47 : h.2.2 x 47 = some qhe) (qju : Nat) (gqju : hx_g L h qju 86) (f_x_51 : h.2.2 x 51 = some qju) (qod : Nat) (gqod : hx_g L h qod 83) (f_x_48 : h.2.2 x 48 = some qod) (qsv : Nat) (gqsv : hx_g L h qsv 85) (f_x_50 : h.2.2 x 50 = some qsv) (qsz : Nat) (gqsz : hx_g L h qsz 84) (f_x_49 : h.2.2 x 49 = some qsz) (qgd : Nat) (gqgd : hx_g L h qgd 91) (f_x_56 : h.2.2 x 56 = some qgd) (qow : Nat) (gqow : hx_g L h qow 90) (f_x_55 : h.2.2 x 55 = some qow) (qwk : Nat) (gqwk : hx_g L h qwk 89) (f_x_54 : h.2.2 x 54 = some qwk) (qpl : Nat) (gqpl : hx_g L h qpl 79) (f_x_44 : h.2.2 x 44 = some qpl) (qru : Nat) (gqru : hx_g L h qru 50) (f_x_3 : h.2.2 x 3 = some qru) (qpo : Nat) (gqpo : hx_g L h qpo 93) (f_x_60 : h.2.2 x 60 = some qpo) (qpd : Nat) (gqpd : hx_g L h qpd 94) (f_x_61 : h.2.2 x 61 = some qpd) (qps : Nat) (gqps : hx_g L h qps 95) (f_x_62 : h.2.2 x 62 = some qps) (qpk : Nat) (gqpk : hx_g L h qpk 96) (f_x_63 : h.2.2 x 63 = some qpk) (qpt : Nat) (gqpt : hx_g L h qpt 97) (f_x_64 : h.2.2 x 64 = some qpt) (qdd : Nat) (gqdd : hx_g L h qdd 64) (f_x_27 : h.2.2 x 27 = some qdd) (qag : Nat) (gqag : hx_g L h qag 73) (f_x_38 : h.2.2 x 38 = some qag) (qsu : Nat) (gqsu : hx_g L h qsu 74) (f_x_39 : h.2.2 x 39 = some qsu) (qtr : Nat) (gqtr : hx_g L h qtr 80) (f_x_45 : h.2.2 x 45 = some qtr) (qea : Nat) (gqea : hx_g L h qea 59) (f_x_22 : h.2.2 x 22 = some qea) (qhd : Nat) (gqhd : hx_g L h qhd 60) (f_x_23 : h.2.2 x 23 = some qhd) (fof : Nat → Int32) (af_qfo : h.2.1 qfo = fof) (hrf : Nat → Int32) (af_qhe : h.2.1 qhe = hrf) (udf : Nat → Int32) (af_qju : h.2.1 qju = udf) (odf : Nat → Int32) (af_qod : h.2.1 qod = odf) (svf : Nat → Int32) (af_qsv : h.2.1 qsv = svf) (szf : Nat → Int32) (af_qsz : h.2.1 qsz = szf) (gdf : Nat → Int32) (af_qgd : h.2.1 qgd = gdf) (owf : Nat → Int32) (af_qow : h.2.1 qow = owf) (wkf : Nat → Int32) (af_qwk : h.2.1 qwk = wkf) (plf : Nat → Int32) (af_qpl : h.2.1 qpl = plf) (rlf : Nat → Int32) (af_qru : h.2.1 qru = rlf) (pof : Nat → Int32) (af_qpo : h.2.1 qpo = pof) (pdf : Nat → Int32) (af_qpd : h.2.1 qpd = pdf) (psm : Nat → Int32) (af_qps : h.2.1 qps = psm) (pkf : Nat → Int32) (af_qpk : h.2.1 qpk = pkf) (pst : Nat → Int32) (af_qpt : h.2.1 qpt = pst) (ddf : Nat → Int32) (af_qdd : h.2.1 qdd = ddf) (agf : Nat → Int32) (af_qag : h.2.1 qag = agf) (smf : Nat → Int32) (af_qsu : h.2.1 qsu = smf) (tf : Nat → Int32) (af_qtr : h.2.1 qtr = tf) (eaf : Nat → Int32) (af_qea : h.2.1 qea = eaf) (hdf : Nat → Int32) (af_qhd : h.2.1 qhd = hdf) (c0 : Int32) (f_x_36 : h.2.1 x 36 = c0) (a0 : Int32) (f_x_1 : h.2.1 x 1 = a0) (nw0 : Int32) (f_x_0 : h.2.1 x 0 = nw0) (n0 : Int32) (f_x_59 : h.2.1 x 59 = n0) (adf psf prf : Nat → Int32) (A : Nat → hv_act) (hCA : hv_CA adf rlf psf prf a0.toInt A) (hPL : hx_PL plf c0.toInt a0.toInt) (hWK : hx_WK rlf a0.toInt) : Met l yX10_order (Cond.code yX10_order cX10_order 7 (some .int) :: hx_all) ({ frames := 3, cells := 0, slots := 0, locals := 71 }) (va_Pc [.ref x, .int i1, .int i2] (hx_B T_tb (P_ty dA) (dC, dI) vwCl L h sz)) (va_Qi (fun (r : Int32) (u : List Nat × hx_h) => (∃ (odf1 : Nat → Int32) (wkf1 : Nat → Int32) (owf1 : Nat → Int32), u.2.2.1 qod = odf1 ∧ u.2.2.1 qwk = wkf1 ∧ u.2.2.1 qow = owf1 ∧ (hz_OS (hz_OC c0.toInt i1.toInt i2.toInt (udf i1.toInt.toNat).toInt (odf i1.toInt.toNat).toInt (ddf (agf i1.toInt.toNat).toInt.toNat).toInt) i1.toInt.toNat i2 nw0 r ((A (plf i1.toInt.toNat).toInt.toNat).2.1 2) ((smf i1.toInt.toNat).toInt + ((tf i1.toInt.toNat).toInt * (A (plf i1.toInt.toNat).toInt.toNat).2.1 9 + (A (plf i1.toInt.toNat).toInt.toNat).2.1 10 + (A (plf i1.toInt.toNat).toInt.toNat).2.1 11)) (hz_oi agf wkf (hz_Rn odf szf gdf owf svf (hz_rc A plf) pof pdf psm pkf pst nw0.toInt n0.toInt.toNat) (agf i1.toInt.toNat).toInt c0.toInt.toNat) ((eaf (agf i1.toInt.toNat).toInt.toNat).toInt - (A (plf i1.toInt.toNat).toInt.toNat).2.1 3 * (hdf (agf i1.toInt.toNat).toInt.toNat).toInt) odf odf1 wkf wkf1 owf owf1)) ∧ hx_T T_tb u.1 u.2 ∧ hx_S T_tb [(10, 67), (10, 68), (10, 69), (10, 70), (10, 71), (83, 0), (89, 0), (90, 0)] L h u.1 u.2) (hx_E T_tb (P_ty dA) (dC, dI) vwCl (hx_A L sz)) (hx_A L sz)) 0 0 (hx_A L sz) := by
  refine hx_met (lv := [(0, .ref x), (1, .int i1), (2, .int i2)]) (by decide +kernel) rfl (Nat.le_of_ble_eq_true rfl) rfl ?_
  intro p e s m below meth c hx hb hml hr hlk hts0 hown hin hsz hW ls hl
  have hts : ∀ w ∈ hx_all, w.before _ s = true := fun w hw => hts0 w (List.mem_cons_of_mem _ hw)
  have hown : s.vm.findClass "SmallCourtModel" = some m.cls := hown
  have hM : hx_S T_tb [(10, 67), (10, 68), (10, 69), (10, 70), (10, 71), (83, 0), (89, 0), (90, 0)] L h L h := hx_S.rf
  have b_c0 := hT.gi gx tt_10 (k := 36) rfl
  rw [f_x_36] at b_c0
  have b_c0 : 0 ≤ c0.toInt ∧ c0.toInt ≤ 100 := b_c0
  have b_a0 := hT.gi gx tt_10 (k := 1) rfl
  rw [f_x_1] at b_a0
  have b_a0 : 0 ≤ a0.toInt ∧ a0.toInt ≤ 8 := b_a0
  have b_nw0 := hT.gi gx tt_10 (k := 0) rfl
  rw [f_x_0] at b_nw0
  have b_nw0 : 0 ≤ nw0.toInt ∧ nw0.toInt ≤ 7999 := b_nw0
  have b_n0 := hT.gi gx tt_10 (k := 59) rfl
  rw [f_x_59] at b_n0
  have b_n0 : 0 ≤ n0.toInt ∧ n0.toInt ≤ 600 := b_n0
  refine lv_aload_n hx hb dX10_order_0 rfl (lv_at hl 0 rfl) ?_
  refine lv_iload_n hx hb dX10_order_1 rfl (lv_at hl 1 rfl) ?_
  refine hx_goi (hx_runV (As := [.int i1]) (rest := []) ⟨hx, hb, hml, hown, hts⟩ hW (gx.S hM) tt_10 (T := TX10) (N := 98) rfl (t_X10_isClaim l dC dI dA L h s.heap.size x i1 hT (gx.S hM) c0 ((hM.o gx trivial rfl).1.trans f_x_36)) (cwV 1 hts (hx_gV kw_1597 kw_1594 kw_1596 kw_73 kw_103) rfl rfl rfl (by decide +kernel) ⟨Nat.le_of_ble_eq_true rfl, Nat.le_of_ble_eq_true rfl⟩) rfl hl.1 rfl (Nat.le_of_ble_eq_true rfl) dX10_order_2 ⟨Nat.le_of_ble_eq_true rfl, Nat.le_of_ble_eq_true rfl⟩) hW (fun r_3 L_1 h_2 H locs p_4 hW => ?_)
  obtain ⟨hr_5, hT, hs⟩ := p_4
  replace hT : hx_T T_tb L_1 h_2 := hT
  replace hs : hx_S T_tb [] L h L_1 h_2 := hs
  replace af_qod : h_2.2.1 qod = odf := (funext fun j => (hs.a (gqod.S hM) rfl j).1).trans af_qod
  replace af_qow : h_2.2.1 qow = owf := (funext fun j => (hs.a (gqow.S hM) rfl j).1).trans af_qow
  replace af_qwk : h_2.2.1 qwk = wkf := (funext fun j => (hs.a (gqwk.S hM) rfl j).1).trans af_qwk
  replace hM := hM.tr (hs.mono (by decide))
  refine hb_if_eq (zx := r_3.toInt) (tgt := 53) hx hb rfl dX10_order_5 (by decide) (fun c_6 => ?_) (fun c_6 => ?_)
  · skip
    replace hr_5 := hr_5.resolve_right (fun z9 => absurd (c_6.symm.trans z9.1) (by decide))
    replace hr_5 := hr_5.2
    refine lv_iconst (v := -1) hx hb dX10_order_53 (by decide) ?_
    exact hx_reti hx hb hr hlk hW ⟨⟨odf, wkf, owf, af_qod, af_qwk, af_qow, (Or.inl ⟨(fun hc => by have h1 := hc.1; omega), by decide, rfl, rfl, rfl⟩)⟩, hT, hM⟩ dX10_order_54
  · skip
    replace hr_5 := hr_5.resolve_left (fun z9 => c_6 z9.1)
    replace c_6 := hr_5.1
    replace hr_5 := hr_5.2
    refine lv_aload_n hx hb dX10_order_8 rfl (lv_at hl 0 rfl) ?_
    refine hk_getr hx hb hts hC_10 hown hW (gx.S hM) tt_10 51 (by decide) rfl kw_1194 ⟨rfl, rfl, rfl⟩ ((hM.o gx trivial rfl).2.trans f_x_51) dX10_order_9 ?_
    refine lv_iload_n hx hb dX10_order_12 rfl (lv_at hl 1 rfl) ?_
    refine hx_iald hx hb hW hT (gqju.S hM) tt_86 rfl ⟨by omega, by omega⟩ dX10_order_13 (fun x_7 ex_7 lx_7 ux_7 => ?_)
    have ax_7 : x_7 = udf i1.toNatClampNeg := ex_7.trans (congrFun (hx_afS hM gqju rfl af_qju) _)
    refine lv_iconst (v := 5) hx hb dX10_order_14 (by decide) ?_
    refine hb_icmp_ne (zx := x_7.toInt) (zy := 5) (tgt := 53) hx hb rfl (by decide) dX10_order_15 (by decide) (fun c_8 => ?_) (fun c_8 => ?_)
    · skip
      refine lv_iconst (v := -1) hx hb dX10_order_53 (by decide) ?_
      exact hx_reti hx hb hr hlk hW ⟨⟨odf, wkf, owf, af_qod, af_qwk, af_qow, (Or.inl ⟨(fun hc => by have h1 := hc.2.1; rw [show udf i1.toInt.toNat = x_7 from ax_7.symm] at h1; omega), by decide, rfl, rfl, rfl⟩)⟩, hT, hM⟩ dX10_order_54
    · skip
      refine lv_aload_n hx hb dX10_order_18 rfl (lv_at hl 0 rfl) ?_
      refine hk_getr hx hb hts hC_10 hown hW (gx.S hM) tt_10 48 (by decide) rfl kw_1191 ⟨rfl, rfl, rfl⟩ ((hM.o gx trivial rfl).2.trans f_x_48) dX10_order_19 ?_
      refine lv_iload_n hx hb dX10_order_22 rfl (lv_at hl 1 rfl) ?_
      refine hx_iald hx hb hW hT (gqod.S hM) tt_83 rfl ⟨by omega, by omega⟩ dX10_order_23 (fun x_9 ex_9 lx_9 ux_9 => ?_)
      have ax_9 : x_9 = odf i1.toNatClampNeg := ex_9.trans (congrFun af_qod _)
      refine lv_iconst (v := -1) hx hb dX10_order_24 (by decide) ?_
      refine hb_icmp_ne (zx := x_9.toInt) (zy := (-1)) (tgt := 53) hx hb rfl (by decide) dX10_order_25 (by decide) (fun c_10 => ?_) (fun c_10 => ?_)
      · skip
        refine lv_iconst (v := -1) hx hb dX10_order_53 (by decide) ?_
        exact hx_reti hx hb hr hlk hW ⟨⟨odf, wkf, owf, af_qod, af_qwk, af_qow, (Or.inl ⟨(fun hc => by have h1 := hc.2.2.1; rw [show odf i1.toInt.toNat = x_9 from ax_9.symm] at h1; omega), by decide, rfl, rfl, rfl⟩)⟩, hT, hM⟩ dX10_order_54
      · skip
        refine lv_aload_n hx hb dX10_order_28 rfl (lv_at hl 0 rfl) ?_
        refine hk_getr hx hb hts hC_10 hown hW (gx.S hM) tt_10 27 (by decide) rfl kw_1170 ⟨rfl, rfl, rfl⟩ ((hM.o gx trivial rfl).2.trans f_x_27) dX10_order_29 ?_
        refine lv_aload_n hx hb dX10_order_32 rfl (lv_at hl 0 rfl) ?_
        refine hk_getr hx hb hts hC_10 hown hW (gx.S hM) tt_10 38 (by decide) rfl kw_1181 ⟨rfl, rfl, rfl⟩ ((hM.o gx trivial rfl).2.trans f_x_38) dX10_order_33 ?_
        refine lv_iload_n hx hb dX10_order_36 rfl (lv_at hl 1 rfl) ?_
        refine hx_iald hx hb hW hT (gqag.S hM) tt_73 rfl ⟨by omega, by omega⟩ dX10_order_37 (fun x_11 ex_11 lx_11 ux_11 => ?_)
        have ax_11 : x_11 = agf i1.toNatClampNeg := ex_11.trans (congrFun (hx_afS hM gqag rfl af_qag) _)
        refine hx_zald hx hb hW hT (gqdd.S hM) tt_64 rfl ⟨by omega, by omega⟩ dX10_order_38 (fun x_12 ex_12 lx_12 ux_12 => ?_)
        have ax_12 : x_12 = ddf x_11.toNatClampNeg := ex_12.trans (congrFun (hx_afS hM gqdd rfl af_qdd) _)
        have cdd9 : x_12 = ddf (agf i1.toInt.toNat).toInt.toNat := by rw [ax_12, ax_11]; rfl
        refine hb_if_ne (zx := x_12.toInt) (tgt := 53) hx hb rfl dX10_order_39 (by decide) (fun c_13 => ?_) (fun c_13 => ?_)
        · skip
          refine lv_iconst (v := -1) hx hb dX10_order_53 (by decide) ?_
          exact hx_reti hx hb hr hlk hW ⟨⟨odf, wkf, owf, af_qod, af_qwk, af_qow, (Or.inl ⟨(fun hc => by have h1 := hc.2.2.2.1; rw [← cdd9] at h1; omega), by decide, rfl, rfl, rfl⟩)⟩, hT, hM⟩ dX10_order_54
        · skip
          refine lv_iload_n hx hb dX10_order_42 rfl (lv_at hl 2 rfl) ?_
          refine lv_iconst (v := 1) hx hb dX10_order_43 (by decide) ?_
          refine lv_sipush (v := 9999) hx hb dX10_order_44 (by decide) ?_
          have zc_9999 : (9999 : Int32).toInt = 9999 := by decide
          have zc_1 : (1 : Int32).toInt = 1 := by decide
          refine hx_goi (hx_runS (As := [.int i2, .int (1 : Int32), .int (9999 : Int32)]) (rest := []) ⟨hx, hb, hml, hown, hts⟩ hW (t_X10_in l dC dI dA L_1 h_2 H.size i2 (1 : Int32) (9999 : Int32) hT) (va_cwS 3 hts (hx_gS kw_1445 kw_1443 kw_1444 kw_103) rfl rfl rfl (by decide +kernel) ⟨Nat.le_of_ble_eq_true rfl, Nat.le_of_ble_eq_true rfl⟩) rfl hl.1 rfl (Nat.le_of_ble_eq_true rfl) dX10_order_47 ⟨Nat.le_of_ble_eq_true rfl, Nat.le_of_ble_eq_true rfl⟩) hW (fun r_16 L_14 h_15 H locs p_17 hW => ?_)
          obtain ⟨hr_18, hT, hs⟩ := p_17
          replace hT : hx_T T_tb L_14 h_15 := hT
          replace hs : hx_S T_tb [] L_1 h_2 L_14 h_15 := hs
          replace af_qod : h_15.2.1 qod = odf := (funext fun j => (hs.a (gqod.S hM) rfl j).1).trans af_qod
          replace af_qow : h_15.2.1 qow = owf := (funext fun j => (hs.a (gqow.S hM) rfl j).1).trans af_qow
          replace af_qwk : h_15.2.1 qwk = wkf := (funext fun j => (hs.a (gqwk.S hM) rfl j).1).trans af_qwk
          replace ex_7 := ex_7.trans (hs.a (gqju.S hM) rfl _).1.symm
          replace ex_9 := ex_9.trans (hs.a (gqod.S hM) rfl _).1.symm
          replace ex_11 := ex_11.trans (hs.a (gqag.S hM) rfl _).1.symm
          replace ex_12 := ex_12.trans (hs.a (gqdd.S hM) rfl _).1.symm
          replace hM := hM.tr (hs.mono (by decide))
          refine hb_if_ne (zx := r_16.toInt) (tgt := 55) hx hb rfl dX10_order_50 (by decide) (fun c_19 => ?_) (fun c_19 => ?_)
          · skip
            replace hr_18 := hr_18.resolve_left (fun z9 => c_19 z9.1)
            replace c_19 := hr_18.1
            replace hr_18 := hr_18.2
            refine lv_aload_n hx hb dX10_order_55 rfl (lv_at hl 0 rfl) ?_
            refine hk_getr hx hb hts hC_10 hown hW (gx.S hM) tt_10 44 (by decide) rfl kw_1187 ⟨rfl, rfl, rfl⟩ ((hM.o gx trivial rfl).2.trans f_x_44) dX10_order_56 ?_
            refine lv_iload_n hx hb dX10_order_59 rfl (lv_at hl 1 rfl) ?_
            refine hx_iald hx hb hW hT (gqpl.S hM) tt_79 rfl ⟨by omega, by omega⟩ dX10_order_60 (fun x_20 ex_20 lx_20 ux_20 => ?_)
            have ax_20 : x_20 = plf i1.toNatClampNeg := ex_20.trans (congrFun (hx_afS hM gqpl rfl af_qpl) _)
            refine lv_istore_n (lv' := [(3, .int x_20), (0, .ref x), (1, .int i1), (2, .int i2)]) hx hb dX10_order_61 rfl hl (by decide) rfl (fun ls hl => ?_)
            refine lv_aload_n hx hb dX10_order_62 rfl (lv_at hl 1 rfl) ?_
            refine hk_getr hx hb hts hC_10 hown hW (gx.S hM) tt_10 39 (by decide) rfl kw_1182 ⟨rfl, rfl, rfl⟩ ((hM.o gx trivial rfl).2.trans f_x_39) dX10_order_63 ?_
            refine lv_iload_n hx hb dX10_order_66 rfl (lv_at hl 2 rfl) ?_
            refine hx_iald hx hb hW hT (gqsu.S hM) tt_74 rfl ⟨by omega, by omega⟩ dX10_order_67 (fun x_21 ex_21 lx_21 ux_21 => ?_)
            have ax_21 : x_21 = smf i1.toNatClampNeg := ex_21.trans (congrFun (hx_afS hM gqsu rfl af_qsu) _)
            refine lv_aload_n hx hb dX10_order_68 rfl (lv_at hl 1 rfl) ?_
            refine hk_getr hx hb hts hC_10 hown hW (gx.S hM) tt_10 45 (by decide) rfl kw_1188 ⟨rfl, rfl, rfl⟩ ((hM.o gx trivial rfl).2.trans f_x_45) dX10_order_69 ?_
            refine lv_iload_n hx hb dX10_order_72 rfl (lv_at hl 2 rfl) ?_
            refine hx_iald hx hb hW hT (gqtr.S hM) tt_80 rfl ⟨by omega, by omega⟩ dX10_order_73 (fun x_22 ex_22 lx_22 ux_22 => ?_)
            have ax_22 : x_22 = tf i1.toNatClampNeg := ex_22.trans (congrFun (hx_afS hM gqtr rfl af_qtr) _)
            refine lv_aload_n hx hb dX10_order_74 rfl (lv_at hl 1 rfl) ?_
            refine lv_iload_n hx hb dX10_order_75 rfl (lv_at hl 0 rfl) ?_
            refine lv_bipush (v := 9) hx hb dX10_order_76 (by decide) ?_
            have zc_9 : (9 : Int32).toInt = 9 := by decide
            refine hx_goi (hx_runV (As := [.int x_20, .int (9 : Int32)]) (rest := [.int x_22, .int x_21]) ⟨hx, hb, hml, hown, hts⟩ hW (gx.S hM) tt_10 (T := TX10) (N := 98) rfl (t_X10_ruleOf_v l dC dI dA L_14 h_15 H.size x x_20 (9 : Int32) hT (gx.S hM) qru (gqru.S hM) ((hM.o gx trivial rfl).2.trans f_x_3) rlf (hx_afS hM gqru rfl af_qru) ⟨by omega, by omega⟩ (by decide)) (cwV 2 hts (hx_gV kw_1533 kw_1530 kw_1532 kw_66 kw_103) rfl rfl rfl (by decide +kernel) ⟨Nat.le_of_ble_eq_true rfl, Nat.le_of_ble_eq_true rfl⟩) rfl hl.1 rfl (Nat.le_of_ble_eq_true rfl) dX10_order_78 ⟨Nat.le_of_ble_eq_true rfl, Nat.le_of_ble_eq_true rfl⟩) hW (fun r_25 L_23 h_24 H locs p_26 hW => ?_)
            obtain ⟨hr_27, hT, hs⟩ := p_26
            replace hT : hx_T T_tb L_23 h_24 := hT
            replace hs : hx_S T_tb [] L_14 h_15 L_23 h_24 := hs
            replace af_qod : h_24.2.1 qod = odf := (funext fun j => (hs.a (gqod.S hM) rfl j).1).trans af_qod
            replace af_qow : h_24.2.1 qow = owf := (funext fun j => (hs.a (gqow.S hM) rfl j).1).trans af_qow
            replace af_qwk : h_24.2.1 qwk = wkf := (funext fun j => (hs.a (gqwk.S hM) rfl j).1).trans af_qwk
            replace ex_7 := ex_7.trans (hs.a (gqju.S hM) rfl _).1.symm
            replace ex_9 := ex_9.trans (hs.a (gqod.S hM) rfl _).1.symm
            replace ex_11 := ex_11.trans (hs.a (gqag.S hM) rfl _).1.symm
            replace ex_12 := ex_12.trans (hs.a (gqdd.S hM) rfl _).1.symm
            replace ex_20 := ex_20.trans (hs.a (gqpl.S hM) rfl _).1.symm
            replace ex_21 := ex_21.trans (hs.a (gqsu.S hM) rfl _).1.symm
            replace ex_22 := ex_22.trans (hs.a (gqtr.S hM) rfl _).1.symm
            replace hM := hM.tr (hs.mono (by decide))
            have hl_28p := hPL i1.toInt (by omega) (by omega)
            obtain ⟨_, hl_282, _⟩ := hCA.2 (plf i1.toInt.toNat).toInt.toNat (by omega)
            have hr9 : r_25.toInt = (A (plf i1.toInt.toNat).toInt.toNat).2.1 9 := by rw [hr_27.1, ax_20, show (9 : Int32).toInt.toNat = 9 from by decide, ← hl_282]; show _ = (if 9 < 13 then _ else 0); rw [if_pos (by decide)]; try rfl
            have hpl9 : x_20.toInt ≤ a0.toInt := by rw [ax_20]; exact hl_28p.2
            have hc9_9 : r_25.toInt ≤ 999 := by rw [hr_27.1]; exact hx_WK_c (k := (9 : Int32).toInt) hWK (by omega) hpl9 (by decide) (by decide)
            refine lv_imul hx hb dX10_order_81 ?_
            refine lv_topi (fun x_29 ex_29 => ?_)
            have mx_29 : x_22.toInt = 0 → x_29.toInt = 0 := fun z => by rw [ex_29]; exact hx_mul0 z
            obtain ⟨zm_30, zm_30l, zm_30h⟩ := hz_mulc ⟨by omega, by omega⟩ ⟨by omega, by omega⟩ ex_29
            refine lv_iadd hx hb dX10_order_82 ?_
            have rg_31 := i32_r x_21
            have rg_32 := i32_r x_29
            refine lv_topi (fun x_33 ex_33 => ?_)
            have zx_33 : x_33.toInt = x_21.toInt + x_29.toInt := by rw [ex_33]; exact i32_add rfl rfl (by omega) (by omega)
            refine lv_aload_n hx hb dX10_order_83 rfl (lv_at hl 1 rfl) ?_
            refine lv_iload_n hx hb dX10_order_84 rfl (lv_at hl 0 rfl) ?_
            refine lv_bipush (v := 10) hx hb dX10_order_85 (by decide) ?_
            have zc_10 : (10 : Int32).toInt = 10 := by decide
            refine hx_goi (hx_runV (As := [.int x_20, .int (10 : Int32)]) (rest := [.int x_33]) ⟨hx, hb, hml, hown, hts⟩ hW (gx.S hM) tt_10 (T := TX10) (N := 98) rfl (t_X10_ruleOf_v l dC dI dA L_23 h_24 H.size x x_20 (10 : Int32) hT (gx.S hM) qru (gqru.S hM) ((hM.o gx trivial rfl).2.trans f_x_3) rlf (hx_afS hM gqru rfl af_qru) ⟨by omega, by omega⟩ (by decide)) (cwV 2 hts (hx_gV kw_1533 kw_1530 kw_1532 kw_66 kw_103) rfl rfl rfl (by decide +kernel) ⟨Nat.le_of_ble_eq_true rfl, Nat.le_of_ble_eq_true rfl⟩) rfl hl.1 rfl (Nat.le_of_ble_eq_true rfl) dX10_order_87 ⟨Nat.le_of_ble_eq_true rfl, Nat.le_of_ble_eq_true rfl⟩) hW (fun r_36 L_34 h_35 H locs p_37 hW => ?_)
            obtain ⟨hr_38, hT, hs⟩ := p_37
            replace hT : hx_T T_tb L_34 h_35 := hT
            replace hs : hx_S T_tb [] L_23 h_24 L_34 h_35 := hs
            replace af_qod : h_35.2.1 qod = odf := (funext fun j => (hs.a (gqod.S hM) rfl j).1).trans af_qod
            replace af_qow : h_35.2.1 qow = owf := (funext fun j => (hs.a (gqow.S hM) rfl j).1).trans af_qow
            replace af_qwk : h_35.2.1 qwk = wkf := (funext fun j => (hs.a (gqwk.S hM) rfl j).1).trans af_qwk
            replace ex_7 := ex_7.trans (hs.a (gqju.S hM) rfl _).1.symm
            replace ex_9 := ex_9.trans (hs.a (gqod.S hM) rfl _).1.symm
            replace ex_11 := ex_11.trans (hs.a (gqag.S hM) rfl _).1.symm
            replace ex_12 := ex_12.trans (hs.a (gqdd.S hM) rfl _).1.symm
            replace ex_20 := ex_20.trans (hs.a (gqpl.S hM) rfl _).1.symm
            replace ex_21 := ex_21.trans (hs.a (gqsu.S hM) rfl _).1.symm
            replace ex_22 := ex_22.trans (hs.a (gqtr.S hM) rfl _).1.symm
            replace hM := hM.tr (hs.mono (by decide))
            have hr10 : r_36.toInt = (A (plf i1.toInt.toNat).toInt.toNat).2.1 10 := by rw [hr_38.1, ax_20, show (10 : Int32).toInt.toNat = 10 from by decide, ← hl_282]; show _ = (if 10 < 13 then _ else 0); rw [if_pos (by decide)]; try rfl
            have hc9_10 : r_36.toInt ≤ 999 := by rw [hr_38.1]; exact hx_WK_c (k := (10 : Int32).toInt) hWK (by omega) hpl9 (by decide) (by decide)
            refine lv_iadd hx hb dX10_order_90 ?_
            have rg_40 := i32_r x_33
            have rg_41 := i32_r r_36
            refine lv_topi (fun x_42 ex_42 => ?_)
            have zx_42 : x_42.toInt = x_33.toInt + r_36.toInt := by rw [ex_42]; exact i32_add rfl rfl (by omega) (by omega)
            refine lv_aload_n hx hb dX10_order_91 rfl (lv_at hl 1 rfl) ?_
            refine lv_iload_n hx hb dX10_order_92 rfl (lv_at hl 0 rfl) ?_
            refine lv_bipush (v := 11) hx hb dX10_order_93 (by decide) ?_
            have zc_11 : (11 : Int32).toInt = 11 := by decide
            refine hx_goi (hx_runV (As := [.int x_20, .int (11 : Int32)]) (rest := [.int x_42]) ⟨hx, hb, hml, hown, hts⟩ hW (gx.S hM) tt_10 (T := TX10) (N := 98) rfl (t_X10_ruleOf_v l dC dI dA L_34 h_35 H.size x x_20 (11 : Int32) hT (gx.S hM) qru (gqru.S hM) ((hM.o gx trivial rfl).2.trans f_x_3) rlf (hx_afS hM gqru rfl af_qru) ⟨by omega, by omega⟩ (by decide)) (cwV 2 hts (hx_gV kw_1533 kw_1530 kw_1532 kw_66 kw_103) rfl rfl rfl (by decide +kernel) ⟨Nat.le_of_ble_eq_true rfl, Nat.le_of_ble_eq_true rfl⟩) rfl hl.1 rfl (Nat.le_of_ble_eq_true rfl) dX10_order_95 ⟨Nat.le_of_ble_eq_true rfl, Nat.le_of_ble_eq_true rfl⟩) hW (fun r_45 L_43 h_44 H locs p_46 hW => ?_)
            obtain ⟨hr_47, hT, hs⟩ := p_46
            replace hT : hx_T T_tb L_43 h_44 := hT
            replace hs : hx_S T_tb [] L_34 h_35 L_43 h_44 := hs
            replace af_qod : h_44.2.1 qod = odf := (funext fun j => (hs.a (gqod.S hM) rfl j).1).trans af_qod
            replace af_qow : h_44.2.1 qow = owf := (funext fun j => (hs.a (gqow.S hM) rfl j).1).trans af_qow
            replace af_qwk : h_44.2.1 qwk = wkf := (funext fun j => (hs.a (gqwk.S hM) rfl j).1).trans af_qwk
            replace ex_7 := ex_7.trans (hs.a (gqju.S hM) rfl _).1.symm
            replace ex_9 := ex_9.trans (hs.a (gqod.S hM) rfl _).1.symm
            replace ex_11 := ex_11.trans (hs.a (gqag.S hM) rfl _).1.symm
            replace ex_12 := ex_12.trans (hs.a (gqdd.S hM) rfl _).1.symm
            replace ex_20 := ex_20.trans (hs.a (gqpl.S hM) rfl _).1.symm
            replace ex_21 := ex_21.trans (hs.a (gqsu.S hM) rfl _).1.symm
            replace ex_22 := ex_22.trans (hs.a (gqtr.S hM) rfl _).1.symm
            replace hM := hM.tr (hs.mono (by decide))
            have hr11 : r_45.toInt = (A (plf i1.toInt.toNat).toInt.toNat).2.1 11 := by rw [hr_47.1, ax_20, show (11 : Int32).toInt.toNat = 11 from by decide, ← hl_282]; show _ = (if 11 < 13 then _ else 0); rw [if_pos (by decide)]; try rfl
            have hc9_11 : r_45.toInt ≤ 999 := by rw [hr_47.1]; exact hx_WK_c (k := (11 : Int32).toInt) hWK (by omega) hpl9 (by decide) (by decide)
            refine lv_iadd hx hb dX10_order_98 ?_
            have rg_49 := i32_r x_42
            have rg_50 := i32_r r_45
            refine lv_topi (fun x_51 ex_51 => ?_)
            have zx_51 : x_51.toInt = x_42.toInt + r_45.toInt := by rw [ex_51]; exact i32_add rfl rfl (by omega) (by omega)
            have hall9 : x_51.toInt = ((smf i1.toInt.toNat).toInt + ((tf i1.toInt.toNat).toInt * (A (plf i1.toInt.toNat).toInt.toNat).2.1 9 + (A (plf i1.toInt.toNat).toInt.toNat).2.1 10 + (A (plf i1.toInt.toNat).toInt.toNat).2.1 11)) := by rw [show smf i1.toInt.toNat = x_21 from ax_21.symm, show tf i1.toInt.toNat = x_22 from ax_22.symm, ← hr9, ← hr10, ← hr11, ← zm_30]; omega
            refine lv_istore (lv' := [(4, .int x_51), (3, .int x_20), (0, .ref x), (1, .int i1), (2, .int i2)]) hx hb dX10_order_99 hl (by decide) rfl (fun ls hl => ?_)
            refine lv_iload_n hx hb dX10_order_101 rfl (lv_at hl 4 rfl) ?_
            refine lv_aload_n hx hb dX10_order_102 rfl (lv_at hl 2 rfl) ?_
            refine lv_iload_n hx hb dX10_order_103 rfl (lv_at hl 1 rfl) ?_
            refine lv_iconst (v := 2) hx hb dX10_order_104 (by decide) ?_
            have zc_2 : (2 : Int32).toInt = 2 := by decide
            refine hx_goi (hx_runV (As := [.int x_20, .int (2 : Int32)]) (rest := [.int i2]) ⟨hx, hb, hml, hown, hts⟩ hW (gx.S hM) tt_10 (T := TX10) (N := 98) rfl (t_X10_ruleOf_v l dC dI dA L_43 h_44 H.size x x_20 (2 : Int32) hT (gx.S hM) qru (gqru.S hM) ((hM.o gx trivial rfl).2.trans f_x_3) rlf (hx_afS hM gqru rfl af_qru) ⟨by omega, by omega⟩ (by decide)) (cwV 2 hts (hx_gV kw_1533 kw_1530 kw_1532 kw_66 kw_103) rfl rfl rfl (by decide +kernel) ⟨Nat.le_of_ble_eq_true rfl, Nat.le_of_ble_eq_true rfl⟩) rfl hl.1 rfl (Nat.le_of_ble_eq_true rfl) dX10_order_105 ⟨Nat.le_of_ble_eq_true rfl, Nat.le_of_ble_eq_true rfl⟩) hW (fun r_54 L_52 h_53 H locs p_55 hW => ?_)
            obtain ⟨hr_56, hT, hs⟩ := p_55
            replace hT : hx_T T_tb L_52 h_53 := hT
            replace hs : hx_S T_tb [] L_43 h_44 L_52 h_53 := hs
            replace af_qod : h_53.2.1 qod = odf := (funext fun j => (hs.a (gqod.S hM) rfl j).1).trans af_qod
            replace af_qow : h_53.2.1 qow = owf := (funext fun j => (hs.a (gqow.S hM) rfl j).1).trans af_qow
            replace af_qwk : h_53.2.1 qwk = wkf := (funext fun j => (hs.a (gqwk.S hM) rfl j).1).trans af_qwk
            replace ex_7 := ex_7.trans (hs.a (gqju.S hM) rfl _).1.symm
            replace ex_9 := ex_9.trans (hs.a (gqod.S hM) rfl _).1.symm
            replace ex_11 := ex_11.trans (hs.a (gqag.S hM) rfl _).1.symm
            replace ex_12 := ex_12.trans (hs.a (gqdd.S hM) rfl _).1.symm
            replace ex_20 := ex_20.trans (hs.a (gqpl.S hM) rfl _).1.symm
            replace ex_21 := ex_21.trans (hs.a (gqsu.S hM) rfl _).1.symm
            replace ex_22 := ex_22.trans (hs.a (gqtr.S hM) rfl _).1.symm
            replace hM := hM.tr (hs.mono (by decide))
            have hr2 : r_54.toInt = (A (plf i1.toInt.toNat).toInt.toNat).2.1 2 := by rw [hr_56.1, ax_20, show (2 : Int32).toInt.toNat = 2 from by decide, ← hl_282]; show _ = (if 2 < 13 then _ else 0); rw [if_pos (by decide)]; try rfl
            refine hb_icmp_ge (zx := i2.toInt) (zy := r_54.toInt) (tgt := 120) hx hb rfl rfl dX10_order_108 (by decide) (fun c_58 => ?_) (fun c_58 => ?_)
            · skip
              refine lv_iconst (v := 0) hx hb dX10_order_120 (by decide) ?_
              refine lv_istore (lv' := [(5, .int (0 : Int32)), (4, .int x_51), (3, .int x_20), (0, .ref x), (1, .int i1), (2, .int i2)]) hx hb dX10_order_121 hl (by decide) rfl (fun ls hl => ?_)
              refine lv_iconst (v := 0) hx hb dX10_order_123 (by decide) ?_
              refine lv_istore (lv' := [(6, .int (0 : Int32)), (5, .int (0 : Int32)), (4, .int x_51), (3, .int x_20), (0, .ref x), (1, .int i1), (2, .int i2)]) hx hb dX10_order_124 hl (by decide) rfl (fun ls hl => ?_)
              have loop126 : ∀ (n126 : Nat) (iv126_5 iv126_6 : Int32) (H : Heap) (locs : List Loc) (hL1 : List Nat) (hl1 : hx_h), 0 ≤ iv126_5.toInt → iv126_5.toInt ≤ 999900 → 0 ≤ iv126_6.toInt → iv126_6.toInt ≤ 100 → (iv126_5.toInt = hz_oi agf wkf (hz_Rn odf szf gdf owf svf (hz_rc A plf) pof pdf psm pkf pst nw0.toInt n0.toInt.toNat) (agf i1.toInt.toNat).toInt (iv126_6.toInt).toNat) → (iv126_5.toInt ≤ 9999 * iv126_6.toInt) → (iv126_6.toInt ≤ c0.toInt) → ∀ (ls : Array Slot), 100 - iv126_6.toInt < (n126 : Int) → hx_W T_tb (P_ty dA) (dC, dI) vwCl (hx_A L sz) s.heap hL1 hl1 s H locs → hx_T T_tb hL1 hl1 → hx_S T_tb [(10, 67), (10, 68), (10, 69), (10, 70), (10, 71), (83, 0), (89, 0), (90, 0)] L h hL1 hl1 → hl1.2.1 qod = odf → hl1.2.1 qow = owf → hl1.2.1 qwk = wkf → lv_has ls 7 [(6, .int iv126_6), (5, .int iv126_5), (4, .int x_51), (3, .int x_20), (0, .ref x), (1, .int i1), (2, .int i2)] → W p l e ({ frames := 3, cells := 0, slots := 0, locals := 71 }) s m ([.ref x, .int i1, .int i2] : List Value).toArray below meth c H locs 0 0 (MQ below (va_Qi (fun (r : Int32) (u : List Nat × hx_h) => (∃ (odf1 : Nat → Int32) (wkf1 : Nat → Int32) (owf1 : Nat → Int32), u.2.2.1 qod = odf1 ∧ u.2.2.1 qwk = wkf1 ∧ u.2.2.1 qow = owf1 ∧ (hz_OS (hz_OC c0.toInt i1.toInt i2.toInt (udf i1.toInt.toNat).toInt (odf i1.toInt.toNat).toInt (ddf (agf i1.toInt.toNat).toInt.toNat).toInt) i1.toInt.toNat i2 nw0 r ((A (plf i1.toInt.toNat).toInt.toNat).2.1 2) ((smf i1.toInt.toNat).toInt + ((tf i1.toInt.toNat).toInt * (A (plf i1.toInt.toNat).toInt.toNat).2.1 9 + (A (plf i1.toInt.toNat).toInt.toNat).2.1 10 + (A (plf i1.toInt.toNat).toInt.toNat).2.1 11)) (hz_oi agf wkf (hz_Rn odf szf gdf owf svf (hz_rc A plf) pof pdf psm pkf pst nw0.toInt n0.toInt.toNat) (agf i1.toInt.toNat).toInt c0.toInt.toNat) ((eaf (agf i1.toInt.toNat).toInt.toNat).toInt - (A (plf i1.toInt.toNat).toInt.toNat).2.1 3 * (hdf (agf i1.toInt.toNat).toInt.toNat).toInt) odf odf1 wkf wkf1 owf owf1)) ∧ hx_T T_tb u.1 u.2 ∧ hx_S T_tb [(10, 67), (10, 68), (10, 69), (10, 70), (10, 71), (83, 0), (89, 0), (90, 0)] L h u.1 u.2) (hx_E T_tb (P_ty dA) (dC, dI) vwCl (hx_A L sz)) (hx_A L sz)) ([.ref x, .int i1, .int i2] : List Value).toArray s 0 0 (hx_A L sz)) (F0 m 126 ls []) := by
                intro n126
                induction n126 with
                | zero => intro iv126_5 iv126_6 H locs hL1 hl1 bliv126_5 buiv126_5 bliv126_6 buiv126_6 vi126_0 vi126_1 vi126_2 ls hn126; exfalso; omega
                | succ n126 ih126 =>
                  intro iv126_5 iv126_6 H locs hL1 hl1 bliv126_5 buiv126_5 bliv126_6 buiv126_6 vi126_0 vi126_1 vi126_2 ls hn126 hW hT hM  af_qod af_qow af_qwk hl
                  refine lv_iload hx hb dX10_order_126 (lv_at hl 0 rfl) ?_
                  refine lv_aload_n hx hb dX10_order_128 rfl (lv_at hl 4 rfl) ?_
                  refine hk_geti hx hb hts hC_10 hown hW (gx.S hM) tt_10 36 (by decide) rfl kw_1179 ⟨rfl, rfl, rfl⟩ ((hM.o gx trivial rfl).1.trans f_x_36) dX10_order_129 ?_
                  refine hb_icmp_ge (zx := iv126_6.toInt) (zy := c0.toInt) (tgt := 182) hx hb rfl rfl dX10_order_132 (by decide) (fun c_59 => ?_) (fun c_59 => ?_)
                  · skip
                    have hoi9 : iv126_5.toInt = (hz_oi agf wkf (hz_Rn odf szf gdf owf svf (hz_rc A plf) pof pdf psm pkf pst nw0.toInt n0.toInt.toNat) (agf i1.toInt.toNat).toInt c0.toInt.toNat) := by have h8 := vi126_0; rw [show iv126_6.toInt.toNat = c0.toInt.toNat by omega] at h8; exact h8
                    refine lv_iload_n hx hb dX10_order_182 rfl (lv_at hl 6 rfl) ?_
                    refine lv_iload hx hb dX10_order_183 (lv_at hl 1 rfl) ?_
                    refine lv_iadd hx hb dX10_order_185 ?_
                    have rg_60 := i32_r i2
                    have rg_61 := i32_r iv126_5
                    refine lv_topi (fun x_62 ex_62 => ?_)
                    have zx_62 : x_62.toInt = i2.toInt + iv126_5.toInt := by rw [ex_62]; exact i32_add rfl rfl (by omega) (by omega)
                    refine lv_aload_n hx hb dX10_order_186 rfl (lv_at hl 4 rfl) ?_
                    refine lv_aload_n hx hb dX10_order_187 rfl (lv_at hl 4 rfl) ?_
                    refine hk_getr hx hb hts hC_10 hown hW (gx.S hM) tt_10 38 (by decide) rfl kw_1181 ⟨rfl, rfl, rfl⟩ ((hM.o gx trivial rfl).2.trans f_x_38) dX10_order_188 ?_
                    refine lv_iload_n hx hb dX10_order_191 rfl (lv_at hl 5 rfl) ?_
                    refine hx_iald hx hb hW hT (gqag.S hM) tt_73 rfl ⟨by omega, by omega⟩ dX10_order_192 (fun x_63 ex_63 lx_63 ux_63 => ?_)
                    have ax_63 : x_63 = agf i1.toNatClampNeg := ex_63.trans (congrFun (hx_afS hM gqag rfl af_qag) _)
                    refine lv_iload_n hx hb dX10_order_193 rfl (lv_at hl 3 rfl) ?_
                    refine hx_goi (hx_runV (As := [.int x_63, .int x_20]) (rest := [.int x_62]) ⟨hx, hb, hml, hown, hts⟩ hW (gx.S hM) tt_10 (T := TX10) (N := 98) rfl (t_X10_means_v l dC dI dA hL1 hl1 H.size x x_63 x_20 hT (gx.S hM) qea (gqea.S hM) ((hM.o gx trivial rfl).2.trans f_x_22) qhd (gqhd.S hM) ((hM.o gx trivial rfl).2.trans f_x_23) qru (gqru.S hM) ((hM.o gx trivial rfl).2.trans f_x_3) eaf (hx_afS hM gqea rfl af_qea) hdf (hx_afS hM gqhd rfl af_qhd) rlf (hx_afS hM gqru rfl af_qru) ⟨by omega, by omega⟩ ⟨by omega, by omega⟩ ((A (plf i1.toInt.toNat).toInt.toNat).2.1 3) (by rw [ax_20, ← hl_282]; show _ = (if 3 < 13 then _ else 0); rw [if_pos (by decide)]; try rfl)) (cwV 2 hts (hx_gV kw_1645 kw_1642 kw_1644 kw_83 kw_103) rfl rfl rfl (by decide +kernel) ⟨Nat.le_of_ble_eq_true rfl, Nat.le_of_ble_eq_true rfl⟩) rfl hl.1 rfl (Nat.le_of_ble_eq_true rfl) dX10_order_194 ⟨Nat.le_of_ble_eq_true rfl, Nat.le_of_ble_eq_true rfl⟩) hW (fun r_66 L_64 h_65 H locs p_67 hW => ?_)
                    obtain ⟨hr_68, hT, hs⟩ := p_67
                    replace hT : hx_T T_tb L_64 h_65 := hT
                    replace hs : hx_S T_tb [] hL1 hl1 L_64 h_65 := hs
                    replace af_qod : h_65.2.1 qod = odf := (funext fun j => (hs.a (gqod.S hM) rfl j).1).trans af_qod
                    replace af_qow : h_65.2.1 qow = owf := (funext fun j => (hs.a (gqow.S hM) rfl j).1).trans af_qow
                    replace af_qwk : h_65.2.1 qwk = wkf := (funext fun j => (hs.a (gqwk.S hM) rfl j).1).trans af_qwk
                    replace ex_63 := ex_63.trans (hs.a (gqag.S hM) rfl _).1.symm
                    replace hM := hM.tr (hs.mono (by decide))
                    have hme9 : r_66.toInt = ((eaf (agf i1.toInt.toNat).toInt.toNat).toInt - (A (plf i1.toInt.toNat).toInt.toNat).2.1 3 * (hdf (agf i1.toInt.toNat).toInt.toNat).toInt) := by have h9 := hr_68.1; rw [ax_63] at h9; exact h9
                    refine hb_icmp_le (zx := x_62.toInt) (zy := r_66.toInt) (tgt := 203) hx hb rfl rfl dX10_order_197 (by decide) (fun c_69 => ?_) (fun c_69 => ?_)
                    · skip
                      refine lv_aload_n hx hb dX10_order_203 rfl (lv_at hl 4 rfl) ?_
                      refine hk_getr hx hb hts hC_10 hown hW (gx.S hM) tt_10 48 (by decide) rfl kw_1191 ⟨rfl, rfl, rfl⟩ ((hM.o gx trivial rfl).2.trans f_x_48) dX10_order_204 ?_
                      refine lv_iload_n hx hb dX10_order_207 rfl (lv_at hl 5 rfl) ?_
                      refine lv_aload_n hx hb dX10_order_208 rfl (lv_at hl 4 rfl) ?_
                      refine hk_geti hx hb hts hC_10 hown hW (gx.S hM) tt_10 0 (by decide) rfl kw_1143 ⟨rfl, rfl, rfl⟩ ((hM.o gx trivial rfl).1.trans f_x_0) dX10_order_209 ?_
                      have af_qodO := af_qod
                      refine hx_iast hx hb hW hT (hx_S.rf (M := [(83, 0)])) (gqod.S hM) tt_83 rfl ⟨by omega, by omega⟩ rfl ⟨by omega, by omega⟩ (List.mem_singleton.mpr rfl) dX10_order_212 (fun H locs h_70 eh_70 hW hT hs => ?_)
                      replace af_qow : h_70.2.1 qow = owf := (funext fun j => (hs.a (gqow.S hM) rfl j).1).trans af_qow
                      replace af_qwk : h_70.2.1 qwk = wkf := (funext fun j => (hs.a (gqwk.S hM) rfl j).1).trans af_qwk
                      replace ex_63 := ex_63.trans (hs.a (gqag.S hM) rfl _).1.symm
                      replace hM := hM.tr (hs.mono (by decide))
                      obtain ⟨fa_71, dfa_71⟩ : ∃ g : Nat → Int32, g = hx_up odf i1.toNatClampNeg nw0 := ⟨_, rfl⟩
                      have nfa_71 : h_70.2.1 qod = fa_71 := by rw [eh_70, dfa_71, ← af_qodO]; exact hx_pi_fun _ _ _ _
                      refine lv_aload_n hx hb dX10_order_213 rfl (lv_at hl 4 rfl) ?_
                      refine hk_getr hx hb hts hC_10 hown hW (gx.S hM) tt_10 54 (by decide) rfl kw_1197 ⟨rfl, rfl, rfl⟩ ((hM.o gx trivial rfl).2.trans f_x_54) dX10_order_214 ?_
                      refine lv_iload_n hx hb dX10_order_217 rfl (lv_at hl 5 rfl) ?_
                      refine lv_iload_n hx hb dX10_order_218 rfl (lv_at hl 6 rfl) ?_
                      have af_qwkO := af_qwk
                      refine hx_iast hx hb hW hT (hx_S.rf (M := [(89, 0)])) (gqwk.S hM) tt_89 rfl ⟨by omega, by omega⟩ rfl ⟨by omega, by omega⟩ (List.mem_singleton.mpr rfl) dX10_order_219 (fun H locs h_72 eh_72 hW hT hs => ?_)
                      replace af_qow : h_72.2.1 qow = owf := (funext fun j => (hs.a (gqow.S hM) rfl j).1).trans af_qow
                      replace nfa_71 : h_72.2.1 qod = fa_71 := (funext fun j => (hs.a (gqod.S hM) rfl j).1).trans nfa_71
                      replace ex_63 := ex_63.trans (hs.a (gqag.S hM) rfl _).1.symm
                      replace hM := hM.tr (hs.mono (by decide))
                      obtain ⟨fa_73, dfa_73⟩ : ∃ g : Nat → Int32, g = hx_up wkf i1.toNatClampNeg i2 := ⟨_, rfl⟩
                      have nfa_73 : h_72.2.1 qwk = fa_73 := by rw [eh_72, dfa_73, ← af_qwkO]; exact hx_pi_fun _ _ _ _
                      refine lv_aload_n hx hb dX10_order_220 rfl (lv_at hl 4 rfl) ?_
                      refine hk_getr hx hb hts hC_10 hown hW (gx.S hM) tt_10 55 (by decide) rfl kw_1198 ⟨rfl, rfl, rfl⟩ ((hM.o gx trivial rfl).2.trans f_x_55) dX10_order_221 ?_
                      refine lv_iload_n hx hb dX10_order_224 rfl (lv_at hl 5 rfl) ?_
                      refine lv_iload hx hb dX10_order_225 (lv_at hl 2 rfl) ?_
                      have af_qowO := af_qow
                      refine hx_iast hx hb hW hT (hx_S.rf (M := [(90, 0)])) (gqow.S hM) tt_90 rfl ⟨by omega, by omega⟩ rfl ⟨by omega, by omega⟩ (List.mem_singleton.mpr rfl) dX10_order_227 (fun H locs h_74 eh_74 hW hT hs => ?_)
                      replace nfa_71 : h_74.2.1 qod = fa_71 := (funext fun j => (hs.a (gqod.S hM) rfl j).1).trans nfa_71
                      replace nfa_73 : h_74.2.1 qwk = fa_73 := (funext fun j => (hs.a (gqwk.S hM) rfl j).1).trans nfa_73
                      replace ex_63 := ex_63.trans (hs.a (gqag.S hM) rfl _).1.symm
                      replace hM := hM.tr (hs.mono (by decide))
                      obtain ⟨fa_75, dfa_75⟩ : ∃ g : Nat → Int32, g = hx_up owf i1.toNatClampNeg x_51 := ⟨_, rfl⟩
                      have nfa_75 : h_74.2.1 qow = fa_75 := by rw [eh_74, dfa_75, ← af_qowO]; exact hx_pi_fun _ _ _ _
                      refine lv_iload hx hb dX10_order_228 (lv_at hl 2 rfl) ?_
                      exact hx_reti hx hb hr hlk hW ⟨⟨fa_71, fa_73, fa_75, nfa_71, nfa_73, nfa_75, (Or.inr ⟨⟨⟨by omega, by omega⟩, (by rw [show udf i1.toInt.toNat = x_7 from ax_7.symm]; omega), (by rw [show odf i1.toInt.toNat = x_9 from ax_9.symm]; omega), (by rw [← cdd9]; omega), by omega, by omega⟩, Or.inr (Or.inr ⟨(by rw [← hr2, ← hall9]; omega), (by rw [← hme9, ← hoi9]; omega), hall9, dfa_71, dfa_73, dfa_75⟩)⟩)⟩, hT, hM⟩ dX10_order_230
                    · skip
                      refine lv_bipush (v := -3) hx hb dX10_order_200 (by decide) ?_
                      exact hx_reti hx hb hr hlk hW ⟨⟨odf, wkf, owf, af_qod, af_qwk, af_qow, (Or.inr ⟨⟨⟨by omega, by omega⟩, (by rw [show udf i1.toInt.toNat = x_7 from ax_7.symm]; omega), (by rw [show odf i1.toInt.toNat = x_9 from ax_9.symm]; omega), (by rw [← cdd9]; omega), by omega, by omega⟩, Or.inr (Or.inl ⟨(by rw [← hr2, ← hall9]; omega), (by rw [← hme9, ← hoi9]; omega), by decide, rfl, rfl, rfl⟩)⟩)⟩, hT, hM⟩ dX10_order_202
                  · skip
                    refine lv_iload hx hb dX10_order_135 (lv_at hl 1 rfl) ?_
                    refine lv_aload_n hx hb dX10_order_137 rfl (lv_at hl 4 rfl) ?_
                    refine hk_getr hx hb hts hC_10 hown hW (gx.S hM) tt_10 38 (by decide) rfl kw_1181 ⟨rfl, rfl, rfl⟩ ((hM.o gx trivial rfl).2.trans f_x_38) dX10_order_138 ?_
                    refine lv_iload hx hb dX10_order_141 (lv_at hl 0 rfl) ?_
                    refine hx_iald hx hb hW hT (gqag.S hM) tt_73 rfl ⟨by omega, by omega⟩ dX10_order_143 (fun x_76 ex_76 lx_76 ux_76 => ?_)
                    have ax_76 : x_76 = agf iv126_6.toNatClampNeg := ex_76.trans (congrFun (hx_afS hM gqag rfl af_qag) _)
                    refine lv_aload_n hx hb dX10_order_144 rfl (lv_at hl 4 rfl) ?_
                    refine hk_getr hx hb hts hC_10 hown hW (gx.S hM) tt_10 38 (by decide) rfl kw_1181 ⟨rfl, rfl, rfl⟩ ((hM.o gx trivial rfl).2.trans f_x_38) dX10_order_145 ?_
                    refine lv_iload_n hx hb dX10_order_148 rfl (lv_at hl 5 rfl) ?_
                    refine hx_iald hx hb hW hT (gqag.S hM) tt_73 rfl ⟨by omega, by omega⟩ dX10_order_149 (fun x_77 ex_77 lx_77 ux_77 => ?_)
                    have ax_77 : x_77 = agf i1.toNatClampNeg := ex_77.trans (congrFun (hx_afS hM gqag rfl af_qag) _)
                    refine hb_icmp_ne (zx := x_76.toInt) (zy := x_77.toInt) (tgt := 172) hx hb rfl rfl dX10_order_150 (by decide) (fun c_78 => ?_) (fun c_78 => ?_)
                    · skip
                      refine lv_iconst (v := 0) hx hb dX10_order_172 (by decide) ?_
                      refine lv_iadd hx hb dX10_order_173 ?_
                      have rg_79 := i32_r iv126_5
                      refine lv_topi (fun x_80 ex_80 => ?_)
                      have zx_80 : x_80.toInt = iv126_5.toInt + 0 := by rw [ex_80]; exact i32_add rfl (by decide) (by omega) (by omega)
                      refine lv_istore (lv' := [(5, .int x_80), (6, .int iv126_6), (4, .int x_51), (3, .int x_20), (0, .ref x), (1, .int i1), (2, .int i2)]) hx hb dX10_order_174 hl (by decide) rfl (fun ls hl => ?_)
                      obtain ⟨x_81, ex_81⟩ : ∃ y : Int32, y = iv126_6 + Int32.ofInt 1 := ⟨_, rfl⟩
                      have rg_82 := i32_r iv126_6
                      have zx_81 : x_81.toInt = iv126_6.toInt + (1) := by rw [ex_81]; exact i32_add rfl (by decide) (by omega) (by omega)
                      refine lv_iinc (v := x_81) (lv' := [(6, .int x_81), (5, .int x_80), (4, .int x_51), (3, .int x_20), (0, .ref x), (1, .int i1), (2, .int i2)]) hx hb dX10_order_176 hl (k := 1) rfl ex_81.symm (by decide) rfl (fun ls hl => ?_)
                      refine lv_goto (tgt := 126) hx hb dX10_order_179 (by decide) ?_
                      exact ih126 x_80 x_81 _ _ hL1 hl1 (by omega) (by omega) (by omega) (by omega) (by have e9 : x_80.toInt = iv126_5.toInt := (by omega); rw [e9]; exact hz_oi_n vi126_0 (by omega) (fun z => by have z9 := z.1; rw [show agf iv126_6.toInt.toNat = x_76 from ax_76.symm, show agf i1.toInt.toNat = x_77 from ax_77.symm] at z9; omega) zx_81) (by omega) (by omega) ls (by omega) hW hT hM  af_qod af_qow af_qwk (lv_sub hl [0, 1, 2, 3, 4, 5, 6] rfl)
                    · skip
                      refine lv_aload_n hx hb dX10_order_153 rfl (lv_at hl 4 rfl) ?_
                      refine lv_iload hx hb dX10_order_154 (lv_at hl 0 rfl) ?_
                      refine hx_goi (hx_runV (As := [.int iv126_6]) (rest := [.int iv126_5]) ⟨hx, hb, hml, hown, hts⟩ hW (gx.S hM) tt_10 (T := TX10) (N := 98) rfl (t_X10_isOpen_v l dC dI dA hL1 hl1 H.size x iv126_6 hT (gx.S hM) qfo (gqfo.S hM) ((hM.o gx trivial rfl).2.trans f_x_46) qhe (gqhe.S hM) ((hM.o gx trivial rfl).2.trans f_x_47) qju (gqju.S hM) ((hM.o gx trivial rfl).2.trans f_x_51) qod (gqod.S hM) ((hM.o gx trivial rfl).2.trans f_x_48) qsv (gqsv.S hM) ((hM.o gx trivial rfl).2.trans f_x_50) qsz (gqsz.S hM) ((hM.o gx trivial rfl).2.trans f_x_49) qgd (gqgd.S hM) ((hM.o gx trivial rfl).2.trans f_x_56) qow (gqow.S hM) ((hM.o gx trivial rfl).2.trans f_x_55) qwk (gqwk.S hM) ((hM.o gx trivial rfl).2.trans f_x_54) qpl (gqpl.S hM) ((hM.o gx trivial rfl).2.trans f_x_44) qru (gqru.S hM) ((hM.o gx trivial rfl).2.trans f_x_3) qpo (gqpo.S hM) ((hM.o gx trivial rfl).2.trans f_x_60) qpd (gqpd.S hM) ((hM.o gx trivial rfl).2.trans f_x_61) qps (gqps.S hM) ((hM.o gx trivial rfl).2.trans f_x_62) qpk (gqpk.S hM) ((hM.o gx trivial rfl).2.trans f_x_63) qpt (gqpt.S hM) ((hM.o gx trivial rfl).2.trans f_x_64) fof (hx_afS hM gqfo rfl af_qfo) hrf (hx_afS hM gqhe rfl af_qhe) udf (hx_afS hM gqju rfl af_qju) odf af_qod svf (hx_afS hM gqsv rfl af_qsv) szf (hx_afS hM gqsz rfl af_qsz) gdf (hx_afS hM gqgd rfl af_qgd) owf af_qow wkf af_qwk plf (hx_afS hM gqpl rfl af_qpl) rlf (hx_afS hM gqru rfl af_qru) pof (hx_afS hM gqpo rfl af_qpo) pdf (hx_afS hM gqpd rfl af_qpd) psm (hx_afS hM gqps rfl af_qps) pkf (hx_afS hM gqpk rfl af_qpk) pst (hx_afS hM gqpt rfl af_qpt) c0 ((hM.o gx trivial rfl).1.trans f_x_36) a0 ((hM.o gx trivial rfl).1.trans f_x_1) nw0 ((hM.o gx trivial rfl).1.trans f_x_0) n0 ((hM.o gx trivial rfl).1.trans f_x_59) ⟨by omega, by omega⟩ adf psf prf A hCA hPL) (cwV 1 hts (hx_gV kw_1637 kw_1634 kw_1636 kw_81 kw_103) rfl rfl rfl (by decide +kernel) ⟨Nat.le_of_ble_eq_true rfl, Nat.le_of_ble_eq_true rfl⟩) rfl hl.1 rfl (Nat.le_of_ble_eq_true rfl) dX10_order_156 ⟨Nat.le_of_ble_eq_true rfl, Nat.le_of_ble_eq_true rfl⟩) hW (fun r_85 L_83 h_84 H locs p_86 hW => ?_)
                      obtain ⟨⟨w_88, fw_88, hr_87⟩, hT, hs⟩ := p_86
                      replace hT : hx_T T_tb L_83 h_84 := hT
                      replace hs : hx_S T_tb [(10, 67), (10, 68), (10, 69), (10, 70), (10, 71)] hL1 hl1 L_83 h_84 := hs
                      replace af_qod : h_84.2.1 qod = odf := (funext fun j => (hs.a (gqod.S hM) rfl j).1).trans af_qod
                      replace af_qow : h_84.2.1 qow = owf := (funext fun j => (hs.a (gqow.S hM) rfl j).1).trans af_qow
                      replace af_qwk : h_84.2.1 qwk = wkf := (funext fun j => (hs.a (gqwk.S hM) rfl j).1).trans af_qwk
                      replace ex_76 := ex_76.trans (hs.a (gqag.S hM) rfl _).1.symm
                      replace ex_77 := ex_77.trans (hs.a (gqag.S hM) rfl _).1.symm
                      replace hM := hM.tr (hs.mono (by decide))
                      have fw_88 : h_84.2.1 x 68 = w_88 := fw_88
                      have bw_88 := hT.gi (gx.S hM) tt_10 (k := 68) rfl
                      rw [fw_88] at bw_88
                      have bw_88 : 0 ≤ w_88.toInt ∧ w_88.toInt ≤ 610000 := bw_88
                      refine hb_if_eq (zx := r_85.toInt) (tgt := 172) hx hb rfl dX10_order_159 (by decide) (fun c_89 => ?_) (fun c_89 => ?_)
                      · skip
                        refine lv_iconst (v := 0) hx hb dX10_order_172 (by decide) ?_
                        refine lv_iadd hx hb dX10_order_173 ?_
                        have rg_90 := i32_r iv126_5
                        refine lv_topi (fun x_91 ex_91 => ?_)
                        have zx_91 : x_91.toInt = iv126_5.toInt + 0 := by rw [ex_91]; exact i32_add rfl (by decide) (by omega) (by omega)
                        refine lv_istore (lv' := [(5, .int x_91), (6, .int iv126_6), (4, .int x_51), (3, .int x_20), (0, .ref x), (1, .int i1), (2, .int i2)]) hx hb dX10_order_174 hl (by decide) rfl (fun ls hl => ?_)
                        obtain ⟨x_92, ex_92⟩ : ∃ y : Int32, y = iv126_6 + Int32.ofInt 1 := ⟨_, rfl⟩
                        have rg_93 := i32_r iv126_6
                        have zx_92 : x_92.toInt = iv126_6.toInt + (1) := by rw [ex_92]; exact i32_add rfl (by decide) (by omega) (by omega)
                        refine lv_iinc (v := x_92) (lv' := [(6, .int x_92), (5, .int x_91), (4, .int x_51), (3, .int x_20), (0, .ref x), (1, .int i1), (2, .int i2)]) hx hb dX10_order_176 hl (k := 1) rfl ex_92.symm (by decide) rfl (fun ls hl => ?_)
                        refine lv_goto (tgt := 126) hx hb dX10_order_179 (by decide) ?_
                        exact ih126 x_91 x_92 _ _ L_83 h_84 (by omega) (by omega) (by omega) (by omega) (by have e9 : x_91.toInt = iv126_5.toInt := (by omega); rw [e9]; exact hz_oi_n vi126_0 (by omega) (fun z => by have z9 := z.2; have h8 := hr_87.1; omega) zx_92) (by omega) (by omega) ls (by omega) hW hT hM  af_qod af_qow af_qwk (lv_sub hl [0, 1, 2, 3, 4, 5, 6] rfl)
                      · skip
                        refine lv_aload_n hx hb dX10_order_162 rfl (lv_at hl 4 rfl) ?_
                        refine hk_getr hx hb hts hC_10 hown hW (gx.S hM) tt_10 54 (by decide) rfl kw_1197 ⟨rfl, rfl, rfl⟩ ((hM.o gx trivial rfl).2.trans f_x_54) dX10_order_163 ?_
                        refine lv_iload hx hb dX10_order_166 (lv_at hl 0 rfl) ?_
                        refine hx_iald hx hb hW hT (gqwk.S hM) tt_89 rfl ⟨by omega, by omega⟩ dX10_order_168 (fun x_94 ex_94 lx_94 ux_94 => ?_)
                        have ax_94 : x_94 = wkf iv126_6.toNatClampNeg := ex_94.trans (congrFun af_qwk _)
                        refine lv_goto (tgt := 173) hx hb dX10_order_169 (by decide) ?_
                        refine lv_iadd hx hb dX10_order_173 ?_
                        have rg_95 := i32_r iv126_5
                        have rg_96 := i32_r x_94
                        refine lv_topi (fun x_97 ex_97 => ?_)
                        have zx_97 : x_97.toInt = iv126_5.toInt + x_94.toInt := by rw [ex_97]; exact i32_add rfl rfl (by omega) (by omega)
                        refine lv_istore (lv' := [(5, .int x_97), (6, .int iv126_6), (4, .int x_51), (3, .int x_20), (0, .ref x), (1, .int i1), (2, .int i2)]) hx hb dX10_order_174 hl (by decide) rfl (fun ls hl => ?_)
                        obtain ⟨x_98, ex_98⟩ : ∃ y : Int32, y = iv126_6 + Int32.ofInt 1 := ⟨_, rfl⟩
                        have rg_99 := i32_r iv126_6
                        have zx_98 : x_98.toInt = iv126_6.toInt + (1) := by rw [ex_98]; exact i32_add rfl (by decide) (by omega) (by omega)
                        refine lv_iinc (v := x_98) (lv' := [(6, .int x_98), (5, .int x_97), (4, .int x_51), (3, .int x_20), (0, .ref x), (1, .int i1), (2, .int i2)]) hx hb dX10_order_176 hl (k := 1) rfl ex_98.symm (by decide) rfl (fun ls hl => ?_)
                        refine lv_goto (tgt := 126) hx hb dX10_order_179 (by decide) ?_
                        exact ih126 x_97 x_98 _ _ L_83 h_84 (by omega) (by omega) (by omega) (by omega) (hz_oi_y (ix := iv126_6.toNatClampNeg) (v := x_94) vi126_0 (by omega) (by unfold Int32.toNatClampNeg; omega) (by rw [show agf iv126_6.toInt.toNat = x_76 from ax_76.symm, show agf i1.toInt.toNat = x_77 from ax_77.symm]; omega) (by have h8 := hr_87.1; omega) ax_94 (by omega) zx_98) (by omega) (by omega) ls (by omega) hW hT hM  af_qod af_qow af_qwk (lv_sub hl [0, 1, 2, 3, 4, 5, 6] rfl)
              have zk_0 : (0 : Int32).toInt = 0 := by decide
              have zk_0 : (0 : Int32).toInt = 0 := by decide
              exact loop126 101 (0 : Int32) (0 : Int32) _ _ L_52 h_53 (by decide) (by decide) (by decide) (by decide) (by rw [zk_0]; rfl) (by omega) (by omega) ls (by omega) hW hT hM  af_qod af_qow af_qwk hl
            · skip
              refine lv_iload_n hx hb dX10_order_111 rfl (lv_at hl 4 rfl) ?_
              refine lv_iload hx hb dX10_order_112 (lv_at hl 0 rfl) ?_
              refine hb_icmp_ge (zx := i2.toInt) (zy := x_51.toInt) (tgt := 120) hx hb rfl rfl dX10_order_114 (by decide) (fun c_100 => ?_) (fun c_100 => ?_)
              · skip
                refine lv_iconst (v := 0) hx hb dX10_order_120 (by decide) ?_
                refine lv_istore (lv' := [(5, .int (0 : Int32)), (4, .int x_51), (3, .int x_20), (0, .ref x), (1, .int i1), (2, .int i2)]) hx hb dX10_order_121 hl (by decide) rfl (fun ls hl => ?_)
                refine lv_iconst (v := 0) hx hb dX10_order_123 (by decide) ?_
                refine lv_istore (lv' := [(6, .int (0 : Int32)), (5, .int (0 : Int32)), (4, .int x_51), (3, .int x_20), (0, .ref x), (1, .int i1), (2, .int i2)]) hx hb dX10_order_124 hl (by decide) rfl (fun ls hl => ?_)
                have loop126 : ∀ (n126 : Nat) (iv126_5 iv126_6 : Int32) (H : Heap) (locs : List Loc) (hL1 : List Nat) (hl1 : hx_h), 0 ≤ iv126_5.toInt → iv126_5.toInt ≤ 999900 → 0 ≤ iv126_6.toInt → iv126_6.toInt ≤ 100 → (iv126_5.toInt = hz_oi agf wkf (hz_Rn odf szf gdf owf svf (hz_rc A plf) pof pdf psm pkf pst nw0.toInt n0.toInt.toNat) (agf i1.toInt.toNat).toInt (iv126_6.toInt).toNat) → (iv126_5.toInt ≤ 9999 * iv126_6.toInt) → (iv126_6.toInt ≤ c0.toInt) → ∀ (ls : Array Slot), 100 - iv126_6.toInt < (n126 : Int) → hx_W T_tb (P_ty dA) (dC, dI) vwCl (hx_A L sz) s.heap hL1 hl1 s H locs → hx_T T_tb hL1 hl1 → hx_S T_tb [(10, 67), (10, 68), (10, 69), (10, 70), (10, 71), (83, 0), (89, 0), (90, 0)] L h hL1 hl1 → hl1.2.1 qod = odf → hl1.2.1 qow = owf → hl1.2.1 qwk = wkf → lv_has ls 7 [(6, .int iv126_6), (5, .int iv126_5), (4, .int x_51), (3, .int x_20), (0, .ref x), (1, .int i1), (2, .int i2)] → W p l e ({ frames := 3, cells := 0, slots := 0, locals := 71 }) s m ([.ref x, .int i1, .int i2] : List Value).toArray below meth c H locs 0 0 (MQ below (va_Qi (fun (r : Int32) (u : List Nat × hx_h) => (∃ (odf1 : Nat → Int32) (wkf1 : Nat → Int32) (owf1 : Nat → Int32), u.2.2.1 qod = odf1 ∧ u.2.2.1 qwk = wkf1 ∧ u.2.2.1 qow = owf1 ∧ (hz_OS (hz_OC c0.toInt i1.toInt i2.toInt (udf i1.toInt.toNat).toInt (odf i1.toInt.toNat).toInt (ddf (agf i1.toInt.toNat).toInt.toNat).toInt) i1.toInt.toNat i2 nw0 r ((A (plf i1.toInt.toNat).toInt.toNat).2.1 2) ((smf i1.toInt.toNat).toInt + ((tf i1.toInt.toNat).toInt * (A (plf i1.toInt.toNat).toInt.toNat).2.1 9 + (A (plf i1.toInt.toNat).toInt.toNat).2.1 10 + (A (plf i1.toInt.toNat).toInt.toNat).2.1 11)) (hz_oi agf wkf (hz_Rn odf szf gdf owf svf (hz_rc A plf) pof pdf psm pkf pst nw0.toInt n0.toInt.toNat) (agf i1.toInt.toNat).toInt c0.toInt.toNat) ((eaf (agf i1.toInt.toNat).toInt.toNat).toInt - (A (plf i1.toInt.toNat).toInt.toNat).2.1 3 * (hdf (agf i1.toInt.toNat).toInt.toNat).toInt) odf odf1 wkf wkf1 owf owf1)) ∧ hx_T T_tb u.1 u.2 ∧ hx_S T_tb [(10, 67), (10, 68), (10, 69), (10, 70), (10, 71), (83, 0), (89, 0), (90, 0)] L h u.1 u.2) (hx_E T_tb (P_ty dA) (dC, dI) vwCl (hx_A L sz)) (hx_A L sz)) ([.ref x, .int i1, .int i2] : List Value).toArray s 0 0 (hx_A L sz)) (F0 m 126 ls []) := by
                  intro n126
                  induction n126 with
                  | zero => intro iv126_5 iv126_6 H locs hL1 hl1 bliv126_5 buiv126_5 bliv126_6 buiv126_6 vi126_0 vi126_1 vi126_2 ls hn126; exfalso; omega
                  | succ n126 ih126 =>
                    intro iv126_5 iv126_6 H locs hL1 hl1 bliv126_5 buiv126_5 bliv126_6 buiv126_6 vi126_0 vi126_1 vi126_2 ls hn126 hW hT hM  af_qod af_qow af_qwk hl
                    refine lv_iload hx hb dX10_order_126 (lv_at hl 0 rfl) ?_
                    refine lv_aload_n hx hb dX10_order_128 rfl (lv_at hl 4 rfl) ?_
                    refine hk_geti hx hb hts hC_10 hown hW (gx.S hM) tt_10 36 (by decide) rfl kw_1179 ⟨rfl, rfl, rfl⟩ ((hM.o gx trivial rfl).1.trans f_x_36) dX10_order_129 ?_
                    refine hb_icmp_ge (zx := iv126_6.toInt) (zy := c0.toInt) (tgt := 182) hx hb rfl rfl dX10_order_132 (by decide) (fun c_101 => ?_) (fun c_101 => ?_)
                    · skip
                      have hoi9 : iv126_5.toInt = (hz_oi agf wkf (hz_Rn odf szf gdf owf svf (hz_rc A plf) pof pdf psm pkf pst nw0.toInt n0.toInt.toNat) (agf i1.toInt.toNat).toInt c0.toInt.toNat) := by have h8 := vi126_0; rw [show iv126_6.toInt.toNat = c0.toInt.toNat by omega] at h8; exact h8
                      refine lv_iload_n hx hb dX10_order_182 rfl (lv_at hl 6 rfl) ?_
                      refine lv_iload hx hb dX10_order_183 (lv_at hl 1 rfl) ?_
                      refine lv_iadd hx hb dX10_order_185 ?_
                      have rg_102 := i32_r i2
                      have rg_103 := i32_r iv126_5
                      refine lv_topi (fun x_104 ex_104 => ?_)
                      have zx_104 : x_104.toInt = i2.toInt + iv126_5.toInt := by rw [ex_104]; exact i32_add rfl rfl (by omega) (by omega)
                      refine lv_aload_n hx hb dX10_order_186 rfl (lv_at hl 4 rfl) ?_
                      refine lv_aload_n hx hb dX10_order_187 rfl (lv_at hl 4 rfl) ?_
                      refine hk_getr hx hb hts hC_10 hown hW (gx.S hM) tt_10 38 (by decide) rfl kw_1181 ⟨rfl, rfl, rfl⟩ ((hM.o gx trivial rfl).2.trans f_x_38) dX10_order_188 ?_
                      refine lv_iload_n hx hb dX10_order_191 rfl (lv_at hl 5 rfl) ?_
                      refine hx_iald hx hb hW hT (gqag.S hM) tt_73 rfl ⟨by omega, by omega⟩ dX10_order_192 (fun x_105 ex_105 lx_105 ux_105 => ?_)
                      have ax_105 : x_105 = agf i1.toNatClampNeg := ex_105.trans (congrFun (hx_afS hM gqag rfl af_qag) _)
                      refine lv_iload_n hx hb dX10_order_193 rfl (lv_at hl 3 rfl) ?_
                      refine hx_goi (hx_runV (As := [.int x_105, .int x_20]) (rest := [.int x_104]) ⟨hx, hb, hml, hown, hts⟩ hW (gx.S hM) tt_10 (T := TX10) (N := 98) rfl (t_X10_means_v l dC dI dA hL1 hl1 H.size x x_105 x_20 hT (gx.S hM) qea (gqea.S hM) ((hM.o gx trivial rfl).2.trans f_x_22) qhd (gqhd.S hM) ((hM.o gx trivial rfl).2.trans f_x_23) qru (gqru.S hM) ((hM.o gx trivial rfl).2.trans f_x_3) eaf (hx_afS hM gqea rfl af_qea) hdf (hx_afS hM gqhd rfl af_qhd) rlf (hx_afS hM gqru rfl af_qru) ⟨by omega, by omega⟩ ⟨by omega, by omega⟩ ((A (plf i1.toInt.toNat).toInt.toNat).2.1 3) (by rw [ax_20, ← hl_282]; show _ = (if 3 < 13 then _ else 0); rw [if_pos (by decide)]; try rfl)) (cwV 2 hts (hx_gV kw_1645 kw_1642 kw_1644 kw_83 kw_103) rfl rfl rfl (by decide +kernel) ⟨Nat.le_of_ble_eq_true rfl, Nat.le_of_ble_eq_true rfl⟩) rfl hl.1 rfl (Nat.le_of_ble_eq_true rfl) dX10_order_194 ⟨Nat.le_of_ble_eq_true rfl, Nat.le_of_ble_eq_true rfl⟩) hW (fun r_108 L_106 h_107 H locs p_109 hW => ?_)
                      obtain ⟨hr_110, hT, hs⟩ := p_109
                      replace hT : hx_T T_tb L_106 h_107 := hT
                      replace hs : hx_S T_tb [] hL1 hl1 L_106 h_107 := hs
                      replace af_qod : h_107.2.1 qod = odf := (funext fun j => (hs.a (gqod.S hM) rfl j).1).trans af_qod
                      replace af_qow : h_107.2.1 qow = owf := (funext fun j => (hs.a (gqow.S hM) rfl j).1).trans af_qow
                      replace af_qwk : h_107.2.1 qwk = wkf := (funext fun j => (hs.a (gqwk.S hM) rfl j).1).trans af_qwk
                      replace ex_105 := ex_105.trans (hs.a (gqag.S hM) rfl _).1.symm
                      replace hM := hM.tr (hs.mono (by decide))
                      have hme9 : r_108.toInt = ((eaf (agf i1.toInt.toNat).toInt.toNat).toInt - (A (plf i1.toInt.toNat).toInt.toNat).2.1 3 * (hdf (agf i1.toInt.toNat).toInt.toNat).toInt) := by have h9 := hr_110.1; rw [ax_105] at h9; exact h9
                      refine hb_icmp_le (zx := x_104.toInt) (zy := r_108.toInt) (tgt := 203) hx hb rfl rfl dX10_order_197 (by decide) (fun c_111 => ?_) (fun c_111 => ?_)
                      · skip
                        refine lv_aload_n hx hb dX10_order_203 rfl (lv_at hl 4 rfl) ?_
                        refine hk_getr hx hb hts hC_10 hown hW (gx.S hM) tt_10 48 (by decide) rfl kw_1191 ⟨rfl, rfl, rfl⟩ ((hM.o gx trivial rfl).2.trans f_x_48) dX10_order_204 ?_
                        refine lv_iload_n hx hb dX10_order_207 rfl (lv_at hl 5 rfl) ?_
                        refine lv_aload_n hx hb dX10_order_208 rfl (lv_at hl 4 rfl) ?_
                        refine hk_geti hx hb hts hC_10 hown hW (gx.S hM) tt_10 0 (by decide) rfl kw_1143 ⟨rfl, rfl, rfl⟩ ((hM.o gx trivial rfl).1.trans f_x_0) dX10_order_209 ?_
                        have af_qodO := af_qod
                        refine hx_iast hx hb hW hT (hx_S.rf (M := [(83, 0)])) (gqod.S hM) tt_83 rfl ⟨by omega, by omega⟩ rfl ⟨by omega, by omega⟩ (List.mem_singleton.mpr rfl) dX10_order_212 (fun H locs h_112 eh_112 hW hT hs => ?_)
                        replace af_qow : h_112.2.1 qow = owf := (funext fun j => (hs.a (gqow.S hM) rfl j).1).trans af_qow
                        replace af_qwk : h_112.2.1 qwk = wkf := (funext fun j => (hs.a (gqwk.S hM) rfl j).1).trans af_qwk
                        replace ex_105 := ex_105.trans (hs.a (gqag.S hM) rfl _).1.symm
                        replace hM := hM.tr (hs.mono (by decide))
                        obtain ⟨fa_113, dfa_113⟩ : ∃ g : Nat → Int32, g = hx_up odf i1.toNatClampNeg nw0 := ⟨_, rfl⟩
                        have nfa_113 : h_112.2.1 qod = fa_113 := by rw [eh_112, dfa_113, ← af_qodO]; exact hx_pi_fun _ _ _ _
                        refine lv_aload_n hx hb dX10_order_213 rfl (lv_at hl 4 rfl) ?_
                        refine hk_getr hx hb hts hC_10 hown hW (gx.S hM) tt_10 54 (by decide) rfl kw_1197 ⟨rfl, rfl, rfl⟩ ((hM.o gx trivial rfl).2.trans f_x_54) dX10_order_214 ?_
                        refine lv_iload_n hx hb dX10_order_217 rfl (lv_at hl 5 rfl) ?_
                        refine lv_iload_n hx hb dX10_order_218 rfl (lv_at hl 6 rfl) ?_
                        have af_qwkO := af_qwk
                        refine hx_iast hx hb hW hT (hx_S.rf (M := [(89, 0)])) (gqwk.S hM) tt_89 rfl ⟨by omega, by omega⟩ rfl ⟨by omega, by omega⟩ (List.mem_singleton.mpr rfl) dX10_order_219 (fun H locs h_114 eh_114 hW hT hs => ?_)
                        replace af_qow : h_114.2.1 qow = owf := (funext fun j => (hs.a (gqow.S hM) rfl j).1).trans af_qow
                        replace nfa_113 : h_114.2.1 qod = fa_113 := (funext fun j => (hs.a (gqod.S hM) rfl j).1).trans nfa_113
                        replace ex_105 := ex_105.trans (hs.a (gqag.S hM) rfl _).1.symm
                        replace hM := hM.tr (hs.mono (by decide))
                        obtain ⟨fa_115, dfa_115⟩ : ∃ g : Nat → Int32, g = hx_up wkf i1.toNatClampNeg i2 := ⟨_, rfl⟩
                        have nfa_115 : h_114.2.1 qwk = fa_115 := by rw [eh_114, dfa_115, ← af_qwkO]; exact hx_pi_fun _ _ _ _
                        refine lv_aload_n hx hb dX10_order_220 rfl (lv_at hl 4 rfl) ?_
                        refine hk_getr hx hb hts hC_10 hown hW (gx.S hM) tt_10 55 (by decide) rfl kw_1198 ⟨rfl, rfl, rfl⟩ ((hM.o gx trivial rfl).2.trans f_x_55) dX10_order_221 ?_
                        refine lv_iload_n hx hb dX10_order_224 rfl (lv_at hl 5 rfl) ?_
                        refine lv_iload hx hb dX10_order_225 (lv_at hl 2 rfl) ?_
                        have af_qowO := af_qow
                        refine hx_iast hx hb hW hT (hx_S.rf (M := [(90, 0)])) (gqow.S hM) tt_90 rfl ⟨by omega, by omega⟩ rfl ⟨by omega, by omega⟩ (List.mem_singleton.mpr rfl) dX10_order_227 (fun H locs h_116 eh_116 hW hT hs => ?_)
                        replace nfa_113 : h_116.2.1 qod = fa_113 := (funext fun j => (hs.a (gqod.S hM) rfl j).1).trans nfa_113
                        replace nfa_115 : h_116.2.1 qwk = fa_115 := (funext fun j => (hs.a (gqwk.S hM) rfl j).1).trans nfa_115
                        replace ex_105 := ex_105.trans (hs.a (gqag.S hM) rfl _).1.symm
                        replace hM := hM.tr (hs.mono (by decide))
                        obtain ⟨fa_117, dfa_117⟩ : ∃ g : Nat → Int32, g = hx_up owf i1.toNatClampNeg x_51 := ⟨_, rfl⟩
                        have nfa_117 : h_116.2.1 qow = fa_117 := by rw [eh_116, dfa_117, ← af_qowO]; exact hx_pi_fun _ _ _ _
                        refine lv_iload hx hb dX10_order_228 (lv_at hl 2 rfl) ?_
                        exact hx_reti hx hb hr hlk hW ⟨⟨fa_113, fa_115, fa_117, nfa_113, nfa_115, nfa_117, (Or.inr ⟨⟨⟨by omega, by omega⟩, (by rw [show udf i1.toInt.toNat = x_7 from ax_7.symm]; omega), (by rw [show odf i1.toInt.toNat = x_9 from ax_9.symm]; omega), (by rw [← cdd9]; omega), by omega, by omega⟩, Or.inr (Or.inr ⟨(by rw [← hr2, ← hall9]; omega), (by rw [← hme9, ← hoi9]; omega), hall9, dfa_113, dfa_115, dfa_117⟩)⟩)⟩, hT, hM⟩ dX10_order_230
                      · skip
                        refine lv_bipush (v := -3) hx hb dX10_order_200 (by decide) ?_
                        exact hx_reti hx hb hr hlk hW ⟨⟨odf, wkf, owf, af_qod, af_qwk, af_qow, (Or.inr ⟨⟨⟨by omega, by omega⟩, (by rw [show udf i1.toInt.toNat = x_7 from ax_7.symm]; omega), (by rw [show odf i1.toInt.toNat = x_9 from ax_9.symm]; omega), (by rw [← cdd9]; omega), by omega, by omega⟩, Or.inr (Or.inl ⟨(by rw [← hr2, ← hall9]; omega), (by rw [← hme9, ← hoi9]; omega), by decide, rfl, rfl, rfl⟩)⟩)⟩, hT, hM⟩ dX10_order_202
                    · skip
                      refine lv_iload hx hb dX10_order_135 (lv_at hl 1 rfl) ?_
                      refine lv_aload_n hx hb dX10_order_137 rfl (lv_at hl 4 rfl) ?_
                      refine hk_getr hx hb hts hC_10 hown hW (gx.S hM) tt_10 38 (by decide) rfl kw_1181 ⟨rfl, rfl, rfl⟩ ((hM.o gx trivial rfl).2.trans f_x_38) dX10_order_138 ?_
                      refine lv_iload hx hb dX10_order_141 (lv_at hl 0 rfl) ?_
                      refine hx_iald hx hb hW hT (gqag.S hM) tt_73 rfl ⟨by omega, by omega⟩ dX10_order_143 (fun x_118 ex_118 lx_118 ux_118 => ?_)
                      have ax_118 : x_118 = agf iv126_6.toNatClampNeg := ex_118.trans (congrFun (hx_afS hM gqag rfl af_qag) _)
                      refine lv_aload_n hx hb dX10_order_144 rfl (lv_at hl 4 rfl) ?_
                      refine hk_getr hx hb hts hC_10 hown hW (gx.S hM) tt_10 38 (by decide) rfl kw_1181 ⟨rfl, rfl, rfl⟩ ((hM.o gx trivial rfl).2.trans f_x_38) dX10_order_145 ?_
                      refine lv_iload_n hx hb dX10_order_148 rfl (lv_at hl 5 rfl) ?_
                      refine hx_iald hx hb hW hT (gqag.S hM) tt_73 rfl ⟨by omega, by omega⟩ dX10_order_149 (fun x_119 ex_119 lx_119 ux_119 => ?_)
                      have ax_119 : x_119 = agf i1.toNatClampNeg := ex_119.trans (congrFun (hx_afS hM gqag rfl af_qag) _)
                      refine hb_icmp_ne (zx := x_118.toInt) (zy := x_119.toInt) (tgt := 172) hx hb rfl rfl dX10_order_150 (by decide) (fun c_120 => ?_) (fun c_120 => ?_)
                      · skip
                        refine lv_iconst (v := 0) hx hb dX10_order_172 (by decide) ?_
                        refine lv_iadd hx hb dX10_order_173 ?_
                        have rg_121 := i32_r iv126_5
                        refine lv_topi (fun x_122 ex_122 => ?_)
                        have zx_122 : x_122.toInt = iv126_5.toInt + 0 := by rw [ex_122]; exact i32_add rfl (by decide) (by omega) (by omega)
                        refine lv_istore (lv' := [(5, .int x_122), (6, .int iv126_6), (4, .int x_51), (3, .int x_20), (0, .ref x), (1, .int i1), (2, .int i2)]) hx hb dX10_order_174 hl (by decide) rfl (fun ls hl => ?_)
                        obtain ⟨x_123, ex_123⟩ : ∃ y : Int32, y = iv126_6 + Int32.ofInt 1 := ⟨_, rfl⟩
                        have rg_124 := i32_r iv126_6
                        have zx_123 : x_123.toInt = iv126_6.toInt + (1) := by rw [ex_123]; exact i32_add rfl (by decide) (by omega) (by omega)
                        refine lv_iinc (v := x_123) (lv' := [(6, .int x_123), (5, .int x_122), (4, .int x_51), (3, .int x_20), (0, .ref x), (1, .int i1), (2, .int i2)]) hx hb dX10_order_176 hl (k := 1) rfl ex_123.symm (by decide) rfl (fun ls hl => ?_)
                        refine lv_goto (tgt := 126) hx hb dX10_order_179 (by decide) ?_
                        exact ih126 x_122 x_123 _ _ hL1 hl1 (by omega) (by omega) (by omega) (by omega) (by have e9 : x_122.toInt = iv126_5.toInt := (by omega); rw [e9]; exact hz_oi_n vi126_0 (by omega) (fun z => by have z9 := z.1; rw [show agf iv126_6.toInt.toNat = x_118 from ax_118.symm, show agf i1.toInt.toNat = x_119 from ax_119.symm] at z9; omega) zx_123) (by omega) (by omega) ls (by omega) hW hT hM  af_qod af_qow af_qwk (lv_sub hl [0, 1, 2, 3, 4, 5, 6] rfl)
                      · skip
                        refine lv_aload_n hx hb dX10_order_153 rfl (lv_at hl 4 rfl) ?_
                        refine lv_iload hx hb dX10_order_154 (lv_at hl 0 rfl) ?_
                        refine hx_goi (hx_runV (As := [.int iv126_6]) (rest := [.int iv126_5]) ⟨hx, hb, hml, hown, hts⟩ hW (gx.S hM) tt_10 (T := TX10) (N := 98) rfl (t_X10_isOpen_v l dC dI dA hL1 hl1 H.size x iv126_6 hT (gx.S hM) qfo (gqfo.S hM) ((hM.o gx trivial rfl).2.trans f_x_46) qhe (gqhe.S hM) ((hM.o gx trivial rfl).2.trans f_x_47) qju (gqju.S hM) ((hM.o gx trivial rfl).2.trans f_x_51) qod (gqod.S hM) ((hM.o gx trivial rfl).2.trans f_x_48) qsv (gqsv.S hM) ((hM.o gx trivial rfl).2.trans f_x_50) qsz (gqsz.S hM) ((hM.o gx trivial rfl).2.trans f_x_49) qgd (gqgd.S hM) ((hM.o gx trivial rfl).2.trans f_x_56) qow (gqow.S hM) ((hM.o gx trivial rfl).2.trans f_x_55) qwk (gqwk.S hM) ((hM.o gx trivial rfl).2.trans f_x_54) qpl (gqpl.S hM) ((hM.o gx trivial rfl).2.trans f_x_44) qru (gqru.S hM) ((hM.o gx trivial rfl).2.trans f_x_3) qpo (gqpo.S hM) ((hM.o gx trivial rfl).2.trans f_x_60) qpd (gqpd.S hM) ((hM.o gx trivial rfl).2.trans f_x_61) qps (gqps.S hM) ((hM.o gx trivial rfl).2.trans f_x_62) qpk (gqpk.S hM) ((hM.o gx trivial rfl).2.trans f_x_63) qpt (gqpt.S hM) ((hM.o gx trivial rfl).2.trans f_x_64) fof (hx_afS hM gqfo rfl af_qfo) hrf (hx_afS hM gqhe rfl af_qhe) udf (hx_afS hM gqju rfl af_qju) odf af_qod svf (hx_afS hM gqsv rfl af_qsv) szf (hx_afS hM gqsz rfl af_qsz) gdf (hx_afS hM gqgd rfl af_qgd) owf af_qow wkf af_qwk plf (hx_afS hM gqpl rfl af_qpl) rlf (hx_afS hM gqru rfl af_qru) pof (hx_afS hM gqpo rfl af_qpo) pdf (hx_afS hM gqpd rfl af_qpd) psm (hx_afS hM gqps rfl af_qps) pkf (hx_afS hM gqpk rfl af_qpk) pst (hx_afS hM gqpt rfl af_qpt) c0 ((hM.o gx trivial rfl).1.trans f_x_36) a0 ((hM.o gx trivial rfl).1.trans f_x_1) nw0 ((hM.o gx trivial rfl).1.trans f_x_0) n0 ((hM.o gx trivial rfl).1.trans f_x_59) ⟨by omega, by omega⟩ adf psf prf A hCA hPL) (cwV 1 hts (hx_gV kw_1637 kw_1634 kw_1636 kw_81 kw_103) rfl rfl rfl (by decide +kernel) ⟨Nat.le_of_ble_eq_true rfl, Nat.le_of_ble_eq_true rfl⟩) rfl hl.1 rfl (Nat.le_of_ble_eq_true rfl) dX10_order_156 ⟨Nat.le_of_ble_eq_true rfl, Nat.le_of_ble_eq_true rfl⟩) hW (fun r_127 L_125 h_126 H locs p_128 hW => ?_)
                        obtain ⟨⟨w_130, fw_130, hr_129⟩, hT, hs⟩ := p_128
                        replace hT : hx_T T_tb L_125 h_126 := hT
                        replace hs : hx_S T_tb [(10, 67), (10, 68), (10, 69), (10, 70), (10, 71)] hL1 hl1 L_125 h_126 := hs
                        replace af_qod : h_126.2.1 qod = odf := (funext fun j => (hs.a (gqod.S hM) rfl j).1).trans af_qod
                        replace af_qow : h_126.2.1 qow = owf := (funext fun j => (hs.a (gqow.S hM) rfl j).1).trans af_qow
                        replace af_qwk : h_126.2.1 qwk = wkf := (funext fun j => (hs.a (gqwk.S hM) rfl j).1).trans af_qwk
                        replace ex_118 := ex_118.trans (hs.a (gqag.S hM) rfl _).1.symm
                        replace ex_119 := ex_119.trans (hs.a (gqag.S hM) rfl _).1.symm
                        replace hM := hM.tr (hs.mono (by decide))
                        have fw_130 : h_126.2.1 x 68 = w_130 := fw_130
                        have bw_130 := hT.gi (gx.S hM) tt_10 (k := 68) rfl
                        rw [fw_130] at bw_130
                        have bw_130 : 0 ≤ w_130.toInt ∧ w_130.toInt ≤ 610000 := bw_130
                        refine hb_if_eq (zx := r_127.toInt) (tgt := 172) hx hb rfl dX10_order_159 (by decide) (fun c_131 => ?_) (fun c_131 => ?_)
                        · skip
                          refine lv_iconst (v := 0) hx hb dX10_order_172 (by decide) ?_
                          refine lv_iadd hx hb dX10_order_173 ?_
                          have rg_132 := i32_r iv126_5
                          refine lv_topi (fun x_133 ex_133 => ?_)
                          have zx_133 : x_133.toInt = iv126_5.toInt + 0 := by rw [ex_133]; exact i32_add rfl (by decide) (by omega) (by omega)
                          refine lv_istore (lv' := [(5, .int x_133), (6, .int iv126_6), (4, .int x_51), (3, .int x_20), (0, .ref x), (1, .int i1), (2, .int i2)]) hx hb dX10_order_174 hl (by decide) rfl (fun ls hl => ?_)
                          obtain ⟨x_134, ex_134⟩ : ∃ y : Int32, y = iv126_6 + Int32.ofInt 1 := ⟨_, rfl⟩
                          have rg_135 := i32_r iv126_6
                          have zx_134 : x_134.toInt = iv126_6.toInt + (1) := by rw [ex_134]; exact i32_add rfl (by decide) (by omega) (by omega)
                          refine lv_iinc (v := x_134) (lv' := [(6, .int x_134), (5, .int x_133), (4, .int x_51), (3, .int x_20), (0, .ref x), (1, .int i1), (2, .int i2)]) hx hb dX10_order_176 hl (k := 1) rfl ex_134.symm (by decide) rfl (fun ls hl => ?_)
                          refine lv_goto (tgt := 126) hx hb dX10_order_179 (by decide) ?_
                          exact ih126 x_133 x_134 _ _ L_125 h_126 (by omega) (by omega) (by omega) (by omega) (by have e9 : x_133.toInt = iv126_5.toInt := (by omega); rw [e9]; exact hz_oi_n vi126_0 (by omega) (fun z => by have z9 := z.2; have h8 := hr_129.1; omega) zx_134) (by omega) (by omega) ls (by omega) hW hT hM  af_qod af_qow af_qwk (lv_sub hl [0, 1, 2, 3, 4, 5, 6] rfl)
                        · skip
                          refine lv_aload_n hx hb dX10_order_162 rfl (lv_at hl 4 rfl) ?_
                          refine hk_getr hx hb hts hC_10 hown hW (gx.S hM) tt_10 54 (by decide) rfl kw_1197 ⟨rfl, rfl, rfl⟩ ((hM.o gx trivial rfl).2.trans f_x_54) dX10_order_163 ?_
                          refine lv_iload hx hb dX10_order_166 (lv_at hl 0 rfl) ?_
                          refine hx_iald hx hb hW hT (gqwk.S hM) tt_89 rfl ⟨by omega, by omega⟩ dX10_order_168 (fun x_136 ex_136 lx_136 ux_136 => ?_)
                          have ax_136 : x_136 = wkf iv126_6.toNatClampNeg := ex_136.trans (congrFun af_qwk _)
                          refine lv_goto (tgt := 173) hx hb dX10_order_169 (by decide) ?_
                          refine lv_iadd hx hb dX10_order_173 ?_
                          have rg_137 := i32_r iv126_5
                          have rg_138 := i32_r x_136
                          refine lv_topi (fun x_139 ex_139 => ?_)
                          have zx_139 : x_139.toInt = iv126_5.toInt + x_136.toInt := by rw [ex_139]; exact i32_add rfl rfl (by omega) (by omega)
                          refine lv_istore (lv' := [(5, .int x_139), (6, .int iv126_6), (4, .int x_51), (3, .int x_20), (0, .ref x), (1, .int i1), (2, .int i2)]) hx hb dX10_order_174 hl (by decide) rfl (fun ls hl => ?_)
                          obtain ⟨x_140, ex_140⟩ : ∃ y : Int32, y = iv126_6 + Int32.ofInt 1 := ⟨_, rfl⟩
                          have rg_141 := i32_r iv126_6
                          have zx_140 : x_140.toInt = iv126_6.toInt + (1) := by rw [ex_140]; exact i32_add rfl (by decide) (by omega) (by omega)
                          refine lv_iinc (v := x_140) (lv' := [(6, .int x_140), (5, .int x_139), (4, .int x_51), (3, .int x_20), (0, .ref x), (1, .int i1), (2, .int i2)]) hx hb dX10_order_176 hl (k := 1) rfl ex_140.symm (by decide) rfl (fun ls hl => ?_)
                          refine lv_goto (tgt := 126) hx hb dX10_order_179 (by decide) ?_
                          exact ih126 x_139 x_140 _ _ L_125 h_126 (by omega) (by omega) (by omega) (by omega) (hz_oi_y (ix := iv126_6.toNatClampNeg) (v := x_136) vi126_0 (by omega) (by unfold Int32.toNatClampNeg; omega) (by rw [show agf iv126_6.toInt.toNat = x_118 from ax_118.symm, show agf i1.toInt.toNat = x_119 from ax_119.symm]; omega) (by have h8 := hr_129.1; omega) ax_136 (by omega) zx_140) (by omega) (by omega) ls (by omega) hW hT hM  af_qod af_qow af_qwk (lv_sub hl [0, 1, 2, 3, 4, 5, 6] rfl)
                have zk_0 : (0 : Int32).toInt = 0 := by decide
                have zk_0 : (0 : Int32).toInt = 0 := by decide
                exact loop126 101 (0 : Int32) (0 : Int32) _ _ L_52 h_53 (by decide) (by decide) (by decide) (by decide) (by rw [zk_0]; rfl) (by omega) (by omega) ls (by omega) hW hT hM  af_qod af_qow af_qwk hl
              · skip
                refine lv_bipush (v := -2) hx hb dX10_order_117 (by decide) ?_
                exact hx_reti hx hb hr hlk hW ⟨⟨odf, wkf, owf, af_qod, af_qwk, af_qow, (Or.inr ⟨⟨⟨by omega, by omega⟩, (by rw [show udf i1.toInt.toNat = x_7 from ax_7.symm]; omega), (by rw [show odf i1.toInt.toNat = x_9 from ax_9.symm]; omega), (by rw [← cdd9]; omega), by omega, by omega⟩, Or.inl ⟨(by rw [← hr2, ← hall9]; omega), by decide, rfl, rfl, rfl⟩⟩)⟩, hT, hM⟩ dX10_order_119
          · skip
            replace hr_18 := hr_18.resolve_right (fun z9 => absurd (c_19.symm.trans z9.1) (by decide))
            replace hr_18 := hr_18.2
            refine lv_iconst (v := -1) hx hb dX10_order_53 (by decide) ?_
            exact hx_reti hx hb hr hlk hW ⟨⟨odf, wkf, owf, af_qod, af_qwk, af_qow, (Or.inl ⟨(fun hc => by have h1 := hc.2.2.2.2; omega), by decide, rfl, rfl, rfl⟩)⟩, hT, hM⟩ dX10_order_54


set_option maxHeartbeats 4000000 in
set_option maxRecDepth 100000 in
theorem t_X10_pays_v (l : Launch) (dC : Nat → ClassId) (dI : Nat → Nat → Nat) (dA : Nat → ClassId) (L : List Nat) (h : hx_h) (sz : Nat) (x : Nat) (i1 : Int32) (i2 : Int32) (i3 : Int32) (hT : hx_T T_tb L h) (gx : hx_g L h x 10) (qpo : Nat) (gqpo : hx_g L h qpo 93) (f_x_60 : h.2.2 x 60 = some qpo) (qpd : Nat) (gqpd : hx_g L h qpd 94) (f_x_61 : h.2.2 x 61 = some qpd) (qps : Nat) (gqps : hx_g L h qps 95) (f_x_62 : h.2.2 x 62 = some qps) (qpk : Nat) (gqpk : hx_g L h qpk 96) (f_x_63 : h.2.2 x 63 = some qpk) (qpt : Nat) (gqpt : hx_g L h qpt 97) (f_x_64 : h.2.2 x 64 = some qpt) (pof : Nat → Int32) (af_qpo : h.2.1 qpo = pof) (pdf : Nat → Int32) (af_qpd : h.2.1 qpd = pdf) (psm : Nat → Int32) (af_qps : h.2.1 qps = psm) (pkf : Nat → Int32) (af_qpk : h.2.1 qpk = pkf) (pst : Nat → Int32) (af_qpt : h.2.1 qpt = pst) (nw0 : Int32) (f_x_0 : h.2.1 x 0 = nw0) (n0 : Int32) (f_x_59 : h.2.1 x 59 = n0) (hn0 : n0.toInt < 600) (hi3 : 0 ≤ i3.toInt ∧ i3.toInt ≤ 610000) : Met l yX10_pays (Cond.code yX10_pays cX10_pays 4 (some .int) :: hx_all) ({ frames := 0, cells := 0, slots := 0, locals := 0 }) (va_Pc [.ref x, .int i1, .int i2, .int i3] (hx_B T_tb (P_ty dA) (dC, dI) vwCl L h sz)) (va_Qi (fun (r : Int32) (u : List Nat × hx_h) => (∃ (n1 : Int32) (pof1 : Nat → Int32) (pdf1 : Nat → Int32) (psm1 : Nat → Int32) (pkf1 : Nat → Int32) (pst1 : Nat → Int32), u.2.2.1 x 59 = n1 ∧ u.2.2.1 qpo = pof1 ∧ u.2.2.1 qpd = pdf1 ∧ u.2.2.1 qps = psm1 ∧ u.2.2.1 qpk = pkf1 ∧ u.2.2.1 qpt = pst1 ∧ (r.toInt = n0.toInt ∧ n1.toInt = n0.toInt + 1 ∧ hz_AP n0.toInt.toNat i1 i2 i3 nw0 pof pof1 pdf pdf1 psm psm1 pkf pkf1 pst pst1)) ∧ hx_T T_tb u.1 u.2 ∧ hx_S T_tb [(10, 59), (93, 0), (94, 0), (95, 0), (96, 0), (97, 0)] L h u.1 u.2) (hx_E T_tb (P_ty dA) (dC, dI) vwCl (hx_A L sz)) (hx_A L sz)) 0 0 (hx_A L sz) := by
  refine hx_met (lv := [(0, .ref x), (1, .int i1), (2, .int i2), (3, .int i3)]) (by decide +kernel) rfl (Nat.le_of_ble_eq_true rfl) rfl ?_
  intro p e s m below meth c hx hb hml hr hlk hts0 hown hin hsz hW ls hl
  have hts : ∀ w ∈ hx_all, w.before _ s = true := fun w hw => hts0 w (List.mem_cons_of_mem _ hw)
  have hown : s.vm.findClass "SmallCourtModel" = some m.cls := hown
  have hM : hx_S T_tb [(10, 59), (93, 0), (94, 0), (95, 0), (96, 0), (97, 0)] L h L h := hx_S.rf
  have b_nw0 := hT.gi gx tt_10 (k := 0) rfl
  rw [f_x_0] at b_nw0
  have b_nw0 : 0 ≤ nw0.toInt ∧ nw0.toInt ≤ 7999 := b_nw0
  have b_n0 := hT.gi gx tt_10 (k := 59) rfl
  rw [f_x_59] at b_n0
  have b_n0 : 0 ≤ n0.toInt ∧ n0.toInt ≤ 600 := b_n0
  refine lv_aload_n hx hb dX10_pays_0 rfl (lv_at hl 0 rfl) ?_
  refine hk_getr hx hb hts hC_10 hown hW (gx.S hM) tt_10 60 (by decide) rfl kw_1203 ⟨rfl, rfl, rfl⟩ ((hM.o gx trivial rfl).2.trans f_x_60) dX10_pays_1 ?_
  refine lv_aload_n hx hb dX10_pays_4 rfl (lv_at hl 0 rfl) ?_
  refine hk_geti hx hb hts hC_10 hown hW (gx.S hM) tt_10 59 (by decide) rfl kw_1202 ⟨rfl, rfl, rfl⟩ f_x_59 dX10_pays_5 ?_
  refine lv_iload_n hx hb dX10_pays_8 rfl (lv_at hl 1 rfl) ?_
  have af_qpoO := af_qpo
  refine hx_iast hx hb hW hT (hx_S.rf (M := [(93, 0)])) (gqpo.S hM) tt_93 rfl ⟨by omega, by omega⟩ rfl (i32_r _) (List.mem_singleton.mpr rfl) dX10_pays_9 (fun H locs h_1 eh_1 hW hT hs => ?_)
  replace f_x_59 := (hs.o (gx.S hM) trivial rfl).1.trans f_x_59
  replace af_qpd : h_1.2.1 qpd = pdf := (funext fun j => (hs.a (gqpd.S hM) rfl j).1).trans af_qpd
  replace af_qps : h_1.2.1 qps = psm := (funext fun j => (hs.a (gqps.S hM) rfl j).1).trans af_qps
  replace af_qpk : h_1.2.1 qpk = pkf := (funext fun j => (hs.a (gqpk.S hM) rfl j).1).trans af_qpk
  replace af_qpt : h_1.2.1 qpt = pst := (funext fun j => (hs.a (gqpt.S hM) rfl j).1).trans af_qpt
  replace hM := hM.tr (hs.mono (by decide))
  obtain ⟨fa_2, dfa_2⟩ : ∃ g : Nat → Int32, g = hx_up pof n0.toNatClampNeg i1 := ⟨_, rfl⟩
  have nfa_2 : h_1.2.1 qpo = fa_2 := by rw [eh_1, dfa_2, ← af_qpoO]; exact hx_pi_fun _ _ _ _
  refine lv_aload_n hx hb dX10_pays_10 rfl (lv_at hl 0 rfl) ?_
  refine hk_getr hx hb hts hC_10 hown hW (gx.S hM) tt_10 61 (by decide) rfl kw_1204 ⟨rfl, rfl, rfl⟩ ((hM.o gx trivial rfl).2.trans f_x_61) dX10_pays_11 ?_
  refine lv_aload_n hx hb dX10_pays_14 rfl (lv_at hl 0 rfl) ?_
  refine hk_geti hx hb hts hC_10 hown hW (gx.S hM) tt_10 59 (by decide) rfl kw_1202 ⟨rfl, rfl, rfl⟩ f_x_59 dX10_pays_15 ?_
  refine lv_iload_n hx hb dX10_pays_18 rfl (lv_at hl 2 rfl) ?_
  have af_qpdO := af_qpd
  refine hx_iast hx hb hW hT (hx_S.rf (M := [(94, 0)])) (gqpd.S hM) tt_94 rfl ⟨by omega, by omega⟩ rfl (i32_r _) (List.mem_singleton.mpr rfl) dX10_pays_19 (fun H locs h_3 eh_3 hW hT hs => ?_)
  replace f_x_59 := (hs.o (gx.S hM) trivial rfl).1.trans f_x_59
  replace af_qps : h_3.2.1 qps = psm := (funext fun j => (hs.a (gqps.S hM) rfl j).1).trans af_qps
  replace af_qpk : h_3.2.1 qpk = pkf := (funext fun j => (hs.a (gqpk.S hM) rfl j).1).trans af_qpk
  replace af_qpt : h_3.2.1 qpt = pst := (funext fun j => (hs.a (gqpt.S hM) rfl j).1).trans af_qpt
  replace nfa_2 : h_3.2.1 qpo = fa_2 := (funext fun j => (hs.a (gqpo.S hM) rfl j).1).trans nfa_2
  replace hM := hM.tr (hs.mono (by decide))
  obtain ⟨fa_4, dfa_4⟩ : ∃ g : Nat → Int32, g = hx_up pdf n0.toNatClampNeg i2 := ⟨_, rfl⟩
  have nfa_4 : h_3.2.1 qpd = fa_4 := by rw [eh_3, dfa_4, ← af_qpdO]; exact hx_pi_fun _ _ _ _
  refine lv_aload_n hx hb dX10_pays_20 rfl (lv_at hl 0 rfl) ?_
  refine hk_getr hx hb hts hC_10 hown hW (gx.S hM) tt_10 62 (by decide) rfl kw_1205 ⟨rfl, rfl, rfl⟩ ((hM.o gx trivial rfl).2.trans f_x_62) dX10_pays_21 ?_
  refine lv_aload_n hx hb dX10_pays_24 rfl (lv_at hl 0 rfl) ?_
  refine hk_geti hx hb hts hC_10 hown hW (gx.S hM) tt_10 59 (by decide) rfl kw_1202 ⟨rfl, rfl, rfl⟩ f_x_59 dX10_pays_25 ?_
  refine lv_iload_n hx hb dX10_pays_28 rfl (lv_at hl 3 rfl) ?_
  have af_qpsO := af_qps
  refine hx_iast hx hb hW hT (hx_S.rf (M := [(95, 0)])) (gqps.S hM) tt_95 rfl ⟨by omega, by omega⟩ rfl ⟨by omega, by omega⟩ (List.mem_singleton.mpr rfl) dX10_pays_29 (fun H locs h_5 eh_5 hW hT hs => ?_)
  replace f_x_59 := (hs.o (gx.S hM) trivial rfl).1.trans f_x_59
  replace af_qpk : h_5.2.1 qpk = pkf := (funext fun j => (hs.a (gqpk.S hM) rfl j).1).trans af_qpk
  replace af_qpt : h_5.2.1 qpt = pst := (funext fun j => (hs.a (gqpt.S hM) rfl j).1).trans af_qpt
  replace nfa_2 : h_5.2.1 qpo = fa_2 := (funext fun j => (hs.a (gqpo.S hM) rfl j).1).trans nfa_2
  replace nfa_4 : h_5.2.1 qpd = fa_4 := (funext fun j => (hs.a (gqpd.S hM) rfl j).1).trans nfa_4
  replace hM := hM.tr (hs.mono (by decide))
  obtain ⟨fa_6, dfa_6⟩ : ∃ g : Nat → Int32, g = hx_up psm n0.toNatClampNeg i3 := ⟨_, rfl⟩
  have nfa_6 : h_5.2.1 qps = fa_6 := by rw [eh_5, dfa_6, ← af_qpsO]; exact hx_pi_fun _ _ _ _
  refine lv_aload_n hx hb dX10_pays_30 rfl (lv_at hl 0 rfl) ?_
  refine hk_getr hx hb hts hC_10 hown hW (gx.S hM) tt_10 63 (by decide) rfl kw_1206 ⟨rfl, rfl, rfl⟩ ((hM.o gx trivial rfl).2.trans f_x_63) dX10_pays_31 ?_
  refine lv_aload_n hx hb dX10_pays_34 rfl (lv_at hl 0 rfl) ?_
  refine hk_geti hx hb hts hC_10 hown hW (gx.S hM) tt_10 59 (by decide) rfl kw_1202 ⟨rfl, rfl, rfl⟩ f_x_59 dX10_pays_35 ?_
  refine lv_aload_n hx hb dX10_pays_38 rfl (lv_at hl 0 rfl) ?_
  refine hk_geti hx hb hts hC_10 hown hW (gx.S hM) tt_10 0 (by decide) rfl kw_1143 ⟨rfl, rfl, rfl⟩ ((hM.o gx trivial rfl).1.trans f_x_0) dX10_pays_39 ?_
  have af_qpkO := af_qpk
  refine hx_iast hx hb hW hT (hx_S.rf (M := [(96, 0)])) (gqpk.S hM) tt_96 rfl ⟨by omega, by omega⟩ rfl (i32_r _) (List.mem_singleton.mpr rfl) dX10_pays_42 (fun H locs h_7 eh_7 hW hT hs => ?_)
  replace f_x_59 := (hs.o (gx.S hM) trivial rfl).1.trans f_x_59
  replace af_qpt : h_7.2.1 qpt = pst := (funext fun j => (hs.a (gqpt.S hM) rfl j).1).trans af_qpt
  replace nfa_2 : h_7.2.1 qpo = fa_2 := (funext fun j => (hs.a (gqpo.S hM) rfl j).1).trans nfa_2
  replace nfa_4 : h_7.2.1 qpd = fa_4 := (funext fun j => (hs.a (gqpd.S hM) rfl j).1).trans nfa_4
  replace nfa_6 : h_7.2.1 qps = fa_6 := (funext fun j => (hs.a (gqps.S hM) rfl j).1).trans nfa_6
  replace hM := hM.tr (hs.mono (by decide))
  obtain ⟨fa_8, dfa_8⟩ : ∃ g : Nat → Int32, g = hx_up pkf n0.toNatClampNeg nw0 := ⟨_, rfl⟩
  have nfa_8 : h_7.2.1 qpk = fa_8 := by rw [eh_7, dfa_8, ← af_qpkO]; exact hx_pi_fun _ _ _ _
  refine lv_aload_n hx hb dX10_pays_43 rfl (lv_at hl 0 rfl) ?_
  refine hk_getr hx hb hts hC_10 hown hW (gx.S hM) tt_10 64 (by decide) rfl kw_1207 ⟨rfl, rfl, rfl⟩ ((hM.o gx trivial rfl).2.trans f_x_64) dX10_pays_44 ?_
  refine lv_aload_n hx hb dX10_pays_47 rfl (lv_at hl 0 rfl) ?_
  refine hk_geti hx hb hts hC_10 hown hW (gx.S hM) tt_10 59 (by decide) rfl kw_1202 ⟨rfl, rfl, rfl⟩ f_x_59 dX10_pays_48 ?_
  refine lv_iconst (v := -1) hx hb dX10_pays_51 (by decide) ?_
  have af_qptO := af_qpt
  refine hx_iast hx hb hW hT (hx_S.rf (M := [(97, 0)])) (gqpt.S hM) tt_97 rfl ⟨by omega, by omega⟩ rfl (by decide) (List.mem_singleton.mpr rfl) dX10_pays_52 (fun H locs h_9 eh_9 hW hT hs => ?_)
  replace f_x_59 := (hs.o (gx.S hM) trivial rfl).1.trans f_x_59
  replace nfa_2 : h_9.2.1 qpo = fa_2 := (funext fun j => (hs.a (gqpo.S hM) rfl j).1).trans nfa_2
  replace nfa_4 : h_9.2.1 qpd = fa_4 := (funext fun j => (hs.a (gqpd.S hM) rfl j).1).trans nfa_4
  replace nfa_6 : h_9.2.1 qps = fa_6 := (funext fun j => (hs.a (gqps.S hM) rfl j).1).trans nfa_6
  replace nfa_8 : h_9.2.1 qpk = fa_8 := (funext fun j => (hs.a (gqpk.S hM) rfl j).1).trans nfa_8
  replace hM := hM.tr (hs.mono (by decide))
  obtain ⟨fa_10, dfa_10⟩ : ∃ g : Nat → Int32, g = hx_up pst n0.toNatClampNeg (-1 : Int32) := ⟨_, rfl⟩
  have nfa_10 : h_9.2.1 qpt = fa_10 := by rw [eh_9, dfa_10, ← af_qptO]; exact hx_pi_fun _ _ _ _
  refine lv_aload_n hx hb dX10_pays_53 rfl (lv_at hl 0 rfl) ?_
  refine lv_dup hx hb dX10_pays_54 rfl ?_
  refine hk_geti hx hb hts hC_10 hown hW (gx.S hM) tt_10 59 (by decide) rfl kw_1202 ⟨rfl, rfl, rfl⟩ f_x_59 dX10_pays_55 ?_
  refine lv_iconst (v := 1) hx hb dX10_pays_58 (by decide) ?_
  refine lv_iadd hx hb dX10_pays_59 ?_
  have rg_11 := i32_r n0
  refine lv_topi (fun x_12 ex_12 => ?_)
  have zx_12 : x_12.toInt = n0.toInt + 1 := by rw [ex_12]; exact i32_add rfl (by decide) (by omega) (by omega)
  refine hx_puti hx hb hts hC_10 hown hW hT (hx_S.rf (M := [(10, 59)])) (gx.S hM) tt_10 59 (by decide) rfl kw_1202 ⟨rfl, rfl, rfl⟩ rfl (x := x_12) ⟨by omega, by omega⟩ rfl rfl rfl (List.mem_singleton.mpr rfl) dX10_pays_60 (fun H locs h_13 eh_13 hW hT hs => ?_)
  replace nfa_2 : h_13.2.1 qpo = fa_2 := (funext fun j => (hs.a (gqpo.S hM) rfl j).1).trans nfa_2
  replace nfa_4 : h_13.2.1 qpd = fa_4 := (funext fun j => (hs.a (gqpd.S hM) rfl j).1).trans nfa_4
  replace nfa_6 : h_13.2.1 qps = fa_6 := (funext fun j => (hs.a (gqps.S hM) rfl j).1).trans nfa_6
  replace nfa_8 : h_13.2.1 qpk = fa_8 := (funext fun j => (hs.a (gqpk.S hM) rfl j).1).trans nfa_8
  replace nfa_10 : h_13.2.1 qpt = fa_10 := (funext fun j => (hs.a (gqpt.S hM) rfl j).1).trans nfa_10
  replace hM := hM.tr (hs.mono (by decide))
  have f_14 : h_13.2.1 x 59 = x_12 := by rw [eh_13]; exact hx_pi_at _ _ _ _
  refine lv_aload_n hx hb dX10_pays_63 rfl (lv_at hl 0 rfl) ?_
  refine hk_geti hx hb hts hC_10 hown hW (gx.S hM) tt_10 59 (by decide) rfl kw_1202 ⟨rfl, rfl, rfl⟩ f_14 dX10_pays_64 ?_
  refine lv_iconst (v := 1) hx hb dX10_pays_67 (by decide) ?_
  refine lv_isub hx hb dX10_pays_68 ?_
  have rg_15 := i32_r x_12
  refine lv_topi (fun x_16 ex_16 => ?_)
  have zx_16 : x_16.toInt = x_12.toInt - 1 := by rw [ex_16]; exact i32_sub rfl (by decide) (by omega) (by omega)
  exact hx_reti hx hb hr hlk hW ⟨⟨x_12, fa_2, fa_4, fa_6, fa_8, fa_10, f_14, nfa_2, nfa_4, nfa_6, nfa_8, nfa_10, ⟨by omega, by omega, dfa_2, dfa_4, dfa_6, dfa_8, dfa_10⟩⟩, hT, hM⟩ dX10_pays_69


set_option maxHeartbeats 4000000 in
set_option maxRecDepth 100000 in
theorem t_X10_pay_v (l : Launch) (dC : Nat → ClassId) (dI : Nat → Nat → Nat) (dA : Nat → ClassId) (L : List Nat) (h : hx_h) (sz : Nat) (x : Nat) (i1 : Int32) (i2 : Int32) (i3 : Int32) (hT : hx_T T_tb L h) (gx : hx_g L h x 10) (qod : Nat) (gqod : hx_g L h qod 83) (f_x_48 : h.2.2 x 48 = some qod) (qsv : Nat) (gqsv : hx_g L h qsv 85) (f_x_50 : h.2.2 x 50 = some qsv) (qpo : Nat) (gqpo : hx_g L h qpo 93) (f_x_60 : h.2.2 x 60 = some qpo) (qpd : Nat) (gqpd : hx_g L h qpd 94) (f_x_61 : h.2.2 x 61 = some qpd) (qps : Nat) (gqps : hx_g L h qps 95) (f_x_62 : h.2.2 x 62 = some qps) (qpk : Nat) (gqpk : hx_g L h qpk 96) (f_x_63 : h.2.2 x 63 = some qpk) (qpt : Nat) (gqpt : hx_g L h qpt 97) (f_x_64 : h.2.2 x 64 = some qpt) (odf : Nat → Int32) (af_qod : h.2.1 qod = odf) (svf : Nat → Int32) (af_qsv : h.2.1 qsv = svf) (pof : Nat → Int32) (af_qpo : h.2.1 qpo = pof) (pdf : Nat → Int32) (af_qpd : h.2.1 qpd = pdf) (psm : Nat → Int32) (af_qps : h.2.1 qps = psm) (pkf : Nat → Int32) (af_qpk : h.2.1 qpk = pkf) (pst : Nat → Int32) (af_qpt : h.2.1 qpt = pst) (c0 : Int32) (f_x_36 : h.2.1 x 36 = c0) (nw0 : Int32) (f_x_0 : h.2.1 x 0 = nw0) (n0 : Int32) (f_x_59 : h.2.1 x 59 = n0) : Met l yX10_pay (Cond.code yX10_pay cX10_pay 4 (some .int) :: hx_all) ({ frames := 2, cells := 0, slots := 0, locals := 43 }) (va_Pc [.ref x, .int i1, .int i2, .int i3] (hx_B T_tb (P_ty dA) (dC, dI) vwCl L h sz)) (va_Qi (fun (r : Int32) (u : List Nat × hx_h) => (∃ (n1 : Int32) (pof1 : Nat → Int32) (pdf1 : Nat → Int32) (psm1 : Nat → Int32) (pkf1 : Nat → Int32) (pst1 : Nat → Int32), u.2.2.1 x 59 = n1 ∧ u.2.2.1 qpo = pof1 ∧ u.2.2.1 qpd = pdf1 ∧ u.2.2.1 qps = psm1 ∧ u.2.2.1 qpk = pkf1 ∧ u.2.2.1 qpt = pst1 ∧ (hz_PS (hz_PC n0.toInt c0.toInt i1.toInt i2.toInt i3.toInt nw0.toInt (odf i1.toInt.toNat).toInt (svf i1.toInt.toNat).toInt) i1 i2 i3 nw0 n0 n1 r pof pof1 pdf pdf1 psm psm1 pkf pkf1 pst pst1)) ∧ hx_T T_tb u.1 u.2 ∧ hx_S T_tb [(10, 59), (93, 0), (94, 0), (95, 0), (96, 0), (97, 0)] L h u.1 u.2) (hx_E T_tb (P_ty dA) (dC, dI) vwCl (hx_A L sz)) (hx_A L sz)) 0 0 (hx_A L sz) := by
  refine hx_met (lv := [(0, .ref x), (1, .int i1), (2, .int i2), (3, .int i3)]) (by decide +kernel) rfl (Nat.le_of_ble_eq_true rfl) rfl ?_
  intro p e s m below meth c hx hb hml hr hlk hts0 hown hin hsz hW ls hl
  have hts : ∀ w ∈ hx_all, w.before _ s = true := fun w hw => hts0 w (List.mem_cons_of_mem _ hw)
  have hown : s.vm.findClass "SmallCourtModel" = some m.cls := hown
  have hM : hx_S T_tb [(10, 59), (93, 0), (94, 0), (95, 0), (96, 0), (97, 0)] L h L h := hx_S.rf
  have b_c0 := hT.gi gx tt_10 (k := 36) rfl
  rw [f_x_36] at b_c0
  have b_c0 : 0 ≤ c0.toInt ∧ c0.toInt ≤ 100 := b_c0
  have b_nw0 := hT.gi gx tt_10 (k := 0) rfl
  rw [f_x_0] at b_nw0
  have b_nw0 : 0 ≤ nw0.toInt ∧ nw0.toInt ≤ 7999 := b_nw0
  have b_n0 := hT.gi gx tt_10 (k := 59) rfl
  rw [f_x_59] at b_n0
  have b_n0 : 0 ≤ n0.toInt ∧ n0.toInt ≤ 600 := b_n0
  refine lv_aload_n hx hb dX10_pay_0 rfl (lv_at hl 0 rfl) ?_
  refine hk_geti hx hb hts hC_10 hown hW (gx.S hM) tt_10 59 (by decide) rfl kw_1202 ⟨rfl, rfl, rfl⟩ f_x_59 dX10_pay_1 ?_
  refine lv_sipush (v := 600) hx hb dX10_pay_4 (by decide) ?_
  refine hb_icmp_eq (zx := n0.toInt) (zy := 600) (tgt := 66) hx hb rfl (by decide) dX10_pay_7 (by decide) (fun c_1 => ?_) (fun c_1 => ?_)
  · skip
    refine lv_iconst (v := -1) hx hb dX10_pay_66 (by decide) ?_
    exact hx_reti hx hb hr hlk hW ⟨⟨n0, pof, pdf, psm, pkf, pst, f_x_59, af_qpo, af_qpd, af_qps, af_qpk, af_qpt, (Or.inl ⟨(fun hc => by have h1 := hc.1; omega), by decide, rfl, rfl, rfl, rfl, rfl, rfl⟩)⟩, hT, hM⟩ dX10_pay_67
  · skip
    refine lv_aload_n hx hb dX10_pay_10 rfl (lv_at hl 0 rfl) ?_
    refine lv_iload_n hx hb dX10_pay_11 rfl (lv_at hl 1 rfl) ?_
    refine hx_goi (hx_runV (As := [.int i1]) (rest := []) ⟨hx, hb, hml, hown, hts⟩ hW (gx.S hM) tt_10 (T := TX10) (N := 98) rfl (t_X10_isClaim l dC dI dA L h s.heap.size x i1 hT (gx.S hM) c0 ((hM.o gx trivial rfl).1.trans f_x_36)) (cwV 1 hts (hx_gV kw_1597 kw_1594 kw_1596 kw_73 kw_103) rfl rfl rfl (by decide +kernel) ⟨Nat.le_of_ble_eq_true rfl, Nat.le_of_ble_eq_true rfl⟩) rfl hl.1 rfl (Nat.le_of_ble_eq_true rfl) dX10_pay_12 ⟨Nat.le_of_ble_eq_true rfl, Nat.le_of_ble_eq_true rfl⟩) hW (fun r_4 L_2 h_3 H locs p_5 hW => ?_)
    obtain ⟨hr_6, hT, hs⟩ := p_5
    replace hT : hx_T T_tb L_2 h_3 := hT
    replace hs : hx_S T_tb [] L h L_2 h_3 := hs
    replace f_x_59 := (hs.o (gx.S hM) trivial rfl).1.trans f_x_59
    replace af_qpo : h_3.2.1 qpo = pof := (funext fun j => (hs.a (gqpo.S hM) rfl j).1).trans af_qpo
    replace af_qpd : h_3.2.1 qpd = pdf := (funext fun j => (hs.a (gqpd.S hM) rfl j).1).trans af_qpd
    replace af_qps : h_3.2.1 qps = psm := (funext fun j => (hs.a (gqps.S hM) rfl j).1).trans af_qps
    replace af_qpk : h_3.2.1 qpk = pkf := (funext fun j => (hs.a (gqpk.S hM) rfl j).1).trans af_qpk
    replace af_qpt : h_3.2.1 qpt = pst := (funext fun j => (hs.a (gqpt.S hM) rfl j).1).trans af_qpt
    replace hM := hM.tr (hs.mono (by decide))
    refine hb_if_eq (zx := r_4.toInt) (tgt := 66) hx hb rfl dX10_pay_15 (by decide) (fun c_7 => ?_) (fun c_7 => ?_)
    · skip
      replace hr_6 := hr_6.resolve_right (fun z9 => absurd (c_7.symm.trans z9.1) (by decide))
      replace hr_6 := hr_6.2
      refine lv_iconst (v := -1) hx hb dX10_pay_66 (by decide) ?_
      exact hx_reti hx hb hr hlk hW ⟨⟨n0, pof, pdf, psm, pkf, pst, f_x_59, af_qpo, af_qpd, af_qps, af_qpk, af_qpt, (Or.inl ⟨(fun hc => by have h1 := hc.2.1; omega), by decide, rfl, rfl, rfl, rfl, rfl, rfl⟩)⟩, hT, hM⟩ dX10_pay_67
    · skip
      replace hr_6 := hr_6.resolve_left (fun z9 => c_7 z9.1)
      replace c_7 := hr_6.1
      replace hr_6 := hr_6.2
      refine lv_aload_n hx hb dX10_pay_18 rfl (lv_at hl 0 rfl) ?_
      refine hk_getr hx hb hts hC_10 hown hW (gx.S hM) tt_10 48 (by decide) rfl kw_1191 ⟨rfl, rfl, rfl⟩ ((hM.o gx trivial rfl).2.trans f_x_48) dX10_pay_19 ?_
      refine lv_iload_n hx hb dX10_pay_22 rfl (lv_at hl 1 rfl) ?_
      refine hx_iald hx hb hW hT (gqod.S hM) tt_83 rfl ⟨by omega, by omega⟩ dX10_pay_23 (fun x_8 ex_8 lx_8 ux_8 => ?_)
      have ax_8 : x_8 = odf i1.toNatClampNeg := ex_8.trans (congrFun (hx_afS hM gqod rfl af_qod) _)
      refine lv_iconst (v := -1) hx hb dX10_pay_24 (by decide) ?_
      refine hb_icmp_eq (zx := x_8.toInt) (zy := (-1)) (tgt := 66) hx hb rfl (by decide) dX10_pay_25 (by decide) (fun c_9 => ?_) (fun c_9 => ?_)
      · skip
        refine lv_iconst (v := -1) hx hb dX10_pay_66 (by decide) ?_
        exact hx_reti hx hb hr hlk hW ⟨⟨n0, pof, pdf, psm, pkf, pst, f_x_59, af_qpo, af_qpd, af_qps, af_qpk, af_qpt, (Or.inl ⟨(fun hc => by have h1 := hc.2.2.1; rw [show odf i1.toInt.toNat = x_8 from ax_8.symm] at h1; omega), by decide, rfl, rfl, rfl, rfl, rfl, rfl⟩)⟩, hT, hM⟩ dX10_pay_67
      · skip
        refine lv_aload_n hx hb dX10_pay_28 rfl (lv_at hl 0 rfl) ?_
        refine hk_getr hx hb hts hC_10 hown hW (gx.S hM) tt_10 50 (by decide) rfl kw_1193 ⟨rfl, rfl, rfl⟩ ((hM.o gx trivial rfl).2.trans f_x_50) dX10_pay_29 ?_
        refine lv_iload_n hx hb dX10_pay_32 rfl (lv_at hl 1 rfl) ?_
        refine hx_iald hx hb hW hT (gqsv.S hM) tt_85 rfl ⟨by omega, by omega⟩ dX10_pay_33 (fun x_10 ex_10 lx_10 ux_10 => ?_)
        have ax_10 : x_10 = svf i1.toNatClampNeg := ex_10.trans (congrFun (hx_afS hM gqsv rfl af_qsv) _)
        refine lv_iconst (v := -1) hx hb dX10_pay_34 (by decide) ?_
        refine hb_icmp_ne (zx := x_10.toInt) (zy := (-1)) (tgt := 66) hx hb rfl (by decide) dX10_pay_35 (by decide) (fun c_11 => ?_) (fun c_11 => ?_)
        · skip
          refine lv_iconst (v := -1) hx hb dX10_pay_66 (by decide) ?_
          exact hx_reti hx hb hr hlk hW ⟨⟨n0, pof, pdf, psm, pkf, pst, f_x_59, af_qpo, af_qpd, af_qps, af_qpk, af_qpt, (Or.inl ⟨(fun hc => by have h1 := hc.2.2.2.1; rw [show svf i1.toInt.toNat = x_10 from ax_10.symm] at h1; omega), by decide, rfl, rfl, rfl, rfl, rfl, rfl⟩)⟩, hT, hM⟩ dX10_pay_67
        · skip
          refine lv_iload_n hx hb dX10_pay_38 rfl (lv_at hl 2 rfl) ?_
          refine lv_aload_n hx hb dX10_pay_39 rfl (lv_at hl 0 rfl) ?_
          refine hk_getr hx hb hts hC_10 hown hW (gx.S hM) tt_10 48 (by decide) rfl kw_1191 ⟨rfl, rfl, rfl⟩ ((hM.o gx trivial rfl).2.trans f_x_48) dX10_pay_40 ?_
          refine lv_iload_n hx hb dX10_pay_43 rfl (lv_at hl 1 rfl) ?_
          refine hx_iald hx hb hW hT (gqod.S hM) tt_83 rfl ⟨by omega, by omega⟩ dX10_pay_44 (fun x_12 ex_12 lx_12 ux_12 => ?_)
          have ax_12 : x_12 = odf i1.toNatClampNeg := ex_12.trans (congrFun (hx_afS hM gqod rfl af_qod) _)
          obtain rfl : x_8 = x_12 := ex_8.trans ex_12.symm
          refine lv_aload_n hx hb dX10_pay_45 rfl (lv_at hl 0 rfl) ?_
          refine hk_geti hx hb hts hC_10 hown hW (gx.S hM) tt_10 0 (by decide) rfl kw_1143 ⟨rfl, rfl, rfl⟩ ((hM.o gx trivial rfl).1.trans f_x_0) dX10_pay_46 ?_
          refine hx_goi (hx_runS (As := [.int i2, .int x_8, .int nw0]) (rest := []) ⟨hx, hb, hml, hown, hts⟩ hW (t_X10_in l dC dI dA L_2 h_3 H.size i2 x_8 nw0 hT) (va_cwS 3 hts (hx_gS kw_1445 kw_1443 kw_1444 kw_103) rfl rfl rfl (by decide +kernel) ⟨Nat.le_of_ble_eq_true rfl, Nat.le_of_ble_eq_true rfl⟩) rfl hl.1 rfl (Nat.le_of_ble_eq_true rfl) dX10_pay_49 ⟨Nat.le_of_ble_eq_true rfl, Nat.le_of_ble_eq_true rfl⟩) hW (fun r_15 L_13 h_14 H locs p_16 hW => ?_)
          obtain ⟨hr_17, hT, hs⟩ := p_16
          replace hT : hx_T T_tb L_13 h_14 := hT
          replace hs : hx_S T_tb [] L_2 h_3 L_13 h_14 := hs
          replace f_x_59 := (hs.o (gx.S hM) trivial rfl).1.trans f_x_59
          replace af_qpo : h_14.2.1 qpo = pof := (funext fun j => (hs.a (gqpo.S hM) rfl j).1).trans af_qpo
          replace af_qpd : h_14.2.1 qpd = pdf := (funext fun j => (hs.a (gqpd.S hM) rfl j).1).trans af_qpd
          replace af_qps : h_14.2.1 qps = psm := (funext fun j => (hs.a (gqps.S hM) rfl j).1).trans af_qps
          replace af_qpk : h_14.2.1 qpk = pkf := (funext fun j => (hs.a (gqpk.S hM) rfl j).1).trans af_qpk
          replace af_qpt : h_14.2.1 qpt = pst := (funext fun j => (hs.a (gqpt.S hM) rfl j).1).trans af_qpt
          replace ex_8 := ex_8.trans (hs.a (gqod.S hM) rfl _).1.symm
          replace ex_10 := ex_10.trans (hs.a (gqsv.S hM) rfl _).1.symm
          replace hM := hM.tr (hs.mono (by decide))
          refine hb_if_eq (zx := r_15.toInt) (tgt := 66) hx hb rfl dX10_pay_52 (by decide) (fun c_18 => ?_) (fun c_18 => ?_)
          · skip
            replace hr_17 := hr_17.resolve_right (fun z9 => absurd (c_18.symm.trans z9.1) (by decide))
            replace hr_17 := hr_17.2
            refine lv_iconst (v := -1) hx hb dX10_pay_66 (by decide) ?_
            exact hx_reti hx hb hr hlk hW ⟨⟨n0, pof, pdf, psm, pkf, pst, f_x_59, af_qpo, af_qpd, af_qps, af_qpk, af_qpt, (Or.inl ⟨(fun hc => by have h1 := hc.2.2.2.2.1; rw [show odf i1.toInt.toNat = x_8 from ax_8.symm] at h1; omega), by decide, rfl, rfl, rfl, rfl, rfl, rfl⟩)⟩, hT, hM⟩ dX10_pay_67
          · skip
            replace hr_17 := hr_17.resolve_left (fun z9 => c_18 z9.1)
            replace c_18 := hr_17.1
            replace hr_17 := hr_17.2
            refine lv_iload_n hx hb dX10_pay_55 rfl (lv_at hl 3 rfl) ?_
            refine lv_iconst (v := 1) hx hb dX10_pay_56 (by decide) ?_
            refine lv_sipush (v := 9999) hx hb dX10_pay_57 (by decide) ?_
            have zc_9999 : (9999 : Int32).toInt = 9999 := by decide
            have zc_1 : (1 : Int32).toInt = 1 := by decide
            refine hx_goi (hx_runS (As := [.int i3, .int (1 : Int32), .int (9999 : Int32)]) (rest := []) ⟨hx, hb, hml, hown, hts⟩ hW (t_X10_in l dC dI dA L_13 h_14 H.size i3 (1 : Int32) (9999 : Int32) hT) (va_cwS 3 hts (hx_gS kw_1445 kw_1443 kw_1444 kw_103) rfl rfl rfl (by decide +kernel) ⟨Nat.le_of_ble_eq_true rfl, Nat.le_of_ble_eq_true rfl⟩) rfl hl.1 rfl (Nat.le_of_ble_eq_true rfl) dX10_pay_60 ⟨Nat.le_of_ble_eq_true rfl, Nat.le_of_ble_eq_true rfl⟩) hW (fun r_21 L_19 h_20 H locs p_22 hW => ?_)
            obtain ⟨hr_23, hT, hs⟩ := p_22
            replace hT : hx_T T_tb L_19 h_20 := hT
            replace hs : hx_S T_tb [] L_13 h_14 L_19 h_20 := hs
            replace f_x_59 := (hs.o (gx.S hM) trivial rfl).1.trans f_x_59
            replace af_qpo : h_20.2.1 qpo = pof := (funext fun j => (hs.a (gqpo.S hM) rfl j).1).trans af_qpo
            replace af_qpd : h_20.2.1 qpd = pdf := (funext fun j => (hs.a (gqpd.S hM) rfl j).1).trans af_qpd
            replace af_qps : h_20.2.1 qps = psm := (funext fun j => (hs.a (gqps.S hM) rfl j).1).trans af_qps
            replace af_qpk : h_20.2.1 qpk = pkf := (funext fun j => (hs.a (gqpk.S hM) rfl j).1).trans af_qpk
            replace af_qpt : h_20.2.1 qpt = pst := (funext fun j => (hs.a (gqpt.S hM) rfl j).1).trans af_qpt
            replace ex_8 := ex_8.trans (hs.a (gqod.S hM) rfl _).1.symm
            replace ex_10 := ex_10.trans (hs.a (gqsv.S hM) rfl _).1.symm
            replace hM := hM.tr (hs.mono (by decide))
            refine hb_if_ne (zx := r_21.toInt) (tgt := 68) hx hb rfl dX10_pay_63 (by decide) (fun c_24 => ?_) (fun c_24 => ?_)
            · skip
              replace hr_23 := hr_23.resolve_left (fun z9 => c_24 z9.1)
              replace c_24 := hr_23.1
              replace hr_23 := hr_23.2
              refine lv_aload_n hx hb dX10_pay_68 rfl (lv_at hl 0 rfl) ?_
              refine lv_iload_n hx hb dX10_pay_69 rfl (lv_at hl 1 rfl) ?_
              refine lv_iload_n hx hb dX10_pay_70 rfl (lv_at hl 2 rfl) ?_
              refine lv_iload_n hx hb dX10_pay_71 rfl (lv_at hl 3 rfl) ?_
              refine hx_goi (hx_runV (As := [.int i1, .int i2, .int i3]) (rest := []) ⟨hx, hb, hml, hown, hts⟩ hW (gx.S hM) tt_10 (T := TX10) (N := 98) rfl (t_X10_pays_v l dC dI dA L_19 h_20 H.size x i1 i2 i3 hT (gx.S hM) qpo (gqpo.S hM) ((hM.o gx trivial rfl).2.trans f_x_60) qpd (gqpd.S hM) ((hM.o gx trivial rfl).2.trans f_x_61) qps (gqps.S hM) ((hM.o gx trivial rfl).2.trans f_x_62) qpk (gqpk.S hM) ((hM.o gx trivial rfl).2.trans f_x_63) qpt (gqpt.S hM) ((hM.o gx trivial rfl).2.trans f_x_64) pof af_qpo pdf af_qpd psm af_qps pkf af_qpk pst af_qpt nw0 ((hM.o gx trivial rfl).1.trans f_x_0) n0 f_x_59 (by omega) ⟨by omega, by omega⟩) (cwV 3 hts (hx_gV kw_1653 kw_1650 kw_1652 kw_84 kw_103) rfl rfl rfl (by decide +kernel) ⟨Nat.le_of_ble_eq_true rfl, Nat.le_of_ble_eq_true rfl⟩) rfl hl.1 rfl (Nat.le_of_ble_eq_true rfl) dX10_pay_72 ⟨Nat.le_of_ble_eq_true rfl, Nat.le_of_ble_eq_true rfl⟩) hW (fun r_27 L_25 h_26 H locs p_28 hW => ?_)
              obtain ⟨⟨w_30, w_31, w_32, w_33, w_34, w_35, fw_30, fw_31, fw_32, fw_33, fw_34, fw_35, hr_29⟩, hT, hs⟩ := p_28
              replace hT : hx_T T_tb L_25 h_26 := hT
              replace hs : hx_S T_tb [(10, 59), (93, 0), (94, 0), (95, 0), (96, 0), (97, 0)] L_19 h_20 L_25 h_26 := hs
              replace ex_8 := ex_8.trans (hs.a (gqod.S hM) rfl _).1.symm
              replace ex_10 := ex_10.trans (hs.a (gqsv.S hM) rfl _).1.symm
              replace hM := hM.tr (hs.mono (by decide))
              have fw_30 : h_26.2.1 x 59 = w_30 := fw_30
              have bw_30 := hT.gi (gx.S hM) tt_10 (k := 59) rfl
              rw [fw_30] at bw_30
              have bw_30 : 0 ≤ w_30.toInt ∧ w_30.toInt ≤ 600 := bw_30
              have fw_31 : h_26.2.1 qpo = w_31 := fw_31
              have fw_32 : h_26.2.1 qpd = w_32 := fw_32
              have fw_33 : h_26.2.1 qps = w_33 := fw_33
              have fw_34 : h_26.2.1 qpk = w_34 := fw_34
              have fw_35 : h_26.2.1 qpt = w_35 := fw_35
              exact hx_reti hx hb hr hlk hW ⟨⟨w_30, w_31, w_32, w_33, w_34, w_35, fw_30, fw_31, fw_32, fw_33, fw_34, fw_35, (Or.inr ⟨⟨by omega, ⟨by omega, by omega⟩, (by rw [show odf i1.toInt.toNat = x_8 from ax_8.symm]; omega), (by rw [show svf i1.toInt.toNat = x_10 from ax_10.symm]; omega), (by rw [show odf i1.toInt.toNat = x_8 from ax_8.symm]; omega), by omega⟩, hr_29.1, hr_29.2.1, hr_29.2.2⟩)⟩, hT, hM⟩ dX10_pay_75
            · skip
              replace hr_23 := hr_23.resolve_right (fun z9 => absurd (c_24.symm.trans z9.1) (by decide))
              replace hr_23 := hr_23.2
              refine lv_iconst (v := -1) hx hb dX10_pay_66 (by decide) ?_
              exact hx_reti hx hb hr hlk hW ⟨⟨n0, pof, pdf, psm, pkf, pst, f_x_59, af_qpo, af_qpd, af_qps, af_qpk, af_qpt, (Or.inl ⟨(fun hc => by have h1 := hc.2.2.2.2.2; omega), by decide, rfl, rfl, rfl, rfl, rfl, rfl⟩)⟩, hT, hM⟩ dX10_pay_67


set_option maxHeartbeats 4000000 in
set_option maxRecDepth 100000 in
theorem t_X10_strike_v (l : Launch) (dC : Nat → ClassId) (dI : Nat → Nat → Nat) (dA : Nat → ClassId) (L : List Nat) (h : hx_h) (sz : Nat) (x : Nat) (i1 : Int32) (hT : hx_T T_tb L h) (gx : hx_g L h x 10) (qpt : Nat) (gqpt : hx_g L h qpt 97) (f_x_64 : h.2.2 x 64 = some qpt) (pst : Nat → Int32) (af_qpt : h.2.1 qpt = pst) (nw0 : Int32) (f_x_0 : h.2.1 x 0 = nw0) (n0 : Int32) (f_x_59 : h.2.1 x 59 = n0) : Met l yX10_strike (Cond.code yX10_strike cX10_strike 2 (some .boolean) :: hx_all) ({ frames := 1, cells := 0, slots := 0, locals := 22 }) (va_Pc [.ref x, .int i1] (hx_B T_tb (P_ty dA) (dC, dI) vwCl L h sz)) (va_Qi (fun (r : Int32) (u : List Nat × hx_h) => (∃ (pst1 : Nat → Int32), u.2.2.1 qpt = pst1 ∧ (hz_KS n0.toInt i1.toInt nw0 r pst pst1)) ∧ hx_T T_tb u.1 u.2 ∧ hx_S T_tb [(97, 0)] L h u.1 u.2) (hx_E T_tb (P_ty dA) (dC, dI) vwCl (hx_A L sz)) (hx_A L sz)) 0 0 (hx_A L sz) := by
  refine hx_met (lv := [(0, .ref x), (1, .int i1)]) (by decide +kernel) rfl (Nat.le_of_ble_eq_true rfl) rfl ?_
  intro p e s m below meth c hx hb hml hr hlk hts0 hown hin hsz hW ls hl
  have hts : ∀ w ∈ hx_all, w.before _ s = true := fun w hw => hts0 w (List.mem_cons_of_mem _ hw)
  have hown : s.vm.findClass "SmallCourtModel" = some m.cls := hown
  have hM : hx_S T_tb [(97, 0)] L h L h := hx_S.rf
  have b_nw0 := hT.gi gx tt_10 (k := 0) rfl
  rw [f_x_0] at b_nw0
  have b_nw0 : 0 ≤ nw0.toInt ∧ nw0.toInt ≤ 7999 := b_nw0
  have b_n0 := hT.gi gx tt_10 (k := 59) rfl
  rw [f_x_59] at b_n0
  have b_n0 : 0 ≤ n0.toInt ∧ n0.toInt ≤ 600 := b_n0
  refine lv_iload_n hx hb dX10_strike_0 rfl (lv_at hl 1 rfl) ?_
  refine lv_iconst (v := 0) hx hb dX10_strike_1 (by decide) ?_
  refine lv_aload_n hx hb dX10_strike_2 rfl (lv_at hl 0 rfl) ?_
  refine hk_geti hx hb hts hC_10 hown hW (gx.S hM) tt_10 59 (by decide) rfl kw_1202 ⟨rfl, rfl, rfl⟩ ((hM.o gx trivial rfl).1.trans f_x_59) dX10_strike_3 ?_
  refine lv_iconst (v := 1) hx hb dX10_strike_6 (by decide) ?_
  refine lv_isub hx hb dX10_strike_7 ?_
  have rg_1 := i32_r n0
  refine lv_topi (fun x_2 ex_2 => ?_)
  have zx_2 : x_2.toInt = n0.toInt - 1 := by rw [ex_2]; exact i32_sub rfl (by decide) (by omega) (by omega)
  have zc_0 : (0 : Int32).toInt = 0 := by decide
  refine hx_goi (hx_runS (As := [.int i1, .int (0 : Int32), .int x_2]) (rest := []) ⟨hx, hb, hml, hown, hts⟩ hW (t_X10_in l dC dI dA L h s.heap.size i1 (0 : Int32) x_2 hT) (va_cwS 3 hts (hx_gS kw_1445 kw_1443 kw_1444 kw_103) rfl rfl rfl (by decide +kernel) ⟨Nat.le_of_ble_eq_true rfl, Nat.le_of_ble_eq_true rfl⟩) rfl hl.1 rfl (Nat.le_of_ble_eq_true rfl) dX10_strike_8 ⟨Nat.le_of_ble_eq_true rfl, Nat.le_of_ble_eq_true rfl⟩) hW (fun r_5 L_3 h_4 H locs p_6 hW => ?_)
  obtain ⟨hr_7, hT, hs⟩ := p_6
  replace hT : hx_T T_tb L_3 h_4 := hT
  replace hs : hx_S T_tb [] L h L_3 h_4 := hs
  replace af_qpt : h_4.2.1 qpt = pst := (funext fun j => (hs.a (gqpt.S hM) rfl j).1).trans af_qpt
  replace hM := hM.tr (hs.mono (by decide))
  refine hb_if_eq (zx := r_5.toInt) (tgt := 24) hx hb rfl dX10_strike_11 (by decide) (fun c_8 => ?_) (fun c_8 => ?_)
  · skip
    replace hr_7 := hr_7.resolve_right (fun z9 => absurd (c_8.symm.trans z9.1) (by decide))
    replace hr_7 := hr_7.2
    refine lv_iconst (v := 0) hx hb dX10_strike_24 (by decide) ?_
    exact hx_retz hx hb hr rfl hlk hW ⟨⟨pst, af_qpt, (Or.inl ⟨(fun hc => by have h1 := hc.1; omega), by decide, rfl⟩)⟩, hT, hM⟩ dX10_strike_25
  · skip
    replace hr_7 := hr_7.resolve_left (fun z9 => c_8 z9.1)
    replace c_8 := hr_7.1
    replace hr_7 := hr_7.2
    refine lv_aload_n hx hb dX10_strike_14 rfl (lv_at hl 0 rfl) ?_
    refine hk_getr hx hb hts hC_10 hown hW (gx.S hM) tt_10 64 (by decide) rfl kw_1207 ⟨rfl, rfl, rfl⟩ ((hM.o gx trivial rfl).2.trans f_x_64) dX10_strike_15 ?_
    refine lv_iload_n hx hb dX10_strike_18 rfl (lv_at hl 1 rfl) ?_
    refine hx_iald hx hb hW hT (gqpt.S hM) tt_97 rfl ⟨by omega, by omega⟩ dX10_strike_19 (fun x_9 ex_9 lx_9 ux_9 => ?_)
    have ax_9 : x_9 = pst i1.toNatClampNeg := ex_9.trans (congrFun af_qpt _)
    refine lv_iconst (v := -1) hx hb dX10_strike_20 (by decide) ?_
    refine hb_icmp_eq (zx := x_9.toInt) (zy := (-1)) (tgt := 26) hx hb rfl (by decide) dX10_strike_21 (by decide) (fun c_10 => ?_) (fun c_10 => ?_)
    · skip
      refine lv_aload_n hx hb dX10_strike_26 rfl (lv_at hl 0 rfl) ?_
      refine hk_getr hx hb hts hC_10 hown hW (gx.S hM) tt_10 64 (by decide) rfl kw_1207 ⟨rfl, rfl, rfl⟩ ((hM.o gx trivial rfl).2.trans f_x_64) dX10_strike_27 ?_
      refine lv_iload_n hx hb dX10_strike_30 rfl (lv_at hl 1 rfl) ?_
      refine lv_aload_n hx hb dX10_strike_31 rfl (lv_at hl 0 rfl) ?_
      refine hk_geti hx hb hts hC_10 hown hW (gx.S hM) tt_10 0 (by decide) rfl kw_1143 ⟨rfl, rfl, rfl⟩ ((hM.o gx trivial rfl).1.trans f_x_0) dX10_strike_32 ?_
      have af_qptO := af_qpt
      refine hx_iast hx hb hW hT (hx_S.rf (M := [(97, 0)])) (gqpt.S hM) tt_97 rfl ⟨by omega, by omega⟩ rfl (i32_r _) (List.mem_singleton.mpr rfl) dX10_strike_35 (fun H locs h_11 eh_11 hW hT hs => ?_)
      replace hM := hM.tr (hs.mono (by decide))
      obtain ⟨fa_12, dfa_12⟩ : ∃ g : Nat → Int32, g = hx_up pst i1.toNatClampNeg nw0 := ⟨_, rfl⟩
      have nfa_12 : h_11.2.1 qpt = fa_12 := by rw [eh_11, dfa_12, ← af_qptO]; exact hx_pi_fun _ _ _ _
      refine lv_iconst (v := 1) hx hb dX10_strike_36 (by decide) ?_
      exact hx_retz hx hb hr rfl hlk hW ⟨⟨fa_12, nfa_12, (Or.inr ⟨⟨⟨by omega, by omega⟩, (by rw [show pst i1.toInt.toNat = x_9 from ax_9.symm]; omega)⟩, by decide, dfa_12⟩)⟩, hT, hM⟩ dX10_strike_37
    · skip
      refine lv_iconst (v := 0) hx hb dX10_strike_24 (by decide) ?_
      exact hx_retz hx hb hr rfl hlk hW ⟨⟨pst, af_qpt, (Or.inl ⟨(fun hc => by have h1 := hc.2; rw [show pst i1.toInt.toNat = x_9 from ax_9.symm] at h1; omega), by decide, rfl⟩)⟩, hT, hM⟩ dX10_strike_25


set_option maxHeartbeats 4000000 in
set_option maxRecDepth 100000 in
theorem t_X10_seize_v (l : Launch) (dC : Nat → ClassId) (dI : Nat → Nat → Nat) (dA : Nat → ClassId) (L : List Nat) (h : hx_h) (sz : Nat) (x : Nat) (i1 : Int32) (i2 : Int32) (hT : hx_T T_tb L h) (gx : hx_g L h x 10) (qfo : Nat) (gqfo : hx_g L h qfo 81) (f_x_46 : h.2.2 x 46 = some qfo) (qhe : Nat) (gqhe : hx_g L h qhe 82) (f_x_47 : h.2.2 x 47 = some qhe) (qju : Nat) (gqju : hx_g L h qju 86) (f_x_51 : h.2.2 x 51 = some qju) (qod : Nat) (gqod : hx_g L h qod 83) (f_x_48 : h.2.2 x 48 = some qod) (qsv : Nat) (gqsv : hx_g L h qsv 85) (f_x_50 : h.2.2 x 50 = some qsv) (qsz : Nat) (gqsz : hx_g L h qsz 84) (f_x_49 : h.2.2 x 49 = some qsz) (qgd : Nat) (gqgd : hx_g L h qgd 91) (f_x_56 : h.2.2 x 56 = some qgd) (qow : Nat) (gqow : hx_g L h qow 90) (f_x_55 : h.2.2 x 55 = some qow) (qwk : Nat) (gqwk : hx_g L h qwk 89) (f_x_54 : h.2.2 x 54 = some qwk) (qpl : Nat) (gqpl : hx_g L h qpl 79) (f_x_44 : h.2.2 x 44 = some qpl) (qru : Nat) (gqru : hx_g L h qru 50) (f_x_3 : h.2.2 x 3 = some qru) (qpo : Nat) (gqpo : hx_g L h qpo 93) (f_x_60 : h.2.2 x 60 = some qpo) (qpd : Nat) (gqpd : hx_g L h qpd 94) (f_x_61 : h.2.2 x 61 = some qpd) (qps : Nat) (gqps : hx_g L h qps 95) (f_x_62 : h.2.2 x 62 = some qps) (qpk : Nat) (gqpk : hx_g L h qpk 96) (f_x_63 : h.2.2 x 63 = some qpk) (qpt : Nat) (gqpt : hx_g L h qpt 97) (f_x_64 : h.2.2 x 64 = some qpt) (fof : Nat → Int32) (af_qfo : h.2.1 qfo = fof) (hrf : Nat → Int32) (af_qhe : h.2.1 qhe = hrf) (udf : Nat → Int32) (af_qju : h.2.1 qju = udf) (odf : Nat → Int32) (af_qod : h.2.1 qod = odf) (svf : Nat → Int32) (af_qsv : h.2.1 qsv = svf) (szf : Nat → Int32) (af_qsz : h.2.1 qsz = szf) (gdf : Nat → Int32) (af_qgd : h.2.1 qgd = gdf) (owf : Nat → Int32) (af_qow : h.2.1 qow = owf) (wkf : Nat → Int32) (af_qwk : h.2.1 qwk = wkf) (plf : Nat → Int32) (af_qpl : h.2.1 qpl = plf) (rlf : Nat → Int32) (af_qru : h.2.1 qru = rlf) (pof : Nat → Int32) (af_qpo : h.2.1 qpo = pof) (pdf : Nat → Int32) (af_qpd : h.2.1 qpd = pdf) (psm : Nat → Int32) (af_qps : h.2.1 qps = psm) (pkf : Nat → Int32) (af_qpk : h.2.1 qpk = pkf) (pst : Nat → Int32) (af_qpt : h.2.1 qpt = pst) (c0 : Int32) (f_x_36 : h.2.1 x 36 = c0) (a0 : Int32) (f_x_1 : h.2.1 x 1 = a0) (nw0 : Int32) (f_x_0 : h.2.1 x 0 = nw0) (n0 : Int32) (f_x_59 : h.2.1 x 59 = n0) (adf psf prf : Nat → Int32) (A : Nat → hv_act) (hCA : hv_CA adf rlf psf prf a0.toInt A) (hPL : hx_PL plf c0.toInt a0.toInt) : Met l yX10_seize (Cond.code yX10_seize cX10_seize 3 (some .int) :: hx_all) ({ frames := 2, cells := 0, slots := 0, locals := 50 }) (va_Pc [.ref x, .int i1, .int i2] (hx_B T_tb (P_ty dA) (dC, dI) vwCl L h sz)) (va_Qi (fun (r : Int32) (u : List Nat × hx_h) => (∃ (szf1 : Nat → Int32) (gdf1 : Nat → Int32), u.2.2.1 qsz = szf1 ∧ u.2.2.1 qgd = gdf1 ∧ (hz_ZS (hz_ZC c0.toInt i1.toInt i2.toInt (szf i1.toInt.toNat).toInt (hz_st (fof i1.toInt.toNat).toInt (hrf i1.toInt.toNat).toInt (udf i1.toInt.toNat).toInt (odf i1.toInt.toNat).toInt (svf i1.toInt.toNat).toInt (hz_rs (svf i1.toInt.toNat).toInt (hz_bl (odf i1.toInt.toNat).toInt (szf i1.toInt.toNat).toInt (gdf i1.toInt.toNat).toInt (owf i1.toInt.toNat).toInt ((A (plf i1.toInt.toNat).toInt.toNat).2.1 12) nw0.toInt (hx_ps pof pdf psm pkf pst nw0.toInt nw0.toInt ((i1.toInt.toNat : Nat) : Int) n0.toInt.toNat)) nw0.toInt) (hz_ms (odf i1.toInt.toNat).toInt (svf i1.toInt.toNat).toInt (wkf i1.toInt.toNat).toInt (hz_al (owf i1.toInt.toNat).toInt (szf i1.toInt.toNat).toInt ((A (plf i1.toInt.toNat).toInt.toNat).2.1 12) nw0.toInt) (hz_pdy (odf i1.toInt.toNat).toInt (szf i1.toInt.toNat).toInt (gdf i1.toInt.toNat).toInt nw0.toInt (hx_ps pof pdf psm pkf pst nw0.toInt nw0.toInt ((i1.toInt.toNat : Nat) : Int) n0.toInt.toNat)) nw0.toInt) ((A (plf i1.toInt.toNat).toInt.toNat).2.1 4) ((A (plf i1.toInt.toNat).toInt.toNat).2.1 5) nw0.toInt)) i1.toInt.toNat i2 nw0 r (hz_bl (odf i1.toInt.toNat).toInt nw0.toInt i2.toInt (owf i1.toInt.toNat).toInt ((A (plf i1.toInt.toNat).toInt.toNat).2.1 12) nw0.toInt (hx_ps pof pdf psm pkf pst nw0.toInt nw0.toInt ((i1.toInt.toNat : Nat) : Int) n0.toInt.toNat)) szf szf1 gdf gdf1)) ∧ hx_T T_tb u.1 u.2 ∧ hx_S T_tb [(10, 67), (10, 68), (10, 69), (10, 70), (10, 71), (84, 0), (91, 0)] L h u.1 u.2) (hx_E T_tb (P_ty dA) (dC, dI) vwCl (hx_A L sz)) (hx_A L sz)) 0 0 (hx_A L sz) := by
  refine hx_met (lv := [(0, .ref x), (1, .int i1), (2, .int i2)]) (by decide +kernel) rfl (Nat.le_of_ble_eq_true rfl) rfl ?_
  intro p e s m below meth c hx hb hml hr hlk hts0 hown hin hsz hW ls hl
  have hts : ∀ w ∈ hx_all, w.before _ s = true := fun w hw => hts0 w (List.mem_cons_of_mem _ hw)
  have hown : s.vm.findClass "SmallCourtModel" = some m.cls := hown
  have hM : hx_S T_tb [(10, 67), (10, 68), (10, 69), (10, 70), (10, 71), (84, 0), (91, 0)] L h L h := hx_S.rf
  have b_c0 := hT.gi gx tt_10 (k := 36) rfl
  rw [f_x_36] at b_c0
  have b_c0 : 0 ≤ c0.toInt ∧ c0.toInt ≤ 100 := b_c0
  have b_a0 := hT.gi gx tt_10 (k := 1) rfl
  rw [f_x_1] at b_a0
  have b_a0 : 0 ≤ a0.toInt ∧ a0.toInt ≤ 8 := b_a0
  have b_nw0 := hT.gi gx tt_10 (k := 0) rfl
  rw [f_x_0] at b_nw0
  have b_nw0 : 0 ≤ nw0.toInt ∧ nw0.toInt ≤ 7999 := b_nw0
  have b_n0 := hT.gi gx tt_10 (k := 59) rfl
  rw [f_x_59] at b_n0
  have b_n0 : 0 ≤ n0.toInt ∧ n0.toInt ≤ 600 := b_n0
  refine lv_aload_n hx hb dX10_seize_0 rfl (lv_at hl 0 rfl) ?_
  refine lv_iload_n hx hb dX10_seize_1 rfl (lv_at hl 1 rfl) ?_
  refine hx_goi (hx_runV (As := [.int i1]) (rest := []) ⟨hx, hb, hml, hown, hts⟩ hW (gx.S hM) tt_10 (T := TX10) (N := 98) rfl (t_X10_isClaim l dC dI dA L h s.heap.size x i1 hT (gx.S hM) c0 ((hM.o gx trivial rfl).1.trans f_x_36)) (cwV 1 hts (hx_gV kw_1597 kw_1594 kw_1596 kw_73 kw_103) rfl rfl rfl (by decide +kernel) ⟨Nat.le_of_ble_eq_true rfl, Nat.le_of_ble_eq_true rfl⟩) rfl hl.1 rfl (Nat.le_of_ble_eq_true rfl) dX10_seize_2 ⟨Nat.le_of_ble_eq_true rfl, Nat.le_of_ble_eq_true rfl⟩) hW (fun r_3 L_1 h_2 H locs p_4 hW => ?_)
  obtain ⟨hr_5, hT, hs⟩ := p_4
  replace hT : hx_T T_tb L_1 h_2 := hT
  replace hs : hx_S T_tb [] L h L_1 h_2 := hs
  replace af_qsz : h_2.2.1 qsz = szf := (funext fun j => (hs.a (gqsz.S hM) rfl j).1).trans af_qsz
  replace af_qgd : h_2.2.1 qgd = gdf := (funext fun j => (hs.a (gqgd.S hM) rfl j).1).trans af_qgd
  replace hM := hM.tr (hs.mono (by decide))
  refine hb_if_eq (zx := r_3.toInt) (tgt := 29) hx hb rfl dX10_seize_5 (by decide) (fun c_6 => ?_) (fun c_6 => ?_)
  · skip
    replace hr_5 := hr_5.resolve_right (fun z9 => absurd (c_6.symm.trans z9.1) (by decide))
    replace hr_5 := hr_5.2
    refine lv_ldcw (v := -1000000) hx hb hown (hts _ kw_1569) dX10_seize_29 ?_
    exact hx_reti hx hb hr hlk hW ⟨⟨szf, gdf, af_qsz, af_qgd, (Or.inl ⟨(fun hc => by have h1 := hc.1; omega), by decide, rfl, rfl⟩)⟩, hT, hM⟩ dX10_seize_32
  · skip
    replace hr_5 := hr_5.resolve_left (fun z9 => c_6 z9.1)
    replace c_6 := hr_5.1
    replace hr_5 := hr_5.2
    refine lv_aload_n hx hb dX10_seize_8 rfl (lv_at hl 0 rfl) ?_
    refine hk_getr hx hb hts hC_10 hown hW (gx.S hM) tt_10 49 (by decide) rfl kw_1192 ⟨rfl, rfl, rfl⟩ ((hM.o gx trivial rfl).2.trans f_x_49) dX10_seize_9 ?_
    refine lv_iload_n hx hb dX10_seize_12 rfl (lv_at hl 1 rfl) ?_
    refine hx_iald hx hb hW hT (gqsz.S hM) tt_84 rfl ⟨by omega, by omega⟩ dX10_seize_13 (fun x_7 ex_7 lx_7 ux_7 => ?_)
    have ax_7 : x_7 = szf i1.toNatClampNeg := ex_7.trans (congrFun af_qsz _)
    refine lv_iconst (v := -1) hx hb dX10_seize_14 (by decide) ?_
    refine hb_icmp_ne (zx := x_7.toInt) (zy := (-1)) (tgt := 29) hx hb rfl (by decide) dX10_seize_15 (by decide) (fun c_8 => ?_) (fun c_8 => ?_)
    · skip
      refine lv_ldcw (v := -1000000) hx hb hown (hts _ kw_1569) dX10_seize_29 ?_
      exact hx_reti hx hb hr hlk hW ⟨⟨szf, gdf, af_qsz, af_qgd, (Or.inl ⟨(fun hc => by have h1 := hc.2.1; rw [show szf i1.toInt.toNat = x_7 from ax_7.symm] at h1; omega), by decide, rfl, rfl⟩)⟩, hT, hM⟩ dX10_seize_32
    · skip
      refine lv_iload_n hx hb dX10_seize_18 rfl (lv_at hl 2 rfl) ?_
      refine lv_iconst (v := 1) hx hb dX10_seize_19 (by decide) ?_
      refine lv_sipush (v := 9999) hx hb dX10_seize_20 (by decide) ?_
      have zc_9999 : (9999 : Int32).toInt = 9999 := by decide
      have zc_1 : (1 : Int32).toInt = 1 := by decide
      refine hx_goi (hx_runS (As := [.int i2, .int (1 : Int32), .int (9999 : Int32)]) (rest := []) ⟨hx, hb, hml, hown, hts⟩ hW (t_X10_in l dC dI dA L_1 h_2 H.size i2 (1 : Int32) (9999 : Int32) hT) (va_cwS 3 hts (hx_gS kw_1445 kw_1443 kw_1444 kw_103) rfl rfl rfl (by decide +kernel) ⟨Nat.le_of_ble_eq_true rfl, Nat.le_of_ble_eq_true rfl⟩) rfl hl.1 rfl (Nat.le_of_ble_eq_true rfl) dX10_seize_23 ⟨Nat.le_of_ble_eq_true rfl, Nat.le_of_ble_eq_true rfl⟩) hW (fun r_11 L_9 h_10 H locs p_12 hW => ?_)
      obtain ⟨hr_13, hT, hs⟩ := p_12
      replace hT : hx_T T_tb L_9 h_10 := hT
      replace hs : hx_S T_tb [] L_1 h_2 L_9 h_10 := hs
      replace af_qsz : h_10.2.1 qsz = szf := (funext fun j => (hs.a (gqsz.S hM) rfl j).1).trans af_qsz
      replace af_qgd : h_10.2.1 qgd = gdf := (funext fun j => (hs.a (gqgd.S hM) rfl j).1).trans af_qgd
      replace ex_7 := ex_7.trans (hs.a (gqsz.S hM) rfl _).1.symm
      replace hM := hM.tr (hs.mono (by decide))
      refine hb_if_ne (zx := r_11.toInt) (tgt := 33) hx hb rfl dX10_seize_26 (by decide) (fun c_14 => ?_) (fun c_14 => ?_)
      · skip
        replace hr_13 := hr_13.resolve_left (fun z9 => c_14 z9.1)
        replace c_14 := hr_13.1
        replace hr_13 := hr_13.2
        refine lv_aload_n hx hb dX10_seize_33 rfl (lv_at hl 0 rfl) ?_
        refine lv_iload_n hx hb dX10_seize_34 rfl (lv_at hl 1 rfl) ?_
        refine lv_aload_n hx hb dX10_seize_35 rfl (lv_at hl 0 rfl) ?_
        refine hk_geti hx hb hts hC_10 hown hW (gx.S hM) tt_10 0 (by decide) rfl kw_1143 ⟨rfl, rfl, rfl⟩ ((hM.o gx trivial rfl).1.trans f_x_0) dX10_seize_36 ?_
        refine lv_aload_n hx hb dX10_seize_39 rfl (lv_at hl 0 rfl) ?_
        refine hk_geti hx hb hts hC_10 hown hW (gx.S hM) tt_10 0 (by decide) rfl kw_1143 ⟨rfl, rfl, rfl⟩ ((hM.o gx trivial rfl).1.trans f_x_0) dX10_seize_40 ?_
        have hl_15p := hPL i1.toInt (by omega) (by omega)
        obtain ⟨_, hl_152, _⟩ := hCA.2 (plf i1.toInt.toNat).toInt.toNat (by omega)
        refine hx_gov (hx_runV (As := [.int i1, .int nw0, .int nw0]) (rest := []) ⟨hx, hb, hml, hown, hts⟩ hW (gx.S hM) tt_10 (T := TX10) (N := 98) rfl (t_X10_looks_v l dC dI dA L_9 h_10 H.size x i1 nw0 nw0 hT (gx.S hM) qfo (gqfo.S hM) ((hM.o gx trivial rfl).2.trans f_x_46) qhe (gqhe.S hM) ((hM.o gx trivial rfl).2.trans f_x_47) qju (gqju.S hM) ((hM.o gx trivial rfl).2.trans f_x_51) qod (gqod.S hM) ((hM.o gx trivial rfl).2.trans f_x_48) qsv (gqsv.S hM) ((hM.o gx trivial rfl).2.trans f_x_50) qsz (gqsz.S hM) ((hM.o gx trivial rfl).2.trans f_x_49) qgd (gqgd.S hM) ((hM.o gx trivial rfl).2.trans f_x_56) qow (gqow.S hM) ((hM.o gx trivial rfl).2.trans f_x_55) qwk (gqwk.S hM) ((hM.o gx trivial rfl).2.trans f_x_54) qpl (gqpl.S hM) ((hM.o gx trivial rfl).2.trans f_x_44) qru (gqru.S hM) ((hM.o gx trivial rfl).2.trans f_x_3) qpo (gqpo.S hM) ((hM.o gx trivial rfl).2.trans f_x_60) qpd (gqpd.S hM) ((hM.o gx trivial rfl).2.trans f_x_61) qps (gqps.S hM) ((hM.o gx trivial rfl).2.trans f_x_62) qpk (gqpk.S hM) ((hM.o gx trivial rfl).2.trans f_x_63) qpt (gqpt.S hM) ((hM.o gx trivial rfl).2.trans f_x_64) fof (hx_afS hM gqfo rfl af_qfo) hrf (hx_afS hM gqhe rfl af_qhe) udf (hx_afS hM gqju rfl af_qju) odf (hx_afS hM gqod rfl af_qod) svf (hx_afS hM gqsv rfl af_qsv) szf af_qsz gdf af_qgd owf (hx_afS hM gqow rfl af_qow) wkf (hx_afS hM gqwk rfl af_qwk) plf (hx_afS hM gqpl rfl af_qpl) rlf (hx_afS hM gqru rfl af_qru) pof (hx_afS hM gqpo rfl af_qpo) pdf (hx_afS hM gqpd rfl af_qpd) psm (hx_afS hM gqps rfl af_qps) pkf (hx_afS hM gqpk rfl af_qpk) pst (hx_afS hM gqpt rfl af_qpt) n0 ((hM.o gx trivial rfl).1.trans f_x_59) ⟨by omega, by omega⟩ ⟨by omega, by omega⟩ (A (plf i1.toInt.toNat).toInt.toNat).2.1 (fun k hk => by rw [← hl_152]; show _ = (if k < 13 then _ else 0); rw [if_pos (by omega)])) (cwV 3 hts (hx_gV kw_1641 kw_1638 kw_1640 kw_82 kw_103) rfl rfl rfl (by decide +kernel) ⟨Nat.le_of_ble_eq_true rfl, Nat.le_of_ble_eq_true rfl⟩) rfl hl.1 rfl (Nat.le_of_ble_eq_true rfl) dX10_seize_43 ⟨Nat.le_of_ble_eq_true rfl, Nat.le_of_ble_eq_true rfl⟩) hW (fun L_16 h_17 H locs p_19 hW => ?_)
        obtain ⟨⟨w_21, w_22, w_23, w_24, w_25, fw_21, fw_22, fw_23, fw_24, fw_25, hr_20⟩, hT, hs⟩ := p_19
        replace hT : hx_T T_tb L_16 h_17 := hT
        replace hs : hx_S T_tb [(10, 67), (10, 68), (10, 69), (10, 70), (10, 71)] L_9 h_10 L_16 h_17 := hs
        replace af_qsz : h_17.2.1 qsz = szf := (funext fun j => (hs.a (gqsz.S hM) rfl j).1).trans af_qsz
        replace af_qgd : h_17.2.1 qgd = gdf := (funext fun j => (hs.a (gqgd.S hM) rfl j).1).trans af_qgd
        replace ex_7 := ex_7.trans (hs.a (gqsz.S hM) rfl _).1.symm
        replace hM := hM.tr (hs.mono (by decide))
        have fw_21 : h_17.2.1 x 67 = w_21 := fw_21
        have bw_21 := hT.gi (gx.S hM) tt_10 (k := 67) rfl
        rw [fw_21] at bw_21
        have bw_21 : 0 ≤ w_21.toInt ∧ w_21.toInt ≤ 366100000 := bw_21
        have fw_22 : h_17.2.1 x 68 = w_22 := fw_22
        have bw_22 := hT.gi (gx.S hM) tt_10 (k := 68) rfl
        rw [fw_22] at bw_22
        have bw_22 : 0 ≤ w_22.toInt ∧ w_22.toInt ≤ 610000 := bw_22
        have fw_23 : h_17.2.1 x 69 = w_23 := fw_23
        have bw_23 := hT.gi (gx.S hM) tt_10 (k := 69) rfl
        rw [fw_23] at bw_23
        have bw_23 : -2147483648 ≤ w_23.toInt ∧ w_23.toInt ≤ 2147483647 := bw_23
        have fw_24 : h_17.2.1 x 70 = w_24 := fw_24
        have bw_24 := hT.gi (gx.S hM) tt_10 (k := 70) rfl
        rw [fw_24] at bw_24
        have bw_24 : -2147483648 ≤ w_24.toInt ∧ w_24.toInt ≤ 2147483647 := bw_24
        have fw_25 : h_17.2.1 x 71 = w_25 := fw_25
        have bw_25 := hT.gi (gx.S hM) tt_10 (k := 71) rfl
        rw [fw_25] at bw_25
        have bw_25 : 0 ≤ w_25.toInt ∧ w_25.toInt ≤ 8 := bw_25
        have hc9 : ((i1.toInt.toNat : Nat) : Int) = i1.toInt := by omega
        have hst9 : w_25.toInt = (hz_st (fof i1.toInt.toNat).toInt (hrf i1.toInt.toNat).toInt (udf i1.toInt.toNat).toInt (odf i1.toInt.toNat).toInt (svf i1.toInt.toNat).toInt (hz_rs (svf i1.toInt.toNat).toInt (hz_bl (odf i1.toInt.toNat).toInt (szf i1.toInt.toNat).toInt (gdf i1.toInt.toNat).toInt (owf i1.toInt.toNat).toInt ((A (plf i1.toInt.toNat).toInt.toNat).2.1 12) nw0.toInt (hx_ps pof pdf psm pkf pst nw0.toInt nw0.toInt ((i1.toInt.toNat : Nat) : Int) n0.toInt.toNat)) nw0.toInt) (hz_ms (odf i1.toInt.toNat).toInt (svf i1.toInt.toNat).toInt (wkf i1.toInt.toNat).toInt (hz_al (owf i1.toInt.toNat).toInt (szf i1.toInt.toNat).toInt ((A (plf i1.toInt.toNat).toInt.toNat).2.1 12) nw0.toInt) (hz_pdy (odf i1.toInt.toNat).toInt (szf i1.toInt.toNat).toInt (gdf i1.toInt.toNat).toInt nw0.toInt (hx_ps pof pdf psm pkf pst nw0.toInt nw0.toInt ((i1.toInt.toNat : Nat) : Int) n0.toInt.toNat)) nw0.toInt) ((A (plf i1.toInt.toNat).toInt.toNat).2.1 4) ((A (plf i1.toInt.toNat).toInt.toNat).2.1 5) nw0.toInt) := by rw [hc9]; exact hr_20.2.2.2.2
        refine lv_aload_n hx hb dX10_seize_46 rfl (lv_at hl 0 rfl) ?_
        refine hk_geti hx hb hts hC_10 hown hW (gx.S hM) tt_10 71 (by decide) rfl kw_1214 ⟨rfl, rfl, rfl⟩ fw_25 dX10_seize_47 ?_
        refine lv_iconst (v := 5) hx hb dX10_seize_50 (by decide) ?_
        refine lv_bipush (v := 6) hx hb dX10_seize_51 (by decide) ?_
        have zc_6 : (6 : Int32).toInt = 6 := by decide
        have zc_5 : (5 : Int32).toInt = 5 := by decide
        refine hx_goi (hx_runS (As := [.int w_25, .int (5 : Int32), .int (6 : Int32)]) (rest := []) ⟨hx, hb, hml, hown, hts⟩ hW (t_X10_in l dC dI dA L_16 h_17 H.size w_25 (5 : Int32) (6 : Int32) hT) (va_cwS 3 hts (hx_gS kw_1445 kw_1443 kw_1444 kw_103) rfl rfl rfl (by decide +kernel) ⟨Nat.le_of_ble_eq_true rfl, Nat.le_of_ble_eq_true rfl⟩) rfl hl.1 rfl (Nat.le_of_ble_eq_true rfl) dX10_seize_53 ⟨Nat.le_of_ble_eq_true rfl, Nat.le_of_ble_eq_true rfl⟩) hW (fun r_28 L_26 h_27 H locs p_29 hW => ?_)
        obtain ⟨hr_30, hT, hs⟩ := p_29
        replace hT : hx_T T_tb L_26 h_27 := hT
        replace hs : hx_S T_tb [] L_16 h_17 L_26 h_27 := hs
        replace fw_21 := (hs.o (gx.S hM) trivial rfl).1.trans fw_21
        replace fw_22 := (hs.o (gx.S hM) trivial rfl).1.trans fw_22
        replace fw_23 := (hs.o (gx.S hM) trivial rfl).1.trans fw_23
        replace fw_24 := (hs.o (gx.S hM) trivial rfl).1.trans fw_24
        replace fw_25 := (hs.o (gx.S hM) trivial rfl).1.trans fw_25
        replace af_qsz : h_27.2.1 qsz = szf := (funext fun j => (hs.a (gqsz.S hM) rfl j).1).trans af_qsz
        replace af_qgd : h_27.2.1 qgd = gdf := (funext fun j => (hs.a (gqgd.S hM) rfl j).1).trans af_qgd
        replace ex_7 := ex_7.trans (hs.a (gqsz.S hM) rfl _).1.symm
        replace hM := hM.tr (hs.mono (by decide))
        refine hb_if_ne (zx := r_28.toInt) (tgt := 63) hx hb rfl dX10_seize_56 (by decide) (fun c_31 => ?_) (fun c_31 => ?_)
        · skip
          replace hr_30 := hr_30.resolve_left (fun z9 => c_31 z9.1)
          replace c_31 := hr_30.1
          replace hr_30 := hr_30.2
          refine lv_aload_n hx hb dX10_seize_63 rfl (lv_at hl 0 rfl) ?_
          refine hk_getr hx hb hts hC_10 hown hW (gx.S hM) tt_10 49 (by decide) rfl kw_1192 ⟨rfl, rfl, rfl⟩ ((hM.o gx trivial rfl).2.trans f_x_49) dX10_seize_64 ?_
          refine lv_iload_n hx hb dX10_seize_67 rfl (lv_at hl 1 rfl) ?_
          refine lv_aload_n hx hb dX10_seize_68 rfl (lv_at hl 0 rfl) ?_
          refine hk_geti hx hb hts hC_10 hown hW (gx.S hM) tt_10 0 (by decide) rfl kw_1143 ⟨rfl, rfl, rfl⟩ ((hM.o gx trivial rfl).1.trans f_x_0) dX10_seize_69 ?_
          have af_qszO := af_qsz
          refine hx_iast hx hb hW hT (hx_S.rf (M := [(84, 0)])) (gqsz.S hM) tt_84 rfl ⟨by omega, by omega⟩ rfl ⟨by omega, by omega⟩ (List.mem_singleton.mpr rfl) dX10_seize_72 (fun H locs h_32 eh_32 hW hT hs => ?_)
          replace fw_21 := (hs.o (gx.S hM) trivial rfl).1.trans fw_21
          replace fw_22 := (hs.o (gx.S hM) trivial rfl).1.trans fw_22
          replace fw_23 := (hs.o (gx.S hM) trivial rfl).1.trans fw_23
          replace fw_24 := (hs.o (gx.S hM) trivial rfl).1.trans fw_24
          replace fw_25 := (hs.o (gx.S hM) trivial rfl).1.trans fw_25
          replace af_qgd : h_32.2.1 qgd = gdf := (funext fun j => (hs.a (gqgd.S hM) rfl j).1).trans af_qgd
          replace hM := hM.tr (hs.mono (by decide))
          obtain ⟨fa_33, dfa_33⟩ : ∃ g : Nat → Int32, g = hx_up szf i1.toNatClampNeg nw0 := ⟨_, rfl⟩
          have nfa_33 : h_32.2.1 qsz = fa_33 := by rw [eh_32, dfa_33, ← af_qszO]; exact hx_pi_fun _ _ _ _
          refine lv_aload_n hx hb dX10_seize_73 rfl (lv_at hl 0 rfl) ?_
          refine hk_getr hx hb hts hC_10 hown hW (gx.S hM) tt_10 56 (by decide) rfl kw_1199 ⟨rfl, rfl, rfl⟩ ((hM.o gx trivial rfl).2.trans f_x_56) dX10_seize_74 ?_
          refine lv_iload_n hx hb dX10_seize_77 rfl (lv_at hl 1 rfl) ?_
          refine lv_iload_n hx hb dX10_seize_78 rfl (lv_at hl 2 rfl) ?_
          have af_qgdO := af_qgd
          refine hx_iast hx hb hW hT (hx_S.rf (M := [(91, 0)])) (gqgd.S hM) tt_91 rfl ⟨by omega, by omega⟩ rfl ⟨by omega, by omega⟩ (List.mem_singleton.mpr rfl) dX10_seize_79 (fun H locs h_34 eh_34 hW hT hs => ?_)
          replace fw_21 := (hs.o (gx.S hM) trivial rfl).1.trans fw_21
          replace fw_22 := (hs.o (gx.S hM) trivial rfl).1.trans fw_22
          replace fw_23 := (hs.o (gx.S hM) trivial rfl).1.trans fw_23
          replace fw_24 := (hs.o (gx.S hM) trivial rfl).1.trans fw_24
          replace fw_25 := (hs.o (gx.S hM) trivial rfl).1.trans fw_25
          replace nfa_33 : h_34.2.1 qsz = fa_33 := (funext fun j => (hs.a (gqsz.S hM) rfl j).1).trans nfa_33
          replace hM := hM.tr (hs.mono (by decide))
          obtain ⟨fa_35, dfa_35⟩ : ∃ g : Nat → Int32, g = hx_up gdf i1.toNatClampNeg i2 := ⟨_, rfl⟩
          have nfa_35 : h_34.2.1 qgd = fa_35 := by rw [eh_34, dfa_35, ← af_qgdO]; exact hx_pi_fun _ _ _ _
          refine lv_aload_n hx hb dX10_seize_80 rfl (lv_at hl 0 rfl) ?_
          refine lv_iload_n hx hb dX10_seize_81 rfl (lv_at hl 1 rfl) ?_
          refine lv_aload_n hx hb dX10_seize_82 rfl (lv_at hl 0 rfl) ?_
          refine hk_geti hx hb hts hC_10 hown hW (gx.S hM) tt_10 0 (by decide) rfl kw_1143 ⟨rfl, rfl, rfl⟩ ((hM.o gx trivial rfl).1.trans f_x_0) dX10_seize_83 ?_
          refine lv_aload_n hx hb dX10_seize_86 rfl (lv_at hl 0 rfl) ?_
          refine hk_geti hx hb hts hC_10 hown hW (gx.S hM) tt_10 0 (by decide) rfl kw_1143 ⟨rfl, rfl, rfl⟩ ((hM.o gx trivial rfl).1.trans f_x_0) dX10_seize_87 ?_
          have hl_36p := hPL i1.toInt (by omega) (by omega)
          obtain ⟨_, hl_362, _⟩ := hCA.2 (plf i1.toInt.toNat).toInt.toNat (by omega)
          refine hx_gov (hx_runV (As := [.int i1, .int nw0, .int nw0]) (rest := []) ⟨hx, hb, hml, hown, hts⟩ hW (gx.S hM) tt_10 (T := TX10) (N := 98) rfl (t_X10_looks_v l dC dI dA L_26 h_34 H.size x i1 nw0 nw0 hT (gx.S hM) qfo (gqfo.S hM) ((hM.o gx trivial rfl).2.trans f_x_46) qhe (gqhe.S hM) ((hM.o gx trivial rfl).2.trans f_x_47) qju (gqju.S hM) ((hM.o gx trivial rfl).2.trans f_x_51) qod (gqod.S hM) ((hM.o gx trivial rfl).2.trans f_x_48) qsv (gqsv.S hM) ((hM.o gx trivial rfl).2.trans f_x_50) qsz (gqsz.S hM) ((hM.o gx trivial rfl).2.trans f_x_49) qgd (gqgd.S hM) ((hM.o gx trivial rfl).2.trans f_x_56) qow (gqow.S hM) ((hM.o gx trivial rfl).2.trans f_x_55) qwk (gqwk.S hM) ((hM.o gx trivial rfl).2.trans f_x_54) qpl (gqpl.S hM) ((hM.o gx trivial rfl).2.trans f_x_44) qru (gqru.S hM) ((hM.o gx trivial rfl).2.trans f_x_3) qpo (gqpo.S hM) ((hM.o gx trivial rfl).2.trans f_x_60) qpd (gqpd.S hM) ((hM.o gx trivial rfl).2.trans f_x_61) qps (gqps.S hM) ((hM.o gx trivial rfl).2.trans f_x_62) qpk (gqpk.S hM) ((hM.o gx trivial rfl).2.trans f_x_63) qpt (gqpt.S hM) ((hM.o gx trivial rfl).2.trans f_x_64) fof (hx_afS hM gqfo rfl af_qfo) hrf (hx_afS hM gqhe rfl af_qhe) udf (hx_afS hM gqju rfl af_qju) odf (hx_afS hM gqod rfl af_qod) svf (hx_afS hM gqsv rfl af_qsv) fa_33 nfa_33 fa_35 nfa_35 owf (hx_afS hM gqow rfl af_qow) wkf (hx_afS hM gqwk rfl af_qwk) plf (hx_afS hM gqpl rfl af_qpl) rlf (hx_afS hM gqru rfl af_qru) pof (hx_afS hM gqpo rfl af_qpo) pdf (hx_afS hM gqpd rfl af_qpd) psm (hx_afS hM gqps rfl af_qps) pkf (hx_afS hM gqpk rfl af_qpk) pst (hx_afS hM gqpt rfl af_qpt) n0 ((hM.o gx trivial rfl).1.trans f_x_59) ⟨by omega, by omega⟩ ⟨by omega, by omega⟩ (A (plf i1.toInt.toNat).toInt.toNat).2.1 (fun k hk => by rw [← hl_362]; show _ = (if k < 13 then _ else 0); rw [if_pos (by omega)])) (cwV 3 hts (hx_gV kw_1641 kw_1638 kw_1640 kw_82 kw_103) rfl rfl rfl (by decide +kernel) ⟨Nat.le_of_ble_eq_true rfl, Nat.le_of_ble_eq_true rfl⟩) rfl hl.1 rfl (Nat.le_of_ble_eq_true rfl) dX10_seize_90 ⟨Nat.le_of_ble_eq_true rfl, Nat.le_of_ble_eq_true rfl⟩) hW (fun L_37 h_38 H locs p_40 hW => ?_)
          obtain ⟨⟨w_42, w_43, w_44, w_45, w_46, fw_42, fw_43, fw_44, fw_45, fw_46, hr_41⟩, hT, hs⟩ := p_40
          replace hT : hx_T T_tb L_37 h_38 := hT
          replace hs : hx_S T_tb [(10, 67), (10, 68), (10, 69), (10, 70), (10, 71)] L_26 h_34 L_37 h_38 := hs
          replace nfa_33 : h_38.2.1 qsz = fa_33 := (funext fun j => (hs.a (gqsz.S hM) rfl j).1).trans nfa_33
          replace nfa_35 : h_38.2.1 qgd = fa_35 := (funext fun j => (hs.a (gqgd.S hM) rfl j).1).trans nfa_35
          replace hM := hM.tr (hs.mono (by decide))
          have fw_42 : h_38.2.1 x 67 = w_42 := fw_42
          have bw_42 := hT.gi (gx.S hM) tt_10 (k := 67) rfl
          rw [fw_42] at bw_42
          have bw_42 : 0 ≤ w_42.toInt ∧ w_42.toInt ≤ 366100000 := bw_42
          have fw_43 : h_38.2.1 x 68 = w_43 := fw_43
          have bw_43 := hT.gi (gx.S hM) tt_10 (k := 68) rfl
          rw [fw_43] at bw_43
          have bw_43 : 0 ≤ w_43.toInt ∧ w_43.toInt ≤ 610000 := bw_43
          have fw_44 : h_38.2.1 x 69 = w_44 := fw_44
          have bw_44 := hT.gi (gx.S hM) tt_10 (k := 69) rfl
          rw [fw_44] at bw_44
          have bw_44 : -2147483648 ≤ w_44.toInt ∧ w_44.toInt ≤ 2147483647 := bw_44
          have fw_45 : h_38.2.1 x 70 = w_45 := fw_45
          have bw_45 := hT.gi (gx.S hM) tt_10 (k := 70) rfl
          rw [fw_45] at bw_45
          have bw_45 : -2147483648 ≤ w_45.toInt ∧ w_45.toInt ≤ 2147483647 := bw_45
          have fw_46 : h_38.2.1 x 71 = w_46 := fw_46
          have bw_46 := hT.gi (gx.S hM) tt_10 (k := 71) rfl
          rw [fw_46] at bw_46
          have bw_46 : 0 ≤ w_46.toInt ∧ w_46.toInt ≤ 8 := bw_46
          have hzz9 : fa_33 i1.toInt.toNat = nw0 := by rw [dfa_33]; exact hx_up_at
          have hgg9 : fa_35 i1.toInt.toNat = i2 := by rw [dfa_35]; exact hx_up_at
          obtain ⟨hp9, hr9, ho9, _, _⟩ := hr_41; rw [hzz9, hgg9] at hr9 ho9
          have hso9 := hz_st_or (show (hz_st (fof i1.toInt.toNat).toInt (hrf i1.toInt.toNat).toInt (udf i1.toInt.toNat).toInt (odf i1.toInt.toNat).toInt (svf i1.toInt.toNat).toInt (hz_rs (svf i1.toInt.toNat).toInt (hz_bl (odf i1.toInt.toNat).toInt (szf i1.toInt.toNat).toInt (gdf i1.toInt.toNat).toInt (owf i1.toInt.toNat).toInt ((A (plf i1.toInt.toNat).toInt.toNat).2.1 12) nw0.toInt (hx_ps pof pdf psm pkf pst nw0.toInt nw0.toInt ((i1.toInt.toNat : Nat) : Int) n0.toInt.toNat)) nw0.toInt) (hz_ms (odf i1.toInt.toNat).toInt (svf i1.toInt.toNat).toInt (wkf i1.toInt.toNat).toInt (hz_al (owf i1.toInt.toNat).toInt (szf i1.toInt.toNat).toInt ((A (plf i1.toInt.toNat).toInt.toNat).2.1 12) nw0.toInt) (hz_pdy (odf i1.toInt.toNat).toInt (szf i1.toInt.toNat).toInt (gdf i1.toInt.toNat).toInt nw0.toInt (hx_ps pof pdf psm pkf pst nw0.toInt nw0.toInt ((i1.toInt.toNat : Nat) : Int) n0.toInt.toNat)) nw0.toInt) ((A (plf i1.toInt.toNat).toInt.toNat).2.1 4) ((A (plf i1.toInt.toNat).toInt.toNat).2.1 5) nw0.toInt) = 5 ∨ (hz_st (fof i1.toInt.toNat).toInt (hrf i1.toInt.toNat).toInt (udf i1.toInt.toNat).toInt (odf i1.toInt.toNat).toInt (svf i1.toInt.toNat).toInt (hz_rs (svf i1.toInt.toNat).toInt (hz_bl (odf i1.toInt.toNat).toInt (szf i1.toInt.toNat).toInt (gdf i1.toInt.toNat).toInt (owf i1.toInt.toNat).toInt ((A (plf i1.toInt.toNat).toInt.toNat).2.1 12) nw0.toInt (hx_ps pof pdf psm pkf pst nw0.toInt nw0.toInt ((i1.toInt.toNat : Nat) : Int) n0.toInt.toNat)) nw0.toInt) (hz_ms (odf i1.toInt.toNat).toInt (svf i1.toInt.toNat).toInt (wkf i1.toInt.toNat).toInt (hz_al (owf i1.toInt.toNat).toInt (szf i1.toInt.toNat).toInt ((A (plf i1.toInt.toNat).toInt.toNat).2.1 12) nw0.toInt) (hz_pdy (odf i1.toInt.toNat).toInt (szf i1.toInt.toNat).toInt (gdf i1.toInt.toNat).toInt nw0.toInt (hx_ps pof pdf psm pkf pst nw0.toInt nw0.toInt ((i1.toInt.toNat : Nat) : Int) n0.toInt.toNat)) nw0.toInt) ((A (plf i1.toInt.toNat).toInt.toNat).2.1 4) ((A (plf i1.toInt.toNat).toInt.toNat).2.1 5) nw0.toInt) = 6 by rw [← hst9]; omega)
          have hnb9 : w_43.toInt - w_44.toInt = (hz_bl (odf i1.toInt.toNat).toInt nw0.toInt i2.toInt (owf i1.toInt.toNat).toInt ((A (plf i1.toInt.toNat).toInt.toNat).2.1 12) nw0.toInt (hx_ps pof pdf psm pkf pst nw0.toInt nw0.toInt ((i1.toInt.toNat : Nat) : Int) n0.toInt.toNat)) ∧ (0 < w_44.toInt → w_43.toInt = 0) ∧ 0 ≤ w_44.toInt := by rw [hr9, ho9, hc9]; unfold hz_rs hz_ov; (repeat' split) <;> omega
          refine lv_aload_n hx hb dX10_seize_93 rfl (lv_at hl 0 rfl) ?_
          refine hk_geti hx hb hts hC_10 hown hW (gx.S hM) tt_10 69 (by decide) rfl kw_1212 ⟨rfl, rfl, rfl⟩ fw_44 dX10_seize_94 ?_
          refine hb_if_le (zx := w_44.toInt) (tgt := 108) hx hb rfl dX10_seize_97 (by decide) (fun c_47 => ?_) (fun c_47 => ?_)
          · skip
            refine lv_aload_n hx hb dX10_seize_108 rfl (lv_at hl 0 rfl) ?_
            refine hk_geti hx hb hts hC_10 hown hW (gx.S hM) tt_10 68 (by decide) rfl kw_1211 ⟨rfl, rfl, rfl⟩ fw_43 dX10_seize_109 ?_
            exact hx_reti hx hb hr hlk hW ⟨⟨fa_33, fa_35, nfa_33, nfa_35, (Or.inr ⟨⟨⟨by omega, by omega⟩, (by rw [show szf i1.toInt.toNat = x_7 from ax_7.symm]; omega), by omega, (by rw [← hst9]; omega)⟩, (by omega), dfa_33, dfa_35⟩)⟩, hT, hM⟩ dX10_seize_112
          · skip
            refine lv_aload_n hx hb dX10_seize_100 rfl (lv_at hl 0 rfl) ?_
            refine hk_geti hx hb hts hC_10 hown hW (gx.S hM) tt_10 69 (by decide) rfl kw_1212 ⟨rfl, rfl, rfl⟩ fw_44 dX10_seize_101 ?_
            refine lv_ineg hx hb dX10_seize_104 ?_
            refine lv_topi (fun x_48 ex_48 => ?_)
            have zn9 := hz_neg ex_48 (by omega)
            refine lv_goto (tgt := 112) hx hb dX10_seize_105 (by decide) ?_
            exact hx_reti hx hb hr hlk hW ⟨⟨fa_33, fa_35, nfa_33, nfa_35, (Or.inr ⟨⟨⟨by omega, by omega⟩, (by rw [show szf i1.toInt.toNat = x_7 from ax_7.symm]; omega), by omega, (by rw [← hst9]; omega)⟩, (by omega), dfa_33, dfa_35⟩)⟩, hT, hM⟩ dX10_seize_112
        · skip
          replace hr_30 := hr_30.resolve_right (fun z9 => absurd (c_31.symm.trans z9.1) (by decide))
          replace hr_30 := hr_30.2
          refine lv_ldcw (v := -1000000) hx hb hown (hts _ kw_1569) dX10_seize_59 ?_
          exact hx_reti hx hb hr hlk hW ⟨⟨szf, gdf, af_qsz, af_qgd, (Or.inl ⟨(fun hc => by have h1 := hc.2.2.2; rw [← hst9] at h1; omega), by decide, rfl, rfl⟩)⟩, hT, hM⟩ dX10_seize_62
      · skip
        replace hr_13 := hr_13.resolve_right (fun z9 => absurd (c_14.symm.trans z9.1) (by decide))
        replace hr_13 := hr_13.2
        refine lv_ldcw (v := -1000000) hx hb hown (hts _ kw_1569) dX10_seize_29 ?_
        exact hx_reti hx hb hr hlk hW ⟨⟨szf, gdf, af_qsz, af_qgd, (Or.inl ⟨(fun hc => by have h1 := hc.2.2.1; omega), by decide, rfl, rfl⟩)⟩, hT, hM⟩ dX10_seize_32


set_option maxHeartbeats 4000000 in
set_option maxRecDepth 100000 in
theorem t_X10_gaol_v (l : Launch) (dC : Nat → ClassId) (dI : Nat → Nat → Nat) (dA : Nat → ClassId) (L : List Nat) (h : hx_h) (sz : Nat) (x : Nat) (i1 : Int32) (hT : hx_T T_tb L h) (gx : hx_g L h x 10) (qfo : Nat) (gqfo : hx_g L h qfo 81) (f_x_46 : h.2.2 x 46 = some qfo) (qhe : Nat) (gqhe : hx_g L h qhe 82) (f_x_47 : h.2.2 x 47 = some qhe) (qju : Nat) (gqju : hx_g L h qju 86) (f_x_51 : h.2.2 x 51 = some qju) (qod : Nat) (gqod : hx_g L h qod 83) (f_x_48 : h.2.2 x 48 = some qod) (qsv : Nat) (gqsv : hx_g L h qsv 85) (f_x_50 : h.2.2 x 50 = some qsv) (qsz : Nat) (gqsz : hx_g L h qsz 84) (f_x_49 : h.2.2 x 49 = some qsz) (qgd : Nat) (gqgd : hx_g L h qgd 91) (f_x_56 : h.2.2 x 56 = some qgd) (qow : Nat) (gqow : hx_g L h qow 90) (f_x_55 : h.2.2 x 55 = some qow) (qwk : Nat) (gqwk : hx_g L h qwk 89) (f_x_54 : h.2.2 x 54 = some qwk) (qpl : Nat) (gqpl : hx_g L h qpl 79) (f_x_44 : h.2.2 x 44 = some qpl) (qru : Nat) (gqru : hx_g L h qru 50) (f_x_3 : h.2.2 x 3 = some qru) (qpo : Nat) (gqpo : hx_g L h qpo 93) (f_x_60 : h.2.2 x 60 = some qpo) (qpd : Nat) (gqpd : hx_g L h qpd 94) (f_x_61 : h.2.2 x 61 = some qpd) (qps : Nat) (gqps : hx_g L h qps 95) (f_x_62 : h.2.2 x 62 = some qps) (qpk : Nat) (gqpk : hx_g L h qpk 96) (f_x_63 : h.2.2 x 63 = some qpk) (qpt : Nat) (gqpt : hx_g L h qpt 97) (f_x_64 : h.2.2 x 64 = some qpt) (qdd : Nat) (gqdd : hx_g L h qdd 64) (f_x_27 : h.2.2 x 27 = some qdd) (qag : Nat) (gqag : hx_g L h qag 73) (f_x_38 : h.2.2 x 38 = some qag) (fof : Nat → Int32) (af_qfo : h.2.1 qfo = fof) (hrf : Nat → Int32) (af_qhe : h.2.1 qhe = hrf) (udf : Nat → Int32) (af_qju : h.2.1 qju = udf) (odf : Nat → Int32) (af_qod : h.2.1 qod = odf) (svf : Nat → Int32) (af_qsv : h.2.1 qsv = svf) (szf : Nat → Int32) (af_qsz : h.2.1 qsz = szf) (gdf : Nat → Int32) (af_qgd : h.2.1 qgd = gdf) (owf : Nat → Int32) (af_qow : h.2.1 qow = owf) (wkf : Nat → Int32) (af_qwk : h.2.1 qwk = wkf) (plf : Nat → Int32) (af_qpl : h.2.1 qpl = plf) (rlf : Nat → Int32) (af_qru : h.2.1 qru = rlf) (pof : Nat → Int32) (af_qpo : h.2.1 qpo = pof) (pdf : Nat → Int32) (af_qpd : h.2.1 qpd = pdf) (psm : Nat → Int32) (af_qps : h.2.1 qps = psm) (pkf : Nat → Int32) (af_qpk : h.2.1 qpk = pkf) (pst : Nat → Int32) (af_qpt : h.2.1 qpt = pst) (ddf : Nat → Int32) (af_qdd : h.2.1 qdd = ddf) (agf : Nat → Int32) (af_qag : h.2.1 qag = agf) (c0 : Int32) (f_x_36 : h.2.1 x 36 = c0) (a0 : Int32) (f_x_1 : h.2.1 x 1 = a0) (nw0 : Int32) (f_x_0 : h.2.1 x 0 = nw0) (n0 : Int32) (f_x_59 : h.2.1 x 59 = n0) (adf psf prf : Nat → Int32) (A : Nat → hv_act) (hCA : hv_CA adf rlf psf prf a0.toInt A) (hPL : hx_PL plf c0.toInt a0.toInt) : Met l yX10_gaol (Cond.code yX10_gaol cX10_gaol 3 (some .int) :: hx_all) ({ frames := 2, cells := 0, slots := 0, locals := 50 }) (va_Pc [.ref x, .int i1] (hx_B T_tb (P_ty dA) (dC, dI) vwCl L h sz)) (va_Qi (fun (r : Int32) (u : List Nat × hx_h) => (∃ (svf1 : Nat → Int32), u.2.2.1 qsv = svf1 ∧ (hz_GS (hz_GC c0.toInt i1.toInt (szf i1.toInt.toNat).toInt (ddf (agf i1.toInt.toNat).toInt.toNat).toInt (hz_st (fof i1.toInt.toNat).toInt (hrf i1.toInt.toNat).toInt (udf i1.toInt.toNat).toInt (odf i1.toInt.toNat).toInt (svf i1.toInt.toNat).toInt (hz_rs (svf i1.toInt.toNat).toInt (hz_bl (odf i1.toInt.toNat).toInt (szf i1.toInt.toNat).toInt (gdf i1.toInt.toNat).toInt (owf i1.toInt.toNat).toInt ((A (plf i1.toInt.toNat).toInt.toNat).2.1 12) nw0.toInt (hx_ps pof pdf psm pkf pst nw0.toInt nw0.toInt ((i1.toInt.toNat : Nat) : Int) n0.toInt.toNat)) nw0.toInt) (hz_ms (odf i1.toInt.toNat).toInt (svf i1.toInt.toNat).toInt (wkf i1.toInt.toNat).toInt (hz_al (owf i1.toInt.toNat).toInt (szf i1.toInt.toNat).toInt ((A (plf i1.toInt.toNat).toInt.toNat).2.1 12) nw0.toInt) (hz_pdy (odf i1.toInt.toNat).toInt (szf i1.toInt.toNat).toInt (gdf i1.toInt.toNat).toInt nw0.toInt (hx_ps pof pdf psm pkf pst nw0.toInt nw0.toInt ((i1.toInt.toNat : Nat) : Int) n0.toInt.toNat)) nw0.toInt) ((A (plf i1.toInt.toNat).toInt.toNat).2.1 4) ((A (plf i1.toInt.toNat).toInt.toNat).2.1 5) nw0.toInt)) i1.toInt.toNat nw0 r (hz_mi (hz_ru (hz_rs (svf i1.toInt.toNat).toInt (hz_bl (odf i1.toInt.toNat).toInt (szf i1.toInt.toNat).toInt (gdf i1.toInt.toNat).toInt (owf i1.toInt.toNat).toInt ((A (plf i1.toInt.toNat).toInt.toNat).2.1 12) nw0.toInt (hx_ps pof pdf psm pkf pst nw0.toInt nw0.toInt ((i1.toInt.toNat : Nat) : Int) n0.toInt.toNat)) nw0.toInt) 12 * (A (plf i1.toInt.toNat).toInt.toNat).2.1 6) ((A (plf i1.toInt.toNat).toInt.toNat).2.1 7)) svf svf1)) ∧ hx_T T_tb u.1 u.2 ∧ hx_S T_tb [(10, 67), (10, 68), (10, 69), (10, 70), (10, 71), (85, 0)] L h u.1 u.2) (hx_E T_tb (P_ty dA) (dC, dI) vwCl (hx_A L sz)) (hx_A L sz)) 0 0 (hx_A L sz) := by
  refine hx_met (lv := [(0, .ref x), (1, .int i1)]) (by decide +kernel) rfl (Nat.le_of_ble_eq_true rfl) rfl ?_
  intro p e s m below meth c hx hb hml hr hlk hts0 hown hin hsz hW ls hl
  have hts : ∀ w ∈ hx_all, w.before _ s = true := fun w hw => hts0 w (List.mem_cons_of_mem _ hw)
  have hown : s.vm.findClass "SmallCourtModel" = some m.cls := hown
  have hM : hx_S T_tb [(10, 67), (10, 68), (10, 69), (10, 70), (10, 71), (85, 0)] L h L h := hx_S.rf
  have b_c0 := hT.gi gx tt_10 (k := 36) rfl
  rw [f_x_36] at b_c0
  have b_c0 : 0 ≤ c0.toInt ∧ c0.toInt ≤ 100 := b_c0
  have b_a0 := hT.gi gx tt_10 (k := 1) rfl
  rw [f_x_1] at b_a0
  have b_a0 : 0 ≤ a0.toInt ∧ a0.toInt ≤ 8 := b_a0
  have b_nw0 := hT.gi gx tt_10 (k := 0) rfl
  rw [f_x_0] at b_nw0
  have b_nw0 : 0 ≤ nw0.toInt ∧ nw0.toInt ≤ 7999 := b_nw0
  have b_n0 := hT.gi gx tt_10 (k := 59) rfl
  rw [f_x_59] at b_n0
  have b_n0 : 0 ≤ n0.toInt ∧ n0.toInt ≤ 600 := b_n0
  refine lv_aload_n hx hb dX10_gaol_0 rfl (lv_at hl 0 rfl) ?_
  refine lv_iload_n hx hb dX10_gaol_1 rfl (lv_at hl 1 rfl) ?_
  refine hx_goi (hx_runV (As := [.int i1]) (rest := []) ⟨hx, hb, hml, hown, hts⟩ hW (gx.S hM) tt_10 (T := TX10) (N := 98) rfl (t_X10_isClaim l dC dI dA L h s.heap.size x i1 hT (gx.S hM) c0 ((hM.o gx trivial rfl).1.trans f_x_36)) (cwV 1 hts (hx_gV kw_1597 kw_1594 kw_1596 kw_73 kw_103) rfl rfl rfl (by decide +kernel) ⟨Nat.le_of_ble_eq_true rfl, Nat.le_of_ble_eq_true rfl⟩) rfl hl.1 rfl (Nat.le_of_ble_eq_true rfl) dX10_gaol_2 ⟨Nat.le_of_ble_eq_true rfl, Nat.le_of_ble_eq_true rfl⟩) hW (fun r_3 L_1 h_2 H locs p_4 hW => ?_)
  obtain ⟨hr_5, hT, hs⟩ := p_4
  replace hT : hx_T T_tb L_1 h_2 := hT
  replace hs : hx_S T_tb [] L h L_1 h_2 := hs
  replace af_qsv : h_2.2.1 qsv = svf := (funext fun j => (hs.a (gqsv.S hM) rfl j).1).trans af_qsv
  replace hM := hM.tr (hs.mono (by decide))
  refine hb_if_eq (zx := r_3.toInt) (tgt := 32) hx hb rfl dX10_gaol_5 (by decide) (fun c_6 => ?_) (fun c_6 => ?_)
  · skip
    replace hr_5 := hr_5.resolve_right (fun z9 => absurd (c_6.symm.trans z9.1) (by decide))
    replace hr_5 := hr_5.2
    refine lv_iconst (v := -1) hx hb dX10_gaol_32 (by decide) ?_
    exact hx_reti hx hb hr hlk hW ⟨⟨svf, af_qsv, (Or.inl ⟨(fun hc => by have h1 := hc.1; omega), by decide, rfl⟩)⟩, hT, hM⟩ dX10_gaol_33
  · skip
    replace hr_5 := hr_5.resolve_left (fun z9 => c_6 z9.1)
    replace c_6 := hr_5.1
    replace hr_5 := hr_5.2
    refine lv_aload_n hx hb dX10_gaol_8 rfl (lv_at hl 0 rfl) ?_
    refine hk_getr hx hb hts hC_10 hown hW (gx.S hM) tt_10 49 (by decide) rfl kw_1192 ⟨rfl, rfl, rfl⟩ ((hM.o gx trivial rfl).2.trans f_x_49) dX10_gaol_9 ?_
    refine lv_iload_n hx hb dX10_gaol_12 rfl (lv_at hl 1 rfl) ?_
    refine hx_iald hx hb hW hT (gqsz.S hM) tt_84 rfl ⟨by omega, by omega⟩ dX10_gaol_13 (fun x_7 ex_7 lx_7 ux_7 => ?_)
    have ax_7 : x_7 = szf i1.toNatClampNeg := ex_7.trans (congrFun (hx_afS hM gqsz rfl af_qsz) _)
    refine lv_iconst (v := -1) hx hb dX10_gaol_14 (by decide) ?_
    refine hb_icmp_eq (zx := x_7.toInt) (zy := (-1)) (tgt := 32) hx hb rfl (by decide) dX10_gaol_15 (by decide) (fun c_8 => ?_) (fun c_8 => ?_)
    · skip
      refine lv_iconst (v := -1) hx hb dX10_gaol_32 (by decide) ?_
      exact hx_reti hx hb hr hlk hW ⟨⟨svf, af_qsv, (Or.inl ⟨(fun hc => by have h1 := hc.2.1; rw [show szf i1.toInt.toNat = x_7 from ax_7.symm] at h1; omega), by decide, rfl⟩)⟩, hT, hM⟩ dX10_gaol_33
    · skip
      refine lv_aload_n hx hb dX10_gaol_18 rfl (lv_at hl 0 rfl) ?_
      refine hk_getr hx hb hts hC_10 hown hW (gx.S hM) tt_10 27 (by decide) rfl kw_1170 ⟨rfl, rfl, rfl⟩ ((hM.o gx trivial rfl).2.trans f_x_27) dX10_gaol_19 ?_
      refine lv_aload_n hx hb dX10_gaol_22 rfl (lv_at hl 0 rfl) ?_
      refine hk_getr hx hb hts hC_10 hown hW (gx.S hM) tt_10 38 (by decide) rfl kw_1181 ⟨rfl, rfl, rfl⟩ ((hM.o gx trivial rfl).2.trans f_x_38) dX10_gaol_23 ?_
      refine lv_iload_n hx hb dX10_gaol_26 rfl (lv_at hl 1 rfl) ?_
      refine hx_iald hx hb hW hT (gqag.S hM) tt_73 rfl ⟨by omega, by omega⟩ dX10_gaol_27 (fun x_9 ex_9 lx_9 ux_9 => ?_)
      have ax_9 : x_9 = agf i1.toNatClampNeg := ex_9.trans (congrFun (hx_afS hM gqag rfl af_qag) _)
      refine hx_zald hx hb hW hT (gqdd.S hM) tt_64 rfl ⟨by omega, by omega⟩ dX10_gaol_28 (fun x_10 ex_10 lx_10 ux_10 => ?_)
      have ax_10 : x_10 = ddf x_9.toNatClampNeg := ex_10.trans (congrFun (hx_afS hM gqdd rfl af_qdd) _)
      have cdd9 : x_10 = ddf (agf i1.toInt.toNat).toInt.toNat := by rw [ax_10, ax_9]; rfl
      refine hb_if_eq (zx := x_10.toInt) (tgt := 34) hx hb rfl dX10_gaol_29 (by decide) (fun c_11 => ?_) (fun c_11 => ?_)
      · skip
        refine lv_aload_n hx hb dX10_gaol_34 rfl (lv_at hl 0 rfl) ?_
        refine lv_iload_n hx hb dX10_gaol_35 rfl (lv_at hl 1 rfl) ?_
        refine lv_aload_n hx hb dX10_gaol_36 rfl (lv_at hl 0 rfl) ?_
        refine hk_geti hx hb hts hC_10 hown hW (gx.S hM) tt_10 0 (by decide) rfl kw_1143 ⟨rfl, rfl, rfl⟩ ((hM.o gx trivial rfl).1.trans f_x_0) dX10_gaol_37 ?_
        refine lv_aload_n hx hb dX10_gaol_40 rfl (lv_at hl 0 rfl) ?_
        refine hk_geti hx hb hts hC_10 hown hW (gx.S hM) tt_10 0 (by decide) rfl kw_1143 ⟨rfl, rfl, rfl⟩ ((hM.o gx trivial rfl).1.trans f_x_0) dX10_gaol_41 ?_
        have hl_12p := hPL i1.toInt (by omega) (by omega)
        obtain ⟨_, hl_122, _⟩ := hCA.2 (plf i1.toInt.toNat).toInt.toNat (by omega)
        refine hx_gov (hx_runV (As := [.int i1, .int nw0, .int nw0]) (rest := []) ⟨hx, hb, hml, hown, hts⟩ hW (gx.S hM) tt_10 (T := TX10) (N := 98) rfl (t_X10_looks_v l dC dI dA L_1 h_2 H.size x i1 nw0 nw0 hT (gx.S hM) qfo (gqfo.S hM) ((hM.o gx trivial rfl).2.trans f_x_46) qhe (gqhe.S hM) ((hM.o gx trivial rfl).2.trans f_x_47) qju (gqju.S hM) ((hM.o gx trivial rfl).2.trans f_x_51) qod (gqod.S hM) ((hM.o gx trivial rfl).2.trans f_x_48) qsv (gqsv.S hM) ((hM.o gx trivial rfl).2.trans f_x_50) qsz (gqsz.S hM) ((hM.o gx trivial rfl).2.trans f_x_49) qgd (gqgd.S hM) ((hM.o gx trivial rfl).2.trans f_x_56) qow (gqow.S hM) ((hM.o gx trivial rfl).2.trans f_x_55) qwk (gqwk.S hM) ((hM.o gx trivial rfl).2.trans f_x_54) qpl (gqpl.S hM) ((hM.o gx trivial rfl).2.trans f_x_44) qru (gqru.S hM) ((hM.o gx trivial rfl).2.trans f_x_3) qpo (gqpo.S hM) ((hM.o gx trivial rfl).2.trans f_x_60) qpd (gqpd.S hM) ((hM.o gx trivial rfl).2.trans f_x_61) qps (gqps.S hM) ((hM.o gx trivial rfl).2.trans f_x_62) qpk (gqpk.S hM) ((hM.o gx trivial rfl).2.trans f_x_63) qpt (gqpt.S hM) ((hM.o gx trivial rfl).2.trans f_x_64) fof (hx_afS hM gqfo rfl af_qfo) hrf (hx_afS hM gqhe rfl af_qhe) udf (hx_afS hM gqju rfl af_qju) odf (hx_afS hM gqod rfl af_qod) svf af_qsv szf (hx_afS hM gqsz rfl af_qsz) gdf (hx_afS hM gqgd rfl af_qgd) owf (hx_afS hM gqow rfl af_qow) wkf (hx_afS hM gqwk rfl af_qwk) plf (hx_afS hM gqpl rfl af_qpl) rlf (hx_afS hM gqru rfl af_qru) pof (hx_afS hM gqpo rfl af_qpo) pdf (hx_afS hM gqpd rfl af_qpd) psm (hx_afS hM gqps rfl af_qps) pkf (hx_afS hM gqpk rfl af_qpk) pst (hx_afS hM gqpt rfl af_qpt) n0 ((hM.o gx trivial rfl).1.trans f_x_59) ⟨by omega, by omega⟩ ⟨by omega, by omega⟩ (A (plf i1.toInt.toNat).toInt.toNat).2.1 (fun k hk => by rw [← hl_122]; show _ = (if k < 13 then _ else 0); rw [if_pos (by omega)])) (cwV 3 hts (hx_gV kw_1641 kw_1638 kw_1640 kw_82 kw_103) rfl rfl rfl (by decide +kernel) ⟨Nat.le_of_ble_eq_true rfl, Nat.le_of_ble_eq_true rfl⟩) rfl hl.1 rfl (Nat.le_of_ble_eq_true rfl) dX10_gaol_44 ⟨Nat.le_of_ble_eq_true rfl, Nat.le_of_ble_eq_true rfl⟩) hW (fun L_13 h_14 H locs p_16 hW => ?_)
        obtain ⟨⟨w_18, w_19, w_20, w_21, w_22, fw_18, fw_19, fw_20, fw_21, fw_22, hr_17⟩, hT, hs⟩ := p_16
        replace hT : hx_T T_tb L_13 h_14 := hT
        replace hs : hx_S T_tb [(10, 67), (10, 68), (10, 69), (10, 70), (10, 71)] L_1 h_2 L_13 h_14 := hs
        replace af_qsv : h_14.2.1 qsv = svf := (funext fun j => (hs.a (gqsv.S hM) rfl j).1).trans af_qsv
        replace ex_7 := ex_7.trans (hs.a (gqsz.S hM) rfl _).1.symm
        replace ex_9 := ex_9.trans (hs.a (gqag.S hM) rfl _).1.symm
        replace ex_10 := ex_10.trans (hs.a (gqdd.S hM) rfl _).1.symm
        replace hM := hM.tr (hs.mono (by decide))
        have fw_18 : h_14.2.1 x 67 = w_18 := fw_18
        have bw_18 := hT.gi (gx.S hM) tt_10 (k := 67) rfl
        rw [fw_18] at bw_18
        have bw_18 : 0 ≤ w_18.toInt ∧ w_18.toInt ≤ 366100000 := bw_18
        have fw_19 : h_14.2.1 x 68 = w_19 := fw_19
        have bw_19 := hT.gi (gx.S hM) tt_10 (k := 68) rfl
        rw [fw_19] at bw_19
        have bw_19 : 0 ≤ w_19.toInt ∧ w_19.toInt ≤ 610000 := bw_19
        have fw_20 : h_14.2.1 x 69 = w_20 := fw_20
        have bw_20 := hT.gi (gx.S hM) tt_10 (k := 69) rfl
        rw [fw_20] at bw_20
        have bw_20 : -2147483648 ≤ w_20.toInt ∧ w_20.toInt ≤ 2147483647 := bw_20
        have fw_21 : h_14.2.1 x 70 = w_21 := fw_21
        have bw_21 := hT.gi (gx.S hM) tt_10 (k := 70) rfl
        rw [fw_21] at bw_21
        have bw_21 : -2147483648 ≤ w_21.toInt ∧ w_21.toInt ≤ 2147483647 := bw_21
        have fw_22 : h_14.2.1 x 71 = w_22 := fw_22
        have bw_22 := hT.gi (gx.S hM) tt_10 (k := 71) rfl
        rw [fw_22] at bw_22
        have bw_22 : 0 ≤ w_22.toInt ∧ w_22.toInt ≤ 8 := bw_22
        have hc9 : ((i1.toInt.toNat : Nat) : Int) = i1.toInt := by omega
        have hst9 : w_22.toInt = (hz_st (fof i1.toInt.toNat).toInt (hrf i1.toInt.toNat).toInt (udf i1.toInt.toNat).toInt (odf i1.toInt.toNat).toInt (svf i1.toInt.toNat).toInt (hz_rs (svf i1.toInt.toNat).toInt (hz_bl (odf i1.toInt.toNat).toInt (szf i1.toInt.toNat).toInt (gdf i1.toInt.toNat).toInt (owf i1.toInt.toNat).toInt ((A (plf i1.toInt.toNat).toInt.toNat).2.1 12) nw0.toInt (hx_ps pof pdf psm pkf pst nw0.toInt nw0.toInt ((i1.toInt.toNat : Nat) : Int) n0.toInt.toNat)) nw0.toInt) (hz_ms (odf i1.toInt.toNat).toInt (svf i1.toInt.toNat).toInt (wkf i1.toInt.toNat).toInt (hz_al (owf i1.toInt.toNat).toInt (szf i1.toInt.toNat).toInt ((A (plf i1.toInt.toNat).toInt.toNat).2.1 12) nw0.toInt) (hz_pdy (odf i1.toInt.toNat).toInt (szf i1.toInt.toNat).toInt (gdf i1.toInt.toNat).toInt nw0.toInt (hx_ps pof pdf psm pkf pst nw0.toInt nw0.toInt ((i1.toInt.toNat : Nat) : Int) n0.toInt.toNat)) nw0.toInt) ((A (plf i1.toInt.toNat).toInt.toNat).2.1 4) ((A (plf i1.toInt.toNat).toInt.toNat).2.1 5) nw0.toInt) := by rw [hc9]; exact hr_17.2.2.2.2
        have hrs9 : w_19.toInt = (hz_rs (svf i1.toInt.toNat).toInt (hz_bl (odf i1.toInt.toNat).toInt (szf i1.toInt.toNat).toInt (gdf i1.toInt.toNat).toInt (owf i1.toInt.toNat).toInt ((A (plf i1.toInt.toNat).toInt.toNat).2.1 12) nw0.toInt (hx_ps pof pdf psm pkf pst nw0.toInt nw0.toInt ((i1.toInt.toNat : Nat) : Int) n0.toInt.toNat)) nw0.toInt) := by rw [hc9]; exact hr_17.2.1
        refine lv_aload_n hx hb dX10_gaol_47 rfl (lv_at hl 0 rfl) ?_
        refine hk_geti hx hb hts hC_10 hown hW (gx.S hM) tt_10 71 (by decide) rfl kw_1214 ⟨rfl, rfl, rfl⟩ fw_22 dX10_gaol_48 ?_
        refine lv_bipush (v := 6) hx hb dX10_gaol_51 (by decide) ?_
        refine hb_icmp_eq (zx := w_22.toInt) (zy := 6) (tgt := 58) hx hb rfl (by decide) dX10_gaol_53 (by decide) (fun c_23 => ?_) (fun c_23 => ?_)
        · skip
          refine lv_aload_n hx hb dX10_gaol_58 rfl (lv_at hl 0 rfl) ?_
          refine hk_geti hx hb hts hC_10 hown hW (gx.S hM) tt_10 68 (by decide) rfl kw_1211 ⟨rfl, rfl, rfl⟩ fw_19 dX10_gaol_59 ?_
          refine lv_bipush (v := 11) hx hb dX10_gaol_62 (by decide) ?_
          refine lv_iadd hx hb dX10_gaol_64 ?_
          have rg_24 := i32_r w_19
          refine lv_topi (fun x_25 ex_25 => ?_)
          have zx_25 : x_25.toInt = w_19.toInt + 11 := by rw [ex_25]; exact i32_add rfl (by decide) (by omega) (by omega)
          refine lv_bipush (v := 12) hx hb dX10_gaol_65 (by decide) ?_
          refine lv_idiv hx hb dX10_gaol_67 (by decide) ?_
          refine lv_topi (fun x_26 ex_26 => ?_)
          have zx_26 : x_26.toInt = x_25.toInt / 12 := by rw [ex_26, hx_dv (by omega) (by decide)]; rfl
          have hru9 : x_26.toInt = hz_ru w_19.toInt 12 := by rw [← hz_ru12m (s := w_19.toInt) (by omega)]; omega
          refine lv_aload_n hx hb dX10_gaol_68 rfl (lv_at hl 0 rfl) ?_
          refine lv_aload_n hx hb dX10_gaol_69 rfl (lv_at hl 0 rfl) ?_
          refine hk_getr hx hb hts hC_10 hown hW (gx.S hM) tt_10 44 (by decide) rfl kw_1187 ⟨rfl, rfl, rfl⟩ ((hM.o gx trivial rfl).2.trans f_x_44) dX10_gaol_70 ?_
          refine lv_iload_n hx hb dX10_gaol_73 rfl (lv_at hl 1 rfl) ?_
          refine hx_iald hx hb hW hT (gqpl.S hM) tt_79 rfl ⟨by omega, by omega⟩ dX10_gaol_74 (fun x_27 ex_27 lx_27 ux_27 => ?_)
          have ax_27 : x_27 = plf i1.toNatClampNeg := ex_27.trans (congrFun (hx_afS hM gqpl rfl af_qpl) _)
          refine lv_bipush (v := 6) hx hb dX10_gaol_75 (by decide) ?_
          have zc_6 : (6 : Int32).toInt = 6 := by decide
          refine hx_goi (hx_runV (As := [.int x_27, .int (6 : Int32)]) (rest := [.int x_26]) ⟨hx, hb, hml, hown, hts⟩ hW (gx.S hM) tt_10 (T := TX10) (N := 98) rfl (t_X10_ruleOf_v l dC dI dA L_13 h_14 H.size x x_27 (6 : Int32) hT (gx.S hM) qru (gqru.S hM) ((hM.o gx trivial rfl).2.trans f_x_3) rlf (hx_afS hM gqru rfl af_qru) ⟨by omega, by omega⟩ (by decide)) (cwV 2 hts (hx_gV kw_1533 kw_1530 kw_1532 kw_66 kw_103) rfl rfl rfl (by decide +kernel) ⟨Nat.le_of_ble_eq_true rfl, Nat.le_of_ble_eq_true rfl⟩) rfl hl.1 rfl (Nat.le_of_ble_eq_true rfl) dX10_gaol_77 ⟨Nat.le_of_ble_eq_true rfl, Nat.le_of_ble_eq_true rfl⟩) hW (fun r_30 L_28 h_29 H locs p_31 hW => ?_)
          obtain ⟨hr_32, hT, hs⟩ := p_31
          replace hT : hx_T T_tb L_28 h_29 := hT
          replace hs : hx_S T_tb [] L_13 h_14 L_28 h_29 := hs
          replace fw_18 := (hs.o (gx.S hM) trivial rfl).1.trans fw_18
          replace fw_19 := (hs.o (gx.S hM) trivial rfl).1.trans fw_19
          replace fw_20 := (hs.o (gx.S hM) trivial rfl).1.trans fw_20
          replace fw_21 := (hs.o (gx.S hM) trivial rfl).1.trans fw_21
          replace fw_22 := (hs.o (gx.S hM) trivial rfl).1.trans fw_22
          replace af_qsv : h_29.2.1 qsv = svf := (funext fun j => (hs.a (gqsv.S hM) rfl j).1).trans af_qsv
          replace ex_7 := ex_7.trans (hs.a (gqsz.S hM) rfl _).1.symm
          replace ex_9 := ex_9.trans (hs.a (gqag.S hM) rfl _).1.symm
          replace ex_10 := ex_10.trans (hs.a (gqdd.S hM) rfl _).1.symm
          replace ex_27 := ex_27.trans (hs.a (gqpl.S hM) rfl _).1.symm
          replace hM := hM.tr (hs.mono (by decide))
          have hl_33p := hPL i1.toInt (by omega) (by omega)
          obtain ⟨_, hl_332, _⟩ := hCA.2 (plf i1.toInt.toNat).toInt.toNat (by omega)
          have hg7 : r_30.toInt = (A (plf i1.toInt.toNat).toInt.toNat).2.1 6 := by rw [hr_32.1, ax_27, show (6 : Int32).toInt.toNat = 6 from by decide, ← hl_332]; show _ = (if 6 < 13 then _ else 0); rw [if_pos (by decide)]; try rfl
          refine lv_imul hx hb dX10_gaol_80 ?_
          refine lv_topi (fun x_34 ex_34 => ?_)
          have mx_34 : x_26.toInt = 0 → x_34.toInt = 0 := fun z => by rw [ex_34]; exact hx_mul0 z
          obtain ⟨m9, m9l, m9h⟩ := hz_mulg ⟨by omega, by omega⟩ ⟨by omega, by omega⟩ ex_34
          refine lv_istore_n (lv' := [(2, .int x_34), (0, .ref x), (1, .int i1)]) hx hb dX10_gaol_81 rfl hl (by decide) rfl (fun ls hl => ?_)
          refine lv_aload_n hx hb dX10_gaol_82 rfl (lv_at hl 1 rfl) ?_
          refine hk_getr hx hb hts hC_10 hown hW (gx.S hM) tt_10 50 (by decide) rfl kw_1193 ⟨rfl, rfl, rfl⟩ ((hM.o gx trivial rfl).2.trans f_x_50) dX10_gaol_83 ?_
          refine lv_iload_n hx hb dX10_gaol_86 rfl (lv_at hl 2 rfl) ?_
          refine lv_aload_n hx hb dX10_gaol_87 rfl (lv_at hl 1 rfl) ?_
          refine hk_geti hx hb hts hC_10 hown hW (gx.S hM) tt_10 0 (by decide) rfl kw_1143 ⟨rfl, rfl, rfl⟩ ((hM.o gx trivial rfl).1.trans f_x_0) dX10_gaol_88 ?_
          have af_qsvO := af_qsv
          refine hx_iast hx hb hW hT (hx_S.rf (M := [(85, 0)])) (gqsv.S hM) tt_85 rfl ⟨by omega, by omega⟩ rfl ⟨by omega, by omega⟩ (List.mem_singleton.mpr rfl) dX10_gaol_91 (fun H locs h_35 eh_35 hW hT hs => ?_)
          replace fw_18 := (hs.o (gx.S hM) trivial rfl).1.trans fw_18
          replace fw_19 := (hs.o (gx.S hM) trivial rfl).1.trans fw_19
          replace fw_20 := (hs.o (gx.S hM) trivial rfl).1.trans fw_20
          replace fw_21 := (hs.o (gx.S hM) trivial rfl).1.trans fw_21
          replace fw_22 := (hs.o (gx.S hM) trivial rfl).1.trans fw_22
          replace ex_7 := ex_7.trans (hs.a (gqsz.S hM) rfl _).1.symm
          replace ex_9 := ex_9.trans (hs.a (gqag.S hM) rfl _).1.symm
          replace ex_10 := ex_10.trans (hs.a (gqdd.S hM) rfl _).1.symm
          replace ex_27 := ex_27.trans (hs.a (gqpl.S hM) rfl _).1.symm
          replace hM := hM.tr (hs.mono (by decide))
          obtain ⟨fa_36, dfa_36⟩ : ∃ g : Nat → Int32, g = hx_up svf i1.toNatClampNeg nw0 := ⟨_, rfl⟩
          have nfa_36 : h_35.2.1 qsv = fa_36 := by rw [eh_35, dfa_36, ← af_qsvO]; exact hx_pi_fun _ _ _ _
          refine lv_iload_n hx hb dX10_gaol_92 rfl (lv_at hl 0 rfl) ?_
          refine lv_aload_n hx hb dX10_gaol_93 rfl (lv_at hl 1 rfl) ?_
          refine lv_aload_n hx hb dX10_gaol_94 rfl (lv_at hl 1 rfl) ?_
          refine hk_getr hx hb hts hC_10 hown hW (gx.S hM) tt_10 44 (by decide) rfl kw_1187 ⟨rfl, rfl, rfl⟩ ((hM.o gx trivial rfl).2.trans f_x_44) dX10_gaol_95 ?_
          refine lv_iload_n hx hb dX10_gaol_98 rfl (lv_at hl 2 rfl) ?_
          refine hx_iald hx hb hW hT (gqpl.S hM) tt_79 rfl ⟨by omega, by omega⟩ dX10_gaol_99 (fun x_37 ex_37 lx_37 ux_37 => ?_)
          have ax_37 : x_37 = plf i1.toNatClampNeg := ex_37.trans (congrFun (hx_afS hM gqpl rfl af_qpl) _)
          obtain rfl : x_27 = x_37 := ex_27.trans ex_37.symm
          refine lv_bipush (v := 7) hx hb dX10_gaol_100 (by decide) ?_
          have zc_7 : (7 : Int32).toInt = 7 := by decide
          refine hx_goi (hx_runV (As := [.int x_27, .int (7 : Int32)]) (rest := [.int x_34]) ⟨hx, hb, hml, hown, hts⟩ hW (gx.S hM) tt_10 (T := TX10) (N := 98) rfl (t_X10_ruleOf_v l dC dI dA L_28 h_35 H.size x x_27 (7 : Int32) hT (gx.S hM) qru (gqru.S hM) ((hM.o gx trivial rfl).2.trans f_x_3) rlf (hx_afS hM gqru rfl af_qru) ⟨by omega, by omega⟩ (by decide)) (cwV 2 hts (hx_gV kw_1533 kw_1530 kw_1532 kw_66 kw_103) rfl rfl rfl (by decide +kernel) ⟨Nat.le_of_ble_eq_true rfl, Nat.le_of_ble_eq_true rfl⟩) rfl hl.1 rfl (Nat.le_of_ble_eq_true rfl) dX10_gaol_102 ⟨Nat.le_of_ble_eq_true rfl, Nat.le_of_ble_eq_true rfl⟩) hW (fun r_40 L_38 h_39 H locs p_41 hW => ?_)
          obtain ⟨hr_42, hT, hs⟩ := p_41
          replace hT : hx_T T_tb L_38 h_39 := hT
          replace hs : hx_S T_tb [] L_28 h_35 L_38 h_39 := hs
          replace fw_18 := (hs.o (gx.S hM) trivial rfl).1.trans fw_18
          replace fw_19 := (hs.o (gx.S hM) trivial rfl).1.trans fw_19
          replace fw_20 := (hs.o (gx.S hM) trivial rfl).1.trans fw_20
          replace fw_21 := (hs.o (gx.S hM) trivial rfl).1.trans fw_21
          replace fw_22 := (hs.o (gx.S hM) trivial rfl).1.trans fw_22
          replace nfa_36 : h_39.2.1 qsv = fa_36 := (funext fun j => (hs.a (gqsv.S hM) rfl j).1).trans nfa_36
          replace ex_7 := ex_7.trans (hs.a (gqsz.S hM) rfl _).1.symm
          replace ex_9 := ex_9.trans (hs.a (gqag.S hM) rfl _).1.symm
          replace ex_10 := ex_10.trans (hs.a (gqdd.S hM) rfl _).1.symm
          replace ex_27 := ex_27.trans (hs.a (gqpl.S hM) rfl _).1.symm
          replace hM := hM.tr (hs.mono (by decide))
          have hg8 : r_40.toInt = (A (plf i1.toInt.toNat).toInt.toNat).2.1 7 := by rw [hr_42.1, ax_27, show (7 : Int32).toInt.toNat = 7 from by decide, ← hl_332]; show _ = (if 7 < 13 then _ else 0); rw [if_pos (by decide)]; try rfl
          refine hb_icmp_ge (zx := x_34.toInt) (zy := r_40.toInt) (tgt := 112) hx hb rfl rfl dX10_gaol_105 (by decide) (fun c_44 => ?_) (fun c_44 => ?_)
          · skip
            refine lv_aload_n hx hb dX10_gaol_112 rfl (lv_at hl 1 rfl) ?_
            refine lv_aload_n hx hb dX10_gaol_113 rfl (lv_at hl 1 rfl) ?_
            refine hk_getr hx hb hts hC_10 hown hW (gx.S hM) tt_10 44 (by decide) rfl kw_1187 ⟨rfl, rfl, rfl⟩ ((hM.o gx trivial rfl).2.trans f_x_44) dX10_gaol_114 ?_
            refine lv_iload_n hx hb dX10_gaol_117 rfl (lv_at hl 2 rfl) ?_
            refine hx_iald hx hb hW hT (gqpl.S hM) tt_79 rfl ⟨by omega, by omega⟩ dX10_gaol_118 (fun x_45 ex_45 lx_45 ux_45 => ?_)
            have ax_45 : x_45 = plf i1.toNatClampNeg := ex_45.trans (congrFun (hx_afS hM gqpl rfl af_qpl) _)
            obtain rfl : x_27 = x_45 := ex_27.trans ex_45.symm
            refine lv_bipush (v := 7) hx hb dX10_gaol_119 (by decide) ?_
            refine hx_goi (hx_runV (As := [.int x_27, .int (7 : Int32)]) (rest := []) ⟨hx, hb, hml, hown, hts⟩ hW (gx.S hM) tt_10 (T := TX10) (N := 98) rfl (t_X10_ruleOf_v l dC dI dA L_38 h_39 H.size x x_27 (7 : Int32) hT (gx.S hM) qru (gqru.S hM) ((hM.o gx trivial rfl).2.trans f_x_3) rlf (hx_afS hM gqru rfl af_qru) ⟨by omega, by omega⟩ (by decide)) (cwV 2 hts (hx_gV kw_1533 kw_1530 kw_1532 kw_66 kw_103) rfl rfl rfl (by decide +kernel) ⟨Nat.le_of_ble_eq_true rfl, Nat.le_of_ble_eq_true rfl⟩) rfl hl.1 rfl (Nat.le_of_ble_eq_true rfl) dX10_gaol_121 ⟨Nat.le_of_ble_eq_true rfl, Nat.le_of_ble_eq_true rfl⟩) hW (fun r_48 L_46 h_47 H locs p_49 hW => ?_)
            obtain ⟨hr_50, hT, hs⟩ := p_49
            replace hT : hx_T T_tb L_46 h_47 := hT
            replace hs : hx_S T_tb [] L_38 h_39 L_46 h_47 := hs
            replace fw_18 := (hs.o (gx.S hM) trivial rfl).1.trans fw_18
            replace fw_19 := (hs.o (gx.S hM) trivial rfl).1.trans fw_19
            replace fw_20 := (hs.o (gx.S hM) trivial rfl).1.trans fw_20
            replace fw_21 := (hs.o (gx.S hM) trivial rfl).1.trans fw_21
            replace fw_22 := (hs.o (gx.S hM) trivial rfl).1.trans fw_22
            replace nfa_36 : h_47.2.1 qsv = fa_36 := (funext fun j => (hs.a (gqsv.S hM) rfl j).1).trans nfa_36
            replace ex_7 := ex_7.trans (hs.a (gqsz.S hM) rfl _).1.symm
            replace ex_9 := ex_9.trans (hs.a (gqag.S hM) rfl _).1.symm
            replace ex_10 := ex_10.trans (hs.a (gqdd.S hM) rfl _).1.symm
            replace ex_27 := ex_27.trans (hs.a (gqpl.S hM) rfl _).1.symm
            replace hM := hM.tr (hs.mono (by decide))
            have hg8 : r_48.toInt = (A (plf i1.toInt.toNat).toInt.toNat).2.1 7 := by rw [hr_50.1, ax_27, show (7 : Int32).toInt.toNat = 7 from by decide, ← hl_332]; show _ = (if 7 < 13 then _ else 0); rw [if_pos (by decide)]; try rfl
            exact hx_reti hx hb hr hlk hW ⟨⟨fa_36, nfa_36, (Or.inr ⟨⟨⟨by omega, by omega⟩, (by rw [show szf i1.toInt.toNat = x_7 from ax_7.symm]; omega), (by rw [← cdd9]; omega), (by rw [← hst9]; omega)⟩, (by rw [← hrs9, ← hru9, ← hg7, ← m9, ← hg8]; unfold hz_mi; split <;> omega), dfa_36⟩)⟩, hT, hM⟩ dX10_gaol_124
          · skip
            refine lv_iload_n hx hb dX10_gaol_108 rfl (lv_at hl 0 rfl) ?_
            refine lv_goto (tgt := 124) hx hb dX10_gaol_109 (by decide) ?_
            have hg8 : r_40.toInt = (A (plf i1.toInt.toNat).toInt.toNat).2.1 7 := by rw [hr_42.1, ax_27, show (7 : Int32).toInt.toNat = 7 from by decide, ← hl_332]; show _ = (if 7 < 13 then _ else 0); rw [if_pos (by decide)]; try rfl
            exact hx_reti hx hb hr hlk hW ⟨⟨fa_36, nfa_36, (Or.inr ⟨⟨⟨by omega, by omega⟩, (by rw [show szf i1.toInt.toNat = x_7 from ax_7.symm]; omega), (by rw [← cdd9]; omega), (by rw [← hst9]; omega)⟩, (by rw [← hrs9, ← hru9, ← hg7, ← m9, ← hg8]; unfold hz_mi; split <;> omega), dfa_36⟩)⟩, hT, hM⟩ dX10_gaol_124
        · skip
          refine lv_iconst (v := -1) hx hb dX10_gaol_56 (by decide) ?_
          exact hx_reti hx hb hr hlk hW ⟨⟨svf, af_qsv, (Or.inl ⟨(fun hc => by have h1 := hc.2.2.2; rw [← hst9] at h1; omega), by decide, rfl⟩)⟩, hT, hM⟩ dX10_gaol_57
      · skip
        refine lv_iconst (v := -1) hx hb dX10_gaol_32 (by decide) ?_
        exact hx_reti hx hb hr hlk hW ⟨⟨svf, af_qsv, (Or.inl ⟨(fun hc => by have h1 := hc.2.2.1; rw [← cdd9] at h1; omega), by decide, rfl⟩)⟩, hT, hM⟩ dX10_gaol_33


set_option maxHeartbeats 4000000 in
set_option maxRecDepth 100000 in
theorem t_X10_state_v (l : Launch) (dC : Nat → ClassId) (dI : Nat → Nat → Nat) (dA : Nat → ClassId) (L : List Nat) (h : hx_h) (sz : Nat) (x : Nat) (i1 : Int32) (i2 : Int32) (i3 : Int32) (i4 : Int32) (hT : hx_T T_tb L h) (gx : hx_g L h x 10) (qfo : Nat) (gqfo : hx_g L h qfo 81) (f_x_46 : h.2.2 x 46 = some qfo) (qhe : Nat) (gqhe : hx_g L h qhe 82) (f_x_47 : h.2.2 x 47 = some qhe) (qju : Nat) (gqju : hx_g L h qju 86) (f_x_51 : h.2.2 x 51 = some qju) (qod : Nat) (gqod : hx_g L h qod 83) (f_x_48 : h.2.2 x 48 = some qod) (qsv : Nat) (gqsv : hx_g L h qsv 85) (f_x_50 : h.2.2 x 50 = some qsv) (qsz : Nat) (gqsz : hx_g L h qsz 84) (f_x_49 : h.2.2 x 49 = some qsz) (qgd : Nat) (gqgd : hx_g L h qgd 91) (f_x_56 : h.2.2 x 56 = some qgd) (qow : Nat) (gqow : hx_g L h qow 90) (f_x_55 : h.2.2 x 55 = some qow) (qwk : Nat) (gqwk : hx_g L h qwk 89) (f_x_54 : h.2.2 x 54 = some qwk) (qpl : Nat) (gqpl : hx_g L h qpl 79) (f_x_44 : h.2.2 x 44 = some qpl) (qru : Nat) (gqru : hx_g L h qru 50) (f_x_3 : h.2.2 x 3 = some qru) (qpo : Nat) (gqpo : hx_g L h qpo 93) (f_x_60 : h.2.2 x 60 = some qpo) (qpd : Nat) (gqpd : hx_g L h qpd 94) (f_x_61 : h.2.2 x 61 = some qpd) (qps : Nat) (gqps : hx_g L h qps 95) (f_x_62 : h.2.2 x 62 = some qps) (qpk : Nat) (gqpk : hx_g L h qpk 96) (f_x_63 : h.2.2 x 63 = some qpk) (qpt : Nat) (gqpt : hx_g L h qpt 97) (f_x_64 : h.2.2 x 64 = some qpt) (qfl : Nat) (gqfl : hx_g L h qfl 78) (f_x_43 : h.2.2 x 43 = some qfl) (fof : Nat → Int32) (af_qfo : h.2.1 qfo = fof) (hrf : Nat → Int32) (af_qhe : h.2.1 qhe = hrf) (udf : Nat → Int32) (af_qju : h.2.1 qju = udf) (odf : Nat → Int32) (af_qod : h.2.1 qod = odf) (svf : Nat → Int32) (af_qsv : h.2.1 qsv = svf) (szf : Nat → Int32) (af_qsz : h.2.1 qsz = szf) (gdf : Nat → Int32) (af_qgd : h.2.1 qgd = gdf) (owf : Nat → Int32) (af_qow : h.2.1 qow = owf) (wkf : Nat → Int32) (af_qwk : h.2.1 qwk = wkf) (plf : Nat → Int32) (af_qpl : h.2.1 qpl = plf) (rlf : Nat → Int32) (af_qru : h.2.1 qru = rlf) (pof : Nat → Int32) (af_qpo : h.2.1 qpo = pof) (pdf : Nat → Int32) (af_qpd : h.2.1 qpd = pdf) (psm : Nat → Int32) (af_qps : h.2.1 qps = psm) (pkf : Nat → Int32) (af_qpk : h.2.1 qpk = pkf) (pst : Nat → Int32) (af_qpt : h.2.1 qpt = pst) (flf : Nat → Int32) (af_qfl : h.2.1 qfl = flf) (c0 : Int32) (f_x_36 : h.2.1 x 36 = c0) (a0 : Int32) (f_x_1 : h.2.1 x 1 = a0) (nw0 : Int32) (f_x_0 : h.2.1 x 0 = nw0) (n0 : Int32) (f_x_59 : h.2.1 x 59 = n0) (adf psf prf : Nat → Int32) (A : Nat → hv_act) (hCA : hv_CA adf rlf psf prf a0.toInt A) (hPL : hx_PL plf c0.toInt a0.toInt) : Met l yX10_state (Cond.code yX10_state cX10_state 5 (some .int) :: hx_all) ({ frames := 2, cells := 0, slots := 0, locals := 50 }) (va_Pc [.ref x, .int i1, .int i2, .int i3, .int i4] (hx_B T_tb (P_ty dA) (dC, dI) vwCl L h sz)) (va_Qi (fun (r : Int32) (u : List Nat × hx_h) => (hz_SA c0.toInt i1.toInt i2.toInt i3.toInt i4.toInt (flf i1.toInt.toNat).toInt (hz_st (fof i1.toInt.toNat).toInt (hrf i1.toInt.toNat).toInt (udf i1.toInt.toNat).toInt (odf i1.toInt.toNat).toInt (svf i1.toInt.toNat).toInt (hz_rs (svf i1.toInt.toNat).toInt (hz_bl (odf i1.toInt.toNat).toInt (szf i1.toInt.toNat).toInt (gdf i1.toInt.toNat).toInt (owf i1.toInt.toNat).toInt ((A (plf i1.toInt.toNat).toInt.toNat).2.1 12) i2.toInt (hx_ps pof pdf psm pkf pst i2.toInt i3.toInt ((i1.toInt.toNat : Nat) : Int) n0.toInt.toNat)) i2.toInt) (hz_ms (odf i1.toInt.toNat).toInt (svf i1.toInt.toNat).toInt (wkf i1.toInt.toNat).toInt (hz_al (owf i1.toInt.toNat).toInt (szf i1.toInt.toNat).toInt ((A (plf i1.toInt.toNat).toInt.toNat).2.1 12) i2.toInt) (hz_pdy (odf i1.toInt.toNat).toInt (szf i1.toInt.toNat).toInt (gdf i1.toInt.toNat).toInt i2.toInt (hx_ps pof pdf psm pkf pst i2.toInt i3.toInt ((i1.toInt.toNat : Nat) : Int) n0.toInt.toNat)) i2.toInt) ((A (plf i1.toInt.toNat).toInt.toNat).2.1 4) ((A (plf i1.toInt.toNat).toInt.toNat).2.1 5) i2.toInt) (hz_rs (svf i1.toInt.toNat).toInt (hz_bl (odf i1.toInt.toNat).toInt (szf i1.toInt.toNat).toInt (gdf i1.toInt.toNat).toInt (owf i1.toInt.toNat).toInt ((A (plf i1.toInt.toNat).toInt.toNat).2.1 12) i2.toInt (hx_ps pof pdf psm pkf pst i2.toInt i3.toInt ((i1.toInt.toNat : Nat) : Int) n0.toInt.toNat)) i2.toInt) (hz_ms (odf i1.toInt.toNat).toInt (svf i1.toInt.toNat).toInt (wkf i1.toInt.toNat).toInt (hz_al (owf i1.toInt.toNat).toInt (szf i1.toInt.toNat).toInt ((A (plf i1.toInt.toNat).toInt.toNat).2.1 12) i2.toInt) (hz_pdy (odf i1.toInt.toNat).toInt (szf i1.toInt.toNat).toInt (gdf i1.toInt.toNat).toInt i2.toInt (hx_ps pof pdf psm pkf pst i2.toInt i3.toInt ((i1.toInt.toNat : Nat) : Int) n0.toInt.toNat)) i2.toInt) (hz_pdy (odf i1.toInt.toNat).toInt (szf i1.toInt.toNat).toInt (gdf i1.toInt.toNat).toInt i2.toInt (hx_ps pof pdf psm pkf pst i2.toInt i3.toInt ((i1.toInt.toNat : Nat) : Int) n0.toInt.toNat)) (hz_ov (svf i1.toInt.toNat).toInt (hz_bl (odf i1.toInt.toNat).toInt (szf i1.toInt.toNat).toInt (gdf i1.toInt.toNat).toInt (owf i1.toInt.toNat).toInt ((A (plf i1.toInt.toNat).toInt.toNat).2.1 12) i2.toInt (hx_ps pof pdf psm pkf pst i2.toInt i3.toInt ((i1.toInt.toNat : Nat) : Int) n0.toInt.toNat)) i2.toInt) r.toInt) ∧ hx_T T_tb u.1 u.2 ∧ hx_S T_tb [(10, 67), (10, 68), (10, 69), (10, 70), (10, 71)] L h u.1 u.2) (hx_E T_tb (P_ty dA) (dC, dI) vwCl (hx_A L sz)) (hx_A L sz)) 0 0 (hx_A L sz) := by
  refine hx_met (lv := [(0, .ref x), (1, .int i1), (2, .int i2), (3, .int i3), (4, .int i4)]) (by decide +kernel) rfl (Nat.le_of_ble_eq_true rfl) rfl ?_
  intro p e s m below meth c hx hb hml hr hlk hts0 hown hin hsz hW ls hl
  have hts : ∀ w ∈ hx_all, w.before _ s = true := fun w hw => hts0 w (List.mem_cons_of_mem _ hw)
  have hown : s.vm.findClass "SmallCourtModel" = some m.cls := hown
  have hM : hx_S T_tb [(10, 67), (10, 68), (10, 69), (10, 70), (10, 71)] L h L h := hx_S.rf
  have b_c0 := hT.gi gx tt_10 (k := 36) rfl
  rw [f_x_36] at b_c0
  have b_c0 : 0 ≤ c0.toInt ∧ c0.toInt ≤ 100 := b_c0
  have b_a0 := hT.gi gx tt_10 (k := 1) rfl
  rw [f_x_1] at b_a0
  have b_a0 : 0 ≤ a0.toInt ∧ a0.toInt ≤ 8 := b_a0
  have b_nw0 := hT.gi gx tt_10 (k := 0) rfl
  rw [f_x_0] at b_nw0
  have b_nw0 : 0 ≤ nw0.toInt ∧ nw0.toInt ≤ 7999 := b_nw0
  have b_n0 := hT.gi gx tt_10 (k := 59) rfl
  rw [f_x_59] at b_n0
  have b_n0 : 0 ≤ n0.toInt ∧ n0.toInt ≤ 600 := b_n0
  refine lv_aload_n hx hb dX10_state_0 rfl (lv_at hl 0 rfl) ?_
  refine lv_iload_n hx hb dX10_state_1 rfl (lv_at hl 1 rfl) ?_
  refine hx_goi (hx_runV (As := [.int i1]) (rest := []) ⟨hx, hb, hml, hown, hts⟩ hW (gx.S hM) tt_10 (T := TX10) (N := 98) rfl (t_X10_isClaim l dC dI dA L h s.heap.size x i1 hT (gx.S hM) c0 ((hM.o gx trivial rfl).1.trans f_x_36)) (cwV 1 hts (hx_gV kw_1597 kw_1594 kw_1596 kw_73 kw_103) rfl rfl rfl (by decide +kernel) ⟨Nat.le_of_ble_eq_true rfl, Nat.le_of_ble_eq_true rfl⟩) rfl hl.1 rfl (Nat.le_of_ble_eq_true rfl) dX10_state_2 ⟨Nat.le_of_ble_eq_true rfl, Nat.le_of_ble_eq_true rfl⟩) hW (fun r_3 L_1 h_2 H locs p_4 hW => ?_)
  obtain ⟨hr_5, hT, hs⟩ := p_4
  replace hT : hx_T T_tb L_1 h_2 := hT
  replace hs : hx_S T_tb [] L h L_1 h_2 := hs
  replace hM := hM.tr (hs.mono (by decide))
  refine hb_if_eq (zx := r_3.toInt) (tgt := 40) hx hb rfl dX10_state_5 (by decide) (fun c_6 => ?_) (fun c_6 => ?_)
  · skip
    replace hr_5 := hr_5.resolve_right (fun z9 => absurd (c_6.symm.trans z9.1) (by decide))
    replace hr_5 := hr_5.2
    refine lv_iconst (v := -1) hx hb dX10_state_40 (by decide) ?_
    exact hx_reti hx hb hr hlk hW ⟨(Or.inl ⟨(fun hc => by have h1 := hc.1; omega), by decide⟩), hT, hM⟩ dX10_state_41
  · skip
    replace hr_5 := hr_5.resolve_left (fun z9 => c_6 z9.1)
    replace c_6 := hr_5.1
    replace hr_5 := hr_5.2
    refine lv_iload_n hx hb dX10_state_8 rfl (lv_at hl 2 rfl) ?_
    refine lv_aload_n hx hb dX10_state_9 rfl (lv_at hl 0 rfl) ?_
    refine hk_getr hx hb hts hC_10 hown hW (gx.S hM) tt_10 43 (by decide) rfl kw_1186 ⟨rfl, rfl, rfl⟩ ((hM.o gx trivial rfl).2.trans f_x_43) dX10_state_10 ?_
    refine lv_iload_n hx hb dX10_state_13 rfl (lv_at hl 1 rfl) ?_
    refine hx_iald hx hb hW hT (gqfl.S hM) tt_78 rfl ⟨by omega, by omega⟩ dX10_state_14 (fun x_7 ex_7 lx_7 ux_7 => ?_)
    have ax_7 : x_7 = flf i1.toNatClampNeg := ex_7.trans (congrFun (hx_afS hM gqfl rfl af_qfl) _)
    refine lv_sipush (v := 7999) hx hb dX10_state_15 (by decide) ?_
    have zc_7999 : (7999 : Int32).toInt = 7999 := by decide
    refine hx_goi (hx_runS (As := [.int i2, .int x_7, .int (7999 : Int32)]) (rest := []) ⟨hx, hb, hml, hown, hts⟩ hW (t_X10_in l dC dI dA L_1 h_2 H.size i2 x_7 (7999 : Int32) hT) (va_cwS 3 hts (hx_gS kw_1445 kw_1443 kw_1444 kw_103) rfl rfl rfl (by decide +kernel) ⟨Nat.le_of_ble_eq_true rfl, Nat.le_of_ble_eq_true rfl⟩) rfl hl.1 rfl (Nat.le_of_ble_eq_true rfl) dX10_state_18 ⟨Nat.le_of_ble_eq_true rfl, Nat.le_of_ble_eq_true rfl⟩) hW (fun r_10 L_8 h_9 H locs p_11 hW => ?_)
    obtain ⟨hr_12, hT, hs⟩ := p_11
    replace hT : hx_T T_tb L_8 h_9 := hT
    replace hs : hx_S T_tb [] L_1 h_2 L_8 h_9 := hs
    replace ex_7 := ex_7.trans (hs.a (gqfl.S hM) rfl _).1.symm
    replace hM := hM.tr (hs.mono (by decide))
    refine hb_if_eq (zx := r_10.toInt) (tgt := 40) hx hb rfl dX10_state_21 (by decide) (fun c_13 => ?_) (fun c_13 => ?_)
    · skip
      replace hr_12 := hr_12.resolve_right (fun z9 => absurd (c_13.symm.trans z9.1) (by decide))
      replace hr_12 := hr_12.2
      refine lv_iconst (v := -1) hx hb dX10_state_40 (by decide) ?_
      exact hx_reti hx hb hr hlk hW ⟨(Or.inl ⟨(fun hc => by have h1 := hc.2; rw [show flf i1.toInt.toNat = x_7 from ax_7.symm] at h1; omega), by decide⟩), hT, hM⟩ dX10_state_41
    · skip
      replace hr_12 := hr_12.resolve_left (fun z9 => c_13 z9.1)
      replace c_13 := hr_12.1
      replace hr_12 := hr_12.2
      refine lv_iload_n hx hb dX10_state_24 rfl (lv_at hl 3 rfl) ?_
      refine lv_aload_n hx hb dX10_state_25 rfl (lv_at hl 0 rfl) ?_
      refine hk_getr hx hb hts hC_10 hown hW (gx.S hM) tt_10 43 (by decide) rfl kw_1186 ⟨rfl, rfl, rfl⟩ ((hM.o gx trivial rfl).2.trans f_x_43) dX10_state_26 ?_
      refine lv_iload_n hx hb dX10_state_29 rfl (lv_at hl 1 rfl) ?_
      refine hx_iald hx hb hW hT (gqfl.S hM) tt_78 rfl ⟨by omega, by omega⟩ dX10_state_30 (fun x_14 ex_14 lx_14 ux_14 => ?_)
      have ax_14 : x_14 = flf i1.toNatClampNeg := ex_14.trans (congrFun (hx_afS hM gqfl rfl af_qfl) _)
      obtain rfl : x_7 = x_14 := ex_7.trans ex_14.symm
      refine lv_sipush (v := 7999) hx hb dX10_state_31 (by decide) ?_
      refine hx_goi (hx_runS (As := [.int i3, .int x_7, .int (7999 : Int32)]) (rest := []) ⟨hx, hb, hml, hown, hts⟩ hW (t_X10_in l dC dI dA L_8 h_9 H.size i3 x_7 (7999 : Int32) hT) (va_cwS 3 hts (hx_gS kw_1445 kw_1443 kw_1444 kw_103) rfl rfl rfl (by decide +kernel) ⟨Nat.le_of_ble_eq_true rfl, Nat.le_of_ble_eq_true rfl⟩) rfl hl.1 rfl (Nat.le_of_ble_eq_true rfl) dX10_state_34 ⟨Nat.le_of_ble_eq_true rfl, Nat.le_of_ble_eq_true rfl⟩) hW (fun r_17 L_15 h_16 H locs p_18 hW => ?_)
      obtain ⟨hr_19, hT, hs⟩ := p_18
      replace hT : hx_T T_tb L_15 h_16 := hT
      replace hs : hx_S T_tb [] L_8 h_9 L_15 h_16 := hs
      replace ex_7 := ex_7.trans (hs.a (gqfl.S hM) rfl _).1.symm
      replace hM := hM.tr (hs.mono (by decide))
      refine hb_if_ne (zx := r_17.toInt) (tgt := 42) hx hb rfl dX10_state_37 (by decide) (fun c_20 => ?_) (fun c_20 => ?_)
      · skip
        replace hr_19 := hr_19.resolve_left (fun z9 => c_20 z9.1)
        replace c_20 := hr_19.1
        replace hr_19 := hr_19.2
        refine lv_aload_n hx hb dX10_state_42 rfl (lv_at hl 0 rfl) ?_
        refine lv_iload_n hx hb dX10_state_43 rfl (lv_at hl 1 rfl) ?_
        refine lv_iload_n hx hb dX10_state_44 rfl (lv_at hl 2 rfl) ?_
        refine lv_iload_n hx hb dX10_state_45 rfl (lv_at hl 3 rfl) ?_
        have hl_21p := hPL i1.toInt (by omega) (by omega)
        obtain ⟨_, hl_212, _⟩ := hCA.2 (plf i1.toInt.toNat).toInt.toNat (by omega)
        refine hx_gov (hx_runV (As := [.int i1, .int i2, .int i3]) (rest := []) ⟨hx, hb, hml, hown, hts⟩ hW (gx.S hM) tt_10 (T := TX10) (N := 98) rfl (t_X10_looks_v l dC dI dA L_15 h_16 H.size x i1 i2 i3 hT (gx.S hM) qfo (gqfo.S hM) ((hM.o gx trivial rfl).2.trans f_x_46) qhe (gqhe.S hM) ((hM.o gx trivial rfl).2.trans f_x_47) qju (gqju.S hM) ((hM.o gx trivial rfl).2.trans f_x_51) qod (gqod.S hM) ((hM.o gx trivial rfl).2.trans f_x_48) qsv (gqsv.S hM) ((hM.o gx trivial rfl).2.trans f_x_50) qsz (gqsz.S hM) ((hM.o gx trivial rfl).2.trans f_x_49) qgd (gqgd.S hM) ((hM.o gx trivial rfl).2.trans f_x_56) qow (gqow.S hM) ((hM.o gx trivial rfl).2.trans f_x_55) qwk (gqwk.S hM) ((hM.o gx trivial rfl).2.trans f_x_54) qpl (gqpl.S hM) ((hM.o gx trivial rfl).2.trans f_x_44) qru (gqru.S hM) ((hM.o gx trivial rfl).2.trans f_x_3) qpo (gqpo.S hM) ((hM.o gx trivial rfl).2.trans f_x_60) qpd (gqpd.S hM) ((hM.o gx trivial rfl).2.trans f_x_61) qps (gqps.S hM) ((hM.o gx trivial rfl).2.trans f_x_62) qpk (gqpk.S hM) ((hM.o gx trivial rfl).2.trans f_x_63) qpt (gqpt.S hM) ((hM.o gx trivial rfl).2.trans f_x_64) fof (hx_afS hM gqfo rfl af_qfo) hrf (hx_afS hM gqhe rfl af_qhe) udf (hx_afS hM gqju rfl af_qju) odf (hx_afS hM gqod rfl af_qod) svf (hx_afS hM gqsv rfl af_qsv) szf (hx_afS hM gqsz rfl af_qsz) gdf (hx_afS hM gqgd rfl af_qgd) owf (hx_afS hM gqow rfl af_qow) wkf (hx_afS hM gqwk rfl af_qwk) plf (hx_afS hM gqpl rfl af_qpl) rlf (hx_afS hM gqru rfl af_qru) pof (hx_afS hM gqpo rfl af_qpo) pdf (hx_afS hM gqpd rfl af_qpd) psm (hx_afS hM gqps rfl af_qps) pkf (hx_afS hM gqpk rfl af_qpk) pst (hx_afS hM gqpt rfl af_qpt) n0 ((hM.o gx trivial rfl).1.trans f_x_59) ⟨by omega, by omega⟩ ⟨by omega, by omega⟩ (A (plf i1.toInt.toNat).toInt.toNat).2.1 (fun k hk => by rw [← hl_212]; show _ = (if k < 13 then _ else 0); rw [if_pos (by omega)])) (cwV 3 hts (hx_gV kw_1641 kw_1638 kw_1640 kw_82 kw_103) rfl rfl rfl (by decide +kernel) ⟨Nat.le_of_ble_eq_true rfl, Nat.le_of_ble_eq_true rfl⟩) rfl hl.1 rfl (Nat.le_of_ble_eq_true rfl) dX10_state_46 ⟨Nat.le_of_ble_eq_true rfl, Nat.le_of_ble_eq_true rfl⟩) hW (fun L_22 h_23 H locs p_25 hW => ?_)
        obtain ⟨⟨w_27, w_28, w_29, w_30, w_31, fw_27, fw_28, fw_29, fw_30, fw_31, hr_26⟩, hT, hs⟩ := p_25
        replace hT : hx_T T_tb L_22 h_23 := hT
        replace hs : hx_S T_tb [(10, 67), (10, 68), (10, 69), (10, 70), (10, 71)] L_15 h_16 L_22 h_23 := hs
        replace ex_7 := ex_7.trans (hs.a (gqfl.S hM) rfl _).1.symm
        replace hM := hM.tr (hs.mono (by decide))
        have fw_27 : h_23.2.1 x 67 = w_27 := fw_27
        have bw_27 := hT.gi (gx.S hM) tt_10 (k := 67) rfl
        rw [fw_27] at bw_27
        have bw_27 : 0 ≤ w_27.toInt ∧ w_27.toInt ≤ 366100000 := bw_27
        have fw_28 : h_23.2.1 x 68 = w_28 := fw_28
        have bw_28 := hT.gi (gx.S hM) tt_10 (k := 68) rfl
        rw [fw_28] at bw_28
        have bw_28 : 0 ≤ w_28.toInt ∧ w_28.toInt ≤ 610000 := bw_28
        have fw_29 : h_23.2.1 x 69 = w_29 := fw_29
        have bw_29 := hT.gi (gx.S hM) tt_10 (k := 69) rfl
        rw [fw_29] at bw_29
        have bw_29 : -2147483648 ≤ w_29.toInt ∧ w_29.toInt ≤ 2147483647 := bw_29
        have fw_30 : h_23.2.1 x 70 = w_30 := fw_30
        have bw_30 := hT.gi (gx.S hM) tt_10 (k := 70) rfl
        rw [fw_30] at bw_30
        have bw_30 : -2147483648 ≤ w_30.toInt ∧ w_30.toInt ≤ 2147483647 := bw_30
        have fw_31 : h_23.2.1 x 71 = w_31 := fw_31
        have bw_31 := hT.gi (gx.S hM) tt_10 (k := 71) rfl
        rw [fw_31] at bw_31
        have bw_31 : 0 ≤ w_31.toInt ∧ w_31.toInt ≤ 8 := bw_31
        have hc9 : ((i1.toInt.toNat : Nat) : Int) = i1.toInt := by omega
        refine lv_iload hx hb dX10_state_49 (lv_at hl 4 rfl) ?_
        rcases (show (i4.toInt < 0 ∨ 4 < i4.toInt) ∨ i4.toInt = 0 ∨ i4.toInt = 1 ∨ i4.toInt = 2 ∨ i4.toInt = 3 ∨ i4.toInt = 4 from by omega) with c_32 | c_32 | c_32 | c_32 | c_32 | c_32
        · refine lv_tableOut (tgt := 109) hx hb dX10_state_51 c_32 (by decide) ?_
          refine lv_iconst (v := -1) hx hb dX10_state_109 (by decide) ?_
          exact hx_reti hx hb hr hlk hW ⟨(Or.inl ⟨(fun hc => by have h1 := hc.2.2.2; omega), by decide⟩), hT, hM⟩ dX10_state_110
        · refine lv_tableIn (off := 33) (tgt := 84) hx hb dX10_state_51 (by omega) (by omega) (by rw [c_32]; rfl) (by decide) ?_
          refine lv_aload_n hx hb dX10_state_84 rfl (lv_at hl 0 rfl) ?_
          refine hk_geti hx hb hts hC_10 hown hW (gx.S hM) tt_10 71 (by decide) rfl kw_1214 ⟨rfl, rfl, rfl⟩ fw_31 dX10_state_85 ?_
          exact hx_reti hx hb hr hlk hW ⟨(Or.inr ⟨⟨⟨by omega, by omega⟩, (by rw [show flf i1.toInt.toNat = x_7 from ax_7.symm]; omega), (by rw [show flf i1.toInt.toNat = x_7 from ax_7.symm]; omega)⟩, Or.inl ⟨by omega, (by rw [hc9]; exact hr_26.2.2.2.2)⟩⟩), hT, hM⟩ dX10_state_88
        · refine lv_tableIn (off := 38) (tgt := 89) hx hb dX10_state_51 (by omega) (by omega) (by rw [c_32]; rfl) (by decide) ?_
          refine lv_aload_n hx hb dX10_state_89 rfl (lv_at hl 0 rfl) ?_
          refine hk_geti hx hb hts hC_10 hown hW (gx.S hM) tt_10 68 (by decide) rfl kw_1211 ⟨rfl, rfl, rfl⟩ fw_28 dX10_state_90 ?_
          exact hx_reti hx hb hr hlk hW ⟨(Or.inr ⟨⟨⟨by omega, by omega⟩, (by rw [show flf i1.toInt.toNat = x_7 from ax_7.symm]; omega), (by rw [show flf i1.toInt.toNat = x_7 from ax_7.symm]; omega)⟩, Or.inr (Or.inl ⟨by omega, (by rw [hc9]; exact hr_26.2.1)⟩)⟩), hT, hM⟩ dX10_state_93
        · refine lv_tableIn (off := 43) (tgt := 94) hx hb dX10_state_51 (by omega) (by omega) (by rw [c_32]; rfl) (by decide) ?_
          refine lv_aload_n hx hb dX10_state_94 rfl (lv_at hl 0 rfl) ?_
          refine hk_geti hx hb hts hC_10 hown hW (gx.S hM) tt_10 70 (by decide) rfl kw_1213 ⟨rfl, rfl, rfl⟩ fw_30 dX10_state_95 ?_
          exact hx_reti hx hb hr hlk hW ⟨(Or.inr ⟨⟨⟨by omega, by omega⟩, (by rw [show flf i1.toInt.toNat = x_7 from ax_7.symm]; omega), (by rw [show flf i1.toInt.toNat = x_7 from ax_7.symm]; omega)⟩, Or.inr (Or.inr (Or.inl ⟨by omega, (by rw [hc9]; exact hr_26.2.2.2.1)⟩))⟩), hT, hM⟩ dX10_state_98
        · refine lv_tableIn (off := 48) (tgt := 99) hx hb dX10_state_51 (by omega) (by omega) (by rw [c_32]; rfl) (by decide) ?_
          refine lv_aload_n hx hb dX10_state_99 rfl (lv_at hl 0 rfl) ?_
          refine hk_geti hx hb hts hC_10 hown hW (gx.S hM) tt_10 67 (by decide) rfl kw_1210 ⟨rfl, rfl, rfl⟩ fw_27 dX10_state_100 ?_
          exact hx_reti hx hb hr hlk hW ⟨(Or.inr ⟨⟨⟨by omega, by omega⟩, (by rw [show flf i1.toInt.toNat = x_7 from ax_7.symm]; omega), (by rw [show flf i1.toInt.toNat = x_7 from ax_7.symm]; omega)⟩, Or.inr (Or.inr (Or.inr (Or.inl ⟨by omega, (by rw [hc9]; exact hr_26.1)⟩)))⟩), hT, hM⟩ dX10_state_103
        · refine lv_tableIn (off := 53) (tgt := 104) hx hb dX10_state_51 (by omega) (by omega) (by rw [c_32]; rfl) (by decide) ?_
          refine lv_aload_n hx hb dX10_state_104 rfl (lv_at hl 0 rfl) ?_
          refine hk_geti hx hb hts hC_10 hown hW (gx.S hM) tt_10 69 (by decide) rfl kw_1212 ⟨rfl, rfl, rfl⟩ fw_29 dX10_state_105 ?_
          exact hx_reti hx hb hr hlk hW ⟨(Or.inr ⟨⟨⟨by omega, by omega⟩, (by rw [show flf i1.toInt.toNat = x_7 from ax_7.symm]; omega), (by rw [show flf i1.toInt.toNat = x_7 from ax_7.symm]; omega)⟩, Or.inr (Or.inr (Or.inr (Or.inr (⟨by omega, (by rw [hc9]; exact hr_26.2.2.1)⟩))))⟩), hT, hM⟩ dX10_state_108
      · skip
        replace hr_19 := hr_19.resolve_right (fun z9 => absurd (c_20.symm.trans z9.1) (by decide))
        replace hr_19 := hr_19.2
        refine lv_iconst (v := -1) hx hb dX10_state_40 (by decide) ?_
        exact hx_reti hx hb hr hlk hW ⟨(Or.inl ⟨(fun hc => by have h1 := hc.2; rw [show flf i1.toInt.toNat = x_7 from ax_7.symm] at h1; omega), by decide⟩), hT, hM⟩ dX10_state_41


set_option maxHeartbeats 4000000 in
set_option maxRecDepth 100000 in
theorem t_X10_claim_v (l : Launch) (dC : Nat → ClassId) (dI : Nat → Nat → Nat) (dA : Nat → ClassId) (L : List Nat) (h : hx_h) (sz : Nat) (x : Nat) (i1 : Int32) (i2 : Int32) (hT : hx_T T_tb L h) (gx : hx_g L h x 10) (qby : Nat) (gqby : hx_g L h qby 72) (f_x_37 : h.2.2 x 37 = some qby) (qag : Nat) (gqag : hx_g L h qag 73) (f_x_38 : h.2.2 x 38 = some qag) (qsu : Nat) (gqsu : hx_g L h qsu 74) (f_x_39 : h.2.2 x 39 = some qsu) (qfl : Nat) (gqfl : hx_g L h qfl 78) (f_x_43 : h.2.2 x 43 = some qfl) (qtr : Nat) (gqtr : hx_g L h qtr 80) (f_x_45 : h.2.2 x 45 = some qtr) (qju : Nat) (gqju : hx_g L h qju 86) (f_x_51 : h.2.2 x 51 = some qju) (qbe : Nat) (gqbe : hx_g L h qbe 87) (f_x_52 : h.2.2 x 52 = some qbe) (qod : Nat) (gqod : hx_g L h qod 83) (f_x_48 : h.2.2 x 48 = some qod) (qwk : Nat) (gqwk : hx_g L h qwk 89) (f_x_54 : h.2.2 x 54 = some qwk) (qow : Nat) (gqow : hx_g L h qow 90) (f_x_55 : h.2.2 x 55 = some qow) (qpl : Nat) (gqpl : hx_g L h qpl 79) (f_x_44 : h.2.2 x 44 = some qpl) (qsz : Nat) (gqsz : hx_g L h qsz 84) (f_x_49 : h.2.2 x 49 = some qsz) (byf : Nat → Int32) (af_qby : h.2.1 qby = byf) (agf : Nat → Int32) (af_qag : h.2.1 qag = agf) (smf : Nat → Int32) (af_qsu : h.2.1 qsu = smf) (flf : Nat → Int32) (af_qfl : h.2.1 qfl = flf) (tf : Nat → Int32) (af_qtr : h.2.1 qtr = tf) (udf : Nat → Int32) (af_qju : h.2.1 qju = udf) (bnh : Nat → Int32) (af_qbe : h.2.1 qbe = bnh) (odf : Nat → Int32) (af_qod : h.2.1 qod = odf) (wkf : Nat → Int32) (af_qwk : h.2.1 qwk = wkf) (owf : Nat → Int32) (af_qow : h.2.1 qow = owf) (plf : Nat → Int32) (af_qpl : h.2.1 qpl = plf) (szf : Nat → Int32) (af_qsz : h.2.1 qsz = szf) (c0 : Int32) (f_x_36 : h.2.1 x 36 = c0) : Met l yX10_claim (Cond.code yX10_claim cX10_claim 3 (some .int) :: hx_all) ({ frames := 2, cells := 0, slots := 0, locals := 43 }) (va_Pc [.ref x, .int i1, .int i2] (hx_B T_tb (P_ty dA) (dC, dI) vwCl L h sz)) (va_Qi (fun (r : Int32) (u : List Nat × hx_h) => (hz_LS c0.toInt i1.toInt i2.toInt (hz_cv (byf i1.toInt.toNat).toInt (agf i1.toInt.toNat).toInt (smf i1.toInt.toNat).toInt (flf i1.toInt.toNat).toInt (tf i1.toInt.toNat).toInt (udf i1.toInt.toNat).toInt (bnh (3 * i1.toInt.toNat)).toInt (bnh (3 * i1.toInt.toNat + 1)).toInt (bnh (3 * i1.toInt.toNat + 2)).toInt (odf i1.toInt.toNat).toInt (wkf i1.toInt.toNat).toInt (owf i1.toInt.toNat).toInt ((plf i1.toInt.toNat).toInt - 1) (hz_sz1 (szf i1.toInt.toNat).toInt)) r.toInt) ∧ hx_T T_tb u.1 u.2 ∧ hx_S T_tb [] L h u.1 u.2) (hx_E T_tb (P_ty dA) (dC, dI) vwCl (hx_A L sz)) (hx_A L sz)) 0 0 (hx_A L sz) := by
  refine hx_met (lv := [(0, .ref x), (1, .int i1), (2, .int i2)]) (by decide +kernel) rfl (Nat.le_of_ble_eq_true rfl) rfl ?_
  intro p e s m below meth c hx hb hml hr hlk hts0 hown hin hsz hW ls hl
  have hts : ∀ w ∈ hx_all, w.before _ s = true := fun w hw => hts0 w (List.mem_cons_of_mem _ hw)
  have hown : s.vm.findClass "SmallCourtModel" = some m.cls := hown
  have hM : hx_S T_tb [] L h L h := hx_S.rf
  have b_c0 := hT.gi gx tt_10 (k := 36) rfl
  rw [f_x_36] at b_c0
  have b_c0 : 0 ≤ c0.toInt ∧ c0.toInt ≤ 100 := b_c0
  refine lv_aload_n hx hb dX10_claim_0 rfl (lv_at hl 0 rfl) ?_
  refine lv_iload_n hx hb dX10_claim_1 rfl (lv_at hl 1 rfl) ?_
  refine hx_goi (hx_runV (As := [.int i1]) (rest := []) ⟨hx, hb, hml, hown, hts⟩ hW (gx.S hM) tt_10 (T := TX10) (N := 98) rfl (t_X10_isClaim l dC dI dA L h s.heap.size x i1 hT (gx.S hM) c0 ((hM.o gx trivial rfl).1.trans f_x_36)) (cwV 1 hts (hx_gV kw_1597 kw_1594 kw_1596 kw_73 kw_103) rfl rfl rfl (by decide +kernel) ⟨Nat.le_of_ble_eq_true rfl, Nat.le_of_ble_eq_true rfl⟩) rfl hl.1 rfl (Nat.le_of_ble_eq_true rfl) dX10_claim_2 ⟨Nat.le_of_ble_eq_true rfl, Nat.le_of_ble_eq_true rfl⟩) hW (fun r_3 L_1 h_2 H locs p_4 hW => ?_)
  obtain ⟨hr_5, hT, hs⟩ := p_4
  replace hT : hx_T T_tb L_1 h_2 := hT
  replace hs : hx_S T_tb [] L h L_1 h_2 := hs
  replace hM := hM.tr (hs.mono (by decide))
  refine hb_if_ne (zx := r_3.toInt) (tgt := 10) hx hb rfl dX10_claim_5 (by decide) (fun c_6 => ?_) (fun c_6 => ?_)
  · skip
    replace hr_5 := hr_5.resolve_left (fun z9 => c_6 z9.1)
    replace c_6 := hr_5.1
    replace hr_5 := hr_5.2
    refine lv_iload_n hx hb dX10_claim_10 rfl (lv_at hl 2 rfl) ?_
    rcases (show (i2.toInt < 0 ∨ 13 < i2.toInt) ∨ i2.toInt = 0 ∨ i2.toInt = 1 ∨ i2.toInt = 2 ∨ i2.toInt = 3 ∨ i2.toInt = 4 ∨ i2.toInt = 5 ∨ i2.toInt = 6 ∨ i2.toInt = 7 ∨ i2.toInt = 8 ∨ i2.toInt = 9 ∨ i2.toInt = 10 ∨ i2.toInt = 11 ∨ i2.toInt = 12 ∨ i2.toInt = 13 from by omega) with c_7 | c_7 | c_7 | c_7 | c_7 | c_7 | c_7 | c_7 | c_7 | c_7 | c_7 | c_7 | c_7 | c_7 | c_7
    · refine lv_tableOut (tgt := 182) hx hb dX10_claim_11 c_7 (by decide) ?_
      refine lv_iconst (v := -1) hx hb dX10_claim_182 (by decide) ?_
      exact hx_reti hx hb hr hlk hW ⟨(Or.inl ⟨(fun hc => by have h1 := hc.2; omega), by decide⟩), hT, hM⟩ dX10_claim_183
    · refine lv_tableIn (off := 69) (tgt := 80) hx hb dX10_claim_11 (by omega) (by omega) (by rw [c_7]; rfl) (by decide) ?_
      refine lv_aload_n hx hb dX10_claim_80 rfl (lv_at hl 0 rfl) ?_
      refine hk_getr hx hb hts hC_10 hown hW (gx.S hM) tt_10 37 (by decide) rfl kw_1180 ⟨rfl, rfl, rfl⟩ ((hM.o gx trivial rfl).2.trans f_x_37) dX10_claim_81 ?_
      refine lv_iload_n hx hb dX10_claim_84 rfl (lv_at hl 1 rfl) ?_
      refine hx_iald hx hb hW hT (gqby.S hM) tt_72 rfl ⟨by omega, by omega⟩ dX10_claim_85 (fun x_8 ex_8 lx_8 ux_8 => ?_)
      have ax_8 : x_8 = byf i1.toNatClampNeg := ex_8.trans (congrFun (hx_afS hM gqby rfl af_qby) _)
      exact hx_reti hx hb hr hlk hW ⟨(Or.inr ⟨⟨⟨by omega, by omega⟩, by omega, by omega⟩, (by rw [show i2.toInt.toNat = 0 by omega]; exact congrArg Int32.toInt ax_8)⟩), hT, hM⟩ dX10_claim_86
    · refine lv_tableIn (off := 76) (tgt := 87) hx hb dX10_claim_11 (by omega) (by omega) (by rw [c_7]; rfl) (by decide) ?_
      refine lv_aload_n hx hb dX10_claim_87 rfl (lv_at hl 0 rfl) ?_
      refine hk_getr hx hb hts hC_10 hown hW (gx.S hM) tt_10 38 (by decide) rfl kw_1181 ⟨rfl, rfl, rfl⟩ ((hM.o gx trivial rfl).2.trans f_x_38) dX10_claim_88 ?_
      refine lv_iload_n hx hb dX10_claim_91 rfl (lv_at hl 1 rfl) ?_
      refine hx_iald hx hb hW hT (gqag.S hM) tt_73 rfl ⟨by omega, by omega⟩ dX10_claim_92 (fun x_9 ex_9 lx_9 ux_9 => ?_)
      have ax_9 : x_9 = agf i1.toNatClampNeg := ex_9.trans (congrFun (hx_afS hM gqag rfl af_qag) _)
      exact hx_reti hx hb hr hlk hW ⟨(Or.inr ⟨⟨⟨by omega, by omega⟩, by omega, by omega⟩, (by rw [show i2.toInt.toNat = 1 by omega]; exact congrArg Int32.toInt ax_9)⟩), hT, hM⟩ dX10_claim_93
    · refine lv_tableIn (off := 83) (tgt := 94) hx hb dX10_claim_11 (by omega) (by omega) (by rw [c_7]; rfl) (by decide) ?_
      refine lv_aload_n hx hb dX10_claim_94 rfl (lv_at hl 0 rfl) ?_
      refine hk_getr hx hb hts hC_10 hown hW (gx.S hM) tt_10 39 (by decide) rfl kw_1182 ⟨rfl, rfl, rfl⟩ ((hM.o gx trivial rfl).2.trans f_x_39) dX10_claim_95 ?_
      refine lv_iload_n hx hb dX10_claim_98 rfl (lv_at hl 1 rfl) ?_
      refine hx_iald hx hb hW hT (gqsu.S hM) tt_74 rfl ⟨by omega, by omega⟩ dX10_claim_99 (fun x_10 ex_10 lx_10 ux_10 => ?_)
      have ax_10 : x_10 = smf i1.toNatClampNeg := ex_10.trans (congrFun (hx_afS hM gqsu rfl af_qsu) _)
      exact hx_reti hx hb hr hlk hW ⟨(Or.inr ⟨⟨⟨by omega, by omega⟩, by omega, by omega⟩, (by rw [show i2.toInt.toNat = 2 by omega]; exact congrArg Int32.toInt ax_10)⟩), hT, hM⟩ dX10_claim_100
    · refine lv_tableIn (off := 90) (tgt := 101) hx hb dX10_claim_11 (by omega) (by omega) (by rw [c_7]; rfl) (by decide) ?_
      refine lv_aload_n hx hb dX10_claim_101 rfl (lv_at hl 0 rfl) ?_
      refine hk_getr hx hb hts hC_10 hown hW (gx.S hM) tt_10 43 (by decide) rfl kw_1186 ⟨rfl, rfl, rfl⟩ ((hM.o gx trivial rfl).2.trans f_x_43) dX10_claim_102 ?_
      refine lv_iload_n hx hb dX10_claim_105 rfl (lv_at hl 1 rfl) ?_
      refine hx_iald hx hb hW hT (gqfl.S hM) tt_78 rfl ⟨by omega, by omega⟩ dX10_claim_106 (fun x_11 ex_11 lx_11 ux_11 => ?_)
      have ax_11 : x_11 = flf i1.toNatClampNeg := ex_11.trans (congrFun (hx_afS hM gqfl rfl af_qfl) _)
      exact hx_reti hx hb hr hlk hW ⟨(Or.inr ⟨⟨⟨by omega, by omega⟩, by omega, by omega⟩, (by rw [show i2.toInt.toNat = 3 by omega]; exact congrArg Int32.toInt ax_11)⟩), hT, hM⟩ dX10_claim_107
    · refine lv_tableIn (off := 97) (tgt := 108) hx hb dX10_claim_11 (by omega) (by omega) (by rw [c_7]; rfl) (by decide) ?_
      refine lv_aload_n hx hb dX10_claim_108 rfl (lv_at hl 0 rfl) ?_
      refine hk_getr hx hb hts hC_10 hown hW (gx.S hM) tt_10 45 (by decide) rfl kw_1188 ⟨rfl, rfl, rfl⟩ ((hM.o gx trivial rfl).2.trans f_x_45) dX10_claim_109 ?_
      refine lv_iload_n hx hb dX10_claim_112 rfl (lv_at hl 1 rfl) ?_
      refine hx_iald hx hb hW hT (gqtr.S hM) tt_80 rfl ⟨by omega, by omega⟩ dX10_claim_113 (fun x_12 ex_12 lx_12 ux_12 => ?_)
      have ax_12 : x_12 = tf i1.toNatClampNeg := ex_12.trans (congrFun (hx_afS hM gqtr rfl af_qtr) _)
      exact hx_reti hx hb hr hlk hW ⟨(Or.inr ⟨⟨⟨by omega, by omega⟩, by omega, by omega⟩, (by rw [show i2.toInt.toNat = 4 by omega]; exact congrArg Int32.toInt ax_12)⟩), hT, hM⟩ dX10_claim_114
    · refine lv_tableIn (off := 104) (tgt := 115) hx hb dX10_claim_11 (by omega) (by omega) (by rw [c_7]; rfl) (by decide) ?_
      refine lv_aload_n hx hb dX10_claim_115 rfl (lv_at hl 0 rfl) ?_
      refine hk_getr hx hb hts hC_10 hown hW (gx.S hM) tt_10 51 (by decide) rfl kw_1194 ⟨rfl, rfl, rfl⟩ ((hM.o gx trivial rfl).2.trans f_x_51) dX10_claim_116 ?_
      refine lv_iload_n hx hb dX10_claim_119 rfl (lv_at hl 1 rfl) ?_
      refine hx_iald hx hb hW hT (gqju.S hM) tt_86 rfl ⟨by omega, by omega⟩ dX10_claim_120 (fun x_13 ex_13 lx_13 ux_13 => ?_)
      have ax_13 : x_13 = udf i1.toNatClampNeg := ex_13.trans (congrFun (hx_afS hM gqju rfl af_qju) _)
      exact hx_reti hx hb hr hlk hW ⟨(Or.inr ⟨⟨⟨by omega, by omega⟩, by omega, by omega⟩, (by rw [show i2.toInt.toNat = 5 by omega]; exact congrArg Int32.toInt ax_13)⟩), hT, hM⟩ dX10_claim_121
    · refine lv_tableIn (off := 111) (tgt := 122) hx hb dX10_claim_11 (by omega) (by omega) (by rw [c_7]; rfl) (by decide) ?_
      refine lv_aload_n hx hb dX10_claim_122 rfl (lv_at hl 0 rfl) ?_
      refine hk_getr hx hb hts hC_10 hown hW (gx.S hM) tt_10 52 (by decide) rfl kw_1195 ⟨rfl, rfl, rfl⟩ ((hM.o gx trivial rfl).2.trans f_x_52) dX10_claim_123 ?_
      refine lv_iconst (v := 3) hx hb dX10_claim_126 (by decide) ?_
      refine lv_iload_n hx hb dX10_claim_127 rfl (lv_at hl 1 rfl) ?_
      refine lv_imul hx hb dX10_claim_128 ?_
      refine lv_topi (fun x_14 ex_14 => ?_)
      have zx_14 : x_14.toInt = 3 * i1.toInt := by rw [ex_14]; exact i32_mul (by decide) rfl rfl (by omega) (by omega)
      refine lv_iload_n hx hb dX10_claim_129 rfl (lv_at hl 2 rfl) ?_
      refine lv_iadd hx hb dX10_claim_130 ?_
      have rg_15 := i32_r x_14
      have rg_16 := i32_r i2
      refine lv_topi (fun x_17 ex_17 => ?_)
      have zx_17 : x_17.toInt = x_14.toInt + i2.toInt := by rw [ex_17]; exact i32_add rfl rfl (by omega) (by omega)
      refine lv_bipush (v := 6) hx hb dX10_claim_131 (by decide) ?_
      refine lv_isub hx hb dX10_claim_133 ?_
      have rg_18 := i32_r x_17
      refine lv_topi (fun x_19 ex_19 => ?_)
      have zx_19 : x_19.toInt = x_17.toInt - 6 := by rw [ex_19]; exact i32_sub rfl (by decide) (by omega) (by omega)
      refine hx_iald hx hb hW hT (gqbe.S hM) tt_87 rfl ⟨by omega, by omega⟩ dX10_claim_134 (fun x_20 ex_20 lx_20 ux_20 => ?_)
      have ax_20 : x_20 = bnh x_19.toNatClampNeg := ex_20.trans (congrFun (hx_afS hM gqbe rfl af_qbe) _)
      exact hx_reti hx hb hr hlk hW ⟨(Or.inr ⟨⟨⟨by omega, by omega⟩, by omega, by omega⟩, (by rcases (show i2.toInt = 6 ∨ i2.toInt = 7 ∨ i2.toInt = 8 by omega) with z9 | z9 | z9 <;> (rw [z9]; show _ = (bnh _).toInt; rw [ax_20]; congr 2; unfold Int32.toNatClampNeg; omega))⟩), hT, hM⟩ dX10_claim_135
    · refine lv_tableIn (off := 111) (tgt := 122) hx hb dX10_claim_11 (by omega) (by omega) (by rw [c_7]; rfl) (by decide) ?_
      refine lv_aload_n hx hb dX10_claim_122 rfl (lv_at hl 0 rfl) ?_
      refine hk_getr hx hb hts hC_10 hown hW (gx.S hM) tt_10 52 (by decide) rfl kw_1195 ⟨rfl, rfl, rfl⟩ ((hM.o gx trivial rfl).2.trans f_x_52) dX10_claim_123 ?_
      refine lv_iconst (v := 3) hx hb dX10_claim_126 (by decide) ?_
      refine lv_iload_n hx hb dX10_claim_127 rfl (lv_at hl 1 rfl) ?_
      refine lv_imul hx hb dX10_claim_128 ?_
      refine lv_topi (fun x_21 ex_21 => ?_)
      have zx_21 : x_21.toInt = 3 * i1.toInt := by rw [ex_21]; exact i32_mul (by decide) rfl rfl (by omega) (by omega)
      refine lv_iload_n hx hb dX10_claim_129 rfl (lv_at hl 2 rfl) ?_
      refine lv_iadd hx hb dX10_claim_130 ?_
      have rg_22 := i32_r x_21
      have rg_23 := i32_r i2
      refine lv_topi (fun x_24 ex_24 => ?_)
      have zx_24 : x_24.toInt = x_21.toInt + i2.toInt := by rw [ex_24]; exact i32_add rfl rfl (by omega) (by omega)
      refine lv_bipush (v := 6) hx hb dX10_claim_131 (by decide) ?_
      refine lv_isub hx hb dX10_claim_133 ?_
      have rg_25 := i32_r x_24
      refine lv_topi (fun x_26 ex_26 => ?_)
      have zx_26 : x_26.toInt = x_24.toInt - 6 := by rw [ex_26]; exact i32_sub rfl (by decide) (by omega) (by omega)
      refine hx_iald hx hb hW hT (gqbe.S hM) tt_87 rfl ⟨by omega, by omega⟩ dX10_claim_134 (fun x_27 ex_27 lx_27 ux_27 => ?_)
      have ax_27 : x_27 = bnh x_26.toNatClampNeg := ex_27.trans (congrFun (hx_afS hM gqbe rfl af_qbe) _)
      exact hx_reti hx hb hr hlk hW ⟨(Or.inr ⟨⟨⟨by omega, by omega⟩, by omega, by omega⟩, (by rcases (show i2.toInt = 6 ∨ i2.toInt = 7 ∨ i2.toInt = 8 by omega) with z9 | z9 | z9 <;> (rw [z9]; show _ = (bnh _).toInt; rw [ax_27]; congr 2; unfold Int32.toNatClampNeg; omega))⟩), hT, hM⟩ dX10_claim_135
    · refine lv_tableIn (off := 111) (tgt := 122) hx hb dX10_claim_11 (by omega) (by omega) (by rw [c_7]; rfl) (by decide) ?_
      refine lv_aload_n hx hb dX10_claim_122 rfl (lv_at hl 0 rfl) ?_
      refine hk_getr hx hb hts hC_10 hown hW (gx.S hM) tt_10 52 (by decide) rfl kw_1195 ⟨rfl, rfl, rfl⟩ ((hM.o gx trivial rfl).2.trans f_x_52) dX10_claim_123 ?_
      refine lv_iconst (v := 3) hx hb dX10_claim_126 (by decide) ?_
      refine lv_iload_n hx hb dX10_claim_127 rfl (lv_at hl 1 rfl) ?_
      refine lv_imul hx hb dX10_claim_128 ?_
      refine lv_topi (fun x_28 ex_28 => ?_)
      have zx_28 : x_28.toInt = 3 * i1.toInt := by rw [ex_28]; exact i32_mul (by decide) rfl rfl (by omega) (by omega)
      refine lv_iload_n hx hb dX10_claim_129 rfl (lv_at hl 2 rfl) ?_
      refine lv_iadd hx hb dX10_claim_130 ?_
      have rg_29 := i32_r x_28
      have rg_30 := i32_r i2
      refine lv_topi (fun x_31 ex_31 => ?_)
      have zx_31 : x_31.toInt = x_28.toInt + i2.toInt := by rw [ex_31]; exact i32_add rfl rfl (by omega) (by omega)
      refine lv_bipush (v := 6) hx hb dX10_claim_131 (by decide) ?_
      refine lv_isub hx hb dX10_claim_133 ?_
      have rg_32 := i32_r x_31
      refine lv_topi (fun x_33 ex_33 => ?_)
      have zx_33 : x_33.toInt = x_31.toInt - 6 := by rw [ex_33]; exact i32_sub rfl (by decide) (by omega) (by omega)
      refine hx_iald hx hb hW hT (gqbe.S hM) tt_87 rfl ⟨by omega, by omega⟩ dX10_claim_134 (fun x_34 ex_34 lx_34 ux_34 => ?_)
      have ax_34 : x_34 = bnh x_33.toNatClampNeg := ex_34.trans (congrFun (hx_afS hM gqbe rfl af_qbe) _)
      exact hx_reti hx hb hr hlk hW ⟨(Or.inr ⟨⟨⟨by omega, by omega⟩, by omega, by omega⟩, (by rcases (show i2.toInt = 6 ∨ i2.toInt = 7 ∨ i2.toInt = 8 by omega) with z9 | z9 | z9 <;> (rw [z9]; show _ = (bnh _).toInt; rw [ax_34]; congr 2; unfold Int32.toNatClampNeg; omega))⟩), hT, hM⟩ dX10_claim_135
    · refine lv_tableIn (off := 125) (tgt := 136) hx hb dX10_claim_11 (by omega) (by omega) (by rw [c_7]; rfl) (by decide) ?_
      refine lv_aload_n hx hb dX10_claim_136 rfl (lv_at hl 0 rfl) ?_
      refine hk_getr hx hb hts hC_10 hown hW (gx.S hM) tt_10 48 (by decide) rfl kw_1191 ⟨rfl, rfl, rfl⟩ ((hM.o gx trivial rfl).2.trans f_x_48) dX10_claim_137 ?_
      refine lv_iload_n hx hb dX10_claim_140 rfl (lv_at hl 1 rfl) ?_
      refine hx_iald hx hb hW hT (gqod.S hM) tt_83 rfl ⟨by omega, by omega⟩ dX10_claim_141 (fun x_35 ex_35 lx_35 ux_35 => ?_)
      have ax_35 : x_35 = odf i1.toNatClampNeg := ex_35.trans (congrFun (hx_afS hM gqod rfl af_qod) _)
      exact hx_reti hx hb hr hlk hW ⟨(Or.inr ⟨⟨⟨by omega, by omega⟩, by omega, by omega⟩, (by rw [show i2.toInt.toNat = 9 by omega]; exact congrArg Int32.toInt ax_35)⟩), hT, hM⟩ dX10_claim_142
    · refine lv_tableIn (off := 132) (tgt := 143) hx hb dX10_claim_11 (by omega) (by omega) (by rw [c_7]; rfl) (by decide) ?_
      refine lv_aload_n hx hb dX10_claim_143 rfl (lv_at hl 0 rfl) ?_
      refine hk_getr hx hb hts hC_10 hown hW (gx.S hM) tt_10 54 (by decide) rfl kw_1197 ⟨rfl, rfl, rfl⟩ ((hM.o gx trivial rfl).2.trans f_x_54) dX10_claim_144 ?_
      refine lv_iload_n hx hb dX10_claim_147 rfl (lv_at hl 1 rfl) ?_
      refine hx_iald hx hb hW hT (gqwk.S hM) tt_89 rfl ⟨by omega, by omega⟩ dX10_claim_148 (fun x_36 ex_36 lx_36 ux_36 => ?_)
      have ax_36 : x_36 = wkf i1.toNatClampNeg := ex_36.trans (congrFun (hx_afS hM gqwk rfl af_qwk) _)
      exact hx_reti hx hb hr hlk hW ⟨(Or.inr ⟨⟨⟨by omega, by omega⟩, by omega, by omega⟩, (by rw [show i2.toInt.toNat = 10 by omega]; exact congrArg Int32.toInt ax_36)⟩), hT, hM⟩ dX10_claim_149
    · refine lv_tableIn (off := 139) (tgt := 150) hx hb dX10_claim_11 (by omega) (by omega) (by rw [c_7]; rfl) (by decide) ?_
      refine lv_aload_n hx hb dX10_claim_150 rfl (lv_at hl 0 rfl) ?_
      refine hk_getr hx hb hts hC_10 hown hW (gx.S hM) tt_10 55 (by decide) rfl kw_1198 ⟨rfl, rfl, rfl⟩ ((hM.o gx trivial rfl).2.trans f_x_55) dX10_claim_151 ?_
      refine lv_iload_n hx hb dX10_claim_154 rfl (lv_at hl 1 rfl) ?_
      refine hx_iald hx hb hW hT (gqow.S hM) tt_90 rfl ⟨by omega, by omega⟩ dX10_claim_155 (fun x_37 ex_37 lx_37 ux_37 => ?_)
      have ax_37 : x_37 = owf i1.toNatClampNeg := ex_37.trans (congrFun (hx_afS hM gqow rfl af_qow) _)
      exact hx_reti hx hb hr hlk hW ⟨(Or.inr ⟨⟨⟨by omega, by omega⟩, by omega, by omega⟩, (by rw [show i2.toInt.toNat = 11 by omega]; exact congrArg Int32.toInt ax_37)⟩), hT, hM⟩ dX10_claim_156
    · refine lv_tableIn (off := 146) (tgt := 157) hx hb dX10_claim_11 (by omega) (by omega) (by rw [c_7]; rfl) (by decide) ?_
      refine lv_aload_n hx hb dX10_claim_157 rfl (lv_at hl 0 rfl) ?_
      refine hk_getr hx hb hts hC_10 hown hW (gx.S hM) tt_10 44 (by decide) rfl kw_1187 ⟨rfl, rfl, rfl⟩ ((hM.o gx trivial rfl).2.trans f_x_44) dX10_claim_158 ?_
      refine lv_iload_n hx hb dX10_claim_161 rfl (lv_at hl 1 rfl) ?_
      refine hx_iald hx hb hW hT (gqpl.S hM) tt_79 rfl ⟨by omega, by omega⟩ dX10_claim_162 (fun x_38 ex_38 lx_38 ux_38 => ?_)
      have ax_38 : x_38 = plf i1.toNatClampNeg := ex_38.trans (congrFun (hx_afS hM gqpl rfl af_qpl) _)
      refine lv_iconst (v := 1) hx hb dX10_claim_163 (by decide) ?_
      refine lv_isub hx hb dX10_claim_164 ?_
      have rg_39 := i32_r x_38
      refine lv_topi (fun x_40 ex_40 => ?_)
      have zx_40 : x_40.toInt = x_38.toInt - 1 := by rw [ex_40]; exact i32_sub rfl (by decide) (by omega) (by omega)
      exact hx_reti hx hb hr hlk hW ⟨(Or.inr ⟨⟨⟨by omega, by omega⟩, by omega, by omega⟩, (by rw [show i2.toInt.toNat = 12 by omega]; show _ = (plf i1.toInt.toNat).toInt - 1; rw [show plf i1.toInt.toNat = x_38 from ax_38.symm]; omega)⟩), hT, hM⟩ dX10_claim_165
    · refine lv_tableIn (off := 155) (tgt := 166) hx hb dX10_claim_11 (by omega) (by omega) (by rw [c_7]; rfl) (by decide) ?_
      refine lv_aload_n hx hb dX10_claim_166 rfl (lv_at hl 0 rfl) ?_
      refine hk_getr hx hb hts hC_10 hown hW (gx.S hM) tt_10 49 (by decide) rfl kw_1192 ⟨rfl, rfl, rfl⟩ ((hM.o gx trivial rfl).2.trans f_x_49) dX10_claim_167 ?_
      refine lv_iload_n hx hb dX10_claim_170 rfl (lv_at hl 1 rfl) ?_
      refine hx_iald hx hb hW hT (gqsz.S hM) tt_84 rfl ⟨by omega, by omega⟩ dX10_claim_171 (fun x_41 ex_41 lx_41 ux_41 => ?_)
      have ax_41 : x_41 = szf i1.toNatClampNeg := ex_41.trans (congrFun (hx_afS hM gqsz rfl af_qsz) _)
      refine lv_iconst (v := -1) hx hb dX10_claim_172 (by decide) ?_
      refine hb_icmp_ne (zx := x_41.toInt) (zy := (-1)) (tgt := 180) hx hb rfl (by decide) dX10_claim_173 (by decide) (fun c_42 => ?_) (fun c_42 => ?_)
      · skip
        refine lv_iconst (v := 1) hx hb dX10_claim_180 (by decide) ?_
        exact hx_reti hx hb hr hlk hW ⟨(Or.inr ⟨⟨⟨by omega, by omega⟩, by omega, by omega⟩, (by rw [show i2.toInt.toNat = 13 by omega]; show _ = hz_sz1 (szf i1.toInt.toNat).toInt; rw [show szf i1.toInt.toNat = x_41 from ax_41.symm]; unfold hz_sz1; have zr : (1 : Int32).toInt = 1 := (by decide); split <;> omega)⟩), hT, hM⟩ dX10_claim_181
      · skip
        refine lv_iconst (v := 0) hx hb dX10_claim_176 (by decide) ?_
        refine lv_goto (tgt := 181) hx hb dX10_claim_177 (by decide) ?_
        exact hx_reti hx hb hr hlk hW ⟨(Or.inr ⟨⟨⟨by omega, by omega⟩, by omega, by omega⟩, (by rw [show i2.toInt.toNat = 13 by omega]; show _ = hz_sz1 (szf i1.toInt.toNat).toInt; rw [show szf i1.toInt.toNat = x_41 from ax_41.symm]; unfold hz_sz1; have zr : (0 : Int32).toInt = 0 := (by decide); split <;> omega)⟩), hT, hM⟩ dX10_claim_181
  · skip
    replace hr_5 := hr_5.resolve_right (fun z9 => absurd (c_6.symm.trans z9.1) (by decide))
    replace hr_5 := hr_5.2
    refine lv_iconst (v := -1) hx hb dX10_claim_8 (by decide) ?_
    exact hx_reti hx hb hr hlk hW ⟨(Or.inl ⟨(fun hc => by have h1 := hc.1; omega), by decide⟩), hT, hM⟩ dX10_claim_9


set_option maxHeartbeats 4000000 in
set_option maxRecDepth 100000 in
theorem t_X10_count_v (l : Launch) (dC : Nat → ClassId) (dI : Nat → Nat → Nat) (dA : Nat → ClassId) (L : List Nat) (h : hx_h) (sz : Nat) (x : Nat) (i1 : Int32) (hT : hx_T T_tb L h) (gx : hx_g L h x 10) (qj : Nat) (gqj : hx_g L h qj 65) (f_x_28 : h.2.2 x 28 = some qj) (qd : Nat) (gqd : hx_g L h qd 64) (f_x_27 : h.2.2 x 27 = some qd) (jf : Nat → Int32) (af_qj : h.2.1 qj = jf) (df : Nat → Int32) (af_qd : h.2.1 qd = df) (c0 : Int32) (f_x_36 : h.2.1 x 36 = c0) (a0 : Int32) (f_x_1 : h.2.1 x 1 = a0) (nw0 : Int32) (f_x_0 : h.2.1 x 0 = nw0) (n0 : Int32) (f_x_59 : h.2.1 x 59 = n0) (pn0 : Int32) (f_x_20 : h.2.1 x 20 = pn0) (ln0 : Int32) (f_x_29 : h.2.1 x 29 = ln0) (tl0 : Int32) (f_x_7 : h.2.1 x 7 = tl0) (ls0 : Int32) (f_x_90 : h.2.1 x 90 = ls0) : Met l yX10_count (Cond.code yX10_count cX10_count 4 (some .int) :: hx_all) ({ frames := 0, cells := 0, slots := 0, locals := 0 }) (va_Pc [.ref x, .int i1] (hx_B T_tb (P_ty dA) (dC, dI) vwCl L h sz)) (va_Qi (fun (r : Int32) (u : List Nat × hx_h) => (hz_CT i1.toInt (hz_cv nw0.toInt a0.toInt pn0.toInt (hz_lj jf df pn0.toInt.toNat) ln0.toInt c0.toInt n0.toInt tl0.toInt ls0.toInt 0 0 0 0 0) r.toInt) ∧ hx_T T_tb u.1 u.2 ∧ hx_S T_tb [] L h u.1 u.2) (hx_E T_tb (P_ty dA) (dC, dI) vwCl (hx_A L sz)) (hx_A L sz)) 0 0 (hx_A L sz) := by
  refine hx_met (lv := [(0, .ref x), (1, .int i1)]) (by decide +kernel) rfl (Nat.le_of_ble_eq_true rfl) rfl ?_
  intro p e s m below meth c hx hb hml hr hlk hts0 hown hin hsz hW ls hl
  have hts : ∀ w ∈ hx_all, w.before _ s = true := fun w hw => hts0 w (List.mem_cons_of_mem _ hw)
  have hown : s.vm.findClass "SmallCourtModel" = some m.cls := hown
  have hM : hx_S T_tb [] L h L h := hx_S.rf
  have b_c0 := hT.gi gx tt_10 (k := 36) rfl
  rw [f_x_36] at b_c0
  have b_c0 : 0 ≤ c0.toInt ∧ c0.toInt ≤ 100 := b_c0
  have b_a0 := hT.gi gx tt_10 (k := 1) rfl
  rw [f_x_1] at b_a0
  have b_a0 : 0 ≤ a0.toInt ∧ a0.toInt ≤ 8 := b_a0
  have b_nw0 := hT.gi gx tt_10 (k := 0) rfl
  rw [f_x_0] at b_nw0
  have b_nw0 : 0 ≤ nw0.toInt ∧ nw0.toInt ≤ 7999 := b_nw0
  have b_n0 := hT.gi gx tt_10 (k := 59) rfl
  rw [f_x_59] at b_n0
  have b_n0 : 0 ≤ n0.toInt ∧ n0.toInt ≤ 600 := b_n0
  have b_pn0 := hT.gi gx tt_10 (k := 20) rfl
  rw [f_x_20] at b_pn0
  have b_pn0 : 0 ≤ pn0.toInt ∧ pn0.toInt ≤ 40 := b_pn0
  have b_ln0 := hT.gi gx tt_10 (k := 29) rfl
  rw [f_x_29] at b_ln0
  have b_ln0 : 0 ≤ ln0.toInt ∧ ln0.toInt ≤ 400 := b_ln0
  have b_tl0 := hT.gi gx tt_10 (k := 7) rfl
  rw [f_x_7] at b_tl0
  have b_tl0 : 0 ≤ tl0.toInt ∧ tl0.toInt ≤ 400 := b_tl0
  have b_ls0 := hT.gi gx tt_10 (k := 90) rfl
  rw [f_x_90] at b_ls0
  have b_ls0 : 0 ≤ ls0.toInt ∧ ls0.toInt ≤ 8 := b_ls0
  refine lv_iconst (v := 0) hx hb dX10_count_0 (by decide) ?_
  refine lv_istore_n (lv' := [(2, .int (0 : Int32)), (0, .ref x), (1, .int i1)]) hx hb dX10_count_1 rfl hl (by decide) rfl (fun ls hl => ?_)
  refine lv_iload_n hx hb dX10_count_2 rfl (lv_at hl 2 rfl) ?_
  rcases (show (i1.toInt < 0 ∨ 8 < i1.toInt) ∨ i1.toInt = 0 ∨ i1.toInt = 1 ∨ i1.toInt = 2 ∨ i1.toInt = 3 ∨ i1.toInt = 4 ∨ i1.toInt = 5 ∨ i1.toInt = 6 ∨ i1.toInt = 7 ∨ i1.toInt = 8 from by omega) with c_1 | c_1 | c_1 | c_1 | c_1 | c_1 | c_1 | c_1 | c_1 | c_1
  · refine lv_tableOut (tgt := 136) hx hb dX10_count_3 c_1 (by decide) ?_
    refine lv_iconst (v := -1) hx hb dX10_count_136 (by decide) ?_
    exact hx_reti hx hb hr hlk hW ⟨(Or.inl ⟨by omega, by decide⟩), hT, hM⟩ dX10_count_137
  · refine lv_tableIn (off := 49) (tgt := 52) hx hb dX10_count_3 (by omega) (by omega) (by rw [c_1]; rfl) (by decide) ?_
    refine lv_aload_n hx hb dX10_count_52 rfl (lv_at hl 1 rfl) ?_
    refine hk_geti hx hb hts hC_10 hown hW (gx.S hM) tt_10 0 (by decide) rfl kw_1143 ⟨rfl, rfl, rfl⟩ ((hM.o gx trivial rfl).1.trans f_x_0) dX10_count_53 ?_
    exact hx_reti hx hb hr hlk hW ⟨(Or.inr ⟨by omega, (by rw [show i1.toInt.toNat = 0 by omega]; rfl)⟩), hT, hM⟩ dX10_count_56
  · refine lv_tableIn (off := 54) (tgt := 57) hx hb dX10_count_3 (by omega) (by omega) (by rw [c_1]; rfl) (by decide) ?_
    refine lv_aload_n hx hb dX10_count_57 rfl (lv_at hl 1 rfl) ?_
    refine hk_geti hx hb hts hC_10 hown hW (gx.S hM) tt_10 1 (by decide) rfl kw_1144 ⟨rfl, rfl, rfl⟩ ((hM.o gx trivial rfl).1.trans f_x_1) dX10_count_58 ?_
    exact hx_reti hx hb hr hlk hW ⟨(Or.inr ⟨by omega, (by rw [show i1.toInt.toNat = 1 by omega]; rfl)⟩), hT, hM⟩ dX10_count_61
  · refine lv_tableIn (off := 59) (tgt := 62) hx hb dX10_count_3 (by omega) (by omega) (by rw [c_1]; rfl) (by decide) ?_
    refine lv_aload_n hx hb dX10_count_62 rfl (lv_at hl 1 rfl) ?_
    refine hk_geti hx hb hts hC_10 hown hW (gx.S hM) tt_10 20 (by decide) rfl kw_1163 ⟨rfl, rfl, rfl⟩ ((hM.o gx trivial rfl).1.trans f_x_20) dX10_count_63 ?_
    exact hx_reti hx hb hr hlk hW ⟨(Or.inr ⟨by omega, (by rw [show i1.toInt.toNat = 2 by omega]; rfl)⟩), hT, hM⟩ dX10_count_66
  · refine lv_tableIn (off := 64) (tgt := 67) hx hb dX10_count_3 (by omega) (by omega) (by rw [c_1]; rfl) (by decide) ?_
    refine lv_iconst (v := 0) hx hb dX10_count_67 (by decide) ?_
    refine lv_istore_n (lv' := [(3, .int (0 : Int32)), (2, .int (0 : Int32)), (0, .ref x), (1, .int i1)]) hx hb dX10_count_68 rfl hl (by decide) rfl (fun ls hl => ?_)
    have loop69 : ∀ (n69 : Nat) (iv69_2 iv69_3 : Int32) (H : Heap) (locs : List Loc) (hL1 : List Nat) (hl1 : hx_h), 0 ≤ iv69_2.toInt → iv69_2.toInt ≤ 40 → 0 ≤ iv69_3.toInt → iv69_3.toInt ≤ 40 → (iv69_2.toInt = hz_lj jf df (iv69_3.toInt).toNat) → (iv69_2.toInt ≤ iv69_3.toInt) → (iv69_3.toInt ≤ pn0.toInt) → ∀ (ls : Array Slot), 40 - iv69_3.toInt < (n69 : Int) → hx_W T_tb (P_ty dA) (dC, dI) vwCl (hx_A L sz) s.heap hL1 hl1 s H locs → hx_T T_tb hL1 hl1 → hx_S T_tb [] L h hL1 hl1 → lv_has ls 4 [(3, .int iv69_3), (2, .int iv69_2), (0, .ref x), (1, .int i1)] → W p l e ({ frames := 0, cells := 0, slots := 0, locals := 0 }) s m ([.ref x, .int i1] : List Value).toArray below meth c H locs 0 0 (MQ below (va_Qi (fun (r : Int32) (u : List Nat × hx_h) => (hz_CT i1.toInt (hz_cv nw0.toInt a0.toInt pn0.toInt (hz_lj jf df pn0.toInt.toNat) ln0.toInt c0.toInt n0.toInt tl0.toInt ls0.toInt 0 0 0 0 0) r.toInt) ∧ hx_T T_tb u.1 u.2 ∧ hx_S T_tb [] L h u.1 u.2) (hx_E T_tb (P_ty dA) (dC, dI) vwCl (hx_A L sz)) (hx_A L sz)) ([.ref x, .int i1] : List Value).toArray s 0 0 (hx_A L sz)) (F0 m 69 ls []) := by
      intro n69
      induction n69 with
      | zero => intro iv69_2 iv69_3 H locs hL1 hl1 bliv69_2 buiv69_2 bliv69_3 buiv69_3 vi69_0 vi69_1 vi69_2 ls hn69; exfalso; omega
      | succ n69 ih69 =>
        intro iv69_2 iv69_3 H locs hL1 hl1 bliv69_2 buiv69_2 bliv69_3 buiv69_3 vi69_0 vi69_1 vi69_2 ls hn69 hW hT hM   hl
        refine lv_iload_n hx hb dX10_count_69 rfl (lv_at hl 0 rfl) ?_
        refine lv_aload_n hx hb dX10_count_70 rfl (lv_at hl 2 rfl) ?_
        refine hk_geti hx hb hts hC_10 hown hW (gx.S hM) tt_10 20 (by decide) rfl kw_1163 ⟨rfl, rfl, rfl⟩ ((hM.o gx trivial rfl).1.trans f_x_20) dX10_count_71 ?_
        refine hb_icmp_ge (zx := iv69_3.toInt) (zy := pn0.toInt) (tgt := 109) hx hb rfl rfl dX10_count_74 (by decide) (fun c_2 => ?_) (fun c_2 => ?_)
        · skip
          refine lv_iload_n hx hb dX10_count_109 rfl (lv_at hl 1 rfl) ?_
          exact hx_reti hx hb hr hlk hW ⟨(Or.inr ⟨by omega, (by rw [show i1.toInt.toNat = 3 by omega]; show _ = hz_lj jf df pn0.toInt.toNat; have h8 := vi69_0; rw [show iv69_3.toInt.toNat = pn0.toInt.toNat by omega] at h8; exact h8)⟩), hT, hM⟩ dX10_count_110
        · skip
          refine lv_iload_n hx hb dX10_count_77 rfl (lv_at hl 1 rfl) ?_
          refine lv_aload_n hx hb dX10_count_78 rfl (lv_at hl 2 rfl) ?_
          refine hk_getr hx hb hts hC_10 hown hW (gx.S hM) tt_10 28 (by decide) rfl kw_1171 ⟨rfl, rfl, rfl⟩ ((hM.o gx trivial rfl).2.trans f_x_28) dX10_count_79 ?_
          refine lv_iload_n hx hb dX10_count_82 rfl (lv_at hl 0 rfl) ?_
          refine hx_zald hx hb hW hT (gqj.S hM) tt_65 rfl ⟨by omega, by omega⟩ dX10_count_83 (fun x_3 ex_3 lx_3 ux_3 => ?_)
          have ax_3 : x_3 = jf iv69_3.toNatClampNeg := ex_3.trans (congrFun (hx_afS hM gqj rfl af_qj) _)
          refine hb_if_eq (zx := x_3.toInt) (tgt := 100) hx hb rfl dX10_count_84 (by decide) (fun c_4 => ?_) (fun c_4 => ?_)
          · skip
            refine lv_iconst (v := 0) hx hb dX10_count_100 (by decide) ?_
            refine lv_iadd hx hb dX10_count_101 ?_
            have rg_5 := i32_r iv69_2
            refine lv_topi (fun x_6 ex_6 => ?_)
            have zx_6 : x_6.toInt = iv69_2.toInt + 0 := by rw [ex_6]; exact i32_add rfl (by decide) (by omega) (by omega)
            refine lv_istore_n (lv' := [(2, .int x_6), (3, .int iv69_3), (0, .ref x), (1, .int i1)]) hx hb dX10_count_102 rfl hl (by decide) rfl (fun ls hl => ?_)
            obtain ⟨x_7, ex_7⟩ : ∃ y : Int32, y = iv69_3 + Int32.ofInt 1 := ⟨_, rfl⟩
            have rg_8 := i32_r iv69_3
            have zx_7 : x_7.toInt = iv69_3.toInt + (1) := by rw [ex_7]; exact i32_add rfl (by decide) (by omega) (by omega)
            refine lv_iinc (v := x_7) (lv' := [(3, .int x_7), (2, .int x_6), (0, .ref x), (1, .int i1)]) hx hb dX10_count_103 hl (k := 1) rfl ex_7.symm (by decide) rfl (fun ls hl => ?_)
            refine lv_goto (tgt := 69) hx hb dX10_count_106 (by decide) ?_
            exact ih69 x_6 x_7 _ _ hL1 hl1 (by omega) (by omega) (by omega) (by omega) (hz_lj_s 0 vi69_0 (by omega) (Or.inr ⟨rfl, (fun z => by have z9 := z.1; rw [show jf iv69_3.toInt.toNat = x_3 from ax_3.symm] at z9; omega)⟩) (by omega) zx_7) (by omega) (by omega) ls (by omega) hW hT hM   (lv_sub hl [0, 1, 2, 3] rfl)
          · skip
            refine lv_aload_n hx hb dX10_count_87 rfl (lv_at hl 2 rfl) ?_
            refine hk_getr hx hb hts hC_10 hown hW (gx.S hM) tt_10 27 (by decide) rfl kw_1170 ⟨rfl, rfl, rfl⟩ ((hM.o gx trivial rfl).2.trans f_x_27) dX10_count_88 ?_
            refine lv_iload_n hx hb dX10_count_91 rfl (lv_at hl 0 rfl) ?_
            refine hx_zald hx hb hW hT (gqd.S hM) tt_64 rfl ⟨by omega, by omega⟩ dX10_count_92 (fun x_9 ex_9 lx_9 ux_9 => ?_)
            have ax_9 : x_9 = df iv69_3.toNatClampNeg := ex_9.trans (congrFun (hx_afS hM gqd rfl af_qd) _)
            refine hb_if_ne (zx := x_9.toInt) (tgt := 100) hx hb rfl dX10_count_93 (by decide) (fun c_10 => ?_) (fun c_10 => ?_)
            · skip
              refine lv_iconst (v := 0) hx hb dX10_count_100 (by decide) ?_
              refine lv_iadd hx hb dX10_count_101 ?_
              have rg_11 := i32_r iv69_2
              refine lv_topi (fun x_12 ex_12 => ?_)
              have zx_12 : x_12.toInt = iv69_2.toInt + 0 := by rw [ex_12]; exact i32_add rfl (by decide) (by omega) (by omega)
              refine lv_istore_n (lv' := [(2, .int x_12), (3, .int iv69_3), (0, .ref x), (1, .int i1)]) hx hb dX10_count_102 rfl hl (by decide) rfl (fun ls hl => ?_)
              obtain ⟨x_13, ex_13⟩ : ∃ y : Int32, y = iv69_3 + Int32.ofInt 1 := ⟨_, rfl⟩
              have rg_14 := i32_r iv69_3
              have zx_13 : x_13.toInt = iv69_3.toInt + (1) := by rw [ex_13]; exact i32_add rfl (by decide) (by omega) (by omega)
              refine lv_iinc (v := x_13) (lv' := [(3, .int x_13), (2, .int x_12), (0, .ref x), (1, .int i1)]) hx hb dX10_count_103 hl (k := 1) rfl ex_13.symm (by decide) rfl (fun ls hl => ?_)
              refine lv_goto (tgt := 69) hx hb dX10_count_106 (by decide) ?_
              exact ih69 x_12 x_13 _ _ hL1 hl1 (by omega) (by omega) (by omega) (by omega) (hz_lj_s 0 vi69_0 (by omega) (Or.inr ⟨rfl, (fun z => by have z9 := z.2; rw [show df iv69_3.toInt.toNat = x_9 from ax_9.symm] at z9; omega)⟩) (by omega) zx_13) (by omega) (by omega) ls (by omega) hW hT hM   (lv_sub hl [0, 1, 2, 3] rfl)
            · skip
              refine lv_iconst (v := 1) hx hb dX10_count_96 (by decide) ?_
              refine lv_goto (tgt := 101) hx hb dX10_count_97 (by decide) ?_
              refine lv_iadd hx hb dX10_count_101 ?_
              have rg_15 := i32_r iv69_2
              refine lv_topi (fun x_16 ex_16 => ?_)
              have zx_16 : x_16.toInt = iv69_2.toInt + 1 := by rw [ex_16]; exact i32_add rfl (by decide) (by omega) (by omega)
              refine lv_istore_n (lv' := [(2, .int x_16), (3, .int iv69_3), (0, .ref x), (1, .int i1)]) hx hb dX10_count_102 rfl hl (by decide) rfl (fun ls hl => ?_)
              obtain ⟨x_17, ex_17⟩ : ∃ y : Int32, y = iv69_3 + Int32.ofInt 1 := ⟨_, rfl⟩
              have rg_18 := i32_r iv69_3
              have zx_17 : x_17.toInt = iv69_3.toInt + (1) := by rw [ex_17]; exact i32_add rfl (by decide) (by omega) (by omega)
              refine lv_iinc (v := x_17) (lv' := [(3, .int x_17), (2, .int x_16), (0, .ref x), (1, .int i1)]) hx hb dX10_count_103 hl (k := 1) rfl ex_17.symm (by decide) rfl (fun ls hl => ?_)
              refine lv_goto (tgt := 69) hx hb dX10_count_106 (by decide) ?_
              exact ih69 x_16 x_17 _ _ hL1 hl1 (by omega) (by omega) (by omega) (by omega) (hz_lj_s 1 vi69_0 (by omega) (Or.inl ⟨rfl, (by rw [show jf iv69_3.toInt.toNat = x_3 from ax_3.symm]; omega), (by rw [show df iv69_3.toInt.toNat = x_9 from ax_9.symm]; omega)⟩) (by omega) zx_17) (by omega) (by omega) ls (by omega) hW hT hM   (lv_sub hl [0, 1, 2, 3] rfl)
    have zk_0 : (0 : Int32).toInt = 0 := by decide
    have zk_0 : (0 : Int32).toInt = 0 := by decide
    exact loop69 41 (0 : Int32) (0 : Int32) _ _ L h (by decide) (by decide) (by decide) (by decide) (by rw [zk_0]; rfl) (by omega) (by omega) ls (by omega) hW hT hM   hl
  · refine lv_tableIn (off := 108) (tgt := 111) hx hb dX10_count_3 (by omega) (by omega) (by rw [c_1]; rfl) (by decide) ?_
    refine lv_aload_n hx hb dX10_count_111 rfl (lv_at hl 1 rfl) ?_
    refine hk_geti hx hb hts hC_10 hown hW (gx.S hM) tt_10 29 (by decide) rfl kw_1172 ⟨rfl, rfl, rfl⟩ ((hM.o gx trivial rfl).1.trans f_x_29) dX10_count_112 ?_
    exact hx_reti hx hb hr hlk hW ⟨(Or.inr ⟨by omega, (by rw [show i1.toInt.toNat = 4 by omega]; rfl)⟩), hT, hM⟩ dX10_count_115
  · refine lv_tableIn (off := 113) (tgt := 116) hx hb dX10_count_3 (by omega) (by omega) (by rw [c_1]; rfl) (by decide) ?_
    refine lv_aload_n hx hb dX10_count_116 rfl (lv_at hl 1 rfl) ?_
    refine hk_geti hx hb hts hC_10 hown hW (gx.S hM) tt_10 36 (by decide) rfl kw_1179 ⟨rfl, rfl, rfl⟩ ((hM.o gx trivial rfl).1.trans f_x_36) dX10_count_117 ?_
    exact hx_reti hx hb hr hlk hW ⟨(Or.inr ⟨by omega, (by rw [show i1.toInt.toNat = 5 by omega]; rfl)⟩), hT, hM⟩ dX10_count_120
  · refine lv_tableIn (off := 118) (tgt := 121) hx hb dX10_count_3 (by omega) (by omega) (by rw [c_1]; rfl) (by decide) ?_
    refine lv_aload_n hx hb dX10_count_121 rfl (lv_at hl 1 rfl) ?_
    refine hk_geti hx hb hts hC_10 hown hW (gx.S hM) tt_10 59 (by decide) rfl kw_1202 ⟨rfl, rfl, rfl⟩ ((hM.o gx trivial rfl).1.trans f_x_59) dX10_count_122 ?_
    exact hx_reti hx hb hr hlk hW ⟨(Or.inr ⟨by omega, (by rw [show i1.toInt.toNat = 6 by omega]; rfl)⟩), hT, hM⟩ dX10_count_125
  · refine lv_tableIn (off := 123) (tgt := 126) hx hb dX10_count_3 (by omega) (by omega) (by rw [c_1]; rfl) (by decide) ?_
    refine lv_aload_n hx hb dX10_count_126 rfl (lv_at hl 1 rfl) ?_
    refine hk_geti hx hb hts hC_10 hown hW (gx.S hM) tt_10 7 (by decide) rfl kw_1150 ⟨rfl, rfl, rfl⟩ ((hM.o gx trivial rfl).1.trans f_x_7) dX10_count_127 ?_
    exact hx_reti hx hb hr hlk hW ⟨(Or.inr ⟨by omega, (by rw [show i1.toInt.toNat = 7 by omega]; rfl)⟩), hT, hM⟩ dX10_count_130
  · refine lv_tableIn (off := 128) (tgt := 131) hx hb dX10_count_3 (by omega) (by omega) (by rw [c_1]; rfl) (by decide) ?_
    refine lv_aload_n hx hb dX10_count_131 rfl (lv_at hl 1 rfl) ?_
    refine hk_geti hx hb hts hC_10 hown hW (gx.S hM) tt_10 90 (by decide) rfl kw_1233 ⟨rfl, rfl, rfl⟩ ((hM.o gx trivial rfl).1.trans f_x_90) dX10_count_132 ?_
    exact hx_reti hx hb hr hlk hW ⟨(Or.inr ⟨by omega, (by rw [show i1.toInt.toNat = 8 by omega]; rfl)⟩), hT, hM⟩ dX10_count_135
end
section
/-! RINGS: the best of all, as it is looked for by both sides -/
def hz_of (n l : Int) (g : Nat → Int) (o : Int × Int × (Nat → Int)) : Int × Int × (Nat → Int) := if l = 0 ∨ l < o.1 ∨ (l = o.1 ∧ o.2.1 ≤ n) then o else (l, n, g)
def hz_g (a b c d : Int) : Nat → Int := fun i => if i = 0 then a else if i = 1 then b else if i = 2 then c else d
def hz_F4 (V : Int → Int) (a b c l : Int) (o : Int × Int × (Nat → Int)) : Nat → Int × Int × (Nat → Int)
  | 0 => o
  | k + 1 => if a + 1 + (k : Int) = b ∨ a + 1 + (k : Int) = c ∨ hz_mi l (V (40 * c + (a + 1 + k))) = 0 then hz_F4 V a b c l o k else hz_of 4 (hz_mi (hz_mi l (V (40 * c + (a + 1 + k)))) (V (40 * (a + 1 + k) + a))) (hz_g a b c (a + 1 + k)) (hz_F4 V a b c l o k)
def hz_F3 (V : Int → Int) (np a b l : Int) (o : Int × Int × (Nat → Int)) : Nat → Int × Int × (Nat → Int)
  | 0 => o
  | k + 1 => if a + 1 + (k : Int) = b ∨ hz_mi l (V (40 * b + (a + 1 + k))) = 0 then hz_F3 V np a b l o k else hz_F4 V a b (a + 1 + k) (hz_mi l (V (40 * b + (a + 1 + k)))) (hz_of 3 (hz_mi (hz_mi l (V (40 * b + (a + 1 + k)))) (V (40 * (a + 1 + k) + a))) (hz_g a b (a + 1 + k) 0) (hz_F3 V np a b l o k)) (np - a - 1).toNat
def hz_F2 (V : Int → Int) (np a : Int) (o : Int × Int × (Nat → Int)) : Nat → Int × Int × (Nat → Int)
  | 0 => o
  | k + 1 => if V (40 * a + (a + 1 + k)) = 0 then hz_F2 V np a o k else hz_F3 V np a (a + 1 + k) (V (40 * a + (a + 1 + k))) (hz_of 2 (hz_mi (V (40 * a + (a + 1 + k))) (V (40 * (a + 1 + k) + a))) (hz_g a (a + 1 + k) 0 0) (hz_F2 V np a o k)) (np - a - 1).toNat
def hz_F1 (V : Int → Int) (np : Int) : Nat → Int × Int × (Nat → Int)
  | 0 => (0, 0, fun _ => 0)
  | k + 1 => hz_F2 V np k (hz_F1 V np k) (np - k - 1).toNat
theorem hz_of_lo {n l : Int} {g : Nat → Int} {o : Int × Int × (Nat → Int)} (h : l < o.1) : hz_of n l g o = o := by unfold hz_of; rw [if_pos (Or.inr (Or.inl h))]
theorem hz_mi_l {a b : Int} : hz_mi a b ≤ a ∧ hz_mi a b ≤ b := by unfold hz_mi; split <;> omega
theorem hz_F4_lo {V : Int → Int} {a b c l : Int} {o : Int × Int × (Nat → Int)} (h : l < o.1) : ∀ k : Nat, hz_F4 V a b c l o k = o := by
  intro k
  induction k with
  | zero => rfl
  | succ k ih =>
    simp only [hz_F4, ih]
    split
    · rfl
    · have h1 := hz_mi_l (a := l) (b := V (40 * c + (a + 1 + k)))
      have h2 := hz_mi_l (a := hz_mi l (V (40 * c + (a + 1 + k)))) (b := V (40 * (a + 1 + k) + a))
      exact hz_of_lo (by omega)
theorem hz_F3_lo {V : Int → Int} {np a b l : Int} {o : Int × Int × (Nat → Int)} (h : l < o.1) : ∀ k : Nat, hz_F3 V np a b l o k = o := by
  intro k
  induction k with
  | zero => rfl
  | succ k ih =>
    simp only [hz_F3, ih]
    split
    · rfl
    · have h1 := hz_mi_l (a := l) (b := V (40 * b + (a + 1 + k)))
      have h2 := hz_mi_l (a := hz_mi l (V (40 * b + (a + 1 + k)))) (b := V (40 * (a + 1 + k) + a))
      rw [hz_of_lo (o := o) (by omega)]
      exact hz_F4_lo (by omega) _
/-- the state as the heap has it -/
def hz_SR (o : Int × Int × (Nat → Int)) (bl bs : Int) (br : Nat → Int32) : Prop := o.1 = bl ∧ o.2.1 = bs ∧ (0 ≤ bl ∧ (bl = 0 → bs = 0) ∧ 0 ≤ bs ∧ bs ≤ 4) ∧ ∀ i : Nat, (i : Int) < bs → (br i).toInt = o.2.2 i
theorem hz_SR_0 {br : Nat → Int32} {bl bs : Int} {np : Int} {V : Int → Int} (h1 : bl = 0) (h2 : bs = 0) : hz_SR (hz_F1 V np 0) bl bs br := by
  subst h1; subst h2
  exact ⟨rfl, rfl, by omega, fun i hi => by exfalso; omega⟩
theorem hz_SR_n {o : Int × Int × (Nat → Int)} {n l bl bs : Int} {g : Nat → Int} {br : Nat → Int32} (h : hz_SR o bl bs br) (hc : l = 0 ∨ l < bl ∨ (l = bl ∧ bs ≤ n)) : hz_SR (hz_of n l g o) bl bs br := by
  unfold hz_of
  rw [if_pos (by rw [h.1, h.2.1]; exact hc)]
  exact h
theorem hz_SR_y {o : Int × Int × (Nat → Int)} {n l bl bs bl1 bs1 : Int} {g : Nat → Int} {br br1 : Nat → Int32} (h : hz_SR o bl bs br) (hc : ¬ (l = 0 ∨ l < bl ∨ (l = bl ∧ bs ≤ n))) (e1 : bl1 = l) (e2 : bs1 = n) (hn : 0 ≤ n ∧ n ≤ 4) (hg : ∀ i : Nat, (i : Int) < n → (br1 i).toInt = g i) : hz_SR (hz_of n l g o) bl1 bs1 br1 := by
  subst e1; subst e2
  have hb := h.2.2.1
  unfold hz_of
  rw [if_neg (by rw [h.1, h.2.1]; exact hc)]
  exact ⟨rfl, rfl, by omega, hg⟩
section HZF
variable {V : Int → Int} {np a b c d d1 l bl bs : Int} {o : Int × Int × (Nat → Int)} {br : Nat → Int32}
theorem hz_F4_n (h : hz_SR (hz_F4 V a b c l o (d - a - 1).toNat) bl bs br) (hd : a + 1 ≤ d) (hs : d = b ∨ d = c ∨ hz_mi l (V (40 * c + d)) = 0) (e : d1 = d + 1) : hz_SR (hz_F4 V a b c l o (d1 - a - 1).toNat) bl bs br := by
  subst e
  have e1 : (d + 1 - a - 1).toNat = (d - a - 1).toNat + 1 := by omega
  have e2 : a + 1 + (((d - a - 1).toNat : Nat) : Int) = d := by omega
  rw [e1]; simp only [hz_F4, e2]; rw [if_pos hs]; exact h
theorem hz_F4_y (h : hz_SR (hz_of 4 (hz_mi (hz_mi l (V (40 * c + d))) (V (40 * d + a))) (hz_g a b c d) (hz_F4 V a b c l o (d - a - 1).toNat)) bl bs br) (hd : a + 1 ≤ d) (hs : ¬ (d = b ∨ d = c ∨ hz_mi l (V (40 * c + d)) = 0)) (e : d1 = d + 1) : hz_SR (hz_F4 V a b c l o (d1 - a - 1).toNat) bl bs br := by
  subst e
  have e1 : (d + 1 - a - 1).toNat = (d - a - 1).toNat + 1 := by omega
  have e2 : a + 1 + (((d - a - 1).toNat : Nat) : Int) = d := by omega
  rw [e1]; simp only [hz_F4, e2]; rw [if_neg hs]; exact h
theorem hz_F4_p (h : hz_SR (hz_F4 V a b c l o (d - a - 1).toNat) bl bs br) (hd : a + 1 ≤ d) (hp : V (40 * c + d) < bl) (e : d1 = d + 1) : hz_SR (hz_F4 V a b c l o (d1 - a - 1).toNat) bl bs br := by
  by_cases hs : d = b ∨ d = c ∨ hz_mi l (V (40 * c + d)) = 0
  · exact hz_F4_n h hd hs e
  · refine hz_F4_y ?_ hd hs e
    have h1 := hz_mi_l (a := l) (b := V (40 * c + d))
    have h2 := hz_mi_l (a := hz_mi l (V (40 * c + d))) (b := V (40 * d + a))
    exact hz_SR_n h (Or.inr (Or.inl (by omega)))
theorem hz_F3_n (h : hz_SR (hz_F3 V np a b l o (d - a - 1).toNat) bl bs br) (hd : a + 1 ≤ d) (hs : d = b ∨ hz_mi l (V (40 * b + d)) = 0) (e : d1 = d + 1) : hz_SR (hz_F3 V np a b l o (d1 - a - 1).toNat) bl bs br := by
  subst e
  have e1 : (d + 1 - a - 1).toNat = (d - a - 1).toNat + 1 := by omega
  have e2 : a + 1 + (((d - a - 1).toNat : Nat) : Int) = d := by omega
  rw [e1]; simp only [hz_F3, e2]; rw [if_pos hs]; exact h
theorem hz_F3_y (h : hz_SR (hz_F4 V a b d (hz_mi l (V (40 * b + d))) (hz_of 3 (hz_mi (hz_mi l (V (40 * b + d))) (V (40 * d + a))) (hz_g a b d 0) (hz_F3 V np a b l o (d - a - 1).toNat)) (np - a - 1).toNat) bl bs br) (hd : a + 1 ≤ d) (hs : ¬ (d = b ∨ hz_mi l (V (40 * b + d)) = 0)) (e : d1 = d + 1) : hz_SR (hz_F3 V np a b l o (d1 - a - 1).toNat) bl bs br := by
  subst e
  have e1 : (d + 1 - a - 1).toNat = (d - a - 1).toNat + 1 := by omega
  have e2 : a + 1 + (((d - a - 1).toNat : Nat) : Int) = d := by omega
  rw [e1]; simp only [hz_F3, e2]; rw [if_neg hs]; exact h
theorem hz_F3_p (h : hz_SR (hz_F3 V np a b l o (d - a - 1).toNat) bl bs br) (hd : a + 1 ≤ d) (hp : V (40 * b + d) < bl) (e : d1 = d + 1) : hz_SR (hz_F3 V np a b l o (d1 - a - 1).toNat) bl bs br := by
  by_cases hs : d = b ∨ hz_mi l (V (40 * b + d)) = 0
  · exact hz_F3_n h hd hs e
  · refine hz_F3_y ?_ hd hs e
    have h1 := hz_mi_l (a := l) (b := V (40 * b + d))
    have h2 := hz_mi_l (a := hz_mi l (V (40 * b + d))) (b := V (40 * d + a))
    rw [hz_of_lo (by rw [h.1]; omega), hz_F4_lo (by rw [h.1]; omega)]
    exact h
theorem hz_F2_n (h : hz_SR (hz_F2 V np a o (d - a - 1).toNat) bl bs br) (hd : a + 1 ≤ d) (hs : V (40 * a + d) = 0) (e : d1 = d + 1) : hz_SR (hz_F2 V np a o (d1 - a - 1).toNat) bl bs br := by
  subst e
  have e1 : (d + 1 - a - 1).toNat = (d - a - 1).toNat + 1 := by omega
  have e2 : a + 1 + (((d - a - 1).toNat : Nat) : Int) = d := by omega
  rw [e1]; simp only [hz_F2, e2]; rw [if_pos hs]; exact h
theorem hz_F2_y (h : hz_SR (hz_F3 V np a d (V (40 * a + d)) (hz_of 2 (hz_mi (V (40 * a + d)) (V (40 * d + a))) (hz_g a d 0 0) (hz_F2 V np a o (d - a - 1).toNat)) (np - a - 1).toNat) bl bs br) (hd : a + 1 ≤ d) (hs : ¬ V (40 * a + d) = 0) (e : d1 = d + 1) : hz_SR (hz_F2 V np a o (d1 - a - 1).toNat) bl bs br := by
  subst e
  have e1 : (d + 1 - a - 1).toNat = (d - a - 1).toNat + 1 := by omega
  have e2 : a + 1 + (((d - a - 1).toNat : Nat) : Int) = d := by omega
  rw [e1]; simp only [hz_F2, e2]; rw [if_neg hs]; exact h
theorem hz_F2_p (h : hz_SR (hz_F2 V np a o (d - a - 1).toNat) bl bs br) (hd : a + 1 ≤ d) (hp : V (40 * a + d) < bl) (e : d1 = d + 1) : hz_SR (hz_F2 V np a o (d1 - a - 1).toNat) bl bs br := by
  by_cases hs : V (40 * a + d) = 0
  · exact hz_F2_n h hd hs e
  · refine hz_F2_y ?_ hd hs e
    have h1 := hz_mi_l (a := V (40 * a + d)) (b := V (40 * d + a))
    rw [hz_of_lo (by rw [h.1]; omega), hz_F3_lo (by rw [h.1]; omega)]
    exact h
theorem hz_F1_s (h : hz_SR (hz_F2 V np a (hz_F1 V np a.toNat) (np - a - 1).toNat) bl bs br) (h0 : 0 ≤ a) (e : d1 = a + 1) : hz_SR (hz_F1 V np d1.toNat) bl bs br := by
  subst e
  have e1 : (a + 1).toNat = a.toNat + 1 := by omega
  have e2 : ((a.toNat : Nat) : Int) = a := by omega
  rw [e1]; simp only [hz_F1, e2]; exact h
end HZF
/-! what a ring is: of those that are kept -/
def hz_RG (V : Int → Int) (np : Int) (o : Int × Int × (Nat → Int)) : Prop := 0 ≤ o.1 ∧ (o.2.1 = 0 ∨ (2 ≤ o.2.1 ∧ o.2.1 ≤ 4 ∧ 1 ≤ o.1 ∧ (∀ i : Nat, (i : Int) < o.2.1 → 0 ≤ o.2.2 i ∧ o.2.2 i < np) ∧ (∀ i j : Nat, (i : Int) < o.2.1 → (j : Int) < o.2.1 → i ≠ j → o.2.2 i ≠ o.2.2 j) ∧ (∀ i : Nat, (i : Int) < o.2.1 → o.1 ≤ V (40 * o.2.2 i + o.2.2 (((i : Int) + 1) % o.2.1).toNat)) ∧ ∃ i : Nat, (i : Int) < o.2.1 ∧ o.1 = V (40 * o.2.2 i + o.2.2 (((i : Int) + 1) % o.2.1).toNat)))
theorem hz_mi_c {a b : Int} : hz_mi a b = a ∨ hz_mi a b = b := by unfold hz_mi; split <;> omega
theorem hz_g_0 {a b c d : Int} : hz_g a b c d 0 = a := by unfold hz_g; rw [if_pos rfl]
theorem hz_g_1 {a b c d : Int} : hz_g a b c d 1 = b := by unfold hz_g; rw [if_neg (by decide), if_pos rfl]
theorem hz_g_2 {a b c d : Int} : hz_g a b c d 2 = c := by unfold hz_g; rw [if_neg (by decide), if_neg (by decide), if_pos rfl]
theorem hz_g_3 {a b c d : Int} : hz_g a b c d 3 = d := by unfold hz_g; rw [if_neg (by decide), if_neg (by decide), if_neg (by decide)]
theorem hz_RG_2 {V : Int → Int} {np a b : Int} {o : Int × Int × (Nat → Int)} (h : hz_RG V np o) (ha : 0 ≤ a ∧ a < np) (hb : 0 ≤ b ∧ b < np) (n1 : a ≠ b) (hl : 0 ≤ hz_mi (V (40 * a + b)) (V (40 * b + a))) : hz_RG V np (hz_of 2 (hz_mi (V (40 * a + b)) (V (40 * b + a))) (hz_g a b 0 0) o) := by
  have m1 := hz_mi_l (a := V (40 * a + b)) (b := V (40 * b + a))
  have m2 := hz_mi_c (a := V (40 * a + b)) (b := V (40 * b + a))
  unfold hz_of
  split
  · exact h
  · rename_i hc
    refine ⟨by show 0 ≤ hz_mi _ _; omega, Or.inr ⟨(by show (2 : Int) ≤ 2; decide), (by show (2 : Int) ≤ 4; decide), by show 1 ≤ hz_mi _ _; omega, ?_, ?_, ?_, ?_⟩⟩
    · intro i hi
      have hi : (i : Int) < 2 := hi
      rcases (show i = 0 ∨ i = 1 by omega) with z | z <;> subst z
      · exact ha
      · exact hb
    · intro i j hi hj hij
      have hi : (i : Int) < 2 := hi
      have hj : (j : Int) < 2 := hj
      rcases (show i = 0 ∨ i = 1 by omega) with z | z <;> rcases (show j = 0 ∨ j = 1 by omega) with y | y <;> subst z <;> subst y
      · exact absurd rfl hij
      · exact n1
      · exact fun e => n1 e.symm
      · exact absurd rfl hij
    · intro i hi
      have hi : (i : Int) < 2 := hi
      rcases (show i = 0 ∨ i = 1 by omega) with z | z <;> subst z
      · exact m1.1
      · simpa [hz_g] using m1.2
    · rcases m2 with z | z
      · exact ⟨0, (show ((0 : Nat) : Int) < 2 by decide), z⟩
      · exact ⟨1, (show ((1 : Nat) : Int) < 2 by decide), (by simpa [hz_g] using z)⟩
theorem hz_RG_3 {V : Int → Int} {np a b c : Int} {o : Int × Int × (Nat → Int)} (h : hz_RG V np o) (ha : 0 ≤ a ∧ a < np) (hb : 0 ≤ b ∧ b < np) (hc : 0 ≤ c ∧ c < np) (n1 : a ≠ b) (n2 : a ≠ c) (n3 : b ≠ c) (hl : 0 ≤ hz_mi (hz_mi (V (40 * a + b)) (V (40 * b + c))) (V (40 * c + a))) : hz_RG V np (hz_of 3 (hz_mi (hz_mi (V (40 * a + b)) (V (40 * b + c))) (V (40 * c + a))) (hz_g a b c 0) o) := by
  have m1 := hz_mi_l (a := V (40 * a + b)) (b := V (40 * b + c))
  have m2 := hz_mi_c (a := V (40 * a + b)) (b := V (40 * b + c))
  have m3 := hz_mi_l (a := hz_mi (V (40 * a + b)) (V (40 * b + c))) (b := V (40 * c + a))
  have m4 := hz_mi_c (a := hz_mi (V (40 * a + b)) (V (40 * b + c))) (b := V (40 * c + a))
  unfold hz_of
  split
  · exact h
  · rename_i hk
    refine ⟨by show 0 ≤ hz_mi _ _; omega, Or.inr ⟨(by show (2 : Int) ≤ 3; decide), (by show (3 : Int) ≤ 4; decide), by show 1 ≤ hz_mi _ _; omega, ?_, ?_, ?_, ?_⟩⟩
    · intro i hi
      have hi : (i : Int) < 3 := hi
      rcases (show i = 0 ∨ i = 1 ∨ i = 2 by omega) with z | z | z <;> subst z
      · exact ha
      · exact hb
      · exact hc
    · intro i j hi hj hij
      have hi : (i : Int) < 3 := hi
      have hj : (j : Int) < 3 := hj
      rcases (show i = 0 ∨ i = 1 ∨ i = 2 by omega) with z | z | z <;> rcases (show j = 0 ∨ j = 1 ∨ j = 2 by omega) with y | y | y <;> subst z <;> subst y <;> first | exact absurd rfl hij | exact n1 | exact n2 | exact n3 | exact fun e => n1 e.symm | exact fun e => n2 e.symm | exact fun e => n3 e.symm
    · intro i hi
      have hi : (i : Int) < 3 := hi
      rcases (show i = 0 ∨ i = 1 ∨ i = 2 by omega) with z | z | z <;> subst z
      · exact Int.le_trans m3.1 m1.1
      · exact Int.le_trans m3.1 m1.2
      · simpa [hz_g] using m3.2
    · rcases m4 with z | z
      · rcases m2 with y | y
        · exact ⟨0, (show ((0 : Nat) : Int) < 3 by decide), z.trans y⟩
        · exact ⟨1, (show ((1 : Nat) : Int) < 3 by decide), z.trans y⟩
      · exact ⟨2, (show ((2 : Nat) : Int) < 3 by decide), (by simpa [hz_g] using z)⟩
theorem hz_RG_4 {V : Int → Int} {np a b c d : Int} {o : Int × Int × (Nat → Int)} (h : hz_RG V np o) (ha : 0 ≤ a ∧ a < np) (hb : 0 ≤ b ∧ b < np) (hc : 0 ≤ c ∧ c < np) (hd : 0 ≤ d ∧ d < np) (n1 : a ≠ b) (n2 : a ≠ c) (n3 : b ≠ c) (n4 : a ≠ d) (n5 : b ≠ d) (n6 : c ≠ d) (hl : 0 ≤ hz_mi (hz_mi (hz_mi (V (40 * a + b)) (V (40 * b + c))) (V (40 * c + d))) (V (40 * d + a))) : hz_RG V np (hz_of 4 (hz_mi (hz_mi (hz_mi (V (40 * a + b)) (V (40 * b + c))) (V (40 * c + d))) (V (40 * d + a))) (hz_g a b c d) o) := by
  have m1 := hz_mi_l (a := V (40 * a + b)) (b := V (40 * b + c))
  have m2 := hz_mi_c (a := V (40 * a + b)) (b := V (40 * b + c))
  have m3 := hz_mi_l (a := hz_mi (V (40 * a + b)) (V (40 * b + c))) (b := V (40 * c + d))
  have m4 := hz_mi_c (a := hz_mi (V (40 * a + b)) (V (40 * b + c))) (b := V (40 * c + d))
  have m5 := hz_mi_l (a := hz_mi (hz_mi (V (40 * a + b)) (V (40 * b + c))) (V (40 * c + d))) (b := V (40 * d + a))
  have m6 := hz_mi_c (a := hz_mi (hz_mi (V (40 * a + b)) (V (40 * b + c))) (V (40 * c + d))) (b := V (40 * d + a))
  unfold hz_of
  split
  · exact h
  · rename_i hk
    refine ⟨by show 0 ≤ hz_mi _ _; omega, Or.inr ⟨(by show (2 : Int) ≤ 4; decide), (by show (4 : Int) ≤ 4; decide), by show 1 ≤ hz_mi _ _; omega, ?_, ?_, ?_, ?_⟩⟩
    · intro i hi
      have hi : (i : Int) < 4 := hi
      rcases (show i = 0 ∨ i = 1 ∨ i = 2 ∨ i = 3 by omega) with z | z | z | z <;> subst z
      · exact ha
      · exact hb
      · exact hc
      · exact hd
    · intro i j hi hj hij
      have hi : (i : Int) < 4 := hi
      have hj : (j : Int) < 4 := hj
      rcases (show i = 0 ∨ i = 1 ∨ i = 2 ∨ i = 3 by omega) with z | z | z | z <;> rcases (show j = 0 ∨ j = 1 ∨ j = 2 ∨ j = 3 by omega) with y | y | y | y <;> subst z <;> subst y <;> first | exact absurd rfl hij | exact n1 | exact n2 | exact n3 | exact n4 | exact n5 | exact n6 | exact fun e => n1 e.symm | exact fun e => n2 e.symm | exact fun e => n3 e.symm | exact fun e => n4 e.symm | exact fun e => n5 e.symm | exact fun e => n6 e.symm
    · intro i hi
      have hi : (i : Int) < 4 := hi
      rcases (show i = 0 ∨ i = 1 ∨ i = 2 ∨ i = 3 by omega) with z | z | z | z <;> subst z
      · exact Int.le_trans m5.1 (Int.le_trans m3.1 m1.1)
      · exact Int.le_trans m5.1 (Int.le_trans m3.1 m1.2)
      · exact Int.le_trans m5.1 m3.2
      · simpa [hz_g] using m5.2
    · rcases m6 with z | z
      · rcases m4 with y | y
        · rcases m2 with w | w
          · exact ⟨0, (show ((0 : Nat) : Int) < 4 by decide), z.trans (y.trans w)⟩
          · exact ⟨1, (show ((1 : Nat) : Int) < 4 by decide), z.trans (y.trans w)⟩
        · exact ⟨2, (show ((2 : Nat) : Int) < 4 by decide), z.trans y⟩
      · exact ⟨3, (show ((3 : Nat) : Int) < 4 by decide), (by simpa [hz_g] using z)⟩
theorem hz_F4_R {V : Int → Int} {np a b c : Int} {o : Int × Int × (Nat → Int)} (hV : ∀ x, 0 ≤ V x) (h : hz_RG V np o) (ha : 0 ≤ a ∧ a < np) (hb : 0 ≤ b ∧ b < np) (hc : 0 ≤ c ∧ c < np) (n1 : a ≠ b) (n2 : a ≠ c) (n3 : b ≠ c) : ∀ k : Nat, (k : Int) ≤ np - a - 1 → hz_RG V np (hz_F4 V a b c (hz_mi (V (40 * a + b)) (V (40 * b + c))) o k) := by
  intro k
  induction k with
  | zero => intro _; exact h
  | succ k ih =>
    intro hk
    simp only [hz_F4]
    split
    · exact ih (by omega)
    · rename_i hs
      have q0 : ∀ x y : Int, 0 ≤ x → 0 ≤ y → 0 ≤ hz_mi x y := fun x y hx hy => by unfold hz_mi; split <;> omega
      exact hz_RG_4 (ih (by omega)) ha hb hc ⟨by omega, by omega⟩ n1 n2 n3 (by omega) (fun e => hs (Or.inl e.symm)) (fun e => hs (Or.inr (Or.inl e.symm))) (q0 _ _ (q0 _ _ (q0 _ _ (hV _) (hV _)) (hV _)) (hV _))
theorem hz_F3_R {V : Int → Int} {np a b : Int} {o : Int × Int × (Nat → Int)} (hV : ∀ x, 0 ≤ V x) (h : hz_RG V np o) (ha : 0 ≤ a ∧ a < np) (hb : 0 ≤ b ∧ b < np) (n1 : a ≠ b) : ∀ k : Nat, (k : Int) ≤ np - a - 1 → hz_RG V np (hz_F3 V np a b (V (40 * a + b)) o k) := by
  intro k
  induction k with
  | zero => intro _; exact h
  | succ k ih =>
    intro hk
    simp only [hz_F3]
    split
    · exact ih (by omega)
    · rename_i hs
      have q0 : ∀ x y : Int, 0 ≤ x → 0 ≤ y → 0 ≤ hz_mi x y := fun x y hx hy => by unfold hz_mi; split <;> omega
      exact hz_F4_R hV (hz_RG_3 (ih (by omega)) ha hb ⟨by omega, by omega⟩ n1 (by omega) (fun e => hs (Or.inl e.symm)) (q0 _ _ (q0 _ _ (hV _) (hV _)) (hV _))) ha hb ⟨by omega, by omega⟩ n1 (by omega) (fun e => hs (Or.inl e.symm)) _ (by omega)
theorem hz_F2_R {V : Int → Int} {np a : Int} {o : Int × Int × (Nat → Int)} (hV : ∀ x, 0 ≤ V x) (h : hz_RG V np o) (ha : 0 ≤ a ∧ a < np) : ∀ k : Nat, (k : Int) ≤ np - a - 1 → hz_RG V np (hz_F2 V np a o k) := by
  intro k
  induction k with
  | zero => intro _; exact h
  | succ k ih =>
    intro hk
    simp only [hz_F2]
    split
    · exact ih (by omega)
    · have q0 : ∀ x y : Int, 0 ≤ x → 0 ≤ y → 0 ≤ hz_mi x y := fun x y hx hy => by unfold hz_mi; split <;> omega
      exact hz_F3_R hV (hz_RG_2 (ih (by omega)) ha ⟨by omega, by omega⟩ (by omega) (q0 _ _ (hV _) (hV _))) ha ⟨by omega, by omega⟩ (by omega) _ (by omega)
theorem hz_F1_R {V : Int → Int} {np : Int} (hV : ∀ x, 0 ≤ V x) : ∀ k : Nat, (k : Int) ≤ np → hz_RG V np (hz_F1 V np k) := by
  intro k
  induction k with
  | zero => intro _; exact ⟨Int.le_refl _, Or.inl rfl⟩
  | succ k ih => intro hk; exact hz_F2_R hV (ih (by omega)) ⟨by omega, by omega⟩ _ (by omega)
end
section
/-! NETTED: what is taken off, as both sides take it -/
abbrev hz_P := (Nat → Int32) × (Nat → Int32) × (Nat → Int32) × (Nat → Int32) × (Nat → Int32) × Nat
def hz_ap (P : hz_P) (c s now : Int32) : hz_P := (hx_up P.1 P.2.2.2.2.2 c, hx_up P.2.1 P.2.2.2.2.2 now, hx_up P.2.2.1 P.2.2.2.2.2 s, hx_up P.2.2.2.1 P.2.2.2.2.2 now, hx_up P.2.2.2.2.1 P.2.2.2.2.2 (-1), P.2.2.2.2.2 + 1)
def hz_nP (P : hz_P) : Nat := P.2.2.2.2.2
def hz_mt (ag bf : Nat → Int32) (q p : Int) (c : Nat) : Bool := decide ((ag c).toInt = q) && decide ((bf c).toInt = p)
theorem hz_mt_t {ag bf : Nat → Int32} {q p : Int} {c : Nat} : hz_mt ag bf q p c = true ↔ (ag c).toInt = q ∧ (bf c).toInt = p := by unfold hz_mt; rw [Bool.and_eq_true, decide_eq_true_iff, decide_eq_true_iff]
theorem hz_mt_f {ag bf : Nat → Int32} {q p : Int} {c : Nat} (h : ¬ ((ag c).toInt = q ∧ (bf c).toInt = p)) : hz_mt ag bf q p c = false := by
  cases e : hz_mt ag bf q p c with
  | false => rfl
  | true => exact absurd (hz_mt_t.mp e) h
/-- a sum taken off the claims below n: the payments behind it, and what is left of the sum -/
def hz_tk (R : hz_P → Nat → Int) (mt : Nat → Bool) (now : Int32) (P : hz_P) (s : Int) : Nat → hz_P × Int
  | 0 => (P, s)
  | n + 1 => if 0 < (hz_tk R mt now P s n).2 ∧ mt n = true ∧ 0 < R (hz_tk R mt now P s n).1 n then (hz_ap (hz_tk R mt now P s n).1 (Int32.ofNat n) (Int32.ofInt (hz_mi (hz_tk R mt now P s n).2 (R (hz_tk R mt now P s n).1 n))) now, (hz_tk R mt now P s n).2 - hz_mi (hz_tk R mt now P s n).2 (R (hz_tk R mt now P s n).1 n)) else hz_tk R mt now P s n
/-- the same, counted alone: what is left of the sum, how many payments -/
def hz_cn (r : Nat → Int) (mt : Nat → Bool) (s : Int) : Nat → Int × Int
  | 0 => (s, 0)
  | n + 1 => if 0 < (hz_cn r mt s n).1 ∧ mt n = true ∧ 0 < r n then ((hz_cn r mt s n).1 - hz_mi (hz_cn r mt s n).1 (r n), (hz_cn r mt s n).2 + 1) else hz_cn r mt s n
/-- what all claims below n that match have left -/
def hz_sm (r : Nat → Int) (mt : Nat → Bool) : Nat → Int
  | 0 => 0
  | n + 1 => hz_sm r mt n + (if mt n = true then r n else 0)
/-- how many claims below n have something left -/
def hz_op (r : Nat → Int) : Nat → Int
  | 0 => 0
  | n + 1 => hz_op r n + (if 0 < r n then 1 else 0)
section HZT
variable {R : hz_P → Nat → Int} {now : Int32} {N : Nat}
/-- what a payment does to what is left: of its claim alone -/
def hz_HR (R : hz_P → Nat → Int) (now : Int32) (N : Nat) : Prop := ∀ (P : hz_P) (c : Nat) (s : Int32), c < N → 0 < s.toInt → s.toInt ≤ R P c → ∀ c', c' < N → R (hz_ap P (Int32.ofNat c) s now) c' = (if c' = c then R P c - s.toInt else R P c')
def hz_RB (R : hz_P → Nat → Int) (N : Nat) (P : hz_P) : Prop := ∀ c : Nat, c < N → 0 ≤ R P c ∧ R P c ≤ 609999
theorem hz_ofI {x : Int} (h0 : 0 ≤ x) (h1 : x ≤ 2147483647) : (Int32.ofInt x).toInt = x := by
  rw [Int32.toInt_ofInt, Int.bmod_def, show ((Int32.size : Nat) : Int) = 4294967296 from rfl]; omega
theorem hz_tk_1 {mt : Nat → Bool} {P : hz_P} {s : Int} (HR : hz_HR R now N) (HB : hz_RB R N P) : ∀ n : Nat, n ≤ N → (∀ c, c < N → (n ≤ c ∨ mt c = false) → R (hz_tk R mt now P s n).1 c = R P c) ∧ (hz_tk R mt now P s n).2 = (hz_cn (R P) mt s n).1 ∧ ((hz_nP (hz_tk R mt now P s n).1 : Nat) : Int) = hz_nP P + (hz_cn (R P) mt s n).2 ∧ (∀ c, c < N → R (hz_tk R mt now P s n).1 c ≤ R P c) ∧ (∀ m : Nat, n ≤ m → m ≤ N → hz_sm (R (hz_tk R mt now P s n).1) mt m = hz_sm (R P) mt m - (s - (hz_tk R mt now P s n).2)) := by
  intro n
  induction n with
  | zero => intro _; exact ⟨fun _ _ _ => rfl, rfl, by simp [hz_tk, hz_cn], fun _ _ => Int.le_refl _, fun m _ _ => by simp [hz_tk]⟩
  | succ n ih =>
    intro hn
    obtain ⟨a, b, d, e, f⟩ := ih (by omega)
    have ra := a n (by omega) (Or.inl (Nat.le_refl _))
    have hb := HB n (by omega)
    by_cases z : 0 < (hz_tk R mt now P s n).2 ∧ mt n = true ∧ 0 < R (hz_tk R mt now P s n).1 n
    · have z2 : 0 < (hz_cn (R P) mt s n).1 ∧ mt n = true ∧ 0 < R P n := by rw [← b, ← ra]; exact z
      have mb := hz_mi_l (a := (hz_tk R mt now P s n).2) (b := R (hz_tk R mt now P s n).1 n)
      have mc := hz_mi_c (a := (hz_tk R mt now P s n).2) (b := R (hz_tk R mt now P s n).1 n)
      have et : hz_tk R mt now P s (n + 1) = (hz_ap (hz_tk R mt now P s n).1 (Int32.ofNat n) (Int32.ofInt (hz_mi (hz_tk R mt now P s n).2 (R (hz_tk R mt now P s n).1 n))) now, (hz_tk R mt now P s n).2 - hz_mi (hz_tk R mt now P s n).2 (R (hz_tk R mt now P s n).1 n)) := by
        show (if _ then _ else _) = _; rw [if_pos z]
      have ec : hz_cn (R P) mt s (n + 1) = ((hz_cn (R P) mt s n).1 - hz_mi (hz_cn (R P) mt s n).1 (R P n), (hz_cn (R P) mt s n).2 + 1) := by
        show (if _ then _ else _) = _; rw [if_pos z2]
      have eo : (Int32.ofInt (hz_mi (hz_tk R mt now P s n).2 (R (hz_tk R mt now P s n).1 n))).toInt = hz_mi (hz_tk R mt now P s n).2 (R (hz_tk R mt now P s n).1 n) := hz_ofI (by omega) (by omega)
      have hr := HR (hz_tk R mt now P s n).1 n (Int32.ofInt (hz_mi (hz_tk R mt now P s n).2 (R (hz_tk R mt now P s n).1 n))) (by omega) (by rw [eo]; omega) (by rw [eo]; omega)
      rw [et, ec]
      refine ⟨fun c hc hcn => ?_, ?_, ?_, fun c hc => ?_, fun m hm hmN => ?_⟩
      · have hne : c ≠ n := by
          rcases hcn with w | w
          · omega
          · intro ee; subst ee; rw [z.2.1] at w; cases w
        show R (hz_ap _ _ _ _) c = _
        rw [hr c hc, if_neg hne]
        exact a c hc (hcn.imp (fun w => by omega) id)
      · show _ - _ = _ - _
        rw [b, ra]
      · show ((hz_nP (hz_ap _ _ _ _) : Nat) : Int) = _
        have : hz_nP (hz_ap (hz_tk R mt now P s n).1 (Int32.ofNat n) (Int32.ofInt (hz_mi (hz_tk R mt now P s n).2 (R (hz_tk R mt now P s n).1 n))) now) = hz_nP (hz_tk R mt now P s n).1 + 1 := rfl
        rw [this]
        have : ((hz_nP (hz_tk R mt now P s n).1 + 1 : Nat) : Int) = (hz_nP (hz_tk R mt now P s n).1 : Int) + 1 := by omega
        rw [this, d]
        show _ = _ + (_ + 1)
        omega
      · show R (hz_ap _ _ _ _) c ≤ _
        rw [hr c hc]
        split
        · rename_i h1; subst h1; have := e c hc; rw [eo]; omega
        · exact e c hc
      · show hz_sm (R (hz_ap _ _ _ _)) mt m = _ - (s - (_ - _))
        have key : ∀ k : Nat, k ≤ N → hz_sm (R (hz_ap (hz_tk R mt now P s n).1 (Int32.ofNat n) (Int32.ofInt (hz_mi (hz_tk R mt now P s n).2 (R (hz_tk R mt now P s n).1 n))) now)) mt k = hz_sm (R (hz_tk R mt now P s n).1) mt k - (if n < k then hz_mi (hz_tk R mt now P s n).2 (R (hz_tk R mt now P s n).1 n) else 0) := by
          intro k
          induction k with
          | zero => intro _; rw [if_neg (by omega)]; simp [hz_sm]
          | succ k ihk =>
            intro hk
            have q := ihk (by omega)
            simp only [hz_sm]
            rw [q, hr k (by omega)]
            by_cases w : k = n
            · subst w
              rw [if_pos rfl, if_neg (by omega), if_pos (show k < k + 1 by omega), if_pos z.2.1, if_pos z.2.1, eo]; omega
            · rw [if_neg w]
              by_cases w2 : n < k
              · rw [if_pos w2, if_pos (show n < k + 1 by omega)]; omega
              · rw [if_neg w2, if_neg (show ¬ n < k + 1 by omega)]; omega
        rw [key m hmN, if_pos (by omega), f m (by omega) hmN]
        omega
    · have z2 : ¬ (0 < (hz_cn (R P) mt s n).1 ∧ mt n = true ∧ 0 < R P n) := by rw [← b, ← ra]; exact z
      have et : hz_tk R mt now P s (n + 1) = hz_tk R mt now P s n := by show (if _ then _ else _) = _; rw [if_neg z]
      have ec : hz_cn (R P) mt s (n + 1) = hz_cn (R P) mt s n := by show (if _ then _ else _) = _; rw [if_neg z2]
      rw [et, ec]
      exact ⟨fun c hc hcn => a c hc (hcn.imp (fun w => by omega) id), b, d, e, fun m hm hmN => f m (by omega) hmN⟩
/-- what is left of the sum -/
theorem hz_cn_l {r : Nat → Int} {mt : Nat → Bool} {s : Int} (hs : 0 ≤ s) (hr : ∀ c, c < N → 0 ≤ r c) : ∀ n : Nat, n ≤ N → 0 ≤ (hz_cn r mt s n).1 ∧ ((hz_cn r mt s n).1 = s - hz_sm r mt n ∨ ((hz_cn r mt s n).1 = 0 ∧ s ≤ hz_sm r mt n)) ∧ 0 ≤ hz_sm r mt n ∧ 0 ≤ (hz_cn r mt s n).2 := by
  intro n
  induction n with
  | zero => intro _; exact ⟨hs, Or.inl (by simp [hz_cn, hz_sm]), Int.le_refl _, Int.le_refl _⟩
  | succ n ih =>
    intro hn
    obtain ⟨a, b, d, e⟩ := ih (by omega)
    have hrn := hr n (by omega)
    have mb := hz_mi_l (a := (hz_cn r mt s n).1) (b := r n)
    have mc := hz_mi_c (a := (hz_cn r mt s n).1) (b := r n)
    simp only [hz_cn, hz_sm]
    by_cases w : mt n = true
    · rw [if_pos w]
      by_cases z : 0 < (hz_cn r mt s n).1 ∧ mt n = true ∧ 0 < r n
      · rw [if_pos z]
        refine ⟨by show 0 ≤ _ - _; omega, ?_, by omega, by show 0 ≤ _ + 1; omega⟩
        show _ - _ = _ ∨ (_ - _ = _ ∧ _)
        omega
      · rw [if_neg z]
        have z3 : (hz_cn r mt s n).1 = 0 ∨ r n = 0 := by
          by_cases y : 0 < (hz_cn r mt s n).1
          · by_cases y2 : 0 < r n
            · exact absurd ⟨y, w, y2⟩ z
            · omega
          · omega
        exact ⟨a, by omega, by omega, e⟩
    · rw [if_neg w, if_neg (fun z => w z.2.1)]
      exact ⟨a, by omega, by omega, e⟩
theorem hz_cn_e {r r' : Nat → Int} {mt : Nat → Bool} {s : Int} : ∀ n : Nat, (∀ c, c < n → mt c = true → r c = r' c) → hz_cn r mt s n = hz_cn r' mt s n := by
  intro n
  induction n with
  | zero => intro _; rfl
  | succ n ih =>
    intro h
    simp only [hz_cn, ih (fun c hc => h c (by omega))]
    by_cases w : mt n = true
    · rw [h n (by omega) w]
    · rw [if_neg (fun z => w z.2.1), if_neg (fun z => w z.2.1)]
theorem hz_sm_e {r r' : Nat → Int} {mt : Nat → Bool} : ∀ n : Nat, (∀ c, c < n → mt c = true → r c = r' c) → hz_sm r mt n = hz_sm r' mt n := by
  intro n
  induction n with
  | zero => intro _; rfl
  | succ n ih =>
    intro h
    simp only [hz_sm, ih (fun c hc => h c (by omega))]
    by_cases w : mt n = true
    · rw [if_pos w, if_pos w, h n (by omega) w]
    · rw [if_neg w, if_neg w]
theorem hz_op_b {r : Nat → Int} : ∀ n : Nat, 0 ≤ hz_op r n ∧ hz_op r n ≤ n := by
  intro n
  induction n with
  | zero => exact ⟨Int.le_refl _, Int.le_refl _⟩
  | succ n ih => simp only [hz_op]; split <;> omega
theorem hz_op_le {r r' : Nat → Int} : ∀ n : Nat, (∀ c, c < n → r' c ≤ r c) → hz_op r' n ≤ hz_op r n := by
  intro n
  induction n with
  | zero => intro _; exact Int.le_refl _
  | succ n ih =>
    intro h
    have a := ih (fun c hc => h c (by omega)); have b := h n (by omega)
    simp only [hz_op]; (repeat' split) <;> omega
theorem hz_op_lt {r r' : Nat → Int} {k : Nat} : ∀ n : Nat, (∀ c, c < n → r' c ≤ r c) → k < n → 0 < r k → r' k ≤ 0 → hz_op r' n + 1 ≤ hz_op r n := by
  intro n
  induction n with
  | zero => intro _ h; exact absurd h (Nat.not_lt_zero _)
  | succ n ih =>
    intro h hk h1 h2
    have b := h n (by omega)
    simp only [hz_op]
    by_cases z : k = n
    · subst z
      have a := hz_op_le k (fun c hc => h c (by omega))
      rw [if_pos h1, if_neg (by omega)]; omega
    · have a := ih (fun c hc => h c (by omega)) (by omega) h1 h2
      (repeat' split) <;> omega
theorem hz_sm_0 {r : Nat → Int} {mt : Nat → Bool} : ∀ n : Nat, (∀ c, c < n → 0 ≤ r c) → hz_sm r mt n ≤ 0 → ∀ c, c < n → mt c = true → r c ≤ 0 := by
  intro n
  induction n with
  | zero => intro _ _ c hc; exact absurd hc (Nat.not_lt_zero _)
  | succ n ih =>
    intro h hs c hc hm
    have hp : ∀ k : Nat, k ≤ n → 0 ≤ hz_sm r mt k := by
      intro k
      induction k with
      | zero => intro _; exact Int.le_refl _
      | succ k ihk =>
        intro hk
        have := ihk (by omega); have := h k (by omega)
        simp only [hz_sm]; split <;> omega
    have a := hp n (Nat.le_refl _); have b := h n (by omega)
    simp only [hz_sm] at hs
    by_cases z : c = n
    · subst z; rw [if_pos hm] at hs; omega
    · refine ih (fun c hc => h c (by omega)) ?_ c (by omega) hm
      split at hs <;> omega
theorem hz_sm_p {r : Nat → Int} {mt : Nat → Bool} : ∀ n : Nat, 0 < hz_sm r mt n → ∃ c, c < n ∧ mt c = true ∧ 0 < r c := by
  intro n
  induction n with
  | zero => intro h; exact absurd h (by simp [hz_sm])
  | succ n ih =>
    intro h
    simp only [hz_sm] at h
    by_cases w : mt n = true ∧ 0 < r n
    · exact ⟨n, by omega, w.1, w.2⟩
    · have : 0 < hz_sm r mt n := by
        split at h
        · rename_i w1
          have : ¬ 0 < r n := fun y => w ⟨w1, y⟩
          omega
        · omega
      obtain ⟨c, a, b, d⟩ := ih this
      exact ⟨c, by omega, b, d⟩
/-- a ring's places, one after another -/
def hz_tr (R : hz_P → Nat → Int) (ag bf : Nat → Int32) (g : Nat → Int) (n l : Int) (now : Int32) (cn : Nat) (P : hz_P) : Nat → hz_P
  | 0 => P
  | i + 1 => (hz_tk R (hz_mt ag bf (g i) (g (((i : Int) + 1) % n).toNat)) now (hz_tr R ag bf g n l now cn P i) l cn).1
/-- a pair of the ring's first k places -/
def hz_eb (g : Nat → Int) (n q p : Int) : Nat → Bool
  | 0 => false
  | k + 1 => hz_eb g n q p k || (decide (g k = q) && decide (g (((k : Int) + 1) % n).toNat = p))
theorem hz_eb_t {g : Nat → Int} {n q p : Int} : ∀ k : Nat, hz_eb g n q p k = true ↔ ∃ i : Nat, i < k ∧ g i = q ∧ g (((i : Int) + 1) % n).toNat = p := by
  intro k
  induction k with
  | zero => exact ⟨fun h => (by cases h), fun ⟨i, h, _⟩ => absurd h (Nat.not_lt_zero _)⟩
  | succ k ih =>
    simp only [hz_eb]
    rw [Bool.or_eq_true, ih, Bool.and_eq_true, decide_eq_true_iff, decide_eq_true_iff]
    constructor
    · rintro (⟨i, h1, h2⟩ | h)
      · exact ⟨i, by omega, h2⟩
      · exact ⟨k, by omega, h⟩
    · rintro ⟨i, h1, h2⟩
      by_cases z : i = k
      · subst z; exact Or.inr h2
      · exact Or.inl ⟨i, by omega, h2⟩
theorem hz_eb_n {g : Nat → Int} {n q p : Int} {k : Nat} (h : ¬ (g k = q ∧ g (((k : Int) + 1) % n).toNat = p)) : hz_eb g n q p (k + 1) = hz_eb g n q p k := by
  simp only [hz_eb]
  have : (decide (g k = q) && decide (g (((k : Int) + 1) % n).toNat = p)) = false := by
    cases e : (decide (g k = q) && decide (g (((k : Int) + 1) % n).toNat = p)) with
    | false => rfl
    | true => rw [Bool.and_eq_true, decide_eq_true_iff, decide_eq_true_iff] at e; exact absurd e h
  rw [this, Bool.or_false]
def hz_ne (r : Nat → Int) (ag bf : Nat → Int32) (g : Nat → Int) (n l : Int) (cn : Nat) : Nat → Int
  | 0 => 0
  | i + 1 => hz_ne r ag bf g n l cn i + (hz_cn r (hz_mt ag bf (g i) (g (((i : Int) + 1) % n).toNat)) l cn).2
/-- what the claims of each pair have left together -/
def hz_V (r : Nat → Int) (ag bf : Nat → Int32) (cn : Nat) (x : Int) : Int := hz_sm r (fun c => decide (40 * (ag c).toInt + (bf c).toInt = x)) cn
theorem hz_V_m {r : Nat → Int} {ag bf : Nat → Int32} {cn : Nat} {q p : Int} (hq : 0 ≤ p ∧ p < 40) (hb : ∀ c, c < cn → 0 ≤ (bf c).toInt ∧ (bf c).toInt < 40) : hz_V r ag bf cn (40 * q + p) = hz_sm r (hz_mt ag bf q p) cn := by
  unfold hz_V
  have key : ∀ k : Nat, k ≤ cn → hz_sm r (fun c => decide (40 * (ag c).toInt + (bf c).toInt = 40 * q + p)) k = hz_sm r (hz_mt ag bf q p) k := by
    intro k
    induction k with
    | zero => intro _; rfl
    | succ k ih =>
      intro hk
      have b := hb k (by omega)
      simp only [hz_sm, ih (by omega)]
      by_cases w : (ag k).toInt = q ∧ (bf k).toInt = p
      · rw [if_pos (decide_eq_true (by omega)), if_pos (hz_mt_t.mpr w)]
      · rw [if_neg (fun z => w (by have := of_decide_eq_true z; omega)), if_neg (fun z => w (hz_mt_t.mp z))]
  exact key cn (Nat.le_refl _)
/-- behind the first k places of a ring -/
theorem hz_tr_1 {ag bf : Nat → Int32} {n l : Int} {g : Nat → Int} {P : hz_P} (HR : hz_HR R now N) (HN : ∀ (P : hz_P) (c : Nat), 0 ≤ R P c) (HB : hz_RB R N P) (hl : 1 ≤ l) (hn : 2 ≤ n ∧ n ≤ 4) (hd : ∀ i j : Nat, (i : Int) < n → (j : Int) < n → i ≠ j → g i ≠ g j) (hV : ∀ i : Nat, (i : Int) < n → l ≤ hz_sm (R P) (hz_mt ag bf (g i) (g (((i : Int) + 1) % n).toNat)) N) : ∀ k : Nat, (k : Int) ≤ n → (∀ c, c < N → R (hz_tr R ag bf g n l now N P k) c ≤ R P c) ∧ (∀ c, c < N → (∀ i : Nat, i < k → hz_mt ag bf (g i) (g (((i : Int) + 1) % n).toNat) c = false) → R (hz_tr R ag bf g n l now N P k) c = R P c) ∧ ((hz_nP (hz_tr R ag bf g n l now N P k) : Nat) : Int) = hz_nP P + hz_ne (R P) ag bf g n l N k ∧ (∀ q p : Int, hz_sm (R (hz_tr R ag bf g n l now N P k)) (hz_mt ag bf q p) N = hz_sm (R P) (hz_mt ag bf q p) N - (if hz_eb g n q p k = true then l else 0)) := by
  intro k
  induction k with
  | zero => intro _; exact ⟨fun _ _ => Int.le_refl _, fun _ _ _ => rfl, by simp [hz_tr, hz_ne], fun q p => by rw [if_neg (fun h => by cases h)]; simp [hz_tr]⟩
  | succ k ih =>
    intro hk
    obtain ⟨a, b, d, f⟩ := ih (by omega)
    have T := hz_tk_1 (mt := hz_mt ag bf (g k) (g (((k : Int) + 1) % n).toNat)) (P := hz_tr R ag bf g n l now N P k) (s := l) HR (fun c hc => ⟨HN _ _, Int.le_trans (a c hc) (HB c hc).2⟩) N (Nat.le_refl _)
    obtain ⟨t1, t2, t3, t4, t5⟩ := T
    have et : hz_tr R ag bf g n l now N P (k + 1) = (hz_tk R (hz_mt ag bf (g k) (g (((k : Int) + 1) % n).toNat)) now (hz_tr R ag bf g n l now N P k) l N).1 := rfl
    have hother : ∀ c, c < N → hz_mt ag bf (g k) (g (((k : Int) + 1) % n).toNat) c = true → R (hz_tr R ag bf g n l now N P k) c = R P c := by
      intro c hc hm
      refine b c hc (fun i hi => hz_mt_f (fun z => ?_))
      have e1 := (hz_mt_t.mp hm).1
      exact hd i k (by omega) (by omega) (by omega) (z.1.symm.trans e1)
    have ecn := hz_cn_e (r := R (hz_tr R ag bf g n l now N P k)) (r' := R P) (mt := hz_mt ag bf (g k) (g (((k : Int) + 1) % n).toNat)) (s := l) N hother
    have esm := hz_sm_e (r := R (hz_tr R ag bf g n l now N P k)) (r' := R P) (mt := hz_mt ag bf (g k) (g (((k : Int) + 1) % n).toNat)) N hother
    have L := hz_cn_l (N := N) (r := R P) (mt := hz_mt ag bf (g k) (g (((k : Int) + 1) % n).toNat)) (s := l) (by omega) (fun c hc => (HB c hc).1) N (Nat.le_refl _)
    have hVk := hV k (by omega)
    have left0 : (hz_tk R (hz_mt ag bf (g k) (g (((k : Int) + 1) % n).toNat)) now (hz_tr R ag bf g n l now N P k) l N).2 = 0 := by
      rw [t2, ecn]; omega
    rw [et]
    refine ⟨fun c hc => Int.le_trans (t4 c hc) (a c hc), fun c hc hm => ?_, ?_, fun q p => ?_⟩
    · rw [t1 c hc (Or.inr (hm k (by omega)))]
      exact b c hc (fun i hi => hm i (by omega))
    · rw [t3, d, ecn]
      simp only [hz_ne]; omega
    · by_cases w : g k = q ∧ g (((k : Int) + 1) % n).toNat = p
      · obtain ⟨w1, w2⟩ := w
        subst w1; subst w2
        rw [t5 N (Nat.le_refl _) (Nat.le_refl _), left0, if_pos ((hz_eb_t (k + 1)).mpr ⟨k, by omega, rfl, rfl⟩), esm]; omega
      · have e2 : hz_sm (R (hz_tk R (hz_mt ag bf (g k) (g (((k : Int) + 1) % n).toNat)) now (hz_tr R ag bf g n l now N P k) l N).1) (hz_mt ag bf q p) N = hz_sm (R (hz_tr R ag bf g n l now N P k)) (hz_mt ag bf q p) N := by
          refine hz_sm_e N (fun c hc hm => t1 c hc (Or.inr (hz_mt_f (fun z => w ?_))))
          have m1 := hz_mt_t.mp hm
          exact ⟨z.1.symm.trans m1.1, z.2.symm.trans m1.2⟩
        rw [e2, f q p, hz_eb_n w]
end HZT
end
