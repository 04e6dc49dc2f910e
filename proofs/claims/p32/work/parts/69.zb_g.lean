section
set_option maxHeartbeats 4000000 in
set_option maxRecDepth 100000 in
theorem t_X10_isOpen_v (l : Launch) (dC : Nat → ClassId) (dI : Nat → Nat → Nat) (dA : Nat → ClassId) (L : List Nat) (h : hx_h) (sz : Nat) (x : Nat) (i1 : Int32) (hT : hx_T T_tb L h) (gx : hx_g L h x 10) (qfo : Nat) (gqfo : hx_g L h qfo 81) (f_x_46 : h.2.2 x 46 = some qfo) (qhe : Nat) (gqhe : hx_g L h qhe 82) (f_x_47 : h.2.2 x 47 = some qhe) (qju : Nat) (gqju : hx_g L h qju 86) (f_x_51 : h.2.2 x 51 = some qju) (qod : Nat) (gqod : hx_g L h qod 83) (f_x_48 : h.2.2 x 48 = some qod) (qsv : Nat) (gqsv : hx_g L h qsv 85) (f_x_50 : h.2.2 x 50 = some qsv) (qsz : Nat) (gqsz : hx_g L h qsz 84) (f_x_49 : h.2.2 x 49 = some qsz) (qgd : Nat) (gqgd : hx_g L h qgd 91) (f_x_56 : h.2.2 x 56 = some qgd) (qow : Nat) (gqow : hx_g L h qow 90) (f_x_55 : h.2.2 x 55 = some qow) (qwk : Nat) (gqwk : hx_g L h qwk 89) (f_x_54 : h.2.2 x 54 = some qwk) (qpl : Nat) (gqpl : hx_g L h qpl 79) (f_x_44 : h.2.2 x 44 = some qpl) (qru : Nat) (gqru : hx_g L h qru 50) (f_x_3 : h.2.2 x 3 = some qru) (qpo : Nat) (gqpo : hx_g L h qpo 93) (f_x_60 : h.2.2 x 60 = some qpo) (qpd : Nat) (gqpd : hx_g L h qpd 94) (f_x_61 : h.2.2 x 61 = some qpd) (qps : Nat) (gqps : hx_g L h qps 95) (f_x_62 : h.2.2 x 62 = some qps) (qpk : Nat) (gqpk : hx_g L h qpk 96) (f_x_63 : h.2.2 x 63 = some qpk) (qpt : Nat) (gqpt : hx_g L h qpt 97) (f_x_64 : h.2.2 x 64 = some qpt) (fof : Nat → Int32) (af_qfo : h.2.1 qfo = fof) (hrf : Nat → Int32) (af_qhe : h.2.1 qhe = hrf) (udf : Nat → Int32) (af_qju : h.2.1 qju = udf) (odf : Nat → Int32) (af_qod : h.2.1 qod = odf) (svf : Nat → Int32) (af_qsv : h.2.1 qsv = svf) (szf : Nat → Int32) (af_qsz : h.2.1 qsz = szf) (gdf : Nat → Int32) (af_qgd : h.2.1 qgd = gdf) (owf : Nat → Int32) (af_qow : h.2.1 qow = owf) (wkf : Nat → Int32) (af_qwk : h.2.1 qwk = wkf) (plf : Nat → Int32) (af_qpl : h.2.1 qpl = plf) (rlf : Nat → Int32) (af_qru : h.2.1 qru = rlf) (pof : Nat → Int32) (af_qpo : h.2.1 qpo = pof) (pdf : Nat → Int32) (af_qpd : h.2.1 qpd = pdf) (psm : Nat → Int32) (af_qps : h.2.1 qps = psm) (pkf : Nat → Int32) (af_qpk : h.2.1 qpk = pkf) (pst : Nat → Int32) (af_qpt : h.2.1 qpt = pst) (c0 : Int32) (f_x_36 : h.2.1 x 36 = c0) (a0 : Int32) (f_x_1 : h.2.1 x 1 = a0) (nw0 : Int32) (f_x_0 : h.2.1 x 0 = nw0) (n0 : Int32) (f_x_59 : h.2.1 x 59 = n0) (hi1 : 0 ≤ i1.toInt ∧ i1.toInt < c0.toInt) (adf psf prf : Nat → Int32) (A : Nat → hv_act) (hCA : hv_CA adf rlf psf prf a0.toInt A) (hPL : hx_PL plf c0.toInt a0.toInt) : Met l yX10_isOpen (Cond.code yX10_isOpen cX10_isOpen 2 (some .boolean) :: hx_all) ({ frames := 2, cells := 0, slots := 0, locals := 50 }) (va_Pc [.ref x, .int i1] (hx_B T_tb (P_ty dA) (dC, dI) vwCl L h sz)) (va_Qi (fun (r : Int32) (u : List Nat × hx_h) => (∃ (rs1 : Int32), u.2.2.1 x 68 = rs1 ∧ (((r.toInt = 1 ∧ 0 < (hz_Rn odf szf gdf owf svf (hz_rc A plf) pof pdf psm pkf pst nw0.toInt n0.toInt.toNat) i1.toInt.toNat) ∨ (r.toInt = 0 ∧ ¬ 0 < (hz_Rn odf szf gdf owf svf (hz_rc A plf) pof pdf psm pkf pst nw0.toInt n0.toInt.toNat) i1.toInt.toNat)) ∧ rs1.toInt = (hz_Rn odf szf gdf owf svf (hz_rc A plf) pof pdf psm pkf pst nw0.toInt n0.toInt.toNat) i1.toInt.toNat)) ∧ hx_T T_tb u.1 u.2 ∧ hx_S T_tb [(10, 67), (10, 68), (10, 69), (10, 70), (10, 71)] L h u.1 u.2) (hx_E T_tb (P_ty dA) (dC, dI) vwCl (hx_A L sz)) (hx_A L sz)) 0 0 (hx_A L sz) := by
  refine hx_met (lv := [(0, .ref x), (1, .int i1)]) (by decide +kernel) rfl (Nat.le_of_ble_eq_true rfl) rfl ?_
  intro p e s m below meth c hx hb hml hr hlk hts0 hown hin hsz hW ls hl
  have hts : ∀ w ∈ hx_all, w.before _ s = true := fun w hw => hts0 w (List.mem_cons_of_mem _ hw)
  have hown : s.vm.findClass "SmallCourtModel" = some m.cls := hown
  have hM : hx_S T_tb [(10, 67), (10, 68), (10, 69), (10, 70), (10, 71)] L h L h := hx_S.rf
  have b_c0 := hT.gi gx tt_10 (k := 36) rfl
  rw [f_x_36] at b_c0
  have b_c0 : 0 ≤ c0.toInt ∧ c0.toInt ≤ 100 := b_c0
  have b_a0 := hT.gi gx tt_10 (k := 1) rfl
  rw [f_x_1] at b_a0
  have b_a0 : 0 ≤ a0.toInt ∧ a0.toInt ≤ 8 := b_a0
  have b_nw0 := hT.gi gx tt_10 (k := 0) rfl
  rw [f_x_0] at b_nw0
  have b_nw0 : 0 ≤ nw0.toInt ∧ nw0.toInt ≤ 7999 := b_nw0
  have b_n0 := hT.gi gx tt_10 (k := 59) rfl
  rw [f_x_59] at b_n0
  have b_n0 : 0 ≤ n0.toInt ∧ n0.toInt ≤ 600 := b_n0
  refine lv_aload_n hx hb dX10_isOpen_0 rfl (lv_at hl 0 rfl) ?_
  refine lv_iload_n hx hb dX10_isOpen_1 rfl (lv_at hl 1 rfl) ?_
  refine lv_aload_n hx hb dX10_isOpen_2 rfl (lv_at hl 0 rfl) ?_
  refine hk_geti hx hb hts hC_10 hown hW (gx.S hM) tt_10 0 ?o0 rfl kw_1143 ⟨rfl, rfl, rfl⟩ ((hM.o gx trivial rfl).1.trans f_x_0) dX10_isOpen_3 ?_
  case o0 => decide
  refine lv_aload_n hx hb dX10_isOpen_6 rfl (lv_at hl 0 rfl) ?_
  refine hk_geti hx hb hts hC_10 hown hW (gx.S hM) tt_10 0 ?o1 rfl kw_1143 ⟨rfl, rfl, rfl⟩ ((hM.o gx trivial rfl).1.trans f_x_0) dX10_isOpen_7 ?_
  case o1 => decide
  have hl_1p := hPL i1.toInt ?o2 ?o3
  case o2 => omega
  case o3 => omega
  obtain ⟨_, hl_12, _⟩ := hCA.2 (plf i1.toInt.toNat).toInt.toNat (by omega)
  refine hx_gov (hx_runV (As := [.int i1, .int nw0, .int nw0]) (rest := []) ⟨hx, hb, hml, hown, hts⟩ hW (gx.S hM) tt_10 (T := TX10) (N := 98) rfl (t_X10_looks_v l dC dI dA L h s.heap.size x i1 nw0 nw0 hT (gx.S hM) qfo (gqfo.S hM) ((hM.o gx trivial rfl).2.trans f_x_46) qhe (gqhe.S hM) ((hM.o gx trivial rfl).2.trans f_x_47) qju (gqju.S hM) ((hM.o gx trivial rfl).2.trans f_x_51) qod (gqod.S hM) ((hM.o gx trivial rfl).2.trans f_x_48) qsv (gqsv.S hM) ((hM.o gx trivial rfl).2.trans f_x_50) qsz (gqsz.S hM) ((hM.o gx trivial rfl).2.trans f_x_49) qgd (gqgd.S hM) ((hM.o gx trivial rfl).2.trans f_x_56) qow (gqow.S hM) ((hM.o gx trivial rfl).2.trans f_x_55) qwk (gqwk.S hM) ((hM.o gx trivial rfl).2.trans f_x_54) qpl (gqpl.S hM) ((hM.o gx trivial rfl).2.trans f_x_44) qru (gqru.S hM) ((hM.o gx trivial rfl).2.trans f_x_3) qpo (gqpo.S hM) ((hM.o gx trivial rfl).2.trans f_x_60) qpd (gqpd.S hM) ((hM.o gx trivial rfl).2.trans f_x_61) qps (gqps.S hM) ((hM.o gx trivial rfl).2.trans f_x_62) qpk (gqpk.S hM) ((hM.o gx trivial rfl).2.trans f_x_63) qpt (gqpt.S hM) ((hM.o gx trivial rfl).2.trans f_x_64) fof (hx_afS hM gqfo rfl af_qfo) hrf (hx_afS hM gqhe rfl af_qhe) udf (hx_afS hM gqju rfl af_qju) odf (hx_afS hM gqod rfl af_qod) svf (hx_afS hM gqsv rfl af_qsv) szf (hx_afS hM gqsz rfl af_qsz) gdf (hx_afS hM gqgd rfl af_qgd) owf (hx_afS hM gqow rfl af_qow) wkf (hx_afS hM gqwk rfl af_qwk) plf (hx_afS hM gqpl rfl af_qpl) rlf (hx_afS hM gqru rfl af_qru) pof (hx_afS hM gqpo rfl af_qpo) pdf (hx_afS hM gqpd rfl af_qpd) psm (hx_afS hM gqps rfl af_qps) pkf (hx_afS hM gqpk rfl af_qpk) pst (hx_afS hM gqpt rfl af_qpt) n0 ((hM.o gx trivial rfl).1.trans f_x_59) ⟨?o4, ?o5⟩ ⟨?o6, ?o7⟩ (A (plf i1.toInt.toNat).toInt.toNat).2.1 (fun k hk => by rw [← hl_12]; show _ = (if k < 13 then _ else 0); rw [if_pos (by omega)])) (cwV 3 hts (hx_gV kw_1641 kw_1638 kw_1640 kw_82 kw_103) rfl rfl rfl (by decide +kernel) ⟨Nat.le_of_ble_eq_true rfl, Nat.le_of_ble_eq_true rfl⟩) rfl hl.1 rfl (Nat.le_of_ble_eq_true rfl) dX10_isOpen_10 ⟨Nat.le_of_ble_eq_true rfl, Nat.le_of_ble_eq_true rfl⟩) hW (fun L_2 h_3 H locs p_5 hW => ?_)
  case o4 => omega
  case o5 => omega
  case o6 => omega
  case o7 => omega
  obtain ⟨⟨w_7, w_8, w_9, w_10, w_11, fw_7, fw_8, fw_9, fw_10, fw_11, hr_6⟩, hT, hs⟩ := p_5
  replace hT : hx_T T_tb L_2 h_3 := hT
  replace hs : hx_S T_tb [(10, 67), (10, 68), (10, 69), (10, 70), (10, 71)] L h L_2 h_3 := hs
  replace hM := hM.tr (hs.mono ?o8)
  case o8 => decide
  have fw_7 : h_3.2.1 x 67 = w_7 := fw_7
  have bw_7 := hT.gi (gx.S hM) tt_10 (k := 67) rfl
  rw [fw_7] at bw_7
  have bw_7 : 0 ≤ w_7.toInt ∧ w_7.toInt ≤ 366100000 := bw_7
  have fw_8 : h_3.2.1 x 68 = w_8 := fw_8
  have bw_8 := hT.gi (gx.S hM) tt_10 (k := 68) rfl
  rw [fw_8] at bw_8
  have bw_8 : 0 ≤ w_8.toInt ∧ w_8.toInt ≤ 610000 := bw_8
  have fw_9 : h_3.2.1 x 69 = w_9 := fw_9
  have bw_9 := hT.gi (gx.S hM) tt_10 (k := 69) rfl
  rw [fw_9] at bw_9
  have bw_9 : -2147483648 ≤ w_9.toInt ∧ w_9.toInt ≤ 2147483647 := bw_9
  have fw_10 : h_3.2.1 x 70 = w_10 := fw_10
  have bw_10 := hT.gi (gx.S hM) tt_10 (k := 70) rfl
  rw [fw_10] at bw_10
  have bw_10 : -2147483648 ≤ w_10.toInt ∧ w_10.toInt ≤ 2147483647 := bw_10
  have fw_11 : h_3.2.1 x 71 = w_11 := fw_11
  have bw_11 := hT.gi (gx.S hM) tt_10 (k := 71) rfl
  rw [fw_11] at bw_11
  have bw_11 : 0 ≤ w_11.toInt ∧ w_11.toInt ≤ 8 := bw_11
  have hc9 : ((i1.toInt.toNat : Nat) : Int) = i1.toInt := ?o9
  case o9 => omega
  have hrn9 : w_8.toInt = (hz_Rn odf szf gdf owf svf (hz_rc A plf) pof pdf psm pkf pst nw0.toInt n0.toInt.toNat) i1.toInt.toNat := ?o10
  case o10 =>
    unfold hz_Rn
    rw [hc9]
    exact hr_6.2.1
  refine lv_aload_n hx hb dX10_isOpen_13 rfl (lv_at hl 0 rfl) ?_
  refine hk_geti hx hb hts hC_10 hown hW (gx.S hM) tt_10 71 ?o11 rfl kw_1214 ⟨rfl, rfl, rfl⟩ fw_11 dX10_isOpen_14 ?_
  case o11 => decide
  refine lv_iconst (v := 4) hx hb dX10_isOpen_17 ?o12 ?_
  case o12 => decide
  refine lv_bipush (v := 6) hx hb dX10_isOpen_18 ?o13 ?_
  case o13 => decide
  have zc_6 : (6 : Int32).toInt = 6 := ?o14
  case o14 => decide
  have zc_4 : (4 : Int32).toInt = 4 := ?o15
  case o15 => decide
  refine hx_goi (hx_runS (As := [.int w_11, .int (4 : Int32), .int (6 : Int32)]) (rest := []) ⟨hx, hb, hml, hown, hts⟩ hW (t_X10_in l dC dI dA L_2 h_3 H.size w_11 (4 : Int32) (6 : Int32) hT) (va_cwS 3 hts (hx_gS kw_1445 kw_1443 kw_1444 kw_103) rfl rfl rfl (by decide +kernel) ⟨Nat.le_of_ble_eq_true rfl, Nat.le_of_ble_eq_true rfl⟩) rfl hl.1 rfl (Nat.le_of_ble_eq_true rfl) dX10_isOpen_20 ⟨Nat.le_of_ble_eq_true rfl, Nat.le_of_ble_eq_true rfl⟩) hW (fun r_14 L_12 h_13 H locs p_15 hW => ?_)
  obtain ⟨hr_16, hT, hs⟩ := p_15
  replace hT : hx_T T_tb L_12 h_13 := hT
  replace hs : hx_S T_tb [] L_2 h_3 L_12 h_13 := hs
  replace fw_7 := (hs.o (gx.S hM) trivial rfl).1.trans fw_7
  replace fw_8 := (hs.o (gx.S hM) trivial rfl).1.trans fw_8
  replace fw_9 := (hs.o (gx.S hM) trivial rfl).1.trans fw_9
  replace fw_10 := (hs.o (gx.S hM) trivial rfl).1.trans fw_10
  replace fw_11 := (hs.o (gx.S hM) trivial rfl).1.trans fw_11
  replace hM := hM.tr (hs.mono ?o16)
  case o16 => decide
  refine hx_retz hx hb hr (hx_nar01 ?o17) hlk hW ⟨⟨w_8, fw_8, ⟨(by have h6 := hz_st_op (rs := w_8.toInt) (by rw [hr_6.2.1]; exact hz_rs_b) (fun z => by rw [hr_6.2.1]; exact hz_rs_0 z) (fo := (fof i1.toInt.toNat).toInt) (he := (hrf i1.toInt.toNat).toInt) (ju := (udf i1.toInt.toNat).toInt) (od := (odf i1.toInt.toNat).toInt) (sv := (svf i1.toInt.toNat).toInt) (ms := w_10.toInt) (la := (A (plf i1.toInt.toNat).toInt.toNat).2.1 4) (ga := (A (plf i1.toInt.toNat).toInt.toNat).2.1 5) (d := nw0.toInt); have h5 := hr_6.2.2.2.2; rw [← hr_6.2.1, ← hr_6.2.2.2.1] at h5; rw [← h5] at h6; have h4 := hrn9; omega), hrn9⟩⟩, hT, hM⟩ dX10_isOpen_23
  case o17 => omega
end
section
theorem hz_mulc {a b x : Int32} (ha : 0 ≤ a.toInt ∧ a.toInt ≤ 512) (hb : 0 ≤ b.toInt ∧ b.toInt ≤ 999) (e : x = a * b) : x.toInt = a.toInt * b.toInt ∧ 0 ≤ x.toInt ∧ x.toInt ≤ 511488 := by
  have h1 : 0 ≤ a.toInt * b.toInt := Int.mul_nonneg ha.1 hb.1
  have h2 : a.toInt * b.toInt ≤ 512 * 999 := Int.mul_le_mul ha.2 hb.2 hb.1 (by decide)
  have h3 : x.toInt = a.toInt * b.toInt := by rw [e]; exact i32_mul rfl rfl rfl (by omega) (by omega)
  exact ⟨h3, by omega, by omega⟩


set_option maxHeartbeats 4000000 in
set_option maxRecDepth 100000 in
theorem t_X10_means_v (l : Launch) (dC : Nat → ClassId) (dI : Nat → Nat → Nat) (dA : Nat → ClassId) (L : List Nat) (h : hx_h) (sz : Nat) (x : Nat) (i1 : Int32) (i2 : Int32) (hT : hx_T T_tb L h) (gx : hx_g L h x 10) (qea : Nat) (gqea : hx_g L h qea 59) (f_x_22 : h.2.2 x 22 = some qea) (qhd : Nat) (gqhd : hx_g L h qhd 60) (f_x_23 : h.2.2 x 23 = some qhd) (qru : Nat) (gqru : hx_g L h qru 50) (f_x_3 : h.2.2 x 3 = some qru) (eaf : Nat → Int32) (af_qea : h.2.1 qea = eaf) (hdf : Nat → Int32) (af_qhd : h.2.1 qhd = hdf) (rlf : Nat → Int32) (af_qru : h.2.1 qru = rlf) (hi1 : 0 ≤ i1.toInt ∧ i1.toInt ≤ 39) (hi2 : 0 ≤ i2.toInt ∧ i2.toInt ≤ 8) (kp : Int) (hkp : (rlf (13 * i2.toInt.toNat + 3)).toInt = kp) : Met l yX10_means (Cond.code yX10_means cX10_means 3 (some .int) :: hx_all) ({ frames := 1, cells := 0, slots := 0, locals := 22 }) (va_Pc [.ref x, .int i1, .int i2] (hx_B T_tb (P_ty dA) (dC, dI) vwCl L h sz)) (va_Qi (fun (r : Int32) (u : List Nat × hx_h) => (r.toInt = (eaf i1.toInt.toNat).toInt - kp * (hdf i1.toInt.toNat).toInt ∧ (-199980 ≤ r.toInt ∧ r.toInt ≤ 9999)) ∧ hx_T T_tb u.1 u.2 ∧ hx_S T_tb [] L h u.1 u.2) (hx_E T_tb (P_ty dA) (dC, dI) vwCl (hx_A L sz)) (hx_A L sz)) 0 0 (hx_A L sz) := by
  refine hx_met (lv := [(0, .ref x), (1, .int i1), (2, .int i2)]) (by decide +kernel) rfl (Nat.le_of_ble_eq_true rfl) rfl ?_
  intro p e s m below meth c hx hb hml hr hlk hts0 hown hin hsz hW ls hl
  have hts : ∀ w ∈ hx_all, w.before _ s = true := fun w hw => hts0 w (List.mem_cons_of_mem _ hw)
  have hown : s.vm.findClass "SmallCourtModel" = some m.cls := hown
  have hM : hx_S T_tb [] L h L h := hx_S.rf
  refine lv_aload_n hx hb dX10_means_0 rfl (lv_at hl 0 rfl) ?_
  refine hk_getr hx hb hts hC_10 hown hW (gx.S hM) tt_10 22 ?o0 rfl kw_1165 ⟨rfl, rfl, rfl⟩ ((hM.o gx trivial rfl).2.trans f_x_22) dX10_means_1 ?_
  case o0 => decide
  refine lv_iload_n hx hb dX10_means_4 rfl (lv_at hl 1 rfl) ?_
  refine hx_iald hx hb hW hT (gqea.S hM) tt_59 rfl ⟨?o1, ?o2⟩ dX10_means_5 (fun x_1 ex_1 lx_1 ux_1 => ?_)
  case o1 => omega
  case o2 => omega
  have ax_1 : x_1 = eaf i1.toNatClampNeg := ex_1.trans (congrFun (hx_afS hM gqea rfl af_qea) _)
  refine lv_aload_n hx hb dX10_means_6 rfl (lv_at hl 0 rfl) ?_
  refine lv_iload_n hx hb dX10_means_7 rfl (lv_at hl 2 rfl) ?_
  refine lv_iconst (v := 3) hx hb dX10_means_8 ?o3 ?_
  case o3 => decide
  have zc_3 : (3 : Int32).toInt = 3 := ?o4
  case o4 => decide
  refine hx_goi (hx_runV (As := [.int i2, .int (3 : Int32)]) (rest := [.int x_1]) ⟨hx, hb, hml, hown, hts⟩ hW (gx.S hM) tt_10 (T := TX10) (N := 98) rfl (t_X10_ruleOf_v l dC dI dA L h s.heap.size x i2 (3 : Int32) hT (gx.S hM) qru (gqru.S hM) ((hM.o gx trivial rfl).2.trans f_x_3) rlf (hx_afS hM gqru rfl af_qru) ⟨?o5, ?o6⟩ ?o7) (cwV 2 hts (hx_gV kw_1533 kw_1530 kw_1532 kw_66 kw_103) rfl rfl rfl (by decide +kernel) ⟨Nat.le_of_ble_eq_true rfl, Nat.le_of_ble_eq_true rfl⟩) rfl hl.1 rfl (Nat.le_of_ble_eq_true rfl) dX10_means_9 ⟨Nat.le_of_ble_eq_true rfl, Nat.le_of_ble_eq_true rfl⟩) hW (fun r_4 L_2 h_3 H locs p_5 hW => ?_)
  case o5 => omega
  case o6 => omega
  case o7 => decide
  obtain ⟨hr_6, hT, hs⟩ := p_5
  replace hT : hx_T T_tb L_2 h_3 := hT
  replace hs : hx_S T_tb [] L h L_2 h_3 := hs
  replace ex_1 := ex_1.trans (hs.a (gqea.S hM) rfl _).1.symm
  replace hM := hM.tr (hs.mono ?o8)
  case o8 => decide
  have hk9 : r_4.toInt = kp := ?o9
  case o9 =>
    rw [hr_6.1, show (3 : Int32).toInt.toNat = 3 from by decide]
    exact hkp
  refine lv_aload_n hx hb dX10_means_12 rfl (lv_at hl 0 rfl) ?_
  refine hk_getr hx hb hts hC_10 hown hW (gx.S hM) tt_10 23 ?o10 rfl kw_1166 ⟨rfl, rfl, rfl⟩ ((hM.o gx trivial rfl).2.trans f_x_23) dX10_means_13 ?_
  case o10 => decide
  refine lv_iload_n hx hb dX10_means_16 rfl (lv_at hl 1 rfl) ?_
  refine hx_iald hx hb hW hT (gqhd.S hM) tt_60 rfl ⟨?o11, ?o12⟩ dX10_means_17 (fun x_7 ex_7 lx_7 ux_7 => ?_)
  case o11 => omega
  case o12 => omega
  have ax_7 : x_7 = hdf i1.toNatClampNeg := ex_7.trans (congrFun (hx_afS hM gqhd rfl af_qhd) _)
  refine lv_imul hx hb dX10_means_18 ?_
  refine lv_topi (fun x_8 ex_8 => ?_)
  have mx_8 : r_4.toInt = 0 → x_8.toInt = 0 := fun z => by rw [ex_8]; exact hx_mul0 z
  obtain ⟨m9, m9l, m9h⟩ := hz_mul2 ⟨by omega, by omega⟩ ⟨by omega, by omega⟩ ex_8
  refine lv_isub hx hb dX10_means_19 ?_
  have rg_9 := i32_r x_1
  have rg_10 := i32_r x_8
  refine lv_topi (fun x_11 ex_11 => ?_)
  have zx_11 : x_11.toInt = x_1.toInt - x_8.toInt := ?o13
  case o13 =>
    rw [ex_11]
    refine i32_sub rfl rfl ?o14 ?o15
    case o14 => omega
    case o15 => omega
  refine hx_reti hx hb hr hlk hW ⟨⟨(by rw [zx_11, m9, hk9, show eaf i1.toInt.toNat = x_1 from ax_1.symm, show hdf i1.toInt.toNat = x_7 from ax_7.symm]), ?o16, ?o17⟩, hT, hM⟩ dX10_means_20
  case o16 => omega
  case o17 => omega


set_option maxHeartbeats 4000000 in
set_option maxRecDepth 100000 in
theorem t_X10_order_v (l : Launch) (dC : Nat → ClassId) (dI : Nat → Nat → Nat) (dA : Nat → ClassId) (L : List Nat) (h : hx_h) (sz : Nat) (x : Nat) (i1 : Int32) (i2 : Int32) (hT : hx_T T_tb L h) (gx : hx_g L h x 10) (qfo : Nat) (gqfo : hx_g L h qfo 81) (f_x_46 : h.2.2 x 46 = some qfo) (qhe : Nat) (gqhe : hx_g L h qhe 82) (f_x_47 : h.2.2 x 47 = some qhe) (qju : Nat) (gqju : hx_g L h qju 86) (f_x_51 : h.2.2 x 51 = some qju) (qod : Nat) (gqod : hx_g L h qod 83) (f_x_48 : h.2.2 x 48 = some qod) (qsv : Nat) (gqsv : hx_g L h qsv 85) (f_x_50 : h.2.2 x 50 = some qsv) (qsz : Nat) (gqsz : hx_g L h qsz 84) (f_x_49 : h.2.2 x 49 = some qsz) (qgd : Nat) (gqgd : hx_g L h qgd 91) (f_x_56 : h.2.2 x 56 = some qgd) (qow : Nat) (gqow : hx_g L h qow 90) (f_x_55 : h.2.2 x 55 = some qow) (qwk : Nat) (gqwk : hx_g L h qwk 89) (f_x_54 : h.2.2 x 54 = some qwk) (qpl : Nat) (gqpl : hx_g L h qpl 79) (f_x_44 : h.2.2 x 44 = some qpl) (qru : Nat) (gqru : hx_g L h qru 50) (f_x_3 : h.2.2 x 3 = some qru) (qpo : Nat) (gqpo : hx_g L h qpo 93) (f_x_60 : h.2.2 x 60 = some qpo) (qpd : Nat) (gqpd : hx_g L h qpd 94) (f_x_61 : h.2.2 x 61 = some qpd) (qps : Nat) (gqps : hx_g L h qps 95) (f_x_62 : h.2.2 x 62 = some qps) (qpk : Nat) (gqpk : hx_g L h qpk 96) (f_x_63 : h.2.2 x 63 = some qpk) (qpt : Nat) (gqpt : hx_g L h qpt 97) (f_x_64 : h.2.2 x 64 = some qpt) (qdd : Nat) (gqdd : hx_g L h qdd 64) (f_x_27 : h.2.2 x 27 = some qdd) (qag : Nat) (gqag : hx_g L h qag 73) (f_x_38 : h.2.2 x 38 = some qag) (qsu : Nat) (gqsu : hx_g L h qsu 74) (f_x_39 : h.2.2 x 39 = some qsu) (qtr : Nat) (gqtr : hx_g L h qtr 80) (f_x_45 : h.2.2 x 45 = some qtr) (qea : Nat) (gqea : hx_g L h qea 59) (f_x_22 : h.2.2 x 22 = some qea) (qhd : Nat) (gqhd : hx_g L h qhd 60) (f_x_23 : h.2.2 x 23 = some qhd) (fof : Nat → Int32) (af_qfo : h.2.1 qfo = fof) (hrf : Nat → Int32) (af_qhe : h.2.1 qhe = hrf) (udf : Nat → Int32) (af_qju : h.2.1 qju = udf) (odf : Nat → Int32) (af_qod : h.2.1 qod = odf) (svf : Nat → Int32) (af_qsv : h.2.1 qsv = svf) (szf : Nat → Int32) (af_qsz : h.2.1 qsz = szf) (gdf : Nat → Int32) (af_qgd : h.2.1 qgd = gdf) (owf : Nat → Int32) (af_qow : h.2.1 qow = owf) (wkf : Nat → Int32) (af_qwk : h.2.1 qwk = wkf) (plf : Nat → Int32) (af_qpl : h.2.1 qpl = plf) (rlf : Nat → Int32) (af_qru : h.2.1 qru = rlf) (pof : Nat → Int32) (af_qpo : h.2.1 qpo = pof) (pdf : Nat → Int32) (af_qpd : h.2.1 qpd = pdf) (psm : Nat → Int32) (af_qps : h.2.1 qps = psm) (pkf : Nat → Int32) (af_qpk : h.2.1 qpk = pkf) (pst : Nat → Int32) (af_qpt : h.2.1 qpt = pst) (ddf : Nat → Int32) (af_qdd : h.2.1 qdd = ddf) (agf : Nat → Int32) (af_qag : h.2.1 qag = agf) (smf : Nat → Int32) (af_qsu : h.2.1 qsu = smf) (tf : Nat → Int32) (af_qtr : h.2.1 qtr = tf) (eaf : Nat → Int32) (af_qea : h.2.1 qea = eaf) (hdf : Nat → Int32) (af_qhd : h.2.1 qhd = hdf) (c0 : Int32) (f_x_36 : h.2.1 x 36 = c0) (a0 : Int32) (f_x_1 : h.2.1 x 1 = a0) (nw0 : Int32) (f_x_0 : h.2.1 x 0 = nw0) (n0 : Int32) (f_x_59 : h.2.1 x 59 = n0) (adf psf prf : Nat → Int32) (A : Nat → hv_act) (hCA : hv_CA adf rlf psf prf a0.toInt A) (hPL : hx_PL plf c0.toInt a0.toInt) (hWK : hx_WK rlf a0.toInt) : Met l yX10_order (Cond.code yX10_order cX10_order 7 (some .int) :: hx_all) ({ frames := 3, cells := 0, slots := 0, locals := 71 }) (va_Pc [.ref x, .int i1, .int i2] (hx_B T_tb (P_ty dA) (dC, dI) vwCl L h sz)) (va_Qi (fun (r : Int32) (u : List Nat × hx_h) => (∃ (odf1 : Nat → Int32) (wkf1 : Nat → Int32) (owf1 : Nat → Int32), u.2.2.1 qod = odf1 ∧ u.2.2.1 qwk = wkf1 ∧ u.2.2.1 qow = owf1 ∧ (hz_OS (hz_OC c0.toInt i1.toInt i2.toInt (udf i1.toInt.toNat).toInt (odf i1.toInt.toNat).toInt (ddf (agf i1.toInt.toNat).toInt.toNat).toInt) i1.toInt.toNat i2 nw0 r ((A (plf i1.toInt.toNat).toInt.toNat).2.1 2) ((smf i1.toInt.toNat).toInt + ((tf i1.toInt.toNat).toInt * (A (plf i1.toInt.toNat).toInt.toNat).2.1 9 + (A (plf i1.toInt.toNat).toInt.toNat).2.1 10 + (A (plf i1.toInt.toNat).toInt.toNat).2.1 11)) (hz_oi agf wkf (hz_Rn odf szf gdf owf svf (hz_rc A plf) pof pdf psm pkf pst nw0.toInt n0.toInt.toNat) (agf i1.toInt.toNat).toInt c0.toInt.toNat) ((eaf (agf i1.toInt.toNat).toInt.toNat).toInt - (A (plf i1.toInt.toNat).toInt.toNat).2.1 3 * (hdf (agf i1.toInt.toNat).toInt.toNat).toInt) odf odf1 wkf wkf1 owf owf1)) ∧ hx_T T_tb u.1 u.2 ∧ hx_S T_tb [(10, 67), (10, 68), (10, 69), (10, 70), (10, 71), (83, 0), (89, 0), (90, 0)] L h u.1 u.2) (hx_E T_tb (P_ty dA) (dC, dI) vwCl (hx_A L sz)) (hx_A L sz)) 0 0 (hx_A L sz) := by
  refine hx_met (lv := [(0, .ref x), (1, .int i1), (2, .int i2)]) (by decide +kernel) rfl (Nat.le_of_ble_eq_true rfl) rfl ?_
  intro p e s m below meth c hx hb hml hr hlk hts0 hown hin hsz hW ls hl
  have hts : ∀ w ∈ hx_all, w.before _ s = true := fun w hw => hts0 w (List.mem_cons_of_mem _ hw)
  have hown : s.vm.findClass "SmallCourtModel" = some m.cls := hown
  have hM : hx_S T_tb [(10, 67), (10, 68), (10, 69), (10, 70), (10, 71), (83, 0), (89, 0), (90, 0)] L h L h := hx_S.rf
  have b_c0 := hT.gi gx tt_10 (k := 36) rfl
  rw [f_x_36] at b_c0
  have b_c0 : 0 ≤ c0.toInt ∧ c0.toInt ≤ 100 := b_c0
  have b_a0 := hT.gi gx tt_10 (k := 1) rfl
  rw [f_x_1] at b_a0
  have b_a0 : 0 ≤ a0.toInt ∧ a0.toInt ≤ 8 := b_a0
  have b_nw0 := hT.gi gx tt_10 (k := 0) rfl
  rw [f_x_0] at b_nw0
  have b_nw0 : 0 ≤ nw0.toInt ∧ nw0.toInt ≤ 7999 := b_nw0
  have b_n0 := hT.gi gx tt_10 (k := 59) rfl
  rw [f_x_59] at b_n0
  have b_n0 : 0 ≤ n0.toInt ∧ n0.toInt ≤ 600 := b_n0
  refine lv_aload_n hx hb dX10_order_0 rfl (lv_at hl 0 rfl) ?_
  refine lv_iload_n hx hb dX10_order_1 rfl (lv_at hl 1 rfl) ?_
  refine hx_goi (hx_runV (As := [.int i1]) (rest := []) ⟨hx, hb, hml, hown, hts⟩ hW (gx.S hM) tt_10 (T := TX10) (N := 98) rfl (t_X10_isClaim l dC dI dA L h s.heap.size x i1 hT (gx.S hM) c0 ((hM.o gx trivial rfl).1.trans f_x_36)) (cwV 1 hts (hx_gV kw_1597 kw_1594 kw_1596 kw_73 kw_103) rfl rfl rfl (by decide +kernel) ⟨Nat.le_of_ble_eq_true rfl, Nat.le_of_ble_eq_true rfl⟩) rfl hl.1 rfl (Nat.le_of_ble_eq_true rfl) dX10_order_2 ⟨Nat.le_of_ble_eq_true rfl, Nat.le_of_ble_eq_true rfl⟩) hW (fun r_3 L_1 h_2 H locs p_4 hW => ?_)
  obtain ⟨hr_5, hT, hs⟩ := p_4
  replace hT : hx_T T_tb L_1 h_2 := hT
  replace hs : hx_S T_tb [] L h L_1 h_2 := hs
  replace af_qod : h_2.2.1 qod = odf := (funext fun j => (hs.a (gqod.S hM) rfl j).1).trans af_qod
  replace af_qow : h_2.2.1 qow = owf := (funext fun j => (hs.a (gqow.S hM) rfl j).1).trans af_qow
  replace af_qwk : h_2.2.1 qwk = wkf := (funext fun j => (hs.a (gqwk.S hM) rfl j).1).trans af_qwk
  replace hM := hM.tr (hs.mono ?o0)
  case o0 => decide
  refine hb_if_eq (zx := r_3.toInt) (tgt := 53) hx hb rfl dX10_order_5 ?o1 (fun c_6 => ?_) (fun c_6 => ?_)
  case o1 => decide
  · skip
    replace hr_5 := hr_5.resolve_right (fun z9 => absurd (c_6.symm.trans z9.1) ?o2)
    case o2 => decide
    replace hr_5 := hr_5.2
    refine lv_iconst (v := -1) hx hb dX10_order_53 ?o3 ?_
    case o3 => decide
    refine hx_reti hx hb hr hlk hW ⟨⟨odf, wkf, owf, af_qod, af_qwk, af_qow, (Or.inl ⟨(fun hc => by have h1 := hc.1; omega), ?o4, rfl, rfl, rfl⟩)⟩, hT, hM⟩ dX10_order_54
    case o4 => decide
  · skip
    replace hr_5 := hr_5.resolve_left (fun z9 => c_6 z9.1)
    replace c_6 := hr_5.1
    replace hr_5 := hr_5.2
    refine lv_aload_n hx hb dX10_order_8 rfl (lv_at hl 0 rfl) ?_
    refine hk_getr hx hb hts hC_10 hown hW (gx.S hM) tt_10 51 ?o5 rfl kw_1194 ⟨rfl, rfl, rfl⟩ ((hM.o gx trivial rfl).2.trans f_x_51) dX10_order_9 ?_
    case o5 => decide
    refine lv_iload_n hx hb dX10_order_12 rfl (lv_at hl 1 rfl) ?_
    refine hx_iald hx hb hW hT (gqju.S hM) tt_86 rfl ⟨?o6, ?o7⟩ dX10_order_13 (fun x_7 ex_7 lx_7 ux_7 => ?_)
    case o6 => omega
    case o7 => omega
    have ax_7 : x_7 = udf i1.toNatClampNeg := ex_7.trans (congrFun (hx_afS hM gqju rfl af_qju) _)
    refine lv_iconst (v := 5) hx hb dX10_order_14 ?o8 ?_
    case o8 => decide
    refine hb_icmp_ne (zx := x_7.toInt) (zy := 5) (tgt := 53) hx hb rfl ?o9 dX10_order_15 ?o10 (fun c_8 => ?_) (fun c_8 => ?_)
    case o9 => decide
    case o10 => decide
    · skip
      refine lv_iconst (v := -1) hx hb dX10_order_53 ?o11 ?_
      case o11 => decide
      refine hx_reti hx hb hr hlk hW ⟨⟨odf, wkf, owf, af_qod, af_qwk, af_qow, (Or.inl ⟨(fun hc => by have h1 := hc.2.1; rw [show udf i1.toInt.toNat = x_7 from ax_7.symm] at h1; omega), ?o12, rfl, rfl, rfl⟩)⟩, hT, hM⟩ dX10_order_54
      case o12 => decide
    · skip
      refine lv_aload_n hx hb dX10_order_18 rfl (lv_at hl 0 rfl) ?_
      refine hk_getr hx hb hts hC_10 hown hW (gx.S hM) tt_10 48 ?o13 rfl kw_1191 ⟨rfl, rfl, rfl⟩ ((hM.o gx trivial rfl).2.trans f_x_48) dX10_order_19 ?_
      case o13 => decide
      refine lv_iload_n hx hb dX10_order_22 rfl (lv_at hl 1 rfl) ?_
      refine hx_iald hx hb hW hT (gqod.S hM) tt_83 rfl ⟨?o14, ?o15⟩ dX10_order_23 (fun x_9 ex_9 lx_9 ux_9 => ?_)
      case o14 => omega
      case o15 => omega
      have ax_9 : x_9 = odf i1.toNatClampNeg := ex_9.trans (congrFun af_qod _)
      refine lv_iconst (v := -1) hx hb dX10_order_24 ?o16 ?_
      case o16 => decide
      refine hb_icmp_ne (zx := x_9.toInt) (zy := (-1)) (tgt := 53) hx hb rfl ?o17 dX10_order_25 ?o18 (fun c_10 => ?_) (fun c_10 => ?_)
      case o17 => decide
      case o18 => decide
      · skip
        refine lv_iconst (v := -1) hx hb dX10_order_53 ?o19 ?_
        case o19 => decide
        refine hx_reti hx hb hr hlk hW ⟨⟨odf, wkf, owf, af_qod, af_qwk, af_qow, (Or.inl ⟨(fun hc => by have h1 := hc.2.2.1; rw [show odf i1.toInt.toNat = x_9 from ax_9.symm] at h1; omega), ?o20, rfl, rfl, rfl⟩)⟩, hT, hM⟩ dX10_order_54
        case o20 => decide
      · skip
        refine lv_aload_n hx hb dX10_order_28 rfl (lv_at hl 0 rfl) ?_
        refine hk_getr hx hb hts hC_10 hown hW (gx.S hM) tt_10 27 ?o21 rfl kw_1170 ⟨rfl, rfl, rfl⟩ ((hM.o gx trivial rfl).2.trans f_x_27) dX10_order_29 ?_
        case o21 => decide
        refine lv_aload_n hx hb dX10_order_32 rfl (lv_at hl 0 rfl) ?_
        refine hk_getr hx hb hts hC_10 hown hW (gx.S hM) tt_10 38 ?o22 rfl kw_1181 ⟨rfl, rfl, rfl⟩ ((hM.o gx trivial rfl).2.trans f_x_38) dX10_order_33 ?_
        case o22 => decide
        refine lv_iload_n hx hb dX10_order_36 rfl (lv_at hl 1 rfl) ?_
        refine hx_iald hx hb hW hT (gqag.S hM) tt_73 rfl ⟨?o23, ?o24⟩ dX10_order_37 (fun x_11 ex_11 lx_11 ux_11 => ?_)
        case o23 => omega
        case o24 => omega
        have ax_11 : x_11 = agf i1.toNatClampNeg := ex_11.trans (congrFun (hx_afS hM gqag rfl af_qag) _)
        refine hx_zald hx hb hW hT (gqdd.S hM) tt_64 rfl ⟨?o25, ?o26⟩ dX10_order_38 (fun x_12 ex_12 lx_12 ux_12 => ?_)
        case o25 => omega
        case o26 => omega
        have ax_12 : x_12 = ddf x_11.toNatClampNeg := ex_12.trans (congrFun (hx_afS hM gqdd rfl af_qdd) _)
        have cdd9 : x_12 = ddf (agf i1.toInt.toNat).toInt.toNat := ?o27
        case o27 =>
          rw [ax_12, ax_11]
          rfl
        refine hb_if_ne (zx := x_12.toInt) (tgt := 53) hx hb rfl dX10_order_39 ?o28 (fun c_13 => ?_) (fun c_13 => ?_)
        case o28 => decide
        · skip
          refine lv_iconst (v := -1) hx hb dX10_order_53 ?o29 ?_
          case o29 => decide
          refine hx_reti hx hb hr hlk hW ⟨⟨odf, wkf, owf, af_qod, af_qwk, af_qow, (Or.inl ⟨(fun hc => by have h1 := hc.2.2.2.1; rw [← cdd9] at h1; omega), ?o30, rfl, rfl, rfl⟩)⟩, hT, hM⟩ dX10_order_54
          case o30 => decide
        · skip
          refine lv_iload_n hx hb dX10_order_42 rfl (lv_at hl 2 rfl) ?_
          refine lv_iconst (v := 1) hx hb dX10_order_43 ?o31 ?_
          case o31 => decide
          refine lv_sipush (v := 9999) hx hb dX10_order_44 ?o32 ?_
          case o32 => decide
          have zc_9999 : (9999 : Int32).toInt = 9999 := ?o33
          case o33 => decide
          have zc_1 : (1 : Int32).toInt = 1 := ?o34
          case o34 => decide
          refine hx_goi (hx_runS (As := [.int i2, .int (1 : Int32), .int (9999 : Int32)]) (rest := []) ⟨hx, hb, hml, hown, hts⟩ hW (t_X10_in l dC dI dA L_1 h_2 H.size i2 (1 : Int32) (9999 : Int32) hT) (va_cwS 3 hts (hx_gS kw_1445 kw_1443 kw_1444 kw_103) rfl rfl rfl (by decide +kernel) ⟨Nat.le_of_ble_eq_true rfl, Nat.le_of_ble_eq_true rfl⟩) rfl hl.1 rfl (Nat.le_of_ble_eq_true rfl) dX10_order_47 ⟨Nat.le_of_ble_eq_true rfl, Nat.le_of_ble_eq_true rfl⟩) hW (fun r_16 L_14 h_15 H locs p_17 hW => ?_)
          obtain ⟨hr_18, hT, hs⟩ := p_17
          replace hT : hx_T T_tb L_14 h_15 := hT
          replace hs : hx_S T_tb [] L_1 h_2 L_14 h_15 := hs
          replace af_qod : h_15.2.1 qod = odf := (funext fun j => (hs.a (gqod.S hM) rfl j).1).trans af_qod
          replace af_qow : h_15.2.1 qow = owf := (funext fun j => (hs.a (gqow.S hM) rfl j).1).trans af_qow
          replace af_qwk : h_15.2.1 qwk = wkf := (funext fun j => (hs.a (gqwk.S hM) rfl j).1).trans af_qwk
          replace ex_7 := ex_7.trans (hs.a (gqju.S hM) rfl _).1.symm
          replace ex_9 := ex_9.trans (hs.a (gqod.S hM) rfl _).1.symm
          replace ex_11 := ex_11.trans (hs.a (gqag.S hM) rfl _).1.symm
          replace ex_12 := ex_12.trans (hs.a (gqdd.S hM) rfl _).1.symm
          replace hM := hM.tr (hs.mono ?o35)
          case o35 => decide
          refine hb_if_ne (zx := r_16.toInt) (tgt := 55) hx hb rfl dX10_order_50 ?o36 (fun c_19 => ?_) (fun c_19 => ?_)
          case o36 => decide
          · skip
            replace hr_18 := hr_18.resolve_left (fun z9 => c_19 z9.1)
            replace c_19 := hr_18.1
            replace hr_18 := hr_18.2
            refine lv_aload_n hx hb dX10_order_55 rfl (lv_at hl 0 rfl) ?_
            refine hk_getr hx hb hts hC_10 hown hW (gx.S hM) tt_10 44 ?o37 rfl kw_1187 ⟨rfl, rfl, rfl⟩ ((hM.o gx trivial rfl).2.trans f_x_44) dX10_order_56 ?_
            case o37 => decide
            refine lv_iload_n hx hb dX10_order_59 rfl (lv_at hl 1 rfl) ?_
            refine hx_iald hx hb hW hT (gqpl.S hM) tt_79 rfl ⟨?o38, ?o39⟩ dX10_order_60 (fun x_20 ex_20 lx_20 ux_20 => ?_)
            case o38 => omega
            case o39 => omega
            have ax_20 : x_20 = plf i1.toNatClampNeg := ex_20.trans (congrFun (hx_afS hM gqpl rfl af_qpl) _)
            refine lv_istore_n (lv' := [(3, .int x_20), (0, .ref x), (1, .int i1), (2, .int i2)]) hx hb dX10_order_61 rfl hl ?o40 rfl (fun ls hl => ?_)
            case o40 => decide
            refine lv_aload_n hx hb dX10_order_62 rfl (lv_at hl 1 rfl) ?_
            refine hk_getr hx hb hts hC_10 hown hW (gx.S hM) tt_10 39 ?o41 rfl kw_1182 ⟨rfl, rfl, rfl⟩ ((hM.o gx trivial rfl).2.trans f_x_39) dX10_order_63 ?_
            case o41 => decide
            refine lv_iload_n hx hb dX10_order_66 rfl (lv_at hl 2 rfl) ?_
            refine hx_iald hx hb hW hT (gqsu.S hM) tt_74 rfl ⟨?o42, ?o43⟩ dX10_order_67 (fun x_21 ex_21 lx_21 ux_21 => ?_)
            case o42 => omega
            case o43 => omega
            have ax_21 : x_21 = smf i1.toNatClampNeg := ex_21.trans (congrFun (hx_afS hM gqsu rfl af_qsu) _)
            refine lv_aload_n hx hb dX10_order_68 rfl (lv_at hl 1 rfl) ?_
            refine hk_getr hx hb hts hC_10 hown hW (gx.S hM) tt_10 45 ?o44 rfl kw_1188 ⟨rfl, rfl, rfl⟩ ((hM.o gx trivial rfl).2.trans f_x_45) dX10_order_69 ?_
            case o44 => decide
            refine lv_iload_n hx hb dX10_order_72 rfl (lv_at hl 2 rfl) ?_
            refine hx_iald hx hb hW hT (gqtr.S hM) tt_80 rfl ⟨?o45, ?o46⟩ dX10_order_73 (fun x_22 ex_22 lx_22 ux_22 => ?_)
            case o45 => omega
            case o46 => omega
            have ax_22 : x_22 = tf i1.toNatClampNeg := ex_22.trans (congrFun (hx_afS hM gqtr rfl af_qtr) _)
            refine lv_aload_n hx hb dX10_order_74 rfl (lv_at hl 1 rfl) ?_
            refine lv_iload_n hx hb dX10_order_75 rfl (lv_at hl 0 rfl) ?_
            refine lv_bipush (v := 9) hx hb dX10_order_76 ?o47 ?_
            case o47 => decide
            have zc_9 : (9 : Int32).toInt = 9 := ?o48
            case o48 => decide
            refine hx_goi (hx_runV (As := [.int x_20, .int (9 : Int32)]) (rest := [.int x_22, .int x_21]) ⟨hx, hb, hml, hown, hts⟩ hW (gx.S hM) tt_10 (T := TX10) (N := 98) rfl (t_X10_ruleOf_v l dC dI dA L_14 h_15 H.size x x_20 (9 : Int32) hT (gx.S hM) qru (gqru.S hM) ((hM.o gx trivial rfl).2.trans f_x_3) rlf (hx_afS hM gqru rfl af_qru) ⟨?o49, ?o50⟩ ?o51) (cwV 2 hts (hx_gV kw_1533 kw_1530 kw_1532 kw_66 kw_103) rfl rfl rfl (by decide +kernel) ⟨Nat.le_of_ble_eq_true rfl, Nat.le_of_ble_eq_true rfl⟩) rfl hl.1 rfl (Nat.le_of_ble_eq_true rfl) dX10_order_78 ⟨Nat.le_of_ble_eq_true rfl, Nat.le_of_ble_eq_true rfl⟩) hW (fun r_25 L_23 h_24 H locs p_26 hW => ?_)
            case o49 => omega
            case o50 => omega
            case o51 => decide
            obtain ⟨hr_27, hT, hs⟩ := p_26
            replace hT : hx_T T_tb L_23 h_24 := hT
            replace hs : hx_S T_tb [] L_14 h_15 L_23 h_24 := hs
            replace af_qod : h_24.2.1 qod = odf := (funext fun j => (hs.a (gqod.S hM) rfl j).1).trans af_qod
            replace af_qow : h_24.2.1 qow = owf := (funext fun j => (hs.a (gqow.S hM) rfl j).1).trans af_qow
            replace af_qwk : h_24.2.1 qwk = wkf := (funext fun j => (hs.a (gqwk.S hM) rfl j).1).trans af_qwk
            replace ex_7 := ex_7.trans (hs.a (gqju.S hM) rfl _).1.symm
            replace ex_9 := ex_9.trans (hs.a (gqod.S hM) rfl _).1.symm
            replace ex_11 := ex_11.trans (hs.a (gqag.S hM) rfl _).1.symm
            replace ex_12 := ex_12.trans (hs.a (gqdd.S hM) rfl _).1.symm
            replace ex_20 := ex_20.trans (hs.a (gqpl.S hM) rfl _).1.symm
            replace ex_21 := ex_21.trans (hs.a (gqsu.S hM) rfl _).1.symm
            replace ex_22 := ex_22.trans (hs.a (gqtr.S hM) rfl _).1.symm
            replace hM := hM.tr (hs.mono ?o52)
            case o52 => decide
            have hl_28p := hPL i1.toInt ?o53 ?o54
            case o53 => omega
            case o54 => omega
            obtain ⟨_, hl_282, _⟩ := hCA.2 (plf i1.toInt.toNat).toInt.toNat (by omega)
            have hr9 : r_25.toInt = (A (plf i1.toInt.toNat).toInt.toNat).2.1 9 := ?o55
            case o55 =>
              rw [hr_27.1, ax_20, show (9 : Int32).toInt.toNat = 9 from by decide, ← hl_282]
              show _ = (if 9 < 13 then _ else 0)
              rw [if_pos (by decide)]
              try rfl
            have hpl9 : x_20.toInt ≤ a0.toInt := ?o56
            case o56 =>
              rw [ax_20]
              exact hl_28p.2
            have hc9_9 : r_25.toInt ≤ 999 := ?o57
            case o57 =>
              rw [hr_27.1]
              refine hx_WK_c (k := (9 : Int32).toInt) hWK ?o58 hpl9 ?o59 ?o60
              case o58 => omega
              case o59 => decide
              case o60 => decide
            refine lv_imul hx hb dX10_order_81 ?_
            refine lv_topi (fun x_29 ex_29 => ?_)
            have mx_29 : x_22.toInt = 0 → x_29.toInt = 0 := fun z => by rw [ex_29]; exact hx_mul0 z
            obtain ⟨zm_30, zm_30l, zm_30h⟩ := hz_mulc ⟨by omega, by omega⟩ ⟨by omega, by omega⟩ ex_29
            refine lv_iadd hx hb dX10_order_82 ?_
            have rg_31 := i32_r x_21
            have rg_32 := i32_r x_29
            refine lv_topi (fun x_33 ex_33 => ?_)
            have zx_33 : x_33.toInt = x_21.toInt + x_29.toInt := ?o61
            case o61 =>
              rw [ex_33]
              refine i32_add rfl rfl ?o62 ?o63
              case o62 => omega
              case o63 => omega
            refine lv_aload_n hx hb dX10_order_83 rfl (lv_at hl 1 rfl) ?_
            refine lv_iload_n hx hb dX10_order_84 rfl (lv_at hl 0 rfl) ?_
            refine lv_bipush (v := 10) hx hb dX10_order_85 ?o64 ?_
            case o64 => decide
            have zc_10 : (10 : Int32).toInt = 10 := ?o65
            case o65 => decide
            refine hx_goi (hx_runV (As := [.int x_20, .int (10 : Int32)]) (rest := [.int x_33]) ⟨hx, hb, hml, hown, hts⟩ hW (gx.S hM) tt_10 (T := TX10) (N := 98) rfl (t_X10_ruleOf_v l dC dI dA L_23 h_24 H.size x x_20 (10 : Int32) hT (gx.S hM) qru (gqru.S hM) ((hM.o gx trivial rfl).2.trans f_x_3) rlf (hx_afS hM gqru rfl af_qru) ⟨?o66, ?o67⟩ ?o68) (cwV 2 hts (hx_gV kw_1533 kw_1530 kw_1532 kw_66 kw_103) rfl rfl rfl (by decide +kernel) ⟨Nat.le_of_ble_eq_true rfl, Nat.le_of_ble_eq_true rfl⟩) rfl hl.1 rfl (Nat.le_of_ble_eq_true rfl) dX10_order_87 ⟨Nat.le_of_ble_eq_true rfl, Nat.le_of_ble_eq_true rfl⟩) hW (fun r_36 L_34 h_35 H locs p_37 hW => ?_)
            case o66 => omega
            case o67 => omega
            case o68 => decide
            obtain ⟨hr_38, hT, hs⟩ := p_37
            replace hT : hx_T T_tb L_34 h_35 := hT
            replace hs : hx_S T_tb [] L_23 h_24 L_34 h_35 := hs
            replace af_qod : h_35.2.1 qod = odf := (funext fun j => (hs.a (gqod.S hM) rfl j).1).trans af_qod
            replace af_qow : h_35.2.1 qow = owf := (funext fun j => (hs.a (gqow.S hM) rfl j).1).trans af_qow
            replace af_qwk : h_35.2.1 qwk = wkf := (funext fun j => (hs.a (gqwk.S hM) rfl j).1).trans af_qwk
            replace ex_7 := ex_7.trans (hs.a (gqju.S hM) rfl _).1.symm
            replace ex_9 := ex_9.trans (hs.a (gqod.S hM) rfl _).1.symm
            replace ex_11 := ex_11.trans (hs.a (gqag.S hM) rfl _).1.symm
            replace ex_12 := ex_12.trans (hs.a (gqdd.S hM) rfl _).1.symm
            replace ex_20 := ex_20.trans (hs.a (gqpl.S hM) rfl _).1.symm
            replace ex_21 := ex_21.trans (hs.a (gqsu.S hM) rfl _).1.symm
            replace ex_22 := ex_22.trans (hs.a (gqtr.S hM) rfl _).1.symm
            replace hM := hM.tr (hs.mono ?o69)
            case o69 => decide
            have hr10 : r_36.toInt = (A (plf i1.toInt.toNat).toInt.toNat).2.1 10 := ?o70
            case o70 =>
              rw [hr_38.1, ax_20, show (10 : Int32).toInt.toNat = 10 from by decide, ← hl_282]
              show _ = (if 10 < 13 then _ else 0)
              rw [if_pos (by decide)]
              try rfl
            have hc9_10 : r_36.toInt ≤ 999 := ?o71
            case o71 =>
              rw [hr_38.1]
              refine hx_WK_c (k := (10 : Int32).toInt) hWK ?o72 hpl9 ?o73 ?o74
              case o72 => omega
              case o73 => decide
              case o74 => decide
            refine lv_iadd hx hb dX10_order_90 ?_
            have rg_40 := i32_r x_33
            have rg_41 := i32_r r_36
            refine lv_topi (fun x_42 ex_42 => ?_)
            have zx_42 : x_42.toInt = x_33.toInt + r_36.toInt := ?o75
            case o75 =>
              rw [ex_42]
              refine i32_add rfl rfl ?o76 ?o77
              case o76 => omega
              case o77 => omega
            refine lv_aload_n hx hb dX10_order_91 rfl (lv_at hl 1 rfl) ?_
            refine lv_iload_n hx hb dX10_order_92 rfl (lv_at hl 0 rfl) ?_
            refine lv_bipush (v := 11) hx hb dX10_order_93 ?o78 ?_
            case o78 => decide
            have zc_11 : (11 : Int32).toInt = 11 := ?o79
            case o79 => decide
            refine hx_goi (hx_runV (As := [.int x_20, .int (11 : Int32)]) (rest := [.int x_42]) ⟨hx, hb, hml, hown, hts⟩ hW (gx.S hM) tt_10 (T := TX10) (N := 98) rfl (t_X10_ruleOf_v l dC dI dA L_34 h_35 H.size x x_20 (11 : Int32) hT (gx.S hM) qru (gqru.S hM) ((hM.o gx trivial rfl).2.trans f_x_3) rlf (hx_afS hM gqru rfl af_qru) ⟨?o80, ?o81⟩ ?o82) (cwV 2 hts (hx_gV kw_1533 kw_1530 kw_1532 kw_66 kw_103) rfl rfl rfl (by decide +kernel) ⟨Nat.le_of_ble_eq_true rfl, Nat.le_of_ble_eq_true rfl⟩) rfl hl.1 rfl (Nat.le_of_ble_eq_true rfl) dX10_order_95 ⟨Nat.le_of_ble_eq_true rfl, Nat.le_of_ble_eq_true rfl⟩) hW (fun r_45 L_43 h_44 H locs p_46 hW => ?_)
            case o80 => omega
            case o81 => omega
            case o82 => decide
            obtain ⟨hr_47, hT, hs⟩ := p_46
            replace hT : hx_T T_tb L_43 h_44 := hT
            replace hs : hx_S T_tb [] L_34 h_35 L_43 h_44 := hs
            replace af_qod : h_44.2.1 qod = odf := (funext fun j => (hs.a (gqod.S hM) rfl j).1).trans af_qod
            replace af_qow : h_44.2.1 qow = owf := (funext fun j => (hs.a (gqow.S hM) rfl j).1).trans af_qow
            replace af_qwk : h_44.2.1 qwk = wkf := (funext fun j => (hs.a (gqwk.S hM) rfl j).1).trans af_qwk
            replace ex_7 := ex_7.trans (hs.a (gqju.S hM) rfl _).1.symm
            replace ex_9 := ex_9.trans (hs.a (gqod.S hM) rfl _).1.symm
            replace ex_11 := ex_11.trans (hs.a (gqag.S hM) rfl _).1.symm
            replace ex_12 := ex_12.trans (hs.a (gqdd.S hM) rfl _).1.symm
            replace ex_20 := ex_20.trans (hs.a (gqpl.S hM) rfl _).1.symm
            replace ex_21 := ex_21.trans (hs.a (gqsu.S hM) rfl _).1.symm
            replace ex_22 := ex_22.trans (hs.a (gqtr.S hM) rfl _).1.symm
            replace hM := hM.tr (hs.mono ?o83)
            case o83 => decide
            have hr11 : r_45.toInt = (A (plf i1.toInt.toNat).toInt.toNat).2.1 11 := ?o84
            case o84 =>
              rw [hr_47.1, ax_20, show (11 : Int32).toInt.toNat = 11 from by decide, ← hl_282]
              show _ = (if 11 < 13 then _ else 0)
              rw [if_pos (by decide)]
              try rfl
            have hc9_11 : r_45.toInt ≤ 999 := ?o85
            case o85 =>
              rw [hr_47.1]
              refine hx_WK_c (k := (11 : Int32).toInt) hWK ?o86 hpl9 ?o87 ?o88
              case o86 => omega
              case o87 => decide
              case o88 => decide
            refine lv_iadd hx hb dX10_order_98 ?_
            have rg_49 := i32_r x_42
            have rg_50 := i32_r r_45
            refine lv_topi (fun x_51 ex_51 => ?_)
            have zx_51 : x_51.toInt = x_42.toInt + r_45.toInt := ?o89
            case o89 =>
              rw [ex_51]
              refine i32_add rfl rfl ?o90 ?o91
              case o90 => omega
              case o91 => omega
            have hall9 : x_51.toInt = ((smf i1.toInt.toNat).toInt + ((tf i1.toInt.toNat).toInt * (A (plf i1.toInt.toNat).toInt.toNat).2.1 9 + (A (plf i1.toInt.toNat).toInt.toNat).2.1 10 + (A (plf i1.toInt.toNat).toInt.toNat).2.1 11)) := ?o92
            case o92 =>
              rw [show smf i1.toInt.toNat = x_21 from ax_21.symm, show tf i1.toInt.toNat = x_22 from ax_22.symm, ← hr9, ← hr10, ← hr11, ← zm_30]
              omega
            refine lv_istore (lv' := [(4, .int x_51), (3, .int x_20), (0, .ref x), (1, .int i1), (2, .int i2)]) hx hb dX10_order_99 hl ?o93 rfl (fun ls hl => ?_)
            case o93 => decide
            refine lv_iload_n hx hb dX10_order_101 rfl (lv_at hl 4 rfl) ?_
            refine lv_aload_n hx hb dX10_order_102 rfl (lv_at hl 2 rfl) ?_
            refine lv_iload_n hx hb dX10_order_103 rfl (lv_at hl 1 rfl) ?_
            refine lv_iconst (v := 2) hx hb dX10_order_104 ?o94 ?_
            case o94 => decide
            have zc_2 : (2 : Int32).toInt = 2 := ?o95
            case o95 => decide
            refine hx_goi (hx_runV (As := [.int x_20, .int (2 : Int32)]) (rest := [.int i2]) ⟨hx, hb, hml, hown, hts⟩ hW (gx.S hM) tt_10 (T := TX10) (N := 98) rfl (t_X10_ruleOf_v l dC dI dA L_43 h_44 H.size x x_20 (2 : Int32) hT (gx.S hM) qru (gqru.S hM) ((hM.o gx trivial rfl).2.trans f_x_3) rlf (hx_afS hM gqru rfl af_qru) ⟨?o96, ?o97⟩ ?o98) (cwV 2 hts (hx_gV kw_1533 kw_1530 kw_1532 kw_66 kw_103) rfl rfl rfl (by decide +kernel) ⟨Nat.le_of_ble_eq_true rfl, Nat.le_of_ble_eq_true rfl⟩) rfl hl.1 rfl (Nat.le_of_ble_eq_true rfl) dX10_order_105 ⟨Nat.le_of_ble_eq_true rfl, Nat.le_of_ble_eq_true rfl⟩) hW (fun r_54 L_52 h_53 H locs p_55 hW => ?_)
            case o96 => omega
            case o97 => omega
            case o98 => decide
            obtain ⟨hr_56, hT, hs⟩ := p_55
            replace hT : hx_T T_tb L_52 h_53 := hT
            replace hs : hx_S T_tb [] L_43 h_44 L_52 h_53 := hs
            replace af_qod : h_53.2.1 qod = odf := (funext fun j => (hs.a (gqod.S hM) rfl j).1).trans af_qod
            replace af_qow : h_53.2.1 qow = owf := (funext fun j => (hs.a (gqow.S hM) rfl j).1).trans af_qow
            replace af_qwk : h_53.2.1 qwk = wkf := (funext fun j => (hs.a (gqwk.S hM) rfl j).1).trans af_qwk
            replace ex_7 := ex_7.trans (hs.a (gqju.S hM) rfl _).1.symm
            replace ex_9 := ex_9.trans (hs.a (gqod.S hM) rfl _).1.symm
            replace ex_11 := ex_11.trans (hs.a (gqag.S hM) rfl _).1.symm
            replace ex_12 := ex_12.trans (hs.a (gqdd.S hM) rfl _).1.symm
            replace ex_20 := ex_20.trans (hs.a (gqpl.S hM) rfl _).1.symm
            replace ex_21 := ex_21.trans (hs.a (gqsu.S hM) rfl _).1.symm
            replace ex_22 := ex_22.trans (hs.a (gqtr.S hM) rfl _).1.symm
            replace hM := hM.tr (hs.mono ?o99)
            case o99 => decide
            have hr2 : r_54.toInt = (A (plf i1.toInt.toNat).toInt.toNat).2.1 2 := ?o100
            case o100 =>
              rw [hr_56.1, ax_20, show (2 : Int32).toInt.toNat = 2 from by decide, ← hl_282]
              show _ = (if 2 < 13 then _ else 0)
              rw [if_pos (by decide)]
              try rfl
            refine hb_icmp_ge (zx := i2.toInt) (zy := r_54.toInt) (tgt := 120) hx hb rfl rfl dX10_order_108 ?o101 (fun c_58 => ?_) (fun c_58 => ?_)
            case o101 => decide
            · skip
              refine lv_iconst (v := 0) hx hb dX10_order_120 ?o102 ?_
              case o102 => decide
              refine lv_istore (lv' := [(5, .int (0 : Int32)), (4, .int x_51), (3, .int x_20), (0, .ref x), (1, .int i1), (2, .int i2)]) hx hb dX10_order_121 hl ?o103 rfl (fun ls hl => ?_)
              case o103 => decide
              refine lv_iconst (v := 0) hx hb dX10_order_123 ?o104 ?_
              case o104 => decide
              refine lv_istore (lv' := [(6, .int (0 : Int32)), (5, .int (0 : Int32)), (4, .int x_51), (3, .int x_20), (0, .ref x), (1, .int i1), (2, .int i2)]) hx hb dX10_order_124 hl ?o105 rfl (fun ls hl => ?_)
              case o105 => decide
              have loop126 : ∀ (n126 : Nat) (iv126_5 iv126_6 : Int32) (H : Heap) (locs : List Loc) (hL1 : List Nat) (hl1 : hx_h), 0 ≤ iv126_5.toInt → iv126_5.toInt ≤ 999900 → 0 ≤ iv126_6.toInt → iv126_6.toInt ≤ 100 → (iv126_5.toInt = hz_oi agf wkf (hz_Rn odf szf gdf owf svf (hz_rc A plf) pof pdf psm pkf pst nw0.toInt n0.toInt.toNat) (agf i1.toInt.toNat).toInt (iv126_6.toInt).toNat) → (iv126_5.toInt ≤ 9999 * iv126_6.toInt) → (iv126_6.toInt ≤ c0.toInt) → ∀ (ls : Array Slot), 100 - iv126_6.toInt < (n126 : Int) → hx_W T_tb (P_ty dA) (dC, dI) vwCl (hx_A L sz) s.heap hL1 hl1 s H locs → hx_T T_tb hL1 hl1 → hx_S T_tb [(10, 67), (10, 68), (10, 69), (10, 70), (10, 71), (83, 0), (89, 0), (90, 0)] L h hL1 hl1 → hl1.2.1 qod = odf → hl1.2.1 qow = owf → hl1.2.1 qwk = wkf → lv_has ls 7 [(6, .int iv126_6), (5, .int iv126_5), (4, .int x_51), (3, .int x_20), (0, .ref x), (1, .int i1), (2, .int i2)] → W p l e ({ frames := 3, cells := 0, slots := 0, locals := 71 }) s m ([.ref x, .int i1, .int i2] : List Value).toArray below meth c H locs 0 0 (MQ below (va_Qi (fun (r : Int32) (u : List Nat × hx_h) => (∃ (odf1 : Nat → Int32) (wkf1 : Nat → Int32) (owf1 : Nat → Int32), u.2.2.1 qod = odf1 ∧ u.2.2.1 qwk = wkf1 ∧ u.2.2.1 qow = owf1 ∧ (hz_OS (hz_OC c0.toInt i1.toInt i2.toInt (udf i1.toInt.toNat).toInt (odf i1.toInt.toNat).toInt (ddf (agf i1.toInt.toNat).toInt.toNat).toInt) i1.toInt.toNat i2 nw0 r ((A (plf i1.toInt.toNat).toInt.toNat).2.1 2) ((smf i1.toInt.toNat).toInt + ((tf i1.toInt.toNat).toInt * (A (plf i1.toInt.toNat).toInt.toNat).2.1 9 + (A (plf i1.toInt.toNat).toInt.toNat).2.1 10 + (A (plf i1.toInt.toNat).toInt.toNat).2.1 11)) (hz_oi agf wkf (hz_Rn odf szf gdf owf svf (hz_rc A plf) pof pdf psm pkf pst nw0.toInt n0.toInt.toNat) (agf i1.toInt.toNat).toInt c0.toInt.toNat) ((eaf (agf i1.toInt.toNat).toInt.toNat).toInt - (A (plf i1.toInt.toNat).toInt.toNat).2.1 3 * (hdf (agf i1.toInt.toNat).toInt.toNat).toInt) odf odf1 wkf wkf1 owf owf1)) ∧ hx_T T_tb u.1 u.2 ∧ hx_S T_tb [(10, 67), (10, 68), (10, 69), (10, 70), (10, 71), (83, 0), (89, 0), (90, 0)] L h u.1 u.2) (hx_E T_tb (P_ty dA) (dC, dI) vwCl (hx_A L sz)) (hx_A L sz)) ([.ref x, .int i1, .int i2] : List Value).toArray s 0 0 (hx_A L sz)) (F0 m 126 ls []) := by
                intro n126
                induction n126 with
                | zero => intro iv126_5 iv126_6 H locs hL1 hl1 bliv126_5 buiv126_5 bliv126_6 buiv126_6 vi126_0 vi126_1 vi126_2 ls hn126; exfalso; omega
                | succ n126 ih126 =>
                  intro iv126_5 iv126_6 H locs hL1 hl1 bliv126_5 buiv126_5 bliv126_6 buiv126_6 vi126_0 vi126_1 vi126_2 ls hn126 hW hT hM  af_qod af_qow af_qwk hl
                  refine lv_iload hx hb dX10_order_126 (lv_at hl 0 rfl) ?_
                  refine lv_aload_n hx hb dX10_order_128 rfl (lv_at hl 4 rfl) ?_
                  refine hk_geti hx hb hts hC_10 hown hW (gx.S hM) tt_10 36 ?o106 rfl kw_1179 ⟨rfl, rfl, rfl⟩ ((hM.o gx trivial rfl).1.trans f_x_36) dX10_order_129 ?_
                  case o106 => decide
                  refine hb_icmp_ge (zx := iv126_6.toInt) (zy := c0.toInt) (tgt := 182) hx hb rfl rfl dX10_order_132 ?o107 (fun c_59 => ?_) (fun c_59 => ?_)
                  case o107 => decide
                  · skip
                    have hoi9 : iv126_5.toInt = (hz_oi agf wkf (hz_Rn odf szf gdf owf svf (hz_rc A plf) pof pdf psm pkf pst nw0.toInt n0.toInt.toNat) (agf i1.toInt.toNat).toInt c0.toInt.toNat) := ?o108
                    case o108 =>
                      have h8 := vi126_0
                      rw [show iv126_6.toInt.toNat = c0.toInt.toNat by omega] at h8
                      exact h8
                    refine lv_iload_n hx hb dX10_order_182 rfl (lv_at hl 6 rfl) ?_
                    refine lv_iload hx hb dX10_order_183 (lv_at hl 1 rfl) ?_
                    refine lv_iadd hx hb dX10_order_185 ?_
                    have rg_60 := i32_r i2
                    have rg_61 := i32_r iv126_5
                    refine lv_topi (fun x_62 ex_62 => ?_)
                    have zx_62 : x_62.toInt = i2.toInt + iv126_5.toInt := ?o109
                    case o109 =>
                      rw [ex_62]
                      refine i32_add rfl rfl ?o110 ?o111
                      case o110 => omega
                      case o111 => omega
                    refine lv_aload_n hx hb dX10_order_186 rfl (lv_at hl 4 rfl) ?_
                    refine lv_aload_n hx hb dX10_order_187 rfl (lv_at hl 4 rfl) ?_
                    refine hk_getr hx hb hts hC_10 hown hW (gx.S hM) tt_10 38 ?o112 rfl kw_1181 ⟨rfl, rfl, rfl⟩ ((hM.o gx trivial rfl).2.trans f_x_38) dX10_order_188 ?_
                    case o112 => decide
                    refine lv_iload_n hx hb dX10_order_191 rfl (lv_at hl 5 rfl) ?_
                    refine hx_iald hx hb hW hT (gqag.S hM) tt_73 rfl ⟨?o113, ?o114⟩ dX10_order_192 (fun x_63 ex_63 lx_63 ux_63 => ?_)
                    case o113 => omega
                    case o114 => omega
                    have ax_63 : x_63 = agf i1.toNatClampNeg := ex_63.trans (congrFun (hx_afS hM gqag rfl af_qag) _)
                    refine lv_iload_n hx hb dX10_order_193 rfl (lv_at hl 3 rfl) ?_
                    refine hx_goi (hx_runV (As := [.int x_63, .int x_20]) (rest := [.int x_62]) ⟨hx, hb, hml, hown, hts⟩ hW (gx.S hM) tt_10 (T := TX10) (N := 98) rfl (t_X10_means_v l dC dI dA hL1 hl1 H.size x x_63 x_20 hT (gx.S hM) qea (gqea.S hM) ((hM.o gx trivial rfl).2.trans f_x_22) qhd (gqhd.S hM) ((hM.o gx trivial rfl).2.trans f_x_23) qru (gqru.S hM) ((hM.o gx trivial rfl).2.trans f_x_3) eaf (hx_afS hM gqea rfl af_qea) hdf (hx_afS hM gqhd rfl af_qhd) rlf (hx_afS hM gqru rfl af_qru) ⟨?o115, ?o116⟩ ⟨?o117, ?o118⟩ ((A (plf i1.toInt.toNat).toInt.toNat).2.1 3) (by rw [ax_20, ← hl_282]; show _ = (if 3 < 13 then _ else 0); rw [if_pos (by decide)]; try rfl)) (cwV 2 hts (hx_gV kw_1645 kw_1642 kw_1644 kw_83 kw_103) rfl rfl rfl (by decide +kernel) ⟨Nat.le_of_ble_eq_true rfl, Nat.le_of_ble_eq_true rfl⟩) rfl hl.1 rfl (Nat.le_of_ble_eq_true rfl) dX10_order_194 ⟨Nat.le_of_ble_eq_true rfl, Nat.le_of_ble_eq_true rfl⟩) hW (fun r_66 L_64 h_65 H locs p_67 hW => ?_)
                    case o115 => omega
                    case o116 => omega
                    case o117 => omega
                    case o118 => omega
                    obtain ⟨hr_68, hT, hs⟩ := p_67
                    replace hT : hx_T T_tb L_64 h_65 := hT
                    replace hs : hx_S T_tb [] hL1 hl1 L_64 h_65 := hs
                    replace af_qod : h_65.2.1 qod = odf := (funext fun j => (hs.a (gqod.S hM) rfl j).1).trans af_qod
                    replace af_qow : h_65.2.1 qow = owf := (funext fun j => (hs.a (gqow.S hM) rfl j).1).trans af_qow
                    replace af_qwk : h_65.2.1 qwk = wkf := (funext fun j => (hs.a (gqwk.S hM) rfl j).1).trans af_qwk
                    replace ex_63 := ex_63.trans (hs.a (gqag.S hM) rfl _).1.symm
                    replace hM := hM.tr (hs.mono ?o119)
                    case o119 => decide
                    have hme9 : r_66.toInt = ((eaf (agf i1.toInt.toNat).toInt.toNat).toInt - (A (plf i1.toInt.toNat).toInt.toNat).2.1 3 * (hdf (agf i1.toInt.toNat).toInt.toNat).toInt) := ?o120
                    case o120 =>
                      have h9 := hr_68.1
                      rw [ax_63] at h9
                      exact h9
                    refine hb_icmp_le (zx := x_62.toInt) (zy := r_66.toInt) (tgt := 203) hx hb rfl rfl dX10_order_197 ?o121 (fun c_69 => ?_) (fun c_69 => ?_)
                    case o121 => decide
                    · skip
                      refine lv_aload_n hx hb dX10_order_203 rfl (lv_at hl 4 rfl) ?_
                      refine hk_getr hx hb hts hC_10 hown hW (gx.S hM) tt_10 48 ?o122 rfl kw_1191 ⟨rfl, rfl, rfl⟩ ((hM.o gx trivial rfl).2.trans f_x_48) dX10_order_204 ?_
                      case o122 => decide
                      refine lv_iload_n hx hb dX10_order_207 rfl (lv_at hl 5 rfl) ?_
                      refine lv_aload_n hx hb dX10_order_208 rfl (lv_at hl 4 rfl) ?_
                      refine hk_geti hx hb hts hC_10 hown hW (gx.S hM) tt_10 0 ?o123 rfl kw_1143 ⟨rfl, rfl, rfl⟩ ((hM.o gx trivial rfl).1.trans f_x_0) dX10_order_209 ?_
                      case o123 => decide
                      have af_qodO := af_qod
                      refine hx_iast hx hb hW hT (hx_S.rf (M := [(83, 0)])) (gqod.S hM) tt_83 rfl ⟨?o124, ?o125⟩ rfl ⟨?o126, ?o127⟩ (List.mem_singleton.mpr rfl) dX10_order_212 (fun H locs h_70 eh_70 hW hT hs => ?_)
                      case o124 => omega
                      case o125 => omega
                      case o126 => omega
                      case o127 => omega
                      replace af_qow : h_70.2.1 qow = owf := (funext fun j => (hs.a (gqow.S hM) rfl j).1).trans af_qow
                      replace af_qwk : h_70.2.1 qwk = wkf := (funext fun j => (hs.a (gqwk.S hM) rfl j).1).trans af_qwk
                      replace ex_63 := ex_63.trans (hs.a (gqag.S hM) rfl _).1.symm
                      replace hM := hM.tr (hs.mono ?o128)
                      case o128 => decide
                      obtain ⟨fa_71, dfa_71⟩ : ∃ g : Nat → Int32, g = hx_up odf i1.toNatClampNeg nw0 := ⟨_, rfl⟩
                      have nfa_71 : h_70.2.1 qod = fa_71 := ?o129
                      case o129 =>
                        rw [eh_70, dfa_71, ← af_qodO]
                        exact hx_pi_fun _ _ _ _
                      refine lv_aload_n hx hb dX10_order_213 rfl (lv_at hl 4 rfl) ?_
                      refine hk_getr hx hb hts hC_10 hown hW (gx.S hM) tt_10 54 ?o130 rfl kw_1197 ⟨rfl, rfl, rfl⟩ ((hM.o gx trivial rfl).2.trans f_x_54) dX10_order_214 ?_
                      case o130 => decide
                      refine lv_iload_n hx hb dX10_order_217 rfl (lv_at hl 5 rfl) ?_
                      refine lv_iload_n hx hb dX10_order_218 rfl (lv_at hl 6 rfl) ?_
                      have af_qwkO := af_qwk
                      refine hx_iast hx hb hW hT (hx_S.rf (M := [(89, 0)])) (gqwk.S hM) tt_89 rfl ⟨?o131, ?o132⟩ rfl ⟨?o133, ?o134⟩ (List.mem_singleton.mpr rfl) dX10_order_219 (fun H locs h_72 eh_72 hW hT hs => ?_)
                      case o131 => omega
                      case o132 => omega
                      case o133 => omega
                      case o134 => omega
                      replace af_qow : h_72.2.1 qow = owf := (funext fun j => (hs.a (gqow.S hM) rfl j).1).trans af_qow
                      replace nfa_71 : h_72.2.1 qod = fa_71 := (funext fun j => (hs.a (gqod.S hM) rfl j).1).trans nfa_71
                      replace ex_63 := ex_63.trans (hs.a (gqag.S hM) rfl _).1.symm
                      replace hM := hM.tr (hs.mono ?o135)
                      case o135 => decide
                      obtain ⟨fa_73, dfa_73⟩ : ∃ g : Nat → Int32, g = hx_up wkf i1.toNatClampNeg i2 := ⟨_, rfl⟩
                      have nfa_73 : h_72.2.1 qwk = fa_73 := ?o136
                      case o136 =>
                        rw [eh_72, dfa_73, ← af_qwkO]
                        exact hx_pi_fun _ _ _ _
                      refine lv_aload_n hx hb dX10_order_220 rfl (lv_at hl 4 rfl) ?_
                      refine hk_getr hx hb hts hC_10 hown hW (gx.S hM) tt_10 55 ?o137 rfl kw_1198 ⟨rfl, rfl, rfl⟩ ((hM.o gx trivial rfl).2.trans f_x_55) dX10_order_221 ?_
                      case o137 => decide
                      refine lv_iload_n hx hb dX10_order_224 rfl (lv_at hl 5 rfl) ?_
                      refine lv_iload hx hb dX10_order_225 (lv_at hl 2 rfl) ?_
                      have af_qowO := af_qow
                      refine hx_iast hx hb hW hT (hx_S.rf (M := [(90, 0)])) (gqow.S hM) tt_90 rfl ⟨?o138, ?o139⟩ rfl ⟨?o140, ?o141⟩ (List.mem_singleton.mpr rfl) dX10_order_227 (fun H locs h_74 eh_74 hW hT hs => ?_)
                      case o138 => omega
                      case o139 => omega
                      case o140 => omega
                      case o141 => omega
                      replace nfa_71 : h_74.2.1 qod = fa_71 := (funext fun j => (hs.a (gqod.S hM) rfl j).1).trans nfa_71
                      replace nfa_73 : h_74.2.1 qwk = fa_73 := (funext fun j => (hs.a (gqwk.S hM) rfl j).1).trans nfa_73
                      replace ex_63 := ex_63.trans (hs.a (gqag.S hM) rfl _).1.symm
                      replace hM := hM.tr (hs.mono ?o142)
                      case o142 => decide
                      obtain ⟨fa_75, dfa_75⟩ : ∃ g : Nat → Int32, g = hx_up owf i1.toNatClampNeg x_51 := ⟨_, rfl⟩
                      have nfa_75 : h_74.2.1 qow = fa_75 := ?o143
                      case o143 =>
                        rw [eh_74, dfa_75, ← af_qowO]
                        exact hx_pi_fun _ _ _ _
                      refine lv_iload hx hb dX10_order_228 (lv_at hl 2 rfl) ?_
                      refine hx_reti hx hb hr hlk hW ⟨⟨fa_71, fa_73, fa_75, nfa_71, nfa_73, nfa_75, (Or.inr ⟨⟨⟨?o144, ?o145⟩, (by rw [show udf i1.toInt.toNat = x_7 from ax_7.symm]; omega), (by rw [show odf i1.toInt.toNat = x_9 from ax_9.symm]; omega), (by rw [← cdd9]; omega), ?o146, ?o147⟩, Or.inr (Or.inr ⟨(by rw [← hr2, ← hall9]; omega), (by rw [← hme9, ← hoi9]; omega), hall9, dfa_71, dfa_73, dfa_75⟩)⟩)⟩, hT, hM⟩ dX10_order_230
                      case o144 => omega
                      case o145 => omega
                      case o146 => omega
                      case o147 => omega
                    · skip
                      refine lv_bipush (v := -3) hx hb dX10_order_200 ?o148 ?_
                      case o148 => decide
                      refine hx_reti hx hb hr hlk hW ⟨⟨odf, wkf, owf, af_qod, af_qwk, af_qow, (Or.inr ⟨⟨⟨?o149, ?o150⟩, (by rw [show udf i1.toInt.toNat = x_7 from ax_7.symm]; omega), (by rw [show odf i1.toInt.toNat = x_9 from ax_9.symm]; omega), (by rw [← cdd9]; omega), ?o151, ?o152⟩, Or.inr (Or.inl ⟨(by rw [← hr2, ← hall9]; omega), (by rw [← hme9, ← hoi9]; omega), ?o153, rfl, rfl, rfl⟩)⟩)⟩, hT, hM⟩ dX10_order_202
                      case o149 => omega
                      case o150 => omega
                      case o151 => omega
                      case o152 => omega
                      case o153 => decide
                  · skip
                    refine lv_iload hx hb dX10_order_135 (lv_at hl 1 rfl) ?_
                    refine lv_aload_n hx hb dX10_order_137 rfl (lv_at hl 4 rfl) ?_
                    refine hk_getr hx hb hts hC_10 hown hW (gx.S hM) tt_10 38 ?o154 rfl kw_1181 ⟨rfl, rfl, rfl⟩ ((hM.o gx trivial rfl).2.trans f_x_38) dX10_order_138 ?_
                    case o154 => decide
                    refine lv_iload hx hb dX10_order_141 (lv_at hl 0 rfl) ?_
                    refine hx_iald hx hb hW hT (gqag.S hM) tt_73 rfl ⟨?o155, ?o156⟩ dX10_order_143 (fun x_76 ex_76 lx_76 ux_76 => ?_)
                    case o155 => omega
                    case o156 => omega
                    have ax_76 : x_76 = agf iv126_6.toNatClampNeg := ex_76.trans (congrFun (hx_afS hM gqag rfl af_qag) _)
                    refine lv_aload_n hx hb dX10_order_144 rfl (lv_at hl 4 rfl) ?_
                    refine hk_getr hx hb hts hC_10 hown hW (gx.S hM) tt_10 38 ?o157 rfl kw_1181 ⟨rfl, rfl, rfl⟩ ((hM.o gx trivial rfl).2.trans f_x_38) dX10_order_145 ?_
                    case o157 => decide
                    refine lv_iload_n hx hb dX10_order_148 rfl (lv_at hl 5 rfl) ?_
                    refine hx_iald hx hb hW hT (gqag.S hM) tt_73 rfl ⟨?o158, ?o159⟩ dX10_order_149 (fun x_77 ex_77 lx_77 ux_77 => ?_)
                    case o158 => omega
                    case o159 => omega
                    have ax_77 : x_77 = agf i1.toNatClampNeg := ex_77.trans (congrFun (hx_afS hM gqag rfl af_qag) _)
                    refine hb_icmp_ne (zx := x_76.toInt) (zy := x_77.toInt) (tgt := 172) hx hb rfl rfl dX10_order_150 ?o160 (fun c_78 => ?_) (fun c_78 => ?_)
                    case o160 => decide
                    · skip
                      refine lv_iconst (v := 0) hx hb dX10_order_172 ?o161 ?_
                      case o161 => decide
                      refine lv_iadd hx hb dX10_order_173 ?_
                      have rg_79 := i32_r iv126_5
                      refine lv_topi (fun x_80 ex_80 => ?_)
                      have zx_80 : x_80.toInt = iv126_5.toInt + 0 := ?o162
                      case o162 =>
                        rw [ex_80]
                        refine i32_add rfl ?o163 ?o164 ?o165
                        case o163 => decide
                        case o164 => omega
                        case o165 => omega
                      refine lv_istore (lv' := [(5, .int x_80), (6, .int iv126_6), (4, .int x_51), (3, .int x_20), (0, .ref x), (1, .int i1), (2, .int i2)]) hx hb dX10_order_174 hl ?o166 rfl (fun ls hl => ?_)
                      case o166 => decide
                      obtain ⟨x_81, ex_81⟩ : ∃ y : Int32, y = iv126_6 + Int32.ofInt 1 := ⟨_, rfl⟩
                      have rg_82 := i32_r iv126_6
                      have zx_81 : x_81.toInt = iv126_6.toInt + (1) := ?o167
                      case o167 =>
                        rw [ex_81]
                        refine i32_add rfl ?o168 ?o169 ?o170
                        case o168 => decide
                        case o169 => omega
                        case o170 => omega
                      refine lv_iinc (v := x_81) (lv' := [(6, .int x_81), (5, .int x_80), (4, .int x_51), (3, .int x_20), (0, .ref x), (1, .int i1), (2, .int i2)]) hx hb dX10_order_176 hl (k := 1) rfl ex_81.symm ?o171 rfl (fun ls hl => ?_)
                      case o171 => decide
                      refine lv_goto (tgt := 126) hx hb dX10_order_179 ?o172 ?_
                      case o172 => decide
                      refine ih126 x_80 x_81 _ _ hL1 hl1 ?o173 ?o174 ?o175 ?o176 (by have e9 : x_80.toInt = iv126_5.toInt := (by omega); rw [e9]; exact hz_oi_n vi126_0 (by omega) (fun z => by have z9 := z.1; rw [show agf iv126_6.toInt.toNat = x_76 from ax_76.symm, show agf i1.toInt.toNat = x_77 from ax_77.symm] at z9; omega) zx_81) ?o177 ?o178 ls ?o179 hW hT hM  af_qod af_qow af_qwk (lv_sub hl [0, 1, 2, 3, 4, 5, 6] rfl)
                      case o173 => omega
                      case o174 => omega
                      case o175 => omega
                      case o176 => omega
                      case o177 => omega
                      case o178 => omega
                      case o179 => omega
                    · skip
                      refine lv_aload_n hx hb dX10_order_153 rfl (lv_at hl 4 rfl) ?_
                      refine lv_iload hx hb dX10_order_154 (lv_at hl 0 rfl) ?_
                      refine hx_goi (hx_runV (As := [.int iv126_6]) (rest := [.int iv126_5]) ⟨hx, hb, hml, hown, hts⟩ hW (gx.S hM) tt_10 (T := TX10) (N := 98) rfl (t_X10_isOpen_v l dC dI dA hL1 hl1 H.size x iv126_6 hT (gx.S hM) qfo (gqfo.S hM) ((hM.o gx trivial rfl).2.trans f_x_46) qhe (gqhe.S hM) ((hM.o gx trivial rfl).2.trans f_x_47) qju (gqju.S hM) ((hM.o gx trivial rfl).2.trans f_x_51) qod (gqod.S hM) ((hM.o gx trivial rfl).2.trans f_x_48) qsv (gqsv.S hM) ((hM.o gx trivial rfl).2.trans f_x_50) qsz (gqsz.S hM) ((hM.o gx trivial rfl).2.trans f_x_49) qgd (gqgd.S hM) ((hM.o gx trivial rfl).2.trans f_x_56) qow (gqow.S hM) ((hM.o gx trivial rfl).2.trans f_x_55) qwk (gqwk.S hM) ((hM.o gx trivial rfl).2.trans f_x_54) qpl (gqpl.S hM) ((hM.o gx trivial rfl).2.trans f_x_44) qru (gqru.S hM) ((hM.o gx trivial rfl).2.trans f_x_3) qpo (gqpo.S hM) ((hM.o gx trivial rfl).2.trans f_x_60) qpd (gqpd.S hM) ((hM.o gx trivial rfl).2.trans f_x_61) qps (gqps.S hM) ((hM.o gx trivial rfl).2.trans f_x_62) qpk (gqpk.S hM) ((hM.o gx trivial rfl).2.trans f_x_63) qpt (gqpt.S hM) ((hM.o gx trivial rfl).2.trans f_x_64) fof (hx_afS hM gqfo rfl af_qfo) hrf (hx_afS hM gqhe rfl af_qhe) udf (hx_afS hM gqju rfl af_qju) odf af_qod svf (hx_afS hM gqsv rfl af_qsv) szf (hx_afS hM gqsz rfl af_qsz) gdf (hx_afS hM gqgd rfl af_qgd) owf af_qow wkf af_qwk plf (hx_afS hM gqpl rfl af_qpl) rlf (hx_afS hM gqru rfl af_qru) pof (hx_afS hM gqpo rfl af_qpo) pdf (hx_afS hM gqpd rfl af_qpd) psm (hx_afS hM gqps rfl af_qps) pkf (hx_afS hM gqpk rfl af_qpk) pst (hx_afS hM gqpt rfl af_qpt) c0 ((hM.o gx trivial rfl).1.trans f_x_36) a0 ((hM.o gx trivial rfl).1.trans f_x_1) nw0 ((hM.o gx trivial rfl).1.trans f_x_0) n0 ((hM.o gx trivial rfl).1.trans f_x_59) ⟨?o180, ?o181⟩ adf psf prf A hCA hPL) (cwV 1 hts (hx_gV kw_1637 kw_1634 kw_1636 kw_81 kw_103) rfl rfl rfl (by decide +kernel) ⟨Nat.le_of_ble_eq_true rfl, Nat.le_of_ble_eq_true rfl⟩) rfl hl.1 rfl (Nat.le_of_ble_eq_true rfl) dX10_order_156 ⟨Nat.le_of_ble_eq_true rfl, Nat.le_of_ble_eq_true rfl⟩) hW (fun r_85 L_83 h_84 H locs p_86 hW => ?_)
                      case o180 => omega
                      case o181 => omega
                      obtain ⟨⟨w_88, fw_88, hr_87⟩, hT, hs⟩ := p_86
                      replace hT : hx_T T_tb L_83 h_84 := hT
                      replace hs : hx_S T_tb [(10, 67), (10, 68), (10, 69), (10, 70), (10, 71)] hL1 hl1 L_83 h_84 := hs
                      replace af_qod : h_84.2.1 qod = odf := (funext fun j => (hs.a (gqod.S hM) rfl j).1).trans af_qod
                      replace af_qow : h_84.2.1 qow = owf := (funext fun j => (hs.a (gqow.S hM) rfl j).1).trans af_qow
                      replace af_qwk : h_84.2.1 qwk = wkf := (funext fun j => (hs.a (gqwk.S hM) rfl j).1).trans af_qwk
                      replace ex_76 := ex_76.trans (hs.a (gqag.S hM) rfl _).1.symm
                      replace ex_77 := ex_77.trans (hs.a (gqag.S hM) rfl _).1.symm
                      replace hM := hM.tr (hs.mono ?o182)
                      case o182 => decide
                      have fw_88 : h_84.2.1 x 68 = w_88 := fw_88
                      have bw_88 := hT.gi (gx.S hM) tt_10 (k := 68) rfl
                      rw [fw_88] at bw_88
                      have bw_88 : 0 ≤ w_88.toInt ∧ w_88.toInt ≤ 610000 := bw_88
                      refine hb_if_eq (zx := r_85.toInt) (tgt := 172) hx hb rfl dX10_order_159 ?o183 (fun c_89 => ?_) (fun c_89 => ?_)
                      case o183 => decide
                      · skip
                        refine lv_iconst (v := 0) hx hb dX10_order_172 ?o184 ?_
                        case o184 => decide
                        refine lv_iadd hx hb dX10_order_173 ?_
                        have rg_90 := i32_r iv126_5
                        refine lv_topi (fun x_91 ex_91 => ?_)
                        have zx_91 : x_91.toInt = iv126_5.toInt + 0 := ?o185
                        case o185 =>
                          rw [ex_91]
                          refine i32_add rfl ?o186 ?o187 ?o188
                          case o186 => decide
                          case o187 => omega
                          case o188 => omega
                        refine lv_istore (lv' := [(5, .int x_91), (6, .int iv126_6), (4, .int x_51), (3, .int x_20), (0, .ref x), (1, .int i1), (2, .int i2)]) hx hb dX10_order_174 hl ?o189 rfl (fun ls hl => ?_)
                        case o189 => decide
                        obtain ⟨x_92, ex_92⟩ : ∃ y : Int32, y = iv126_6 + Int32.ofInt 1 := ⟨_, rfl⟩
                        have rg_93 := i32_r iv126_6
                        have zx_92 : x_92.toInt = iv126_6.toInt + (1) := ?o190
                        case o190 =>
                          rw [ex_92]
                          refine i32_add rfl ?o191 ?o192 ?o193
                          case o191 => decide
                          case o192 => omega
                          case o193 => omega
                        refine lv_iinc (v := x_92) (lv' := [(6, .int x_92), (5, .int x_91), (4, .int x_51), (3, .int x_20), (0, .ref x), (1, .int i1), (2, .int i2)]) hx hb dX10_order_176 hl (k := 1) rfl ex_92.symm ?o194 rfl (fun ls hl => ?_)
                        case o194 => decide
                        refine lv_goto (tgt := 126) hx hb dX10_order_179 ?o195 ?_
                        case o195 => decide
                        refine ih126 x_91 x_92 _ _ L_83 h_84 ?o196 ?o197 ?o198 ?o199 (by have e9 : x_91.toInt = iv126_5.toInt := (by omega); rw [e9]; exact hz_oi_n vi126_0 (by omega) (fun z => by have z9 := z.2; have h8 := hr_87.1; omega) zx_92) ?o200 ?o201 ls ?o202 hW hT hM  af_qod af_qow af_qwk (lv_sub hl [0, 1, 2, 3, 4, 5, 6] rfl)
                        case o196 => omega
                        case o197 => omega
                        case o198 => omega
                        case o199 => omega
                        case o200 => omega
                        case o201 => omega
                        case o202 => omega
                      · skip
                        refine lv_aload_n hx hb dX10_order_162 rfl (lv_at hl 4 rfl) ?_
                        refine hk_getr hx hb hts hC_10 hown hW (gx.S hM) tt_10 54 ?o203 rfl kw_1197 ⟨rfl, rfl, rfl⟩ ((hM.o gx trivial rfl).2.trans f_x_54) dX10_order_163 ?_
                        case o203 => decide
                        refine lv_iload hx hb dX10_order_166 (lv_at hl 0 rfl) ?_
                        refine hx_iald hx hb hW hT (gqwk.S hM) tt_89 rfl ⟨?o204, ?o205⟩ dX10_order_168 (fun x_94 ex_94 lx_94 ux_94 => ?_)
                        case o204 => omega
                        case o205 => omega
                        have ax_94 : x_94 = wkf iv126_6.toNatClampNeg := ex_94.trans (congrFun af_qwk _)
                        refine lv_goto (tgt := 173) hx hb dX10_order_169 ?o206 ?_
                        case o206 => decide
                        refine lv_iadd hx hb dX10_order_173 ?_
                        have rg_95 := i32_r iv126_5
                        have rg_96 := i32_r x_94
                        refine lv_topi (fun x_97 ex_97 => ?_)
                        have zx_97 : x_97.toInt = iv126_5.toInt + x_94.toInt := ?o207
                        case o207 =>
                          rw [ex_97]
                          refine i32_add rfl rfl ?o208 ?o209
                          case o208 => omega
                          case o209 => omega
                        refine lv_istore (lv' := [(5, .int x_97), (6, .int iv126_6), (4, .int x_51), (3, .int x_20), (0, .ref x), (1, .int i1), (2, .int i2)]) hx hb dX10_order_174 hl ?o210 rfl (fun ls hl => ?_)
                        case o210 => decide
                        obtain ⟨x_98, ex_98⟩ : ∃ y : Int32, y = iv126_6 + Int32.ofInt 1 := ⟨_, rfl⟩
                        have rg_99 := i32_r iv126_6
                        have zx_98 : x_98.toInt = iv126_6.toInt + (1) := ?o211
                        case o211 =>
                          rw [ex_98]
                          refine i32_add rfl ?o212 ?o213 ?o214
                          case o212 => decide
                          case o213 => omega
                          case o214 => omega
                        refine lv_iinc (v := x_98) (lv' := [(6, .int x_98), (5, .int x_97), (4, .int x_51), (3, .int x_20), (0, .ref x), (1, .int i1), (2, .int i2)]) hx hb dX10_order_176 hl (k := 1) rfl ex_98.symm ?o215 rfl (fun ls hl => ?_)
                        case o215 => decide
                        refine lv_goto (tgt := 126) hx hb dX10_order_179 ?o216 ?_
                        case o216 => decide
                        refine ih126 x_97 x_98 _ _ L_83 h_84 ?o217 ?o218 ?o219 ?o220 (hz_oi_y (ix := iv126_6.toNatClampNeg) (v := x_94) vi126_0 ?o221 (by unfold Int32.toNatClampNeg; omega) (by rw [show agf iv126_6.toInt.toNat = x_76 from ax_76.symm, show agf i1.toInt.toNat = x_77 from ax_77.symm]; omega) (by have h8 := hr_87.1; omega) ax_94 ?o222 zx_98) ?o223 ?o224 ls ?o225 hW hT hM  af_qod af_qow af_qwk (lv_sub hl [0, 1, 2, 3, 4, 5, 6] rfl)
                        case o217 => omega
                        case o218 => omega
                        case o219 => omega
                        case o220 => omega
                        case o221 => omega
                        case o222 => omega
                        case o223 => omega
                        case o224 => omega
                        case o225 => omega
              have zk_0 : (0 : Int32).toInt = 0 := ?o226
              case o226 => decide
              have zk_0 : (0 : Int32).toInt = 0 := ?o227
              case o227 => decide
              refine loop126 101 (0 : Int32) (0 : Int32) _ _ L_52 h_53 ?o228 ?o229 ?o230 ?o231 (by rw [zk_0]; rfl) ?o232 ?o233 ls ?o234 hW hT hM  af_qod af_qow af_qwk hl
              case o228 => decide
              case o229 => decide
              case o230 => decide
              case o231 => decide
              case o232 => omega
              case o233 => omega
              case o234 => omega
            · skip
              refine lv_iload_n hx hb dX10_order_111 rfl (lv_at hl 4 rfl) ?_
              refine lv_iload hx hb dX10_order_112 (lv_at hl 0 rfl) ?_
              refine hb_icmp_ge (zx := i2.toInt) (zy := x_51.toInt) (tgt := 120) hx hb rfl rfl dX10_order_114 ?o235 (fun c_100 => ?_) (fun c_100 => ?_)
              case o235 => decide
              · skip
                refine lv_iconst (v := 0) hx hb dX10_order_120 ?o236 ?_
                case o236 => decide
                refine lv_istore (lv' := [(5, .int (0 : Int32)), (4, .int x_51), (3, .int x_20), (0, .ref x), (1, .int i1), (2, .int i2)]) hx hb dX10_order_121 hl ?o237 rfl (fun ls hl => ?_)
                case o237 => decide
                refine lv_iconst (v := 0) hx hb dX10_order_123 ?o238 ?_
                case o238 => decide
                refine lv_istore (lv' := [(6, .int (0 : Int32)), (5, .int (0 : Int32)), (4, .int x_51), (3, .int x_20), (0, .ref x), (1, .int i1), (2, .int i2)]) hx hb dX10_order_124 hl ?o239 rfl (fun ls hl => ?_)
                case o239 => decide
                have loop126 : ∀ (n126 : Nat) (iv126_5 iv126_6 : Int32) (H : Heap) (locs : List Loc) (hL1 : List Nat) (hl1 : hx_h), 0 ≤ iv126_5.toInt → iv126_5.toInt ≤ 999900 → 0 ≤ iv126_6.toInt → iv126_6.toInt ≤ 100 → (iv126_5.toInt = hz_oi agf wkf (hz_Rn odf szf gdf owf svf (hz_rc A plf) pof pdf psm pkf pst nw0.toInt n0.toInt.toNat) (agf i1.toInt.toNat).toInt (iv126_6.toInt).toNat) → (iv126_5.toInt ≤ 9999 * iv126_6.toInt) → (iv126_6.toInt ≤ c0.toInt) → ∀ (ls : Array Slot), 100 - iv126_6.toInt < (n126 : Int) → hx_W T_tb (P_ty dA) (dC, dI) vwCl (hx_A L sz) s.heap hL1 hl1 s H locs → hx_T T_tb hL1 hl1 → hx_S T_tb [(10, 67), (10, 68), (10, 69), (10, 70), (10, 71), (83, 0), (89, 0), (90, 0)] L h hL1 hl1 → hl1.2.1 qod = odf → hl1.2.1 qow = owf → hl1.2.1 qwk = wkf → lv_has ls 7 [(6, .int iv126_6), (5, .int iv126_5), (4, .int x_51), (3, .int x_20), (0, .ref x), (1, .int i1), (2, .int i2)] → W p l e ({ frames := 3, cells := 0, slots := 0, locals := 71 }) s m ([.ref x, .int i1, .int i2] : List Value).toArray below meth c H locs 0 0 (MQ below (va_Qi (fun (r : Int32) (u : List Nat × hx_h) => (∃ (odf1 : Nat → Int32) (wkf1 : Nat → Int32) (owf1 : Nat → Int32), u.2.2.1 qod = odf1 ∧ u.2.2.1 qwk = wkf1 ∧ u.2.2.1 qow = owf1 ∧ (hz_OS (hz_OC c0.toInt i1.toInt i2.toInt (udf i1.toInt.toNat).toInt (odf i1.toInt.toNat).toInt (ddf (agf i1.toInt.toNat).toInt.toNat).toInt) i1.toInt.toNat i2 nw0 r ((A (plf i1.toInt.toNat).toInt.toNat).2.1 2) ((smf i1.toInt.toNat).toInt + ((tf i1.toInt.toNat).toInt * (A (plf i1.toInt.toNat).toInt.toNat).2.1 9 + (A (plf i1.toInt.toNat).toInt.toNat).2.1 10 + (A (plf i1.toInt.toNat).toInt.toNat).2.1 11)) (hz_oi agf wkf (hz_Rn odf szf gdf owf svf (hz_rc A plf) pof pdf psm pkf pst nw0.toInt n0.toInt.toNat) (agf i1.toInt.toNat).toInt c0.toInt.toNat) ((eaf (agf i1.toInt.toNat).toInt.toNat).toInt - (A (plf i1.toInt.toNat).toInt.toNat).2.1 3 * (hdf (agf i1.toInt.toNat).toInt.toNat).toInt) odf odf1 wkf wkf1 owf owf1)) ∧ hx_T T_tb u.1 u.2 ∧ hx_S T_tb [(10, 67), (10, 68), (10, 69), (10, 70), (10, 71), (83, 0), (89, 0), (90, 0)] L h u.1 u.2) (hx_E T_tb (P_ty dA) (dC, dI) vwCl (hx_A L sz)) (hx_A L sz)) ([.ref x, .int i1, .int i2] : List Value).toArray s 0 0 (hx_A L sz)) (F0 m 126 ls []) := by
                  intro n126
                  induction n126 with
                  | zero => intro iv126_5 iv126_6 H locs hL1 hl1 bliv126_5 buiv126_5 bliv126_6 buiv126_6 vi126_0 vi126_1 vi126_2 ls hn126; exfalso; omega
                  | succ n126 ih126 =>
                    intro iv126_5 iv126_6 H locs hL1 hl1 bliv126_5 buiv126_5 bliv126_6 buiv126_6 vi126_0 vi126_1 vi126_2 ls hn126 hW hT hM  af_qod af_qow af_qwk hl
                    refine lv_iload hx hb dX10_order_126 (lv_at hl 0 rfl) ?_
                    refine lv_aload_n hx hb dX10_order_128 rfl (lv_at hl 4 rfl) ?_
                    refine hk_geti hx hb hts hC_10 hown hW (gx.S hM) tt_10 36 ?o240 rfl kw_1179 ⟨rfl, rfl, rfl⟩ ((hM.o gx trivial rfl).1.trans f_x_36) dX10_order_129 ?_
                    case o240 => decide
                    refine hb_icmp_ge (zx := iv126_6.toInt) (zy := c0.toInt) (tgt := 182) hx hb rfl rfl dX10_order_132 ?o241 (fun c_101 => ?_) (fun c_101 => ?_)
                    case o241 => decide
                    · skip
                      have hoi9 : iv126_5.toInt = (hz_oi agf wkf (hz_Rn odf szf gdf owf svf (hz_rc A plf) pof pdf psm pkf pst nw0.toInt n0.toInt.toNat) (agf i1.toInt.toNat).toInt c0.toInt.toNat) := ?o242
                      case o242 =>
                        have h8 := vi126_0
                        rw [show iv126_6.toInt.toNat = c0.toInt.toNat by omega] at h8
                        exact h8
                      refine lv_iload_n hx hb dX10_order_182 rfl (lv_at hl 6 rfl) ?_
                      refine lv_iload hx hb dX10_order_183 (lv_at hl 1 rfl) ?_
                      refine lv_iadd hx hb dX10_order_185 ?_
                      have rg_102 := i32_r i2
                      have rg_103 := i32_r iv126_5
                      refine lv_topi (fun x_104 ex_104 => ?_)
                      have zx_104 : x_104.toInt = i2.toInt + iv126_5.toInt := ?o243
                      case o243 =>
                        rw [ex_104]
                        refine i32_add rfl rfl ?o244 ?o245
                        case o244 => omega
                        case o245 => omega
                      refine lv_aload_n hx hb dX10_order_186 rfl (lv_at hl 4 rfl) ?_
                      refine lv_aload_n hx hb dX10_order_187 rfl (lv_at hl 4 rfl) ?_
                      refine hk_getr hx hb hts hC_10 hown hW (gx.S hM) tt_10 38 ?o246 rfl kw_1181 ⟨rfl, rfl, rfl⟩ ((hM.o gx trivial rfl).2.trans f_x_38) dX10_order_188 ?_
                      case o246 => decide
                      refine lv_iload_n hx hb dX10_order_191 rfl (lv_at hl 5 rfl) ?_
                      refine hx_iald hx hb hW hT (gqag.S hM) tt_73 rfl ⟨?o247, ?o248⟩ dX10_order_192 (fun x_105 ex_105 lx_105 ux_105 => ?_)
                      case o247 => omega
                      case o248 => omega
                      have ax_105 : x_105 = agf i1.toNatClampNeg := ex_105.trans (congrFun (hx_afS hM gqag rfl af_qag) _)
                      refine lv_iload_n hx hb dX10_order_193 rfl (lv_at hl 3 rfl) ?_
                      refine hx_goi (hx_runV (As := [.int x_105, .int x_20]) (rest := [.int x_104]) ⟨hx, hb, hml, hown, hts⟩ hW (gx.S hM) tt_10 (T := TX10) (N := 98) rfl (t_X10_means_v l dC dI dA hL1 hl1 H.size x x_105 x_20 hT (gx.S hM) qea (gqea.S hM) ((hM.o gx trivial rfl).2.trans f_x_22) qhd (gqhd.S hM) ((hM.o gx trivial rfl).2.trans f_x_23) qru (gqru.S hM) ((hM.o gx trivial rfl).2.trans f_x_3) eaf (hx_afS hM gqea rfl af_qea) hdf (hx_afS hM gqhd rfl af_qhd) rlf (hx_afS hM gqru rfl af_qru) ⟨?o249, ?o250⟩ ⟨?o251, ?o252⟩ ((A (plf i1.toInt.toNat).toInt.toNat).2.1 3) (by rw [ax_20, ← hl_282]; show _ = (if 3 < 13 then _ else 0); rw [if_pos (by decide)]; try rfl)) (cwV 2 hts (hx_gV kw_1645 kw_1642 kw_1644 kw_83 kw_103) rfl rfl rfl (by decide +kernel) ⟨Nat.le_of_ble_eq_true rfl, Nat.le_of_ble_eq_true rfl⟩) rfl hl.1 rfl (Nat.le_of_ble_eq_true rfl) dX10_order_194 ⟨Nat.le_of_ble_eq_true rfl, Nat.le_of_ble_eq_true rfl⟩) hW (fun r_108 L_106 h_107 H locs p_109 hW => ?_)
                      case o249 => omega
                      case o250 => omega
                      case o251 => omega
                      case o252 => omega
                      obtain ⟨hr_110, hT, hs⟩ := p_109
                      replace hT : hx_T T_tb L_106 h_107 := hT
                      replace hs : hx_S T_tb [] hL1 hl1 L_106 h_107 := hs
                      replace af_qod : h_107.2.1 qod = odf := (funext fun j => (hs.a (gqod.S hM) rfl j).1).trans af_qod
                      replace af_qow : h_107.2.1 qow = owf := (funext fun j => (hs.a (gqow.S hM) rfl j).1).trans af_qow
                      replace af_qwk : h_107.2.1 qwk = wkf := (funext fun j => (hs.a (gqwk.S hM) rfl j).1).trans af_qwk
                      replace ex_105 := ex_105.trans (hs.a (gqag.S hM) rfl _).1.symm
                      replace hM := hM.tr (hs.mono ?o253)
                      case o253 => decide
                      have hme9 : r_108.toInt = ((eaf (agf i1.toInt.toNat).toInt.toNat).toInt - (A (plf i1.toInt.toNat).toInt.toNat).2.1 3 * (hdf (agf i1.toInt.toNat).toInt.toNat).toInt) := ?o254
                      case o254 =>
                        have h9 := hr_110.1
                        rw [ax_105] at h9
                        exact h9
                      refine hb_icmp_le (zx := x_104.toInt) (zy := r_108.toInt) (tgt := 203) hx hb rfl rfl dX10_order_197 ?o255 (fun c_111 => ?_) (fun c_111 => ?_)
                      case o255 => decide
                      · skip
                        refine lv_aload_n hx hb dX10_order_203 rfl (lv_at hl 4 rfl) ?_
                        refine hk_getr hx hb hts hC_10 hown hW (gx.S hM) tt_10 48 ?o256 rfl kw_1191 ⟨rfl, rfl, rfl⟩ ((hM.o gx trivial rfl).2.trans f_x_48) dX10_order_204 ?_
                        case o256 => decide
                        refine lv_iload_n hx hb dX10_order_207 rfl (lv_at hl 5 rfl) ?_
                        refine lv_aload_n hx hb dX10_order_208 rfl (lv_at hl 4 rfl) ?_
                        refine hk_geti hx hb hts hC_10 hown hW (gx.S hM) tt_10 0 ?o257 rfl kw_1143 ⟨rfl, rfl, rfl⟩ ((hM.o gx trivial rfl).1.trans f_x_0) dX10_order_209 ?_
                        case o257 => decide
                        have af_qodO := af_qod
                        refine hx_iast hx hb hW hT (hx_S.rf (M := [(83, 0)])) (gqod.S hM) tt_83 rfl ⟨?o258, ?o259⟩ rfl ⟨?o260, ?o261⟩ (List.mem_singleton.mpr rfl) dX10_order_212 (fun H locs h_112 eh_112 hW hT hs => ?_)
                        case o258 => omega
                        case o259 => omega
                        case o260 => omega
                        case o261 => omega
                        replace af_qow : h_112.2.1 qow = owf := (funext fun j => (hs.a (gqow.S hM) rfl j).1).trans af_qow
                        replace af_qwk : h_112.2.1 qwk = wkf := (funext fun j => (hs.a (gqwk.S hM) rfl j).1).trans af_qwk
                        replace ex_105 := ex_105.trans (hs.a (gqag.S hM) rfl _).1.symm
                        replace hM := hM.tr (hs.mono ?o262)
                        case o262 => decide
                        obtain ⟨fa_113, dfa_113⟩ : ∃ g : Nat → Int32, g = hx_up odf i1.toNatClampNeg nw0 := ⟨_, rfl⟩
                        have nfa_113 : h_112.2.1 qod = fa_113 := ?o263
                        case o263 =>
                          rw [eh_112, dfa_113, ← af_qodO]
                          exact hx_pi_fun _ _ _ _
                        refine lv_aload_n hx hb dX10_order_213 rfl (lv_at hl 4 rfl) ?_
                        refine hk_getr hx hb hts hC_10 hown hW (gx.S hM) tt_10 54 ?o264 rfl kw_1197 ⟨rfl, rfl, rfl⟩ ((hM.o gx trivial rfl).2.trans f_x_54) dX10_order_214 ?_
                        case o264 => decide
                        refine lv_iload_n hx hb dX10_order_217 rfl (lv_at hl 5 rfl) ?_
                        refine lv_iload_n hx hb dX10_order_218 rfl (lv_at hl 6 rfl) ?_
                        have af_qwkO := af_qwk
                        refine hx_iast hx hb hW hT (hx_S.rf (M := [(89, 0)])) (gqwk.S hM) tt_89 rfl ⟨?o265, ?o266⟩ rfl ⟨?o267, ?o268⟩ (List.mem_singleton.mpr rfl) dX10_order_219 (fun H locs h_114 eh_114 hW hT hs => ?_)
                        case o265 => omega
                        case o266 => omega
                        case o267 => omega
                        case o268 => omega
                        replace af_qow : h_114.2.1 qow = owf := (funext fun j => (hs.a (gqow.S hM) rfl j).1).trans af_qow
                        replace nfa_113 : h_114.2.1 qod = fa_113 := (funext fun j => (hs.a (gqod.S hM) rfl j).1).trans nfa_113
                        replace ex_105 := ex_105.trans (hs.a (gqag.S hM) rfl _).1.symm
                        replace hM := hM.tr (hs.mono ?o269)
                        case o269 => decide
                        obtain ⟨fa_115, dfa_115⟩ : ∃ g : Nat → Int32, g = hx_up wkf i1.toNatClampNeg i2 := ⟨_, rfl⟩
                        have nfa_115 : h_114.2.1 qwk = fa_115 := ?o270
                        case o270 =>
                          rw [eh_114, dfa_115, ← af_qwkO]
                          exact hx_pi_fun _ _ _ _
                        refine lv_aload_n hx hb dX10_order_220 rfl (lv_at hl 4 rfl) ?_
                        refine hk_getr hx hb hts hC_10 hown hW (gx.S hM) tt_10 55 ?o271 rfl kw_1198 ⟨rfl, rfl, rfl⟩ ((hM.o gx trivial rfl).2.trans f_x_55) dX10_order_221 ?_
                        case o271 => decide
                        refine lv_iload_n hx hb dX10_order_224 rfl (lv_at hl 5 rfl) ?_
                        refine lv_iload hx hb dX10_order_225 (lv_at hl 2 rfl) ?_
                        have af_qowO := af_qow
                        refine hx_iast hx hb hW hT (hx_S.rf (M := [(90, 0)])) (gqow.S hM) tt_90 rfl ⟨?o272, ?o273⟩ rfl ⟨?o274, ?o275⟩ (List.mem_singleton.mpr rfl) dX10_order_227 (fun H locs h_116 eh_116 hW hT hs => ?_)
                        case o272 => omega
                        case o273 => omega
                        case o274 => omega
                        case o275 => omega
                        replace nfa_113 : h_116.2.1 qod = fa_113 := (funext fun j => (hs.a (gqod.S hM) rfl j).1).trans nfa_113
                        replace nfa_115 : h_116.2.1 qwk = fa_115 := (funext fun j => (hs.a (gqwk.S hM) rfl j).1).trans nfa_115
                        replace ex_105 := ex_105.trans (hs.a (gqag.S hM) rfl _).1.symm
                        replace hM := hM.tr (hs.mono ?o276)
                        case o276 => decide
                        obtain ⟨fa_117, dfa_117⟩ : ∃ g : Nat → Int32, g = hx_up owf i1.toNatClampNeg x_51 := ⟨_, rfl⟩
                        have nfa_117 : h_116.2.1 qow = fa_117 := ?o277
                        case o277 =>
                          rw [eh_116, dfa_117, ← af_qowO]
                          exact hx_pi_fun _ _ _ _
                        refine lv_iload hx hb dX10_order_228 (lv_at hl 2 rfl) ?_
                        refine hx_reti hx hb hr hlk hW ⟨⟨fa_113, fa_115, fa_117, nfa_113, nfa_115, nfa_117, (Or.inr ⟨⟨⟨?o278, ?o279⟩, (by rw [show udf i1.toInt.toNat = x_7 from ax_7.symm]; omega), (by rw [show odf i1.toInt.toNat = x_9 from ax_9.symm]; omega), (by rw [← cdd9]; omega), ?o280, ?o281⟩, Or.inr (Or.inr ⟨(by rw [← hr2, ← hall9]; omega), (by rw [← hme9, ← hoi9]; omega), hall9, dfa_113, dfa_115, dfa_117⟩)⟩)⟩, hT, hM⟩ dX10_order_230
                        case o278 => omega
                        case o279 => omega
                        case o280 => omega
                        case o281 => omega
                      · skip
                        refine lv_bipush (v := -3) hx hb dX10_order_200 ?o282 ?_
                        case o282 => decide
                        refine hx_reti hx hb hr hlk hW ⟨⟨odf, wkf, owf, af_qod, af_qwk, af_qow, (Or.inr ⟨⟨⟨?o283, ?o284⟩, (by rw [show udf i1.toInt.toNat = x_7 from ax_7.symm]; omega), (by rw [show odf i1.toInt.toNat = x_9 from ax_9.symm]; omega), (by rw [← cdd9]; omega), ?o285, ?o286⟩, Or.inr (Or.inl ⟨(by rw [← hr2, ← hall9]; omega), (by rw [← hme9, ← hoi9]; omega), ?o287, rfl, rfl, rfl⟩)⟩)⟩, hT, hM⟩ dX10_order_202
                        case o283 => omega
                        case o284 => omega
                        case o285 => omega
                        case o286 => omega
                        case o287 => decide
                    · skip
                      refine lv_iload hx hb dX10_order_135 (lv_at hl 1 rfl) ?_
                      refine lv_aload_n hx hb dX10_order_137 rfl (lv_at hl 4 rfl) ?_
                      refine hk_getr hx hb hts hC_10 hown hW (gx.S hM) tt_10 38 ?o288 rfl kw_1181 ⟨rfl, rfl, rfl⟩ ((hM.o gx trivial rfl).2.trans f_x_38) dX10_order_138 ?_
                      case o288 => decide
                      refine lv_iload hx hb dX10_order_141 (lv_at hl 0 rfl) ?_
                      refine hx_iald hx hb hW hT (gqag.S hM) tt_73 rfl ⟨?o289, ?o290⟩ dX10_order_143 (fun x_118 ex_118 lx_118 ux_118 => ?_)
                      case o289 => omega
                      case o290 => omega
                      have ax_118 : x_118 = agf iv126_6.toNatClampNeg := ex_118.trans (congrFun (hx_afS hM gqag rfl af_qag) _)
                      refine lv_aload_n hx hb dX10_order_144 rfl (lv_at hl 4 rfl) ?_
                      refine hk_getr hx hb hts hC_10 hown hW (gx.S hM) tt_10 38 ?o291 rfl kw_1181 ⟨rfl, rfl, rfl⟩ ((hM.o gx trivial rfl).2.trans f_x_38) dX10_order_145 ?_
                      case o291 => decide
                      refine lv_iload_n hx hb dX10_order_148 rfl (lv_at hl 5 rfl) ?_
                      refine hx_iald hx hb hW hT (gqag.S hM) tt_73 rfl ⟨?o292, ?o293⟩ dX10_order_149 (fun x_119 ex_119 lx_119 ux_119 => ?_)
                      case o292 => omega
                      case o293 => omega
                      have ax_119 : x_119 = agf i1.toNatClampNeg := ex_119.trans (congrFun (hx_afS hM gqag rfl af_qag) _)
                      refine hb_icmp_ne (zx := x_118.toInt) (zy := x_119.toInt) (tgt := 172) hx hb rfl rfl dX10_order_150 ?o294 (fun c_120 => ?_) (fun c_120 => ?_)
                      case o294 => decide
                      · skip
                        refine lv_iconst (v := 0) hx hb dX10_order_172 ?o295 ?_
                        case o295 => decide
                        refine lv_iadd hx hb dX10_order_173 ?_
                        have rg_121 := i32_r iv126_5
                        refine lv_topi (fun x_122 ex_122 => ?_)
                        have zx_122 : x_122.toInt = iv126_5.toInt + 0 := ?o296
                        case o296 =>
                          rw [ex_122]
                          refine i32_add rfl ?o297 ?o298 ?o299
                          case o297 => decide
                          case o298 => omega
                          case o299 => omega
                        refine lv_istore (lv' := [(5, .int x_122), (6, .int iv126_6), (4, .int x_51), (3, .int x_20), (0, .ref x), (1, .int i1), (2, .int i2)]) hx hb dX10_order_174 hl ?o300 rfl (fun ls hl => ?_)
                        case o300 => decide
                        obtain ⟨x_123, ex_123⟩ : ∃ y : Int32, y = iv126_6 + Int32.ofInt 1 := ⟨_, rfl⟩
                        have rg_124 := i32_r iv126_6
                        have zx_123 : x_123.toInt = iv126_6.toInt + (1) := ?o301
                        case o301 =>
                          rw [ex_123]
                          refine i32_add rfl ?o302 ?o303 ?o304
                          case o302 => decide
                          case o303 => omega
                          case o304 => omega
                        refine lv_iinc (v := x_123) (lv' := [(6, .int x_123), (5, .int x_122), (4, .int x_51), (3, .int x_20), (0, .ref x), (1, .int i1), (2, .int i2)]) hx hb dX10_order_176 hl (k := 1) rfl ex_123.symm ?o305 rfl (fun ls hl => ?_)
                        case o305 => decide
                        refine lv_goto (tgt := 126) hx hb dX10_order_179 ?o306 ?_
                        case o306 => decide
                        refine ih126 x_122 x_123 _ _ hL1 hl1 ?o307 ?o308 ?o309 ?o310 (by have e9 : x_122.toInt = iv126_5.toInt := (by omega); rw [e9]; exact hz_oi_n vi126_0 (by omega) (fun z => by have z9 := z.1; rw [show agf iv126_6.toInt.toNat = x_118 from ax_118.symm, show agf i1.toInt.toNat = x_119 from ax_119.symm] at z9; omega) zx_123) ?o311 ?o312 ls ?o313 hW hT hM  af_qod af_qow af_qwk (lv_sub hl [0, 1, 2, 3, 4, 5, 6] rfl)
                        case o307 => omega
                        case o308 => omega
                        case o309 => omega
                        case o310 => omega
                        case o311 => omega
                        case o312 => omega
                        case o313 => omega
                      · skip
                        refine lv_aload_n hx hb dX10_order_153 rfl (lv_at hl 4 rfl) ?_
                        refine lv_iload hx hb dX10_order_154 (lv_at hl 0 rfl) ?_
                        refine hx_goi (hx_runV (As := [.int iv126_6]) (rest := [.int iv126_5]) ⟨hx, hb, hml, hown, hts⟩ hW (gx.S hM) tt_10 (T := TX10) (N := 98) rfl (t_X10_isOpen_v l dC dI dA hL1 hl1 H.size x iv126_6 hT (gx.S hM) qfo (gqfo.S hM) ((hM.o gx trivial rfl).2.trans f_x_46) qhe (gqhe.S hM) ((hM.o gx trivial rfl).2.trans f_x_47) qju (gqju.S hM) ((hM.o gx trivial rfl).2.trans f_x_51) qod (gqod.S hM) ((hM.o gx trivial rfl).2.trans f_x_48) qsv (gqsv.S hM) ((hM.o gx trivial rfl).2.trans f_x_50) qsz (gqsz.S hM) ((hM.o gx trivial rfl).2.trans f_x_49) qgd (gqgd.S hM) ((hM.o gx trivial rfl).2.trans f_x_56) qow (gqow.S hM) ((hM.o gx trivial rfl).2.trans f_x_55) qwk (gqwk.S hM) ((hM.o gx trivial rfl).2.trans f_x_54) qpl (gqpl.S hM) ((hM.o gx trivial rfl).2.trans f_x_44) qru (gqru.S hM) ((hM.o gx trivial rfl).2.trans f_x_3) qpo (gqpo.S hM) ((hM.o gx trivial rfl).2.trans f_x_60) qpd (gqpd.S hM) ((hM.o gx trivial rfl).2.trans f_x_61) qps (gqps.S hM) ((hM.o gx trivial rfl).2.trans f_x_62) qpk (gqpk.S hM) ((hM.o gx trivial rfl).2.trans f_x_63) qpt (gqpt.S hM) ((hM.o gx trivial rfl).2.trans f_x_64) fof (hx_afS hM gqfo rfl af_qfo) hrf (hx_afS hM gqhe rfl af_qhe) udf (hx_afS hM gqju rfl af_qju) odf af_qod svf (hx_afS hM gqsv rfl af_qsv) szf (hx_afS hM gqsz rfl af_qsz) gdf (hx_afS hM gqgd rfl af_qgd) owf af_qow wkf af_qwk plf (hx_afS hM gqpl rfl af_qpl) rlf (hx_afS hM gqru rfl af_qru) pof (hx_afS hM gqpo rfl af_qpo) pdf (hx_afS hM gqpd rfl af_qpd) psm (hx_afS hM gqps rfl af_qps) pkf (hx_afS hM gqpk rfl af_qpk) pst (hx_afS hM gqpt rfl af_qpt) c0 ((hM.o gx trivial rfl).1.trans f_x_36) a0 ((hM.o gx trivial rfl).1.trans f_x_1) nw0 ((hM.o gx trivial rfl).1.trans f_x_0) n0 ((hM.o gx trivial rfl).1.trans f_x_59) ⟨?o314, ?o315⟩ adf psf prf A hCA hPL) (cwV 1 hts (hx_gV kw_1637 kw_1634 kw_1636 kw_81 kw_103) rfl rfl rfl (by decide +kernel) ⟨Nat.le_of_ble_eq_true rfl, Nat.le_of_ble_eq_true rfl⟩) rfl hl.1 rfl (Nat.le_of_ble_eq_true rfl) dX10_order_156 ⟨Nat.le_of_ble_eq_true rfl, Nat.le_of_ble_eq_true rfl⟩) hW (fun r_127 L_125 h_126 H locs p_128 hW => ?_)
                        case o314 => omega
                        case o315 => omega
                        obtain ⟨⟨w_130, fw_130, hr_129⟩, hT, hs⟩ := p_128
                        replace hT : hx_T T_tb L_125 h_126 := hT
                        replace hs : hx_S T_tb [(10, 67), (10, 68), (10, 69), (10, 70), (10, 71)] hL1 hl1 L_125 h_126 := hs
                        replace af_qod : h_126.2.1 qod = odf := (funext fun j => (hs.a (gqod.S hM) rfl j).1).trans af_qod
                        replace af_qow : h_126.2.1 qow = owf := (funext fun j => (hs.a (gqow.S hM) rfl j).1).trans af_qow
                        replace af_qwk : h_126.2.1 qwk = wkf := (funext fun j => (hs.a (gqwk.S hM) rfl j).1).trans af_qwk
                        replace ex_118 := ex_118.trans (hs.a (gqag.S hM) rfl _).1.symm
                        replace ex_119 := ex_119.trans (hs.a (gqag.S hM) rfl _).1.symm
                        replace hM := hM.tr (hs.mono ?o316)
                        case o316 => decide
                        have fw_130 : h_126.2.1 x 68 = w_130 := fw_130
                        have bw_130 := hT.gi (gx.S hM) tt_10 (k := 68) rfl
                        rw [fw_130] at bw_130
                        have bw_130 : 0 ≤ w_130.toInt ∧ w_130.toInt ≤ 610000 := bw_130
                        refine hb_if_eq (zx := r_127.toInt) (tgt := 172) hx hb rfl dX10_order_159 ?o317 (fun c_131 => ?_) (fun c_131 => ?_)
                        case o317 => decide
                        · skip
                          refine lv_iconst (v := 0) hx hb dX10_order_172 ?o318 ?_
                          case o318 => decide
                          refine lv_iadd hx hb dX10_order_173 ?_
                          have rg_132 := i32_r iv126_5
                          refine lv_topi (fun x_133 ex_133 => ?_)
                          have zx_133 : x_133.toInt = iv126_5.toInt + 0 := ?o319
                          case o319 =>
                            rw [ex_133]
                            refine i32_add rfl ?o320 ?o321 ?o322
                            case o320 => decide
                            case o321 => omega
                            case o322 => omega
                          refine lv_istore (lv' := [(5, .int x_133), (6, .int iv126_6), (4, .int x_51), (3, .int x_20), (0, .ref x), (1, .int i1), (2, .int i2)]) hx hb dX10_order_174 hl ?o323 rfl (fun ls hl => ?_)
                          case o323 => decide
                          obtain ⟨x_134, ex_134⟩ : ∃ y : Int32, y = iv126_6 + Int32.ofInt 1 := ⟨_, rfl⟩
                          have rg_135 := i32_r iv126_6
                          have zx_134 : x_134.toInt = iv126_6.toInt + (1) := ?o324
                          case o324 =>
                            rw [ex_134]
                            refine i32_add rfl ?o325 ?o326 ?o327
                            case o325 => decide
                            case o326 => omega
                            case o327 => omega
                          refine lv_iinc (v := x_134) (lv' := [(6, .int x_134), (5, .int x_133), (4, .int x_51), (3, .int x_20), (0, .ref x), (1, .int i1), (2, .int i2)]) hx hb dX10_order_176 hl (k := 1) rfl ex_134.symm ?o328 rfl (fun ls hl => ?_)
                          case o328 => decide
                          refine lv_goto (tgt := 126) hx hb dX10_order_179 ?o329 ?_
                          case o329 => decide
                          refine ih126 x_133 x_134 _ _ L_125 h_126 ?o330 ?o331 ?o332 ?o333 (by have e9 : x_133.toInt = iv126_5.toInt := (by omega); rw [e9]; exact hz_oi_n vi126_0 (by omega) (fun z => by have z9 := z.2; have h8 := hr_129.1; omega) zx_134) ?o334 ?o335 ls ?o336 hW hT hM  af_qod af_qow af_qwk (lv_sub hl [0, 1, 2, 3, 4, 5, 6] rfl)
                          case o330 => omega
                          case o331 => omega
                          case o332 => omega
                          case o333 => omega
                          case o334 => omega
                          case o335 => omega
                          case o336 => omega
                        · skip
                          refine lv_aload_n hx hb dX10_order_162 rfl (lv_at hl 4 rfl) ?_
                          refine hk_getr hx hb hts hC_10 hown hW (gx.S hM) tt_10 54 ?o337 rfl kw_1197 ⟨rfl, rfl, rfl⟩ ((hM.o gx trivial rfl).2.trans f_x_54) dX10_order_163 ?_
                          case o337 => decide
                          refine lv_iload hx hb dX10_order_166 (lv_at hl 0 rfl) ?_
                          refine hx_iald hx hb hW hT (gqwk.S hM) tt_89 rfl ⟨?o338, ?o339⟩ dX10_order_168 (fun x_136 ex_136 lx_136 ux_136 => ?_)
                          case o338 => omega
                          case o339 => omega
                          have ax_136 : x_136 = wkf iv126_6.toNatClampNeg := ex_136.trans (congrFun af_qwk _)
                          refine lv_goto (tgt := 173) hx hb dX10_order_169 ?o340 ?_
                          case o340 => decide
                          refine lv_iadd hx hb dX10_order_173 ?_
                          have rg_137 := i32_r iv126_5
                          have rg_138 := i32_r x_136
                          refine lv_topi (fun x_139 ex_139 => ?_)
                          have zx_139 : x_139.toInt = iv126_5.toInt + x_136.toInt := ?o341
                          case o341 =>
                            rw [ex_139]
                            refine i32_add rfl rfl ?o342 ?o343
                            case o342 => omega
                            case o343 => omega
                          refine lv_istore (lv' := [(5, .int x_139), (6, .int iv126_6), (4, .int x_51), (3, .int x_20), (0, .ref x), (1, .int i1), (2, .int i2)]) hx hb dX10_order_174 hl ?o344 rfl (fun ls hl => ?_)
                          case o344 => decide
                          obtain ⟨x_140, ex_140⟩ : ∃ y : Int32, y = iv126_6 + Int32.ofInt 1 := ⟨_, rfl⟩
                          have rg_141 := i32_r iv126_6
                          have zx_140 : x_140.toInt = iv126_6.toInt + (1) := ?o345
                          case o345 =>
                            rw [ex_140]
                            refine i32_add rfl ?o346 ?o347 ?o348
                            case o346 => decide
                            case o347 => omega
                            case o348 => omega
                          refine lv_iinc (v := x_140) (lv' := [(6, .int x_140), (5, .int x_139), (4, .int x_51), (3, .int x_20), (0, .ref x), (1, .int i1), (2, .int i2)]) hx hb dX10_order_176 hl (k := 1) rfl ex_140.symm ?o349 rfl (fun ls hl => ?_)
                          case o349 => decide
                          refine lv_goto (tgt := 126) hx hb dX10_order_179 ?o350 ?_
                          case o350 => decide
                          refine ih126 x_139 x_140 _ _ L_125 h_126 ?o351 ?o352 ?o353 ?o354 (hz_oi_y (ix := iv126_6.toNatClampNeg) (v := x_136) vi126_0 ?o355 (by unfold Int32.toNatClampNeg; omega) (by rw [show agf iv126_6.toInt.toNat = x_118 from ax_118.symm, show agf i1.toInt.toNat = x_119 from ax_119.symm]; omega) (by have h8 := hr_129.1; omega) ax_136 ?o356 zx_140) ?o357 ?o358 ls ?o359 hW hT hM  af_qod af_qow af_qwk (lv_sub hl [0, 1, 2, 3, 4, 5, 6] rfl)
                          case o351 => omega
                          case o352 => omega
                          case o353 => omega
                          case o354 => omega
                          case o355 => omega
                          case o356 => omega
                          case o357 => omega
                          case o358 => omega
                          case o359 => omega
                have zk_0 : (0 : Int32).toInt = 0 := ?o360
                case o360 => decide
                have zk_0 : (0 : Int32).toInt = 0 := ?o361
                case o361 => decide
                refine loop126 101 (0 : Int32) (0 : Int32) _ _ L_52 h_53 ?o362 ?o363 ?o364 ?o365 (by rw [zk_0]; rfl) ?o366 ?o367 ls ?o368 hW hT hM  af_qod af_qow af_qwk hl
                case o362 => decide
                case o363 => decide
                case o364 => decide
                case o365 => decide
                case o366 => omega
                case o367 => omega
                case o368 => omega
              · skip
                refine lv_bipush (v := -2) hx hb dX10_order_117 ?o369 ?_
                case o369 => decide
                refine hx_reti hx hb hr hlk hW ⟨⟨odf, wkf, owf, af_qod, af_qwk, af_qow, (Or.inr ⟨⟨⟨?o370, ?o371⟩, (by rw [show udf i1.toInt.toNat = x_7 from ax_7.symm]; omega), (by rw [show odf i1.toInt.toNat = x_9 from ax_9.symm]; omega), (by rw [← cdd9]; omega), ?o372, ?o373⟩, Or.inl ⟨(by rw [← hr2, ← hall9]; omega), ?o374, rfl, rfl, rfl⟩⟩)⟩, hT, hM⟩ dX10_order_119
                case o370 => omega
                case o371 => omega
                case o372 => omega
                case o373 => omega
                case o374 => decide
          · skip
            replace hr_18 := hr_18.resolve_right (fun z9 => absurd (c_19.symm.trans z9.1) ?o375)
            case o375 => decide
            replace hr_18 := hr_18.2
            refine lv_iconst (v := -1) hx hb dX10_order_53 ?o376 ?_
            case o376 => decide
            refine hx_reti hx hb hr hlk hW ⟨⟨odf, wkf, owf, af_qod, af_qwk, af_qow, (Or.inl ⟨(fun hc => by have h1 := hc.2.2.2.2; omega), ?o377, rfl, rfl, rfl⟩)⟩, hT, hM⟩ dX10_order_54
            case o377 => decide


set_option maxHeartbeats 4000000 in
set_option maxRecDepth 100000 in
theorem t_X10_pays_v (l : Launch) (dC : Nat → ClassId) (dI : Nat → Nat → Nat) (dA : Nat → ClassId) (L : List Nat) (h : hx_h) (sz : Nat) (x : Nat) (i1 : Int32) (i2 : Int32) (i3 : Int32) (hT : hx_T T_tb L h) (gx : hx_g L h x 10) (qpo : Nat) (gqpo : hx_g L h qpo 93) (f_x_60 : h.2.2 x 60 = some qpo) (qpd : Nat) (gqpd : hx_g L h qpd 94) (f_x_61 : h.2.2 x 61 = some qpd) (qps : Nat) (gqps : hx_g L h qps 95) (f_x_62 : h.2.2 x 62 = some qps) (qpk : Nat) (gqpk : hx_g L h qpk 96) (f_x_63 : h.2.2 x 63 = some qpk) (qpt : Nat) (gqpt : hx_g L h qpt 97) (f_x_64 : h.2.2 x 64 = some qpt) (pof : Nat → Int32) (af_qpo : h.2.1 qpo = pof) (pdf : Nat → Int32) (af_qpd : h.2.1 qpd = pdf) (psm : Nat → Int32) (af_qps : h.2.1 qps = psm) (pkf : Nat → Int32) (af_qpk : h.2.1 qpk = pkf) (pst : Nat → Int32) (af_qpt : h.2.1 qpt = pst) (nw0 : Int32) (f_x_0 : h.2.1 x 0 = nw0) (n0 : Int32) (f_x_59 : h.2.1 x 59 = n0) (hn0 : n0.toInt < 600) (hi3 : 0 ≤ i3.toInt ∧ i3.toInt ≤ 610000) : Met l yX10_pays (Cond.code yX10_pays cX10_pays 4 (some .int) :: hx_all) ({ frames := 0, cells := 0, slots := 0, locals := 0 }) (va_Pc [.ref x, .int i1, .int i2, .int i3] (hx_B T_tb (P_ty dA) (dC, dI) vwCl L h sz)) (va_Qi (fun (r : Int32) (u : List Nat × hx_h) => (∃ (n1 : Int32) (pof1 : Nat → Int32) (pdf1 : Nat → Int32) (psm1 : Nat → Int32) (pkf1 : Nat → Int32) (pst1 : Nat → Int32), u.2.2.1 x 59 = n1 ∧ u.2.2.1 qpo = pof1 ∧ u.2.2.1 qpd = pdf1 ∧ u.2.2.1 qps = psm1 ∧ u.2.2.1 qpk = pkf1 ∧ u.2.2.1 qpt = pst1 ∧ (r.toInt = n0.toInt ∧ n1.toInt = n0.toInt + 1 ∧ hz_AP n0.toInt.toNat i1 i2 i3 nw0 pof pof1 pdf pdf1 psm psm1 pkf pkf1 pst pst1)) ∧ hx_T T_tb u.1 u.2 ∧ hx_S T_tb [(10, 59), (93, 0), (94, 0), (95, 0), (96, 0), (97, 0)] L h u.1 u.2) (hx_E T_tb (P_ty dA) (dC, dI) vwCl (hx_A L sz)) (hx_A L sz)) 0 0 (hx_A L sz) := by
  refine hx_met (lv := [(0, .ref x), (1, .int i1), (2, .int i2), (3, .int i3)]) (by decide +kernel) rfl (Nat.le_of_ble_eq_true rfl) rfl ?_
  intro p e s m below meth c hx hb hml hr hlk hts0 hown hin hsz hW ls hl
  have hts : ∀ w ∈ hx_all, w.before _ s = true := fun w hw => hts0 w (List.mem_cons_of_mem _ hw)
  have hown : s.vm.findClass "SmallCourtModel" = some m.cls := hown
  have hM : hx_S T_tb [(10, 59), (93, 0), (94, 0), (95, 0), (96, 0), (97, 0)] L h L h := hx_S.rf
  have b_nw0 := hT.gi gx tt_10 (k := 0) rfl
  rw [f_x_0] at b_nw0
  have b_nw0 : 0 ≤ nw0.toInt ∧ nw0.toInt ≤ 7999 := b_nw0
  have b_n0 := hT.gi gx tt_10 (k := 59) rfl
  rw [f_x_59] at b_n0
  have b_n0 : 0 ≤ n0.toInt ∧ n0.toInt ≤ 600 := b_n0
  refine lv_aload_n hx hb dX10_pays_0 rfl (lv_at hl 0 rfl) ?_
  refine hk_getr hx hb hts hC_10 hown hW (gx.S hM) tt_10 60 ?o0 rfl kw_1203 ⟨rfl, rfl, rfl⟩ ((hM.o gx trivial rfl).2.trans f_x_60) dX10_pays_1 ?_
  case o0 => decide
  refine lv_aload_n hx hb dX10_pays_4 rfl (lv_at hl 0 rfl) ?_
  refine hk_geti hx hb hts hC_10 hown hW (gx.S hM) tt_10 59 ?o1 rfl kw_1202 ⟨rfl, rfl, rfl⟩ f_x_59 dX10_pays_5 ?_
  case o1 => decide
  refine lv_iload_n hx hb dX10_pays_8 rfl (lv_at hl 1 rfl) ?_
  have af_qpoO := af_qpo
  refine hx_iast hx hb hW hT (hx_S.rf (M := [(93, 0)])) (gqpo.S hM) tt_93 rfl ⟨?o2, ?o3⟩ rfl (i32_r _) (List.mem_singleton.mpr rfl) dX10_pays_9 (fun H locs h_1 eh_1 hW hT hs => ?_)
  case o2 => omega
  case o3 => omega
  replace f_x_59 := (hs.o (gx.S hM) trivial rfl).1.trans f_x_59
  replace af_qpd : h_1.2.1 qpd = pdf := (funext fun j => (hs.a (gqpd.S hM) rfl j).1).trans af_qpd
  replace af_qps : h_1.2.1 qps = psm := (funext fun j => (hs.a (gqps.S hM) rfl j).1).trans af_qps
  replace af_qpk : h_1.2.1 qpk = pkf := (funext fun j => (hs.a (gqpk.S hM) rfl j).1).trans af_qpk
  replace af_qpt : h_1.2.1 qpt = pst := (funext fun j => (hs.a (gqpt.S hM) rfl j).1).trans af_qpt
  replace hM := hM.tr (hs.mono ?o4)
  case o4 => decide
  obtain ⟨fa_2, dfa_2⟩ : ∃ g : Nat → Int32, g = hx_up pof n0.toNatClampNeg i1 := ⟨_, rfl⟩
  have nfa_2 : h_1.2.1 qpo = fa_2 := ?o5
  case o5 =>
    rw [eh_1, dfa_2, ← af_qpoO]
    exact hx_pi_fun _ _ _ _
  refine lv_aload_n hx hb dX10_pays_10 rfl (lv_at hl 0 rfl) ?_
  refine hk_getr hx hb hts hC_10 hown hW (gx.S hM) tt_10 61 ?o6 rfl kw_1204 ⟨rfl, rfl, rfl⟩ ((hM.o gx trivial rfl).2.trans f_x_61) dX10_pays_11 ?_
  case o6 => decide
  refine lv_aload_n hx hb dX10_pays_14 rfl (lv_at hl 0 rfl) ?_
  refine hk_geti hx hb hts hC_10 hown hW (gx.S hM) tt_10 59 ?o7 rfl kw_1202 ⟨rfl, rfl, rfl⟩ f_x_59 dX10_pays_15 ?_
  case o7 => decide
  refine lv_iload_n hx hb dX10_pays_18 rfl (lv_at hl 2 rfl) ?_
  have af_qpdO := af_qpd
  refine hx_iast hx hb hW hT (hx_S.rf (M := [(94, 0)])) (gqpd.S hM) tt_94 rfl ⟨?o8, ?o9⟩ rfl (i32_r _) (List.mem_singleton.mpr rfl) dX10_pays_19 (fun H locs h_3 eh_3 hW hT hs => ?_)
  case o8 => omega
  case o9 => omega
  replace f_x_59 := (hs.o (gx.S hM) trivial rfl).1.trans f_x_59
  replace af_qps : h_3.2.1 qps = psm := (funext fun j => (hs.a (gqps.S hM) rfl j).1).trans af_qps
  replace af_qpk : h_3.2.1 qpk = pkf := (funext fun j => (hs.a (gqpk.S hM) rfl j).1).trans af_qpk
  replace af_qpt : h_3.2.1 qpt = pst := (funext fun j => (hs.a (gqpt.S hM) rfl j).1).trans af_qpt
  replace nfa_2 : h_3.2.1 qpo = fa_2 := (funext fun j => (hs.a (gqpo.S hM) rfl j).1).trans nfa_2
  replace hM := hM.tr (hs.mono ?o10)
  case o10 => decide
  obtain ⟨fa_4, dfa_4⟩ : ∃ g : Nat → Int32, g = hx_up pdf n0.toNatClampNeg i2 := ⟨_, rfl⟩
  have nfa_4 : h_3.2.1 qpd = fa_4 := ?o11
  case o11 =>
    rw [eh_3, dfa_4, ← af_qpdO]
    exact hx_pi_fun _ _ _ _
  refine lv_aload_n hx hb dX10_pays_20 rfl (lv_at hl 0 rfl) ?_
  refine hk_getr hx hb hts hC_10 hown hW (gx.S hM) tt_10 62 ?o12 rfl kw_1205 ⟨rfl, rfl, rfl⟩ ((hM.o gx trivial rfl).2.trans f_x_62) dX10_pays_21 ?_
  case o12 => decide
  refine lv_aload_n hx hb dX10_pays_24 rfl (lv_at hl 0 rfl) ?_
  refine hk_geti hx hb hts hC_10 hown hW (gx.S hM) tt_10 59 ?o13 rfl kw_1202 ⟨rfl, rfl, rfl⟩ f_x_59 dX10_pays_25 ?_
  case o13 => decide
  refine lv_iload_n hx hb dX10_pays_28 rfl (lv_at hl 3 rfl) ?_
  have af_qpsO := af_qps
  refine hx_iast hx hb hW hT (hx_S.rf (M := [(95, 0)])) (gqps.S hM) tt_95 rfl ⟨?o14, ?o15⟩ rfl ⟨?o16, ?o17⟩ (List.mem_singleton.mpr rfl) dX10_pays_29 (fun H locs h_5 eh_5 hW hT hs => ?_)
  case o14 => omega
  case o15 => omega
  case o16 => omega
  case o17 => omega
  replace f_x_59 := (hs.o (gx.S hM) trivial rfl).1.trans f_x_59
  replace af_qpk : h_5.2.1 qpk = pkf := (funext fun j => (hs.a (gqpk.S hM) rfl j).1).trans af_qpk
  replace af_qpt : h_5.2.1 qpt = pst := (funext fun j => (hs.a (gqpt.S hM) rfl j).1).trans af_qpt
  replace nfa_2 : h_5.2.1 qpo = fa_2 := (funext fun j => (hs.a (gqpo.S hM) rfl j).1).trans nfa_2
  replace nfa_4 : h_5.2.1 qpd = fa_4 := (funext fun j => (hs.a (gqpd.S hM) rfl j).1).trans nfa_4
  replace hM := hM.tr (hs.mono ?o18)
  case o18 => decide
  obtain ⟨fa_6, dfa_6⟩ : ∃ g : Nat → Int32, g = hx_up psm n0.toNatClampNeg i3 := ⟨_, rfl⟩
  have nfa_6 : h_5.2.1 qps = fa_6 := ?o19
  case o19 =>
    rw [eh_5, dfa_6, ← af_qpsO]
    exact hx_pi_fun _ _ _ _
  refine lv_aload_n hx hb dX10_pays_30 rfl (lv_at hl 0 rfl) ?_
  refine hk_getr hx hb hts hC_10 hown hW (gx.S hM) tt_10 63 ?o20 rfl kw_1206 ⟨rfl, rfl, rfl⟩ ((hM.o gx trivial rfl).2.trans f_x_63) dX10_pays_31 ?_
  case o20 => decide
  refine lv_aload_n hx hb dX10_pays_34 rfl (lv_at hl 0 rfl) ?_
  refine hk_geti hx hb hts hC_10 hown hW (gx.S hM) tt_10 59 ?o21 rfl kw_1202 ⟨rfl, rfl, rfl⟩ f_x_59 dX10_pays_35 ?_
  case o21 => decide
  refine lv_aload_n hx hb dX10_pays_38 rfl (lv_at hl 0 rfl) ?_
  refine hk_geti hx hb hts hC_10 hown hW (gx.S hM) tt_10 0 ?o22 rfl kw_1143 ⟨rfl, rfl, rfl⟩ ((hM.o gx trivial rfl).1.trans f_x_0) dX10_pays_39 ?_
  case o22 => decide
  have af_qpkO := af_qpk
  refine hx_iast hx hb hW hT (hx_S.rf (M := [(96, 0)])) (gqpk.S hM) tt_96 rfl ⟨?o23, ?o24⟩ rfl (i32_r _) (List.mem_singleton.mpr rfl) dX10_pays_42 (fun H locs h_7 eh_7 hW hT hs => ?_)
  case o23 => omega
  case o24 => omega
  replace f_x_59 := (hs.o (gx.S hM) trivial rfl).1.trans f_x_59
  replace af_qpt : h_7.2.1 qpt = pst := (funext fun j => (hs.a (gqpt.S hM) rfl j).1).trans af_qpt
  replace nfa_2 : h_7.2.1 qpo = fa_2 := (funext fun j => (hs.a (gqpo.S hM) rfl j).1).trans nfa_2
  replace nfa_4 : h_7.2.1 qpd = fa_4 := (funext fun j => (hs.a (gqpd.S hM) rfl j).1).trans nfa_4
  replace nfa_6 : h_7.2.1 qps = fa_6 := (funext fun j => (hs.a (gqps.S hM) rfl j).1).trans nfa_6
  replace hM := hM.tr (hs.mono ?o25)
  case o25 => decide
  obtain ⟨fa_8, dfa_8⟩ : ∃ g : Nat → Int32, g = hx_up pkf n0.toNatClampNeg nw0 := ⟨_, rfl⟩
  have nfa_8 : h_7.2.1 qpk = fa_8 := ?o26
  case o26 =>
    rw [eh_7, dfa_8, ← af_qpkO]
    exact hx_pi_fun _ _ _ _
  refine lv_aload_n hx hb dX10_pays_43 rfl (lv_at hl 0 rfl) ?_
  refine hk_getr hx hb hts hC_10 hown hW (gx.S hM) tt_10 64 ?o27 rfl kw_1207 ⟨rfl, rfl, rfl⟩ ((hM.o gx trivial rfl).2.trans f_x_64) dX10_pays_44 ?_
  case o27 => decide
  refine lv_aload_n hx hb dX10_pays_47 rfl (lv_at hl 0 rfl) ?_
  refine hk_geti hx hb hts hC_10 hown hW (gx.S hM) tt_10 59 ?o28 rfl kw_1202 ⟨rfl, rfl, rfl⟩ f_x_59 dX10_pays_48 ?_
  case o28 => decide
  refine lv_iconst (v := -1) hx hb dX10_pays_51 ?o29 ?_
  case o29 => decide
  have af_qptO := af_qpt
  refine hx_iast hx hb hW hT (hx_S.rf (M := [(97, 0)])) (gqpt.S hM) tt_97 rfl ⟨?o30, ?o31⟩ rfl ?o32 (List.mem_singleton.mpr rfl) dX10_pays_52 (fun H locs h_9 eh_9 hW hT hs => ?_)
  case o30 => omega
  case o31 => omega
  case o32 => decide
  replace f_x_59 := (hs.o (gx.S hM) trivial rfl).1.trans f_x_59
  replace nfa_2 : h_9.2.1 qpo = fa_2 := (funext fun j => (hs.a (gqpo.S hM) rfl j).1).trans nfa_2
  replace nfa_4 : h_9.2.1 qpd = fa_4 := (funext fun j => (hs.a (gqpd.S hM) rfl j).1).trans nfa_4
  replace nfa_6 : h_9.2.1 qps = fa_6 := (funext fun j => (hs.a (gqps.S hM) rfl j).1).trans nfa_6
  replace nfa_8 : h_9.2.1 qpk = fa_8 := (funext fun j => (hs.a (gqpk.S hM) rfl j).1).trans nfa_8
  replace hM := hM.tr (hs.mono ?o33)
  case o33 => decide
  obtain ⟨fa_10, dfa_10⟩ : ∃ g : Nat → Int32, g = hx_up pst n0.toNatClampNeg (-1 : Int32) := ⟨_, rfl⟩
  have nfa_10 : h_9.2.1 qpt = fa_10 := ?o34
  case o34 =>
    rw [eh_9, dfa_10, ← af_qptO]
    exact hx_pi_fun _ _ _ _
  refine lv_aload_n hx hb dX10_pays_53 rfl (lv_at hl 0 rfl) ?_
  refine lv_dup hx hb dX10_pays_54 rfl ?_
  refine hk_geti hx hb hts hC_10 hown hW (gx.S hM) tt_10 59 ?o35 rfl kw_1202 ⟨rfl, rfl, rfl⟩ f_x_59 dX10_pays_55 ?_
  case o35 => decide
  refine lv_iconst (v := 1) hx hb dX10_pays_58 ?o36 ?_
  case o36 => decide
  refine lv_iadd hx hb dX10_pays_59 ?_
  have rg_11 := i32_r n0
  refine lv_topi (fun x_12 ex_12 => ?_)
  have zx_12 : x_12.toInt = n0.toInt + 1 := ?o37
  case o37 =>
    rw [ex_12]
    refine i32_add rfl ?o38 ?o39 ?o40
    case o38 => decide
    case o39 => omega
    case o40 => omega
  refine hx_puti hx hb hts hC_10 hown hW hT (hx_S.rf (M := [(10, 59)])) (gx.S hM) tt_10 59 ?o41 rfl kw_1202 ⟨rfl, rfl, rfl⟩ rfl (x := x_12) ⟨?o42, ?o43⟩ rfl rfl rfl (List.mem_singleton.mpr rfl) dX10_pays_60 (fun H locs h_13 eh_13 hW hT hs => ?_)
  case o41 => decide
  case o42 => omega
  case o43 => omega
  replace nfa_2 : h_13.2.1 qpo = fa_2 := (funext fun j => (hs.a (gqpo.S hM) rfl j).1).trans nfa_2
  replace nfa_4 : h_13.2.1 qpd = fa_4 := (funext fun j => (hs.a (gqpd.S hM) rfl j).1).trans nfa_4
  replace nfa_6 : h_13.2.1 qps = fa_6 := (funext fun j => (hs.a (gqps.S hM) rfl j).1).trans nfa_6
  replace nfa_8 : h_13.2.1 qpk = fa_8 := (funext fun j => (hs.a (gqpk.S hM) rfl j).1).trans nfa_8
  replace nfa_10 : h_13.2.1 qpt = fa_10 := (funext fun j => (hs.a (gqpt.S hM) rfl j).1).trans nfa_10
  replace hM := hM.tr (hs.mono ?o44)
  case o44 => decide
  have f_14 : h_13.2.1 x 59 = x_12 := ?o45
  case o45 =>
    rw [eh_13]
    exact hx_pi_at _ _ _ _
  refine lv_aload_n hx hb dX10_pays_63 rfl (lv_at hl 0 rfl) ?_
  refine hk_geti hx hb hts hC_10 hown hW (gx.S hM) tt_10 59 ?o46 rfl kw_1202 ⟨rfl, rfl, rfl⟩ f_14 dX10_pays_64 ?_
  case o46 => decide
  refine lv_iconst (v := 1) hx hb dX10_pays_67 ?o47 ?_
  case o47 => decide
  refine lv_isub hx hb dX10_pays_68 ?_
  have rg_15 := i32_r x_12
  refine lv_topi (fun x_16 ex_16 => ?_)
  have zx_16 : x_16.toInt = x_12.toInt - 1 := ?o48
  case o48 =>
    rw [ex_16]
    refine i32_sub rfl ?o49 ?o50 ?o51
    case o49 => decide
    case o50 => omega
    case o51 => omega
  refine hx_reti hx hb hr hlk hW ⟨⟨x_12, fa_2, fa_4, fa_6, fa_8, fa_10, f_14, nfa_2, nfa_4, nfa_6, nfa_8, nfa_10, ⟨?o52, ?o53, dfa_2, dfa_4, dfa_6, dfa_8, dfa_10⟩⟩, hT, hM⟩ dX10_pays_69
  case o52 => omega
  case o53 => omega


set_option maxHeartbeats 4000000 in
set_option maxRecDepth 100000 in
theorem t_X10_pay_v (l : Launch) (dC : Nat → ClassId) (dI : Nat → Nat → Nat) (dA : Nat → ClassId) (L : List Nat) (h : hx_h) (sz : Nat) (x : Nat) (i1 : Int32) (i2 : Int32) (i3 : Int32) (hT : hx_T T_tb L h) (gx : hx_g L h x 10) (qod : Nat) (gqod : hx_g L h qod 83) (f_x_48 : h.2.2 x 48 = some qod) (qsv : Nat) (gqsv : hx_g L h qsv 85) (f_x_50 : h.2.2 x 50 = some qsv) (qpo : Nat) (gqpo : hx_g L h qpo 93) (f_x_60 : h.2.2 x 60 = some qpo) (qpd : Nat) (gqpd : hx_g L h qpd 94) (f_x_61 : h.2.2 x 61 = some qpd) (qps : Nat) (gqps : hx_g L h qps 95) (f_x_62 : h.2.2 x 62 = some qps) (qpk : Nat) (gqpk : hx_g L h qpk 96) (f_x_63 : h.2.2 x 63 = some qpk) (qpt : Nat) (gqpt : hx_g L h qpt 97) (f_x_64 : h.2.2 x 64 = some qpt) (odf : Nat → Int32) (af_qod : h.2.1 qod = odf) (svf : Nat → Int32) (af_qsv : h.2.1 qsv = svf) (pof : Nat → Int32) (af_qpo : h.2.1 qpo = pof) (pdf : Nat → Int32) (af_qpd : h.2.1 qpd = pdf) (psm : Nat → Int32) (af_qps : h.2.1 qps = psm) (pkf : Nat → Int32) (af_qpk : h.2.1 qpk = pkf) (pst : Nat → Int32) (af_qpt : h.2.1 qpt = pst) (c0 : Int32) (f_x_36 : h.2.1 x 36 = c0) (nw0 : Int32) (f_x_0 : h.2.1 x 0 = nw0) (n0 : Int32) (f_x_59 : h.2.1 x 59 = n0) : Met l yX10_pay (Cond.code yX10_pay cX10_pay 4 (some .int) :: hx_all) ({ frames := 2, cells := 0, slots := 0, locals := 43 }) (va_Pc [.ref x, .int i1, .int i2, .int i3] (hx_B T_tb (P_ty dA) (dC, dI) vwCl L h sz)) (va_Qi (fun (r : Int32) (u : List Nat × hx_h) => (∃ (n1 : Int32) (pof1 : Nat → Int32) (pdf1 : Nat → Int32) (psm1 : Nat → Int32) (pkf1 : Nat → Int32) (pst1 : Nat → Int32), u.2.2.1 x 59 = n1 ∧ u.2.2.1 qpo = pof1 ∧ u.2.2.1 qpd = pdf1 ∧ u.2.2.1 qps = psm1 ∧ u.2.2.1 qpk = pkf1 ∧ u.2.2.1 qpt = pst1 ∧ (hz_PS (hz_PC n0.toInt c0.toInt i1.toInt i2.toInt i3.toInt nw0.toInt (odf i1.toInt.toNat).toInt (svf i1.toInt.toNat).toInt) i1 i2 i3 nw0 n0 n1 r pof pof1 pdf pdf1 psm psm1 pkf pkf1 pst pst1)) ∧ hx_T T_tb u.1 u.2 ∧ hx_S T_tb [(10, 59), (93, 0), (94, 0), (95, 0), (96, 0), (97, 0)] L h u.1 u.2) (hx_E T_tb (P_ty dA) (dC, dI) vwCl (hx_A L sz)) (hx_A L sz)) 0 0 (hx_A L sz) := by
  refine hx_met (lv := [(0, .ref x), (1, .int i1), (2, .int i2), (3, .int i3)]) (by decide +kernel) rfl (Nat.le_of_ble_eq_true rfl) rfl ?_
  intro p e s m below meth c hx hb hml hr hlk hts0 hown hin hsz hW ls hl
  have hts : ∀ w ∈ hx_all, w.before _ s = true := fun w hw => hts0 w (List.mem_cons_of_mem _ hw)
  have hown : s.vm.findClass "SmallCourtModel" = some m.cls := hown
  have hM : hx_S T_tb [(10, 59), (93, 0), (94, 0), (95, 0), (96, 0), (97, 0)] L h L h := hx_S.rf
  have b_c0 := hT.gi gx tt_10 (k := 36) rfl
  rw [f_x_36] at b_c0
  have b_c0 : 0 ≤ c0.toInt ∧ c0.toInt ≤ 100 := b_c0
  have b_nw0 := hT.gi gx tt_10 (k := 0) rfl
  rw [f_x_0] at b_nw0
  have b_nw0 : 0 ≤ nw0.toInt ∧ nw0.toInt ≤ 7999 := b_nw0
  have b_n0 := hT.gi gx tt_10 (k := 59) rfl
  rw [f_x_59] at b_n0
  have b_n0 : 0 ≤ n0.toInt ∧ n0.toInt ≤ 600 := b_n0
  refine lv_aload_n hx hb dX10_pay_0 rfl (lv_at hl 0 rfl) ?_
  refine hk_geti hx hb hts hC_10 hown hW (gx.S hM) tt_10 59 ?o0 rfl kw_1202 ⟨rfl, rfl, rfl⟩ f_x_59 dX10_pay_1 ?_
  case o0 => decide
  refine lv_sipush (v := 600) hx hb dX10_pay_4 ?o1 ?_
  case o1 => decide
  refine hb_icmp_eq (zx := n0.toInt) (zy := 600) (tgt := 66) hx hb rfl ?o2 dX10_pay_7 ?o3 (fun c_1 => ?_) (fun c_1 => ?_)
  case o2 => decide
  case o3 => decide
  · skip
    refine lv_iconst (v := -1) hx hb dX10_pay_66 ?o4 ?_
    case o4 => decide
    refine hx_reti hx hb hr hlk hW ⟨⟨n0, pof, pdf, psm, pkf, pst, f_x_59, af_qpo, af_qpd, af_qps, af_qpk, af_qpt, (Or.inl ⟨(fun hc => by have h1 := hc.1; omega), ?o5, rfl, rfl, rfl, rfl, rfl, rfl⟩)⟩, hT, hM⟩ dX10_pay_67
    case o5 => decide
  · skip
    refine lv_aload_n hx hb dX10_pay_10 rfl (lv_at hl 0 rfl) ?_
    refine lv_iload_n hx hb dX10_pay_11 rfl (lv_at hl 1 rfl) ?_
    refine hx_goi (hx_runV (As := [.int i1]) (rest := []) ⟨hx, hb, hml, hown, hts⟩ hW (gx.S hM) tt_10 (T := TX10) (N := 98) rfl (t_X10_isClaim l dC dI dA L h s.heap.size x i1 hT (gx.S hM) c0 ((hM.o gx trivial rfl).1.trans f_x_36)) (cwV 1 hts (hx_gV kw_1597 kw_1594 kw_1596 kw_73 kw_103) rfl rfl rfl (by decide +kernel) ⟨Nat.le_of_ble_eq_true rfl, Nat.le_of_ble_eq_true rfl⟩) rfl hl.1 rfl (Nat.le_of_ble_eq_true rfl) dX10_pay_12 ⟨Nat.le_of_ble_eq_true rfl, Nat.le_of_ble_eq_true rfl⟩) hW (fun r_4 L_2 h_3 H locs p_5 hW => ?_)
    obtain ⟨hr_6, hT, hs⟩ := p_5
    replace hT : hx_T T_tb L_2 h_3 := hT
    replace hs : hx_S T_tb [] L h L_2 h_3 := hs
    replace f_x_59 := (hs.o (gx.S hM) trivial rfl).1.trans f_x_59
    replace af_qpo : h_3.2.1 qpo = pof := (funext fun j => (hs.a (gqpo.S hM) rfl j).1).trans af_qpo
    replace af_qpd : h_3.2.1 qpd = pdf := (funext fun j => (hs.a (gqpd.S hM) rfl j).1).trans af_qpd
    replace af_qps : h_3.2.1 qps = psm := (funext fun j => (hs.a (gqps.S hM) rfl j).1).trans af_qps
    replace af_qpk : h_3.2.1 qpk = pkf := (funext fun j => (hs.a (gqpk.S hM) rfl j).1).trans af_qpk
    replace af_qpt : h_3.2.1 qpt = pst := (funext fun j => (hs.a (gqpt.S hM) rfl j).1).trans af_qpt
    replace hM := hM.tr (hs.mono ?o6)
    case o6 => decide
    refine hb_if_eq (zx := r_4.toInt) (tgt := 66) hx hb rfl dX10_pay_15 ?o7 (fun c_7 => ?_) (fun c_7 => ?_)
    case o7 => decide
    · skip
      replace hr_6 := hr_6.resolve_right (fun z9 => absurd (c_7.symm.trans z9.1) ?o8)
      case o8 => decide
      replace hr_6 := hr_6.2
      refine lv_iconst (v := -1) hx hb dX10_pay_66 ?o9 ?_
      case o9 => decide
      refine hx_reti hx hb hr hlk hW ⟨⟨n0, pof, pdf, psm, pkf, pst, f_x_59, af_qpo, af_qpd, af_qps, af_qpk, af_qpt, (Or.inl ⟨(fun hc => by have h1 := hc.2.1; omega), ?o10, rfl, rfl, rfl, rfl, rfl, rfl⟩)⟩, hT, hM⟩ dX10_pay_67
      case o10 => decide
    · skip
      replace hr_6 := hr_6.resolve_left (fun z9 => c_7 z9.1)
      replace c_7 := hr_6.1
      replace hr_6 := hr_6.2
      refine lv_aload_n hx hb dX10_pay_18 rfl (lv_at hl 0 rfl) ?_
      refine hk_getr hx hb hts hC_10 hown hW (gx.S hM) tt_10 48 ?o11 rfl kw_1191 ⟨rfl, rfl, rfl⟩ ((hM.o gx trivial rfl).2.trans f_x_48) dX10_pay_19 ?_
      case o11 => decide
      refine lv_iload_n hx hb dX10_pay_22 rfl (lv_at hl 1 rfl) ?_
      refine hx_iald hx hb hW hT (gqod.S hM) tt_83 rfl ⟨?o12, ?o13⟩ dX10_pay_23 (fun x_8 ex_8 lx_8 ux_8 => ?_)
      case o12 => omega
      case o13 => omega
      have ax_8 : x_8 = odf i1.toNatClampNeg := ex_8.trans (congrFun (hx_afS hM gqod rfl af_qod) _)
      refine lv_iconst (v := -1) hx hb dX10_pay_24 ?o14 ?_
      case o14 => decide
      refine hb_icmp_eq (zx := x_8.toInt) (zy := (-1)) (tgt := 66) hx hb rfl ?o15 dX10_pay_25 ?o16 (fun c_9 => ?_) (fun c_9 => ?_)
      case o15 => decide
      case o16 => decide
      · skip
        refine lv_iconst (v := -1) hx hb dX10_pay_66 ?o17 ?_
        case o17 => decide
        refine hx_reti hx hb hr hlk hW ⟨⟨n0, pof, pdf, psm, pkf, pst, f_x_59, af_qpo, af_qpd, af_qps, af_qpk, af_qpt, (Or.inl ⟨(fun hc => by have h1 := hc.2.2.1; rw [show odf i1.toInt.toNat = x_8 from ax_8.symm] at h1; omega), ?o18, rfl, rfl, rfl, rfl, rfl, rfl⟩)⟩, hT, hM⟩ dX10_pay_67
        case o18 => decide
      · skip
        refine lv_aload_n hx hb dX10_pay_28 rfl (lv_at hl 0 rfl) ?_
        refine hk_getr hx hb hts hC_10 hown hW (gx.S hM) tt_10 50 ?o19 rfl kw_1193 ⟨rfl, rfl, rfl⟩ ((hM.o gx trivial rfl).2.trans f_x_50) dX10_pay_29 ?_
        case o19 => decide
        refine lv_iload_n hx hb dX10_pay_32 rfl (lv_at hl 1 rfl) ?_
        refine hx_iald hx hb hW hT (gqsv.S hM) tt_85 rfl ⟨?o20, ?o21⟩ dX10_pay_33 (fun x_10 ex_10 lx_10 ux_10 => ?_)
        case o20 => omega
        case o21 => omega
        have ax_10 : x_10 = svf i1.toNatClampNeg := ex_10.trans (congrFun (hx_afS hM gqsv rfl af_qsv) _)
        refine lv_iconst (v := -1) hx hb dX10_pay_34 ?o22 ?_
        case o22 => decide
        refine hb_icmp_ne (zx := x_10.toInt) (zy := (-1)) (tgt := 66) hx hb rfl ?o23 dX10_pay_35 ?o24 (fun c_11 => ?_) (fun c_11 => ?_)
        case o23 => decide
        case o24 => decide
        · skip
          refine lv_iconst (v := -1) hx hb dX10_pay_66 ?o25 ?_
          case o25 => decide
          refine hx_reti hx hb hr hlk hW ⟨⟨n0, pof, pdf, psm, pkf, pst, f_x_59, af_qpo, af_qpd, af_qps, af_qpk, af_qpt, (Or.inl ⟨(fun hc => by have h1 := hc.2.2.2.1; rw [show svf i1.toInt.toNat = x_10 from ax_10.symm] at h1; omega), ?o26, rfl, rfl, rfl, rfl, rfl, rfl⟩)⟩, hT, hM⟩ dX10_pay_67
          case o26 => decide
        · skip
          refine lv_iload_n hx hb dX10_pay_38 rfl (lv_at hl 2 rfl) ?_
          refine lv_aload_n hx hb dX10_pay_39 rfl (lv_at hl 0 rfl) ?_
          refine hk_getr hx hb hts hC_10 hown hW (gx.S hM) tt_10 48 ?o27 rfl kw_1191 ⟨rfl, rfl, rfl⟩ ((hM.o gx trivial rfl).2.trans f_x_48) dX10_pay_40 ?_
          case o27 => decide
          refine lv_iload_n hx hb dX10_pay_43 rfl (lv_at hl 1 rfl) ?_
          refine hx_iald hx hb hW hT (gqod.S hM) tt_83 rfl ⟨?o28, ?o29⟩ dX10_pay_44 (fun x_12 ex_12 lx_12 ux_12 => ?_)
          case o28 => omega
          case o29 => omega
          have ax_12 : x_12 = odf i1.toNatClampNeg := ex_12.trans (congrFun (hx_afS hM gqod rfl af_qod) _)
          obtain rfl : x_8 = x_12 := ex_8.trans ex_12.symm
          refine lv_aload_n hx hb dX10_pay_45 rfl (lv_at hl 0 rfl) ?_
          refine hk_geti hx hb hts hC_10 hown hW (gx.S hM) tt_10 0 ?o30 rfl kw_1143 ⟨rfl, rfl, rfl⟩ ((hM.o gx trivial rfl).1.trans f_x_0) dX10_pay_46 ?_
          case o30 => decide
          refine hx_goi (hx_runS (As := [.int i2, .int x_8, .int nw0]) (rest := []) ⟨hx, hb, hml, hown, hts⟩ hW (t_X10_in l dC dI dA L_2 h_3 H.size i2 x_8 nw0 hT) (va_cwS 3 hts (hx_gS kw_1445 kw_1443 kw_1444 kw_103) rfl rfl rfl (by decide +kernel) ⟨Nat.le_of_ble_eq_true rfl, Nat.le_of_ble_eq_true rfl⟩) rfl hl.1 rfl (Nat.le_of_ble_eq_true rfl) dX10_pay_49 ⟨Nat.le_of_ble_eq_true rfl, Nat.le_of_ble_eq_true rfl⟩) hW (fun r_15 L_13 h_14 H locs p_16 hW => ?_)
          obtain ⟨hr_17, hT, hs⟩ := p_16
          replace hT : hx_T T_tb L_13 h_14 := hT
          replace hs : hx_S T_tb [] L_2 h_3 L_13 h_14 := hs
          replace f_x_59 := (hs.o (gx.S hM) trivial rfl).1.trans f_x_59
          replace af_qpo : h_14.2.1 qpo = pof := (funext fun j => (hs.a (gqpo.S hM) rfl j).1).trans af_qpo
          replace af_qpd : h_14.2.1 qpd = pdf := (funext fun j => (hs.a (gqpd.S hM) rfl j).1).trans af_qpd
          replace af_qps : h_14.2.1 qps = psm := (funext fun j => (hs.a (gqps.S hM) rfl j).1).trans af_qps
          replace af_qpk : h_14.2.1 qpk = pkf := (funext fun j => (hs.a (gqpk.S hM) rfl j).1).trans af_qpk
          replace af_qpt : h_14.2.1 qpt = pst := (funext fun j => (hs.a (gqpt.S hM) rfl j).1).trans af_qpt
          replace ex_8 := ex_8.trans (hs.a (gqod.S hM) rfl _).1.symm
          replace ex_10 := ex_10.trans (hs.a (gqsv.S hM) rfl _).1.symm
          replace hM := hM.tr (hs.mono ?o31)
          case o31 => decide
          refine hb_if_eq (zx := r_15.toInt) (tgt := 66) hx hb rfl dX10_pay_52 ?o32 (fun c_18 => ?_) (fun c_18 => ?_)
          case o32 => decide
          · skip
            replace hr_17 := hr_17.resolve_right (fun z9 => absurd (c_18.symm.trans z9.1) ?o33)
            case o33 => decide
            replace hr_17 := hr_17.2
            refine lv_iconst (v := -1) hx hb dX10_pay_66 ?o34 ?_
            case o34 => decide
            refine hx_reti hx hb hr hlk hW ⟨⟨n0, pof, pdf, psm, pkf, pst, f_x_59, af_qpo, af_qpd, af_qps, af_qpk, af_qpt, (Or.inl ⟨(fun hc => by have h1 := hc.2.2.2.2.1; rw [show odf i1.toInt.toNat = x_8 from ax_8.symm] at h1; omega), ?o35, rfl, rfl, rfl, rfl, rfl, rfl⟩)⟩, hT, hM⟩ dX10_pay_67
            case o35 => decide
          · skip
            replace hr_17 := hr_17.resolve_left (fun z9 => c_18 z9.1)
            replace c_18 := hr_17.1
            replace hr_17 := hr_17.2
            refine lv_iload_n hx hb dX10_pay_55 rfl (lv_at hl 3 rfl) ?_
            refine lv_iconst (v := 1) hx hb dX10_pay_56 ?o36 ?_
            case o36 => decide
            refine lv_sipush (v := 9999) hx hb dX10_pay_57 ?o37 ?_
            case o37 => decide
            have zc_9999 : (9999 : Int32).toInt = 9999 := ?o38
            case o38 => decide
            have zc_1 : (1 : Int32).toInt = 1 := ?o39
            case o39 => decide
            refine hx_goi (hx_runS (As := [.int i3, .int (1 : Int32), .int (9999 : Int32)]) (rest := []) ⟨hx, hb, hml, hown, hts⟩ hW (t_X10_in l dC dI dA L_13 h_14 H.size i3 (1 : Int32) (9999 : Int32) hT) (va_cwS 3 hts (hx_gS kw_1445 kw_1443 kw_1444 kw_103) rfl rfl rfl (by decide +kernel) ⟨Nat.le_of_ble_eq_true rfl, Nat.le_of_ble_eq_true rfl⟩) rfl hl.1 rfl (Nat.le_of_ble_eq_true rfl) dX10_pay_60 ⟨Nat.le_of_ble_eq_true rfl, Nat.le_of_ble_eq_true rfl⟩) hW (fun r_21 L_19 h_20 H locs p_22 hW => ?_)
            obtain ⟨hr_23, hT, hs⟩ := p_22
            replace hT : hx_T T_tb L_19 h_20 := hT
            replace hs : hx_S T_tb [] L_13 h_14 L_19 h_20 := hs
            replace f_x_59 := (hs.o (gx.S hM) trivial rfl).1.trans f_x_59
            replace af_qpo : h_20.2.1 qpo = pof := (funext fun j => (hs.a (gqpo.S hM) rfl j).1).trans af_qpo
            replace af_qpd : h_20.2.1 qpd = pdf := (funext fun j => (hs.a (gqpd.S hM) rfl j).1).trans af_qpd
            replace af_qps : h_20.2.1 qps = psm := (funext fun j => (hs.a (gqps.S hM) rfl j).1).trans af_qps
            replace af_qpk : h_20.2.1 qpk = pkf := (funext fun j => (hs.a (gqpk.S hM) rfl j).1).trans af_qpk
            replace af_qpt : h_20.2.1 qpt = pst := (funext fun j => (hs.a (gqpt.S hM) rfl j).1).trans af_qpt
            replace ex_8 := ex_8.trans (hs.a (gqod.S hM) rfl _).1.symm
            replace ex_10 := ex_10.trans (hs.a (gqsv.S hM) rfl _).1.symm
            replace hM := hM.tr (hs.mono ?o40)
            case o40 => decide
            refine hb_if_ne (zx := r_21.toInt) (tgt := 68) hx hb rfl dX10_pay_63 ?o41 (fun c_24 => ?_) (fun c_24 => ?_)
            case o41 => decide
            · skip
              replace hr_23 := hr_23.resolve_left (fun z9 => c_24 z9.1)
              replace c_24 := hr_23.1
              replace hr_23 := hr_23.2
              refine lv_aload_n hx hb dX10_pay_68 rfl (lv_at hl 0 rfl) ?_
              refine lv_iload_n hx hb dX10_pay_69 rfl (lv_at hl 1 rfl) ?_
              refine lv_iload_n hx hb dX10_pay_70 rfl (lv_at hl 2 rfl) ?_
              refine lv_iload_n hx hb dX10_pay_71 rfl (lv_at hl 3 rfl) ?_
              refine hx_goi (hx_runV (As := [.int i1, .int i2, .int i3]) (rest := []) ⟨hx, hb, hml, hown, hts⟩ hW (gx.S hM) tt_10 (T := TX10) (N := 98) rfl (t_X10_pays_v l dC dI dA L_19 h_20 H.size x i1 i2 i3 hT (gx.S hM) qpo (gqpo.S hM) ((hM.o gx trivial rfl).2.trans f_x_60) qpd (gqpd.S hM) ((hM.o gx trivial rfl).2.trans f_x_61) qps (gqps.S hM) ((hM.o gx trivial rfl).2.trans f_x_62) qpk (gqpk.S hM) ((hM.o gx trivial rfl).2.trans f_x_63) qpt (gqpt.S hM) ((hM.o gx trivial rfl).2.trans f_x_64) pof af_qpo pdf af_qpd psm af_qps pkf af_qpk pst af_qpt nw0 ((hM.o gx trivial rfl).1.trans f_x_0) n0 f_x_59 ?o42 ⟨?o43, ?o44⟩) (cwV 3 hts (hx_gV kw_1653 kw_1650 kw_1652 kw_84 kw_103) rfl rfl rfl (by decide +kernel) ⟨Nat.le_of_ble_eq_true rfl, Nat.le_of_ble_eq_true rfl⟩) rfl hl.1 rfl (Nat.le_of_ble_eq_true rfl) dX10_pay_72 ⟨Nat.le_of_ble_eq_true rfl, Nat.le_of_ble_eq_true rfl⟩) hW (fun r_27 L_25 h_26 H locs p_28 hW => ?_)
              case o42 => omega
              case o43 => omega
              case o44 => omega
              obtain ⟨⟨w_30, w_31, w_32, w_33, w_34, w_35, fw_30, fw_31, fw_32, fw_33, fw_34, fw_35, hr_29⟩, hT, hs⟩ := p_28
              replace hT : hx_T T_tb L_25 h_26 := hT
              replace hs : hx_S T_tb [(10, 59), (93, 0), (94, 0), (95, 0), (96, 0), (97, 0)] L_19 h_20 L_25 h_26 := hs
              replace ex_8 := ex_8.trans (hs.a (gqod.S hM) rfl _).1.symm
              replace ex_10 := ex_10.trans (hs.a (gqsv.S hM) rfl _).1.symm
              replace hM := hM.tr (hs.mono ?o45)
              case o45 => decide
              have fw_30 : h_26.2.1 x 59 = w_30 := fw_30
              have bw_30 := hT.gi (gx.S hM) tt_10 (k := 59) rfl
              rw [fw_30] at bw_30
              have bw_30 : 0 ≤ w_30.toInt ∧ w_30.toInt ≤ 600 := bw_30
              have fw_31 : h_26.2.1 qpo = w_31 := fw_31
              have fw_32 : h_26.2.1 qpd = w_32 := fw_32
              have fw_33 : h_26.2.1 qps = w_33 := fw_33
              have fw_34 : h_26.2.1 qpk = w_34 := fw_34
              have fw_35 : h_26.2.1 qpt = w_35 := fw_35
              refine hx_reti hx hb hr hlk hW ⟨⟨w_30, w_31, w_32, w_33, w_34, w_35, fw_30, fw_31, fw_32, fw_33, fw_34, fw_35, (Or.inr ⟨⟨?o46, ⟨?o47, ?o48⟩, (by rw [show odf i1.toInt.toNat = x_8 from ax_8.symm]; omega), (by rw [show svf i1.toInt.toNat = x_10 from ax_10.symm]; omega), (by rw [show odf i1.toInt.toNat = x_8 from ax_8.symm]; omega), ?o49⟩, hr_29.1, hr_29.2.1, hr_29.2.2⟩)⟩, hT, hM⟩ dX10_pay_75
              case o46 => omega
              case o47 => omega
              case o48 => omega
              case o49 => omega
            · skip
              replace hr_23 := hr_23.resolve_right (fun z9 => absurd (c_24.symm.trans z9.1) ?o50)
              case o50 => decide
              replace hr_23 := hr_23.2
              refine lv_iconst (v := -1) hx hb dX10_pay_66 ?o51 ?_
              case o51 => decide
              refine hx_reti hx hb hr hlk hW ⟨⟨n0, pof, pdf, psm, pkf, pst, f_x_59, af_qpo, af_qpd, af_qps, af_qpk, af_qpt, (Or.inl ⟨(fun hc => by have h1 := hc.2.2.2.2.2; omega), ?o52, rfl, rfl, rfl, rfl, rfl, rfl⟩)⟩, hT, hM⟩ dX10_pay_67
              case o52 => decide


set_option maxHeartbeats 4000000 in
set_option maxRecDepth 100000 in
theorem t_X10_strike_v (l : Launch) (dC : Nat → ClassId) (dI : Nat → Nat → Nat) (dA : Nat → ClassId) (L : List Nat) (h : hx_h) (sz : Nat) (x : Nat) (i1 : Int32) (hT : hx_T T_tb L h) (gx : hx_g L h x 10) (qpt : Nat) (gqpt : hx_g L h qpt 97) (f_x_64 : h.2.2 x 64 = some qpt) (pst : Nat → Int32) (af_qpt : h.2.1 qpt = pst) (nw0 : Int32) (f_x_0 : h.2.1 x 0 = nw0) (n0 : Int32) (f_x_59 : h.2.1 x 59 = n0) : Met l yX10_strike (Cond.code yX10_strike cX10_strike 2 (some .boolean) :: hx_all) ({ frames := 1, cells := 0, slots := 0, locals := 22 }) (va_Pc [.ref x, .int i1] (hx_B T_tb (P_ty dA) (dC, dI) vwCl L h sz)) (va_Qi (fun (r : Int32) (u : List Nat × hx_h) => (∃ (pst1 : Nat → Int32), u.2.2.1 qpt = pst1 ∧ (hz_KS n0.toInt i1.toInt nw0 r pst pst1)) ∧ hx_T T_tb u.1 u.2 ∧ hx_S T_tb [(97, 0)] L h u.1 u.2) (hx_E T_tb (P_ty dA) (dC, dI) vwCl (hx_A L sz)) (hx_A L sz)) 0 0 (hx_A L sz) := by
  refine hx_met (lv := [(0, .ref x), (1, .int i1)]) (by decide +kernel) rfl (Nat.le_of_ble_eq_true rfl) rfl ?_
  intro p e s m below meth c hx hb hml hr hlk hts0 hown hin hsz hW ls hl
  have hts : ∀ w ∈ hx_all, w.before _ s = true := fun w hw => hts0 w (List.mem_cons_of_mem _ hw)
  have hown : s.vm.findClass "SmallCourtModel" = some m.cls := hown
  have hM : hx_S T_tb [(97, 0)] L h L h := hx_S.rf
  have b_nw0 := hT.gi gx tt_10 (k := 0) rfl
  rw [f_x_0] at b_nw0
  have b_nw0 : 0 ≤ nw0.toInt ∧ nw0.toInt ≤ 7999 := b_nw0
  have b_n0 := hT.gi gx tt_10 (k := 59) rfl
  rw [f_x_59] at b_n0
  have b_n0 : 0 ≤ n0.toInt ∧ n0.toInt ≤ 600 := b_n0
  refine lv_iload_n hx hb dX10_strike_0 rfl (lv_at hl 1 rfl) ?_
  refine lv_iconst (v := 0) hx hb dX10_strike_1 ?o0 ?_
  case o0 => decide
  refine lv_aload_n hx hb dX10_strike_2 rfl (lv_at hl 0 rfl) ?_
  refine hk_geti hx hb hts hC_10 hown hW (gx.S hM) tt_10 59 ?o1 rfl kw_1202 ⟨rfl, rfl, rfl⟩ ((hM.o gx trivial rfl).1.trans f_x_59) dX10_strike_3 ?_
  case o1 => decide
  refine lv_iconst (v := 1) hx hb dX10_strike_6 ?o2 ?_
  case o2 => decide
  refine lv_isub hx hb dX10_strike_7 ?_
  have rg_1 := i32_r n0
  refine lv_topi (fun x_2 ex_2 => ?_)
  have zx_2 : x_2.toInt = n0.toInt - 1 := ?o3
  case o3 =>
    rw [ex_2]
    refine i32_sub rfl ?o4 ?o5 ?o6
    case o4 => decide
    case o5 => omega
    case o6 => omega
  have zc_0 : (0 : Int32).toInt = 0 := ?o7
  case o7 => decide
  refine hx_goi (hx_runS (As := [.int i1, .int (0 : Int32), .int x_2]) (rest := []) ⟨hx, hb, hml, hown, hts⟩ hW (t_X10_in l dC dI dA L h s.heap.size i1 (0 : Int32) x_2 hT) (va_cwS 3 hts (hx_gS kw_1445 kw_1443 kw_1444 kw_103) rfl rfl rfl (by decide +kernel) ⟨Nat.le_of_ble_eq_true rfl, Nat.le_of_ble_eq_true rfl⟩) rfl hl.1 rfl (Nat.le_of_ble_eq_true rfl) dX10_strike_8 ⟨Nat.le_of_ble_eq_true rfl, Nat.le_of_ble_eq_true rfl⟩) hW (fun r_5 L_3 h_4 H locs p_6 hW => ?_)
  obtain ⟨hr_7, hT, hs⟩ := p_6
  replace hT : hx_T T_tb L_3 h_4 := hT
  replace hs : hx_S T_tb [] L h L_3 h_4 := hs
  replace af_qpt : h_4.2.1 qpt = pst := (funext fun j => (hs.a (gqpt.S hM) rfl j).1).trans af_qpt
  replace hM := hM.tr (hs.mono ?o8)
  case o8 => decide
  refine hb_if_eq (zx := r_5.toInt) (tgt := 24) hx hb rfl dX10_strike_11 ?o9 (fun c_8 => ?_) (fun c_8 => ?_)
  case o9 => decide
  · skip
    replace hr_7 := hr_7.resolve_right (fun z9 => absurd (c_8.symm.trans z9.1) ?o10)
    case o10 => decide
    replace hr_7 := hr_7.2
    refine lv_iconst (v := 0) hx hb dX10_strike_24 ?o11 ?_
    case o11 => decide
    refine hx_retz hx hb hr rfl hlk hW ⟨⟨pst, af_qpt, (Or.inl ⟨(fun hc => by have h1 := hc.1; omega), ?o12, rfl⟩)⟩, hT, hM⟩ dX10_strike_25
    case o12 => decide
  · skip
    replace hr_7 := hr_7.resolve_left (fun z9 => c_8 z9.1)
    replace c_8 := hr_7.1
    replace hr_7 := hr_7.2
    refine lv_aload_n hx hb dX10_strike_14 rfl (lv_at hl 0 rfl) ?_
    refine hk_getr hx hb hts hC_10 hown hW (gx.S hM) tt_10 64 ?o13 rfl kw_1207 ⟨rfl, rfl, rfl⟩ ((hM.o gx trivial rfl).2.trans f_x_64) dX10_strike_15 ?_
    case o13 => decide
    refine lv_iload_n hx hb dX10_strike_18 rfl (lv_at hl 1 rfl) ?_
    refine hx_iald hx hb hW hT (gqpt.S hM) tt_97 rfl ⟨?o14, ?o15⟩ dX10_strike_19 (fun x_9 ex_9 lx_9 ux_9 => ?_)
    case o14 => omega
    case o15 => omega
    have ax_9 : x_9 = pst i1.toNatClampNeg := ex_9.trans (congrFun af_qpt _)
    refine lv_iconst (v := -1) hx hb dX10_strike_20 ?o16 ?_
    case o16 => decide
    refine hb_icmp_eq (zx := x_9.toInt) (zy := (-1)) (tgt := 26) hx hb rfl ?o17 dX10_strike_21 ?o18 (fun c_10 => ?_) (fun c_10 => ?_)
    case o17 => decide
    case o18 => decide
    · skip
      refine lv_aload_n hx hb dX10_strike_26 rfl (lv_at hl 0 rfl) ?_
      refine hk_getr hx hb hts hC_10 hown hW (gx.S hM) tt_10 64 ?o19 rfl kw_1207 ⟨rfl, rfl, rfl⟩ ((hM.o gx trivial rfl).2.trans f_x_64) dX10_strike_27 ?_
      case o19 => decide
      refine lv_iload_n hx hb dX10_strike_30 rfl (lv_at hl 1 rfl) ?_
      refine lv_aload_n hx hb dX10_strike_31 rfl (lv_at hl 0 rfl) ?_
      refine hk_geti hx hb hts hC_10 hown hW (gx.S hM) tt_10 0 ?o20 rfl kw_1143 ⟨rfl, rfl, rfl⟩ ((hM.o gx trivial rfl).1.trans f_x_0) dX10_strike_32 ?_
      case o20 => decide
      have af_qptO := af_qpt
      refine hx_iast hx hb hW hT (hx_S.rf (M := [(97, 0)])) (gqpt.S hM) tt_97 rfl ⟨?o21, ?o22⟩ rfl (i32_r _) (List.mem_singleton.mpr rfl) dX10_strike_35 (fun H locs h_11 eh_11 hW hT hs => ?_)
      case o21 => omega
      case o22 => omega
      replace hM := hM.tr (hs.mono ?o23)
      case o23 => decide
      obtain ⟨fa_12, dfa_12⟩ : ∃ g : Nat → Int32, g = hx_up pst i1.toNatClampNeg nw0 := ⟨_, rfl⟩
      have nfa_12 : h_11.2.1 qpt = fa_12 := ?o24
      case o24 =>
        rw [eh_11, dfa_12, ← af_qptO]
        exact hx_pi_fun _ _ _ _
      refine lv_iconst (v := 1) hx hb dX10_strike_36 ?o25 ?_
      case o25 => decide
      refine hx_retz hx hb hr rfl hlk hW ⟨⟨fa_12, nfa_12, (Or.inr ⟨⟨⟨?o26, ?o27⟩, (by rw [show pst i1.toInt.toNat = x_9 from ax_9.symm]; omega)⟩, ?o28, dfa_12⟩)⟩, hT, hM⟩ dX10_strike_37
      case o26 => omega
      case o27 => omega
      case o28 => decide
    · skip
      refine lv_iconst (v := 0) hx hb dX10_strike_24 ?o29 ?_
      case o29 => decide
      refine hx_retz hx hb hr rfl hlk hW ⟨⟨pst, af_qpt, (Or.inl ⟨(fun hc => by have h1 := hc.2; rw [show pst i1.toInt.toNat = x_9 from ax_9.symm] at h1; omega), ?o30, rfl⟩)⟩, hT, hM⟩ dX10_strike_25
      case o30 => decide


set_option maxHeartbeats 4000000 in
set_option maxRecDepth 100000 in
theorem t_X10_seize_v (l : Launch) (dC : Nat → ClassId) (dI : Nat → Nat → Nat) (dA : Nat → ClassId) (L : List Nat) (h : hx_h) (sz : Nat) (x : Nat) (i1 : Int32) (i2 : Int32) (hT : hx_T T_tb L h) (gx : hx_g L h x 10) (qfo : Nat) (gqfo : hx_g L h qfo 81) (f_x_46 : h.2.2 x 46 = some qfo) (qhe : Nat) (gqhe : hx_g L h qhe 82) (f_x_47 : h.2.2 x 47 = some qhe) (qju : Nat) (gqju : hx_g L h qju 86) (f_x_51 : h.2.2 x 51 = some qju) (qod : Nat) (gqod : hx_g L h qod 83) (f_x_48 : h.2.2 x 48 = some qod) (qsv : Nat) (gqsv : hx_g L h qsv 85) (f_x_50 : h.2.2 x 50 = some qsv) (qsz : Nat) (gqsz : hx_g L h qsz 84) (f_x_49 : h.2.2 x 49 = some qsz) (qgd : Nat) (gqgd : hx_g L h qgd 91) (f_x_56 : h.2.2 x 56 = some qgd) (qow : Nat) (gqow : hx_g L h qow 90) (f_x_55 : h.2.2 x 55 = some qow) (qwk : Nat) (gqwk : hx_g L h qwk 89) (f_x_54 : h.2.2 x 54 = some qwk) (qpl : Nat) (gqpl : hx_g L h qpl 79) (f_x_44 : h.2.2 x 44 = some qpl) (qru : Nat) (gqru : hx_g L h qru 50) (f_x_3 : h.2.2 x 3 = some qru) (qpo : Nat) (gqpo : hx_g L h qpo 93) (f_x_60 : h.2.2 x 60 = some qpo) (qpd : Nat) (gqpd : hx_g L h qpd 94) (f_x_61 : h.2.2 x 61 = some qpd) (qps : Nat) (gqps : hx_g L h qps 95) (f_x_62 : h.2.2 x 62 = some qps) (qpk : Nat) (gqpk : hx_g L h qpk 96) (f_x_63 : h.2.2 x 63 = some qpk) (qpt : Nat) (gqpt : hx_g L h qpt 97) (f_x_64 : h.2.2 x 64 = some qpt) (fof : Nat → Int32) (af_qfo : h.2.1 qfo = fof) (hrf : Nat → Int32) (af_qhe : h.2.1 qhe = hrf) (udf : Nat → Int32) (af_qju : h.2.1 qju = udf) (odf : Nat → Int32) (af_qod : h.2.1 qod = odf) (svf : Nat → Int32) (af_qsv : h.2.1 qsv = svf) (szf : Nat → Int32) (af_qsz : h.2.1 qsz = szf) (gdf : Nat → Int32) (af_qgd : h.2.1 qgd = gdf) (owf : Nat → Int32) (af_qow : h.2.1 qow = owf) (wkf : Nat → Int32) (af_qwk : h.2.1 qwk = wkf) (plf : Nat → Int32) (af_qpl : h.2.1 qpl = plf) (rlf : Nat → Int32) (af_qru : h.2.1 qru = rlf) (pof : Nat → Int32) (af_qpo : h.2.1 qpo = pof) (pdf : Nat → Int32) (af_qpd : h.2.1 qpd = pdf) (psm : Nat → Int32) (af_qps : h.2.1 qps = psm) (pkf : Nat → Int32) (af_qpk : h.2.1 qpk = pkf) (pst : Nat → Int32) (af_qpt : h.2.1 qpt = pst) (c0 : Int32) (f_x_36 : h.2.1 x 36 = c0) (a0 : Int32) (f_x_1 : h.2.1 x 1 = a0) (nw0 : Int32) (f_x_0 : h.2.1 x 0 = nw0) (n0 : Int32) (f_x_59 : h.2.1 x 59 = n0) (adf psf prf : Nat → Int32) (A : Nat → hv_act) (hCA : hv_CA adf rlf psf prf a0.toInt A) (hPL : hx_PL plf c0.toInt a0.toInt) : Met l yX10_seize (Cond.code yX10_seize cX10_seize 3 (some .int) :: hx_all) ({ frames := 2, cells := 0, slots := 0, locals := 50 }) (va_Pc [.ref x, .int i1, .int i2] (hx_B T_tb (P_ty dA) (dC, dI) vwCl L h sz)) (va_Qi (fun (r : Int32) (u : List Nat × hx_h) => (∃ (szf1 : Nat → Int32) (gdf1 : Nat → Int32), u.2.2.1 qsz = szf1 ∧ u.2.2.1 qgd = gdf1 ∧ (hz_ZS (hz_ZC c0.toInt i1.toInt i2.toInt (szf i1.toInt.toNat).toInt (hz_st (fof i1.toInt.toNat).toInt (hrf i1.toInt.toNat).toInt (udf i1.toInt.toNat).toInt (odf i1.toInt.toNat).toInt (svf i1.toInt.toNat).toInt (hz_rs (svf i1.toInt.toNat).toInt (hz_bl (odf i1.toInt.toNat).toInt (szf i1.toInt.toNat).toInt (gdf i1.toInt.toNat).toInt (owf i1.toInt.toNat).toInt ((A (plf i1.toInt.toNat).toInt.toNat).2.1 12) nw0.toInt (hx_ps pof pdf psm pkf pst nw0.toInt nw0.toInt ((i1.toInt.toNat : Nat) : Int) n0.toInt.toNat)) nw0.toInt) (hz_ms (odf i1.toInt.toNat).toInt (svf i1.toInt.toNat).toInt (wkf i1.toInt.toNat).toInt (hz_al (owf i1.toInt.toNat).toInt (szf i1.toInt.toNat).toInt ((A (plf i1.toInt.toNat).toInt.toNat).2.1 12) nw0.toInt) (hz_pdy (odf i1.toInt.toNat).toInt (szf i1.toInt.toNat).toInt (gdf i1.toInt.toNat).toInt nw0.toInt (hx_ps pof pdf psm pkf pst nw0.toInt nw0.toInt ((i1.toInt.toNat : Nat) : Int) n0.toInt.toNat)) nw0.toInt) ((A (plf i1.toInt.toNat).toInt.toNat).2.1 4) ((A (plf i1.toInt.toNat).toInt.toNat).2.1 5) nw0.toInt)) i1.toInt.toNat i2 nw0 r (hz_bl (odf i1.toInt.toNat).toInt nw0.toInt i2.toInt (owf i1.toInt.toNat).toInt ((A (plf i1.toInt.toNat).toInt.toNat).2.1 12) nw0.toInt (hx_ps pof pdf psm pkf pst nw0.toInt nw0.toInt ((i1.toInt.toNat : Nat) : Int) n0.toInt.toNat)) szf szf1 gdf gdf1)) ∧ hx_T T_tb u.1 u.2 ∧ hx_S T_tb [(10, 67), (10, 68), (10, 69), (10, 70), (10, 71), (84, 0), (91, 0)] L h u.1 u.2) (hx_E T_tb (P_ty dA) (dC, dI) vwCl (hx_A L sz)) (hx_A L sz)) 0 0 (hx_A L sz) := by
  refine hx_met (lv := [(0, .ref x), (1, .int i1), (2, .int i2)]) (by decide +kernel) rfl (Nat.le_of_ble_eq_true rfl) rfl ?_
  intro p e s m below meth c hx hb hml hr hlk hts0 hown hin hsz hW ls hl
  have hts : ∀ w ∈ hx_all, w.before _ s = true := fun w hw => hts0 w (List.mem_cons_of_mem _ hw)
  have hown : s.vm.findClass "SmallCourtModel" = some m.cls := hown
  have hM : hx_S T_tb [(10, 67), (10, 68), (10, 69), (10, 70), (10, 71), (84, 0), (91, 0)] L h L h := hx_S.rf
  have b_c0 := hT.gi gx tt_10 (k := 36) rfl
  rw [f_x_36] at b_c0
  have b_c0 : 0 ≤ c0.toInt ∧ c0.toInt ≤ 100 := b_c0
  have b_a0 := hT.gi gx tt_10 (k := 1) rfl
  rw [f_x_1] at b_a0
  have b_a0 : 0 ≤ a0.toInt ∧ a0.toInt ≤ 8 := b_a0
  have b_nw0 := hT.gi gx tt_10 (k := 0) rfl
  rw [f_x_0] at b_nw0
  have b_nw0 : 0 ≤ nw0.toInt ∧ nw0.toInt ≤ 7999 := b_nw0
  have b_n0 := hT.gi gx tt_10 (k := 59) rfl
  rw [f_x_59] at b_n0
  have b_n0 : 0 ≤ n0.toInt ∧ n0.toInt ≤ 600 := b_n0
  refine lv_aload_n hx hb dX10_seize_0 rfl (lv_at hl 0 rfl) ?_
  refine lv_iload_n hx hb dX10_seize_1 rfl (lv_at hl 1 rfl) ?_
  refine hx_goi (hx_runV (As := [.int i1]) (rest := []) ⟨hx, hb, hml, hown, hts⟩ hW (gx.S hM) tt_10 (T := TX10) (N := 98) rfl (t_X10_isClaim l dC dI dA L h s.heap.size x i1 hT (gx.S hM) c0 ((hM.o gx trivial rfl).1.trans f_x_36)) (cwV 1 hts (hx_gV kw_1597 kw_1594 kw_1596 kw_73 kw_103) rfl rfl rfl (by decide +kernel) ⟨Nat.le_of_ble_eq_true rfl, Nat.le_of_ble_eq_true rfl⟩) rfl hl.1 rfl (Nat.le_of_ble_eq_true rfl) dX10_seize_2 ⟨Nat.le_of_ble_eq_true rfl, Nat.le_of_ble_eq_true rfl⟩) hW (fun r_3 L_1 h_2 H locs p_4 hW => ?_)
  obtain ⟨hr_5, hT, hs⟩ := p_4
  replace hT : hx_T T_tb L_1 h_2 := hT
  replace hs : hx_S T_tb [] L h L_1 h_2 := hs
  replace af_qsz : h_2.2.1 qsz = szf := (funext fun j => (hs.a (gqsz.S hM) rfl j).1).trans af_qsz
  replace af_qgd : h_2.2.1 qgd = gdf := (funext fun j => (hs.a (gqgd.S hM) rfl j).1).trans af_qgd
  replace hM := hM.tr (hs.mono ?o0)
  case o0 => decide
  refine hb_if_eq (zx := r_3.toInt) (tgt := 29) hx hb rfl dX10_seize_5 ?o1 (fun c_6 => ?_) (fun c_6 => ?_)
  case o1 => decide
  · skip
    replace hr_5 := hr_5.resolve_right (fun z9 => absurd (c_6.symm.trans z9.1) ?o2)
    case o2 => decide
    replace hr_5 := hr_5.2
    refine lv_ldcw (v := -1000000) hx hb hown (hts _ kw_1569) dX10_seize_29 ?_
    refine hx_reti hx hb hr hlk hW ⟨⟨szf, gdf, af_qsz, af_qgd, (Or.inl ⟨(fun hc => by have h1 := hc.1; omega), ?o3, rfl, rfl⟩)⟩, hT, hM⟩ dX10_seize_32
    case o3 => decide
  · skip
    replace hr_5 := hr_5.resolve_left (fun z9 => c_6 z9.1)
    replace c_6 := hr_5.1
    replace hr_5 := hr_5.2
    refine lv_aload_n hx hb dX10_seize_8 rfl (lv_at hl 0 rfl) ?_
    refine hk_getr hx hb hts hC_10 hown hW (gx.S hM) tt_10 49 ?o4 rfl kw_1192 ⟨rfl, rfl, rfl⟩ ((hM.o gx trivial rfl).2.trans f_x_49) dX10_seize_9 ?_
    case o4 => decide
    refine lv_iload_n hx hb dX10_seize_12 rfl (lv_at hl 1 rfl) ?_
    refine hx_iald hx hb hW hT (gqsz.S hM) tt_84 rfl ⟨?o5, ?o6⟩ dX10_seize_13 (fun x_7 ex_7 lx_7 ux_7 => ?_)
    case o5 => omega
    case o6 => omega
    have ax_7 : x_7 = szf i1.toNatClampNeg := ex_7.trans (congrFun af_qsz _)
    refine lv_iconst (v := -1) hx hb dX10_seize_14 ?o7 ?_
    case o7 => decide
    refine hb_icmp_ne (zx := x_7.toInt) (zy := (-1)) (tgt := 29) hx hb rfl ?o8 dX10_seize_15 ?o9 (fun c_8 => ?_) (fun c_8 => ?_)
    case o8 => decide
    case o9 => decide
    · skip
      refine lv_ldcw (v := -1000000) hx hb hown (hts _ kw_1569) dX10_seize_29 ?_
      refine hx_reti hx hb hr hlk hW ⟨⟨szf, gdf, af_qsz, af_qgd, (Or.inl ⟨(fun hc => by have h1 := hc.2.1; rw [show szf i1.toInt.toNat = x_7 from ax_7.symm] at h1; omega), ?o10, rfl, rfl⟩)⟩, hT, hM⟩ dX10_seize_32
      case o10 => decide
    · skip
      refine lv_iload_n hx hb dX10_seize_18 rfl (lv_at hl 2 rfl) ?_
      refine lv_iconst (v := 1) hx hb dX10_seize_19 ?o11 ?_
      case o11 => decide
      refine lv_sipush (v := 9999) hx hb dX10_seize_20 ?o12 ?_
      case o12 => decide
      have zc_9999 : (9999 : Int32).toInt = 9999 := ?o13
      case o13 => decide
      have zc_1 : (1 : Int32).toInt = 1 := ?o14
      case o14 => decide
      refine hx_goi (hx_runS (As := [.int i2, .int (1 : Int32), .int (9999 : Int32)]) (rest := []) ⟨hx, hb, hml, hown, hts⟩ hW (t_X10_in l dC dI dA L_1 h_2 H.size i2 (1 : Int32) (9999 : Int32) hT) (va_cwS 3 hts (hx_gS kw_1445 kw_1443 kw_1444 kw_103) rfl rfl rfl (by decide +kernel) ⟨Nat.le_of_ble_eq_true rfl, Nat.le_of_ble_eq_true rfl⟩) rfl hl.1 rfl (Nat.le_of_ble_eq_true rfl) dX10_seize_23 ⟨Nat.le_of_ble_eq_true rfl, Nat.le_of_ble_eq_true rfl⟩) hW (fun r_11 L_9 h_10 H locs p_12 hW => ?_)
      obtain ⟨hr_13, hT, hs⟩ := p_12
      replace hT : hx_T T_tb L_9 h_10 := hT
      replace hs : hx_S T_tb [] L_1 h_2 L_9 h_10 := hs
      replace af_qsz : h_10.2.1 qsz = szf := (funext fun j => (hs.a (gqsz.S hM) rfl j).1).trans af_qsz
      replace af_qgd : h_10.2.1 qgd = gdf := (funext fun j => (hs.a (gqgd.S hM) rfl j).1).trans af_qgd
      replace ex_7 := ex_7.trans (hs.a (gqsz.S hM) rfl _).1.symm
      replace hM := hM.tr (hs.mono ?o15)
      case o15 => decide
      refine hb_if_ne (zx := r_11.toInt) (tgt := 33) hx hb rfl dX10_seize_26 ?o16 (fun c_14 => ?_) (fun c_14 => ?_)
      case o16 => decide
      · skip
        replace hr_13 := hr_13.resolve_left (fun z9 => c_14 z9.1)
        replace c_14 := hr_13.1
        replace hr_13 := hr_13.2
        refine lv_aload_n hx hb dX10_seize_33 rfl (lv_at hl 0 rfl) ?_
        refine lv_iload_n hx hb dX10_seize_34 rfl (lv_at hl 1 rfl) ?_
        refine lv_aload_n hx hb dX10_seize_35 rfl (lv_at hl 0 rfl) ?_
        refine hk_geti hx hb hts hC_10 hown hW (gx.S hM) tt_10 0 ?o17 rfl kw_1143 ⟨rfl, rfl, rfl⟩ ((hM.o gx trivial rfl).1.trans f_x_0) dX10_seize_36 ?_
        case o17 => decide
        refine lv_aload_n hx hb dX10_seize_39 rfl (lv_at hl 0 rfl) ?_
        refine hk_geti hx hb hts hC_10 hown hW (gx.S hM) tt_10 0 ?o18 rfl kw_1143 ⟨rfl, rfl, rfl⟩ ((hM.o gx trivial rfl).1.trans f_x_0) dX10_seize_40 ?_
        case o18 => decide
        have hl_15p := hPL i1.toInt ?o19 ?o20
        case o19 => omega
        case o20 => omega
        obtain ⟨_, hl_152, _⟩ := hCA.2 (plf i1.toInt.toNat).toInt.toNat (by omega)
        refine hx_gov (hx_runV (As := [.int i1, .int nw0, .int nw0]) (rest := []) ⟨hx, hb, hml, hown, hts⟩ hW (gx.S hM) tt_10 (T := TX10) (N := 98) rfl (t_X10_looks_v l dC dI dA L_9 h_10 H.size x i1 nw0 nw0 hT (gx.S hM) qfo (gqfo.S hM) ((hM.o gx trivial rfl).2.trans f_x_46) qhe (gqhe.S hM) ((hM.o gx trivial rfl).2.trans f_x_47) qju (gqju.S hM) ((hM.o gx trivial rfl).2.trans f_x_51) qod (gqod.S hM) ((hM.o gx trivial rfl).2.trans f_x_48) qsv (gqsv.S hM) ((hM.o gx trivial rfl).2.trans f_x_50) qsz (gqsz.S hM) ((hM.o gx trivial rfl).2.trans f_x_49) qgd (gqgd.S hM) ((hM.o gx trivial rfl).2.trans f_x_56) qow (gqow.S hM) ((hM.o gx trivial rfl).2.trans f_x_55) qwk (gqwk.S hM) ((hM.o gx trivial rfl).2.trans f_x_54) qpl (gqpl.S hM) ((hM.o gx trivial rfl).2.trans f_x_44) qru (gqru.S hM) ((hM.o gx trivial rfl).2.trans f_x_3) qpo (gqpo.S hM) ((hM.o gx trivial rfl).2.trans f_x_60) qpd (gqpd.S hM) ((hM.o gx trivial rfl).2.trans f_x_61) qps (gqps.S hM) ((hM.o gx trivial rfl).2.trans f_x_62) qpk (gqpk.S hM) ((hM.o gx trivial rfl).2.trans f_x_63) qpt (gqpt.S hM) ((hM.o gx trivial rfl).2.trans f_x_64) fof (hx_afS hM gqfo rfl af_qfo) hrf (hx_afS hM gqhe rfl af_qhe) udf (hx_afS hM gqju rfl af_qju) odf (hx_afS hM gqod rfl af_qod) svf (hx_afS hM gqsv rfl af_qsv) szf af_qsz gdf af_qgd owf (hx_afS hM gqow rfl af_qow) wkf (hx_afS hM gqwk rfl af_qwk) plf (hx_afS hM gqpl rfl af_qpl) rlf (hx_afS hM gqru rfl af_qru) pof (hx_afS hM gqpo rfl af_qpo) pdf (hx_afS hM gqpd rfl af_qpd) psm (hx_afS hM gqps rfl af_qps) pkf (hx_afS hM gqpk rfl af_qpk) pst (hx_afS hM gqpt rfl af_qpt) n0 ((hM.o gx trivial rfl).1.trans f_x_59) ⟨?o21, ?o22⟩ ⟨?o23, ?o24⟩ (A (plf i1.toInt.toNat).toInt.toNat).2.1 (fun k hk => by rw [← hl_152]; show _ = (if k < 13 then _ else 0); rw [if_pos (by omega)])) (cwV 3 hts (hx_gV kw_1641 kw_1638 kw_1640 kw_82 kw_103) rfl rfl rfl (by decide +kernel) ⟨Nat.le_of_ble_eq_true rfl, Nat.le_of_ble_eq_true rfl⟩) rfl hl.1 rfl (Nat.le_of_ble_eq_true rfl) dX10_seize_43 ⟨Nat.le_of_ble_eq_true rfl, Nat.le_of_ble_eq_true rfl⟩) hW (fun L_16 h_17 H locs p_19 hW => ?_)
        case o21 => omega
        case o22 => omega
        case o23 => omega
        case o24 => omega
        obtain ⟨⟨w_21, w_22, w_23, w_24, w_25, fw_21, fw_22, fw_23, fw_24, fw_25, hr_20⟩, hT, hs⟩ := p_19
        replace hT : hx_T T_tb L_16 h_17 := hT
        replace hs : hx_S T_tb [(10, 67), (10, 68), (10, 69), (10, 70), (10, 71)] L_9 h_10 L_16 h_17 := hs
        replace af_qsz : h_17.2.1 qsz = szf := (funext fun j => (hs.a (gqsz.S hM) rfl j).1).trans af_qsz
        replace af_qgd : h_17.2.1 qgd = gdf := (funext fun j => (hs.a (gqgd.S hM) rfl j).1).trans af_qgd
        replace ex_7 := ex_7.trans (hs.a (gqsz.S hM) rfl _).1.symm
        replace hM := hM.tr (hs.mono ?o25)
        case o25 => decide
        have fw_21 : h_17.2.1 x 67 = w_21 := fw_21
        have bw_21 := hT.gi (gx.S hM) tt_10 (k := 67) rfl
        rw [fw_21] at bw_21
        have bw_21 : 0 ≤ w_21.toInt ∧ w_21.toInt ≤ 366100000 := bw_21
        have fw_22 : h_17.2.1 x 68 = w_22 := fw_22
        have bw_22 := hT.gi (gx.S hM) tt_10 (k := 68) rfl
        rw [fw_22] at bw_22
        have bw_22 : 0 ≤ w_22.toInt ∧ w_22.toInt ≤ 610000 := bw_22
        have fw_23 : h_17.2.1 x 69 = w_23 := fw_23
        have bw_23 := hT.gi (gx.S hM) tt_10 (k := 69) rfl
        rw [fw_23] at bw_23
        have bw_23 : -2147483648 ≤ w_23.toInt ∧ w_23.toInt ≤ 2147483647 := bw_23
        have fw_24 : h_17.2.1 x 70 = w_24 := fw_24
        have bw_24 := hT.gi (gx.S hM) tt_10 (k := 70) rfl
        rw [fw_24] at bw_24
        have bw_24 : -2147483648 ≤ w_24.toInt ∧ w_24.toInt ≤ 2147483647 := bw_24
        have fw_25 : h_17.2.1 x 71 = w_25 := fw_25
        have bw_25 := hT.gi (gx.S hM) tt_10 (k := 71) rfl
        rw [fw_25] at bw_25
        have bw_25 : 0 ≤ w_25.toInt ∧ w_25.toInt ≤ 8 := bw_25
        have hc9 : ((i1.toInt.toNat : Nat) : Int) = i1.toInt := ?o26
        case o26 => omega
        have hst9 : w_25.toInt = (hz_st (fof i1.toInt.toNat).toInt (hrf i1.toInt.toNat).toInt (udf i1.toInt.toNat).toInt (odf i1.toInt.toNat).toInt (svf i1.toInt.toNat).toInt (hz_rs (svf i1.toInt.toNat).toInt (hz_bl (odf i1.toInt.toNat).toInt (szf i1.toInt.toNat).toInt (gdf i1.toInt.toNat).toInt (owf i1.toInt.toNat).toInt ((A (plf i1.toInt.toNat).toInt.toNat).2.1 12) nw0.toInt (hx_ps pof pdf psm pkf pst nw0.toInt nw0.toInt ((i1.toInt.toNat : Nat) : Int) n0.toInt.toNat)) nw0.toInt) (hz_ms (odf i1.toInt.toNat).toInt (svf i1.toInt.toNat).toInt (wkf i1.toInt.toNat).toInt (hz_al (owf i1.toInt.toNat).toInt (szf i1.toInt.toNat).toInt ((A (plf i1.toInt.toNat).toInt.toNat).2.1 12) nw0.toInt) (hz_pdy (odf i1.toInt.toNat).toInt (szf i1.toInt.toNat).toInt (gdf i1.toInt.toNat).toInt nw0.toInt (hx_ps pof pdf psm pkf pst nw0.toInt nw0.toInt ((i1.toInt.toNat : Nat) : Int) n0.toInt.toNat)) nw0.toInt) ((A (plf i1.toInt.toNat).toInt.toNat).2.1 4) ((A (plf i1.toInt.toNat).toInt.toNat).2.1 5) nw0.toInt) := ?o27
        case o27 =>
          rw [hc9]
          exact hr_20.2.2.2.2
        refine lv_aload_n hx hb dX10_seize_46 rfl (lv_at hl 0 rfl) ?_
        refine hk_geti hx hb hts hC_10 hown hW (gx.S hM) tt_10 71 ?o28 rfl kw_1214 ⟨rfl, rfl, rfl⟩ fw_25 dX10_seize_47 ?_
        case o28 => decide
        refine lv_iconst (v := 5) hx hb dX10_seize_50 ?o29 ?_
        case o29 => decide
        refine lv_bipush (v := 6) hx hb dX10_seize_51 ?o30 ?_
        case o30 => decide
        have zc_6 : (6 : Int32).toInt = 6 := ?o31
        case o31 => decide
        have zc_5 : (5 : Int32).toInt = 5 := ?o32
        case o32 => decide
        refine hx_goi (hx_runS (As := [.int w_25, .int (5 : Int32), .int (6 : Int32)]) (rest := []) ⟨hx, hb, hml, hown, hts⟩ hW (t_X10_in l dC dI dA L_16 h_17 H.size w_25 (5 : Int32) (6 : Int32) hT) (va_cwS 3 hts (hx_gS kw_1445 kw_1443 kw_1444 kw_103) rfl rfl rfl (by decide +kernel) ⟨Nat.le_of_ble_eq_true rfl, Nat.le_of_ble_eq_true rfl⟩) rfl hl.1 rfl (Nat.le_of_ble_eq_true rfl) dX10_seize_53 ⟨Nat.le_of_ble_eq_true rfl, Nat.le_of_ble_eq_true rfl⟩) hW (fun r_28 L_26 h_27 H locs p_29 hW => ?_)
        obtain ⟨hr_30, hT, hs⟩ := p_29
        replace hT : hx_T T_tb L_26 h_27 := hT
        replace hs : hx_S T_tb [] L_16 h_17 L_26 h_27 := hs
        replace fw_21 := (hs.o (gx.S hM) trivial rfl).1.trans fw_21
        replace fw_22 := (hs.o (gx.S hM) trivial rfl).1.trans fw_22
        replace fw_23 := (hs.o (gx.S hM) trivial rfl).1.trans fw_23
        replace fw_24 := (hs.o (gx.S hM) trivial rfl).1.trans fw_24
        replace fw_25 := (hs.o (gx.S hM) trivial rfl).1.trans fw_25
        replace af_qsz : h_27.2.1 qsz = szf := (funext fun j => (hs.a (gqsz.S hM) rfl j).1).trans af_qsz
        replace af_qgd : h_27.2.1 qgd = gdf := (funext fun j => (hs.a (gqgd.S hM) rfl j).1).trans af_qgd
        replace ex_7 := ex_7.trans (hs.a (gqsz.S hM) rfl _).1.symm
        replace hM := hM.tr (hs.mono ?o33)
        case o33 => decide
        refine hb_if_ne (zx := r_28.toInt) (tgt := 63) hx hb rfl dX10_seize_56 ?o34 (fun c_31 => ?_) (fun c_31 => ?_)
        case o34 => decide
        · skip
          replace hr_30 := hr_30.resolve_left (fun z9 => c_31 z9.1)
          replace c_31 := hr_30.1
          replace hr_30 := hr_30.2
          refine lv_aload_n hx hb dX10_seize_63 rfl (lv_at hl 0 rfl) ?_
          refine hk_getr hx hb hts hC_10 hown hW (gx.S hM) tt_10 49 ?o35 rfl kw_1192 ⟨rfl, rfl, rfl⟩ ((hM.o gx trivial rfl).2.trans f_x_49) dX10_seize_64 ?_
          case o35 => decide
          refine lv_iload_n hx hb dX10_seize_67 rfl (lv_at hl 1 rfl) ?_
          refine lv_aload_n hx hb dX10_seize_68 rfl (lv_at hl 0 rfl) ?_
          refine hk_geti hx hb hts hC_10 hown hW (gx.S hM) tt_10 0 ?o36 rfl kw_1143 ⟨rfl, rfl, rfl⟩ ((hM.o gx trivial rfl).1.trans f_x_0) dX10_seize_69 ?_
          case o36 => decide
          have af_qszO := af_qsz
          refine hx_iast hx hb hW hT (hx_S.rf (M := [(84, 0)])) (gqsz.S hM) tt_84 rfl ⟨?o37, ?o38⟩ rfl ⟨?o39, ?o40⟩ (List.mem_singleton.mpr rfl) dX10_seize_72 (fun H locs h_32 eh_32 hW hT hs => ?_)
          case o37 => omega
          case o38 => omega
          case o39 => omega
          case o40 => omega
          replace fw_21 := (hs.o (gx.S hM) trivial rfl).1.trans fw_21
          replace fw_22 := (hs.o (gx.S hM) trivial rfl).1.trans fw_22
          replace fw_23 := (hs.o (gx.S hM) trivial rfl).1.trans fw_23
          replace fw_24 := (hs.o (gx.S hM) trivial rfl).1.trans fw_24
          replace fw_25 := (hs.o (gx.S hM) trivial rfl).1.trans fw_25
          replace af_qgd : h_32.2.1 qgd = gdf := (funext fun j => (hs.a (gqgd.S hM) rfl j).1).trans af_qgd
          replace hM := hM.tr (hs.mono ?o41)
          case o41 => decide
          obtain ⟨fa_33, dfa_33⟩ : ∃ g : Nat → Int32, g = hx_up szf i1.toNatClampNeg nw0 := ⟨_, rfl⟩
          have nfa_33 : h_32.2.1 qsz = fa_33 := ?o42
          case o42 =>
            rw [eh_32, dfa_33, ← af_qszO]
            exact hx_pi_fun _ _ _ _
          refine lv_aload_n hx hb dX10_seize_73 rfl (lv_at hl 0 rfl) ?_
          refine hk_getr hx hb hts hC_10 hown hW (gx.S hM) tt_10 56 ?o43 rfl kw_1199 ⟨rfl, rfl, rfl⟩ ((hM.o gx trivial rfl).2.trans f_x_56) dX10_seize_74 ?_
          case o43 => decide
          refine lv_iload_n hx hb dX10_seize_77 rfl (lv_at hl 1 rfl) ?_
          refine lv_iload_n hx hb dX10_seize_78 rfl (lv_at hl 2 rfl) ?_
          have af_qgdO := af_qgd
          refine hx_iast hx hb hW hT (hx_S.rf (M := [(91, 0)])) (gqgd.S hM) tt_91 rfl ⟨?o44, ?o45⟩ rfl ⟨?o46, ?o47⟩ (List.mem_singleton.mpr rfl) dX10_seize_79 (fun H locs h_34 eh_34 hW hT hs => ?_)
          case o44 => omega
          case o45 => omega
          case o46 => omega
          case o47 => omega
          replace fw_21 := (hs.o (gx.S hM) trivial rfl).1.trans fw_21
          replace fw_22 := (hs.o (gx.S hM) trivial rfl).1.trans fw_22
          replace fw_23 := (hs.o (gx.S hM) trivial rfl).1.trans fw_23
          replace fw_24 := (hs.o (gx.S hM) trivial rfl).1.trans fw_24
          replace fw_25 := (hs.o (gx.S hM) trivial rfl).1.trans fw_25
          replace nfa_33 : h_34.2.1 qsz = fa_33 := (funext fun j => (hs.a (gqsz.S hM) rfl j).1).trans nfa_33
          replace hM := hM.tr (hs.mono ?o48)
          case o48 => decide
          obtain ⟨fa_35, dfa_35⟩ : ∃ g : Nat → Int32, g = hx_up gdf i1.toNatClampNeg i2 := ⟨_, rfl⟩
          have nfa_35 : h_34.2.1 qgd = fa_35 := ?o49
          case o49 =>
            rw [eh_34, dfa_35, ← af_qgdO]
            exact hx_pi_fun _ _ _ _
          refine lv_aload_n hx hb dX10_seize_80 rfl (lv_at hl 0 rfl) ?_
          refine lv_iload_n hx hb dX10_seize_81 rfl (lv_at hl 1 rfl) ?_
          refine lv_aload_n hx hb dX10_seize_82 rfl (lv_at hl 0 rfl) ?_
          refine hk_geti hx hb hts hC_10 hown hW (gx.S hM) tt_10 0 ?o50 rfl kw_1143 ⟨rfl, rfl, rfl⟩ ((hM.o gx trivial rfl).1.trans f_x_0) dX10_seize_83 ?_
          case o50 => decide
          refine lv_aload_n hx hb dX10_seize_86 rfl (lv_at hl 0 rfl) ?_
          refine hk_geti hx hb hts hC_10 hown hW (gx.S hM) tt_10 0 ?o51 rfl kw_1143 ⟨rfl, rfl, rfl⟩ ((hM.o gx trivial rfl).1.trans f_x_0) dX10_seize_87 ?_
          case o51 => decide
          have hl_36p := hPL i1.toInt ?o52 ?o53
          case o52 => omega
          case o53 => omega
          obtain ⟨_, hl_362, _⟩ := hCA.2 (plf i1.toInt.toNat).toInt.toNat (by omega)
          refine hx_gov (hx_runV (As := [.int i1, .int nw0, .int nw0]) (rest := []) ⟨hx, hb, hml, hown, hts⟩ hW (gx.S hM) tt_10 (T := TX10) (N := 98) rfl (t_X10_looks_v l dC dI dA L_26 h_34 H.size x i1 nw0 nw0 hT (gx.S hM) qfo (gqfo.S hM) ((hM.o gx trivial rfl).2.trans f_x_46) qhe (gqhe.S hM) ((hM.o gx trivial rfl).2.trans f_x_47) qju (gqju.S hM) ((hM.o gx trivial rfl).2.trans f_x_51) qod (gqod.S hM) ((hM.o gx trivial rfl).2.trans f_x_48) qsv (gqsv.S hM) ((hM.o gx trivial rfl).2.trans f_x_50) qsz (gqsz.S hM) ((hM.o gx trivial rfl).2.trans f_x_49) qgd (gqgd.S hM) ((hM.o gx trivial rfl).2.trans f_x_56) qow (gqow.S hM) ((hM.o gx trivial rfl).2.trans f_x_55) qwk (gqwk.S hM) ((hM.o gx trivial rfl).2.trans f_x_54) qpl (gqpl.S hM) ((hM.o gx trivial rfl).2.trans f_x_44) qru (gqru.S hM) ((hM.o gx trivial rfl).2.trans f_x_3) qpo (gqpo.S hM) ((hM.o gx trivial rfl).2.trans f_x_60) qpd (gqpd.S hM) ((hM.o gx trivial rfl).2.trans f_x_61) qps (gqps.S hM) ((hM.o gx trivial rfl).2.trans f_x_62) qpk (gqpk.S hM) ((hM.o gx trivial rfl).2.trans f_x_63) qpt (gqpt.S hM) ((hM.o gx trivial rfl).2.trans f_x_64) fof (hx_afS hM gqfo rfl af_qfo) hrf (hx_afS hM gqhe rfl af_qhe) udf (hx_afS hM gqju rfl af_qju) odf (hx_afS hM gqod rfl af_qod) svf (hx_afS hM gqsv rfl af_qsv) fa_33 nfa_33 fa_35 nfa_35 owf (hx_afS hM gqow rfl af_qow) wkf (hx_afS hM gqwk rfl af_qwk) plf (hx_afS hM gqpl rfl af_qpl) rlf (hx_afS hM gqru rfl af_qru) pof (hx_afS hM gqpo rfl af_qpo) pdf (hx_afS hM gqpd rfl af_qpd) psm (hx_afS hM gqps rfl af_qps) pkf (hx_afS hM gqpk rfl af_qpk) pst (hx_afS hM gqpt rfl af_qpt) n0 ((hM.o gx trivial rfl).1.trans f_x_59) ⟨?o54, ?o55⟩ ⟨?o56, ?o57⟩ (A (plf i1.toInt.toNat).toInt.toNat).2.1 (fun k hk => by rw [← hl_362]; show _ = (if k < 13 then _ else 0); rw [if_pos (by omega)])) (cwV 3 hts (hx_gV kw_1641 kw_1638 kw_1640 kw_82 kw_103) rfl rfl rfl (by decide +kernel) ⟨Nat.le_of_ble_eq_true rfl, Nat.le_of_ble_eq_true rfl⟩) rfl hl.1 rfl (Nat.le_of_ble_eq_true rfl) dX10_seize_90 ⟨Nat.le_of_ble_eq_true rfl, Nat.le_of_ble_eq_true rfl⟩) hW (fun L_37 h_38 H locs p_40 hW => ?_)
          case o54 => omega
          case o55 => omega
          case o56 => omega
          case o57 => omega
          obtain ⟨⟨w_42, w_43, w_44, w_45, w_46, fw_42, fw_43, fw_44, fw_45, fw_46, hr_41⟩, hT, hs⟩ := p_40
          replace hT : hx_T T_tb L_37 h_38 := hT
          replace hs : hx_S T_tb [(10, 67), (10, 68), (10, 69), (10, 70), (10, 71)] L_26 h_34 L_37 h_38 := hs
          replace nfa_33 : h_38.2.1 qsz = fa_33 := (funext fun j => (hs.a (gqsz.S hM) rfl j).1).trans nfa_33
          replace nfa_35 : h_38.2.1 qgd = fa_35 := (funext fun j => (hs.a (gqgd.S hM) rfl j).1).trans nfa_35
          replace hM := hM.tr (hs.mono ?o58)
          case o58 => decide
          have fw_42 : h_38.2.1 x 67 = w_42 := fw_42
          have bw_42 := hT.gi (gx.S hM) tt_10 (k := 67) rfl
          rw [fw_42] at bw_42
          have bw_42 : 0 ≤ w_42.toInt ∧ w_42.toInt ≤ 366100000 := bw_42
          have fw_43 : h_38.2.1 x 68 = w_43 := fw_43
          have bw_43 := hT.gi (gx.S hM) tt_10 (k := 68) rfl
          rw [fw_43] at bw_43
          have bw_43 : 0 ≤ w_43.toInt ∧ w_43.toInt ≤ 610000 := bw_43
          have fw_44 : h_38.2.1 x 69 = w_44 := fw_44
          have bw_44 := hT.gi (gx.S hM) tt_10 (k := 69) rfl
          rw [fw_44] at bw_44
          have bw_44 : -2147483648 ≤ w_44.toInt ∧ w_44.toInt ≤ 2147483647 := bw_44
          have fw_45 : h_38.2.1 x 70 = w_45 := fw_45
          have bw_45 := hT.gi (gx.S hM) tt_10 (k := 70) rfl
          rw [fw_45] at bw_45
          have bw_45 : -2147483648 ≤ w_45.toInt ∧ w_45.toInt ≤ 2147483647 := bw_45
          have fw_46 : h_38.2.1 x 71 = w_46 := fw_46
          have bw_46 := hT.gi (gx.S hM) tt_10 (k := 71) rfl
          rw [fw_46] at bw_46
          have bw_46 : 0 ≤ w_46.toInt ∧ w_46.toInt ≤ 8 := bw_46
          have hzz9 : fa_33 i1.toInt.toNat = nw0 := ?o59
          case o59 =>
            rw [dfa_33]
            exact hx_up_at
          have hgg9 : fa_35 i1.toInt.toNat = i2 := ?o60
          case o60 =>
            rw [dfa_35]
            exact hx_up_at
          obtain ⟨hp9, hr9, ho9, _, _⟩ := hr_41; rw [hzz9, hgg9] at hr9 ho9
          have hso9 := hz_st_or (show (hz_st (fof i1.toInt.toNat).toInt (hrf i1.toInt.toNat).toInt (udf i1.toInt.toNat).toInt (odf i1.toInt.toNat).toInt (svf i1.toInt.toNat).toInt (hz_rs (svf i1.toInt.toNat).toInt (hz_bl (odf i1.toInt.toNat).toInt (szf i1.toInt.toNat).toInt (gdf i1.toInt.toNat).toInt (owf i1.toInt.toNat).toInt ((A (plf i1.toInt.toNat).toInt.toNat).2.1 12) nw0.toInt (hx_ps pof pdf psm pkf pst nw0.toInt nw0.toInt ((i1.toInt.toNat : Nat) : Int) n0.toInt.toNat)) nw0.toInt) (hz_ms (odf i1.toInt.toNat).toInt (svf i1.toInt.toNat).toInt (wkf i1.toInt.toNat).toInt (hz_al (owf i1.toInt.toNat).toInt (szf i1.toInt.toNat).toInt ((A (plf i1.toInt.toNat).toInt.toNat).2.1 12) nw0.toInt) (hz_pdy (odf i1.toInt.toNat).toInt (szf i1.toInt.toNat).toInt (gdf i1.toInt.toNat).toInt nw0.toInt (hx_ps pof pdf psm pkf pst nw0.toInt nw0.toInt ((i1.toInt.toNat : Nat) : Int) n0.toInt.toNat)) nw0.toInt) ((A (plf i1.toInt.toNat).toInt.toNat).2.1 4) ((A (plf i1.toInt.toNat).toInt.toNat).2.1 5) nw0.toInt) = 5 ∨ (hz_st (fof i1.toInt.toNat).toInt (hrf i1.toInt.toNat).toInt (udf i1.toInt.toNat).toInt (odf i1.toInt.toNat).toInt (svf i1.toInt.toNat).toInt (hz_rs (svf i1.toInt.toNat).toInt (hz_bl (odf i1.toInt.toNat).toInt (szf i1.toInt.toNat).toInt (gdf i1.toInt.toNat).toInt (owf i1.toInt.toNat).toInt ((A (plf i1.toInt.toNat).toInt.toNat).2.1 12) nw0.toInt (hx_ps pof pdf psm pkf pst nw0.toInt nw0.toInt ((i1.toInt.toNat : Nat) : Int) n0.toInt.toNat)) nw0.toInt) (hz_ms (odf i1.toInt.toNat).toInt (svf i1.toInt.toNat).toInt (wkf i1.toInt.toNat).toInt (hz_al (owf i1.toInt.toNat).toInt (szf i1.toInt.toNat).toInt ((A (plf i1.toInt.toNat).toInt.toNat).2.1 12) nw0.toInt) (hz_pdy (odf i1.toInt.toNat).toInt (szf i1.toInt.toNat).toInt (gdf i1.toInt.toNat).toInt nw0.toInt (hx_ps pof pdf psm pkf pst nw0.toInt nw0.toInt ((i1.toInt.toNat : Nat) : Int) n0.toInt.toNat)) nw0.toInt) ((A (plf i1.toInt.toNat).toInt.toNat).2.1 4) ((A (plf i1.toInt.toNat).toInt.toNat).2.1 5) nw0.toInt) = 6 by rw [← hst9]; omega)
          have hnb9 : w_43.toInt - w_44.toInt = (hz_bl (odf i1.toInt.toNat).toInt nw0.toInt i2.toInt (owf i1.toInt.toNat).toInt ((A (plf i1.toInt.toNat).toInt.toNat).2.1 12) nw0.toInt (hx_ps pof pdf psm pkf pst nw0.toInt nw0.toInt ((i1.toInt.toNat : Nat) : Int) n0.toInt.toNat)) ∧ (0 < w_44.toInt → w_43.toInt = 0) ∧ 0 ≤ w_44.toInt := by rw [hr9, ho9, hc9]; unfold hz_rs hz_ov; (repeat' split) <;> omega
          refine lv_aload_n hx hb dX10_seize_93 rfl (lv_at hl 0 rfl) ?_
          refine hk_geti hx hb hts hC_10 hown hW (gx.S hM) tt_10 69 ?o61 rfl kw_1212 ⟨rfl, rfl, rfl⟩ fw_44 dX10_seize_94 ?_
          case o61 => decide
          refine hb_if_le (zx := w_44.toInt) (tgt := 108) hx hb rfl dX10_seize_97 ?o62 (fun c_47 => ?_) (fun c_47 => ?_)
          case o62 => decide
          · skip
            refine lv_aload_n hx hb dX10_seize_108 rfl (lv_at hl 0 rfl) ?_
            refine hk_geti hx hb hts hC_10 hown hW (gx.S hM) tt_10 68 ?o63 rfl kw_1211 ⟨rfl, rfl, rfl⟩ fw_43 dX10_seize_109 ?_
            case o63 => decide
            refine hx_reti hx hb hr hlk hW ⟨⟨fa_33, fa_35, nfa_33, nfa_35, (Or.inr ⟨⟨⟨?o64, ?o65⟩, (by rw [show szf i1.toInt.toNat = x_7 from ax_7.symm]; omega), ?o66, (by rw [← hst9]; omega)⟩, ?o67, dfa_33, dfa_35⟩)⟩, hT, hM⟩ dX10_seize_112
            case o64 => omega
            case o65 => omega
            case o66 => omega
            case o67 => omega
          · skip
            refine lv_aload_n hx hb dX10_seize_100 rfl (lv_at hl 0 rfl) ?_
            refine hk_geti hx hb hts hC_10 hown hW (gx.S hM) tt_10 69 ?o68 rfl kw_1212 ⟨rfl, rfl, rfl⟩ fw_44 dX10_seize_101 ?_
            case o68 => decide
            refine lv_ineg hx hb dX10_seize_104 ?_
            refine lv_topi (fun x_48 ex_48 => ?_)
            have zn9 := hz_neg ex_48 ?o69
            case o69 => omega
            refine lv_goto (tgt := 112) hx hb dX10_seize_105 ?o70 ?_
            case o70 => decide
            refine hx_reti hx hb hr hlk hW ⟨⟨fa_33, fa_35, nfa_33, nfa_35, (Or.inr ⟨⟨⟨?o71, ?o72⟩, (by rw [show szf i1.toInt.toNat = x_7 from ax_7.symm]; omega), ?o73, (by rw [← hst9]; omega)⟩, ?o74, dfa_33, dfa_35⟩)⟩, hT, hM⟩ dX10_seize_112
            case o71 => omega
            case o72 => omega
            case o73 => omega
            case o74 => omega
        · skip
          replace hr_30 := hr_30.resolve_right (fun z9 => absurd (c_31.symm.trans z9.1) ?o75)
          case o75 => decide
          replace hr_30 := hr_30.2
          refine lv_ldcw (v := -1000000) hx hb hown (hts _ kw_1569) dX10_seize_59 ?_
          refine hx_reti hx hb hr hlk hW ⟨⟨szf, gdf, af_qsz, af_qgd, (Or.inl ⟨(fun hc => by have h1 := hc.2.2.2; rw [← hst9] at h1; omega), ?o76, rfl, rfl⟩)⟩, hT, hM⟩ dX10_seize_62
          case o76 => decide
      · skip
        replace hr_13 := hr_13.resolve_right (fun z9 => absurd (c_14.symm.trans z9.1) ?o77)
        case o77 => decide
        replace hr_13 := hr_13.2
        refine lv_ldcw (v := -1000000) hx hb hown (hts _ kw_1569) dX10_seize_29 ?_
        refine hx_reti hx hb hr hlk hW ⟨⟨szf, gdf, af_qsz, af_qgd, (Or.inl ⟨(fun hc => by have h1 := hc.2.2.1; omega), ?o78, rfl, rfl⟩)⟩, hT, hM⟩ dX10_seize_32
        case o78 => decide


set_option maxHeartbeats 4000000 in
set_option maxRecDepth 100000 in
theorem t_X10_gaol_v (l : Launch) (dC : Nat → ClassId) (dI : Nat → Nat → Nat) (dA : Nat → ClassId) (L : List Nat) (h : hx_h) (sz : Nat) (x : Nat) (i1 : Int32) (hT : hx_T T_tb L h) (gx : hx_g L h x 10) (qfo : Nat) (gqfo : hx_g L h qfo 81) (f_x_46 : h.2.2 x 46 = some qfo) (qhe : Nat) (gqhe : hx_g L h qhe 82) (f_x_47 : h.2.2 x 47 = some qhe) (qju : Nat) (gqju : hx_g L h qju 86) (f_x_51 : h.2.2 x 51 = some qju) (qod : Nat) (gqod : hx_g L h qod 83) (f_x_48 : h.2.2 x 48 = some qod) (qsv : Nat) (gqsv : hx_g L h qsv 85) (f_x_50 : h.2.2 x 50 = some qsv) (qsz : Nat) (gqsz : hx_g L h qsz 84) (f_x_49 : h.2.2 x 49 = some qsz) (qgd : Nat) (gqgd : hx_g L h qgd 91) (f_x_56 : h.2.2 x 56 = some qgd) (qow : Nat) (gqow : hx_g L h qow 90) (f_x_55 : h.2.2 x 55 = some qow) (qwk : Nat) (gqwk : hx_g L h qwk 89) (f_x_54 : h.2.2 x 54 = some qwk) (qpl : Nat) (gqpl : hx_g L h qpl 79) (f_x_44 : h.2.2 x 44 = some qpl) (qru : Nat) (gqru : hx_g L h qru 50) (f_x_3 : h.2.2 x 3 = some qru) (qpo : Nat) (gqpo : hx_g L h qpo 93) (f_x_60 : h.2.2 x 60 = some qpo) (qpd : Nat) (gqpd : hx_g L h qpd 94) (f_x_61 : h.2.2 x 61 = some qpd) (qps : Nat) (gqps : hx_g L h qps 95) (f_x_62 : h.2.2 x 62 = some qps) (qpk : Nat) (gqpk : hx_g L h qpk 96) (f_x_63 : h.2.2 x 63 = some qpk) (qpt : Nat) (gqpt : hx_g L h qpt 97) (f_x_64 : h.2.2 x 64 = some qpt) (qdd : Nat) (gqdd : hx_g L h qdd 64) (f_x_27 : h.2.2 x 27 = some qdd) (qag : Nat) (gqag : hx_g L h qag 73) (f_x_38 : h.2.2 x 38 = some qag) (fof : Nat → Int32) (af_qfo : h.2.1 qfo = fof) (hrf : Nat → Int32) (af_qhe : h.2.1 qhe = hrf) (udf : Nat → Int32) (af_qju : h.2.1 qju = udf) (odf : Nat → Int32) (af_qod : h.2.1 qod = odf) (svf : Nat → Int32) (af_qsv : h.2.1 qsv = svf) (szf : Nat → Int32) (af_qsz : h.2.1 qsz = szf) (gdf : Nat → Int32) (af_qgd : h.2.1 qgd = gdf) (owf : Nat → Int32) (af_qow : h.2.1 qow = owf) (wkf : Nat → Int32) (af_qwk : h.2.1 qwk = wkf) (plf : Nat → Int32) (af_qpl : h.2.1 qpl = plf) (rlf : Nat → Int32) (af_qru : h.2.1 qru = rlf) (pof : Nat → Int32) (af_qpo : h.2.1 qpo = pof) (pdf : Nat → Int32) (af_qpd : h.2.1 qpd = pdf) (psm : Nat → Int32) (af_qps : h.2.1 qps = psm) (pkf : Nat → Int32) (af_qpk : h.2.1 qpk = pkf) (pst : Nat → Int32) (af_qpt : h.2.1 qpt = pst) (ddf : Nat → Int32) (af_qdd : h.2.1 qdd = ddf) (agf : Nat → Int32) (af_qag : h.2.1 qag = agf) (c0 : Int32) (f_x_36 : h.2.1 x 36 = c0) (a0 : Int32) (f_x_1 : h.2.1 x 1 = a0) (nw0 : Int32) (f_x_0 : h.2.1 x 0 = nw0) (n0 : Int32) (f_x_59 : h.2.1 x 59 = n0) (adf psf prf : Nat → Int32) (A : Nat → hv_act) (hCA : hv_CA adf rlf psf prf a0.toInt A) (hPL : hx_PL plf c0.toInt a0.toInt) : Met l yX10_gaol (Cond.code yX10_gaol cX10_gaol 3 (some .int) :: hx_all) ({ frames := 2, cells := 0, slots := 0, locals := 50 }) (va_Pc [.ref x, .int i1] (hx_B T_tb (P_ty dA) (dC, dI) vwCl L h sz)) (va_Qi (fun (r : Int32) (u : List Nat × hx_h) => (∃ (svf1 : Nat → Int32), u.2.2.1 qsv = svf1 ∧ (hz_GS (hz_GC c0.toInt i1.toInt (szf i1.toInt.toNat).toInt (ddf (agf i1.toInt.toNat).toInt.toNat).toInt (hz_st (fof i1.toInt.toNat).toInt (hrf i1.toInt.toNat).toInt (udf i1.toInt.toNat).toInt (odf i1.toInt.toNat).toInt (svf i1.toInt.toNat).toInt (hz_rs (svf i1.toInt.toNat).toInt (hz_bl (odf i1.toInt.toNat).toInt (szf i1.toInt.toNat).toInt (gdf i1.toInt.toNat).toInt (owf i1.toInt.toNat).toInt ((A (plf i1.toInt.toNat).toInt.toNat).2.1 12) nw0.toInt (hx_ps pof pdf psm pkf pst nw0.toInt nw0.toInt ((i1.toInt.toNat : Nat) : Int) n0.toInt.toNat)) nw0.toInt) (hz_ms (odf i1.toInt.toNat).toInt (svf i1.toInt.toNat).toInt (wkf i1.toInt.toNat).toInt (hz_al (owf i1.toInt.toNat).toInt (szf i1.toInt.toNat).toInt ((A (plf i1.toInt.toNat).toInt.toNat).2.1 12) nw0.toInt) (hz_pdy (odf i1.toInt.toNat).toInt (szf i1.toInt.toNat).toInt (gdf i1.toInt.toNat).toInt nw0.toInt (hx_ps pof pdf psm pkf pst nw0.toInt nw0.toInt ((i1.toInt.toNat : Nat) : Int) n0.toInt.toNat)) nw0.toInt) ((A (plf i1.toInt.toNat).toInt.toNat).2.1 4) ((A (plf i1.toInt.toNat).toInt.toNat).2.1 5) nw0.toInt)) i1.toInt.toNat nw0 r (hz_mi (hz_ru (hz_rs (svf i1.toInt.toNat).toInt (hz_bl (odf i1.toInt.toNat).toInt (szf i1.toInt.toNat).toInt (gdf i1.toInt.toNat).toInt (owf i1.toInt.toNat).toInt ((A (plf i1.toInt.toNat).toInt.toNat).2.1 12) nw0.toInt (hx_ps pof pdf psm pkf pst nw0.toInt nw0.toInt ((i1.toInt.toNat : Nat) : Int) n0.toInt.toNat)) nw0.toInt) 12 * (A (plf i1.toInt.toNat).toInt.toNat).2.1 6) ((A (plf i1.toInt.toNat).toInt.toNat).2.1 7)) svf svf1)) ∧ hx_T T_tb u.1 u.2 ∧ hx_S T_tb [(10, 67), (10, 68), (10, 69), (10, 70), (10, 71), (85, 0)] L h u.1 u.2) (hx_E T_tb (P_ty dA) (dC, dI) vwCl (hx_A L sz)) (hx_A L sz)) 0 0 (hx_A L sz) := by
  refine hx_met (lv := [(0, .ref x), (1, .int i1)]) (by decide +kernel) rfl (Nat.le_of_ble_eq_true rfl) rfl ?_
  intro p e s m below meth c hx hb hml hr hlk hts0 hown hin hsz hW ls hl
  have hts : ∀ w ∈ hx_all, w.before _ s = true := fun w hw => hts0 w (List.mem_cons_of_mem _ hw)
  have hown : s.vm.findClass "SmallCourtModel" = some m.cls := hown
  have hM : hx_S T_tb [(10, 67), (10, 68), (10, 69), (10, 70), (10, 71), (85, 0)] L h L h := hx_S.rf
  have b_c0 := hT.gi gx tt_10 (k := 36) rfl
  rw [f_x_36] at b_c0
  have b_c0 : 0 ≤ c0.toInt ∧ c0.toInt ≤ 100 := b_c0
  have b_a0 := hT.gi gx tt_10 (k := 1) rfl
  rw [f_x_1] at b_a0
  have b_a0 : 0 ≤ a0.toInt ∧ a0.toInt ≤ 8 := b_a0
  have b_nw0 := hT.gi gx tt_10 (k := 0) rfl
  rw [f_x_0] at b_nw0
  have b_nw0 : 0 ≤ nw0.toInt ∧ nw0.toInt ≤ 7999 := b_nw0
  have b_n0 := hT.gi gx tt_10 (k := 59) rfl
  rw [f_x_59] at b_n0
  have b_n0 : 0 ≤ n0.toInt ∧ n0.toInt ≤ 600 := b_n0
  refine lv_aload_n hx hb dX10_gaol_0 rfl (lv_at hl 0 rfl) ?_
  refine lv_iload_n hx hb dX10_gaol_1 rfl (lv_at hl 1 rfl) ?_
  refine hx_goi (hx_runV (As := [.int i1]) (rest := []) ⟨hx, hb, hml, hown, hts⟩ hW (gx.S hM) tt_10 (T := TX10) (N := 98) rfl (t_X10_isClaim l dC dI dA L h s.heap.size x i1 hT (gx.S hM) c0 ((hM.o gx trivial rfl).1.trans f_x_36)) (cwV 1 hts (hx_gV kw_1597 kw_1594 kw_1596 kw_73 kw_103) rfl rfl rfl (by decide +kernel) ⟨Nat.le_of_ble_eq_true rfl, Nat.le_of_ble_eq_true rfl⟩) rfl hl.1 rfl (Nat.le_of_ble_eq_true rfl) dX10_gaol_2 ⟨Nat.le_of_ble_eq_true rfl, Nat.le_of_ble_eq_true rfl⟩) hW (fun r_3 L_1 h_2 H locs p_4 hW => ?_)
  obtain ⟨hr_5, hT, hs⟩ := p_4
  replace hT : hx_T T_tb L_1 h_2 := hT
  replace hs : hx_S T_tb [] L h L_1 h_2 := hs
  replace af_qsv : h_2.2.1 qsv = svf := (funext fun j => (hs.a (gqsv.S hM) rfl j).1).trans af_qsv
  replace hM := hM.tr (hs.mono ?o0)
  case o0 => decide
  refine hb_if_eq (zx := r_3.toInt) (tgt := 32) hx hb rfl dX10_gaol_5 ?o1 (fun c_6 => ?_) (fun c_6 => ?_)
  case o1 => decide
  · skip
    replace hr_5 := hr_5.resolve_right (fun z9 => absurd (c_6.symm.trans z9.1) ?o2)
    case o2 => decide
    replace hr_5 := hr_5.2
    refine lv_iconst (v := -1) hx hb dX10_gaol_32 ?o3 ?_
    case o3 => decide
    refine hx_reti hx hb hr hlk hW ⟨⟨svf, af_qsv, (Or.inl ⟨(fun hc => by have h1 := hc.1; omega), ?o4, rfl⟩)⟩, hT, hM⟩ dX10_gaol_33
    case o4 => decide
  · skip
    replace hr_5 := hr_5.resolve_left (fun z9 => c_6 z9.1)
    replace c_6 := hr_5.1
    replace hr_5 := hr_5.2
    refine lv_aload_n hx hb dX10_gaol_8 rfl (lv_at hl 0 rfl) ?_
    refine hk_getr hx hb hts hC_10 hown hW (gx.S hM) tt_10 49 ?o5 rfl kw_1192 ⟨rfl, rfl, rfl⟩ ((hM.o gx trivial rfl).2.trans f_x_49) dX10_gaol_9 ?_
    case o5 => decide
    refine lv_iload_n hx hb dX10_gaol_12 rfl (lv_at hl 1 rfl) ?_
    refine hx_iald hx hb hW hT (gqsz.S hM) tt_84 rfl ⟨?o6, ?o7⟩ dX10_gaol_13 (fun x_7 ex_7 lx_7 ux_7 => ?_)
    case o6 => omega
    case o7 => omega
    have ax_7 : x_7 = szf i1.toNatClampNeg := ex_7.trans (congrFun (hx_afS hM gqsz rfl af_qsz) _)
    refine lv_iconst (v := -1) hx hb dX10_gaol_14 ?o8 ?_
    case o8 => decide
    refine hb_icmp_eq (zx := x_7.toInt) (zy := (-1)) (tgt := 32) hx hb rfl ?o9 dX10_gaol_15 ?o10 (fun c_8 => ?_) (fun c_8 => ?_)
    case o9 => decide
    case o10 => decide
    · skip
      refine lv_iconst (v := -1) hx hb dX10_gaol_32 ?o11 ?_
      case o11 => decide
      refine hx_reti hx hb hr hlk hW ⟨⟨svf, af_qsv, (Or.inl ⟨(fun hc => by have h1 := hc.2.1; rw [show szf i1.toInt.toNat = x_7 from ax_7.symm] at h1; omega), ?o12, rfl⟩)⟩, hT, hM⟩ dX10_gaol_33
      case o12 => decide
    · skip
      refine lv_aload_n hx hb dX10_gaol_18 rfl (lv_at hl 0 rfl) ?_
      refine hk_getr hx hb hts hC_10 hown hW (gx.S hM) tt_10 27 ?o13 rfl kw_1170 ⟨rfl, rfl, rfl⟩ ((hM.o gx trivial rfl).2.trans f_x_27) dX10_gaol_19 ?_
      case o13 => decide
      refine lv_aload_n hx hb dX10_gaol_22 rfl (lv_at hl 0 rfl) ?_
      refine hk_getr hx hb hts hC_10 hown hW (gx.S hM) tt_10 38 ?o14 rfl kw_1181 ⟨rfl, rfl, rfl⟩ ((hM.o gx trivial rfl).2.trans f_x_38) dX10_gaol_23 ?_
      case o14 => decide
      refine lv_iload_n hx hb dX10_gaol_26 rfl (lv_at hl 1 rfl) ?_
      refine hx_iald hx hb hW hT (gqag.S hM) tt_73 rfl ⟨?o15, ?o16⟩ dX10_gaol_27 (fun x_9 ex_9 lx_9 ux_9 => ?_)
      case o15 => omega
      case o16 => omega
      have ax_9 : x_9 = agf i1.toNatClampNeg := ex_9.trans (congrFun (hx_afS hM gqag rfl af_qag) _)
      refine hx_zald hx hb hW hT (gqdd.S hM) tt_64 rfl ⟨?o17, ?o18⟩ dX10_gaol_28 (fun x_10 ex_10 lx_10 ux_10 => ?_)
      case o17 => omega
      case o18 => omega
      have ax_10 : x_10 = ddf x_9.toNatClampNeg := ex_10.trans (congrFun (hx_afS hM gqdd rfl af_qdd) _)
      have cdd9 : x_10 = ddf (agf i1.toInt.toNat).toInt.toNat := ?o19
      case o19 =>
        rw [ax_10, ax_9]
        rfl
      refine hb_if_eq (zx := x_10.toInt) (tgt := 34) hx hb rfl dX10_gaol_29 ?o20 (fun c_11 => ?_) (fun c_11 => ?_)
      case o20 => decide
      · skip
        refine lv_aload_n hx hb dX10_gaol_34 rfl (lv_at hl 0 rfl) ?_
        refine lv_iload_n hx hb dX10_gaol_35 rfl (lv_at hl 1 rfl) ?_
        refine lv_aload_n hx hb dX10_gaol_36 rfl (lv_at hl 0 rfl) ?_
        refine hk_geti hx hb hts hC_10 hown hW (gx.S hM) tt_10 0 ?o21 rfl kw_1143 ⟨rfl, rfl, rfl⟩ ((hM.o gx trivial rfl).1.trans f_x_0) dX10_gaol_37 ?_
        case o21 => decide
        refine lv_aload_n hx hb dX10_gaol_40 rfl (lv_at hl 0 rfl) ?_
        refine hk_geti hx hb hts hC_10 hown hW (gx.S hM) tt_10 0 ?o22 rfl kw_1143 ⟨rfl, rfl, rfl⟩ ((hM.o gx trivial rfl).1.trans f_x_0) dX10_gaol_41 ?_
        case o22 => decide
        have hl_12p := hPL i1.toInt ?o23 ?o24
        case o23 => omega
        case o24 => omega
        obtain ⟨_, hl_122, _⟩ := hCA.2 (plf i1.toInt.toNat).toInt.toNat (by omega)
        refine hx_gov (hx_runV (As := [.int i1, .int nw0, .int nw0]) (rest := []) ⟨hx, hb, hml, hown, hts⟩ hW (gx.S hM) tt_10 (T := TX10) (N := 98) rfl (t_X10_looks_v l dC dI dA L_1 h_2 H.size x i1 nw0 nw0 hT (gx.S hM) qfo (gqfo.S hM) ((hM.o gx trivial rfl).2.trans f_x_46) qhe (gqhe.S hM) ((hM.o gx trivial rfl).2.trans f_x_47) qju (gqju.S hM) ((hM.o gx trivial rfl).2.trans f_x_51) qod (gqod.S hM) ((hM.o gx trivial rfl).2.trans f_x_48) qsv (gqsv.S hM) ((hM.o gx trivial rfl).2.trans f_x_50) qsz (gqsz.S hM) ((hM.o gx trivial rfl).2.trans f_x_49) qgd (gqgd.S hM) ((hM.o gx trivial rfl).2.trans f_x_56) qow (gqow.S hM) ((hM.o gx trivial rfl).2.trans f_x_55) qwk (gqwk.S hM) ((hM.o gx trivial rfl).2.trans f_x_54) qpl (gqpl.S hM) ((hM.o gx trivial rfl).2.trans f_x_44) qru (gqru.S hM) ((hM.o gx trivial rfl).2.trans f_x_3) qpo (gqpo.S hM) ((hM.o gx trivial rfl).2.trans f_x_60) qpd (gqpd.S hM) ((hM.o gx trivial rfl).2.trans f_x_61) qps (gqps.S hM) ((hM.o gx trivial rfl).2.trans f_x_62) qpk (gqpk.S hM) ((hM.o gx trivial rfl).2.trans f_x_63) qpt (gqpt.S hM) ((hM.o gx trivial rfl).2.trans f_x_64) fof (hx_afS hM gqfo rfl af_qfo) hrf (hx_afS hM gqhe rfl af_qhe) udf (hx_afS hM gqju rfl af_qju) odf (hx_afS hM gqod rfl af_qod) svf af_qsv szf (hx_afS hM gqsz rfl af_qsz) gdf (hx_afS hM gqgd rfl af_qgd) owf (hx_afS hM gqow rfl af_qow) wkf (hx_afS hM gqwk rfl af_qwk) plf (hx_afS hM gqpl rfl af_qpl) rlf (hx_afS hM gqru rfl af_qru) pof (hx_afS hM gqpo rfl af_qpo) pdf (hx_afS hM gqpd rfl af_qpd) psm (hx_afS hM gqps rfl af_qps) pkf (hx_afS hM gqpk rfl af_qpk) pst (hx_afS hM gqpt rfl af_qpt) n0 ((hM.o gx trivial rfl).1.trans f_x_59) ⟨?o25, ?o26⟩ ⟨?o27, ?o28⟩ (A (plf i1.toInt.toNat).toInt.toNat).2.1 (fun k hk => by rw [← hl_122]; show _ = (if k < 13 then _ else 0); rw [if_pos (by omega)])) (cwV 3 hts (hx_gV kw_1641 kw_1638 kw_1640 kw_82 kw_103) rfl rfl rfl (by decide +kernel) ⟨Nat.le_of_ble_eq_true rfl, Nat.le_of_ble_eq_true rfl⟩) rfl hl.1 rfl (Nat.le_of_ble_eq_true rfl) dX10_gaol_44 ⟨Nat.le_of_ble_eq_true rfl, Nat.le_of_ble_eq_true rfl⟩) hW (fun L_13 h_14 H locs p_16 hW => ?_)
        case o25 => omega
        case o26 => omega
        case o27 => omega
        case o28 => omega
        obtain ⟨⟨w_18, w_19, w_20, w_21, w_22, fw_18, fw_19, fw_20, fw_21, fw_22, hr_17⟩, hT, hs⟩ := p_16
        replace hT : hx_T T_tb L_13 h_14 := hT
        replace hs : hx_S T_tb [(10, 67), (10, 68), (10, 69), (10, 70), (10, 71)] L_1 h_2 L_13 h_14 := hs
        replace af_qsv : h_14.2.1 qsv = svf := (funext fun j => (hs.a (gqsv.S hM) rfl j).1).trans af_qsv
        replace ex_7 := ex_7.trans (hs.a (gqsz.S hM) rfl _).1.symm
        replace ex_9 := ex_9.trans (hs.a (gqag.S hM) rfl _).1.symm
        replace ex_10 := ex_10.trans (hs.a (gqdd.S hM) rfl _).1.symm
        replace hM := hM.tr (hs.mono ?o29)
        case o29 => decide
        have fw_18 : h_14.2.1 x 67 = w_18 := fw_18
        have bw_18 := hT.gi (gx.S hM) tt_10 (k := 67) rfl
        rw [fw_18] at bw_18
        have bw_18 : 0 ≤ w_18.toInt ∧ w_18.toInt ≤ 366100000 := bw_18
        have fw_19 : h_14.2.1 x 68 = w_19 := fw_19
        have bw_19 := hT.gi (gx.S hM) tt_10 (k := 68) rfl
        rw [fw_19] at bw_19
        have bw_19 : 0 ≤ w_19.toInt ∧ w_19.toInt ≤ 610000 := bw_19
        have fw_20 : h_14.2.1 x 69 = w_20 := fw_20
        have bw_20 := hT.gi (gx.S hM) tt_10 (k := 69) rfl
        rw [fw_20] at bw_20
        have bw_20 : -2147483648 ≤ w_20.toInt ∧ w_20.toInt ≤ 2147483647 := bw_20
        have fw_21 : h_14.2.1 x 70 = w_21 := fw_21
        have bw_21 := hT.gi (gx.S hM) tt_10 (k := 70) rfl
        rw [fw_21] at bw_21
        have bw_21 : -2147483648 ≤ w_21.toInt ∧ w_21.toInt ≤ 2147483647 := bw_21
        have fw_22 : h_14.2.1 x 71 = w_22 := fw_22
        have bw_22 := hT.gi (gx.S hM) tt_10 (k := 71) rfl
        rw [fw_22] at bw_22
        have bw_22 : 0 ≤ w_22.toInt ∧ w_22.toInt ≤ 8 := bw_22
        have hc9 : ((i1.toInt.toNat : Nat) : Int) = i1.toInt := ?o30
        case o30 => omega
        have hst9 : w_22.toInt = (hz_st (fof i1.toInt.toNat).toInt (hrf i1.toInt.toNat).toInt (udf i1.toInt.toNat).toInt (odf i1.toInt.toNat).toInt (svf i1.toInt.toNat).toInt (hz_rs (svf i1.toInt.toNat).toInt (hz_bl (odf i1.toInt.toNat).toInt (szf i1.toInt.toNat).toInt (gdf i1.toInt.toNat).toInt (owf i1.toInt.toNat).toInt ((A (plf i1.toInt.toNat).toInt.toNat).2.1 12) nw0.toInt (hx_ps pof pdf psm pkf pst nw0.toInt nw0.toInt ((i1.toInt.toNat : Nat) : Int) n0.toInt.toNat)) nw0.toInt) (hz_ms (odf i1.toInt.toNat).toInt (svf i1.toInt.toNat).toInt (wkf i1.toInt.toNat).toInt (hz_al (owf i1.toInt.toNat).toInt (szf i1.toInt.toNat).toInt ((A (plf i1.toInt.toNat).toInt.toNat).2.1 12) nw0.toInt) (hz_pdy (odf i1.toInt.toNat).toInt (szf i1.toInt.toNat).toInt (gdf i1.toInt.toNat).toInt nw0.toInt (hx_ps pof pdf psm pkf pst nw0.toInt nw0.toInt ((i1.toInt.toNat : Nat) : Int) n0.toInt.toNat)) nw0.toInt) ((A (plf i1.toInt.toNat).toInt.toNat).2.1 4) ((A (plf i1.toInt.toNat).toInt.toNat).2.1 5) nw0.toInt) := ?o31
        case o31 =>
          rw [hc9]
          exact hr_17.2.2.2.2
        have hrs9 : w_19.toInt = (hz_rs (svf i1.toInt.toNat).toInt (hz_bl (odf i1.toInt.toNat).toInt (szf i1.toInt.toNat).toInt (gdf i1.toInt.toNat).toInt (owf i1.toInt.toNat).toInt ((A (plf i1.toInt.toNat).toInt.toNat).2.1 12) nw0.toInt (hx_ps pof pdf psm pkf pst nw0.toInt nw0.toInt ((i1.toInt.toNat : Nat) : Int) n0.toInt.toNat)) nw0.toInt) := ?o32
        case o32 =>
          rw [hc9]
          exact hr_17.2.1
        refine lv_aload_n hx hb dX10_gaol_47 rfl (lv_at hl 0 rfl) ?_
        refine hk_geti hx hb hts hC_10 hown hW (gx.S hM) tt_10 71 ?o33 rfl kw_1214 ⟨rfl, rfl, rfl⟩ fw_22 dX10_gaol_48 ?_
        case o33 => decide
        refine lv_bipush (v := 6) hx hb dX10_gaol_51 ?o34 ?_
        case o34 => decide
        refine hb_icmp_eq (zx := w_22.toInt) (zy := 6) (tgt := 58) hx hb rfl ?o35 dX10_gaol_53 ?o36 (fun c_23 => ?_) (fun c_23 => ?_)
        case o35 => decide
        case o36 => decide
        · skip
          refine lv_aload_n hx hb dX10_gaol_58 rfl (lv_at hl 0 rfl) ?_
          refine hk_geti hx hb hts hC_10 hown hW (gx.S hM) tt_10 68 ?o37 rfl kw_1211 ⟨rfl, rfl, rfl⟩ fw_19 dX10_gaol_59 ?_
          case o37 => decide
          refine lv_bipush (v := 11) hx hb dX10_gaol_62 ?o38 ?_
          case o38 => decide
          refine lv_iadd hx hb dX10_gaol_64 ?_
          have rg_24 := i32_r w_19
          refine lv_topi (fun x_25 ex_25 => ?_)
          have zx_25 : x_25.toInt = w_19.toInt + 11 := ?o39
          case o39 =>
            rw [ex_25]
            refine i32_add rfl ?o40 ?o41 ?o42
            case o40 => decide
            case o41 => omega
            case o42 => omega
          refine lv_bipush (v := 12) hx hb dX10_gaol_65 ?o43 ?_
          case o43 => decide
          refine lv_idiv hx hb dX10_gaol_67 ?o44 ?_
          case o44 => decide
          refine lv_topi (fun x_26 ex_26 => ?_)
          have zx_26 : x_26.toInt = x_25.toInt / 12 := ?o45
          case o45 =>
            rw [ex_26, hx_dv (by omega) (by decide)]
            rfl
          have hru9 : x_26.toInt = hz_ru w_19.toInt 12 := ?o46
          case o46 =>
            rw [← hz_ru12m (s := w_19.toInt) (by omega)]
            omega
          refine lv_aload_n hx hb dX10_gaol_68 rfl (lv_at hl 0 rfl) ?_
          refine lv_aload_n hx hb dX10_gaol_69 rfl (lv_at hl 0 rfl) ?_
          refine hk_getr hx hb hts hC_10 hown hW (gx.S hM) tt_10 44 ?o47 rfl kw_1187 ⟨rfl, rfl, rfl⟩ ((hM.o gx trivial rfl).2.trans f_x_44) dX10_gaol_70 ?_
          case o47 => decide
          refine lv_iload_n hx hb dX10_gaol_73 rfl (lv_at hl 1 rfl) ?_
          refine hx_iald hx hb hW hT (gqpl.S hM) tt_79 rfl ⟨?o48, ?o49⟩ dX10_gaol_74 (fun x_27 ex_27 lx_27 ux_27 => ?_)
          case o48 => omega
          case o49 => omega
          have ax_27 : x_27 = plf i1.toNatClampNeg := ex_27.trans (congrFun (hx_afS hM gqpl rfl af_qpl) _)
          refine lv_bipush (v := 6) hx hb dX10_gaol_75 ?o50 ?_
          case o50 => decide
          have zc_6 : (6 : Int32).toInt = 6 := ?o51
          case o51 => decide
          refine hx_goi (hx_runV (As := [.int x_27, .int (6 : Int32)]) (rest := [.int x_26]) ⟨hx, hb, hml, hown, hts⟩ hW (gx.S hM) tt_10 (T := TX10) (N := 98) rfl (t_X10_ruleOf_v l dC dI dA L_13 h_14 H.size x x_27 (6 : Int32) hT (gx.S hM) qru (gqru.S hM) ((hM.o gx trivial rfl).2.trans f_x_3) rlf (hx_afS hM gqru rfl af_qru) ⟨?o52, ?o53⟩ ?o54) (cwV 2 hts (hx_gV kw_1533 kw_1530 kw_1532 kw_66 kw_103) rfl rfl rfl (by decide +kernel) ⟨Nat.le_of_ble_eq_true rfl, Nat.le_of_ble_eq_true rfl⟩) rfl hl.1 rfl (Nat.le_of_ble_eq_true rfl) dX10_gaol_77 ⟨Nat.le_of_ble_eq_true rfl, Nat.le_of_ble_eq_true rfl⟩) hW (fun r_30 L_28 h_29 H locs p_31 hW => ?_)
          case o52 => omega
          case o53 => omega
          case o54 => decide
          obtain ⟨hr_32, hT, hs⟩ := p_31
          replace hT : hx_T T_tb L_28 h_29 := hT
          replace hs : hx_S T_tb [] L_13 h_14 L_28 h_29 := hs
          replace fw_18 := (hs.o (gx.S hM) trivial rfl).1.trans fw_18
          replace fw_19 := (hs.o (gx.S hM) trivial rfl).1.trans fw_19
          replace fw_20 := (hs.o (gx.S hM) trivial rfl).1.trans fw_20
          replace fw_21 := (hs.o (gx.S hM) trivial rfl).1.trans fw_21
          replace fw_22 := (hs.o (gx.S hM) trivial rfl).1.trans fw_22
          replace af_qsv : h_29.2.1 qsv = svf := (funext fun j => (hs.a (gqsv.S hM) rfl j).1).trans af_qsv
          replace ex_7 := ex_7.trans (hs.a (gqsz.S hM) rfl _).1.symm
          replace ex_9 := ex_9.trans (hs.a (gqag.S hM) rfl _).1.symm
          replace ex_10 := ex_10.trans (hs.a (gqdd.S hM) rfl _).1.symm
          replace ex_27 := ex_27.trans (hs.a (gqpl.S hM) rfl _).1.symm
          replace hM := hM.tr (hs.mono ?o55)
          case o55 => decide
          have hl_33p := hPL i1.toInt ?o56 ?o57
          case o56 => omega
          case o57 => omega
          obtain ⟨_, hl_332, _⟩ := hCA.2 (plf i1.toInt.toNat).toInt.toNat (by omega)
          have hg7 : r_30.toInt = (A (plf i1.toInt.toNat).toInt.toNat).2.1 6 := ?o58
          case o58 =>
            rw [hr_32.1, ax_27, show (6 : Int32).toInt.toNat = 6 from by decide, ← hl_332]
            show _ = (if 6 < 13 then _ else 0)
            rw [if_pos (by decide)]
            try rfl
          refine lv_imul hx hb dX10_gaol_80 ?_
          refine lv_topi (fun x_34 ex_34 => ?_)
          have mx_34 : x_26.toInt = 0 → x_34.toInt = 0 := fun z => by rw [ex_34]; exact hx_mul0 z
          obtain ⟨m9, m9l, m9h⟩ := hz_mulg ⟨by omega, by omega⟩ ⟨by omega, by omega⟩ ex_34
          refine lv_istore_n (lv' := [(2, .int x_34), (0, .ref x), (1, .int i1)]) hx hb dX10_gaol_81 rfl hl ?o59 rfl (fun ls hl => ?_)
          case o59 => decide
          refine lv_aload_n hx hb dX10_gaol_82 rfl (lv_at hl 1 rfl) ?_
          refine hk_getr hx hb hts hC_10 hown hW (gx.S hM) tt_10 50 ?o60 rfl kw_1193 ⟨rfl, rfl, rfl⟩ ((hM.o gx trivial rfl).2.trans f_x_50) dX10_gaol_83 ?_
          case o60 => decide
          refine lv_iload_n hx hb dX10_gaol_86 rfl (lv_at hl 2 rfl) ?_
          refine lv_aload_n hx hb dX10_gaol_87 rfl (lv_at hl 1 rfl) ?_
          refine hk_geti hx hb hts hC_10 hown hW (gx.S hM) tt_10 0 ?o61 rfl kw_1143 ⟨rfl, rfl, rfl⟩ ((hM.o gx trivial rfl).1.trans f_x_0) dX10_gaol_88 ?_
          case o61 => decide
          have af_qsvO := af_qsv
          refine hx_iast hx hb hW hT (hx_S.rf (M := [(85, 0)])) (gqsv.S hM) tt_85 rfl ⟨?o62, ?o63⟩ rfl ⟨?o64, ?o65⟩ (List.mem_singleton.mpr rfl) dX10_gaol_91 (fun H locs h_35 eh_35 hW hT hs => ?_)
          case o62 => omega
          case o63 => omega
          case o64 => omega
          case o65 => omega
          replace fw_18 := (hs.o (gx.S hM) trivial rfl).1.trans fw_18
          replace fw_19 := (hs.o (gx.S hM) trivial rfl).1.trans fw_19
          replace fw_20 := (hs.o (gx.S hM) trivial rfl).1.trans fw_20
          replace fw_21 := (hs.o (gx.S hM) trivial rfl).1.trans fw_21
          replace fw_22 := (hs.o (gx.S hM) trivial rfl).1.trans fw_22
          replace ex_7 := ex_7.trans (hs.a (gqsz.S hM) rfl _).1.symm
          replace ex_9 := ex_9.trans (hs.a (gqag.S hM) rfl _).1.symm
          replace ex_10 := ex_10.trans (hs.a (gqdd.S hM) rfl _).1.symm
          replace ex_27 := ex_27.trans (hs.a (gqpl.S hM) rfl _).1.symm
          replace hM := hM.tr (hs.mono ?o66)
          case o66 => decide
          obtain ⟨fa_36, dfa_36⟩ : ∃ g : Nat → Int32, g = hx_up svf i1.toNatClampNeg nw0 := ⟨_, rfl⟩
          have nfa_36 : h_35.2.1 qsv = fa_36 := ?o67
          case o67 =>
            rw [eh_35, dfa_36, ← af_qsvO]
            exact hx_pi_fun _ _ _ _
          refine lv_iload_n hx hb dX10_gaol_92 rfl (lv_at hl 0 rfl) ?_
          refine lv_aload_n hx hb dX10_gaol_93 rfl (lv_at hl 1 rfl) ?_
          refine lv_aload_n hx hb dX10_gaol_94 rfl (lv_at hl 1 rfl) ?_
          refine hk_getr hx hb hts hC_10 hown hW (gx.S hM) tt_10 44 ?o68 rfl kw_1187 ⟨rfl, rfl, rfl⟩ ((hM.o gx trivial rfl).2.trans f_x_44) dX10_gaol_95 ?_
          case o68 => decide
          refine lv_iload_n hx hb dX10_gaol_98 rfl (lv_at hl 2 rfl) ?_
          refine hx_iald hx hb hW hT (gqpl.S hM) tt_79 rfl ⟨?o69, ?o70⟩ dX10_gaol_99 (fun x_37 ex_37 lx_37 ux_37 => ?_)
          case o69 => omega
          case o70 => omega
          have ax_37 : x_37 = plf i1.toNatClampNeg := ex_37.trans (congrFun (hx_afS hM gqpl rfl af_qpl) _)
          obtain rfl : x_27 = x_37 := ex_27.trans ex_37.symm
          refine lv_bipush (v := 7) hx hb dX10_gaol_100 ?o71 ?_
          case o71 => decide
          have zc_7 : (7 : Int32).toInt = 7 := ?o72
          case o72 => decide
          refine hx_goi (hx_runV (As := [.int x_27, .int (7 : Int32)]) (rest := [.int x_34]) ⟨hx, hb, hml, hown, hts⟩ hW (gx.S hM) tt_10 (T := TX10) (N := 98) rfl (t_X10_ruleOf_v l dC dI dA L_28 h_35 H.size x x_27 (7 : Int32) hT (gx.S hM) qru (gqru.S hM) ((hM.o gx trivial rfl).2.trans f_x_3) rlf (hx_afS hM gqru rfl af_qru) ⟨?o73, ?o74⟩ ?o75) (cwV 2 hts (hx_gV kw_1533 kw_1530 kw_1532 kw_66 kw_103) rfl rfl rfl (by decide +kernel) ⟨Nat.le_of_ble_eq_true rfl, Nat.le_of_ble_eq_true rfl⟩) rfl hl.1 rfl (Nat.le_of_ble_eq_true rfl) dX10_gaol_102 ⟨Nat.le_of_ble_eq_true rfl, Nat.le_of_ble_eq_true rfl⟩) hW (fun r_40 L_38 h_39 H locs p_41 hW => ?_)
          case o73 => omega
          case o74 => omega
          case o75 => decide
          obtain ⟨hr_42, hT, hs⟩ := p_41
          replace hT : hx_T T_tb L_38 h_39 := hT
          replace hs : hx_S T_tb [] L_28 h_35 L_38 h_39 := hs
          replace fw_18 := (hs.o (gx.S hM) trivial rfl).1.trans fw_18
          replace fw_19 := (hs.o (gx.S hM) trivial rfl).1.trans fw_19
          replace fw_20 := (hs.o (gx.S hM) trivial rfl).1.trans fw_20
          replace fw_21 := (hs.o (gx.S hM) trivial rfl).1.trans fw_21
          replace fw_22 := (hs.o (gx.S hM) trivial rfl).1.trans fw_22
          replace nfa_36 : h_39.2.1 qsv = fa_36 := (funext fun j => (hs.a (gqsv.S hM) rfl j).1).trans nfa_36
          replace ex_7 := ex_7.trans (hs.a (gqsz.S hM) rfl _).1.symm
          replace ex_9 := ex_9.trans (hs.a (gqag.S hM) rfl _).1.symm
          replace ex_10 := ex_10.trans (hs.a (gqdd.S hM) rfl _).1.symm
          replace ex_27 := ex_27.trans (hs.a (gqpl.S hM) rfl _).1.symm
          replace hM := hM.tr (hs.mono ?o76)
          case o76 => decide
          have hg8 : r_40.toInt = (A (plf i1.toInt.toNat).toInt.toNat).2.1 7 := ?o77
          case o77 =>
            rw [hr_42.1, ax_27, show (7 : Int32).toInt.toNat = 7 from by decide, ← hl_332]
            show _ = (if 7 < 13 then _ else 0)
            rw [if_pos (by decide)]
            try rfl
          refine hb_icmp_ge (zx := x_34.toInt) (zy := r_40.toInt) (tgt := 112) hx hb rfl rfl dX10_gaol_105 ?o78 (fun c_44 => ?_) (fun c_44 => ?_)
          case o78 => decide
          · skip
            refine lv_aload_n hx hb dX10_gaol_112 rfl (lv_at hl 1 rfl) ?_
            refine lv_aload_n hx hb dX10_gaol_113 rfl (lv_at hl 1 rfl) ?_
            refine hk_getr hx hb hts hC_10 hown hW (gx.S hM) tt_10 44 ?o79 rfl kw_1187 ⟨rfl, rfl, rfl⟩ ((hM.o gx trivial rfl).2.trans f_x_44) dX10_gaol_114 ?_
            case o79 => decide
            refine lv_iload_n hx hb dX10_gaol_117 rfl (lv_at hl 2 rfl) ?_
            refine hx_iald hx hb hW hT (gqpl.S hM) tt_79 rfl ⟨?o80, ?o81⟩ dX10_gaol_118 (fun x_45 ex_45 lx_45 ux_45 => ?_)
            case o80 => omega
            case o81 => omega
            have ax_45 : x_45 = plf i1.toNatClampNeg := ex_45.trans (congrFun (hx_afS hM gqpl rfl af_qpl) _)
            obtain rfl : x_27 = x_45 := ex_27.trans ex_45.symm
            refine lv_bipush (v := 7) hx hb dX10_gaol_119 ?o82 ?_
            case o82 => decide
            refine hx_goi (hx_runV (As := [.int x_27, .int (7 : Int32)]) (rest := []) ⟨hx, hb, hml, hown, hts⟩ hW (gx.S hM) tt_10 (T := TX10) (N := 98) rfl (t_X10_ruleOf_v l dC dI dA L_38 h_39 H.size x x_27 (7 : Int32) hT (gx.S hM) qru (gqru.S hM) ((hM.o gx trivial rfl).2.trans f_x_3) rlf (hx_afS hM gqru rfl af_qru) ⟨?o83, ?o84⟩ ?o85) (cwV 2 hts (hx_gV kw_1533 kw_1530 kw_1532 kw_66 kw_103) rfl rfl rfl (by decide +kernel) ⟨Nat.le_of_ble_eq_true rfl, Nat.le_of_ble_eq_true rfl⟩) rfl hl.1 rfl (Nat.le_of_ble_eq_true rfl) dX10_gaol_121 ⟨Nat.le_of_ble_eq_true rfl, Nat.le_of_ble_eq_true rfl⟩) hW (fun r_48 L_46 h_47 H locs p_49 hW => ?_)
            case o83 => omega
            case o84 => omega
            case o85 => decide
            obtain ⟨hr_50, hT, hs⟩ := p_49
            replace hT : hx_T T_tb L_46 h_47 := hT
            replace hs : hx_S T_tb [] L_38 h_39 L_46 h_47 := hs
            replace fw_18 := (hs.o (gx.S hM) trivial rfl).1.trans fw_18
            replace fw_19 := (hs.o (gx.S hM) trivial rfl).1.trans fw_19
            replace fw_20 := (hs.o (gx.S hM) trivial rfl).1.trans fw_20
            replace fw_21 := (hs.o (gx.S hM) trivial rfl).1.trans fw_21
            replace fw_22 := (hs.o (gx.S hM) trivial rfl).1.trans fw_22
            replace nfa_36 : h_47.2.1 qsv = fa_36 := (funext fun j => (hs.a (gqsv.S hM) rfl j).1).trans nfa_36
            replace ex_7 := ex_7.trans (hs.a (gqsz.S hM) rfl _).1.symm
            replace ex_9 := ex_9.trans (hs.a (gqag.S hM) rfl _).1.symm
            replace ex_10 := ex_10.trans (hs.a (gqdd.S hM) rfl _).1.symm
            replace ex_27 := ex_27.trans (hs.a (gqpl.S hM) rfl _).1.symm
            replace hM := hM.tr (hs.mono ?o86)
            case o86 => decide
            have hg8 : r_48.toInt = (A (plf i1.toInt.toNat).toInt.toNat).2.1 7 := ?o87
            case o87 =>
              rw [hr_50.1, ax_27, show (7 : Int32).toInt.toNat = 7 from by decide, ← hl_332]
              show _ = (if 7 < 13 then _ else 0)
              rw [if_pos (by decide)]
              try rfl
            refine hx_reti hx hb hr hlk hW ⟨⟨fa_36, nfa_36, (Or.inr ⟨⟨⟨?o88, ?o89⟩, (by rw [show szf i1.toInt.toNat = x_7 from ax_7.symm]; omega), (by rw [← cdd9]; omega), (by rw [← hst9]; omega)⟩, (by rw [← hrs9, ← hru9, ← hg7, ← m9, ← hg8]; unfold hz_mi; split <;> omega), dfa_36⟩)⟩, hT, hM⟩ dX10_gaol_124
            case o88 => omega
            case o89 => omega
          · skip
            refine lv_iload_n hx hb dX10_gaol_108 rfl (lv_at hl 0 rfl) ?_
            refine lv_goto (tgt := 124) hx hb dX10_gaol_109 ?o90 ?_
            case o90 => decide
            have hg8 : r_40.toInt = (A (plf i1.toInt.toNat).toInt.toNat).2.1 7 := ?o91
            case o91 =>
              rw [hr_42.1, ax_27, show (7 : Int32).toInt.toNat = 7 from by decide, ← hl_332]
              show _ = (if 7 < 13 then _ else 0)
              rw [if_pos (by decide)]
              try rfl
            refine hx_reti hx hb hr hlk hW ⟨⟨fa_36, nfa_36, (Or.inr ⟨⟨⟨?o92, ?o93⟩, (by rw [show szf i1.toInt.toNat = x_7 from ax_7.symm]; omega), (by rw [← cdd9]; omega), (by rw [← hst9]; omega)⟩, (by rw [← hrs9, ← hru9, ← hg7, ← m9, ← hg8]; unfold hz_mi; split <;> omega), dfa_36⟩)⟩, hT, hM⟩ dX10_gaol_124
            case o92 => omega
            case o93 => omega
        · skip
          refine lv_iconst (v := -1) hx hb dX10_gaol_56 ?o94 ?_
          case o94 => decide
          refine hx_reti hx hb hr hlk hW ⟨⟨svf, af_qsv, (Or.inl ⟨(fun hc => by have h1 := hc.2.2.2; rw [← hst9] at h1; omega), ?o95, rfl⟩)⟩, hT, hM⟩ dX10_gaol_57
          case o95 => decide
      · skip
        refine lv_iconst (v := -1) hx hb dX10_gaol_32 ?o96 ?_
        case o96 => decide
        refine hx_reti hx hb hr hlk hW ⟨⟨svf, af_qsv, (Or.inl ⟨(fun hc => by have h1 := hc.2.2.1; rw [← cdd9] at h1; omega), ?o97, rfl⟩)⟩, hT, hM⟩ dX10_gaol_33
        case o97 => decide


set_option maxHeartbeats 4000000 in
set_option maxRecDepth 100000 in
theorem t_X10_state_v (l : Launch) (dC : Nat → ClassId) (dI : Nat → Nat → Nat) (dA : Nat → ClassId) (L : List Nat) (h : hx_h) (sz : Nat) (x : Nat) (i1 : Int32) (i2 : Int32) (i3 : Int32) (i4 : Int32) (hT : hx_T T_tb L h) (gx : hx_g L h x 10) (qfo : Nat) (gqfo : hx_g L h qfo 81) (f_x_46 : h.2.2 x 46 = some qfo) (qhe : Nat) (gqhe : hx_g L h qhe 82) (f_x_47 : h.2.2 x 47 = some qhe) (qju : Nat) (gqju : hx_g L h qju 86) (f_x_51 : h.2.2 x 51 = some qju) (qod : Nat) (gqod : hx_g L h qod 83) (f_x_48 : h.2.2 x 48 = some qod) (qsv : Nat) (gqsv : hx_g L h qsv 85) (f_x_50 : h.2.2 x 50 = some qsv) (qsz : Nat) (gqsz : hx_g L h qsz 84) (f_x_49 : h.2.2 x 49 = some qsz) (qgd : Nat) (gqgd : hx_g L h qgd 91) (f_x_56 : h.2.2 x 56 = some qgd) (qow : Nat) (gqow : hx_g L h qow 90) (f_x_55 : h.2.2 x 55 = some qow) (qwk : Nat) (gqwk : hx_g L h qwk 89) (f_x_54 : h.2.2 x 54 = some qwk) (qpl : Nat) (gqpl : hx_g L h qpl 79) (f_x_44 : h.2.2 x 44 = some qpl) (qru : Nat) (gqru : hx_g L h qru 50) (f_x_3 : h.2.2 x 3 = some qru) (qpo : Nat) (gqpo : hx_g L h qpo 93) (f_x_60 : h.2.2 x 60 = some qpo) (qpd : Nat) (gqpd : hx_g L h qpd 94) (f_x_61 : h.2.2 x 61 = some qpd) (qps : Nat) (gqps : hx_g L h qps 95) (f_x_62 : h.2.2 x 62 = some qps) (qpk : Nat) (gqpk : hx_g L h qpk 96) (f_x_63 : h.2.2 x 63 = some qpk) (qpt : Nat) (gqpt : hx_g L h qpt 97) (f_x_64 : h.2.2 x 64 = some qpt) (qfl : Nat) (gqfl : hx_g L h qfl 78) (f_x_43 : h.2.2 x 43 = some qfl) (fof : Nat → Int32) (af_qfo : h.2.1 qfo = fof) (hrf : Nat → Int32) (af_qhe : h.2.1 qhe = hrf) (udf : Nat → Int32) (af_qju : h.2.1 qju = udf) (odf : Nat → Int32) (af_qod : h.2.1 qod = odf) (svf : Nat → Int32) (af_qsv : h.2.1 qsv = svf) (szf : Nat → Int32) (af_qsz : h.2.1 qsz = szf) (gdf : Nat → Int32) (af_qgd : h.2.1 qgd = gdf) (owf : Nat → Int32) (af_qow : h.2.1 qow = owf) (wkf : Nat → Int32) (af_qwk : h.2.1 qwk = wkf) (plf : Nat → Int32) (af_qpl : h.2.1 qpl = plf) (rlf : Nat → Int32) (af_qru : h.2.1 qru = rlf) (pof : Nat → Int32) (af_qpo : h.2.1 qpo = pof) (pdf : Nat → Int32) (af_qpd : h.2.1 qpd = pdf) (psm : Nat → Int32) (af_qps : h.2.1 qps = psm) (pkf : Nat → Int32) (af_qpk : h.2.1 qpk = pkf) (pst : Nat → Int32) (af_qpt : h.2.1 qpt = pst) (flf : Nat → Int32) (af_qfl : h.2.1 qfl = flf) (c0 : Int32) (f_x_36 : h.2.1 x 36 = c0) (a0 : Int32) (f_x_1 : h.2.1 x 1 = a0) (nw0 : Int32) (f_x_0 : h.2.1 x 0 = nw0) (n0 : Int32) (f_x_59 : h.2.1 x 59 = n0) (adf psf prf : Nat → Int32) (A : Nat → hv_act) (hCA : hv_CA adf rlf psf prf a0.toInt A) (hPL : hx_PL plf c0.toInt a0.toInt) : Met l yX10_state (Cond.code yX10_state cX10_state 5 (some .int) :: hx_all) ({ frames := 2, cells := 0, slots := 0, locals := 50 }) (va_Pc [.ref x, .int i1, .int i2, .int i3, .int i4] (hx_B T_tb (P_ty dA) (dC, dI) vwCl L h sz)) (va_Qi (fun (r : Int32) (u : List Nat × hx_h) => (hz_SA c0.toInt i1.toInt i2.toInt i3.toInt i4.toInt (flf i1.toInt.toNat).toInt (hz_st (fof i1.toInt.toNat).toInt (hrf i1.toInt.toNat).toInt (udf i1.toInt.toNat).toInt (odf i1.toInt.toNat).toInt (svf i1.toInt.toNat).toInt (hz_rs (svf i1.toInt.toNat).toInt (hz_bl (odf i1.toInt.toNat).toInt (szf i1.toInt.toNat).toInt (gdf i1.toInt.toNat).toInt (owf i1.toInt.toNat).toInt ((A (plf i1.toInt.toNat).toInt.toNat).2.1 12) i2.toInt (hx_ps pof pdf psm pkf pst i2.toInt i3.toInt ((i1.toInt.toNat : Nat) : Int) n0.toInt.toNat)) i2.toInt) (hz_ms (odf i1.toInt.toNat).toInt (svf i1.toInt.toNat).toInt (wkf i1.toInt.toNat).toInt (hz_al (owf i1.toInt.toNat).toInt (szf i1.toInt.toNat).toInt ((A (plf i1.toInt.toNat).toInt.toNat).2.1 12) i2.toInt) (hz_pdy (odf i1.toInt.toNat).toInt (szf i1.toInt.toNat).toInt (gdf i1.toInt.toNat).toInt i2.toInt (hx_ps pof pdf psm pkf pst i2.toInt i3.toInt ((i1.toInt.toNat : Nat) : Int) n0.toInt.toNat)) i2.toInt) ((A (plf i1.toInt.toNat).toInt.toNat).2.1 4) ((A (plf i1.toInt.toNat).toInt.toNat).2.1 5) i2.toInt) (hz_rs (svf i1.toInt.toNat).toInt (hz_bl (odf i1.toInt.toNat).toInt (szf i1.toInt.toNat).toInt (gdf i1.toInt.toNat).toInt (owf i1.toInt.toNat).toInt ((A (plf i1.toInt.toNat).toInt.toNat).2.1 12) i2.toInt (hx_ps pof pdf psm pkf pst i2.toInt i3.toInt ((i1.toInt.toNat : Nat) : Int) n0.toInt.toNat)) i2.toInt) (hz_ms (odf i1.toInt.toNat).toInt (svf i1.toInt.toNat).toInt (wkf i1.toInt.toNat).toInt (hz_al (owf i1.toInt.toNat).toInt (szf i1.toInt.toNat).toInt ((A (plf i1.toInt.toNat).toInt.toNat).2.1 12) i2.toInt) (hz_pdy (odf i1.toInt.toNat).toInt (szf i1.toInt.toNat).toInt (gdf i1.toInt.toNat).toInt i2.toInt (hx_ps pof pdf psm pkf pst i2.toInt i3.toInt ((i1.toInt.toNat : Nat) : Int) n0.toInt.toNat)) i2.toInt) (hz_pdy (odf i1.toInt.toNat).toInt (szf i1.toInt.toNat).toInt (gdf i1.toInt.toNat).toInt i2.toInt (hx_ps pof pdf psm pkf pst i2.toInt i3.toInt ((i1.toInt.toNat : Nat) : Int) n0.toInt.toNat)) (hz_ov (svf i1.toInt.toNat).toInt (hz_bl (odf i1.toInt.toNat).toInt (szf i1.toInt.toNat).toInt (gdf i1.toInt.toNat).toInt (owf i1.toInt.toNat).toInt ((A (plf i1.toInt.toNat).toInt.toNat).2.1 12) i2.toInt (hx_ps pof pdf psm pkf pst i2.toInt i3.toInt ((i1.toInt.toNat : Nat) : Int) n0.toInt.toNat)) i2.toInt) r.toInt) ∧ hx_T T_tb u.1 u.2 ∧ hx_S T_tb [(10, 67), (10, 68), (10, 69), (10, 70), (10, 71)] L h u.1 u.2) (hx_E T_tb (P_ty dA) (dC, dI) vwCl (hx_A L sz)) (hx_A L sz)) 0 0 (hx_A L sz) := by
  refine hx_met (lv := [(0, .ref x), (1, .int i1), (2, .int i2), (3, .int i3), (4, .int i4)]) (by decide +kernel) rfl (Nat.le_of_ble_eq_true rfl) rfl ?_
  intro p e s m below meth c hx hb hml hr hlk hts0 hown hin hsz hW ls hl
  have hts : ∀ w ∈ hx_all, w.before _ s = true := fun w hw => hts0 w (List.mem_cons_of_mem _ hw)
  have hown : s.vm.findClass "SmallCourtModel" = some m.cls := hown
  have hM : hx_S T_tb [(10, 67), (10, 68), (10, 69), (10, 70), (10, 71)] L h L h := hx_S.rf
  have b_c0 := hT.gi gx tt_10 (k := 36) rfl
  rw [f_x_36] at b_c0
  have b_c0 : 0 ≤ c0.toInt ∧ c0.toInt ≤ 100 := b_c0
  have b_a0 := hT.gi gx tt_10 (k := 1) rfl
  rw [f_x_1] at b_a0
  have b_a0 : 0 ≤ a0.toInt ∧ a0.toInt ≤ 8 := b_a0
  have b_nw0 := hT.gi gx tt_10 (k := 0) rfl
  rw [f_x_0] at b_nw0
  have b_nw0 : 0 ≤ nw0.toInt ∧ nw0.toInt ≤ 7999 := b_nw0
  have b_n0 := hT.gi gx tt_10 (k := 59) rfl
  rw [f_x_59] at b_n0
  have b_n0 : 0 ≤ n0.toInt ∧ n0.toInt ≤ 600 := b_n0
  refine lv_aload_n hx hb dX10_state_0 rfl (lv_at hl 0 rfl) ?_
  refine lv_iload_n hx hb dX10_state_1 rfl (lv_at hl 1 rfl) ?_
  refine hx_goi (hx_runV (As := [.int i1]) (rest := []) ⟨hx, hb, hml, hown, hts⟩ hW (gx.S hM) tt_10 (T := TX10) (N := 98) rfl (t_X10_isClaim l dC dI dA L h s.heap.size x i1 hT (gx.S hM) c0 ((hM.o gx trivial rfl).1.trans f_x_36)) (cwV 1 hts (hx_gV kw_1597 kw_1594 kw_1596 kw_73 kw_103) rfl rfl rfl (by decide +kernel) ⟨Nat.le_of_ble_eq_true rfl, Nat.le_of_ble_eq_true rfl⟩) rfl hl.1 rfl (Nat.le_of_ble_eq_true rfl) dX10_state_2 ⟨Nat.le_of_ble_eq_true rfl, Nat.le_of_ble_eq_true rfl⟩) hW (fun r_3 L_1 h_2 H locs p_4 hW => ?_)
  obtain ⟨hr_5, hT, hs⟩ := p_4
  replace hT : hx_T T_tb L_1 h_2 := hT
  replace hs : hx_S T_tb [] L h L_1 h_2 := hs
  replace hM := hM.tr (hs.mono ?o0)
  case o0 => decide
  refine hb_if_eq (zx := r_3.toInt) (tgt := 40) hx hb rfl dX10_state_5 ?o1 (fun c_6 => ?_) (fun c_6 => ?_)
  case o1 => decide
  · skip
    replace hr_5 := hr_5.resolve_right (fun z9 => absurd (c_6.symm.trans z9.1) ?o2)
    case o2 => decide
    replace hr_5 := hr_5.2
    refine lv_iconst (v := -1) hx hb dX10_state_40 ?o3 ?_
    case o3 => decide
    refine hx_reti hx hb hr hlk hW ⟨(Or.inl ⟨(fun hc => by have h1 := hc.1; omega), ?o4⟩), hT, hM⟩ dX10_state_41
    case o4 => decide
  · skip
    replace hr_5 := hr_5.resolve_left (fun z9 => c_6 z9.1)
    replace c_6 := hr_5.1
    replace hr_5 := hr_5.2
    refine lv_iload_n hx hb dX10_state_8 rfl (lv_at hl 2 rfl) ?_
    refine lv_aload_n hx hb dX10_state_9 rfl (lv_at hl 0 rfl) ?_
    refine hk_getr hx hb hts hC_10 hown hW (gx.S hM) tt_10 43 ?o5 rfl kw_1186 ⟨rfl, rfl, rfl⟩ ((hM.o gx trivial rfl).2.trans f_x_43) dX10_state_10 ?_
    case o5 => decide
    refine lv_iload_n hx hb dX10_state_13 rfl (lv_at hl 1 rfl) ?_
    refine hx_iald hx hb hW hT (gqfl.S hM) tt_78 rfl ⟨?o6, ?o7⟩ dX10_state_14 (fun x_7 ex_7 lx_7 ux_7 => ?_)
    case o6 => omega
    case o7 => omega
    have ax_7 : x_7 = flf i1.toNatClampNeg := ex_7.trans (congrFun (hx_afS hM gqfl rfl af_qfl) _)
    refine lv_sipush (v := 7999) hx hb dX10_state_15 ?o8 ?_
    case o8 => decide
    have zc_7999 : (7999 : Int32).toInt = 7999 := ?o9
    case o9 => decide
    refine hx_goi (hx_runS (As := [.int i2, .int x_7, .int (7999 : Int32)]) (rest := []) ⟨hx, hb, hml, hown, hts⟩ hW (t_X10_in l dC dI dA L_1 h_2 H.size i2 x_7 (7999 : Int32) hT) (va_cwS 3 hts (hx_gS kw_1445 kw_1443 kw_1444 kw_103) rfl rfl rfl (by decide +kernel) ⟨Nat.le_of_ble_eq_true rfl, Nat.le_of_ble_eq_true rfl⟩) rfl hl.1 rfl (Nat.le_of_ble_eq_true rfl) dX10_state_18 ⟨Nat.le_of_ble_eq_true rfl, Nat.le_of_ble_eq_true rfl⟩) hW (fun r_10 L_8 h_9 H locs p_11 hW => ?_)
    obtain ⟨hr_12, hT, hs⟩ := p_11
    replace hT : hx_T T_tb L_8 h_9 := hT
    replace hs : hx_S T_tb [] L_1 h_2 L_8 h_9 := hs
    replace ex_7 := ex_7.trans (hs.a (gqfl.S hM) rfl _).1.symm
    replace hM := hM.tr (hs.mono ?o10)
    case o10 => decide
    refine hb_if_eq (zx := r_10.toInt) (tgt := 40) hx hb rfl dX10_state_21 ?o11 (fun c_13 => ?_) (fun c_13 => ?_)
    case o11 => decide
    · skip
      replace hr_12 := hr_12.resolve_right (fun z9 => absurd (c_13.symm.trans z9.1) ?o12)
      case o12 => decide
      replace hr_12 := hr_12.2
      refine lv_iconst (v := -1) hx hb dX10_state_40 ?o13 ?_
      case o13 => decide
      refine hx_reti hx hb hr hlk hW ⟨(Or.inl ⟨(fun hc => by have h1 := hc.2; rw [show flf i1.toInt.toNat = x_7 from ax_7.symm] at h1; omega), ?o14⟩), hT, hM⟩ dX10_state_41
      case o14 => decide
    · skip
      replace hr_12 := hr_12.resolve_left (fun z9 => c_13 z9.1)
      replace c_13 := hr_12.1
      replace hr_12 := hr_12.2
      refine lv_iload_n hx hb dX10_state_24 rfl (lv_at hl 3 rfl) ?_
      refine lv_aload_n hx hb dX10_state_25 rfl (lv_at hl 0 rfl) ?_
      refine hk_getr hx hb hts hC_10 hown hW (gx.S hM) tt_10 43 ?o15 rfl kw_1186 ⟨rfl, rfl, rfl⟩ ((hM.o gx trivial rfl).2.trans f_x_43) dX10_state_26 ?_
      case o15 => decide
      refine lv_iload_n hx hb dX10_state_29 rfl (lv_at hl 1 rfl) ?_
      refine hx_iald hx hb hW hT (gqfl.S hM) tt_78 rfl ⟨?o16, ?o17⟩ dX10_state_30 (fun x_14 ex_14 lx_14 ux_14 => ?_)
      case o16 => omega
      case o17 => omega
      have ax_14 : x_14 = flf i1.toNatClampNeg := ex_14.trans (congrFun (hx_afS hM gqfl rfl af_qfl) _)
      obtain rfl : x_7 = x_14 := ex_7.trans ex_14.symm
      refine lv_sipush (v := 7999) hx hb dX10_state_31 ?o18 ?_
      case o18 => decide
      refine hx_goi (hx_runS (As := [.int i3, .int x_7, .int (7999 : Int32)]) (rest := []) ⟨hx, hb, hml, hown, hts⟩ hW (t_X10_in l dC dI dA L_8 h_9 H.size i3 x_7 (7999 : Int32) hT) (va_cwS 3 hts (hx_gS kw_1445 kw_1443 kw_1444 kw_103) rfl rfl rfl (by decide +kernel) ⟨Nat.le_of_ble_eq_true rfl, Nat.le_of_ble_eq_true rfl⟩) rfl hl.1 rfl (Nat.le_of_ble_eq_true rfl) dX10_state_34 ⟨Nat.le_of_ble_eq_true rfl, Nat.le_of_ble_eq_true rfl⟩) hW (fun r_17 L_15 h_16 H locs p_18 hW => ?_)
      obtain ⟨hr_19, hT, hs⟩ := p_18
      replace hT : hx_T T_tb L_15 h_16 := hT
      replace hs : hx_S T_tb [] L_8 h_9 L_15 h_16 := hs
      replace ex_7 := ex_7.trans (hs.a (gqfl.S hM) rfl _).1.symm
      replace hM := hM.tr (hs.mono ?o19)
      case o19 => decide
      refine hb_if_ne (zx := r_17.toInt) (tgt := 42) hx hb rfl dX10_state_37 ?o20 (fun c_20 => ?_) (fun c_20 => ?_)
      case o20 => decide
      · skip
        replace hr_19 := hr_19.resolve_left (fun z9 => c_20 z9.1)
        replace c_20 := hr_19.1
        replace hr_19 := hr_19.2
        refine lv_aload_n hx hb dX10_state_42 rfl (lv_at hl 0 rfl) ?_
        refine lv_iload_n hx hb dX10_state_43 rfl (lv_at hl 1 rfl) ?_
        refine lv_iload_n hx hb dX10_state_44 rfl (lv_at hl 2 rfl) ?_
        refine lv_iload_n hx hb dX10_state_45 rfl (lv_at hl 3 rfl) ?_
        have hl_21p := hPL i1.toInt ?o21 ?o22
        case o21 => omega
        case o22 => omega
        obtain ⟨_, hl_212, _⟩ := hCA.2 (plf i1.toInt.toNat).toInt.toNat (by omega)
        refine hx_gov (hx_runV (As := [.int i1, .int i2, .int i3]) (rest := []) ⟨hx, hb, hml, hown, hts⟩ hW (gx.S hM) tt_10 (T := TX10) (N := 98) rfl (t_X10_looks_v l dC dI dA L_15 h_16 H.size x i1 i2 i3 hT (gx.S hM) qfo (gqfo.S hM) ((hM.o gx trivial rfl).2.trans f_x_46) qhe (gqhe.S hM) ((hM.o gx trivial rfl).2.trans f_x_47) qju (gqju.S hM) ((hM.o gx trivial rfl).2.trans f_x_51) qod (gqod.S hM) ((hM.o gx trivial rfl).2.trans f_x_48) qsv (gqsv.S hM) ((hM.o gx trivial rfl).2.trans f_x_50) qsz (gqsz.S hM) ((hM.o gx trivial rfl).2.trans f_x_49) qgd (gqgd.S hM) ((hM.o gx trivial rfl).2.trans f_x_56) qow (gqow.S hM) ((hM.o gx trivial rfl).2.trans f_x_55) qwk (gqwk.S hM) ((hM.o gx trivial rfl).2.trans f_x_54) qpl (gqpl.S hM) ((hM.o gx trivial rfl).2.trans f_x_44) qru (gqru.S hM) ((hM.o gx trivial rfl).2.trans f_x_3) qpo (gqpo.S hM) ((hM.o gx trivial rfl).2.trans f_x_60) qpd (gqpd.S hM) ((hM.o gx trivial rfl).2.trans f_x_61) qps (gqps.S hM) ((hM.o gx trivial rfl).2.trans f_x_62) qpk (gqpk.S hM) ((hM.o gx trivial rfl).2.trans f_x_63) qpt (gqpt.S hM) ((hM.o gx trivial rfl).2.trans f_x_64) fof (hx_afS hM gqfo rfl af_qfo) hrf (hx_afS hM gqhe rfl af_qhe) udf (hx_afS hM gqju rfl af_qju) odf (hx_afS hM gqod rfl af_qod) svf (hx_afS hM gqsv rfl af_qsv) szf (hx_afS hM gqsz rfl af_qsz) gdf (hx_afS hM gqgd rfl af_qgd) owf (hx_afS hM gqow rfl af_qow) wkf (hx_afS hM gqwk rfl af_qwk) plf (hx_afS hM gqpl rfl af_qpl) rlf (hx_afS hM gqru rfl af_qru) pof (hx_afS hM gqpo rfl af_qpo) pdf (hx_afS hM gqpd rfl af_qpd) psm (hx_afS hM gqps rfl af_qps) pkf (hx_afS hM gqpk rfl af_qpk) pst (hx_afS hM gqpt rfl af_qpt) n0 ((hM.o gx trivial rfl).1.trans f_x_59) ⟨?o23, ?o24⟩ ⟨?o25, ?o26⟩ (A (plf i1.toInt.toNat).toInt.toNat).2.1 (fun k hk => by rw [← hl_212]; show _ = (if k < 13 then _ else 0); rw [if_pos (by omega)])) (cwV 3 hts (hx_gV kw_1641 kw_1638 kw_1640 kw_82 kw_103) rfl rfl rfl (by decide +kernel) ⟨Nat.le_of_ble_eq_true rfl, Nat.le_of_ble_eq_true rfl⟩) rfl hl.1 rfl (Nat.le_of_ble_eq_true rfl) dX10_state_46 ⟨Nat.le_of_ble_eq_true rfl, Nat.le_of_ble_eq_true rfl⟩) hW (fun L_22 h_23 H locs p_25 hW => ?_)
        case o23 => omega
        case o24 => omega
        case o25 => omega
        case o26 => omega
        obtain ⟨⟨w_27, w_28, w_29, w_30, w_31, fw_27, fw_28, fw_29, fw_30, fw_31, hr_26⟩, hT, hs⟩ := p_25
        replace hT : hx_T T_tb L_22 h_23 := hT
        replace hs : hx_S T_tb [(10, 67), (10, 68), (10, 69), (10, 70), (10, 71)] L_15 h_16 L_22 h_23 := hs
        replace ex_7 := ex_7.trans (hs.a (gqfl.S hM) rfl _).1.symm
        replace hM := hM.tr (hs.mono ?o27)
        case o27 => decide
        have fw_27 : h_23.2.1 x 67 = w_27 := fw_27
        have bw_27 := hT.gi (gx.S hM) tt_10 (k := 67) rfl
        rw [fw_27] at bw_27
        have bw_27 : 0 ≤ w_27.toInt ∧ w_27.toInt ≤ 366100000 := bw_27
        have fw_28 : h_23.2.1 x 68 = w_28 := fw_28
        have bw_28 := hT.gi (gx.S hM) tt_10 (k := 68) rfl
        rw [fw_28] at bw_28
        have bw_28 : 0 ≤ w_28.toInt ∧ w_28.toInt ≤ 610000 := bw_28
        have fw_29 : h_23.2.1 x 69 = w_29 := fw_29
        have bw_29 := hT.gi (gx.S hM) tt_10 (k := 69) rfl
        rw [fw_29] at bw_29
        have bw_29 : -2147483648 ≤ w_29.toInt ∧ w_29.toInt ≤ 2147483647 := bw_29
        have fw_30 : h_23.2.1 x 70 = w_30 := fw_30
        have bw_30 := hT.gi (gx.S hM) tt_10 (k := 70) rfl
        rw [fw_30] at bw_30
        have bw_30 : -2147483648 ≤ w_30.toInt ∧ w_30.toInt ≤ 2147483647 := bw_30
        have fw_31 : h_23.2.1 x 71 = w_31 := fw_31
        have bw_31 := hT.gi (gx.S hM) tt_10 (k := 71) rfl
        rw [fw_31] at bw_31
        have bw_31 : 0 ≤ w_31.toInt ∧ w_31.toInt ≤ 8 := bw_31
        have hc9 : ((i1.toInt.toNat : Nat) : Int) = i1.toInt := ?o28
        case o28 => omega
        refine lv_iload hx hb dX10_state_49 (lv_at hl 4 rfl) ?_
        rcases (show (i4.toInt < 0 ∨ 4 < i4.toInt) ∨ i4.toInt = 0 ∨ i4.toInt = 1 ∨ i4.toInt = 2 ∨ i4.toInt = 3 ∨ i4.toInt = 4 from by omega) with c_32 | c_32 | c_32 | c_32 | c_32 | c_32
        · refine lv_tableOut (tgt := 109) hx hb dX10_state_51 c_32 ?o29 ?_
          case o29 => decide
          refine lv_iconst (v := -1) hx hb dX10_state_109 ?o30 ?_
          case o30 => decide
          refine hx_reti hx hb hr hlk hW ⟨(Or.inl ⟨(fun hc => by have h1 := hc.2.2.2; omega), ?o31⟩), hT, hM⟩ dX10_state_110
          case o31 => decide
        · refine lv_tableIn (off := 33) (tgt := 84) hx hb dX10_state_51 ?o32 ?o33 (by rw [c_32]; rfl) ?o34 ?_
          case o32 => omega
          case o33 => omega
          case o34 => decide
          refine lv_aload_n hx hb dX10_state_84 rfl (lv_at hl 0 rfl) ?_
          refine hk_geti hx hb hts hC_10 hown hW (gx.S hM) tt_10 71 ?o35 rfl kw_1214 ⟨rfl, rfl, rfl⟩ fw_31 dX10_state_85 ?_
          case o35 => decide
          refine hx_reti hx hb hr hlk hW ⟨(Or.inr ⟨⟨⟨?o36, ?o37⟩, (by rw [show flf i1.toInt.toNat = x_7 from ax_7.symm]; omega), (by rw [show flf i1.toInt.toNat = x_7 from ax_7.symm]; omega)⟩, Or.inl ⟨?o38, (by rw [hc9]; exact hr_26.2.2.2.2)⟩⟩), hT, hM⟩ dX10_state_88
          case o36 => omega
          case o37 => omega
          case o38 => omega
        · refine lv_tableIn (off := 38) (tgt := 89) hx hb dX10_state_51 ?o39 ?o40 (by rw [c_32]; rfl) ?o41 ?_
          case o39 => omega
          case o40 => omega
          case o41 => decide
          refine lv_aload_n hx hb dX10_state_89 rfl (lv_at hl 0 rfl) ?_
          refine hk_geti hx hb hts hC_10 hown hW (gx.S hM) tt_10 68 ?o42 rfl kw_1211 ⟨rfl, rfl, rfl⟩ fw_28 dX10_state_90 ?_
          case o42 => decide
          refine hx_reti hx hb hr hlk hW ⟨(Or.inr ⟨⟨⟨?o43, ?o44⟩, (by rw [show flf i1.toInt.toNat = x_7 from ax_7.symm]; omega), (by rw [show flf i1.toInt.toNat = x_7 from ax_7.symm]; omega)⟩, Or.inr (Or.inl ⟨?o45, (by rw [hc9]; exact hr_26.2.1)⟩)⟩), hT, hM⟩ dX10_state_93
          case o43 => omega
          case o44 => omega
          case o45 => omega
        · refine lv_tableIn (off := 43) (tgt := 94) hx hb dX10_state_51 ?o46 ?o47 (by rw [c_32]; rfl) ?o48 ?_
          case o46 => omega
          case o47 => omega
          case o48 => decide
          refine lv_aload_n hx hb dX10_state_94 rfl (lv_at hl 0 rfl) ?_
          refine hk_geti hx hb hts hC_10 hown hW (gx.S hM) tt_10 70 ?o49 rfl kw_1213 ⟨rfl, rfl, rfl⟩ fw_30 dX10_state_95 ?_
          case o49 => decide
          refine hx_reti hx hb hr hlk hW ⟨(Or.inr ⟨⟨⟨?o50, ?o51⟩, (by rw [show flf i1.toInt.toNat = x_7 from ax_7.symm]; omega), (by rw [show flf i1.toInt.toNat = x_7 from ax_7.symm]; omega)⟩, Or.inr (Or.inr (Or.inl ⟨?o52, (by rw [hc9]; exact hr_26.2.2.2.1)⟩))⟩), hT, hM⟩ dX10_state_98
          case o50 => omega
          case o51 => omega
          case o52 => omega
        · refine lv_tableIn (off := 48) (tgt := 99) hx hb dX10_state_51 ?o53 ?o54 (by rw [c_32]; rfl) ?o55 ?_
          case o53 => omega
          case o54 => omega
          case o55 => decide
          refine lv_aload_n hx hb dX10_state_99 rfl (lv_at hl 0 rfl) ?_
          refine hk_geti hx hb hts hC_10 hown hW (gx.S hM) tt_10 67 ?o56 rfl kw_1210 ⟨rfl, rfl, rfl⟩ fw_27 dX10_state_100 ?_
          case o56 => decide
          refine hx_reti hx hb hr hlk hW ⟨(Or.inr ⟨⟨⟨?o57, ?o58⟩, (by rw [show flf i1.toInt.toNat = x_7 from ax_7.symm]; omega), (by rw [show flf i1.toInt.toNat = x_7 from ax_7.symm]; omega)⟩, Or.inr (Or.inr (Or.inr (Or.inl ⟨?o59, (by rw [hc9]; exact hr_26.1)⟩)))⟩), hT, hM⟩ dX10_state_103
          case o57 => omega
          case o58 => omega
          case o59 => omega
        · refine lv_tableIn (off := 53) (tgt := 104) hx hb dX10_state_51 ?o60 ?o61 (by rw [c_32]; rfl) ?o62 ?_
          case o60 => omega
          case o61 => omega
          case o62 => decide
          refine lv_aload_n hx hb dX10_state_104 rfl (lv_at hl 0 rfl) ?_
          refine hk_geti hx hb hts hC_10 hown hW (gx.S hM) tt_10 69 ?o63 rfl kw_1212 ⟨rfl, rfl, rfl⟩ fw_29 dX10_state_105 ?_
          case o63 => decide
          refine hx_reti hx hb hr hlk hW ⟨(Or.inr ⟨⟨⟨?o64, ?o65⟩, (by rw [show flf i1.toInt.toNat = x_7 from ax_7.symm]; omega), (by rw [show flf i1.toInt.toNat = x_7 from ax_7.symm]; omega)⟩, Or.inr (Or.inr (Or.inr (Or.inr (⟨?o66, (by rw [hc9]; exact hr_26.2.2.1)⟩))))⟩), hT, hM⟩ dX10_state_108
          case o64 => omega
          case o65 => omega
          case o66 => omega
      · skip
        replace hr_19 := hr_19.resolve_right (fun z9 => absurd (c_20.symm.trans z9.1) ?o67)
        case o67 => decide
        replace hr_19 := hr_19.2
        refine lv_iconst (v := -1) hx hb dX10_state_40 ?o68 ?_
        case o68 => decide
        refine hx_reti hx hb hr hlk hW ⟨(Or.inl ⟨(fun hc => by have h1 := hc.2; rw [show flf i1.toInt.toNat = x_7 from ax_7.symm] at h1; omega), ?o69⟩), hT, hM⟩ dX10_state_41
        case o69 => decide


set_option maxHeartbeats 4000000 in
set_option maxRecDepth 100000 in
theorem t_X10_claim_v (l : Launch) (dC : Nat → ClassId) (dI : Nat → Nat → Nat) (dA : Nat → ClassId) (L : List Nat) (h : hx_h) (sz : Nat) (x : Nat) (i1 : Int32) (i2 : Int32) (hT : hx_T T_tb L h) (gx : hx_g L h x 10) (qby : Nat) (gqby : hx_g L h qby 72) (f_x_37 : h.2.2 x 37 = some qby) (qag : Nat) (gqag : hx_g L h qag 73) (f_x_38 : h.2.2 x 38 = some qag) (qsu : Nat) (gqsu : hx_g L h qsu 74) (f_x_39 : h.2.2 x 39 = some qsu) (qfl : Nat) (gqfl : hx_g L h qfl 78) (f_x_43 : h.2.2 x 43 = some qfl) (qtr : Nat) (gqtr : hx_g L h qtr 80) (f_x_45 : h.2.2 x 45 = some qtr) (qju : Nat) (gqju : hx_g L h qju 86) (f_x_51 : h.2.2 x 51 = some qju) (qbe : Nat) (gqbe : hx_g L h qbe 87) (f_x_52 : h.2.2 x 52 = some qbe) (qod : Nat) (gqod : hx_g L h qod 83) (f_x_48 : h.2.2 x 48 = some qod) (qwk : Nat) (gqwk : hx_g L h qwk 89) (f_x_54 : h.2.2 x 54 = some qwk) (qow : Nat) (gqow : hx_g L h qow 90) (f_x_55 : h.2.2 x 55 = some qow) (qpl : Nat) (gqpl : hx_g L h qpl 79) (f_x_44 : h.2.2 x 44 = some qpl) (qsz : Nat) (gqsz : hx_g L h qsz 84) (f_x_49 : h.2.2 x 49 = some qsz) (byf : Nat → Int32) (af_qby : h.2.1 qby = byf) (agf : Nat → Int32) (af_qag : h.2.1 qag = agf) (smf : Nat → Int32) (af_qsu : h.2.1 qsu = smf) (flf : Nat → Int32) (af_qfl : h.2.1 qfl = flf) (tf : Nat → Int32) (af_qtr : h.2.1 qtr = tf) (udf : Nat → Int32) (af_qju : h.2.1 qju = udf) (bnh : Nat → Int32) (af_qbe : h.2.1 qbe = bnh) (odf : Nat → Int32) (af_qod : h.2.1 qod = odf) (wkf : Nat → Int32) (af_qwk : h.2.1 qwk = wkf) (owf : Nat → Int32) (af_qow : h.2.1 qow = owf) (plf : Nat → Int32) (af_qpl : h.2.1 qpl = plf) (szf : Nat → Int32) (af_qsz : h.2.1 qsz = szf) (c0 : Int32) (f_x_36 : h.2.1 x 36 = c0) : Met l yX10_claim (Cond.code yX10_claim cX10_claim 3 (some .int) :: hx_all) ({ frames := 2, cells := 0, slots := 0, locals := 43 }) (va_Pc [.ref x, .int i1, .int i2] (hx_B T_tb (P_ty dA) (dC, dI) vwCl L h sz)) (va_Qi (fun (r : Int32) (u : List Nat × hx_h) => (hz_LS c0.toInt i1.toInt i2.toInt (hz_cv (byf i1.toInt.toNat).toInt (agf i1.toInt.toNat).toInt (smf i1.toInt.toNat).toInt (flf i1.toInt.toNat).toInt (tf i1.toInt.toNat).toInt (udf i1.toInt.toNat).toInt (bnh (3 * i1.toInt.toNat)).toInt (bnh (3 * i1.toInt.toNat + 1)).toInt (bnh (3 * i1.toInt.toNat + 2)).toInt (odf i1.toInt.toNat).toInt (wkf i1.toInt.toNat).toInt (owf i1.toInt.toNat).toInt ((plf i1.toInt.toNat).toInt - 1) (hz_sz1 (szf i1.toInt.toNat).toInt)) r.toInt) ∧ hx_T T_tb u.1 u.2 ∧ hx_S T_tb [] L h u.1 u.2) (hx_E T_tb (P_ty dA) (dC, dI) vwCl (hx_A L sz)) (hx_A L sz)) 0 0 (hx_A L sz) := by
  refine hx_met (lv := [(0, .ref x), (1, .int i1), (2, .int i2)]) (by decide +kernel) rfl (Nat.le_of_ble_eq_true rfl) rfl ?_
  intro p e s m below meth c hx hb hml hr hlk hts0 hown hin hsz hW ls hl
  have hts : ∀ w ∈ hx_all, w.before _ s = true := fun w hw => hts0 w (List.mem_cons_of_mem _ hw)
  have hown : s.vm.findClass "SmallCourtModel" = some m.cls := hown
  have hM : hx_S T_tb [] L h L h := hx_S.rf
  have b_c0 := hT.gi gx tt_10 (k := 36) rfl
  rw [f_x_36] at b_c0
  have b_c0 : 0 ≤ c0.toInt ∧ c0.toInt ≤ 100 := b_c0
  refine lv_aload_n hx hb dX10_claim_0 rfl (lv_at hl 0 rfl) ?_
  refine lv_iload_n hx hb dX10_claim_1 rfl (lv_at hl 1 rfl) ?_
  refine hx_goi (hx_runV (As := [.int i1]) (rest := []) ⟨hx, hb, hml, hown, hts⟩ hW (gx.S hM) tt_10 (T := TX10) (N := 98) rfl (t_X10_isClaim l dC dI dA L h s.heap.size x i1 hT (gx.S hM) c0 ((hM.o gx trivial rfl).1.trans f_x_36)) (cwV 1 hts (hx_gV kw_1597 kw_1594 kw_1596 kw_73 kw_103) rfl rfl rfl (by decide +kernel) ⟨Nat.le_of_ble_eq_true rfl, Nat.le_of_ble_eq_true rfl⟩) rfl hl.1 rfl (Nat.le_of_ble_eq_true rfl) dX10_claim_2 ⟨Nat.le_of_ble_eq_true rfl, Nat.le_of_ble_eq_true rfl⟩) hW (fun r_3 L_1 h_2 H locs p_4 hW => ?_)
  obtain ⟨hr_5, hT, hs⟩ := p_4
  replace hT : hx_T T_tb L_1 h_2 := hT
  replace hs : hx_S T_tb [] L h L_1 h_2 := hs
  replace hM := hM.tr (hs.mono ?o0)
  case o0 => decide
  refine hb_if_ne (zx := r_3.toInt) (tgt := 10) hx hb rfl dX10_claim_5 ?o1 (fun c_6 => ?_) (fun c_6 => ?_)
  case o1 => decide
  · skip
    replace hr_5 := hr_5.resolve_left (fun z9 => c_6 z9.1)
    replace c_6 := hr_5.1
    replace hr_5 := hr_5.2
    refine lv_iload_n hx hb dX10_claim_10 rfl (lv_at hl 2 rfl) ?_
    rcases (show (i2.toInt < 0 ∨ 13 < i2.toInt) ∨ i2.toInt = 0 ∨ i2.toInt = 1 ∨ i2.toInt = 2 ∨ i2.toInt = 3 ∨ i2.toInt = 4 ∨ i2.toInt = 5 ∨ i2.toInt = 6 ∨ i2.toInt = 7 ∨ i2.toInt = 8 ∨ i2.toInt = 9 ∨ i2.toInt = 10 ∨ i2.toInt = 11 ∨ i2.toInt = 12 ∨ i2.toInt = 13 from by omega) with c_7 | c_7 | c_7 | c_7 | c_7 | c_7 | c_7 | c_7 | c_7 | c_7 | c_7 | c_7 | c_7 | c_7 | c_7
    · refine lv_tableOut (tgt := 182) hx hb dX10_claim_11 c_7 ?o2 ?_
      case o2 => decide
      refine lv_iconst (v := -1) hx hb dX10_claim_182 ?o3 ?_
      case o3 => decide
      refine hx_reti hx hb hr hlk hW ⟨(Or.inl ⟨(fun hc => by have h1 := hc.2; omega), ?o4⟩), hT, hM⟩ dX10_claim_183
      case o4 => decide
    · refine lv_tableIn (off := 69) (tgt := 80) hx hb dX10_claim_11 ?o5 ?o6 (by rw [c_7]; rfl) ?o7 ?_
      case o5 => omega
      case o6 => omega
      case o7 => decide
      refine lv_aload_n hx hb dX10_claim_80 rfl (lv_at hl 0 rfl) ?_
      refine hk_getr hx hb hts hC_10 hown hW (gx.S hM) tt_10 37 ?o8 rfl kw_1180 ⟨rfl, rfl, rfl⟩ ((hM.o gx trivial rfl).2.trans f_x_37) dX10_claim_81 ?_
      case o8 => decide
      refine lv_iload_n hx hb dX10_claim_84 rfl (lv_at hl 1 rfl) ?_
      refine hx_iald hx hb hW hT (gqby.S hM) tt_72 rfl ⟨?o9, ?o10⟩ dX10_claim_85 (fun x_8 ex_8 lx_8 ux_8 => ?_)
      case o9 => omega
      case o10 => omega
      have ax_8 : x_8 = byf i1.toNatClampNeg := ex_8.trans (congrFun (hx_afS hM gqby rfl af_qby) _)
      refine hx_reti hx hb hr hlk hW ⟨(Or.inr ⟨⟨⟨?o11, ?o12⟩, ?o13, ?o14⟩, (by rw [show i2.toInt.toNat = 0 by omega]; exact congrArg Int32.toInt ax_8)⟩), hT, hM⟩ dX10_claim_86
      case o11 => omega
      case o12 => omega
      case o13 => omega
      case o14 => omega
    · refine lv_tableIn (off := 76) (tgt := 87) hx hb dX10_claim_11 ?o15 ?o16 (by rw [c_7]; rfl) ?o17 ?_
      case o15 => omega
      case o16 => omega
      case o17 => decide
      refine lv_aload_n hx hb dX10_claim_87 rfl (lv_at hl 0 rfl) ?_
      refine hk_getr hx hb hts hC_10 hown hW (gx.S hM) tt_10 38 ?o18 rfl kw_1181 ⟨rfl, rfl, rfl⟩ ((hM.o gx trivial rfl).2.trans f_x_38) dX10_claim_88 ?_
      case o18 => decide
      refine lv_iload_n hx hb dX10_claim_91 rfl (lv_at hl 1 rfl) ?_
      refine hx_iald hx hb hW hT (gqag.S hM) tt_73 rfl ⟨?o19, ?o20⟩ dX10_claim_92 (fun x_9 ex_9 lx_9 ux_9 => ?_)
      case o19 => omega
      case o20 => omega
      have ax_9 : x_9 = agf i1.toNatClampNeg := ex_9.trans (congrFun (hx_afS hM gqag rfl af_qag) _)
      refine hx_reti hx hb hr hlk hW ⟨(Or.inr ⟨⟨⟨?o21, ?o22⟩, ?o23, ?o24⟩, (by rw [show i2.toInt.toNat = 1 by omega]; exact congrArg Int32.toInt ax_9)⟩), hT, hM⟩ dX10_claim_93
      case o21 => omega
      case o22 => omega
      case o23 => omega
      case o24 => omega
    · refine lv_tableIn (off := 83) (tgt := 94) hx hb dX10_claim_11 ?o25 ?o26 (by rw [c_7]; rfl) ?o27 ?_
      case o25 => omega
      case o26 => omega
      case o27 => decide
      refine lv_aload_n hx hb dX10_claim_94 rfl (lv_at hl 0 rfl) ?_
      refine hk_getr hx hb hts hC_10 hown hW (gx.S hM) tt_10 39 ?o28 rfl kw_1182 ⟨rfl, rfl, rfl⟩ ((hM.o gx trivial rfl).2.trans f_x_39) dX10_claim_95 ?_
      case o28 => decide
      refine lv_iload_n hx hb dX10_claim_98 rfl (lv_at hl 1 rfl) ?_
      refine hx_iald hx hb hW hT (gqsu.S hM) tt_74 rfl ⟨?o29, ?o30⟩ dX10_claim_99 (fun x_10 ex_10 lx_10 ux_10 => ?_)
      case o29 => omega
      case o30 => omega
      have ax_10 : x_10 = smf i1.toNatClampNeg := ex_10.trans (congrFun (hx_afS hM gqsu rfl af_qsu) _)
      refine hx_reti hx hb hr hlk hW ⟨(Or.inr ⟨⟨⟨?o31, ?o32⟩, ?o33, ?o34⟩, (by rw [show i2.toInt.toNat = 2 by omega]; exact congrArg Int32.toInt ax_10)⟩), hT, hM⟩ dX10_claim_100
      case o31 => omega
      case o32 => omega
      case o33 => omega
      case o34 => omega
    · refine lv_tableIn (off := 90) (tgt := 101) hx hb dX10_claim_11 ?o35 ?o36 (by rw [c_7]; rfl) ?o37 ?_
      case o35 => omega
      case o36 => omega
      case o37 => decide
      refine lv_aload_n hx hb dX10_claim_101 rfl (lv_at hl 0 rfl) ?_
      refine hk_getr hx hb hts hC_10 hown hW (gx.S hM) tt_10 43 ?o38 rfl kw_1186 ⟨rfl, rfl, rfl⟩ ((hM.o gx trivial rfl).2.trans f_x_43) dX10_claim_102 ?_
      case o38 => decide
      refine lv_iload_n hx hb dX10_claim_105 rfl (lv_at hl 1 rfl) ?_
      refine hx_iald hx hb hW hT (gqfl.S hM) tt_78 rfl ⟨?o39, ?o40⟩ dX10_claim_106 (fun x_11 ex_11 lx_11 ux_11 => ?_)
      case o39 => omega
      case o40 => omega
      have ax_11 : x_11 = flf i1.toNatClampNeg := ex_11.trans (congrFun (hx_afS hM gqfl rfl af_qfl) _)
      refine hx_reti hx hb hr hlk hW ⟨(Or.inr ⟨⟨⟨?o41, ?o42⟩, ?o43, ?o44⟩, (by rw [show i2.toInt.toNat = 3 by omega]; exact congrArg Int32.toInt ax_11)⟩), hT, hM⟩ dX10_claim_107
      case o41 => omega
      case o42 => omega
      case o43 => omega
      case o44 => omega
    · refine lv_tableIn (off := 97) (tgt := 108) hx hb dX10_claim_11 ?o45 ?o46 (by rw [c_7]; rfl) ?o47 ?_
      case o45 => omega
      case o46 => omega
      case o47 => decide
      refine lv_aload_n hx hb dX10_claim_108 rfl (lv_at hl 0 rfl) ?_
      refine hk_getr hx hb hts hC_10 hown hW (gx.S hM) tt_10 45 ?o48 rfl kw_1188 ⟨rfl, rfl, rfl⟩ ((hM.o gx trivial rfl).2.trans f_x_45) dX10_claim_109 ?_
      case o48 => decide
      refine lv_iload_n hx hb dX10_claim_112 rfl (lv_at hl 1 rfl) ?_
      refine hx_iald hx hb hW hT (gqtr.S hM) tt_80 rfl ⟨?o49, ?o50⟩ dX10_claim_113 (fun x_12 ex_12 lx_12 ux_12 => ?_)
      case o49 => omega
      case o50 => omega
      have ax_12 : x_12 = tf i1.toNatClampNeg := ex_12.trans (congrFun (hx_afS hM gqtr rfl af_qtr) _)
      refine hx_reti hx hb hr hlk hW ⟨(Or.inr ⟨⟨⟨?o51, ?o52⟩, ?o53, ?o54⟩, (by rw [show i2.toInt.toNat = 4 by omega]; exact congrArg Int32.toInt ax_12)⟩), hT, hM⟩ dX10_claim_114
      case o51 => omega
      case o52 => omega
      case o53 => omega
      case o54 => omega
    · refine lv_tableIn (off := 104) (tgt := 115) hx hb dX10_claim_11 ?o55 ?o56 (by rw [c_7]; rfl) ?o57 ?_
      case o55 => omega
      case o56 => omega
      case o57 => decide
      refine lv_aload_n hx hb dX10_claim_115 rfl (lv_at hl 0 rfl) ?_
      refine hk_getr hx hb hts hC_10 hown hW (gx.S hM) tt_10 51 ?o58 rfl kw_1194 ⟨rfl, rfl, rfl⟩ ((hM.o gx trivial rfl).2.trans f_x_51) dX10_claim_116 ?_
      case o58 => decide
      refine lv_iload_n hx hb dX10_claim_119 rfl (lv_at hl 1 rfl) ?_
      refine hx_iald hx hb hW hT (gqju.S hM) tt_86 rfl ⟨?o59, ?o60⟩ dX10_claim_120 (fun x_13 ex_13 lx_13 ux_13 => ?_)
      case o59 => omega
      case o60 => omega
      have ax_13 : x_13 = udf i1.toNatClampNeg := ex_13.trans (congrFun (hx_afS hM gqju rfl af_qju) _)
      refine hx_reti hx hb hr hlk hW ⟨(Or.inr ⟨⟨⟨?o61, ?o62⟩, ?o63, ?o64⟩, (by rw [show i2.toInt.toNat = 5 by omega]; exact congrArg Int32.toInt ax_13)⟩), hT, hM⟩ dX10_claim_121
      case o61 => omega
      case o62 => omega
      case o63 => omega
      case o64 => omega
    · refine lv_tableIn (off := 111) (tgt := 122) hx hb dX10_claim_11 ?o65 ?o66 (by rw [c_7]; rfl) ?o67 ?_
      case o65 => omega
      case o66 => omega
      case o67 => decide
      refine lv_aload_n hx hb dX10_claim_122 rfl (lv_at hl 0 rfl) ?_
      refine hk_getr hx hb hts hC_10 hown hW (gx.S hM) tt_10 52 ?o68 rfl kw_1195 ⟨rfl, rfl, rfl⟩ ((hM.o gx trivial rfl).2.trans f_x_52) dX10_claim_123 ?_
      case o68 => decide
      refine lv_iconst (v := 3) hx hb dX10_claim_126 ?o69 ?_
      case o69 => decide
      refine lv_iload_n hx hb dX10_claim_127 rfl (lv_at hl 1 rfl) ?_
      refine lv_imul hx hb dX10_claim_128 ?_
      refine lv_topi (fun x_14 ex_14 => ?_)
      have zx_14 : x_14.toInt = 3 * i1.toInt := ?o70
      case o70 =>
        rw [ex_14]
        refine i32_mul ?o71 rfl rfl ?o72 ?o73
        case o71 => decide
        case o72 => omega
        case o73 => omega
      refine lv_iload_n hx hb dX10_claim_129 rfl (lv_at hl 2 rfl) ?_
      refine lv_iadd hx hb dX10_claim_130 ?_
      have rg_15 := i32_r x_14
      have rg_16 := i32_r i2
      refine lv_topi (fun x_17 ex_17 => ?_)
      have zx_17 : x_17.toInt = x_14.toInt + i2.toInt := ?o74
      case o74 =>
        rw [ex_17]
        refine i32_add rfl rfl ?o75 ?o76
        case o75 => omega
        case o76 => omega
      refine lv_bipush (v := 6) hx hb dX10_claim_131 ?o77 ?_
      case o77 => decide
      refine lv_isub hx hb dX10_claim_133 ?_
      have rg_18 := i32_r x_17
      refine lv_topi (fun x_19 ex_19 => ?_)
      have zx_19 : x_19.toInt = x_17.toInt - 6 := ?o78
      case o78 =>
        rw [ex_19]
        refine i32_sub rfl ?o79 ?o80 ?o81
        case o79 => decide
        case o80 => omega
        case o81 => omega
      refine hx_iald hx hb hW hT (gqbe.S hM) tt_87 rfl ⟨?o82, ?o83⟩ dX10_claim_134 (fun x_20 ex_20 lx_20 ux_20 => ?_)
      case o82 => omega
      case o83 => omega
      have ax_20 : x_20 = bnh x_19.toNatClampNeg := ex_20.trans (congrFun (hx_afS hM gqbe rfl af_qbe) _)
      refine hx_reti hx hb hr hlk hW ⟨(Or.inr ⟨⟨⟨?o84, ?o85⟩, ?o86, ?o87⟩, (by rcases (show i2.toInt = 6 ∨ i2.toInt = 7 ∨ i2.toInt = 8 by omega) with z9 | z9 | z9 <;> (rw [z9]; show _ = (bnh _).toInt; rw [ax_20]; congr 2; unfold Int32.toNatClampNeg; omega))⟩), hT, hM⟩ dX10_claim_135
      case o84 => omega
      case o85 => omega
      case o86 => omega
      case o87 => omega
    · refine lv_tableIn (off := 111) (tgt := 122) hx hb dX10_claim_11 ?o88 ?o89 (by rw [c_7]; rfl) ?o90 ?_
      case o88 => omega
      case o89 => omega
      case o90 => decide
      refine lv_aload_n hx hb dX10_claim_122 rfl (lv_at hl 0 rfl) ?_
      refine hk_getr hx hb hts hC_10 hown hW (gx.S hM) tt_10 52 ?o91 rfl kw_1195 ⟨rfl, rfl, rfl⟩ ((hM.o gx trivial rfl).2.trans f_x_52) dX10_claim_123 ?_
      case o91 => decide
      refine lv_iconst (v := 3) hx hb dX10_claim_126 ?o92 ?_
      case o92 => decide
      refine lv_iload_n hx hb dX10_claim_127 rfl (lv_at hl 1 rfl) ?_
      refine lv_imul hx hb dX10_claim_128 ?_
      refine lv_topi (fun x_21 ex_21 => ?_)
      have zx_21 : x_21.toInt = 3 * i1.toInt := ?o93
      case o93 =>
        rw [ex_21]
        refine i32_mul ?o94 rfl rfl ?o95 ?o96
        case o94 => decide
        case o95 => omega
        case o96 => omega
      refine lv_iload_n hx hb dX10_claim_129 rfl (lv_at hl 2 rfl) ?_
      refine lv_iadd hx hb dX10_claim_130 ?_
      have rg_22 := i32_r x_21
      have rg_23 := i32_r i2
      refine lv_topi (fun x_24 ex_24 => ?_)
      have zx_24 : x_24.toInt = x_21.toInt + i2.toInt := ?o97
      case o97 =>
        rw [ex_24]
        refine i32_add rfl rfl ?o98 ?o99
        case o98 => omega
        case o99 => omega
      refine lv_bipush (v := 6) hx hb dX10_claim_131 ?o100 ?_
      case o100 => decide
      refine lv_isub hx hb dX10_claim_133 ?_
      have rg_25 := i32_r x_24
      refine lv_topi (fun x_26 ex_26 => ?_)
      have zx_26 : x_26.toInt = x_24.toInt - 6 := ?o101
      case o101 =>
        rw [ex_26]
        refine i32_sub rfl ?o102 ?o103 ?o104
        case o102 => decide
        case o103 => omega
        case o104 => omega
      refine hx_iald hx hb hW hT (gqbe.S hM) tt_87 rfl ⟨?o105, ?o106⟩ dX10_claim_134 (fun x_27 ex_27 lx_27 ux_27 => ?_)
      case o105 => omega
      case o106 => omega
      have ax_27 : x_27 = bnh x_26.toNatClampNeg := ex_27.trans (congrFun (hx_afS hM gqbe rfl af_qbe) _)
      refine hx_reti hx hb hr hlk hW ⟨(Or.inr ⟨⟨⟨?o107, ?o108⟩, ?o109, ?o110⟩, (by rcases (show i2.toInt = 6 ∨ i2.toInt = 7 ∨ i2.toInt = 8 by omega) with z9 | z9 | z9 <;> (rw [z9]; show _ = (bnh _).toInt; rw [ax_27]; congr 2; unfold Int32.toNatClampNeg; omega))⟩), hT, hM⟩ dX10_claim_135
      case o107 => omega
      case o108 => omega
      case o109 => omega
      case o110 => omega
    · refine lv_tableIn (off := 111) (tgt := 122) hx hb dX10_claim_11 ?o111 ?o112 (by rw [c_7]; rfl) ?o113 ?_
      case o111 => omega
      case o112 => omega
      case o113 => decide
      refine lv_aload_n hx hb dX10_claim_122 rfl (lv_at hl 0 rfl) ?_
      refine hk_getr hx hb hts hC_10 hown hW (gx.S hM) tt_10 52 ?o114 rfl kw_1195 ⟨rfl, rfl, rfl⟩ ((hM.o gx trivial rfl).2.trans f_x_52) dX10_claim_123 ?_
      case o114 => decide
      refine lv_iconst (v := 3) hx hb dX10_claim_126 ?o115 ?_
      case o115 => decide
      refine lv_iload_n hx hb dX10_claim_127 rfl (lv_at hl 1 rfl) ?_
      refine lv_imul hx hb dX10_claim_128 ?_
      refine lv_topi (fun x_28 ex_28 => ?_)
      have zx_28 : x_28.toInt = 3 * i1.toInt := ?o116
      case o116 =>
        rw [ex_28]
        refine i32_mul ?o117 rfl rfl ?o118 ?o119
        case o117 => decide
        case o118 => omega
        case o119 => omega
      refine lv_iload_n hx hb dX10_claim_129 rfl (lv_at hl 2 rfl) ?_
      refine lv_iadd hx hb dX10_claim_130 ?_
      have rg_29 := i32_r x_28
      have rg_30 := i32_r i2
      refine lv_topi (fun x_31 ex_31 => ?_)
      have zx_31 : x_31.toInt = x_28.toInt + i2.toInt := ?o120
      case o120 =>
        rw [ex_31]
        refine i32_add rfl rfl ?o121 ?o122
        case o121 => omega
        case o122 => omega
      refine lv_bipush (v := 6) hx hb dX10_claim_131 ?o123 ?_
      case o123 => decide
      refine lv_isub hx hb dX10_claim_133 ?_
      have rg_32 := i32_r x_31
      refine lv_topi (fun x_33 ex_33 => ?_)
      have zx_33 : x_33.toInt = x_31.toInt - 6 := ?o124
      case o124 =>
        rw [ex_33]
        refine i32_sub rfl ?o125 ?o126 ?o127
        case o125 => decide
        case o126 => omega
        case o127 => omega
      refine hx_iald hx hb hW hT (gqbe.S hM) tt_87 rfl ⟨?o128, ?o129⟩ dX10_claim_134 (fun x_34 ex_34 lx_34 ux_34 => ?_)
      case o128 => omega
      case o129 => omega
      have ax_34 : x_34 = bnh x_33.toNatClampNeg := ex_34.trans (congrFun (hx_afS hM gqbe rfl af_qbe) _)
      refine hx_reti hx hb hr hlk hW ⟨(Or.inr ⟨⟨⟨?o130, ?o131⟩, ?o132, ?o133⟩, (by rcases (show i2.toInt = 6 ∨ i2.toInt = 7 ∨ i2.toInt = 8 by omega) with z9 | z9 | z9 <;> (rw [z9]; show _ = (bnh _).toInt; rw [ax_34]; congr 2; unfold Int32.toNatClampNeg; omega))⟩), hT, hM⟩ dX10_claim_135
      case o130 => omega
      case o131 => omega
      case o132 => omega
      case o133 => omega
    · refine lv_tableIn (off := 125) (tgt := 136) hx hb dX10_claim_11 ?o134 ?o135 (by rw [c_7]; rfl) ?o136 ?_
      case o134 => omega
      case o135 => omega
      case o136 => decide
      refine lv_aload_n hx hb dX10_claim_136 rfl (lv_at hl 0 rfl) ?_
      refine hk_getr hx hb hts hC_10 hown hW (gx.S hM) tt_10 48 ?o137 rfl kw_1191 ⟨rfl, rfl, rfl⟩ ((hM.o gx trivial rfl).2.trans f_x_48) dX10_claim_137 ?_
      case o137 => decide
      refine lv_iload_n hx hb dX10_claim_140 rfl (lv_at hl 1 rfl) ?_
      refine hx_iald hx hb hW hT (gqod.S hM) tt_83 rfl ⟨?o138, ?o139⟩ dX10_claim_141 (fun x_35 ex_35 lx_35 ux_35 => ?_)
      case o138 => omega
      case o139 => omega
      have ax_35 : x_35 = odf i1.toNatClampNeg := ex_35.trans (congrFun (hx_afS hM gqod rfl af_qod) _)
      refine hx_reti hx hb hr hlk hW ⟨(Or.inr ⟨⟨⟨?o140, ?o141⟩, ?o142, ?o143⟩, (by rw [show i2.toInt.toNat = 9 by omega]; exact congrArg Int32.toInt ax_35)⟩), hT, hM⟩ dX10_claim_142
      case o140 => omega
      case o141 => omega
      case o142 => omega
      case o143 => omega
    · refine lv_tableIn (off := 132) (tgt := 143) hx hb dX10_claim_11 ?o144 ?o145 (by rw [c_7]; rfl) ?o146 ?_
      case o144 => omega
      case o145 => omega
      case o146 => decide
      refine lv_aload_n hx hb dX10_claim_143 rfl (lv_at hl 0 rfl) ?_
      refine hk_getr hx hb hts hC_10 hown hW (gx.S hM) tt_10 54 ?o147 rfl kw_1197 ⟨rfl, rfl, rfl⟩ ((hM.o gx trivial rfl).2.trans f_x_54) dX10_claim_144 ?_
      case o147 => decide
      refine lv_iload_n hx hb dX10_claim_147 rfl (lv_at hl 1 rfl) ?_
      refine hx_iald hx hb hW hT (gqwk.S hM) tt_89 rfl ⟨?o148, ?o149⟩ dX10_claim_148 (fun x_36 ex_36 lx_36 ux_36 => ?_)
      case o148 => omega
      case o149 => omega
      have ax_36 : x_36 = wkf i1.toNatClampNeg := ex_36.trans (congrFun (hx_afS hM gqwk rfl af_qwk) _)
      refine hx_reti hx hb hr hlk hW ⟨(Or.inr ⟨⟨⟨?o150, ?o151⟩, ?o152, ?o153⟩, (by rw [show i2.toInt.toNat = 10 by omega]; exact congrArg Int32.toInt ax_36)⟩), hT, hM⟩ dX10_claim_149
      case o150 => omega
      case o151 => omega
      case o152 => omega
      case o153 => omega
    · refine lv_tableIn (off := 139) (tgt := 150) hx hb dX10_claim_11 ?o154 ?o155 (by rw [c_7]; rfl) ?o156 ?_
      case o154 => omega
      case o155 => omega
      case o156 => decide
      refine lv_aload_n hx hb dX10_claim_150 rfl (lv_at hl 0 rfl) ?_
      refine hk_getr hx hb hts hC_10 hown hW (gx.S hM) tt_10 55 ?o157 rfl kw_1198 ⟨rfl, rfl, rfl⟩ ((hM.o gx trivial rfl).2.trans f_x_55) dX10_claim_151 ?_
      case o157 => decide
      refine lv_iload_n hx hb dX10_claim_154 rfl (lv_at hl 1 rfl) ?_
      refine hx_iald hx hb hW hT (gqow.S hM) tt_90 rfl ⟨?o158, ?o159⟩ dX10_claim_155 (fun x_37 ex_37 lx_37 ux_37 => ?_)
      case o158 => omega
      case o159 => omega
      have ax_37 : x_37 = owf i1.toNatClampNeg := ex_37.trans (congrFun (hx_afS hM gqow rfl af_qow) _)
      refine hx_reti hx hb hr hlk hW ⟨(Or.inr ⟨⟨⟨?o160, ?o161⟩, ?o162, ?o163⟩, (by rw [show i2.toInt.toNat = 11 by omega]; exact congrArg Int32.toInt ax_37)⟩), hT, hM⟩ dX10_claim_156
      case o160 => omega
      case o161 => omega
      case o162 => omega
      case o163 => omega
    · refine lv_tableIn (off := 146) (tgt := 157) hx hb dX10_claim_11 ?o164 ?o165 (by rw [c_7]; rfl) ?o166 ?_
      case o164 => omega
      case o165 => omega
      case o166 => decide
      refine lv_aload_n hx hb dX10_claim_157 rfl (lv_at hl 0 rfl) ?_
      refine hk_getr hx hb hts hC_10 hown hW (gx.S hM) tt_10 44 ?o167 rfl kw_1187 ⟨rfl, rfl, rfl⟩ ((hM.o gx trivial rfl).2.trans f_x_44) dX10_claim_158 ?_
      case o167 => decide
      refine lv_iload_n hx hb dX10_claim_161 rfl (lv_at hl 1 rfl) ?_
      refine hx_iald hx hb hW hT (gqpl.S hM) tt_79 rfl ⟨?o168, ?o169⟩ dX10_claim_162 (fun x_38 ex_38 lx_38 ux_38 => ?_)
      case o168 => omega
      case o169 => omega
      have ax_38 : x_38 = plf i1.toNatClampNeg := ex_38.trans (congrFun (hx_afS hM gqpl rfl af_qpl) _)
      refine lv_iconst (v := 1) hx hb dX10_claim_163 ?o170 ?_
      case o170 => decide
      refine lv_isub hx hb dX10_claim_164 ?_
      have rg_39 := i32_r x_38
      refine lv_topi (fun x_40 ex_40 => ?_)
      have zx_40 : x_40.toInt = x_38.toInt - 1 := ?o171
      case o171 =>
        rw [ex_40]
        refine i32_sub rfl ?o172 ?o173 ?o174
        case o172 => decide
        case o173 => omega
        case o174 => omega
      refine hx_reti hx hb hr hlk hW ⟨(Or.inr ⟨⟨⟨?o175, ?o176⟩, ?o177, ?o178⟩, (by rw [show i2.toInt.toNat = 12 by omega]; show _ = (plf i1.toInt.toNat).toInt - 1; rw [show plf i1.toInt.toNat = x_38 from ax_38.symm]; omega)⟩), hT, hM⟩ dX10_claim_165
      case o175 => omega
      case o176 => omega
      case o177 => omega
      case o178 => omega
    · refine lv_tableIn (off := 155) (tgt := 166) hx hb dX10_claim_11 ?o179 ?o180 (by rw [c_7]; rfl) ?o181 ?_
      case o179 => omega
      case o180 => omega
      case o181 => decide
      refine lv_aload_n hx hb dX10_claim_166 rfl (lv_at hl 0 rfl) ?_
      refine hk_getr hx hb hts hC_10 hown hW (gx.S hM) tt_10 49 ?o182 rfl kw_1192 ⟨rfl, rfl, rfl⟩ ((hM.o gx trivial rfl).2.trans f_x_49) dX10_claim_167 ?_
      case o182 => decide
      refine lv_iload_n hx hb dX10_claim_170 rfl (lv_at hl 1 rfl) ?_
      refine hx_iald hx hb hW hT (gqsz.S hM) tt_84 rfl ⟨?o183, ?o184⟩ dX10_claim_171 (fun x_41 ex_41 lx_41 ux_41 => ?_)
      case o183 => omega
      case o184 => omega
      have ax_41 : x_41 = szf i1.toNatClampNeg := ex_41.trans (congrFun (hx_afS hM gqsz rfl af_qsz) _)
      refine lv_iconst (v := -1) hx hb dX10_claim_172 ?o185 ?_
      case o185 => decide
      refine hb_icmp_ne (zx := x_41.toInt) (zy := (-1)) (tgt := 180) hx hb rfl ?o186 dX10_claim_173 ?o187 (fun c_42 => ?_) (fun c_42 => ?_)
      case o186 => decide
      case o187 => decide
      · skip
        refine lv_iconst (v := 1) hx hb dX10_claim_180 ?o188 ?_
        case o188 => decide
        refine hx_reti hx hb hr hlk hW ⟨(Or.inr ⟨⟨⟨?o189, ?o190⟩, ?o191, ?o192⟩, (by rw [show i2.toInt.toNat = 13 by omega]; show _ = hz_sz1 (szf i1.toInt.toNat).toInt; rw [show szf i1.toInt.toNat = x_41 from ax_41.symm]; unfold hz_sz1; have zr : (1 : Int32).toInt = 1 := (by decide); split <;> omega)⟩), hT, hM⟩ dX10_claim_181
        case o189 => omega
        case o190 => omega
        case o191 => omega
        case o192 => omega
      · skip
        refine lv_iconst (v := 0) hx hb dX10_claim_176 ?o193 ?_
        case o193 => decide
        refine lv_goto (tgt := 181) hx hb dX10_claim_177 ?o194 ?_
        case o194 => decide
        refine hx_reti hx hb hr hlk hW ⟨(Or.inr ⟨⟨⟨?o195, ?o196⟩, ?o197, ?o198⟩, (by rw [show i2.toInt.toNat = 13 by omega]; show _ = hz_sz1 (szf i1.toInt.toNat).toInt; rw [show szf i1.toInt.toNat = x_41 from ax_41.symm]; unfold hz_sz1; have zr : (0 : Int32).toInt = 0 := (by decide); split <;> omega)⟩), hT, hM⟩ dX10_claim_181
        case o195 => omega
        case o196 => omega
        case o197 => omega
        case o198 => omega
  · skip
    replace hr_5 := hr_5.resolve_right (fun z9 => absurd (c_6.symm.trans z9.1) ?o199)
    case o199 => decide
    replace hr_5 := hr_5.2
    refine lv_iconst (v := -1) hx hb dX10_claim_8 ?o200 ?_
    case o200 => decide
    refine hx_reti hx hb hr hlk hW ⟨(Or.inl ⟨(fun hc => by have h1 := hc.1; omega), ?o201⟩), hT, hM⟩ dX10_claim_9
    case o201 => decide


set_option maxHeartbeats 4000000 in
set_option maxRecDepth 100000 in
theorem t_X10_count_v (l : Launch) (dC : Nat → ClassId) (dI : Nat → Nat → Nat) (dA : Nat → ClassId) (L : List Nat) (h : hx_h) (sz : Nat) (x : Nat) (i1 : Int32) (hT : hx_T T_tb L h) (gx : hx_g L h x 10) (qj : Nat) (gqj : hx_g L h qj 65) (f_x_28 : h.2.2 x 28 = some qj) (qd : Nat) (gqd : hx_g L h qd 64) (f_x_27 : h.2.2 x 27 = some qd) (jf : Nat → Int32) (af_qj : h.2.1 qj = jf) (df : Nat → Int32) (af_qd : h.2.1 qd = df) (c0 : Int32) (f_x_36 : h.2.1 x 36 = c0) (a0 : Int32) (f_x_1 : h.2.1 x 1 = a0) (nw0 : Int32) (f_x_0 : h.2.1 x 0 = nw0) (n0 : Int32) (f_x_59 : h.2.1 x 59 = n0) (pn0 : Int32) (f_x_20 : h.2.1 x 20 = pn0) (ln0 : Int32) (f_x_29 : h.2.1 x 29 = ln0) (tl0 : Int32) (f_x_7 : h.2.1 x 7 = tl0) (ls0 : Int32) (f_x_90 : h.2.1 x 90 = ls0) : Met l yX10_count (Cond.code yX10_count cX10_count 4 (some .int) :: hx_all) ({ frames := 0, cells := 0, slots := 0, locals := 0 }) (va_Pc [.ref x, .int i1] (hx_B T_tb (P_ty dA) (dC, dI) vwCl L h sz)) (va_Qi (fun (r : Int32) (u : List Nat × hx_h) => (hz_CT i1.toInt (hz_cv nw0.toInt a0.toInt pn0.toInt (hz_lj jf df pn0.toInt.toNat) ln0.toInt c0.toInt n0.toInt tl0.toInt ls0.toInt 0 0 0 0 0) r.toInt) ∧ hx_T T_tb u.1 u.2 ∧ hx_S T_tb [] L h u.1 u.2) (hx_E T_tb (P_ty dA) (dC, dI) vwCl (hx_A L sz)) (hx_A L sz)) 0 0 (hx_A L sz) := by
  refine hx_met (lv := [(0, .ref x), (1, .int i1)]) (by decide +kernel) rfl (Nat.le_of_ble_eq_true rfl) rfl ?_
  intro p e s m below meth c hx hb hml hr hlk hts0 hown hin hsz hW ls hl
  have hts : ∀ w ∈ hx_all, w.before _ s = true := fun w hw => hts0 w (List.mem_cons_of_mem _ hw)
  have hown : s.vm.findClass "SmallCourtModel" = some m.cls := hown
  have hM : hx_S T_tb [] L h L h := hx_S.rf
  have b_c0 := hT.gi gx tt_10 (k := 36) rfl
  rw [f_x_36] at b_c0
  have b_c0 : 0 ≤ c0.toInt ∧ c0.toInt ≤ 100 := b_c0
  have b_a0 := hT.gi gx tt_10 (k := 1) rfl
  rw [f_x_1] at b_a0
  have b_a0 : 0 ≤ a0.toInt ∧ a0.toInt ≤ 8 := b_a0
  have b_nw0 := hT.gi gx tt_10 (k := 0) rfl
  rw [f_x_0] at b_nw0
  have b_nw0 : 0 ≤ nw0.toInt ∧ nw0.toInt ≤ 7999 := b_nw0
  have b_n0 := hT.gi gx tt_10 (k := 59) rfl
  rw [f_x_59] at b_n0
  have b_n0 : 0 ≤ n0.toInt ∧ n0.toInt ≤ 600 := b_n0
  have b_pn0 := hT.gi gx tt_10 (k := 20) rfl
  rw [f_x_20] at b_pn0
  have b_pn0 : 0 ≤ pn0.toInt ∧ pn0.toInt ≤ 40 := b_pn0
  have b_ln0 := hT.gi gx tt_10 (k := 29) rfl
  rw [f_x_29] at b_ln0
  have b_ln0 : 0 ≤ ln0.toInt ∧ ln0.toInt ≤ 400 := b_ln0
  have b_tl0 := hT.gi gx tt_10 (k := 7) rfl
  rw [f_x_7] at b_tl0
  have b_tl0 : 0 ≤ tl0.toInt ∧ tl0.toInt ≤ 400 := b_tl0
  have b_ls0 := hT.gi gx tt_10 (k := 90) rfl
  rw [f_x_90] at b_ls0
  have b_ls0 : 0 ≤ ls0.toInt ∧ ls0.toInt ≤ 8 := b_ls0
  refine lv_iconst (v := 0) hx hb dX10_count_0 ?o0 ?_
  case o0 => decide
  refine lv_istore_n (lv' := [(2, .int (0 : Int32)), (0, .ref x), (1, .int i1)]) hx hb dX10_count_1 rfl hl ?o1 rfl (fun ls hl => ?_)
  case o1 => decide
  refine lv_iload_n hx hb dX10_count_2 rfl (lv_at hl 2 rfl) ?_
  rcases (show (i1.toInt < 0 ∨ 8 < i1.toInt) ∨ i1.toInt = 0 ∨ i1.toInt = 1 ∨ i1.toInt = 2 ∨ i1.toInt = 3 ∨ i1.toInt = 4 ∨ i1.toInt = 5 ∨ i1.toInt = 6 ∨ i1.toInt = 7 ∨ i1.toInt = 8 from by omega) with c_1 | c_1 | c_1 | c_1 | c_1 | c_1 | c_1 | c_1 | c_1 | c_1
  · refine lv_tableOut (tgt := 136) hx hb dX10_count_3 c_1 ?o2 ?_
    case o2 => decide
    refine lv_iconst (v := -1) hx hb dX10_count_136 ?o3 ?_
    case o3 => decide
    refine hx_reti hx hb hr hlk hW ⟨(Or.inl ⟨?o4, ?o5⟩), hT, hM⟩ dX10_count_137
    case o4 => omega
    case o5 => decide
  · refine lv_tableIn (off := 49) (tgt := 52) hx hb dX10_count_3 ?o6 ?o7 (by rw [c_1]; rfl) ?o8 ?_
    case o6 => omega
    case o7 => omega
    case o8 => decide
    refine lv_aload_n hx hb dX10_count_52 rfl (lv_at hl 1 rfl) ?_
    refine hk_geti hx hb hts hC_10 hown hW (gx.S hM) tt_10 0 ?o9 rfl kw_1143 ⟨rfl, rfl, rfl⟩ ((hM.o gx trivial rfl).1.trans f_x_0) dX10_count_53 ?_
    case o9 => decide
    refine hx_reti hx hb hr hlk hW ⟨(Or.inr ⟨?o10, (by rw [show i1.toInt.toNat = 0 by omega]; rfl)⟩), hT, hM⟩ dX10_count_56
    case o10 => omega
  · refine lv_tableIn (off := 54) (tgt := 57) hx hb dX10_count_3 ?o11 ?o12 (by rw [c_1]; rfl) ?o13 ?_
    case o11 => omega
    case o12 => omega
    case o13 => decide
    refine lv_aload_n hx hb dX10_count_57 rfl (lv_at hl 1 rfl) ?_
    refine hk_geti hx hb hts hC_10 hown hW (gx.S hM) tt_10 1 ?o14 rfl kw_1144 ⟨rfl, rfl, rfl⟩ ((hM.o gx trivial rfl).1.trans f_x_1) dX10_count_58 ?_
    case o14 => decide
    refine hx_reti hx hb hr hlk hW ⟨(Or.inr ⟨?o15, (by rw [show i1.toInt.toNat = 1 by omega]; rfl)⟩), hT, hM⟩ dX10_count_61
    case o15 => omega
  · refine lv_tableIn (off := 59) (tgt := 62) hx hb dX10_count_3 ?o16 ?o17 (by rw [c_1]; rfl) ?o18 ?_
    case o16 => omega
    case o17 => omega
    case o18 => decide
    refine lv_aload_n hx hb dX10_count_62 rfl (lv_at hl 1 rfl) ?_
    refine hk_geti hx hb hts hC_10 hown hW (gx.S hM) tt_10 20 ?o19 rfl kw_1163 ⟨rfl, rfl, rfl⟩ ((hM.o gx trivial rfl).1.trans f_x_20) dX10_count_63 ?_
    case o19 => decide
    refine hx_reti hx hb hr hlk hW ⟨(Or.inr ⟨?o20, (by rw [show i1.toInt.toNat = 2 by omega]; rfl)⟩), hT, hM⟩ dX10_count_66
    case o20 => omega
  · refine lv_tableIn (off := 64) (tgt := 67) hx hb dX10_count_3 ?o21 ?o22 (by rw [c_1]; rfl) ?o23 ?_
    case o21 => omega
    case o22 => omega
    case o23 => decide
    refine lv_iconst (v := 0) hx hb dX10_count_67 ?o24 ?_
    case o24 => decide
    refine lv_istore_n (lv' := [(3, .int (0 : Int32)), (2, .int (0 : Int32)), (0, .ref x), (1, .int i1)]) hx hb dX10_count_68 rfl hl ?o25 rfl (fun ls hl => ?_)
    case o25 => decide
    have loop69 : ∀ (n69 : Nat) (iv69_2 iv69_3 : Int32) (H : Heap) (locs : List Loc) (hL1 : List Nat) (hl1 : hx_h), 0 ≤ iv69_2.toInt → iv69_2.toInt ≤ 40 → 0 ≤ iv69_3.toInt → iv69_3.toInt ≤ 40 → (iv69_2.toInt = hz_lj jf df (iv69_3.toInt).toNat) → (iv69_2.toInt ≤ iv69_3.toInt) → (iv69_3.toInt ≤ pn0.toInt) → ∀ (ls : Array Slot), 40 - iv69_3.toInt < (n69 : Int) → hx_W T_tb (P_ty dA) (dC, dI) vwCl (hx_A L sz) s.heap hL1 hl1 s H locs → hx_T T_tb hL1 hl1 → hx_S T_tb [] L h hL1 hl1 → lv_has ls 4 [(3, .int iv69_3), (2, .int iv69_2), (0, .ref x), (1, .int i1)] → W p l e ({ frames := 0, cells := 0, slots := 0, locals := 0 }) s m ([.ref x, .int i1] : List Value).toArray below meth c H locs 0 0 (MQ below (va_Qi (fun (r : Int32) (u : List Nat × hx_h) => (hz_CT i1.toInt (hz_cv nw0.toInt a0.toInt pn0.toInt (hz_lj jf df pn0.toInt.toNat) ln0.toInt c0.toInt n0.toInt tl0.toInt ls0.toInt 0 0 0 0 0) r.toInt) ∧ hx_T T_tb u.1 u.2 ∧ hx_S T_tb [] L h u.1 u.2) (hx_E T_tb (P_ty dA) (dC, dI) vwCl (hx_A L sz)) (hx_A L sz)) ([.ref x, .int i1] : List Value).toArray s 0 0 (hx_A L sz)) (F0 m 69 ls []) := by
      intro n69
      induction n69 with
      | zero => intro iv69_2 iv69_3 H locs hL1 hl1 bliv69_2 buiv69_2 bliv69_3 buiv69_3 vi69_0 vi69_1 vi69_2 ls hn69; exfalso; omega
      | succ n69 ih69 =>
        intro iv69_2 iv69_3 H locs hL1 hl1 bliv69_2 buiv69_2 bliv69_3 buiv69_3 vi69_0 vi69_1 vi69_2 ls hn69 hW hT hM   hl
        refine lv_iload_n hx hb dX10_count_69 rfl (lv_at hl 0 rfl) ?_
        refine lv_aload_n hx hb dX10_count_70 rfl (lv_at hl 2 rfl) ?_
        refine hk_geti hx hb hts hC_10 hown hW (gx.S hM) tt_10 20 ?o26 rfl kw_1163 ⟨rfl, rfl, rfl⟩ ((hM.o gx trivial rfl).1.trans f_x_20) dX10_count_71 ?_
        case o26 => decide
        refine hb_icmp_ge (zx := iv69_3.toInt) (zy := pn0.toInt) (tgt := 109) hx hb rfl rfl dX10_count_74 ?o27 (fun c_2 => ?_) (fun c_2 => ?_)
        case o27 => decide
        · skip
          refine lv_iload_n hx hb dX10_count_109 rfl (lv_at hl 1 rfl) ?_
          refine hx_reti hx hb hr hlk hW ⟨(Or.inr ⟨?o28, (by rw [show i1.toInt.toNat = 3 by omega]; show _ = hz_lj jf df pn0.toInt.toNat; have h8 := vi69_0; rw [show iv69_3.toInt.toNat = pn0.toInt.toNat by omega] at h8; exact h8)⟩), hT, hM⟩ dX10_count_110
          case o28 => omega
        · skip
          refine lv_iload_n hx hb dX10_count_77 rfl (lv_at hl 1 rfl) ?_
          refine lv_aload_n hx hb dX10_count_78 rfl (lv_at hl 2 rfl) ?_
          refine hk_getr hx hb hts hC_10 hown hW (gx.S hM) tt_10 28 ?o29 rfl kw_1171 ⟨rfl, rfl, rfl⟩ ((hM.o gx trivial rfl).2.trans f_x_28) dX10_count_79 ?_
          case o29 => decide
          refine lv_iload_n hx hb dX10_count_82 rfl (lv_at hl 0 rfl) ?_
          refine hx_zald hx hb hW hT (gqj.S hM) tt_65 rfl ⟨?o30, ?o31⟩ dX10_count_83 (fun x_3 ex_3 lx_3 ux_3 => ?_)
          case o30 => omega
          case o31 => omega
          have ax_3 : x_3 = jf iv69_3.toNatClampNeg := ex_3.trans (congrFun (hx_afS hM gqj rfl af_qj) _)
          refine hb_if_eq (zx := x_3.toInt) (tgt := 100) hx hb rfl dX10_count_84 ?o32 (fun c_4 => ?_) (fun c_4 => ?_)
          case o32 => decide
          · skip
            refine lv_iconst (v := 0) hx hb dX10_count_100 ?o33 ?_
            case o33 => decide
            refine lv_iadd hx hb dX10_count_101 ?_
            have rg_5 := i32_r iv69_2
            refine lv_topi (fun x_6 ex_6 => ?_)
            have zx_6 : x_6.toInt = iv69_2.toInt + 0 := ?o34
            case o34 =>
              rw [ex_6]
              refine i32_add rfl ?o35 ?o36 ?o37
              case o35 => decide
              case o36 => omega
              case o37 => omega
            refine lv_istore_n (lv' := [(2, .int x_6), (3, .int iv69_3), (0, .ref x), (1, .int i1)]) hx hb dX10_count_102 rfl hl ?o38 rfl (fun ls hl => ?_)
            case o38 => decide
            obtain ⟨x_7, ex_7⟩ : ∃ y : Int32, y = iv69_3 + Int32.ofInt 1 := ⟨_, rfl⟩
            have rg_8 := i32_r iv69_3
            have zx_7 : x_7.toInt = iv69_3.toInt + (1) := ?o39
            case o39 =>
              rw [ex_7]
              refine i32_add rfl ?o40 ?o41 ?o42
              case o40 => decide
              case o41 => omega
              case o42 => omega
            refine lv_iinc (v := x_7) (lv' := [(3, .int x_7), (2, .int x_6), (0, .ref x), (1, .int i1)]) hx hb dX10_count_103 hl (k := 1) rfl ex_7.symm ?o43 rfl (fun ls hl => ?_)
            case o43 => decide
            refine lv_goto (tgt := 69) hx hb dX10_count_106 ?o44 ?_
            case o44 => decide
            refine ih69 x_6 x_7 _ _ hL1 hl1 ?o45 ?o46 ?o47 ?o48 (hz_lj_s 0 vi69_0 ?o49 (Or.inr ⟨rfl, (fun z => by have z9 := z.1; rw [show jf iv69_3.toInt.toNat = x_3 from ax_3.symm] at z9; omega)⟩) ?o50 zx_7) ?o51 ?o52 ls ?o53 hW hT hM   (lv_sub hl [0, 1, 2, 3] rfl)
            case o45 => omega
            case o46 => omega
            case o47 => omega
            case o48 => omega
            case o49 => omega
            case o50 => omega
            case o51 => omega
            case o52 => omega
            case o53 => omega
          · skip
            refine lv_aload_n hx hb dX10_count_87 rfl (lv_at hl 2 rfl) ?_
            refine hk_getr hx hb hts hC_10 hown hW (gx.S hM) tt_10 27 ?o54 rfl kw_1170 ⟨rfl, rfl, rfl⟩ ((hM.o gx trivial rfl).2.trans f_x_27) dX10_count_88 ?_
            case o54 => decide
            refine lv_iload_n hx hb dX10_count_91 rfl (lv_at hl 0 rfl) ?_
            refine hx_zald hx hb hW hT (gqd.S hM) tt_64 rfl ⟨?o55, ?o56⟩ dX10_count_92 (fun x_9 ex_9 lx_9 ux_9 => ?_)
            case o55 => omega
            case o56 => omega
            have ax_9 : x_9 = df iv69_3.toNatClampNeg := ex_9.trans (congrFun (hx_afS hM gqd rfl af_qd) _)
            refine hb_if_ne (zx := x_9.toInt) (tgt := 100) hx hb rfl dX10_count_93 ?o57 (fun c_10 => ?_) (fun c_10 => ?_)
            case o57 => decide
            · skip
              refine lv_iconst (v := 0) hx hb dX10_count_100 ?o58 ?_
              case o58 => decide
              refine lv_iadd hx hb dX10_count_101 ?_
              have rg_11 := i32_r iv69_2
              refine lv_topi (fun x_12 ex_12 => ?_)
              have zx_12 : x_12.toInt = iv69_2.toInt + 0 := ?o59
              case o59 =>
                rw [ex_12]
                refine i32_add rfl ?o60 ?o61 ?o62
                case o60 => decide
                case o61 => omega
                case o62 => omega
              refine lv_istore_n (lv' := [(2, .int x_12), (3, .int iv69_3), (0, .ref x), (1, .int i1)]) hx hb dX10_count_102 rfl hl ?o63 rfl (fun ls hl => ?_)
              case o63 => decide
              obtain ⟨x_13, ex_13⟩ : ∃ y : Int32, y = iv69_3 + Int32.ofInt 1 := ⟨_, rfl⟩
              have rg_14 := i32_r iv69_3
              have zx_13 : x_13.toInt = iv69_3.toInt + (1) := ?o64
              case o64 =>
                rw [ex_13]
                refine i32_add rfl ?o65 ?o66 ?o67
                case o65 => decide
                case o66 => omega
                case o67 => omega
              refine lv_iinc (v := x_13) (lv' := [(3, .int x_13), (2, .int x_12), (0, .ref x), (1, .int i1)]) hx hb dX10_count_103 hl (k := 1) rfl ex_13.symm ?o68 rfl (fun ls hl => ?_)
              case o68 => decide
              refine lv_goto (tgt := 69) hx hb dX10_count_106 ?o69 ?_
              case o69 => decide
              refine ih69 x_12 x_13 _ _ hL1 hl1 ?o70 ?o71 ?o72 ?o73 (hz_lj_s 0 vi69_0 ?o74 (Or.inr ⟨rfl, (fun z => by have z9 := z.2; rw [show df iv69_3.toInt.toNat = x_9 from ax_9.symm] at z9; omega)⟩) ?o75 zx_13) ?o76 ?o77 ls ?o78 hW hT hM   (lv_sub hl [0, 1, 2, 3] rfl)
              case o70 => omega
              case o71 => omega
              case o72 => omega
              case o73 => omega
              case o74 => omega
              case o75 => omega
              case o76 => omega
              case o77 => omega
              case o78 => omega
            · skip
              refine lv_iconst (v := 1) hx hb dX10_count_96 ?o79 ?_
              case o79 => decide
              refine lv_goto (tgt := 101) hx hb dX10_count_97 ?o80 ?_
              case o80 => decide
              refine lv_iadd hx hb dX10_count_101 ?_
              have rg_15 := i32_r iv69_2
              refine lv_topi (fun x_16 ex_16 => ?_)
              have zx_16 : x_16.toInt = iv69_2.toInt + 1 := ?o81
              case o81 =>
                rw [ex_16]
                refine i32_add rfl ?o82 ?o83 ?o84
                case o82 => decide
                case o83 => omega
                case o84 => omega
              refine lv_istore_n (lv' := [(2, .int x_16), (3, .int iv69_3), (0, .ref x), (1, .int i1)]) hx hb dX10_count_102 rfl hl ?o85 rfl (fun ls hl => ?_)
              case o85 => decide
              obtain ⟨x_17, ex_17⟩ : ∃ y : Int32, y = iv69_3 + Int32.ofInt 1 := ⟨_, rfl⟩
              have rg_18 := i32_r iv69_3
              have zx_17 : x_17.toInt = iv69_3.toInt + (1) := ?o86
              case o86 =>
                rw [ex_17]
                refine i32_add rfl ?o87 ?o88 ?o89
                case o87 => decide
                case o88 => omega
                case o89 => omega
              refine lv_iinc (v := x_17) (lv' := [(3, .int x_17), (2, .int x_16), (0, .ref x), (1, .int i1)]) hx hb dX10_count_103 hl (k := 1) rfl ex_17.symm ?o90 rfl (fun ls hl => ?_)
              case o90 => decide
              refine lv_goto (tgt := 69) hx hb dX10_count_106 ?o91 ?_
              case o91 => decide
              refine ih69 x_16 x_17 _ _ hL1 hl1 ?o92 ?o93 ?o94 ?o95 (hz_lj_s 1 vi69_0 ?o96 (Or.inl ⟨rfl, (by rw [show jf iv69_3.toInt.toNat = x_3 from ax_3.symm]; omega), (by rw [show df iv69_3.toInt.toNat = x_9 from ax_9.symm]; omega)⟩) ?o97 zx_17) ?o98 ?o99 ls ?o100 hW hT hM   (lv_sub hl [0, 1, 2, 3] rfl)
              case o92 => omega
              case o93 => omega
              case o94 => omega
              case o95 => omega
              case o96 => omega
              case o97 => omega
              case o98 => omega
              case o99 => omega
              case o100 => omega
    have zk_0 : (0 : Int32).toInt = 0 := ?o101
    case o101 => decide
    have zk_0 : (0 : Int32).toInt = 0 := ?o102
    case o102 => decide
    refine loop69 41 (0 : Int32) (0 : Int32) _ _ L h ?o103 ?o104 ?o105 ?o106 (by rw [zk_0]; rfl) ?o107 ?o108 ls ?o109 hW hT hM   hl
    case o103 => decide
    case o104 => decide
    case o105 => decide
    case o106 => decide
    case o107 => omega
    case o108 => omega
    case o109 => omega
  · refine lv_tableIn (off := 108) (tgt := 111) hx hb dX10_count_3 ?o110 ?o111 (by rw [c_1]; rfl) ?o112 ?_
    case o110 => omega
    case o111 => omega
    case o112 => decide
    refine lv_aload_n hx hb dX10_count_111 rfl (lv_at hl 1 rfl) ?_
    refine hk_geti hx hb hts hC_10 hown hW (gx.S hM) tt_10 29 ?o113 rfl kw_1172 ⟨rfl, rfl, rfl⟩ ((hM.o gx trivial rfl).1.trans f_x_29) dX10_count_112 ?_
    case o113 => decide
    refine hx_reti hx hb hr hlk hW ⟨(Or.inr ⟨?o114, (by rw [show i1.toInt.toNat = 4 by omega]; rfl)⟩), hT, hM⟩ dX10_count_115
    case o114 => omega
  · refine lv_tableIn (off := 113) (tgt := 116) hx hb dX10_count_3 ?o115 ?o116 (by rw [c_1]; rfl) ?o117 ?_
    case o115 => omega
    case o116 => omega
    case o117 => decide
    refine lv_aload_n hx hb dX10_count_116 rfl (lv_at hl 1 rfl) ?_
    refine hk_geti hx hb hts hC_10 hown hW (gx.S hM) tt_10 36 ?o118 rfl kw_1179 ⟨rfl, rfl, rfl⟩ ((hM.o gx trivial rfl).1.trans f_x_36) dX10_count_117 ?_
    case o118 => decide
    refine hx_reti hx hb hr hlk hW ⟨(Or.inr ⟨?o119, (by rw [show i1.toInt.toNat = 5 by omega]; rfl)⟩), hT, hM⟩ dX10_count_120
    case o119 => omega
  · refine lv_tableIn (off := 118) (tgt := 121) hx hb dX10_count_3 ?o120 ?o121 (by rw [c_1]; rfl) ?o122 ?_
    case o120 => omega
    case o121 => omega
    case o122 => decide
    refine lv_aload_n hx hb dX10_count_121 rfl (lv_at hl 1 rfl) ?_
    refine hk_geti hx hb hts hC_10 hown hW (gx.S hM) tt_10 59 ?o123 rfl kw_1202 ⟨rfl, rfl, rfl⟩ ((hM.o gx trivial rfl).1.trans f_x_59) dX10_count_122 ?_
    case o123 => decide
    refine hx_reti hx hb hr hlk hW ⟨(Or.inr ⟨?o124, (by rw [show i1.toInt.toNat = 6 by omega]; rfl)⟩), hT, hM⟩ dX10_count_125
    case o124 => omega
  · refine lv_tableIn (off := 123) (tgt := 126) hx hb dX10_count_3 ?o125 ?o126 (by rw [c_1]; rfl) ?o127 ?_
    case o125 => omega
    case o126 => omega
    case o127 => decide
    refine lv_aload_n hx hb dX10_count_126 rfl (lv_at hl 1 rfl) ?_
    refine hk_geti hx hb hts hC_10 hown hW (gx.S hM) tt_10 7 ?o128 rfl kw_1150 ⟨rfl, rfl, rfl⟩ ((hM.o gx trivial rfl).1.trans f_x_7) dX10_count_127 ?_
    case o128 => decide
    refine hx_reti hx hb hr hlk hW ⟨(Or.inr ⟨?o129, (by rw [show i1.toInt.toNat = 7 by omega]; rfl)⟩), hT, hM⟩ dX10_count_130
    case o129 => omega
  · refine lv_tableIn (off := 128) (tgt := 131) hx hb dX10_count_3 ?o130 ?o131 (by rw [c_1]; rfl) ?o132 ?_
    case o130 => omega
    case o131 => omega
    case o132 => decide
    refine lv_aload_n hx hb dX10_count_131 rfl (lv_at hl 1 rfl) ?_
    refine hk_geti hx hb hts hC_10 hown hW (gx.S hM) tt_10 90 ?o133 rfl kw_1233 ⟨rfl, rfl, rfl⟩ ((hM.o gx trivial rfl).1.trans f_x_90) dX10_count_132 ?_
    case o133 => decide
    refine hx_reti hx hb hr hlk hW ⟨(Or.inr ⟨?o134, (by rw [show i1.toInt.toNat = 8 by omega]; rfl)⟩), hT, hM⟩ dX10_count_135
    case o134 => omega
end
section
/-! RINGS: the best of all, as it is looked for by both sides -/
def hz_of (n l : Int) (g : Nat → Int) (o : Int × Int × (Nat → Int)) : Int × Int × (Nat → Int) := if l = 0 ∨ l < o.1 ∨ (l = o.1 ∧ o.2.1 ≤ n) then o else (l, n, g)
def hz_g (a b c d : Int) : Nat → Int := fun i => if i = 0 then a else if i = 1 then b else if i = 2 then c else d
def hz_F4 (V : Int → Int) (a b c l : Int) (o : Int × Int × (Nat → Int)) : Nat → Int × Int × (Nat → Int)
  | 0 => o
  | k + 1 => if a + 1 + (k : Int) = b ∨ a + 1 + (k : Int) = c ∨ hz_mi l (V (40 * c + (a + 1 + k))) = 0 then hz_F4 V a b c l o k else hz_of 4 (hz_mi (hz_mi l (V (40 * c + (a + 1 + k)))) (V (40 * (a + 1 + k) + a))) (hz_g a b c (a + 1 + k)) (hz_F4 V a b c l o k)
def hz_F3 (V : Int → Int) (np a b l : Int) (o : Int × Int × (Nat → Int)) : Nat → Int × Int × (Nat → Int)
  | 0 => o
  | k + 1 => if a + 1 + (k : Int) = b ∨ hz_mi l (V (40 * b + (a + 1 + k))) = 0 then hz_F3 V np a b l o k else hz_F4 V a b (a + 1 + k) (hz_mi l (V (40 * b + (a + 1 + k)))) (hz_of 3 (hz_mi (hz_mi l (V (40 * b + (a + 1 + k)))) (V (40 * (a + 1 + k) + a))) (hz_g a b (a + 1 + k) 0) (hz_F3 V np a b l o k)) (np - a - 1).toNat
def hz_F2 (V : Int → Int) (np a : Int) (o : Int × Int × (Nat → Int)) : Nat → Int × Int × (Nat → Int)
  | 0 => o
  | k + 1 => if V (40 * a + (a + 1 + k)) = 0 then hz_F2 V np a o k else hz_F3 V np a (a + 1 + k) (V (40 * a + (a + 1 + k))) (hz_of 2 (hz_mi (V (40 * a + (a + 1 + k))) (V (40 * (a + 1 + k) + a))) (hz_g a (a + 1 + k) 0 0) (hz_F2 V np a o k)) (np - a - 1).toNat
def hz_F1 (V : Int → Int) (np : Int) : Nat → Int × Int × (Nat → Int)
  | 0 => (0, 0, fun _ => 0)
  | k + 1 => hz_F2 V np k (hz_F1 V np k) (np - k - 1).toNat
theorem hz_of_lo {n l : Int} {g : Nat → Int} {o : Int × Int × (Nat → Int)} (h : l < o.1) : hz_of n l g o = o := by unfold hz_of; rw [if_pos (Or.inr (Or.inl h))]
theorem hz_mi_l {a b : Int} : hz_mi a b ≤ a ∧ hz_mi a b ≤ b := by unfold hz_mi; split <;> omega
theorem hz_F4_lo {V : Int → Int} {a b c l : Int} {o : Int × Int × (Nat → Int)} (h : l < o.1) : ∀ k : Nat, hz_F4 V a b c l o k = o := by
  intro k
  induction k with
  | zero => rfl
  | succ k ih =>
    simp only [hz_F4, ih]
    split
    · rfl
    · have h1 := hz_mi_l (a := l) (b := V (40 * c + (a + 1 + k)))
      have h2 := hz_mi_l (a := hz_mi l (V (40 * c + (a + 1 + k)))) (b := V (40 * (a + 1 + k) + a))
      exact hz_of_lo (by omega)
theorem hz_F3_lo {V : Int → Int} {np a b l : Int} {o : Int × Int × (Nat → Int)} (h : l < o.1) : ∀ k : Nat, hz_F3 V np a b l o k = o := by
  intro k
  induction k with
  | zero => rfl
  | succ k ih =>
    simp only [hz_F3, ih]
    split
    · rfl
    · have h1 := hz_mi_l (a := l) (b := V (40 * b + (a + 1 + k)))
      have h2 := hz_mi_l (a := hz_mi l (V (40 * b + (a + 1 + k)))) (b := V (40 * (a + 1 + k) + a))
      rw [hz_of_lo (o := o) (by omega)]
      exact hz_F4_lo (by omega) _
/-- the state as the heap has it -/
def hz_SR (o : Int × Int × (Nat → Int)) (bl bs : Int) (br : Nat → Int32) : Prop := o.1 = bl ∧ o.2.1 = bs ∧ (0 ≤ bl ∧ (bl = 0 → bs = 0) ∧ 0 ≤ bs ∧ bs ≤ 4) ∧ ∀ i : Nat, (i : Int) < bs → (br i).toInt = o.2.2 i
theorem hz_SR_0 {br : Nat → Int32} {bl bs : Int} {np : Int} {V : Int → Int} (h1 : bl = 0) (h2 : bs = 0) : hz_SR (hz_F1 V np 0) bl bs br := by
  subst h1; subst h2
  exact ⟨rfl, rfl, by omega, fun i hi => by exfalso; omega⟩
theorem hz_SR_n {o : Int × Int × (Nat → Int)} {n l bl bs : Int} {g : Nat → Int} {br : Nat → Int32} (h : hz_SR o bl bs br) (hc : l = 0 ∨ l < bl ∨ (l = bl ∧ bs ≤ n)) : hz_SR (hz_of n l g o) bl bs br := by
  unfold hz_of
  rw [if_pos (by rw [h.1, h.2.1]; exact hc)]
  exact h
theorem hz_SR_y {o : Int × Int × (Nat → Int)} {n l bl bs bl1 bs1 : Int} {g : Nat → Int} {br br1 : Nat → Int32} (h : hz_SR o bl bs br) (hc : ¬ (l = 0 ∨ l < bl ∨ (l = bl ∧ bs ≤ n))) (e1 : bl1 = l) (e2 : bs1 = n) (hn : 0 ≤ n ∧ n ≤ 4) (hg : ∀ i : Nat, (i : Int) < n → (br1 i).toInt = g i) : hz_SR (hz_of n l g o) bl1 bs1 br1 := by
  subst e1; subst e2
  have hb := h.2.2.1
  unfold hz_of
  rw [if_neg (by rw [h.1, h.2.1]; exact hc)]
  exact ⟨rfl, rfl, by omega, hg⟩
section HZF
variable {V : Int → Int} {np a b c d d1 l bl bs : Int} {o : Int × Int × (Nat → Int)} {br : Nat → Int32}
theorem hz_F4_n (h : hz_SR (hz_F4 V a b c l o (d - a - 1).toNat) bl bs br) (hd : a + 1 ≤ d) (hs : d = b ∨ d = c ∨ hz_mi l (V (40 * c + d)) = 0) (e : d1 = d + 1) : hz_SR (hz_F4 V a b c l o (d1 - a - 1).toNat) bl bs br := by
  subst e
  have e1 : (d + 1 - a - 1).toNat = (d - a - 1).toNat + 1 := by omega
  have e2 : a + 1 + (((d - a - 1).toNat : Nat) : Int) = d := by omega
  rw [e1]; simp only [hz_F4, e2]; rw [if_pos hs]; exact h
theorem hz_F4_y (h : hz_SR (hz_of 4 (hz_mi (hz_mi l (V (40 * c + d))) (V (40 * d + a))) (hz_g a b c d) (hz_F4 V a b c l o (d - a - 1).toNat)) bl bs br) (hd : a + 1 ≤ d) (hs : ¬ (d = b ∨ d = c ∨ hz_mi l (V (40 * c + d)) = 0)) (e : d1 = d + 1) : hz_SR (hz_F4 V a b c l o (d1 - a - 1).toNat) bl bs br := by
  subst e
  have e1 : (d + 1 - a - 1).toNat = (d - a - 1).toNat + 1 := by omega
  have e2 : a + 1 + (((d - a - 1).toNat : Nat) : Int) = d := by omega
  rw [e1]; simp only [hz_F4, e2]; rw [if_neg hs]; exact h
theorem hz_F4_p (h : hz_SR (hz_F4 V a b c l o (d - a - 1).toNat) bl bs br) (hd : a + 1 ≤ d) (hp : V (40 * c + d) < bl) (e : d1 = d + 1) : hz_SR (hz_F4 V a b c l o (d1 - a - 1).toNat) bl bs br := by
  by_cases hs : d = b ∨ d = c ∨ hz_mi l (V (40 * c + d)) = 0
  · exact hz_F4_n h hd hs e
  · refine hz_F4_y ?_ hd hs e
    have h1 := hz_mi_l (a := l) (b := V (40 * c + d))
    have h2 := hz_mi_l (a := hz_mi l (V (40 * c + d))) (b := V (40 * d + a))
    exact hz_SR_n h (Or.inr (Or.inl (by omega)))
theorem hz_F3_n (h : hz_SR (hz_F3 V np a b l o (d - a - 1).toNat) bl bs br) (hd : a + 1 ≤ d) (hs : d = b ∨ hz_mi l (V (40 * b + d)) = 0) (e : d1 = d + 1) : hz_SR (hz_F3 V np a b l o (d1 - a - 1).toNat) bl bs br := by
  subst e
  have e1 : (d + 1 - a - 1).toNat = (d - a - 1).toNat + 1 := by omega
  have e2 : a + 1 + (((d - a - 1).toNat : Nat) : Int) = d := by omega
  rw [e1]; simp only [hz_F3, e2]; rw [if_pos hs]; exact h
theorem hz_F3_y (h : hz_SR (hz_F4 V a b d (hz_mi l (V (40 * b + d))) (hz_of 3 (hz_mi (hz_mi l (V (40 * b + d))) (V (40 * d + a))) (hz_g a b d 0) (hz_F3 V np a b l o (d - a - 1).toNat)) (np - a - 1).toNat) bl bs br) (hd : a + 1 ≤ d) (hs : ¬ (d = b ∨ hz_mi l (V (40 * b + d)) = 0)) (e : d1 = d + 1) : hz_SR (hz_F3 V np a b l o (d1 - a - 1).toNat) bl bs br := by
  subst e
  have e1 : (d + 1 - a - 1).toNat = (d - a - 1).toNat + 1 := by omega
  have e2 : a + 1 + (((d - a - 1).toNat : Nat) : Int) = d := by omega
  rw [e1]; simp only [hz_F3, e2]; rw [if_neg hs]; exact h
theorem hz_F3_p (h : hz_SR (hz_F3 V np a b l o (d - a - 1).toNat) bl bs br) (hd : a + 1 ≤ d) (hp : V (40 * b + d) < bl) (e : d1 = d + 1) : hz_SR (hz_F3 V np a b l o (d1 - a - 1).toNat) bl bs br := by
  by_cases hs : d = b ∨ hz_mi l (V (40 * b + d)) = 0
  · exact hz_F3_n h hd hs e
  · refine hz_F3_y ?_ hd hs e
    have h1 := hz_mi_l (a := l) (b := V (40 * b + d))
    have h2 := hz_mi_l (a := hz_mi l (V (40 * b + d))) (b := V (40 * d + a))
    rw [hz_of_lo (by rw [h.1]; omega), hz_F4_lo (by rw [h.1]; omega)]
    exact h
theorem hz_F2_n (h : hz_SR (hz_F2 V np a o (d - a - 1).toNat) bl bs br) (hd : a + 1 ≤ d) (hs : V (40 * a + d) = 0) (e : d1 = d + 1) : hz_SR (hz_F2 V np a o (d1 - a - 1).toNat) bl bs br := by
  subst e
  have e1 : (d + 1 - a - 1).toNat = (d - a - 1).toNat + 1 := by omega
  have e2 : a + 1 + (((d - a - 1).toNat : Nat) : Int) = d := by omega
  rw [e1]; simp only [hz_F2, e2]; rw [if_pos hs]; exact h
theorem hz_F2_y (h : hz_SR (hz_F3 V np a d (V (40 * a + d)) (hz_of 2 (hz_mi (V (40 * a + d)) (V (40 * d + a))) (hz_g a d 0 0) (hz_F2 V np a o (d - a - 1).toNat)) (np - a - 1).toNat) bl bs br) (hd : a + 1 ≤ d) (hs : ¬ V (40 * a + d) = 0) (e : d1 = d + 1) : hz_SR (hz_F2 V np a o (d1 - a - 1).toNat) bl bs br := by
  subst e
  have e1 : (d + 1 - a - 1).toNat = (d - a - 1).toNat + 1 := by omega
  have e2 : a + 1 + (((d - a - 1).toNat : Nat) : Int) = d := by omega
  rw [e1]; simp only [hz_F2, e2]; rw [if_neg hs]; exact h
theorem hz_F2_p (h : hz_SR (hz_F2 V np a o (d - a - 1).toNat) bl bs br) (hd : a + 1 ≤ d) (hp : V (40 * a + d) < bl) (e : d1 = d + 1) : hz_SR (hz_F2 V np a o (d1 - a - 1).toNat) bl bs br := by
  by_cases hs : V (40 * a + d) = 0
  · exact hz_F2_n h hd hs e
  · refine hz_F2_y ?_ hd hs e
    have h1 := hz_mi_l (a := V (40 * a + d)) (b := V (40 * d + a))
    rw [hz_of_lo (by rw [h.1]; omega), hz_F3_lo (by rw [h.1]; omega)]
    exact h
theorem hz_F1_s (h : hz_SR (hz_F2 V np a (hz_F1 V np a.toNat) (np - a - 1).toNat) bl bs br) (h0 : 0 ≤ a) (e : d1 = a + 1) : hz_SR (hz_F1 V np d1.toNat) bl bs br := by
  subst e
  have e1 : (a + 1).toNat = a.toNat + 1 := by omega
  have e2 : ((a.toNat : Nat) : Int) = a := by omega
  rw [e1]; simp only [hz_F1, e2]; exact h
end HZF
/-! what a ring is: of those that are kept -/
def hz_RG (V : Int → Int) (np : Int) (o : Int × Int × (Nat → Int)) : Prop := 0 ≤ o.1 ∧ (o.2.1 = 0 ∨ (2 ≤ o.2.1 ∧ o.2.1 ≤ 4 ∧ 1 ≤ o.1 ∧ (∀ i : Nat, (i : Int) < o.2.1 → 0 ≤ o.2.2 i ∧ o.2.2 i < np) ∧ (∀ i j : Nat, (i : Int) < o.2.1 → (j : Int) < o.2.1 → i ≠ j → o.2.2 i ≠ o.2.2 j) ∧ (∀ i : Nat, (i : Int) < o.2.1 → o.1 ≤ V (40 * o.2.2 i + o.2.2 (((i : Int) + 1) % o.2.1).toNat)) ∧ ∃ i : Nat, (i : Int) < o.2.1 ∧ o.1 = V (40 * o.2.2 i + o.2.2 (((i : Int) + 1) % o.2.1).toNat)))
theorem hz_mi_c {a b : Int} : hz_mi a b = a ∨ hz_mi a b = b := by unfold hz_mi; split <;> omega
theorem hz_g_0 {a b c d : Int} : hz_g a b c d 0 = a := by unfold hz_g; rw [if_pos rfl]
theorem hz_g_1 {a b c d : Int} : hz_g a b c d 1 = b := by unfold hz_g; rw [if_neg (by decide), if_pos rfl]
theorem hz_g_2 {a b c d : Int} : hz_g a b c d 2 = c := by unfold hz_g; rw [if_neg (by decide), if_neg (by decide), if_pos rfl]
theorem hz_g_3 {a b c d : Int} : hz_g a b c d 3 = d := by unfold hz_g; rw [if_neg (by decide), if_neg (by decide), if_neg (by decide)]
theorem hz_RG_2 {V : Int → Int} {np a b : Int} {o : Int × Int × (Nat → Int)} (h : hz_RG V np o) (ha : 0 ≤ a ∧ a < np) (hb : 0 ≤ b ∧ b < np) (n1 : a ≠ b) (hl : 0 ≤ hz_mi (V (40 * a + b)) (V (40 * b + a))) : hz_RG V np (hz_of 2 (hz_mi (V (40 * a + b)) (V (40 * b + a))) (hz_g a b 0 0) o) := by
  have m1 := hz_mi_l (a := V (40 * a + b)) (b := V (40 * b + a))
  have m2 := hz_mi_c (a := V (40 * a + b)) (b := V (40 * b + a))
  unfold hz_of
  split
  · exact h
  · rename_i hc
    refine ⟨by show 0 ≤ hz_mi _ _; omega, Or.inr ⟨(by show (2 : Int) ≤ 2; decide), (by show (2 : Int) ≤ 4; decide), by show 1 ≤ hz_mi _ _; omega, ?_, ?_, ?_, ?_⟩⟩
    · intro i hi
      have hi : (i : Int) < 2 := hi
      rcases (show i = 0 ∨ i = 1 by omega) with z | z <;> subst z
      · exact ha
      · exact hb
    · intro i j hi hj hij
      have hi : (i : Int) < 2 := hi
      have hj : (j : Int) < 2 := hj
      rcases (show i = 0 ∨ i = 1 by omega) with z | z <;> rcases (show j = 0 ∨ j = 1 by omega) with y | y <;> subst z <;> subst y
      · exact absurd rfl hij
      · exact n1
      · exact fun e => n1 e.symm
      · exact absurd rfl hij
    · intro i hi
      have hi : (i : Int) < 2 := hi
      rcases (show i = 0 ∨ i = 1 by omega) with z | z <;> subst z
      · exact m1.1
      · simpa [hz_g] using m1.2
    · rcases m2 with z | z
      · exact ⟨0, (show ((0 : Nat) : Int) < 2 by decide), z⟩
      · exact ⟨1, (show ((1 : Nat) : Int) < 2 by decide), (by simpa [hz_g] using z)⟩
theorem hz_RG_3 {V : Int → Int} {np a b c : Int} {o : Int × Int × (Nat → Int)} (h : hz_RG V np o) (ha : 0 ≤ a ∧ a < np) (hb : 0 ≤ b ∧ b < np) (hc : 0 ≤ c ∧ c < np) (n1 : a ≠ b) (n2 : a ≠ c) (n3 : b ≠ c) (hl : 0 ≤ hz_mi (hz_mi (V (40 * a + b)) (V (40 * b + c))) (V (40 * c + a))) : hz_RG V np (hz_of 3 (hz_mi (hz_mi (V (40 * a + b)) (V (40 * b + c))) (V (40 * c + a))) (hz_g a b c 0) o) := by
  have m1 := hz_mi_l (a := V (40 * a + b)) (b := V (40 * b + c))
  have m2 := hz_mi_c (a := V (40 * a + b)) (b := V (40 * b + c))
  have m3 := hz_mi_l (a := hz_mi (V (40 * a + b)) (V (40 * b + c))) (b := V (40 * c + a))
  have m4 := hz_mi_c (a := hz_mi (V (40 * a + b)) (V (40 * b + c))) (b := V (40 * c + a))
  unfold hz_of
  split
  · exact h
  · rename_i hk
    refine ⟨by show 0 ≤ hz_mi _ _; omega, Or.inr ⟨(by show (2 : Int) ≤ 3; decide), (by show (3 : Int) ≤ 4; decide), by show 1 ≤ hz_mi _ _; omega, ?_, ?_, ?_, ?_⟩⟩
    · intro i hi
      have hi : (i : Int) < 3 := hi
      rcases (show i = 0 ∨ i = 1 ∨ i = 2 by omega) with z | z | z <;> subst z
      · exact ha
      · exact hb
      · exact hc
    · intro i j hi hj hij
      have hi : (i : Int) < 3 := hi
      have hj : (j : Int) < 3 := hj
      rcases (show i = 0 ∨ i = 1 ∨ i = 2 by omega) with z | z | z <;> rcases (show j = 0 ∨ j = 1 ∨ j = 2 by omega) with y | y | y <;> subst z <;> subst y <;> first | exact absurd rfl hij | exact n1 | exact n2 | exact n3 | exact fun e => n1 e.symm | exact fun e => n2 e.symm | exact fun e => n3 e.symm
    · intro i hi
      have hi : (i : Int) < 3 := hi
      rcases (show i = 0 ∨ i = 1 ∨ i = 2 by omega) with z | z | z <;> subst z
      · exact Int.le_trans m3.1 m1.1
      · exact Int.le_trans m3.1 m1.2
      · simpa [hz_g] using m3.2
    · rcases m4 with z | z
      · rcases m2 with y | y
        · exact ⟨0, (show ((0 : Nat) : Int) < 3 by decide), z.trans y⟩
        · exact ⟨1, (show ((1 : Nat) : Int) < 3 by decide), z.trans y⟩
      · exact ⟨2, (show ((2 : Nat) : Int) < 3 by decide), (by simpa [hz_g] using z)⟩
theorem hz_RG_4 {V : Int → Int} {np a b c d : Int} {o : Int × Int × (Nat → Int)} (h : hz_RG V np o) (ha : 0 ≤ a ∧ a < np) (hb : 0 ≤ b ∧ b < np) (hc : 0 ≤ c ∧ c < np) (hd : 0 ≤ d ∧ d < np) (n1 : a ≠ b) (n2 : a ≠ c) (n3 : b ≠ c) (n4 : a ≠ d) (n5 : b ≠ d) (n6 : c ≠ d) (hl : 0 ≤ hz_mi (hz_mi (hz_mi (V (40 * a + b)) (V (40 * b + c))) (V (40 * c + d))) (V (40 * d + a))) : hz_RG V np (hz_of 4 (hz_mi (hz_mi (hz_mi (V (40 * a + b)) (V (40 * b + c))) (V (40 * c + d))) (V (40 * d + a))) (hz_g a b c d) o) := by
  have m1 := hz_mi_l (a := V (40 * a + b)) (b := V (40 * b + c))
  have m2 := hz_mi_c (a := V (40 * a + b)) (b := V (40 * b + c))
  have m3 := hz_mi_l (a := hz_mi (V (40 * a + b)) (V (40 * b + c))) (b := V (40 * c + d))
  have m4 := hz_mi_c (a := hz_mi (V (40 * a + b)) (V (40 * b + c))) (b := V (40 * c + d))
  have m5 := hz_mi_l (a := hz_mi (hz_mi (V (40 * a + b)) (V (40 * b + c))) (V (40 * c + d))) (b := V (40 * d + a))
  have m6 := hz_mi_c (a := hz_mi (hz_mi (V (40 * a + b)) (V (40 * b + c))) (V (40 * c + d))) (b := V (40 * d + a))
  unfold hz_of
  split
  · exact h
  · rename_i hk
    refine ⟨by show 0 ≤ hz_mi _ _; omega, Or.inr ⟨(by show (2 : Int) ≤ 4; decide), (by show (4 : Int) ≤ 4; decide), by show 1 ≤ hz_mi _ _; omega, ?_, ?_, ?_, ?_⟩⟩
    · intro i hi
      have hi : (i : Int) < 4 := hi
      rcases (show i = 0 ∨ i = 1 ∨ i = 2 ∨ i = 3 by omega) with z | z | z | z <;> subst z
      · exact ha
      · exact hb
      · exact hc
      · exact hd
    · intro i j hi hj hij
      have hi : (i : Int) < 4 := hi
      have hj : (j : Int) < 4 := hj
      rcases (show i = 0 ∨ i = 1 ∨ i = 2 ∨ i = 3 by omega) with z | z | z | z <;> rcases (show j = 0 ∨ j = 1 ∨ j = 2 ∨ j = 3 by omega) with y | y | y | y <;> subst z <;> subst y <;> first | exact absurd rfl hij | exact n1 | exact n2 | exact n3 | exact n4 | exact n5 | exact n6 | exact fun e => n1 e.symm | exact fun e => n2 e.symm | exact fun e => n3 e.symm | exact fun e => n4 e.symm | exact fun e => n5 e.symm | exact fun e => n6 e.symm
    · intro i hi
      have hi : (i : Int) < 4 := hi
      rcases (show i = 0 ∨ i = 1 ∨ i = 2 ∨ i = 3 by omega) with z | z | z | z <;> subst z
      · exact Int.le_trans m5.1 (Int.le_trans m3.1 m1.1)
      · exact Int.le_trans m5.1 (Int.le_trans m3.1 m1.2)
      · exact Int.le_trans m5.1 m3.2
      · simpa [hz_g] using m5.2
    · rcases m6 with z | z
      · rcases m4 with y | y
        · rcases m2 with w | w
          · exact ⟨0, (show ((0 : Nat) : Int) < 4 by decide), z.trans (y.trans w)⟩
          · exact ⟨1, (show ((1 : Nat) : Int) < 4 by decide), z.trans (y.trans w)⟩
        · exact ⟨2, (show ((2 : Nat) : Int) < 4 by decide), z.trans y⟩
      · exact ⟨3, (show ((3 : Nat) : Int) < 4 by decide), (by simpa [hz_g] using z)⟩
theorem hz_F4_R {V : Int → Int} {np a b c : Int} {o : Int × Int × (Nat → Int)} (hV : ∀ x, 0 ≤ V x) (h : hz_RG V np o) (ha : 0 ≤ a ∧ a < np) (hb : 0 ≤ b ∧ b < np) (hc : 0 ≤ c ∧ c < np) (n1 : a ≠ b) (n2 : a ≠ c) (n3 : b ≠ c) : ∀ k : Nat, (k : Int) ≤ np - a - 1 → hz_RG V np (hz_F4 V a b c (hz_mi (V (40 * a + b)) (V (40 * b + c))) o k) := by
  intro k
  induction k with
  | zero => intro _; exact h
  | succ k ih =>
    intro hk
    simp only [hz_F4]
    split
    · exact ih (by omega)
    · rename_i hs
      have q0 : ∀ x y : Int, 0 ≤ x → 0 ≤ y → 0 ≤ hz_mi x y := fun x y hx hy => by unfold hz_mi; split <;> omega
      exact hz_RG_4 (ih (by omega)) ha hb hc ⟨by omega, by omega⟩ n1 n2 n3 (by omega) (fun e => hs (Or.inl e.symm)) (fun e => hs (Or.inr (Or.inl e.symm))) (q0 _ _ (q0 _ _ (q0 _ _ (hV _) (hV _)) (hV _)) (hV _))
theorem hz_F3_R {V : Int → Int} {np a b : Int} {o : Int × Int × (Nat → Int)} (hV : ∀ x, 0 ≤ V x) (h : hz_RG V np o) (ha : 0 ≤ a ∧ a < np) (hb : 0 ≤ b ∧ b < np) (n1 : a ≠ b) : ∀ k : Nat, (k : Int) ≤ np - a - 1 → hz_RG V np (hz_F3 V np a b (V (40 * a + b)) o k) := by
  intro k
  induction k with
  | zero => intro _; exact h
  | succ k ih =>
    intro hk
    simp only [hz_F3]
    split
    · exact ih (by omega)
    · rename_i hs
      have q0 : ∀ x y : Int, 0 ≤ x → 0 ≤ y → 0 ≤ hz_mi x y := fun x y hx hy => by unfold hz_mi; split <;> omega
      exact hz_F4_R hV (hz_RG_3 (ih (by omega)) ha hb ⟨by omega, by omega⟩ n1 (by omega) (fun e => hs (Or.inl e.symm)) (q0 _ _ (q0 _ _ (hV _) (hV _)) (hV _))) ha hb ⟨by omega, by omega⟩ n1 (by omega) (fun e => hs (Or.inl e.symm)) _ (by omega)
theorem hz_F2_R {V : Int → Int} {np a : Int} {o : Int × Int × (Nat → Int)} (hV : ∀ x, 0 ≤ V x) (h : hz_RG V np o) (ha : 0 ≤ a ∧ a < np) : ∀ k : Nat, (k : Int) ≤ np - a - 1 → hz_RG V np (hz_F2 V np a o k) := by
  intro k
  induction k with
  | zero => intro _; exact h
  | succ k ih =>
    intro hk
    simp only [hz_F2]
    split
    · exact ih (by omega)
    · have q0 : ∀ x y : Int, 0 ≤ x → 0 ≤ y → 0 ≤ hz_mi x y := fun x y hx hy => by unfold hz_mi; split <;> omega
      exact hz_F3_R hV (hz_RG_2 (ih (by omega)) ha ⟨by omega, by omega⟩ (by omega) (q0 _ _ (hV _) (hV _))) ha ⟨by omega, by omega⟩ (by omega) _ (by omega)
theorem hz_F1_R {V : Int → Int} {np : Int} (hV : ∀ x, 0 ≤ V x) : ∀ k : Nat, (k : Int) ≤ np → hz_RG V np (hz_F1 V np k) := by
  intro k
  induction k with
  | zero => intro _; exact ⟨Int.le_refl _, Or.inl rfl⟩
  | succ k ih => intro hk; exact hz_F2_R hV (ih (by omega)) ⟨by omega, by omega⟩ _ (by omega)
end
