section
set_option maxHeartbeats 4000000 in
set_option maxRecDepth 100000 in
theorem t_X10_looks_v (l : Launch) (dC : Nat → ClassId) (dI : Nat → Nat → Nat) (dA : Nat → ClassId) (L : List Nat) (h : hx_h) (sz : Nat) (x : Nat) (i1 : Int32) (i2 : Int32) (i3 : Int32) (hT : hx_T T_tb L h) (gx : hx_g L h x 10) (qfo : Nat) (gqfo : hx_g L h qfo 81) (f_x_46 : h.2.2 x 46 = some qfo) (qhe : Nat) (gqhe : hx_g L h qhe 82) (f_x_47 : h.2.2 x 47 = some qhe) (qju : Nat) (gqju : hx_g L h qju 86) (f_x_51 : h.2.2 x 51 = some qju) (qod : Nat) (gqod : hx_g L h qod 83) (f_x_48 : h.2.2 x 48 = some qod) (qsv : Nat) (gqsv : hx_g L h qsv 85) (f_x_50 : h.2.2 x 50 = some qsv) (qsz : Nat) (gqsz : hx_g L h qsz 84) (f_x_49 : h.2.2 x 49 = some qsz) (qgd : Nat) (gqgd : hx_g L h qgd 91) (f_x_56 : h.2.2 x 56 = some qgd) (qow : Nat) (gqow : hx_g L h qow 90) (f_x_55 : h.2.2 x 55 = some qow) (qwk : Nat) (gqwk : hx_g L h qwk 89) (f_x_54 : h.2.2 x 54 = some qwk) (qpl : Nat) (gqpl : hx_g L h qpl 79) (f_x_44 : h.2.2 x 44 = some qpl) (qru : Nat) (gqru : hx_g L h qru 50) (f_x_3 : h.2.2 x 3 = some qru) (qpo : Nat) (gqpo : hx_g L h qpo 93) (f_x_60 : h.2.2 x 60 = some qpo) (qpd : Nat) (gqpd : hx_g L h qpd 94) (f_x_61 : h.2.2 x 61 = some qpd) (qps : Nat) (gqps : hx_g L h qps 95) (f_x_62 : h.2.2 x 62 = some qps) (qpk : Nat) (gqpk : hx_g L h qpk 96) (f_x_63 : h.2.2 x 63 = some qpk) (qpt : Nat) (gqpt : hx_g L h qpt 97) (f_x_64 : h.2.2 x 64 = some qpt) (fof : Nat → Int32) (af_qfo : h.2.1 qfo = fof) (hrf : Nat → Int32) (af_qhe : h.2.1 qhe = hrf) (udf : Nat → Int32) (af_qju : h.2.1 qju = udf) (odf : Nat → Int32) (af_qod : h.2.1 qod = odf) (svf : Nat → Int32) (af_qsv : h.2.1 qsv = svf) (szf : Nat → Int32) (af_qsz : h.2.1 qsz = szf) (gdf : Nat → Int32) (af_qgd : h.2.1 qgd = gdf) (owf : Nat → Int32) (af_qow : h.2.1 qow = owf) (wkf : Nat → Int32) (af_qwk : h.2.1 qwk = wkf) (plf : Nat → Int32) (af_qpl : h.2.1 qpl = plf) (rlf : Nat → Int32) (af_qru : h.2.1 qru = rlf) (pof : Nat → Int32) (af_qpo : h.2.1 qpo = pof) (pdf : Nat → Int32) (af_qpd : h.2.1 qpd = pdf) (psm : Nat → Int32) (af_qps : h.2.1 qps = psm) (pkf : Nat → Int32) (af_qpk : h.2.1 qpk = pkf) (pst : Nat → Int32) (af_qpt : h.2.1 qpt = pst) (pm0 : Int32) (f_x_59 : h.2.1 x 59 = pm0) (hi1 : 0 ≤ i1.toInt ∧ i1.toInt ≤ 99) (hi2 : 0 ≤ i2.toInt ∧ i2.toInt ≤ 7999) (R : Nat → Int) (hRr : ∀ k : Nat, k ≤ 12 → (rlf (13 * (plf i1.toInt.toNat).toInt.toNat + k)).toInt = R k) : Met l yX10_looks (Cond.code yX10_looks cX10_looks 9 none :: hx_all) ({ frames := 1, cells := 0, slots := 0, locals := 22 }) (va_Pc [.ref x, .int i1, .int i2, .int i3] (hx_B T_tb (P_ty dA) (dC, dI) vwCl L h sz)) (va_Qv (fun (u : List Nat × hx_h) => (∃ (pd1 : Int32) (rs1 : Int32) (ov1 : Int32) (ms1 : Int32) (st1 : Int32), u.2.2.1 x 67 = pd1 ∧ u.2.2.1 x 68 = rs1 ∧ u.2.2.1 x 69 = ov1 ∧ u.2.2.1 x 70 = ms1 ∧ u.2.2.1 x 71 = st1 ∧ (pd1.toInt = hz_pdy (odf i1.toInt.toNat).toInt (szf i1.toInt.toNat).toInt (gdf i1.toInt.toNat).toInt i2.toInt (hx_ps pof pdf psm pkf pst i2.toInt i3.toInt i1.toInt pm0.toInt.toNat) ∧ rs1.toInt = hz_rs (svf i1.toInt.toNat).toInt (hz_bl (odf i1.toInt.toNat).toInt (szf i1.toInt.toNat).toInt (gdf i1.toInt.toNat).toInt (owf i1.toInt.toNat).toInt (R 12) i2.toInt (hx_ps pof pdf psm pkf pst i2.toInt i3.toInt i1.toInt pm0.toInt.toNat)) i2.toInt ∧ ov1.toInt = hz_ov (svf i1.toInt.toNat).toInt (hz_bl (odf i1.toInt.toNat).toInt (szf i1.toInt.toNat).toInt (gdf i1.toInt.toNat).toInt (owf i1.toInt.toNat).toInt (R 12) i2.toInt (hx_ps pof pdf psm pkf pst i2.toInt i3.toInt i1.toInt pm0.toInt.toNat)) i2.toInt ∧ ms1.toInt = hz_ms (odf i1.toInt.toNat).toInt (svf i1.toInt.toNat).toInt (wkf i1.toInt.toNat).toInt (hz_al (owf i1.toInt.toNat).toInt (szf i1.toInt.toNat).toInt (R 12) i2.toInt) (hz_pdy (odf i1.toInt.toNat).toInt (szf i1.toInt.toNat).toInt (gdf i1.toInt.toNat).toInt i2.toInt (hx_ps pof pdf psm pkf pst i2.toInt i3.toInt i1.toInt pm0.toInt.toNat)) i2.toInt ∧ st1.toInt = hz_st (fof i1.toInt.toNat).toInt (hrf i1.toInt.toNat).toInt (udf i1.toInt.toNat).toInt (odf i1.toInt.toNat).toInt (svf i1.toInt.toNat).toInt (hz_rs (svf i1.toInt.toNat).toInt (hz_bl (odf i1.toInt.toNat).toInt (szf i1.toInt.toNat).toInt (gdf i1.toInt.toNat).toInt (owf i1.toInt.toNat).toInt (R 12) i2.toInt (hx_ps pof pdf psm pkf pst i2.toInt i3.toInt i1.toInt pm0.toInt.toNat)) i2.toInt) (hz_ms (odf i1.toInt.toNat).toInt (svf i1.toInt.toNat).toInt (wkf i1.toInt.toNat).toInt (hz_al (owf i1.toInt.toNat).toInt (szf i1.toInt.toNat).toInt (R 12) i2.toInt) (hz_pdy (odf i1.toInt.toNat).toInt (szf i1.toInt.toNat).toInt (gdf i1.toInt.toNat).toInt i2.toInt (hx_ps pof pdf psm pkf pst i2.toInt i3.toInt i1.toInt pm0.toInt.toNat)) i2.toInt) (R 4) (R 5) i2.toInt)) ∧ hx_T T_tb u.1 u.2 ∧ hx_S T_tb [(10, 67), (10, 68), (10, 69), (10, 70), (10, 71)] L h u.1 u.2) (hx_E T_tb (P_ty dA) (dC, dI) vwCl (hx_A L sz)) (hx_A L sz)) 0 0 (hx_A L sz) := by
  refine hx_met (lv := [(0, .ref x), (1, .int i1), (2, .int i2), (3, .int i3)]) (by decide +kernel) rfl (Nat.le_of_ble_eq_true rfl) rfl ?_
  intro p e s m below meth c hx hb hml hr hlk hts0 hown hin hsz hW ls hl
  have hts : ∀ w ∈ hx_all, w.before _ s = true := fun w hw => hts0 w (List.mem_cons_of_mem _ hw)
  have hown : s.vm.findClass "SmallCourtModel" = some m.cls := hown
  have hM : hx_S T_tb [(10, 67), (10, 68), (10, 69), (10, 70), (10, 71)] L h L h := hx_S.rf
  have b_pm0 := hT.gi gx tt_10 (k := 59) rfl
  rw [f_x_59] at b_pm0
  have b_pm0 : 0 ≤ pm0.toInt ∧ pm0.toInt ≤ 600 := b_pm0
  refine lv_aload_n hx hb dX10_looks_0 rfl (lv_at hl 0 rfl) ?_
  refine lv_iconst (v := 0) hx hb dX10_looks_1 ?o0 ?_
  case o0 => decide
  refine hx_puti hx hb hts hC_10 hown hW hT (hx_S.rf (M := [(10, 67)])) (gx.S hM) tt_10 67 ?o1 rfl kw_1210 ⟨rfl, rfl, rfl⟩ rfl (x := (0 : Int32)) ?o2 rfl rfl rfl (List.mem_singleton.mpr rfl) dX10_looks_2 (fun H locs h_1 eh_1 hW hT hs => ?_)
  case o1 => decide
  case o2 => decide
  replace hM := hM.tr (hs.mono ?o3)
  case o3 => decide
  have f_2 : h_1.2.1 x 67 = (0 : Int32) := ?o4
  case o4 =>
    rw [eh_1]
    exact hx_pi_at _ _ _ _
  refine lv_aload_n hx hb dX10_looks_5 rfl (lv_at hl 0 rfl) ?_
  refine lv_iconst (v := 0) hx hb dX10_looks_6 ?o5 ?_
  case o5 => decide
  refine hx_puti hx hb hts hC_10 hown hW hT (hx_S.rf (M := [(10, 68)])) (gx.S hM) tt_10 68 ?o6 rfl kw_1211 ⟨rfl, rfl, rfl⟩ rfl (x := (0 : Int32)) ?o7 rfl rfl rfl (List.mem_singleton.mpr rfl) dX10_looks_7 (fun H locs h_3 eh_3 hW hT hs => ?_)
  case o6 => decide
  case o7 => decide
  replace f_2 := (hs.o (gx.S hM) trivial rfl).1.trans f_2
  replace hM := hM.tr (hs.mono ?o8)
  case o8 => decide
  have f_4 : h_3.2.1 x 68 = (0 : Int32) := ?o9
  case o9 =>
    rw [eh_3]
    exact hx_pi_at _ _ _ _
  refine lv_aload_n hx hb dX10_looks_10 rfl (lv_at hl 0 rfl) ?_
  refine lv_iconst (v := 0) hx hb dX10_looks_11 ?o10 ?_
  case o10 => decide
  refine hx_puti hx hb hts hC_10 hown hW hT (hx_S.rf (M := [(10, 69)])) (gx.S hM) tt_10 69 ?o11 rfl kw_1212 ⟨rfl, rfl, rfl⟩ rfl (x := (0 : Int32)) ?o12 rfl rfl rfl (List.mem_singleton.mpr rfl) dX10_looks_12 (fun H locs h_5 eh_5 hW hT hs => ?_)
  case o11 => decide
  case o12 => decide
  replace f_2 := (hs.o (gx.S hM) trivial rfl).1.trans f_2
  replace f_4 := (hs.o (gx.S hM) trivial rfl).1.trans f_4
  replace hM := hM.tr (hs.mono ?o13)
  case o13 => decide
  have f_6 : h_5.2.1 x 69 = (0 : Int32) := ?o14
  case o14 =>
    rw [eh_5]
    exact hx_pi_at _ _ _ _
  refine lv_aload_n hx hb dX10_looks_15 rfl (lv_at hl 0 rfl) ?_
  refine lv_iconst (v := 0) hx hb dX10_looks_16 ?o15 ?_
  case o15 => decide
  refine hx_puti hx hb hts hC_10 hown hW hT (hx_S.rf (M := [(10, 70)])) (gx.S hM) tt_10 70 ?o16 rfl kw_1213 ⟨rfl, rfl, rfl⟩ rfl (x := (0 : Int32)) ?o17 rfl rfl rfl (List.mem_singleton.mpr rfl) dX10_looks_17 (fun H locs h_7 eh_7 hW hT hs => ?_)
  case o16 => decide
  case o17 => decide
  replace f_2 := (hs.o (gx.S hM) trivial rfl).1.trans f_2
  replace f_4 := (hs.o (gx.S hM) trivial rfl).1.trans f_4
  replace f_6 := (hs.o (gx.S hM) trivial rfl).1.trans f_6
  replace hM := hM.tr (hs.mono ?o18)
  case o18 => decide
  have f_8 : h_7.2.1 x 70 = (0 : Int32) := ?o19
  case o19 =>
    rw [eh_7]
    exact hx_pi_at _ _ _ _
  have join49 : ∀ (jw49_x_71 : Int32) (H : Heap) (locs : List Loc) (hL1 : List Nat) (hl1 : hx_h), 0 ≤ jw49_x_71.toInt → jw49_x_71.toInt ≤ 8 → ((jw49_x_71.toInt = 1 ∧ (fof i1.toInt.toNat).toInt ≠ -1 ∧ (fof i1.toInt.toNat).toInt ≤ i2.toInt) ∨ (jw49_x_71.toInt = 0 ∧ ((fof i1.toInt.toNat).toInt = -1 ∨ i2.toInt < (fof i1.toInt.toNat).toInt))) → ∀ (ls : Array Slot), hx_W T_tb (P_ty dA) (dC, dI) vwCl (hx_A L sz) s.heap hL1 hl1 s H locs → hx_T T_tb hL1 hl1 → hx_S T_tb [(10, 67), (10, 68), (10, 69), (10, 70), (10, 71)] L h hL1 hl1 → hl1.2.1 x 71 = jw49_x_71 → hl1.2.1 x 67 = (0 : Int32) → hl1.2.1 x 68 = (0 : Int32) → hl1.2.1 x 69 = (0 : Int32) → hl1.2.1 x 70 = (0 : Int32) → lv_has ls 9 [(0, .ref x), (1, .int i1), (2, .int i2), (3, .int i3)] → W p l e ({ frames := 1, cells := 0, slots := 0, locals := 22 }) s m ([.ref x, .int i1, .int i2, .int i3] : List Value).toArray below meth c H locs 0 0 (MQ below (va_Qv (fun (u : List Nat × hx_h) => (∃ (pd1 : Int32) (rs1 : Int32) (ov1 : Int32) (ms1 : Int32) (st1 : Int32), u.2.2.1 x 67 = pd1 ∧ u.2.2.1 x 68 = rs1 ∧ u.2.2.1 x 69 = ov1 ∧ u.2.2.1 x 70 = ms1 ∧ u.2.2.1 x 71 = st1 ∧ (pd1.toInt = hz_pdy (odf i1.toInt.toNat).toInt (szf i1.toInt.toNat).toInt (gdf i1.toInt.toNat).toInt i2.toInt (hx_ps pof pdf psm pkf pst i2.toInt i3.toInt i1.toInt pm0.toInt.toNat) ∧ rs1.toInt = hz_rs (svf i1.toInt.toNat).toInt (hz_bl (odf i1.toInt.toNat).toInt (szf i1.toInt.toNat).toInt (gdf i1.toInt.toNat).toInt (owf i1.toInt.toNat).toInt (R 12) i2.toInt (hx_ps pof pdf psm pkf pst i2.toInt i3.toInt i1.toInt pm0.toInt.toNat)) i2.toInt ∧ ov1.toInt = hz_ov (svf i1.toInt.toNat).toInt (hz_bl (odf i1.toInt.toNat).toInt (szf i1.toInt.toNat).toInt (gdf i1.toInt.toNat).toInt (owf i1.toInt.toNat).toInt (R 12) i2.toInt (hx_ps pof pdf psm pkf pst i2.toInt i3.toInt i1.toInt pm0.toInt.toNat)) i2.toInt ∧ ms1.toInt = hz_ms (odf i1.toInt.toNat).toInt (svf i1.toInt.toNat).toInt (wkf i1.toInt.toNat).toInt (hz_al (owf i1.toInt.toNat).toInt (szf i1.toInt.toNat).toInt (R 12) i2.toInt) (hz_pdy (odf i1.toInt.toNat).toInt (szf i1.toInt.toNat).toInt (gdf i1.toInt.toNat).toInt i2.toInt (hx_ps pof pdf psm pkf pst i2.toInt i3.toInt i1.toInt pm0.toInt.toNat)) i2.toInt ∧ st1.toInt = hz_st (fof i1.toInt.toNat).toInt (hrf i1.toInt.toNat).toInt (udf i1.toInt.toNat).toInt (odf i1.toInt.toNat).toInt (svf i1.toInt.toNat).toInt (hz_rs (svf i1.toInt.toNat).toInt (hz_bl (odf i1.toInt.toNat).toInt (szf i1.toInt.toNat).toInt (gdf i1.toInt.toNat).toInt (owf i1.toInt.toNat).toInt (R 12) i2.toInt (hx_ps pof pdf psm pkf pst i2.toInt i3.toInt i1.toInt pm0.toInt.toNat)) i2.toInt) (hz_ms (odf i1.toInt.toNat).toInt (svf i1.toInt.toNat).toInt (wkf i1.toInt.toNat).toInt (hz_al (owf i1.toInt.toNat).toInt (szf i1.toInt.toNat).toInt (R 12) i2.toInt) (hz_pdy (odf i1.toInt.toNat).toInt (szf i1.toInt.toNat).toInt (gdf i1.toInt.toNat).toInt i2.toInt (hx_ps pof pdf psm pkf pst i2.toInt i3.toInt i1.toInt pm0.toInt.toNat)) i2.toInt) (R 4) (R 5) i2.toInt)) ∧ hx_T T_tb u.1 u.2 ∧ hx_S T_tb [(10, 67), (10, 68), (10, 69), (10, 70), (10, 71)] L h u.1 u.2) (hx_E T_tb (P_ty dA) (dC, dI) vwCl (hx_A L sz)) (hx_A L sz)) ([.ref x, .int i1, .int i2, .int i3] : List Value).toArray s 0 0 (hx_A L sz)) (F0 m 49 ls []) := by
    intro jw49_x_71 H locs hL1 hl1 bljw49_x_71 bujw49_x_71 vj49_0 ls hW hT hM fjw49_x_71 f_2 f_4 f_6 f_8  hl
    have join88 : ∀ (jw88_x_71 : Int32) (H : Heap) (locs : List Loc) (hL1 : List Nat) (hl1 : hx_h), 0 ≤ jw88_x_71.toInt → jw88_x_71.toInt ≤ 8 → (jw88_x_71.toInt = hz_sa (fof i1.toInt.toNat).toInt (hrf i1.toInt.toNat).toInt (udf i1.toInt.toNat).toInt i2.toInt) → ∀ (ls : Array Slot), hx_W T_tb (P_ty dA) (dC, dI) vwCl (hx_A L sz) s.heap hL1 hl1 s H locs → hx_T T_tb hL1 hl1 → hx_S T_tb [(10, 67), (10, 68), (10, 69), (10, 70), (10, 71)] L h hL1 hl1 → hl1.2.1 x 71 = jw88_x_71 → hl1.2.1 x 67 = (0 : Int32) → hl1.2.1 x 68 = (0 : Int32) → hl1.2.1 x 69 = (0 : Int32) → hl1.2.1 x 70 = (0 : Int32) → lv_has ls 9 [(0, .ref x), (1, .int i1), (2, .int i2), (3, .int i3)] → W p l e ({ frames := 1, cells := 0, slots := 0, locals := 22 }) s m ([.ref x, .int i1, .int i2, .int i3] : List Value).toArray below meth c H locs 0 0 (MQ below (va_Qv (fun (u : List Nat × hx_h) => (∃ (pd1 : Int32) (rs1 : Int32) (ov1 : Int32) (ms1 : Int32) (st1 : Int32), u.2.2.1 x 67 = pd1 ∧ u.2.2.1 x 68 = rs1 ∧ u.2.2.1 x 69 = ov1 ∧ u.2.2.1 x 70 = ms1 ∧ u.2.2.1 x 71 = st1 ∧ (pd1.toInt = hz_pdy (odf i1.toInt.toNat).toInt (szf i1.toInt.toNat).toInt (gdf i1.toInt.toNat).toInt i2.toInt (hx_ps pof pdf psm pkf pst i2.toInt i3.toInt i1.toInt pm0.toInt.toNat) ∧ rs1.toInt = hz_rs (svf i1.toInt.toNat).toInt (hz_bl (odf i1.toInt.toNat).toInt (szf i1.toInt.toNat).toInt (gdf i1.toInt.toNat).toInt (owf i1.toInt.toNat).toInt (R 12) i2.toInt (hx_ps pof pdf psm pkf pst i2.toInt i3.toInt i1.toInt pm0.toInt.toNat)) i2.toInt ∧ ov1.toInt = hz_ov (svf i1.toInt.toNat).toInt (hz_bl (odf i1.toInt.toNat).toInt (szf i1.toInt.toNat).toInt (gdf i1.toInt.toNat).toInt (owf i1.toInt.toNat).toInt (R 12) i2.toInt (hx_ps pof pdf psm pkf pst i2.toInt i3.toInt i1.toInt pm0.toInt.toNat)) i2.toInt ∧ ms1.toInt = hz_ms (odf i1.toInt.toNat).toInt (svf i1.toInt.toNat).toInt (wkf i1.toInt.toNat).toInt (hz_al (owf i1.toInt.toNat).toInt (szf i1.toInt.toNat).toInt (R 12) i2.toInt) (hz_pdy (odf i1.toInt.toNat).toInt (szf i1.toInt.toNat).toInt (gdf i1.toInt.toNat).toInt i2.toInt (hx_ps pof pdf psm pkf pst i2.toInt i3.toInt i1.toInt pm0.toInt.toNat)) i2.toInt ∧ st1.toInt = hz_st (fof i1.toInt.toNat).toInt (hrf i1.toInt.toNat).toInt (udf i1.toInt.toNat).toInt (odf i1.toInt.toNat).toInt (svf i1.toInt.toNat).toInt (hz_rs (svf i1.toInt.toNat).toInt (hz_bl (odf i1.toInt.toNat).toInt (szf i1.toInt.toNat).toInt (gdf i1.toInt.toNat).toInt (owf i1.toInt.toNat).toInt (R 12) i2.toInt (hx_ps pof pdf psm pkf pst i2.toInt i3.toInt i1.toInt pm0.toInt.toNat)) i2.toInt) (hz_ms (odf i1.toInt.toNat).toInt (svf i1.toInt.toNat).toInt (wkf i1.toInt.toNat).toInt (hz_al (owf i1.toInt.toNat).toInt (szf i1.toInt.toNat).toInt (R 12) i2.toInt) (hz_pdy (odf i1.toInt.toNat).toInt (szf i1.toInt.toNat).toInt (gdf i1.toInt.toNat).toInt i2.toInt (hx_ps pof pdf psm pkf pst i2.toInt i3.toInt i1.toInt pm0.toInt.toNat)) i2.toInt) (R 4) (R 5) i2.toInt)) ∧ hx_T T_tb u.1 u.2 ∧ hx_S T_tb [(10, 67), (10, 68), (10, 69), (10, 70), (10, 71)] L h u.1 u.2) (hx_E T_tb (P_ty dA) (dC, dI) vwCl (hx_A L sz)) (hx_A L sz)) ([.ref x, .int i1, .int i2, .int i3] : List Value).toArray s 0 0 (hx_A L sz)) (F0 m 88 ls []) := by
      intro jw88_x_71 H locs hL1 hl1 bljw88_x_71 bujw88_x_71 vj88_0 ls hW hT hM fjw88_x_71 f_2 f_4 f_6 f_8  hl
      refine lv_aload_n hx hb dX10_looks_88 rfl (lv_at hl 0 rfl) ?_
      refine hk_getr hx hb hts hC_10 hown hW (gx.S hM) tt_10 48 ?o20 rfl kw_1191 ⟨rfl, rfl, rfl⟩ ((hM.o gx trivial rfl).2.trans f_x_48) dX10_looks_89 ?_
      case o20 => decide
      refine lv_iload_n hx hb dX10_looks_92 rfl (lv_at hl 1 rfl) ?_
      refine hx_iald hx hb hW hT (gqod.S hM) tt_83 rfl ⟨?o21, ?o22⟩ dX10_looks_93 (fun x_9 ex_9 lx_9 ux_9 => ?_)
      case o21 => omega
      case o22 => omega
      have ax_9 : x_9 = odf i1.toNatClampNeg := ex_9.trans (congrFun (hx_afS hM gqod rfl af_qod) _)
      have sx_9 : x_9.toInt = (odf i1.toInt.toNat).toInt := congrArg Int32.toInt ax_9
      refine lv_iconst (v := -1) hx hb dX10_looks_94 ?o23 ?_
      case o23 => decide
      refine hb_icmp_eq (zx := x_9.toInt) (zy := (-1)) (tgt := 108) hx hb rfl ?o24 dX10_looks_95 ?o25 (fun c_10 => ?_) (fun c_10 => ?_)
      case o24 => decide
      case o25 => decide
      · skip
        have zo_0 : (0 : Int32).toInt = 0 := ?o26
        case o26 => decide
        have zo_0 : (0 : Int32).toInt = 0 := ?o27
        case o27 => decide
        have zo_0 : (0 : Int32).toInt = 0 := ?o28
        case o28 => decide
        have zo_0 : (0 : Int32).toInt = 0 := ?o29
        case o29 => decide
        exact hx_retv hx hb hr hlk hW ⟨⟨(0 : Int32), (0 : Int32), (0 : Int32), (0 : Int32), jw88_x_71, f_2, f_4, f_6, f_8, fjw88_x_71, (by have zr_0 : (0 : Int32).toInt = 0 := (by decide); exact ⟨(by unfold hz_pdy; (repeat' split) <;> omega), (by unfold hz_rs hz_bl; (repeat' split) <;> omega), (by unfold hz_ov hz_bl; (repeat' split) <;> omega), (by unfold hz_ms; rw [if_pos (by omega)]; omega), (by unfold hz_st; rw [if_pos (by omega)]; omega)⟩)⟩, hT, hM⟩ dX10_looks_108
      · skip
        refine lv_aload_n hx hb dX10_looks_98 rfl (lv_at hl 0 rfl) ?_
        refine hk_getr hx hb hts hC_10 hown hW (gx.S hM) tt_10 48 ?o30 rfl kw_1191 ⟨rfl, rfl, rfl⟩ ((hM.o gx trivial rfl).2.trans f_x_48) dX10_looks_99 ?_
        case o30 => decide
        refine lv_iload_n hx hb dX10_looks_102 rfl (lv_at hl 1 rfl) ?_
        refine hx_iald hx hb hW hT (gqod.S hM) tt_83 rfl ⟨?o31, ?o32⟩ dX10_looks_103 (fun x_11 ex_11 lx_11 ux_11 => ?_)
        case o31 => omega
        case o32 => omega
        have ax_11 : x_11 = odf i1.toNatClampNeg := ex_11.trans (congrFun (hx_afS hM gqod rfl af_qod) _)
        obtain rfl : x_9 = x_11 := ex_9.trans ex_11.symm
        refine lv_iload_n hx hb dX10_looks_104 rfl (lv_at hl 2 rfl) ?_
        refine hb_icmp_le (zx := x_9.toInt) (zy := i2.toInt) (tgt := 109) hx hb rfl rfl dX10_looks_105 ?o33 (fun c_12 => ?_) (fun c_12 => ?_)
        case o33 => decide
        · skip
          have join136 : ∀ (jv136_4 : Int32) (H : Heap) (locs : List Loc) (hL1 : List Nat) (hl1 : hx_h), 0 ≤ jv136_4.toInt → jv136_4.toInt ≤ 1 → ((jv136_4.toInt = 1 ∧ (szf i1.toInt.toNat).toInt ≠ -1 ∧ (szf i1.toInt.toNat).toInt ≤ i2.toInt) ∨ (jv136_4.toInt = 0 ∧ ((szf i1.toInt.toNat).toInt = -1 ∨ i2.toInt < (szf i1.toInt.toNat).toInt))) → ∀ (ls : Array Slot), hx_W T_tb (P_ty dA) (dC, dI) vwCl (hx_A L sz) s.heap hL1 hl1 s H locs → hx_T T_tb hL1 hl1 → hx_S T_tb [(10, 67), (10, 68), (10, 69), (10, 70), (10, 71)] L h hL1 hl1 → hl1.2.1 x 67 = (0 : Int32) → hl1.2.1 x 68 = (0 : Int32) → hl1.2.1 x 69 = (0 : Int32) → hl1.2.1 x 70 = (0 : Int32) → hl1.2.1 x 71 = jw88_x_71 → lv_has ls 9 [(4, .int jv136_4), (0, .ref x), (1, .int i1), (2, .int i2), (3, .int i3)] → W p l e ({ frames := 1, cells := 0, slots := 0, locals := 22 }) s m ([.ref x, .int i1, .int i2, .int i3] : List Value).toArray below meth c H locs 0 0 (MQ below (va_Qv (fun (u : List Nat × hx_h) => (∃ (pd1 : Int32) (rs1 : Int32) (ov1 : Int32) (ms1 : Int32) (st1 : Int32), u.2.2.1 x 67 = pd1 ∧ u.2.2.1 x 68 = rs1 ∧ u.2.2.1 x 69 = ov1 ∧ u.2.2.1 x 70 = ms1 ∧ u.2.2.1 x 71 = st1 ∧ (pd1.toInt = hz_pdy (odf i1.toInt.toNat).toInt (szf i1.toInt.toNat).toInt (gdf i1.toInt.toNat).toInt i2.toInt (hx_ps pof pdf psm pkf pst i2.toInt i3.toInt i1.toInt pm0.toInt.toNat) ∧ rs1.toInt = hz_rs (svf i1.toInt.toNat).toInt (hz_bl (odf i1.toInt.toNat).toInt (szf i1.toInt.toNat).toInt (gdf i1.toInt.toNat).toInt (owf i1.toInt.toNat).toInt (R 12) i2.toInt (hx_ps pof pdf psm pkf pst i2.toInt i3.toInt i1.toInt pm0.toInt.toNat)) i2.toInt ∧ ov1.toInt = hz_ov (svf i1.toInt.toNat).toInt (hz_bl (odf i1.toInt.toNat).toInt (szf i1.toInt.toNat).toInt (gdf i1.toInt.toNat).toInt (owf i1.toInt.toNat).toInt (R 12) i2.toInt (hx_ps pof pdf psm pkf pst i2.toInt i3.toInt i1.toInt pm0.toInt.toNat)) i2.toInt ∧ ms1.toInt = hz_ms (odf i1.toInt.toNat).toInt (svf i1.toInt.toNat).toInt (wkf i1.toInt.toNat).toInt (hz_al (owf i1.toInt.toNat).toInt (szf i1.toInt.toNat).toInt (R 12) i2.toInt) (hz_pdy (odf i1.toInt.toNat).toInt (szf i1.toInt.toNat).toInt (gdf i1.toInt.toNat).toInt i2.toInt (hx_ps pof pdf psm pkf pst i2.toInt i3.toInt i1.toInt pm0.toInt.toNat)) i2.toInt ∧ st1.toInt = hz_st (fof i1.toInt.toNat).toInt (hrf i1.toInt.toNat).toInt (udf i1.toInt.toNat).toInt (odf i1.toInt.toNat).toInt (svf i1.toInt.toNat).toInt (hz_rs (svf i1.toInt.toNat).toInt (hz_bl (odf i1.toInt.toNat).toInt (szf i1.toInt.toNat).toInt (gdf i1.toInt.toNat).toInt (owf i1.toInt.toNat).toInt (R 12) i2.toInt (hx_ps pof pdf psm pkf pst i2.toInt i3.toInt i1.toInt pm0.toInt.toNat)) i2.toInt) (hz_ms (odf i1.toInt.toNat).toInt (svf i1.toInt.toNat).toInt (wkf i1.toInt.toNat).toInt (hz_al (owf i1.toInt.toNat).toInt (szf i1.toInt.toNat).toInt (R 12) i2.toInt) (hz_pdy (odf i1.toInt.toNat).toInt (szf i1.toInt.toNat).toInt (gdf i1.toInt.toNat).toInt i2.toInt (hx_ps pof pdf psm pkf pst i2.toInt i3.toInt i1.toInt pm0.toInt.toNat)) i2.toInt) (R 4) (R 5) i2.toInt)) ∧ hx_T T_tb u.1 u.2 ∧ hx_S T_tb [(10, 67), (10, 68), (10, 69), (10, 70), (10, 71)] L h u.1 u.2) (hx_E T_tb (P_ty dA) (dC, dI) vwCl (hx_A L sz)) (hx_A L sz)) ([.ref x, .int i1, .int i2, .int i3] : List Value).toArray s 0 0 (hx_A L sz)) (F0 m 136 ls []) := by
            intro jv136_4 H locs hL1 hl1 bljv136_4 bujv136_4 vj136_0 ls hW hT hM f_2 f_4 f_6 f_8 fjw88_x_71  hl
            refine lv_iconst (v := 0) hx hb dX10_looks_136 ?o34 ?_
            case o34 => decide
            refine lv_istore (lv' := [(5, .int (0 : Int32)), (4, .int jv136_4), (0, .ref x), (1, .int i1), (2, .int i2), (3, .int i3)]) hx hb dX10_looks_137 hl ?o35 rfl (fun ls hl => ?_)
            case o35 => decide
            have loop139 : ∀ (n139 : Nat) (iv139_5 fw139_x_67 : Int32) (H : Heap) (locs : List Loc) (hL1 : List Nat) (hl1 : hx_h), 0 ≤ iv139_5.toInt → iv139_5.toInt ≤ 600 → 0 ≤ fw139_x_67.toInt → fw139_x_67.toInt ≤ 366100000 → (fw139_x_67.toInt ≤ 610000 * iv139_5.toInt) → (fw139_x_67.toInt = hx_ps pof pdf psm pkf pst i2.toInt i3.toInt i1.toInt (iv139_5.toInt).toNat) → (iv139_5.toInt ≤ pm0.toInt) → ∀ (ls : Array Slot), 600 - iv139_5.toInt < (n139 : Int) → hx_W T_tb (P_ty dA) (dC, dI) vwCl (hx_A L sz) s.heap hL1 hl1 s H locs → hx_T T_tb hL1 hl1 → hx_S T_tb [(10, 67), (10, 68), (10, 69), (10, 70), (10, 71)] L h hL1 hl1 → hl1.2.1 x 67 = fw139_x_67 → hl1.2.1 x 68 = (0 : Int32) → hl1.2.1 x 69 = (0 : Int32) → hl1.2.1 x 70 = (0 : Int32) → hl1.2.1 x 71 = jw88_x_71 → lv_has ls 9 [(5, .int iv139_5), (4, .int jv136_4), (0, .ref x), (1, .int i1), (2, .int i2), (3, .int i3)] → W p l e ({ frames := 1, cells := 0, slots := 0, locals := 22 }) s m ([.ref x, .int i1, .int i2, .int i3] : List Value).toArray below meth c H locs 0 0 (MQ below (va_Qv (fun (u : List Nat × hx_h) => (∃ (pd1 : Int32) (rs1 : Int32) (ov1 : Int32) (ms1 : Int32) (st1 : Int32), u.2.2.1 x 67 = pd1 ∧ u.2.2.1 x 68 = rs1 ∧ u.2.2.1 x 69 = ov1 ∧ u.2.2.1 x 70 = ms1 ∧ u.2.2.1 x 71 = st1 ∧ (pd1.toInt = hz_pdy (odf i1.toInt.toNat).toInt (szf i1.toInt.toNat).toInt (gdf i1.toInt.toNat).toInt i2.toInt (hx_ps pof pdf psm pkf pst i2.toInt i3.toInt i1.toInt pm0.toInt.toNat) ∧ rs1.toInt = hz_rs (svf i1.toInt.toNat).toInt (hz_bl (odf i1.toInt.toNat).toInt (szf i1.toInt.toNat).toInt (gdf i1.toInt.toNat).toInt (owf i1.toInt.toNat).toInt (R 12) i2.toInt (hx_ps pof pdf psm pkf pst i2.toInt i3.toInt i1.toInt pm0.toInt.toNat)) i2.toInt ∧ ov1.toInt = hz_ov (svf i1.toInt.toNat).toInt (hz_bl (odf i1.toInt.toNat).toInt (szf i1.toInt.toNat).toInt (gdf i1.toInt.toNat).toInt (owf i1.toInt.toNat).toInt (R 12) i2.toInt (hx_ps pof pdf psm pkf pst i2.toInt i3.toInt i1.toInt pm0.toInt.toNat)) i2.toInt ∧ ms1.toInt = hz_ms (odf i1.toInt.toNat).toInt (svf i1.toInt.toNat).toInt (wkf i1.toInt.toNat).toInt (hz_al (owf i1.toInt.toNat).toInt (szf i1.toInt.toNat).toInt (R 12) i2.toInt) (hz_pdy (odf i1.toInt.toNat).toInt (szf i1.toInt.toNat).toInt (gdf i1.toInt.toNat).toInt i2.toInt (hx_ps pof pdf psm pkf pst i2.toInt i3.toInt i1.toInt pm0.toInt.toNat)) i2.toInt ∧ st1.toInt = hz_st (fof i1.toInt.toNat).toInt (hrf i1.toInt.toNat).toInt (udf i1.toInt.toNat).toInt (odf i1.toInt.toNat).toInt (svf i1.toInt.toNat).toInt (hz_rs (svf i1.toInt.toNat).toInt (hz_bl (odf i1.toInt.toNat).toInt (szf i1.toInt.toNat).toInt (gdf i1.toInt.toNat).toInt (owf i1.toInt.toNat).toInt (R 12) i2.toInt (hx_ps pof pdf psm pkf pst i2.toInt i3.toInt i1.toInt pm0.toInt.toNat)) i2.toInt) (hz_ms (odf i1.toInt.toNat).toInt (svf i1.toInt.toNat).toInt (wkf i1.toInt.toNat).toInt (hz_al (owf i1.toInt.toNat).toInt (szf i1.toInt.toNat).toInt (R 12) i2.toInt) (hz_pdy (odf i1.toInt.toNat).toInt (szf i1.toInt.toNat).toInt (gdf i1.toInt.toNat).toInt i2.toInt (hx_ps pof pdf psm pkf pst i2.toInt i3.toInt i1.toInt pm0.toInt.toNat)) i2.toInt) (R 4) (R 5) i2.toInt)) ∧ hx_T T_tb u.1 u.2 ∧ hx_S T_tb [(10, 67), (10, 68), (10, 69), (10, 70), (10, 71)] L h u.1 u.2) (hx_E T_tb (P_ty dA) (dC, dI) vwCl (hx_A L sz)) (hx_A L sz)) ([.ref x, .int i1, .int i2, .int i3] : List Value).toArray s 0 0 (hx_A L sz)) (F0 m 139 ls []) := by
              intro n139
              induction n139 with
              | zero => intro iv139_5 fw139_x_67 H locs hL1 hl1 bliv139_5 buiv139_5 blfw139_x_67 bufw139_x_67 vi139_0 vi139_1 vi139_2 ls hn139; exfalso; omega
              | succ n139 ih139 =>
                intro iv139_5 fw139_x_67 H locs hL1 hl1 bliv139_5 buiv139_5 blfw139_x_67 bufw139_x_67 vi139_0 vi139_1 vi139_2 ls hn139 hW hT hM ffw139_x_67 f_4 f_6 f_8 fjw88_x_71  hl
                refine lv_iload hx hb dX10_looks_139 (lv_at hl 0 rfl) ?_
                refine lv_aload_n hx hb dX10_looks_141 rfl (lv_at hl 2 rfl) ?_
                refine hk_geti hx hb hts hC_10 hown hW (gx.S hM) tt_10 59 ?o36 rfl kw_1202 ⟨rfl, rfl, rfl⟩ ((hM.o gx trivial rfl).1.trans f_x_59) dX10_looks_142 ?_
                case o36 => decide
                refine hb_icmp_ge (zx := iv139_5.toInt) (zy := pm0.toInt) (tgt := 225) hx hb rfl rfl dX10_looks_145 ?o37 (fun c_13 => ?_) (fun c_13 => ?_)
                case o37 => decide
                · skip
                  have join279 : ∀ (jv279_5 jw279_x_67 : Int32) (H : Heap) (locs : List Loc) (hL1 : List Nat) (hl1 : hx_h), 0 ≤ jv279_5.toInt → jv279_5.toInt ≤ 609999 → 0 ≤ jw279_x_67.toInt → jw279_x_67.toInt ≤ 366100000 → (jw279_x_67.toInt = hz_pdy (odf i1.toInt.toNat).toInt (szf i1.toInt.toNat).toInt (gdf i1.toInt.toNat).toInt i2.toInt (hx_ps pof pdf psm pkf pst i2.toInt i3.toInt i1.toInt pm0.toInt.toNat)) → (jv279_5.toInt = hz_al (owf i1.toInt.toNat).toInt (szf i1.toInt.toNat).toInt (R 12) i2.toInt) → ∀ (ls : Array Slot), hx_W T_tb (P_ty dA) (dC, dI) vwCl (hx_A L sz) s.heap hL1 hl1 s H locs → hx_T T_tb hL1 hl1 → hx_S T_tb [(10, 67), (10, 68), (10, 69), (10, 70), (10, 71)] L h hL1 hl1 → hl1.2.1 x 67 = jw279_x_67 → hl1.2.1 x 68 = (0 : Int32) → hl1.2.1 x 69 = (0 : Int32) → hl1.2.1 x 70 = (0 : Int32) → hl1.2.1 x 71 = jw88_x_71 → lv_has ls 9 [(5, .int jv279_5), (4, .int jv136_4), (0, .ref x), (1, .int i1), (2, .int i2), (3, .int i3)] → W p l e ({ frames := 1, cells := 0, slots := 0, locals := 22 }) s m ([.ref x, .int i1, .int i2, .int i3] : List Value).toArray below meth c H locs 0 0 (MQ below (va_Qv (fun (u : List Nat × hx_h) => (∃ (pd1 : Int32) (rs1 : Int32) (ov1 : Int32) (ms1 : Int32) (st1 : Int32), u.2.2.1 x 67 = pd1 ∧ u.2.2.1 x 68 = rs1 ∧ u.2.2.1 x 69 = ov1 ∧ u.2.2.1 x 70 = ms1 ∧ u.2.2.1 x 71 = st1 ∧ (pd1.toInt = hz_pdy (odf i1.toInt.toNat).toInt (szf i1.toInt.toNat).toInt (gdf i1.toInt.toNat).toInt i2.toInt (hx_ps pof pdf psm pkf pst i2.toInt i3.toInt i1.toInt pm0.toInt.toNat) ∧ rs1.toInt = hz_rs (svf i1.toInt.toNat).toInt (hz_bl (odf i1.toInt.toNat).toInt (szf i1.toInt.toNat).toInt (gdf i1.toInt.toNat).toInt (owf i1.toInt.toNat).toInt (R 12) i2.toInt (hx_ps pof pdf psm pkf pst i2.toInt i3.toInt i1.toInt pm0.toInt.toNat)) i2.toInt ∧ ov1.toInt = hz_ov (svf i1.toInt.toNat).toInt (hz_bl (odf i1.toInt.toNat).toInt (szf i1.toInt.toNat).toInt (gdf i1.toInt.toNat).toInt (owf i1.toInt.toNat).toInt (R 12) i2.toInt (hx_ps pof pdf psm pkf pst i2.toInt i3.toInt i1.toInt pm0.toInt.toNat)) i2.toInt ∧ ms1.toInt = hz_ms (odf i1.toInt.toNat).toInt (svf i1.toInt.toNat).toInt (wkf i1.toInt.toNat).toInt (hz_al (owf i1.toInt.toNat).toInt (szf i1.toInt.toNat).toInt (R 12) i2.toInt) (hz_pdy (odf i1.toInt.toNat).toInt (szf i1.toInt.toNat).toInt (gdf i1.toInt.toNat).toInt i2.toInt (hx_ps pof pdf psm pkf pst i2.toInt i3.toInt i1.toInt pm0.toInt.toNat)) i2.toInt ∧ st1.toInt = hz_st (fof i1.toInt.toNat).toInt (hrf i1.toInt.toNat).toInt (udf i1.toInt.toNat).toInt (odf i1.toInt.toNat).toInt (svf i1.toInt.toNat).toInt (hz_rs (svf i1.toInt.toNat).toInt (hz_bl (odf i1.toInt.toNat).toInt (szf i1.toInt.toNat).toInt (gdf i1.toInt.toNat).toInt (owf i1.toInt.toNat).toInt (R 12) i2.toInt (hx_ps pof pdf psm pkf pst i2.toInt i3.toInt i1.toInt pm0.toInt.toNat)) i2.toInt) (hz_ms (odf i1.toInt.toNat).toInt (svf i1.toInt.toNat).toInt (wkf i1.toInt.toNat).toInt (hz_al (owf i1.toInt.toNat).toInt (szf i1.toInt.toNat).toInt (R 12) i2.toInt) (hz_pdy (odf i1.toInt.toNat).toInt (szf i1.toInt.toNat).toInt (gdf i1.toInt.toNat).toInt i2.toInt (hx_ps pof pdf psm pkf pst i2.toInt i3.toInt i1.toInt pm0.toInt.toNat)) i2.toInt) (R 4) (R 5) i2.toInt)) ∧ hx_T T_tb u.1 u.2 ∧ hx_S T_tb [(10, 67), (10, 68), (10, 69), (10, 70), (10, 71)] L h u.1 u.2) (hx_E T_tb (P_ty dA) (dC, dI) vwCl (hx_A L sz)) (hx_A L sz)) ([.ref x, .int i1, .int i2, .int i3] : List Value).toArray s 0 0 (hx_A L sz)) (F0 m 279 ls []) := by
                    intro jv279_5 jw279_x_67 H locs hL1 hl1 bljv279_5 bujv279_5 bljw279_x_67 bujw279_x_67 vj279_0 vj279_1 ls hW hT hM fjw279_x_67 f_4 f_6 f_8 fjw88_x_71  hl
                    refine lv_aload_n hx hb dX10_looks_279 rfl (lv_at hl 2 rfl) ?_
                    refine hk_getr hx hb hts hC_10 hown hW (gx.S hM) tt_10 50 ?o38 rfl kw_1193 ⟨rfl, rfl, rfl⟩ ((hM.o gx trivial rfl).2.trans f_x_50) dX10_looks_280 ?_
                    case o38 => decide
                    refine lv_iload_n hx hb dX10_looks_283 rfl (lv_at hl 3 rfl) ?_
                    refine hx_iald hx hb hW hT (gqsv.S hM) tt_85 rfl ⟨?o39, ?o40⟩ dX10_looks_284 (fun x_14 ex_14 lx_14 ux_14 => ?_)
                    case o39 => omega
                    case o40 => omega
                    have ax_14 : x_14 = svf i1.toNatClampNeg := ex_14.trans (congrFun (hx_afS hM gqsv rfl af_qsv) _)
                    have sx_14 : x_14.toInt = (svf i1.toInt.toNat).toInt := congrArg Int32.toInt ax_14
                    refine lv_iconst (v := -1) hx hb dX10_looks_285 ?o41 ?_
                    case o41 => decide
                    refine hb_icmp_eq (zx := x_14.toInt) (zy := (-1)) (tgt := 306) hx hb rfl ?o42 dX10_looks_286 ?o43 (fun c_15 => ?_) (fun c_15 => ?_)
                    case o42 => decide
                    case o43 => decide
                    · skip
                      have join330 : ∀ (jw330_x_68 : Int32) (H : Heap) (locs : List Loc) (hL1 : List Nat) (hl1 : hx_h), 0 ≤ jw330_x_68.toInt → jw330_x_68.toInt ≤ 610000 → (jw330_x_68.toInt = hz_rs (svf i1.toInt.toNat).toInt (hz_bl (odf i1.toInt.toNat).toInt (szf i1.toInt.toNat).toInt (gdf i1.toInt.toNat).toInt (owf i1.toInt.toNat).toInt (R 12) i2.toInt (hx_ps pof pdf psm pkf pst i2.toInt i3.toInt i1.toInt pm0.toInt.toNat)) i2.toInt) → ∀ (ls : Array Slot), hx_W T_tb (P_ty dA) (dC, dI) vwCl (hx_A L sz) s.heap hL1 hl1 s H locs → hx_T T_tb hL1 hl1 → hx_S T_tb [(10, 67), (10, 68), (10, 69), (10, 70), (10, 71)] L h hL1 hl1 → hl1.2.1 x 68 = jw330_x_68 → hl1.2.1 x 69 = (0 : Int32) → hl1.2.1 x 70 = (0 : Int32) → hl1.2.1 x 71 = jw88_x_71 → hl1.2.1 x 67 = jw279_x_67 → lv_has ls 9 [(5, .int jv279_5), (4, .int jv136_4), (0, .ref x), (1, .int i1), (2, .int i2), (3, .int i3)] → W p l e ({ frames := 1, cells := 0, slots := 0, locals := 22 }) s m ([.ref x, .int i1, .int i2, .int i3] : List Value).toArray below meth c H locs 0 0 (MQ below (va_Qv (fun (u : List Nat × hx_h) => (∃ (pd1 : Int32) (rs1 : Int32) (ov1 : Int32) (ms1 : Int32) (st1 : Int32), u.2.2.1 x 67 = pd1 ∧ u.2.2.1 x 68 = rs1 ∧ u.2.2.1 x 69 = ov1 ∧ u.2.2.1 x 70 = ms1 ∧ u.2.2.1 x 71 = st1 ∧ (pd1.toInt = hz_pdy (odf i1.toInt.toNat).toInt (szf i1.toInt.toNat).toInt (gdf i1.toInt.toNat).toInt i2.toInt (hx_ps pof pdf psm pkf pst i2.toInt i3.toInt i1.toInt pm0.toInt.toNat) ∧ rs1.toInt = hz_rs (svf i1.toInt.toNat).toInt (hz_bl (odf i1.toInt.toNat).toInt (szf i1.toInt.toNat).toInt (gdf i1.toInt.toNat).toInt (owf i1.toInt.toNat).toInt (R 12) i2.toInt (hx_ps pof pdf psm pkf pst i2.toInt i3.toInt i1.toInt pm0.toInt.toNat)) i2.toInt ∧ ov1.toInt = hz_ov (svf i1.toInt.toNat).toInt (hz_bl (odf i1.toInt.toNat).toInt (szf i1.toInt.toNat).toInt (gdf i1.toInt.toNat).toInt (owf i1.toInt.toNat).toInt (R 12) i2.toInt (hx_ps pof pdf psm pkf pst i2.toInt i3.toInt i1.toInt pm0.toInt.toNat)) i2.toInt ∧ ms1.toInt = hz_ms (odf i1.toInt.toNat).toInt (svf i1.toInt.toNat).toInt (wkf i1.toInt.toNat).toInt (hz_al (owf i1.toInt.toNat).toInt (szf i1.toInt.toNat).toInt (R 12) i2.toInt) (hz_pdy (odf i1.toInt.toNat).toInt (szf i1.toInt.toNat).toInt (gdf i1.toInt.toNat).toInt i2.toInt (hx_ps pof pdf psm pkf pst i2.toInt i3.toInt i1.toInt pm0.toInt.toNat)) i2.toInt ∧ st1.toInt = hz_st (fof i1.toInt.toNat).toInt (hrf i1.toInt.toNat).toInt (udf i1.toInt.toNat).toInt (odf i1.toInt.toNat).toInt (svf i1.toInt.toNat).toInt (hz_rs (svf i1.toInt.toNat).toInt (hz_bl (odf i1.toInt.toNat).toInt (szf i1.toInt.toNat).toInt (gdf i1.toInt.toNat).toInt (owf i1.toInt.toNat).toInt (R 12) i2.toInt (hx_ps pof pdf psm pkf pst i2.toInt i3.toInt i1.toInt pm0.toInt.toNat)) i2.toInt) (hz_ms (odf i1.toInt.toNat).toInt (svf i1.toInt.toNat).toInt (wkf i1.toInt.toNat).toInt (hz_al (owf i1.toInt.toNat).toInt (szf i1.toInt.toNat).toInt (R 12) i2.toInt) (hz_pdy (odf i1.toInt.toNat).toInt (szf i1.toInt.toNat).toInt (gdf i1.toInt.toNat).toInt i2.toInt (hx_ps pof pdf psm pkf pst i2.toInt i3.toInt i1.toInt pm0.toInt.toNat)) i2.toInt) (R 4) (R 5) i2.toInt)) ∧ hx_T T_tb u.1 u.2 ∧ hx_S T_tb [(10, 67), (10, 68), (10, 69), (10, 70), (10, 71)] L h u.1 u.2) (hx_E T_tb (P_ty dA) (dC, dI) vwCl (hx_A L sz)) (hx_A L sz)) ([.ref x, .int i1, .int i2, .int i3] : List Value).toArray s 0 0 (hx_A L sz)) (F0 m 330 ls []) := by
                        intro jw330_x_68 H locs hL1 hl1 bljw330_x_68 bujw330_x_68 vj330_0 ls hW hT hM fjw330_x_68 f_6 f_8 fjw88_x_71 fjw279_x_67  hl
                        have join354 : ∀ (jw354_x_69 : Int32) (H : Heap) (locs : List Loc) (hL1 : List Nat) (hl1 : hx_h), -2147483648 ≤ jw354_x_69.toInt → jw354_x_69.toInt ≤ 2147483647 → (jw354_x_69.toInt = hz_ov (svf i1.toInt.toNat).toInt (hz_bl (odf i1.toInt.toNat).toInt (szf i1.toInt.toNat).toInt (gdf i1.toInt.toNat).toInt (owf i1.toInt.toNat).toInt (R 12) i2.toInt (hx_ps pof pdf psm pkf pst i2.toInt i3.toInt i1.toInt pm0.toInt.toNat)) i2.toInt) → ∀ (ls : Array Slot), hx_W T_tb (P_ty dA) (dC, dI) vwCl (hx_A L sz) s.heap hL1 hl1 s H locs → hx_T T_tb hL1 hl1 → hx_S T_tb [(10, 67), (10, 68), (10, 69), (10, 70), (10, 71)] L h hL1 hl1 → hl1.2.1 x 69 = jw354_x_69 → hl1.2.1 x 70 = (0 : Int32) → hl1.2.1 x 71 = jw88_x_71 → hl1.2.1 x 67 = jw279_x_67 → hl1.2.1 x 68 = jw330_x_68 → lv_has ls 9 [(5, .int jv279_5), (4, .int jv136_4), (0, .ref x), (1, .int i1), (2, .int i2), (3, .int i3)] → W p l e ({ frames := 1, cells := 0, slots := 0, locals := 22 }) s m ([.ref x, .int i1, .int i2, .int i3] : List Value).toArray below meth c H locs 0 0 (MQ below (va_Qv (fun (u : List Nat × hx_h) => (∃ (pd1 : Int32) (rs1 : Int32) (ov1 : Int32) (ms1 : Int32) (st1 : Int32), u.2.2.1 x 67 = pd1 ∧ u.2.2.1 x 68 = rs1 ∧ u.2.2.1 x 69 = ov1 ∧ u.2.2.1 x 70 = ms1 ∧ u.2.2.1 x 71 = st1 ∧ (pd1.toInt = hz_pdy (odf i1.toInt.toNat).toInt (szf i1.toInt.toNat).toInt (gdf i1.toInt.toNat).toInt i2.toInt (hx_ps pof pdf psm pkf pst i2.toInt i3.toInt i1.toInt pm0.toInt.toNat) ∧ rs1.toInt = hz_rs (svf i1.toInt.toNat).toInt (hz_bl (odf i1.toInt.toNat).toInt (szf i1.toInt.toNat).toInt (gdf i1.toInt.toNat).toInt (owf i1.toInt.toNat).toInt (R 12) i2.toInt (hx_ps pof pdf psm pkf pst i2.toInt i3.toInt i1.toInt pm0.toInt.toNat)) i2.toInt ∧ ov1.toInt = hz_ov (svf i1.toInt.toNat).toInt (hz_bl (odf i1.toInt.toNat).toInt (szf i1.toInt.toNat).toInt (gdf i1.toInt.toNat).toInt (owf i1.toInt.toNat).toInt (R 12) i2.toInt (hx_ps pof pdf psm pkf pst i2.toInt i3.toInt i1.toInt pm0.toInt.toNat)) i2.toInt ∧ ms1.toInt = hz_ms (odf i1.toInt.toNat).toInt (svf i1.toInt.toNat).toInt (wkf i1.toInt.toNat).toInt (hz_al (owf i1.toInt.toNat).toInt (szf i1.toInt.toNat).toInt (R 12) i2.toInt) (hz_pdy (odf i1.toInt.toNat).toInt (szf i1.toInt.toNat).toInt (gdf i1.toInt.toNat).toInt i2.toInt (hx_ps pof pdf psm pkf pst i2.toInt i3.toInt i1.toInt pm0.toInt.toNat)) i2.toInt ∧ st1.toInt = hz_st (fof i1.toInt.toNat).toInt (hrf i1.toInt.toNat).toInt (udf i1.toInt.toNat).toInt (odf i1.toInt.toNat).toInt (svf i1.toInt.toNat).toInt (hz_rs (svf i1.toInt.toNat).toInt (hz_bl (odf i1.toInt.toNat).toInt (szf i1.toInt.toNat).toInt (gdf i1.toInt.toNat).toInt (owf i1.toInt.toNat).toInt (R 12) i2.toInt (hx_ps pof pdf psm pkf pst i2.toInt i3.toInt i1.toInt pm0.toInt.toNat)) i2.toInt) (hz_ms (odf i1.toInt.toNat).toInt (svf i1.toInt.toNat).toInt (wkf i1.toInt.toNat).toInt (hz_al (owf i1.toInt.toNat).toInt (szf i1.toInt.toNat).toInt (R 12) i2.toInt) (hz_pdy (odf i1.toInt.toNat).toInt (szf i1.toInt.toNat).toInt (gdf i1.toInt.toNat).toInt i2.toInt (hx_ps pof pdf psm pkf pst i2.toInt i3.toInt i1.toInt pm0.toInt.toNat)) i2.toInt) (R 4) (R 5) i2.toInt)) ∧ hx_T T_tb u.1 u.2 ∧ hx_S T_tb [(10, 67), (10, 68), (10, 69), (10, 70), (10, 71)] L h u.1 u.2) (hx_E T_tb (P_ty dA) (dC, dI) vwCl (hx_A L sz)) (hx_A L sz)) ([.ref x, .int i1, .int i2, .int i3] : List Value).toArray s 0 0 (hx_A L sz)) (F0 m 354 ls []) := by
                          intro jw354_x_69 H locs hL1 hl1 bljw354_x_69 bujw354_x_69 vj354_0 ls hW hT hM fjw354_x_69 f_8 fjw88_x_71 fjw279_x_67 fjw330_x_68  hl
                          have join437 : ∀ (jw437_x_70 : Int32) (H : Heap) (locs : List Loc) (hL1 : List Nat) (hl1 : hx_h), -2147483648 ≤ jw437_x_70.toInt → jw437_x_70.toInt ≤ 2147483647 → (jw437_x_70.toInt = hz_ms (odf i1.toInt.toNat).toInt (svf i1.toInt.toNat).toInt (wkf i1.toInt.toNat).toInt (hz_al (owf i1.toInt.toNat).toInt (szf i1.toInt.toNat).toInt (R 12) i2.toInt) (hz_pdy (odf i1.toInt.toNat).toInt (szf i1.toInt.toNat).toInt (gdf i1.toInt.toNat).toInt i2.toInt (hx_ps pof pdf psm pkf pst i2.toInt i3.toInt i1.toInt pm0.toInt.toNat)) i2.toInt) → ∀ (ls : Array Slot), hx_W T_tb (P_ty dA) (dC, dI) vwCl (hx_A L sz) s.heap hL1 hl1 s H locs → hx_T T_tb hL1 hl1 → hx_S T_tb [(10, 67), (10, 68), (10, 69), (10, 70), (10, 71)] L h hL1 hl1 → hl1.2.1 x 70 = jw437_x_70 → hl1.2.1 x 71 = jw88_x_71 → hl1.2.1 x 67 = jw279_x_67 → hl1.2.1 x 68 = jw330_x_68 → hl1.2.1 x 69 = jw354_x_69 → lv_has ls 9 [(5, .int jv279_5), (4, .int jv136_4), (0, .ref x), (1, .int i1), (2, .int i2), (3, .int i3)] → W p l e ({ frames := 1, cells := 0, slots := 0, locals := 22 }) s m ([.ref x, .int i1, .int i2, .int i3] : List Value).toArray below meth c H locs 0 0 (MQ below (va_Qv (fun (u : List Nat × hx_h) => (∃ (pd1 : Int32) (rs1 : Int32) (ov1 : Int32) (ms1 : Int32) (st1 : Int32), u.2.2.1 x 67 = pd1 ∧ u.2.2.1 x 68 = rs1 ∧ u.2.2.1 x 69 = ov1 ∧ u.2.2.1 x 70 = ms1 ∧ u.2.2.1 x 71 = st1 ∧ (pd1.toInt = hz_pdy (odf i1.toInt.toNat).toInt (szf i1.toInt.toNat).toInt (gdf i1.toInt.toNat).toInt i2.toInt (hx_ps pof pdf psm pkf pst i2.toInt i3.toInt i1.toInt pm0.toInt.toNat) ∧ rs1.toInt = hz_rs (svf i1.toInt.toNat).toInt (hz_bl (odf i1.toInt.toNat).toInt (szf i1.toInt.toNat).toInt (gdf i1.toInt.toNat).toInt (owf i1.toInt.toNat).toInt (R 12) i2.toInt (hx_ps pof pdf psm pkf pst i2.toInt i3.toInt i1.toInt pm0.toInt.toNat)) i2.toInt ∧ ov1.toInt = hz_ov (svf i1.toInt.toNat).toInt (hz_bl (odf i1.toInt.toNat).toInt (szf i1.toInt.toNat).toInt (gdf i1.toInt.toNat).toInt (owf i1.toInt.toNat).toInt (R 12) i2.toInt (hx_ps pof pdf psm pkf pst i2.toInt i3.toInt i1.toInt pm0.toInt.toNat)) i2.toInt ∧ ms1.toInt = hz_ms (odf i1.toInt.toNat).toInt (svf i1.toInt.toNat).toInt (wkf i1.toInt.toNat).toInt (hz_al (owf i1.toInt.toNat).toInt (szf i1.toInt.toNat).toInt (R 12) i2.toInt) (hz_pdy (odf i1.toInt.toNat).toInt (szf i1.toInt.toNat).toInt (gdf i1.toInt.toNat).toInt i2.toInt (hx_ps pof pdf psm pkf pst i2.toInt i3.toInt i1.toInt pm0.toInt.toNat)) i2.toInt ∧ st1.toInt = hz_st (fof i1.toInt.toNat).toInt (hrf i1.toInt.toNat).toInt (udf i1.toInt.toNat).toInt (odf i1.toInt.toNat).toInt (svf i1.toInt.toNat).toInt (hz_rs (svf i1.toInt.toNat).toInt (hz_bl (odf i1.toInt.toNat).toInt (szf i1.toInt.toNat).toInt (gdf i1.toInt.toNat).toInt (owf i1.toInt.toNat).toInt (R 12) i2.toInt (hx_ps pof pdf psm pkf pst i2.toInt i3.toInt i1.toInt pm0.toInt.toNat)) i2.toInt) (hz_ms (odf i1.toInt.toNat).toInt (svf i1.toInt.toNat).toInt (wkf i1.toInt.toNat).toInt (hz_al (owf i1.toInt.toNat).toInt (szf i1.toInt.toNat).toInt (R 12) i2.toInt) (hz_pdy (odf i1.toInt.toNat).toInt (szf i1.toInt.toNat).toInt (gdf i1.toInt.toNat).toInt i2.toInt (hx_ps pof pdf psm pkf pst i2.toInt i3.toInt i1.toInt pm0.toInt.toNat)) i2.toInt) (R 4) (R 5) i2.toInt)) ∧ hx_T T_tb u.1 u.2 ∧ hx_S T_tb [(10, 67), (10, 68), (10, 69), (10, 70), (10, 71)] L h u.1 u.2) (hx_E T_tb (P_ty dA) (dC, dI) vwCl (hx_A L sz)) (hx_A L sz)) ([.ref x, .int i1, .int i2, .int i3] : List Value).toArray s 0 0 (hx_A L sz)) (F0 m 437 ls []) := by
                            intro jw437_x_70 H locs hL1 hl1 bljw437_x_70 bujw437_x_70 vj437_0 ls hW hT hM fjw437_x_70 fjw88_x_71 fjw279_x_67 fjw330_x_68 fjw354_x_69  hl
                            refine lv_aload_n hx hb dX10_looks_437 rfl (lv_at hl 2 rfl) ?_
                            refine lv_aload_n hx hb dX10_looks_438 rfl (lv_at hl 2 rfl) ?_
                            refine hk_getr hx hb hts hC_10 hown hW (gx.S hM) tt_10 44 ?o44 rfl kw_1187 ⟨rfl, rfl, rfl⟩ ((hM.o gx trivial rfl).2.trans f_x_44) dX10_looks_439 ?_
                            case o44 => decide
                            refine lv_iload_n hx hb dX10_looks_442 rfl (lv_at hl 3 rfl) ?_
                            refine hx_iald hx hb hW hT (gqpl.S hM) tt_79 rfl ⟨?o45, ?o46⟩ dX10_looks_443 (fun x_16 ex_16 lx_16 ux_16 => ?_)
                            case o45 => omega
                            case o46 => omega
                            have ax_16 : x_16 = plf i1.toNatClampNeg := ex_16.trans (congrFun (hx_afS hM gqpl rfl af_qpl) _)
                            refine lv_iconst (v := 4) hx hb dX10_looks_444 ?o47 ?_
                            case o47 => decide
                            have zc_4 : (4 : Int32).toInt = 4 := ?o48
                            case o48 => decide
                            refine hx_goi (hx_runV (As := [.int x_16, .int (4 : Int32)]) (rest := []) ⟨hx, hb, hml, hown, hts⟩ hW (gx.S hM) tt_10 (T := TX10) (N := 98) rfl (t_X10_ruleOf_v l dC dI dA hL1 hl1 H.size x x_16 (4 : Int32) hT (gx.S hM) qru (gqru.S hM) ((hM.o gx trivial rfl).2.trans f_x_3) rlf (hx_afS hM gqru rfl af_qru) ⟨?o49, ?o50⟩ ?o51) (cwV 2 hts (hx_gV kw_1533 kw_1530 kw_1532 kw_66 kw_103) rfl rfl rfl (by decide +kernel) ⟨Nat.le_of_ble_eq_true rfl, Nat.le_of_ble_eq_true rfl⟩) rfl hl.1 rfl (Nat.le_of_ble_eq_true rfl) dX10_looks_445 ⟨Nat.le_of_ble_eq_true rfl, Nat.le_of_ble_eq_true rfl⟩) hW (fun r_19 L_17 h_18 H locs p_20 hW => ?_)
                            case o49 => omega
                            case o50 => omega
                            case o51 => decide
                            obtain ⟨hr_21, hT, hs⟩ := p_20
                            replace hT : hx_T T_tb L_17 h_18 := hT
                            replace hs : hx_S T_tb [] hL1 hl1 L_17 h_18 := hs
                            replace fjw88_x_71 := (hs.o (gx.S hM) trivial rfl).1.trans fjw88_x_71
                            replace fjw279_x_67 := (hs.o (gx.S hM) trivial rfl).1.trans fjw279_x_67
                            replace fjw330_x_68 := (hs.o (gx.S hM) trivial rfl).1.trans fjw330_x_68
                            replace fjw354_x_69 := (hs.o (gx.S hM) trivial rfl).1.trans fjw354_x_69
                            replace fjw437_x_70 := (hs.o (gx.S hM) trivial rfl).1.trans fjw437_x_70
                            replace ex_16 := ex_16.trans (hs.a (gqpl.S hM) rfl _).1.symm
                            replace hM := hM.tr (hs.mono ?o52)
                            case o52 => decide
                            have hR_22 : r_19.toInt = R 4 := ?o53
                            case o53 =>
                              rw [hr_21.1, ax_16, show (4 : Int32).toInt.toNat = 4 from by decide]
                              refine hRr 4 ?o54
                              case o54 => decide
                            refine lv_istore (lv' := [(8, .int r_19), (5, .int jv279_5), (4, .int jv136_4), (0, .ref x), (1, .int i1), (2, .int i2), (3, .int i3)]) hx hb dX10_looks_448 hl ?o55 rfl (fun ls hl => ?_)
                            case o55 => decide
                            refine lv_aload_n hx hb dX10_looks_450 rfl (lv_at hl 3 rfl) ?_
                            refine lv_aload_n hx hb dX10_looks_451 rfl (lv_at hl 3 rfl) ?_
                            refine hk_geti hx hb hts hC_10 hown hW (gx.S hM) tt_10 68 ?o56 rfl kw_1211 ⟨rfl, rfl, rfl⟩ fjw330_x_68 dX10_looks_452 ?_
                            case o56 => decide
                            refine hb_if_ne (zx := jw330_x_68.toInt) (tgt := 463) hx hb rfl dX10_looks_455 ?o57 (fun c_23 => ?_) (fun c_23 => ?_)
                            case o57 => decide
                            · skip
                              refine lv_aload_n hx hb dX10_looks_463 rfl (lv_at hl 3 rfl) ?_
                              refine hk_geti hx hb hts hC_10 hown hW (gx.S hM) tt_10 70 ?o58 rfl kw_1213 ⟨rfl, rfl, rfl⟩ fjw437_x_70 dX10_looks_464 ?_
                              case o58 => decide
                              refine lv_iload hx hb dX10_looks_467 (lv_at hl 0 rfl) ?_
                              refine lv_aload_n hx hb dX10_looks_469 rfl (lv_at hl 3 rfl) ?_
                              refine lv_aload_n hx hb dX10_looks_470 rfl (lv_at hl 3 rfl) ?_
                              refine hk_getr hx hb hts hC_10 hown hW (gx.S hM) tt_10 44 ?o59 rfl kw_1187 ⟨rfl, rfl, rfl⟩ ((hM.o gx trivial rfl).2.trans f_x_44) dX10_looks_471 ?_
                              case o59 => decide
                              refine lv_iload_n hx hb dX10_looks_474 rfl (lv_at hl 4 rfl) ?_
                              refine hx_iald hx hb hW hT (gqpl.S hM) tt_79 rfl ⟨?o60, ?o61⟩ dX10_looks_475 (fun x_24 ex_24 lx_24 ux_24 => ?_)
                              case o60 => omega
                              case o61 => omega
                              have ax_24 : x_24 = plf i1.toNatClampNeg := ex_24.trans (congrFun (hx_afS hM gqpl rfl af_qpl) _)
                              obtain rfl : x_16 = x_24 := ex_16.trans ex_24.symm
                              refine lv_iconst (v := 5) hx hb dX10_looks_476 ?o62 ?_
                              case o62 => decide
                              have zc_5 : (5 : Int32).toInt = 5 := ?o63
                              case o63 => decide
                              refine hx_goi (hx_runV (As := [.int x_16, .int (5 : Int32)]) (rest := [.int r_19, .int jw437_x_70, .ref x]) ⟨hx, hb, hml, hown, hts⟩ hW (gx.S hM) tt_10 (T := TX10) (N := 98) rfl (t_X10_ruleOf_v l dC dI dA L_17 h_18 H.size x x_16 (5 : Int32) hT (gx.S hM) qru (gqru.S hM) ((hM.o gx trivial rfl).2.trans f_x_3) rlf (hx_afS hM gqru rfl af_qru) ⟨?o64, ?o65⟩ ?o66) (cwV 2 hts (hx_gV kw_1533 kw_1530 kw_1532 kw_66 kw_103) rfl rfl rfl (by decide +kernel) ⟨Nat.le_of_ble_eq_true rfl, Nat.le_of_ble_eq_true rfl⟩) rfl hl.1 rfl (Nat.le_of_ble_eq_true rfl) dX10_looks_477 ⟨Nat.le_of_ble_eq_true rfl, Nat.le_of_ble_eq_true rfl⟩) hW (fun r_27 L_25 h_26 H locs p_28 hW => ?_)
                              case o64 => omega
                              case o65 => omega
                              case o66 => decide
                              obtain ⟨hr_29, hT, hs⟩ := p_28
                              replace hT : hx_T T_tb L_25 h_26 := hT
                              replace hs : hx_S T_tb [] L_17 h_18 L_25 h_26 := hs
                              replace fjw88_x_71 := (hs.o (gx.S hM) trivial rfl).1.trans fjw88_x_71
                              replace fjw279_x_67 := (hs.o (gx.S hM) trivial rfl).1.trans fjw279_x_67
                              replace fjw330_x_68 := (hs.o (gx.S hM) trivial rfl).1.trans fjw330_x_68
                              replace fjw354_x_69 := (hs.o (gx.S hM) trivial rfl).1.trans fjw354_x_69
                              replace fjw437_x_70 := (hs.o (gx.S hM) trivial rfl).1.trans fjw437_x_70
                              replace ex_16 := ex_16.trans (hs.a (gqpl.S hM) rfl _).1.symm
                              replace hM := hM.tr (hs.mono ?o67)
                              case o67 => decide
                              have hR_30 : r_27.toInt = R 5 := ?o68
                              case o68 =>
                                rw [hr_29.1, ax_16, show (5 : Int32).toInt.toNat = 5 from by decide]
                                refine hRr 5 ?o69
                                case o69 => decide
                              refine lv_iadd hx hb dX10_looks_480 ?_
                              have rg_31 := i32_r r_19
                              have rg_32 := i32_r r_27
                              refine lv_topi (fun x_33 ex_33 => ?_)
                              have zx_33 : x_33.toInt = r_19.toInt + r_27.toInt := ?o70
                              case o70 =>
                                rw [ex_33]
                                refine i32_add rfl rfl ?o71 ?o72
                                case o71 => omega
                                case o72 => omega
                              refine hb_icmp_lt (zx := jw437_x_70.toInt) (zy := x_33.toInt) (tgt := 489) hx hb rfl rfl dX10_looks_481 ?o73 (fun c_34 => ?_) (fun c_34 => ?_)
                              case o73 => decide
                              · skip
                                refine lv_aload_n hx hb dX10_looks_489 rfl (lv_at hl 3 rfl) ?_
                                refine hk_geti hx hb hts hC_10 hown hW (gx.S hM) tt_10 70 ?o74 rfl kw_1213 ⟨rfl, rfl, rfl⟩ fjw437_x_70 dX10_looks_490 ?_
                                case o74 => decide
                                refine lv_iload hx hb dX10_looks_493 (lv_at hl 0 rfl) ?_
                                refine hb_icmp_lt (zx := jw437_x_70.toInt) (zy := r_19.toInt) (tgt := 502) hx hb rfl rfl dX10_looks_495 ?o75 (fun c_35 => ?_) (fun c_35 => ?_)
                                case o75 => decide
                                · skip
                                  refine lv_iconst (v := 4) hx hb dX10_looks_502 ?o76 ?_
                                  case o76 => decide
                                  refine hx_puti hx hb hts hC_10 hown hW hT (hx_S.rf (M := [(10, 71)])) (gx.S hM) tt_10 71 ?o77 rfl kw_1214 ⟨rfl, rfl, rfl⟩ rfl (x := (4 : Int32)) ?o78 rfl rfl rfl (List.mem_singleton.mpr rfl) dX10_looks_503 (fun H locs h_36 eh_36 hW hT hs => ?_)
                                  case o77 => decide
                                  case o78 => decide
                                  replace fjw279_x_67 := (hs.o (gx.S hM) trivial rfl).1.trans fjw279_x_67
                                  replace fjw330_x_68 := (hs.o (gx.S hM) trivial rfl).1.trans fjw330_x_68
                                  replace fjw354_x_69 := (hs.o (gx.S hM) trivial rfl).1.trans fjw354_x_69
                                  replace fjw437_x_70 := (hs.o (gx.S hM) trivial rfl).1.trans fjw437_x_70
                                  replace ex_16 := ex_16.trans (hs.a (gqpl.S hM) rfl _).1.symm
                                  replace hM := hM.tr (hs.mono ?o79)
                                  case o79 => decide
                                  have f_37 : h_36.2.1 x 71 = (4 : Int32) := ?o80
                                  case o80 =>
                                    rw [eh_36]
                                    exact hx_pi_at _ _ _ _
                                  have zo_4 : (4 : Int32).toInt = 4 := ?o81
                                  case o81 => decide
                                  exact hx_retv hx hb hr hlk hW ⟨⟨jw279_x_67, jw330_x_68, jw354_x_69, jw437_x_70, (4 : Int32), fjw279_x_67, fjw330_x_68, fjw354_x_69, fjw437_x_70, f_37, (by have zr_4 : (4 : Int32).toInt = 4 := (by decide); exact ⟨(by omega), (by omega), (by omega), (by omega), (by unfold hz_st; rw [if_neg (by omega), if_neg (by omega)]; rw [← hR_22]; rw [← hR_30]; (repeat' split) <;> omega)⟩)⟩, hT, hM⟩ dX10_looks_506
                                · skip
                                  refine lv_iconst (v := 5) hx hb dX10_looks_498 ?o82 ?_
                                  case o82 => decide
                                  refine lv_goto (tgt := 503) hx hb dX10_looks_499 ?o83 ?_
                                  case o83 => decide
                                  refine hx_puti hx hb hts hC_10 hown hW hT (hx_S.rf (M := [(10, 71)])) (gx.S hM) tt_10 71 ?o84 rfl kw_1214 ⟨rfl, rfl, rfl⟩ rfl (x := (5 : Int32)) ?o85 rfl rfl rfl (List.mem_singleton.mpr rfl) dX10_looks_503 (fun H locs h_38 eh_38 hW hT hs => ?_)
                                  case o84 => decide
                                  case o85 => decide
                                  replace fjw279_x_67 := (hs.o (gx.S hM) trivial rfl).1.trans fjw279_x_67
                                  replace fjw330_x_68 := (hs.o (gx.S hM) trivial rfl).1.trans fjw330_x_68
                                  replace fjw354_x_69 := (hs.o (gx.S hM) trivial rfl).1.trans fjw354_x_69
                                  replace fjw437_x_70 := (hs.o (gx.S hM) trivial rfl).1.trans fjw437_x_70
                                  replace ex_16 := ex_16.trans (hs.a (gqpl.S hM) rfl _).1.symm
                                  replace hM := hM.tr (hs.mono ?o86)
                                  case o86 => decide
                                  have f_39 : h_38.2.1 x 71 = (5 : Int32) := ?o87
                                  case o87 =>
                                    rw [eh_38]
                                    exact hx_pi_at _ _ _ _
                                  have zo_5 : (5 : Int32).toInt = 5 := ?o88
                                  case o88 => decide
                                  exact hx_retv hx hb hr hlk hW ⟨⟨jw279_x_67, jw330_x_68, jw354_x_69, jw437_x_70, (5 : Int32), fjw279_x_67, fjw330_x_68, fjw354_x_69, fjw437_x_70, f_39, (by have zr_5 : (5 : Int32).toInt = 5 := (by decide); exact ⟨(by omega), (by omega), (by omega), (by omega), (by unfold hz_st; rw [if_neg (by omega), if_neg (by omega)]; rw [← hR_22]; rw [← hR_30]; (repeat' split) <;> omega)⟩)⟩, hT, hM⟩ dX10_looks_506
                              · skip
                                refine lv_bipush (v := 6) hx hb dX10_looks_484 ?o89 ?_
                                case o89 => decide
                                refine lv_goto (tgt := 503) hx hb dX10_looks_486 ?o90 ?_
                                case o90 => decide
                                refine hx_puti hx hb hts hC_10 hown hW hT (hx_S.rf (M := [(10, 71)])) (gx.S hM) tt_10 71 ?o91 rfl kw_1214 ⟨rfl, rfl, rfl⟩ rfl (x := (6 : Int32)) ?o92 rfl rfl rfl (List.mem_singleton.mpr rfl) dX10_looks_503 (fun H locs h_40 eh_40 hW hT hs => ?_)
                                case o91 => decide
                                case o92 => decide
                                replace fjw279_x_67 := (hs.o (gx.S hM) trivial rfl).1.trans fjw279_x_67
                                replace fjw330_x_68 := (hs.o (gx.S hM) trivial rfl).1.trans fjw330_x_68
                                replace fjw354_x_69 := (hs.o (gx.S hM) trivial rfl).1.trans fjw354_x_69
                                replace fjw437_x_70 := (hs.o (gx.S hM) trivial rfl).1.trans fjw437_x_70
                                replace ex_16 := ex_16.trans (hs.a (gqpl.S hM) rfl _).1.symm
                                replace hM := hM.tr (hs.mono ?o93)
                                case o93 => decide
                                have f_41 : h_40.2.1 x 71 = (6 : Int32) := ?o94
                                case o94 =>
                                  rw [eh_40]
                                  exact hx_pi_at _ _ _ _
                                have zo_6 : (6 : Int32).toInt = 6 := ?o95
                                case o95 => decide
                                exact hx_retv hx hb hr hlk hW ⟨⟨jw279_x_67, jw330_x_68, jw354_x_69, jw437_x_70, (6 : Int32), fjw279_x_67, fjw330_x_68, fjw354_x_69, fjw437_x_70, f_41, (by have zr_6 : (6 : Int32).toInt = 6 := (by decide); exact ⟨(by omega), (by omega), (by omega), (by omega), (by unfold hz_st; rw [if_neg (by omega), if_neg (by omega)]; rw [← hR_22]; rw [← hR_30]; (repeat' split) <;> omega)⟩)⟩, hT, hM⟩ dX10_looks_506
                            · skip
                              refine lv_bipush (v := 7) hx hb dX10_looks_458 ?o96 ?_
                              case o96 => decide
                              refine lv_goto (tgt := 503) hx hb dX10_looks_460 ?o97 ?_
                              case o97 => decide
                              refine hx_puti hx hb hts hC_10 hown hW hT (hx_S.rf (M := [(10, 71)])) (gx.S hM) tt_10 71 ?o98 rfl kw_1214 ⟨rfl, rfl, rfl⟩ rfl (x := (7 : Int32)) ?o99 rfl rfl rfl (List.mem_singleton.mpr rfl) dX10_looks_503 (fun H locs h_42 eh_42 hW hT hs => ?_)
                              case o98 => decide
                              case o99 => decide
                              replace fjw279_x_67 := (hs.o (gx.S hM) trivial rfl).1.trans fjw279_x_67
                              replace fjw330_x_68 := (hs.o (gx.S hM) trivial rfl).1.trans fjw330_x_68
                              replace fjw354_x_69 := (hs.o (gx.S hM) trivial rfl).1.trans fjw354_x_69
                              replace fjw437_x_70 := (hs.o (gx.S hM) trivial rfl).1.trans fjw437_x_70
                              replace ex_16 := ex_16.trans (hs.a (gqpl.S hM) rfl _).1.symm
                              replace hM := hM.tr (hs.mono ?o100)
                              case o100 => decide
                              have f_43 : h_42.2.1 x 71 = (7 : Int32) := ?o101
                              case o101 =>
                                rw [eh_42]
                                exact hx_pi_at _ _ _ _
                              have zo_7 : (7 : Int32).toInt = 7 := ?o102
                              case o102 => decide
                              exact hx_retv hx hb hr hlk hW ⟨⟨jw279_x_67, jw330_x_68, jw354_x_69, jw437_x_70, (7 : Int32), fjw279_x_67, fjw330_x_68, fjw354_x_69, fjw437_x_70, f_43, (by have zr_7 : (7 : Int32).toInt = 7 := (by decide); exact ⟨(by omega), (by omega), (by omega), (by omega), (by unfold hz_st; rw [if_neg (by omega), if_neg (by omega)]; rw [← hR_22]; (repeat' split) <;> omega)⟩)⟩, hT, hM⟩ dX10_looks_506
                          refine lv_iload_n hx hb dX10_looks_354 rfl (lv_at hl 4 rfl) ?_
                          refine lv_aload_n hx hb dX10_looks_355 rfl (lv_at hl 2 rfl) ?_
                          refine hk_getr hx hb hts hC_10 hown hW (gx.S hM) tt_10 48 ?o103 rfl kw_1191 ⟨rfl, rfl, rfl⟩ ((hM.o gx trivial rfl).2.trans f_x_48) dX10_looks_356 ?_
                          case o103 => decide
                          refine lv_iload_n hx hb dX10_looks_359 rfl (lv_at hl 3 rfl) ?_
                          refine hx_iald hx hb hW hT (gqod.S hM) tt_83 rfl ⟨?o104, ?o105⟩ dX10_looks_360 (fun x_44 ex_44 lx_44 ux_44 => ?_)
                          case o104 => omega
                          case o105 => omega
                          have ax_44 : x_44 = odf i1.toNatClampNeg := ex_44.trans (congrFun (hx_afS hM gqod rfl af_qod) _)
                          have sx_44 : x_44.toInt = (odf i1.toInt.toNat).toInt := congrArg Int32.toInt ax_44
                          refine lv_isub hx hb dX10_looks_361 ?_
                          have rg_45 := i32_r i2
                          have rg_46 := i32_r x_44
                          refine lv_topi (fun x_47 ex_47 => ?_)
                          have zx_47 : x_47.toInt = i2.toInt - x_44.toInt := ?o106
                          case o106 =>
                            rw [ex_47]
                            refine i32_sub rfl rfl ?o107 ?o108
                            case o107 => omega
                            case o108 => omega
                          refine lv_bipush (v := 7) hx hb dX10_looks_362 ?o109 ?_
                          case o109 => decide
                          refine lv_idiv hx hb dX10_looks_364 ?o110 ?_
                          case o110 => decide
                          refine lv_topi (fun x_48 ex_48 => ?_)
                          have zx_48 : x_48.toInt = x_47.toInt / 7 := ?o111
                          case o111 =>
                            rw [ex_48, hx_dv (by omega) (by decide)]
                            rfl
                          refine lv_istore (lv' := [(6, .int x_48), (5, .int jv279_5), (4, .int jv136_4), (0, .ref x), (1, .int i1), (2, .int i2), (3, .int i3)]) hx hb dX10_looks_365 hl ?o112 rfl (fun ls hl => ?_)
                          case o112 => decide
                          refine lv_aload_n hx hb dX10_looks_367 rfl (lv_at hl 3 rfl) ?_
                          refine hk_getr hx hb hts hC_10 hown hW (gx.S hM) tt_10 54 ?o113 rfl kw_1197 ⟨rfl, rfl, rfl⟩ ((hM.o gx trivial rfl).2.trans f_x_54) dX10_looks_368 ?_
                          case o113 => decide
                          refine lv_iload_n hx hb dX10_looks_371 rfl (lv_at hl 4 rfl) ?_
                          refine hx_iald hx hb hW hT (gqwk.S hM) tt_89 rfl ⟨?o114, ?o115⟩ dX10_looks_372 (fun x_49 ex_49 lx_49 ux_49 => ?_)
                          case o114 => omega
                          case o115 => omega
                          have ax_49 : x_49 = wkf i1.toNatClampNeg := ex_49.trans (congrFun (hx_afS hM gqwk rfl af_qwk) _)
                          have sx_49 : x_49.toInt = (wkf i1.toInt.toNat).toInt := congrArg Int32.toInt ax_49
                          refine lv_iload hx hb dX10_looks_373 (lv_at hl 0 rfl) ?_
                          refine lv_imul hx hb dX10_looks_375 ?_
                          refine lv_topi (fun x_50 ex_50 => ?_)
                          have mx_50 : x_49.toInt = 0 → x_50.toInt = 0 := fun z => by rw [ex_50]; exact hx_mul0 z
                          obtain ⟨m9a, m9al, m9ah⟩ := hz_mul ⟨by omega, by omega⟩ ⟨by omega, by omega⟩ ex_50
                          rw [show x_49.toInt = (wkf i1.toInt.toNat).toInt from by omega, show x_48.toInt = (i2.toInt - (odf i1.toInt.toNat).toInt) / 7 from by omega] at m9a
                          refine lv_iload hx hb dX10_looks_376 (lv_at hl 1 rfl) ?_
                          refine hb_icmp_ge (zx := x_50.toInt) (zy := jv279_5.toInt) (tgt := 393) hx hb rfl rfl dX10_looks_378 ?o116 (fun c_51 => ?_) (fun c_51 => ?_)
                          case o116 => decide
                          · skip
                            refine lv_iload hx hb dX10_looks_393 (lv_at hl 1 rfl) ?_
                            refine lv_istore (lv' := [(7, .int jv279_5), (6, .int x_48), (5, .int jv279_5), (4, .int jv136_4), (0, .ref x), (1, .int i1), (2, .int i2), (3, .int i3)]) hx hb dX10_looks_395 hl ?o117 rfl (fun ls hl => ?_)
                            case o117 => decide
                            have hdu9 : jv279_5.toInt = hz_mi (hz_al (owf i1.toInt.toNat).toInt (szf i1.toInt.toNat).toInt (R 12) i2.toInt) ((wkf i1.toInt.toNat).toInt * ((i2.toInt - (odf i1.toInt.toNat).toInt) / 7)) := by unfold hz_mi; (repeat' split) <;> omega
                            have hpd9 : jw279_x_67.toInt = hz_pdy (odf i1.toInt.toNat).toInt (szf i1.toInt.toNat).toInt (gdf i1.toInt.toNat).toInt i2.toInt (hx_ps pof pdf psm pkf pst i2.toInt i3.toInt i1.toInt pm0.toInt.toNat) := ?o118
                            case o118 => omega
                            refine lv_aload_n hx hb dX10_looks_397 rfl (lv_at hl 4 rfl) ?_
                            refine lv_iload hx hb dX10_looks_398 (lv_at hl 0 rfl) ?_
                            refine lv_aload_n hx hb dX10_looks_400 rfl (lv_at hl 4 rfl) ?_
                            refine hk_geti hx hb hts hC_10 hown hW (gx.S hM) tt_10 67 ?o119 rfl kw_1210 ⟨rfl, rfl, rfl⟩ fjw279_x_67 dX10_looks_401 ?_
                            case o119 => decide
                            refine hb_icmp_le (zx := jv279_5.toInt) (zy := jw279_x_67.toInt) (tgt := 433) hx hb rfl rfl dX10_looks_404 ?o120 (fun c_52 => ?_) (fun c_52 => ?_)
                            case o120 => decide
                            · skip
                              refine lv_iconst (v := 0) hx hb dX10_looks_433 ?o121 ?_
                              case o121 => decide
                              refine hx_puti hx hb hts hC_10 hown hW hT (hx_S.rf (M := [(10, 70)])) (gx.S hM) tt_10 70 ?o122 rfl kw_1213 ⟨rfl, rfl, rfl⟩ rfl (x := (0 : Int32)) ?o123 rfl rfl rfl (List.mem_singleton.mpr rfl) dX10_looks_434 (fun H locs h_53 eh_53 hW hT hs => ?_)
                              case o122 => decide
                              case o123 => decide
                              replace fjw88_x_71 := (hs.o (gx.S hM) trivial rfl).1.trans fjw88_x_71
                              replace fjw279_x_67 := (hs.o (gx.S hM) trivial rfl).1.trans fjw279_x_67
                              replace fjw330_x_68 := (hs.o (gx.S hM) trivial rfl).1.trans fjw330_x_68
                              replace fjw354_x_69 := (hs.o (gx.S hM) trivial rfl).1.trans fjw354_x_69
                              replace ex_44 := ex_44.trans (hs.a (gqod.S hM) rfl _).1.symm
                              replace ex_49 := ex_49.trans (hs.a (gqwk.S hM) rfl _).1.symm
                              replace hM := hM.tr (hs.mono ?o124)
                              case o124 => decide
                              have f_54 : h_53.2.1 x 70 = (0 : Int32) := ?o125
                              case o125 =>
                                rw [eh_53]
                                exact hx_pi_at _ _ _ _
                              have zk_0 : (0 : Int32).toInt = 0 := ?o126
                              case o126 => decide
                              refine join437 (0 : Int32) _ _ hL1 h_53 ?o127 ?o128 (by rw [zk_0]; unfold hz_ms; rw [if_neg (by omega), ← hdu9, ← hpd9]; unfold hz_ru; rw [if_pos (by omega)]) ls hW hT hM f_54 fjw88_x_71 fjw279_x_67 fjw330_x_68 fjw354_x_69  (lv_sub hl [2, 3, 4, 5, 6, 7] rfl)
                              case o127 => decide
                              case o128 => decide
                            · skip
                              refine lv_iload hx hb dX10_looks_407 (lv_at hl 0 rfl) ?_
                              refine lv_aload_n hx hb dX10_looks_409 rfl (lv_at hl 4 rfl) ?_
                              refine hk_geti hx hb hts hC_10 hown hW (gx.S hM) tt_10 67 ?o129 rfl kw_1210 ⟨rfl, rfl, rfl⟩ fjw279_x_67 dX10_looks_410 ?_
                              case o129 => decide
                              refine lv_isub hx hb dX10_looks_413 ?_
                              have rg_55 := i32_r jv279_5
                              have rg_56 := i32_r jw279_x_67
                              refine lv_topi (fun x_57 ex_57 => ?_)
                              have zx_57 : x_57.toInt = jv279_5.toInt - jw279_x_67.toInt := ?o130
                              case o130 =>
                                rw [ex_57]
                                refine i32_sub rfl rfl ?o131 ?o132
                                case o131 => omega
                                case o132 => omega
                              refine lv_aload_n hx hb dX10_looks_414 rfl (lv_at hl 4 rfl) ?_
                              refine hk_getr hx hb hts hC_10 hown hW (gx.S hM) tt_10 54 ?o133 rfl kw_1197 ⟨rfl, rfl, rfl⟩ ((hM.o gx trivial rfl).2.trans f_x_54) dX10_looks_415 ?_
                              case o133 => decide
                              refine lv_iload_n hx hb dX10_looks_418 rfl (lv_at hl 5 rfl) ?_
                              refine hx_iald hx hb hW hT (gqwk.S hM) tt_89 rfl ⟨?o134, ?o135⟩ dX10_looks_419 (fun x_58 ex_58 lx_58 ux_58 => ?_)
                              case o134 => omega
                              case o135 => omega
                              have ax_58 : x_58 = wkf i1.toNatClampNeg := ex_58.trans (congrFun (hx_afS hM gqwk rfl af_qwk) _)
                              obtain rfl : x_49 = x_58 := ex_49.trans ex_58.symm
                              refine lv_iadd hx hb dX10_looks_420 ?_
                              have rg_59 := i32_r x_57
                              have rg_60 := i32_r x_49
                              refine lv_topi (fun x_61 ex_61 => ?_)
                              have zx_61 : x_61.toInt = x_57.toInt + x_49.toInt := ?o136
                              case o136 =>
                                rw [ex_61]
                                refine i32_add rfl rfl ?o137 ?o138
                                case o137 => omega
                                case o138 => omega
                              refine lv_iconst (v := 1) hx hb dX10_looks_421 ?o139 ?_
                              case o139 => decide
                              refine lv_isub hx hb dX10_looks_422 ?_
                              have rg_62 := i32_r x_61
                              refine lv_topi (fun x_63 ex_63 => ?_)
                              have zx_63 : x_63.toInt = x_61.toInt - 1 := ?o140
                              case o140 =>
                                rw [ex_63]
                                refine i32_sub rfl ?o141 ?o142 ?o143
                                case o141 => decide
                                case o142 => omega
                                case o143 => omega
                              refine lv_aload_n hx hb dX10_looks_423 rfl (lv_at hl 4 rfl) ?_
                              refine hk_getr hx hb hts hC_10 hown hW (gx.S hM) tt_10 54 ?o144 rfl kw_1197 ⟨rfl, rfl, rfl⟩ ((hM.o gx trivial rfl).2.trans f_x_54) dX10_looks_424 ?_
                              case o144 => decide
                              refine lv_iload_n hx hb dX10_looks_427 rfl (lv_at hl 5 rfl) ?_
                              refine hx_iald hx hb hW hT (gqwk.S hM) tt_89 rfl ⟨?o145, ?o146⟩ dX10_looks_428 (fun x_64 ex_64 lx_64 ux_64 => ?_)
                              case o145 => omega
                              case o146 => omega
                              have ax_64 : x_64 = wkf i1.toNatClampNeg := ex_64.trans (congrFun (hx_afS hM gqwk rfl af_qwk) _)
                              obtain rfl : x_49 = x_64 := ex_49.trans ex_64.symm
                              refine lv_idiv hx hb dX10_looks_429 (hx_ne0 ?o147) ?_
                              case o147 => omega
                              refine lv_topi (fun x_65 ex_65 => ?_)
                              have hru9 : x_65.toInt = hz_ru (jv279_5.toInt - jw279_x_67.toInt) (wkf i1.toInt.toNat).toInt := ?o148
                              case o148 =>
                                rw [ex_65, hx_dv (by omega) (by omega), show x_63.toInt = (jv279_5.toInt - jw279_x_67.toInt) + (wkf i1.toInt.toNat).toInt - 1 from by omega, show x_49.toInt = (wkf i1.toInt.toNat).toInt from by omega]
                                refine hz_ru_m ?o149 ?o150
                                case o149 => omega
                                case o150 => omega
                              refine lv_goto (tgt := 434) hx hb dX10_looks_430 ?o151 ?_
                              case o151 => decide
                              refine hx_puti hx hb hts hC_10 hown hW hT (hx_S.rf (M := [(10, 70)])) (gx.S hM) tt_10 70 ?o152 rfl kw_1213 ⟨rfl, rfl, rfl⟩ rfl (x := x_65) (i32_r _) rfl rfl rfl (List.mem_singleton.mpr rfl) dX10_looks_434 (fun H locs h_66 eh_66 hW hT hs => ?_)
                              case o152 => decide
                              replace fjw88_x_71 := (hs.o (gx.S hM) trivial rfl).1.trans fjw88_x_71
                              replace fjw279_x_67 := (hs.o (gx.S hM) trivial rfl).1.trans fjw279_x_67
                              replace fjw330_x_68 := (hs.o (gx.S hM) trivial rfl).1.trans fjw330_x_68
                              replace fjw354_x_69 := (hs.o (gx.S hM) trivial rfl).1.trans fjw354_x_69
                              replace ex_44 := ex_44.trans (hs.a (gqod.S hM) rfl _).1.symm
                              replace ex_49 := ex_49.trans (hs.a (gqwk.S hM) rfl _).1.symm
                              replace hM := hM.tr (hs.mono ?o153)
                              case o153 => decide
                              have f_67 : h_66.2.1 x 70 = x_65 := ?o154
                              case o154 =>
                                rw [eh_66]
                                exact hx_pi_at _ _ _ _
                              exact join437 x_65 _ _ hL1 h_66 (i32_r _).1 (i32_r _).2 (by unfold hz_ms; rw [if_neg (by omega), ← hdu9, ← hpd9]; exact hru9) ls hW hT hM f_67 fjw88_x_71 fjw279_x_67 fjw330_x_68 fjw354_x_69  (lv_sub hl [2, 3, 4, 5, 6, 7] rfl)
                          · skip
                            refine lv_aload_n hx hb dX10_looks_381 rfl (lv_at hl 3 rfl) ?_
                            refine hk_getr hx hb hts hC_10 hown hW (gx.S hM) tt_10 54 ?o155 rfl kw_1197 ⟨rfl, rfl, rfl⟩ ((hM.o gx trivial rfl).2.trans f_x_54) dX10_looks_382 ?_
                            case o155 => decide
                            refine lv_iload_n hx hb dX10_looks_385 rfl (lv_at hl 4 rfl) ?_
                            refine hx_iald hx hb hW hT (gqwk.S hM) tt_89 rfl ⟨?o156, ?o157⟩ dX10_looks_386 (fun x_68 ex_68 lx_68 ux_68 => ?_)
                            case o156 => omega
                            case o157 => omega
                            have ax_68 : x_68 = wkf i1.toNatClampNeg := ex_68.trans (congrFun (hx_afS hM gqwk rfl af_qwk) _)
                            obtain rfl : x_49 = x_68 := ex_49.trans ex_68.symm
                            refine lv_iload hx hb dX10_looks_387 (lv_at hl 0 rfl) ?_
                            refine lv_imul hx hb dX10_looks_389 ?_
                            refine lv_topi (fun x_69 ex_69 => ?_)
                            have mx_69 : x_49.toInt = 0 → x_69.toInt = 0 := fun z => by rw [ex_69]; exact hx_mul0 z
                            obtain ⟨m9b, m9bl, m9bh⟩ := hz_mul ⟨by omega, by omega⟩ ⟨by omega, by omega⟩ ex_69
                            rw [show x_49.toInt = (wkf i1.toInt.toNat).toInt from by omega, show x_48.toInt = (i2.toInt - (odf i1.toInt.toNat).toInt) / 7 from by omega] at m9b
                            refine lv_goto (tgt := 395) hx hb dX10_looks_390 ?o158 ?_
                            case o158 => decide
                            refine lv_istore (lv' := [(7, .int x_69), (6, .int x_48), (5, .int jv279_5), (4, .int jv136_4), (0, .ref x), (1, .int i1), (2, .int i2), (3, .int i3)]) hx hb dX10_looks_395 hl ?o159 rfl (fun ls hl => ?_)
                            case o159 => decide
                            have hdu9 : x_69.toInt = hz_mi (hz_al (owf i1.toInt.toNat).toInt (szf i1.toInt.toNat).toInt (R 12) i2.toInt) ((wkf i1.toInt.toNat).toInt * ((i2.toInt - (odf i1.toInt.toNat).toInt) / 7)) := by unfold hz_mi; (repeat' split) <;> omega
                            have hpd9 : jw279_x_67.toInt = hz_pdy (odf i1.toInt.toNat).toInt (szf i1.toInt.toNat).toInt (gdf i1.toInt.toNat).toInt i2.toInt (hx_ps pof pdf psm pkf pst i2.toInt i3.toInt i1.toInt pm0.toInt.toNat) := ?o160
                            case o160 => omega
                            refine lv_aload_n hx hb dX10_looks_397 rfl (lv_at hl 4 rfl) ?_
                            refine lv_iload hx hb dX10_looks_398 (lv_at hl 0 rfl) ?_
                            refine lv_aload_n hx hb dX10_looks_400 rfl (lv_at hl 4 rfl) ?_
                            refine hk_geti hx hb hts hC_10 hown hW (gx.S hM) tt_10 67 ?o161 rfl kw_1210 ⟨rfl, rfl, rfl⟩ fjw279_x_67 dX10_looks_401 ?_
                            case o161 => decide
                            refine hb_icmp_le (zx := x_69.toInt) (zy := jw279_x_67.toInt) (tgt := 433) hx hb rfl rfl dX10_looks_404 ?o162 (fun c_70 => ?_) (fun c_70 => ?_)
                            case o162 => decide
                            · skip
                              refine lv_iconst (v := 0) hx hb dX10_looks_433 ?o163 ?_
                              case o163 => decide
                              refine hx_puti hx hb hts hC_10 hown hW hT (hx_S.rf (M := [(10, 70)])) (gx.S hM) tt_10 70 ?o164 rfl kw_1213 ⟨rfl, rfl, rfl⟩ rfl (x := (0 : Int32)) ?o165 rfl rfl rfl (List.mem_singleton.mpr rfl) dX10_looks_434 (fun H locs h_71 eh_71 hW hT hs => ?_)
                              case o164 => decide
                              case o165 => decide
                              replace fjw88_x_71 := (hs.o (gx.S hM) trivial rfl).1.trans fjw88_x_71
                              replace fjw279_x_67 := (hs.o (gx.S hM) trivial rfl).1.trans fjw279_x_67
                              replace fjw330_x_68 := (hs.o (gx.S hM) trivial rfl).1.trans fjw330_x_68
                              replace fjw354_x_69 := (hs.o (gx.S hM) trivial rfl).1.trans fjw354_x_69
                              replace ex_44 := ex_44.trans (hs.a (gqod.S hM) rfl _).1.symm
                              replace ex_49 := ex_49.trans (hs.a (gqwk.S hM) rfl _).1.symm
                              replace hM := hM.tr (hs.mono ?o166)
                              case o166 => decide
                              have f_72 : h_71.2.1 x 70 = (0 : Int32) := ?o167
                              case o167 =>
                                rw [eh_71]
                                exact hx_pi_at _ _ _ _
                              have zk_0 : (0 : Int32).toInt = 0 := ?o168
                              case o168 => decide
                              refine join437 (0 : Int32) _ _ hL1 h_71 ?o169 ?o170 (by rw [zk_0]; unfold hz_ms; rw [if_neg (by omega), ← hdu9, ← hpd9]; unfold hz_ru; rw [if_pos (by omega)]) ls hW hT hM f_72 fjw88_x_71 fjw279_x_67 fjw330_x_68 fjw354_x_69  (lv_sub hl [2, 3, 4, 5, 6, 7] rfl)
                              case o169 => decide
                              case o170 => decide
                            · skip
                              refine lv_iload hx hb dX10_looks_407 (lv_at hl 0 rfl) ?_
                              refine lv_aload_n hx hb dX10_looks_409 rfl (lv_at hl 4 rfl) ?_
                              refine hk_geti hx hb hts hC_10 hown hW (gx.S hM) tt_10 67 ?o171 rfl kw_1210 ⟨rfl, rfl, rfl⟩ fjw279_x_67 dX10_looks_410 ?_
                              case o171 => decide
                              refine lv_isub hx hb dX10_looks_413 ?_
                              have rg_73 := i32_r x_69
                              have rg_74 := i32_r jw279_x_67
                              refine lv_topi (fun x_75 ex_75 => ?_)
                              have zx_75 : x_75.toInt = x_69.toInt - jw279_x_67.toInt := ?o172
                              case o172 =>
                                rw [ex_75]
                                refine i32_sub rfl rfl ?o173 ?o174
                                case o173 => omega
                                case o174 => omega
                              refine lv_aload_n hx hb dX10_looks_414 rfl (lv_at hl 4 rfl) ?_
                              refine hk_getr hx hb hts hC_10 hown hW (gx.S hM) tt_10 54 ?o175 rfl kw_1197 ⟨rfl, rfl, rfl⟩ ((hM.o gx trivial rfl).2.trans f_x_54) dX10_looks_415 ?_
                              case o175 => decide
                              refine lv_iload_n hx hb dX10_looks_418 rfl (lv_at hl 5 rfl) ?_
                              refine hx_iald hx hb hW hT (gqwk.S hM) tt_89 rfl ⟨?o176, ?o177⟩ dX10_looks_419 (fun x_76 ex_76 lx_76 ux_76 => ?_)
                              case o176 => omega
                              case o177 => omega
                              have ax_76 : x_76 = wkf i1.toNatClampNeg := ex_76.trans (congrFun (hx_afS hM gqwk rfl af_qwk) _)
                              obtain rfl : x_49 = x_76 := ex_49.trans ex_76.symm
                              refine lv_iadd hx hb dX10_looks_420 ?_
                              have rg_77 := i32_r x_75
                              have rg_78 := i32_r x_49
                              refine lv_topi (fun x_79 ex_79 => ?_)
                              have zx_79 : x_79.toInt = x_75.toInt + x_49.toInt := ?o178
                              case o178 =>
                                rw [ex_79]
                                refine i32_add rfl rfl ?o179 ?o180
                                case o179 => omega
                                case o180 => omega
                              refine lv_iconst (v := 1) hx hb dX10_looks_421 ?o181 ?_
                              case o181 => decide
                              refine lv_isub hx hb dX10_looks_422 ?_
                              have rg_80 := i32_r x_79
                              refine lv_topi (fun x_81 ex_81 => ?_)
                              have zx_81 : x_81.toInt = x_79.toInt - 1 := ?o182
                              case o182 =>
                                rw [ex_81]
                                refine i32_sub rfl ?o183 ?o184 ?o185
                                case o183 => decide
                                case o184 => omega
                                case o185 => omega
                              refine lv_aload_n hx hb dX10_looks_423 rfl (lv_at hl 4 rfl) ?_
                              refine hk_getr hx hb hts hC_10 hown hW (gx.S hM) tt_10 54 ?o186 rfl kw_1197 ⟨rfl, rfl, rfl⟩ ((hM.o gx trivial rfl).2.trans f_x_54) dX10_looks_424 ?_
                              case o186 => decide
                              refine lv_iload_n hx hb dX10_looks_427 rfl (lv_at hl 5 rfl) ?_
                              refine hx_iald hx hb hW hT (gqwk.S hM) tt_89 rfl ⟨?o187, ?o188⟩ dX10_looks_428 (fun x_82 ex_82 lx_82 ux_82 => ?_)
                              case o187 => omega
                              case o188 => omega
                              have ax_82 : x_82 = wkf i1.toNatClampNeg := ex_82.trans (congrFun (hx_afS hM gqwk rfl af_qwk) _)
                              obtain rfl : x_49 = x_82 := ex_49.trans ex_82.symm
                              refine lv_idiv hx hb dX10_looks_429 (hx_ne0 ?o189) ?_
                              case o189 => omega
                              refine lv_topi (fun x_83 ex_83 => ?_)
                              have hru9 : x_83.toInt = hz_ru (x_69.toInt - jw279_x_67.toInt) (wkf i1.toInt.toNat).toInt := ?o190
                              case o190 =>
                                rw [ex_83, hx_dv (by omega) (by omega), show x_81.toInt = (x_69.toInt - jw279_x_67.toInt) + (wkf i1.toInt.toNat).toInt - 1 from by omega, show x_49.toInt = (wkf i1.toInt.toNat).toInt from by omega]
                                refine hz_ru_m ?o191 ?o192
                                case o191 => omega
                                case o192 => omega
                              refine lv_goto (tgt := 434) hx hb dX10_looks_430 ?o193 ?_
                              case o193 => decide
                              refine hx_puti hx hb hts hC_10 hown hW hT (hx_S.rf (M := [(10, 70)])) (gx.S hM) tt_10 70 ?o194 rfl kw_1213 ⟨rfl, rfl, rfl⟩ rfl (x := x_83) (i32_r _) rfl rfl rfl (List.mem_singleton.mpr rfl) dX10_looks_434 (fun H locs h_84 eh_84 hW hT hs => ?_)
                              case o194 => decide
                              replace fjw88_x_71 := (hs.o (gx.S hM) trivial rfl).1.trans fjw88_x_71
                              replace fjw279_x_67 := (hs.o (gx.S hM) trivial rfl).1.trans fjw279_x_67
                              replace fjw330_x_68 := (hs.o (gx.S hM) trivial rfl).1.trans fjw330_x_68
                              replace fjw354_x_69 := (hs.o (gx.S hM) trivial rfl).1.trans fjw354_x_69
                              replace ex_44 := ex_44.trans (hs.a (gqod.S hM) rfl _).1.symm
                              replace ex_49 := ex_49.trans (hs.a (gqwk.S hM) rfl _).1.symm
                              replace hM := hM.tr (hs.mono ?o195)
                              case o195 => decide
                              have f_85 : h_84.2.1 x 70 = x_83 := ?o196
                              case o196 =>
                                rw [eh_84]
                                exact hx_pi_at _ _ _ _
                              exact join437 x_83 _ _ hL1 h_84 (i32_r _).1 (i32_r _).2 (by unfold hz_ms; rw [if_neg (by omega), ← hdu9, ← hpd9]; exact hru9) ls hW hT hM f_85 fjw88_x_71 fjw279_x_67 fjw330_x_68 fjw354_x_69  (lv_sub hl [2, 3, 4, 5, 6, 7] rfl)
                        refine lv_aload_n hx hb dX10_looks_330 rfl (lv_at hl 2 rfl) ?_
                        refine lv_aload_n hx hb dX10_looks_331 rfl (lv_at hl 2 rfl) ?_
                        refine hk_geti hx hb hts hC_10 hown hW (gx.S hM) tt_10 67 ?o197 rfl kw_1210 ⟨rfl, rfl, rfl⟩ fjw279_x_67 dX10_looks_332 ?_
                        case o197 => decide
                        refine lv_iload hx hb dX10_looks_335 (lv_at hl 0 rfl) ?_
                        refine hb_icmp_le (zx := jw279_x_67.toInt) (zy := jv279_5.toInt) (tgt := 350) hx hb rfl rfl dX10_looks_337 ?o198 (fun c_86 => ?_) (fun c_86 => ?_)
                        case o198 => decide
                        · skip
                          refine lv_iconst (v := 0) hx hb dX10_looks_350 ?o199 ?_
                          case o199 => decide
                          refine hx_puti hx hb hts hC_10 hown hW hT (hx_S.rf (M := [(10, 69)])) (gx.S hM) tt_10 69 ?o200 rfl kw_1212 ⟨rfl, rfl, rfl⟩ rfl (x := (0 : Int32)) ?o201 rfl rfl rfl (List.mem_singleton.mpr rfl) dX10_looks_351 (fun H locs h_87 eh_87 hW hT hs => ?_)
                          case o200 => decide
                          case o201 => decide
                          replace f_8 := (hs.o (gx.S hM) trivial rfl).1.trans f_8
                          replace fjw88_x_71 := (hs.o (gx.S hM) trivial rfl).1.trans fjw88_x_71
                          replace fjw279_x_67 := (hs.o (gx.S hM) trivial rfl).1.trans fjw279_x_67
                          replace fjw330_x_68 := (hs.o (gx.S hM) trivial rfl).1.trans fjw330_x_68
                          replace hM := hM.tr (hs.mono ?o202)
                          case o202 => decide
                          have f_88 : h_87.2.1 x 69 = (0 : Int32) := ?o203
                          case o203 =>
                            rw [eh_87]
                            exact hx_pi_at _ _ _ _
                          have zk_0 : (0 : Int32).toInt = 0 := ?o204
                          case o204 => decide
                          refine join354 (0 : Int32) _ _ hL1 h_87 ?o205 ?o206 (by rw [zk_0]; unfold hz_ov hz_bl; (repeat' split) <;> omega) ls hW hT hM f_88 f_8 fjw88_x_71 fjw279_x_67 fjw330_x_68  (lv_sub hl [0, 1, 2, 3, 4, 5] rfl)
                          case o205 => decide
                          case o206 => decide
                        · skip
                          refine lv_aload_n hx hb dX10_looks_340 rfl (lv_at hl 2 rfl) ?_
                          refine hk_geti hx hb hts hC_10 hown hW (gx.S hM) tt_10 67 ?o207 rfl kw_1210 ⟨rfl, rfl, rfl⟩ fjw279_x_67 dX10_looks_341 ?_
                          case o207 => decide
                          refine lv_iload hx hb dX10_looks_344 (lv_at hl 0 rfl) ?_
                          refine lv_isub hx hb dX10_looks_346 ?_
                          have rg_89 := i32_r jw279_x_67
                          have rg_90 := i32_r jv279_5
                          refine lv_topi (fun x_91 ex_91 => ?_)
                          have zx_91 : x_91.toInt = jw279_x_67.toInt - jv279_5.toInt := ?o208
                          case o208 =>
                            rw [ex_91]
                            refine i32_sub rfl rfl ?o209 ?o210
                            case o209 => omega
                            case o210 => omega
                          refine lv_goto (tgt := 351) hx hb dX10_looks_347 ?o211 ?_
                          case o211 => decide
                          refine hx_puti hx hb hts hC_10 hown hW hT (hx_S.rf (M := [(10, 69)])) (gx.S hM) tt_10 69 ?o212 rfl kw_1212 ⟨rfl, rfl, rfl⟩ rfl (x := x_91) (i32_r _) rfl rfl rfl (List.mem_singleton.mpr rfl) dX10_looks_351 (fun H locs h_92 eh_92 hW hT hs => ?_)
                          case o212 => decide
                          replace f_8 := (hs.o (gx.S hM) trivial rfl).1.trans f_8
                          replace fjw88_x_71 := (hs.o (gx.S hM) trivial rfl).1.trans fjw88_x_71
                          replace fjw279_x_67 := (hs.o (gx.S hM) trivial rfl).1.trans fjw279_x_67
                          replace fjw330_x_68 := (hs.o (gx.S hM) trivial rfl).1.trans fjw330_x_68
                          replace hM := hM.tr (hs.mono ?o213)
                          case o213 => decide
                          have f_93 : h_92.2.1 x 69 = x_91 := ?o214
                          case o214 =>
                            rw [eh_92]
                            exact hx_pi_at _ _ _ _
                          exact join354 x_91 _ _ hL1 h_92 (i32_r _).1 (i32_r _).2 (by unfold hz_ov hz_bl; (repeat' split) <;> omega) ls hW hT hM f_93 f_8 fjw88_x_71 fjw279_x_67 fjw330_x_68  (lv_sub hl [0, 1, 2, 3, 4, 5] rfl)
                      refine lv_aload_n hx hb dX10_looks_306 rfl (lv_at hl 2 rfl) ?_
                      refine lv_iload hx hb dX10_looks_307 (lv_at hl 0 rfl) ?_
                      refine lv_aload_n hx hb dX10_looks_309 rfl (lv_at hl 2 rfl) ?_
                      refine hk_geti hx hb hts hC_10 hown hW (gx.S hM) tt_10 67 ?o215 rfl kw_1210 ⟨rfl, rfl, rfl⟩ fjw279_x_67 dX10_looks_310 ?_
                      case o215 => decide
                      refine hb_icmp_le (zx := jv279_5.toInt) (zy := jw279_x_67.toInt) (tgt := 326) hx hb rfl rfl dX10_looks_313 ?o216 (fun c_94 => ?_) (fun c_94 => ?_)
                      case o216 => decide
                      · skip
                        refine lv_iconst (v := 0) hx hb dX10_looks_326 ?o217 ?_
                        case o217 => decide
                        refine hx_puti hx hb hts hC_10 hown hW hT (hx_S.rf (M := [(10, 68)])) (gx.S hM) tt_10 68 ?o218 rfl kw_1211 ⟨rfl, rfl, rfl⟩ rfl (x := (0 : Int32)) ?o219 rfl rfl rfl (List.mem_singleton.mpr rfl) dX10_looks_327 (fun H locs h_95 eh_95 hW hT hs => ?_)
                        case o218 => decide
                        case o219 => decide
                        replace f_6 := (hs.o (gx.S hM) trivial rfl).1.trans f_6
                        replace f_8 := (hs.o (gx.S hM) trivial rfl).1.trans f_8
                        replace fjw88_x_71 := (hs.o (gx.S hM) trivial rfl).1.trans fjw88_x_71
                        replace fjw279_x_67 := (hs.o (gx.S hM) trivial rfl).1.trans fjw279_x_67
                        replace ex_14 := ex_14.trans (hs.a (gqsv.S hM) rfl _).1.symm
                        replace hM := hM.tr (hs.mono ?o220)
                        case o220 => decide
                        have f_96 : h_95.2.1 x 68 = (0 : Int32) := ?o221
                        case o221 =>
                          rw [eh_95]
                          exact hx_pi_at _ _ _ _
                        have zk_0 : (0 : Int32).toInt = 0 := ?o222
                        case o222 => decide
                        refine join330 (0 : Int32) _ _ hL1 h_95 ?o223 ?o224 (by rw [zk_0]; unfold hz_rs hz_bl; (repeat' split) <;> omega) ls hW hT hM f_96 f_6 f_8 fjw88_x_71 fjw279_x_67  (lv_sub hl [0, 1, 2, 3, 4, 5] rfl)
                        case o223 => decide
                        case o224 => decide
                      · skip
                        refine lv_iload hx hb dX10_looks_316 (lv_at hl 0 rfl) ?_
                        refine lv_aload_n hx hb dX10_looks_318 rfl (lv_at hl 2 rfl) ?_
                        refine hk_geti hx hb hts hC_10 hown hW (gx.S hM) tt_10 67 ?o225 rfl kw_1210 ⟨rfl, rfl, rfl⟩ fjw279_x_67 dX10_looks_319 ?_
                        case o225 => decide
                        refine lv_isub hx hb dX10_looks_322 ?_
                        have rg_97 := i32_r jv279_5
                        have rg_98 := i32_r jw279_x_67
                        refine lv_topi (fun x_99 ex_99 => ?_)
                        have zx_99 : x_99.toInt = jv279_5.toInt - jw279_x_67.toInt := ?o226
                        case o226 =>
                          rw [ex_99]
                          refine i32_sub rfl rfl ?o227 ?o228
                          case o227 => omega
                          case o228 => omega
                        refine lv_goto (tgt := 327) hx hb dX10_looks_323 ?o229 ?_
                        case o229 => decide
                        refine hx_puti hx hb hts hC_10 hown hW hT (hx_S.rf (M := [(10, 68)])) (gx.S hM) tt_10 68 ?o230 rfl kw_1211 ⟨rfl, rfl, rfl⟩ rfl (x := x_99) ⟨?o231, ?o232⟩ rfl rfl rfl (List.mem_singleton.mpr rfl) dX10_looks_327 (fun H locs h_100 eh_100 hW hT hs => ?_)
                        case o230 => decide
                        case o231 => omega
                        case o232 => omega
                        replace f_6 := (hs.o (gx.S hM) trivial rfl).1.trans f_6
                        replace f_8 := (hs.o (gx.S hM) trivial rfl).1.trans f_8
                        replace fjw88_x_71 := (hs.o (gx.S hM) trivial rfl).1.trans fjw88_x_71
                        replace fjw279_x_67 := (hs.o (gx.S hM) trivial rfl).1.trans fjw279_x_67
                        replace ex_14 := ex_14.trans (hs.a (gqsv.S hM) rfl _).1.symm
                        replace hM := hM.tr (hs.mono ?o233)
                        case o233 => decide
                        have f_101 : h_100.2.1 x 68 = x_99 := ?o234
                        case o234 =>
                          rw [eh_100]
                          exact hx_pi_at _ _ _ _
                        refine join330 x_99 _ _ hL1 h_100 ?o235 ?o236 (by unfold hz_rs hz_bl; (repeat' split) <;> omega) ls hW hT hM f_101 f_6 f_8 fjw88_x_71 fjw279_x_67  (lv_sub hl [0, 1, 2, 3, 4, 5] rfl)
                        case o235 => omega
                        case o236 => omega
                    · skip
                      refine lv_aload_n hx hb dX10_looks_289 rfl (lv_at hl 2 rfl) ?_
                      refine hk_getr hx hb hts hC_10 hown hW (gx.S hM) tt_10 50 ?o237 rfl kw_1193 ⟨rfl, rfl, rfl⟩ ((hM.o gx trivial rfl).2.trans f_x_50) dX10_looks_290 ?_
                      case o237 => decide
                      refine lv_iload_n hx hb dX10_looks_293 rfl (lv_at hl 3 rfl) ?_
                      refine hx_iald hx hb hW hT (gqsv.S hM) tt_85 rfl ⟨?o238, ?o239⟩ dX10_looks_294 (fun x_102 ex_102 lx_102 ux_102 => ?_)
                      case o238 => omega
                      case o239 => omega
                      have ax_102 : x_102 = svf i1.toNatClampNeg := ex_102.trans (congrFun (hx_afS hM gqsv rfl af_qsv) _)
                      obtain rfl : x_14 = x_102 := ex_14.trans ex_102.symm
                      refine lv_iload_n hx hb dX10_looks_295 rfl (lv_at hl 4 rfl) ?_
                      refine hb_icmp_gt (zx := x_14.toInt) (zy := i2.toInt) (tgt := 306) hx hb rfl rfl dX10_looks_296 ?o240 (fun c_103 => ?_) (fun c_103 => ?_)
                      case o240 => decide
                      · skip
                        have join330 : ∀ (jw330_x_68 : Int32) (H : Heap) (locs : List Loc) (hL1 : List Nat) (hl1 : hx_h), 0 ≤ jw330_x_68.toInt → jw330_x_68.toInt ≤ 610000 → (jw330_x_68.toInt = hz_rs (svf i1.toInt.toNat).toInt (hz_bl (odf i1.toInt.toNat).toInt (szf i1.toInt.toNat).toInt (gdf i1.toInt.toNat).toInt (owf i1.toInt.toNat).toInt (R 12) i2.toInt (hx_ps pof pdf psm pkf pst i2.toInt i3.toInt i1.toInt pm0.toInt.toNat)) i2.toInt) → ∀ (ls : Array Slot), hx_W T_tb (P_ty dA) (dC, dI) vwCl (hx_A L sz) s.heap hL1 hl1 s H locs → hx_T T_tb hL1 hl1 → hx_S T_tb [(10, 67), (10, 68), (10, 69), (10, 70), (10, 71)] L h hL1 hl1 → hl1.2.1 x 68 = jw330_x_68 → hl1.2.1 x 69 = (0 : Int32) → hl1.2.1 x 70 = (0 : Int32) → hl1.2.1 x 71 = jw88_x_71 → hl1.2.1 x 67 = jw279_x_67 → lv_has ls 9 [(5, .int jv279_5), (4, .int jv136_4), (0, .ref x), (1, .int i1), (2, .int i2), (3, .int i3)] → W p l e ({ frames := 1, cells := 0, slots := 0, locals := 22 }) s m ([.ref x, .int i1, .int i2, .int i3] : List Value).toArray below meth c H locs 0 0 (MQ below (va_Qv (fun (u : List Nat × hx_h) => (∃ (pd1 : Int32) (rs1 : Int32) (ov1 : Int32) (ms1 : Int32) (st1 : Int32), u.2.2.1 x 67 = pd1 ∧ u.2.2.1 x 68 = rs1 ∧ u.2.2.1 x 69 = ov1 ∧ u.2.2.1 x 70 = ms1 ∧ u.2.2.1 x 71 = st1 ∧ (pd1.toInt = hz_pdy (odf i1.toInt.toNat).toInt (szf i1.toInt.toNat).toInt (gdf i1.toInt.toNat).toInt i2.toInt (hx_ps pof pdf psm pkf pst i2.toInt i3.toInt i1.toInt pm0.toInt.toNat) ∧ rs1.toInt = hz_rs (svf i1.toInt.toNat).toInt (hz_bl (odf i1.toInt.toNat).toInt (szf i1.toInt.toNat).toInt (gdf i1.toInt.toNat).toInt (owf i1.toInt.toNat).toInt (R 12) i2.toInt (hx_ps pof pdf psm pkf pst i2.toInt i3.toInt i1.toInt pm0.toInt.toNat)) i2.toInt ∧ ov1.toInt = hz_ov (svf i1.toInt.toNat).toInt (hz_bl (odf i1.toInt.toNat).toInt (szf i1.toInt.toNat).toInt (gdf i1.toInt.toNat).toInt (owf i1.toInt.toNat).toInt (R 12) i2.toInt (hx_ps pof pdf psm pkf pst i2.toInt i3.toInt i1.toInt pm0.toInt.toNat)) i2.toInt ∧ ms1.toInt = hz_ms (odf i1.toInt.toNat).toInt (svf i1.toInt.toNat).toInt (wkf i1.toInt.toNat).toInt (hz_al (owf i1.toInt.toNat).toInt (szf i1.toInt.toNat).toInt (R 12) i2.toInt) (hz_pdy (odf i1.toInt.toNat).toInt (szf i1.toInt.toNat).toInt (gdf i1.toInt.toNat).toInt i2.toInt (hx_ps pof pdf psm pkf pst i2.toInt i3.toInt i1.toInt pm0.toInt.toNat)) i2.toInt ∧ st1.toInt = hz_st (fof i1.toInt.toNat).toInt (hrf i1.toInt.toNat).toInt (udf i1.toInt.toNat).toInt (odf i1.toInt.toNat).toInt (svf i1.toInt.toNat).toInt (hz_rs (svf i1.toInt.toNat).toInt (hz_bl (odf i1.toInt.toNat).toInt (szf i1.toInt.toNat).toInt (gdf i1.toInt.toNat).toInt (owf i1.toInt.toNat).toInt (R 12) i2.toInt (hx_ps pof pdf psm pkf pst i2.toInt i3.toInt i1.toInt pm0.toInt.toNat)) i2.toInt) (hz_ms (odf i1.toInt.toNat).toInt (svf i1.toInt.toNat).toInt (wkf i1.toInt.toNat).toInt (hz_al (owf i1.toInt.toNat).toInt (szf i1.toInt.toNat).toInt (R 12) i2.toInt) (hz_pdy (odf i1.toInt.toNat).toInt (szf i1.toInt.toNat).toInt (gdf i1.toInt.toNat).toInt i2.toInt (hx_ps pof pdf psm pkf pst i2.toInt i3.toInt i1.toInt pm0.toInt.toNat)) i2.toInt) (R 4) (R 5) i2.toInt)) ∧ hx_T T_tb u.1 u.2 ∧ hx_S T_tb [(10, 67), (10, 68), (10, 69), (10, 70), (10, 71)] L h u.1 u.2) (hx_E T_tb (P_ty dA) (dC, dI) vwCl (hx_A L sz)) (hx_A L sz)) ([.ref x, .int i1, .int i2, .int i3] : List Value).toArray s 0 0 (hx_A L sz)) (F0 m 330 ls []) := by
                          intro jw330_x_68 H locs hL1 hl1 bljw330_x_68 bujw330_x_68 vj330_0 ls hW hT hM fjw330_x_68 f_6 f_8 fjw88_x_71 fjw279_x_67  hl
                          have join354 : ∀ (jw354_x_69 : Int32) (H : Heap) (locs : List Loc) (hL1 : List Nat) (hl1 : hx_h), -2147483648 ≤ jw354_x_69.toInt → jw354_x_69.toInt ≤ 2147483647 → (jw354_x_69.toInt = hz_ov (svf i1.toInt.toNat).toInt (hz_bl (odf i1.toInt.toNat).toInt (szf i1.toInt.toNat).toInt (gdf i1.toInt.toNat).toInt (owf i1.toInt.toNat).toInt (R 12) i2.toInt (hx_ps pof pdf psm pkf pst i2.toInt i3.toInt i1.toInt pm0.toInt.toNat)) i2.toInt) → ∀ (ls : Array Slot), hx_W T_tb (P_ty dA) (dC, dI) vwCl (hx_A L sz) s.heap hL1 hl1 s H locs → hx_T T_tb hL1 hl1 → hx_S T_tb [(10, 67), (10, 68), (10, 69), (10, 70), (10, 71)] L h hL1 hl1 → hl1.2.1 x 69 = jw354_x_69 → hl1.2.1 x 70 = (0 : Int32) → hl1.2.1 x 71 = jw88_x_71 → hl1.2.1 x 67 = jw279_x_67 → hl1.2.1 x 68 = jw330_x_68 → lv_has ls 9 [(5, .int jv279_5), (4, .int jv136_4), (0, .ref x), (1, .int i1), (2, .int i2), (3, .int i3)] → W p l e ({ frames := 1, cells := 0, slots := 0, locals := 22 }) s m ([.ref x, .int i1, .int i2, .int i3] : List Value).toArray below meth c H locs 0 0 (MQ below (va_Qv (fun (u : List Nat × hx_h) => (∃ (pd1 : Int32) (rs1 : Int32) (ov1 : Int32) (ms1 : Int32) (st1 : Int32), u.2.2.1 x 67 = pd1 ∧ u.2.2.1 x 68 = rs1 ∧ u.2.2.1 x 69 = ov1 ∧ u.2.2.1 x 70 = ms1 ∧ u.2.2.1 x 71 = st1 ∧ (pd1.toInt = hz_pdy (odf i1.toInt.toNat).toInt (szf i1.toInt.toNat).toInt (gdf i1.toInt.toNat).toInt i2.toInt (hx_ps pof pdf psm pkf pst i2.toInt i3.toInt i1.toInt pm0.toInt.toNat) ∧ rs1.toInt = hz_rs (svf i1.toInt.toNat).toInt (hz_bl (odf i1.toInt.toNat).toInt (szf i1.toInt.toNat).toInt (gdf i1.toInt.toNat).toInt (owf i1.toInt.toNat).toInt (R 12) i2.toInt (hx_ps pof pdf psm pkf pst i2.toInt i3.toInt i1.toInt pm0.toInt.toNat)) i2.toInt ∧ ov1.toInt = hz_ov (svf i1.toInt.toNat).toInt (hz_bl (odf i1.toInt.toNat).toInt (szf i1.toInt.toNat).toInt (gdf i1.toInt.toNat).toInt (owf i1.toInt.toNat).toInt (R 12) i2.toInt (hx_ps pof pdf psm pkf pst i2.toInt i3.toInt i1.toInt pm0.toInt.toNat)) i2.toInt ∧ ms1.toInt = hz_ms (odf i1.toInt.toNat).toInt (svf i1.toInt.toNat).toInt (wkf i1.toInt.toNat).toInt (hz_al (owf i1.toInt.toNat).toInt (szf i1.toInt.toNat).toInt (R 12) i2.toInt) (hz_pdy (odf i1.toInt.toNat).toInt (szf i1.toInt.toNat).toInt (gdf i1.toInt.toNat).toInt i2.toInt (hx_ps pof pdf psm pkf pst i2.toInt i3.toInt i1.toInt pm0.toInt.toNat)) i2.toInt ∧ st1.toInt = hz_st (fof i1.toInt.toNat).toInt (hrf i1.toInt.toNat).toInt (udf i1.toInt.toNat).toInt (odf i1.toInt.toNat).toInt (svf i1.toInt.toNat).toInt (hz_rs (svf i1.toInt.toNat).toInt (hz_bl (odf i1.toInt.toNat).toInt (szf i1.toInt.toNat).toInt (gdf i1.toInt.toNat).toInt (owf i1.toInt.toNat).toInt (R 12) i2.toInt (hx_ps pof pdf psm pkf pst i2.toInt i3.toInt i1.toInt pm0.toInt.toNat)) i2.toInt) (hz_ms (odf i1.toInt.toNat).toInt (svf i1.toInt.toNat).toInt (wkf i1.toInt.toNat).toInt (hz_al (owf i1.toInt.toNat).toInt (szf i1.toInt.toNat).toInt (R 12) i2.toInt) (hz_pdy (odf i1.toInt.toNat).toInt (szf i1.toInt.toNat).toInt (gdf i1.toInt.toNat).toInt i2.toInt (hx_ps pof pdf psm pkf pst i2.toInt i3.toInt i1.toInt pm0.toInt.toNat)) i2.toInt) (R 4) (R 5) i2.toInt)) ∧ hx_T T_tb u.1 u.2 ∧ hx_S T_tb [(10, 67), (10, 68), (10, 69), (10, 70), (10, 71)] L h u.1 u.2) (hx_E T_tb (P_ty dA) (dC, dI) vwCl (hx_A L sz)) (hx_A L sz)) ([.ref x, .int i1, .int i2, .int i3] : List Value).toArray s 0 0 (hx_A L sz)) (F0 m 354 ls []) := by
                            intro jw354_x_69 H locs hL1 hl1 bljw354_x_69 bujw354_x_69 vj354_0 ls hW hT hM fjw354_x_69 f_8 fjw88_x_71 fjw279_x_67 fjw330_x_68  hl
                            have join437 : ∀ (jw437_x_70 : Int32) (H : Heap) (locs : List Loc) (hL1 : List Nat) (hl1 : hx_h), -2147483648 ≤ jw437_x_70.toInt → jw437_x_70.toInt ≤ 2147483647 → (jw437_x_70.toInt = hz_ms (odf i1.toInt.toNat).toInt (svf i1.toInt.toNat).toInt (wkf i1.toInt.toNat).toInt (hz_al (owf i1.toInt.toNat).toInt (szf i1.toInt.toNat).toInt (R 12) i2.toInt) (hz_pdy (odf i1.toInt.toNat).toInt (szf i1.toInt.toNat).toInt (gdf i1.toInt.toNat).toInt i2.toInt (hx_ps pof pdf psm pkf pst i2.toInt i3.toInt i1.toInt pm0.toInt.toNat)) i2.toInt) → ∀ (ls : Array Slot), hx_W T_tb (P_ty dA) (dC, dI) vwCl (hx_A L sz) s.heap hL1 hl1 s H locs → hx_T T_tb hL1 hl1 → hx_S T_tb [(10, 67), (10, 68), (10, 69), (10, 70), (10, 71)] L h hL1 hl1 → hl1.2.1 x 70 = jw437_x_70 → hl1.2.1 x 71 = jw88_x_71 → hl1.2.1 x 67 = jw279_x_67 → hl1.2.1 x 68 = jw330_x_68 → hl1.2.1 x 69 = jw354_x_69 → lv_has ls 9 [(5, .int jv279_5), (4, .int jv136_4), (0, .ref x), (1, .int i1), (2, .int i2), (3, .int i3)] → W p l e ({ frames := 1, cells := 0, slots := 0, locals := 22 }) s m ([.ref x, .int i1, .int i2, .int i3] : List Value).toArray below meth c H locs 0 0 (MQ below (va_Qv (fun (u : List Nat × hx_h) => (∃ (pd1 : Int32) (rs1 : Int32) (ov1 : Int32) (ms1 : Int32) (st1 : Int32), u.2.2.1 x 67 = pd1 ∧ u.2.2.1 x 68 = rs1 ∧ u.2.2.1 x 69 = ov1 ∧ u.2.2.1 x 70 = ms1 ∧ u.2.2.1 x 71 = st1 ∧ (pd1.toInt = hz_pdy (odf i1.toInt.toNat).toInt (szf i1.toInt.toNat).toInt (gdf i1.toInt.toNat).toInt i2.toInt (hx_ps pof pdf psm pkf pst i2.toInt i3.toInt i1.toInt pm0.toInt.toNat) ∧ rs1.toInt = hz_rs (svf i1.toInt.toNat).toInt (hz_bl (odf i1.toInt.toNat).toInt (szf i1.toInt.toNat).toInt (gdf i1.toInt.toNat).toInt (owf i1.toInt.toNat).toInt (R 12) i2.toInt (hx_ps pof pdf psm pkf pst i2.toInt i3.toInt i1.toInt pm0.toInt.toNat)) i2.toInt ∧ ov1.toInt = hz_ov (svf i1.toInt.toNat).toInt (hz_bl (odf i1.toInt.toNat).toInt (szf i1.toInt.toNat).toInt (gdf i1.toInt.toNat).toInt (owf i1.toInt.toNat).toInt (R 12) i2.toInt (hx_ps pof pdf psm pkf pst i2.toInt i3.toInt i1.toInt pm0.toInt.toNat)) i2.toInt ∧ ms1.toInt = hz_ms (odf i1.toInt.toNat).toInt (svf i1.toInt.toNat).toInt (wkf i1.toInt.toNat).toInt (hz_al (owf i1.toInt.toNat).toInt (szf i1.toInt.toNat).toInt (R 12) i2.toInt) (hz_pdy (odf i1.toInt.toNat).toInt (szf i1.toInt.toNat).toInt (gdf i1.toInt.toNat).toInt i2.toInt (hx_ps pof pdf psm pkf pst i2.toInt i3.toInt i1.toInt pm0.toInt.toNat)) i2.toInt ∧ st1.toInt = hz_st (fof i1.toInt.toNat).toInt (hrf i1.toInt.toNat).toInt (udf i1.toInt.toNat).toInt (odf i1.toInt.toNat).toInt (svf i1.toInt.toNat).toInt (hz_rs (svf i1.toInt.toNat).toInt (hz_bl (odf i1.toInt.toNat).toInt (szf i1.toInt.toNat).toInt (gdf i1.toInt.toNat).toInt (owf i1.toInt.toNat).toInt (R 12) i2.toInt (hx_ps pof pdf psm pkf pst i2.toInt i3.toInt i1.toInt pm0.toInt.toNat)) i2.toInt) (hz_ms (odf i1.toInt.toNat).toInt (svf i1.toInt.toNat).toInt (wkf i1.toInt.toNat).toInt (hz_al (owf i1.toInt.toNat).toInt (szf i1.toInt.toNat).toInt (R 12) i2.toInt) (hz_pdy (odf i1.toInt.toNat).toInt (szf i1.toInt.toNat).toInt (gdf i1.toInt.toNat).toInt i2.toInt (hx_ps pof pdf psm pkf pst i2.toInt i3.toInt i1.toInt pm0.toInt.toNat)) i2.toInt) (R 4) (R 5) i2.toInt)) ∧ hx_T T_tb u.1 u.2 ∧ hx_S T_tb [(10, 67), (10, 68), (10, 69), (10, 70), (10, 71)] L h u.1 u.2) (hx_E T_tb (P_ty dA) (dC, dI) vwCl (hx_A L sz)) (hx_A L sz)) ([.ref x, .int i1, .int i2, .int i3] : List Value).toArray s 0 0 (hx_A L sz)) (F0 m 437 ls []) := by
                              intro jw437_x_70 H locs hL1 hl1 bljw437_x_70 bujw437_x_70 vj437_0 ls hW hT hM fjw437_x_70 fjw88_x_71 fjw279_x_67 fjw330_x_68 fjw354_x_69  hl
                              refine lv_aload_n hx hb dX10_looks_437 rfl (lv_at hl 2 rfl) ?_
                              refine lv_aload_n hx hb dX10_looks_438 rfl (lv_at hl 2 rfl) ?_
                              refine hk_getr hx hb hts hC_10 hown hW (gx.S hM) tt_10 44 ?o241 rfl kw_1187 ⟨rfl, rfl, rfl⟩ ((hM.o gx trivial rfl).2.trans f_x_44) dX10_looks_439 ?_
                              case o241 => decide
                              refine lv_iload_n hx hb dX10_looks_442 rfl (lv_at hl 3 rfl) ?_
                              refine hx_iald hx hb hW hT (gqpl.S hM) tt_79 rfl ⟨?o242, ?o243⟩ dX10_looks_443 (fun x_104 ex_104 lx_104 ux_104 => ?_)
                              case o242 => omega
                              case o243 => omega
                              have ax_104 : x_104 = plf i1.toNatClampNeg := ex_104.trans (congrFun (hx_afS hM gqpl rfl af_qpl) _)
                              refine lv_iconst (v := 4) hx hb dX10_looks_444 ?o244 ?_
                              case o244 => decide
                              have zc_4 : (4 : Int32).toInt = 4 := ?o245
                              case o245 => decide
                              refine hx_goi (hx_runV (As := [.int x_104, .int (4 : Int32)]) (rest := []) ⟨hx, hb, hml, hown, hts⟩ hW (gx.S hM) tt_10 (T := TX10) (N := 98) rfl (t_X10_ruleOf_v l dC dI dA hL1 hl1 H.size x x_104 (4 : Int32) hT (gx.S hM) qru (gqru.S hM) ((hM.o gx trivial rfl).2.trans f_x_3) rlf (hx_afS hM gqru rfl af_qru) ⟨?o246, ?o247⟩ ?o248) (cwV 2 hts (hx_gV kw_1533 kw_1530 kw_1532 kw_66 kw_103) rfl rfl rfl (by decide +kernel) ⟨Nat.le_of_ble_eq_true rfl, Nat.le_of_ble_eq_true rfl⟩) rfl hl.1 rfl (Nat.le_of_ble_eq_true rfl) dX10_looks_445 ⟨Nat.le_of_ble_eq_true rfl, Nat.le_of_ble_eq_true rfl⟩) hW (fun r_107 L_105 h_106 H locs p_108 hW => ?_)
                              case o246 => omega
                              case o247 => omega
                              case o248 => decide
                              obtain ⟨hr_109, hT, hs⟩ := p_108
                              replace hT : hx_T T_tb L_105 h_106 := hT
                              replace hs : hx_S T_tb [] hL1 hl1 L_105 h_106 := hs
                              replace fjw88_x_71 := (hs.o (gx.S hM) trivial rfl).1.trans fjw88_x_71
                              replace fjw279_x_67 := (hs.o (gx.S hM) trivial rfl).1.trans fjw279_x_67
                              replace fjw330_x_68 := (hs.o (gx.S hM) trivial rfl).1.trans fjw330_x_68
                              replace fjw354_x_69 := (hs.o (gx.S hM) trivial rfl).1.trans fjw354_x_69
                              replace fjw437_x_70 := (hs.o (gx.S hM) trivial rfl).1.trans fjw437_x_70
                              replace ex_104 := ex_104.trans (hs.a (gqpl.S hM) rfl _).1.symm
                              replace hM := hM.tr (hs.mono ?o249)
                              case o249 => decide
                              have hR_110 : r_107.toInt = R 4 := ?o250
                              case o250 =>
                                rw [hr_109.1, ax_104, show (4 : Int32).toInt.toNat = 4 from by decide]
                                refine hRr 4 ?o251
                                case o251 => decide
                              refine lv_istore (lv' := [(8, .int r_107), (5, .int jv279_5), (4, .int jv136_4), (0, .ref x), (1, .int i1), (2, .int i2), (3, .int i3)]) hx hb dX10_looks_448 hl ?o252 rfl (fun ls hl => ?_)
                              case o252 => decide
                              refine lv_aload_n hx hb dX10_looks_450 rfl (lv_at hl 3 rfl) ?_
                              refine lv_aload_n hx hb dX10_looks_451 rfl (lv_at hl 3 rfl) ?_
                              refine hk_geti hx hb hts hC_10 hown hW (gx.S hM) tt_10 68 ?o253 rfl kw_1211 ⟨rfl, rfl, rfl⟩ fjw330_x_68 dX10_looks_452 ?_
                              case o253 => decide
                              refine hb_if_ne (zx := jw330_x_68.toInt) (tgt := 463) hx hb rfl dX10_looks_455 ?o254 (fun c_111 => ?_) (fun c_111 => ?_)
                              case o254 => decide
                              · skip
                                refine lv_aload_n hx hb dX10_looks_463 rfl (lv_at hl 3 rfl) ?_
                                refine hk_geti hx hb hts hC_10 hown hW (gx.S hM) tt_10 70 ?o255 rfl kw_1213 ⟨rfl, rfl, rfl⟩ fjw437_x_70 dX10_looks_464 ?_
                                case o255 => decide
                                refine lv_iload hx hb dX10_looks_467 (lv_at hl 0 rfl) ?_
                                refine lv_aload_n hx hb dX10_looks_469 rfl (lv_at hl 3 rfl) ?_
                                refine lv_aload_n hx hb dX10_looks_470 rfl (lv_at hl 3 rfl) ?_
                                refine hk_getr hx hb hts hC_10 hown hW (gx.S hM) tt_10 44 ?o256 rfl kw_1187 ⟨rfl, rfl, rfl⟩ ((hM.o gx trivial rfl).2.trans f_x_44) dX10_looks_471 ?_
                                case o256 => decide
                                refine lv_iload_n hx hb dX10_looks_474 rfl (lv_at hl 4 rfl) ?_
                                refine hx_iald hx hb hW hT (gqpl.S hM) tt_79 rfl ⟨?o257, ?o258⟩ dX10_looks_475 (fun x_112 ex_112 lx_112 ux_112 => ?_)
                                case o257 => omega
                                case o258 => omega
                                have ax_112 : x_112 = plf i1.toNatClampNeg := ex_112.trans (congrFun (hx_afS hM gqpl rfl af_qpl) _)
                                obtain rfl : x_104 = x_112 := ex_104.trans ex_112.symm
                                refine lv_iconst (v := 5) hx hb dX10_looks_476 ?o259 ?_
                                case o259 => decide
                                have zc_5 : (5 : Int32).toInt = 5 := ?o260
                                case o260 => decide
                                refine hx_goi (hx_runV (As := [.int x_104, .int (5 : Int32)]) (rest := [.int r_107, .int jw437_x_70, .ref x]) ⟨hx, hb, hml, hown, hts⟩ hW (gx.S hM) tt_10 (T := TX10) (N := 98) rfl (t_X10_ruleOf_v l dC dI dA L_105 h_106 H.size x x_104 (5 : Int32) hT (gx.S hM) qru (gqru.S hM) ((hM.o gx trivial rfl).2.trans f_x_3) rlf (hx_afS hM gqru rfl af_qru) ⟨?o261, ?o262⟩ ?o263) (cwV 2 hts (hx_gV kw_1533 kw_1530 kw_1532 kw_66 kw_103) rfl rfl rfl (by decide +kernel) ⟨Nat.le_of_ble_eq_true rfl, Nat.le_of_ble_eq_true rfl⟩) rfl hl.1 rfl (Nat.le_of_ble_eq_true rfl) dX10_looks_477 ⟨Nat.le_of_ble_eq_true rfl, Nat.le_of_ble_eq_true rfl⟩) hW (fun r_115 L_113 h_114 H locs p_116 hW => ?_)
                                case o261 => omega
                                case o262 => omega
                                case o263 => decide
                                obtain ⟨hr_117, hT, hs⟩ := p_116
                                replace hT : hx_T T_tb L_113 h_114 := hT
                                replace hs : hx_S T_tb [] L_105 h_106 L_113 h_114 := hs
                                replace fjw88_x_71 := (hs.o (gx.S hM) trivial rfl).1.trans fjw88_x_71
                                replace fjw279_x_67 := (hs.o (gx.S hM) trivial rfl).1.trans fjw279_x_67
                                replace fjw330_x_68 := (hs.o (gx.S hM) trivial rfl).1.trans fjw330_x_68
                                replace fjw354_x_69 := (hs.o (gx.S hM) trivial rfl).1.trans fjw354_x_69
                                replace fjw437_x_70 := (hs.o (gx.S hM) trivial rfl).1.trans fjw437_x_70
                                replace ex_104 := ex_104.trans (hs.a (gqpl.S hM) rfl _).1.symm
                                replace hM := hM.tr (hs.mono ?o264)
                                case o264 => decide
                                have hR_118 : r_115.toInt = R 5 := ?o265
                                case o265 =>
                                  rw [hr_117.1, ax_104, show (5 : Int32).toInt.toNat = 5 from by decide]
                                  refine hRr 5 ?o266
                                  case o266 => decide
                                refine lv_iadd hx hb dX10_looks_480 ?_
                                have rg_119 := i32_r r_107
                                have rg_120 := i32_r r_115
                                refine lv_topi (fun x_121 ex_121 => ?_)
                                have zx_121 : x_121.toInt = r_107.toInt + r_115.toInt := ?o267
                                case o267 =>
                                  rw [ex_121]
                                  refine i32_add rfl rfl ?o268 ?o269
                                  case o268 => omega
                                  case o269 => omega
                                refine hb_icmp_lt (zx := jw437_x_70.toInt) (zy := x_121.toInt) (tgt := 489) hx hb rfl rfl dX10_looks_481 ?o270 (fun c_122 => ?_) (fun c_122 => ?_)
                                case o270 => decide
                                · skip
                                  refine lv_aload_n hx hb dX10_looks_489 rfl (lv_at hl 3 rfl) ?_
                                  refine hk_geti hx hb hts hC_10 hown hW (gx.S hM) tt_10 70 ?o271 rfl kw_1213 ⟨rfl, rfl, rfl⟩ fjw437_x_70 dX10_looks_490 ?_
                                  case o271 => decide
                                  refine lv_iload hx hb dX10_looks_493 (lv_at hl 0 rfl) ?_
                                  refine hb_icmp_lt (zx := jw437_x_70.toInt) (zy := r_107.toInt) (tgt := 502) hx hb rfl rfl dX10_looks_495 ?o272 (fun c_123 => ?_) (fun c_123 => ?_)
                                  case o272 => decide
                                  · skip
                                    refine lv_iconst (v := 4) hx hb dX10_looks_502 ?o273 ?_
                                    case o273 => decide
                                    refine hx_puti hx hb hts hC_10 hown hW hT (hx_S.rf (M := [(10, 71)])) (gx.S hM) tt_10 71 ?o274 rfl kw_1214 ⟨rfl, rfl, rfl⟩ rfl (x := (4 : Int32)) ?o275 rfl rfl rfl (List.mem_singleton.mpr rfl) dX10_looks_503 (fun H locs h_124 eh_124 hW hT hs => ?_)
                                    case o274 => decide
                                    case o275 => decide
                                    replace fjw279_x_67 := (hs.o (gx.S hM) trivial rfl).1.trans fjw279_x_67
                                    replace fjw330_x_68 := (hs.o (gx.S hM) trivial rfl).1.trans fjw330_x_68
                                    replace fjw354_x_69 := (hs.o (gx.S hM) trivial rfl).1.trans fjw354_x_69
                                    replace fjw437_x_70 := (hs.o (gx.S hM) trivial rfl).1.trans fjw437_x_70
                                    replace ex_104 := ex_104.trans (hs.a (gqpl.S hM) rfl _).1.symm
                                    replace hM := hM.tr (hs.mono ?o276)
                                    case o276 => decide
                                    have f_125 : h_124.2.1 x 71 = (4 : Int32) := ?o277
                                    case o277 =>
                                      rw [eh_124]
                                      exact hx_pi_at _ _ _ _
                                    have zo_4 : (4 : Int32).toInt = 4 := ?o278
                                    case o278 => decide
                                    exact hx_retv hx hb hr hlk hW ⟨⟨jw279_x_67, jw330_x_68, jw354_x_69, jw437_x_70, (4 : Int32), fjw279_x_67, fjw330_x_68, fjw354_x_69, fjw437_x_70, f_125, (by have zr_4 : (4 : Int32).toInt = 4 := (by decide); exact ⟨(by omega), (by omega), (by omega), (by omega), (by unfold hz_st; rw [if_neg (by omega), if_neg (by omega)]; rw [← hR_110]; rw [← hR_118]; (repeat' split) <;> omega)⟩)⟩, hT, hM⟩ dX10_looks_506
                                  · skip
                                    refine lv_iconst (v := 5) hx hb dX10_looks_498 ?o279 ?_
                                    case o279 => decide
                                    refine lv_goto (tgt := 503) hx hb dX10_looks_499 ?o280 ?_
                                    case o280 => decide
                                    refine hx_puti hx hb hts hC_10 hown hW hT (hx_S.rf (M := [(10, 71)])) (gx.S hM) tt_10 71 ?o281 rfl kw_1214 ⟨rfl, rfl, rfl⟩ rfl (x := (5 : Int32)) ?o282 rfl rfl rfl (List.mem_singleton.mpr rfl) dX10_looks_503 (fun H locs h_126 eh_126 hW hT hs => ?_)
                                    case o281 => decide
                                    case o282 => decide
                                    replace fjw279_x_67 := (hs.o (gx.S hM) trivial rfl).1.trans fjw279_x_67
                                    replace fjw330_x_68 := (hs.o (gx.S hM) trivial rfl).1.trans fjw330_x_68
                                    replace fjw354_x_69 := (hs.o (gx.S hM) trivial rfl).1.trans fjw354_x_69
                                    replace fjw437_x_70 := (hs.o (gx.S hM) trivial rfl).1.trans fjw437_x_70
                                    replace ex_104 := ex_104.trans (hs.a (gqpl.S hM) rfl _).1.symm
                                    replace hM := hM.tr (hs.mono ?o283)
                                    case o283 => decide
                                    have f_127 : h_126.2.1 x 71 = (5 : Int32) := ?o284
                                    case o284 =>
                                      rw [eh_126]
                                      exact hx_pi_at _ _ _ _
                                    have zo_5 : (5 : Int32).toInt = 5 := ?o285
                                    case o285 => decide
                                    exact hx_retv hx hb hr hlk hW ⟨⟨jw279_x_67, jw330_x_68, jw354_x_69, jw437_x_70, (5 : Int32), fjw279_x_67, fjw330_x_68, fjw354_x_69, fjw437_x_70, f_127, (by have zr_5 : (5 : Int32).toInt = 5 := (by decide); exact ⟨(by omega), (by omega), (by omega), (by omega), (by unfold hz_st; rw [if_neg (by omega), if_neg (by omega)]; rw [← hR_110]; rw [← hR_118]; (repeat' split) <;> omega)⟩)⟩, hT, hM⟩ dX10_looks_506
                                · skip
                                  refine lv_bipush (v := 6) hx hb dX10_looks_484 ?o286 ?_
                                  case o286 => decide
                                  refine lv_goto (tgt := 503) hx hb dX10_looks_486 ?o287 ?_
                                  case o287 => decide
                                  refine hx_puti hx hb hts hC_10 hown hW hT (hx_S.rf (M := [(10, 71)])) (gx.S hM) tt_10 71 ?o288 rfl kw_1214 ⟨rfl, rfl, rfl⟩ rfl (x := (6 : Int32)) ?o289 rfl rfl rfl (List.mem_singleton.mpr rfl) dX10_looks_503 (fun H locs h_128 eh_128 hW hT hs => ?_)
                                  case o288 => decide
                                  case o289 => decide
                                  replace fjw279_x_67 := (hs.o (gx.S hM) trivial rfl).1.trans fjw279_x_67
                                  replace fjw330_x_68 := (hs.o (gx.S hM) trivial rfl).1.trans fjw330_x_68
                                  replace fjw354_x_69 := (hs.o (gx.S hM) trivial rfl).1.trans fjw354_x_69
                                  replace fjw437_x_70 := (hs.o (gx.S hM) trivial rfl).1.trans fjw437_x_70
                                  replace ex_104 := ex_104.trans (hs.a (gqpl.S hM) rfl _).1.symm
                                  replace hM := hM.tr (hs.mono ?o290)
                                  case o290 => decide
                                  have f_129 : h_128.2.1 x 71 = (6 : Int32) := ?o291
                                  case o291 =>
                                    rw [eh_128]
                                    exact hx_pi_at _ _ _ _
                                  have zo_6 : (6 : Int32).toInt = 6 := ?o292
                                  case o292 => decide
                                  exact hx_retv hx hb hr hlk hW ⟨⟨jw279_x_67, jw330_x_68, jw354_x_69, jw437_x_70, (6 : Int32), fjw279_x_67, fjw330_x_68, fjw354_x_69, fjw437_x_70, f_129, (by have zr_6 : (6 : Int32).toInt = 6 := (by decide); exact ⟨(by omega), (by omega), (by omega), (by omega), (by unfold hz_st; rw [if_neg (by omega), if_neg (by omega)]; rw [← hR_110]; rw [← hR_118]; (repeat' split) <;> omega)⟩)⟩, hT, hM⟩ dX10_looks_506
                              · skip
                                refine lv_bipush (v := 7) hx hb dX10_looks_458 ?o293 ?_
                                case o293 => decide
                                refine lv_goto (tgt := 503) hx hb dX10_looks_460 ?o294 ?_
                                case o294 => decide
                                refine hx_puti hx hb hts hC_10 hown hW hT (hx_S.rf (M := [(10, 71)])) (gx.S hM) tt_10 71 ?o295 rfl kw_1214 ⟨rfl, rfl, rfl⟩ rfl (x := (7 : Int32)) ?o296 rfl rfl rfl (List.mem_singleton.mpr rfl) dX10_looks_503 (fun H locs h_130 eh_130 hW hT hs => ?_)
                                case o295 => decide
                                case o296 => decide
                                replace fjw279_x_67 := (hs.o (gx.S hM) trivial rfl).1.trans fjw279_x_67
                                replace fjw330_x_68 := (hs.o (gx.S hM) trivial rfl).1.trans fjw330_x_68
                                replace fjw354_x_69 := (hs.o (gx.S hM) trivial rfl).1.trans fjw354_x_69
                                replace fjw437_x_70 := (hs.o (gx.S hM) trivial rfl).1.trans fjw437_x_70
                                replace ex_104 := ex_104.trans (hs.a (gqpl.S hM) rfl _).1.symm
                                replace hM := hM.tr (hs.mono ?o297)
                                case o297 => decide
                                have f_131 : h_130.2.1 x 71 = (7 : Int32) := ?o298
                                case o298 =>
                                  rw [eh_130]
                                  exact hx_pi_at _ _ _ _
                                have zo_7 : (7 : Int32).toInt = 7 := ?o299
                                case o299 => decide
                                exact hx_retv hx hb hr hlk hW ⟨⟨jw279_x_67, jw330_x_68, jw354_x_69, jw437_x_70, (7 : Int32), fjw279_x_67, fjw330_x_68, fjw354_x_69, fjw437_x_70, f_131, (by have zr_7 : (7 : Int32).toInt = 7 := (by decide); exact ⟨(by omega), (by omega), (by omega), (by omega), (by unfold hz_st; rw [if_neg (by omega), if_neg (by omega)]; rw [← hR_110]; (repeat' split) <;> omega)⟩)⟩, hT, hM⟩ dX10_looks_506
                            refine lv_iload_n hx hb dX10_looks_354 rfl (lv_at hl 4 rfl) ?_
                            refine lv_aload_n hx hb dX10_looks_355 rfl (lv_at hl 2 rfl) ?_
                            refine hk_getr hx hb hts hC_10 hown hW (gx.S hM) tt_10 48 ?o300 rfl kw_1191 ⟨rfl, rfl, rfl⟩ ((hM.o gx trivial rfl).2.trans f_x_48) dX10_looks_356 ?_
                            case o300 => decide
                            refine lv_iload_n hx hb dX10_looks_359 rfl (lv_at hl 3 rfl) ?_
                            refine hx_iald hx hb hW hT (gqod.S hM) tt_83 rfl ⟨?o301, ?o302⟩ dX10_looks_360 (fun x_132 ex_132 lx_132 ux_132 => ?_)
                            case o301 => omega
                            case o302 => omega
                            have ax_132 : x_132 = odf i1.toNatClampNeg := ex_132.trans (congrFun (hx_afS hM gqod rfl af_qod) _)
                            have sx_132 : x_132.toInt = (odf i1.toInt.toNat).toInt := congrArg Int32.toInt ax_132
                            refine lv_isub hx hb dX10_looks_361 ?_
                            have rg_133 := i32_r i2
                            have rg_134 := i32_r x_132
                            refine lv_topi (fun x_135 ex_135 => ?_)
                            have zx_135 : x_135.toInt = i2.toInt - x_132.toInt := ?o303
                            case o303 =>
                              rw [ex_135]
                              refine i32_sub rfl rfl ?o304 ?o305
                              case o304 => omega
                              case o305 => omega
                            refine lv_bipush (v := 7) hx hb dX10_looks_362 ?o306 ?_
                            case o306 => decide
                            refine lv_idiv hx hb dX10_looks_364 ?o307 ?_
                            case o307 => decide
                            refine lv_topi (fun x_136 ex_136 => ?_)
                            have zx_136 : x_136.toInt = x_135.toInt / 7 := ?o308
                            case o308 =>
                              rw [ex_136, hx_dv (by omega) (by decide)]
                              rfl
                            refine lv_istore (lv' := [(6, .int x_136), (5, .int jv279_5), (4, .int jv136_4), (0, .ref x), (1, .int i1), (2, .int i2), (3, .int i3)]) hx hb dX10_looks_365 hl ?o309 rfl (fun ls hl => ?_)
                            case o309 => decide
                            refine lv_aload_n hx hb dX10_looks_367 rfl (lv_at hl 3 rfl) ?_
                            refine hk_getr hx hb hts hC_10 hown hW (gx.S hM) tt_10 54 ?o310 rfl kw_1197 ⟨rfl, rfl, rfl⟩ ((hM.o gx trivial rfl).2.trans f_x_54) dX10_looks_368 ?_
                            case o310 => decide
                            refine lv_iload_n hx hb dX10_looks_371 rfl (lv_at hl 4 rfl) ?_
                            refine hx_iald hx hb hW hT (gqwk.S hM) tt_89 rfl ⟨?o311, ?o312⟩ dX10_looks_372 (fun x_137 ex_137 lx_137 ux_137 => ?_)
                            case o311 => omega
                            case o312 => omega
                            have ax_137 : x_137 = wkf i1.toNatClampNeg := ex_137.trans (congrFun (hx_afS hM gqwk rfl af_qwk) _)
                            have sx_137 : x_137.toInt = (wkf i1.toInt.toNat).toInt := congrArg Int32.toInt ax_137
                            refine lv_iload hx hb dX10_looks_373 (lv_at hl 0 rfl) ?_
                            refine lv_imul hx hb dX10_looks_375 ?_
                            refine lv_topi (fun x_138 ex_138 => ?_)
                            have mx_138 : x_137.toInt = 0 → x_138.toInt = 0 := fun z => by rw [ex_138]; exact hx_mul0 z
                            obtain ⟨m9a, m9al, m9ah⟩ := hz_mul ⟨by omega, by omega⟩ ⟨by omega, by omega⟩ ex_138
                            rw [show x_137.toInt = (wkf i1.toInt.toNat).toInt from by omega, show x_136.toInt = (i2.toInt - (odf i1.toInt.toNat).toInt) / 7 from by omega] at m9a
                            refine lv_iload hx hb dX10_looks_376 (lv_at hl 1 rfl) ?_
                            refine hb_icmp_ge (zx := x_138.toInt) (zy := jv279_5.toInt) (tgt := 393) hx hb rfl rfl dX10_looks_378 ?o313 (fun c_139 => ?_) (fun c_139 => ?_)
                            case o313 => decide
                            · skip
                              refine lv_iload hx hb dX10_looks_393 (lv_at hl 1 rfl) ?_
                              refine lv_istore (lv' := [(7, .int jv279_5), (6, .int x_136), (5, .int jv279_5), (4, .int jv136_4), (0, .ref x), (1, .int i1), (2, .int i2), (3, .int i3)]) hx hb dX10_looks_395 hl ?o314 rfl (fun ls hl => ?_)
                              case o314 => decide
                              have hdu9 : jv279_5.toInt = hz_mi (hz_al (owf i1.toInt.toNat).toInt (szf i1.toInt.toNat).toInt (R 12) i2.toInt) ((wkf i1.toInt.toNat).toInt * ((i2.toInt - (odf i1.toInt.toNat).toInt) / 7)) := by unfold hz_mi; (repeat' split) <;> omega
                              have hpd9 : jw279_x_67.toInt = hz_pdy (odf i1.toInt.toNat).toInt (szf i1.toInt.toNat).toInt (gdf i1.toInt.toNat).toInt i2.toInt (hx_ps pof pdf psm pkf pst i2.toInt i3.toInt i1.toInt pm0.toInt.toNat) := ?o315
                              case o315 => omega
                              refine lv_aload_n hx hb dX10_looks_397 rfl (lv_at hl 4 rfl) ?_
                              refine lv_iload hx hb dX10_looks_398 (lv_at hl 0 rfl) ?_
                              refine lv_aload_n hx hb dX10_looks_400 rfl (lv_at hl 4 rfl) ?_
                              refine hk_geti hx hb hts hC_10 hown hW (gx.S hM) tt_10 67 ?o316 rfl kw_1210 ⟨rfl, rfl, rfl⟩ fjw279_x_67 dX10_looks_401 ?_
                              case o316 => decide
                              refine hb_icmp_le (zx := jv279_5.toInt) (zy := jw279_x_67.toInt) (tgt := 433) hx hb rfl rfl dX10_looks_404 ?o317 (fun c_140 => ?_) (fun c_140 => ?_)
                              case o317 => decide
                              · skip
                                refine lv_iconst (v := 0) hx hb dX10_looks_433 ?o318 ?_
                                case o318 => decide
                                refine hx_puti hx hb hts hC_10 hown hW hT (hx_S.rf (M := [(10, 70)])) (gx.S hM) tt_10 70 ?o319 rfl kw_1213 ⟨rfl, rfl, rfl⟩ rfl (x := (0 : Int32)) ?o320 rfl rfl rfl (List.mem_singleton.mpr rfl) dX10_looks_434 (fun H locs h_141 eh_141 hW hT hs => ?_)
                                case o319 => decide
                                case o320 => decide
                                replace fjw88_x_71 := (hs.o (gx.S hM) trivial rfl).1.trans fjw88_x_71
                                replace fjw279_x_67 := (hs.o (gx.S hM) trivial rfl).1.trans fjw279_x_67
                                replace fjw330_x_68 := (hs.o (gx.S hM) trivial rfl).1.trans fjw330_x_68
                                replace fjw354_x_69 := (hs.o (gx.S hM) trivial rfl).1.trans fjw354_x_69
                                replace ex_132 := ex_132.trans (hs.a (gqod.S hM) rfl _).1.symm
                                replace ex_137 := ex_137.trans (hs.a (gqwk.S hM) rfl _).1.symm
                                replace hM := hM.tr (hs.mono ?o321)
                                case o321 => decide
                                have f_142 : h_141.2.1 x 70 = (0 : Int32) := ?o322
                                case o322 =>
                                  rw [eh_141]
                                  exact hx_pi_at _ _ _ _
                                have zk_0 : (0 : Int32).toInt = 0 := ?o323
                                case o323 => decide
                                refine join437 (0 : Int32) _ _ hL1 h_141 ?o324 ?o325 (by rw [zk_0]; unfold hz_ms; rw [if_neg (by omega), ← hdu9, ← hpd9]; unfold hz_ru; rw [if_pos (by omega)]) ls hW hT hM f_142 fjw88_x_71 fjw279_x_67 fjw330_x_68 fjw354_x_69  (lv_sub hl [2, 3, 4, 5, 6, 7] rfl)
                                case o324 => decide
                                case o325 => decide
                              · skip
                                refine lv_iload hx hb dX10_looks_407 (lv_at hl 0 rfl) ?_
                                refine lv_aload_n hx hb dX10_looks_409 rfl (lv_at hl 4 rfl) ?_
                                refine hk_geti hx hb hts hC_10 hown hW (gx.S hM) tt_10 67 ?o326 rfl kw_1210 ⟨rfl, rfl, rfl⟩ fjw279_x_67 dX10_looks_410 ?_
                                case o326 => decide
                                refine lv_isub hx hb dX10_looks_413 ?_
                                have rg_143 := i32_r jv279_5
                                have rg_144 := i32_r jw279_x_67
                                refine lv_topi (fun x_145 ex_145 => ?_)
                                have zx_145 : x_145.toInt = jv279_5.toInt - jw279_x_67.toInt := ?o327
                                case o327 =>
                                  rw [ex_145]
                                  refine i32_sub rfl rfl ?o328 ?o329
                                  case o328 => omega
                                  case o329 => omega
                                refine lv_aload_n hx hb dX10_looks_414 rfl (lv_at hl 4 rfl) ?_
                                refine hk_getr hx hb hts hC_10 hown hW (gx.S hM) tt_10 54 ?o330 rfl kw_1197 ⟨rfl, rfl, rfl⟩ ((hM.o gx trivial rfl).2.trans f_x_54) dX10_looks_415 ?_
                                case o330 => decide
                                refine lv_iload_n hx hb dX10_looks_418 rfl (lv_at hl 5 rfl) ?_
                                refine hx_iald hx hb hW hT (gqwk.S hM) tt_89 rfl ⟨?o331, ?o332⟩ dX10_looks_419 (fun x_146 ex_146 lx_146 ux_146 => ?_)
                                case o331 => omega
                                case o332 => omega
                                have ax_146 : x_146 = wkf i1.toNatClampNeg := ex_146.trans (congrFun (hx_afS hM gqwk rfl af_qwk) _)
                                obtain rfl : x_137 = x_146 := ex_137.trans ex_146.symm
                                refine lv_iadd hx hb dX10_looks_420 ?_
                                have rg_147 := i32_r x_145
                                have rg_148 := i32_r x_137
                                refine lv_topi (fun x_149 ex_149 => ?_)
                                have zx_149 : x_149.toInt = x_145.toInt + x_137.toInt := ?o333
                                case o333 =>
                                  rw [ex_149]
                                  refine i32_add rfl rfl ?o334 ?o335
                                  case o334 => omega
                                  case o335 => omega
                                refine lv_iconst (v := 1) hx hb dX10_looks_421 ?o336 ?_
                                case o336 => decide
                                refine lv_isub hx hb dX10_looks_422 ?_
                                have rg_150 := i32_r x_149
                                refine lv_topi (fun x_151 ex_151 => ?_)
                                have zx_151 : x_151.toInt = x_149.toInt - 1 := ?o337
                                case o337 =>
                                  rw [ex_151]
                                  refine i32_sub rfl ?o338 ?o339 ?o340
                                  case o338 => decide
                                  case o339 => omega
                                  case o340 => omega
                                refine lv_aload_n hx hb dX10_looks_423 rfl (lv_at hl 4 rfl) ?_
                                refine hk_getr hx hb hts hC_10 hown hW (gx.S hM) tt_10 54 ?o341 rfl kw_1197 ⟨rfl, rfl, rfl⟩ ((hM.o gx trivial rfl).2.trans f_x_54) dX10_looks_424 ?_
                                case o341 => decide
                                refine lv_iload_n hx hb dX10_looks_427 rfl (lv_at hl 5 rfl) ?_
                                refine hx_iald hx hb hW hT (gqwk.S hM) tt_89 rfl ⟨?o342, ?o343⟩ dX10_looks_428 (fun x_152 ex_152 lx_152 ux_152 => ?_)
                                case o342 => omega
                                case o343 => omega
                                have ax_152 : x_152 = wkf i1.toNatClampNeg := ex_152.trans (congrFun (hx_afS hM gqwk rfl af_qwk) _)
                                obtain rfl : x_137 = x_152 := ex_137.trans ex_152.symm
                                refine lv_idiv hx hb dX10_looks_429 (hx_ne0 ?o344) ?_
                                case o344 => omega
                                refine lv_topi (fun x_153 ex_153 => ?_)
                                have hru9 : x_153.toInt = hz_ru (jv279_5.toInt - jw279_x_67.toInt) (wkf i1.toInt.toNat).toInt := ?o345
                                case o345 =>
                                  rw [ex_153, hx_dv (by omega) (by omega), show x_151.toInt = (jv279_5.toInt - jw279_x_67.toInt) + (wkf i1.toInt.toNat).toInt - 1 from by omega, show x_137.toInt = (wkf i1.toInt.toNat).toInt from by omega]
                                  refine hz_ru_m ?o346 ?o347
                                  case o346 => omega
                                  case o347 => omega
                                refine lv_goto (tgt := 434) hx hb dX10_looks_430 ?o348 ?_
                                case o348 => decide
                                refine hx_puti hx hb hts hC_10 hown hW hT (hx_S.rf (M := [(10, 70)])) (gx.S hM) tt_10 70 ?o349 rfl kw_1213 ⟨rfl, rfl, rfl⟩ rfl (x := x_153) (i32_r _) rfl rfl rfl (List.mem_singleton.mpr rfl) dX10_looks_434 (fun H locs h_154 eh_154 hW hT hs => ?_)
                                case o349 => decide
                                replace fjw88_x_71 := (hs.o (gx.S hM) trivial rfl).1.trans fjw88_x_71
                                replace fjw279_x_67 := (hs.o (gx.S hM) trivial rfl).1.trans fjw279_x_67
                                replace fjw330_x_68 := (hs.o (gx.S hM) trivial rfl).1.trans fjw330_x_68
                                replace fjw354_x_69 := (hs.o (gx.S hM) trivial rfl).1.trans fjw354_x_69
                                replace ex_132 := ex_132.trans (hs.a (gqod.S hM) rfl _).1.symm
                                replace ex_137 := ex_137.trans (hs.a (gqwk.S hM) rfl _).1.symm
                                replace hM := hM.tr (hs.mono ?o350)
                                case o350 => decide
                                have f_155 : h_154.2.1 x 70 = x_153 := ?o351
                                case o351 =>
                                  rw [eh_154]
                                  exact hx_pi_at _ _ _ _
                                exact join437 x_153 _ _ hL1 h_154 (i32_r _).1 (i32_r _).2 (by unfold hz_ms; rw [if_neg (by omega), ← hdu9, ← hpd9]; exact hru9) ls hW hT hM f_155 fjw88_x_71 fjw279_x_67 fjw330_x_68 fjw354_x_69  (lv_sub hl [2, 3, 4, 5, 6, 7] rfl)
                            · skip
                              refine lv_aload_n hx hb dX10_looks_381 rfl (lv_at hl 3 rfl) ?_
                              refine hk_getr hx hb hts hC_10 hown hW (gx.S hM) tt_10 54 ?o352 rfl kw_1197 ⟨rfl, rfl, rfl⟩ ((hM.o gx trivial rfl).2.trans f_x_54) dX10_looks_382 ?_
                              case o352 => decide
                              refine lv_iload_n hx hb dX10_looks_385 rfl (lv_at hl 4 rfl) ?_
                              refine hx_iald hx hb hW hT (gqwk.S hM) tt_89 rfl ⟨?o353, ?o354⟩ dX10_looks_386 (fun x_156 ex_156 lx_156 ux_156 => ?_)
                              case o353 => omega
                              case o354 => omega
                              have ax_156 : x_156 = wkf i1.toNatClampNeg := ex_156.trans (congrFun (hx_afS hM gqwk rfl af_qwk) _)
                              obtain rfl : x_137 = x_156 := ex_137.trans ex_156.symm
                              refine lv_iload hx hb dX10_looks_387 (lv_at hl 0 rfl) ?_
                              refine lv_imul hx hb dX10_looks_389 ?_
                              refine lv_topi (fun x_157 ex_157 => ?_)
                              have mx_157 : x_137.toInt = 0 → x_157.toInt = 0 := fun z => by rw [ex_157]; exact hx_mul0 z
                              obtain ⟨m9b, m9bl, m9bh⟩ := hz_mul ⟨by omega, by omega⟩ ⟨by omega, by omega⟩ ex_157
                              rw [show x_137.toInt = (wkf i1.toInt.toNat).toInt from by omega, show x_136.toInt = (i2.toInt - (odf i1.toInt.toNat).toInt) / 7 from by omega] at m9b
                              refine lv_goto (tgt := 395) hx hb dX10_looks_390 ?o355 ?_
                              case o355 => decide
                              refine lv_istore (lv' := [(7, .int x_157), (6, .int x_136), (5, .int jv279_5), (4, .int jv136_4), (0, .ref x), (1, .int i1), (2, .int i2), (3, .int i3)]) hx hb dX10_looks_395 hl ?o356 rfl (fun ls hl => ?_)
                              case o356 => decide
                              have hdu9 : x_157.toInt = hz_mi (hz_al (owf i1.toInt.toNat).toInt (szf i1.toInt.toNat).toInt (R 12) i2.toInt) ((wkf i1.toInt.toNat).toInt * ((i2.toInt - (odf i1.toInt.toNat).toInt) / 7)) := by unfold hz_mi; (repeat' split) <;> omega
                              have hpd9 : jw279_x_67.toInt = hz_pdy (odf i1.toInt.toNat).toInt (szf i1.toInt.toNat).toInt (gdf i1.toInt.toNat).toInt i2.toInt (hx_ps pof pdf psm pkf pst i2.toInt i3.toInt i1.toInt pm0.toInt.toNat) := ?o357
                              case o357 => omega
                              refine lv_aload_n hx hb dX10_looks_397 rfl (lv_at hl 4 rfl) ?_
                              refine lv_iload hx hb dX10_looks_398 (lv_at hl 0 rfl) ?_
                              refine lv_aload_n hx hb dX10_looks_400 rfl (lv_at hl 4 rfl) ?_
                              refine hk_geti hx hb hts hC_10 hown hW (gx.S hM) tt_10 67 ?o358 rfl kw_1210 ⟨rfl, rfl, rfl⟩ fjw279_x_67 dX10_looks_401 ?_
                              case o358 => decide
                              refine hb_icmp_le (zx := x_157.toInt) (zy := jw279_x_67.toInt) (tgt := 433) hx hb rfl rfl dX10_looks_404 ?o359 (fun c_158 => ?_) (fun c_158 => ?_)
                              case o359 => decide
                              · skip
                                refine lv_iconst (v := 0) hx hb dX10_looks_433 ?o360 ?_
                                case o360 => decide
                                refine hx_puti hx hb hts hC_10 hown hW hT (hx_S.rf (M := [(10, 70)])) (gx.S hM) tt_10 70 ?o361 rfl kw_1213 ⟨rfl, rfl, rfl⟩ rfl (x := (0 : Int32)) ?o362 rfl rfl rfl (List.mem_singleton.mpr rfl) dX10_looks_434 (fun H locs h_159 eh_159 hW hT hs => ?_)
                                case o361 => decide
                                case o362 => decide
                                replace fjw88_x_71 := (hs.o (gx.S hM) trivial rfl).1.trans fjw88_x_71
                                replace fjw279_x_67 := (hs.o (gx.S hM) trivial rfl).1.trans fjw279_x_67
                                replace fjw330_x_68 := (hs.o (gx.S hM) trivial rfl).1.trans fjw330_x_68
                                replace fjw354_x_69 := (hs.o (gx.S hM) trivial rfl).1.trans fjw354_x_69
                                replace ex_132 := ex_132.trans (hs.a (gqod.S hM) rfl _).1.symm
                                replace ex_137 := ex_137.trans (hs.a (gqwk.S hM) rfl _).1.symm
                                replace hM := hM.tr (hs.mono ?o363)
                                case o363 => decide
                                have f_160 : h_159.2.1 x 70 = (0 : Int32) := ?o364
                                case o364 =>
                                  rw [eh_159]
                                  exact hx_pi_at _ _ _ _
                                have zk_0 : (0 : Int32).toInt = 0 := ?o365
                                case o365 => decide
                                refine join437 (0 : Int32) _ _ hL1 h_159 ?o366 ?o367 (by rw [zk_0]; unfold hz_ms; rw [if_neg (by omega), ← hdu9, ← hpd9]; unfold hz_ru; rw [if_pos (by omega)]) ls hW hT hM f_160 fjw88_x_71 fjw279_x_67 fjw330_x_68 fjw354_x_69  (lv_sub hl [2, 3, 4, 5, 6, 7] rfl)
                                case o366 => decide
                                case o367 => decide
                              · skip
                                refine lv_iload hx hb dX10_looks_407 (lv_at hl 0 rfl) ?_
                                refine lv_aload_n hx hb dX10_looks_409 rfl (lv_at hl 4 rfl) ?_
                                refine hk_geti hx hb hts hC_10 hown hW (gx.S hM) tt_10 67 ?o368 rfl kw_1210 ⟨rfl, rfl, rfl⟩ fjw279_x_67 dX10_looks_410 ?_
                                case o368 => decide
                                refine lv_isub hx hb dX10_looks_413 ?_
                                have rg_161 := i32_r x_157
                                have rg_162 := i32_r jw279_x_67
                                refine lv_topi (fun x_163 ex_163 => ?_)
                                have zx_163 : x_163.toInt = x_157.toInt - jw279_x_67.toInt := ?o369
                                case o369 =>
                                  rw [ex_163]
                                  refine i32_sub rfl rfl ?o370 ?o371
                                  case o370 => omega
                                  case o371 => omega
                                refine lv_aload_n hx hb dX10_looks_414 rfl (lv_at hl 4 rfl) ?_
                                refine hk_getr hx hb hts hC_10 hown hW (gx.S hM) tt_10 54 ?o372 rfl kw_1197 ⟨rfl, rfl, rfl⟩ ((hM.o gx trivial rfl).2.trans f_x_54) dX10_looks_415 ?_
                                case o372 => decide
                                refine lv_iload_n hx hb dX10_looks_418 rfl (lv_at hl 5 rfl) ?_
                                refine hx_iald hx hb hW hT (gqwk.S hM) tt_89 rfl ⟨?o373, ?o374⟩ dX10_looks_419 (fun x_164 ex_164 lx_164 ux_164 => ?_)
                                case o373 => omega
                                case o374 => omega
                                have ax_164 : x_164 = wkf i1.toNatClampNeg := ex_164.trans (congrFun (hx_afS hM gqwk rfl af_qwk) _)
                                obtain rfl : x_137 = x_164 := ex_137.trans ex_164.symm
                                refine lv_iadd hx hb dX10_looks_420 ?_
                                have rg_165 := i32_r x_163
                                have rg_166 := i32_r x_137
                                refine lv_topi (fun x_167 ex_167 => ?_)
                                have zx_167 : x_167.toInt = x_163.toInt + x_137.toInt := ?o375
                                case o375 =>
                                  rw [ex_167]
                                  refine i32_add rfl rfl ?o376 ?o377
                                  case o376 => omega
                                  case o377 => omega
                                refine lv_iconst (v := 1) hx hb dX10_looks_421 ?o378 ?_
                                case o378 => decide
                                refine lv_isub hx hb dX10_looks_422 ?_
                                have rg_168 := i32_r x_167
                                refine lv_topi (fun x_169 ex_169 => ?_)
                                have zx_169 : x_169.toInt = x_167.toInt - 1 := ?o379
                                case o379 =>
                                  rw [ex_169]
                                  refine i32_sub rfl ?o380 ?o381 ?o382
                                  case o380 => decide
                                  case o381 => omega
                                  case o382 => omega
                                refine lv_aload_n hx hb dX10_looks_423 rfl (lv_at hl 4 rfl) ?_
                                refine hk_getr hx hb hts hC_10 hown hW (gx.S hM) tt_10 54 ?o383 rfl kw_1197 ⟨rfl, rfl, rfl⟩ ((hM.o gx trivial rfl).2.trans f_x_54) dX10_looks_424 ?_
                                case o383 => decide
                                refine lv_iload_n hx hb dX10_looks_427 rfl (lv_at hl 5 rfl) ?_
                                refine hx_iald hx hb hW hT (gqwk.S hM) tt_89 rfl ⟨?o384, ?o385⟩ dX10_looks_428 (fun x_170 ex_170 lx_170 ux_170 => ?_)
                                case o384 => omega
                                case o385 => omega
                                have ax_170 : x_170 = wkf i1.toNatClampNeg := ex_170.trans (congrFun (hx_afS hM gqwk rfl af_qwk) _)
                                obtain rfl : x_137 = x_170 := ex_137.trans ex_170.symm
                                refine lv_idiv hx hb dX10_looks_429 (hx_ne0 ?o386) ?_
                                case o386 => omega
                                refine lv_topi (fun x_171 ex_171 => ?_)
                                have hru9 : x_171.toInt = hz_ru (x_157.toInt - jw279_x_67.toInt) (wkf i1.toInt.toNat).toInt := ?o387
                                case o387 =>
                                  rw [ex_171, hx_dv (by omega) (by omega), show x_169.toInt = (x_157.toInt - jw279_x_67.toInt) + (wkf i1.toInt.toNat).toInt - 1 from by omega, show x_137.toInt = (wkf i1.toInt.toNat).toInt from by omega]
                                  refine hz_ru_m ?o388 ?o389
                                  case o388 => omega
                                  case o389 => omega
                                refine lv_goto (tgt := 434) hx hb dX10_looks_430 ?o390 ?_
                                case o390 => decide
                                refine hx_puti hx hb hts hC_10 hown hW hT (hx_S.rf (M := [(10, 70)])) (gx.S hM) tt_10 70 ?o391 rfl kw_1213 ⟨rfl, rfl, rfl⟩ rfl (x := x_171) (i32_r _) rfl rfl rfl (List.mem_singleton.mpr rfl) dX10_looks_434 (fun H locs h_172 eh_172 hW hT hs => ?_)
                                case o391 => decide
                                replace fjw88_x_71 := (hs.o (gx.S hM) trivial rfl).1.trans fjw88_x_71
                                replace fjw279_x_67 := (hs.o (gx.S hM) trivial rfl).1.trans fjw279_x_67
                                replace fjw330_x_68 := (hs.o (gx.S hM) trivial rfl).1.trans fjw330_x_68
                                replace fjw354_x_69 := (hs.o (gx.S hM) trivial rfl).1.trans fjw354_x_69
                                replace ex_132 := ex_132.trans (hs.a (gqod.S hM) rfl _).1.symm
                                replace ex_137 := ex_137.trans (hs.a (gqwk.S hM) rfl _).1.symm
                                replace hM := hM.tr (hs.mono ?o392)
                                case o392 => decide
                                have f_173 : h_172.2.1 x 70 = x_171 := ?o393
                                case o393 =>
                                  rw [eh_172]
                                  exact hx_pi_at _ _ _ _
                                exact join437 x_171 _ _ hL1 h_172 (i32_r _).1 (i32_r _).2 (by unfold hz_ms; rw [if_neg (by omega), ← hdu9, ← hpd9]; exact hru9) ls hW hT hM f_173 fjw88_x_71 fjw279_x_67 fjw330_x_68 fjw354_x_69  (lv_sub hl [2, 3, 4, 5, 6, 7] rfl)
                          refine lv_aload_n hx hb dX10_looks_330 rfl (lv_at hl 2 rfl) ?_
                          refine lv_aload_n hx hb dX10_looks_331 rfl (lv_at hl 2 rfl) ?_
                          refine hk_geti hx hb hts hC_10 hown hW (gx.S hM) tt_10 67 ?o394 rfl kw_1210 ⟨rfl, rfl, rfl⟩ fjw279_x_67 dX10_looks_332 ?_
                          case o394 => decide
                          refine lv_iload hx hb dX10_looks_335 (lv_at hl 0 rfl) ?_
                          refine hb_icmp_le (zx := jw279_x_67.toInt) (zy := jv279_5.toInt) (tgt := 350) hx hb rfl rfl dX10_looks_337 ?o395 (fun c_174 => ?_) (fun c_174 => ?_)
                          case o395 => decide
                          · skip
                            refine lv_iconst (v := 0) hx hb dX10_looks_350 ?o396 ?_
                            case o396 => decide
                            refine hx_puti hx hb hts hC_10 hown hW hT (hx_S.rf (M := [(10, 69)])) (gx.S hM) tt_10 69 ?o397 rfl kw_1212 ⟨rfl, rfl, rfl⟩ rfl (x := (0 : Int32)) ?o398 rfl rfl rfl (List.mem_singleton.mpr rfl) dX10_looks_351 (fun H locs h_175 eh_175 hW hT hs => ?_)
                            case o397 => decide
                            case o398 => decide
                            replace f_8 := (hs.o (gx.S hM) trivial rfl).1.trans f_8
                            replace fjw88_x_71 := (hs.o (gx.S hM) trivial rfl).1.trans fjw88_x_71
                            replace fjw279_x_67 := (hs.o (gx.S hM) trivial rfl).1.trans fjw279_x_67
                            replace fjw330_x_68 := (hs.o (gx.S hM) trivial rfl).1.trans fjw330_x_68
                            replace hM := hM.tr (hs.mono ?o399)
                            case o399 => decide
                            have f_176 : h_175.2.1 x 69 = (0 : Int32) := ?o400
                            case o400 =>
                              rw [eh_175]
                              exact hx_pi_at _ _ _ _
                            have zk_0 : (0 : Int32).toInt = 0 := ?o401
                            case o401 => decide
                            refine join354 (0 : Int32) _ _ hL1 h_175 ?o402 ?o403 (by rw [zk_0]; unfold hz_ov hz_bl; (repeat' split) <;> omega) ls hW hT hM f_176 f_8 fjw88_x_71 fjw279_x_67 fjw330_x_68  (lv_sub hl [0, 1, 2, 3, 4, 5] rfl)
                            case o402 => decide
                            case o403 => decide
                          · skip
                            refine lv_aload_n hx hb dX10_looks_340 rfl (lv_at hl 2 rfl) ?_
                            refine hk_geti hx hb hts hC_10 hown hW (gx.S hM) tt_10 67 ?o404 rfl kw_1210 ⟨rfl, rfl, rfl⟩ fjw279_x_67 dX10_looks_341 ?_
                            case o404 => decide
                            refine lv_iload hx hb dX10_looks_344 (lv_at hl 0 rfl) ?_
                            refine lv_isub hx hb dX10_looks_346 ?_
                            have rg_177 := i32_r jw279_x_67
                            have rg_178 := i32_r jv279_5
                            refine lv_topi (fun x_179 ex_179 => ?_)
                            have zx_179 : x_179.toInt = jw279_x_67.toInt - jv279_5.toInt := ?o405
                            case o405 =>
                              rw [ex_179]
                              refine i32_sub rfl rfl ?o406 ?o407
                              case o406 => omega
                              case o407 => omega
                            refine lv_goto (tgt := 351) hx hb dX10_looks_347 ?o408 ?_
                            case o408 => decide
                            refine hx_puti hx hb hts hC_10 hown hW hT (hx_S.rf (M := [(10, 69)])) (gx.S hM) tt_10 69 ?o409 rfl kw_1212 ⟨rfl, rfl, rfl⟩ rfl (x := x_179) (i32_r _) rfl rfl rfl (List.mem_singleton.mpr rfl) dX10_looks_351 (fun H locs h_180 eh_180 hW hT hs => ?_)
                            case o409 => decide
                            replace f_8 := (hs.o (gx.S hM) trivial rfl).1.trans f_8
                            replace fjw88_x_71 := (hs.o (gx.S hM) trivial rfl).1.trans fjw88_x_71
                            replace fjw279_x_67 := (hs.o (gx.S hM) trivial rfl).1.trans fjw279_x_67
                            replace fjw330_x_68 := (hs.o (gx.S hM) trivial rfl).1.trans fjw330_x_68
                            replace hM := hM.tr (hs.mono ?o410)
                            case o410 => decide
                            have f_181 : h_180.2.1 x 69 = x_179 := ?o411
                            case o411 =>
                              rw [eh_180]
                              exact hx_pi_at _ _ _ _
                            exact join354 x_179 _ _ hL1 h_180 (i32_r _).1 (i32_r _).2 (by unfold hz_ov hz_bl; (repeat' split) <;> omega) ls hW hT hM f_181 f_8 fjw88_x_71 fjw279_x_67 fjw330_x_68  (lv_sub hl [0, 1, 2, 3, 4, 5] rfl)
                        refine lv_aload_n hx hb dX10_looks_306 rfl (lv_at hl 2 rfl) ?_
                        refine lv_iload hx hb dX10_looks_307 (lv_at hl 0 rfl) ?_
                        refine lv_aload_n hx hb dX10_looks_309 rfl (lv_at hl 2 rfl) ?_
                        refine hk_geti hx hb hts hC_10 hown hW (gx.S hM) tt_10 67 ?o412 rfl kw_1210 ⟨rfl, rfl, rfl⟩ fjw279_x_67 dX10_looks_310 ?_
                        case o412 => decide
                        refine hb_icmp_le (zx := jv279_5.toInt) (zy := jw279_x_67.toInt) (tgt := 326) hx hb rfl rfl dX10_looks_313 ?o413 (fun c_182 => ?_) (fun c_182 => ?_)
                        case o413 => decide
                        · skip
                          refine lv_iconst (v := 0) hx hb dX10_looks_326 ?o414 ?_
                          case o414 => decide
                          refine hx_puti hx hb hts hC_10 hown hW hT (hx_S.rf (M := [(10, 68)])) (gx.S hM) tt_10 68 ?o415 rfl kw_1211 ⟨rfl, rfl, rfl⟩ rfl (x := (0 : Int32)) ?o416 rfl rfl rfl (List.mem_singleton.mpr rfl) dX10_looks_327 (fun H locs h_183 eh_183 hW hT hs => ?_)
                          case o415 => decide
                          case o416 => decide
                          replace f_6 := (hs.o (gx.S hM) trivial rfl).1.trans f_6
                          replace f_8 := (hs.o (gx.S hM) trivial rfl).1.trans f_8
                          replace fjw88_x_71 := (hs.o (gx.S hM) trivial rfl).1.trans fjw88_x_71
                          replace fjw279_x_67 := (hs.o (gx.S hM) trivial rfl).1.trans fjw279_x_67
                          replace ex_14 := ex_14.trans (hs.a (gqsv.S hM) rfl _).1.symm
                          replace hM := hM.tr (hs.mono ?o417)
                          case o417 => decide
                          have f_184 : h_183.2.1 x 68 = (0 : Int32) := ?o418
                          case o418 =>
                            rw [eh_183]
                            exact hx_pi_at _ _ _ _
                          have zk_0 : (0 : Int32).toInt = 0 := ?o419
                          case o419 => decide
                          refine join330 (0 : Int32) _ _ hL1 h_183 ?o420 ?o421 (by rw [zk_0]; unfold hz_rs hz_bl; (repeat' split) <;> omega) ls hW hT hM f_184 f_6 f_8 fjw88_x_71 fjw279_x_67  (lv_sub hl [0, 1, 2, 3, 4, 5] rfl)
                          case o420 => decide
                          case o421 => decide
                        · skip
                          refine lv_iload hx hb dX10_looks_316 (lv_at hl 0 rfl) ?_
                          refine lv_aload_n hx hb dX10_looks_318 rfl (lv_at hl 2 rfl) ?_
                          refine hk_geti hx hb hts hC_10 hown hW (gx.S hM) tt_10 67 ?o422 rfl kw_1210 ⟨rfl, rfl, rfl⟩ fjw279_x_67 dX10_looks_319 ?_
                          case o422 => decide
                          refine lv_isub hx hb dX10_looks_322 ?_
                          have rg_185 := i32_r jv279_5
                          have rg_186 := i32_r jw279_x_67
                          refine lv_topi (fun x_187 ex_187 => ?_)
                          have zx_187 : x_187.toInt = jv279_5.toInt - jw279_x_67.toInt := ?o423
                          case o423 =>
                            rw [ex_187]
                            refine i32_sub rfl rfl ?o424 ?o425
                            case o424 => omega
                            case o425 => omega
                          refine lv_goto (tgt := 327) hx hb dX10_looks_323 ?o426 ?_
                          case o426 => decide
                          refine hx_puti hx hb hts hC_10 hown hW hT (hx_S.rf (M := [(10, 68)])) (gx.S hM) tt_10 68 ?o427 rfl kw_1211 ⟨rfl, rfl, rfl⟩ rfl (x := x_187) ⟨?o428, ?o429⟩ rfl rfl rfl (List.mem_singleton.mpr rfl) dX10_looks_327 (fun H locs h_188 eh_188 hW hT hs => ?_)
                          case o427 => decide
                          case o428 => omega
                          case o429 => omega
                          replace f_6 := (hs.o (gx.S hM) trivial rfl).1.trans f_6
                          replace f_8 := (hs.o (gx.S hM) trivial rfl).1.trans f_8
                          replace fjw88_x_71 := (hs.o (gx.S hM) trivial rfl).1.trans fjw88_x_71
                          replace fjw279_x_67 := (hs.o (gx.S hM) trivial rfl).1.trans fjw279_x_67
                          replace ex_14 := ex_14.trans (hs.a (gqsv.S hM) rfl _).1.symm
                          replace hM := hM.tr (hs.mono ?o430)
                          case o430 => decide
                          have f_189 : h_188.2.1 x 68 = x_187 := ?o431
                          case o431 =>
                            rw [eh_188]
                            exact hx_pi_at _ _ _ _
                          refine join330 x_187 _ _ hL1 h_188 ?o432 ?o433 (by unfold hz_rs hz_bl; (repeat' split) <;> omega) ls hW hT hM f_189 f_6 f_8 fjw88_x_71 fjw279_x_67  (lv_sub hl [0, 1, 2, 3, 4, 5] rfl)
                          case o432 => omega
                          case o433 => omega
                      · skip
                        refine lv_aload_n hx hb dX10_looks_299 rfl (lv_at hl 2 rfl) ?_
                        refine lv_bipush (v := 8) hx hb dX10_looks_300 ?o434 ?_
                        case o434 => decide
                        refine hx_puti hx hb hts hC_10 hown hW hT (hx_S.rf (M := [(10, 71)])) (gx.S hM) tt_10 71 ?o435 rfl kw_1214 ⟨rfl, rfl, rfl⟩ rfl (x := (8 : Int32)) ?o436 rfl rfl rfl (List.mem_singleton.mpr rfl) dX10_looks_302 (fun H locs h_190 eh_190 hW hT hs => ?_)
                        case o435 => decide
                        case o436 => decide
                        replace f_4 := (hs.o (gx.S hM) trivial rfl).1.trans f_4
                        replace f_6 := (hs.o (gx.S hM) trivial rfl).1.trans f_6
                        replace f_8 := (hs.o (gx.S hM) trivial rfl).1.trans f_8
                        replace fjw279_x_67 := (hs.o (gx.S hM) trivial rfl).1.trans fjw279_x_67
                        replace ex_14 := ex_14.trans (hs.a (gqsv.S hM) rfl _).1.symm
                        replace hM := hM.tr (hs.mono ?o437)
                        case o437 => decide
                        have f_191 : h_190.2.1 x 71 = (8 : Int32) := ?o438
                        case o438 =>
                          rw [eh_190]
                          exact hx_pi_at _ _ _ _
                        have zo_0 : (0 : Int32).toInt = 0 := ?o439
                        case o439 => decide
                        have zo_0 : (0 : Int32).toInt = 0 := ?o440
                        case o440 => decide
                        have zo_0 : (0 : Int32).toInt = 0 := ?o441
                        case o441 => decide
                        have zo_8 : (8 : Int32).toInt = 8 := ?o442
                        case o442 => decide
                        exact hx_retv hx hb hr hlk hW ⟨⟨jw279_x_67, (0 : Int32), (0 : Int32), (0 : Int32), (8 : Int32), fjw279_x_67, f_4, f_6, f_8, f_191, (by have zr_0 : (0 : Int32).toInt = 0 := (by decide); have zr_8 : (8 : Int32).toInt = 8 := (by decide); exact ⟨(by omega), (by unfold hz_rs; (repeat' split) <;> omega), (by unfold hz_ov; (repeat' split) <;> omega), (by unfold hz_ms; rw [if_pos (by omega)]; omega), (by unfold hz_st; rw [if_neg (by omega), if_pos (by omega)]; omega)⟩)⟩, hT, hM⟩ dX10_looks_305
                  have hpx : fw139_x_67.toInt = hx_ps pof pdf psm pkf pst i2.toInt i3.toInt i1.toInt pm0.toInt.toNat := ?o443
                  case o443 =>
                    rw [show pm0.toInt = iv139_5.toInt from by omega]
                    exact vi139_1
                  refine lv_aload_n hx hb dX10_looks_225 rfl (lv_at hl 2 rfl) ?_
                  refine lv_dup hx hb dX10_looks_226 rfl ?_
                  refine hk_geti hx hb hts hC_10 hown hW (gx.S hM) tt_10 67 ?o444 rfl kw_1210 ⟨rfl, rfl, rfl⟩ ffw139_x_67 dX10_looks_227 ?_
                  case o444 => decide
                  refine lv_iload hx hb dX10_looks_230 (lv_at hl 1 rfl) ?_
                  refine hb_if_eq (zx := jv136_4.toInt) (tgt := 244) hx hb rfl dX10_looks_232 ?o445 (fun c_192 => ?_) (fun c_192 => ?_)
                  case o445 => decide
                  · skip
                    refine lv_iconst (v := 0) hx hb dX10_looks_244 ?o446 ?_
                    case o446 => decide
                    refine lv_iadd hx hb dX10_looks_245 ?_
                    have rg_193 := i32_r fw139_x_67
                    refine lv_topi (fun x_194 ex_194 => ?_)
                    have zx_194 : x_194.toInt = fw139_x_67.toInt + 0 := ?o447
                    case o447 =>
                      rw [ex_194]
                      refine i32_add rfl ?o448 ?o449 ?o450
                      case o448 => decide
                      case o449 => omega
                      case o450 => omega
                    refine hx_puti hx hb hts hC_10 hown hW hT (hx_S.rf (M := [(10, 67)])) (gx.S hM) tt_10 67 ?o451 rfl kw_1210 ⟨rfl, rfl, rfl⟩ rfl (x := x_194) ⟨?o452, ?o453⟩ rfl rfl rfl (List.mem_singleton.mpr rfl) dX10_looks_246 (fun H locs h_195 eh_195 hW hT hs => ?_)
                    case o451 => decide
                    case o452 => omega
                    case o453 => omega
                    replace f_4 := (hs.o (gx.S hM) trivial rfl).1.trans f_4
                    replace f_6 := (hs.o (gx.S hM) trivial rfl).1.trans f_6
                    replace f_8 := (hs.o (gx.S hM) trivial rfl).1.trans f_8
                    replace fjw88_x_71 := (hs.o (gx.S hM) trivial rfl).1.trans fjw88_x_71
                    replace hM := hM.tr (hs.mono ?o454)
                    case o454 => decide
                    have f_196 : h_195.2.1 x 67 = x_194 := ?o455
                    case o455 =>
                      rw [eh_195]
                      exact hx_pi_at _ _ _ _
                    refine lv_aload_n hx hb dX10_looks_249 rfl (lv_at hl 2 rfl) ?_
                    refine hk_getr hx hb hts hC_10 hown hW (gx.S hM) tt_10 55 ?o456 rfl kw_1198 ⟨rfl, rfl, rfl⟩ ((hM.o gx trivial rfl).2.trans f_x_55) dX10_looks_250 ?_
                    case o456 => decide
                    refine lv_iload_n hx hb dX10_looks_253 rfl (lv_at hl 3 rfl) ?_
                    refine hx_iald hx hb hW hT (gqow.S hM) tt_90 rfl ⟨?o457, ?o458⟩ dX10_looks_254 (fun x_197 ex_197 lx_197 ux_197 => ?_)
                    case o457 => omega
                    case o458 => omega
                    have ax_197 : x_197 = owf i1.toNatClampNeg := ex_197.trans (congrFun (hx_afS hM gqow rfl af_qow) _)
                    have sx_197 : x_197.toInt = (owf i1.toInt.toNat).toInt := congrArg Int32.toInt ax_197
                    refine lv_iload hx hb dX10_looks_255 (lv_at hl 1 rfl) ?_
                    refine hb_if_eq (zx := jv136_4.toInt) (tgt := 275) hx hb rfl dX10_looks_257 ?o459 (fun c_198 => ?_) (fun c_198 => ?o460)
                    case o459 => decide
                    case o460 =>
                      exfalso
                      omega
                    refine lv_iconst (v := 0) hx hb dX10_looks_275 ?o461 ?_
                    case o461 => decide
                    refine lv_iadd hx hb dX10_looks_276 ?_
                    have rg_199 := i32_r x_197
                    refine lv_topi (fun x_200 ex_200 => ?_)
                    have zx_200 : x_200.toInt = x_197.toInt + 0 := ?o462
                    case o462 =>
                      rw [ex_200]
                      refine i32_add rfl ?o463 ?o464 ?o465
                      case o463 => decide
                      case o464 => omega
                      case o465 => omega
                    refine lv_istore (lv' := [(5, .int x_200), (4, .int jv136_4), (0, .ref x), (1, .int i1), (2, .int i2), (3, .int i3)]) hx hb dX10_looks_277 hl ?o466 rfl (fun ls hl => ?_)
                    case o466 => decide
                    refine join279 x_200 x_194 _ _ hL1 h_195 ?o467 ?o468 ?o469 ?o470 (by unfold hz_pdy; (repeat' split) <;> omega) (by unfold hz_al; (repeat' split) <;> omega) ls hW hT hM f_196 f_4 f_6 f_8 fjw88_x_71  (lv_sub hl [0, 1, 2, 3, 4, 5] rfl)
                    case o467 => omega
                    case o468 => omega
                    case o469 => omega
                    case o470 => omega
                  · skip
                    refine lv_aload_n hx hb dX10_looks_235 rfl (lv_at hl 2 rfl) ?_
                    refine hk_getr hx hb hts hC_10 hown hW (gx.S hM) tt_10 56 ?o471 rfl kw_1199 ⟨rfl, rfl, rfl⟩ ((hM.o gx trivial rfl).2.trans f_x_56) dX10_looks_236 ?_
                    case o471 => decide
                    refine lv_iload_n hx hb dX10_looks_239 rfl (lv_at hl 3 rfl) ?_
                    refine hx_iald hx hb hW hT (gqgd.S hM) tt_91 rfl ⟨?o472, ?o473⟩ dX10_looks_240 (fun x_201 ex_201 lx_201 ux_201 => ?_)
                    case o472 => omega
                    case o473 => omega
                    have ax_201 : x_201 = gdf i1.toNatClampNeg := ex_201.trans (congrFun (hx_afS hM gqgd rfl af_qgd) _)
                    have sx_201 : x_201.toInt = (gdf i1.toInt.toNat).toInt := congrArg Int32.toInt ax_201
                    refine lv_goto (tgt := 245) hx hb dX10_looks_241 ?o474 ?_
                    case o474 => decide
                    refine lv_iadd hx hb dX10_looks_245 ?_
                    have rg_202 := i32_r fw139_x_67
                    have rg_203 := i32_r x_201
                    refine lv_topi (fun x_204 ex_204 => ?_)
                    have zx_204 : x_204.toInt = fw139_x_67.toInt + x_201.toInt := ?o475
                    case o475 =>
                      rw [ex_204]
                      refine i32_add rfl rfl ?o476 ?o477
                      case o476 => omega
                      case o477 => omega
                    refine hx_puti hx hb hts hC_10 hown hW hT (hx_S.rf (M := [(10, 67)])) (gx.S hM) tt_10 67 ?o478 rfl kw_1210 ⟨rfl, rfl, rfl⟩ rfl (x := x_204) ⟨?o479, ?o480⟩ rfl rfl rfl (List.mem_singleton.mpr rfl) dX10_looks_246 (fun H locs h_205 eh_205 hW hT hs => ?_)
                    case o478 => decide
                    case o479 => omega
                    case o480 => omega
                    replace f_4 := (hs.o (gx.S hM) trivial rfl).1.trans f_4
                    replace f_6 := (hs.o (gx.S hM) trivial rfl).1.trans f_6
                    replace f_8 := (hs.o (gx.S hM) trivial rfl).1.trans f_8
                    replace fjw88_x_71 := (hs.o (gx.S hM) trivial rfl).1.trans fjw88_x_71
                    replace ex_201 := ex_201.trans (hs.a (gqgd.S hM) rfl _).1.symm
                    replace hM := hM.tr (hs.mono ?o481)
                    case o481 => decide
                    have f_206 : h_205.2.1 x 67 = x_204 := ?o482
                    case o482 =>
                      rw [eh_205]
                      exact hx_pi_at _ _ _ _
                    refine lv_aload_n hx hb dX10_looks_249 rfl (lv_at hl 2 rfl) ?_
                    refine hk_getr hx hb hts hC_10 hown hW (gx.S hM) tt_10 55 ?o483 rfl kw_1198 ⟨rfl, rfl, rfl⟩ ((hM.o gx trivial rfl).2.trans f_x_55) dX10_looks_250 ?_
                    case o483 => decide
                    refine lv_iload_n hx hb dX10_looks_253 rfl (lv_at hl 3 rfl) ?_
                    refine hx_iald hx hb hW hT (gqow.S hM) tt_90 rfl ⟨?o484, ?o485⟩ dX10_looks_254 (fun x_207 ex_207 lx_207 ux_207 => ?_)
                    case o484 => omega
                    case o485 => omega
                    have ax_207 : x_207 = owf i1.toNatClampNeg := ex_207.trans (congrFun (hx_afS hM gqow rfl af_qow) _)
                    have sx_207 : x_207.toInt = (owf i1.toInt.toNat).toInt := congrArg Int32.toInt ax_207
                    refine lv_iload hx hb dX10_looks_255 (lv_at hl 1 rfl) ?_
                    refine hb_if_eq (zx := jv136_4.toInt) (tgt := 275) hx hb rfl dX10_looks_257 ?o486 (fun c_208 => ?o487) (fun c_208 => ?_)
                    case o486 => decide
                    case o487 =>
                      exfalso
                      omega
                    refine lv_aload_n hx hb dX10_looks_260 rfl (lv_at hl 2 rfl) ?_
                    refine lv_aload_n hx hb dX10_looks_261 rfl (lv_at hl 2 rfl) ?_
                    refine hk_getr hx hb hts hC_10 hown hW (gx.S hM) tt_10 44 ?o488 rfl kw_1187 ⟨rfl, rfl, rfl⟩ ((hM.o gx trivial rfl).2.trans f_x_44) dX10_looks_262 ?_
                    case o488 => decide
                    refine lv_iload_n hx hb dX10_looks_265 rfl (lv_at hl 3 rfl) ?_
                    refine hx_iald hx hb hW hT (gqpl.S hM) tt_79 rfl ⟨?o489, ?o490⟩ dX10_looks_266 (fun x_209 ex_209 lx_209 ux_209 => ?_)
                    case o489 => omega
                    case o490 => omega
                    have ax_209 : x_209 = plf i1.toNatClampNeg := ex_209.trans (congrFun (hx_afS hM gqpl rfl af_qpl) _)
                    refine lv_bipush (v := 12) hx hb dX10_looks_267 ?o491 ?_
                    case o491 => decide
                    have zc_12 : (12 : Int32).toInt = 12 := ?o492
                    case o492 => decide
                    refine hx_goi (hx_runV (As := [.int x_209, .int (12 : Int32)]) (rest := [.int x_207]) ⟨hx, hb, hml, hown, hts⟩ hW (gx.S hM) tt_10 (T := TX10) (N := 98) rfl (t_X10_ruleOf_v l dC dI dA hL1 h_205 H.size x x_209 (12 : Int32) hT (gx.S hM) qru (gqru.S hM) ((hM.o gx trivial rfl).2.trans f_x_3) rlf (hx_afS hM gqru rfl af_qru) ⟨?o493, ?o494⟩ ?o495) (cwV 2 hts (hx_gV kw_1533 kw_1530 kw_1532 kw_66 kw_103) rfl rfl rfl (by decide +kernel) ⟨Nat.le_of_ble_eq_true rfl, Nat.le_of_ble_eq_true rfl⟩) rfl hl.1 rfl (Nat.le_of_ble_eq_true rfl) dX10_looks_269 ⟨Nat.le_of_ble_eq_true rfl, Nat.le_of_ble_eq_true rfl⟩) hW (fun r_212 L_210 h_211 H locs p_213 hW => ?_)
                    case o493 => omega
                    case o494 => omega
                    case o495 => decide
                    obtain ⟨hr_214, hT, hs⟩ := p_213
                    replace hT : hx_T T_tb L_210 h_211 := hT
                    replace hs : hx_S T_tb [] hL1 h_205 L_210 h_211 := hs
                    replace f_4 := (hs.o (gx.S hM) trivial rfl).1.trans f_4
                    replace f_6 := (hs.o (gx.S hM) trivial rfl).1.trans f_6
                    replace f_8 := (hs.o (gx.S hM) trivial rfl).1.trans f_8
                    replace fjw88_x_71 := (hs.o (gx.S hM) trivial rfl).1.trans fjw88_x_71
                    replace f_206 := (hs.o (gx.S hM) trivial rfl).1.trans f_206
                    replace ex_201 := ex_201.trans (hs.a (gqgd.S hM) rfl _).1.symm
                    replace ex_207 := ex_207.trans (hs.a (gqow.S hM) rfl _).1.symm
                    replace ex_209 := ex_209.trans (hs.a (gqpl.S hM) rfl _).1.symm
                    replace hM := hM.tr (hs.mono ?o496)
                    case o496 => decide
                    have hR_215 : r_212.toInt = R 12 := ?o497
                    case o497 =>
                      rw [hr_214.1, ax_209, show (12 : Int32).toInt.toNat = 12 from by decide]
                      refine hRr 12 ?o498
                      case o498 => decide
                    refine lv_goto (tgt := 276) hx hb dX10_looks_272 ?o499 ?_
                    case o499 => decide
                    refine lv_iadd hx hb dX10_looks_276 ?_
                    have rg_216 := i32_r x_207
                    have rg_217 := i32_r r_212
                    refine lv_topi (fun x_218 ex_218 => ?_)
                    have zx_218 : x_218.toInt = x_207.toInt + r_212.toInt := ?o500
                    case o500 =>
                      rw [ex_218]
                      refine i32_add rfl rfl ?o501 ?o502
                      case o501 => omega
                      case o502 => omega
                    refine lv_istore (lv' := [(5, .int x_218), (4, .int jv136_4), (0, .ref x), (1, .int i1), (2, .int i2), (3, .int i3)]) hx hb dX10_looks_277 hl ?o503 rfl (fun ls hl => ?_)
                    case o503 => decide
                    refine join279 x_218 x_204 _ _ L_210 h_211 ?o504 ?o505 ?o506 ?o507 (by unfold hz_pdy; (repeat' split) <;> omega) (by unfold hz_al; rw [← hR_215]; (repeat' split) <;> omega) ls hW hT hM f_206 f_4 f_6 f_8 fjw88_x_71  (lv_sub hl [0, 1, 2, 3, 4, 5] rfl)
                    case o504 => omega
                    case o505 => omega
                    case o506 => omega
                    case o507 => omega
                · skip
                  refine lv_aload_n hx hb dX10_looks_148 rfl (lv_at hl 2 rfl) ?_
                  refine hk_getr hx hb hts hC_10 hown hW (gx.S hM) tt_10 60 ?o508 rfl kw_1203 ⟨rfl, rfl, rfl⟩ ((hM.o gx trivial rfl).2.trans f_x_60) dX10_looks_149 ?_
                  case o508 => decide
                  refine lv_iload hx hb dX10_looks_152 (lv_at hl 0 rfl) ?_
                  refine hx_iald hx hb hW hT (gqpo.S hM) tt_93 rfl ⟨?o509, ?o510⟩ dX10_looks_154 (fun x_219 ex_219 lx_219 ux_219 => ?_)
                  case o509 => omega
                  case o510 => omega
                  have ax_219 : x_219 = pof iv139_5.toNatClampNeg := ex_219.trans (congrFun (hx_afS hM gqpo rfl af_qpo) _)
                  refine lv_iload_n hx hb dX10_looks_155 rfl (lv_at hl 3 rfl) ?_
                  refine hb_icmp_ne (zx := x_219.toInt) (zy := i1.toInt) (tgt := 219) hx hb rfl rfl dX10_looks_156 ?o511 (fun c_220 => ?_) (fun c_220 => ?_)
                  case o511 => decide
                  · skip
                    obtain ⟨x_221, ex_221⟩ : ∃ y : Int32, y = iv139_5 + Int32.ofInt 1 := ⟨_, rfl⟩
                    have rg_222 := i32_r iv139_5
                    have zx_221 : x_221.toInt = iv139_5.toInt + (1) := ?o512
                    case o512 =>
                      rw [ex_221]
                      refine i32_add rfl ?o513 ?o514 ?o515
                      case o513 => decide
                      case o514 => omega
                      case o515 => omega
                    refine lv_iinc (v := x_221) (lv' := [(5, .int x_221), (4, .int jv136_4), (0, .ref x), (1, .int i1), (2, .int i2), (3, .int i3)]) hx hb dX10_looks_219 hl (k := 0) rfl ex_221.symm ?o516 rfl (fun ls hl => ?_)
                    case o516 => decide
                    refine lv_goto (tgt := 139) hx hb dX10_looks_222 ?o517 ?_
                    case o517 => decide
                    exact ih139 x_221 fw139_x_67 _ _ hL1 hl1 (by omega) (by omega) (by omega) (by omega) (by omega) (by first | exact hx_ps_no1 vi139_1 (by omega) zx_221 ax_219 rfl (by omega)) (by omega) ls (by omega) hW hT hM ffw139_x_67 f_4 f_6 f_8 fjw88_x_71  (lv_sub hl [0, 1, 2, 3, 4, 5] rfl)
                  · skip
                    refine lv_aload_n hx hb dX10_looks_159 rfl (lv_at hl 2 rfl) ?_
                    refine hk_getr hx hb hts hC_10 hown hW (gx.S hM) tt_10 61 ?o518 rfl kw_1204 ⟨rfl, rfl, rfl⟩ ((hM.o gx trivial rfl).2.trans f_x_61) dX10_looks_160 ?_
                    case o518 => decide
                    refine lv_iload hx hb dX10_looks_163 (lv_at hl 0 rfl) ?_
                    refine hx_iald hx hb hW hT (gqpd.S hM) tt_94 rfl ⟨?o519, ?o520⟩ dX10_looks_165 (fun x_223 ex_223 lx_223 ux_223 => ?_)
                    case o519 => omega
                    case o520 => omega
                    have ax_223 : x_223 = pdf iv139_5.toNatClampNeg := ex_223.trans (congrFun (hx_afS hM gqpd rfl af_qpd) _)
                    refine lv_iload_n hx hb dX10_looks_166 rfl (lv_at hl 4 rfl) ?_
                    refine hb_icmp_gt (zx := x_223.toInt) (zy := i2.toInt) (tgt := 219) hx hb rfl rfl dX10_looks_167 ?o521 (fun c_224 => ?_) (fun c_224 => ?_)
                    case o521 => decide
                    · skip
                      obtain ⟨x_225, ex_225⟩ : ∃ y : Int32, y = iv139_5 + Int32.ofInt 1 := ⟨_, rfl⟩
                      have rg_226 := i32_r iv139_5
                      have zx_225 : x_225.toInt = iv139_5.toInt + (1) := ?o522
                      case o522 =>
                        rw [ex_225]
                        refine i32_add rfl ?o523 ?o524 ?o525
                        case o523 => decide
                        case o524 => omega
                        case o525 => omega
                      refine lv_iinc (v := x_225) (lv' := [(5, .int x_225), (4, .int jv136_4), (0, .ref x), (1, .int i1), (2, .int i2), (3, .int i3)]) hx hb dX10_looks_219 hl (k := 0) rfl ex_225.symm ?o526 rfl (fun ls hl => ?_)
                      case o526 => decide
                      refine lv_goto (tgt := 139) hx hb dX10_looks_222 ?o527 ?_
                      case o527 => decide
                      exact ih139 x_225 fw139_x_67 _ _ hL1 hl1 (by omega) (by omega) (by omega) (by omega) (by omega) (by first | exact hx_ps_no2 vi139_1 (by omega) zx_225 ax_223 rfl (by omega) | exact hx_ps_no1 vi139_1 (by omega) zx_225 ax_219 rfl (by omega)) (by omega) ls (by omega) hW hT hM ffw139_x_67 f_4 f_6 f_8 fjw88_x_71  (lv_sub hl [0, 1, 2, 3, 4, 5] rfl)
                    · skip
                      refine lv_aload_n hx hb dX10_looks_170 rfl (lv_at hl 2 rfl) ?_
                      refine hk_getr hx hb hts hC_10 hown hW (gx.S hM) tt_10 63 ?o528 rfl kw_1206 ⟨rfl, rfl, rfl⟩ ((hM.o gx trivial rfl).2.trans f_x_63) dX10_looks_171 ?_
                      case o528 => decide
                      refine lv_iload hx hb dX10_looks_174 (lv_at hl 0 rfl) ?_
                      refine hx_iald hx hb hW hT (gqpk.S hM) tt_96 rfl ⟨?o529, ?o530⟩ dX10_looks_176 (fun x_227 ex_227 lx_227 ux_227 => ?_)
                      case o529 => omega
                      case o530 => omega
                      have ax_227 : x_227 = pkf iv139_5.toNatClampNeg := ex_227.trans (congrFun (hx_afS hM gqpk rfl af_qpk) _)
                      refine lv_iload_n hx hb dX10_looks_177 rfl (lv_at hl 5 rfl) ?_
                      refine hb_icmp_gt (zx := x_227.toInt) (zy := i3.toInt) (tgt := 219) hx hb rfl rfl dX10_looks_178 ?o531 (fun c_228 => ?_) (fun c_228 => ?_)
                      case o531 => decide
                      · skip
                        obtain ⟨x_229, ex_229⟩ : ∃ y : Int32, y = iv139_5 + Int32.ofInt 1 := ⟨_, rfl⟩
                        have rg_230 := i32_r iv139_5
                        have zx_229 : x_229.toInt = iv139_5.toInt + (1) := ?o532
                        case o532 =>
                          rw [ex_229]
                          refine i32_add rfl ?o533 ?o534 ?o535
                          case o533 => decide
                          case o534 => omega
                          case o535 => omega
                        refine lv_iinc (v := x_229) (lv' := [(5, .int x_229), (4, .int jv136_4), (0, .ref x), (1, .int i1), (2, .int i2), (3, .int i3)]) hx hb dX10_looks_219 hl (k := 0) rfl ex_229.symm ?o536 rfl (fun ls hl => ?_)
                        case o536 => decide
                        refine lv_goto (tgt := 139) hx hb dX10_looks_222 ?o537 ?_
                        case o537 => decide
                        exact ih139 x_229 fw139_x_67 _ _ hL1 hl1 (by omega) (by omega) (by omega) (by omega) (by omega) (by first | exact hx_ps_no3 vi139_1 (by omega) zx_229 ax_227 rfl (by omega) | exact hx_ps_no2 vi139_1 (by omega) zx_229 ax_223 rfl (by omega) | exact hx_ps_no1 vi139_1 (by omega) zx_229 ax_219 rfl (by omega)) (by omega) ls (by omega) hW hT hM ffw139_x_67 f_4 f_6 f_8 fjw88_x_71  (lv_sub hl [0, 1, 2, 3, 4, 5] rfl)
                      · skip
                        refine lv_aload_n hx hb dX10_looks_181 rfl (lv_at hl 2 rfl) ?_
                        refine hk_getr hx hb hts hC_10 hown hW (gx.S hM) tt_10 64 ?o538 rfl kw_1207 ⟨rfl, rfl, rfl⟩ ((hM.o gx trivial rfl).2.trans f_x_64) dX10_looks_182 ?_
                        case o538 => decide
                        refine lv_iload hx hb dX10_looks_185 (lv_at hl 0 rfl) ?_
                        refine hx_iald hx hb hW hT (gqpt.S hM) tt_97 rfl ⟨?o539, ?o540⟩ dX10_looks_187 (fun x_231 ex_231 lx_231 ux_231 => ?_)
                        case o539 => omega
                        case o540 => omega
                        have ax_231 : x_231 = pst iv139_5.toNatClampNeg := ex_231.trans (congrFun (hx_afS hM gqpt rfl af_qpt) _)
                        refine lv_iconst (v := -1) hx hb dX10_looks_188 ?o541 ?_
                        case o541 => decide
                        refine hb_icmp_eq (zx := x_231.toInt) (zy := (-1)) (tgt := 203) hx hb rfl ?o542 dX10_looks_189 ?o543 (fun c_232 => ?_) (fun c_232 => ?_)
                        case o542 => decide
                        case o543 => decide
                        · skip
                          refine lv_aload_n hx hb dX10_looks_203 rfl (lv_at hl 2 rfl) ?_
                          refine lv_dup hx hb dX10_looks_204 rfl ?_
                          refine hk_geti hx hb hts hC_10 hown hW (gx.S hM) tt_10 67 ?o544 rfl kw_1210 ⟨rfl, rfl, rfl⟩ ffw139_x_67 dX10_looks_205 ?_
                          case o544 => decide
                          refine lv_aload_n hx hb dX10_looks_208 rfl (lv_at hl 2 rfl) ?_
                          refine hk_getr hx hb hts hC_10 hown hW (gx.S hM) tt_10 62 ?o545 rfl kw_1205 ⟨rfl, rfl, rfl⟩ ((hM.o gx trivial rfl).2.trans f_x_62) dX10_looks_209 ?_
                          case o545 => decide
                          refine lv_iload hx hb dX10_looks_212 (lv_at hl 0 rfl) ?_
                          refine hx_iald hx hb hW hT (gqps.S hM) tt_95 rfl ⟨?o546, ?o547⟩ dX10_looks_214 (fun x_233 ex_233 lx_233 ux_233 => ?_)
                          case o546 => omega
                          case o547 => omega
                          have ax_233 : x_233 = psm iv139_5.toNatClampNeg := ex_233.trans (congrFun (hx_afS hM gqps rfl af_qps) _)
                          refine lv_iadd hx hb dX10_looks_215 ?_
                          have rg_234 := i32_r fw139_x_67
                          have rg_235 := i32_r x_233
                          refine lv_topi (fun x_236 ex_236 => ?_)
                          have zx_236 : x_236.toInt = fw139_x_67.toInt + x_233.toInt := ?o548
                          case o548 =>
                            rw [ex_236]
                            refine i32_add rfl rfl ?o549 ?o550
                            case o549 => omega
                            case o550 => omega
                          refine hx_puti hx hb hts hC_10 hown hW hT (hx_S.rf (M := [(10, 67)])) (gx.S hM) tt_10 67 ?o551 rfl kw_1210 ⟨rfl, rfl, rfl⟩ rfl (x := x_236) ⟨?o552, ?o553⟩ rfl rfl rfl (List.mem_singleton.mpr rfl) dX10_looks_216 (fun H locs h_237 eh_237 hW hT hs => ?_)
                          case o551 => decide
                          case o552 => omega
                          case o553 => omega
                          replace f_4 := (hs.o (gx.S hM) trivial rfl).1.trans f_4
                          replace f_6 := (hs.o (gx.S hM) trivial rfl).1.trans f_6
                          replace f_8 := (hs.o (gx.S hM) trivial rfl).1.trans f_8
                          replace fjw88_x_71 := (hs.o (gx.S hM) trivial rfl).1.trans fjw88_x_71
                          replace ex_219 := ex_219.trans (hs.a (gqpo.S hM) rfl _).1.symm
                          replace ex_223 := ex_223.trans (hs.a (gqpd.S hM) rfl _).1.symm
                          replace ex_227 := ex_227.trans (hs.a (gqpk.S hM) rfl _).1.symm
                          replace ex_231 := ex_231.trans (hs.a (gqpt.S hM) rfl _).1.symm
                          replace ex_233 := ex_233.trans (hs.a (gqps.S hM) rfl _).1.symm
                          replace hM := hM.tr (hs.mono ?o554)
                          case o554 => decide
                          have f_238 : h_237.2.1 x 67 = x_236 := ?o555
                          case o555 =>
                            rw [eh_237]
                            exact hx_pi_at _ _ _ _
                          obtain ⟨x_239, ex_239⟩ : ∃ y : Int32, y = iv139_5 + Int32.ofInt 1 := ⟨_, rfl⟩
                          have rg_240 := i32_r iv139_5
                          have zx_239 : x_239.toInt = iv139_5.toInt + (1) := ?o556
                          case o556 =>
                            rw [ex_239]
                            refine i32_add rfl ?o557 ?o558 ?o559
                            case o557 => decide
                            case o558 => omega
                            case o559 => omega
                          refine lv_iinc (v := x_239) (lv' := [(5, .int x_239), (4, .int jv136_4), (0, .ref x), (1, .int i1), (2, .int i2), (3, .int i3)]) hx hb dX10_looks_219 hl (k := 0) rfl ex_239.symm ?o560 rfl (fun ls hl => ?_)
                          case o560 => decide
                          refine lv_goto (tgt := 139) hx hb dX10_looks_222 ?o561 ?_
                          case o561 => decide
                          refine ih139 x_239 x_236 _ _ hL1 h_237 ?o562 ?o563 ?o564 ?o565 ?o566 (hx_ps_yes vi139_1 ?o567 zx_239 rfl ax_219 ax_223 ax_227 ax_231 ax_233 ?o568 ?o569 ?o570 ?o571 ?o572) ?o573 ls ?o574 hW hT hM f_238 f_4 f_6 f_8 fjw88_x_71  (lv_sub hl [0, 1, 2, 3, 4, 5] rfl)
                          case o562 => omega
                          case o563 => omega
                          case o564 => omega
                          case o565 => omega
                          case o566 => omega
                          case o567 => omega
                          case o568 => omega
                          case o569 => omega
                          case o570 => omega
                          case o571 => omega
                          case o572 => omega
                          case o573 => omega
                          case o574 => omega
                        · skip
                          refine lv_aload_n hx hb dX10_looks_192 rfl (lv_at hl 2 rfl) ?_
                          refine hk_getr hx hb hts hC_10 hown hW (gx.S hM) tt_10 64 ?o575 rfl kw_1207 ⟨rfl, rfl, rfl⟩ ((hM.o gx trivial rfl).2.trans f_x_64) dX10_looks_193 ?_
                          case o575 => decide
                          refine lv_iload hx hb dX10_looks_196 (lv_at hl 0 rfl) ?_
                          refine hx_iald hx hb hW hT (gqpt.S hM) tt_97 rfl ⟨?o576, ?o577⟩ dX10_looks_198 (fun x_241 ex_241 lx_241 ux_241 => ?_)
                          case o576 => omega
                          case o577 => omega
                          have ax_241 : x_241 = pst iv139_5.toNatClampNeg := ex_241.trans (congrFun (hx_afS hM gqpt rfl af_qpt) _)
                          obtain rfl : x_231 = x_241 := ex_231.trans ex_241.symm
                          refine lv_iload_n hx hb dX10_looks_199 rfl (lv_at hl 5 rfl) ?_
                          refine hb_icmp_le (zx := x_231.toInt) (zy := i3.toInt) (tgt := 219) hx hb rfl rfl dX10_looks_200 ?o578 (fun c_242 => ?_) (fun c_242 => ?_)
                          case o578 => decide
                          · skip
                            obtain ⟨x_243, ex_243⟩ : ∃ y : Int32, y = iv139_5 + Int32.ofInt 1 := ⟨_, rfl⟩
                            have rg_244 := i32_r iv139_5
                            have zx_243 : x_243.toInt = iv139_5.toInt + (1) := ?o579
                            case o579 =>
                              rw [ex_243]
                              refine i32_add rfl ?o580 ?o581 ?o582
                              case o580 => decide
                              case o581 => omega
                              case o582 => omega
                            refine lv_iinc (v := x_243) (lv' := [(5, .int x_243), (4, .int jv136_4), (0, .ref x), (1, .int i1), (2, .int i2), (3, .int i3)]) hx hb dX10_looks_219 hl (k := 0) rfl ex_243.symm ?o583 rfl (fun ls hl => ?_)
                            case o583 => decide
                            refine lv_goto (tgt := 139) hx hb dX10_looks_222 ?o584 ?_
                            case o584 => decide
                            exact ih139 x_243 fw139_x_67 _ _ hL1 hl1 (by omega) (by omega) (by omega) (by omega) (by omega) (by first | exact hx_ps_no4 vi139_1 (by omega) zx_243 ax_231 rfl (by omega) (by omega) | exact hx_ps_no3 vi139_1 (by omega) zx_243 ax_227 rfl (by omega) | exact hx_ps_no2 vi139_1 (by omega) zx_243 ax_223 rfl (by omega) | exact hx_ps_no1 vi139_1 (by omega) zx_243 ax_219 rfl (by omega)) (by omega) ls (by omega) hW hT hM ffw139_x_67 f_4 f_6 f_8 fjw88_x_71  (lv_sub hl [0, 1, 2, 3, 4, 5] rfl)
                          · skip
                            refine lv_aload_n hx hb dX10_looks_203 rfl (lv_at hl 2 rfl) ?_
                            refine lv_dup hx hb dX10_looks_204 rfl ?_
                            refine hk_geti hx hb hts hC_10 hown hW (gx.S hM) tt_10 67 ?o585 rfl kw_1210 ⟨rfl, rfl, rfl⟩ ffw139_x_67 dX10_looks_205 ?_
                            case o585 => decide
                            refine lv_aload_n hx hb dX10_looks_208 rfl (lv_at hl 2 rfl) ?_
                            refine hk_getr hx hb hts hC_10 hown hW (gx.S hM) tt_10 62 ?o586 rfl kw_1205 ⟨rfl, rfl, rfl⟩ ((hM.o gx trivial rfl).2.trans f_x_62) dX10_looks_209 ?_
                            case o586 => decide
                            refine lv_iload hx hb dX10_looks_212 (lv_at hl 0 rfl) ?_
                            refine hx_iald hx hb hW hT (gqps.S hM) tt_95 rfl ⟨?o587, ?o588⟩ dX10_looks_214 (fun x_245 ex_245 lx_245 ux_245 => ?_)
                            case o587 => omega
                            case o588 => omega
                            have ax_245 : x_245 = psm iv139_5.toNatClampNeg := ex_245.trans (congrFun (hx_afS hM gqps rfl af_qps) _)
                            refine lv_iadd hx hb dX10_looks_215 ?_
                            have rg_246 := i32_r fw139_x_67
                            have rg_247 := i32_r x_245
                            refine lv_topi (fun x_248 ex_248 => ?_)
                            have zx_248 : x_248.toInt = fw139_x_67.toInt + x_245.toInt := ?o589
                            case o589 =>
                              rw [ex_248]
                              refine i32_add rfl rfl ?o590 ?o591
                              case o590 => omega
                              case o591 => omega
                            refine hx_puti hx hb hts hC_10 hown hW hT (hx_S.rf (M := [(10, 67)])) (gx.S hM) tt_10 67 ?o592 rfl kw_1210 ⟨rfl, rfl, rfl⟩ rfl (x := x_248) ⟨?o593, ?o594⟩ rfl rfl rfl (List.mem_singleton.mpr rfl) dX10_looks_216 (fun H locs h_249 eh_249 hW hT hs => ?_)
                            case o592 => decide
                            case o593 => omega
                            case o594 => omega
                            replace f_4 := (hs.o (gx.S hM) trivial rfl).1.trans f_4
                            replace f_6 := (hs.o (gx.S hM) trivial rfl).1.trans f_6
                            replace f_8 := (hs.o (gx.S hM) trivial rfl).1.trans f_8
                            replace fjw88_x_71 := (hs.o (gx.S hM) trivial rfl).1.trans fjw88_x_71
                            replace ex_219 := ex_219.trans (hs.a (gqpo.S hM) rfl _).1.symm
                            replace ex_223 := ex_223.trans (hs.a (gqpd.S hM) rfl _).1.symm
                            replace ex_227 := ex_227.trans (hs.a (gqpk.S hM) rfl _).1.symm
                            replace ex_231 := ex_231.trans (hs.a (gqpt.S hM) rfl _).1.symm
                            replace ex_245 := ex_245.trans (hs.a (gqps.S hM) rfl _).1.symm
                            replace hM := hM.tr (hs.mono ?o595)
                            case o595 => decide
                            have f_250 : h_249.2.1 x 67 = x_248 := ?o596
                            case o596 =>
                              rw [eh_249]
                              exact hx_pi_at _ _ _ _
                            obtain ⟨x_251, ex_251⟩ : ∃ y : Int32, y = iv139_5 + Int32.ofInt 1 := ⟨_, rfl⟩
                            have rg_252 := i32_r iv139_5
                            have zx_251 : x_251.toInt = iv139_5.toInt + (1) := ?o597
                            case o597 =>
                              rw [ex_251]
                              refine i32_add rfl ?o598 ?o599 ?o600
                              case o598 => decide
                              case o599 => omega
                              case o600 => omega
                            refine lv_iinc (v := x_251) (lv' := [(5, .int x_251), (4, .int jv136_4), (0, .ref x), (1, .int i1), (2, .int i2), (3, .int i3)]) hx hb dX10_looks_219 hl (k := 0) rfl ex_251.symm ?o601 rfl (fun ls hl => ?_)
                            case o601 => decide
                            refine lv_goto (tgt := 139) hx hb dX10_looks_222 ?o602 ?_
                            case o602 => decide
                            refine ih139 x_251 x_248 _ _ hL1 h_249 ?o603 ?o604 ?o605 ?o606 ?o607 (hx_ps_yes vi139_1 ?o608 zx_251 rfl ax_219 ax_223 ax_227 ax_231 ax_245 ?o609 ?o610 ?o611 ?o612 ?o613) ?o614 ls ?o615 hW hT hM f_250 f_4 f_6 f_8 fjw88_x_71  (lv_sub hl [0, 1, 2, 3, 4, 5] rfl)
                            case o603 => omega
                            case o604 => omega
                            case o605 => omega
                            case o606 => omega
                            case o607 => omega
                            case o608 => omega
                            case o609 => omega
                            case o610 => omega
                            case o611 => omega
                            case o612 => omega
                            case o613 => omega
                            case o614 => omega
                            case o615 => omega
            have zk_0 : (0 : Int32).toInt = 0 := ?o616
            case o616 => decide
            have zk_0 : (0 : Int32).toInt = 0 := ?o617
            case o617 => decide
            refine loop139 601 (0 : Int32) (0 : Int32) _ _ hL1 hl1 ?o618 ?o619 ?o620 ?o621 ?o622 rfl ?o623 ls ?o624 hW hT hM f_2 f_4 f_6 f_8 fjw88_x_71  hl
            case o618 => decide
            case o619 => decide
            case o620 => decide
            case o621 => decide
            case o622 => omega
            case o623 => omega
            case o624 => omega
          refine lv_aload_n hx hb dX10_looks_109 rfl (lv_at hl 0 rfl) ?_
          refine hk_getr hx hb hts hC_10 hown hW (gx.S hM) tt_10 49 ?o625 rfl kw_1192 ⟨rfl, rfl, rfl⟩ ((hM.o gx trivial rfl).2.trans f_x_49) dX10_looks_110 ?_
          case o625 => decide
          refine lv_iload_n hx hb dX10_looks_113 rfl (lv_at hl 1 rfl) ?_
          refine hx_iald hx hb hW hT (gqsz.S hM) tt_84 rfl ⟨?o626, ?o627⟩ dX10_looks_114 (fun x_253 ex_253 lx_253 ux_253 => ?_)
          case o626 => omega
          case o627 => omega
          have ax_253 : x_253 = szf i1.toNatClampNeg := ex_253.trans (congrFun (hx_afS hM gqsz rfl af_qsz) _)
          have sx_253 : x_253.toInt = (szf i1.toInt.toNat).toInt := congrArg Int32.toInt ax_253
          refine lv_iconst (v := -1) hx hb dX10_looks_115 ?o628 ?_
          case o628 => decide
          refine hb_icmp_eq (zx := x_253.toInt) (zy := (-1)) (tgt := 133) hx hb rfl ?o629 dX10_looks_116 ?o630 (fun c_254 => ?_) (fun c_254 => ?_)
          case o629 => decide
          case o630 => decide
          · skip
            refine lv_iconst (v := 0) hx hb dX10_looks_133 ?o631 ?_
            case o631 => decide
            refine lv_istore (lv' := [(4, .int (0 : Int32)), (0, .ref x), (1, .int i1), (2, .int i2), (3, .int i3)]) hx hb dX10_looks_134 hl ?o632 rfl (fun ls hl => ?_)
            case o632 => decide
            have zk_0 : (0 : Int32).toInt = 0 := ?o633
            case o633 => decide
            refine join136 (0 : Int32) _ _ hL1 hl1 ?o634 ?o635 ?o636 ls hW hT hM f_2 f_4 f_6 f_8 fjw88_x_71  (lv_sub hl [0, 1, 2, 3, 4] rfl)
            case o634 => decide
            case o635 => decide
            case o636 => omega
          · skip
            refine lv_aload_n hx hb dX10_looks_119 rfl (lv_at hl 0 rfl) ?_
            refine hk_getr hx hb hts hC_10 hown hW (gx.S hM) tt_10 49 ?o637 rfl kw_1192 ⟨rfl, rfl, rfl⟩ ((hM.o gx trivial rfl).2.trans f_x_49) dX10_looks_120 ?_
            case o637 => decide
            refine lv_iload_n hx hb dX10_looks_123 rfl (lv_at hl 1 rfl) ?_
            refine hx_iald hx hb hW hT (gqsz.S hM) tt_84 rfl ⟨?o638, ?o639⟩ dX10_looks_124 (fun x_255 ex_255 lx_255 ux_255 => ?_)
            case o638 => omega
            case o639 => omega
            have ax_255 : x_255 = szf i1.toNatClampNeg := ex_255.trans (congrFun (hx_afS hM gqsz rfl af_qsz) _)
            obtain rfl : x_253 = x_255 := ex_253.trans ex_255.symm
            refine lv_iload_n hx hb dX10_looks_125 rfl (lv_at hl 2 rfl) ?_
            refine hb_icmp_gt (zx := x_253.toInt) (zy := i2.toInt) (tgt := 133) hx hb rfl rfl dX10_looks_126 ?o640 (fun c_256 => ?_) (fun c_256 => ?_)
            case o640 => decide
            · skip
              refine lv_iconst (v := 0) hx hb dX10_looks_133 ?o641 ?_
              case o641 => decide
              refine lv_istore (lv' := [(4, .int (0 : Int32)), (0, .ref x), (1, .int i1), (2, .int i2), (3, .int i3)]) hx hb dX10_looks_134 hl ?o642 rfl (fun ls hl => ?_)
              case o642 => decide
              have zk_0 : (0 : Int32).toInt = 0 := ?o643
              case o643 => decide
              refine join136 (0 : Int32) _ _ hL1 hl1 ?o644 ?o645 ?o646 ls hW hT hM f_2 f_4 f_6 f_8 fjw88_x_71  (lv_sub hl [0, 1, 2, 3, 4] rfl)
              case o644 => decide
              case o645 => decide
              case o646 => omega
            · skip
              refine lv_iconst (v := 1) hx hb dX10_looks_129 ?o647 ?_
              case o647 => decide
              refine lv_goto (tgt := 134) hx hb dX10_looks_130 ?o648 ?_
              case o648 => decide
              refine lv_istore (lv' := [(4, .int (1 : Int32)), (0, .ref x), (1, .int i1), (2, .int i2), (3, .int i3)]) hx hb dX10_looks_134 hl ?o649 rfl (fun ls hl => ?_)
              case o649 => decide
              have zk_1 : (1 : Int32).toInt = 1 := ?o650
              case o650 => decide
              refine join136 (1 : Int32) _ _ hL1 hl1 ?o651 ?o652 ?o653 ls hW hT hM f_2 f_4 f_6 f_8 fjw88_x_71  (lv_sub hl [0, 1, 2, 3, 4] rfl)
              case o651 => decide
              case o652 => decide
              case o653 => omega
        · skip
          have zo_0 : (0 : Int32).toInt = 0 := ?o654
          case o654 => decide
          have zo_0 : (0 : Int32).toInt = 0 := ?o655
          case o655 => decide
          have zo_0 : (0 : Int32).toInt = 0 := ?o656
          case o656 => decide
          have zo_0 : (0 : Int32).toInt = 0 := ?o657
          case o657 => decide
          exact hx_retv hx hb hr hlk hW ⟨⟨(0 : Int32), (0 : Int32), (0 : Int32), (0 : Int32), jw88_x_71, f_2, f_4, f_6, f_8, fjw88_x_71, (by have zr_0 : (0 : Int32).toInt = 0 := (by decide); exact ⟨(by unfold hz_pdy; (repeat' split) <;> omega), (by unfold hz_rs hz_bl; (repeat' split) <;> omega), (by unfold hz_ov hz_bl; (repeat' split) <;> omega), (by unfold hz_ms; rw [if_pos (by omega)]; omega), (by unfold hz_st; rw [if_pos (by omega)]; omega)⟩)⟩, hT, hM⟩ dX10_looks_108
    refine lv_aload_n hx hb dX10_looks_49 rfl (lv_at hl 0 rfl) ?_
    refine hk_getr hx hb hts hC_10 hown hW (gx.S hM) tt_10 47 ?o658 rfl kw_1190 ⟨rfl, rfl, rfl⟩ ((hM.o gx trivial rfl).2.trans f_x_47) dX10_looks_50 ?_
    case o658 => decide
    refine lv_iload_n hx hb dX10_looks_53 rfl (lv_at hl 1 rfl) ?_
    refine hx_iald hx hb hW hT (gqhe.S hM) tt_82 rfl ⟨?o659, ?o660⟩ dX10_looks_54 (fun x_257 ex_257 lx_257 ux_257 => ?_)
    case o659 => omega
    case o660 => omega
    have ax_257 : x_257 = hrf i1.toNatClampNeg := ex_257.trans (congrFun (hx_afS hM gqhe rfl af_qhe) _)
    have sx_257 : x_257.toInt = (hrf i1.toInt.toNat).toInt := congrArg Int32.toInt ax_257
    refine lv_iconst (v := -1) hx hb dX10_looks_55 ?o661 ?_
    case o661 => decide
    refine hb_icmp_eq (zx := x_257.toInt) (zy := (-1)) (tgt := 88) hx hb rfl ?o662 dX10_looks_56 ?o663 (fun c_258 => ?_) (fun c_258 => ?_)
    case o662 => decide
    case o663 => decide
    · skip
      refine join88 jw49_x_71 _ _ hL1 hl1 ?o664 ?o665 (by unfold hz_sa; (repeat' split) <;> omega) ls hW hT hM fjw49_x_71 f_2 f_4 f_6 f_8  (lv_sub hl [0, 1, 2, 3] rfl)
      case o664 => omega
      case o665 => omega
    · skip
      refine lv_aload_n hx hb dX10_looks_59 rfl (lv_at hl 0 rfl) ?_
      refine hk_getr hx hb hts hC_10 hown hW (gx.S hM) tt_10 47 ?o666 rfl kw_1190 ⟨rfl, rfl, rfl⟩ ((hM.o gx trivial rfl).2.trans f_x_47) dX10_looks_60 ?_
      case o666 => decide
      refine lv_iload_n hx hb dX10_looks_63 rfl (lv_at hl 1 rfl) ?_
      refine hx_iald hx hb hW hT (gqhe.S hM) tt_82 rfl ⟨?o667, ?o668⟩ dX10_looks_64 (fun x_259 ex_259 lx_259 ux_259 => ?_)
      case o667 => omega
      case o668 => omega
      have ax_259 : x_259 = hrf i1.toNatClampNeg := ex_259.trans (congrFun (hx_afS hM gqhe rfl af_qhe) _)
      obtain rfl : x_257 = x_259 := ex_257.trans ex_259.symm
      refine lv_iload_n hx hb dX10_looks_65 rfl (lv_at hl 2 rfl) ?_
      refine hb_icmp_gt (zx := x_257.toInt) (zy := i2.toInt) (tgt := 88) hx hb rfl rfl dX10_looks_66 ?o669 (fun c_260 => ?_) (fun c_260 => ?_)
      case o669 => decide
      · skip
        refine join88 jw49_x_71 _ _ hL1 hl1 ?o670 ?o671 (by unfold hz_sa; (repeat' split) <;> omega) ls hW hT hM fjw49_x_71 f_2 f_4 f_6 f_8  (lv_sub hl [0, 1, 2, 3] rfl)
        case o670 => omega
        case o671 => omega
      · skip
        refine lv_aload_n hx hb dX10_looks_69 rfl (lv_at hl 0 rfl) ?_
        refine lv_aload_n hx hb dX10_looks_70 rfl (lv_at hl 0 rfl) ?_
        refine hk_getr hx hb hts hC_10 hown hW (gx.S hM) tt_10 51 ?o672 rfl kw_1194 ⟨rfl, rfl, rfl⟩ ((hM.o gx trivial rfl).2.trans f_x_51) dX10_looks_71 ?_
        case o672 => decide
        refine lv_iload_n hx hb dX10_looks_74 rfl (lv_at hl 1 rfl) ?_
        refine hx_iald hx hb hW hT (gqju.S hM) tt_86 rfl ⟨?o673, ?o674⟩ dX10_looks_75 (fun x_261 ex_261 lx_261 ux_261 => ?_)
        case o673 => omega
        case o674 => omega
        have ax_261 : x_261 = udf i1.toNatClampNeg := ex_261.trans (congrFun (hx_afS hM gqju rfl af_qju) _)
        have sx_261 : x_261.toInt = (udf i1.toInt.toNat).toInt := congrArg Int32.toInt ax_261
        refine lv_iconst (v := 5) hx hb dX10_looks_76 ?o675 ?_
        case o675 => decide
        refine hb_icmp_ne (zx := x_261.toInt) (zy := 5) (tgt := 84) hx hb rfl ?o676 dX10_looks_77 ?o677 (fun c_262 => ?_) (fun c_262 => ?_)
        case o676 => decide
        case o677 => decide
        · skip
          refine lv_iconst (v := 2) hx hb dX10_looks_84 ?o678 ?_
          case o678 => decide
          refine hx_puti hx hb hts hC_10 hown hW hT (hx_S.rf (M := [(10, 71)])) (gx.S hM) tt_10 71 ?o679 rfl kw_1214 ⟨rfl, rfl, rfl⟩ rfl (x := (2 : Int32)) ?o680 rfl rfl rfl (List.mem_singleton.mpr rfl) dX10_looks_85 (fun H locs h_263 eh_263 hW hT hs => ?_)
          case o679 => decide
          case o680 => decide
          replace f_2 := (hs.o (gx.S hM) trivial rfl).1.trans f_2
          replace f_4 := (hs.o (gx.S hM) trivial rfl).1.trans f_4
          replace f_6 := (hs.o (gx.S hM) trivial rfl).1.trans f_6
          replace f_8 := (hs.o (gx.S hM) trivial rfl).1.trans f_8
          replace ex_257 := ex_257.trans (hs.a (gqhe.S hM) rfl _).1.symm
          replace ex_261 := ex_261.trans (hs.a (gqju.S hM) rfl _).1.symm
          replace hM := hM.tr (hs.mono ?o681)
          case o681 => decide
          have f_264 : h_263.2.1 x 71 = (2 : Int32) := ?o682
          case o682 =>
            rw [eh_263]
            exact hx_pi_at _ _ _ _
          have zk_2 : (2 : Int32).toInt = 2 := ?o683
          case o683 => decide
          refine join88 (2 : Int32) _ _ hL1 h_263 ?o684 ?o685 (by rw [zk_2]; unfold hz_sa; (repeat' split) <;> omega) ls hW hT hM f_264 f_2 f_4 f_6 f_8  (lv_sub hl [0, 1, 2, 3] rfl)
          case o684 => decide
          case o685 => decide
        · skip
          refine lv_iconst (v := 3) hx hb dX10_looks_80 ?o686 ?_
          case o686 => decide
          refine lv_goto (tgt := 85) hx hb dX10_looks_81 ?o687 ?_
          case o687 => decide
          refine hx_puti hx hb hts hC_10 hown hW hT (hx_S.rf (M := [(10, 71)])) (gx.S hM) tt_10 71 ?o688 rfl kw_1214 ⟨rfl, rfl, rfl⟩ rfl (x := (3 : Int32)) ?o689 rfl rfl rfl (List.mem_singleton.mpr rfl) dX10_looks_85 (fun H locs h_265 eh_265 hW hT hs => ?_)
          case o688 => decide
          case o689 => decide
          replace f_2 := (hs.o (gx.S hM) trivial rfl).1.trans f_2
          replace f_4 := (hs.o (gx.S hM) trivial rfl).1.trans f_4
          replace f_6 := (hs.o (gx.S hM) trivial rfl).1.trans f_6
          replace f_8 := (hs.o (gx.S hM) trivial rfl).1.trans f_8
          replace ex_257 := ex_257.trans (hs.a (gqhe.S hM) rfl _).1.symm
          replace ex_261 := ex_261.trans (hs.a (gqju.S hM) rfl _).1.symm
          replace hM := hM.tr (hs.mono ?o690)
          case o690 => decide
          have f_266 : h_265.2.1 x 71 = (3 : Int32) := ?o691
          case o691 =>
            rw [eh_265]
            exact hx_pi_at _ _ _ _
          have zk_3 : (3 : Int32).toInt = 3 := ?o692
          case o692 => decide
          refine join88 (3 : Int32) _ _ hL1 h_265 ?o693 ?o694 (by rw [zk_3]; unfold hz_sa; (repeat' split) <;> omega) ls hW hT hM f_266 f_2 f_4 f_6 f_8  (lv_sub hl [0, 1, 2, 3] rfl)
          case o693 => decide
          case o694 => decide
  refine lv_aload_n hx hb dX10_looks_20 rfl (lv_at hl 0 rfl) ?_
  refine lv_aload_n hx hb dX10_looks_21 rfl (lv_at hl 0 rfl) ?_
  refine hk_getr hx hb hts hC_10 hown hW (gx.S hM) tt_10 46 ?o695 rfl kw_1189 ⟨rfl, rfl, rfl⟩ ((hM.o gx trivial rfl).2.trans f_x_46) dX10_looks_22 ?_
  case o695 => decide
  refine lv_iload_n hx hb dX10_looks_25 rfl (lv_at hl 1 rfl) ?_
  refine hx_iald hx hb hW hT (gqfo.S hM) tt_81 rfl ⟨?o696, ?o697⟩ dX10_looks_26 (fun x_267 ex_267 lx_267 ux_267 => ?_)
  case o696 => omega
  case o697 => omega
  have ax_267 : x_267 = fof i1.toNatClampNeg := ex_267.trans (congrFun (hx_afS hM gqfo rfl af_qfo) _)
  have sx_267 : x_267.toInt = (fof i1.toInt.toNat).toInt := congrArg Int32.toInt ax_267
  refine lv_iconst (v := -1) hx hb dX10_looks_27 ?o698 ?_
  case o698 => decide
  refine hb_icmp_eq (zx := x_267.toInt) (zy := (-1)) (tgt := 45) hx hb rfl ?o699 dX10_looks_28 ?o700 (fun c_268 => ?_) (fun c_268 => ?_)
  case o699 => decide
  case o700 => decide
  · skip
    refine lv_iconst (v := 0) hx hb dX10_looks_45 ?o701 ?_
    case o701 => decide
    refine hx_puti hx hb hts hC_10 hown hW hT (hx_S.rf (M := [(10, 71)])) (gx.S hM) tt_10 71 ?o702 rfl kw_1214 ⟨rfl, rfl, rfl⟩ rfl (x := (0 : Int32)) ?o703 rfl rfl rfl (List.mem_singleton.mpr rfl) dX10_looks_46 (fun H locs h_269 eh_269 hW hT hs => ?_)
    case o702 => decide
    case o703 => decide
    replace f_2 := (hs.o (gx.S hM) trivial rfl).1.trans f_2
    replace f_4 := (hs.o (gx.S hM) trivial rfl).1.trans f_4
    replace f_6 := (hs.o (gx.S hM) trivial rfl).1.trans f_6
    replace f_8 := (hs.o (gx.S hM) trivial rfl).1.trans f_8
    replace ex_267 := ex_267.trans (hs.a (gqfo.S hM) rfl _).1.symm
    replace hM := hM.tr (hs.mono ?o704)
    case o704 => decide
    have f_270 : h_269.2.1 x 71 = (0 : Int32) := ?o705
    case o705 =>
      rw [eh_269]
      exact hx_pi_at _ _ _ _
    have zk_0 : (0 : Int32).toInt = 0 := ?o706
    case o706 => decide
    refine join49 (0 : Int32) _ _ L h_269 ?o707 ?o708 ?o709 ls hW hT hM f_270 f_2 f_4 f_6 f_8  (lv_sub hl [0, 1, 2, 3] rfl)
    case o707 => decide
    case o708 => decide
    case o709 => omega
  · skip
    refine lv_aload_n hx hb dX10_looks_31 rfl (lv_at hl 0 rfl) ?_
    refine hk_getr hx hb hts hC_10 hown hW (gx.S hM) tt_10 46 ?o710 rfl kw_1189 ⟨rfl, rfl, rfl⟩ ((hM.o gx trivial rfl).2.trans f_x_46) dX10_looks_32 ?_
    case o710 => decide
    refine lv_iload_n hx hb dX10_looks_35 rfl (lv_at hl 1 rfl) ?_
    refine hx_iald hx hb hW hT (gqfo.S hM) tt_81 rfl ⟨?o711, ?o712⟩ dX10_looks_36 (fun x_271 ex_271 lx_271 ux_271 => ?_)
    case o711 => omega
    case o712 => omega
    have ax_271 : x_271 = fof i1.toNatClampNeg := ex_271.trans (congrFun (hx_afS hM gqfo rfl af_qfo) _)
    obtain rfl : x_267 = x_271 := ex_267.trans ex_271.symm
    refine lv_iload_n hx hb dX10_looks_37 rfl (lv_at hl 2 rfl) ?_
    refine hb_icmp_gt (zx := x_267.toInt) (zy := i2.toInt) (tgt := 45) hx hb rfl rfl dX10_looks_38 ?o713 (fun c_272 => ?_) (fun c_272 => ?_)
    case o713 => decide
    · skip
      refine lv_iconst (v := 0) hx hb dX10_looks_45 ?o714 ?_
      case o714 => decide
      refine hx_puti hx hb hts hC_10 hown hW hT (hx_S.rf (M := [(10, 71)])) (gx.S hM) tt_10 71 ?o715 rfl kw_1214 ⟨rfl, rfl, rfl⟩ rfl (x := (0 : Int32)) ?o716 rfl rfl rfl (List.mem_singleton.mpr rfl) dX10_looks_46 (fun H locs h_273 eh_273 hW hT hs => ?_)
      case o715 => decide
      case o716 => decide
      replace f_2 := (hs.o (gx.S hM) trivial rfl).1.trans f_2
      replace f_4 := (hs.o (gx.S hM) trivial rfl).1.trans f_4
      replace f_6 := (hs.o (gx.S hM) trivial rfl).1.trans f_6
      replace f_8 := (hs.o (gx.S hM) trivial rfl).1.trans f_8
      replace ex_267 := ex_267.trans (hs.a (gqfo.S hM) rfl _).1.symm
      replace hM := hM.tr (hs.mono ?o717)
      case o717 => decide
      have f_274 : h_273.2.1 x 71 = (0 : Int32) := ?o718
      case o718 =>
        rw [eh_273]
        exact hx_pi_at _ _ _ _
      have zk_0 : (0 : Int32).toInt = 0 := ?o719
      case o719 => decide
      refine join49 (0 : Int32) _ _ L h_273 ?o720 ?o721 ?o722 ls hW hT hM f_274 f_2 f_4 f_6 f_8  (lv_sub hl [0, 1, 2, 3] rfl)
      case o720 => decide
      case o721 => decide
      case o722 => omega
    · skip
      refine lv_iconst (v := 1) hx hb dX10_looks_41 ?o723 ?_
      case o723 => decide
      refine lv_goto (tgt := 46) hx hb dX10_looks_42 ?o724 ?_
      case o724 => decide
      refine hx_puti hx hb hts hC_10 hown hW hT (hx_S.rf (M := [(10, 71)])) (gx.S hM) tt_10 71 ?o725 rfl kw_1214 ⟨rfl, rfl, rfl⟩ rfl (x := (1 : Int32)) ?o726 rfl rfl rfl (List.mem_singleton.mpr rfl) dX10_looks_46 (fun H locs h_275 eh_275 hW hT hs => ?_)
      case o725 => decide
      case o726 => decide
      replace f_2 := (hs.o (gx.S hM) trivial rfl).1.trans f_2
      replace f_4 := (hs.o (gx.S hM) trivial rfl).1.trans f_4
      replace f_6 := (hs.o (gx.S hM) trivial rfl).1.trans f_6
      replace f_8 := (hs.o (gx.S hM) trivial rfl).1.trans f_8
      replace ex_267 := ex_267.trans (hs.a (gqfo.S hM) rfl _).1.symm
      replace hM := hM.tr (hs.mono ?o727)
      case o727 => decide
      have f_276 : h_275.2.1 x 71 = (1 : Int32) := ?o728
      case o728 =>
        rw [eh_275]
        exact hx_pi_at _ _ _ _
      have zk_1 : (1 : Int32).toInt = 1 := ?o729
      case o729 => decide
      refine join49 (1 : Int32) _ _ L h_275 ?o730 ?o731 ?o732 ls hW hT hM f_276 f_2 f_4 f_6 f_8  (lv_sub hl [0, 1, 2, 3] rfl)
      case o730 => decide
      case o731 => decide
      case o732 => omega
end
section
/-! WHAT THE CALLS ON CLAIMS ANSWER, told of both sides alike -/
def hz_CB (odf wkf owf szf gdf svf : Nat → Int32) : Prop := ∀ c : Nat, c < 100 → (-1 ≤ (odf c).toInt ∧ (odf c).toInt ≤ 7999) ∧ (0 ≤ (wkf c).toInt ∧ (wkf c).toInt ≤ 9999) ∧ (0 ≤ (owf c).toInt ∧ (owf c).toInt ≤ 600000) ∧ (-1 ≤ (szf c).toInt ∧ (szf c).toInt ≤ 7999) ∧ (0 ≤ (gdf c).toInt ∧ (gdf c).toInt ≤ 9999) ∧ (-1 ≤ (svf c).toInt ∧ (svf c).toInt ≤ 7999)
/-- what is left of a claim now -/
def hz_Rn (odf szf gdf owf svf : Nat → Int32) (rc : Nat → Int) (pof pdf psm pkf pst : Nat → Int32) (now : Int) (pm : Nat) (c : Nat) : Int := hz_rs (svf c).toInt (hz_bl (odf c).toInt (szf c).toInt (gdf c).toInt (owf c).toInt (rc c) now (hx_ps pof pdf psm pkf pst now now (c : Int) pm)) now
theorem hz_rs_b {sv bl d : Int} : 0 ≤ hz_rs sv bl d := by unfold hz_rs; (repeat' split) <;> omega
/-- state() -/
def hz_SA (c i d k w fl v0 v1 v2 v3 v4 r : Int) : Prop := (¬ ((0 ≤ i ∧ i < c) ∧ (fl ≤ d ∧ d ≤ 7999) ∧ (fl ≤ k ∧ k ≤ 7999) ∧ (0 ≤ w ∧ w ≤ 4)) ∧ r = -1) ∨ (((0 ≤ i ∧ i < c) ∧ (fl ≤ d ∧ d ≤ 7999) ∧ (fl ≤ k ∧ k ≤ 7999)) ∧ ((w = 0 ∧ r = v0) ∨ (w = 1 ∧ r = v1) ∨ (w = 2 ∧ r = v2) ∨ (w = 3 ∧ r = v3) ∨ (w = 4 ∧ r = v4)))
theorem hz_SA_eq {c i d k w fl v0 v0' v1 v2 v3 v4 r r' : Int} (h : hz_SA c i d k w fl v0 v1 v2 v3 v4 r) (h' : hz_SA c i d k w fl v0' v1 v2 v3 v4 r') (e : 0 ≤ i → i < c → v0 = v0') : r = r' := by
  rcases h with ⟨a, b⟩ | ⟨a, b⟩ <;> rcases h' with ⟨a', b'⟩ | ⟨a', b'⟩
  · omega
  · exact absurd ⟨a'.1, a'.2.1, a'.2.2, by omega⟩ a
  · exact absurd ⟨a.1, a.2.1, a.2.2, by omega⟩ a'
  · have := e a.1.1 a.1.2
    omega
/-- order() -/
def hz_OC (n i w ju od de : Int) : Prop := (0 ≤ i ∧ i < n) ∧ ju = 5 ∧ od = -1 ∧ de = 0 ∧ (1 ≤ w ∧ w ≤ 9999)
def hz_OS (C : Prop) (k : Nat) (w nw r : Int32) (mn al oi me : Int) (of of1 wf wf1 ef ef1 : Nat → Int32) : Prop := (¬ C ∧ r.toInt = -1 ∧ of1 = of ∧ wf1 = wf ∧ ef1 = ef) ∨ (C ∧ (((w.toInt < mn ∧ w.toInt < al) ∧ r.toInt = -2 ∧ of1 = of ∧ wf1 = wf ∧ ef1 = ef) ∨ (¬ (w.toInt < mn ∧ w.toInt < al) ∧ me < w.toInt + oi ∧ r.toInt = -3 ∧ of1 = of ∧ wf1 = wf ∧ ef1 = ef) ∨ (¬ (w.toInt < mn ∧ w.toInt < al) ∧ ¬ me < w.toInt + oi ∧ r.toInt = al ∧ of1 = hx_up of k nw ∧ wf1 = hx_up wf k w ∧ ef1 = hx_up ef k r)))
theorem hz_OS_eq {C C' : Prop} {k : Nat} {w nw r r' : Int32} {mn al al' oi oi' me : Int} {of of1 of1' wf wf1 wf1' ef ef1 ef1' : Nat → Int32} (h : hz_OS C k w nw r mn al oi me of of1 wf wf1 ef ef1) (h' : hz_OS C' k w nw r' mn al' oi' me of of1' wf wf1' ef ef1') (hC : C ↔ C') (ea : C → al = al') (eo : C → oi = oi') : r.toInt = r'.toInt ∧ of1 = of1' ∧ wf1 = wf1' ∧ ef1 = ef1' := by
  rcases h with ⟨c, e1, e2, e3, e4⟩ | ⟨c, g⟩ <;> rcases h' with ⟨c', e1', e2', e3', e4'⟩ | ⟨c', g'⟩
  · exact ⟨by omega, e2.trans e2'.symm, e3.trans e3'.symm, e4.trans e4'.symm⟩
  · exact absurd (hC.mpr c') c
  · exact absurd (hC.mp c) c'
  · have ha := ea c; have ho := eo c; subst ha; subst ho
    rcases g with ⟨a, e1, e2, e3, e4⟩ | ⟨a, b, e1, e2, e3, e4⟩ | ⟨a, b, e1, e2, e3, e4⟩ <;> rcases g' with ⟨a', e1', e2', e3', e4'⟩ | ⟨a', b', e1', e2', e3', e4'⟩ | ⟨a', b', e1', e2', e3', e4'⟩
    · exact ⟨by omega, e2.trans e2'.symm, e3.trans e3'.symm, e4.trans e4'.symm⟩
    · exact absurd a a'
    · exact absurd a a'
    · exact absurd a' a
    · exact ⟨by omega, e2.trans e2'.symm, e3.trans e3'.symm, e4.trans e4'.symm⟩
    · exact absurd b b'
    · exact absurd a' a
    · exact absurd b' b
    · have er : r = r' := Int32.toInt_inj.mp (by omega)
      subst er
      exact ⟨rfl, e2.trans e2'.symm, e3.trans e3'.symm, e4.trans e4'.symm⟩
/-- the instalments of q's open orders, of the claims below n -/
def hz_oi (ag wk : Nat → Int32) (Rn : Nat → Int) (q : Int) : Nat → Int
  | 0 => 0
  | n + 1 => hz_oi ag wk Rn q n + (if (ag n).toInt = q ∧ 0 < Rn n then (wk n).toInt else 0)
theorem hz_oi_y {ag wk : Nat → Int32} {Rn : Nat → Int} {q k k1 s s1 : Int} {v : Int32} {ix : Nat} (h : s = hz_oi ag wk Rn q k.toNat) (h0 : 0 ≤ k) (ei : (ix : Int) = k) (hq : (ag k.toNat).toInt = q) (hr : 0 < Rn k.toNat) (ev : v = wk ix) (es : s1 = s + v.toInt) (e1 : k1 = k + 1) : s1 = hz_oi ag wk Rn q k1.toNat := by
  subst e1
  have e : (k + 1).toNat = k.toNat + 1 := by omega
  have ex : ix = k.toNat := by omega
  subst ex
  rw [e]; simp only [hz_oi]; rw [if_pos ⟨hq, hr⟩, ← h, es, ev]
theorem hz_oi_n {ag wk : Nat → Int32} {Rn : Nat → Int} {q k k1 s : Int} (h : s = hz_oi ag wk Rn q k.toNat) (h0 : 0 ≤ k) (hq : ¬ ((ag k.toNat).toInt = q ∧ 0 < Rn k.toNat)) (e1 : k1 = k + 1) : s = hz_oi ag wk Rn q k1.toNat := by
  subst e1
  have e : (k + 1).toNat = k.toNat + 1 := by omega
  rw [e]; simp only [hz_oi]; rw [if_neg hq, ← h, Int.add_zero]
/-- a PAYMENT is written behind the others -/
def hz_AP (pm : Nat) (c d s k : Int32) (pof pof1 pdf pdf1 psm psm1 pkf pkf1 pst pst1 : Nat → Int32) : Prop := pof1 = hx_up pof pm c ∧ pdf1 = hx_up pdf pm d ∧ psm1 = hx_up psm pm s ∧ pkf1 = hx_up pkf pm k ∧ pst1 = hx_up pst pm (-1)
def hz_PC (pm n i d s nw od sv : Int) : Prop := pm < 600 ∧ (0 ≤ i ∧ i < n) ∧ od ≠ -1 ∧ sv = -1 ∧ (od ≤ d ∧ d ≤ nw) ∧ (1 ≤ s ∧ s ≤ 9999)
def hz_PS (C : Prop) (i d s nw pm pm1 r : Int32) (pof pof1 pdf pdf1 psm psm1 pkf pkf1 pst pst1 : Nat → Int32) : Prop := (¬ C ∧ r.toInt = -1 ∧ pm1.toInt = pm.toInt ∧ pof1 = pof ∧ pdf1 = pdf ∧ psm1 = psm ∧ pkf1 = pkf ∧ pst1 = pst) ∨ (C ∧ r.toInt = pm.toInt ∧ pm1.toInt = pm.toInt + 1 ∧ hz_AP pm.toInt.toNat i d s nw pof pof1 pdf pdf1 psm psm1 pkf pkf1 pst pst1)
theorem hz_PS_eq {C : Prop} {i d s nw pm pm1 pm1' r r' : Int32} {pof pof1 pdf pdf1 psm psm1 pkf pkf1 pst pst1 pof1' pdf1' psm1' pkf1' pst1' : Nat → Int32} (h : hz_PS C i d s nw pm pm1 r pof pof1 pdf pdf1 psm psm1 pkf pkf1 pst pst1) (h' : hz_PS C i d s nw pm pm1' r' pof pof1' pdf pdf1' psm psm1' pkf pkf1' pst pst1') : r.toInt = r'.toInt ∧ pm1 = pm1' ∧ pof1 = pof1' ∧ pdf1 = pdf1' ∧ psm1 = psm1' ∧ pkf1 = pkf1' ∧ pst1 = pst1' := by
  rcases h with ⟨c, a, b, e1, e2, e3, e4, e5⟩ | ⟨c, a, b, e1, e2, e3, e4, e5⟩ <;> rcases h' with ⟨c', a', b', f1, f2, f3, f4, f5⟩ | ⟨c', a', b', f1, f2, f3, f4, f5⟩
  · exact ⟨by omega, Int32.toInt_inj.mp (by omega), e1.trans f1.symm, e2.trans f2.symm, e3.trans f3.symm, e4.trans f4.symm, e5.trans f5.symm⟩
  · exact absurd c' c
  · exact absurd c c'
  · exact ⟨by omega, Int32.toInt_inj.mp (by omega), e1.trans f1.symm, e2.trans f2.symm, e3.trans f3.symm, e4.trans f4.symm, e5.trans f5.symm⟩
/-- strike() -/
def hz_KC (pm k : Int) (pst : Nat → Int32) : Prop := (0 ≤ k ∧ k < pm) ∧ (pst k.toNat).toInt = -1
def hz_KS (pm k : Int) (nw r : Int32) (pst pst1 : Nat → Int32) : Prop := (¬ hz_KC pm k pst ∧ r.toInt = 0 ∧ pst1 = pst) ∨ (hz_KC pm k pst ∧ r.toInt = 1 ∧ pst1 = hx_up pst k.toNat nw)
theorem hz_KS_eq {pm k : Int} {nw r r' : Int32} {pst pst1 pst1' : Nat → Int32} (h : hz_KS pm k nw r pst pst1) (h' : hz_KS pm k nw r' pst pst1') : r.toInt = r'.toInt ∧ pst1 = pst1' := by
  rcases h with ⟨c, a, b⟩ | ⟨c, a, b⟩ <;> rcases h' with ⟨c', a', b'⟩ | ⟨c', a', b'⟩
  · exact ⟨by omega, b.trans b'.symm⟩
  · exact absurd c' c
  · exact absurd c c'
  · exact ⟨by omega, b.trans b'.symm⟩
/-- seize() -/
def hz_ZC (n i w sz st : Int) : Prop := (0 ≤ i ∧ i < n) ∧ sz = -1 ∧ (1 ≤ w ∧ w ≤ 9999) ∧ (st = 5 ∨ st = 6)
def hz_ZS (C : Prop) (k : Nat) (w nw r : Int32) (bl : Int) (zf zf1 gf gf1 : Nat → Int32) : Prop := (¬ C ∧ r.toInt = -1000000 ∧ zf1 = zf ∧ gf1 = gf) ∨ (C ∧ r.toInt = bl ∧ zf1 = hx_up zf k nw ∧ gf1 = hx_up gf k w)
theorem hz_ZS_eq {C C' : Prop} {k : Nat} {w nw r r' : Int32} {bl bl' : Int} {zf zf1 zf1' gf gf1 gf1' : Nat → Int32} (h : hz_ZS C k w nw r bl zf zf1 gf gf1) (h' : hz_ZS C' k w nw r' bl' zf zf1' gf gf1') (hC : C ↔ C') (eb : C → bl = bl') : r.toInt = r'.toInt ∧ zf1 = zf1' ∧ gf1 = gf1' := by
  rcases h with ⟨c, a, b, d⟩ | ⟨c, a, b, d⟩ <;> rcases h' with ⟨c', a', b', d'⟩ | ⟨c', a', b', d'⟩
  · exact ⟨by omega, b.trans b'.symm, d.trans d'.symm⟩
  · exact absurd (hC.mpr c') c
  · exact absurd (hC.mp c) c'
  · have := eb c
    exact ⟨by omega, b.trans b'.symm, d.trans d'.symm⟩
theorem hz_st_or {fo he ju od sv rs ms la ga d : Int} (h : hz_st fo he ju od sv rs ms la ga d = 5 ∨ hz_st fo he ju od sv rs ms la ga d = 6) : ¬ (od = -1 ∨ d < od) ∧ ¬ (sv ≠ -1 ∧ sv ≤ d) ∧ rs ≠ 0 := by
  unfold hz_st hz_sa at h
  by_cases h1 : od = -1 ∨ d < od
  · rw [if_pos h1] at h
    exfalso
    revert h
    (repeat' split) <;> omega
  · rw [if_neg h1] at h
    by_cases h2 : sv ≠ -1 ∧ sv ≤ d
    · rw [if_pos h2] at h; omega
    · rw [if_neg h2] at h
      by_cases h3 : rs = 0
      · rw [if_pos h3] at h; omega
      · exact ⟨h1, h2, h3⟩
/-- gaol() -/
def hz_GC (n i sz de st : Int) : Prop := (0 ≤ i ∧ i < n) ∧ sz ≠ -1 ∧ de = 0 ∧ st = 6
def hz_GS (C : Prop) (k : Nat) (nw r : Int32) (v : Int) (vf vf1 : Nat → Int32) : Prop := (¬ C ∧ r.toInt = -1 ∧ vf1 = vf) ∨ (C ∧ r.toInt = v ∧ vf1 = hx_up vf k nw)
theorem hz_GS_eq {C C' : Prop} {k : Nat} {nw r r' : Int32} {v v' : Int} {vf vf1 vf1' : Nat → Int32} (h : hz_GS C k nw r v vf vf1) (h' : hz_GS C' k nw r' v' vf vf1') (hC : C ↔ C') (ev : C → v = v') : r.toInt = r'.toInt ∧ vf1 = vf1' := by
  rcases h with ⟨c, a, b⟩ | ⟨c, a, b⟩ <;> rcases h' with ⟨c', a', b'⟩ | ⟨c', a', b'⟩
  · exact ⟨by omega, b.trans b'.symm⟩
  · exact absurd (hC.mpr c') c
  · exact absurd (hC.mp c) c'
  · have := ev c
    exact ⟨by omega, b.trans b'.symm⟩
theorem hz_mulg {a b x : Int32} (ha : 0 ≤ a.toInt ∧ a.toInt ≤ 50835) (hb : 0 ≤ b.toInt ∧ b.toInt ≤ 9999) (e : x = a * b) : x.toInt = a.toInt * b.toInt ∧ 0 ≤ x.toInt ∧ x.toInt ≤ 508299165 := by
  have h1 : 0 ≤ a.toInt * b.toInt := Int.mul_nonneg ha.1 hb.1
  have h2 : a.toInt * b.toInt ≤ 50835 * 9999 := Int.mul_le_mul ha.2 hb.2 hb.1 (by decide)
  have h3 : x.toInt = a.toInt * b.toInt := by rw [e]; exact i32_mul rfl rfl rfl (by omega) (by omega)
  exact ⟨h3, by omega, by omega⟩
theorem hz_ru12 {s : Int} (h : 0 ≤ s) (h2 : s ≤ 609999) : 0 ≤ hz_ru s 12 ∧ hz_ru s 12 ≤ 50835 := by
  unfold hz_ru; split <;> omega
theorem hz_ru12m {s : Int} (h : 0 ≤ s) : (s + 11) / 12 = hz_ru s 12 := by
  unfold hz_ru; split <;> omega
theorem hz_mul2 {a b x : Int32} (ha : 0 ≤ a.toInt ∧ a.toInt ≤ 9999) (hb : 0 ≤ b.toInt ∧ b.toInt ≤ 20) (e : x = a * b) : x.toInt = a.toInt * b.toInt ∧ 0 ≤ x.toInt ∧ x.toInt ≤ 199980 := by
  have h1 : 0 ≤ a.toInt * b.toInt := Int.mul_nonneg ha.1 hb.1
  have h2 : a.toInt * b.toInt ≤ 9999 * 20 := Int.mul_le_mul ha.2 hb.2 hb.1 (by decide)
  have h3 : x.toInt = a.toInt * b.toInt := by rw [e]; exact i32_mul rfl rfl rfl (by omega) (by omega)
  exact ⟨h3, by omega, by omega⟩
def hz_LS (c i w : Int) (v : Nat → Int) (r : Int) : Prop := (¬ ((0 ≤ i ∧ i < c) ∧ (0 ≤ w ∧ w ≤ 13)) ∧ r = -1) ∨ (((0 ≤ i ∧ i < c) ∧ (0 ≤ w ∧ w ≤ 13)) ∧ r = v w.toNat)
theorem hz_LS_eq {c i w r r' : Int} {v v' : Nat → Int} (h : hz_LS c i w v r) (h' : hz_LS c i w v' r') (e : 0 ≤ i → i < c → ∀ k, k < 14 → v k = v' k) : r = r' := by
  rcases h with ⟨a, b⟩ | ⟨a, b⟩ <;> rcases h' with ⟨a', b'⟩ | ⟨a', b'⟩
  · omega
  · exact absurd a' a
  · exact absurd a a'
  · rw [b, b']; exact e a.1.1 a.1.2 _ (by omega)
def hz_rc (A : Nat → hv_act) (plf : Nat → Int32) : Nat → Int := fun c => (A (plf c).toInt.toNat).2.1 12
/-- of numbered objects: the same one, the same place -/
theorem hz_pe {h : hx_h} {qp k p q : Nat} {i j : Int32} {n : Int} (hn : hx_num 40 h qp k n) (bi : 0 ≤ i.toInt ∧ i.toInt < 40) (bj : 0 ≤ j.toInt ∧ j.toInt < 40) (fi : h.2.2 qp i.toNatClampNeg = some p) (fj : h.2.2 qp j.toNatClampNeg = some q) : p = q ↔ i.toInt = j.toInt := by
  constructor
  · intro e
    subst e
    have := hx_num_eq hn (by unfold Int32.toNatClampNeg; omega) (by unfold Int32.toNatClampNeg; omega) fi fj
    unfold Int32.toNatClampNeg at this
    omega
  · intro e
    have e2 : i = j := Int32.toInt_inj.mp e
    subst e2
    exact Option.some.inj (fi.symm.trans fj)
theorem hz_st_op {fo he ju od sv rs ms la ga d : Int} (h0 : 0 ≤ rs) (h1 : (od = -1 ∨ d < od) ∨ (sv ≠ -1 ∧ sv ≤ d) → rs = 0) : (4 ≤ hz_st fo he ju od sv rs ms la ga d ∧ hz_st fo he ju od sv rs ms la ga d ≤ 6) ↔ 0 < rs := by
  unfold hz_st hz_sa
  by_cases a : od = -1 ∨ d < od
  · have e := h1 (Or.inl a)
    rw [if_pos a]
    constructor
    · intro h; exfalso; revert h; (repeat' split) <;> omega
    · intro h; omega
  · rw [if_neg a]
    by_cases b : sv ≠ -1 ∧ sv ≤ d
    · have e := h1 (Or.inr b)
      rw [if_pos b]; omega
    · rw [if_neg b]
      by_cases c : rs = 0
      · rw [if_pos c]; omega
      · rw [if_neg c]
        constructor
        · intro _; omega
        · intro _; (repeat' split) <;> omega
theorem hz_rs_0 {od sz gd ow rc sv d ps : Int} (h : (od = -1 ∨ d < od) ∨ (sv ≠ -1 ∧ sv ≤ d)) : hz_rs sv (hz_bl od sz gd ow rc d ps) d = 0 := by
  unfold hz_rs hz_bl
  rcases h with h | h
  · rw [if_neg (show ¬ (od ≠ -1 ∧ od ≤ d) by omega)]; (repeat' split) <;> omega
  · rw [if_pos h]
/-- what claim() tells, by its number -/
def hz_cv (v0 v1 v2 v3 v4 v5 v6 v7 v8 v9 v10 v11 v12 v13 : Int) : Nat → Int := fun k => match k with
  | 0 => v0 | 1 => v1 | 2 => v2 | 3 => v3 | 4 => v4 | 5 => v5 | 6 => v6 | 7 => v7 | 8 => v8 | 9 => v9 | 10 => v10 | 11 => v11 | 12 => v12 | 13 => v13 | _ => 0
def hz_sz1 (z : Int) : Int := if z = -1 then 0 else 1
/-- living judges, and count() -/
def hz_lj (jf df : Nat → Int32) : Nat → Int
  | 0 => 0
  | n + 1 => hz_lj jf df n + (if (jf n).toInt ≠ 0 ∧ (df n).toInt = 0 then 1 else 0)
theorem hz_lj_s {jf df : Nat → Int32} {k k1 s s1 : Int} (b : Int) (h : s = hz_lj jf df k.toNat) (h0 : 0 ≤ k) (hb : (b = 1 ∧ (jf k.toNat).toInt ≠ 0 ∧ (df k.toNat).toInt = 0) ∨ (b = 0 ∧ ¬ ((jf k.toNat).toInt ≠ 0 ∧ (df k.toNat).toInt = 0))) (es : s1 = s + b) (e1 : k1 = k + 1) : s1 = hz_lj jf df k1.toNat := by
  subst e1
  have e : (k + 1).toNat = k.toNat + 1 := by omega
  rw [e]; simp only [hz_lj]
  rcases hb with ⟨b1, b2⟩ | ⟨b1, b2⟩
  · rw [if_pos b2, ← h, es, b1]
  · rw [if_neg b2, ← h, es, b1]
theorem hz_lj_e {jf jf' df df' : Nat → Int32} (ej : hx_eqN 40 jf jf') (ed : hx_eqN 40 df df') : ∀ n : Nat, n ≤ 40 → hz_lj jf df n = hz_lj jf' df' n := by
  intro n
  induction n with
  | zero => intro _; rfl
  | succ n ih => intro h; simp only [hz_lj, ih (by omega), ej n (by omega), ed n (by omega)]
def hz_CT (w : Int) (v : Nat → Int) (r : Int) : Prop := (¬ (0 ≤ w ∧ w ≤ 8) ∧ r = -1) ∨ ((0 ≤ w ∧ w ≤ 8) ∧ r = v w.toNat)
theorem hz_CT_eq {w r r' : Int} {v v' : Nat → Int} (h : hz_CT w v r) (h' : hz_CT w v' r') (e : ∀ k, k < 9 → v k = v' k) : r = r' := by
  rcases h with ⟨a, b⟩ | ⟨a, b⟩ <;> rcases h' with ⟨a', b'⟩ | ⟨a', b'⟩
  · omega
  · exact absurd a' a
  · exact absurd a a'
  · rw [b, b']; exact e _ (by omega)
end
