
set_option maxHeartbeats 4000000 in
set_option maxRecDepth 100000 in
theorem t_X10_looks_2 (l : Launch) (dC : Nat → ClassId) (dI : Nat → Nat → Nat) (dA : Nat → ClassId) (L : List Nat) (h : hx_h) (sz : Nat) (x : Nat) (i1 : Int32) (i2 : Int32) (i3 : Int32) (hT : hx_T T_tb L h) (gx : hx_g L h x 10) (qod : Nat) (gqod : hx_g L h qod 83) (f_x_48 : h.2.2 x 48 = some qod) (qsv : Nat) (gqsv : hx_g L h qsv 85) (f_x_50 : h.2.2 x 50 = some qsv) (qsz : Nat) (gqsz : hx_g L h qsz 84) (f_x_49 : h.2.2 x 49 = some qsz) (qgd : Nat) (gqgd : hx_g L h qgd 91) (f_x_56 : h.2.2 x 56 = some qgd) (qow : Nat) (gqow : hx_g L h qow 90) (f_x_55 : h.2.2 x 55 = some qow) (qpl : Nat) (gqpl : hx_g L h qpl 79) (f_x_44 : h.2.2 x 44 = some qpl) (qru : Nat) (gqru : hx_g L h qru 50) (f_x_3 : h.2.2 x 3 = some qru) (qpo : Nat) (gqpo : hx_g L h qpo 93) (f_x_60 : h.2.2 x 60 = some qpo) (qpd : Nat) (gqpd : hx_g L h qpd 94) (f_x_61 : h.2.2 x 61 = some qpd) (qps : Nat) (gqps : hx_g L h qps 95) (f_x_62 : h.2.2 x 62 = some qps) (qpk : Nat) (gqpk : hx_g L h qpk 96) (f_x_63 : h.2.2 x 63 = some qpk) (qpt : Nat) (gqpt : hx_g L h qpt 97) (f_x_64 : h.2.2 x 64 = some qpt) (odf : Nat → Int32) (af_qod : h.2.1 qod = odf) (svf : Nat → Int32) (af_qsv : h.2.1 qsv = svf) (szf : Nat → Int32) (af_qsz : h.2.1 qsz = szf) (gdf : Nat → Int32) (af_qgd : h.2.1 qgd = gdf) (owf : Nat → Int32) (af_qow : h.2.1 qow = owf) (plf : Nat → Int32) (af_qpl : h.2.1 qpl = plf) (rf : Nat → Int32) (af_qru : h.2.1 qru = rf) (pof : Nat → Int32) (af_qpo : h.2.1 qpo = pof) (pdf : Nat → Int32) (af_qpd : h.2.1 qpd = pdf) (psm : Nat → Int32) (af_qps : h.2.1 qps = psm) (pkf : Nat → Int32) (af_qpk : h.2.1 qpk = pkf) (pst : Nat → Int32) (af_qpt : h.2.1 qpt = pst) (pm0 : Int32) (f_x_59 : h.2.1 x 59 = pm0) (hi1 : 0 ≤ i1.toInt ∧ i1.toInt ≤ 99) : Met l yX10_looks (Cond.code yX10_looks cX10_looks 9 none :: hx_all) ({ frames := 1, cells := 0, slots := 0, locals := 22 }) (va_Pc [.ref x, .int i1, .int i2, .int i3] (hx_B T_tb (P_ty dA) (dC, dI) vwCl L h sz)) (va_Qv (fun (u : List Nat × hx_h) => (∃ (rs1 : Int32) (st1 : Int32), u.2.2.1 x 68 = rs1 ∧ u.2.2.1 x 71 = st1 ∧ (rs1.toInt = hx_R (hx_al odf svf szf gdf owf plf rf i2.toInt i1.toInt) (hx_ps pof pdf psm pkf pst i2.toInt i3.toInt i1.toInt pm0.toInt.toNat) ∧ (4 ≤ st1.toInt ∧ st1.toInt ≤ 6 ↔ 0 < rs1.toInt))) ∧ hx_T T_tb u.1 u.2 ∧ hx_S T_tb [(10, 67), (10, 68), (10, 69), (10, 70), (10, 71)] L h u.1 u.2) (hx_E T_tb (P_ty dA) (dC, dI) vwCl (hx_A L sz)) (hx_A L sz)) 0 0 (hx_A L sz) := by
  refine hx_met (lv := [(0, .ref x), (1, .int i1), (2, .int i2), (3, .int i3)]) (by decide +kernel) rfl (Nat.le_of_ble_eq_true rfl) rfl ?_
  intro p e s m below meth c hx hb hml hr hlk hts0 hown hin hsz hW ls hl
  have hts : ∀ w ∈ hx_all, w.before _ s = true := fun w hw => hts0 w (List.mem_cons_of_mem _ hw)
  have hown : s.vm.findClass "SmallCourtModel" = some m.cls := hown
  have hM : hx_S T_tb [(10, 67), (10, 68), (10, 69), (10, 70), (10, 71)] L h L h := hx_S.rf
  have b_pm0 := hT.gi gx tt_10 (k := 59) rfl
  rw [f_x_59] at b_pm0
  have b_pm0 : 0 ≤ pm0.toInt ∧ pm0.toInt ≤ 600 := b_pm0
  refine lv_aload_n hx hb dX10_looks_0 rfl (lv_at hl 0 rfl) ?_
  refine lv_iconst (v := 0) hx hb dX10_looks_1 (by decide) ?_
  refine hx_puti hx hb hts hC_10 hown hW hT (hx_S.rf (M := [(10, 67)])) (gx.S hM) tt_10 67 (by decide) rfl kw_1210 ⟨rfl, rfl, rfl⟩ rfl (x := (0 : Int32)) (by decide) rfl rfl rfl (List.mem_singleton.mpr rfl) dX10_looks_2 (fun H locs h_1 eh_1 hW hT hs => ?_)
  replace hM := hM.tr (hs.mono (by decide))
  have f_2 : h_1.2.1 x 67 = (0 : Int32) := by rw [eh_1]; exact hx_pi_at _ _ _ _
  refine lv_aload_n hx hb dX10_looks_5 rfl (lv_at hl 0 rfl) ?_
  refine lv_iconst (v := 0) hx hb dX10_looks_6 (by decide) ?_
  refine hx_puti hx hb hts hC_10 hown hW hT (hx_S.rf (M := [(10, 68)])) (gx.S hM) tt_10 68 (by decide) rfl kw_1211 ⟨rfl, rfl, rfl⟩ rfl (x := (0 : Int32)) (by decide) rfl rfl rfl (List.mem_singleton.mpr rfl) dX10_looks_7 (fun H locs h_3 eh_3 hW hT hs => ?_)
  replace f_2 := (hs.o (gx.S hM) trivial rfl).1.trans f_2
  replace hM := hM.tr (hs.mono (by decide))
  have f_4 : h_3.2.1 x 68 = (0 : Int32) := by rw [eh_3]; exact hx_pi_at _ _ _ _
  refine lv_aload_n hx hb dX10_looks_10 rfl (lv_at hl 0 rfl) ?_
  refine lv_iconst (v := 0) hx hb dX10_looks_11 (by decide) ?_
  refine hx_puti hx hb hts hC_10 hown hW hT (hx_S.rf (M := [(10, 69)])) (gx.S hM) tt_10 69 (by decide) rfl kw_1212 ⟨rfl, rfl, rfl⟩ rfl (x := (0 : Int32)) (by decide) rfl rfl rfl (List.mem_singleton.mpr rfl) dX10_looks_12 (fun H locs h_5 eh_5 hW hT hs => ?_)
  replace f_2 := (hs.o (gx.S hM) trivial rfl).1.trans f_2
  replace f_4 := (hs.o (gx.S hM) trivial rfl).1.trans f_4
  replace hM := hM.tr (hs.mono (by decide))
  have f_6 : h_5.2.1 x 69 = (0 : Int32) := by rw [eh_5]; exact hx_pi_at _ _ _ _
  refine lv_aload_n hx hb dX10_looks_15 rfl (lv_at hl 0 rfl) ?_
  refine lv_iconst (v := 0) hx hb dX10_looks_16 (by decide) ?_
  refine hx_puti hx hb hts hC_10 hown hW hT (hx_S.rf (M := [(10, 70)])) (gx.S hM) tt_10 70 (by decide) rfl kw_1213 ⟨rfl, rfl, rfl⟩ rfl (x := (0 : Int32)) (by decide) rfl rfl rfl (List.mem_singleton.mpr rfl) dX10_looks_17 (fun H locs h_7 eh_7 hW hT hs => ?_)
  replace f_2 := (hs.o (gx.S hM) trivial rfl).1.trans f_2
  replace f_4 := (hs.o (gx.S hM) trivial rfl).1.trans f_4
  replace f_6 := (hs.o (gx.S hM) trivial rfl).1.trans f_6
  replace hM := hM.tr (hs.mono (by decide))
  have f_8 : h_7.2.1 x 70 = (0 : Int32) := by rw [eh_7]; exact hx_pi_at _ _ _ _
  have join49 : ∀ (jw49_x_71 : Int32) (H : Heap) (locs : List Loc) (hL1 : List Nat) (hl1 : hx_h), 0 ≤ jw49_x_71.toInt → jw49_x_71.toInt ≤ 8 → (jw49_x_71.toInt ≤ 3) → ∀ (ls : Array Slot), hx_W T_tb (P_ty dA) (dC, dI) vwCl (hx_A L sz) s.heap hL1 hl1 s H locs → hx_T T_tb hL1 hl1 → hx_S T_tb [(10, 67), (10, 68), (10, 69), (10, 70), (10, 71)] L h hL1 hl1 → hl1.2.1 x 71 = jw49_x_71 → hl1.2.1 x 67 = (0 : Int32) → hl1.2.1 x 68 = (0 : Int32) → hl1.2.1 x 69 = (0 : Int32) → hl1.2.1 x 70 = (0 : Int32) → lv_has ls 9 [(0, .ref x), (1, .int i1), (2, .int i2), (3, .int i3)] → W p l e ({ frames := 1, cells := 0, slots := 0, locals := 22 }) s m ([.ref x, .int i1, .int i2, .int i3] : List Value).toArray below meth c H locs 0 0 (MQ below (va_Qv (fun (u : List Nat × hx_h) => (∃ (rs1 : Int32) (st1 : Int32), u.2.2.1 x 68 = rs1 ∧ u.2.2.1 x 71 = st1 ∧ (rs1.toInt = hx_R (hx_al odf svf szf gdf owf plf rf i2.toInt i1.toInt) (hx_ps pof pdf psm pkf pst i2.toInt i3.toInt i1.toInt pm0.toInt.toNat) ∧ (4 ≤ st1.toInt ∧ st1.toInt ≤ 6 ↔ 0 < rs1.toInt))) ∧ hx_T T_tb u.1 u.2 ∧ hx_S T_tb [(10, 67), (10, 68), (10, 69), (10, 70), (10, 71)] L h u.1 u.2) (hx_E T_tb (P_ty dA) (dC, dI) vwCl (hx_A L sz)) (hx_A L sz)) ([.ref x, .int i1, .int i2, .int i3] : List Value).toArray s 0 0 (hx_A L sz)) (F0 m 49 ls []) := by
    intro jw49_x_71 H locs hL1 hl1 bljw49_x_71 bujw49_x_71 vj49_0 ls hW hT hM fjw49_x_71 f_2 f_4 f_6 f_8  hl
    have join88 : ∀ (jw88_x_71 : Int32) (H : Heap) (locs : List Loc) (hL1 : List Nat) (hl1 : hx_h), 0 ≤ jw88_x_71.toInt → jw88_x_71.toInt ≤ 8 → (jw88_x_71.toInt ≤ 3) → ∀ (ls : Array Slot), hx_W T_tb (P_ty dA) (dC, dI) vwCl (hx_A L sz) s.heap hL1 hl1 s H locs → hx_T T_tb hL1 hl1 → hx_S T_tb [(10, 67), (10, 68), (10, 69), (10, 70), (10, 71)] L h hL1 hl1 → hl1.2.1 x 71 = jw88_x_71 → hl1.2.1 x 67 = (0 : Int32) → hl1.2.1 x 68 = (0 : Int32) → hl1.2.1 x 69 = (0 : Int32) → hl1.2.1 x 70 = (0 : Int32) → lv_has ls 9 [(0, .ref x), (1, .int i1), (2, .int i2), (3, .int i3)] → W p l e ({ frames := 1, cells := 0, slots := 0, locals := 22 }) s m ([.ref x, .int i1, .int i2, .int i3] : List Value).toArray below meth c H locs 0 0 (MQ below (va_Qv (fun (u : List Nat × hx_h) => (∃ (rs1 : Int32) (st1 : Int32), u.2.2.1 x 68 = rs1 ∧ u.2.2.1 x 71 = st1 ∧ (rs1.toInt = hx_R (hx_al odf svf szf gdf owf plf rf i2.toInt i1.toInt) (hx_ps pof pdf psm pkf pst i2.toInt i3.toInt i1.toInt pm0.toInt.toNat) ∧ (4 ≤ st1.toInt ∧ st1.toInt ≤ 6 ↔ 0 < rs1.toInt))) ∧ hx_T T_tb u.1 u.2 ∧ hx_S T_tb [(10, 67), (10, 68), (10, 69), (10, 70), (10, 71)] L h u.1 u.2) (hx_E T_tb (P_ty dA) (dC, dI) vwCl (hx_A L sz)) (hx_A L sz)) ([.ref x, .int i1, .int i2, .int i3] : List Value).toArray s 0 0 (hx_A L sz)) (F0 m 88 ls []) := by
      intro jw88_x_71 H locs hL1 hl1 bljw88_x_71 bujw88_x_71 vj88_0 ls hW hT hM fjw88_x_71 f_2 f_4 f_6 f_8  hl
      refine lv_aload_n hx hb dX10_looks_88 rfl (lv_at hl 0 rfl) ?_
      refine hk_getr hx hb hts hC_10 hown hW (gx.S hM) tt_10 48 (by decide) rfl kw_1191 ⟨rfl, rfl, rfl⟩ ((hM.o gx trivial rfl).2.trans f_x_48) dX10_looks_89 ?_
      refine lv_iload_n hx hb dX10_looks_92 rfl (lv_at hl 1 rfl) ?_
      refine hx_iald hx hb hW hT (gqod.S hM) tt_83 rfl ⟨by omega, by omega⟩ dX10_looks_93 (fun x_9 ex_9 lx_9 ux_9 => ?_)
      have ax_9 : x_9 = odf i1.toNatClampNeg := ex_9.trans (congrFun (hx_afS hM gqod rfl af_qod) _)
      have sx_9 : x_9.toInt = (odf i1.toInt.toNat).toInt := congrArg Int32.toInt ax_9
      refine lv_iconst (v := -1) hx hb dX10_looks_94 (by decide) ?_
      refine hb_icmp_eq (zx := x_9.toInt) (zy := (-1)) (tgt := 108) hx hb rfl (by decide) dX10_looks_95 (by decide) (fun c_10 => ?_) (fun c_10 => ?_)
      · skip
        have zo_0 : (0 : Int32).toInt = 0 := by decide
        exact hx_retv hx hb hr hlk hW ⟨⟨(0 : Int32), jw88_x_71, f_4, fjw88_x_71, ⟨(hx_R_none (by omega)).symm, by omega⟩⟩, hT, hM⟩ dX10_looks_108
      · skip
        refine lv_aload_n hx hb dX10_looks_98 rfl (lv_at hl 0 rfl) ?_
        refine hk_getr hx hb hts hC_10 hown hW (gx.S hM) tt_10 48 (by decide) rfl kw_1191 ⟨rfl, rfl, rfl⟩ ((hM.o gx trivial rfl).2.trans f_x_48) dX10_looks_99 ?_
        refine lv_iload_n hx hb dX10_looks_102 rfl (lv_at hl 1 rfl) ?_
        refine hx_iald hx hb hW hT (gqod.S hM) tt_83 rfl ⟨by omega, by omega⟩ dX10_looks_103 (fun x_11 ex_11 lx_11 ux_11 => ?_)
        have ax_11 : x_11 = odf i1.toNatClampNeg := ex_11.trans (congrFun (hx_afS hM gqod rfl af_qod) _)
        obtain rfl : x_9 = x_11 := ex_9.trans ex_11.symm
        refine lv_iload_n hx hb dX10_looks_104 rfl (lv_at hl 2 rfl) ?_
        refine hb_icmp_le (zx := x_9.toInt) (zy := i2.toInt) (tgt := 109) hx hb rfl rfl dX10_looks_105 (by decide) (fun c_12 => ?_) (fun c_12 => ?_)
        · skip
          have join136 : ∀ (jv136_4 : Int32) (H : Heap) (locs : List Loc) (hL1 : List Nat) (hl1 : hx_h), 0 ≤ jv136_4.toInt → jv136_4.toInt ≤ 1 → ((jv136_4.toInt = 1 ∧ (szf i1.toInt.toNat).toInt ≠ -1 ∧ (szf i1.toInt.toNat).toInt ≤ i2.toInt) ∨ (jv136_4.toInt = 0 ∧ ((szf i1.toInt.toNat).toInt = -1 ∨ i2.toInt < (szf i1.toInt.toNat).toInt))) → ∀ (ls : Array Slot), hx_W T_tb (P_ty dA) (dC, dI) vwCl (hx_A L sz) s.heap hL1 hl1 s H locs → hx_T T_tb hL1 hl1 → hx_S T_tb [(10, 67), (10, 68), (10, 69), (10, 70), (10, 71)] L h hL1 hl1 → hl1.2.1 x 67 = (0 : Int32) → hl1.2.1 x 68 = (0 : Int32) → hl1.2.1 x 69 = (0 : Int32) → hl1.2.1 x 70 = (0 : Int32) → hl1.2.1 x 71 = jw88_x_71 → lv_has ls 9 [(4, .int jv136_4), (0, .ref x), (1, .int i1), (2, .int i2), (3, .int i3)] → W p l e ({ frames := 1, cells := 0, slots := 0, locals := 22 }) s m ([.ref x, .int i1, .int i2, .int i3] : List Value).toArray below meth c H locs 0 0 (MQ below (va_Qv (fun (u : List Nat × hx_h) => (∃ (rs1 : Int32) (st1 : Int32), u.2.2.1 x 68 = rs1 ∧ u.2.2.1 x 71 = st1 ∧ (rs1.toInt = hx_R (hx_al odf svf szf gdf owf plf rf i2.toInt i1.toInt) (hx_ps pof pdf psm pkf pst i2.toInt i3.toInt i1.toInt pm0.toInt.toNat) ∧ (4 ≤ st1.toInt ∧ st1.toInt ≤ 6 ↔ 0 < rs1.toInt))) ∧ hx_T T_tb u.1 u.2 ∧ hx_S T_tb [(10, 67), (10, 68), (10, 69), (10, 70), (10, 71)] L h u.1 u.2) (hx_E T_tb (P_ty dA) (dC, dI) vwCl (hx_A L sz)) (hx_A L sz)) ([.ref x, .int i1, .int i2, .int i3] : List Value).toArray s 0 0 (hx_A L sz)) (F0 m 136 ls []) := by
            intro jv136_4 H locs hL1 hl1 bljv136_4 bujv136_4 vj136_0 ls hW hT hM f_2 f_4 f_6 f_8 fjw88_x_71  hl
            refine lv_iconst (v := 0) hx hb dX10_looks_136 (by decide) ?_
            refine lv_istore (lv' := [(5, .int (0 : Int32)), (4, .int jv136_4), (0, .ref x), (1, .int i1), (2, .int i2), (3, .int i3)]) hx hb dX10_looks_137 hl (by decide) rfl (fun ls hl => ?_)
            have loop139 : ∀ (n139 : Nat) (iv139_5 fw139_x_67 : Int32) (H : Heap) (locs : List Loc) (hL1 : List Nat) (hl1 : hx_h), 0 ≤ iv139_5.toInt → iv139_5.toInt ≤ 600 → 0 ≤ fw139_x_67.toInt → fw139_x_67.toInt ≤ 366100000 → (fw139_x_67.toInt ≤ 610000 * iv139_5.toInt) → (fw139_x_67.toInt = hx_ps pof pdf psm pkf pst i2.toInt i3.toInt i1.toInt ((iv139_5.toInt : Int)).toNat) → (iv139_5.toInt ≤ pm0.toInt) → ∀ (ls : Array Slot), 600 - iv139_5.toInt < (n139 : Int) → hx_W T_tb (P_ty dA) (dC, dI) vwCl (hx_A L sz) s.heap hL1 hl1 s H locs → hx_T T_tb hL1 hl1 → hx_S T_tb [(10, 67), (10, 68), (10, 69), (10, 70), (10, 71)] L h hL1 hl1 → hl1.2.1 x 67 = fw139_x_67 → hl1.2.1 x 68 = (0 : Int32) → hl1.2.1 x 69 = (0 : Int32) → hl1.2.1 x 70 = (0 : Int32) → hl1.2.1 x 71 = jw88_x_71 → lv_has ls 9 [(5, .int iv139_5), (4, .int jv136_4), (0, .ref x), (1, .int i1), (2, .int i2), (3, .int i3)] → W p l e ({ frames := 1, cells := 0, slots := 0, locals := 22 }) s m ([.ref x, .int i1, .int i2, .int i3] : List Value).toArray below meth c H locs 0 0 (MQ below (va_Qv (fun (u : List Nat × hx_h) => (∃ (rs1 : Int32) (st1 : Int32), u.2.2.1 x 68 = rs1 ∧ u.2.2.1 x 71 = st1 ∧ (rs1.toInt = hx_R (hx_al odf svf szf gdf owf plf rf i2.toInt i1.toInt) (hx_ps pof pdf psm pkf pst i2.toInt i3.toInt i1.toInt pm0.toInt.toNat) ∧ (4 ≤ st1.toInt ∧ st1.toInt ≤ 6 ↔ 0 < rs1.toInt))) ∧ hx_T T_tb u.1 u.2 ∧ hx_S T_tb [(10, 67), (10, 68), (10, 69), (10, 70), (10, 71)] L h u.1 u.2) (hx_E T_tb (P_ty dA) (dC, dI) vwCl (hx_A L sz)) (hx_A L sz)) ([.ref x, .int i1, .int i2, .int i3] : List Value).toArray s 0 0 (hx_A L sz)) (F0 m 139 ls []) := by
              intro n139
              induction n139 with
              | zero => intro iv139_5 fw139_x_67 H locs hL1 hl1 bliv139_5 buiv139_5 blfw139_x_67 bufw139_x_67 vi139_0 vi139_1 vi139_2 ls hn139; exfalso; omega
              | succ n139 ih139 =>
                intro iv139_5 fw139_x_67 H locs hL1 hl1 bliv139_5 buiv139_5 blfw139_x_67 bufw139_x_67 vi139_0 vi139_1 vi139_2 ls hn139 hW hT hM ffw139_x_67 f_4 f_6 f_8 fjw88_x_71  hl
                refine lv_iload hx hb dX10_looks_139 (lv_at hl 0 rfl) ?_
                refine lv_aload_n hx hb dX10_looks_141 rfl (lv_at hl 2 rfl) ?_
                refine hk_geti hx hb hts hC_10 hown hW (gx.S hM) tt_10 59 (by decide) rfl kw_1202 ⟨rfl, rfl, rfl⟩ ((hM.o gx trivial rfl).1.trans f_x_59) dX10_looks_142 ?_
                refine hb_icmp_ge (zx := iv139_5.toInt) (zy := pm0.toInt) (tgt := 225) hx hb rfl rfl dX10_looks_145 (by decide) (fun c_13 => ?_) (fun c_13 => ?_)
                · skip
                  have join279 : ∀ (jv279_5 jw279_x_67 : Int32) (H : Heap) (locs : List Loc) (hL1 : List Nat) (hl1 : hx_h), 0 ≤ jv279_5.toInt → jv279_5.toInt ≤ 609999 → 0 ≤ jw279_x_67.toInt → jw279_x_67.toInt ≤ 366100000 → (jv279_5.toInt - jw279_x_67.toInt = hx_ax szf gdf owf plf rf i2.toInt i1.toInt - hx_ps pof pdf psm pkf pst i2.toInt i3.toInt i1.toInt pm0.toInt.toNat) → ∀ (ls : Array Slot), hx_W T_tb (P_ty dA) (dC, dI) vwCl (hx_A L sz) s.heap hL1 hl1 s H locs → hx_T T_tb hL1 hl1 → hx_S T_tb [(10, 67), (10, 68), (10, 69), (10, 70), (10, 71)] L h hL1 hl1 → hl1.2.1 x 67 = jw279_x_67 → hl1.2.1 x 68 = (0 : Int32) → hl1.2.1 x 69 = (0 : Int32) → hl1.2.1 x 70 = (0 : Int32) → lv_has ls 9 [(5, .int jv279_5), (4, .int jv136_4), (0, .ref x), (1, .int i1), (2, .int i2), (3, .int i3)] → W p l e ({ frames := 1, cells := 0, slots := 0, locals := 22 }) s m ([.ref x, .int i1, .int i2, .int i3] : List Value).toArray below meth c H locs 0 0 (MQ below (va_Qv (fun (u : List Nat × hx_h) => (∃ (rs1 : Int32) (st1 : Int32), u.2.2.1 x 68 = rs1 ∧ u.2.2.1 x 71 = st1 ∧ (rs1.toInt = hx_R (hx_al odf svf szf gdf owf plf rf i2.toInt i1.toInt) (hx_ps pof pdf psm pkf pst i2.toInt i3.toInt i1.toInt pm0.toInt.toNat) ∧ (4 ≤ st1.toInt ∧ st1.toInt ≤ 6 ↔ 0 < rs1.toInt))) ∧ hx_T T_tb u.1 u.2 ∧ hx_S T_tb [(10, 67), (10, 68), (10, 69), (10, 70), (10, 71)] L h u.1 u.2) (hx_E T_tb (P_ty dA) (dC, dI) vwCl (hx_A L sz)) (hx_A L sz)) ([.ref x, .int i1, .int i2, .int i3] : List Value).toArray s 0 0 (hx_A L sz)) (F0 m 279 ls []) := by
                    intro jv279_5 jw279_x_67 H locs hL1 hl1 bljv279_5 bujv279_5 bljw279_x_67 bujw279_x_67 vj279_0 ls hW hT hM fjw279_x_67 f_4 f_6 f_8  hl
                    refine lv_aload_n hx hb dX10_looks_279 rfl (lv_at hl 2 rfl) ?_
                    refine hk_getr hx hb hts hC_10 hown hW (gx.S hM) tt_10 50 (by decide) rfl kw_1193 ⟨rfl, rfl, rfl⟩ ((hM.o gx trivial rfl).2.trans f_x_50) dX10_looks_280 ?_
                    refine lv_iload_n hx hb dX10_looks_283 rfl (lv_at hl 3 rfl) ?_
                    refine hx_iald hx hb hW hT (gqsv.S hM) tt_85 rfl ⟨by omega, by omega⟩ dX10_looks_284 (fun x_14 ex_14 lx_14 ux_14 => ?_)
                    have ax_14 : x_14 = svf i1.toNatClampNeg := ex_14.trans (congrFun (hx_afS hM gqsv rfl af_qsv) _)
                    have sx_14 : x_14.toInt = (svf i1.toInt.toNat).toInt := congrArg Int32.toInt ax_14
                    refine lv_iconst (v := -1) hx hb dX10_looks_285 (by decide) ?_
                    refine hb_icmp_eq (zx := x_14.toInt) (zy := (-1)) (tgt := 306) hx hb rfl (by decide) dX10_looks_286 (by decide) (fun c_15 => ?_) (fun c_15 => ?_)
                    · skip
                      have join330 : ∀ (jw330_x_68 : Int32) (H : Heap) (locs : List Loc) (hL1 : List Nat) (hl1 : hx_h), 0 ≤ jw330_x_68.toInt → jw330_x_68.toInt ≤ 610000 → ((jw279_x_67.toInt < jv279_5.toInt ∧ jw330_x_68.toInt = jv279_5.toInt - jw279_x_67.toInt) ∨ (jv279_5.toInt ≤ jw279_x_67.toInt ∧ jw330_x_68.toInt = 0)) → ∀ (ls : Array Slot), hx_W T_tb (P_ty dA) (dC, dI) vwCl (hx_A L sz) s.heap hL1 hl1 s H locs → hx_T T_tb hL1 hl1 → hx_S T_tb [(10, 67), (10, 68), (10, 69), (10, 70), (10, 71)] L h hL1 hl1 → hl1.2.1 x 68 = jw330_x_68 → hl1.2.1 x 69 = (0 : Int32) → hl1.2.1 x 70 = (0 : Int32) → hl1.2.1 x 67 = jw279_x_67 → lv_has ls 9 [(5, .int jv279_5), (4, .int jv136_4), (0, .ref x), (1, .int i1), (2, .int i2), (3, .int i3)] → W p l e ({ frames := 1, cells := 0, slots := 0, locals := 22 }) s m ([.ref x, .int i1, .int i2, .int i3] : List Value).toArray below meth c H locs 0 0 (MQ below (va_Qv (fun (u : List Nat × hx_h) => (∃ (rs1 : Int32) (st1 : Int32), u.2.2.1 x 68 = rs1 ∧ u.2.2.1 x 71 = st1 ∧ (rs1.toInt = hx_R (hx_al odf svf szf gdf owf plf rf i2.toInt i1.toInt) (hx_ps pof pdf psm pkf pst i2.toInt i3.toInt i1.toInt pm0.toInt.toNat) ∧ (4 ≤ st1.toInt ∧ st1.toInt ≤ 6 ↔ 0 < rs1.toInt))) ∧ hx_T T_tb u.1 u.2 ∧ hx_S T_tb [(10, 67), (10, 68), (10, 69), (10, 70), (10, 71)] L h u.1 u.2) (hx_E T_tb (P_ty dA) (dC, dI) vwCl (hx_A L sz)) (hx_A L sz)) ([.ref x, .int i1, .int i2, .int i3] : List Value).toArray s 0 0 (hx_A L sz)) (F0 m 330 ls []) := by
                        intro jw330_x_68 H locs hL1 hl1 bljw330_x_68 bujw330_x_68 vj330_0 ls hW hT hM fjw330_x_68 f_6 f_8 fjw279_x_67  hl
                        have join354 : ∀ (jw354_x_69 : Int32) (H : Heap) (locs : List Loc) (hL1 : List Nat) (hl1 : hx_h), -2147483648 ≤ jw354_x_69.toInt → jw354_x_69.toInt ≤ 2147483647 → ∀ (ls : Array Slot), hx_W T_tb (P_ty dA) (dC, dI) vwCl (hx_A L sz) s.heap hL1 hl1 s H locs → hx_T T_tb hL1 hl1 → hx_S T_tb [(10, 67), (10, 68), (10, 69), (10, 70), (10, 71)] L h hL1 hl1 → hl1.2.1 x 69 = jw354_x_69 → hl1.2.1 x 70 = (0 : Int32) → hl1.2.1 x 67 = jw279_x_67 → hl1.2.1 x 68 = jw330_x_68 → lv_has ls 9 [(5, .int jv279_5), (4, .int jv136_4), (0, .ref x), (1, .int i1), (2, .int i2), (3, .int i3)] → W p l e ({ frames := 1, cells := 0, slots := 0, locals := 22 }) s m ([.ref x, .int i1, .int i2, .int i3] : List Value).toArray below meth c H locs 0 0 (MQ below (va_Qv (fun (u : List Nat × hx_h) => (∃ (rs1 : Int32) (st1 : Int32), u.2.2.1 x 68 = rs1 ∧ u.2.2.1 x 71 = st1 ∧ (rs1.toInt = hx_R (hx_al odf svf szf gdf owf plf rf i2.toInt i1.toInt) (hx_ps pof pdf psm pkf pst i2.toInt i3.toInt i1.toInt pm0.toInt.toNat) ∧ (4 ≤ st1.toInt ∧ st1.toInt ≤ 6 ↔ 0 < rs1.toInt))) ∧ hx_T T_tb u.1 u.2 ∧ hx_S T_tb [(10, 67), (10, 68), (10, 69), (10, 70), (10, 71)] L h u.1 u.2) (hx_E T_tb (P_ty dA) (dC, dI) vwCl (hx_A L sz)) (hx_A L sz)) ([.ref x, .int i1, .int i2, .int i3] : List Value).toArray s 0 0 (hx_A L sz)) (F0 m 354 ls []) := by
                          intro jw354_x_69 H locs hL1 hl1 bljw354_x_69 bujw354_x_69  ls hW hT hM fjw354_x_69 f_8 fjw279_x_67 fjw330_x_68  hl
                          have join437 : ∀ (jw437_x_70 : Int32) (H : Heap) (locs : List Loc) (hL1 : List Nat) (hl1 : hx_h), -2147483648 ≤ jw437_x_70.toInt → jw437_x_70.toInt ≤ 2147483647 → ∀ (ls : Array Slot), hx_W T_tb (P_ty dA) (dC, dI) vwCl (hx_A L sz) s.heap hL1 hl1 s H locs → hx_T T_tb hL1 hl1 → hx_S T_tb [(10, 67), (10, 68), (10, 69), (10, 70), (10, 71)] L h hL1 hl1 → hl1.2.1 x 70 = jw437_x_70 → hl1.2.1 x 67 = jw279_x_67 → hl1.2.1 x 68 = jw330_x_68 → hl1.2.1 x 69 = jw354_x_69 → lv_has ls 9 [(5, .int jv279_5), (4, .int jv136_4), (0, .ref x), (1, .int i1), (2, .int i2), (3, .int i3)] → W p l e ({ frames := 1, cells := 0, slots := 0, locals := 22 }) s m ([.ref x, .int i1, .int i2, .int i3] : List Value).toArray below meth c H locs 0 0 (MQ below (va_Qv (fun (u : List Nat × hx_h) => (∃ (rs1 : Int32) (st1 : Int32), u.2.2.1 x 68 = rs1 ∧ u.2.2.1 x 71 = st1 ∧ (rs1.toInt = hx_R (hx_al odf svf szf gdf owf plf rf i2.toInt i1.toInt) (hx_ps pof pdf psm pkf pst i2.toInt i3.toInt i1.toInt pm0.toInt.toNat) ∧ (4 ≤ st1.toInt ∧ st1.toInt ≤ 6 ↔ 0 < rs1.toInt))) ∧ hx_T T_tb u.1 u.2 ∧ hx_S T_tb [(10, 67), (10, 68), (10, 69), (10, 70), (10, 71)] L h u.1 u.2) (hx_E T_tb (P_ty dA) (dC, dI) vwCl (hx_A L sz)) (hx_A L sz)) ([.ref x, .int i1, .int i2, .int i3] : List Value).toArray s 0 0 (hx_A L sz)) (F0 m 437 ls []) := by
                            intro jw437_x_70 H locs hL1 hl1 bljw437_x_70 bujw437_x_70  ls hW hT hM fjw437_x_70 fjw279_x_67 fjw330_x_68 fjw354_x_69  hl
                            refine lv_aload_n hx hb dX10_looks_437 rfl (lv_at hl 2 rfl) ?_
                            refine lv_aload_n hx hb dX10_looks_438 rfl (lv_at hl 2 rfl) ?_
                            refine hk_getr hx hb hts hC_10 hown hW (gx.S hM) tt_10 44 (by decide) rfl kw_1187 ⟨rfl, rfl, rfl⟩ ((hM.o gx trivial rfl).2.trans f_x_44) dX10_looks_439 ?_
                            refine lv_iload_n hx hb dX10_looks_442 rfl (lv_at hl 3 rfl) ?_
                            refine hx_iald hx hb hW hT (gqpl.S hM) tt_79 rfl ⟨by omega, by omega⟩ dX10_looks_443 (fun x_16 ex_16 lx_16 ux_16 => ?_)
                            have ax_16 : x_16 = plf i1.toNatClampNeg := ex_16.trans (congrFun (hx_afS hM gqpl rfl af_qpl) _)
                            refine lv_iconst (v := 4) hx hb dX10_looks_444 (by decide) ?_
                            have zc_4 : (4 : Int32).toInt = 4 := by decide
                            refine hx_goi (hx_runV (As := [.int x_16, .int (4 : Int32)]) (rest := []) ⟨hx, hb, hml, hown, hts⟩ hW (gx.S hM) tt_10 (T := TX10) (N := 98) rfl (t_X10_ruleOf_2 l dC dI dA hL1 hl1 H.size x x_16 (4 : Int32) hT (gx.S hM) qru (gqru.S hM) ((hM.o gx trivial rfl).2.trans f_x_3) rf (hx_afS hM gqru rfl af_qru) ⟨by omega, by omega⟩ (by decide)) (cwV 2 hts (hx_gV kw_1533 kw_1530 kw_1532 kw_66 kw_103) rfl rfl rfl (by decide +kernel) ⟨Nat.le_of_ble_eq_true rfl, Nat.le_of_ble_eq_true rfl⟩) rfl hl.1 rfl (Nat.le_of_ble_eq_true rfl) dX10_looks_445 ⟨Nat.le_of_ble_eq_true rfl, Nat.le_of_ble_eq_true rfl⟩) hW (fun r_19 L_17 h_18 H locs p_20 hW => ?_)
                            obtain ⟨hr_21, hT, hs⟩ := p_20
                            replace hT : hx_T T_tb L_17 h_18 := hT
                            replace hs : hx_S T_tb [] hL1 hl1 L_17 h_18 := hs
                            replace fjw279_x_67 := (hs.o (gx.S hM) trivial rfl).1.trans fjw279_x_67
                            replace fjw330_x_68 := (hs.o (gx.S hM) trivial rfl).1.trans fjw330_x_68
                            replace fjw354_x_69 := (hs.o (gx.S hM) trivial rfl).1.trans fjw354_x_69
                            replace fjw437_x_70 := (hs.o (gx.S hM) trivial rfl).1.trans fjw437_x_70
                            replace ex_16 := ex_16.trans (hs.a (gqpl.S hM) rfl _).1.symm
                            replace hM := hM.tr (hs.mono (by decide))
                            refine lv_istore (lv' := [(8, .int r_19), (5, .int jv279_5), (4, .int jv136_4), (0, .ref x), (1, .int i1), (2, .int i2), (3, .int i3)]) hx hb dX10_looks_448 hl (by decide) rfl (fun ls hl => ?_)
                            refine lv_aload_n hx hb dX10_looks_450 rfl (lv_at hl 3 rfl) ?_
                            refine lv_aload_n hx hb dX10_looks_451 rfl (lv_at hl 3 rfl) ?_
                            refine hk_geti hx hb hts hC_10 hown hW (gx.S hM) tt_10 68 (by decide) rfl kw_1211 ⟨rfl, rfl, rfl⟩ fjw330_x_68 dX10_looks_452 ?_
                            refine hb_if_ne (zx := jw330_x_68.toInt) (tgt := 463) hx hb rfl dX10_looks_455 (by decide) (fun c_22 => ?_) (fun c_22 => ?_)
                            · skip
                              refine lv_aload_n hx hb dX10_looks_463 rfl (lv_at hl 3 rfl) ?_
                              refine hk_geti hx hb hts hC_10 hown hW (gx.S hM) tt_10 70 (by decide) rfl kw_1213 ⟨rfl, rfl, rfl⟩ fjw437_x_70 dX10_looks_464 ?_
                              refine lv_iload hx hb dX10_looks_467 (lv_at hl 0 rfl) ?_
                              refine lv_aload_n hx hb dX10_looks_469 rfl (lv_at hl 3 rfl) ?_
                              refine lv_aload_n hx hb dX10_looks_470 rfl (lv_at hl 3 rfl) ?_
                              refine hk_getr hx hb hts hC_10 hown hW (gx.S hM) tt_10 44 (by decide) rfl kw_1187 ⟨rfl, rfl, rfl⟩ ((hM.o gx trivial rfl).2.trans f_x_44) dX10_looks_471 ?_
                              refine lv_iload_n hx hb dX10_looks_474 rfl (lv_at hl 4 rfl) ?_
                              refine hx_iald hx hb hW hT (gqpl.S hM) tt_79 rfl ⟨by omega, by omega⟩ dX10_looks_475 (fun x_23 ex_23 lx_23 ux_23 => ?_)
                              have ax_23 : x_23 = plf i1.toNatClampNeg := ex_23.trans (congrFun (hx_afS hM gqpl rfl af_qpl) _)
                              obtain rfl : x_16 = x_23 := ex_16.trans ex_23.symm
                              refine lv_iconst (v := 5) hx hb dX10_looks_476 (by decide) ?_
                              have zc_5 : (5 : Int32).toInt = 5 := by decide
                              refine hx_goi (hx_runV (As := [.int x_16, .int (5 : Int32)]) (rest := [.int r_19, .int jw437_x_70, .ref x]) ⟨hx, hb, hml, hown, hts⟩ hW (gx.S hM) tt_10 (T := TX10) (N := 98) rfl (t_X10_ruleOf_2 l dC dI dA L_17 h_18 H.size x x_16 (5 : Int32) hT (gx.S hM) qru (gqru.S hM) ((hM.o gx trivial rfl).2.trans f_x_3) rf (hx_afS hM gqru rfl af_qru) ⟨by omega, by omega⟩ (by decide)) (cwV 2 hts (hx_gV kw_1533 kw_1530 kw_1532 kw_66 kw_103) rfl rfl rfl (by decide +kernel) ⟨Nat.le_of_ble_eq_true rfl, Nat.le_of_ble_eq_true rfl⟩) rfl hl.1 rfl (Nat.le_of_ble_eq_true rfl) dX10_looks_477 ⟨Nat.le_of_ble_eq_true rfl, Nat.le_of_ble_eq_true rfl⟩) hW (fun r_26 L_24 h_25 H locs p_27 hW => ?_)
                              obtain ⟨hr_28, hT, hs⟩ := p_27
                              replace hT : hx_T T_tb L_24 h_25 := hT
                              replace hs : hx_S T_tb [] L_17 h_18 L_24 h_25 := hs
                              replace fjw279_x_67 := (hs.o (gx.S hM) trivial rfl).1.trans fjw279_x_67
                              replace fjw330_x_68 := (hs.o (gx.S hM) trivial rfl).1.trans fjw330_x_68
                              replace fjw354_x_69 := (hs.o (gx.S hM) trivial rfl).1.trans fjw354_x_69
                              replace fjw437_x_70 := (hs.o (gx.S hM) trivial rfl).1.trans fjw437_x_70
                              replace ex_16 := ex_16.trans (hs.a (gqpl.S hM) rfl _).1.symm
                              replace hM := hM.tr (hs.mono (by decide))
                              refine lv_iadd hx hb dX10_looks_480 ?_
                              have rg_29 := i32_r r_19
                              have rg_30 := i32_r r_26
                              refine lv_topi (fun x_31 ex_31 => ?_)
                              have zx_31 : x_31.toInt = r_19.toInt + r_26.toInt := by rw [ex_31]; exact i32_add rfl rfl (by omega) (by omega)
                              refine hb_icmp_lt (zx := jw437_x_70.toInt) (zy := x_31.toInt) (tgt := 489) hx hb rfl rfl dX10_looks_481 (by decide) (fun c_32 => ?_) (fun c_32 => ?_)
                              · skip
                                refine lv_aload_n hx hb dX10_looks_489 rfl (lv_at hl 3 rfl) ?_
                                refine hk_geti hx hb hts hC_10 hown hW (gx.S hM) tt_10 70 (by decide) rfl kw_1213 ⟨rfl, rfl, rfl⟩ fjw437_x_70 dX10_looks_490 ?_
                                refine lv_iload hx hb dX10_looks_493 (lv_at hl 0 rfl) ?_
                                refine hb_icmp_lt (zx := jw437_x_70.toInt) (zy := r_19.toInt) (tgt := 502) hx hb rfl rfl dX10_looks_495 (by decide) (fun c_33 => ?_) (fun c_33 => ?_)
                                · skip
                                  refine lv_iconst (v := 4) hx hb dX10_looks_502 (by decide) ?_
                                  refine hx_puti hx hb hts hC_10 hown hW hT (hx_S.rf (M := [(10, 71)])) (gx.S hM) tt_10 71 (by decide) rfl kw_1214 ⟨rfl, rfl, rfl⟩ rfl (x := (4 : Int32)) (by decide) rfl rfl rfl (List.mem_singleton.mpr rfl) dX10_looks_503 (fun H locs h_34 eh_34 hW hT hs => ?_)
                                  replace fjw279_x_67 := (hs.o (gx.S hM) trivial rfl).1.trans fjw279_x_67
                                  replace fjw330_x_68 := (hs.o (gx.S hM) trivial rfl).1.trans fjw330_x_68
                                  replace fjw354_x_69 := (hs.o (gx.S hM) trivial rfl).1.trans fjw354_x_69
                                  replace fjw437_x_70 := (hs.o (gx.S hM) trivial rfl).1.trans fjw437_x_70
                                  replace ex_16 := ex_16.trans (hs.a (gqpl.S hM) rfl _).1.symm
                                  replace hM := hM.tr (hs.mono (by decide))
                                  have f_35 : h_34.2.1 x 71 = (4 : Int32) := by rw [eh_34]; exact hx_pi_at _ _ _ _
                                  have zo_4 : (4 : Int32).toInt = 4 := by decide
                                  exact hx_retv hx hb hr hlk hW ⟨⟨jw330_x_68, (4 : Int32), fjw330_x_68, f_35, ⟨by rw [hx_R_some (by omega) (by omega)]; split <;> omega, by omega⟩⟩, hT, hM⟩ dX10_looks_506
                                · skip
                                  refine lv_iconst (v := 5) hx hb dX10_looks_498 (by decide) ?_
                                  refine lv_goto (tgt := 503) hx hb dX10_looks_499 (by decide) ?_
                                  refine hx_puti hx hb hts hC_10 hown hW hT (hx_S.rf (M := [(10, 71)])) (gx.S hM) tt_10 71 (by decide) rfl kw_1214 ⟨rfl, rfl, rfl⟩ rfl (x := (5 : Int32)) (by decide) rfl rfl rfl (List.mem_singleton.mpr rfl) dX10_looks_503 (fun H locs h_36 eh_36 hW hT hs => ?_)
                                  replace fjw279_x_67 := (hs.o (gx.S hM) trivial rfl).1.trans fjw279_x_67
                                  replace fjw330_x_68 := (hs.o (gx.S hM) trivial rfl).1.trans fjw330_x_68
                                  replace fjw354_x_69 := (hs.o (gx.S hM) trivial rfl).1.trans fjw354_x_69
                                  replace fjw437_x_70 := (hs.o (gx.S hM) trivial rfl).1.trans fjw437_x_70
                                  replace ex_16 := ex_16.trans (hs.a (gqpl.S hM) rfl _).1.symm
                                  replace hM := hM.tr (hs.mono (by decide))
                                  have f_37 : h_36.2.1 x 71 = (5 : Int32) := by rw [eh_36]; exact hx_pi_at _ _ _ _
                                  have zo_5 : (5 : Int32).toInt = 5 := by decide
                                  exact hx_retv hx hb hr hlk hW ⟨⟨jw330_x_68, (5 : Int32), fjw330_x_68, f_37, ⟨by rw [hx_R_some (by omega) (by omega)]; split <;> omega, by omega⟩⟩, hT, hM⟩ dX10_looks_506
                              · skip
                                refine lv_bipush (v := 6) hx hb dX10_looks_484 (by decide) ?_
                                refine lv_goto (tgt := 503) hx hb dX10_looks_486 (by decide) ?_
                                refine hx_puti hx hb hts hC_10 hown hW hT (hx_S.rf (M := [(10, 71)])) (gx.S hM) tt_10 71 (by decide) rfl kw_1214 ⟨rfl, rfl, rfl⟩ rfl (x := (6 : Int32)) (by decide) rfl rfl rfl (List.mem_singleton.mpr rfl) dX10_looks_503 (fun H locs h_38 eh_38 hW hT hs => ?_)
                                replace fjw279_x_67 := (hs.o (gx.S hM) trivial rfl).1.trans fjw279_x_67
                                replace fjw330_x_68 := (hs.o (gx.S hM) trivial rfl).1.trans fjw330_x_68
                                replace fjw354_x_69 := (hs.o (gx.S hM) trivial rfl).1.trans fjw354_x_69
                                replace fjw437_x_70 := (hs.o (gx.S hM) trivial rfl).1.trans fjw437_x_70
                                replace ex_16 := ex_16.trans (hs.a (gqpl.S hM) rfl _).1.symm
                                replace hM := hM.tr (hs.mono (by decide))
                                have f_39 : h_38.2.1 x 71 = (6 : Int32) := by rw [eh_38]; exact hx_pi_at _ _ _ _
                                have zo_6 : (6 : Int32).toInt = 6 := by decide
                                exact hx_retv hx hb hr hlk hW ⟨⟨jw330_x_68, (6 : Int32), fjw330_x_68, f_39, ⟨by rw [hx_R_some (by omega) (by omega)]; split <;> omega, by omega⟩⟩, hT, hM⟩ dX10_looks_506
                            · skip
                              refine lv_bipush (v := 7) hx hb dX10_looks_458 (by decide) ?_
                              refine lv_goto (tgt := 503) hx hb dX10_looks_460 (by decide) ?_
                              refine hx_puti hx hb hts hC_10 hown hW hT (hx_S.rf (M := [(10, 71)])) (gx.S hM) tt_10 71 (by decide) rfl kw_1214 ⟨rfl, rfl, rfl⟩ rfl (x := (7 : Int32)) (by decide) rfl rfl rfl (List.mem_singleton.mpr rfl) dX10_looks_503 (fun H locs h_40 eh_40 hW hT hs => ?_)
                              replace fjw279_x_67 := (hs.o (gx.S hM) trivial rfl).1.trans fjw279_x_67
                              replace fjw330_x_68 := (hs.o (gx.S hM) trivial rfl).1.trans fjw330_x_68
                              replace fjw354_x_69 := (hs.o (gx.S hM) trivial rfl).1.trans fjw354_x_69
                              replace fjw437_x_70 := (hs.o (gx.S hM) trivial rfl).1.trans fjw437_x_70
                              replace ex_16 := ex_16.trans (hs.a (gqpl.S hM) rfl _).1.symm
                              replace hM := hM.tr (hs.mono (by decide))
                              have f_41 : h_40.2.1 x 71 = (7 : Int32) := by rw [eh_40]; exact hx_pi_at _ _ _ _
                              have zo_7 : (7 : Int32).toInt = 7 := by decide
                              exact hx_retv hx hb hr hlk hW ⟨⟨jw330_x_68, (7 : Int32), fjw330_x_68, f_41, ⟨by rw [hx_R_some (by omega) (by omega)]; split <;> omega, by omega⟩⟩, hT, hM⟩ dX10_looks_506
                          refine lv_iload_n hx hb dX10_looks_354 rfl (lv_at hl 4 rfl) ?_
                          refine lv_aload_n hx hb dX10_looks_355 rfl (lv_at hl 2 rfl) ?_
                          refine hk_getr hx hb hts hC_10 hown hW (gx.S hM) tt_10 48 (by decide) rfl kw_1191 ⟨rfl, rfl, rfl⟩ ((hM.o gx trivial rfl).2.trans f_x_48) dX10_looks_356 ?_
                          refine lv_iload_n hx hb dX10_looks_359 rfl (lv_at hl 3 rfl) ?_
                          refine hx_iald hx hb hW hT (gqod.S hM) tt_83 rfl ⟨by omega, by omega⟩ dX10_looks_360 (fun x_42 ex_42 lx_42 ux_42 => ?_)
                          have ax_42 : x_42 = odf i1.toNatClampNeg := ex_42.trans (congrFun (hx_afS hM gqod rfl af_qod) _)
                          refine lv_isub hx hb dX10_looks_361 ?_
                          have rg_43 := i32_r i2
                          have rg_44 := i32_r x_42
                          refine lv_topi (fun x_45 ex_45 => ?_)
                          refine lv_bipush (v := 7) hx hb dX10_looks_362 (by decide) ?_
                          refine lv_idiv hx hb dX10_looks_364 (by decide) ?_
                          refine lv_topi (fun x_46 ex_46 => ?_)
                          have zx_46 : -1073741824 ≤ x_46.toInt ∧ x_46.toInt ≤ 1073741824 := by rw [ex_46]; exact hx_divb (by decide)
                          refine lv_istore (lv' := [(6, .int x_46), (5, .int jv279_5), (4, .int jv136_4), (0, .ref x), (1, .int i1), (2, .int i2), (3, .int i3)]) hx hb dX10_looks_365 hl (by decide) rfl (fun ls hl => ?_)
                          refine lv_aload_n hx hb dX10_looks_367 rfl (lv_at hl 3 rfl) ?_
                          refine hx_getn hx hb hts hC_10 hown hW hT (gx.S hM) tt_10 54 (by decide) rfl kw_1197 ⟨rfl, rfl, rfl⟩ dX10_looks_368 (fun q_47 fq_47 gq_47 => ?_)
                          refine lv_iload_n hx hb dX10_looks_371 rfl (lv_at hl 4 rfl) ?_
                          refine hx_iald hx hb hW hT gq_47 tt_89 rfl ⟨by omega, by omega⟩ dX10_looks_372 (fun x_48 ex_48 lx_48 ux_48 => ?_)
                          refine lv_iload hx hb dX10_looks_373 (lv_at hl 0 rfl) ?_
                          refine lv_imul hx hb dX10_looks_375 ?_
                          refine lv_topi (fun x_49 ex_49 => ?_)
                          have mx_49 : x_48.toInt = 0 → x_49.toInt = 0 := fun z => by rw [ex_49]; exact hx_mul0 z
                          refine lv_iload hx hb dX10_looks_376 (lv_at hl 1 rfl) ?_
                          refine hb_icmp_ge (zx := x_49.toInt) (zy := jv279_5.toInt) (tgt := 393) hx hb rfl rfl dX10_looks_378 (by decide) (fun c_50 => ?_) (fun c_50 => ?_)
                          · skip
                            refine lv_iload hx hb dX10_looks_393 (lv_at hl 1 rfl) ?_
                            refine lv_istore (lv' := [(7, .int jv279_5), (6, .int x_46), (5, .int jv279_5), (4, .int jv136_4), (0, .ref x), (1, .int i1), (2, .int i2), (3, .int i3)]) hx hb dX10_looks_395 hl (by decide) rfl (fun ls hl => ?_)
                            refine lv_aload_n hx hb dX10_looks_397 rfl (lv_at hl 4 rfl) ?_
                            refine lv_iload hx hb dX10_looks_398 (lv_at hl 0 rfl) ?_
                            refine lv_aload_n hx hb dX10_looks_400 rfl (lv_at hl 4 rfl) ?_
                            refine hk_geti hx hb hts hC_10 hown hW (gx.S hM) tt_10 67 (by decide) rfl kw_1210 ⟨rfl, rfl, rfl⟩ fjw279_x_67 dX10_looks_401 ?_
                            refine hb_icmp_le (zx := jv279_5.toInt) (zy := jw279_x_67.toInt) (tgt := 433) hx hb rfl rfl dX10_looks_404 (by decide) (fun c_51 => ?_) (fun c_51 => ?_)
                            · skip
                              refine lv_iconst (v := 0) hx hb dX10_looks_433 (by decide) ?_
                              refine hx_puti hx hb hts hC_10 hown hW hT (hx_S.rf (M := [(10, 70)])) (gx.S hM) tt_10 70 (by decide) rfl kw_1213 ⟨rfl, rfl, rfl⟩ rfl (x := (0 : Int32)) (by decide) rfl rfl rfl (List.mem_singleton.mpr rfl) dX10_looks_434 (fun H locs h_52 eh_52 hW hT hs => ?_)
                              replace fjw279_x_67 := (hs.o (gx.S hM) trivial rfl).1.trans fjw279_x_67
                              replace fjw330_x_68 := (hs.o (gx.S hM) trivial rfl).1.trans fjw330_x_68
                              replace fjw354_x_69 := (hs.o (gx.S hM) trivial rfl).1.trans fjw354_x_69
                              replace fq_47 := (hs.o (gx.S hM) trivial rfl).2.trans fq_47
                              replace ex_42 := ex_42.trans (hs.a (gqod.S hM) rfl _).1.symm
                              replace ex_48 := ex_48.trans (hs.a gq_47 rfl _).1.symm
                              replace hM := hM.tr (hs.mono (by decide))
                              replace gq_47 := gq_47.S hs
                              have f_53 : h_52.2.1 x 70 = (0 : Int32) := by rw [eh_52]; exact hx_pi_at _ _ _ _
                              have zk_0 : (0 : Int32).toInt = 0 := by decide
                              exact join437 (0 : Int32) _ _ hL1 h_52 (by decide) (by decide)  ls hW hT hM f_53 fjw279_x_67 fjw330_x_68 fjw354_x_69  (lv_sub hl [2, 3, 4, 5, 6, 7] rfl)
                            · skip
                              refine lv_iload hx hb dX10_looks_407 (lv_at hl 0 rfl) ?_
                              refine lv_aload_n hx hb dX10_looks_409 rfl (lv_at hl 4 rfl) ?_
                              refine hk_geti hx hb hts hC_10 hown hW (gx.S hM) tt_10 67 (by decide) rfl kw_1210 ⟨rfl, rfl, rfl⟩ fjw279_x_67 dX10_looks_410 ?_
                              refine lv_isub hx hb dX10_looks_413 ?_
                              have rg_54 := i32_r jv279_5
                              have rg_55 := i32_r jw279_x_67
                              refine lv_topi (fun x_56 ex_56 => ?_)
                              have zx_56 : x_56.toInt = jv279_5.toInt - jw279_x_67.toInt := by rw [ex_56]; exact i32_sub rfl rfl (by omega) (by omega)
                              refine lv_aload_n hx hb dX10_looks_414 rfl (lv_at hl 4 rfl) ?_
                              refine hk_getr hx hb hts hC_10 hown hW (gx.S hM) tt_10 54 (by decide) rfl kw_1197 ⟨rfl, rfl, rfl⟩ fq_47 dX10_looks_415 ?_
                              refine lv_iload_n hx hb dX10_looks_418 rfl (lv_at hl 5 rfl) ?_
                              refine hx_iald hx hb hW hT gq_47 tt_89 rfl ⟨by omega, by omega⟩ dX10_looks_419 (fun x_57 ex_57 lx_57 ux_57 => ?_)
                              obtain rfl : x_48 = x_57 := ex_48.trans ex_57.symm
                              refine lv_iadd hx hb dX10_looks_420 ?_
                              have rg_58 := i32_r x_56
                              have rg_59 := i32_r x_48
                              refine lv_topi (fun x_60 ex_60 => ?_)
                              refine lv_iconst (v := 1) hx hb dX10_looks_421 (by decide) ?_
                              refine lv_isub hx hb dX10_looks_422 ?_
                              have rg_61 := i32_r x_60
                              refine lv_topi (fun x_62 ex_62 => ?_)
                              refine lv_aload_n hx hb dX10_looks_423 rfl (lv_at hl 4 rfl) ?_
                              refine hk_getr hx hb hts hC_10 hown hW (gx.S hM) tt_10 54 (by decide) rfl kw_1197 ⟨rfl, rfl, rfl⟩ fq_47 dX10_looks_424 ?_
                              refine lv_iload_n hx hb dX10_looks_427 rfl (lv_at hl 5 rfl) ?_
                              refine hx_iald hx hb hW hT gq_47 tt_89 rfl ⟨by omega, by omega⟩ dX10_looks_428 (fun x_63 ex_63 lx_63 ux_63 => ?_)
                              obtain rfl : x_48 = x_63 := ex_48.trans ex_63.symm
                              refine lv_idiv hx hb dX10_looks_429 (hx_ne0 (by omega)) ?_
                              refine lv_topi (fun x_64 ex_64 => ?_)
                              refine lv_goto (tgt := 434) hx hb dX10_looks_430 (by decide) ?_
                              refine hx_puti hx hb hts hC_10 hown hW hT (hx_S.rf (M := [(10, 70)])) (gx.S hM) tt_10 70 (by decide) rfl kw_1213 ⟨rfl, rfl, rfl⟩ rfl (x := x_64) (i32_r _) rfl rfl rfl (List.mem_singleton.mpr rfl) dX10_looks_434 (fun H locs h_65 eh_65 hW hT hs => ?_)
                              replace fjw279_x_67 := (hs.o (gx.S hM) trivial rfl).1.trans fjw279_x_67
                              replace fjw330_x_68 := (hs.o (gx.S hM) trivial rfl).1.trans fjw330_x_68
                              replace fjw354_x_69 := (hs.o (gx.S hM) trivial rfl).1.trans fjw354_x_69
                              replace fq_47 := (hs.o (gx.S hM) trivial rfl).2.trans fq_47
                              replace ex_42 := ex_42.trans (hs.a (gqod.S hM) rfl _).1.symm
                              replace ex_48 := ex_48.trans (hs.a gq_47 rfl _).1.symm
                              replace hM := hM.tr (hs.mono (by decide))
                              replace gq_47 := gq_47.S hs
                              have f_66 : h_65.2.1 x 70 = x_64 := by rw [eh_65]; exact hx_pi_at _ _ _ _
                              exact join437 x_64 _ _ hL1 h_65 (i32_r _).1 (i32_r _).2  ls hW hT hM f_66 fjw279_x_67 fjw330_x_68 fjw354_x_69  (lv_sub hl [2, 3, 4, 5, 6, 7] rfl)
                          · skip
                            refine lv_aload_n hx hb dX10_looks_381 rfl (lv_at hl 3 rfl) ?_
                            refine hk_getr hx hb hts hC_10 hown hW (gx.S hM) tt_10 54 (by decide) rfl kw_1197 ⟨rfl, rfl, rfl⟩ fq_47 dX10_looks_382 ?_
                            refine lv_iload_n hx hb dX10_looks_385 rfl (lv_at hl 4 rfl) ?_
                            refine hx_iald hx hb hW hT gq_47 tt_89 rfl ⟨by omega, by omega⟩ dX10_looks_386 (fun x_67 ex_67 lx_67 ux_67 => ?_)
                            obtain rfl : x_48 = x_67 := ex_48.trans ex_67.symm
                            refine lv_iload hx hb dX10_looks_387 (lv_at hl 0 rfl) ?_
                            refine lv_imul hx hb dX10_looks_389 ?_
                            refine lv_topi (fun x_68 ex_68 => ?_)
                            have mx_68 : x_48.toInt = 0 → x_68.toInt = 0 := fun z => by rw [ex_68]; exact hx_mul0 z
                            refine lv_goto (tgt := 395) hx hb dX10_looks_390 (by decide) ?_
                            refine lv_istore (lv' := [(7, .int x_68), (6, .int x_46), (5, .int jv279_5), (4, .int jv136_4), (0, .ref x), (1, .int i1), (2, .int i2), (3, .int i3)]) hx hb dX10_looks_395 hl (by decide) rfl (fun ls hl => ?_)
                            refine lv_aload_n hx hb dX10_looks_397 rfl (lv_at hl 4 rfl) ?_
                            refine lv_iload hx hb dX10_looks_398 (lv_at hl 0 rfl) ?_
                            refine lv_aload_n hx hb dX10_looks_400 rfl (lv_at hl 4 rfl) ?_
                            refine hk_geti hx hb hts hC_10 hown hW (gx.S hM) tt_10 67 (by decide) rfl kw_1210 ⟨rfl, rfl, rfl⟩ fjw279_x_67 dX10_looks_401 ?_
                            refine hb_icmp_le (zx := x_68.toInt) (zy := jw279_x_67.toInt) (tgt := 433) hx hb rfl rfl dX10_looks_404 (by decide) (fun c_69 => ?_) (fun c_69 => ?_)
                            · skip
                              refine lv_iconst (v := 0) hx hb dX10_looks_433 (by decide) ?_
                              refine hx_puti hx hb hts hC_10 hown hW hT (hx_S.rf (M := [(10, 70)])) (gx.S hM) tt_10 70 (by decide) rfl kw_1213 ⟨rfl, rfl, rfl⟩ rfl (x := (0 : Int32)) (by decide) rfl rfl rfl (List.mem_singleton.mpr rfl) dX10_looks_434 (fun H locs h_70 eh_70 hW hT hs => ?_)
                              replace fjw279_x_67 := (hs.o (gx.S hM) trivial rfl).1.trans fjw279_x_67
                              replace fjw330_x_68 := (hs.o (gx.S hM) trivial rfl).1.trans fjw330_x_68
                              replace fjw354_x_69 := (hs.o (gx.S hM) trivial rfl).1.trans fjw354_x_69
                              replace fq_47 := (hs.o (gx.S hM) trivial rfl).2.trans fq_47
                              replace ex_42 := ex_42.trans (hs.a (gqod.S hM) rfl _).1.symm
                              replace ex_48 := ex_48.trans (hs.a gq_47 rfl _).1.symm
                              replace hM := hM.tr (hs.mono (by decide))
                              replace gq_47 := gq_47.S hs
                              have f_71 : h_70.2.1 x 70 = (0 : Int32) := by rw [eh_70]; exact hx_pi_at _ _ _ _
                              have zk_0 : (0 : Int32).toInt = 0 := by decide
                              exact join437 (0 : Int32) _ _ hL1 h_70 (by decide) (by decide)  ls hW hT hM f_71 fjw279_x_67 fjw330_x_68 fjw354_x_69  (lv_sub hl [2, 3, 4, 5, 6, 7] rfl)
                            · skip
                              refine lv_iload hx hb dX10_looks_407 (lv_at hl 0 rfl) ?_
                              refine lv_aload_n hx hb dX10_looks_409 rfl (lv_at hl 4 rfl) ?_
                              refine hk_geti hx hb hts hC_10 hown hW (gx.S hM) tt_10 67 (by decide) rfl kw_1210 ⟨rfl, rfl, rfl⟩ fjw279_x_67 dX10_looks_410 ?_
                              refine lv_isub hx hb dX10_looks_413 ?_
                              have rg_72 := i32_r x_68
                              have rg_73 := i32_r jw279_x_67
                              refine lv_topi (fun x_74 ex_74 => ?_)
                              have zx_74 : x_74.toInt = x_68.toInt - jw279_x_67.toInt := by rw [ex_74]; exact i32_sub rfl rfl (by omega) (by omega)
                              refine lv_aload_n hx hb dX10_looks_414 rfl (lv_at hl 4 rfl) ?_
                              refine hk_getr hx hb hts hC_10 hown hW (gx.S hM) tt_10 54 (by decide) rfl kw_1197 ⟨rfl, rfl, rfl⟩ fq_47 dX10_looks_415 ?_
                              refine lv_iload_n hx hb dX10_looks_418 rfl (lv_at hl 5 rfl) ?_
                              refine hx_iald hx hb hW hT gq_47 tt_89 rfl ⟨by omega, by omega⟩ dX10_looks_419 (fun x_75 ex_75 lx_75 ux_75 => ?_)
                              obtain rfl : x_48 = x_75 := ex_48.trans ex_75.symm
                              refine lv_iadd hx hb dX10_looks_420 ?_
                              have rg_76 := i32_r x_74
                              have rg_77 := i32_r x_48
                              refine lv_topi (fun x_78 ex_78 => ?_)
                              refine lv_iconst (v := 1) hx hb dX10_looks_421 (by decide) ?_
                              refine lv_isub hx hb dX10_looks_422 ?_
                              have rg_79 := i32_r x_78
                              refine lv_topi (fun x_80 ex_80 => ?_)
                              refine lv_aload_n hx hb dX10_looks_423 rfl (lv_at hl 4 rfl) ?_
                              refine hk_getr hx hb hts hC_10 hown hW (gx.S hM) tt_10 54 (by decide) rfl kw_1197 ⟨rfl, rfl, rfl⟩ fq_47 dX10_looks_424 ?_
                              refine lv_iload_n hx hb dX10_looks_427 rfl (lv_at hl 5 rfl) ?_
                              refine hx_iald hx hb hW hT gq_47 tt_89 rfl ⟨by omega, by omega⟩ dX10_looks_428 (fun x_81 ex_81 lx_81 ux_81 => ?_)
                              obtain rfl : x_48 = x_81 := ex_48.trans ex_81.symm
                              refine lv_idiv hx hb dX10_looks_429 (hx_ne0 (by omega)) ?_
                              refine lv_topi (fun x_82 ex_82 => ?_)
                              refine lv_goto (tgt := 434) hx hb dX10_looks_430 (by decide) ?_
                              refine hx_puti hx hb hts hC_10 hown hW hT (hx_S.rf (M := [(10, 70)])) (gx.S hM) tt_10 70 (by decide) rfl kw_1213 ⟨rfl, rfl, rfl⟩ rfl (x := x_82) (i32_r _) rfl rfl rfl (List.mem_singleton.mpr rfl) dX10_looks_434 (fun H locs h_83 eh_83 hW hT hs => ?_)
                              replace fjw279_x_67 := (hs.o (gx.S hM) trivial rfl).1.trans fjw279_x_67
                              replace fjw330_x_68 := (hs.o (gx.S hM) trivial rfl).1.trans fjw330_x_68
                              replace fjw354_x_69 := (hs.o (gx.S hM) trivial rfl).1.trans fjw354_x_69
                              replace fq_47 := (hs.o (gx.S hM) trivial rfl).2.trans fq_47
                              replace ex_42 := ex_42.trans (hs.a (gqod.S hM) rfl _).1.symm
                              replace ex_48 := ex_48.trans (hs.a gq_47 rfl _).1.symm
                              replace hM := hM.tr (hs.mono (by decide))
                              replace gq_47 := gq_47.S hs
                              have f_84 : h_83.2.1 x 70 = x_82 := by rw [eh_83]; exact hx_pi_at _ _ _ _
                              exact join437 x_82 _ _ hL1 h_83 (i32_r _).1 (i32_r _).2  ls hW hT hM f_84 fjw279_x_67 fjw330_x_68 fjw354_x_69  (lv_sub hl [2, 3, 4, 5, 6, 7] rfl)
                        refine lv_aload_n hx hb dX10_looks_330 rfl (lv_at hl 2 rfl) ?_
                        refine lv_aload_n hx hb dX10_looks_331 rfl (lv_at hl 2 rfl) ?_
                        refine hk_geti hx hb hts hC_10 hown hW (gx.S hM) tt_10 67 (by decide) rfl kw_1210 ⟨rfl, rfl, rfl⟩ fjw279_x_67 dX10_looks_332 ?_
                        refine lv_iload hx hb dX10_looks_335 (lv_at hl 0 rfl) ?_
                        refine hb_icmp_le (zx := jw279_x_67.toInt) (zy := jv279_5.toInt) (tgt := 350) hx hb rfl rfl dX10_looks_337 (by decide) (fun c_85 => ?_) (fun c_85 => ?_)
                        · skip
                          refine lv_iconst (v := 0) hx hb dX10_looks_350 (by decide) ?_
                          refine hx_puti hx hb hts hC_10 hown hW hT (hx_S.rf (M := [(10, 69)])) (gx.S hM) tt_10 69 (by decide) rfl kw_1212 ⟨rfl, rfl, rfl⟩ rfl (x := (0 : Int32)) (by decide) rfl rfl rfl (List.mem_singleton.mpr rfl) dX10_looks_351 (fun H locs h_86 eh_86 hW hT hs => ?_)
                          replace f_8 := (hs.o (gx.S hM) trivial rfl).1.trans f_8
                          replace fjw279_x_67 := (hs.o (gx.S hM) trivial rfl).1.trans fjw279_x_67
                          replace fjw330_x_68 := (hs.o (gx.S hM) trivial rfl).1.trans fjw330_x_68
                          replace hM := hM.tr (hs.mono (by decide))
                          have f_87 : h_86.2.1 x 69 = (0 : Int32) := by rw [eh_86]; exact hx_pi_at _ _ _ _
                          have zk_0 : (0 : Int32).toInt = 0 := by decide
                          exact join354 (0 : Int32) _ _ hL1 h_86 (by decide) (by decide)  ls hW hT hM f_87 f_8 fjw279_x_67 fjw330_x_68  (lv_sub hl [0, 1, 2, 3, 4, 5] rfl)
                        · skip
                          refine lv_aload_n hx hb dX10_looks_340 rfl (lv_at hl 2 rfl) ?_
                          refine hk_geti hx hb hts hC_10 hown hW (gx.S hM) tt_10 67 (by decide) rfl kw_1210 ⟨rfl, rfl, rfl⟩ fjw279_x_67 dX10_looks_341 ?_
                          refine lv_iload hx hb dX10_looks_344 (lv_at hl 0 rfl) ?_
                          refine lv_isub hx hb dX10_looks_346 ?_
                          have rg_88 := i32_r jw279_x_67
                          have rg_89 := i32_r jv279_5
                          refine lv_topi (fun x_90 ex_90 => ?_)
                          have zx_90 : x_90.toInt = jw279_x_67.toInt - jv279_5.toInt := by rw [ex_90]; exact i32_sub rfl rfl (by omega) (by omega)
                          refine lv_goto (tgt := 351) hx hb dX10_looks_347 (by decide) ?_
                          refine hx_puti hx hb hts hC_10 hown hW hT (hx_S.rf (M := [(10, 69)])) (gx.S hM) tt_10 69 (by decide) rfl kw_1212 ⟨rfl, rfl, rfl⟩ rfl (x := x_90) (i32_r _) rfl rfl rfl (List.mem_singleton.mpr rfl) dX10_looks_351 (fun H locs h_91 eh_91 hW hT hs => ?_)
                          replace f_8 := (hs.o (gx.S hM) trivial rfl).1.trans f_8
                          replace fjw279_x_67 := (hs.o (gx.S hM) trivial rfl).1.trans fjw279_x_67
                          replace fjw330_x_68 := (hs.o (gx.S hM) trivial rfl).1.trans fjw330_x_68
                          replace hM := hM.tr (hs.mono (by decide))
                          have f_92 : h_91.2.1 x 69 = x_90 := by rw [eh_91]; exact hx_pi_at _ _ _ _
                          exact join354 x_90 _ _ hL1 h_91 (i32_r _).1 (i32_r _).2  ls hW hT hM f_92 f_8 fjw279_x_67 fjw330_x_68  (lv_sub hl [0, 1, 2, 3, 4, 5] rfl)
                      refine lv_aload_n hx hb dX10_looks_306 rfl (lv_at hl 2 rfl) ?_
                      refine lv_iload hx hb dX10_looks_307 (lv_at hl 0 rfl) ?_
                      refine lv_aload_n hx hb dX10_looks_309 rfl (lv_at hl 2 rfl) ?_
                      refine hk_geti hx hb hts hC_10 hown hW (gx.S hM) tt_10 67 (by decide) rfl kw_1210 ⟨rfl, rfl, rfl⟩ fjw279_x_67 dX10_looks_310 ?_
                      refine hb_icmp_le (zx := jv279_5.toInt) (zy := jw279_x_67.toInt) (tgt := 326) hx hb rfl rfl dX10_looks_313 (by decide) (fun c_93 => ?_) (fun c_93 => ?_)
                      · skip
                        refine lv_iconst (v := 0) hx hb dX10_looks_326 (by decide) ?_
                        refine hx_puti hx hb hts hC_10 hown hW hT (hx_S.rf (M := [(10, 68)])) (gx.S hM) tt_10 68 (by decide) rfl kw_1211 ⟨rfl, rfl, rfl⟩ rfl (x := (0 : Int32)) (by decide) rfl rfl rfl (List.mem_singleton.mpr rfl) dX10_looks_327 (fun H locs h_94 eh_94 hW hT hs => ?_)
                        replace f_6 := (hs.o (gx.S hM) trivial rfl).1.trans f_6
                        replace f_8 := (hs.o (gx.S hM) trivial rfl).1.trans f_8
                        replace fjw279_x_67 := (hs.o (gx.S hM) trivial rfl).1.trans fjw279_x_67
                        replace ex_14 := ex_14.trans (hs.a (gqsv.S hM) rfl _).1.symm
                        replace hM := hM.tr (hs.mono (by decide))
                        have f_95 : h_94.2.1 x 68 = (0 : Int32) := by rw [eh_94]; exact hx_pi_at _ _ _ _
                        have zk_0 : (0 : Int32).toInt = 0 := by decide
                        exact join330 (0 : Int32) _ _ hL1 h_94 (by decide) (by decide) (by omega) ls hW hT hM f_95 f_6 f_8 fjw279_x_67  (lv_sub hl [0, 1, 2, 3, 4, 5] rfl)
                      · skip
                        refine lv_iload hx hb dX10_looks_316 (lv_at hl 0 rfl) ?_
                        refine lv_aload_n hx hb dX10_looks_318 rfl (lv_at hl 2 rfl) ?_
                        refine hk_geti hx hb hts hC_10 hown hW (gx.S hM) tt_10 67 (by decide) rfl kw_1210 ⟨rfl, rfl, rfl⟩ fjw279_x_67 dX10_looks_319 ?_
                        refine lv_isub hx hb dX10_looks_322 ?_
                        have rg_96 := i32_r jv279_5
                        have rg_97 := i32_r jw279_x_67
                        refine lv_topi (fun x_98 ex_98 => ?_)
                        have zx_98 : x_98.toInt = jv279_5.toInt - jw279_x_67.toInt := by rw [ex_98]; exact i32_sub rfl rfl (by omega) (by omega)
                        refine lv_goto (tgt := 327) hx hb dX10_looks_323 (by decide) ?_
                        refine hx_puti hx hb hts hC_10 hown hW hT (hx_S.rf (M := [(10, 68)])) (gx.S hM) tt_10 68 (by decide) rfl kw_1211 ⟨rfl, rfl, rfl⟩ rfl (x := x_98) ⟨by omega, by omega⟩ rfl rfl rfl (List.mem_singleton.mpr rfl) dX10_looks_327 (fun H locs h_99 eh_99 hW hT hs => ?_)
                        replace f_6 := (hs.o (gx.S hM) trivial rfl).1.trans f_6
                        replace f_8 := (hs.o (gx.S hM) trivial rfl).1.trans f_8
                        replace fjw279_x_67 := (hs.o (gx.S hM) trivial rfl).1.trans fjw279_x_67
                        replace ex_14 := ex_14.trans (hs.a (gqsv.S hM) rfl _).1.symm
                        replace hM := hM.tr (hs.mono (by decide))
                        have f_100 : h_99.2.1 x 68 = x_98 := by rw [eh_99]; exact hx_pi_at _ _ _ _
                        exact join330 x_98 _ _ hL1 h_99 (by omega) (by omega) (by omega) ls hW hT hM f_100 f_6 f_8 fjw279_x_67  (lv_sub hl [0, 1, 2, 3, 4, 5] rfl)
                    · skip
                      refine lv_aload_n hx hb dX10_looks_289 rfl (lv_at hl 2 rfl) ?_
                      refine hk_getr hx hb hts hC_10 hown hW (gx.S hM) tt_10 50 (by decide) rfl kw_1193 ⟨rfl, rfl, rfl⟩ ((hM.o gx trivial rfl).2.trans f_x_50) dX10_looks_290 ?_
                      refine lv_iload_n hx hb dX10_looks_293 rfl (lv_at hl 3 rfl) ?_
                      refine hx_iald hx hb hW hT (gqsv.S hM) tt_85 rfl ⟨by omega, by omega⟩ dX10_looks_294 (fun x_101 ex_101 lx_101 ux_101 => ?_)
                      have ax_101 : x_101 = svf i1.toNatClampNeg := ex_101.trans (congrFun (hx_afS hM gqsv rfl af_qsv) _)
                      obtain rfl : x_14 = x_101 := ex_14.trans ex_101.symm
                      refine lv_iload_n hx hb dX10_looks_295 rfl (lv_at hl 4 rfl) ?_
                      refine hb_icmp_gt (zx := x_14.toInt) (zy := i2.toInt) (tgt := 306) hx hb rfl rfl dX10_looks_296 (by decide) (fun c_102 => ?_) (fun c_102 => ?_)
                      · skip
                        have join330 : ∀ (jw330_x_68 : Int32) (H : Heap) (locs : List Loc) (hL1 : List Nat) (hl1 : hx_h), 0 ≤ jw330_x_68.toInt → jw330_x_68.toInt ≤ 610000 → ((jw279_x_67.toInt < jv279_5.toInt ∧ jw330_x_68.toInt = jv279_5.toInt - jw279_x_67.toInt) ∨ (jv279_5.toInt ≤ jw279_x_67.toInt ∧ jw330_x_68.toInt = 0)) → ∀ (ls : Array Slot), hx_W T_tb (P_ty dA) (dC, dI) vwCl (hx_A L sz) s.heap hL1 hl1 s H locs → hx_T T_tb hL1 hl1 → hx_S T_tb [(10, 67), (10, 68), (10, 69), (10, 70), (10, 71)] L h hL1 hl1 → hl1.2.1 x 68 = jw330_x_68 → hl1.2.1 x 69 = (0 : Int32) → hl1.2.1 x 70 = (0 : Int32) → hl1.2.1 x 67 = jw279_x_67 → lv_has ls 9 [(5, .int jv279_5), (4, .int jv136_4), (0, .ref x), (1, .int i1), (2, .int i2), (3, .int i3)] → W p l e ({ frames := 1, cells := 0, slots := 0, locals := 22 }) s m ([.ref x, .int i1, .int i2, .int i3] : List Value).toArray below meth c H locs 0 0 (MQ below (va_Qv (fun (u : List Nat × hx_h) => (∃ (rs1 : Int32) (st1 : Int32), u.2.2.1 x 68 = rs1 ∧ u.2.2.1 x 71 = st1 ∧ (rs1.toInt = hx_R (hx_al odf svf szf gdf owf plf rf i2.toInt i1.toInt) (hx_ps pof pdf psm pkf pst i2.toInt i3.toInt i1.toInt pm0.toInt.toNat) ∧ (4 ≤ st1.toInt ∧ st1.toInt ≤ 6 ↔ 0 < rs1.toInt))) ∧ hx_T T_tb u.1 u.2 ∧ hx_S T_tb [(10, 67), (10, 68), (10, 69), (10, 70), (10, 71)] L h u.1 u.2) (hx_E T_tb (P_ty dA) (dC, dI) vwCl (hx_A L sz)) (hx_A L sz)) ([.ref x, .int i1, .int i2, .int i3] : List Value).toArray s 0 0 (hx_A L sz)) (F0 m 330 ls []) := by
                          intro jw330_x_68 H locs hL1 hl1 bljw330_x_68 bujw330_x_68 vj330_0 ls hW hT hM fjw330_x_68 f_6 f_8 fjw279_x_67  hl
                          have join354 : ∀ (jw354_x_69 : Int32) (H : Heap) (locs : List Loc) (hL1 : List Nat) (hl1 : hx_h), -2147483648 ≤ jw354_x_69.toInt → jw354_x_69.toInt ≤ 2147483647 → ∀ (ls : Array Slot), hx_W T_tb (P_ty dA) (dC, dI) vwCl (hx_A L sz) s.heap hL1 hl1 s H locs → hx_T T_tb hL1 hl1 → hx_S T_tb [(10, 67), (10, 68), (10, 69), (10, 70), (10, 71)] L h hL1 hl1 → hl1.2.1 x 69 = jw354_x_69 → hl1.2.1 x 70 = (0 : Int32) → hl1.2.1 x 67 = jw279_x_67 → hl1.2.1 x 68 = jw330_x_68 → lv_has ls 9 [(5, .int jv279_5), (4, .int jv136_4), (0, .ref x), (1, .int i1), (2, .int i2), (3, .int i3)] → W p l e ({ frames := 1, cells := 0, slots := 0, locals := 22 }) s m ([.ref x, .int i1, .int i2, .int i3] : List Value).toArray below meth c H locs 0 0 (MQ below (va_Qv (fun (u : List Nat × hx_h) => (∃ (rs1 : Int32) (st1 : Int32), u.2.2.1 x 68 = rs1 ∧ u.2.2.1 x 71 = st1 ∧ (rs1.toInt = hx_R (hx_al odf svf szf gdf owf plf rf i2.toInt i1.toInt) (hx_ps pof pdf psm pkf pst i2.toInt i3.toInt i1.toInt pm0.toInt.toNat) ∧ (4 ≤ st1.toInt ∧ st1.toInt ≤ 6 ↔ 0 < rs1.toInt))) ∧ hx_T T_tb u.1 u.2 ∧ hx_S T_tb [(10, 67), (10, 68), (10, 69), (10, 70), (10, 71)] L h u.1 u.2) (hx_E T_tb (P_ty dA) (dC, dI) vwCl (hx_A L sz)) (hx_A L sz)) ([.ref x, .int i1, .int i2, .int i3] : List Value).toArray s 0 0 (hx_A L sz)) (F0 m 354 ls []) := by
                            intro jw354_x_69 H locs hL1 hl1 bljw354_x_69 bujw354_x_69  ls hW hT hM fjw354_x_69 f_8 fjw279_x_67 fjw330_x_68  hl
                            have join437 : ∀ (jw437_x_70 : Int32) (H : Heap) (locs : List Loc) (hL1 : List Nat) (hl1 : hx_h), -2147483648 ≤ jw437_x_70.toInt → jw437_x_70.toInt ≤ 2147483647 → ∀ (ls : Array Slot), hx_W T_tb (P_ty dA) (dC, dI) vwCl (hx_A L sz) s.heap hL1 hl1 s H locs → hx_T T_tb hL1 hl1 → hx_S T_tb [(10, 67), (10, 68), (10, 69), (10, 70), (10, 71)] L h hL1 hl1 → hl1.2.1 x 70 = jw437_x_70 → hl1.2.1 x 67 = jw279_x_67 → hl1.2.1 x 68 = jw330_x_68 → hl1.2.1 x 69 = jw354_x_69 → lv_has ls 9 [(5, .int jv279_5), (4, .int jv136_4), (0, .ref x), (1, .int i1), (2, .int i2), (3, .int i3)] → W p l e ({ frames := 1, cells := 0, slots := 0, locals := 22 }) s m ([.ref x, .int i1, .int i2, .int i3] : List Value).toArray below meth c H locs 0 0 (MQ below (va_Qv (fun (u : List Nat × hx_h) => (∃ (rs1 : Int32) (st1 : Int32), u.2.2.1 x 68 = rs1 ∧ u.2.2.1 x 71 = st1 ∧ (rs1.toInt = hx_R (hx_al odf svf szf gdf owf plf rf i2.toInt i1.toInt) (hx_ps pof pdf psm pkf pst i2.toInt i3.toInt i1.toInt pm0.toInt.toNat) ∧ (4 ≤ st1.toInt ∧ st1.toInt ≤ 6 ↔ 0 < rs1.toInt))) ∧ hx_T T_tb u.1 u.2 ∧ hx_S T_tb [(10, 67), (10, 68), (10, 69), (10, 70), (10, 71)] L h u.1 u.2) (hx_E T_tb (P_ty dA) (dC, dI) vwCl (hx_A L sz)) (hx_A L sz)) ([.ref x, .int i1, .int i2, .int i3] : List Value).toArray s 0 0 (hx_A L sz)) (F0 m 437 ls []) := by
                              intro jw437_x_70 H locs hL1 hl1 bljw437_x_70 bujw437_x_70  ls hW hT hM fjw437_x_70 fjw279_x_67 fjw330_x_68 fjw354_x_69  hl
                              refine lv_aload_n hx hb dX10_looks_437 rfl (lv_at hl 2 rfl) ?_
                              refine lv_aload_n hx hb dX10_looks_438 rfl (lv_at hl 2 rfl) ?_
                              refine hk_getr hx hb hts hC_10 hown hW (gx.S hM) tt_10 44 (by decide) rfl kw_1187 ⟨rfl, rfl, rfl⟩ ((hM.o gx trivial rfl).2.trans f_x_44) dX10_looks_439 ?_
                              refine lv_iload_n hx hb dX10_looks_442 rfl (lv_at hl 3 rfl) ?_
                              refine hx_iald hx hb hW hT (gqpl.S hM) tt_79 rfl ⟨by omega, by omega⟩ dX10_looks_443 (fun x_103 ex_103 lx_103 ux_103 => ?_)
                              have ax_103 : x_103 = plf i1.toNatClampNeg := ex_103.trans (congrFun (hx_afS hM gqpl rfl af_qpl) _)
                              refine lv_iconst (v := 4) hx hb dX10_looks_444 (by decide) ?_
                              have zc_4 : (4 : Int32).toInt = 4 := by decide
                              refine hx_goi (hx_runV (As := [.int x_103, .int (4 : Int32)]) (rest := []) ⟨hx, hb, hml, hown, hts⟩ hW (gx.S hM) tt_10 (T := TX10) (N := 98) rfl (t_X10_ruleOf_2 l dC dI dA hL1 hl1 H.size x x_103 (4 : Int32) hT (gx.S hM) qru (gqru.S hM) ((hM.o gx trivial rfl).2.trans f_x_3) rf (hx_afS hM gqru rfl af_qru) ⟨by omega, by omega⟩ (by decide)) (cwV 2 hts (hx_gV kw_1533 kw_1530 kw_1532 kw_66 kw_103) rfl rfl rfl (by decide +kernel) ⟨Nat.le_of_ble_eq_true rfl, Nat.le_of_ble_eq_true rfl⟩) rfl hl.1 rfl (Nat.le_of_ble_eq_true rfl) dX10_looks_445 ⟨Nat.le_of_ble_eq_true rfl, Nat.le_of_ble_eq_true rfl⟩) hW (fun r_106 L_104 h_105 H locs p_107 hW => ?_)
                              obtain ⟨hr_108, hT, hs⟩ := p_107
                              replace hT : hx_T T_tb L_104 h_105 := hT
                              replace hs : hx_S T_tb [] hL1 hl1 L_104 h_105 := hs
                              replace fjw279_x_67 := (hs.o (gx.S hM) trivial rfl).1.trans fjw279_x_67
                              replace fjw330_x_68 := (hs.o (gx.S hM) trivial rfl).1.trans fjw330_x_68
                              replace fjw354_x_69 := (hs.o (gx.S hM) trivial rfl).1.trans fjw354_x_69
                              replace fjw437_x_70 := (hs.o (gx.S hM) trivial rfl).1.trans fjw437_x_70
                              replace ex_103 := ex_103.trans (hs.a (gqpl.S hM) rfl _).1.symm
                              replace hM := hM.tr (hs.mono (by decide))
                              refine lv_istore (lv' := [(8, .int r_106), (5, .int jv279_5), (4, .int jv136_4), (0, .ref x), (1, .int i1), (2, .int i2), (3, .int i3)]) hx hb dX10_looks_448 hl (by decide) rfl (fun ls hl => ?_)
                              refine lv_aload_n hx hb dX10_looks_450 rfl (lv_at hl 3 rfl) ?_
                              refine lv_aload_n hx hb dX10_looks_451 rfl (lv_at hl 3 rfl) ?_
                              refine hk_geti hx hb hts hC_10 hown hW (gx.S hM) tt_10 68 (by decide) rfl kw_1211 ⟨rfl, rfl, rfl⟩ fjw330_x_68 dX10_looks_452 ?_
                              refine hb_if_ne (zx := jw330_x_68.toInt) (tgt := 463) hx hb rfl dX10_looks_455 (by decide) (fun c_109 => ?_) (fun c_109 => ?_)
                              · skip
                                refine lv_aload_n hx hb dX10_looks_463 rfl (lv_at hl 3 rfl) ?_
                                refine hk_geti hx hb hts hC_10 hown hW (gx.S hM) tt_10 70 (by decide) rfl kw_1213 ⟨rfl, rfl, rfl⟩ fjw437_x_70 dX10_looks_464 ?_
                                refine lv_iload hx hb dX10_looks_467 (lv_at hl 0 rfl) ?_
                                refine lv_aload_n hx hb dX10_looks_469 rfl (lv_at hl 3 rfl) ?_
                                refine lv_aload_n hx hb dX10_looks_470 rfl (lv_at hl 3 rfl) ?_
                                refine hk_getr hx hb hts hC_10 hown hW (gx.S hM) tt_10 44 (by decide) rfl kw_1187 ⟨rfl, rfl, rfl⟩ ((hM.o gx trivial rfl).2.trans f_x_44) dX10_looks_471 ?_
                                refine lv_iload_n hx hb dX10_looks_474 rfl (lv_at hl 4 rfl) ?_
                                refine hx_iald hx hb hW hT (gqpl.S hM) tt_79 rfl ⟨by omega, by omega⟩ dX10_looks_475 (fun x_110 ex_110 lx_110 ux_110 => ?_)
                                have ax_110 : x_110 = plf i1.toNatClampNeg := ex_110.trans (congrFun (hx_afS hM gqpl rfl af_qpl) _)
                                obtain rfl : x_103 = x_110 := ex_103.trans ex_110.symm
                                refine lv_iconst (v := 5) hx hb dX10_looks_476 (by decide) ?_
                                have zc_5 : (5 : Int32).toInt = 5 := by decide
                                refine hx_goi (hx_runV (As := [.int x_103, .int (5 : Int32)]) (rest := [.int r_106, .int jw437_x_70, .ref x]) ⟨hx, hb, hml, hown, hts⟩ hW (gx.S hM) tt_10 (T := TX10) (N := 98) rfl (t_X10_ruleOf_2 l dC dI dA L_104 h_105 H.size x x_103 (5 : Int32) hT (gx.S hM) qru (gqru.S hM) ((hM.o gx trivial rfl).2.trans f_x_3) rf (hx_afS hM gqru rfl af_qru) ⟨by omega, by omega⟩ (by decide)) (cwV 2 hts (hx_gV kw_1533 kw_1530 kw_1532 kw_66 kw_103) rfl rfl rfl (by decide +kernel) ⟨Nat.le_of_ble_eq_true rfl, Nat.le_of_ble_eq_true rfl⟩) rfl hl.1 rfl (Nat.le_of_ble_eq_true rfl) dX10_looks_477 ⟨Nat.le_of_ble_eq_true rfl, Nat.le_of_ble_eq_true rfl⟩) hW (fun r_113 L_111 h_112 H locs p_114 hW => ?_)
                                obtain ⟨hr_115, hT, hs⟩ := p_114
                                replace hT : hx_T T_tb L_111 h_112 := hT
                                replace hs : hx_S T_tb [] L_104 h_105 L_111 h_112 := hs
                                replace fjw279_x_67 := (hs.o (gx.S hM) trivial rfl).1.trans fjw279_x_67
                                replace fjw330_x_68 := (hs.o (gx.S hM) trivial rfl).1.trans fjw330_x_68
                                replace fjw354_x_69 := (hs.o (gx.S hM) trivial rfl).1.trans fjw354_x_69
                                replace fjw437_x_70 := (hs.o (gx.S hM) trivial rfl).1.trans fjw437_x_70
                                replace ex_103 := ex_103.trans (hs.a (gqpl.S hM) rfl _).1.symm
                                replace hM := hM.tr (hs.mono (by decide))
                                refine lv_iadd hx hb dX10_looks_480 ?_
                                have rg_116 := i32_r r_106
                                have rg_117 := i32_r r_113
                                refine lv_topi (fun x_118 ex_118 => ?_)
                                have zx_118 : x_118.toInt = r_106.toInt + r_113.toInt := by rw [ex_118]; exact i32_add rfl rfl (by omega) (by omega)
                                refine hb_icmp_lt (zx := jw437_x_70.toInt) (zy := x_118.toInt) (tgt := 489) hx hb rfl rfl dX10_looks_481 (by decide) (fun c_119 => ?_) (fun c_119 => ?_)
                                · skip
                                  refine lv_aload_n hx hb dX10_looks_489 rfl (lv_at hl 3 rfl) ?_
                                  refine hk_geti hx hb hts hC_10 hown hW (gx.S hM) tt_10 70 (by decide) rfl kw_1213 ⟨rfl, rfl, rfl⟩ fjw437_x_70 dX10_looks_490 ?_
                                  refine lv_iload hx hb dX10_looks_493 (lv_at hl 0 rfl) ?_
                                  refine hb_icmp_lt (zx := jw437_x_70.toInt) (zy := r_106.toInt) (tgt := 502) hx hb rfl rfl dX10_looks_495 (by decide) (fun c_120 => ?_) (fun c_120 => ?_)
                                  · skip
                                    refine lv_iconst (v := 4) hx hb dX10_looks_502 (by decide) ?_
                                    refine hx_puti hx hb hts hC_10 hown hW hT (hx_S.rf (M := [(10, 71)])) (gx.S hM) tt_10 71 (by decide) rfl kw_1214 ⟨rfl, rfl, rfl⟩ rfl (x := (4 : Int32)) (by decide) rfl rfl rfl (List.mem_singleton.mpr rfl) dX10_looks_503 (fun H locs h_121 eh_121 hW hT hs => ?_)
                                    replace fjw279_x_67 := (hs.o (gx.S hM) trivial rfl).1.trans fjw279_x_67
                                    replace fjw330_x_68 := (hs.o (gx.S hM) trivial rfl).1.trans fjw330_x_68
                                    replace fjw354_x_69 := (hs.o (gx.S hM) trivial rfl).1.trans fjw354_x_69
                                    replace fjw437_x_70 := (hs.o (gx.S hM) trivial rfl).1.trans fjw437_x_70
                                    replace ex_103 := ex_103.trans (hs.a (gqpl.S hM) rfl _).1.symm
                                    replace hM := hM.tr (hs.mono (by decide))
                                    have f_122 : h_121.2.1 x 71 = (4 : Int32) := by rw [eh_121]; exact hx_pi_at _ _ _ _
                                    have zo_4 : (4 : Int32).toInt = 4 := by decide
                                    exact hx_retv hx hb hr hlk hW ⟨⟨jw330_x_68, (4 : Int32), fjw330_x_68, f_122, ⟨by rw [hx_R_some (by omega) (by omega)]; split <;> omega, by omega⟩⟩, hT, hM⟩ dX10_looks_506
                                  · skip
                                    refine lv_iconst (v := 5) hx hb dX10_looks_498 (by decide) ?_
                                    refine lv_goto (tgt := 503) hx hb dX10_looks_499 (by decide) ?_
                                    refine hx_puti hx hb hts hC_10 hown hW hT (hx_S.rf (M := [(10, 71)])) (gx.S hM) tt_10 71 (by decide) rfl kw_1214 ⟨rfl, rfl, rfl⟩ rfl (x := (5 : Int32)) (by decide) rfl rfl rfl (List.mem_singleton.mpr rfl) dX10_looks_503 (fun H locs h_123 eh_123 hW hT hs => ?_)
                                    replace fjw279_x_67 := (hs.o (gx.S hM) trivial rfl).1.trans fjw279_x_67
                                    replace fjw330_x_68 := (hs.o (gx.S hM) trivial rfl).1.trans fjw330_x_68
                                    replace fjw354_x_69 := (hs.o (gx.S hM) trivial rfl).1.trans fjw354_x_69
                                    replace fjw437_x_70 := (hs.o (gx.S hM) trivial rfl).1.trans fjw437_x_70
                                    replace ex_103 := ex_103.trans (hs.a (gqpl.S hM) rfl _).1.symm
                                    replace hM := hM.tr (hs.mono (by decide))
                                    have f_124 : h_123.2.1 x 71 = (5 : Int32) := by rw [eh_123]; exact hx_pi_at _ _ _ _
                                    have zo_5 : (5 : Int32).toInt = 5 := by decide
                                    exact hx_retv hx hb hr hlk hW ⟨⟨jw330_x_68, (5 : Int32), fjw330_x_68, f_124, ⟨by rw [hx_R_some (by omega) (by omega)]; split <;> omega, by omega⟩⟩, hT, hM⟩ dX10_looks_506
                                · skip
                                  refine lv_bipush (v := 6) hx hb dX10_looks_484 (by decide) ?_
                                  refine lv_goto (tgt := 503) hx hb dX10_looks_486 (by decide) ?_
                                  refine hx_puti hx hb hts hC_10 hown hW hT (hx_S.rf (M := [(10, 71)])) (gx.S hM) tt_10 71 (by decide) rfl kw_1214 ⟨rfl, rfl, rfl⟩ rfl (x := (6 : Int32)) (by decide) rfl rfl rfl (List.mem_singleton.mpr rfl) dX10_looks_503 (fun H locs h_125 eh_125 hW hT hs => ?_)
                                  replace fjw279_x_67 := (hs.o (gx.S hM) trivial rfl).1.trans fjw279_x_67
                                  replace fjw330_x_68 := (hs.o (gx.S hM) trivial rfl).1.trans fjw330_x_68
                                  replace fjw354_x_69 := (hs.o (gx.S hM) trivial rfl).1.trans fjw354_x_69
                                  replace fjw437_x_70 := (hs.o (gx.S hM) trivial rfl).1.trans fjw437_x_70
                                  replace ex_103 := ex_103.trans (hs.a (gqpl.S hM) rfl _).1.symm
                                  replace hM := hM.tr (hs.mono (by decide))
                                  have f_126 : h_125.2.1 x 71 = (6 : Int32) := by rw [eh_125]; exact hx_pi_at _ _ _ _
                                  have zo_6 : (6 : Int32).toInt = 6 := by decide
                                  exact hx_retv hx hb hr hlk hW ⟨⟨jw330_x_68, (6 : Int32), fjw330_x_68, f_126, ⟨by rw [hx_R_some (by omega) (by omega)]; split <;> omega, by omega⟩⟩, hT, hM⟩ dX10_looks_506
                              · skip
                                refine lv_bipush (v := 7) hx hb dX10_looks_458 (by decide) ?_
                                refine lv_goto (tgt := 503) hx hb dX10_looks_460 (by decide) ?_
                                refine hx_puti hx hb hts hC_10 hown hW hT (hx_S.rf (M := [(10, 71)])) (gx.S hM) tt_10 71 (by decide) rfl kw_1214 ⟨rfl, rfl, rfl⟩ rfl (x := (7 : Int32)) (by decide) rfl rfl rfl (List.mem_singleton.mpr rfl) dX10_looks_503 (fun H locs h_127 eh_127 hW hT hs => ?_)
                                replace fjw279_x_67 := (hs.o (gx.S hM) trivial rfl).1.trans fjw279_x_67
                                replace fjw330_x_68 := (hs.o (gx.S hM) trivial rfl).1.trans fjw330_x_68
                                replace fjw354_x_69 := (hs.o (gx.S hM) trivial rfl).1.trans fjw354_x_69
                                replace fjw437_x_70 := (hs.o (gx.S hM) trivial rfl).1.trans fjw437_x_70
                                replace ex_103 := ex_103.trans (hs.a (gqpl.S hM) rfl _).1.symm
                                replace hM := hM.tr (hs.mono (by decide))
                                have f_128 : h_127.2.1 x 71 = (7 : Int32) := by rw [eh_127]; exact hx_pi_at _ _ _ _
                                have zo_7 : (7 : Int32).toInt = 7 := by decide
                                exact hx_retv hx hb hr hlk hW ⟨⟨jw330_x_68, (7 : Int32), fjw330_x_68, f_128, ⟨by rw [hx_R_some (by omega) (by omega)]; split <;> omega, by omega⟩⟩, hT, hM⟩ dX10_looks_506
                            refine lv_iload_n hx hb dX10_looks_354 rfl (lv_at hl 4 rfl) ?_
                            refine lv_aload_n hx hb dX10_looks_355 rfl (lv_at hl 2 rfl) ?_
                            refine hk_getr hx hb hts hC_10 hown hW (gx.S hM) tt_10 48 (by decide) rfl kw_1191 ⟨rfl, rfl, rfl⟩ ((hM.o gx trivial rfl).2.trans f_x_48) dX10_looks_356 ?_
                            refine lv_iload_n hx hb dX10_looks_359 rfl (lv_at hl 3 rfl) ?_
                            refine hx_iald hx hb hW hT (gqod.S hM) tt_83 rfl ⟨by omega, by omega⟩ dX10_looks_360 (fun x_129 ex_129 lx_129 ux_129 => ?_)
                            have ax_129 : x_129 = odf i1.toNatClampNeg := ex_129.trans (congrFun (hx_afS hM gqod rfl af_qod) _)
                            refine lv_isub hx hb dX10_looks_361 ?_
                            have rg_130 := i32_r i2
                            have rg_131 := i32_r x_129
                            refine lv_topi (fun x_132 ex_132 => ?_)
                            refine lv_bipush (v := 7) hx hb dX10_looks_362 (by decide) ?_
                            refine lv_idiv hx hb dX10_looks_364 (by decide) ?_
                            refine lv_topi (fun x_133 ex_133 => ?_)
                            have zx_133 : -1073741824 ≤ x_133.toInt ∧ x_133.toInt ≤ 1073741824 := by rw [ex_133]; exact hx_divb (by decide)
                            refine lv_istore (lv' := [(6, .int x_133), (5, .int jv279_5), (4, .int jv136_4), (0, .ref x), (1, .int i1), (2, .int i2), (3, .int i3)]) hx hb dX10_looks_365 hl (by decide) rfl (fun ls hl => ?_)
                            refine lv_aload_n hx hb dX10_looks_367 rfl (lv_at hl 3 rfl) ?_
                            refine hx_getn hx hb hts hC_10 hown hW hT (gx.S hM) tt_10 54 (by decide) rfl kw_1197 ⟨rfl, rfl, rfl⟩ dX10_looks_368 (fun q_134 fq_134 gq_134 => ?_)
                            refine lv_iload_n hx hb dX10_looks_371 rfl (lv_at hl 4 rfl) ?_
                            refine hx_iald hx hb hW hT gq_134 tt_89 rfl ⟨by omega, by omega⟩ dX10_looks_372 (fun x_135 ex_135 lx_135 ux_135 => ?_)
                            refine lv_iload hx hb dX10_looks_373 (lv_at hl 0 rfl) ?_
                            refine lv_imul hx hb dX10_looks_375 ?_
                            refine lv_topi (fun x_136 ex_136 => ?_)
                            have mx_136 : x_135.toInt = 0 → x_136.toInt = 0 := fun z => by rw [ex_136]; exact hx_mul0 z
                            refine lv_iload hx hb dX10_looks_376 (lv_at hl 1 rfl) ?_
                            refine hb_icmp_ge (zx := x_136.toInt) (zy := jv279_5.toInt) (tgt := 393) hx hb rfl rfl dX10_looks_378 (by decide) (fun c_137 => ?_) (fun c_137 => ?_)
                            · skip
                              refine lv_iload hx hb dX10_looks_393 (lv_at hl 1 rfl) ?_
                              refine lv_istore (lv' := [(7, .int jv279_5), (6, .int x_133), (5, .int jv279_5), (4, .int jv136_4), (0, .ref x), (1, .int i1), (2, .int i2), (3, .int i3)]) hx hb dX10_looks_395 hl (by decide) rfl (fun ls hl => ?_)
                              refine lv_aload_n hx hb dX10_looks_397 rfl (lv_at hl 4 rfl) ?_
                              refine lv_iload hx hb dX10_looks_398 (lv_at hl 0 rfl) ?_
                              refine lv_aload_n hx hb dX10_looks_400 rfl (lv_at hl 4 rfl) ?_
                              refine hk_geti hx hb hts hC_10 hown hW (gx.S hM) tt_10 67 (by decide) rfl kw_1210 ⟨rfl, rfl, rfl⟩ fjw279_x_67 dX10_looks_401 ?_
                              refine hb_icmp_le (zx := jv279_5.toInt) (zy := jw279_x_67.toInt) (tgt := 433) hx hb rfl rfl dX10_looks_404 (by decide) (fun c_138 => ?_) (fun c_138 => ?_)
                              · skip
                                refine lv_iconst (v := 0) hx hb dX10_looks_433 (by decide) ?_
                                refine hx_puti hx hb hts hC_10 hown hW hT (hx_S.rf (M := [(10, 70)])) (gx.S hM) tt_10 70 (by decide) rfl kw_1213 ⟨rfl, rfl, rfl⟩ rfl (x := (0 : Int32)) (by decide) rfl rfl rfl (List.mem_singleton.mpr rfl) dX10_looks_434 (fun H locs h_139 eh_139 hW hT hs => ?_)
                                replace fjw279_x_67 := (hs.o (gx.S hM) trivial rfl).1.trans fjw279_x_67
                                replace fjw330_x_68 := (hs.o (gx.S hM) trivial rfl).1.trans fjw330_x_68
                                replace fjw354_x_69 := (hs.o (gx.S hM) trivial rfl).1.trans fjw354_x_69
                                replace fq_134 := (hs.o (gx.S hM) trivial rfl).2.trans fq_134
                                replace ex_129 := ex_129.trans (hs.a (gqod.S hM) rfl _).1.symm
                                replace ex_135 := ex_135.trans (hs.a gq_134 rfl _).1.symm
                                replace hM := hM.tr (hs.mono (by decide))
                                replace gq_134 := gq_134.S hs
                                have f_140 : h_139.2.1 x 70 = (0 : Int32) := by rw [eh_139]; exact hx_pi_at _ _ _ _
                                have zk_0 : (0 : Int32).toInt = 0 := by decide
                                exact join437 (0 : Int32) _ _ hL1 h_139 (by decide) (by decide)  ls hW hT hM f_140 fjw279_x_67 fjw330_x_68 fjw354_x_69  (lv_sub hl [2, 3, 4, 5, 6, 7] rfl)
                              · skip
                                refine lv_iload hx hb dX10_looks_407 (lv_at hl 0 rfl) ?_
                                refine lv_aload_n hx hb dX10_looks_409 rfl (lv_at hl 4 rfl) ?_
                                refine hk_geti hx hb hts hC_10 hown hW (gx.S hM) tt_10 67 (by decide) rfl kw_1210 ⟨rfl, rfl, rfl⟩ fjw279_x_67 dX10_looks_410 ?_
                                refine lv_isub hx hb dX10_looks_413 ?_
                                have rg_141 := i32_r jv279_5
                                have rg_142 := i32_r jw279_x_67
                                refine lv_topi (fun x_143 ex_143 => ?_)
                                have zx_143 : x_143.toInt = jv279_5.toInt - jw279_x_67.toInt := by rw [ex_143]; exact i32_sub rfl rfl (by omega) (by omega)
                                refine lv_aload_n hx hb dX10_looks_414 rfl (lv_at hl 4 rfl) ?_
                                refine hk_getr hx hb hts hC_10 hown hW (gx.S hM) tt_10 54 (by decide) rfl kw_1197 ⟨rfl, rfl, rfl⟩ fq_134 dX10_looks_415 ?_
                                refine lv_iload_n hx hb dX10_looks_418 rfl (lv_at hl 5 rfl) ?_
                                refine hx_iald hx hb hW hT gq_134 tt_89 rfl ⟨by omega, by omega⟩ dX10_looks_419 (fun x_144 ex_144 lx_144 ux_144 => ?_)
                                obtain rfl : x_135 = x_144 := ex_135.trans ex_144.symm
                                refine lv_iadd hx hb dX10_looks_420 ?_
                                have rg_145 := i32_r x_143
                                have rg_146 := i32_r x_135
                                refine lv_topi (fun x_147 ex_147 => ?_)
                                refine lv_iconst (v := 1) hx hb dX10_looks_421 (by decide) ?_
                                refine lv_isub hx hb dX10_looks_422 ?_
                                have rg_148 := i32_r x_147
                                refine lv_topi (fun x_149 ex_149 => ?_)
                                refine lv_aload_n hx hb dX10_looks_423 rfl (lv_at hl 4 rfl) ?_
                                refine hk_getr hx hb hts hC_10 hown hW (gx.S hM) tt_10 54 (by decide) rfl kw_1197 ⟨rfl, rfl, rfl⟩ fq_134 dX10_looks_424 ?_
                                refine lv_iload_n hx hb dX10_looks_427 rfl (lv_at hl 5 rfl) ?_
                                refine hx_iald hx hb hW hT gq_134 tt_89 rfl ⟨by omega, by omega⟩ dX10_looks_428 (fun x_150 ex_150 lx_150 ux_150 => ?_)
                                obtain rfl : x_135 = x_150 := ex_135.trans ex_150.symm
                                refine lv_idiv hx hb dX10_looks_429 (hx_ne0 (by omega)) ?_
                                refine lv_topi (fun x_151 ex_151 => ?_)
                                refine lv_goto (tgt := 434) hx hb dX10_looks_430 (by decide) ?_
                                refine hx_puti hx hb hts hC_10 hown hW hT (hx_S.rf (M := [(10, 70)])) (gx.S hM) tt_10 70 (by decide) rfl kw_1213 ⟨rfl, rfl, rfl⟩ rfl (x := x_151) (i32_r _) rfl rfl rfl (List.mem_singleton.mpr rfl) dX10_looks_434 (fun H locs h_152 eh_152 hW hT hs => ?_)
                                replace fjw279_x_67 := (hs.o (gx.S hM) trivial rfl).1.trans fjw279_x_67
                                replace fjw330_x_68 := (hs.o (gx.S hM) trivial rfl).1.trans fjw330_x_68
                                replace fjw354_x_69 := (hs.o (gx.S hM) trivial rfl).1.trans fjw354_x_69
                                replace fq_134 := (hs.o (gx.S hM) trivial rfl).2.trans fq_134
                                replace ex_129 := ex_129.trans (hs.a (gqod.S hM) rfl _).1.symm
                                replace ex_135 := ex_135.trans (hs.a gq_134 rfl _).1.symm
                                replace hM := hM.tr (hs.mono (by decide))
                                replace gq_134 := gq_134.S hs
                                have f_153 : h_152.2.1 x 70 = x_151 := by rw [eh_152]; exact hx_pi_at _ _ _ _
                                exact join437 x_151 _ _ hL1 h_152 (i32_r _).1 (i32_r _).2  ls hW hT hM f_153 fjw279_x_67 fjw330_x_68 fjw354_x_69  (lv_sub hl [2, 3, 4, 5, 6, 7] rfl)
                            · skip
                              refine lv_aload_n hx hb dX10_looks_381 rfl (lv_at hl 3 rfl) ?_
                              refine hk_getr hx hb hts hC_10 hown hW (gx.S hM) tt_10 54 (by decide) rfl kw_1197 ⟨rfl, rfl, rfl⟩ fq_134 dX10_looks_382 ?_
                              refine lv_iload_n hx hb dX10_looks_385 rfl (lv_at hl 4 rfl) ?_
                              refine hx_iald hx hb hW hT gq_134 tt_89 rfl ⟨by omega, by omega⟩ dX10_looks_386 (fun x_154 ex_154 lx_154 ux_154 => ?_)
                              obtain rfl : x_135 = x_154 := ex_135.trans ex_154.symm
                              refine lv_iload hx hb dX10_looks_387 (lv_at hl 0 rfl) ?_
                              refine lv_imul hx hb dX10_looks_389 ?_
                              refine lv_topi (fun x_155 ex_155 => ?_)
                              have mx_155 : x_135.toInt = 0 → x_155.toInt = 0 := fun z => by rw [ex_155]; exact hx_mul0 z
                              refine lv_goto (tgt := 395) hx hb dX10_looks_390 (by decide) ?_
                              refine lv_istore (lv' := [(7, .int x_155), (6, .int x_133), (5, .int jv279_5), (4, .int jv136_4), (0, .ref x), (1, .int i1), (2, .int i2), (3, .int i3)]) hx hb dX10_looks_395 hl (by decide) rfl (fun ls hl => ?_)
                              refine lv_aload_n hx hb dX10_looks_397 rfl (lv_at hl 4 rfl) ?_
                              refine lv_iload hx hb dX10_looks_398 (lv_at hl 0 rfl) ?_
                              refine lv_aload_n hx hb dX10_looks_400 rfl (lv_at hl 4 rfl) ?_
                              refine hk_geti hx hb hts hC_10 hown hW (gx.S hM) tt_10 67 (by decide) rfl kw_1210 ⟨rfl, rfl, rfl⟩ fjw279_x_67 dX10_looks_401 ?_
                              refine hb_icmp_le (zx := x_155.toInt) (zy := jw279_x_67.toInt) (tgt := 433) hx hb rfl rfl dX10_looks_404 (by decide) (fun c_156 => ?_) (fun c_156 => ?_)
                              · skip
                                refine lv_iconst (v := 0) hx hb dX10_looks_433 (by decide) ?_
                                refine hx_puti hx hb hts hC_10 hown hW hT (hx_S.rf (M := [(10, 70)])) (gx.S hM) tt_10 70 (by decide) rfl kw_1213 ⟨rfl, rfl, rfl⟩ rfl (x := (0 : Int32)) (by decide) rfl rfl rfl (List.mem_singleton.mpr rfl) dX10_looks_434 (fun H locs h_157 eh_157 hW hT hs => ?_)
                                replace fjw279_x_67 := (hs.o (gx.S hM) trivial rfl).1.trans fjw279_x_67
                                replace fjw330_x_68 := (hs.o (gx.S hM) trivial rfl).1.trans fjw330_x_68
                                replace fjw354_x_69 := (hs.o (gx.S hM) trivial rfl).1.trans fjw354_x_69
                                replace fq_134 := (hs.o (gx.S hM) trivial rfl).2.trans fq_134
                                replace ex_129 := ex_129.trans (hs.a (gqod.S hM) rfl _).1.symm
                                replace ex_135 := ex_135.trans (hs.a gq_134 rfl _).1.symm
                                replace hM := hM.tr (hs.mono (by decide))
                                replace gq_134 := gq_134.S hs
                                have f_158 : h_157.2.1 x 70 = (0 : Int32) := by rw [eh_157]; exact hx_pi_at _ _ _ _
                                have zk_0 : (0 : Int32).toInt = 0 := by decide
                                exact join437 (0 : Int32) _ _ hL1 h_157 (by decide) (by decide)  ls hW hT hM f_158 fjw279_x_67 fjw330_x_68 fjw354_x_69  (lv_sub hl [2, 3, 4, 5, 6, 7] rfl)
                              · skip
                                refine lv_iload hx hb dX10_looks_407 (lv_at hl 0 rfl) ?_
                                refine lv_aload_n hx hb dX10_looks_409 rfl (lv_at hl 4 rfl) ?_
                                refine hk_geti hx hb hts hC_10 hown hW (gx.S hM) tt_10 67 (by decide) rfl kw_1210 ⟨rfl, rfl, rfl⟩ fjw279_x_67 dX10_looks_410 ?_
                                refine lv_isub hx hb dX10_looks_413 ?_
                                have rg_159 := i32_r x_155
                                have rg_160 := i32_r jw279_x_67
                                refine lv_topi (fun x_161 ex_161 => ?_)
                                have zx_161 : x_161.toInt = x_155.toInt - jw279_x_67.toInt := by rw [ex_161]; exact i32_sub rfl rfl (by omega) (by omega)
                                refine lv_aload_n hx hb dX10_looks_414 rfl (lv_at hl 4 rfl) ?_
                                refine hk_getr hx hb hts hC_10 hown hW (gx.S hM) tt_10 54 (by decide) rfl kw_1197 ⟨rfl, rfl, rfl⟩ fq_134 dX10_looks_415 ?_
                                refine lv_iload_n hx hb dX10_looks_418 rfl (lv_at hl 5 rfl) ?_
                                refine hx_iald hx hb hW hT gq_134 tt_89 rfl ⟨by omega, by omega⟩ dX10_looks_419 (fun x_162 ex_162 lx_162 ux_162 => ?_)
                                obtain rfl : x_135 = x_162 := ex_135.trans ex_162.symm
                                refine lv_iadd hx hb dX10_looks_420 ?_
                                have rg_163 := i32_r x_161
                                have rg_164 := i32_r x_135
                                refine lv_topi (fun x_165 ex_165 => ?_)
                                refine lv_iconst (v := 1) hx hb dX10_looks_421 (by decide) ?_
                                refine lv_isub hx hb dX10_looks_422 ?_
                                have rg_166 := i32_r x_165
                                refine lv_topi (fun x_167 ex_167 => ?_)
                                refine lv_aload_n hx hb dX10_looks_423 rfl (lv_at hl 4 rfl) ?_
                                refine hk_getr hx hb hts hC_10 hown hW (gx.S hM) tt_10 54 (by decide) rfl kw_1197 ⟨rfl, rfl, rfl⟩ fq_134 dX10_looks_424 ?_
                                refine lv_iload_n hx hb dX10_looks_427 rfl (lv_at hl 5 rfl) ?_
                                refine hx_iald hx hb hW hT gq_134 tt_89 rfl ⟨by omega, by omega⟩ dX10_looks_428 (fun x_168 ex_168 lx_168 ux_168 => ?_)
                                obtain rfl : x_135 = x_168 := ex_135.trans ex_168.symm
                                refine lv_idiv hx hb dX10_looks_429 (hx_ne0 (by omega)) ?_
                                refine lv_topi (fun x_169 ex_169 => ?_)
                                refine lv_goto (tgt := 434) hx hb dX10_looks_430 (by decide) ?_
                                refine hx_puti hx hb hts hC_10 hown hW hT (hx_S.rf (M := [(10, 70)])) (gx.S hM) tt_10 70 (by decide) rfl kw_1213 ⟨rfl, rfl, rfl⟩ rfl (x := x_169) (i32_r _) rfl rfl rfl (List.mem_singleton.mpr rfl) dX10_looks_434 (fun H locs h_170 eh_170 hW hT hs => ?_)
                                replace fjw279_x_67 := (hs.o (gx.S hM) trivial rfl).1.trans fjw279_x_67
                                replace fjw330_x_68 := (hs.o (gx.S hM) trivial rfl).1.trans fjw330_x_68
                                replace fjw354_x_69 := (hs.o (gx.S hM) trivial rfl).1.trans fjw354_x_69
                                replace fq_134 := (hs.o (gx.S hM) trivial rfl).2.trans fq_134
                                replace ex_129 := ex_129.trans (hs.a (gqod.S hM) rfl _).1.symm
                                replace ex_135 := ex_135.trans (hs.a gq_134 rfl _).1.symm
                                replace hM := hM.tr (hs.mono (by decide))
                                replace gq_134 := gq_134.S hs
                                have f_171 : h_170.2.1 x 70 = x_169 := by rw [eh_170]; exact hx_pi_at _ _ _ _
                                exact join437 x_169 _ _ hL1 h_170 (i32_r _).1 (i32_r _).2  ls hW hT hM f_171 fjw279_x_67 fjw330_x_68 fjw354_x_69  (lv_sub hl [2, 3, 4, 5, 6, 7] rfl)
                          refine lv_aload_n hx hb dX10_looks_330 rfl (lv_at hl 2 rfl) ?_
                          refine lv_aload_n hx hb dX10_looks_331 rfl (lv_at hl 2 rfl) ?_
                          refine hk_geti hx hb hts hC_10 hown hW (gx.S hM) tt_10 67 (by decide) rfl kw_1210 ⟨rfl, rfl, rfl⟩ fjw279_x_67 dX10_looks_332 ?_
                          refine lv_iload hx hb dX10_looks_335 (lv_at hl 0 rfl) ?_
                          refine hb_icmp_le (zx := jw279_x_67.toInt) (zy := jv279_5.toInt) (tgt := 350) hx hb rfl rfl dX10_looks_337 (by decide) (fun c_172 => ?_) (fun c_172 => ?_)
                          · skip
                            refine lv_iconst (v := 0) hx hb dX10_looks_350 (by decide) ?_
                            refine hx_puti hx hb hts hC_10 hown hW hT (hx_S.rf (M := [(10, 69)])) (gx.S hM) tt_10 69 (by decide) rfl kw_1212 ⟨rfl, rfl, rfl⟩ rfl (x := (0 : Int32)) (by decide) rfl rfl rfl (List.mem_singleton.mpr rfl) dX10_looks_351 (fun H locs h_173 eh_173 hW hT hs => ?_)
                            replace f_8 := (hs.o (gx.S hM) trivial rfl).1.trans f_8
                            replace fjw279_x_67 := (hs.o (gx.S hM) trivial rfl).1.trans fjw279_x_67
                            replace fjw330_x_68 := (hs.o (gx.S hM) trivial rfl).1.trans fjw330_x_68
                            replace hM := hM.tr (hs.mono (by decide))
                            have f_174 : h_173.2.1 x 69 = (0 : Int32) := by rw [eh_173]; exact hx_pi_at _ _ _ _
                            have zk_0 : (0 : Int32).toInt = 0 := by decide
                            exact join354 (0 : Int32) _ _ hL1 h_173 (by decide) (by decide)  ls hW hT hM f_174 f_8 fjw279_x_67 fjw330_x_68  (lv_sub hl [0, 1, 2, 3, 4, 5] rfl)
                          · skip
                            refine lv_aload_n hx hb dX10_looks_340 rfl (lv_at hl 2 rfl) ?_
                            refine hk_geti hx hb hts hC_10 hown hW (gx.S hM) tt_10 67 (by decide) rfl kw_1210 ⟨rfl, rfl, rfl⟩ fjw279_x_67 dX10_looks_341 ?_
                            refine lv_iload hx hb dX10_looks_344 (lv_at hl 0 rfl) ?_
                            refine lv_isub hx hb dX10_looks_346 ?_
                            have rg_175 := i32_r jw279_x_67
                            have rg_176 := i32_r jv279_5
                            refine lv_topi (fun x_177 ex_177 => ?_)
                            have zx_177 : x_177.toInt = jw279_x_67.toInt - jv279_5.toInt := by rw [ex_177]; exact i32_sub rfl rfl (by omega) (by omega)
                            refine lv_goto (tgt := 351) hx hb dX10_looks_347 (by decide) ?_
                            refine hx_puti hx hb hts hC_10 hown hW hT (hx_S.rf (M := [(10, 69)])) (gx.S hM) tt_10 69 (by decide) rfl kw_1212 ⟨rfl, rfl, rfl⟩ rfl (x := x_177) (i32_r _) rfl rfl rfl (List.mem_singleton.mpr rfl) dX10_looks_351 (fun H locs h_178 eh_178 hW hT hs => ?_)
                            replace f_8 := (hs.o (gx.S hM) trivial rfl).1.trans f_8
                            replace fjw279_x_67 := (hs.o (gx.S hM) trivial rfl).1.trans fjw279_x_67
                            replace fjw330_x_68 := (hs.o (gx.S hM) trivial rfl).1.trans fjw330_x_68
                            replace hM := hM.tr (hs.mono (by decide))
                            have f_179 : h_178.2.1 x 69 = x_177 := by rw [eh_178]; exact hx_pi_at _ _ _ _
                            exact join354 x_177 _ _ hL1 h_178 (i32_r _).1 (i32_r _).2  ls hW hT hM f_179 f_8 fjw279_x_67 fjw330_x_68  (lv_sub hl [0, 1, 2, 3, 4, 5] rfl)
                        refine lv_aload_n hx hb dX10_looks_306 rfl (lv_at hl 2 rfl) ?_
                        refine lv_iload hx hb dX10_looks_307 (lv_at hl 0 rfl) ?_
                        refine lv_aload_n hx hb dX10_looks_309 rfl (lv_at hl 2 rfl) ?_
                        refine hk_geti hx hb hts hC_10 hown hW (gx.S hM) tt_10 67 (by decide) rfl kw_1210 ⟨rfl, rfl, rfl⟩ fjw279_x_67 dX10_looks_310 ?_
                        refine hb_icmp_le (zx := jv279_5.toInt) (zy := jw279_x_67.toInt) (tgt := 326) hx hb rfl rfl dX10_looks_313 (by decide) (fun c_180 => ?_) (fun c_180 => ?_)
                        · skip
                          refine lv_iconst (v := 0) hx hb dX10_looks_326 (by decide) ?_
                          refine hx_puti hx hb hts hC_10 hown hW hT (hx_S.rf (M := [(10, 68)])) (gx.S hM) tt_10 68 (by decide) rfl kw_1211 ⟨rfl, rfl, rfl⟩ rfl (x := (0 : Int32)) (by decide) rfl rfl rfl (List.mem_singleton.mpr rfl) dX10_looks_327 (fun H locs h_181 eh_181 hW hT hs => ?_)
                          replace f_6 := (hs.o (gx.S hM) trivial rfl).1.trans f_6
                          replace f_8 := (hs.o (gx.S hM) trivial rfl).1.trans f_8
                          replace fjw279_x_67 := (hs.o (gx.S hM) trivial rfl).1.trans fjw279_x_67
                          replace ex_14 := ex_14.trans (hs.a (gqsv.S hM) rfl _).1.symm
                          replace hM := hM.tr (hs.mono (by decide))
                          have f_182 : h_181.2.1 x 68 = (0 : Int32) := by rw [eh_181]; exact hx_pi_at _ _ _ _
                          have zk_0 : (0 : Int32).toInt = 0 := by decide
                          exact join330 (0 : Int32) _ _ hL1 h_181 (by decide) (by decide) (by omega) ls hW hT hM f_182 f_6 f_8 fjw279_x_67  (lv_sub hl [0, 1, 2, 3, 4, 5] rfl)
                        · skip
                          refine lv_iload hx hb dX10_looks_316 (lv_at hl 0 rfl) ?_
                          refine lv_aload_n hx hb dX10_looks_318 rfl (lv_at hl 2 rfl) ?_
                          refine hk_geti hx hb hts hC_10 hown hW (gx.S hM) tt_10 67 (by decide) rfl kw_1210 ⟨rfl, rfl, rfl⟩ fjw279_x_67 dX10_looks_319 ?_
                          refine lv_isub hx hb dX10_looks_322 ?_
                          have rg_183 := i32_r jv279_5
                          have rg_184 := i32_r jw279_x_67
                          refine lv_topi (fun x_185 ex_185 => ?_)
                          have zx_185 : x_185.toInt = jv279_5.toInt - jw279_x_67.toInt := by rw [ex_185]; exact i32_sub rfl rfl (by omega) (by omega)
                          refine lv_goto (tgt := 327) hx hb dX10_looks_323 (by decide) ?_
                          refine hx_puti hx hb hts hC_10 hown hW hT (hx_S.rf (M := [(10, 68)])) (gx.S hM) tt_10 68 (by decide) rfl kw_1211 ⟨rfl, rfl, rfl⟩ rfl (x := x_185) ⟨by omega, by omega⟩ rfl rfl rfl (List.mem_singleton.mpr rfl) dX10_looks_327 (fun H locs h_186 eh_186 hW hT hs => ?_)
                          replace f_6 := (hs.o (gx.S hM) trivial rfl).1.trans f_6
                          replace f_8 := (hs.o (gx.S hM) trivial rfl).1.trans f_8
                          replace fjw279_x_67 := (hs.o (gx.S hM) trivial rfl).1.trans fjw279_x_67
                          replace ex_14 := ex_14.trans (hs.a (gqsv.S hM) rfl _).1.symm
                          replace hM := hM.tr (hs.mono (by decide))
                          have f_187 : h_186.2.1 x 68 = x_185 := by rw [eh_186]; exact hx_pi_at _ _ _ _
                          exact join330 x_185 _ _ hL1 h_186 (by omega) (by omega) (by omega) ls hW hT hM f_187 f_6 f_8 fjw279_x_67  (lv_sub hl [0, 1, 2, 3, 4, 5] rfl)
                      · skip
                        refine lv_aload_n hx hb dX10_looks_299 rfl (lv_at hl 2 rfl) ?_
                        refine lv_bipush (v := 8) hx hb dX10_looks_300 (by decide) ?_
                        refine hx_puti hx hb hts hC_10 hown hW hT (hx_S.rf (M := [(10, 71)])) (gx.S hM) tt_10 71 (by decide) rfl kw_1214 ⟨rfl, rfl, rfl⟩ rfl (x := (8 : Int32)) (by decide) rfl rfl rfl (List.mem_singleton.mpr rfl) dX10_looks_302 (fun H locs h_188 eh_188 hW hT hs => ?_)
                        replace f_4 := (hs.o (gx.S hM) trivial rfl).1.trans f_4
                        replace f_6 := (hs.o (gx.S hM) trivial rfl).1.trans f_6
                        replace f_8 := (hs.o (gx.S hM) trivial rfl).1.trans f_8
                        replace fjw279_x_67 := (hs.o (gx.S hM) trivial rfl).1.trans fjw279_x_67
                        replace ex_14 := ex_14.trans (hs.a (gqsv.S hM) rfl _).1.symm
                        replace hM := hM.tr (hs.mono (by decide))
                        have f_189 : h_188.2.1 x 71 = (8 : Int32) := by rw [eh_188]; exact hx_pi_at _ _ _ _
                        have zo_0 : (0 : Int32).toInt = 0 := by decide
                        have zo_8 : (8 : Int32).toInt = 8 := by decide
                        exact hx_retv hx hb hr hlk hW ⟨⟨(0 : Int32), (8 : Int32), f_4, f_189, ⟨(hx_R_served (by omega)).symm, by omega⟩⟩, hT, hM⟩ dX10_looks_305
                  have hpx : fw139_x_67.toInt = hx_ps pof pdf psm pkf pst i2.toInt i3.toInt i1.toInt pm0.toInt.toNat := by rw [show pm0.toInt = iv139_5.toInt from by omega]; exact vi139_1
                  refine lv_aload_n hx hb dX10_looks_225 rfl (lv_at hl 2 rfl) ?_
                  refine lv_dup hx hb dX10_looks_226 rfl ?_
                  refine hk_geti hx hb hts hC_10 hown hW (gx.S hM) tt_10 67 (by decide) rfl kw_1210 ⟨rfl, rfl, rfl⟩ ffw139_x_67 dX10_looks_227 ?_
                  refine lv_iload hx hb dX10_looks_230 (lv_at hl 1 rfl) ?_
                  refine hb_if_eq (zx := jv136_4.toInt) (tgt := 244) hx hb rfl dX10_looks_232 (by decide) (fun c_190 => ?_) (fun c_190 => ?_)
                  · skip
                    refine lv_iconst (v := 0) hx hb dX10_looks_244 (by decide) ?_
                    refine lv_iadd hx hb dX10_looks_245 ?_
                    have rg_191 := i32_r fw139_x_67
                    refine lv_topi (fun x_192 ex_192 => ?_)
                    have zx_192 : x_192.toInt = fw139_x_67.toInt + 0 := by rw [ex_192]; exact i32_add rfl (by decide) (by omega) (by omega)
                    refine hx_puti hx hb hts hC_10 hown hW hT (hx_S.rf (M := [(10, 67)])) (gx.S hM) tt_10 67 (by decide) rfl kw_1210 ⟨rfl, rfl, rfl⟩ rfl (x := x_192) ⟨by omega, by omega⟩ rfl rfl rfl (List.mem_singleton.mpr rfl) dX10_looks_246 (fun H locs h_193 eh_193 hW hT hs => ?_)
                    replace f_4 := (hs.o (gx.S hM) trivial rfl).1.trans f_4
                    replace f_6 := (hs.o (gx.S hM) trivial rfl).1.trans f_6
                    replace f_8 := (hs.o (gx.S hM) trivial rfl).1.trans f_8
                    replace fjw88_x_71 := (hs.o (gx.S hM) trivial rfl).1.trans fjw88_x_71
                    replace hM := hM.tr (hs.mono (by decide))
                    have f_194 : h_193.2.1 x 67 = x_192 := by rw [eh_193]; exact hx_pi_at _ _ _ _
                    refine lv_aload_n hx hb dX10_looks_249 rfl (lv_at hl 2 rfl) ?_
                    refine hk_getr hx hb hts hC_10 hown hW (gx.S hM) tt_10 55 (by decide) rfl kw_1198 ⟨rfl, rfl, rfl⟩ ((hM.o gx trivial rfl).2.trans f_x_55) dX10_looks_250 ?_
                    refine lv_iload_n hx hb dX10_looks_253 rfl (lv_at hl 3 rfl) ?_
                    refine hx_iald hx hb hW hT (gqow.S hM) tt_90 rfl ⟨by omega, by omega⟩ dX10_looks_254 (fun x_195 ex_195 lx_195 ux_195 => ?_)
                    have ax_195 : x_195 = owf i1.toNatClampNeg := ex_195.trans (congrFun (hx_afS hM gqow rfl af_qow) _)
                    refine lv_iload hx hb dX10_looks_255 (lv_at hl 1 rfl) ?_
                    refine hb_if_eq (zx := jv136_4.toInt) (tgt := 275) hx hb rfl dX10_looks_257 (by decide) (fun c_196 => ?_) (fun c_196 => by exfalso; omega)
                    refine lv_iconst (v := 0) hx hb dX10_looks_275 (by decide) ?_
                    refine lv_iadd hx hb dX10_looks_276 ?_
                    have rg_197 := i32_r x_195
                    refine lv_topi (fun x_198 ex_198 => ?_)
                    have zx_198 : x_198.toInt = x_195.toInt + 0 := by rw [ex_198]; exact i32_add rfl (by decide) (by omega) (by omega)
                    have hax : hx_ax szf gdf owf plf rf i2.toInt i1.toInt = x_198.toInt := by unfold hx_ax; rw [if_neg (by omega)]; rw [ex_198, ax_195]; rfl
                    refine lv_istore (lv' := [(5, .int x_198), (4, .int jv136_4), (0, .ref x), (1, .int i1), (2, .int i2), (3, .int i3)]) hx hb dX10_looks_277 hl (by decide) rfl (fun ls hl => ?_)
                    exact join279 x_198 x_192 _ _ hL1 h_193 (by omega) (by omega) (by omega) (by omega) (by omega) ls hW hT hM f_194 f_4 f_6 f_8  (lv_sub hl [0, 1, 2, 3, 4, 5] rfl)
                  · skip
                    refine lv_aload_n hx hb dX10_looks_235 rfl (lv_at hl 2 rfl) ?_
                    refine hk_getr hx hb hts hC_10 hown hW (gx.S hM) tt_10 56 (by decide) rfl kw_1199 ⟨rfl, rfl, rfl⟩ ((hM.o gx trivial rfl).2.trans f_x_56) dX10_looks_236 ?_
                    refine lv_iload_n hx hb dX10_looks_239 rfl (lv_at hl 3 rfl) ?_
                    refine hx_iald hx hb hW hT (gqgd.S hM) tt_91 rfl ⟨by omega, by omega⟩ dX10_looks_240 (fun x_199 ex_199 lx_199 ux_199 => ?_)
                    have ax_199 : x_199 = gdf i1.toNatClampNeg := ex_199.trans (congrFun (hx_afS hM gqgd rfl af_qgd) _)
                    refine lv_goto (tgt := 245) hx hb dX10_looks_241 (by decide) ?_
                    refine lv_iadd hx hb dX10_looks_245 ?_
                    have rg_200 := i32_r fw139_x_67
                    have rg_201 := i32_r x_199
                    refine lv_topi (fun x_202 ex_202 => ?_)
                    have zx_202 : x_202.toInt = fw139_x_67.toInt + x_199.toInt := by rw [ex_202]; exact i32_add rfl rfl (by omega) (by omega)
                    refine hx_puti hx hb hts hC_10 hown hW hT (hx_S.rf (M := [(10, 67)])) (gx.S hM) tt_10 67 (by decide) rfl kw_1210 ⟨rfl, rfl, rfl⟩ rfl (x := x_202) ⟨by omega, by omega⟩ rfl rfl rfl (List.mem_singleton.mpr rfl) dX10_looks_246 (fun H locs h_203 eh_203 hW hT hs => ?_)
                    replace f_4 := (hs.o (gx.S hM) trivial rfl).1.trans f_4
                    replace f_6 := (hs.o (gx.S hM) trivial rfl).1.trans f_6
                    replace f_8 := (hs.o (gx.S hM) trivial rfl).1.trans f_8
                    replace fjw88_x_71 := (hs.o (gx.S hM) trivial rfl).1.trans fjw88_x_71
                    replace ex_199 := ex_199.trans (hs.a (gqgd.S hM) rfl _).1.symm
                    replace hM := hM.tr (hs.mono (by decide))
                    have f_204 : h_203.2.1 x 67 = x_202 := by rw [eh_203]; exact hx_pi_at _ _ _ _
                    refine lv_aload_n hx hb dX10_looks_249 rfl (lv_at hl 2 rfl) ?_
                    refine hk_getr hx hb hts hC_10 hown hW (gx.S hM) tt_10 55 (by decide) rfl kw_1198 ⟨rfl, rfl, rfl⟩ ((hM.o gx trivial rfl).2.trans f_x_55) dX10_looks_250 ?_
                    refine lv_iload_n hx hb dX10_looks_253 rfl (lv_at hl 3 rfl) ?_
                    refine hx_iald hx hb hW hT (gqow.S hM) tt_90 rfl ⟨by omega, by omega⟩ dX10_looks_254 (fun x_205 ex_205 lx_205 ux_205 => ?_)
                    have ax_205 : x_205 = owf i1.toNatClampNeg := ex_205.trans (congrFun (hx_afS hM gqow rfl af_qow) _)
                    refine lv_iload hx hb dX10_looks_255 (lv_at hl 1 rfl) ?_
                    refine hb_if_eq (zx := jv136_4.toInt) (tgt := 275) hx hb rfl dX10_looks_257 (by decide) (fun c_206 => by exfalso; omega) (fun c_206 => ?_)
                    refine lv_aload_n hx hb dX10_looks_260 rfl (lv_at hl 2 rfl) ?_
                    refine lv_aload_n hx hb dX10_looks_261 rfl (lv_at hl 2 rfl) ?_
                    refine hk_getr hx hb hts hC_10 hown hW (gx.S hM) tt_10 44 (by decide) rfl kw_1187 ⟨rfl, rfl, rfl⟩ ((hM.o gx trivial rfl).2.trans f_x_44) dX10_looks_262 ?_
                    refine lv_iload_n hx hb dX10_looks_265 rfl (lv_at hl 3 rfl) ?_
                    refine hx_iald hx hb hW hT (gqpl.S hM) tt_79 rfl ⟨by omega, by omega⟩ dX10_looks_266 (fun x_207 ex_207 lx_207 ux_207 => ?_)
                    have ax_207 : x_207 = plf i1.toNatClampNeg := ex_207.trans (congrFun (hx_afS hM gqpl rfl af_qpl) _)
                    refine lv_bipush (v := 12) hx hb dX10_looks_267 (by decide) ?_
                    have zc_12 : (12 : Int32).toInt = 12 := by decide
                    refine hx_goi (hx_runV (As := [.int x_207, .int (12 : Int32)]) (rest := [.int x_205]) ⟨hx, hb, hml, hown, hts⟩ hW (gx.S hM) tt_10 (T := TX10) (N := 98) rfl (t_X10_ruleOf_2 l dC dI dA hL1 h_203 H.size x x_207 (12 : Int32) hT (gx.S hM) qru (gqru.S hM) ((hM.o gx trivial rfl).2.trans f_x_3) rf (hx_afS hM gqru rfl af_qru) ⟨by omega, by omega⟩ (by decide)) (cwV 2 hts (hx_gV kw_1533 kw_1530 kw_1532 kw_66 kw_103) rfl rfl rfl (by decide +kernel) ⟨Nat.le_of_ble_eq_true rfl, Nat.le_of_ble_eq_true rfl⟩) rfl hl.1 rfl (Nat.le_of_ble_eq_true rfl) dX10_looks_269 ⟨Nat.le_of_ble_eq_true rfl, Nat.le_of_ble_eq_true rfl⟩) hW (fun r_210 L_208 h_209 H locs p_211 hW => ?_)
                    obtain ⟨hr_212, hT, hs⟩ := p_211
                    replace hT : hx_T T_tb L_208 h_209 := hT
                    replace hs : hx_S T_tb [] hL1 h_203 L_208 h_209 := hs
                    replace f_4 := (hs.o (gx.S hM) trivial rfl).1.trans f_4
                    replace f_6 := (hs.o (gx.S hM) trivial rfl).1.trans f_6
                    replace f_8 := (hs.o (gx.S hM) trivial rfl).1.trans f_8
                    replace fjw88_x_71 := (hs.o (gx.S hM) trivial rfl).1.trans fjw88_x_71
                    replace f_204 := (hs.o (gx.S hM) trivial rfl).1.trans f_204
                    replace ex_199 := ex_199.trans (hs.a (gqgd.S hM) rfl _).1.symm
                    replace ex_205 := ex_205.trans (hs.a (gqow.S hM) rfl _).1.symm
                    replace ex_207 := ex_207.trans (hs.a (gqpl.S hM) rfl _).1.symm
                    replace hM := hM.tr (hs.mono (by decide))
                    refine lv_goto (tgt := 276) hx hb dX10_looks_272 (by decide) ?_
                    refine lv_iadd hx hb dX10_looks_276 ?_
                    have rg_213 := i32_r x_205
                    have rg_214 := i32_r r_210
                    refine lv_topi (fun x_215 ex_215 => ?_)
                    have zx_215 : x_215.toInt = x_205.toInt + r_210.toInt := by rw [ex_215]; exact i32_add rfl rfl (by omega) (by omega)
                    have hax : hx_ax szf gdf owf plf rf i2.toInt i1.toInt = x_215.toInt - x_199.toInt := by unfold hx_ax; rw [if_pos (by omega)]; rw [ex_215, ax_205, ax_199, hr_212.2.2, ax_207]; rfl
                    refine lv_istore (lv' := [(5, .int x_215), (4, .int jv136_4), (0, .ref x), (1, .int i1), (2, .int i2), (3, .int i3)]) hx hb dX10_looks_277 hl (by decide) rfl (fun ls hl => ?_)
                    exact join279 x_215 x_202 _ _ L_208 h_209 (by omega) (by omega) (by omega) (by omega) (by omega) ls hW hT hM f_204 f_4 f_6 f_8  (lv_sub hl [0, 1, 2, 3, 4, 5] rfl)
                · skip
                  refine lv_aload_n hx hb dX10_looks_148 rfl (lv_at hl 2 rfl) ?_
                  refine hk_getr hx hb hts hC_10 hown hW (gx.S hM) tt_10 60 (by decide) rfl kw_1203 ⟨rfl, rfl, rfl⟩ ((hM.o gx trivial rfl).2.trans f_x_60) dX10_looks_149 ?_
                  refine lv_iload hx hb dX10_looks_152 (lv_at hl 0 rfl) ?_
                  refine hx_iald hx hb hW hT (gqpo.S hM) tt_93 rfl ⟨by omega, by omega⟩ dX10_looks_154 (fun x_216 ex_216 lx_216 ux_216 => ?_)
                  have ax_216 : x_216 = pof iv139_5.toNatClampNeg := ex_216.trans (congrFun (hx_afS hM gqpo rfl af_qpo) _)
                  refine lv_iload_n hx hb dX10_looks_155 rfl (lv_at hl 3 rfl) ?_
                  refine hb_icmp_ne (zx := x_216.toInt) (zy := i1.toInt) (tgt := 219) hx hb rfl rfl dX10_looks_156 (by decide) (fun c_217 => ?_) (fun c_217 => ?_)
                  · skip
                    obtain ⟨x_218, ex_218⟩ : ∃ y : Int32, y = iv139_5 + Int32.ofInt 1 := ⟨_, rfl⟩
                    have rg_219 := i32_r iv139_5
                    have zx_218 : x_218.toInt = iv139_5.toInt + (1) := by rw [ex_218]; exact i32_add rfl (by decide) (by omega) (by omega)
                    refine lv_iinc (v := x_218) (lv' := [(5, .int x_218), (4, .int jv136_4), (0, .ref x), (1, .int i1), (2, .int i2), (3, .int i3)]) hx hb dX10_looks_219 hl (k := 0) rfl ex_218.symm (by decide) rfl (fun ls hl => ?_)
                    refine lv_goto (tgt := 139) hx hb dX10_looks_222 (by decide) ?_
                    exact ih139 x_218 fw139_x_67 _ _ hL1 hl1 (by omega) (by omega) (by omega) (by omega) (by omega) (by first | exact hx_ps_no1 vi139_1 (by omega) zx_218 ax_216 rfl (by omega)) (by omega) ls (by omega) hW hT hM ffw139_x_67 f_4 f_6 f_8 fjw88_x_71  (lv_sub hl [0, 1, 2, 3, 4, 5] rfl)
                  · skip
                    refine lv_aload_n hx hb dX10_looks_159 rfl (lv_at hl 2 rfl) ?_
                    refine hk_getr hx hb hts hC_10 hown hW (gx.S hM) tt_10 61 (by decide) rfl kw_1204 ⟨rfl, rfl, rfl⟩ ((hM.o gx trivial rfl).2.trans f_x_61) dX10_looks_160 ?_
                    refine lv_iload hx hb dX10_looks_163 (lv_at hl 0 rfl) ?_
                    refine hx_iald hx hb hW hT (gqpd.S hM) tt_94 rfl ⟨by omega, by omega⟩ dX10_looks_165 (fun x_220 ex_220 lx_220 ux_220 => ?_)
                    have ax_220 : x_220 = pdf iv139_5.toNatClampNeg := ex_220.trans (congrFun (hx_afS hM gqpd rfl af_qpd) _)
                    refine lv_iload_n hx hb dX10_looks_166 rfl (lv_at hl 4 rfl) ?_
                    refine hb_icmp_gt (zx := x_220.toInt) (zy := i2.toInt) (tgt := 219) hx hb rfl rfl dX10_looks_167 (by decide) (fun c_221 => ?_) (fun c_221 => ?_)
                    · skip
                      obtain ⟨x_222, ex_222⟩ : ∃ y : Int32, y = iv139_5 + Int32.ofInt 1 := ⟨_, rfl⟩
                      have rg_223 := i32_r iv139_5
                      have zx_222 : x_222.toInt = iv139_5.toInt + (1) := by rw [ex_222]; exact i32_add rfl (by decide) (by omega) (by omega)
                      refine lv_iinc (v := x_222) (lv' := [(5, .int x_222), (4, .int jv136_4), (0, .ref x), (1, .int i1), (2, .int i2), (3, .int i3)]) hx hb dX10_looks_219 hl (k := 0) rfl ex_222.symm (by decide) rfl (fun ls hl => ?_)
                      refine lv_goto (tgt := 139) hx hb dX10_looks_222 (by decide) ?_
                      exact ih139 x_222 fw139_x_67 _ _ hL1 hl1 (by omega) (by omega) (by omega) (by omega) (by omega) (by first | exact hx_ps_no2 vi139_1 (by omega) zx_222 ax_220 rfl (by omega) | exact hx_ps_no1 vi139_1 (by omega) zx_222 ax_216 rfl (by omega)) (by omega) ls (by omega) hW hT hM ffw139_x_67 f_4 f_6 f_8 fjw88_x_71  (lv_sub hl [0, 1, 2, 3, 4, 5] rfl)
                    · skip
                      refine lv_aload_n hx hb dX10_looks_170 rfl (lv_at hl 2 rfl) ?_
                      refine hk_getr hx hb hts hC_10 hown hW (gx.S hM) tt_10 63 (by decide) rfl kw_1206 ⟨rfl, rfl, rfl⟩ ((hM.o gx trivial rfl).2.trans f_x_63) dX10_looks_171 ?_
                      refine lv_iload hx hb dX10_looks_174 (lv_at hl 0 rfl) ?_
                      refine hx_iald hx hb hW hT (gqpk.S hM) tt_96 rfl ⟨by omega, by omega⟩ dX10_looks_176 (fun x_224 ex_224 lx_224 ux_224 => ?_)
                      have ax_224 : x_224 = pkf iv139_5.toNatClampNeg := ex_224.trans (congrFun (hx_afS hM gqpk rfl af_qpk) _)
                      refine lv_iload_n hx hb dX10_looks_177 rfl (lv_at hl 5 rfl) ?_
                      refine hb_icmp_gt (zx := x_224.toInt) (zy := i3.toInt) (tgt := 219) hx hb rfl rfl dX10_looks_178 (by decide) (fun c_225 => ?_) (fun c_225 => ?_)
                      · skip
                        obtain ⟨x_226, ex_226⟩ : ∃ y : Int32, y = iv139_5 + Int32.ofInt 1 := ⟨_, rfl⟩
                        have rg_227 := i32_r iv139_5
                        have zx_226 : x_226.toInt = iv139_5.toInt + (1) := by rw [ex_226]; exact i32_add rfl (by decide) (by omega) (by omega)
                        refine lv_iinc (v := x_226) (lv' := [(5, .int x_226), (4, .int jv136_4), (0, .ref x), (1, .int i1), (2, .int i2), (3, .int i3)]) hx hb dX10_looks_219 hl (k := 0) rfl ex_226.symm (by decide) rfl (fun ls hl => ?_)
                        refine lv_goto (tgt := 139) hx hb dX10_looks_222 (by decide) ?_
                        exact ih139 x_226 fw139_x_67 _ _ hL1 hl1 (by omega) (by omega) (by omega) (by omega) (by omega) (by first | exact hx_ps_no3 vi139_1 (by omega) zx_226 ax_224 rfl (by omega) | exact hx_ps_no2 vi139_1 (by omega) zx_226 ax_220 rfl (by omega) | exact hx_ps_no1 vi139_1 (by omega) zx_226 ax_216 rfl (by omega)) (by omega) ls (by omega) hW hT hM ffw139_x_67 f_4 f_6 f_8 fjw88_x_71  (lv_sub hl [0, 1, 2, 3, 4, 5] rfl)
                      · skip
                        refine lv_aload_n hx hb dX10_looks_181 rfl (lv_at hl 2 rfl) ?_
                        refine hk_getr hx hb hts hC_10 hown hW (gx.S hM) tt_10 64 (by decide) rfl kw_1207 ⟨rfl, rfl, rfl⟩ ((hM.o gx trivial rfl).2.trans f_x_64) dX10_looks_182 ?_
                        refine lv_iload hx hb dX10_looks_185 (lv_at hl 0 rfl) ?_
                        refine hx_iald hx hb hW hT (gqpt.S hM) tt_97 rfl ⟨by omega, by omega⟩ dX10_looks_187 (fun x_228 ex_228 lx_228 ux_228 => ?_)
                        have ax_228 : x_228 = pst iv139_5.toNatClampNeg := ex_228.trans (congrFun (hx_afS hM gqpt rfl af_qpt) _)
                        refine lv_iconst (v := -1) hx hb dX10_looks_188 (by decide) ?_
                        refine hb_icmp_eq (zx := x_228.toInt) (zy := (-1)) (tgt := 203) hx hb rfl (by decide) dX10_looks_189 (by decide) (fun c_229 => ?_) (fun c_229 => ?_)
                        · skip
                          refine lv_aload_n hx hb dX10_looks_203 rfl (lv_at hl 2 rfl) ?_
                          refine lv_dup hx hb dX10_looks_204 rfl ?_
                          refine hk_geti hx hb hts hC_10 hown hW (gx.S hM) tt_10 67 (by decide) rfl kw_1210 ⟨rfl, rfl, rfl⟩ ffw139_x_67 dX10_looks_205 ?_
                          refine lv_aload_n hx hb dX10_looks_208 rfl (lv_at hl 2 rfl) ?_
                          refine hk_getr hx hb hts hC_10 hown hW (gx.S hM) tt_10 62 (by decide) rfl kw_1205 ⟨rfl, rfl, rfl⟩ ((hM.o gx trivial rfl).2.trans f_x_62) dX10_looks_209 ?_
                          refine lv_iload hx hb dX10_looks_212 (lv_at hl 0 rfl) ?_
                          refine hx_iald hx hb hW hT (gqps.S hM) tt_95 rfl ⟨by omega, by omega⟩ dX10_looks_214 (fun x_230 ex_230 lx_230 ux_230 => ?_)
                          have ax_230 : x_230 = psm iv139_5.toNatClampNeg := ex_230.trans (congrFun (hx_afS hM gqps rfl af_qps) _)
                          refine lv_iadd hx hb dX10_looks_215 ?_
                          have rg_231 := i32_r fw139_x_67
                          have rg_232 := i32_r x_230
                          refine lv_topi (fun x_233 ex_233 => ?_)
                          have zx_233 : x_233.toInt = fw139_x_67.toInt + x_230.toInt := by rw [ex_233]; exact i32_add rfl rfl (by omega) (by omega)
                          refine hx_puti hx hb hts hC_10 hown hW hT (hx_S.rf (M := [(10, 67)])) (gx.S hM) tt_10 67 (by decide) rfl kw_1210 ⟨rfl, rfl, rfl⟩ rfl (x := x_233) ⟨by omega, by omega⟩ rfl rfl rfl (List.mem_singleton.mpr rfl) dX10_looks_216 (fun H locs h_234 eh_234 hW hT hs => ?_)
                          replace f_4 := (hs.o (gx.S hM) trivial rfl).1.trans f_4
                          replace f_6 := (hs.o (gx.S hM) trivial rfl).1.trans f_6
                          replace f_8 := (hs.o (gx.S hM) trivial rfl).1.trans f_8
                          replace fjw88_x_71 := (hs.o (gx.S hM) trivial rfl).1.trans fjw88_x_71
                          replace ex_216 := ex_216.trans (hs.a (gqpo.S hM) rfl _).1.symm
                          replace ex_220 := ex_220.trans (hs.a (gqpd.S hM) rfl _).1.symm
                          replace ex_224 := ex_224.trans (hs.a (gqpk.S hM) rfl _).1.symm
                          replace ex_228 := ex_228.trans (hs.a (gqpt.S hM) rfl _).1.symm
                          replace ex_230 := ex_230.trans (hs.a (gqps.S hM) rfl _).1.symm
                          replace hM := hM.tr (hs.mono (by decide))
                          have f_235 : h_234.2.1 x 67 = x_233 := by rw [eh_234]; exact hx_pi_at _ _ _ _
                          obtain ⟨x_236, ex_236⟩ : ∃ y : Int32, y = iv139_5 + Int32.ofInt 1 := ⟨_, rfl⟩
                          have rg_237 := i32_r iv139_5
                          have zx_236 : x_236.toInt = iv139_5.toInt + (1) := by rw [ex_236]; exact i32_add rfl (by decide) (by omega) (by omega)
                          refine lv_iinc (v := x_236) (lv' := [(5, .int x_236), (4, .int jv136_4), (0, .ref x), (1, .int i1), (2, .int i2), (3, .int i3)]) hx hb dX10_looks_219 hl (k := 0) rfl ex_236.symm (by decide) rfl (fun ls hl => ?_)
                          refine lv_goto (tgt := 139) hx hb dX10_looks_222 (by decide) ?_
                          exact ih139 x_236 x_233 _ _ hL1 h_234 (by omega) (by omega) (by omega) (by omega) (by omega) (hx_ps_yes vi139_1 (by omega) zx_236 rfl ax_216 ax_220 ax_224 ax_228 ax_230 (by omega) (by omega) (by omega) (by omega) (by omega)) (by omega) ls (by omega) hW hT hM f_235 f_4 f_6 f_8 fjw88_x_71  (lv_sub hl [0, 1, 2, 3, 4, 5] rfl)
                        · skip
                          refine lv_aload_n hx hb dX10_looks_192 rfl (lv_at hl 2 rfl) ?_
                          refine hk_getr hx hb hts hC_10 hown hW (gx.S hM) tt_10 64 (by decide) rfl kw_1207 ⟨rfl, rfl, rfl⟩ ((hM.o gx trivial rfl).2.trans f_x_64) dX10_looks_193 ?_
                          refine lv_iload hx hb dX10_looks_196 (lv_at hl 0 rfl) ?_
                          refine hx_iald hx hb hW hT (gqpt.S hM) tt_97 rfl ⟨by omega, by omega⟩ dX10_looks_198 (fun x_238 ex_238 lx_238 ux_238 => ?_)
                          have ax_238 : x_238 = pst iv139_5.toNatClampNeg := ex_238.trans (congrFun (hx_afS hM gqpt rfl af_qpt) _)
                          obtain rfl : x_228 = x_238 := ex_228.trans ex_238.symm
                          refine lv_iload_n hx hb dX10_looks_199 rfl (lv_at hl 5 rfl) ?_
                          refine hb_icmp_le (zx := x_228.toInt) (zy := i3.toInt) (tgt := 219) hx hb rfl rfl dX10_looks_200 (by decide) (fun c_239 => ?_) (fun c_239 => ?_)
                          · skip
                            obtain ⟨x_240, ex_240⟩ : ∃ y : Int32, y = iv139_5 + Int32.ofInt 1 := ⟨_, rfl⟩
                            have rg_241 := i32_r iv139_5
                            have zx_240 : x_240.toInt = iv139_5.toInt + (1) := by rw [ex_240]; exact i32_add rfl (by decide) (by omega) (by omega)
                            refine lv_iinc (v := x_240) (lv' := [(5, .int x_240), (4, .int jv136_4), (0, .ref x), (1, .int i1), (2, .int i2), (3, .int i3)]) hx hb dX10_looks_219 hl (k := 0) rfl ex_240.symm (by decide) rfl (fun ls hl => ?_)
                            refine lv_goto (tgt := 139) hx hb dX10_looks_222 (by decide) ?_
                            exact ih139 x_240 fw139_x_67 _ _ hL1 hl1 (by omega) (by omega) (by omega) (by omega) (by omega) (by first | exact hx_ps_no4 vi139_1 (by omega) zx_240 ax_228 rfl (by omega) (by omega) | exact hx_ps_no3 vi139_1 (by omega) zx_240 ax_224 rfl (by omega) | exact hx_ps_no2 vi139_1 (by omega) zx_240 ax_220 rfl (by omega) | exact hx_ps_no1 vi139_1 (by omega) zx_240 ax_216 rfl (by omega)) (by omega) ls (by omega) hW hT hM ffw139_x_67 f_4 f_6 f_8 fjw88_x_71  (lv_sub hl [0, 1, 2, 3, 4, 5] rfl)
                          · skip
                            refine lv_aload_n hx hb dX10_looks_203 rfl (lv_at hl 2 rfl) ?_
                            refine lv_dup hx hb dX10_looks_204 rfl ?_
                            refine hk_geti hx hb hts hC_10 hown hW (gx.S hM) tt_10 67 (by decide) rfl kw_1210 ⟨rfl, rfl, rfl⟩ ffw139_x_67 dX10_looks_205 ?_
                            refine lv_aload_n hx hb dX10_looks_208 rfl (lv_at hl 2 rfl) ?_
                            refine hk_getr hx hb hts hC_10 hown hW (gx.S hM) tt_10 62 (by decide) rfl kw_1205 ⟨rfl, rfl, rfl⟩ ((hM.o gx trivial rfl).2.trans f_x_62) dX10_looks_209 ?_
                            refine lv_iload hx hb dX10_looks_212 (lv_at hl 0 rfl) ?_
                            refine hx_iald hx hb hW hT (gqps.S hM) tt_95 rfl ⟨by omega, by omega⟩ dX10_looks_214 (fun x_242 ex_242 lx_242 ux_242 => ?_)
                            have ax_242 : x_242 = psm iv139_5.toNatClampNeg := ex_242.trans (congrFun (hx_afS hM gqps rfl af_qps) _)
                            refine lv_iadd hx hb dX10_looks_215 ?_
                            have rg_243 := i32_r fw139_x_67
                            have rg_244 := i32_r x_242
                            refine lv_topi (fun x_245 ex_245 => ?_)
                            have zx_245 : x_245.toInt = fw139_x_67.toInt + x_242.toInt := by rw [ex_245]; exact i32_add rfl rfl (by omega) (by omega)
                            refine hx_puti hx hb hts hC_10 hown hW hT (hx_S.rf (M := [(10, 67)])) (gx.S hM) tt_10 67 (by decide) rfl kw_1210 ⟨rfl, rfl, rfl⟩ rfl (x := x_245) ⟨by omega, by omega⟩ rfl rfl rfl (List.mem_singleton.mpr rfl) dX10_looks_216 (fun H locs h_246 eh_246 hW hT hs => ?_)
                            replace f_4 := (hs.o (gx.S hM) trivial rfl).1.trans f_4
                            replace f_6 := (hs.o (gx.S hM) trivial rfl).1.trans f_6
                            replace f_8 := (hs.o (gx.S hM) trivial rfl).1.trans f_8
                            replace fjw88_x_71 := (hs.o (gx.S hM) trivial rfl).1.trans fjw88_x_71
                            replace ex_216 := ex_216.trans (hs.a (gqpo.S hM) rfl _).1.symm
                            replace ex_220 := ex_220.trans (hs.a (gqpd.S hM) rfl _).1.symm
                            replace ex_224 := ex_224.trans (hs.a (gqpk.S hM) rfl _).1.symm
                            replace ex_228 := ex_228.trans (hs.a (gqpt.S hM) rfl _).1.symm
                            replace ex_242 := ex_242.trans (hs.a (gqps.S hM) rfl _).1.symm
                            replace hM := hM.tr (hs.mono (by decide))
                            have f_247 : h_246.2.1 x 67 = x_245 := by rw [eh_246]; exact hx_pi_at _ _ _ _
                            obtain ⟨x_248, ex_248⟩ : ∃ y : Int32, y = iv139_5 + Int32.ofInt 1 := ⟨_, rfl⟩
                            have rg_249 := i32_r iv139_5
                            have zx_248 : x_248.toInt = iv139_5.toInt + (1) := by rw [ex_248]; exact i32_add rfl (by decide) (by omega) (by omega)
                            refine lv_iinc (v := x_248) (lv' := [(5, .int x_248), (4, .int jv136_4), (0, .ref x), (1, .int i1), (2, .int i2), (3, .int i3)]) hx hb dX10_looks_219 hl (k := 0) rfl ex_248.symm (by decide) rfl (fun ls hl => ?_)
                            refine lv_goto (tgt := 139) hx hb dX10_looks_222 (by decide) ?_
                            exact ih139 x_248 x_245 _ _ hL1 h_246 (by omega) (by omega) (by omega) (by omega) (by omega) (hx_ps_yes vi139_1 (by omega) zx_248 rfl ax_216 ax_220 ax_224 ax_228 ax_242 (by omega) (by omega) (by omega) (by omega) (by omega)) (by omega) ls (by omega) hW hT hM f_247 f_4 f_6 f_8 fjw88_x_71  (lv_sub hl [0, 1, 2, 3, 4, 5] rfl)
            have zk_0 : (0 : Int32).toInt = 0 := by decide
            have zk_0 : (0 : Int32).toInt = 0 := by decide
            exact loop139 601 (0 : Int32) (0 : Int32) _ _ hL1 hl1 (by decide) (by decide) (by decide) (by decide) (by omega) rfl (by omega) ls (by omega) hW hT hM f_2 f_4 f_6 f_8 fjw88_x_71  hl
          refine lv_aload_n hx hb dX10_looks_109 rfl (lv_at hl 0 rfl) ?_
          refine hk_getr hx hb hts hC_10 hown hW (gx.S hM) tt_10 49 (by decide) rfl kw_1192 ⟨rfl, rfl, rfl⟩ ((hM.o gx trivial rfl).2.trans f_x_49) dX10_looks_110 ?_
          refine lv_iload_n hx hb dX10_looks_113 rfl (lv_at hl 1 rfl) ?_
          refine hx_iald hx hb hW hT (gqsz.S hM) tt_84 rfl ⟨by omega, by omega⟩ dX10_looks_114 (fun x_250 ex_250 lx_250 ux_250 => ?_)
          have ax_250 : x_250 = szf i1.toNatClampNeg := ex_250.trans (congrFun (hx_afS hM gqsz rfl af_qsz) _)
          have sx_250 : x_250.toInt = (szf i1.toInt.toNat).toInt := congrArg Int32.toInt ax_250
          refine lv_iconst (v := -1) hx hb dX10_looks_115 (by decide) ?_
          refine hb_icmp_eq (zx := x_250.toInt) (zy := (-1)) (tgt := 133) hx hb rfl (by decide) dX10_looks_116 (by decide) (fun c_251 => ?_) (fun c_251 => ?_)
          · skip
            refine lv_iconst (v := 0) hx hb dX10_looks_133 (by decide) ?_
            refine lv_istore (lv' := [(4, .int (0 : Int32)), (0, .ref x), (1, .int i1), (2, .int i2), (3, .int i3)]) hx hb dX10_looks_134 hl (by decide) rfl (fun ls hl => ?_)
            have zk_0 : (0 : Int32).toInt = 0 := by decide
            exact join136 (0 : Int32) _ _ hL1 hl1 (by decide) (by decide) (by omega) ls hW hT hM f_2 f_4 f_6 f_8 fjw88_x_71  (lv_sub hl [0, 1, 2, 3, 4] rfl)
          · skip
            refine lv_aload_n hx hb dX10_looks_119 rfl (lv_at hl 0 rfl) ?_
            refine hk_getr hx hb hts hC_10 hown hW (gx.S hM) tt_10 49 (by decide) rfl kw_1192 ⟨rfl, rfl, rfl⟩ ((hM.o gx trivial rfl).2.trans f_x_49) dX10_looks_120 ?_
            refine lv_iload_n hx hb dX10_looks_123 rfl (lv_at hl 1 rfl) ?_
            refine hx_iald hx hb hW hT (gqsz.S hM) tt_84 rfl ⟨by omega, by omega⟩ dX10_looks_124 (fun x_252 ex_252 lx_252 ux_252 => ?_)
            have ax_252 : x_252 = szf i1.toNatClampNeg := ex_252.trans (congrFun (hx_afS hM gqsz rfl af_qsz) _)
            obtain rfl : x_250 = x_252 := ex_250.trans ex_252.symm
            refine lv_iload_n hx hb dX10_looks_125 rfl (lv_at hl 2 rfl) ?_
            refine hb_icmp_gt (zx := x_250.toInt) (zy := i2.toInt) (tgt := 133) hx hb rfl rfl dX10_looks_126 (by decide) (fun c_253 => ?_) (fun c_253 => ?_)
            · skip
              refine lv_iconst (v := 0) hx hb dX10_looks_133 (by decide) ?_
              refine lv_istore (lv' := [(4, .int (0 : Int32)), (0, .ref x), (1, .int i1), (2, .int i2), (3, .int i3)]) hx hb dX10_looks_134 hl (by decide) rfl (fun ls hl => ?_)
              have zk_0 : (0 : Int32).toInt = 0 := by decide
              exact join136 (0 : Int32) _ _ hL1 hl1 (by decide) (by decide) (by omega) ls hW hT hM f_2 f_4 f_6 f_8 fjw88_x_71  (lv_sub hl [0, 1, 2, 3, 4] rfl)
            · skip
              refine lv_iconst (v := 1) hx hb dX10_looks_129 (by decide) ?_
              refine lv_goto (tgt := 134) hx hb dX10_looks_130 (by decide) ?_
              refine lv_istore (lv' := [(4, .int (1 : Int32)), (0, .ref x), (1, .int i1), (2, .int i2), (3, .int i3)]) hx hb dX10_looks_134 hl (by decide) rfl (fun ls hl => ?_)
              have zk_1 : (1 : Int32).toInt = 1 := by decide
              exact join136 (1 : Int32) _ _ hL1 hl1 (by decide) (by decide) (by omega) ls hW hT hM f_2 f_4 f_6 f_8 fjw88_x_71  (lv_sub hl [0, 1, 2, 3, 4] rfl)
        · skip
          have zo_0 : (0 : Int32).toInt = 0 := by decide
          exact hx_retv hx hb hr hlk hW ⟨⟨(0 : Int32), jw88_x_71, f_4, fjw88_x_71, ⟨(hx_R_none (by omega)).symm, by omega⟩⟩, hT, hM⟩ dX10_looks_108
    refine lv_aload_n hx hb dX10_looks_49 rfl (lv_at hl 0 rfl) ?_
    refine hx_getn hx hb hts hC_10 hown hW hT (gx.S hM) tt_10 47 (by decide) rfl kw_1190 ⟨rfl, rfl, rfl⟩ dX10_looks_50 (fun q_254 fq_254 gq_254 => ?_)
    refine lv_iload_n hx hb dX10_looks_53 rfl (lv_at hl 1 rfl) ?_
    refine hx_iald hx hb hW hT gq_254 tt_82 rfl ⟨by omega, by omega⟩ dX10_looks_54 (fun x_255 ex_255 lx_255 ux_255 => ?_)
    refine lv_iconst (v := -1) hx hb dX10_looks_55 (by decide) ?_
    refine hb_icmp_eq (zx := x_255.toInt) (zy := (-1)) (tgt := 88) hx hb rfl (by decide) dX10_looks_56 (by decide) (fun c_256 => ?_) (fun c_256 => ?_)
    · skip
      exact join88 jw49_x_71 _ _ hL1 hl1 (by omega) (by omega) (by omega) ls hW hT hM fjw49_x_71 f_2 f_4 f_6 f_8  (lv_sub hl [0, 1, 2, 3] rfl)
    · skip
      refine lv_aload_n hx hb dX10_looks_59 rfl (lv_at hl 0 rfl) ?_
      refine hk_getr hx hb hts hC_10 hown hW (gx.S hM) tt_10 47 (by decide) rfl kw_1190 ⟨rfl, rfl, rfl⟩ fq_254 dX10_looks_60 ?_
      refine lv_iload_n hx hb dX10_looks_63 rfl (lv_at hl 1 rfl) ?_
      refine hx_iald hx hb hW hT gq_254 tt_82 rfl ⟨by omega, by omega⟩ dX10_looks_64 (fun x_257 ex_257 lx_257 ux_257 => ?_)
      obtain rfl : x_255 = x_257 := ex_255.trans ex_257.symm
      refine lv_iload_n hx hb dX10_looks_65 rfl (lv_at hl 2 rfl) ?_
      refine hb_icmp_gt (zx := x_255.toInt) (zy := i2.toInt) (tgt := 88) hx hb rfl rfl dX10_looks_66 (by decide) (fun c_258 => ?_) (fun c_258 => ?_)
      · skip
        exact join88 jw49_x_71 _ _ hL1 hl1 (by omega) (by omega) (by omega) ls hW hT hM fjw49_x_71 f_2 f_4 f_6 f_8  (lv_sub hl [0, 1, 2, 3] rfl)
      · skip
        refine lv_aload_n hx hb dX10_looks_69 rfl (lv_at hl 0 rfl) ?_
        refine lv_aload_n hx hb dX10_looks_70 rfl (lv_at hl 0 rfl) ?_
        refine hx_getn hx hb hts hC_10 hown hW hT (gx.S hM) tt_10 51 (by decide) rfl kw_1194 ⟨rfl, rfl, rfl⟩ dX10_looks_71 (fun q_259 fq_259 gq_259 => ?_)
        refine lv_iload_n hx hb dX10_looks_74 rfl (lv_at hl 1 rfl) ?_
        refine hx_iald hx hb hW hT gq_259 tt_86 rfl ⟨by omega, by omega⟩ dX10_looks_75 (fun x_260 ex_260 lx_260 ux_260 => ?_)
        refine lv_iconst (v := 5) hx hb dX10_looks_76 (by decide) ?_
        refine hb_icmp_ne (zx := x_260.toInt) (zy := 5) (tgt := 84) hx hb rfl (by decide) dX10_looks_77 (by decide) (fun c_261 => ?_) (fun c_261 => ?_)
        · skip
          refine lv_iconst (v := 2) hx hb dX10_looks_84 (by decide) ?_
          refine hx_puti hx hb hts hC_10 hown hW hT (hx_S.rf (M := [(10, 71)])) (gx.S hM) tt_10 71 (by decide) rfl kw_1214 ⟨rfl, rfl, rfl⟩ rfl (x := (2 : Int32)) (by decide) rfl rfl rfl (List.mem_singleton.mpr rfl) dX10_looks_85 (fun H locs h_262 eh_262 hW hT hs => ?_)
          replace f_2 := (hs.o (gx.S hM) trivial rfl).1.trans f_2
          replace f_4 := (hs.o (gx.S hM) trivial rfl).1.trans f_4
          replace f_6 := (hs.o (gx.S hM) trivial rfl).1.trans f_6
          replace f_8 := (hs.o (gx.S hM) trivial rfl).1.trans f_8
          replace fq_254 := (hs.o (gx.S hM) trivial rfl).2.trans fq_254
          replace fq_259 := (hs.o (gx.S hM) trivial rfl).2.trans fq_259
          replace ex_255 := ex_255.trans (hs.a gq_254 rfl _).1.symm
          replace ex_260 := ex_260.trans (hs.a gq_259 rfl _).1.symm
          replace hM := hM.tr (hs.mono (by decide))
          replace gq_254 := gq_254.S hs
          replace gq_259 := gq_259.S hs
          have f_263 : h_262.2.1 x 71 = (2 : Int32) := by rw [eh_262]; exact hx_pi_at _ _ _ _
          have zk_2 : (2 : Int32).toInt = 2 := by decide
          exact join88 (2 : Int32) _ _ hL1 h_262 (by decide) (by decide) (by omega) ls hW hT hM f_263 f_2 f_4 f_6 f_8  (lv_sub hl [0, 1, 2, 3] rfl)
        · skip
          refine lv_iconst (v := 3) hx hb dX10_looks_80 (by decide) ?_
          refine lv_goto (tgt := 85) hx hb dX10_looks_81 (by decide) ?_
          refine hx_puti hx hb hts hC_10 hown hW hT (hx_S.rf (M := [(10, 71)])) (gx.S hM) tt_10 71 (by decide) rfl kw_1214 ⟨rfl, rfl, rfl⟩ rfl (x := (3 : Int32)) (by decide) rfl rfl rfl (List.mem_singleton.mpr rfl) dX10_looks_85 (fun H locs h_264 eh_264 hW hT hs => ?_)
          replace f_2 := (hs.o (gx.S hM) trivial rfl).1.trans f_2
          replace f_4 := (hs.o (gx.S hM) trivial rfl).1.trans f_4
          replace f_6 := (hs.o (gx.S hM) trivial rfl).1.trans f_6
          replace f_8 := (hs.o (gx.S hM) trivial rfl).1.trans f_8
          replace fq_254 := (hs.o (gx.S hM) trivial rfl).2.trans fq_254
          replace fq_259 := (hs.o (gx.S hM) trivial rfl).2.trans fq_259
          replace ex_255 := ex_255.trans (hs.a gq_254 rfl _).1.symm
          replace ex_260 := ex_260.trans (hs.a gq_259 rfl _).1.symm
          replace hM := hM.tr (hs.mono (by decide))
          replace gq_254 := gq_254.S hs
          replace gq_259 := gq_259.S hs
          have f_265 : h_264.2.1 x 71 = (3 : Int32) := by rw [eh_264]; exact hx_pi_at _ _ _ _
          have zk_3 : (3 : Int32).toInt = 3 := by decide
          exact join88 (3 : Int32) _ _ hL1 h_264 (by decide) (by decide) (by omega) ls hW hT hM f_265 f_2 f_4 f_6 f_8  (lv_sub hl [0, 1, 2, 3] rfl)
  refine lv_aload_n hx hb dX10_looks_20 rfl (lv_at hl 0 rfl) ?_
  refine lv_aload_n hx hb dX10_looks_21 rfl (lv_at hl 0 rfl) ?_
  refine hx_getn hx hb hts hC_10 hown hW hT (gx.S hM) tt_10 46 (by decide) rfl kw_1189 ⟨rfl, rfl, rfl⟩ dX10_looks_22 (fun q_266 fq_266 gq_266 => ?_)
  refine lv_iload_n hx hb dX10_looks_25 rfl (lv_at hl 1 rfl) ?_
  refine hx_iald hx hb hW hT gq_266 tt_81 rfl ⟨by omega, by omega⟩ dX10_looks_26 (fun x_267 ex_267 lx_267 ux_267 => ?_)
  refine lv_iconst (v := -1) hx hb dX10_looks_27 (by decide) ?_
  refine hb_icmp_eq (zx := x_267.toInt) (zy := (-1)) (tgt := 45) hx hb rfl (by decide) dX10_looks_28 (by decide) (fun c_268 => ?_) (fun c_268 => ?_)
  · skip
    refine lv_iconst (v := 0) hx hb dX10_looks_45 (by decide) ?_
    refine hx_puti hx hb hts hC_10 hown hW hT (hx_S.rf (M := [(10, 71)])) (gx.S hM) tt_10 71 (by decide) rfl kw_1214 ⟨rfl, rfl, rfl⟩ rfl (x := (0 : Int32)) (by decide) rfl rfl rfl (List.mem_singleton.mpr rfl) dX10_looks_46 (fun H locs h_269 eh_269 hW hT hs => ?_)
    replace f_2 := (hs.o (gx.S hM) trivial rfl).1.trans f_2
    replace f_4 := (hs.o (gx.S hM) trivial rfl).1.trans f_4
    replace f_6 := (hs.o (gx.S hM) trivial rfl).1.trans f_6
    replace f_8 := (hs.o (gx.S hM) trivial rfl).1.trans f_8
    replace fq_266 := (hs.o (gx.S hM) trivial rfl).2.trans fq_266
    replace ex_267 := ex_267.trans (hs.a gq_266 rfl _).1.symm
    replace hM := hM.tr (hs.mono (by decide))
    replace gq_266 := gq_266.S hs
    have f_270 : h_269.2.1 x 71 = (0 : Int32) := by rw [eh_269]; exact hx_pi_at _ _ _ _
    have zk_0 : (0 : Int32).toInt = 0 := by decide
    exact join49 (0 : Int32) _ _ L h_269 (by decide) (by decide) (by omega) ls hW hT hM f_270 f_2 f_4 f_6 f_8  (lv_sub hl [0, 1, 2, 3] rfl)
  · skip
    refine lv_aload_n hx hb dX10_looks_31 rfl (lv_at hl 0 rfl) ?_
    refine hk_getr hx hb hts hC_10 hown hW (gx.S hM) tt_10 46 (by decide) rfl kw_1189 ⟨rfl, rfl, rfl⟩ fq_266 dX10_looks_32 ?_
    refine lv_iload_n hx hb dX10_looks_35 rfl (lv_at hl 1 rfl) ?_
    refine hx_iald hx hb hW hT gq_266 tt_81 rfl ⟨by omega, by omega⟩ dX10_looks_36 (fun x_271 ex_271 lx_271 ux_271 => ?_)
    obtain rfl : x_267 = x_271 := ex_267.trans ex_271.symm
    refine lv_iload_n hx hb dX10_looks_37 rfl (lv_at hl 2 rfl) ?_
    refine hb_icmp_gt (zx := x_267.toInt) (zy := i2.toInt) (tgt := 45) hx hb rfl rfl dX10_looks_38 (by decide) (fun c_272 => ?_) (fun c_272 => ?_)
    · skip
      refine lv_iconst (v := 0) hx hb dX10_looks_45 (by decide) ?_
      refine hx_puti hx hb hts hC_10 hown hW hT (hx_S.rf (M := [(10, 71)])) (gx.S hM) tt_10 71 (by decide) rfl kw_1214 ⟨rfl, rfl, rfl⟩ rfl (x := (0 : Int32)) (by decide) rfl rfl rfl (List.mem_singleton.mpr rfl) dX10_looks_46 (fun H locs h_273 eh_273 hW hT hs => ?_)
      replace f_2 := (hs.o (gx.S hM) trivial rfl).1.trans f_2
      replace f_4 := (hs.o (gx.S hM) trivial rfl).1.trans f_4
      replace f_6 := (hs.o (gx.S hM) trivial rfl).1.trans f_6
      replace f_8 := (hs.o (gx.S hM) trivial rfl).1.trans f_8
      replace fq_266 := (hs.o (gx.S hM) trivial rfl).2.trans fq_266
      replace ex_267 := ex_267.trans (hs.a gq_266 rfl _).1.symm
      replace hM := hM.tr (hs.mono (by decide))
      replace gq_266 := gq_266.S hs
      have f_274 : h_273.2.1 x 71 = (0 : Int32) := by rw [eh_273]; exact hx_pi_at _ _ _ _
      have zk_0 : (0 : Int32).toInt = 0 := by decide
      exact join49 (0 : Int32) _ _ L h_273 (by decide) (by decide) (by omega) ls hW hT hM f_274 f_2 f_4 f_6 f_8  (lv_sub hl [0, 1, 2, 3] rfl)
    · skip
      refine lv_iconst (v := 1) hx hb dX10_looks_41 (by decide) ?_
      refine lv_goto (tgt := 46) hx hb dX10_looks_42 (by decide) ?_
      refine hx_puti hx hb hts hC_10 hown hW hT (hx_S.rf (M := [(10, 71)])) (gx.S hM) tt_10 71 (by decide) rfl kw_1214 ⟨rfl, rfl, rfl⟩ rfl (x := (1 : Int32)) (by decide) rfl rfl rfl (List.mem_singleton.mpr rfl) dX10_looks_46 (fun H locs h_275 eh_275 hW hT hs => ?_)
      replace f_2 := (hs.o (gx.S hM) trivial rfl).1.trans f_2
      replace f_4 := (hs.o (gx.S hM) trivial rfl).1.trans f_4
      replace f_6 := (hs.o (gx.S hM) trivial rfl).1.trans f_6
      replace f_8 := (hs.o (gx.S hM) trivial rfl).1.trans f_8
      replace fq_266 := (hs.o (gx.S hM) trivial rfl).2.trans fq_266
      replace ex_267 := ex_267.trans (hs.a gq_266 rfl _).1.symm
      replace hM := hM.tr (hs.mono (by decide))
      replace gq_266 := gq_266.S hs
      have f_276 : h_275.2.1 x 71 = (1 : Int32) := by rw [eh_275]; exact hx_pi_at _ _ _ _
      have zk_1 : (1 : Int32).toInt = 1 := by decide
      exact join49 (1 : Int32) _ _ L h_275 (by decide) (by decide) (by omega) ls hW hT hM f_276 f_2 f_4 f_6 f_8  (lv_sub hl [0, 1, 2, 3] rfl)
