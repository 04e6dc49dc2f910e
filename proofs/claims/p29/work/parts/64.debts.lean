
set_option maxHeartbeats 4000000 in
set_option maxRecDepth 100000 in
theorem t_X10_debts_2 (l : Launch) (dC : Nat → ClassId) (dI : Nat → Nat → Nat) (dA : Nat → ClassId) (L : List Nat) (h : hx_h) (sz : Nat) (x : Nat) (hT : hx_T T_tb L h) (gx : hx_g L h x 10) (qod : Nat) (gqod : hx_g L h qod 83) (f_x_48 : h.2.2 x 48 = some qod) (qsv : Nat) (gqsv : hx_g L h qsv 85) (f_x_50 : h.2.2 x 50 = some qsv) (qsz : Nat) (gqsz : hx_g L h qsz 84) (f_x_49 : h.2.2 x 49 = some qsz) (qgd : Nat) (gqgd : hx_g L h qgd 91) (f_x_56 : h.2.2 x 56 = some qgd) (qow : Nat) (gqow : hx_g L h qow 90) (f_x_55 : h.2.2 x 55 = some qow) (qpl : Nat) (gqpl : hx_g L h qpl 79) (f_x_44 : h.2.2 x 44 = some qpl) (qru : Nat) (gqru : hx_g L h qru 50) (f_x_3 : h.2.2 x 3 = some qru) (qpo : Nat) (gqpo : hx_g L h qpo 93) (f_x_60 : h.2.2 x 60 = some qpo) (qpd : Nat) (gqpd : hx_g L h qpd 94) (f_x_61 : h.2.2 x 61 = some qpd) (qps : Nat) (gqps : hx_g L h qps 95) (f_x_62 : h.2.2 x 62 = some qps) (qpk : Nat) (gqpk : hx_g L h qpk 96) (f_x_63 : h.2.2 x 63 = some qpk) (qpt : Nat) (gqpt : hx_g L h qpt 97) (f_x_64 : h.2.2 x 64 = some qpt) (qag : Nat) (gqag : hx_g L h qag 73) (f_x_38 : h.2.2 x 38 = some qag) (qby : Nat) (gqby : hx_g L h qby 72) (f_x_37 : h.2.2 x 37 = some qby) (qdb : Nat) (gqdb : hx_g L h qdb 108) (f_x_82 : h.2.2 x 82 = some qdb) (odf : Nat → Int32) (af_qod : h.2.1 qod = odf) (svf : Nat → Int32) (af_qsv : h.2.1 qsv = svf) (szf : Nat → Int32) (af_qsz : h.2.1 qsz = szf) (gdf : Nat → Int32) (af_qgd : h.2.1 qgd = gdf) (owf : Nat → Int32) (af_qow : h.2.1 qow = owf) (plf : Nat → Int32) (af_qpl : h.2.1 qpl = plf) (rf : Nat → Int32) (af_qru : h.2.1 qru = rf) (pof : Nat → Int32) (af_qpo : h.2.1 qpo = pof) (pdf : Nat → Int32) (af_qpd : h.2.1 qpd = pdf) (psm : Nat → Int32) (af_qps : h.2.1 qps = psm) (pkf : Nat → Int32) (af_qpk : h.2.1 qpk = pkf) (pst : Nat → Int32) (af_qpt : h.2.1 qpt = pst) (agf : Nat → Int32) (af_qag : h.2.1 qag = agf) (byf : Nat → Int32) (af_qby : h.2.1 qby = byf) (nw0 : Int32) (f_x_0 : h.2.1 x 0 = nw0) (pm0 : Int32) (f_x_59 : h.2.1 x 59 = pm0) (c0 : Int32) (f_x_36 : h.2.1 x 36 = c0) : Met l yX10_debts (Cond.code yX10_debts cX10_debts 2 none :: hx_all) ({ frames := 3, cells := 0, slots := 0, locals := 71 }) (va_Pc [.ref x] (hx_B T_tb (P_ty dA) (dC, dI) vwCl L h sz)) (va_Qv (fun (u : List Nat × hx_h) => (∃ (dbf1 : Nat → Int32), u.2.2.1 qdb = dbf1 ∧ (hx_DB dbf1 (fun c => hx_Rn odf svf szf gdf owf plf rf pof pdf psm pkf pst nw0.toInt pm0.toInt.toNat c) agf byf c0.toInt)) ∧ hx_T T_tb u.1 u.2 ∧ hx_S T_tb [(10, 67), (10, 68), (10, 69), (10, 70), (10, 71), (108, 0)] L h u.1 u.2) (hx_E T_tb (P_ty dA) (dC, dI) vwCl (hx_A L sz)) (hx_A L sz)) 0 0 (hx_A L sz) := by
  refine hx_met (lv := [(0, .ref x)]) (by decide +kernel) rfl (Nat.le_of_ble_eq_true rfl) rfl ?_
  intro p e s m below meth c hx hb hml hr hlk hts0 hown hin hsz hW ls hl
  have hts : ∀ w ∈ hx_all, w.before _ s = true := fun w hw => hts0 w (List.mem_cons_of_mem _ hw)
  have hown : s.vm.findClass "SmallCourtModel" = some m.cls := hown
  have hM : hx_S T_tb [(10, 67), (10, 68), (10, 69), (10, 70), (10, 71), (108, 0)] L h L h := hx_S.rf
  have b_nw0 := hT.gi gx tt_10 (k := 0) rfl
  rw [f_x_0] at b_nw0
  have b_nw0 : 0 ≤ nw0.toInt ∧ nw0.toInt ≤ 7999 := b_nw0
  have b_pm0 := hT.gi gx tt_10 (k := 59) rfl
  rw [f_x_59] at b_pm0
  have b_pm0 : 0 ≤ pm0.toInt ∧ pm0.toInt ≤ 600 := b_pm0
  have b_c0 := hT.gi gx tt_10 (k := 36) rfl
  rw [f_x_36] at b_c0
  have b_c0 : 0 ≤ c0.toInt ∧ c0.toInt ≤ 100 := b_c0
  refine lv_iconst (v := 0) hx hb dX10_debts_0 (by decide) ?_
  refine lv_istore_n (lv' := [(1, .int (0 : Int32)), (0, .ref x)]) hx hb dX10_debts_1 rfl hl (by decide) rfl (fun ls hl => ?_)
  obtain ⟨fa_1, nfa_1⟩ : ∃ g : Nat → Int32, h.2.1 qdb = g := ⟨_, rfl⟩
  have loop2 : ∀ (n2 : Nat) (iv2_1 : Int32) (ia2_qdb : Nat → Int32) (H : Heap) (locs : List Loc) (hL1 : List Nat) (hl1 : hx_h), 0 ≤ iv2_1.toInt → iv2_1.toInt ≤ 1600 → (hx_DZ ia2_qdb iv2_1.toInt) → ∀ (ls : Array Slot), 1600 - iv2_1.toInt < (n2 : Int) → hx_W T_tb (P_ty dA) (dC, dI) vwCl (hx_A L sz) s.heap hL1 hl1 s H locs → hx_T T_tb hL1 hl1 → hx_S T_tb [(10, 67), (10, 68), (10, 69), (10, 70), (10, 71), (108, 0)] L h hL1 hl1 → hl1.2.1 qdb = ia2_qdb → lv_has ls 2 [(1, .int iv2_1), (0, .ref x)] → W p l e ({ frames := 3, cells := 0, slots := 0, locals := 71 }) s m ([.ref x] : List Value).toArray below meth c H locs 0 0 (MQ below (va_Qv (fun (u : List Nat × hx_h) => (∃ (dbf1 : Nat → Int32), u.2.2.1 qdb = dbf1 ∧ (hx_DB dbf1 (fun c => hx_Rn odf svf szf gdf owf plf rf pof pdf psm pkf pst nw0.toInt pm0.toInt.toNat c) agf byf c0.toInt)) ∧ hx_T T_tb u.1 u.2 ∧ hx_S T_tb [(10, 67), (10, 68), (10, 69), (10, 70), (10, 71), (108, 0)] L h u.1 u.2) (hx_E T_tb (P_ty dA) (dC, dI) vwCl (hx_A L sz)) (hx_A L sz)) ([.ref x] : List Value).toArray s 0 0 (hx_A L sz)) (F0 m 2 ls []) := by
    intro n2
    induction n2 with
    | zero => intro iv2_1 ia2_qdb H locs hL1 hl1 bliv2_1 buiv2_1 vi2_0 ls hn2; exfalso; omega
    | succ n2 ih2 =>
      intro iv2_1 ia2_qdb H locs hL1 hl1 bliv2_1 buiv2_1 vi2_0 ls hn2 hW hT hM  nia2_qdb hl
      refine lv_iload_n hx hb dX10_debts_2 rfl (lv_at hl 0 rfl) ?_
      refine lv_sipush (v := 1600) hx hb dX10_debts_3 (by decide) ?_
      refine hb_icmp_ge (zx := iv2_1.toInt) (zy := 1600) (tgt := 22) hx hb rfl (by decide) dX10_debts_6 (by decide) (fun c_2 => ?_) (fun c_2 => ?_)
      · skip
        refine lv_iconst (v := 0) hx hb dX10_debts_22 (by decide) ?_
        refine lv_istore_n (lv' := [(1, .int (0 : Int32)), (0, .ref x)]) hx hb dX10_debts_23 rfl hl (by decide) rfl (fun ls hl => ?_)
        have loop24 : ∀ (n24 : Nat) (iv24_1 : Int32) (ia24_qdb : Nat → Int32) (H : Heap) (locs : List Loc) (hL1 : List Nat) (hl1 : hx_h), 0 ≤ iv24_1.toInt → iv24_1.toInt ≤ 100 → (hx_DB ia24_qdb (fun c => hx_Rn odf svf szf gdf owf plf rf pof pdf psm pkf pst nw0.toInt pm0.toInt.toNat c) agf byf iv24_1.toInt) → (iv24_1.toInt ≤ c0.toInt) → ∀ (ls : Array Slot), 100 - iv24_1.toInt < (n24 : Int) → hx_W T_tb (P_ty dA) (dC, dI) vwCl (hx_A L sz) s.heap hL1 hl1 s H locs → hx_T T_tb hL1 hl1 → hx_S T_tb [(10, 67), (10, 68), (10, 69), (10, 70), (10, 71), (108, 0)] L h hL1 hl1 → hl1.2.1 qdb = ia24_qdb → lv_has ls 2 [(1, .int iv24_1), (0, .ref x)] → W p l e ({ frames := 3, cells := 0, slots := 0, locals := 71 }) s m ([.ref x] : List Value).toArray below meth c H locs 0 0 (MQ below (va_Qv (fun (u : List Nat × hx_h) => (∃ (dbf1 : Nat → Int32), u.2.2.1 qdb = dbf1 ∧ (hx_DB dbf1 (fun c => hx_Rn odf svf szf gdf owf plf rf pof pdf psm pkf pst nw0.toInt pm0.toInt.toNat c) agf byf c0.toInt)) ∧ hx_T T_tb u.1 u.2 ∧ hx_S T_tb [(10, 67), (10, 68), (10, 69), (10, 70), (10, 71), (108, 0)] L h u.1 u.2) (hx_E T_tb (P_ty dA) (dC, dI) vwCl (hx_A L sz)) (hx_A L sz)) ([.ref x] : List Value).toArray s 0 0 (hx_A L sz)) (F0 m 24 ls []) := by
          intro n24
          induction n24 with
          | zero => intro iv24_1 ia24_qdb H locs hL1 hl1 bliv24_1 buiv24_1 vi24_0 vi24_1 ls hn24; exfalso; omega
          | succ n24 ih24 =>
            intro iv24_1 ia24_qdb H locs hL1 hl1 bliv24_1 buiv24_1 vi24_0 vi24_1 ls hn24 hW hT hM  nia24_qdb hl
            refine lv_iload_n hx hb dX10_debts_24 rfl (lv_at hl 0 rfl) ?_
            refine lv_aload_n hx hb dX10_debts_25 rfl (lv_at hl 1 rfl) ?_
            refine hk_geti hx hb hts hC_10 hown hW (gx.S hM) tt_10 36 (by decide) rfl kw_1179 ⟨rfl, rfl, rfl⟩ ((hM.o gx trivial rfl).1.trans f_x_36) dX10_debts_26 ?_
            refine hb_icmp_ge (zx := iv24_1.toInt) (zy := c0.toInt) (tgt := 74) hx hb rfl rfl dX10_debts_29 (by decide) (fun c_3 => ?_) (fun c_3 => ?_)
            · skip
              exact hx_retv hx hb hr hlk hW ⟨⟨ia24_qdb, nia24_qdb, (by rw [show c0.toInt = iv24_1.toInt from by omega]; exact vi24_0)⟩, hT, hM⟩ dX10_debts_74
            · skip
              refine lv_aload_n hx hb dX10_debts_32 rfl (lv_at hl 1 rfl) ?_
              refine lv_iload_n hx hb dX10_debts_33 rfl (lv_at hl 0 rfl) ?_
              refine hx_goi (hx_runV (As := [.int iv24_1]) (rest := []) ⟨hx, hb, hml, hown, hts⟩ hW (gx.S hM) tt_10 (T := TX10) (N := 98) rfl (t_X10_isOpen_2 l dC dI dA hL1 hl1 H.size x iv24_1 hT (gx.S hM) qod (gqod.S hM) ((hM.o gx trivial rfl).2.trans f_x_48) qsv (gqsv.S hM) ((hM.o gx trivial rfl).2.trans f_x_50) qsz (gqsz.S hM) ((hM.o gx trivial rfl).2.trans f_x_49) qgd (gqgd.S hM) ((hM.o gx trivial rfl).2.trans f_x_56) qow (gqow.S hM) ((hM.o gx trivial rfl).2.trans f_x_55) qpl (gqpl.S hM) ((hM.o gx trivial rfl).2.trans f_x_44) qru (gqru.S hM) ((hM.o gx trivial rfl).2.trans f_x_3) qpo (gqpo.S hM) ((hM.o gx trivial rfl).2.trans f_x_60) qpd (gqpd.S hM) ((hM.o gx trivial rfl).2.trans f_x_61) qps (gqps.S hM) ((hM.o gx trivial rfl).2.trans f_x_62) qpk (gqpk.S hM) ((hM.o gx trivial rfl).2.trans f_x_63) qpt (gqpt.S hM) ((hM.o gx trivial rfl).2.trans f_x_64) odf (hx_afS hM gqod rfl af_qod) svf (hx_afS hM gqsv rfl af_qsv) szf (hx_afS hM gqsz rfl af_qsz) gdf (hx_afS hM gqgd rfl af_qgd) owf (hx_afS hM gqow rfl af_qow) plf (hx_afS hM gqpl rfl af_qpl) rf (hx_afS hM gqru rfl af_qru) pof (hx_afS hM gqpo rfl af_qpo) pdf (hx_afS hM gqpd rfl af_qpd) psm (hx_afS hM gqps rfl af_qps) pkf (hx_afS hM gqpk rfl af_qpk) pst (hx_afS hM gqpt rfl af_qpt) nw0 ((hM.o gx trivial rfl).1.trans f_x_0) pm0 ((hM.o gx trivial rfl).1.trans f_x_59) ⟨by omega, by omega⟩) (cwV 1 hts (hx_gV kw_1637 kw_1634 kw_1636 kw_81 kw_103) rfl rfl rfl (by decide +kernel) ⟨Nat.le_of_ble_eq_true rfl, Nat.le_of_ble_eq_true rfl⟩) rfl hl.1 rfl (Nat.le_of_ble_eq_true rfl) dX10_debts_34 ⟨Nat.le_of_ble_eq_true rfl, Nat.le_of_ble_eq_true rfl⟩) hW (fun r_6 L_4 h_5 H locs p_7 hW => ?_)
              obtain ⟨⟨w_9, fw_9, hr_8⟩, hT, hs⟩ := p_7
              replace hT : hx_T T_tb L_4 h_5 := hT
              replace hs : hx_S T_tb [(10, 67), (10, 68), (10, 69), (10, 70), (10, 71)] hL1 hl1 L_4 h_5 := hs
              replace nia24_qdb : h_5.2.1 qdb = ia24_qdb := (funext fun j => (hs.a (gqdb.S hM) rfl j).1).trans nia24_qdb
              replace hM := hM.tr (hs.mono (by decide))
              have fw_9 : h_5.2.1 x 68 = w_9 := fw_9
              have bw_9 := hT.gi (gx.S hM) tt_10 (k := 68) rfl
              rw [fw_9] at bw_9
              have bw_9 : 0 ≤ w_9.toInt ∧ w_9.toInt ≤ 610000 := bw_9
              refine hb_if_eq (zx := r_6.toInt) (tgt := 68) hx hb rfl dX10_debts_37 (by decide) (fun c_10 => ?_) (fun c_10 => ?_)
              · skip
                obtain ⟨x_11, ex_11⟩ : ∃ y : Int32, y = iv24_1 + Int32.ofInt 1 := ⟨_, rfl⟩
                have rg_12 := i32_r iv24_1
                have zx_11 : x_11.toInt = iv24_1.toInt + (1) := by rw [ex_11]; exact i32_add rfl (by decide) (by omega) (by omega)
                refine lv_iinc (v := x_11) (lv' := [(1, .int x_11), (0, .ref x)]) hx hb dX10_debts_68 hl (k := 0) rfl ex_11.symm (by decide) rfl (fun ls hl => ?_)
                refine lv_goto (tgt := 24) hx hb dX10_debts_71 (by decide) ?_
                exact ih24 x_11 ia24_qdb _ _ L_4 h_5 (by omega) (by omega) (hx_DB_no vi24_0 zx_11) (by omega) ls (by omega) hW hT hM  nia24_qdb (lv_sub hl [0, 1] rfl)
              · skip
                refine lv_aload_n hx hb dX10_debts_40 rfl (lv_at hl 1 rfl) ?_
                refine hk_getr hx hb hts hC_10 hown hW (gx.S hM) tt_10 82 (by decide) rfl kw_1225 ⟨rfl, rfl, rfl⟩ ((hM.o gx trivial rfl).2.trans f_x_82) dX10_debts_41 ?_
                refine lv_bipush (v := 40) hx hb dX10_debts_44 (by decide) ?_
                refine lv_aload_n hx hb dX10_debts_46 rfl (lv_at hl 1 rfl) ?_
                refine hk_getr hx hb hts hC_10 hown hW (gx.S hM) tt_10 38 (by decide) rfl kw_1181 ⟨rfl, rfl, rfl⟩ ((hM.o gx trivial rfl).2.trans f_x_38) dX10_debts_47 ?_
                refine lv_iload_n hx hb dX10_debts_50 rfl (lv_at hl 0 rfl) ?_
                refine hx_iald hx hb hW hT (gqag.S hM) tt_73 rfl ⟨by omega, by omega⟩ dX10_debts_51 (fun x_13 ex_13 lx_13 ux_13 => ?_)
                have ax_13 : x_13 = agf iv24_1.toNatClampNeg := ex_13.trans (congrFun (hx_afS hM gqag rfl af_qag) _)
                refine lv_imul hx hb dX10_debts_52 ?_
                refine lv_topi (fun x_14 ex_14 => ?_)
                have zx_14 : x_14.toInt = 40 * x_13.toInt := by rw [ex_14]; exact i32_mul (by decide) rfl rfl (by omega) (by omega)
                refine lv_aload_n hx hb dX10_debts_53 rfl (lv_at hl 1 rfl) ?_
                refine hk_getr hx hb hts hC_10 hown hW (gx.S hM) tt_10 37 (by decide) rfl kw_1180 ⟨rfl, rfl, rfl⟩ ((hM.o gx trivial rfl).2.trans f_x_37) dX10_debts_54 ?_
                refine lv_iload_n hx hb dX10_debts_57 rfl (lv_at hl 0 rfl) ?_
                refine hx_iald hx hb hW hT (gqby.S hM) tt_72 rfl ⟨by omega, by omega⟩ dX10_debts_58 (fun x_15 ex_15 lx_15 ux_15 => ?_)
                have ax_15 : x_15 = byf iv24_1.toNatClampNeg := ex_15.trans (congrFun (hx_afS hM gqby rfl af_qby) _)
                refine lv_iadd hx hb dX10_debts_59 ?_
                have rg_16 := i32_r x_14
                have rg_17 := i32_r x_15
                refine lv_topi (fun x_18 ex_18 => ?_)
                have zx_18 : x_18.toInt = x_14.toInt + x_15.toInt := by rw [ex_18]; exact i32_add rfl rfl (by omega) (by omega)
                refine lv_dup2_11 hx hb dX10_debts_60 rfl rfl ?_
                refine hx_iald hx hb hW hT (gqdb.S hM) tt_108 rfl ⟨by omega, by omega⟩ dX10_debts_61 (fun x_19 ex_19 lx_19 ux_19 => ?_)
                have ax_19 : x_19 = ia24_qdb x_18.toNatClampNeg := ex_19.trans (congrFun nia24_qdb _)
                refine lv_aload_n hx hb dX10_debts_62 rfl (lv_at hl 1 rfl) ?_
                refine hk_geti hx hb hts hC_10 hown hW (gx.S hM) tt_10 68 (by decide) rfl kw_1211 ⟨rfl, rfl, rfl⟩ fw_9 dX10_debts_63 ?_
                refine lv_iadd hx hb dX10_debts_66 ?_
                have rg_20 := i32_r x_19
                have rg_21 := i32_r w_9
                refine lv_topi (fun x_22 ex_22 => ?_)
                have nia24_qdbO := nia24_qdb
                refine hx_iast hx hb hW hT (hx_S.rf (M := [(108, 0)])) (gqdb.S hM) tt_108 rfl ⟨by omega, by omega⟩ rfl (i32_r _) (List.mem_singleton.mpr rfl) dX10_debts_67 (fun H locs h_23 eh_23 hW hT hs => ?_)
                replace fw_9 := (hs.o (gx.S hM) trivial rfl).1.trans fw_9
                replace ex_13 := ex_13.trans (hs.a (gqag.S hM) rfl _).1.symm
                replace ex_15 := ex_15.trans (hs.a (gqby.S hM) rfl _).1.symm
                replace hM := hM.tr (hs.mono (by decide))
                obtain ⟨fa_24, dfa_24⟩ : ∃ g : Nat → Int32, g = hx_up ia24_qdb x_18.toNatClampNeg x_22 := ⟨_, rfl⟩
                have nfa_24 : h_23.2.1 qdb = fa_24 := by rw [eh_23, dfa_24, ← nia24_qdbO]; exact hx_pi_fun _ _ _ _
                obtain ⟨x_25, ex_25⟩ : ∃ y : Int32, y = iv24_1 + Int32.ofInt 1 := ⟨_, rfl⟩
                have rg_26 := i32_r iv24_1
                have zx_25 : x_25.toInt = iv24_1.toInt + (1) := by rw [ex_25]; exact i32_add rfl (by decide) (by omega) (by omega)
                refine lv_iinc (v := x_25) (lv' := [(1, .int x_25), (0, .ref x)]) hx hb dX10_debts_68 hl (k := 0) rfl ex_25.symm (by decide) rfl (fun ls hl => ?_)
                refine lv_goto (tgt := 24) hx hb dX10_debts_71 (by decide) ?_
                exact ih24 x_25 fa_24 _ _ L_4 h_23 (by omega) (by omega) (hx_DB_up vi24_0 (by omega) zx_25 dfa_24 (by have w := hr_8.2.1; have u := hr_8.2.2; show 0 < hx_Rn odf svf szf gdf owf plf rf pof pdf psm pkf pst nw0.toInt pm0.toInt.toNat iv24_1.toInt; rw [← u]; omega) rfl ax_13 ax_15 (by omega) (by omega)) (by omega) ls (by omega) hW hT hM  nfa_24 (lv_sub hl [0, 1] rfl)
        have zk_0 : (0 : Int32).toInt = 0 := by decide
        exact loop24 101 (0 : Int32) ia2_qdb _ _ hL1 hl1 (by decide) (by decide) (hx_DB_0 vi2_0 (by omega)) (by omega) ls (by omega) hW hT hM  nia2_qdb hl
      · skip
        refine lv_aload_n hx hb dX10_debts_9 rfl (lv_at hl 1 rfl) ?_
        refine hk_getr hx hb hts hC_10 hown hW (gx.S hM) tt_10 82 (by decide) rfl kw_1225 ⟨rfl, rfl, rfl⟩ ((hM.o gx trivial rfl).2.trans f_x_82) dX10_debts_10 ?_
        refine lv_iload_n hx hb dX10_debts_13 rfl (lv_at hl 0 rfl) ?_
        refine lv_iconst (v := 0) hx hb dX10_debts_14 (by decide) ?_
        have nia2_qdbO := nia2_qdb
        refine hx_iast hx hb hW hT (hx_S.rf (M := [(108, 0)])) (gqdb.S hM) tt_108 rfl ⟨by omega, by omega⟩ rfl (by decide) (List.mem_singleton.mpr rfl) dX10_debts_15 (fun H locs h_27 eh_27 hW hT hs => ?_)
        replace hM := hM.tr (hs.mono (by decide))
        obtain ⟨fa_28, dfa_28⟩ : ∃ g : Nat → Int32, g = hx_up ia2_qdb iv2_1.toNatClampNeg (0 : Int32) := ⟨_, rfl⟩
        have nfa_28 : h_27.2.1 qdb = fa_28 := by rw [eh_27, dfa_28, ← nia2_qdbO]; exact hx_pi_fun _ _ _ _
        obtain ⟨x_29, ex_29⟩ : ∃ y : Int32, y = iv2_1 + Int32.ofInt 1 := ⟨_, rfl⟩
        have rg_30 := i32_r iv2_1
        have zx_29 : x_29.toInt = iv2_1.toInt + (1) := by rw [ex_29]; exact i32_add rfl (by decide) (by omega) (by omega)
        refine lv_iinc (v := x_29) (lv' := [(1, .int x_29), (0, .ref x)]) hx hb dX10_debts_16 hl (k := 0) rfl ex_29.symm (by decide) rfl (fun ls hl => ?_)
        refine lv_goto (tgt := 2) hx hb dX10_debts_19 (by decide) ?_
        exact ih2 x_29 fa_28 _ _ hL1 h_27 (by omega) (by omega) (hx_DZ_s vi2_0 zx_29 dfa_28 rfl (by omega)) ls (by omega) hW hT hM  nfa_28 (lv_sub hl [0, 1] rfl)
  have zk_0 : (0 : Int32).toInt = 0 := by decide
  exact loop2 1601 (0 : Int32) fa_1 _ _ L h (by decide) (by decide) hx_DZ_0 ls (by omega) hW hT hM  nfa_1 hl
