
set_option maxHeartbeats 4000000 in
set_option maxRecDepth 100000 in
theorem t_X10_debts_2 (l : Launch) (dC : Nat → ClassId) (dI : Nat → Nat → Nat) (dA : Nat → ClassId) (L : List Nat) (h : hx_h) (sz : Nat) (x : Nat) (hT : hx_T T_tb L h) (gx : hx_g L h x 10) (qod : Nat) (gqod : hx_g L h qod 83) (f_x_48 : h.2.2 x 48 = some qod) (qsv : Nat) (gqsv : hx_g L h qsv 85) (f_x_50 : h.2.2 x 50 = some qsv) (qsz : Nat) (gqsz : hx_g L h qsz 84) (f_x_49 : h.2.2 x 49 = some qsz) (qgd : Nat) (gqgd : hx_g L h qgd 91) (f_x_56 : h.2.2 x 56 = some qgd) (qow : Nat) (gqow : hx_g L h qow 90) (f_x_55 : h.2.2 x 55 = some qow) (qpl : Nat) (gqpl : hx_g L h qpl 79) (f_x_44 : h.2.2 x 44 = some qpl) (qru : Nat) (gqru : hx_g L h qru 50) (f_x_3 : h.2.2 x 3 = some qru) (qpo : Nat) (gqpo : hx_g L h qpo 93) (f_x_60 : h.2.2 x 60 = some qpo) (qpd : Nat) (gqpd : hx_g L h qpd 94) (f_x_61 : h.2.2 x 61 = some qpd) (qps : Nat) (gqps : hx_g L h qps 95) (f_x_62 : h.2.2 x 62 = some qps) (qpk : Nat) (gqpk : hx_g L h qpk 96) (f_x_63 : h.2.2 x 63 = some qpk) (qpt : Nat) (gqpt : hx_g L h qpt 97) (f_x_64 : h.2.2 x 64 = some qpt) (qag : Nat) (gqag : hx_g L h qag 73) (f_x_38 : h.2.2 x 38 = some qag) (qby : Nat) (gqby : hx_g L h qby 72) (f_x_37 : h.2.2 x 37 = some qby) (qdb : Nat) (gqdb : hx_g L h qdb 108) (f_x_82 : h.2.2 x 82 = some qdb) (odf : Nat → Int32) (af_qod : h.2.1 qod = odf) (svf : Nat → Int32) (af_qsv : h.2.1 qsv = svf) (szf : Nat → Int32) (af_qsz : h.2.1 qsz = szf) (gdf : Nat → Int32) (af_qgd : h.2.1 qgd = gdf) (owf : Nat → Int32) (af_qow : h.2.1 qow = owf) (plf : Nat → Int32) (af_qpl : h.2.1 qpl = plf) (rf : Nat → Int32) (af_qru : h.2.1 qru = rf) (pof : Nat → Int32) (af_qpo : h.2.1 qpo = pof) (pdf : Nat → Int32) (af_qpd : h.2.1 qpd = pdf) (psm : Nat → Int32) (af_qps : h.2.1 qps = psm) (pkf : Nat → Int32) (af_qpk : h.2.1 qpk = pkf) (pst : Nat → Int32) (af_qpt : h.2.1 qpt = pst) (agf : Nat → Int32) (af_qag : h.2.1 qag = agf) (byf : Nat → Int32) (af_qby : h.2.1 qby = byf) (nw0 : Int32) (f_x_0 : h.2.1 x 0 = nw0) (pm0 : Int32) (f_x_59 : h.2.1 x 59 = pm0) (c0 : Int32) (f_x_36 : h.2.1 x 36 = c0) : Met l yX10_debts (Cond.code yX10_debts cX10_debts 2 none :: hx_all) ({ frames := 3, cells := 0, slots := 0, locals := 71 }) (va_Pc [.ref x] (hx_B T_tb (P_ty dA) (dC, dI) vwCl L h sz)) (va_Qv (fun (u : List Nat × hx_h) => (∃ (dbf1 : Nat → Int32), u.2.2.1 qdb = dbf1 ∧ (hx_DB dbf1 (fun c => hx_Rn odf svf szf gdf owf plf rf pof pdf psm pkf pst nw0.toInt pm0.toInt.toNat c) agf byf c0.toInt)) ∧ hx_T T_tb u.1 u.2 ∧ hx_S T_tb [(10, 67), (10, 68), (10, 69), (10, 70), (10, 71), (108, 0)] L h u.1 u.2) (hx_E T_tb (P_ty dA) (dC, dI) vwCl (hx_A L sz)) (hx_A L sz)) 0 0 (hx_A L sz) := by
  refine hx_met (lv := [(0, .ref x)]) (by decide +kernel) rfl (Nat.le_of_ble_eq_true rfl) rfl ?_
  intro p e s m below meth c hx hb hml hr hlk hts0 hown hin hsz hW ls hl
  have hts : ∀ w ∈ hx_all, w.before _ s = true := fun w hw => hts0 w (List.mem_cons_of_mem _ hw)
  have hown : s.vm.findClass "SmallCourtModel" = some m.cls := hown
  have hM : hx_S T_tb [(10, 67), (10, 68), (10, 69), (10, 70), (10, 71), (108, 0)] L h L h := hx_S.rf
  have b_nw0 := hT.gi gx tt_10 (k := 0) rfl
  rw [f_x_0] at b_nw0
  have b_nw0 : 0 ≤ nw0.toInt ∧ nw0.toInt ≤ 7999 := b_nw0
  have b_pm0 := hT.gi gx tt_10 (k := 59) rfl
  rw [f_x_59] at b_pm0
  have b_pm0 : 0 ≤ pm0.toInt ∧ pm0.toInt ≤ 600 := b_pm0
  have b_c0 := hT.gi gx tt_10 (k := 36) rfl
  rw [f_x_36] at b_c0
  have b_c0 : 0 ≤ c0.toInt ∧ c0.toInt ≤ 100 := b_c0
  refine lv_iconst (v := 0) hx hb dX10_debts_0 (by decide) ?_
  refine lv_istore_n (lv' := [(1, .int (0 : Int32)), (0, .ref x)]) hx hb dX10_debts_1 rfl hl (by decide) rfl (fun ls hl => ?_)
  obtain ⟨fa_1, nfa_1⟩ : ∃ g : Nat → Int32, h.2.1 qdb = g := ⟨_, rfl⟩
  have loop2 : ∀ (n2 : Nat) (iv2_1 : Int32) (ia2_qdb : Nat → Int32) (H : Heap) (locs : List Loc) (hL1 : List Nat) (hl1 : hx_h), 0 ≤ iv2_1.toInt → iv2_1.toInt ≤ 1600 → (hx_DZ ia2_qdb iv2_1.toInt) → ∀ (ls : Array Slot), 1600 - iv2_1.toInt < (n2 : Int) → hx_W T_tb (P_ty dA) (dC, dI) vwCl (hx_A L sz) s.heap hL1 hl1 s H locs → hx_T T_tb hL1 hl1 → hx_S T_tb [(10, 67), (10, 68), (10, 69), (10, 70), (10, 71), (108, 0)] L h hL1 hl1 → hl1.2.2 x 48 = some qod → hl1.2.2 x 50 = some qsv → hl1.2.2 x 49 = some qsz → hl1.2.2 x 56 = some qgd → hl1.2.2 x 55 = some qow → hl1.2.2 x 44 = some qpl → hl1.2.2 x 3 = some qru → hl1.2.2 x 60 = some qpo → hl1.2.2 x 61 = some qpd → hl1.2.2 x 62 = some qps → hl1.2.2 x 63 = some qpk → hl1.2.2 x 64 = some qpt → hl1.2.2 x 38 = some qag → hl1.2.2 x 37 = some qby → hl1.2.2 x 82 = some qdb → hl1.2.1 x 0 = nw0 → hl1.2.1 x 59 = pm0 → hl1.2.1 x 36 = c0 → hx_g hL1 hl1 x 10 → hx_g hL1 hl1 qod 83 → hx_g hL1 hl1 qsv 85 → hx_g hL1 hl1 qsz 84 → hx_g hL1 hl1 qgd 91 → hx_g hL1 hl1 qow 90 → hx_g hL1 hl1 qpl 79 → hx_g hL1 hl1 qru 50 → hx_g hL1 hl1 qpo 93 → hx_g hL1 hl1 qpd 94 → hx_g hL1 hl1 qps 95 → hx_g hL1 hl1 qpk 96 → hx_g hL1 hl1 qpt 97 → hx_g hL1 hl1 qag 73 → hx_g hL1 hl1 qby 72 → hx_g hL1 hl1 qdb 108 → hl1.2.1 qdb = ia2_qdb → hl1.2.1 qod = odf → hl1.2.1 qsv = svf → hl1.2.1 qsz = szf → hl1.2.1 qgd = gdf → hl1.2.1 qow = owf → hl1.2.1 qpl = plf → hl1.2.1 qru = rf → hl1.2.1 qpo = pof → hl1.2.1 qpd = pdf → hl1.2.1 qps = psm → hl1.2.1 qpk = pkf → hl1.2.1 qpt = pst → hl1.2.1 qag = agf → hl1.2.1 qby = byf → lv_has ls 2 [(1, .int iv2_1), (0, .ref x)] → W p l e ({ frames := 3, cells := 0, slots := 0, locals := 71 }) s m ([.ref x] : List Value).toArray below meth c H locs 0 0 (MQ below (va_Qv (fun (u : List Nat × hx_h) => (∃ (dbf1 : Nat → Int32), u.2.2.1 qdb = dbf1 ∧ (hx_DB dbf1 (fun c => hx_Rn odf svf szf gdf owf plf rf pof pdf psm pkf pst nw0.toInt pm0.toInt.toNat c) agf byf c0.toInt)) ∧ hx_T T_tb u.1 u.2 ∧ hx_S T_tb [(10, 67), (10, 68), (10, 69), (10, 70), (10, 71), (108, 0)] L h u.1 u.2) (hx_E T_tb (P_ty dA) (dC, dI) vwCl (hx_A L sz)) (hx_A L sz)) ([.ref x] : List Value).toArray s 0 0 (hx_A L sz)) (F0 m 2 ls []) := by
    intro n2
    induction n2 with
    | zero => intro iv2_1 ia2_qdb H locs hL1 hl1 bliv2_1 buiv2_1 vi2_0 ls hn2; exfalso; omega
    | succ n2 ih2 =>
      intro iv2_1 ia2_qdb H locs hL1 hl1 bliv2_1 buiv2_1 vi2_0 ls hn2 hW hT hM f_x_48 f_x_50 f_x_49 f_x_56 f_x_55 f_x_44 f_x_3 f_x_60 f_x_61 f_x_62 f_x_63 f_x_64 f_x_38 f_x_37 f_x_82 f_x_0 f_x_59 f_x_36 gx gqod gqsv gqsz gqgd gqow gqpl gqru gqpo gqpd gqps gqpk gqpt gqag gqby gqdb nia2_qdb af_qod af_qsv af_qsz af_qgd af_qow af_qpl af_qru af_qpo af_qpd af_qps af_qpk af_qpt af_qag af_qby hl
      refine lv_iload_n hx hb dX10_debts_2 rfl (lv_at hl 0 rfl) ?_
      refine lv_sipush (v := 1600) hx hb dX10_debts_3 (by decide) ?_
      refine hb_icmp_ge (zx := iv2_1.toInt) (zy := 1600) (tgt := 22) hx hb rfl (by decide) dX10_debts_6 (by decide) (fun c_2 => ?_) (fun c_2 => ?_)
      · skip
        refine lv_iconst (v := 0) hx hb dX10_debts_22 (by decide) ?_
        refine lv_istore_n (lv' := [(1, .int (0 : Int32)), (0, .ref x)]) hx hb dX10_debts_23 rfl hl (by decide) rfl (fun ls hl => ?_)
        have loop24 : ∀ (n24 : Nat) (iv24_1 : Int32) (ia24_qdb : Nat → Int32) (H : Heap) (locs : List Loc) (hL1 : List Nat) (hl1 : hx_h), 0 ≤ iv24_1.toInt → iv24_1.toInt ≤ 100 → (hx_DB ia24_qdb (fun c => hx_Rn odf svf szf gdf owf plf rf pof pdf psm pkf pst nw0.toInt pm0.toInt.toNat c) agf byf iv24_1.toInt) → (iv24_1.toInt ≤ c0.toInt) → ∀ (ls : Array Slot), 100 - iv24_1.toInt < (n24 : Int) → hx_W T_tb (P_ty dA) (dC, dI) vwCl (hx_A L sz) s.heap hL1 hl1 s H locs → hx_T T_tb hL1 hl1 → hx_S T_tb [(10, 67), (10, 68), (10, 69), (10, 70), (10, 71), (108, 0)] L h hL1 hl1 → hl1.2.2 x 48 = some qod → hl1.2.2 x 50 = some qsv → hl1.2.2 x 49 = some qsz → hl1.2.2 x 56 = some qgd → hl1.2.2 x 55 = some qow → hl1.2.2 x 44 = some qpl → hl1.2.2 x 3 = some qru → hl1.2.2 x 60 = some qpo → hl1.2.2 x 61 = some qpd → hl1.2.2 x 62 = some qps → hl1.2.2 x 63 = some qpk → hl1.2.2 x 64 = some qpt → hl1.2.2 x 38 = some qag → hl1.2.2 x 37 = some qby → hl1.2.2 x 82 = some qdb → hl1.2.1 x 0 = nw0 → hl1.2.1 x 59 = pm0 → hl1.2.1 x 36 = c0 → hx_g hL1 hl1 x 10 → hx_g hL1 hl1 qod 83 → hx_g hL1 hl1 qsv 85 → hx_g hL1 hl1 qsz 84 → hx_g hL1 hl1 qgd 91 → hx_g hL1 hl1 qow 90 → hx_g hL1 hl1 qpl 79 → hx_g hL1 hl1 qru 50 → hx_g hL1 hl1 qpo 93 → hx_g hL1 hl1 qpd 94 → hx_g hL1 hl1 qps 95 → hx_g hL1 hl1 qpk 96 → hx_g hL1 hl1 qpt 97 → hx_g hL1 hl1 qag 73 → hx_g hL1 hl1 qby 72 → hx_g hL1 hl1 qdb 108 → hl1.2.1 qdb = ia24_qdb → hl1.2.1 qod = odf → hl1.2.1 qsv = svf → hl1.2.1 qsz = szf → hl1.2.1 qgd = gdf → hl1.2.1 qow = owf → hl1.2.1 qpl = plf → hl1.2.1 qru = rf → hl1.2.1 qpo = pof → hl1.2.1 qpd = pdf → hl1.2.1 qps = psm → hl1.2.1 qpk = pkf → hl1.2.1 qpt = pst → hl1.2.1 qag = agf → hl1.2.1 qby = byf → lv_has ls 2 [(1, .int iv24_1), (0, .ref x)] → W p l e ({ frames := 3, cells := 0, slots := 0, locals := 71 }) s m ([.ref x] : List Value).toArray below meth c H locs 0 0 (MQ below (va_Qv (fun (u : List Nat × hx_h) => (∃ (dbf1 : Nat → Int32), u.2.2.1 qdb = dbf1 ∧ (hx_DB dbf1 (fun c => hx_Rn odf svf szf gdf owf plf rf pof pdf psm pkf pst nw0.toInt pm0.toInt.toNat c) agf byf c0.toInt)) ∧ hx_T T_tb u.1 u.2 ∧ hx_S T_tb [(10, 67), (10, 68), (10, 69), (10, 70), (10, 71), (108, 0)] L h u.1 u.2) (hx_E T_tb (P_ty dA) (dC, dI) vwCl (hx_A L sz)) (hx_A L sz)) ([.ref x] : List Value).toArray s 0 0 (hx_A L sz)) (F0 m 24 ls []) := by
          intro n24
          induction n24 with
          | zero => intro iv24_1 ia24_qdb H locs hL1 hl1 bliv24_1 buiv24_1 vi24_0 vi24_1 ls hn24; exfalso; omega
          | succ n24 ih24 =>
            intro iv24_1 ia24_qdb H locs hL1 hl1 bliv24_1 buiv24_1 vi24_0 vi24_1 ls hn24 hW hT hM f_x_48 f_x_50 f_x_49 f_x_56 f_x_55 f_x_44 f_x_3 f_x_60 f_x_61 f_x_62 f_x_63 f_x_64 f_x_38 f_x_37 f_x_82 f_x_0 f_x_59 f_x_36 gx gqod gqsv gqsz gqgd gqow gqpl gqru gqpo gqpd gqps gqpk gqpt gqag gqby gqdb nia24_qdb af_qod af_qsv af_qsz af_qgd af_qow af_qpl af_qru af_qpo af_qpd af_qps af_qpk af_qpt af_qag af_qby hl
            refine lv_iload_n hx hb dX10_debts_24 rfl (lv_at hl 0 rfl) ?_
            refine lv_aload_n hx hb dX10_debts_25 rfl (lv_at hl 1 rfl) ?_
            refine hk_geti hx hb hts hC_10 hown hW gx tt_10 36 (by decide) rfl kw_1179 ⟨rfl, rfl, rfl⟩ f_x_36 dX10_debts_26 ?_
            refine hb_icmp_ge (zx := iv24_1.toInt) (zy := c0.toInt) (tgt := 74) hx hb rfl rfl dX10_debts_29 (by decide) (fun c_3 => ?_) (fun c_3 => ?_)
            · skip
              exact hx_retv hx hb hr hlk hW ⟨⟨ia24_qdb, nia24_qdb, (by rw [show c0.toInt = iv24_1.toInt from by omega]; exact vi24_0)⟩, hT, hM⟩ dX10_debts_74
            · skip
              refine lv_aload_n hx hb dX10_debts_32 rfl (lv_at hl 1 rfl) ?_
              refine lv_iload_n hx hb dX10_debts_33 rfl (lv_at hl 0 rfl) ?_
              refine hx_goi (hx_runV (As := [.int iv24_1]) (rest := []) ⟨hx, hb, hml, hown, hts⟩ hW gx tt_10 (T := TX10) (N := 98) rfl (t_X10_isOpen_2 l dC dI dA hL1 hl1 H.size x iv24_1 hT gx qod gqod f_x_48 qsv gqsv f_x_50 qsz gqsz f_x_49 qgd gqgd f_x_56 qow gqow f_x_55 qpl gqpl f_x_44 qru gqru f_x_3 qpo gqpo f_x_60 qpd gqpd f_x_61 qps gqps f_x_62 qpk gqpk f_x_63 qpt gqpt f_x_64 odf af_qod svf af_qsv szf af_qsz gdf af_qgd owf af_qow plf af_qpl rf af_qru pof af_qpo pdf af_qpd psm af_qps pkf af_qpk pst af_qpt nw0 f_x_0 pm0 f_x_59 ⟨by omega, by omega⟩) (cwV 1 hts (hx_gV kw_1637 kw_1634 kw_1636 kw_81 kw_103) rfl rfl rfl (by decide +kernel) ⟨Nat.le_of_ble_eq_true rfl, Nat.le_of_ble_eq_true rfl⟩) rfl hl.1 rfl (Nat.le_of_ble_eq_true rfl) dX10_debts_34 ⟨Nat.le_of_ble_eq_true rfl, Nat.le_of_ble_eq_true rfl⟩) hW (fun r_6 L_4 h_5 H locs p_7 hW => ?_)
              obtain ⟨⟨w_9, fw_9, hr_8⟩, hT, hs⟩ := p_7
              replace hT : hx_T T_tb L_4 h_5 := hT
              replace hs : hx_S T_tb [(10, 67), (10, 68), (10, 69), (10, 70), (10, 71)] hL1 hl1 L_4 h_5 := hs
              replace f_x_48 := (hs.o gx trivial rfl).2.trans f_x_48
              replace f_x_50 := (hs.o gx trivial rfl).2.trans f_x_50
              replace f_x_49 := (hs.o gx trivial rfl).2.trans f_x_49
              replace f_x_56 := (hs.o gx trivial rfl).2.trans f_x_56
              replace f_x_55 := (hs.o gx trivial rfl).2.trans f_x_55
              replace f_x_44 := (hs.o gx trivial rfl).2.trans f_x_44
              replace f_x_3 := (hs.o gx trivial rfl).2.trans f_x_3
              replace f_x_60 := (hs.o gx trivial rfl).2.trans f_x_60
              replace f_x_61 := (hs.o gx trivial rfl).2.trans f_x_61
              replace f_x_62 := (hs.o gx trivial rfl).2.trans f_x_62
              replace f_x_63 := (hs.o gx trivial rfl).2.trans f_x_63
              replace f_x_64 := (hs.o gx trivial rfl).2.trans f_x_64
              replace f_x_38 := (hs.o gx trivial rfl).2.trans f_x_38
              replace f_x_37 := (hs.o gx trivial rfl).2.trans f_x_37
              replace f_x_82 := (hs.o gx trivial rfl).2.trans f_x_82
              replace f_x_0 := (hs.o gx trivial rfl).1.trans f_x_0
              replace f_x_59 := (hs.o gx trivial rfl).1.trans f_x_59
              replace f_x_36 := (hs.o gx trivial rfl).1.trans f_x_36
              replace af_qod : h_5.2.1 qod = odf := (funext fun j => (hs.a gqod rfl j).1).trans af_qod
              replace af_qsv : h_5.2.1 qsv = svf := (funext fun j => (hs.a gqsv rfl j).1).trans af_qsv
              replace af_qsz : h_5.2.1 qsz = szf := (funext fun j => (hs.a gqsz rfl j).1).trans af_qsz
              replace af_qgd : h_5.2.1 qgd = gdf := (funext fun j => (hs.a gqgd rfl j).1).trans af_qgd
              replace af_qow : h_5.2.1 qow = owf := (funext fun j => (hs.a gqow rfl j).1).trans af_qow
              replace af_qpl : h_5.2.1 qpl = plf := (funext fun j => (hs.a gqpl rfl j).1).trans af_qpl
              replace af_qru : h_5.2.1 qru = rf := (funext fun j => (hs.a gqru rfl j).1).trans af_qru
              replace af_qpo : h_5.2.1 qpo = pof := (funext fun j => (hs.a gqpo rfl j).1).trans af_qpo
              replace af_qpd : h_5.2.1 qpd = pdf := (funext fun j => (hs.a gqpd rfl j).1).trans af_qpd
              replace af_qps : h_5.2.1 qps = psm := (funext fun j => (hs.a gqps rfl j).1).trans af_qps
              replace af_qpk : h_5.2.1 qpk = pkf := (funext fun j => (hs.a gqpk rfl j).1).trans af_qpk
              replace af_qpt : h_5.2.1 qpt = pst := (funext fun j => (hs.a gqpt rfl j).1).trans af_qpt
              replace af_qag : h_5.2.1 qag = agf := (funext fun j => (hs.a gqag rfl j).1).trans af_qag
              replace af_qby : h_5.2.1 qby = byf := (funext fun j => (hs.a gqby rfl j).1).trans af_qby
              replace nia24_qdb : h_5.2.1 qdb = ia24_qdb := (funext fun j => (hs.a gqdb rfl j).1).trans nia24_qdb
              replace hM := hM.tr (hs.mono (by decide))
              replace gx := gx.S hs
              replace gqod := gqod.S hs
              replace gqsv := gqsv.S hs
              replace gqsz := gqsz.S hs
              replace gqgd := gqgd.S hs
              replace gqow := gqow.S hs
              replace gqpl := gqpl.S hs
              replace gqru := gqru.S hs
              replace gqpo := gqpo.S hs
              replace gqpd := gqpd.S hs
              replace gqps := gqps.S hs
              replace gqpk := gqpk.S hs
              replace gqpt := gqpt.S hs
              replace gqag := gqag.S hs
              replace gqby := gqby.S hs
              replace gqdb := gqdb.S hs
              have fw_9 : h_5.2.1 x 68 = w_9 := fw_9
              have bw_9 := hT.gi gx tt_10 (k := 68) rfl
              rw [fw_9] at bw_9
              have bw_9 : 0 ≤ w_9.toInt ∧ w_9.toInt ≤ 610000 := bw_9
              refine hb_if_eq (zx := r_6.toInt) (tgt := 68) hx hb rfl dX10_debts_37 (by decide) (fun c_10 => ?_) (fun c_10 => ?_)
              · skip
                obtain ⟨x_11, ex_11⟩ : ∃ y : Int32, y = iv24_1 + Int32.ofInt 1 := ⟨_, rfl⟩
                have rg_12 := i32_r iv24_1
                have zx_11 : x_11.toInt = iv24_1.toInt + (1) := by rw [ex_11]; exact i32_add rfl (by decide) (by omega) (by omega)
                refine lv_iinc (v := x_11) (lv' := [(1, .int x_11), (0, .ref x)]) hx hb dX10_debts_68 hl (k := 0) rfl ex_11.symm (by decide) rfl (fun ls hl => ?_)
                refine lv_goto (tgt := 24) hx hb dX10_debts_71 (by decide) ?_
                exact ih24 x_11 ia24_qdb _ _ L_4 h_5 (by omega) (by omega) (hx_DB_no vi24_0 zx_11) (by omega) ls (by omega) hW hT hM f_x_48 f_x_50 f_x_49 f_x_56 f_x_55 f_x_44 f_x_3 f_x_60 f_x_61 f_x_62 f_x_63 f_x_64 f_x_38 f_x_37 f_x_82 f_x_0 f_x_59 f_x_36 gx gqod gqsv gqsz gqgd gqow gqpl gqru gqpo gqpd gqps gqpk gqpt gqag gqby gqdb nia24_qdb af_qod af_qsv af_qsz af_qgd af_qow af_qpl af_qru af_qpo af_qpd af_qps af_qpk af_qpt af_qag af_qby (lv_sub hl [0, 1] rfl)
              · skip
                refine lv_aload_n hx hb dX10_debts_40 rfl (lv_at hl 1 rfl) ?_
                refine hk_getr hx hb hts hC_10 hown hW gx tt_10 82 (by decide) rfl kw_1225 ⟨rfl, rfl, rfl⟩ f_x_82 dX10_debts_41 ?_
                refine lv_bipush (v := 40) hx hb dX10_debts_44 (by decide) ?_
                refine lv_aload_n hx hb dX10_debts_46 rfl (lv_at hl 1 rfl) ?_
                refine hk_getr hx hb hts hC_10 hown hW gx tt_10 38 (by decide) rfl kw_1181 ⟨rfl, rfl, rfl⟩ f_x_38 dX10_debts_47 ?_
                refine lv_iload_n hx hb dX10_debts_50 rfl (lv_at hl 0 rfl) ?_
                refine hx_iald hx hb hW hT gqag tt_73 rfl ⟨by omega, by omega⟩ dX10_debts_51 (fun x_13 ex_13 lx_13 ux_13 => ?_)
                have ax_13 : x_13 = agf iv24_1.toNatClampNeg := ex_13.trans (congrFun af_qag _)
                refine lv_imul hx hb dX10_debts_52 ?_
                refine lv_topi (fun x_14 ex_14 => ?_)
                have zx_14 : x_14.toInt = 40 * x_13.toInt := by rw [ex_14]; exact i32_mul (by decide) rfl rfl (by omega) (by omega)
                refine lv_aload_n hx hb dX10_debts_53 rfl (lv_at hl 1 rfl) ?_
                refine hk_getr hx hb hts hC_10 hown hW gx tt_10 37 (by decide) rfl kw_1180 ⟨rfl, rfl, rfl⟩ f_x_37 dX10_debts_54 ?_
                refine lv_iload_n hx hb dX10_debts_57 rfl (lv_at hl 0 rfl) ?_
                refine hx_iald hx hb hW hT gqby tt_72 rfl ⟨by omega, by omega⟩ dX10_debts_58 (fun x_15 ex_15 lx_15 ux_15 => ?_)
                have ax_15 : x_15 = byf iv24_1.toNatClampNeg := ex_15.trans (congrFun af_qby _)
                refine lv_iadd hx hb dX10_debts_59 ?_
                have rg_16 := i32_r x_14
                have rg_17 := i32_r x_15
                refine lv_topi (fun x_18 ex_18 => ?_)
                have zx_18 : x_18.toInt = x_14.toInt + x_15.toInt := by rw [ex_18]; exact i32_add rfl rfl (by omega) (by omega)
                refine lv_dup2_11 hx hb dX10_debts_60 rfl rfl ?_
                refine hx_iald hx hb hW hT gqdb tt_108 rfl ⟨by omega, by omega⟩ dX10_debts_61 (fun x_19 ex_19 lx_19 ux_19 => ?_)
                have ax_19 : x_19 = ia24_qdb x_18.toNatClampNeg := ex_19.trans (congrFun nia24_qdb _)
                refine lv_aload_n hx hb dX10_debts_62 rfl (lv_at hl 1 rfl) ?_
                refine hk_geti hx hb hts hC_10 hown hW gx tt_10 68 (by decide) rfl kw_1211 ⟨rfl, rfl, rfl⟩ fw_9 dX10_debts_63 ?_
                refine lv_iadd hx hb dX10_debts_66 ?_
                have rg_20 := i32_r x_19
                have rg_21 := i32_r w_9
                refine lv_topi (fun x_22 ex_22 => ?_)
                have nia24_qdbO := nia24_qdb
                refine hx_iast hx hb hW hT (hx_S.rf (M := [(108, 0)])) gqdb tt_108 rfl ⟨by omega, by omega⟩ rfl (i32_r _) (List.mem_singleton.mpr rfl) dX10_debts_67 (fun H locs h_23 eh_23 hW hT hs => ?_)
                replace f_x_48 := (hs.o gx trivial rfl).2.trans f_x_48
                replace f_x_50 := (hs.o gx trivial rfl).2.trans f_x_50
                replace f_x_49 := (hs.o gx trivial rfl).2.trans f_x_49
                replace f_x_56 := (hs.o gx trivial rfl).2.trans f_x_56
                replace f_x_55 := (hs.o gx trivial rfl).2.trans f_x_55
                replace f_x_44 := (hs.o gx trivial rfl).2.trans f_x_44
                replace f_x_3 := (hs.o gx trivial rfl).2.trans f_x_3
                replace f_x_60 := (hs.o gx trivial rfl).2.trans f_x_60
                replace f_x_61 := (hs.o gx trivial rfl).2.trans f_x_61
                replace f_x_62 := (hs.o gx trivial rfl).2.trans f_x_62
                replace f_x_63 := (hs.o gx trivial rfl).2.trans f_x_63
                replace f_x_64 := (hs.o gx trivial rfl).2.trans f_x_64
                replace f_x_38 := (hs.o gx trivial rfl).2.trans f_x_38
                replace f_x_37 := (hs.o gx trivial rfl).2.trans f_x_37
                replace f_x_82 := (hs.o gx trivial rfl).2.trans f_x_82
                replace f_x_0 := (hs.o gx trivial rfl).1.trans f_x_0
                replace f_x_59 := (hs.o gx trivial rfl).1.trans f_x_59
                replace f_x_36 := (hs.o gx trivial rfl).1.trans f_x_36
                replace fw_9 := (hs.o gx trivial rfl).1.trans fw_9
                replace af_qod : h_23.2.1 qod = odf := (funext fun j => (hs.a gqod rfl j).1).trans af_qod
                replace af_qsv : h_23.2.1 qsv = svf := (funext fun j => (hs.a gqsv rfl j).1).trans af_qsv
                replace af_qsz : h_23.2.1 qsz = szf := (funext fun j => (hs.a gqsz rfl j).1).trans af_qsz
                replace af_qgd : h_23.2.1 qgd = gdf := (funext fun j => (hs.a gqgd rfl j).1).trans af_qgd
                replace af_qow : h_23.2.1 qow = owf := (funext fun j => (hs.a gqow rfl j).1).trans af_qow
                replace af_qpl : h_23.2.1 qpl = plf := (funext fun j => (hs.a gqpl rfl j).1).trans af_qpl
                replace af_qru : h_23.2.1 qru = rf := (funext fun j => (hs.a gqru rfl j).1).trans af_qru
                replace af_qpo : h_23.2.1 qpo = pof := (funext fun j => (hs.a gqpo rfl j).1).trans af_qpo
                replace af_qpd : h_23.2.1 qpd = pdf := (funext fun j => (hs.a gqpd rfl j).1).trans af_qpd
                replace af_qps : h_23.2.1 qps = psm := (funext fun j => (hs.a gqps rfl j).1).trans af_qps
                replace af_qpk : h_23.2.1 qpk = pkf := (funext fun j => (hs.a gqpk rfl j).1).trans af_qpk
                replace af_qpt : h_23.2.1 qpt = pst := (funext fun j => (hs.a gqpt rfl j).1).trans af_qpt
                replace af_qag : h_23.2.1 qag = agf := (funext fun j => (hs.a gqag rfl j).1).trans af_qag
                replace af_qby : h_23.2.1 qby = byf := (funext fun j => (hs.a gqby rfl j).1).trans af_qby
                replace ex_13 := ex_13.trans (hs.a gqag rfl _).1.symm
                replace ex_15 := ex_15.trans (hs.a gqby rfl _).1.symm
                replace hM := hM.tr (hs.mono (by decide))
                replace gx := gx.S hs
                replace gqod := gqod.S hs
                replace gqsv := gqsv.S hs
                replace gqsz := gqsz.S hs
                replace gqgd := gqgd.S hs
                replace gqow := gqow.S hs
                replace gqpl := gqpl.S hs
                replace gqru := gqru.S hs
                replace gqpo := gqpo.S hs
                replace gqpd := gqpd.S hs
                replace gqps := gqps.S hs
                replace gqpk := gqpk.S hs
                replace gqpt := gqpt.S hs
                replace gqag := gqag.S hs
                replace gqby := gqby.S hs
                replace gqdb := gqdb.S hs
                obtain ⟨fa_24, dfa_24⟩ : ∃ g : Nat → Int32, g = hx_up ia24_qdb x_18.toNatClampNeg x_22 := ⟨_, rfl⟩
                have nfa_24 : h_23.2.1 qdb = fa_24 := by rw [eh_23, dfa_24, ← nia24_qdbO]; exact hx_pi_fun _ _ _ _
                obtain ⟨x_25, ex_25⟩ : ∃ y : Int32, y = iv24_1 + Int32.ofInt 1 := ⟨_, rfl⟩
                have rg_26 := i32_r iv24_1
                have zx_25 : x_25.toInt = iv24_1.toInt + (1) := by rw [ex_25]; exact i32_add rfl (by decide) (by omega) (by omega)
                refine lv_iinc (v := x_25) (lv' := [(1, .int x_25), (0, .ref x)]) hx hb dX10_debts_68 hl (k := 0) rfl ex_25.symm (by decide) rfl (fun ls hl => ?_)
                refine lv_goto (tgt := 24) hx hb dX10_debts_71 (by decide) ?_
                exact ih24 x_25 fa_24 _ _ L_4 h_23 (by omega) (by omega) (hx_DB_up vi24_0 (by omega) zx_25 dfa_24 (by have w := hr_8.2.1; have u := hr_8.2.2; show 0 < hx_Rn odf svf szf gdf owf plf rf pof pdf psm pkf pst nw0.toInt pm0.toInt.toNat iv24_1.toInt; rw [← u]; omega) rfl ax_13 ax_15 (by omega) (by omega)) (by omega) ls (by omega) hW hT hM f_x_48 f_x_50 f_x_49 f_x_56 f_x_55 f_x_44 f_x_3 f_x_60 f_x_61 f_x_62 f_x_63 f_x_64 f_x_38 f_x_37 f_x_82 f_x_0 f_x_59 f_x_36 gx gqod gqsv gqsz gqgd gqow gqpl gqru gqpo gqpd gqps gqpk gqpt gqag gqby gqdb nfa_24 af_qod af_qsv af_qsz af_qgd af_qow af_qpl af_qru af_qpo af_qpd af_qps af_qpk af_qpt af_qag af_qby (lv_sub hl [0, 1] rfl)
        have zk_0 : (0 : Int32).toInt = 0 := by decide
        exact loop24 101 (0 : Int32) ia2_qdb _ _ hL1 hl1 (by decide) (by decide) (hx_DB_0 vi2_0 (by omega)) (by omega) ls (by omega) hW hT hM f_x_48 f_x_50 f_x_49 f_x_56 f_x_55 f_x_44 f_x_3 f_x_60 f_x_61 f_x_62 f_x_63 f_x_64 f_x_38 f_x_37 f_x_82 f_x_0 f_x_59 f_x_36 gx gqod gqsv gqsz gqgd gqow gqpl gqru gqpo gqpd gqps gqpk gqpt gqag gqby gqdb nia2_qdb af_qod af_qsv af_qsz af_qgd af_qow af_qpl af_qru af_qpo af_qpd af_qps af_qpk af_qpt af_qag af_qby hl
      · skip
        refine lv_aload_n hx hb dX10_debts_9 rfl (lv_at hl 1 rfl) ?_
        refine hk_getr hx hb hts hC_10 hown hW gx tt_10 82 (by decide) rfl kw_1225 ⟨rfl, rfl, rfl⟩ f_x_82 dX10_debts_10 ?_
        refine lv_iload_n hx hb dX10_debts_13 rfl (lv_at hl 0 rfl) ?_
        refine lv_iconst (v := 0) hx hb dX10_debts_14 (by decide) ?_
        have nia2_qdbO := nia2_qdb
        refine hx_iast hx hb hW hT (hx_S.rf (M := [(108, 0)])) gqdb tt_108 rfl ⟨by omega, by omega⟩ rfl (by decide) (List.mem_singleton.mpr rfl) dX10_debts_15 (fun H locs h_27 eh_27 hW hT hs => ?_)
        replace f_x_48 := (hs.o gx trivial rfl).2.trans f_x_48
        replace f_x_50 := (hs.o gx trivial rfl).2.trans f_x_50
        replace f_x_49 := (hs.o gx trivial rfl).2.trans f_x_49
        replace f_x_56 := (hs.o gx trivial rfl).2.trans f_x_56
        replace f_x_55 := (hs.o gx trivial rfl).2.trans f_x_55
        replace f_x_44 := (hs.o gx trivial rfl).2.trans f_x_44
        replace f_x_3 := (hs.o gx trivial rfl).2.trans f_x_3
        replace f_x_60 := (hs.o gx trivial rfl).2.trans f_x_60
        replace f_x_61 := (hs.o gx trivial rfl).2.trans f_x_61
        replace f_x_62 := (hs.o gx trivial rfl).2.trans f_x_62
        replace f_x_63 := (hs.o gx trivial rfl).2.trans f_x_63
        replace f_x_64 := (hs.o gx trivial rfl).2.trans f_x_64
        replace f_x_38 := (hs.o gx trivial rfl).2.trans f_x_38
        replace f_x_37 := (hs.o gx trivial rfl).2.trans f_x_37
        replace f_x_82 := (hs.o gx trivial rfl).2.trans f_x_82
        replace f_x_0 := (hs.o gx trivial rfl).1.trans f_x_0
        replace f_x_59 := (hs.o gx trivial rfl).1.trans f_x_59
        replace f_x_36 := (hs.o gx trivial rfl).1.trans f_x_36
        replace af_qod : h_27.2.1 qod = odf := (funext fun j => (hs.a gqod rfl j).1).trans af_qod
        replace af_qsv : h_27.2.1 qsv = svf := (funext fun j => (hs.a gqsv rfl j).1).trans af_qsv
        replace af_qsz : h_27.2.1 qsz = szf := (funext fun j => (hs.a gqsz rfl j).1).trans af_qsz
        replace af_qgd : h_27.2.1 qgd = gdf := (funext fun j => (hs.a gqgd rfl j).1).trans af_qgd
        replace af_qow : h_27.2.1 qow = owf := (funext fun j => (hs.a gqow rfl j).1).trans af_qow
        replace af_qpl : h_27.2.1 qpl = plf := (funext fun j => (hs.a gqpl rfl j).1).trans af_qpl
        replace af_qru : h_27.2.1 qru = rf := (funext fun j => (hs.a gqru rfl j).1).trans af_qru
        replace af_qpo : h_27.2.1 qpo = pof := (funext fun j => (hs.a gqpo rfl j).1).trans af_qpo
        replace af_qpd : h_27.2.1 qpd = pdf := (funext fun j => (hs.a gqpd rfl j).1).trans af_qpd
        replace af_qps : h_27.2.1 qps = psm := (funext fun j => (hs.a gqps rfl j).1).trans af_qps
        replace af_qpk : h_27.2.1 qpk = pkf := (funext fun j => (hs.a gqpk rfl j).1).trans af_qpk
        replace af_qpt : h_27.2.1 qpt = pst := (funext fun j => (hs.a gqpt rfl j).1).trans af_qpt
        replace af_qag : h_27.2.1 qag = agf := (funext fun j => (hs.a gqag rfl j).1).trans af_qag
        replace af_qby : h_27.2.1 qby = byf := (funext fun j => (hs.a gqby rfl j).1).trans af_qby
        replace hM := hM.tr (hs.mono (by decide))
        replace gx := gx.S hs
        replace gqod := gqod.S hs
        replace gqsv := gqsv.S hs
        replace gqsz := gqsz.S hs
        replace gqgd := gqgd.S hs
        replace gqow := gqow.S hs
        replace gqpl := gqpl.S hs
        replace gqru := gqru.S hs
        replace gqpo := gqpo.S hs
        replace gqpd := gqpd.S hs
        replace gqps := gqps.S hs
        replace gqpk := gqpk.S hs
        replace gqpt := gqpt.S hs
        replace gqag := gqag.S hs
        replace gqby := gqby.S hs
        replace gqdb := gqdb.S hs
        obtain ⟨fa_28, dfa_28⟩ : ∃ g : Nat → Int32, g = hx_up ia2_qdb iv2_1.toNatClampNeg (0 : Int32) := ⟨_, rfl⟩
        have nfa_28 : h_27.2.1 qdb = fa_28 := by rw [eh_27, dfa_28, ← nia2_qdbO]; exact hx_pi_fun _ _ _ _
        obtain ⟨x_29, ex_29⟩ : ∃ y : Int32, y = iv2_1 + Int32.ofInt 1 := ⟨_, rfl⟩
        have rg_30 := i32_r iv2_1
        have zx_29 : x_29.toInt = iv2_1.toInt + (1) := by rw [ex_29]; exact i32_add rfl (by decide) (by omega) (by omega)
        refine lv_iinc (v := x_29) (lv' := [(1, .int x_29), (0, .ref x)]) hx hb dX10_debts_16 hl (k := 0) rfl ex_29.symm (by decide) rfl (fun ls hl => ?_)
        refine lv_goto (tgt := 2) hx hb dX10_debts_19 (by decide) ?_
        exact ih2 x_29 fa_28 _ _ hL1 h_27 (by omega) (by omega) (hx_DZ_s vi2_0 zx_29 dfa_28 rfl (by omega)) ls (by omega) hW hT hM f_x_48 f_x_50 f_x_49 f_x_56 f_x_55 f_x_44 f_x_3 f_x_60 f_x_61 f_x_62 f_x_63 f_x_64 f_x_38 f_x_37 f_x_82 f_x_0 f_x_59 f_x_36 gx gqod gqsv gqsz gqgd gqow gqpl gqru gqpo gqpd gqps gqpk gqpt gqag gqby gqdb nfa_28 af_qod af_qsv af_qsz af_qgd af_qow af_qpl af_qru af_qpo af_qpd af_qps af_qpk af_qpt af_qag af_qby (lv_sub hl [0, 1] rfl)
  have zk_0 : (0 : Int32).toInt = 0 := by decide
  exact loop2 1601 (0 : Int32) fa_1 _ _ L h (by decide) (by decide) hx_DZ_0 ls (by omega) hW hT hM f_x_48 f_x_50 f_x_49 f_x_56 f_x_55 f_x_44 f_x_3 f_x_60 f_x_61 f_x_62 f_x_63 f_x_64 f_x_38 f_x_37 f_x_82 f_x_0 f_x_59 f_x_36 gx gqod gqsv gqsz gqgd gqow gqpl gqru gqpo gqpd gqps gqpk gqpt gqag gqby gqdb nfa_1 af_qod af_qsv af_qsz af_qgd af_qow af_qpl af_qru af_qpo af_qpd af_qps af_qpk af_qpt af_qag af_qby hl
