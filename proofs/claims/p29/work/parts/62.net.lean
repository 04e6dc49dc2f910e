
set_option maxHeartbeats 4000000 in
set_option maxRecDepth 100000 in
theorem t_X10_isOpen_2 (l : Launch) (dC : Nat → ClassId) (dI : Nat → Nat → Nat) (dA : Nat → ClassId) (L : List Nat) (h : hx_h) (sz : Nat) (x : Nat) (i1 : Int32) (hT : hx_T T_tb L h) (gx : hx_g L h x 10) (qod : Nat) (gqod : hx_g L h qod 83) (f_x_48 : h.2.2 x 48 = some qod) (qsv : Nat) (gqsv : hx_g L h qsv 85) (f_x_50 : h.2.2 x 50 = some qsv) (qsz : Nat) (gqsz : hx_g L h qsz 84) (f_x_49 : h.2.2 x 49 = some qsz) (qgd : Nat) (gqgd : hx_g L h qgd 91) (f_x_56 : h.2.2 x 56 = some qgd) (qow : Nat) (gqow : hx_g L h qow 90) (f_x_55 : h.2.2 x 55 = some qow) (qpl : Nat) (gqpl : hx_g L h qpl 79) (f_x_44 : h.2.2 x 44 = some qpl) (qru : Nat) (gqru : hx_g L h qru 50) (f_x_3 : h.2.2 x 3 = some qru) (qpo : Nat) (gqpo : hx_g L h qpo 93) (f_x_60 : h.2.2 x 60 = some qpo) (qpd : Nat) (gqpd : hx_g L h qpd 94) (f_x_61 : h.2.2 x 61 = some qpd) (qps : Nat) (gqps : hx_g L h qps 95) (f_x_62 : h.2.2 x 62 = some qps) (qpk : Nat) (gqpk : hx_g L h qpk 96) (f_x_63 : h.2.2 x 63 = some qpk) (qpt : Nat) (gqpt : hx_g L h qpt 97) (f_x_64 : h.2.2 x 64 = some qpt) (odf : Nat → Int32) (af_qod : h.2.1 qod = odf) (svf : Nat → Int32) (af_qsv : h.2.1 qsv = svf) (szf : Nat → Int32) (af_qsz : h.2.1 qsz = szf) (gdf : Nat → Int32) (af_qgd : h.2.1 qgd = gdf) (owf : Nat → Int32) (af_qow : h.2.1 qow = owf) (plf : Nat → Int32) (af_qpl : h.2.1 qpl = plf) (rf : Nat → Int32) (af_qru : h.2.1 qru = rf) (pof : Nat → Int32) (af_qpo : h.2.1 qpo = pof) (pdf : Nat → Int32) (af_qpd : h.2.1 qpd = pdf) (psm : Nat → Int32) (af_qps : h.2.1 qps = psm) (pkf : Nat → Int32) (af_qpk : h.2.1 qpk = pkf) (pst : Nat → Int32) (af_qpt : h.2.1 qpt = pst) (nw0 : Int32) (f_x_0 : h.2.1 x 0 = nw0) (pm0 : Int32) (f_x_59 : h.2.1 x 59 = pm0) (hi1 : 0 ≤ i1.toInt ∧ i1.toInt ≤ 99) : Met l yX10_isOpen (Cond.code yX10_isOpen cX10_isOpen 2 (some .boolean) :: hx_all) ({ frames := 2, cells := 0, slots := 0, locals := 50 }) (va_Pc [.ref x, .int i1] (hx_B T_tb (P_ty dA) (dC, dI) vwCl L h sz)) (va_Qi (fun (r : Int32) (u : List Nat × hx_h) => (∃ (rs1 : Int32), u.2.2.1 x 68 = rs1 ∧ ((r.toInt = 0 ∨ r.toInt = 1) ∧ (r.toInt = 1 ↔ 0 < rs1.toInt) ∧ rs1.toInt = hx_Rn odf svf szf gdf owf plf rf pof pdf psm pkf pst nw0.toInt pm0.toInt.toNat i1.toInt)) ∧ hx_T T_tb u.1 u.2 ∧ hx_S T_tb [(10, 67), (10, 68), (10, 69), (10, 70), (10, 71)] L h u.1 u.2) (hx_E T_tb (P_ty dA) (dC, dI) vwCl (hx_A L sz)) (hx_A L sz)) 0 0 (hx_A L sz) := by
  refine hx_met (lv := [(0, .ref x), (1, .int i1)]) (by decide +kernel) rfl (Nat.le_of_ble_eq_true rfl) rfl ?_
  intro p e s m below meth c hx hb hml hr hlk hts0 hown hin hsz hW ls hl
  have hts : ∀ w ∈ hx_all, w.before _ s = true := fun w hw => hts0 w (List.mem_cons_of_mem _ hw)
  have hown : s.vm.findClass "SmallCourtModel" = some m.cls := hown
  have hM : hx_S T_tb [(10, 67), (10, 68), (10, 69), (10, 70), (10, 71)] L h L h := hx_S.rf
  have b_nw0 := hT.gi gx tt_10 (k := 0) rfl
  rw [f_x_0] at b_nw0
  have b_nw0 : 0 ≤ nw0.toInt ∧ nw0.toInt ≤ 7999 := b_nw0
  have b_pm0 := hT.gi gx tt_10 (k := 59) rfl
  rw [f_x_59] at b_pm0
  have b_pm0 : 0 ≤ pm0.toInt ∧ pm0.toInt ≤ 600 := b_pm0
  refine lv_aload_n hx hb dX10_isOpen_0 rfl (lv_at hl 0 rfl) ?_
  refine lv_iload_n hx hb dX10_isOpen_1 rfl (lv_at hl 1 rfl) ?_
  refine lv_aload_n hx hb dX10_isOpen_2 rfl (lv_at hl 0 rfl) ?_
  refine hk_geti hx hb hts hC_10 hown hW (gx.S hM) tt_10 0 (by decide) rfl kw_1143 ⟨rfl, rfl, rfl⟩ ((hM.o gx trivial rfl).1.trans f_x_0) dX10_isOpen_3 ?_
  refine lv_aload_n hx hb dX10_isOpen_6 rfl (lv_at hl 0 rfl) ?_
  refine hk_geti hx hb hts hC_10 hown hW (gx.S hM) tt_10 0 (by decide) rfl kw_1143 ⟨rfl, rfl, rfl⟩ ((hM.o gx trivial rfl).1.trans f_x_0) dX10_isOpen_7 ?_
  refine hx_gov (hx_runV (As := [.int i1, .int nw0, .int nw0]) (rest := []) ⟨hx, hb, hml, hown, hts⟩ hW (gx.S hM) tt_10 (T := TX10) (N := 98) rfl (t_X10_looks_2 l dC dI dA L h s.heap.size x i1 nw0 nw0 hT (gx.S hM) qod (gqod.S hM) ((hM.o gx trivial rfl).2.trans f_x_48) qsv (gqsv.S hM) ((hM.o gx trivial rfl).2.trans f_x_50) qsz (gqsz.S hM) ((hM.o gx trivial rfl).2.trans f_x_49) qgd (gqgd.S hM) ((hM.o gx trivial rfl).2.trans f_x_56) qow (gqow.S hM) ((hM.o gx trivial rfl).2.trans f_x_55) qpl (gqpl.S hM) ((hM.o gx trivial rfl).2.trans f_x_44) qru (gqru.S hM) ((hM.o gx trivial rfl).2.trans f_x_3) qpo (gqpo.S hM) ((hM.o gx trivial rfl).2.trans f_x_60) qpd (gqpd.S hM) ((hM.o gx trivial rfl).2.trans f_x_61) qps (gqps.S hM) ((hM.o gx trivial rfl).2.trans f_x_62) qpk (gqpk.S hM) ((hM.o gx trivial rfl).2.trans f_x_63) qpt (gqpt.S hM) ((hM.o gx trivial rfl).2.trans f_x_64) odf (hx_afS hM gqod rfl af_qod) svf (hx_afS hM gqsv rfl af_qsv) szf (hx_afS hM gqsz rfl af_qsz) gdf (hx_afS hM gqgd rfl af_qgd) owf (hx_afS hM gqow rfl af_qow) plf (hx_afS hM gqpl rfl af_qpl) rf (hx_afS hM gqru rfl af_qru) pof (hx_afS hM gqpo rfl af_qpo) pdf (hx_afS hM gqpd rfl af_qpd) psm (hx_afS hM gqps rfl af_qps) pkf (hx_afS hM gqpk rfl af_qpk) pst (hx_afS hM gqpt rfl af_qpt) pm0 ((hM.o gx trivial rfl).1.trans f_x_59) ⟨by omega, by omega⟩) (cwV 3 hts (hx_gV kw_1641 kw_1638 kw_1640 kw_82 kw_103) rfl rfl rfl (by decide +kernel) ⟨Nat.le_of_ble_eq_true rfl, Nat.le_of_ble_eq_true rfl⟩) rfl hl.1 rfl (Nat.le_of_ble_eq_true rfl) dX10_isOpen_10 ⟨Nat.le_of_ble_eq_true rfl, Nat.le_of_ble_eq_true rfl⟩) hW (fun L_1 h_2 H locs p_4 hW => ?_)
  obtain ⟨⟨w_6, w_7, fw_6, fw_7, hr_5⟩, hT, hs⟩ := p_4
  replace hT : hx_T T_tb L_1 h_2 := hT
  replace hs : hx_S T_tb [(10, 67), (10, 68), (10, 69), (10, 70), (10, 71)] L h L_1 h_2 := hs
  replace hM := hM.tr (hs.mono (by decide))
  have fw_6 : h_2.2.1 x 68 = w_6 := fw_6
  have bw_6 := hT.gi (gx.S hM) tt_10 (k := 68) rfl
  rw [fw_6] at bw_6
  have bw_6 : 0 ≤ w_6.toInt ∧ w_6.toInt ≤ 610000 := bw_6
  have fw_7 : h_2.2.1 x 71 = w_7 := fw_7
  have bw_7 := hT.gi (gx.S hM) tt_10 (k := 71) rfl
  rw [fw_7] at bw_7
  have bw_7 : 0 ≤ w_7.toInt ∧ w_7.toInt ≤ 8 := bw_7
  have hrn : w_6.toInt = hx_Rn odf svf szf gdf owf plf rf pof pdf psm pkf pst nw0.toInt pm0.toInt.toNat i1.toInt := hr_5.1
  have hst := hr_5.2
  refine lv_aload_n hx hb dX10_isOpen_13 rfl (lv_at hl 0 rfl) ?_
  refine hk_geti hx hb hts hC_10 hown hW (gx.S hM) tt_10 71 (by decide) rfl kw_1214 ⟨rfl, rfl, rfl⟩ fw_7 dX10_isOpen_14 ?_
  refine lv_iconst (v := 4) hx hb dX10_isOpen_17 (by decide) ?_
  refine lv_bipush (v := 6) hx hb dX10_isOpen_18 (by decide) ?_
  have zc_6 : (6 : Int32).toInt = 6 := by decide
  have zc_4 : (4 : Int32).toInt = 4 := by decide
  refine hx_goi (hx_runS (As := [.int w_7, .int (4 : Int32), .int (6 : Int32)]) (rest := []) ⟨hx, hb, hml, hown, hts⟩ hW (t_X10_in l dC dI dA L_1 h_2 H.size w_7 (4 : Int32) (6 : Int32) hT) (va_cwS 3 hts (hx_gS kw_1445 kw_1443 kw_1444 kw_103) rfl rfl rfl (by decide +kernel) ⟨Nat.le_of_ble_eq_true rfl, Nat.le_of_ble_eq_true rfl⟩) rfl hl.1 rfl (Nat.le_of_ble_eq_true rfl) dX10_isOpen_20 ⟨Nat.le_of_ble_eq_true rfl, Nat.le_of_ble_eq_true rfl⟩) hW (fun r_10 L_8 h_9 H locs p_11 hW => ?_)
  obtain ⟨hr_12, hT, hs⟩ := p_11
  replace hT : hx_T T_tb L_8 h_9 := hT
  replace hs : hx_S T_tb [] L_1 h_2 L_8 h_9 := hs
  replace fw_6 := (hs.o (gx.S hM) trivial rfl).1.trans fw_6
  replace fw_7 := (hs.o (gx.S hM) trivial rfl).1.trans fw_7
  replace hM := hM.tr (hs.mono (by decide))
  exact hx_retz hx hb hr (hx_nar01 (by omega)) hlk hW ⟨⟨w_6, fw_6, ⟨by omega, by have q := hr_5.2; omega, hr_5.1⟩⟩, hT, hM⟩ dX10_isOpen_23


set_option maxHeartbeats 4000000 in
set_option maxRecDepth 100000 in
theorem t_X10_pays_2 (l : Launch) (dC : Nat → ClassId) (dI : Nat → Nat → Nat) (dA : Nat → ClassId) (L : List Nat) (h : hx_h) (sz : Nat) (x : Nat) (i1 : Int32) (i2 : Int32) (i3 : Int32) (hT : hx_T T_tb L h) (gx : hx_g L h x 10) (qpo : Nat) (gqpo : hx_g L h qpo 93) (f_x_60 : h.2.2 x 60 = some qpo) (qpd : Nat) (gqpd : hx_g L h qpd 94) (f_x_61 : h.2.2 x 61 = some qpd) (qps : Nat) (gqps : hx_g L h qps 95) (f_x_62 : h.2.2 x 62 = some qps) (qpk : Nat) (gqpk : hx_g L h qpk 96) (f_x_63 : h.2.2 x 63 = some qpk) (qpt : Nat) (gqpt : hx_g L h qpt 97) (f_x_64 : h.2.2 x 64 = some qpt) (pof : Nat → Int32) (af_qpo : h.2.1 qpo = pof) (pdf : Nat → Int32) (af_qpd : h.2.1 qpd = pdf) (psm : Nat → Int32) (af_qps : h.2.1 qps = psm) (pkf : Nat → Int32) (af_qpk : h.2.1 qpk = pkf) (pst : Nat → Int32) (af_qpt : h.2.1 qpt = pst) (nw0 : Int32) (f_x_0 : h.2.1 x 0 = nw0) (pm0 : Int32) (f_x_59 : h.2.1 x 59 = pm0) (hp0 : pm0.toInt < 600) (hi3 : 0 ≤ i3.toInt ∧ i3.toInt ≤ 610000) : Met l yX10_pays (Cond.code yX10_pays cX10_pays 4 (some .int) :: hx_all) ({ frames := 0, cells := 0, slots := 0, locals := 0 }) (va_Pc [.ref x, .int i1, .int i2, .int i3] (hx_B T_tb (P_ty dA) (dC, dI) vwCl L h sz)) (va_Qi (fun (r : Int32) (u : List Nat × hx_h) => (∃ (p1 : Int32) (pof1 : Nat → Int32) (pdf1 : Nat → Int32) (psm1 : Nat → Int32) (pkf1 : Nat → Int32) (pst1 : Nat → Int32), u.2.2.1 x 59 = p1 ∧ u.2.2.1 qpo = pof1 ∧ u.2.2.1 qpd = pdf1 ∧ u.2.2.1 qps = psm1 ∧ u.2.2.1 qpk = pkf1 ∧ u.2.2.1 qpt = pst1 ∧ (p1.toInt = pm0.toInt + 1 ∧ pof1 = hx_up pof pm0.toNatClampNeg i1 ∧ pdf1 = hx_up pdf pm0.toNatClampNeg i2 ∧ psm1 = hx_up psm pm0.toNatClampNeg i3 ∧ pkf1 = hx_up pkf pm0.toNatClampNeg nw0 ∧ ∃ v : Int32, pst1 = hx_up pst pm0.toNatClampNeg v)) ∧ hx_T T_tb u.1 u.2 ∧ hx_S T_tb [(10, 59), (93, 0), (94, 0), (95, 0), (96, 0), (97, 0)] L h u.1 u.2) (hx_E T_tb (P_ty dA) (dC, dI) vwCl (hx_A L sz)) (hx_A L sz)) 0 0 (hx_A L sz) := by
  refine hx_met (lv := [(0, .ref x), (1, .int i1), (2, .int i2), (3, .int i3)]) (by decide +kernel) rfl (Nat.le_of_ble_eq_true rfl) rfl ?_
  intro p e s m below meth c hx hb hml hr hlk hts0 hown hin hsz hW ls hl
  have hts : ∀ w ∈ hx_all, w.before _ s = true := fun w hw => hts0 w (List.mem_cons_of_mem _ hw)
  have hown : s.vm.findClass "SmallCourtModel" = some m.cls := hown
  have hM : hx_S T_tb [(10, 59), (93, 0), (94, 0), (95, 0), (96, 0), (97, 0)] L h L h := hx_S.rf
  have b_nw0 := hT.gi gx tt_10 (k := 0) rfl
  rw [f_x_0] at b_nw0
  have b_nw0 : 0 ≤ nw0.toInt ∧ nw0.toInt ≤ 7999 := b_nw0
  have b_pm0 := hT.gi gx tt_10 (k := 59) rfl
  rw [f_x_59] at b_pm0
  have b_pm0 : 0 ≤ pm0.toInt ∧ pm0.toInt ≤ 600 := b_pm0
  refine lv_aload_n hx hb dX10_pays_0 rfl (lv_at hl 0 rfl) ?_
  refine hk_getr hx hb hts hC_10 hown hW (gx.S hM) tt_10 60 (by decide) rfl kw_1203 ⟨rfl, rfl, rfl⟩ ((hM.o gx trivial rfl).2.trans f_x_60) dX10_pays_1 ?_
  refine lv_aload_n hx hb dX10_pays_4 rfl (lv_at hl 0 rfl) ?_
  refine hk_geti hx hb hts hC_10 hown hW (gx.S hM) tt_10 59 (by decide) rfl kw_1202 ⟨rfl, rfl, rfl⟩ f_x_59 dX10_pays_5 ?_
  refine lv_iload_n hx hb dX10_pays_8 rfl (lv_at hl 1 rfl) ?_
  have af_qpoO := af_qpo
  refine hx_iast hx hb hW hT (hx_S.rf (M := [(93, 0)])) (gqpo.S hM) tt_93 rfl ⟨by omega, by omega⟩ rfl (i32_r _) (List.mem_singleton.mpr rfl) dX10_pays_9 (fun H locs h_1 eh_1 hW hT hs => ?_)
  replace f_x_59 := (hs.o (gx.S hM) trivial rfl).1.trans f_x_59
  replace af_qpd : h_1.2.1 qpd = pdf := (funext fun j => (hs.a (gqpd.S hM) rfl j).1).trans af_qpd
  replace af_qps : h_1.2.1 qps = psm := (funext fun j => (hs.a (gqps.S hM) rfl j).1).trans af_qps
  replace af_qpk : h_1.2.1 qpk = pkf := (funext fun j => (hs.a (gqpk.S hM) rfl j).1).trans af_qpk
  replace af_qpt : h_1.2.1 qpt = pst := (funext fun j => (hs.a (gqpt.S hM) rfl j).1).trans af_qpt
  replace hM := hM.tr (hs.mono (by decide))
  obtain ⟨fa_2, dfa_2⟩ : ∃ g : Nat → Int32, g = hx_up pof pm0.toNatClampNeg i1 := ⟨_, rfl⟩
  have nfa_2 : h_1.2.1 qpo = fa_2 := by rw [eh_1, dfa_2, ← af_qpoO]; exact hx_pi_fun _ _ _ _
  refine lv_aload_n hx hb dX10_pays_10 rfl (lv_at hl 0 rfl) ?_
  refine hk_getr hx hb hts hC_10 hown hW (gx.S hM) tt_10 61 (by decide) rfl kw_1204 ⟨rfl, rfl, rfl⟩ ((hM.o gx trivial rfl).2.trans f_x_61) dX10_pays_11 ?_
  refine lv_aload_n hx hb dX10_pays_14 rfl (lv_at hl 0 rfl) ?_
  refine hk_geti hx hb hts hC_10 hown hW (gx.S hM) tt_10 59 (by decide) rfl kw_1202 ⟨rfl, rfl, rfl⟩ f_x_59 dX10_pays_15 ?_
  refine lv_iload_n hx hb dX10_pays_18 rfl (lv_at hl 2 rfl) ?_
  have af_qpdO := af_qpd
  refine hx_iast hx hb hW hT (hx_S.rf (M := [(94, 0)])) (gqpd.S hM) tt_94 rfl ⟨by omega, by omega⟩ rfl (i32_r _) (List.mem_singleton.mpr rfl) dX10_pays_19 (fun H locs h_3 eh_3 hW hT hs => ?_)
  replace f_x_59 := (hs.o (gx.S hM) trivial rfl).1.trans f_x_59
  replace af_qps : h_3.2.1 qps = psm := (funext fun j => (hs.a (gqps.S hM) rfl j).1).trans af_qps
  replace af_qpk : h_3.2.1 qpk = pkf := (funext fun j => (hs.a (gqpk.S hM) rfl j).1).trans af_qpk
  replace af_qpt : h_3.2.1 qpt = pst := (funext fun j => (hs.a (gqpt.S hM) rfl j).1).trans af_qpt
  replace nfa_2 : h_3.2.1 qpo = fa_2 := (funext fun j => (hs.a (gqpo.S hM) rfl j).1).trans nfa_2
  replace hM := hM.tr (hs.mono (by decide))
  obtain ⟨fa_4, dfa_4⟩ : ∃ g : Nat → Int32, g = hx_up pdf pm0.toNatClampNeg i2 := ⟨_, rfl⟩
  have nfa_4 : h_3.2.1 qpd = fa_4 := by rw [eh_3, dfa_4, ← af_qpdO]; exact hx_pi_fun _ _ _ _
  refine lv_aload_n hx hb dX10_pays_20 rfl (lv_at hl 0 rfl) ?_
  refine hk_getr hx hb hts hC_10 hown hW (gx.S hM) tt_10 62 (by decide) rfl kw_1205 ⟨rfl, rfl, rfl⟩ ((hM.o gx trivial rfl).2.trans f_x_62) dX10_pays_21 ?_
  refine lv_aload_n hx hb dX10_pays_24 rfl (lv_at hl 0 rfl) ?_
  refine hk_geti hx hb hts hC_10 hown hW (gx.S hM) tt_10 59 (by decide) rfl kw_1202 ⟨rfl, rfl, rfl⟩ f_x_59 dX10_pays_25 ?_
  refine lv_iload_n hx hb dX10_pays_28 rfl (lv_at hl 3 rfl) ?_
  have af_qpsO := af_qps
  refine hx_iast hx hb hW hT (hx_S.rf (M := [(95, 0)])) (gqps.S hM) tt_95 rfl ⟨by omega, by omega⟩ rfl ⟨by omega, by omega⟩ (List.mem_singleton.mpr rfl) dX10_pays_29 (fun H locs h_5 eh_5 hW hT hs => ?_)
  replace f_x_59 := (hs.o (gx.S hM) trivial rfl).1.trans f_x_59
  replace af_qpk : h_5.2.1 qpk = pkf := (funext fun j => (hs.a (gqpk.S hM) rfl j).1).trans af_qpk
  replace af_qpt : h_5.2.1 qpt = pst := (funext fun j => (hs.a (gqpt.S hM) rfl j).1).trans af_qpt
  replace nfa_2 : h_5.2.1 qpo = fa_2 := (funext fun j => (hs.a (gqpo.S hM) rfl j).1).trans nfa_2
  replace nfa_4 : h_5.2.1 qpd = fa_4 := (funext fun j => (hs.a (gqpd.S hM) rfl j).1).trans nfa_4
  replace hM := hM.tr (hs.mono (by decide))
  obtain ⟨fa_6, dfa_6⟩ : ∃ g : Nat → Int32, g = hx_up psm pm0.toNatClampNeg i3 := ⟨_, rfl⟩
  have nfa_6 : h_5.2.1 qps = fa_6 := by rw [eh_5, dfa_6, ← af_qpsO]; exact hx_pi_fun _ _ _ _
  refine lv_aload_n hx hb dX10_pays_30 rfl (lv_at hl 0 rfl) ?_
  refine hk_getr hx hb hts hC_10 hown hW (gx.S hM) tt_10 63 (by decide) rfl kw_1206 ⟨rfl, rfl, rfl⟩ ((hM.o gx trivial rfl).2.trans f_x_63) dX10_pays_31 ?_
  refine lv_aload_n hx hb dX10_pays_34 rfl (lv_at hl 0 rfl) ?_
  refine hk_geti hx hb hts hC_10 hown hW (gx.S hM) tt_10 59 (by decide) rfl kw_1202 ⟨rfl, rfl, rfl⟩ f_x_59 dX10_pays_35 ?_
  refine lv_aload_n hx hb dX10_pays_38 rfl (lv_at hl 0 rfl) ?_
  refine hk_geti hx hb hts hC_10 hown hW (gx.S hM) tt_10 0 (by decide) rfl kw_1143 ⟨rfl, rfl, rfl⟩ ((hM.o gx trivial rfl).1.trans f_x_0) dX10_pays_39 ?_
  have af_qpkO := af_qpk
  refine hx_iast hx hb hW hT (hx_S.rf (M := [(96, 0)])) (gqpk.S hM) tt_96 rfl ⟨by omega, by omega⟩ rfl (i32_r _) (List.mem_singleton.mpr rfl) dX10_pays_42 (fun H locs h_7 eh_7 hW hT hs => ?_)
  replace f_x_59 := (hs.o (gx.S hM) trivial rfl).1.trans f_x_59
  replace af_qpt : h_7.2.1 qpt = pst := (funext fun j => (hs.a (gqpt.S hM) rfl j).1).trans af_qpt
  replace nfa_2 : h_7.2.1 qpo = fa_2 := (funext fun j => (hs.a (gqpo.S hM) rfl j).1).trans nfa_2
  replace nfa_4 : h_7.2.1 qpd = fa_4 := (funext fun j => (hs.a (gqpd.S hM) rfl j).1).trans nfa_4
  replace nfa_6 : h_7.2.1 qps = fa_6 := (funext fun j => (hs.a (gqps.S hM) rfl j).1).trans nfa_6
  replace hM := hM.tr (hs.mono (by decide))
  obtain ⟨fa_8, dfa_8⟩ : ∃ g : Nat → Int32, g = hx_up pkf pm0.toNatClampNeg nw0 := ⟨_, rfl⟩
  have nfa_8 : h_7.2.1 qpk = fa_8 := by rw [eh_7, dfa_8, ← af_qpkO]; exact hx_pi_fun _ _ _ _
  refine lv_aload_n hx hb dX10_pays_43 rfl (lv_at hl 0 rfl) ?_
  refine hk_getr hx hb hts hC_10 hown hW (gx.S hM) tt_10 64 (by decide) rfl kw_1207 ⟨rfl, rfl, rfl⟩ ((hM.o gx trivial rfl).2.trans f_x_64) dX10_pays_44 ?_
  refine lv_aload_n hx hb dX10_pays_47 rfl (lv_at hl 0 rfl) ?_
  refine hk_geti hx hb hts hC_10 hown hW (gx.S hM) tt_10 59 (by decide) rfl kw_1202 ⟨rfl, rfl, rfl⟩ f_x_59 dX10_pays_48 ?_
  refine lv_iconst (v := -1) hx hb dX10_pays_51 (by decide) ?_
  have af_qptO := af_qpt
  refine hx_iast hx hb hW hT (hx_S.rf (M := [(97, 0)])) (gqpt.S hM) tt_97 rfl ⟨by omega, by omega⟩ rfl (by decide) (List.mem_singleton.mpr rfl) dX10_pays_52 (fun H locs h_9 eh_9 hW hT hs => ?_)
  replace f_x_59 := (hs.o (gx.S hM) trivial rfl).1.trans f_x_59
  replace nfa_2 : h_9.2.1 qpo = fa_2 := (funext fun j => (hs.a (gqpo.S hM) rfl j).1).trans nfa_2
  replace nfa_4 : h_9.2.1 qpd = fa_4 := (funext fun j => (hs.a (gqpd.S hM) rfl j).1).trans nfa_4
  replace nfa_6 : h_9.2.1 qps = fa_6 := (funext fun j => (hs.a (gqps.S hM) rfl j).1).trans nfa_6
  replace nfa_8 : h_9.2.1 qpk = fa_8 := (funext fun j => (hs.a (gqpk.S hM) rfl j).1).trans nfa_8
  replace hM := hM.tr (hs.mono (by decide))
  obtain ⟨fa_10, dfa_10⟩ : ∃ g : Nat → Int32, g = hx_up pst pm0.toNatClampNeg (-1 : Int32) := ⟨_, rfl⟩
  have nfa_10 : h_9.2.1 qpt = fa_10 := by rw [eh_9, dfa_10, ← af_qptO]; exact hx_pi_fun _ _ _ _
  refine lv_aload_n hx hb dX10_pays_53 rfl (lv_at hl 0 rfl) ?_
  refine lv_dup hx hb dX10_pays_54 rfl ?_
  refine hk_geti hx hb hts hC_10 hown hW (gx.S hM) tt_10 59 (by decide) rfl kw_1202 ⟨rfl, rfl, rfl⟩ f_x_59 dX10_pays_55 ?_
  refine lv_iconst (v := 1) hx hb dX10_pays_58 (by decide) ?_
  refine lv_iadd hx hb dX10_pays_59 ?_
  have rg_11 := i32_r pm0
  refine lv_topi (fun x_12 ex_12 => ?_)
  have zx_12 : x_12.toInt = pm0.toInt + 1 := by rw [ex_12]; exact i32_add rfl (by decide) (by omega) (by omega)
  refine hx_puti hx hb hts hC_10 hown hW hT (hx_S.rf (M := [(10, 59)])) (gx.S hM) tt_10 59 (by decide) rfl kw_1202 ⟨rfl, rfl, rfl⟩ rfl (x := x_12) ⟨by omega, by omega⟩ rfl rfl rfl (List.mem_singleton.mpr rfl) dX10_pays_60 (fun H locs h_13 eh_13 hW hT hs => ?_)
  replace nfa_2 : h_13.2.1 qpo = fa_2 := (funext fun j => (hs.a (gqpo.S hM) rfl j).1).trans nfa_2
  replace nfa_4 : h_13.2.1 qpd = fa_4 := (funext fun j => (hs.a (gqpd.S hM) rfl j).1).trans nfa_4
  replace nfa_6 : h_13.2.1 qps = fa_6 := (funext fun j => (hs.a (gqps.S hM) rfl j).1).trans nfa_6
  replace nfa_8 : h_13.2.1 qpk = fa_8 := (funext fun j => (hs.a (gqpk.S hM) rfl j).1).trans nfa_8
  replace nfa_10 : h_13.2.1 qpt = fa_10 := (funext fun j => (hs.a (gqpt.S hM) rfl j).1).trans nfa_10
  replace hM := hM.tr (hs.mono (by decide))
  have f_14 : h_13.2.1 x 59 = x_12 := by rw [eh_13]; exact hx_pi_at _ _ _ _
  refine lv_aload_n hx hb dX10_pays_63 rfl (lv_at hl 0 rfl) ?_
  refine hk_geti hx hb hts hC_10 hown hW (gx.S hM) tt_10 59 (by decide) rfl kw_1202 ⟨rfl, rfl, rfl⟩ f_14 dX10_pays_64 ?_
  refine lv_iconst (v := 1) hx hb dX10_pays_67 (by decide) ?_
  refine lv_isub hx hb dX10_pays_68 ?_
  have rg_15 := i32_r x_12
  refine lv_topi (fun x_16 ex_16 => ?_)
  have zx_16 : x_16.toInt = x_12.toInt - 1 := by rw [ex_16]; exact i32_sub rfl (by decide) (by omega) (by omega)
  exact hx_reti hx hb hr hlk hW ⟨⟨x_12, fa_2, fa_4, fa_6, fa_8, fa_10, f_14, nfa_2, nfa_4, nfa_6, nfa_8, nfa_10, ⟨by omega, dfa_2, dfa_4, dfa_6, dfa_8, _, dfa_10⟩⟩, hT, hM⟩ dX10_pays_69


set_option maxHeartbeats 4000000 in
set_option maxRecDepth 100000 in
theorem t_X10_lesser_3 (l : Launch) (dC : Nat → ClassId) (dI : Nat → Nat → Nat) (dA : Nat → ClassId) (L : List Nat) (h : hx_h) (sz : Nat) (i1 : Int32) (i2 : Int32) (hT : hx_T T_tb L h)   : Met l yX10_lesser (Cond.code yX10_lesser cX10_lesser 2 (some .int) :: hx_all) ({ frames := 0, cells := 0, slots := 0, locals := 0 }) (va_Pc [.int i1, .int i2] (hx_B T_tb (P_ty dA) (dC, dI) vwCl L h sz)) (va_Qi (fun (r : Int32) (u : List Nat × hx_h) => ((r = i1 ∧ i1.toInt < i2.toInt) ∨ (r = i2 ∧ i2.toInt ≤ i1.toInt)) ∧ hx_T T_tb u.1 u.2 ∧ hx_S T_tb [] L h u.1 u.2) (hx_E T_tb (P_ty dA) (dC, dI) vwCl (hx_A L sz)) (hx_A L sz)) 0 0 (hx_A L sz) := by
  refine hx_met (lv := [(0, .int i1), (1, .int i2)]) (by decide +kernel) rfl (Nat.le_of_ble_eq_true rfl) rfl ?_
  intro p e s m below meth c hx hb hml hr hlk hts0 hown hin hsz hW ls hl
  have hts : ∀ w ∈ hx_all, w.before _ s = true := fun w hw => hts0 w (List.mem_cons_of_mem _ hw)
  have hown : s.vm.findClass "SmallCourtModel" = some m.cls := hown
  have hM : hx_S T_tb [] L h L h := hx_S.rf
  refine lv_iload_n hx hb dX10_lesser_0 rfl (lv_at hl 0 rfl) ?_
  refine lv_iload_n hx hb dX10_lesser_1 rfl (lv_at hl 1 rfl) ?_
  refine hb_icmp_ge (zx := i1.toInt) (zy := i2.toInt) (tgt := 9) hx hb rfl rfl dX10_lesser_2 (by decide) (fun c_1 => ?_) (fun c_1 => ?_)
  · skip
    refine lv_iload_n hx hb dX10_lesser_9 rfl (lv_at hl 1 rfl) ?_
    exact hx_reti hx hb hr hlk hW ⟨(by first | exact Or.inl ⟨rfl, by omega⟩ | exact Or.inr ⟨rfl, by omega⟩), hT, hM⟩ dX10_lesser_10
  · skip
    refine lv_iload_n hx hb dX10_lesser_5 rfl (lv_at hl 0 rfl) ?_
    refine lv_goto (tgt := 10) hx hb dX10_lesser_6 (by decide) ?_
    exact hx_reti hx hb hr hlk hW ⟨(by first | exact Or.inl ⟨rfl, by omega⟩ | exact Or.inr ⟨rfl, by omega⟩), hT, hM⟩ dX10_lesser_10
