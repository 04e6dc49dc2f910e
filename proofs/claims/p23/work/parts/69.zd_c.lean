
set_option maxHeartbeats 4000000 in
set_option maxRecDepth 100000 in
theorem t_X9_plan_v (l : Launch) (dC : Nat → ClassId) (dI : Nat → Nat → Nat) (dA : Nat → ClassId) (L : List Nat) (h : hx_h) (sz : Nat) (b0 : hx_z) (x : Nat) (i1 : Int32) (i2 : Int32) (hT : hx_T T_tb L h) (gx : hx_g L h x 9) (qp : Nat) (gqp : hx_g L h qp 44) (f_x_7 : h.2.2 x 7 = some qp) (qc : Nat) (gqc : hx_g L h qc 45) (f_x_10 : h.2.2 x 10 = some qc) (qy : Nat) (gqy : hx_g L h qy 3) (f_x_14 : h.2.2 x 14 = some qy) (pqo : Nat) (gpqo : hx_g L h pqo 23) (f_qy_2 : h.2.2 qy 2 = some pqo) (pqd : Nat) (gpqd : hx_g L h pqd 24) (f_qy_3 : h.2.2 qy 3 = some pqd) (pqs : Nat) (gpqs : hx_g L h pqs 26) (f_qy_5 : h.2.2 qy 5 = some pqs) (pqk : Nat) (gpqk : hx_g L h pqk 25) (f_qy_4 : h.2.2 qy 4 = some pqk) (pqt : Nat) (gpqt : hx_g L h pqt 22) (f_qy_1 : h.2.2 qy 1 = some pqt) (qa : Nat) (gqa : hx_g L h qa 43) (f_x_5 : h.2.2 x 5 = some qa) (w : Nat) (gw : hx_g L h w 0) (f_x_4 : h.2.2 x 4 = some w) (qpg : Nat) (gqpg : hx_g L h qpg 5) (f_x_17 : h.2.2 x 17 = some qpg) (qle : Nat) (gqle : hx_g L h qle 32) (f_qpg_7 : h.2.2 qpg 7 = some qle) (qre : Nat) (gqre : hx_g L h qre 31) (f_qpg_6 : h.2.2 qpg 6 = some qre) (qtd : Nat) (gqtd : hx_g L h qtd 33) (f_qpg_8 : h.2.2 qpg 8 = some qtd) (qwl : Nat) (gqwl : hx_g L h qwl 28) (f_qpg_3 : h.2.2 qpg 3 = some qwl) (qop : Nat) (gqop : hx_g L h qop 30) (f_qpg_5 : h.2.2 qpg 5 = some qop) (qws : Nat) (gqws : hx_g L h qws 29) (f_qpg_4 : h.2.2 qpg 4 = some qws) (qcl : Nat) (gqcl : hx_g L h qcl 27) (f_qpg_2 : h.2.2 qpg 2 = some qcl) (pof : Nat → Int32) (af_pqo : h.2.1 pqo = pof) (pdf : Nat → Int32) (af_pqd : h.2.1 pqd = pdf) (psm : Nat → Int32) (af_pqs : h.2.1 pqs = psm) (pkf : Nat → Int32) (af_pqk : h.2.1 pqk = pkf) (pst : Nat → Int32) (af_pqt : h.2.1 pqt = pst) (clf : Nat → Int32) (af_qcl : h.2.1 qcl = clf) (wlf : Nat → Int32) (af_qwl : h.2.1 qwl = wlf) (wsf : Nat → Int32) (af_qws : h.2.1 qws = wsf) (cn0 : Int32) (f_x_11 : h.2.1 x 11 = cn0) (nw0 : Int32) (f_x_2 : h.2.1 x 2 = nw0) (n0 : Int32) (f_qy_0 : h.2.1 qy 0 = n0) (pn0 : Int32) (f_x_8 : h.2.1 x 8 = pn0) (a0 : Int32) (f_x_6 : h.2.1 x 6 = a0) (td0 : Int32) (f_qpg_1 : h.2.1 qpg 1 = td0) (odf : Nat → Int32) (cl_qc_13 : hx_col 100 h qc 13 = odf) (wkf : Nat → Int32) (cl_qc_14 : hx_col 100 h qc 14 = wkf) (owf : Nat → Int32) (cl_qc_15 : hx_col 100 h qc 15 = owf) (szf : Nat → Int32) (cl_qc_16 : hx_col 100 h qc 16 = szf) (gdf : Nat → Int32) (cl_qc_17 : hx_col 100 h qc 17 = gdf) (svf : Nat → Int32) (cl_qc_18 : hx_col 100 h qc 18 = svf) (eaf : Nat → Int32) (cl_qp_3 : hx_col 40 h qp 3 = eaf) (hdf : Nat → Int32) (cl_qp_4 : hx_col 40 h qp 4 = hdf) (nu_qp : hx_num 40 h qp 0 (pn0.toInt)) (nu_qc : hx_num 100 h qc 0 (cn0.toInt)) (agf plf : Nat → Int32) (A : Nat → hv_act) (hDF : hw_DF h qc qp 2 agf cn0.toInt) (hAC : hv_AC h qc plf cn0.toInt A) (hAB : ∀ j : Nat, (∀ k, 0 ≤ (A j).2.1 k ∧ (A j).2.1 k ≤ 9999) ∧ hv_OK (A j).2.2) (hCB : hz_CB odf wkf owf szf gdf svf) (hps : ∀ j, j < 600 → 0 ≤ (psm j).toInt ∧ (psm j).toInt ≤ 610000) (hRA : hv_RA h qa w a0.toInt A) (hee : ∀ c : Nat, c < 40 → (0 ≤ (eaf c).toInt ∧ (eaf c).toInt ≤ 9999) ∧ (0 ≤ (hdf c).toInt ∧ (hdf c).toInt ≤ 20)) (hwk9 : ∀ c : Nat, c < cn0.toInt.toNat → 1 ≤ (A (plf c).toInt.toNat).2.1 2) (hrn : ∀ c : Nat, c < cn0.toInt.toNat → 0 ≤ (hz_Rn odf szf gdf owf svf (hz_rc A plf) pof pdf psm pkf pst nw0.toInt n0.toInt.toNat) c ∧ (hz_Rn odf szf gdf owf svf (hz_rc A plf) pof pdf psm pkf pst nw0.toInt n0.toInt.toNat) c ≤ 609999) (pf_x_8 : ∀ j : Nat, (j : Int) < (h.2.1 x 8).toInt → h.2.2 qp j ≠ none) (pf_x_11 : ∀ j : Nat, (j : Int) < (h.2.1 x 11).toInt → h.2.2 qc j ≠ none) (pf_x_6 : ∀ j : Nat, (j : Int) < (h.2.1 x 6).toInt → h.2.2 qa j ≠ none) : Met l yX9_plan (Cond.code yX9_plan cX9_plan 6 (some .int) :: hx_all) ({ frames := 8, cells := 0, slots := 0, locals := 223 }) (va_Pc [.ref x, .int i1, .int i2] (hx_BX T_tb (P_ty dA) (dC, dI) vwCl L h sz b0)) (va_Qi (fun (r : Int32) (u : List Nat × hx_h) => (∃ (td1 : Int32) (clf1 : Nat → Int32) (wlf1 : Nat → Int32) (wsf1 : Nat → Int32), u.2.2.1 qpg 1 = td1 ∧ u.2.2.1 qcl = clf1 ∧ u.2.2.1 qwl = wlf1 ∧ u.2.2.1 qws = wsf1 ∧ (hp_PS ((0 ≤ i1.toInt ∧ i1.toInt < pn0.toInt) ∧ 1 ≤ i2.toInt ∧ i2.toInt ≤ 99) (hp_ol agf (hz_Rn odf szf gdf owf svf (hz_rc A plf) pof pdf psm pkf pst nw0.toInt n0.toInt.toNat) i1.toInt cn0.toInt.toNat).length (hp_ge (hp_ol agf (hz_Rn odf szf gdf owf svf (hz_rc A plf) pof pdf psm pkf pst nw0.toInt n0.toInt.toNat) i1.toInt cn0.toInt.toNat)) (fun c9 => hz_mi ((fun c9 => (A (plf c9).toInt.toNat).2.1 2) (hp_ge (hp_ol agf (hz_Rn odf szf gdf owf svf (hz_rc A plf) pof pdf psm pkf pst nw0.toInt n0.toInt.toNat) i1.toInt cn0.toInt.toNat) c9)) ((hz_Rn odf szf gdf owf svf (hz_rc A plf) pof pdf psm pkf pst nw0.toInt n0.toInt.toNat) (hp_ge (hp_ol agf (hz_Rn odf szf gdf owf svf (hz_rc A plf) pof pdf psm pkf pst nw0.toInt n0.toInt.toNat) i1.toInt cn0.toInt.toNat) c9))) (fun c9 => (hz_Rn odf szf gdf owf svf (hz_rc A plf) pof pdf psm pkf pst nw0.toInt n0.toInt.toNat) (hp_ge (hp_ol agf (hz_Rn odf szf gdf owf svf (hz_rc A plf) pof pdf psm pkf pst nw0.toInt n0.toInt.toNat) i1.toInt cn0.toInt.toNat) c9)) i2.toInt ((eaf i1.toInt.toNat).toInt - (A (hv_IF A nw0.toInt a0.toInt.toNat)).2.1 3 * (hdf i1.toInt.toNat).toInt) r.toInt td0.toInt td1.toInt clf clf1 wlf wlf1 wsf wsf1)) ∧ hx_T T_tb u.1 u.2 ∧ hx_S T_tb [(5, 0), (5, 1), (5, 9), (5, 10), (5, 11), (5, 12), (27, 0), (28, 0), (29, 0), (30, 0), (31, 0), (32, 0), (33, 0)] L h u.1 u.2) (hx_E T_tb (P_ty dA) (dC, dI) vwCl (hx_A L sz)) (hx_A L sz)) 0 0 (hx_A L sz) := by
  refine hx_metX (lv := [(0, .ref x), (1, .int i1), (2, .int i2)]) (by decide +kernel) rfl (Nat.le_of_ble_eq_true rfl) rfl ?_
  intro p e s m below meth c hx hb hml hr hlk hts0 hown hin hsz hW hZ ls hl
  have hts : ∀ w ∈ hx_all, w.before _ s = true := fun w hw => hts0 w (List.mem_cons_of_mem _ hw)
  have hown : s.vm.findClass "SmallCourt" = some m.cls := hown
  have hM : hx_S T_tb [(5, 0), (5, 1), (5, 9), (5, 10), (5, 11), (5, 12), (27, 0), (28, 0), (29, 0), (30, 0), (31, 0), (32, 0), (33, 0)] L h L h := hx_S.rf
  have b_cn0 := hT.gi gx tt_9 (k := 11) rfl
  rw [f_x_11] at b_cn0
  have b_cn0 : 0 ≤ cn0.toInt ∧ cn0.toInt ≤ 100 := b_cn0
  have b_nw0 := hT.gi gx tt_9 (k := 2) rfl
  rw [f_x_2] at b_nw0
  have b_nw0 : 0 ≤ nw0.toInt ∧ nw0.toInt ≤ 7999 := b_nw0
  have b_n0 := hT.gi gqy tt_3 (k := 0) rfl
  rw [f_qy_0] at b_n0
  have b_n0 : 0 ≤ n0.toInt ∧ n0.toInt ≤ 600 := b_n0
  have b_pn0 := hT.gi gx tt_9 (k := 8) rfl
  rw [f_x_8] at b_pn0
  have b_pn0 : 0 ≤ pn0.toInt ∧ pn0.toInt ≤ 40 := b_pn0
  have b_a0 := hT.gi gx tt_9 (k := 6) rfl
  rw [f_x_6] at b_a0
  have b_a0 : 0 ≤ a0.toInt ∧ a0.toInt ≤ 8 := b_a0
  have b_td0 := hT.gi gqpg tt_5 (k := 1) rfl
  rw [f_qpg_1] at b_td0
  have b_td0 : 0 ≤ td0.toInt ∧ td0.toInt ≤ 4 := b_td0
  refine lv_aload_n hx hb dX9_plan_0 rfl (lv_at hl 0 rfl) ?_
  refine lv_iload_n hx hb dX9_plan_1 rfl (lv_at hl 1 rfl) ?_
  have hTo := hT
  refine hx_goq (hx_runV (As := [.int i1]) (rest := []) ⟨hx, hb, hml, hown, hts⟩ hW gx tt_9 (T := TX9) (N := 20) rfl (t_X9_personAt_2 l dC dI dA L h s.heap.size x i1 hT gx pn0 f_x_8 qp gqp f_x_7 pf_x_8) (cwV 1 hts (hx_gV kw_659 kw_656 kw_658 kw_20 kw_94) rfl rfl rfl (by decide +kernel) ⟨Nat.le_of_ble_eq_true rfl, Nat.le_of_ble_eq_true rfl⟩) rfl hl.1 rfl (Nat.le_of_ble_eq_true rfl) dX9_plan_2 ⟨Nat.le_of_ble_eq_true rfl, Nat.le_of_ble_eq_true rfl⟩) hW (fun r_3 L_1 h_2 H locs p_4 hW => ?_)
  obtain ⟨hr_5, hT, hs⟩ := p_4
  replace hT : hx_T T_tb L_1 h_2 := hT
  replace hs : hx_S T_tb [] L h L_1 h_2 := hs
  replace f_x_7 := (hs.o gx trivial rfl).2.trans f_x_7
  replace f_x_10 := (hs.o gx trivial rfl).2.trans f_x_10
  replace f_x_14 := (hs.o gx trivial rfl).2.trans f_x_14
  replace f_x_5 := (hs.o gx trivial rfl).2.trans f_x_5
  replace f_x_4 := (hs.o gx trivial rfl).2.trans f_x_4
  replace f_x_17 := (hs.o gx trivial rfl).2.trans f_x_17
  replace f_x_11 := (hs.o gx trivial rfl).1.trans f_x_11
  replace f_x_2 := (hs.o gx trivial rfl).1.trans f_x_2
  replace f_x_8 := (hs.o gx trivial rfl).1.trans f_x_8
  replace f_x_6 := (hs.o gx trivial rfl).1.trans f_x_6
  replace f_qpg_1 := (hs.o (gqpg.S hM) trivial rfl).1.trans f_qpg_1
  replace pf_x_8 : ∀ j : Nat, (j : Int) < (h_2.2.1 x 8).toInt → h_2.2.2 qp j ≠ none := by
    intro j hj; rw [(hs.o gx trivial rfl).1] at hj; rw [(hs.a gqp rfl j).2]; exact pf_x_8 j hj
  replace pf_x_11 : ∀ j : Nat, (j : Int) < (h_2.2.1 x 11).toInt → h_2.2.2 qc j ≠ none := by
    intro j hj; rw [(hs.o gx trivial rfl).1] at hj; rw [(hs.a gqc rfl j).2]; exact pf_x_11 j hj
  replace pf_x_6 : ∀ j : Nat, (j : Int) < (h_2.2.1 x 6).toInt → h_2.2.2 qa j ≠ none := by
    intro j hj; rw [(hs.o gx trivial rfl).1] at hj; rw [(hs.a gqa rfl j).2]; exact pf_x_6 j hj
  replace cl_qc_13 : hx_col 100 h_2 qc 13 = odf := (hx_col_S hs hTo gqc tt_45 tt_2 rfl rfl).trans cl_qc_13
  replace cl_qc_14 : hx_col 100 h_2 qc 14 = wkf := (hx_col_S hs hTo gqc tt_45 tt_2 rfl rfl).trans cl_qc_14
  replace cl_qc_15 : hx_col 100 h_2 qc 15 = owf := (hx_col_S hs hTo gqc tt_45 tt_2 rfl rfl).trans cl_qc_15
  replace cl_qc_16 : hx_col 100 h_2 qc 16 = szf := (hx_col_S hs hTo gqc tt_45 tt_2 rfl rfl).trans cl_qc_16
  replace cl_qc_17 : hx_col 100 h_2 qc 17 = gdf := (hx_col_S hs hTo gqc tt_45 tt_2 rfl rfl).trans cl_qc_17
  replace cl_qc_18 : hx_col 100 h_2 qc 18 = svf := (hx_col_S hs hTo gqc tt_45 tt_2 rfl rfl).trans cl_qc_18
  replace cl_qp_3 : hx_col 40 h_2 qp 3 = eaf := (hx_col_S hs hTo gqp tt_44 tt_4 rfl rfl).trans cl_qp_3
  replace cl_qp_4 : hx_col 40 h_2 qp 4 = hdf := (hx_col_S hs hTo gqp tt_44 tt_4 rfl rfl).trans cl_qp_4
  replace nu_qp : hx_num 40 h_2 qp 0 (pn0.toInt) := hx_num_S hs hTo gqp tt_44 tt_4 rfl rfl nu_qp
  replace nu_qc : hx_num 100 h_2 qc 0 (cn0.toInt) := hx_num_S hs hTo gqc tt_45 tt_2 rfl rfl nu_qc
  replace hDF : hw_DF h_2 qc qp 2 agf cn0.toInt := hw_DF_S hs hTo gqc gqp tt_45 tt_2 rfl rfl rfl hDF
  replace hAC : hv_AC h_2 qc plf cn0.toInt A := hv_AC_S hs hTo gqc tt_45 tt_2 rfl tt_0 rfl rfl rfl rfl rfl rfl rfl hAC
  replace hRA : hv_RA h_2 qa w a0.toInt A := hv_RA_S hs hTo gqa gw tt_43 tt_0 rfl rfl rfl rfl rfl rfl (by omega) hRA
  replace af_qcl : h_2.2.1 qcl = clf := (funext fun j => (hs.a (gqcl.S hM) rfl j).1).trans af_qcl
  replace af_qwl : h_2.2.1 qwl = wlf := (funext fun j => (hs.a (gqwl.S hM) rfl j).1).trans af_qwl
  replace af_qws : h_2.2.1 qws = wsf := (funext fun j => (hs.a (gqws.S hM) rfl j).1).trans af_qws
  replace hM := hM.tr (hs.mono (by decide))
  replace gx := gx.S hs
  replace gqp := gqp.S hs
  replace gqc := gqc.S hs
  replace gqa := gqa.S hs
  replace gw := gw.S hs
  obtain ⟨hr_5, hr_5B⟩ := hr_5
  have hr_5 : ∀ q, r_3 = some q → hx_g L_1 h_2 q 4 := hr_5
  rcases r_3 with _ | q_6
  · skip
    have k_7 : i1.toInt < 0 ∨ pn0.toInt ≤ i1.toInt := by
      rcases hr_5B with ⟨_, z⟩ | ⟨_, _, q, z, _⟩
      · exact z
      · cases z
    refine lv_astore_nN (lv' := [(3, .null), (0, .ref x), (1, .int i1), (2, .int i2)]) hx hb dX9_plan_5 rfl hl (by decide) rfl (fun ls hl => ?_)
    refine lv_aload_nN hx hb dX9_plan_6 rfl (lv_at hl 0 rfl) ?_
    refine lv_ifnullN (tgt := 20) hx hb dX9_plan_7 (by decide) ?_
    refine lv_iconst (v := -1) hx hb dX9_plan_20 (by decide) ?_
    exact hx_reti hx hb hr hlk hW ⟨⟨td0, clf, wlf, wsf, f_qpg_1, af_qcl, af_qwl, af_qws, (Or.inl ⟨Or.inl ⟨(fun hc => by have h1 := hc.1; have h2 := hc.2; omega), by decide⟩, rfl, rfl, rfl, rfl⟩)⟩, hT, hM⟩ dX9_plan_21
  · have gq_6 := hr_5 _ rfl
    have k_8 : 0 ≤ i1.toInt ∧ i1.toInt < pn0.toInt ∧ h_2.2.2 qp i1.toNatClampNeg = some q_6 := by
      rcases hr_5B with ⟨z, _⟩ | ⟨z1, z2, q, z3, z4⟩
      · cases z
      · cases z3; exact ⟨z1, z2, z4⟩
    have fo_9 := k_8.2.2
    have k_8 : 0 ≤ i1.toInt ∧ i1.toInt < pn0.toInt := ⟨k_8.1, k_8.2.1⟩
    refine lv_astore_n (lv' := [(3, .ref q_6), (0, .ref x), (1, .int i1), (2, .int i2)]) hx hb dX9_plan_5 rfl hl (by decide) rfl (fun ls hl => ?_)
    refine lv_aload_n hx hb dX9_plan_6 rfl (lv_at hl 0 rfl) ?_
    refine lv_ifnull hx hb dX9_plan_7 ?_
    refine lv_iload_n hx hb dX9_plan_10 rfl (lv_at hl 3 rfl) ?_
    refine lv_iconst (v := 1) hx hb dX9_plan_11 (by decide) ?_
    refine lv_bipush (v := 99) hx hb dX9_plan_12 (by decide) ?_
    have hTo := hT
    have zc_99 : (99 : Int32).toInt = 99 := by decide
    have zc_1 : (1 : Int32).toInt = 1 := by decide
    refine hx_goi (hx_runS (As := [.int i2, .int (1 : Int32), .int (99 : Int32)]) (rest := []) ⟨hx, hb, hml, hown, hts⟩ hW (t_X9_isWithin_2 l dC dI dA L_1 h_2 H.size i2 (1 : Int32) (99 : Int32) hT) (va_cwS 3 hts (hx_gS kw_434 kw_432 kw_433 kw_94) rfl rfl rfl (by decide +kernel) ⟨Nat.le_of_ble_eq_true rfl, Nat.le_of_ble_eq_true rfl⟩) rfl hl.1 rfl (Nat.le_of_ble_eq_true rfl) dX9_plan_14 ⟨Nat.le_of_ble_eq_true rfl, Nat.le_of_ble_eq_true rfl⟩) hW (fun r_12 L_10 h_11 H locs p_13 hW => ?_)
    obtain ⟨hr_14, hT, hs⟩ := p_13
    replace hT : hx_T T_tb L_10 h_11 := hT
    replace hs : hx_S T_tb [] L_1 h_2 L_10 h_11 := hs
    replace f_x_7 := (hs.o gx trivial rfl).2.trans f_x_7
    replace f_x_10 := (hs.o gx trivial rfl).2.trans f_x_10
    replace f_x_14 := (hs.o gx trivial rfl).2.trans f_x_14
    replace f_x_5 := (hs.o gx trivial rfl).2.trans f_x_5
    replace f_x_4 := (hs.o gx trivial rfl).2.trans f_x_4
    replace f_x_17 := (hs.o gx trivial rfl).2.trans f_x_17
    replace f_x_11 := (hs.o gx trivial rfl).1.trans f_x_11
    replace f_x_2 := (hs.o gx trivial rfl).1.trans f_x_2
    replace f_x_8 := (hs.o gx trivial rfl).1.trans f_x_8
    replace f_x_6 := (hs.o gx trivial rfl).1.trans f_x_6
    replace f_qpg_1 := (hs.o (gqpg.S hM) trivial rfl).1.trans f_qpg_1
    replace pf_x_8 : ∀ j : Nat, (j : Int) < (h_11.2.1 x 8).toInt → h_11.2.2 qp j ≠ none := by
      intro j hj; rw [(hs.o gx trivial rfl).1] at hj; rw [(hs.a gqp rfl j).2]; exact pf_x_8 j hj
    replace pf_x_11 : ∀ j : Nat, (j : Int) < (h_11.2.1 x 11).toInt → h_11.2.2 qc j ≠ none := by
      intro j hj; rw [(hs.o gx trivial rfl).1] at hj; rw [(hs.a gqc rfl j).2]; exact pf_x_11 j hj
    replace pf_x_6 : ∀ j : Nat, (j : Int) < (h_11.2.1 x 6).toInt → h_11.2.2 qa j ≠ none := by
      intro j hj; rw [(hs.o gx trivial rfl).1] at hj; rw [(hs.a gqa rfl j).2]; exact pf_x_6 j hj
    replace cl_qc_13 : hx_col 100 h_11 qc 13 = odf := (hx_col_S hs hTo gqc tt_45 tt_2 rfl rfl).trans cl_qc_13
    replace cl_qc_14 : hx_col 100 h_11 qc 14 = wkf := (hx_col_S hs hTo gqc tt_45 tt_2 rfl rfl).trans cl_qc_14
    replace cl_qc_15 : hx_col 100 h_11 qc 15 = owf := (hx_col_S hs hTo gqc tt_45 tt_2 rfl rfl).trans cl_qc_15
    replace cl_qc_16 : hx_col 100 h_11 qc 16 = szf := (hx_col_S hs hTo gqc tt_45 tt_2 rfl rfl).trans cl_qc_16
    replace cl_qc_17 : hx_col 100 h_11 qc 17 = gdf := (hx_col_S hs hTo gqc tt_45 tt_2 rfl rfl).trans cl_qc_17
    replace cl_qc_18 : hx_col 100 h_11 qc 18 = svf := (hx_col_S hs hTo gqc tt_45 tt_2 rfl rfl).trans cl_qc_18
    replace cl_qp_3 : hx_col 40 h_11 qp 3 = eaf := (hx_col_S hs hTo gqp tt_44 tt_4 rfl rfl).trans cl_qp_3
    replace cl_qp_4 : hx_col 40 h_11 qp 4 = hdf := (hx_col_S hs hTo gqp tt_44 tt_4 rfl rfl).trans cl_qp_4
    replace nu_qp : hx_num 40 h_11 qp 0 (pn0.toInt) := hx_num_S hs hTo gqp tt_44 tt_4 rfl rfl nu_qp
    replace nu_qc : hx_num 100 h_11 qc 0 (cn0.toInt) := hx_num_S hs hTo gqc tt_45 tt_2 rfl rfl nu_qc
    replace hDF : hw_DF h_11 qc qp 2 agf cn0.toInt := hw_DF_S hs hTo gqc gqp tt_45 tt_2 rfl rfl rfl hDF
    replace hAC : hv_AC h_11 qc plf cn0.toInt A := hv_AC_S hs hTo gqc tt_45 tt_2 rfl tt_0 rfl rfl rfl rfl rfl rfl rfl hAC
    replace hRA : hv_RA h_11 qa w a0.toInt A := hv_RA_S hs hTo gqa gw tt_43 tt_0 rfl rfl rfl rfl rfl rfl (by omega) hRA
    replace fo_9 := (hs.a gqp rfl _).2.trans fo_9
    replace af_qcl : h_11.2.1 qcl = clf := (funext fun j => (hs.a (gqcl.S hM) rfl j).1).trans af_qcl
    replace af_qwl : h_11.2.1 qwl = wlf := (funext fun j => (hs.a (gqwl.S hM) rfl j).1).trans af_qwl
    replace af_qws : h_11.2.1 qws = wsf := (funext fun j => (hs.a (gqws.S hM) rfl j).1).trans af_qws
    replace hM := hM.tr (hs.mono (by decide))
    replace gx := gx.S hs
    replace gqp := gqp.S hs
    replace gqc := gqc.S hs
    replace gqa := gqa.S hs
    replace gw := gw.S hs
    replace gq_6 := gq_6.S hs
    refine hb_if_ne (zx := r_12.toInt) (tgt := 22) hx hb rfl dX9_plan_17 (by decide) (fun c_15 => ?_) (fun c_15 => ?_)
    · skip
      replace hr_14 := hr_14.resolve_left (fun z9 => c_15 z9.1)
      replace c_15 := hr_14.1
      replace hr_14 := hr_14.2
      refine lv_aload_n hx hb dX9_plan_22 rfl (lv_at hl 1 rfl) ?_
      refine hk_getr hx hb hts hC_9 hown hW gx tt_9 17 (by decide) rfl kw_381 ⟨rfl, rfl, rfl⟩ f_x_17 dX9_plan_23 ?_
      refine lv_iload_n hx hb dX9_plan_26 rfl (lv_at hl 3 rfl) ?_
      refine lv_aload_n hx hb dX9_plan_27 rfl (lv_at hl 0 rfl) ?_
      refine lv_aload_n hx hb dX9_plan_28 rfl (lv_at hl 1 rfl) ?_
      refine lv_aload_n hx hb dX9_plan_29 rfl (lv_at hl 1 rfl) ?_
      refine hk_geti hx hb hts hC_9 hown hW gx tt_9 2 (by decide) rfl kw_366 ⟨rfl, rfl, rfl⟩ f_x_2 dX9_plan_30 ?_
      have hTo := hT
      refine hx_goq (hx_runV (As := [.int nw0]) (rest := [.ref q_6, .int i2, .ref qpg]) ⟨hx, hb, hml, hown, hts⟩ hW gx tt_9 (T := TX9) (N := 20) rfl (t_X9_inForce_v l dC dI dA L_10 h_11 H.size x nw0 hT gx qa gqa f_x_5 w gw f_x_4 a0 f_x_6 A hRA pf_x_6) (cwV 1 hts (hx_gV kw_597 kw_594 kw_596 kw_19 kw_94) rfl rfl rfl (by decide +kernel) ⟨Nat.le_of_ble_eq_true rfl, Nat.le_of_ble_eq_true rfl⟩) rfl hl.1 rfl (Nat.le_of_ble_eq_true rfl) dX9_plan_33 ⟨Nat.le_of_ble_eq_true rfl, Nat.le_of_ble_eq_true rfl⟩) hW (fun r_18 L_16 h_17 H locs p_19 hW => ?_)
      obtain ⟨hr_20, hT, hs⟩ := p_19
      replace hT : hx_T T_tb L_16 h_17 := hT
      replace hs : hx_S T_tb [] L_10 h_11 L_16 h_17 := hs
      replace f_x_7 := (hs.o gx trivial rfl).2.trans f_x_7
      replace f_x_10 := (hs.o gx trivial rfl).2.trans f_x_10
      replace f_x_14 := (hs.o gx trivial rfl).2.trans f_x_14
      replace f_x_5 := (hs.o gx trivial rfl).2.trans f_x_5
      replace f_x_4 := (hs.o gx trivial rfl).2.trans f_x_4
      replace f_x_17 := (hs.o gx trivial rfl).2.trans f_x_17
      replace f_x_11 := (hs.o gx trivial rfl).1.trans f_x_11
      replace f_x_2 := (hs.o gx trivial rfl).1.trans f_x_2
      replace f_x_8 := (hs.o gx trivial rfl).1.trans f_x_8
      replace f_x_6 := (hs.o gx trivial rfl).1.trans f_x_6
      replace f_qpg_1 := (hs.o (gqpg.S hM) trivial rfl).1.trans f_qpg_1
      replace pf_x_8 : ∀ j : Nat, (j : Int) < (h_17.2.1 x 8).toInt → h_17.2.2 qp j ≠ none := by
        intro j hj; rw [(hs.o gx trivial rfl).1] at hj; rw [(hs.a gqp rfl j).2]; exact pf_x_8 j hj
      replace pf_x_11 : ∀ j : Nat, (j : Int) < (h_17.2.1 x 11).toInt → h_17.2.2 qc j ≠ none := by
        intro j hj; rw [(hs.o gx trivial rfl).1] at hj; rw [(hs.a gqc rfl j).2]; exact pf_x_11 j hj
      replace pf_x_6 : ∀ j : Nat, (j : Int) < (h_17.2.1 x 6).toInt → h_17.2.2 qa j ≠ none := by
        intro j hj; rw [(hs.o gx trivial rfl).1] at hj; rw [(hs.a gqa rfl j).2]; exact pf_x_6 j hj
      replace cl_qc_13 : hx_col 100 h_17 qc 13 = odf := (hx_col_S hs hTo gqc tt_45 tt_2 rfl rfl).trans cl_qc_13
      replace cl_qc_14 : hx_col 100 h_17 qc 14 = wkf := (hx_col_S hs hTo gqc tt_45 tt_2 rfl rfl).trans cl_qc_14
      replace cl_qc_15 : hx_col 100 h_17 qc 15 = owf := (hx_col_S hs hTo gqc tt_45 tt_2 rfl rfl).trans cl_qc_15
      replace cl_qc_16 : hx_col 100 h_17 qc 16 = szf := (hx_col_S hs hTo gqc tt_45 tt_2 rfl rfl).trans cl_qc_16
      replace cl_qc_17 : hx_col 100 h_17 qc 17 = gdf := (hx_col_S hs hTo gqc tt_45 tt_2 rfl rfl).trans cl_qc_17
      replace cl_qc_18 : hx_col 100 h_17 qc 18 = svf := (hx_col_S hs hTo gqc tt_45 tt_2 rfl rfl).trans cl_qc_18
      replace cl_qp_3 : hx_col 40 h_17 qp 3 = eaf := (hx_col_S hs hTo gqp tt_44 tt_4 rfl rfl).trans cl_qp_3
      replace cl_qp_4 : hx_col 40 h_17 qp 4 = hdf := (hx_col_S hs hTo gqp tt_44 tt_4 rfl rfl).trans cl_qp_4
      replace nu_qp : hx_num 40 h_17 qp 0 (pn0.toInt) := hx_num_S hs hTo gqp tt_44 tt_4 rfl rfl nu_qp
      replace nu_qc : hx_num 100 h_17 qc 0 (cn0.toInt) := hx_num_S hs hTo gqc tt_45 tt_2 rfl rfl nu_qc
      replace hDF : hw_DF h_17 qc qp 2 agf cn0.toInt := hw_DF_S hs hTo gqc gqp tt_45 tt_2 rfl rfl rfl hDF
      replace hAC : hv_AC h_17 qc plf cn0.toInt A := hv_AC_S hs hTo gqc tt_45 tt_2 rfl tt_0 rfl rfl rfl rfl rfl rfl rfl hAC
      replace hRA : hv_RA h_17 qa w a0.toInt A := hv_RA_S hs hTo gqa gw tt_43 tt_0 rfl rfl rfl rfl rfl rfl (by omega) hRA
      replace fo_9 := (hs.a gqp rfl _).2.trans fo_9
      replace af_qcl : h_17.2.1 qcl = clf := (funext fun j => (hs.a (gqcl.S hM) rfl j).1).trans af_qcl
      replace af_qwl : h_17.2.1 qwl = wlf := (funext fun j => (hs.a (gqwl.S hM) rfl j).1).trans af_qwl
      replace af_qws : h_17.2.1 qws = wsf := (funext fun j => (hs.a (gqws.S hM) rfl j).1).trans af_qws
      replace hM := hM.tr (hs.mono (by decide))
      replace gx := gx.S hs
      replace gqp := gqp.S hs
      replace gqc := gqc.S hs
      replace gqa := gqa.S hs
      replace gw := gw.S hs
      replace gq_6 := gq_6.S hs
      obtain ⟨q_21, rfl, gq_21, hr_20B⟩ := hr_20
      have gq_21 : hx_g L_16 h_17 q_21 0 := gq_21
      obtain ⟨kk_22, kk_22E, kk_22Q⟩ := hr_20B
      have kk_22Q : hv_AQ h_17 q_21 (((kk_22 : Nat) : Int) - 1) (A kk_22) := kk_22Q
      obtain ⟨fv_23, efv_23⟩ : ∃ y : Int32, y = h_17.2.1 q_6 3 := ⟨_, rfl⟩
      have bfv_23 := hT.gi gq_6 tt_4 (k := 3) rfl
      rw [← efv_23] at bfv_23
      have bfv_23 : -2147483648 ≤ fv_23.toInt ∧ fv_23.toInt ≤ 2147483647 := bfv_23
      have ffv_23 := efv_23.symm
      have cea9 : fv_23 = eaf i1.toInt.toNat := by rw [← ffv_23, ← cl_qp_3]; exact (hx_col_at fo_9 (by unfold Int32.toNatClampNeg; omega)).symm
      obtain ⟨fv_24, efv_24⟩ : ∃ y : Int32, y = h_17.2.1 q_6 4 := ⟨_, rfl⟩
      have bfv_24 := hT.gi gq_6 tt_4 (k := 4) rfl
      rw [← efv_24] at bfv_24
      have bfv_24 : -2147483648 ≤ fv_24.toInt ∧ fv_24.toInt ≤ 2147483647 := bfv_24
      have ffv_24 := efv_24.symm
      have chd9 : fv_24 = hdf i1.toInt.toNat := by rw [← ffv_24, ← cl_qp_4]; exact (hx_col_at fo_9 (by unfold Int32.toNatClampNeg; omega)).symm
      have heb9 := hee i1.toInt.toNat (by omega); rw [← cea9, ← chd9] at heb9; obtain ⟨⟨he1, he2⟩, ⟨he3, he4⟩⟩ := heb9
      have hTo := hT
      obtain ⟨q_25, fq_25, gq_25⟩ := hv_rf hT gq_21 tt_0 (k := 2) (u := 11) rfl
      obtain ⟨fa_26, nfa_26⟩ : ∃ g : Nat → Int32, h_17.2.1 q_25 = g := ⟨_, rfl⟩
      refine hx_goi (hx_runV (As := [.ref q_21]) (rest := [.int i2, .ref qpg]) ⟨hx, hb, hml, hown, hts⟩ hW gq_6 tt_4 (T := TX4) (N := 10) rfl (t_X4_meansBy_v l dC dI dA L_16 h_17 H.size q_6 q_21 hT gq_6 gq_21 q_25 gq_25 fq_25 fa_26 nfa_26 fv_23 ffv_23 fv_24 ffv_24 (A kk_22).2.1 (by rw [← nfa_26]; exact kk_22Q.2.2.1 _ fq_25) (hAB _).1 ⟨by omega, by omega⟩ ⟨by omega, by omega⟩) (cwV 1 hts (hx_gV kw_887 kw_884 kw_885 kw_886 kw_108) rfl rfl rfl (by decide +kernel) ⟨Nat.le_of_ble_eq_true rfl, Nat.le_of_ble_eq_true rfl⟩) rfl hl.1 rfl (Nat.le_of_ble_eq_true rfl) dX9_plan_36 ⟨Nat.le_of_ble_eq_true rfl, Nat.le_of_ble_eq_true rfl⟩) hW (fun r_29 L_27 h_28 H locs p_30 hW => ?_)
      obtain ⟨hr_31, hT, hs⟩ := p_30
      replace hT : hx_T T_tb L_27 h_28 := hT
      replace hs : hx_S T_tb [] L_16 h_17 L_27 h_28 := hs
      replace f_x_7 := (hs.o gx trivial rfl).2.trans f_x_7
      replace f_x_10 := (hs.o gx trivial rfl).2.trans f_x_10
      replace f_x_14 := (hs.o gx trivial rfl).2.trans f_x_14
      replace f_x_5 := (hs.o gx trivial rfl).2.trans f_x_5
      replace f_x_4 := (hs.o gx trivial rfl).2.trans f_x_4
      replace f_x_17 := (hs.o gx trivial rfl).2.trans f_x_17
      replace f_x_11 := (hs.o gx trivial rfl).1.trans f_x_11
      replace f_x_2 := (hs.o gx trivial rfl).1.trans f_x_2
      replace f_x_8 := (hs.o gx trivial rfl).1.trans f_x_8
      replace f_x_6 := (hs.o gx trivial rfl).1.trans f_x_6
      replace f_qpg_1 := (hs.o (gqpg.S hM) trivial rfl).1.trans f_qpg_1
      replace ffv_23 := (hs.o gq_6 trivial rfl).1.trans ffv_23
      replace ffv_24 := (hs.o gq_6 trivial rfl).1.trans ffv_24
      replace fq_25 := (hs.o gq_21 trivial rfl).2.trans fq_25
      replace pf_x_8 : ∀ j : Nat, (j : Int) < (h_28.2.1 x 8).toInt → h_28.2.2 qp j ≠ none := by
        intro j hj; rw [(hs.o gx trivial rfl).1] at hj; rw [(hs.a gqp rfl j).2]; exact pf_x_8 j hj
      replace pf_x_11 : ∀ j : Nat, (j : Int) < (h_28.2.1 x 11).toInt → h_28.2.2 qc j ≠ none := by
        intro j hj; rw [(hs.o gx trivial rfl).1] at hj; rw [(hs.a gqc rfl j).2]; exact pf_x_11 j hj
      replace pf_x_6 : ∀ j : Nat, (j : Int) < (h_28.2.1 x 6).toInt → h_28.2.2 qa j ≠ none := by
        intro j hj; rw [(hs.o gx trivial rfl).1] at hj; rw [(hs.a gqa rfl j).2]; exact pf_x_6 j hj
      replace cl_qc_13 : hx_col 100 h_28 qc 13 = odf := (hx_col_S hs hTo gqc tt_45 tt_2 rfl rfl).trans cl_qc_13
      replace cl_qc_14 : hx_col 100 h_28 qc 14 = wkf := (hx_col_S hs hTo gqc tt_45 tt_2 rfl rfl).trans cl_qc_14
      replace cl_qc_15 : hx_col 100 h_28 qc 15 = owf := (hx_col_S hs hTo gqc tt_45 tt_2 rfl rfl).trans cl_qc_15
      replace cl_qc_16 : hx_col 100 h_28 qc 16 = szf := (hx_col_S hs hTo gqc tt_45 tt_2 rfl rfl).trans cl_qc_16
      replace cl_qc_17 : hx_col 100 h_28 qc 17 = gdf := (hx_col_S hs hTo gqc tt_45 tt_2 rfl rfl).trans cl_qc_17
      replace cl_qc_18 : hx_col 100 h_28 qc 18 = svf := (hx_col_S hs hTo gqc tt_45 tt_2 rfl rfl).trans cl_qc_18
      replace cl_qp_3 : hx_col 40 h_28 qp 3 = eaf := (hx_col_S hs hTo gqp tt_44 tt_4 rfl rfl).trans cl_qp_3
      replace cl_qp_4 : hx_col 40 h_28 qp 4 = hdf := (hx_col_S hs hTo gqp tt_44 tt_4 rfl rfl).trans cl_qp_4
      replace nu_qp : hx_num 40 h_28 qp 0 (pn0.toInt) := hx_num_S hs hTo gqp tt_44 tt_4 rfl rfl nu_qp
      replace nu_qc : hx_num 100 h_28 qc 0 (cn0.toInt) := hx_num_S hs hTo gqc tt_45 tt_2 rfl rfl nu_qc
      replace hDF : hw_DF h_28 qc qp 2 agf cn0.toInt := hw_DF_S hs hTo gqc gqp tt_45 tt_2 rfl rfl rfl hDF
      replace hAC : hv_AC h_28 qc plf cn0.toInt A := hv_AC_S hs hTo gqc tt_45 tt_2 rfl tt_0 rfl rfl rfl rfl rfl rfl rfl hAC
      replace hRA : hv_RA h_28 qa w a0.toInt A := hv_RA_S hs hTo gqa gw tt_43 tt_0 rfl rfl rfl rfl rfl rfl (by omega) hRA
      replace kk_22Q : hv_AQ h_28 q_21 (((kk_22 : Nat) : Int) - 1) (A kk_22) := hv_AQ_S hs hTo gq_21 tt_0 rfl rfl rfl rfl rfl kk_22Q
      replace fo_9 := (hs.a gqp rfl _).2.trans fo_9
      replace af_qcl : h_28.2.1 qcl = clf := (funext fun j => (hs.a (gqcl.S hM) rfl j).1).trans af_qcl
      replace af_qwl : h_28.2.1 qwl = wlf := (funext fun j => (hs.a (gqwl.S hM) rfl j).1).trans af_qwl
      replace af_qws : h_28.2.1 qws = wsf := (funext fun j => (hs.a (gqws.S hM) rfl j).1).trans af_qws
      replace nfa_26 : h_28.2.1 q_25 = fa_26 := (funext fun j => (hs.a gq_25 rfl j).1).trans nfa_26
      replace hM := hM.tr (hs.mono (by decide))
      replace gx := gx.S hs
      replace gqp := gqp.S hs
      replace gqc := gqc.S hs
      replace gqa := gqa.S hs
      replace gw := gw.S hs
      replace gq_6 := gq_6.S hs
      replace gq_21 := gq_21.S hs
      replace gq_25 := gq_25.S hs
      have hme9 : r_29.toInt = ((eaf i1.toInt.toNat).toInt - (A (hv_IF A nw0.toInt a0.toInt.toNat)).2.1 3 * (hdf i1.toInt.toNat).toInt) := by rw [hr_31.1, cea9, chd9, kk_22E]
      have hTo := hT
      refine hx_gov (hx_runV (As := [.int i2, .int r_29]) (rest := []) ⟨hx, hb, hml, hown, hts⟩ hW (gqpg.S hM) tt_5 (T := TX5) (N := 13) rfl (t_X5_clear_v l dC dI dA L_27 h_28 H.size qpg i2 r_29 hT (gqpg.S hM)) (cwV 2 hts (hx_gV kw_951 kw_948 kw_949 kw_950 kw_100) rfl rfl rfl (by decide +kernel) ⟨Nat.le_of_ble_eq_true rfl, Nat.le_of_ble_eq_true rfl⟩) rfl hl.1 rfl (Nat.le_of_ble_eq_true rfl) dX9_plan_39 ⟨Nat.le_of_ble_eq_true rfl, Nat.le_of_ble_eq_true rfl⟩) hW (fun L_32 h_33 H locs p_35 hW => ?_)
      obtain ⟨⟨w_37, w_38, w_39, fw_37, fw_38, fw_39, hr_36⟩, hT, hs⟩ := p_35
      replace hT : hx_T T_tb L_32 h_33 := hT
      replace hs : hx_S T_tb [(5, 0), (5, 9), (5, 10)] L_27 h_28 L_32 h_33 := hs
      replace f_x_7 := (hs.o gx trivial rfl).2.trans f_x_7
      replace f_x_10 := (hs.o gx trivial rfl).2.trans f_x_10
      replace f_x_14 := (hs.o gx trivial rfl).2.trans f_x_14
      replace f_x_5 := (hs.o gx trivial rfl).2.trans f_x_5
      replace f_x_4 := (hs.o gx trivial rfl).2.trans f_x_4
      replace f_x_17 := (hs.o gx trivial rfl).2.trans f_x_17
      replace f_x_11 := (hs.o gx trivial rfl).1.trans f_x_11
      replace f_x_2 := (hs.o gx trivial rfl).1.trans f_x_2
      replace f_x_8 := (hs.o gx trivial rfl).1.trans f_x_8
      replace f_x_6 := (hs.o gx trivial rfl).1.trans f_x_6
      replace f_qpg_1 := (hs.o (gqpg.S hM) trivial rfl).1.trans f_qpg_1
      replace ffv_23 := (hs.o gq_6 trivial rfl).1.trans ffv_23
      replace ffv_24 := (hs.o gq_6 trivial rfl).1.trans ffv_24
      replace fq_25 := (hs.o gq_21 trivial rfl).2.trans fq_25
      replace pf_x_8 : ∀ j : Nat, (j : Int) < (h_33.2.1 x 8).toInt → h_33.2.2 qp j ≠ none := by
        intro j hj; rw [(hs.o gx trivial rfl).1] at hj; rw [(hs.a gqp rfl j).2]; exact pf_x_8 j hj
      replace pf_x_11 : ∀ j : Nat, (j : Int) < (h_33.2.1 x 11).toInt → h_33.2.2 qc j ≠ none := by
        intro j hj; rw [(hs.o gx trivial rfl).1] at hj; rw [(hs.a gqc rfl j).2]; exact pf_x_11 j hj
      replace pf_x_6 : ∀ j : Nat, (j : Int) < (h_33.2.1 x 6).toInt → h_33.2.2 qa j ≠ none := by
        intro j hj; rw [(hs.o gx trivial rfl).1] at hj; rw [(hs.a gqa rfl j).2]; exact pf_x_6 j hj
      replace cl_qc_13 : hx_col 100 h_33 qc 13 = odf := (hx_col_S hs hTo gqc tt_45 tt_2 rfl rfl).trans cl_qc_13
      replace cl_qc_14 : hx_col 100 h_33 qc 14 = wkf := (hx_col_S hs hTo gqc tt_45 tt_2 rfl rfl).trans cl_qc_14
      replace cl_qc_15 : hx_col 100 h_33 qc 15 = owf := (hx_col_S hs hTo gqc tt_45 tt_2 rfl rfl).trans cl_qc_15
      replace cl_qc_16 : hx_col 100 h_33 qc 16 = szf := (hx_col_S hs hTo gqc tt_45 tt_2 rfl rfl).trans cl_qc_16
      replace cl_qc_17 : hx_col 100 h_33 qc 17 = gdf := (hx_col_S hs hTo gqc tt_45 tt_2 rfl rfl).trans cl_qc_17
      replace cl_qc_18 : hx_col 100 h_33 qc 18 = svf := (hx_col_S hs hTo gqc tt_45 tt_2 rfl rfl).trans cl_qc_18
      replace cl_qp_3 : hx_col 40 h_33 qp 3 = eaf := (hx_col_S hs hTo gqp tt_44 tt_4 rfl rfl).trans cl_qp_3
      replace cl_qp_4 : hx_col 40 h_33 qp 4 = hdf := (hx_col_S hs hTo gqp tt_44 tt_4 rfl rfl).trans cl_qp_4
      replace nu_qp : hx_num 40 h_33 qp 0 (pn0.toInt) := hx_num_S hs hTo gqp tt_44 tt_4 rfl rfl nu_qp
      replace nu_qc : hx_num 100 h_33 qc 0 (cn0.toInt) := hx_num_S hs hTo gqc tt_45 tt_2 rfl rfl nu_qc
      replace hDF : hw_DF h_33 qc qp 2 agf cn0.toInt := hw_DF_S hs hTo gqc gqp tt_45 tt_2 rfl rfl rfl hDF
      replace hAC : hv_AC h_33 qc plf cn0.toInt A := hv_AC_S hs hTo gqc tt_45 tt_2 rfl tt_0 rfl rfl rfl rfl rfl rfl rfl hAC
      replace hRA : hv_RA h_33 qa w a0.toInt A := hv_RA_S hs hTo gqa gw tt_43 tt_0 rfl rfl rfl rfl rfl rfl (by omega) hRA
      replace kk_22Q : hv_AQ h_33 q_21 (((kk_22 : Nat) : Int) - 1) (A kk_22) := hv_AQ_S hs hTo gq_21 tt_0 rfl rfl rfl rfl rfl kk_22Q
      replace fo_9 := (hs.a gqp rfl _).2.trans fo_9
      replace af_qcl : h_33.2.1 qcl = clf := (funext fun j => (hs.a (gqcl.S hM) rfl j).1).trans af_qcl
      replace af_qwl : h_33.2.1 qwl = wlf := (funext fun j => (hs.a (gqwl.S hM) rfl j).1).trans af_qwl
      replace af_qws : h_33.2.1 qws = wsf := (funext fun j => (hs.a (gqws.S hM) rfl j).1).trans af_qws
      replace nfa_26 : h_33.2.1 q_25 = fa_26 := (funext fun j => (hs.a gq_25 rfl j).1).trans nfa_26
      replace hM := hM.tr (hs.mono (by decide))
      replace gx := gx.S hs
      replace gqp := gqp.S hs
      replace gqc := gqc.S hs
      replace gqa := gqa.S hs
      replace gw := gw.S hs
      replace gq_6 := gq_6.S hs
      replace gq_21 := gq_21.S hs
      replace gq_25 := gq_25.S hs
      have fw_37 : h_33.2.1 qpg 0 = w_37 := fw_37
      have bw_37 := hT.gi (gqpg.S hM) tt_5 (k := 0) rfl
      rw [fw_37] at bw_37
      have bw_37 : 0 ≤ w_37.toInt ∧ w_37.toInt ≤ 4 := bw_37
      have fw_38 : h_33.2.1 qpg 9 = w_38 := fw_38
      have bw_38 := hT.gi (gqpg.S hM) tt_5 (k := 9) rfl
      rw [fw_38] at bw_38
      have bw_38 : -2147483648 ≤ w_38.toInt ∧ w_38.toInt ≤ 2147483647 := bw_38
      have fw_39 : h_33.2.1 qpg 10 = w_39 := fw_39
      have bw_39 := hT.gi (gqpg.S hM) tt_5 (k := 10) rfl
      rw [fw_39] at bw_39
      have bw_39 : -2147483648 ≤ w_39.toInt ∧ w_39.toInt ≤ 2147483647 := bw_39
      refine lv_iconst (v := 0) hx hb dX9_plan_42 (by decide) ?_
      refine lv_istore (lv' := [(4, .int (0 : Int32)), (3, .ref q_6), (0, .ref x), (1, .int i1), (2, .int i2)]) hx hb dX9_plan_43 hl (by decide) rfl (fun ls hl => ?_)
      obtain ⟨fa_40, nfa_40⟩ : ∃ g : Nat → Int32, h_33.2.1 qop = g := ⟨_, rfl⟩
      obtain ⟨fa_41, nfa_41⟩ : ∃ g : Nat → Int32, h_33.2.1 qre = g := ⟨_, rfl⟩
      obtain ⟨fa_42, nfa_42⟩ : ∃ g : Nat → Int32, h_33.2.1 qle = g := ⟨_, rfl⟩
      have loop45 : ∀ (n45 : Nat) (iv45_4 fw45_qpg_0 : Int32) (ia45_qop ia45_qre ia45_qle : Nat → Int32) (H : Heap) (locs : List Loc) (hL1 : List Nat) (hl1 : hx_h), 0 ≤ iv45_4.toInt → iv45_4.toInt ≤ 100 → 0 ≤ fw45_qpg_0.toInt → fw45_qpg_0.toInt ≤ 4 → (hp_OQ agf (hz_Rn odf szf gdf owf svf (hz_rc A plf) pof pdf psm pkf pst nw0.toInt n0.toInt.toNat) (fun c9 => (A (plf c9).toInt.toNat).2.1 2) i1.toInt (iv45_4.toInt).toNat ia45_qop ia45_qre ia45_qle ∧ fw45_qpg_0.toInt = ((hp_ol agf (hz_Rn odf szf gdf owf svf (hz_rc A plf) pof pdf psm pkf pst nw0.toInt n0.toInt.toNat) i1.toInt (iv45_4.toInt).toNat).length : Int)) → (iv45_4.toInt ≤ cn0.toInt) → ∀ (ls : Array Slot), 100 - iv45_4.toInt < (n45 : Int) → hx_W T_tb (P_ty dA) (dC, dI) vwCl (hx_A L sz) s.heap hL1 hl1 s H locs → hx_T T_tb hL1 hl1 → hx_S T_tb [(5, 0), (5, 1), (5, 9), (5, 10), (5, 11), (5, 12), (27, 0), (28, 0), (29, 0), (30, 0), (31, 0), (32, 0), (33, 0)] L h hL1 hl1 → hl1.2.1 qpg 0 = fw45_qpg_0 → hl1.2.2 x 7 = some qp → hl1.2.2 x 10 = some qc → hl1.2.2 x 14 = some qy → hl1.2.2 x 5 = some qa → hl1.2.2 x 4 = some w → hl1.2.2 x 17 = some qpg → hl1.2.1 x 11 = cn0 → hl1.2.1 x 2 = nw0 → hl1.2.1 x 8 = pn0 → hl1.2.1 x 6 = a0 → hl1.2.1 qpg 1 = td0 → hl1.2.1 q_6 3 = fv_23 → hl1.2.1 q_6 4 = fv_24 → hl1.2.2 q_21 2 = some q_25 → hl1.2.1 qpg 9 = w_38 → hl1.2.1 qpg 10 = w_39 → hx_g hL1 hl1 x 9 → hx_g hL1 hl1 qp 44 → hx_g hL1 hl1 qc 45 → hx_g hL1 hl1 qa 43 → hx_g hL1 hl1 w 0 → hx_g hL1 hl1 q_6 4 → hx_g hL1 hl1 q_21 0 → hx_g hL1 hl1 q_25 11 → (∀ j : Nat, (j : Int) < (hl1.2.1 x 8).toInt → hl1.2.2 qp j ≠ none) → (∀ j : Nat, (j : Int) < (hl1.2.1 x 11).toInt → hl1.2.2 qc j ≠ none) → (∀ j : Nat, (j : Int) < (hl1.2.1 x 6).toInt → hl1.2.2 qa j ≠ none) → hl1.2.1 qop = ia45_qop → hl1.2.1 qre = ia45_qre → hl1.2.1 qle = ia45_qle → hl1.2.1 qcl = clf → hl1.2.1 qwl = wlf → hl1.2.1 qws = wsf → hl1.2.1 q_25 = fa_26 → hx_col 100 hl1 qc 13 = odf → hx_col 100 hl1 qc 14 = wkf → hx_col 100 hl1 qc 15 = owf → hx_col 100 hl1 qc 16 = szf → hx_col 100 hl1 qc 17 = gdf → hx_col 100 hl1 qc 18 = svf → hx_col 40 hl1 qp 3 = eaf → hx_col 40 hl1 qp 4 = hdf → hx_num 40 hl1 qp 0 (pn0.toInt) → hx_num 100 hl1 qc 0 (cn0.toInt) → hl1.2.2 qp i1.toNatClampNeg = some q_6 → hw_DF hl1 qc qp 2 agf cn0.toInt → hv_AC hl1 qc plf cn0.toInt A → hv_RA hl1 qa w a0.toInt A → hv_AQ hl1 q_21 (((kk_22 : Nat) : Int) - 1) (A kk_22) → lv_has ls 6 [(4, .int iv45_4), (3, .ref q_6), (0, .ref x), (1, .int i1), (2, .int i2)] → W p l e ({ frames := 8, cells := 0, slots := 0, locals := 223 }) s m ([.ref x, .int i1, .int i2] : List Value).toArray below meth c H locs 0 0 (MQ below (va_Qi (fun (r : Int32) (u : List Nat × hx_h) => (∃ (td1 : Int32) (clf1 : Nat → Int32) (wlf1 : Nat → Int32) (wsf1 : Nat → Int32), u.2.2.1 qpg 1 = td1 ∧ u.2.2.1 qcl = clf1 ∧ u.2.2.1 qwl = wlf1 ∧ u.2.2.1 qws = wsf1 ∧ (hp_PS ((0 ≤ i1.toInt ∧ i1.toInt < pn0.toInt) ∧ 1 ≤ i2.toInt ∧ i2.toInt ≤ 99) (hp_ol agf (hz_Rn odf szf gdf owf svf (hz_rc A plf) pof pdf psm pkf pst nw0.toInt n0.toInt.toNat) i1.toInt cn0.toInt.toNat).length (hp_ge (hp_ol agf (hz_Rn odf szf gdf owf svf (hz_rc A plf) pof pdf psm pkf pst nw0.toInt n0.toInt.toNat) i1.toInt cn0.toInt.toNat)) (fun c9 => hz_mi ((fun c9 => (A (plf c9).toInt.toNat).2.1 2) (hp_ge (hp_ol agf (hz_Rn odf szf gdf owf svf (hz_rc A plf) pof pdf psm pkf pst nw0.toInt n0.toInt.toNat) i1.toInt cn0.toInt.toNat) c9)) ((hz_Rn odf szf gdf owf svf (hz_rc A plf) pof pdf psm pkf pst nw0.toInt n0.toInt.toNat) (hp_ge (hp_ol agf (hz_Rn odf szf gdf owf svf (hz_rc A plf) pof pdf psm pkf pst nw0.toInt n0.toInt.toNat) i1.toInt cn0.toInt.toNat) c9))) (fun c9 => (hz_Rn odf szf gdf owf svf (hz_rc A plf) pof pdf psm pkf pst nw0.toInt n0.toInt.toNat) (hp_ge (hp_ol agf (hz_Rn odf szf gdf owf svf (hz_rc A plf) pof pdf psm pkf pst nw0.toInt n0.toInt.toNat) i1.toInt cn0.toInt.toNat) c9)) i2.toInt ((eaf i1.toInt.toNat).toInt - (A (hv_IF A nw0.toInt a0.toInt.toNat)).2.1 3 * (hdf i1.toInt.toNat).toInt) r.toInt td0.toInt td1.toInt clf clf1 wlf wlf1 wsf wsf1)) ∧ hx_T T_tb u.1 u.2 ∧ hx_S T_tb [(5, 0), (5, 1), (5, 9), (5, 10), (5, 11), (5, 12), (27, 0), (28, 0), (29, 0), (30, 0), (31, 0), (32, 0), (33, 0)] L h u.1 u.2) (hx_E T_tb (P_ty dA) (dC, dI) vwCl (hx_A L sz)) (hx_A L sz)) ([.ref x, .int i1, .int i2] : List Value).toArray s 0 0 (hx_A L sz)) (F0 m 45 ls []) := by
        intro n45
        induction n45 with
        | zero => intro iv45_4 fw45_qpg_0 ia45_qop ia45_qre ia45_qle H locs hL1 hl1 bliv45_4 buiv45_4 blfw45_qpg_0 bufw45_qpg_0 vi45_0 vi45_1 ls hn45; exfalso; omega
        | succ n45 ih45 =>
          intro iv45_4 fw45_qpg_0 ia45_qop ia45_qre ia45_qle H locs hL1 hl1 bliv45_4 buiv45_4 blfw45_qpg_0 bufw45_qpg_0 vi45_0 vi45_1 ls hn45 hW hT hM ffw45_qpg_0 f_x_7 f_x_10 f_x_14 f_x_5 f_x_4 f_x_17 f_x_11 f_x_2 f_x_8 f_x_6 f_qpg_1 ffv_23 ffv_24 fq_25 fw_38 fw_39 gx gqp gqc gqa gw gq_6 gq_21 gq_25 pf_x_8 pf_x_11 pf_x_6 nia45_qop nia45_qre nia45_qle af_qcl af_qwl af_qws nfa_26 cl_qc_13 cl_qc_14 cl_qc_15 cl_qc_16 cl_qc_17 cl_qc_18 cl_qp_3 cl_qp_4 nu_qp nu_qc fo_9 hDF hAC hRA kk_22Q hl
          refine lv_iload hx hb dX9_plan_45 (lv_at hl 0 rfl) ?_
          refine lv_aload_n hx hb dX9_plan_47 rfl (lv_at hl 2 rfl) ?_
          refine hk_geti hx hb hts hC_9 hown hW gx tt_9 11 (by decide) rfl kw_375 ⟨rfl, rfl, rfl⟩ f_x_11 dX9_plan_48 ?_
          refine hb_icmp_ge (zx := iv45_4.toInt) (zy := cn0.toInt) (tgt := 133) hx hb rfl rfl dX9_plan_51 (by decide) (fun c_43 => ?_) (fun c_43 => ?_)
          · skip
            obtain ⟨hOQ9, hol9⟩ := vi45_0; rw [show iv45_4.toInt.toNat = cn0.toInt.toNat by omega] at hOQ9 hol9
            have hme8 : w_39.toInt = ((eaf i1.toInt.toNat).toInt - (A (hv_IF A nw0.toInt a0.toInt.toNat)).2.1 3 * (hdf i1.toInt.toNat).toInt) := by rw [hr_36.2.2]; exact hme9
            have hun8 : w_38.toInt = i2.toInt := congrArg Int32.toInt hr_36.2.1
            have hob9 : ∀ i : Nat, (i : Int) < fw45_qpg_0.toInt → hp_ge (hp_ol agf (hz_Rn odf szf gdf owf svf (hz_rc A plf) pof pdf psm pkf pst nw0.toInt n0.toInt.toNat) i1.toInt cn0.toInt.toNat) i < cn0.toInt.toNat ∧ 0 < (hz_Rn odf szf gdf owf svf (hz_rc A plf) pof pdf psm pkf pst nw0.toInt n0.toInt.toNat) (hp_ge (hp_ol agf (hz_Rn odf szf gdf owf svf (hz_rc A plf) pof pdf psm pkf pst nw0.toInt n0.toInt.toNat) i1.toInt cn0.toInt.toNat) i) := fun i hi => hp_ol_b _ i (by omega)
            refine lv_aload_n hx hb dX9_plan_133 rfl (lv_at hl 2 rfl) ?_
            refine hk_getr hx hb hts hC_9 hown hW gx tt_9 17 (by decide) rfl kw_381 ⟨rfl, rfl, rfl⟩ f_x_17 dX9_plan_134 ?_
            have hTo := hT
            obtain ⟨fa_44, nfa_44⟩ : ∃ g : Nat → Int32, hl1.2.1 qtd = g := ⟨_, rfl⟩
            refine hx_goi (hx_runVX (As := []) (rest := []) ⟨hx, hb, hml, hown, hts⟩ hW (gqpg.S hM) tt_5 (T := TX5) (N := 13) rfl (t_X5_settle_v l dC dI dA hL1 hl1 H.size b0 qpg hT (gqpg.S hM) qle (gqle.S hM) ((hM.o gqpg trivial rfl).2.trans f_qpg_7) qre (gqre.S hM) ((hM.o gqpg trivial rfl).2.trans f_qpg_6) qtd (gqtd.S hM) ((hM.o gqpg trivial rfl).2.trans f_qpg_8) qwl (gqwl.S hM) ((hM.o gqpg trivial rfl).2.trans f_qpg_3) qop (gqop.S hM) ((hM.o gqpg trivial rfl).2.trans f_qpg_5) qws (gqws.S hM) ((hM.o gqpg trivial rfl).2.trans f_qpg_4) qcl (gqcl.S hM) ((hM.o gqpg trivial rfl).2.trans f_qpg_2) ia45_qle nia45_qle ia45_qre nia45_qre fa_44 nfa_44 wlf af_qwl ia45_qop nia45_qop wsf af_qws clf af_qcl fw45_qpg_0 ffw45_qpg_0 w_38 fw_38 w_39 fw_39 td0 f_qpg_1 (fun c9 => hz_mi ((fun c9 => (A (plf c9).toInt.toNat).2.1 2) (hp_ge (hp_ol agf (hz_Rn odf szf gdf owf svf (hz_rc A plf) pof pdf psm pkf pst nw0.toInt n0.toInt.toNat) i1.toInt cn0.toInt.toNat) c9)) ((hz_Rn odf szf gdf owf svf (hz_rc A plf) pof pdf psm pkf pst nw0.toInt n0.toInt.toNat) (hp_ge (hp_ol agf (hz_Rn odf szf gdf owf svf (hz_rc A plf) pof pdf psm pkf pst nw0.toInt n0.toInt.toNat) i1.toInt cn0.toInt.toNat) c9))) (fun i hi => (hOQ9 i (by omega)).2.2) (fun i hi => by have h8 := hob9 i hi; have h7 := hwk9 _ h8.1; have h6 := (hAB (plf (hp_ge (hp_ol agf (hz_Rn odf szf gdf owf svf (hz_rc A plf) pof pdf psm pkf pst nw0.toInt n0.toInt.toNat) i1.toInt cn0.toInt.toNat) i)).toInt.toNat).1 2; show 1 ≤ hz_mi _ _ ∧ hz_mi _ _ ≤ 9999; unfold hz_mi; dsimp only; split <;> omega) (fun c9 => (hz_Rn odf szf gdf owf svf (hz_rc A plf) pof pdf psm pkf pst nw0.toInt n0.toInt.toNat) (hp_ge (hp_ol agf (hz_Rn odf szf gdf owf svf (hz_rc A plf) pof pdf psm pkf pst nw0.toInt n0.toInt.toNat) i1.toInt cn0.toInt.toNat) c9)) (fun i hi => (hOQ9 i (by omega)).2.1) (fun i hi => ⟨(hob9 i hi).2, (hrn _ (hob9 i hi).1).2⟩) ⟨by omega, by omega⟩ (by omega) (hp_ge (hp_ol agf (hz_Rn odf szf gdf owf svf (hz_rc A plf) pof pdf psm pkf pst nw0.toInt n0.toInt.toNat) i1.toInt cn0.toInt.toNat)) (fun i hi => (hOQ9 i (by omega)).1)) hZ (cwV 0 hts (hx_gV kw_960 kw_957 kw_958 kw_959 kw_100) rfl rfl rfl (by decide +kernel) ⟨Nat.le_of_ble_eq_true rfl, Nat.le_of_ble_eq_true rfl⟩) rfl hl.1 rfl (Nat.le_of_ble_eq_true rfl) dX9_plan_137 ⟨Nat.le_of_ble_eq_true rfl, Nat.le_of_ble_eq_true rfl⟩) hW (fun r_47 L_45 h_46 H locs p_48 hW => ?_)
            obtain ⟨⟨w_50, w_51, w_52, w_53, fw_50, fw_51, fw_52, fw_53, hr_49⟩, hT, hs⟩ := p_48
            replace hT : hx_T T_tb L_45 h_46 := hT
            replace hs : hx_S T_tb [(5, 1), (5, 11), (5, 12), (27, 0), (28, 0), (29, 0), (33, 0)] hL1 hl1 L_45 h_46 := hs
            replace f_x_7 := (hs.o gx trivial rfl).2.trans f_x_7
            replace f_x_10 := (hs.o gx trivial rfl).2.trans f_x_10
            replace f_x_14 := (hs.o gx trivial rfl).2.trans f_x_14
            replace f_x_5 := (hs.o gx trivial rfl).2.trans f_x_5
            replace f_x_4 := (hs.o gx trivial rfl).2.trans f_x_4
            replace f_x_17 := (hs.o gx trivial rfl).2.trans f_x_17
            replace f_x_11 := (hs.o gx trivial rfl).1.trans f_x_11
            replace f_x_2 := (hs.o gx trivial rfl).1.trans f_x_2
            replace f_x_8 := (hs.o gx trivial rfl).1.trans f_x_8
            replace f_x_6 := (hs.o gx trivial rfl).1.trans f_x_6
            replace ffv_23 := (hs.o gq_6 trivial rfl).1.trans ffv_23
            replace ffv_24 := (hs.o gq_6 trivial rfl).1.trans ffv_24
            replace fq_25 := (hs.o gq_21 trivial rfl).2.trans fq_25
            replace fw_38 := (hs.o (gqpg.S hM) trivial rfl).1.trans fw_38
            replace fw_39 := (hs.o (gqpg.S hM) trivial rfl).1.trans fw_39
            replace ffw45_qpg_0 := (hs.o (gqpg.S hM) trivial rfl).1.trans ffw45_qpg_0
            replace pf_x_8 : ∀ j : Nat, (j : Int) < (h_46.2.1 x 8).toInt → h_46.2.2 qp j ≠ none := by
              intro j hj; rw [(hs.o gx trivial rfl).1] at hj; rw [(hs.a gqp rfl j).2]; exact pf_x_8 j hj
            replace pf_x_11 : ∀ j : Nat, (j : Int) < (h_46.2.1 x 11).toInt → h_46.2.2 qc j ≠ none := by
              intro j hj; rw [(hs.o gx trivial rfl).1] at hj; rw [(hs.a gqc rfl j).2]; exact pf_x_11 j hj
            replace pf_x_6 : ∀ j : Nat, (j : Int) < (h_46.2.1 x 6).toInt → h_46.2.2 qa j ≠ none := by
              intro j hj; rw [(hs.o gx trivial rfl).1] at hj; rw [(hs.a gqa rfl j).2]; exact pf_x_6 j hj
            replace cl_qc_13 : hx_col 100 h_46 qc 13 = odf := (hx_col_S hs hTo gqc tt_45 tt_2 rfl rfl).trans cl_qc_13
            replace cl_qc_14 : hx_col 100 h_46 qc 14 = wkf := (hx_col_S hs hTo gqc tt_45 tt_2 rfl rfl).trans cl_qc_14
            replace cl_qc_15 : hx_col 100 h_46 qc 15 = owf := (hx_col_S hs hTo gqc tt_45 tt_2 rfl rfl).trans cl_qc_15
            replace cl_qc_16 : hx_col 100 h_46 qc 16 = szf := (hx_col_S hs hTo gqc tt_45 tt_2 rfl rfl).trans cl_qc_16
            replace cl_qc_17 : hx_col 100 h_46 qc 17 = gdf := (hx_col_S hs hTo gqc tt_45 tt_2 rfl rfl).trans cl_qc_17
            replace cl_qc_18 : hx_col 100 h_46 qc 18 = svf := (hx_col_S hs hTo gqc tt_45 tt_2 rfl rfl).trans cl_qc_18
            replace cl_qp_3 : hx_col 40 h_46 qp 3 = eaf := (hx_col_S hs hTo gqp tt_44 tt_4 rfl rfl).trans cl_qp_3
            replace cl_qp_4 : hx_col 40 h_46 qp 4 = hdf := (hx_col_S hs hTo gqp tt_44 tt_4 rfl rfl).trans cl_qp_4
            replace nu_qp : hx_num 40 h_46 qp 0 (pn0.toInt) := hx_num_S hs hTo gqp tt_44 tt_4 rfl rfl nu_qp
            replace nu_qc : hx_num 100 h_46 qc 0 (cn0.toInt) := hx_num_S hs hTo gqc tt_45 tt_2 rfl rfl nu_qc
            replace hDF : hw_DF h_46 qc qp 2 agf cn0.toInt := hw_DF_S hs hTo gqc gqp tt_45 tt_2 rfl rfl rfl hDF
            replace hAC : hv_AC h_46 qc plf cn0.toInt A := hv_AC_S hs hTo gqc tt_45 tt_2 rfl tt_0 rfl rfl rfl rfl rfl rfl rfl hAC
            replace hRA : hv_RA h_46 qa w a0.toInt A := hv_RA_S hs hTo gqa gw tt_43 tt_0 rfl rfl rfl rfl rfl rfl (by omega) hRA
            replace kk_22Q : hv_AQ h_46 q_21 (((kk_22 : Nat) : Int) - 1) (A kk_22) := hv_AQ_S hs hTo gq_21 tt_0 rfl rfl rfl rfl rfl kk_22Q
            replace fo_9 := (hs.a gqp rfl _).2.trans fo_9
            replace nfa_26 : h_46.2.1 q_25 = fa_26 := (funext fun j => (hs.a gq_25 rfl j).1).trans nfa_26
            replace nia45_qop : h_46.2.1 qop = ia45_qop := (funext fun j => (hs.a (gqop.S hM) rfl j).1).trans nia45_qop
            replace nia45_qre : h_46.2.1 qre = ia45_qre := (funext fun j => (hs.a (gqre.S hM) rfl j).1).trans nia45_qre
            replace nia45_qle : h_46.2.1 qle = ia45_qle := (funext fun j => (hs.a (gqle.S hM) rfl j).1).trans nia45_qle
            replace hM := hM.tr (hs.mono (by decide))
            replace gx := gx.S hs
            replace gqp := gqp.S hs
            replace gqc := gqc.S hs
            replace gqa := gqa.S hs
            replace gw := gw.S hs
            replace gq_6 := gq_6.S hs
            replace gq_21 := gq_21.S hs
            replace gq_25 := gq_25.S hs
            have fw_50 : h_46.2.1 qpg 1 = w_50 := fw_50
            have bw_50 := hT.gi (gqpg.S hM) tt_5 (k := 1) rfl
            rw [fw_50] at bw_50
            have bw_50 : 0 ≤ w_50.toInt ∧ w_50.toInt ≤ 4 := bw_50
            have fw_51 : h_46.2.1 qcl = w_51 := fw_51
            have fw_52 : h_46.2.1 qwl = w_52 := fw_52
            have fw_53 : h_46.2.1 qws = w_53 := fw_53
            exact hx_reti hx hb hr hlk hW ⟨⟨w_50, w_51, w_52, w_53, fw_50, fw_51, fw_52, fw_53, (by have h9 := hr_49; rw [hme8, hun8] at h9; exact hp_PS_s ⟨⟨by omega, by omega⟩, by omega, by omega⟩ (by omega) hol9 h9)⟩, hT, hM⟩ dX9_plan_140
          · skip
            refine lv_aload_n hx hb dX9_plan_54 rfl (lv_at hl 2 rfl) ?_
            refine hk_getr hx hb hts hC_9 hown hW gx tt_9 10 (by decide) rfl kw_374 ⟨rfl, rfl, rfl⟩ f_x_10 dX9_plan_55 ?_
            refine lv_iload hx hb dX9_plan_58 (lv_at hl 0 rfl) ?_
            refine hx_aaldN hx hb hW hT gqc tt_45 (t1 := 2) rfl ⟨by omega, by omega⟩ (pf_x_11 _ (by rw [f_x_11]; exact hx_tnI (by omega) (by omega))) dX9_plan_60 (fun q_54 fq_54 gq_54 => ?_)
            refine lv_astore (lv' := [(5, .ref q_54), (4, .int iv45_4), (3, .ref q_6), (0, .ref x), (1, .int i1), (2, .int i2)]) hx hb dX9_plan_61 hl (by decide) rfl (fun ls hl => ?_)
            refine lv_aload hx hb dX9_plan_63 (lv_at hl 0 rfl) ?_
            refine hx_getn hx hb hts hC_2 hown hW hT gq_54 tt_2 2 (by decide) rfl kw_733 ⟨rfl, rfl, rfl⟩ dX9_plan_65 (fun q_55 fq_55 gq_55 => ?_)
            obtain ⟨dAq_55, dBq_55, dCq_55⟩ := hDF iv45_4.toNatClampNeg (by unfold Int32.toNatClampNeg; omega) (by unfold Int32.toNatClampNeg; omega) _ _ fq_54 fq_55
            have dAq_55 : 0 ≤ (agf iv45_4.toNatClampNeg).toInt := dAq_55
            have dBq_55 : (agf iv45_4.toNatClampNeg).toInt < 40 := dBq_55
            have dUq_55 : 0 ≤ (agf iv45_4.toInt.toNat).toInt ∧ (agf iv45_4.toInt.toNat).toInt < 40 := ⟨dAq_55, dBq_55⟩
            have eoq_55 : hl1.2.2 qp (agf iv45_4.toNatClampNeg).toNatClampNeg = some q_55 := dCq_55
            have hpe9 := hz_pe nu_qp ⟨by omega, by omega⟩ ⟨by omega, by omega⟩ eoq_55 fo_9
            refine lv_aload_n hx hb dX9_plan_68 rfl (lv_at hl 2 rfl) ?_
            refine lv_acmp_ne (rx := (some q_55)) (ry := (some q_6)) (tgt := 127) hx hb dX9_plan_69 (by decide) (fun c_56 => ?_) (fun c_56 => ?_)
            · skip
              obtain ⟨x_57, ex_57⟩ : ∃ y : Int32, y = iv45_4 + Int32.ofInt 1 := ⟨_, rfl⟩
              have rg_58 := i32_r iv45_4
              have zx_57 : x_57.toInt = iv45_4.toInt + (1) := by rw [ex_57]; exact i32_add rfl (by decide) (by omega) (by omega)
              refine lv_iinc (v := x_57) (lv' := [(4, .int x_57), (5, .ref q_54), (3, .ref q_6), (0, .ref x), (1, .int i1), (2, .int i2)]) hx hb dX9_plan_127 hl (k := 1) rfl ex_57.symm (by decide) rfl (fun ls hl => ?_)
              refine lv_goto (tgt := 45) hx hb dX9_plan_130 (by decide) ?_
              exact ih45 x_57 fw45_qpg_0 ia45_qop ia45_qre ia45_qle _ _ hL1 hl1 (by omega) (by omega) (by omega) (by omega) (hp_OQ_n vi45_0.1 vi45_0.2 (by omega) (fun z => c_56 (congrArg some (hpe9.mpr z.1))) zx_57) (by omega) ls (by omega) hW hT hM ffw45_qpg_0 f_x_7 f_x_10 f_x_14 f_x_5 f_x_4 f_x_17 f_x_11 f_x_2 f_x_8 f_x_6 f_qpg_1 ffv_23 ffv_24 fq_25 fw_38 fw_39 gx gqp gqc gqa gw gq_6 gq_21 gq_25 pf_x_8 pf_x_11 pf_x_6 nia45_qop nia45_qre nia45_qle af_qcl af_qwl af_qws nfa_26 cl_qc_13 cl_qc_14 cl_qc_15 cl_qc_16 cl_qc_17 cl_qc_18 cl_qp_3 cl_qp_4 nu_qp nu_qc fo_9 hDF hAC hRA kk_22Q (lv_sub hl [0, 2, 3, 4, 5] rfl)
            · skip
              have hag9 := hpe9.mp (Option.some.inj c_56)
              refine lv_aload hx hb dX9_plan_72 (lv_at hl 0 rfl) ?_
              refine lv_aload_n hx hb dX9_plan_74 rfl (lv_at hl 3 rfl) ?_
              refine hk_getr hx hb hts hC_9 hown hW gx tt_9 14 (by decide) rfl kw_378 ⟨rfl, rfl, rfl⟩ f_x_14 dX9_plan_75 ?_
              refine lv_aload_n hx hb dX9_plan_78 rfl (lv_at hl 3 rfl) ?_
              refine hk_geti hx hb hts hC_9 hown hW gx tt_9 2 (by decide) rfl kw_366 ⟨rfl, rfl, rfl⟩ f_x_2 dX9_plan_79 ?_
              obtain ⟨fv_59, efv_59⟩ : ∃ y : Int32, y = hl1.2.1 q_54 13 := ⟨_, rfl⟩
              have bfv_59 := hT.gi gq_54 tt_2 (k := 13) rfl
              rw [← efv_59] at bfv_59
              have bfv_59 : -2147483648 ≤ fv_59.toInt ∧ fv_59.toInt ≤ 2147483647 := bfv_59
              have ffv_59 := efv_59.symm
              have cq_60 : fv_59 = odf iv45_4.toInt.toNat := by rw [← ffv_59, ← cl_qc_13]; exact (hx_col_at fq_54 (by unfold Int32.toNatClampNeg; omega)).symm
              obtain ⟨fv_61, efv_61⟩ : ∃ y : Int32, y = hl1.2.1 q_54 14 := ⟨_, rfl⟩
              have bfv_61 := hT.gi gq_54 tt_2 (k := 14) rfl
              rw [← efv_61] at bfv_61
              have bfv_61 : -2147483648 ≤ fv_61.toInt ∧ fv_61.toInt ≤ 2147483647 := bfv_61
              have ffv_61 := efv_61.symm
              have cq_62 : fv_61 = wkf iv45_4.toInt.toNat := by rw [← ffv_61, ← cl_qc_14]; exact (hx_col_at fq_54 (by unfold Int32.toNatClampNeg; omega)).symm
              obtain ⟨fv_63, efv_63⟩ : ∃ y : Int32, y = hl1.2.1 q_54 15 := ⟨_, rfl⟩
              have bfv_63 := hT.gi gq_54 tt_2 (k := 15) rfl
              rw [← efv_63] at bfv_63
              have bfv_63 : -2147483648 ≤ fv_63.toInt ∧ fv_63.toInt ≤ 2147483647 := bfv_63
              have ffv_63 := efv_63.symm
              have cq_64 : fv_63 = owf iv45_4.toInt.toNat := by rw [← ffv_63, ← cl_qc_15]; exact (hx_col_at fq_54 (by unfold Int32.toNatClampNeg; omega)).symm
              obtain ⟨fv_65, efv_65⟩ : ∃ y : Int32, y = hl1.2.1 q_54 16 := ⟨_, rfl⟩
              have bfv_65 := hT.gi gq_54 tt_2 (k := 16) rfl
              rw [← efv_65] at bfv_65
              have bfv_65 : -2147483648 ≤ fv_65.toInt ∧ fv_65.toInt ≤ 2147483647 := bfv_65
              have ffv_65 := efv_65.symm
              have cq_66 : fv_65 = szf iv45_4.toInt.toNat := by rw [← ffv_65, ← cl_qc_16]; exact (hx_col_at fq_54 (by unfold Int32.toNatClampNeg; omega)).symm
              obtain ⟨fv_67, efv_67⟩ : ∃ y : Int32, y = hl1.2.1 q_54 17 := ⟨_, rfl⟩
              have bfv_67 := hT.gi gq_54 tt_2 (k := 17) rfl
              rw [← efv_67] at bfv_67
              have bfv_67 : -2147483648 ≤ fv_67.toInt ∧ fv_67.toInt ≤ 2147483647 := bfv_67
              have ffv_67 := efv_67.symm
              have cq_68 : fv_67 = gdf iv45_4.toInt.toNat := by rw [← ffv_67, ← cl_qc_17]; exact (hx_col_at fq_54 (by unfold Int32.toNatClampNeg; omega)).symm
              obtain ⟨fv_69, efv_69⟩ : ∃ y : Int32, y = hl1.2.1 q_54 18 := ⟨_, rfl⟩
              have bfv_69 := hT.gi gq_54 tt_2 (k := 18) rfl
              rw [← efv_69] at bfv_69
              have bfv_69 : -2147483648 ≤ fv_69.toInt ∧ fv_69.toInt ≤ 2147483647 := bfv_69
              have ffv_69 := efv_69.symm
              have cq_70 : fv_69 = svf iv45_4.toInt.toNat := by rw [← ffv_69, ← cl_qc_18]; exact (hx_col_at fq_54 (by unfold Int32.toNatClampNeg; omega)).symm
              have cb_71 := hCB iv45_4.toInt.toNat (by omega); rw [← cq_60, ← cq_62, ← cq_64, ← cq_66, ← cq_68, ← cq_70] at cb_71
              obtain ⟨⟨cb_71al, cb_71ah⟩, ⟨cb_71bl, cb_71bh⟩, ⟨cb_71cl, cb_71ch⟩, ⟨cb_71dl, cb_71dh⟩, ⟨cb_71el, cb_71eh⟩, ⟨cb_71fl, cb_71fh⟩⟩ := cb_71
              obtain ⟨fv_72, efv_72⟩ : ∃ y : Int32, y = hl1.2.1 q_54 0 := ⟨_, rfl⟩
              have bfv_72 := hT.gi gq_54 tt_2 (k := 0) rfl
              rw [← efv_72] at bfv_72
              have bfv_72 : 0 ≤ fv_72.toInt ∧ fv_72.toInt ≤ 99 := bfv_72
              have ffv_72 := efv_72.symm
              have cq_73 : fv_72 = iv45_4 := by rw [← ffv_72]; exact hx_num_at nu_qc fq_54 (by omega) (by omega)
              have hTo := hT
              obtain ⟨q_74, fq_74, gq_74⟩ := hv_rf hT gq_54 tt_2 (k := 3) (u := 0) rfl
              obtain ⟨q_75, fq_75, gq_75⟩ := hv_rf hT gq_74 tt_0 (k := 2) (u := 11) rfl
              obtain ⟨fa_76, nfa_76⟩ : ∃ g : Nat → Int32, hl1.2.1 q_75 = g := ⟨_, rfl⟩
              refine hx_goi (hx_runV (As := [.ref qy, .int nw0]) (rest := []) ⟨hx, hb, hml, hown, hts⟩ hW gq_54 tt_2 (T := TX2) (N := 19) rfl (t_X2_isOpen_v l dC dI dA hL1 hl1 H.size q_54 qy nw0 hT gq_54 (gqy.S hM) pqo (gpqo.S hM) ((hM.o gqy trivial rfl).2.trans f_qy_2) pqd (gpqd.S hM) ((hM.o gqy trivial rfl).2.trans f_qy_3) pqs (gpqs.S hM) ((hM.o gqy trivial rfl).2.trans f_qy_5) pqk (gpqk.S hM) ((hM.o gqy trivial rfl).2.trans f_qy_4) pqt (gpqt.S hM) ((hM.o gqy trivial rfl).2.trans f_qy_1) q_74 gq_74 fq_74 q_75 gq_75 fq_75 pof (hx_afS hM gpqo rfl af_pqo) pdf (hx_afS hM gpqd rfl af_pqd) psm (hx_afS hM gpqs rfl af_pqs) pkf (hx_afS hM gpqk rfl af_pqk) pst (hx_afS hM gpqt rfl af_pqt) fa_76 nfa_76 fv_59 ffv_59 fv_65 ffv_65 fv_67 ffv_67 fv_63 ffv_63 fv_69 ffv_69 fv_72 ffv_72 n0 ((hM.o gqy trivial rfl).1.trans f_qy_0) (A (plf iv45_4.toInt.toNat).toInt.toNat).2.1 (by rw [← nfa_76]; exact (hAC iv45_4.toNatClampNeg (by unfold Int32.toNatClampNeg; omega) (by unfold Int32.toNatClampNeg; omega) _ _ fq_54 fq_74).2.2.2.1 _ fq_75) (hAB _).1 ⟨by omega, by omega⟩ ⟨by omega, by omega⟩ hps) (cwV 2 hts (hx_gV kw_857 kw_854 kw_855 kw_856 kw_110) rfl rfl rfl (by decide +kernel) ⟨Nat.le_of_ble_eq_true rfl, Nat.le_of_ble_eq_true rfl⟩) rfl hl.1 rfl (Nat.le_of_ble_eq_true rfl) dX9_plan_82 ⟨Nat.le_of_ble_eq_true rfl, Nat.le_of_ble_eq_true rfl⟩) hW (fun r_79 L_77 h_78 H locs p_80 hW => ?_)
              obtain ⟨hr_81, hT, hs⟩ := p_80
              replace hT : hx_T T_tb L_77 h_78 := hT
              replace hs : hx_S T_tb [] hL1 hl1 L_77 h_78 := hs
              replace f_x_7 := (hs.o gx trivial rfl).2.trans f_x_7
              replace f_x_10 := (hs.o gx trivial rfl).2.trans f_x_10
              replace f_x_14 := (hs.o gx trivial rfl).2.trans f_x_14
              replace f_x_5 := (hs.o gx trivial rfl).2.trans f_x_5
              replace f_x_4 := (hs.o gx trivial rfl).2.trans f_x_4
              replace f_x_17 := (hs.o gx trivial rfl).2.trans f_x_17
              replace f_x_11 := (hs.o gx trivial rfl).1.trans f_x_11
              replace f_x_2 := (hs.o gx trivial rfl).1.trans f_x_2
              replace f_x_8 := (hs.o gx trivial rfl).1.trans f_x_8
              replace f_x_6 := (hs.o gx trivial rfl).1.trans f_x_6
              replace f_qpg_1 := (hs.o (gqpg.S hM) trivial rfl).1.trans f_qpg_1
              replace ffv_23 := (hs.o gq_6 trivial rfl).1.trans ffv_23
              replace ffv_24 := (hs.o gq_6 trivial rfl).1.trans ffv_24
              replace fq_25 := (hs.o gq_21 trivial rfl).2.trans fq_25
              replace fw_38 := (hs.o (gqpg.S hM) trivial rfl).1.trans fw_38
              replace fw_39 := (hs.o (gqpg.S hM) trivial rfl).1.trans fw_39
              replace ffw45_qpg_0 := (hs.o (gqpg.S hM) trivial rfl).1.trans ffw45_qpg_0
              replace fq_55 := (hs.o gq_54 trivial rfl).2.trans fq_55
              replace ffv_59 := (hs.o gq_54 trivial rfl).1.trans ffv_59
              replace ffv_61 := (hs.o gq_54 trivial rfl).1.trans ffv_61
              replace ffv_63 := (hs.o gq_54 trivial rfl).1.trans ffv_63
              replace ffv_65 := (hs.o gq_54 trivial rfl).1.trans ffv_65
              replace ffv_67 := (hs.o gq_54 trivial rfl).1.trans ffv_67
              replace ffv_69 := (hs.o gq_54 trivial rfl).1.trans ffv_69
              replace ffv_72 := (hs.o gq_54 trivial rfl).1.trans ffv_72
              replace fq_74 := (hs.o gq_54 trivial rfl).2.trans fq_74
              replace fq_75 := (hs.o gq_74 trivial rfl).2.trans fq_75
              replace pf_x_8 : ∀ j : Nat, (j : Int) < (h_78.2.1 x 8).toInt → h_78.2.2 qp j ≠ none := by
                intro j hj; rw [(hs.o gx trivial rfl).1] at hj; rw [(hs.a gqp rfl j).2]; exact pf_x_8 j hj
              replace pf_x_11 : ∀ j : Nat, (j : Int) < (h_78.2.1 x 11).toInt → h_78.2.2 qc j ≠ none := by
                intro j hj; rw [(hs.o gx trivial rfl).1] at hj; rw [(hs.a gqc rfl j).2]; exact pf_x_11 j hj
              replace pf_x_6 : ∀ j : Nat, (j : Int) < (h_78.2.1 x 6).toInt → h_78.2.2 qa j ≠ none := by
                intro j hj; rw [(hs.o gx trivial rfl).1] at hj; rw [(hs.a gqa rfl j).2]; exact pf_x_6 j hj
              replace cl_qc_13 : hx_col 100 h_78 qc 13 = odf := (hx_col_S hs hTo gqc tt_45 tt_2 rfl rfl).trans cl_qc_13
              replace cl_qc_14 : hx_col 100 h_78 qc 14 = wkf := (hx_col_S hs hTo gqc tt_45 tt_2 rfl rfl).trans cl_qc_14
              replace cl_qc_15 : hx_col 100 h_78 qc 15 = owf := (hx_col_S hs hTo gqc tt_45 tt_2 rfl rfl).trans cl_qc_15
              replace cl_qc_16 : hx_col 100 h_78 qc 16 = szf := (hx_col_S hs hTo gqc tt_45 tt_2 rfl rfl).trans cl_qc_16
              replace cl_qc_17 : hx_col 100 h_78 qc 17 = gdf := (hx_col_S hs hTo gqc tt_45 tt_2 rfl rfl).trans cl_qc_17
              replace cl_qc_18 : hx_col 100 h_78 qc 18 = svf := (hx_col_S hs hTo gqc tt_45 tt_2 rfl rfl).trans cl_qc_18
              replace cl_qp_3 : hx_col 40 h_78 qp 3 = eaf := (hx_col_S hs hTo gqp tt_44 tt_4 rfl rfl).trans cl_qp_3
              replace cl_qp_4 : hx_col 40 h_78 qp 4 = hdf := (hx_col_S hs hTo gqp tt_44 tt_4 rfl rfl).trans cl_qp_4
              replace nu_qp : hx_num 40 h_78 qp 0 (pn0.toInt) := hx_num_S hs hTo gqp tt_44 tt_4 rfl rfl nu_qp
              replace nu_qc : hx_num 100 h_78 qc 0 (cn0.toInt) := hx_num_S hs hTo gqc tt_45 tt_2 rfl rfl nu_qc
              replace hDF : hw_DF h_78 qc qp 2 agf cn0.toInt := hw_DF_S hs hTo gqc gqp tt_45 tt_2 rfl rfl rfl hDF
              replace hAC : hv_AC h_78 qc plf cn0.toInt A := hv_AC_S hs hTo gqc tt_45 tt_2 rfl tt_0 rfl rfl rfl rfl rfl rfl rfl hAC
              replace hRA : hv_RA h_78 qa w a0.toInt A := hv_RA_S hs hTo gqa gw tt_43 tt_0 rfl rfl rfl rfl rfl rfl (by omega) hRA
              replace kk_22Q : hv_AQ h_78 q_21 (((kk_22 : Nat) : Int) - 1) (A kk_22) := hv_AQ_S hs hTo gq_21 tt_0 rfl rfl rfl rfl rfl kk_22Q
              replace fo_9 := (hs.a gqp rfl _).2.trans fo_9
              replace fq_54 := (hs.a gqc rfl _).2.trans fq_54
              replace eoq_55 := (hs.a gqp rfl _).2.trans eoq_55
              replace af_qcl : h_78.2.1 qcl = clf := (funext fun j => (hs.a (gqcl.S hM) rfl j).1).trans af_qcl
              replace af_qwl : h_78.2.1 qwl = wlf := (funext fun j => (hs.a (gqwl.S hM) rfl j).1).trans af_qwl
              replace af_qws : h_78.2.1 qws = wsf := (funext fun j => (hs.a (gqws.S hM) rfl j).1).trans af_qws
              replace nfa_26 : h_78.2.1 q_25 = fa_26 := (funext fun j => (hs.a gq_25 rfl j).1).trans nfa_26
              replace nia45_qop : h_78.2.1 qop = ia45_qop := (funext fun j => (hs.a (gqop.S hM) rfl j).1).trans nia45_qop
              replace nia45_qre : h_78.2.1 qre = ia45_qre := (funext fun j => (hs.a (gqre.S hM) rfl j).1).trans nia45_qre
              replace nia45_qle : h_78.2.1 qle = ia45_qle := (funext fun j => (hs.a (gqle.S hM) rfl j).1).trans nia45_qle
              replace nfa_76 : h_78.2.1 q_75 = fa_76 := (funext fun j => (hs.a gq_75 rfl j).1).trans nfa_76
              replace hM := hM.tr (hs.mono (by decide))
              replace gx := gx.S hs
              replace gqp := gqp.S hs
              replace gqc := gqc.S hs
              replace gqa := gqa.S hs
              replace gw := gw.S hs
              replace gq_6 := gq_6.S hs
              replace gq_21 := gq_21.S hs
              replace gq_25 := gq_25.S hs
              replace gq_54 := gq_54.S hs
              replace gq_55 := gq_55.S hs
              replace gq_74 := gq_74.S hs
              replace gq_75 := gq_75.S hs
              have hio9 : (r_79.toInt = 1 ∧ 0 < ((hz_Rn odf szf gdf owf svf (hz_rc A plf) pof pdf psm pkf pst nw0.toInt n0.toInt.toNat) iv45_4.toInt.toNat)) ∨ (r_79.toInt = 0 ∧ ¬ 0 < ((hz_Rn odf szf gdf owf svf (hz_rc A plf) pof pdf psm pkf pst nw0.toInt n0.toInt.toNat) iv45_4.toInt.toNat)) := by unfold hz_Rn; rw [show ((iv45_4.toInt.toNat : Nat) : Int) = fv_72.toInt from by rw [cq_73]; omega, ← cq_70, ← cq_60, ← cq_66, ← cq_68, ← cq_64]; exact hr_81
              clear hr_81
              refine hb_if_eq (zx := r_79.toInt) (tgt := 127) hx hb rfl dX9_plan_85 (by decide) (fun c_82 => ?_) (fun c_82 => ?_)
              · skip
                obtain ⟨x_83, ex_83⟩ : ∃ y : Int32, y = iv45_4 + Int32.ofInt 1 := ⟨_, rfl⟩
                have rg_84 := i32_r iv45_4
                have zx_83 : x_83.toInt = iv45_4.toInt + (1) := by rw [ex_83]; exact i32_add rfl (by decide) (by omega) (by omega)
                refine lv_iinc (v := x_83) (lv' := [(4, .int x_83), (5, .ref q_54), (3, .ref q_6), (0, .ref x), (1, .int i1), (2, .int i2)]) hx hb dX9_plan_127 hl (k := 1) rfl ex_83.symm (by decide) rfl (fun ls hl => ?_)
                refine lv_goto (tgt := 45) hx hb dX9_plan_130 (by decide) ?_
                exact ih45 x_83 fw45_qpg_0 ia45_qop ia45_qre ia45_qle _ _ L_77 h_78 (by omega) (by omega) (by omega) (by omega) (hp_OQ_n vi45_0.1 vi45_0.2 (by omega) (fun z => by have z9 := z.2; omega) zx_83) (by omega) ls (by omega) hW hT hM ffw45_qpg_0 f_x_7 f_x_10 f_x_14 f_x_5 f_x_4 f_x_17 f_x_11 f_x_2 f_x_8 f_x_6 f_qpg_1 ffv_23 ffv_24 fq_25 fw_38 fw_39 gx gqp gqc gqa gw gq_6 gq_21 gq_25 pf_x_8 pf_x_11 pf_x_6 nia45_qop nia45_qre nia45_qle af_qcl af_qwl af_qws nfa_26 cl_qc_13 cl_qc_14 cl_qc_15 cl_qc_16 cl_qc_17 cl_qc_18 cl_qp_3 cl_qp_4 nu_qp nu_qc fo_9 hDF hAC hRA kk_22Q (lv_sub hl [0, 2, 3, 4, 5] rfl)
              · skip
                have hpo9 : 0 < (hz_Rn odf szf gdf owf svf (hz_rc A plf) pof pdf psm pkf pst nw0.toInt n0.toInt.toNat) iv45_4.toInt.toNat := by omega
                refine lv_aload_n hx hb dX9_plan_88 rfl (lv_at hl 3 rfl) ?_
                refine hk_getr hx hb hts hC_9 hown hW gx tt_9 17 (by decide) rfl kw_381 ⟨rfl, rfl, rfl⟩ f_x_17 dX9_plan_89 ?_
                refine hk_geti hx hb hts hC_5 hown hW (gqpg.S hM) tt_5 0 (by decide) rfl kw_259 ⟨rfl, rfl, rfl⟩ ffw45_qpg_0 dX9_plan_92 ?_
                refine lv_iconst (v := 4) hx hb dX9_plan_95 (by decide) ?_
                refine hb_icmp_lt (zx := fw45_qpg_0.toInt) (zy := 4) (tgt := 101) hx hb rfl (by decide) dX9_plan_96 (by decide) (fun c_85 => ?_) (fun c_85 => ?_)
                · skip
                  refine lv_aload_n hx hb dX9_plan_101 rfl (lv_at hl 3 rfl) ?_
                  refine hk_getr hx hb hts hC_9 hown hW gx tt_9 17 (by decide) rfl kw_381 ⟨rfl, rfl, rfl⟩ f_x_17 dX9_plan_102 ?_
                  refine lv_aload hx hb dX9_plan_105 (lv_at hl 0 rfl) ?_
                  refine lv_aload hx hb dX9_plan_107 (lv_at hl 0 rfl) ?_
                  refine lv_aload_n hx hb dX9_plan_109 rfl (lv_at hl 3 rfl) ?_
                  refine hk_getr hx hb hts hC_9 hown hW gx tt_9 14 (by decide) rfl kw_378 ⟨rfl, rfl, rfl⟩ f_x_14 dX9_plan_110 ?_
                  refine lv_aload_n hx hb dX9_plan_113 rfl (lv_at hl 3 rfl) ?_
                  refine hk_geti hx hb hts hC_9 hown hW gx tt_9 2 (by decide) rfl kw_366 ⟨rfl, rfl, rfl⟩ f_x_2 dX9_plan_114 ?_
                  refine lv_aload_n hx hb dX9_plan_117 rfl (lv_at hl 3 rfl) ?_
                  refine hk_geti hx hb hts hC_9 hown hW gx tt_9 2 (by decide) rfl kw_366 ⟨rfl, rfl, rfl⟩ f_x_2 dX9_plan_118 ?_
                  have hTo := hT
                  refine hx_goi (hx_runV (As := [.ref qy, .int nw0, .int nw0]) (rest := [.ref q_54, .ref qpg]) ⟨hx, hb, hml, hown, hts⟩ hW gq_54 tt_2 (T := TX2) (N := 19) rfl (t_X2_restOn_v l dC dI dA L_77 h_78 H.size q_54 qy nw0 nw0 hT gq_54 (gqy.S hM) pqo (gpqo.S hM) ((hM.o gqy trivial rfl).2.trans f_qy_2) pqd (gpqd.S hM) ((hM.o gqy trivial rfl).2.trans f_qy_3) pqs (gpqs.S hM) ((hM.o gqy trivial rfl).2.trans f_qy_5) pqk (gpqk.S hM) ((hM.o gqy trivial rfl).2.trans f_qy_4) pqt (gpqt.S hM) ((hM.o gqy trivial rfl).2.trans f_qy_1) q_74 gq_74 fq_74 q_75 gq_75 fq_75 pof (hx_afS hM gpqo rfl af_pqo) pdf (hx_afS hM gpqd rfl af_pqd) psm (hx_afS hM gpqs rfl af_pqs) pkf (hx_afS hM gpqk rfl af_pqk) pst (hx_afS hM gpqt rfl af_pqt) fa_76 nfa_76 fv_59 ffv_59 fv_65 ffv_65 fv_67 ffv_67 fv_63 ffv_63 fv_69 ffv_69 fv_72 ffv_72 n0 ((hM.o gqy trivial rfl).1.trans f_qy_0) (A (plf iv45_4.toInt.toNat).toInt.toNat).2.1 (by rw [← nfa_76]; exact (hAC iv45_4.toNatClampNeg (by unfold Int32.toNatClampNeg; omega) (by unfold Int32.toNatClampNeg; omega) _ _ fq_54 fq_74).2.2.2.1 _ fq_75) (hAB _).1 ⟨by omega, by omega⟩ ⟨by omega, by omega⟩ hps) (cwV 3 hts (hx_gV kw_861 kw_927 kw_859 kw_860 kw_110) rfl rfl rfl (by decide +kernel) ⟨Nat.le_of_ble_eq_true rfl, Nat.le_of_ble_eq_true rfl⟩) rfl hl.1 rfl (Nat.le_of_ble_eq_true rfl) dX9_plan_121 ⟨Nat.le_of_ble_eq_true rfl, Nat.le_of_ble_eq_true rfl⟩) hW (fun r_88 L_86 h_87 H locs p_89 hW => ?_)
                  obtain ⟨hr_90, hT, hs⟩ := p_89
                  replace hT : hx_T T_tb L_86 h_87 := hT
                  replace hs : hx_S T_tb [] L_77 h_78 L_86 h_87 := hs
                  replace f_x_7 := (hs.o gx trivial rfl).2.trans f_x_7
                  replace f_x_10 := (hs.o gx trivial rfl).2.trans f_x_10
                  replace f_x_14 := (hs.o gx trivial rfl).2.trans f_x_14
                  replace f_x_5 := (hs.o gx trivial rfl).2.trans f_x_5
                  replace f_x_4 := (hs.o gx trivial rfl).2.trans f_x_4
                  replace f_x_17 := (hs.o gx trivial rfl).2.trans f_x_17
                  replace f_x_11 := (hs.o gx trivial rfl).1.trans f_x_11
                  replace f_x_2 := (hs.o gx trivial rfl).1.trans f_x_2
                  replace f_x_8 := (hs.o gx trivial rfl).1.trans f_x_8
                  replace f_x_6 := (hs.o gx trivial rfl).1.trans f_x_6
                  replace f_qpg_1 := (hs.o (gqpg.S hM) trivial rfl).1.trans f_qpg_1
                  replace ffv_23 := (hs.o gq_6 trivial rfl).1.trans ffv_23
                  replace ffv_24 := (hs.o gq_6 trivial rfl).1.trans ffv_24
                  replace fq_25 := (hs.o gq_21 trivial rfl).2.trans fq_25
                  replace fw_38 := (hs.o (gqpg.S hM) trivial rfl).1.trans fw_38
                  replace fw_39 := (hs.o (gqpg.S hM) trivial rfl).1.trans fw_39
                  replace ffw45_qpg_0 := (hs.o (gqpg.S hM) trivial rfl).1.trans ffw45_qpg_0
                  replace fq_55 := (hs.o gq_54 trivial rfl).2.trans fq_55
                  replace ffv_59 := (hs.o gq_54 trivial rfl).1.trans ffv_59
                  replace ffv_61 := (hs.o gq_54 trivial rfl).1.trans ffv_61
                  replace ffv_63 := (hs.o gq_54 trivial rfl).1.trans ffv_63
                  replace ffv_65 := (hs.o gq_54 trivial rfl).1.trans ffv_65
                  replace ffv_67 := (hs.o gq_54 trivial rfl).1.trans ffv_67
                  replace ffv_69 := (hs.o gq_54 trivial rfl).1.trans ffv_69
                  replace ffv_72 := (hs.o gq_54 trivial rfl).1.trans ffv_72
                  replace fq_74 := (hs.o gq_54 trivial rfl).2.trans fq_74
                  replace fq_75 := (hs.o gq_74 trivial rfl).2.trans fq_75
                  replace pf_x_8 : ∀ j : Nat, (j : Int) < (h_87.2.1 x 8).toInt → h_87.2.2 qp j ≠ none := by
                    intro j hj; rw [(hs.o gx trivial rfl).1] at hj; rw [(hs.a gqp rfl j).2]; exact pf_x_8 j hj
                  replace pf_x_11 : ∀ j : Nat, (j : Int) < (h_87.2.1 x 11).toInt → h_87.2.2 qc j ≠ none := by
                    intro j hj; rw [(hs.o gx trivial rfl).1] at hj; rw [(hs.a gqc rfl j).2]; exact pf_x_11 j hj
                  replace pf_x_6 : ∀ j : Nat, (j : Int) < (h_87.2.1 x 6).toInt → h_87.2.2 qa j ≠ none := by
                    intro j hj; rw [(hs.o gx trivial rfl).1] at hj; rw [(hs.a gqa rfl j).2]; exact pf_x_6 j hj
                  replace cl_qc_13 : hx_col 100 h_87 qc 13 = odf := (hx_col_S hs hTo gqc tt_45 tt_2 rfl rfl).trans cl_qc_13
                  replace cl_qc_14 : hx_col 100 h_87 qc 14 = wkf := (hx_col_S hs hTo gqc tt_45 tt_2 rfl rfl).trans cl_qc_14
                  replace cl_qc_15 : hx_col 100 h_87 qc 15 = owf := (hx_col_S hs hTo gqc tt_45 tt_2 rfl rfl).trans cl_qc_15
                  replace cl_qc_16 : hx_col 100 h_87 qc 16 = szf := (hx_col_S hs hTo gqc tt_45 tt_2 rfl rfl).trans cl_qc_16
                  replace cl_qc_17 : hx_col 100 h_87 qc 17 = gdf := (hx_col_S hs hTo gqc tt_45 tt_2 rfl rfl).trans cl_qc_17
                  replace cl_qc_18 : hx_col 100 h_87 qc 18 = svf := (hx_col_S hs hTo gqc tt_45 tt_2 rfl rfl).trans cl_qc_18
                  replace cl_qp_3 : hx_col 40 h_87 qp 3 = eaf := (hx_col_S hs hTo gqp tt_44 tt_4 rfl rfl).trans cl_qp_3
                  replace cl_qp_4 : hx_col 40 h_87 qp 4 = hdf := (hx_col_S hs hTo gqp tt_44 tt_4 rfl rfl).trans cl_qp_4
                  replace nu_qp : hx_num 40 h_87 qp 0 (pn0.toInt) := hx_num_S hs hTo gqp tt_44 tt_4 rfl rfl nu_qp
                  replace nu_qc : hx_num 100 h_87 qc 0 (cn0.toInt) := hx_num_S hs hTo gqc tt_45 tt_2 rfl rfl nu_qc
                  replace hDF : hw_DF h_87 qc qp 2 agf cn0.toInt := hw_DF_S hs hTo gqc gqp tt_45 tt_2 rfl rfl rfl hDF
                  replace hAC : hv_AC h_87 qc plf cn0.toInt A := hv_AC_S hs hTo gqc tt_45 tt_2 rfl tt_0 rfl rfl rfl rfl rfl rfl rfl hAC
                  replace hRA : hv_RA h_87 qa w a0.toInt A := hv_RA_S hs hTo gqa gw tt_43 tt_0 rfl rfl rfl rfl rfl rfl (by omega) hRA
                  replace kk_22Q : hv_AQ h_87 q_21 (((kk_22 : Nat) : Int) - 1) (A kk_22) := hv_AQ_S hs hTo gq_21 tt_0 rfl rfl rfl rfl rfl kk_22Q
                  replace fo_9 := (hs.a gqp rfl _).2.trans fo_9
                  replace fq_54 := (hs.a gqc rfl _).2.trans fq_54
                  replace eoq_55 := (hs.a gqp rfl _).2.trans eoq_55
                  replace af_qcl : h_87.2.1 qcl = clf := (funext fun j => (hs.a (gqcl.S hM) rfl j).1).trans af_qcl
                  replace af_qwl : h_87.2.1 qwl = wlf := (funext fun j => (hs.a (gqwl.S hM) rfl j).1).trans af_qwl
                  replace af_qws : h_87.2.1 qws = wsf := (funext fun j => (hs.a (gqws.S hM) rfl j).1).trans af_qws
                  replace nfa_26 : h_87.2.1 q_25 = fa_26 := (funext fun j => (hs.a gq_25 rfl j).1).trans nfa_26
                  replace nia45_qop : h_87.2.1 qop = ia45_qop := (funext fun j => (hs.a (gqop.S hM) rfl j).1).trans nia45_qop
                  replace nia45_qre : h_87.2.1 qre = ia45_qre := (funext fun j => (hs.a (gqre.S hM) rfl j).1).trans nia45_qre
                  replace nia45_qle : h_87.2.1 qle = ia45_qle := (funext fun j => (hs.a (gqle.S hM) rfl j).1).trans nia45_qle
                  replace nfa_76 : h_87.2.1 q_75 = fa_76 := (funext fun j => (hs.a gq_75 rfl j).1).trans nfa_76
                  replace hM := hM.tr (hs.mono (by decide))
                  replace gx := gx.S hs
                  replace gqp := gqp.S hs
                  replace gqc := gqc.S hs
                  replace gqa := gqa.S hs
                  replace gw := gw.S hs
                  replace gq_6 := gq_6.S hs
                  replace gq_21 := gq_21.S hs
                  replace gq_25 := gq_25.S hs
                  replace gq_54 := gq_54.S hs
                  replace gq_55 := gq_55.S hs
                  replace gq_74 := gq_74.S hs
                  replace gq_75 := gq_75.S hs
                  have hrs9 : r_88.toInt = ((hz_Rn odf szf gdf owf svf (hz_rc A plf) pof pdf psm pkf pst nw0.toInt n0.toInt.toNat) iv45_4.toInt.toNat) ∧ (0 ≤ r_88.toInt ∧ r_88.toInt ≤ 609999) := by unfold hz_Rn; rw [show ((iv45_4.toInt.toNat : Nat) : Int) = fv_72.toInt from by rw [cq_73]; omega, ← cq_70, ← cq_60, ← cq_66, ← cq_68, ← cq_64]; exact hr_90
                  clear hr_90
                  have hTo := hT
                  refine hx_gov (hx_runV (As := [.ref q_54, .int r_88]) (rest := []) ⟨hx, hb, hml, hown, hts⟩ hW (gqpg.S hM) tt_5 (T := TX5) (N := 13) rfl (t_X5_addOpen_v l dC dI dA L_86 h_87 H.size qpg q_54 r_88 hT (gqpg.S hM) gq_54 qop (gqop.S hM) ((hM.o gqpg trivial rfl).2.trans f_qpg_5) qre (gqre.S hM) ((hM.o gqpg trivial rfl).2.trans f_qpg_6) qle (gqle.S hM) ((hM.o gqpg trivial rfl).2.trans f_qpg_7) q_74 gq_74 fq_74 q_75 gq_75 fq_75 ia45_qop nia45_qop ia45_qre nia45_qre ia45_qle nia45_qle fa_76 nfa_76 fw45_qpg_0 ffw45_qpg_0 fv_72 ffv_72 (by omega) ⟨by omega, by omega⟩ (A (plf iv45_4.toInt.toNat).toInt.toNat).2.1 (by rw [← nfa_76]; exact (hAC iv45_4.toNatClampNeg (by unfold Int32.toNatClampNeg; omega) (by unfold Int32.toNatClampNeg; omega) _ _ fq_54 fq_74).2.2.2.1 _ fq_75) (hAB _).1) (cwV 2 hts (hx_gV kw_955 kw_952 kw_953 kw_954 kw_100) rfl rfl rfl (by decide +kernel) ⟨Nat.le_of_ble_eq_true rfl, Nat.le_of_ble_eq_true rfl⟩) rfl hl.1 rfl (Nat.le_of_ble_eq_true rfl) dX9_plan_124 ⟨Nat.le_of_ble_eq_true rfl, Nat.le_of_ble_eq_true rfl⟩) hW (fun L_91 h_92 H locs p_94 hW => ?_)
                  obtain ⟨⟨w_96, w_97, w_98, w_99, fw_96, fw_97, fw_98, fw_99, hr_95⟩, hT, hs⟩ := p_94
                  replace hT : hx_T T_tb L_91 h_92 := hT
                  replace hs : hx_S T_tb [(5, 0), (30, 0), (31, 0), (32, 0)] L_86 h_87 L_91 h_92 := hs
                  replace f_x_7 := (hs.o gx trivial rfl).2.trans f_x_7
                  replace f_x_10 := (hs.o gx trivial rfl).2.trans f_x_10
                  replace f_x_14 := (hs.o gx trivial rfl).2.trans f_x_14
                  replace f_x_5 := (hs.o gx trivial rfl).2.trans f_x_5
                  replace f_x_4 := (hs.o gx trivial rfl).2.trans f_x_4
                  replace f_x_17 := (hs.o gx trivial rfl).2.trans f_x_17
                  replace f_x_11 := (hs.o gx trivial rfl).1.trans f_x_11
                  replace f_x_2 := (hs.o gx trivial rfl).1.trans f_x_2
                  replace f_x_8 := (hs.o gx trivial rfl).1.trans f_x_8
                  replace f_x_6 := (hs.o gx trivial rfl).1.trans f_x_6
                  replace f_qpg_1 := (hs.o (gqpg.S hM) trivial rfl).1.trans f_qpg_1
                  replace ffv_23 := (hs.o gq_6 trivial rfl).1.trans ffv_23
                  replace ffv_24 := (hs.o gq_6 trivial rfl).1.trans ffv_24
                  replace fq_25 := (hs.o gq_21 trivial rfl).2.trans fq_25
                  replace fw_38 := (hs.o (gqpg.S hM) trivial rfl).1.trans fw_38
                  replace fw_39 := (hs.o (gqpg.S hM) trivial rfl).1.trans fw_39
                  replace fq_55 := (hs.o gq_54 trivial rfl).2.trans fq_55
                  replace ffv_59 := (hs.o gq_54 trivial rfl).1.trans ffv_59
                  replace ffv_61 := (hs.o gq_54 trivial rfl).1.trans ffv_61
                  replace ffv_63 := (hs.o gq_54 trivial rfl).1.trans ffv_63
                  replace ffv_65 := (hs.o gq_54 trivial rfl).1.trans ffv_65
                  replace ffv_67 := (hs.o gq_54 trivial rfl).1.trans ffv_67
                  replace ffv_69 := (hs.o gq_54 trivial rfl).1.trans ffv_69
                  replace ffv_72 := (hs.o gq_54 trivial rfl).1.trans ffv_72
                  replace fq_74 := (hs.o gq_54 trivial rfl).2.trans fq_74
                  replace fq_75 := (hs.o gq_74 trivial rfl).2.trans fq_75
                  replace pf_x_8 : ∀ j : Nat, (j : Int) < (h_92.2.1 x 8).toInt → h_92.2.2 qp j ≠ none := by
                    intro j hj; rw [(hs.o gx trivial rfl).1] at hj; rw [(hs.a gqp rfl j).2]; exact pf_x_8 j hj
                  replace pf_x_11 : ∀ j : Nat, (j : Int) < (h_92.2.1 x 11).toInt → h_92.2.2 qc j ≠ none := by
                    intro j hj; rw [(hs.o gx trivial rfl).1] at hj; rw [(hs.a gqc rfl j).2]; exact pf_x_11 j hj
                  replace pf_x_6 : ∀ j : Nat, (j : Int) < (h_92.2.1 x 6).toInt → h_92.2.2 qa j ≠ none := by
                    intro j hj; rw [(hs.o gx trivial rfl).1] at hj; rw [(hs.a gqa rfl j).2]; exact pf_x_6 j hj
                  replace cl_qc_13 : hx_col 100 h_92 qc 13 = odf := (hx_col_S hs hTo gqc tt_45 tt_2 rfl rfl).trans cl_qc_13
                  replace cl_qc_14 : hx_col 100 h_92 qc 14 = wkf := (hx_col_S hs hTo gqc tt_45 tt_2 rfl rfl).trans cl_qc_14
                  replace cl_qc_15 : hx_col 100 h_92 qc 15 = owf := (hx_col_S hs hTo gqc tt_45 tt_2 rfl rfl).trans cl_qc_15
                  replace cl_qc_16 : hx_col 100 h_92 qc 16 = szf := (hx_col_S hs hTo gqc tt_45 tt_2 rfl rfl).trans cl_qc_16
                  replace cl_qc_17 : hx_col 100 h_92 qc 17 = gdf := (hx_col_S hs hTo gqc tt_45 tt_2 rfl rfl).trans cl_qc_17
                  replace cl_qc_18 : hx_col 100 h_92 qc 18 = svf := (hx_col_S hs hTo gqc tt_45 tt_2 rfl rfl).trans cl_qc_18
                  replace cl_qp_3 : hx_col 40 h_92 qp 3 = eaf := (hx_col_S hs hTo gqp tt_44 tt_4 rfl rfl).trans cl_qp_3
                  replace cl_qp_4 : hx_col 40 h_92 qp 4 = hdf := (hx_col_S hs hTo gqp tt_44 tt_4 rfl rfl).trans cl_qp_4
                  replace nu_qp : hx_num 40 h_92 qp 0 (pn0.toInt) := hx_num_S hs hTo gqp tt_44 tt_4 rfl rfl nu_qp
                  replace nu_qc : hx_num 100 h_92 qc 0 (cn0.toInt) := hx_num_S hs hTo gqc tt_45 tt_2 rfl rfl nu_qc
                  replace hDF : hw_DF h_92 qc qp 2 agf cn0.toInt := hw_DF_S hs hTo gqc gqp tt_45 tt_2 rfl rfl rfl hDF
                  replace hAC : hv_AC h_92 qc plf cn0.toInt A := hv_AC_S hs hTo gqc tt_45 tt_2 rfl tt_0 rfl rfl rfl rfl rfl rfl rfl hAC
                  replace hRA : hv_RA h_92 qa w a0.toInt A := hv_RA_S hs hTo gqa gw tt_43 tt_0 rfl rfl rfl rfl rfl rfl (by omega) hRA
                  replace kk_22Q : hv_AQ h_92 q_21 (((kk_22 : Nat) : Int) - 1) (A kk_22) := hv_AQ_S hs hTo gq_21 tt_0 rfl rfl rfl rfl rfl kk_22Q
                  replace fo_9 := (hs.a gqp rfl _).2.trans fo_9
                  replace fq_54 := (hs.a gqc rfl _).2.trans fq_54
                  replace eoq_55 := (hs.a gqp rfl _).2.trans eoq_55
                  replace af_qcl : h_92.2.1 qcl = clf := (funext fun j => (hs.a (gqcl.S hM) rfl j).1).trans af_qcl
                  replace af_qwl : h_92.2.1 qwl = wlf := (funext fun j => (hs.a (gqwl.S hM) rfl j).1).trans af_qwl
                  replace af_qws : h_92.2.1 qws = wsf := (funext fun j => (hs.a (gqws.S hM) rfl j).1).trans af_qws
                  replace nfa_26 : h_92.2.1 q_25 = fa_26 := (funext fun j => (hs.a gq_25 rfl j).1).trans nfa_26
                  replace nfa_76 : h_92.2.1 q_75 = fa_76 := (funext fun j => (hs.a gq_75 rfl j).1).trans nfa_76
                  replace hM := hM.tr (hs.mono (by decide))
                  replace gx := gx.S hs
                  replace gqp := gqp.S hs
                  replace gqc := gqc.S hs
                  replace gqa := gqa.S hs
                  replace gw := gw.S hs
                  replace gq_6 := gq_6.S hs
                  replace gq_21 := gq_21.S hs
                  replace gq_25 := gq_25.S hs
                  replace gq_54 := gq_54.S hs
                  replace gq_55 := gq_55.S hs
                  replace gq_74 := gq_74.S hs
                  replace gq_75 := gq_75.S hs
                  have fw_96 : h_92.2.1 qpg 0 = w_96 := fw_96
                  have bw_96 := hT.gi (gqpg.S hM) tt_5 (k := 0) rfl
                  rw [fw_96] at bw_96
                  have bw_96 : 0 ≤ w_96.toInt ∧ w_96.toInt ≤ 4 := bw_96
                  have fw_97 : h_92.2.1 qop = w_97 := fw_97
                  have fw_98 : h_92.2.1 qre = w_98 := fw_98
                  have fw_99 : h_92.2.1 qle = w_99 := fw_99
                  obtain ⟨ao1, ao2, ao3, av9, ao4, ao5⟩ := hr_95
                  obtain ⟨x_100, ex_100⟩ : ∃ y : Int32, y = iv45_4 + Int32.ofInt 1 := ⟨_, rfl⟩
                  have rg_101 := i32_r iv45_4
                  have zx_100 : x_100.toInt = iv45_4.toInt + (1) := by rw [ex_100]; exact i32_add rfl (by decide) (by omega) (by omega)
                  refine lv_iinc (v := x_100) (lv' := [(4, .int x_100), (5, .ref q_54), (3, .ref q_6), (0, .ref x), (1, .int i1), (2, .int i2)]) hx hb dX9_plan_127 hl (k := 1) rfl ex_100.symm (by decide) rfl (fun ls hl => ?_)
                  refine lv_goto (tgt := 45) hx hb dX9_plan_130 (by decide) ?_
                  exact ih45 x_100 w_96 w_97 w_98 w_99 _ _ L_91 h_92 (by omega) (by omega) (by omega) (by omega) (hp_OQ_y vi45_0.1 vi45_0.2 (by omega) hag9 hpo9 (by omega) ao2 ao3 ao5 (by rw [cq_73]) (by rw [← hrs9.1]) (by rw [ao4, ← hrs9.1]) ao1 zx_100) (by omega) ls (by omega) hW hT hM fw_96 f_x_7 f_x_10 f_x_14 f_x_5 f_x_4 f_x_17 f_x_11 f_x_2 f_x_8 f_x_6 f_qpg_1 ffv_23 ffv_24 fq_25 fw_38 fw_39 gx gqp gqc gqa gw gq_6 gq_21 gq_25 pf_x_8 pf_x_11 pf_x_6 fw_97 fw_98 fw_99 af_qcl af_qwl af_qws nfa_26 cl_qc_13 cl_qc_14 cl_qc_15 cl_qc_16 cl_qc_17 cl_qc_18 cl_qp_3 cl_qp_4 nu_qp nu_qc fo_9 hDF hAC hRA kk_22Q (lv_sub hl [0, 2, 3, 4, 5] rfl)
                · skip
                  have hlm9 := hp_ol_m (ag := agf) (Rn := (hz_Rn odf szf gdf owf svf (hz_rc A plf) pof pdf psm pkf pst nw0.toInt n0.toInt.toNat)) (q := i1.toInt) (a := iv45_4.toInt.toNat + 1) cn0.toInt.toNat (by omega)
                  have hlg9 : (hp_ol agf (hz_Rn odf szf gdf owf svf (hz_rc A plf) pof pdf psm pkf pst nw0.toInt n0.toInt.toNat) i1.toInt (iv45_4.toInt.toNat + 1)).length = (hp_ol agf (hz_Rn odf szf gdf owf svf (hz_rc A plf) pof pdf psm pkf pst nw0.toInt n0.toInt.toNat) i1.toInt iv45_4.toInt.toNat).length + 1 := by simp only [hp_ol]; rw [if_pos ⟨hag9, hpo9⟩, List.length_append]; rfl
                  have hgt9 : 4 < (hp_ol agf (hz_Rn odf szf gdf owf svf (hz_rc A plf) pof pdf psm pkf pst nw0.toInt n0.toInt.toNat) i1.toInt cn0.toInt.toNat).length := by have h9 := vi45_0.2; omega
                  refine lv_iconst (v := -1) hx hb dX9_plan_99 (by decide) ?_
                  exact hx_reti hx hb hr hlk hW ⟨⟨td0, clf, wlf, wsf, f_qpg_1, af_qcl, af_qwl, af_qws, (Or.inl ⟨Or.inr (Or.inl ⟨⟨⟨by omega, by omega⟩, by omega, by omega⟩, hgt9, by decide⟩), rfl, rfl, rfl, rfl⟩)⟩, hT, hM⟩ dX9_plan_100
      have zk_0 : (0 : Int32).toInt = 0 := by decide
      exact loop45 101 (0 : Int32) w_37 fa_40 fa_41 fa_42 _ _ L_32 h_33 (by decide) (by decide) (by omega) (by omega) (by rw [zk_0]; exact ⟨hp_OQ_0, (by have h9 := hr_36.1; show _ = ((0 : Nat) : Int); omega)⟩) (by omega) ls (by omega) hW hT hM fw_37 f_x_7 f_x_10 f_x_14 f_x_5 f_x_4 f_x_17 f_x_11 f_x_2 f_x_8 f_x_6 f_qpg_1 ffv_23 ffv_24 fq_25 fw_38 fw_39 gx gqp gqc gqa gw gq_6 gq_21 gq_25 pf_x_8 pf_x_11 pf_x_6 nfa_40 nfa_41 nfa_42 af_qcl af_qwl af_qws nfa_26 cl_qc_13 cl_qc_14 cl_qc_15 cl_qc_16 cl_qc_17 cl_qc_18 cl_qp_3 cl_qp_4 nu_qp nu_qc fo_9 hDF hAC hRA kk_22Q hl
    · skip
      replace hr_14 := hr_14.resolve_right (fun z9 => absurd (c_15.symm.trans z9.1) (by decide))
      replace hr_14 := hr_14.2
      refine lv_iconst (v := -1) hx hb dX9_plan_20 (by decide) ?_
      exact hx_reti hx hb hr hlk hW ⟨⟨td0, clf, wlf, wsf, f_qpg_1, af_qcl, af_qwl, af_qws, (Or.inl ⟨Or.inl ⟨(fun hc => by have h1 := hc.1; have h2 := hc.2; omega), by decide⟩, rfl, rfl, rfl, rfl⟩)⟩, hT, hM⟩ dX9_plan_21


set_option maxHeartbeats 4000000 in
set_option maxRecDepth 100000 in
theorem t_X9_planned_v (l : Launch) (dC : Nat → ClassId) (dI : Nat → Nat → Nat) (dA : Nat → ClassId) (L : List Nat) (h : hx_h) (sz : Nat) (x : Nat) (i1 : Int32) (i2 : Int32) (hT : hx_T T_tb L h) (gx : hx_g L h x 9) (qpg : Nat) (gqpg : hx_g L h qpg 5) (f_x_17 : h.2.2 x 17 = some qpg) (qwl : Nat) (gqwl : hx_g L h qwl 28) (f_qpg_3 : h.2.2 qpg 3 = some qwl) (qws : Nat) (gqws : hx_g L h qws 29) (f_qpg_4 : h.2.2 qpg 4 = some qws) (qcl : Nat) (gqcl : hx_g L h qcl 27) (f_qpg_2 : h.2.2 qpg 2 = some qcl) (clf : Nat → Int32) (af_qcl : h.2.1 qcl = clf) (wlf : Nat → Int32) (af_qwl : h.2.1 qwl = wlf) (wsf : Nat → Int32) (af_qws : h.2.1 qws = wsf) (td0 : Int32) (f_qpg_1 : h.2.1 qpg 1 = td0) : Met l yX9_planned (Cond.code yX9_planned cX9_planned 3 (some .int) :: hx_all) ({ frames := 0, cells := 0, slots := 0, locals := 0 }) (va_Pc [.ref x, .int i1, .int i2] (hx_B T_tb (P_ty dA) (dC, dI) vwCl L h sz)) (va_Qi (fun (r : Int32) (u : List Nat × hx_h) => (hp_PD i1.toInt i2.toInt td0.toInt clf wlf wsf r.toInt) ∧ hx_T T_tb u.1 u.2 ∧ hx_S T_tb [] L h u.1 u.2) (hx_E T_tb (P_ty dA) (dC, dI) vwCl (hx_A L sz)) (hx_A L sz)) 0 0 (hx_A L sz) := by
  refine hx_met (lv := [(0, .ref x), (1, .int i1), (2, .int i2)]) (by decide +kernel) rfl (Nat.le_of_ble_eq_true rfl) rfl ?_
  intro p e s m below meth c hx hb hml hr hlk hts0 hown hin hsz hW ls hl
  have hts : ∀ w ∈ hx_all, w.before _ s = true := fun w hw => hts0 w (List.mem_cons_of_mem _ hw)
  have hown : s.vm.findClass "SmallCourt" = some m.cls := hown
  have hM : hx_S T_tb [] L h L h := hx_S.rf
  have b_td0 := hT.gi gqpg tt_5 (k := 1) rfl
  rw [f_qpg_1] at b_td0
  have b_td0 : 0 ≤ td0.toInt ∧ td0.toInt ≤ 4 := b_td0
  refine lv_iload_n hx hb dX9_planned_0 rfl (lv_at hl 1 rfl) ?_
  refine hb_if_lt (zx := i1.toInt) (tgt := 15) hx hb rfl dX9_planned_1 (by decide) (fun c_1 => ?_) (fun c_1 => ?_)
  · skip
    refine lv_iconst (v := -1) hx hb dX9_planned_15 (by decide) ?_
    exact hx_reti hx hb hr hlk hW ⟨(Or.inl ⟨by omega, by decide⟩), hT, hM⟩ dX9_planned_16
  · skip
    refine lv_iload_n hx hb dX9_planned_4 rfl (lv_at hl 1 rfl) ?_
    refine lv_aload_n hx hb dX9_planned_5 rfl (lv_at hl 0 rfl) ?_
    refine hk_getr hx hb hts hC_9 hown hW (gx.S hM) tt_9 17 (by decide) rfl kw_381 ⟨rfl, rfl, rfl⟩ ((hM.o gx trivial rfl).2.trans f_x_17) dX9_planned_6 ?_
    refine hk_geti hx hb hts hC_5 hown hW (gqpg.S hM) tt_5 1 (by decide) rfl kw_261 ⟨rfl, rfl, rfl⟩ ((hM.o gqpg trivial rfl).1.trans f_qpg_1) dX9_planned_9 ?_
    refine hb_icmp_lt (zx := i1.toInt) (zy := td0.toInt) (tgt := 17) hx hb rfl rfl dX9_planned_12 (by decide) (fun c_2 => ?_) (fun c_2 => ?_)
    · skip
      refine lv_iload_n hx hb dX9_planned_17 rfl (lv_at hl 2 rfl) ?_
      rcases (show (i2.toInt < 0 ∨ 2 < i2.toInt) ∨ i2.toInt = 0 ∨ i2.toInt = 1 ∨ i2.toInt = 2 from by omega) with c_3 | c_3 | c_3 | c_3
      · refine lv_tableOut (tgt := 74) hx hb dX9_planned_18 c_3 (by decide) ?_
        refine lv_iconst (v := -1) hx hb dX9_planned_74 (by decide) ?_
        exact hx_reti hx hb hr hlk hW ⟨(Or.inr ⟨⟨by omega, by omega⟩, Or.inr (Or.inr (Or.inr ⟨by omega, by decide⟩))⟩), hT, hM⟩ dX9_planned_75
      · refine lv_tableIn (off := 26) (tgt := 44) hx hb dX9_planned_18 (by omega) (by omega) (by rw [c_3]; rfl) (by decide) ?_
        refine lv_aload_n hx hb dX9_planned_44 rfl (lv_at hl 0 rfl) ?_
        refine hk_getr hx hb hts hC_9 hown hW (gx.S hM) tt_9 17 (by decide) rfl kw_381 ⟨rfl, rfl, rfl⟩ ((hM.o gx trivial rfl).2.trans f_x_17) dX9_planned_45 ?_
        refine hk_getr hx hb hts hC_5 hown hW (gqpg.S hM) tt_5 2 (by decide) rfl kw_263 ⟨rfl, rfl, rfl⟩ ((hM.o gqpg trivial rfl).2.trans f_qpg_2) dX9_planned_48 ?_
        refine lv_iload_n hx hb dX9_planned_51 rfl (lv_at hl 1 rfl) ?_
        refine hx_iald hx hb hW hT (gqcl.S hM) tt_27 rfl ⟨by omega, by omega⟩ dX9_planned_52 (fun x_4 ex_4 lx_4 ux_4 => ?_)
        have ax_4 : x_4 = clf i1.toNatClampNeg := ex_4.trans (congrFun (hx_afS hM gqcl rfl af_qcl) _)
        exact hx_reti hx hb hr hlk hW ⟨(Or.inr ⟨⟨by omega, by omega⟩, Or.inl ⟨by omega, congrArg Int32.toInt ax_4⟩⟩), hT, hM⟩ dX9_planned_53
      · refine lv_tableIn (off := 36) (tgt := 54) hx hb dX9_planned_18 (by omega) (by omega) (by rw [c_3]; rfl) (by decide) ?_
        refine lv_aload_n hx hb dX9_planned_54 rfl (lv_at hl 0 rfl) ?_
        refine hk_getr hx hb hts hC_9 hown hW (gx.S hM) tt_9 17 (by decide) rfl kw_381 ⟨rfl, rfl, rfl⟩ ((hM.o gx trivial rfl).2.trans f_x_17) dX9_planned_55 ?_
        refine hk_getr hx hb hts hC_5 hown hW (gqpg.S hM) tt_5 3 (by decide) rfl kw_265 ⟨rfl, rfl, rfl⟩ ((hM.o gqpg trivial rfl).2.trans f_qpg_3) dX9_planned_58 ?_
        refine lv_iload_n hx hb dX9_planned_61 rfl (lv_at hl 1 rfl) ?_
        refine hx_iald hx hb hW hT (gqwl.S hM) tt_28 rfl ⟨by omega, by omega⟩ dX9_planned_62 (fun x_5 ex_5 lx_5 ux_5 => ?_)
        have ax_5 : x_5 = wlf i1.toNatClampNeg := ex_5.trans (congrFun (hx_afS hM gqwl rfl af_qwl) _)
        exact hx_reti hx hb hr hlk hW ⟨(Or.inr ⟨⟨by omega, by omega⟩, Or.inr (Or.inl ⟨by omega, congrArg Int32.toInt ax_5⟩)⟩), hT, hM⟩ dX9_planned_63
      · refine lv_tableIn (off := 46) (tgt := 64) hx hb dX9_planned_18 (by omega) (by omega) (by rw [c_3]; rfl) (by decide) ?_
        refine lv_aload_n hx hb dX9_planned_64 rfl (lv_at hl 0 rfl) ?_
        refine hk_getr hx hb hts hC_9 hown hW (gx.S hM) tt_9 17 (by decide) rfl kw_381 ⟨rfl, rfl, rfl⟩ ((hM.o gx trivial rfl).2.trans f_x_17) dX9_planned_65 ?_
        refine hk_getr hx hb hts hC_5 hown hW (gqpg.S hM) tt_5 4 (by decide) rfl kw_267 ⟨rfl, rfl, rfl⟩ ((hM.o gqpg trivial rfl).2.trans f_qpg_4) dX9_planned_68 ?_
        refine lv_iload_n hx hb dX9_planned_71 rfl (lv_at hl 1 rfl) ?_
        refine hx_iald hx hb hW hT (gqws.S hM) tt_29 rfl ⟨by omega, by omega⟩ dX9_planned_72 (fun x_6 ex_6 lx_6 ux_6 => ?_)
        have ax_6 : x_6 = wsf i1.toNatClampNeg := ex_6.trans (congrFun (hx_afS hM gqws rfl af_qws) _)
        exact hx_reti hx hb hr hlk hW ⟨(Or.inr ⟨⟨by omega, by omega⟩, Or.inr (Or.inr (Or.inl ⟨by omega, congrArg Int32.toInt ax_6⟩))⟩), hT, hM⟩ dX9_planned_73
    · skip
      refine lv_iconst (v := -1) hx hb dX9_planned_15 (by decide) ?_
      exact hx_reti hx hb hr hlk hW ⟨(Or.inl ⟨by omega, by decide⟩), hT, hM⟩ dX9_planned_16
