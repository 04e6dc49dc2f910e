
set_option maxHeartbeats 4000000 in
set_option maxRecDepth 100000 in
theorem t_X4_meansBy_v (l : Launch) (dC : Nat → ClassId) (dI : Nat → Nat → Nat) (dA : Nat → ClassId) (L : List Nat) (h : hx_h) (sz : Nat) (x : Nat) (v1 : Nat) (hT : hx_T T_tb L h) (gx : hx_g L h x 4) (gv1 : hx_g L h v1 0) (qt : Nat) (gqt : hx_g L h qt 11) (f_v1_2 : h.2.2 v1 2 = some qt) (tf : Nat → Int32) (af_qt : h.2.1 qt = tf) (ea : Int32) (f_x_3 : h.2.1 x 3 = ea) (hd : Int32) (f_x_4 : h.2.1 x 4 = hd) (R : Nat → Int) (hR : hv_rC tf = R) (hRb : ∀ k, 0 ≤ R k ∧ R k ≤ 9999) (hea : 0 ≤ ea.toInt ∧ ea.toInt ≤ 9999) (hhd : 0 ≤ hd.toInt ∧ hd.toInt ≤ 20) : Met l yX4_meansBy (Cond.code yX4_meansBy cX4_meansBy 2 (some .int) :: hx_all) ({ frames := 0, cells := 0, slots := 0, locals := 0 }) (va_Pc [.ref x, .ref v1] (hx_B T_tb (P_ty dA) (dC, dI) vwCl L h sz)) (va_Qi (fun (r : Int32) (u : List Nat × hx_h) => (r.toInt = ea.toInt - R 3 * hd.toInt ∧ (-199980 ≤ r.toInt ∧ r.toInt ≤ 9999)) ∧ hx_T T_tb u.1 u.2 ∧ hx_S T_tb [] L h u.1 u.2) (hx_E T_tb (P_ty dA) (dC, dI) vwCl (hx_A L sz)) (hx_A L sz)) 0 0 (hx_A L sz) := by
  refine hx_met (lv := [(0, .ref x), (1, .ref v1)]) (by decide +kernel) rfl (Nat.le_of_ble_eq_true rfl) rfl ?_
  intro p e s m below meth c hx hb hml hr hlk hts0 hown hin hsz hW ls hl
  have hts : ∀ w ∈ hx_all, w.before _ s = true := fun w hw => hts0 w (List.mem_cons_of_mem _ hw)
  have hown : s.vm.findClass "SmallCourt$Person" = some m.cls := hown
  have hM : hx_S T_tb [] L h L h := hx_S.rf
  have b_ea := hT.gi gx tt_4 (k := 3) rfl
  rw [f_x_3] at b_ea
  have b_ea : -2147483648 ≤ ea.toInt ∧ ea.toInt ≤ 2147483647 := b_ea
  have b_hd := hT.gi gx tt_4 (k := 4) rfl
  rw [f_x_4] at b_hd
  have b_hd : -2147483648 ≤ hd.toInt ∧ hd.toInt ≤ 2147483647 := b_hd
  refine lv_aload_n hx hb dX4_meansBy_0 rfl (lv_at hl 0 rfl) ?_
  refine hk_geti hx hb hts hC_4 hown hW (gx.S hM) tt_4 3 ?o0 rfl kw_616 ⟨rfl, rfl, rfl⟩ ((hM.o gx trivial rfl).1.trans f_x_3) dX4_meansBy_1 ?_
  case o0 => decide
  refine lv_aload_n hx hb dX4_meansBy_4 rfl (lv_at hl 1 rfl) ?_
  refine hk_getr hx hb hts hC_0 hown hW (gv1.S hM) tt_0 2 ?o1 rfl kw_168 ⟨rfl, rfl, rfl⟩ ((hM.o gv1 trivial rfl).2.trans f_v1_2) dX4_meansBy_5 ?_
  case o1 => decide
  refine lv_iconst (v := 4) hx hb dX4_meansBy_8 ?o2 ?_
  case o2 => decide
  refine hx_iald hx hb hW hT (gqt.S hM) tt_11 rfl ?o3 dX4_meansBy_9 (fun x_1 ex_1 lx_1 ux_1 => ?_)
  case o3 => decide
  have ax_1 : x_1 = tf (4 : Int32).toNatClampNeg := ex_1.trans (congrFun (hx_afS hM gqt rfl af_qt) _)
  have hR_2 : x_1.toInt = R 3 := ?o4
  case o4 =>
    rw [← hR, ax_1, show (4 : Int32).toNatClampNeg = 4 from by decide]
    rfl
  have hR_2b := hRb 3
  rw [← hR_2] at hR_2b
  refine lv_aload_n hx hb dX4_meansBy_10 rfl (lv_at hl 0 rfl) ?_
  refine hk_geti hx hb hts hC_4 hown hW (gx.S hM) tt_4 4 ?o5 rfl kw_617 ⟨rfl, rfl, rfl⟩ ((hM.o gx trivial rfl).1.trans f_x_4) dX4_meansBy_11 ?_
  case o5 => decide
  refine lv_imul hx hb dX4_meansBy_14 ?_
  refine lv_topi (fun x_3 ex_3 => ?_)
  have mx_3 : x_1.toInt = 0 → x_3.toInt = 0 := fun z => by rw [ex_3]; exact hx_mul0 z
  obtain ⟨m9, m9l, m9h⟩ := hz_mul2 ⟨by omega, by omega⟩ ⟨by omega, by omega⟩ ex_3
  refine lv_isub hx hb dX4_meansBy_15 ?_
  have rg_4 := i32_r ea
  have rg_5 := i32_r x_3
  refine lv_topi (fun x_6 ex_6 => ?_)
  have zx_6 : x_6.toInt = ea.toInt - x_3.toInt := ?o6
  case o6 =>
    rw [ex_6]
    refine i32_sub rfl rfl ?o7 ?o8
    case o7 => omega
    case o8 => omega
  refine hx_reti hx hb hr hlk hW ⟨⟨(by rw [zx_6, m9, hR_2]), ?o9, ?o10⟩, hT, hM⟩ dX4_meansBy_16
  case o9 => omega
  case o10 => omega


set_option maxHeartbeats 4000000 in
set_option maxRecDepth 100000 in
theorem t_X9_openInstalments_v (l : Launch) (dC : Nat → ClassId) (dI : Nat → Nat → Nat) (dA : Nat → ClassId) (L : List Nat) (h : hx_h) (sz : Nat) (x : Nat) (v1 : Nat) (hT : hx_T T_tb L h) (gx : hx_g L h x 9) (gv1 : hx_g L h v1 4) (qp : Nat) (gqp : hx_g L h qp 44) (f_x_7 : h.2.2 x 7 = some qp) (qc : Nat) (gqc : hx_g L h qc 45) (f_x_10 : h.2.2 x 10 = some qc) (qy : Nat) (gqy : hx_g L h qy 3) (f_x_14 : h.2.2 x 14 = some qy) (pqo : Nat) (gpqo : hx_g L h pqo 23) (f_qy_2 : h.2.2 qy 2 = some pqo) (pqd : Nat) (gpqd : hx_g L h pqd 24) (f_qy_3 : h.2.2 qy 3 = some pqd) (pqs : Nat) (gpqs : hx_g L h pqs 26) (f_qy_5 : h.2.2 qy 5 = some pqs) (pqk : Nat) (gpqk : hx_g L h pqk 25) (f_qy_4 : h.2.2 qy 4 = some pqk) (pqt : Nat) (gpqt : hx_g L h pqt 22) (f_qy_1 : h.2.2 qy 1 = some pqt) (iv : Int32) (eo_v1 : h.2.2 qp iv.toNatClampNeg = some v1) (ob_iv : 0 ≤ iv.toInt ∧ iv.toInt ≤ 39) (pof : Nat → Int32) (af_pqo : h.2.1 pqo = pof) (pdf : Nat → Int32) (af_pqd : h.2.1 pqd = pdf) (psm : Nat → Int32) (af_pqs : h.2.1 pqs = psm) (pkf : Nat → Int32) (af_pqk : h.2.1 pqk = pkf) (pst : Nat → Int32) (af_pqt : h.2.1 pqt = pst) (cn0 : Int32) (f_x_11 : h.2.1 x 11 = cn0) (nw0 : Int32) (f_x_2 : h.2.1 x 2 = nw0) (n0 : Int32) (f_qy_0 : h.2.1 qy 0 = n0) (pn0 : Int32) (f_x_8 : h.2.1 x 8 = pn0) (odf : Nat → Int32) (cl_qc_13 : hx_col 100 h qc 13 = odf) (wkf : Nat → Int32) (cl_qc_14 : hx_col 100 h qc 14 = wkf) (owf : Nat → Int32) (cl_qc_15 : hx_col 100 h qc 15 = owf) (szf : Nat → Int32) (cl_qc_16 : hx_col 100 h qc 16 = szf) (gdf : Nat → Int32) (cl_qc_17 : hx_col 100 h qc 17 = gdf) (svf : Nat → Int32) (cl_qc_18 : hx_col 100 h qc 18 = svf) (nu_qp : hx_num 40 h qp 0 (pn0.toInt)) (nu_qc : hx_num 100 h qc 0 (cn0.toInt)) (agf plf : Nat → Int32) (A : Nat → hv_act) (hDF : hw_DF h qc qp 2 agf cn0.toInt) (hAC : hv_AC h qc plf cn0.toInt A) (hAB : ∀ j : Nat, (∀ k, 0 ≤ (A j).2.1 k ∧ (A j).2.1 k ≤ 9999) ∧ hv_OK (A j).2.2) (hCB : hz_CB odf wkf owf szf gdf svf) (hps : ∀ j, j < 600 → 0 ≤ (psm j).toInt ∧ (psm j).toInt ≤ 610000) (pf_x_8 : ∀ j : Nat, (j : Int) < (h.2.1 x 8).toInt → h.2.2 qp j ≠ none) (pf_x_11 : ∀ j : Nat, (j : Int) < (h.2.1 x 11).toInt → h.2.2 qc j ≠ none) : Met l yX9_openInstalments (Cond.code yX9_openInstalments cX9_openInstalments 4 (some .int) :: hx_all) ({ frames := 5, cells := 0, slots := 0, locals := 118 }) (va_Pc [.ref x, .ref v1] (hx_B T_tb (P_ty dA) (dC, dI) vwCl L h sz)) (va_Qi (fun (r : Int32) (u : List Nat × hx_h) => (r.toInt = hz_oi agf wkf (hz_Rn odf szf gdf owf svf (hz_rc A plf) pof pdf psm pkf pst nw0.toInt n0.toInt.toNat) iv.toInt cn0.toInt.toNat ∧ (0 ≤ r.toInt ∧ r.toInt ≤ 999900)) ∧ hx_T T_tb u.1 u.2 ∧ hx_S T_tb [] L h u.1 u.2) (hx_E T_tb (P_ty dA) (dC, dI) vwCl (hx_A L sz)) (hx_A L sz)) 0 0 (hx_A L sz) := by
  refine hx_met (lv := [(0, .ref x), (1, .ref v1)]) (by decide +kernel) rfl (Nat.le_of_ble_eq_true rfl) rfl ?_
  intro p e s m below meth c hx hb hml hr hlk hts0 hown hin hsz hW ls hl
  have hts : ∀ w ∈ hx_all, w.before _ s = true := fun w hw => hts0 w (List.mem_cons_of_mem _ hw)
  have hown : s.vm.findClass "SmallCourt" = some m.cls := hown
  have hM : hx_S T_tb [] L h L h := hx_S.rf
  have b_cn0 := hT.gi gx tt_9 (k := 11) rfl
  rw [f_x_11] at b_cn0
  have b_cn0 : 0 ≤ cn0.toInt ∧ cn0.toInt ≤ 100 := b_cn0
  have b_nw0 := hT.gi gx tt_9 (k := 2) rfl
  rw [f_x_2] at b_nw0
  have b_nw0 : 0 ≤ nw0.toInt ∧ nw0.toInt ≤ 7999 := b_nw0
  have b_n0 := hT.gi gqy tt_3 (k := 0) rfl
  rw [f_qy_0] at b_n0
  have b_n0 : 0 ≤ n0.toInt ∧ n0.toInt ≤ 600 := b_n0
  have b_pn0 := hT.gi gx tt_9 (k := 8) rfl
  rw [f_x_8] at b_pn0
  have b_pn0 : 0 ≤ pn0.toInt ∧ pn0.toInt ≤ 40 := b_pn0
  refine lv_iconst (v := 0) hx hb dX9_openInstalments_0 ?o0 ?_
  case o0 => decide
  refine lv_istore_n (lv' := [(2, .int (0 : Int32)), (0, .ref x), (1, .ref v1)]) hx hb dX9_openInstalments_1 rfl hl ?o1 rfl (fun ls hl => ?_)
  case o1 => decide
  refine lv_iconst (v := 0) hx hb dX9_openInstalments_2 ?o2 ?_
  case o2 => decide
  refine lv_istore_n (lv' := [(3, .int (0 : Int32)), (2, .int (0 : Int32)), (0, .ref x), (1, .ref v1)]) hx hb dX9_openInstalments_3 rfl hl ?o3 rfl (fun ls hl => ?_)
  case o3 => decide
  have loop4 : ∀ (n4 : Nat) (iv4_2 iv4_3 : Int32) (H : Heap) (locs : List Loc) (hL1 : List Nat) (hl1 : hx_h), 0 ≤ iv4_2.toInt → iv4_2.toInt ≤ 999900 → 0 ≤ iv4_3.toInt → iv4_3.toInt ≤ 100 → (iv4_2.toInt = hz_oi agf wkf (hz_Rn odf szf gdf owf svf (hz_rc A plf) pof pdf psm pkf pst nw0.toInt n0.toInt.toNat) iv.toInt (iv4_3.toInt).toNat) → (iv4_2.toInt ≤ 9999 * iv4_3.toInt) → (iv4_3.toInt ≤ cn0.toInt) → ∀ (ls : Array Slot), 100 - iv4_3.toInt < (n4 : Int) → hx_W T_tb (P_ty dA) (dC, dI) vwCl (hx_A L sz) s.heap hL1 hl1 s H locs → hx_T T_tb hL1 hl1 → hx_S T_tb [] L h hL1 hl1 → hl1.2.2 x 7 = some qp → hl1.2.2 x 10 = some qc → hl1.2.2 x 14 = some qy → hl1.2.1 x 11 = cn0 → hl1.2.1 x 2 = nw0 → hl1.2.1 x 8 = pn0 → hx_g hL1 hl1 x 9 → hx_g hL1 hl1 qp 44 → hx_g hL1 hl1 qc 45 → (∀ j : Nat, (j : Int) < (hl1.2.1 x 8).toInt → hl1.2.2 qp j ≠ none) → (∀ j : Nat, (j : Int) < (hl1.2.1 x 11).toInt → hl1.2.2 qc j ≠ none) → hx_col 100 hl1 qc 13 = odf → hx_col 100 hl1 qc 14 = wkf → hx_col 100 hl1 qc 15 = owf → hx_col 100 hl1 qc 16 = szf → hx_col 100 hl1 qc 17 = gdf → hx_col 100 hl1 qc 18 = svf → hx_num 40 hl1 qp 0 (pn0.toInt) → hx_num 100 hl1 qc 0 (cn0.toInt) → hl1.2.2 qp iv.toNatClampNeg = some v1 → hw_DF hl1 qc qp 2 agf cn0.toInt → hv_AC hl1 qc plf cn0.toInt A → lv_has ls 4 [(3, .int iv4_3), (2, .int iv4_2), (0, .ref x), (1, .ref v1)] → W p l e ({ frames := 5, cells := 0, slots := 0, locals := 118 }) s m ([.ref x, .ref v1] : List Value).toArray below meth c H locs 0 0 (MQ below (va_Qi (fun (r : Int32) (u : List Nat × hx_h) => (r.toInt = hz_oi agf wkf (hz_Rn odf szf gdf owf svf (hz_rc A plf) pof pdf psm pkf pst nw0.toInt n0.toInt.toNat) iv.toInt cn0.toInt.toNat ∧ (0 ≤ r.toInt ∧ r.toInt ≤ 999900)) ∧ hx_T T_tb u.1 u.2 ∧ hx_S T_tb [] L h u.1 u.2) (hx_E T_tb (P_ty dA) (dC, dI) vwCl (hx_A L sz)) (hx_A L sz)) ([.ref x, .ref v1] : List Value).toArray s 0 0 (hx_A L sz)) (F0 m 4 ls []) := by
    intro n4
    induction n4 with
    | zero => intro iv4_2 iv4_3 H locs hL1 hl1 bliv4_2 buiv4_2 bliv4_3 buiv4_3 vi4_0 vi4_1 vi4_2 ls hn4; exfalso; omega
    | succ n4 ih4 =>
      intro iv4_2 iv4_3 H locs hL1 hl1 bliv4_2 buiv4_2 bliv4_3 buiv4_3 vi4_0 vi4_1 vi4_2 ls hn4 hW hT hM f_x_7 f_x_10 f_x_14 f_x_11 f_x_2 f_x_8 gx gqp gqc pf_x_8 pf_x_11 cl_qc_13 cl_qc_14 cl_qc_15 cl_qc_16 cl_qc_17 cl_qc_18 nu_qp nu_qc eo_v1 hDF hAC hl
      refine lv_iload_n hx hb dX9_openInstalments_4 rfl (lv_at hl 0 rfl) ?_
      refine lv_aload_n hx hb dX9_openInstalments_5 rfl (lv_at hl 2 rfl) ?_
      refine hk_geti hx hb hts hC_9 hown hW gx tt_9 11 ?o4 rfl kw_375 ⟨rfl, rfl, rfl⟩ f_x_11 dX9_openInstalments_6 ?_
      case o4 => decide
      refine hb_icmp_ge (zx := iv4_3.toInt) (zy := cn0.toInt) (tgt := 63) hx hb rfl rfl dX9_openInstalments_9 ?o5 (fun c_1 => ?_) (fun c_1 => ?_)
      case o5 => decide
      · skip
        refine lv_iload_n hx hb dX9_openInstalments_63 rfl (lv_at hl 1 rfl) ?_
        refine hx_reti hx hb hr hlk hW ⟨⟨(by have h8 := vi4_0; rw [show iv4_3.toInt.toNat = cn0.toInt.toNat by omega] at h8; exact h8), ?o6, ?o7⟩, hT, hM⟩ dX9_openInstalments_64
        case o6 => omega
        case o7 => omega
      · skip
        refine lv_aload_n hx hb dX9_openInstalments_12 rfl (lv_at hl 2 rfl) ?_
        refine hk_getr hx hb hts hC_9 hown hW gx tt_9 10 ?o8 rfl kw_374 ⟨rfl, rfl, rfl⟩ f_x_10 dX9_openInstalments_13 ?_
        case o8 => decide
        refine lv_iload_n hx hb dX9_openInstalments_16 rfl (lv_at hl 0 rfl) ?_
        refine hx_aaldN hx hb hW hT gqc tt_45 (t1 := 2) rfl ⟨?o9, ?o10⟩ (pf_x_11 _ (by rw [f_x_11]; exact hx_tnI (by omega) (by omega))) dX9_openInstalments_17 (fun q_2 fq_2 gq_2 => ?_)
        case o9 => omega
        case o10 => omega
        refine hx_getn hx hb hts hC_2 hown hW hT gq_2 tt_2 2 ?o11 rfl kw_733 ⟨rfl, rfl, rfl⟩ dX9_openInstalments_18 (fun q_3 fq_3 gq_3 => ?_)
        case o11 => decide
        obtain ⟨dAq_3, dBq_3, dCq_3⟩ := hDF iv4_3.toNatClampNeg (by unfold Int32.toNatClampNeg; omega) (by unfold Int32.toNatClampNeg; omega) _ _ fq_2 fq_3
        have dAq_3 : 0 ≤ (agf iv4_3.toNatClampNeg).toInt := dAq_3
        have dBq_3 : (agf iv4_3.toNatClampNeg).toInt < 40 := dBq_3
        have dUq_3 : 0 ≤ (agf iv4_3.toInt.toNat).toInt ∧ (agf iv4_3.toInt.toNat).toInt < 40 := ⟨dAq_3, dBq_3⟩
        have eoq_3 : hl1.2.2 qp (agf iv4_3.toNatClampNeg).toNatClampNeg = some q_3 := dCq_3
        have hpe9 := hz_pe nu_qp ⟨?o12, ?o13⟩ ⟨?o14, ?o15⟩ eoq_3 eo_v1
        case o12 => omega
        case o13 => omega
        case o14 => omega
        case o15 => omega
        refine lv_aload_n hx hb dX9_openInstalments_21 rfl (lv_at hl 3 rfl) ?_
        refine lv_acmp_ne (rx := (some q_3)) (ry := (some v1)) (tgt := 57) hx hb dX9_openInstalments_22 ?o16 (fun c_4 => ?_) (fun c_4 => ?_)
        case o16 => decide
        · skip
          obtain ⟨x_5, ex_5⟩ : ∃ y : Int32, y = iv4_3 + Int32.ofInt 1 := ⟨_, rfl⟩
          have rg_6 := i32_r iv4_3
          have zx_5 : x_5.toInt = iv4_3.toInt + (1) := ?o17
          case o17 =>
            rw [ex_5]
            refine i32_add rfl ?o18 ?o19 ?o20
            case o18 => decide
            case o19 => omega
            case o20 => omega
          refine lv_iinc (v := x_5) (lv' := [(3, .int x_5), (2, .int iv4_2), (0, .ref x), (1, .ref v1)]) hx hb dX9_openInstalments_57 hl (k := 0) rfl ex_5.symm ?o21 rfl (fun ls hl => ?_)
          case o21 => decide
          refine lv_goto (tgt := 4) hx hb dX9_openInstalments_60 ?o22 ?_
          case o22 => decide
          refine ih4 iv4_2 x_5 _ _ hL1 hl1 ?o23 ?o24 ?o25 ?o26 (hz_oi_n vi4_0 ?o27 (fun z => c_4 (congrArg some (hpe9.mpr z.1))) zx_5) ?o28 ?o29 ls ?o30 hW hT hM f_x_7 f_x_10 f_x_14 f_x_11 f_x_2 f_x_8 gx gqp gqc pf_x_8 pf_x_11 cl_qc_13 cl_qc_14 cl_qc_15 cl_qc_16 cl_qc_17 cl_qc_18 nu_qp nu_qc eo_v1 hDF hAC (lv_sub hl [0, 1, 2, 3] rfl)
          case o23 => omega
          case o24 => omega
          case o25 => omega
          case o26 => omega
          case o27 => omega
          case o28 => omega
          case o29 => omega
          case o30 => omega
        · skip
          have hag9 := hpe9.mp (Option.some.inj c_4)
          refine lv_aload_n hx hb dX9_openInstalments_25 rfl (lv_at hl 2 rfl) ?_
          refine hk_getr hx hb hts hC_9 hown hW gx tt_9 10 ?o31 rfl kw_374 ⟨rfl, rfl, rfl⟩ f_x_10 dX9_openInstalments_26 ?_
          case o31 => decide
          refine lv_iload_n hx hb dX9_openInstalments_29 rfl (lv_at hl 0 rfl) ?_
          refine hx_aaldN hx hb hW hT gqc tt_45 (t1 := 2) rfl ⟨?o32, ?o33⟩ (pf_x_11 _ (by rw [f_x_11]; exact hx_tnI (by omega) (by omega))) dX9_openInstalments_30 (fun q_7 fq_7 gq_7 => ?_)
          case o32 => omega
          case o33 => omega
          refine lv_aload_n hx hb dX9_openInstalments_31 rfl (lv_at hl 2 rfl) ?_
          refine hk_getr hx hb hts hC_9 hown hW gx tt_9 14 ?o34 rfl kw_378 ⟨rfl, rfl, rfl⟩ f_x_14 dX9_openInstalments_32 ?_
          case o34 => decide
          refine lv_aload_n hx hb dX9_openInstalments_35 rfl (lv_at hl 2 rfl) ?_
          refine hk_geti hx hb hts hC_9 hown hW gx tt_9 2 ?o35 rfl kw_366 ⟨rfl, rfl, rfl⟩ f_x_2 dX9_openInstalments_36 ?_
          case o35 => decide
          obtain ⟨fv_8, efv_8⟩ : ∃ y : Int32, y = hl1.2.1 q_7 13 := ⟨_, rfl⟩
          have bfv_8 := hT.gi gq_7 tt_2 (k := 13) rfl
          rw [← efv_8] at bfv_8
          have bfv_8 : -2147483648 ≤ fv_8.toInt ∧ fv_8.toInt ≤ 2147483647 := bfv_8
          have ffv_8 := efv_8.symm
          have cq_9 : fv_8 = odf iv4_3.toInt.toNat := ?o36
          case o36 =>
            rw [← ffv_8, ← cl_qc_13]
            exact (hx_col_at fq_7 (by unfold Int32.toNatClampNeg; omega)).symm
          obtain ⟨fv_10, efv_10⟩ : ∃ y : Int32, y = hl1.2.1 q_7 14 := ⟨_, rfl⟩
          have bfv_10 := hT.gi gq_7 tt_2 (k := 14) rfl
          rw [← efv_10] at bfv_10
          have bfv_10 : -2147483648 ≤ fv_10.toInt ∧ fv_10.toInt ≤ 2147483647 := bfv_10
          have ffv_10 := efv_10.symm
          have cq_11 : fv_10 = wkf iv4_3.toInt.toNat := ?o37
          case o37 =>
            rw [← ffv_10, ← cl_qc_14]
            exact (hx_col_at fq_7 (by unfold Int32.toNatClampNeg; omega)).symm
          obtain ⟨fv_12, efv_12⟩ : ∃ y : Int32, y = hl1.2.1 q_7 15 := ⟨_, rfl⟩
          have bfv_12 := hT.gi gq_7 tt_2 (k := 15) rfl
          rw [← efv_12] at bfv_12
          have bfv_12 : -2147483648 ≤ fv_12.toInt ∧ fv_12.toInt ≤ 2147483647 := bfv_12
          have ffv_12 := efv_12.symm
          have cq_13 : fv_12 = owf iv4_3.toInt.toNat := ?o38
          case o38 =>
            rw [← ffv_12, ← cl_qc_15]
            exact (hx_col_at fq_7 (by unfold Int32.toNatClampNeg; omega)).symm
          obtain ⟨fv_14, efv_14⟩ : ∃ y : Int32, y = hl1.2.1 q_7 16 := ⟨_, rfl⟩
          have bfv_14 := hT.gi gq_7 tt_2 (k := 16) rfl
          rw [← efv_14] at bfv_14
          have bfv_14 : -2147483648 ≤ fv_14.toInt ∧ fv_14.toInt ≤ 2147483647 := bfv_14
          have ffv_14 := efv_14.symm
          have cq_15 : fv_14 = szf iv4_3.toInt.toNat := ?o39
          case o39 =>
            rw [← ffv_14, ← cl_qc_16]
            exact (hx_col_at fq_7 (by unfold Int32.toNatClampNeg; omega)).symm
          obtain ⟨fv_16, efv_16⟩ : ∃ y : Int32, y = hl1.2.1 q_7 17 := ⟨_, rfl⟩
          have bfv_16 := hT.gi gq_7 tt_2 (k := 17) rfl
          rw [← efv_16] at bfv_16
          have bfv_16 : -2147483648 ≤ fv_16.toInt ∧ fv_16.toInt ≤ 2147483647 := bfv_16
          have ffv_16 := efv_16.symm
          have cq_17 : fv_16 = gdf iv4_3.toInt.toNat := ?o40
          case o40 =>
            rw [← ffv_16, ← cl_qc_17]
            exact (hx_col_at fq_7 (by unfold Int32.toNatClampNeg; omega)).symm
          obtain ⟨fv_18, efv_18⟩ : ∃ y : Int32, y = hl1.2.1 q_7 18 := ⟨_, rfl⟩
          have bfv_18 := hT.gi gq_7 tt_2 (k := 18) rfl
          rw [← efv_18] at bfv_18
          have bfv_18 : -2147483648 ≤ fv_18.toInt ∧ fv_18.toInt ≤ 2147483647 := bfv_18
          have ffv_18 := efv_18.symm
          have cq_19 : fv_18 = svf iv4_3.toInt.toNat := ?o41
          case o41 =>
            rw [← ffv_18, ← cl_qc_18]
            exact (hx_col_at fq_7 (by unfold Int32.toNatClampNeg; omega)).symm
          have cb_20 := hCB iv4_3.toInt.toNat (by omega); rw [← cq_9, ← cq_11, ← cq_13, ← cq_15, ← cq_17, ← cq_19] at cb_20
          obtain ⟨⟨cb_20al, cb_20ah⟩, ⟨cb_20bl, cb_20bh⟩, ⟨cb_20cl, cb_20ch⟩, ⟨cb_20dl, cb_20dh⟩, ⟨cb_20el, cb_20eh⟩, ⟨cb_20fl, cb_20fh⟩⟩ := cb_20
          obtain ⟨fv_21, efv_21⟩ : ∃ y : Int32, y = hl1.2.1 q_7 0 := ⟨_, rfl⟩
          have bfv_21 := hT.gi gq_7 tt_2 (k := 0) rfl
          rw [← efv_21] at bfv_21
          have bfv_21 : 0 ≤ fv_21.toInt ∧ fv_21.toInt ≤ 99 := bfv_21
          have ffv_21 := efv_21.symm
          have cq_22 : fv_21 = iv4_3 := ?o42
          case o42 =>
            rw [← ffv_21]
            refine hx_num_at nu_qc fq_7 ?o43 ?o44
            case o43 => omega
            case o44 => omega
          have hTo := hT
          obtain ⟨q_23, fq_23, gq_23⟩ := hv_rf hT gq_7 tt_2 (k := 3) (u := 0) rfl
          obtain ⟨q_24, fq_24, gq_24⟩ := hv_rf hT gq_23 tt_0 (k := 2) (u := 11) rfl
          obtain ⟨fa_25, nfa_25⟩ : ∃ g : Nat → Int32, hl1.2.1 q_24 = g := ⟨_, rfl⟩
          refine hx_goi (hx_runV (As := [.ref qy, .int nw0]) (rest := []) ⟨hx, hb, hml, hown, hts⟩ hW gq_7 tt_2 (T := TX2) (N := 19) rfl (t_X2_isOpen_v l dC dI dA hL1 hl1 H.size q_7 qy nw0 hT gq_7 (gqy.S hM) pqo (gpqo.S hM) ((hM.o gqy trivial rfl).2.trans f_qy_2) pqd (gpqd.S hM) ((hM.o gqy trivial rfl).2.trans f_qy_3) pqs (gpqs.S hM) ((hM.o gqy trivial rfl).2.trans f_qy_5) pqk (gpqk.S hM) ((hM.o gqy trivial rfl).2.trans f_qy_4) pqt (gpqt.S hM) ((hM.o gqy trivial rfl).2.trans f_qy_1) q_23 gq_23 fq_23 q_24 gq_24 fq_24 pof (hx_afS hM gpqo rfl af_pqo) pdf (hx_afS hM gpqd rfl af_pqd) psm (hx_afS hM gpqs rfl af_pqs) pkf (hx_afS hM gpqk rfl af_pqk) pst (hx_afS hM gpqt rfl af_pqt) fa_25 nfa_25 fv_8 ffv_8 fv_14 ffv_14 fv_16 ffv_16 fv_12 ffv_12 fv_18 ffv_18 fv_21 ffv_21 n0 ((hM.o gqy trivial rfl).1.trans f_qy_0) (A (plf iv4_3.toInt.toNat).toInt.toNat).2.1 (by rw [← nfa_25]; exact (hAC iv4_3.toNatClampNeg (by unfold Int32.toNatClampNeg; omega) (by unfold Int32.toNatClampNeg; omega) _ _ fq_7 fq_23).2.2.2.1 _ fq_24) (hAB _).1 ⟨?o45, ?o46⟩ ⟨?o47, ?o48⟩ hps) (cwV 2 hts (hx_gV kw_857 kw_854 kw_855 kw_856 kw_110) rfl rfl rfl (by decide +kernel) ⟨Nat.le_of_ble_eq_true rfl, Nat.le_of_ble_eq_true rfl⟩) rfl hl.1 rfl (Nat.le_of_ble_eq_true rfl) dX9_openInstalments_39 ⟨Nat.le_of_ble_eq_true rfl, Nat.le_of_ble_eq_true rfl⟩) hW (fun r_28 L_26 h_27 H locs p_29 hW => ?_)
          case o45 => omega
          case o46 => omega
          case o47 => omega
          case o48 => omega
          obtain ⟨hr_30, hT, hs⟩ := p_29
          replace hT : hx_T T_tb L_26 h_27 := hT
          replace hs : hx_S T_tb [] hL1 hl1 L_26 h_27 := hs
          replace f_x_7 := (hs.o gx trivial rfl).2.trans f_x_7
          replace f_x_10 := (hs.o gx trivial rfl).2.trans f_x_10
          replace f_x_14 := (hs.o gx trivial rfl).2.trans f_x_14
          replace f_x_11 := (hs.o gx trivial rfl).1.trans f_x_11
          replace f_x_2 := (hs.o gx trivial rfl).1.trans f_x_2
          replace f_x_8 := (hs.o gx trivial rfl).1.trans f_x_8
          replace fq_3 := (hs.o gq_2 trivial rfl).2.trans fq_3
          replace ffv_8 := (hs.o gq_7 trivial rfl).1.trans ffv_8
          replace ffv_10 := (hs.o gq_7 trivial rfl).1.trans ffv_10
          replace ffv_12 := (hs.o gq_7 trivial rfl).1.trans ffv_12
          replace ffv_14 := (hs.o gq_7 trivial rfl).1.trans ffv_14
          replace ffv_16 := (hs.o gq_7 trivial rfl).1.trans ffv_16
          replace ffv_18 := (hs.o gq_7 trivial rfl).1.trans ffv_18
          replace ffv_21 := (hs.o gq_7 trivial rfl).1.trans ffv_21
          replace fq_23 := (hs.o gq_7 trivial rfl).2.trans fq_23
          replace fq_24 := (hs.o gq_23 trivial rfl).2.trans fq_24
          replace pf_x_8 : ∀ j : Nat, (j : Int) < (h_27.2.1 x 8).toInt → h_27.2.2 qp j ≠ none := by
            intro j hj; rw [(hs.o gx trivial rfl).1] at hj; rw [(hs.a gqp rfl j).2]; exact pf_x_8 j hj
          replace pf_x_11 : ∀ j : Nat, (j : Int) < (h_27.2.1 x 11).toInt → h_27.2.2 qc j ≠ none := by
            intro j hj; rw [(hs.o gx trivial rfl).1] at hj; rw [(hs.a gqc rfl j).2]; exact pf_x_11 j hj
          replace cl_qc_13 : hx_col 100 h_27 qc 13 = odf := (hx_col_S hs hTo gqc tt_45 tt_2 rfl rfl).trans cl_qc_13
          replace cl_qc_14 : hx_col 100 h_27 qc 14 = wkf := (hx_col_S hs hTo gqc tt_45 tt_2 rfl rfl).trans cl_qc_14
          replace cl_qc_15 : hx_col 100 h_27 qc 15 = owf := (hx_col_S hs hTo gqc tt_45 tt_2 rfl rfl).trans cl_qc_15
          replace cl_qc_16 : hx_col 100 h_27 qc 16 = szf := (hx_col_S hs hTo gqc tt_45 tt_2 rfl rfl).trans cl_qc_16
          replace cl_qc_17 : hx_col 100 h_27 qc 17 = gdf := (hx_col_S hs hTo gqc tt_45 tt_2 rfl rfl).trans cl_qc_17
          replace cl_qc_18 : hx_col 100 h_27 qc 18 = svf := (hx_col_S hs hTo gqc tt_45 tt_2 rfl rfl).trans cl_qc_18
          replace nu_qp : hx_num 40 h_27 qp 0 (pn0.toInt) := hx_num_S hs hTo gqp tt_44 tt_4 rfl rfl nu_qp
          replace nu_qc : hx_num 100 h_27 qc 0 (cn0.toInt) := hx_num_S hs hTo gqc tt_45 tt_2 rfl rfl nu_qc
          replace hDF : hw_DF h_27 qc qp 2 agf cn0.toInt := hw_DF_S hs hTo gqc gqp tt_45 tt_2 rfl rfl rfl hDF
          replace hAC : hv_AC h_27 qc plf cn0.toInt A := hv_AC_S hs hTo gqc tt_45 tt_2 rfl tt_0 rfl rfl rfl rfl rfl rfl rfl hAC
          replace eo_v1 := (hs.a gqp rfl _).2.trans eo_v1
          replace fq_2 := (hs.a gqc rfl _).2.trans fq_2
          replace eoq_3 := (hs.a gqp rfl _).2.trans eoq_3
          replace fq_7 := (hs.a gqc rfl _).2.trans fq_7
          replace nfa_25 : h_27.2.1 q_24 = fa_25 := (funext fun j => (hs.a gq_24 rfl j).1).trans nfa_25
          replace hM := hM.tr (hs.mono ?o49)
          case o49 => decide
          replace gx := gx.S hs
          replace gqp := gqp.S hs
          replace gqc := gqc.S hs
          replace gq_2 := gq_2.S hs
          replace gq_3 := gq_3.S hs
          replace gq_7 := gq_7.S hs
          replace gq_23 := gq_23.S hs
          replace gq_24 := gq_24.S hs
          have hio9 : (r_28.toInt = 1 ∧ 0 < ((hz_Rn odf szf gdf owf svf (hz_rc A plf) pof pdf psm pkf pst nw0.toInt n0.toInt.toNat) iv4_3.toInt.toNat)) ∨ (r_28.toInt = 0 ∧ ¬ 0 < ((hz_Rn odf szf gdf owf svf (hz_rc A plf) pof pdf psm pkf pst nw0.toInt n0.toInt.toNat) iv4_3.toInt.toNat)) := ?o50
          case o50 =>
            unfold hz_Rn
            rw [show ((iv4_3.toInt.toNat : Nat) : Int) = fv_21.toInt from by rw [cq_22]; omega, ← cq_19, ← cq_9, ← cq_15, ← cq_17, ← cq_13]
            exact hr_30
          clear hr_30
          refine hb_if_eq (zx := r_28.toInt) (tgt := 57) hx hb rfl dX9_openInstalments_42 ?o51 (fun c_31 => ?_) (fun c_31 => ?_)
          case o51 => decide
          · skip
            obtain ⟨x_32, ex_32⟩ : ∃ y : Int32, y = iv4_3 + Int32.ofInt 1 := ⟨_, rfl⟩
            have rg_33 := i32_r iv4_3
            have zx_32 : x_32.toInt = iv4_3.toInt + (1) := ?o52
            case o52 =>
              rw [ex_32]
              refine i32_add rfl ?o53 ?o54 ?o55
              case o53 => decide
              case o54 => omega
              case o55 => omega
            refine lv_iinc (v := x_32) (lv' := [(3, .int x_32), (2, .int iv4_2), (0, .ref x), (1, .ref v1)]) hx hb dX9_openInstalments_57 hl (k := 0) rfl ex_32.symm ?o56 rfl (fun ls hl => ?_)
            case o56 => decide
            refine lv_goto (tgt := 4) hx hb dX9_openInstalments_60 ?o57 ?_
            case o57 => decide
            refine ih4 iv4_2 x_32 _ _ L_26 h_27 ?o58 ?o59 ?o60 ?o61 (hz_oi_n vi4_0 ?o62 (fun z => by have z9 := z.2; omega) zx_32) ?o63 ?o64 ls ?o65 hW hT hM f_x_7 f_x_10 f_x_14 f_x_11 f_x_2 f_x_8 gx gqp gqc pf_x_8 pf_x_11 cl_qc_13 cl_qc_14 cl_qc_15 cl_qc_16 cl_qc_17 cl_qc_18 nu_qp nu_qc eo_v1 hDF hAC (lv_sub hl [0, 1, 2, 3] rfl)
            case o58 => omega
            case o59 => omega
            case o60 => omega
            case o61 => omega
            case o62 => omega
            case o63 => omega
            case o64 => omega
            case o65 => omega
          · skip
            refine lv_iload_n hx hb dX9_openInstalments_45 rfl (lv_at hl 1 rfl) ?_
            refine lv_aload_n hx hb dX9_openInstalments_46 rfl (lv_at hl 2 rfl) ?_
            refine hk_getr hx hb hts hC_9 hown hW gx tt_9 10 ?o66 rfl kw_374 ⟨rfl, rfl, rfl⟩ f_x_10 dX9_openInstalments_47 ?_
            case o66 => decide
            refine lv_iload_n hx hb dX9_openInstalments_50 rfl (lv_at hl 0 rfl) ?_
            refine hx_aaldN hx hb hW hT gqc tt_45 (t1 := 2) rfl ⟨?o67, ?o68⟩ (pf_x_11 _ (by rw [f_x_11]; exact hx_tnI (by omega) (by omega))) dX9_openInstalments_51 (fun q_34 fq_34 gq_34 => ?_)
            case o67 => omega
            case o68 => omega
            refine hx_geti hx hb hts hC_2 hown hW hT gq_34 tt_2 14 ?o69 rfl kw_755 ⟨rfl, rfl, rfl⟩ dX9_openInstalments_52 (fun x_35 ex_35 lx_35 ux_35 => ?_)
            case o69 => decide
            have fx_35 := ex_35.symm
            have cx_35 : x_35 = wkf iv4_3.toNatClampNeg := ?o70
            case o70 =>
              rw [ex_35, ← cl_qc_14]
              exact (hx_col_at fq_34 (by unfold Int32.toNatClampNeg; omega)).symm
            have hwb9 := (hCB iv4_3.toNatClampNeg (by unfold Int32.toNatClampNeg; omega)).2.1; rw [← cx_35] at hwb9
            refine lv_iadd hx hb dX9_openInstalments_55 ?_
            have rg_36 := i32_r iv4_2
            have rg_37 := i32_r x_35
            refine lv_topi (fun x_38 ex_38 => ?_)
            have zx_38 : x_38.toInt = iv4_2.toInt + x_35.toInt := ?o71
            case o71 =>
              rw [ex_38]
              refine i32_add rfl rfl ?o72 ?o73
              case o72 => omega
              case o73 => omega
            refine lv_istore_n (lv' := [(2, .int x_38), (3, .int iv4_3), (0, .ref x), (1, .ref v1)]) hx hb dX9_openInstalments_56 rfl hl ?o74 rfl (fun ls hl => ?_)
            case o74 => decide
            obtain ⟨x_39, ex_39⟩ : ∃ y : Int32, y = iv4_3 + Int32.ofInt 1 := ⟨_, rfl⟩
            have rg_40 := i32_r iv4_3
            have zx_39 : x_39.toInt = iv4_3.toInt + (1) := ?o75
            case o75 =>
              rw [ex_39]
              refine i32_add rfl ?o76 ?o77 ?o78
              case o76 => decide
              case o77 => omega
              case o78 => omega
            refine lv_iinc (v := x_39) (lv' := [(3, .int x_39), (2, .int x_38), (0, .ref x), (1, .ref v1)]) hx hb dX9_openInstalments_57 hl (k := 1) rfl ex_39.symm ?o79 rfl (fun ls hl => ?_)
            case o79 => decide
            refine lv_goto (tgt := 4) hx hb dX9_openInstalments_60 ?o80 ?_
            case o80 => decide
            refine ih4 x_38 x_39 _ _ L_26 h_27 ?o81 ?o82 ?o83 ?o84 (hz_oi_y (ix := iv4_3.toNatClampNeg) (v := x_35) vi4_0 ?o85 (by unfold Int32.toNatClampNeg; omega) hag9 ?o86 cx_35 zx_38 zx_39) ?o87 ?o88 ls ?o89 hW hT hM f_x_7 f_x_10 f_x_14 f_x_11 f_x_2 f_x_8 gx gqp gqc pf_x_8 pf_x_11 cl_qc_13 cl_qc_14 cl_qc_15 cl_qc_16 cl_qc_17 cl_qc_18 nu_qp nu_qc eo_v1 hDF hAC (lv_sub hl [0, 1, 2, 3] rfl)
            case o81 => omega
            case o82 => omega
            case o83 => omega
            case o84 => omega
            case o85 => omega
            case o86 => omega
            case o87 => omega
            case o88 => omega
            case o89 => omega
  have zk_0 : (0 : Int32).toInt = 0 := ?o90
  case o90 => decide
  have zk_0 : (0 : Int32).toInt = 0 := ?o91
  case o91 => decide
  refine loop4 101 (0 : Int32) (0 : Int32) _ _ L h ?o92 ?o93 ?o94 ?o95 (by rw [zk_0]; rfl) ?o96 ?o97 ls ?o98 hW hT hM f_x_7 f_x_10 f_x_14 f_x_11 f_x_2 f_x_8 gx gqp gqc pf_x_8 pf_x_11 cl_qc_13 cl_qc_14 cl_qc_15 cl_qc_16 cl_qc_17 cl_qc_18 nu_qp nu_qc eo_v1 hDF hAC hl
  case o92 => decide
  case o93 => decide
  case o94 => decide
  case o95 => decide
  case o96 => omega
  case o97 => omega
  case o98 => omega


set_option maxHeartbeats 4000000 in
set_option maxRecDepth 100000 in
theorem t_X9_order_v (l : Launch) (dC : Nat → ClassId) (dI : Nat → Nat → Nat) (dA : Nat → ClassId) (L : List Nat) (h : hx_h) (sz : Nat) (x : Nat) (i1 : Int32) (i2 : Int32) (hT : hx_T T_tb L h) (gx : hx_g L h x 9) (qp : Nat) (gqp : hx_g L h qp 44) (f_x_7 : h.2.2 x 7 = some qp) (qc : Nat) (gqc : hx_g L h qc 45) (f_x_10 : h.2.2 x 10 = some qc) (qy : Nat) (gqy : hx_g L h qy 3) (f_x_14 : h.2.2 x 14 = some qy) (pqo : Nat) (gpqo : hx_g L h pqo 23) (f_qy_2 : h.2.2 qy 2 = some pqo) (pqd : Nat) (gpqd : hx_g L h pqd 24) (f_qy_3 : h.2.2 qy 3 = some pqd) (pqs : Nat) (gpqs : hx_g L h pqs 26) (f_qy_5 : h.2.2 qy 5 = some pqs) (pqk : Nat) (gpqk : hx_g L h pqk 25) (f_qy_4 : h.2.2 qy 4 = some pqk) (pqt : Nat) (gpqt : hx_g L h pqt 22) (f_qy_1 : h.2.2 qy 1 = some pqt) (pof : Nat → Int32) (af_pqo : h.2.1 pqo = pof) (pdf : Nat → Int32) (af_pqd : h.2.1 pqd = pdf) (psm : Nat → Int32) (af_pqs : h.2.1 pqs = psm) (pkf : Nat → Int32) (af_pqk : h.2.1 pqk = pkf) (pst : Nat → Int32) (af_pqt : h.2.1 pqt = pst) (cn0 : Int32) (f_x_11 : h.2.1 x 11 = cn0) (nw0 : Int32) (f_x_2 : h.2.1 x 2 = nw0) (n0 : Int32) (f_qy_0 : h.2.1 qy 0 = n0) (pn0 : Int32) (f_x_8 : h.2.1 x 8 = pn0) (odf : Nat → Int32) (cl_qc_13 : hx_col 100 h qc 13 = odf) (wkf : Nat → Int32) (cl_qc_14 : hx_col 100 h qc 14 = wkf) (owf : Nat → Int32) (cl_qc_15 : hx_col 100 h qc 15 = owf) (szf : Nat → Int32) (cl_qc_16 : hx_col 100 h qc 16 = szf) (gdf : Nat → Int32) (cl_qc_17 : hx_col 100 h qc 17 = gdf) (svf : Nat → Int32) (cl_qc_18 : hx_col 100 h qc 18 = svf) (tf : Nat → Int32) (cl_qc_9 : hx_col 100 h qc 9 = tf) (smf : Nat → Int32) (cl_qc_6 : hx_col 100 h qc 6 = smf) (udf : Nat → Int32) (cl_qc_12 : hx_col 100 h qc 12 = udf) (ddf : Nat → Int32) (cl_qp_7 : hx_col 40 h qp 7 = ddf) (eaf : Nat → Int32) (cl_qp_3 : hx_col 40 h qp 3 = eaf) (hdf : Nat → Int32) (cl_qp_4 : hx_col 40 h qp 4 = hdf) (nu_qp : hx_num 40 h qp 0 (pn0.toInt)) (nu_qc : hx_num 100 h qc 0 (cn0.toInt)) (agf plf : Nat → Int32) (A : Nat → hv_act) (hDF : hw_DF h qc qp 2 agf cn0.toInt) (hAC : hv_AC h qc plf cn0.toInt A) (hAB : ∀ j : Nat, (∀ k, 0 ≤ (A j).2.1 k ∧ (A j).2.1 k ≤ 9999) ∧ hv_OK (A j).2.2) (hCB : hz_CB odf wkf owf szf gdf svf) (hps : ∀ j, j < 600 → 0 ≤ (psm j).toInt ∧ (psm j).toInt ≤ 610000) (hte : ∀ c : Nat, c < 100 → (0 ≤ (tf c).toInt ∧ (tf c).toInt ≤ 512) ∧ (0 ≤ (smf c).toInt ∧ (smf c).toInt ≤ 9999)) (hee : ∀ c : Nat, c < 40 → (0 ≤ (eaf c).toInt ∧ (eaf c).toInt ≤ 9999) ∧ (0 ≤ (hdf c).toInt ∧ (hdf c).toInt ≤ 20)) (pf_x_8 : ∀ j : Nat, (j : Int) < (h.2.1 x 8).toInt → h.2.2 qp j ≠ none) (pf_x_11 : ∀ j : Nat, (j : Int) < (h.2.1 x 11).toInt → h.2.2 qc j ≠ none) : Met l yX9_order (Cond.code yX9_order cX9_order 5 (some .int) :: hx_all) ({ frames := 6, cells := 0, slots := 0, locals := 141 }) (va_Pc [.ref x, .int i1, .int i2] (hx_B T_tb (P_ty dA) (dC, dI) vwCl L h sz)) (va_Qi (fun (r : Int32) (u : List Nat × hx_h) => (∃ (odf1 : Nat → Int32) (wkf1 : Nat → Int32) (owf1 : Nat → Int32), hx_col 100 u.2 qc 13 = odf1 ∧ hx_col 100 u.2 qc 14 = wkf1 ∧ hx_col 100 u.2 qc 15 = owf1 ∧ (hz_OS (hz_OC cn0.toInt i1.toInt i2.toInt (udf i1.toInt.toNat).toInt (odf i1.toInt.toNat).toInt (ddf (agf i1.toInt.toNat).toInt.toNat).toInt) i1.toInt.toNat i2 nw0 r ((A (plf i1.toInt.toNat).toInt.toNat).2.1 2) ((smf i1.toInt.toNat).toInt + ((tf i1.toInt.toNat).toInt * (A (plf i1.toInt.toNat).toInt.toNat).2.1 9 + (A (plf i1.toInt.toNat).toInt.toNat).2.1 10 + (A (plf i1.toInt.toNat).toInt.toNat).2.1 11)) (hz_oi agf wkf (hz_Rn odf szf gdf owf svf (hz_rc A plf) pof pdf psm pkf pst nw0.toInt n0.toInt.toNat) (agf i1.toInt.toNat).toInt cn0.toInt.toNat) ((eaf (agf i1.toInt.toNat).toInt.toNat).toInt - (A (plf i1.toInt.toNat).toInt.toNat).2.1 3 * (hdf (agf i1.toInt.toNat).toInt.toNat).toInt) odf odf1 wkf wkf1 owf owf1)) ∧ hx_T T_tb u.1 u.2 ∧ hx_S T_tb [(2, 13), (2, 14), (2, 15)] L h u.1 u.2) (hx_E T_tb (P_ty dA) (dC, dI) vwCl (hx_A L sz)) (hx_A L sz)) 0 0 (hx_A L sz) := by
  refine hx_met (lv := [(0, .ref x), (1, .int i1), (2, .int i2)]) (by decide +kernel) rfl (Nat.le_of_ble_eq_true rfl) rfl ?_
  intro p e s m below meth c hx hb hml hr hlk hts0 hown hin hsz hW ls hl
  have hts : ∀ w ∈ hx_all, w.before _ s = true := fun w hw => hts0 w (List.mem_cons_of_mem _ hw)
  have hown : s.vm.findClass "SmallCourt" = some m.cls := hown
  have hM : hx_S T_tb [(2, 13), (2, 14), (2, 15)] L h L h := hx_S.rf
  have b_cn0 := hT.gi gx tt_9 (k := 11) rfl
  rw [f_x_11] at b_cn0
  have b_cn0 : 0 ≤ cn0.toInt ∧ cn0.toInt ≤ 100 := b_cn0
  have b_nw0 := hT.gi gx tt_9 (k := 2) rfl
  rw [f_x_2] at b_nw0
  have b_nw0 : 0 ≤ nw0.toInt ∧ nw0.toInt ≤ 7999 := b_nw0
  have b_n0 := hT.gi gqy tt_3 (k := 0) rfl
  rw [f_qy_0] at b_n0
  have b_n0 : 0 ≤ n0.toInt ∧ n0.toInt ≤ 600 := b_n0
  have b_pn0 := hT.gi gx tt_9 (k := 8) rfl
  rw [f_x_8] at b_pn0
  have b_pn0 : 0 ≤ pn0.toInt ∧ pn0.toInt ≤ 40 := b_pn0
  refine lv_aload_n hx hb dX9_order_0 rfl (lv_at hl 0 rfl) ?_
  refine lv_iload_n hx hb dX9_order_1 rfl (lv_at hl 1 rfl) ?_
  have hTo := hT
  refine hx_goq (hx_runV (As := [.int i1]) (rest := []) ⟨hx, hb, hml, hown, hts⟩ hW gx tt_9 (T := TX9) (N := 20) rfl (t_X9_claimAt_2 l dC dI dA L h s.heap.size x i1 hT gx cn0 f_x_11 qc gqc f_x_10 pf_x_11) (cwV 1 hts (hx_gV kw_810 kw_807 kw_809 kw_25 kw_94) rfl rfl rfl (by decide +kernel) ⟨Nat.le_of_ble_eq_true rfl, Nat.le_of_ble_eq_true rfl⟩) rfl hl.1 rfl (Nat.le_of_ble_eq_true rfl) dX9_order_2 ⟨Nat.le_of_ble_eq_true rfl, Nat.le_of_ble_eq_true rfl⟩) hW (fun r_3 L_1 h_2 H locs p_4 hW => ?_)
  obtain ⟨hr_5, hT, hs⟩ := p_4
  replace hT : hx_T T_tb L_1 h_2 := hT
  replace hs : hx_S T_tb [] L h L_1 h_2 := hs
  replace f_x_7 := (hs.o gx trivial rfl).2.trans f_x_7
  replace f_x_10 := (hs.o gx trivial rfl).2.trans f_x_10
  replace f_x_14 := (hs.o gx trivial rfl).2.trans f_x_14
  replace f_x_11 := (hs.o gx trivial rfl).1.trans f_x_11
  replace f_x_2 := (hs.o gx trivial rfl).1.trans f_x_2
  replace f_x_8 := (hs.o gx trivial rfl).1.trans f_x_8
  replace pf_x_8 : ∀ j : Nat, (j : Int) < (h_2.2.1 x 8).toInt → h_2.2.2 qp j ≠ none := by
    intro j hj; rw [(hs.o gx trivial rfl).1] at hj; rw [(hs.a gqp rfl j).2]; exact pf_x_8 j hj
  replace pf_x_11 : ∀ j : Nat, (j : Int) < (h_2.2.1 x 11).toInt → h_2.2.2 qc j ≠ none := by
    intro j hj; rw [(hs.o gx trivial rfl).1] at hj; rw [(hs.a gqc rfl j).2]; exact pf_x_11 j hj
  replace cl_qc_13 : hx_col 100 h_2 qc 13 = odf := (hx_col_S hs hTo gqc tt_45 tt_2 rfl rfl).trans cl_qc_13
  replace cl_qc_14 : hx_col 100 h_2 qc 14 = wkf := (hx_col_S hs hTo gqc tt_45 tt_2 rfl rfl).trans cl_qc_14
  replace cl_qc_15 : hx_col 100 h_2 qc 15 = owf := (hx_col_S hs hTo gqc tt_45 tt_2 rfl rfl).trans cl_qc_15
  replace cl_qc_16 : hx_col 100 h_2 qc 16 = szf := (hx_col_S hs hTo gqc tt_45 tt_2 rfl rfl).trans cl_qc_16
  replace cl_qc_17 : hx_col 100 h_2 qc 17 = gdf := (hx_col_S hs hTo gqc tt_45 tt_2 rfl rfl).trans cl_qc_17
  replace cl_qc_18 : hx_col 100 h_2 qc 18 = svf := (hx_col_S hs hTo gqc tt_45 tt_2 rfl rfl).trans cl_qc_18
  replace cl_qc_9 : hx_col 100 h_2 qc 9 = tf := (hx_col_S hs hTo gqc tt_45 tt_2 rfl rfl).trans cl_qc_9
  replace cl_qc_6 : hx_col 100 h_2 qc 6 = smf := (hx_col_S hs hTo gqc tt_45 tt_2 rfl rfl).trans cl_qc_6
  replace cl_qc_12 : hx_col 100 h_2 qc 12 = udf := (hx_col_S hs hTo gqc tt_45 tt_2 rfl rfl).trans cl_qc_12
  replace cl_qp_7 : hx_col 40 h_2 qp 7 = ddf := (hx_col_S hs hTo gqp tt_44 tt_4 rfl rfl).trans cl_qp_7
  replace cl_qp_3 : hx_col 40 h_2 qp 3 = eaf := (hx_col_S hs hTo gqp tt_44 tt_4 rfl rfl).trans cl_qp_3
  replace cl_qp_4 : hx_col 40 h_2 qp 4 = hdf := (hx_col_S hs hTo gqp tt_44 tt_4 rfl rfl).trans cl_qp_4
  replace nu_qp : hx_num 40 h_2 qp 0 (pn0.toInt) := hx_num_S hs hTo gqp tt_44 tt_4 rfl rfl nu_qp
  replace nu_qc : hx_num 100 h_2 qc 0 (cn0.toInt) := hx_num_S hs hTo gqc tt_45 tt_2 rfl rfl nu_qc
  replace hDF : hw_DF h_2 qc qp 2 agf cn0.toInt := hw_DF_S hs hTo gqc gqp tt_45 tt_2 rfl rfl rfl hDF
  replace hAC : hv_AC h_2 qc plf cn0.toInt A := hv_AC_S hs hTo gqc tt_45 tt_2 rfl tt_0 rfl rfl rfl rfl rfl rfl rfl hAC
  replace hM := hM.tr (hs.mono ?o0)
  case o0 => decide
  replace gx := gx.S hs
  replace gqp := gqp.S hs
  replace gqc := gqc.S hs
  obtain ⟨hr_5, hr_5B⟩ := hr_5
  have hr_5 : ∀ q, r_3 = some q → hx_g L_1 h_2 q 2 := hr_5
  rcases r_3 with _ | q_6
  · skip
    have k_7 : i1.toInt < 0 ∨ cn0.toInt ≤ i1.toInt := by
      rcases hr_5B with ⟨_, z⟩ | ⟨_, _, q, z, _⟩
      · exact z
      · cases z
    refine lv_astore_nN (lv' := [(3, .null), (0, .ref x), (1, .int i1), (2, .int i2)]) hx hb dX9_order_5 rfl hl ?o1 rfl (fun ls hl => ?_)
    case o1 => decide
    refine lv_aload_nN hx hb dX9_order_6 rfl (lv_at hl 0 rfl) ?_
    refine lv_ifnullN (tgt := 47) hx hb dX9_order_7 ?o2 ?_
    case o2 => decide
    refine lv_iconst (v := -1) hx hb dX9_order_47 ?o3 ?_
    case o3 => decide
    refine hx_reti hx hb hr hlk hW ⟨⟨odf, wkf, owf, cl_qc_13, cl_qc_14, cl_qc_15, (Or.inl ⟨(fun hc => by have h1 := hc.1; omega), ?o4, rfl, rfl, rfl⟩)⟩, hT, hM⟩ dX9_order_48
    case o4 => decide
  · have gq_6 := hr_5 _ rfl
    have k_8 : 0 ≤ i1.toInt ∧ i1.toInt < cn0.toInt ∧ h_2.2.2 qc i1.toNatClampNeg = some q_6 := by
      rcases hr_5B with ⟨z, _⟩ | ⟨z1, z2, q, z3, z4⟩
      · cases z
      · cases z3; exact ⟨z1, z2, z4⟩
    have fo_9 := k_8.2.2
    have k_8 : 0 ≤ i1.toInt ∧ i1.toInt < cn0.toInt := ⟨k_8.1, k_8.2.1⟩
    refine lv_astore_n (lv' := [(3, .ref q_6), (0, .ref x), (1, .int i1), (2, .int i2)]) hx hb dX9_order_5 rfl hl ?o5 rfl (fun ls hl => ?_)
    case o5 => decide
    refine lv_aload_n hx hb dX9_order_6 rfl (lv_at hl 0 rfl) ?_
    refine lv_ifnull hx hb dX9_order_7 ?_
    refine lv_aload_n hx hb dX9_order_10 rfl (lv_at hl 0 rfl) ?_
    refine hx_geti hx hb hts hC_2 hown hW hT gq_6 tt_2 12 ?o6 rfl kw_751 ⟨rfl, rfl, rfl⟩ dX9_order_11 (fun x_10 ex_10 lx_10 ux_10 => ?_)
    case o6 => decide
    have fx_10 := ex_10.symm
    have cx_10 : x_10 = udf i1.toNatClampNeg := ?o7
    case o7 =>
      rw [ex_10, ← cl_qc_12]
      exact (hx_col_at fo_9 (by unfold Int32.toNatClampNeg; omega)).symm
    refine lv_iconst (v := 5) hx hb dX9_order_14 ?o8 ?_
    case o8 => decide
    refine hb_icmp_ne (zx := x_10.toInt) (zy := 5) (tgt := 47) hx hb rfl ?o9 dX9_order_15 ?o10 (fun c_11 => ?_) (fun c_11 => ?_)
    case o9 => decide
    case o10 => decide
    · skip
      refine lv_iconst (v := -1) hx hb dX9_order_47 ?o11 ?_
      case o11 => decide
      refine hx_reti hx hb hr hlk hW ⟨⟨odf, wkf, owf, cl_qc_13, cl_qc_14, cl_qc_15, (Or.inl ⟨(fun hc => by have h1 := hc.2.1; rw [show udf i1.toInt.toNat = x_10 from cx_10.symm] at h1; omega), ?o12, rfl, rfl, rfl⟩)⟩, hT, hM⟩ dX9_order_48
      case o12 => decide
    · skip
      refine lv_aload_n hx hb dX9_order_18 rfl (lv_at hl 0 rfl) ?_
      refine hx_geti hx hb hts hC_2 hown hW hT gq_6 tt_2 13 ?o13 rfl kw_753 ⟨rfl, rfl, rfl⟩ dX9_order_19 (fun x_12 ex_12 lx_12 ux_12 => ?_)
      case o13 => decide
      have fx_12 := ex_12.symm
      have cx_12 : x_12 = odf i1.toNatClampNeg := ?o14
      case o14 =>
        rw [ex_12, ← cl_qc_13]
        exact (hx_col_at fo_9 (by unfold Int32.toNatClampNeg; omega)).symm
      refine lv_iconst (v := -1) hx hb dX9_order_22 ?o15 ?_
      case o15 => decide
      refine hb_icmp_ne (zx := x_12.toInt) (zy := (-1)) (tgt := 47) hx hb rfl ?o16 dX9_order_23 ?o17 (fun c_13 => ?_) (fun c_13 => ?_)
      case o16 => decide
      case o17 => decide
      · skip
        refine lv_iconst (v := -1) hx hb dX9_order_47 ?o18 ?_
        case o18 => decide
        refine hx_reti hx hb hr hlk hW ⟨⟨odf, wkf, owf, cl_qc_13, cl_qc_14, cl_qc_15, (Or.inl ⟨(fun hc => by have h1 := hc.2.2.1; rw [show odf i1.toInt.toNat = x_12 from cx_12.symm] at h1; omega), ?o19, rfl, rfl, rfl⟩)⟩, hT, hM⟩ dX9_order_48
        case o19 => decide
      · skip
        refine lv_aload_n hx hb dX9_order_26 rfl (lv_at hl 0 rfl) ?_
        refine hx_getn hx hb hts hC_2 hown hW hT gq_6 tt_2 2 ?o20 rfl kw_733 ⟨rfl, rfl, rfl⟩ dX9_order_27 (fun q_14 fq_14 gq_14 => ?_)
        case o20 => decide
        obtain ⟨dAq_14, dBq_14, dCq_14⟩ := hDF i1.toNatClampNeg (by unfold Int32.toNatClampNeg; omega) (by unfold Int32.toNatClampNeg; omega) _ _ fo_9 fq_14
        have dAq_14 : 0 ≤ (agf i1.toNatClampNeg).toInt := dAq_14
        have dBq_14 : (agf i1.toNatClampNeg).toInt < 40 := dBq_14
        have dUq_14 : 0 ≤ (agf i1.toInt.toNat).toInt ∧ (agf i1.toInt.toNat).toInt < 40 := ⟨dAq_14, dBq_14⟩
        have eoq_14 : h_2.2.2 qp (agf i1.toNatClampNeg).toNatClampNeg = some q_14 := dCq_14
        refine hx_geti hx hb hts hC_4 hown hW hT gq_14 tt_4 7 ?o21 rfl kw_623 ⟨rfl, rfl, rfl⟩ dX9_order_30 (fun x_15 ex_15 lx_15 ux_15 => ?_)
        case o21 => decide
        have fx_15 := ex_15.symm
        have cx_15 : x_15 = ddf (agf i1.toNatClampNeg).toNatClampNeg := ?o22
        case o22 =>
          rw [ex_15, ← cl_qp_7]
          exact (hx_col_at eoq_14 (by unfold Int32.toNatClampNeg; omega)).symm
        refine hb_if_ne (zx := x_15.toInt) (tgt := 47) hx hb rfl dX9_order_33 ?o23 (fun c_16 => ?_) (fun c_16 => ?_)
        case o23 => decide
        · skip
          refine lv_iconst (v := -1) hx hb dX9_order_47 ?o24 ?_
          case o24 => decide
          refine hx_reti hx hb hr hlk hW ⟨⟨odf, wkf, owf, cl_qc_13, cl_qc_14, cl_qc_15, (Or.inl ⟨(fun hc => by have h1 := hc.2.2.2.1; rw [show ddf (agf i1.toInt.toNat).toInt.toNat = x_15 from cx_15.symm] at h1; omega), ?o25, rfl, rfl, rfl⟩)⟩, hT, hM⟩ dX9_order_48
          case o25 => decide
        · skip
          refine lv_iload_n hx hb dX9_order_36 rfl (lv_at hl 3 rfl) ?_
          refine lv_iconst (v := 1) hx hb dX9_order_37 ?o26 ?_
          case o26 => decide
          refine lv_sipush (v := 9999) hx hb dX9_order_38 ?o27 ?_
          case o27 => decide
          have hTo := hT
          have zc_9999 : (9999 : Int32).toInt = 9999 := ?o28
          case o28 => decide
          have zc_1 : (1 : Int32).toInt = 1 := ?o29
          case o29 => decide
          refine hx_goi (hx_runS (As := [.int i2, .int (1 : Int32), .int (9999 : Int32)]) (rest := []) ⟨hx, hb, hml, hown, hts⟩ hW (t_X9_isWithin_2 l dC dI dA L_1 h_2 H.size i2 (1 : Int32) (9999 : Int32) hT) (va_cwS 3 hts (hx_gS kw_434 kw_432 kw_433 kw_94) rfl rfl rfl (by decide +kernel) ⟨Nat.le_of_ble_eq_true rfl, Nat.le_of_ble_eq_true rfl⟩) rfl hl.1 rfl (Nat.le_of_ble_eq_true rfl) dX9_order_41 ⟨Nat.le_of_ble_eq_true rfl, Nat.le_of_ble_eq_true rfl⟩) hW (fun r_19 L_17 h_18 H locs p_20 hW => ?_)
          obtain ⟨hr_21, hT, hs⟩ := p_20
          replace hT : hx_T T_tb L_17 h_18 := hT
          replace hs : hx_S T_tb [] L_1 h_2 L_17 h_18 := hs
          replace f_x_7 := (hs.o gx trivial rfl).2.trans f_x_7
          replace f_x_10 := (hs.o gx trivial rfl).2.trans f_x_10
          replace f_x_14 := (hs.o gx trivial rfl).2.trans f_x_14
          replace f_x_11 := (hs.o gx trivial rfl).1.trans f_x_11
          replace f_x_2 := (hs.o gx trivial rfl).1.trans f_x_2
          replace f_x_8 := (hs.o gx trivial rfl).1.trans f_x_8
          replace fx_10 := (hs.o gq_6 trivial rfl).1.trans fx_10
          replace fx_12 := (hs.o gq_6 trivial rfl).1.trans fx_12
          replace fq_14 := (hs.o gq_6 trivial rfl).2.trans fq_14
          replace fx_15 := (hs.o gq_14 trivial rfl).1.trans fx_15
          replace pf_x_8 : ∀ j : Nat, (j : Int) < (h_18.2.1 x 8).toInt → h_18.2.2 qp j ≠ none := by
            intro j hj; rw [(hs.o gx trivial rfl).1] at hj; rw [(hs.a gqp rfl j).2]; exact pf_x_8 j hj
          replace pf_x_11 : ∀ j : Nat, (j : Int) < (h_18.2.1 x 11).toInt → h_18.2.2 qc j ≠ none := by
            intro j hj; rw [(hs.o gx trivial rfl).1] at hj; rw [(hs.a gqc rfl j).2]; exact pf_x_11 j hj
          replace cl_qc_13 : hx_col 100 h_18 qc 13 = odf := (hx_col_S hs hTo gqc tt_45 tt_2 rfl rfl).trans cl_qc_13
          replace cl_qc_14 : hx_col 100 h_18 qc 14 = wkf := (hx_col_S hs hTo gqc tt_45 tt_2 rfl rfl).trans cl_qc_14
          replace cl_qc_15 : hx_col 100 h_18 qc 15 = owf := (hx_col_S hs hTo gqc tt_45 tt_2 rfl rfl).trans cl_qc_15
          replace cl_qc_16 : hx_col 100 h_18 qc 16 = szf := (hx_col_S hs hTo gqc tt_45 tt_2 rfl rfl).trans cl_qc_16
          replace cl_qc_17 : hx_col 100 h_18 qc 17 = gdf := (hx_col_S hs hTo gqc tt_45 tt_2 rfl rfl).trans cl_qc_17
          replace cl_qc_18 : hx_col 100 h_18 qc 18 = svf := (hx_col_S hs hTo gqc tt_45 tt_2 rfl rfl).trans cl_qc_18
          replace cl_qc_9 : hx_col 100 h_18 qc 9 = tf := (hx_col_S hs hTo gqc tt_45 tt_2 rfl rfl).trans cl_qc_9
          replace cl_qc_6 : hx_col 100 h_18 qc 6 = smf := (hx_col_S hs hTo gqc tt_45 tt_2 rfl rfl).trans cl_qc_6
          replace cl_qc_12 : hx_col 100 h_18 qc 12 = udf := (hx_col_S hs hTo gqc tt_45 tt_2 rfl rfl).trans cl_qc_12
          replace cl_qp_7 : hx_col 40 h_18 qp 7 = ddf := (hx_col_S hs hTo gqp tt_44 tt_4 rfl rfl).trans cl_qp_7
          replace cl_qp_3 : hx_col 40 h_18 qp 3 = eaf := (hx_col_S hs hTo gqp tt_44 tt_4 rfl rfl).trans cl_qp_3
          replace cl_qp_4 : hx_col 40 h_18 qp 4 = hdf := (hx_col_S hs hTo gqp tt_44 tt_4 rfl rfl).trans cl_qp_4
          replace nu_qp : hx_num 40 h_18 qp 0 (pn0.toInt) := hx_num_S hs hTo gqp tt_44 tt_4 rfl rfl nu_qp
          replace nu_qc : hx_num 100 h_18 qc 0 (cn0.toInt) := hx_num_S hs hTo gqc tt_45 tt_2 rfl rfl nu_qc
          replace hDF : hw_DF h_18 qc qp 2 agf cn0.toInt := hw_DF_S hs hTo gqc gqp tt_45 tt_2 rfl rfl rfl hDF
          replace hAC : hv_AC h_18 qc plf cn0.toInt A := hv_AC_S hs hTo gqc tt_45 tt_2 rfl tt_0 rfl rfl rfl rfl rfl rfl rfl hAC
          replace fo_9 := (hs.a gqc rfl _).2.trans fo_9
          replace eoq_14 := (hs.a gqp rfl _).2.trans eoq_14
          replace hM := hM.tr (hs.mono ?o30)
          case o30 => decide
          replace gx := gx.S hs
          replace gqp := gqp.S hs
          replace gqc := gqc.S hs
          replace gq_6 := gq_6.S hs
          replace gq_14 := gq_14.S hs
          refine hb_if_ne (zx := r_19.toInt) (tgt := 49) hx hb rfl dX9_order_44 ?o31 (fun c_22 => ?_) (fun c_22 => ?_)
          case o31 => decide
          · skip
            replace hr_21 := hr_21.resolve_left (fun z9 => c_22 z9.1)
            replace c_22 := hr_21.1
            replace hr_21 := hr_21.2
            refine lv_aload_n hx hb dX9_order_49 rfl (lv_at hl 0 rfl) ?_
            refine hx_geti hx hb hts hC_2 hown hW hT gq_6 tt_2 6 ?o32 rfl kw_741 ⟨rfl, rfl, rfl⟩ dX9_order_50 (fun x_23 ex_23 lx_23 ux_23 => ?_)
            case o32 => decide
            have fx_23 := ex_23.symm
            have cx_23 : x_23 = smf i1.toNatClampNeg := ?o33
            case o33 =>
              rw [ex_23, ← cl_qc_6]
              exact (hx_col_at fo_9 (by unfold Int32.toNatClampNeg; omega)).symm
            have hsb9 := (hte i1.toInt.toNat (by omega)).2; rw [show smf i1.toInt.toNat = x_23 from cx_23.symm] at hsb9
            refine lv_aload_n hx hb dX9_order_53 rfl (lv_at hl 0 rfl) ?_
            refine lv_aload_n hx hb dX9_order_54 rfl (lv_at hl 0 rfl) ?_
            refine hx_getn hx hb hts hC_2 hown hW hT gq_6 tt_2 3 ?o34 rfl kw_736 ⟨rfl, rfl, rfl⟩ dX9_order_55 (fun q_24 fq_24 gq_24 => ?_)
            case o34 => decide
            refine lv_iconst (v := 1) hx hb dX9_order_58 ?o35 ?_
            case o35 => decide
            obtain ⟨fv_25, efv_25⟩ : ∃ y : Int32, y = h_18.2.1 q_6 9 := ⟨_, rfl⟩
            have bfv_25 := hT.gi gq_6 tt_2 (k := 9) rfl
            rw [← efv_25] at bfv_25
            have bfv_25 : -2147483648 ≤ fv_25.toInt ∧ fv_25.toInt ≤ 2147483647 := bfv_25
            have ffv_25 := efv_25.symm
            have ctr9 : fv_25 = tf i1.toInt.toNat := ?o36
            case o36 =>
              rw [← ffv_25, ← cl_qc_9]
              exact (hx_col_at fo_9 (by unfold Int32.toNatClampNeg; omega)).symm
            have htb9 := (hte i1.toInt.toNat (by omega)).1; rw [← ctr9] at htb9
            have hTo := hT
            obtain ⟨q_26, fq_26, gq_26⟩ := hv_rf hT gq_24 tt_0 (k := 2) (u := 11) rfl
            obtain ⟨fa_27, nfa_27⟩ : ∃ g : Nat → Int32, h_18.2.1 q_26 = g := ⟨_, rfl⟩
            refine hx_goi (hx_runV (As := [.ref q_24, .int (1 : Int32)]) (rest := [.int x_23]) ⟨hx, hb, hml, hown, hts⟩ hW gq_6 tt_2 (T := TX2) (N := 19) rfl (t_X2_costsBy_v l dC dI dA L_17 h_18 H.size q_6 q_24 (1 : Int32) hT gq_6 gq_24 q_26 gq_26 fq_26 fa_27 nfa_27 fv_25 ffv_25 (A (plf i1.toInt.toNat).toInt.toNat).2.1 (by rw [← nfa_27]; exact (hAC i1.toNatClampNeg (by unfold Int32.toNatClampNeg; omega) (by unfold Int32.toNatClampNeg; omega) _ _ fo_9 fq_24).2.2.2.1 _ fq_26) (hAB _).1 ⟨?o37, ?o38⟩) (cwV 2 hts (hx_gV kw_849 kw_846 kw_847 kw_848 kw_110) rfl rfl rfl (by decide +kernel) ⟨Nat.le_of_ble_eq_true rfl, Nat.le_of_ble_eq_true rfl⟩) rfl hl.1 rfl (Nat.le_of_ble_eq_true rfl) dX9_order_59 ⟨Nat.le_of_ble_eq_true rfl, Nat.le_of_ble_eq_true rfl⟩) hW (fun r_30 L_28 h_29 H locs p_31 hW => ?_)
            case o37 => omega
            case o38 => omega
            obtain ⟨hr_32, hT, hs⟩ := p_31
            replace hT : hx_T T_tb L_28 h_29 := hT
            replace hs : hx_S T_tb [] L_17 h_18 L_28 h_29 := hs
            replace f_x_7 := (hs.o gx trivial rfl).2.trans f_x_7
            replace f_x_10 := (hs.o gx trivial rfl).2.trans f_x_10
            replace f_x_14 := (hs.o gx trivial rfl).2.trans f_x_14
            replace f_x_11 := (hs.o gx trivial rfl).1.trans f_x_11
            replace f_x_2 := (hs.o gx trivial rfl).1.trans f_x_2
            replace f_x_8 := (hs.o gx trivial rfl).1.trans f_x_8
            replace fx_10 := (hs.o gq_6 trivial rfl).1.trans fx_10
            replace fx_12 := (hs.o gq_6 trivial rfl).1.trans fx_12
            replace fq_14 := (hs.o gq_6 trivial rfl).2.trans fq_14
            replace fx_15 := (hs.o gq_14 trivial rfl).1.trans fx_15
            replace fx_23 := (hs.o gq_6 trivial rfl).1.trans fx_23
            replace fq_24 := (hs.o gq_6 trivial rfl).2.trans fq_24
            replace ffv_25 := (hs.o gq_6 trivial rfl).1.trans ffv_25
            replace fq_26 := (hs.o gq_24 trivial rfl).2.trans fq_26
            replace pf_x_8 : ∀ j : Nat, (j : Int) < (h_29.2.1 x 8).toInt → h_29.2.2 qp j ≠ none := by
              intro j hj; rw [(hs.o gx trivial rfl).1] at hj; rw [(hs.a gqp rfl j).2]; exact pf_x_8 j hj
            replace pf_x_11 : ∀ j : Nat, (j : Int) < (h_29.2.1 x 11).toInt → h_29.2.2 qc j ≠ none := by
              intro j hj; rw [(hs.o gx trivial rfl).1] at hj; rw [(hs.a gqc rfl j).2]; exact pf_x_11 j hj
            replace cl_qc_13 : hx_col 100 h_29 qc 13 = odf := (hx_col_S hs hTo gqc tt_45 tt_2 rfl rfl).trans cl_qc_13
            replace cl_qc_14 : hx_col 100 h_29 qc 14 = wkf := (hx_col_S hs hTo gqc tt_45 tt_2 rfl rfl).trans cl_qc_14
            replace cl_qc_15 : hx_col 100 h_29 qc 15 = owf := (hx_col_S hs hTo gqc tt_45 tt_2 rfl rfl).trans cl_qc_15
            replace cl_qc_16 : hx_col 100 h_29 qc 16 = szf := (hx_col_S hs hTo gqc tt_45 tt_2 rfl rfl).trans cl_qc_16
            replace cl_qc_17 : hx_col 100 h_29 qc 17 = gdf := (hx_col_S hs hTo gqc tt_45 tt_2 rfl rfl).trans cl_qc_17
            replace cl_qc_18 : hx_col 100 h_29 qc 18 = svf := (hx_col_S hs hTo gqc tt_45 tt_2 rfl rfl).trans cl_qc_18
            replace cl_qc_9 : hx_col 100 h_29 qc 9 = tf := (hx_col_S hs hTo gqc tt_45 tt_2 rfl rfl).trans cl_qc_9
            replace cl_qc_6 : hx_col 100 h_29 qc 6 = smf := (hx_col_S hs hTo gqc tt_45 tt_2 rfl rfl).trans cl_qc_6
            replace cl_qc_12 : hx_col 100 h_29 qc 12 = udf := (hx_col_S hs hTo gqc tt_45 tt_2 rfl rfl).trans cl_qc_12
            replace cl_qp_7 : hx_col 40 h_29 qp 7 = ddf := (hx_col_S hs hTo gqp tt_44 tt_4 rfl rfl).trans cl_qp_7
            replace cl_qp_3 : hx_col 40 h_29 qp 3 = eaf := (hx_col_S hs hTo gqp tt_44 tt_4 rfl rfl).trans cl_qp_3
            replace cl_qp_4 : hx_col 40 h_29 qp 4 = hdf := (hx_col_S hs hTo gqp tt_44 tt_4 rfl rfl).trans cl_qp_4
            replace nu_qp : hx_num 40 h_29 qp 0 (pn0.toInt) := hx_num_S hs hTo gqp tt_44 tt_4 rfl rfl nu_qp
            replace nu_qc : hx_num 100 h_29 qc 0 (cn0.toInt) := hx_num_S hs hTo gqc tt_45 tt_2 rfl rfl nu_qc
            replace hDF : hw_DF h_29 qc qp 2 agf cn0.toInt := hw_DF_S hs hTo gqc gqp tt_45 tt_2 rfl rfl rfl hDF
            replace hAC : hv_AC h_29 qc plf cn0.toInt A := hv_AC_S hs hTo gqc tt_45 tt_2 rfl tt_0 rfl rfl rfl rfl rfl rfl rfl hAC
            replace fo_9 := (hs.a gqc rfl _).2.trans fo_9
            replace eoq_14 := (hs.a gqp rfl _).2.trans eoq_14
            replace nfa_27 : h_29.2.1 q_26 = fa_27 := (funext fun j => (hs.a gq_26 rfl j).1).trans nfa_27
            replace hM := hM.tr (hs.mono ?o39)
            case o39 => decide
            replace gx := gx.S hs
            replace gqp := gqp.S hs
            replace gqc := gqc.S hs
            replace gq_6 := gq_6.S hs
            replace gq_14 := gq_14.S hs
            replace gq_24 := gq_24.S hs
            replace gq_26 := gq_26.S hs
            refine lv_iadd hx hb dX9_order_62 ?_
            have rg_33 := i32_r x_23
            have rg_34 := i32_r r_30
            refine lv_topi (fun x_35 ex_35 => ?_)
            have zx_35 : x_35.toInt = x_23.toInt + r_30.toInt := ?o40
            case o40 =>
              rw [ex_35]
              refine i32_add rfl rfl ?o41 ?o42
              case o41 => omega
              case o42 => omega
            have hall9 : x_35.toInt = ((smf i1.toInt.toNat).toInt + ((tf i1.toInt.toNat).toInt * (A (plf i1.toInt.toNat).toInt.toNat).2.1 9 + (A (plf i1.toInt.toNat).toInt.toNat).2.1 10 + (A (plf i1.toInt.toNat).toInt.toNat).2.1 11)) := ?o43
            case o43 => rw [zx_35, ← show x_23 = smf i1.toInt.toNat from cx_23, ← ctr9, hr_32.1.1 (by decide)]
            refine lv_istore (lv' := [(4, .int x_35), (3, .ref q_6), (0, .ref x), (1, .int i1), (2, .int i2)]) hx hb dX9_order_63 hl ?o44 rfl (fun ls hl => ?_)
            case o44 => decide
            refine lv_iload_n hx hb dX9_order_65 rfl (lv_at hl 4 rfl) ?_
            refine lv_aload_n hx hb dX9_order_66 rfl (lv_at hl 1 rfl) ?_
            refine hk_getr hx hb hts hC_2 hown hW gq_6 tt_2 3 ?o45 rfl kw_736 ⟨rfl, rfl, rfl⟩ fq_24 dX9_order_67 ?_
            case o45 => decide
            refine hk_getr hx hb hts hC_0 hown hW gq_24 tt_0 2 ?o46 rfl kw_170 ⟨rfl, rfl, rfl⟩ fq_26 dX9_order_70 ?_
            case o46 => decide
            refine lv_iconst (v := 3) hx hb dX9_order_73 ?o47 ?_
            case o47 => decide
            refine hx_iald hx hb hW hT gq_26 tt_11 rfl ?o48 dX9_order_74 (fun x_36 ex_36 lx_36 ux_36 => ?_)
            case o48 => decide
            have ax_36 : x_36 = fa_27 (3 : Int32).toNatClampNeg := ex_36.trans (congrFun nfa_27 _)
            have hmn9 : x_36.toInt = (A (plf i1.toInt.toNat).toInt.toNat).2.1 2 := ?o49
            case o49 =>
              rw [← show hv_rC fa_27 = (A (plf i1.toInt.toNat).toInt.toNat).2.1 from (by rw [← nfa_27]; exact (hAC i1.toNatClampNeg (by unfold Int32.toNatClampNeg; omega) (by unfold Int32.toNatClampNeg; omega) _ _ fo_9 fq_24).2.2.2.1 _ fq_26), ax_36, show (3 : Int32).toNatClampNeg = 3 from by decide]
              rfl
            have hmn9b : 0 ≤ (A (plf i1.toInt.toNat).toInt.toNat).2.1 2 ∧ (A (plf i1.toInt.toNat).toInt.toNat).2.1 2 ≤ 9999 := (hAB _).1 2; rw [← hmn9] at hmn9b
            refine hb_icmp_ge (zx := i2.toInt) (zy := x_36.toInt) (tgt := 87) hx hb rfl rfl dX9_order_75 ?o50 (fun c_37 => ?_) (fun c_37 => ?_)
            case o50 => decide
            · skip
              refine lv_iload_n hx hb dX9_order_87 rfl (lv_at hl 4 rfl) ?_
              refine lv_aload_n hx hb dX9_order_88 rfl (lv_at hl 2 rfl) ?_
              refine lv_aload_n hx hb dX9_order_89 rfl (lv_at hl 1 rfl) ?_
              refine hk_getr hx hb hts hC_2 hown hW gq_6 tt_2 2 ?o51 rfl kw_733 ⟨rfl, rfl, rfl⟩ fq_14 dX9_order_90 ?_
              case o51 => decide
              have hTo := hT
              refine hx_goi (hx_runV (As := [.ref q_14]) (rest := [.int i2]) ⟨hx, hb, hml, hown, hts⟩ hW gx tt_9 (T := TX9) (N := 20) rfl (t_X9_openInstalments_v l dC dI dA L_28 h_29 H.size x q_14 hT gx gq_14 qp gqp f_x_7 qc gqc f_x_10 qy (gqy.S hM) f_x_14 pqo (gpqo.S hM) ((hM.o gqy trivial rfl).2.trans f_qy_2) pqd (gpqd.S hM) ((hM.o gqy trivial rfl).2.trans f_qy_3) pqs (gpqs.S hM) ((hM.o gqy trivial rfl).2.trans f_qy_5) pqk (gpqk.S hM) ((hM.o gqy trivial rfl).2.trans f_qy_4) pqt (gpqt.S hM) ((hM.o gqy trivial rfl).2.trans f_qy_1) (agf i1.toNatClampNeg) eoq_14 ⟨?o52, ?o53⟩ pof (hx_afS hM gpqo rfl af_pqo) pdf (hx_afS hM gpqd rfl af_pqd) psm (hx_afS hM gpqs rfl af_pqs) pkf (hx_afS hM gpqk rfl af_pqk) pst (hx_afS hM gpqt rfl af_pqt) cn0 f_x_11 nw0 f_x_2 n0 ((hM.o gqy trivial rfl).1.trans f_qy_0) pn0 f_x_8 odf cl_qc_13 wkf cl_qc_14 owf cl_qc_15 szf cl_qc_16 gdf cl_qc_17 svf cl_qc_18 nu_qp nu_qc agf plf A hDF hAC hAB hCB hps pf_x_8 pf_x_11) (cwV 1 hts (hx_gV kw_853 kw_850 kw_852 kw_30 kw_94) rfl rfl rfl (by decide +kernel) ⟨Nat.le_of_ble_eq_true rfl, Nat.le_of_ble_eq_true rfl⟩) rfl hl.1 rfl (Nat.le_of_ble_eq_true rfl) dX9_order_93 ⟨Nat.le_of_ble_eq_true rfl, Nat.le_of_ble_eq_true rfl⟩) hW (fun r_40 L_38 h_39 H locs p_41 hW => ?_)
              case o52 => omega
              case o53 => omega
              obtain ⟨hr_42, hT, hs⟩ := p_41
              replace hT : hx_T T_tb L_38 h_39 := hT
              replace hs : hx_S T_tb [] L_28 h_29 L_38 h_39 := hs
              replace f_x_7 := (hs.o gx trivial rfl).2.trans f_x_7
              replace f_x_10 := (hs.o gx trivial rfl).2.trans f_x_10
              replace f_x_14 := (hs.o gx trivial rfl).2.trans f_x_14
              replace f_x_11 := (hs.o gx trivial rfl).1.trans f_x_11
              replace f_x_2 := (hs.o gx trivial rfl).1.trans f_x_2
              replace f_x_8 := (hs.o gx trivial rfl).1.trans f_x_8
              replace fx_10 := (hs.o gq_6 trivial rfl).1.trans fx_10
              replace fx_12 := (hs.o gq_6 trivial rfl).1.trans fx_12
              replace fq_14 := (hs.o gq_6 trivial rfl).2.trans fq_14
              replace fx_15 := (hs.o gq_14 trivial rfl).1.trans fx_15
              replace fx_23 := (hs.o gq_6 trivial rfl).1.trans fx_23
              replace fq_24 := (hs.o gq_6 trivial rfl).2.trans fq_24
              replace ffv_25 := (hs.o gq_6 trivial rfl).1.trans ffv_25
              replace fq_26 := (hs.o gq_24 trivial rfl).2.trans fq_26
              replace pf_x_8 : ∀ j : Nat, (j : Int) < (h_39.2.1 x 8).toInt → h_39.2.2 qp j ≠ none := by
                intro j hj; rw [(hs.o gx trivial rfl).1] at hj; rw [(hs.a gqp rfl j).2]; exact pf_x_8 j hj
              replace pf_x_11 : ∀ j : Nat, (j : Int) < (h_39.2.1 x 11).toInt → h_39.2.2 qc j ≠ none := by
                intro j hj; rw [(hs.o gx trivial rfl).1] at hj; rw [(hs.a gqc rfl j).2]; exact pf_x_11 j hj
              replace cl_qc_13 : hx_col 100 h_39 qc 13 = odf := (hx_col_S hs hTo gqc tt_45 tt_2 rfl rfl).trans cl_qc_13
              replace cl_qc_14 : hx_col 100 h_39 qc 14 = wkf := (hx_col_S hs hTo gqc tt_45 tt_2 rfl rfl).trans cl_qc_14
              replace cl_qc_15 : hx_col 100 h_39 qc 15 = owf := (hx_col_S hs hTo gqc tt_45 tt_2 rfl rfl).trans cl_qc_15
              replace cl_qc_16 : hx_col 100 h_39 qc 16 = szf := (hx_col_S hs hTo gqc tt_45 tt_2 rfl rfl).trans cl_qc_16
              replace cl_qc_17 : hx_col 100 h_39 qc 17 = gdf := (hx_col_S hs hTo gqc tt_45 tt_2 rfl rfl).trans cl_qc_17
              replace cl_qc_18 : hx_col 100 h_39 qc 18 = svf := (hx_col_S hs hTo gqc tt_45 tt_2 rfl rfl).trans cl_qc_18
              replace cl_qc_9 : hx_col 100 h_39 qc 9 = tf := (hx_col_S hs hTo gqc tt_45 tt_2 rfl rfl).trans cl_qc_9
              replace cl_qc_6 : hx_col 100 h_39 qc 6 = smf := (hx_col_S hs hTo gqc tt_45 tt_2 rfl rfl).trans cl_qc_6
              replace cl_qc_12 : hx_col 100 h_39 qc 12 = udf := (hx_col_S hs hTo gqc tt_45 tt_2 rfl rfl).trans cl_qc_12
              replace cl_qp_7 : hx_col 40 h_39 qp 7 = ddf := (hx_col_S hs hTo gqp tt_44 tt_4 rfl rfl).trans cl_qp_7
              replace cl_qp_3 : hx_col 40 h_39 qp 3 = eaf := (hx_col_S hs hTo gqp tt_44 tt_4 rfl rfl).trans cl_qp_3
              replace cl_qp_4 : hx_col 40 h_39 qp 4 = hdf := (hx_col_S hs hTo gqp tt_44 tt_4 rfl rfl).trans cl_qp_4
              replace nu_qp : hx_num 40 h_39 qp 0 (pn0.toInt) := hx_num_S hs hTo gqp tt_44 tt_4 rfl rfl nu_qp
              replace nu_qc : hx_num 100 h_39 qc 0 (cn0.toInt) := hx_num_S hs hTo gqc tt_45 tt_2 rfl rfl nu_qc
              replace hDF : hw_DF h_39 qc qp 2 agf cn0.toInt := hw_DF_S hs hTo gqc gqp tt_45 tt_2 rfl rfl rfl hDF
              replace hAC : hv_AC h_39 qc plf cn0.toInt A := hv_AC_S hs hTo gqc tt_45 tt_2 rfl tt_0 rfl rfl rfl rfl rfl rfl rfl hAC
              replace fo_9 := (hs.a gqc rfl _).2.trans fo_9
              replace eoq_14 := (hs.a gqp rfl _).2.trans eoq_14
              replace nfa_27 : h_39.2.1 q_26 = fa_27 := (funext fun j => (hs.a gq_26 rfl j).1).trans nfa_27
              replace ex_36 := ex_36.trans (hs.a gq_26 rfl _).1.symm
              replace hM := hM.tr (hs.mono ?o54)
              case o54 => decide
              replace gx := gx.S hs
              replace gqp := gqp.S hs
              replace gqc := gqc.S hs
              replace gq_6 := gq_6.S hs
              replace gq_14 := gq_14.S hs
              replace gq_24 := gq_24.S hs
              replace gq_26 := gq_26.S hs
              refine lv_iadd hx hb dX9_order_96 ?_
              have rg_43 := i32_r i2
              have rg_44 := i32_r r_40
              refine lv_topi (fun x_45 ex_45 => ?_)
              have zx_45 : x_45.toInt = i2.toInt + r_40.toInt := ?o55
              case o55 =>
                rw [ex_45]
                refine i32_add rfl rfl ?o56 ?o57
                case o56 => omega
                case o57 => omega
              refine lv_aload_n hx hb dX9_order_97 rfl (lv_at hl 1 rfl) ?_
              refine hk_getr hx hb hts hC_2 hown hW gq_6 tt_2 2 ?o58 rfl kw_733 ⟨rfl, rfl, rfl⟩ fq_14 dX9_order_98 ?_
              case o58 => decide
              refine lv_aload_n hx hb dX9_order_101 rfl (lv_at hl 1 rfl) ?_
              refine hk_getr hx hb hts hC_2 hown hW gq_6 tt_2 3 ?o59 rfl kw_736 ⟨rfl, rfl, rfl⟩ fq_24 dX9_order_102 ?_
              case o59 => decide
              obtain ⟨fv_46, efv_46⟩ : ∃ y : Int32, y = h_39.2.1 q_14 3 := ⟨_, rfl⟩
              have bfv_46 := hT.gi gq_14 tt_4 (k := 3) rfl
              rw [← efv_46] at bfv_46
              have bfv_46 : -2147483648 ≤ fv_46.toInt ∧ fv_46.toInt ≤ 2147483647 := bfv_46
              have ffv_46 := efv_46.symm
              have cea9 : fv_46 = eaf (agf i1.toInt.toNat).toInt.toNat := ?o60
              case o60 =>
                rw [← ffv_46, ← cl_qp_3]
                exact (hx_col_at eoq_14 (by unfold Int32.toNatClampNeg; omega)).symm
              obtain ⟨fv_47, efv_47⟩ : ∃ y : Int32, y = h_39.2.1 q_14 4 := ⟨_, rfl⟩
              have bfv_47 := hT.gi gq_14 tt_4 (k := 4) rfl
              rw [← efv_47] at bfv_47
              have bfv_47 : -2147483648 ≤ fv_47.toInt ∧ fv_47.toInt ≤ 2147483647 := bfv_47
              have ffv_47 := efv_47.symm
              have chd9 : fv_47 = hdf (agf i1.toInt.toNat).toInt.toNat := ?o61
              case o61 =>
                rw [← ffv_47, ← cl_qp_4]
                exact (hx_col_at eoq_14 (by unfold Int32.toNatClampNeg; omega)).symm
              have heb9 := hee (agf i1.toInt.toNat).toInt.toNat (by omega); rw [← cea9, ← chd9] at heb9; obtain ⟨⟨he1, he2⟩, ⟨he3, he4⟩⟩ := heb9
              have hTo := hT
              refine hx_goi (hx_runV (As := [.ref q_24]) (rest := [.int x_45]) ⟨hx, hb, hml, hown, hts⟩ hW gq_14 tt_4 (T := TX4) (N := 10) rfl (t_X4_meansBy_v l dC dI dA L_38 h_39 H.size q_14 q_24 hT gq_14 gq_24 q_26 gq_26 fq_26 fa_27 nfa_27 fv_46 ffv_46 fv_47 ffv_47 (A (plf i1.toInt.toNat).toInt.toNat).2.1 (by rw [← nfa_27]; exact (hAC i1.toNatClampNeg (by unfold Int32.toNatClampNeg; omega) (by unfold Int32.toNatClampNeg; omega) _ _ fo_9 fq_24).2.2.2.1 _ fq_26) (hAB _).1 ⟨?o62, ?o63⟩ ⟨?o64, ?o65⟩) (cwV 1 hts (hx_gV kw_887 kw_884 kw_885 kw_886 kw_108) rfl rfl rfl (by decide +kernel) ⟨Nat.le_of_ble_eq_true rfl, Nat.le_of_ble_eq_true rfl⟩) rfl hl.1 rfl (Nat.le_of_ble_eq_true rfl) dX9_order_105 ⟨Nat.le_of_ble_eq_true rfl, Nat.le_of_ble_eq_true rfl⟩) hW (fun r_50 L_48 h_49 H locs p_51 hW => ?_)
              case o62 => omega
              case o63 => omega
              case o64 => omega
              case o65 => omega
              obtain ⟨hr_52, hT, hs⟩ := p_51
              replace hT : hx_T T_tb L_48 h_49 := hT
              replace hs : hx_S T_tb [] L_38 h_39 L_48 h_49 := hs
              replace f_x_7 := (hs.o gx trivial rfl).2.trans f_x_7
              replace f_x_10 := (hs.o gx trivial rfl).2.trans f_x_10
              replace f_x_14 := (hs.o gx trivial rfl).2.trans f_x_14
              replace f_x_11 := (hs.o gx trivial rfl).1.trans f_x_11
              replace f_x_2 := (hs.o gx trivial rfl).1.trans f_x_2
              replace f_x_8 := (hs.o gx trivial rfl).1.trans f_x_8
              replace fx_10 := (hs.o gq_6 trivial rfl).1.trans fx_10
              replace fx_12 := (hs.o gq_6 trivial rfl).1.trans fx_12
              replace fq_14 := (hs.o gq_6 trivial rfl).2.trans fq_14
              replace fx_15 := (hs.o gq_14 trivial rfl).1.trans fx_15
              replace fx_23 := (hs.o gq_6 trivial rfl).1.trans fx_23
              replace fq_24 := (hs.o gq_6 trivial rfl).2.trans fq_24
              replace ffv_25 := (hs.o gq_6 trivial rfl).1.trans ffv_25
              replace fq_26 := (hs.o gq_24 trivial rfl).2.trans fq_26
              replace ffv_46 := (hs.o gq_14 trivial rfl).1.trans ffv_46
              replace ffv_47 := (hs.o gq_14 trivial rfl).1.trans ffv_47
              replace pf_x_8 : ∀ j : Nat, (j : Int) < (h_49.2.1 x 8).toInt → h_49.2.2 qp j ≠ none := by
                intro j hj; rw [(hs.o gx trivial rfl).1] at hj; rw [(hs.a gqp rfl j).2]; exact pf_x_8 j hj
              replace pf_x_11 : ∀ j : Nat, (j : Int) < (h_49.2.1 x 11).toInt → h_49.2.2 qc j ≠ none := by
                intro j hj; rw [(hs.o gx trivial rfl).1] at hj; rw [(hs.a gqc rfl j).2]; exact pf_x_11 j hj
              replace cl_qc_13 : hx_col 100 h_49 qc 13 = odf := (hx_col_S hs hTo gqc tt_45 tt_2 rfl rfl).trans cl_qc_13
              replace cl_qc_14 : hx_col 100 h_49 qc 14 = wkf := (hx_col_S hs hTo gqc tt_45 tt_2 rfl rfl).trans cl_qc_14
              replace cl_qc_15 : hx_col 100 h_49 qc 15 = owf := (hx_col_S hs hTo gqc tt_45 tt_2 rfl rfl).trans cl_qc_15
              replace cl_qc_16 : hx_col 100 h_49 qc 16 = szf := (hx_col_S hs hTo gqc tt_45 tt_2 rfl rfl).trans cl_qc_16
              replace cl_qc_17 : hx_col 100 h_49 qc 17 = gdf := (hx_col_S hs hTo gqc tt_45 tt_2 rfl rfl).trans cl_qc_17
              replace cl_qc_18 : hx_col 100 h_49 qc 18 = svf := (hx_col_S hs hTo gqc tt_45 tt_2 rfl rfl).trans cl_qc_18
              replace cl_qc_9 : hx_col 100 h_49 qc 9 = tf := (hx_col_S hs hTo gqc tt_45 tt_2 rfl rfl).trans cl_qc_9
              replace cl_qc_6 : hx_col 100 h_49 qc 6 = smf := (hx_col_S hs hTo gqc tt_45 tt_2 rfl rfl).trans cl_qc_6
              replace cl_qc_12 : hx_col 100 h_49 qc 12 = udf := (hx_col_S hs hTo gqc tt_45 tt_2 rfl rfl).trans cl_qc_12
              replace cl_qp_7 : hx_col 40 h_49 qp 7 = ddf := (hx_col_S hs hTo gqp tt_44 tt_4 rfl rfl).trans cl_qp_7
              replace cl_qp_3 : hx_col 40 h_49 qp 3 = eaf := (hx_col_S hs hTo gqp tt_44 tt_4 rfl rfl).trans cl_qp_3
              replace cl_qp_4 : hx_col 40 h_49 qp 4 = hdf := (hx_col_S hs hTo gqp tt_44 tt_4 rfl rfl).trans cl_qp_4
              replace nu_qp : hx_num 40 h_49 qp 0 (pn0.toInt) := hx_num_S hs hTo gqp tt_44 tt_4 rfl rfl nu_qp
              replace nu_qc : hx_num 100 h_49 qc 0 (cn0.toInt) := hx_num_S hs hTo gqc tt_45 tt_2 rfl rfl nu_qc
              replace hDF : hw_DF h_49 qc qp 2 agf cn0.toInt := hw_DF_S hs hTo gqc gqp tt_45 tt_2 rfl rfl rfl hDF
              replace hAC : hv_AC h_49 qc plf cn0.toInt A := hv_AC_S hs hTo gqc tt_45 tt_2 rfl tt_0 rfl rfl rfl rfl rfl rfl rfl hAC
              replace fo_9 := (hs.a gqc rfl _).2.trans fo_9
              replace eoq_14 := (hs.a gqp rfl _).2.trans eoq_14
              replace nfa_27 : h_49.2.1 q_26 = fa_27 := (funext fun j => (hs.a gq_26 rfl j).1).trans nfa_27
              replace ex_36 := ex_36.trans (hs.a gq_26 rfl _).1.symm
              replace hM := hM.tr (hs.mono ?o66)
              case o66 => decide
              replace gx := gx.S hs
              replace gqp := gqp.S hs
              replace gqc := gqc.S hs
              replace gq_6 := gq_6.S hs
              replace gq_14 := gq_14.S hs
              replace gq_24 := gq_24.S hs
              replace gq_26 := gq_26.S hs
              have hme9 : r_50.toInt = ((eaf (agf i1.toInt.toNat).toInt.toNat).toInt - (A (plf i1.toInt.toNat).toInt.toNat).2.1 3 * (hdf (agf i1.toInt.toNat).toInt.toNat).toInt) := ?o67
              case o67 => rw [hr_52.1, cea9, chd9]
              have hoi9 : r_40.toInt = (hz_oi agf wkf (hz_Rn odf szf gdf owf svf (hz_rc A plf) pof pdf psm pkf pst nw0.toInt n0.toInt.toNat) (agf i1.toInt.toNat).toInt cn0.toInt.toNat) := hr_42.1
              refine hb_icmp_le (zx := x_45.toInt) (zy := r_50.toInt) (tgt := 114) hx hb rfl rfl dX9_order_108 ?o68 (fun c_53 => ?_) (fun c_53 => ?_)
              case o68 => decide
              · skip
                refine lv_aload_n hx hb dX9_order_114 rfl (lv_at hl 1 rfl) ?_
                refine lv_iload hx hb dX9_order_115 (lv_at hl 0 rfl) ?_
                have hTo := hT
                have cl_qc_15O := cl_qc_15
                have nu_qcO := nu_qc
                have fo_9O := fo_9
                refine hx_puti hx hb hts hC_2 hown hW hT (hx_S.rf (M := [(2, 15)])) gq_6 tt_2 15 ?o69 rfl kw_757 ⟨rfl, rfl, rfl⟩ rfl (x := x_35) (i32_r _) rfl rfl rfl (List.mem_singleton.mpr rfl) dX9_order_117 (fun H locs h_54 eh_54 hW hT hs => ?_)
                case o69 => decide
                replace f_x_7 := (hs.o gx trivial rfl).2.trans f_x_7
                replace f_x_10 := (hs.o gx trivial rfl).2.trans f_x_10
                replace f_x_14 := (hs.o gx trivial rfl).2.trans f_x_14
                replace f_x_11 := (hs.o gx trivial rfl).1.trans f_x_11
                replace f_x_2 := (hs.o gx trivial rfl).1.trans f_x_2
                replace f_x_8 := (hs.o gx trivial rfl).1.trans f_x_8
                replace fx_10 := (hs.o gq_6 trivial rfl).1.trans fx_10
                replace fx_12 := (hs.o gq_6 trivial rfl).1.trans fx_12
                replace fq_14 := (hs.o gq_6 trivial rfl).2.trans fq_14
                replace fx_15 := (hs.o gq_14 trivial rfl).1.trans fx_15
                replace fx_23 := (hs.o gq_6 trivial rfl).1.trans fx_23
                replace fq_24 := (hs.o gq_6 trivial rfl).2.trans fq_24
                replace ffv_25 := (hs.o gq_6 trivial rfl).1.trans ffv_25
                replace fq_26 := (hs.o gq_24 trivial rfl).2.trans fq_26
                replace ffv_46 := (hs.o gq_14 trivial rfl).1.trans ffv_46
                replace ffv_47 := (hs.o gq_14 trivial rfl).1.trans ffv_47
                replace pf_x_8 : ∀ j : Nat, (j : Int) < (h_54.2.1 x 8).toInt → h_54.2.2 qp j ≠ none := by
                  intro j hj; rw [(hs.o gx trivial rfl).1] at hj; rw [(hs.a gqp rfl j).2]; exact pf_x_8 j hj
                replace pf_x_11 : ∀ j : Nat, (j : Int) < (h_54.2.1 x 11).toInt → h_54.2.2 qc j ≠ none := by
                  intro j hj; rw [(hs.o gx trivial rfl).1] at hj; rw [(hs.a gqc rfl j).2]; exact pf_x_11 j hj
                replace cl_qc_13 : hx_col 100 h_54 qc 13 = odf := (hx_col_S hs hTo gqc tt_45 tt_2 rfl rfl).trans cl_qc_13
                replace cl_qc_14 : hx_col 100 h_54 qc 14 = wkf := (hx_col_S hs hTo gqc tt_45 tt_2 rfl rfl).trans cl_qc_14
                replace cl_qc_16 : hx_col 100 h_54 qc 16 = szf := (hx_col_S hs hTo gqc tt_45 tt_2 rfl rfl).trans cl_qc_16
                replace cl_qc_17 : hx_col 100 h_54 qc 17 = gdf := (hx_col_S hs hTo gqc tt_45 tt_2 rfl rfl).trans cl_qc_17
                replace cl_qc_18 : hx_col 100 h_54 qc 18 = svf := (hx_col_S hs hTo gqc tt_45 tt_2 rfl rfl).trans cl_qc_18
                replace cl_qc_9 : hx_col 100 h_54 qc 9 = tf := (hx_col_S hs hTo gqc tt_45 tt_2 rfl rfl).trans cl_qc_9
                replace cl_qc_6 : hx_col 100 h_54 qc 6 = smf := (hx_col_S hs hTo gqc tt_45 tt_2 rfl rfl).trans cl_qc_6
                replace cl_qc_12 : hx_col 100 h_54 qc 12 = udf := (hx_col_S hs hTo gqc tt_45 tt_2 rfl rfl).trans cl_qc_12
                replace cl_qp_7 : hx_col 40 h_54 qp 7 = ddf := (hx_col_S hs hTo gqp tt_44 tt_4 rfl rfl).trans cl_qp_7
                replace cl_qp_3 : hx_col 40 h_54 qp 3 = eaf := (hx_col_S hs hTo gqp tt_44 tt_4 rfl rfl).trans cl_qp_3
                replace cl_qp_4 : hx_col 40 h_54 qp 4 = hdf := (hx_col_S hs hTo gqp tt_44 tt_4 rfl rfl).trans cl_qp_4
                replace nu_qp : hx_num 40 h_54 qp 0 (pn0.toInt) := hx_num_S hs hTo gqp tt_44 tt_4 rfl rfl nu_qp
                replace nu_qc : hx_num 100 h_54 qc 0 (cn0.toInt) := hx_num_S hs hTo gqc tt_45 tt_2 rfl rfl nu_qc
                replace hDF : hw_DF h_54 qc qp 2 agf cn0.toInt := hw_DF_S hs hTo gqc gqp tt_45 tt_2 rfl rfl rfl hDF
                replace hAC : hv_AC h_54 qc plf cn0.toInt A := hv_AC_S hs hTo gqc tt_45 tt_2 rfl tt_0 rfl rfl rfl rfl rfl rfl rfl hAC
                replace fo_9 := (hs.a gqc rfl _).2.trans fo_9
                replace eoq_14 := (hs.a gqp rfl _).2.trans eoq_14
                replace nfa_27 : h_54.2.1 q_26 = fa_27 := (funext fun j => (hs.a gq_26 rfl j).1).trans nfa_27
                replace ex_36 := ex_36.trans (hs.a gq_26 rfl _).1.symm
                replace hM := hM.tr (hs.mono ?o70)
                case o70 => decide
                replace gx := gx.S hs
                replace gqp := gqp.S hs
                replace gqc := gqc.S hs
                replace gq_6 := gq_6.S hs
                replace gq_14 := gq_14.S hs
                replace gq_24 := gq_24.S hs
                replace gq_26 := gq_26.S hs
                have f_55 : h_54.2.1 q_6 15 = x_35 := ?o71
                case o71 =>
                  rw [eh_54]
                  exact hx_pi_at _ _ _ _
                obtain ⟨fc_56, dfc_56⟩ : ∃ g : Nat → Int32, g = hx_up owf i1.toNatClampNeg x_35 := ⟨_, rfl⟩
                have nfc_56 : hx_col 100 h_54 qc 15 = fc_56 := ?o72
                case o72 =>
                  rw [dfc_56, ← cl_qc_15O]
                  exact hx_col_pi nu_qcO fo_9O (by unfold Int32.toNatClampNeg; omega) eh_54
                refine lv_aload_n hx hb dX9_order_120 rfl (lv_at hl 1 rfl) ?_
                refine lv_iload_n hx hb dX9_order_121 rfl (lv_at hl 4 rfl) ?_
                have hTo := hT
                have cl_qc_14O := cl_qc_14
                have nu_qcO := nu_qc
                have fo_9O := fo_9
                refine hx_puti hx hb hts hC_2 hown hW hT (hx_S.rf (M := [(2, 14)])) gq_6 tt_2 14 ?o73 rfl kw_755 ⟨rfl, rfl, rfl⟩ rfl (x := i2) (i32_r _) rfl rfl rfl (List.mem_singleton.mpr rfl) dX9_order_122 (fun H locs h_57 eh_57 hW hT hs => ?_)
                case o73 => decide
                replace f_x_7 := (hs.o gx trivial rfl).2.trans f_x_7
                replace f_x_10 := (hs.o gx trivial rfl).2.trans f_x_10
                replace f_x_14 := (hs.o gx trivial rfl).2.trans f_x_14
                replace f_x_11 := (hs.o gx trivial rfl).1.trans f_x_11
                replace f_x_2 := (hs.o gx trivial rfl).1.trans f_x_2
                replace f_x_8 := (hs.o gx trivial rfl).1.trans f_x_8
                replace fx_10 := (hs.o gq_6 trivial rfl).1.trans fx_10
                replace fx_12 := (hs.o gq_6 trivial rfl).1.trans fx_12
                replace fq_14 := (hs.o gq_6 trivial rfl).2.trans fq_14
                replace fx_15 := (hs.o gq_14 trivial rfl).1.trans fx_15
                replace fx_23 := (hs.o gq_6 trivial rfl).1.trans fx_23
                replace fq_24 := (hs.o gq_6 trivial rfl).2.trans fq_24
                replace ffv_25 := (hs.o gq_6 trivial rfl).1.trans ffv_25
                replace fq_26 := (hs.o gq_24 trivial rfl).2.trans fq_26
                replace ffv_46 := (hs.o gq_14 trivial rfl).1.trans ffv_46
                replace ffv_47 := (hs.o gq_14 trivial rfl).1.trans ffv_47
                replace f_55 := (hs.o gq_6 trivial rfl).1.trans f_55
                replace pf_x_8 : ∀ j : Nat, (j : Int) < (h_57.2.1 x 8).toInt → h_57.2.2 qp j ≠ none := by
                  intro j hj; rw [(hs.o gx trivial rfl).1] at hj; rw [(hs.a gqp rfl j).2]; exact pf_x_8 j hj
                replace pf_x_11 : ∀ j : Nat, (j : Int) < (h_57.2.1 x 11).toInt → h_57.2.2 qc j ≠ none := by
                  intro j hj; rw [(hs.o gx trivial rfl).1] at hj; rw [(hs.a gqc rfl j).2]; exact pf_x_11 j hj
                replace cl_qc_13 : hx_col 100 h_57 qc 13 = odf := (hx_col_S hs hTo gqc tt_45 tt_2 rfl rfl).trans cl_qc_13
                replace cl_qc_16 : hx_col 100 h_57 qc 16 = szf := (hx_col_S hs hTo gqc tt_45 tt_2 rfl rfl).trans cl_qc_16
                replace cl_qc_17 : hx_col 100 h_57 qc 17 = gdf := (hx_col_S hs hTo gqc tt_45 tt_2 rfl rfl).trans cl_qc_17
                replace cl_qc_18 : hx_col 100 h_57 qc 18 = svf := (hx_col_S hs hTo gqc tt_45 tt_2 rfl rfl).trans cl_qc_18
                replace cl_qc_9 : hx_col 100 h_57 qc 9 = tf := (hx_col_S hs hTo gqc tt_45 tt_2 rfl rfl).trans cl_qc_9
                replace cl_qc_6 : hx_col 100 h_57 qc 6 = smf := (hx_col_S hs hTo gqc tt_45 tt_2 rfl rfl).trans cl_qc_6
                replace cl_qc_12 : hx_col 100 h_57 qc 12 = udf := (hx_col_S hs hTo gqc tt_45 tt_2 rfl rfl).trans cl_qc_12
                replace cl_qp_7 : hx_col 40 h_57 qp 7 = ddf := (hx_col_S hs hTo gqp tt_44 tt_4 rfl rfl).trans cl_qp_7
                replace cl_qp_3 : hx_col 40 h_57 qp 3 = eaf := (hx_col_S hs hTo gqp tt_44 tt_4 rfl rfl).trans cl_qp_3
                replace cl_qp_4 : hx_col 40 h_57 qp 4 = hdf := (hx_col_S hs hTo gqp tt_44 tt_4 rfl rfl).trans cl_qp_4
                replace nfc_56 : hx_col 100 h_57 qc 15 = fc_56 := (hx_col_S hs hTo gqc tt_45 tt_2 rfl rfl).trans nfc_56
                replace nu_qp : hx_num 40 h_57 qp 0 (pn0.toInt) := hx_num_S hs hTo gqp tt_44 tt_4 rfl rfl nu_qp
                replace nu_qc : hx_num 100 h_57 qc 0 (cn0.toInt) := hx_num_S hs hTo gqc tt_45 tt_2 rfl rfl nu_qc
                replace hDF : hw_DF h_57 qc qp 2 agf cn0.toInt := hw_DF_S hs hTo gqc gqp tt_45 tt_2 rfl rfl rfl hDF
                replace hAC : hv_AC h_57 qc plf cn0.toInt A := hv_AC_S hs hTo gqc tt_45 tt_2 rfl tt_0 rfl rfl rfl rfl rfl rfl rfl hAC
                replace fo_9 := (hs.a gqc rfl _).2.trans fo_9
                replace eoq_14 := (hs.a gqp rfl _).2.trans eoq_14
                replace nfa_27 : h_57.2.1 q_26 = fa_27 := (funext fun j => (hs.a gq_26 rfl j).1).trans nfa_27
                replace ex_36 := ex_36.trans (hs.a gq_26 rfl _).1.symm
                replace hM := hM.tr (hs.mono ?o74)
                case o74 => decide
                replace gx := gx.S hs
                replace gqp := gqp.S hs
                replace gqc := gqc.S hs
                replace gq_6 := gq_6.S hs
                replace gq_14 := gq_14.S hs
                replace gq_24 := gq_24.S hs
                replace gq_26 := gq_26.S hs
                have f_58 : h_57.2.1 q_6 14 = i2 := ?o75
                case o75 =>
                  rw [eh_57]
                  exact hx_pi_at _ _ _ _
                obtain ⟨fc_59, dfc_59⟩ : ∃ g : Nat → Int32, g = hx_up wkf i1.toNatClampNeg i2 := ⟨_, rfl⟩
                have nfc_59 : hx_col 100 h_57 qc 14 = fc_59 := ?o76
                case o76 =>
                  rw [dfc_59, ← cl_qc_14O]
                  exact hx_col_pi nu_qcO fo_9O (by unfold Int32.toNatClampNeg; omega) eh_57
                refine lv_aload_n hx hb dX9_order_125 rfl (lv_at hl 1 rfl) ?_
                refine lv_aload_n hx hb dX9_order_126 rfl (lv_at hl 2 rfl) ?_
                refine hk_geti hx hb hts hC_9 hown hW gx tt_9 2 ?o77 rfl kw_366 ⟨rfl, rfl, rfl⟩ f_x_2 dX9_order_127 ?_
                case o77 => decide
                have hTo := hT
                have cl_qc_13O := cl_qc_13
                have nu_qcO := nu_qc
                have fo_9O := fo_9
                refine hx_puti hx hb hts hC_2 hown hW hT (hx_S.rf (M := [(2, 13)])) gq_6 tt_2 13 ?o78 rfl kw_753 ⟨rfl, rfl, rfl⟩ rfl (x := nw0) (i32_r _) rfl rfl rfl (List.mem_singleton.mpr rfl) dX9_order_130 (fun H locs h_60 eh_60 hW hT hs => ?_)
                case o78 => decide
                replace f_x_7 := (hs.o gx trivial rfl).2.trans f_x_7
                replace f_x_10 := (hs.o gx trivial rfl).2.trans f_x_10
                replace f_x_14 := (hs.o gx trivial rfl).2.trans f_x_14
                replace f_x_11 := (hs.o gx trivial rfl).1.trans f_x_11
                replace f_x_2 := (hs.o gx trivial rfl).1.trans f_x_2
                replace f_x_8 := (hs.o gx trivial rfl).1.trans f_x_8
                replace fx_10 := (hs.o gq_6 trivial rfl).1.trans fx_10
                replace fq_14 := (hs.o gq_6 trivial rfl).2.trans fq_14
                replace fx_15 := (hs.o gq_14 trivial rfl).1.trans fx_15
                replace fx_23 := (hs.o gq_6 trivial rfl).1.trans fx_23
                replace fq_24 := (hs.o gq_6 trivial rfl).2.trans fq_24
                replace ffv_25 := (hs.o gq_6 trivial rfl).1.trans ffv_25
                replace fq_26 := (hs.o gq_24 trivial rfl).2.trans fq_26
                replace ffv_46 := (hs.o gq_14 trivial rfl).1.trans ffv_46
                replace ffv_47 := (hs.o gq_14 trivial rfl).1.trans ffv_47
                replace f_55 := (hs.o gq_6 trivial rfl).1.trans f_55
                replace f_58 := (hs.o gq_6 trivial rfl).1.trans f_58
                replace pf_x_8 : ∀ j : Nat, (j : Int) < (h_60.2.1 x 8).toInt → h_60.2.2 qp j ≠ none := by
                  intro j hj; rw [(hs.o gx trivial rfl).1] at hj; rw [(hs.a gqp rfl j).2]; exact pf_x_8 j hj
                replace pf_x_11 : ∀ j : Nat, (j : Int) < (h_60.2.1 x 11).toInt → h_60.2.2 qc j ≠ none := by
                  intro j hj; rw [(hs.o gx trivial rfl).1] at hj; rw [(hs.a gqc rfl j).2]; exact pf_x_11 j hj
                replace cl_qc_16 : hx_col 100 h_60 qc 16 = szf := (hx_col_S hs hTo gqc tt_45 tt_2 rfl rfl).trans cl_qc_16
                replace cl_qc_17 : hx_col 100 h_60 qc 17 = gdf := (hx_col_S hs hTo gqc tt_45 tt_2 rfl rfl).trans cl_qc_17
                replace cl_qc_18 : hx_col 100 h_60 qc 18 = svf := (hx_col_S hs hTo gqc tt_45 tt_2 rfl rfl).trans cl_qc_18
                replace cl_qc_9 : hx_col 100 h_60 qc 9 = tf := (hx_col_S hs hTo gqc tt_45 tt_2 rfl rfl).trans cl_qc_9
                replace cl_qc_6 : hx_col 100 h_60 qc 6 = smf := (hx_col_S hs hTo gqc tt_45 tt_2 rfl rfl).trans cl_qc_6
                replace cl_qc_12 : hx_col 100 h_60 qc 12 = udf := (hx_col_S hs hTo gqc tt_45 tt_2 rfl rfl).trans cl_qc_12
                replace cl_qp_7 : hx_col 40 h_60 qp 7 = ddf := (hx_col_S hs hTo gqp tt_44 tt_4 rfl rfl).trans cl_qp_7
                replace cl_qp_3 : hx_col 40 h_60 qp 3 = eaf := (hx_col_S hs hTo gqp tt_44 tt_4 rfl rfl).trans cl_qp_3
                replace cl_qp_4 : hx_col 40 h_60 qp 4 = hdf := (hx_col_S hs hTo gqp tt_44 tt_4 rfl rfl).trans cl_qp_4
                replace nfc_56 : hx_col 100 h_60 qc 15 = fc_56 := (hx_col_S hs hTo gqc tt_45 tt_2 rfl rfl).trans nfc_56
                replace nfc_59 : hx_col 100 h_60 qc 14 = fc_59 := (hx_col_S hs hTo gqc tt_45 tt_2 rfl rfl).trans nfc_59
                replace nu_qp : hx_num 40 h_60 qp 0 (pn0.toInt) := hx_num_S hs hTo gqp tt_44 tt_4 rfl rfl nu_qp
                replace nu_qc : hx_num 100 h_60 qc 0 (cn0.toInt) := hx_num_S hs hTo gqc tt_45 tt_2 rfl rfl nu_qc
                replace hDF : hw_DF h_60 qc qp 2 agf cn0.toInt := hw_DF_S hs hTo gqc gqp tt_45 tt_2 rfl rfl rfl hDF
                replace hAC : hv_AC h_60 qc plf cn0.toInt A := hv_AC_S hs hTo gqc tt_45 tt_2 rfl tt_0 rfl rfl rfl rfl rfl rfl rfl hAC
                replace fo_9 := (hs.a gqc rfl _).2.trans fo_9
                replace eoq_14 := (hs.a gqp rfl _).2.trans eoq_14
                replace nfa_27 : h_60.2.1 q_26 = fa_27 := (funext fun j => (hs.a gq_26 rfl j).1).trans nfa_27
                replace ex_36 := ex_36.trans (hs.a gq_26 rfl _).1.symm
                replace hM := hM.tr (hs.mono ?o79)
                case o79 => decide
                replace gx := gx.S hs
                replace gqp := gqp.S hs
                replace gqc := gqc.S hs
                replace gq_6 := gq_6.S hs
                replace gq_14 := gq_14.S hs
                replace gq_24 := gq_24.S hs
                replace gq_26 := gq_26.S hs
                have f_61 : h_60.2.1 q_6 13 = nw0 := ?o80
                case o80 =>
                  rw [eh_60]
                  exact hx_pi_at _ _ _ _
                obtain ⟨fc_62, dfc_62⟩ : ∃ g : Nat → Int32, g = hx_up odf i1.toNatClampNeg nw0 := ⟨_, rfl⟩
                have nfc_62 : hx_col 100 h_60 qc 13 = fc_62 := ?o81
                case o81 =>
                  rw [dfc_62, ← cl_qc_13O]
                  exact hx_col_pi nu_qcO fo_9O (by unfold Int32.toNatClampNeg; omega) eh_60
                refine lv_iload hx hb dX9_order_133 (lv_at hl 0 rfl) ?_
                refine hx_reti hx hb hr hlk hW ⟨⟨fc_62, fc_59, fc_56, nfc_62, nfc_59, nfc_56, (Or.inr ⟨⟨⟨?o82, ?o83⟩, (by rw [show udf i1.toInt.toNat = x_10 from cx_10.symm]; omega), (by rw [show odf i1.toInt.toNat = x_12 from cx_12.symm]; omega), (by rw [show ddf (agf i1.toInt.toNat).toInt.toNat = x_15 from cx_15.symm]; omega), ?o84, ?o85⟩, Or.inr (Or.inr ⟨(by rw [← hmn9, ← hall9]; omega), (by rw [← hme9, ← hoi9]; omega), hall9, dfc_62, dfc_59, dfc_56⟩)⟩)⟩, hT, hM⟩ dX9_order_135
                case o82 => omega
                case o83 => omega
                case o84 => omega
                case o85 => omega
              · skip
                refine lv_bipush (v := -3) hx hb dX9_order_111 ?o86 ?_
                case o86 => decide
                refine hx_reti hx hb hr hlk hW ⟨⟨odf, wkf, owf, cl_qc_13, cl_qc_14, cl_qc_15, (Or.inr ⟨⟨⟨?o87, ?o88⟩, (by rw [show udf i1.toInt.toNat = x_10 from cx_10.symm]; omega), (by rw [show odf i1.toInt.toNat = x_12 from cx_12.symm]; omega), (by rw [show ddf (agf i1.toInt.toNat).toInt.toNat = x_15 from cx_15.symm]; omega), ?o89, ?o90⟩, Or.inr (Or.inl ⟨(by rw [← hmn9, ← hall9]; omega), (by rw [← hme9, ← hoi9]; omega), ?o91, rfl, rfl, rfl⟩)⟩)⟩, hT, hM⟩ dX9_order_113
                case o87 => omega
                case o88 => omega
                case o89 => omega
                case o90 => omega
                case o91 => decide
            · skip
              refine lv_iload_n hx hb dX9_order_78 rfl (lv_at hl 4 rfl) ?_
              refine lv_iload hx hb dX9_order_79 (lv_at hl 0 rfl) ?_
              refine hb_icmp_ge (zx := i2.toInt) (zy := x_35.toInt) (tgt := 87) hx hb rfl rfl dX9_order_81 ?o92 (fun c_63 => ?_) (fun c_63 => ?_)
              case o92 => decide
              · skip
                refine lv_iload_n hx hb dX9_order_87 rfl (lv_at hl 4 rfl) ?_
                refine lv_aload_n hx hb dX9_order_88 rfl (lv_at hl 2 rfl) ?_
                refine lv_aload_n hx hb dX9_order_89 rfl (lv_at hl 1 rfl) ?_
                refine hk_getr hx hb hts hC_2 hown hW gq_6 tt_2 2 ?o93 rfl kw_733 ⟨rfl, rfl, rfl⟩ fq_14 dX9_order_90 ?_
                case o93 => decide
                have hTo := hT
                refine hx_goi (hx_runV (As := [.ref q_14]) (rest := [.int i2]) ⟨hx, hb, hml, hown, hts⟩ hW gx tt_9 (T := TX9) (N := 20) rfl (t_X9_openInstalments_v l dC dI dA L_28 h_29 H.size x q_14 hT gx gq_14 qp gqp f_x_7 qc gqc f_x_10 qy (gqy.S hM) f_x_14 pqo (gpqo.S hM) ((hM.o gqy trivial rfl).2.trans f_qy_2) pqd (gpqd.S hM) ((hM.o gqy trivial rfl).2.trans f_qy_3) pqs (gpqs.S hM) ((hM.o gqy trivial rfl).2.trans f_qy_5) pqk (gpqk.S hM) ((hM.o gqy trivial rfl).2.trans f_qy_4) pqt (gpqt.S hM) ((hM.o gqy trivial rfl).2.trans f_qy_1) (agf i1.toNatClampNeg) eoq_14 ⟨?o94, ?o95⟩ pof (hx_afS hM gpqo rfl af_pqo) pdf (hx_afS hM gpqd rfl af_pqd) psm (hx_afS hM gpqs rfl af_pqs) pkf (hx_afS hM gpqk rfl af_pqk) pst (hx_afS hM gpqt rfl af_pqt) cn0 f_x_11 nw0 f_x_2 n0 ((hM.o gqy trivial rfl).1.trans f_qy_0) pn0 f_x_8 odf cl_qc_13 wkf cl_qc_14 owf cl_qc_15 szf cl_qc_16 gdf cl_qc_17 svf cl_qc_18 nu_qp nu_qc agf plf A hDF hAC hAB hCB hps pf_x_8 pf_x_11) (cwV 1 hts (hx_gV kw_853 kw_850 kw_852 kw_30 kw_94) rfl rfl rfl (by decide +kernel) ⟨Nat.le_of_ble_eq_true rfl, Nat.le_of_ble_eq_true rfl⟩) rfl hl.1 rfl (Nat.le_of_ble_eq_true rfl) dX9_order_93 ⟨Nat.le_of_ble_eq_true rfl, Nat.le_of_ble_eq_true rfl⟩) hW (fun r_66 L_64 h_65 H locs p_67 hW => ?_)
                case o94 => omega
                case o95 => omega
                obtain ⟨hr_68, hT, hs⟩ := p_67
                replace hT : hx_T T_tb L_64 h_65 := hT
                replace hs : hx_S T_tb [] L_28 h_29 L_64 h_65 := hs
                replace f_x_7 := (hs.o gx trivial rfl).2.trans f_x_7
                replace f_x_10 := (hs.o gx trivial rfl).2.trans f_x_10
                replace f_x_14 := (hs.o gx trivial rfl).2.trans f_x_14
                replace f_x_11 := (hs.o gx trivial rfl).1.trans f_x_11
                replace f_x_2 := (hs.o gx trivial rfl).1.trans f_x_2
                replace f_x_8 := (hs.o gx trivial rfl).1.trans f_x_8
                replace fx_10 := (hs.o gq_6 trivial rfl).1.trans fx_10
                replace fx_12 := (hs.o gq_6 trivial rfl).1.trans fx_12
                replace fq_14 := (hs.o gq_6 trivial rfl).2.trans fq_14
                replace fx_15 := (hs.o gq_14 trivial rfl).1.trans fx_15
                replace fx_23 := (hs.o gq_6 trivial rfl).1.trans fx_23
                replace fq_24 := (hs.o gq_6 trivial rfl).2.trans fq_24
                replace ffv_25 := (hs.o gq_6 trivial rfl).1.trans ffv_25
                replace fq_26 := (hs.o gq_24 trivial rfl).2.trans fq_26
                replace pf_x_8 : ∀ j : Nat, (j : Int) < (h_65.2.1 x 8).toInt → h_65.2.2 qp j ≠ none := by
                  intro j hj; rw [(hs.o gx trivial rfl).1] at hj; rw [(hs.a gqp rfl j).2]; exact pf_x_8 j hj
                replace pf_x_11 : ∀ j : Nat, (j : Int) < (h_65.2.1 x 11).toInt → h_65.2.2 qc j ≠ none := by
                  intro j hj; rw [(hs.o gx trivial rfl).1] at hj; rw [(hs.a gqc rfl j).2]; exact pf_x_11 j hj
                replace cl_qc_13 : hx_col 100 h_65 qc 13 = odf := (hx_col_S hs hTo gqc tt_45 tt_2 rfl rfl).trans cl_qc_13
                replace cl_qc_14 : hx_col 100 h_65 qc 14 = wkf := (hx_col_S hs hTo gqc tt_45 tt_2 rfl rfl).trans cl_qc_14
                replace cl_qc_15 : hx_col 100 h_65 qc 15 = owf := (hx_col_S hs hTo gqc tt_45 tt_2 rfl rfl).trans cl_qc_15
                replace cl_qc_16 : hx_col 100 h_65 qc 16 = szf := (hx_col_S hs hTo gqc tt_45 tt_2 rfl rfl).trans cl_qc_16
                replace cl_qc_17 : hx_col 100 h_65 qc 17 = gdf := (hx_col_S hs hTo gqc tt_45 tt_2 rfl rfl).trans cl_qc_17
                replace cl_qc_18 : hx_col 100 h_65 qc 18 = svf := (hx_col_S hs hTo gqc tt_45 tt_2 rfl rfl).trans cl_qc_18
                replace cl_qc_9 : hx_col 100 h_65 qc 9 = tf := (hx_col_S hs hTo gqc tt_45 tt_2 rfl rfl).trans cl_qc_9
                replace cl_qc_6 : hx_col 100 h_65 qc 6 = smf := (hx_col_S hs hTo gqc tt_45 tt_2 rfl rfl).trans cl_qc_6
                replace cl_qc_12 : hx_col 100 h_65 qc 12 = udf := (hx_col_S hs hTo gqc tt_45 tt_2 rfl rfl).trans cl_qc_12
                replace cl_qp_7 : hx_col 40 h_65 qp 7 = ddf := (hx_col_S hs hTo gqp tt_44 tt_4 rfl rfl).trans cl_qp_7
                replace cl_qp_3 : hx_col 40 h_65 qp 3 = eaf := (hx_col_S hs hTo gqp tt_44 tt_4 rfl rfl).trans cl_qp_3
                replace cl_qp_4 : hx_col 40 h_65 qp 4 = hdf := (hx_col_S hs hTo gqp tt_44 tt_4 rfl rfl).trans cl_qp_4
                replace nu_qp : hx_num 40 h_65 qp 0 (pn0.toInt) := hx_num_S hs hTo gqp tt_44 tt_4 rfl rfl nu_qp
                replace nu_qc : hx_num 100 h_65 qc 0 (cn0.toInt) := hx_num_S hs hTo gqc tt_45 tt_2 rfl rfl nu_qc
                replace hDF : hw_DF h_65 qc qp 2 agf cn0.toInt := hw_DF_S hs hTo gqc gqp tt_45 tt_2 rfl rfl rfl hDF
                replace hAC : hv_AC h_65 qc plf cn0.toInt A := hv_AC_S hs hTo gqc tt_45 tt_2 rfl tt_0 rfl rfl rfl rfl rfl rfl rfl hAC
                replace fo_9 := (hs.a gqc rfl _).2.trans fo_9
                replace eoq_14 := (hs.a gqp rfl _).2.trans eoq_14
                replace nfa_27 : h_65.2.1 q_26 = fa_27 := (funext fun j => (hs.a gq_26 rfl j).1).trans nfa_27
                replace ex_36 := ex_36.trans (hs.a gq_26 rfl _).1.symm
                replace hM := hM.tr (hs.mono ?o96)
                case o96 => decide
                replace gx := gx.S hs
                replace gqp := gqp.S hs
                replace gqc := gqc.S hs
                replace gq_6 := gq_6.S hs
                replace gq_14 := gq_14.S hs
                replace gq_24 := gq_24.S hs
                replace gq_26 := gq_26.S hs
                refine lv_iadd hx hb dX9_order_96 ?_
                have rg_69 := i32_r i2
                have rg_70 := i32_r r_66
                refine lv_topi (fun x_71 ex_71 => ?_)
                have zx_71 : x_71.toInt = i2.toInt + r_66.toInt := ?o97
                case o97 =>
                  rw [ex_71]
                  refine i32_add rfl rfl ?o98 ?o99
                  case o98 => omega
                  case o99 => omega
                refine lv_aload_n hx hb dX9_order_97 rfl (lv_at hl 1 rfl) ?_
                refine hk_getr hx hb hts hC_2 hown hW gq_6 tt_2 2 ?o100 rfl kw_733 ⟨rfl, rfl, rfl⟩ fq_14 dX9_order_98 ?_
                case o100 => decide
                refine lv_aload_n hx hb dX9_order_101 rfl (lv_at hl 1 rfl) ?_
                refine hk_getr hx hb hts hC_2 hown hW gq_6 tt_2 3 ?o101 rfl kw_736 ⟨rfl, rfl, rfl⟩ fq_24 dX9_order_102 ?_
                case o101 => decide
                obtain ⟨fv_72, efv_72⟩ : ∃ y : Int32, y = h_65.2.1 q_14 3 := ⟨_, rfl⟩
                have bfv_72 := hT.gi gq_14 tt_4 (k := 3) rfl
                rw [← efv_72] at bfv_72
                have bfv_72 : -2147483648 ≤ fv_72.toInt ∧ fv_72.toInt ≤ 2147483647 := bfv_72
                have ffv_72 := efv_72.symm
                have cea9 : fv_72 = eaf (agf i1.toInt.toNat).toInt.toNat := ?o102
                case o102 =>
                  rw [← ffv_72, ← cl_qp_3]
                  exact (hx_col_at eoq_14 (by unfold Int32.toNatClampNeg; omega)).symm
                obtain ⟨fv_73, efv_73⟩ : ∃ y : Int32, y = h_65.2.1 q_14 4 := ⟨_, rfl⟩
                have bfv_73 := hT.gi gq_14 tt_4 (k := 4) rfl
                rw [← efv_73] at bfv_73
                have bfv_73 : -2147483648 ≤ fv_73.toInt ∧ fv_73.toInt ≤ 2147483647 := bfv_73
                have ffv_73 := efv_73.symm
                have chd9 : fv_73 = hdf (agf i1.toInt.toNat).toInt.toNat := ?o103
                case o103 =>
                  rw [← ffv_73, ← cl_qp_4]
                  exact (hx_col_at eoq_14 (by unfold Int32.toNatClampNeg; omega)).symm
                have heb9 := hee (agf i1.toInt.toNat).toInt.toNat (by omega); rw [← cea9, ← chd9] at heb9; obtain ⟨⟨he1, he2⟩, ⟨he3, he4⟩⟩ := heb9
                have hTo := hT
                refine hx_goi (hx_runV (As := [.ref q_24]) (rest := [.int x_71]) ⟨hx, hb, hml, hown, hts⟩ hW gq_14 tt_4 (T := TX4) (N := 10) rfl (t_X4_meansBy_v l dC dI dA L_64 h_65 H.size q_14 q_24 hT gq_14 gq_24 q_26 gq_26 fq_26 fa_27 nfa_27 fv_72 ffv_72 fv_73 ffv_73 (A (plf i1.toInt.toNat).toInt.toNat).2.1 (by rw [← nfa_27]; exact (hAC i1.toNatClampNeg (by unfold Int32.toNatClampNeg; omega) (by unfold Int32.toNatClampNeg; omega) _ _ fo_9 fq_24).2.2.2.1 _ fq_26) (hAB _).1 ⟨?o104, ?o105⟩ ⟨?o106, ?o107⟩) (cwV 1 hts (hx_gV kw_887 kw_884 kw_885 kw_886 kw_108) rfl rfl rfl (by decide +kernel) ⟨Nat.le_of_ble_eq_true rfl, Nat.le_of_ble_eq_true rfl⟩) rfl hl.1 rfl (Nat.le_of_ble_eq_true rfl) dX9_order_105 ⟨Nat.le_of_ble_eq_true rfl, Nat.le_of_ble_eq_true rfl⟩) hW (fun r_76 L_74 h_75 H locs p_77 hW => ?_)
                case o104 => omega
                case o105 => omega
                case o106 => omega
                case o107 => omega
                obtain ⟨hr_78, hT, hs⟩ := p_77
                replace hT : hx_T T_tb L_74 h_75 := hT
                replace hs : hx_S T_tb [] L_64 h_65 L_74 h_75 := hs
                replace f_x_7 := (hs.o gx trivial rfl).2.trans f_x_7
                replace f_x_10 := (hs.o gx trivial rfl).2.trans f_x_10
                replace f_x_14 := (hs.o gx trivial rfl).2.trans f_x_14
                replace f_x_11 := (hs.o gx trivial rfl).1.trans f_x_11
                replace f_x_2 := (hs.o gx trivial rfl).1.trans f_x_2
                replace f_x_8 := (hs.o gx trivial rfl).1.trans f_x_8
                replace fx_10 := (hs.o gq_6 trivial rfl).1.trans fx_10
                replace fx_12 := (hs.o gq_6 trivial rfl).1.trans fx_12
                replace fq_14 := (hs.o gq_6 trivial rfl).2.trans fq_14
                replace fx_15 := (hs.o gq_14 trivial rfl).1.trans fx_15
                replace fx_23 := (hs.o gq_6 trivial rfl).1.trans fx_23
                replace fq_24 := (hs.o gq_6 trivial rfl).2.trans fq_24
                replace ffv_25 := (hs.o gq_6 trivial rfl).1.trans ffv_25
                replace fq_26 := (hs.o gq_24 trivial rfl).2.trans fq_26
                replace ffv_72 := (hs.o gq_14 trivial rfl).1.trans ffv_72
                replace ffv_73 := (hs.o gq_14 trivial rfl).1.trans ffv_73
                replace pf_x_8 : ∀ j : Nat, (j : Int) < (h_75.2.1 x 8).toInt → h_75.2.2 qp j ≠ none := by
                  intro j hj; rw [(hs.o gx trivial rfl).1] at hj; rw [(hs.a gqp rfl j).2]; exact pf_x_8 j hj
                replace pf_x_11 : ∀ j : Nat, (j : Int) < (h_75.2.1 x 11).toInt → h_75.2.2 qc j ≠ none := by
                  intro j hj; rw [(hs.o gx trivial rfl).1] at hj; rw [(hs.a gqc rfl j).2]; exact pf_x_11 j hj
                replace cl_qc_13 : hx_col 100 h_75 qc 13 = odf := (hx_col_S hs hTo gqc tt_45 tt_2 rfl rfl).trans cl_qc_13
                replace cl_qc_14 : hx_col 100 h_75 qc 14 = wkf := (hx_col_S hs hTo gqc tt_45 tt_2 rfl rfl).trans cl_qc_14
                replace cl_qc_15 : hx_col 100 h_75 qc 15 = owf := (hx_col_S hs hTo gqc tt_45 tt_2 rfl rfl).trans cl_qc_15
                replace cl_qc_16 : hx_col 100 h_75 qc 16 = szf := (hx_col_S hs hTo gqc tt_45 tt_2 rfl rfl).trans cl_qc_16
                replace cl_qc_17 : hx_col 100 h_75 qc 17 = gdf := (hx_col_S hs hTo gqc tt_45 tt_2 rfl rfl).trans cl_qc_17
                replace cl_qc_18 : hx_col 100 h_75 qc 18 = svf := (hx_col_S hs hTo gqc tt_45 tt_2 rfl rfl).trans cl_qc_18
                replace cl_qc_9 : hx_col 100 h_75 qc 9 = tf := (hx_col_S hs hTo gqc tt_45 tt_2 rfl rfl).trans cl_qc_9
                replace cl_qc_6 : hx_col 100 h_75 qc 6 = smf := (hx_col_S hs hTo gqc tt_45 tt_2 rfl rfl).trans cl_qc_6
                replace cl_qc_12 : hx_col 100 h_75 qc 12 = udf := (hx_col_S hs hTo gqc tt_45 tt_2 rfl rfl).trans cl_qc_12
                replace cl_qp_7 : hx_col 40 h_75 qp 7 = ddf := (hx_col_S hs hTo gqp tt_44 tt_4 rfl rfl).trans cl_qp_7
                replace cl_qp_3 : hx_col 40 h_75 qp 3 = eaf := (hx_col_S hs hTo gqp tt_44 tt_4 rfl rfl).trans cl_qp_3
                replace cl_qp_4 : hx_col 40 h_75 qp 4 = hdf := (hx_col_S hs hTo gqp tt_44 tt_4 rfl rfl).trans cl_qp_4
                replace nu_qp : hx_num 40 h_75 qp 0 (pn0.toInt) := hx_num_S hs hTo gqp tt_44 tt_4 rfl rfl nu_qp
                replace nu_qc : hx_num 100 h_75 qc 0 (cn0.toInt) := hx_num_S hs hTo gqc tt_45 tt_2 rfl rfl nu_qc
                replace hDF : hw_DF h_75 qc qp 2 agf cn0.toInt := hw_DF_S hs hTo gqc gqp tt_45 tt_2 rfl rfl rfl hDF
                replace hAC : hv_AC h_75 qc plf cn0.toInt A := hv_AC_S hs hTo gqc tt_45 tt_2 rfl tt_0 rfl rfl rfl rfl rfl rfl rfl hAC
                replace fo_9 := (hs.a gqc rfl _).2.trans fo_9
                replace eoq_14 := (hs.a gqp rfl _).2.trans eoq_14
                replace nfa_27 : h_75.2.1 q_26 = fa_27 := (funext fun j => (hs.a gq_26 rfl j).1).trans nfa_27
                replace ex_36 := ex_36.trans (hs.a gq_26 rfl _).1.symm
                replace hM := hM.tr (hs.mono ?o108)
                case o108 => decide
                replace gx := gx.S hs
                replace gqp := gqp.S hs
                replace gqc := gqc.S hs
                replace gq_6 := gq_6.S hs
                replace gq_14 := gq_14.S hs
                replace gq_24 := gq_24.S hs
                replace gq_26 := gq_26.S hs
                have hme9 : r_76.toInt = ((eaf (agf i1.toInt.toNat).toInt.toNat).toInt - (A (plf i1.toInt.toNat).toInt.toNat).2.1 3 * (hdf (agf i1.toInt.toNat).toInt.toNat).toInt) := ?o109
                case o109 => rw [hr_78.1, cea9, chd9]
                have hoi9 : r_66.toInt = (hz_oi agf wkf (hz_Rn odf szf gdf owf svf (hz_rc A plf) pof pdf psm pkf pst nw0.toInt n0.toInt.toNat) (agf i1.toInt.toNat).toInt cn0.toInt.toNat) := hr_68.1
                refine hb_icmp_le (zx := x_71.toInt) (zy := r_76.toInt) (tgt := 114) hx hb rfl rfl dX9_order_108 ?o110 (fun c_79 => ?_) (fun c_79 => ?_)
                case o110 => decide
                · skip
                  refine lv_aload_n hx hb dX9_order_114 rfl (lv_at hl 1 rfl) ?_
                  refine lv_iload hx hb dX9_order_115 (lv_at hl 0 rfl) ?_
                  have hTo := hT
                  have cl_qc_15O := cl_qc_15
                  have nu_qcO := nu_qc
                  have fo_9O := fo_9
                  refine hx_puti hx hb hts hC_2 hown hW hT (hx_S.rf (M := [(2, 15)])) gq_6 tt_2 15 ?o111 rfl kw_757 ⟨rfl, rfl, rfl⟩ rfl (x := x_35) (i32_r _) rfl rfl rfl (List.mem_singleton.mpr rfl) dX9_order_117 (fun H locs h_80 eh_80 hW hT hs => ?_)
                  case o111 => decide
                  replace f_x_7 := (hs.o gx trivial rfl).2.trans f_x_7
                  replace f_x_10 := (hs.o gx trivial rfl).2.trans f_x_10
                  replace f_x_14 := (hs.o gx trivial rfl).2.trans f_x_14
                  replace f_x_11 := (hs.o gx trivial rfl).1.trans f_x_11
                  replace f_x_2 := (hs.o gx trivial rfl).1.trans f_x_2
                  replace f_x_8 := (hs.o gx trivial rfl).1.trans f_x_8
                  replace fx_10 := (hs.o gq_6 trivial rfl).1.trans fx_10
                  replace fx_12 := (hs.o gq_6 trivial rfl).1.trans fx_12
                  replace fq_14 := (hs.o gq_6 trivial rfl).2.trans fq_14
                  replace fx_15 := (hs.o gq_14 trivial rfl).1.trans fx_15
                  replace fx_23 := (hs.o gq_6 trivial rfl).1.trans fx_23
                  replace fq_24 := (hs.o gq_6 trivial rfl).2.trans fq_24
                  replace ffv_25 := (hs.o gq_6 trivial rfl).1.trans ffv_25
                  replace fq_26 := (hs.o gq_24 trivial rfl).2.trans fq_26
                  replace ffv_72 := (hs.o gq_14 trivial rfl).1.trans ffv_72
                  replace ffv_73 := (hs.o gq_14 trivial rfl).1.trans ffv_73
                  replace pf_x_8 : ∀ j : Nat, (j : Int) < (h_80.2.1 x 8).toInt → h_80.2.2 qp j ≠ none := by
                    intro j hj; rw [(hs.o gx trivial rfl).1] at hj; rw [(hs.a gqp rfl j).2]; exact pf_x_8 j hj
                  replace pf_x_11 : ∀ j : Nat, (j : Int) < (h_80.2.1 x 11).toInt → h_80.2.2 qc j ≠ none := by
                    intro j hj; rw [(hs.o gx trivial rfl).1] at hj; rw [(hs.a gqc rfl j).2]; exact pf_x_11 j hj
                  replace cl_qc_13 : hx_col 100 h_80 qc 13 = odf := (hx_col_S hs hTo gqc tt_45 tt_2 rfl rfl).trans cl_qc_13
                  replace cl_qc_14 : hx_col 100 h_80 qc 14 = wkf := (hx_col_S hs hTo gqc tt_45 tt_2 rfl rfl).trans cl_qc_14
                  replace cl_qc_16 : hx_col 100 h_80 qc 16 = szf := (hx_col_S hs hTo gqc tt_45 tt_2 rfl rfl).trans cl_qc_16
                  replace cl_qc_17 : hx_col 100 h_80 qc 17 = gdf := (hx_col_S hs hTo gqc tt_45 tt_2 rfl rfl).trans cl_qc_17
                  replace cl_qc_18 : hx_col 100 h_80 qc 18 = svf := (hx_col_S hs hTo gqc tt_45 tt_2 rfl rfl).trans cl_qc_18
                  replace cl_qc_9 : hx_col 100 h_80 qc 9 = tf := (hx_col_S hs hTo gqc tt_45 tt_2 rfl rfl).trans cl_qc_9
                  replace cl_qc_6 : hx_col 100 h_80 qc 6 = smf := (hx_col_S hs hTo gqc tt_45 tt_2 rfl rfl).trans cl_qc_6
                  replace cl_qc_12 : hx_col 100 h_80 qc 12 = udf := (hx_col_S hs hTo gqc tt_45 tt_2 rfl rfl).trans cl_qc_12
                  replace cl_qp_7 : hx_col 40 h_80 qp 7 = ddf := (hx_col_S hs hTo gqp tt_44 tt_4 rfl rfl).trans cl_qp_7
                  replace cl_qp_3 : hx_col 40 h_80 qp 3 = eaf := (hx_col_S hs hTo gqp tt_44 tt_4 rfl rfl).trans cl_qp_3
                  replace cl_qp_4 : hx_col 40 h_80 qp 4 = hdf := (hx_col_S hs hTo gqp tt_44 tt_4 rfl rfl).trans cl_qp_4
                  replace nu_qp : hx_num 40 h_80 qp 0 (pn0.toInt) := hx_num_S hs hTo gqp tt_44 tt_4 rfl rfl nu_qp
                  replace nu_qc : hx_num 100 h_80 qc 0 (cn0.toInt) := hx_num_S hs hTo gqc tt_45 tt_2 rfl rfl nu_qc
                  replace hDF : hw_DF h_80 qc qp 2 agf cn0.toInt := hw_DF_S hs hTo gqc gqp tt_45 tt_2 rfl rfl rfl hDF
                  replace hAC : hv_AC h_80 qc plf cn0.toInt A := hv_AC_S hs hTo gqc tt_45 tt_2 rfl tt_0 rfl rfl rfl rfl rfl rfl rfl hAC
                  replace fo_9 := (hs.a gqc rfl _).2.trans fo_9
                  replace eoq_14 := (hs.a gqp rfl _).2.trans eoq_14
                  replace nfa_27 : h_80.2.1 q_26 = fa_27 := (funext fun j => (hs.a gq_26 rfl j).1).trans nfa_27
                  replace ex_36 := ex_36.trans (hs.a gq_26 rfl _).1.symm
                  replace hM := hM.tr (hs.mono ?o112)
                  case o112 => decide
                  replace gx := gx.S hs
                  replace gqp := gqp.S hs
                  replace gqc := gqc.S hs
                  replace gq_6 := gq_6.S hs
                  replace gq_14 := gq_14.S hs
                  replace gq_24 := gq_24.S hs
                  replace gq_26 := gq_26.S hs
                  have f_81 : h_80.2.1 q_6 15 = x_35 := ?o113
                  case o113 =>
                    rw [eh_80]
                    exact hx_pi_at _ _ _ _
                  obtain ⟨fc_82, dfc_82⟩ : ∃ g : Nat → Int32, g = hx_up owf i1.toNatClampNeg x_35 := ⟨_, rfl⟩
                  have nfc_82 : hx_col 100 h_80 qc 15 = fc_82 := ?o114
                  case o114 =>
                    rw [dfc_82, ← cl_qc_15O]
                    exact hx_col_pi nu_qcO fo_9O (by unfold Int32.toNatClampNeg; omega) eh_80
                  refine lv_aload_n hx hb dX9_order_120 rfl (lv_at hl 1 rfl) ?_
                  refine lv_iload_n hx hb dX9_order_121 rfl (lv_at hl 4 rfl) ?_
                  have hTo := hT
                  have cl_qc_14O := cl_qc_14
                  have nu_qcO := nu_qc
                  have fo_9O := fo_9
                  refine hx_puti hx hb hts hC_2 hown hW hT (hx_S.rf (M := [(2, 14)])) gq_6 tt_2 14 ?o115 rfl kw_755 ⟨rfl, rfl, rfl⟩ rfl (x := i2) (i32_r _) rfl rfl rfl (List.mem_singleton.mpr rfl) dX9_order_122 (fun H locs h_83 eh_83 hW hT hs => ?_)
                  case o115 => decide
                  replace f_x_7 := (hs.o gx trivial rfl).2.trans f_x_7
                  replace f_x_10 := (hs.o gx trivial rfl).2.trans f_x_10
                  replace f_x_14 := (hs.o gx trivial rfl).2.trans f_x_14
                  replace f_x_11 := (hs.o gx trivial rfl).1.trans f_x_11
                  replace f_x_2 := (hs.o gx trivial rfl).1.trans f_x_2
                  replace f_x_8 := (hs.o gx trivial rfl).1.trans f_x_8
                  replace fx_10 := (hs.o gq_6 trivial rfl).1.trans fx_10
                  replace fx_12 := (hs.o gq_6 trivial rfl).1.trans fx_12
                  replace fq_14 := (hs.o gq_6 trivial rfl).2.trans fq_14
                  replace fx_15 := (hs.o gq_14 trivial rfl).1.trans fx_15
                  replace fx_23 := (hs.o gq_6 trivial rfl).1.trans fx_23
                  replace fq_24 := (hs.o gq_6 trivial rfl).2.trans fq_24
                  replace ffv_25 := (hs.o gq_6 trivial rfl).1.trans ffv_25
                  replace fq_26 := (hs.o gq_24 trivial rfl).2.trans fq_26
                  replace ffv_72 := (hs.o gq_14 trivial rfl).1.trans ffv_72
                  replace ffv_73 := (hs.o gq_14 trivial rfl).1.trans ffv_73
                  replace f_81 := (hs.o gq_6 trivial rfl).1.trans f_81
                  replace pf_x_8 : ∀ j : Nat, (j : Int) < (h_83.2.1 x 8).toInt → h_83.2.2 qp j ≠ none := by
                    intro j hj; rw [(hs.o gx trivial rfl).1] at hj; rw [(hs.a gqp rfl j).2]; exact pf_x_8 j hj
                  replace pf_x_11 : ∀ j : Nat, (j : Int) < (h_83.2.1 x 11).toInt → h_83.2.2 qc j ≠ none := by
                    intro j hj; rw [(hs.o gx trivial rfl).1] at hj; rw [(hs.a gqc rfl j).2]; exact pf_x_11 j hj
                  replace cl_qc_13 : hx_col 100 h_83 qc 13 = odf := (hx_col_S hs hTo gqc tt_45 tt_2 rfl rfl).trans cl_qc_13
                  replace cl_qc_16 : hx_col 100 h_83 qc 16 = szf := (hx_col_S hs hTo gqc tt_45 tt_2 rfl rfl).trans cl_qc_16
                  replace cl_qc_17 : hx_col 100 h_83 qc 17 = gdf := (hx_col_S hs hTo gqc tt_45 tt_2 rfl rfl).trans cl_qc_17
                  replace cl_qc_18 : hx_col 100 h_83 qc 18 = svf := (hx_col_S hs hTo gqc tt_45 tt_2 rfl rfl).trans cl_qc_18
                  replace cl_qc_9 : hx_col 100 h_83 qc 9 = tf := (hx_col_S hs hTo gqc tt_45 tt_2 rfl rfl).trans cl_qc_9
                  replace cl_qc_6 : hx_col 100 h_83 qc 6 = smf := (hx_col_S hs hTo gqc tt_45 tt_2 rfl rfl).trans cl_qc_6
                  replace cl_qc_12 : hx_col 100 h_83 qc 12 = udf := (hx_col_S hs hTo gqc tt_45 tt_2 rfl rfl).trans cl_qc_12
                  replace cl_qp_7 : hx_col 40 h_83 qp 7 = ddf := (hx_col_S hs hTo gqp tt_44 tt_4 rfl rfl).trans cl_qp_7
                  replace cl_qp_3 : hx_col 40 h_83 qp 3 = eaf := (hx_col_S hs hTo gqp tt_44 tt_4 rfl rfl).trans cl_qp_3
                  replace cl_qp_4 : hx_col 40 h_83 qp 4 = hdf := (hx_col_S hs hTo gqp tt_44 tt_4 rfl rfl).trans cl_qp_4
                  replace nfc_82 : hx_col 100 h_83 qc 15 = fc_82 := (hx_col_S hs hTo gqc tt_45 tt_2 rfl rfl).trans nfc_82
                  replace nu_qp : hx_num 40 h_83 qp 0 (pn0.toInt) := hx_num_S hs hTo gqp tt_44 tt_4 rfl rfl nu_qp
                  replace nu_qc : hx_num 100 h_83 qc 0 (cn0.toInt) := hx_num_S hs hTo gqc tt_45 tt_2 rfl rfl nu_qc
                  replace hDF : hw_DF h_83 qc qp 2 agf cn0.toInt := hw_DF_S hs hTo gqc gqp tt_45 tt_2 rfl rfl rfl hDF
                  replace hAC : hv_AC h_83 qc plf cn0.toInt A := hv_AC_S hs hTo gqc tt_45 tt_2 rfl tt_0 rfl rfl rfl rfl rfl rfl rfl hAC
                  replace fo_9 := (hs.a gqc rfl _).2.trans fo_9
                  replace eoq_14 := (hs.a gqp rfl _).2.trans eoq_14
                  replace nfa_27 : h_83.2.1 q_26 = fa_27 := (funext fun j => (hs.a gq_26 rfl j).1).trans nfa_27
                  replace ex_36 := ex_36.trans (hs.a gq_26 rfl _).1.symm
                  replace hM := hM.tr (hs.mono ?o116)
                  case o116 => decide
                  replace gx := gx.S hs
                  replace gqp := gqp.S hs
                  replace gqc := gqc.S hs
                  replace gq_6 := gq_6.S hs
                  replace gq_14 := gq_14.S hs
                  replace gq_24 := gq_24.S hs
                  replace gq_26 := gq_26.S hs
                  have f_84 : h_83.2.1 q_6 14 = i2 := ?o117
                  case o117 =>
                    rw [eh_83]
                    exact hx_pi_at _ _ _ _
                  obtain ⟨fc_85, dfc_85⟩ : ∃ g : Nat → Int32, g = hx_up wkf i1.toNatClampNeg i2 := ⟨_, rfl⟩
                  have nfc_85 : hx_col 100 h_83 qc 14 = fc_85 := ?o118
                  case o118 =>
                    rw [dfc_85, ← cl_qc_14O]
                    exact hx_col_pi nu_qcO fo_9O (by unfold Int32.toNatClampNeg; omega) eh_83
                  refine lv_aload_n hx hb dX9_order_125 rfl (lv_at hl 1 rfl) ?_
                  refine lv_aload_n hx hb dX9_order_126 rfl (lv_at hl 2 rfl) ?_
                  refine hk_geti hx hb hts hC_9 hown hW gx tt_9 2 ?o119 rfl kw_366 ⟨rfl, rfl, rfl⟩ f_x_2 dX9_order_127 ?_
                  case o119 => decide
                  have hTo := hT
                  have cl_qc_13O := cl_qc_13
                  have nu_qcO := nu_qc
                  have fo_9O := fo_9
                  refine hx_puti hx hb hts hC_2 hown hW hT (hx_S.rf (M := [(2, 13)])) gq_6 tt_2 13 ?o120 rfl kw_753 ⟨rfl, rfl, rfl⟩ rfl (x := nw0) (i32_r _) rfl rfl rfl (List.mem_singleton.mpr rfl) dX9_order_130 (fun H locs h_86 eh_86 hW hT hs => ?_)
                  case o120 => decide
                  replace f_x_7 := (hs.o gx trivial rfl).2.trans f_x_7
                  replace f_x_10 := (hs.o gx trivial rfl).2.trans f_x_10
                  replace f_x_14 := (hs.o gx trivial rfl).2.trans f_x_14
                  replace f_x_11 := (hs.o gx trivial rfl).1.trans f_x_11
                  replace f_x_2 := (hs.o gx trivial rfl).1.trans f_x_2
                  replace f_x_8 := (hs.o gx trivial rfl).1.trans f_x_8
                  replace fx_10 := (hs.o gq_6 trivial rfl).1.trans fx_10
                  replace fq_14 := (hs.o gq_6 trivial rfl).2.trans fq_14
                  replace fx_15 := (hs.o gq_14 trivial rfl).1.trans fx_15
                  replace fx_23 := (hs.o gq_6 trivial rfl).1.trans fx_23
                  replace fq_24 := (hs.o gq_6 trivial rfl).2.trans fq_24
                  replace ffv_25 := (hs.o gq_6 trivial rfl).1.trans ffv_25
                  replace fq_26 := (hs.o gq_24 trivial rfl).2.trans fq_26
                  replace ffv_72 := (hs.o gq_14 trivial rfl).1.trans ffv_72
                  replace ffv_73 := (hs.o gq_14 trivial rfl).1.trans ffv_73
                  replace f_81 := (hs.o gq_6 trivial rfl).1.trans f_81
                  replace f_84 := (hs.o gq_6 trivial rfl).1.trans f_84
                  replace pf_x_8 : ∀ j : Nat, (j : Int) < (h_86.2.1 x 8).toInt → h_86.2.2 qp j ≠ none := by
                    intro j hj; rw [(hs.o gx trivial rfl).1] at hj; rw [(hs.a gqp rfl j).2]; exact pf_x_8 j hj
                  replace pf_x_11 : ∀ j : Nat, (j : Int) < (h_86.2.1 x 11).toInt → h_86.2.2 qc j ≠ none := by
                    intro j hj; rw [(hs.o gx trivial rfl).1] at hj; rw [(hs.a gqc rfl j).2]; exact pf_x_11 j hj
                  replace cl_qc_16 : hx_col 100 h_86 qc 16 = szf := (hx_col_S hs hTo gqc tt_45 tt_2 rfl rfl).trans cl_qc_16
                  replace cl_qc_17 : hx_col 100 h_86 qc 17 = gdf := (hx_col_S hs hTo gqc tt_45 tt_2 rfl rfl).trans cl_qc_17
                  replace cl_qc_18 : hx_col 100 h_86 qc 18 = svf := (hx_col_S hs hTo gqc tt_45 tt_2 rfl rfl).trans cl_qc_18
                  replace cl_qc_9 : hx_col 100 h_86 qc 9 = tf := (hx_col_S hs hTo gqc tt_45 tt_2 rfl rfl).trans cl_qc_9
                  replace cl_qc_6 : hx_col 100 h_86 qc 6 = smf := (hx_col_S hs hTo gqc tt_45 tt_2 rfl rfl).trans cl_qc_6
                  replace cl_qc_12 : hx_col 100 h_86 qc 12 = udf := (hx_col_S hs hTo gqc tt_45 tt_2 rfl rfl).trans cl_qc_12
                  replace cl_qp_7 : hx_col 40 h_86 qp 7 = ddf := (hx_col_S hs hTo gqp tt_44 tt_4 rfl rfl).trans cl_qp_7
                  replace cl_qp_3 : hx_col 40 h_86 qp 3 = eaf := (hx_col_S hs hTo gqp tt_44 tt_4 rfl rfl).trans cl_qp_3
                  replace cl_qp_4 : hx_col 40 h_86 qp 4 = hdf := (hx_col_S hs hTo gqp tt_44 tt_4 rfl rfl).trans cl_qp_4
                  replace nfc_82 : hx_col 100 h_86 qc 15 = fc_82 := (hx_col_S hs hTo gqc tt_45 tt_2 rfl rfl).trans nfc_82
                  replace nfc_85 : hx_col 100 h_86 qc 14 = fc_85 := (hx_col_S hs hTo gqc tt_45 tt_2 rfl rfl).trans nfc_85
                  replace nu_qp : hx_num 40 h_86 qp 0 (pn0.toInt) := hx_num_S hs hTo gqp tt_44 tt_4 rfl rfl nu_qp
                  replace nu_qc : hx_num 100 h_86 qc 0 (cn0.toInt) := hx_num_S hs hTo gqc tt_45 tt_2 rfl rfl nu_qc
                  replace hDF : hw_DF h_86 qc qp 2 agf cn0.toInt := hw_DF_S hs hTo gqc gqp tt_45 tt_2 rfl rfl rfl hDF
                  replace hAC : hv_AC h_86 qc plf cn0.toInt A := hv_AC_S hs hTo gqc tt_45 tt_2 rfl tt_0 rfl rfl rfl rfl rfl rfl rfl hAC
                  replace fo_9 := (hs.a gqc rfl _).2.trans fo_9
                  replace eoq_14 := (hs.a gqp rfl _).2.trans eoq_14
                  replace nfa_27 : h_86.2.1 q_26 = fa_27 := (funext fun j => (hs.a gq_26 rfl j).1).trans nfa_27
                  replace ex_36 := ex_36.trans (hs.a gq_26 rfl _).1.symm
                  replace hM := hM.tr (hs.mono ?o121)
                  case o121 => decide
                  replace gx := gx.S hs
                  replace gqp := gqp.S hs
                  replace gqc := gqc.S hs
                  replace gq_6 := gq_6.S hs
                  replace gq_14 := gq_14.S hs
                  replace gq_24 := gq_24.S hs
                  replace gq_26 := gq_26.S hs
                  have f_87 : h_86.2.1 q_6 13 = nw0 := ?o122
                  case o122 =>
                    rw [eh_86]
                    exact hx_pi_at _ _ _ _
                  obtain ⟨fc_88, dfc_88⟩ : ∃ g : Nat → Int32, g = hx_up odf i1.toNatClampNeg nw0 := ⟨_, rfl⟩
                  have nfc_88 : hx_col 100 h_86 qc 13 = fc_88 := ?o123
                  case o123 =>
                    rw [dfc_88, ← cl_qc_13O]
                    exact hx_col_pi nu_qcO fo_9O (by unfold Int32.toNatClampNeg; omega) eh_86
                  refine lv_iload hx hb dX9_order_133 (lv_at hl 0 rfl) ?_
                  refine hx_reti hx hb hr hlk hW ⟨⟨fc_88, fc_85, fc_82, nfc_88, nfc_85, nfc_82, (Or.inr ⟨⟨⟨?o124, ?o125⟩, (by rw [show udf i1.toInt.toNat = x_10 from cx_10.symm]; omega), (by rw [show odf i1.toInt.toNat = x_12 from cx_12.symm]; omega), (by rw [show ddf (agf i1.toInt.toNat).toInt.toNat = x_15 from cx_15.symm]; omega), ?o126, ?o127⟩, Or.inr (Or.inr ⟨(by rw [← hmn9, ← hall9]; omega), (by rw [← hme9, ← hoi9]; omega), hall9, dfc_88, dfc_85, dfc_82⟩)⟩)⟩, hT, hM⟩ dX9_order_135
                  case o124 => omega
                  case o125 => omega
                  case o126 => omega
                  case o127 => omega
                · skip
                  refine lv_bipush (v := -3) hx hb dX9_order_111 ?o128 ?_
                  case o128 => decide
                  refine hx_reti hx hb hr hlk hW ⟨⟨odf, wkf, owf, cl_qc_13, cl_qc_14, cl_qc_15, (Or.inr ⟨⟨⟨?o129, ?o130⟩, (by rw [show udf i1.toInt.toNat = x_10 from cx_10.symm]; omega), (by rw [show odf i1.toInt.toNat = x_12 from cx_12.symm]; omega), (by rw [show ddf (agf i1.toInt.toNat).toInt.toNat = x_15 from cx_15.symm]; omega), ?o131, ?o132⟩, Or.inr (Or.inl ⟨(by rw [← hmn9, ← hall9]; omega), (by rw [← hme9, ← hoi9]; omega), ?o133, rfl, rfl, rfl⟩)⟩)⟩, hT, hM⟩ dX9_order_113
                  case o129 => omega
                  case o130 => omega
                  case o131 => omega
                  case o132 => omega
                  case o133 => decide
              · skip
                refine lv_bipush (v := -2) hx hb dX9_order_84 ?o134 ?_
                case o134 => decide
                refine hx_reti hx hb hr hlk hW ⟨⟨odf, wkf, owf, cl_qc_13, cl_qc_14, cl_qc_15, (Or.inr ⟨⟨⟨?o135, ?o136⟩, (by rw [show udf i1.toInt.toNat = x_10 from cx_10.symm]; omega), (by rw [show odf i1.toInt.toNat = x_12 from cx_12.symm]; omega), (by rw [show ddf (agf i1.toInt.toNat).toInt.toNat = x_15 from cx_15.symm]; omega), ?o137, ?o138⟩, Or.inl ⟨(by rw [← hmn9, ← hall9]; omega), ?o139, rfl, rfl, rfl⟩⟩)⟩, hT, hM⟩ dX9_order_86
                case o135 => omega
                case o136 => omega
                case o137 => omega
                case o138 => omega
                case o139 => decide
          · skip
            replace hr_21 := hr_21.resolve_right (fun z9 => absurd (c_22.symm.trans z9.1) ?o140)
            case o140 => decide
            replace hr_21 := hr_21.2
            refine lv_iconst (v := -1) hx hb dX9_order_47 ?o141 ?_
            case o141 => decide
            refine hx_reti hx hb hr hlk hW ⟨⟨odf, wkf, owf, cl_qc_13, cl_qc_14, cl_qc_15, (Or.inl ⟨(fun hc => by have h1 := hc.2.2.2.2; omega), ?o142, rfl, rfl, rfl⟩)⟩, hT, hM⟩ dX9_order_48
            case o142 => decide


set_option maxHeartbeats 4000000 in
set_option maxRecDepth 100000 in
theorem t_X3_addPayment_v (l : Launch) (dC : Nat → ClassId) (dI : Nat → Nat → Nat) (dA : Nat → ClassId) (L : List Nat) (h : hx_h) (sz : Nat) (x : Nat) (i1 : Int32) (i2 : Int32) (i3 : Int32) (i4 : Int32) (hT : hx_T T_tb L h) (gx : hx_g L h x 3) (pqo : Nat) (gpqo : hx_g L h pqo 23) (f_x_2 : h.2.2 x 2 = some pqo) (pqd : Nat) (gpqd : hx_g L h pqd 24) (f_x_3 : h.2.2 x 3 = some pqd) (pqs : Nat) (gpqs : hx_g L h pqs 26) (f_x_5 : h.2.2 x 5 = some pqs) (pqk : Nat) (gpqk : hx_g L h pqk 25) (f_x_4 : h.2.2 x 4 = some pqk) (pqt : Nat) (gpqt : hx_g L h pqt 22) (f_x_1 : h.2.2 x 1 = some pqt) (pof : Nat → Int32) (af_pqo : h.2.1 pqo = pof) (pdf : Nat → Int32) (af_pqd : h.2.1 pqd = pdf) (psm : Nat → Int32) (af_pqs : h.2.1 pqs = psm) (pkf : Nat → Int32) (af_pqk : h.2.1 pqk = pkf) (pst : Nat → Int32) (af_pqt : h.2.1 pqt = pst) (n0 : Int32) (f_x_0 : h.2.1 x 0 = n0) (hn0 : n0.toInt < 600) : Met l yX3_addPayment (Cond.code yX3_addPayment cX3_addPayment 5 (some .int) :: hx_all) ({ frames := 0, cells := 0, slots := 0, locals := 0 }) (va_Pc [.ref x, .int i1, .int i2, .int i3, .int i4] (hx_B T_tb (P_ty dA) (dC, dI) vwCl L h sz)) (va_Qi (fun (r : Int32) (u : List Nat × hx_h) => (∃ (n1 : Int32) (pof1 : Nat → Int32) (pdf1 : Nat → Int32) (psm1 : Nat → Int32) (pkf1 : Nat → Int32) (pst1 : Nat → Int32), u.2.2.1 x 0 = n1 ∧ u.2.2.1 pqo = pof1 ∧ u.2.2.1 pqd = pdf1 ∧ u.2.2.1 pqs = psm1 ∧ u.2.2.1 pqk = pkf1 ∧ u.2.2.1 pqt = pst1 ∧ (r.toInt = n0.toInt ∧ n1.toInt = n0.toInt + 1 ∧ hz_AP n0.toInt.toNat i1 i2 i4 i3 pof pof1 pdf pdf1 psm psm1 pkf pkf1 pst pst1)) ∧ hx_T T_tb u.1 u.2 ∧ hx_S T_tb [(3, 0), (22, 0), (23, 0), (24, 0), (25, 0), (26, 0)] L h u.1 u.2) (hx_E T_tb (P_ty dA) (dC, dI) vwCl (hx_A L sz)) (hx_A L sz)) 0 0 (hx_A L sz) := by
  refine hx_met (lv := [(0, .ref x), (1, .int i1), (2, .int i2), (3, .int i3), (4, .int i4)]) (by decide +kernel) rfl (Nat.le_of_ble_eq_true rfl) rfl ?_
  intro p e s m below meth c hx hb hml hr hlk hts0 hown hin hsz hW ls hl
  have hts : ∀ w ∈ hx_all, w.before _ s = true := fun w hw => hts0 w (List.mem_cons_of_mem _ hw)
  have hown : s.vm.findClass "SmallCourt$Payments" = some m.cls := hown
  have hM : hx_S T_tb [(3, 0), (22, 0), (23, 0), (24, 0), (25, 0), (26, 0)] L h L h := hx_S.rf
  have b_n0 := hT.gi gx tt_3 (k := 0) rfl
  rw [f_x_0] at b_n0
  have b_n0 : 0 ≤ n0.toInt ∧ n0.toInt ≤ 600 := b_n0
  refine lv_aload_n hx hb dX3_addPayment_0 rfl (lv_at hl 0 rfl) ?_
  refine hk_geti hx hb hts hC_3 hown hW (gx.S hM) tt_3 0 ?o0 rfl kw_231 ⟨rfl, rfl, rfl⟩ f_x_0 dX3_addPayment_1 ?_
  case o0 => decide
  refine lv_sipush (v := 600) hx hb dX3_addPayment_4 ?o1 ?_
  case o1 => decide
  refine hb_icmp_lt (zx := n0.toInt) (zy := 600) (tgt := 12) hx hb rfl ?o2 dX3_addPayment_7 ?o3 (fun c_1 => ?_) (fun c_1 => ?o4)
  case o2 => decide
  case o3 => decide
  case o4 =>
    exfalso
    omega
  refine lv_aload_n hx hb dX3_addPayment_12 rfl (lv_at hl 0 rfl) ?_
  refine hk_getr hx hb hts hC_3 hown hW (gx.S hM) tt_3 2 ?o5 rfl kw_235 ⟨rfl, rfl, rfl⟩ ((hM.o gx trivial rfl).2.trans f_x_2) dX3_addPayment_13 ?_
  case o5 => decide
  refine lv_aload_n hx hb dX3_addPayment_16 rfl (lv_at hl 0 rfl) ?_
  refine hk_geti hx hb hts hC_3 hown hW (gx.S hM) tt_3 0 ?o6 rfl kw_231 ⟨rfl, rfl, rfl⟩ f_x_0 dX3_addPayment_17 ?_
  case o6 => decide
  refine lv_iload_n hx hb dX3_addPayment_20 rfl (lv_at hl 1 rfl) ?_
  have af_pqoO := af_pqo
  refine hx_iast hx hb hW hT (hx_S.rf (M := [(23, 0)])) (gpqo.S hM) tt_23 rfl ⟨?o7, ?o8⟩ rfl (i32_r _) (List.mem_singleton.mpr rfl) dX3_addPayment_21 (fun H locs h_2 eh_2 hW hT hs => ?_)
  case o7 => omega
  case o8 => omega
  replace f_x_0 := (hs.o (gx.S hM) trivial rfl).1.trans f_x_0
  replace af_pqd : h_2.2.1 pqd = pdf := (funext fun j => (hs.a (gpqd.S hM) rfl j).1).trans af_pqd
  replace af_pqs : h_2.2.1 pqs = psm := (funext fun j => (hs.a (gpqs.S hM) rfl j).1).trans af_pqs
  replace af_pqk : h_2.2.1 pqk = pkf := (funext fun j => (hs.a (gpqk.S hM) rfl j).1).trans af_pqk
  replace af_pqt : h_2.2.1 pqt = pst := (funext fun j => (hs.a (gpqt.S hM) rfl j).1).trans af_pqt
  replace hM := hM.tr (hs.mono ?o9)
  case o9 => decide
  obtain ⟨fa_3, dfa_3⟩ : ∃ g : Nat → Int32, g = hx_up pof n0.toNatClampNeg i1 := ⟨_, rfl⟩
  have nfa_3 : h_2.2.1 pqo = fa_3 := ?o10
  case o10 =>
    rw [eh_2, dfa_3, ← af_pqoO]
    exact hx_pi_fun _ _ _ _
  refine lv_aload_n hx hb dX3_addPayment_22 rfl (lv_at hl 0 rfl) ?_
  refine hk_getr hx hb hts hC_3 hown hW (gx.S hM) tt_3 3 ?o11 rfl kw_236 ⟨rfl, rfl, rfl⟩ ((hM.o gx trivial rfl).2.trans f_x_3) dX3_addPayment_23 ?_
  case o11 => decide
  refine lv_aload_n hx hb dX3_addPayment_26 rfl (lv_at hl 0 rfl) ?_
  refine hk_geti hx hb hts hC_3 hown hW (gx.S hM) tt_3 0 ?o12 rfl kw_231 ⟨rfl, rfl, rfl⟩ f_x_0 dX3_addPayment_27 ?_
  case o12 => decide
  refine lv_iload_n hx hb dX3_addPayment_30 rfl (lv_at hl 2 rfl) ?_
  have af_pqdO := af_pqd
  refine hx_iast hx hb hW hT (hx_S.rf (M := [(24, 0)])) (gpqd.S hM) tt_24 rfl ⟨?o13, ?o14⟩ rfl (i32_r _) (List.mem_singleton.mpr rfl) dX3_addPayment_31 (fun H locs h_4 eh_4 hW hT hs => ?_)
  case o13 => omega
  case o14 => omega
  replace f_x_0 := (hs.o (gx.S hM) trivial rfl).1.trans f_x_0
  replace af_pqs : h_4.2.1 pqs = psm := (funext fun j => (hs.a (gpqs.S hM) rfl j).1).trans af_pqs
  replace af_pqk : h_4.2.1 pqk = pkf := (funext fun j => (hs.a (gpqk.S hM) rfl j).1).trans af_pqk
  replace af_pqt : h_4.2.1 pqt = pst := (funext fun j => (hs.a (gpqt.S hM) rfl j).1).trans af_pqt
  replace nfa_3 : h_4.2.1 pqo = fa_3 := (funext fun j => (hs.a (gpqo.S hM) rfl j).1).trans nfa_3
  replace hM := hM.tr (hs.mono ?o15)
  case o15 => decide
  obtain ⟨fa_5, dfa_5⟩ : ∃ g : Nat → Int32, g = hx_up pdf n0.toNatClampNeg i2 := ⟨_, rfl⟩
  have nfa_5 : h_4.2.1 pqd = fa_5 := ?o16
  case o16 =>
    rw [eh_4, dfa_5, ← af_pqdO]
    exact hx_pi_fun _ _ _ _
  refine lv_aload_n hx hb dX3_addPayment_32 rfl (lv_at hl 0 rfl) ?_
  refine hk_getr hx hb hts hC_3 hown hW (gx.S hM) tt_3 4 ?o17 rfl kw_237 ⟨rfl, rfl, rfl⟩ ((hM.o gx trivial rfl).2.trans f_x_4) dX3_addPayment_33 ?_
  case o17 => decide
  refine lv_aload_n hx hb dX3_addPayment_36 rfl (lv_at hl 0 rfl) ?_
  refine hk_geti hx hb hts hC_3 hown hW (gx.S hM) tt_3 0 ?o18 rfl kw_231 ⟨rfl, rfl, rfl⟩ f_x_0 dX3_addPayment_37 ?_
  case o18 => decide
  refine lv_iload_n hx hb dX3_addPayment_40 rfl (lv_at hl 3 rfl) ?_
  have af_pqkO := af_pqk
  refine hx_iast hx hb hW hT (hx_S.rf (M := [(25, 0)])) (gpqk.S hM) tt_25 rfl ⟨?o19, ?o20⟩ rfl (i32_r _) (List.mem_singleton.mpr rfl) dX3_addPayment_41 (fun H locs h_6 eh_6 hW hT hs => ?_)
  case o19 => omega
  case o20 => omega
  replace f_x_0 := (hs.o (gx.S hM) trivial rfl).1.trans f_x_0
  replace af_pqs : h_6.2.1 pqs = psm := (funext fun j => (hs.a (gpqs.S hM) rfl j).1).trans af_pqs
  replace af_pqt : h_6.2.1 pqt = pst := (funext fun j => (hs.a (gpqt.S hM) rfl j).1).trans af_pqt
  replace nfa_3 : h_6.2.1 pqo = fa_3 := (funext fun j => (hs.a (gpqo.S hM) rfl j).1).trans nfa_3
  replace nfa_5 : h_6.2.1 pqd = fa_5 := (funext fun j => (hs.a (gpqd.S hM) rfl j).1).trans nfa_5
  replace hM := hM.tr (hs.mono ?o21)
  case o21 => decide
  obtain ⟨fa_7, dfa_7⟩ : ∃ g : Nat → Int32, g = hx_up pkf n0.toNatClampNeg i3 := ⟨_, rfl⟩
  have nfa_7 : h_6.2.1 pqk = fa_7 := ?o22
  case o22 =>
    rw [eh_6, dfa_7, ← af_pqkO]
    exact hx_pi_fun _ _ _ _
  refine lv_aload_n hx hb dX3_addPayment_42 rfl (lv_at hl 0 rfl) ?_
  refine hk_getr hx hb hts hC_3 hown hW (gx.S hM) tt_3 5 ?o23 rfl kw_238 ⟨rfl, rfl, rfl⟩ ((hM.o gx trivial rfl).2.trans f_x_5) dX3_addPayment_43 ?_
  case o23 => decide
  refine lv_aload_n hx hb dX3_addPayment_46 rfl (lv_at hl 0 rfl) ?_
  refine hk_geti hx hb hts hC_3 hown hW (gx.S hM) tt_3 0 ?o24 rfl kw_231 ⟨rfl, rfl, rfl⟩ f_x_0 dX3_addPayment_47 ?_
  case o24 => decide
  refine lv_iload hx hb dX3_addPayment_50 (lv_at hl 4 rfl) ?_
  have af_pqsO := af_pqs
  refine hx_iast hx hb hW hT (hx_S.rf (M := [(26, 0)])) (gpqs.S hM) tt_26 rfl ⟨?o25, ?o26⟩ rfl (i32_r _) (List.mem_singleton.mpr rfl) dX3_addPayment_52 (fun H locs h_8 eh_8 hW hT hs => ?_)
  case o25 => omega
  case o26 => omega
  replace f_x_0 := (hs.o (gx.S hM) trivial rfl).1.trans f_x_0
  replace af_pqt : h_8.2.1 pqt = pst := (funext fun j => (hs.a (gpqt.S hM) rfl j).1).trans af_pqt
  replace nfa_3 : h_8.2.1 pqo = fa_3 := (funext fun j => (hs.a (gpqo.S hM) rfl j).1).trans nfa_3
  replace nfa_5 : h_8.2.1 pqd = fa_5 := (funext fun j => (hs.a (gpqd.S hM) rfl j).1).trans nfa_5
  replace nfa_7 : h_8.2.1 pqk = fa_7 := (funext fun j => (hs.a (gpqk.S hM) rfl j).1).trans nfa_7
  replace hM := hM.tr (hs.mono ?o27)
  case o27 => decide
  obtain ⟨fa_9, dfa_9⟩ : ∃ g : Nat → Int32, g = hx_up psm n0.toNatClampNeg i4 := ⟨_, rfl⟩
  have nfa_9 : h_8.2.1 pqs = fa_9 := ?o28
  case o28 =>
    rw [eh_8, dfa_9, ← af_pqsO]
    exact hx_pi_fun _ _ _ _
  refine lv_aload_n hx hb dX3_addPayment_53 rfl (lv_at hl 0 rfl) ?_
  refine hk_getr hx hb hts hC_3 hown hW (gx.S hM) tt_3 1 ?o29 rfl kw_233 ⟨rfl, rfl, rfl⟩ ((hM.o gx trivial rfl).2.trans f_x_1) dX3_addPayment_54 ?_
  case o29 => decide
  refine lv_aload_n hx hb dX3_addPayment_57 rfl (lv_at hl 0 rfl) ?_
  refine hk_geti hx hb hts hC_3 hown hW (gx.S hM) tt_3 0 ?o30 rfl kw_231 ⟨rfl, rfl, rfl⟩ f_x_0 dX3_addPayment_58 ?_
  case o30 => decide
  refine lv_iconst (v := -1) hx hb dX3_addPayment_61 ?o31 ?_
  case o31 => decide
  have af_pqtO := af_pqt
  refine hx_iast hx hb hW hT (hx_S.rf (M := [(22, 0)])) (gpqt.S hM) tt_22 rfl ⟨?o32, ?o33⟩ rfl ?o34 (List.mem_singleton.mpr rfl) dX3_addPayment_62 (fun H locs h_10 eh_10 hW hT hs => ?_)
  case o32 => omega
  case o33 => omega
  case o34 => decide
  replace f_x_0 := (hs.o (gx.S hM) trivial rfl).1.trans f_x_0
  replace nfa_3 : h_10.2.1 pqo = fa_3 := (funext fun j => (hs.a (gpqo.S hM) rfl j).1).trans nfa_3
  replace nfa_5 : h_10.2.1 pqd = fa_5 := (funext fun j => (hs.a (gpqd.S hM) rfl j).1).trans nfa_5
  replace nfa_7 : h_10.2.1 pqk = fa_7 := (funext fun j => (hs.a (gpqk.S hM) rfl j).1).trans nfa_7
  replace nfa_9 : h_10.2.1 pqs = fa_9 := (funext fun j => (hs.a (gpqs.S hM) rfl j).1).trans nfa_9
  replace hM := hM.tr (hs.mono ?o35)
  case o35 => decide
  obtain ⟨fa_11, dfa_11⟩ : ∃ g : Nat → Int32, g = hx_up pst n0.toNatClampNeg (-1 : Int32) := ⟨_, rfl⟩
  have nfa_11 : h_10.2.1 pqt = fa_11 := ?o36
  case o36 =>
    rw [eh_10, dfa_11, ← af_pqtO]
    exact hx_pi_fun _ _ _ _
  refine lv_aload_n hx hb dX3_addPayment_63 rfl (lv_at hl 0 rfl) ?_
  refine lv_dup hx hb dX3_addPayment_64 rfl ?_
  refine hk_geti hx hb hts hC_3 hown hW (gx.S hM) tt_3 0 ?o37 rfl kw_231 ⟨rfl, rfl, rfl⟩ f_x_0 dX3_addPayment_65 ?_
  case o37 => decide
  refine lv_iconst (v := 1) hx hb dX3_addPayment_68 ?o38 ?_
  case o38 => decide
  refine lv_iadd hx hb dX3_addPayment_69 ?_
  have rg_12 := i32_r n0
  refine lv_topi (fun x_13 ex_13 => ?_)
  have zx_13 : x_13.toInt = n0.toInt + 1 := ?o39
  case o39 =>
    rw [ex_13]
    refine i32_add rfl ?o40 ?o41 ?o42
    case o40 => decide
    case o41 => omega
    case o42 => omega
  refine hx_puti hx hb hts hC_3 hown hW hT (hx_S.rf (M := [(3, 0)])) (gx.S hM) tt_3 0 ?o43 rfl kw_231 ⟨rfl, rfl, rfl⟩ rfl (x := x_13) ⟨?o44, ?o45⟩ rfl rfl rfl (List.mem_singleton.mpr rfl) dX3_addPayment_70 (fun H locs h_14 eh_14 hW hT hs => ?_)
  case o43 => decide
  case o44 => omega
  case o45 => omega
  replace nfa_3 : h_14.2.1 pqo = fa_3 := (funext fun j => (hs.a (gpqo.S hM) rfl j).1).trans nfa_3
  replace nfa_5 : h_14.2.1 pqd = fa_5 := (funext fun j => (hs.a (gpqd.S hM) rfl j).1).trans nfa_5
  replace nfa_7 : h_14.2.1 pqk = fa_7 := (funext fun j => (hs.a (gpqk.S hM) rfl j).1).trans nfa_7
  replace nfa_9 : h_14.2.1 pqs = fa_9 := (funext fun j => (hs.a (gpqs.S hM) rfl j).1).trans nfa_9
  replace nfa_11 : h_14.2.1 pqt = fa_11 := (funext fun j => (hs.a (gpqt.S hM) rfl j).1).trans nfa_11
  replace hM := hM.tr (hs.mono ?o46)
  case o46 => decide
  have f_15 : h_14.2.1 x 0 = x_13 := ?o47
  case o47 =>
    rw [eh_14]
    exact hx_pi_at _ _ _ _
  refine lv_aload_n hx hb dX3_addPayment_73 rfl (lv_at hl 0 rfl) ?_
  refine hk_geti hx hb hts hC_3 hown hW (gx.S hM) tt_3 0 ?o48 rfl kw_231 ⟨rfl, rfl, rfl⟩ f_15 dX3_addPayment_74 ?_
  case o48 => decide
  refine lv_iconst (v := 1) hx hb dX3_addPayment_77 ?o49 ?_
  case o49 => decide
  refine lv_isub hx hb dX3_addPayment_78 ?_
  have rg_16 := i32_r x_13
  refine lv_topi (fun x_17 ex_17 => ?_)
  have zx_17 : x_17.toInt = x_13.toInt - 1 := ?o50
  case o50 =>
    rw [ex_17]
    refine i32_sub rfl ?o51 ?o52 ?o53
    case o51 => decide
    case o52 => omega
    case o53 => omega
  refine hx_reti hx hb hr hlk hW ⟨⟨x_13, fa_3, fa_5, fa_9, fa_7, fa_11, f_15, nfa_3, nfa_5, nfa_9, nfa_7, nfa_11, ⟨?o54, ?o55, dfa_3, dfa_5, dfa_9, dfa_7, dfa_11⟩⟩, hT, hM⟩ dX3_addPayment_79
  case o54 => omega
  case o55 => omega


set_option maxHeartbeats 4000000 in
set_option maxRecDepth 100000 in
theorem t_X9_pay_v (l : Launch) (dC : Nat → ClassId) (dI : Nat → Nat → Nat) (dA : Nat → ClassId) (L : List Nat) (h : hx_h) (sz : Nat) (x : Nat) (i1 : Int32) (i2 : Int32) (i3 : Int32) (hT : hx_T T_tb L h) (gx : hx_g L h x 9) (qc : Nat) (gqc : hx_g L h qc 45) (f_x_10 : h.2.2 x 10 = some qc) (qy : Nat) (gqy : hx_g L h qy 3) (f_x_14 : h.2.2 x 14 = some qy) (pqo : Nat) (gpqo : hx_g L h pqo 23) (f_qy_2 : h.2.2 qy 2 = some pqo) (pqd : Nat) (gpqd : hx_g L h pqd 24) (f_qy_3 : h.2.2 qy 3 = some pqd) (pqs : Nat) (gpqs : hx_g L h pqs 26) (f_qy_5 : h.2.2 qy 5 = some pqs) (pqk : Nat) (gpqk : hx_g L h pqk 25) (f_qy_4 : h.2.2 qy 4 = some pqk) (pqt : Nat) (gpqt : hx_g L h pqt 22) (f_qy_1 : h.2.2 qy 1 = some pqt) (pof : Nat → Int32) (af_pqo : h.2.1 pqo = pof) (pdf : Nat → Int32) (af_pqd : h.2.1 pqd = pdf) (psm : Nat → Int32) (af_pqs : h.2.1 pqs = psm) (pkf : Nat → Int32) (af_pqk : h.2.1 pqk = pkf) (pst : Nat → Int32) (af_pqt : h.2.1 pqt = pst) (cn0 : Int32) (f_x_11 : h.2.1 x 11 = cn0) (nw0 : Int32) (f_x_2 : h.2.1 x 2 = nw0) (n0 : Int32) (f_qy_0 : h.2.1 qy 0 = n0) (odf : Nat → Int32) (cl_qc_13 : hx_col 100 h qc 13 = odf) (svf : Nat → Int32) (cl_qc_18 : hx_col 100 h qc 18 = svf) (nu_qc : hx_num 100 h qc 0 (cn0.toInt)) (pf_x_11 : ∀ j : Nat, (j : Int) < (h.2.1 x 11).toInt → h.2.2 qc j ≠ none) : Met l yX9_pay (Cond.code yX9_pay cX9_pay 5 (some .int) :: hx_all) ({ frames := 1, cells := 0, slots := 0, locals := 24 }) (va_Pc [.ref x, .int i1, .int i2, .int i3] (hx_B T_tb (P_ty dA) (dC, dI) vwCl L h sz)) (va_Qi (fun (r : Int32) (u : List Nat × hx_h) => (∃ (n1 : Int32) (pof1 : Nat → Int32) (pdf1 : Nat → Int32) (psm1 : Nat → Int32) (pkf1 : Nat → Int32) (pst1 : Nat → Int32), u.2.2.1 qy 0 = n1 ∧ u.2.2.1 pqo = pof1 ∧ u.2.2.1 pqd = pdf1 ∧ u.2.2.1 pqs = psm1 ∧ u.2.2.1 pqk = pkf1 ∧ u.2.2.1 pqt = pst1 ∧ (hz_PS (hz_PC n0.toInt cn0.toInt i1.toInt i2.toInt i3.toInt nw0.toInt (odf i1.toInt.toNat).toInt (svf i1.toInt.toNat).toInt) i1 i2 i3 nw0 n0 n1 r pof pof1 pdf pdf1 psm psm1 pkf pkf1 pst pst1)) ∧ hx_T T_tb u.1 u.2 ∧ hx_S T_tb [(3, 0), (22, 0), (23, 0), (24, 0), (25, 0), (26, 0)] L h u.1 u.2) (hx_E T_tb (P_ty dA) (dC, dI) vwCl (hx_A L sz)) (hx_A L sz)) 0 0 (hx_A L sz) := by
  refine hx_met (lv := [(0, .ref x), (1, .int i1), (2, .int i2), (3, .int i3)]) (by decide +kernel) rfl (Nat.le_of_ble_eq_true rfl) rfl ?_
  intro p e s m below meth c hx hb hml hr hlk hts0 hown hin hsz hW ls hl
  have hts : ∀ w ∈ hx_all, w.before _ s = true := fun w hw => hts0 w (List.mem_cons_of_mem _ hw)
  have hown : s.vm.findClass "SmallCourt" = some m.cls := hown
  have hM : hx_S T_tb [(3, 0), (22, 0), (23, 0), (24, 0), (25, 0), (26, 0)] L h L h := hx_S.rf
  have b_cn0 := hT.gi gx tt_9 (k := 11) rfl
  rw [f_x_11] at b_cn0
  have b_cn0 : 0 ≤ cn0.toInt ∧ cn0.toInt ≤ 100 := b_cn0
  have b_nw0 := hT.gi gx tt_9 (k := 2) rfl
  rw [f_x_2] at b_nw0
  have b_nw0 : 0 ≤ nw0.toInt ∧ nw0.toInt ≤ 7999 := b_nw0
  have b_n0 := hT.gi gqy tt_3 (k := 0) rfl
  rw [f_qy_0] at b_n0
  have b_n0 : 0 ≤ n0.toInt ∧ n0.toInt ≤ 600 := b_n0
  refine lv_aload_n hx hb dX9_pay_0 rfl (lv_at hl 0 rfl) ?_
  refine lv_iload_n hx hb dX9_pay_1 rfl (lv_at hl 1 rfl) ?_
  have hTo := hT
  refine hx_goq (hx_runV (As := [.int i1]) (rest := []) ⟨hx, hb, hml, hown, hts⟩ hW (gx.S hM) tt_9 (T := TX9) (N := 20) rfl (t_X9_claimAt_2 l dC dI dA L h s.heap.size x i1 hT (gx.S hM) cn0 ((hM.o gx trivial rfl).1.trans f_x_11) qc (gqc.S hM) ((hM.o gx trivial rfl).2.trans f_x_10) pf_x_11) (cwV 1 hts (hx_gV kw_810 kw_807 kw_809 kw_25 kw_94) rfl rfl rfl (by decide +kernel) ⟨Nat.le_of_ble_eq_true rfl, Nat.le_of_ble_eq_true rfl⟩) rfl hl.1 rfl (Nat.le_of_ble_eq_true rfl) dX9_pay_2 ⟨Nat.le_of_ble_eq_true rfl, Nat.le_of_ble_eq_true rfl⟩) hW (fun r_3 L_1 h_2 H locs p_4 hW => ?_)
  obtain ⟨hr_5, hT, hs⟩ := p_4
  replace hT : hx_T T_tb L_1 h_2 := hT
  replace hs : hx_S T_tb [] L h L_1 h_2 := hs
  replace f_qy_0 := (hs.o (gqy.S hM) trivial rfl).1.trans f_qy_0
  replace pf_x_11 : ∀ j : Nat, (j : Int) < (h_2.2.1 x 11).toInt → h_2.2.2 qc j ≠ none := by
    intro j hj; rw [(hs.o (gx.S hM) trivial rfl).1] at hj; rw [(hs.a (gqc.S hM) rfl j).2]; exact pf_x_11 j hj
  replace cl_qc_13 : hx_col 100 h_2 qc 13 = odf := (hx_col_S hs hTo (gqc.S hM) tt_45 tt_2 rfl rfl).trans cl_qc_13
  replace cl_qc_18 : hx_col 100 h_2 qc 18 = svf := (hx_col_S hs hTo (gqc.S hM) tt_45 tt_2 rfl rfl).trans cl_qc_18
  replace nu_qc : hx_num 100 h_2 qc 0 (cn0.toInt) := hx_num_S hs hTo (gqc.S hM) tt_45 tt_2 rfl rfl nu_qc
  replace af_pqo : h_2.2.1 pqo = pof := (funext fun j => (hs.a (gpqo.S hM) rfl j).1).trans af_pqo
  replace af_pqd : h_2.2.1 pqd = pdf := (funext fun j => (hs.a (gpqd.S hM) rfl j).1).trans af_pqd
  replace af_pqs : h_2.2.1 pqs = psm := (funext fun j => (hs.a (gpqs.S hM) rfl j).1).trans af_pqs
  replace af_pqk : h_2.2.1 pqk = pkf := (funext fun j => (hs.a (gpqk.S hM) rfl j).1).trans af_pqk
  replace af_pqt : h_2.2.1 pqt = pst := (funext fun j => (hs.a (gpqt.S hM) rfl j).1).trans af_pqt
  replace hM := hM.tr (hs.mono ?o0)
  case o0 => decide
  obtain ⟨hr_5, hr_5B⟩ := hr_5
  have hr_5 : ∀ q, r_3 = some q → hx_g L_1 h_2 q 2 := hr_5
  rcases r_3 with _ | q_6
  · skip
    have k_7 : i1.toInt < 0 ∨ cn0.toInt ≤ i1.toInt := by
      rcases hr_5B with ⟨_, z⟩ | ⟨_, _, q, z, _⟩
      · exact z
      · cases z
    refine lv_astoreN (lv' := [(4, .null), (0, .ref x), (1, .int i1), (2, .int i2), (3, .int i3)]) hx hb dX9_pay_5 hl ?o1 rfl (fun ls hl => ?_)
    case o1 => decide
    refine lv_aload_n hx hb dX9_pay_7 rfl (lv_at hl 1 rfl) ?_
    refine hk_getr hx hb hts hC_9 hown hW (gx.S hM) tt_9 14 ?o2 rfl kw_378 ⟨rfl, rfl, rfl⟩ ((hM.o gx trivial rfl).2.trans f_x_14) dX9_pay_8 ?_
    case o2 => decide
    refine hk_geti hx hb hts hC_3 hown hW (gqy.S hM) tt_3 0 ?o3 rfl kw_232 ⟨rfl, rfl, rfl⟩ f_qy_0 dX9_pay_11 ?_
    case o3 => decide
    refine lv_sipush (v := 600) hx hb dX9_pay_14 ?o4 ?_
    case o4 => decide
    refine hb_icmp_ge (zx := n0.toInt) (zy := 600) (tgt := 70) hx hb rfl ?o5 dX9_pay_17 ?o6 (fun c_8 => ?_) (fun c_8 => ?_)
    case o5 => decide
    case o6 => decide
    · skip
      refine lv_iconst (v := -1) hx hb dX9_pay_70 ?o7 ?_
      case o7 => decide
      refine hx_reti hx hb hr hlk hW ⟨⟨n0, pof, pdf, psm, pkf, pst, f_qy_0, af_pqo, af_pqd, af_pqs, af_pqk, af_pqt, (Or.inl ⟨(fun hc => by have h1 := hc.1; omega), ?o8, rfl, rfl, rfl, rfl, rfl, rfl⟩)⟩, hT, hM⟩ dX9_pay_71
      case o8 => decide
    · skip
      refine lv_aloadN hx hb dX9_pay_20 (lv_at hl 0 rfl) ?_
      refine lv_ifnullN (tgt := 70) hx hb dX9_pay_22 ?o9 ?_
      case o9 => decide
      refine lv_iconst (v := -1) hx hb dX9_pay_70 ?o10 ?_
      case o10 => decide
      refine hx_reti hx hb hr hlk hW ⟨⟨n0, pof, pdf, psm, pkf, pst, f_qy_0, af_pqo, af_pqd, af_pqs, af_pqk, af_pqt, (Or.inl ⟨(fun hc => by have h1 := hc.2.1; omega), ?o11, rfl, rfl, rfl, rfl, rfl, rfl⟩)⟩, hT, hM⟩ dX9_pay_71
      case o11 => decide
  · have gq_6 := hr_5 _ rfl
    have k_9 : 0 ≤ i1.toInt ∧ i1.toInt < cn0.toInt ∧ h_2.2.2 qc i1.toNatClampNeg = some q_6 := by
      rcases hr_5B with ⟨z, _⟩ | ⟨z1, z2, q, z3, z4⟩
      · cases z
      · cases z3; exact ⟨z1, z2, z4⟩
    have fo_10 := k_9.2.2
    have k_9 : 0 ≤ i1.toInt ∧ i1.toInt < cn0.toInt := ⟨k_9.1, k_9.2.1⟩
    refine lv_astore (lv' := [(4, .ref q_6), (0, .ref x), (1, .int i1), (2, .int i2), (3, .int i3)]) hx hb dX9_pay_5 hl ?o12 rfl (fun ls hl => ?_)
    case o12 => decide
    refine lv_aload_n hx hb dX9_pay_7 rfl (lv_at hl 1 rfl) ?_
    refine hk_getr hx hb hts hC_9 hown hW (gx.S hM) tt_9 14 ?o13 rfl kw_378 ⟨rfl, rfl, rfl⟩ ((hM.o gx trivial rfl).2.trans f_x_14) dX9_pay_8 ?_
    case o13 => decide
    refine hk_geti hx hb hts hC_3 hown hW (gqy.S hM) tt_3 0 ?o14 rfl kw_232 ⟨rfl, rfl, rfl⟩ f_qy_0 dX9_pay_11 ?_
    case o14 => decide
    refine lv_sipush (v := 600) hx hb dX9_pay_14 ?o15 ?_
    case o15 => decide
    refine hb_icmp_ge (zx := n0.toInt) (zy := 600) (tgt := 70) hx hb rfl ?o16 dX9_pay_17 ?o17 (fun c_11 => ?_) (fun c_11 => ?_)
    case o16 => decide
    case o17 => decide
    · skip
      refine lv_iconst (v := -1) hx hb dX9_pay_70 ?o18 ?_
      case o18 => decide
      refine hx_reti hx hb hr hlk hW ⟨⟨n0, pof, pdf, psm, pkf, pst, f_qy_0, af_pqo, af_pqd, af_pqs, af_pqk, af_pqt, (Or.inl ⟨(fun hc => by have h1 := hc.1; omega), ?o19, rfl, rfl, rfl, rfl, rfl, rfl⟩)⟩, hT, hM⟩ dX9_pay_71
      case o19 => decide
    · skip
      refine lv_aload hx hb dX9_pay_20 (lv_at hl 0 rfl) ?_
      refine lv_ifnull hx hb dX9_pay_22 ?_
      refine lv_aload hx hb dX9_pay_25 (lv_at hl 0 rfl) ?_
      refine hx_geti hx hb hts hC_2 hown hW hT gq_6 tt_2 13 ?o20 rfl kw_753 ⟨rfl, rfl, rfl⟩ dX9_pay_27 (fun x_12 ex_12 lx_12 ux_12 => ?_)
      case o20 => decide
      have fx_12 := ex_12.symm
      have cx_12 : x_12 = odf i1.toNatClampNeg := ?o21
      case o21 =>
        rw [ex_12, ← cl_qc_13]
        exact (hx_col_at fo_10 (by unfold Int32.toNatClampNeg; omega)).symm
      refine lv_iconst (v := -1) hx hb dX9_pay_30 ?o22 ?_
      case o22 => decide
      refine hb_icmp_eq (zx := x_12.toInt) (zy := (-1)) (tgt := 70) hx hb rfl ?o23 dX9_pay_31 ?o24 (fun c_13 => ?_) (fun c_13 => ?_)
      case o23 => decide
      case o24 => decide
      · skip
        refine lv_iconst (v := -1) hx hb dX9_pay_70 ?o25 ?_
        case o25 => decide
        refine hx_reti hx hb hr hlk hW ⟨⟨n0, pof, pdf, psm, pkf, pst, f_qy_0, af_pqo, af_pqd, af_pqs, af_pqk, af_pqt, (Or.inl ⟨(fun hc => by have h1 := hc.2.2.1; rw [show odf i1.toInt.toNat = x_12 from cx_12.symm] at h1; omega), ?o26, rfl, rfl, rfl, rfl, rfl, rfl⟩)⟩, hT, hM⟩ dX9_pay_71
        case o26 => decide
      · skip
        refine lv_aload hx hb dX9_pay_34 (lv_at hl 0 rfl) ?_
        refine hx_geti hx hb hts hC_2 hown hW hT gq_6 tt_2 18 ?o27 rfl kw_763 ⟨rfl, rfl, rfl⟩ dX9_pay_36 (fun x_14 ex_14 lx_14 ux_14 => ?_)
        case o27 => decide
        have fx_14 := ex_14.symm
        have cx_14 : x_14 = svf i1.toNatClampNeg := ?o28
        case o28 =>
          rw [ex_14, ← cl_qc_18]
          exact (hx_col_at fo_10 (by unfold Int32.toNatClampNeg; omega)).symm
        refine lv_iconst (v := -1) hx hb dX9_pay_39 ?o29 ?_
        case o29 => decide
        refine hb_icmp_ne (zx := x_14.toInt) (zy := (-1)) (tgt := 70) hx hb rfl ?o30 dX9_pay_40 ?o31 (fun c_15 => ?_) (fun c_15 => ?_)
        case o30 => decide
        case o31 => decide
        · skip
          refine lv_iconst (v := -1) hx hb dX9_pay_70 ?o32 ?_
          case o32 => decide
          refine hx_reti hx hb hr hlk hW ⟨⟨n0, pof, pdf, psm, pkf, pst, f_qy_0, af_pqo, af_pqd, af_pqs, af_pqk, af_pqt, (Or.inl ⟨(fun hc => by have h1 := hc.2.2.2.1; rw [show svf i1.toInt.toNat = x_14 from cx_14.symm] at h1; omega), ?o33, rfl, rfl, rfl, rfl, rfl, rfl⟩)⟩, hT, hM⟩ dX9_pay_71
          case o33 => decide
        · skip
          refine lv_iload_n hx hb dX9_pay_43 rfl (lv_at hl 3 rfl) ?_
          refine lv_aload hx hb dX9_pay_44 (lv_at hl 0 rfl) ?_
          refine hk_geti hx hb hts hC_2 hown hW gq_6 tt_2 13 ?o34 rfl kw_753 ⟨rfl, rfl, rfl⟩ fx_12 dX9_pay_46 ?_
          case o34 => decide
          refine lv_aload_n hx hb dX9_pay_49 rfl (lv_at hl 1 rfl) ?_
          refine hk_geti hx hb hts hC_9 hown hW (gx.S hM) tt_9 2 ?o35 rfl kw_366 ⟨rfl, rfl, rfl⟩ ((hM.o gx trivial rfl).1.trans f_x_2) dX9_pay_50 ?_
          case o35 => decide
          have hTo := hT
          refine hx_goi (hx_runS (As := [.int i2, .int x_12, .int nw0]) (rest := []) ⟨hx, hb, hml, hown, hts⟩ hW (t_X9_isWithin_2 l dC dI dA L_1 h_2 H.size i2 x_12 nw0 hT) (va_cwS 3 hts (hx_gS kw_434 kw_432 kw_433 kw_94) rfl rfl rfl (by decide +kernel) ⟨Nat.le_of_ble_eq_true rfl, Nat.le_of_ble_eq_true rfl⟩) rfl hl.1 rfl (Nat.le_of_ble_eq_true rfl) dX9_pay_53 ⟨Nat.le_of_ble_eq_true rfl, Nat.le_of_ble_eq_true rfl⟩) hW (fun r_18 L_16 h_17 H locs p_19 hW => ?_)
          obtain ⟨hr_20, hT, hs⟩ := p_19
          replace hT : hx_T T_tb L_16 h_17 := hT
          replace hs : hx_S T_tb [] L_1 h_2 L_16 h_17 := hs
          replace f_qy_0 := (hs.o (gqy.S hM) trivial rfl).1.trans f_qy_0
          replace fx_12 := (hs.o gq_6 trivial rfl).1.trans fx_12
          replace fx_14 := (hs.o gq_6 trivial rfl).1.trans fx_14
          replace pf_x_11 : ∀ j : Nat, (j : Int) < (h_17.2.1 x 11).toInt → h_17.2.2 qc j ≠ none := by
            intro j hj; rw [(hs.o (gx.S hM) trivial rfl).1] at hj; rw [(hs.a (gqc.S hM) rfl j).2]; exact pf_x_11 j hj
          replace cl_qc_13 : hx_col 100 h_17 qc 13 = odf := (hx_col_S hs hTo (gqc.S hM) tt_45 tt_2 rfl rfl).trans cl_qc_13
          replace cl_qc_18 : hx_col 100 h_17 qc 18 = svf := (hx_col_S hs hTo (gqc.S hM) tt_45 tt_2 rfl rfl).trans cl_qc_18
          replace nu_qc : hx_num 100 h_17 qc 0 (cn0.toInt) := hx_num_S hs hTo (gqc.S hM) tt_45 tt_2 rfl rfl nu_qc
          replace fo_10 := (hs.a (gqc.S hM) rfl _).2.trans fo_10
          replace af_pqo : h_17.2.1 pqo = pof := (funext fun j => (hs.a (gpqo.S hM) rfl j).1).trans af_pqo
          replace af_pqd : h_17.2.1 pqd = pdf := (funext fun j => (hs.a (gpqd.S hM) rfl j).1).trans af_pqd
          replace af_pqs : h_17.2.1 pqs = psm := (funext fun j => (hs.a (gpqs.S hM) rfl j).1).trans af_pqs
          replace af_pqk : h_17.2.1 pqk = pkf := (funext fun j => (hs.a (gpqk.S hM) rfl j).1).trans af_pqk
          replace af_pqt : h_17.2.1 pqt = pst := (funext fun j => (hs.a (gpqt.S hM) rfl j).1).trans af_pqt
          replace hM := hM.tr (hs.mono ?o36)
          case o36 => decide
          replace gq_6 := gq_6.S hs
          refine hb_if_eq (zx := r_18.toInt) (tgt := 70) hx hb rfl dX9_pay_56 ?o37 (fun c_21 => ?_) (fun c_21 => ?_)
          case o37 => decide
          · skip
            replace hr_20 := hr_20.resolve_right (fun z9 => absurd (c_21.symm.trans z9.1) ?o38)
            case o38 => decide
            replace hr_20 := hr_20.2
            refine lv_iconst (v := -1) hx hb dX9_pay_70 ?o39 ?_
            case o39 => decide
            refine hx_reti hx hb hr hlk hW ⟨⟨n0, pof, pdf, psm, pkf, pst, f_qy_0, af_pqo, af_pqd, af_pqs, af_pqk, af_pqt, (Or.inl ⟨(fun hc => by have h1 := hc.2.2.2.2.1; rw [show odf i1.toInt.toNat = x_12 from cx_12.symm] at h1; omega), ?o40, rfl, rfl, rfl, rfl, rfl, rfl⟩)⟩, hT, hM⟩ dX9_pay_71
            case o40 => decide
          · skip
            replace hr_20 := hr_20.resolve_left (fun z9 => c_21 z9.1)
            replace c_21 := hr_20.1
            replace hr_20 := hr_20.2
            refine lv_iload_n hx hb dX9_pay_59 rfl (lv_at hl 4 rfl) ?_
            refine lv_iconst (v := 1) hx hb dX9_pay_60 ?o41 ?_
            case o41 => decide
            refine lv_sipush (v := 9999) hx hb dX9_pay_61 ?o42 ?_
            case o42 => decide
            have hTo := hT
            have zc_9999 : (9999 : Int32).toInt = 9999 := ?o43
            case o43 => decide
            have zc_1 : (1 : Int32).toInt = 1 := ?o44
            case o44 => decide
            refine hx_goi (hx_runS (As := [.int i3, .int (1 : Int32), .int (9999 : Int32)]) (rest := []) ⟨hx, hb, hml, hown, hts⟩ hW (t_X9_isWithin_2 l dC dI dA L_16 h_17 H.size i3 (1 : Int32) (9999 : Int32) hT) (va_cwS 3 hts (hx_gS kw_434 kw_432 kw_433 kw_94) rfl rfl rfl (by decide +kernel) ⟨Nat.le_of_ble_eq_true rfl, Nat.le_of_ble_eq_true rfl⟩) rfl hl.1 rfl (Nat.le_of_ble_eq_true rfl) dX9_pay_64 ⟨Nat.le_of_ble_eq_true rfl, Nat.le_of_ble_eq_true rfl⟩) hW (fun r_24 L_22 h_23 H locs p_25 hW => ?_)
            obtain ⟨hr_26, hT, hs⟩ := p_25
            replace hT : hx_T T_tb L_22 h_23 := hT
            replace hs : hx_S T_tb [] L_16 h_17 L_22 h_23 := hs
            replace f_qy_0 := (hs.o (gqy.S hM) trivial rfl).1.trans f_qy_0
            replace fx_12 := (hs.o gq_6 trivial rfl).1.trans fx_12
            replace fx_14 := (hs.o gq_6 trivial rfl).1.trans fx_14
            replace pf_x_11 : ∀ j : Nat, (j : Int) < (h_23.2.1 x 11).toInt → h_23.2.2 qc j ≠ none := by
              intro j hj; rw [(hs.o (gx.S hM) trivial rfl).1] at hj; rw [(hs.a (gqc.S hM) rfl j).2]; exact pf_x_11 j hj
            replace cl_qc_13 : hx_col 100 h_23 qc 13 = odf := (hx_col_S hs hTo (gqc.S hM) tt_45 tt_2 rfl rfl).trans cl_qc_13
            replace cl_qc_18 : hx_col 100 h_23 qc 18 = svf := (hx_col_S hs hTo (gqc.S hM) tt_45 tt_2 rfl rfl).trans cl_qc_18
            replace nu_qc : hx_num 100 h_23 qc 0 (cn0.toInt) := hx_num_S hs hTo (gqc.S hM) tt_45 tt_2 rfl rfl nu_qc
            replace fo_10 := (hs.a (gqc.S hM) rfl _).2.trans fo_10
            replace af_pqo : h_23.2.1 pqo = pof := (funext fun j => (hs.a (gpqo.S hM) rfl j).1).trans af_pqo
            replace af_pqd : h_23.2.1 pqd = pdf := (funext fun j => (hs.a (gpqd.S hM) rfl j).1).trans af_pqd
            replace af_pqs : h_23.2.1 pqs = psm := (funext fun j => (hs.a (gpqs.S hM) rfl j).1).trans af_pqs
            replace af_pqk : h_23.2.1 pqk = pkf := (funext fun j => (hs.a (gpqk.S hM) rfl j).1).trans af_pqk
            replace af_pqt : h_23.2.1 pqt = pst := (funext fun j => (hs.a (gpqt.S hM) rfl j).1).trans af_pqt
            replace hM := hM.tr (hs.mono ?o45)
            case o45 => decide
            replace gq_6 := gq_6.S hs
            refine hb_if_ne (zx := r_24.toInt) (tgt := 72) hx hb rfl dX9_pay_67 ?o46 (fun c_27 => ?_) (fun c_27 => ?_)
            case o46 => decide
            · skip
              replace hr_26 := hr_26.resolve_left (fun z9 => c_27 z9.1)
              replace c_27 := hr_26.1
              replace hr_26 := hr_26.2
              refine lv_aload_n hx hb dX9_pay_72 rfl (lv_at hl 1 rfl) ?_
              refine hk_getr hx hb hts hC_9 hown hW (gx.S hM) tt_9 14 ?o47 rfl kw_378 ⟨rfl, rfl, rfl⟩ ((hM.o gx trivial rfl).2.trans f_x_14) dX9_pay_73 ?_
              case o47 => decide
              refine lv_iload_n hx hb dX9_pay_76 rfl (lv_at hl 2 rfl) ?_
              refine lv_iload_n hx hb dX9_pay_77 rfl (lv_at hl 3 rfl) ?_
              refine lv_aload_n hx hb dX9_pay_78 rfl (lv_at hl 1 rfl) ?_
              refine hk_geti hx hb hts hC_9 hown hW (gx.S hM) tt_9 2 ?o48 rfl kw_366 ⟨rfl, rfl, rfl⟩ ((hM.o gx trivial rfl).1.trans f_x_2) dX9_pay_79 ?_
              case o48 => decide
              refine lv_iload_n hx hb dX9_pay_82 rfl (lv_at hl 4 rfl) ?_
              have hTo := hT
              refine hx_goi (hx_runV (As := [.int i1, .int i2, .int nw0, .int i3]) (rest := []) ⟨hx, hb, hml, hown, hts⟩ hW (gqy.S hM) tt_3 (T := TX3) (N := 6) rfl (t_X3_addPayment_v l dC dI dA L_22 h_23 H.size qy i1 i2 nw0 i3 hT (gqy.S hM) pqo (gpqo.S hM) ((hM.o gqy trivial rfl).2.trans f_qy_2) pqd (gpqd.S hM) ((hM.o gqy trivial rfl).2.trans f_qy_3) pqs (gpqs.S hM) ((hM.o gqy trivial rfl).2.trans f_qy_5) pqk (gpqk.S hM) ((hM.o gqy trivial rfl).2.trans f_qy_4) pqt (gpqt.S hM) ((hM.o gqy trivial rfl).2.trans f_qy_1) pof af_pqo pdf af_pqd psm af_pqs pkf af_pqk pst af_pqt n0 f_qy_0 ?o49) (cwV 4 hts (hx_gV kw_895 kw_892 kw_893 kw_894 kw_99) rfl rfl rfl (by decide +kernel) ⟨Nat.le_of_ble_eq_true rfl, Nat.le_of_ble_eq_true rfl⟩) rfl hl.1 rfl (Nat.le_of_ble_eq_true rfl) dX9_pay_83 ⟨Nat.le_of_ble_eq_true rfl, Nat.le_of_ble_eq_true rfl⟩) hW (fun r_30 L_28 h_29 H locs p_31 hW => ?_)
              case o49 => omega
              obtain ⟨⟨w_33, w_34, w_35, w_36, w_37, w_38, fw_33, fw_34, fw_35, fw_36, fw_37, fw_38, hr_32⟩, hT, hs⟩ := p_31
              replace hT : hx_T T_tb L_28 h_29 := hT
              replace hs : hx_S T_tb [(3, 0), (22, 0), (23, 0), (24, 0), (25, 0), (26, 0)] L_22 h_23 L_28 h_29 := hs
              replace fx_12 := (hs.o gq_6 trivial rfl).1.trans fx_12
              replace fx_14 := (hs.o gq_6 trivial rfl).1.trans fx_14
              replace pf_x_11 : ∀ j : Nat, (j : Int) < (h_29.2.1 x 11).toInt → h_29.2.2 qc j ≠ none := by
                intro j hj; rw [(hs.o (gx.S hM) trivial rfl).1] at hj; rw [(hs.a (gqc.S hM) rfl j).2]; exact pf_x_11 j hj
              replace cl_qc_13 : hx_col 100 h_29 qc 13 = odf := (hx_col_S hs hTo (gqc.S hM) tt_45 tt_2 rfl rfl).trans cl_qc_13
              replace cl_qc_18 : hx_col 100 h_29 qc 18 = svf := (hx_col_S hs hTo (gqc.S hM) tt_45 tt_2 rfl rfl).trans cl_qc_18
              replace nu_qc : hx_num 100 h_29 qc 0 (cn0.toInt) := hx_num_S hs hTo (gqc.S hM) tt_45 tt_2 rfl rfl nu_qc
              replace fo_10 := (hs.a (gqc.S hM) rfl _).2.trans fo_10
              replace hM := hM.tr (hs.mono ?o50)
              case o50 => decide
              replace gq_6 := gq_6.S hs
              have fw_33 : h_29.2.1 qy 0 = w_33 := fw_33
              have bw_33 := hT.gi (gqy.S hM) tt_3 (k := 0) rfl
              rw [fw_33] at bw_33
              have bw_33 : 0 ≤ w_33.toInt ∧ w_33.toInt ≤ 600 := bw_33
              have fw_34 : h_29.2.1 pqo = w_34 := fw_34
              have fw_35 : h_29.2.1 pqd = w_35 := fw_35
              have fw_36 : h_29.2.1 pqs = w_36 := fw_36
              have fw_37 : h_29.2.1 pqk = w_37 := fw_37
              have fw_38 : h_29.2.1 pqt = w_38 := fw_38
              refine hx_reti hx hb hr hlk hW ⟨⟨w_33, w_34, w_35, w_36, w_37, w_38, fw_33, fw_34, fw_35, fw_36, fw_37, fw_38, (Or.inr ⟨⟨?o51, ⟨?o52, ?o53⟩, (by rw [show odf i1.toInt.toNat = x_12 from cx_12.symm]; omega), (by rw [show svf i1.toInt.toNat = x_14 from cx_14.symm]; omega), (by rw [show odf i1.toInt.toNat = x_12 from cx_12.symm]; omega), ?o54⟩, hr_32.1, hr_32.2.1, hr_32.2.2⟩)⟩, hT, hM⟩ dX9_pay_86
              case o51 => omega
              case o52 => omega
              case o53 => omega
              case o54 => omega
            · skip
              replace hr_26 := hr_26.resolve_right (fun z9 => absurd (c_27.symm.trans z9.1) ?o55)
              case o55 => decide
              replace hr_26 := hr_26.2
              refine lv_iconst (v := -1) hx hb dX9_pay_70 ?o56 ?_
              case o56 => decide
              refine hx_reti hx hb hr hlk hW ⟨⟨n0, pof, pdf, psm, pkf, pst, f_qy_0, af_pqo, af_pqd, af_pqs, af_pqk, af_pqt, (Or.inl ⟨(fun hc => by have h1 := hc.2.2.2.2.2; omega), ?o57, rfl, rfl, rfl, rfl, rfl, rfl⟩)⟩, hT, hM⟩ dX9_pay_71
              case o57 => decide


set_option maxHeartbeats 4000000 in
set_option maxRecDepth 100000 in
theorem t_X9_strike_v (l : Launch) (dC : Nat → ClassId) (dI : Nat → Nat → Nat) (dA : Nat → ClassId) (L : List Nat) (h : hx_h) (sz : Nat) (x : Nat) (i1 : Int32) (hT : hx_T T_tb L h) (gx : hx_g L h x 9) (qy : Nat) (gqy : hx_g L h qy 3) (f_x_14 : h.2.2 x 14 = some qy) (pqt : Nat) (gpqt : hx_g L h pqt 22) (f_qy_1 : h.2.2 qy 1 = some pqt) (pst : Nat → Int32) (af_pqt : h.2.1 pqt = pst) (nw0 : Int32) (f_x_2 : h.2.1 x 2 = nw0) (n0 : Int32) (f_qy_0 : h.2.1 qy 0 = n0) : Met l yX9_strike (Cond.code yX9_strike cX9_strike 2 (some .boolean) :: hx_all) ({ frames := 0, cells := 0, slots := 0, locals := 0 }) (va_Pc [.ref x, .int i1] (hx_B T_tb (P_ty dA) (dC, dI) vwCl L h sz)) (va_Qi (fun (r : Int32) (u : List Nat × hx_h) => (∃ (pst1 : Nat → Int32), u.2.2.1 pqt = pst1 ∧ (hz_KS n0.toInt i1.toInt nw0 r pst pst1)) ∧ hx_T T_tb u.1 u.2 ∧ hx_S T_tb [(22, 0)] L h u.1 u.2) (hx_E T_tb (P_ty dA) (dC, dI) vwCl (hx_A L sz)) (hx_A L sz)) 0 0 (hx_A L sz) := by
  refine hx_met (lv := [(0, .ref x), (1, .int i1)]) (by decide +kernel) rfl (Nat.le_of_ble_eq_true rfl) rfl ?_
  intro p e s m below meth c hx hb hml hr hlk hts0 hown hin hsz hW ls hl
  have hts : ∀ w ∈ hx_all, w.before _ s = true := fun w hw => hts0 w (List.mem_cons_of_mem _ hw)
  have hown : s.vm.findClass "SmallCourt" = some m.cls := hown
  have hM : hx_S T_tb [(22, 0)] L h L h := hx_S.rf
  have b_nw0 := hT.gi gx tt_9 (k := 2) rfl
  rw [f_x_2] at b_nw0
  have b_nw0 : 0 ≤ nw0.toInt ∧ nw0.toInt ≤ 7999 := b_nw0
  have b_n0 := hT.gi gqy tt_3 (k := 0) rfl
  rw [f_qy_0] at b_n0
  have b_n0 : 0 ≤ n0.toInt ∧ n0.toInt ≤ 600 := b_n0
  refine lv_iload_n hx hb dX9_strike_0 rfl (lv_at hl 1 rfl) ?_
  refine hb_if_lt (zx := i1.toInt) (tgt := 28) hx hb rfl dX9_strike_1 ?o0 (fun c_1 => ?_) (fun c_1 => ?_)
  case o0 => decide
  · skip
    refine lv_iconst (v := 0) hx hb dX9_strike_28 ?o1 ?_
    case o1 => decide
    refine hx_retz hx hb hr rfl hlk hW ⟨⟨pst, af_pqt, (Or.inl ⟨(fun hc => by have h1 := hc.1; omega), ?o2, rfl⟩)⟩, hT, hM⟩ dX9_strike_29
    case o2 => decide
  · skip
    refine lv_iload_n hx hb dX9_strike_4 rfl (lv_at hl 1 rfl) ?_
    refine lv_aload_n hx hb dX9_strike_5 rfl (lv_at hl 0 rfl) ?_
    refine hk_getr hx hb hts hC_9 hown hW (gx.S hM) tt_9 14 ?o3 rfl kw_378 ⟨rfl, rfl, rfl⟩ ((hM.o gx trivial rfl).2.trans f_x_14) dX9_strike_6 ?_
    case o3 => decide
    refine hk_geti hx hb hts hC_3 hown hW (gqy.S hM) tt_3 0 ?o4 rfl kw_232 ⟨rfl, rfl, rfl⟩ ((hM.o gqy trivial rfl).1.trans f_qy_0) dX9_strike_9 ?_
    case o4 => decide
    refine hb_icmp_ge (zx := i1.toInt) (zy := n0.toInt) (tgt := 28) hx hb rfl rfl dX9_strike_12 ?o5 (fun c_2 => ?_) (fun c_2 => ?_)
    case o5 => decide
    · skip
      refine lv_iconst (v := 0) hx hb dX9_strike_28 ?o6 ?_
      case o6 => decide
      refine hx_retz hx hb hr rfl hlk hW ⟨⟨pst, af_pqt, (Or.inl ⟨(fun hc => by have h1 := hc.1; omega), ?o7, rfl⟩)⟩, hT, hM⟩ dX9_strike_29
      case o7 => decide
    · skip
      refine lv_aload_n hx hb dX9_strike_15 rfl (lv_at hl 0 rfl) ?_
      refine hk_getr hx hb hts hC_9 hown hW (gx.S hM) tt_9 14 ?o8 rfl kw_378 ⟨rfl, rfl, rfl⟩ ((hM.o gx trivial rfl).2.trans f_x_14) dX9_strike_16 ?_
      case o8 => decide
      refine hk_getr hx hb hts hC_3 hown hW (gqy.S hM) tt_3 1 ?o9 rfl kw_234 ⟨rfl, rfl, rfl⟩ ((hM.o gqy trivial rfl).2.trans f_qy_1) dX9_strike_19 ?_
      case o9 => decide
      refine lv_iload_n hx hb dX9_strike_22 rfl (lv_at hl 1 rfl) ?_
      refine hx_iald hx hb hW hT (gpqt.S hM) tt_22 rfl ⟨?o10, ?o11⟩ dX9_strike_23 (fun x_3 ex_3 lx_3 ux_3 => ?_)
      case o10 => omega
      case o11 => omega
      have ax_3 : x_3 = pst i1.toNatClampNeg := ex_3.trans (congrFun af_pqt _)
      refine lv_iconst (v := -1) hx hb dX9_strike_24 ?o12 ?_
      case o12 => decide
      refine hb_icmp_eq (zx := x_3.toInt) (zy := (-1)) (tgt := 30) hx hb rfl ?o13 dX9_strike_25 ?o14 (fun c_4 => ?_) (fun c_4 => ?_)
      case o13 => decide
      case o14 => decide
      · skip
        refine lv_aload_n hx hb dX9_strike_30 rfl (lv_at hl 0 rfl) ?_
        refine hk_getr hx hb hts hC_9 hown hW (gx.S hM) tt_9 14 ?o15 rfl kw_378 ⟨rfl, rfl, rfl⟩ ((hM.o gx trivial rfl).2.trans f_x_14) dX9_strike_31 ?_
        case o15 => decide
        refine hk_getr hx hb hts hC_3 hown hW (gqy.S hM) tt_3 1 ?o16 rfl kw_234 ⟨rfl, rfl, rfl⟩ ((hM.o gqy trivial rfl).2.trans f_qy_1) dX9_strike_34 ?_
        case o16 => decide
        refine lv_iload_n hx hb dX9_strike_37 rfl (lv_at hl 1 rfl) ?_
        refine lv_aload_n hx hb dX9_strike_38 rfl (lv_at hl 0 rfl) ?_
        refine hk_geti hx hb hts hC_9 hown hW (gx.S hM) tt_9 2 ?o17 rfl kw_366 ⟨rfl, rfl, rfl⟩ ((hM.o gx trivial rfl).1.trans f_x_2) dX9_strike_39 ?_
        case o17 => decide
        have af_pqtO := af_pqt
        refine hx_iast hx hb hW hT (hx_S.rf (M := [(22, 0)])) (gpqt.S hM) tt_22 rfl ⟨?o18, ?o19⟩ rfl (i32_r _) (List.mem_singleton.mpr rfl) dX9_strike_42 (fun H locs h_5 eh_5 hW hT hs => ?_)
        case o18 => omega
        case o19 => omega
        replace hM := hM.tr (hs.mono ?o20)
        case o20 => decide
        obtain ⟨fa_6, dfa_6⟩ : ∃ g : Nat → Int32, g = hx_up pst i1.toNatClampNeg nw0 := ⟨_, rfl⟩
        have nfa_6 : h_5.2.1 pqt = fa_6 := ?o21
        case o21 =>
          rw [eh_5, dfa_6, ← af_pqtO]
          exact hx_pi_fun _ _ _ _
        refine lv_iconst (v := 1) hx hb dX9_strike_43 ?o22 ?_
        case o22 => decide
        refine hx_retz hx hb hr rfl hlk hW ⟨⟨fa_6, nfa_6, (Or.inr ⟨⟨⟨?o23, ?o24⟩, (by rw [show pst i1.toInt.toNat = x_3 from ax_3.symm]; omega)⟩, ?o25, dfa_6⟩)⟩, hT, hM⟩ dX9_strike_44
        case o23 => omega
        case o24 => omega
        case o25 => decide
      · skip
        refine lv_iconst (v := 0) hx hb dX9_strike_28 ?o26 ?_
        case o26 => decide
        refine hx_retz hx hb hr rfl hlk hW ⟨⟨pst, af_pqt, (Or.inl ⟨(fun hc => by have h1 := hc.2; rw [show pst i1.toInt.toNat = x_3 from ax_3.symm] at h1; omega), ?o27, rfl⟩)⟩, hT, hM⟩ dX9_strike_29
        case o27 => decide


set_option maxHeartbeats 4000000 in
set_option maxRecDepth 100000 in
theorem t_X9_seize_v (l : Launch) (dC : Nat → ClassId) (dI : Nat → Nat → Nat) (dA : Nat → ClassId) (L : List Nat) (h : hx_h) (sz : Nat) (b0 : hx_z) (x : Nat) (i1 : Int32) (i2 : Int32) (hT : hx_T T_tb L h) (gx : hx_g L h x 9) (qc : Nat) (gqc : hx_g L h qc 45) (f_x_10 : h.2.2 x 10 = some qc) (qy : Nat) (gqy : hx_g L h qy 3) (f_x_14 : h.2.2 x 14 = some qy) (pqo : Nat) (gpqo : hx_g L h pqo 23) (f_qy_2 : h.2.2 qy 2 = some pqo) (pqd : Nat) (gpqd : hx_g L h pqd 24) (f_qy_3 : h.2.2 qy 3 = some pqd) (pqs : Nat) (gpqs : hx_g L h pqs 26) (f_qy_5 : h.2.2 qy 5 = some pqs) (pqk : Nat) (gpqk : hx_g L h pqk 25) (f_qy_4 : h.2.2 qy 4 = some pqk) (pqt : Nat) (gpqt : hx_g L h pqt 22) (f_qy_1 : h.2.2 qy 1 = some pqt) (pof : Nat → Int32) (af_pqo : h.2.1 pqo = pof) (pdf : Nat → Int32) (af_pqd : h.2.1 pqd = pdf) (psm : Nat → Int32) (af_pqs : h.2.1 pqs = psm) (pkf : Nat → Int32) (af_pqk : h.2.1 pqk = pkf) (pst : Nat → Int32) (af_pqt : h.2.1 pqt = pst) (cn0 : Int32) (f_x_11 : h.2.1 x 11 = cn0) (nw0 : Int32) (f_x_2 : h.2.1 x 2 = nw0) (n0 : Int32) (f_qy_0 : h.2.1 qy 0 = n0) (odf : Nat → Int32) (cl_qc_13 : hx_col 100 h qc 13 = odf) (wkf : Nat → Int32) (cl_qc_14 : hx_col 100 h qc 14 = wkf) (owf : Nat → Int32) (cl_qc_15 : hx_col 100 h qc 15 = owf) (szf : Nat → Int32) (cl_qc_16 : hx_col 100 h qc 16 = szf) (gdf : Nat → Int32) (cl_qc_17 : hx_col 100 h qc 17 = gdf) (svf : Nat → Int32) (cl_qc_18 : hx_col 100 h qc 18 = svf) (fof : Nat → Int32) (cl_qc_10 : hx_col 100 h qc 10 = fof) (hrf : Nat → Int32) (cl_qc_11 : hx_col 100 h qc 11 = hrf) (udf : Nat → Int32) (cl_qc_12 : hx_col 100 h qc 12 = udf) (nu_qc : hx_num 100 h qc 0 (cn0.toInt)) (plf : Nat → Int32) (A : Nat → hv_act) (hAC : hv_AC h qc plf cn0.toInt A) (hAB : ∀ j : Nat, (∀ k, 0 ≤ (A j).2.1 k ∧ (A j).2.1 k ≤ 9999) ∧ hv_OK (A j).2.2) (hCB : hz_CB odf wkf owf szf gdf svf) (hps : ∀ j, j < 600 → 0 ≤ (psm j).toInt ∧ (psm j).toInt ≤ 610000) (pf_x_11 : ∀ j : Nat, (j : Int) < (h.2.1 x 11).toInt → h.2.2 qc j ≠ none) : Met l yX9_seize (Cond.code yX9_seize cX9_seize 5 (some .int) :: hx_all) ({ frames := 5, cells := 0, slots := 0, locals := 120 }) (va_Pc [.ref x, .int i1, .int i2] (hx_BX T_tb (P_ty dA) (dC, dI) vwCl L h sz b0)) (va_Qi (fun (r : Int32) (u : List Nat × hx_h) => (∃ (szf1 : Nat → Int32) (gdf1 : Nat → Int32), hx_col 100 u.2 qc 16 = szf1 ∧ hx_col 100 u.2 qc 17 = gdf1 ∧ (hz_ZS (hz_ZC cn0.toInt i1.toInt i2.toInt (szf i1.toInt.toNat).toInt (hz_st (fof i1.toInt.toNat).toInt (hrf i1.toInt.toNat).toInt (udf i1.toInt.toNat).toInt (odf i1.toInt.toNat).toInt (svf i1.toInt.toNat).toInt (hz_rs (svf i1.toInt.toNat).toInt (hz_bl (odf i1.toInt.toNat).toInt (szf i1.toInt.toNat).toInt (gdf i1.toInt.toNat).toInt (owf i1.toInt.toNat).toInt ((A (plf i1.toInt.toNat).toInt.toNat).2.1 12) nw0.toInt (hx_ps pof pdf psm pkf pst nw0.toInt nw0.toInt ((i1.toInt.toNat : Nat) : Int) n0.toInt.toNat)) nw0.toInt) (hz_ms (odf i1.toInt.toNat).toInt (svf i1.toInt.toNat).toInt (wkf i1.toInt.toNat).toInt (hz_al (owf i1.toInt.toNat).toInt (szf i1.toInt.toNat).toInt ((A (plf i1.toInt.toNat).toInt.toNat).2.1 12) nw0.toInt) (hz_pdy (odf i1.toInt.toNat).toInt (szf i1.toInt.toNat).toInt (gdf i1.toInt.toNat).toInt nw0.toInt (hx_ps pof pdf psm pkf pst nw0.toInt nw0.toInt ((i1.toInt.toNat : Nat) : Int) n0.toInt.toNat)) nw0.toInt) ((A (plf i1.toInt.toNat).toInt.toNat).2.1 4) ((A (plf i1.toInt.toNat).toInt.toNat).2.1 5) nw0.toInt)) i1.toInt.toNat i2 nw0 r (hz_bl (odf i1.toInt.toNat).toInt nw0.toInt i2.toInt (owf i1.toInt.toNat).toInt ((A (plf i1.toInt.toNat).toInt.toNat).2.1 12) nw0.toInt (hx_ps pof pdf psm pkf pst nw0.toInt nw0.toInt ((i1.toInt.toNat : Nat) : Int) n0.toInt.toNat)) szf szf1 gdf gdf1)) ∧ hx_T T_tb u.1 u.2 ∧ hx_S T_tb [(2, 16), (2, 17)] L h u.1 u.2) (hx_E T_tb (P_ty dA) (dC, dI) vwCl (hx_A L sz)) (hx_A L sz)) 0 0 (hx_A L sz) := by
  refine hx_metX (lv := [(0, .ref x), (1, .int i1), (2, .int i2)]) (by decide +kernel) rfl (Nat.le_of_ble_eq_true rfl) rfl ?_
  intro p e s m below meth c hx hb hml hr hlk hts0 hown hin hsz hW hZ ls hl
  have hts : ∀ w ∈ hx_all, w.before _ s = true := fun w hw => hts0 w (List.mem_cons_of_mem _ hw)
  have hown : s.vm.findClass "SmallCourt" = some m.cls := hown
  have hM : hx_S T_tb [(2, 16), (2, 17)] L h L h := hx_S.rf
  have b_cn0 := hT.gi gx tt_9 (k := 11) rfl
  rw [f_x_11] at b_cn0
  have b_cn0 : 0 ≤ cn0.toInt ∧ cn0.toInt ≤ 100 := b_cn0
  have b_nw0 := hT.gi gx tt_9 (k := 2) rfl
  rw [f_x_2] at b_nw0
  have b_nw0 : 0 ≤ nw0.toInt ∧ nw0.toInt ≤ 7999 := b_nw0
  have b_n0 := hT.gi gqy tt_3 (k := 0) rfl
  rw [f_qy_0] at b_n0
  have b_n0 : 0 ≤ n0.toInt ∧ n0.toInt ≤ 600 := b_n0
  refine lv_aload_n hx hb dX9_seize_0 rfl (lv_at hl 0 rfl) ?_
  refine lv_iload_n hx hb dX9_seize_1 rfl (lv_at hl 1 rfl) ?_
  have hTo := hT
  refine hx_goq (hx_runV (As := [.int i1]) (rest := []) ⟨hx, hb, hml, hown, hts⟩ hW gx tt_9 (T := TX9) (N := 20) rfl (t_X9_claimAt_2 l dC dI dA L h s.heap.size x i1 hT gx cn0 f_x_11 qc gqc f_x_10 pf_x_11) (cwV 1 hts (hx_gV kw_810 kw_807 kw_809 kw_25 kw_94) rfl rfl rfl (by decide +kernel) ⟨Nat.le_of_ble_eq_true rfl, Nat.le_of_ble_eq_true rfl⟩) rfl hl.1 rfl (Nat.le_of_ble_eq_true rfl) dX9_seize_2 ⟨Nat.le_of_ble_eq_true rfl, Nat.le_of_ble_eq_true rfl⟩) hW (fun r_3 L_1 h_2 H locs p_4 hW => ?_)
  obtain ⟨hr_5, hT, hs⟩ := p_4
  replace hT : hx_T T_tb L_1 h_2 := hT
  replace hs : hx_S T_tb [] L h L_1 h_2 := hs
  replace f_x_10 := (hs.o gx trivial rfl).2.trans f_x_10
  replace f_x_14 := (hs.o gx trivial rfl).2.trans f_x_14
  replace f_x_11 := (hs.o gx trivial rfl).1.trans f_x_11
  replace f_x_2 := (hs.o gx trivial rfl).1.trans f_x_2
  replace pf_x_11 : ∀ j : Nat, (j : Int) < (h_2.2.1 x 11).toInt → h_2.2.2 qc j ≠ none := by
    intro j hj; rw [(hs.o gx trivial rfl).1] at hj; rw [(hs.a gqc rfl j).2]; exact pf_x_11 j hj
  replace cl_qc_13 : hx_col 100 h_2 qc 13 = odf := (hx_col_S hs hTo gqc tt_45 tt_2 rfl rfl).trans cl_qc_13
  replace cl_qc_14 : hx_col 100 h_2 qc 14 = wkf := (hx_col_S hs hTo gqc tt_45 tt_2 rfl rfl).trans cl_qc_14
  replace cl_qc_15 : hx_col 100 h_2 qc 15 = owf := (hx_col_S hs hTo gqc tt_45 tt_2 rfl rfl).trans cl_qc_15
  replace cl_qc_16 : hx_col 100 h_2 qc 16 = szf := (hx_col_S hs hTo gqc tt_45 tt_2 rfl rfl).trans cl_qc_16
  replace cl_qc_17 : hx_col 100 h_2 qc 17 = gdf := (hx_col_S hs hTo gqc tt_45 tt_2 rfl rfl).trans cl_qc_17
  replace cl_qc_18 : hx_col 100 h_2 qc 18 = svf := (hx_col_S hs hTo gqc tt_45 tt_2 rfl rfl).trans cl_qc_18
  replace cl_qc_10 : hx_col 100 h_2 qc 10 = fof := (hx_col_S hs hTo gqc tt_45 tt_2 rfl rfl).trans cl_qc_10
  replace cl_qc_11 : hx_col 100 h_2 qc 11 = hrf := (hx_col_S hs hTo gqc tt_45 tt_2 rfl rfl).trans cl_qc_11
  replace cl_qc_12 : hx_col 100 h_2 qc 12 = udf := (hx_col_S hs hTo gqc tt_45 tt_2 rfl rfl).trans cl_qc_12
  replace nu_qc : hx_num 100 h_2 qc 0 (cn0.toInt) := hx_num_S hs hTo gqc tt_45 tt_2 rfl rfl nu_qc
  replace hAC : hv_AC h_2 qc plf cn0.toInt A := hv_AC_S hs hTo gqc tt_45 tt_2 rfl tt_0 rfl rfl rfl rfl rfl rfl rfl hAC
  replace hM := hM.tr (hs.mono ?o0)
  case o0 => decide
  replace gx := gx.S hs
  replace gqc := gqc.S hs
  obtain ⟨hr_5, hr_5B⟩ := hr_5
  have hr_5 : ∀ q, r_3 = some q → hx_g L_1 h_2 q 2 := hr_5
  rcases r_3 with _ | q_6
  · skip
    have k_7 : i1.toInt < 0 ∨ cn0.toInt ≤ i1.toInt := by
      rcases hr_5B with ⟨_, z⟩ | ⟨_, _, q, z, _⟩
      · exact z
      · cases z
    refine lv_astore_nN (lv' := [(3, .null), (0, .ref x), (1, .int i1), (2, .int i2)]) hx hb dX9_seize_5 rfl hl ?o1 rfl (fun ls hl => ?_)
    case o1 => decide
    refine lv_aload_nN hx hb dX9_seize_6 rfl (lv_at hl 0 rfl) ?_
    refine lv_ifnullN (tgt := 29) hx hb dX9_seize_7 ?o2 ?_
    case o2 => decide
    refine lv_ldc (v := -1000000) hx hb hown (hts _ kw_684) dX9_seize_29 ?_
    refine hx_reti hx hb hr hlk hW ⟨⟨szf, gdf, cl_qc_16, cl_qc_17, (Or.inl ⟨(fun hc => by have h1 := hc.1; omega), ?o3, rfl, rfl⟩)⟩, hT, hM⟩ dX9_seize_31
    case o3 => decide
  · have gq_6 := hr_5 _ rfl
    have k_8 : 0 ≤ i1.toInt ∧ i1.toInt < cn0.toInt ∧ h_2.2.2 qc i1.toNatClampNeg = some q_6 := by
      rcases hr_5B with ⟨z, _⟩ | ⟨z1, z2, q, z3, z4⟩
      · cases z
      · cases z3; exact ⟨z1, z2, z4⟩
    have fo_9 := k_8.2.2
    have k_8 : 0 ≤ i1.toInt ∧ i1.toInt < cn0.toInt := ⟨k_8.1, k_8.2.1⟩
    refine lv_astore_n (lv' := [(3, .ref q_6), (0, .ref x), (1, .int i1), (2, .int i2)]) hx hb dX9_seize_5 rfl hl ?o4 rfl (fun ls hl => ?_)
    case o4 => decide
    refine lv_aload_n hx hb dX9_seize_6 rfl (lv_at hl 0 rfl) ?_
    refine lv_ifnull hx hb dX9_seize_7 ?_
    refine lv_aload_n hx hb dX9_seize_10 rfl (lv_at hl 0 rfl) ?_
    refine hx_geti hx hb hts hC_2 hown hW hT gq_6 tt_2 16 ?o5 rfl kw_759 ⟨rfl, rfl, rfl⟩ dX9_seize_11 (fun x_10 ex_10 lx_10 ux_10 => ?_)
    case o5 => decide
    have fx_10 := ex_10.symm
    have cx_10 : x_10 = szf i1.toNatClampNeg := ?o6
    case o6 =>
      rw [ex_10, ← cl_qc_16]
      exact (hx_col_at fo_9 (by unfold Int32.toNatClampNeg; omega)).symm
    refine lv_iconst (v := -1) hx hb dX9_seize_14 ?o7 ?_
    case o7 => decide
    refine hb_icmp_ne (zx := x_10.toInt) (zy := (-1)) (tgt := 29) hx hb rfl ?o8 dX9_seize_15 ?o9 (fun c_11 => ?_) (fun c_11 => ?_)
    case o8 => decide
    case o9 => decide
    · skip
      refine lv_ldc (v := -1000000) hx hb hown (hts _ kw_684) dX9_seize_29 ?_
      refine hx_reti hx hb hr hlk hW ⟨⟨szf, gdf, cl_qc_16, cl_qc_17, (Or.inl ⟨(fun hc => by have h1 := hc.2.1; rw [show szf i1.toInt.toNat = x_10 from cx_10.symm] at h1; omega), ?o10, rfl, rfl⟩)⟩, hT, hM⟩ dX9_seize_31
      case o10 => decide
    · skip
      refine lv_iload_n hx hb dX9_seize_18 rfl (lv_at hl 3 rfl) ?_
      refine lv_iconst (v := 1) hx hb dX9_seize_19 ?o11 ?_
      case o11 => decide
      refine lv_sipush (v := 9999) hx hb dX9_seize_20 ?o12 ?_
      case o12 => decide
      have hTo := hT
      have zc_9999 : (9999 : Int32).toInt = 9999 := ?o13
      case o13 => decide
      have zc_1 : (1 : Int32).toInt = 1 := ?o14
      case o14 => decide
      refine hx_goi (hx_runS (As := [.int i2, .int (1 : Int32), .int (9999 : Int32)]) (rest := []) ⟨hx, hb, hml, hown, hts⟩ hW (t_X9_isWithin_2 l dC dI dA L_1 h_2 H.size i2 (1 : Int32) (9999 : Int32) hT) (va_cwS 3 hts (hx_gS kw_434 kw_432 kw_433 kw_94) rfl rfl rfl (by decide +kernel) ⟨Nat.le_of_ble_eq_true rfl, Nat.le_of_ble_eq_true rfl⟩) rfl hl.1 rfl (Nat.le_of_ble_eq_true rfl) dX9_seize_23 ⟨Nat.le_of_ble_eq_true rfl, Nat.le_of_ble_eq_true rfl⟩) hW (fun r_14 L_12 h_13 H locs p_15 hW => ?_)
      obtain ⟨hr_16, hT, hs⟩ := p_15
      replace hT : hx_T T_tb L_12 h_13 := hT
      replace hs : hx_S T_tb [] L_1 h_2 L_12 h_13 := hs
      replace f_x_10 := (hs.o gx trivial rfl).2.trans f_x_10
      replace f_x_14 := (hs.o gx trivial rfl).2.trans f_x_14
      replace f_x_11 := (hs.o gx trivial rfl).1.trans f_x_11
      replace f_x_2 := (hs.o gx trivial rfl).1.trans f_x_2
      replace fx_10 := (hs.o gq_6 trivial rfl).1.trans fx_10
      replace pf_x_11 : ∀ j : Nat, (j : Int) < (h_13.2.1 x 11).toInt → h_13.2.2 qc j ≠ none := by
        intro j hj; rw [(hs.o gx trivial rfl).1] at hj; rw [(hs.a gqc rfl j).2]; exact pf_x_11 j hj
      replace cl_qc_13 : hx_col 100 h_13 qc 13 = odf := (hx_col_S hs hTo gqc tt_45 tt_2 rfl rfl).trans cl_qc_13
      replace cl_qc_14 : hx_col 100 h_13 qc 14 = wkf := (hx_col_S hs hTo gqc tt_45 tt_2 rfl rfl).trans cl_qc_14
      replace cl_qc_15 : hx_col 100 h_13 qc 15 = owf := (hx_col_S hs hTo gqc tt_45 tt_2 rfl rfl).trans cl_qc_15
      replace cl_qc_16 : hx_col 100 h_13 qc 16 = szf := (hx_col_S hs hTo gqc tt_45 tt_2 rfl rfl).trans cl_qc_16
      replace cl_qc_17 : hx_col 100 h_13 qc 17 = gdf := (hx_col_S hs hTo gqc tt_45 tt_2 rfl rfl).trans cl_qc_17
      replace cl_qc_18 : hx_col 100 h_13 qc 18 = svf := (hx_col_S hs hTo gqc tt_45 tt_2 rfl rfl).trans cl_qc_18
      replace cl_qc_10 : hx_col 100 h_13 qc 10 = fof := (hx_col_S hs hTo gqc tt_45 tt_2 rfl rfl).trans cl_qc_10
      replace cl_qc_11 : hx_col 100 h_13 qc 11 = hrf := (hx_col_S hs hTo gqc tt_45 tt_2 rfl rfl).trans cl_qc_11
      replace cl_qc_12 : hx_col 100 h_13 qc 12 = udf := (hx_col_S hs hTo gqc tt_45 tt_2 rfl rfl).trans cl_qc_12
      replace nu_qc : hx_num 100 h_13 qc 0 (cn0.toInt) := hx_num_S hs hTo gqc tt_45 tt_2 rfl rfl nu_qc
      replace hAC : hv_AC h_13 qc plf cn0.toInt A := hv_AC_S hs hTo gqc tt_45 tt_2 rfl tt_0 rfl rfl rfl rfl rfl rfl rfl hAC
      replace fo_9 := (hs.a gqc rfl _).2.trans fo_9
      replace hM := hM.tr (hs.mono ?o15)
      case o15 => decide
      replace gx := gx.S hs
      replace gqc := gqc.S hs
      replace gq_6 := gq_6.S hs
      refine hb_if_ne (zx := r_14.toInt) (tgt := 32) hx hb rfl dX9_seize_26 ?o16 (fun c_17 => ?_) (fun c_17 => ?_)
      case o16 => decide
      · skip
        replace hr_16 := hr_16.resolve_left (fun z9 => c_17 z9.1)
        replace c_17 := hr_16.1
        replace hr_16 := hr_16.2
        refine lv_aload_n hx hb dX9_seize_32 rfl (lv_at hl 0 rfl) ?_
        refine lv_aload_n hx hb dX9_seize_33 rfl (lv_at hl 1 rfl) ?_
        refine hk_getr hx hb hts hC_9 hown hW gx tt_9 14 ?o17 rfl kw_378 ⟨rfl, rfl, rfl⟩ f_x_14 dX9_seize_34 ?_
        case o17 => decide
        refine lv_aload_n hx hb dX9_seize_37 rfl (lv_at hl 1 rfl) ?_
        refine hk_geti hx hb hts hC_9 hown hW gx tt_9 2 ?o18 rfl kw_366 ⟨rfl, rfl, rfl⟩ f_x_2 dX9_seize_38 ?_
        case o18 => decide
        refine lv_aload_n hx hb dX9_seize_41 rfl (lv_at hl 1 rfl) ?_
        refine hk_geti hx hb hts hC_9 hown hW gx tt_9 2 ?o19 rfl kw_366 ⟨rfl, rfl, rfl⟩ f_x_2 dX9_seize_42 ?_
        case o19 => decide
        obtain ⟨fv_18, efv_18⟩ : ∃ y : Int32, y = h_13.2.1 q_6 13 := ⟨_, rfl⟩
        have bfv_18 := hT.gi gq_6 tt_2 (k := 13) rfl
        rw [← efv_18] at bfv_18
        have bfv_18 : -2147483648 ≤ fv_18.toInt ∧ fv_18.toInt ≤ 2147483647 := bfv_18
        have ffv_18 := efv_18.symm
        have cq_19 : fv_18 = odf i1.toInt.toNat := ?o20
        case o20 =>
          rw [← ffv_18, ← cl_qc_13]
          exact (hx_col_at fo_9 (by unfold Int32.toNatClampNeg; omega)).symm
        obtain ⟨fv_20, efv_20⟩ : ∃ y : Int32, y = h_13.2.1 q_6 14 := ⟨_, rfl⟩
        have bfv_20 := hT.gi gq_6 tt_2 (k := 14) rfl
        rw [← efv_20] at bfv_20
        have bfv_20 : -2147483648 ≤ fv_20.toInt ∧ fv_20.toInt ≤ 2147483647 := bfv_20
        have ffv_20 := efv_20.symm
        have cq_21 : fv_20 = wkf i1.toInt.toNat := ?o21
        case o21 =>
          rw [← ffv_20, ← cl_qc_14]
          exact (hx_col_at fo_9 (by unfold Int32.toNatClampNeg; omega)).symm
        obtain ⟨fv_22, efv_22⟩ : ∃ y : Int32, y = h_13.2.1 q_6 15 := ⟨_, rfl⟩
        have bfv_22 := hT.gi gq_6 tt_2 (k := 15) rfl
        rw [← efv_22] at bfv_22
        have bfv_22 : -2147483648 ≤ fv_22.toInt ∧ fv_22.toInt ≤ 2147483647 := bfv_22
        have ffv_22 := efv_22.symm
        have cq_23 : fv_22 = owf i1.toInt.toNat := ?o22
        case o22 =>
          rw [← ffv_22, ← cl_qc_15]
          exact (hx_col_at fo_9 (by unfold Int32.toNatClampNeg; omega)).symm
        have cq_24 : x_10 = szf i1.toInt.toNat := ?o23
        case o23 =>
          rw [← fx_10, ← cl_qc_16]
          exact (hx_col_at fo_9 (by unfold Int32.toNatClampNeg; omega)).symm
        obtain ⟨fv_25, efv_25⟩ : ∃ y : Int32, y = h_13.2.1 q_6 17 := ⟨_, rfl⟩
        have bfv_25 := hT.gi gq_6 tt_2 (k := 17) rfl
        rw [← efv_25] at bfv_25
        have bfv_25 : -2147483648 ≤ fv_25.toInt ∧ fv_25.toInt ≤ 2147483647 := bfv_25
        have ffv_25 := efv_25.symm
        have cq_26 : fv_25 = gdf i1.toInt.toNat := ?o24
        case o24 =>
          rw [← ffv_25, ← cl_qc_17]
          exact (hx_col_at fo_9 (by unfold Int32.toNatClampNeg; omega)).symm
        obtain ⟨fv_27, efv_27⟩ : ∃ y : Int32, y = h_13.2.1 q_6 18 := ⟨_, rfl⟩
        have bfv_27 := hT.gi gq_6 tt_2 (k := 18) rfl
        rw [← efv_27] at bfv_27
        have bfv_27 : -2147483648 ≤ fv_27.toInt ∧ fv_27.toInt ≤ 2147483647 := bfv_27
        have ffv_27 := efv_27.symm
        have cq_28 : fv_27 = svf i1.toInt.toNat := ?o25
        case o25 =>
          rw [← ffv_27, ← cl_qc_18]
          exact (hx_col_at fo_9 (by unfold Int32.toNatClampNeg; omega)).symm
        have cb_29 := hCB i1.toInt.toNat (by omega); rw [← cq_19, ← cq_21, ← cq_23, ← cq_24, ← cq_26, ← cq_28] at cb_29
        obtain ⟨⟨cb_29al, cb_29ah⟩, ⟨cb_29bl, cb_29bh⟩, ⟨cb_29cl, cb_29ch⟩, ⟨cb_29dl, cb_29dh⟩, ⟨cb_29el, cb_29eh⟩, ⟨cb_29fl, cb_29fh⟩⟩ := cb_29
        obtain ⟨fv_30, efv_30⟩ : ∃ y : Int32, y = h_13.2.1 q_6 0 := ⟨_, rfl⟩
        have bfv_30 := hT.gi gq_6 tt_2 (k := 0) rfl
        rw [← efv_30] at bfv_30
        have bfv_30 : 0 ≤ fv_30.toInt ∧ fv_30.toInt ≤ 99 := bfv_30
        have ffv_30 := efv_30.symm
        have cq_31 : fv_30 = i1 := ?o26
        case o26 =>
          rw [← ffv_30]
          refine hx_num_at nu_qc fo_9 ?o27 ?o28
          case o27 => omega
          case o28 => omega
        obtain ⟨fv_32, efv_32⟩ : ∃ y : Int32, y = h_13.2.1 q_6 10 := ⟨_, rfl⟩
        have bfv_32 := hT.gi gq_6 tt_2 (k := 10) rfl
        rw [← efv_32] at bfv_32
        have bfv_32 : -1 ≤ fv_32.toInt ∧ fv_32.toInt ≤ 7999 := bfv_32
        have ffv_32 := efv_32.symm
        have cq_33 : fv_32 = fof i1.toInt.toNat := ?o29
        case o29 =>
          rw [← ffv_32, ← cl_qc_10]
          exact (hx_col_at fo_9 (by unfold Int32.toNatClampNeg; omega)).symm
        obtain ⟨fv_34, efv_34⟩ : ∃ y : Int32, y = h_13.2.1 q_6 11 := ⟨_, rfl⟩
        have bfv_34 := hT.gi gq_6 tt_2 (k := 11) rfl
        rw [← efv_34] at bfv_34
        have bfv_34 : -1 ≤ fv_34.toInt ∧ fv_34.toInt ≤ 7999 := bfv_34
        have ffv_34 := efv_34.symm
        have cq_35 : fv_34 = hrf i1.toInt.toNat := ?o30
        case o30 =>
          rw [← ffv_34, ← cl_qc_11]
          exact (hx_col_at fo_9 (by unfold Int32.toNatClampNeg; omega)).symm
        obtain ⟨fv_36, efv_36⟩ : ∃ y : Int32, y = h_13.2.1 q_6 12 := ⟨_, rfl⟩
        have bfv_36 := hT.gi gq_6 tt_2 (k := 12) rfl
        rw [← efv_36] at bfv_36
        have bfv_36 : 0 ≤ fv_36.toInt ∧ fv_36.toInt ≤ 5 := bfv_36
        have ffv_36 := efv_36.symm
        have cq_37 : fv_36 = udf i1.toInt.toNat := ?o31
        case o31 =>
          rw [← ffv_36, ← cl_qc_12]
          exact (hx_col_at fo_9 (by unfold Int32.toNatClampNeg; omega)).symm
        have hTo := hT
        obtain ⟨q_38, fq_38, gq_38⟩ := hv_rf hT gq_6 tt_2 (k := 3) (u := 0) rfl
        obtain ⟨q_39, fq_39, gq_39⟩ := hv_rf hT gq_38 tt_0 (k := 2) (u := 11) rfl
        obtain ⟨fa_40, nfa_40⟩ : ∃ g : Nat → Int32, h_13.2.1 q_39 = g := ⟨_, rfl⟩
        refine hx_goi (hx_runVX (As := [.ref qy, .int nw0, .int nw0]) (rest := []) ⟨hx, hb, hml, hown, hts⟩ hW gq_6 tt_2 (T := TX2) (N := 19) rfl (t_X2_stateOn_v l dC dI dA L_12 h_13 H.size b0 q_6 qy nw0 nw0 hT gq_6 (gqy.S hM) pqo (gpqo.S hM) ((hM.o gqy trivial rfl).2.trans f_qy_2) pqd (gpqd.S hM) ((hM.o gqy trivial rfl).2.trans f_qy_3) pqs (gpqs.S hM) ((hM.o gqy trivial rfl).2.trans f_qy_5) pqk (gpqk.S hM) ((hM.o gqy trivial rfl).2.trans f_qy_4) pqt (gpqt.S hM) ((hM.o gqy trivial rfl).2.trans f_qy_1) q_38 gq_38 fq_38 q_39 gq_39 fq_39 pof (hx_afS hM gpqo rfl af_pqo) pdf (hx_afS hM gpqd rfl af_pqd) psm (hx_afS hM gpqs rfl af_pqs) pkf (hx_afS hM gpqk rfl af_pqk) pst (hx_afS hM gpqt rfl af_pqt) fa_40 nfa_40 fv_32 ffv_32 fv_34 ffv_34 fv_36 ffv_36 fv_18 ffv_18 fv_20 ffv_20 fv_22 ffv_22 x_10 fx_10 fv_25 ffv_25 fv_27 ffv_27 fv_30 ffv_30 n0 ((hM.o gqy trivial rfl).1.trans f_qy_0) (A (plf i1.toInt.toNat).toInt.toNat).2.1 (by rw [← nfa_40]; exact (hAC i1.toNatClampNeg (by unfold Int32.toNatClampNeg; omega) (by unfold Int32.toNatClampNeg; omega) _ _ fo_9 fq_38).2.2.2.1 _ fq_39) (hAB _).1 ⟨?o32, ?o33⟩ ⟨?o34, ?o35⟩ ⟨?o36, ?o37⟩ ⟨?o38, ?o39⟩ hps ⟨?o40, ?o41⟩) hZ (cwV 3 hts (hx_gV kw_907 kw_904 kw_905 kw_906 kw_110) rfl rfl rfl (by decide +kernel) ⟨Nat.le_of_ble_eq_true rfl, Nat.le_of_ble_eq_true rfl⟩) rfl hl.1 rfl (Nat.le_of_ble_eq_true rfl) dX9_seize_45 ⟨Nat.le_of_ble_eq_true rfl, Nat.le_of_ble_eq_true rfl⟩) hW (fun r_43 L_41 h_42 H locs p_44 hW => ?_)
        case o32 => omega
        case o33 => omega
        case o34 => omega
        case o35 => omega
        case o36 => omega
        case o37 => omega
        case o38 => omega
        case o39 => omega
        case o40 => omega
        case o41 => omega
        obtain ⟨hr_45, hT, hs⟩ := p_44
        replace hT : hx_T T_tb L_41 h_42 := hT
        replace hs : hx_S T_tb [] L_12 h_13 L_41 h_42 := hs
        replace f_x_10 := (hs.o gx trivial rfl).2.trans f_x_10
        replace f_x_14 := (hs.o gx trivial rfl).2.trans f_x_14
        replace f_x_11 := (hs.o gx trivial rfl).1.trans f_x_11
        replace f_x_2 := (hs.o gx trivial rfl).1.trans f_x_2
        replace fx_10 := (hs.o gq_6 trivial rfl).1.trans fx_10
        replace ffv_18 := (hs.o gq_6 trivial rfl).1.trans ffv_18
        replace ffv_20 := (hs.o gq_6 trivial rfl).1.trans ffv_20
        replace ffv_22 := (hs.o gq_6 trivial rfl).1.trans ffv_22
        replace ffv_25 := (hs.o gq_6 trivial rfl).1.trans ffv_25
        replace ffv_27 := (hs.o gq_6 trivial rfl).1.trans ffv_27
        replace ffv_30 := (hs.o gq_6 trivial rfl).1.trans ffv_30
        replace ffv_32 := (hs.o gq_6 trivial rfl).1.trans ffv_32
        replace ffv_34 := (hs.o gq_6 trivial rfl).1.trans ffv_34
        replace ffv_36 := (hs.o gq_6 trivial rfl).1.trans ffv_36
        replace fq_38 := (hs.o gq_6 trivial rfl).2.trans fq_38
        replace fq_39 := (hs.o gq_38 trivial rfl).2.trans fq_39
        replace pf_x_11 : ∀ j : Nat, (j : Int) < (h_42.2.1 x 11).toInt → h_42.2.2 qc j ≠ none := by
          intro j hj; rw [(hs.o gx trivial rfl).1] at hj; rw [(hs.a gqc rfl j).2]; exact pf_x_11 j hj
        replace cl_qc_13 : hx_col 100 h_42 qc 13 = odf := (hx_col_S hs hTo gqc tt_45 tt_2 rfl rfl).trans cl_qc_13
        replace cl_qc_14 : hx_col 100 h_42 qc 14 = wkf := (hx_col_S hs hTo gqc tt_45 tt_2 rfl rfl).trans cl_qc_14
        replace cl_qc_15 : hx_col 100 h_42 qc 15 = owf := (hx_col_S hs hTo gqc tt_45 tt_2 rfl rfl).trans cl_qc_15
        replace cl_qc_16 : hx_col 100 h_42 qc 16 = szf := (hx_col_S hs hTo gqc tt_45 tt_2 rfl rfl).trans cl_qc_16
        replace cl_qc_17 : hx_col 100 h_42 qc 17 = gdf := (hx_col_S hs hTo gqc tt_45 tt_2 rfl rfl).trans cl_qc_17
        replace cl_qc_18 : hx_col 100 h_42 qc 18 = svf := (hx_col_S hs hTo gqc tt_45 tt_2 rfl rfl).trans cl_qc_18
        replace cl_qc_10 : hx_col 100 h_42 qc 10 = fof := (hx_col_S hs hTo gqc tt_45 tt_2 rfl rfl).trans cl_qc_10
        replace cl_qc_11 : hx_col 100 h_42 qc 11 = hrf := (hx_col_S hs hTo gqc tt_45 tt_2 rfl rfl).trans cl_qc_11
        replace cl_qc_12 : hx_col 100 h_42 qc 12 = udf := (hx_col_S hs hTo gqc tt_45 tt_2 rfl rfl).trans cl_qc_12
        replace nu_qc : hx_num 100 h_42 qc 0 (cn0.toInt) := hx_num_S hs hTo gqc tt_45 tt_2 rfl rfl nu_qc
        replace hAC : hv_AC h_42 qc plf cn0.toInt A := hv_AC_S hs hTo gqc tt_45 tt_2 rfl tt_0 rfl rfl rfl rfl rfl rfl rfl hAC
        replace fo_9 := (hs.a gqc rfl _).2.trans fo_9
        replace nfa_40 : h_42.2.1 q_39 = fa_40 := (funext fun j => (hs.a gq_39 rfl j).1).trans nfa_40
        replace hM := hM.tr (hs.mono ?o42)
        case o42 => decide
        replace gx := gx.S hs
        replace gqc := gqc.S hs
        replace gq_6 := gq_6.S hs
        replace gq_38 := gq_38.S hs
        replace gq_39 := gq_39.S hs
        have hst9 : r_43.toInt = (hz_st (fof i1.toInt.toNat).toInt (hrf i1.toInt.toNat).toInt (udf i1.toInt.toNat).toInt (odf i1.toInt.toNat).toInt (svf i1.toInt.toNat).toInt (hz_rs (svf i1.toInt.toNat).toInt (hz_bl (odf i1.toInt.toNat).toInt (szf i1.toInt.toNat).toInt (gdf i1.toInt.toNat).toInt (owf i1.toInt.toNat).toInt ((A (plf i1.toInt.toNat).toInt.toNat).2.1 12) nw0.toInt (hx_ps pof pdf psm pkf pst nw0.toInt nw0.toInt ((i1.toInt.toNat : Nat) : Int) n0.toInt.toNat)) nw0.toInt) (hz_ms (odf i1.toInt.toNat).toInt (svf i1.toInt.toNat).toInt (wkf i1.toInt.toNat).toInt (hz_al (owf i1.toInt.toNat).toInt (szf i1.toInt.toNat).toInt ((A (plf i1.toInt.toNat).toInt.toNat).2.1 12) nw0.toInt) (hz_pdy (odf i1.toInt.toNat).toInt (szf i1.toInt.toNat).toInt (gdf i1.toInt.toNat).toInt nw0.toInt (hx_ps pof pdf psm pkf pst nw0.toInt nw0.toInt ((i1.toInt.toNat : Nat) : Int) n0.toInt.toNat)) nw0.toInt) ((A (plf i1.toInt.toNat).toInt.toNat).2.1 4) ((A (plf i1.toInt.toNat).toInt.toNat).2.1 5) nw0.toInt) := (by have h9 := hr_45.1; rw [show fv_30.toInt = ((i1.toInt.toNat : Nat) : Int) from by rw [cq_31]; omega] at h9; rw [cq_33, cq_35, cq_37, cq_19, cq_28, cq_24, cq_26, cq_23, cq_21] at h9; exact h9)
        refine lv_istore (lv' := [(4, .int r_43), (3, .ref q_6), (0, .ref x), (1, .int i1), (2, .int i2)]) hx hb dX9_seize_48 hl ?o43 rfl (fun ls hl => ?_)
        case o43 => decide
        refine lv_iload hx hb dX9_seize_50 (lv_at hl 0 rfl) ?_
        refine lv_iconst (v := 5) hx hb dX9_seize_52 ?o44 ?_
        case o44 => decide
        refine hb_icmp_eq (zx := r_43.toInt) (zy := 5) (tgt := 66) hx hb rfl ?o45 dX9_seize_53 ?o46 (fun c_47 => ?_) (fun c_47 => ?_)
        case o45 => decide
        case o46 => decide
        · skip
          refine lv_aload_n hx hb dX9_seize_66 rfl (lv_at hl 1 rfl) ?_
          refine lv_aload_n hx hb dX9_seize_67 rfl (lv_at hl 2 rfl) ?_
          refine hk_geti hx hb hts hC_9 hown hW gx tt_9 2 ?o47 rfl kw_366 ⟨rfl, rfl, rfl⟩ f_x_2 dX9_seize_68 ?_
          case o47 => decide
          have hTo := hT
          have cl_qc_16O := cl_qc_16
          have nu_qcO := nu_qc
          have fo_9O := fo_9
          refine hx_puti hx hb hts hC_2 hown hW hT (hx_S.rf (M := [(2, 16)])) gq_6 tt_2 16 ?o48 rfl kw_759 ⟨rfl, rfl, rfl⟩ rfl (x := nw0) (i32_r _) rfl rfl rfl (List.mem_singleton.mpr rfl) dX9_seize_71 (fun H locs h_48 eh_48 hW hT hs => ?_)
          case o48 => decide
          replace f_x_10 := (hs.o gx trivial rfl).2.trans f_x_10
          replace f_x_14 := (hs.o gx trivial rfl).2.trans f_x_14
          replace f_x_11 := (hs.o gx trivial rfl).1.trans f_x_11
          replace f_x_2 := (hs.o gx trivial rfl).1.trans f_x_2
          replace ffv_18 := (hs.o gq_6 trivial rfl).1.trans ffv_18
          replace ffv_20 := (hs.o gq_6 trivial rfl).1.trans ffv_20
          replace ffv_22 := (hs.o gq_6 trivial rfl).1.trans ffv_22
          replace ffv_25 := (hs.o gq_6 trivial rfl).1.trans ffv_25
          replace ffv_27 := (hs.o gq_6 trivial rfl).1.trans ffv_27
          replace ffv_30 := (hs.o gq_6 trivial rfl).1.trans ffv_30
          replace ffv_32 := (hs.o gq_6 trivial rfl).1.trans ffv_32
          replace ffv_34 := (hs.o gq_6 trivial rfl).1.trans ffv_34
          replace ffv_36 := (hs.o gq_6 trivial rfl).1.trans ffv_36
          replace fq_38 := (hs.o gq_6 trivial rfl).2.trans fq_38
          replace fq_39 := (hs.o gq_38 trivial rfl).2.trans fq_39
          replace pf_x_11 : ∀ j : Nat, (j : Int) < (h_48.2.1 x 11).toInt → h_48.2.2 qc j ≠ none := by
            intro j hj; rw [(hs.o gx trivial rfl).1] at hj; rw [(hs.a gqc rfl j).2]; exact pf_x_11 j hj
          replace cl_qc_13 : hx_col 100 h_48 qc 13 = odf := (hx_col_S hs hTo gqc tt_45 tt_2 rfl rfl).trans cl_qc_13
          replace cl_qc_14 : hx_col 100 h_48 qc 14 = wkf := (hx_col_S hs hTo gqc tt_45 tt_2 rfl rfl).trans cl_qc_14
          replace cl_qc_15 : hx_col 100 h_48 qc 15 = owf := (hx_col_S hs hTo gqc tt_45 tt_2 rfl rfl).trans cl_qc_15
          replace cl_qc_17 : hx_col 100 h_48 qc 17 = gdf := (hx_col_S hs hTo gqc tt_45 tt_2 rfl rfl).trans cl_qc_17
          replace cl_qc_18 : hx_col 100 h_48 qc 18 = svf := (hx_col_S hs hTo gqc tt_45 tt_2 rfl rfl).trans cl_qc_18
          replace cl_qc_10 : hx_col 100 h_48 qc 10 = fof := (hx_col_S hs hTo gqc tt_45 tt_2 rfl rfl).trans cl_qc_10
          replace cl_qc_11 : hx_col 100 h_48 qc 11 = hrf := (hx_col_S hs hTo gqc tt_45 tt_2 rfl rfl).trans cl_qc_11
          replace cl_qc_12 : hx_col 100 h_48 qc 12 = udf := (hx_col_S hs hTo gqc tt_45 tt_2 rfl rfl).trans cl_qc_12
          replace nu_qc : hx_num 100 h_48 qc 0 (cn0.toInt) := hx_num_S hs hTo gqc tt_45 tt_2 rfl rfl nu_qc
          replace hAC : hv_AC h_48 qc plf cn0.toInt A := hv_AC_S hs hTo gqc tt_45 tt_2 rfl tt_0 rfl rfl rfl rfl rfl rfl rfl hAC
          replace fo_9 := (hs.a gqc rfl _).2.trans fo_9
          replace nfa_40 : h_48.2.1 q_39 = fa_40 := (funext fun j => (hs.a gq_39 rfl j).1).trans nfa_40
          replace hM := hM.tr (hs.mono ?o49)
          case o49 => decide
          replace gx := gx.S hs
          replace gqc := gqc.S hs
          replace gq_6 := gq_6.S hs
          replace gq_38 := gq_38.S hs
          replace gq_39 := gq_39.S hs
          have f_49 : h_48.2.1 q_6 16 = nw0 := ?o50
          case o50 =>
            rw [eh_48]
            exact hx_pi_at _ _ _ _
          obtain ⟨fc_50, dfc_50⟩ : ∃ g : Nat → Int32, g = hx_up szf i1.toNatClampNeg nw0 := ⟨_, rfl⟩
          have nfc_50 : hx_col 100 h_48 qc 16 = fc_50 := ?o51
          case o51 =>
            rw [dfc_50, ← cl_qc_16O]
            exact hx_col_pi nu_qcO fo_9O (by unfold Int32.toNatClampNeg; omega) eh_48
          refine lv_aload_n hx hb dX9_seize_74 rfl (lv_at hl 1 rfl) ?_
          refine lv_iload_n hx hb dX9_seize_75 rfl (lv_at hl 4 rfl) ?_
          have hTo := hT
          have cl_qc_17O := cl_qc_17
          have nu_qcO := nu_qc
          have fo_9O := fo_9
          refine hx_puti hx hb hts hC_2 hown hW hT (hx_S.rf (M := [(2, 17)])) gq_6 tt_2 17 ?o52 rfl kw_761 ⟨rfl, rfl, rfl⟩ rfl (x := i2) (i32_r _) rfl rfl rfl (List.mem_singleton.mpr rfl) dX9_seize_76 (fun H locs h_51 eh_51 hW hT hs => ?_)
          case o52 => decide
          replace f_x_10 := (hs.o gx trivial rfl).2.trans f_x_10
          replace f_x_14 := (hs.o gx trivial rfl).2.trans f_x_14
          replace f_x_11 := (hs.o gx trivial rfl).1.trans f_x_11
          replace f_x_2 := (hs.o gx trivial rfl).1.trans f_x_2
          replace ffv_18 := (hs.o gq_6 trivial rfl).1.trans ffv_18
          replace ffv_20 := (hs.o gq_6 trivial rfl).1.trans ffv_20
          replace ffv_22 := (hs.o gq_6 trivial rfl).1.trans ffv_22
          replace ffv_27 := (hs.o gq_6 trivial rfl).1.trans ffv_27
          replace ffv_30 := (hs.o gq_6 trivial rfl).1.trans ffv_30
          replace ffv_32 := (hs.o gq_6 trivial rfl).1.trans ffv_32
          replace ffv_34 := (hs.o gq_6 trivial rfl).1.trans ffv_34
          replace ffv_36 := (hs.o gq_6 trivial rfl).1.trans ffv_36
          replace fq_38 := (hs.o gq_6 trivial rfl).2.trans fq_38
          replace fq_39 := (hs.o gq_38 trivial rfl).2.trans fq_39
          replace f_49 := (hs.o gq_6 trivial rfl).1.trans f_49
          replace pf_x_11 : ∀ j : Nat, (j : Int) < (h_51.2.1 x 11).toInt → h_51.2.2 qc j ≠ none := by
            intro j hj; rw [(hs.o gx trivial rfl).1] at hj; rw [(hs.a gqc rfl j).2]; exact pf_x_11 j hj
          replace cl_qc_13 : hx_col 100 h_51 qc 13 = odf := (hx_col_S hs hTo gqc tt_45 tt_2 rfl rfl).trans cl_qc_13
          replace cl_qc_14 : hx_col 100 h_51 qc 14 = wkf := (hx_col_S hs hTo gqc tt_45 tt_2 rfl rfl).trans cl_qc_14
          replace cl_qc_15 : hx_col 100 h_51 qc 15 = owf := (hx_col_S hs hTo gqc tt_45 tt_2 rfl rfl).trans cl_qc_15
          replace cl_qc_18 : hx_col 100 h_51 qc 18 = svf := (hx_col_S hs hTo gqc tt_45 tt_2 rfl rfl).trans cl_qc_18
          replace cl_qc_10 : hx_col 100 h_51 qc 10 = fof := (hx_col_S hs hTo gqc tt_45 tt_2 rfl rfl).trans cl_qc_10
          replace cl_qc_11 : hx_col 100 h_51 qc 11 = hrf := (hx_col_S hs hTo gqc tt_45 tt_2 rfl rfl).trans cl_qc_11
          replace cl_qc_12 : hx_col 100 h_51 qc 12 = udf := (hx_col_S hs hTo gqc tt_45 tt_2 rfl rfl).trans cl_qc_12
          replace nfc_50 : hx_col 100 h_51 qc 16 = fc_50 := (hx_col_S hs hTo gqc tt_45 tt_2 rfl rfl).trans nfc_50
          replace nu_qc : hx_num 100 h_51 qc 0 (cn0.toInt) := hx_num_S hs hTo gqc tt_45 tt_2 rfl rfl nu_qc
          replace hAC : hv_AC h_51 qc plf cn0.toInt A := hv_AC_S hs hTo gqc tt_45 tt_2 rfl tt_0 rfl rfl rfl rfl rfl rfl rfl hAC
          replace fo_9 := (hs.a gqc rfl _).2.trans fo_9
          replace nfa_40 : h_51.2.1 q_39 = fa_40 := (funext fun j => (hs.a gq_39 rfl j).1).trans nfa_40
          replace hM := hM.tr (hs.mono ?o53)
          case o53 => decide
          replace gx := gx.S hs
          replace gqc := gqc.S hs
          replace gq_6 := gq_6.S hs
          replace gq_38 := gq_38.S hs
          replace gq_39 := gq_39.S hs
          have f_52 : h_51.2.1 q_6 17 = i2 := ?o54
          case o54 =>
            rw [eh_51]
            exact hx_pi_at _ _ _ _
          obtain ⟨fc_53, dfc_53⟩ : ∃ g : Nat → Int32, g = hx_up gdf i1.toNatClampNeg i2 := ⟨_, rfl⟩
          have nfc_53 : hx_col 100 h_51 qc 17 = fc_53 := ?o55
          case o55 =>
            rw [dfc_53, ← cl_qc_17O]
            exact hx_col_pi nu_qcO fo_9O (by unfold Int32.toNatClampNeg; omega) eh_51
          refine lv_aload_n hx hb dX9_seize_79 rfl (lv_at hl 1 rfl) ?_
          refine lv_aload_n hx hb dX9_seize_80 rfl (lv_at hl 2 rfl) ?_
          refine hk_getr hx hb hts hC_9 hown hW gx tt_9 14 ?o56 rfl kw_378 ⟨rfl, rfl, rfl⟩ f_x_14 dX9_seize_81 ?_
          case o56 => decide
          refine lv_aload_n hx hb dX9_seize_84 rfl (lv_at hl 2 rfl) ?_
          refine hk_geti hx hb hts hC_9 hown hW gx tt_9 2 ?o57 rfl kw_366 ⟨rfl, rfl, rfl⟩ f_x_2 dX9_seize_85 ?_
          case o57 => decide
          refine lv_aload_n hx hb dX9_seize_88 rfl (lv_at hl 2 rfl) ?_
          refine hk_geti hx hb hts hC_9 hown hW gx tt_9 2 ?o58 rfl kw_366 ⟨rfl, rfl, rfl⟩ f_x_2 dX9_seize_89 ?_
          case o58 => decide
          have hTo := hT
          refine hx_goi (hx_runV (As := [.ref qy, .int nw0, .int nw0]) (rest := []) ⟨hx, hb, hml, hown, hts⟩ hW gq_6 tt_2 (T := TX2) (N := 19) rfl (t_X2_balanceOn_v l dC dI dA L_41 h_51 H.size q_6 qy nw0 nw0 hT gq_6 (gqy.S hM) pqo (gpqo.S hM) ((hM.o gqy trivial rfl).2.trans f_qy_2) pqd (gpqd.S hM) ((hM.o gqy trivial rfl).2.trans f_qy_3) pqs (gpqs.S hM) ((hM.o gqy trivial rfl).2.trans f_qy_5) pqk (gpqk.S hM) ((hM.o gqy trivial rfl).2.trans f_qy_4) pqt (gpqt.S hM) ((hM.o gqy trivial rfl).2.trans f_qy_1) q_38 gq_38 fq_38 q_39 gq_39 fq_39 pof (hx_afS hM gpqo rfl af_pqo) pdf (hx_afS hM gpqd rfl af_pqd) psm (hx_afS hM gpqs rfl af_pqs) pkf (hx_afS hM gpqk rfl af_pqk) pst (hx_afS hM gpqt rfl af_pqt) fa_40 nfa_40 fv_18 ffv_18 nw0 f_49 i2 f_52 fv_22 ffv_22 fv_30 ffv_30 n0 ((hM.o gqy trivial rfl).1.trans f_qy_0) (A (plf i1.toInt.toNat).toInt.toNat).2.1 (by rw [← nfa_40]; exact (hAC i1.toNatClampNeg (by unfold Int32.toNatClampNeg; omega) (by unfold Int32.toNatClampNeg; omega) _ _ fo_9 fq_38).2.2.2.1 _ fq_39) (hAB _).1 ⟨?o59, ?o60⟩ ⟨?o61, ?o62⟩ hps) (cwV 3 hts (hx_gV kw_868 kw_922 kw_866 kw_867 kw_110) rfl rfl rfl (by decide +kernel) ⟨Nat.le_of_ble_eq_true rfl, Nat.le_of_ble_eq_true rfl⟩) rfl hl.1 rfl (Nat.le_of_ble_eq_true rfl) dX9_seize_92 ⟨Nat.le_of_ble_eq_true rfl, Nat.le_of_ble_eq_true rfl⟩) hW (fun r_56 L_54 h_55 H locs p_57 hW => ?_)
          case o59 => omega
          case o60 => omega
          case o61 => omega
          case o62 => omega
          obtain ⟨hr_58, hT, hs⟩ := p_57
          replace hT : hx_T T_tb L_54 h_55 := hT
          replace hs : hx_S T_tb [] L_41 h_51 L_54 h_55 := hs
          replace f_x_10 := (hs.o gx trivial rfl).2.trans f_x_10
          replace f_x_14 := (hs.o gx trivial rfl).2.trans f_x_14
          replace f_x_11 := (hs.o gx trivial rfl).1.trans f_x_11
          replace f_x_2 := (hs.o gx trivial rfl).1.trans f_x_2
          replace ffv_18 := (hs.o gq_6 trivial rfl).1.trans ffv_18
          replace ffv_20 := (hs.o gq_6 trivial rfl).1.trans ffv_20
          replace ffv_22 := (hs.o gq_6 trivial rfl).1.trans ffv_22
          replace ffv_27 := (hs.o gq_6 trivial rfl).1.trans ffv_27
          replace ffv_30 := (hs.o gq_6 trivial rfl).1.trans ffv_30
          replace ffv_32 := (hs.o gq_6 trivial rfl).1.trans ffv_32
          replace ffv_34 := (hs.o gq_6 trivial rfl).1.trans ffv_34
          replace ffv_36 := (hs.o gq_6 trivial rfl).1.trans ffv_36
          replace fq_38 := (hs.o gq_6 trivial rfl).2.trans fq_38
          replace fq_39 := (hs.o gq_38 trivial rfl).2.trans fq_39
          replace f_49 := (hs.o gq_6 trivial rfl).1.trans f_49
          replace f_52 := (hs.o gq_6 trivial rfl).1.trans f_52
          replace pf_x_11 : ∀ j : Nat, (j : Int) < (h_55.2.1 x 11).toInt → h_55.2.2 qc j ≠ none := by
            intro j hj; rw [(hs.o gx trivial rfl).1] at hj; rw [(hs.a gqc rfl j).2]; exact pf_x_11 j hj
          replace cl_qc_13 : hx_col 100 h_55 qc 13 = odf := (hx_col_S hs hTo gqc tt_45 tt_2 rfl rfl).trans cl_qc_13
          replace cl_qc_14 : hx_col 100 h_55 qc 14 = wkf := (hx_col_S hs hTo gqc tt_45 tt_2 rfl rfl).trans cl_qc_14
          replace cl_qc_15 : hx_col 100 h_55 qc 15 = owf := (hx_col_S hs hTo gqc tt_45 tt_2 rfl rfl).trans cl_qc_15
          replace cl_qc_18 : hx_col 100 h_55 qc 18 = svf := (hx_col_S hs hTo gqc tt_45 tt_2 rfl rfl).trans cl_qc_18
          replace cl_qc_10 : hx_col 100 h_55 qc 10 = fof := (hx_col_S hs hTo gqc tt_45 tt_2 rfl rfl).trans cl_qc_10
          replace cl_qc_11 : hx_col 100 h_55 qc 11 = hrf := (hx_col_S hs hTo gqc tt_45 tt_2 rfl rfl).trans cl_qc_11
          replace cl_qc_12 : hx_col 100 h_55 qc 12 = udf := (hx_col_S hs hTo gqc tt_45 tt_2 rfl rfl).trans cl_qc_12
          replace nfc_50 : hx_col 100 h_55 qc 16 = fc_50 := (hx_col_S hs hTo gqc tt_45 tt_2 rfl rfl).trans nfc_50
          replace nfc_53 : hx_col 100 h_55 qc 17 = fc_53 := (hx_col_S hs hTo gqc tt_45 tt_2 rfl rfl).trans nfc_53
          replace nu_qc : hx_num 100 h_55 qc 0 (cn0.toInt) := hx_num_S hs hTo gqc tt_45 tt_2 rfl rfl nu_qc
          replace hAC : hv_AC h_55 qc plf cn0.toInt A := hv_AC_S hs hTo gqc tt_45 tt_2 rfl tt_0 rfl rfl rfl rfl rfl rfl rfl hAC
          replace fo_9 := (hs.a gqc rfl _).2.trans fo_9
          replace nfa_40 : h_55.2.1 q_39 = fa_40 := (funext fun j => (hs.a gq_39 rfl j).1).trans nfa_40
          replace hM := hM.tr (hs.mono ?o63)
          case o63 => decide
          replace gx := gx.S hs
          replace gqc := gqc.S hs
          replace gq_6 := gq_6.S hs
          replace gq_38 := gq_38.S hs
          replace gq_39 := gq_39.S hs
          refine hx_reti hx hb hr hlk hW ⟨⟨fc_50, fc_53, nfc_50, nfc_53, (Or.inr ⟨⟨⟨?o64, ?o65⟩, (by rw [show szf i1.toInt.toNat = x_10 from cx_10.symm]; omega), ?o66, (by rw [← hst9]; omega)⟩, (by have h9 := hr_58.1; rw [show fv_30.toInt = ((i1.toInt.toNat : Nat) : Int) from by rw [cq_31]; omega] at h9; rw [cq_19, cq_23] at h9; exact h9), dfc_50, dfc_53⟩)⟩, hT, hM⟩ dX9_seize_95
          case o64 => omega
          case o65 => omega
          case o66 => omega
        · skip
          refine lv_iload hx hb dX9_seize_56 (lv_at hl 0 rfl) ?_
          refine lv_bipush (v := 6) hx hb dX9_seize_58 ?o67 ?_
          case o67 => decide
          refine hb_icmp_eq (zx := r_43.toInt) (zy := 6) (tgt := 66) hx hb rfl ?o68 dX9_seize_60 ?o69 (fun c_60 => ?_) (fun c_60 => ?_)
          case o68 => decide
          case o69 => decide
          · skip
            refine lv_aload_n hx hb dX9_seize_66 rfl (lv_at hl 1 rfl) ?_
            refine lv_aload_n hx hb dX9_seize_67 rfl (lv_at hl 2 rfl) ?_
            refine hk_geti hx hb hts hC_9 hown hW gx tt_9 2 ?o70 rfl kw_366 ⟨rfl, rfl, rfl⟩ f_x_2 dX9_seize_68 ?_
            case o70 => decide
            have hTo := hT
            have cl_qc_16O := cl_qc_16
            have nu_qcO := nu_qc
            have fo_9O := fo_9
            refine hx_puti hx hb hts hC_2 hown hW hT (hx_S.rf (M := [(2, 16)])) gq_6 tt_2 16 ?o71 rfl kw_759 ⟨rfl, rfl, rfl⟩ rfl (x := nw0) (i32_r _) rfl rfl rfl (List.mem_singleton.mpr rfl) dX9_seize_71 (fun H locs h_61 eh_61 hW hT hs => ?_)
            case o71 => decide
            replace f_x_10 := (hs.o gx trivial rfl).2.trans f_x_10
            replace f_x_14 := (hs.o gx trivial rfl).2.trans f_x_14
            replace f_x_11 := (hs.o gx trivial rfl).1.trans f_x_11
            replace f_x_2 := (hs.o gx trivial rfl).1.trans f_x_2
            replace ffv_18 := (hs.o gq_6 trivial rfl).1.trans ffv_18
            replace ffv_20 := (hs.o gq_6 trivial rfl).1.trans ffv_20
            replace ffv_22 := (hs.o gq_6 trivial rfl).1.trans ffv_22
            replace ffv_25 := (hs.o gq_6 trivial rfl).1.trans ffv_25
            replace ffv_27 := (hs.o gq_6 trivial rfl).1.trans ffv_27
            replace ffv_30 := (hs.o gq_6 trivial rfl).1.trans ffv_30
            replace ffv_32 := (hs.o gq_6 trivial rfl).1.trans ffv_32
            replace ffv_34 := (hs.o gq_6 trivial rfl).1.trans ffv_34
            replace ffv_36 := (hs.o gq_6 trivial rfl).1.trans ffv_36
            replace fq_38 := (hs.o gq_6 trivial rfl).2.trans fq_38
            replace fq_39 := (hs.o gq_38 trivial rfl).2.trans fq_39
            replace pf_x_11 : ∀ j : Nat, (j : Int) < (h_61.2.1 x 11).toInt → h_61.2.2 qc j ≠ none := by
              intro j hj; rw [(hs.o gx trivial rfl).1] at hj; rw [(hs.a gqc rfl j).2]; exact pf_x_11 j hj
            replace cl_qc_13 : hx_col 100 h_61 qc 13 = odf := (hx_col_S hs hTo gqc tt_45 tt_2 rfl rfl).trans cl_qc_13
            replace cl_qc_14 : hx_col 100 h_61 qc 14 = wkf := (hx_col_S hs hTo gqc tt_45 tt_2 rfl rfl).trans cl_qc_14
            replace cl_qc_15 : hx_col 100 h_61 qc 15 = owf := (hx_col_S hs hTo gqc tt_45 tt_2 rfl rfl).trans cl_qc_15
            replace cl_qc_17 : hx_col 100 h_61 qc 17 = gdf := (hx_col_S hs hTo gqc tt_45 tt_2 rfl rfl).trans cl_qc_17
            replace cl_qc_18 : hx_col 100 h_61 qc 18 = svf := (hx_col_S hs hTo gqc tt_45 tt_2 rfl rfl).trans cl_qc_18
            replace cl_qc_10 : hx_col 100 h_61 qc 10 = fof := (hx_col_S hs hTo gqc tt_45 tt_2 rfl rfl).trans cl_qc_10
            replace cl_qc_11 : hx_col 100 h_61 qc 11 = hrf := (hx_col_S hs hTo gqc tt_45 tt_2 rfl rfl).trans cl_qc_11
            replace cl_qc_12 : hx_col 100 h_61 qc 12 = udf := (hx_col_S hs hTo gqc tt_45 tt_2 rfl rfl).trans cl_qc_12
            replace nu_qc : hx_num 100 h_61 qc 0 (cn0.toInt) := hx_num_S hs hTo gqc tt_45 tt_2 rfl rfl nu_qc
            replace hAC : hv_AC h_61 qc plf cn0.toInt A := hv_AC_S hs hTo gqc tt_45 tt_2 rfl tt_0 rfl rfl rfl rfl rfl rfl rfl hAC
            replace fo_9 := (hs.a gqc rfl _).2.trans fo_9
            replace nfa_40 : h_61.2.1 q_39 = fa_40 := (funext fun j => (hs.a gq_39 rfl j).1).trans nfa_40
            replace hM := hM.tr (hs.mono ?o72)
            case o72 => decide
            replace gx := gx.S hs
            replace gqc := gqc.S hs
            replace gq_6 := gq_6.S hs
            replace gq_38 := gq_38.S hs
            replace gq_39 := gq_39.S hs
            have f_62 : h_61.2.1 q_6 16 = nw0 := ?o73
            case o73 =>
              rw [eh_61]
              exact hx_pi_at _ _ _ _
            obtain ⟨fc_63, dfc_63⟩ : ∃ g : Nat → Int32, g = hx_up szf i1.toNatClampNeg nw0 := ⟨_, rfl⟩
            have nfc_63 : hx_col 100 h_61 qc 16 = fc_63 := ?o74
            case o74 =>
              rw [dfc_63, ← cl_qc_16O]
              exact hx_col_pi nu_qcO fo_9O (by unfold Int32.toNatClampNeg; omega) eh_61
            refine lv_aload_n hx hb dX9_seize_74 rfl (lv_at hl 1 rfl) ?_
            refine lv_iload_n hx hb dX9_seize_75 rfl (lv_at hl 4 rfl) ?_
            have hTo := hT
            have cl_qc_17O := cl_qc_17
            have nu_qcO := nu_qc
            have fo_9O := fo_9
            refine hx_puti hx hb hts hC_2 hown hW hT (hx_S.rf (M := [(2, 17)])) gq_6 tt_2 17 ?o75 rfl kw_761 ⟨rfl, rfl, rfl⟩ rfl (x := i2) (i32_r _) rfl rfl rfl (List.mem_singleton.mpr rfl) dX9_seize_76 (fun H locs h_64 eh_64 hW hT hs => ?_)
            case o75 => decide
            replace f_x_10 := (hs.o gx trivial rfl).2.trans f_x_10
            replace f_x_14 := (hs.o gx trivial rfl).2.trans f_x_14
            replace f_x_11 := (hs.o gx trivial rfl).1.trans f_x_11
            replace f_x_2 := (hs.o gx trivial rfl).1.trans f_x_2
            replace ffv_18 := (hs.o gq_6 trivial rfl).1.trans ffv_18
            replace ffv_20 := (hs.o gq_6 trivial rfl).1.trans ffv_20
            replace ffv_22 := (hs.o gq_6 trivial rfl).1.trans ffv_22
            replace ffv_27 := (hs.o gq_6 trivial rfl).1.trans ffv_27
            replace ffv_30 := (hs.o gq_6 trivial rfl).1.trans ffv_30
            replace ffv_32 := (hs.o gq_6 trivial rfl).1.trans ffv_32
            replace ffv_34 := (hs.o gq_6 trivial rfl).1.trans ffv_34
            replace ffv_36 := (hs.o gq_6 trivial rfl).1.trans ffv_36
            replace fq_38 := (hs.o gq_6 trivial rfl).2.trans fq_38
            replace fq_39 := (hs.o gq_38 trivial rfl).2.trans fq_39
            replace f_62 := (hs.o gq_6 trivial rfl).1.trans f_62
            replace pf_x_11 : ∀ j : Nat, (j : Int) < (h_64.2.1 x 11).toInt → h_64.2.2 qc j ≠ none := by
              intro j hj; rw [(hs.o gx trivial rfl).1] at hj; rw [(hs.a gqc rfl j).2]; exact pf_x_11 j hj
            replace cl_qc_13 : hx_col 100 h_64 qc 13 = odf := (hx_col_S hs hTo gqc tt_45 tt_2 rfl rfl).trans cl_qc_13
            replace cl_qc_14 : hx_col 100 h_64 qc 14 = wkf := (hx_col_S hs hTo gqc tt_45 tt_2 rfl rfl).trans cl_qc_14
            replace cl_qc_15 : hx_col 100 h_64 qc 15 = owf := (hx_col_S hs hTo gqc tt_45 tt_2 rfl rfl).trans cl_qc_15
            replace cl_qc_18 : hx_col 100 h_64 qc 18 = svf := (hx_col_S hs hTo gqc tt_45 tt_2 rfl rfl).trans cl_qc_18
            replace cl_qc_10 : hx_col 100 h_64 qc 10 = fof := (hx_col_S hs hTo gqc tt_45 tt_2 rfl rfl).trans cl_qc_10
            replace cl_qc_11 : hx_col 100 h_64 qc 11 = hrf := (hx_col_S hs hTo gqc tt_45 tt_2 rfl rfl).trans cl_qc_11
            replace cl_qc_12 : hx_col 100 h_64 qc 12 = udf := (hx_col_S hs hTo gqc tt_45 tt_2 rfl rfl).trans cl_qc_12
            replace nfc_63 : hx_col 100 h_64 qc 16 = fc_63 := (hx_col_S hs hTo gqc tt_45 tt_2 rfl rfl).trans nfc_63
            replace nu_qc : hx_num 100 h_64 qc 0 (cn0.toInt) := hx_num_S hs hTo gqc tt_45 tt_2 rfl rfl nu_qc
            replace hAC : hv_AC h_64 qc plf cn0.toInt A := hv_AC_S hs hTo gqc tt_45 tt_2 rfl tt_0 rfl rfl rfl rfl rfl rfl rfl hAC
            replace fo_9 := (hs.a gqc rfl _).2.trans fo_9
            replace nfa_40 : h_64.2.1 q_39 = fa_40 := (funext fun j => (hs.a gq_39 rfl j).1).trans nfa_40
            replace hM := hM.tr (hs.mono ?o76)
            case o76 => decide
            replace gx := gx.S hs
            replace gqc := gqc.S hs
            replace gq_6 := gq_6.S hs
            replace gq_38 := gq_38.S hs
            replace gq_39 := gq_39.S hs
            have f_65 : h_64.2.1 q_6 17 = i2 := ?o77
            case o77 =>
              rw [eh_64]
              exact hx_pi_at _ _ _ _
            obtain ⟨fc_66, dfc_66⟩ : ∃ g : Nat → Int32, g = hx_up gdf i1.toNatClampNeg i2 := ⟨_, rfl⟩
            have nfc_66 : hx_col 100 h_64 qc 17 = fc_66 := ?o78
            case o78 =>
              rw [dfc_66, ← cl_qc_17O]
              exact hx_col_pi nu_qcO fo_9O (by unfold Int32.toNatClampNeg; omega) eh_64
            refine lv_aload_n hx hb dX9_seize_79 rfl (lv_at hl 1 rfl) ?_
            refine lv_aload_n hx hb dX9_seize_80 rfl (lv_at hl 2 rfl) ?_
            refine hk_getr hx hb hts hC_9 hown hW gx tt_9 14 ?o79 rfl kw_378 ⟨rfl, rfl, rfl⟩ f_x_14 dX9_seize_81 ?_
            case o79 => decide
            refine lv_aload_n hx hb dX9_seize_84 rfl (lv_at hl 2 rfl) ?_
            refine hk_geti hx hb hts hC_9 hown hW gx tt_9 2 ?o80 rfl kw_366 ⟨rfl, rfl, rfl⟩ f_x_2 dX9_seize_85 ?_
            case o80 => decide
            refine lv_aload_n hx hb dX9_seize_88 rfl (lv_at hl 2 rfl) ?_
            refine hk_geti hx hb hts hC_9 hown hW gx tt_9 2 ?o81 rfl kw_366 ⟨rfl, rfl, rfl⟩ f_x_2 dX9_seize_89 ?_
            case o81 => decide
            have hTo := hT
            refine hx_goi (hx_runV (As := [.ref qy, .int nw0, .int nw0]) (rest := []) ⟨hx, hb, hml, hown, hts⟩ hW gq_6 tt_2 (T := TX2) (N := 19) rfl (t_X2_balanceOn_v l dC dI dA L_41 h_64 H.size q_6 qy nw0 nw0 hT gq_6 (gqy.S hM) pqo (gpqo.S hM) ((hM.o gqy trivial rfl).2.trans f_qy_2) pqd (gpqd.S hM) ((hM.o gqy trivial rfl).2.trans f_qy_3) pqs (gpqs.S hM) ((hM.o gqy trivial rfl).2.trans f_qy_5) pqk (gpqk.S hM) ((hM.o gqy trivial rfl).2.trans f_qy_4) pqt (gpqt.S hM) ((hM.o gqy trivial rfl).2.trans f_qy_1) q_38 gq_38 fq_38 q_39 gq_39 fq_39 pof (hx_afS hM gpqo rfl af_pqo) pdf (hx_afS hM gpqd rfl af_pqd) psm (hx_afS hM gpqs rfl af_pqs) pkf (hx_afS hM gpqk rfl af_pqk) pst (hx_afS hM gpqt rfl af_pqt) fa_40 nfa_40 fv_18 ffv_18 nw0 f_62 i2 f_65 fv_22 ffv_22 fv_30 ffv_30 n0 ((hM.o gqy trivial rfl).1.trans f_qy_0) (A (plf i1.toInt.toNat).toInt.toNat).2.1 (by rw [← nfa_40]; exact (hAC i1.toNatClampNeg (by unfold Int32.toNatClampNeg; omega) (by unfold Int32.toNatClampNeg; omega) _ _ fo_9 fq_38).2.2.2.1 _ fq_39) (hAB _).1 ⟨?o82, ?o83⟩ ⟨?o84, ?o85⟩ hps) (cwV 3 hts (hx_gV kw_868 kw_922 kw_866 kw_867 kw_110) rfl rfl rfl (by decide +kernel) ⟨Nat.le_of_ble_eq_true rfl, Nat.le_of_ble_eq_true rfl⟩) rfl hl.1 rfl (Nat.le_of_ble_eq_true rfl) dX9_seize_92 ⟨Nat.le_of_ble_eq_true rfl, Nat.le_of_ble_eq_true rfl⟩) hW (fun r_69 L_67 h_68 H locs p_70 hW => ?_)
            case o82 => omega
            case o83 => omega
            case o84 => omega
            case o85 => omega
            obtain ⟨hr_71, hT, hs⟩ := p_70
            replace hT : hx_T T_tb L_67 h_68 := hT
            replace hs : hx_S T_tb [] L_41 h_64 L_67 h_68 := hs
            replace f_x_10 := (hs.o gx trivial rfl).2.trans f_x_10
            replace f_x_14 := (hs.o gx trivial rfl).2.trans f_x_14
            replace f_x_11 := (hs.o gx trivial rfl).1.trans f_x_11
            replace f_x_2 := (hs.o gx trivial rfl).1.trans f_x_2
            replace ffv_18 := (hs.o gq_6 trivial rfl).1.trans ffv_18
            replace ffv_20 := (hs.o gq_6 trivial rfl).1.trans ffv_20
            replace ffv_22 := (hs.o gq_6 trivial rfl).1.trans ffv_22
            replace ffv_27 := (hs.o gq_6 trivial rfl).1.trans ffv_27
            replace ffv_30 := (hs.o gq_6 trivial rfl).1.trans ffv_30
            replace ffv_32 := (hs.o gq_6 trivial rfl).1.trans ffv_32
            replace ffv_34 := (hs.o gq_6 trivial rfl).1.trans ffv_34
            replace ffv_36 := (hs.o gq_6 trivial rfl).1.trans ffv_36
            replace fq_38 := (hs.o gq_6 trivial rfl).2.trans fq_38
            replace fq_39 := (hs.o gq_38 trivial rfl).2.trans fq_39
            replace f_62 := (hs.o gq_6 trivial rfl).1.trans f_62
            replace f_65 := (hs.o gq_6 trivial rfl).1.trans f_65
            replace pf_x_11 : ∀ j : Nat, (j : Int) < (h_68.2.1 x 11).toInt → h_68.2.2 qc j ≠ none := by
              intro j hj; rw [(hs.o gx trivial rfl).1] at hj; rw [(hs.a gqc rfl j).2]; exact pf_x_11 j hj
            replace cl_qc_13 : hx_col 100 h_68 qc 13 = odf := (hx_col_S hs hTo gqc tt_45 tt_2 rfl rfl).trans cl_qc_13
            replace cl_qc_14 : hx_col 100 h_68 qc 14 = wkf := (hx_col_S hs hTo gqc tt_45 tt_2 rfl rfl).trans cl_qc_14
            replace cl_qc_15 : hx_col 100 h_68 qc 15 = owf := (hx_col_S hs hTo gqc tt_45 tt_2 rfl rfl).trans cl_qc_15
            replace cl_qc_18 : hx_col 100 h_68 qc 18 = svf := (hx_col_S hs hTo gqc tt_45 tt_2 rfl rfl).trans cl_qc_18
            replace cl_qc_10 : hx_col 100 h_68 qc 10 = fof := (hx_col_S hs hTo gqc tt_45 tt_2 rfl rfl).trans cl_qc_10
            replace cl_qc_11 : hx_col 100 h_68 qc 11 = hrf := (hx_col_S hs hTo gqc tt_45 tt_2 rfl rfl).trans cl_qc_11
            replace cl_qc_12 : hx_col 100 h_68 qc 12 = udf := (hx_col_S hs hTo gqc tt_45 tt_2 rfl rfl).trans cl_qc_12
            replace nfc_63 : hx_col 100 h_68 qc 16 = fc_63 := (hx_col_S hs hTo gqc tt_45 tt_2 rfl rfl).trans nfc_63
            replace nfc_66 : hx_col 100 h_68 qc 17 = fc_66 := (hx_col_S hs hTo gqc tt_45 tt_2 rfl rfl).trans nfc_66
            replace nu_qc : hx_num 100 h_68 qc 0 (cn0.toInt) := hx_num_S hs hTo gqc tt_45 tt_2 rfl rfl nu_qc
            replace hAC : hv_AC h_68 qc plf cn0.toInt A := hv_AC_S hs hTo gqc tt_45 tt_2 rfl tt_0 rfl rfl rfl rfl rfl rfl rfl hAC
            replace fo_9 := (hs.a gqc rfl _).2.trans fo_9
            replace nfa_40 : h_68.2.1 q_39 = fa_40 := (funext fun j => (hs.a gq_39 rfl j).1).trans nfa_40
            replace hM := hM.tr (hs.mono ?o86)
            case o86 => decide
            replace gx := gx.S hs
            replace gqc := gqc.S hs
            replace gq_6 := gq_6.S hs
            replace gq_38 := gq_38.S hs
            replace gq_39 := gq_39.S hs
            refine hx_reti hx hb hr hlk hW ⟨⟨fc_63, fc_66, nfc_63, nfc_66, (Or.inr ⟨⟨⟨?o87, ?o88⟩, (by rw [show szf i1.toInt.toNat = x_10 from cx_10.symm]; omega), ?o89, (by rw [← hst9]; omega)⟩, (by have h9 := hr_71.1; rw [show fv_30.toInt = ((i1.toInt.toNat : Nat) : Int) from by rw [cq_31]; omega] at h9; rw [cq_19, cq_23] at h9; exact h9), dfc_63, dfc_66⟩)⟩, hT, hM⟩ dX9_seize_95
            case o87 => omega
            case o88 => omega
            case o89 => omega
          · skip
            refine lv_ldc (v := -1000000) hx hb hown (hts _ kw_684) dX9_seize_63 ?_
            refine hx_reti hx hb hr hlk hW ⟨⟨szf, gdf, cl_qc_16, cl_qc_17, (Or.inl ⟨(fun hc => by have h1 := hc.2.2.2; rw [← hst9] at h1; omega), ?o90, rfl, rfl⟩)⟩, hT, hM⟩ dX9_seize_65
            case o90 => decide
      · skip
        replace hr_16 := hr_16.resolve_right (fun z9 => absurd (c_17.symm.trans z9.1) ?o91)
        case o91 => decide
        replace hr_16 := hr_16.2
        refine lv_ldc (v := -1000000) hx hb hown (hts _ kw_684) dX9_seize_29 ?_
        refine hx_reti hx hb hr hlk hW ⟨⟨szf, gdf, cl_qc_16, cl_qc_17, (Or.inl ⟨(fun hc => by have h1 := hc.2.2.1; omega), ?o92, rfl, rfl⟩)⟩, hT, hM⟩ dX9_seize_31
        case o92 => decide


set_option maxHeartbeats 4000000 in
set_option maxRecDepth 100000 in
theorem t_X9_gaol_v (l : Launch) (dC : Nat → ClassId) (dI : Nat → Nat → Nat) (dA : Nat → ClassId) (L : List Nat) (h : hx_h) (sz : Nat) (b0 : hx_z) (x : Nat) (i1 : Int32) (hT : hx_T T_tb L h) (gx : hx_g L h x 9) (qp : Nat) (gqp : hx_g L h qp 44) (f_x_7 : h.2.2 x 7 = some qp) (qc : Nat) (gqc : hx_g L h qc 45) (f_x_10 : h.2.2 x 10 = some qc) (qy : Nat) (gqy : hx_g L h qy 3) (f_x_14 : h.2.2 x 14 = some qy) (pqo : Nat) (gpqo : hx_g L h pqo 23) (f_qy_2 : h.2.2 qy 2 = some pqo) (pqd : Nat) (gpqd : hx_g L h pqd 24) (f_qy_3 : h.2.2 qy 3 = some pqd) (pqs : Nat) (gpqs : hx_g L h pqs 26) (f_qy_5 : h.2.2 qy 5 = some pqs) (pqk : Nat) (gpqk : hx_g L h pqk 25) (f_qy_4 : h.2.2 qy 4 = some pqk) (pqt : Nat) (gpqt : hx_g L h pqt 22) (f_qy_1 : h.2.2 qy 1 = some pqt) (pof : Nat → Int32) (af_pqo : h.2.1 pqo = pof) (pdf : Nat → Int32) (af_pqd : h.2.1 pqd = pdf) (psm : Nat → Int32) (af_pqs : h.2.1 pqs = psm) (pkf : Nat → Int32) (af_pqk : h.2.1 pqk = pkf) (pst : Nat → Int32) (af_pqt : h.2.1 pqt = pst) (cn0 : Int32) (f_x_11 : h.2.1 x 11 = cn0) (nw0 : Int32) (f_x_2 : h.2.1 x 2 = nw0) (n0 : Int32) (f_qy_0 : h.2.1 qy 0 = n0) (pn0 : Int32) (f_x_8 : h.2.1 x 8 = pn0) (odf : Nat → Int32) (cl_qc_13 : hx_col 100 h qc 13 = odf) (wkf : Nat → Int32) (cl_qc_14 : hx_col 100 h qc 14 = wkf) (owf : Nat → Int32) (cl_qc_15 : hx_col 100 h qc 15 = owf) (szf : Nat → Int32) (cl_qc_16 : hx_col 100 h qc 16 = szf) (gdf : Nat → Int32) (cl_qc_17 : hx_col 100 h qc 17 = gdf) (svf : Nat → Int32) (cl_qc_18 : hx_col 100 h qc 18 = svf) (fof : Nat → Int32) (cl_qc_10 : hx_col 100 h qc 10 = fof) (hrf : Nat → Int32) (cl_qc_11 : hx_col 100 h qc 11 = hrf) (udf : Nat → Int32) (cl_qc_12 : hx_col 100 h qc 12 = udf) (ddf : Nat → Int32) (cl_qp_7 : hx_col 40 h qp 7 = ddf) (nu_qp : hx_num 40 h qp 0 (pn0.toInt)) (nu_qc : hx_num 100 h qc 0 (cn0.toInt)) (agf plf : Nat → Int32) (A : Nat → hv_act) (hDF : hw_DF h qc qp 2 agf cn0.toInt) (hAC : hv_AC h qc plf cn0.toInt A) (hAB : ∀ j : Nat, (∀ k, 0 ≤ (A j).2.1 k ∧ (A j).2.1 k ≤ 9999) ∧ hv_OK (A j).2.2) (hCB : hz_CB odf wkf owf szf gdf svf) (hps : ∀ j, j < 600 → 0 ≤ (psm j).toInt ∧ (psm j).toInt ≤ 610000) (pf_x_8 : ∀ j : Nat, (j : Int) < (h.2.1 x 8).toInt → h.2.2 qp j ≠ none) (pf_x_11 : ∀ j : Nat, (j : Int) < (h.2.1 x 11).toInt → h.2.2 qc j ≠ none) : Met l yX9_gaol (Cond.code yX9_gaol cX9_gaol 4 (some .int) :: hx_all) ({ frames := 5, cells := 0, slots := 0, locals := 120 }) (va_Pc [.ref x, .int i1] (hx_BX T_tb (P_ty dA) (dC, dI) vwCl L h sz b0)) (va_Qi (fun (r : Int32) (u : List Nat × hx_h) => (∃ (svf1 : Nat → Int32), hx_col 100 u.2 qc 18 = svf1 ∧ (hz_GS (hz_GC cn0.toInt i1.toInt (szf i1.toInt.toNat).toInt (ddf (agf i1.toInt.toNat).toInt.toNat).toInt (hz_st (fof i1.toInt.toNat).toInt (hrf i1.toInt.toNat).toInt (udf i1.toInt.toNat).toInt (odf i1.toInt.toNat).toInt (svf i1.toInt.toNat).toInt (hz_rs (svf i1.toInt.toNat).toInt (hz_bl (odf i1.toInt.toNat).toInt (szf i1.toInt.toNat).toInt (gdf i1.toInt.toNat).toInt (owf i1.toInt.toNat).toInt ((A (plf i1.toInt.toNat).toInt.toNat).2.1 12) nw0.toInt (hx_ps pof pdf psm pkf pst nw0.toInt nw0.toInt ((i1.toInt.toNat : Nat) : Int) n0.toInt.toNat)) nw0.toInt) (hz_ms (odf i1.toInt.toNat).toInt (svf i1.toInt.toNat).toInt (wkf i1.toInt.toNat).toInt (hz_al (owf i1.toInt.toNat).toInt (szf i1.toInt.toNat).toInt ((A (plf i1.toInt.toNat).toInt.toNat).2.1 12) nw0.toInt) (hz_pdy (odf i1.toInt.toNat).toInt (szf i1.toInt.toNat).toInt (gdf i1.toInt.toNat).toInt nw0.toInt (hx_ps pof pdf psm pkf pst nw0.toInt nw0.toInt ((i1.toInt.toNat : Nat) : Int) n0.toInt.toNat)) nw0.toInt) ((A (plf i1.toInt.toNat).toInt.toNat).2.1 4) ((A (plf i1.toInt.toNat).toInt.toNat).2.1 5) nw0.toInt)) i1.toInt.toNat nw0 r (hz_mi (hz_ru (hz_rs (svf i1.toInt.toNat).toInt (hz_bl (odf i1.toInt.toNat).toInt (szf i1.toInt.toNat).toInt (gdf i1.toInt.toNat).toInt (owf i1.toInt.toNat).toInt ((A (plf i1.toInt.toNat).toInt.toNat).2.1 12) nw0.toInt (hx_ps pof pdf psm pkf pst nw0.toInt nw0.toInt ((i1.toInt.toNat : Nat) : Int) n0.toInt.toNat)) nw0.toInt) 12 * (A (plf i1.toInt.toNat).toInt.toNat).2.1 6) ((A (plf i1.toInt.toNat).toInt.toNat).2.1 7)) svf svf1)) ∧ hx_T T_tb u.1 u.2 ∧ hx_S T_tb [(2, 18)] L h u.1 u.2) (hx_E T_tb (P_ty dA) (dC, dI) vwCl (hx_A L sz)) (hx_A L sz)) 0 0 (hx_A L sz) := by
  refine hx_metX (lv := [(0, .ref x), (1, .int i1)]) (by decide +kernel) rfl (Nat.le_of_ble_eq_true rfl) rfl ?_
  intro p e s m below meth c hx hb hml hr hlk hts0 hown hin hsz hW hZ ls hl
  have hts : ∀ w ∈ hx_all, w.before _ s = true := fun w hw => hts0 w (List.mem_cons_of_mem _ hw)
  have hown : s.vm.findClass "SmallCourt" = some m.cls := hown
  have hM : hx_S T_tb [(2, 18)] L h L h := hx_S.rf
  have b_cn0 := hT.gi gx tt_9 (k := 11) rfl
  rw [f_x_11] at b_cn0
  have b_cn0 : 0 ≤ cn0.toInt ∧ cn0.toInt ≤ 100 := b_cn0
  have b_nw0 := hT.gi gx tt_9 (k := 2) rfl
  rw [f_x_2] at b_nw0
  have b_nw0 : 0 ≤ nw0.toInt ∧ nw0.toInt ≤ 7999 := b_nw0
  have b_n0 := hT.gi gqy tt_3 (k := 0) rfl
  rw [f_qy_0] at b_n0
  have b_n0 : 0 ≤ n0.toInt ∧ n0.toInt ≤ 600 := b_n0
  have b_pn0 := hT.gi gx tt_9 (k := 8) rfl
  rw [f_x_8] at b_pn0
  have b_pn0 : 0 ≤ pn0.toInt ∧ pn0.toInt ≤ 40 := b_pn0
  refine lv_aload_n hx hb dX9_gaol_0 rfl (lv_at hl 0 rfl) ?_
  refine lv_iload_n hx hb dX9_gaol_1 rfl (lv_at hl 1 rfl) ?_
  have hTo := hT
  refine hx_goq (hx_runV (As := [.int i1]) (rest := []) ⟨hx, hb, hml, hown, hts⟩ hW gx tt_9 (T := TX9) (N := 20) rfl (t_X9_claimAt_2 l dC dI dA L h s.heap.size x i1 hT gx cn0 f_x_11 qc gqc f_x_10 pf_x_11) (cwV 1 hts (hx_gV kw_810 kw_807 kw_809 kw_25 kw_94) rfl rfl rfl (by decide +kernel) ⟨Nat.le_of_ble_eq_true rfl, Nat.le_of_ble_eq_true rfl⟩) rfl hl.1 rfl (Nat.le_of_ble_eq_true rfl) dX9_gaol_2 ⟨Nat.le_of_ble_eq_true rfl, Nat.le_of_ble_eq_true rfl⟩) hW (fun r_3 L_1 h_2 H locs p_4 hW => ?_)
  obtain ⟨hr_5, hT, hs⟩ := p_4
  replace hT : hx_T T_tb L_1 h_2 := hT
  replace hs : hx_S T_tb [] L h L_1 h_2 := hs
  replace f_x_7 := (hs.o gx trivial rfl).2.trans f_x_7
  replace f_x_10 := (hs.o gx trivial rfl).2.trans f_x_10
  replace f_x_14 := (hs.o gx trivial rfl).2.trans f_x_14
  replace f_x_11 := (hs.o gx trivial rfl).1.trans f_x_11
  replace f_x_2 := (hs.o gx trivial rfl).1.trans f_x_2
  replace f_x_8 := (hs.o gx trivial rfl).1.trans f_x_8
  replace pf_x_8 : ∀ j : Nat, (j : Int) < (h_2.2.1 x 8).toInt → h_2.2.2 qp j ≠ none := by
    intro j hj; rw [(hs.o gx trivial rfl).1] at hj; rw [(hs.a gqp rfl j).2]; exact pf_x_8 j hj
  replace pf_x_11 : ∀ j : Nat, (j : Int) < (h_2.2.1 x 11).toInt → h_2.2.2 qc j ≠ none := by
    intro j hj; rw [(hs.o gx trivial rfl).1] at hj; rw [(hs.a gqc rfl j).2]; exact pf_x_11 j hj
  replace cl_qc_13 : hx_col 100 h_2 qc 13 = odf := (hx_col_S hs hTo gqc tt_45 tt_2 rfl rfl).trans cl_qc_13
  replace cl_qc_14 : hx_col 100 h_2 qc 14 = wkf := (hx_col_S hs hTo gqc tt_45 tt_2 rfl rfl).trans cl_qc_14
  replace cl_qc_15 : hx_col 100 h_2 qc 15 = owf := (hx_col_S hs hTo gqc tt_45 tt_2 rfl rfl).trans cl_qc_15
  replace cl_qc_16 : hx_col 100 h_2 qc 16 = szf := (hx_col_S hs hTo gqc tt_45 tt_2 rfl rfl).trans cl_qc_16
  replace cl_qc_17 : hx_col 100 h_2 qc 17 = gdf := (hx_col_S hs hTo gqc tt_45 tt_2 rfl rfl).trans cl_qc_17
  replace cl_qc_18 : hx_col 100 h_2 qc 18 = svf := (hx_col_S hs hTo gqc tt_45 tt_2 rfl rfl).trans cl_qc_18
  replace cl_qc_10 : hx_col 100 h_2 qc 10 = fof := (hx_col_S hs hTo gqc tt_45 tt_2 rfl rfl).trans cl_qc_10
  replace cl_qc_11 : hx_col 100 h_2 qc 11 = hrf := (hx_col_S hs hTo gqc tt_45 tt_2 rfl rfl).trans cl_qc_11
  replace cl_qc_12 : hx_col 100 h_2 qc 12 = udf := (hx_col_S hs hTo gqc tt_45 tt_2 rfl rfl).trans cl_qc_12
  replace cl_qp_7 : hx_col 40 h_2 qp 7 = ddf := (hx_col_S hs hTo gqp tt_44 tt_4 rfl rfl).trans cl_qp_7
  replace nu_qp : hx_num 40 h_2 qp 0 (pn0.toInt) := hx_num_S hs hTo gqp tt_44 tt_4 rfl rfl nu_qp
  replace nu_qc : hx_num 100 h_2 qc 0 (cn0.toInt) := hx_num_S hs hTo gqc tt_45 tt_2 rfl rfl nu_qc
  replace hDF : hw_DF h_2 qc qp 2 agf cn0.toInt := hw_DF_S hs hTo gqc gqp tt_45 tt_2 rfl rfl rfl hDF
  replace hAC : hv_AC h_2 qc plf cn0.toInt A := hv_AC_S hs hTo gqc tt_45 tt_2 rfl tt_0 rfl rfl rfl rfl rfl rfl rfl hAC
  replace hM := hM.tr (hs.mono ?o0)
  case o0 => decide
  replace gx := gx.S hs
  replace gqp := gqp.S hs
  replace gqc := gqc.S hs
  obtain ⟨hr_5, hr_5B⟩ := hr_5
  have hr_5 : ∀ q, r_3 = some q → hx_g L_1 h_2 q 2 := hr_5
  rcases r_3 with _ | q_6
  · skip
    have k_7 : i1.toInt < 0 ∨ cn0.toInt ≤ i1.toInt := by
      rcases hr_5B with ⟨_, z⟩ | ⟨_, _, q, z, _⟩
      · exact z
      · cases z
    refine lv_astore_nN (lv' := [(2, .null), (0, .ref x), (1, .int i1)]) hx hb dX9_gaol_5 rfl hl ?o1 rfl (fun ls hl => ?_)
    case o1 => decide
    refine lv_aload_nN hx hb dX9_gaol_6 rfl (lv_at hl 0 rfl) ?_
    refine lv_ifnullN (tgt := 49) hx hb dX9_gaol_7 ?o2 ?_
    case o2 => decide
    refine lv_iconst (v := -1) hx hb dX9_gaol_49 ?o3 ?_
    case o3 => decide
    refine hx_reti hx hb hr hlk hW ⟨⟨svf, cl_qc_18, (Or.inl ⟨(fun hc => by have h1 := hc.1; omega), ?o4, rfl⟩)⟩, hT, hM⟩ dX9_gaol_50
    case o4 => decide
  · have gq_6 := hr_5 _ rfl
    have k_8 : 0 ≤ i1.toInt ∧ i1.toInt < cn0.toInt ∧ h_2.2.2 qc i1.toNatClampNeg = some q_6 := by
      rcases hr_5B with ⟨z, _⟩ | ⟨z1, z2, q, z3, z4⟩
      · cases z
      · cases z3; exact ⟨z1, z2, z4⟩
    have fo_9 := k_8.2.2
    have k_8 : 0 ≤ i1.toInt ∧ i1.toInt < cn0.toInt := ⟨k_8.1, k_8.2.1⟩
    refine lv_astore_n (lv' := [(2, .ref q_6), (0, .ref x), (1, .int i1)]) hx hb dX9_gaol_5 rfl hl ?o5 rfl (fun ls hl => ?_)
    case o5 => decide
    refine lv_aload_n hx hb dX9_gaol_6 rfl (lv_at hl 0 rfl) ?_
    refine lv_ifnull hx hb dX9_gaol_7 ?_
    refine lv_aload_n hx hb dX9_gaol_10 rfl (lv_at hl 0 rfl) ?_
    refine hx_geti hx hb hts hC_2 hown hW hT gq_6 tt_2 16 ?o6 rfl kw_759 ⟨rfl, rfl, rfl⟩ dX9_gaol_11 (fun x_10 ex_10 lx_10 ux_10 => ?_)
    case o6 => decide
    have fx_10 := ex_10.symm
    have cx_10 : x_10 = szf i1.toNatClampNeg := ?o7
    case o7 =>
      rw [ex_10, ← cl_qc_16]
      exact (hx_col_at fo_9 (by unfold Int32.toNatClampNeg; omega)).symm
    refine lv_iconst (v := -1) hx hb dX9_gaol_14 ?o8 ?_
    case o8 => decide
    refine hb_icmp_eq (zx := x_10.toInt) (zy := (-1)) (tgt := 49) hx hb rfl ?o9 dX9_gaol_15 ?o10 (fun c_11 => ?_) (fun c_11 => ?_)
    case o9 => decide
    case o10 => decide
    · skip
      refine lv_iconst (v := -1) hx hb dX9_gaol_49 ?o11 ?_
      case o11 => decide
      refine hx_reti hx hb hr hlk hW ⟨⟨svf, cl_qc_18, (Or.inl ⟨(fun hc => by have h1 := hc.2.1; rw [show szf i1.toInt.toNat = x_10 from cx_10.symm] at h1; omega), ?o12, rfl⟩)⟩, hT, hM⟩ dX9_gaol_50
      case o12 => decide
    · skip
      refine lv_aload_n hx hb dX9_gaol_18 rfl (lv_at hl 0 rfl) ?_
      refine hx_getn hx hb hts hC_2 hown hW hT gq_6 tt_2 2 ?o13 rfl kw_733 ⟨rfl, rfl, rfl⟩ dX9_gaol_19 (fun q_12 fq_12 gq_12 => ?_)
      case o13 => decide
      obtain ⟨dAq_12, dBq_12, dCq_12⟩ := hDF i1.toNatClampNeg (by unfold Int32.toNatClampNeg; omega) (by unfold Int32.toNatClampNeg; omega) _ _ fo_9 fq_12
      have dAq_12 : 0 ≤ (agf i1.toNatClampNeg).toInt := dAq_12
      have dBq_12 : (agf i1.toNatClampNeg).toInt < 40 := dBq_12
      have dUq_12 : 0 ≤ (agf i1.toInt.toNat).toInt ∧ (agf i1.toInt.toNat).toInt < 40 := ⟨dAq_12, dBq_12⟩
      have eoq_12 : h_2.2.2 qp (agf i1.toNatClampNeg).toNatClampNeg = some q_12 := dCq_12
      refine hx_geti hx hb hts hC_4 hown hW hT gq_12 tt_4 7 ?o14 rfl kw_623 ⟨rfl, rfl, rfl⟩ dX9_gaol_22 (fun x_13 ex_13 lx_13 ux_13 => ?_)
      case o14 => decide
      have fx_13 := ex_13.symm
      have cx_13 : x_13 = ddf (agf i1.toNatClampNeg).toNatClampNeg := ?o15
      case o15 =>
        rw [ex_13, ← cl_qp_7]
        exact (hx_col_at eoq_12 (by unfold Int32.toNatClampNeg; omega)).symm
      refine hb_if_ne (zx := x_13.toInt) (tgt := 49) hx hb rfl dX9_gaol_25 ?o16 (fun c_14 => ?_) (fun c_14 => ?_)
      case o16 => decide
      · skip
        refine lv_iconst (v := -1) hx hb dX9_gaol_49 ?o17 ?_
        case o17 => decide
        refine hx_reti hx hb hr hlk hW ⟨⟨svf, cl_qc_18, (Or.inl ⟨(fun hc => by have h1 := hc.2.2.1; rw [show ddf (agf i1.toInt.toNat).toInt.toNat = x_13 from cx_13.symm] at h1; omega), ?o18, rfl⟩)⟩, hT, hM⟩ dX9_gaol_50
        case o18 => decide
      · skip
        refine lv_aload_n hx hb dX9_gaol_28 rfl (lv_at hl 0 rfl) ?_
        refine lv_aload_n hx hb dX9_gaol_29 rfl (lv_at hl 1 rfl) ?_
        refine hk_getr hx hb hts hC_9 hown hW gx tt_9 14 ?o19 rfl kw_378 ⟨rfl, rfl, rfl⟩ f_x_14 dX9_gaol_30 ?_
        case o19 => decide
        refine lv_aload_n hx hb dX9_gaol_33 rfl (lv_at hl 1 rfl) ?_
        refine hk_geti hx hb hts hC_9 hown hW gx tt_9 2 ?o20 rfl kw_366 ⟨rfl, rfl, rfl⟩ f_x_2 dX9_gaol_34 ?_
        case o20 => decide
        refine lv_aload_n hx hb dX9_gaol_37 rfl (lv_at hl 1 rfl) ?_
        refine hk_geti hx hb hts hC_9 hown hW gx tt_9 2 ?o21 rfl kw_366 ⟨rfl, rfl, rfl⟩ f_x_2 dX9_gaol_38 ?_
        case o21 => decide
        obtain ⟨fv_15, efv_15⟩ : ∃ y : Int32, y = h_2.2.1 q_6 13 := ⟨_, rfl⟩
        have bfv_15 := hT.gi gq_6 tt_2 (k := 13) rfl
        rw [← efv_15] at bfv_15
        have bfv_15 : -2147483648 ≤ fv_15.toInt ∧ fv_15.toInt ≤ 2147483647 := bfv_15
        have ffv_15 := efv_15.symm
        have cq_16 : fv_15 = odf i1.toInt.toNat := ?o22
        case o22 =>
          rw [← ffv_15, ← cl_qc_13]
          exact (hx_col_at fo_9 (by unfold Int32.toNatClampNeg; omega)).symm
        obtain ⟨fv_17, efv_17⟩ : ∃ y : Int32, y = h_2.2.1 q_6 14 := ⟨_, rfl⟩
        have bfv_17 := hT.gi gq_6 tt_2 (k := 14) rfl
        rw [← efv_17] at bfv_17
        have bfv_17 : -2147483648 ≤ fv_17.toInt ∧ fv_17.toInt ≤ 2147483647 := bfv_17
        have ffv_17 := efv_17.symm
        have cq_18 : fv_17 = wkf i1.toInt.toNat := ?o23
        case o23 =>
          rw [← ffv_17, ← cl_qc_14]
          exact (hx_col_at fo_9 (by unfold Int32.toNatClampNeg; omega)).symm
        obtain ⟨fv_19, efv_19⟩ : ∃ y : Int32, y = h_2.2.1 q_6 15 := ⟨_, rfl⟩
        have bfv_19 := hT.gi gq_6 tt_2 (k := 15) rfl
        rw [← efv_19] at bfv_19
        have bfv_19 : -2147483648 ≤ fv_19.toInt ∧ fv_19.toInt ≤ 2147483647 := bfv_19
        have ffv_19 := efv_19.symm
        have cq_20 : fv_19 = owf i1.toInt.toNat := ?o24
        case o24 =>
          rw [← ffv_19, ← cl_qc_15]
          exact (hx_col_at fo_9 (by unfold Int32.toNatClampNeg; omega)).symm
        have cq_21 : x_10 = szf i1.toInt.toNat := ?o25
        case o25 =>
          rw [← fx_10, ← cl_qc_16]
          exact (hx_col_at fo_9 (by unfold Int32.toNatClampNeg; omega)).symm
        obtain ⟨fv_22, efv_22⟩ : ∃ y : Int32, y = h_2.2.1 q_6 17 := ⟨_, rfl⟩
        have bfv_22 := hT.gi gq_6 tt_2 (k := 17) rfl
        rw [← efv_22] at bfv_22
        have bfv_22 : -2147483648 ≤ fv_22.toInt ∧ fv_22.toInt ≤ 2147483647 := bfv_22
        have ffv_22 := efv_22.symm
        have cq_23 : fv_22 = gdf i1.toInt.toNat := ?o26
        case o26 =>
          rw [← ffv_22, ← cl_qc_17]
          exact (hx_col_at fo_9 (by unfold Int32.toNatClampNeg; omega)).symm
        obtain ⟨fv_24, efv_24⟩ : ∃ y : Int32, y = h_2.2.1 q_6 18 := ⟨_, rfl⟩
        have bfv_24 := hT.gi gq_6 tt_2 (k := 18) rfl
        rw [← efv_24] at bfv_24
        have bfv_24 : -2147483648 ≤ fv_24.toInt ∧ fv_24.toInt ≤ 2147483647 := bfv_24
        have ffv_24 := efv_24.symm
        have cq_25 : fv_24 = svf i1.toInt.toNat := ?o27
        case o27 =>
          rw [← ffv_24, ← cl_qc_18]
          exact (hx_col_at fo_9 (by unfold Int32.toNatClampNeg; omega)).symm
        have cb_26 := hCB i1.toInt.toNat (by omega); rw [← cq_16, ← cq_18, ← cq_20, ← cq_21, ← cq_23, ← cq_25] at cb_26
        obtain ⟨⟨cb_26al, cb_26ah⟩, ⟨cb_26bl, cb_26bh⟩, ⟨cb_26cl, cb_26ch⟩, ⟨cb_26dl, cb_26dh⟩, ⟨cb_26el, cb_26eh⟩, ⟨cb_26fl, cb_26fh⟩⟩ := cb_26
        obtain ⟨fv_27, efv_27⟩ : ∃ y : Int32, y = h_2.2.1 q_6 0 := ⟨_, rfl⟩
        have bfv_27 := hT.gi gq_6 tt_2 (k := 0) rfl
        rw [← efv_27] at bfv_27
        have bfv_27 : 0 ≤ fv_27.toInt ∧ fv_27.toInt ≤ 99 := bfv_27
        have ffv_27 := efv_27.symm
        have cq_28 : fv_27 = i1 := ?o28
        case o28 =>
          rw [← ffv_27]
          refine hx_num_at nu_qc fo_9 ?o29 ?o30
          case o29 => omega
          case o30 => omega
        obtain ⟨fv_29, efv_29⟩ : ∃ y : Int32, y = h_2.2.1 q_6 10 := ⟨_, rfl⟩
        have bfv_29 := hT.gi gq_6 tt_2 (k := 10) rfl
        rw [← efv_29] at bfv_29
        have bfv_29 : -1 ≤ fv_29.toInt ∧ fv_29.toInt ≤ 7999 := bfv_29
        have ffv_29 := efv_29.symm
        have cq_30 : fv_29 = fof i1.toInt.toNat := ?o31
        case o31 =>
          rw [← ffv_29, ← cl_qc_10]
          exact (hx_col_at fo_9 (by unfold Int32.toNatClampNeg; omega)).symm
        obtain ⟨fv_31, efv_31⟩ : ∃ y : Int32, y = h_2.2.1 q_6 11 := ⟨_, rfl⟩
        have bfv_31 := hT.gi gq_6 tt_2 (k := 11) rfl
        rw [← efv_31] at bfv_31
        have bfv_31 : -1 ≤ fv_31.toInt ∧ fv_31.toInt ≤ 7999 := bfv_31
        have ffv_31 := efv_31.symm
        have cq_32 : fv_31 = hrf i1.toInt.toNat := ?o32
        case o32 =>
          rw [← ffv_31, ← cl_qc_11]
          exact (hx_col_at fo_9 (by unfold Int32.toNatClampNeg; omega)).symm
        obtain ⟨fv_33, efv_33⟩ : ∃ y : Int32, y = h_2.2.1 q_6 12 := ⟨_, rfl⟩
        have bfv_33 := hT.gi gq_6 tt_2 (k := 12) rfl
        rw [← efv_33] at bfv_33
        have bfv_33 : 0 ≤ fv_33.toInt ∧ fv_33.toInt ≤ 5 := bfv_33
        have ffv_33 := efv_33.symm
        have cq_34 : fv_33 = udf i1.toInt.toNat := ?o33
        case o33 =>
          rw [← ffv_33, ← cl_qc_12]
          exact (hx_col_at fo_9 (by unfold Int32.toNatClampNeg; omega)).symm
        have hTo := hT
        obtain ⟨q_35, fq_35, gq_35⟩ := hv_rf hT gq_6 tt_2 (k := 3) (u := 0) rfl
        obtain ⟨q_36, fq_36, gq_36⟩ := hv_rf hT gq_35 tt_0 (k := 2) (u := 11) rfl
        obtain ⟨fa_37, nfa_37⟩ : ∃ g : Nat → Int32, h_2.2.1 q_36 = g := ⟨_, rfl⟩
        refine hx_goi (hx_runVX (As := [.ref qy, .int nw0, .int nw0]) (rest := []) ⟨hx, hb, hml, hown, hts⟩ hW gq_6 tt_2 (T := TX2) (N := 19) rfl (t_X2_stateOn_v l dC dI dA L_1 h_2 H.size b0 q_6 qy nw0 nw0 hT gq_6 (gqy.S hM) pqo (gpqo.S hM) ((hM.o gqy trivial rfl).2.trans f_qy_2) pqd (gpqd.S hM) ((hM.o gqy trivial rfl).2.trans f_qy_3) pqs (gpqs.S hM) ((hM.o gqy trivial rfl).2.trans f_qy_5) pqk (gpqk.S hM) ((hM.o gqy trivial rfl).2.trans f_qy_4) pqt (gpqt.S hM) ((hM.o gqy trivial rfl).2.trans f_qy_1) q_35 gq_35 fq_35 q_36 gq_36 fq_36 pof (hx_afS hM gpqo rfl af_pqo) pdf (hx_afS hM gpqd rfl af_pqd) psm (hx_afS hM gpqs rfl af_pqs) pkf (hx_afS hM gpqk rfl af_pqk) pst (hx_afS hM gpqt rfl af_pqt) fa_37 nfa_37 fv_29 ffv_29 fv_31 ffv_31 fv_33 ffv_33 fv_15 ffv_15 fv_17 ffv_17 fv_19 ffv_19 x_10 fx_10 fv_22 ffv_22 fv_24 ffv_24 fv_27 ffv_27 n0 ((hM.o gqy trivial rfl).1.trans f_qy_0) (A (plf i1.toInt.toNat).toInt.toNat).2.1 (by rw [← nfa_37]; exact (hAC i1.toNatClampNeg (by unfold Int32.toNatClampNeg; omega) (by unfold Int32.toNatClampNeg; omega) _ _ fo_9 fq_35).2.2.2.1 _ fq_36) (hAB _).1 ⟨?o34, ?o35⟩ ⟨?o36, ?o37⟩ ⟨?o38, ?o39⟩ ⟨?o40, ?o41⟩ hps ⟨?o42, ?o43⟩) hZ (cwV 3 hts (hx_gV kw_907 kw_904 kw_905 kw_906 kw_110) rfl rfl rfl (by decide +kernel) ⟨Nat.le_of_ble_eq_true rfl, Nat.le_of_ble_eq_true rfl⟩) rfl hl.1 rfl (Nat.le_of_ble_eq_true rfl) dX9_gaol_41 ⟨Nat.le_of_ble_eq_true rfl, Nat.le_of_ble_eq_true rfl⟩) hW (fun r_40 L_38 h_39 H locs p_41 hW => ?_)
        case o34 => omega
        case o35 => omega
        case o36 => omega
        case o37 => omega
        case o38 => omega
        case o39 => omega
        case o40 => omega
        case o41 => omega
        case o42 => omega
        case o43 => omega
        obtain ⟨hr_42, hT, hs⟩ := p_41
        replace hT : hx_T T_tb L_38 h_39 := hT
        replace hs : hx_S T_tb [] L_1 h_2 L_38 h_39 := hs
        replace f_x_7 := (hs.o gx trivial rfl).2.trans f_x_7
        replace f_x_10 := (hs.o gx trivial rfl).2.trans f_x_10
        replace f_x_14 := (hs.o gx trivial rfl).2.trans f_x_14
        replace f_x_11 := (hs.o gx trivial rfl).1.trans f_x_11
        replace f_x_2 := (hs.o gx trivial rfl).1.trans f_x_2
        replace f_x_8 := (hs.o gx trivial rfl).1.trans f_x_8
        replace fx_10 := (hs.o gq_6 trivial rfl).1.trans fx_10
        replace fq_12 := (hs.o gq_6 trivial rfl).2.trans fq_12
        replace fx_13 := (hs.o gq_12 trivial rfl).1.trans fx_13
        replace ffv_15 := (hs.o gq_6 trivial rfl).1.trans ffv_15
        replace ffv_17 := (hs.o gq_6 trivial rfl).1.trans ffv_17
        replace ffv_19 := (hs.o gq_6 trivial rfl).1.trans ffv_19
        replace ffv_22 := (hs.o gq_6 trivial rfl).1.trans ffv_22
        replace ffv_24 := (hs.o gq_6 trivial rfl).1.trans ffv_24
        replace ffv_27 := (hs.o gq_6 trivial rfl).1.trans ffv_27
        replace ffv_29 := (hs.o gq_6 trivial rfl).1.trans ffv_29
        replace ffv_31 := (hs.o gq_6 trivial rfl).1.trans ffv_31
        replace ffv_33 := (hs.o gq_6 trivial rfl).1.trans ffv_33
        replace fq_35 := (hs.o gq_6 trivial rfl).2.trans fq_35
        replace fq_36 := (hs.o gq_35 trivial rfl).2.trans fq_36
        replace pf_x_8 : ∀ j : Nat, (j : Int) < (h_39.2.1 x 8).toInt → h_39.2.2 qp j ≠ none := by
          intro j hj; rw [(hs.o gx trivial rfl).1] at hj; rw [(hs.a gqp rfl j).2]; exact pf_x_8 j hj
        replace pf_x_11 : ∀ j : Nat, (j : Int) < (h_39.2.1 x 11).toInt → h_39.2.2 qc j ≠ none := by
          intro j hj; rw [(hs.o gx trivial rfl).1] at hj; rw [(hs.a gqc rfl j).2]; exact pf_x_11 j hj
        replace cl_qc_13 : hx_col 100 h_39 qc 13 = odf := (hx_col_S hs hTo gqc tt_45 tt_2 rfl rfl).trans cl_qc_13
        replace cl_qc_14 : hx_col 100 h_39 qc 14 = wkf := (hx_col_S hs hTo gqc tt_45 tt_2 rfl rfl).trans cl_qc_14
        replace cl_qc_15 : hx_col 100 h_39 qc 15 = owf := (hx_col_S hs hTo gqc tt_45 tt_2 rfl rfl).trans cl_qc_15
        replace cl_qc_16 : hx_col 100 h_39 qc 16 = szf := (hx_col_S hs hTo gqc tt_45 tt_2 rfl rfl).trans cl_qc_16
        replace cl_qc_17 : hx_col 100 h_39 qc 17 = gdf := (hx_col_S hs hTo gqc tt_45 tt_2 rfl rfl).trans cl_qc_17
        replace cl_qc_18 : hx_col 100 h_39 qc 18 = svf := (hx_col_S hs hTo gqc tt_45 tt_2 rfl rfl).trans cl_qc_18
        replace cl_qc_10 : hx_col 100 h_39 qc 10 = fof := (hx_col_S hs hTo gqc tt_45 tt_2 rfl rfl).trans cl_qc_10
        replace cl_qc_11 : hx_col 100 h_39 qc 11 = hrf := (hx_col_S hs hTo gqc tt_45 tt_2 rfl rfl).trans cl_qc_11
        replace cl_qc_12 : hx_col 100 h_39 qc 12 = udf := (hx_col_S hs hTo gqc tt_45 tt_2 rfl rfl).trans cl_qc_12
        replace cl_qp_7 : hx_col 40 h_39 qp 7 = ddf := (hx_col_S hs hTo gqp tt_44 tt_4 rfl rfl).trans cl_qp_7
        replace nu_qp : hx_num 40 h_39 qp 0 (pn0.toInt) := hx_num_S hs hTo gqp tt_44 tt_4 rfl rfl nu_qp
        replace nu_qc : hx_num 100 h_39 qc 0 (cn0.toInt) := hx_num_S hs hTo gqc tt_45 tt_2 rfl rfl nu_qc
        replace hDF : hw_DF h_39 qc qp 2 agf cn0.toInt := hw_DF_S hs hTo gqc gqp tt_45 tt_2 rfl rfl rfl hDF
        replace hAC : hv_AC h_39 qc plf cn0.toInt A := hv_AC_S hs hTo gqc tt_45 tt_2 rfl tt_0 rfl rfl rfl rfl rfl rfl rfl hAC
        replace fo_9 := (hs.a gqc rfl _).2.trans fo_9
        replace eoq_12 := (hs.a gqp rfl _).2.trans eoq_12
        replace nfa_37 : h_39.2.1 q_36 = fa_37 := (funext fun j => (hs.a gq_36 rfl j).1).trans nfa_37
        replace hM := hM.tr (hs.mono ?o44)
        case o44 => decide
        replace gx := gx.S hs
        replace gqp := gqp.S hs
        replace gqc := gqc.S hs
        replace gq_6 := gq_6.S hs
        replace gq_12 := gq_12.S hs
        replace gq_35 := gq_35.S hs
        replace gq_36 := gq_36.S hs
        have hst9 : r_40.toInt = (hz_st (fof i1.toInt.toNat).toInt (hrf i1.toInt.toNat).toInt (udf i1.toInt.toNat).toInt (odf i1.toInt.toNat).toInt (svf i1.toInt.toNat).toInt (hz_rs (svf i1.toInt.toNat).toInt (hz_bl (odf i1.toInt.toNat).toInt (szf i1.toInt.toNat).toInt (gdf i1.toInt.toNat).toInt (owf i1.toInt.toNat).toInt ((A (plf i1.toInt.toNat).toInt.toNat).2.1 12) nw0.toInt (hx_ps pof pdf psm pkf pst nw0.toInt nw0.toInt ((i1.toInt.toNat : Nat) : Int) n0.toInt.toNat)) nw0.toInt) (hz_ms (odf i1.toInt.toNat).toInt (svf i1.toInt.toNat).toInt (wkf i1.toInt.toNat).toInt (hz_al (owf i1.toInt.toNat).toInt (szf i1.toInt.toNat).toInt ((A (plf i1.toInt.toNat).toInt.toNat).2.1 12) nw0.toInt) (hz_pdy (odf i1.toInt.toNat).toInt (szf i1.toInt.toNat).toInt (gdf i1.toInt.toNat).toInt nw0.toInt (hx_ps pof pdf psm pkf pst nw0.toInt nw0.toInt ((i1.toInt.toNat : Nat) : Int) n0.toInt.toNat)) nw0.toInt) ((A (plf i1.toInt.toNat).toInt.toNat).2.1 4) ((A (plf i1.toInt.toNat).toInt.toNat).2.1 5) nw0.toInt) := (by have h9 := hr_42.1; rw [show fv_27.toInt = ((i1.toInt.toNat : Nat) : Int) from by rw [cq_28]; omega] at h9; rw [cq_30, cq_32, cq_34, cq_16, cq_25, cq_21, cq_23, cq_20, cq_18] at h9; exact h9)
        refine lv_bipush (v := 6) hx hb dX9_gaol_44 ?o45 ?_
        case o45 => decide
        refine hb_icmp_eq (zx := r_40.toInt) (zy := 6) (tgt := 51) hx hb rfl ?o46 dX9_gaol_46 ?o47 (fun c_44 => ?_) (fun c_44 => ?_)
        case o46 => decide
        case o47 => decide
        · skip
          refine lv_aload_n hx hb dX9_gaol_51 rfl (lv_at hl 0 rfl) ?_
          refine lv_aload_n hx hb dX9_gaol_52 rfl (lv_at hl 1 rfl) ?_
          refine hk_getr hx hb hts hC_9 hown hW gx tt_9 14 ?o48 rfl kw_378 ⟨rfl, rfl, rfl⟩ f_x_14 dX9_gaol_53 ?_
          case o48 => decide
          refine lv_aload_n hx hb dX9_gaol_56 rfl (lv_at hl 1 rfl) ?_
          refine hk_geti hx hb hts hC_9 hown hW gx tt_9 2 ?o49 rfl kw_366 ⟨rfl, rfl, rfl⟩ f_x_2 dX9_gaol_57 ?_
          case o49 => decide
          refine lv_aload_n hx hb dX9_gaol_60 rfl (lv_at hl 1 rfl) ?_
          refine hk_geti hx hb hts hC_9 hown hW gx tt_9 2 ?o50 rfl kw_366 ⟨rfl, rfl, rfl⟩ f_x_2 dX9_gaol_61 ?_
          case o50 => decide
          have hTo := hT
          refine hx_goi (hx_runV (As := [.ref qy, .int nw0, .int nw0]) (rest := []) ⟨hx, hb, hml, hown, hts⟩ hW gq_6 tt_2 (T := TX2) (N := 19) rfl (t_X2_restOn_v l dC dI dA L_38 h_39 H.size q_6 qy nw0 nw0 hT gq_6 (gqy.S hM) pqo (gpqo.S hM) ((hM.o gqy trivial rfl).2.trans f_qy_2) pqd (gpqd.S hM) ((hM.o gqy trivial rfl).2.trans f_qy_3) pqs (gpqs.S hM) ((hM.o gqy trivial rfl).2.trans f_qy_5) pqk (gpqk.S hM) ((hM.o gqy trivial rfl).2.trans f_qy_4) pqt (gpqt.S hM) ((hM.o gqy trivial rfl).2.trans f_qy_1) q_35 gq_35 fq_35 q_36 gq_36 fq_36 pof (hx_afS hM gpqo rfl af_pqo) pdf (hx_afS hM gpqd rfl af_pqd) psm (hx_afS hM gpqs rfl af_pqs) pkf (hx_afS hM gpqk rfl af_pqk) pst (hx_afS hM gpqt rfl af_pqt) fa_37 nfa_37 fv_15 ffv_15 x_10 fx_10 fv_22 ffv_22 fv_19 ffv_19 fv_24 ffv_24 fv_27 ffv_27 n0 ((hM.o gqy trivial rfl).1.trans f_qy_0) (A (plf i1.toInt.toNat).toInt.toNat).2.1 (by rw [← nfa_37]; exact (hAC i1.toNatClampNeg (by unfold Int32.toNatClampNeg; omega) (by unfold Int32.toNatClampNeg; omega) _ _ fo_9 fq_35).2.2.2.1 _ fq_36) (hAB _).1 ⟨?o51, ?o52⟩ ⟨?o53, ?o54⟩ hps) (cwV 3 hts (hx_gV kw_861 kw_927 kw_859 kw_860 kw_110) rfl rfl rfl (by decide +kernel) ⟨Nat.le_of_ble_eq_true rfl, Nat.le_of_ble_eq_true rfl⟩) rfl hl.1 rfl (Nat.le_of_ble_eq_true rfl) dX9_gaol_64 ⟨Nat.le_of_ble_eq_true rfl, Nat.le_of_ble_eq_true rfl⟩) hW (fun r_47 L_45 h_46 H locs p_48 hW => ?_)
          case o51 => omega
          case o52 => omega
          case o53 => omega
          case o54 => omega
          obtain ⟨hr_49, hT, hs⟩ := p_48
          replace hT : hx_T T_tb L_45 h_46 := hT
          replace hs : hx_S T_tb [] L_38 h_39 L_45 h_46 := hs
          replace f_x_7 := (hs.o gx trivial rfl).2.trans f_x_7
          replace f_x_10 := (hs.o gx trivial rfl).2.trans f_x_10
          replace f_x_14 := (hs.o gx trivial rfl).2.trans f_x_14
          replace f_x_11 := (hs.o gx trivial rfl).1.trans f_x_11
          replace f_x_2 := (hs.o gx trivial rfl).1.trans f_x_2
          replace f_x_8 := (hs.o gx trivial rfl).1.trans f_x_8
          replace fx_10 := (hs.o gq_6 trivial rfl).1.trans fx_10
          replace fq_12 := (hs.o gq_6 trivial rfl).2.trans fq_12
          replace fx_13 := (hs.o gq_12 trivial rfl).1.trans fx_13
          replace ffv_15 := (hs.o gq_6 trivial rfl).1.trans ffv_15
          replace ffv_17 := (hs.o gq_6 trivial rfl).1.trans ffv_17
          replace ffv_19 := (hs.o gq_6 trivial rfl).1.trans ffv_19
          replace ffv_22 := (hs.o gq_6 trivial rfl).1.trans ffv_22
          replace ffv_24 := (hs.o gq_6 trivial rfl).1.trans ffv_24
          replace ffv_27 := (hs.o gq_6 trivial rfl).1.trans ffv_27
          replace ffv_29 := (hs.o gq_6 trivial rfl).1.trans ffv_29
          replace ffv_31 := (hs.o gq_6 trivial rfl).1.trans ffv_31
          replace ffv_33 := (hs.o gq_6 trivial rfl).1.trans ffv_33
          replace fq_35 := (hs.o gq_6 trivial rfl).2.trans fq_35
          replace fq_36 := (hs.o gq_35 trivial rfl).2.trans fq_36
          replace pf_x_8 : ∀ j : Nat, (j : Int) < (h_46.2.1 x 8).toInt → h_46.2.2 qp j ≠ none := by
            intro j hj; rw [(hs.o gx trivial rfl).1] at hj; rw [(hs.a gqp rfl j).2]; exact pf_x_8 j hj
          replace pf_x_11 : ∀ j : Nat, (j : Int) < (h_46.2.1 x 11).toInt → h_46.2.2 qc j ≠ none := by
            intro j hj; rw [(hs.o gx trivial rfl).1] at hj; rw [(hs.a gqc rfl j).2]; exact pf_x_11 j hj
          replace cl_qc_13 : hx_col 100 h_46 qc 13 = odf := (hx_col_S hs hTo gqc tt_45 tt_2 rfl rfl).trans cl_qc_13
          replace cl_qc_14 : hx_col 100 h_46 qc 14 = wkf := (hx_col_S hs hTo gqc tt_45 tt_2 rfl rfl).trans cl_qc_14
          replace cl_qc_15 : hx_col 100 h_46 qc 15 = owf := (hx_col_S hs hTo gqc tt_45 tt_2 rfl rfl).trans cl_qc_15
          replace cl_qc_16 : hx_col 100 h_46 qc 16 = szf := (hx_col_S hs hTo gqc tt_45 tt_2 rfl rfl).trans cl_qc_16
          replace cl_qc_17 : hx_col 100 h_46 qc 17 = gdf := (hx_col_S hs hTo gqc tt_45 tt_2 rfl rfl).trans cl_qc_17
          replace cl_qc_18 : hx_col 100 h_46 qc 18 = svf := (hx_col_S hs hTo gqc tt_45 tt_2 rfl rfl).trans cl_qc_18
          replace cl_qc_10 : hx_col 100 h_46 qc 10 = fof := (hx_col_S hs hTo gqc tt_45 tt_2 rfl rfl).trans cl_qc_10
          replace cl_qc_11 : hx_col 100 h_46 qc 11 = hrf := (hx_col_S hs hTo gqc tt_45 tt_2 rfl rfl).trans cl_qc_11
          replace cl_qc_12 : hx_col 100 h_46 qc 12 = udf := (hx_col_S hs hTo gqc tt_45 tt_2 rfl rfl).trans cl_qc_12
          replace cl_qp_7 : hx_col 40 h_46 qp 7 = ddf := (hx_col_S hs hTo gqp tt_44 tt_4 rfl rfl).trans cl_qp_7
          replace nu_qp : hx_num 40 h_46 qp 0 (pn0.toInt) := hx_num_S hs hTo gqp tt_44 tt_4 rfl rfl nu_qp
          replace nu_qc : hx_num 100 h_46 qc 0 (cn0.toInt) := hx_num_S hs hTo gqc tt_45 tt_2 rfl rfl nu_qc
          replace hDF : hw_DF h_46 qc qp 2 agf cn0.toInt := hw_DF_S hs hTo gqc gqp tt_45 tt_2 rfl rfl rfl hDF
          replace hAC : hv_AC h_46 qc plf cn0.toInt A := hv_AC_S hs hTo gqc tt_45 tt_2 rfl tt_0 rfl rfl rfl rfl rfl rfl rfl hAC
          replace fo_9 := (hs.a gqc rfl _).2.trans fo_9
          replace eoq_12 := (hs.a gqp rfl _).2.trans eoq_12
          replace nfa_37 : h_46.2.1 q_36 = fa_37 := (funext fun j => (hs.a gq_36 rfl j).1).trans nfa_37
          replace hM := hM.tr (hs.mono ?o55)
          case o55 => decide
          replace gx := gx.S hs
          replace gqp := gqp.S hs
          replace gqc := gqc.S hs
          replace gq_6 := gq_6.S hs
          replace gq_12 := gq_12.S hs
          replace gq_35 := gq_35.S hs
          replace gq_36 := gq_36.S hs
          have hrs9 : r_47.toInt = (hz_rs (svf i1.toInt.toNat).toInt (hz_bl (odf i1.toInt.toNat).toInt (szf i1.toInt.toNat).toInt (gdf i1.toInt.toNat).toInt (owf i1.toInt.toNat).toInt ((A (plf i1.toInt.toNat).toInt.toNat).2.1 12) nw0.toInt (hx_ps pof pdf psm pkf pst nw0.toInt nw0.toInt ((i1.toInt.toNat : Nat) : Int) n0.toInt.toNat)) nw0.toInt) := (by have h9 := hr_49.1; rw [show fv_27.toInt = ((i1.toInt.toNat : Nat) : Int) from by rw [cq_28]; omega] at h9; rw [cq_25, cq_16, cq_21, cq_23, cq_20] at h9; exact h9)
          refine lv_bipush (v := 12) hx hb dX9_gaol_67 ?o56 ?_
          case o56 => decide
          have hTo := hT
          have zc_12 : (12 : Int32).toInt = 12 := ?o57
          case o57 => decide
          refine hx_goi (hx_runS (As := [.int r_47, .int (12 : Int32)]) (rest := []) ⟨hx, hb, hml, hown, hts⟩ hW (t_X9_roundUp_v l dC dI dA L_45 h_46 H.size r_47 (12 : Int32) hT) (va_cwS 2 hts (hx_gS kw_921 kw_928 kw_920 kw_94) rfl rfl rfl (by decide +kernel) ⟨Nat.le_of_ble_eq_true rfl, Nat.le_of_ble_eq_true rfl⟩) rfl hl.1 rfl (Nat.le_of_ble_eq_true rfl) dX9_gaol_69 ⟨Nat.le_of_ble_eq_true rfl, Nat.le_of_ble_eq_true rfl⟩) hW (fun r_53 L_51 h_52 H locs p_54 hW => ?_)
          obtain ⟨hr_55, hT, hs⟩ := p_54
          replace hT : hx_T T_tb L_51 h_52 := hT
          replace hs : hx_S T_tb [] L_45 h_46 L_51 h_52 := hs
          replace f_x_7 := (hs.o gx trivial rfl).2.trans f_x_7
          replace f_x_10 := (hs.o gx trivial rfl).2.trans f_x_10
          replace f_x_14 := (hs.o gx trivial rfl).2.trans f_x_14
          replace f_x_11 := (hs.o gx trivial rfl).1.trans f_x_11
          replace f_x_2 := (hs.o gx trivial rfl).1.trans f_x_2
          replace f_x_8 := (hs.o gx trivial rfl).1.trans f_x_8
          replace fx_10 := (hs.o gq_6 trivial rfl).1.trans fx_10
          replace fq_12 := (hs.o gq_6 trivial rfl).2.trans fq_12
          replace fx_13 := (hs.o gq_12 trivial rfl).1.trans fx_13
          replace ffv_15 := (hs.o gq_6 trivial rfl).1.trans ffv_15
          replace ffv_17 := (hs.o gq_6 trivial rfl).1.trans ffv_17
          replace ffv_19 := (hs.o gq_6 trivial rfl).1.trans ffv_19
          replace ffv_22 := (hs.o gq_6 trivial rfl).1.trans ffv_22
          replace ffv_24 := (hs.o gq_6 trivial rfl).1.trans ffv_24
          replace ffv_27 := (hs.o gq_6 trivial rfl).1.trans ffv_27
          replace ffv_29 := (hs.o gq_6 trivial rfl).1.trans ffv_29
          replace ffv_31 := (hs.o gq_6 trivial rfl).1.trans ffv_31
          replace ffv_33 := (hs.o gq_6 trivial rfl).1.trans ffv_33
          replace fq_35 := (hs.o gq_6 trivial rfl).2.trans fq_35
          replace fq_36 := (hs.o gq_35 trivial rfl).2.trans fq_36
          replace pf_x_8 : ∀ j : Nat, (j : Int) < (h_52.2.1 x 8).toInt → h_52.2.2 qp j ≠ none := by
            intro j hj; rw [(hs.o gx trivial rfl).1] at hj; rw [(hs.a gqp rfl j).2]; exact pf_x_8 j hj
          replace pf_x_11 : ∀ j : Nat, (j : Int) < (h_52.2.1 x 11).toInt → h_52.2.2 qc j ≠ none := by
            intro j hj; rw [(hs.o gx trivial rfl).1] at hj; rw [(hs.a gqc rfl j).2]; exact pf_x_11 j hj
          replace cl_qc_13 : hx_col 100 h_52 qc 13 = odf := (hx_col_S hs hTo gqc tt_45 tt_2 rfl rfl).trans cl_qc_13
          replace cl_qc_14 : hx_col 100 h_52 qc 14 = wkf := (hx_col_S hs hTo gqc tt_45 tt_2 rfl rfl).trans cl_qc_14
          replace cl_qc_15 : hx_col 100 h_52 qc 15 = owf := (hx_col_S hs hTo gqc tt_45 tt_2 rfl rfl).trans cl_qc_15
          replace cl_qc_16 : hx_col 100 h_52 qc 16 = szf := (hx_col_S hs hTo gqc tt_45 tt_2 rfl rfl).trans cl_qc_16
          replace cl_qc_17 : hx_col 100 h_52 qc 17 = gdf := (hx_col_S hs hTo gqc tt_45 tt_2 rfl rfl).trans cl_qc_17
          replace cl_qc_18 : hx_col 100 h_52 qc 18 = svf := (hx_col_S hs hTo gqc tt_45 tt_2 rfl rfl).trans cl_qc_18
          replace cl_qc_10 : hx_col 100 h_52 qc 10 = fof := (hx_col_S hs hTo gqc tt_45 tt_2 rfl rfl).trans cl_qc_10
          replace cl_qc_11 : hx_col 100 h_52 qc 11 = hrf := (hx_col_S hs hTo gqc tt_45 tt_2 rfl rfl).trans cl_qc_11
          replace cl_qc_12 : hx_col 100 h_52 qc 12 = udf := (hx_col_S hs hTo gqc tt_45 tt_2 rfl rfl).trans cl_qc_12
          replace cl_qp_7 : hx_col 40 h_52 qp 7 = ddf := (hx_col_S hs hTo gqp tt_44 tt_4 rfl rfl).trans cl_qp_7
          replace nu_qp : hx_num 40 h_52 qp 0 (pn0.toInt) := hx_num_S hs hTo gqp tt_44 tt_4 rfl rfl nu_qp
          replace nu_qc : hx_num 100 h_52 qc 0 (cn0.toInt) := hx_num_S hs hTo gqc tt_45 tt_2 rfl rfl nu_qc
          replace hDF : hw_DF h_52 qc qp 2 agf cn0.toInt := hw_DF_S hs hTo gqc gqp tt_45 tt_2 rfl rfl rfl hDF
          replace hAC : hv_AC h_52 qc plf cn0.toInt A := hv_AC_S hs hTo gqc tt_45 tt_2 rfl tt_0 rfl rfl rfl rfl rfl rfl rfl hAC
          replace fo_9 := (hs.a gqc rfl _).2.trans fo_9
          replace eoq_12 := (hs.a gqp rfl _).2.trans eoq_12
          replace nfa_37 : h_52.2.1 q_36 = fa_37 := (funext fun j => (hs.a gq_36 rfl j).1).trans nfa_37
          replace hM := hM.tr (hs.mono ?o58)
          case o58 => decide
          replace gx := gx.S hs
          replace gqp := gqp.S hs
          replace gqc := gqc.S hs
          replace gq_6 := gq_6.S hs
          replace gq_12 := gq_12.S hs
          replace gq_35 := gq_35.S hs
          replace gq_36 := gq_36.S hs
          have hru9 : r_53.toInt = hz_ru r_47.toInt 12 := hr_55
          have hrb9 := hz_ru12 (s := r_47.toInt) (by omega) (by omega); rw [← hru9] at hrb9
          refine lv_aload_n hx hb dX9_gaol_72 rfl (lv_at hl 0 rfl) ?_
          refine hk_getr hx hb hts hC_2 hown hW gq_6 tt_2 3 ?o59 rfl kw_736 ⟨rfl, rfl, rfl⟩ fq_35 dX9_gaol_73 ?_
          case o59 => decide
          refine hk_getr hx hb hts hC_0 hown hW gq_35 tt_0 2 ?o60 rfl kw_170 ⟨rfl, rfl, rfl⟩ fq_36 dX9_gaol_76 ?_
          case o60 => decide
          refine lv_bipush (v := 7) hx hb dX9_gaol_79 ?o61 ?_
          case o61 => decide
          refine hx_iald hx hb hW hT gq_36 tt_11 rfl ?o62 dX9_gaol_81 (fun x_56 ex_56 lx_56 ux_56 => ?_)
          case o62 => decide
          have ax_56 : x_56 = fa_37 (7 : Int32).toNatClampNeg := ex_56.trans (congrFun nfa_37 _)
          have hg7 : x_56.toInt = (A (plf i1.toInt.toNat).toInt.toNat).2.1 6 := ?o63
          case o63 =>
            rw [← show hv_rC fa_37 = (A (plf i1.toInt.toNat).toInt.toNat).2.1 from (by rw [← nfa_37]; exact (hAC i1.toNatClampNeg (by unfold Int32.toNatClampNeg; omega) (by unfold Int32.toNatClampNeg; omega) _ _ fo_9 fq_35).2.2.2.1 _ fq_36), ax_56, show (7 : Int32).toNatClampNeg = 7 from by decide]
            rfl
          have hg7b : 0 ≤ (A (plf i1.toInt.toNat).toInt.toNat).2.1 6 ∧ (A (plf i1.toInt.toNat).toInt.toNat).2.1 6 ≤ 9999 := (hAB _).1 6; rw [← hg7] at hg7b
          refine lv_imul hx hb dX9_gaol_82 ?_
          refine lv_topi (fun x_57 ex_57 => ?_)
          have mx_57 : r_53.toInt = 0 → x_57.toInt = 0 := fun z => by rw [ex_57]; exact hx_mul0 z
          obtain ⟨m9, m9l, m9h⟩ := hz_mulg ⟨by omega, by omega⟩ ⟨by omega, by omega⟩ ex_57
          refine lv_istore_n (lv' := [(3, .int x_57), (2, .ref q_6), (0, .ref x), (1, .int i1)]) hx hb dX9_gaol_83 rfl hl ?o64 rfl (fun ls hl => ?_)
          case o64 => decide
          refine lv_aload_n hx hb dX9_gaol_84 rfl (lv_at hl 1 rfl) ?_
          refine lv_aload_n hx hb dX9_gaol_85 rfl (lv_at hl 2 rfl) ?_
          refine hk_geti hx hb hts hC_9 hown hW gx tt_9 2 ?o65 rfl kw_366 ⟨rfl, rfl, rfl⟩ f_x_2 dX9_gaol_86 ?_
          case o65 => decide
          have hTo := hT
          have cl_qc_18O := cl_qc_18
          have nu_qcO := nu_qc
          have fo_9O := fo_9
          refine hx_puti hx hb hts hC_2 hown hW hT (hx_S.rf (M := [(2, 18)])) gq_6 tt_2 18 ?o66 rfl kw_763 ⟨rfl, rfl, rfl⟩ rfl (x := nw0) (i32_r _) rfl rfl rfl (List.mem_singleton.mpr rfl) dX9_gaol_89 (fun H locs h_58 eh_58 hW hT hs => ?_)
          case o66 => decide
          replace f_x_7 := (hs.o gx trivial rfl).2.trans f_x_7
          replace f_x_10 := (hs.o gx trivial rfl).2.trans f_x_10
          replace f_x_14 := (hs.o gx trivial rfl).2.trans f_x_14
          replace f_x_11 := (hs.o gx trivial rfl).1.trans f_x_11
          replace f_x_2 := (hs.o gx trivial rfl).1.trans f_x_2
          replace f_x_8 := (hs.o gx trivial rfl).1.trans f_x_8
          replace fx_10 := (hs.o gq_6 trivial rfl).1.trans fx_10
          replace fq_12 := (hs.o gq_6 trivial rfl).2.trans fq_12
          replace fx_13 := (hs.o gq_12 trivial rfl).1.trans fx_13
          replace ffv_15 := (hs.o gq_6 trivial rfl).1.trans ffv_15
          replace ffv_17 := (hs.o gq_6 trivial rfl).1.trans ffv_17
          replace ffv_19 := (hs.o gq_6 trivial rfl).1.trans ffv_19
          replace ffv_22 := (hs.o gq_6 trivial rfl).1.trans ffv_22
          replace ffv_27 := (hs.o gq_6 trivial rfl).1.trans ffv_27
          replace ffv_29 := (hs.o gq_6 trivial rfl).1.trans ffv_29
          replace ffv_31 := (hs.o gq_6 trivial rfl).1.trans ffv_31
          replace ffv_33 := (hs.o gq_6 trivial rfl).1.trans ffv_33
          replace fq_35 := (hs.o gq_6 trivial rfl).2.trans fq_35
          replace fq_36 := (hs.o gq_35 trivial rfl).2.trans fq_36
          replace pf_x_8 : ∀ j : Nat, (j : Int) < (h_58.2.1 x 8).toInt → h_58.2.2 qp j ≠ none := by
            intro j hj; rw [(hs.o gx trivial rfl).1] at hj; rw [(hs.a gqp rfl j).2]; exact pf_x_8 j hj
          replace pf_x_11 : ∀ j : Nat, (j : Int) < (h_58.2.1 x 11).toInt → h_58.2.2 qc j ≠ none := by
            intro j hj; rw [(hs.o gx trivial rfl).1] at hj; rw [(hs.a gqc rfl j).2]; exact pf_x_11 j hj
          replace cl_qc_13 : hx_col 100 h_58 qc 13 = odf := (hx_col_S hs hTo gqc tt_45 tt_2 rfl rfl).trans cl_qc_13
          replace cl_qc_14 : hx_col 100 h_58 qc 14 = wkf := (hx_col_S hs hTo gqc tt_45 tt_2 rfl rfl).trans cl_qc_14
          replace cl_qc_15 : hx_col 100 h_58 qc 15 = owf := (hx_col_S hs hTo gqc tt_45 tt_2 rfl rfl).trans cl_qc_15
          replace cl_qc_16 : hx_col 100 h_58 qc 16 = szf := (hx_col_S hs hTo gqc tt_45 tt_2 rfl rfl).trans cl_qc_16
          replace cl_qc_17 : hx_col 100 h_58 qc 17 = gdf := (hx_col_S hs hTo gqc tt_45 tt_2 rfl rfl).trans cl_qc_17
          replace cl_qc_10 : hx_col 100 h_58 qc 10 = fof := (hx_col_S hs hTo gqc tt_45 tt_2 rfl rfl).trans cl_qc_10
          replace cl_qc_11 : hx_col 100 h_58 qc 11 = hrf := (hx_col_S hs hTo gqc tt_45 tt_2 rfl rfl).trans cl_qc_11
          replace cl_qc_12 : hx_col 100 h_58 qc 12 = udf := (hx_col_S hs hTo gqc tt_45 tt_2 rfl rfl).trans cl_qc_12
          replace cl_qp_7 : hx_col 40 h_58 qp 7 = ddf := (hx_col_S hs hTo gqp tt_44 tt_4 rfl rfl).trans cl_qp_7
          replace nu_qp : hx_num 40 h_58 qp 0 (pn0.toInt) := hx_num_S hs hTo gqp tt_44 tt_4 rfl rfl nu_qp
          replace nu_qc : hx_num 100 h_58 qc 0 (cn0.toInt) := hx_num_S hs hTo gqc tt_45 tt_2 rfl rfl nu_qc
          replace hDF : hw_DF h_58 qc qp 2 agf cn0.toInt := hw_DF_S hs hTo gqc gqp tt_45 tt_2 rfl rfl rfl hDF
          replace hAC : hv_AC h_58 qc plf cn0.toInt A := hv_AC_S hs hTo gqc tt_45 tt_2 rfl tt_0 rfl rfl rfl rfl rfl rfl rfl hAC
          replace fo_9 := (hs.a gqc rfl _).2.trans fo_9
          replace eoq_12 := (hs.a gqp rfl _).2.trans eoq_12
          replace nfa_37 : h_58.2.1 q_36 = fa_37 := (funext fun j => (hs.a gq_36 rfl j).1).trans nfa_37
          replace ex_56 := ex_56.trans (hs.a gq_36 rfl _).1.symm
          replace hM := hM.tr (hs.mono ?o67)
          case o67 => decide
          replace gx := gx.S hs
          replace gqp := gqp.S hs
          replace gqc := gqc.S hs
          replace gq_6 := gq_6.S hs
          replace gq_12 := gq_12.S hs
          replace gq_35 := gq_35.S hs
          replace gq_36 := gq_36.S hs
          have f_59 : h_58.2.1 q_6 18 = nw0 := ?o68
          case o68 =>
            rw [eh_58]
            exact hx_pi_at _ _ _ _
          obtain ⟨fc_60, dfc_60⟩ : ∃ g : Nat → Int32, g = hx_up svf i1.toNatClampNeg nw0 := ⟨_, rfl⟩
          have nfc_60 : hx_col 100 h_58 qc 18 = fc_60 := ?o69
          case o69 =>
            rw [dfc_60, ← cl_qc_18O]
            exact hx_col_pi nu_qcO fo_9O (by unfold Int32.toNatClampNeg; omega) eh_58
          refine lv_iload_n hx hb dX9_gaol_92 rfl (lv_at hl 0 rfl) ?_
          refine lv_aload_n hx hb dX9_gaol_93 rfl (lv_at hl 1 rfl) ?_
          refine hk_getr hx hb hts hC_2 hown hW gq_6 tt_2 3 ?o70 rfl kw_736 ⟨rfl, rfl, rfl⟩ fq_35 dX9_gaol_94 ?_
          case o70 => decide
          refine hk_getr hx hb hts hC_0 hown hW gq_35 tt_0 2 ?o71 rfl kw_170 ⟨rfl, rfl, rfl⟩ fq_36 dX9_gaol_97 ?_
          case o71 => decide
          refine lv_bipush (v := 8) hx hb dX9_gaol_100 ?o72 ?_
          case o72 => decide
          refine hx_iald hx hb hW hT gq_36 tt_11 rfl ?o73 dX9_gaol_102 (fun x_61 ex_61 lx_61 ux_61 => ?_)
          case o73 => decide
          have ax_61 : x_61 = fa_37 (8 : Int32).toNatClampNeg := ex_61.trans (congrFun nfa_37 _)
          have hg8 : x_61.toInt = (A (plf i1.toInt.toNat).toInt.toNat).2.1 7 := ?o74
          case o74 =>
            rw [← show hv_rC fa_37 = (A (plf i1.toInt.toNat).toInt.toNat).2.1 from (by rw [← nfa_37]; exact (hAC i1.toNatClampNeg (by unfold Int32.toNatClampNeg; omega) (by unfold Int32.toNatClampNeg; omega) _ _ fo_9 fq_35).2.2.2.1 _ fq_36), ax_61, show (8 : Int32).toNatClampNeg = 8 from by decide]
            rfl
          have hg8b : 0 ≤ (A (plf i1.toInt.toNat).toInt.toNat).2.1 7 ∧ (A (plf i1.toInt.toNat).toInt.toNat).2.1 7 ≤ 9999 := (hAB _).1 7; rw [← hg8] at hg8b
          have hTo := hT
          refine va_mmin hx hb (hml.trans hl.1.symm) hown (hts _ kw_929) (hts _ kw_917) (hts _ kw_109) (hts _ kw_918) (Nat.le_of_ble_eq_true rfl) (Nat.le_of_ble_eq_true rfl) (Nat.le_of_ble_eq_true rfl) (Nat.le_of_ble_eq_true rfl) dX9_gaol_103 ?_
          refine lv_topi (fun x_62 ex_62 => ?_)
          have hmi9 := hz_mi_e ex_62
          refine hx_reti hx hb hr hlk hW ⟨⟨fc_60, nfc_60, (Or.inr ⟨⟨⟨?o75, ?o76⟩, (by rw [show szf i1.toInt.toNat = x_10 from cx_10.symm]; omega), (by rw [show ddf (agf i1.toInt.toNat).toInt.toNat = x_13 from cx_13.symm]; omega), (by rw [← hst9]; omega)⟩, (by rw [hmi9, m9, hg7, hg8, hru9, hrs9]), dfc_60⟩)⟩, hT, hM⟩ dX9_gaol_106
          case o75 => omega
          case o76 => omega
        · skip
          refine lv_iconst (v := -1) hx hb dX9_gaol_49 ?o77 ?_
          case o77 => decide
          refine hx_reti hx hb hr hlk hW ⟨⟨svf, cl_qc_18, (Or.inl ⟨(fun hc => by have h1 := hc.2.2.2; rw [← hst9] at h1; omega), ?o78, rfl⟩)⟩, hT, hM⟩ dX9_gaol_50
          case o78 => decide


set_option maxHeartbeats 4000000 in
set_option maxRecDepth 100000 in
theorem t_X9_state_v (l : Launch) (dC : Nat → ClassId) (dI : Nat → Nat → Nat) (dA : Nat → ClassId) (L : List Nat) (h : hx_h) (sz : Nat) (b0 : hx_z) (x : Nat) (i1 : Int32) (i2 : Int32) (i3 : Int32) (i4 : Int32) (hT : hx_T T_tb L h) (gx : hx_g L h x 9) (qc : Nat) (gqc : hx_g L h qc 45) (f_x_10 : h.2.2 x 10 = some qc) (qy : Nat) (gqy : hx_g L h qy 3) (f_x_14 : h.2.2 x 14 = some qy) (pqo : Nat) (gpqo : hx_g L h pqo 23) (f_qy_2 : h.2.2 qy 2 = some pqo) (pqd : Nat) (gpqd : hx_g L h pqd 24) (f_qy_3 : h.2.2 qy 3 = some pqd) (pqs : Nat) (gpqs : hx_g L h pqs 26) (f_qy_5 : h.2.2 qy 5 = some pqs) (pqk : Nat) (gpqk : hx_g L h pqk 25) (f_qy_4 : h.2.2 qy 4 = some pqk) (pqt : Nat) (gpqt : hx_g L h pqt 22) (f_qy_1 : h.2.2 qy 1 = some pqt) (pof : Nat → Int32) (af_pqo : h.2.1 pqo = pof) (pdf : Nat → Int32) (af_pqd : h.2.1 pqd = pdf) (psm : Nat → Int32) (af_pqs : h.2.1 pqs = psm) (pkf : Nat → Int32) (af_pqk : h.2.1 pqk = pkf) (pst : Nat → Int32) (af_pqt : h.2.1 pqt = pst) (cn0 : Int32) (f_x_11 : h.2.1 x 11 = cn0) (nw0 : Int32) (f_x_2 : h.2.1 x 2 = nw0) (n0 : Int32) (f_qy_0 : h.2.1 qy 0 = n0) (odf : Nat → Int32) (cl_qc_13 : hx_col 100 h qc 13 = odf) (wkf : Nat → Int32) (cl_qc_14 : hx_col 100 h qc 14 = wkf) (owf : Nat → Int32) (cl_qc_15 : hx_col 100 h qc 15 = owf) (szf : Nat → Int32) (cl_qc_16 : hx_col 100 h qc 16 = szf) (gdf : Nat → Int32) (cl_qc_17 : hx_col 100 h qc 17 = gdf) (svf : Nat → Int32) (cl_qc_18 : hx_col 100 h qc 18 = svf) (fof : Nat → Int32) (cl_qc_10 : hx_col 100 h qc 10 = fof) (hrf : Nat → Int32) (cl_qc_11 : hx_col 100 h qc 11 = hrf) (udf : Nat → Int32) (cl_qc_12 : hx_col 100 h qc 12 = udf) (flf : Nat → Int32) (cl_qc_8 : hx_col 100 h qc 8 = flf) (nu_qc : hx_num 100 h qc 0 (cn0.toInt)) (plf : Nat → Int32) (A : Nat → hv_act) (hAC : hv_AC h qc plf cn0.toInt A) (hAB : ∀ j : Nat, (∀ k, 0 ≤ (A j).2.1 k ∧ (A j).2.1 k ≤ 9999) ∧ hv_OK (A j).2.2) (hCB : hz_CB odf wkf owf szf gdf svf) (hps : ∀ j, j < 600 → 0 ≤ (psm j).toInt ∧ (psm j).toInt ≤ 610000) (pf_x_11 : ∀ j : Nat, (j : Int) < (h.2.1 x 11).toInt → h.2.2 qc j ≠ none) : Met l yX9_state (Cond.code yX9_state cX9_state 6 (some .int) :: hx_all) ({ frames := 5, cells := 0, slots := 0, locals := 120 }) (va_Pc [.ref x, .int i1, .int i2, .int i3, .int i4] (hx_BX T_tb (P_ty dA) (dC, dI) vwCl L h sz b0)) (va_Qi (fun (r : Int32) (u : List Nat × hx_h) => (hz_SA cn0.toInt i1.toInt i2.toInt i3.toInt i4.toInt (flf i1.toInt.toNat).toInt (hz_st (fof i1.toInt.toNat).toInt (hrf i1.toInt.toNat).toInt (udf i1.toInt.toNat).toInt (odf i1.toInt.toNat).toInt (svf i1.toInt.toNat).toInt (hz_rs (svf i1.toInt.toNat).toInt (hz_bl (odf i1.toInt.toNat).toInt (szf i1.toInt.toNat).toInt (gdf i1.toInt.toNat).toInt (owf i1.toInt.toNat).toInt ((A (plf i1.toInt.toNat).toInt.toNat).2.1 12) i2.toInt (hx_ps pof pdf psm pkf pst i2.toInt i3.toInt ((i1.toInt.toNat : Nat) : Int) n0.toInt.toNat)) i2.toInt) (hz_ms (odf i1.toInt.toNat).toInt (svf i1.toInt.toNat).toInt (wkf i1.toInt.toNat).toInt (hz_al (owf i1.toInt.toNat).toInt (szf i1.toInt.toNat).toInt ((A (plf i1.toInt.toNat).toInt.toNat).2.1 12) i2.toInt) (hz_pdy (odf i1.toInt.toNat).toInt (szf i1.toInt.toNat).toInt (gdf i1.toInt.toNat).toInt i2.toInt (hx_ps pof pdf psm pkf pst i2.toInt i3.toInt ((i1.toInt.toNat : Nat) : Int) n0.toInt.toNat)) i2.toInt) ((A (plf i1.toInt.toNat).toInt.toNat).2.1 4) ((A (plf i1.toInt.toNat).toInt.toNat).2.1 5) i2.toInt) (hz_rs (svf i1.toInt.toNat).toInt (hz_bl (odf i1.toInt.toNat).toInt (szf i1.toInt.toNat).toInt (gdf i1.toInt.toNat).toInt (owf i1.toInt.toNat).toInt ((A (plf i1.toInt.toNat).toInt.toNat).2.1 12) i2.toInt (hx_ps pof pdf psm pkf pst i2.toInt i3.toInt ((i1.toInt.toNat : Nat) : Int) n0.toInt.toNat)) i2.toInt) (hz_ms (odf i1.toInt.toNat).toInt (svf i1.toInt.toNat).toInt (wkf i1.toInt.toNat).toInt (hz_al (owf i1.toInt.toNat).toInt (szf i1.toInt.toNat).toInt ((A (plf i1.toInt.toNat).toInt.toNat).2.1 12) i2.toInt) (hz_pdy (odf i1.toInt.toNat).toInt (szf i1.toInt.toNat).toInt (gdf i1.toInt.toNat).toInt i2.toInt (hx_ps pof pdf psm pkf pst i2.toInt i3.toInt ((i1.toInt.toNat : Nat) : Int) n0.toInt.toNat)) i2.toInt) (hz_pdy (odf i1.toInt.toNat).toInt (szf i1.toInt.toNat).toInt (gdf i1.toInt.toNat).toInt i2.toInt (hx_ps pof pdf psm pkf pst i2.toInt i3.toInt ((i1.toInt.toNat : Nat) : Int) n0.toInt.toNat)) (hz_ov (svf i1.toInt.toNat).toInt (hz_bl (odf i1.toInt.toNat).toInt (szf i1.toInt.toNat).toInt (gdf i1.toInt.toNat).toInt (owf i1.toInt.toNat).toInt ((A (plf i1.toInt.toNat).toInt.toNat).2.1 12) i2.toInt (hx_ps pof pdf psm pkf pst i2.toInt i3.toInt ((i1.toInt.toNat : Nat) : Int) n0.toInt.toNat)) i2.toInt) r.toInt) ∧ hx_T T_tb u.1 u.2 ∧ hx_S T_tb [] L h u.1 u.2) (hx_E T_tb (P_ty dA) (dC, dI) vwCl (hx_A L sz)) (hx_A L sz)) 0 0 (hx_A L sz) := by
  refine hx_metX (lv := [(0, .ref x), (1, .int i1), (2, .int i2), (3, .int i3), (4, .int i4)]) (by decide +kernel) rfl (Nat.le_of_ble_eq_true rfl) rfl ?_
  intro p e s m below meth c hx hb hml hr hlk hts0 hown hin hsz hW hZ ls hl
  have hts : ∀ w ∈ hx_all, w.before _ s = true := fun w hw => hts0 w (List.mem_cons_of_mem _ hw)
  have hown : s.vm.findClass "SmallCourt" = some m.cls := hown
  have hM : hx_S T_tb [] L h L h := hx_S.rf
  have b_cn0 := hT.gi gx tt_9 (k := 11) rfl
  rw [f_x_11] at b_cn0
  have b_cn0 : 0 ≤ cn0.toInt ∧ cn0.toInt ≤ 100 := b_cn0
  have b_nw0 := hT.gi gx tt_9 (k := 2) rfl
  rw [f_x_2] at b_nw0
  have b_nw0 : 0 ≤ nw0.toInt ∧ nw0.toInt ≤ 7999 := b_nw0
  have b_n0 := hT.gi gqy tt_3 (k := 0) rfl
  rw [f_qy_0] at b_n0
  have b_n0 : 0 ≤ n0.toInt ∧ n0.toInt ≤ 600 := b_n0
  refine lv_aload_n hx hb dX9_state_0 rfl (lv_at hl 0 rfl) ?_
  refine lv_iload_n hx hb dX9_state_1 rfl (lv_at hl 1 rfl) ?_
  have hTo := hT
  refine hx_goq (hx_runV (As := [.int i1]) (rest := []) ⟨hx, hb, hml, hown, hts⟩ hW gx tt_9 (T := TX9) (N := 20) rfl (t_X9_claimAt_2 l dC dI dA L h s.heap.size x i1 hT gx cn0 f_x_11 qc gqc f_x_10 pf_x_11) (cwV 1 hts (hx_gV kw_810 kw_807 kw_809 kw_25 kw_94) rfl rfl rfl (by decide +kernel) ⟨Nat.le_of_ble_eq_true rfl, Nat.le_of_ble_eq_true rfl⟩) rfl hl.1 rfl (Nat.le_of_ble_eq_true rfl) dX9_state_2 ⟨Nat.le_of_ble_eq_true rfl, Nat.le_of_ble_eq_true rfl⟩) hW (fun r_3 L_1 h_2 H locs p_4 hW => ?_)
  obtain ⟨hr_5, hT, hs⟩ := p_4
  replace hT : hx_T T_tb L_1 h_2 := hT
  replace hs : hx_S T_tb [] L h L_1 h_2 := hs
  replace f_x_10 := (hs.o gx trivial rfl).2.trans f_x_10
  replace f_x_14 := (hs.o gx trivial rfl).2.trans f_x_14
  replace f_x_11 := (hs.o gx trivial rfl).1.trans f_x_11
  replace f_x_2 := (hs.o gx trivial rfl).1.trans f_x_2
  replace pf_x_11 : ∀ j : Nat, (j : Int) < (h_2.2.1 x 11).toInt → h_2.2.2 qc j ≠ none := by
    intro j hj; rw [(hs.o gx trivial rfl).1] at hj; rw [(hs.a gqc rfl j).2]; exact pf_x_11 j hj
  replace cl_qc_13 : hx_col 100 h_2 qc 13 = odf := (hx_col_S hs hTo gqc tt_45 tt_2 rfl rfl).trans cl_qc_13
  replace cl_qc_14 : hx_col 100 h_2 qc 14 = wkf := (hx_col_S hs hTo gqc tt_45 tt_2 rfl rfl).trans cl_qc_14
  replace cl_qc_15 : hx_col 100 h_2 qc 15 = owf := (hx_col_S hs hTo gqc tt_45 tt_2 rfl rfl).trans cl_qc_15
  replace cl_qc_16 : hx_col 100 h_2 qc 16 = szf := (hx_col_S hs hTo gqc tt_45 tt_2 rfl rfl).trans cl_qc_16
  replace cl_qc_17 : hx_col 100 h_2 qc 17 = gdf := (hx_col_S hs hTo gqc tt_45 tt_2 rfl rfl).trans cl_qc_17
  replace cl_qc_18 : hx_col 100 h_2 qc 18 = svf := (hx_col_S hs hTo gqc tt_45 tt_2 rfl rfl).trans cl_qc_18
  replace cl_qc_10 : hx_col 100 h_2 qc 10 = fof := (hx_col_S hs hTo gqc tt_45 tt_2 rfl rfl).trans cl_qc_10
  replace cl_qc_11 : hx_col 100 h_2 qc 11 = hrf := (hx_col_S hs hTo gqc tt_45 tt_2 rfl rfl).trans cl_qc_11
  replace cl_qc_12 : hx_col 100 h_2 qc 12 = udf := (hx_col_S hs hTo gqc tt_45 tt_2 rfl rfl).trans cl_qc_12
  replace cl_qc_8 : hx_col 100 h_2 qc 8 = flf := (hx_col_S hs hTo gqc tt_45 tt_2 rfl rfl).trans cl_qc_8
  replace nu_qc : hx_num 100 h_2 qc 0 (cn0.toInt) := hx_num_S hs hTo gqc tt_45 tt_2 rfl rfl nu_qc
  replace hAC : hv_AC h_2 qc plf cn0.toInt A := hv_AC_S hs hTo gqc tt_45 tt_2 rfl tt_0 rfl rfl rfl rfl rfl rfl rfl hAC
  replace hM := hM.tr (hs.mono ?o0)
  case o0 => decide
  replace gx := gx.S hs
  replace gqc := gqc.S hs
  obtain ⟨hr_5, hr_5B⟩ := hr_5
  have hr_5 : ∀ q, r_3 = some q → hx_g L_1 h_2 q 2 := hr_5
  rcases r_3 with _ | q_6
  · skip
    have k_7 : i1.toInt < 0 ∨ cn0.toInt ≤ i1.toInt := by
      rcases hr_5B with ⟨_, z⟩ | ⟨_, _, q, z, _⟩
      · exact z
      · cases z
    refine lv_astoreN (lv' := [(5, .null), (0, .ref x), (1, .int i1), (2, .int i2), (3, .int i3), (4, .int i4)]) hx hb dX9_state_5 hl ?o1 rfl (fun ls hl => ?_)
    case o1 => decide
    refine lv_aloadN hx hb dX9_state_7 (lv_at hl 0 rfl) ?_
    refine lv_ifnullN (tgt := 42) hx hb dX9_state_9 ?o2 ?_
    case o2 => decide
    refine lv_iconst (v := -1) hx hb dX9_state_42 ?o3 ?_
    case o3 => decide
    refine hx_reti hx hb hr hlk hW ⟨(Or.inl ⟨(fun hc => by have h1 := hc.1; omega), ?o4⟩), hT, hM⟩ dX9_state_43
    case o4 => decide
  · have gq_6 := hr_5 _ rfl
    have k_8 : 0 ≤ i1.toInt ∧ i1.toInt < cn0.toInt ∧ h_2.2.2 qc i1.toNatClampNeg = some q_6 := by
      rcases hr_5B with ⟨z, _⟩ | ⟨z1, z2, q, z3, z4⟩
      · cases z
      · cases z3; exact ⟨z1, z2, z4⟩
    have fo_9 := k_8.2.2
    have k_8 : 0 ≤ i1.toInt ∧ i1.toInt < cn0.toInt := ⟨k_8.1, k_8.2.1⟩
    refine lv_astore (lv' := [(5, .ref q_6), (0, .ref x), (1, .int i1), (2, .int i2), (3, .int i3), (4, .int i4)]) hx hb dX9_state_5 hl ?o5 rfl (fun ls hl => ?_)
    case o5 => decide
    refine lv_aload hx hb dX9_state_7 (lv_at hl 0 rfl) ?_
    refine lv_ifnull hx hb dX9_state_9 ?_
    refine lv_iload_n hx hb dX9_state_12 rfl (lv_at hl 3 rfl) ?_
    refine lv_aload hx hb dX9_state_13 (lv_at hl 0 rfl) ?_
    refine hx_geti hx hb hts hC_2 hown hW hT gq_6 tt_2 8 ?o6 rfl kw_743 ⟨rfl, rfl, rfl⟩ dX9_state_15 (fun x_10 ex_10 lx_10 ux_10 => ?_)
    case o6 => decide
    have fx_10 := ex_10.symm
    have cx_10 : x_10 = flf i1.toNatClampNeg := ?o7
    case o7 =>
      rw [ex_10, ← cl_qc_8]
      exact (hx_col_at fo_9 (by unfold Int32.toNatClampNeg; omega)).symm
    refine lv_sipush (v := 7999) hx hb dX9_state_18 ?o8 ?_
    case o8 => decide
    have hTo := hT
    have zc_7999 : (7999 : Int32).toInt = 7999 := ?o9
    case o9 => decide
    refine hx_goi (hx_runS (As := [.int i2, .int x_10, .int (7999 : Int32)]) (rest := []) ⟨hx, hb, hml, hown, hts⟩ hW (t_X9_isWithin_2 l dC dI dA L_1 h_2 H.size i2 x_10 (7999 : Int32) hT) (va_cwS 3 hts (hx_gS kw_434 kw_432 kw_433 kw_94) rfl rfl rfl (by decide +kernel) ⟨Nat.le_of_ble_eq_true rfl, Nat.le_of_ble_eq_true rfl⟩) rfl hl.1 rfl (Nat.le_of_ble_eq_true rfl) dX9_state_21 ⟨Nat.le_of_ble_eq_true rfl, Nat.le_of_ble_eq_true rfl⟩) hW (fun r_13 L_11 h_12 H locs p_14 hW => ?_)
    obtain ⟨hr_15, hT, hs⟩ := p_14
    replace hT : hx_T T_tb L_11 h_12 := hT
    replace hs : hx_S T_tb [] L_1 h_2 L_11 h_12 := hs
    replace f_x_10 := (hs.o gx trivial rfl).2.trans f_x_10
    replace f_x_14 := (hs.o gx trivial rfl).2.trans f_x_14
    replace f_x_11 := (hs.o gx trivial rfl).1.trans f_x_11
    replace f_x_2 := (hs.o gx trivial rfl).1.trans f_x_2
    replace fx_10 := (hs.o gq_6 trivial rfl).1.trans fx_10
    replace pf_x_11 : ∀ j : Nat, (j : Int) < (h_12.2.1 x 11).toInt → h_12.2.2 qc j ≠ none := by
      intro j hj; rw [(hs.o gx trivial rfl).1] at hj; rw [(hs.a gqc rfl j).2]; exact pf_x_11 j hj
    replace cl_qc_13 : hx_col 100 h_12 qc 13 = odf := (hx_col_S hs hTo gqc tt_45 tt_2 rfl rfl).trans cl_qc_13
    replace cl_qc_14 : hx_col 100 h_12 qc 14 = wkf := (hx_col_S hs hTo gqc tt_45 tt_2 rfl rfl).trans cl_qc_14
    replace cl_qc_15 : hx_col 100 h_12 qc 15 = owf := (hx_col_S hs hTo gqc tt_45 tt_2 rfl rfl).trans cl_qc_15
    replace cl_qc_16 : hx_col 100 h_12 qc 16 = szf := (hx_col_S hs hTo gqc tt_45 tt_2 rfl rfl).trans cl_qc_16
    replace cl_qc_17 : hx_col 100 h_12 qc 17 = gdf := (hx_col_S hs hTo gqc tt_45 tt_2 rfl rfl).trans cl_qc_17
    replace cl_qc_18 : hx_col 100 h_12 qc 18 = svf := (hx_col_S hs hTo gqc tt_45 tt_2 rfl rfl).trans cl_qc_18
    replace cl_qc_10 : hx_col 100 h_12 qc 10 = fof := (hx_col_S hs hTo gqc tt_45 tt_2 rfl rfl).trans cl_qc_10
    replace cl_qc_11 : hx_col 100 h_12 qc 11 = hrf := (hx_col_S hs hTo gqc tt_45 tt_2 rfl rfl).trans cl_qc_11
    replace cl_qc_12 : hx_col 100 h_12 qc 12 = udf := (hx_col_S hs hTo gqc tt_45 tt_2 rfl rfl).trans cl_qc_12
    replace cl_qc_8 : hx_col 100 h_12 qc 8 = flf := (hx_col_S hs hTo gqc tt_45 tt_2 rfl rfl).trans cl_qc_8
    replace nu_qc : hx_num 100 h_12 qc 0 (cn0.toInt) := hx_num_S hs hTo gqc tt_45 tt_2 rfl rfl nu_qc
    replace hAC : hv_AC h_12 qc plf cn0.toInt A := hv_AC_S hs hTo gqc tt_45 tt_2 rfl tt_0 rfl rfl rfl rfl rfl rfl rfl hAC
    replace fo_9 := (hs.a gqc rfl _).2.trans fo_9
    replace hM := hM.tr (hs.mono ?o10)
    case o10 => decide
    replace gx := gx.S hs
    replace gqc := gqc.S hs
    replace gq_6 := gq_6.S hs
    refine hb_if_eq (zx := r_13.toInt) (tgt := 42) hx hb rfl dX9_state_24 ?o11 (fun c_16 => ?_) (fun c_16 => ?_)
    case o11 => decide
    · skip
      replace hr_15 := hr_15.resolve_right (fun z9 => absurd (c_16.symm.trans z9.1) ?o12)
      case o12 => decide
      replace hr_15 := hr_15.2
      refine lv_iconst (v := -1) hx hb dX9_state_42 ?o13 ?_
      case o13 => decide
      refine hx_reti hx hb hr hlk hW ⟨(Or.inl ⟨(fun hc => by have h1 := hc.2; rw [show flf i1.toInt.toNat = x_10 from cx_10.symm] at h1; omega), ?o14⟩), hT, hM⟩ dX9_state_43
      case o14 => decide
    · skip
      replace hr_15 := hr_15.resolve_left (fun z9 => c_16 z9.1)
      replace c_16 := hr_15.1
      replace hr_15 := hr_15.2
      refine lv_iload_n hx hb dX9_state_27 rfl (lv_at hl 4 rfl) ?_
      refine lv_aload hx hb dX9_state_28 (lv_at hl 0 rfl) ?_
      refine hk_geti hx hb hts hC_2 hown hW gq_6 tt_2 8 ?o15 rfl kw_743 ⟨rfl, rfl, rfl⟩ fx_10 dX9_state_30 ?_
      case o15 => decide
      refine lv_sipush (v := 7999) hx hb dX9_state_33 ?o16 ?_
      case o16 => decide
      have hTo := hT
      refine hx_goi (hx_runS (As := [.int i3, .int x_10, .int (7999 : Int32)]) (rest := []) ⟨hx, hb, hml, hown, hts⟩ hW (t_X9_isWithin_2 l dC dI dA L_11 h_12 H.size i3 x_10 (7999 : Int32) hT) (va_cwS 3 hts (hx_gS kw_434 kw_432 kw_433 kw_94) rfl rfl rfl (by decide +kernel) ⟨Nat.le_of_ble_eq_true rfl, Nat.le_of_ble_eq_true rfl⟩) rfl hl.1 rfl (Nat.le_of_ble_eq_true rfl) dX9_state_36 ⟨Nat.le_of_ble_eq_true rfl, Nat.le_of_ble_eq_true rfl⟩) hW (fun r_19 L_17 h_18 H locs p_20 hW => ?_)
      obtain ⟨hr_21, hT, hs⟩ := p_20
      replace hT : hx_T T_tb L_17 h_18 := hT
      replace hs : hx_S T_tb [] L_11 h_12 L_17 h_18 := hs
      replace f_x_10 := (hs.o gx trivial rfl).2.trans f_x_10
      replace f_x_14 := (hs.o gx trivial rfl).2.trans f_x_14
      replace f_x_11 := (hs.o gx trivial rfl).1.trans f_x_11
      replace f_x_2 := (hs.o gx trivial rfl).1.trans f_x_2
      replace fx_10 := (hs.o gq_6 trivial rfl).1.trans fx_10
      replace pf_x_11 : ∀ j : Nat, (j : Int) < (h_18.2.1 x 11).toInt → h_18.2.2 qc j ≠ none := by
        intro j hj; rw [(hs.o gx trivial rfl).1] at hj; rw [(hs.a gqc rfl j).2]; exact pf_x_11 j hj
      replace cl_qc_13 : hx_col 100 h_18 qc 13 = odf := (hx_col_S hs hTo gqc tt_45 tt_2 rfl rfl).trans cl_qc_13
      replace cl_qc_14 : hx_col 100 h_18 qc 14 = wkf := (hx_col_S hs hTo gqc tt_45 tt_2 rfl rfl).trans cl_qc_14
      replace cl_qc_15 : hx_col 100 h_18 qc 15 = owf := (hx_col_S hs hTo gqc tt_45 tt_2 rfl rfl).trans cl_qc_15
      replace cl_qc_16 : hx_col 100 h_18 qc 16 = szf := (hx_col_S hs hTo gqc tt_45 tt_2 rfl rfl).trans cl_qc_16
      replace cl_qc_17 : hx_col 100 h_18 qc 17 = gdf := (hx_col_S hs hTo gqc tt_45 tt_2 rfl rfl).trans cl_qc_17
      replace cl_qc_18 : hx_col 100 h_18 qc 18 = svf := (hx_col_S hs hTo gqc tt_45 tt_2 rfl rfl).trans cl_qc_18
      replace cl_qc_10 : hx_col 100 h_18 qc 10 = fof := (hx_col_S hs hTo gqc tt_45 tt_2 rfl rfl).trans cl_qc_10
      replace cl_qc_11 : hx_col 100 h_18 qc 11 = hrf := (hx_col_S hs hTo gqc tt_45 tt_2 rfl rfl).trans cl_qc_11
      replace cl_qc_12 : hx_col 100 h_18 qc 12 = udf := (hx_col_S hs hTo gqc tt_45 tt_2 rfl rfl).trans cl_qc_12
      replace cl_qc_8 : hx_col 100 h_18 qc 8 = flf := (hx_col_S hs hTo gqc tt_45 tt_2 rfl rfl).trans cl_qc_8
      replace nu_qc : hx_num 100 h_18 qc 0 (cn0.toInt) := hx_num_S hs hTo gqc tt_45 tt_2 rfl rfl nu_qc
      replace hAC : hv_AC h_18 qc plf cn0.toInt A := hv_AC_S hs hTo gqc tt_45 tt_2 rfl tt_0 rfl rfl rfl rfl rfl rfl rfl hAC
      replace fo_9 := (hs.a gqc rfl _).2.trans fo_9
      replace hM := hM.tr (hs.mono ?o17)
      case o17 => decide
      replace gx := gx.S hs
      replace gqc := gqc.S hs
      replace gq_6 := gq_6.S hs
      refine hb_if_ne (zx := r_19.toInt) (tgt := 44) hx hb rfl dX9_state_39 ?o18 (fun c_22 => ?_) (fun c_22 => ?_)
      case o18 => decide
      · skip
        replace hr_21 := hr_21.resolve_left (fun z9 => c_22 z9.1)
        replace c_22 := hr_21.1
        replace hr_21 := hr_21.2
        refine lv_iload hx hb dX9_state_44 (lv_at hl 5 rfl) ?_
        rcases (show (i4.toInt < 0 ∨ 4 < i4.toInt) ∨ i4.toInt = 0 ∨ i4.toInt = 1 ∨ i4.toInt = 2 ∨ i4.toInt = 3 ∨ i4.toInt = 4 from by omega) with c_23 | c_23 | c_23 | c_23 | c_23 | c_23
        · refine lv_tableOut (tgt := 140) hx hb dX9_state_46 c_23 ?o19 ?_
          case o19 => decide
          refine lv_iconst (v := -1) hx hb dX9_state_140 ?o20 ?_
          case o20 => decide
          refine hx_reti hx hb hr hlk hW ⟨(Or.inl ⟨(fun hc => by have h1 := hc.2.2.2; omega), ?o21⟩), hT, hM⟩ dX9_state_141
          case o21 => decide
        · refine lv_tableIn (off := 34) (tgt := 80) hx hb dX9_state_46 ?o22 ?o23 (by rw [c_23]; rfl) ?o24 ?_
          case o22 => omega
          case o23 => omega
          case o24 => decide
          refine lv_aload hx hb dX9_state_80 (lv_at hl 0 rfl) ?_
          refine lv_aload_n hx hb dX9_state_82 rfl (lv_at hl 1 rfl) ?_
          refine hk_getr hx hb hts hC_9 hown hW gx tt_9 14 ?o25 rfl kw_378 ⟨rfl, rfl, rfl⟩ f_x_14 dX9_state_83 ?_
          case o25 => decide
          refine lv_iload_n hx hb dX9_state_86 rfl (lv_at hl 3 rfl) ?_
          refine lv_iload_n hx hb dX9_state_87 rfl (lv_at hl 4 rfl) ?_
          obtain ⟨fv_24, efv_24⟩ : ∃ y : Int32, y = h_18.2.1 q_6 13 := ⟨_, rfl⟩
          have bfv_24 := hT.gi gq_6 tt_2 (k := 13) rfl
          rw [← efv_24] at bfv_24
          have bfv_24 : -2147483648 ≤ fv_24.toInt ∧ fv_24.toInt ≤ 2147483647 := bfv_24
          have ffv_24 := efv_24.symm
          have cq_25 : fv_24 = odf i1.toInt.toNat := ?o26
          case o26 =>
            rw [← ffv_24, ← cl_qc_13]
            exact (hx_col_at fo_9 (by unfold Int32.toNatClampNeg; omega)).symm
          obtain ⟨fv_26, efv_26⟩ : ∃ y : Int32, y = h_18.2.1 q_6 14 := ⟨_, rfl⟩
          have bfv_26 := hT.gi gq_6 tt_2 (k := 14) rfl
          rw [← efv_26] at bfv_26
          have bfv_26 : -2147483648 ≤ fv_26.toInt ∧ fv_26.toInt ≤ 2147483647 := bfv_26
          have ffv_26 := efv_26.symm
          have cq_27 : fv_26 = wkf i1.toInt.toNat := ?o27
          case o27 =>
            rw [← ffv_26, ← cl_qc_14]
            exact (hx_col_at fo_9 (by unfold Int32.toNatClampNeg; omega)).symm
          obtain ⟨fv_28, efv_28⟩ : ∃ y : Int32, y = h_18.2.1 q_6 15 := ⟨_, rfl⟩
          have bfv_28 := hT.gi gq_6 tt_2 (k := 15) rfl
          rw [← efv_28] at bfv_28
          have bfv_28 : -2147483648 ≤ fv_28.toInt ∧ fv_28.toInt ≤ 2147483647 := bfv_28
          have ffv_28 := efv_28.symm
          have cq_29 : fv_28 = owf i1.toInt.toNat := ?o28
          case o28 =>
            rw [← ffv_28, ← cl_qc_15]
            exact (hx_col_at fo_9 (by unfold Int32.toNatClampNeg; omega)).symm
          obtain ⟨fv_30, efv_30⟩ : ∃ y : Int32, y = h_18.2.1 q_6 16 := ⟨_, rfl⟩
          have bfv_30 := hT.gi gq_6 tt_2 (k := 16) rfl
          rw [← efv_30] at bfv_30
          have bfv_30 : -2147483648 ≤ fv_30.toInt ∧ fv_30.toInt ≤ 2147483647 := bfv_30
          have ffv_30 := efv_30.symm
          have cq_31 : fv_30 = szf i1.toInt.toNat := ?o29
          case o29 =>
            rw [← ffv_30, ← cl_qc_16]
            exact (hx_col_at fo_9 (by unfold Int32.toNatClampNeg; omega)).symm
          obtain ⟨fv_32, efv_32⟩ : ∃ y : Int32, y = h_18.2.1 q_6 17 := ⟨_, rfl⟩
          have bfv_32 := hT.gi gq_6 tt_2 (k := 17) rfl
          rw [← efv_32] at bfv_32
          have bfv_32 : -2147483648 ≤ fv_32.toInt ∧ fv_32.toInt ≤ 2147483647 := bfv_32
          have ffv_32 := efv_32.symm
          have cq_33 : fv_32 = gdf i1.toInt.toNat := ?o30
          case o30 =>
            rw [← ffv_32, ← cl_qc_17]
            exact (hx_col_at fo_9 (by unfold Int32.toNatClampNeg; omega)).symm
          obtain ⟨fv_34, efv_34⟩ : ∃ y : Int32, y = h_18.2.1 q_6 18 := ⟨_, rfl⟩
          have bfv_34 := hT.gi gq_6 tt_2 (k := 18) rfl
          rw [← efv_34] at bfv_34
          have bfv_34 : -2147483648 ≤ fv_34.toInt ∧ fv_34.toInt ≤ 2147483647 := bfv_34
          have ffv_34 := efv_34.symm
          have cq_35 : fv_34 = svf i1.toInt.toNat := ?o31
          case o31 =>
            rw [← ffv_34, ← cl_qc_18]
            exact (hx_col_at fo_9 (by unfold Int32.toNatClampNeg; omega)).symm
          have cb_36 := hCB i1.toInt.toNat (by omega); rw [← cq_25, ← cq_27, ← cq_29, ← cq_31, ← cq_33, ← cq_35] at cb_36
          obtain ⟨⟨cb_36al, cb_36ah⟩, ⟨cb_36bl, cb_36bh⟩, ⟨cb_36cl, cb_36ch⟩, ⟨cb_36dl, cb_36dh⟩, ⟨cb_36el, cb_36eh⟩, ⟨cb_36fl, cb_36fh⟩⟩ := cb_36
          obtain ⟨fv_37, efv_37⟩ : ∃ y : Int32, y = h_18.2.1 q_6 0 := ⟨_, rfl⟩
          have bfv_37 := hT.gi gq_6 tt_2 (k := 0) rfl
          rw [← efv_37] at bfv_37
          have bfv_37 : 0 ≤ fv_37.toInt ∧ fv_37.toInt ≤ 99 := bfv_37
          have ffv_37 := efv_37.symm
          have cq_38 : fv_37 = i1 := ?o32
          case o32 =>
            rw [← ffv_37]
            refine hx_num_at nu_qc fo_9 ?o33 ?o34
            case o33 => omega
            case o34 => omega
          obtain ⟨fv_39, efv_39⟩ : ∃ y : Int32, y = h_18.2.1 q_6 10 := ⟨_, rfl⟩
          have bfv_39 := hT.gi gq_6 tt_2 (k := 10) rfl
          rw [← efv_39] at bfv_39
          have bfv_39 : -1 ≤ fv_39.toInt ∧ fv_39.toInt ≤ 7999 := bfv_39
          have ffv_39 := efv_39.symm
          have cq_40 : fv_39 = fof i1.toInt.toNat := ?o35
          case o35 =>
            rw [← ffv_39, ← cl_qc_10]
            exact (hx_col_at fo_9 (by unfold Int32.toNatClampNeg; omega)).symm
          obtain ⟨fv_41, efv_41⟩ : ∃ y : Int32, y = h_18.2.1 q_6 11 := ⟨_, rfl⟩
          have bfv_41 := hT.gi gq_6 tt_2 (k := 11) rfl
          rw [← efv_41] at bfv_41
          have bfv_41 : -1 ≤ fv_41.toInt ∧ fv_41.toInt ≤ 7999 := bfv_41
          have ffv_41 := efv_41.symm
          have cq_42 : fv_41 = hrf i1.toInt.toNat := ?o36
          case o36 =>
            rw [← ffv_41, ← cl_qc_11]
            exact (hx_col_at fo_9 (by unfold Int32.toNatClampNeg; omega)).symm
          obtain ⟨fv_43, efv_43⟩ : ∃ y : Int32, y = h_18.2.1 q_6 12 := ⟨_, rfl⟩
          have bfv_43 := hT.gi gq_6 tt_2 (k := 12) rfl
          rw [← efv_43] at bfv_43
          have bfv_43 : 0 ≤ fv_43.toInt ∧ fv_43.toInt ≤ 5 := bfv_43
          have ffv_43 := efv_43.symm
          have cq_44 : fv_43 = udf i1.toInt.toNat := ?o37
          case o37 =>
            rw [← ffv_43, ← cl_qc_12]
            exact (hx_col_at fo_9 (by unfold Int32.toNatClampNeg; omega)).symm
          have hTo := hT
          obtain ⟨q_45, fq_45, gq_45⟩ := hv_rf hT gq_6 tt_2 (k := 3) (u := 0) rfl
          obtain ⟨q_46, fq_46, gq_46⟩ := hv_rf hT gq_45 tt_0 (k := 2) (u := 11) rfl
          obtain ⟨fa_47, nfa_47⟩ : ∃ g : Nat → Int32, h_18.2.1 q_46 = g := ⟨_, rfl⟩
          refine hx_goi (hx_runVX (As := [.ref qy, .int i2, .int i3]) (rest := []) ⟨hx, hb, hml, hown, hts⟩ hW gq_6 tt_2 (T := TX2) (N := 19) rfl (t_X2_stateOn_v l dC dI dA L_17 h_18 H.size b0 q_6 qy i2 i3 hT gq_6 (gqy.S hM) pqo (gpqo.S hM) ((hM.o gqy trivial rfl).2.trans f_qy_2) pqd (gpqd.S hM) ((hM.o gqy trivial rfl).2.trans f_qy_3) pqs (gpqs.S hM) ((hM.o gqy trivial rfl).2.trans f_qy_5) pqk (gpqk.S hM) ((hM.o gqy trivial rfl).2.trans f_qy_4) pqt (gpqt.S hM) ((hM.o gqy trivial rfl).2.trans f_qy_1) q_45 gq_45 fq_45 q_46 gq_46 fq_46 pof (hx_afS hM gpqo rfl af_pqo) pdf (hx_afS hM gpqd rfl af_pqd) psm (hx_afS hM gpqs rfl af_pqs) pkf (hx_afS hM gpqk rfl af_pqk) pst (hx_afS hM gpqt rfl af_pqt) fa_47 nfa_47 fv_39 ffv_39 fv_41 ffv_41 fv_43 ffv_43 fv_24 ffv_24 fv_26 ffv_26 fv_28 ffv_28 fv_30 ffv_30 fv_32 ffv_32 fv_34 ffv_34 fv_37 ffv_37 n0 ((hM.o gqy trivial rfl).1.trans f_qy_0) (A (plf i1.toInt.toNat).toInt.toNat).2.1 (by rw [← nfa_47]; exact (hAC i1.toNatClampNeg (by unfold Int32.toNatClampNeg; omega) (by unfold Int32.toNatClampNeg; omega) _ _ fo_9 fq_45).2.2.2.1 _ fq_46) (hAB _).1 ⟨?o38, ?o39⟩ ⟨?o40, ?o41⟩ ⟨?o42, ?o43⟩ ⟨?o44, ?o45⟩ hps ⟨?o46, ?o47⟩) hZ (cwV 3 hts (hx_gV kw_907 kw_904 kw_905 kw_906 kw_110) rfl rfl rfl (by decide +kernel) ⟨Nat.le_of_ble_eq_true rfl, Nat.le_of_ble_eq_true rfl⟩) rfl hl.1 rfl (Nat.le_of_ble_eq_true rfl) dX9_state_88 ⟨Nat.le_of_ble_eq_true rfl, Nat.le_of_ble_eq_true rfl⟩) hW (fun r_50 L_48 h_49 H locs p_51 hW => ?_)
          case o38 => omega
          case o39 => omega
          case o40 => omega
          case o41 => omega
          case o42 => omega
          case o43 => omega
          case o44 => omega
          case o45 => omega
          case o46 => omega
          case o47 => omega
          obtain ⟨hr_52, hT, hs⟩ := p_51
          replace hT : hx_T T_tb L_48 h_49 := hT
          replace hs : hx_S T_tb [] L_17 h_18 L_48 h_49 := hs
          replace f_x_10 := (hs.o gx trivial rfl).2.trans f_x_10
          replace f_x_14 := (hs.o gx trivial rfl).2.trans f_x_14
          replace f_x_11 := (hs.o gx trivial rfl).1.trans f_x_11
          replace f_x_2 := (hs.o gx trivial rfl).1.trans f_x_2
          replace fx_10 := (hs.o gq_6 trivial rfl).1.trans fx_10
          replace ffv_24 := (hs.o gq_6 trivial rfl).1.trans ffv_24
          replace ffv_26 := (hs.o gq_6 trivial rfl).1.trans ffv_26
          replace ffv_28 := (hs.o gq_6 trivial rfl).1.trans ffv_28
          replace ffv_30 := (hs.o gq_6 trivial rfl).1.trans ffv_30
          replace ffv_32 := (hs.o gq_6 trivial rfl).1.trans ffv_32
          replace ffv_34 := (hs.o gq_6 trivial rfl).1.trans ffv_34
          replace ffv_37 := (hs.o gq_6 trivial rfl).1.trans ffv_37
          replace ffv_39 := (hs.o gq_6 trivial rfl).1.trans ffv_39
          replace ffv_41 := (hs.o gq_6 trivial rfl).1.trans ffv_41
          replace ffv_43 := (hs.o gq_6 trivial rfl).1.trans ffv_43
          replace fq_45 := (hs.o gq_6 trivial rfl).2.trans fq_45
          replace fq_46 := (hs.o gq_45 trivial rfl).2.trans fq_46
          replace pf_x_11 : ∀ j : Nat, (j : Int) < (h_49.2.1 x 11).toInt → h_49.2.2 qc j ≠ none := by
            intro j hj; rw [(hs.o gx trivial rfl).1] at hj; rw [(hs.a gqc rfl j).2]; exact pf_x_11 j hj
          replace cl_qc_13 : hx_col 100 h_49 qc 13 = odf := (hx_col_S hs hTo gqc tt_45 tt_2 rfl rfl).trans cl_qc_13
          replace cl_qc_14 : hx_col 100 h_49 qc 14 = wkf := (hx_col_S hs hTo gqc tt_45 tt_2 rfl rfl).trans cl_qc_14
          replace cl_qc_15 : hx_col 100 h_49 qc 15 = owf := (hx_col_S hs hTo gqc tt_45 tt_2 rfl rfl).trans cl_qc_15
          replace cl_qc_16 : hx_col 100 h_49 qc 16 = szf := (hx_col_S hs hTo gqc tt_45 tt_2 rfl rfl).trans cl_qc_16
          replace cl_qc_17 : hx_col 100 h_49 qc 17 = gdf := (hx_col_S hs hTo gqc tt_45 tt_2 rfl rfl).trans cl_qc_17
          replace cl_qc_18 : hx_col 100 h_49 qc 18 = svf := (hx_col_S hs hTo gqc tt_45 tt_2 rfl rfl).trans cl_qc_18
          replace cl_qc_10 : hx_col 100 h_49 qc 10 = fof := (hx_col_S hs hTo gqc tt_45 tt_2 rfl rfl).trans cl_qc_10
          replace cl_qc_11 : hx_col 100 h_49 qc 11 = hrf := (hx_col_S hs hTo gqc tt_45 tt_2 rfl rfl).trans cl_qc_11
          replace cl_qc_12 : hx_col 100 h_49 qc 12 = udf := (hx_col_S hs hTo gqc tt_45 tt_2 rfl rfl).trans cl_qc_12
          replace cl_qc_8 : hx_col 100 h_49 qc 8 = flf := (hx_col_S hs hTo gqc tt_45 tt_2 rfl rfl).trans cl_qc_8
          replace nu_qc : hx_num 100 h_49 qc 0 (cn0.toInt) := hx_num_S hs hTo gqc tt_45 tt_2 rfl rfl nu_qc
          replace hAC : hv_AC h_49 qc plf cn0.toInt A := hv_AC_S hs hTo gqc tt_45 tt_2 rfl tt_0 rfl rfl rfl rfl rfl rfl rfl hAC
          replace fo_9 := (hs.a gqc rfl _).2.trans fo_9
          replace nfa_47 : h_49.2.1 q_46 = fa_47 := (funext fun j => (hs.a gq_46 rfl j).1).trans nfa_47
          replace hM := hM.tr (hs.mono ?o48)
          case o48 => decide
          replace gx := gx.S hs
          replace gqc := gqc.S hs
          replace gq_6 := gq_6.S hs
          replace gq_45 := gq_45.S hs
          replace gq_46 := gq_46.S hs
          refine hx_reti hx hb hr hlk hW ⟨(Or.inr ⟨⟨⟨?o49, ?o50⟩, (by rw [show flf i1.toInt.toNat = x_10 from cx_10.symm]; omega), (by rw [show flf i1.toInt.toNat = x_10 from cx_10.symm]; omega)⟩, Or.inl ⟨?o51, (by have h9 := hr_52.1; rw [show fv_37.toInt = ((i1.toInt.toNat : Nat) : Int) from by rw [cq_38]; omega] at h9; rw [cq_40, cq_42, cq_44, cq_25, cq_35, cq_31, cq_33, cq_29, cq_27] at h9; exact h9)⟩⟩), hT, hM⟩ dX9_state_91
          case o49 => omega
          case o50 => omega
          case o51 => omega
        · refine lv_tableIn (off := 46) (tgt := 92) hx hb dX9_state_46 ?o52 ?o53 (by rw [c_23]; rfl) ?o54 ?_
          case o52 => omega
          case o53 => omega
          case o54 => decide
          refine lv_aload hx hb dX9_state_92 (lv_at hl 0 rfl) ?_
          refine lv_aload_n hx hb dX9_state_94 rfl (lv_at hl 1 rfl) ?_
          refine hk_getr hx hb hts hC_9 hown hW gx tt_9 14 ?o55 rfl kw_378 ⟨rfl, rfl, rfl⟩ f_x_14 dX9_state_95 ?_
          case o55 => decide
          refine lv_iload_n hx hb dX9_state_98 rfl (lv_at hl 3 rfl) ?_
          refine lv_iload_n hx hb dX9_state_99 rfl (lv_at hl 4 rfl) ?_
          obtain ⟨fv_54, efv_54⟩ : ∃ y : Int32, y = h_18.2.1 q_6 13 := ⟨_, rfl⟩
          have bfv_54 := hT.gi gq_6 tt_2 (k := 13) rfl
          rw [← efv_54] at bfv_54
          have bfv_54 : -2147483648 ≤ fv_54.toInt ∧ fv_54.toInt ≤ 2147483647 := bfv_54
          have ffv_54 := efv_54.symm
          have cq_55 : fv_54 = odf i1.toInt.toNat := ?o56
          case o56 =>
            rw [← ffv_54, ← cl_qc_13]
            exact (hx_col_at fo_9 (by unfold Int32.toNatClampNeg; omega)).symm
          obtain ⟨fv_56, efv_56⟩ : ∃ y : Int32, y = h_18.2.1 q_6 14 := ⟨_, rfl⟩
          have bfv_56 := hT.gi gq_6 tt_2 (k := 14) rfl
          rw [← efv_56] at bfv_56
          have bfv_56 : -2147483648 ≤ fv_56.toInt ∧ fv_56.toInt ≤ 2147483647 := bfv_56
          have ffv_56 := efv_56.symm
          have cq_57 : fv_56 = wkf i1.toInt.toNat := ?o57
          case o57 =>
            rw [← ffv_56, ← cl_qc_14]
            exact (hx_col_at fo_9 (by unfold Int32.toNatClampNeg; omega)).symm
          obtain ⟨fv_58, efv_58⟩ : ∃ y : Int32, y = h_18.2.1 q_6 15 := ⟨_, rfl⟩
          have bfv_58 := hT.gi gq_6 tt_2 (k := 15) rfl
          rw [← efv_58] at bfv_58
          have bfv_58 : -2147483648 ≤ fv_58.toInt ∧ fv_58.toInt ≤ 2147483647 := bfv_58
          have ffv_58 := efv_58.symm
          have cq_59 : fv_58 = owf i1.toInt.toNat := ?o58
          case o58 =>
            rw [← ffv_58, ← cl_qc_15]
            exact (hx_col_at fo_9 (by unfold Int32.toNatClampNeg; omega)).symm
          obtain ⟨fv_60, efv_60⟩ : ∃ y : Int32, y = h_18.2.1 q_6 16 := ⟨_, rfl⟩
          have bfv_60 := hT.gi gq_6 tt_2 (k := 16) rfl
          rw [← efv_60] at bfv_60
          have bfv_60 : -2147483648 ≤ fv_60.toInt ∧ fv_60.toInt ≤ 2147483647 := bfv_60
          have ffv_60 := efv_60.symm
          have cq_61 : fv_60 = szf i1.toInt.toNat := ?o59
          case o59 =>
            rw [← ffv_60, ← cl_qc_16]
            exact (hx_col_at fo_9 (by unfold Int32.toNatClampNeg; omega)).symm
          obtain ⟨fv_62, efv_62⟩ : ∃ y : Int32, y = h_18.2.1 q_6 17 := ⟨_, rfl⟩
          have bfv_62 := hT.gi gq_6 tt_2 (k := 17) rfl
          rw [← efv_62] at bfv_62
          have bfv_62 : -2147483648 ≤ fv_62.toInt ∧ fv_62.toInt ≤ 2147483647 := bfv_62
          have ffv_62 := efv_62.symm
          have cq_63 : fv_62 = gdf i1.toInt.toNat := ?o60
          case o60 =>
            rw [← ffv_62, ← cl_qc_17]
            exact (hx_col_at fo_9 (by unfold Int32.toNatClampNeg; omega)).symm
          obtain ⟨fv_64, efv_64⟩ : ∃ y : Int32, y = h_18.2.1 q_6 18 := ⟨_, rfl⟩
          have bfv_64 := hT.gi gq_6 tt_2 (k := 18) rfl
          rw [← efv_64] at bfv_64
          have bfv_64 : -2147483648 ≤ fv_64.toInt ∧ fv_64.toInt ≤ 2147483647 := bfv_64
          have ffv_64 := efv_64.symm
          have cq_65 : fv_64 = svf i1.toInt.toNat := ?o61
          case o61 =>
            rw [← ffv_64, ← cl_qc_18]
            exact (hx_col_at fo_9 (by unfold Int32.toNatClampNeg; omega)).symm
          have cb_66 := hCB i1.toInt.toNat (by omega); rw [← cq_55, ← cq_57, ← cq_59, ← cq_61, ← cq_63, ← cq_65] at cb_66
          obtain ⟨⟨cb_66al, cb_66ah⟩, ⟨cb_66bl, cb_66bh⟩, ⟨cb_66cl, cb_66ch⟩, ⟨cb_66dl, cb_66dh⟩, ⟨cb_66el, cb_66eh⟩, ⟨cb_66fl, cb_66fh⟩⟩ := cb_66
          obtain ⟨fv_67, efv_67⟩ : ∃ y : Int32, y = h_18.2.1 q_6 0 := ⟨_, rfl⟩
          have bfv_67 := hT.gi gq_6 tt_2 (k := 0) rfl
          rw [← efv_67] at bfv_67
          have bfv_67 : 0 ≤ fv_67.toInt ∧ fv_67.toInt ≤ 99 := bfv_67
          have ffv_67 := efv_67.symm
          have cq_68 : fv_67 = i1 := ?o62
          case o62 =>
            rw [← ffv_67]
            refine hx_num_at nu_qc fo_9 ?o63 ?o64
            case o63 => omega
            case o64 => omega
          obtain ⟨fv_69, efv_69⟩ : ∃ y : Int32, y = h_18.2.1 q_6 10 := ⟨_, rfl⟩
          have bfv_69 := hT.gi gq_6 tt_2 (k := 10) rfl
          rw [← efv_69] at bfv_69
          have bfv_69 : -1 ≤ fv_69.toInt ∧ fv_69.toInt ≤ 7999 := bfv_69
          have ffv_69 := efv_69.symm
          have cq_70 : fv_69 = fof i1.toInt.toNat := ?o65
          case o65 =>
            rw [← ffv_69, ← cl_qc_10]
            exact (hx_col_at fo_9 (by unfold Int32.toNatClampNeg; omega)).symm
          obtain ⟨fv_71, efv_71⟩ : ∃ y : Int32, y = h_18.2.1 q_6 11 := ⟨_, rfl⟩
          have bfv_71 := hT.gi gq_6 tt_2 (k := 11) rfl
          rw [← efv_71] at bfv_71
          have bfv_71 : -1 ≤ fv_71.toInt ∧ fv_71.toInt ≤ 7999 := bfv_71
          have ffv_71 := efv_71.symm
          have cq_72 : fv_71 = hrf i1.toInt.toNat := ?o66
          case o66 =>
            rw [← ffv_71, ← cl_qc_11]
            exact (hx_col_at fo_9 (by unfold Int32.toNatClampNeg; omega)).symm
          obtain ⟨fv_73, efv_73⟩ : ∃ y : Int32, y = h_18.2.1 q_6 12 := ⟨_, rfl⟩
          have bfv_73 := hT.gi gq_6 tt_2 (k := 12) rfl
          rw [← efv_73] at bfv_73
          have bfv_73 : 0 ≤ fv_73.toInt ∧ fv_73.toInt ≤ 5 := bfv_73
          have ffv_73 := efv_73.symm
          have cq_74 : fv_73 = udf i1.toInt.toNat := ?o67
          case o67 =>
            rw [← ffv_73, ← cl_qc_12]
            exact (hx_col_at fo_9 (by unfold Int32.toNatClampNeg; omega)).symm
          have hTo := hT
          obtain ⟨q_75, fq_75, gq_75⟩ := hv_rf hT gq_6 tt_2 (k := 3) (u := 0) rfl
          obtain ⟨q_76, fq_76, gq_76⟩ := hv_rf hT gq_75 tt_0 (k := 2) (u := 11) rfl
          obtain ⟨fa_77, nfa_77⟩ : ∃ g : Nat → Int32, h_18.2.1 q_76 = g := ⟨_, rfl⟩
          refine hx_goi (hx_runV (As := [.ref qy, .int i2, .int i3]) (rest := []) ⟨hx, hb, hml, hown, hts⟩ hW gq_6 tt_2 (T := TX2) (N := 19) rfl (t_X2_restOn_v l dC dI dA L_17 h_18 H.size q_6 qy i2 i3 hT gq_6 (gqy.S hM) pqo (gpqo.S hM) ((hM.o gqy trivial rfl).2.trans f_qy_2) pqd (gpqd.S hM) ((hM.o gqy trivial rfl).2.trans f_qy_3) pqs (gpqs.S hM) ((hM.o gqy trivial rfl).2.trans f_qy_5) pqk (gpqk.S hM) ((hM.o gqy trivial rfl).2.trans f_qy_4) pqt (gpqt.S hM) ((hM.o gqy trivial rfl).2.trans f_qy_1) q_75 gq_75 fq_75 q_76 gq_76 fq_76 pof (hx_afS hM gpqo rfl af_pqo) pdf (hx_afS hM gpqd rfl af_pqd) psm (hx_afS hM gpqs rfl af_pqs) pkf (hx_afS hM gpqk rfl af_pqk) pst (hx_afS hM gpqt rfl af_pqt) fa_77 nfa_77 fv_54 ffv_54 fv_60 ffv_60 fv_62 ffv_62 fv_58 ffv_58 fv_64 ffv_64 fv_67 ffv_67 n0 ((hM.o gqy trivial rfl).1.trans f_qy_0) (A (plf i1.toInt.toNat).toInt.toNat).2.1 (by rw [← nfa_77]; exact (hAC i1.toNatClampNeg (by unfold Int32.toNatClampNeg; omega) (by unfold Int32.toNatClampNeg; omega) _ _ fo_9 fq_75).2.2.2.1 _ fq_76) (hAB _).1 ⟨?o68, ?o69⟩ ⟨?o70, ?o71⟩ hps) (cwV 3 hts (hx_gV kw_861 kw_927 kw_859 kw_860 kw_110) rfl rfl rfl (by decide +kernel) ⟨Nat.le_of_ble_eq_true rfl, Nat.le_of_ble_eq_true rfl⟩) rfl hl.1 rfl (Nat.le_of_ble_eq_true rfl) dX9_state_100 ⟨Nat.le_of_ble_eq_true rfl, Nat.le_of_ble_eq_true rfl⟩) hW (fun r_80 L_78 h_79 H locs p_81 hW => ?_)
          case o68 => omega
          case o69 => omega
          case o70 => omega
          case o71 => omega
          obtain ⟨hr_82, hT, hs⟩ := p_81
          replace hT : hx_T T_tb L_78 h_79 := hT
          replace hs : hx_S T_tb [] L_17 h_18 L_78 h_79 := hs
          replace f_x_10 := (hs.o gx trivial rfl).2.trans f_x_10
          replace f_x_14 := (hs.o gx trivial rfl).2.trans f_x_14
          replace f_x_11 := (hs.o gx trivial rfl).1.trans f_x_11
          replace f_x_2 := (hs.o gx trivial rfl).1.trans f_x_2
          replace fx_10 := (hs.o gq_6 trivial rfl).1.trans fx_10
          replace ffv_54 := (hs.o gq_6 trivial rfl).1.trans ffv_54
          replace ffv_56 := (hs.o gq_6 trivial rfl).1.trans ffv_56
          replace ffv_58 := (hs.o gq_6 trivial rfl).1.trans ffv_58
          replace ffv_60 := (hs.o gq_6 trivial rfl).1.trans ffv_60
          replace ffv_62 := (hs.o gq_6 trivial rfl).1.trans ffv_62
          replace ffv_64 := (hs.o gq_6 trivial rfl).1.trans ffv_64
          replace ffv_67 := (hs.o gq_6 trivial rfl).1.trans ffv_67
          replace ffv_69 := (hs.o gq_6 trivial rfl).1.trans ffv_69
          replace ffv_71 := (hs.o gq_6 trivial rfl).1.trans ffv_71
          replace ffv_73 := (hs.o gq_6 trivial rfl).1.trans ffv_73
          replace fq_75 := (hs.o gq_6 trivial rfl).2.trans fq_75
          replace fq_76 := (hs.o gq_75 trivial rfl).2.trans fq_76
          replace pf_x_11 : ∀ j : Nat, (j : Int) < (h_79.2.1 x 11).toInt → h_79.2.2 qc j ≠ none := by
            intro j hj; rw [(hs.o gx trivial rfl).1] at hj; rw [(hs.a gqc rfl j).2]; exact pf_x_11 j hj
          replace cl_qc_13 : hx_col 100 h_79 qc 13 = odf := (hx_col_S hs hTo gqc tt_45 tt_2 rfl rfl).trans cl_qc_13
          replace cl_qc_14 : hx_col 100 h_79 qc 14 = wkf := (hx_col_S hs hTo gqc tt_45 tt_2 rfl rfl).trans cl_qc_14
          replace cl_qc_15 : hx_col 100 h_79 qc 15 = owf := (hx_col_S hs hTo gqc tt_45 tt_2 rfl rfl).trans cl_qc_15
          replace cl_qc_16 : hx_col 100 h_79 qc 16 = szf := (hx_col_S hs hTo gqc tt_45 tt_2 rfl rfl).trans cl_qc_16
          replace cl_qc_17 : hx_col 100 h_79 qc 17 = gdf := (hx_col_S hs hTo gqc tt_45 tt_2 rfl rfl).trans cl_qc_17
          replace cl_qc_18 : hx_col 100 h_79 qc 18 = svf := (hx_col_S hs hTo gqc tt_45 tt_2 rfl rfl).trans cl_qc_18
          replace cl_qc_10 : hx_col 100 h_79 qc 10 = fof := (hx_col_S hs hTo gqc tt_45 tt_2 rfl rfl).trans cl_qc_10
          replace cl_qc_11 : hx_col 100 h_79 qc 11 = hrf := (hx_col_S hs hTo gqc tt_45 tt_2 rfl rfl).trans cl_qc_11
          replace cl_qc_12 : hx_col 100 h_79 qc 12 = udf := (hx_col_S hs hTo gqc tt_45 tt_2 rfl rfl).trans cl_qc_12
          replace cl_qc_8 : hx_col 100 h_79 qc 8 = flf := (hx_col_S hs hTo gqc tt_45 tt_2 rfl rfl).trans cl_qc_8
          replace nu_qc : hx_num 100 h_79 qc 0 (cn0.toInt) := hx_num_S hs hTo gqc tt_45 tt_2 rfl rfl nu_qc
          replace hAC : hv_AC h_79 qc plf cn0.toInt A := hv_AC_S hs hTo gqc tt_45 tt_2 rfl tt_0 rfl rfl rfl rfl rfl rfl rfl hAC
          replace fo_9 := (hs.a gqc rfl _).2.trans fo_9
          replace nfa_77 : h_79.2.1 q_76 = fa_77 := (funext fun j => (hs.a gq_76 rfl j).1).trans nfa_77
          replace hM := hM.tr (hs.mono ?o72)
          case o72 => decide
          replace gx := gx.S hs
          replace gqc := gqc.S hs
          replace gq_6 := gq_6.S hs
          replace gq_75 := gq_75.S hs
          replace gq_76 := gq_76.S hs
          refine hx_reti hx hb hr hlk hW ⟨(Or.inr ⟨⟨⟨?o73, ?o74⟩, (by rw [show flf i1.toInt.toNat = x_10 from cx_10.symm]; omega), (by rw [show flf i1.toInt.toNat = x_10 from cx_10.symm]; omega)⟩, Or.inr (Or.inl ⟨?o75, (by have h9 := hr_82.1; rw [show fv_67.toInt = ((i1.toInt.toNat : Nat) : Int) from by rw [cq_68]; omega] at h9; rw [cq_65, cq_55, cq_61, cq_63, cq_59] at h9; exact h9)⟩)⟩), hT, hM⟩ dX9_state_103
          case o73 => omega
          case o74 => omega
          case o75 => omega
        · refine lv_tableIn (off := 58) (tgt := 104) hx hb dX9_state_46 ?o76 ?o77 (by rw [c_23]; rfl) ?o78 ?_
          case o76 => omega
          case o77 => omega
          case o78 => decide
          refine lv_aload hx hb dX9_state_104 (lv_at hl 0 rfl) ?_
          refine lv_aload_n hx hb dX9_state_106 rfl (lv_at hl 1 rfl) ?_
          refine hk_getr hx hb hts hC_9 hown hW gx tt_9 14 ?o79 rfl kw_378 ⟨rfl, rfl, rfl⟩ f_x_14 dX9_state_107 ?_
          case o79 => decide
          refine lv_iload_n hx hb dX9_state_110 rfl (lv_at hl 3 rfl) ?_
          refine lv_iload_n hx hb dX9_state_111 rfl (lv_at hl 4 rfl) ?_
          obtain ⟨fv_84, efv_84⟩ : ∃ y : Int32, y = h_18.2.1 q_6 13 := ⟨_, rfl⟩
          have bfv_84 := hT.gi gq_6 tt_2 (k := 13) rfl
          rw [← efv_84] at bfv_84
          have bfv_84 : -2147483648 ≤ fv_84.toInt ∧ fv_84.toInt ≤ 2147483647 := bfv_84
          have ffv_84 := efv_84.symm
          have cq_85 : fv_84 = odf i1.toInt.toNat := ?o80
          case o80 =>
            rw [← ffv_84, ← cl_qc_13]
            exact (hx_col_at fo_9 (by unfold Int32.toNatClampNeg; omega)).symm
          obtain ⟨fv_86, efv_86⟩ : ∃ y : Int32, y = h_18.2.1 q_6 14 := ⟨_, rfl⟩
          have bfv_86 := hT.gi gq_6 tt_2 (k := 14) rfl
          rw [← efv_86] at bfv_86
          have bfv_86 : -2147483648 ≤ fv_86.toInt ∧ fv_86.toInt ≤ 2147483647 := bfv_86
          have ffv_86 := efv_86.symm
          have cq_87 : fv_86 = wkf i1.toInt.toNat := ?o81
          case o81 =>
            rw [← ffv_86, ← cl_qc_14]
            exact (hx_col_at fo_9 (by unfold Int32.toNatClampNeg; omega)).symm
          obtain ⟨fv_88, efv_88⟩ : ∃ y : Int32, y = h_18.2.1 q_6 15 := ⟨_, rfl⟩
          have bfv_88 := hT.gi gq_6 tt_2 (k := 15) rfl
          rw [← efv_88] at bfv_88
          have bfv_88 : -2147483648 ≤ fv_88.toInt ∧ fv_88.toInt ≤ 2147483647 := bfv_88
          have ffv_88 := efv_88.symm
          have cq_89 : fv_88 = owf i1.toInt.toNat := ?o82
          case o82 =>
            rw [← ffv_88, ← cl_qc_15]
            exact (hx_col_at fo_9 (by unfold Int32.toNatClampNeg; omega)).symm
          obtain ⟨fv_90, efv_90⟩ : ∃ y : Int32, y = h_18.2.1 q_6 16 := ⟨_, rfl⟩
          have bfv_90 := hT.gi gq_6 tt_2 (k := 16) rfl
          rw [← efv_90] at bfv_90
          have bfv_90 : -2147483648 ≤ fv_90.toInt ∧ fv_90.toInt ≤ 2147483647 := bfv_90
          have ffv_90 := efv_90.symm
          have cq_91 : fv_90 = szf i1.toInt.toNat := ?o83
          case o83 =>
            rw [← ffv_90, ← cl_qc_16]
            exact (hx_col_at fo_9 (by unfold Int32.toNatClampNeg; omega)).symm
          obtain ⟨fv_92, efv_92⟩ : ∃ y : Int32, y = h_18.2.1 q_6 17 := ⟨_, rfl⟩
          have bfv_92 := hT.gi gq_6 tt_2 (k := 17) rfl
          rw [← efv_92] at bfv_92
          have bfv_92 : -2147483648 ≤ fv_92.toInt ∧ fv_92.toInt ≤ 2147483647 := bfv_92
          have ffv_92 := efv_92.symm
          have cq_93 : fv_92 = gdf i1.toInt.toNat := ?o84
          case o84 =>
            rw [← ffv_92, ← cl_qc_17]
            exact (hx_col_at fo_9 (by unfold Int32.toNatClampNeg; omega)).symm
          obtain ⟨fv_94, efv_94⟩ : ∃ y : Int32, y = h_18.2.1 q_6 18 := ⟨_, rfl⟩
          have bfv_94 := hT.gi gq_6 tt_2 (k := 18) rfl
          rw [← efv_94] at bfv_94
          have bfv_94 : -2147483648 ≤ fv_94.toInt ∧ fv_94.toInt ≤ 2147483647 := bfv_94
          have ffv_94 := efv_94.symm
          have cq_95 : fv_94 = svf i1.toInt.toNat := ?o85
          case o85 =>
            rw [← ffv_94, ← cl_qc_18]
            exact (hx_col_at fo_9 (by unfold Int32.toNatClampNeg; omega)).symm
          have cb_96 := hCB i1.toInt.toNat (by omega); rw [← cq_85, ← cq_87, ← cq_89, ← cq_91, ← cq_93, ← cq_95] at cb_96
          obtain ⟨⟨cb_96al, cb_96ah⟩, ⟨cb_96bl, cb_96bh⟩, ⟨cb_96cl, cb_96ch⟩, ⟨cb_96dl, cb_96dh⟩, ⟨cb_96el, cb_96eh⟩, ⟨cb_96fl, cb_96fh⟩⟩ := cb_96
          obtain ⟨fv_97, efv_97⟩ : ∃ y : Int32, y = h_18.2.1 q_6 0 := ⟨_, rfl⟩
          have bfv_97 := hT.gi gq_6 tt_2 (k := 0) rfl
          rw [← efv_97] at bfv_97
          have bfv_97 : 0 ≤ fv_97.toInt ∧ fv_97.toInt ≤ 99 := bfv_97
          have ffv_97 := efv_97.symm
          have cq_98 : fv_97 = i1 := ?o86
          case o86 =>
            rw [← ffv_97]
            refine hx_num_at nu_qc fo_9 ?o87 ?o88
            case o87 => omega
            case o88 => omega
          obtain ⟨fv_99, efv_99⟩ : ∃ y : Int32, y = h_18.2.1 q_6 10 := ⟨_, rfl⟩
          have bfv_99 := hT.gi gq_6 tt_2 (k := 10) rfl
          rw [← efv_99] at bfv_99
          have bfv_99 : -1 ≤ fv_99.toInt ∧ fv_99.toInt ≤ 7999 := bfv_99
          have ffv_99 := efv_99.symm
          have cq_100 : fv_99 = fof i1.toInt.toNat := ?o89
          case o89 =>
            rw [← ffv_99, ← cl_qc_10]
            exact (hx_col_at fo_9 (by unfold Int32.toNatClampNeg; omega)).symm
          obtain ⟨fv_101, efv_101⟩ : ∃ y : Int32, y = h_18.2.1 q_6 11 := ⟨_, rfl⟩
          have bfv_101 := hT.gi gq_6 tt_2 (k := 11) rfl
          rw [← efv_101] at bfv_101
          have bfv_101 : -1 ≤ fv_101.toInt ∧ fv_101.toInt ≤ 7999 := bfv_101
          have ffv_101 := efv_101.symm
          have cq_102 : fv_101 = hrf i1.toInt.toNat := ?o90
          case o90 =>
            rw [← ffv_101, ← cl_qc_11]
            exact (hx_col_at fo_9 (by unfold Int32.toNatClampNeg; omega)).symm
          obtain ⟨fv_103, efv_103⟩ : ∃ y : Int32, y = h_18.2.1 q_6 12 := ⟨_, rfl⟩
          have bfv_103 := hT.gi gq_6 tt_2 (k := 12) rfl
          rw [← efv_103] at bfv_103
          have bfv_103 : 0 ≤ fv_103.toInt ∧ fv_103.toInt ≤ 5 := bfv_103
          have ffv_103 := efv_103.symm
          have cq_104 : fv_103 = udf i1.toInt.toNat := ?o91
          case o91 =>
            rw [← ffv_103, ← cl_qc_12]
            exact (hx_col_at fo_9 (by unfold Int32.toNatClampNeg; omega)).symm
          have hTo := hT
          obtain ⟨q_105, fq_105, gq_105⟩ := hv_rf hT gq_6 tt_2 (k := 3) (u := 0) rfl
          obtain ⟨q_106, fq_106, gq_106⟩ := hv_rf hT gq_105 tt_0 (k := 2) (u := 11) rfl
          obtain ⟨fa_107, nfa_107⟩ : ∃ g : Nat → Int32, h_18.2.1 q_106 = g := ⟨_, rfl⟩
          refine hx_goi (hx_runVX (As := [.ref qy, .int i2, .int i3]) (rest := []) ⟨hx, hb, hml, hown, hts⟩ hW gq_6 tt_2 (T := TX2) (N := 19) rfl (t_X2_missedOn_v l dC dI dA L_17 h_18 H.size b0 q_6 qy i2 i3 hT gq_6 (gqy.S hM) pqo (gpqo.S hM) ((hM.o gqy trivial rfl).2.trans f_qy_2) pqd (gpqd.S hM) ((hM.o gqy trivial rfl).2.trans f_qy_3) pqs (gpqs.S hM) ((hM.o gqy trivial rfl).2.trans f_qy_5) pqk (gpqk.S hM) ((hM.o gqy trivial rfl).2.trans f_qy_4) pqt (gpqt.S hM) ((hM.o gqy trivial rfl).2.trans f_qy_1) q_105 gq_105 fq_105 q_106 gq_106 fq_106 pof (hx_afS hM gpqo rfl af_pqo) pdf (hx_afS hM gpqd rfl af_pqd) psm (hx_afS hM gpqs rfl af_pqs) pkf (hx_afS hM gpqk rfl af_pqk) pst (hx_afS hM gpqt rfl af_pqt) fa_107 nfa_107 fv_84 ffv_84 fv_86 ffv_86 fv_88 ffv_88 fv_90 ffv_90 fv_92 ffv_92 fv_94 ffv_94 fv_97 ffv_97 n0 ((hM.o gqy trivial rfl).1.trans f_qy_0) (A (plf i1.toInt.toNat).toInt.toNat).2.1 (by rw [← nfa_107]; exact (hAC i1.toNatClampNeg (by unfold Int32.toNatClampNeg; omega) (by unfold Int32.toNatClampNeg; omega) _ _ fo_9 fq_105).2.2.2.1 _ fq_106) (hAB _).1 ⟨?o92, ?o93⟩ ⟨?o94, ?o95⟩ ⟨?o96, ?o97⟩ ⟨?o98, ?o99⟩ hps ⟨?o100, ?o101⟩) hZ (cwV 3 hts (hx_gV kw_915 kw_938 kw_913 kw_914 kw_110) rfl rfl rfl (by decide +kernel) ⟨Nat.le_of_ble_eq_true rfl, Nat.le_of_ble_eq_true rfl⟩) rfl hl.1 rfl (Nat.le_of_ble_eq_true rfl) dX9_state_112 ⟨Nat.le_of_ble_eq_true rfl, Nat.le_of_ble_eq_true rfl⟩) hW (fun r_110 L_108 h_109 H locs p_111 hW => ?_)
          case o92 => omega
          case o93 => omega
          case o94 => omega
          case o95 => omega
          case o96 => omega
          case o97 => omega
          case o98 => omega
          case o99 => omega
          case o100 => omega
          case o101 => omega
          obtain ⟨hr_112, hT, hs⟩ := p_111
          replace hT : hx_T T_tb L_108 h_109 := hT
          replace hs : hx_S T_tb [] L_17 h_18 L_108 h_109 := hs
          replace f_x_10 := (hs.o gx trivial rfl).2.trans f_x_10
          replace f_x_14 := (hs.o gx trivial rfl).2.trans f_x_14
          replace f_x_11 := (hs.o gx trivial rfl).1.trans f_x_11
          replace f_x_2 := (hs.o gx trivial rfl).1.trans f_x_2
          replace fx_10 := (hs.o gq_6 trivial rfl).1.trans fx_10
          replace ffv_84 := (hs.o gq_6 trivial rfl).1.trans ffv_84
          replace ffv_86 := (hs.o gq_6 trivial rfl).1.trans ffv_86
          replace ffv_88 := (hs.o gq_6 trivial rfl).1.trans ffv_88
          replace ffv_90 := (hs.o gq_6 trivial rfl).1.trans ffv_90
          replace ffv_92 := (hs.o gq_6 trivial rfl).1.trans ffv_92
          replace ffv_94 := (hs.o gq_6 trivial rfl).1.trans ffv_94
          replace ffv_97 := (hs.o gq_6 trivial rfl).1.trans ffv_97
          replace ffv_99 := (hs.o gq_6 trivial rfl).1.trans ffv_99
          replace ffv_101 := (hs.o gq_6 trivial rfl).1.trans ffv_101
          replace ffv_103 := (hs.o gq_6 trivial rfl).1.trans ffv_103
          replace fq_105 := (hs.o gq_6 trivial rfl).2.trans fq_105
          replace fq_106 := (hs.o gq_105 trivial rfl).2.trans fq_106
          replace pf_x_11 : ∀ j : Nat, (j : Int) < (h_109.2.1 x 11).toInt → h_109.2.2 qc j ≠ none := by
            intro j hj; rw [(hs.o gx trivial rfl).1] at hj; rw [(hs.a gqc rfl j).2]; exact pf_x_11 j hj
          replace cl_qc_13 : hx_col 100 h_109 qc 13 = odf := (hx_col_S hs hTo gqc tt_45 tt_2 rfl rfl).trans cl_qc_13
          replace cl_qc_14 : hx_col 100 h_109 qc 14 = wkf := (hx_col_S hs hTo gqc tt_45 tt_2 rfl rfl).trans cl_qc_14
          replace cl_qc_15 : hx_col 100 h_109 qc 15 = owf := (hx_col_S hs hTo gqc tt_45 tt_2 rfl rfl).trans cl_qc_15
          replace cl_qc_16 : hx_col 100 h_109 qc 16 = szf := (hx_col_S hs hTo gqc tt_45 tt_2 rfl rfl).trans cl_qc_16
          replace cl_qc_17 : hx_col 100 h_109 qc 17 = gdf := (hx_col_S hs hTo gqc tt_45 tt_2 rfl rfl).trans cl_qc_17
          replace cl_qc_18 : hx_col 100 h_109 qc 18 = svf := (hx_col_S hs hTo gqc tt_45 tt_2 rfl rfl).trans cl_qc_18
          replace cl_qc_10 : hx_col 100 h_109 qc 10 = fof := (hx_col_S hs hTo gqc tt_45 tt_2 rfl rfl).trans cl_qc_10
          replace cl_qc_11 : hx_col 100 h_109 qc 11 = hrf := (hx_col_S hs hTo gqc tt_45 tt_2 rfl rfl).trans cl_qc_11
          replace cl_qc_12 : hx_col 100 h_109 qc 12 = udf := (hx_col_S hs hTo gqc tt_45 tt_2 rfl rfl).trans cl_qc_12
          replace cl_qc_8 : hx_col 100 h_109 qc 8 = flf := (hx_col_S hs hTo gqc tt_45 tt_2 rfl rfl).trans cl_qc_8
          replace nu_qc : hx_num 100 h_109 qc 0 (cn0.toInt) := hx_num_S hs hTo gqc tt_45 tt_2 rfl rfl nu_qc
          replace hAC : hv_AC h_109 qc plf cn0.toInt A := hv_AC_S hs hTo gqc tt_45 tt_2 rfl tt_0 rfl rfl rfl rfl rfl rfl rfl hAC
          replace fo_9 := (hs.a gqc rfl _).2.trans fo_9
          replace nfa_107 : h_109.2.1 q_106 = fa_107 := (funext fun j => (hs.a gq_106 rfl j).1).trans nfa_107
          replace hM := hM.tr (hs.mono ?o102)
          case o102 => decide
          replace gx := gx.S hs
          replace gqc := gqc.S hs
          replace gq_6 := gq_6.S hs
          replace gq_105 := gq_105.S hs
          replace gq_106 := gq_106.S hs
          refine hx_reti hx hb hr hlk hW ⟨(Or.inr ⟨⟨⟨?o103, ?o104⟩, (by rw [show flf i1.toInt.toNat = x_10 from cx_10.symm]; omega), (by rw [show flf i1.toInt.toNat = x_10 from cx_10.symm]; omega)⟩, Or.inr (Or.inr (Or.inl ⟨?o105, (by have h9 := hr_112.1; rw [show fv_97.toInt = ((i1.toInt.toNat : Nat) : Int) from by rw [cq_98]; omega] at h9; rw [cq_85, cq_95, cq_87, cq_89, cq_91, cq_93] at h9; exact h9)⟩))⟩), hT, hM⟩ dX9_state_115
          case o103 => omega
          case o104 => omega
          case o105 => omega
        · refine lv_tableIn (off := 70) (tgt := 116) hx hb dX9_state_46 ?o106 ?o107 (by rw [c_23]; rfl) ?o108 ?_
          case o106 => omega
          case o107 => omega
          case o108 => decide
          refine lv_aload hx hb dX9_state_116 (lv_at hl 0 rfl) ?_
          refine lv_aload_n hx hb dX9_state_118 rfl (lv_at hl 1 rfl) ?_
          refine hk_getr hx hb hts hC_9 hown hW gx tt_9 14 ?o109 rfl kw_378 ⟨rfl, rfl, rfl⟩ f_x_14 dX9_state_119 ?_
          case o109 => decide
          refine lv_iload_n hx hb dX9_state_122 rfl (lv_at hl 3 rfl) ?_
          refine lv_iload_n hx hb dX9_state_123 rfl (lv_at hl 4 rfl) ?_
          obtain ⟨fv_114, efv_114⟩ : ∃ y : Int32, y = h_18.2.1 q_6 13 := ⟨_, rfl⟩
          have bfv_114 := hT.gi gq_6 tt_2 (k := 13) rfl
          rw [← efv_114] at bfv_114
          have bfv_114 : -2147483648 ≤ fv_114.toInt ∧ fv_114.toInt ≤ 2147483647 := bfv_114
          have ffv_114 := efv_114.symm
          have cq_115 : fv_114 = odf i1.toInt.toNat := ?o110
          case o110 =>
            rw [← ffv_114, ← cl_qc_13]
            exact (hx_col_at fo_9 (by unfold Int32.toNatClampNeg; omega)).symm
          obtain ⟨fv_116, efv_116⟩ : ∃ y : Int32, y = h_18.2.1 q_6 14 := ⟨_, rfl⟩
          have bfv_116 := hT.gi gq_6 tt_2 (k := 14) rfl
          rw [← efv_116] at bfv_116
          have bfv_116 : -2147483648 ≤ fv_116.toInt ∧ fv_116.toInt ≤ 2147483647 := bfv_116
          have ffv_116 := efv_116.symm
          have cq_117 : fv_116 = wkf i1.toInt.toNat := ?o111
          case o111 =>
            rw [← ffv_116, ← cl_qc_14]
            exact (hx_col_at fo_9 (by unfold Int32.toNatClampNeg; omega)).symm
          obtain ⟨fv_118, efv_118⟩ : ∃ y : Int32, y = h_18.2.1 q_6 15 := ⟨_, rfl⟩
          have bfv_118 := hT.gi gq_6 tt_2 (k := 15) rfl
          rw [← efv_118] at bfv_118
          have bfv_118 : -2147483648 ≤ fv_118.toInt ∧ fv_118.toInt ≤ 2147483647 := bfv_118
          have ffv_118 := efv_118.symm
          have cq_119 : fv_118 = owf i1.toInt.toNat := ?o112
          case o112 =>
            rw [← ffv_118, ← cl_qc_15]
            exact (hx_col_at fo_9 (by unfold Int32.toNatClampNeg; omega)).symm
          obtain ⟨fv_120, efv_120⟩ : ∃ y : Int32, y = h_18.2.1 q_6 16 := ⟨_, rfl⟩
          have bfv_120 := hT.gi gq_6 tt_2 (k := 16) rfl
          rw [← efv_120] at bfv_120
          have bfv_120 : -2147483648 ≤ fv_120.toInt ∧ fv_120.toInt ≤ 2147483647 := bfv_120
          have ffv_120 := efv_120.symm
          have cq_121 : fv_120 = szf i1.toInt.toNat := ?o113
          case o113 =>
            rw [← ffv_120, ← cl_qc_16]
            exact (hx_col_at fo_9 (by unfold Int32.toNatClampNeg; omega)).symm
          obtain ⟨fv_122, efv_122⟩ : ∃ y : Int32, y = h_18.2.1 q_6 17 := ⟨_, rfl⟩
          have bfv_122 := hT.gi gq_6 tt_2 (k := 17) rfl
          rw [← efv_122] at bfv_122
          have bfv_122 : -2147483648 ≤ fv_122.toInt ∧ fv_122.toInt ≤ 2147483647 := bfv_122
          have ffv_122 := efv_122.symm
          have cq_123 : fv_122 = gdf i1.toInt.toNat := ?o114
          case o114 =>
            rw [← ffv_122, ← cl_qc_17]
            exact (hx_col_at fo_9 (by unfold Int32.toNatClampNeg; omega)).symm
          obtain ⟨fv_124, efv_124⟩ : ∃ y : Int32, y = h_18.2.1 q_6 18 := ⟨_, rfl⟩
          have bfv_124 := hT.gi gq_6 tt_2 (k := 18) rfl
          rw [← efv_124] at bfv_124
          have bfv_124 : -2147483648 ≤ fv_124.toInt ∧ fv_124.toInt ≤ 2147483647 := bfv_124
          have ffv_124 := efv_124.symm
          have cq_125 : fv_124 = svf i1.toInt.toNat := ?o115
          case o115 =>
            rw [← ffv_124, ← cl_qc_18]
            exact (hx_col_at fo_9 (by unfold Int32.toNatClampNeg; omega)).symm
          have cb_126 := hCB i1.toInt.toNat (by omega); rw [← cq_115, ← cq_117, ← cq_119, ← cq_121, ← cq_123, ← cq_125] at cb_126
          obtain ⟨⟨cb_126al, cb_126ah⟩, ⟨cb_126bl, cb_126bh⟩, ⟨cb_126cl, cb_126ch⟩, ⟨cb_126dl, cb_126dh⟩, ⟨cb_126el, cb_126eh⟩, ⟨cb_126fl, cb_126fh⟩⟩ := cb_126
          obtain ⟨fv_127, efv_127⟩ : ∃ y : Int32, y = h_18.2.1 q_6 0 := ⟨_, rfl⟩
          have bfv_127 := hT.gi gq_6 tt_2 (k := 0) rfl
          rw [← efv_127] at bfv_127
          have bfv_127 : 0 ≤ fv_127.toInt ∧ fv_127.toInt ≤ 99 := bfv_127
          have ffv_127 := efv_127.symm
          have cq_128 : fv_127 = i1 := ?o116
          case o116 =>
            rw [← ffv_127]
            refine hx_num_at nu_qc fo_9 ?o117 ?o118
            case o117 => omega
            case o118 => omega
          obtain ⟨fv_129, efv_129⟩ : ∃ y : Int32, y = h_18.2.1 q_6 10 := ⟨_, rfl⟩
          have bfv_129 := hT.gi gq_6 tt_2 (k := 10) rfl
          rw [← efv_129] at bfv_129
          have bfv_129 : -1 ≤ fv_129.toInt ∧ fv_129.toInt ≤ 7999 := bfv_129
          have ffv_129 := efv_129.symm
          have cq_130 : fv_129 = fof i1.toInt.toNat := ?o119
          case o119 =>
            rw [← ffv_129, ← cl_qc_10]
            exact (hx_col_at fo_9 (by unfold Int32.toNatClampNeg; omega)).symm
          obtain ⟨fv_131, efv_131⟩ : ∃ y : Int32, y = h_18.2.1 q_6 11 := ⟨_, rfl⟩
          have bfv_131 := hT.gi gq_6 tt_2 (k := 11) rfl
          rw [← efv_131] at bfv_131
          have bfv_131 : -1 ≤ fv_131.toInt ∧ fv_131.toInt ≤ 7999 := bfv_131
          have ffv_131 := efv_131.symm
          have cq_132 : fv_131 = hrf i1.toInt.toNat := ?o120
          case o120 =>
            rw [← ffv_131, ← cl_qc_11]
            exact (hx_col_at fo_9 (by unfold Int32.toNatClampNeg; omega)).symm
          obtain ⟨fv_133, efv_133⟩ : ∃ y : Int32, y = h_18.2.1 q_6 12 := ⟨_, rfl⟩
          have bfv_133 := hT.gi gq_6 tt_2 (k := 12) rfl
          rw [← efv_133] at bfv_133
          have bfv_133 : 0 ≤ fv_133.toInt ∧ fv_133.toInt ≤ 5 := bfv_133
          have ffv_133 := efv_133.symm
          have cq_134 : fv_133 = udf i1.toInt.toNat := ?o121
          case o121 =>
            rw [← ffv_133, ← cl_qc_12]
            exact (hx_col_at fo_9 (by unfold Int32.toNatClampNeg; omega)).symm
          have hTo := hT
          refine hx_goi (hx_runV (As := [.ref qy, .int i2, .int i3]) (rest := []) ⟨hx, hb, hml, hown, hts⟩ hW gq_6 tt_2 (T := TX2) (N := 19) rfl (t_X2_paidOn_v l dC dI dA L_17 h_18 H.size q_6 qy i2 i3 hT gq_6 (gqy.S hM) pqo (gpqo.S hM) ((hM.o gqy trivial rfl).2.trans f_qy_2) pqd (gpqd.S hM) ((hM.o gqy trivial rfl).2.trans f_qy_3) pqs (gpqs.S hM) ((hM.o gqy trivial rfl).2.trans f_qy_5) pqk (gpqk.S hM) ((hM.o gqy trivial rfl).2.trans f_qy_4) pqt (gpqt.S hM) ((hM.o gqy trivial rfl).2.trans f_qy_1) pof (hx_afS hM gpqo rfl af_pqo) pdf (hx_afS hM gpqd rfl af_pqd) psm (hx_afS hM gpqs rfl af_pqs) pkf (hx_afS hM gpqk rfl af_pqk) pst (hx_afS hM gpqt rfl af_pqt) fv_114 ffv_114 fv_120 ffv_120 fv_122 ffv_122 fv_127 ffv_127 n0 ((hM.o gqy trivial rfl).1.trans f_qy_0) ⟨?o122, ?o123⟩ hps) (cwV 3 hts (hx_gV kw_876 kw_939 kw_874 kw_875 kw_110) rfl rfl rfl (by decide +kernel) ⟨Nat.le_of_ble_eq_true rfl, Nat.le_of_ble_eq_true rfl⟩) rfl hl.1 rfl (Nat.le_of_ble_eq_true rfl) dX9_state_124 ⟨Nat.le_of_ble_eq_true rfl, Nat.le_of_ble_eq_true rfl⟩) hW (fun r_137 L_135 h_136 H locs p_138 hW => ?_)
          case o122 => omega
          case o123 => omega
          obtain ⟨hr_139, hT, hs⟩ := p_138
          replace hT : hx_T T_tb L_135 h_136 := hT
          replace hs : hx_S T_tb [] L_17 h_18 L_135 h_136 := hs
          replace f_x_10 := (hs.o gx trivial rfl).2.trans f_x_10
          replace f_x_14 := (hs.o gx trivial rfl).2.trans f_x_14
          replace f_x_11 := (hs.o gx trivial rfl).1.trans f_x_11
          replace f_x_2 := (hs.o gx trivial rfl).1.trans f_x_2
          replace fx_10 := (hs.o gq_6 trivial rfl).1.trans fx_10
          replace ffv_114 := (hs.o gq_6 trivial rfl).1.trans ffv_114
          replace ffv_116 := (hs.o gq_6 trivial rfl).1.trans ffv_116
          replace ffv_118 := (hs.o gq_6 trivial rfl).1.trans ffv_118
          replace ffv_120 := (hs.o gq_6 trivial rfl).1.trans ffv_120
          replace ffv_122 := (hs.o gq_6 trivial rfl).1.trans ffv_122
          replace ffv_124 := (hs.o gq_6 trivial rfl).1.trans ffv_124
          replace ffv_127 := (hs.o gq_6 trivial rfl).1.trans ffv_127
          replace ffv_129 := (hs.o gq_6 trivial rfl).1.trans ffv_129
          replace ffv_131 := (hs.o gq_6 trivial rfl).1.trans ffv_131
          replace ffv_133 := (hs.o gq_6 trivial rfl).1.trans ffv_133
          replace pf_x_11 : ∀ j : Nat, (j : Int) < (h_136.2.1 x 11).toInt → h_136.2.2 qc j ≠ none := by
            intro j hj; rw [(hs.o gx trivial rfl).1] at hj; rw [(hs.a gqc rfl j).2]; exact pf_x_11 j hj
          replace cl_qc_13 : hx_col 100 h_136 qc 13 = odf := (hx_col_S hs hTo gqc tt_45 tt_2 rfl rfl).trans cl_qc_13
          replace cl_qc_14 : hx_col 100 h_136 qc 14 = wkf := (hx_col_S hs hTo gqc tt_45 tt_2 rfl rfl).trans cl_qc_14
          replace cl_qc_15 : hx_col 100 h_136 qc 15 = owf := (hx_col_S hs hTo gqc tt_45 tt_2 rfl rfl).trans cl_qc_15
          replace cl_qc_16 : hx_col 100 h_136 qc 16 = szf := (hx_col_S hs hTo gqc tt_45 tt_2 rfl rfl).trans cl_qc_16
          replace cl_qc_17 : hx_col 100 h_136 qc 17 = gdf := (hx_col_S hs hTo gqc tt_45 tt_2 rfl rfl).trans cl_qc_17
          replace cl_qc_18 : hx_col 100 h_136 qc 18 = svf := (hx_col_S hs hTo gqc tt_45 tt_2 rfl rfl).trans cl_qc_18
          replace cl_qc_10 : hx_col 100 h_136 qc 10 = fof := (hx_col_S hs hTo gqc tt_45 tt_2 rfl rfl).trans cl_qc_10
          replace cl_qc_11 : hx_col 100 h_136 qc 11 = hrf := (hx_col_S hs hTo gqc tt_45 tt_2 rfl rfl).trans cl_qc_11
          replace cl_qc_12 : hx_col 100 h_136 qc 12 = udf := (hx_col_S hs hTo gqc tt_45 tt_2 rfl rfl).trans cl_qc_12
          replace cl_qc_8 : hx_col 100 h_136 qc 8 = flf := (hx_col_S hs hTo gqc tt_45 tt_2 rfl rfl).trans cl_qc_8
          replace nu_qc : hx_num 100 h_136 qc 0 (cn0.toInt) := hx_num_S hs hTo gqc tt_45 tt_2 rfl rfl nu_qc
          replace hAC : hv_AC h_136 qc plf cn0.toInt A := hv_AC_S hs hTo gqc tt_45 tt_2 rfl tt_0 rfl rfl rfl rfl rfl rfl rfl hAC
          replace fo_9 := (hs.a gqc rfl _).2.trans fo_9
          replace hM := hM.tr (hs.mono ?o124)
          case o124 => decide
          replace gx := gx.S hs
          replace gqc := gqc.S hs
          replace gq_6 := gq_6.S hs
          refine hx_reti hx hb hr hlk hW ⟨(Or.inr ⟨⟨⟨?o125, ?o126⟩, (by rw [show flf i1.toInt.toNat = x_10 from cx_10.symm]; omega), (by rw [show flf i1.toInt.toNat = x_10 from cx_10.symm]; omega)⟩, Or.inr (Or.inr (Or.inr (Or.inl ⟨?o127, (by have h9 := hr_139.1; rw [show fv_127.toInt = ((i1.toInt.toNat : Nat) : Int) from by rw [cq_128]; omega] at h9; rw [cq_115, cq_121, cq_123] at h9; exact h9)⟩)))⟩), hT, hM⟩ dX9_state_127
          case o125 => omega
          case o126 => omega
          case o127 => omega
        · refine lv_tableIn (off := 82) (tgt := 128) hx hb dX9_state_46 ?o128 ?o129 (by rw [c_23]; rfl) ?o130 ?_
          case o128 => omega
          case o129 => omega
          case o130 => decide
          refine lv_aload hx hb dX9_state_128 (lv_at hl 0 rfl) ?_
          refine lv_aload_n hx hb dX9_state_130 rfl (lv_at hl 1 rfl) ?_
          refine hk_getr hx hb hts hC_9 hown hW gx tt_9 14 ?o131 rfl kw_378 ⟨rfl, rfl, rfl⟩ f_x_14 dX9_state_131 ?_
          case o131 => decide
          refine lv_iload_n hx hb dX9_state_134 rfl (lv_at hl 3 rfl) ?_
          refine lv_iload_n hx hb dX9_state_135 rfl (lv_at hl 4 rfl) ?_
          obtain ⟨fv_141, efv_141⟩ : ∃ y : Int32, y = h_18.2.1 q_6 13 := ⟨_, rfl⟩
          have bfv_141 := hT.gi gq_6 tt_2 (k := 13) rfl
          rw [← efv_141] at bfv_141
          have bfv_141 : -2147483648 ≤ fv_141.toInt ∧ fv_141.toInt ≤ 2147483647 := bfv_141
          have ffv_141 := efv_141.symm
          have cq_142 : fv_141 = odf i1.toInt.toNat := ?o132
          case o132 =>
            rw [← ffv_141, ← cl_qc_13]
            exact (hx_col_at fo_9 (by unfold Int32.toNatClampNeg; omega)).symm
          obtain ⟨fv_143, efv_143⟩ : ∃ y : Int32, y = h_18.2.1 q_6 14 := ⟨_, rfl⟩
          have bfv_143 := hT.gi gq_6 tt_2 (k := 14) rfl
          rw [← efv_143] at bfv_143
          have bfv_143 : -2147483648 ≤ fv_143.toInt ∧ fv_143.toInt ≤ 2147483647 := bfv_143
          have ffv_143 := efv_143.symm
          have cq_144 : fv_143 = wkf i1.toInt.toNat := ?o133
          case o133 =>
            rw [← ffv_143, ← cl_qc_14]
            exact (hx_col_at fo_9 (by unfold Int32.toNatClampNeg; omega)).symm
          obtain ⟨fv_145, efv_145⟩ : ∃ y : Int32, y = h_18.2.1 q_6 15 := ⟨_, rfl⟩
          have bfv_145 := hT.gi gq_6 tt_2 (k := 15) rfl
          rw [← efv_145] at bfv_145
          have bfv_145 : -2147483648 ≤ fv_145.toInt ∧ fv_145.toInt ≤ 2147483647 := bfv_145
          have ffv_145 := efv_145.symm
          have cq_146 : fv_145 = owf i1.toInt.toNat := ?o134
          case o134 =>
            rw [← ffv_145, ← cl_qc_15]
            exact (hx_col_at fo_9 (by unfold Int32.toNatClampNeg; omega)).symm
          obtain ⟨fv_147, efv_147⟩ : ∃ y : Int32, y = h_18.2.1 q_6 16 := ⟨_, rfl⟩
          have bfv_147 := hT.gi gq_6 tt_2 (k := 16) rfl
          rw [← efv_147] at bfv_147
          have bfv_147 : -2147483648 ≤ fv_147.toInt ∧ fv_147.toInt ≤ 2147483647 := bfv_147
          have ffv_147 := efv_147.symm
          have cq_148 : fv_147 = szf i1.toInt.toNat := ?o135
          case o135 =>
            rw [← ffv_147, ← cl_qc_16]
            exact (hx_col_at fo_9 (by unfold Int32.toNatClampNeg; omega)).symm
          obtain ⟨fv_149, efv_149⟩ : ∃ y : Int32, y = h_18.2.1 q_6 17 := ⟨_, rfl⟩
          have bfv_149 := hT.gi gq_6 tt_2 (k := 17) rfl
          rw [← efv_149] at bfv_149
          have bfv_149 : -2147483648 ≤ fv_149.toInt ∧ fv_149.toInt ≤ 2147483647 := bfv_149
          have ffv_149 := efv_149.symm
          have cq_150 : fv_149 = gdf i1.toInt.toNat := ?o136
          case o136 =>
            rw [← ffv_149, ← cl_qc_17]
            exact (hx_col_at fo_9 (by unfold Int32.toNatClampNeg; omega)).symm
          obtain ⟨fv_151, efv_151⟩ : ∃ y : Int32, y = h_18.2.1 q_6 18 := ⟨_, rfl⟩
          have bfv_151 := hT.gi gq_6 tt_2 (k := 18) rfl
          rw [← efv_151] at bfv_151
          have bfv_151 : -2147483648 ≤ fv_151.toInt ∧ fv_151.toInt ≤ 2147483647 := bfv_151
          have ffv_151 := efv_151.symm
          have cq_152 : fv_151 = svf i1.toInt.toNat := ?o137
          case o137 =>
            rw [← ffv_151, ← cl_qc_18]
            exact (hx_col_at fo_9 (by unfold Int32.toNatClampNeg; omega)).symm
          have cb_153 := hCB i1.toInt.toNat (by omega); rw [← cq_142, ← cq_144, ← cq_146, ← cq_148, ← cq_150, ← cq_152] at cb_153
          obtain ⟨⟨cb_153al, cb_153ah⟩, ⟨cb_153bl, cb_153bh⟩, ⟨cb_153cl, cb_153ch⟩, ⟨cb_153dl, cb_153dh⟩, ⟨cb_153el, cb_153eh⟩, ⟨cb_153fl, cb_153fh⟩⟩ := cb_153
          obtain ⟨fv_154, efv_154⟩ : ∃ y : Int32, y = h_18.2.1 q_6 0 := ⟨_, rfl⟩
          have bfv_154 := hT.gi gq_6 tt_2 (k := 0) rfl
          rw [← efv_154] at bfv_154
          have bfv_154 : 0 ≤ fv_154.toInt ∧ fv_154.toInt ≤ 99 := bfv_154
          have ffv_154 := efv_154.symm
          have cq_155 : fv_154 = i1 := ?o138
          case o138 =>
            rw [← ffv_154]
            refine hx_num_at nu_qc fo_9 ?o139 ?o140
            case o139 => omega
            case o140 => omega
          obtain ⟨fv_156, efv_156⟩ : ∃ y : Int32, y = h_18.2.1 q_6 10 := ⟨_, rfl⟩
          have bfv_156 := hT.gi gq_6 tt_2 (k := 10) rfl
          rw [← efv_156] at bfv_156
          have bfv_156 : -1 ≤ fv_156.toInt ∧ fv_156.toInt ≤ 7999 := bfv_156
          have ffv_156 := efv_156.symm
          have cq_157 : fv_156 = fof i1.toInt.toNat := ?o141
          case o141 =>
            rw [← ffv_156, ← cl_qc_10]
            exact (hx_col_at fo_9 (by unfold Int32.toNatClampNeg; omega)).symm
          obtain ⟨fv_158, efv_158⟩ : ∃ y : Int32, y = h_18.2.1 q_6 11 := ⟨_, rfl⟩
          have bfv_158 := hT.gi gq_6 tt_2 (k := 11) rfl
          rw [← efv_158] at bfv_158
          have bfv_158 : -1 ≤ fv_158.toInt ∧ fv_158.toInt ≤ 7999 := bfv_158
          have ffv_158 := efv_158.symm
          have cq_159 : fv_158 = hrf i1.toInt.toNat := ?o142
          case o142 =>
            rw [← ffv_158, ← cl_qc_11]
            exact (hx_col_at fo_9 (by unfold Int32.toNatClampNeg; omega)).symm
          obtain ⟨fv_160, efv_160⟩ : ∃ y : Int32, y = h_18.2.1 q_6 12 := ⟨_, rfl⟩
          have bfv_160 := hT.gi gq_6 tt_2 (k := 12) rfl
          rw [← efv_160] at bfv_160
          have bfv_160 : 0 ≤ fv_160.toInt ∧ fv_160.toInt ≤ 5 := bfv_160
          have ffv_160 := efv_160.symm
          have cq_161 : fv_160 = udf i1.toInt.toNat := ?o143
          case o143 =>
            rw [← ffv_160, ← cl_qc_12]
            exact (hx_col_at fo_9 (by unfold Int32.toNatClampNeg; omega)).symm
          have hTo := hT
          obtain ⟨q_162, fq_162, gq_162⟩ := hv_rf hT gq_6 tt_2 (k := 3) (u := 0) rfl
          obtain ⟨q_163, fq_163, gq_163⟩ := hv_rf hT gq_162 tt_0 (k := 2) (u := 11) rfl
          obtain ⟨fa_164, nfa_164⟩ : ∃ g : Nat → Int32, h_18.2.1 q_163 = g := ⟨_, rfl⟩
          refine hx_goi (hx_runV (As := [.ref qy, .int i2, .int i3]) (rest := []) ⟨hx, hb, hml, hown, hts⟩ hW gq_6 tt_2 (T := TX2) (N := 19) rfl (t_X2_overOn_v l dC dI dA L_17 h_18 H.size q_6 qy i2 i3 hT gq_6 (gqy.S hM) pqo (gpqo.S hM) ((hM.o gqy trivial rfl).2.trans f_qy_2) pqd (gpqd.S hM) ((hM.o gqy trivial rfl).2.trans f_qy_3) pqs (gpqs.S hM) ((hM.o gqy trivial rfl).2.trans f_qy_5) pqk (gpqk.S hM) ((hM.o gqy trivial rfl).2.trans f_qy_4) pqt (gpqt.S hM) ((hM.o gqy trivial rfl).2.trans f_qy_1) q_162 gq_162 fq_162 q_163 gq_163 fq_163 pof (hx_afS hM gpqo rfl af_pqo) pdf (hx_afS hM gpqd rfl af_pqd) psm (hx_afS hM gpqs rfl af_pqs) pkf (hx_afS hM gpqk rfl af_pqk) pst (hx_afS hM gpqt rfl af_pqt) fa_164 nfa_164 fv_141 ffv_141 fv_147 ffv_147 fv_149 ffv_149 fv_145 ffv_145 fv_151 ffv_151 fv_154 ffv_154 n0 ((hM.o gqy trivial rfl).1.trans f_qy_0) (A (plf i1.toInt.toNat).toInt.toNat).2.1 (by rw [← nfa_164]; exact (hAC i1.toNatClampNeg (by unfold Int32.toNatClampNeg; omega) (by unfold Int32.toNatClampNeg; omega) _ _ fo_9 fq_162).2.2.2.1 _ fq_163) (hAB _).1 ⟨?o144, ?o145⟩ ⟨?o146, ?o147⟩ hps) (cwV 3 hts (hx_gV kw_943 kw_940 kw_941 kw_942 kw_110) rfl rfl rfl (by decide +kernel) ⟨Nat.le_of_ble_eq_true rfl, Nat.le_of_ble_eq_true rfl⟩) rfl hl.1 rfl (Nat.le_of_ble_eq_true rfl) dX9_state_136 ⟨Nat.le_of_ble_eq_true rfl, Nat.le_of_ble_eq_true rfl⟩) hW (fun r_167 L_165 h_166 H locs p_168 hW => ?_)
          case o144 => omega
          case o145 => omega
          case o146 => omega
          case o147 => omega
          obtain ⟨hr_169, hT, hs⟩ := p_168
          replace hT : hx_T T_tb L_165 h_166 := hT
          replace hs : hx_S T_tb [] L_17 h_18 L_165 h_166 := hs
          replace f_x_10 := (hs.o gx trivial rfl).2.trans f_x_10
          replace f_x_14 := (hs.o gx trivial rfl).2.trans f_x_14
          replace f_x_11 := (hs.o gx trivial rfl).1.trans f_x_11
          replace f_x_2 := (hs.o gx trivial rfl).1.trans f_x_2
          replace fx_10 := (hs.o gq_6 trivial rfl).1.trans fx_10
          replace ffv_141 := (hs.o gq_6 trivial rfl).1.trans ffv_141
          replace ffv_143 := (hs.o gq_6 trivial rfl).1.trans ffv_143
          replace ffv_145 := (hs.o gq_6 trivial rfl).1.trans ffv_145
          replace ffv_147 := (hs.o gq_6 trivial rfl).1.trans ffv_147
          replace ffv_149 := (hs.o gq_6 trivial rfl).1.trans ffv_149
          replace ffv_151 := (hs.o gq_6 trivial rfl).1.trans ffv_151
          replace ffv_154 := (hs.o gq_6 trivial rfl).1.trans ffv_154
          replace ffv_156 := (hs.o gq_6 trivial rfl).1.trans ffv_156
          replace ffv_158 := (hs.o gq_6 trivial rfl).1.trans ffv_158
          replace ffv_160 := (hs.o gq_6 trivial rfl).1.trans ffv_160
          replace fq_162 := (hs.o gq_6 trivial rfl).2.trans fq_162
          replace fq_163 := (hs.o gq_162 trivial rfl).2.trans fq_163
          replace pf_x_11 : ∀ j : Nat, (j : Int) < (h_166.2.1 x 11).toInt → h_166.2.2 qc j ≠ none := by
            intro j hj; rw [(hs.o gx trivial rfl).1] at hj; rw [(hs.a gqc rfl j).2]; exact pf_x_11 j hj
          replace cl_qc_13 : hx_col 100 h_166 qc 13 = odf := (hx_col_S hs hTo gqc tt_45 tt_2 rfl rfl).trans cl_qc_13
          replace cl_qc_14 : hx_col 100 h_166 qc 14 = wkf := (hx_col_S hs hTo gqc tt_45 tt_2 rfl rfl).trans cl_qc_14
          replace cl_qc_15 : hx_col 100 h_166 qc 15 = owf := (hx_col_S hs hTo gqc tt_45 tt_2 rfl rfl).trans cl_qc_15
          replace cl_qc_16 : hx_col 100 h_166 qc 16 = szf := (hx_col_S hs hTo gqc tt_45 tt_2 rfl rfl).trans cl_qc_16
          replace cl_qc_17 : hx_col 100 h_166 qc 17 = gdf := (hx_col_S hs hTo gqc tt_45 tt_2 rfl rfl).trans cl_qc_17
          replace cl_qc_18 : hx_col 100 h_166 qc 18 = svf := (hx_col_S hs hTo gqc tt_45 tt_2 rfl rfl).trans cl_qc_18
          replace cl_qc_10 : hx_col 100 h_166 qc 10 = fof := (hx_col_S hs hTo gqc tt_45 tt_2 rfl rfl).trans cl_qc_10
          replace cl_qc_11 : hx_col 100 h_166 qc 11 = hrf := (hx_col_S hs hTo gqc tt_45 tt_2 rfl rfl).trans cl_qc_11
          replace cl_qc_12 : hx_col 100 h_166 qc 12 = udf := (hx_col_S hs hTo gqc tt_45 tt_2 rfl rfl).trans cl_qc_12
          replace cl_qc_8 : hx_col 100 h_166 qc 8 = flf := (hx_col_S hs hTo gqc tt_45 tt_2 rfl rfl).trans cl_qc_8
          replace nu_qc : hx_num 100 h_166 qc 0 (cn0.toInt) := hx_num_S hs hTo gqc tt_45 tt_2 rfl rfl nu_qc
          replace hAC : hv_AC h_166 qc plf cn0.toInt A := hv_AC_S hs hTo gqc tt_45 tt_2 rfl tt_0 rfl rfl rfl rfl rfl rfl rfl hAC
          replace fo_9 := (hs.a gqc rfl _).2.trans fo_9
          replace nfa_164 : h_166.2.1 q_163 = fa_164 := (funext fun j => (hs.a gq_163 rfl j).1).trans nfa_164
          replace hM := hM.tr (hs.mono ?o148)
          case o148 => decide
          replace gx := gx.S hs
          replace gqc := gqc.S hs
          replace gq_6 := gq_6.S hs
          replace gq_162 := gq_162.S hs
          replace gq_163 := gq_163.S hs
          refine hx_reti hx hb hr hlk hW ⟨(Or.inr ⟨⟨⟨?o149, ?o150⟩, (by rw [show flf i1.toInt.toNat = x_10 from cx_10.symm]; omega), (by rw [show flf i1.toInt.toNat = x_10 from cx_10.symm]; omega)⟩, Or.inr (Or.inr (Or.inr (Or.inr (⟨?o151, (by have h9 := hr_169.1; rw [show fv_154.toInt = ((i1.toInt.toNat : Nat) : Int) from by rw [cq_155]; omega] at h9; rw [cq_152, cq_142, cq_148, cq_150, cq_146] at h9; exact h9)⟩))))⟩), hT, hM⟩ dX9_state_139
          case o149 => omega
          case o150 => omega
          case o151 => omega
      · skip
        replace hr_21 := hr_21.resolve_right (fun z9 => absurd (c_22.symm.trans z9.1) ?o152)
        case o152 => decide
        replace hr_21 := hr_21.2
        refine lv_iconst (v := -1) hx hb dX9_state_42 ?o153 ?_
        case o153 => decide
        refine hx_reti hx hb hr hlk hW ⟨(Or.inl ⟨(fun hc => by have h1 := hc.2; rw [show flf i1.toInt.toNat = x_10 from cx_10.symm] at h1; omega), ?o154⟩), hT, hM⟩ dX9_state_43
        case o154 => decide


set_option maxHeartbeats 4000000 in
set_option maxRecDepth 100000 in
theorem t_X9_claim_v (l : Launch) (dC : Nat → ClassId) (dI : Nat → Nat → Nat) (dA : Nat → ClassId) (L : List Nat) (h : hx_h) (sz : Nat) (x : Nat) (i1 : Int32) (i2 : Int32) (hT : hx_T T_tb L h) (gx : hx_g L h x 9) (qp : Nat) (gqp : hx_g L h qp 44) (f_x_7 : h.2.2 x 7 = some qp) (qc : Nat) (gqc : hx_g L h qc 45) (f_x_10 : h.2.2 x 10 = some qc)  (cn0 : Int32) (f_x_11 : h.2.1 x 11 = cn0) (pn0 : Int32) (f_x_8 : h.2.1 x 8 = pn0) (smf : Nat → Int32) (cl_qc_6 : hx_col 100 h qc 6 = smf) (flf : Nat → Int32) (cl_qc_8 : hx_col 100 h qc 8 = flf) (tf : Nat → Int32) (cl_qc_9 : hx_col 100 h qc 9 = tf) (udf : Nat → Int32) (cl_qc_12 : hx_col 100 h qc 12 = udf) (odf : Nat → Int32) (cl_qc_13 : hx_col 100 h qc 13 = odf) (wkf : Nat → Int32) (cl_qc_14 : hx_col 100 h qc 14 = wkf) (owf : Nat → Int32) (cl_qc_15 : hx_col 100 h qc 15 = owf) (szf : Nat → Int32) (cl_qc_16 : hx_col 100 h qc 16 = szf) (nu_qp : hx_num 40 h qp 0 (pn0.toInt)) (nu_qc : hx_num 100 h qc 0 (cn0.toInt)) (agf byf plf bF : Nat → Int32) (A : Nat → hv_act) (hDF : hw_DF h qc qp 2 agf cn0.toInt) (hDP : hw_DF h qc qp 1 byf cn0.toInt) (hAC : hv_AC h qc plf cn0.toInt A) (hBX : hv_FX 3 5 h qc bF cn0.toInt) (pf_x_8 : ∀ j : Nat, (j : Int) < (h.2.1 x 8).toInt → h.2.2 qp j ≠ none) (pf_x_11 : ∀ j : Nat, (j : Int) < (h.2.1 x 11).toInt → h.2.2 qc j ≠ none) : Met l yX9_claim (Cond.code yX9_claim cX9_claim 4 (some .int) :: hx_all) ({ frames := 1, cells := 0, slots := 0, locals := 21 }) (va_Pc [.ref x, .int i1, .int i2] (hx_B T_tb (P_ty dA) (dC, dI) vwCl L h sz)) (va_Qi (fun (r : Int32) (u : List Nat × hx_h) => (hz_LS cn0.toInt i1.toInt i2.toInt (hz_cv (byf i1.toInt.toNat).toInt (agf i1.toInt.toNat).toInt (smf i1.toInt.toNat).toInt (flf i1.toInt.toNat).toInt (tf i1.toInt.toNat).toInt (udf i1.toInt.toNat).toInt (bF (3 * i1.toInt.toNat)).toInt (bF (3 * i1.toInt.toNat + 1)).toInt (bF (3 * i1.toInt.toNat + 2)).toInt (odf i1.toInt.toNat).toInt (wkf i1.toInt.toNat).toInt (owf i1.toInt.toNat).toInt ((plf i1.toInt.toNat).toInt - 1) (hz_sz1 (szf i1.toInt.toNat).toInt)) r.toInt) ∧ hx_T T_tb u.1 u.2 ∧ hx_S T_tb [] L h u.1 u.2) (hx_E T_tb (P_ty dA) (dC, dI) vwCl (hx_A L sz)) (hx_A L sz)) 0 0 (hx_A L sz) := by
  refine hx_met (lv := [(0, .ref x), (1, .int i1), (2, .int i2)]) (by decide +kernel) rfl (Nat.le_of_ble_eq_true rfl) rfl ?_
  intro p e s m below meth c hx hb hml hr hlk hts0 hown hin hsz hW ls hl
  have hts : ∀ w ∈ hx_all, w.before _ s = true := fun w hw => hts0 w (List.mem_cons_of_mem _ hw)
  have hown : s.vm.findClass "SmallCourt" = some m.cls := hown
  have hM : hx_S T_tb [] L h L h := hx_S.rf
  have b_cn0 := hT.gi gx tt_9 (k := 11) rfl
  rw [f_x_11] at b_cn0
  have b_cn0 : 0 ≤ cn0.toInt ∧ cn0.toInt ≤ 100 := b_cn0
  have b_pn0 := hT.gi gx tt_9 (k := 8) rfl
  rw [f_x_8] at b_pn0
  have b_pn0 : 0 ≤ pn0.toInt ∧ pn0.toInt ≤ 40 := b_pn0
  refine lv_aload_n hx hb dX9_claim_0 rfl (lv_at hl 0 rfl) ?_
  refine lv_iload_n hx hb dX9_claim_1 rfl (lv_at hl 1 rfl) ?_
  have hTo := hT
  refine hx_goq (hx_runV (As := [.int i1]) (rest := []) ⟨hx, hb, hml, hown, hts⟩ hW gx tt_9 (T := TX9) (N := 20) rfl (t_X9_claimAt_2 l dC dI dA L h s.heap.size x i1 hT gx cn0 f_x_11 qc gqc f_x_10 pf_x_11) (cwV 1 hts (hx_gV kw_810 kw_807 kw_809 kw_25 kw_94) rfl rfl rfl (by decide +kernel) ⟨Nat.le_of_ble_eq_true rfl, Nat.le_of_ble_eq_true rfl⟩) rfl hl.1 rfl (Nat.le_of_ble_eq_true rfl) dX9_claim_2 ⟨Nat.le_of_ble_eq_true rfl, Nat.le_of_ble_eq_true rfl⟩) hW (fun r_3 L_1 h_2 H locs p_4 hW => ?_)
  obtain ⟨hr_5, hT, hs⟩ := p_4
  replace hT : hx_T T_tb L_1 h_2 := hT
  replace hs : hx_S T_tb [] L h L_1 h_2 := hs
  replace f_x_7 := (hs.o gx trivial rfl).2.trans f_x_7
  replace f_x_10 := (hs.o gx trivial rfl).2.trans f_x_10
  replace f_x_11 := (hs.o gx trivial rfl).1.trans f_x_11
  replace f_x_8 := (hs.o gx trivial rfl).1.trans f_x_8
  replace pf_x_8 : ∀ j : Nat, (j : Int) < (h_2.2.1 x 8).toInt → h_2.2.2 qp j ≠ none := by
    intro j hj; rw [(hs.o gx trivial rfl).1] at hj; rw [(hs.a gqp rfl j).2]; exact pf_x_8 j hj
  replace pf_x_11 : ∀ j : Nat, (j : Int) < (h_2.2.1 x 11).toInt → h_2.2.2 qc j ≠ none := by
    intro j hj; rw [(hs.o gx trivial rfl).1] at hj; rw [(hs.a gqc rfl j).2]; exact pf_x_11 j hj
  replace cl_qc_6 : hx_col 100 h_2 qc 6 = smf := (hx_col_S hs hTo gqc tt_45 tt_2 rfl rfl).trans cl_qc_6
  replace cl_qc_8 : hx_col 100 h_2 qc 8 = flf := (hx_col_S hs hTo gqc tt_45 tt_2 rfl rfl).trans cl_qc_8
  replace cl_qc_9 : hx_col 100 h_2 qc 9 = tf := (hx_col_S hs hTo gqc tt_45 tt_2 rfl rfl).trans cl_qc_9
  replace cl_qc_12 : hx_col 100 h_2 qc 12 = udf := (hx_col_S hs hTo gqc tt_45 tt_2 rfl rfl).trans cl_qc_12
  replace cl_qc_13 : hx_col 100 h_2 qc 13 = odf := (hx_col_S hs hTo gqc tt_45 tt_2 rfl rfl).trans cl_qc_13
  replace cl_qc_14 : hx_col 100 h_2 qc 14 = wkf := (hx_col_S hs hTo gqc tt_45 tt_2 rfl rfl).trans cl_qc_14
  replace cl_qc_15 : hx_col 100 h_2 qc 15 = owf := (hx_col_S hs hTo gqc tt_45 tt_2 rfl rfl).trans cl_qc_15
  replace cl_qc_16 : hx_col 100 h_2 qc 16 = szf := (hx_col_S hs hTo gqc tt_45 tt_2 rfl rfl).trans cl_qc_16
  replace nu_qp : hx_num 40 h_2 qp 0 (pn0.toInt) := hx_num_S hs hTo gqp tt_44 tt_4 rfl rfl nu_qp
  replace nu_qc : hx_num 100 h_2 qc 0 (cn0.toInt) := hx_num_S hs hTo gqc tt_45 tt_2 rfl rfl nu_qc
  replace hDF : hw_DF h_2 qc qp 2 agf cn0.toInt := hw_DF_S hs hTo gqc gqp tt_45 tt_2 rfl rfl rfl hDF
  replace hDP : hw_DF h_2 qc qp 1 byf cn0.toInt := hw_DF_S hs hTo gqc gqp tt_45 tt_2 rfl rfl rfl hDP
  replace hAC : hv_AC h_2 qc plf cn0.toInt A := hv_AC_S hs hTo gqc tt_45 tt_2 rfl tt_0 rfl rfl rfl rfl rfl rfl rfl hAC
  replace hBX : hv_FX 3 5 h_2 qc bF cn0.toInt := hv_FX_S hs hTo gqc tt_45 tt_2 rfl rfl rfl rfl hBX
  replace hM := hM.tr (hs.mono ?o0)
  case o0 => decide
  replace gx := gx.S hs
  replace gqp := gqp.S hs
  replace gqc := gqc.S hs
  obtain ⟨hr_5, hr_5B⟩ := hr_5
  have hr_5 : ∀ q, r_3 = some q → hx_g L_1 h_2 q 2 := hr_5
  rcases r_3 with _ | q_6
  · skip
    have k_7 : i1.toInt < 0 ∨ cn0.toInt ≤ i1.toInt := by
      rcases hr_5B with ⟨_, z⟩ | ⟨_, _, q, z, _⟩
      · exact z
      · cases z
    refine lv_astore_nN (lv' := [(3, .null), (0, .ref x), (1, .int i1), (2, .int i2)]) hx hb dX9_claim_5 rfl hl ?o1 rfl (fun ls hl => ?_)
    case o1 => decide
    refine lv_aload_nN hx hb dX9_claim_6 rfl (lv_at hl 0 rfl) ?_
    refine lv_ifnonnullN hx hb dX9_claim_7 ?_
    refine lv_iconst (v := -1) hx hb dX9_claim_10 ?o2 ?_
    case o2 => decide
    refine hx_reti hx hb hr hlk hW ⟨(Or.inl ⟨(fun hc => by have h1 := hc.1; omega), ?o3⟩), hT, hM⟩ dX9_claim_11
    case o3 => decide
  · have gq_6 := hr_5 _ rfl
    have k_8 : 0 ≤ i1.toInt ∧ i1.toInt < cn0.toInt ∧ h_2.2.2 qc i1.toNatClampNeg = some q_6 := by
      rcases hr_5B with ⟨z, _⟩ | ⟨z1, z2, q, z3, z4⟩
      · cases z
      · cases z3; exact ⟨z1, z2, z4⟩
    have fo_9 := k_8.2.2
    have k_8 : 0 ≤ i1.toInt ∧ i1.toInt < cn0.toInt := ⟨k_8.1, k_8.2.1⟩
    refine lv_astore_n (lv' := [(3, .ref q_6), (0, .ref x), (1, .int i1), (2, .int i2)]) hx hb dX9_claim_5 rfl hl ?o4 rfl (fun ls hl => ?_)
    case o4 => decide
    refine lv_aload_n hx hb dX9_claim_6 rfl (lv_at hl 0 rfl) ?_
    refine lv_ifnonnull (tgt := 12) hx hb dX9_claim_7 ?o5 ?_
    case o5 => decide
    refine lv_iload_n hx hb dX9_claim_12 rfl (lv_at hl 3 rfl) ?_
    rcases (show (i2.toInt < 0 ∨ 13 < i2.toInt) ∨ i2.toInt = 0 ∨ i2.toInt = 1 ∨ i2.toInt = 2 ∨ i2.toInt = 3 ∨ i2.toInt = 4 ∨ i2.toInt = 5 ∨ i2.toInt = 6 ∨ i2.toInt = 7 ∨ i2.toInt = 8 ∨ i2.toInt = 9 ∨ i2.toInt = 10 ∨ i2.toInt = 11 ∨ i2.toInt = 12 ∨ i2.toInt = 13 from by omega) with c_10 | c_10 | c_10 | c_10 | c_10 | c_10 | c_10 | c_10 | c_10 | c_10 | c_10 | c_10 | c_10 | c_10 | c_10
    · refine lv_tableOut (tgt := 178) hx hb dX9_claim_13 c_10 ?o6 ?_
      case o6 => decide
      refine lv_iconst (v := -1) hx hb dX9_claim_178 ?o7 ?_
      case o7 => decide
      refine hx_reti hx hb hr hlk hW ⟨(Or.inl ⟨(fun hc => by have h1 := hc.2; omega), ?o8⟩), hT, hM⟩ dX9_claim_179
      case o8 => decide
    · refine lv_tableIn (off := 71) (tgt := 84) hx hb dX9_claim_13 ?o9 ?o10 (by rw [c_10]; rfl) ?o11 ?_
      case o9 => omega
      case o10 => omega
      case o11 => decide
      refine lv_aload_n hx hb dX9_claim_84 rfl (lv_at hl 0 rfl) ?_
      refine hx_getn hx hb hts hC_2 hown hW hT gq_6 tt_2 1 ?o12 rfl kw_728 ⟨rfl, rfl, rfl⟩ dX9_claim_85 (fun q_11 fq_11 gq_11 => ?_)
      case o12 => decide
      obtain ⟨dAq_11, dBq_11, dCq_11⟩ := hDP i1.toNatClampNeg (by unfold Int32.toNatClampNeg; omega) (by unfold Int32.toNatClampNeg; omega) _ _ fo_9 fq_11
      have dAq_11 : 0 ≤ (byf i1.toNatClampNeg).toInt := dAq_11
      have dBq_11 : (byf i1.toNatClampNeg).toInt < 40 := dBq_11
      have dUq_11 : 0 ≤ (byf i1.toInt.toNat).toInt ∧ (byf i1.toInt.toNat).toInt < 40 := ⟨dAq_11, dBq_11⟩
      have eoq_11 : h_2.2.2 qp (byf i1.toNatClampNeg).toNatClampNeg = some q_11 := dCq_11
      refine hx_geti hx hb hts hC_4 hown hW hT gq_11 tt_4 0 ?o13 rfl kw_612 ⟨rfl, rfl, rfl⟩ dX9_claim_88 (fun x_12 ex_12 lx_12 ux_12 => ?_)
      case o13 => decide
      have fx_12 := ex_12.symm
      have hnb9 : x_12 = byf i1.toNatClampNeg := ex_12.trans (hx_num_at nu_qp eoq_11 ?o14 ?o15)
      case o14 => omega
      case o15 => omega
      refine hx_reti hx hb hr hlk hW ⟨(Or.inr ⟨⟨⟨?o16, ?o17⟩, ?o18, ?o19⟩, (by rw [show i2.toInt.toNat = 0 by omega]; show _ = (byf i1.toInt.toNat).toInt; rw [hnb9]; rfl)⟩), hT, hM⟩ dX9_claim_91
      case o16 => omega
      case o17 => omega
      case o18 => omega
      case o19 => omega
    · refine lv_tableIn (off := 79) (tgt := 92) hx hb dX9_claim_13 ?o20 ?o21 (by rw [c_10]; rfl) ?o22 ?_
      case o20 => omega
      case o21 => omega
      case o22 => decide
      refine lv_aload_n hx hb dX9_claim_92 rfl (lv_at hl 0 rfl) ?_
      refine hx_getn hx hb hts hC_2 hown hW hT gq_6 tt_2 2 ?o23 rfl kw_733 ⟨rfl, rfl, rfl⟩ dX9_claim_93 (fun q_13 fq_13 gq_13 => ?_)
      case o23 => decide
      obtain ⟨dAq_13, dBq_13, dCq_13⟩ := hDF i1.toNatClampNeg (by unfold Int32.toNatClampNeg; omega) (by unfold Int32.toNatClampNeg; omega) _ _ fo_9 fq_13
      have dAq_13 : 0 ≤ (agf i1.toNatClampNeg).toInt := dAq_13
      have dBq_13 : (agf i1.toNatClampNeg).toInt < 40 := dBq_13
      have dUq_13 : 0 ≤ (agf i1.toInt.toNat).toInt ∧ (agf i1.toInt.toNat).toInt < 40 := ⟨dAq_13, dBq_13⟩
      have eoq_13 : h_2.2.2 qp (agf i1.toNatClampNeg).toNatClampNeg = some q_13 := dCq_13
      refine hx_geti hx hb hts hC_4 hown hW hT gq_13 tt_4 0 ?o24 rfl kw_612 ⟨rfl, rfl, rfl⟩ dX9_claim_96 (fun x_14 ex_14 lx_14 ux_14 => ?_)
      case o24 => decide
      have fx_14 := ex_14.symm
      have hnb9 : x_14 = agf i1.toNatClampNeg := ex_14.trans (hx_num_at nu_qp eoq_13 ?o25 ?o26)
      case o25 => omega
      case o26 => omega
      refine hx_reti hx hb hr hlk hW ⟨(Or.inr ⟨⟨⟨?o27, ?o28⟩, ?o29, ?o30⟩, (by rw [show i2.toInt.toNat = 1 by omega]; show _ = (agf i1.toInt.toNat).toInt; rw [hnb9]; rfl)⟩), hT, hM⟩ dX9_claim_99
      case o27 => omega
      case o28 => omega
      case o29 => omega
      case o30 => omega
    · refine lv_tableIn (off := 87) (tgt := 100) hx hb dX9_claim_13 ?o31 ?o32 (by rw [c_10]; rfl) ?o33 ?_
      case o31 => omega
      case o32 => omega
      case o33 => decide
      refine lv_aload_n hx hb dX9_claim_100 rfl (lv_at hl 0 rfl) ?_
      refine hx_geti hx hb hts hC_2 hown hW hT gq_6 tt_2 6 ?o34 rfl kw_741 ⟨rfl, rfl, rfl⟩ dX9_claim_101 (fun x_15 ex_15 lx_15 ux_15 => ?_)
      case o34 => decide
      have fx_15 := ex_15.symm
      have cx_15 : x_15 = smf i1.toNatClampNeg := ?o35
      case o35 =>
        rw [ex_15, ← cl_qc_6]
        exact (hx_col_at fo_9 (by unfold Int32.toNatClampNeg; omega)).symm
      refine hx_reti hx hb hr hlk hW ⟨(Or.inr ⟨⟨⟨?o36, ?o37⟩, ?o38, ?o39⟩, (by rw [show i2.toInt.toNat = 2 by omega]; exact congrArg Int32.toInt cx_15)⟩), hT, hM⟩ dX9_claim_104
      case o36 => omega
      case o37 => omega
      case o38 => omega
      case o39 => omega
    · refine lv_tableIn (off := 92) (tgt := 105) hx hb dX9_claim_13 ?o40 ?o41 (by rw [c_10]; rfl) ?o42 ?_
      case o40 => omega
      case o41 => omega
      case o42 => decide
      refine lv_aload_n hx hb dX9_claim_105 rfl (lv_at hl 0 rfl) ?_
      refine hx_geti hx hb hts hC_2 hown hW hT gq_6 tt_2 8 ?o43 rfl kw_743 ⟨rfl, rfl, rfl⟩ dX9_claim_106 (fun x_16 ex_16 lx_16 ux_16 => ?_)
      case o43 => decide
      have fx_16 := ex_16.symm
      have cx_16 : x_16 = flf i1.toNatClampNeg := ?o44
      case o44 =>
        rw [ex_16, ← cl_qc_8]
        exact (hx_col_at fo_9 (by unfold Int32.toNatClampNeg; omega)).symm
      refine hx_reti hx hb hr hlk hW ⟨(Or.inr ⟨⟨⟨?o45, ?o46⟩, ?o47, ?o48⟩, (by rw [show i2.toInt.toNat = 3 by omega]; exact congrArg Int32.toInt cx_16)⟩), hT, hM⟩ dX9_claim_109
      case o45 => omega
      case o46 => omega
      case o47 => omega
      case o48 => omega
    · refine lv_tableIn (off := 97) (tgt := 110) hx hb dX9_claim_13 ?o49 ?o50 (by rw [c_10]; rfl) ?o51 ?_
      case o49 => omega
      case o50 => omega
      case o51 => decide
      refine lv_aload_n hx hb dX9_claim_110 rfl (lv_at hl 0 rfl) ?_
      refine hx_geti hx hb hts hC_2 hown hW hT gq_6 tt_2 9 ?o52 rfl kw_745 ⟨rfl, rfl, rfl⟩ dX9_claim_111 (fun x_17 ex_17 lx_17 ux_17 => ?_)
      case o52 => decide
      have fx_17 := ex_17.symm
      have cx_17 : x_17 = tf i1.toNatClampNeg := ?o53
      case o53 =>
        rw [ex_17, ← cl_qc_9]
        exact (hx_col_at fo_9 (by unfold Int32.toNatClampNeg; omega)).symm
      refine hx_reti hx hb hr hlk hW ⟨(Or.inr ⟨⟨⟨?o54, ?o55⟩, ?o56, ?o57⟩, (by rw [show i2.toInt.toNat = 4 by omega]; exact congrArg Int32.toInt cx_17)⟩), hT, hM⟩ dX9_claim_114
      case o54 => omega
      case o55 => omega
      case o56 => omega
      case o57 => omega
    · refine lv_tableIn (off := 102) (tgt := 115) hx hb dX9_claim_13 ?o58 ?o59 (by rw [c_10]; rfl) ?o60 ?_
      case o58 => omega
      case o59 => omega
      case o60 => decide
      refine lv_aload_n hx hb dX9_claim_115 rfl (lv_at hl 0 rfl) ?_
      refine hx_geti hx hb hts hC_2 hown hW hT gq_6 tt_2 12 ?o61 rfl kw_751 ⟨rfl, rfl, rfl⟩ dX9_claim_116 (fun x_18 ex_18 lx_18 ux_18 => ?_)
      case o61 => decide
      have fx_18 := ex_18.symm
      have cx_18 : x_18 = udf i1.toNatClampNeg := ?o62
      case o62 =>
        rw [ex_18, ← cl_qc_12]
        exact (hx_col_at fo_9 (by unfold Int32.toNatClampNeg; omega)).symm
      refine hx_reti hx hb hr hlk hW ⟨(Or.inr ⟨⟨⟨?o63, ?o64⟩, ?o65, ?o66⟩, (by rw [show i2.toInt.toNat = 5 by omega]; exact congrArg Int32.toInt cx_18)⟩), hT, hM⟩ dX9_claim_119
      case o63 => omega
      case o64 => omega
      case o65 => omega
      case o66 => omega
    · refine lv_tableIn (off := 107) (tgt := 120) hx hb dX9_claim_13 ?o67 ?o68 (by rw [c_10]; rfl) ?o69 ?_
      case o67 => omega
      case o68 => omega
      case o69 => decide
      refine lv_aload_n hx hb dX9_claim_120 rfl (lv_at hl 0 rfl) ?_
      refine hx_getn hx hb hts hC_2 hown hW hT gq_6 tt_2 5 ?o70 rfl kw_740 ⟨rfl, rfl, rfl⟩ dX9_claim_121 (fun q_19 fq_19 gq_19 => ?_)
      case o70 => decide
      refine lv_iconst (v := 0) hx hb dX9_claim_124 ?o71 ?_
      case o71 => decide
      refine hx_iald hx hb hW hT gq_19 tt_21 rfl ?o72 dX9_claim_125 (fun x_20 ex_20 lx_20 ux_20 => ?_)
      case o72 => decide
      refine hx_reti hx hb hr hlk hW ⟨(Or.inr ⟨⟨⟨?o73, ?o74⟩, ?o75, ?o76⟩, (by rw [show i2.toInt.toNat = 6 by omega]; show _ = (bF (3 * i1.toInt.toNat + 0)).toInt; have h8 := (hBX).1 i1.toNatClampNeg (by unfold Int32.toNatClampNeg; omega) (by unfold Int32.toNatClampNeg; omega) _ _ fo_9 fq_19 0 (by decide); rw [show 0 + 3 * i1.toNatClampNeg = 3 * i1.toInt.toNat + 0 by unfold Int32.toNatClampNeg; omega] at h8; exact congrArg Int32.toInt (ex_20.trans h8))⟩), hT, hM⟩ dX9_claim_126
      case o73 => omega
      case o74 => omega
      case o75 => omega
      case o76 => omega
    · refine lv_tableIn (off := 114) (tgt := 127) hx hb dX9_claim_13 ?o77 ?o78 (by rw [c_10]; rfl) ?o79 ?_
      case o77 => omega
      case o78 => omega
      case o79 => decide
      refine lv_aload_n hx hb dX9_claim_127 rfl (lv_at hl 0 rfl) ?_
      refine hx_getn hx hb hts hC_2 hown hW hT gq_6 tt_2 5 ?o80 rfl kw_740 ⟨rfl, rfl, rfl⟩ dX9_claim_128 (fun q_21 fq_21 gq_21 => ?_)
      case o80 => decide
      refine lv_iconst (v := 1) hx hb dX9_claim_131 ?o81 ?_
      case o81 => decide
      refine hx_iald hx hb hW hT gq_21 tt_21 rfl ?o82 dX9_claim_132 (fun x_22 ex_22 lx_22 ux_22 => ?_)
      case o82 => decide
      refine hx_reti hx hb hr hlk hW ⟨(Or.inr ⟨⟨⟨?o83, ?o84⟩, ?o85, ?o86⟩, (by rw [show i2.toInt.toNat = 7 by omega]; show _ = (bF (3 * i1.toInt.toNat + 1)).toInt; have h8 := (hBX).1 i1.toNatClampNeg (by unfold Int32.toNatClampNeg; omega) (by unfold Int32.toNatClampNeg; omega) _ _ fo_9 fq_21 1 (by decide); rw [show 1 + 3 * i1.toNatClampNeg = 3 * i1.toInt.toNat + 1 by unfold Int32.toNatClampNeg; omega] at h8; exact congrArg Int32.toInt (ex_22.trans h8))⟩), hT, hM⟩ dX9_claim_133
      case o83 => omega
      case o84 => omega
      case o85 => omega
      case o86 => omega
    · refine lv_tableIn (off := 121) (tgt := 134) hx hb dX9_claim_13 ?o87 ?o88 (by rw [c_10]; rfl) ?o89 ?_
      case o87 => omega
      case o88 => omega
      case o89 => decide
      refine lv_aload_n hx hb dX9_claim_134 rfl (lv_at hl 0 rfl) ?_
      refine hx_getn hx hb hts hC_2 hown hW hT gq_6 tt_2 5 ?o90 rfl kw_740 ⟨rfl, rfl, rfl⟩ dX9_claim_135 (fun q_23 fq_23 gq_23 => ?_)
      case o90 => decide
      refine lv_iconst (v := 2) hx hb dX9_claim_138 ?o91 ?_
      case o91 => decide
      refine hx_iald hx hb hW hT gq_23 tt_21 rfl ?o92 dX9_claim_139 (fun x_24 ex_24 lx_24 ux_24 => ?_)
      case o92 => decide
      refine hx_reti hx hb hr hlk hW ⟨(Or.inr ⟨⟨⟨?o93, ?o94⟩, ?o95, ?o96⟩, (by rw [show i2.toInt.toNat = 8 by omega]; show _ = (bF (3 * i1.toInt.toNat + 2)).toInt; have h8 := (hBX).1 i1.toNatClampNeg (by unfold Int32.toNatClampNeg; omega) (by unfold Int32.toNatClampNeg; omega) _ _ fo_9 fq_23 2 (by decide); rw [show 2 + 3 * i1.toNatClampNeg = 3 * i1.toInt.toNat + 2 by unfold Int32.toNatClampNeg; omega] at h8; exact congrArg Int32.toInt (ex_24.trans h8))⟩), hT, hM⟩ dX9_claim_140
      case o93 => omega
      case o94 => omega
      case o95 => omega
      case o96 => omega
    · refine lv_tableIn (off := 128) (tgt := 141) hx hb dX9_claim_13 ?o97 ?o98 (by rw [c_10]; rfl) ?o99 ?_
      case o97 => omega
      case o98 => omega
      case o99 => decide
      refine lv_aload_n hx hb dX9_claim_141 rfl (lv_at hl 0 rfl) ?_
      refine hx_geti hx hb hts hC_2 hown hW hT gq_6 tt_2 13 ?o100 rfl kw_753 ⟨rfl, rfl, rfl⟩ dX9_claim_142 (fun x_25 ex_25 lx_25 ux_25 => ?_)
      case o100 => decide
      have fx_25 := ex_25.symm
      have cx_25 : x_25 = odf i1.toNatClampNeg := ?o101
      case o101 =>
        rw [ex_25, ← cl_qc_13]
        exact (hx_col_at fo_9 (by unfold Int32.toNatClampNeg; omega)).symm
      refine hx_reti hx hb hr hlk hW ⟨(Or.inr ⟨⟨⟨?o102, ?o103⟩, ?o104, ?o105⟩, (by rw [show i2.toInt.toNat = 9 by omega]; exact congrArg Int32.toInt cx_25)⟩), hT, hM⟩ dX9_claim_145
      case o102 => omega
      case o103 => omega
      case o104 => omega
      case o105 => omega
    · refine lv_tableIn (off := 133) (tgt := 146) hx hb dX9_claim_13 ?o106 ?o107 (by rw [c_10]; rfl) ?o108 ?_
      case o106 => omega
      case o107 => omega
      case o108 => decide
      refine lv_aload_n hx hb dX9_claim_146 rfl (lv_at hl 0 rfl) ?_
      refine hx_geti hx hb hts hC_2 hown hW hT gq_6 tt_2 14 ?o109 rfl kw_755 ⟨rfl, rfl, rfl⟩ dX9_claim_147 (fun x_26 ex_26 lx_26 ux_26 => ?_)
      case o109 => decide
      have fx_26 := ex_26.symm
      have cx_26 : x_26 = wkf i1.toNatClampNeg := ?o110
      case o110 =>
        rw [ex_26, ← cl_qc_14]
        exact (hx_col_at fo_9 (by unfold Int32.toNatClampNeg; omega)).symm
      refine hx_reti hx hb hr hlk hW ⟨(Or.inr ⟨⟨⟨?o111, ?o112⟩, ?o113, ?o114⟩, (by rw [show i2.toInt.toNat = 10 by omega]; exact congrArg Int32.toInt cx_26)⟩), hT, hM⟩ dX9_claim_150
      case o111 => omega
      case o112 => omega
      case o113 => omega
      case o114 => omega
    · refine lv_tableIn (off := 138) (tgt := 151) hx hb dX9_claim_13 ?o115 ?o116 (by rw [c_10]; rfl) ?o117 ?_
      case o115 => omega
      case o116 => omega
      case o117 => decide
      refine lv_aload_n hx hb dX9_claim_151 rfl (lv_at hl 0 rfl) ?_
      refine hx_geti hx hb hts hC_2 hown hW hT gq_6 tt_2 15 ?o118 rfl kw_757 ⟨rfl, rfl, rfl⟩ dX9_claim_152 (fun x_27 ex_27 lx_27 ux_27 => ?_)
      case o118 => decide
      have fx_27 := ex_27.symm
      have cx_27 : x_27 = owf i1.toNatClampNeg := ?o119
      case o119 =>
        rw [ex_27, ← cl_qc_15]
        exact (hx_col_at fo_9 (by unfold Int32.toNatClampNeg; omega)).symm
      refine hx_reti hx hb hr hlk hW ⟨(Or.inr ⟨⟨⟨?o120, ?o121⟩, ?o122, ?o123⟩, (by rw [show i2.toInt.toNat = 11 by omega]; exact congrArg Int32.toInt cx_27)⟩), hT, hM⟩ dX9_claim_155
      case o120 => omega
      case o121 => omega
      case o122 => omega
      case o123 => omega
    · refine lv_tableIn (off := 143) (tgt := 156) hx hb dX9_claim_13 ?o124 ?o125 (by rw [c_10]; rfl) ?o126 ?_
      case o124 => omega
      case o125 => omega
      case o126 => decide
      refine lv_aload_n hx hb dX9_claim_156 rfl (lv_at hl 0 rfl) ?_
      refine hx_getn hx hb hts hC_2 hown hW hT gq_6 tt_2 3 ?o127 rfl kw_736 ⟨rfl, rfl, rfl⟩ dX9_claim_157 (fun q_28 fq_28 gq_28 => ?_)
      case o127 => decide
      refine hx_geti hx hb hts hC_0 hown hW hT gq_28 tt_0 0 ?o128 rfl kw_163 ⟨rfl, rfl, rfl⟩ dX9_claim_160 (fun x_29 ex_29 lx_29 ux_29 => ?_)
      case o128 => decide
      have fx_29 := ex_29.symm
      refine hx_reti hx hb hr hlk hW ⟨(Or.inr ⟨⟨⟨?o129, ?o130⟩, ?o131, ?o132⟩, (by rw [show i2.toInt.toNat = 12 by omega]; show _ = (plf i1.toInt.toNat).toInt - 1; have h8 := (hAC i1.toNatClampNeg (by unfold Int32.toNatClampNeg; omega) (by unfold Int32.toNatClampNeg; omega) _ _ fo_9 fq_28).2.1; rw [fx_29] at h8; exact h8)⟩), hT, hM⟩ dX9_claim_163
      case o129 => omega
      case o130 => omega
      case o131 => omega
      case o132 => omega
    · refine lv_tableIn (off := 151) (tgt := 164) hx hb dX9_claim_13 ?o133 ?o134 (by rw [c_10]; rfl) ?o135 ?_
      case o133 => omega
      case o134 => omega
      case o135 => decide
      refine lv_aload_n hx hb dX9_claim_164 rfl (lv_at hl 0 rfl) ?_
      refine hx_geti hx hb hts hC_2 hown hW hT gq_6 tt_2 16 ?o136 rfl kw_759 ⟨rfl, rfl, rfl⟩ dX9_claim_165 (fun x_30 ex_30 lx_30 ux_30 => ?_)
      case o136 => decide
      have fx_30 := ex_30.symm
      have cx_30 : x_30 = szf i1.toNatClampNeg := ?o137
      case o137 =>
        rw [ex_30, ← cl_qc_16]
        exact (hx_col_at fo_9 (by unfold Int32.toNatClampNeg; omega)).symm
      refine lv_iconst (v := -1) hx hb dX9_claim_168 ?o138 ?_
      case o138 => decide
      refine hb_icmp_ne (zx := x_30.toInt) (zy := (-1)) (tgt := 176) hx hb rfl ?o139 dX9_claim_169 ?o140 (fun c_31 => ?_) (fun c_31 => ?_)
      case o139 => decide
      case o140 => decide
      · skip
        refine lv_iconst (v := 1) hx hb dX9_claim_176 ?o141 ?_
        case o141 => decide
        refine hx_reti hx hb hr hlk hW ⟨(Or.inr ⟨⟨⟨?o142, ?o143⟩, ?o144, ?o145⟩, (by rw [show i2.toInt.toNat = 13 by omega]; show _ = hz_sz1 (szf i1.toInt.toNat).toInt; rw [show szf i1.toInt.toNat = x_30 from cx_30.symm]; unfold hz_sz1; have zr : (1 : Int32).toInt = 1 := (by decide); split <;> omega)⟩), hT, hM⟩ dX9_claim_177
        case o142 => omega
        case o143 => omega
        case o144 => omega
        case o145 => omega
      · skip
        refine lv_iconst (v := 0) hx hb dX9_claim_172 ?o146 ?_
        case o146 => decide
        refine lv_goto (tgt := 177) hx hb dX9_claim_173 ?o147 ?_
        case o147 => decide
        refine hx_reti hx hb hr hlk hW ⟨(Or.inr ⟨⟨⟨?o148, ?o149⟩, ?o150, ?o151⟩, (by rw [show i2.toInt.toNat = 13 by omega]; show _ = hz_sz1 (szf i1.toInt.toNat).toInt; rw [show szf i1.toInt.toNat = x_30 from cx_30.symm]; unfold hz_sz1; have zr : (0 : Int32).toInt = 0 := (by decide); split <;> omega)⟩), hT, hM⟩ dX9_claim_177
        case o148 => omega
        case o149 => omega
        case o150 => omega
        case o151 => omega


set_option maxHeartbeats 4000000 in
set_option maxRecDepth 100000 in
theorem t_X9_livingJudges_v (l : Launch) (dC : Nat → ClassId) (dI : Nat → Nat → Nat) (dA : Nat → ClassId) (L : List Nat) (h : hx_h) (sz : Nat) (x : Nat) (hT : hx_T T_tb L h) (gx : hx_g L h x 9) (qp : Nat) (gqp : hx_g L h qp 44) (f_x_7 : h.2.2 x 7 = some qp)  (pn0 : Int32) (f_x_8 : h.2.1 x 8 = pn0) (jf : Nat → Int32) (cl_qp_8 : hx_col 40 h qp 8 = jf) (df : Nat → Int32) (cl_qp_7 : hx_col 40 h qp 7 = df) (pf_x_8 : ∀ j : Nat, (j : Int) < (h.2.1 x 8).toInt → h.2.2 qp j ≠ none) : Met l yX9_livingJudges (Cond.code yX9_livingJudges cX9_livingJudges 3 (some .int) :: hx_all) ({ frames := 0, cells := 0, slots := 0, locals := 0 }) (va_Pc [.ref x] (hx_B T_tb (P_ty dA) (dC, dI) vwCl L h sz)) (va_Qi (fun (r : Int32) (u : List Nat × hx_h) => (r.toInt = hz_lj jf df pn0.toInt.toNat ∧ (0 ≤ r.toInt ∧ r.toInt ≤ 40)) ∧ hx_T T_tb u.1 u.2 ∧ hx_S T_tb [] L h u.1 u.2) (hx_E T_tb (P_ty dA) (dC, dI) vwCl (hx_A L sz)) (hx_A L sz)) 0 0 (hx_A L sz) := by
  refine hx_met (lv := [(0, .ref x)]) (by decide +kernel) rfl (Nat.le_of_ble_eq_true rfl) rfl ?_
  intro p e s m below meth c hx hb hml hr hlk hts0 hown hin hsz hW ls hl
  have hts : ∀ w ∈ hx_all, w.before _ s = true := fun w hw => hts0 w (List.mem_cons_of_mem _ hw)
  have hown : s.vm.findClass "SmallCourt" = some m.cls := hown
  have hM : hx_S T_tb [] L h L h := hx_S.rf
  have b_pn0 := hT.gi gx tt_9 (k := 8) rfl
  rw [f_x_8] at b_pn0
  have b_pn0 : 0 ≤ pn0.toInt ∧ pn0.toInt ≤ 40 := b_pn0
  refine lv_iconst (v := 0) hx hb dX9_livingJudges_0 ?o0 ?_
  case o0 => decide
  refine lv_istore_n (lv' := [(1, .int (0 : Int32)), (0, .ref x)]) hx hb dX9_livingJudges_1 rfl hl ?o1 rfl (fun ls hl => ?_)
  case o1 => decide
  refine lv_iconst (v := 0) hx hb dX9_livingJudges_2 ?o2 ?_
  case o2 => decide
  refine lv_istore_n (lv' := [(2, .int (0 : Int32)), (1, .int (0 : Int32)), (0, .ref x)]) hx hb dX9_livingJudges_3 rfl hl ?o3 rfl (fun ls hl => ?_)
  case o3 => decide
  have loop4 : ∀ (n4 : Nat) (iv4_1 iv4_2 : Int32) (H : Heap) (locs : List Loc) (hL1 : List Nat) (hl1 : hx_h), 0 ≤ iv4_1.toInt → iv4_1.toInt ≤ 40 → 0 ≤ iv4_2.toInt → iv4_2.toInt ≤ 40 → (iv4_1.toInt = hz_lj jf df (iv4_2.toInt).toNat) → (iv4_1.toInt ≤ iv4_2.toInt) → (iv4_2.toInt ≤ pn0.toInt) → ∀ (ls : Array Slot), 40 - iv4_2.toInt < (n4 : Int) → hx_W T_tb (P_ty dA) (dC, dI) vwCl (hx_A L sz) s.heap hL1 hl1 s H locs → hx_T T_tb hL1 hl1 → hx_S T_tb [] L h hL1 hl1 → (∀ j : Nat, (j : Int) < (hl1.2.1 x 8).toInt → hl1.2.2 qp j ≠ none) → hx_col 40 hl1 qp 8 = jf → hx_col 40 hl1 qp 7 = df → lv_has ls 3 [(2, .int iv4_2), (1, .int iv4_1), (0, .ref x)] → W p l e ({ frames := 0, cells := 0, slots := 0, locals := 0 }) s m ([.ref x] : List Value).toArray below meth c H locs 0 0 (MQ below (va_Qi (fun (r : Int32) (u : List Nat × hx_h) => (r.toInt = hz_lj jf df pn0.toInt.toNat ∧ (0 ≤ r.toInt ∧ r.toInt ≤ 40)) ∧ hx_T T_tb u.1 u.2 ∧ hx_S T_tb [] L h u.1 u.2) (hx_E T_tb (P_ty dA) (dC, dI) vwCl (hx_A L sz)) (hx_A L sz)) ([.ref x] : List Value).toArray s 0 0 (hx_A L sz)) (F0 m 4 ls []) := by
    intro n4
    induction n4 with
    | zero => intro iv4_1 iv4_2 H locs hL1 hl1 bliv4_1 buiv4_1 bliv4_2 buiv4_2 vi4_0 vi4_1 vi4_2 ls hn4; exfalso; omega
    | succ n4 ih4 =>
      intro iv4_1 iv4_2 H locs hL1 hl1 bliv4_1 buiv4_1 bliv4_2 buiv4_2 vi4_0 vi4_1 vi4_2 ls hn4 hW hT hM  pf_x_8 cl_qp_8 cl_qp_7 hl
      refine lv_iload_n hx hb dX9_livingJudges_4 rfl (lv_at hl 0 rfl) ?_
      refine lv_aload_n hx hb dX9_livingJudges_5 rfl (lv_at hl 2 rfl) ?_
      refine hk_geti hx hb hts hC_9 hown hW (gx.S hM) tt_9 8 ?o4 rfl kw_372 ⟨rfl, rfl, rfl⟩ ((hM.o gx trivial rfl).1.trans f_x_8) dX9_livingJudges_6 ?_
      case o4 => decide
      refine hb_icmp_ge (zx := iv4_2.toInt) (zy := pn0.toInt) (tgt := 50) hx hb rfl rfl dX9_livingJudges_9 ?o5 (fun c_1 => ?_) (fun c_1 => ?_)
      case o5 => decide
      · skip
        refine lv_iload_n hx hb dX9_livingJudges_50 rfl (lv_at hl 1 rfl) ?_
        refine hx_reti hx hb hr hlk hW ⟨⟨(by have h8 := vi4_0; rw [show iv4_2.toInt.toNat = pn0.toInt.toNat by omega] at h8; exact h8), ?o6, ?o7⟩, hT, hM⟩ dX9_livingJudges_51
        case o6 => omega
        case o7 => omega
      · skip
        refine lv_iload_n hx hb dX9_livingJudges_12 rfl (lv_at hl 1 rfl) ?_
        refine lv_aload_n hx hb dX9_livingJudges_13 rfl (lv_at hl 2 rfl) ?_
        refine hk_getr hx hb hts hC_9 hown hW (gx.S hM) tt_9 7 ?o8 rfl kw_371 ⟨rfl, rfl, rfl⟩ ((hM.o gx trivial rfl).2.trans f_x_7) dX9_livingJudges_14 ?_
        case o8 => decide
        refine lv_iload_n hx hb dX9_livingJudges_17 rfl (lv_at hl 0 rfl) ?_
        refine hx_aaldN hx hb hW hT (gqp.S hM) tt_44 (t1 := 4) rfl ⟨?o9, ?o10⟩ (pf_x_8 _ (by rw [((hM.o gx trivial rfl).1.trans f_x_8)]; exact hx_tnI (by omega) (by omega))) dX9_livingJudges_18 (fun q_2 fq_2 gq_2 => ?_)
        case o9 => omega
        case o10 => omega
        refine hx_geti hx hb hts hC_4 hown hW hT gq_2 tt_4 8 ?o11 rfl kw_625 ⟨rfl, rfl, rfl⟩ dX9_livingJudges_19 (fun x_3 ex_3 lx_3 ux_3 => ?_)
        case o11 => decide
        have fx_3 := ex_3.symm
        have cx_3 : x_3 = jf iv4_2.toNatClampNeg := ?o12
        case o12 =>
          rw [ex_3, ← cl_qp_8]
          exact (hx_col_at fq_2 (by unfold Int32.toNatClampNeg; omega)).symm
        refine hb_if_eq (zx := x_3.toInt) (tgt := 41) hx hb rfl dX9_livingJudges_22 ?o13 (fun c_4 => ?_) (fun c_4 => ?_)
        case o13 => decide
        · skip
          refine lv_iconst (v := 0) hx hb dX9_livingJudges_41 ?o14 ?_
          case o14 => decide
          refine lv_iadd hx hb dX9_livingJudges_42 ?_
          have rg_5 := i32_r iv4_1
          refine lv_topi (fun x_6 ex_6 => ?_)
          have zx_6 : x_6.toInt = iv4_1.toInt + 0 := ?o15
          case o15 =>
            rw [ex_6]
            refine i32_add rfl ?o16 ?o17 ?o18
            case o16 => decide
            case o17 => omega
            case o18 => omega
          refine lv_istore_n (lv' := [(1, .int x_6), (2, .int iv4_2), (0, .ref x)]) hx hb dX9_livingJudges_43 rfl hl ?o19 rfl (fun ls hl => ?_)
          case o19 => decide
          obtain ⟨x_7, ex_7⟩ : ∃ y : Int32, y = iv4_2 + Int32.ofInt 1 := ⟨_, rfl⟩
          have rg_8 := i32_r iv4_2
          have zx_7 : x_7.toInt = iv4_2.toInt + (1) := ?o20
          case o20 =>
            rw [ex_7]
            refine i32_add rfl ?o21 ?o22 ?o23
            case o21 => decide
            case o22 => omega
            case o23 => omega
          refine lv_iinc (v := x_7) (lv' := [(2, .int x_7), (1, .int x_6), (0, .ref x)]) hx hb dX9_livingJudges_44 hl (k := 1) rfl ex_7.symm ?o24 rfl (fun ls hl => ?_)
          case o24 => decide
          refine lv_goto (tgt := 4) hx hb dX9_livingJudges_47 ?o25 ?_
          case o25 => decide
          refine ih4 x_6 x_7 _ _ hL1 hl1 ?o26 ?o27 ?o28 ?o29 (hz_lj_s 0 vi4_0 ?o30 (Or.inr ⟨rfl, (fun z => by have z9 := z.1; rw [show jf iv4_2.toInt.toNat = x_3 from cx_3.symm] at z9; omega)⟩) ?o31 zx_7) ?o32 ?o33 ls ?o34 hW hT hM  pf_x_8 cl_qp_8 cl_qp_7 (lv_sub hl [0, 1, 2] rfl)
          case o26 => omega
          case o27 => omega
          case o28 => omega
          case o29 => omega
          case o30 => omega
          case o31 => omega
          case o32 => omega
          case o33 => omega
          case o34 => omega
        · skip
          refine lv_aload_n hx hb dX9_livingJudges_25 rfl (lv_at hl 2 rfl) ?_
          refine hk_getr hx hb hts hC_9 hown hW (gx.S hM) tt_9 7 ?o35 rfl kw_371 ⟨rfl, rfl, rfl⟩ ((hM.o gx trivial rfl).2.trans f_x_7) dX9_livingJudges_26 ?_
          case o35 => decide
          refine lv_iload_n hx hb dX9_livingJudges_29 rfl (lv_at hl 0 rfl) ?_
          refine hx_aaldN hx hb hW hT (gqp.S hM) tt_44 (t1 := 4) rfl ⟨?o36, ?o37⟩ (pf_x_8 _ (by rw [((hM.o gx trivial rfl).1.trans f_x_8)]; exact hx_tnI (by omega) (by omega))) dX9_livingJudges_30 (fun q_9 fq_9 gq_9 => ?_)
          case o36 => omega
          case o37 => omega
          refine hx_geti hx hb hts hC_4 hown hW hT gq_9 tt_4 7 ?o38 rfl kw_623 ⟨rfl, rfl, rfl⟩ dX9_livingJudges_31 (fun x_10 ex_10 lx_10 ux_10 => ?_)
          case o38 => decide
          have fx_10 := ex_10.symm
          have cx_10 : x_10 = df iv4_2.toNatClampNeg := ?o39
          case o39 =>
            rw [ex_10, ← cl_qp_7]
            exact (hx_col_at fq_9 (by unfold Int32.toNatClampNeg; omega)).symm
          refine hb_if_ne (zx := x_10.toInt) (tgt := 41) hx hb rfl dX9_livingJudges_34 ?o40 (fun c_11 => ?_) (fun c_11 => ?_)
          case o40 => decide
          · skip
            refine lv_iconst (v := 0) hx hb dX9_livingJudges_41 ?o41 ?_
            case o41 => decide
            refine lv_iadd hx hb dX9_livingJudges_42 ?_
            have rg_12 := i32_r iv4_1
            refine lv_topi (fun x_13 ex_13 => ?_)
            have zx_13 : x_13.toInt = iv4_1.toInt + 0 := ?o42
            case o42 =>
              rw [ex_13]
              refine i32_add rfl ?o43 ?o44 ?o45
              case o43 => decide
              case o44 => omega
              case o45 => omega
            refine lv_istore_n (lv' := [(1, .int x_13), (2, .int iv4_2), (0, .ref x)]) hx hb dX9_livingJudges_43 rfl hl ?o46 rfl (fun ls hl => ?_)
            case o46 => decide
            obtain ⟨x_14, ex_14⟩ : ∃ y : Int32, y = iv4_2 + Int32.ofInt 1 := ⟨_, rfl⟩
            have rg_15 := i32_r iv4_2
            have zx_14 : x_14.toInt = iv4_2.toInt + (1) := ?o47
            case o47 =>
              rw [ex_14]
              refine i32_add rfl ?o48 ?o49 ?o50
              case o48 => decide
              case o49 => omega
              case o50 => omega
            refine lv_iinc (v := x_14) (lv' := [(2, .int x_14), (1, .int x_13), (0, .ref x)]) hx hb dX9_livingJudges_44 hl (k := 1) rfl ex_14.symm ?o51 rfl (fun ls hl => ?_)
            case o51 => decide
            refine lv_goto (tgt := 4) hx hb dX9_livingJudges_47 ?o52 ?_
            case o52 => decide
            refine ih4 x_13 x_14 _ _ hL1 hl1 ?o53 ?o54 ?o55 ?o56 (hz_lj_s 0 vi4_0 ?o57 (Or.inr ⟨rfl, (fun z => by have z9 := z.2; rw [show df iv4_2.toInt.toNat = x_10 from cx_10.symm] at z9; omega)⟩) ?o58 zx_14) ?o59 ?o60 ls ?o61 hW hT hM  pf_x_8 cl_qp_8 cl_qp_7 (lv_sub hl [0, 1, 2] rfl)
            case o53 => omega
            case o54 => omega
            case o55 => omega
            case o56 => omega
            case o57 => omega
            case o58 => omega
            case o59 => omega
            case o60 => omega
            case o61 => omega
          · skip
            refine lv_iconst (v := 1) hx hb dX9_livingJudges_37 ?o62 ?_
            case o62 => decide
            refine lv_goto (tgt := 42) hx hb dX9_livingJudges_38 ?o63 ?_
            case o63 => decide
            refine lv_iadd hx hb dX9_livingJudges_42 ?_
            have rg_16 := i32_r iv4_1
            refine lv_topi (fun x_17 ex_17 => ?_)
            have zx_17 : x_17.toInt = iv4_1.toInt + 1 := ?o64
            case o64 =>
              rw [ex_17]
              refine i32_add rfl ?o65 ?o66 ?o67
              case o65 => decide
              case o66 => omega
              case o67 => omega
            refine lv_istore_n (lv' := [(1, .int x_17), (2, .int iv4_2), (0, .ref x)]) hx hb dX9_livingJudges_43 rfl hl ?o68 rfl (fun ls hl => ?_)
            case o68 => decide
            obtain ⟨x_18, ex_18⟩ : ∃ y : Int32, y = iv4_2 + Int32.ofInt 1 := ⟨_, rfl⟩
            have rg_19 := i32_r iv4_2
            have zx_18 : x_18.toInt = iv4_2.toInt + (1) := ?o69
            case o69 =>
              rw [ex_18]
              refine i32_add rfl ?o70 ?o71 ?o72
              case o70 => decide
              case o71 => omega
              case o72 => omega
            refine lv_iinc (v := x_18) (lv' := [(2, .int x_18), (1, .int x_17), (0, .ref x)]) hx hb dX9_livingJudges_44 hl (k := 1) rfl ex_18.symm ?o73 rfl (fun ls hl => ?_)
            case o73 => decide
            refine lv_goto (tgt := 4) hx hb dX9_livingJudges_47 ?o74 ?_
            case o74 => decide
            refine ih4 x_17 x_18 _ _ hL1 hl1 ?o75 ?o76 ?o77 ?o78 (hz_lj_s 1 vi4_0 ?o79 (Or.inl ⟨rfl, (by rw [show jf iv4_2.toInt.toNat = x_3 from cx_3.symm]; omega), (by rw [show df iv4_2.toInt.toNat = x_10 from cx_10.symm]; omega)⟩) ?o80 zx_18) ?o81 ?o82 ls ?o83 hW hT hM  pf_x_8 cl_qp_8 cl_qp_7 (lv_sub hl [0, 1, 2] rfl)
            case o75 => omega
            case o76 => omega
            case o77 => omega
            case o78 => omega
            case o79 => omega
            case o80 => omega
            case o81 => omega
            case o82 => omega
            case o83 => omega
  have zk_0 : (0 : Int32).toInt = 0 := ?o84
  case o84 => decide
  have zk_0 : (0 : Int32).toInt = 0 := ?o85
  case o85 => decide
  refine loop4 41 (0 : Int32) (0 : Int32) _ _ L h ?o86 ?o87 ?o88 ?o89 (by rw [zk_0]; rfl) ?o90 ?o91 ls ?o92 hW hT hM  pf_x_8 cl_qp_8 cl_qp_7 hl
  case o86 => decide
  case o87 => decide
  case o88 => decide
  case o89 => decide
  case o90 => omega
  case o91 => omega
  case o92 => omega


set_option maxHeartbeats 4000000 in
set_option maxRecDepth 100000 in
theorem t_X9_count_v (l : Launch) (dC : Nat → ClassId) (dI : Nat → Nat → Nat) (dA : Nat → ClassId) (L : List Nat) (h : hx_h) (sz : Nat) (x : Nat) (i1 : Int32) (hT : hx_T T_tb L h) (gx : hx_g L h x 9) (qp : Nat) (gqp : hx_g L h qp 44) (f_x_7 : h.2.2 x 7 = some qp) (qc : Nat) (gqc : hx_g L h qc 45) (f_x_10 : h.2.2 x 10 = some qc) (qb : Nat) (gqb : hx_g L h qb 1) (f_x_9 : h.2.2 x 9 = some qb) (qy : Nat) (gqy : hx_g L h qy 3) (f_x_14 : h.2.2 x 14 = some qy) (qw : Nat) (gqw : hx_g L h qw 8) (f_x_19 : h.2.2 x 19 = some qw)  (cn0 : Int32) (f_x_11 : h.2.1 x 11 = cn0) (pn0 : Int32) (f_x_8 : h.2.1 x 8 = pn0) (nw0 : Int32) (f_x_2 : h.2.1 x 2 = nw0) (a0 : Int32) (f_x_6 : h.2.1 x 6 = a0) (ln0 : Int32) (f_qb_0 : h.2.1 qb 0 = ln0) (n0 : Int32) (f_qy_0 : h.2.1 qy 0 = n0) (tl0 : Int32) (f_x_1 : h.2.1 x 1 = tl0) (ls0 : Int32) (f_qw_0 : h.2.1 qw 0 = ls0) (jf : Nat → Int32) (cl_qp_8 : hx_col 40 h qp 8 = jf) (df : Nat → Int32) (cl_qp_7 : hx_col 40 h qp 7 = df) (pf_x_8 : ∀ j : Nat, (j : Int) < (h.2.1 x 8).toInt → h.2.2 qp j ≠ none) (pf_x_11 : ∀ j : Nat, (j : Int) < (h.2.1 x 11).toInt → h.2.2 qc j ≠ none) : Met l yX9_count (Cond.code yX9_count cX9_count 2 (some .int) :: hx_all) ({ frames := 1, cells := 0, slots := 0, locals := 22 }) (va_Pc [.ref x, .int i1] (hx_B T_tb (P_ty dA) (dC, dI) vwCl L h sz)) (va_Qi (fun (r : Int32) (u : List Nat × hx_h) => (hz_CT i1.toInt (hz_cv nw0.toInt a0.toInt pn0.toInt (hz_lj jf df pn0.toInt.toNat) ln0.toInt cn0.toInt n0.toInt tl0.toInt ls0.toInt 0 0 0 0 0) r.toInt) ∧ hx_T T_tb u.1 u.2 ∧ hx_S T_tb [] L h u.1 u.2) (hx_E T_tb (P_ty dA) (dC, dI) vwCl (hx_A L sz)) (hx_A L sz)) 0 0 (hx_A L sz) := by
  refine hx_met (lv := [(0, .ref x), (1, .int i1)]) (by decide +kernel) rfl (Nat.le_of_ble_eq_true rfl) rfl ?_
  intro p e s m below meth c hx hb hml hr hlk hts0 hown hin hsz hW ls hl
  have hts : ∀ w ∈ hx_all, w.before _ s = true := fun w hw => hts0 w (List.mem_cons_of_mem _ hw)
  have hown : s.vm.findClass "SmallCourt" = some m.cls := hown
  have hM : hx_S T_tb [] L h L h := hx_S.rf
  have b_cn0 := hT.gi gx tt_9 (k := 11) rfl
  rw [f_x_11] at b_cn0
  have b_cn0 : 0 ≤ cn0.toInt ∧ cn0.toInt ≤ 100 := b_cn0
  have b_pn0 := hT.gi gx tt_9 (k := 8) rfl
  rw [f_x_8] at b_pn0
  have b_pn0 : 0 ≤ pn0.toInt ∧ pn0.toInt ≤ 40 := b_pn0
  have b_nw0 := hT.gi gx tt_9 (k := 2) rfl
  rw [f_x_2] at b_nw0
  have b_nw0 : 0 ≤ nw0.toInt ∧ nw0.toInt ≤ 7999 := b_nw0
  have b_a0 := hT.gi gx tt_9 (k := 6) rfl
  rw [f_x_6] at b_a0
  have b_a0 : 0 ≤ a0.toInt ∧ a0.toInt ≤ 8 := b_a0
  have b_ln0 := hT.gi gqb tt_1 (k := 0) rfl
  rw [f_qb_0] at b_ln0
  have b_ln0 : 0 ≤ ln0.toInt ∧ ln0.toInt ≤ 400 := b_ln0
  have b_n0 := hT.gi gqy tt_3 (k := 0) rfl
  rw [f_qy_0] at b_n0
  have b_n0 : 0 ≤ n0.toInt ∧ n0.toInt ≤ 600 := b_n0
  have b_tl0 := hT.gi gx tt_9 (k := 1) rfl
  rw [f_x_1] at b_tl0
  have b_tl0 : 0 ≤ tl0.toInt ∧ tl0.toInt ≤ 400 := b_tl0
  have b_ls0 := hT.gi gqw tt_8 (k := 0) rfl
  rw [f_qw_0] at b_ls0
  have b_ls0 : 0 ≤ ls0.toInt ∧ ls0.toInt ≤ 8 := b_ls0
  refine lv_iload_n hx hb dX9_count_0 rfl (lv_at hl 1 rfl) ?_
  rcases (show (i1.toInt < 0 ∨ 8 < i1.toInt) ∨ i1.toInt = 0 ∨ i1.toInt = 1 ∨ i1.toInt = 2 ∨ i1.toInt = 3 ∨ i1.toInt = 4 ∨ i1.toInt = 5 ∨ i1.toInt = 6 ∨ i1.toInt = 7 ∨ i1.toInt = 8 from by omega) with c_1 | c_1 | c_1 | c_1 | c_1 | c_1 | c_1 | c_1 | c_1 | c_1
  · refine lv_tableOut (tgt := 106) hx hb dX9_count_1 c_1 ?o0 ?_
    case o0 => decide
    refine lv_iconst (v := -1) hx hb dX9_count_106 ?o1 ?_
    case o1 => decide
    refine hx_reti hx hb hr hlk hW ⟨(Or.inl ⟨?o2, ?o3⟩), hT, hM⟩ dX9_count_107
    case o2 => omega
    case o3 => decide
  · refine lv_tableIn (off := 51) (tgt := 52) hx hb dX9_count_1 ?o4 ?o5 (by rw [c_1]; rfl) ?o6 ?_
    case o4 => omega
    case o5 => omega
    case o6 => decide
    refine lv_aload_n hx hb dX9_count_52 rfl (lv_at hl 0 rfl) ?_
    refine hk_geti hx hb hts hC_9 hown hW (gx.S hM) tt_9 2 ?o7 rfl kw_366 ⟨rfl, rfl, rfl⟩ ((hM.o gx trivial rfl).1.trans f_x_2) dX9_count_53 ?_
    case o7 => decide
    refine hx_reti hx hb hr hlk hW ⟨(Or.inr ⟨?o8, (by rw [show i1.toInt.toNat = 0 by omega]; rfl)⟩), hT, hM⟩ dX9_count_56
    case o8 => omega
  · refine lv_tableIn (off := 56) (tgt := 57) hx hb dX9_count_1 ?o9 ?o10 (by rw [c_1]; rfl) ?o11 ?_
    case o9 => omega
    case o10 => omega
    case o11 => decide
    refine lv_aload_n hx hb dX9_count_57 rfl (lv_at hl 0 rfl) ?_
    refine hk_geti hx hb hts hC_9 hown hW (gx.S hM) tt_9 6 ?o12 rfl kw_370 ⟨rfl, rfl, rfl⟩ ((hM.o gx trivial rfl).1.trans f_x_6) dX9_count_58 ?_
    case o12 => decide
    refine hx_reti hx hb hr hlk hW ⟨(Or.inr ⟨?o13, (by rw [show i1.toInt.toNat = 1 by omega]; rfl)⟩), hT, hM⟩ dX9_count_61
    case o13 => omega
  · refine lv_tableIn (off := 61) (tgt := 62) hx hb dX9_count_1 ?o14 ?o15 (by rw [c_1]; rfl) ?o16 ?_
    case o14 => omega
    case o15 => omega
    case o16 => decide
    refine lv_aload_n hx hb dX9_count_62 rfl (lv_at hl 0 rfl) ?_
    refine hk_geti hx hb hts hC_9 hown hW (gx.S hM) tt_9 8 ?o17 rfl kw_372 ⟨rfl, rfl, rfl⟩ ((hM.o gx trivial rfl).1.trans f_x_8) dX9_count_63 ?_
    case o17 => decide
    refine hx_reti hx hb hr hlk hW ⟨(Or.inr ⟨?o18, (by rw [show i1.toInt.toNat = 2 by omega]; rfl)⟩), hT, hM⟩ dX9_count_66
    case o18 => omega
  · refine lv_tableIn (off := 66) (tgt := 67) hx hb dX9_count_1 ?o19 ?o20 (by rw [c_1]; rfl) ?o21 ?_
    case o19 => omega
    case o20 => omega
    case o21 => decide
    refine lv_aload_n hx hb dX9_count_67 rfl (lv_at hl 0 rfl) ?_
    have hTo := hT
    refine hx_goi (hx_runV (As := []) (rest := []) ⟨hx, hb, hml, hown, hts⟩ hW (gx.S hM) tt_9 (T := TX9) (N := 20) rfl (t_X9_livingJudges_v l dC dI dA L h s.heap.size x hT (gx.S hM) qp (gqp.S hM) ((hM.o gx trivial rfl).2.trans f_x_7) pn0 ((hM.o gx trivial rfl).1.trans f_x_8) jf cl_qp_8 df cl_qp_7 pf_x_8) (cwV 0 hts (hx_gV kw_1112 kw_1109 kw_1111 kw_47 kw_94) rfl rfl rfl (by decide +kernel) ⟨Nat.le_of_ble_eq_true rfl, Nat.le_of_ble_eq_true rfl⟩) rfl hl.1 rfl (Nat.le_of_ble_eq_true rfl) dX9_count_68 ⟨Nat.le_of_ble_eq_true rfl, Nat.le_of_ble_eq_true rfl⟩) hW (fun r_4 L_2 h_3 H locs p_5 hW => ?_)
    obtain ⟨hr_6, hT, hs⟩ := p_5
    replace hT : hx_T T_tb L_2 h_3 := hT
    replace hs : hx_S T_tb [] L h L_2 h_3 := hs
    replace pf_x_8 : ∀ j : Nat, (j : Int) < (h_3.2.1 x 8).toInt → h_3.2.2 qp j ≠ none := by
      intro j hj; rw [(hs.o (gx.S hM) trivial rfl).1] at hj; rw [(hs.a (gqp.S hM) rfl j).2]; exact pf_x_8 j hj
    replace pf_x_11 : ∀ j : Nat, (j : Int) < (h_3.2.1 x 11).toInt → h_3.2.2 qc j ≠ none := by
      intro j hj; rw [(hs.o (gx.S hM) trivial rfl).1] at hj; rw [(hs.a (gqc.S hM) rfl j).2]; exact pf_x_11 j hj
    replace cl_qp_8 : hx_col 40 h_3 qp 8 = jf := (hx_col_S hs hTo (gqp.S hM) tt_44 tt_4 rfl rfl).trans cl_qp_8
    replace cl_qp_7 : hx_col 40 h_3 qp 7 = df := (hx_col_S hs hTo (gqp.S hM) tt_44 tt_4 rfl rfl).trans cl_qp_7
    replace hM := hM.tr (hs.mono ?o22)
    case o22 => decide
    refine hx_reti hx hb hr hlk hW ⟨(Or.inr ⟨?o23, (by rw [show i1.toInt.toNat = 3 by omega]; exact hr_6.1)⟩), hT, hM⟩ dX9_count_71
    case o23 => omega
  · refine lv_tableIn (off := 71) (tgt := 72) hx hb dX9_count_1 ?o24 ?o25 (by rw [c_1]; rfl) ?o26 ?_
    case o24 => omega
    case o25 => omega
    case o26 => decide
    refine lv_aload_n hx hb dX9_count_72 rfl (lv_at hl 0 rfl) ?_
    refine hk_getr hx hb hts hC_9 hown hW (gx.S hM) tt_9 9 ?o27 rfl kw_373 ⟨rfl, rfl, rfl⟩ ((hM.o gx trivial rfl).2.trans f_x_9) dX9_count_73 ?_
    case o27 => decide
    refine hk_geti hx hb hts hC_1 hown hW (gqb.S hM) tt_1 0 ?o28 rfl kw_197 ⟨rfl, rfl, rfl⟩ ((hM.o gqb trivial rfl).1.trans f_qb_0) dX9_count_76 ?_
    case o28 => decide
    refine hx_reti hx hb hr hlk hW ⟨(Or.inr ⟨?o29, (by rw [show i1.toInt.toNat = 4 by omega]; rfl)⟩), hT, hM⟩ dX9_count_79
    case o29 => omega
  · refine lv_tableIn (off := 79) (tgt := 80) hx hb dX9_count_1 ?o30 ?o31 (by rw [c_1]; rfl) ?o32 ?_
    case o30 => omega
    case o31 => omega
    case o32 => decide
    refine lv_aload_n hx hb dX9_count_80 rfl (lv_at hl 0 rfl) ?_
    refine hk_geti hx hb hts hC_9 hown hW (gx.S hM) tt_9 11 ?o33 rfl kw_375 ⟨rfl, rfl, rfl⟩ ((hM.o gx trivial rfl).1.trans f_x_11) dX9_count_81 ?_
    case o33 => decide
    refine hx_reti hx hb hr hlk hW ⟨(Or.inr ⟨?o34, (by rw [show i1.toInt.toNat = 5 by omega]; rfl)⟩), hT, hM⟩ dX9_count_84
    case o34 => omega
  · refine lv_tableIn (off := 84) (tgt := 85) hx hb dX9_count_1 ?o35 ?o36 (by rw [c_1]; rfl) ?o37 ?_
    case o35 => omega
    case o36 => omega
    case o37 => decide
    refine lv_aload_n hx hb dX9_count_85 rfl (lv_at hl 0 rfl) ?_
    refine hk_getr hx hb hts hC_9 hown hW (gx.S hM) tt_9 14 ?o38 rfl kw_378 ⟨rfl, rfl, rfl⟩ ((hM.o gx trivial rfl).2.trans f_x_14) dX9_count_86 ?_
    case o38 => decide
    refine hk_geti hx hb hts hC_3 hown hW (gqy.S hM) tt_3 0 ?o39 rfl kw_232 ⟨rfl, rfl, rfl⟩ ((hM.o gqy trivial rfl).1.trans f_qy_0) dX9_count_89 ?_
    case o39 => decide
    refine hx_reti hx hb hr hlk hW ⟨(Or.inr ⟨?o40, (by rw [show i1.toInt.toNat = 6 by omega]; rfl)⟩), hT, hM⟩ dX9_count_92
    case o40 => omega
  · refine lv_tableIn (off := 92) (tgt := 93) hx hb dX9_count_1 ?o41 ?o42 (by rw [c_1]; rfl) ?o43 ?_
    case o41 => omega
    case o42 => omega
    case o43 => decide
    refine lv_aload_n hx hb dX9_count_93 rfl (lv_at hl 0 rfl) ?_
    refine hk_geti hx hb hts hC_9 hown hW (gx.S hM) tt_9 1 ?o44 rfl kw_365 ⟨rfl, rfl, rfl⟩ ((hM.o gx trivial rfl).1.trans f_x_1) dX9_count_94 ?_
    case o44 => decide
    refine hx_reti hx hb hr hlk hW ⟨(Or.inr ⟨?o45, (by rw [show i1.toInt.toNat = 7 by omega]; rfl)⟩), hT, hM⟩ dX9_count_97
    case o45 => omega
  · refine lv_tableIn (off := 97) (tgt := 98) hx hb dX9_count_1 ?o46 ?o47 (by rw [c_1]; rfl) ?o48 ?_
    case o46 => omega
    case o47 => omega
    case o48 => decide
    refine lv_aload_n hx hb dX9_count_98 rfl (lv_at hl 0 rfl) ?_
    refine hk_getr hx hb hts hC_9 hown hW (gx.S hM) tt_9 19 ?o49 rfl kw_383 ⟨rfl, rfl, rfl⟩ ((hM.o gx trivial rfl).2.trans f_x_19) dX9_count_99 ?_
    case o49 => decide
    refine hk_geti hx hb hts hC_8 hown hW (gqw.S hM) tt_8 0 ?o50 rfl kw_346 ⟨rfl, rfl, rfl⟩ ((hM.o gqw trivial rfl).1.trans f_qw_0) dX9_count_102 ?_
    case o50 => decide
    refine hx_reti hx hb hr hlk hW ⟨(Or.inr ⟨?o51, (by rw [show i1.toInt.toNat = 8 by omega]; rfl)⟩), hT, hM⟩ dX9_count_105
    case o51 => omega
