theorem hp_PS_f {C : Prop} {lM L0 : List Nat} {F G : List Nat → Nat → Int} {aF rF : Nat → Int} {n : Nat} {u M M0 rr td td1 : Int} {B : hp_S} {cl cl1 wk wk1 ws ws1 : Nat → Int32} (e1 : lM = L0) (e2 : aF = F lM) (e3 : rF = G lM) (en : n = lM.length) (eM : M = M0) (eB : B = hp_B9 aF rF u (if n = 0 then 0 else M) n) (h1 : C) (h2 : n ≤ 4) (h3 : ¬ (0 < n ∧ M < hp_s aF n)) (h4 : rr = B.1) (h5 : td1 = n) (h6 : ∀ i : Nat, i < n → (cl1 i).toInt = (hp_ge lM i : Nat) ∧ (wk1 i).toInt = hp_w aF u B.2.2 i ∧ (ws1 i).toInt = hz_ru (rF i) (hp_w aF u B.2.2 i)) : hp_PS C L0.length (hp_ge L0) (F L0) (G L0) u M0 rr td td1 cl cl1 wk wk1 ws ws1 := by
  subst e1; subst e2; subst e3; subst en; subst eM; subst eB
  exact Or.inr ⟨⟨h1, h2, h3⟩, h4, h5, h6⟩
theorem hp_PS_t {C : Prop} {lM L0 : List Nat} {F G : List Nat → Nat → Int} {aF rF : Nat → Int} {n : Nat} {u M M0 rr td td1 : Int} {cl cl1 wk wk1 ws ws1 : Nat → Int32} (e1 : lM = L0) (e2 : aF = F lM) (e3 : rF = G lM) (en : n = lM.length) (eM : M = M0) (h1 : C) (h2 : n ≤ 4) (h3 : 0 < n) (h4 : M < hp_s aF n) (h5 : rr = -2) (h6 : td1 = td) (h7 : cl1 = cl) (h8 : wk1 = wk) (h9 : ws1 = ws) : hp_PS C L0.length (hp_ge L0) (F L0) (G L0) u M0 rr td td1 cl cl1 wk wk1 ws ws1 := by
  subst e1; subst e2; subst e3; subst en; subst eM
  exact Or.inl ⟨Or.inr (Or.inr ⟨h1, h2, ⟨h3, h4⟩, h5⟩), h6, h7, h8, h9⟩


set_option maxHeartbeats 4000000 in
set_option maxRecDepth 100000 in
theorem t_X10_weeksOf_v (l : Launch) (dC : Nat → ClassId) (dI : Nat → Nat → Nat) (dA : Nat → ClassId) (L : List Nat) (h : hx_h) (sz : Nat) (x : Nat) (i1 : Int32) (i2 : Int32) (i3 : Int32) (hT : hx_T T_tb L h) (gx : hx_g L h x 10) (zre : Nat) (gzre : hx_g L h zre 103) (f_x_77 : h.2.2 x 77 = some zre) (zle : Nat) (gzle : hx_g L h zle 104) (f_x_78 : h.2.2 x 78 = some zle) (rsf : Nat → Int32) (af_zre : h.2.1 zre = rsf) (lef : Nat → Int32) (af_zle : h.2.1 zle = lef) (hi1 : 0 ≤ i1.toInt ∧ i1.toInt ≤ 3) (hi2 : 0 ≤ i2.toInt ∧ i2.toInt ≤ 12) (hi3 : 1 ≤ i3.toInt ∧ i3.toInt ≤ 99) (hle : 1 ≤ (lef i1.toInt.toNat).toInt ∧ (lef i1.toInt.toNat).toInt ≤ 9999) (hre : 1 ≤ (rsf i1.toInt.toNat).toInt ∧ (rsf i1.toInt.toNat).toInt ≤ 609999) : Met l yX10_weeksOf (Cond.code yX10_weeksOf cX10_weeksOf 5 (some .int) :: hx_all) ({ frames := 0, cells := 0, slots := 0, locals := 0 }) (va_Pc [.ref x, .int i1, .int i2, .int i3] (hx_B T_tb (P_ty dA) (dC, dI) vwCl L h sz)) (va_Qi (fun (r : Int32) (u : List Nat × hx_h) => (r.toInt = hz_ru (rsf i1.toInt.toNat).toInt ((lef i1.toInt.toNat).toInt + i2.toInt * i3.toInt) ∧ (0 ≤ r.toInt ∧ r.toInt ≤ 609999)) ∧ hx_T T_tb u.1 u.2 ∧ hx_S T_tb [] L h u.1 u.2) (hx_E T_tb (P_ty dA) (dC, dI) vwCl (hx_A L sz)) (hx_A L sz)) 0 0 (hx_A L sz) := by
  refine hx_met (lv := [(0, .ref x), (1, .int i1), (2, .int i2), (3, .int i3)]) (by decide +kernel) rfl (Nat.le_of_ble_eq_true rfl) rfl ?_
  intro p e s m below meth c hx hb hml hr hlk hts0 hown hin hsz hW ls hl
  have hts : ∀ w ∈ hx_all, w.before _ s = true := fun w hw => hts0 w (List.mem_cons_of_mem _ hw)
  have hown : s.vm.findClass "SmallCourtModel" = some m.cls := hown
  have hM : hx_S T_tb [] L h L h := hx_S.rf
  refine lv_aload_n hx hb dX10_weeksOf_0 rfl (lv_at hl 0 rfl) ?_
  refine hk_getr hx hb hts hC_10 hown hW (gx.S hM) tt_10 78 ?o0 rfl kw_1221 ⟨rfl, rfl, rfl⟩ ((hM.o gx trivial rfl).2.trans f_x_78) dX10_weeksOf_1 ?_
  case o0 => decide
  refine lv_iload_n hx hb dX10_weeksOf_4 rfl (lv_at hl 1 rfl) ?_
  refine hx_iald hx hb hW hT (gzle.S hM) tt_104 rfl ⟨?o1, ?o2⟩ dX10_weeksOf_5 (fun x_1 ex_1 lx_1 ux_1 => ?_)
  case o1 => omega
  case o2 => omega
  have ax_1 : x_1 = lef i1.toNatClampNeg := ex_1.trans (congrFun (hx_afS hM gzle rfl af_zle) _)
  have hav9 : x_1.toInt = (lef i1.toInt.toNat).toInt := congrArg Int32.toInt ax_1
  have hab9 : 1 ≤ x_1.toInt ∧ x_1.toInt ≤ 9999 := ?o3
  case o3 =>
    rw [hav9]
    exact hle
  refine lv_iload_n hx hb dX10_weeksOf_6 rfl (lv_at hl 2 rfl) ?_
  refine lv_iload_n hx hb dX10_weeksOf_7 rfl (lv_at hl 3 rfl) ?_
  refine lv_imul hx hb dX10_weeksOf_8 ?_
  refine lv_topi (fun x_2 ex_2 => ?_)
  have mx_2 : i2.toInt = 0 → x_2.toInt = 0 := fun z => by rw [ex_2]; exact hx_mul0 z
  obtain ⟨m9, m9l, m9h⟩ := hp_mul ⟨by omega, by omega⟩ ⟨by omega, by omega⟩ ex_2
  refine lv_iadd hx hb dX10_weeksOf_9 ?_
  have rg_3 := i32_r x_1
  have rg_4 := i32_r x_2
  refine lv_topi (fun x_5 ex_5 => ?_)
  have zx_5 : x_5.toInt = x_1.toInt + x_2.toInt := ?o4
  case o4 =>
    rw [ex_5]
    refine i32_add rfl rfl ?o5 ?o6
    case o5 => omega
    case o6 => omega
  refine lv_istore (lv' := [(4, .int x_5), (0, .ref x), (1, .int i1), (2, .int i2), (3, .int i3)]) hx hb dX10_weeksOf_10 hl ?o7 rfl (fun ls hl => ?_)
  case o7 => decide
  refine lv_aload_n hx hb dX10_weeksOf_12 rfl (lv_at hl 1 rfl) ?_
  refine hk_getr hx hb hts hC_10 hown hW (gx.S hM) tt_10 77 ?o8 rfl kw_1220 ⟨rfl, rfl, rfl⟩ ((hM.o gx trivial rfl).2.trans f_x_77) dX10_weeksOf_13 ?_
  case o8 => decide
  refine lv_iload_n hx hb dX10_weeksOf_16 rfl (lv_at hl 2 rfl) ?_
  refine hx_iald hx hb hW hT (gzre.S hM) tt_103 rfl ⟨?o9, ?o10⟩ dX10_weeksOf_17 (fun x_6 ex_6 lx_6 ux_6 => ?_)
  case o9 => omega
  case o10 => omega
  have ax_6 : x_6 = rsf i1.toNatClampNeg := ex_6.trans (congrFun (hx_afS hM gzre rfl af_zre) _)
  have hrv9 : x_6.toInt = (rsf i1.toInt.toNat).toInt := congrArg Int32.toInt ax_6
  have hrb9 : 1 ≤ x_6.toInt ∧ x_6.toInt ≤ 609999 := ?o11
  case o11 =>
    rw [hrv9]
    exact hre
  refine lv_iload hx hb dX10_weeksOf_18 (lv_at hl 0 rfl) ?_
  refine lv_iadd hx hb dX10_weeksOf_20 ?_
  have rg_7 := i32_r x_6
  have rg_8 := i32_r x_5
  refine lv_topi (fun x_9 ex_9 => ?_)
  have zx_9 : x_9.toInt = x_6.toInt + x_5.toInt := ?o12
  case o12 =>
    rw [ex_9]
    refine i32_add rfl rfl ?o13 ?o14
    case o13 => omega
    case o14 => omega
  refine lv_iconst (v := 1) hx hb dX10_weeksOf_21 ?o15 ?_
  case o15 => decide
  refine lv_isub hx hb dX10_weeksOf_22 ?_
  have rg_10 := i32_r x_9
  refine lv_topi (fun x_11 ex_11 => ?_)
  have zx_11 : x_11.toInt = x_9.toInt - 1 := ?o16
  case o16 =>
    rw [ex_11]
    refine i32_sub rfl ?o17 ?o18 ?o19
    case o17 => decide
    case o18 => omega
    case o19 => omega
  refine lv_iload hx hb dX10_weeksOf_23 (lv_at hl 0 rfl) ?_
  refine lv_idiv hx hb dX10_weeksOf_25 (hx_ne0 ?o20) ?_
  case o20 => omega
  refine lv_topi (fun x_12 ex_12 => ?_)
  have hru9 : x_12.toInt = hz_ru (rsf i1.toInt.toNat).toInt ((lef i1.toInt.toNat).toInt + i2.toInt * i3.toInt) := ?o21
  case o21 =>
    rw [ex_12, hx_dv (by omega) (by omega), show x_11.toInt = (rsf i1.toInt.toNat).toInt + ((lef i1.toInt.toNat).toInt + i2.toInt * i3.toInt) - 1 from by rw [← hrv9, ← hav9, ← m9]; omega, show x_5.toInt = (lef i1.toInt.toNat).toInt + i2.toInt * i3.toInt from by rw [← hav9, ← m9]; omega]
    exact hz_ru_m (by rw [← hrv9]; omega) (by rw [← hav9, ← m9]; omega)
  have hrq9 : 0 ≤ x_12.toInt ∧ x_12.toInt ≤ 609999 := ?o22
  case o22 =>
    have h9 := hz_ru_b (s := (rsf i1.toInt.toNat).toInt) (b := (lef i1.toInt.toNat).toInt + i2.toInt * i3.toInt)
    rw [← hru9, ← hrv9] at h9
    omega
  refine hx_reti hx hb hr hlk hW ⟨⟨hru9, ?o23, ?o24⟩, hT, hM⟩ dX10_weeksOf_26
  case o23 => omega
  case o24 => omega


set_option maxHeartbeats 4000000 in
set_option maxRecDepth 100000 in
theorem t_X10_plan_v (l : Launch) (dC : Nat → ClassId) (dI : Nat → Nat → Nat) (dA : Nat → ClassId) (L : List Nat) (h : hx_h) (sz : Nat) (x : Nat) (i1 : Int32) (i2 : Int32) (hT : hx_T T_tb L h) (gx : hx_g L h x 10) (qfo : Nat) (gqfo : hx_g L h qfo 81) (f_x_46 : h.2.2 x 46 = some qfo) (qhe : Nat) (gqhe : hx_g L h qhe 82) (f_x_47 : h.2.2 x 47 = some qhe) (qju : Nat) (gqju : hx_g L h qju 86) (f_x_51 : h.2.2 x 51 = some qju) (qod : Nat) (gqod : hx_g L h qod 83) (f_x_48 : h.2.2 x 48 = some qod) (qsv : Nat) (gqsv : hx_g L h qsv 85) (f_x_50 : h.2.2 x 50 = some qsv) (qsz : Nat) (gqsz : hx_g L h qsz 84) (f_x_49 : h.2.2 x 49 = some qsz) (qgd : Nat) (gqgd : hx_g L h qgd 91) (f_x_56 : h.2.2 x 56 = some qgd) (qow : Nat) (gqow : hx_g L h qow 90) (f_x_55 : h.2.2 x 55 = some qow) (qwk : Nat) (gqwk : hx_g L h qwk 89) (f_x_54 : h.2.2 x 54 = some qwk) (qpl : Nat) (gqpl : hx_g L h qpl 79) (f_x_44 : h.2.2 x 44 = some qpl) (qru : Nat) (gqru : hx_g L h qru 50) (f_x_3 : h.2.2 x 3 = some qru) (qpo : Nat) (gqpo : hx_g L h qpo 93) (f_x_60 : h.2.2 x 60 = some qpo) (qpd : Nat) (gqpd : hx_g L h qpd 94) (f_x_61 : h.2.2 x 61 = some qpd) (qps : Nat) (gqps : hx_g L h qps 95) (f_x_62 : h.2.2 x 62 = some qps) (qpk : Nat) (gqpk : hx_g L h qpk 96) (f_x_63 : h.2.2 x 63 = some qpk) (qpt : Nat) (gqpt : hx_g L h qpt 97) (f_x_64 : h.2.2 x 64 = some qpt) (qag : Nat) (gqag : hx_g L h qag 73) (f_x_38 : h.2.2 x 38 = some qag) (qby : Nat) (gqby : hx_g L h qby 72) (f_x_37 : h.2.2 x 37 = some qby) (zfo : Nat) (gzfo : hx_g L h zfo 102) (f_x_76 : h.2.2 x 76 = some zfo) (zre : Nat) (gzre : hx_g L h zre 103) (f_x_77 : h.2.2 x 77 = some zre) (zle : Nat) (gzle : hx_g L h zle 104) (f_x_78 : h.2.2 x 78 = some zle) (zmo : Nat) (gzmo : hx_g L h zmo 105) (f_x_79 : h.2.2 x 79 = some zmo) (zbm : Nat) (gzbm : hx_g L h zbm 106) (f_x_80 : h.2.2 x 80 = some zbm) (zpc : Nat) (gzpc : hx_g L h zpc 100) (f_x_73 : h.2.2 x 73 = some zpc) (zpw : Nat) (gzpw : hx_g L h zpw 101) (f_x_74 : h.2.2 x 74 = some zpw) (zpk : Nat) (gzpk : hx_g L h zpk 107) (f_x_81 : h.2.2 x 81 = some zpk) (qea : Nat) (gqea : hx_g L h qea 59) (f_x_22 : h.2.2 x 22 = some qea) (qhd : Nat) (gqhd : hx_g L h qhd 60) (f_x_23 : h.2.2 x 23 = some qhd) (qad9 : Nat) (gqad9 : hx_g L h qad9 49) (f_x_2 : h.2.2 x 2 = some qad9) (qpn9 : Nat) (gqpn9 : hx_g L h qpn9 51) (f_x_4 : h.2.2 x 4 = some qpn9) (qpf9 : Nat) (gqpf9 : hx_g L h qpf9 52) (f_x_5 : h.2.2 x 5 = some qpf9) (fof : Nat → Int32) (af_qfo : h.2.1 qfo = fof) (hrf : Nat → Int32) (af_qhe : h.2.1 qhe = hrf) (udf : Nat → Int32) (af_qju : h.2.1 qju = udf) (odf : Nat → Int32) (af_qod : h.2.1 qod = odf) (svf : Nat → Int32) (af_qsv : h.2.1 qsv = svf) (szf : Nat → Int32) (af_qsz : h.2.1 qsz = szf) (gdf : Nat → Int32) (af_qgd : h.2.1 qgd = gdf) (owf : Nat → Int32) (af_qow : h.2.1 qow = owf) (wkf : Nat → Int32) (af_qwk : h.2.1 qwk = wkf) (plf : Nat → Int32) (af_qpl : h.2.1 qpl = plf) (rlf : Nat → Int32) (af_qru : h.2.1 qru = rlf) (pof : Nat → Int32) (af_qpo : h.2.1 qpo = pof) (pdf : Nat → Int32) (af_qpd : h.2.1 qpd = pdf) (psm : Nat → Int32) (af_qps : h.2.1 qps = psm) (pkf : Nat → Int32) (af_qpk : h.2.1 qpk = pkf) (pst : Nat → Int32) (af_qpt : h.2.1 qpt = pst) (agf : Nat → Int32) (af_qag : h.2.1 qag = agf) (byf : Nat → Int32) (af_qby : h.2.1 qby = byf) (clf : Nat → Int32) (af_zpc : h.2.1 zpc = clf) (wlf : Nat → Int32) (af_zpw : h.2.1 zpw = wlf) (wsf : Nat → Int32) (af_zpk : h.2.1 zpk = wsf) (eaf : Nat → Int32) (af_qea : h.2.1 qea = eaf) (hdf : Nat → Int32) (af_qhd : h.2.1 qhd = hdf) (adf : Nat → Int32) (af_qad9 : h.2.1 qad9 = adf) (psf : Nat → Int32) (af_qpn9 : h.2.1 qpn9 = psf) (prf : Nat → Int32) (af_qpf9 : h.2.1 qpf9 = prf) (c0 : Int32) (f_x_36 : h.2.1 x 36 = c0) (a0 : Int32) (f_x_1 : h.2.1 x 1 = a0) (nw0 : Int32) (f_x_0 : h.2.1 x 0 = nw0) (n0 : Int32) (f_x_59 : h.2.1 x 59 = n0) (pn0 : Int32) (f_x_20 : h.2.1 x 20 = pn0) (td0 : Int32) (f_x_72 : h.2.1 x 72 = td0) (A : Nat → hv_act) (hCA : hv_CA adf rlf psf prf a0.toInt A) (hPL : hx_PL plf c0.toInt a0.toInt) (hAB : ∀ j : Nat, (∀ k, 0 ≤ (A j).2.1 k ∧ (A j).2.1 k ≤ 9999) ∧ hv_OK (A j).2.2) (hwk9 : ∀ c : Nat, c < c0.toInt.toNat → 1 ≤ (A (plf c).toInt.toNat).2.1 2) (hrn : ∀ c : Nat, c < c0.toInt.toNat → 0 ≤ (hz_Rn odf szf gdf owf svf (hz_rc A plf) pof pdf psm pkf pst nw0.toInt n0.toInt.toNat) c ∧ (hz_Rn odf szf gdf owf svf (hz_rc A plf) pof pdf psm pkf pst nw0.toInt n0.toInt.toNat) c ≤ 609999) : Met l yX10_plan (Cond.code yX10_plan cX10_plan 12 (some .int) :: hx_all) ({ frames := 3, cells := 0, slots := 0, locals := 71 }) (va_Pc [.ref x, .int i1, .int i2] (hx_B T_tb (P_ty dA) (dC, dI) vwCl L h sz)) (va_Qi (fun (r : Int32) (u : List Nat × hx_h) => (∃ (td1 : Int32) (clf1 : Nat → Int32) (wlf1 : Nat → Int32) (wsf1 : Nat → Int32), u.2.2.1 x 72 = td1 ∧ u.2.2.1 zpc = clf1 ∧ u.2.2.1 zpw = wlf1 ∧ u.2.2.1 zpk = wsf1 ∧ (hp_PS ((0 ≤ i1.toInt ∧ i1.toInt < pn0.toInt) ∧ 1 ≤ i2.toInt ∧ i2.toInt ≤ 99) (hp_ol agf (hz_Rn odf szf gdf owf svf (hz_rc A plf) pof pdf psm pkf pst nw0.toInt n0.toInt.toNat) i1.toInt c0.toInt.toNat).length (hp_ge (hp_ol agf (hz_Rn odf szf gdf owf svf (hz_rc A plf) pof pdf psm pkf pst nw0.toInt n0.toInt.toNat) i1.toInt c0.toInt.toNat)) (fun c9 => hz_mi ((fun c9 => (A (plf c9).toInt.toNat).2.1 2) (hp_ge (hp_ol agf (hz_Rn odf szf gdf owf svf (hz_rc A plf) pof pdf psm pkf pst nw0.toInt n0.toInt.toNat) i1.toInt c0.toInt.toNat) c9)) ((hz_Rn odf szf gdf owf svf (hz_rc A plf) pof pdf psm pkf pst nw0.toInt n0.toInt.toNat) (hp_ge (hp_ol agf (hz_Rn odf szf gdf owf svf (hz_rc A plf) pof pdf psm pkf pst nw0.toInt n0.toInt.toNat) i1.toInt c0.toInt.toNat) c9))) (fun c9 => (hz_Rn odf szf gdf owf svf (hz_rc A plf) pof pdf psm pkf pst nw0.toInt n0.toInt.toNat) (hp_ge (hp_ol agf (hz_Rn odf szf gdf owf svf (hz_rc A plf) pof pdf psm pkf pst nw0.toInt n0.toInt.toNat) i1.toInt c0.toInt.toNat) c9)) i2.toInt ((eaf i1.toInt.toNat).toInt - (A (hv_IF A nw0.toInt a0.toInt.toNat)).2.1 3 * (hdf i1.toInt.toNat).toInt) r.toInt td0.toInt td1.toInt clf clf1 wlf wlf1 wsf wsf1)) ∧ hx_T T_tb u.1 u.2 ∧ hx_S T_tb [(10, 67), (10, 68), (10, 69), (10, 70), (10, 71), (10, 72), (10, 75), (100, 0), (101, 0), (102, 0), (103, 0), (104, 0), (105, 0), (106, 0), (107, 0)] L h u.1 u.2) (hx_E T_tb (P_ty dA) (dC, dI) vwCl (hx_A L sz)) (hx_A L sz)) 0 0 (hx_A L sz) := by
  refine hx_met (lv := [(0, .ref x), (1, .int i1), (2, .int i2)]) (by decide +kernel) rfl (Nat.le_of_ble_eq_true rfl) rfl ?_
  intro p e s m below meth c hx hb hml hr hlk hts0 hown hin hsz hW ls hl
  have hts : ∀ w ∈ hx_all, w.before _ s = true := fun w hw => hts0 w (List.mem_cons_of_mem _ hw)
  have hown : s.vm.findClass "SmallCourtModel" = some m.cls := hown
  have hM : hx_S T_tb [(10, 67), (10, 68), (10, 69), (10, 70), (10, 71), (10, 72), (10, 75), (100, 0), (101, 0), (102, 0), (103, 0), (104, 0), (105, 0), (106, 0), (107, 0)] L h L h := hx_S.rf
  have b_c0 := hT.gi gx tt_10 (k := 36) rfl
  rw [f_x_36] at b_c0
  have b_c0 : 0 ≤ c0.toInt ∧ c0.toInt ≤ 100 := b_c0
  have b_a0 := hT.gi gx tt_10 (k := 1) rfl
  rw [f_x_1] at b_a0
  have b_a0 : 0 ≤ a0.toInt ∧ a0.toInt ≤ 8 := b_a0
  have b_nw0 := hT.gi gx tt_10 (k := 0) rfl
  rw [f_x_0] at b_nw0
  have b_nw0 : 0 ≤ nw0.toInt ∧ nw0.toInt ≤ 7999 := b_nw0
  have b_n0 := hT.gi gx tt_10 (k := 59) rfl
  rw [f_x_59] at b_n0
  have b_n0 : 0 ≤ n0.toInt ∧ n0.toInt ≤ 600 := b_n0
  have b_pn0 := hT.gi gx tt_10 (k := 20) rfl
  rw [f_x_20] at b_pn0
  have b_pn0 : 0 ≤ pn0.toInt ∧ pn0.toInt ≤ 40 := b_pn0
  have b_td0 := hT.gi gx tt_10 (k := 72) rfl
  rw [f_x_72] at b_td0
  have b_td0 : 0 ≤ td0.toInt ∧ td0.toInt ≤ 4 := b_td0
  refine lv_aload_n hx hb dX10_plan_0 rfl (lv_at hl 0 rfl) ?_
  refine lv_iload_n hx hb dX10_plan_1 rfl (lv_at hl 1 rfl) ?_
  refine hx_goi (hx_runV (As := [.int i1]) (rest := []) ⟨hx, hb, hml, hown, hts⟩ hW (gx.S hM) tt_10 (T := TX10) (N := 98) rfl (t_X10_isPerson l dC dI dA L h s.heap.size x i1 hT (gx.S hM) pn0 ((hM.o gx trivial rfl).1.trans f_x_20)) (cwV 1 hts (hx_gV kw_1552 kw_1549 kw_1551 kw_68 kw_103) rfl rfl rfl (by decide +kernel) ⟨Nat.le_of_ble_eq_true rfl, Nat.le_of_ble_eq_true rfl⟩) rfl hl.1 rfl (Nat.le_of_ble_eq_true rfl) dX10_plan_2 ⟨Nat.le_of_ble_eq_true rfl, Nat.le_of_ble_eq_true rfl⟩) hW (fun r_3 L_1 h_2 H locs p_4 hW => ?_)
  obtain ⟨hr_5, hT, hs⟩ := p_4
  replace hT : hx_T T_tb L_1 h_2 := hT
  replace hs : hx_S T_tb [] L h L_1 h_2 := hs
  replace f_x_72 := (hs.o (gx.S hM) trivial rfl).1.trans f_x_72
  replace af_zpc : h_2.2.1 zpc = clf := (funext fun j => (hs.a (gzpc.S hM) rfl j).1).trans af_zpc
  replace af_zpw : h_2.2.1 zpw = wlf := (funext fun j => (hs.a (gzpw.S hM) rfl j).1).trans af_zpw
  replace af_zpk : h_2.2.1 zpk = wsf := (funext fun j => (hs.a (gzpk.S hM) rfl j).1).trans af_zpk
  replace hM := hM.tr (hs.mono ?o0)
  case o0 => decide
  refine hb_if_eq (zx := r_3.toInt) (tgt := 18) hx hb rfl dX10_plan_5 ?o1 (fun c_6 => ?_) (fun c_6 => ?_)
  case o1 => decide
  · skip
    replace hr_5 := hr_5.resolve_right (fun z9 => absurd (c_6.symm.trans z9.1) ?o2)
    case o2 => decide
    replace hr_5 := hr_5.2
    refine lv_iconst (v := -1) hx hb dX10_plan_18 ?o3 ?_
    case o3 => decide
    refine hx_reti hx hb hr hlk hW ⟨⟨td0, clf, wlf, wsf, f_x_72, af_zpc, af_zpw, af_zpk, (Or.inl ⟨Or.inl ⟨(fun hc => by have h1 := hc.1; have h2 := hc.2; omega), ?o4⟩, rfl, rfl, rfl, rfl⟩)⟩, hT, hM⟩ dX10_plan_19
    case o4 => decide
  · skip
    replace hr_5 := hr_5.resolve_left (fun z9 => c_6 z9.1)
    replace c_6 := hr_5.1
    replace hr_5 := hr_5.2
    refine lv_iload_n hx hb dX10_plan_8 rfl (lv_at hl 2 rfl) ?_
    refine lv_iconst (v := 1) hx hb dX10_plan_9 ?o5 ?_
    case o5 => decide
    refine lv_bipush (v := 99) hx hb dX10_plan_10 ?o6 ?_
    case o6 => decide
    have zc_99 : (99 : Int32).toInt = 99 := ?o7
    case o7 => decide
    have zc_1 : (1 : Int32).toInt = 1 := ?o8
    case o8 => decide
    refine hx_goi (hx_runS (As := [.int i2, .int (1 : Int32), .int (99 : Int32)]) (rest := []) ⟨hx, hb, hml, hown, hts⟩ hW (t_X10_in l dC dI dA L_1 h_2 H.size i2 (1 : Int32) (99 : Int32) hT) (va_cwS 3 hts (hx_gS kw_1445 kw_1443 kw_1444 kw_103) rfl rfl rfl (by decide +kernel) ⟨Nat.le_of_ble_eq_true rfl, Nat.le_of_ble_eq_true rfl⟩) rfl hl.1 rfl (Nat.le_of_ble_eq_true rfl) dX10_plan_12 ⟨Nat.le_of_ble_eq_true rfl, Nat.le_of_ble_eq_true rfl⟩) hW (fun r_9 L_7 h_8 H locs p_10 hW => ?_)
    obtain ⟨hr_11, hT, hs⟩ := p_10
    replace hT : hx_T T_tb L_7 h_8 := hT
    replace hs : hx_S T_tb [] L_1 h_2 L_7 h_8 := hs
    replace f_x_72 := (hs.o (gx.S hM) trivial rfl).1.trans f_x_72
    replace af_zpc : h_8.2.1 zpc = clf := (funext fun j => (hs.a (gzpc.S hM) rfl j).1).trans af_zpc
    replace af_zpw : h_8.2.1 zpw = wlf := (funext fun j => (hs.a (gzpw.S hM) rfl j).1).trans af_zpw
    replace af_zpk : h_8.2.1 zpk = wsf := (funext fun j => (hs.a (gzpk.S hM) rfl j).1).trans af_zpk
    replace hM := hM.tr (hs.mono ?o9)
    case o9 => decide
    refine hb_if_ne (zx := r_9.toInt) (tgt := 20) hx hb rfl dX10_plan_15 ?o10 (fun c_12 => ?_) (fun c_12 => ?_)
    case o10 => decide
    · skip
      replace hr_11 := hr_11.resolve_left (fun z9 => c_12 z9.1)
      replace c_12 := hr_11.1
      replace hr_11 := hr_11.2
      refine lv_aload_n hx hb dX10_plan_20 rfl (lv_at hl 0 rfl) ?_
      refine lv_iconst (v := 0) hx hb dX10_plan_21 ?o11 ?_
      case o11 => decide
      refine hx_puti hx hb hts hC_10 hown hW hT (hx_S.rf (M := [(10, 75)])) (gx.S hM) tt_10 75 ?o12 rfl kw_1218 ⟨rfl, rfl, rfl⟩ rfl (x := (0 : Int32)) ?o13 rfl rfl rfl (List.mem_singleton.mpr rfl) dX10_plan_22 (fun H locs h_13 eh_13 hW hT hs => ?_)
      case o12 => decide
      case o13 => decide
      replace f_x_72 := (hs.o (gx.S hM) trivial rfl).1.trans f_x_72
      replace af_zpc : h_13.2.1 zpc = clf := (funext fun j => (hs.a (gzpc.S hM) rfl j).1).trans af_zpc
      replace af_zpw : h_13.2.1 zpw = wlf := (funext fun j => (hs.a (gzpw.S hM) rfl j).1).trans af_zpw
      replace af_zpk : h_13.2.1 zpk = wsf := (funext fun j => (hs.a (gzpk.S hM) rfl j).1).trans af_zpk
      replace hM := hM.tr (hs.mono ?o14)
      case o14 => decide
      have f_14 : h_13.2.1 x 75 = (0 : Int32) := ?o15
      case o15 =>
        rw [eh_13]
        exact hx_pi_at _ _ _ _
      refine lv_iconst (v := 0) hx hb dX10_plan_25 ?o16 ?_
      case o16 => decide
      refine lv_istore_n (lv' := [(3, .int (0 : Int32)), (0, .ref x), (1, .int i1), (2, .int i2)]) hx hb dX10_plan_26 rfl hl ?o17 rfl (fun ls hl => ?_)
      case o17 => decide
      obtain ⟨fa_15, nfa_15⟩ : ∃ g : Nat → Int32, h_13.2.1 zfo = g := ⟨_, rfl⟩
      obtain ⟨fa_16, nfa_16⟩ : ∃ g : Nat → Int32, h_13.2.1 zre = g := ⟨_, rfl⟩
      obtain ⟨fa_17, nfa_17⟩ : ∃ g : Nat → Int32, h_13.2.1 zle = g := ⟨_, rfl⟩
      obtain ⟨fa_18, nfa_18⟩ : ∃ g : Nat → Int32, h_13.2.1 zmo = g := ⟨_, rfl⟩
      have loop27 : ∀ (n27 : Nat) (iv27_3 fw27_x_75 : Int32) (ia27_zfo ia27_zre ia27_zle ia27_zmo : Nat → Int32) (H : Heap) (locs : List Loc) (hL1 : List Nat) (hl1 : hx_h), 0 ≤ iv27_3.toInt → iv27_3.toInt ≤ 100 → 0 ≤ fw27_x_75.toInt → fw27_x_75.toInt ≤ 4 → (hp_OQ agf (hz_Rn odf szf gdf owf svf (hz_rc A plf) pof pdf psm pkf pst nw0.toInt n0.toInt.toNat) (fun c9 => (A (plf c9).toInt.toNat).2.1 2) i1.toInt (iv27_3.toInt).toNat ia27_zfo ia27_zre ia27_zle ∧ fw27_x_75.toInt = ((hp_ol agf (hz_Rn odf szf gdf owf svf (hz_rc A plf) pof pdf psm pkf pst nw0.toInt n0.toInt.toNat) i1.toInt (iv27_3.toInt).toNat).length : Int)) → (∀ i : Nat, (i : Int) < fw27_x_75.toInt → ia27_zmo i = 0) → (iv27_3.toInt ≤ c0.toInt) → ∀ (ls : Array Slot), 100 - iv27_3.toInt < (n27 : Int) → hx_W T_tb (P_ty dA) (dC, dI) vwCl (hx_A L sz) s.heap hL1 hl1 s H locs → hx_T T_tb hL1 hl1 → hx_S T_tb [(10, 67), (10, 68), (10, 69), (10, 70), (10, 71), (10, 72), (10, 75), (100, 0), (101, 0), (102, 0), (103, 0), (104, 0), (105, 0), (106, 0), (107, 0)] L h hL1 hl1 → hl1.2.1 x 75 = fw27_x_75 → hl1.2.1 x 72 = td0 → hl1.2.1 zfo = ia27_zfo → hl1.2.1 zre = ia27_zre → hl1.2.1 zle = ia27_zle → hl1.2.1 zmo = ia27_zmo → hl1.2.1 zpc = clf → hl1.2.1 zpw = wlf → hl1.2.1 zpk = wsf → lv_has ls 12 [(3, .int iv27_3), (0, .ref x), (1, .int i1), (2, .int i2)] → W p l e ({ frames := 3, cells := 0, slots := 0, locals := 71 }) s m ([.ref x, .int i1, .int i2] : List Value).toArray below meth c H locs 0 0 (MQ below (va_Qi (fun (r : Int32) (u : List Nat × hx_h) => (∃ (td1 : Int32) (clf1 : Nat → Int32) (wlf1 : Nat → Int32) (wsf1 : Nat → Int32), u.2.2.1 x 72 = td1 ∧ u.2.2.1 zpc = clf1 ∧ u.2.2.1 zpw = wlf1 ∧ u.2.2.1 zpk = wsf1 ∧ (hp_PS ((0 ≤ i1.toInt ∧ i1.toInt < pn0.toInt) ∧ 1 ≤ i2.toInt ∧ i2.toInt ≤ 99) (hp_ol agf (hz_Rn odf szf gdf owf svf (hz_rc A plf) pof pdf psm pkf pst nw0.toInt n0.toInt.toNat) i1.toInt c0.toInt.toNat).length (hp_ge (hp_ol agf (hz_Rn odf szf gdf owf svf (hz_rc A plf) pof pdf psm pkf pst nw0.toInt n0.toInt.toNat) i1.toInt c0.toInt.toNat)) (fun c9 => hz_mi ((fun c9 => (A (plf c9).toInt.toNat).2.1 2) (hp_ge (hp_ol agf (hz_Rn odf szf gdf owf svf (hz_rc A plf) pof pdf psm pkf pst nw0.toInt n0.toInt.toNat) i1.toInt c0.toInt.toNat) c9)) ((hz_Rn odf szf gdf owf svf (hz_rc A plf) pof pdf psm pkf pst nw0.toInt n0.toInt.toNat) (hp_ge (hp_ol agf (hz_Rn odf szf gdf owf svf (hz_rc A plf) pof pdf psm pkf pst nw0.toInt n0.toInt.toNat) i1.toInt c0.toInt.toNat) c9))) (fun c9 => (hz_Rn odf szf gdf owf svf (hz_rc A plf) pof pdf psm pkf pst nw0.toInt n0.toInt.toNat) (hp_ge (hp_ol agf (hz_Rn odf szf gdf owf svf (hz_rc A plf) pof pdf psm pkf pst nw0.toInt n0.toInt.toNat) i1.toInt c0.toInt.toNat) c9)) i2.toInt ((eaf i1.toInt.toNat).toInt - (A (hv_IF A nw0.toInt a0.toInt.toNat)).2.1 3 * (hdf i1.toInt.toNat).toInt) r.toInt td0.toInt td1.toInt clf clf1 wlf wlf1 wsf wsf1)) ∧ hx_T T_tb u.1 u.2 ∧ hx_S T_tb [(10, 67), (10, 68), (10, 69), (10, 70), (10, 71), (10, 72), (10, 75), (100, 0), (101, 0), (102, 0), (103, 0), (104, 0), (105, 0), (106, 0), (107, 0)] L h u.1 u.2) (hx_E T_tb (P_ty dA) (dC, dI) vwCl (hx_A L sz)) (hx_A L sz)) ([.ref x, .int i1, .int i2] : List Value).toArray s 0 0 (hx_A L sz)) (F0 m 27 ls []) := by
        intro n27
        induction n27 with
        | zero => intro iv27_3 fw27_x_75 ia27_zfo ia27_zre ia27_zle ia27_zmo H locs hL1 hl1 bliv27_3 buiv27_3 blfw27_x_75 bufw27_x_75 vi27_0 vi27_1 vi27_2 ls hn27; exfalso; omega
        | succ n27 ih27 =>
          intro iv27_3 fw27_x_75 ia27_zfo ia27_zre ia27_zle ia27_zmo H locs hL1 hl1 bliv27_3 buiv27_3 blfw27_x_75 bufw27_x_75 vi27_0 vi27_1 vi27_2 ls hn27 hW hT hM ffw27_x_75 f_x_72 nia27_zfo nia27_zre nia27_zle nia27_zmo af_zpc af_zpw af_zpk hl
          have hin9 : ((iv27_3.toInt.toNat : Nat) : Int) = iv27_3.toInt := Int.toNat_of_nonneg ?o18
          case o18 => omega
          refine lv_iload_n hx hb dX10_plan_27 rfl (lv_at hl 0 rfl) ?_
          refine lv_aload_n hx hb dX10_plan_28 rfl (lv_at hl 1 rfl) ?_
          refine hk_geti hx hb hts hC_10 hown hW (gx.S hM) tt_10 36 ?o19 rfl kw_1179 ⟨rfl, rfl, rfl⟩ ((hM.o gx trivial rfl).1.trans f_x_36) dX10_plan_29 ?_
          case o19 => decide
          refine hb_icmp_ge (zx := iv27_3.toInt) (zy := c0.toInt) (tgt := 155) hx hb rfl rfl dX10_plan_32 ?o20 (fun c_19 => ?_) (fun c_19 => ?_)
          case o20 => decide
          · skip
            refine lv_aload_n hx hb dX10_plan_155 rfl (lv_at hl 1 rfl) ?_
            refine lv_iload_n hx hb dX10_plan_156 rfl (lv_at hl 2 rfl) ?_
            refine lv_aload_n hx hb dX10_plan_157 rfl (lv_at hl 1 rfl) ?_
            refine lv_aload_n hx hb dX10_plan_158 rfl (lv_at hl 1 rfl) ?_
            refine hk_geti hx hb hts hC_10 hown hW (gx.S hM) tt_10 0 ?o21 rfl kw_1143 ⟨rfl, rfl, rfl⟩ ((hM.o gx trivial rfl).1.trans f_x_0) dX10_plan_159 ?_
            case o21 => decide
            refine hx_goi (hx_runV (As := [.int nw0]) (rest := [.int i1, .ref x]) ⟨hx, hb, hml, hown, hts⟩ hW (gx.S hM) tt_10 (T := TX10) (N := 98) rfl (t_X10_inForce_v l dC dI dA hL1 hl1 H.size x nw0 hT (gx.S hM) qad9 (gqad9.S hM) ((hM.o gx trivial rfl).2.trans f_x_2) qru (gqru.S hM) ((hM.o gx trivial rfl).2.trans f_x_3) qpn9 (gqpn9.S hM) ((hM.o gx trivial rfl).2.trans f_x_4) qpf9 (gqpf9.S hM) ((hM.o gx trivial rfl).2.trans f_x_5) adf (hx_afS hM gqad9 rfl af_qad9) rlf (hx_afS hM gqru rfl af_qru) psf (hx_afS hM gqpn9 rfl af_qpn9) prf (hx_afS hM gqpf9 rfl af_qpf9) a0 ((hM.o gx trivial rfl).1.trans f_x_1) A hCA) (cwV 1 hts (hx_gV kw_1529 kw_1526 kw_1528 kw_65 kw_103) rfl rfl rfl (by decide +kernel) ⟨Nat.le_of_ble_eq_true rfl, Nat.le_of_ble_eq_true rfl⟩) rfl hl.1 rfl (Nat.le_of_ble_eq_true rfl) dX10_plan_162 ⟨Nat.le_of_ble_eq_true rfl, Nat.le_of_ble_eq_true rfl⟩) hW (fun r_22 L_20 h_21 H locs p_23 hW => ?_)
            obtain ⟨hr_24, hT, hs⟩ := p_23
            replace hT : hx_T T_tb L_20 h_21 := hT
            replace hs : hx_S T_tb [] hL1 hl1 L_20 h_21 := hs
            replace f_x_72 := (hs.o (gx.S hM) trivial rfl).1.trans f_x_72
            replace ffw27_x_75 := (hs.o (gx.S hM) trivial rfl).1.trans ffw27_x_75
            replace af_zpc : h_21.2.1 zpc = clf := (funext fun j => (hs.a (gzpc.S hM) rfl j).1).trans af_zpc
            replace af_zpw : h_21.2.1 zpw = wlf := (funext fun j => (hs.a (gzpw.S hM) rfl j).1).trans af_zpw
            replace af_zpk : h_21.2.1 zpk = wsf := (funext fun j => (hs.a (gzpk.S hM) rfl j).1).trans af_zpk
            replace nia27_zfo : h_21.2.1 zfo = ia27_zfo := (funext fun j => (hs.a (gzfo.S hM) rfl j).1).trans nia27_zfo
            replace nia27_zre : h_21.2.1 zre = ia27_zre := (funext fun j => (hs.a (gzre.S hM) rfl j).1).trans nia27_zre
            replace nia27_zle : h_21.2.1 zle = ia27_zle := (funext fun j => (hs.a (gzle.S hM) rfl j).1).trans nia27_zle
            replace nia27_zmo : h_21.2.1 zmo = ia27_zmo := (funext fun j => (hs.a (gzmo.S hM) rfl j).1).trans nia27_zmo
            replace hM := hM.tr (hs.mono ?o22)
            case o22 => decide
            have hib9 := hv_IF_b (A := A) (d := nw0.toInt) a0.toInt.toNat
            obtain ⟨_, hi29, _⟩ := hCA.2 (hv_IF A nw0.toInt a0.toInt.toNat) (by omega)
            refine hx_goi (hx_runV (As := [.int i1, .int r_22]) (rest := []) ⟨hx, hb, hml, hown, hts⟩ hW (gx.S hM) tt_10 (T := TX10) (N := 98) rfl (t_X10_means_v l dC dI dA L_20 h_21 H.size x i1 r_22 hT (gx.S hM) qea (gqea.S hM) ((hM.o gx trivial rfl).2.trans f_x_22) qhd (gqhd.S hM) ((hM.o gx trivial rfl).2.trans f_x_23) qru (gqru.S hM) ((hM.o gx trivial rfl).2.trans f_x_3) eaf (hx_afS hM gqea rfl af_qea) hdf (hx_afS hM gqhd rfl af_qhd) rlf (hx_afS hM gqru rfl af_qru) ⟨?o23, ?o24⟩ ⟨?o25, ?o26⟩ ((A (hv_IF A nw0.toInt a0.toInt.toNat)).2.1 3) (by rw [show r_22.toInt.toNat = hv_IF A nw0.toInt a0.toInt.toNat from by have h9 := hr_24.1; omega, ← hi29]; show _ = (if 3 < 13 then _ else 0); rw [if_pos (by decide)]; try rfl)) (cwV 2 hts (hx_gV kw_1645 kw_1642 kw_1644 kw_83 kw_103) rfl rfl rfl (by decide +kernel) ⟨Nat.le_of_ble_eq_true rfl, Nat.le_of_ble_eq_true rfl⟩) rfl hl.1 rfl (Nat.le_of_ble_eq_true rfl) dX10_plan_165 ⟨Nat.le_of_ble_eq_true rfl, Nat.le_of_ble_eq_true rfl⟩) hW (fun r_27 L_25 h_26 H locs p_28 hW => ?_)
            case o23 => omega
            case o24 => omega
            case o25 => omega
            case o26 => omega
            obtain ⟨hr_29, hT, hs⟩ := p_28
            replace hT : hx_T T_tb L_25 h_26 := hT
            replace hs : hx_S T_tb [] L_20 h_21 L_25 h_26 := hs
            replace f_x_72 := (hs.o (gx.S hM) trivial rfl).1.trans f_x_72
            replace ffw27_x_75 := (hs.o (gx.S hM) trivial rfl).1.trans ffw27_x_75
            replace af_zpc : h_26.2.1 zpc = clf := (funext fun j => (hs.a (gzpc.S hM) rfl j).1).trans af_zpc
            replace af_zpw : h_26.2.1 zpw = wlf := (funext fun j => (hs.a (gzpw.S hM) rfl j).1).trans af_zpw
            replace af_zpk : h_26.2.1 zpk = wsf := (funext fun j => (hs.a (gzpk.S hM) rfl j).1).trans af_zpk
            replace nia27_zfo : h_26.2.1 zfo = ia27_zfo := (funext fun j => (hs.a (gzfo.S hM) rfl j).1).trans nia27_zfo
            replace nia27_zre : h_26.2.1 zre = ia27_zre := (funext fun j => (hs.a (gzre.S hM) rfl j).1).trans nia27_zre
            replace nia27_zle : h_26.2.1 zle = ia27_zle := (funext fun j => (hs.a (gzle.S hM) rfl j).1).trans nia27_zle
            replace nia27_zmo : h_26.2.1 zmo = ia27_zmo := (funext fun j => (hs.a (gzmo.S hM) rfl j).1).trans nia27_zmo
            replace hM := hM.tr (hs.mono ?o27)
            case o27 => decide
            have hme9 : r_27.toInt = ((eaf i1.toInt.toNat).toInt - (A (hv_IF A nw0.toInt a0.toInt.toNat)).2.1 3 * (hdf i1.toInt.toNat).toInt) := hr_29.1
            refine lv_istore_n (lv' := [(3, .int r_27), (0, .ref x), (1, .int i1), (2, .int i2)]) hx hb dX10_plan_168 rfl hl ?o28 rfl (fun ls hl => ?_)
            case o28 => decide
            obtain ⟨hOQ9, hol9⟩ := vi27_0; rw [show iv27_3.toInt.toNat = c0.toInt.toNat by omega] at hOQ9 hol9
            obtain ⟨lM9, eLM9⟩ : ∃ z : List Nat, z = (hp_ol agf (hz_Rn odf szf gdf owf svf (hz_rc A plf) pof pdf psm pkf pst nw0.toInt n0.toInt.toNat) i1.toInt c0.toInt.toNat) := ⟨_, rfl⟩; rw [← eLM9] at hol9
            have hnl9 : fw27_x_75.toInt.toNat = lM9.length := ?o29
            case o29 => omega
            have hfn9 : ((fw27_x_75.toInt.toNat : Nat) : Int) = fw27_x_75.toInt := Int.toNat_of_nonneg ?o30
            case o30 => omega
            obtain ⟨aF9, eaF9⟩ : ∃ z : Nat → Int, z = (fun c9 => hz_mi ((fun c9 => (A (plf c9).toInt.toNat).2.1 2) (hp_ge lM9 c9)) ((hz_Rn odf szf gdf owf svf (hz_rc A plf) pof pdf psm pkf pst nw0.toInt n0.toInt.toNat) (hp_ge lM9 c9))) := ⟨_, rfl⟩
            obtain ⟨rF9, erF9⟩ : ∃ z : Nat → Int, z = (fun c9 => (hz_Rn odf szf gdf owf svf (hz_rc A plf) pof pdf psm pkf pst nw0.toInt n0.toInt.toNat) (hp_ge lM9 c9)) := ⟨_, rfl⟩
            have hob9 : ∀ i : Nat, i < fw27_x_75.toInt.toNat → hp_ge lM9 i < c0.toInt.toNat ∧ 0 < (hz_Rn odf szf gdf owf svf (hz_rc A plf) pof pdf psm pkf pst nw0.toInt n0.toInt.toNat) (hp_ge lM9 i) := fun i hi => by have hi2 : i < lM9.length := (by omega); rw [eLM9] at hi2 ⊢; exact hp_ol_b _ i hi2
            have hoq9 : ∀ i : Nat, i < fw27_x_75.toInt.toNat → (ia27_zfo i).toInt = (hp_ge lM9 i : Nat) ∧ (ia27_zre i).toInt = rF9 i ∧ (ia27_zle i).toInt = aF9 i := fun i hi => by have hi2 : i < lM9.length := (by omega); rw [erF9, eaF9]; rw [eLM9] at hi2 ⊢; exact hOQ9 i hi2
            have hla9 : ∀ i : Nat, i < fw27_x_75.toInt.toNat → (ia27_zle i).toInt = aF9 i := fun i hi => (hoq9 i hi).2.2
            have hlr9 : ∀ i : Nat, i < fw27_x_75.toInt.toNat → (ia27_zre i).toInt = rF9 i := fun i hi => (hoq9 i hi).2.1
            have hle9 : ∀ i : Nat, i < fw27_x_75.toInt.toNat → 1 ≤ (ia27_zle i).toInt ∧ (ia27_zle i).toInt ≤ 9999 := fun i hi => by have h8 := hob9 i hi; have h7 := hwk9 _ h8.1; have h6 := (hAB (plf (hp_ge lM9 i)).toInt.toNat).1 2; rw [hla9 i hi, eaF9]; show 1 ≤ hz_mi _ _ ∧ hz_mi _ _ ≤ 9999; unfold hz_mi; dsimp only; split <;> omega
            have hre9 : ∀ i : Nat, i < fw27_x_75.toInt.toNat → 1 ≤ (ia27_zre i).toInt ∧ (ia27_zre i).toInt ≤ 609999 := fun i hi => by rw [hlr9 i hi, erF9]; exact ⟨(hob9 i hi).2, (hrn _ (hob9 i hi).1).2⟩
            clear hol9 hOQ9
            refine lv_aload_n hx hb dX10_plan_169 rfl (lv_at hl 1 rfl) ?_
            refine hk_geti hx hb hts hC_10 hown hW (gx.S hM) tt_10 75 ?o31 rfl kw_1218 ⟨rfl, rfl, rfl⟩ ffw27_x_75 dX10_plan_170 ?_
            case o31 => decide
            refine hb_if_ne (zx := fw27_x_75.toInt) (tgt := 180) hx hb rfl dX10_plan_173 ?o32 (fun c_30 => ?_) (fun c_30 => ?_)
            case o32 => decide
            · skip
              replace c_30 : 1 ≤ fw27_x_75.toInt := ?o33
              case o33 => omega
              refine lv_ldcw (v := 1000000000) hx hb hown (hts _ kw_1678) dX10_plan_180 ?_
              refine lv_istore (lv' := [(4, .int (1000000000 : Int32)), (3, .int r_27), (0, .ref x), (1, .int i1), (2, .int i2)]) hx hb dX10_plan_183 hl ?o34 rfl (fun ls hl => ?_)
              case o34 => decide
              refine lv_ldcw (v := 1000000000) hx hb hown (hts _ kw_1678) dX10_plan_185 ?_
              refine lv_istore (lv' := [(5, .int (1000000000 : Int32)), (4, .int (1000000000 : Int32)), (3, .int r_27), (0, .ref x), (1, .int i1), (2, .int i2)]) hx hb dX10_plan_188 hl ?o35 rfl (fun ls hl => ?_)
              case o35 => decide
              refine lv_aload_n hx hb dX10_plan_190 rfl (lv_at hl 3 rfl) ?_
              refine hk_geti hx hb hts hC_10 hown hW (gx.S hM) tt_10 75 ?o36 rfl kw_1218 ⟨rfl, rfl, rfl⟩ ffw27_x_75 dX10_plan_191 ?_
              case o36 => decide
              refine hb_if_le (zx := fw27_x_75.toInt) (tgt := 201) hx hb rfl dX10_plan_194 ?o37 (fun c_31 => ?o38) (fun c_31 => ?_)
              case o37 => decide
              case o38 =>
                exfalso
                omega
              refine lv_iconst (v := 1) hx hb dX10_plan_197 ?o39 ?_
              case o39 => decide
              refine lv_goto (tgt := 202) hx hb dX10_plan_198 ?o40 ?_
              case o40 => decide
              obtain ⟨fa_32, nfa_32⟩ : ∃ g : Nat → Int32, h_26.2.1 zbm = g := ⟨_, rfl⟩
              have hm12 : hx_m12 ia27_zmo := (fun k hk => by have q := hT.ei (gzmo.S hM) tt_105 (k := k) hk; rw [nia27_zmo] at q; exact q)
              have hvb := hx_V_b hm12
              refine lv_istore (lv' := [(6, .int (1 : Int32)), (5, .int (1000000000 : Int32)), (4, .int (1000000000 : Int32)), (3, .int r_27), (0, .ref x), (1, .int i1), (2, .int i2)]) hx hb dX10_plan_202 hl ?o41 rfl (fun ls hl => ?_)
              case o41 => decide
              have loop204 : ∀ (n204 : Nat) (iv204_4 iv204_5 iv204_6 : Int32) (ia204_zmo ia204_zbm : Nat → Int32) (H : Heap) (locs : List Loc) (hL1 : List Nat) (hl1 : hx_h), -2147483648 ≤ iv204_4.toInt → iv204_4.toInt ≤ 2147483647 → -2147483648 ≤ iv204_5.toInt → iv204_5.toInt ≤ 2147483647 → 0 ≤ iv204_6.toInt → iv204_6.toInt ≤ 1 → (hp_OD aF9 rF9 i2.toInt r_27.toInt fw27_x_75.toInt.toNat iv204_4.toInt iv204_5.toInt iv204_6.toInt ia204_zmo ia204_zbm) → (hx_m12 ia204_zmo) → ∀ (ls : Array Slot), (iv204_6.toInt = 0 ∧ 0 < (n204 : Int)) ∨ 28562 - hx_V ia204_zmo < (n204 : Int) → hx_W T_tb (P_ty dA) (dC, dI) vwCl (hx_A L sz) s.heap hL1 hl1 s H locs → hx_T T_tb hL1 hl1 → hx_S T_tb [(10, 67), (10, 68), (10, 69), (10, 70), (10, 71), (10, 72), (10, 75), (100, 0), (101, 0), (102, 0), (103, 0), (104, 0), (105, 0), (106, 0), (107, 0)] L h hL1 hl1 → hl1.2.1 x 72 = td0 → hl1.2.1 x 75 = fw27_x_75 → hl1.2.1 zmo = ia204_zmo → hl1.2.1 zbm = ia204_zbm → hl1.2.1 zpc = clf → hl1.2.1 zpw = wlf → hl1.2.1 zpk = wsf → hl1.2.1 zfo = ia27_zfo → hl1.2.1 zre = ia27_zre → hl1.2.1 zle = ia27_zle → lv_has ls 12 [(6, .int iv204_6), (5, .int iv204_5), (4, .int iv204_4), (3, .int r_27), (0, .ref x), (1, .int i1), (2, .int i2)] → W p l e ({ frames := 3, cells := 0, slots := 0, locals := 71 }) s m ([.ref x, .int i1, .int i2] : List Value).toArray below meth c H locs 0 0 (MQ below (va_Qi (fun (r : Int32) (u : List Nat × hx_h) => (∃ (td1 : Int32) (clf1 : Nat → Int32) (wlf1 : Nat → Int32) (wsf1 : Nat → Int32), u.2.2.1 x 72 = td1 ∧ u.2.2.1 zpc = clf1 ∧ u.2.2.1 zpw = wlf1 ∧ u.2.2.1 zpk = wsf1 ∧ (hp_PS ((0 ≤ i1.toInt ∧ i1.toInt < pn0.toInt) ∧ 1 ≤ i2.toInt ∧ i2.toInt ≤ 99) (hp_ol agf (hz_Rn odf szf gdf owf svf (hz_rc A plf) pof pdf psm pkf pst nw0.toInt n0.toInt.toNat) i1.toInt c0.toInt.toNat).length (hp_ge (hp_ol agf (hz_Rn odf szf gdf owf svf (hz_rc A plf) pof pdf psm pkf pst nw0.toInt n0.toInt.toNat) i1.toInt c0.toInt.toNat)) (fun c9 => hz_mi ((fun c9 => (A (plf c9).toInt.toNat).2.1 2) (hp_ge (hp_ol agf (hz_Rn odf szf gdf owf svf (hz_rc A plf) pof pdf psm pkf pst nw0.toInt n0.toInt.toNat) i1.toInt c0.toInt.toNat) c9)) ((hz_Rn odf szf gdf owf svf (hz_rc A plf) pof pdf psm pkf pst nw0.toInt n0.toInt.toNat) (hp_ge (hp_ol agf (hz_Rn odf szf gdf owf svf (hz_rc A plf) pof pdf psm pkf pst nw0.toInt n0.toInt.toNat) i1.toInt c0.toInt.toNat) c9))) (fun c9 => (hz_Rn odf szf gdf owf svf (hz_rc A plf) pof pdf psm pkf pst nw0.toInt n0.toInt.toNat) (hp_ge (hp_ol agf (hz_Rn odf szf gdf owf svf (hz_rc A plf) pof pdf psm pkf pst nw0.toInt n0.toInt.toNat) i1.toInt c0.toInt.toNat) c9)) i2.toInt ((eaf i1.toInt.toNat).toInt - (A (hv_IF A nw0.toInt a0.toInt.toNat)).2.1 3 * (hdf i1.toInt.toNat).toInt) r.toInt td0.toInt td1.toInt clf clf1 wlf wlf1 wsf wsf1)) ∧ hx_T T_tb u.1 u.2 ∧ hx_S T_tb [(10, 67), (10, 68), (10, 69), (10, 70), (10, 71), (10, 72), (10, 75), (100, 0), (101, 0), (102, 0), (103, 0), (104, 0), (105, 0), (106, 0), (107, 0)] L h u.1 u.2) (hx_E T_tb (P_ty dA) (dC, dI) vwCl (hx_A L sz)) (hx_A L sz)) ([.ref x, .int i1, .int i2] : List Value).toArray s 0 0 (hx_A L sz)) (F0 m 204 ls []) := by
                intro n204
                induction n204 with
                | zero => intro iv204_4 iv204_5 iv204_6 ia204_zmo ia204_zbm H locs hL1 hl1 bliv204_4 buiv204_4 bliv204_5 buiv204_5 bliv204_6 buiv204_6 vi204_0 vi204_1 ls hn204; exfalso; have hvbz := hx_V_b vi204_1; omega
                | succ n204 ih204 =>
                  intro iv204_4 iv204_5 iv204_6 ia204_zmo ia204_zbm H locs hL1 hl1 bliv204_4 buiv204_4 bliv204_5 buiv204_5 bliv204_6 buiv204_6 vi204_0 vi204_1 ls hn204 hW hT hM f_x_72 ffw27_x_75 nia204_zmo nia204_zbm af_zpc af_zpw af_zpk nia27_zfo nia27_zre nia27_zle hl
                  refine lv_iload hx hb dX10_plan_204 (lv_at hl 0 rfl) ?_
                  have hvb0 := hx_V_b vi204_1
                  refine hb_if_eq (zx := iv204_6.toInt) (tgt := 434) hx hb rfl dX10_plan_206 ?o42 (fun c_33 => ?_) (fun c_33 => ?_)
                  case o42 => decide
                  · skip
                    have hE9 : hp_SM (hp_B9 aF9 rF9 i2.toInt r_27.toInt fw27_x_75.toInt.toNat) iv204_4.toInt iv204_5.toInt ia204_zbm fw27_x_75.toInt.toNat := hp_OD_e (by have h9 := vi204_0; rw [show iv204_6.toInt = 0 by omega] at h9; exact h9)
                    refine lv_iload hx hb dX10_plan_434 (lv_at hl 2 rfl) ?_
                    refine lv_ldcw (v := 1000000000) hx hb hown (hts _ kw_1678) dX10_plan_436 ?_
                    refine hb_icmp_ne (zx := iv204_4.toInt) (zy := 1000000000) (tgt := 445) hx hb rfl ?o43 dX10_plan_439 ?o44 (fun c_34 => ?_) (fun c_34 => ?_)
                    case o43 => decide
                    case o44 => decide
                    · skip
                      obtain ⟨bB9, ebB9⟩ : ∃ z : hp_S, z = (hp_B9 aF9 rF9 i2.toInt (if fw27_x_75.toInt.toNat = 0 then 0 else r_27.toInt) fw27_x_75.toInt.toNat) := ⟨_, rfl⟩
                      have hfe9 : hq_P (¬ (0 < fw27_x_75.toInt.toNat ∧ r_27.toInt < hp_s aF9 fw27_x_75.toInt.toNat)) := fun z9 => by have h9 := hE9.1; rw [hp_no (by omega) z9.2] at h9; have h8 : (1000000000 : Int) = iv204_4.toInt := h9; omega
                      have heB9 : bB9 = hp_B9 aF9 rF9 i2.toInt r_27.toInt fw27_x_75.toInt.toNat := ?o45
                      case o45 => rw [ebB9, if_neg (by omega)]
                      have hB9 : bB9.1 = iv204_4.toInt := ?o46
                      case o46 =>
                        rw [heB9]
                        exact hE9.1
                      have hlt9 : iv204_4.toInt ≤ 609999 := ?o47
                      case o47 =>
                        rw [← hE9.1]
                        refine hp_some (Decidable.byContradiction (fun z9 => hq_o hfe9 ⟨?o48, ?o49⟩)) (fun i hi => by rw [← hlr9 i hi]; exact (hre9 i hi).2)
                        case o48 => omega
                        case o49 => omega
                      have hbm9 : ∀ i : Nat, i < fw27_x_75.toInt.toNat → (ia204_zbm i).toInt = bB9.2.2 i := fun i hi => by rw [heB9]; exact hE9.2.2 (by omega) i hi
                      refine lv_aload_n hx hb dX10_plan_445 rfl (lv_at hl 4 rfl) ?_
                      refine lv_aload_n hx hb dX10_plan_446 rfl (lv_at hl 4 rfl) ?_
                      refine hk_geti hx hb hts hC_10 hown hW (gx.S hM) tt_10 75 ?o50 rfl kw_1218 ⟨rfl, rfl, rfl⟩ ffw27_x_75 dX10_plan_447 ?_
                      case o50 => decide
                      refine hx_puti hx hb hts hC_10 hown hW hT (hx_S.rf (M := [(10, 72)])) (gx.S hM) tt_10 72 ?o51 rfl kw_1215 ⟨rfl, rfl, rfl⟩ rfl (x := fw27_x_75) ⟨?o52, ?o53⟩ rfl rfl rfl (List.mem_singleton.mpr rfl) dX10_plan_450 (fun H locs h_35 eh_35 hW hT hs => ?_)
                      case o51 => decide
                      case o52 => omega
                      case o53 => omega
                      replace ffw27_x_75 := (hs.o (gx.S hM) trivial rfl).1.trans ffw27_x_75
                      replace af_zpc : h_35.2.1 zpc = clf := (funext fun j => (hs.a (gzpc.S hM) rfl j).1).trans af_zpc
                      replace af_zpw : h_35.2.1 zpw = wlf := (funext fun j => (hs.a (gzpw.S hM) rfl j).1).trans af_zpw
                      replace af_zpk : h_35.2.1 zpk = wsf := (funext fun j => (hs.a (gzpk.S hM) rfl j).1).trans af_zpk
                      replace nia27_zfo : h_35.2.1 zfo = ia27_zfo := (funext fun j => (hs.a (gzfo.S hM) rfl j).1).trans nia27_zfo
                      replace nia27_zre : h_35.2.1 zre = ia27_zre := (funext fun j => (hs.a (gzre.S hM) rfl j).1).trans nia27_zre
                      replace nia27_zle : h_35.2.1 zle = ia27_zle := (funext fun j => (hs.a (gzle.S hM) rfl j).1).trans nia27_zle
                      replace nia204_zmo : h_35.2.1 zmo = ia204_zmo := (funext fun j => (hs.a (gzmo.S hM) rfl j).1).trans nia204_zmo
                      replace nia204_zbm : h_35.2.1 zbm = ia204_zbm := (funext fun j => (hs.a (gzbm.S hM) rfl j).1).trans nia204_zbm
                      replace hM := hM.tr (hs.mono ?o54)
                      case o54 => decide
                      have f_36 : h_35.2.1 x 72 = fw27_x_75 := ?o55
                      case o55 =>
                        rw [eh_35]
                        exact hx_pi_at _ _ _ _
                      refine lv_iconst (v := 0) hx hb dX10_plan_453 ?o56 ?_
                      case o56 => decide
                      refine lv_istore (lv' := [(7, .int (0 : Int32)), (6, .int iv204_6), (5, .int iv204_5), (4, .int iv204_4), (3, .int r_27), (0, .ref x), (1, .int i1), (2, .int i2)]) hx hb dX10_plan_454 hl ?o57 rfl (fun ls hl => ?_)
                      case o57 => decide
                      have loop456 : ∀ (n456 : Nat) (iv456_7 : Int32) (ia456_zpc ia456_zpw ia456_zpk : Nat → Int32) (H : Heap) (locs : List Loc) (hL1 : List Nat) (hl1 : hx_h), 0 ≤ iv456_7.toInt → iv456_7.toInt ≤ 4 → (∀ c9 : Nat, (c9 : Int) < iv456_7.toInt → (ia456_zpc c9).toInt = ((hp_ge lM9 c9 : Nat) : Int)) → (∀ c9 : Nat, (c9 : Int) < iv456_7.toInt → (ia456_zpw c9).toInt = hp_w aF9 i2.toInt bB9.2.2 c9) → (∀ c9 : Nat, (c9 : Int) < iv456_7.toInt → (ia456_zpk c9).toInt = hz_ru (rF9 c9) (hp_w aF9 i2.toInt bB9.2.2 c9)) → (iv456_7.toInt ≤ fw27_x_75.toInt) → ∀ (ls : Array Slot), 4 - iv456_7.toInt < (n456 : Int) → hx_W T_tb (P_ty dA) (dC, dI) vwCl (hx_A L sz) s.heap hL1 hl1 s H locs → hx_T T_tb hL1 hl1 → hx_S T_tb [(10, 67), (10, 68), (10, 69), (10, 70), (10, 71), (10, 72), (10, 75), (100, 0), (101, 0), (102, 0), (103, 0), (104, 0), (105, 0), (106, 0), (107, 0)] L h hL1 hl1 → hl1.2.1 x 75 = fw27_x_75 → hl1.2.1 x 72 = fw27_x_75 → hl1.2.1 zpc = ia456_zpc → hl1.2.1 zpw = ia456_zpw → hl1.2.1 zpk = ia456_zpk → hl1.2.1 zfo = ia27_zfo → hl1.2.1 zre = ia27_zre → hl1.2.1 zle = ia27_zle → hl1.2.1 zmo = ia204_zmo → hl1.2.1 zbm = ia204_zbm → lv_has ls 12 [(7, .int iv456_7), (6, .int iv204_6), (5, .int iv204_5), (4, .int iv204_4), (3, .int r_27), (0, .ref x), (1, .int i1), (2, .int i2)] → W p l e ({ frames := 3, cells := 0, slots := 0, locals := 71 }) s m ([.ref x, .int i1, .int i2] : List Value).toArray below meth c H locs 0 0 (MQ below (va_Qi (fun (r : Int32) (u : List Nat × hx_h) => (∃ (td1 : Int32) (clf1 : Nat → Int32) (wlf1 : Nat → Int32) (wsf1 : Nat → Int32), u.2.2.1 x 72 = td1 ∧ u.2.2.1 zpc = clf1 ∧ u.2.2.1 zpw = wlf1 ∧ u.2.2.1 zpk = wsf1 ∧ (hp_PS ((0 ≤ i1.toInt ∧ i1.toInt < pn0.toInt) ∧ 1 ≤ i2.toInt ∧ i2.toInt ≤ 99) (hp_ol agf (hz_Rn odf szf gdf owf svf (hz_rc A plf) pof pdf psm pkf pst nw0.toInt n0.toInt.toNat) i1.toInt c0.toInt.toNat).length (hp_ge (hp_ol agf (hz_Rn odf szf gdf owf svf (hz_rc A plf) pof pdf psm pkf pst nw0.toInt n0.toInt.toNat) i1.toInt c0.toInt.toNat)) (fun c9 => hz_mi ((fun c9 => (A (plf c9).toInt.toNat).2.1 2) (hp_ge (hp_ol agf (hz_Rn odf szf gdf owf svf (hz_rc A plf) pof pdf psm pkf pst nw0.toInt n0.toInt.toNat) i1.toInt c0.toInt.toNat) c9)) ((hz_Rn odf szf gdf owf svf (hz_rc A plf) pof pdf psm pkf pst nw0.toInt n0.toInt.toNat) (hp_ge (hp_ol agf (hz_Rn odf szf gdf owf svf (hz_rc A plf) pof pdf psm pkf pst nw0.toInt n0.toInt.toNat) i1.toInt c0.toInt.toNat) c9))) (fun c9 => (hz_Rn odf szf gdf owf svf (hz_rc A plf) pof pdf psm pkf pst nw0.toInt n0.toInt.toNat) (hp_ge (hp_ol agf (hz_Rn odf szf gdf owf svf (hz_rc A plf) pof pdf psm pkf pst nw0.toInt n0.toInt.toNat) i1.toInt c0.toInt.toNat) c9)) i2.toInt ((eaf i1.toInt.toNat).toInt - (A (hv_IF A nw0.toInt a0.toInt.toNat)).2.1 3 * (hdf i1.toInt.toNat).toInt) r.toInt td0.toInt td1.toInt clf clf1 wlf wlf1 wsf wsf1)) ∧ hx_T T_tb u.1 u.2 ∧ hx_S T_tb [(10, 67), (10, 68), (10, 69), (10, 70), (10, 71), (10, 72), (10, 75), (100, 0), (101, 0), (102, 0), (103, 0), (104, 0), (105, 0), (106, 0), (107, 0)] L h u.1 u.2) (hx_E T_tb (P_ty dA) (dC, dI) vwCl (hx_A L sz)) (hx_A L sz)) ([.ref x, .int i1, .int i2] : List Value).toArray s 0 0 (hx_A L sz)) (F0 m 456 ls []) := by
                        intro n456
                        induction n456 with
                        | zero => intro iv456_7 ia456_zpc ia456_zpw ia456_zpk H locs hL1 hl1 bliv456_7 buiv456_7 vi456_0 vi456_1 vi456_2 vi456_3 ls hn456; exfalso; omega
                        | succ n456 ih456 =>
                          intro iv456_7 ia456_zpc ia456_zpw ia456_zpk H locs hL1 hl1 bliv456_7 buiv456_7 vi456_0 vi456_1 vi456_2 vi456_3 ls hn456 hW hT hM ffw27_x_75 f_36 nia456_zpc nia456_zpw nia456_zpk nia27_zfo nia27_zre nia27_zle nia204_zmo nia204_zbm hl
                          have hin9 : ((iv456_7.toInt.toNat : Nat) : Int) = iv456_7.toInt := Int.toNat_of_nonneg ?o58
                          case o58 => omega
                          refine lv_iload hx hb dX10_plan_456 (lv_at hl 0 rfl) ?_
                          refine lv_aload_n hx hb dX10_plan_458 rfl (lv_at hl 5 rfl) ?_
                          refine hk_geti hx hb hts hC_10 hown hW (gx.S hM) tt_10 75 ?o59 rfl kw_1218 ⟨rfl, rfl, rfl⟩ ffw27_x_75 dX10_plan_459 ?_
                          case o59 => decide
                          refine hb_icmp_ge (zx := iv456_7.toInt) (zy := fw27_x_75.toInt) (tgt := 530) hx hb rfl rfl dX10_plan_462 ?o60 (fun c_37 => ?_) (fun c_37 => ?_)
                          case o60 => decide
                          · skip
                            refine lv_iload hx hb dX10_plan_530 (lv_at hl 3 rfl) ?_
                            refine hx_reti hx hb hr hlk hW ⟨⟨fw27_x_75, ia456_zpc, ia456_zpw, ia456_zpk, f_36, nia456_zpc, nia456_zpw, nia456_zpk, (hp_PS_f (F := fun l9 c9 => hz_mi ((fun c9 => (A (plf c9).toInt.toNat).2.1 2) (hp_ge l9 c9)) ((hz_Rn odf szf gdf owf svf (hz_rc A plf) pof pdf psm pkf pst nw0.toInt n0.toInt.toNat) (hp_ge l9 c9))) (G := fun l9 c9 => (hz_Rn odf szf gdf owf svf (hz_rc A plf) pof pdf psm pkf pst nw0.toInt n0.toInt.toNat) (hp_ge l9 c9)) eLM9 eaF9 erF9 hnl9 hme9 ebB9 ⟨⟨?o61, ?o62⟩, ?o63, ?o64⟩ ?o65 (hq_o hfe9) hB9.symm ?o66 (fun i hi => ⟨vi456_0 i ?o67, vi456_1 i ?o68, vi456_2 i ?o69⟩))⟩, hT, hM⟩ dX10_plan_532
                            case o61 => omega
                            case o62 => omega
                            case o63 => omega
                            case o64 => omega
                            case o65 => omega
                            case o66 => omega
                            case o67 => omega
                            case o68 => omega
                            case o69 => omega
                          · skip
                            refine lv_aload_n hx hb dX10_plan_465 rfl (lv_at hl 5 rfl) ?_
                            refine hk_getr hx hb hts hC_10 hown hW (gx.S hM) tt_10 73 ?o70 rfl kw_1216 ⟨rfl, rfl, rfl⟩ ((hM.o gx trivial rfl).2.trans f_x_73) dX10_plan_466 ?_
                            case o70 => decide
                            refine lv_iload hx hb dX10_plan_469 (lv_at hl 0 rfl) ?_
                            refine lv_aload_n hx hb dX10_plan_471 rfl (lv_at hl 5 rfl) ?_
                            refine hk_getr hx hb hts hC_10 hown hW (gx.S hM) tt_10 76 ?o71 rfl kw_1219 ⟨rfl, rfl, rfl⟩ ((hM.o gx trivial rfl).2.trans f_x_76) dX10_plan_472 ?_
                            case o71 => decide
                            refine lv_iload hx hb dX10_plan_475 (lv_at hl 0 rfl) ?_
                            refine hx_iald hx hb hW hT (gzfo.S hM) tt_102 rfl ⟨?o72, ?o73⟩ dX10_plan_477 (fun x_38 ex_38 lx_38 ux_38 => ?_)
                            case o72 => omega
                            case o73 => omega
                            have ax_38 : x_38 = ia27_zfo iv456_7.toNatClampNeg := ex_38.trans (congrFun nia27_zfo _)
                            have hcv9 : x_38.toInt = ((hp_ge lM9 iv456_7.toInt.toNat : Nat) : Int) := ?o74
                            case o74 =>
                              rw [ax_38]
                              exact (hoq9 _ (by unfold Int32.toNatClampNeg; omega)).1
                            have nia456_zpcO := nia456_zpc
                            refine hx_iast hx hb hW hT (hx_S.rf (M := [(100, 0)])) (gzpc.S hM) tt_100 rfl ⟨?o75, ?o76⟩ rfl (i32_r _) (List.mem_singleton.mpr rfl) dX10_plan_478 (fun H locs h_39 eh_39 hW hT hs => ?_)
                            case o75 => omega
                            case o76 => omega
                            replace ffw27_x_75 := (hs.o (gx.S hM) trivial rfl).1.trans ffw27_x_75
                            replace f_36 := (hs.o (gx.S hM) trivial rfl).1.trans f_36
                            replace nia27_zfo : h_39.2.1 zfo = ia27_zfo := (funext fun j => (hs.a (gzfo.S hM) rfl j).1).trans nia27_zfo
                            replace nia27_zre : h_39.2.1 zre = ia27_zre := (funext fun j => (hs.a (gzre.S hM) rfl j).1).trans nia27_zre
                            replace nia27_zle : h_39.2.1 zle = ia27_zle := (funext fun j => (hs.a (gzle.S hM) rfl j).1).trans nia27_zle
                            replace nia204_zmo : h_39.2.1 zmo = ia204_zmo := (funext fun j => (hs.a (gzmo.S hM) rfl j).1).trans nia204_zmo
                            replace nia204_zbm : h_39.2.1 zbm = ia204_zbm := (funext fun j => (hs.a (gzbm.S hM) rfl j).1).trans nia204_zbm
                            replace nia456_zpw : h_39.2.1 zpw = ia456_zpw := (funext fun j => (hs.a (gzpw.S hM) rfl j).1).trans nia456_zpw
                            replace nia456_zpk : h_39.2.1 zpk = ia456_zpk := (funext fun j => (hs.a (gzpk.S hM) rfl j).1).trans nia456_zpk
                            replace ex_38 := ex_38.trans (hs.a (gzfo.S hM) rfl _).1.symm
                            replace hM := hM.tr (hs.mono ?o77)
                            case o77 => decide
                            obtain ⟨fa_40, dfa_40⟩ : ∃ g : Nat → Int32, g = hx_up ia456_zpc iv456_7.toNatClampNeg x_38 := ⟨_, rfl⟩
                            have nfa_40 : h_39.2.1 zpc = fa_40 := ?o78
                            case o78 =>
                              rw [eh_39, dfa_40, ← nia456_zpcO]
                              exact hx_pi_fun _ _ _ _
                            refine lv_aload_n hx hb dX10_plan_479 rfl (lv_at hl 5 rfl) ?_
                            refine hk_getr hx hb hts hC_10 hown hW (gx.S hM) tt_10 74 ?o79 rfl kw_1217 ⟨rfl, rfl, rfl⟩ ((hM.o gx trivial rfl).2.trans f_x_74) dX10_plan_480 ?_
                            case o79 => decide
                            refine lv_iload hx hb dX10_plan_483 (lv_at hl 0 rfl) ?_
                            refine lv_aload_n hx hb dX10_plan_485 rfl (lv_at hl 5 rfl) ?_
                            refine hk_getr hx hb hts hC_10 hown hW (gx.S hM) tt_10 78 ?o80 rfl kw_1221 ⟨rfl, rfl, rfl⟩ ((hM.o gx trivial rfl).2.trans f_x_78) dX10_plan_486 ?_
                            case o80 => decide
                            refine lv_iload hx hb dX10_plan_489 (lv_at hl 0 rfl) ?_
                            refine hx_iald hx hb hW hT (gzle.S hM) tt_104 rfl ⟨?o81, ?o82⟩ dX10_plan_491 (fun x_41 ex_41 lx_41 ux_41 => ?_)
                            case o81 => omega
                            case o82 => omega
                            have ax_41 : x_41 = ia27_zle iv456_7.toNatClampNeg := ex_41.trans (congrFun nia27_zle _)
                            have hlv9 : x_41.toInt = aF9 iv456_7.toInt.toNat := ?o83
                            case o83 =>
                              rw [ax_41]
                              exact hla9 _ (by unfold Int32.toNatClampNeg; omega)
                            have hlb9 := hle9 iv456_7.toInt.toNat (by omega); rw [hla9 _ (by omega), ← hlv9] at hlb9
                            refine lv_aload_n hx hb dX10_plan_492 rfl (lv_at hl 5 rfl) ?_
                            refine hk_getr hx hb hts hC_10 hown hW (gx.S hM) tt_10 80 ?o84 rfl kw_1223 ⟨rfl, rfl, rfl⟩ ((hM.o gx trivial rfl).2.trans f_x_80) dX10_plan_493 ?_
                            case o84 => decide
                            refine lv_iload hx hb dX10_plan_496 (lv_at hl 0 rfl) ?_
                            refine hx_iald hx hb hW hT (gzbm.S hM) tt_106 rfl ⟨?o85, ?o86⟩ dX10_plan_498 (fun x_42 ex_42 lx_42 ux_42 => ?_)
                            case o85 => omega
                            case o86 => omega
                            have ax_42 : x_42 = ia204_zbm iv456_7.toNatClampNeg := ex_42.trans (congrFun nia204_zbm _)
                            have hbv9 : x_42.toInt = bB9.2.2 iv456_7.toInt.toNat := ?o87
                            case o87 =>
                              rw [ax_42]
                              exact hbm9 _ (by unfold Int32.toNatClampNeg; omega)
                            refine lv_iload_n hx hb dX10_plan_499 rfl (lv_at hl 7 rfl) ?_
                            refine lv_imul hx hb dX10_plan_500 ?_
                            refine lv_topi (fun x_43 ex_43 => ?_)
                            have mx_43 : x_42.toInt = 0 → x_43.toInt = 0 := fun z => by rw [ex_43]; exact hx_mul0 z
                            clear mx_43
                            obtain ⟨m9, m9l, m9h⟩ := hp_mul ⟨by omega, by omega⟩ ⟨by omega, by omega⟩ ex_43
                            refine lv_iadd hx hb dX10_plan_501 ?_
                            have rg_44 := i32_r x_41
                            have rg_45 := i32_r x_43
                            refine lv_topi (fun x_46 ex_46 => ?_)
                            have zx_46 : x_46.toInt = x_41.toInt + x_43.toInt := ?o88
                            case o88 =>
                              rw [ex_46]
                              refine i32_add rfl rfl ?o89 ?o90
                              case o89 => omega
                              case o90 => omega
                            have hwv9 : hq_P (x_46.toInt = hp_w aF9 i2.toInt bB9.2.2 iv456_7.toInt.toNat) := ?o91
                            case o91 =>
                              show _ = aF9 iv456_7.toInt.toNat + bB9.2.2 iv456_7.toInt.toNat * i2.toInt
                              rw [← hlv9, ← hbv9, ← m9]
                              omega
                            have nia456_zpwO := nia456_zpw
                            refine hx_iast hx hb hW hT (hx_S.rf (M := [(101, 0)])) (gzpw.S hM) tt_101 rfl ⟨?o92, ?o93⟩ rfl (i32_r _) (List.mem_singleton.mpr rfl) dX10_plan_502 (fun H locs h_47 eh_47 hW hT hs => ?_)
                            case o92 => omega
                            case o93 => omega
                            replace ffw27_x_75 := (hs.o (gx.S hM) trivial rfl).1.trans ffw27_x_75
                            replace f_36 := (hs.o (gx.S hM) trivial rfl).1.trans f_36
                            replace nia27_zfo : h_47.2.1 zfo = ia27_zfo := (funext fun j => (hs.a (gzfo.S hM) rfl j).1).trans nia27_zfo
                            replace nia27_zre : h_47.2.1 zre = ia27_zre := (funext fun j => (hs.a (gzre.S hM) rfl j).1).trans nia27_zre
                            replace nia27_zle : h_47.2.1 zle = ia27_zle := (funext fun j => (hs.a (gzle.S hM) rfl j).1).trans nia27_zle
                            replace nia204_zmo : h_47.2.1 zmo = ia204_zmo := (funext fun j => (hs.a (gzmo.S hM) rfl j).1).trans nia204_zmo
                            replace nia204_zbm : h_47.2.1 zbm = ia204_zbm := (funext fun j => (hs.a (gzbm.S hM) rfl j).1).trans nia204_zbm
                            replace nia456_zpk : h_47.2.1 zpk = ia456_zpk := (funext fun j => (hs.a (gzpk.S hM) rfl j).1).trans nia456_zpk
                            replace nfa_40 : h_47.2.1 zpc = fa_40 := (funext fun j => (hs.a (gzpc.S hM) rfl j).1).trans nfa_40
                            replace ex_38 := ex_38.trans (hs.a (gzfo.S hM) rfl _).1.symm
                            replace ex_41 := ex_41.trans (hs.a (gzle.S hM) rfl _).1.symm
                            replace ex_42 := ex_42.trans (hs.a (gzbm.S hM) rfl _).1.symm
                            replace hM := hM.tr (hs.mono ?o94)
                            case o94 => decide
                            obtain ⟨fa_48, dfa_48⟩ : ∃ g : Nat → Int32, g = hx_up ia456_zpw iv456_7.toNatClampNeg x_46 := ⟨_, rfl⟩
                            have nfa_48 : h_47.2.1 zpw = fa_48 := ?o95
                            case o95 =>
                              rw [eh_47, dfa_48, ← nia456_zpwO]
                              exact hx_pi_fun _ _ _ _
                            refine lv_aload_n hx hb dX10_plan_503 rfl (lv_at hl 5 rfl) ?_
                            refine hk_getr hx hb hts hC_10 hown hW (gx.S hM) tt_10 81 ?o96 rfl kw_1224 ⟨rfl, rfl, rfl⟩ ((hM.o gx trivial rfl).2.trans f_x_81) dX10_plan_504 ?_
                            case o96 => decide
                            refine lv_iload hx hb dX10_plan_507 (lv_at hl 0 rfl) ?_
                            refine lv_aload_n hx hb dX10_plan_509 rfl (lv_at hl 5 rfl) ?_
                            refine lv_iload hx hb dX10_plan_510 (lv_at hl 0 rfl) ?_
                            refine lv_aload_n hx hb dX10_plan_512 rfl (lv_at hl 5 rfl) ?_
                            refine hk_getr hx hb hts hC_10 hown hW (gx.S hM) tt_10 80 ?o97 rfl kw_1223 ⟨rfl, rfl, rfl⟩ ((hM.o gx trivial rfl).2.trans f_x_80) dX10_plan_513 ?_
                            case o97 => decide
                            refine lv_iload hx hb dX10_plan_516 (lv_at hl 0 rfl) ?_
                            refine hx_iald hx hb hW hT (gzbm.S hM) tt_106 rfl ⟨?o98, ?o99⟩ dX10_plan_518 (fun x_49 ex_49 lx_49 ux_49 => ?_)
                            case o98 => omega
                            case o99 => omega
                            have ax_49 : x_49 = ia204_zbm iv456_7.toNatClampNeg := ex_49.trans (congrFun nia204_zbm _)
                            obtain rfl : x_42 = x_49 := ex_42.trans ex_49.symm
                            refine lv_iload_n hx hb dX10_plan_519 rfl (lv_at hl 7 rfl) ?_
                            refine hx_goi (hx_runV (As := [.int iv456_7, .int x_42, .int i2]) (rest := [.int iv456_7, .ref zpk]) ⟨hx, hb, hml, hown, hts⟩ hW (gx.S hM) tt_10 (T := TX10) (N := 98) rfl (t_X10_weeksOf_v l dC dI dA hL1 h_47 H.size x iv456_7 x_42 i2 hT (gx.S hM) zre (gzre.S hM) ((hM.o gx trivial rfl).2.trans f_x_77) zle (gzle.S hM) ((hM.o gx trivial rfl).2.trans f_x_78) ia27_zre nia27_zre ia27_zle nia27_zle ⟨?o100, ?o101⟩ ⟨?o102, ?o103⟩ ⟨?o104, ?o105⟩ (hle9 _ ?o106) (hre9 _ ?o107)) (cwV 3 hts (hx_gV kw_1682 kw_1679 kw_1681 kw_85 kw_103) rfl rfl rfl (by decide +kernel) ⟨Nat.le_of_ble_eq_true rfl, Nat.le_of_ble_eq_true rfl⟩) rfl hl.1 rfl (Nat.le_of_ble_eq_true rfl) dX10_plan_520 ⟨Nat.le_of_ble_eq_true rfl, Nat.le_of_ble_eq_true rfl⟩) hW (fun r_52 L_50 h_51 H locs p_53 hW => ?_)
                            case o100 => omega
                            case o101 => omega
                            case o102 => omega
                            case o103 => omega
                            case o104 => omega
                            case o105 => omega
                            case o106 => omega
                            case o107 => omega
                            obtain ⟨hr_54, hT, hs⟩ := p_53
                            replace hT : hx_T T_tb L_50 h_51 := hT
                            replace hs : hx_S T_tb [] hL1 h_47 L_50 h_51 := hs
                            replace ffw27_x_75 := (hs.o (gx.S hM) trivial rfl).1.trans ffw27_x_75
                            replace f_36 := (hs.o (gx.S hM) trivial rfl).1.trans f_36
                            replace nia27_zfo : h_51.2.1 zfo = ia27_zfo := (funext fun j => (hs.a (gzfo.S hM) rfl j).1).trans nia27_zfo
                            replace nia27_zre : h_51.2.1 zre = ia27_zre := (funext fun j => (hs.a (gzre.S hM) rfl j).1).trans nia27_zre
                            replace nia27_zle : h_51.2.1 zle = ia27_zle := (funext fun j => (hs.a (gzle.S hM) rfl j).1).trans nia27_zle
                            replace nia204_zmo : h_51.2.1 zmo = ia204_zmo := (funext fun j => (hs.a (gzmo.S hM) rfl j).1).trans nia204_zmo
                            replace nia204_zbm : h_51.2.1 zbm = ia204_zbm := (funext fun j => (hs.a (gzbm.S hM) rfl j).1).trans nia204_zbm
                            replace nia456_zpk : h_51.2.1 zpk = ia456_zpk := (funext fun j => (hs.a (gzpk.S hM) rfl j).1).trans nia456_zpk
                            replace nfa_40 : h_51.2.1 zpc = fa_40 := (funext fun j => (hs.a (gzpc.S hM) rfl j).1).trans nfa_40
                            replace nfa_48 : h_51.2.1 zpw = fa_48 := (funext fun j => (hs.a (gzpw.S hM) rfl j).1).trans nfa_48
                            replace ex_38 := ex_38.trans (hs.a (gzfo.S hM) rfl _).1.symm
                            replace ex_41 := ex_41.trans (hs.a (gzle.S hM) rfl _).1.symm
                            replace ex_42 := ex_42.trans (hs.a (gzbm.S hM) rfl _).1.symm
                            replace hM := hM.tr (hs.mono ?o108)
                            case o108 => decide
                            have hpw9 : hq_P (r_52.toInt = hz_ru (rF9 iv456_7.toInt.toNat) (hp_w aF9 i2.toInt bB9.2.2 iv456_7.toInt.toNat)) := ?o109
                            case o109 =>
                              have h9 := hr_54.1
                              rw [hla9 _ (by omega), hlr9 _ (by omega), hbv9] at h9
                              exact h9
                            have nia456_zpkO := nia456_zpk
                            refine hx_iast hx hb hW hT (hx_S.rf (M := [(107, 0)])) (gzpk.S hM) tt_107 rfl ⟨?o110, ?o111⟩ rfl (i32_r _) (List.mem_singleton.mpr rfl) dX10_plan_523 (fun H locs h_55 eh_55 hW hT hs => ?_)
                            case o110 => omega
                            case o111 => omega
                            replace ffw27_x_75 := (hs.o (gx.S hM) trivial rfl).1.trans ffw27_x_75
                            replace f_36 := (hs.o (gx.S hM) trivial rfl).1.trans f_36
                            replace nia27_zfo : h_55.2.1 zfo = ia27_zfo := (funext fun j => (hs.a (gzfo.S hM) rfl j).1).trans nia27_zfo
                            replace nia27_zre : h_55.2.1 zre = ia27_zre := (funext fun j => (hs.a (gzre.S hM) rfl j).1).trans nia27_zre
                            replace nia27_zle : h_55.2.1 zle = ia27_zle := (funext fun j => (hs.a (gzle.S hM) rfl j).1).trans nia27_zle
                            replace nia204_zmo : h_55.2.1 zmo = ia204_zmo := (funext fun j => (hs.a (gzmo.S hM) rfl j).1).trans nia204_zmo
                            replace nia204_zbm : h_55.2.1 zbm = ia204_zbm := (funext fun j => (hs.a (gzbm.S hM) rfl j).1).trans nia204_zbm
                            replace nfa_40 : h_55.2.1 zpc = fa_40 := (funext fun j => (hs.a (gzpc.S hM) rfl j).1).trans nfa_40
                            replace nfa_48 : h_55.2.1 zpw = fa_48 := (funext fun j => (hs.a (gzpw.S hM) rfl j).1).trans nfa_48
                            replace ex_38 := ex_38.trans (hs.a (gzfo.S hM) rfl _).1.symm
                            replace ex_41 := ex_41.trans (hs.a (gzle.S hM) rfl _).1.symm
                            replace ex_42 := ex_42.trans (hs.a (gzbm.S hM) rfl _).1.symm
                            replace hM := hM.tr (hs.mono ?o112)
                            case o112 => decide
                            obtain ⟨fa_56, dfa_56⟩ : ∃ g : Nat → Int32, g = hx_up ia456_zpk iv456_7.toNatClampNeg r_52 := ⟨_, rfl⟩
                            have nfa_56 : h_55.2.1 zpk = fa_56 := ?o113
                            case o113 =>
                              rw [eh_55, dfa_56, ← nia456_zpkO]
                              exact hx_pi_fun _ _ _ _
                            obtain ⟨x_57, ex_57⟩ : ∃ y : Int32, y = iv456_7 + Int32.ofInt 1 := ⟨_, rfl⟩
                            have rg_58 := i32_r iv456_7
                            have zx_57 : x_57.toInt = iv456_7.toInt + (1) := ?o114
                            case o114 =>
                              rw [ex_57]
                              refine i32_add rfl ?o115 ?o116 ?o117
                              case o115 => decide
                              case o116 => omega
                              case o117 => omega
                            refine lv_iinc (v := x_57) (lv' := [(7, .int x_57), (6, .int iv204_6), (5, .int iv204_5), (4, .int iv204_4), (3, .int r_27), (0, .ref x), (1, .int i1), (2, .int i2)]) hx hb dX10_plan_524 hl (k := 0) rfl ex_57.symm ?o118 rfl (fun ls hl => ?_)
                            case o118 => decide
                            refine lv_goto (tgt := 456) hx hb dX10_plan_527 ?o119 ?_
                            case o119 => decide
                            refine ih456 x_57 fa_40 fa_48 fa_56 _ _ L_50 h_55 ?o120 ?o121 (hz_rs_s vi456_0 ?o122 (by unfold Int32.toNatClampNeg; omega) hcv9 dfa_40 zx_57) (hz_rs_s vi456_1 ?o123 (by unfold Int32.toNatClampNeg; omega) hwv9 dfa_48 zx_57) (hz_rs_s vi456_2 ?o124 (by unfold Int32.toNatClampNeg; omega) hpw9 dfa_56 zx_57) ?o125 ls ?o126 hW hT hM ffw27_x_75 f_36 nfa_40 nfa_48 nfa_56 nia27_zfo nia27_zre nia27_zle nia204_zmo nia204_zbm (lv_sub hl [0, 1, 2, 3, 4, 5, 6, 7] rfl)
                            case o120 => omega
                            case o121 => omega
                            case o122 => omega
                            case o123 => omega
                            case o124 => omega
                            case o125 => omega
                            case o126 => omega
                      have zk_0 : (0 : Int32).toInt = 0 := ?o127
                      case o127 => decide
                      refine loop456 5 (0 : Int32) clf wlf wsf _ _ hL1 h_35 ?o128 ?o129 (fun c9 hc9 => ?o130) (fun c9 hc9 => ?o131) (fun c9 hc9 => ?o132) ?o133 ls ?o134 hW hT hM ffw27_x_75 f_36 af_zpc af_zpw af_zpk nia27_zfo nia27_zre nia27_zle nia204_zmo nia204_zbm hl
                      case o128 => decide
                      case o129 => decide
                      case o130 =>
                        exfalso
                        omega
                      case o131 =>
                        exfalso
                        omega
                      case o132 =>
                        exfalso
                        omega
                      case o133 => omega
                      case o134 => omega
                    · skip
                      have hno9 : hq_P (r_27.toInt < hp_s aF9 fw27_x_75.toInt.toNat) := hq_i (Decidable.byContradiction (fun z9 => by have h9 := hp_some (a := aF9) (r := rF9) (u := i2.toInt) (M := r_27.toInt) (n := fw27_x_75.toInt.toNat) (by omega) (fun i hi => by rw [← hlr9 i hi]; exact (hre9 i hi).2); rw [hE9.1] at h9; omega))
                      refine lv_bipush (v := -2) hx hb dX10_plan_442 ?o135 ?_
                      case o135 => decide
                      refine hx_reti hx hb hr hlk hW ⟨⟨td0, clf, wlf, wsf, f_x_72, af_zpc, af_zpw, af_zpk, (hp_PS_t (F := fun l9 c9 => hz_mi ((fun c9 => (A (plf c9).toInt.toNat).2.1 2) (hp_ge l9 c9)) ((hz_Rn odf szf gdf owf svf (hz_rc A plf) pof pdf psm pkf pst nw0.toInt n0.toInt.toNat) (hp_ge l9 c9))) (G := fun l9 c9 => (hz_Rn odf szf gdf owf svf (hz_rc A plf) pof pdf psm pkf pst nw0.toInt n0.toInt.toNat) (hp_ge l9 c9)) eLM9 eaF9 erF9 hnl9 hme9 ⟨⟨?o136, ?o137⟩, ?o138, ?o139⟩ ?o140 ?o141 (hq_o hno9) ?o142 rfl rfl rfl rfl)⟩, hT, hM⟩ dX10_plan_444
                      case o136 => omega
                      case o137 => omega
                      case o138 => omega
                      case o139 => omega
                      case o140 => omega
                      case o141 => omega
                      case o142 => decide
                  · skip
                    replace c_33 : 1 ≤ iv204_6.toInt := ?o143
                    case o143 => omega
                    replace hn204 := hn204.resolve_left (fun z => by have z1 := z.1; omega)
                    obtain ⟨k9, hk9, hs9, hd9⟩ := id vi204_0
                    replace hd9 := hd9.resolve_right (fun z => by have := z.1; omega)
                    have hdg9 := hd9.2.2; have hkl9 := hq_i hd9.2.1; clear hd9 hk9
                    refine lv_iconst (v := 0) hx hb dX10_plan_209 ?o144 ?_
                    case o144 => decide
                    refine lv_istore (lv' := [(7, .int (0 : Int32)), (6, .int iv204_6), (5, .int iv204_5), (4, .int iv204_4), (3, .int r_27), (0, .ref x), (1, .int i1), (2, .int i2)]) hx hb dX10_plan_210 hl ?o145 rfl (fun ls hl => ?_)
                    case o145 => decide
                    refine lv_iconst (v := 0) hx hb dX10_plan_212 ?o146 ?_
                    case o146 => decide
                    refine lv_istore (lv' := [(8, .int (0 : Int32)), (7, .int (0 : Int32)), (6, .int iv204_6), (5, .int iv204_5), (4, .int iv204_4), (3, .int r_27), (0, .ref x), (1, .int i1), (2, .int i2)]) hx hb dX10_plan_213 hl ?o147 rfl (fun ls hl => ?_)
                    case o147 => decide
                    refine lv_iconst (v := 0) hx hb dX10_plan_215 ?o148 ?_
                    case o148 => decide
                    refine lv_istore (lv' := [(9, .int (0 : Int32)), (8, .int (0 : Int32)), (7, .int (0 : Int32)), (6, .int iv204_6), (5, .int iv204_5), (4, .int iv204_4), (3, .int r_27), (0, .ref x), (1, .int i1), (2, .int i2)]) hx hb dX10_plan_216 hl ?o149 rfl (fun ls hl => ?_)
                    case o149 => decide
                    refine lv_iconst (v := 0) hx hb dX10_plan_218 ?o150 ?_
                    case o150 => decide
                    refine lv_istore (lv' := [(10, .int (0 : Int32)), (9, .int (0 : Int32)), (8, .int (0 : Int32)), (7, .int (0 : Int32)), (6, .int iv204_6), (5, .int iv204_5), (4, .int iv204_4), (3, .int r_27), (0, .ref x), (1, .int i1), (2, .int i2)]) hx hb dX10_plan_219 hl ?o151 rfl (fun ls hl => ?_)
                    case o151 => decide
                    have loop221 : ∀ (n221 : Nat) (iv221_7 iv221_8 iv221_9 iv221_10 : Int32) (H : Heap) (locs : List Loc) (hL1 : List Nat) (hl1 : hx_h), 0 ≤ iv221_7.toInt → iv221_7.toInt ≤ 48000 → 0 ≤ iv221_8.toInt → iv221_8.toInt ≤ 609999 → 0 ≤ iv221_9.toInt → iv221_9.toInt ≤ 2439996 → 0 ≤ iv221_10.toInt → iv221_10.toInt ≤ 4 → (hq_P (iv221_7.toInt = hp_s (hp_w aF9 i2.toInt (fun c9 => (ia204_zmo c9).toInt)) (iv221_10.toInt).toNat)) → (hq_P (iv221_8.toInt = hp_m (hp_k aF9 rF9 i2.toInt (fun c9 => (ia204_zmo c9).toInt)) (iv221_10.toInt).toNat)) → (hq_P (iv221_9.toInt = hp_s (hp_k aF9 rF9 i2.toInt (fun c9 => (ia204_zmo c9).toInt)) (iv221_10.toInt).toNat)) → (iv221_10.toInt ≤ fw27_x_75.toInt) → (iv221_7.toInt ≤ 12000 * iv221_10.toInt) → (iv221_9.toInt ≤ 609999 * iv221_10.toInt) → ∀ (ls : Array Slot), 4 - iv221_10.toInt < (n221 : Int) → hx_W T_tb (P_ty dA) (dC, dI) vwCl (hx_A L sz) s.heap hL1 hl1 s H locs → hx_T T_tb hL1 hl1 → hx_S T_tb [(10, 67), (10, 68), (10, 69), (10, 70), (10, 71), (10, 72), (10, 75), (100, 0), (101, 0), (102, 0), (103, 0), (104, 0), (105, 0), (106, 0), (107, 0)] L h hL1 hl1 → hl1.2.1 x 72 = td0 → hl1.2.1 x 75 = fw27_x_75 → hl1.2.1 zpc = clf → hl1.2.1 zpw = wlf → hl1.2.1 zpk = wsf → hl1.2.1 zfo = ia27_zfo → hl1.2.1 zre = ia27_zre → hl1.2.1 zle = ia27_zle → hl1.2.1 zmo = ia204_zmo → hl1.2.1 zbm = ia204_zbm → lv_has ls 12 [(10, .int iv221_10), (9, .int iv221_9), (8, .int iv221_8), (7, .int iv221_7), (6, .int iv204_6), (5, .int iv204_5), (4, .int iv204_4), (3, .int r_27), (0, .ref x), (1, .int i1), (2, .int i2)] → W p l e ({ frames := 3, cells := 0, slots := 0, locals := 71 }) s m ([.ref x, .int i1, .int i2] : List Value).toArray below meth c H locs 0 0 (MQ below (va_Qi (fun (r : Int32) (u : List Nat × hx_h) => (∃ (td1 : Int32) (clf1 : Nat → Int32) (wlf1 : Nat → Int32) (wsf1 : Nat → Int32), u.2.2.1 x 72 = td1 ∧ u.2.2.1 zpc = clf1 ∧ u.2.2.1 zpw = wlf1 ∧ u.2.2.1 zpk = wsf1 ∧ (hp_PS ((0 ≤ i1.toInt ∧ i1.toInt < pn0.toInt) ∧ 1 ≤ i2.toInt ∧ i2.toInt ≤ 99) (hp_ol agf (hz_Rn odf szf gdf owf svf (hz_rc A plf) pof pdf psm pkf pst nw0.toInt n0.toInt.toNat) i1.toInt c0.toInt.toNat).length (hp_ge (hp_ol agf (hz_Rn odf szf gdf owf svf (hz_rc A plf) pof pdf psm pkf pst nw0.toInt n0.toInt.toNat) i1.toInt c0.toInt.toNat)) (fun c9 => hz_mi ((fun c9 => (A (plf c9).toInt.toNat).2.1 2) (hp_ge (hp_ol agf (hz_Rn odf szf gdf owf svf (hz_rc A plf) pof pdf psm pkf pst nw0.toInt n0.toInt.toNat) i1.toInt c0.toInt.toNat) c9)) ((hz_Rn odf szf gdf owf svf (hz_rc A plf) pof pdf psm pkf pst nw0.toInt n0.toInt.toNat) (hp_ge (hp_ol agf (hz_Rn odf szf gdf owf svf (hz_rc A plf) pof pdf psm pkf pst nw0.toInt n0.toInt.toNat) i1.toInt c0.toInt.toNat) c9))) (fun c9 => (hz_Rn odf szf gdf owf svf (hz_rc A plf) pof pdf psm pkf pst nw0.toInt n0.toInt.toNat) (hp_ge (hp_ol agf (hz_Rn odf szf gdf owf svf (hz_rc A plf) pof pdf psm pkf pst nw0.toInt n0.toInt.toNat) i1.toInt c0.toInt.toNat) c9)) i2.toInt ((eaf i1.toInt.toNat).toInt - (A (hv_IF A nw0.toInt a0.toInt.toNat)).2.1 3 * (hdf i1.toInt.toNat).toInt) r.toInt td0.toInt td1.toInt clf clf1 wlf wlf1 wsf wsf1)) ∧ hx_T T_tb u.1 u.2 ∧ hx_S T_tb [(10, 67), (10, 68), (10, 69), (10, 70), (10, 71), (10, 72), (10, 75), (100, 0), (101, 0), (102, 0), (103, 0), (104, 0), (105, 0), (106, 0), (107, 0)] L h u.1 u.2) (hx_E T_tb (P_ty dA) (dC, dI) vwCl (hx_A L sz)) (hx_A L sz)) ([.ref x, .int i1, .int i2] : List Value).toArray s 0 0 (hx_A L sz)) (F0 m 221 ls []) := by
                      intro n221
                      induction n221 with
                      | zero => intro iv221_7 iv221_8 iv221_9 iv221_10 H locs hL1 hl1 bliv221_7 buiv221_7 bliv221_8 buiv221_8 bliv221_9 buiv221_9 bliv221_10 buiv221_10 vi221_0 vi221_1 vi221_2 vi221_3 vi221_4 vi221_5 ls hn221; exfalso; omega
                      | succ n221 ih221 =>
                        intro iv221_7 iv221_8 iv221_9 iv221_10 H locs hL1 hl1 bliv221_7 buiv221_7 bliv221_8 buiv221_8 bliv221_9 buiv221_9 bliv221_10 buiv221_10 vi221_0 vi221_1 vi221_2 vi221_3 vi221_4 vi221_5 ls hn221 hW hT hM f_x_72 ffw27_x_75 af_zpc af_zpw af_zpk nia27_zfo nia27_zre nia27_zle nia204_zmo nia204_zbm hl
                        have hin9 : ((iv221_10.toInt.toNat : Nat) : Int) = iv221_10.toInt := Int.toNat_of_nonneg ?o152
                        case o152 => omega
                        refine lv_iload hx hb dX10_plan_221 (lv_at hl 0 rfl) ?_
                        refine lv_aload_n hx hb dX10_plan_223 rfl (lv_at hl 8 rfl) ?_
                        refine hk_geti hx hb hts hC_10 hown hW (gx.S hM) tt_10 75 ?o153 rfl kw_1218 ⟨rfl, rfl, rfl⟩ ffw27_x_75 dX10_plan_224 ?_
                        case o153 => decide
                        refine hb_icmp_ge (zx := iv221_10.toInt) (zy := fw27_x_75.toInt) (tgt := 297) hx hb rfl rfl dX10_plan_227 ?o154 (fun c_59 => ?_) (fun c_59 => ?_)
                        case o154 => decide
                        · skip
                          have ht9 := vi221_0; have hL9 := vi221_1; have hA9 := vi221_2; rw [show iv221_10.toInt.toNat = fw27_x_75.toInt.toNat by omega] at ht9 hL9 hA9
                          refine lv_iload hx hb dX10_plan_297 (lv_at hl 3 rfl) ?_
                          refine lv_iload_n hx hb dX10_plan_299 rfl (lv_at hl 7 rfl) ?_
                          refine hb_icmp_gt (zx := iv221_7.toInt) (zy := r_27.toInt) (tgt := 364) hx hb rfl rfl dX10_plan_300 ?o155 (fun c_60 => ?_) (fun c_60 => ?_)
                          case o155 => decide
                          · skip
                            have hSM9 : hp_SM (hp_F (hp_f aF9 rF9 i2.toInt r_27.toInt fw27_x_75.toInt.toNat) 0 (k9 + 1) hp_s0) iv204_4.toInt iv204_5.toInt ia204_zbm fw27_x_75.toInt.toNat := hp_SM_s hs9 hdg9 ht9 hL9 hA9 (Or.inr ⟨?o156, rfl, rfl, rfl⟩)
                            case o156 => omega
                            refine lv_aload_n hx hb dX10_plan_364 rfl (lv_at hl 8 rfl) ?_
                            refine hk_geti hx hb hts hC_10 hown hW (gx.S hM) tt_10 75 ?o157 rfl kw_1218 ⟨rfl, rfl, rfl⟩ ffw27_x_75 dX10_plan_365 ?_
                            case o157 => decide
                            refine lv_iconst (v := 1) hx hb dX10_plan_368 ?o158 ?_
                            case o158 => decide
                            refine lv_isub hx hb dX10_plan_369 ?_
                            have rg_61 := i32_r fw27_x_75
                            refine lv_topi (fun x_62 ex_62 => ?_)
                            have zx_62 : x_62.toInt = fw27_x_75.toInt - 1 := ?o159
                            case o159 =>
                              rw [ex_62]
                              refine i32_sub rfl ?o160 ?o161 ?o162
                              case o160 => decide
                              case o161 => omega
                              case o162 => omega
                            refine lv_istore (lv' := [(10, .int x_62), (9, .int iv221_9), (8, .int iv221_8), (7, .int iv221_7), (6, .int iv204_6), (5, .int iv204_5), (4, .int iv204_4), (3, .int r_27), (0, .ref x), (1, .int i1), (2, .int i2)]) hx hb dX10_plan_370 hl ?o163 rfl (fun ls hl => ?_)
                            case o163 => decide
                            have loop372 : ∀ (n372 : Nat) (iv372_10 : Int32) (ia372_zmo : Nat → Int32) (H : Heap) (locs : List Loc) (hL1 : List Nat) (hl1 : hx_h), -1 ≤ iv372_10.toInt → iv372_10.toInt ≤ 3 → (hx_V ia372_zmo + hx_w iv372_10.toInt = hx_V ia204_zmo + hx_w (fw27_x_75.toInt - 1)) → (∀ j : Nat, j < fw27_x_75.toInt.toNat → (ia372_zmo j).toInt = (if (j : Int) ≤ iv372_10.toInt then hp_dg fw27_x_75.toInt.toNat k9 j else 0)) → (∀ j : Nat, iv372_10.toInt < (j : Int) → j < fw27_x_75.toInt.toNat → hp_dg fw27_x_75.toInt.toNat k9 j = 12) → (iv372_10.toInt < fw27_x_75.toInt) → ∀ (ls : Array Slot), iv372_10.toInt + 1 < (n372 : Int) → hx_W T_tb (P_ty dA) (dC, dI) vwCl (hx_A L sz) s.heap hL1 hl1 s H locs → hx_T T_tb hL1 hl1 → hx_S T_tb [(10, 67), (10, 68), (10, 69), (10, 70), (10, 71), (10, 72), (10, 75), (100, 0), (101, 0), (102, 0), (103, 0), (104, 0), (105, 0), (106, 0), (107, 0)] L h hL1 hl1 → hl1.2.1 x 72 = td0 → hl1.2.1 x 75 = fw27_x_75 → hl1.2.1 zmo = ia372_zmo → hl1.2.1 zpc = clf → hl1.2.1 zpw = wlf → hl1.2.1 zpk = wsf → hl1.2.1 zfo = ia27_zfo → hl1.2.1 zre = ia27_zre → hl1.2.1 zle = ia27_zle → hl1.2.1 zbm = ia204_zbm → lv_has ls 12 [(10, .int iv372_10), (9, .int iv221_9), (8, .int iv221_8), (7, .int iv221_7), (6, .int iv204_6), (5, .int iv204_5), (4, .int iv204_4), (3, .int r_27), (0, .ref x), (1, .int i1), (2, .int i2)] → W p l e ({ frames := 3, cells := 0, slots := 0, locals := 71 }) s m ([.ref x, .int i1, .int i2] : List Value).toArray below meth c H locs 0 0 (MQ below (va_Qi (fun (r : Int32) (u : List Nat × hx_h) => (∃ (td1 : Int32) (clf1 : Nat → Int32) (wlf1 : Nat → Int32) (wsf1 : Nat → Int32), u.2.2.1 x 72 = td1 ∧ u.2.2.1 zpc = clf1 ∧ u.2.2.1 zpw = wlf1 ∧ u.2.2.1 zpk = wsf1 ∧ (hp_PS ((0 ≤ i1.toInt ∧ i1.toInt < pn0.toInt) ∧ 1 ≤ i2.toInt ∧ i2.toInt ≤ 99) (hp_ol agf (hz_Rn odf szf gdf owf svf (hz_rc A plf) pof pdf psm pkf pst nw0.toInt n0.toInt.toNat) i1.toInt c0.toInt.toNat).length (hp_ge (hp_ol agf (hz_Rn odf szf gdf owf svf (hz_rc A plf) pof pdf psm pkf pst nw0.toInt n0.toInt.toNat) i1.toInt c0.toInt.toNat)) (fun c9 => hz_mi ((fun c9 => (A (plf c9).toInt.toNat).2.1 2) (hp_ge (hp_ol agf (hz_Rn odf szf gdf owf svf (hz_rc A plf) pof pdf psm pkf pst nw0.toInt n0.toInt.toNat) i1.toInt c0.toInt.toNat) c9)) ((hz_Rn odf szf gdf owf svf (hz_rc A plf) pof pdf psm pkf pst nw0.toInt n0.toInt.toNat) (hp_ge (hp_ol agf (hz_Rn odf szf gdf owf svf (hz_rc A plf) pof pdf psm pkf pst nw0.toInt n0.toInt.toNat) i1.toInt c0.toInt.toNat) c9))) (fun c9 => (hz_Rn odf szf gdf owf svf (hz_rc A plf) pof pdf psm pkf pst nw0.toInt n0.toInt.toNat) (hp_ge (hp_ol agf (hz_Rn odf szf gdf owf svf (hz_rc A plf) pof pdf psm pkf pst nw0.toInt n0.toInt.toNat) i1.toInt c0.toInt.toNat) c9)) i2.toInt ((eaf i1.toInt.toNat).toInt - (A (hv_IF A nw0.toInt a0.toInt.toNat)).2.1 3 * (hdf i1.toInt.toNat).toInt) r.toInt td0.toInt td1.toInt clf clf1 wlf wlf1 wsf wsf1)) ∧ hx_T T_tb u.1 u.2 ∧ hx_S T_tb [(10, 67), (10, 68), (10, 69), (10, 70), (10, 71), (10, 72), (10, 75), (100, 0), (101, 0), (102, 0), (103, 0), (104, 0), (105, 0), (106, 0), (107, 0)] L h u.1 u.2) (hx_E T_tb (P_ty dA) (dC, dI) vwCl (hx_A L sz)) (hx_A L sz)) ([.ref x, .int i1, .int i2] : List Value).toArray s 0 0 (hx_A L sz)) (F0 m 372 ls []) := by
                              intro n372
                              induction n372 with
                              | zero => intro iv372_10 ia372_zmo H locs hL1 hl1 bliv372_10 buiv372_10 vi372_0 vi372_1 vi372_2 vi372_3 ls hn372; exfalso; omega
                              | succ n372 ih372 =>
                                intro iv372_10 ia372_zmo H locs hL1 hl1 bliv372_10 buiv372_10 vi372_0 vi372_1 vi372_2 vi372_3 ls hn372 hW hT hM f_x_72 ffw27_x_75 nia372_zmo af_zpc af_zpw af_zpk nia27_zfo nia27_zre nia27_zle nia204_zbm hl
                                refine lv_iload hx hb dX10_plan_372 (lv_at hl 0 rfl) ?_
                                refine hb_if_lt (zx := iv372_10.toInt) (tgt := 403) hx hb rfl dX10_plan_374 ?o164 (fun c_63 => ?_) (fun c_63 => ?_)
                                case o164 => decide
                                · skip
                                  refine lv_iload hx hb dX10_plan_403 (lv_at hl 0 rfl) ?_
                                  refine hb_if_lt (zx := iv372_10.toInt) (tgt := 412) hx hb rfl dX10_plan_405 ?o165 (fun c_64 => ?_) (fun c_64 => ?o166)
                                  case o165 => decide
                                  case o166 =>
                                    exfalso
                                    omega
                                  refine lv_iconst (v := 0) hx hb dX10_plan_412 ?o167 ?_
                                  case o167 => decide
                                  refine lv_istore (lv' := [(6, .int (0 : Int32)), (10, .int iv372_10), (9, .int iv221_9), (8, .int iv221_8), (7, .int iv221_7), (5, .int iv204_5), (4, .int iv204_4), (3, .int r_27), (0, .ref x), (1, .int i1), (2, .int i2)]) hx hb dX10_plan_413 hl ?o168 rfl (fun ls hl => ?_)
                                  case o168 => decide
                                  refine lv_iload hx hb dX10_plan_415 (lv_at hl 0 rfl) ?_
                                  refine hb_if_eq (zx := 0) (tgt := 431) hx hb ?o169 dX10_plan_417 ?o170 (fun c_65 => ?_) (fun c_65 => absurd c_65 ?o171)
                                  case o169 => decide
                                  case o170 => decide
                                  case o171 => decide
                                  have hm12 : hx_m12 ia372_zmo := (fun k hk => by have q := hT.ei (gzmo.S hM) tt_105 (k := k) hk; rw [nia372_zmo] at q; exact q)
                                  have hvb := hx_V_b hm12
                                  refine lv_goto (tgt := 204) hx hb dX10_plan_431 ?o172 ?_
                                  case o172 => decide
                                  have zk_0 : (0 : Int32).toInt = 0 := ?o173
                                  case o173 => decide
                                  refine ih204 iv204_4 iv204_5 (0 : Int32) ia372_zmo ia204_zbm _ _ hL1 hl1 (i32_r _).1 (i32_r _).2 (i32_r _).1 (i32_r _).2 ?o174 ?o175 (hp_OD_n hSM9 (hq_o hkl9) (fun j hj => vi372_2 j ?o176 hj) ?o177) hm12 ls ?o178 hW hT hM f_x_72 ffw27_x_75 nia372_zmo nia204_zbm af_zpc af_zpw af_zpk nia27_zfo nia27_zre nia27_zle (lv_sub hl [0, 5, 6, 7, 8, 9, 10] rfl)
                                  case o174 => decide
                                  case o175 => decide
                                  case o176 => omega
                                  case o177 => decide
                                  case o178 => omega
                                · skip
                                  refine lv_aload_n hx hb dX10_plan_377 rfl (lv_at hl 8 rfl) ?_
                                  refine hk_getr hx hb hts hC_10 hown hW (gx.S hM) tt_10 79 ?o179 rfl kw_1222 ⟨rfl, rfl, rfl⟩ ((hM.o gx trivial rfl).2.trans f_x_79) dX10_plan_378 ?_
                                  case o179 => decide
                                  refine lv_iload hx hb dX10_plan_381 (lv_at hl 0 rfl) ?_
                                  refine hx_iald hx hb hW hT (gzmo.S hM) tt_105 rfl ⟨?o180, ?o181⟩ dX10_plan_383 (fun x_66 ex_66 lx_66 ux_66 => ?_)
                                  case o180 => omega
                                  case o181 => omega
                                  have ax_66 : x_66 = ia372_zmo iv372_10.toNatClampNeg := ex_66.trans (congrFun nia372_zmo _)
                                  refine lv_bipush (v := 12) hx hb dX10_plan_384 ?o182 ?_
                                  case o182 => decide
                                  refine hb_icmp_ne (zx := x_66.toInt) (zy := 12) (tgt := 403) hx hb rfl ?o183 dX10_plan_386 ?o184 (fun c_67 => ?_) (fun c_67 => ?_)
                                  case o183 => decide
                                  case o184 => decide
                                  · skip
                                    replace c_67 : x_66.toInt ≤ 11 := ?o185
                                    case o185 => omega
                                    refine lv_iload hx hb dX10_plan_403 (lv_at hl 0 rfl) ?_
                                    refine hb_if_lt (zx := iv372_10.toInt) (tgt := 412) hx hb rfl dX10_plan_405 ?o186 (fun c_68 => ?o187) (fun c_68 => ?_)
                                    case o186 => decide
                                    case o187 =>
                                      exfalso
                                      omega
                                    refine lv_iconst (v := 1) hx hb dX10_plan_408 ?o188 ?_
                                    case o188 => decide
                                    refine lv_goto (tgt := 413) hx hb dX10_plan_409 ?o189 ?_
                                    case o189 => decide
                                    refine lv_istore (lv' := [(6, .int (1 : Int32)), (10, .int iv372_10), (9, .int iv221_9), (8, .int iv221_8), (7, .int iv221_7), (5, .int iv204_5), (4, .int iv204_4), (3, .int r_27), (0, .ref x), (1, .int i1), (2, .int i2)]) hx hb dX10_plan_413 hl ?o190 rfl (fun ls hl => ?_)
                                    case o190 => decide
                                    refine lv_iload hx hb dX10_plan_415 (lv_at hl 0 rfl) ?_
                                    refine hb_if_eq (zx := 1) (tgt := 431) hx hb ?o191 dX10_plan_417 ?o192 (fun c_69 => absurd c_69 ?o193) (fun c_69 => ?_)
                                    case o191 => decide
                                    case o192 => decide
                                    case o193 => decide
                                    refine lv_aload_n hx hb dX10_plan_420 rfl (lv_at hl 8 rfl) ?_
                                    refine hk_getr hx hb hts hC_10 hown hW (gx.S hM) tt_10 79 ?o194 rfl kw_1222 ⟨rfl, rfl, rfl⟩ ((hM.o gx trivial rfl).2.trans f_x_79) dX10_plan_421 ?_
                                    case o194 => decide
                                    refine lv_iload hx hb dX10_plan_424 (lv_at hl 1 rfl) ?_
                                    refine lv_dup2_11 hx hb dX10_plan_426 rfl rfl ?_
                                    refine hx_iald hx hb hW hT (gzmo.S hM) tt_105 rfl ⟨?o195, ?o196⟩ dX10_plan_427 (fun x_70 ex_70 lx_70 ux_70 => ?_)
                                    case o195 => omega
                                    case o196 => omega
                                    have ax_70 : x_70 = ia372_zmo iv372_10.toNatClampNeg := ex_70.trans (congrFun nia372_zmo _)
                                    obtain rfl : x_66 = x_70 := ex_66.trans ex_70.symm
                                    refine lv_iconst (v := 1) hx hb dX10_plan_428 ?o197 ?_
                                    case o197 => decide
                                    refine lv_iadd hx hb dX10_plan_429 ?_
                                    have rg_71 := i32_r x_66
                                    refine lv_topi (fun x_72 ex_72 => ?_)
                                    have zx_72 : x_72.toInt = x_66.toInt + 1 := ?o198
                                    case o198 =>
                                      rw [ex_72]
                                      refine i32_add rfl ?o199 ?o200 ?o201
                                      case o199 => decide
                                      case o200 => omega
                                      case o201 => omega
                                    have nia372_zmoO := nia372_zmo
                                    refine hx_iast hx hb hW hT (hx_S.rf (M := [(105, 0)])) (gzmo.S hM) tt_105 rfl ⟨?o202, ?o203⟩ rfl ⟨?o204, ?o205⟩ (List.mem_singleton.mpr rfl) dX10_plan_430 (fun H locs h_73 eh_73 hW hT hs => ?_)
                                    case o202 => omega
                                    case o203 => omega
                                    case o204 => omega
                                    case o205 => omega
                                    replace f_x_72 := (hs.o (gx.S hM) trivial rfl).1.trans f_x_72
                                    replace ffw27_x_75 := (hs.o (gx.S hM) trivial rfl).1.trans ffw27_x_75
                                    replace af_zpc : h_73.2.1 zpc = clf := (funext fun j => (hs.a (gzpc.S hM) rfl j).1).trans af_zpc
                                    replace af_zpw : h_73.2.1 zpw = wlf := (funext fun j => (hs.a (gzpw.S hM) rfl j).1).trans af_zpw
                                    replace af_zpk : h_73.2.1 zpk = wsf := (funext fun j => (hs.a (gzpk.S hM) rfl j).1).trans af_zpk
                                    replace nia27_zfo : h_73.2.1 zfo = ia27_zfo := (funext fun j => (hs.a (gzfo.S hM) rfl j).1).trans nia27_zfo
                                    replace nia27_zre : h_73.2.1 zre = ia27_zre := (funext fun j => (hs.a (gzre.S hM) rfl j).1).trans nia27_zre
                                    replace nia27_zle : h_73.2.1 zle = ia27_zle := (funext fun j => (hs.a (gzle.S hM) rfl j).1).trans nia27_zle
                                    replace nia204_zbm : h_73.2.1 zbm = ia204_zbm := (funext fun j => (hs.a (gzbm.S hM) rfl j).1).trans nia204_zbm
                                    replace hM := hM.tr (hs.mono ?o206)
                                    case o206 => decide
                                    obtain ⟨fa_74, dfa_74⟩ : ∃ g : Nat → Int32, g = hx_up ia372_zmo iv372_10.toNatClampNeg x_72 := ⟨_, rfl⟩
                                    have nfa_74 : h_73.2.1 zmo = fa_74 := ?o207
                                    case o207 =>
                                      rw [eh_73, dfa_74, ← nia372_zmoO]
                                      exact hx_pi_fun _ _ _ _
                                    have hvq := (hx_V_up ?o208 ?o209 ax_66 dfa_74).2 ?o210
                                    case o208 => omega
                                    case o209 => omega
                                    case o210 => omega
                                    have hwq := hx_w_b (i := (fw27_x_75.toInt - 1 : Int))
                                    have hm12 : hx_m12 fa_74 := (fun k hk => by have q := hT.ei (gzmo.S hM) tt_105 (k := k) hk; rw [nfa_74] at q; exact q)
                                    have hvb := hx_V_b hm12
                                    refine lv_goto (tgt := 204) hx hb dX10_plan_431 ?o211 ?_
                                    case o211 => decide
                                    have zk_1 : (1 : Int32).toInt = 1 := ?o212
                                    case o212 => decide
                                    refine ih204 iv204_4 iv204_5 (1 : Int32) fa_74 ia204_zbm _ _ hL1 h_73 (i32_r _).1 (i32_r _).2 (i32_r _).1 (i32_r _).2 ?o213 ?o214 (hp_OD_y (i := iv372_10.toInt.toNat) hSM9 (hq_o hkl9) ?o215 (fun j h1 h2 => vi372_2 j ?o216 h2) (fun z9 => by have h9 := vi372_1 iv372_10.toInt.toNat (by omega); rw [if_pos (by omega), z9, show ia372_zmo iv372_10.toInt.toNat = x_66 from ax_66.symm] at h9; omega) (hp_E_u (ix := iv372_10.toInt.toNat) vi372_1 ?o217 ?o218 ?o219 dfa_74 (by rw [show ia372_zmo iv372_10.toInt.toNat = x_66 from ax_66.symm]; omega)) ?o220) hm12 ls ?o221 hW hT hM f_x_72 ffw27_x_75 nfa_74 nia204_zbm af_zpc af_zpw af_zpk nia27_zfo nia27_zre nia27_zle (lv_sub hl [0, 5, 6, 7, 8, 9, 10] rfl)
                                    case o213 => decide
                                    case o214 => decide
                                    case o215 => omega
                                    case o216 => omega
                                    case o217 => omega
                                    case o218 => omega
                                    case o219 => omega
                                    case o220 => decide
                                    case o221 => omega
                                  · skip
                                    have hin9 : ((iv372_10.toInt.toNat : Nat) : Int) = iv372_10.toInt := Int.toNat_of_nonneg ?o222
                                    case o222 => omega
                                    refine lv_aload_n hx hb dX10_plan_389 rfl (lv_at hl 8 rfl) ?_
                                    refine hk_getr hx hb hts hC_10 hown hW (gx.S hM) tt_10 79 ?o223 rfl kw_1222 ⟨rfl, rfl, rfl⟩ ((hM.o gx trivial rfl).2.trans f_x_79) dX10_plan_390 ?_
                                    case o223 => decide
                                    refine lv_iload hx hb dX10_plan_393 (lv_at hl 0 rfl) ?_
                                    refine lv_iconst (v := 0) hx hb dX10_plan_395 ?o224 ?_
                                    case o224 => decide
                                    have nia372_zmoO := nia372_zmo
                                    refine hx_iast hx hb hW hT (hx_S.rf (M := [(105, 0)])) (gzmo.S hM) tt_105 rfl ⟨?o225, ?o226⟩ rfl ?o227 (List.mem_singleton.mpr rfl) dX10_plan_396 (fun H locs h_75 eh_75 hW hT hs => ?_)
                                    case o225 => omega
                                    case o226 => omega
                                    case o227 => decide
                                    replace f_x_72 := (hs.o (gx.S hM) trivial rfl).1.trans f_x_72
                                    replace ffw27_x_75 := (hs.o (gx.S hM) trivial rfl).1.trans ffw27_x_75
                                    replace af_zpc : h_75.2.1 zpc = clf := (funext fun j => (hs.a (gzpc.S hM) rfl j).1).trans af_zpc
                                    replace af_zpw : h_75.2.1 zpw = wlf := (funext fun j => (hs.a (gzpw.S hM) rfl j).1).trans af_zpw
                                    replace af_zpk : h_75.2.1 zpk = wsf := (funext fun j => (hs.a (gzpk.S hM) rfl j).1).trans af_zpk
                                    replace nia27_zfo : h_75.2.1 zfo = ia27_zfo := (funext fun j => (hs.a (gzfo.S hM) rfl j).1).trans nia27_zfo
                                    replace nia27_zre : h_75.2.1 zre = ia27_zre := (funext fun j => (hs.a (gzre.S hM) rfl j).1).trans nia27_zre
                                    replace nia27_zle : h_75.2.1 zle = ia27_zle := (funext fun j => (hs.a (gzle.S hM) rfl j).1).trans nia27_zle
                                    replace nia204_zbm : h_75.2.1 zbm = ia204_zbm := (funext fun j => (hs.a (gzbm.S hM) rfl j).1).trans nia204_zbm
                                    replace hM := hM.tr (hs.mono ?o228)
                                    case o228 => decide
                                    obtain ⟨fa_76, dfa_76⟩ : ∃ g : Nat → Int32, g = hx_up ia372_zmo iv372_10.toNatClampNeg (0 : Int32) := ⟨_, rfl⟩
                                    have nfa_76 : h_75.2.1 zmo = fa_76 := ?o229
                                    case o229 =>
                                      rw [eh_75, dfa_76, ← nia372_zmoO]
                                      exact hx_pi_fun _ _ _ _
                                    obtain ⟨x_77, ex_77⟩ : ∃ y : Int32, y = iv372_10 + Int32.ofInt (-1) := ⟨_, rfl⟩
                                    have rg_78 := i32_r iv372_10
                                    have zx_77 : x_77.toInt = iv372_10.toInt + (-1) := ?o230
                                    case o230 =>
                                      rw [ex_77]
                                      refine i32_add rfl ?o231 ?o232 ?o233
                                      case o231 => decide
                                      case o232 => omega
                                      case o233 => omega
                                    refine lv_iinc (v := x_77) (lv' := [(10, .int x_77), (9, .int iv221_9), (8, .int iv221_8), (7, .int iv221_7), (6, .int iv204_6), (5, .int iv204_5), (4, .int iv204_4), (3, .int r_27), (0, .ref x), (1, .int i1), (2, .int i2)]) hx hb dX10_plan_397 hl (k := 0) rfl ex_77.symm ?o234 rfl (fun ls hl => ?_)
                                    case o234 => decide
                                    refine lv_goto (tgt := 372) hx hb dX10_plan_400 ?o235 ?_
                                    case o235 => decide
                                    refine ih372 x_77 fa_76 _ _ hL1 h_75 ?o236 ?o237 (by have q := (hx_V_up (by omega) (by omega) ax_66 dfa_76).1 (by omega) (by decide); rw [show x_77.toInt = iv372_10.toInt - 1 from by omega]; omega) (hp_E_s vi372_1 vi372_2 ?o238 ?o239 (by unfold Int32.toNatClampNeg; omega) (by rw [show ia372_zmo iv372_10.toNatClampNeg = x_66 from ax_66.symm]; omega) dfa_76 zx_77).1 (hp_E_s vi372_1 vi372_2 ?o240 ?o241 (by unfold Int32.toNatClampNeg; omega) (by rw [show ia372_zmo iv372_10.toNatClampNeg = x_66 from ax_66.symm]; omega) dfa_76 zx_77).2 ?o242 ls ?o243 hW hT hM f_x_72 ffw27_x_75 nfa_76 af_zpc af_zpw af_zpk nia27_zfo nia27_zre nia27_zle nia204_zbm (lv_sub hl [0, 1, 2, 3, 4, 5, 6, 7, 8, 9, 10] rfl)
                                    case o236 => omega
                                    case o237 => omega
                                    case o238 => omega
                                    case o239 => omega
                                    case o240 => omega
                                    case o241 => omega
                                    case o242 => omega
                                    case o243 => omega
                            refine loop372 5 x_62 ia204_zmo _ _ hL1 hl1 ?o244 ?o245 (by rw [zx_62]) (fun j hj => by rw [if_pos (by omega)]; exact hdg9 j hj) (fun j h1 h2 => ?o246) ?o247 ls ?o248 hW hT hM f_x_72 ffw27_x_75 nia204_zmo af_zpc af_zpw af_zpk nia27_zfo nia27_zre nia27_zle nia204_zbm hl
                            case o244 => omega
                            case o245 => omega
                            case o246 =>
                              exfalso
                              omega
                            case o247 => omega
                            case o248 => omega
                          · skip
                            refine lv_iload hx hb dX10_plan_303 (lv_at hl 2 rfl) ?_
                            refine lv_iload hx hb dX10_plan_305 (lv_at hl 6 rfl) ?_
                            refine hb_icmp_lt (zx := iv221_8.toInt) (zy := iv204_4.toInt) (tgt := 324) hx hb rfl rfl dX10_plan_307 ?o249 (fun c_79 => ?_) (fun c_79 => ?_)
                            case o249 => decide
                            · skip
                              refine lv_iload hx hb dX10_plan_324 (lv_at hl 2 rfl) ?_
                              refine lv_istore (lv' := [(4, .int iv221_8), (10, .int iv221_10), (9, .int iv221_9), (8, .int iv221_8), (7, .int iv221_7), (6, .int iv204_6), (5, .int iv204_5), (3, .int r_27), (0, .ref x), (1, .int i1), (2, .int i2)]) hx hb dX10_plan_326 hl ?o250 rfl (fun ls hl => ?_)
                              case o250 => decide
                              refine lv_iload hx hb dX10_plan_328 (lv_at hl 2 rfl) ?_
                              refine lv_istore (lv' := [(5, .int iv221_9), (4, .int iv221_8), (10, .int iv221_10), (9, .int iv221_9), (8, .int iv221_8), (7, .int iv221_7), (6, .int iv204_6), (3, .int r_27), (0, .ref x), (1, .int i1), (2, .int i2)]) hx hb dX10_plan_330 hl ?o251 rfl (fun ls hl => ?_)
                              case o251 => decide
                              refine lv_iconst (v := 0) hx hb dX10_plan_332 ?o252 ?_
                              case o252 => decide
                              refine lv_istore (lv' := [(10, .int (0 : Int32)), (5, .int iv221_9), (4, .int iv221_8), (9, .int iv221_9), (8, .int iv221_8), (7, .int iv221_7), (6, .int iv204_6), (3, .int r_27), (0, .ref x), (1, .int i1), (2, .int i2)]) hx hb dX10_plan_333 hl ?o253 rfl (fun ls hl => ?_)
                              case o253 => decide
                              have loop335 : ∀ (n335 : Nat) (iv335_10 : Int32) (ia335_zbm : Nat → Int32) (H : Heap) (locs : List Loc) (hL1 : List Nat) (hl1 : hx_h), 0 ≤ iv335_10.toInt → iv335_10.toInt ≤ 4 → (∀ k : Nat, (k : Int) < iv335_10.toInt → ia335_zbm k = ia204_zmo k) → (iv335_10.toInt ≤ fw27_x_75.toInt) → ∀ (ls : Array Slot), 4 - iv335_10.toInt < (n335 : Int) → hx_W T_tb (P_ty dA) (dC, dI) vwCl (hx_A L sz) s.heap hL1 hl1 s H locs → hx_T T_tb hL1 hl1 → hx_S T_tb [(10, 67), (10, 68), (10, 69), (10, 70), (10, 71), (10, 72), (10, 75), (100, 0), (101, 0), (102, 0), (103, 0), (104, 0), (105, 0), (106, 0), (107, 0)] L h hL1 hl1 → hl1.2.1 x 72 = td0 → hl1.2.1 x 75 = fw27_x_75 → hl1.2.1 zbm = ia335_zbm → hl1.2.1 zpc = clf → hl1.2.1 zpw = wlf → hl1.2.1 zpk = wsf → hl1.2.1 zfo = ia27_zfo → hl1.2.1 zre = ia27_zre → hl1.2.1 zle = ia27_zle → hl1.2.1 zmo = ia204_zmo → lv_has ls 12 [(10, .int iv335_10), (5, .int iv221_9), (4, .int iv221_8), (9, .int iv221_9), (8, .int iv221_8), (7, .int iv221_7), (6, .int iv204_6), (3, .int r_27), (0, .ref x), (1, .int i1), (2, .int i2)] → W p l e ({ frames := 3, cells := 0, slots := 0, locals := 71 }) s m ([.ref x, .int i1, .int i2] : List Value).toArray below meth c H locs 0 0 (MQ below (va_Qi (fun (r : Int32) (u : List Nat × hx_h) => (∃ (td1 : Int32) (clf1 : Nat → Int32) (wlf1 : Nat → Int32) (wsf1 : Nat → Int32), u.2.2.1 x 72 = td1 ∧ u.2.2.1 zpc = clf1 ∧ u.2.2.1 zpw = wlf1 ∧ u.2.2.1 zpk = wsf1 ∧ (hp_PS ((0 ≤ i1.toInt ∧ i1.toInt < pn0.toInt) ∧ 1 ≤ i2.toInt ∧ i2.toInt ≤ 99) (hp_ol agf (hz_Rn odf szf gdf owf svf (hz_rc A plf) pof pdf psm pkf pst nw0.toInt n0.toInt.toNat) i1.toInt c0.toInt.toNat).length (hp_ge (hp_ol agf (hz_Rn odf szf gdf owf svf (hz_rc A plf) pof pdf psm pkf pst nw0.toInt n0.toInt.toNat) i1.toInt c0.toInt.toNat)) (fun c9 => hz_mi ((fun c9 => (A (plf c9).toInt.toNat).2.1 2) (hp_ge (hp_ol agf (hz_Rn odf szf gdf owf svf (hz_rc A plf) pof pdf psm pkf pst nw0.toInt n0.toInt.toNat) i1.toInt c0.toInt.toNat) c9)) ((hz_Rn odf szf gdf owf svf (hz_rc A plf) pof pdf psm pkf pst nw0.toInt n0.toInt.toNat) (hp_ge (hp_ol agf (hz_Rn odf szf gdf owf svf (hz_rc A plf) pof pdf psm pkf pst nw0.toInt n0.toInt.toNat) i1.toInt c0.toInt.toNat) c9))) (fun c9 => (hz_Rn odf szf gdf owf svf (hz_rc A plf) pof pdf psm pkf pst nw0.toInt n0.toInt.toNat) (hp_ge (hp_ol agf (hz_Rn odf szf gdf owf svf (hz_rc A plf) pof pdf psm pkf pst nw0.toInt n0.toInt.toNat) i1.toInt c0.toInt.toNat) c9)) i2.toInt ((eaf i1.toInt.toNat).toInt - (A (hv_IF A nw0.toInt a0.toInt.toNat)).2.1 3 * (hdf i1.toInt.toNat).toInt) r.toInt td0.toInt td1.toInt clf clf1 wlf wlf1 wsf wsf1)) ∧ hx_T T_tb u.1 u.2 ∧ hx_S T_tb [(10, 67), (10, 68), (10, 69), (10, 70), (10, 71), (10, 72), (10, 75), (100, 0), (101, 0), (102, 0), (103, 0), (104, 0), (105, 0), (106, 0), (107, 0)] L h u.1 u.2) (hx_E T_tb (P_ty dA) (dC, dI) vwCl (hx_A L sz)) (hx_A L sz)) ([.ref x, .int i1, .int i2] : List Value).toArray s 0 0 (hx_A L sz)) (F0 m 335 ls []) := by
                                intro n335
                                induction n335 with
                                | zero => intro iv335_10 ia335_zbm H locs hL1 hl1 bliv335_10 buiv335_10 vi335_0 vi335_1 ls hn335; exfalso; omega
                                | succ n335 ih335 =>
                                  intro iv335_10 ia335_zbm H locs hL1 hl1 bliv335_10 buiv335_10 vi335_0 vi335_1 ls hn335 hW hT hM f_x_72 ffw27_x_75 nia335_zbm af_zpc af_zpw af_zpk nia27_zfo nia27_zre nia27_zle nia204_zmo hl
                                  have hin9 : ((iv335_10.toInt.toNat : Nat) : Int) = iv335_10.toInt := Int.toNat_of_nonneg ?o254
                                  case o254 => omega
                                  refine lv_iload hx hb dX10_plan_335 (lv_at hl 0 rfl) ?_
                                  refine lv_aload_n hx hb dX10_plan_337 rfl (lv_at hl 8 rfl) ?_
                                  refine hk_geti hx hb hts hC_10 hown hW (gx.S hM) tt_10 75 ?o255 rfl kw_1218 ⟨rfl, rfl, rfl⟩ ffw27_x_75 dX10_plan_338 ?_
                                  case o255 => decide
                                  refine hb_icmp_ge (zx := iv335_10.toInt) (zy := fw27_x_75.toInt) (tgt := 364) hx hb rfl rfl dX10_plan_341 ?o256 (fun c_80 => ?_) (fun c_80 => ?_)
                                  case o256 => decide
                                  · skip
                                    have hSM9 : hp_SM (hp_F (hp_f aF9 rF9 i2.toInt r_27.toInt fw27_x_75.toInt.toNat) 0 (k9 + 1) hp_s0) iv221_8.toInt iv221_9.toInt ia335_zbm fw27_x_75.toInt.toNat := hp_SM_s hs9 hdg9 ht9 hL9 hA9 (Or.inl ⟨?o257, ?o258, rfl, rfl, fun i hi => vi335_0 i ?o259⟩)
                                    case o257 => omega
                                    case o258 => omega
                                    case o259 => omega
                                    refine lv_aload_n hx hb dX10_plan_364 rfl (lv_at hl 8 rfl) ?_
                                    refine hk_geti hx hb hts hC_10 hown hW (gx.S hM) tt_10 75 ?o260 rfl kw_1218 ⟨rfl, rfl, rfl⟩ ffw27_x_75 dX10_plan_365 ?_
                                    case o260 => decide
                                    refine lv_iconst (v := 1) hx hb dX10_plan_368 ?o261 ?_
                                    case o261 => decide
                                    refine lv_isub hx hb dX10_plan_369 ?_
                                    have rg_81 := i32_r fw27_x_75
                                    refine lv_topi (fun x_82 ex_82 => ?_)
                                    have zx_82 : x_82.toInt = fw27_x_75.toInt - 1 := ?o262
                                    case o262 =>
                                      rw [ex_82]
                                      refine i32_sub rfl ?o263 ?o264 ?o265
                                      case o263 => decide
                                      case o264 => omega
                                      case o265 => omega
                                    refine lv_istore (lv' := [(10, .int x_82), (5, .int iv221_9), (4, .int iv221_8), (9, .int iv221_9), (8, .int iv221_8), (7, .int iv221_7), (6, .int iv204_6), (3, .int r_27), (0, .ref x), (1, .int i1), (2, .int i2)]) hx hb dX10_plan_370 hl ?o266 rfl (fun ls hl => ?_)
                                    case o266 => decide
                                    have loop372 : ∀ (n372 : Nat) (iv372_10 : Int32) (ia372_zmo : Nat → Int32) (H : Heap) (locs : List Loc) (hL1 : List Nat) (hl1 : hx_h), -1 ≤ iv372_10.toInt → iv372_10.toInt ≤ 3 → (hx_V ia372_zmo + hx_w iv372_10.toInt = hx_V ia204_zmo + hx_w (fw27_x_75.toInt - 1)) → (∀ j : Nat, j < fw27_x_75.toInt.toNat → (ia372_zmo j).toInt = (if (j : Int) ≤ iv372_10.toInt then hp_dg fw27_x_75.toInt.toNat k9 j else 0)) → (∀ j : Nat, iv372_10.toInt < (j : Int) → j < fw27_x_75.toInt.toNat → hp_dg fw27_x_75.toInt.toNat k9 j = 12) → (iv372_10.toInt < fw27_x_75.toInt) → ∀ (ls : Array Slot), iv372_10.toInt + 1 < (n372 : Int) → hx_W T_tb (P_ty dA) (dC, dI) vwCl (hx_A L sz) s.heap hL1 hl1 s H locs → hx_T T_tb hL1 hl1 → hx_S T_tb [(10, 67), (10, 68), (10, 69), (10, 70), (10, 71), (10, 72), (10, 75), (100, 0), (101, 0), (102, 0), (103, 0), (104, 0), (105, 0), (106, 0), (107, 0)] L h hL1 hl1 → hl1.2.1 x 72 = td0 → hl1.2.1 x 75 = fw27_x_75 → hl1.2.1 zmo = ia372_zmo → hl1.2.1 zpc = clf → hl1.2.1 zpw = wlf → hl1.2.1 zpk = wsf → hl1.2.1 zfo = ia27_zfo → hl1.2.1 zre = ia27_zre → hl1.2.1 zle = ia27_zle → hl1.2.1 zbm = ia335_zbm → lv_has ls 12 [(10, .int iv372_10), (5, .int iv221_9), (4, .int iv221_8), (9, .int iv221_9), (8, .int iv221_8), (7, .int iv221_7), (6, .int iv204_6), (3, .int r_27), (0, .ref x), (1, .int i1), (2, .int i2)] → W p l e ({ frames := 3, cells := 0, slots := 0, locals := 71 }) s m ([.ref x, .int i1, .int i2] : List Value).toArray below meth c H locs 0 0 (MQ below (va_Qi (fun (r : Int32) (u : List Nat × hx_h) => (∃ (td1 : Int32) (clf1 : Nat → Int32) (wlf1 : Nat → Int32) (wsf1 : Nat → Int32), u.2.2.1 x 72 = td1 ∧ u.2.2.1 zpc = clf1 ∧ u.2.2.1 zpw = wlf1 ∧ u.2.2.1 zpk = wsf1 ∧ (hp_PS ((0 ≤ i1.toInt ∧ i1.toInt < pn0.toInt) ∧ 1 ≤ i2.toInt ∧ i2.toInt ≤ 99) (hp_ol agf (hz_Rn odf szf gdf owf svf (hz_rc A plf) pof pdf psm pkf pst nw0.toInt n0.toInt.toNat) i1.toInt c0.toInt.toNat).length (hp_ge (hp_ol agf (hz_Rn odf szf gdf owf svf (hz_rc A plf) pof pdf psm pkf pst nw0.toInt n0.toInt.toNat) i1.toInt c0.toInt.toNat)) (fun c9 => hz_mi ((fun c9 => (A (plf c9).toInt.toNat).2.1 2) (hp_ge (hp_ol agf (hz_Rn odf szf gdf owf svf (hz_rc A plf) pof pdf psm pkf pst nw0.toInt n0.toInt.toNat) i1.toInt c0.toInt.toNat) c9)) ((hz_Rn odf szf gdf owf svf (hz_rc A plf) pof pdf psm pkf pst nw0.toInt n0.toInt.toNat) (hp_ge (hp_ol agf (hz_Rn odf szf gdf owf svf (hz_rc A plf) pof pdf psm pkf pst nw0.toInt n0.toInt.toNat) i1.toInt c0.toInt.toNat) c9))) (fun c9 => (hz_Rn odf szf gdf owf svf (hz_rc A plf) pof pdf psm pkf pst nw0.toInt n0.toInt.toNat) (hp_ge (hp_ol agf (hz_Rn odf szf gdf owf svf (hz_rc A plf) pof pdf psm pkf pst nw0.toInt n0.toInt.toNat) i1.toInt c0.toInt.toNat) c9)) i2.toInt ((eaf i1.toInt.toNat).toInt - (A (hv_IF A nw0.toInt a0.toInt.toNat)).2.1 3 * (hdf i1.toInt.toNat).toInt) r.toInt td0.toInt td1.toInt clf clf1 wlf wlf1 wsf wsf1)) ∧ hx_T T_tb u.1 u.2 ∧ hx_S T_tb [(10, 67), (10, 68), (10, 69), (10, 70), (10, 71), (10, 72), (10, 75), (100, 0), (101, 0), (102, 0), (103, 0), (104, 0), (105, 0), (106, 0), (107, 0)] L h u.1 u.2) (hx_E T_tb (P_ty dA) (dC, dI) vwCl (hx_A L sz)) (hx_A L sz)) ([.ref x, .int i1, .int i2] : List Value).toArray s 0 0 (hx_A L sz)) (F0 m 372 ls []) := by
                                      intro n372
                                      induction n372 with
                                      | zero => intro iv372_10 ia372_zmo H locs hL1 hl1 bliv372_10 buiv372_10 vi372_0 vi372_1 vi372_2 vi372_3 ls hn372; exfalso; omega
                                      | succ n372 ih372 =>
                                        intro iv372_10 ia372_zmo H locs hL1 hl1 bliv372_10 buiv372_10 vi372_0 vi372_1 vi372_2 vi372_3 ls hn372 hW hT hM f_x_72 ffw27_x_75 nia372_zmo af_zpc af_zpw af_zpk nia27_zfo nia27_zre nia27_zle nia335_zbm hl
                                        refine lv_iload hx hb dX10_plan_372 (lv_at hl 0 rfl) ?_
                                        refine hb_if_lt (zx := iv372_10.toInt) (tgt := 403) hx hb rfl dX10_plan_374 ?o267 (fun c_83 => ?_) (fun c_83 => ?_)
                                        case o267 => decide
                                        · skip
                                          refine lv_iload hx hb dX10_plan_403 (lv_at hl 0 rfl) ?_
                                          refine hb_if_lt (zx := iv372_10.toInt) (tgt := 412) hx hb rfl dX10_plan_405 ?o268 (fun c_84 => ?_) (fun c_84 => ?o269)
                                          case o268 => decide
                                          case o269 =>
                                            exfalso
                                            omega
                                          refine lv_iconst (v := 0) hx hb dX10_plan_412 ?o270 ?_
                                          case o270 => decide
                                          refine lv_istore (lv' := [(6, .int (0 : Int32)), (10, .int iv372_10), (5, .int iv221_9), (4, .int iv221_8), (9, .int iv221_9), (8, .int iv221_8), (7, .int iv221_7), (3, .int r_27), (0, .ref x), (1, .int i1), (2, .int i2)]) hx hb dX10_plan_413 hl ?o271 rfl (fun ls hl => ?_)
                                          case o271 => decide
                                          refine lv_iload hx hb dX10_plan_415 (lv_at hl 0 rfl) ?_
                                          refine hb_if_eq (zx := 0) (tgt := 431) hx hb ?o272 dX10_plan_417 ?o273 (fun c_85 => ?_) (fun c_85 => absurd c_85 ?o274)
                                          case o272 => decide
                                          case o273 => decide
                                          case o274 => decide
                                          have hm12 : hx_m12 ia372_zmo := (fun k hk => by have q := hT.ei (gzmo.S hM) tt_105 (k := k) hk; rw [nia372_zmo] at q; exact q)
                                          have hvb := hx_V_b hm12
                                          refine lv_goto (tgt := 204) hx hb dX10_plan_431 ?o275 ?_
                                          case o275 => decide
                                          have zk_0 : (0 : Int32).toInt = 0 := ?o276
                                          case o276 => decide
                                          refine ih204 iv221_8 iv221_9 (0 : Int32) ia372_zmo ia335_zbm _ _ hL1 hl1 (i32_r _).1 (i32_r _).2 (i32_r _).1 (i32_r _).2 ?o277 ?o278 (hp_OD_n hSM9 (hq_o hkl9) (fun j hj => vi372_2 j ?o279 hj) ?o280) hm12 ls ?o281 hW hT hM f_x_72 ffw27_x_75 nia372_zmo nia335_zbm af_zpc af_zpw af_zpk nia27_zfo nia27_zre nia27_zle (lv_sub hl [0, 2, 3, 7, 8, 9, 10] rfl)
                                          case o277 => decide
                                          case o278 => decide
                                          case o279 => omega
                                          case o280 => decide
                                          case o281 => omega
                                        · skip
                                          refine lv_aload_n hx hb dX10_plan_377 rfl (lv_at hl 8 rfl) ?_
                                          refine hk_getr hx hb hts hC_10 hown hW (gx.S hM) tt_10 79 ?o282 rfl kw_1222 ⟨rfl, rfl, rfl⟩ ((hM.o gx trivial rfl).2.trans f_x_79) dX10_plan_378 ?_
                                          case o282 => decide
                                          refine lv_iload hx hb dX10_plan_381 (lv_at hl 0 rfl) ?_
                                          refine hx_iald hx hb hW hT (gzmo.S hM) tt_105 rfl ⟨?o283, ?o284⟩ dX10_plan_383 (fun x_86 ex_86 lx_86 ux_86 => ?_)
                                          case o283 => omega
                                          case o284 => omega
                                          have ax_86 : x_86 = ia372_zmo iv372_10.toNatClampNeg := ex_86.trans (congrFun nia372_zmo _)
                                          refine lv_bipush (v := 12) hx hb dX10_plan_384 ?o285 ?_
                                          case o285 => decide
                                          refine hb_icmp_ne (zx := x_86.toInt) (zy := 12) (tgt := 403) hx hb rfl ?o286 dX10_plan_386 ?o287 (fun c_87 => ?_) (fun c_87 => ?_)
                                          case o286 => decide
                                          case o287 => decide
                                          · skip
                                            replace c_87 : x_86.toInt ≤ 11 := ?o288
                                            case o288 => omega
                                            refine lv_iload hx hb dX10_plan_403 (lv_at hl 0 rfl) ?_
                                            refine hb_if_lt (zx := iv372_10.toInt) (tgt := 412) hx hb rfl dX10_plan_405 ?o289 (fun c_88 => ?o290) (fun c_88 => ?_)
                                            case o289 => decide
                                            case o290 =>
                                              exfalso
                                              omega
                                            refine lv_iconst (v := 1) hx hb dX10_plan_408 ?o291 ?_
                                            case o291 => decide
                                            refine lv_goto (tgt := 413) hx hb dX10_plan_409 ?o292 ?_
                                            case o292 => decide
                                            refine lv_istore (lv' := [(6, .int (1 : Int32)), (10, .int iv372_10), (5, .int iv221_9), (4, .int iv221_8), (9, .int iv221_9), (8, .int iv221_8), (7, .int iv221_7), (3, .int r_27), (0, .ref x), (1, .int i1), (2, .int i2)]) hx hb dX10_plan_413 hl ?o293 rfl (fun ls hl => ?_)
                                            case o293 => decide
                                            refine lv_iload hx hb dX10_plan_415 (lv_at hl 0 rfl) ?_
                                            refine hb_if_eq (zx := 1) (tgt := 431) hx hb ?o294 dX10_plan_417 ?o295 (fun c_89 => absurd c_89 ?o296) (fun c_89 => ?_)
                                            case o294 => decide
                                            case o295 => decide
                                            case o296 => decide
                                            refine lv_aload_n hx hb dX10_plan_420 rfl (lv_at hl 8 rfl) ?_
                                            refine hk_getr hx hb hts hC_10 hown hW (gx.S hM) tt_10 79 ?o297 rfl kw_1222 ⟨rfl, rfl, rfl⟩ ((hM.o gx trivial rfl).2.trans f_x_79) dX10_plan_421 ?_
                                            case o297 => decide
                                            refine lv_iload hx hb dX10_plan_424 (lv_at hl 1 rfl) ?_
                                            refine lv_dup2_11 hx hb dX10_plan_426 rfl rfl ?_
                                            refine hx_iald hx hb hW hT (gzmo.S hM) tt_105 rfl ⟨?o298, ?o299⟩ dX10_plan_427 (fun x_90 ex_90 lx_90 ux_90 => ?_)
                                            case o298 => omega
                                            case o299 => omega
                                            have ax_90 : x_90 = ia372_zmo iv372_10.toNatClampNeg := ex_90.trans (congrFun nia372_zmo _)
                                            obtain rfl : x_86 = x_90 := ex_86.trans ex_90.symm
                                            refine lv_iconst (v := 1) hx hb dX10_plan_428 ?o300 ?_
                                            case o300 => decide
                                            refine lv_iadd hx hb dX10_plan_429 ?_
                                            have rg_91 := i32_r x_86
                                            refine lv_topi (fun x_92 ex_92 => ?_)
                                            have zx_92 : x_92.toInt = x_86.toInt + 1 := ?o301
                                            case o301 =>
                                              rw [ex_92]
                                              refine i32_add rfl ?o302 ?o303 ?o304
                                              case o302 => decide
                                              case o303 => omega
                                              case o304 => omega
                                            have nia372_zmoO := nia372_zmo
                                            refine hx_iast hx hb hW hT (hx_S.rf (M := [(105, 0)])) (gzmo.S hM) tt_105 rfl ⟨?o305, ?o306⟩ rfl ⟨?o307, ?o308⟩ (List.mem_singleton.mpr rfl) dX10_plan_430 (fun H locs h_93 eh_93 hW hT hs => ?_)
                                            case o305 => omega
                                            case o306 => omega
                                            case o307 => omega
                                            case o308 => omega
                                            replace f_x_72 := (hs.o (gx.S hM) trivial rfl).1.trans f_x_72
                                            replace ffw27_x_75 := (hs.o (gx.S hM) trivial rfl).1.trans ffw27_x_75
                                            replace af_zpc : h_93.2.1 zpc = clf := (funext fun j => (hs.a (gzpc.S hM) rfl j).1).trans af_zpc
                                            replace af_zpw : h_93.2.1 zpw = wlf := (funext fun j => (hs.a (gzpw.S hM) rfl j).1).trans af_zpw
                                            replace af_zpk : h_93.2.1 zpk = wsf := (funext fun j => (hs.a (gzpk.S hM) rfl j).1).trans af_zpk
                                            replace nia27_zfo : h_93.2.1 zfo = ia27_zfo := (funext fun j => (hs.a (gzfo.S hM) rfl j).1).trans nia27_zfo
                                            replace nia27_zre : h_93.2.1 zre = ia27_zre := (funext fun j => (hs.a (gzre.S hM) rfl j).1).trans nia27_zre
                                            replace nia27_zle : h_93.2.1 zle = ia27_zle := (funext fun j => (hs.a (gzle.S hM) rfl j).1).trans nia27_zle
                                            replace nia335_zbm : h_93.2.1 zbm = ia335_zbm := (funext fun j => (hs.a (gzbm.S hM) rfl j).1).trans nia335_zbm
                                            replace hM := hM.tr (hs.mono ?o309)
                                            case o309 => decide
                                            obtain ⟨fa_94, dfa_94⟩ : ∃ g : Nat → Int32, g = hx_up ia372_zmo iv372_10.toNatClampNeg x_92 := ⟨_, rfl⟩
                                            have nfa_94 : h_93.2.1 zmo = fa_94 := ?o310
                                            case o310 =>
                                              rw [eh_93, dfa_94, ← nia372_zmoO]
                                              exact hx_pi_fun _ _ _ _
                                            have hvq := (hx_V_up ?o311 ?o312 ax_86 dfa_94).2 ?o313
                                            case o311 => omega
                                            case o312 => omega
                                            case o313 => omega
                                            have hwq := hx_w_b (i := (fw27_x_75.toInt - 1 : Int))
                                            have hm12 : hx_m12 fa_94 := (fun k hk => by have q := hT.ei (gzmo.S hM) tt_105 (k := k) hk; rw [nfa_94] at q; exact q)
                                            have hvb := hx_V_b hm12
                                            refine lv_goto (tgt := 204) hx hb dX10_plan_431 ?o314 ?_
                                            case o314 => decide
                                            have zk_1 : (1 : Int32).toInt = 1 := ?o315
                                            case o315 => decide
                                            refine ih204 iv221_8 iv221_9 (1 : Int32) fa_94 ia335_zbm _ _ hL1 h_93 (i32_r _).1 (i32_r _).2 (i32_r _).1 (i32_r _).2 ?o316 ?o317 (hp_OD_y (i := iv372_10.toInt.toNat) hSM9 (hq_o hkl9) ?o318 (fun j h1 h2 => vi372_2 j ?o319 h2) (fun z9 => by have h9 := vi372_1 iv372_10.toInt.toNat (by omega); rw [if_pos (by omega), z9, show ia372_zmo iv372_10.toInt.toNat = x_86 from ax_86.symm] at h9; omega) (hp_E_u (ix := iv372_10.toInt.toNat) vi372_1 ?o320 ?o321 ?o322 dfa_94 (by rw [show ia372_zmo iv372_10.toInt.toNat = x_86 from ax_86.symm]; omega)) ?o323) hm12 ls ?o324 hW hT hM f_x_72 ffw27_x_75 nfa_94 nia335_zbm af_zpc af_zpw af_zpk nia27_zfo nia27_zre nia27_zle (lv_sub hl [0, 2, 3, 7, 8, 9, 10] rfl)
                                            case o316 => decide
                                            case o317 => decide
                                            case o318 => omega
                                            case o319 => omega
                                            case o320 => omega
                                            case o321 => omega
                                            case o322 => omega
                                            case o323 => decide
                                            case o324 => omega
                                          · skip
                                            have hin9 : ((iv372_10.toInt.toNat : Nat) : Int) = iv372_10.toInt := Int.toNat_of_nonneg ?o325
                                            case o325 => omega
                                            refine lv_aload_n hx hb dX10_plan_389 rfl (lv_at hl 8 rfl) ?_
                                            refine hk_getr hx hb hts hC_10 hown hW (gx.S hM) tt_10 79 ?o326 rfl kw_1222 ⟨rfl, rfl, rfl⟩ ((hM.o gx trivial rfl).2.trans f_x_79) dX10_plan_390 ?_
                                            case o326 => decide
                                            refine lv_iload hx hb dX10_plan_393 (lv_at hl 0 rfl) ?_
                                            refine lv_iconst (v := 0) hx hb dX10_plan_395 ?o327 ?_
                                            case o327 => decide
                                            have nia372_zmoO := nia372_zmo
                                            refine hx_iast hx hb hW hT (hx_S.rf (M := [(105, 0)])) (gzmo.S hM) tt_105 rfl ⟨?o328, ?o329⟩ rfl ?o330 (List.mem_singleton.mpr rfl) dX10_plan_396 (fun H locs h_95 eh_95 hW hT hs => ?_)
                                            case o328 => omega
                                            case o329 => omega
                                            case o330 => decide
                                            replace f_x_72 := (hs.o (gx.S hM) trivial rfl).1.trans f_x_72
                                            replace ffw27_x_75 := (hs.o (gx.S hM) trivial rfl).1.trans ffw27_x_75
                                            replace af_zpc : h_95.2.1 zpc = clf := (funext fun j => (hs.a (gzpc.S hM) rfl j).1).trans af_zpc
                                            replace af_zpw : h_95.2.1 zpw = wlf := (funext fun j => (hs.a (gzpw.S hM) rfl j).1).trans af_zpw
                                            replace af_zpk : h_95.2.1 zpk = wsf := (funext fun j => (hs.a (gzpk.S hM) rfl j).1).trans af_zpk
                                            replace nia27_zfo : h_95.2.1 zfo = ia27_zfo := (funext fun j => (hs.a (gzfo.S hM) rfl j).1).trans nia27_zfo
                                            replace nia27_zre : h_95.2.1 zre = ia27_zre := (funext fun j => (hs.a (gzre.S hM) rfl j).1).trans nia27_zre
                                            replace nia27_zle : h_95.2.1 zle = ia27_zle := (funext fun j => (hs.a (gzle.S hM) rfl j).1).trans nia27_zle
                                            replace nia335_zbm : h_95.2.1 zbm = ia335_zbm := (funext fun j => (hs.a (gzbm.S hM) rfl j).1).trans nia335_zbm
                                            replace hM := hM.tr (hs.mono ?o331)
                                            case o331 => decide
                                            obtain ⟨fa_96, dfa_96⟩ : ∃ g : Nat → Int32, g = hx_up ia372_zmo iv372_10.toNatClampNeg (0 : Int32) := ⟨_, rfl⟩
                                            have nfa_96 : h_95.2.1 zmo = fa_96 := ?o332
                                            case o332 =>
                                              rw [eh_95, dfa_96, ← nia372_zmoO]
                                              exact hx_pi_fun _ _ _ _
                                            obtain ⟨x_97, ex_97⟩ : ∃ y : Int32, y = iv372_10 + Int32.ofInt (-1) := ⟨_, rfl⟩
                                            have rg_98 := i32_r iv372_10
                                            have zx_97 : x_97.toInt = iv372_10.toInt + (-1) := ?o333
                                            case o333 =>
                                              rw [ex_97]
                                              refine i32_add rfl ?o334 ?o335 ?o336
                                              case o334 => decide
                                              case o335 => omega
                                              case o336 => omega
                                            refine lv_iinc (v := x_97) (lv' := [(10, .int x_97), (5, .int iv221_9), (4, .int iv221_8), (9, .int iv221_9), (8, .int iv221_8), (7, .int iv221_7), (6, .int iv204_6), (3, .int r_27), (0, .ref x), (1, .int i1), (2, .int i2)]) hx hb dX10_plan_397 hl (k := 0) rfl ex_97.symm ?o337 rfl (fun ls hl => ?_)
                                            case o337 => decide
                                            refine lv_goto (tgt := 372) hx hb dX10_plan_400 ?o338 ?_
                                            case o338 => decide
                                            refine ih372 x_97 fa_96 _ _ hL1 h_95 ?o339 ?o340 (by have q := (hx_V_up (by omega) (by omega) ax_86 dfa_96).1 (by omega) (by decide); rw [show x_97.toInt = iv372_10.toInt - 1 from by omega]; omega) (hp_E_s vi372_1 vi372_2 ?o341 ?o342 (by unfold Int32.toNatClampNeg; omega) (by rw [show ia372_zmo iv372_10.toNatClampNeg = x_86 from ax_86.symm]; omega) dfa_96 zx_97).1 (hp_E_s vi372_1 vi372_2 ?o343 ?o344 (by unfold Int32.toNatClampNeg; omega) (by rw [show ia372_zmo iv372_10.toNatClampNeg = x_86 from ax_86.symm]; omega) dfa_96 zx_97).2 ?o345 ls ?o346 hW hT hM f_x_72 ffw27_x_75 nfa_96 af_zpc af_zpw af_zpk nia27_zfo nia27_zre nia27_zle nia335_zbm (lv_sub hl [0, 1, 2, 3, 4, 5, 6, 7, 8, 9, 10] rfl)
                                            case o339 => omega
                                            case o340 => omega
                                            case o341 => omega
                                            case o342 => omega
                                            case o343 => omega
                                            case o344 => omega
                                            case o345 => omega
                                            case o346 => omega
                                    refine loop372 5 x_82 ia204_zmo _ _ hL1 hl1 ?o347 ?o348 (by rw [zx_82]) (fun j hj => by rw [if_pos (by omega)]; exact hdg9 j hj) (fun j h1 h2 => ?o349) ?o350 ls ?o351 hW hT hM f_x_72 ffw27_x_75 nia204_zmo af_zpc af_zpw af_zpk nia27_zfo nia27_zre nia27_zle nia335_zbm hl
                                    case o347 => omega
                                    case o348 => omega
                                    case o349 =>
                                      exfalso
                                      omega
                                    case o350 => omega
                                    case o351 => omega
                                  · skip
                                    refine lv_aload_n hx hb dX10_plan_344 rfl (lv_at hl 8 rfl) ?_
                                    refine hk_getr hx hb hts hC_10 hown hW (gx.S hM) tt_10 80 ?o352 rfl kw_1223 ⟨rfl, rfl, rfl⟩ ((hM.o gx trivial rfl).2.trans f_x_80) dX10_plan_345 ?_
                                    case o352 => decide
                                    refine lv_iload hx hb dX10_plan_348 (lv_at hl 0 rfl) ?_
                                    refine lv_aload_n hx hb dX10_plan_350 rfl (lv_at hl 8 rfl) ?_
                                    refine hk_getr hx hb hts hC_10 hown hW (gx.S hM) tt_10 79 ?o353 rfl kw_1222 ⟨rfl, rfl, rfl⟩ ((hM.o gx trivial rfl).2.trans f_x_79) dX10_plan_351 ?_
                                    case o353 => decide
                                    refine lv_iload hx hb dX10_plan_354 (lv_at hl 0 rfl) ?_
                                    refine hx_iald hx hb hW hT (gzmo.S hM) tt_105 rfl ⟨?o354, ?o355⟩ dX10_plan_356 (fun x_99 ex_99 lx_99 ux_99 => ?_)
                                    case o354 => omega
                                    case o355 => omega
                                    have ax_99 : x_99 = ia204_zmo iv335_10.toNatClampNeg := ex_99.trans (congrFun nia204_zmo _)
                                    have nia335_zbmO := nia335_zbm
                                    refine hx_iast hx hb hW hT (hx_S.rf (M := [(106, 0)])) (gzbm.S hM) tt_106 rfl ⟨?o356, ?o357⟩ rfl ⟨?o358, ?o359⟩ (List.mem_singleton.mpr rfl) dX10_plan_357 (fun H locs h_100 eh_100 hW hT hs => ?_)
                                    case o356 => omega
                                    case o357 => omega
                                    case o358 => omega
                                    case o359 => omega
                                    replace f_x_72 := (hs.o (gx.S hM) trivial rfl).1.trans f_x_72
                                    replace ffw27_x_75 := (hs.o (gx.S hM) trivial rfl).1.trans ffw27_x_75
                                    replace af_zpc : h_100.2.1 zpc = clf := (funext fun j => (hs.a (gzpc.S hM) rfl j).1).trans af_zpc
                                    replace af_zpw : h_100.2.1 zpw = wlf := (funext fun j => (hs.a (gzpw.S hM) rfl j).1).trans af_zpw
                                    replace af_zpk : h_100.2.1 zpk = wsf := (funext fun j => (hs.a (gzpk.S hM) rfl j).1).trans af_zpk
                                    replace nia27_zfo : h_100.2.1 zfo = ia27_zfo := (funext fun j => (hs.a (gzfo.S hM) rfl j).1).trans nia27_zfo
                                    replace nia27_zre : h_100.2.1 zre = ia27_zre := (funext fun j => (hs.a (gzre.S hM) rfl j).1).trans nia27_zre
                                    replace nia27_zle : h_100.2.1 zle = ia27_zle := (funext fun j => (hs.a (gzle.S hM) rfl j).1).trans nia27_zle
                                    replace nia204_zmo : h_100.2.1 zmo = ia204_zmo := (funext fun j => (hs.a (gzmo.S hM) rfl j).1).trans nia204_zmo
                                    replace ex_99 := ex_99.trans (hs.a (gzmo.S hM) rfl _).1.symm
                                    replace hM := hM.tr (hs.mono ?o360)
                                    case o360 => decide
                                    obtain ⟨fa_101, dfa_101⟩ : ∃ g : Nat → Int32, g = hx_up ia335_zbm iv335_10.toNatClampNeg x_99 := ⟨_, rfl⟩
                                    have nfa_101 : h_100.2.1 zbm = fa_101 := ?o361
                                    case o361 =>
                                      rw [eh_100, dfa_101, ← nia335_zbmO]
                                      exact hx_pi_fun _ _ _ _
                                    obtain ⟨x_102, ex_102⟩ : ∃ y : Int32, y = iv335_10 + Int32.ofInt 1 := ⟨_, rfl⟩
                                    have rg_103 := i32_r iv335_10
                                    have zx_102 : x_102.toInt = iv335_10.toInt + (1) := ?o362
                                    case o362 =>
                                      rw [ex_102]
                                      refine i32_add rfl ?o363 ?o364 ?o365
                                      case o363 => decide
                                      case o364 => omega
                                      case o365 => omega
                                    refine lv_iinc (v := x_102) (lv' := [(10, .int x_102), (5, .int iv221_9), (4, .int iv221_8), (9, .int iv221_9), (8, .int iv221_8), (7, .int iv221_7), (6, .int iv204_6), (3, .int r_27), (0, .ref x), (1, .int i1), (2, .int i2)]) hx hb dX10_plan_358 hl (k := 0) rfl ex_102.symm ?o366 rfl (fun ls hl => ?_)
                                    case o366 => decide
                                    refine lv_goto (tgt := 335) hx hb dX10_plan_361 ?o367 ?_
                                    case o367 => decide
                                    refine ih335 x_102 fa_101 _ _ hL1 h_100 ?o368 ?o369 (hx_cp_s vi335_0 dfa_101 ax_99 rfl ?o370 zx_102) ?o371 ls ?o372 hW hT hM f_x_72 ffw27_x_75 nfa_101 af_zpc af_zpw af_zpk nia27_zfo nia27_zre nia27_zle nia204_zmo (lv_sub hl [0, 1, 2, 3, 4, 5, 6, 7, 8, 9, 10] rfl)
                                    case o368 => omega
                                    case o369 => omega
                                    case o370 => omega
                                    case o371 => omega
                                    case o372 => omega
                              have zk_0 : (0 : Int32).toInt = 0 := ?o373
                              case o373 => decide
                              refine loop335 5 (0 : Int32) ia204_zbm _ _ hL1 hl1 ?o374 ?o375 (fun j hj => ?o376) ?o377 ls ?o378 hW hT hM f_x_72 ffw27_x_75 nia204_zbm af_zpc af_zpw af_zpk nia27_zfo nia27_zre nia27_zle nia204_zmo hl
                              case o374 => decide
                              case o375 => decide
                              case o376 =>
                                exfalso
                                omega
                              case o377 => omega
                              case o378 => omega
                            · skip
                              refine lv_iload hx hb dX10_plan_310 (lv_at hl 2 rfl) ?_
                              refine lv_iload hx hb dX10_plan_312 (lv_at hl 6 rfl) ?_
                              refine hb_icmp_ne (zx := iv221_8.toInt) (zy := iv204_4.toInt) (tgt := 364) hx hb rfl rfl dX10_plan_314 ?o379 (fun c_104 => ?_) (fun c_104 => ?_)
                              case o379 => decide
                              · skip
                                have hSM9 : hp_SM (hp_F (hp_f aF9 rF9 i2.toInt r_27.toInt fw27_x_75.toInt.toNat) 0 (k9 + 1) hp_s0) iv204_4.toInt iv204_5.toInt ia204_zbm fw27_x_75.toInt.toNat := hp_SM_s hs9 hdg9 ht9 hL9 hA9 (Or.inr ⟨?o380, rfl, rfl, rfl⟩)
                                case o380 => omega
                                refine lv_aload_n hx hb dX10_plan_364 rfl (lv_at hl 8 rfl) ?_
                                refine hk_geti hx hb hts hC_10 hown hW (gx.S hM) tt_10 75 ?o381 rfl kw_1218 ⟨rfl, rfl, rfl⟩ ffw27_x_75 dX10_plan_365 ?_
                                case o381 => decide
                                refine lv_iconst (v := 1) hx hb dX10_plan_368 ?o382 ?_
                                case o382 => decide
                                refine lv_isub hx hb dX10_plan_369 ?_
                                have rg_105 := i32_r fw27_x_75
                                refine lv_topi (fun x_106 ex_106 => ?_)
                                have zx_106 : x_106.toInt = fw27_x_75.toInt - 1 := ?o383
                                case o383 =>
                                  rw [ex_106]
                                  refine i32_sub rfl ?o384 ?o385 ?o386
                                  case o384 => decide
                                  case o385 => omega
                                  case o386 => omega
                                refine lv_istore (lv' := [(10, .int x_106), (9, .int iv221_9), (8, .int iv221_8), (7, .int iv221_7), (6, .int iv204_6), (5, .int iv204_5), (4, .int iv204_4), (3, .int r_27), (0, .ref x), (1, .int i1), (2, .int i2)]) hx hb dX10_plan_370 hl ?o387 rfl (fun ls hl => ?_)
                                case o387 => decide
                                have loop372 : ∀ (n372 : Nat) (iv372_10 : Int32) (ia372_zmo : Nat → Int32) (H : Heap) (locs : List Loc) (hL1 : List Nat) (hl1 : hx_h), -1 ≤ iv372_10.toInt → iv372_10.toInt ≤ 3 → (hx_V ia372_zmo + hx_w iv372_10.toInt = hx_V ia204_zmo + hx_w (fw27_x_75.toInt - 1)) → (∀ j : Nat, j < fw27_x_75.toInt.toNat → (ia372_zmo j).toInt = (if (j : Int) ≤ iv372_10.toInt then hp_dg fw27_x_75.toInt.toNat k9 j else 0)) → (∀ j : Nat, iv372_10.toInt < (j : Int) → j < fw27_x_75.toInt.toNat → hp_dg fw27_x_75.toInt.toNat k9 j = 12) → (iv372_10.toInt < fw27_x_75.toInt) → ∀ (ls : Array Slot), iv372_10.toInt + 1 < (n372 : Int) → hx_W T_tb (P_ty dA) (dC, dI) vwCl (hx_A L sz) s.heap hL1 hl1 s H locs → hx_T T_tb hL1 hl1 → hx_S T_tb [(10, 67), (10, 68), (10, 69), (10, 70), (10, 71), (10, 72), (10, 75), (100, 0), (101, 0), (102, 0), (103, 0), (104, 0), (105, 0), (106, 0), (107, 0)] L h hL1 hl1 → hl1.2.1 x 72 = td0 → hl1.2.1 x 75 = fw27_x_75 → hl1.2.1 zmo = ia372_zmo → hl1.2.1 zpc = clf → hl1.2.1 zpw = wlf → hl1.2.1 zpk = wsf → hl1.2.1 zfo = ia27_zfo → hl1.2.1 zre = ia27_zre → hl1.2.1 zle = ia27_zle → hl1.2.1 zbm = ia204_zbm → lv_has ls 12 [(10, .int iv372_10), (9, .int iv221_9), (8, .int iv221_8), (7, .int iv221_7), (6, .int iv204_6), (5, .int iv204_5), (4, .int iv204_4), (3, .int r_27), (0, .ref x), (1, .int i1), (2, .int i2)] → W p l e ({ frames := 3, cells := 0, slots := 0, locals := 71 }) s m ([.ref x, .int i1, .int i2] : List Value).toArray below meth c H locs 0 0 (MQ below (va_Qi (fun (r : Int32) (u : List Nat × hx_h) => (∃ (td1 : Int32) (clf1 : Nat → Int32) (wlf1 : Nat → Int32) (wsf1 : Nat → Int32), u.2.2.1 x 72 = td1 ∧ u.2.2.1 zpc = clf1 ∧ u.2.2.1 zpw = wlf1 ∧ u.2.2.1 zpk = wsf1 ∧ (hp_PS ((0 ≤ i1.toInt ∧ i1.toInt < pn0.toInt) ∧ 1 ≤ i2.toInt ∧ i2.toInt ≤ 99) (hp_ol agf (hz_Rn odf szf gdf owf svf (hz_rc A plf) pof pdf psm pkf pst nw0.toInt n0.toInt.toNat) i1.toInt c0.toInt.toNat).length (hp_ge (hp_ol agf (hz_Rn odf szf gdf owf svf (hz_rc A plf) pof pdf psm pkf pst nw0.toInt n0.toInt.toNat) i1.toInt c0.toInt.toNat)) (fun c9 => hz_mi ((fun c9 => (A (plf c9).toInt.toNat).2.1 2) (hp_ge (hp_ol agf (hz_Rn odf szf gdf owf svf (hz_rc A plf) pof pdf psm pkf pst nw0.toInt n0.toInt.toNat) i1.toInt c0.toInt.toNat) c9)) ((hz_Rn odf szf gdf owf svf (hz_rc A plf) pof pdf psm pkf pst nw0.toInt n0.toInt.toNat) (hp_ge (hp_ol agf (hz_Rn odf szf gdf owf svf (hz_rc A plf) pof pdf psm pkf pst nw0.toInt n0.toInt.toNat) i1.toInt c0.toInt.toNat) c9))) (fun c9 => (hz_Rn odf szf gdf owf svf (hz_rc A plf) pof pdf psm pkf pst nw0.toInt n0.toInt.toNat) (hp_ge (hp_ol agf (hz_Rn odf szf gdf owf svf (hz_rc A plf) pof pdf psm pkf pst nw0.toInt n0.toInt.toNat) i1.toInt c0.toInt.toNat) c9)) i2.toInt ((eaf i1.toInt.toNat).toInt - (A (hv_IF A nw0.toInt a0.toInt.toNat)).2.1 3 * (hdf i1.toInt.toNat).toInt) r.toInt td0.toInt td1.toInt clf clf1 wlf wlf1 wsf wsf1)) ∧ hx_T T_tb u.1 u.2 ∧ hx_S T_tb [(10, 67), (10, 68), (10, 69), (10, 70), (10, 71), (10, 72), (10, 75), (100, 0), (101, 0), (102, 0), (103, 0), (104, 0), (105, 0), (106, 0), (107, 0)] L h u.1 u.2) (hx_E T_tb (P_ty dA) (dC, dI) vwCl (hx_A L sz)) (hx_A L sz)) ([.ref x, .int i1, .int i2] : List Value).toArray s 0 0 (hx_A L sz)) (F0 m 372 ls []) := by
                                  intro n372
                                  induction n372 with
                                  | zero => intro iv372_10 ia372_zmo H locs hL1 hl1 bliv372_10 buiv372_10 vi372_0 vi372_1 vi372_2 vi372_3 ls hn372; exfalso; omega
                                  | succ n372 ih372 =>
                                    intro iv372_10 ia372_zmo H locs hL1 hl1 bliv372_10 buiv372_10 vi372_0 vi372_1 vi372_2 vi372_3 ls hn372 hW hT hM f_x_72 ffw27_x_75 nia372_zmo af_zpc af_zpw af_zpk nia27_zfo nia27_zre nia27_zle nia204_zbm hl
                                    refine lv_iload hx hb dX10_plan_372 (lv_at hl 0 rfl) ?_
                                    refine hb_if_lt (zx := iv372_10.toInt) (tgt := 403) hx hb rfl dX10_plan_374 ?o388 (fun c_107 => ?_) (fun c_107 => ?_)
                                    case o388 => decide
                                    · skip
                                      refine lv_iload hx hb dX10_plan_403 (lv_at hl 0 rfl) ?_
                                      refine hb_if_lt (zx := iv372_10.toInt) (tgt := 412) hx hb rfl dX10_plan_405 ?o389 (fun c_108 => ?_) (fun c_108 => ?o390)
                                      case o389 => decide
                                      case o390 =>
                                        exfalso
                                        omega
                                      refine lv_iconst (v := 0) hx hb dX10_plan_412 ?o391 ?_
                                      case o391 => decide
                                      refine lv_istore (lv' := [(6, .int (0 : Int32)), (10, .int iv372_10), (9, .int iv221_9), (8, .int iv221_8), (7, .int iv221_7), (5, .int iv204_5), (4, .int iv204_4), (3, .int r_27), (0, .ref x), (1, .int i1), (2, .int i2)]) hx hb dX10_plan_413 hl ?o392 rfl (fun ls hl => ?_)
                                      case o392 => decide
                                      refine lv_iload hx hb dX10_plan_415 (lv_at hl 0 rfl) ?_
                                      refine hb_if_eq (zx := 0) (tgt := 431) hx hb ?o393 dX10_plan_417 ?o394 (fun c_109 => ?_) (fun c_109 => absurd c_109 ?o395)
                                      case o393 => decide
                                      case o394 => decide
                                      case o395 => decide
                                      have hm12 : hx_m12 ia372_zmo := (fun k hk => by have q := hT.ei (gzmo.S hM) tt_105 (k := k) hk; rw [nia372_zmo] at q; exact q)
                                      have hvb := hx_V_b hm12
                                      refine lv_goto (tgt := 204) hx hb dX10_plan_431 ?o396 ?_
                                      case o396 => decide
                                      have zk_0 : (0 : Int32).toInt = 0 := ?o397
                                      case o397 => decide
                                      refine ih204 iv204_4 iv204_5 (0 : Int32) ia372_zmo ia204_zbm _ _ hL1 hl1 (i32_r _).1 (i32_r _).2 (i32_r _).1 (i32_r _).2 ?o398 ?o399 (hp_OD_n hSM9 (hq_o hkl9) (fun j hj => vi372_2 j ?o400 hj) ?o401) hm12 ls ?o402 hW hT hM f_x_72 ffw27_x_75 nia372_zmo nia204_zbm af_zpc af_zpw af_zpk nia27_zfo nia27_zre nia27_zle (lv_sub hl [0, 5, 6, 7, 8, 9, 10] rfl)
                                      case o398 => decide
                                      case o399 => decide
                                      case o400 => omega
                                      case o401 => decide
                                      case o402 => omega
                                    · skip
                                      refine lv_aload_n hx hb dX10_plan_377 rfl (lv_at hl 8 rfl) ?_
                                      refine hk_getr hx hb hts hC_10 hown hW (gx.S hM) tt_10 79 ?o403 rfl kw_1222 ⟨rfl, rfl, rfl⟩ ((hM.o gx trivial rfl).2.trans f_x_79) dX10_plan_378 ?_
                                      case o403 => decide
                                      refine lv_iload hx hb dX10_plan_381 (lv_at hl 0 rfl) ?_
                                      refine hx_iald hx hb hW hT (gzmo.S hM) tt_105 rfl ⟨?o404, ?o405⟩ dX10_plan_383 (fun x_110 ex_110 lx_110 ux_110 => ?_)
                                      case o404 => omega
                                      case o405 => omega
                                      have ax_110 : x_110 = ia372_zmo iv372_10.toNatClampNeg := ex_110.trans (congrFun nia372_zmo _)
                                      refine lv_bipush (v := 12) hx hb dX10_plan_384 ?o406 ?_
                                      case o406 => decide
                                      refine hb_icmp_ne (zx := x_110.toInt) (zy := 12) (tgt := 403) hx hb rfl ?o407 dX10_plan_386 ?o408 (fun c_111 => ?_) (fun c_111 => ?_)
                                      case o407 => decide
                                      case o408 => decide
                                      · skip
                                        replace c_111 : x_110.toInt ≤ 11 := ?o409
                                        case o409 => omega
                                        refine lv_iload hx hb dX10_plan_403 (lv_at hl 0 rfl) ?_
                                        refine hb_if_lt (zx := iv372_10.toInt) (tgt := 412) hx hb rfl dX10_plan_405 ?o410 (fun c_112 => ?o411) (fun c_112 => ?_)
                                        case o410 => decide
                                        case o411 =>
                                          exfalso
                                          omega
                                        refine lv_iconst (v := 1) hx hb dX10_plan_408 ?o412 ?_
                                        case o412 => decide
                                        refine lv_goto (tgt := 413) hx hb dX10_plan_409 ?o413 ?_
                                        case o413 => decide
                                        refine lv_istore (lv' := [(6, .int (1 : Int32)), (10, .int iv372_10), (9, .int iv221_9), (8, .int iv221_8), (7, .int iv221_7), (5, .int iv204_5), (4, .int iv204_4), (3, .int r_27), (0, .ref x), (1, .int i1), (2, .int i2)]) hx hb dX10_plan_413 hl ?o414 rfl (fun ls hl => ?_)
                                        case o414 => decide
                                        refine lv_iload hx hb dX10_plan_415 (lv_at hl 0 rfl) ?_
                                        refine hb_if_eq (zx := 1) (tgt := 431) hx hb ?o415 dX10_plan_417 ?o416 (fun c_113 => absurd c_113 ?o417) (fun c_113 => ?_)
                                        case o415 => decide
                                        case o416 => decide
                                        case o417 => decide
                                        refine lv_aload_n hx hb dX10_plan_420 rfl (lv_at hl 8 rfl) ?_
                                        refine hk_getr hx hb hts hC_10 hown hW (gx.S hM) tt_10 79 ?o418 rfl kw_1222 ⟨rfl, rfl, rfl⟩ ((hM.o gx trivial rfl).2.trans f_x_79) dX10_plan_421 ?_
                                        case o418 => decide
                                        refine lv_iload hx hb dX10_plan_424 (lv_at hl 1 rfl) ?_
                                        refine lv_dup2_11 hx hb dX10_plan_426 rfl rfl ?_
                                        refine hx_iald hx hb hW hT (gzmo.S hM) tt_105 rfl ⟨?o419, ?o420⟩ dX10_plan_427 (fun x_114 ex_114 lx_114 ux_114 => ?_)
                                        case o419 => omega
                                        case o420 => omega
                                        have ax_114 : x_114 = ia372_zmo iv372_10.toNatClampNeg := ex_114.trans (congrFun nia372_zmo _)
                                        obtain rfl : x_110 = x_114 := ex_110.trans ex_114.symm
                                        refine lv_iconst (v := 1) hx hb dX10_plan_428 ?o421 ?_
                                        case o421 => decide
                                        refine lv_iadd hx hb dX10_plan_429 ?_
                                        have rg_115 := i32_r x_110
                                        refine lv_topi (fun x_116 ex_116 => ?_)
                                        have zx_116 : x_116.toInt = x_110.toInt + 1 := ?o422
                                        case o422 =>
                                          rw [ex_116]
                                          refine i32_add rfl ?o423 ?o424 ?o425
                                          case o423 => decide
                                          case o424 => omega
                                          case o425 => omega
                                        have nia372_zmoO := nia372_zmo
                                        refine hx_iast hx hb hW hT (hx_S.rf (M := [(105, 0)])) (gzmo.S hM) tt_105 rfl ⟨?o426, ?o427⟩ rfl ⟨?o428, ?o429⟩ (List.mem_singleton.mpr rfl) dX10_plan_430 (fun H locs h_117 eh_117 hW hT hs => ?_)
                                        case o426 => omega
                                        case o427 => omega
                                        case o428 => omega
                                        case o429 => omega
                                        replace f_x_72 := (hs.o (gx.S hM) trivial rfl).1.trans f_x_72
                                        replace ffw27_x_75 := (hs.o (gx.S hM) trivial rfl).1.trans ffw27_x_75
                                        replace af_zpc : h_117.2.1 zpc = clf := (funext fun j => (hs.a (gzpc.S hM) rfl j).1).trans af_zpc
                                        replace af_zpw : h_117.2.1 zpw = wlf := (funext fun j => (hs.a (gzpw.S hM) rfl j).1).trans af_zpw
                                        replace af_zpk : h_117.2.1 zpk = wsf := (funext fun j => (hs.a (gzpk.S hM) rfl j).1).trans af_zpk
                                        replace nia27_zfo : h_117.2.1 zfo = ia27_zfo := (funext fun j => (hs.a (gzfo.S hM) rfl j).1).trans nia27_zfo
                                        replace nia27_zre : h_117.2.1 zre = ia27_zre := (funext fun j => (hs.a (gzre.S hM) rfl j).1).trans nia27_zre
                                        replace nia27_zle : h_117.2.1 zle = ia27_zle := (funext fun j => (hs.a (gzle.S hM) rfl j).1).trans nia27_zle
                                        replace nia204_zbm : h_117.2.1 zbm = ia204_zbm := (funext fun j => (hs.a (gzbm.S hM) rfl j).1).trans nia204_zbm
                                        replace hM := hM.tr (hs.mono ?o430)
                                        case o430 => decide
                                        obtain ⟨fa_118, dfa_118⟩ : ∃ g : Nat → Int32, g = hx_up ia372_zmo iv372_10.toNatClampNeg x_116 := ⟨_, rfl⟩
                                        have nfa_118 : h_117.2.1 zmo = fa_118 := ?o431
                                        case o431 =>
                                          rw [eh_117, dfa_118, ← nia372_zmoO]
                                          exact hx_pi_fun _ _ _ _
                                        have hvq := (hx_V_up ?o432 ?o433 ax_110 dfa_118).2 ?o434
                                        case o432 => omega
                                        case o433 => omega
                                        case o434 => omega
                                        have hwq := hx_w_b (i := (fw27_x_75.toInt - 1 : Int))
                                        have hm12 : hx_m12 fa_118 := (fun k hk => by have q := hT.ei (gzmo.S hM) tt_105 (k := k) hk; rw [nfa_118] at q; exact q)
                                        have hvb := hx_V_b hm12
                                        refine lv_goto (tgt := 204) hx hb dX10_plan_431 ?o435 ?_
                                        case o435 => decide
                                        have zk_1 : (1 : Int32).toInt = 1 := ?o436
                                        case o436 => decide
                                        refine ih204 iv204_4 iv204_5 (1 : Int32) fa_118 ia204_zbm _ _ hL1 h_117 (i32_r _).1 (i32_r _).2 (i32_r _).1 (i32_r _).2 ?o437 ?o438 (hp_OD_y (i := iv372_10.toInt.toNat) hSM9 (hq_o hkl9) ?o439 (fun j h1 h2 => vi372_2 j ?o440 h2) (fun z9 => by have h9 := vi372_1 iv372_10.toInt.toNat (by omega); rw [if_pos (by omega), z9, show ia372_zmo iv372_10.toInt.toNat = x_110 from ax_110.symm] at h9; omega) (hp_E_u (ix := iv372_10.toInt.toNat) vi372_1 ?o441 ?o442 ?o443 dfa_118 (by rw [show ia372_zmo iv372_10.toInt.toNat = x_110 from ax_110.symm]; omega)) ?o444) hm12 ls ?o445 hW hT hM f_x_72 ffw27_x_75 nfa_118 nia204_zbm af_zpc af_zpw af_zpk nia27_zfo nia27_zre nia27_zle (lv_sub hl [0, 5, 6, 7, 8, 9, 10] rfl)
                                        case o437 => decide
                                        case o438 => decide
                                        case o439 => omega
                                        case o440 => omega
                                        case o441 => omega
                                        case o442 => omega
                                        case o443 => omega
                                        case o444 => decide
                                        case o445 => omega
                                      · skip
                                        have hin9 : ((iv372_10.toInt.toNat : Nat) : Int) = iv372_10.toInt := Int.toNat_of_nonneg ?o446
                                        case o446 => omega
                                        refine lv_aload_n hx hb dX10_plan_389 rfl (lv_at hl 8 rfl) ?_
                                        refine hk_getr hx hb hts hC_10 hown hW (gx.S hM) tt_10 79 ?o447 rfl kw_1222 ⟨rfl, rfl, rfl⟩ ((hM.o gx trivial rfl).2.trans f_x_79) dX10_plan_390 ?_
                                        case o447 => decide
                                        refine lv_iload hx hb dX10_plan_393 (lv_at hl 0 rfl) ?_
                                        refine lv_iconst (v := 0) hx hb dX10_plan_395 ?o448 ?_
                                        case o448 => decide
                                        have nia372_zmoO := nia372_zmo
                                        refine hx_iast hx hb hW hT (hx_S.rf (M := [(105, 0)])) (gzmo.S hM) tt_105 rfl ⟨?o449, ?o450⟩ rfl ?o451 (List.mem_singleton.mpr rfl) dX10_plan_396 (fun H locs h_119 eh_119 hW hT hs => ?_)
                                        case o449 => omega
                                        case o450 => omega
                                        case o451 => decide
                                        replace f_x_72 := (hs.o (gx.S hM) trivial rfl).1.trans f_x_72
                                        replace ffw27_x_75 := (hs.o (gx.S hM) trivial rfl).1.trans ffw27_x_75
                                        replace af_zpc : h_119.2.1 zpc = clf := (funext fun j => (hs.a (gzpc.S hM) rfl j).1).trans af_zpc
                                        replace af_zpw : h_119.2.1 zpw = wlf := (funext fun j => (hs.a (gzpw.S hM) rfl j).1).trans af_zpw
                                        replace af_zpk : h_119.2.1 zpk = wsf := (funext fun j => (hs.a (gzpk.S hM) rfl j).1).trans af_zpk
                                        replace nia27_zfo : h_119.2.1 zfo = ia27_zfo := (funext fun j => (hs.a (gzfo.S hM) rfl j).1).trans nia27_zfo
                                        replace nia27_zre : h_119.2.1 zre = ia27_zre := (funext fun j => (hs.a (gzre.S hM) rfl j).1).trans nia27_zre
                                        replace nia27_zle : h_119.2.1 zle = ia27_zle := (funext fun j => (hs.a (gzle.S hM) rfl j).1).trans nia27_zle
                                        replace nia204_zbm : h_119.2.1 zbm = ia204_zbm := (funext fun j => (hs.a (gzbm.S hM) rfl j).1).trans nia204_zbm
                                        replace hM := hM.tr (hs.mono ?o452)
                                        case o452 => decide
                                        obtain ⟨fa_120, dfa_120⟩ : ∃ g : Nat → Int32, g = hx_up ia372_zmo iv372_10.toNatClampNeg (0 : Int32) := ⟨_, rfl⟩
                                        have nfa_120 : h_119.2.1 zmo = fa_120 := ?o453
                                        case o453 =>
                                          rw [eh_119, dfa_120, ← nia372_zmoO]
                                          exact hx_pi_fun _ _ _ _
                                        obtain ⟨x_121, ex_121⟩ : ∃ y : Int32, y = iv372_10 + Int32.ofInt (-1) := ⟨_, rfl⟩
                                        have rg_122 := i32_r iv372_10
                                        have zx_121 : x_121.toInt = iv372_10.toInt + (-1) := ?o454
                                        case o454 =>
                                          rw [ex_121]
                                          refine i32_add rfl ?o455 ?o456 ?o457
                                          case o455 => decide
                                          case o456 => omega
                                          case o457 => omega
                                        refine lv_iinc (v := x_121) (lv' := [(10, .int x_121), (9, .int iv221_9), (8, .int iv221_8), (7, .int iv221_7), (6, .int iv204_6), (5, .int iv204_5), (4, .int iv204_4), (3, .int r_27), (0, .ref x), (1, .int i1), (2, .int i2)]) hx hb dX10_plan_397 hl (k := 0) rfl ex_121.symm ?o458 rfl (fun ls hl => ?_)
                                        case o458 => decide
                                        refine lv_goto (tgt := 372) hx hb dX10_plan_400 ?o459 ?_
                                        case o459 => decide
                                        refine ih372 x_121 fa_120 _ _ hL1 h_119 ?o460 ?o461 (by have q := (hx_V_up (by omega) (by omega) ax_110 dfa_120).1 (by omega) (by decide); rw [show x_121.toInt = iv372_10.toInt - 1 from by omega]; omega) (hp_E_s vi372_1 vi372_2 ?o462 ?o463 (by unfold Int32.toNatClampNeg; omega) (by rw [show ia372_zmo iv372_10.toNatClampNeg = x_110 from ax_110.symm]; omega) dfa_120 zx_121).1 (hp_E_s vi372_1 vi372_2 ?o464 ?o465 (by unfold Int32.toNatClampNeg; omega) (by rw [show ia372_zmo iv372_10.toNatClampNeg = x_110 from ax_110.symm]; omega) dfa_120 zx_121).2 ?o466 ls ?o467 hW hT hM f_x_72 ffw27_x_75 nfa_120 af_zpc af_zpw af_zpk nia27_zfo nia27_zre nia27_zle nia204_zbm (lv_sub hl [0, 1, 2, 3, 4, 5, 6, 7, 8, 9, 10] rfl)
                                        case o460 => omega
                                        case o461 => omega
                                        case o462 => omega
                                        case o463 => omega
                                        case o464 => omega
                                        case o465 => omega
                                        case o466 => omega
                                        case o467 => omega
                                refine loop372 5 x_106 ia204_zmo _ _ hL1 hl1 ?o468 ?o469 (by rw [zx_106]) (fun j hj => by rw [if_pos (by omega)]; exact hdg9 j hj) (fun j h1 h2 => ?o470) ?o471 ls ?o472 hW hT hM f_x_72 ffw27_x_75 nia204_zmo af_zpc af_zpw af_zpk nia27_zfo nia27_zre nia27_zle nia204_zbm hl
                                case o468 => omega
                                case o469 => omega
                                case o470 =>
                                  exfalso
                                  omega
                                case o471 => omega
                                case o472 => omega
                              · skip
                                refine lv_iload hx hb dX10_plan_317 (lv_at hl 1 rfl) ?_
                                refine lv_iload hx hb dX10_plan_319 (lv_at hl 5 rfl) ?_
                                refine hb_icmp_ge (zx := iv221_9.toInt) (zy := iv204_5.toInt) (tgt := 364) hx hb rfl rfl dX10_plan_321 ?o473 (fun c_123 => ?_) (fun c_123 => ?_)
                                case o473 => decide
                                · skip
                                  have hSM9 : hp_SM (hp_F (hp_f aF9 rF9 i2.toInt r_27.toInt fw27_x_75.toInt.toNat) 0 (k9 + 1) hp_s0) iv204_4.toInt iv204_5.toInt ia204_zbm fw27_x_75.toInt.toNat := hp_SM_s hs9 hdg9 ht9 hL9 hA9 (Or.inr ⟨?o474, rfl, rfl, rfl⟩)
                                  case o474 => omega
                                  refine lv_aload_n hx hb dX10_plan_364 rfl (lv_at hl 8 rfl) ?_
                                  refine hk_geti hx hb hts hC_10 hown hW (gx.S hM) tt_10 75 ?o475 rfl kw_1218 ⟨rfl, rfl, rfl⟩ ffw27_x_75 dX10_plan_365 ?_
                                  case o475 => decide
                                  refine lv_iconst (v := 1) hx hb dX10_plan_368 ?o476 ?_
                                  case o476 => decide
                                  refine lv_isub hx hb dX10_plan_369 ?_
                                  have rg_124 := i32_r fw27_x_75
                                  refine lv_topi (fun x_125 ex_125 => ?_)
                                  have zx_125 : x_125.toInt = fw27_x_75.toInt - 1 := ?o477
                                  case o477 =>
                                    rw [ex_125]
                                    refine i32_sub rfl ?o478 ?o479 ?o480
                                    case o478 => decide
                                    case o479 => omega
                                    case o480 => omega
                                  refine lv_istore (lv' := [(10, .int x_125), (9, .int iv221_9), (8, .int iv221_8), (7, .int iv221_7), (6, .int iv204_6), (5, .int iv204_5), (4, .int iv204_4), (3, .int r_27), (0, .ref x), (1, .int i1), (2, .int i2)]) hx hb dX10_plan_370 hl ?o481 rfl (fun ls hl => ?_)
                                  case o481 => decide
                                  have loop372 : ∀ (n372 : Nat) (iv372_10 : Int32) (ia372_zmo : Nat → Int32) (H : Heap) (locs : List Loc) (hL1 : List Nat) (hl1 : hx_h), -1 ≤ iv372_10.toInt → iv372_10.toInt ≤ 3 → (hx_V ia372_zmo + hx_w iv372_10.toInt = hx_V ia204_zmo + hx_w (fw27_x_75.toInt - 1)) → (∀ j : Nat, j < fw27_x_75.toInt.toNat → (ia372_zmo j).toInt = (if (j : Int) ≤ iv372_10.toInt then hp_dg fw27_x_75.toInt.toNat k9 j else 0)) → (∀ j : Nat, iv372_10.toInt < (j : Int) → j < fw27_x_75.toInt.toNat → hp_dg fw27_x_75.toInt.toNat k9 j = 12) → (iv372_10.toInt < fw27_x_75.toInt) → ∀ (ls : Array Slot), iv372_10.toInt + 1 < (n372 : Int) → hx_W T_tb (P_ty dA) (dC, dI) vwCl (hx_A L sz) s.heap hL1 hl1 s H locs → hx_T T_tb hL1 hl1 → hx_S T_tb [(10, 67), (10, 68), (10, 69), (10, 70), (10, 71), (10, 72), (10, 75), (100, 0), (101, 0), (102, 0), (103, 0), (104, 0), (105, 0), (106, 0), (107, 0)] L h hL1 hl1 → hl1.2.1 x 72 = td0 → hl1.2.1 x 75 = fw27_x_75 → hl1.2.1 zmo = ia372_zmo → hl1.2.1 zpc = clf → hl1.2.1 zpw = wlf → hl1.2.1 zpk = wsf → hl1.2.1 zfo = ia27_zfo → hl1.2.1 zre = ia27_zre → hl1.2.1 zle = ia27_zle → hl1.2.1 zbm = ia204_zbm → lv_has ls 12 [(10, .int iv372_10), (9, .int iv221_9), (8, .int iv221_8), (7, .int iv221_7), (6, .int iv204_6), (5, .int iv204_5), (4, .int iv204_4), (3, .int r_27), (0, .ref x), (1, .int i1), (2, .int i2)] → W p l e ({ frames := 3, cells := 0, slots := 0, locals := 71 }) s m ([.ref x, .int i1, .int i2] : List Value).toArray below meth c H locs 0 0 (MQ below (va_Qi (fun (r : Int32) (u : List Nat × hx_h) => (∃ (td1 : Int32) (clf1 : Nat → Int32) (wlf1 : Nat → Int32) (wsf1 : Nat → Int32), u.2.2.1 x 72 = td1 ∧ u.2.2.1 zpc = clf1 ∧ u.2.2.1 zpw = wlf1 ∧ u.2.2.1 zpk = wsf1 ∧ (hp_PS ((0 ≤ i1.toInt ∧ i1.toInt < pn0.toInt) ∧ 1 ≤ i2.toInt ∧ i2.toInt ≤ 99) (hp_ol agf (hz_Rn odf szf gdf owf svf (hz_rc A plf) pof pdf psm pkf pst nw0.toInt n0.toInt.toNat) i1.toInt c0.toInt.toNat).length (hp_ge (hp_ol agf (hz_Rn odf szf gdf owf svf (hz_rc A plf) pof pdf psm pkf pst nw0.toInt n0.toInt.toNat) i1.toInt c0.toInt.toNat)) (fun c9 => hz_mi ((fun c9 => (A (plf c9).toInt.toNat).2.1 2) (hp_ge (hp_ol agf (hz_Rn odf szf gdf owf svf (hz_rc A plf) pof pdf psm pkf pst nw0.toInt n0.toInt.toNat) i1.toInt c0.toInt.toNat) c9)) ((hz_Rn odf szf gdf owf svf (hz_rc A plf) pof pdf psm pkf pst nw0.toInt n0.toInt.toNat) (hp_ge (hp_ol agf (hz_Rn odf szf gdf owf svf (hz_rc A plf) pof pdf psm pkf pst nw0.toInt n0.toInt.toNat) i1.toInt c0.toInt.toNat) c9))) (fun c9 => (hz_Rn odf szf gdf owf svf (hz_rc A plf) pof pdf psm pkf pst nw0.toInt n0.toInt.toNat) (hp_ge (hp_ol agf (hz_Rn odf szf gdf owf svf (hz_rc A plf) pof pdf psm pkf pst nw0.toInt n0.toInt.toNat) i1.toInt c0.toInt.toNat) c9)) i2.toInt ((eaf i1.toInt.toNat).toInt - (A (hv_IF A nw0.toInt a0.toInt.toNat)).2.1 3 * (hdf i1.toInt.toNat).toInt) r.toInt td0.toInt td1.toInt clf clf1 wlf wlf1 wsf wsf1)) ∧ hx_T T_tb u.1 u.2 ∧ hx_S T_tb [(10, 67), (10, 68), (10, 69), (10, 70), (10, 71), (10, 72), (10, 75), (100, 0), (101, 0), (102, 0), (103, 0), (104, 0), (105, 0), (106, 0), (107, 0)] L h u.1 u.2) (hx_E T_tb (P_ty dA) (dC, dI) vwCl (hx_A L sz)) (hx_A L sz)) ([.ref x, .int i1, .int i2] : List Value).toArray s 0 0 (hx_A L sz)) (F0 m 372 ls []) := by
                                    intro n372
                                    induction n372 with
                                    | zero => intro iv372_10 ia372_zmo H locs hL1 hl1 bliv372_10 buiv372_10 vi372_0 vi372_1 vi372_2 vi372_3 ls hn372; exfalso; omega
                                    | succ n372 ih372 =>
                                      intro iv372_10 ia372_zmo H locs hL1 hl1 bliv372_10 buiv372_10 vi372_0 vi372_1 vi372_2 vi372_3 ls hn372 hW hT hM f_x_72 ffw27_x_75 nia372_zmo af_zpc af_zpw af_zpk nia27_zfo nia27_zre nia27_zle nia204_zbm hl
                                      refine lv_iload hx hb dX10_plan_372 (lv_at hl 0 rfl) ?_
                                      refine hb_if_lt (zx := iv372_10.toInt) (tgt := 403) hx hb rfl dX10_plan_374 ?o482 (fun c_126 => ?_) (fun c_126 => ?_)
                                      case o482 => decide
                                      · skip
                                        refine lv_iload hx hb dX10_plan_403 (lv_at hl 0 rfl) ?_
                                        refine hb_if_lt (zx := iv372_10.toInt) (tgt := 412) hx hb rfl dX10_plan_405 ?o483 (fun c_127 => ?_) (fun c_127 => ?o484)
                                        case o483 => decide
                                        case o484 =>
                                          exfalso
                                          omega
                                        refine lv_iconst (v := 0) hx hb dX10_plan_412 ?o485 ?_
                                        case o485 => decide
                                        refine lv_istore (lv' := [(6, .int (0 : Int32)), (10, .int iv372_10), (9, .int iv221_9), (8, .int iv221_8), (7, .int iv221_7), (5, .int iv204_5), (4, .int iv204_4), (3, .int r_27), (0, .ref x), (1, .int i1), (2, .int i2)]) hx hb dX10_plan_413 hl ?o486 rfl (fun ls hl => ?_)
                                        case o486 => decide
                                        refine lv_iload hx hb dX10_plan_415 (lv_at hl 0 rfl) ?_
                                        refine hb_if_eq (zx := 0) (tgt := 431) hx hb ?o487 dX10_plan_417 ?o488 (fun c_128 => ?_) (fun c_128 => absurd c_128 ?o489)
                                        case o487 => decide
                                        case o488 => decide
                                        case o489 => decide
                                        have hm12 : hx_m12 ia372_zmo := (fun k hk => by have q := hT.ei (gzmo.S hM) tt_105 (k := k) hk; rw [nia372_zmo] at q; exact q)
                                        have hvb := hx_V_b hm12
                                        refine lv_goto (tgt := 204) hx hb dX10_plan_431 ?o490 ?_
                                        case o490 => decide
                                        have zk_0 : (0 : Int32).toInt = 0 := ?o491
                                        case o491 => decide
                                        refine ih204 iv204_4 iv204_5 (0 : Int32) ia372_zmo ia204_zbm _ _ hL1 hl1 (i32_r _).1 (i32_r _).2 (i32_r _).1 (i32_r _).2 ?o492 ?o493 (hp_OD_n hSM9 (hq_o hkl9) (fun j hj => vi372_2 j ?o494 hj) ?o495) hm12 ls ?o496 hW hT hM f_x_72 ffw27_x_75 nia372_zmo nia204_zbm af_zpc af_zpw af_zpk nia27_zfo nia27_zre nia27_zle (lv_sub hl [0, 5, 6, 7, 8, 9, 10] rfl)
                                        case o492 => decide
                                        case o493 => decide
                                        case o494 => omega
                                        case o495 => decide
                                        case o496 => omega
                                      · skip
                                        refine lv_aload_n hx hb dX10_plan_377 rfl (lv_at hl 8 rfl) ?_
                                        refine hk_getr hx hb hts hC_10 hown hW (gx.S hM) tt_10 79 ?o497 rfl kw_1222 ⟨rfl, rfl, rfl⟩ ((hM.o gx trivial rfl).2.trans f_x_79) dX10_plan_378 ?_
                                        case o497 => decide
                                        refine lv_iload hx hb dX10_plan_381 (lv_at hl 0 rfl) ?_
                                        refine hx_iald hx hb hW hT (gzmo.S hM) tt_105 rfl ⟨?o498, ?o499⟩ dX10_plan_383 (fun x_129 ex_129 lx_129 ux_129 => ?_)
                                        case o498 => omega
                                        case o499 => omega
                                        have ax_129 : x_129 = ia372_zmo iv372_10.toNatClampNeg := ex_129.trans (congrFun nia372_zmo _)
                                        refine lv_bipush (v := 12) hx hb dX10_plan_384 ?o500 ?_
                                        case o500 => decide
                                        refine hb_icmp_ne (zx := x_129.toInt) (zy := 12) (tgt := 403) hx hb rfl ?o501 dX10_plan_386 ?o502 (fun c_130 => ?_) (fun c_130 => ?_)
                                        case o501 => decide
                                        case o502 => decide
                                        · skip
                                          replace c_130 : x_129.toInt ≤ 11 := ?o503
                                          case o503 => omega
                                          refine lv_iload hx hb dX10_plan_403 (lv_at hl 0 rfl) ?_
                                          refine hb_if_lt (zx := iv372_10.toInt) (tgt := 412) hx hb rfl dX10_plan_405 ?o504 (fun c_131 => ?o505) (fun c_131 => ?_)
                                          case o504 => decide
                                          case o505 =>
                                            exfalso
                                            omega
                                          refine lv_iconst (v := 1) hx hb dX10_plan_408 ?o506 ?_
                                          case o506 => decide
                                          refine lv_goto (tgt := 413) hx hb dX10_plan_409 ?o507 ?_
                                          case o507 => decide
                                          refine lv_istore (lv' := [(6, .int (1 : Int32)), (10, .int iv372_10), (9, .int iv221_9), (8, .int iv221_8), (7, .int iv221_7), (5, .int iv204_5), (4, .int iv204_4), (3, .int r_27), (0, .ref x), (1, .int i1), (2, .int i2)]) hx hb dX10_plan_413 hl ?o508 rfl (fun ls hl => ?_)
                                          case o508 => decide
                                          refine lv_iload hx hb dX10_plan_415 (lv_at hl 0 rfl) ?_
                                          refine hb_if_eq (zx := 1) (tgt := 431) hx hb ?o509 dX10_plan_417 ?o510 (fun c_132 => absurd c_132 ?o511) (fun c_132 => ?_)
                                          case o509 => decide
                                          case o510 => decide
                                          case o511 => decide
                                          refine lv_aload_n hx hb dX10_plan_420 rfl (lv_at hl 8 rfl) ?_
                                          refine hk_getr hx hb hts hC_10 hown hW (gx.S hM) tt_10 79 ?o512 rfl kw_1222 ⟨rfl, rfl, rfl⟩ ((hM.o gx trivial rfl).2.trans f_x_79) dX10_plan_421 ?_
                                          case o512 => decide
                                          refine lv_iload hx hb dX10_plan_424 (lv_at hl 1 rfl) ?_
                                          refine lv_dup2_11 hx hb dX10_plan_426 rfl rfl ?_
                                          refine hx_iald hx hb hW hT (gzmo.S hM) tt_105 rfl ⟨?o513, ?o514⟩ dX10_plan_427 (fun x_133 ex_133 lx_133 ux_133 => ?_)
                                          case o513 => omega
                                          case o514 => omega
                                          have ax_133 : x_133 = ia372_zmo iv372_10.toNatClampNeg := ex_133.trans (congrFun nia372_zmo _)
                                          obtain rfl : x_129 = x_133 := ex_129.trans ex_133.symm
                                          refine lv_iconst (v := 1) hx hb dX10_plan_428 ?o515 ?_
                                          case o515 => decide
                                          refine lv_iadd hx hb dX10_plan_429 ?_
                                          have rg_134 := i32_r x_129
                                          refine lv_topi (fun x_135 ex_135 => ?_)
                                          have zx_135 : x_135.toInt = x_129.toInt + 1 := ?o516
                                          case o516 =>
                                            rw [ex_135]
                                            refine i32_add rfl ?o517 ?o518 ?o519
                                            case o517 => decide
                                            case o518 => omega
                                            case o519 => omega
                                          have nia372_zmoO := nia372_zmo
                                          refine hx_iast hx hb hW hT (hx_S.rf (M := [(105, 0)])) (gzmo.S hM) tt_105 rfl ⟨?o520, ?o521⟩ rfl ⟨?o522, ?o523⟩ (List.mem_singleton.mpr rfl) dX10_plan_430 (fun H locs h_136 eh_136 hW hT hs => ?_)
                                          case o520 => omega
                                          case o521 => omega
                                          case o522 => omega
                                          case o523 => omega
                                          replace f_x_72 := (hs.o (gx.S hM) trivial rfl).1.trans f_x_72
                                          replace ffw27_x_75 := (hs.o (gx.S hM) trivial rfl).1.trans ffw27_x_75
                                          replace af_zpc : h_136.2.1 zpc = clf := (funext fun j => (hs.a (gzpc.S hM) rfl j).1).trans af_zpc
                                          replace af_zpw : h_136.2.1 zpw = wlf := (funext fun j => (hs.a (gzpw.S hM) rfl j).1).trans af_zpw
                                          replace af_zpk : h_136.2.1 zpk = wsf := (funext fun j => (hs.a (gzpk.S hM) rfl j).1).trans af_zpk
                                          replace nia27_zfo : h_136.2.1 zfo = ia27_zfo := (funext fun j => (hs.a (gzfo.S hM) rfl j).1).trans nia27_zfo
                                          replace nia27_zre : h_136.2.1 zre = ia27_zre := (funext fun j => (hs.a (gzre.S hM) rfl j).1).trans nia27_zre
                                          replace nia27_zle : h_136.2.1 zle = ia27_zle := (funext fun j => (hs.a (gzle.S hM) rfl j).1).trans nia27_zle
                                          replace nia204_zbm : h_136.2.1 zbm = ia204_zbm := (funext fun j => (hs.a (gzbm.S hM) rfl j).1).trans nia204_zbm
                                          replace hM := hM.tr (hs.mono ?o524)
                                          case o524 => decide
                                          obtain ⟨fa_137, dfa_137⟩ : ∃ g : Nat → Int32, g = hx_up ia372_zmo iv372_10.toNatClampNeg x_135 := ⟨_, rfl⟩
                                          have nfa_137 : h_136.2.1 zmo = fa_137 := ?o525
                                          case o525 =>
                                            rw [eh_136, dfa_137, ← nia372_zmoO]
                                            exact hx_pi_fun _ _ _ _
                                          have hvq := (hx_V_up ?o526 ?o527 ax_129 dfa_137).2 ?o528
                                          case o526 => omega
                                          case o527 => omega
                                          case o528 => omega
                                          have hwq := hx_w_b (i := (fw27_x_75.toInt - 1 : Int))
                                          have hm12 : hx_m12 fa_137 := (fun k hk => by have q := hT.ei (gzmo.S hM) tt_105 (k := k) hk; rw [nfa_137] at q; exact q)
                                          have hvb := hx_V_b hm12
                                          refine lv_goto (tgt := 204) hx hb dX10_plan_431 ?o529 ?_
                                          case o529 => decide
                                          have zk_1 : (1 : Int32).toInt = 1 := ?o530
                                          case o530 => decide
                                          refine ih204 iv204_4 iv204_5 (1 : Int32) fa_137 ia204_zbm _ _ hL1 h_136 (i32_r _).1 (i32_r _).2 (i32_r _).1 (i32_r _).2 ?o531 ?o532 (hp_OD_y (i := iv372_10.toInt.toNat) hSM9 (hq_o hkl9) ?o533 (fun j h1 h2 => vi372_2 j ?o534 h2) (fun z9 => by have h9 := vi372_1 iv372_10.toInt.toNat (by omega); rw [if_pos (by omega), z9, show ia372_zmo iv372_10.toInt.toNat = x_129 from ax_129.symm] at h9; omega) (hp_E_u (ix := iv372_10.toInt.toNat) vi372_1 ?o535 ?o536 ?o537 dfa_137 (by rw [show ia372_zmo iv372_10.toInt.toNat = x_129 from ax_129.symm]; omega)) ?o538) hm12 ls ?o539 hW hT hM f_x_72 ffw27_x_75 nfa_137 nia204_zbm af_zpc af_zpw af_zpk nia27_zfo nia27_zre nia27_zle (lv_sub hl [0, 5, 6, 7, 8, 9, 10] rfl)
                                          case o531 => decide
                                          case o532 => decide
                                          case o533 => omega
                                          case o534 => omega
                                          case o535 => omega
                                          case o536 => omega
                                          case o537 => omega
                                          case o538 => decide
                                          case o539 => omega
                                        · skip
                                          have hin9 : ((iv372_10.toInt.toNat : Nat) : Int) = iv372_10.toInt := Int.toNat_of_nonneg ?o540
                                          case o540 => omega
                                          refine lv_aload_n hx hb dX10_plan_389 rfl (lv_at hl 8 rfl) ?_
                                          refine hk_getr hx hb hts hC_10 hown hW (gx.S hM) tt_10 79 ?o541 rfl kw_1222 ⟨rfl, rfl, rfl⟩ ((hM.o gx trivial rfl).2.trans f_x_79) dX10_plan_390 ?_
                                          case o541 => decide
                                          refine lv_iload hx hb dX10_plan_393 (lv_at hl 0 rfl) ?_
                                          refine lv_iconst (v := 0) hx hb dX10_plan_395 ?o542 ?_
                                          case o542 => decide
                                          have nia372_zmoO := nia372_zmo
                                          refine hx_iast hx hb hW hT (hx_S.rf (M := [(105, 0)])) (gzmo.S hM) tt_105 rfl ⟨?o543, ?o544⟩ rfl ?o545 (List.mem_singleton.mpr rfl) dX10_plan_396 (fun H locs h_138 eh_138 hW hT hs => ?_)
                                          case o543 => omega
                                          case o544 => omega
                                          case o545 => decide
                                          replace f_x_72 := (hs.o (gx.S hM) trivial rfl).1.trans f_x_72
                                          replace ffw27_x_75 := (hs.o (gx.S hM) trivial rfl).1.trans ffw27_x_75
                                          replace af_zpc : h_138.2.1 zpc = clf := (funext fun j => (hs.a (gzpc.S hM) rfl j).1).trans af_zpc
                                          replace af_zpw : h_138.2.1 zpw = wlf := (funext fun j => (hs.a (gzpw.S hM) rfl j).1).trans af_zpw
                                          replace af_zpk : h_138.2.1 zpk = wsf := (funext fun j => (hs.a (gzpk.S hM) rfl j).1).trans af_zpk
                                          replace nia27_zfo : h_138.2.1 zfo = ia27_zfo := (funext fun j => (hs.a (gzfo.S hM) rfl j).1).trans nia27_zfo
                                          replace nia27_zre : h_138.2.1 zre = ia27_zre := (funext fun j => (hs.a (gzre.S hM) rfl j).1).trans nia27_zre
                                          replace nia27_zle : h_138.2.1 zle = ia27_zle := (funext fun j => (hs.a (gzle.S hM) rfl j).1).trans nia27_zle
                                          replace nia204_zbm : h_138.2.1 zbm = ia204_zbm := (funext fun j => (hs.a (gzbm.S hM) rfl j).1).trans nia204_zbm
                                          replace hM := hM.tr (hs.mono ?o546)
                                          case o546 => decide
                                          obtain ⟨fa_139, dfa_139⟩ : ∃ g : Nat → Int32, g = hx_up ia372_zmo iv372_10.toNatClampNeg (0 : Int32) := ⟨_, rfl⟩
                                          have nfa_139 : h_138.2.1 zmo = fa_139 := ?o547
                                          case o547 =>
                                            rw [eh_138, dfa_139, ← nia372_zmoO]
                                            exact hx_pi_fun _ _ _ _
                                          obtain ⟨x_140, ex_140⟩ : ∃ y : Int32, y = iv372_10 + Int32.ofInt (-1) := ⟨_, rfl⟩
                                          have rg_141 := i32_r iv372_10
                                          have zx_140 : x_140.toInt = iv372_10.toInt + (-1) := ?o548
                                          case o548 =>
                                            rw [ex_140]
                                            refine i32_add rfl ?o549 ?o550 ?o551
                                            case o549 => decide
                                            case o550 => omega
                                            case o551 => omega
                                          refine lv_iinc (v := x_140) (lv' := [(10, .int x_140), (9, .int iv221_9), (8, .int iv221_8), (7, .int iv221_7), (6, .int iv204_6), (5, .int iv204_5), (4, .int iv204_4), (3, .int r_27), (0, .ref x), (1, .int i1), (2, .int i2)]) hx hb dX10_plan_397 hl (k := 0) rfl ex_140.symm ?o552 rfl (fun ls hl => ?_)
                                          case o552 => decide
                                          refine lv_goto (tgt := 372) hx hb dX10_plan_400 ?o553 ?_
                                          case o553 => decide
                                          refine ih372 x_140 fa_139 _ _ hL1 h_138 ?o554 ?o555 (by have q := (hx_V_up (by omega) (by omega) ax_129 dfa_139).1 (by omega) (by decide); rw [show x_140.toInt = iv372_10.toInt - 1 from by omega]; omega) (hp_E_s vi372_1 vi372_2 ?o556 ?o557 (by unfold Int32.toNatClampNeg; omega) (by rw [show ia372_zmo iv372_10.toNatClampNeg = x_129 from ax_129.symm]; omega) dfa_139 zx_140).1 (hp_E_s vi372_1 vi372_2 ?o558 ?o559 (by unfold Int32.toNatClampNeg; omega) (by rw [show ia372_zmo iv372_10.toNatClampNeg = x_129 from ax_129.symm]; omega) dfa_139 zx_140).2 ?o560 ls ?o561 hW hT hM f_x_72 ffw27_x_75 nfa_139 af_zpc af_zpw af_zpk nia27_zfo nia27_zre nia27_zle nia204_zbm (lv_sub hl [0, 1, 2, 3, 4, 5, 6, 7, 8, 9, 10] rfl)
                                          case o554 => omega
                                          case o555 => omega
                                          case o556 => omega
                                          case o557 => omega
                                          case o558 => omega
                                          case o559 => omega
                                          case o560 => omega
                                          case o561 => omega
                                  refine loop372 5 x_125 ia204_zmo _ _ hL1 hl1 ?o562 ?o563 (by rw [zx_125]) (fun j hj => by rw [if_pos (by omega)]; exact hdg9 j hj) (fun j h1 h2 => ?o564) ?o565 ls ?o566 hW hT hM f_x_72 ffw27_x_75 nia204_zmo af_zpc af_zpw af_zpk nia27_zfo nia27_zre nia27_zle nia204_zbm hl
                                  case o562 => omega
                                  case o563 => omega
                                  case o564 =>
                                    exfalso
                                    omega
                                  case o565 => omega
                                  case o566 => omega
                                · skip
                                  refine lv_iload hx hb dX10_plan_324 (lv_at hl 2 rfl) ?_
                                  refine lv_istore (lv' := [(4, .int iv221_8), (10, .int iv221_10), (9, .int iv221_9), (8, .int iv221_8), (7, .int iv221_7), (6, .int iv204_6), (5, .int iv204_5), (3, .int r_27), (0, .ref x), (1, .int i1), (2, .int i2)]) hx hb dX10_plan_326 hl ?o567 rfl (fun ls hl => ?_)
                                  case o567 => decide
                                  refine lv_iload hx hb dX10_plan_328 (lv_at hl 2 rfl) ?_
                                  refine lv_istore (lv' := [(5, .int iv221_9), (4, .int iv221_8), (10, .int iv221_10), (9, .int iv221_9), (8, .int iv221_8), (7, .int iv221_7), (6, .int iv204_6), (3, .int r_27), (0, .ref x), (1, .int i1), (2, .int i2)]) hx hb dX10_plan_330 hl ?o568 rfl (fun ls hl => ?_)
                                  case o568 => decide
                                  refine lv_iconst (v := 0) hx hb dX10_plan_332 ?o569 ?_
                                  case o569 => decide
                                  refine lv_istore (lv' := [(10, .int (0 : Int32)), (5, .int iv221_9), (4, .int iv221_8), (9, .int iv221_9), (8, .int iv221_8), (7, .int iv221_7), (6, .int iv204_6), (3, .int r_27), (0, .ref x), (1, .int i1), (2, .int i2)]) hx hb dX10_plan_333 hl ?o570 rfl (fun ls hl => ?_)
                                  case o570 => decide
                                  have loop335 : ∀ (n335 : Nat) (iv335_10 : Int32) (ia335_zbm : Nat → Int32) (H : Heap) (locs : List Loc) (hL1 : List Nat) (hl1 : hx_h), 0 ≤ iv335_10.toInt → iv335_10.toInt ≤ 4 → (∀ k : Nat, (k : Int) < iv335_10.toInt → ia335_zbm k = ia204_zmo k) → (iv335_10.toInt ≤ fw27_x_75.toInt) → ∀ (ls : Array Slot), 4 - iv335_10.toInt < (n335 : Int) → hx_W T_tb (P_ty dA) (dC, dI) vwCl (hx_A L sz) s.heap hL1 hl1 s H locs → hx_T T_tb hL1 hl1 → hx_S T_tb [(10, 67), (10, 68), (10, 69), (10, 70), (10, 71), (10, 72), (10, 75), (100, 0), (101, 0), (102, 0), (103, 0), (104, 0), (105, 0), (106, 0), (107, 0)] L h hL1 hl1 → hl1.2.1 x 72 = td0 → hl1.2.1 x 75 = fw27_x_75 → hl1.2.1 zbm = ia335_zbm → hl1.2.1 zpc = clf → hl1.2.1 zpw = wlf → hl1.2.1 zpk = wsf → hl1.2.1 zfo = ia27_zfo → hl1.2.1 zre = ia27_zre → hl1.2.1 zle = ia27_zle → hl1.2.1 zmo = ia204_zmo → lv_has ls 12 [(10, .int iv335_10), (5, .int iv221_9), (4, .int iv221_8), (9, .int iv221_9), (8, .int iv221_8), (7, .int iv221_7), (6, .int iv204_6), (3, .int r_27), (0, .ref x), (1, .int i1), (2, .int i2)] → W p l e ({ frames := 3, cells := 0, slots := 0, locals := 71 }) s m ([.ref x, .int i1, .int i2] : List Value).toArray below meth c H locs 0 0 (MQ below (va_Qi (fun (r : Int32) (u : List Nat × hx_h) => (∃ (td1 : Int32) (clf1 : Nat → Int32) (wlf1 : Nat → Int32) (wsf1 : Nat → Int32), u.2.2.1 x 72 = td1 ∧ u.2.2.1 zpc = clf1 ∧ u.2.2.1 zpw = wlf1 ∧ u.2.2.1 zpk = wsf1 ∧ (hp_PS ((0 ≤ i1.toInt ∧ i1.toInt < pn0.toInt) ∧ 1 ≤ i2.toInt ∧ i2.toInt ≤ 99) (hp_ol agf (hz_Rn odf szf gdf owf svf (hz_rc A plf) pof pdf psm pkf pst nw0.toInt n0.toInt.toNat) i1.toInt c0.toInt.toNat).length (hp_ge (hp_ol agf (hz_Rn odf szf gdf owf svf (hz_rc A plf) pof pdf psm pkf pst nw0.toInt n0.toInt.toNat) i1.toInt c0.toInt.toNat)) (fun c9 => hz_mi ((fun c9 => (A (plf c9).toInt.toNat).2.1 2) (hp_ge (hp_ol agf (hz_Rn odf szf gdf owf svf (hz_rc A plf) pof pdf psm pkf pst nw0.toInt n0.toInt.toNat) i1.toInt c0.toInt.toNat) c9)) ((hz_Rn odf szf gdf owf svf (hz_rc A plf) pof pdf psm pkf pst nw0.toInt n0.toInt.toNat) (hp_ge (hp_ol agf (hz_Rn odf szf gdf owf svf (hz_rc A plf) pof pdf psm pkf pst nw0.toInt n0.toInt.toNat) i1.toInt c0.toInt.toNat) c9))) (fun c9 => (hz_Rn odf szf gdf owf svf (hz_rc A plf) pof pdf psm pkf pst nw0.toInt n0.toInt.toNat) (hp_ge (hp_ol agf (hz_Rn odf szf gdf owf svf (hz_rc A plf) pof pdf psm pkf pst nw0.toInt n0.toInt.toNat) i1.toInt c0.toInt.toNat) c9)) i2.toInt ((eaf i1.toInt.toNat).toInt - (A (hv_IF A nw0.toInt a0.toInt.toNat)).2.1 3 * (hdf i1.toInt.toNat).toInt) r.toInt td0.toInt td1.toInt clf clf1 wlf wlf1 wsf wsf1)) ∧ hx_T T_tb u.1 u.2 ∧ hx_S T_tb [(10, 67), (10, 68), (10, 69), (10, 70), (10, 71), (10, 72), (10, 75), (100, 0), (101, 0), (102, 0), (103, 0), (104, 0), (105, 0), (106, 0), (107, 0)] L h u.1 u.2) (hx_E T_tb (P_ty dA) (dC, dI) vwCl (hx_A L sz)) (hx_A L sz)) ([.ref x, .int i1, .int i2] : List Value).toArray s 0 0 (hx_A L sz)) (F0 m 335 ls []) := by
                                    intro n335
                                    induction n335 with
                                    | zero => intro iv335_10 ia335_zbm H locs hL1 hl1 bliv335_10 buiv335_10 vi335_0 vi335_1 ls hn335; exfalso; omega
                                    | succ n335 ih335 =>
                                      intro iv335_10 ia335_zbm H locs hL1 hl1 bliv335_10 buiv335_10 vi335_0 vi335_1 ls hn335 hW hT hM f_x_72 ffw27_x_75 nia335_zbm af_zpc af_zpw af_zpk nia27_zfo nia27_zre nia27_zle nia204_zmo hl
                                      have hin9 : ((iv335_10.toInt.toNat : Nat) : Int) = iv335_10.toInt := Int.toNat_of_nonneg ?o571
                                      case o571 => omega
                                      refine lv_iload hx hb dX10_plan_335 (lv_at hl 0 rfl) ?_
                                      refine lv_aload_n hx hb dX10_plan_337 rfl (lv_at hl 8 rfl) ?_
                                      refine hk_geti hx hb hts hC_10 hown hW (gx.S hM) tt_10 75 ?o572 rfl kw_1218 ⟨rfl, rfl, rfl⟩ ffw27_x_75 dX10_plan_338 ?_
                                      case o572 => decide
                                      refine hb_icmp_ge (zx := iv335_10.toInt) (zy := fw27_x_75.toInt) (tgt := 364) hx hb rfl rfl dX10_plan_341 ?o573 (fun c_142 => ?_) (fun c_142 => ?_)
                                      case o573 => decide
                                      · skip
                                        have hSM9 : hp_SM (hp_F (hp_f aF9 rF9 i2.toInt r_27.toInt fw27_x_75.toInt.toNat) 0 (k9 + 1) hp_s0) iv221_8.toInt iv221_9.toInt ia335_zbm fw27_x_75.toInt.toNat := hp_SM_s hs9 hdg9 ht9 hL9 hA9 (Or.inl ⟨?o574, ?o575, rfl, rfl, fun i hi => vi335_0 i ?o576⟩)
                                        case o574 => omega
                                        case o575 => omega
                                        case o576 => omega
                                        refine lv_aload_n hx hb dX10_plan_364 rfl (lv_at hl 8 rfl) ?_
                                        refine hk_geti hx hb hts hC_10 hown hW (gx.S hM) tt_10 75 ?o577 rfl kw_1218 ⟨rfl, rfl, rfl⟩ ffw27_x_75 dX10_plan_365 ?_
                                        case o577 => decide
                                        refine lv_iconst (v := 1) hx hb dX10_plan_368 ?o578 ?_
                                        case o578 => decide
                                        refine lv_isub hx hb dX10_plan_369 ?_
                                        have rg_143 := i32_r fw27_x_75
                                        refine lv_topi (fun x_144 ex_144 => ?_)
                                        have zx_144 : x_144.toInt = fw27_x_75.toInt - 1 := ?o579
                                        case o579 =>
                                          rw [ex_144]
                                          refine i32_sub rfl ?o580 ?o581 ?o582
                                          case o580 => decide
                                          case o581 => omega
                                          case o582 => omega
                                        refine lv_istore (lv' := [(10, .int x_144), (5, .int iv221_9), (4, .int iv221_8), (9, .int iv221_9), (8, .int iv221_8), (7, .int iv221_7), (6, .int iv204_6), (3, .int r_27), (0, .ref x), (1, .int i1), (2, .int i2)]) hx hb dX10_plan_370 hl ?o583 rfl (fun ls hl => ?_)
                                        case o583 => decide
                                        have loop372 : ∀ (n372 : Nat) (iv372_10 : Int32) (ia372_zmo : Nat → Int32) (H : Heap) (locs : List Loc) (hL1 : List Nat) (hl1 : hx_h), -1 ≤ iv372_10.toInt → iv372_10.toInt ≤ 3 → (hx_V ia372_zmo + hx_w iv372_10.toInt = hx_V ia204_zmo + hx_w (fw27_x_75.toInt - 1)) → (∀ j : Nat, j < fw27_x_75.toInt.toNat → (ia372_zmo j).toInt = (if (j : Int) ≤ iv372_10.toInt then hp_dg fw27_x_75.toInt.toNat k9 j else 0)) → (∀ j : Nat, iv372_10.toInt < (j : Int) → j < fw27_x_75.toInt.toNat → hp_dg fw27_x_75.toInt.toNat k9 j = 12) → (iv372_10.toInt < fw27_x_75.toInt) → ∀ (ls : Array Slot), iv372_10.toInt + 1 < (n372 : Int) → hx_W T_tb (P_ty dA) (dC, dI) vwCl (hx_A L sz) s.heap hL1 hl1 s H locs → hx_T T_tb hL1 hl1 → hx_S T_tb [(10, 67), (10, 68), (10, 69), (10, 70), (10, 71), (10, 72), (10, 75), (100, 0), (101, 0), (102, 0), (103, 0), (104, 0), (105, 0), (106, 0), (107, 0)] L h hL1 hl1 → hl1.2.1 x 72 = td0 → hl1.2.1 x 75 = fw27_x_75 → hl1.2.1 zmo = ia372_zmo → hl1.2.1 zpc = clf → hl1.2.1 zpw = wlf → hl1.2.1 zpk = wsf → hl1.2.1 zfo = ia27_zfo → hl1.2.1 zre = ia27_zre → hl1.2.1 zle = ia27_zle → hl1.2.1 zbm = ia335_zbm → lv_has ls 12 [(10, .int iv372_10), (5, .int iv221_9), (4, .int iv221_8), (9, .int iv221_9), (8, .int iv221_8), (7, .int iv221_7), (6, .int iv204_6), (3, .int r_27), (0, .ref x), (1, .int i1), (2, .int i2)] → W p l e ({ frames := 3, cells := 0, slots := 0, locals := 71 }) s m ([.ref x, .int i1, .int i2] : List Value).toArray below meth c H locs 0 0 (MQ below (va_Qi (fun (r : Int32) (u : List Nat × hx_h) => (∃ (td1 : Int32) (clf1 : Nat → Int32) (wlf1 : Nat → Int32) (wsf1 : Nat → Int32), u.2.2.1 x 72 = td1 ∧ u.2.2.1 zpc = clf1 ∧ u.2.2.1 zpw = wlf1 ∧ u.2.2.1 zpk = wsf1 ∧ (hp_PS ((0 ≤ i1.toInt ∧ i1.toInt < pn0.toInt) ∧ 1 ≤ i2.toInt ∧ i2.toInt ≤ 99) (hp_ol agf (hz_Rn odf szf gdf owf svf (hz_rc A plf) pof pdf psm pkf pst nw0.toInt n0.toInt.toNat) i1.toInt c0.toInt.toNat).length (hp_ge (hp_ol agf (hz_Rn odf szf gdf owf svf (hz_rc A plf) pof pdf psm pkf pst nw0.toInt n0.toInt.toNat) i1.toInt c0.toInt.toNat)) (fun c9 => hz_mi ((fun c9 => (A (plf c9).toInt.toNat).2.1 2) (hp_ge (hp_ol agf (hz_Rn odf szf gdf owf svf (hz_rc A plf) pof pdf psm pkf pst nw0.toInt n0.toInt.toNat) i1.toInt c0.toInt.toNat) c9)) ((hz_Rn odf szf gdf owf svf (hz_rc A plf) pof pdf psm pkf pst nw0.toInt n0.toInt.toNat) (hp_ge (hp_ol agf (hz_Rn odf szf gdf owf svf (hz_rc A plf) pof pdf psm pkf pst nw0.toInt n0.toInt.toNat) i1.toInt c0.toInt.toNat) c9))) (fun c9 => (hz_Rn odf szf gdf owf svf (hz_rc A plf) pof pdf psm pkf pst nw0.toInt n0.toInt.toNat) (hp_ge (hp_ol agf (hz_Rn odf szf gdf owf svf (hz_rc A plf) pof pdf psm pkf pst nw0.toInt n0.toInt.toNat) i1.toInt c0.toInt.toNat) c9)) i2.toInt ((eaf i1.toInt.toNat).toInt - (A (hv_IF A nw0.toInt a0.toInt.toNat)).2.1 3 * (hdf i1.toInt.toNat).toInt) r.toInt td0.toInt td1.toInt clf clf1 wlf wlf1 wsf wsf1)) ∧ hx_T T_tb u.1 u.2 ∧ hx_S T_tb [(10, 67), (10, 68), (10, 69), (10, 70), (10, 71), (10, 72), (10, 75), (100, 0), (101, 0), (102, 0), (103, 0), (104, 0), (105, 0), (106, 0), (107, 0)] L h u.1 u.2) (hx_E T_tb (P_ty dA) (dC, dI) vwCl (hx_A L sz)) (hx_A L sz)) ([.ref x, .int i1, .int i2] : List Value).toArray s 0 0 (hx_A L sz)) (F0 m 372 ls []) := by
                                          intro n372
                                          induction n372 with
                                          | zero => intro iv372_10 ia372_zmo H locs hL1 hl1 bliv372_10 buiv372_10 vi372_0 vi372_1 vi372_2 vi372_3 ls hn372; exfalso; omega
                                          | succ n372 ih372 =>
                                            intro iv372_10 ia372_zmo H locs hL1 hl1 bliv372_10 buiv372_10 vi372_0 vi372_1 vi372_2 vi372_3 ls hn372 hW hT hM f_x_72 ffw27_x_75 nia372_zmo af_zpc af_zpw af_zpk nia27_zfo nia27_zre nia27_zle nia335_zbm hl
                                            refine lv_iload hx hb dX10_plan_372 (lv_at hl 0 rfl) ?_
                                            refine hb_if_lt (zx := iv372_10.toInt) (tgt := 403) hx hb rfl dX10_plan_374 ?o584 (fun c_145 => ?_) (fun c_145 => ?_)
                                            case o584 => decide
                                            · skip
                                              refine lv_iload hx hb dX10_plan_403 (lv_at hl 0 rfl) ?_
                                              refine hb_if_lt (zx := iv372_10.toInt) (tgt := 412) hx hb rfl dX10_plan_405 ?o585 (fun c_146 => ?_) (fun c_146 => ?o586)
                                              case o585 => decide
                                              case o586 =>
                                                exfalso
                                                omega
                                              refine lv_iconst (v := 0) hx hb dX10_plan_412 ?o587 ?_
                                              case o587 => decide
                                              refine lv_istore (lv' := [(6, .int (0 : Int32)), (10, .int iv372_10), (5, .int iv221_9), (4, .int iv221_8), (9, .int iv221_9), (8, .int iv221_8), (7, .int iv221_7), (3, .int r_27), (0, .ref x), (1, .int i1), (2, .int i2)]) hx hb dX10_plan_413 hl ?o588 rfl (fun ls hl => ?_)
                                              case o588 => decide
                                              refine lv_iload hx hb dX10_plan_415 (lv_at hl 0 rfl) ?_
                                              refine hb_if_eq (zx := 0) (tgt := 431) hx hb ?o589 dX10_plan_417 ?o590 (fun c_147 => ?_) (fun c_147 => absurd c_147 ?o591)
                                              case o589 => decide
                                              case o590 => decide
                                              case o591 => decide
                                              have hm12 : hx_m12 ia372_zmo := (fun k hk => by have q := hT.ei (gzmo.S hM) tt_105 (k := k) hk; rw [nia372_zmo] at q; exact q)
                                              have hvb := hx_V_b hm12
                                              refine lv_goto (tgt := 204) hx hb dX10_plan_431 ?o592 ?_
                                              case o592 => decide
                                              have zk_0 : (0 : Int32).toInt = 0 := ?o593
                                              case o593 => decide
                                              refine ih204 iv221_8 iv221_9 (0 : Int32) ia372_zmo ia335_zbm _ _ hL1 hl1 (i32_r _).1 (i32_r _).2 (i32_r _).1 (i32_r _).2 ?o594 ?o595 (hp_OD_n hSM9 (hq_o hkl9) (fun j hj => vi372_2 j ?o596 hj) ?o597) hm12 ls ?o598 hW hT hM f_x_72 ffw27_x_75 nia372_zmo nia335_zbm af_zpc af_zpw af_zpk nia27_zfo nia27_zre nia27_zle (lv_sub hl [0, 2, 3, 7, 8, 9, 10] rfl)
                                              case o594 => decide
                                              case o595 => decide
                                              case o596 => omega
                                              case o597 => decide
                                              case o598 => omega
                                            · skip
                                              refine lv_aload_n hx hb dX10_plan_377 rfl (lv_at hl 8 rfl) ?_
                                              refine hk_getr hx hb hts hC_10 hown hW (gx.S hM) tt_10 79 ?o599 rfl kw_1222 ⟨rfl, rfl, rfl⟩ ((hM.o gx trivial rfl).2.trans f_x_79) dX10_plan_378 ?_
                                              case o599 => decide
                                              refine lv_iload hx hb dX10_plan_381 (lv_at hl 0 rfl) ?_
                                              refine hx_iald hx hb hW hT (gzmo.S hM) tt_105 rfl ⟨?o600, ?o601⟩ dX10_plan_383 (fun x_148 ex_148 lx_148 ux_148 => ?_)
                                              case o600 => omega
                                              case o601 => omega
                                              have ax_148 : x_148 = ia372_zmo iv372_10.toNatClampNeg := ex_148.trans (congrFun nia372_zmo _)
                                              refine lv_bipush (v := 12) hx hb dX10_plan_384 ?o602 ?_
                                              case o602 => decide
                                              refine hb_icmp_ne (zx := x_148.toInt) (zy := 12) (tgt := 403) hx hb rfl ?o603 dX10_plan_386 ?o604 (fun c_149 => ?_) (fun c_149 => ?_)
                                              case o603 => decide
                                              case o604 => decide
                                              · skip
                                                replace c_149 : x_148.toInt ≤ 11 := ?o605
                                                case o605 => omega
                                                refine lv_iload hx hb dX10_plan_403 (lv_at hl 0 rfl) ?_
                                                refine hb_if_lt (zx := iv372_10.toInt) (tgt := 412) hx hb rfl dX10_plan_405 ?o606 (fun c_150 => ?o607) (fun c_150 => ?_)
                                                case o606 => decide
                                                case o607 =>
                                                  exfalso
                                                  omega
                                                refine lv_iconst (v := 1) hx hb dX10_plan_408 ?o608 ?_
                                                case o608 => decide
                                                refine lv_goto (tgt := 413) hx hb dX10_plan_409 ?o609 ?_
                                                case o609 => decide
                                                refine lv_istore (lv' := [(6, .int (1 : Int32)), (10, .int iv372_10), (5, .int iv221_9), (4, .int iv221_8), (9, .int iv221_9), (8, .int iv221_8), (7, .int iv221_7), (3, .int r_27), (0, .ref x), (1, .int i1), (2, .int i2)]) hx hb dX10_plan_413 hl ?o610 rfl (fun ls hl => ?_)
                                                case o610 => decide
                                                refine lv_iload hx hb dX10_plan_415 (lv_at hl 0 rfl) ?_
                                                refine hb_if_eq (zx := 1) (tgt := 431) hx hb ?o611 dX10_plan_417 ?o612 (fun c_151 => absurd c_151 ?o613) (fun c_151 => ?_)
                                                case o611 => decide
                                                case o612 => decide
                                                case o613 => decide
                                                refine lv_aload_n hx hb dX10_plan_420 rfl (lv_at hl 8 rfl) ?_
                                                refine hk_getr hx hb hts hC_10 hown hW (gx.S hM) tt_10 79 ?o614 rfl kw_1222 ⟨rfl, rfl, rfl⟩ ((hM.o gx trivial rfl).2.trans f_x_79) dX10_plan_421 ?_
                                                case o614 => decide
                                                refine lv_iload hx hb dX10_plan_424 (lv_at hl 1 rfl) ?_
                                                refine lv_dup2_11 hx hb dX10_plan_426 rfl rfl ?_
                                                refine hx_iald hx hb hW hT (gzmo.S hM) tt_105 rfl ⟨?o615, ?o616⟩ dX10_plan_427 (fun x_152 ex_152 lx_152 ux_152 => ?_)
                                                case o615 => omega
                                                case o616 => omega
                                                have ax_152 : x_152 = ia372_zmo iv372_10.toNatClampNeg := ex_152.trans (congrFun nia372_zmo _)
                                                obtain rfl : x_148 = x_152 := ex_148.trans ex_152.symm
                                                refine lv_iconst (v := 1) hx hb dX10_plan_428 ?o617 ?_
                                                case o617 => decide
                                                refine lv_iadd hx hb dX10_plan_429 ?_
                                                have rg_153 := i32_r x_148
                                                refine lv_topi (fun x_154 ex_154 => ?_)
                                                have zx_154 : x_154.toInt = x_148.toInt + 1 := ?o618
                                                case o618 =>
                                                  rw [ex_154]
                                                  refine i32_add rfl ?o619 ?o620 ?o621
                                                  case o619 => decide
                                                  case o620 => omega
                                                  case o621 => omega
                                                have nia372_zmoO := nia372_zmo
                                                refine hx_iast hx hb hW hT (hx_S.rf (M := [(105, 0)])) (gzmo.S hM) tt_105 rfl ⟨?o622, ?o623⟩ rfl ⟨?o624, ?o625⟩ (List.mem_singleton.mpr rfl) dX10_plan_430 (fun H locs h_155 eh_155 hW hT hs => ?_)
                                                case o622 => omega
                                                case o623 => omega
                                                case o624 => omega
                                                case o625 => omega
                                                replace f_x_72 := (hs.o (gx.S hM) trivial rfl).1.trans f_x_72
                                                replace ffw27_x_75 := (hs.o (gx.S hM) trivial rfl).1.trans ffw27_x_75
                                                replace af_zpc : h_155.2.1 zpc = clf := (funext fun j => (hs.a (gzpc.S hM) rfl j).1).trans af_zpc
                                                replace af_zpw : h_155.2.1 zpw = wlf := (funext fun j => (hs.a (gzpw.S hM) rfl j).1).trans af_zpw
                                                replace af_zpk : h_155.2.1 zpk = wsf := (funext fun j => (hs.a (gzpk.S hM) rfl j).1).trans af_zpk
                                                replace nia27_zfo : h_155.2.1 zfo = ia27_zfo := (funext fun j => (hs.a (gzfo.S hM) rfl j).1).trans nia27_zfo
                                                replace nia27_zre : h_155.2.1 zre = ia27_zre := (funext fun j => (hs.a (gzre.S hM) rfl j).1).trans nia27_zre
                                                replace nia27_zle : h_155.2.1 zle = ia27_zle := (funext fun j => (hs.a (gzle.S hM) rfl j).1).trans nia27_zle
                                                replace nia335_zbm : h_155.2.1 zbm = ia335_zbm := (funext fun j => (hs.a (gzbm.S hM) rfl j).1).trans nia335_zbm
                                                replace hM := hM.tr (hs.mono ?o626)
                                                case o626 => decide
                                                obtain ⟨fa_156, dfa_156⟩ : ∃ g : Nat → Int32, g = hx_up ia372_zmo iv372_10.toNatClampNeg x_154 := ⟨_, rfl⟩
                                                have nfa_156 : h_155.2.1 zmo = fa_156 := ?o627
                                                case o627 =>
                                                  rw [eh_155, dfa_156, ← nia372_zmoO]
                                                  exact hx_pi_fun _ _ _ _
                                                have hvq := (hx_V_up ?o628 ?o629 ax_148 dfa_156).2 ?o630
                                                case o628 => omega
                                                case o629 => omega
                                                case o630 => omega
                                                have hwq := hx_w_b (i := (fw27_x_75.toInt - 1 : Int))
                                                have hm12 : hx_m12 fa_156 := (fun k hk => by have q := hT.ei (gzmo.S hM) tt_105 (k := k) hk; rw [nfa_156] at q; exact q)
                                                have hvb := hx_V_b hm12
                                                refine lv_goto (tgt := 204) hx hb dX10_plan_431 ?o631 ?_
                                                case o631 => decide
                                                have zk_1 : (1 : Int32).toInt = 1 := ?o632
                                                case o632 => decide
                                                refine ih204 iv221_8 iv221_9 (1 : Int32) fa_156 ia335_zbm _ _ hL1 h_155 (i32_r _).1 (i32_r _).2 (i32_r _).1 (i32_r _).2 ?o633 ?o634 (hp_OD_y (i := iv372_10.toInt.toNat) hSM9 (hq_o hkl9) ?o635 (fun j h1 h2 => vi372_2 j ?o636 h2) (fun z9 => by have h9 := vi372_1 iv372_10.toInt.toNat (by omega); rw [if_pos (by omega), z9, show ia372_zmo iv372_10.toInt.toNat = x_148 from ax_148.symm] at h9; omega) (hp_E_u (ix := iv372_10.toInt.toNat) vi372_1 ?o637 ?o638 ?o639 dfa_156 (by rw [show ia372_zmo iv372_10.toInt.toNat = x_148 from ax_148.symm]; omega)) ?o640) hm12 ls ?o641 hW hT hM f_x_72 ffw27_x_75 nfa_156 nia335_zbm af_zpc af_zpw af_zpk nia27_zfo nia27_zre nia27_zle (lv_sub hl [0, 2, 3, 7, 8, 9, 10] rfl)
                                                case o633 => decide
                                                case o634 => decide
                                                case o635 => omega
                                                case o636 => omega
                                                case o637 => omega
                                                case o638 => omega
                                                case o639 => omega
                                                case o640 => decide
                                                case o641 => omega
                                              · skip
                                                have hin9 : ((iv372_10.toInt.toNat : Nat) : Int) = iv372_10.toInt := Int.toNat_of_nonneg ?o642
                                                case o642 => omega
                                                refine lv_aload_n hx hb dX10_plan_389 rfl (lv_at hl 8 rfl) ?_
                                                refine hk_getr hx hb hts hC_10 hown hW (gx.S hM) tt_10 79 ?o643 rfl kw_1222 ⟨rfl, rfl, rfl⟩ ((hM.o gx trivial rfl).2.trans f_x_79) dX10_plan_390 ?_
                                                case o643 => decide
                                                refine lv_iload hx hb dX10_plan_393 (lv_at hl 0 rfl) ?_
                                                refine lv_iconst (v := 0) hx hb dX10_plan_395 ?o644 ?_
                                                case o644 => decide
                                                have nia372_zmoO := nia372_zmo
                                                refine hx_iast hx hb hW hT (hx_S.rf (M := [(105, 0)])) (gzmo.S hM) tt_105 rfl ⟨?o645, ?o646⟩ rfl ?o647 (List.mem_singleton.mpr rfl) dX10_plan_396 (fun H locs h_157 eh_157 hW hT hs => ?_)
                                                case o645 => omega
                                                case o646 => omega
                                                case o647 => decide
                                                replace f_x_72 := (hs.o (gx.S hM) trivial rfl).1.trans f_x_72
                                                replace ffw27_x_75 := (hs.o (gx.S hM) trivial rfl).1.trans ffw27_x_75
                                                replace af_zpc : h_157.2.1 zpc = clf := (funext fun j => (hs.a (gzpc.S hM) rfl j).1).trans af_zpc
                                                replace af_zpw : h_157.2.1 zpw = wlf := (funext fun j => (hs.a (gzpw.S hM) rfl j).1).trans af_zpw
                                                replace af_zpk : h_157.2.1 zpk = wsf := (funext fun j => (hs.a (gzpk.S hM) rfl j).1).trans af_zpk
                                                replace nia27_zfo : h_157.2.1 zfo = ia27_zfo := (funext fun j => (hs.a (gzfo.S hM) rfl j).1).trans nia27_zfo
                                                replace nia27_zre : h_157.2.1 zre = ia27_zre := (funext fun j => (hs.a (gzre.S hM) rfl j).1).trans nia27_zre
                                                replace nia27_zle : h_157.2.1 zle = ia27_zle := (funext fun j => (hs.a (gzle.S hM) rfl j).1).trans nia27_zle
                                                replace nia335_zbm : h_157.2.1 zbm = ia335_zbm := (funext fun j => (hs.a (gzbm.S hM) rfl j).1).trans nia335_zbm
                                                replace hM := hM.tr (hs.mono ?o648)
                                                case o648 => decide
                                                obtain ⟨fa_158, dfa_158⟩ : ∃ g : Nat → Int32, g = hx_up ia372_zmo iv372_10.toNatClampNeg (0 : Int32) := ⟨_, rfl⟩
                                                have nfa_158 : h_157.2.1 zmo = fa_158 := ?o649
                                                case o649 =>
                                                  rw [eh_157, dfa_158, ← nia372_zmoO]
                                                  exact hx_pi_fun _ _ _ _
                                                obtain ⟨x_159, ex_159⟩ : ∃ y : Int32, y = iv372_10 + Int32.ofInt (-1) := ⟨_, rfl⟩
                                                have rg_160 := i32_r iv372_10
                                                have zx_159 : x_159.toInt = iv372_10.toInt + (-1) := ?o650
                                                case o650 =>
                                                  rw [ex_159]
                                                  refine i32_add rfl ?o651 ?o652 ?o653
                                                  case o651 => decide
                                                  case o652 => omega
                                                  case o653 => omega
                                                refine lv_iinc (v := x_159) (lv' := [(10, .int x_159), (5, .int iv221_9), (4, .int iv221_8), (9, .int iv221_9), (8, .int iv221_8), (7, .int iv221_7), (6, .int iv204_6), (3, .int r_27), (0, .ref x), (1, .int i1), (2, .int i2)]) hx hb dX10_plan_397 hl (k := 0) rfl ex_159.symm ?o654 rfl (fun ls hl => ?_)
                                                case o654 => decide
                                                refine lv_goto (tgt := 372) hx hb dX10_plan_400 ?o655 ?_
                                                case o655 => decide
                                                refine ih372 x_159 fa_158 _ _ hL1 h_157 ?o656 ?o657 (by have q := (hx_V_up (by omega) (by omega) ax_148 dfa_158).1 (by omega) (by decide); rw [show x_159.toInt = iv372_10.toInt - 1 from by omega]; omega) (hp_E_s vi372_1 vi372_2 ?o658 ?o659 (by unfold Int32.toNatClampNeg; omega) (by rw [show ia372_zmo iv372_10.toNatClampNeg = x_148 from ax_148.symm]; omega) dfa_158 zx_159).1 (hp_E_s vi372_1 vi372_2 ?o660 ?o661 (by unfold Int32.toNatClampNeg; omega) (by rw [show ia372_zmo iv372_10.toNatClampNeg = x_148 from ax_148.symm]; omega) dfa_158 zx_159).2 ?o662 ls ?o663 hW hT hM f_x_72 ffw27_x_75 nfa_158 af_zpc af_zpw af_zpk nia27_zfo nia27_zre nia27_zle nia335_zbm (lv_sub hl [0, 1, 2, 3, 4, 5, 6, 7, 8, 9, 10] rfl)
                                                case o656 => omega
                                                case o657 => omega
                                                case o658 => omega
                                                case o659 => omega
                                                case o660 => omega
                                                case o661 => omega
                                                case o662 => omega
                                                case o663 => omega
                                        refine loop372 5 x_144 ia204_zmo _ _ hL1 hl1 ?o664 ?o665 (by rw [zx_144]) (fun j hj => by rw [if_pos (by omega)]; exact hdg9 j hj) (fun j h1 h2 => ?o666) ?o667 ls ?o668 hW hT hM f_x_72 ffw27_x_75 nia204_zmo af_zpc af_zpw af_zpk nia27_zfo nia27_zre nia27_zle nia335_zbm hl
                                        case o664 => omega
                                        case o665 => omega
                                        case o666 =>
                                          exfalso
                                          omega
                                        case o667 => omega
                                        case o668 => omega
                                      · skip
                                        refine lv_aload_n hx hb dX10_plan_344 rfl (lv_at hl 8 rfl) ?_
                                        refine hk_getr hx hb hts hC_10 hown hW (gx.S hM) tt_10 80 ?o669 rfl kw_1223 ⟨rfl, rfl, rfl⟩ ((hM.o gx trivial rfl).2.trans f_x_80) dX10_plan_345 ?_
                                        case o669 => decide
                                        refine lv_iload hx hb dX10_plan_348 (lv_at hl 0 rfl) ?_
                                        refine lv_aload_n hx hb dX10_plan_350 rfl (lv_at hl 8 rfl) ?_
                                        refine hk_getr hx hb hts hC_10 hown hW (gx.S hM) tt_10 79 ?o670 rfl kw_1222 ⟨rfl, rfl, rfl⟩ ((hM.o gx trivial rfl).2.trans f_x_79) dX10_plan_351 ?_
                                        case o670 => decide
                                        refine lv_iload hx hb dX10_plan_354 (lv_at hl 0 rfl) ?_
                                        refine hx_iald hx hb hW hT (gzmo.S hM) tt_105 rfl ⟨?o671, ?o672⟩ dX10_plan_356 (fun x_161 ex_161 lx_161 ux_161 => ?_)
                                        case o671 => omega
                                        case o672 => omega
                                        have ax_161 : x_161 = ia204_zmo iv335_10.toNatClampNeg := ex_161.trans (congrFun nia204_zmo _)
                                        have nia335_zbmO := nia335_zbm
                                        refine hx_iast hx hb hW hT (hx_S.rf (M := [(106, 0)])) (gzbm.S hM) tt_106 rfl ⟨?o673, ?o674⟩ rfl ⟨?o675, ?o676⟩ (List.mem_singleton.mpr rfl) dX10_plan_357 (fun H locs h_162 eh_162 hW hT hs => ?_)
                                        case o673 => omega
                                        case o674 => omega
                                        case o675 => omega
                                        case o676 => omega
                                        replace f_x_72 := (hs.o (gx.S hM) trivial rfl).1.trans f_x_72
                                        replace ffw27_x_75 := (hs.o (gx.S hM) trivial rfl).1.trans ffw27_x_75
                                        replace af_zpc : h_162.2.1 zpc = clf := (funext fun j => (hs.a (gzpc.S hM) rfl j).1).trans af_zpc
                                        replace af_zpw : h_162.2.1 zpw = wlf := (funext fun j => (hs.a (gzpw.S hM) rfl j).1).trans af_zpw
                                        replace af_zpk : h_162.2.1 zpk = wsf := (funext fun j => (hs.a (gzpk.S hM) rfl j).1).trans af_zpk
                                        replace nia27_zfo : h_162.2.1 zfo = ia27_zfo := (funext fun j => (hs.a (gzfo.S hM) rfl j).1).trans nia27_zfo
                                        replace nia27_zre : h_162.2.1 zre = ia27_zre := (funext fun j => (hs.a (gzre.S hM) rfl j).1).trans nia27_zre
                                        replace nia27_zle : h_162.2.1 zle = ia27_zle := (funext fun j => (hs.a (gzle.S hM) rfl j).1).trans nia27_zle
                                        replace nia204_zmo : h_162.2.1 zmo = ia204_zmo := (funext fun j => (hs.a (gzmo.S hM) rfl j).1).trans nia204_zmo
                                        replace ex_161 := ex_161.trans (hs.a (gzmo.S hM) rfl _).1.symm
                                        replace hM := hM.tr (hs.mono ?o677)
                                        case o677 => decide
                                        obtain ⟨fa_163, dfa_163⟩ : ∃ g : Nat → Int32, g = hx_up ia335_zbm iv335_10.toNatClampNeg x_161 := ⟨_, rfl⟩
                                        have nfa_163 : h_162.2.1 zbm = fa_163 := ?o678
                                        case o678 =>
                                          rw [eh_162, dfa_163, ← nia335_zbmO]
                                          exact hx_pi_fun _ _ _ _
                                        obtain ⟨x_164, ex_164⟩ : ∃ y : Int32, y = iv335_10 + Int32.ofInt 1 := ⟨_, rfl⟩
                                        have rg_165 := i32_r iv335_10
                                        have zx_164 : x_164.toInt = iv335_10.toInt + (1) := ?o679
                                        case o679 =>
                                          rw [ex_164]
                                          refine i32_add rfl ?o680 ?o681 ?o682
                                          case o680 => decide
                                          case o681 => omega
                                          case o682 => omega
                                        refine lv_iinc (v := x_164) (lv' := [(10, .int x_164), (5, .int iv221_9), (4, .int iv221_8), (9, .int iv221_9), (8, .int iv221_8), (7, .int iv221_7), (6, .int iv204_6), (3, .int r_27), (0, .ref x), (1, .int i1), (2, .int i2)]) hx hb dX10_plan_358 hl (k := 0) rfl ex_164.symm ?o683 rfl (fun ls hl => ?_)
                                        case o683 => decide
                                        refine lv_goto (tgt := 335) hx hb dX10_plan_361 ?o684 ?_
                                        case o684 => decide
                                        refine ih335 x_164 fa_163 _ _ hL1 h_162 ?o685 ?o686 (hx_cp_s vi335_0 dfa_163 ax_161 rfl ?o687 zx_164) ?o688 ls ?o689 hW hT hM f_x_72 ffw27_x_75 nfa_163 af_zpc af_zpw af_zpk nia27_zfo nia27_zre nia27_zle nia204_zmo (lv_sub hl [0, 1, 2, 3, 4, 5, 6, 7, 8, 9, 10] rfl)
                                        case o685 => omega
                                        case o686 => omega
                                        case o687 => omega
                                        case o688 => omega
                                        case o689 => omega
                                  have zk_0 : (0 : Int32).toInt = 0 := ?o690
                                  case o690 => decide
                                  refine loop335 5 (0 : Int32) ia204_zbm _ _ hL1 hl1 ?o691 ?o692 (fun j hj => ?o693) ?o694 ls ?o695 hW hT hM f_x_72 ffw27_x_75 nia204_zbm af_zpc af_zpw af_zpk nia27_zfo nia27_zre nia27_zle nia204_zmo hl
                                  case o691 => decide
                                  case o692 => decide
                                  case o693 =>
                                    exfalso
                                    omega
                                  case o694 => omega
                                  case o695 => omega
                        · skip
                          refine lv_aload_n hx hb dX10_plan_230 rfl (lv_at hl 8 rfl) ?_
                          refine lv_iload hx hb dX10_plan_231 (lv_at hl 0 rfl) ?_
                          refine lv_aload_n hx hb dX10_plan_233 rfl (lv_at hl 8 rfl) ?_
                          refine hk_getr hx hb hts hC_10 hown hW (gx.S hM) tt_10 79 ?o696 rfl kw_1222 ⟨rfl, rfl, rfl⟩ ((hM.o gx trivial rfl).2.trans f_x_79) dX10_plan_234 ?_
                          case o696 => decide
                          refine lv_iload hx hb dX10_plan_237 (lv_at hl 0 rfl) ?_
                          refine hx_iald hx hb hW hT (gzmo.S hM) tt_105 rfl ⟨?o697, ?o698⟩ dX10_plan_239 (fun x_166 ex_166 lx_166 ux_166 => ?_)
                          case o697 => omega
                          case o698 => omega
                          have ax_166 : x_166 = ia204_zmo iv221_10.toNatClampNeg := ex_166.trans (congrFun nia204_zmo _)
                          have hmo19 : 0 ≤ x_166.toInt ∧ x_166.toInt ≤ 12 := ?o699
                          case o699 =>
                            rw [ax_166]
                            exact vi204_1 _ (by unfold Int32.toNatClampNeg; omega)
                          refine lv_iload_n hx hb dX10_plan_240 rfl (lv_at hl 10 rfl) ?_
                          refine hx_goi (hx_runV (As := [.int iv221_10, .int x_166, .int i2]) (rest := []) ⟨hx, hb, hml, hown, hts⟩ hW (gx.S hM) tt_10 (T := TX10) (N := 98) rfl (t_X10_weeksOf_v l dC dI dA hL1 hl1 H.size x iv221_10 x_166 i2 hT (gx.S hM) zre (gzre.S hM) ((hM.o gx trivial rfl).2.trans f_x_77) zle (gzle.S hM) ((hM.o gx trivial rfl).2.trans f_x_78) ia27_zre nia27_zre ia27_zle nia27_zle ⟨?o700, ?o701⟩ ⟨?o702, ?o703⟩ ⟨?o704, ?o705⟩ (hle9 _ ?o706) (hre9 _ ?o707)) (cwV 3 hts (hx_gV kw_1682 kw_1679 kw_1681 kw_85 kw_103) rfl rfl rfl (by decide +kernel) ⟨Nat.le_of_ble_eq_true rfl, Nat.le_of_ble_eq_true rfl⟩) rfl hl.1 rfl (Nat.le_of_ble_eq_true rfl) dX10_plan_241 ⟨Nat.le_of_ble_eq_true rfl, Nat.le_of_ble_eq_true rfl⟩) hW (fun r_169 L_167 h_168 H locs p_170 hW => ?_)
                          case o700 => omega
                          case o701 => omega
                          case o702 => omega
                          case o703 => omega
                          case o704 => omega
                          case o705 => omega
                          case o706 => omega
                          case o707 => omega
                          obtain ⟨hr_171, hT, hs⟩ := p_170
                          replace hT : hx_T T_tb L_167 h_168 := hT
                          replace hs : hx_S T_tb [] hL1 hl1 L_167 h_168 := hs
                          replace f_x_72 := (hs.o (gx.S hM) trivial rfl).1.trans f_x_72
                          replace ffw27_x_75 := (hs.o (gx.S hM) trivial rfl).1.trans ffw27_x_75
                          replace af_zpc : h_168.2.1 zpc = clf := (funext fun j => (hs.a (gzpc.S hM) rfl j).1).trans af_zpc
                          replace af_zpw : h_168.2.1 zpw = wlf := (funext fun j => (hs.a (gzpw.S hM) rfl j).1).trans af_zpw
                          replace af_zpk : h_168.2.1 zpk = wsf := (funext fun j => (hs.a (gzpk.S hM) rfl j).1).trans af_zpk
                          replace nia27_zfo : h_168.2.1 zfo = ia27_zfo := (funext fun j => (hs.a (gzfo.S hM) rfl j).1).trans nia27_zfo
                          replace nia27_zre : h_168.2.1 zre = ia27_zre := (funext fun j => (hs.a (gzre.S hM) rfl j).1).trans nia27_zre
                          replace nia27_zle : h_168.2.1 zle = ia27_zle := (funext fun j => (hs.a (gzle.S hM) rfl j).1).trans nia27_zle
                          replace nia204_zmo : h_168.2.1 zmo = ia204_zmo := (funext fun j => (hs.a (gzmo.S hM) rfl j).1).trans nia204_zmo
                          replace nia204_zbm : h_168.2.1 zbm = ia204_zbm := (funext fun j => (hs.a (gzbm.S hM) rfl j).1).trans nia204_zbm
                          replace ex_166 := ex_166.trans (hs.a (gzmo.S hM) rfl _).1.symm
                          replace hM := hM.tr (hs.mono ?o708)
                          case o708 => decide
                          have hmv9 : x_166.toInt = (ia204_zmo iv221_10.toInt.toNat).toInt := congrArg Int32.toInt ax_166
                          have hwk8 : hq_P (r_169.toInt = (hp_k aF9 rF9 i2.toInt (fun c9 => (ia204_zmo c9).toInt)) iv221_10.toInt.toNat) := ?o709
                          case o709 =>
                            have h9 := hr_171.1
                            rw [hla9 _ (by omega), hlr9 _ (by omega), hmv9] at h9
                            exact h9
                          refine lv_istore (lv' := [(11, .int r_169), (10, .int iv221_10), (9, .int iv221_9), (8, .int iv221_8), (7, .int iv221_7), (6, .int iv204_6), (5, .int iv204_5), (4, .int iv204_4), (3, .int r_27), (0, .ref x), (1, .int i1), (2, .int i2)]) hx hb dX10_plan_244 hl ?o710 rfl (fun ls hl => ?_)
                          case o710 => decide
                          refine lv_iload hx hb dX10_plan_246 (lv_at hl 4 rfl) ?_
                          refine lv_aload_n hx hb dX10_plan_248 rfl (lv_at hl 9 rfl) ?_
                          refine hk_getr hx hb hts hC_10 hown hW (gx.S hM) tt_10 78 ?o711 rfl kw_1221 ⟨rfl, rfl, rfl⟩ ((hM.o gx trivial rfl).2.trans f_x_78) dX10_plan_249 ?_
                          case o711 => decide
                          refine lv_iload hx hb dX10_plan_252 (lv_at hl 1 rfl) ?_
                          refine hx_iald hx hb hW hT (gzle.S hM) tt_104 rfl ⟨?o712, ?o713⟩ dX10_plan_254 (fun x_172 ex_172 lx_172 ux_172 => ?_)
                          case o712 => omega
                          case o713 => omega
                          have ax_172 : x_172 = ia27_zle iv221_10.toNatClampNeg := ex_172.trans (congrFun nia27_zle _)
                          have hlv9 : x_172.toInt = aF9 iv221_10.toInt.toNat := ?o714
                          case o714 =>
                            rw [ax_172]
                            exact hla9 _ (by unfold Int32.toNatClampNeg; omega)
                          have hlb9 := hle9 iv221_10.toInt.toNat (by omega); rw [hla9 _ (by omega), ← hlv9] at hlb9
                          refine lv_aload_n hx hb dX10_plan_255 rfl (lv_at hl 9 rfl) ?_
                          refine hk_getr hx hb hts hC_10 hown hW (gx.S hM) tt_10 79 ?o715 rfl kw_1222 ⟨rfl, rfl, rfl⟩ ((hM.o gx trivial rfl).2.trans f_x_79) dX10_plan_256 ?_
                          case o715 => decide
                          refine lv_iload hx hb dX10_plan_259 (lv_at hl 1 rfl) ?_
                          refine hx_iald hx hb hW hT (gzmo.S hM) tt_105 rfl ⟨?o716, ?o717⟩ dX10_plan_261 (fun x_173 ex_173 lx_173 ux_173 => ?_)
                          case o716 => omega
                          case o717 => omega
                          have ax_173 : x_173 = ia204_zmo iv221_10.toNatClampNeg := ex_173.trans (congrFun nia204_zmo _)
                          obtain rfl : x_166 = x_173 := ex_166.trans ex_173.symm
                          refine lv_iload_n hx hb dX10_plan_262 rfl (lv_at hl 11 rfl) ?_
                          refine lv_imul hx hb dX10_plan_263 ?_
                          refine lv_topi (fun x_174 ex_174 => ?_)
                          have mx_174 : x_166.toInt = 0 → x_174.toInt = 0 := fun z => by rw [ex_174]; exact hx_mul0 z
                          clear mx_174
                          obtain ⟨m9, m9l, m9h⟩ := hp_mul ⟨by omega, by omega⟩ ⟨by omega, by omega⟩ ex_174; rw [hmv9] at m9
                          refine lv_iadd hx hb dX10_plan_264 ?_
                          have rg_175 := i32_r x_172
                          have rg_176 := i32_r x_174
                          refine lv_topi (fun x_177 ex_177 => ?_)
                          have zx_177 : x_177.toInt = x_172.toInt + x_174.toInt := ?o718
                          case o718 =>
                            rw [ex_177]
                            refine i32_add rfl rfl ?o719 ?o720
                            case o719 => omega
                            case o720 => omega
                          refine lv_iadd hx hb dX10_plan_265 ?_
                          have rg_178 := i32_r iv221_7
                          have rg_179 := i32_r x_177
                          refine lv_topi (fun x_180 ex_180 => ?_)
                          have zx_180 : x_180.toInt = iv221_7.toInt + x_177.toInt := ?o721
                          case o721 =>
                            rw [ex_180]
                            refine i32_add rfl rfl ?o722 ?o723
                            case o722 => omega
                            case o723 => omega
                          refine lv_istore (lv' := [(7, .int x_180), (11, .int r_169), (10, .int iv221_10), (9, .int iv221_9), (8, .int iv221_8), (6, .int iv204_6), (5, .int iv204_5), (4, .int iv204_4), (3, .int r_27), (0, .ref x), (1, .int i1), (2, .int i2)]) hx hb dX10_plan_266 hl ?o724 rfl (fun ls hl => ?_)
                          case o724 => decide
                          have hww9 : hq_P ((hp_w aF9 i2.toInt (fun c9 => (ia204_zmo c9).toInt)) iv221_10.toInt.toNat = x_172.toInt + x_174.toInt) := ?o725
                          case o725 =>
                            show aF9 iv221_10.toInt.toNat + (ia204_zmo iv221_10.toInt.toNat).toInt * i2.toInt = _
                            rw [← hlv9, ← m9]
                          refine lv_iload hx hb dX10_plan_268 (lv_at hl 1 rfl) ?_
                          refine lv_iload hx hb dX10_plan_270 (lv_at hl 4 rfl) ?_
                          refine hb_icmp_le (zx := r_169.toInt) (zy := iv221_8.toInt) (tgt := 280) hx hb rfl rfl dX10_plan_272 ?o726 (fun c_181 => ?_) (fun c_181 => ?_)
                          case o726 => decide
                          · skip
                            refine lv_iload hx hb dX10_plan_280 (lv_at hl 4 rfl) ?_
                            refine lv_istore (lv' := [(8, .int iv221_8), (7, .int x_180), (11, .int r_169), (10, .int iv221_10), (9, .int iv221_9), (6, .int iv204_6), (5, .int iv204_5), (4, .int iv204_4), (3, .int r_27), (0, .ref x), (1, .int i1), (2, .int i2)]) hx hb dX10_plan_282 hl ?o727 rfl (fun ls hl => ?_)
                            case o727 => decide
                            refine lv_iload hx hb dX10_plan_284 (lv_at hl 4 rfl) ?_
                            refine lv_iload hx hb dX10_plan_286 (lv_at hl 2 rfl) ?_
                            refine lv_iadd hx hb dX10_plan_288 ?_
                            have rg_182 := i32_r iv221_9
                            have rg_183 := i32_r r_169
                            refine lv_topi (fun x_184 ex_184 => ?_)
                            have zx_184 : x_184.toInt = iv221_9.toInt + r_169.toInt := ?o728
                            case o728 =>
                              rw [ex_184]
                              refine i32_add rfl rfl ?o729 ?o730
                              case o729 => omega
                              case o730 => omega
                            refine lv_istore (lv' := [(9, .int x_184), (8, .int iv221_8), (7, .int x_180), (11, .int r_169), (10, .int iv221_10), (6, .int iv204_6), (5, .int iv204_5), (4, .int iv204_4), (3, .int r_27), (0, .ref x), (1, .int i1), (2, .int i2)]) hx hb dX10_plan_289 hl ?o731 rfl (fun ls hl => ?_)
                            case o731 => decide
                            obtain ⟨x_185, ex_185⟩ : ∃ y : Int32, y = iv221_10 + Int32.ofInt 1 := ⟨_, rfl⟩
                            have rg_186 := i32_r iv221_10
                            have zx_185 : x_185.toInt = iv221_10.toInt + (1) := ?o732
                            case o732 =>
                              rw [ex_185]
                              refine i32_add rfl ?o733 ?o734 ?o735
                              case o733 => decide
                              case o734 => omega
                              case o735 => omega
                            refine lv_iinc (v := x_185) (lv' := [(10, .int x_185), (9, .int x_184), (8, .int iv221_8), (7, .int x_180), (11, .int r_169), (6, .int iv204_6), (5, .int iv204_5), (4, .int iv204_4), (3, .int r_27), (0, .ref x), (1, .int i1), (2, .int i2)]) hx hb dX10_plan_291 hl (k := 4) rfl ex_185.symm ?o736 rfl (fun ls hl => ?_)
                            case o736 => decide
                            refine lv_goto (tgt := 221) hx hb dX10_plan_294 ?o737 ?_
                            case o737 => decide
                            refine ih221 x_180 iv221_8 x_184 x_185 _ _ L_167 h_168 ?o738 ?o739 ?o740 ?o741 ?o742 ?o743 ?o744 ?o745 (hp_ssI vi221_0 ?o746 (by rw [hq_o hww9]; omega) zx_185) (hp_mmI vi221_1 ?o747 (by rw [← hq_o hwk8]; omega) zx_185) (hp_ssI vi221_2 ?o748 (by rw [← hq_o hwk8]; omega) zx_185) ?o749 ?o750 ?o751 ls ?o752 hW hT hM f_x_72 ffw27_x_75 af_zpc af_zpw af_zpk nia27_zfo nia27_zre nia27_zle nia204_zmo nia204_zbm (lv_sub hl [0, 1, 2, 3, 5, 6, 7, 8, 9, 10, 11] rfl)
                            case o738 => omega
                            case o739 => omega
                            case o740 => omega
                            case o741 => omega
                            case o742 => omega
                            case o743 => omega
                            case o744 => omega
                            case o745 => omega
                            case o746 => omega
                            case o747 => omega
                            case o748 => omega
                            case o749 => omega
                            case o750 => omega
                            case o751 => omega
                            case o752 => omega
                          · skip
                            refine lv_iload hx hb dX10_plan_275 (lv_at hl 1 rfl) ?_
                            refine lv_goto (tgt := 282) hx hb dX10_plan_277 ?o753 ?_
                            case o753 => decide
                            refine lv_istore (lv' := [(8, .int r_169), (7, .int x_180), (11, .int r_169), (10, .int iv221_10), (9, .int iv221_9), (6, .int iv204_6), (5, .int iv204_5), (4, .int iv204_4), (3, .int r_27), (0, .ref x), (1, .int i1), (2, .int i2)]) hx hb dX10_plan_282 hl ?o754 rfl (fun ls hl => ?_)
                            case o754 => decide
                            refine lv_iload hx hb dX10_plan_284 (lv_at hl 4 rfl) ?_
                            refine lv_iload hx hb dX10_plan_286 (lv_at hl 2 rfl) ?_
                            refine lv_iadd hx hb dX10_plan_288 ?_
                            have rg_187 := i32_r iv221_9
                            have rg_188 := i32_r r_169
                            refine lv_topi (fun x_189 ex_189 => ?_)
                            have zx_189 : x_189.toInt = iv221_9.toInt + r_169.toInt := ?o755
                            case o755 =>
                              rw [ex_189]
                              refine i32_add rfl rfl ?o756 ?o757
                              case o756 => omega
                              case o757 => omega
                            refine lv_istore (lv' := [(9, .int x_189), (8, .int r_169), (7, .int x_180), (11, .int r_169), (10, .int iv221_10), (6, .int iv204_6), (5, .int iv204_5), (4, .int iv204_4), (3, .int r_27), (0, .ref x), (1, .int i1), (2, .int i2)]) hx hb dX10_plan_289 hl ?o758 rfl (fun ls hl => ?_)
                            case o758 => decide
                            obtain ⟨x_190, ex_190⟩ : ∃ y : Int32, y = iv221_10 + Int32.ofInt 1 := ⟨_, rfl⟩
                            have rg_191 := i32_r iv221_10
                            have zx_190 : x_190.toInt = iv221_10.toInt + (1) := ?o759
                            case o759 =>
                              rw [ex_190]
                              refine i32_add rfl ?o760 ?o761 ?o762
                              case o760 => decide
                              case o761 => omega
                              case o762 => omega
                            refine lv_iinc (v := x_190) (lv' := [(10, .int x_190), (9, .int x_189), (8, .int r_169), (7, .int x_180), (11, .int r_169), (6, .int iv204_6), (5, .int iv204_5), (4, .int iv204_4), (3, .int r_27), (0, .ref x), (1, .int i1), (2, .int i2)]) hx hb dX10_plan_291 hl (k := 4) rfl ex_190.symm ?o763 rfl (fun ls hl => ?_)
                            case o763 => decide
                            refine lv_goto (tgt := 221) hx hb dX10_plan_294 ?o764 ?_
                            case o764 => decide
                            refine ih221 x_180 r_169 x_189 x_190 _ _ L_167 h_168 ?o765 ?o766 ?o767 ?o768 ?o769 ?o770 ?o771 ?o772 (hp_ssI vi221_0 ?o773 (by rw [hq_o hww9]; omega) zx_190) (hp_mmI vi221_1 ?o774 (by rw [← hq_o hwk8]; omega) zx_190) (hp_ssI vi221_2 ?o775 (by rw [← hq_o hwk8]; omega) zx_190) ?o776 ?o777 ?o778 ls ?o779 hW hT hM f_x_72 ffw27_x_75 af_zpc af_zpw af_zpk nia27_zfo nia27_zre nia27_zle nia204_zmo nia204_zbm (lv_sub hl [0, 1, 2, 3, 5, 6, 7, 8, 9, 10, 11] rfl)
                            case o765 => omega
                            case o766 => omega
                            case o767 => omega
                            case o768 => omega
                            case o769 => omega
                            case o770 => omega
                            case o771 => omega
                            case o772 => omega
                            case o773 => omega
                            case o774 => omega
                            case o775 => omega
                            case o776 => omega
                            case o777 => omega
                            case o778 => omega
                            case o779 => omega
                    have zk_0 : (0 : Int32).toInt = 0 := ?o780
                    case o780 => decide
                    have zk_0 : (0 : Int32).toInt = 0 := ?o781
                    case o781 => decide
                    have zk_0 : (0 : Int32).toInt = 0 := ?o782
                    case o782 => decide
                    have zk_0 : (0 : Int32).toInt = 0 := ?o783
                    case o783 => decide
                    refine loop221 5 (0 : Int32) (0 : Int32) (0 : Int32) (0 : Int32) _ _ hL1 hl1 ?o784 ?o785 ?o786 ?o787 ?o788 ?o789 ?o790 ?o791 (by rw [zk_0]; exact hq_i rfl) (by rw [zk_0]; exact hq_i rfl) (by rw [zk_0]; exact hq_i rfl) ?o792 ?o793 ?o794 ls ?o795 hW hT hM f_x_72 ffw27_x_75 af_zpc af_zpw af_zpk nia27_zfo nia27_zre nia27_zle nia204_zmo nia204_zbm hl
                    case o784 => decide
                    case o785 => decide
                    case o786 => decide
                    case o787 => decide
                    case o788 => decide
                    case o789 => decide
                    case o790 => decide
                    case o791 => decide
                    case o792 => omega
                    case o793 => omega
                    case o794 => omega
                    case o795 => omega
              have zk_1000000000 : (1000000000 : Int32).toInt = 1000000000 := ?o796
              case o796 => decide
              have zk_1000000000 : (1000000000 : Int32).toInt = 1000000000 := ?o797
              case o797 => decide
              have zk_1 : (1 : Int32).toInt = 1 := ?o798
              case o798 => decide
              refine loop204 28564 (1000000000 : Int32) (1000000000 : Int32) (1 : Int32) ia27_zmo fa_32 _ _ L_25 h_26 ?o799 ?o800 ?o801 ?o802 ?o803 ?o804 (hp_OD_0 (fun i hi => vi27_1 i ?o805)) hm12 ls ?o806 hW hT hM f_x_72 ffw27_x_75 nia27_zmo nfa_32 af_zpc af_zpw af_zpk nia27_zfo nia27_zre nia27_zle hl
              case o799 => decide
              case o800 => decide
              case o801 => decide
              case o802 => decide
              case o803 => decide
              case o804 => decide
              case o805 => omega
              case o806 => omega
            · skip
              refine lv_iconst (v := 0) hx hb dX10_plan_176 ?o807 ?_
              case o807 => decide
              refine lv_goto (tgt := 183) hx hb dX10_plan_177 ?o808 ?_
              case o808 => decide
              refine lv_istore (lv' := [(4, .int (0 : Int32)), (3, .int r_27), (0, .ref x), (1, .int i1), (2, .int i2)]) hx hb dX10_plan_183 hl ?o809 rfl (fun ls hl => ?_)
              case o809 => decide
              refine lv_ldcw (v := 1000000000) hx hb hown (hts _ kw_1678) dX10_plan_185 ?_
              refine lv_istore (lv' := [(5, .int (1000000000 : Int32)), (4, .int (0 : Int32)), (3, .int r_27), (0, .ref x), (1, .int i1), (2, .int i2)]) hx hb dX10_plan_188 hl ?o810 rfl (fun ls hl => ?_)
              case o810 => decide
              refine lv_aload_n hx hb dX10_plan_190 rfl (lv_at hl 3 rfl) ?_
              refine hk_geti hx hb hts hC_10 hown hW (gx.S hM) tt_10 75 ?o811 rfl kw_1218 ⟨rfl, rfl, rfl⟩ ffw27_x_75 dX10_plan_191 ?_
              case o811 => decide
              refine hb_if_le (zx := fw27_x_75.toInt) (tgt := 201) hx hb rfl dX10_plan_194 ?o812 (fun c_192 => ?_) (fun c_192 => ?o813)
              case o812 => decide
              case o813 =>
                exfalso
                omega
              refine lv_iconst (v := 0) hx hb dX10_plan_201 ?o814 ?_
              case o814 => decide
              obtain ⟨fa_193, nfa_193⟩ : ∃ g : Nat → Int32, h_26.2.1 zbm = g := ⟨_, rfl⟩
              have hm12 : hx_m12 ia27_zmo := (fun k hk => by have q := hT.ei (gzmo.S hM) tt_105 (k := k) hk; rw [nia27_zmo] at q; exact q)
              have hvb := hx_V_b hm12
              refine lv_istore (lv' := [(6, .int (0 : Int32)), (5, .int (1000000000 : Int32)), (4, .int (0 : Int32)), (3, .int r_27), (0, .ref x), (1, .int i1), (2, .int i2)]) hx hb dX10_plan_202 hl ?o815 rfl (fun ls hl => ?_)
              case o815 => decide
              refine lv_iload hx hb dX10_plan_204 (lv_at hl 0 rfl) ?_
              refine hb_if_eq (zx := 0) (tgt := 434) hx hb ?o816 dX10_plan_206 ?o817 (fun c_194 => ?_) (fun c_194 => absurd c_194 ?o818)
              case o816 => decide
              case o817 => decide
              case o818 => decide
              refine lv_iload hx hb dX10_plan_434 (lv_at hl 2 rfl) ?_
              refine lv_ldcw (v := 1000000000) hx hb hown (hts _ kw_1678) dX10_plan_436 ?_
              refine hb_icmp_ne (zx := 0) (zy := 1000000000) (tgt := 445) hx hb ?o819 ?o820 dX10_plan_439 ?o821 (fun c_195 => ?_) (fun c_195 => absurd c_195 ?o822)
              case o819 => decide
              case o820 => decide
              case o821 => decide
              case o822 => decide
              obtain ⟨bB9, ebB9⟩ : ∃ z : hp_S, z = (hp_B9 aF9 rF9 i2.toInt (if fw27_x_75.toInt.toNat = 0 then 0 else r_27.toInt) fw27_x_75.toInt.toNat) := ⟨_, rfl⟩
              have hB9 : bB9.1 = 0 := ?o823
              case o823 =>
                rw [ebB9, show fw27_x_75.toInt.toNat = 0 by omega, if_pos rfl]
                exact hp_B9_0
              have hbm9 : ∀ i : Nat, i < fw27_x_75.toInt.toNat → (fa_193 i).toInt = bB9.2.2 i := fun i hi => by exfalso; omega
              have hfe9 : hq_P (¬ (0 < fw27_x_75.toInt.toNat ∧ r_27.toInt < hp_s aF9 fw27_x_75.toInt.toNat)) := fun z9 => by have h9 := z9.1; omega
              refine lv_aload_n hx hb dX10_plan_445 rfl (lv_at hl 4 rfl) ?_
              refine lv_aload_n hx hb dX10_plan_446 rfl (lv_at hl 4 rfl) ?_
              refine hk_geti hx hb hts hC_10 hown hW (gx.S hM) tt_10 75 ?o824 rfl kw_1218 ⟨rfl, rfl, rfl⟩ ffw27_x_75 dX10_plan_447 ?_
              case o824 => decide
              refine hx_puti hx hb hts hC_10 hown hW hT (hx_S.rf (M := [(10, 72)])) (gx.S hM) tt_10 72 ?o825 rfl kw_1215 ⟨rfl, rfl, rfl⟩ rfl (x := fw27_x_75) ⟨?o826, ?o827⟩ rfl rfl rfl (List.mem_singleton.mpr rfl) dX10_plan_450 (fun H locs h_196 eh_196 hW hT hs => ?_)
              case o825 => decide
              case o826 => omega
              case o827 => omega
              replace ffw27_x_75 := (hs.o (gx.S hM) trivial rfl).1.trans ffw27_x_75
              replace af_zpc : h_196.2.1 zpc = clf := (funext fun j => (hs.a (gzpc.S hM) rfl j).1).trans af_zpc
              replace af_zpw : h_196.2.1 zpw = wlf := (funext fun j => (hs.a (gzpw.S hM) rfl j).1).trans af_zpw
              replace af_zpk : h_196.2.1 zpk = wsf := (funext fun j => (hs.a (gzpk.S hM) rfl j).1).trans af_zpk
              replace nia27_zfo : h_196.2.1 zfo = ia27_zfo := (funext fun j => (hs.a (gzfo.S hM) rfl j).1).trans nia27_zfo
              replace nia27_zre : h_196.2.1 zre = ia27_zre := (funext fun j => (hs.a (gzre.S hM) rfl j).1).trans nia27_zre
              replace nia27_zle : h_196.2.1 zle = ia27_zle := (funext fun j => (hs.a (gzle.S hM) rfl j).1).trans nia27_zle
              replace nia27_zmo : h_196.2.1 zmo = ia27_zmo := (funext fun j => (hs.a (gzmo.S hM) rfl j).1).trans nia27_zmo
              replace nfa_193 : h_196.2.1 zbm = fa_193 := (funext fun j => (hs.a (gzbm.S hM) rfl j).1).trans nfa_193
              replace hM := hM.tr (hs.mono ?o828)
              case o828 => decide
              have f_197 : h_196.2.1 x 72 = fw27_x_75 := ?o829
              case o829 =>
                rw [eh_196]
                exact hx_pi_at _ _ _ _
              refine lv_iconst (v := 0) hx hb dX10_plan_453 ?o830 ?_
              case o830 => decide
              refine lv_istore (lv' := [(7, .int (0 : Int32)), (6, .int (0 : Int32)), (5, .int (1000000000 : Int32)), (4, .int (0 : Int32)), (3, .int r_27), (0, .ref x), (1, .int i1), (2, .int i2)]) hx hb dX10_plan_454 hl ?o831 rfl (fun ls hl => ?_)
              case o831 => decide
              have loop456 : ∀ (n456 : Nat) (iv456_7 : Int32) (ia456_zpc ia456_zpw ia456_zpk : Nat → Int32) (H : Heap) (locs : List Loc) (hL1 : List Nat) (hl1 : hx_h), 0 ≤ iv456_7.toInt → iv456_7.toInt ≤ 4 → (∀ c9 : Nat, (c9 : Int) < iv456_7.toInt → (ia456_zpc c9).toInt = ((hp_ge lM9 c9 : Nat) : Int)) → (∀ c9 : Nat, (c9 : Int) < iv456_7.toInt → (ia456_zpw c9).toInt = hp_w aF9 i2.toInt bB9.2.2 c9) → (∀ c9 : Nat, (c9 : Int) < iv456_7.toInt → (ia456_zpk c9).toInt = hz_ru (rF9 c9) (hp_w aF9 i2.toInt bB9.2.2 c9)) → (iv456_7.toInt ≤ fw27_x_75.toInt) → ∀ (ls : Array Slot), 4 - iv456_7.toInt < (n456 : Int) → hx_W T_tb (P_ty dA) (dC, dI) vwCl (hx_A L sz) s.heap hL1 hl1 s H locs → hx_T T_tb hL1 hl1 → hx_S T_tb [(10, 67), (10, 68), (10, 69), (10, 70), (10, 71), (10, 72), (10, 75), (100, 0), (101, 0), (102, 0), (103, 0), (104, 0), (105, 0), (106, 0), (107, 0)] L h hL1 hl1 → hl1.2.1 x 75 = fw27_x_75 → hl1.2.1 x 72 = fw27_x_75 → hl1.2.1 zpc = ia456_zpc → hl1.2.1 zpw = ia456_zpw → hl1.2.1 zpk = ia456_zpk → hl1.2.1 zfo = ia27_zfo → hl1.2.1 zre = ia27_zre → hl1.2.1 zle = ia27_zle → hl1.2.1 zmo = ia27_zmo → hl1.2.1 zbm = fa_193 → lv_has ls 12 [(7, .int iv456_7), (6, .int (0 : Int32)), (5, .int (1000000000 : Int32)), (4, .int (0 : Int32)), (3, .int r_27), (0, .ref x), (1, .int i1), (2, .int i2)] → W p l e ({ frames := 3, cells := 0, slots := 0, locals := 71 }) s m ([.ref x, .int i1, .int i2] : List Value).toArray below meth c H locs 0 0 (MQ below (va_Qi (fun (r : Int32) (u : List Nat × hx_h) => (∃ (td1 : Int32) (clf1 : Nat → Int32) (wlf1 : Nat → Int32) (wsf1 : Nat → Int32), u.2.2.1 x 72 = td1 ∧ u.2.2.1 zpc = clf1 ∧ u.2.2.1 zpw = wlf1 ∧ u.2.2.1 zpk = wsf1 ∧ (hp_PS ((0 ≤ i1.toInt ∧ i1.toInt < pn0.toInt) ∧ 1 ≤ i2.toInt ∧ i2.toInt ≤ 99) (hp_ol agf (hz_Rn odf szf gdf owf svf (hz_rc A plf) pof pdf psm pkf pst nw0.toInt n0.toInt.toNat) i1.toInt c0.toInt.toNat).length (hp_ge (hp_ol agf (hz_Rn odf szf gdf owf svf (hz_rc A plf) pof pdf psm pkf pst nw0.toInt n0.toInt.toNat) i1.toInt c0.toInt.toNat)) (fun c9 => hz_mi ((fun c9 => (A (plf c9).toInt.toNat).2.1 2) (hp_ge (hp_ol agf (hz_Rn odf szf gdf owf svf (hz_rc A plf) pof pdf psm pkf pst nw0.toInt n0.toInt.toNat) i1.toInt c0.toInt.toNat) c9)) ((hz_Rn odf szf gdf owf svf (hz_rc A plf) pof pdf psm pkf pst nw0.toInt n0.toInt.toNat) (hp_ge (hp_ol agf (hz_Rn odf szf gdf owf svf (hz_rc A plf) pof pdf psm pkf pst nw0.toInt n0.toInt.toNat) i1.toInt c0.toInt.toNat) c9))) (fun c9 => (hz_Rn odf szf gdf owf svf (hz_rc A plf) pof pdf psm pkf pst nw0.toInt n0.toInt.toNat) (hp_ge (hp_ol agf (hz_Rn odf szf gdf owf svf (hz_rc A plf) pof pdf psm pkf pst nw0.toInt n0.toInt.toNat) i1.toInt c0.toInt.toNat) c9)) i2.toInt ((eaf i1.toInt.toNat).toInt - (A (hv_IF A nw0.toInt a0.toInt.toNat)).2.1 3 * (hdf i1.toInt.toNat).toInt) r.toInt td0.toInt td1.toInt clf clf1 wlf wlf1 wsf wsf1)) ∧ hx_T T_tb u.1 u.2 ∧ hx_S T_tb [(10, 67), (10, 68), (10, 69), (10, 70), (10, 71), (10, 72), (10, 75), (100, 0), (101, 0), (102, 0), (103, 0), (104, 0), (105, 0), (106, 0), (107, 0)] L h u.1 u.2) (hx_E T_tb (P_ty dA) (dC, dI) vwCl (hx_A L sz)) (hx_A L sz)) ([.ref x, .int i1, .int i2] : List Value).toArray s 0 0 (hx_A L sz)) (F0 m 456 ls []) := by
                intro n456
                induction n456 with
                | zero => intro iv456_7 ia456_zpc ia456_zpw ia456_zpk H locs hL1 hl1 bliv456_7 buiv456_7 vi456_0 vi456_1 vi456_2 vi456_3 ls hn456; exfalso; omega
                | succ n456 ih456 =>
                  intro iv456_7 ia456_zpc ia456_zpw ia456_zpk H locs hL1 hl1 bliv456_7 buiv456_7 vi456_0 vi456_1 vi456_2 vi456_3 ls hn456 hW hT hM ffw27_x_75 f_197 nia456_zpc nia456_zpw nia456_zpk nia27_zfo nia27_zre nia27_zle nia27_zmo nfa_193 hl
                  have hin9 : ((iv456_7.toInt.toNat : Nat) : Int) = iv456_7.toInt := Int.toNat_of_nonneg ?o832
                  case o832 => omega
                  refine lv_iload hx hb dX10_plan_456 (lv_at hl 0 rfl) ?_
                  refine lv_aload_n hx hb dX10_plan_458 rfl (lv_at hl 5 rfl) ?_
                  refine hk_geti hx hb hts hC_10 hown hW (gx.S hM) tt_10 75 ?o833 rfl kw_1218 ⟨rfl, rfl, rfl⟩ ffw27_x_75 dX10_plan_459 ?_
                  case o833 => decide
                  refine hb_icmp_ge (zx := iv456_7.toInt) (zy := fw27_x_75.toInt) (tgt := 530) hx hb rfl rfl dX10_plan_462 ?o834 (fun c_198 => ?_) (fun c_198 => ?o835)
                  case o834 => decide
                  case o835 =>
                    exfalso
                    omega
                  refine lv_iload hx hb dX10_plan_530 (lv_at hl 3 rfl) ?_
                  refine hx_reti hx hb hr hlk hW ⟨⟨fw27_x_75, ia456_zpc, ia456_zpw, ia456_zpk, f_197, nia456_zpc, nia456_zpw, nia456_zpk, (hp_PS_f (F := fun l9 c9 => hz_mi ((fun c9 => (A (plf c9).toInt.toNat).2.1 2) (hp_ge l9 c9)) ((hz_Rn odf szf gdf owf svf (hz_rc A plf) pof pdf psm pkf pst nw0.toInt n0.toInt.toNat) (hp_ge l9 c9))) (G := fun l9 c9 => (hz_Rn odf szf gdf owf svf (hz_rc A plf) pof pdf psm pkf pst nw0.toInt n0.toInt.toNat) (hp_ge l9 c9)) eLM9 eaF9 erF9 hnl9 hme9 ebB9 ⟨⟨?o836, ?o837⟩, ?o838, ?o839⟩ ?o840 (hq_o hfe9) hB9.symm ?o841 (fun i hi => ⟨vi456_0 i ?o842, vi456_1 i ?o843, vi456_2 i ?o844⟩))⟩, hT, hM⟩ dX10_plan_532
                  case o836 => omega
                  case o837 => omega
                  case o838 => omega
                  case o839 => omega
                  case o840 => omega
                  case o841 => omega
                  case o842 => omega
                  case o843 => omega
                  case o844 => omega
              have zk_0 : (0 : Int32).toInt = 0 := ?o845
              case o845 => decide
              refine loop456 5 (0 : Int32) clf wlf wsf _ _ L_25 h_196 ?o846 ?o847 (fun c9 hc9 => ?o848) (fun c9 hc9 => ?o849) (fun c9 hc9 => ?o850) ?o851 ls ?o852 hW hT hM ffw27_x_75 f_197 af_zpc af_zpw af_zpk nia27_zfo nia27_zre nia27_zle nia27_zmo nfa_193 hl
              case o846 => decide
              case o847 => decide
              case o848 =>
                exfalso
                omega
              case o849 =>
                exfalso
                omega
              case o850 =>
                exfalso
                omega
              case o851 => omega
              case o852 => omega
          · skip
            refine lv_aload_n hx hb dX10_plan_35 rfl (lv_at hl 1 rfl) ?_
            refine hk_getr hx hb hts hC_10 hown hW (gx.S hM) tt_10 38 ?o853 rfl kw_1181 ⟨rfl, rfl, rfl⟩ ((hM.o gx trivial rfl).2.trans f_x_38) dX10_plan_36 ?_
            case o853 => decide
            refine lv_iload_n hx hb dX10_plan_39 rfl (lv_at hl 0 rfl) ?_
            refine hx_iald hx hb hW hT (gqag.S hM) tt_73 rfl ⟨?o854, ?o855⟩ dX10_plan_40 (fun x_199 ex_199 lx_199 ux_199 => ?_)
            case o854 => omega
            case o855 => omega
            have ax_199 : x_199 = agf iv27_3.toNatClampNeg := ex_199.trans (congrFun (hx_afS hM gqag rfl af_qag) _)
            refine lv_iload_n hx hb dX10_plan_41 rfl (lv_at hl 2 rfl) ?_
            refine hb_icmp_ne (zx := x_199.toInt) (zy := i1.toInt) (tgt := 149) hx hb rfl rfl dX10_plan_42 ?o856 (fun c_200 => ?_) (fun c_200 => ?_)
            case o856 => decide
            · skip
              obtain ⟨x_201, ex_201⟩ : ∃ y : Int32, y = iv27_3 + Int32.ofInt 1 := ⟨_, rfl⟩
              have rg_202 := i32_r iv27_3
              have zx_201 : x_201.toInt = iv27_3.toInt + (1) := ?o857
              case o857 =>
                rw [ex_201]
                refine i32_add rfl ?o858 ?o859 ?o860
                case o858 => decide
                case o859 => omega
                case o860 => omega
              refine lv_iinc (v := x_201) (lv' := [(3, .int x_201), (0, .ref x), (1, .int i1), (2, .int i2)]) hx hb dX10_plan_149 hl (k := 0) rfl ex_201.symm ?o861 rfl (fun ls hl => ?_)
              case o861 => decide
              refine lv_goto (tgt := 27) hx hb dX10_plan_152 ?o862 ?_
              case o862 => decide
              refine ih27 x_201 fw27_x_75 ia27_zfo ia27_zre ia27_zle ia27_zmo _ _ hL1 hl1 ?o863 ?o864 ?o865 ?o866 (hp_OQ_n vi27_0.1 vi27_0.2 ?o867 (fun z => by have z9 := z.1; rw [show agf iv27_3.toInt.toNat = x_199 from ax_199.symm] at z9; omega) zx_201) vi27_1 ?o868 ls ?o869 hW hT hM ffw27_x_75 f_x_72 nia27_zfo nia27_zre nia27_zle nia27_zmo af_zpc af_zpw af_zpk (lv_sub hl [0, 1, 2, 3] rfl)
              case o863 => omega
              case o864 => omega
              case o865 => omega
              case o866 => omega
              case o867 => omega
              case o868 => omega
              case o869 => omega
            · skip
              refine lv_aload_n hx hb dX10_plan_45 rfl (lv_at hl 1 rfl) ?_
              refine lv_iload_n hx hb dX10_plan_46 rfl (lv_at hl 0 rfl) ?_
              refine hx_goi (hx_runV (As := [.int iv27_3]) (rest := []) ⟨hx, hb, hml, hown, hts⟩ hW (gx.S hM) tt_10 (T := TX10) (N := 98) rfl (t_X10_isOpen_v l dC dI dA hL1 hl1 H.size x iv27_3 hT (gx.S hM) qfo (gqfo.S hM) ((hM.o gx trivial rfl).2.trans f_x_46) qhe (gqhe.S hM) ((hM.o gx trivial rfl).2.trans f_x_47) qju (gqju.S hM) ((hM.o gx trivial rfl).2.trans f_x_51) qod (gqod.S hM) ((hM.o gx trivial rfl).2.trans f_x_48) qsv (gqsv.S hM) ((hM.o gx trivial rfl).2.trans f_x_50) qsz (gqsz.S hM) ((hM.o gx trivial rfl).2.trans f_x_49) qgd (gqgd.S hM) ((hM.o gx trivial rfl).2.trans f_x_56) qow (gqow.S hM) ((hM.o gx trivial rfl).2.trans f_x_55) qwk (gqwk.S hM) ((hM.o gx trivial rfl).2.trans f_x_54) qpl (gqpl.S hM) ((hM.o gx trivial rfl).2.trans f_x_44) qru (gqru.S hM) ((hM.o gx trivial rfl).2.trans f_x_3) qpo (gqpo.S hM) ((hM.o gx trivial rfl).2.trans f_x_60) qpd (gqpd.S hM) ((hM.o gx trivial rfl).2.trans f_x_61) qps (gqps.S hM) ((hM.o gx trivial rfl).2.trans f_x_62) qpk (gqpk.S hM) ((hM.o gx trivial rfl).2.trans f_x_63) qpt (gqpt.S hM) ((hM.o gx trivial rfl).2.trans f_x_64) fof (hx_afS hM gqfo rfl af_qfo) hrf (hx_afS hM gqhe rfl af_qhe) udf (hx_afS hM gqju rfl af_qju) odf (hx_afS hM gqod rfl af_qod) svf (hx_afS hM gqsv rfl af_qsv) szf (hx_afS hM gqsz rfl af_qsz) gdf (hx_afS hM gqgd rfl af_qgd) owf (hx_afS hM gqow rfl af_qow) wkf (hx_afS hM gqwk rfl af_qwk) plf (hx_afS hM gqpl rfl af_qpl) rlf (hx_afS hM gqru rfl af_qru) pof (hx_afS hM gqpo rfl af_qpo) pdf (hx_afS hM gqpd rfl af_qpd) psm (hx_afS hM gqps rfl af_qps) pkf (hx_afS hM gqpk rfl af_qpk) pst (hx_afS hM gqpt rfl af_qpt) c0 ((hM.o gx trivial rfl).1.trans f_x_36) a0 ((hM.o gx trivial rfl).1.trans f_x_1) nw0 ((hM.o gx trivial rfl).1.trans f_x_0) n0 ((hM.o gx trivial rfl).1.trans f_x_59) ⟨?o870, ?o871⟩ adf psf prf A hCA hPL) (cwV 1 hts (hx_gV kw_1637 kw_1634 kw_1636 kw_81 kw_103) rfl rfl rfl (by decide +kernel) ⟨Nat.le_of_ble_eq_true rfl, Nat.le_of_ble_eq_true rfl⟩) rfl hl.1 rfl (Nat.le_of_ble_eq_true rfl) dX10_plan_47 ⟨Nat.le_of_ble_eq_true rfl, Nat.le_of_ble_eq_true rfl⟩) hW (fun r_205 L_203 h_204 H locs p_206 hW => ?_)
              case o870 => omega
              case o871 => omega
              obtain ⟨⟨w_208, fw_208, hr_207⟩, hT, hs⟩ := p_206
              replace hT : hx_T T_tb L_203 h_204 := hT
              replace hs : hx_S T_tb [(10, 67), (10, 68), (10, 69), (10, 70), (10, 71)] hL1 hl1 L_203 h_204 := hs
              replace f_x_72 := (hs.o (gx.S hM) trivial rfl).1.trans f_x_72
              replace ffw27_x_75 := (hs.o (gx.S hM) trivial rfl).1.trans ffw27_x_75
              replace af_zpc : h_204.2.1 zpc = clf := (funext fun j => (hs.a (gzpc.S hM) rfl j).1).trans af_zpc
              replace af_zpw : h_204.2.1 zpw = wlf := (funext fun j => (hs.a (gzpw.S hM) rfl j).1).trans af_zpw
              replace af_zpk : h_204.2.1 zpk = wsf := (funext fun j => (hs.a (gzpk.S hM) rfl j).1).trans af_zpk
              replace nia27_zfo : h_204.2.1 zfo = ia27_zfo := (funext fun j => (hs.a (gzfo.S hM) rfl j).1).trans nia27_zfo
              replace nia27_zre : h_204.2.1 zre = ia27_zre := (funext fun j => (hs.a (gzre.S hM) rfl j).1).trans nia27_zre
              replace nia27_zle : h_204.2.1 zle = ia27_zle := (funext fun j => (hs.a (gzle.S hM) rfl j).1).trans nia27_zle
              replace nia27_zmo : h_204.2.1 zmo = ia27_zmo := (funext fun j => (hs.a (gzmo.S hM) rfl j).1).trans nia27_zmo
              replace ex_199 := ex_199.trans (hs.a (gqag.S hM) rfl _).1.symm
              replace hM := hM.tr (hs.mono ?o872)
              case o872 => decide
              have fw_208 : h_204.2.1 x 68 = w_208 := fw_208
              have bw_208 := hT.gi (gx.S hM) tt_10 (k := 68) rfl
              rw [fw_208] at bw_208
              have bw_208 : 0 ≤ w_208.toInt ∧ w_208.toInt ≤ 610000 := bw_208
              have hro9 : w_208.toInt = (hz_Rn odf szf gdf owf svf (hz_rc A plf) pof pdf psm pkf pst nw0.toInt n0.toInt.toNat) iv27_3.toInt.toNat := hr_207.2
              have hop9 : (r_205.toInt = 1 ∧ 0 < w_208.toInt) ∨ (r_205.toInt = 0 ∧ ¬ 0 < w_208.toInt) := ?o873
              case o873 =>
                rw [hr_207.2]
                exact hr_207.1
              have hrv9 := hrn iv27_3.toInt.toNat (by omega); rw [← hro9] at hrv9
              clear hr_207
              refine hb_if_ne (zx := r_205.toInt) (tgt := 56) hx hb rfl dX10_plan_50 ?o874 (fun c_209 => ?_) (fun c_209 => ?_)
              case o874 => decide
              · skip
                replace hop9 := hop9.resolve_right (fun z9 => c_209 z9.1)
                replace c_209 := hop9.1
                replace hop9 := hop9.2
                have hag9 : (agf iv27_3.toInt.toNat).toInt = i1.toInt := ?o875
                case o875 =>
                  rw [show agf iv27_3.toInt.toNat = x_199 from ax_199.symm]
                  omega
                have hpo9 : 0 < (hz_Rn odf szf gdf owf svf (hz_rc A plf) pof pdf psm pkf pst nw0.toInt n0.toInt.toNat) iv27_3.toInt.toNat := ?o876
                case o876 =>
                  rw [← hro9]
                  omega
                refine lv_aload_n hx hb dX10_plan_56 rfl (lv_at hl 1 rfl) ?_
                refine hk_geti hx hb hts hC_10 hown hW (gx.S hM) tt_10 75 ?o877 rfl kw_1218 ⟨rfl, rfl, rfl⟩ ffw27_x_75 dX10_plan_57 ?_
                case o877 => decide
                refine lv_iconst (v := 4) hx hb dX10_plan_60 ?o878 ?_
                case o878 => decide
                refine hb_icmp_ne (zx := fw27_x_75.toInt) (zy := 4) (tgt := 66) hx hb rfl ?o879 dX10_plan_61 ?o880 (fun c_210 => ?_) (fun c_210 => ?_)
                case o879 => decide
                case o880 => decide
                · skip
                  replace c_210 : fw27_x_75.toInt ≤ 3 := ?o881
                  case o881 => omega
                  refine lv_aload_n hx hb dX10_plan_66 rfl (lv_at hl 1 rfl) ?_
                  refine lv_aload_n hx hb dX10_plan_67 rfl (lv_at hl 1 rfl) ?_
                  refine hk_getr hx hb hts hC_10 hown hW (gx.S hM) tt_10 44 ?o882 rfl kw_1187 ⟨rfl, rfl, rfl⟩ ((hM.o gx trivial rfl).2.trans f_x_44) dX10_plan_68 ?_
                  case o882 => decide
                  refine lv_iload_n hx hb dX10_plan_71 rfl (lv_at hl 0 rfl) ?_
                  refine hx_iald hx hb hW hT (gqpl.S hM) tt_79 rfl ⟨?o883, ?o884⟩ dX10_plan_72 (fun x_211 ex_211 lx_211 ux_211 => ?_)
                  case o883 => omega
                  case o884 => omega
                  have ax_211 : x_211 = plf iv27_3.toNatClampNeg := ex_211.trans (congrFun (hx_afS hM gqpl rfl af_qpl) _)
                  refine lv_iconst (v := 2) hx hb dX10_plan_73 ?o885 ?_
                  case o885 => decide
                  have zc_2 : (2 : Int32).toInt = 2 := ?o886
                  case o886 => decide
                  refine hx_goi (hx_runV (As := [.int x_211, .int (2 : Int32)]) (rest := []) ⟨hx, hb, hml, hown, hts⟩ hW (gx.S hM) tt_10 (T := TX10) (N := 98) rfl (t_X10_ruleOf_v l dC dI dA L_203 h_204 H.size x x_211 (2 : Int32) hT (gx.S hM) qru (gqru.S hM) ((hM.o gx trivial rfl).2.trans f_x_3) rlf (hx_afS hM gqru rfl af_qru) ⟨?o887, ?o888⟩ ?o889) (cwV 2 hts (hx_gV kw_1533 kw_1530 kw_1532 kw_66 kw_103) rfl rfl rfl (by decide +kernel) ⟨Nat.le_of_ble_eq_true rfl, Nat.le_of_ble_eq_true rfl⟩) rfl hl.1 rfl (Nat.le_of_ble_eq_true rfl) dX10_plan_74 ⟨Nat.le_of_ble_eq_true rfl, Nat.le_of_ble_eq_true rfl⟩) hW (fun r_214 L_212 h_213 H locs p_215 hW => ?_)
                  case o887 => omega
                  case o888 => omega
                  case o889 => decide
                  obtain ⟨hr_216, hT, hs⟩ := p_215
                  replace hT : hx_T T_tb L_212 h_213 := hT
                  replace hs : hx_S T_tb [] L_203 h_204 L_212 h_213 := hs
                  replace f_x_72 := (hs.o (gx.S hM) trivial rfl).1.trans f_x_72
                  replace ffw27_x_75 := (hs.o (gx.S hM) trivial rfl).1.trans ffw27_x_75
                  replace fw_208 := (hs.o (gx.S hM) trivial rfl).1.trans fw_208
                  replace af_zpc : h_213.2.1 zpc = clf := (funext fun j => (hs.a (gzpc.S hM) rfl j).1).trans af_zpc
                  replace af_zpw : h_213.2.1 zpw = wlf := (funext fun j => (hs.a (gzpw.S hM) rfl j).1).trans af_zpw
                  replace af_zpk : h_213.2.1 zpk = wsf := (funext fun j => (hs.a (gzpk.S hM) rfl j).1).trans af_zpk
                  replace nia27_zfo : h_213.2.1 zfo = ia27_zfo := (funext fun j => (hs.a (gzfo.S hM) rfl j).1).trans nia27_zfo
                  replace nia27_zre : h_213.2.1 zre = ia27_zre := (funext fun j => (hs.a (gzre.S hM) rfl j).1).trans nia27_zre
                  replace nia27_zle : h_213.2.1 zle = ia27_zle := (funext fun j => (hs.a (gzle.S hM) rfl j).1).trans nia27_zle
                  replace nia27_zmo : h_213.2.1 zmo = ia27_zmo := (funext fun j => (hs.a (gzmo.S hM) rfl j).1).trans nia27_zmo
                  replace ex_199 := ex_199.trans (hs.a (gqag.S hM) rfl _).1.symm
                  replace ex_211 := ex_211.trans (hs.a (gqpl.S hM) rfl _).1.symm
                  replace hM := hM.tr (hs.mono ?o890)
                  case o890 => decide
                  have hlp9 := hPL iv27_3.toInt ?o891 ?o892
                  case o891 => omega
                  case o892 => omega
                  obtain ⟨_, hl29, _⟩ := hCA.2 (plf iv27_3.toInt.toNat).toInt.toNat (by omega)
                  have hlw9 : r_214.toInt = (A (plf iv27_3.toInt.toNat).toInt.toNat).2.1 2 := ?o893
                  case o893 =>
                    rw [hr_216.1, ax_211, show (2 : Int32).toInt.toNat = 2 from by decide, ← hl29]
                    show _ = (if 2 < 13 then _ else 0)
                    rw [if_pos (by decide)]
                    try rfl
                  have hwb9 := hwk9 iv27_3.toInt.toNat (by omega); have hwc9 := (hAB (plf iv27_3.toInt.toNat).toInt.toNat).1 2; rw [← hlw9] at hwb9 hwc9
                  refine lv_istore (lv' := [(4, .int r_214), (3, .int iv27_3), (0, .ref x), (1, .int i1), (2, .int i2)]) hx hb dX10_plan_77 hl ?o894 rfl (fun ls hl => ?_)
                  case o894 => decide
                  refine lv_aload_n hx hb dX10_plan_79 rfl (lv_at hl 2 rfl) ?_
                  refine hk_getr hx hb hts hC_10 hown hW (gx.S hM) tt_10 76 ?o895 rfl kw_1219 ⟨rfl, rfl, rfl⟩ ((hM.o gx trivial rfl).2.trans f_x_76) dX10_plan_80 ?_
                  case o895 => decide
                  refine lv_aload_n hx hb dX10_plan_83 rfl (lv_at hl 2 rfl) ?_
                  refine hk_geti hx hb hts hC_10 hown hW (gx.S hM) tt_10 75 ?o896 rfl kw_1218 ⟨rfl, rfl, rfl⟩ ffw27_x_75 dX10_plan_84 ?_
                  case o896 => decide
                  refine lv_iload_n hx hb dX10_plan_87 rfl (lv_at hl 1 rfl) ?_
                  have nia27_zfoO := nia27_zfo
                  refine hx_iast hx hb hW hT (hx_S.rf (M := [(102, 0)])) (gzfo.S hM) tt_102 rfl ⟨?o897, ?o898⟩ rfl ⟨?o899, ?o900⟩ (List.mem_singleton.mpr rfl) dX10_plan_88 (fun H locs h_217 eh_217 hW hT hs => ?_)
                  case o897 => omega
                  case o898 => omega
                  case o899 => omega
                  case o900 => omega
                  replace f_x_72 := (hs.o (gx.S hM) trivial rfl).1.trans f_x_72
                  replace ffw27_x_75 := (hs.o (gx.S hM) trivial rfl).1.trans ffw27_x_75
                  replace fw_208 := (hs.o (gx.S hM) trivial rfl).1.trans fw_208
                  replace af_zpc : h_217.2.1 zpc = clf := (funext fun j => (hs.a (gzpc.S hM) rfl j).1).trans af_zpc
                  replace af_zpw : h_217.2.1 zpw = wlf := (funext fun j => (hs.a (gzpw.S hM) rfl j).1).trans af_zpw
                  replace af_zpk : h_217.2.1 zpk = wsf := (funext fun j => (hs.a (gzpk.S hM) rfl j).1).trans af_zpk
                  replace nia27_zre : h_217.2.1 zre = ia27_zre := (funext fun j => (hs.a (gzre.S hM) rfl j).1).trans nia27_zre
                  replace nia27_zle : h_217.2.1 zle = ia27_zle := (funext fun j => (hs.a (gzle.S hM) rfl j).1).trans nia27_zle
                  replace nia27_zmo : h_217.2.1 zmo = ia27_zmo := (funext fun j => (hs.a (gzmo.S hM) rfl j).1).trans nia27_zmo
                  replace ex_199 := ex_199.trans (hs.a (gqag.S hM) rfl _).1.symm
                  replace ex_211 := ex_211.trans (hs.a (gqpl.S hM) rfl _).1.symm
                  replace hM := hM.tr (hs.mono ?o901)
                  case o901 => decide
                  obtain ⟨fa_218, dfa_218⟩ : ∃ g : Nat → Int32, g = hx_up ia27_zfo fw27_x_75.toNatClampNeg iv27_3 := ⟨_, rfl⟩
                  have nfa_218 : h_217.2.1 zfo = fa_218 := ?o902
                  case o902 =>
                    rw [eh_217, dfa_218, ← nia27_zfoO]
                    exact hx_pi_fun _ _ _ _
                  refine lv_aload_n hx hb dX10_plan_89 rfl (lv_at hl 2 rfl) ?_
                  refine hk_getr hx hb hts hC_10 hown hW (gx.S hM) tt_10 77 ?o903 rfl kw_1220 ⟨rfl, rfl, rfl⟩ ((hM.o gx trivial rfl).2.trans f_x_77) dX10_plan_90 ?_
                  case o903 => decide
                  refine lv_aload_n hx hb dX10_plan_93 rfl (lv_at hl 2 rfl) ?_
                  refine hk_geti hx hb hts hC_10 hown hW (gx.S hM) tt_10 75 ?o904 rfl kw_1218 ⟨rfl, rfl, rfl⟩ ffw27_x_75 dX10_plan_94 ?_
                  case o904 => decide
                  refine lv_aload_n hx hb dX10_plan_97 rfl (lv_at hl 2 rfl) ?_
                  refine hk_geti hx hb hts hC_10 hown hW (gx.S hM) tt_10 68 ?o905 rfl kw_1211 ⟨rfl, rfl, rfl⟩ fw_208 dX10_plan_98 ?_
                  case o905 => decide
                  have nia27_zreO := nia27_zre
                  refine hx_iast hx hb hW hT (hx_S.rf (M := [(103, 0)])) (gzre.S hM) tt_103 rfl ⟨?o906, ?o907⟩ rfl ⟨?o908, ?o909⟩ (List.mem_singleton.mpr rfl) dX10_plan_101 (fun H locs h_219 eh_219 hW hT hs => ?_)
                  case o906 => omega
                  case o907 => omega
                  case o908 => omega
                  case o909 => omega
                  replace f_x_72 := (hs.o (gx.S hM) trivial rfl).1.trans f_x_72
                  replace ffw27_x_75 := (hs.o (gx.S hM) trivial rfl).1.trans ffw27_x_75
                  replace fw_208 := (hs.o (gx.S hM) trivial rfl).1.trans fw_208
                  replace af_zpc : h_219.2.1 zpc = clf := (funext fun j => (hs.a (gzpc.S hM) rfl j).1).trans af_zpc
                  replace af_zpw : h_219.2.1 zpw = wlf := (funext fun j => (hs.a (gzpw.S hM) rfl j).1).trans af_zpw
                  replace af_zpk : h_219.2.1 zpk = wsf := (funext fun j => (hs.a (gzpk.S hM) rfl j).1).trans af_zpk
                  replace nia27_zle : h_219.2.1 zle = ia27_zle := (funext fun j => (hs.a (gzle.S hM) rfl j).1).trans nia27_zle
                  replace nia27_zmo : h_219.2.1 zmo = ia27_zmo := (funext fun j => (hs.a (gzmo.S hM) rfl j).1).trans nia27_zmo
                  replace nfa_218 : h_219.2.1 zfo = fa_218 := (funext fun j => (hs.a (gzfo.S hM) rfl j).1).trans nfa_218
                  replace ex_199 := ex_199.trans (hs.a (gqag.S hM) rfl _).1.symm
                  replace ex_211 := ex_211.trans (hs.a (gqpl.S hM) rfl _).1.symm
                  replace hM := hM.tr (hs.mono ?o910)
                  case o910 => decide
                  obtain ⟨fa_220, dfa_220⟩ : ∃ g : Nat → Int32, g = hx_up ia27_zre fw27_x_75.toNatClampNeg w_208 := ⟨_, rfl⟩
                  have nfa_220 : h_219.2.1 zre = fa_220 := ?o911
                  case o911 =>
                    rw [eh_219, dfa_220, ← nia27_zreO]
                    exact hx_pi_fun _ _ _ _
                  refine lv_aload_n hx hb dX10_plan_102 rfl (lv_at hl 2 rfl) ?_
                  refine hk_getr hx hb hts hC_10 hown hW (gx.S hM) tt_10 78 ?o912 rfl kw_1221 ⟨rfl, rfl, rfl⟩ ((hM.o gx trivial rfl).2.trans f_x_78) dX10_plan_103 ?_
                  case o912 => decide
                  refine lv_aload_n hx hb dX10_plan_106 rfl (lv_at hl 2 rfl) ?_
                  refine hk_geti hx hb hts hC_10 hown hW (gx.S hM) tt_10 75 ?o913 rfl kw_1218 ⟨rfl, rfl, rfl⟩ ffw27_x_75 dX10_plan_107 ?_
                  case o913 => decide
                  refine lv_iload hx hb dX10_plan_110 (lv_at hl 0 rfl) ?_
                  refine lv_aload_n hx hb dX10_plan_112 rfl (lv_at hl 2 rfl) ?_
                  refine hk_geti hx hb hts hC_10 hown hW (gx.S hM) tt_10 68 ?o914 rfl kw_1211 ⟨rfl, rfl, rfl⟩ fw_208 dX10_plan_113 ?_
                  case o914 => decide
                  refine hb_icmp_ge (zx := r_214.toInt) (zy := w_208.toInt) (tgt := 124) hx hb rfl rfl dX10_plan_116 ?o915 (fun c_221 => ?_) (fun c_221 => ?_)
                  case o915 => decide
                  · skip
                    refine lv_aload_n hx hb dX10_plan_124 rfl (lv_at hl 2 rfl) ?_
                    refine hk_geti hx hb hts hC_10 hown hW (gx.S hM) tt_10 68 ?o916 rfl kw_1211 ⟨rfl, rfl, rfl⟩ fw_208 dX10_plan_125 ?_
                    case o916 => decide
                    have hlx9 : w_208.toInt = hz_mi ((A (plf iv27_3.toInt.toNat).toInt.toNat).2.1 2) ((hz_Rn odf szf gdf owf svf (hz_rc A plf) pof pdf psm pkf pst nw0.toInt n0.toInt.toNat) iv27_3.toInt.toNat) := by rw [← hlw9, ← hro9]; unfold hz_mi; split <;> omega
                    have nia27_zleO := nia27_zle
                    refine hx_iast hx hb hW hT (hx_S.rf (M := [(104, 0)])) (gzle.S hM) tt_104 rfl ⟨?o917, ?o918⟩ rfl ⟨?o919, ?o920⟩ (List.mem_singleton.mpr rfl) dX10_plan_128 (fun H locs h_222 eh_222 hW hT hs => ?_)
                    case o917 => omega
                    case o918 => omega
                    case o919 => omega
                    case o920 => omega
                    replace f_x_72 := (hs.o (gx.S hM) trivial rfl).1.trans f_x_72
                    replace ffw27_x_75 := (hs.o (gx.S hM) trivial rfl).1.trans ffw27_x_75
                    replace fw_208 := (hs.o (gx.S hM) trivial rfl).1.trans fw_208
                    replace af_zpc : h_222.2.1 zpc = clf := (funext fun j => (hs.a (gzpc.S hM) rfl j).1).trans af_zpc
                    replace af_zpw : h_222.2.1 zpw = wlf := (funext fun j => (hs.a (gzpw.S hM) rfl j).1).trans af_zpw
                    replace af_zpk : h_222.2.1 zpk = wsf := (funext fun j => (hs.a (gzpk.S hM) rfl j).1).trans af_zpk
                    replace nia27_zmo : h_222.2.1 zmo = ia27_zmo := (funext fun j => (hs.a (gzmo.S hM) rfl j).1).trans nia27_zmo
                    replace nfa_218 : h_222.2.1 zfo = fa_218 := (funext fun j => (hs.a (gzfo.S hM) rfl j).1).trans nfa_218
                    replace nfa_220 : h_222.2.1 zre = fa_220 := (funext fun j => (hs.a (gzre.S hM) rfl j).1).trans nfa_220
                    replace ex_199 := ex_199.trans (hs.a (gqag.S hM) rfl _).1.symm
                    replace ex_211 := ex_211.trans (hs.a (gqpl.S hM) rfl _).1.symm
                    replace hM := hM.tr (hs.mono ?o921)
                    case o921 => decide
                    obtain ⟨fa_223, dfa_223⟩ : ∃ g : Nat → Int32, g = hx_up ia27_zle fw27_x_75.toNatClampNeg w_208 := ⟨_, rfl⟩
                    have nfa_223 : h_222.2.1 zle = fa_223 := ?o922
                    case o922 =>
                      rw [eh_222, dfa_223, ← nia27_zleO]
                      exact hx_pi_fun _ _ _ _
                    refine lv_aload_n hx hb dX10_plan_129 rfl (lv_at hl 2 rfl) ?_
                    refine hk_getr hx hb hts hC_10 hown hW (gx.S hM) tt_10 79 ?o923 rfl kw_1222 ⟨rfl, rfl, rfl⟩ ((hM.o gx trivial rfl).2.trans f_x_79) dX10_plan_130 ?_
                    case o923 => decide
                    refine lv_aload_n hx hb dX10_plan_133 rfl (lv_at hl 2 rfl) ?_
                    refine hk_geti hx hb hts hC_10 hown hW (gx.S hM) tt_10 75 ?o924 rfl kw_1218 ⟨rfl, rfl, rfl⟩ ffw27_x_75 dX10_plan_134 ?_
                    case o924 => decide
                    refine lv_iconst (v := 0) hx hb dX10_plan_137 ?o925 ?_
                    case o925 => decide
                    have nia27_zmoO := nia27_zmo
                    refine hx_iast hx hb hW hT (hx_S.rf (M := [(105, 0)])) (gzmo.S hM) tt_105 rfl ⟨?o926, ?o927⟩ rfl ?o928 (List.mem_singleton.mpr rfl) dX10_plan_138 (fun H locs h_224 eh_224 hW hT hs => ?_)
                    case o926 => omega
                    case o927 => omega
                    case o928 => decide
                    replace f_x_72 := (hs.o (gx.S hM) trivial rfl).1.trans f_x_72
                    replace ffw27_x_75 := (hs.o (gx.S hM) trivial rfl).1.trans ffw27_x_75
                    replace fw_208 := (hs.o (gx.S hM) trivial rfl).1.trans fw_208
                    replace af_zpc : h_224.2.1 zpc = clf := (funext fun j => (hs.a (gzpc.S hM) rfl j).1).trans af_zpc
                    replace af_zpw : h_224.2.1 zpw = wlf := (funext fun j => (hs.a (gzpw.S hM) rfl j).1).trans af_zpw
                    replace af_zpk : h_224.2.1 zpk = wsf := (funext fun j => (hs.a (gzpk.S hM) rfl j).1).trans af_zpk
                    replace nfa_218 : h_224.2.1 zfo = fa_218 := (funext fun j => (hs.a (gzfo.S hM) rfl j).1).trans nfa_218
                    replace nfa_220 : h_224.2.1 zre = fa_220 := (funext fun j => (hs.a (gzre.S hM) rfl j).1).trans nfa_220
                    replace nfa_223 : h_224.2.1 zle = fa_223 := (funext fun j => (hs.a (gzle.S hM) rfl j).1).trans nfa_223
                    replace ex_199 := ex_199.trans (hs.a (gqag.S hM) rfl _).1.symm
                    replace ex_211 := ex_211.trans (hs.a (gqpl.S hM) rfl _).1.symm
                    replace hM := hM.tr (hs.mono ?o929)
                    case o929 => decide
                    obtain ⟨fa_225, dfa_225⟩ : ∃ g : Nat → Int32, g = hx_up ia27_zmo fw27_x_75.toNatClampNeg (0 : Int32) := ⟨_, rfl⟩
                    have nfa_225 : h_224.2.1 zmo = fa_225 := ?o930
                    case o930 =>
                      rw [eh_224, dfa_225, ← nia27_zmoO]
                      exact hx_pi_fun _ _ _ _
                    refine lv_aload_n hx hb dX10_plan_139 rfl (lv_at hl 2 rfl) ?_
                    refine lv_dup hx hb dX10_plan_140 rfl ?_
                    refine hk_geti hx hb hts hC_10 hown hW (gx.S hM) tt_10 75 ?o931 rfl kw_1218 ⟨rfl, rfl, rfl⟩ ffw27_x_75 dX10_plan_141 ?_
                    case o931 => decide
                    refine lv_iconst (v := 1) hx hb dX10_plan_144 ?o932 ?_
                    case o932 => decide
                    refine lv_iadd hx hb dX10_plan_145 ?_
                    have rg_226 := i32_r fw27_x_75
                    refine lv_topi (fun x_227 ex_227 => ?_)
                    have zx_227 : x_227.toInt = fw27_x_75.toInt + 1 := ?o933
                    case o933 =>
                      rw [ex_227]
                      refine i32_add rfl ?o934 ?o935 ?o936
                      case o934 => decide
                      case o935 => omega
                      case o936 => omega
                    refine hx_puti hx hb hts hC_10 hown hW hT (hx_S.rf (M := [(10, 75)])) (gx.S hM) tt_10 75 ?o937 rfl kw_1218 ⟨rfl, rfl, rfl⟩ rfl (x := x_227) ⟨?o938, ?o939⟩ rfl rfl rfl (List.mem_singleton.mpr rfl) dX10_plan_146 (fun H locs h_228 eh_228 hW hT hs => ?_)
                    case o937 => decide
                    case o938 => omega
                    case o939 => omega
                    replace f_x_72 := (hs.o (gx.S hM) trivial rfl).1.trans f_x_72
                    replace fw_208 := (hs.o (gx.S hM) trivial rfl).1.trans fw_208
                    replace af_zpc : h_228.2.1 zpc = clf := (funext fun j => (hs.a (gzpc.S hM) rfl j).1).trans af_zpc
                    replace af_zpw : h_228.2.1 zpw = wlf := (funext fun j => (hs.a (gzpw.S hM) rfl j).1).trans af_zpw
                    replace af_zpk : h_228.2.1 zpk = wsf := (funext fun j => (hs.a (gzpk.S hM) rfl j).1).trans af_zpk
                    replace nfa_218 : h_228.2.1 zfo = fa_218 := (funext fun j => (hs.a (gzfo.S hM) rfl j).1).trans nfa_218
                    replace nfa_220 : h_228.2.1 zre = fa_220 := (funext fun j => (hs.a (gzre.S hM) rfl j).1).trans nfa_220
                    replace nfa_223 : h_228.2.1 zle = fa_223 := (funext fun j => (hs.a (gzle.S hM) rfl j).1).trans nfa_223
                    replace nfa_225 : h_228.2.1 zmo = fa_225 := (funext fun j => (hs.a (gzmo.S hM) rfl j).1).trans nfa_225
                    replace ex_199 := ex_199.trans (hs.a (gqag.S hM) rfl _).1.symm
                    replace ex_211 := ex_211.trans (hs.a (gqpl.S hM) rfl _).1.symm
                    replace hM := hM.tr (hs.mono ?o940)
                    case o940 => decide
                    have f_229 : h_228.2.1 x 75 = x_227 := ?o941
                    case o941 =>
                      rw [eh_228]
                      exact hx_pi_at _ _ _ _
                    obtain ⟨x_230, ex_230⟩ : ∃ y : Int32, y = iv27_3 + Int32.ofInt 1 := ⟨_, rfl⟩
                    have rg_231 := i32_r iv27_3
                    have zx_230 : x_230.toInt = iv27_3.toInt + (1) := ?o942
                    case o942 =>
                      rw [ex_230]
                      refine i32_add rfl ?o943 ?o944 ?o945
                      case o943 => decide
                      case o944 => omega
                      case o945 => omega
                    refine lv_iinc (v := x_230) (lv' := [(3, .int x_230), (4, .int r_214), (0, .ref x), (1, .int i1), (2, .int i2)]) hx hb dX10_plan_149 hl (k := 1) rfl ex_230.symm ?o946 rfl (fun ls hl => ?_)
                    case o946 => decide
                    refine lv_goto (tgt := 27) hx hb dX10_plan_152 ?o947 ?_
                    case o947 => decide
                    refine ih27 x_230 x_227 fa_218 fa_220 fa_223 fa_225 _ _ L_212 h_228 ?o948 ?o949 ?o950 ?o951 (hp_OQ_y (x := iv27_3) (y := w_208) (z := w_208) vi27_0.1 vi27_0.2 ?o952 hag9 hpo9 (by unfold Int32.toNatClampNeg; omega) dfa_218 dfa_220 dfa_223 rfl hro9 hlx9 zx_227 zx_230) (hp_z_s vi27_1 (by unfold Int32.toNatClampNeg; omega) dfa_225 zx_227) ?o953 ls ?o954 hW hT hM f_229 f_x_72 nfa_218 nfa_220 nfa_223 nfa_225 af_zpc af_zpw af_zpk (lv_sub hl [0, 2, 3, 4] rfl)
                    case o948 => omega
                    case o949 => omega
                    case o950 => omega
                    case o951 => omega
                    case o952 => omega
                    case o953 => omega
                    case o954 => omega
                  · skip
                    refine lv_iload hx hb dX10_plan_119 (lv_at hl 0 rfl) ?_
                    refine lv_goto (tgt := 128) hx hb dX10_plan_121 ?o955 ?_
                    case o955 => decide
                    have hlx9 : r_214.toInt = hz_mi ((A (plf iv27_3.toInt.toNat).toInt.toNat).2.1 2) ((hz_Rn odf szf gdf owf svf (hz_rc A plf) pof pdf psm pkf pst nw0.toInt n0.toInt.toNat) iv27_3.toInt.toNat) := by rw [← hlw9, ← hro9]; unfold hz_mi; split <;> omega
                    have nia27_zleO := nia27_zle
                    refine hx_iast hx hb hW hT (hx_S.rf (M := [(104, 0)])) (gzle.S hM) tt_104 rfl ⟨?o956, ?o957⟩ rfl ⟨?o958, ?o959⟩ (List.mem_singleton.mpr rfl) dX10_plan_128 (fun H locs h_232 eh_232 hW hT hs => ?_)
                    case o956 => omega
                    case o957 => omega
                    case o958 => omega
                    case o959 => omega
                    replace f_x_72 := (hs.o (gx.S hM) trivial rfl).1.trans f_x_72
                    replace ffw27_x_75 := (hs.o (gx.S hM) trivial rfl).1.trans ffw27_x_75
                    replace fw_208 := (hs.o (gx.S hM) trivial rfl).1.trans fw_208
                    replace af_zpc : h_232.2.1 zpc = clf := (funext fun j => (hs.a (gzpc.S hM) rfl j).1).trans af_zpc
                    replace af_zpw : h_232.2.1 zpw = wlf := (funext fun j => (hs.a (gzpw.S hM) rfl j).1).trans af_zpw
                    replace af_zpk : h_232.2.1 zpk = wsf := (funext fun j => (hs.a (gzpk.S hM) rfl j).1).trans af_zpk
                    replace nia27_zmo : h_232.2.1 zmo = ia27_zmo := (funext fun j => (hs.a (gzmo.S hM) rfl j).1).trans nia27_zmo
                    replace nfa_218 : h_232.2.1 zfo = fa_218 := (funext fun j => (hs.a (gzfo.S hM) rfl j).1).trans nfa_218
                    replace nfa_220 : h_232.2.1 zre = fa_220 := (funext fun j => (hs.a (gzre.S hM) rfl j).1).trans nfa_220
                    replace ex_199 := ex_199.trans (hs.a (gqag.S hM) rfl _).1.symm
                    replace ex_211 := ex_211.trans (hs.a (gqpl.S hM) rfl _).1.symm
                    replace hM := hM.tr (hs.mono ?o960)
                    case o960 => decide
                    obtain ⟨fa_233, dfa_233⟩ : ∃ g : Nat → Int32, g = hx_up ia27_zle fw27_x_75.toNatClampNeg r_214 := ⟨_, rfl⟩
                    have nfa_233 : h_232.2.1 zle = fa_233 := ?o961
                    case o961 =>
                      rw [eh_232, dfa_233, ← nia27_zleO]
                      exact hx_pi_fun _ _ _ _
                    refine lv_aload_n hx hb dX10_plan_129 rfl (lv_at hl 2 rfl) ?_
                    refine hk_getr hx hb hts hC_10 hown hW (gx.S hM) tt_10 79 ?o962 rfl kw_1222 ⟨rfl, rfl, rfl⟩ ((hM.o gx trivial rfl).2.trans f_x_79) dX10_plan_130 ?_
                    case o962 => decide
                    refine lv_aload_n hx hb dX10_plan_133 rfl (lv_at hl 2 rfl) ?_
                    refine hk_geti hx hb hts hC_10 hown hW (gx.S hM) tt_10 75 ?o963 rfl kw_1218 ⟨rfl, rfl, rfl⟩ ffw27_x_75 dX10_plan_134 ?_
                    case o963 => decide
                    refine lv_iconst (v := 0) hx hb dX10_plan_137 ?o964 ?_
                    case o964 => decide
                    have nia27_zmoO := nia27_zmo
                    refine hx_iast hx hb hW hT (hx_S.rf (M := [(105, 0)])) (gzmo.S hM) tt_105 rfl ⟨?o965, ?o966⟩ rfl ?o967 (List.mem_singleton.mpr rfl) dX10_plan_138 (fun H locs h_234 eh_234 hW hT hs => ?_)
                    case o965 => omega
                    case o966 => omega
                    case o967 => decide
                    replace f_x_72 := (hs.o (gx.S hM) trivial rfl).1.trans f_x_72
                    replace ffw27_x_75 := (hs.o (gx.S hM) trivial rfl).1.trans ffw27_x_75
                    replace fw_208 := (hs.o (gx.S hM) trivial rfl).1.trans fw_208
                    replace af_zpc : h_234.2.1 zpc = clf := (funext fun j => (hs.a (gzpc.S hM) rfl j).1).trans af_zpc
                    replace af_zpw : h_234.2.1 zpw = wlf := (funext fun j => (hs.a (gzpw.S hM) rfl j).1).trans af_zpw
                    replace af_zpk : h_234.2.1 zpk = wsf := (funext fun j => (hs.a (gzpk.S hM) rfl j).1).trans af_zpk
                    replace nfa_218 : h_234.2.1 zfo = fa_218 := (funext fun j => (hs.a (gzfo.S hM) rfl j).1).trans nfa_218
                    replace nfa_220 : h_234.2.1 zre = fa_220 := (funext fun j => (hs.a (gzre.S hM) rfl j).1).trans nfa_220
                    replace nfa_233 : h_234.2.1 zle = fa_233 := (funext fun j => (hs.a (gzle.S hM) rfl j).1).trans nfa_233
                    replace ex_199 := ex_199.trans (hs.a (gqag.S hM) rfl _).1.symm
                    replace ex_211 := ex_211.trans (hs.a (gqpl.S hM) rfl _).1.symm
                    replace hM := hM.tr (hs.mono ?o968)
                    case o968 => decide
                    obtain ⟨fa_235, dfa_235⟩ : ∃ g : Nat → Int32, g = hx_up ia27_zmo fw27_x_75.toNatClampNeg (0 : Int32) := ⟨_, rfl⟩
                    have nfa_235 : h_234.2.1 zmo = fa_235 := ?o969
                    case o969 =>
                      rw [eh_234, dfa_235, ← nia27_zmoO]
                      exact hx_pi_fun _ _ _ _
                    refine lv_aload_n hx hb dX10_plan_139 rfl (lv_at hl 2 rfl) ?_
                    refine lv_dup hx hb dX10_plan_140 rfl ?_
                    refine hk_geti hx hb hts hC_10 hown hW (gx.S hM) tt_10 75 ?o970 rfl kw_1218 ⟨rfl, rfl, rfl⟩ ffw27_x_75 dX10_plan_141 ?_
                    case o970 => decide
                    refine lv_iconst (v := 1) hx hb dX10_plan_144 ?o971 ?_
                    case o971 => decide
                    refine lv_iadd hx hb dX10_plan_145 ?_
                    have rg_236 := i32_r fw27_x_75
                    refine lv_topi (fun x_237 ex_237 => ?_)
                    have zx_237 : x_237.toInt = fw27_x_75.toInt + 1 := ?o972
                    case o972 =>
                      rw [ex_237]
                      refine i32_add rfl ?o973 ?o974 ?o975
                      case o973 => decide
                      case o974 => omega
                      case o975 => omega
                    refine hx_puti hx hb hts hC_10 hown hW hT (hx_S.rf (M := [(10, 75)])) (gx.S hM) tt_10 75 ?o976 rfl kw_1218 ⟨rfl, rfl, rfl⟩ rfl (x := x_237) ⟨?o977, ?o978⟩ rfl rfl rfl (List.mem_singleton.mpr rfl) dX10_plan_146 (fun H locs h_238 eh_238 hW hT hs => ?_)
                    case o976 => decide
                    case o977 => omega
                    case o978 => omega
                    replace f_x_72 := (hs.o (gx.S hM) trivial rfl).1.trans f_x_72
                    replace fw_208 := (hs.o (gx.S hM) trivial rfl).1.trans fw_208
                    replace af_zpc : h_238.2.1 zpc = clf := (funext fun j => (hs.a (gzpc.S hM) rfl j).1).trans af_zpc
                    replace af_zpw : h_238.2.1 zpw = wlf := (funext fun j => (hs.a (gzpw.S hM) rfl j).1).trans af_zpw
                    replace af_zpk : h_238.2.1 zpk = wsf := (funext fun j => (hs.a (gzpk.S hM) rfl j).1).trans af_zpk
                    replace nfa_218 : h_238.2.1 zfo = fa_218 := (funext fun j => (hs.a (gzfo.S hM) rfl j).1).trans nfa_218
                    replace nfa_220 : h_238.2.1 zre = fa_220 := (funext fun j => (hs.a (gzre.S hM) rfl j).1).trans nfa_220
                    replace nfa_233 : h_238.2.1 zle = fa_233 := (funext fun j => (hs.a (gzle.S hM) rfl j).1).trans nfa_233
                    replace nfa_235 : h_238.2.1 zmo = fa_235 := (funext fun j => (hs.a (gzmo.S hM) rfl j).1).trans nfa_235
                    replace ex_199 := ex_199.trans (hs.a (gqag.S hM) rfl _).1.symm
                    replace ex_211 := ex_211.trans (hs.a (gqpl.S hM) rfl _).1.symm
                    replace hM := hM.tr (hs.mono ?o979)
                    case o979 => decide
                    have f_239 : h_238.2.1 x 75 = x_237 := ?o980
                    case o980 =>
                      rw [eh_238]
                      exact hx_pi_at _ _ _ _
                    obtain ⟨x_240, ex_240⟩ : ∃ y : Int32, y = iv27_3 + Int32.ofInt 1 := ⟨_, rfl⟩
                    have rg_241 := i32_r iv27_3
                    have zx_240 : x_240.toInt = iv27_3.toInt + (1) := ?o981
                    case o981 =>
                      rw [ex_240]
                      refine i32_add rfl ?o982 ?o983 ?o984
                      case o982 => decide
                      case o983 => omega
                      case o984 => omega
                    refine lv_iinc (v := x_240) (lv' := [(3, .int x_240), (4, .int r_214), (0, .ref x), (1, .int i1), (2, .int i2)]) hx hb dX10_plan_149 hl (k := 1) rfl ex_240.symm ?o985 rfl (fun ls hl => ?_)
                    case o985 => decide
                    refine lv_goto (tgt := 27) hx hb dX10_plan_152 ?o986 ?_
                    case o986 => decide
                    refine ih27 x_240 x_237 fa_218 fa_220 fa_233 fa_235 _ _ L_212 h_238 ?o987 ?o988 ?o989 ?o990 (hp_OQ_y (x := iv27_3) (y := w_208) (z := r_214) vi27_0.1 vi27_0.2 ?o991 hag9 hpo9 (by unfold Int32.toNatClampNeg; omega) dfa_218 dfa_220 dfa_233 rfl hro9 hlx9 zx_237 zx_240) (hp_z_s vi27_1 (by unfold Int32.toNatClampNeg; omega) dfa_235 zx_237) ?o992 ls ?o993 hW hT hM f_239 f_x_72 nfa_218 nfa_220 nfa_233 nfa_235 af_zpc af_zpw af_zpk (lv_sub hl [0, 2, 3, 4] rfl)
                    case o987 => omega
                    case o988 => omega
                    case o989 => omega
                    case o990 => omega
                    case o991 => omega
                    case o992 => omega
                    case o993 => omega
                · skip
                  have hlm9 := hp_ol_m (ag := agf) (Rn := (hz_Rn odf szf gdf owf svf (hz_rc A plf) pof pdf psm pkf pst nw0.toInt n0.toInt.toNat)) (q := i1.toInt) (a := iv27_3.toInt.toNat + 1) c0.toInt.toNat ?o994
                  case o994 => omega
                  have hlg9 : (hp_ol agf (hz_Rn odf szf gdf owf svf (hz_rc A plf) pof pdf psm pkf pst nw0.toInt n0.toInt.toNat) i1.toInt (iv27_3.toInt.toNat + 1)).length = (hp_ol agf (hz_Rn odf szf gdf owf svf (hz_rc A plf) pof pdf psm pkf pst nw0.toInt n0.toInt.toNat) i1.toInt iv27_3.toInt.toNat).length + 1 := ?o995
                  case o995 =>
                    simp only [hp_ol]
                    rw [if_pos ⟨hag9, hpo9⟩, List.length_append]
                    rfl
                  have hgt9 : 4 < (hp_ol agf (hz_Rn odf szf gdf owf svf (hz_rc A plf) pof pdf psm pkf pst nw0.toInt n0.toInt.toNat) i1.toInt c0.toInt.toNat).length := ?o996
                  case o996 =>
                    have h9 := vi27_0.2
                    omega
                  refine lv_iconst (v := -1) hx hb dX10_plan_64 ?o997 ?_
                  case o997 => decide
                  refine hx_reti hx hb hr hlk hW ⟨⟨td0, clf, wlf, wsf, f_x_72, af_zpc, af_zpw, af_zpk, (Or.inl ⟨Or.inr (Or.inl ⟨⟨⟨?o998, ?o999⟩, ?o1000, ?o1001⟩, hgt9, ?o1002⟩), rfl, rfl, rfl, rfl⟩)⟩, hT, hM⟩ dX10_plan_65
                  case o998 => omega
                  case o999 => omega
                  case o1000 => omega
                  case o1001 => omega
                  case o1002 => decide
              · skip
                replace hop9 := hop9.resolve_left (fun z9 => absurd (c_209.symm.trans z9.1) ?o1003)
                case o1003 => decide
                replace hop9 := hop9.2
                refine lv_goto (tgt := 149) hx hb dX10_plan_53 ?o1004 ?_
                case o1004 => decide
                obtain ⟨x_242, ex_242⟩ : ∃ y : Int32, y = iv27_3 + Int32.ofInt 1 := ⟨_, rfl⟩
                have rg_243 := i32_r iv27_3
                have zx_242 : x_242.toInt = iv27_3.toInt + (1) := ?o1005
                case o1005 =>
                  rw [ex_242]
                  refine i32_add rfl ?o1006 ?o1007 ?o1008
                  case o1006 => decide
                  case o1007 => omega
                  case o1008 => omega
                refine lv_iinc (v := x_242) (lv' := [(3, .int x_242), (0, .ref x), (1, .int i1), (2, .int i2)]) hx hb dX10_plan_149 hl (k := 0) rfl ex_242.symm ?o1009 rfl (fun ls hl => ?_)
                case o1009 => decide
                refine lv_goto (tgt := 27) hx hb dX10_plan_152 ?o1010 ?_
                case o1010 => decide
                refine ih27 x_242 fw27_x_75 ia27_zfo ia27_zre ia27_zle ia27_zmo _ _ L_203 h_204 ?o1011 ?o1012 ?o1013 ?o1014 (hp_OQ_n vi27_0.1 vi27_0.2 ?o1015 (fun z => by have z9 := z.2; rw [← hro9] at z9; omega) zx_242) vi27_1 ?o1016 ls ?o1017 hW hT hM ffw27_x_75 f_x_72 nia27_zfo nia27_zre nia27_zle nia27_zmo af_zpc af_zpw af_zpk (lv_sub hl [0, 1, 2, 3] rfl)
                case o1011 => omega
                case o1012 => omega
                case o1013 => omega
                case o1014 => omega
                case o1015 => omega
                case o1016 => omega
                case o1017 => omega
      have zk_0 : (0 : Int32).toInt = 0 := ?o1018
      case o1018 => decide
      have zk_0 : (0 : Int32).toInt = 0 := ?o1019
      case o1019 => decide
      refine loop27 101 (0 : Int32) (0 : Int32) fa_15 fa_16 fa_17 fa_18 _ _ L_7 h_13 ?o1020 ?o1021 ?o1022 ?o1023 (by rw [zk_0]; exact ⟨hp_OQ_0, rfl⟩) (fun i hi => by exfalso; have zf : (0 : Int32).toInt = 0 := (by decide); omega) ?o1024 ls ?o1025 hW hT hM f_14 f_x_72 nfa_15 nfa_16 nfa_17 nfa_18 af_zpc af_zpw af_zpk hl
      case o1020 => decide
      case o1021 => decide
      case o1022 => decide
      case o1023 => decide
      case o1024 => omega
      case o1025 => omega
    · skip
      replace hr_11 := hr_11.resolve_right (fun z9 => absurd (c_12.symm.trans z9.1) ?o1026)
      case o1026 => decide
      replace hr_11 := hr_11.2
      refine lv_iconst (v := -1) hx hb dX10_plan_18 ?o1027 ?_
      case o1027 => decide
      refine hx_reti hx hb hr hlk hW ⟨⟨td0, clf, wlf, wsf, f_x_72, af_zpc, af_zpw, af_zpk, (Or.inl ⟨Or.inl ⟨(fun hc => by have h1 := hc.1; have h2 := hc.2; omega), ?o1028⟩, rfl, rfl, rfl, rfl⟩)⟩, hT, hM⟩ dX10_plan_19
      case o1028 => decide
