theorem hp_PS_f {C : Prop} {lM L0 : List Nat} {F G : List Nat → Nat → Int} {aF rF : Nat → Int} {n : Nat} {u M M0 rr td td1 : Int} {B : hp_S} {cl cl1 wk wk1 ws ws1 : Nat → Int32} (e1 : lM = L0) (e2 : aF = F lM) (e3 : rF = G lM) (en : n = lM.length) (eM : M = M0) (eB : B = hp_B9 aF rF u (if n = 0 then 0 else M) n) (h1 : C) (h2 : n ≤ 4) (h3 : ¬ (0 < n ∧ M < hp_s aF n)) (h4 : rr = B.1) (h5 : td1 = n) (h6 : ∀ i : Nat, i < n → (cl1 i).toInt = (hp_ge lM i : Nat) ∧ (wk1 i).toInt = hp_w aF u B.2.2 i ∧ (ws1 i).toInt = hz_ru (rF i) (hp_w aF u B.2.2 i)) : hp_PS C L0.length (hp_ge L0) (F L0) (G L0) u M0 rr td td1 cl cl1 wk wk1 ws ws1 := by
  subst e1; subst e2; subst e3; subst en; subst eM; subst eB
  exact Or.inr ⟨⟨h1, h2, h3⟩, h4, h5, h6⟩
theorem hp_PS_t {C : Prop} {lM L0 : List Nat} {F G : List Nat → Nat → Int} {aF rF : Nat → Int} {n : Nat} {u M M0 rr td td1 : Int} {cl cl1 wk wk1 ws ws1 : Nat → Int32} (e1 : lM = L0) (e2 : aF = F lM) (e3 : rF = G lM) (en : n = lM.length) (eM : M = M0) (h1 : C) (h2 : n ≤ 4) (h3 : 0 < n) (h4 : M < hp_s aF n) (h5 : rr = -2) (h6 : td1 = td) (h7 : cl1 = cl) (h8 : wk1 = wk) (h9 : ws1 = ws) : hp_PS C L0.length (hp_ge L0) (F L0) (G L0) u M0 rr td td1 cl cl1 wk wk1 ws ws1 := by
  subst e1; subst e2; subst e3; subst en; subst eM
  exact Or.inl ⟨Or.inr (Or.inr ⟨h1, h2, ⟨h3, h4⟩, h5⟩), h6, h7, h8, h9⟩


set_option maxHeartbeats 4000000 in
set_option maxRecDepth 100000 in
theorem t_X10_weeksOf_v (l : Launch) (dC : Nat → ClassId) (dI : Nat → Nat → Nat) (dA : Nat → ClassId) (L : List Nat) (h : hx_h) (sz : Nat) (x : Nat) (i1 : Int32) (i2 : Int32) (i3 : Int32) (hT : hx_T T_tb L h) (gx : hx_g L h x 10) (zre : Nat) (gzre : hx_g L h zre 103) (f_x_77 : h.2.2 x 77 = some zre) (zle : Nat) (gzle : hx_g L h zle 104) (f_x_78 : h.2.2 x 78 = some zle) (rsf : Nat → Int32) (af_zre : h.2.1 zre = rsf) (lef : Nat → Int32) (af_zle : h.2.1 zle = lef) (hi1 : 0 ≤ i1.toInt ∧ i1.toInt ≤ 3) (hi2 : 0 ≤ i2.toInt ∧ i2.toInt ≤ 12) (hi3 : 1 ≤ i3.toInt ∧ i3.toInt ≤ 99) (hle : 1 ≤ (lef i1.toInt.toNat).toInt ∧ (lef i1.toInt.toNat).toInt ≤ 9999) (hre : 1 ≤ (rsf i1.toInt.toNat).toInt ∧ (rsf i1.toInt.toNat).toInt ≤ 609999) : Met l yX10_weeksOf (Cond.code yX10_weeksOf cX10_weeksOf 5 (some .int) :: hx_all) ({ frames := 0, cells := 0, slots := 0, locals := 0 }) (va_Pc [.ref x, .int i1, .int i2, .int i3] (hx_B T_tb (P_ty dA) (dC, dI) vwCl L h sz)) (va_Qi (fun (r : Int32) (u : List Nat × hx_h) => (r.toInt = hz_ru (rsf i1.toInt.toNat).toInt ((lef i1.toInt.toNat).toInt + i2.toInt * i3.toInt) ∧ (0 ≤ r.toInt ∧ r.toInt ≤ 609999)) ∧ hx_T T_tb u.1 u.2 ∧ hx_S T_tb [] L h u.1 u.2) (hx_E T_tb (P_ty dA) (dC, dI) vwCl (hx_A L sz)) (hx_A L sz)) 0 0 (hx_A L sz) := by
  refine hx_met (lv := [(0, .ref x), (1, .int i1), (2, .int i2), (3, .int i3)]) (by decide +kernel) rfl (Nat.le_of_ble_eq_true rfl) rfl ?_
  intro p e s m below meth c hx hb hml hr hlk hts0 hown hin hsz hW ls hl
  have hts : ∀ w ∈ hx_all, w.before _ s = true := fun w hw => hts0 w (List.mem_cons_of_mem _ hw)
  have hown : s.vm.findClass "SmallCourtModel" = some m.cls := hown
  have hM : hx_S T_tb [] L h L h := hx_S.rf
  refine lv_aload_n hx hb dX10_weeksOf_0 rfl (lv_at hl 0 rfl) ?_
  refine hk_getr hx hb hts hC_10 hown hW (gx.S hM) tt_10 78 (by decide) rfl kw_1221 ⟨rfl, rfl, rfl⟩ ((hM.o gx trivial rfl).2.trans f_x_78) dX10_weeksOf_1 ?_
  refine lv_iload_n hx hb dX10_weeksOf_4 rfl (lv_at hl 1 rfl) ?_
  refine hx_iald hx hb hW hT (gzle.S hM) tt_104 rfl ⟨by omega, by omega⟩ dX10_weeksOf_5 (fun x_1 ex_1 lx_1 ux_1 => ?_)
  have ax_1 : x_1 = lef i1.toNatClampNeg := ex_1.trans (congrFun (hx_afS hM gzle rfl af_zle) _)
  have hav9 : x_1.toInt = (lef i1.toInt.toNat).toInt := congrArg Int32.toInt ax_1
  have hab9 : 1 ≤ x_1.toInt ∧ x_1.toInt ≤ 9999 := by rw [hav9]; exact hle
  refine lv_iload_n hx hb dX10_weeksOf_6 rfl (lv_at hl 2 rfl) ?_
  refine lv_iload_n hx hb dX10_weeksOf_7 rfl (lv_at hl 3 rfl) ?_
  refine lv_imul hx hb dX10_weeksOf_8 ?_
  refine lv_topi (fun x_2 ex_2 => ?_)
  have mx_2 : i2.toInt = 0 → x_2.toInt = 0 := fun z => by rw [ex_2]; exact hx_mul0 z
  obtain ⟨m9, m9l, m9h⟩ := hp_mul ⟨by omega, by omega⟩ ⟨by omega, by omega⟩ ex_2
  refine lv_iadd hx hb dX10_weeksOf_9 ?_
  have rg_3 := i32_r x_1
  have rg_4 := i32_r x_2
  refine lv_topi (fun x_5 ex_5 => ?_)
  have zx_5 : x_5.toInt = x_1.toInt + x_2.toInt := by rw [ex_5]; exact i32_add rfl rfl (by omega) (by omega)
  refine lv_istore (lv' := [(4, .int x_5), (0, .ref x), (1, .int i1), (2, .int i2), (3, .int i3)]) hx hb dX10_weeksOf_10 hl (by decide) rfl (fun ls hl => ?_)
  refine lv_aload_n hx hb dX10_weeksOf_12 rfl (lv_at hl 1 rfl) ?_
  refine hk_getr hx hb hts hC_10 hown hW (gx.S hM) tt_10 77 (by decide) rfl kw_1220 ⟨rfl, rfl, rfl⟩ ((hM.o gx trivial rfl).2.trans f_x_77) dX10_weeksOf_13 ?_
  refine lv_iload_n hx hb dX10_weeksOf_16 rfl (lv_at hl 2 rfl) ?_
  refine hx_iald hx hb hW hT (gzre.S hM) tt_103 rfl ⟨by omega, by omega⟩ dX10_weeksOf_17 (fun x_6 ex_6 lx_6 ux_6 => ?_)
  have ax_6 : x_6 = rsf i1.toNatClampNeg := ex_6.trans (congrFun (hx_afS hM gzre rfl af_zre) _)
  have hrv9 : x_6.toInt = (rsf i1.toInt.toNat).toInt := congrArg Int32.toInt ax_6
  have hrb9 : 1 ≤ x_6.toInt ∧ x_6.toInt ≤ 609999 := by rw [hrv9]; exact hre
  refine lv_iload hx hb dX10_weeksOf_18 (lv_at hl 0 rfl) ?_
  refine lv_iadd hx hb dX10_weeksOf_20 ?_
  have rg_7 := i32_r x_6
  have rg_8 := i32_r x_5
  refine lv_topi (fun x_9 ex_9 => ?_)
  have zx_9 : x_9.toInt = x_6.toInt + x_5.toInt := by rw [ex_9]; exact i32_add rfl rfl (by omega) (by omega)
  refine lv_iconst (v := 1) hx hb dX10_weeksOf_21 (by decide) ?_
  refine lv_isub hx hb dX10_weeksOf_22 ?_
  have rg_10 := i32_r x_9
  refine lv_topi (fun x_11 ex_11 => ?_)
  have zx_11 : x_11.toInt = x_9.toInt - 1 := by rw [ex_11]; exact i32_sub rfl (by decide) (by omega) (by omega)
  refine lv_iload hx hb dX10_weeksOf_23 (lv_at hl 0 rfl) ?_
  refine lv_idiv hx hb dX10_weeksOf_25 (hx_ne0 (by omega)) ?_
  refine lv_topi (fun x_12 ex_12 => ?_)
  have hru9 : x_12.toInt = hz_ru (rsf i1.toInt.toNat).toInt ((lef i1.toInt.toNat).toInt + i2.toInt * i3.toInt) := by rw [ex_12, hx_dv (by omega) (by omega), show x_11.toInt = (rsf i1.toInt.toNat).toInt + ((lef i1.toInt.toNat).toInt + i2.toInt * i3.toInt) - 1 from by rw [← hrv9, ← hav9, ← m9]; omega, show x_5.toInt = (lef i1.toInt.toNat).toInt + i2.toInt * i3.toInt from by rw [← hav9, ← m9]; omega]; exact hz_ru_m (by rw [← hrv9]; omega) (by rw [← hav9, ← m9]; omega)
  have hrq9 : 0 ≤ x_12.toInt ∧ x_12.toInt ≤ 609999 := by have h9 := hz_ru_b (s := (rsf i1.toInt.toNat).toInt) (b := (lef i1.toInt.toNat).toInt + i2.toInt * i3.toInt); rw [← hru9, ← hrv9] at h9; omega
  exact hx_reti hx hb hr hlk hW ⟨⟨hru9, by omega, by omega⟩, hT, hM⟩ dX10_weeksOf_26


set_option maxHeartbeats 4000000 in
set_option maxRecDepth 100000 in
theorem t_X10_plan_v (l : Launch) (dC : Nat → ClassId) (dI : Nat → Nat → Nat) (dA : Nat → ClassId) (L : List Nat) (h : hx_h) (sz : Nat) (x : Nat) (i1 : Int32) (i2 : Int32) (hT : hx_T T_tb L h) (gx : hx_g L h x 10) (qfo : Nat) (gqfo : hx_g L h qfo 81) (f_x_46 : h.2.2 x 46 = some qfo) (qhe : Nat) (gqhe : hx_g L h qhe 82) (f_x_47 : h.2.2 x 47 = some qhe) (qju : Nat) (gqju : hx_g L h qju 86) (f_x_51 : h.2.2 x 51 = some qju) (qod : Nat) (gqod : hx_g L h qod 83) (f_x_48 : h.2.2 x 48 = some qod) (qsv : Nat) (gqsv : hx_g L h qsv 85) (f_x_50 : h.2.2 x 50 = some qsv) (qsz : Nat) (gqsz : hx_g L h qsz 84) (f_x_49 : h.2.2 x 49 = some qsz) (qgd : Nat) (gqgd : hx_g L h qgd 91) (f_x_56 : h.2.2 x 56 = some qgd) (qow : Nat) (gqow : hx_g L h qow 90) (f_x_55 : h.2.2 x 55 = some qow) (qwk : Nat) (gqwk : hx_g L h qwk 89) (f_x_54 : h.2.2 x 54 = some qwk) (qpl : Nat) (gqpl : hx_g L h qpl 79) (f_x_44 : h.2.2 x 44 = some qpl) (qru : Nat) (gqru : hx_g L h qru 50) (f_x_3 : h.2.2 x 3 = some qru) (qpo : Nat) (gqpo : hx_g L h qpo 93) (f_x_60 : h.2.2 x 60 = some qpo) (qpd : Nat) (gqpd : hx_g L h qpd 94) (f_x_61 : h.2.2 x 61 = some qpd) (qps : Nat) (gqps : hx_g L h qps 95) (f_x_62 : h.2.2 x 62 = some qps) (qpk : Nat) (gqpk : hx_g L h qpk 96) (f_x_63 : h.2.2 x 63 = some qpk) (qpt : Nat) (gqpt : hx_g L h qpt 97) (f_x_64 : h.2.2 x 64 = some qpt) (qag : Nat) (gqag : hx_g L h qag 73) (f_x_38 : h.2.2 x 38 = some qag) (qby : Nat) (gqby : hx_g L h qby 72) (f_x_37 : h.2.2 x 37 = some qby) (zfo : Nat) (gzfo : hx_g L h zfo 102) (f_x_76 : h.2.2 x 76 = some zfo) (zre : Nat) (gzre : hx_g L h zre 103) (f_x_77 : h.2.2 x 77 = some zre) (zle : Nat) (gzle : hx_g L h zle 104) (f_x_78 : h.2.2 x 78 = some zle) (zmo : Nat) (gzmo : hx_g L h zmo 105) (f_x_79 : h.2.2 x 79 = some zmo) (zbm : Nat) (gzbm : hx_g L h zbm 106) (f_x_80 : h.2.2 x 80 = some zbm) (zpc : Nat) (gzpc : hx_g L h zpc 100) (f_x_73 : h.2.2 x 73 = some zpc) (zpw : Nat) (gzpw : hx_g L h zpw 101) (f_x_74 : h.2.2 x 74 = some zpw) (zpk : Nat) (gzpk : hx_g L h zpk 107) (f_x_81 : h.2.2 x 81 = some zpk) (qea : Nat) (gqea : hx_g L h qea 59) (f_x_22 : h.2.2 x 22 = some qea) (qhd : Nat) (gqhd : hx_g L h qhd 60) (f_x_23 : h.2.2 x 23 = some qhd) (qad9 : Nat) (gqad9 : hx_g L h qad9 49) (f_x_2 : h.2.2 x 2 = some qad9) (qpn9 : Nat) (gqpn9 : hx_g L h qpn9 51) (f_x_4 : h.2.2 x 4 = some qpn9) (qpf9 : Nat) (gqpf9 : hx_g L h qpf9 52) (f_x_5 : h.2.2 x 5 = some qpf9) (fof : Nat → Int32) (af_qfo : h.2.1 qfo = fof) (hrf : Nat → Int32) (af_qhe : h.2.1 qhe = hrf) (udf : Nat → Int32) (af_qju : h.2.1 qju = udf) (odf : Nat → Int32) (af_qod : h.2.1 qod = odf) (svf : Nat → Int32) (af_qsv : h.2.1 qsv = svf) (szf : Nat → Int32) (af_qsz : h.2.1 qsz = szf) (gdf : Nat → Int32) (af_qgd : h.2.1 qgd = gdf) (owf : Nat → Int32) (af_qow : h.2.1 qow = owf) (wkf : Nat → Int32) (af_qwk : h.2.1 qwk = wkf) (plf : Nat → Int32) (af_qpl : h.2.1 qpl = plf) (rlf : Nat → Int32) (af_qru : h.2.1 qru = rlf) (pof : Nat → Int32) (af_qpo : h.2.1 qpo = pof) (pdf : Nat → Int32) (af_qpd : h.2.1 qpd = pdf) (psm : Nat → Int32) (af_qps : h.2.1 qps = psm) (pkf : Nat → Int32) (af_qpk : h.2.1 qpk = pkf) (pst : Nat → Int32) (af_qpt : h.2.1 qpt = pst) (agf : Nat → Int32) (af_qag : h.2.1 qag = agf) (byf : Nat → Int32) (af_qby : h.2.1 qby = byf) (clf : Nat → Int32) (af_zpc : h.2.1 zpc = clf) (wlf : Nat → Int32) (af_zpw : h.2.1 zpw = wlf) (wsf : Nat → Int32) (af_zpk : h.2.1 zpk = wsf) (eaf : Nat → Int32) (af_qea : h.2.1 qea = eaf) (hdf : Nat → Int32) (af_qhd : h.2.1 qhd = hdf) (adf : Nat → Int32) (af_qad9 : h.2.1 qad9 = adf) (psf : Nat → Int32) (af_qpn9 : h.2.1 qpn9 = psf) (prf : Nat → Int32) (af_qpf9 : h.2.1 qpf9 = prf) (c0 : Int32) (f_x_36 : h.2.1 x 36 = c0) (a0 : Int32) (f_x_1 : h.2.1 x 1 = a0) (nw0 : Int32) (f_x_0 : h.2.1 x 0 = nw0) (n0 : Int32) (f_x_59 : h.2.1 x 59 = n0) (pn0 : Int32) (f_x_20 : h.2.1 x 20 = pn0) (td0 : Int32) (f_x_72 : h.2.1 x 72 = td0) (A : Nat → hv_act) (hCA : hv_CA adf rlf psf prf a0.toInt A) (hPL : hx_PL plf c0.toInt a0.toInt) (hAB : ∀ j : Nat, (∀ k, 0 ≤ (A j).2.1 k ∧ (A j).2.1 k ≤ 9999) ∧ hv_OK (A j).2.2) (hwk9 : ∀ c : Nat, c < c0.toInt.toNat → 1 ≤ (A (plf c).toInt.toNat).2.1 2) (hrn : ∀ c : Nat, c < c0.toInt.toNat → 0 ≤ (hz_Rn odf szf gdf owf svf (hz_rc A plf) pof pdf psm pkf pst nw0.toInt n0.toInt.toNat) c ∧ (hz_Rn odf szf gdf owf svf (hz_rc A plf) pof pdf psm pkf pst nw0.toInt n0.toInt.toNat) c ≤ 609999) : Met l yX10_plan (Cond.code yX10_plan cX10_plan 12 (some .int) :: hx_all) ({ frames := 3, cells := 0, slots := 0, locals := 71 }) (va_Pc [.ref x, .int i1, .int i2] (hx_B T_tb (P_ty dA) (dC, dI) vwCl L h sz)) (va_Qi (fun (r : Int32) (u : List Nat × hx_h) => (∃ (td1 : Int32) (clf1 : Nat → Int32) (wlf1 : Nat → Int32) (wsf1 : Nat → Int32), u.2.2.1 x 72 = td1 ∧ u.2.2.1 zpc = clf1 ∧ u.2.2.1 zpw = wlf1 ∧ u.2.2.1 zpk = wsf1 ∧ (hp_PS ((0 ≤ i1.toInt ∧ i1.toInt < pn0.toInt) ∧ 1 ≤ i2.toInt ∧ i2.toInt ≤ 99) (hp_ol agf (hz_Rn odf szf gdf owf svf (hz_rc A plf) pof pdf psm pkf pst nw0.toInt n0.toInt.toNat) i1.toInt c0.toInt.toNat).length (hp_ge (hp_ol agf (hz_Rn odf szf gdf owf svf (hz_rc A plf) pof pdf psm pkf pst nw0.toInt n0.toInt.toNat) i1.toInt c0.toInt.toNat)) (fun c9 => hz_mi ((fun c9 => (A (plf c9).toInt.toNat).2.1 2) (hp_ge (hp_ol agf (hz_Rn odf szf gdf owf svf (hz_rc A plf) pof pdf psm pkf pst nw0.toInt n0.toInt.toNat) i1.toInt c0.toInt.toNat) c9)) ((hz_Rn odf szf gdf owf svf (hz_rc A plf) pof pdf psm pkf pst nw0.toInt n0.toInt.toNat) (hp_ge (hp_ol agf (hz_Rn odf szf gdf owf svf (hz_rc A plf) pof pdf psm pkf pst nw0.toInt n0.toInt.toNat) i1.toInt c0.toInt.toNat) c9))) (fun c9 => (hz_Rn odf szf gdf owf svf (hz_rc A plf) pof pdf psm pkf pst nw0.toInt n0.toInt.toNat) (hp_ge (hp_ol agf (hz_Rn odf szf gdf owf svf (hz_rc A plf) pof pdf psm pkf pst nw0.toInt n0.toInt.toNat) i1.toInt c0.toInt.toNat) c9)) i2.toInt ((eaf i1.toInt.toNat).toInt - (A (hv_IF A nw0.toInt a0.toInt.toNat)).2.1 3 * (hdf i1.toInt.toNat).toInt) r.toInt td0.toInt td1.toInt clf clf1 wlf wlf1 wsf wsf1)) ∧ hx_T T_tb u.1 u.2 ∧ hx_S T_tb [(10, 67), (10, 68), (10, 69), (10, 70), (10, 71), (10, 72), (10, 75), (100, 0), (101, 0), (102, 0), (103, 0), (104, 0), (105, 0), (106, 0), (107, 0)] L h u.1 u.2) (hx_E T_tb (P_ty dA) (dC, dI) vwCl (hx_A L sz)) (hx_A L sz)) 0 0 (hx_A L sz) := by
  refine hx_met (lv := [(0, .ref x), (1, .int i1), (2, .int i2)]) (by decide +kernel) rfl (Nat.le_of_ble_eq_true rfl) rfl ?_
  intro p e s m below meth c hx hb hml hr hlk hts0 hown hin hsz hW ls hl
  have hts : ∀ w ∈ hx_all, w.before _ s = true := fun w hw => hts0 w (List.mem_cons_of_mem _ hw)
  have hown : s.vm.findClass "SmallCourtModel" = some m.cls := hown
  have hM : hx_S T_tb [(10, 67), (10, 68), (10, 69), (10, 70), (10, 71), (10, 72), (10, 75), (100, 0), (101, 0), (102, 0), (103, 0), (104, 0), (105, 0), (106, 0), (107, 0)] L h L h := hx_S.rf
  have b_c0 := hT.gi gx tt_10 (k := 36) rfl
  rw [f_x_36] at b_c0
  have b_c0 : 0 ≤ c0.toInt ∧ c0.toInt ≤ 100 := b_c0
  have b_a0 := hT.gi gx tt_10 (k := 1) rfl
  rw [f_x_1] at b_a0
  have b_a0 : 0 ≤ a0.toInt ∧ a0.toInt ≤ 8 := b_a0
  have b_nw0 := hT.gi gx tt_10 (k := 0) rfl
  rw [f_x_0] at b_nw0
  have b_nw0 : 0 ≤ nw0.toInt ∧ nw0.toInt ≤ 7999 := b_nw0
  have b_n0 := hT.gi gx tt_10 (k := 59) rfl
  rw [f_x_59] at b_n0
  have b_n0 : 0 ≤ n0.toInt ∧ n0.toInt ≤ 600 := b_n0
  have b_pn0 := hT.gi gx tt_10 (k := 20) rfl
  rw [f_x_20] at b_pn0
  have b_pn0 : 0 ≤ pn0.toInt ∧ pn0.toInt ≤ 40 := b_pn0
  have b_td0 := hT.gi gx tt_10 (k := 72) rfl
  rw [f_x_72] at b_td0
  have b_td0 : 0 ≤ td0.toInt ∧ td0.toInt ≤ 4 := b_td0
  refine lv_aload_n hx hb dX10_plan_0 rfl (lv_at hl 0 rfl) ?_
  refine lv_iload_n hx hb dX10_plan_1 rfl (lv_at hl 1 rfl) ?_
  refine hx_goi (hx_runV (As := [.int i1]) (rest := []) ⟨hx, hb, hml, hown, hts⟩ hW (gx.S hM) tt_10 (T := TX10) (N := 98) rfl (t_X10_isPerson l dC dI dA L h s.heap.size x i1 hT (gx.S hM) pn0 ((hM.o gx trivial rfl).1.trans f_x_20)) (cwV 1 hts (hx_gV kw_1552 kw_1549 kw_1551 kw_68 kw_103) rfl rfl rfl (by decide +kernel) ⟨Nat.le_of_ble_eq_true rfl, Nat.le_of_ble_eq_true rfl⟩) rfl hl.1 rfl (Nat.le_of_ble_eq_true rfl) dX10_plan_2 ⟨Nat.le_of_ble_eq_true rfl, Nat.le_of_ble_eq_true rfl⟩) hW (fun r_3 L_1 h_2 H locs p_4 hW => ?_)
  obtain ⟨hr_5, hT, hs⟩ := p_4
  replace hT : hx_T T_tb L_1 h_2 := hT
  replace hs : hx_S T_tb [] L h L_1 h_2 := hs
  replace f_x_72 := (hs.o (gx.S hM) trivial rfl).1.trans f_x_72
  replace af_zpc : h_2.2.1 zpc = clf := (funext fun j => (hs.a (gzpc.S hM) rfl j).1).trans af_zpc
  replace af_zpw : h_2.2.1 zpw = wlf := (funext fun j => (hs.a (gzpw.S hM) rfl j).1).trans af_zpw
  replace af_zpk : h_2.2.1 zpk = wsf := (funext fun j => (hs.a (gzpk.S hM) rfl j).1).trans af_zpk
  replace hM := hM.tr (hs.mono (by decide))
  refine hb_if_eq (zx := r_3.toInt) (tgt := 18) hx hb rfl dX10_plan_5 (by decide) (fun c_6 => ?_) (fun c_6 => ?_)
  · skip
    replace hr_5 := hr_5.resolve_right (fun z9 => absurd (c_6.symm.trans z9.1) (by decide))
    replace hr_5 := hr_5.2
    refine lv_iconst (v := -1) hx hb dX10_plan_18 (by decide) ?_
    exact hx_reti hx hb hr hlk hW ⟨⟨td0, clf, wlf, wsf, f_x_72, af_zpc, af_zpw, af_zpk, (Or.inl ⟨Or.inl ⟨(fun hc => by have h1 := hc.1; have h2 := hc.2; omega), by decide⟩, rfl, rfl, rfl, rfl⟩)⟩, hT, hM⟩ dX10_plan_19
  · skip
    replace hr_5 := hr_5.resolve_left (fun z9 => c_6 z9.1)
    replace c_6 := hr_5.1
    replace hr_5 := hr_5.2
    refine lv_iload_n hx hb dX10_plan_8 rfl (lv_at hl 2 rfl) ?_
    refine lv_iconst (v := 1) hx hb dX10_plan_9 (by decide) ?_
    refine lv_bipush (v := 99) hx hb dX10_plan_10 (by decide) ?_
    have zc_99 : (99 : Int32).toInt = 99 := by decide
    have zc_1 : (1 : Int32).toInt = 1 := by decide
    refine hx_goi (hx_runS (As := [.int i2, .int (1 : Int32), .int (99 : Int32)]) (rest := []) ⟨hx, hb, hml, hown, hts⟩ hW (t_X10_in l dC dI dA L_1 h_2 H.size i2 (1 : Int32) (99 : Int32) hT) (va_cwS 3 hts (hx_gS kw_1445 kw_1443 kw_1444 kw_103) rfl rfl rfl (by decide +kernel) ⟨Nat.le_of_ble_eq_true rfl, Nat.le_of_ble_eq_true rfl⟩) rfl hl.1 rfl (Nat.le_of_ble_eq_true rfl) dX10_plan_12 ⟨Nat.le_of_ble_eq_true rfl, Nat.le_of_ble_eq_true rfl⟩) hW (fun r_9 L_7 h_8 H locs p_10 hW => ?_)
    obtain ⟨hr_11, hT, hs⟩ := p_10
    replace hT : hx_T T_tb L_7 h_8 := hT
    replace hs : hx_S T_tb [] L_1 h_2 L_7 h_8 := hs
    replace f_x_72 := (hs.o (gx.S hM) trivial rfl).1.trans f_x_72
    replace af_zpc : h_8.2.1 zpc = clf := (funext fun j => (hs.a (gzpc.S hM) rfl j).1).trans af_zpc
    replace af_zpw : h_8.2.1 zpw = wlf := (funext fun j => (hs.a (gzpw.S hM) rfl j).1).trans af_zpw
    replace af_zpk : h_8.2.1 zpk = wsf := (funext fun j => (hs.a (gzpk.S hM) rfl j).1).trans af_zpk
    replace hM := hM.tr (hs.mono (by decide))
    refine hb_if_ne (zx := r_9.toInt) (tgt := 20) hx hb rfl dX10_plan_15 (by decide) (fun c_12 => ?_) (fun c_12 => ?_)
    · skip
      replace hr_11 := hr_11.resolve_left (fun z9 => c_12 z9.1)
      replace c_12 := hr_11.1
      replace hr_11 := hr_11.2
      refine lv_aload_n hx hb dX10_plan_20 rfl (lv_at hl 0 rfl) ?_
      refine lv_iconst (v := 0) hx hb dX10_plan_21 (by decide) ?_
      refine hx_puti hx hb hts hC_10 hown hW hT (hx_S.rf (M := [(10, 75)])) (gx.S hM) tt_10 75 (by decide) rfl kw_1218 ⟨rfl, rfl, rfl⟩ rfl (x := (0 : Int32)) (by decide) rfl rfl rfl (List.mem_singleton.mpr rfl) dX10_plan_22 (fun H locs h_13 eh_13 hW hT hs => ?_)
      replace f_x_72 := (hs.o (gx.S hM) trivial rfl).1.trans f_x_72
      replace af_zpc : h_13.2.1 zpc = clf := (funext fun j => (hs.a (gzpc.S hM) rfl j).1).trans af_zpc
      replace af_zpw : h_13.2.1 zpw = wlf := (funext fun j => (hs.a (gzpw.S hM) rfl j).1).trans af_zpw
      replace af_zpk : h_13.2.1 zpk = wsf := (funext fun j => (hs.a (gzpk.S hM) rfl j).1).trans af_zpk
      replace hM := hM.tr (hs.mono (by decide))
      have f_14 : h_13.2.1 x 75 = (0 : Int32) := by rw [eh_13]; exact hx_pi_at _ _ _ _
      refine lv_iconst (v := 0) hx hb dX10_plan_25 (by decide) ?_
      refine lv_istore_n (lv' := [(3, .int (0 : Int32)), (0, .ref x), (1, .int i1), (2, .int i2)]) hx hb dX10_plan_26 rfl hl (by decide) rfl (fun ls hl => ?_)
      obtain ⟨fa_15, nfa_15⟩ : ∃ g : Nat → Int32, h_13.2.1 zfo = g := ⟨_, rfl⟩
      obtain ⟨fa_16, nfa_16⟩ : ∃ g : Nat → Int32, h_13.2.1 zre = g := ⟨_, rfl⟩
      obtain ⟨fa_17, nfa_17⟩ : ∃ g : Nat → Int32, h_13.2.1 zle = g := ⟨_, rfl⟩
      obtain ⟨fa_18, nfa_18⟩ : ∃ g : Nat → Int32, h_13.2.1 zmo = g := ⟨_, rfl⟩
      have loop27 : ∀ (n27 : Nat) (iv27_3 fw27_x_75 : Int32) (ia27_zfo ia27_zre ia27_zle ia27_zmo : Nat → Int32) (H : Heap) (locs : List Loc) (hL1 : List Nat) (hl1 : hx_h), 0 ≤ iv27_3.toInt → iv27_3.toInt ≤ 100 → 0 ≤ fw27_x_75.toInt → fw27_x_75.toInt ≤ 4 → (hp_OQ agf (hz_Rn odf szf gdf owf svf (hz_rc A plf) pof pdf psm pkf pst nw0.toInt n0.toInt.toNat) (fun c9 => (A (plf c9).toInt.toNat).2.1 2) i1.toInt (iv27_3.toInt).toNat ia27_zfo ia27_zre ia27_zle ∧ fw27_x_75.toInt = ((hp_ol agf (hz_Rn odf szf gdf owf svf (hz_rc A plf) pof pdf psm pkf pst nw0.toInt n0.toInt.toNat) i1.toInt (iv27_3.toInt).toNat).length : Int)) → (∀ i : Nat, (i : Int) < fw27_x_75.toInt → ia27_zmo i = 0) → (iv27_3.toInt ≤ c0.toInt) → ∀ (ls : Array Slot), 100 - iv27_3.toInt < (n27 : Int) → hx_W T_tb (P_ty dA) (dC, dI) vwCl (hx_A L sz) s.heap hL1 hl1 s H locs → hx_T T_tb hL1 hl1 → hx_S T_tb [(10, 67), (10, 68), (10, 69), (10, 70), (10, 71), (10, 72), (10, 75), (100, 0), (101, 0), (102, 0), (103, 0), (104, 0), (105, 0), (106, 0), (107, 0)] L h hL1 hl1 → hl1.2.1 x 75 = fw27_x_75 → hl1.2.1 x 72 = td0 → hl1.2.1 zfo = ia27_zfo → hl1.2.1 zre = ia27_zre → hl1.2.1 zle = ia27_zle → hl1.2.1 zmo = ia27_zmo → hl1.2.1 zpc = clf → hl1.2.1 zpw = wlf → hl1.2.1 zpk = wsf → lv_has ls 12 [(3, .int iv27_3), (0, .ref x), (1, .int i1), (2, .int i2)] → W p l e ({ frames := 3, cells := 0, slots := 0, locals := 71 }) s m ([.ref x, .int i1, .int i2] : List Value).toArray below meth c H locs 0 0 (MQ below (va_Qi (fun (r : Int32) (u : List Nat × hx_h) => (∃ (td1 : Int32) (clf1 : Nat → Int32) (wlf1 : Nat → Int32) (wsf1 : Nat → Int32), u.2.2.1 x 72 = td1 ∧ u.2.2.1 zpc = clf1 ∧ u.2.2.1 zpw = wlf1 ∧ u.2.2.1 zpk = wsf1 ∧ (hp_PS ((0 ≤ i1.toInt ∧ i1.toInt < pn0.toInt) ∧ 1 ≤ i2.toInt ∧ i2.toInt ≤ 99) (hp_ol agf (hz_Rn odf szf gdf owf svf (hz_rc A plf) pof pdf psm pkf pst nw0.toInt n0.toInt.toNat) i1.toInt c0.toInt.toNat).length (hp_ge (hp_ol agf (hz_Rn odf szf gdf owf svf (hz_rc A plf) pof pdf psm pkf pst nw0.toInt n0.toInt.toNat) i1.toInt c0.toInt.toNat)) (fun c9 => hz_mi ((fun c9 => (A (plf c9).toInt.toNat).2.1 2) (hp_ge (hp_ol agf (hz_Rn odf szf gdf owf svf (hz_rc A plf) pof pdf psm pkf pst nw0.toInt n0.toInt.toNat) i1.toInt c0.toInt.toNat) c9)) ((hz_Rn odf szf gdf owf svf (hz_rc A plf) pof pdf psm pkf pst nw0.toInt n0.toInt.toNat) (hp_ge (hp_ol agf (hz_Rn odf szf gdf owf svf (hz_rc A plf) pof pdf psm pkf pst nw0.toInt n0.toInt.toNat) i1.toInt c0.toInt.toNat) c9))) (fun c9 => (hz_Rn odf szf gdf owf svf (hz_rc A plf) pof pdf psm pkf pst nw0.toInt n0.toInt.toNat) (hp_ge (hp_ol agf (hz_Rn odf szf gdf owf svf (hz_rc A plf) pof pdf psm pkf pst nw0.toInt n0.toInt.toNat) i1.toInt c0.toInt.toNat) c9)) i2.toInt ((eaf i1.toInt.toNat).toInt - (A (hv_IF A nw0.toInt a0.toInt.toNat)).2.1 3 * (hdf i1.toInt.toNat).toInt) r.toInt td0.toInt td1.toInt clf clf1 wlf wlf1 wsf wsf1)) ∧ hx_T T_tb u.1 u.2 ∧ hx_S T_tb [(10, 67), (10, 68), (10, 69), (10, 70), (10, 71), (10, 72), (10, 75), (100, 0), (101, 0), (102, 0), (103, 0), (104, 0), (105, 0), (106, 0), (107, 0)] L h u.1 u.2) (hx_E T_tb (P_ty dA) (dC, dI) vwCl (hx_A L sz)) (hx_A L sz)) ([.ref x, .int i1, .int i2] : List Value).toArray s 0 0 (hx_A L sz)) (F0 m 27 ls []) := by
        intro n27
        induction n27 with
        | zero => intro iv27_3 fw27_x_75 ia27_zfo ia27_zre ia27_zle ia27_zmo H locs hL1 hl1 bliv27_3 buiv27_3 blfw27_x_75 bufw27_x_75 vi27_0 vi27_1 vi27_2 ls hn27; exfalso; omega
        | succ n27 ih27 =>
          intro iv27_3 fw27_x_75 ia27_zfo ia27_zre ia27_zle ia27_zmo H locs hL1 hl1 bliv27_3 buiv27_3 blfw27_x_75 bufw27_x_75 vi27_0 vi27_1 vi27_2 ls hn27 hW hT hM ffw27_x_75 f_x_72 nia27_zfo nia27_zre nia27_zle nia27_zmo af_zpc af_zpw af_zpk hl
          have hin9 : ((iv27_3.toInt.toNat : Nat) : Int) = iv27_3.toInt := Int.toNat_of_nonneg (by omega)
          refine lv_iload_n hx hb dX10_plan_27 rfl (lv_at hl 0 rfl) ?_
          refine lv_aload_n hx hb dX10_plan_28 rfl (lv_at hl 1 rfl) ?_
          refine hk_geti hx hb hts hC_10 hown hW (gx.S hM) tt_10 36 (by decide) rfl kw_1179 ⟨rfl, rfl, rfl⟩ ((hM.o gx trivial rfl).1.trans f_x_36) dX10_plan_29 ?_
          refine hb_icmp_ge (zx := iv27_3.toInt) (zy := c0.toInt) (tgt := 155) hx hb rfl rfl dX10_plan_32 (by decide) (fun c_19 => ?_) (fun c_19 => ?_)
          · skip
            refine lv_aload_n hx hb dX10_plan_155 rfl (lv_at hl 1 rfl) ?_
            refine lv_iload_n hx hb dX10_plan_156 rfl (lv_at hl 2 rfl) ?_
            refine lv_aload_n hx hb dX10_plan_157 rfl (lv_at hl 1 rfl) ?_
            refine lv_aload_n hx hb dX10_plan_158 rfl (lv_at hl 1 rfl) ?_
            refine hk_geti hx hb hts hC_10 hown hW (gx.S hM) tt_10 0 (by decide) rfl kw_1143 ⟨rfl, rfl, rfl⟩ ((hM.o gx trivial rfl).1.trans f_x_0) dX10_plan_159 ?_
            refine hx_goi (hx_runV (As := [.int nw0]) (rest := [.int i1, .ref x]) ⟨hx, hb, hml, hown, hts⟩ hW (gx.S hM) tt_10 (T := TX10) (N := 98) rfl (t_X10_inForce_v l dC dI dA hL1 hl1 H.size x nw0 hT (gx.S hM) qad9 (gqad9.S hM) ((hM.o gx trivial rfl).2.trans f_x_2) qru (gqru.S hM) ((hM.o gx trivial rfl).2.trans f_x_3) qpn9 (gqpn9.S hM) ((hM.o gx trivial rfl).2.trans f_x_4) qpf9 (gqpf9.S hM) ((hM.o gx trivial rfl).2.trans f_x_5) adf (hx_afS hM gqad9 rfl af_qad9) rlf (hx_afS hM gqru rfl af_qru) psf (hx_afS hM gqpn9 rfl af_qpn9) prf (hx_afS hM gqpf9 rfl af_qpf9) a0 ((hM.o gx trivial rfl).1.trans f_x_1) A hCA) (cwV 1 hts (hx_gV kw_1529 kw_1526 kw_1528 kw_65 kw_103) rfl rfl rfl (by decide +kernel) ⟨Nat.le_of_ble_eq_true rfl, Nat.le_of_ble_eq_true rfl⟩) rfl hl.1 rfl (Nat.le_of_ble_eq_true rfl) dX10_plan_162 ⟨Nat.le_of_ble_eq_true rfl, Nat.le_of_ble_eq_true rfl⟩) hW (fun r_22 L_20 h_21 H locs p_23 hW => ?_)
            obtain ⟨hr_24, hT, hs⟩ := p_23
            replace hT : hx_T T_tb L_20 h_21 := hT
            replace hs : hx_S T_tb [] hL1 hl1 L_20 h_21 := hs
            replace f_x_72 := (hs.o (gx.S hM) trivial rfl).1.trans f_x_72
            replace ffw27_x_75 := (hs.o (gx.S hM) trivial rfl).1.trans ffw27_x_75
            replace af_zpc : h_21.2.1 zpc = clf := (funext fun j => (hs.a (gzpc.S hM) rfl j).1).trans af_zpc
            replace af_zpw : h_21.2.1 zpw = wlf := (funext fun j => (hs.a (gzpw.S hM) rfl j).1).trans af_zpw
            replace af_zpk : h_21.2.1 zpk = wsf := (funext fun j => (hs.a (gzpk.S hM) rfl j).1).trans af_zpk
            replace nia27_zfo : h_21.2.1 zfo = ia27_zfo := (funext fun j => (hs.a (gzfo.S hM) rfl j).1).trans nia27_zfo
            replace nia27_zre : h_21.2.1 zre = ia27_zre := (funext fun j => (hs.a (gzre.S hM) rfl j).1).trans nia27_zre
            replace nia27_zle : h_21.2.1 zle = ia27_zle := (funext fun j => (hs.a (gzle.S hM) rfl j).1).trans nia27_zle
            replace nia27_zmo : h_21.2.1 zmo = ia27_zmo := (funext fun j => (hs.a (gzmo.S hM) rfl j).1).trans nia27_zmo
            replace hM := hM.tr (hs.mono (by decide))
            have hib9 := hv_IF_b (A := A) (d := nw0.toInt) a0.toInt.toNat
            obtain ⟨_, hi29, _⟩ := hCA.2 (hv_IF A nw0.toInt a0.toInt.toNat) (by omega)
            refine hx_goi (hx_runV (As := [.int i1, .int r_22]) (rest := []) ⟨hx, hb, hml, hown, hts⟩ hW (gx.S hM) tt_10 (T := TX10) (N := 98) rfl (t_X10_means_v l dC dI dA L_20 h_21 H.size x i1 r_22 hT (gx.S hM) qea (gqea.S hM) ((hM.o gx trivial rfl).2.trans f_x_22) qhd (gqhd.S hM) ((hM.o gx trivial rfl).2.trans f_x_23) qru (gqru.S hM) ((hM.o gx trivial rfl).2.trans f_x_3) eaf (hx_afS hM gqea rfl af_qea) hdf (hx_afS hM gqhd rfl af_qhd) rlf (hx_afS hM gqru rfl af_qru) ⟨by omega, by omega⟩ ⟨by omega, by omega⟩ ((A (hv_IF A nw0.toInt a0.toInt.toNat)).2.1 3) (by rw [show r_22.toInt.toNat = hv_IF A nw0.toInt a0.toInt.toNat from by have h9 := hr_24.1; omega, ← hi29]; show _ = (if 3 < 13 then _ else 0); rw [if_pos (by decide)]; try rfl)) (cwV 2 hts (hx_gV kw_1645 kw_1642 kw_1644 kw_83 kw_103) rfl rfl rfl (by decide +kernel) ⟨Nat.le_of_ble_eq_true rfl, Nat.le_of_ble_eq_true rfl⟩) rfl hl.1 rfl (Nat.le_of_ble_eq_true rfl) dX10_plan_165 ⟨Nat.le_of_ble_eq_true rfl, Nat.le_of_ble_eq_true rfl⟩) hW (fun r_27 L_25 h_26 H locs p_28 hW => ?_)
            obtain ⟨hr_29, hT, hs⟩ := p_28
            replace hT : hx_T T_tb L_25 h_26 := hT
            replace hs : hx_S T_tb [] L_20 h_21 L_25 h_26 := hs
            replace f_x_72 := (hs.o (gx.S hM) trivial rfl).1.trans f_x_72
            replace ffw27_x_75 := (hs.o (gx.S hM) trivial rfl).1.trans ffw27_x_75
            replace af_zpc : h_26.2.1 zpc = clf := (funext fun j => (hs.a (gzpc.S hM) rfl j).1).trans af_zpc
            replace af_zpw : h_26.2.1 zpw = wlf := (funext fun j => (hs.a (gzpw.S hM) rfl j).1).trans af_zpw
            replace af_zpk : h_26.2.1 zpk = wsf := (funext fun j => (hs.a (gzpk.S hM) rfl j).1).trans af_zpk
            replace nia27_zfo : h_26.2.1 zfo = ia27_zfo := (funext fun j => (hs.a (gzfo.S hM) rfl j).1).trans nia27_zfo
            replace nia27_zre : h_26.2.1 zre = ia27_zre := (funext fun j => (hs.a (gzre.S hM) rfl j).1).trans nia27_zre
            replace nia27_zle : h_26.2.1 zle = ia27_zle := (funext fun j => (hs.a (gzle.S hM) rfl j).1).trans nia27_zle
            replace nia27_zmo : h_26.2.1 zmo = ia27_zmo := (funext fun j => (hs.a (gzmo.S hM) rfl j).1).trans nia27_zmo
            replace hM := hM.tr (hs.mono (by decide))
            have hme9 : r_27.toInt = ((eaf i1.toInt.toNat).toInt - (A (hv_IF A nw0.toInt a0.toInt.toNat)).2.1 3 * (hdf i1.toInt.toNat).toInt) := hr_29.1
            refine lv_istore_n (lv' := [(3, .int r_27), (0, .ref x), (1, .int i1), (2, .int i2)]) hx hb dX10_plan_168 rfl hl (by decide) rfl (fun ls hl => ?_)
            obtain ⟨hOQ9, hol9⟩ := vi27_0; rw [show iv27_3.toInt.toNat = c0.toInt.toNat by omega] at hOQ9 hol9
            obtain ⟨lM9, eLM9⟩ : ∃ z : List Nat, z = (hp_ol agf (hz_Rn odf szf gdf owf svf (hz_rc A plf) pof pdf psm pkf pst nw0.toInt n0.toInt.toNat) i1.toInt c0.toInt.toNat) := ⟨_, rfl⟩; rw [← eLM9] at hol9
            have hnl9 : fw27_x_75.toInt.toNat = lM9.length := by omega
            have hfn9 : ((fw27_x_75.toInt.toNat : Nat) : Int) = fw27_x_75.toInt := Int.toNat_of_nonneg (by omega)
            obtain ⟨aF9, eaF9⟩ : ∃ z : Nat → Int, z = (fun c9 => hz_mi ((fun c9 => (A (plf c9).toInt.toNat).2.1 2) (hp_ge lM9 c9)) ((hz_Rn odf szf gdf owf svf (hz_rc A plf) pof pdf psm pkf pst nw0.toInt n0.toInt.toNat) (hp_ge lM9 c9))) := ⟨_, rfl⟩
            obtain ⟨rF9, erF9⟩ : ∃ z : Nat → Int, z = (fun c9 => (hz_Rn odf szf gdf owf svf (hz_rc A plf) pof pdf psm pkf pst nw0.toInt n0.toInt.toNat) (hp_ge lM9 c9)) := ⟨_, rfl⟩
            have hob9 : ∀ i : Nat, i < fw27_x_75.toInt.toNat → hp_ge lM9 i < c0.toInt.toNat ∧ 0 < (hz_Rn odf szf gdf owf svf (hz_rc A plf) pof pdf psm pkf pst nw0.toInt n0.toInt.toNat) (hp_ge lM9 i) := fun i hi => by have hi2 : i < lM9.length := (by omega); rw [eLM9] at hi2 ⊢; exact hp_ol_b _ i hi2
            have hoq9 : ∀ i : Nat, i < fw27_x_75.toInt.toNat → (ia27_zfo i).toInt = (hp_ge lM9 i : Nat) ∧ (ia27_zre i).toInt = rF9 i ∧ (ia27_zle i).toInt = aF9 i := fun i hi => by have hi2 : i < lM9.length := (by omega); rw [erF9, eaF9]; rw [eLM9] at hi2 ⊢; exact hOQ9 i hi2
            have hla9 : ∀ i : Nat, i < fw27_x_75.toInt.toNat → (ia27_zle i).toInt = aF9 i := fun i hi => (hoq9 i hi).2.2
            have hlr9 : ∀ i : Nat, i < fw27_x_75.toInt.toNat → (ia27_zre i).toInt = rF9 i := fun i hi => (hoq9 i hi).2.1
            have hle9 : ∀ i : Nat, i < fw27_x_75.toInt.toNat → 1 ≤ (ia27_zle i).toInt ∧ (ia27_zle i).toInt ≤ 9999 := fun i hi => by have h8 := hob9 i hi; have h7 := hwk9 _ h8.1; have h6 := (hAB (plf (hp_ge lM9 i)).toInt.toNat).1 2; rw [hla9 i hi, eaF9]; show 1 ≤ hz_mi _ _ ∧ hz_mi _ _ ≤ 9999; unfold hz_mi; dsimp only; split <;> omega
            have hre9 : ∀ i : Nat, i < fw27_x_75.toInt.toNat → 1 ≤ (ia27_zre i).toInt ∧ (ia27_zre i).toInt ≤ 609999 := fun i hi => by rw [hlr9 i hi, erF9]; exact ⟨(hob9 i hi).2, (hrn _ (hob9 i hi).1).2⟩
            clear hol9 hOQ9
            refine lv_aload_n hx hb dX10_plan_169 rfl (lv_at hl 1 rfl) ?_
            refine hk_geti hx hb hts hC_10 hown hW (gx.S hM) tt_10 75 (by decide) rfl kw_1218 ⟨rfl, rfl, rfl⟩ ffw27_x_75 dX10_plan_170 ?_
            refine hb_if_ne (zx := fw27_x_75.toInt) (tgt := 180) hx hb rfl dX10_plan_173 (by decide) (fun c_30 => ?_) (fun c_30 => ?_)
            · skip
              replace c_30 : 1 ≤ fw27_x_75.toInt := by omega
              refine lv_ldcw (v := 1000000000) hx hb hown (hts _ kw_1678) dX10_plan_180 ?_
              refine lv_istore (lv' := [(4, .int (1000000000 : Int32)), (3, .int r_27), (0, .ref x), (1, .int i1), (2, .int i2)]) hx hb dX10_plan_183 hl (by decide) rfl (fun ls hl => ?_)
              refine lv_ldcw (v := 1000000000) hx hb hown (hts _ kw_1678) dX10_plan_185 ?_
              refine lv_istore (lv' := [(5, .int (1000000000 : Int32)), (4, .int (1000000000 : Int32)), (3, .int r_27), (0, .ref x), (1, .int i1), (2, .int i2)]) hx hb dX10_plan_188 hl (by decide) rfl (fun ls hl => ?_)
              refine lv_aload_n hx hb dX10_plan_190 rfl (lv_at hl 3 rfl) ?_
              refine hk_geti hx hb hts hC_10 hown hW (gx.S hM) tt_10 75 (by decide) rfl kw_1218 ⟨rfl, rfl, rfl⟩ ffw27_x_75 dX10_plan_191 ?_
              refine hb_if_le (zx := fw27_x_75.toInt) (tgt := 201) hx hb rfl dX10_plan_194 (by decide) (fun c_31 => by exfalso; omega) (fun c_31 => ?_)
              refine lv_iconst (v := 1) hx hb dX10_plan_197 (by decide) ?_
              refine lv_goto (tgt := 202) hx hb dX10_plan_198 (by decide) ?_
              obtain ⟨fa_32, nfa_32⟩ : ∃ g : Nat → Int32, h_26.2.1 zbm = g := ⟨_, rfl⟩
              have hm12 : hx_m12 ia27_zmo := (fun k hk => by have q := hT.ei (gzmo.S hM) tt_105 (k := k) hk; rw [nia27_zmo] at q; exact q)
              have hvb := hx_V_b hm12
              refine lv_istore (lv' := [(6, .int (1 : Int32)), (5, .int (1000000000 : Int32)), (4, .int (1000000000 : Int32)), (3, .int r_27), (0, .ref x), (1, .int i1), (2, .int i2)]) hx hb dX10_plan_202 hl (by decide) rfl (fun ls hl => ?_)
              have loop204 : ∀ (n204 : Nat) (iv204_4 iv204_5 iv204_6 : Int32) (ia204_zmo ia204_zbm : Nat → Int32) (H : Heap) (locs : List Loc) (hL1 : List Nat) (hl1 : hx_h), -2147483648 ≤ iv204_4.toInt → iv204_4.toInt ≤ 2147483647 → -2147483648 ≤ iv204_5.toInt → iv204_5.toInt ≤ 2147483647 → 0 ≤ iv204_6.toInt → iv204_6.toInt ≤ 1 → (hp_OD aF9 rF9 i2.toInt r_27.toInt fw27_x_75.toInt.toNat iv204_4.toInt iv204_5.toInt iv204_6.toInt ia204_zmo ia204_zbm) → (hx_m12 ia204_zmo) → ∀ (ls : Array Slot), (iv204_6.toInt = 0 ∧ 0 < (n204 : Int)) ∨ 28562 - hx_V ia204_zmo < (n204 : Int) → hx_W T_tb (P_ty dA) (dC, dI) vwCl (hx_A L sz) s.heap hL1 hl1 s H locs → hx_T T_tb hL1 hl1 → hx_S T_tb [(10, 67), (10, 68), (10, 69), (10, 70), (10, 71), (10, 72), (10, 75), (100, 0), (101, 0), (102, 0), (103, 0), (104, 0), (105, 0), (106, 0), (107, 0)] L h hL1 hl1 → hl1.2.1 x 72 = td0 → hl1.2.1 x 75 = fw27_x_75 → hl1.2.1 zmo = ia204_zmo → hl1.2.1 zbm = ia204_zbm → hl1.2.1 zpc = clf → hl1.2.1 zpw = wlf → hl1.2.1 zpk = wsf → hl1.2.1 zfo = ia27_zfo → hl1.2.1 zre = ia27_zre → hl1.2.1 zle = ia27_zle → lv_has ls 12 [(6, .int iv204_6), (5, .int iv204_5), (4, .int iv204_4), (3, .int r_27), (0, .ref x), (1, .int i1), (2, .int i2)] → W p l e ({ frames := 3, cells := 0, slots := 0, locals := 71 }) s m ([.ref x, .int i1, .int i2] : List Value).toArray below meth c H locs 0 0 (MQ below (va_Qi (fun (r : Int32) (u : List Nat × hx_h) => (∃ (td1 : Int32) (clf1 : Nat → Int32) (wlf1 : Nat → Int32) (wsf1 : Nat → Int32), u.2.2.1 x 72 = td1 ∧ u.2.2.1 zpc = clf1 ∧ u.2.2.1 zpw = wlf1 ∧ u.2.2.1 zpk = wsf1 ∧ (hp_PS ((0 ≤ i1.toInt ∧ i1.toInt < pn0.toInt) ∧ 1 ≤ i2.toInt ∧ i2.toInt ≤ 99) (hp_ol agf (hz_Rn odf szf gdf owf svf (hz_rc A plf) pof pdf psm pkf pst nw0.toInt n0.toInt.toNat) i1.toInt c0.toInt.toNat).length (hp_ge (hp_ol agf (hz_Rn odf szf gdf owf svf (hz_rc A plf) pof pdf psm pkf pst nw0.toInt n0.toInt.toNat) i1.toInt c0.toInt.toNat)) (fun c9 => hz_mi ((fun c9 => (A (plf c9).toInt.toNat).2.1 2) (hp_ge (hp_ol agf (hz_Rn odf szf gdf owf svf (hz_rc A plf) pof pdf psm pkf pst nw0.toInt n0.toInt.toNat) i1.toInt c0.toInt.toNat) c9)) ((hz_Rn odf szf gdf owf svf (hz_rc A plf) pof pdf psm pkf pst nw0.toInt n0.toInt.toNat) (hp_ge (hp_ol agf (hz_Rn odf szf gdf owf svf (hz_rc A plf) pof pdf psm pkf pst nw0.toInt n0.toInt.toNat) i1.toInt c0.toInt.toNat) c9))) (fun c9 => (hz_Rn odf szf gdf owf svf (hz_rc A plf) pof pdf psm pkf pst nw0.toInt n0.toInt.toNat) (hp_ge (hp_ol agf (hz_Rn odf szf gdf owf svf (hz_rc A plf) pof pdf psm pkf pst nw0.toInt n0.toInt.toNat) i1.toInt c0.toInt.toNat) c9)) i2.toInt ((eaf i1.toInt.toNat).toInt - (A (hv_IF A nw0.toInt a0.toInt.toNat)).2.1 3 * (hdf i1.toInt.toNat).toInt) r.toInt td0.toInt td1.toInt clf clf1 wlf wlf1 wsf wsf1)) ∧ hx_T T_tb u.1 u.2 ∧ hx_S T_tb [(10, 67), (10, 68), (10, 69), (10, 70), (10, 71), (10, 72), (10, 75), (100, 0), (101, 0), (102, 0), (103, 0), (104, 0), (105, 0), (106, 0), (107, 0)] L h u.1 u.2) (hx_E T_tb (P_ty dA) (dC, dI) vwCl (hx_A L sz)) (hx_A L sz)) ([.ref x, .int i1, .int i2] : List Value).toArray s 0 0 (hx_A L sz)) (F0 m 204 ls []) := by
                intro n204
                induction n204 with
                | zero => intro iv204_4 iv204_5 iv204_6 ia204_zmo ia204_zbm H locs hL1 hl1 bliv204_4 buiv204_4 bliv204_5 buiv204_5 bliv204_6 buiv204_6 vi204_0 vi204_1 ls hn204; exfalso; have hvbz := hx_V_b vi204_1; omega
                | succ n204 ih204 =>
                  intro iv204_4 iv204_5 iv204_6 ia204_zmo ia204_zbm H locs hL1 hl1 bliv204_4 buiv204_4 bliv204_5 buiv204_5 bliv204_6 buiv204_6 vi204_0 vi204_1 ls hn204 hW hT hM f_x_72 ffw27_x_75 nia204_zmo nia204_zbm af_zpc af_zpw af_zpk nia27_zfo nia27_zre nia27_zle hl
                  refine lv_iload hx hb dX10_plan_204 (lv_at hl 0 rfl) ?_
                  have hvb0 := hx_V_b vi204_1
                  refine hb_if_eq (zx := iv204_6.toInt) (tgt := 434) hx hb rfl dX10_plan_206 (by decide) (fun c_33 => ?_) (fun c_33 => ?_)
                  · skip
                    have hE9 : hp_SM (hp_B9 aF9 rF9 i2.toInt r_27.toInt fw27_x_75.toInt.toNat) iv204_4.toInt iv204_5.toInt ia204_zbm fw27_x_75.toInt.toNat := hp_OD_e (by have h9 := vi204_0; rw [show iv204_6.toInt = 0 by omega] at h9; exact h9)
                    refine lv_iload hx hb dX10_plan_434 (lv_at hl 2 rfl) ?_
                    refine lv_ldcw (v := 1000000000) hx hb hown (hts _ kw_1678) dX10_plan_436 ?_
                    refine hb_icmp_ne (zx := iv204_4.toInt) (zy := 1000000000) (tgt := 445) hx hb rfl (by decide) dX10_plan_439 (by decide) (fun c_34 => ?_) (fun c_34 => ?_)
                    · skip
                      obtain ⟨bB9, ebB9⟩ : ∃ z : hp_S, z = (hp_B9 aF9 rF9 i2.toInt (if fw27_x_75.toInt.toNat = 0 then 0 else r_27.toInt) fw27_x_75.toInt.toNat) := ⟨_, rfl⟩
                      have hfe9 : hq_P (¬ (0 < fw27_x_75.toInt.toNat ∧ r_27.toInt < hp_s aF9 fw27_x_75.toInt.toNat)) := fun z9 => by have h9 := hE9.1; rw [hp_no (by omega) z9.2] at h9; have h8 : (1000000000 : Int) = iv204_4.toInt := h9; omega
                      have heB9 : bB9 = hp_B9 aF9 rF9 i2.toInt r_27.toInt fw27_x_75.toInt.toNat := by rw [ebB9, if_neg (by omega)]
                      have hB9 : bB9.1 = iv204_4.toInt := by rw [heB9]; exact hE9.1
                      have hlt9 : iv204_4.toInt ≤ 609999 := by rw [← hE9.1]; exact hp_some (Decidable.byContradiction (fun z9 => hq_o hfe9 ⟨by omega, by omega⟩)) (fun i hi => by rw [← hlr9 i hi]; exact (hre9 i hi).2)
                      have hbm9 : ∀ i : Nat, i < fw27_x_75.toInt.toNat → (ia204_zbm i).toInt = bB9.2.2 i := fun i hi => by rw [heB9]; exact hE9.2.2 (by omega) i hi
                      refine lv_aload_n hx hb dX10_plan_445 rfl (lv_at hl 4 rfl) ?_
                      refine lv_aload_n hx hb dX10_plan_446 rfl (lv_at hl 4 rfl) ?_
                      refine hk_geti hx hb hts hC_10 hown hW (gx.S hM) tt_10 75 (by decide) rfl kw_1218 ⟨rfl, rfl, rfl⟩ ffw27_x_75 dX10_plan_447 ?_
                      refine hx_puti hx hb hts hC_10 hown hW hT (hx_S.rf (M := [(10, 72)])) (gx.S hM) tt_10 72 (by decide) rfl kw_1215 ⟨rfl, rfl, rfl⟩ rfl (x := fw27_x_75) ⟨by omega, by omega⟩ rfl rfl rfl (List.mem_singleton.mpr rfl) dX10_plan_450 (fun H locs h_35 eh_35 hW hT hs => ?_)
                      replace ffw27_x_75 := (hs.o (gx.S hM) trivial rfl).1.trans ffw27_x_75
                      replace af_zpc : h_35.2.1 zpc = clf := (funext fun j => (hs.a (gzpc.S hM) rfl j).1).trans af_zpc
                      replace af_zpw : h_35.2.1 zpw = wlf := (funext fun j => (hs.a (gzpw.S hM) rfl j).1).trans af_zpw
                      replace af_zpk : h_35.2.1 zpk = wsf := (funext fun j => (hs.a (gzpk.S hM) rfl j).1).trans af_zpk
                      replace nia27_zfo : h_35.2.1 zfo = ia27_zfo := (funext fun j => (hs.a (gzfo.S hM) rfl j).1).trans nia27_zfo
                      replace nia27_zre : h_35.2.1 zre = ia27_zre := (funext fun j => (hs.a (gzre.S hM) rfl j).1).trans nia27_zre
                      replace nia27_zle : h_35.2.1 zle = ia27_zle := (funext fun j => (hs.a (gzle.S hM) rfl j).1).trans nia27_zle
                      replace nia204_zmo : h_35.2.1 zmo = ia204_zmo := (funext fun j => (hs.a (gzmo.S hM) rfl j).1).trans nia204_zmo
                      replace nia204_zbm : h_35.2.1 zbm = ia204_zbm := (funext fun j => (hs.a (gzbm.S hM) rfl j).1).trans nia204_zbm
                      replace hM := hM.tr (hs.mono (by decide))
                      have f_36 : h_35.2.1 x 72 = fw27_x_75 := by rw [eh_35]; exact hx_pi_at _ _ _ _
                      refine lv_iconst (v := 0) hx hb dX10_plan_453 (by decide) ?_
                      refine lv_istore (lv' := [(7, .int (0 : Int32)), (6, .int iv204_6), (5, .int iv204_5), (4, .int iv204_4), (3, .int r_27), (0, .ref x), (1, .int i1), (2, .int i2)]) hx hb dX10_plan_454 hl (by decide) rfl (fun ls hl => ?_)
                      have loop456 : ∀ (n456 : Nat) (iv456_7 : Int32) (ia456_zpc ia456_zpw ia456_zpk : Nat → Int32) (H : Heap) (locs : List Loc) (hL1 : List Nat) (hl1 : hx_h), 0 ≤ iv456_7.toInt → iv456_7.toInt ≤ 4 → (∀ c9 : Nat, (c9 : Int) < iv456_7.toInt → (ia456_zpc c9).toInt = ((hp_ge lM9 c9 : Nat) : Int)) → (∀ c9 : Nat, (c9 : Int) < iv456_7.toInt → (ia456_zpw c9).toInt = hp_w aF9 i2.toInt bB9.2.2 c9) → (∀ c9 : Nat, (c9 : Int) < iv456_7.toInt → (ia456_zpk c9).toInt = hz_ru (rF9 c9) (hp_w aF9 i2.toInt bB9.2.2 c9)) → (iv456_7.toInt ≤ fw27_x_75.toInt) → ∀ (ls : Array Slot), 4 - iv456_7.toInt < (n456 : Int) → hx_W T_tb (P_ty dA) (dC, dI) vwCl (hx_A L sz) s.heap hL1 hl1 s H locs → hx_T T_tb hL1 hl1 → hx_S T_tb [(10, 67), (10, 68), (10, 69), (10, 70), (10, 71), (10, 72), (10, 75), (100, 0), (101, 0), (102, 0), (103, 0), (104, 0), (105, 0), (106, 0), (107, 0)] L h hL1 hl1 → hl1.2.1 x 75 = fw27_x_75 → hl1.2.1 x 72 = fw27_x_75 → hl1.2.1 zpc = ia456_zpc → hl1.2.1 zpw = ia456_zpw → hl1.2.1 zpk = ia456_zpk → hl1.2.1 zfo = ia27_zfo → hl1.2.1 zre = ia27_zre → hl1.2.1 zle = ia27_zle → hl1.2.1 zmo = ia204_zmo → hl1.2.1 zbm = ia204_zbm → lv_has ls 12 [(7, .int iv456_7), (6, .int iv204_6), (5, .int iv204_5), (4, .int iv204_4), (3, .int r_27), (0, .ref x), (1, .int i1), (2, .int i2)] → W p l e ({ frames := 3, cells := 0, slots := 0, locals := 71 }) s m ([.ref x, .int i1, .int i2] : List Value).toArray below meth c H locs 0 0 (MQ below (va_Qi (fun (r : Int32) (u : List Nat × hx_h) => (∃ (td1 : Int32) (clf1 : Nat → Int32) (wlf1 : Nat → Int32) (wsf1 : Nat → Int32), u.2.2.1 x 72 = td1 ∧ u.2.2.1 zpc = clf1 ∧ u.2.2.1 zpw = wlf1 ∧ u.2.2.1 zpk = wsf1 ∧ (hp_PS ((0 ≤ i1.toInt ∧ i1.toInt < pn0.toInt) ∧ 1 ≤ i2.toInt ∧ i2.toInt ≤ 99) (hp_ol agf (hz_Rn odf szf gdf owf svf (hz_rc A plf) pof pdf psm pkf pst nw0.toInt n0.toInt.toNat) i1.toInt c0.toInt.toNat).length (hp_ge (hp_ol agf (hz_Rn odf szf gdf owf svf (hz_rc A plf) pof pdf psm pkf pst nw0.toInt n0.toInt.toNat) i1.toInt c0.toInt.toNat)) (fun c9 => hz_mi ((fun c9 => (A (plf c9).toInt.toNat).2.1 2) (hp_ge (hp_ol agf (hz_Rn odf szf gdf owf svf (hz_rc A plf) pof pdf psm pkf pst nw0.toInt n0.toInt.toNat) i1.toInt c0.toInt.toNat) c9)) ((hz_Rn odf szf gdf owf svf (hz_rc A plf) pof pdf psm pkf pst nw0.toInt n0.toInt.toNat) (hp_ge (hp_ol agf (hz_Rn odf szf gdf owf svf (hz_rc A plf) pof pdf psm pkf pst nw0.toInt n0.toInt.toNat) i1.toInt c0.toInt.toNat) c9))) (fun c9 => (hz_Rn odf szf gdf owf svf (hz_rc A plf) pof pdf psm pkf pst nw0.toInt n0.toInt.toNat) (hp_ge (hp_ol agf (hz_Rn odf szf gdf owf svf (hz_rc A plf) pof pdf psm pkf pst nw0.toInt n0.toInt.toNat) i1.toInt c0.toInt.toNat) c9)) i2.toInt ((eaf i1.toInt.toNat).toInt - (A (hv_IF A nw0.toInt a0.toInt.toNat)).2.1 3 * (hdf i1.toInt.toNat).toInt) r.toInt td0.toInt td1.toInt clf clf1 wlf wlf1 wsf wsf1)) ∧ hx_T T_tb u.1 u.2 ∧ hx_S T_tb [(10, 67), (10, 68), (10, 69), (10, 70), (10, 71), (10, 72), (10, 75), (100, 0), (101, 0), (102, 0), (103, 0), (104, 0), (105, 0), (106, 0), (107, 0)] L h u.1 u.2) (hx_E T_tb (P_ty dA) (dC, dI) vwCl (hx_A L sz)) (hx_A L sz)) ([.ref x, .int i1, .int i2] : List Value).toArray s 0 0 (hx_A L sz)) (F0 m 456 ls []) := by
                        intro n456
                        induction n456 with
                        | zero => intro iv456_7 ia456_zpc ia456_zpw ia456_zpk H locs hL1 hl1 bliv456_7 buiv456_7 vi456_0 vi456_1 vi456_2 vi456_3 ls hn456; exfalso; omega
                        | succ n456 ih456 =>
                          intro iv456_7 ia456_zpc ia456_zpw ia456_zpk H locs hL1 hl1 bliv456_7 buiv456_7 vi456_0 vi456_1 vi456_2 vi456_3 ls hn456 hW hT hM ffw27_x_75 f_36 nia456_zpc nia456_zpw nia456_zpk nia27_zfo nia27_zre nia27_zle nia204_zmo nia204_zbm hl
                          have hin9 : ((iv456_7.toInt.toNat : Nat) : Int) = iv456_7.toInt := Int.toNat_of_nonneg (by omega)
                          refine lv_iload hx hb dX10_plan_456 (lv_at hl 0 rfl) ?_
                          refine lv_aload_n hx hb dX10_plan_458 rfl (lv_at hl 5 rfl) ?_
                          refine hk_geti hx hb hts hC_10 hown hW (gx.S hM) tt_10 75 (by decide) rfl kw_1218 ⟨rfl, rfl, rfl⟩ ffw27_x_75 dX10_plan_459 ?_
                          refine hb_icmp_ge (zx := iv456_7.toInt) (zy := fw27_x_75.toInt) (tgt := 530) hx hb rfl rfl dX10_plan_462 (by decide) (fun c_37 => ?_) (fun c_37 => ?_)
                          · skip
                            refine lv_iload hx hb dX10_plan_530 (lv_at hl 3 rfl) ?_
                            exact hx_reti hx hb hr hlk hW ⟨⟨fw27_x_75, ia456_zpc, ia456_zpw, ia456_zpk, f_36, nia456_zpc, nia456_zpw, nia456_zpk, (hp_PS_f (F := fun l9 c9 => hz_mi ((fun c9 => (A (plf c9).toInt.toNat).2.1 2) (hp_ge l9 c9)) ((hz_Rn odf szf gdf owf svf (hz_rc A plf) pof pdf psm pkf pst nw0.toInt n0.toInt.toNat) (hp_ge l9 c9))) (G := fun l9 c9 => (hz_Rn odf szf gdf owf svf (hz_rc A plf) pof pdf psm pkf pst nw0.toInt n0.toInt.toNat) (hp_ge l9 c9)) eLM9 eaF9 erF9 hnl9 hme9 ebB9 ⟨⟨by omega, by omega⟩, by omega, by omega⟩ (by omega) (hq_o hfe9) hB9.symm (by omega) (fun i hi => ⟨vi456_0 i (by omega), vi456_1 i (by omega), vi456_2 i (by omega)⟩))⟩, hT, hM⟩ dX10_plan_532
                          · skip
                            refine lv_aload_n hx hb dX10_plan_465 rfl (lv_at hl 5 rfl) ?_
                            refine hk_getr hx hb hts hC_10 hown hW (gx.S hM) tt_10 73 (by decide) rfl kw_1216 ⟨rfl, rfl, rfl⟩ ((hM.o gx trivial rfl).2.trans f_x_73) dX10_plan_466 ?_
                            refine lv_iload hx hb dX10_plan_469 (lv_at hl 0 rfl) ?_
                            refine lv_aload_n hx hb dX10_plan_471 rfl (lv_at hl 5 rfl) ?_
                            refine hk_getr hx hb hts hC_10 hown hW (gx.S hM) tt_10 76 (by decide) rfl kw_1219 ⟨rfl, rfl, rfl⟩ ((hM.o gx trivial rfl).2.trans f_x_76) dX10_plan_472 ?_
                            refine lv_iload hx hb dX10_plan_475 (lv_at hl 0 rfl) ?_
                            refine hx_iald hx hb hW hT (gzfo.S hM) tt_102 rfl ⟨by omega, by omega⟩ dX10_plan_477 (fun x_38 ex_38 lx_38 ux_38 => ?_)
                            have ax_38 : x_38 = ia27_zfo iv456_7.toNatClampNeg := ex_38.trans (congrFun nia27_zfo _)
                            have hcv9 : x_38.toInt = ((hp_ge lM9 iv456_7.toInt.toNat : Nat) : Int) := by rw [ax_38]; exact (hoq9 _ (by unfold Int32.toNatClampNeg; omega)).1
                            have nia456_zpcO := nia456_zpc
                            refine hx_iast hx hb hW hT (hx_S.rf (M := [(100, 0)])) (gzpc.S hM) tt_100 rfl ⟨by omega, by omega⟩ rfl (i32_r _) (List.mem_singleton.mpr rfl) dX10_plan_478 (fun H locs h_39 eh_39 hW hT hs => ?_)
                            replace ffw27_x_75 := (hs.o (gx.S hM) trivial rfl).1.trans ffw27_x_75
                            replace f_36 := (hs.o (gx.S hM) trivial rfl).1.trans f_36
                            replace nia27_zfo : h_39.2.1 zfo = ia27_zfo := (funext fun j => (hs.a (gzfo.S hM) rfl j).1).trans nia27_zfo
                            replace nia27_zre : h_39.2.1 zre = ia27_zre := (funext fun j => (hs.a (gzre.S hM) rfl j).1).trans nia27_zre
                            replace nia27_zle : h_39.2.1 zle = ia27_zle := (funext fun j => (hs.a (gzle.S hM) rfl j).1).trans nia27_zle
                            replace nia204_zmo : h_39.2.1 zmo = ia204_zmo := (funext fun j => (hs.a (gzmo.S hM) rfl j).1).trans nia204_zmo
                            replace nia204_zbm : h_39.2.1 zbm = ia204_zbm := (funext fun j => (hs.a (gzbm.S hM) rfl j).1).trans nia204_zbm
                            replace nia456_zpw : h_39.2.1 zpw = ia456_zpw := (funext fun j => (hs.a (gzpw.S hM) rfl j).1).trans nia456_zpw
                            replace nia456_zpk : h_39.2.1 zpk = ia456_zpk := (funext fun j => (hs.a (gzpk.S hM) rfl j).1).trans nia456_zpk
                            replace ex_38 := ex_38.trans (hs.a (gzfo.S hM) rfl _).1.symm
                            replace hM := hM.tr (hs.mono (by decide))
                            obtain ⟨fa_40, dfa_40⟩ : ∃ g : Nat → Int32, g = hx_up ia456_zpc iv456_7.toNatClampNeg x_38 := ⟨_, rfl⟩
                            have nfa_40 : h_39.2.1 zpc = fa_40 := by rw [eh_39, dfa_40, ← nia456_zpcO]; exact hx_pi_fun _ _ _ _
                            refine lv_aload_n hx hb dX10_plan_479 rfl (lv_at hl 5 rfl) ?_
                            refine hk_getr hx hb hts hC_10 hown hW (gx.S hM) tt_10 74 (by decide) rfl kw_1217 ⟨rfl, rfl, rfl⟩ ((hM.o gx trivial rfl).2.trans f_x_74) dX10_plan_480 ?_
                            refine lv_iload hx hb dX10_plan_483 (lv_at hl 0 rfl) ?_
                            refine lv_aload_n hx hb dX10_plan_485 rfl (lv_at hl 5 rfl) ?_
                            refine hk_getr hx hb hts hC_10 hown hW (gx.S hM) tt_10 78 (by decide) rfl kw_1221 ⟨rfl, rfl, rfl⟩ ((hM.o gx trivial rfl).2.trans f_x_78) dX10_plan_486 ?_
                            refine lv_iload hx hb dX10_plan_489 (lv_at hl 0 rfl) ?_
                            refine hx_iald hx hb hW hT (gzle.S hM) tt_104 rfl ⟨by omega, by omega⟩ dX10_plan_491 (fun x_41 ex_41 lx_41 ux_41 => ?_)
                            have ax_41 : x_41 = ia27_zle iv456_7.toNatClampNeg := ex_41.trans (congrFun nia27_zle _)
                            have hlv9 : x_41.toInt = aF9 iv456_7.toInt.toNat := by rw [ax_41]; exact hla9 _ (by unfold Int32.toNatClampNeg; omega)
                            have hlb9 := hle9 iv456_7.toInt.toNat (by omega); rw [hla9 _ (by omega), ← hlv9] at hlb9
                            refine lv_aload_n hx hb dX10_plan_492 rfl (lv_at hl 5 rfl) ?_
                            refine hk_getr hx hb hts hC_10 hown hW (gx.S hM) tt_10 80 (by decide) rfl kw_1223 ⟨rfl, rfl, rfl⟩ ((hM.o gx trivial rfl).2.trans f_x_80) dX10_plan_493 ?_
                            refine lv_iload hx hb dX10_plan_496 (lv_at hl 0 rfl) ?_
                            refine hx_iald hx hb hW hT (gzbm.S hM) tt_106 rfl ⟨by omega, by omega⟩ dX10_plan_498 (fun x_42 ex_42 lx_42 ux_42 => ?_)
                            have ax_42 : x_42 = ia204_zbm iv456_7.toNatClampNeg := ex_42.trans (congrFun nia204_zbm _)
                            have hbv9 : x_42.toInt = bB9.2.2 iv456_7.toInt.toNat := by rw [ax_42]; exact hbm9 _ (by unfold Int32.toNatClampNeg; omega)
                            refine lv_iload_n hx hb dX10_plan_499 rfl (lv_at hl 7 rfl) ?_
                            refine lv_imul hx hb dX10_plan_500 ?_
                            refine lv_topi (fun x_43 ex_43 => ?_)
                            have mx_43 : x_42.toInt = 0 → x_43.toInt = 0 := fun z => by rw [ex_43]; exact hx_mul0 z
                            clear mx_43
                            obtain ⟨m9, m9l, m9h⟩ := hp_mul ⟨by omega, by omega⟩ ⟨by omega, by omega⟩ ex_43
                            refine lv_iadd hx hb dX10_plan_501 ?_
                            have rg_44 := i32_r x_41
                            have rg_45 := i32_r x_43
                            refine lv_topi (fun x_46 ex_46 => ?_)
                            have zx_46 : x_46.toInt = x_41.toInt + x_43.toInt := by rw [ex_46]; exact i32_add rfl rfl (by omega) (by omega)
                            have hwv9 : hq_P (x_46.toInt = hp_w aF9 i2.toInt bB9.2.2 iv456_7.toInt.toNat) := by show _ = aF9 iv456_7.toInt.toNat + bB9.2.2 iv456_7.toInt.toNat * i2.toInt; rw [← hlv9, ← hbv9, ← m9]; omega
                            have nia456_zpwO := nia456_zpw
                            refine hx_iast hx hb hW hT (hx_S.rf (M := [(101, 0)])) (gzpw.S hM) tt_101 rfl ⟨by omega, by omega⟩ rfl (i32_r _) (List.mem_singleton.mpr rfl) dX10_plan_502 (fun H locs h_47 eh_47 hW hT hs => ?_)
                            replace ffw27_x_75 := (hs.o (gx.S hM) trivial rfl).1.trans ffw27_x_75
                            replace f_36 := (hs.o (gx.S hM) trivial rfl).1.trans f_36
                            replace nia27_zfo : h_47.2.1 zfo = ia27_zfo := (funext fun j => (hs.a (gzfo.S hM) rfl j).1).trans nia27_zfo
                            replace nia27_zre : h_47.2.1 zre = ia27_zre := (funext fun j => (hs.a (gzre.S hM) rfl j).1).trans nia27_zre
                            replace nia27_zle : h_47.2.1 zle = ia27_zle := (funext fun j => (hs.a (gzle.S hM) rfl j).1).trans nia27_zle
                            replace nia204_zmo : h_47.2.1 zmo = ia204_zmo := (funext fun j => (hs.a (gzmo.S hM) rfl j).1).trans nia204_zmo
                            replace nia204_zbm : h_47.2.1 zbm = ia204_zbm := (funext fun j => (hs.a (gzbm.S hM) rfl j).1).trans nia204_zbm
                            replace nia456_zpk : h_47.2.1 zpk = ia456_zpk := (funext fun j => (hs.a (gzpk.S hM) rfl j).1).trans nia456_zpk
                            replace nfa_40 : h_47.2.1 zpc = fa_40 := (funext fun j => (hs.a (gzpc.S hM) rfl j).1).trans nfa_40
                            replace ex_38 := ex_38.trans (hs.a (gzfo.S hM) rfl _).1.symm
                            replace ex_41 := ex_41.trans (hs.a (gzle.S hM) rfl _).1.symm
                            replace ex_42 := ex_42.trans (hs.a (gzbm.S hM) rfl _).1.symm
                            replace hM := hM.tr (hs.mono (by decide))
                            obtain ⟨fa_48, dfa_48⟩ : ∃ g : Nat → Int32, g = hx_up ia456_zpw iv456_7.toNatClampNeg x_46 := ⟨_, rfl⟩
                            have nfa_48 : h_47.2.1 zpw = fa_48 := by rw [eh_47, dfa_48, ← nia456_zpwO]; exact hx_pi_fun _ _ _ _
                            refine lv_aload_n hx hb dX10_plan_503 rfl (lv_at hl 5 rfl) ?_
                            refine hk_getr hx hb hts hC_10 hown hW (gx.S hM) tt_10 81 (by decide) rfl kw_1224 ⟨rfl, rfl, rfl⟩ ((hM.o gx trivial rfl).2.trans f_x_81) dX10_plan_504 ?_
                            refine lv_iload hx hb dX10_plan_507 (lv_at hl 0 rfl) ?_
                            refine lv_aload_n hx hb dX10_plan_509 rfl (lv_at hl 5 rfl) ?_
                            refine lv_iload hx hb dX10_plan_510 (lv_at hl 0 rfl) ?_
                            refine lv_aload_n hx hb dX10_plan_512 rfl (lv_at hl 5 rfl) ?_
                            refine hk_getr hx hb hts hC_10 hown hW (gx.S hM) tt_10 80 (by decide) rfl kw_1223 ⟨rfl, rfl, rfl⟩ ((hM.o gx trivial rfl).2.trans f_x_80) dX10_plan_513 ?_
                            refine lv_iload hx hb dX10_plan_516 (lv_at hl 0 rfl) ?_
                            refine hx_iald hx hb hW hT (gzbm.S hM) tt_106 rfl ⟨by omega, by omega⟩ dX10_plan_518 (fun x_49 ex_49 lx_49 ux_49 => ?_)
                            have ax_49 : x_49 = ia204_zbm iv456_7.toNatClampNeg := ex_49.trans (congrFun nia204_zbm _)
                            obtain rfl : x_42 = x_49 := ex_42.trans ex_49.symm
                            refine lv_iload_n hx hb dX10_plan_519 rfl (lv_at hl 7 rfl) ?_
                            refine hx_goi (hx_runV (As := [.int iv456_7, .int x_42, .int i2]) (rest := [.int iv456_7, .ref zpk]) ⟨hx, hb, hml, hown, hts⟩ hW (gx.S hM) tt_10 (T := TX10) (N := 98) rfl (t_X10_weeksOf_v l dC dI dA hL1 h_47 H.size x iv456_7 x_42 i2 hT (gx.S hM) zre (gzre.S hM) ((hM.o gx trivial rfl).2.trans f_x_77) zle (gzle.S hM) ((hM.o gx trivial rfl).2.trans f_x_78) ia27_zre nia27_zre ia27_zle nia27_zle ⟨by omega, by omega⟩ ⟨by omega, by omega⟩ ⟨by omega, by omega⟩ (hle9 _ (by omega)) (hre9 _ (by omega))) (cwV 3 hts (hx_gV kw_1682 kw_1679 kw_1681 kw_85 kw_103) rfl rfl rfl (by decide +kernel) ⟨Nat.le_of_ble_eq_true rfl, Nat.le_of_ble_eq_true rfl⟩) rfl hl.1 rfl (Nat.le_of_ble_eq_true rfl) dX10_plan_520 ⟨Nat.le_of_ble_eq_true rfl, Nat.le_of_ble_eq_true rfl⟩) hW (fun r_52 L_50 h_51 H locs p_53 hW => ?_)
                            obtain ⟨hr_54, hT, hs⟩ := p_53
                            replace hT : hx_T T_tb L_50 h_51 := hT
                            replace hs : hx_S T_tb [] hL1 h_47 L_50 h_51 := hs
                            replace ffw27_x_75 := (hs.o (gx.S hM) trivial rfl).1.trans ffw27_x_75
                            replace f_36 := (hs.o (gx.S hM) trivial rfl).1.trans f_36
                            replace nia27_zfo : h_51.2.1 zfo = ia27_zfo := (funext fun j => (hs.a (gzfo.S hM) rfl j).1).trans nia27_zfo
                            replace nia27_zre : h_51.2.1 zre = ia27_zre := (funext fun j => (hs.a (gzre.S hM) rfl j).1).trans nia27_zre
                            replace nia27_zle : h_51.2.1 zle = ia27_zle := (funext fun j => (hs.a (gzle.S hM) rfl j).1).trans nia27_zle
                            replace nia204_zmo : h_51.2.1 zmo = ia204_zmo := (funext fun j => (hs.a (gzmo.S hM) rfl j).1).trans nia204_zmo
                            replace nia204_zbm : h_51.2.1 zbm = ia204_zbm := (funext fun j => (hs.a (gzbm.S hM) rfl j).1).trans nia204_zbm
                            replace nia456_zpk : h_51.2.1 zpk = ia456_zpk := (funext fun j => (hs.a (gzpk.S hM) rfl j).1).trans nia456_zpk
                            replace nfa_40 : h_51.2.1 zpc = fa_40 := (funext fun j => (hs.a (gzpc.S hM) rfl j).1).trans nfa_40
                            replace nfa_48 : h_51.2.1 zpw = fa_48 := (funext fun j => (hs.a (gzpw.S hM) rfl j).1).trans nfa_48
                            replace ex_38 := ex_38.trans (hs.a (gzfo.S hM) rfl _).1.symm
                            replace ex_41 := ex_41.trans (hs.a (gzle.S hM) rfl _).1.symm
                            replace ex_42 := ex_42.trans (hs.a (gzbm.S hM) rfl _).1.symm
                            replace hM := hM.tr (hs.mono (by decide))
                            have hpw9 : hq_P (r_52.toInt = hz_ru (rF9 iv456_7.toInt.toNat) (hp_w aF9 i2.toInt bB9.2.2 iv456_7.toInt.toNat)) := by have h9 := hr_54.1; rw [hla9 _ (by omega), hlr9 _ (by omega), hbv9] at h9; exact h9
                            have nia456_zpkO := nia456_zpk
                            refine hx_iast hx hb hW hT (hx_S.rf (M := [(107, 0)])) (gzpk.S hM) tt_107 rfl ⟨by omega, by omega⟩ rfl (i32_r _) (List.mem_singleton.mpr rfl) dX10_plan_523 (fun H locs h_55 eh_55 hW hT hs => ?_)
                            replace ffw27_x_75 := (hs.o (gx.S hM) trivial rfl).1.trans ffw27_x_75
                            replace f_36 := (hs.o (gx.S hM) trivial rfl).1.trans f_36
                            replace nia27_zfo : h_55.2.1 zfo = ia27_zfo := (funext fun j => (hs.a (gzfo.S hM) rfl j).1).trans nia27_zfo
                            replace nia27_zre : h_55.2.1 zre = ia27_zre := (funext fun j => (hs.a (gzre.S hM) rfl j).1).trans nia27_zre
                            replace nia27_zle : h_55.2.1 zle = ia27_zle := (funext fun j => (hs.a (gzle.S hM) rfl j).1).trans nia27_zle
                            replace nia204_zmo : h_55.2.1 zmo = ia204_zmo := (funext fun j => (hs.a (gzmo.S hM) rfl j).1).trans nia204_zmo
                            replace nia204_zbm : h_55.2.1 zbm = ia204_zbm := (funext fun j => (hs.a (gzbm.S hM) rfl j).1).trans nia204_zbm
                            replace nfa_40 : h_55.2.1 zpc = fa_40 := (funext fun j => (hs.a (gzpc.S hM) rfl j).1).trans nfa_40
                            replace nfa_48 : h_55.2.1 zpw = fa_48 := (funext fun j => (hs.a (gzpw.S hM) rfl j).1).trans nfa_48
                            replace ex_38 := ex_38.trans (hs.a (gzfo.S hM) rfl _).1.symm
                            replace ex_41 := ex_41.trans (hs.a (gzle.S hM) rfl _).1.symm
                            replace ex_42 := ex_42.trans (hs.a (gzbm.S hM) rfl _).1.symm
                            replace hM := hM.tr (hs.mono (by decide))
                            obtain ⟨fa_56, dfa_56⟩ : ∃ g : Nat → Int32, g = hx_up ia456_zpk iv456_7.toNatClampNeg r_52 := ⟨_, rfl⟩
                            have nfa_56 : h_55.2.1 zpk = fa_56 := by rw [eh_55, dfa_56, ← nia456_zpkO]; exact hx_pi_fun _ _ _ _
                            obtain ⟨x_57, ex_57⟩ : ∃ y : Int32, y = iv456_7 + Int32.ofInt 1 := ⟨_, rfl⟩
                            have rg_58 := i32_r iv456_7
                            have zx_57 : x_57.toInt = iv456_7.toInt + (1) := by rw [ex_57]; exact i32_add rfl (by decide) (by omega) (by omega)
                            refine lv_iinc (v := x_57) (lv' := [(7, .int x_57), (6, .int iv204_6), (5, .int iv204_5), (4, .int iv204_4), (3, .int r_27), (0, .ref x), (1, .int i1), (2, .int i2)]) hx hb dX10_plan_524 hl (k := 0) rfl ex_57.symm (by decide) rfl (fun ls hl => ?_)
                            refine lv_goto (tgt := 456) hx hb dX10_plan_527 (by decide) ?_
                            exact ih456 x_57 fa_40 fa_48 fa_56 _ _ L_50 h_55 (by omega) (by omega) (hz_rs_s vi456_0 (by omega) (by unfold Int32.toNatClampNeg; omega) hcv9 dfa_40 zx_57) (hz_rs_s vi456_1 (by omega) (by unfold Int32.toNatClampNeg; omega) hwv9 dfa_48 zx_57) (hz_rs_s vi456_2 (by omega) (by unfold Int32.toNatClampNeg; omega) hpw9 dfa_56 zx_57) (by omega) ls (by omega) hW hT hM ffw27_x_75 f_36 nfa_40 nfa_48 nfa_56 nia27_zfo nia27_zre nia27_zle nia204_zmo nia204_zbm (lv_sub hl [0, 1, 2, 3, 4, 5, 6, 7] rfl)
                      have zk_0 : (0 : Int32).toInt = 0 := by decide
                      exact loop456 5 (0 : Int32) clf wlf wsf _ _ hL1 h_35 (by decide) (by decide) (fun c9 hc9 => by exfalso; omega) (fun c9 hc9 => by exfalso; omega) (fun c9 hc9 => by exfalso; omega) (by omega) ls (by omega) hW hT hM ffw27_x_75 f_36 af_zpc af_zpw af_zpk nia27_zfo nia27_zre nia27_zle nia204_zmo nia204_zbm hl
                    · skip
                      have hno9 : hq_P (r_27.toInt < hp_s aF9 fw27_x_75.toInt.toNat) := hq_i (Decidable.byContradiction (fun z9 => by have h9 := hp_some (a := aF9) (r := rF9) (u := i2.toInt) (M := r_27.toInt) (n := fw27_x_75.toInt.toNat) (by omega) (fun i hi => by rw [← hlr9 i hi]; exact (hre9 i hi).2); rw [hE9.1] at h9; omega))
                      refine lv_bipush (v := -2) hx hb dX10_plan_442 (by decide) ?_
                      exact hx_reti hx hb hr hlk hW ⟨⟨td0, clf, wlf, wsf, f_x_72, af_zpc, af_zpw, af_zpk, (hp_PS_t (F := fun l9 c9 => hz_mi ((fun c9 => (A (plf c9).toInt.toNat).2.1 2) (hp_ge l9 c9)) ((hz_Rn odf szf gdf owf svf (hz_rc A plf) pof pdf psm pkf pst nw0.toInt n0.toInt.toNat) (hp_ge l9 c9))) (G := fun l9 c9 => (hz_Rn odf szf gdf owf svf (hz_rc A plf) pof pdf psm pkf pst nw0.toInt n0.toInt.toNat) (hp_ge l9 c9)) eLM9 eaF9 erF9 hnl9 hme9 ⟨⟨by omega, by omega⟩, by omega, by omega⟩ (by omega) (by omega) (hq_o hno9) (by decide) rfl rfl rfl rfl)⟩, hT, hM⟩ dX10_plan_444
                  · skip
                    replace c_33 : 1 ≤ iv204_6.toInt := by omega
                    replace hn204 := hn204.resolve_left (fun z => by have z1 := z.1; omega)
                    obtain ⟨k9, hk9, hs9, hd9⟩ := id vi204_0
                    replace hd9 := hd9.resolve_right (fun z => by have := z.1; omega)
                    have hdg9 := hd9.2.2; have hkl9 := hq_i hd9.2.1; clear hd9 hk9
                    refine lv_iconst (v := 0) hx hb dX10_plan_209 (by decide) ?_
                    refine lv_istore (lv' := [(7, .int (0 : Int32)), (6, .int iv204_6), (5, .int iv204_5), (4, .int iv204_4), (3, .int r_27), (0, .ref x), (1, .int i1), (2, .int i2)]) hx hb dX10_plan_210 hl (by decide) rfl (fun ls hl => ?_)
                    refine lv_iconst (v := 0) hx hb dX10_plan_212 (by decide) ?_
                    refine lv_istore (lv' := [(8, .int (0 : Int32)), (7, .int (0 : Int32)), (6, .int iv204_6), (5, .int iv204_5), (4, .int iv204_4), (3, .int r_27), (0, .ref x), (1, .int i1), (2, .int i2)]) hx hb dX10_plan_213 hl (by decide) rfl (fun ls hl => ?_)
                    refine lv_iconst (v := 0) hx hb dX10_plan_215 (by decide) ?_
                    refine lv_istore (lv' := [(9, .int (0 : Int32)), (8, .int (0 : Int32)), (7, .int (0 : Int32)), (6, .int iv204_6), (5, .int iv204_5), (4, .int iv204_4), (3, .int r_27), (0, .ref x), (1, .int i1), (2, .int i2)]) hx hb dX10_plan_216 hl (by decide) rfl (fun ls hl => ?_)
                    refine lv_iconst (v := 0) hx hb dX10_plan_218 (by decide) ?_
                    refine lv_istore (lv' := [(10, .int (0 : Int32)), (9, .int (0 : Int32)), (8, .int (0 : Int32)), (7, .int (0 : Int32)), (6, .int iv204_6), (5, .int iv204_5), (4, .int iv204_4), (3, .int r_27), (0, .ref x), (1, .int i1), (2, .int i2)]) hx hb dX10_plan_219 hl (by decide) rfl (fun ls hl => ?_)
                    have loop221 : ∀ (n221 : Nat) (iv221_7 iv221_8 iv221_9 iv221_10 : Int32) (H : Heap) (locs : List Loc) (hL1 : List Nat) (hl1 : hx_h), 0 ≤ iv221_7.toInt → iv221_7.toInt ≤ 48000 → 0 ≤ iv221_8.toInt → iv221_8.toInt ≤ 609999 → 0 ≤ iv221_9.toInt → iv221_9.toInt ≤ 2439996 → 0 ≤ iv221_10.toInt → iv221_10.toInt ≤ 4 → (hq_P (iv221_7.toInt = hp_s (hp_w aF9 i2.toInt (fun c9 => (ia204_zmo c9).toInt)) (iv221_10.toInt).toNat)) → (hq_P (iv221_8.toInt = hp_m (hp_k aF9 rF9 i2.toInt (fun c9 => (ia204_zmo c9).toInt)) (iv221_10.toInt).toNat)) → (hq_P (iv221_9.toInt = hp_s (hp_k aF9 rF9 i2.toInt (fun c9 => (ia204_zmo c9).toInt)) (iv221_10.toInt).toNat)) → (iv221_10.toInt ≤ fw27_x_75.toInt) → (iv221_7.toInt ≤ 12000 * iv221_10.toInt) → (iv221_9.toInt ≤ 609999 * iv221_10.toInt) → ∀ (ls : Array Slot), 4 - iv221_10.toInt < (n221 : Int) → hx_W T_tb (P_ty dA) (dC, dI) vwCl (hx_A L sz) s.heap hL1 hl1 s H locs → hx_T T_tb hL1 hl1 → hx_S T_tb [(10, 67), (10, 68), (10, 69), (10, 70), (10, 71), (10, 72), (10, 75), (100, 0), (101, 0), (102, 0), (103, 0), (104, 0), (105, 0), (106, 0), (107, 0)] L h hL1 hl1 → hl1.2.1 x 72 = td0 → hl1.2.1 x 75 = fw27_x_75 → hl1.2.1 zpc = clf → hl1.2.1 zpw = wlf → hl1.2.1 zpk = wsf → hl1.2.1 zfo = ia27_zfo → hl1.2.1 zre = ia27_zre → hl1.2.1 zle = ia27_zle → hl1.2.1 zmo = ia204_zmo → hl1.2.1 zbm = ia204_zbm → lv_has ls 12 [(10, .int iv221_10), (9, .int iv221_9), (8, .int iv221_8), (7, .int iv221_7), (6, .int iv204_6), (5, .int iv204_5), (4, .int iv204_4), (3, .int r_27), (0, .ref x), (1, .int i1), (2, .int i2)] → W p l e ({ frames := 3, cells := 0, slots := 0, locals := 71 }) s m ([.ref x, .int i1, .int i2] : List Value).toArray below meth c H locs 0 0 (MQ below (va_Qi (fun (r : Int32) (u : List Nat × hx_h) => (∃ (td1 : Int32) (clf1 : Nat → Int32) (wlf1 : Nat → Int32) (wsf1 : Nat → Int32), u.2.2.1 x 72 = td1 ∧ u.2.2.1 zpc = clf1 ∧ u.2.2.1 zpw = wlf1 ∧ u.2.2.1 zpk = wsf1 ∧ (hp_PS ((0 ≤ i1.toInt ∧ i1.toInt < pn0.toInt) ∧ 1 ≤ i2.toInt ∧ i2.toInt ≤ 99) (hp_ol agf (hz_Rn odf szf gdf owf svf (hz_rc A plf) pof pdf psm pkf pst nw0.toInt n0.toInt.toNat) i1.toInt c0.toInt.toNat).length (hp_ge (hp_ol agf (hz_Rn odf szf gdf owf svf (hz_rc A plf) pof pdf psm pkf pst nw0.toInt n0.toInt.toNat) i1.toInt c0.toInt.toNat)) (fun c9 => hz_mi ((fun c9 => (A (plf c9).toInt.toNat).2.1 2) (hp_ge (hp_ol agf (hz_Rn odf szf gdf owf svf (hz_rc A plf) pof pdf psm pkf pst nw0.toInt n0.toInt.toNat) i1.toInt c0.toInt.toNat) c9)) ((hz_Rn odf szf gdf owf svf (hz_rc A plf) pof pdf psm pkf pst nw0.toInt n0.toInt.toNat) (hp_ge (hp_ol agf (hz_Rn odf szf gdf owf svf (hz_rc A plf) pof pdf psm pkf pst nw0.toInt n0.toInt.toNat) i1.toInt c0.toInt.toNat) c9))) (fun c9 => (hz_Rn odf szf gdf owf svf (hz_rc A plf) pof pdf psm pkf pst nw0.toInt n0.toInt.toNat) (hp_ge (hp_ol agf (hz_Rn odf szf gdf owf svf (hz_rc A plf) pof pdf psm pkf pst nw0.toInt n0.toInt.toNat) i1.toInt c0.toInt.toNat) c9)) i2.toInt ((eaf i1.toInt.toNat).toInt - (A (hv_IF A nw0.toInt a0.toInt.toNat)).2.1 3 * (hdf i1.toInt.toNat).toInt) r.toInt td0.toInt td1.toInt clf clf1 wlf wlf1 wsf wsf1)) ∧ hx_T T_tb u.1 u.2 ∧ hx_S T_tb [(10, 67), (10, 68), (10, 69), (10, 70), (10, 71), (10, 72), (10, 75), (100, 0), (101, 0), (102, 0), (103, 0), (104, 0), (105, 0), (106, 0), (107, 0)] L h u.1 u.2) (hx_E T_tb (P_ty dA) (dC, dI) vwCl (hx_A L sz)) (hx_A L sz)) ([.ref x, .int i1, .int i2] : List Value).toArray s 0 0 (hx_A L sz)) (F0 m 221 ls []) := by
                      intro n221
                      induction n221 with
                      | zero => intro iv221_7 iv221_8 iv221_9 iv221_10 H locs hL1 hl1 bliv221_7 buiv221_7 bliv221_8 buiv221_8 bliv221_9 buiv221_9 bliv221_10 buiv221_10 vi221_0 vi221_1 vi221_2 vi221_3 vi221_4 vi221_5 ls hn221; exfalso; omega
                      | succ n221 ih221 =>
                        intro iv221_7 iv221_8 iv221_9 iv221_10 H locs hL1 hl1 bliv221_7 buiv221_7 bliv221_8 buiv221_8 bliv221_9 buiv221_9 bliv221_10 buiv221_10 vi221_0 vi221_1 vi221_2 vi221_3 vi221_4 vi221_5 ls hn221 hW hT hM f_x_72 ffw27_x_75 af_zpc af_zpw af_zpk nia27_zfo nia27_zre nia27_zle nia204_zmo nia204_zbm hl
                        have hin9 : ((iv221_10.toInt.toNat : Nat) : Int) = iv221_10.toInt := Int.toNat_of_nonneg (by omega)
                        refine lv_iload hx hb dX10_plan_221 (lv_at hl 0 rfl) ?_
                        refine lv_aload_n hx hb dX10_plan_223 rfl (lv_at hl 8 rfl) ?_
                        refine hk_geti hx hb hts hC_10 hown hW (gx.S hM) tt_10 75 (by decide) rfl kw_1218 ⟨rfl, rfl, rfl⟩ ffw27_x_75 dX10_plan_224 ?_
                        refine hb_icmp_ge (zx := iv221_10.toInt) (zy := fw27_x_75.toInt) (tgt := 297) hx hb rfl rfl dX10_plan_227 (by decide) (fun c_59 => ?_) (fun c_59 => ?_)
                        · skip
                          have ht9 := vi221_0; have hL9 := vi221_1; have hA9 := vi221_2; rw [show iv221_10.toInt.toNat = fw27_x_75.toInt.toNat by omega] at ht9 hL9 hA9
                          refine lv_iload hx hb dX10_plan_297 (lv_at hl 3 rfl) ?_
                          refine lv_iload_n hx hb dX10_plan_299 rfl (lv_at hl 7 rfl) ?_
                          refine hb_icmp_gt (zx := iv221_7.toInt) (zy := r_27.toInt) (tgt := 364) hx hb rfl rfl dX10_plan_300 (by decide) (fun c_60 => ?_) (fun c_60 => ?_)
                          · skip
                            have hSM9 : hp_SM (hp_F (hp_f aF9 rF9 i2.toInt r_27.toInt fw27_x_75.toInt.toNat) 0 (k9 + 1) hp_s0) iv204_4.toInt iv204_5.toInt ia204_zbm fw27_x_75.toInt.toNat := hp_SM_s hs9 hdg9 ht9 hL9 hA9 (Or.inr ⟨by omega, rfl, rfl, rfl⟩)
                            refine lv_aload_n hx hb dX10_plan_364 rfl (lv_at hl 8 rfl) ?_
                            refine hk_geti hx hb hts hC_10 hown hW (gx.S hM) tt_10 75 (by decide) rfl kw_1218 ⟨rfl, rfl, rfl⟩ ffw27_x_75 dX10_plan_365 ?_
                            refine lv_iconst (v := 1) hx hb dX10_plan_368 (by decide) ?_
                            refine lv_isub hx hb dX10_plan_369 ?_
                            have rg_61 := i32_r fw27_x_75
                            refine lv_topi (fun x_62 ex_62 => ?_)
                            have zx_62 : x_62.toInt = fw27_x_75.toInt - 1 := by rw [ex_62]; exact i32_sub rfl (by decide) (by omega) (by omega)
                            refine lv_istore (lv' := [(10, .int x_62), (9, .int iv221_9), (8, .int iv221_8), (7, .int iv221_7), (6, .int iv204_6), (5, .int iv204_5), (4, .int iv204_4), (3, .int r_27), (0, .ref x), (1, .int i1), (2, .int i2)]) hx hb dX10_plan_370 hl (by decide) rfl (fun ls hl => ?_)
                            have loop372 : ∀ (n372 : Nat) (iv372_10 : Int32) (ia372_zmo : Nat → Int32) (H : Heap) (locs : List Loc) (hL1 : List Nat) (hl1 : hx_h), -1 ≤ iv372_10.toInt → iv372_10.toInt ≤ 3 → (hx_V ia372_zmo + hx_w iv372_10.toInt = hx_V ia204_zmo + hx_w (fw27_x_75.toInt - 1)) → (∀ j : Nat, j < fw27_x_75.toInt.toNat → (ia372_zmo j).toInt = (if (j : Int) ≤ iv372_10.toInt then hp_dg fw27_x_75.toInt.toNat k9 j else 0)) → (∀ j : Nat, iv372_10.toInt < (j : Int) → j < fw27_x_75.toInt.toNat → hp_dg fw27_x_75.toInt.toNat k9 j = 12) → (iv372_10.toInt < fw27_x_75.toInt) → ∀ (ls : Array Slot), iv372_10.toInt + 1 < (n372 : Int) → hx_W T_tb (P_ty dA) (dC, dI) vwCl (hx_A L sz) s.heap hL1 hl1 s H locs → hx_T T_tb hL1 hl1 → hx_S T_tb [(10, 67), (10, 68), (10, 69), (10, 70), (10, 71), (10, 72), (10, 75), (100, 0), (101, 0), (102, 0), (103, 0), (104, 0), (105, 0), (106, 0), (107, 0)] L h hL1 hl1 → hl1.2.1 x 72 = td0 → hl1.2.1 x 75 = fw27_x_75 → hl1.2.1 zmo = ia372_zmo → hl1.2.1 zpc = clf → hl1.2.1 zpw = wlf → hl1.2.1 zpk = wsf → hl1.2.1 zfo = ia27_zfo → hl1.2.1 zre = ia27_zre → hl1.2.1 zle = ia27_zle → hl1.2.1 zbm = ia204_zbm → lv_has ls 12 [(10, .int iv372_10), (9, .int iv221_9), (8, .int iv221_8), (7, .int iv221_7), (6, .int iv204_6), (5, .int iv204_5), (4, .int iv204_4), (3, .int r_27), (0, .ref x), (1, .int i1), (2, .int i2)] → W p l e ({ frames := 3, cells := 0, slots := 0, locals := 71 }) s m ([.ref x, .int i1, .int i2] : List Value).toArray below meth c H locs 0 0 (MQ below (va_Qi (fun (r : Int32) (u : List Nat × hx_h) => (∃ (td1 : Int32) (clf1 : Nat → Int32) (wlf1 : Nat → Int32) (wsf1 : Nat → Int32), u.2.2.1 x 72 = td1 ∧ u.2.2.1 zpc = clf1 ∧ u.2.2.1 zpw = wlf1 ∧ u.2.2.1 zpk = wsf1 ∧ (hp_PS ((0 ≤ i1.toInt ∧ i1.toInt < pn0.toInt) ∧ 1 ≤ i2.toInt ∧ i2.toInt ≤ 99) (hp_ol agf (hz_Rn odf szf gdf owf svf (hz_rc A plf) pof pdf psm pkf pst nw0.toInt n0.toInt.toNat) i1.toInt c0.toInt.toNat).length (hp_ge (hp_ol agf (hz_Rn odf szf gdf owf svf (hz_rc A plf) pof pdf psm pkf pst nw0.toInt n0.toInt.toNat) i1.toInt c0.toInt.toNat)) (fun c9 => hz_mi ((fun c9 => (A (plf c9).toInt.toNat).2.1 2) (hp_ge (hp_ol agf (hz_Rn odf szf gdf owf svf (hz_rc A plf) pof pdf psm pkf pst nw0.toInt n0.toInt.toNat) i1.toInt c0.toInt.toNat) c9)) ((hz_Rn odf szf gdf owf svf (hz_rc A plf) pof pdf psm pkf pst nw0.toInt n0.toInt.toNat) (hp_ge (hp_ol agf (hz_Rn odf szf gdf owf svf (hz_rc A plf) pof pdf psm pkf pst nw0.toInt n0.toInt.toNat) i1.toInt c0.toInt.toNat) c9))) (fun c9 => (hz_Rn odf szf gdf owf svf (hz_rc A plf) pof pdf psm pkf pst nw0.toInt n0.toInt.toNat) (hp_ge (hp_ol agf (hz_Rn odf szf gdf owf svf (hz_rc A plf) pof pdf psm pkf pst nw0.toInt n0.toInt.toNat) i1.toInt c0.toInt.toNat) c9)) i2.toInt ((eaf i1.toInt.toNat).toInt - (A (hv_IF A nw0.toInt a0.toInt.toNat)).2.1 3 * (hdf i1.toInt.toNat).toInt) r.toInt td0.toInt td1.toInt clf clf1 wlf wlf1 wsf wsf1)) ∧ hx_T T_tb u.1 u.2 ∧ hx_S T_tb [(10, 67), (10, 68), (10, 69), (10, 70), (10, 71), (10, 72), (10, 75), (100, 0), (101, 0), (102, 0), (103, 0), (104, 0), (105, 0), (106, 0), (107, 0)] L h u.1 u.2) (hx_E T_tb (P_ty dA) (dC, dI) vwCl (hx_A L sz)) (hx_A L sz)) ([.ref x, .int i1, .int i2] : List Value).toArray s 0 0 (hx_A L sz)) (F0 m 372 ls []) := by
                              intro n372
                              induction n372 with
                              | zero => intro iv372_10 ia372_zmo H locs hL1 hl1 bliv372_10 buiv372_10 vi372_0 vi372_1 vi372_2 vi372_3 ls hn372; exfalso; omega
                              | succ n372 ih372 =>
                                intro iv372_10 ia372_zmo H locs hL1 hl1 bliv372_10 buiv372_10 vi372_0 vi372_1 vi372_2 vi372_3 ls hn372 hW hT hM f_x_72 ffw27_x_75 nia372_zmo af_zpc af_zpw af_zpk nia27_zfo nia27_zre nia27_zle nia204_zbm hl
                                refine lv_iload hx hb dX10_plan_372 (lv_at hl 0 rfl) ?_
                                refine hb_if_lt (zx := iv372_10.toInt) (tgt := 403) hx hb rfl dX10_plan_374 (by decide) (fun c_63 => ?_) (fun c_63 => ?_)
                                · skip
                                  refine lv_iload hx hb dX10_plan_403 (lv_at hl 0 rfl) ?_
                                  refine hb_if_lt (zx := iv372_10.toInt) (tgt := 412) hx hb rfl dX10_plan_405 (by decide) (fun c_64 => ?_) (fun c_64 => by exfalso; omega)
                                  refine lv_iconst (v := 0) hx hb dX10_plan_412 (by decide) ?_
                                  refine lv_istore (lv' := [(6, .int (0 : Int32)), (10, .int iv372_10), (9, .int iv221_9), (8, .int iv221_8), (7, .int iv221_7), (5, .int iv204_5), (4, .int iv204_4), (3, .int r_27), (0, .ref x), (1, .int i1), (2, .int i2)]) hx hb dX10_plan_413 hl (by decide) rfl (fun ls hl => ?_)
                                  refine lv_iload hx hb dX10_plan_415 (lv_at hl 0 rfl) ?_
                                  refine hb_if_eq (zx := 0) (tgt := 431) hx hb (by decide) dX10_plan_417 (by decide) (fun c_65 => ?_) (fun c_65 => absurd c_65 (by decide))
                                  have hm12 : hx_m12 ia372_zmo := (fun k hk => by have q := hT.ei (gzmo.S hM) tt_105 (k := k) hk; rw [nia372_zmo] at q; exact q)
                                  have hvb := hx_V_b hm12
                                  refine lv_goto (tgt := 204) hx hb dX10_plan_431 (by decide) ?_
                                  have zk_0 : (0 : Int32).toInt = 0 := by decide
                                  exact ih204 iv204_4 iv204_5 (0 : Int32) ia372_zmo ia204_zbm _ _ hL1 hl1 (i32_r _).1 (i32_r _).2 (i32_r _).1 (i32_r _).2 (by decide) (by decide) (hp_OD_n hSM9 (hq_o hkl9) (fun j hj => vi372_2 j (by omega) hj) (by decide)) hm12 ls (by omega) hW hT hM f_x_72 ffw27_x_75 nia372_zmo nia204_zbm af_zpc af_zpw af_zpk nia27_zfo nia27_zre nia27_zle (lv_sub hl [0, 5, 6, 7, 8, 9, 10] rfl)
                                · skip
                                  refine lv_aload_n hx hb dX10_plan_377 rfl (lv_at hl 8 rfl) ?_
                                  refine hk_getr hx hb hts hC_10 hown hW (gx.S hM) tt_10 79 (by decide) rfl kw_1222 ⟨rfl, rfl, rfl⟩ ((hM.o gx trivial rfl).2.trans f_x_79) dX10_plan_378 ?_
                                  refine lv_iload hx hb dX10_plan_381 (lv_at hl 0 rfl) ?_
                                  refine hx_iald hx hb hW hT (gzmo.S hM) tt_105 rfl ⟨by omega, by omega⟩ dX10_plan_383 (fun x_66 ex_66 lx_66 ux_66 => ?_)
                                  have ax_66 : x_66 = ia372_zmo iv372_10.toNatClampNeg := ex_66.trans (congrFun nia372_zmo _)
                                  refine lv_bipush (v := 12) hx hb dX10_plan_384 (by decide) ?_
                                  refine hb_icmp_ne (zx := x_66.toInt) (zy := 12) (tgt := 403) hx hb rfl (by decide) dX10_plan_386 (by decide) (fun c_67 => ?_) (fun c_67 => ?_)
                                  · skip
                                    replace c_67 : x_66.toInt ≤ 11 := by omega
                                    refine lv_iload hx hb dX10_plan_403 (lv_at hl 0 rfl) ?_
                                    refine hb_if_lt (zx := iv372_10.toInt) (tgt := 412) hx hb rfl dX10_plan_405 (by decide) (fun c_68 => by exfalso; omega) (fun c_68 => ?_)
                                    refine lv_iconst (v := 1) hx hb dX10_plan_408 (by decide) ?_
                                    refine lv_goto (tgt := 413) hx hb dX10_plan_409 (by decide) ?_
                                    refine lv_istore (lv' := [(6, .int (1 : Int32)), (10, .int iv372_10), (9, .int iv221_9), (8, .int iv221_8), (7, .int iv221_7), (5, .int iv204_5), (4, .int iv204_4), (3, .int r_27), (0, .ref x), (1, .int i1), (2, .int i2)]) hx hb dX10_plan_413 hl (by decide) rfl (fun ls hl => ?_)
                                    refine lv_iload hx hb dX10_plan_415 (lv_at hl 0 rfl) ?_
                                    refine hb_if_eq (zx := 1) (tgt := 431) hx hb (by decide) dX10_plan_417 (by decide) (fun c_69 => absurd c_69 (by decide)) (fun c_69 => ?_)
                                    refine lv_aload_n hx hb dX10_plan_420 rfl (lv_at hl 8 rfl) ?_
                                    refine hk_getr hx hb hts hC_10 hown hW (gx.S hM) tt_10 79 (by decide) rfl kw_1222 ⟨rfl, rfl, rfl⟩ ((hM.o gx trivial rfl).2.trans f_x_79) dX10_plan_421 ?_
                                    refine lv_iload hx hb dX10_plan_424 (lv_at hl 1 rfl) ?_
                                    refine lv_dup2_11 hx hb dX10_plan_426 rfl rfl ?_
                                    refine hx_iald hx hb hW hT (gzmo.S hM) tt_105 rfl ⟨by omega, by omega⟩ dX10_plan_427 (fun x_70 ex_70 lx_70 ux_70 => ?_)
                                    have ax_70 : x_70 = ia372_zmo iv372_10.toNatClampNeg := ex_70.trans (congrFun nia372_zmo _)
                                    obtain rfl : x_66 = x_70 := ex_66.trans ex_70.symm
                                    refine lv_iconst (v := 1) hx hb dX10_plan_428 (by decide) ?_
                                    refine lv_iadd hx hb dX10_plan_429 ?_
                                    have rg_71 := i32_r x_66
                                    refine lv_topi (fun x_72 ex_72 => ?_)
                                    have zx_72 : x_72.toInt = x_66.toInt + 1 := by rw [ex_72]; exact i32_add rfl (by decide) (by omega) (by omega)
                                    have nia372_zmoO := nia372_zmo
                                    refine hx_iast hx hb hW hT (hx_S.rf (M := [(105, 0)])) (gzmo.S hM) tt_105 rfl ⟨by omega, by omega⟩ rfl ⟨by omega, by omega⟩ (List.mem_singleton.mpr rfl) dX10_plan_430 (fun H locs h_73 eh_73 hW hT hs => ?_)
                                    replace f_x_72 := (hs.o (gx.S hM) trivial rfl).1.trans f_x_72
                                    replace ffw27_x_75 := (hs.o (gx.S hM) trivial rfl).1.trans ffw27_x_75
                                    replace af_zpc : h_73.2.1 zpc = clf := (funext fun j => (hs.a (gzpc.S hM) rfl j).1).trans af_zpc
                                    replace af_zpw : h_73.2.1 zpw = wlf := (funext fun j => (hs.a (gzpw.S hM) rfl j).1).trans af_zpw
                                    replace af_zpk : h_73.2.1 zpk = wsf := (funext fun j => (hs.a (gzpk.S hM) rfl j).1).trans af_zpk
                                    replace nia27_zfo : h_73.2.1 zfo = ia27_zfo := (funext fun j => (hs.a (gzfo.S hM) rfl j).1).trans nia27_zfo
                                    replace nia27_zre : h_73.2.1 zre = ia27_zre := (funext fun j => (hs.a (gzre.S hM) rfl j).1).trans nia27_zre
                                    replace nia27_zle : h_73.2.1 zle = ia27_zle := (funext fun j => (hs.a (gzle.S hM) rfl j).1).trans nia27_zle
                                    replace nia204_zbm : h_73.2.1 zbm = ia204_zbm := (funext fun j => (hs.a (gzbm.S hM) rfl j).1).trans nia204_zbm
                                    replace hM := hM.tr (hs.mono (by decide))
                                    obtain ⟨fa_74, dfa_74⟩ : ∃ g : Nat → Int32, g = hx_up ia372_zmo iv372_10.toNatClampNeg x_72 := ⟨_, rfl⟩
                                    have nfa_74 : h_73.2.1 zmo = fa_74 := by rw [eh_73, dfa_74, ← nia372_zmoO]; exact hx_pi_fun _ _ _ _
                                    have hvq := (hx_V_up (by omega) (by omega) ax_66 dfa_74).2 (by omega)
                                    have hwq := hx_w_b (i := (fw27_x_75.toInt - 1 : Int))
                                    have hm12 : hx_m12 fa_74 := (fun k hk => by have q := hT.ei (gzmo.S hM) tt_105 (k := k) hk; rw [nfa_74] at q; exact q)
                                    have hvb := hx_V_b hm12
                                    refine lv_goto (tgt := 204) hx hb dX10_plan_431 (by decide) ?_
                                    have zk_1 : (1 : Int32).toInt = 1 := by decide
                                    exact ih204 iv204_4 iv204_5 (1 : Int32) fa_74 ia204_zbm _ _ hL1 h_73 (i32_r _).1 (i32_r _).2 (i32_r _).1 (i32_r _).2 (by decide) (by decide) (hp_OD_y (i := iv372_10.toInt.toNat) hSM9 (hq_o hkl9) (by omega) (fun j h1 h2 => vi372_2 j (by omega) h2) (fun z9 => by have h9 := vi372_1 iv372_10.toInt.toNat (by omega); rw [if_pos (by omega), z9, show ia372_zmo iv372_10.toInt.toNat = x_66 from ax_66.symm] at h9; omega) (hp_E_u (ix := iv372_10.toInt.toNat) vi372_1 (by omega) (by omega) (by omega) dfa_74 (by rw [show ia372_zmo iv372_10.toInt.toNat = x_66 from ax_66.symm]; omega)) (by decide)) hm12 ls (by omega) hW hT hM f_x_72 ffw27_x_75 nfa_74 nia204_zbm af_zpc af_zpw af_zpk nia27_zfo nia27_zre nia27_zle (lv_sub hl [0, 5, 6, 7, 8, 9, 10] rfl)
                                  · skip
                                    have hin9 : ((iv372_10.toInt.toNat : Nat) : Int) = iv372_10.toInt := Int.toNat_of_nonneg (by omega)
                                    refine lv_aload_n hx hb dX10_plan_389 rfl (lv_at hl 8 rfl) ?_
                                    refine hk_getr hx hb hts hC_10 hown hW (gx.S hM) tt_10 79 (by decide) rfl kw_1222 ⟨rfl, rfl, rfl⟩ ((hM.o gx trivial rfl).2.trans f_x_79) dX10_plan_390 ?_
                                    refine lv_iload hx hb dX10_plan_393 (lv_at hl 0 rfl) ?_
                                    refine lv_iconst (v := 0) hx hb dX10_plan_395 (by decide) ?_
                                    have nia372_zmoO := nia372_zmo
                                    refine hx_iast hx hb hW hT (hx_S.rf (M := [(105, 0)])) (gzmo.S hM) tt_105 rfl ⟨by omega, by omega⟩ rfl (by decide) (List.mem_singleton.mpr rfl) dX10_plan_396 (fun H locs h_75 eh_75 hW hT hs => ?_)
                                    replace f_x_72 := (hs.o (gx.S hM) trivial rfl).1.trans f_x_72
                                    replace ffw27_x_75 := (hs.o (gx.S hM) trivial rfl).1.trans ffw27_x_75
                                    replace af_zpc : h_75.2.1 zpc = clf := (funext fun j => (hs.a (gzpc.S hM) rfl j).1).trans af_zpc
                                    replace af_zpw : h_75.2.1 zpw = wlf := (funext fun j => (hs.a (gzpw.S hM) rfl j).1).trans af_zpw
                                    replace af_zpk : h_75.2.1 zpk = wsf := (funext fun j => (hs.a (gzpk.S hM) rfl j).1).trans af_zpk
                                    replace nia27_zfo : h_75.2.1 zfo = ia27_zfo := (funext fun j => (hs.a (gzfo.S hM) rfl j).1).trans nia27_zfo
                                    replace nia27_zre : h_75.2.1 zre = ia27_zre := (funext fun j => (hs.a (gzre.S hM) rfl j).1).trans nia27_zre
                                    replace nia27_zle : h_75.2.1 zle = ia27_zle := (funext fun j => (hs.a (gzle.S hM) rfl j).1).trans nia27_zle
                                    replace nia204_zbm : h_75.2.1 zbm = ia204_zbm := (funext fun j => (hs.a (gzbm.S hM) rfl j).1).trans nia204_zbm
                                    replace hM := hM.tr (hs.mono (by decide))
                                    obtain ⟨fa_76, dfa_76⟩ : ∃ g : Nat → Int32, g = hx_up ia372_zmo iv372_10.toNatClampNeg (0 : Int32) := ⟨_, rfl⟩
                                    have nfa_76 : h_75.2.1 zmo = fa_76 := by rw [eh_75, dfa_76, ← nia372_zmoO]; exact hx_pi_fun _ _ _ _
                                    obtain ⟨x_77, ex_77⟩ : ∃ y : Int32, y = iv372_10 + Int32.ofInt (-1) := ⟨_, rfl⟩
                                    have rg_78 := i32_r iv372_10
                                    have zx_77 : x_77.toInt = iv372_10.toInt + (-1) := by rw [ex_77]; exact i32_add rfl (by decide) (by omega) (by omega)
                                    refine lv_iinc (v := x_77) (lv' := [(10, .int x_77), (9, .int iv221_9), (8, .int iv221_8), (7, .int iv221_7), (6, .int iv204_6), (5, .int iv204_5), (4, .int iv204_4), (3, .int r_27), (0, .ref x), (1, .int i1), (2, .int i2)]) hx hb dX10_plan_397 hl (k := 0) rfl ex_77.symm (by decide) rfl (fun ls hl => ?_)
                                    refine lv_goto (tgt := 372) hx hb dX10_plan_400 (by decide) ?_
                                    exact ih372 x_77 fa_76 _ _ hL1 h_75 (by omega) (by omega) (by have q := (hx_V_up (by omega) (by omega) ax_66 dfa_76).1 (by omega) (by decide); rw [show x_77.toInt = iv372_10.toInt - 1 from by omega]; omega) (hp_E_s vi372_1 vi372_2 (by omega) (by omega) (by unfold Int32.toNatClampNeg; omega) (by rw [show ia372_zmo iv372_10.toNatClampNeg = x_66 from ax_66.symm]; omega) dfa_76 zx_77).1 (hp_E_s vi372_1 vi372_2 (by omega) (by omega) (by unfold Int32.toNatClampNeg; omega) (by rw [show ia372_zmo iv372_10.toNatClampNeg = x_66 from ax_66.symm]; omega) dfa_76 zx_77).2 (by omega) ls (by omega) hW hT hM f_x_72 ffw27_x_75 nfa_76 af_zpc af_zpw af_zpk nia27_zfo nia27_zre nia27_zle nia204_zbm (lv_sub hl [0, 1, 2, 3, 4, 5, 6, 7, 8, 9, 10] rfl)
                            exact loop372 5 x_62 ia204_zmo _ _ hL1 hl1 (by omega) (by omega) (by rw [zx_62]) (fun j hj => by rw [if_pos (by omega)]; exact hdg9 j hj) (fun j h1 h2 => by exfalso; omega) (by omega) ls (by omega) hW hT hM f_x_72 ffw27_x_75 nia204_zmo af_zpc af_zpw af_zpk nia27_zfo nia27_zre nia27_zle nia204_zbm hl
                          · skip
                            refine lv_iload hx hb dX10_plan_303 (lv_at hl 2 rfl) ?_
                            refine lv_iload hx hb dX10_plan_305 (lv_at hl 6 rfl) ?_
                            refine hb_icmp_lt (zx := iv221_8.toInt) (zy := iv204_4.toInt) (tgt := 324) hx hb rfl rfl dX10_plan_307 (by decide) (fun c_79 => ?_) (fun c_79 => ?_)
                            · skip
                              refine lv_iload hx hb dX10_plan_324 (lv_at hl 2 rfl) ?_
                              refine lv_istore (lv' := [(4, .int iv221_8), (10, .int iv221_10), (9, .int iv221_9), (8, .int iv221_8), (7, .int iv221_7), (6, .int iv204_6), (5, .int iv204_5), (3, .int r_27), (0, .ref x), (1, .int i1), (2, .int i2)]) hx hb dX10_plan_326 hl (by decide) rfl (fun ls hl => ?_)
                              refine lv_iload hx hb dX10_plan_328 (lv_at hl 2 rfl) ?_
                              refine lv_istore (lv' := [(5, .int iv221_9), (4, .int iv221_8), (10, .int iv221_10), (9, .int iv221_9), (8, .int iv221_8), (7, .int iv221_7), (6, .int iv204_6), (3, .int r_27), (0, .ref x), (1, .int i1), (2, .int i2)]) hx hb dX10_plan_330 hl (by decide) rfl (fun ls hl => ?_)
                              refine lv_iconst (v := 0) hx hb dX10_plan_332 (by decide) ?_
                              refine lv_istore (lv' := [(10, .int (0 : Int32)), (5, .int iv221_9), (4, .int iv221_8), (9, .int iv221_9), (8, .int iv221_8), (7, .int iv221_7), (6, .int iv204_6), (3, .int r_27), (0, .ref x), (1, .int i1), (2, .int i2)]) hx hb dX10_plan_333 hl (by decide) rfl (fun ls hl => ?_)
                              have loop335 : ∀ (n335 : Nat) (iv335_10 : Int32) (ia335_zbm : Nat → Int32) (H : Heap) (locs : List Loc) (hL1 : List Nat) (hl1 : hx_h), 0 ≤ iv335_10.toInt → iv335_10.toInt ≤ 4 → (∀ k : Nat, (k : Int) < iv335_10.toInt → ia335_zbm k = ia204_zmo k) → (iv335_10.toInt ≤ fw27_x_75.toInt) → ∀ (ls : Array Slot), 4 - iv335_10.toInt < (n335 : Int) → hx_W T_tb (P_ty dA) (dC, dI) vwCl (hx_A L sz) s.heap hL1 hl1 s H locs → hx_T T_tb hL1 hl1 → hx_S T_tb [(10, 67), (10, 68), (10, 69), (10, 70), (10, 71), (10, 72), (10, 75), (100, 0), (101, 0), (102, 0), (103, 0), (104, 0), (105, 0), (106, 0), (107, 0)] L h hL1 hl1 → hl1.2.1 x 72 = td0 → hl1.2.1 x 75 = fw27_x_75 → hl1.2.1 zbm = ia335_zbm → hl1.2.1 zpc = clf → hl1.2.1 zpw = wlf → hl1.2.1 zpk = wsf → hl1.2.1 zfo = ia27_zfo → hl1.2.1 zre = ia27_zre → hl1.2.1 zle = ia27_zle → hl1.2.1 zmo = ia204_zmo → lv_has ls 12 [(10, .int iv335_10), (5, .int iv221_9), (4, .int iv221_8), (9, .int iv221_9), (8, .int iv221_8), (7, .int iv221_7), (6, .int iv204_6), (3, .int r_27), (0, .ref x), (1, .int i1), (2, .int i2)] → W p l e ({ frames := 3, cells := 0, slots := 0, locals := 71 }) s m ([.ref x, .int i1, .int i2] : List Value).toArray below meth c H locs 0 0 (MQ below (va_Qi (fun (r : Int32) (u : List Nat × hx_h) => (∃ (td1 : Int32) (clf1 : Nat → Int32) (wlf1 : Nat → Int32) (wsf1 : Nat → Int32), u.2.2.1 x 72 = td1 ∧ u.2.2.1 zpc = clf1 ∧ u.2.2.1 zpw = wlf1 ∧ u.2.2.1 zpk = wsf1 ∧ (hp_PS ((0 ≤ i1.toInt ∧ i1.toInt < pn0.toInt) ∧ 1 ≤ i2.toInt ∧ i2.toInt ≤ 99) (hp_ol agf (hz_Rn odf szf gdf owf svf (hz_rc A plf) pof pdf psm pkf pst nw0.toInt n0.toInt.toNat) i1.toInt c0.toInt.toNat).length (hp_ge (hp_ol agf (hz_Rn odf szf gdf owf svf (hz_rc A plf) pof pdf psm pkf pst nw0.toInt n0.toInt.toNat) i1.toInt c0.toInt.toNat)) (fun c9 => hz_mi ((fun c9 => (A (plf c9).toInt.toNat).2.1 2) (hp_ge (hp_ol agf (hz_Rn odf szf gdf owf svf (hz_rc A plf) pof pdf psm pkf pst nw0.toInt n0.toInt.toNat) i1.toInt c0.toInt.toNat) c9)) ((hz_Rn odf szf gdf owf svf (hz_rc A plf) pof pdf psm pkf pst nw0.toInt n0.toInt.toNat) (hp_ge (hp_ol agf (hz_Rn odf szf gdf owf svf (hz_rc A plf) pof pdf psm pkf pst nw0.toInt n0.toInt.toNat) i1.toInt c0.toInt.toNat) c9))) (fun c9 => (hz_Rn odf szf gdf owf svf (hz_rc A plf) pof pdf psm pkf pst nw0.toInt n0.toInt.toNat) (hp_ge (hp_ol agf (hz_Rn odf szf gdf owf svf (hz_rc A plf) pof pdf psm pkf pst nw0.toInt n0.toInt.toNat) i1.toInt c0.toInt.toNat) c9)) i2.toInt ((eaf i1.toInt.toNat).toInt - (A (hv_IF A nw0.toInt a0.toInt.toNat)).2.1 3 * (hdf i1.toInt.toNat).toInt) r.toInt td0.toInt td1.toInt clf clf1 wlf wlf1 wsf wsf1)) ∧ hx_T T_tb u.1 u.2 ∧ hx_S T_tb [(10, 67), (10, 68), (10, 69), (10, 70), (10, 71), (10, 72), (10, 75), (100, 0), (101, 0), (102, 0), (103, 0), (104, 0), (105, 0), (106, 0), (107, 0)] L h u.1 u.2) (hx_E T_tb (P_ty dA) (dC, dI) vwCl (hx_A L sz)) (hx_A L sz)) ([.ref x, .int i1, .int i2] : List Value).toArray s 0 0 (hx_A L sz)) (F0 m 335 ls []) := by
                                intro n335
                                induction n335 with
                                | zero => intro iv335_10 ia335_zbm H locs hL1 hl1 bliv335_10 buiv335_10 vi335_0 vi335_1 ls hn335; exfalso; omega
                                | succ n335 ih335 =>
                                  intro iv335_10 ia335_zbm H locs hL1 hl1 bliv335_10 buiv335_10 vi335_0 vi335_1 ls hn335 hW hT hM f_x_72 ffw27_x_75 nia335_zbm af_zpc af_zpw af_zpk nia27_zfo nia27_zre nia27_zle nia204_zmo hl
                                  have hin9 : ((iv335_10.toInt.toNat : Nat) : Int) = iv335_10.toInt := Int.toNat_of_nonneg (by omega)
                                  refine lv_iload hx hb dX10_plan_335 (lv_at hl 0 rfl) ?_
                                  refine lv_aload_n hx hb dX10_plan_337 rfl (lv_at hl 8 rfl) ?_
                                  refine hk_geti hx hb hts hC_10 hown hW (gx.S hM) tt_10 75 (by decide) rfl kw_1218 ⟨rfl, rfl, rfl⟩ ffw27_x_75 dX10_plan_338 ?_
                                  refine hb_icmp_ge (zx := iv335_10.toInt) (zy := fw27_x_75.toInt) (tgt := 364) hx hb rfl rfl dX10_plan_341 (by decide) (fun c_80 => ?_) (fun c_80 => ?_)
                                  · skip
                                    have hSM9 : hp_SM (hp_F (hp_f aF9 rF9 i2.toInt r_27.toInt fw27_x_75.toInt.toNat) 0 (k9 + 1) hp_s0) iv221_8.toInt iv221_9.toInt ia335_zbm fw27_x_75.toInt.toNat := hp_SM_s hs9 hdg9 ht9 hL9 hA9 (Or.inl ⟨by omega, by omega, rfl, rfl, fun i hi => vi335_0 i (by omega)⟩)
                                    refine lv_aload_n hx hb dX10_plan_364 rfl (lv_at hl 8 rfl) ?_
                                    refine hk_geti hx hb hts hC_10 hown hW (gx.S hM) tt_10 75 (by decide) rfl kw_1218 ⟨rfl, rfl, rfl⟩ ffw27_x_75 dX10_plan_365 ?_
                                    refine lv_iconst (v := 1) hx hb dX10_plan_368 (by decide) ?_
                                    refine lv_isub hx hb dX10_plan_369 ?_
                                    have rg_81 := i32_r fw27_x_75
                                    refine lv_topi (fun x_82 ex_82 => ?_)
                                    have zx_82 : x_82.toInt = fw27_x_75.toInt - 1 := by rw [ex_82]; exact i32_sub rfl (by decide) (by omega) (by omega)
                                    refine lv_istore (lv' := [(10, .int x_82), (5, .int iv221_9), (4, .int iv221_8), (9, .int iv221_9), (8, .int iv221_8), (7, .int iv221_7), (6, .int iv204_6), (3, .int r_27), (0, .ref x), (1, .int i1), (2, .int i2)]) hx hb dX10_plan_370 hl (by decide) rfl (fun ls hl => ?_)
                                    have loop372 : ∀ (n372 : Nat) (iv372_10 : Int32) (ia372_zmo : Nat → Int32) (H : Heap) (locs : List Loc) (hL1 : List Nat) (hl1 : hx_h), -1 ≤ iv372_10.toInt → iv372_10.toInt ≤ 3 → (hx_V ia372_zmo + hx_w iv372_10.toInt = hx_V ia204_zmo + hx_w (fw27_x_75.toInt - 1)) → (∀ j : Nat, j < fw27_x_75.toInt.toNat → (ia372_zmo j).toInt = (if (j : Int) ≤ iv372_10.toInt then hp_dg fw27_x_75.toInt.toNat k9 j else 0)) → (∀ j : Nat, iv372_10.toInt < (j : Int) → j < fw27_x_75.toInt.toNat → hp_dg fw27_x_75.toInt.toNat k9 j = 12) → (iv372_10.toInt < fw27_x_75.toInt) → ∀ (ls : Array Slot), iv372_10.toInt + 1 < (n372 : Int) → hx_W T_tb (P_ty dA) (dC, dI) vwCl (hx_A L sz) s.heap hL1 hl1 s H locs → hx_T T_tb hL1 hl1 → hx_S T_tb [(10, 67), (10, 68), (10, 69), (10, 70), (10, 71), (10, 72), (10, 75), (100, 0), (101, 0), (102, 0), (103, 0), (104, 0), (105, 0), (106, 0), (107, 0)] L h hL1 hl1 → hl1.2.1 x 72 = td0 → hl1.2.1 x 75 = fw27_x_75 → hl1.2.1 zmo = ia372_zmo → hl1.2.1 zpc = clf → hl1.2.1 zpw = wlf → hl1.2.1 zpk = wsf → hl1.2.1 zfo = ia27_zfo → hl1.2.1 zre = ia27_zre → hl1.2.1 zle = ia27_zle → hl1.2.1 zbm = ia335_zbm → lv_has ls 12 [(10, .int iv372_10), (5, .int iv221_9), (4, .int iv221_8), (9, .int iv221_9), (8, .int iv221_8), (7, .int iv221_7), (6, .int iv204_6), (3, .int r_27), (0, .ref x), (1, .int i1), (2, .int i2)] → W p l e ({ frames := 3, cells := 0, slots := 0, locals := 71 }) s m ([.ref x, .int i1, .int i2] : List Value).toArray below meth c H locs 0 0 (MQ below (va_Qi (fun (r : Int32) (u : List Nat × hx_h) => (∃ (td1 : Int32) (clf1 : Nat → Int32) (wlf1 : Nat → Int32) (wsf1 : Nat → Int32), u.2.2.1 x 72 = td1 ∧ u.2.2.1 zpc = clf1 ∧ u.2.2.1 zpw = wlf1 ∧ u.2.2.1 zpk = wsf1 ∧ (hp_PS ((0 ≤ i1.toInt ∧ i1.toInt < pn0.toInt) ∧ 1 ≤ i2.toInt ∧ i2.toInt ≤ 99) (hp_ol agf (hz_Rn odf szf gdf owf svf (hz_rc A plf) pof pdf psm pkf pst nw0.toInt n0.toInt.toNat) i1.toInt c0.toInt.toNat).length (hp_ge (hp_ol agf (hz_Rn odf szf gdf owf svf (hz_rc A plf) pof pdf psm pkf pst nw0.toInt n0.toInt.toNat) i1.toInt c0.toInt.toNat)) (fun c9 => hz_mi ((fun c9 => (A (plf c9).toInt.toNat).2.1 2) (hp_ge (hp_ol agf (hz_Rn odf szf gdf owf svf (hz_rc A plf) pof pdf psm pkf pst nw0.toInt n0.toInt.toNat) i1.toInt c0.toInt.toNat) c9)) ((hz_Rn odf szf gdf owf svf (hz_rc A plf) pof pdf psm pkf pst nw0.toInt n0.toInt.toNat) (hp_ge (hp_ol agf (hz_Rn odf szf gdf owf svf (hz_rc A plf) pof pdf psm pkf pst nw0.toInt n0.toInt.toNat) i1.toInt c0.toInt.toNat) c9))) (fun c9 => (hz_Rn odf szf gdf owf svf (hz_rc A plf) pof pdf psm pkf pst nw0.toInt n0.toInt.toNat) (hp_ge (hp_ol agf (hz_Rn odf szf gdf owf svf (hz_rc A plf) pof pdf psm pkf pst nw0.toInt n0.toInt.toNat) i1.toInt c0.toInt.toNat) c9)) i2.toInt ((eaf i1.toInt.toNat).toInt - (A (hv_IF A nw0.toInt a0.toInt.toNat)).2.1 3 * (hdf i1.toInt.toNat).toInt) r.toInt td0.toInt td1.toInt clf clf1 wlf wlf1 wsf wsf1)) ∧ hx_T T_tb u.1 u.2 ∧ hx_S T_tb [(10, 67), (10, 68), (10, 69), (10, 70), (10, 71), (10, 72), (10, 75), (100, 0), (101, 0), (102, 0), (103, 0), (104, 0), (105, 0), (106, 0), (107, 0)] L h u.1 u.2) (hx_E T_tb (P_ty dA) (dC, dI) vwCl (hx_A L sz)) (hx_A L sz)) ([.ref x, .int i1, .int i2] : List Value).toArray s 0 0 (hx_A L sz)) (F0 m 372 ls []) := by
                                      intro n372
                                      induction n372 with
                                      | zero => intro iv372_10 ia372_zmo H locs hL1 hl1 bliv372_10 buiv372_10 vi372_0 vi372_1 vi372_2 vi372_3 ls hn372; exfalso; omega
                                      | succ n372 ih372 =>
                                        intro iv372_10 ia372_zmo H locs hL1 hl1 bliv372_10 buiv372_10 vi372_0 vi372_1 vi372_2 vi372_3 ls hn372 hW hT hM f_x_72 ffw27_x_75 nia372_zmo af_zpc af_zpw af_zpk nia27_zfo nia27_zre nia27_zle nia335_zbm hl
                                        refine lv_iload hx hb dX10_plan_372 (lv_at hl 0 rfl) ?_
                                        refine hb_if_lt (zx := iv372_10.toInt) (tgt := 403) hx hb rfl dX10_plan_374 (by decide) (fun c_83 => ?_) (fun c_83 => ?_)
                                        · skip
                                          refine lv_iload hx hb dX10_plan_403 (lv_at hl 0 rfl) ?_
                                          refine hb_if_lt (zx := iv372_10.toInt) (tgt := 412) hx hb rfl dX10_plan_405 (by decide) (fun c_84 => ?_) (fun c_84 => by exfalso; omega)
                                          refine lv_iconst (v := 0) hx hb dX10_plan_412 (by decide) ?_
                                          refine lv_istore (lv' := [(6, .int (0 : Int32)), (10, .int iv372_10), (5, .int iv221_9), (4, .int iv221_8), (9, .int iv221_9), (8, .int iv221_8), (7, .int iv221_7), (3, .int r_27), (0, .ref x), (1, .int i1), (2, .int i2)]) hx hb dX10_plan_413 hl (by decide) rfl (fun ls hl => ?_)
                                          refine lv_iload hx hb dX10_plan_415 (lv_at hl 0 rfl) ?_
                                          refine hb_if_eq (zx := 0) (tgt := 431) hx hb (by decide) dX10_plan_417 (by decide) (fun c_85 => ?_) (fun c_85 => absurd c_85 (by decide))
                                          have hm12 : hx_m12 ia372_zmo := (fun k hk => by have q := hT.ei (gzmo.S hM) tt_105 (k := k) hk; rw [nia372_zmo] at q; exact q)
                                          have hvb := hx_V_b hm12
                                          refine lv_goto (tgt := 204) hx hb dX10_plan_431 (by decide) ?_
                                          have zk_0 : (0 : Int32).toInt = 0 := by decide
                                          exact ih204 iv221_8 iv221_9 (0 : Int32) ia372_zmo ia335_zbm _ _ hL1 hl1 (i32_r _).1 (i32_r _).2 (i32_r _).1 (i32_r _).2 (by decide) (by decide) (hp_OD_n hSM9 (hq_o hkl9) (fun j hj => vi372_2 j (by omega) hj) (by decide)) hm12 ls (by omega) hW hT hM f_x_72 ffw27_x_75 nia372_zmo nia335_zbm af_zpc af_zpw af_zpk nia27_zfo nia27_zre nia27_zle (lv_sub hl [0, 2, 3, 7, 8, 9, 10] rfl)
                                        · skip
                                          refine lv_aload_n hx hb dX10_plan_377 rfl (lv_at hl 8 rfl) ?_
                                          refine hk_getr hx hb hts hC_10 hown hW (gx.S hM) tt_10 79 (by decide) rfl kw_1222 ⟨rfl, rfl, rfl⟩ ((hM.o gx trivial rfl).2.trans f_x_79) dX10_plan_378 ?_
                                          refine lv_iload hx hb dX10_plan_381 (lv_at hl 0 rfl) ?_
                                          refine hx_iald hx hb hW hT (gzmo.S hM) tt_105 rfl ⟨by omega, by omega⟩ dX10_plan_383 (fun x_86 ex_86 lx_86 ux_86 => ?_)
                                          have ax_86 : x_86 = ia372_zmo iv372_10.toNatClampNeg := ex_86.trans (congrFun nia372_zmo _)
                                          refine lv_bipush (v := 12) hx hb dX10_plan_384 (by decide) ?_
                                          refine hb_icmp_ne (zx := x_86.toInt) (zy := 12) (tgt := 403) hx hb rfl (by decide) dX10_plan_386 (by decide) (fun c_87 => ?_) (fun c_87 => ?_)
                                          · skip
                                            replace c_87 : x_86.toInt ≤ 11 := by omega
                                            refine lv_iload hx hb dX10_plan_403 (lv_at hl 0 rfl) ?_
                                            refine hb_if_lt (zx := iv372_10.toInt) (tgt := 412) hx hb rfl dX10_plan_405 (by decide) (fun c_88 => by exfalso; omega) (fun c_88 => ?_)
                                            refine lv_iconst (v := 1) hx hb dX10_plan_408 (by decide) ?_
                                            refine lv_goto (tgt := 413) hx hb dX10_plan_409 (by decide) ?_
                                            refine lv_istore (lv' := [(6, .int (1 : Int32)), (10, .int iv372_10), (5, .int iv221_9), (4, .int iv221_8), (9, .int iv221_9), (8, .int iv221_8), (7, .int iv221_7), (3, .int r_27), (0, .ref x), (1, .int i1), (2, .int i2)]) hx hb dX10_plan_413 hl (by decide) rfl (fun ls hl => ?_)
                                            refine lv_iload hx hb dX10_plan_415 (lv_at hl 0 rfl) ?_
                                            refine hb_if_eq (zx := 1) (tgt := 431) hx hb (by decide) dX10_plan_417 (by decide) (fun c_89 => absurd c_89 (by decide)) (fun c_89 => ?_)
                                            refine lv_aload_n hx hb dX10_plan_420 rfl (lv_at hl 8 rfl) ?_
                                            refine hk_getr hx hb hts hC_10 hown hW (gx.S hM) tt_10 79 (by decide) rfl kw_1222 ⟨rfl, rfl, rfl⟩ ((hM.o gx trivial rfl).2.trans f_x_79) dX10_plan_421 ?_
                                            refine lv_iload hx hb dX10_plan_424 (lv_at hl 1 rfl) ?_
                                            refine lv_dup2_11 hx hb dX10_plan_426 rfl rfl ?_
                                            refine hx_iald hx hb hW hT (gzmo.S hM) tt_105 rfl ⟨by omega, by omega⟩ dX10_plan_427 (fun x_90 ex_90 lx_90 ux_90 => ?_)
                                            have ax_90 : x_90 = ia372_zmo iv372_10.toNatClampNeg := ex_90.trans (congrFun nia372_zmo _)
                                            obtain rfl : x_86 = x_90 := ex_86.trans ex_90.symm
                                            refine lv_iconst (v := 1) hx hb dX10_plan_428 (by decide) ?_
                                            refine lv_iadd hx hb dX10_plan_429 ?_
                                            have rg_91 := i32_r x_86
                                            refine lv_topi (fun x_92 ex_92 => ?_)
                                            have zx_92 : x_92.toInt = x_86.toInt + 1 := by rw [ex_92]; exact i32_add rfl (by decide) (by omega) (by omega)
                                            have nia372_zmoO := nia372_zmo
                                            refine hx_iast hx hb hW hT (hx_S.rf (M := [(105, 0)])) (gzmo.S hM) tt_105 rfl ⟨by omega, by omega⟩ rfl ⟨by omega, by omega⟩ (List.mem_singleton.mpr rfl) dX10_plan_430 (fun H locs h_93 eh_93 hW hT hs => ?_)
                                            replace f_x_72 := (hs.o (gx.S hM) trivial rfl).1.trans f_x_72
                                            replace ffw27_x_75 := (hs.o (gx.S hM) trivial rfl).1.trans ffw27_x_75
                                            replace af_zpc : h_93.2.1 zpc = clf := (funext fun j => (hs.a (gzpc.S hM) rfl j).1).trans af_zpc
                                            replace af_zpw : h_93.2.1 zpw = wlf := (funext fun j => (hs.a (gzpw.S hM) rfl j).1).trans af_zpw
                                            replace af_zpk : h_93.2.1 zpk = wsf := (funext fun j => (hs.a (gzpk.S hM) rfl j).1).trans af_zpk
                                            replace nia27_zfo : h_93.2.1 zfo = ia27_zfo := (funext fun j => (hs.a (gzfo.S hM) rfl j).1).trans nia27_zfo
                                            replace nia27_zre : h_93.2.1 zre = ia27_zre := (funext fun j => (hs.a (gzre.S hM) rfl j).1).trans nia27_zre
                                            replace nia27_zle : h_93.2.1 zle = ia27_zle := (funext fun j => (hs.a (gzle.S hM) rfl j).1).trans nia27_zle
                                            replace nia335_zbm : h_93.2.1 zbm = ia335_zbm := (funext fun j => (hs.a (gzbm.S hM) rfl j).1).trans nia335_zbm
                                            replace hM := hM.tr (hs.mono (by decide))
                                            obtain ⟨fa_94, dfa_94⟩ : ∃ g : Nat → Int32, g = hx_up ia372_zmo iv372_10.toNatClampNeg x_92 := ⟨_, rfl⟩
                                            have nfa_94 : h_93.2.1 zmo = fa_94 := by rw [eh_93, dfa_94, ← nia372_zmoO]; exact hx_pi_fun _ _ _ _
                                            have hvq := (hx_V_up (by omega) (by omega) ax_86 dfa_94).2 (by omega)
                                            have hwq := hx_w_b (i := (fw27_x_75.toInt - 1 : Int))
                                            have hm12 : hx_m12 fa_94 := (fun k hk => by have q := hT.ei (gzmo.S hM) tt_105 (k := k) hk; rw [nfa_94] at q; exact q)
                                            have hvb := hx_V_b hm12
                                            refine lv_goto (tgt := 204) hx hb dX10_plan_431 (by decide) ?_
                                            have zk_1 : (1 : Int32).toInt = 1 := by decide
                                            exact ih204 iv221_8 iv221_9 (1 : Int32) fa_94 ia335_zbm _ _ hL1 h_93 (i32_r _).1 (i32_r _).2 (i32_r _).1 (i32_r _).2 (by decide) (by decide) (hp_OD_y (i := iv372_10.toInt.toNat) hSM9 (hq_o hkl9) (by omega) (fun j h1 h2 => vi372_2 j (by omega) h2) (fun z9 => by have h9 := vi372_1 iv372_10.toInt.toNat (by omega); rw [if_pos (by omega), z9, show ia372_zmo iv372_10.toInt.toNat = x_86 from ax_86.symm] at h9; omega) (hp_E_u (ix := iv372_10.toInt.toNat) vi372_1 (by omega) (by omega) (by omega) dfa_94 (by rw [show ia372_zmo iv372_10.toInt.toNat = x_86 from ax_86.symm]; omega)) (by decide)) hm12 ls (by omega) hW hT hM f_x_72 ffw27_x_75 nfa_94 nia335_zbm af_zpc af_zpw af_zpk nia27_zfo nia27_zre nia27_zle (lv_sub hl [0, 2, 3, 7, 8, 9, 10] rfl)
                                          · skip
                                            have hin9 : ((iv372_10.toInt.toNat : Nat) : Int) = iv372_10.toInt := Int.toNat_of_nonneg (by omega)
                                            refine lv_aload_n hx hb dX10_plan_389 rfl (lv_at hl 8 rfl) ?_
                                            refine hk_getr hx hb hts hC_10 hown hW (gx.S hM) tt_10 79 (by decide) rfl kw_1222 ⟨rfl, rfl, rfl⟩ ((hM.o gx trivial rfl).2.trans f_x_79) dX10_plan_390 ?_
                                            refine lv_iload hx hb dX10_plan_393 (lv_at hl 0 rfl) ?_
                                            refine lv_iconst (v := 0) hx hb dX10_plan_395 (by decide) ?_
                                            have nia372_zmoO := nia372_zmo
                                            refine hx_iast hx hb hW hT (hx_S.rf (M := [(105, 0)])) (gzmo.S hM) tt_105 rfl ⟨by omega, by omega⟩ rfl (by decide) (List.mem_singleton.mpr rfl) dX10_plan_396 (fun H locs h_95 eh_95 hW hT hs => ?_)
                                            replace f_x_72 := (hs.o (gx.S hM) trivial rfl).1.trans f_x_72
                                            replace ffw27_x_75 := (hs.o (gx.S hM) trivial rfl).1.trans ffw27_x_75
                                            replace af_zpc : h_95.2.1 zpc = clf := (funext fun j => (hs.a (gzpc.S hM) rfl j).1).trans af_zpc
                                            replace af_zpw : h_95.2.1 zpw = wlf := (funext fun j => (hs.a (gzpw.S hM) rfl j).1).trans af_zpw
                                            replace af_zpk : h_95.2.1 zpk = wsf := (funext fun j => (hs.a (gzpk.S hM) rfl j).1).trans af_zpk
                                            replace nia27_zfo : h_95.2.1 zfo = ia27_zfo := (funext fun j => (hs.a (gzfo.S hM) rfl j).1).trans nia27_zfo
                                            replace nia27_zre : h_95.2.1 zre = ia27_zre := (funext fun j => (hs.a (gzre.S hM) rfl j).1).trans nia27_zre
                                            replace nia27_zle : h_95.2.1 zle = ia27_zle := (funext fun j => (hs.a (gzle.S hM) rfl j).1).trans nia27_zle
                                            replace nia335_zbm : h_95.2.1 zbm = ia335_zbm := (funext fun j => (hs.a (gzbm.S hM) rfl j).1).trans nia335_zbm
                                            replace hM := hM.tr (hs.mono (by decide))
                                            obtain ⟨fa_96, dfa_96⟩ : ∃ g : Nat → Int32, g = hx_up ia372_zmo iv372_10.toNatClampNeg (0 : Int32) := ⟨_, rfl⟩
                                            have nfa_96 : h_95.2.1 zmo = fa_96 := by rw [eh_95, dfa_96, ← nia372_zmoO]; exact hx_pi_fun _ _ _ _
                                            obtain ⟨x_97, ex_97⟩ : ∃ y : Int32, y = iv372_10 + Int32.ofInt (-1) := ⟨_, rfl⟩
                                            have rg_98 := i32_r iv372_10
                                            have zx_97 : x_97.toInt = iv372_10.toInt + (-1) := by rw [ex_97]; exact i32_add rfl (by decide) (by omega) (by omega)
                                            refine lv_iinc (v := x_97) (lv' := [(10, .int x_97), (5, .int iv221_9), (4, .int iv221_8), (9, .int iv221_9), (8, .int iv221_8), (7, .int iv221_7), (6, .int iv204_6), (3, .int r_27), (0, .ref x), (1, .int i1), (2, .int i2)]) hx hb dX10_plan_397 hl (k := 0) rfl ex_97.symm (by decide) rfl (fun ls hl => ?_)
                                            refine lv_goto (tgt := 372) hx hb dX10_plan_400 (by decide) ?_
                                            exact ih372 x_97 fa_96 _ _ hL1 h_95 (by omega) (by omega) (by have q := (hx_V_up (by omega) (by omega) ax_86 dfa_96).1 (by omega) (by decide); rw [show x_97.toInt = iv372_10.toInt - 1 from by omega]; omega) (hp_E_s vi372_1 vi372_2 (by omega) (by omega) (by unfold Int32.toNatClampNeg; omega) (by rw [show ia372_zmo iv372_10.toNatClampNeg = x_86 from ax_86.symm]; omega) dfa_96 zx_97).1 (hp_E_s vi372_1 vi372_2 (by omega) (by omega) (by unfold Int32.toNatClampNeg; omega) (by rw [show ia372_zmo iv372_10.toNatClampNeg = x_86 from ax_86.symm]; omega) dfa_96 zx_97).2 (by omega) ls (by omega) hW hT hM f_x_72 ffw27_x_75 nfa_96 af_zpc af_zpw af_zpk nia27_zfo nia27_zre nia27_zle nia335_zbm (lv_sub hl [0, 1, 2, 3, 4, 5, 6, 7, 8, 9, 10] rfl)
                                    exact loop372 5 x_82 ia204_zmo _ _ hL1 hl1 (by omega) (by omega) (by rw [zx_82]) (fun j hj => by rw [if_pos (by omega)]; exact hdg9 j hj) (fun j h1 h2 => by exfalso; omega) (by omega) ls (by omega) hW hT hM f_x_72 ffw27_x_75 nia204_zmo af_zpc af_zpw af_zpk nia27_zfo nia27_zre nia27_zle nia335_zbm hl
                                  · skip
                                    refine lv_aload_n hx hb dX10_plan_344 rfl (lv_at hl 8 rfl) ?_
                                    refine hk_getr hx hb hts hC_10 hown hW (gx.S hM) tt_10 80 (by decide) rfl kw_1223 ⟨rfl, rfl, rfl⟩ ((hM.o gx trivial rfl).2.trans f_x_80) dX10_plan_345 ?_
                                    refine lv_iload hx hb dX10_plan_348 (lv_at hl 0 rfl) ?_
                                    refine lv_aload_n hx hb dX10_plan_350 rfl (lv_at hl 8 rfl) ?_
                                    refine hk_getr hx hb hts hC_10 hown hW (gx.S hM) tt_10 79 (by decide) rfl kw_1222 ⟨rfl, rfl, rfl⟩ ((hM.o gx trivial rfl).2.trans f_x_79) dX10_plan_351 ?_
                                    refine lv_iload hx hb dX10_plan_354 (lv_at hl 0 rfl) ?_
                                    refine hx_iald hx hb hW hT (gzmo.S hM) tt_105 rfl ⟨by omega, by omega⟩ dX10_plan_356 (fun x_99 ex_99 lx_99 ux_99 => ?_)
                                    have ax_99 : x_99 = ia204_zmo iv335_10.toNatClampNeg := ex_99.trans (congrFun nia204_zmo _)
                                    have nia335_zbmO := nia335_zbm
                                    refine hx_iast hx hb hW hT (hx_S.rf (M := [(106, 0)])) (gzbm.S hM) tt_106 rfl ⟨by omega, by omega⟩ rfl ⟨by omega, by omega⟩ (List.mem_singleton.mpr rfl) dX10_plan_357 (fun H locs h_100 eh_100 hW hT hs => ?_)
                                    replace f_x_72 := (hs.o (gx.S hM) trivial rfl).1.trans f_x_72
                                    replace ffw27_x_75 := (hs.o (gx.S hM) trivial rfl).1.trans ffw27_x_75
                                    replace af_zpc : h_100.2.1 zpc = clf := (funext fun j => (hs.a (gzpc.S hM) rfl j).1).trans af_zpc
                                    replace af_zpw : h_100.2.1 zpw = wlf := (funext fun j => (hs.a (gzpw.S hM) rfl j).1).trans af_zpw
                                    replace af_zpk : h_100.2.1 zpk = wsf := (funext fun j => (hs.a (gzpk.S hM) rfl j).1).trans af_zpk
                                    replace nia27_zfo : h_100.2.1 zfo = ia27_zfo := (funext fun j => (hs.a (gzfo.S hM) rfl j).1).trans nia27_zfo
                                    replace nia27_zre : h_100.2.1 zre = ia27_zre := (funext fun j => (hs.a (gzre.S hM) rfl j).1).trans nia27_zre
                                    replace nia27_zle : h_100.2.1 zle = ia27_zle := (funext fun j => (hs.a (gzle.S hM) rfl j).1).trans nia27_zle
                                    replace nia204_zmo : h_100.2.1 zmo = ia204_zmo := (funext fun j => (hs.a (gzmo.S hM) rfl j).1).trans nia204_zmo
                                    replace ex_99 := ex_99.trans (hs.a (gzmo.S hM) rfl _).1.symm
                                    replace hM := hM.tr (hs.mono (by decide))
                                    obtain ⟨fa_101, dfa_101⟩ : ∃ g : Nat → Int32, g = hx_up ia335_zbm iv335_10.toNatClampNeg x_99 := ⟨_, rfl⟩
                                    have nfa_101 : h_100.2.1 zbm = fa_101 := by rw [eh_100, dfa_101, ← nia335_zbmO]; exact hx_pi_fun _ _ _ _
                                    obtain ⟨x_102, ex_102⟩ : ∃ y : Int32, y = iv335_10 + Int32.ofInt 1 := ⟨_, rfl⟩
                                    have rg_103 := i32_r iv335_10
                                    have zx_102 : x_102.toInt = iv335_10.toInt + (1) := by rw [ex_102]; exact i32_add rfl (by decide) (by omega) (by omega)
                                    refine lv_iinc (v := x_102) (lv' := [(10, .int x_102), (5, .int iv221_9), (4, .int iv221_8), (9, .int iv221_9), (8, .int iv221_8), (7, .int iv221_7), (6, .int iv204_6), (3, .int r_27), (0, .ref x), (1, .int i1), (2, .int i2)]) hx hb dX10_plan_358 hl (k := 0) rfl ex_102.symm (by decide) rfl (fun ls hl => ?_)
                                    refine lv_goto (tgt := 335) hx hb dX10_plan_361 (by decide) ?_
                                    exact ih335 x_102 fa_101 _ _ hL1 h_100 (by omega) (by omega) (hx_cp_s vi335_0 dfa_101 ax_99 rfl (by omega) zx_102) (by omega) ls (by omega) hW hT hM f_x_72 ffw27_x_75 nfa_101 af_zpc af_zpw af_zpk nia27_zfo nia27_zre nia27_zle nia204_zmo (lv_sub hl [0, 1, 2, 3, 4, 5, 6, 7, 8, 9, 10] rfl)
                              have zk_0 : (0 : Int32).toInt = 0 := by decide
                              exact loop335 5 (0 : Int32) ia204_zbm _ _ hL1 hl1 (by decide) (by decide) (fun j hj => by exfalso; omega) (by omega) ls (by omega) hW hT hM f_x_72 ffw27_x_75 nia204_zbm af_zpc af_zpw af_zpk nia27_zfo nia27_zre nia27_zle nia204_zmo hl
                            · skip
                              refine lv_iload hx hb dX10_plan_310 (lv_at hl 2 rfl) ?_
                              refine lv_iload hx hb dX10_plan_312 (lv_at hl 6 rfl) ?_
                              refine hb_icmp_ne (zx := iv221_8.toInt) (zy := iv204_4.toInt) (tgt := 364) hx hb rfl rfl dX10_plan_314 (by decide) (fun c_104 => ?_) (fun c_104 => ?_)
                              · skip
                                have hSM9 : hp_SM (hp_F (hp_f aF9 rF9 i2.toInt r_27.toInt fw27_x_75.toInt.toNat) 0 (k9 + 1) hp_s0) iv204_4.toInt iv204_5.toInt ia204_zbm fw27_x_75.toInt.toNat := hp_SM_s hs9 hdg9 ht9 hL9 hA9 (Or.inr ⟨by omega, rfl, rfl, rfl⟩)
                                refine lv_aload_n hx hb dX10_plan_364 rfl (lv_at hl 8 rfl) ?_
                                refine hk_geti hx hb hts hC_10 hown hW (gx.S hM) tt_10 75 (by decide) rfl kw_1218 ⟨rfl, rfl, rfl⟩ ffw27_x_75 dX10_plan_365 ?_
                                refine lv_iconst (v := 1) hx hb dX10_plan_368 (by decide) ?_
                                refine lv_isub hx hb dX10_plan_369 ?_
                                have rg_105 := i32_r fw27_x_75
                                refine lv_topi (fun x_106 ex_106 => ?_)
                                have zx_106 : x_106.toInt = fw27_x_75.toInt - 1 := by rw [ex_106]; exact i32_sub rfl (by decide) (by omega) (by omega)
                                refine lv_istore (lv' := [(10, .int x_106), (9, .int iv221_9), (8, .int iv221_8), (7, .int iv221_7), (6, .int iv204_6), (5, .int iv204_5), (4, .int iv204_4), (3, .int r_27), (0, .ref x), (1, .int i1), (2, .int i2)]) hx hb dX10_plan_370 hl (by decide) rfl (fun ls hl => ?_)
                                have loop372 : ∀ (n372 : Nat) (iv372_10 : Int32) (ia372_zmo : Nat → Int32) (H : Heap) (locs : List Loc) (hL1 : List Nat) (hl1 : hx_h), -1 ≤ iv372_10.toInt → iv372_10.toInt ≤ 3 → (hx_V ia372_zmo + hx_w iv372_10.toInt = hx_V ia204_zmo + hx_w (fw27_x_75.toInt - 1)) → (∀ j : Nat, j < fw27_x_75.toInt.toNat → (ia372_zmo j).toInt = (if (j : Int) ≤ iv372_10.toInt then hp_dg fw27_x_75.toInt.toNat k9 j else 0)) → (∀ j : Nat, iv372_10.toInt < (j : Int) → j < fw27_x_75.toInt.toNat → hp_dg fw27_x_75.toInt.toNat k9 j = 12) → (iv372_10.toInt < fw27_x_75.toInt) → ∀ (ls : Array Slot), iv372_10.toInt + 1 < (n372 : Int) → hx_W T_tb (P_ty dA) (dC, dI) vwCl (hx_A L sz) s.heap hL1 hl1 s H locs → hx_T T_tb hL1 hl1 → hx_S T_tb [(10, 67), (10, 68), (10, 69), (10, 70), (10, 71), (10, 72), (10, 75), (100, 0), (101, 0), (102, 0), (103, 0), (104, 0), (105, 0), (106, 0), (107, 0)] L h hL1 hl1 → hl1.2.1 x 72 = td0 → hl1.2.1 x 75 = fw27_x_75 → hl1.2.1 zmo = ia372_zmo → hl1.2.1 zpc = clf → hl1.2.1 zpw = wlf → hl1.2.1 zpk = wsf → hl1.2.1 zfo = ia27_zfo → hl1.2.1 zre = ia27_zre → hl1.2.1 zle = ia27_zle → hl1.2.1 zbm = ia204_zbm → lv_has ls 12 [(10, .int iv372_10), (9, .int iv221_9), (8, .int iv221_8), (7, .int iv221_7), (6, .int iv204_6), (5, .int iv204_5), (4, .int iv204_4), (3, .int r_27), (0, .ref x), (1, .int i1), (2, .int i2)] → W p l e ({ frames := 3, cells := 0, slots := 0, locals := 71 }) s m ([.ref x, .int i1, .int i2] : List Value).toArray below meth c H locs 0 0 (MQ below (va_Qi (fun (r : Int32) (u : List Nat × hx_h) => (∃ (td1 : Int32) (clf1 : Nat → Int32) (wlf1 : Nat → Int32) (wsf1 : Nat → Int32), u.2.2.1 x 72 = td1 ∧ u.2.2.1 zpc = clf1 ∧ u.2.2.1 zpw = wlf1 ∧ u.2.2.1 zpk = wsf1 ∧ (hp_PS ((0 ≤ i1.toInt ∧ i1.toInt < pn0.toInt) ∧ 1 ≤ i2.toInt ∧ i2.toInt ≤ 99) (hp_ol agf (hz_Rn odf szf gdf owf svf (hz_rc A plf) pof pdf psm pkf pst nw0.toInt n0.toInt.toNat) i1.toInt c0.toInt.toNat).length (hp_ge (hp_ol agf (hz_Rn odf szf gdf owf svf (hz_rc A plf) pof pdf psm pkf pst nw0.toInt n0.toInt.toNat) i1.toInt c0.toInt.toNat)) (fun c9 => hz_mi ((fun c9 => (A (plf c9).toInt.toNat).2.1 2) (hp_ge (hp_ol agf (hz_Rn odf szf gdf owf svf (hz_rc A plf) pof pdf psm pkf pst nw0.toInt n0.toInt.toNat) i1.toInt c0.toInt.toNat) c9)) ((hz_Rn odf szf gdf owf svf (hz_rc A plf) pof pdf psm pkf pst nw0.toInt n0.toInt.toNat) (hp_ge (hp_ol agf (hz_Rn odf szf gdf owf svf (hz_rc A plf) pof pdf psm pkf pst nw0.toInt n0.toInt.toNat) i1.toInt c0.toInt.toNat) c9))) (fun c9 => (hz_Rn odf szf gdf owf svf (hz_rc A plf) pof pdf psm pkf pst nw0.toInt n0.toInt.toNat) (hp_ge (hp_ol agf (hz_Rn odf szf gdf owf svf (hz_rc A plf) pof pdf psm pkf pst nw0.toInt n0.toInt.toNat) i1.toInt c0.toInt.toNat) c9)) i2.toInt ((eaf i1.toInt.toNat).toInt - (A (hv_IF A nw0.toInt a0.toInt.toNat)).2.1 3 * (hdf i1.toInt.toNat).toInt) r.toInt td0.toInt td1.toInt clf clf1 wlf wlf1 wsf wsf1)) ∧ hx_T T_tb u.1 u.2 ∧ hx_S T_tb [(10, 67), (10, 68), (10, 69), (10, 70), (10, 71), (10, 72), (10, 75), (100, 0), (101, 0), (102, 0), (103, 0), (104, 0), (105, 0), (106, 0), (107, 0)] L h u.1 u.2) (hx_E T_tb (P_ty dA) (dC, dI) vwCl (hx_A L sz)) (hx_A L sz)) ([.ref x, .int i1, .int i2] : List Value).toArray s 0 0 (hx_A L sz)) (F0 m 372 ls []) := by
                                  intro n372
                                  induction n372 with
                                  | zero => intro iv372_10 ia372_zmo H locs hL1 hl1 bliv372_10 buiv372_10 vi372_0 vi372_1 vi372_2 vi372_3 ls hn372; exfalso; omega
                                  | succ n372 ih372 =>
                                    intro iv372_10 ia372_zmo H locs hL1 hl1 bliv372_10 buiv372_10 vi372_0 vi372_1 vi372_2 vi372_3 ls hn372 hW hT hM f_x_72 ffw27_x_75 nia372_zmo af_zpc af_zpw af_zpk nia27_zfo nia27_zre nia27_zle nia204_zbm hl
                                    refine lv_iload hx hb dX10_plan_372 (lv_at hl 0 rfl) ?_
                                    refine hb_if_lt (zx := iv372_10.toInt) (tgt := 403) hx hb rfl dX10_plan_374 (by decide) (fun c_107 => ?_) (fun c_107 => ?_)
                                    · skip
                                      refine lv_iload hx hb dX10_plan_403 (lv_at hl 0 rfl) ?_
                                      refine hb_if_lt (zx := iv372_10.toInt) (tgt := 412) hx hb rfl dX10_plan_405 (by decide) (fun c_108 => ?_) (fun c_108 => by exfalso; omega)
                                      refine lv_iconst (v := 0) hx hb dX10_plan_412 (by decide) ?_
                                      refine lv_istore (lv' := [(6, .int (0 : Int32)), (10, .int iv372_10), (9, .int iv221_9), (8, .int iv221_8), (7, .int iv221_7), (5, .int iv204_5), (4, .int iv204_4), (3, .int r_27), (0, .ref x), (1, .int i1), (2, .int i2)]) hx hb dX10_plan_413 hl (by decide) rfl (fun ls hl => ?_)
                                      refine lv_iload hx hb dX10_plan_415 (lv_at hl 0 rfl) ?_
                                      refine hb_if_eq (zx := 0) (tgt := 431) hx hb (by decide) dX10_plan_417 (by decide) (fun c_109 => ?_) (fun c_109 => absurd c_109 (by decide))
                                      have hm12 : hx_m12 ia372_zmo := (fun k hk => by have q := hT.ei (gzmo.S hM) tt_105 (k := k) hk; rw [nia372_zmo] at q; exact q)
                                      have hvb := hx_V_b hm12
                                      refine lv_goto (tgt := 204) hx hb dX10_plan_431 (by decide) ?_
                                      have zk_0 : (0 : Int32).toInt = 0 := by decide
                                      exact ih204 iv204_4 iv204_5 (0 : Int32) ia372_zmo ia204_zbm _ _ hL1 hl1 (i32_r _).1 (i32_r _).2 (i32_r _).1 (i32_r _).2 (by decide) (by decide) (hp_OD_n hSM9 (hq_o hkl9) (fun j hj => vi372_2 j (by omega) hj) (by decide)) hm12 ls (by omega) hW hT hM f_x_72 ffw27_x_75 nia372_zmo nia204_zbm af_zpc af_zpw af_zpk nia27_zfo nia27_zre nia27_zle (lv_sub hl [0, 5, 6, 7, 8, 9, 10] rfl)
                                    · skip
                                      refine lv_aload_n hx hb dX10_plan_377 rfl (lv_at hl 8 rfl) ?_
                                      refine hk_getr hx hb hts hC_10 hown hW (gx.S hM) tt_10 79 (by decide) rfl kw_1222 ⟨rfl, rfl, rfl⟩ ((hM.o gx trivial rfl).2.trans f_x_79) dX10_plan_378 ?_
                                      refine lv_iload hx hb dX10_plan_381 (lv_at hl 0 rfl) ?_
                                      refine hx_iald hx hb hW hT (gzmo.S hM) tt_105 rfl ⟨by omega, by omega⟩ dX10_plan_383 (fun x_110 ex_110 lx_110 ux_110 => ?_)
                                      have ax_110 : x_110 = ia372_zmo iv372_10.toNatClampNeg := ex_110.trans (congrFun nia372_zmo _)
                                      refine lv_bipush (v := 12) hx hb dX10_plan_384 (by decide) ?_
                                      refine hb_icmp_ne (zx := x_110.toInt) (zy := 12) (tgt := 403) hx hb rfl (by decide) dX10_plan_386 (by decide) (fun c_111 => ?_) (fun c_111 => ?_)
                                      · skip
                                        replace c_111 : x_110.toInt ≤ 11 := by omega
                                        refine lv_iload hx hb dX10_plan_403 (lv_at hl 0 rfl) ?_
                                        refine hb_if_lt (zx := iv372_10.toInt) (tgt := 412) hx hb rfl dX10_plan_405 (by decide) (fun c_112 => by exfalso; omega) (fun c_112 => ?_)
                                        refine lv_iconst (v := 1) hx hb dX10_plan_408 (by decide) ?_
                                        refine lv_goto (tgt := 413) hx hb dX10_plan_409 (by decide) ?_
                                        refine lv_istore (lv' := [(6, .int (1 : Int32)), (10, .int iv372_10), (9, .int iv221_9), (8, .int iv221_8), (7, .int iv221_7), (5, .int iv204_5), (4, .int iv204_4), (3, .int r_27), (0, .ref x), (1, .int i1), (2, .int i2)]) hx hb dX10_plan_413 hl (by decide) rfl (fun ls hl => ?_)
                                        refine lv_iload hx hb dX10_plan_415 (lv_at hl 0 rfl) ?_
                                        refine hb_if_eq (zx := 1) (tgt := 431) hx hb (by decide) dX10_plan_417 (by decide) (fun c_113 => absurd c_113 (by decide)) (fun c_113 => ?_)
                                        refine lv_aload_n hx hb dX10_plan_420 rfl (lv_at hl 8 rfl) ?_
                                        refine hk_getr hx hb hts hC_10 hown hW (gx.S hM) tt_10 79 (by decide) rfl kw_1222 ⟨rfl, rfl, rfl⟩ ((hM.o gx trivial rfl).2.trans f_x_79) dX10_plan_421 ?_
                                        refine lv_iload hx hb dX10_plan_424 (lv_at hl 1 rfl) ?_
                                        refine lv_dup2_11 hx hb dX10_plan_426 rfl rfl ?_
                                        refine hx_iald hx hb hW hT (gzmo.S hM) tt_105 rfl ⟨by omega, by omega⟩ dX10_plan_427 (fun x_114 ex_114 lx_114 ux_114 => ?_)
                                        have ax_114 : x_114 = ia372_zmo iv372_10.toNatClampNeg := ex_114.trans (congrFun nia372_zmo _)
                                        obtain rfl : x_110 = x_114 := ex_110.trans ex_114.symm
                                        refine lv_iconst (v := 1) hx hb dX10_plan_428 (by decide) ?_
                                        refine lv_iadd hx hb dX10_plan_429 ?_
                                        have rg_115 := i32_r x_110
                                        refine lv_topi (fun x_116 ex_116 => ?_)
                                        have zx_116 : x_116.toInt = x_110.toInt + 1 := by rw [ex_116]; exact i32_add rfl (by decide) (by omega) (by omega)
                                        have nia372_zmoO := nia372_zmo
                                        refine hx_iast hx hb hW hT (hx_S.rf (M := [(105, 0)])) (gzmo.S hM) tt_105 rfl ⟨by omega, by omega⟩ rfl ⟨by omega, by omega⟩ (List.mem_singleton.mpr rfl) dX10_plan_430 (fun H locs h_117 eh_117 hW hT hs => ?_)
                                        replace f_x_72 := (hs.o (gx.S hM) trivial rfl).1.trans f_x_72
                                        replace ffw27_x_75 := (hs.o (gx.S hM) trivial rfl).1.trans ffw27_x_75
                                        replace af_zpc : h_117.2.1 zpc = clf := (funext fun j => (hs.a (gzpc.S hM) rfl j).1).trans af_zpc
                                        replace af_zpw : h_117.2.1 zpw = wlf := (funext fun j => (hs.a (gzpw.S hM) rfl j).1).trans af_zpw
                                        replace af_zpk : h_117.2.1 zpk = wsf := (funext fun j => (hs.a (gzpk.S hM) rfl j).1).trans af_zpk
                                        replace nia27_zfo : h_117.2.1 zfo = ia27_zfo := (funext fun j => (hs.a (gzfo.S hM) rfl j).1).trans nia27_zfo
                                        replace nia27_zre : h_117.2.1 zre = ia27_zre := (funext fun j => (hs.a (gzre.S hM) rfl j).1).trans nia27_zre
                                        replace nia27_zle : h_117.2.1 zle = ia27_zle := (funext fun j => (hs.a (gzle.S hM) rfl j).1).trans nia27_zle
                                        replace nia204_zbm : h_117.2.1 zbm = ia204_zbm := (funext fun j => (hs.a (gzbm.S hM) rfl j).1).trans nia204_zbm
                                        replace hM := hM.tr (hs.mono (by decide))
                                        obtain ⟨fa_118, dfa_118⟩ : ∃ g : Nat → Int32, g = hx_up ia372_zmo iv372_10.toNatClampNeg x_116 := ⟨_, rfl⟩
                                        have nfa_118 : h_117.2.1 zmo = fa_118 := by rw [eh_117, dfa_118, ← nia372_zmoO]; exact hx_pi_fun _ _ _ _
                                        have hvq := (hx_V_up (by omega) (by omega) ax_110 dfa_118).2 (by omega)
                                        have hwq := hx_w_b (i := (fw27_x_75.toInt - 1 : Int))
                                        have hm12 : hx_m12 fa_118 := (fun k hk => by have q := hT.ei (gzmo.S hM) tt_105 (k := k) hk; rw [nfa_118] at q; exact q)
                                        have hvb := hx_V_b hm12
                                        refine lv_goto (tgt := 204) hx hb dX10_plan_431 (by decide) ?_
                                        have zk_1 : (1 : Int32).toInt = 1 := by decide
                                        exact ih204 iv204_4 iv204_5 (1 : Int32) fa_118 ia204_zbm _ _ hL1 h_117 (i32_r _).1 (i32_r _).2 (i32_r _).1 (i32_r _).2 (by decide) (by decide) (hp_OD_y (i := iv372_10.toInt.toNat) hSM9 (hq_o hkl9) (by omega) (fun j h1 h2 => vi372_2 j (by omega) h2) (fun z9 => by have h9 := vi372_1 iv372_10.toInt.toNat (by omega); rw [if_pos (by omega), z9, show ia372_zmo iv372_10.toInt.toNat = x_110 from ax_110.symm] at h9; omega) (hp_E_u (ix := iv372_10.toInt.toNat) vi372_1 (by omega) (by omega) (by omega) dfa_118 (by rw [show ia372_zmo iv372_10.toInt.toNat = x_110 from ax_110.symm]; omega)) (by decide)) hm12 ls (by omega) hW hT hM f_x_72 ffw27_x_75 nfa_118 nia204_zbm af_zpc af_zpw af_zpk nia27_zfo nia27_zre nia27_zle (lv_sub hl [0, 5, 6, 7, 8, 9, 10] rfl)
                                      · skip
                                        have hin9 : ((iv372_10.toInt.toNat : Nat) : Int) = iv372_10.toInt := Int.toNat_of_nonneg (by omega)
                                        refine lv_aload_n hx hb dX10_plan_389 rfl (lv_at hl 8 rfl) ?_
                                        refine hk_getr hx hb hts hC_10 hown hW (gx.S hM) tt_10 79 (by decide) rfl kw_1222 ⟨rfl, rfl, rfl⟩ ((hM.o gx trivial rfl).2.trans f_x_79) dX10_plan_390 ?_
                                        refine lv_iload hx hb dX10_plan_393 (lv_at hl 0 rfl) ?_
                                        refine lv_iconst (v := 0) hx hb dX10_plan_395 (by decide) ?_
                                        have nia372_zmoO := nia372_zmo
                                        refine hx_iast hx hb hW hT (hx_S.rf (M := [(105, 0)])) (gzmo.S hM) tt_105 rfl ⟨by omega, by omega⟩ rfl (by decide) (List.mem_singleton.mpr rfl) dX10_plan_396 (fun H locs h_119 eh_119 hW hT hs => ?_)
                                        replace f_x_72 := (hs.o (gx.S hM) trivial rfl).1.trans f_x_72
                                        replace ffw27_x_75 := (hs.o (gx.S hM) trivial rfl).1.trans ffw27_x_75
                                        replace af_zpc : h_119.2.1 zpc = clf := (funext fun j => (hs.a (gzpc.S hM) rfl j).1).trans af_zpc
                                        replace af_zpw : h_119.2.1 zpw = wlf := (funext fun j => (hs.a (gzpw.S hM) rfl j).1).trans af_zpw
                                        replace af_zpk : h_119.2.1 zpk = wsf := (funext fun j => (hs.a (gzpk.S hM) rfl j).1).trans af_zpk
                                        replace nia27_zfo : h_119.2.1 zfo = ia27_zfo := (funext fun j => (hs.a (gzfo.S hM) rfl j).1).trans nia27_zfo
                                        replace nia27_zre : h_119.2.1 zre = ia27_zre := (funext fun j => (hs.a (gzre.S hM) rfl j).1).trans nia27_zre
                                        replace nia27_zle : h_119.2.1 zle = ia27_zle := (funext fun j => (hs.a (gzle.S hM) rfl j).1).trans nia27_zle
                                        replace nia204_zbm : h_119.2.1 zbm = ia204_zbm := (funext fun j => (hs.a (gzbm.S hM) rfl j).1).trans nia204_zbm
                                        replace hM := hM.tr (hs.mono (by decide))
                                        obtain ⟨fa_120, dfa_120⟩ : ∃ g : Nat → Int32, g = hx_up ia372_zmo iv372_10.toNatClampNeg (0 : Int32) := ⟨_, rfl⟩
                                        have nfa_120 : h_119.2.1 zmo = fa_120 := by rw [eh_119, dfa_120, ← nia372_zmoO]; exact hx_pi_fun _ _ _ _
                                        obtain ⟨x_121, ex_121⟩ : ∃ y : Int32, y = iv372_10 + Int32.ofInt (-1) := ⟨_, rfl⟩
                                        have rg_122 := i32_r iv372_10
                                        have zx_121 : x_121.toInt = iv372_10.toInt + (-1) := by rw [ex_121]; exact i32_add rfl (by decide) (by omega) (by omega)
                                        refine lv_iinc (v := x_121) (lv' := [(10, .int x_121), (9, .int iv221_9), (8, .int iv221_8), (7, .int iv221_7), (6, .int iv204_6), (5, .int iv204_5), (4, .int iv204_4), (3, .int r_27), (0, .ref x), (1, .int i1), (2, .int i2)]) hx hb dX10_plan_397 hl (k := 0) rfl ex_121.symm (by decide) rfl (fun ls hl => ?_)
                                        refine lv_goto (tgt := 372) hx hb dX10_plan_400 (by decide) ?_
                                        exact ih372 x_121 fa_120 _ _ hL1 h_119 (by omega) (by omega) (by have q := (hx_V_up (by omega) (by omega) ax_110 dfa_120).1 (by omega) (by decide); rw [show x_121.toInt = iv372_10.toInt - 1 from by omega]; omega) (hp_E_s vi372_1 vi372_2 (by omega) (by omega) (by unfold Int32.toNatClampNeg; omega) (by rw [show ia372_zmo iv372_10.toNatClampNeg = x_110 from ax_110.symm]; omega) dfa_120 zx_121).1 (hp_E_s vi372_1 vi372_2 (by omega) (by omega) (by unfold Int32.toNatClampNeg; omega) (by rw [show ia372_zmo iv372_10.toNatClampNeg = x_110 from ax_110.symm]; omega) dfa_120 zx_121).2 (by omega) ls (by omega) hW hT hM f_x_72 ffw27_x_75 nfa_120 af_zpc af_zpw af_zpk nia27_zfo nia27_zre nia27_zle nia204_zbm (lv_sub hl [0, 1, 2, 3, 4, 5, 6, 7, 8, 9, 10] rfl)
                                exact loop372 5 x_106 ia204_zmo _ _ hL1 hl1 (by omega) (by omega) (by rw [zx_106]) (fun j hj => by rw [if_pos (by omega)]; exact hdg9 j hj) (fun j h1 h2 => by exfalso; omega) (by omega) ls (by omega) hW hT hM f_x_72 ffw27_x_75 nia204_zmo af_zpc af_zpw af_zpk nia27_zfo nia27_zre nia27_zle nia204_zbm hl
                              · skip
                                refine lv_iload hx hb dX10_plan_317 (lv_at hl 1 rfl) ?_
                                refine lv_iload hx hb dX10_plan_319 (lv_at hl 5 rfl) ?_
                                refine hb_icmp_ge (zx := iv221_9.toInt) (zy := iv204_5.toInt) (tgt := 364) hx hb rfl rfl dX10_plan_321 (by decide) (fun c_123 => ?_) (fun c_123 => ?_)
                                · skip
                                  have hSM9 : hp_SM (hp_F (hp_f aF9 rF9 i2.toInt r_27.toInt fw27_x_75.toInt.toNat) 0 (k9 + 1) hp_s0) iv204_4.toInt iv204_5.toInt ia204_zbm fw27_x_75.toInt.toNat := hp_SM_s hs9 hdg9 ht9 hL9 hA9 (Or.inr ⟨by omega, rfl, rfl, rfl⟩)
                                  refine lv_aload_n hx hb dX10_plan_364 rfl (lv_at hl 8 rfl) ?_
                                  refine hk_geti hx hb hts hC_10 hown hW (gx.S hM) tt_10 75 (by decide) rfl kw_1218 ⟨rfl, rfl, rfl⟩ ffw27_x_75 dX10_plan_365 ?_
                                  refine lv_iconst (v := 1) hx hb dX10_plan_368 (by decide) ?_
                                  refine lv_isub hx hb dX10_plan_369 ?_
                                  have rg_124 := i32_r fw27_x_75
                                  refine lv_topi (fun x_125 ex_125 => ?_)
                                  have zx_125 : x_125.toInt = fw27_x_75.toInt - 1 := by rw [ex_125]; exact i32_sub rfl (by decide) (by omega) (by omega)
                                  refine lv_istore (lv' := [(10, .int x_125), (9, .int iv221_9), (8, .int iv221_8), (7, .int iv221_7), (6, .int iv204_6), (5, .int iv204_5), (4, .int iv204_4), (3, .int r_27), (0, .ref x), (1, .int i1), (2, .int i2)]) hx hb dX10_plan_370 hl (by decide) rfl (fun ls hl => ?_)
                                  have loop372 : ∀ (n372 : Nat) (iv372_10 : Int32) (ia372_zmo : Nat → Int32) (H : Heap) (locs : List Loc) (hL1 : List Nat) (hl1 : hx_h), -1 ≤ iv372_10.toInt → iv372_10.toInt ≤ 3 → (hx_V ia372_zmo + hx_w iv372_10.toInt = hx_V ia204_zmo + hx_w (fw27_x_75.toInt - 1)) → (∀ j : Nat, j < fw27_x_75.toInt.toNat → (ia372_zmo j).toInt = (if (j : Int) ≤ iv372_10.toInt then hp_dg fw27_x_75.toInt.toNat k9 j else 0)) → (∀ j : Nat, iv372_10.toInt < (j : Int) → j < fw27_x_75.toInt.toNat → hp_dg fw27_x_75.toInt.toNat k9 j = 12) → (iv372_10.toInt < fw27_x_75.toInt) → ∀ (ls : Array Slot), iv372_10.toInt + 1 < (n372 : Int) → hx_W T_tb (P_ty dA) (dC, dI) vwCl (hx_A L sz) s.heap hL1 hl1 s H locs → hx_T T_tb hL1 hl1 → hx_S T_tb [(10, 67), (10, 68), (10, 69), (10, 70), (10, 71), (10, 72), (10, 75), (100, 0), (101, 0), (102, 0), (103, 0), (104, 0), (105, 0), (106, 0), (107, 0)] L h hL1 hl1 → hl1.2.1 x 72 = td0 → hl1.2.1 x 75 = fw27_x_75 → hl1.2.1 zmo = ia372_zmo → hl1.2.1 zpc = clf → hl1.2.1 zpw = wlf → hl1.2.1 zpk = wsf → hl1.2.1 zfo = ia27_zfo → hl1.2.1 zre = ia27_zre → hl1.2.1 zle = ia27_zle → hl1.2.1 zbm = ia204_zbm → lv_has ls 12 [(10, .int iv372_10), (9, .int iv221_9), (8, .int iv221_8), (7, .int iv221_7), (6, .int iv204_6), (5, .int iv204_5), (4, .int iv204_4), (3, .int r_27), (0, .ref x), (1, .int i1), (2, .int i2)] → W p l e ({ frames := 3, cells := 0, slots := 0, locals := 71 }) s m ([.ref x, .int i1, .int i2] : List Value).toArray below meth c H locs 0 0 (MQ below (va_Qi (fun (r : Int32) (u : List Nat × hx_h) => (∃ (td1 : Int32) (clf1 : Nat → Int32) (wlf1 : Nat → Int32) (wsf1 : Nat → Int32), u.2.2.1 x 72 = td1 ∧ u.2.2.1 zpc = clf1 ∧ u.2.2.1 zpw = wlf1 ∧ u.2.2.1 zpk = wsf1 ∧ (hp_PS ((0 ≤ i1.toInt ∧ i1.toInt < pn0.toInt) ∧ 1 ≤ i2.toInt ∧ i2.toInt ≤ 99) (hp_ol agf (hz_Rn odf szf gdf owf svf (hz_rc A plf) pof pdf psm pkf pst nw0.toInt n0.toInt.toNat) i1.toInt c0.toInt.toNat).length (hp_ge (hp_ol agf (hz_Rn odf szf gdf owf svf (hz_rc A plf) pof pdf psm pkf pst nw0.toInt n0.toInt.toNat) i1.toInt c0.toInt.toNat)) (fun c9 => hz_mi ((fun c9 => (A (plf c9).toInt.toNat).2.1 2) (hp_ge (hp_ol agf (hz_Rn odf szf gdf owf svf (hz_rc A plf) pof pdf psm pkf pst nw0.toInt n0.toInt.toNat) i1.toInt c0.toInt.toNat) c9)) ((hz_Rn odf szf gdf owf svf (hz_rc A plf) pof pdf psm pkf pst nw0.toInt n0.toInt.toNat) (hp_ge (hp_ol agf (hz_Rn odf szf gdf owf svf (hz_rc A plf) pof pdf psm pkf pst nw0.toInt n0.toInt.toNat) i1.toInt c0.toInt.toNat) c9))) (fun c9 => (hz_Rn odf szf gdf owf svf (hz_rc A plf) pof pdf psm pkf pst nw0.toInt n0.toInt.toNat) (hp_ge (hp_ol agf (hz_Rn odf szf gdf owf svf (hz_rc A plf) pof pdf psm pkf pst nw0.toInt n0.toInt.toNat) i1.toInt c0.toInt.toNat) c9)) i2.toInt ((eaf i1.toInt.toNat).toInt - (A (hv_IF A nw0.toInt a0.toInt.toNat)).2.1 3 * (hdf i1.toInt.toNat).toInt) r.toInt td0.toInt td1.toInt clf clf1 wlf wlf1 wsf wsf1)) ∧ hx_T T_tb u.1 u.2 ∧ hx_S T_tb [(10, 67), (10, 68), (10, 69), (10, 70), (10, 71), (10, 72), (10, 75), (100, 0), (101, 0), (102, 0), (103, 0), (104, 0), (105, 0), (106, 0), (107, 0)] L h u.1 u.2) (hx_E T_tb (P_ty dA) (dC, dI) vwCl (hx_A L sz)) (hx_A L sz)) ([.ref x, .int i1, .int i2] : List Value).toArray s 0 0 (hx_A L sz)) (F0 m 372 ls []) := by
                                    intro n372
                                    induction n372 with
                                    | zero => intro iv372_10 ia372_zmo H locs hL1 hl1 bliv372_10 buiv372_10 vi372_0 vi372_1 vi372_2 vi372_3 ls hn372; exfalso; omega
                                    | succ n372 ih372 =>
                                      intro iv372_10 ia372_zmo H locs hL1 hl1 bliv372_10 buiv372_10 vi372_0 vi372_1 vi372_2 vi372_3 ls hn372 hW hT hM f_x_72 ffw27_x_75 nia372_zmo af_zpc af_zpw af_zpk nia27_zfo nia27_zre nia27_zle nia204_zbm hl
                                      refine lv_iload hx hb dX10_plan_372 (lv_at hl 0 rfl) ?_
                                      refine hb_if_lt (zx := iv372_10.toInt) (tgt := 403) hx hb rfl dX10_plan_374 (by decide) (fun c_126 => ?_) (fun c_126 => ?_)
                                      · skip
                                        refine lv_iload hx hb dX10_plan_403 (lv_at hl 0 rfl) ?_
                                        refine hb_if_lt (zx := iv372_10.toInt) (tgt := 412) hx hb rfl dX10_plan_405 (by decide) (fun c_127 => ?_) (fun c_127 => by exfalso; omega)
                                        refine lv_iconst (v := 0) hx hb dX10_plan_412 (by decide) ?_
                                        refine lv_istore (lv' := [(6, .int (0 : Int32)), (10, .int iv372_10), (9, .int iv221_9), (8, .int iv221_8), (7, .int iv221_7), (5, .int iv204_5), (4, .int iv204_4), (3, .int r_27), (0, .ref x), (1, .int i1), (2, .int i2)]) hx hb dX10_plan_413 hl (by decide) rfl (fun ls hl => ?_)
                                        refine lv_iload hx hb dX10_plan_415 (lv_at hl 0 rfl) ?_
                                        refine hb_if_eq (zx := 0) (tgt := 431) hx hb (by decide) dX10_plan_417 (by decide) (fun c_128 => ?_) (fun c_128 => absurd c_128 (by decide))
                                        have hm12 : hx_m12 ia372_zmo := (fun k hk => by have q := hT.ei (gzmo.S hM) tt_105 (k := k) hk; rw [nia372_zmo] at q; exact q)
                                        have hvb := hx_V_b hm12
                                        refine lv_goto (tgt := 204) hx hb dX10_plan_431 (by decide) ?_
                                        have zk_0 : (0 : Int32).toInt = 0 := by decide
                                        exact ih204 iv204_4 iv204_5 (0 : Int32) ia372_zmo ia204_zbm _ _ hL1 hl1 (i32_r _).1 (i32_r _).2 (i32_r _).1 (i32_r _).2 (by decide) (by decide) (hp_OD_n hSM9 (hq_o hkl9) (fun j hj => vi372_2 j (by omega) hj) (by decide)) hm12 ls (by omega) hW hT hM f_x_72 ffw27_x_75 nia372_zmo nia204_zbm af_zpc af_zpw af_zpk nia27_zfo nia27_zre nia27_zle (lv_sub hl [0, 5, 6, 7, 8, 9, 10] rfl)
                                      · skip
                                        refine lv_aload_n hx hb dX10_plan_377 rfl (lv_at hl 8 rfl) ?_
                                        refine hk_getr hx hb hts hC_10 hown hW (gx.S hM) tt_10 79 (by decide) rfl kw_1222 ⟨rfl, rfl, rfl⟩ ((hM.o gx trivial rfl).2.trans f_x_79) dX10_plan_378 ?_
                                        refine lv_iload hx hb dX10_plan_381 (lv_at hl 0 rfl) ?_
                                        refine hx_iald hx hb hW hT (gzmo.S hM) tt_105 rfl ⟨by omega, by omega⟩ dX10_plan_383 (fun x_129 ex_129 lx_129 ux_129 => ?_)
                                        have ax_129 : x_129 = ia372_zmo iv372_10.toNatClampNeg := ex_129.trans (congrFun nia372_zmo _)
                                        refine lv_bipush (v := 12) hx hb dX10_plan_384 (by decide) ?_
                                        refine hb_icmp_ne (zx := x_129.toInt) (zy := 12) (tgt := 403) hx hb rfl (by decide) dX10_plan_386 (by decide) (fun c_130 => ?_) (fun c_130 => ?_)
                                        · skip
                                          replace c_130 : x_129.toInt ≤ 11 := by omega
                                          refine lv_iload hx hb dX10_plan_403 (lv_at hl 0 rfl) ?_
                                          refine hb_if_lt (zx := iv372_10.toInt) (tgt := 412) hx hb rfl dX10_plan_405 (by decide) (fun c_131 => by exfalso; omega) (fun c_131 => ?_)
                                          refine lv_iconst (v := 1) hx hb dX10_plan_408 (by decide) ?_
                                          refine lv_goto (tgt := 413) hx hb dX10_plan_409 (by decide) ?_
                                          refine lv_istore (lv' := [(6, .int (1 : Int32)), (10, .int iv372_10), (9, .int iv221_9), (8, .int iv221_8), (7, .int iv221_7), (5, .int iv204_5), (4, .int iv204_4), (3, .int r_27), (0, .ref x), (1, .int i1), (2, .int i2)]) hx hb dX10_plan_413 hl (by decide) rfl (fun ls hl => ?_)
                                          refine lv_iload hx hb dX10_plan_415 (lv_at hl 0 rfl) ?_
                                          refine hb_if_eq (zx := 1) (tgt := 431) hx hb (by decide) dX10_plan_417 (by decide) (fun c_132 => absurd c_132 (by decide)) (fun c_132 => ?_)
                                          refine lv_aload_n hx hb dX10_plan_420 rfl (lv_at hl 8 rfl) ?_
                                          refine hk_getr hx hb hts hC_10 hown hW (gx.S hM) tt_10 79 (by decide) rfl kw_1222 ⟨rfl, rfl, rfl⟩ ((hM.o gx trivial rfl).2.trans f_x_79) dX10_plan_421 ?_
                                          refine lv_iload hx hb dX10_plan_424 (lv_at hl 1 rfl) ?_
                                          refine lv_dup2_11 hx hb dX10_plan_426 rfl rfl ?_
                                          refine hx_iald hx hb hW hT (gzmo.S hM) tt_105 rfl ⟨by omega, by omega⟩ dX10_plan_427 (fun x_133 ex_133 lx_133 ux_133 => ?_)
                                          have ax_133 : x_133 = ia372_zmo iv372_10.toNatClampNeg := ex_133.trans (congrFun nia372_zmo _)
                                          obtain rfl : x_129 = x_133 := ex_129.trans ex_133.symm
                                          refine lv_iconst (v := 1) hx hb dX10_plan_428 (by decide) ?_
                                          refine lv_iadd hx hb dX10_plan_429 ?_
                                          have rg_134 := i32_r x_129
                                          refine lv_topi (fun x_135 ex_135 => ?_)
                                          have zx_135 : x_135.toInt = x_129.toInt + 1 := by rw [ex_135]; exact i32_add rfl (by decide) (by omega) (by omega)
                                          have nia372_zmoO := nia372_zmo
                                          refine hx_iast hx hb hW hT (hx_S.rf (M := [(105, 0)])) (gzmo.S hM) tt_105 rfl ⟨by omega, by omega⟩ rfl ⟨by omega, by omega⟩ (List.mem_singleton.mpr rfl) dX10_plan_430 (fun H locs h_136 eh_136 hW hT hs => ?_)
                                          replace f_x_72 := (hs.o (gx.S hM) trivial rfl).1.trans f_x_72
                                          replace ffw27_x_75 := (hs.o (gx.S hM) trivial rfl).1.trans ffw27_x_75
                                          replace af_zpc : h_136.2.1 zpc = clf := (funext fun j => (hs.a (gzpc.S hM) rfl j).1).trans af_zpc
                                          replace af_zpw : h_136.2.1 zpw = wlf := (funext fun j => (hs.a (gzpw.S hM) rfl j).1).trans af_zpw
                                          replace af_zpk : h_136.2.1 zpk = wsf := (funext fun j => (hs.a (gzpk.S hM) rfl j).1).trans af_zpk
                                          replace nia27_zfo : h_136.2.1 zfo = ia27_zfo := (funext fun j => (hs.a (gzfo.S hM) rfl j).1).trans nia27_zfo
                                          replace nia27_zre : h_136.2.1 zre = ia27_zre := (funext fun j => (hs.a (gzre.S hM) rfl j).1).trans nia27_zre
                                          replace nia27_zle : h_136.2.1 zle = ia27_zle := (funext fun j => (hs.a (gzle.S hM) rfl j).1).trans nia27_zle
                                          replace nia204_zbm : h_136.2.1 zbm = ia204_zbm := (funext fun j => (hs.a (gzbm.S hM) rfl j).1).trans nia204_zbm
                                          replace hM := hM.tr (hs.mono (by decide))
                                          obtain ⟨fa_137, dfa_137⟩ : ∃ g : Nat → Int32, g = hx_up ia372_zmo iv372_10.toNatClampNeg x_135 := ⟨_, rfl⟩
                                          have nfa_137 : h_136.2.1 zmo = fa_137 := by rw [eh_136, dfa_137, ← nia372_zmoO]; exact hx_pi_fun _ _ _ _
                                          have hvq := (hx_V_up (by omega) (by omega) ax_129 dfa_137).2 (by omega)
                                          have hwq := hx_w_b (i := (fw27_x_75.toInt - 1 : Int))
                                          have hm12 : hx_m12 fa_137 := (fun k hk => by have q := hT.ei (gzmo.S hM) tt_105 (k := k) hk; rw [nfa_137] at q; exact q)
                                          have hvb := hx_V_b hm12
                                          refine lv_goto (tgt := 204) hx hb dX10_plan_431 (by decide) ?_
                                          have zk_1 : (1 : Int32).toInt = 1 := by decide
                                          exact ih204 iv204_4 iv204_5 (1 : Int32) fa_137 ia204_zbm _ _ hL1 h_136 (i32_r _).1 (i32_r _).2 (i32_r _).1 (i32_r _).2 (by decide) (by decide) (hp_OD_y (i := iv372_10.toInt.toNat) hSM9 (hq_o hkl9) (by omega) (fun j h1 h2 => vi372_2 j (by omega) h2) (fun z9 => by have h9 := vi372_1 iv372_10.toInt.toNat (by omega); rw [if_pos (by omega), z9, show ia372_zmo iv372_10.toInt.toNat = x_129 from ax_129.symm] at h9; omega) (hp_E_u (ix := iv372_10.toInt.toNat) vi372_1 (by omega) (by omega) (by omega) dfa_137 (by rw [show ia372_zmo iv372_10.toInt.toNat = x_129 from ax_129.symm]; omega)) (by decide)) hm12 ls (by omega) hW hT hM f_x_72 ffw27_x_75 nfa_137 nia204_zbm af_zpc af_zpw af_zpk nia27_zfo nia27_zre nia27_zle (lv_sub hl [0, 5, 6, 7, 8, 9, 10] rfl)
                                        · skip
                                          have hin9 : ((iv372_10.toInt.toNat : Nat) : Int) = iv372_10.toInt := Int.toNat_of_nonneg (by omega)
                                          refine lv_aload_n hx hb dX10_plan_389 rfl (lv_at hl 8 rfl) ?_
                                          refine hk_getr hx hb hts hC_10 hown hW (gx.S hM) tt_10 79 (by decide) rfl kw_1222 ⟨rfl, rfl, rfl⟩ ((hM.o gx trivial rfl).2.trans f_x_79) dX10_plan_390 ?_
                                          refine lv_iload hx hb dX10_plan_393 (lv_at hl 0 rfl) ?_
                                          refine lv_iconst (v := 0) hx hb dX10_plan_395 (by decide) ?_
                                          have nia372_zmoO := nia372_zmo
                                          refine hx_iast hx hb hW hT (hx_S.rf (M := [(105, 0)])) (gzmo.S hM) tt_105 rfl ⟨by omega, by omega⟩ rfl (by decide) (List.mem_singleton.mpr rfl) dX10_plan_396 (fun H locs h_138 eh_138 hW hT hs => ?_)
                                          replace f_x_72 := (hs.o (gx.S hM) trivial rfl).1.trans f_x_72
                                          replace ffw27_x_75 := (hs.o (gx.S hM) trivial rfl).1.trans ffw27_x_75
                                          replace af_zpc : h_138.2.1 zpc = clf := (funext fun j => (hs.a (gzpc.S hM) rfl j).1).trans af_zpc
                                          replace af_zpw : h_138.2.1 zpw = wlf := (funext fun j => (hs.a (gzpw.S hM) rfl j).1).trans af_zpw
                                          replace af_zpk : h_138.2.1 zpk = wsf := (funext fun j => (hs.a (gzpk.S hM) rfl j).1).trans af_zpk
                                          replace nia27_zfo : h_138.2.1 zfo = ia27_zfo := (funext fun j => (hs.a (gzfo.S hM) rfl j).1).trans nia27_zfo
                                          replace nia27_zre : h_138.2.1 zre = ia27_zre := (funext fun j => (hs.a (gzre.S hM) rfl j).1).trans nia27_zre
                                          replace nia27_zle : h_138.2.1 zle = ia27_zle := (funext fun j => (hs.a (gzle.S hM) rfl j).1).trans nia27_zle
                                          replace nia204_zbm : h_138.2.1 zbm = ia204_zbm := (funext fun j => (hs.a (gzbm.S hM) rfl j).1).trans nia204_zbm
                                          replace hM := hM.tr (hs.mono (by decide))
                                          obtain ⟨fa_139, dfa_139⟩ : ∃ g : Nat → Int32, g = hx_up ia372_zmo iv372_10.toNatClampNeg (0 : Int32) := ⟨_, rfl⟩
                                          have nfa_139 : h_138.2.1 zmo = fa_139 := by rw [eh_138, dfa_139, ← nia372_zmoO]; exact hx_pi_fun _ _ _ _
                                          obtain ⟨x_140, ex_140⟩ : ∃ y : Int32, y = iv372_10 + Int32.ofInt (-1) := ⟨_, rfl⟩
                                          have rg_141 := i32_r iv372_10
                                          have zx_140 : x_140.toInt = iv372_10.toInt + (-1) := by rw [ex_140]; exact i32_add rfl (by decide) (by omega) (by omega)
                                          refine lv_iinc (v := x_140) (lv' := [(10, .int x_140), (9, .int iv221_9), (8, .int iv221_8), (7, .int iv221_7), (6, .int iv204_6), (5, .int iv204_5), (4, .int iv204_4), (3, .int r_27), (0, .ref x), (1, .int i1), (2, .int i2)]) hx hb dX10_plan_397 hl (k := 0) rfl ex_140.symm (by decide) rfl (fun ls hl => ?_)
                                          refine lv_goto (tgt := 372) hx hb dX10_plan_400 (by decide) ?_
                                          exact ih372 x_140 fa_139 _ _ hL1 h_138 (by omega) (by omega) (by have q := (hx_V_up (by omega) (by omega) ax_129 dfa_139).1 (by omega) (by decide); rw [show x_140.toInt = iv372_10.toInt - 1 from by omega]; omega) (hp_E_s vi372_1 vi372_2 (by omega) (by omega) (by unfold Int32.toNatClampNeg; omega) (by rw [show ia372_zmo iv372_10.toNatClampNeg = x_129 from ax_129.symm]; omega) dfa_139 zx_140).1 (hp_E_s vi372_1 vi372_2 (by omega) (by omega) (by unfold Int32.toNatClampNeg; omega) (by rw [show ia372_zmo iv372_10.toNatClampNeg = x_129 from ax_129.symm]; omega) dfa_139 zx_140).2 (by omega) ls (by omega) hW hT hM f_x_72 ffw27_x_75 nfa_139 af_zpc af_zpw af_zpk nia27_zfo nia27_zre nia27_zle nia204_zbm (lv_sub hl [0, 1, 2, 3, 4, 5, 6, 7, 8, 9, 10] rfl)
                                  exact loop372 5 x_125 ia204_zmo _ _ hL1 hl1 (by omega) (by omega) (by rw [zx_125]) (fun j hj => by rw [if_pos (by omega)]; exact hdg9 j hj) (fun j h1 h2 => by exfalso; omega) (by omega) ls (by omega) hW hT hM f_x_72 ffw27_x_75 nia204_zmo af_zpc af_zpw af_zpk nia27_zfo nia27_zre nia27_zle nia204_zbm hl
                                · skip
                                  refine lv_iload hx hb dX10_plan_324 (lv_at hl 2 rfl) ?_
                                  refine lv_istore (lv' := [(4, .int iv221_8), (10, .int iv221_10), (9, .int iv221_9), (8, .int iv221_8), (7, .int iv221_7), (6, .int iv204_6), (5, .int iv204_5), (3, .int r_27), (0, .ref x), (1, .int i1), (2, .int i2)]) hx hb dX10_plan_326 hl (by decide) rfl (fun ls hl => ?_)
                                  refine lv_iload hx hb dX10_plan_328 (lv_at hl 2 rfl) ?_
                                  refine lv_istore (lv' := [(5, .int iv221_9), (4, .int iv221_8), (10, .int iv221_10), (9, .int iv221_9), (8, .int iv221_8), (7, .int iv221_7), (6, .int iv204_6), (3, .int r_27), (0, .ref x), (1, .int i1), (2, .int i2)]) hx hb dX10_plan_330 hl (by decide) rfl (fun ls hl => ?_)
                                  refine lv_iconst (v := 0) hx hb dX10_plan_332 (by decide) ?_
                                  refine lv_istore (lv' := [(10, .int (0 : Int32)), (5, .int iv221_9), (4, .int iv221_8), (9, .int iv221_9), (8, .int iv221_8), (7, .int iv221_7), (6, .int iv204_6), (3, .int r_27), (0, .ref x), (1, .int i1), (2, .int i2)]) hx hb dX10_plan_333 hl (by decide) rfl (fun ls hl => ?_)
                                  have loop335 : ∀ (n335 : Nat) (iv335_10 : Int32) (ia335_zbm : Nat → Int32) (H : Heap) (locs : List Loc) (hL1 : List Nat) (hl1 : hx_h), 0 ≤ iv335_10.toInt → iv335_10.toInt ≤ 4 → (∀ k : Nat, (k : Int) < iv335_10.toInt → ia335_zbm k = ia204_zmo k) → (iv335_10.toInt ≤ fw27_x_75.toInt) → ∀ (ls : Array Slot), 4 - iv335_10.toInt < (n335 : Int) → hx_W T_tb (P_ty dA) (dC, dI) vwCl (hx_A L sz) s.heap hL1 hl1 s H locs → hx_T T_tb hL1 hl1 → hx_S T_tb [(10, 67), (10, 68), (10, 69), (10, 70), (10, 71), (10, 72), (10, 75), (100, 0), (101, 0), (102, 0), (103, 0), (104, 0), (105, 0), (106, 0), (107, 0)] L h hL1 hl1 → hl1.2.1 x 72 = td0 → hl1.2.1 x 75 = fw27_x_75 → hl1.2.1 zbm = ia335_zbm → hl1.2.1 zpc = clf → hl1.2.1 zpw = wlf → hl1.2.1 zpk = wsf → hl1.2.1 zfo = ia27_zfo → hl1.2.1 zre = ia27_zre → hl1.2.1 zle = ia27_zle → hl1.2.1 zmo = ia204_zmo → lv_has ls 12 [(10, .int iv335_10), (5, .int iv221_9), (4, .int iv221_8), (9, .int iv221_9), (8, .int iv221_8), (7, .int iv221_7), (6, .int iv204_6), (3, .int r_27), (0, .ref x), (1, .int i1), (2, .int i2)] → W p l e ({ frames := 3, cells := 0, slots := 0, locals := 71 }) s m ([.ref x, .int i1, .int i2] : List Value).toArray below meth c H locs 0 0 (MQ below (va_Qi (fun (r : Int32) (u : List Nat × hx_h) => (∃ (td1 : Int32) (clf1 : Nat → Int32) (wlf1 : Nat → Int32) (wsf1 : Nat → Int32), u.2.2.1 x 72 = td1 ∧ u.2.2.1 zpc = clf1 ∧ u.2.2.1 zpw = wlf1 ∧ u.2.2.1 zpk = wsf1 ∧ (hp_PS ((0 ≤ i1.toInt ∧ i1.toInt < pn0.toInt) ∧ 1 ≤ i2.toInt ∧ i2.toInt ≤ 99) (hp_ol agf (hz_Rn odf szf gdf owf svf (hz_rc A plf) pof pdf psm pkf pst nw0.toInt n0.toInt.toNat) i1.toInt c0.toInt.toNat).length (hp_ge (hp_ol agf (hz_Rn odf szf gdf owf svf (hz_rc A plf) pof pdf psm pkf pst nw0.toInt n0.toInt.toNat) i1.toInt c0.toInt.toNat)) (fun c9 => hz_mi ((fun c9 => (A (plf c9).toInt.toNat).2.1 2) (hp_ge (hp_ol agf (hz_Rn odf szf gdf owf svf (hz_rc A plf) pof pdf psm pkf pst nw0.toInt n0.toInt.toNat) i1.toInt c0.toInt.toNat) c9)) ((hz_Rn odf szf gdf owf svf (hz_rc A plf) pof pdf psm pkf pst nw0.toInt n0.toInt.toNat) (hp_ge (hp_ol agf (hz_Rn odf szf gdf owf svf (hz_rc A plf) pof pdf psm pkf pst nw0.toInt n0.toInt.toNat) i1.toInt c0.toInt.toNat) c9))) (fun c9 => (hz_Rn odf szf gdf owf svf (hz_rc A plf) pof pdf psm pkf pst nw0.toInt n0.toInt.toNat) (hp_ge (hp_ol agf (hz_Rn odf szf gdf owf svf (hz_rc A plf) pof pdf psm pkf pst nw0.toInt n0.toInt.toNat) i1.toInt c0.toInt.toNat) c9)) i2.toInt ((eaf i1.toInt.toNat).toInt - (A (hv_IF A nw0.toInt a0.toInt.toNat)).2.1 3 * (hdf i1.toInt.toNat).toInt) r.toInt td0.toInt td1.toInt clf clf1 wlf wlf1 wsf wsf1)) ∧ hx_T T_tb u.1 u.2 ∧ hx_S T_tb [(10, 67), (10, 68), (10, 69), (10, 70), (10, 71), (10, 72), (10, 75), (100, 0), (101, 0), (102, 0), (103, 0), (104, 0), (105, 0), (106, 0), (107, 0)] L h u.1 u.2) (hx_E T_tb (P_ty dA) (dC, dI) vwCl (hx_A L sz)) (hx_A L sz)) ([.ref x, .int i1, .int i2] : List Value).toArray s 0 0 (hx_A L sz)) (F0 m 335 ls []) := by
                                    intro n335
                                    induction n335 with
                                    | zero => intro iv335_10 ia335_zbm H locs hL1 hl1 bliv335_10 buiv335_10 vi335_0 vi335_1 ls hn335; exfalso; omega
                                    | succ n335 ih335 =>
                                      intro iv335_10 ia335_zbm H locs hL1 hl1 bliv335_10 buiv335_10 vi335_0 vi335_1 ls hn335 hW hT hM f_x_72 ffw27_x_75 nia335_zbm af_zpc af_zpw af_zpk nia27_zfo nia27_zre nia27_zle nia204_zmo hl
                                      have hin9 : ((iv335_10.toInt.toNat : Nat) : Int) = iv335_10.toInt := Int.toNat_of_nonneg (by omega)
                                      refine lv_iload hx hb dX10_plan_335 (lv_at hl 0 rfl) ?_
                                      refine lv_aload_n hx hb dX10_plan_337 rfl (lv_at hl 8 rfl) ?_
                                      refine hk_geti hx hb hts hC_10 hown hW (gx.S hM) tt_10 75 (by decide) rfl kw_1218 ⟨rfl, rfl, rfl⟩ ffw27_x_75 dX10_plan_338 ?_
                                      refine hb_icmp_ge (zx := iv335_10.toInt) (zy := fw27_x_75.toInt) (tgt := 364) hx hb rfl rfl dX10_plan_341 (by decide) (fun c_142 => ?_) (fun c_142 => ?_)
                                      · skip
                                        have hSM9 : hp_SM (hp_F (hp_f aF9 rF9 i2.toInt r_27.toInt fw27_x_75.toInt.toNat) 0 (k9 + 1) hp_s0) iv221_8.toInt iv221_9.toInt ia335_zbm fw27_x_75.toInt.toNat := hp_SM_s hs9 hdg9 ht9 hL9 hA9 (Or.inl ⟨by omega, by omega, rfl, rfl, fun i hi => vi335_0 i (by omega)⟩)
                                        refine lv_aload_n hx hb dX10_plan_364 rfl (lv_at hl 8 rfl) ?_
                                        refine hk_geti hx hb hts hC_10 hown hW (gx.S hM) tt_10 75 (by decide) rfl kw_1218 ⟨rfl, rfl, rfl⟩ ffw27_x_75 dX10_plan_365 ?_
                                        refine lv_iconst (v := 1) hx hb dX10_plan_368 (by decide) ?_
                                        refine lv_isub hx hb dX10_plan_369 ?_
                                        have rg_143 := i32_r fw27_x_75
                                        refine lv_topi (fun x_144 ex_144 => ?_)
                                        have zx_144 : x_144.toInt = fw27_x_75.toInt - 1 := by rw [ex_144]; exact i32_sub rfl (by decide) (by omega) (by omega)
                                        refine lv_istore (lv' := [(10, .int x_144), (5, .int iv221_9), (4, .int iv221_8), (9, .int iv221_9), (8, .int iv221_8), (7, .int iv221_7), (6, .int iv204_6), (3, .int r_27), (0, .ref x), (1, .int i1), (2, .int i2)]) hx hb dX10_plan_370 hl (by decide) rfl (fun ls hl => ?_)
                                        have loop372 : ∀ (n372 : Nat) (iv372_10 : Int32) (ia372_zmo : Nat → Int32) (H : Heap) (locs : List Loc) (hL1 : List Nat) (hl1 : hx_h), -1 ≤ iv372_10.toInt → iv372_10.toInt ≤ 3 → (hx_V ia372_zmo + hx_w iv372_10.toInt = hx_V ia204_zmo + hx_w (fw27_x_75.toInt - 1)) → (∀ j : Nat, j < fw27_x_75.toInt.toNat → (ia372_zmo j).toInt = (if (j : Int) ≤ iv372_10.toInt then hp_dg fw27_x_75.toInt.toNat k9 j else 0)) → (∀ j : Nat, iv372_10.toInt < (j : Int) → j < fw27_x_75.toInt.toNat → hp_dg fw27_x_75.toInt.toNat k9 j = 12) → (iv372_10.toInt < fw27_x_75.toInt) → ∀ (ls : Array Slot), iv372_10.toInt + 1 < (n372 : Int) → hx_W T_tb (P_ty dA) (dC, dI) vwCl (hx_A L sz) s.heap hL1 hl1 s H locs → hx_T T_tb hL1 hl1 → hx_S T_tb [(10, 67), (10, 68), (10, 69), (10, 70), (10, 71), (10, 72), (10, 75), (100, 0), (101, 0), (102, 0), (103, 0), (104, 0), (105, 0), (106, 0), (107, 0)] L h hL1 hl1 → hl1.2.1 x 72 = td0 → hl1.2.1 x 75 = fw27_x_75 → hl1.2.1 zmo = ia372_zmo → hl1.2.1 zpc = clf → hl1.2.1 zpw = wlf → hl1.2.1 zpk = wsf → hl1.2.1 zfo = ia27_zfo → hl1.2.1 zre = ia27_zre → hl1.2.1 zle = ia27_zle → hl1.2.1 zbm = ia335_zbm → lv_has ls 12 [(10, .int iv372_10), (5, .int iv221_9), (4, .int iv221_8), (9, .int iv221_9), (8, .int iv221_8), (7, .int iv221_7), (6, .int iv204_6), (3, .int r_27), (0, .ref x), (1, .int i1), (2, .int i2)] → W p l e ({ frames := 3, cells := 0, slots := 0, locals := 71 }) s m ([.ref x, .int i1, .int i2] : List Value).toArray below meth c H locs 0 0 (MQ below (va_Qi (fun (r : Int32) (u : List Nat × hx_h) => (∃ (td1 : Int32) (clf1 : Nat → Int32) (wlf1 : Nat → Int32) (wsf1 : Nat → Int32), u.2.2.1 x 72 = td1 ∧ u.2.2.1 zpc = clf1 ∧ u.2.2.1 zpw = wlf1 ∧ u.2.2.1 zpk = wsf1 ∧ (hp_PS ((0 ≤ i1.toInt ∧ i1.toInt < pn0.toInt) ∧ 1 ≤ i2.toInt ∧ i2.toInt ≤ 99) (hp_ol agf (hz_Rn odf szf gdf owf svf (hz_rc A plf) pof pdf psm pkf pst nw0.toInt n0.toInt.toNat) i1.toInt c0.toInt.toNat).length (hp_ge (hp_ol agf (hz_Rn odf szf gdf owf svf (hz_rc A plf) pof pdf psm pkf pst nw0.toInt n0.toInt.toNat) i1.toInt c0.toInt.toNat)) (fun c9 => hz_mi ((fun c9 => (A (plf c9).toInt.toNat).2.1 2) (hp_ge (hp_ol agf (hz_Rn odf szf gdf owf svf (hz_rc A plf) pof pdf psm pkf pst nw0.toInt n0.toInt.toNat) i1.toInt c0.toInt.toNat) c9)) ((hz_Rn odf szf gdf owf svf (hz_rc A plf) pof pdf psm pkf pst nw0.toInt n0.toInt.toNat) (hp_ge (hp_ol agf (hz_Rn odf szf gdf owf svf (hz_rc A plf) pof pdf psm pkf pst nw0.toInt n0.toInt.toNat) i1.toInt c0.toInt.toNat) c9))) (fun c9 => (hz_Rn odf szf gdf owf svf (hz_rc A plf) pof pdf psm pkf pst nw0.toInt n0.toInt.toNat) (hp_ge (hp_ol agf (hz_Rn odf szf gdf owf svf (hz_rc A plf) pof pdf psm pkf pst nw0.toInt n0.toInt.toNat) i1.toInt c0.toInt.toNat) c9)) i2.toInt ((eaf i1.toInt.toNat).toInt - (A (hv_IF A nw0.toInt a0.toInt.toNat)).2.1 3 * (hdf i1.toInt.toNat).toInt) r.toInt td0.toInt td1.toInt clf clf1 wlf wlf1 wsf wsf1)) ∧ hx_T T_tb u.1 u.2 ∧ hx_S T_tb [(10, 67), (10, 68), (10, 69), (10, 70), (10, 71), (10, 72), (10, 75), (100, 0), (101, 0), (102, 0), (103, 0), (104, 0), (105, 0), (106, 0), (107, 0)] L h u.1 u.2) (hx_E T_tb (P_ty dA) (dC, dI) vwCl (hx_A L sz)) (hx_A L sz)) ([.ref x, .int i1, .int i2] : List Value).toArray s 0 0 (hx_A L sz)) (F0 m 372 ls []) := by
                                          intro n372
                                          induction n372 with
                                          | zero => intro iv372_10 ia372_zmo H locs hL1 hl1 bliv372_10 buiv372_10 vi372_0 vi372_1 vi372_2 vi372_3 ls hn372; exfalso; omega
                                          | succ n372 ih372 =>
                                            intro iv372_10 ia372_zmo H locs hL1 hl1 bliv372_10 buiv372_10 vi372_0 vi372_1 vi372_2 vi372_3 ls hn372 hW hT hM f_x_72 ffw27_x_75 nia372_zmo af_zpc af_zpw af_zpk nia27_zfo nia27_zre nia27_zle nia335_zbm hl
                                            refine lv_iload hx hb dX10_plan_372 (lv_at hl 0 rfl) ?_
                                            refine hb_if_lt (zx := iv372_10.toInt) (tgt := 403) hx hb rfl dX10_plan_374 (by decide) (fun c_145 => ?_) (fun c_145 => ?_)
                                            · skip
                                              refine lv_iload hx hb dX10_plan_403 (lv_at hl 0 rfl) ?_
                                              refine hb_if_lt (zx := iv372_10.toInt) (tgt := 412) hx hb rfl dX10_plan_405 (by decide) (fun c_146 => ?_) (fun c_146 => by exfalso; omega)
                                              refine lv_iconst (v := 0) hx hb dX10_plan_412 (by decide) ?_
                                              refine lv_istore (lv' := [(6, .int (0 : Int32)), (10, .int iv372_10), (5, .int iv221_9), (4, .int iv221_8), (9, .int iv221_9), (8, .int iv221_8), (7, .int iv221_7), (3, .int r_27), (0, .ref x), (1, .int i1), (2, .int i2)]) hx hb dX10_plan_413 hl (by decide) rfl (fun ls hl => ?_)
                                              refine lv_iload hx hb dX10_plan_415 (lv_at hl 0 rfl) ?_
                                              refine hb_if_eq (zx := 0) (tgt := 431) hx hb (by decide) dX10_plan_417 (by decide) (fun c_147 => ?_) (fun c_147 => absurd c_147 (by decide))
                                              have hm12 : hx_m12 ia372_zmo := (fun k hk => by have q := hT.ei (gzmo.S hM) tt_105 (k := k) hk; rw [nia372_zmo] at q; exact q)
                                              have hvb := hx_V_b hm12
                                              refine lv_goto (tgt := 204) hx hb dX10_plan_431 (by decide) ?_
                                              have zk_0 : (0 : Int32).toInt = 0 := by decide
                                              exact ih204 iv221_8 iv221_9 (0 : Int32) ia372_zmo ia335_zbm _ _ hL1 hl1 (i32_r _).1 (i32_r _).2 (i32_r _).1 (i32_r _).2 (by decide) (by decide) (hp_OD_n hSM9 (hq_o hkl9) (fun j hj => vi372_2 j (by omega) hj) (by decide)) hm12 ls (by omega) hW hT hM f_x_72 ffw27_x_75 nia372_zmo nia335_zbm af_zpc af_zpw af_zpk nia27_zfo nia27_zre nia27_zle (lv_sub hl [0, 2, 3, 7, 8, 9, 10] rfl)
                                            · skip
                                              refine lv_aload_n hx hb dX10_plan_377 rfl (lv_at hl 8 rfl) ?_
                                              refine hk_getr hx hb hts hC_10 hown hW (gx.S hM) tt_10 79 (by decide) rfl kw_1222 ⟨rfl, rfl, rfl⟩ ((hM.o gx trivial rfl).2.trans f_x_79) dX10_plan_378 ?_
                                              refine lv_iload hx hb dX10_plan_381 (lv_at hl 0 rfl) ?_
                                              refine hx_iald hx hb hW hT (gzmo.S hM) tt_105 rfl ⟨by omega, by omega⟩ dX10_plan_383 (fun x_148 ex_148 lx_148 ux_148 => ?_)
                                              have ax_148 : x_148 = ia372_zmo iv372_10.toNatClampNeg := ex_148.trans (congrFun nia372_zmo _)
                                              refine lv_bipush (v := 12) hx hb dX10_plan_384 (by decide) ?_
                                              refine hb_icmp_ne (zx := x_148.toInt) (zy := 12) (tgt := 403) hx hb rfl (by decide) dX10_plan_386 (by decide) (fun c_149 => ?_) (fun c_149 => ?_)
                                              · skip
                                                replace c_149 : x_148.toInt ≤ 11 := by omega
                                                refine lv_iload hx hb dX10_plan_403 (lv_at hl 0 rfl) ?_
                                                refine hb_if_lt (zx := iv372_10.toInt) (tgt := 412) hx hb rfl dX10_plan_405 (by decide) (fun c_150 => by exfalso; omega) (fun c_150 => ?_)
                                                refine lv_iconst (v := 1) hx hb dX10_plan_408 (by decide) ?_
                                                refine lv_goto (tgt := 413) hx hb dX10_plan_409 (by decide) ?_
                                                refine lv_istore (lv' := [(6, .int (1 : Int32)), (10, .int iv372_10), (5, .int iv221_9), (4, .int iv221_8), (9, .int iv221_9), (8, .int iv221_8), (7, .int iv221_7), (3, .int r_27), (0, .ref x), (1, .int i1), (2, .int i2)]) hx hb dX10_plan_413 hl (by decide) rfl (fun ls hl => ?_)
                                                refine lv_iload hx hb dX10_plan_415 (lv_at hl 0 rfl) ?_
                                                refine hb_if_eq (zx := 1) (tgt := 431) hx hb (by decide) dX10_plan_417 (by decide) (fun c_151 => absurd c_151 (by decide)) (fun c_151 => ?_)
                                                refine lv_aload_n hx hb dX10_plan_420 rfl (lv_at hl 8 rfl) ?_
                                                refine hk_getr hx hb hts hC_10 hown hW (gx.S hM) tt_10 79 (by decide) rfl kw_1222 ⟨rfl, rfl, rfl⟩ ((hM.o gx trivial rfl).2.trans f_x_79) dX10_plan_421 ?_
                                                refine lv_iload hx hb dX10_plan_424 (lv_at hl 1 rfl) ?_
                                                refine lv_dup2_11 hx hb dX10_plan_426 rfl rfl ?_
                                                refine hx_iald hx hb hW hT (gzmo.S hM) tt_105 rfl ⟨by omega, by omega⟩ dX10_plan_427 (fun x_152 ex_152 lx_152 ux_152 => ?_)
                                                have ax_152 : x_152 = ia372_zmo iv372_10.toNatClampNeg := ex_152.trans (congrFun nia372_zmo _)
                                                obtain rfl : x_148 = x_152 := ex_148.trans ex_152.symm
                                                refine lv_iconst (v := 1) hx hb dX10_plan_428 (by decide) ?_
                                                refine lv_iadd hx hb dX10_plan_429 ?_
                                                have rg_153 := i32_r x_148
                                                refine lv_topi (fun x_154 ex_154 => ?_)
                                                have zx_154 : x_154.toInt = x_148.toInt + 1 := by rw [ex_154]; exact i32_add rfl (by decide) (by omega) (by omega)
                                                have nia372_zmoO := nia372_zmo
                                                refine hx_iast hx hb hW hT (hx_S.rf (M := [(105, 0)])) (gzmo.S hM) tt_105 rfl ⟨by omega, by omega⟩ rfl ⟨by omega, by omega⟩ (List.mem_singleton.mpr rfl) dX10_plan_430 (fun H locs h_155 eh_155 hW hT hs => ?_)
                                                replace f_x_72 := (hs.o (gx.S hM) trivial rfl).1.trans f_x_72
                                                replace ffw27_x_75 := (hs.o (gx.S hM) trivial rfl).1.trans ffw27_x_75
                                                replace af_zpc : h_155.2.1 zpc = clf := (funext fun j => (hs.a (gzpc.S hM) rfl j).1).trans af_zpc
                                                replace af_zpw : h_155.2.1 zpw = wlf := (funext fun j => (hs.a (gzpw.S hM) rfl j).1).trans af_zpw
                                                replace af_zpk : h_155.2.1 zpk = wsf := (funext fun j => (hs.a (gzpk.S hM) rfl j).1).trans af_zpk
                                                replace nia27_zfo : h_155.2.1 zfo = ia27_zfo := (funext fun j => (hs.a (gzfo.S hM) rfl j).1).trans nia27_zfo
                                                replace nia27_zre : h_155.2.1 zre = ia27_zre := (funext fun j => (hs.a (gzre.S hM) rfl j).1).trans nia27_zre
                                                replace nia27_zle : h_155.2.1 zle = ia27_zle := (funext fun j => (hs.a (gzle.S hM) rfl j).1).trans nia27_zle
                                                replace nia335_zbm : h_155.2.1 zbm = ia335_zbm := (funext fun j => (hs.a (gzbm.S hM) rfl j).1).trans nia335_zbm
                                                replace hM := hM.tr (hs.mono (by decide))
                                                obtain ⟨fa_156, dfa_156⟩ : ∃ g : Nat → Int32, g = hx_up ia372_zmo iv372_10.toNatClampNeg x_154 := ⟨_, rfl⟩
                                                have nfa_156 : h_155.2.1 zmo = fa_156 := by rw [eh_155, dfa_156, ← nia372_zmoO]; exact hx_pi_fun _ _ _ _
                                                have hvq := (hx_V_up (by omega) (by omega) ax_148 dfa_156).2 (by omega)
                                                have hwq := hx_w_b (i := (fw27_x_75.toInt - 1 : Int))
                                                have hm12 : hx_m12 fa_156 := (fun k hk => by have q := hT.ei (gzmo.S hM) tt_105 (k := k) hk; rw [nfa_156] at q; exact q)
                                                have hvb := hx_V_b hm12
                                                refine lv_goto (tgt := 204) hx hb dX10_plan_431 (by decide) ?_
                                                have zk_1 : (1 : Int32).toInt = 1 := by decide
                                                exact ih204 iv221_8 iv221_9 (1 : Int32) fa_156 ia335_zbm _ _ hL1 h_155 (i32_r _).1 (i32_r _).2 (i32_r _).1 (i32_r _).2 (by decide) (by decide) (hp_OD_y (i := iv372_10.toInt.toNat) hSM9 (hq_o hkl9) (by omega) (fun j h1 h2 => vi372_2 j (by omega) h2) (fun z9 => by have h9 := vi372_1 iv372_10.toInt.toNat (by omega); rw [if_pos (by omega), z9, show ia372_zmo iv372_10.toInt.toNat = x_148 from ax_148.symm] at h9; omega) (hp_E_u (ix := iv372_10.toInt.toNat) vi372_1 (by omega) (by omega) (by omega) dfa_156 (by rw [show ia372_zmo iv372_10.toInt.toNat = x_148 from ax_148.symm]; omega)) (by decide)) hm12 ls (by omega) hW hT hM f_x_72 ffw27_x_75 nfa_156 nia335_zbm af_zpc af_zpw af_zpk nia27_zfo nia27_zre nia27_zle (lv_sub hl [0, 2, 3, 7, 8, 9, 10] rfl)
                                              · skip
                                                have hin9 : ((iv372_10.toInt.toNat : Nat) : Int) = iv372_10.toInt := Int.toNat_of_nonneg (by omega)
                                                refine lv_aload_n hx hb dX10_plan_389 rfl (lv_at hl 8 rfl) ?_
                                                refine hk_getr hx hb hts hC_10 hown hW (gx.S hM) tt_10 79 (by decide) rfl kw_1222 ⟨rfl, rfl, rfl⟩ ((hM.o gx trivial rfl).2.trans f_x_79) dX10_plan_390 ?_
                                                refine lv_iload hx hb dX10_plan_393 (lv_at hl 0 rfl) ?_
                                                refine lv_iconst (v := 0) hx hb dX10_plan_395 (by decide) ?_
                                                have nia372_zmoO := nia372_zmo
                                                refine hx_iast hx hb hW hT (hx_S.rf (M := [(105, 0)])) (gzmo.S hM) tt_105 rfl ⟨by omega, by omega⟩ rfl (by decide) (List.mem_singleton.mpr rfl) dX10_plan_396 (fun H locs h_157 eh_157 hW hT hs => ?_)
                                                replace f_x_72 := (hs.o (gx.S hM) trivial rfl).1.trans f_x_72
                                                replace ffw27_x_75 := (hs.o (gx.S hM) trivial rfl).1.trans ffw27_x_75
                                                replace af_zpc : h_157.2.1 zpc = clf := (funext fun j => (hs.a (gzpc.S hM) rfl j).1).trans af_zpc
                                                replace af_zpw : h_157.2.1 zpw = wlf := (funext fun j => (hs.a (gzpw.S hM) rfl j).1).trans af_zpw
                                                replace af_zpk : h_157.2.1 zpk = wsf := (funext fun j => (hs.a (gzpk.S hM) rfl j).1).trans af_zpk
                                                replace nia27_zfo : h_157.2.1 zfo = ia27_zfo := (funext fun j => (hs.a (gzfo.S hM) rfl j).1).trans nia27_zfo
                                                replace nia27_zre : h_157.2.1 zre = ia27_zre := (funext fun j => (hs.a (gzre.S hM) rfl j).1).trans nia27_zre
                                                replace nia27_zle : h_157.2.1 zle = ia27_zle := (funext fun j => (hs.a (gzle.S hM) rfl j).1).trans nia27_zle
                                                replace nia335_zbm : h_157.2.1 zbm = ia335_zbm := (funext fun j => (hs.a (gzbm.S hM) rfl j).1).trans nia335_zbm
                                                replace hM := hM.tr (hs.mono (by decide))
                                                obtain ⟨fa_158, dfa_158⟩ : ∃ g : Nat → Int32, g = hx_up ia372_zmo iv372_10.toNatClampNeg (0 : Int32) := ⟨_, rfl⟩
                                                have nfa_158 : h_157.2.1 zmo = fa_158 := by rw [eh_157, dfa_158, ← nia372_zmoO]; exact hx_pi_fun _ _ _ _
                                                obtain ⟨x_159, ex_159⟩ : ∃ y : Int32, y = iv372_10 + Int32.ofInt (-1) := ⟨_, rfl⟩
                                                have rg_160 := i32_r iv372_10
                                                have zx_159 : x_159.toInt = iv372_10.toInt + (-1) := by rw [ex_159]; exact i32_add rfl (by decide) (by omega) (by omega)
                                                refine lv_iinc (v := x_159) (lv' := [(10, .int x_159), (5, .int iv221_9), (4, .int iv221_8), (9, .int iv221_9), (8, .int iv221_8), (7, .int iv221_7), (6, .int iv204_6), (3, .int r_27), (0, .ref x), (1, .int i1), (2, .int i2)]) hx hb dX10_plan_397 hl (k := 0) rfl ex_159.symm (by decide) rfl (fun ls hl => ?_)
                                                refine lv_goto (tgt := 372) hx hb dX10_plan_400 (by decide) ?_
                                                exact ih372 x_159 fa_158 _ _ hL1 h_157 (by omega) (by omega) (by have q := (hx_V_up (by omega) (by omega) ax_148 dfa_158).1 (by omega) (by decide); rw [show x_159.toInt = iv372_10.toInt - 1 from by omega]; omega) (hp_E_s vi372_1 vi372_2 (by omega) (by omega) (by unfold Int32.toNatClampNeg; omega) (by rw [show ia372_zmo iv372_10.toNatClampNeg = x_148 from ax_148.symm]; omega) dfa_158 zx_159).1 (hp_E_s vi372_1 vi372_2 (by omega) (by omega) (by unfold Int32.toNatClampNeg; omega) (by rw [show ia372_zmo iv372_10.toNatClampNeg = x_148 from ax_148.symm]; omega) dfa_158 zx_159).2 (by omega) ls (by omega) hW hT hM f_x_72 ffw27_x_75 nfa_158 af_zpc af_zpw af_zpk nia27_zfo nia27_zre nia27_zle nia335_zbm (lv_sub hl [0, 1, 2, 3, 4, 5, 6, 7, 8, 9, 10] rfl)
                                        exact loop372 5 x_144 ia204_zmo _ _ hL1 hl1 (by omega) (by omega) (by rw [zx_144]) (fun j hj => by rw [if_pos (by omega)]; exact hdg9 j hj) (fun j h1 h2 => by exfalso; omega) (by omega) ls (by omega) hW hT hM f_x_72 ffw27_x_75 nia204_zmo af_zpc af_zpw af_zpk nia27_zfo nia27_zre nia27_zle nia335_zbm hl
                                      · skip
                                        refine lv_aload_n hx hb dX10_plan_344 rfl (lv_at hl 8 rfl) ?_
                                        refine hk_getr hx hb hts hC_10 hown hW (gx.S hM) tt_10 80 (by decide) rfl kw_1223 ⟨rfl, rfl, rfl⟩ ((hM.o gx trivial rfl).2.trans f_x_80) dX10_plan_345 ?_
                                        refine lv_iload hx hb dX10_plan_348 (lv_at hl 0 rfl) ?_
                                        refine lv_aload_n hx hb dX10_plan_350 rfl (lv_at hl 8 rfl) ?_
                                        refine hk_getr hx hb hts hC_10 hown hW (gx.S hM) tt_10 79 (by decide) rfl kw_1222 ⟨rfl, rfl, rfl⟩ ((hM.o gx trivial rfl).2.trans f_x_79) dX10_plan_351 ?_
                                        refine lv_iload hx hb dX10_plan_354 (lv_at hl 0 rfl) ?_
                                        refine hx_iald hx hb hW hT (gzmo.S hM) tt_105 rfl ⟨by omega, by omega⟩ dX10_plan_356 (fun x_161 ex_161 lx_161 ux_161 => ?_)
                                        have ax_161 : x_161 = ia204_zmo iv335_10.toNatClampNeg := ex_161.trans (congrFun nia204_zmo _)
                                        have nia335_zbmO := nia335_zbm
                                        refine hx_iast hx hb hW hT (hx_S.rf (M := [(106, 0)])) (gzbm.S hM) tt_106 rfl ⟨by omega, by omega⟩ rfl ⟨by omega, by omega⟩ (List.mem_singleton.mpr rfl) dX10_plan_357 (fun H locs h_162 eh_162 hW hT hs => ?_)
                                        replace f_x_72 := (hs.o (gx.S hM) trivial rfl).1.trans f_x_72
                                        replace ffw27_x_75 := (hs.o (gx.S hM) trivial rfl).1.trans ffw27_x_75
                                        replace af_zpc : h_162.2.1 zpc = clf := (funext fun j => (hs.a (gzpc.S hM) rfl j).1).trans af_zpc
                                        replace af_zpw : h_162.2.1 zpw = wlf := (funext fun j => (hs.a (gzpw.S hM) rfl j).1).trans af_zpw
                                        replace af_zpk : h_162.2.1 zpk = wsf := (funext fun j => (hs.a (gzpk.S hM) rfl j).1).trans af_zpk
                                        replace nia27_zfo : h_162.2.1 zfo = ia27_zfo := (funext fun j => (hs.a (gzfo.S hM) rfl j).1).trans nia27_zfo
                                        replace nia27_zre : h_162.2.1 zre = ia27_zre := (funext fun j => (hs.a (gzre.S hM) rfl j).1).trans nia27_zre
                                        replace nia27_zle : h_162.2.1 zle = ia27_zle := (funext fun j => (hs.a (gzle.S hM) rfl j).1).trans nia27_zle
                                        replace nia204_zmo : h_162.2.1 zmo = ia204_zmo := (funext fun j => (hs.a (gzmo.S hM) rfl j).1).trans nia204_zmo
                                        replace ex_161 := ex_161.trans (hs.a (gzmo.S hM) rfl _).1.symm
                                        replace hM := hM.tr (hs.mono (by decide))
                                        obtain ⟨fa_163, dfa_163⟩ : ∃ g : Nat → Int32, g = hx_up ia335_zbm iv335_10.toNatClampNeg x_161 := ⟨_, rfl⟩
                                        have nfa_163 : h_162.2.1 zbm = fa_163 := by rw [eh_162, dfa_163, ← nia335_zbmO]; exact hx_pi_fun _ _ _ _
                                        obtain ⟨x_164, ex_164⟩ : ∃ y : Int32, y = iv335_10 + Int32.ofInt 1 := ⟨_, rfl⟩
                                        have rg_165 := i32_r iv335_10
                                        have zx_164 : x_164.toInt = iv335_10.toInt + (1) := by rw [ex_164]; exact i32_add rfl (by decide) (by omega) (by omega)
                                        refine lv_iinc (v := x_164) (lv' := [(10, .int x_164), (5, .int iv221_9), (4, .int iv221_8), (9, .int iv221_9), (8, .int iv221_8), (7, .int iv221_7), (6, .int iv204_6), (3, .int r_27), (0, .ref x), (1, .int i1), (2, .int i2)]) hx hb dX10_plan_358 hl (k := 0) rfl ex_164.symm (by decide) rfl (fun ls hl => ?_)
                                        refine lv_goto (tgt := 335) hx hb dX10_plan_361 (by decide) ?_
                                        exact ih335 x_164 fa_163 _ _ hL1 h_162 (by omega) (by omega) (hx_cp_s vi335_0 dfa_163 ax_161 rfl (by omega) zx_164) (by omega) ls (by omega) hW hT hM f_x_72 ffw27_x_75 nfa_163 af_zpc af_zpw af_zpk nia27_zfo nia27_zre nia27_zle nia204_zmo (lv_sub hl [0, 1, 2, 3, 4, 5, 6, 7, 8, 9, 10] rfl)
                                  have zk_0 : (0 : Int32).toInt = 0 := by decide
                                  exact loop335 5 (0 : Int32) ia204_zbm _ _ hL1 hl1 (by decide) (by decide) (fun j hj => by exfalso; omega) (by omega) ls (by omega) hW hT hM f_x_72 ffw27_x_75 nia204_zbm af_zpc af_zpw af_zpk nia27_zfo nia27_zre nia27_zle nia204_zmo hl
                        · skip
                          refine lv_aload_n hx hb dX10_plan_230 rfl (lv_at hl 8 rfl) ?_
                          refine lv_iload hx hb dX10_plan_231 (lv_at hl 0 rfl) ?_
                          refine lv_aload_n hx hb dX10_plan_233 rfl (lv_at hl 8 rfl) ?_
                          refine hk_getr hx hb hts hC_10 hown hW (gx.S hM) tt_10 79 (by decide) rfl kw_1222 ⟨rfl, rfl, rfl⟩ ((hM.o gx trivial rfl).2.trans f_x_79) dX10_plan_234 ?_
                          refine lv_iload hx hb dX10_plan_237 (lv_at hl 0 rfl) ?_
                          refine hx_iald hx hb hW hT (gzmo.S hM) tt_105 rfl ⟨by omega, by omega⟩ dX10_plan_239 (fun x_166 ex_166 lx_166 ux_166 => ?_)
                          have ax_166 : x_166 = ia204_zmo iv221_10.toNatClampNeg := ex_166.trans (congrFun nia204_zmo _)
                          have hmo19 : 0 ≤ x_166.toInt ∧ x_166.toInt ≤ 12 := by rw [ax_166]; exact vi204_1 _ (by unfold Int32.toNatClampNeg; omega)
                          refine lv_iload_n hx hb dX10_plan_240 rfl (lv_at hl 10 rfl) ?_
                          refine hx_goi (hx_runV (As := [.int iv221_10, .int x_166, .int i2]) (rest := []) ⟨hx, hb, hml, hown, hts⟩ hW (gx.S hM) tt_10 (T := TX10) (N := 98) rfl (t_X10_weeksOf_v l dC dI dA hL1 hl1 H.size x iv221_10 x_166 i2 hT (gx.S hM) zre (gzre.S hM) ((hM.o gx trivial rfl).2.trans f_x_77) zle (gzle.S hM) ((hM.o gx trivial rfl).2.trans f_x_78) ia27_zre nia27_zre ia27_zle nia27_zle ⟨by omega, by omega⟩ ⟨by omega, by omega⟩ ⟨by omega, by omega⟩ (hle9 _ (by omega)) (hre9 _ (by omega))) (cwV 3 hts (hx_gV kw_1682 kw_1679 kw_1681 kw_85 kw_103) rfl rfl rfl (by decide +kernel) ⟨Nat.le_of_ble_eq_true rfl, Nat.le_of_ble_eq_true rfl⟩) rfl hl.1 rfl (Nat.le_of_ble_eq_true rfl) dX10_plan_241 ⟨Nat.le_of_ble_eq_true rfl, Nat.le_of_ble_eq_true rfl⟩) hW (fun r_169 L_167 h_168 H locs p_170 hW => ?_)
                          obtain ⟨hr_171, hT, hs⟩ := p_170
                          replace hT : hx_T T_tb L_167 h_168 := hT
                          replace hs : hx_S T_tb [] hL1 hl1 L_167 h_168 := hs
                          replace f_x_72 := (hs.o (gx.S hM) trivial rfl).1.trans f_x_72
                          replace ffw27_x_75 := (hs.o (gx.S hM) trivial rfl).1.trans ffw27_x_75
                          replace af_zpc : h_168.2.1 zpc = clf := (funext fun j => (hs.a (gzpc.S hM) rfl j).1).trans af_zpc
                          replace af_zpw : h_168.2.1 zpw = wlf := (funext fun j => (hs.a (gzpw.S hM) rfl j).1).trans af_zpw
                          replace af_zpk : h_168.2.1 zpk = wsf := (funext fun j => (hs.a (gzpk.S hM) rfl j).1).trans af_zpk
                          replace nia27_zfo : h_168.2.1 zfo = ia27_zfo := (funext fun j => (hs.a (gzfo.S hM) rfl j).1).trans nia27_zfo
                          replace nia27_zre : h_168.2.1 zre = ia27_zre := (funext fun j => (hs.a (gzre.S hM) rfl j).1).trans nia27_zre
                          replace nia27_zle : h_168.2.1 zle = ia27_zle := (funext fun j => (hs.a (gzle.S hM) rfl j).1).trans nia27_zle
                          replace nia204_zmo : h_168.2.1 zmo = ia204_zmo := (funext fun j => (hs.a (gzmo.S hM) rfl j).1).trans nia204_zmo
                          replace nia204_zbm : h_168.2.1 zbm = ia204_zbm := (funext fun j => (hs.a (gzbm.S hM) rfl j).1).trans nia204_zbm
                          replace ex_166 := ex_166.trans (hs.a (gzmo.S hM) rfl _).1.symm
                          replace hM := hM.tr (hs.mono (by decide))
                          have hmv9 : x_166.toInt = (ia204_zmo iv221_10.toInt.toNat).toInt := congrArg Int32.toInt ax_166
                          have hwk8 : hq_P (r_169.toInt = (hp_k aF9 rF9 i2.toInt (fun c9 => (ia204_zmo c9).toInt)) iv221_10.toInt.toNat) := by have h9 := hr_171.1; rw [hla9 _ (by omega), hlr9 _ (by omega), hmv9] at h9; exact h9
                          refine lv_istore (lv' := [(11, .int r_169), (10, .int iv221_10), (9, .int iv221_9), (8, .int iv221_8), (7, .int iv221_7), (6, .int iv204_6), (5, .int iv204_5), (4, .int iv204_4), (3, .int r_27), (0, .ref x), (1, .int i1), (2, .int i2)]) hx hb dX10_plan_244 hl (by decide) rfl (fun ls hl => ?_)
                          refine lv_iload hx hb dX10_plan_246 (lv_at hl 4 rfl) ?_
                          refine lv_aload_n hx hb dX10_plan_248 rfl (lv_at hl 9 rfl) ?_
                          refine hk_getr hx hb hts hC_10 hown hW (gx.S hM) tt_10 78 (by decide) rfl kw_1221 ⟨rfl, rfl, rfl⟩ ((hM.o gx trivial rfl).2.trans f_x_78) dX10_plan_249 ?_
                          refine lv_iload hx hb dX10_plan_252 (lv_at hl 1 rfl) ?_
                          refine hx_iald hx hb hW hT (gzle.S hM) tt_104 rfl ⟨by omega, by omega⟩ dX10_plan_254 (fun x_172 ex_172 lx_172 ux_172 => ?_)
                          have ax_172 : x_172 = ia27_zle iv221_10.toNatClampNeg := ex_172.trans (congrFun nia27_zle _)
                          have hlv9 : x_172.toInt = aF9 iv221_10.toInt.toNat := by rw [ax_172]; exact hla9 _ (by unfold Int32.toNatClampNeg; omega)
                          have hlb9 := hle9 iv221_10.toInt.toNat (by omega); rw [hla9 _ (by omega), ← hlv9] at hlb9
                          refine lv_aload_n hx hb dX10_plan_255 rfl (lv_at hl 9 rfl) ?_
                          refine hk_getr hx hb hts hC_10 hown hW (gx.S hM) tt_10 79 (by decide) rfl kw_1222 ⟨rfl, rfl, rfl⟩ ((hM.o gx trivial rfl).2.trans f_x_79) dX10_plan_256 ?_
                          refine lv_iload hx hb dX10_plan_259 (lv_at hl 1 rfl) ?_
                          refine hx_iald hx hb hW hT (gzmo.S hM) tt_105 rfl ⟨by omega, by omega⟩ dX10_plan_261 (fun x_173 ex_173 lx_173 ux_173 => ?_)
                          have ax_173 : x_173 = ia204_zmo iv221_10.toNatClampNeg := ex_173.trans (congrFun nia204_zmo _)
                          obtain rfl : x_166 = x_173 := ex_166.trans ex_173.symm
                          refine lv_iload_n hx hb dX10_plan_262 rfl (lv_at hl 11 rfl) ?_
                          refine lv_imul hx hb dX10_plan_263 ?_
                          refine lv_topi (fun x_174 ex_174 => ?_)
                          have mx_174 : x_166.toInt = 0 → x_174.toInt = 0 := fun z => by rw [ex_174]; exact hx_mul0 z
                          clear mx_174
                          obtain ⟨m9, m9l, m9h⟩ := hp_mul ⟨by omega, by omega⟩ ⟨by omega, by omega⟩ ex_174; rw [hmv9] at m9
                          refine lv_iadd hx hb dX10_plan_264 ?_
                          have rg_175 := i32_r x_172
                          have rg_176 := i32_r x_174
                          refine lv_topi (fun x_177 ex_177 => ?_)
                          have zx_177 : x_177.toInt = x_172.toInt + x_174.toInt := by rw [ex_177]; exact i32_add rfl rfl (by omega) (by omega)
                          refine lv_iadd hx hb dX10_plan_265 ?_
                          have rg_178 := i32_r iv221_7
                          have rg_179 := i32_r x_177
                          refine lv_topi (fun x_180 ex_180 => ?_)
                          have zx_180 : x_180.toInt = iv221_7.toInt + x_177.toInt := by rw [ex_180]; exact i32_add rfl rfl (by omega) (by omega)
                          refine lv_istore (lv' := [(7, .int x_180), (11, .int r_169), (10, .int iv221_10), (9, .int iv221_9), (8, .int iv221_8), (6, .int iv204_6), (5, .int iv204_5), (4, .int iv204_4), (3, .int r_27), (0, .ref x), (1, .int i1), (2, .int i2)]) hx hb dX10_plan_266 hl (by decide) rfl (fun ls hl => ?_)
                          have hww9 : hq_P ((hp_w aF9 i2.toInt (fun c9 => (ia204_zmo c9).toInt)) iv221_10.toInt.toNat = x_172.toInt + x_174.toInt) := by show aF9 iv221_10.toInt.toNat + (ia204_zmo iv221_10.toInt.toNat).toInt * i2.toInt = _; rw [← hlv9, ← m9]
                          refine lv_iload hx hb dX10_plan_268 (lv_at hl 1 rfl) ?_
                          refine lv_iload hx hb dX10_plan_270 (lv_at hl 4 rfl) ?_
                          refine hb_icmp_le (zx := r_169.toInt) (zy := iv221_8.toInt) (tgt := 280) hx hb rfl rfl dX10_plan_272 (by decide) (fun c_181 => ?_) (fun c_181 => ?_)
                          · skip
                            refine lv_iload hx hb dX10_plan_280 (lv_at hl 4 rfl) ?_
                            refine lv_istore (lv' := [(8, .int iv221_8), (7, .int x_180), (11, .int r_169), (10, .int iv221_10), (9, .int iv221_9), (6, .int iv204_6), (5, .int iv204_5), (4, .int iv204_4), (3, .int r_27), (0, .ref x), (1, .int i1), (2, .int i2)]) hx hb dX10_plan_282 hl (by decide) rfl (fun ls hl => ?_)
                            refine lv_iload hx hb dX10_plan_284 (lv_at hl 4 rfl) ?_
                            refine lv_iload hx hb dX10_plan_286 (lv_at hl 2 rfl) ?_
                            refine lv_iadd hx hb dX10_plan_288 ?_
                            have rg_182 := i32_r iv221_9
                            have rg_183 := i32_r r_169
                            refine lv_topi (fun x_184 ex_184 => ?_)
                            have zx_184 : x_184.toInt = iv221_9.toInt + r_169.toInt := by rw [ex_184]; exact i32_add rfl rfl (by omega) (by omega)
                            refine lv_istore (lv' := [(9, .int x_184), (8, .int iv221_8), (7, .int x_180), (11, .int r_169), (10, .int iv221_10), (6, .int iv204_6), (5, .int iv204_5), (4, .int iv204_4), (3, .int r_27), (0, .ref x), (1, .int i1), (2, .int i2)]) hx hb dX10_plan_289 hl (by decide) rfl (fun ls hl => ?_)
                            obtain ⟨x_185, ex_185⟩ : ∃ y : Int32, y = iv221_10 + Int32.ofInt 1 := ⟨_, rfl⟩
                            have rg_186 := i32_r iv221_10
                            have zx_185 : x_185.toInt = iv221_10.toInt + (1) := by rw [ex_185]; exact i32_add rfl (by decide) (by omega) (by omega)
                            refine lv_iinc (v := x_185) (lv' := [(10, .int x_185), (9, .int x_184), (8, .int iv221_8), (7, .int x_180), (11, .int r_169), (6, .int iv204_6), (5, .int iv204_5), (4, .int iv204_4), (3, .int r_27), (0, .ref x), (1, .int i1), (2, .int i2)]) hx hb dX10_plan_291 hl (k := 4) rfl ex_185.symm (by decide) rfl (fun ls hl => ?_)
                            refine lv_goto (tgt := 221) hx hb dX10_plan_294 (by decide) ?_
                            exact ih221 x_180 iv221_8 x_184 x_185 _ _ L_167 h_168 (by omega) (by omega) (by omega) (by omega) (by omega) (by omega) (by omega) (by omega) (hp_ssI vi221_0 (by omega) (by rw [hq_o hww9]; omega) zx_185) (hp_mmI vi221_1 (by omega) (by rw [← hq_o hwk8]; omega) zx_185) (hp_ssI vi221_2 (by omega) (by rw [← hq_o hwk8]; omega) zx_185) (by omega) (by omega) (by omega) ls (by omega) hW hT hM f_x_72 ffw27_x_75 af_zpc af_zpw af_zpk nia27_zfo nia27_zre nia27_zle nia204_zmo nia204_zbm (lv_sub hl [0, 1, 2, 3, 5, 6, 7, 8, 9, 10, 11] rfl)
                          · skip
                            refine lv_iload hx hb dX10_plan_275 (lv_at hl 1 rfl) ?_
                            refine lv_goto (tgt := 282) hx hb dX10_plan_277 (by decide) ?_
                            refine lv_istore (lv' := [(8, .int r_169), (7, .int x_180), (11, .int r_169), (10, .int iv221_10), (9, .int iv221_9), (6, .int iv204_6), (5, .int iv204_5), (4, .int iv204_4), (3, .int r_27), (0, .ref x), (1, .int i1), (2, .int i2)]) hx hb dX10_plan_282 hl (by decide) rfl (fun ls hl => ?_)
                            refine lv_iload hx hb dX10_plan_284 (lv_at hl 4 rfl) ?_
                            refine lv_iload hx hb dX10_plan_286 (lv_at hl 2 rfl) ?_
                            refine lv_iadd hx hb dX10_plan_288 ?_
                            have rg_187 := i32_r iv221_9
                            have rg_188 := i32_r r_169
                            refine lv_topi (fun x_189 ex_189 => ?_)
                            have zx_189 : x_189.toInt = iv221_9.toInt + r_169.toInt := by rw [ex_189]; exact i32_add rfl rfl (by omega) (by omega)
                            refine lv_istore (lv' := [(9, .int x_189), (8, .int r_169), (7, .int x_180), (11, .int r_169), (10, .int iv221_10), (6, .int iv204_6), (5, .int iv204_5), (4, .int iv204_4), (3, .int r_27), (0, .ref x), (1, .int i1), (2, .int i2)]) hx hb dX10_plan_289 hl (by decide) rfl (fun ls hl => ?_)
                            obtain ⟨x_190, ex_190⟩ : ∃ y : Int32, y = iv221_10 + Int32.ofInt 1 := ⟨_, rfl⟩
                            have rg_191 := i32_r iv221_10
                            have zx_190 : x_190.toInt = iv221_10.toInt + (1) := by rw [ex_190]; exact i32_add rfl (by decide) (by omega) (by omega)
                            refine lv_iinc (v := x_190) (lv' := [(10, .int x_190), (9, .int x_189), (8, .int r_169), (7, .int x_180), (11, .int r_169), (6, .int iv204_6), (5, .int iv204_5), (4, .int iv204_4), (3, .int r_27), (0, .ref x), (1, .int i1), (2, .int i2)]) hx hb dX10_plan_291 hl (k := 4) rfl ex_190.symm (by decide) rfl (fun ls hl => ?_)
                            refine lv_goto (tgt := 221) hx hb dX10_plan_294 (by decide) ?_
                            exact ih221 x_180 r_169 x_189 x_190 _ _ L_167 h_168 (by omega) (by omega) (by omega) (by omega) (by omega) (by omega) (by omega) (by omega) (hp_ssI vi221_0 (by omega) (by rw [hq_o hww9]; omega) zx_190) (hp_mmI vi221_1 (by omega) (by rw [← hq_o hwk8]; omega) zx_190) (hp_ssI vi221_2 (by omega) (by rw [← hq_o hwk8]; omega) zx_190) (by omega) (by omega) (by omega) ls (by omega) hW hT hM f_x_72 ffw27_x_75 af_zpc af_zpw af_zpk nia27_zfo nia27_zre nia27_zle nia204_zmo nia204_zbm (lv_sub hl [0, 1, 2, 3, 5, 6, 7, 8, 9, 10, 11] rfl)
                    have zk_0 : (0 : Int32).toInt = 0 := by decide
                    have zk_0 : (0 : Int32).toInt = 0 := by decide
                    have zk_0 : (0 : Int32).toInt = 0 := by decide
                    have zk_0 : (0 : Int32).toInt = 0 := by decide
                    exact loop221 5 (0 : Int32) (0 : Int32) (0 : Int32) (0 : Int32) _ _ hL1 hl1 (by decide) (by decide) (by decide) (by decide) (by decide) (by decide) (by decide) (by decide) (by rw [zk_0]; exact hq_i rfl) (by rw [zk_0]; exact hq_i rfl) (by rw [zk_0]; exact hq_i rfl) (by omega) (by omega) (by omega) ls (by omega) hW hT hM f_x_72 ffw27_x_75 af_zpc af_zpw af_zpk nia27_zfo nia27_zre nia27_zle nia204_zmo nia204_zbm hl
              have zk_1000000000 : (1000000000 : Int32).toInt = 1000000000 := by decide
              have zk_1000000000 : (1000000000 : Int32).toInt = 1000000000 := by decide
              have zk_1 : (1 : Int32).toInt = 1 := by decide
              exact loop204 28564 (1000000000 : Int32) (1000000000 : Int32) (1 : Int32) ia27_zmo fa_32 _ _ L_25 h_26 (by decide) (by decide) (by decide) (by decide) (by decide) (by decide) (hp_OD_0 (fun i hi => vi27_1 i (by omega))) hm12 ls (by omega) hW hT hM f_x_72 ffw27_x_75 nia27_zmo nfa_32 af_zpc af_zpw af_zpk nia27_zfo nia27_zre nia27_zle hl
            · skip
              refine lv_iconst (v := 0) hx hb dX10_plan_176 (by decide) ?_
              refine lv_goto (tgt := 183) hx hb dX10_plan_177 (by decide) ?_
              refine lv_istore (lv' := [(4, .int (0 : Int32)), (3, .int r_27), (0, .ref x), (1, .int i1), (2, .int i2)]) hx hb dX10_plan_183 hl (by decide) rfl (fun ls hl => ?_)
              refine lv_ldcw (v := 1000000000) hx hb hown (hts _ kw_1678) dX10_plan_185 ?_
              refine lv_istore (lv' := [(5, .int (1000000000 : Int32)), (4, .int (0 : Int32)), (3, .int r_27), (0, .ref x), (1, .int i1), (2, .int i2)]) hx hb dX10_plan_188 hl (by decide) rfl (fun ls hl => ?_)
              refine lv_aload_n hx hb dX10_plan_190 rfl (lv_at hl 3 rfl) ?_
              refine hk_geti hx hb hts hC_10 hown hW (gx.S hM) tt_10 75 (by decide) rfl kw_1218 ⟨rfl, rfl, rfl⟩ ffw27_x_75 dX10_plan_191 ?_
              refine hb_if_le (zx := fw27_x_75.toInt) (tgt := 201) hx hb rfl dX10_plan_194 (by decide) (fun c_192 => ?_) (fun c_192 => by exfalso; omega)
              refine lv_iconst (v := 0) hx hb dX10_plan_201 (by decide) ?_
              obtain ⟨fa_193, nfa_193⟩ : ∃ g : Nat → Int32, h_26.2.1 zbm = g := ⟨_, rfl⟩
              have hm12 : hx_m12 ia27_zmo := (fun k hk => by have q := hT.ei (gzmo.S hM) tt_105 (k := k) hk; rw [nia27_zmo] at q; exact q)
              have hvb := hx_V_b hm12
              refine lv_istore (lv' := [(6, .int (0 : Int32)), (5, .int (1000000000 : Int32)), (4, .int (0 : Int32)), (3, .int r_27), (0, .ref x), (1, .int i1), (2, .int i2)]) hx hb dX10_plan_202 hl (by decide) rfl (fun ls hl => ?_)
              refine lv_iload hx hb dX10_plan_204 (lv_at hl 0 rfl) ?_
              refine hb_if_eq (zx := 0) (tgt := 434) hx hb (by decide) dX10_plan_206 (by decide) (fun c_194 => ?_) (fun c_194 => absurd c_194 (by decide))
              refine lv_iload hx hb dX10_plan_434 (lv_at hl 2 rfl) ?_
              refine lv_ldcw (v := 1000000000) hx hb hown (hts _ kw_1678) dX10_plan_436 ?_
              refine hb_icmp_ne (zx := 0) (zy := 1000000000) (tgt := 445) hx hb (by decide) (by decide) dX10_plan_439 (by decide) (fun c_195 => ?_) (fun c_195 => absurd c_195 (by decide))
              obtain ⟨bB9, ebB9⟩ : ∃ z : hp_S, z = (hp_B9 aF9 rF9 i2.toInt (if fw27_x_75.toInt.toNat = 0 then 0 else r_27.toInt) fw27_x_75.toInt.toNat) := ⟨_, rfl⟩
              have hB9 : bB9.1 = 0 := by rw [ebB9, show fw27_x_75.toInt.toNat = 0 by omega, if_pos rfl]; exact hp_B9_0
              have hbm9 : ∀ i : Nat, i < fw27_x_75.toInt.toNat → (fa_193 i).toInt = bB9.2.2 i := fun i hi => by exfalso; omega
              have hfe9 : hq_P (¬ (0 < fw27_x_75.toInt.toNat ∧ r_27.toInt < hp_s aF9 fw27_x_75.toInt.toNat)) := fun z9 => by have h9 := z9.1; omega
              refine lv_aload_n hx hb dX10_plan_445 rfl (lv_at hl 4 rfl) ?_
              refine lv_aload_n hx hb dX10_plan_446 rfl (lv_at hl 4 rfl) ?_
              refine hk_geti hx hb hts hC_10 hown hW (gx.S hM) tt_10 75 (by decide) rfl kw_1218 ⟨rfl, rfl, rfl⟩ ffw27_x_75 dX10_plan_447 ?_
              refine hx_puti hx hb hts hC_10 hown hW hT (hx_S.rf (M := [(10, 72)])) (gx.S hM) tt_10 72 (by decide) rfl kw_1215 ⟨rfl, rfl, rfl⟩ rfl (x := fw27_x_75) ⟨by omega, by omega⟩ rfl rfl rfl (List.mem_singleton.mpr rfl) dX10_plan_450 (fun H locs h_196 eh_196 hW hT hs => ?_)
              replace ffw27_x_75 := (hs.o (gx.S hM) trivial rfl).1.trans ffw27_x_75
              replace af_zpc : h_196.2.1 zpc = clf := (funext fun j => (hs.a (gzpc.S hM) rfl j).1).trans af_zpc
              replace af_zpw : h_196.2.1 zpw = wlf := (funext fun j => (hs.a (gzpw.S hM) rfl j).1).trans af_zpw
              replace af_zpk : h_196.2.1 zpk = wsf := (funext fun j => (hs.a (gzpk.S hM) rfl j).1).trans af_zpk
              replace nia27_zfo : h_196.2.1 zfo = ia27_zfo := (funext fun j => (hs.a (gzfo.S hM) rfl j).1).trans nia27_zfo
              replace nia27_zre : h_196.2.1 zre = ia27_zre := (funext fun j => (hs.a (gzre.S hM) rfl j).1).trans nia27_zre
              replace nia27_zle : h_196.2.1 zle = ia27_zle := (funext fun j => (hs.a (gzle.S hM) rfl j).1).trans nia27_zle
              replace nia27_zmo : h_196.2.1 zmo = ia27_zmo := (funext fun j => (hs.a (gzmo.S hM) rfl j).1).trans nia27_zmo
              replace nfa_193 : h_196.2.1 zbm = fa_193 := (funext fun j => (hs.a (gzbm.S hM) rfl j).1).trans nfa_193
              replace hM := hM.tr (hs.mono (by decide))
              have f_197 : h_196.2.1 x 72 = fw27_x_75 := by rw [eh_196]; exact hx_pi_at _ _ _ _
              refine lv_iconst (v := 0) hx hb dX10_plan_453 (by decide) ?_
              refine lv_istore (lv' := [(7, .int (0 : Int32)), (6, .int (0 : Int32)), (5, .int (1000000000 : Int32)), (4, .int (0 : Int32)), (3, .int r_27), (0, .ref x), (1, .int i1), (2, .int i2)]) hx hb dX10_plan_454 hl (by decide) rfl (fun ls hl => ?_)
              have loop456 : ∀ (n456 : Nat) (iv456_7 : Int32) (ia456_zpc ia456_zpw ia456_zpk : Nat → Int32) (H : Heap) (locs : List Loc) (hL1 : List Nat) (hl1 : hx_h), 0 ≤ iv456_7.toInt → iv456_7.toInt ≤ 4 → (∀ c9 : Nat, (c9 : Int) < iv456_7.toInt → (ia456_zpc c9).toInt = ((hp_ge lM9 c9 : Nat) : Int)) → (∀ c9 : Nat, (c9 : Int) < iv456_7.toInt → (ia456_zpw c9).toInt = hp_w aF9 i2.toInt bB9.2.2 c9) → (∀ c9 : Nat, (c9 : Int) < iv456_7.toInt → (ia456_zpk c9).toInt = hz_ru (rF9 c9) (hp_w aF9 i2.toInt bB9.2.2 c9)) → (iv456_7.toInt ≤ fw27_x_75.toInt) → ∀ (ls : Array Slot), 4 - iv456_7.toInt < (n456 : Int) → hx_W T_tb (P_ty dA) (dC, dI) vwCl (hx_A L sz) s.heap hL1 hl1 s H locs → hx_T T_tb hL1 hl1 → hx_S T_tb [(10, 67), (10, 68), (10, 69), (10, 70), (10, 71), (10, 72), (10, 75), (100, 0), (101, 0), (102, 0), (103, 0), (104, 0), (105, 0), (106, 0), (107, 0)] L h hL1 hl1 → hl1.2.1 x 75 = fw27_x_75 → hl1.2.1 x 72 = fw27_x_75 → hl1.2.1 zpc = ia456_zpc → hl1.2.1 zpw = ia456_zpw → hl1.2.1 zpk = ia456_zpk → hl1.2.1 zfo = ia27_zfo → hl1.2.1 zre = ia27_zre → hl1.2.1 zle = ia27_zle → hl1.2.1 zmo = ia27_zmo → hl1.2.1 zbm = fa_193 → lv_has ls 12 [(7, .int iv456_7), (6, .int (0 : Int32)), (5, .int (1000000000 : Int32)), (4, .int (0 : Int32)), (3, .int r_27), (0, .ref x), (1, .int i1), (2, .int i2)] → W p l e ({ frames := 3, cells := 0, slots := 0, locals := 71 }) s m ([.ref x, .int i1, .int i2] : List Value).toArray below meth c H locs 0 0 (MQ below (va_Qi (fun (r : Int32) (u : List Nat × hx_h) => (∃ (td1 : Int32) (clf1 : Nat → Int32) (wlf1 : Nat → Int32) (wsf1 : Nat → Int32), u.2.2.1 x 72 = td1 ∧ u.2.2.1 zpc = clf1 ∧ u.2.2.1 zpw = wlf1 ∧ u.2.2.1 zpk = wsf1 ∧ (hp_PS ((0 ≤ i1.toInt ∧ i1.toInt < pn0.toInt) ∧ 1 ≤ i2.toInt ∧ i2.toInt ≤ 99) (hp_ol agf (hz_Rn odf szf gdf owf svf (hz_rc A plf) pof pdf psm pkf pst nw0.toInt n0.toInt.toNat) i1.toInt c0.toInt.toNat).length (hp_ge (hp_ol agf (hz_Rn odf szf gdf owf svf (hz_rc A plf) pof pdf psm pkf pst nw0.toInt n0.toInt.toNat) i1.toInt c0.toInt.toNat)) (fun c9 => hz_mi ((fun c9 => (A (plf c9).toInt.toNat).2.1 2) (hp_ge (hp_ol agf (hz_Rn odf szf gdf owf svf (hz_rc A plf) pof pdf psm pkf pst nw0.toInt n0.toInt.toNat) i1.toInt c0.toInt.toNat) c9)) ((hz_Rn odf szf gdf owf svf (hz_rc A plf) pof pdf psm pkf pst nw0.toInt n0.toInt.toNat) (hp_ge (hp_ol agf (hz_Rn odf szf gdf owf svf (hz_rc A plf) pof pdf psm pkf pst nw0.toInt n0.toInt.toNat) i1.toInt c0.toInt.toNat) c9))) (fun c9 => (hz_Rn odf szf gdf owf svf (hz_rc A plf) pof pdf psm pkf pst nw0.toInt n0.toInt.toNat) (hp_ge (hp_ol agf (hz_Rn odf szf gdf owf svf (hz_rc A plf) pof pdf psm pkf pst nw0.toInt n0.toInt.toNat) i1.toInt c0.toInt.toNat) c9)) i2.toInt ((eaf i1.toInt.toNat).toInt - (A (hv_IF A nw0.toInt a0.toInt.toNat)).2.1 3 * (hdf i1.toInt.toNat).toInt) r.toInt td0.toInt td1.toInt clf clf1 wlf wlf1 wsf wsf1)) ∧ hx_T T_tb u.1 u.2 ∧ hx_S T_tb [(10, 67), (10, 68), (10, 69), (10, 70), (10, 71), (10, 72), (10, 75), (100, 0), (101, 0), (102, 0), (103, 0), (104, 0), (105, 0), (106, 0), (107, 0)] L h u.1 u.2) (hx_E T_tb (P_ty dA) (dC, dI) vwCl (hx_A L sz)) (hx_A L sz)) ([.ref x, .int i1, .int i2] : List Value).toArray s 0 0 (hx_A L sz)) (F0 m 456 ls []) := by
                intro n456
                induction n456 with
                | zero => intro iv456_7 ia456_zpc ia456_zpw ia456_zpk H locs hL1 hl1 bliv456_7 buiv456_7 vi456_0 vi456_1 vi456_2 vi456_3 ls hn456; exfalso; omega
                | succ n456 ih456 =>
                  intro iv456_7 ia456_zpc ia456_zpw ia456_zpk H locs hL1 hl1 bliv456_7 buiv456_7 vi456_0 vi456_1 vi456_2 vi456_3 ls hn456 hW hT hM ffw27_x_75 f_197 nia456_zpc nia456_zpw nia456_zpk nia27_zfo nia27_zre nia27_zle nia27_zmo nfa_193 hl
                  have hin9 : ((iv456_7.toInt.toNat : Nat) : Int) = iv456_7.toInt := Int.toNat_of_nonneg (by omega)
                  refine lv_iload hx hb dX10_plan_456 (lv_at hl 0 rfl) ?_
                  refine lv_aload_n hx hb dX10_plan_458 rfl (lv_at hl 5 rfl) ?_
                  refine hk_geti hx hb hts hC_10 hown hW (gx.S hM) tt_10 75 (by decide) rfl kw_1218 ⟨rfl, rfl, rfl⟩ ffw27_x_75 dX10_plan_459 ?_
                  refine hb_icmp_ge (zx := iv456_7.toInt) (zy := fw27_x_75.toInt) (tgt := 530) hx hb rfl rfl dX10_plan_462 (by decide) (fun c_198 => ?_) (fun c_198 => by exfalso; omega)
                  refine lv_iload hx hb dX10_plan_530 (lv_at hl 3 rfl) ?_
                  exact hx_reti hx hb hr hlk hW ⟨⟨fw27_x_75, ia456_zpc, ia456_zpw, ia456_zpk, f_197, nia456_zpc, nia456_zpw, nia456_zpk, (hp_PS_f (F := fun l9 c9 => hz_mi ((fun c9 => (A (plf c9).toInt.toNat).2.1 2) (hp_ge l9 c9)) ((hz_Rn odf szf gdf owf svf (hz_rc A plf) pof pdf psm pkf pst nw0.toInt n0.toInt.toNat) (hp_ge l9 c9))) (G := fun l9 c9 => (hz_Rn odf szf gdf owf svf (hz_rc A plf) pof pdf psm pkf pst nw0.toInt n0.toInt.toNat) (hp_ge l9 c9)) eLM9 eaF9 erF9 hnl9 hme9 ebB9 ⟨⟨by omega, by omega⟩, by omega, by omega⟩ (by omega) (hq_o hfe9) hB9.symm (by omega) (fun i hi => ⟨vi456_0 i (by omega), vi456_1 i (by omega), vi456_2 i (by omega)⟩))⟩, hT, hM⟩ dX10_plan_532
              have zk_0 : (0 : Int32).toInt = 0 := by decide
              exact loop456 5 (0 : Int32) clf wlf wsf _ _ L_25 h_196 (by decide) (by decide) (fun c9 hc9 => by exfalso; omega) (fun c9 hc9 => by exfalso; omega) (fun c9 hc9 => by exfalso; omega) (by omega) ls (by omega) hW hT hM ffw27_x_75 f_197 af_zpc af_zpw af_zpk nia27_zfo nia27_zre nia27_zle nia27_zmo nfa_193 hl
          · skip
            refine lv_aload_n hx hb dX10_plan_35 rfl (lv_at hl 1 rfl) ?_
            refine hk_getr hx hb hts hC_10 hown hW (gx.S hM) tt_10 38 (by decide) rfl kw_1181 ⟨rfl, rfl, rfl⟩ ((hM.o gx trivial rfl).2.trans f_x_38) dX10_plan_36 ?_
            refine lv_iload_n hx hb dX10_plan_39 rfl (lv_at hl 0 rfl) ?_
            refine hx_iald hx hb hW hT (gqag.S hM) tt_73 rfl ⟨by omega, by omega⟩ dX10_plan_40 (fun x_199 ex_199 lx_199 ux_199 => ?_)
            have ax_199 : x_199 = agf iv27_3.toNatClampNeg := ex_199.trans (congrFun (hx_afS hM gqag rfl af_qag) _)
            refine lv_iload_n hx hb dX10_plan_41 rfl (lv_at hl 2 rfl) ?_
            refine hb_icmp_ne (zx := x_199.toInt) (zy := i1.toInt) (tgt := 149) hx hb rfl rfl dX10_plan_42 (by decide) (fun c_200 => ?_) (fun c_200 => ?_)
            · skip
              obtain ⟨x_201, ex_201⟩ : ∃ y : Int32, y = iv27_3 + Int32.ofInt 1 := ⟨_, rfl⟩
              have rg_202 := i32_r iv27_3
              have zx_201 : x_201.toInt = iv27_3.toInt + (1) := by rw [ex_201]; exact i32_add rfl (by decide) (by omega) (by omega)
              refine lv_iinc (v := x_201) (lv' := [(3, .int x_201), (0, .ref x), (1, .int i1), (2, .int i2)]) hx hb dX10_plan_149 hl (k := 0) rfl ex_201.symm (by decide) rfl (fun ls hl => ?_)
              refine lv_goto (tgt := 27) hx hb dX10_plan_152 (by decide) ?_
              exact ih27 x_201 fw27_x_75 ia27_zfo ia27_zre ia27_zle ia27_zmo _ _ hL1 hl1 (by omega) (by omega) (by omega) (by omega) (hp_OQ_n vi27_0.1 vi27_0.2 (by omega) (fun z => by have z9 := z.1; rw [show agf iv27_3.toInt.toNat = x_199 from ax_199.symm] at z9; omega) zx_201) vi27_1 (by omega) ls (by omega) hW hT hM ffw27_x_75 f_x_72 nia27_zfo nia27_zre nia27_zle nia27_zmo af_zpc af_zpw af_zpk (lv_sub hl [0, 1, 2, 3] rfl)
            · skip
              refine lv_aload_n hx hb dX10_plan_45 rfl (lv_at hl 1 rfl) ?_
              refine lv_iload_n hx hb dX10_plan_46 rfl (lv_at hl 0 rfl) ?_
              refine hx_goi (hx_runV (As := [.int iv27_3]) (rest := []) ⟨hx, hb, hml, hown, hts⟩ hW (gx.S hM) tt_10 (T := TX10) (N := 98) rfl (t_X10_isOpen_v l dC dI dA hL1 hl1 H.size x iv27_3 hT (gx.S hM) qfo (gqfo.S hM) ((hM.o gx trivial rfl).2.trans f_x_46) qhe (gqhe.S hM) ((hM.o gx trivial rfl).2.trans f_x_47) qju (gqju.S hM) ((hM.o gx trivial rfl).2.trans f_x_51) qod (gqod.S hM) ((hM.o gx trivial rfl).2.trans f_x_48) qsv (gqsv.S hM) ((hM.o gx trivial rfl).2.trans f_x_50) qsz (gqsz.S hM) ((hM.o gx trivial rfl).2.trans f_x_49) qgd (gqgd.S hM) ((hM.o gx trivial rfl).2.trans f_x_56) qow (gqow.S hM) ((hM.o gx trivial rfl).2.trans f_x_55) qwk (gqwk.S hM) ((hM.o gx trivial rfl).2.trans f_x_54) qpl (gqpl.S hM) ((hM.o gx trivial rfl).2.trans f_x_44) qru (gqru.S hM) ((hM.o gx trivial rfl).2.trans f_x_3) qpo (gqpo.S hM) ((hM.o gx trivial rfl).2.trans f_x_60) qpd (gqpd.S hM) ((hM.o gx trivial rfl).2.trans f_x_61) qps (gqps.S hM) ((hM.o gx trivial rfl).2.trans f_x_62) qpk (gqpk.S hM) ((hM.o gx trivial rfl).2.trans f_x_63) qpt (gqpt.S hM) ((hM.o gx trivial rfl).2.trans f_x_64) fof (hx_afS hM gqfo rfl af_qfo) hrf (hx_afS hM gqhe rfl af_qhe) udf (hx_afS hM gqju rfl af_qju) odf (hx_afS hM gqod rfl af_qod) svf (hx_afS hM gqsv rfl af_qsv) szf (hx_afS hM gqsz rfl af_qsz) gdf (hx_afS hM gqgd rfl af_qgd) owf (hx_afS hM gqow rfl af_qow) wkf (hx_afS hM gqwk rfl af_qwk) plf (hx_afS hM gqpl rfl af_qpl) rlf (hx_afS hM gqru rfl af_qru) pof (hx_afS hM gqpo rfl af_qpo) pdf (hx_afS hM gqpd rfl af_qpd) psm (hx_afS hM gqps rfl af_qps) pkf (hx_afS hM gqpk rfl af_qpk) pst (hx_afS hM gqpt rfl af_qpt) c0 ((hM.o gx trivial rfl).1.trans f_x_36) a0 ((hM.o gx trivial rfl).1.trans f_x_1) nw0 ((hM.o gx trivial rfl).1.trans f_x_0) n0 ((hM.o gx trivial rfl).1.trans f_x_59) ⟨by omega, by omega⟩ adf psf prf A hCA hPL) (cwV 1 hts (hx_gV kw_1637 kw_1634 kw_1636 kw_81 kw_103) rfl rfl rfl (by decide +kernel) ⟨Nat.le_of_ble_eq_true rfl, Nat.le_of_ble_eq_true rfl⟩) rfl hl.1 rfl (Nat.le_of_ble_eq_true rfl) dX10_plan_47 ⟨Nat.le_of_ble_eq_true rfl, Nat.le_of_ble_eq_true rfl⟩) hW (fun r_205 L_203 h_204 H locs p_206 hW => ?_)
              obtain ⟨⟨w_208, fw_208, hr_207⟩, hT, hs⟩ := p_206
              replace hT : hx_T T_tb L_203 h_204 := hT
              replace hs : hx_S T_tb [(10, 67), (10, 68), (10, 69), (10, 70), (10, 71)] hL1 hl1 L_203 h_204 := hs
              replace f_x_72 := (hs.o (gx.S hM) trivial rfl).1.trans f_x_72
              replace ffw27_x_75 := (hs.o (gx.S hM) trivial rfl).1.trans ffw27_x_75
              replace af_zpc : h_204.2.1 zpc = clf := (funext fun j => (hs.a (gzpc.S hM) rfl j).1).trans af_zpc
              replace af_zpw : h_204.2.1 zpw = wlf := (funext fun j => (hs.a (gzpw.S hM) rfl j).1).trans af_zpw
              replace af_zpk : h_204.2.1 zpk = wsf := (funext fun j => (hs.a (gzpk.S hM) rfl j).1).trans af_zpk
              replace nia27_zfo : h_204.2.1 zfo = ia27_zfo := (funext fun j => (hs.a (gzfo.S hM) rfl j).1).trans nia27_zfo
              replace nia27_zre : h_204.2.1 zre = ia27_zre := (funext fun j => (hs.a (gzre.S hM) rfl j).1).trans nia27_zre
              replace nia27_zle : h_204.2.1 zle = ia27_zle := (funext fun j => (hs.a (gzle.S hM) rfl j).1).trans nia27_zle
              replace nia27_zmo : h_204.2.1 zmo = ia27_zmo := (funext fun j => (hs.a (gzmo.S hM) rfl j).1).trans nia27_zmo
              replace ex_199 := ex_199.trans (hs.a (gqag.S hM) rfl _).1.symm
              replace hM := hM.tr (hs.mono (by decide))
              have fw_208 : h_204.2.1 x 68 = w_208 := fw_208
              have bw_208 := hT.gi (gx.S hM) tt_10 (k := 68) rfl
              rw [fw_208] at bw_208
              have bw_208 : 0 ≤ w_208.toInt ∧ w_208.toInt ≤ 610000 := bw_208
              have hro9 : w_208.toInt = (hz_Rn odf szf gdf owf svf (hz_rc A plf) pof pdf psm pkf pst nw0.toInt n0.toInt.toNat) iv27_3.toInt.toNat := hr_207.2
              have hop9 : (r_205.toInt = 1 ∧ 0 < w_208.toInt) ∨ (r_205.toInt = 0 ∧ ¬ 0 < w_208.toInt) := by rw [hr_207.2]; exact hr_207.1
              have hrv9 := hrn iv27_3.toInt.toNat (by omega); rw [← hro9] at hrv9
              clear hr_207
              refine hb_if_ne (zx := r_205.toInt) (tgt := 56) hx hb rfl dX10_plan_50 (by decide) (fun c_209 => ?_) (fun c_209 => ?_)
              · skip
                replace hop9 := hop9.resolve_right (fun z9 => c_209 z9.1)
                replace c_209 := hop9.1
                replace hop9 := hop9.2
                have hag9 : (agf iv27_3.toInt.toNat).toInt = i1.toInt := by rw [show agf iv27_3.toInt.toNat = x_199 from ax_199.symm]; omega
                have hpo9 : 0 < (hz_Rn odf szf gdf owf svf (hz_rc A plf) pof pdf psm pkf pst nw0.toInt n0.toInt.toNat) iv27_3.toInt.toNat := by rw [← hro9]; omega
                refine lv_aload_n hx hb dX10_plan_56 rfl (lv_at hl 1 rfl) ?_
                refine hk_geti hx hb hts hC_10 hown hW (gx.S hM) tt_10 75 (by decide) rfl kw_1218 ⟨rfl, rfl, rfl⟩ ffw27_x_75 dX10_plan_57 ?_
                refine lv_iconst (v := 4) hx hb dX10_plan_60 (by decide) ?_
                refine hb_icmp_ne (zx := fw27_x_75.toInt) (zy := 4) (tgt := 66) hx hb rfl (by decide) dX10_plan_61 (by decide) (fun c_210 => ?_) (fun c_210 => ?_)
                · skip
                  replace c_210 : fw27_x_75.toInt ≤ 3 := by omega
                  refine lv_aload_n hx hb dX10_plan_66 rfl (lv_at hl 1 rfl) ?_
                  refine lv_aload_n hx hb dX10_plan_67 rfl (lv_at hl 1 rfl) ?_
                  refine hk_getr hx hb hts hC_10 hown hW (gx.S hM) tt_10 44 (by decide) rfl kw_1187 ⟨rfl, rfl, rfl⟩ ((hM.o gx trivial rfl).2.trans f_x_44) dX10_plan_68 ?_
                  refine lv_iload_n hx hb dX10_plan_71 rfl (lv_at hl 0 rfl) ?_
                  refine hx_iald hx hb hW hT (gqpl.S hM) tt_79 rfl ⟨by omega, by omega⟩ dX10_plan_72 (fun x_211 ex_211 lx_211 ux_211 => ?_)
                  have ax_211 : x_211 = plf iv27_3.toNatClampNeg := ex_211.trans (congrFun (hx_afS hM gqpl rfl af_qpl) _)
                  refine lv_iconst (v := 2) hx hb dX10_plan_73 (by decide) ?_
                  have zc_2 : (2 : Int32).toInt = 2 := by decide
                  refine hx_goi (hx_runV (As := [.int x_211, .int (2 : Int32)]) (rest := []) ⟨hx, hb, hml, hown, hts⟩ hW (gx.S hM) tt_10 (T := TX10) (N := 98) rfl (t_X10_ruleOf_v l dC dI dA L_203 h_204 H.size x x_211 (2 : Int32) hT (gx.S hM) qru (gqru.S hM) ((hM.o gx trivial rfl).2.trans f_x_3) rlf (hx_afS hM gqru rfl af_qru) ⟨by omega, by omega⟩ (by decide)) (cwV 2 hts (hx_gV kw_1533 kw_1530 kw_1532 kw_66 kw_103) rfl rfl rfl (by decide +kernel) ⟨Nat.le_of_ble_eq_true rfl, Nat.le_of_ble_eq_true rfl⟩) rfl hl.1 rfl (Nat.le_of_ble_eq_true rfl) dX10_plan_74 ⟨Nat.le_of_ble_eq_true rfl, Nat.le_of_ble_eq_true rfl⟩) hW (fun r_214 L_212 h_213 H locs p_215 hW => ?_)
                  obtain ⟨hr_216, hT, hs⟩ := p_215
                  replace hT : hx_T T_tb L_212 h_213 := hT
                  replace hs : hx_S T_tb [] L_203 h_204 L_212 h_213 := hs
                  replace f_x_72 := (hs.o (gx.S hM) trivial rfl).1.trans f_x_72
                  replace ffw27_x_75 := (hs.o (gx.S hM) trivial rfl).1.trans ffw27_x_75
                  replace fw_208 := (hs.o (gx.S hM) trivial rfl).1.trans fw_208
                  replace af_zpc : h_213.2.1 zpc = clf := (funext fun j => (hs.a (gzpc.S hM) rfl j).1).trans af_zpc
                  replace af_zpw : h_213.2.1 zpw = wlf := (funext fun j => (hs.a (gzpw.S hM) rfl j).1).trans af_zpw
                  replace af_zpk : h_213.2.1 zpk = wsf := (funext fun j => (hs.a (gzpk.S hM) rfl j).1).trans af_zpk
                  replace nia27_zfo : h_213.2.1 zfo = ia27_zfo := (funext fun j => (hs.a (gzfo.S hM) rfl j).1).trans nia27_zfo
                  replace nia27_zre : h_213.2.1 zre = ia27_zre := (funext fun j => (hs.a (gzre.S hM) rfl j).1).trans nia27_zre
                  replace nia27_zle : h_213.2.1 zle = ia27_zle := (funext fun j => (hs.a (gzle.S hM) rfl j).1).trans nia27_zle
                  replace nia27_zmo : h_213.2.1 zmo = ia27_zmo := (funext fun j => (hs.a (gzmo.S hM) rfl j).1).trans nia27_zmo
                  replace ex_199 := ex_199.trans (hs.a (gqag.S hM) rfl _).1.symm
                  replace ex_211 := ex_211.trans (hs.a (gqpl.S hM) rfl _).1.symm
                  replace hM := hM.tr (hs.mono (by decide))
                  have hlp9 := hPL iv27_3.toInt (by omega) (by omega)
                  obtain ⟨_, hl29, _⟩ := hCA.2 (plf iv27_3.toInt.toNat).toInt.toNat (by omega)
                  have hlw9 : r_214.toInt = (A (plf iv27_3.toInt.toNat).toInt.toNat).2.1 2 := by rw [hr_216.1, ax_211, show (2 : Int32).toInt.toNat = 2 from by decide, ← hl29]; show _ = (if 2 < 13 then _ else 0); rw [if_pos (by decide)]; try rfl
                  have hwb9 := hwk9 iv27_3.toInt.toNat (by omega); have hwc9 := (hAB (plf iv27_3.toInt.toNat).toInt.toNat).1 2; rw [← hlw9] at hwb9 hwc9
                  refine lv_istore (lv' := [(4, .int r_214), (3, .int iv27_3), (0, .ref x), (1, .int i1), (2, .int i2)]) hx hb dX10_plan_77 hl (by decide) rfl (fun ls hl => ?_)
                  refine lv_aload_n hx hb dX10_plan_79 rfl (lv_at hl 2 rfl) ?_
                  refine hk_getr hx hb hts hC_10 hown hW (gx.S hM) tt_10 76 (by decide) rfl kw_1219 ⟨rfl, rfl, rfl⟩ ((hM.o gx trivial rfl).2.trans f_x_76) dX10_plan_80 ?_
                  refine lv_aload_n hx hb dX10_plan_83 rfl (lv_at hl 2 rfl) ?_
                  refine hk_geti hx hb hts hC_10 hown hW (gx.S hM) tt_10 75 (by decide) rfl kw_1218 ⟨rfl, rfl, rfl⟩ ffw27_x_75 dX10_plan_84 ?_
                  refine lv_iload_n hx hb dX10_plan_87 rfl (lv_at hl 1 rfl) ?_
                  have nia27_zfoO := nia27_zfo
                  refine hx_iast hx hb hW hT (hx_S.rf (M := [(102, 0)])) (gzfo.S hM) tt_102 rfl ⟨by omega, by omega⟩ rfl ⟨by omega, by omega⟩ (List.mem_singleton.mpr rfl) dX10_plan_88 (fun H locs h_217 eh_217 hW hT hs => ?_)
                  replace f_x_72 := (hs.o (gx.S hM) trivial rfl).1.trans f_x_72
                  replace ffw27_x_75 := (hs.o (gx.S hM) trivial rfl).1.trans ffw27_x_75
                  replace fw_208 := (hs.o (gx.S hM) trivial rfl).1.trans fw_208
                  replace af_zpc : h_217.2.1 zpc = clf := (funext fun j => (hs.a (gzpc.S hM) rfl j).1).trans af_zpc
                  replace af_zpw : h_217.2.1 zpw = wlf := (funext fun j => (hs.a (gzpw.S hM) rfl j).1).trans af_zpw
                  replace af_zpk : h_217.2.1 zpk = wsf := (funext fun j => (hs.a (gzpk.S hM) rfl j).1).trans af_zpk
                  replace nia27_zre : h_217.2.1 zre = ia27_zre := (funext fun j => (hs.a (gzre.S hM) rfl j).1).trans nia27_zre
                  replace nia27_zle : h_217.2.1 zle = ia27_zle := (funext fun j => (hs.a (gzle.S hM) rfl j).1).trans nia27_zle
                  replace nia27_zmo : h_217.2.1 zmo = ia27_zmo := (funext fun j => (hs.a (gzmo.S hM) rfl j).1).trans nia27_zmo
                  replace ex_199 := ex_199.trans (hs.a (gqag.S hM) rfl _).1.symm
                  replace ex_211 := ex_211.trans (hs.a (gqpl.S hM) rfl _).1.symm
                  replace hM := hM.tr (hs.mono (by decide))
                  obtain ⟨fa_218, dfa_218⟩ : ∃ g : Nat → Int32, g = hx_up ia27_zfo fw27_x_75.toNatClampNeg iv27_3 := ⟨_, rfl⟩
                  have nfa_218 : h_217.2.1 zfo = fa_218 := by rw [eh_217, dfa_218, ← nia27_zfoO]; exact hx_pi_fun _ _ _ _
                  refine lv_aload_n hx hb dX10_plan_89 rfl (lv_at hl 2 rfl) ?_
                  refine hk_getr hx hb hts hC_10 hown hW (gx.S hM) tt_10 77 (by decide) rfl kw_1220 ⟨rfl, rfl, rfl⟩ ((hM.o gx trivial rfl).2.trans f_x_77) dX10_plan_90 ?_
                  refine lv_aload_n hx hb dX10_plan_93 rfl (lv_at hl 2 rfl) ?_
                  refine hk_geti hx hb hts hC_10 hown hW (gx.S hM) tt_10 75 (by decide) rfl kw_1218 ⟨rfl, rfl, rfl⟩ ffw27_x_75 dX10_plan_94 ?_
                  refine lv_aload_n hx hb dX10_plan_97 rfl (lv_at hl 2 rfl) ?_
                  refine hk_geti hx hb hts hC_10 hown hW (gx.S hM) tt_10 68 (by decide) rfl kw_1211 ⟨rfl, rfl, rfl⟩ fw_208 dX10_plan_98 ?_
                  have nia27_zreO := nia27_zre
                  refine hx_iast hx hb hW hT (hx_S.rf (M := [(103, 0)])) (gzre.S hM) tt_103 rfl ⟨by omega, by omega⟩ rfl ⟨by omega, by omega⟩ (List.mem_singleton.mpr rfl) dX10_plan_101 (fun H locs h_219 eh_219 hW hT hs => ?_)
                  replace f_x_72 := (hs.o (gx.S hM) trivial rfl).1.trans f_x_72
                  replace ffw27_x_75 := (hs.o (gx.S hM) trivial rfl).1.trans ffw27_x_75
                  replace fw_208 := (hs.o (gx.S hM) trivial rfl).1.trans fw_208
                  replace af_zpc : h_219.2.1 zpc = clf := (funext fun j => (hs.a (gzpc.S hM) rfl j).1).trans af_zpc
                  replace af_zpw : h_219.2.1 zpw = wlf := (funext fun j => (hs.a (gzpw.S hM) rfl j).1).trans af_zpw
                  replace af_zpk : h_219.2.1 zpk = wsf := (funext fun j => (hs.a (gzpk.S hM) rfl j).1).trans af_zpk
                  replace nia27_zle : h_219.2.1 zle = ia27_zle := (funext fun j => (hs.a (gzle.S hM) rfl j).1).trans nia27_zle
                  replace nia27_zmo : h_219.2.1 zmo = ia27_zmo := (funext fun j => (hs.a (gzmo.S hM) rfl j).1).trans nia27_zmo
                  replace nfa_218 : h_219.2.1 zfo = fa_218 := (funext fun j => (hs.a (gzfo.S hM) rfl j).1).trans nfa_218
                  replace ex_199 := ex_199.trans (hs.a (gqag.S hM) rfl _).1.symm
                  replace ex_211 := ex_211.trans (hs.a (gqpl.S hM) rfl _).1.symm
                  replace hM := hM.tr (hs.mono (by decide))
                  obtain ⟨fa_220, dfa_220⟩ : ∃ g : Nat → Int32, g = hx_up ia27_zre fw27_x_75.toNatClampNeg w_208 := ⟨_, rfl⟩
                  have nfa_220 : h_219.2.1 zre = fa_220 := by rw [eh_219, dfa_220, ← nia27_zreO]; exact hx_pi_fun _ _ _ _
                  refine lv_aload_n hx hb dX10_plan_102 rfl (lv_at hl 2 rfl) ?_
                  refine hk_getr hx hb hts hC_10 hown hW (gx.S hM) tt_10 78 (by decide) rfl kw_1221 ⟨rfl, rfl, rfl⟩ ((hM.o gx trivial rfl).2.trans f_x_78) dX10_plan_103 ?_
                  refine lv_aload_n hx hb dX10_plan_106 rfl (lv_at hl 2 rfl) ?_
                  refine hk_geti hx hb hts hC_10 hown hW (gx.S hM) tt_10 75 (by decide) rfl kw_1218 ⟨rfl, rfl, rfl⟩ ffw27_x_75 dX10_plan_107 ?_
                  refine lv_iload hx hb dX10_plan_110 (lv_at hl 0 rfl) ?_
                  refine lv_aload_n hx hb dX10_plan_112 rfl (lv_at hl 2 rfl) ?_
                  refine hk_geti hx hb hts hC_10 hown hW (gx.S hM) tt_10 68 (by decide) rfl kw_1211 ⟨rfl, rfl, rfl⟩ fw_208 dX10_plan_113 ?_
                  refine hb_icmp_ge (zx := r_214.toInt) (zy := w_208.toInt) (tgt := 124) hx hb rfl rfl dX10_plan_116 (by decide) (fun c_221 => ?_) (fun c_221 => ?_)
                  · skip
                    refine lv_aload_n hx hb dX10_plan_124 rfl (lv_at hl 2 rfl) ?_
                    refine hk_geti hx hb hts hC_10 hown hW (gx.S hM) tt_10 68 (by decide) rfl kw_1211 ⟨rfl, rfl, rfl⟩ fw_208 dX10_plan_125 ?_
                    have hlx9 : w_208.toInt = hz_mi ((A (plf iv27_3.toInt.toNat).toInt.toNat).2.1 2) ((hz_Rn odf szf gdf owf svf (hz_rc A plf) pof pdf psm pkf pst nw0.toInt n0.toInt.toNat) iv27_3.toInt.toNat) := by rw [← hlw9, ← hro9]; unfold hz_mi; split <;> omega
                    have nia27_zleO := nia27_zle
                    refine hx_iast hx hb hW hT (hx_S.rf (M := [(104, 0)])) (gzle.S hM) tt_104 rfl ⟨by omega, by omega⟩ rfl ⟨by omega, by omega⟩ (List.mem_singleton.mpr rfl) dX10_plan_128 (fun H locs h_222 eh_222 hW hT hs => ?_)
                    replace f_x_72 := (hs.o (gx.S hM) trivial rfl).1.trans f_x_72
                    replace ffw27_x_75 := (hs.o (gx.S hM) trivial rfl).1.trans ffw27_x_75
                    replace fw_208 := (hs.o (gx.S hM) trivial rfl).1.trans fw_208
                    replace af_zpc : h_222.2.1 zpc = clf := (funext fun j => (hs.a (gzpc.S hM) rfl j).1).trans af_zpc
                    replace af_zpw : h_222.2.1 zpw = wlf := (funext fun j => (hs.a (gzpw.S hM) rfl j).1).trans af_zpw
                    replace af_zpk : h_222.2.1 zpk = wsf := (funext fun j => (hs.a (gzpk.S hM) rfl j).1).trans af_zpk
                    replace nia27_zmo : h_222.2.1 zmo = ia27_zmo := (funext fun j => (hs.a (gzmo.S hM) rfl j).1).trans nia27_zmo
                    replace nfa_218 : h_222.2.1 zfo = fa_218 := (funext fun j => (hs.a (gzfo.S hM) rfl j).1).trans nfa_218
                    replace nfa_220 : h_222.2.1 zre = fa_220 := (funext fun j => (hs.a (gzre.S hM) rfl j).1).trans nfa_220
                    replace ex_199 := ex_199.trans (hs.a (gqag.S hM) rfl _).1.symm
                    replace ex_211 := ex_211.trans (hs.a (gqpl.S hM) rfl _).1.symm
                    replace hM := hM.tr (hs.mono (by decide))
                    obtain ⟨fa_223, dfa_223⟩ : ∃ g : Nat → Int32, g = hx_up ia27_zle fw27_x_75.toNatClampNeg w_208 := ⟨_, rfl⟩
                    have nfa_223 : h_222.2.1 zle = fa_223 := by rw [eh_222, dfa_223, ← nia27_zleO]; exact hx_pi_fun _ _ _ _
                    refine lv_aload_n hx hb dX10_plan_129 rfl (lv_at hl 2 rfl) ?_
                    refine hk_getr hx hb hts hC_10 hown hW (gx.S hM) tt_10 79 (by decide) rfl kw_1222 ⟨rfl, rfl, rfl⟩ ((hM.o gx trivial rfl).2.trans f_x_79) dX10_plan_130 ?_
                    refine lv_aload_n hx hb dX10_plan_133 rfl (lv_at hl 2 rfl) ?_
                    refine hk_geti hx hb hts hC_10 hown hW (gx.S hM) tt_10 75 (by decide) rfl kw_1218 ⟨rfl, rfl, rfl⟩ ffw27_x_75 dX10_plan_134 ?_
                    refine lv_iconst (v := 0) hx hb dX10_plan_137 (by decide) ?_
                    have nia27_zmoO := nia27_zmo
                    refine hx_iast hx hb hW hT (hx_S.rf (M := [(105, 0)])) (gzmo.S hM) tt_105 rfl ⟨by omega, by omega⟩ rfl (by decide) (List.mem_singleton.mpr rfl) dX10_plan_138 (fun H locs h_224 eh_224 hW hT hs => ?_)
                    replace f_x_72 := (hs.o (gx.S hM) trivial rfl).1.trans f_x_72
                    replace ffw27_x_75 := (hs.o (gx.S hM) trivial rfl).1.trans ffw27_x_75
                    replace fw_208 := (hs.o (gx.S hM) trivial rfl).1.trans fw_208
                    replace af_zpc : h_224.2.1 zpc = clf := (funext fun j => (hs.a (gzpc.S hM) rfl j).1).trans af_zpc
                    replace af_zpw : h_224.2.1 zpw = wlf := (funext fun j => (hs.a (gzpw.S hM) rfl j).1).trans af_zpw
                    replace af_zpk : h_224.2.1 zpk = wsf := (funext fun j => (hs.a (gzpk.S hM) rfl j).1).trans af_zpk
                    replace nfa_218 : h_224.2.1 zfo = fa_218 := (funext fun j => (hs.a (gzfo.S hM) rfl j).1).trans nfa_218
                    replace nfa_220 : h_224.2.1 zre = fa_220 := (funext fun j => (hs.a (gzre.S hM) rfl j).1).trans nfa_220
                    replace nfa_223 : h_224.2.1 zle = fa_223 := (funext fun j => (hs.a (gzle.S hM) rfl j).1).trans nfa_223
                    replace ex_199 := ex_199.trans (hs.a (gqag.S hM) rfl _).1.symm
                    replace ex_211 := ex_211.trans (hs.a (gqpl.S hM) rfl _).1.symm
                    replace hM := hM.tr (hs.mono (by decide))
                    obtain ⟨fa_225, dfa_225⟩ : ∃ g : Nat → Int32, g = hx_up ia27_zmo fw27_x_75.toNatClampNeg (0 : Int32) := ⟨_, rfl⟩
                    have nfa_225 : h_224.2.1 zmo = fa_225 := by rw [eh_224, dfa_225, ← nia27_zmoO]; exact hx_pi_fun _ _ _ _
                    refine lv_aload_n hx hb dX10_plan_139 rfl (lv_at hl 2 rfl) ?_
                    refine lv_dup hx hb dX10_plan_140 rfl ?_
                    refine hk_geti hx hb hts hC_10 hown hW (gx.S hM) tt_10 75 (by decide) rfl kw_1218 ⟨rfl, rfl, rfl⟩ ffw27_x_75 dX10_plan_141 ?_
                    refine lv_iconst (v := 1) hx hb dX10_plan_144 (by decide) ?_
                    refine lv_iadd hx hb dX10_plan_145 ?_
                    have rg_226 := i32_r fw27_x_75
                    refine lv_topi (fun x_227 ex_227 => ?_)
                    have zx_227 : x_227.toInt = fw27_x_75.toInt + 1 := by rw [ex_227]; exact i32_add rfl (by decide) (by omega) (by omega)
                    refine hx_puti hx hb hts hC_10 hown hW hT (hx_S.rf (M := [(10, 75)])) (gx.S hM) tt_10 75 (by decide) rfl kw_1218 ⟨rfl, rfl, rfl⟩ rfl (x := x_227) ⟨by omega, by omega⟩ rfl rfl rfl (List.mem_singleton.mpr rfl) dX10_plan_146 (fun H locs h_228 eh_228 hW hT hs => ?_)
                    replace f_x_72 := (hs.o (gx.S hM) trivial rfl).1.trans f_x_72
                    replace fw_208 := (hs.o (gx.S hM) trivial rfl).1.trans fw_208
                    replace af_zpc : h_228.2.1 zpc = clf := (funext fun j => (hs.a (gzpc.S hM) rfl j).1).trans af_zpc
                    replace af_zpw : h_228.2.1 zpw = wlf := (funext fun j => (hs.a (gzpw.S hM) rfl j).1).trans af_zpw
                    replace af_zpk : h_228.2.1 zpk = wsf := (funext fun j => (hs.a (gzpk.S hM) rfl j).1).trans af_zpk
                    replace nfa_218 : h_228.2.1 zfo = fa_218 := (funext fun j => (hs.a (gzfo.S hM) rfl j).1).trans nfa_218
                    replace nfa_220 : h_228.2.1 zre = fa_220 := (funext fun j => (hs.a (gzre.S hM) rfl j).1).trans nfa_220
                    replace nfa_223 : h_228.2.1 zle = fa_223 := (funext fun j => (hs.a (gzle.S hM) rfl j).1).trans nfa_223
                    replace nfa_225 : h_228.2.1 zmo = fa_225 := (funext fun j => (hs.a (gzmo.S hM) rfl j).1).trans nfa_225
                    replace ex_199 := ex_199.trans (hs.a (gqag.S hM) rfl _).1.symm
                    replace ex_211 := ex_211.trans (hs.a (gqpl.S hM) rfl _).1.symm
                    replace hM := hM.tr (hs.mono (by decide))
                    have f_229 : h_228.2.1 x 75 = x_227 := by rw [eh_228]; exact hx_pi_at _ _ _ _
                    obtain ⟨x_230, ex_230⟩ : ∃ y : Int32, y = iv27_3 + Int32.ofInt 1 := ⟨_, rfl⟩
                    have rg_231 := i32_r iv27_3
                    have zx_230 : x_230.toInt = iv27_3.toInt + (1) := by rw [ex_230]; exact i32_add rfl (by decide) (by omega) (by omega)
                    refine lv_iinc (v := x_230) (lv' := [(3, .int x_230), (4, .int r_214), (0, .ref x), (1, .int i1), (2, .int i2)]) hx hb dX10_plan_149 hl (k := 1) rfl ex_230.symm (by decide) rfl (fun ls hl => ?_)
                    refine lv_goto (tgt := 27) hx hb dX10_plan_152 (by decide) ?_
                    exact ih27 x_230 x_227 fa_218 fa_220 fa_223 fa_225 _ _ L_212 h_228 (by omega) (by omega) (by omega) (by omega) (hp_OQ_y (x := iv27_3) (y := w_208) (z := w_208) vi27_0.1 vi27_0.2 (by omega) hag9 hpo9 (by unfold Int32.toNatClampNeg; omega) dfa_218 dfa_220 dfa_223 rfl hro9 hlx9 zx_227 zx_230) (hp_z_s vi27_1 (by unfold Int32.toNatClampNeg; omega) dfa_225 zx_227) (by omega) ls (by omega) hW hT hM f_229 f_x_72 nfa_218 nfa_220 nfa_223 nfa_225 af_zpc af_zpw af_zpk (lv_sub hl [0, 2, 3, 4] rfl)
                  · skip
                    refine lv_iload hx hb dX10_plan_119 (lv_at hl 0 rfl) ?_
                    refine lv_goto (tgt := 128) hx hb dX10_plan_121 (by decide) ?_
                    have hlx9 : r_214.toInt = hz_mi ((A (plf iv27_3.toInt.toNat).toInt.toNat).2.1 2) ((hz_Rn odf szf gdf owf svf (hz_rc A plf) pof pdf psm pkf pst nw0.toInt n0.toInt.toNat) iv27_3.toInt.toNat) := by rw [← hlw9, ← hro9]; unfold hz_mi; split <;> omega
                    have nia27_zleO := nia27_zle
                    refine hx_iast hx hb hW hT (hx_S.rf (M := [(104, 0)])) (gzle.S hM) tt_104 rfl ⟨by omega, by omega⟩ rfl ⟨by omega, by omega⟩ (List.mem_singleton.mpr rfl) dX10_plan_128 (fun H locs h_232 eh_232 hW hT hs => ?_)
                    replace f_x_72 := (hs.o (gx.S hM) trivial rfl).1.trans f_x_72
                    replace ffw27_x_75 := (hs.o (gx.S hM) trivial rfl).1.trans ffw27_x_75
                    replace fw_208 := (hs.o (gx.S hM) trivial rfl).1.trans fw_208
                    replace af_zpc : h_232.2.1 zpc = clf := (funext fun j => (hs.a (gzpc.S hM) rfl j).1).trans af_zpc
                    replace af_zpw : h_232.2.1 zpw = wlf := (funext fun j => (hs.a (gzpw.S hM) rfl j).1).trans af_zpw
                    replace af_zpk : h_232.2.1 zpk = wsf := (funext fun j => (hs.a (gzpk.S hM) rfl j).1).trans af_zpk
                    replace nia27_zmo : h_232.2.1 zmo = ia27_zmo := (funext fun j => (hs.a (gzmo.S hM) rfl j).1).trans nia27_zmo
                    replace nfa_218 : h_232.2.1 zfo = fa_218 := (funext fun j => (hs.a (gzfo.S hM) rfl j).1).trans nfa_218
                    replace nfa_220 : h_232.2.1 zre = fa_220 := (funext fun j => (hs.a (gzre.S hM) rfl j).1).trans nfa_220
                    replace ex_199 := ex_199.trans (hs.a (gqag.S hM) rfl _).1.symm
                    replace ex_211 := ex_211.trans (hs.a (gqpl.S hM) rfl _).1.symm
                    replace hM := hM.tr (hs.mono (by decide))
                    obtain ⟨fa_233, dfa_233⟩ : ∃ g : Nat → Int32, g = hx_up ia27_zle fw27_x_75.toNatClampNeg r_214 := ⟨_, rfl⟩
                    have nfa_233 : h_232.2.1 zle = fa_233 := by rw [eh_232, dfa_233, ← nia27_zleO]; exact hx_pi_fun _ _ _ _
                    refine lv_aload_n hx hb dX10_plan_129 rfl (lv_at hl 2 rfl) ?_
                    refine hk_getr hx hb hts hC_10 hown hW (gx.S hM) tt_10 79 (by decide) rfl kw_1222 ⟨rfl, rfl, rfl⟩ ((hM.o gx trivial rfl).2.trans f_x_79) dX10_plan_130 ?_
                    refine lv_aload_n hx hb dX10_plan_133 rfl (lv_at hl 2 rfl) ?_
                    refine hk_geti hx hb hts hC_10 hown hW (gx.S hM) tt_10 75 (by decide) rfl kw_1218 ⟨rfl, rfl, rfl⟩ ffw27_x_75 dX10_plan_134 ?_
                    refine lv_iconst (v := 0) hx hb dX10_plan_137 (by decide) ?_
                    have nia27_zmoO := nia27_zmo
                    refine hx_iast hx hb hW hT (hx_S.rf (M := [(105, 0)])) (gzmo.S hM) tt_105 rfl ⟨by omega, by omega⟩ rfl (by decide) (List.mem_singleton.mpr rfl) dX10_plan_138 (fun H locs h_234 eh_234 hW hT hs => ?_)
                    replace f_x_72 := (hs.o (gx.S hM) trivial rfl).1.trans f_x_72
                    replace ffw27_x_75 := (hs.o (gx.S hM) trivial rfl).1.trans ffw27_x_75
                    replace fw_208 := (hs.o (gx.S hM) trivial rfl).1.trans fw_208
                    replace af_zpc : h_234.2.1 zpc = clf := (funext fun j => (hs.a (gzpc.S hM) rfl j).1).trans af_zpc
                    replace af_zpw : h_234.2.1 zpw = wlf := (funext fun j => (hs.a (gzpw.S hM) rfl j).1).trans af_zpw
                    replace af_zpk : h_234.2.1 zpk = wsf := (funext fun j => (hs.a (gzpk.S hM) rfl j).1).trans af_zpk
                    replace nfa_218 : h_234.2.1 zfo = fa_218 := (funext fun j => (hs.a (gzfo.S hM) rfl j).1).trans nfa_218
                    replace nfa_220 : h_234.2.1 zre = fa_220 := (funext fun j => (hs.a (gzre.S hM) rfl j).1).trans nfa_220
                    replace nfa_233 : h_234.2.1 zle = fa_233 := (funext fun j => (hs.a (gzle.S hM) rfl j).1).trans nfa_233
                    replace ex_199 := ex_199.trans (hs.a (gqag.S hM) rfl _).1.symm
                    replace ex_211 := ex_211.trans (hs.a (gqpl.S hM) rfl _).1.symm
                    replace hM := hM.tr (hs.mono (by decide))
                    obtain ⟨fa_235, dfa_235⟩ : ∃ g : Nat → Int32, g = hx_up ia27_zmo fw27_x_75.toNatClampNeg (0 : Int32) := ⟨_, rfl⟩
                    have nfa_235 : h_234.2.1 zmo = fa_235 := by rw [eh_234, dfa_235, ← nia27_zmoO]; exact hx_pi_fun _ _ _ _
                    refine lv_aload_n hx hb dX10_plan_139 rfl (lv_at hl 2 rfl) ?_
                    refine lv_dup hx hb dX10_plan_140 rfl ?_
                    refine hk_geti hx hb hts hC_10 hown hW (gx.S hM) tt_10 75 (by decide) rfl kw_1218 ⟨rfl, rfl, rfl⟩ ffw27_x_75 dX10_plan_141 ?_
                    refine lv_iconst (v := 1) hx hb dX10_plan_144 (by decide) ?_
                    refine lv_iadd hx hb dX10_plan_145 ?_
                    have rg_236 := i32_r fw27_x_75
                    refine lv_topi (fun x_237 ex_237 => ?_)
                    have zx_237 : x_237.toInt = fw27_x_75.toInt + 1 := by rw [ex_237]; exact i32_add rfl (by decide) (by omega) (by omega)
                    refine hx_puti hx hb hts hC_10 hown hW hT (hx_S.rf (M := [(10, 75)])) (gx.S hM) tt_10 75 (by decide) rfl kw_1218 ⟨rfl, rfl, rfl⟩ rfl (x := x_237) ⟨by omega, by omega⟩ rfl rfl rfl (List.mem_singleton.mpr rfl) dX10_plan_146 (fun H locs h_238 eh_238 hW hT hs => ?_)
                    replace f_x_72 := (hs.o (gx.S hM) trivial rfl).1.trans f_x_72
                    replace fw_208 := (hs.o (gx.S hM) trivial rfl).1.trans fw_208
                    replace af_zpc : h_238.2.1 zpc = clf := (funext fun j => (hs.a (gzpc.S hM) rfl j).1).trans af_zpc
                    replace af_zpw : h_238.2.1 zpw = wlf := (funext fun j => (hs.a (gzpw.S hM) rfl j).1).trans af_zpw
                    replace af_zpk : h_238.2.1 zpk = wsf := (funext fun j => (hs.a (gzpk.S hM) rfl j).1).trans af_zpk
                    replace nfa_218 : h_238.2.1 zfo = fa_218 := (funext fun j => (hs.a (gzfo.S hM) rfl j).1).trans nfa_218
                    replace nfa_220 : h_238.2.1 zre = fa_220 := (funext fun j => (hs.a (gzre.S hM) rfl j).1).trans nfa_220
                    replace nfa_233 : h_238.2.1 zle = fa_233 := (funext fun j => (hs.a (gzle.S hM) rfl j).1).trans nfa_233
                    replace nfa_235 : h_238.2.1 zmo = fa_235 := (funext fun j => (hs.a (gzmo.S hM) rfl j).1).trans nfa_235
                    replace ex_199 := ex_199.trans (hs.a (gqag.S hM) rfl _).1.symm
                    replace ex_211 := ex_211.trans (hs.a (gqpl.S hM) rfl _).1.symm
                    replace hM := hM.tr (hs.mono (by decide))
                    have f_239 : h_238.2.1 x 75 = x_237 := by rw [eh_238]; exact hx_pi_at _ _ _ _
                    obtain ⟨x_240, ex_240⟩ : ∃ y : Int32, y = iv27_3 + Int32.ofInt 1 := ⟨_, rfl⟩
                    have rg_241 := i32_r iv27_3
                    have zx_240 : x_240.toInt = iv27_3.toInt + (1) := by rw [ex_240]; exact i32_add rfl (by decide) (by omega) (by omega)
                    refine lv_iinc (v := x_240) (lv' := [(3, .int x_240), (4, .int r_214), (0, .ref x), (1, .int i1), (2, .int i2)]) hx hb dX10_plan_149 hl (k := 1) rfl ex_240.symm (by decide) rfl (fun ls hl => ?_)
                    refine lv_goto (tgt := 27) hx hb dX10_plan_152 (by decide) ?_
                    exact ih27 x_240 x_237 fa_218 fa_220 fa_233 fa_235 _ _ L_212 h_238 (by omega) (by omega) (by omega) (by omega) (hp_OQ_y (x := iv27_3) (y := w_208) (z := r_214) vi27_0.1 vi27_0.2 (by omega) hag9 hpo9 (by unfold Int32.toNatClampNeg; omega) dfa_218 dfa_220 dfa_233 rfl hro9 hlx9 zx_237 zx_240) (hp_z_s vi27_1 (by unfold Int32.toNatClampNeg; omega) dfa_235 zx_237) (by omega) ls (by omega) hW hT hM f_239 f_x_72 nfa_218 nfa_220 nfa_233 nfa_235 af_zpc af_zpw af_zpk (lv_sub hl [0, 2, 3, 4] rfl)
                · skip
                  have hlm9 := hp_ol_m (ag := agf) (Rn := (hz_Rn odf szf gdf owf svf (hz_rc A plf) pof pdf psm pkf pst nw0.toInt n0.toInt.toNat)) (q := i1.toInt) (a := iv27_3.toInt.toNat + 1) c0.toInt.toNat (by omega)
                  have hlg9 : (hp_ol agf (hz_Rn odf szf gdf owf svf (hz_rc A plf) pof pdf psm pkf pst nw0.toInt n0.toInt.toNat) i1.toInt (iv27_3.toInt.toNat + 1)).length = (hp_ol agf (hz_Rn odf szf gdf owf svf (hz_rc A plf) pof pdf psm pkf pst nw0.toInt n0.toInt.toNat) i1.toInt iv27_3.toInt.toNat).length + 1 := by simp only [hp_ol]; rw [if_pos ⟨hag9, hpo9⟩, List.length_append]; rfl
                  have hgt9 : 4 < (hp_ol agf (hz_Rn odf szf gdf owf svf (hz_rc A plf) pof pdf psm pkf pst nw0.toInt n0.toInt.toNat) i1.toInt c0.toInt.toNat).length := by have h9 := vi27_0.2; omega
                  refine lv_iconst (v := -1) hx hb dX10_plan_64 (by decide) ?_
                  exact hx_reti hx hb hr hlk hW ⟨⟨td0, clf, wlf, wsf, f_x_72, af_zpc, af_zpw, af_zpk, (Or.inl ⟨Or.inr (Or.inl ⟨⟨⟨by omega, by omega⟩, by omega, by omega⟩, hgt9, by decide⟩), rfl, rfl, rfl, rfl⟩)⟩, hT, hM⟩ dX10_plan_65
              · skip
                replace hop9 := hop9.resolve_left (fun z9 => absurd (c_209.symm.trans z9.1) (by decide))
                replace hop9 := hop9.2
                refine lv_goto (tgt := 149) hx hb dX10_plan_53 (by decide) ?_
                obtain ⟨x_242, ex_242⟩ : ∃ y : Int32, y = iv27_3 + Int32.ofInt 1 := ⟨_, rfl⟩
                have rg_243 := i32_r iv27_3
                have zx_242 : x_242.toInt = iv27_3.toInt + (1) := by rw [ex_242]; exact i32_add rfl (by decide) (by omega) (by omega)
                refine lv_iinc (v := x_242) (lv' := [(3, .int x_242), (0, .ref x), (1, .int i1), (2, .int i2)]) hx hb dX10_plan_149 hl (k := 0) rfl ex_242.symm (by decide) rfl (fun ls hl => ?_)
                refine lv_goto (tgt := 27) hx hb dX10_plan_152 (by decide) ?_
                exact ih27 x_242 fw27_x_75 ia27_zfo ia27_zre ia27_zle ia27_zmo _ _ L_203 h_204 (by omega) (by omega) (by omega) (by omega) (hp_OQ_n vi27_0.1 vi27_0.2 (by omega) (fun z => by have z9 := z.2; rw [← hro9] at z9; omega) zx_242) vi27_1 (by omega) ls (by omega) hW hT hM ffw27_x_75 f_x_72 nia27_zfo nia27_zre nia27_zle nia27_zmo af_zpc af_zpw af_zpk (lv_sub hl [0, 1, 2, 3] rfl)
      have zk_0 : (0 : Int32).toInt = 0 := by decide
      have zk_0 : (0 : Int32).toInt = 0 := by decide
      exact loop27 101 (0 : Int32) (0 : Int32) fa_15 fa_16 fa_17 fa_18 _ _ L_7 h_13 (by decide) (by decide) (by decide) (by decide) (by rw [zk_0]; exact ⟨hp_OQ_0, rfl⟩) (fun i hi => by exfalso; have zf : (0 : Int32).toInt = 0 := (by decide); omega) (by omega) ls (by omega) hW hT hM f_14 f_x_72 nfa_15 nfa_16 nfa_17 nfa_18 af_zpc af_zpw af_zpk hl
    · skip
      replace hr_11 := hr_11.resolve_right (fun z9 => absurd (c_12.symm.trans z9.1) (by decide))
      replace hr_11 := hr_11.2
      refine lv_iconst (v := -1) hx hb dX10_plan_18 (by decide) ?_
      exact hx_reti hx hb hr hlk hW ⟨⟨td0, clf, wlf, wsf, f_x_72, af_zpc, af_zpw, af_zpk, (Or.inl ⟨Or.inl ⟨(fun hc => by have h1 := hc.1; have h2 := hc.2; omega), by decide⟩, rfl, rfl, rfl, rfl⟩)⟩, hT, hM⟩ dX10_plan_19
