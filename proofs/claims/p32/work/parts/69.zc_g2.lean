
set_option maxHeartbeats 4000000 in
set_option maxRecDepth 100000 in
theorem t_X10_net_v (l : Launch) (dC : Nat → ClassId) (dI : Nat → Nat → Nat) (dA : Nat → ClassId) (L : List Nat) (h : hx_h) (sz : Nat) (x : Nat) (hT : hx_T T_tb L h) (gx : hx_g L h x 10) (qfo : Nat) (gqfo : hx_g L h qfo 81) (f_x_46 : h.2.2 x 46 = some qfo) (qhe : Nat) (gqhe : hx_g L h qhe 82) (f_x_47 : h.2.2 x 47 = some qhe) (qju : Nat) (gqju : hx_g L h qju 86) (f_x_51 : h.2.2 x 51 = some qju) (qod : Nat) (gqod : hx_g L h qod 83) (f_x_48 : h.2.2 x 48 = some qod) (qsv : Nat) (gqsv : hx_g L h qsv 85) (f_x_50 : h.2.2 x 50 = some qsv) (qsz : Nat) (gqsz : hx_g L h qsz 84) (f_x_49 : h.2.2 x 49 = some qsz) (qgd : Nat) (gqgd : hx_g L h qgd 91) (f_x_56 : h.2.2 x 56 = some qgd) (qow : Nat) (gqow : hx_g L h qow 90) (f_x_55 : h.2.2 x 55 = some qow) (qwk : Nat) (gqwk : hx_g L h qwk 89) (f_x_54 : h.2.2 x 54 = some qwk) (qpl : Nat) (gqpl : hx_g L h qpl 79) (f_x_44 : h.2.2 x 44 = some qpl) (qru : Nat) (gqru : hx_g L h qru 50) (f_x_3 : h.2.2 x 3 = some qru) (qpo : Nat) (gqpo : hx_g L h qpo 93) (f_x_60 : h.2.2 x 60 = some qpo) (qpd : Nat) (gqpd : hx_g L h qpd 94) (f_x_61 : h.2.2 x 61 = some qpd) (qps : Nat) (gqps : hx_g L h qps 95) (f_x_62 : h.2.2 x 62 = some qps) (qpk : Nat) (gqpk : hx_g L h qpk 96) (f_x_63 : h.2.2 x 63 = some qpk) (qpt : Nat) (gqpt : hx_g L h qpt 97) (f_x_64 : h.2.2 x 64 = some qpt) (qag : Nat) (gqag : hx_g L h qag 73) (f_x_38 : h.2.2 x 38 = some qag) (qby : Nat) (gqby : hx_g L h qby 72) (f_x_37 : h.2.2 x 37 = some qby) (qdb : Nat) (gqdb : hx_g L h qdb 108) (f_x_82 : h.2.2 x 82 = some qdb) (qrg : Nat) (gqrg : hx_g L h qrg 111) (f_x_89 : h.2.2 x 89 = some qrg) (qbr : Nat) (gqbr : hx_g L h qbr 110) (f_x_88 : h.2.2 x 88 = some qbr) (qrl : Nat) (gqrl : hx_g L h qrl 109) (f_x_85 : h.2.2 x 85 = some qrl) (fof : Nat → Int32) (af_qfo : h.2.1 qfo = fof) (hrf : Nat → Int32) (af_qhe : h.2.1 qhe = hrf) (udf : Nat → Int32) (af_qju : h.2.1 qju = udf) (odf : Nat → Int32) (af_qod : h.2.1 qod = odf) (svf : Nat → Int32) (af_qsv : h.2.1 qsv = svf) (szf : Nat → Int32) (af_qsz : h.2.1 qsz = szf) (gdf : Nat → Int32) (af_qgd : h.2.1 qgd = gdf) (owf : Nat → Int32) (af_qow : h.2.1 qow = owf) (wkf : Nat → Int32) (af_qwk : h.2.1 qwk = wkf) (plf : Nat → Int32) (af_qpl : h.2.1 qpl = plf) (rlf : Nat → Int32) (af_qru : h.2.1 qru = rlf) (pof : Nat → Int32) (af_qpo : h.2.1 qpo = pof) (pdf : Nat → Int32) (af_qpd : h.2.1 qpd = pdf) (psm : Nat → Int32) (af_qps : h.2.1 qps = psm) (pkf : Nat → Int32) (af_qpk : h.2.1 qpk = pkf) (pst : Nat → Int32) (af_qpt : h.2.1 qpt = pst) (agf : Nat → Int32) (af_qag : h.2.1 qag = agf) (byf : Nat → Int32) (af_qby : h.2.1 qby = byf) (c0 : Int32) (f_x_36 : h.2.1 x 36 = c0) (a0 : Int32) (f_x_1 : h.2.1 x 1 = a0) (nw0 : Int32) (f_x_0 : h.2.1 x 0 = nw0) (n0 : Int32) (f_x_59 : h.2.1 x 59 = n0) (pn0 : Int32) (f_x_20 : h.2.1 x 20 = pn0) (adf psf prf : Nat → Int32) (A : Nat → hv_act) (hCA : hv_CA adf rlf psf prf a0.toInt A) (hPL : hx_PL plf c0.toInt a0.toInt) (hAB : ∀ j : Nat, (∀ k, 0 ≤ (A j).2.1 k ∧ (A j).2.1 k ≤ 9999) ∧ hv_OK (A j).2.2) (hCB : hz_CB odf wkf owf szf gdf svf) (hps : ∀ j, j < 600 → 0 ≤ (psm j).toInt ∧ (psm j).toInt ≤ 610000) (hag : ∀ c, c < c0.toInt.toNat → 0 ≤ (agf c).toInt ∧ (agf c).toInt < 40 ∧ 0 ≤ (byf c).toInt ∧ (byf c).toInt < 40) : Met l yX10_net (Cond.code yX10_net cX10_net 5 (some .int) :: hx_all) ({ frames := 4, cells := 0, slots := 0, locals := 99 }) (va_Pc [.ref x] (hx_B T_tb (P_ty dA) (dC, dI) vwCl L h sz)) (va_Qi (fun (r : Int32) (u : List Nat × hx_h) => (∃ (n1 : Int32) (pof1 : Nat → Int32) (pdf1 : Nat → Int32) (psm1 : Nat → Int32) (pkf1 : Nat → Int32) (pst1 : Nat → Int32) (rm1 : Int32) (rgl1 : Nat → Int32) (hn1 : Int32), u.2.2.1 x 59 = n1 ∧ u.2.2.1 qpo = pof1 ∧ u.2.2.1 qpd = pdf1 ∧ u.2.2.1 qps = psm1 ∧ u.2.2.1 qpk = pkf1 ∧ u.2.2.1 qpt = pst1 ∧ u.2.2.1 x 84 = rm1 ∧ u.2.2.1 qrl = rgl1 ∧ u.2.2.1 x 83 = hn1 ∧ (hn1.toInt = 1 ∧ hz_NR (hz_RP odf szf gdf owf svf (hz_rc A plf) nw0.toInt) agf byf c0.toInt.toNat pn0.toInt nw0 ((pof, pdf, psm, pkf, pst, n0.toInt.toNat) : hz_P) ((pof1, pdf1, psm1, pkf1, pst1, n1.toInt.toNat) : hz_P) r.toInt rm1.toInt rgl1)) ∧ hx_T T_tb u.1 u.2 ∧ hx_S T_tb [(10, 59), (10, 67), (10, 68), (10, 69), (10, 70), (10, 71), (10, 83), (10, 84), (10, 86), (10, 87), (93, 0), (94, 0), (95, 0), (96, 0), (97, 0), (108, 0), (109, 0), (110, 0), (111, 0)] L h u.1 u.2) (hx_E T_tb (P_ty dA) (dC, dI) vwCl (hx_A L sz)) (hx_A L sz)) 0 0 (hx_A L sz) := by
  refine hx_met (lv := [(0, .ref x)]) (by decide +kernel) rfl (Nat.le_of_ble_eq_true rfl) rfl ?_
  intro p e s m below meth c hx hb hml hr hlk hts0 hown hin hsz hW ls hl
  have hts : ∀ w ∈ hx_all, w.before _ s = true := fun w hw => hts0 w (List.mem_cons_of_mem _ hw)
  have hown : s.vm.findClass "SmallCourtModel" = some m.cls := hown
  have hM : hx_S T_tb [(10, 59), (10, 67), (10, 68), (10, 69), (10, 70), (10, 71), (10, 83), (10, 84), (10, 86), (10, 87), (93, 0), (94, 0), (95, 0), (96, 0), (97, 0), (108, 0), (109, 0), (110, 0), (111, 0)] L h L h := hx_S.rf
  have b_c0 := hT.gi gx tt_10 (k := 36) rfl
  rw [f_x_36] at b_c0
  have b_c0 : 0 ≤ c0.toInt ∧ c0.toInt ≤ 100 := b_c0
  have b_a0 := hT.gi gx tt_10 (k := 1) rfl
  rw [f_x_1] at b_a0
  have b_a0 : 0 ≤ a0.toInt ∧ a0.toInt ≤ 8 := b_a0
  have b_nw0 := hT.gi gx tt_10 (k := 0) rfl
  rw [f_x_0] at b_nw0
  have b_nw0 : 0 ≤ nw0.toInt ∧ nw0.toInt ≤ 7999 := b_nw0
  have b_n0 := hT.gi gx tt_10 (k := 59) rfl
  rw [f_x_59] at b_n0
  have b_n0 : 0 ≤ n0.toInt ∧ n0.toInt ≤ 600 := b_n0
  have b_pn0 := hT.gi gx tt_10 (k := 20) rfl
  rw [f_x_20] at b_pn0
  have b_pn0 : 0 ≤ pn0.toInt ∧ pn0.toInt ≤ 40 := b_pn0
  have HR9 : hz_HR (hz_RP odf szf gdf owf svf (hz_rc A plf) nw0.toInt) nw0 c0.toInt.toNat := hz_RP_HR ?o0
  case o0 => omega
  have HN9 : ∀ (P : hz_P) (c : Nat), 0 ≤ (hz_RP odf szf gdf owf svf (hz_rc A plf) nw0.toInt) P c := hz_RP_N
  have HB9 : hz_RB (hz_RP odf szf gdf owf svf (hz_rc A plf) nw0.toInt) c0.toInt.toNat ((pof, pdf, psm, pkf, pst, n0.toInt.toNat) : hz_P) := fun c hc => hz_Rn_b hCB hps (show n0.toInt.toNat ≤ 600 from ?o1) ?o2 ((hAB _).1 12)
  case o1 => omega
  case o2 => omega
  refine lv_aload_n hx hb dX10_net_0 rfl (lv_at hl 0 rfl) ?_
  refine lv_iconst (v := 1) hx hb dX10_net_1 ?o3 ?_
  case o3 => decide
  refine hx_puti hx hb hts hC_10 hown hW hT (hx_S.rf (M := [(10, 83)])) (gx.S hM) tt_10 83 ?o4 rfl kw_1226 ⟨rfl, rfl, rfl⟩ rfl (x := (1 : Int32)) ?o5 rfl ?o6 ?o7 (List.mem_singleton.mpr rfl) dX10_net_2 (fun H locs h_1 eh_1 hW hT hs => ?_)
  case o4 => decide
  case o5 => decide
  case o6 => decide
  case o7 => decide
  replace f_x_59 := (hs.o (gx.S hM) trivial rfl).1.trans f_x_59
  replace af_qpo : h_1.2.1 qpo = pof := (funext fun j => (hs.a (gqpo.S hM) rfl j).1).trans af_qpo
  replace af_qpd : h_1.2.1 qpd = pdf := (funext fun j => (hs.a (gqpd.S hM) rfl j).1).trans af_qpd
  replace af_qps : h_1.2.1 qps = psm := (funext fun j => (hs.a (gqps.S hM) rfl j).1).trans af_qps
  replace af_qpk : h_1.2.1 qpk = pkf := (funext fun j => (hs.a (gqpk.S hM) rfl j).1).trans af_qpk
  replace af_qpt : h_1.2.1 qpt = pst := (funext fun j => (hs.a (gqpt.S hM) rfl j).1).trans af_qpt
  replace hM := hM.tr (hs.mono ?o8)
  case o8 => decide
  have f_2 : h_1.2.1 x 83 = (1 : Int32) := ?o9
  case o9 =>
    rw [eh_1]
    exact hx_pi_at _ _ _ _
  refine lv_aload_n hx hb dX10_net_5 rfl (lv_at hl 0 rfl) ?_
  refine lv_iconst (v := 0) hx hb dX10_net_6 ?o10 ?_
  case o10 => decide
  refine hx_puti hx hb hts hC_10 hown hW hT (hx_S.rf (M := [(10, 84)])) (gx.S hM) tt_10 84 ?o11 rfl kw_1227 ⟨rfl, rfl, rfl⟩ rfl (x := (0 : Int32)) ?o12 rfl rfl rfl (List.mem_singleton.mpr rfl) dX10_net_7 (fun H locs h_3 eh_3 hW hT hs => ?_)
  case o11 => decide
  case o12 => decide
  replace f_x_59 := (hs.o (gx.S hM) trivial rfl).1.trans f_x_59
  replace f_2 := (hs.o (gx.S hM) trivial rfl).1.trans f_2
  replace af_qpo : h_3.2.1 qpo = pof := (funext fun j => (hs.a (gqpo.S hM) rfl j).1).trans af_qpo
  replace af_qpd : h_3.2.1 qpd = pdf := (funext fun j => (hs.a (gqpd.S hM) rfl j).1).trans af_qpd
  replace af_qps : h_3.2.1 qps = psm := (funext fun j => (hs.a (gqps.S hM) rfl j).1).trans af_qps
  replace af_qpk : h_3.2.1 qpk = pkf := (funext fun j => (hs.a (gqpk.S hM) rfl j).1).trans af_qpk
  replace af_qpt : h_3.2.1 qpt = pst := (funext fun j => (hs.a (gqpt.S hM) rfl j).1).trans af_qpt
  replace hM := hM.tr (hs.mono ?o13)
  case o13 => decide
  have f_4 : h_3.2.1 x 84 = (0 : Int32) := ?o14
  case o14 =>
    rw [eh_3]
    exact hx_pi_at _ _ _ _
  refine lv_iconst (v := 0) hx hb dX10_net_10 ?o15 ?_
  case o15 => decide
  refine lv_istore_n (lv' := [(1, .int (0 : Int32)), (0, .ref x)]) hx hb dX10_net_11 rfl hl ?o16 rfl (fun ls hl => ?_)
  case o16 => decide
  refine lv_iconst (v := 1) hx hb dX10_net_12 ?o17 ?_
  case o17 => decide
  refine lv_istore_n (lv' := [(2, .int (1 : Int32)), (1, .int (0 : Int32)), (0, .ref x)]) hx hb dX10_net_13 rfl hl ?o18 rfl (fun ls hl => ?_)
  case o18 => decide
  obtain ⟨fa_5, nfa_5⟩ : ∃ g : Nat → Int32, h_3.2.1 qrl = g := ⟨_, rfl⟩
  have loop14 : ∀ (n14 : Nat) (iv14_1 iv14_2 fw14_x_59 fw14_x_84 : Int32) (ia14_qpo ia14_qpd ia14_qps ia14_qpk ia14_qpt ia14_qrl : Nat → Int32) (H : Heap) (locs : List Loc) (hL1 : List Nat) (hl1 : hx_h), -2147483648 ≤ iv14_1.toInt → iv14_1.toInt ≤ 2147483647 → 0 ≤ iv14_2.toInt → iv14_2.toInt ≤ 1 → 0 ≤ fw14_x_59.toInt → fw14_x_59.toInt ≤ 600 → 0 ≤ fw14_x_84.toInt → fw14_x_84.toInt ≤ 100 → (∀ j : Nat, j < (fw14_x_84.toInt).toNat → hz_go (hz_RP odf szf gdf owf svf (hz_rc A plf) nw0.toInt) agf byf c0.toInt.toNat pn0.toInt (hz_it (hz_RP odf szf gdf owf svf (hz_rc A plf) nw0.toInt) agf byf c0.toInt.toNat pn0.toInt nw0 ((pof, pdf, psm, pkf, pst, n0.toInt.toNat) : hz_P) j)) → (((ia14_qpo, ia14_qpd, ia14_qps, ia14_qpk, ia14_qpt, (fw14_x_59.toInt).toNat) : hz_P) = (hz_it (hz_RP odf szf gdf owf svf (hz_rc A plf) nw0.toInt) agf byf c0.toInt.toNat pn0.toInt nw0 ((pof, pdf, psm, pkf, pst, n0.toInt.toNat) : hz_P) (fw14_x_84.toInt).toNat)) → (iv14_1.toInt = (hz_sa2 (hz_RP odf szf gdf owf svf (hz_rc A plf) nw0.toInt) agf byf c0.toInt.toNat pn0.toInt nw0 ((pof, pdf, psm, pkf, pst, n0.toInt.toNat) : hz_P) (fw14_x_84.toInt).toNat).toInt) → (iv14_2.toInt = 1) → (∀ j : Nat, j < (fw14_x_84.toInt).toNat → (ia14_qrl j).toInt = (hz_be (hz_RP odf szf gdf owf svf (hz_rc A plf) nw0.toInt) agf byf c0.toInt.toNat pn0.toInt (hz_it (hz_RP odf szf gdf owf svf (hz_rc A plf) nw0.toInt) agf byf c0.toInt.toNat pn0.toInt nw0 ((pof, pdf, psm, pkf, pst, n0.toInt.toNat) : hz_P) j)).1) → ∀ (ls : Array Slot), 100 - fw14_x_84.toInt < (n14 : Int) → hx_W T_tb (P_ty dA) (dC, dI) vwCl (hx_A L sz) s.heap hL1 hl1 s H locs → hx_T T_tb hL1 hl1 → hx_S T_tb [(10, 59), (10, 67), (10, 68), (10, 69), (10, 70), (10, 71), (10, 83), (10, 84), (10, 86), (10, 87), (93, 0), (94, 0), (95, 0), (96, 0), (97, 0), (108, 0), (109, 0), (110, 0), (111, 0)] L h hL1 hl1 → hl1.2.1 x 59 = fw14_x_59 → hl1.2.1 x 84 = fw14_x_84 → hl1.2.1 x 83 = (1 : Int32) → hl1.2.1 qpo = ia14_qpo → hl1.2.1 qpd = ia14_qpd → hl1.2.1 qps = ia14_qps → hl1.2.1 qpk = ia14_qpk → hl1.2.1 qpt = ia14_qpt → hl1.2.1 qrl = ia14_qrl → lv_has ls 5 [(2, .int iv14_2), (1, .int iv14_1), (0, .ref x)] → W p l e ({ frames := 4, cells := 0, slots := 0, locals := 99 }) s m ([.ref x] : List Value).toArray below meth c H locs 0 0 (MQ below (va_Qi (fun (r : Int32) (u : List Nat × hx_h) => (∃ (n1 : Int32) (pof1 : Nat → Int32) (pdf1 : Nat → Int32) (psm1 : Nat → Int32) (pkf1 : Nat → Int32) (pst1 : Nat → Int32) (rm1 : Int32) (rgl1 : Nat → Int32) (hn1 : Int32), u.2.2.1 x 59 = n1 ∧ u.2.2.1 qpo = pof1 ∧ u.2.2.1 qpd = pdf1 ∧ u.2.2.1 qps = psm1 ∧ u.2.2.1 qpk = pkf1 ∧ u.2.2.1 qpt = pst1 ∧ u.2.2.1 x 84 = rm1 ∧ u.2.2.1 qrl = rgl1 ∧ u.2.2.1 x 83 = hn1 ∧ (hn1.toInt = 1 ∧ hz_NR (hz_RP odf szf gdf owf svf (hz_rc A plf) nw0.toInt) agf byf c0.toInt.toNat pn0.toInt nw0 ((pof, pdf, psm, pkf, pst, n0.toInt.toNat) : hz_P) ((pof1, pdf1, psm1, pkf1, pst1, n1.toInt.toNat) : hz_P) r.toInt rm1.toInt rgl1)) ∧ hx_T T_tb u.1 u.2 ∧ hx_S T_tb [(10, 59), (10, 67), (10, 68), (10, 69), (10, 70), (10, 71), (10, 83), (10, 84), (10, 86), (10, 87), (93, 0), (94, 0), (95, 0), (96, 0), (97, 0), (108, 0), (109, 0), (110, 0), (111, 0)] L h u.1 u.2) (hx_E T_tb (P_ty dA) (dC, dI) vwCl (hx_A L sz)) (hx_A L sz)) ([.ref x] : List Value).toArray s 0 0 (hx_A L sz)) (F0 m 14 ls []) := by
    intro n14
    induction n14 with
    | zero => intro iv14_1 iv14_2 fw14_x_59 fw14_x_84 ia14_qpo ia14_qpd ia14_qps ia14_qpk ia14_qpt ia14_qrl H locs hL1 hl1 bliv14_1 buiv14_1 bliv14_2 buiv14_2 blfw14_x_59 bufw14_x_59 blfw14_x_84 bufw14_x_84 vi14_0 vi14_1 vi14_2 vi14_3 vi14_4 ls hn14; exfalso; omega
    | succ n14 ih14 =>
      intro iv14_1 iv14_2 fw14_x_59 fw14_x_84 ia14_qpo ia14_qpd ia14_qps ia14_qpk ia14_qpt ia14_qrl H locs hL1 hl1 bliv14_1 buiv14_1 bliv14_2 buiv14_2 blfw14_x_59 bufw14_x_59 blfw14_x_84 bufw14_x_84 vi14_0 vi14_1 vi14_2 vi14_3 vi14_4 ls hn14 hW hT hM ffw14_x_59 ffw14_x_84 f_2 nia14_qpo nia14_qpd nia14_qps nia14_qpk nia14_qpt nia14_qrl hl
      have HBk9 := (hz_it_1 HR9 HN9 HB9 hag ⟨by omega, by omega⟩ fw14_x_84.toInt.toNat vi14_0).1; rw [← vi14_1] at HBk9
      refine lv_iload_n hx hb dX10_net_14 rfl (lv_at hl 0 rfl) ?_
      refine hb_if_eq (zx := iv14_2.toInt) (tgt := 198) hx hb rfl dX10_net_15 ?o19 (fun c_6 => ?o20) (fun c_6 => ?_)
      case o19 => decide
      case o20 =>
        exfalso
        omega
      refine lv_aload_n hx hb dX10_net_18 rfl (lv_at hl 2 rfl) ?_
      refine hx_gov (hx_runV (As := []) (rest := []) ⟨hx, hb, hml, hown, hts⟩ hW (gx.S hM) tt_10 (T := TX10) (N := 98) rfl (t_X10_debts_v l dC dI dA hL1 hl1 H.size x hT (gx.S hM) qfo (gqfo.S hM) ((hM.o gx trivial rfl).2.trans f_x_46) qhe (gqhe.S hM) ((hM.o gx trivial rfl).2.trans f_x_47) qju (gqju.S hM) ((hM.o gx trivial rfl).2.trans f_x_51) qod (gqod.S hM) ((hM.o gx trivial rfl).2.trans f_x_48) qsv (gqsv.S hM) ((hM.o gx trivial rfl).2.trans f_x_50) qsz (gqsz.S hM) ((hM.o gx trivial rfl).2.trans f_x_49) qgd (gqgd.S hM) ((hM.o gx trivial rfl).2.trans f_x_56) qow (gqow.S hM) ((hM.o gx trivial rfl).2.trans f_x_55) qwk (gqwk.S hM) ((hM.o gx trivial rfl).2.trans f_x_54) qpl (gqpl.S hM) ((hM.o gx trivial rfl).2.trans f_x_44) qru (gqru.S hM) ((hM.o gx trivial rfl).2.trans f_x_3) qpo (gqpo.S hM) ((hM.o gx trivial rfl).2.trans f_x_60) qpd (gqpd.S hM) ((hM.o gx trivial rfl).2.trans f_x_61) qps (gqps.S hM) ((hM.o gx trivial rfl).2.trans f_x_62) qpk (gqpk.S hM) ((hM.o gx trivial rfl).2.trans f_x_63) qpt (gqpt.S hM) ((hM.o gx trivial rfl).2.trans f_x_64) qag (gqag.S hM) ((hM.o gx trivial rfl).2.trans f_x_38) qby (gqby.S hM) ((hM.o gx trivial rfl).2.trans f_x_37) qdb (gqdb.S hM) ((hM.o gx trivial rfl).2.trans f_x_82) fof (hx_afS hM gqfo rfl af_qfo) hrf (hx_afS hM gqhe rfl af_qhe) udf (hx_afS hM gqju rfl af_qju) odf (hx_afS hM gqod rfl af_qod) svf (hx_afS hM gqsv rfl af_qsv) szf (hx_afS hM gqsz rfl af_qsz) gdf (hx_afS hM gqgd rfl af_qgd) owf (hx_afS hM gqow rfl af_qow) wkf (hx_afS hM gqwk rfl af_qwk) plf (hx_afS hM gqpl rfl af_qpl) rlf (hx_afS hM gqru rfl af_qru) ia14_qpo nia14_qpo ia14_qpd nia14_qpd ia14_qps nia14_qps ia14_qpk nia14_qpk ia14_qpt nia14_qpt agf (hx_afS hM gqag rfl af_qag) byf (hx_afS hM gqby rfl af_qby) c0 ((hM.o gx trivial rfl).1.trans f_x_36) a0 ((hM.o gx trivial rfl).1.trans f_x_1) nw0 ((hM.o gx trivial rfl).1.trans f_x_0) fw14_x_59 ffw14_x_59 adf psf prf A hCA hPL (fun c hc => HBk9 c hc)) (cwV 0 hts (hx_gV kw_1694 kw_1691 kw_1693 kw_86 kw_103) rfl rfl rfl (by decide +kernel) ⟨Nat.le_of_ble_eq_true rfl, Nat.le_of_ble_eq_true rfl⟩) rfl hl.1 rfl (Nat.le_of_ble_eq_true rfl) dX10_net_19 ⟨Nat.le_of_ble_eq_true rfl, Nat.le_of_ble_eq_true rfl⟩) hW (fun L_7 h_8 H locs p_10 hW => ?_)
      obtain ⟨⟨w_12, fw_12, hr_11⟩, hT, hs⟩ := p_10
      replace hT : hx_T T_tb L_7 h_8 := hT
      replace hs : hx_S T_tb [(10, 67), (10, 68), (10, 69), (10, 70), (10, 71), (108, 0)] hL1 hl1 L_7 h_8 := hs
      replace f_2 := (hs.o (gx.S hM) trivial rfl).1.trans f_2
      replace ffw14_x_59 := (hs.o (gx.S hM) trivial rfl).1.trans ffw14_x_59
      replace ffw14_x_84 := (hs.o (gx.S hM) trivial rfl).1.trans ffw14_x_84
      replace nia14_qpo : h_8.2.1 qpo = ia14_qpo := (funext fun j => (hs.a (gqpo.S hM) rfl j).1).trans nia14_qpo
      replace nia14_qpd : h_8.2.1 qpd = ia14_qpd := (funext fun j => (hs.a (gqpd.S hM) rfl j).1).trans nia14_qpd
      replace nia14_qps : h_8.2.1 qps = ia14_qps := (funext fun j => (hs.a (gqps.S hM) rfl j).1).trans nia14_qps
      replace nia14_qpk : h_8.2.1 qpk = ia14_qpk := (funext fun j => (hs.a (gqpk.S hM) rfl j).1).trans nia14_qpk
      replace nia14_qpt : h_8.2.1 qpt = ia14_qpt := (funext fun j => (hs.a (gqpt.S hM) rfl j).1).trans nia14_qpt
      replace nia14_qrl : h_8.2.1 qrl = ia14_qrl := (funext fun j => (hs.a (gqrl.S hM) rfl j).1).trans nia14_qrl
      replace hM := hM.tr (hs.mono ?o21)
      case o21 => decide
      have fw_12 : h_8.2.1 qdb = w_12 := fw_12
      refine lv_aload_n hx hb dX10_net_22 rfl (lv_at hl 2 rfl) ?_
      refine hx_gov (hx_runV (As := []) (rest := []) ⟨hx, hb, hml, hown, hts⟩ hW (gx.S hM) tt_10 (T := TX10) (N := 98) rfl (t_X10_finds_v l dC dI dA L_7 h_8 H.size x hT (gx.S hM) qdb (gqdb.S hM) ((hM.o gx trivial rfl).2.trans f_x_82) qrg (gqrg.S hM) ((hM.o gx trivial rfl).2.trans f_x_89) qbr (gqbr.S hM) ((hM.o gx trivial rfl).2.trans f_x_88) w_12 fw_12 pn0 ((hM.o gx trivial rfl).1.trans f_x_20) (hz_V ((hz_RP odf szf gdf owf svf (hz_rc A plf) nw0.toInt) ((ia14_qpo, ia14_qpd, ia14_qps, ia14_qpk, ia14_qpt, fw14_x_59.toInt.toNat) : hz_P)) agf byf c0.toInt.toNat) hr_11 (fun x => hz_V_ub (fun c hc => HBk9 c hc) ?o22 x)) (cwV 0 hts (hx_gV kw_1698 kw_1695 kw_1697 kw_87 kw_103) rfl rfl rfl (by decide +kernel) ⟨Nat.le_of_ble_eq_true rfl, Nat.le_of_ble_eq_true rfl⟩) rfl hl.1 rfl (Nat.le_of_ble_eq_true rfl) dX10_net_23 ⟨Nat.le_of_ble_eq_true rfl, Nat.le_of_ble_eq_true rfl⟩) hW (fun L_13 h_14 H locs p_16 hW => ?_)
      case o22 => omega
      obtain ⟨⟨w_18, w_19, w_20, fw_18, fw_19, fw_20, hr_17⟩, hT, hs⟩ := p_16
      replace hT : hx_T T_tb L_13 h_14 := hT
      replace hs : hx_S T_tb [(10, 86), (10, 87), (110, 0), (111, 0)] L_7 h_8 L_13 h_14 := hs
      replace f_2 := (hs.o (gx.S hM) trivial rfl).1.trans f_2
      replace ffw14_x_59 := (hs.o (gx.S hM) trivial rfl).1.trans ffw14_x_59
      replace ffw14_x_84 := (hs.o (gx.S hM) trivial rfl).1.trans ffw14_x_84
      replace nia14_qpo : h_14.2.1 qpo = ia14_qpo := (funext fun j => (hs.a (gqpo.S hM) rfl j).1).trans nia14_qpo
      replace nia14_qpd : h_14.2.1 qpd = ia14_qpd := (funext fun j => (hs.a (gqpd.S hM) rfl j).1).trans nia14_qpd
      replace nia14_qps : h_14.2.1 qps = ia14_qps := (funext fun j => (hs.a (gqps.S hM) rfl j).1).trans nia14_qps
      replace nia14_qpk : h_14.2.1 qpk = ia14_qpk := (funext fun j => (hs.a (gqpk.S hM) rfl j).1).trans nia14_qpk
      replace nia14_qpt : h_14.2.1 qpt = ia14_qpt := (funext fun j => (hs.a (gqpt.S hM) rfl j).1).trans nia14_qpt
      replace nia14_qrl : h_14.2.1 qrl = ia14_qrl := (funext fun j => (hs.a (gqrl.S hM) rfl j).1).trans nia14_qrl
      replace fw_12 : h_14.2.1 qdb = w_12 := (funext fun j => (hs.a (gqdb.S hM) rfl j).1).trans fw_12
      replace hM := hM.tr (hs.mono ?o23)
      case o23 => decide
      have fw_18 : h_14.2.1 x 86 = w_18 := fw_18
      have bw_18 := hT.gi (gx.S hM) tt_10 (k := 86) rfl
      rw [fw_18] at bw_18
      have bw_18 : -2147483648 ≤ w_18.toInt ∧ w_18.toInt ≤ 2147483647 := bw_18
      have fw_19 : h_14.2.1 x 87 = w_19 := fw_19
      have bw_19 := hT.gi (gx.S hM) tt_10 (k := 87) rfl
      rw [fw_19] at bw_19
      have bw_19 : 0 ≤ w_19.toInt ∧ w_19.toInt ≤ 4 := bw_19
      have fw_20 : h_14.2.1 qbr = w_20 := fw_20
      have hS9 : hz_SR (hz_be (hz_RP odf szf gdf owf svf (hz_rc A plf) nw0.toInt) agf byf c0.toInt.toNat pn0.toInt ((ia14_qpo, ia14_qpd, ia14_qps, ia14_qpk, ia14_qpt, fw14_x_59.toInt.toNat) : hz_P)) w_18.toInt w_19.toInt w_20 := hr_17
      have be1 := hS9.1; have be2 := hS9.2.1; have hbs9 := hS9.2.2.1
      have hRI9 : 0 < w_19.toInt → hz_RI w_18.toInt w_19.toInt (hz_be (hz_RP odf szf gdf owf svf (hz_rc A plf) nw0.toInt) agf byf c0.toInt.toNat pn0.toInt ((ia14_qpo, ia14_qpd, ia14_qps, ia14_qpk, ia14_qpt, fw14_x_59.toInt.toNat) : hz_P)).2.2 ((hz_RP odf szf gdf owf svf (hz_rc A plf) nw0.toInt) ((ia14_qpo, ia14_qpd, ia14_qps, ia14_qpk, ia14_qpt, fw14_x_59.toInt.toNat) : hz_P)) agf byf c0.toInt.toNat := fun z9 => hz_be_RI HN9 (fun c hc => (hag c hc).2.2) ⟨?o24, ?o25⟩ hS9 z9
      case o24 => omega
      case o25 => omega
      refine lv_iconst (v := 0) hx hb dX10_net_26 ?o26 ?_
      case o26 => decide
      refine lv_istore_n (lv' := [(3, .int (0 : Int32)), (2, .int iv14_2), (1, .int iv14_1), (0, .ref x)]) hx hb dX10_net_27 rfl hl ?o27 rfl (fun ls hl => ?_)
      case o27 => decide
      refine lv_iconst (v := 0) hx hb dX10_net_28 ?o28 ?_
      case o28 => decide
      refine lv_istore (lv' := [(4, .int (0 : Int32)), (3, .int (0 : Int32)), (2, .int iv14_2), (1, .int iv14_1), (0, .ref x)]) hx hb dX10_net_29 hl ?o29 rfl (fun ls hl => ?_)
      case o29 => decide
      have loop31 : ∀ (n31 : Nat) (iv31_3 iv31_4 : Int32) (H : Heap) (locs : List Loc) (hL1 : List Nat) (hl1 : hx_h), 0 ≤ iv31_3.toInt → iv31_3.toInt ≤ 400 → 0 ≤ iv31_4.toInt → iv31_4.toInt ≤ 4 → (iv31_3.toInt = hz_ne ((hz_RP odf szf gdf owf svf (hz_rc A plf) nw0.toInt) ((ia14_qpo, ia14_qpd, ia14_qps, ia14_qpk, ia14_qpt, fw14_x_59.toInt.toNat) : hz_P)) agf byf (hz_be (hz_RP odf szf gdf owf svf (hz_rc A plf) nw0.toInt) agf byf c0.toInt.toNat pn0.toInt ((ia14_qpo, ia14_qpd, ia14_qps, ia14_qpk, ia14_qpt, fw14_x_59.toInt.toNat) : hz_P)).2.2 w_19.toInt w_18.toInt c0.toInt.toNat (iv31_4.toInt).toNat) → (iv31_3.toInt ≤ 100 * iv31_4.toInt) → (iv31_4.toInt ≤ w_19.toInt) → ∀ (ls : Array Slot), 4 - iv31_4.toInt < (n31 : Int) → hx_W T_tb (P_ty dA) (dC, dI) vwCl (hx_A L sz) s.heap hL1 hl1 s H locs → hx_T T_tb hL1 hl1 → hx_S T_tb [(10, 59), (10, 67), (10, 68), (10, 69), (10, 70), (10, 71), (10, 83), (10, 84), (10, 86), (10, 87), (93, 0), (94, 0), (95, 0), (96, 0), (97, 0), (108, 0), (109, 0), (110, 0), (111, 0)] L h hL1 hl1 → hl1.2.1 x 83 = (1 : Int32) → hl1.2.1 x 59 = fw14_x_59 → hl1.2.1 x 84 = fw14_x_84 → hl1.2.1 x 86 = w_18 → hl1.2.1 x 87 = w_19 → hl1.2.1 qpo = ia14_qpo → hl1.2.1 qpd = ia14_qpd → hl1.2.1 qps = ia14_qps → hl1.2.1 qpk = ia14_qpk → hl1.2.1 qpt = ia14_qpt → hl1.2.1 qrl = ia14_qrl → hl1.2.1 qdb = w_12 → hl1.2.1 qbr = w_20 → lv_has ls 5 [(4, .int iv31_4), (3, .int iv31_3), (2, .int iv14_2), (1, .int iv14_1), (0, .ref x)] → W p l e ({ frames := 4, cells := 0, slots := 0, locals := 99 }) s m ([.ref x] : List Value).toArray below meth c H locs 0 0 (MQ below (va_Qi (fun (r : Int32) (u : List Nat × hx_h) => (∃ (n1 : Int32) (pof1 : Nat → Int32) (pdf1 : Nat → Int32) (psm1 : Nat → Int32) (pkf1 : Nat → Int32) (pst1 : Nat → Int32) (rm1 : Int32) (rgl1 : Nat → Int32) (hn1 : Int32), u.2.2.1 x 59 = n1 ∧ u.2.2.1 qpo = pof1 ∧ u.2.2.1 qpd = pdf1 ∧ u.2.2.1 qps = psm1 ∧ u.2.2.1 qpk = pkf1 ∧ u.2.2.1 qpt = pst1 ∧ u.2.2.1 x 84 = rm1 ∧ u.2.2.1 qrl = rgl1 ∧ u.2.2.1 x 83 = hn1 ∧ (hn1.toInt = 1 ∧ hz_NR (hz_RP odf szf gdf owf svf (hz_rc A plf) nw0.toInt) agf byf c0.toInt.toNat pn0.toInt nw0 ((pof, pdf, psm, pkf, pst, n0.toInt.toNat) : hz_P) ((pof1, pdf1, psm1, pkf1, pst1, n1.toInt.toNat) : hz_P) r.toInt rm1.toInt rgl1)) ∧ hx_T T_tb u.1 u.2 ∧ hx_S T_tb [(10, 59), (10, 67), (10, 68), (10, 69), (10, 70), (10, 71), (10, 83), (10, 84), (10, 86), (10, 87), (93, 0), (94, 0), (95, 0), (96, 0), (97, 0), (108, 0), (109, 0), (110, 0), (111, 0)] L h u.1 u.2) (hx_E T_tb (P_ty dA) (dC, dI) vwCl (hx_A L sz)) (hx_A L sz)) ([.ref x] : List Value).toArray s 0 0 (hx_A L sz)) (F0 m 31 ls []) := by
        intro n31
        induction n31 with
        | zero => intro iv31_3 iv31_4 H locs hL1 hl1 bliv31_3 buiv31_3 bliv31_4 buiv31_4 vi31_0 vi31_1 vi31_2 ls hn31; exfalso; omega
        | succ n31 ih31 =>
          intro iv31_3 iv31_4 H locs hL1 hl1 bliv31_3 buiv31_3 bliv31_4 buiv31_4 vi31_0 vi31_1 vi31_2 ls hn31 hW hT hM f_2 ffw14_x_59 ffw14_x_84 fw_18 fw_19 nia14_qpo nia14_qpd nia14_qps nia14_qpk nia14_qpt nia14_qrl fw_12 fw_20 hl
          refine lv_iload hx hb dX10_net_31 (lv_at hl 0 rfl) ?_
          refine lv_aload_n hx hb dX10_net_33 rfl (lv_at hl 4 rfl) ?_
          refine hk_geti hx hb hts hC_10 hown hW (gx.S hM) tt_10 87 ?o30 rfl kw_1230 ⟨rfl, rfl, rfl⟩ fw_19 dX10_net_34 ?_
          case o30 => decide
          refine hb_icmp_ge (zx := iv31_4.toInt) (zy := w_19.toInt) (tgt := 79) hx hb rfl rfl dX10_net_37 ?o31 (fun c_21 => ?_) (fun c_21 => ?_)
          case o31 => decide
          · skip
            have hnn9 := vi31_0; rw [show iv31_4.toInt.toNat = w_19.toInt.toNat by omega] at hnn9
            have hgi9 := hz_go_i (m := fw14_x_59.toInt.toNat) be1 be2 rfl hnn9
            refine lv_aload_n hx hb dX10_net_79 rfl (lv_at hl 4 rfl) ?_
            refine hk_geti hx hb hts hC_10 hown hW (gx.S hM) tt_10 87 ?o32 rfl kw_1230 ⟨rfl, rfl, rfl⟩ fw_19 dX10_net_80 ?_
            case o32 => decide
            refine hb_if_le (zx := w_19.toInt) (tgt := 102) hx hb rfl dX10_net_83 ?o33 (fun c_22 => ?_) (fun c_22 => ?_)
            case o33 => decide
            · skip
              refine lv_iconst (v := 0) hx hb dX10_net_102 ?o34 ?_
              case o34 => decide
              refine lv_istore_n (lv' := [(2, .int (0 : Int32)), (4, .int iv31_4), (3, .int iv31_3), (1, .int iv14_1), (0, .ref x)]) hx hb dX10_net_103 rfl hl ?o35 rfl (fun ls hl => ?_)
              case o35 => decide
              refine lv_iload_n hx hb dX10_net_104 rfl (lv_at hl 0 rfl) ?_
              refine hb_if_ne (zx := 0) (tgt := 111) hx hb ?o36 dX10_net_105 ?o37 (fun c_23 => absurd c_23 ?o38) (fun c_23 => ?_)
              case o36 => decide
              case o37 => decide
              case o38 => decide
              refine lv_goto (tgt := 198) hx hb dX10_net_108 ?o39 ?_
              case o39 => decide
              refine lv_iload_n hx hb dX10_net_198 rfl (lv_at hl 3 rfl) ?_
              have zo_1 : (1 : Int32).toInt = 1 := ?o40
              case o40 => decide
              exact hx_reti hx hb hr hlk hW ⟨⟨fw14_x_59, ia14_qpo, ia14_qpd, ia14_qps, ia14_qpk, ia14_qpt, fw14_x_84, ia14_qrl, (1 : Int32), ffw14_x_59, nia14_qpo, nia14_qpd, nia14_qps, nia14_qpk, nia14_qpt, ffw14_x_84, nia14_qrl, f_2, ⟨(by first | rfl | decide | omega), fw14_x_84.toInt.toNat, ⟨vi14_0, (by rw [← vi14_1]; exact fun z9 => by have z8 := hgi9.mp z9; omega)⟩, vi14_1, vi14_2, (by omega), vi14_4⟩⟩, hT, hM⟩ dX10_net_199
            · skip
              refine lv_aload_n hx hb dX10_net_86 rfl (lv_at hl 4 rfl) ?_
              refine hk_geti hx hb hts hC_10 hown hW (gx.S hM) tt_10 59 ?o41 rfl kw_1202 ⟨rfl, rfl, rfl⟩ ffw14_x_59 dX10_net_87 ?_
              case o41 => decide
              refine lv_iload_n hx hb dX10_net_90 rfl (lv_at hl 1 rfl) ?_
              refine lv_iadd hx hb dX10_net_91 ?_
              have rg_24 := i32_r fw14_x_59
              have rg_25 := i32_r iv31_3
              refine lv_topi (fun x_26 ex_26 => ?_)
              have zx_26 : x_26.toInt = fw14_x_59.toInt + iv31_3.toInt := ?o42
              case o42 =>
                rw [ex_26]
                refine i32_add rfl rfl ?o43 ?o44
                case o43 => omega
                case o44 => omega
              refine lv_sipush (v := 600) hx hb dX10_net_92 ?o45 ?_
              case o45 => decide
              refine hb_icmp_gt (zx := x_26.toInt) (zy := 600) (tgt := 102) hx hb rfl ?o46 dX10_net_95 ?o47 (fun c_27 => ?_) (fun c_27 => ?_)
              case o46 => decide
              case o47 => decide
              · skip
                refine lv_iconst (v := 0) hx hb dX10_net_102 ?o48 ?_
                case o48 => decide
                refine lv_istore_n (lv' := [(2, .int (0 : Int32)), (4, .int iv31_4), (3, .int iv31_3), (1, .int iv14_1), (0, .ref x)]) hx hb dX10_net_103 rfl hl ?o49 rfl (fun ls hl => ?_)
                case o49 => decide
                refine lv_iload_n hx hb dX10_net_104 rfl (lv_at hl 0 rfl) ?_
                refine hb_if_ne (zx := 0) (tgt := 111) hx hb ?o50 dX10_net_105 ?o51 (fun c_28 => absurd c_28 ?o52) (fun c_28 => ?_)
                case o50 => decide
                case o51 => decide
                case o52 => decide
                refine lv_goto (tgt := 198) hx hb dX10_net_108 ?o53 ?_
                case o53 => decide
                refine lv_iload_n hx hb dX10_net_198 rfl (lv_at hl 3 rfl) ?_
                have zo_1 : (1 : Int32).toInt = 1 := ?o54
                case o54 => decide
                exact hx_reti hx hb hr hlk hW ⟨⟨fw14_x_59, ia14_qpo, ia14_qpd, ia14_qps, ia14_qpk, ia14_qpt, fw14_x_84, ia14_qrl, (1 : Int32), ffw14_x_59, nia14_qpo, nia14_qpd, nia14_qps, nia14_qpk, nia14_qpt, ffw14_x_84, nia14_qrl, f_2, ⟨(by first | rfl | decide | omega), fw14_x_84.toInt.toNat, ⟨vi14_0, (by rw [← vi14_1]; exact fun z9 => by have z8 := hgi9.mp z9; omega)⟩, vi14_1, vi14_2, (by omega), vi14_4⟩⟩, hT, hM⟩ dX10_net_199
              · skip
                refine lv_iconst (v := 1) hx hb dX10_net_98 ?o55 ?_
                case o55 => decide
                refine lv_goto (tgt := 103) hx hb dX10_net_99 ?o56 ?_
                case o56 => decide
                refine lv_istore_n (lv' := [(2, .int (1 : Int32)), (4, .int iv31_4), (3, .int iv31_3), (1, .int iv14_1), (0, .ref x)]) hx hb dX10_net_103 rfl hl ?o57 rfl (fun ls hl => ?_)
                case o57 => decide
                refine lv_iload_n hx hb dX10_net_104 rfl (lv_at hl 0 rfl) ?_
                refine hb_if_ne (zx := 1) (tgt := 111) hx hb ?o58 dX10_net_105 ?o59 (fun c_29 => ?_) (fun c_29 => absurd c_29 ?o60)
                case o58 => decide
                case o59 => decide
                case o60 => decide
                have hgo9 := hgi9.mpr ⟨?o61, ?o62⟩
                case o61 => omega
                case o62 => omega
                obtain ⟨hbl1, ⟨hn2, hn4⟩, gb9, gd9, gl9, gv9⟩ := hRI9 (by omega)
                have h6008 : (fw14_x_59.toInt.toNat : Int) + hz_ne ((hz_RP odf szf gdf owf svf (hz_rc A plf) nw0.toInt) ((ia14_qpo, ia14_qpd, ia14_qps, ia14_qpk, ia14_qpt, fw14_x_59.toInt.toNat) : hz_P)) agf byf (hz_be (hz_RP odf szf gdf owf svf (hz_rc A plf) nw0.toInt) agf byf c0.toInt.toNat pn0.toInt ((ia14_qpo, ia14_qpd, ia14_qps, ia14_qpk, ia14_qpt, fw14_x_59.toInt.toNat) : hz_P)).2.2 w_19.toInt w_18.toInt c0.toInt.toNat w_19.toInt.toNat ≤ 600 := ?o63
                case o63 =>
                  rw [← hnn9]
                  omega
                have hcn9 := (hz_it_1 HR9 HN9 HB9 hag ⟨by omega, by omega⟩ (fw14_x_84.toInt + 1).toNat (hz_gos vi14_0 vi14_1 (by omega) hgo9 rfl)).2; have hcb9 := (hz_op_b (r := (hz_RP odf szf gdf owf svf (hz_rc A plf) nw0.toInt) (hz_it (hz_RP odf szf gdf owf svf (hz_rc A plf) nw0.toInt) agf byf c0.toInt.toNat pn0.toInt nw0 ((pof, pdf, psm, pkf, pst, n0.toInt.toNat) : hz_P) (fw14_x_84.toInt + 1).toNat)) c0.toInt.toNat).1
                refine lv_iconst (v := 0) hx hb dX10_net_111 ?o64 ?_
                case o64 => decide
                refine lv_istore (lv' := [(4, .int (0 : Int32)), (2, .int (1 : Int32)), (3, .int iv31_3), (1, .int iv14_1), (0, .ref x)]) hx hb dX10_net_112 hl ?o65 rfl (fun ls hl => ?_)
                case o65 => decide
                have loop114 : ∀ (n114 : Nat) (iv114_4 fw114_x_59 : Int32) (ia114_qpo ia114_qpd ia114_qps ia114_qpk ia114_qpt : Nat → Int32) (H : Heap) (locs : List Loc) (hL1 : List Nat) (hl1 : hx_h), 0 ≤ iv114_4.toInt → iv114_4.toInt ≤ 4 → 0 ≤ fw114_x_59.toInt → fw114_x_59.toInt ≤ 600 → (((ia114_qpo, ia114_qpd, ia114_qps, ia114_qpk, ia114_qpt, (fw114_x_59.toInt).toNat) : hz_P) = hz_tr (hz_RP odf szf gdf owf svf (hz_rc A plf) nw0.toInt) agf byf (hz_be (hz_RP odf szf gdf owf svf (hz_rc A plf) nw0.toInt) agf byf c0.toInt.toNat pn0.toInt ((ia14_qpo, ia14_qpd, ia14_qps, ia14_qpk, ia14_qpt, fw14_x_59.toInt.toNat) : hz_P)).2.2 w_19.toInt w_18.toInt nw0 c0.toInt.toNat ((ia14_qpo, ia14_qpd, ia14_qps, ia14_qpk, ia14_qpt, fw14_x_59.toInt.toNat) : hz_P) (iv114_4.toInt).toNat) → (iv114_4.toInt ≤ w_19.toInt) → ∀ (ls : Array Slot), 4 - iv114_4.toInt < (n114 : Int) → hx_W T_tb (P_ty dA) (dC, dI) vwCl (hx_A L sz) s.heap hL1 hl1 s H locs → hx_T T_tb hL1 hl1 → hx_S T_tb [(10, 59), (10, 67), (10, 68), (10, 69), (10, 70), (10, 71), (10, 83), (10, 84), (10, 86), (10, 87), (93, 0), (94, 0), (95, 0), (96, 0), (97, 0), (108, 0), (109, 0), (110, 0), (111, 0)] L h hL1 hl1 → hl1.2.1 x 59 = fw114_x_59 → hl1.2.1 x 83 = (1 : Int32) → hl1.2.1 x 84 = fw14_x_84 → hl1.2.1 x 86 = w_18 → hl1.2.1 x 87 = w_19 → hl1.2.1 qpo = ia114_qpo → hl1.2.1 qpd = ia114_qpd → hl1.2.1 qps = ia114_qps → hl1.2.1 qpk = ia114_qpk → hl1.2.1 qpt = ia114_qpt → hl1.2.1 qrl = ia14_qrl → hl1.2.1 qdb = w_12 → hl1.2.1 qbr = w_20 → lv_has ls 5 [(4, .int iv114_4), (2, .int (1 : Int32)), (3, .int iv31_3), (1, .int iv14_1), (0, .ref x)] → W p l e ({ frames := 4, cells := 0, slots := 0, locals := 99 }) s m ([.ref x] : List Value).toArray below meth c H locs 0 0 (MQ below (va_Qi (fun (r : Int32) (u : List Nat × hx_h) => (∃ (n1 : Int32) (pof1 : Nat → Int32) (pdf1 : Nat → Int32) (psm1 : Nat → Int32) (pkf1 : Nat → Int32) (pst1 : Nat → Int32) (rm1 : Int32) (rgl1 : Nat → Int32) (hn1 : Int32), u.2.2.1 x 59 = n1 ∧ u.2.2.1 qpo = pof1 ∧ u.2.2.1 qpd = pdf1 ∧ u.2.2.1 qps = psm1 ∧ u.2.2.1 qpk = pkf1 ∧ u.2.2.1 qpt = pst1 ∧ u.2.2.1 x 84 = rm1 ∧ u.2.2.1 qrl = rgl1 ∧ u.2.2.1 x 83 = hn1 ∧ (hn1.toInt = 1 ∧ hz_NR (hz_RP odf szf gdf owf svf (hz_rc A plf) nw0.toInt) agf byf c0.toInt.toNat pn0.toInt nw0 ((pof, pdf, psm, pkf, pst, n0.toInt.toNat) : hz_P) ((pof1, pdf1, psm1, pkf1, pst1, n1.toInt.toNat) : hz_P) r.toInt rm1.toInt rgl1)) ∧ hx_T T_tb u.1 u.2 ∧ hx_S T_tb [(10, 59), (10, 67), (10, 68), (10, 69), (10, 70), (10, 71), (10, 83), (10, 84), (10, 86), (10, 87), (93, 0), (94, 0), (95, 0), (96, 0), (97, 0), (108, 0), (109, 0), (110, 0), (111, 0)] L h u.1 u.2) (hx_E T_tb (P_ty dA) (dC, dI) vwCl (hx_A L sz)) (hx_A L sz)) ([.ref x] : List Value).toArray s 0 0 (hx_A L sz)) (F0 m 114 ls []) := by
                  intro n114
                  induction n114 with
                  | zero => intro iv114_4 fw114_x_59 ia114_qpo ia114_qpd ia114_qps ia114_qpk ia114_qpt H locs hL1 hl1 bliv114_4 buiv114_4 blfw114_x_59 bufw114_x_59 vi114_0 vi114_1 ls hn114; exfalso; omega
                  | succ n114 ih114 =>
                    intro iv114_4 fw114_x_59 ia114_qpo ia114_qpd ia114_qps ia114_qpk ia114_qpt H locs hL1 hl1 bliv114_4 buiv114_4 blfw114_x_59 bufw114_x_59 vi114_0 vi114_1 ls hn114 hW hT hM ffw114_x_59 f_2 ffw14_x_84 fw_18 fw_19 nia114_qpo nia114_qpd nia114_qps nia114_qpk nia114_qpt nia14_qrl fw_12 fw_20 hl
                    refine lv_iload hx hb dX10_net_114 (lv_at hl 0 rfl) ?_
                    refine lv_aload_n hx hb dX10_net_116 rfl (lv_at hl 4 rfl) ?_
                    refine hk_geti hx hb hts hC_10 hown hW (gx.S hM) tt_10 87 ?o66 rfl kw_1230 ⟨rfl, rfl, rfl⟩ fw_19 dX10_net_117 ?_
                    case o66 => decide
                    refine hb_icmp_ge (zx := iv114_4.toInt) (zy := w_19.toInt) (tgt := 160) hx hb rfl rfl dX10_net_120 ?o67 (fun c_30 => ?_) (fun c_30 => ?_)
                    case o67 => decide
                    · skip
                      have hT8 := vi114_0; rw [show iv114_4.toInt.toNat = w_19.toInt.toNat by omega] at hT8
                      refine lv_aload_n hx hb dX10_net_160 rfl (lv_at hl 4 rfl) ?_
                      refine hk_getr hx hb hts hC_10 hown hW (gx.S hM) tt_10 85 ?o68 rfl kw_1228 ⟨rfl, rfl, rfl⟩ ((hM.o gx trivial rfl).2.trans f_x_85) dX10_net_161 ?_
                      case o68 => decide
                      refine lv_aload_n hx hb dX10_net_164 rfl (lv_at hl 4 rfl) ?_
                      refine hk_geti hx hb hts hC_10 hown hW (gx.S hM) tt_10 84 ?o69 rfl kw_1227 ⟨rfl, rfl, rfl⟩ ffw14_x_84 dX10_net_165 ?_
                      case o69 => decide
                      refine lv_aload_n hx hb dX10_net_168 rfl (lv_at hl 4 rfl) ?_
                      refine hk_geti hx hb hts hC_10 hown hW (gx.S hM) tt_10 86 ?o70 rfl kw_1229 ⟨rfl, rfl, rfl⟩ fw_18 dX10_net_169 ?_
                      case o70 => decide
                      have nia14_qrlO := nia14_qrl
                      refine hx_iast hx hb hW hT (hx_S.rf (M := [(109, 0)])) (gqrl.S hM) tt_109 rfl ⟨?o71, ?o72⟩ rfl (i32_r _) (List.mem_singleton.mpr rfl) dX10_net_172 (fun H locs h_31 eh_31 hW hT hs => ?_)
                      case o71 => omega
                      case o72 => omega
                      replace f_2 := (hs.o (gx.S hM) trivial rfl).1.trans f_2
                      replace ffw14_x_84 := (hs.o (gx.S hM) trivial rfl).1.trans ffw14_x_84
                      replace fw_18 := (hs.o (gx.S hM) trivial rfl).1.trans fw_18
                      replace fw_19 := (hs.o (gx.S hM) trivial rfl).1.trans fw_19
                      replace ffw114_x_59 := (hs.o (gx.S hM) trivial rfl).1.trans ffw114_x_59
                      replace fw_12 : h_31.2.1 qdb = w_12 := (funext fun j => (hs.a (gqdb.S hM) rfl j).1).trans fw_12
                      replace fw_20 : h_31.2.1 qbr = w_20 := (funext fun j => (hs.a (gqbr.S hM) rfl j).1).trans fw_20
                      replace nia114_qpo : h_31.2.1 qpo = ia114_qpo := (funext fun j => (hs.a (gqpo.S hM) rfl j).1).trans nia114_qpo
                      replace nia114_qpd : h_31.2.1 qpd = ia114_qpd := (funext fun j => (hs.a (gqpd.S hM) rfl j).1).trans nia114_qpd
                      replace nia114_qps : h_31.2.1 qps = ia114_qps := (funext fun j => (hs.a (gqps.S hM) rfl j).1).trans nia114_qps
                      replace nia114_qpk : h_31.2.1 qpk = ia114_qpk := (funext fun j => (hs.a (gqpk.S hM) rfl j).1).trans nia114_qpk
                      replace nia114_qpt : h_31.2.1 qpt = ia114_qpt := (funext fun j => (hs.a (gqpt.S hM) rfl j).1).trans nia114_qpt
                      replace hM := hM.tr (hs.mono ?o73)
                      case o73 => decide
                      obtain ⟨fa_32, dfa_32⟩ : ∃ g : Nat → Int32, g = hx_up ia14_qrl fw14_x_84.toNatClampNeg w_18 := ⟨_, rfl⟩
                      have nfa_32 : h_31.2.1 qrl = fa_32 := ?o74
                      case o74 =>
                        rw [eh_31, dfa_32, ← nia14_qrlO]
                        exact hx_pi_fun _ _ _ _
                      refine lv_aload_n hx hb dX10_net_173 rfl (lv_at hl 4 rfl) ?_
                      refine lv_dup hx hb dX10_net_174 rfl ?_
                      refine hk_geti hx hb hts hC_10 hown hW (gx.S hM) tt_10 84 ?o75 rfl kw_1227 ⟨rfl, rfl, rfl⟩ ffw14_x_84 dX10_net_175 ?_
                      case o75 => decide
                      refine lv_iconst (v := 1) hx hb dX10_net_178 ?o76 ?_
                      case o76 => decide
                      refine lv_iadd hx hb dX10_net_179 ?_
                      have rg_33 := i32_r fw14_x_84
                      refine lv_topi (fun x_34 ex_34 => ?_)
                      have zx_34 : x_34.toInt = fw14_x_84.toInt + 1 := ?o77
                      case o77 =>
                        rw [ex_34]
                        refine i32_add rfl ?o78 ?o79 ?o80
                        case o78 => decide
                        case o79 => omega
                        case o80 => omega
                      refine hx_puti hx hb hts hC_10 hown hW hT (hx_S.rf (M := [(10, 84)])) (gx.S hM) tt_10 84 ?o81 rfl kw_1227 ⟨rfl, rfl, rfl⟩ rfl (x := x_34) ⟨?o82, ?o83⟩ rfl rfl rfl (List.mem_singleton.mpr rfl) dX10_net_180 (fun H locs h_35 eh_35 hW hT hs => ?_)
                      case o81 => decide
                      case o82 => omega
                      case o83 => omega
                      replace f_2 := (hs.o (gx.S hM) trivial rfl).1.trans f_2
                      replace fw_18 := (hs.o (gx.S hM) trivial rfl).1.trans fw_18
                      replace fw_19 := (hs.o (gx.S hM) trivial rfl).1.trans fw_19
                      replace ffw114_x_59 := (hs.o (gx.S hM) trivial rfl).1.trans ffw114_x_59
                      replace fw_12 : h_35.2.1 qdb = w_12 := (funext fun j => (hs.a (gqdb.S hM) rfl j).1).trans fw_12
                      replace fw_20 : h_35.2.1 qbr = w_20 := (funext fun j => (hs.a (gqbr.S hM) rfl j).1).trans fw_20
                      replace nia114_qpo : h_35.2.1 qpo = ia114_qpo := (funext fun j => (hs.a (gqpo.S hM) rfl j).1).trans nia114_qpo
                      replace nia114_qpd : h_35.2.1 qpd = ia114_qpd := (funext fun j => (hs.a (gqpd.S hM) rfl j).1).trans nia114_qpd
                      replace nia114_qps : h_35.2.1 qps = ia114_qps := (funext fun j => (hs.a (gqps.S hM) rfl j).1).trans nia114_qps
                      replace nia114_qpk : h_35.2.1 qpk = ia114_qpk := (funext fun j => (hs.a (gqpk.S hM) rfl j).1).trans nia114_qpk
                      replace nia114_qpt : h_35.2.1 qpt = ia114_qpt := (funext fun j => (hs.a (gqpt.S hM) rfl j).1).trans nia114_qpt
                      replace nfa_32 : h_35.2.1 qrl = fa_32 := (funext fun j => (hs.a (gqrl.S hM) rfl j).1).trans nfa_32
                      replace hM := hM.tr (hs.mono ?o84)
                      case o84 => decide
                      have f_36 : h_35.2.1 x 84 = x_34 := ?o85
                      case o85 =>
                        rw [eh_35]
                        exact hx_pi_at _ _ _ _
                      refine lv_iload_n hx hb dX10_net_183 rfl (lv_at hl 3 rfl) ?_
                      refine lv_aload_n hx hb dX10_net_184 rfl (lv_at hl 4 rfl) ?_
                      refine hk_geti hx hb hts hC_10 hown hW (gx.S hM) tt_10 86 ?o86 rfl kw_1229 ⟨rfl, rfl, rfl⟩ fw_18 dX10_net_185 ?_
                      case o86 => decide
                      refine lv_aload_n hx hb dX10_net_188 rfl (lv_at hl 4 rfl) ?_
                      refine hk_geti hx hb hts hC_10 hown hW (gx.S hM) tt_10 87 ?o87 rfl kw_1230 ⟨rfl, rfl, rfl⟩ fw_19 dX10_net_189 ?_
                      case o87 => decide
                      refine lv_imul hx hb dX10_net_192 ?_
                      refine lv_topi (fun x_37 ex_37 => ?_)
                      have mx_37 : w_18.toInt = 0 → x_37.toInt = 0 := fun z => by rw [ex_37]; exact hx_mul0 z
                      refine lv_iadd hx hb dX10_net_193 ?_
                      have rg_38 := i32_r iv14_1
                      have rg_39 := i32_r x_37
                      refine lv_topi (fun x_40 ex_40 => ?_)
                      refine lv_istore_n (lv' := [(1, .int x_40), (4, .int iv114_4), (2, .int (1 : Int32)), (3, .int iv31_3), (0, .ref x)]) hx hb dX10_net_194 rfl hl ?o88 rfl (fun ls hl => ?_)
                      case o88 => decide
                      refine lv_goto (tgt := 14) hx hb dX10_net_195 ?o89 ?_
                      case o89 => decide
                      have zk_1 : (1 : Int32).toInt = 1 := ?o90
                      case o90 => decide
                      refine ih14 x_40 (1 : Int32) fw114_x_59 x_34 ia114_qpo ia114_qpd ia114_qps ia114_qpk ia114_qpt fa_32 _ _ hL1 h_35 (i32_r _).1 (i32_r _).2 ?o91 ?o92 ?o93 ?o94 ?o95 ?o96 (hz_gos vi14_0 vi14_1 ?o97 hgo9 zx_34) (hz_it_s vi14_1 ?o98 be1 be2 hT8 zx_34) (hz_sa_s vi14_2 vi14_1 ?o99 be1 be2 ex_37 ex_40 zx_34) ?o100 (hz_ls_s vi14_4 vi14_1 ?o101 (by unfold Int32.toNatClampNeg; omega) be1 dfa_32 zx_34) ls ?o102 hW hT hM ffw114_x_59 f_36 f_2 nia114_qpo nia114_qpd nia114_qps nia114_qpk nia114_qpt nfa_32 (lv_sub hl [2, 0, 4] rfl)
                      case o91 => decide
                      case o92 => decide
                      case o93 => omega
                      case o94 => omega
                      case o95 => omega
                      case o96 => omega
                      case o97 => omega
                      case o98 => omega
                      case o99 => omega
                      case o100 => omega
                      case o101 => omega
                      case o102 => omega
                    · skip
                      refine lv_aload_n hx hb dX10_net_123 rfl (lv_at hl 4 rfl) ?_
                      refine lv_aload_n hx hb dX10_net_124 rfl (lv_at hl 4 rfl) ?_
                      refine hk_getr hx hb hts hC_10 hown hW (gx.S hM) tt_10 88 ?o103 rfl kw_1231 ⟨rfl, rfl, rfl⟩ ((hM.o gx trivial rfl).2.trans f_x_88) dX10_net_125 ?_
                      case o103 => decide
                      refine lv_iload hx hb dX10_net_128 (lv_at hl 0 rfl) ?_
                      refine hx_iald hx hb hW hT (gqbr.S hM) tt_110 rfl ⟨?o104, ?o105⟩ dX10_net_130 (fun x_41 ex_41 lx_41 ux_41 => ?_)
                      case o104 => omega
                      case o105 => omega
                      have ax_41 : x_41 = w_20 iv114_4.toNatClampNeg := ex_41.trans (congrFun fw_20 _)
                      refine lv_aload_n hx hb dX10_net_131 rfl (lv_at hl 4 rfl) ?_
                      refine hk_getr hx hb hts hC_10 hown hW (gx.S hM) tt_10 88 ?o106 rfl kw_1231 ⟨rfl, rfl, rfl⟩ ((hM.o gx trivial rfl).2.trans f_x_88) dX10_net_132 ?_
                      case o106 => decide
                      refine lv_iload hx hb dX10_net_135 (lv_at hl 0 rfl) ?_
                      refine lv_iconst (v := 1) hx hb dX10_net_137 ?o107 ?_
                      case o107 => decide
                      refine lv_iadd hx hb dX10_net_138 ?_
                      have rg_42 := i32_r iv114_4
                      refine lv_topi (fun x_43 ex_43 => ?_)
                      have zx_43 : x_43.toInt = iv114_4.toInt + 1 := ?o108
                      case o108 =>
                        rw [ex_43]
                        refine i32_add rfl ?o109 ?o110 ?o111
                        case o109 => decide
                        case o110 => omega
                        case o111 => omega
                      refine lv_aload_n hx hb dX10_net_139 rfl (lv_at hl 4 rfl) ?_
                      refine hk_geti hx hb hts hC_10 hown hW (gx.S hM) tt_10 87 ?o112 rfl kw_1230 ⟨rfl, rfl, rfl⟩ fw_19 dX10_net_140 ?_
                      case o112 => decide
                      refine lv_irem hx hb dX10_net_143 (hx_ne0 ?o113) ?_
                      case o113 => omega
                      refine lv_topi (fun x_44 ex_44 => ?_)
                      have zx_44 : 0 ≤ x_44.toInt ∧ x_44.toInt < w_19.toInt := ?o114
                      case o114 =>
                        rw [ex_44]
                        refine hx_rem ?o115 ?o116
                        case o115 => omega
                        case o116 => omega
                      have hmd : x_44.toInt = x_43.toInt % w_19.toInt := ?o117
                      case o117 =>
                        rw [ex_44]
                        refine hx_remz ?o118 ?o119
                        case o118 => omega
                        case o119 => omega
                      refine hx_iald hx hb hW hT (gqbr.S hM) tt_110 rfl ⟨?o120, ?o121⟩ dX10_net_144 (fun x_45 ex_45 lx_45 ux_45 => ?_)
                      case o120 => omega
                      case o121 => omega
                      have ax_45 : x_45 = w_20 x_44.toNatClampNeg := ex_45.trans (congrFun fw_20 _)
                      refine lv_aload_n hx hb dX10_net_145 rfl (lv_at hl 4 rfl) ?_
                      refine hk_geti hx hb hts hC_10 hown hW (gx.S hM) tt_10 86 ?o122 rfl kw_1229 ⟨rfl, rfl, rfl⟩ fw_18 dX10_net_146 ?_
                      case o122 => decide
                      refine lv_iconst (v := 1) hx hb dX10_net_149 ?o123 ?_
                      case o123 => decide
                      have hq9 : x_41.toInt = (hz_be (hz_RP odf szf gdf owf svf (hz_rc A plf) nw0.toInt) agf byf c0.toInt.toNat pn0.toInt ((ia14_qpo, ia14_qpd, ia14_qps, ia14_qpk, ia14_qpt, fw14_x_59.toInt.toNat) : hz_P)).2.2 iv114_4.toInt.toNat := ?o124
                      case o124 =>
                        rw [ax_41]
                        exact hS9.2.2.2 _ (by unfold Int32.toNatClampNeg; omega)
                      have hm1 := Int.emod_nonneg (iv114_4.toInt + 1) (show w_19.toInt ≠ 0 by omega); have hm2 := Int.emod_lt_of_pos (iv114_4.toInt + 1) (show 0 < w_19.toInt by omega)
                      have hp9 : x_45.toInt = (hz_be (hz_RP odf szf gdf owf svf (hz_rc A plf) nw0.toInt) agf byf c0.toInt.toNat pn0.toInt ((ia14_qpo, ia14_qpd, ia14_qps, ia14_qpk, ia14_qpt, fw14_x_59.toInt.toNat) : hz_P)).2.2 ((iv114_4.toInt + 1) % w_19.toInt).toNat := ?o125
                      case o125 =>
                        have e9 : x_44.toNatClampNeg = ((iv114_4.toInt + 1) % w_19.toInt).toNat := (by unfold Int32.toNatClampNeg; rw [hmd, show x_43.toInt = iv114_4.toInt + 1 by omega])
                        rw [ax_45, e9]
                        refine hS9.2.2.2 _ ?o126
                        case o126 => omega
                      have zc_1 : (1 : Int32).toInt = 1 := ?o127
                      case o127 => decide
                      refine hx_goi (hx_runV (As := [.int x_41, .int x_45, .int w_18, .int (1 : Int32)]) (rest := []) ⟨hx, hb, hml, hown, hts⟩ hW (gx.S hM) tt_10 (T := TX10) (N := 98) rfl (t_X10_takes_1v l dC dI dA hL1 hl1 H.size x x_41 x_45 w_18 hT (gx.S hM) qfo (gqfo.S hM) ((hM.o gx trivial rfl).2.trans f_x_46) qhe (gqhe.S hM) ((hM.o gx trivial rfl).2.trans f_x_47) qju (gqju.S hM) ((hM.o gx trivial rfl).2.trans f_x_51) qod (gqod.S hM) ((hM.o gx trivial rfl).2.trans f_x_48) qsv (gqsv.S hM) ((hM.o gx trivial rfl).2.trans f_x_50) qsz (gqsz.S hM) ((hM.o gx trivial rfl).2.trans f_x_49) qgd (gqgd.S hM) ((hM.o gx trivial rfl).2.trans f_x_56) qow (gqow.S hM) ((hM.o gx trivial rfl).2.trans f_x_55) qwk (gqwk.S hM) ((hM.o gx trivial rfl).2.trans f_x_54) qpl (gqpl.S hM) ((hM.o gx trivial rfl).2.trans f_x_44) qru (gqru.S hM) ((hM.o gx trivial rfl).2.trans f_x_3) qpo (gqpo.S hM) ((hM.o gx trivial rfl).2.trans f_x_60) qpd (gqpd.S hM) ((hM.o gx trivial rfl).2.trans f_x_61) qps (gqps.S hM) ((hM.o gx trivial rfl).2.trans f_x_62) qpk (gqpk.S hM) ((hM.o gx trivial rfl).2.trans f_x_63) qpt (gqpt.S hM) ((hM.o gx trivial rfl).2.trans f_x_64) qag (gqag.S hM) ((hM.o gx trivial rfl).2.trans f_x_38) qby (gqby.S hM) ((hM.o gx trivial rfl).2.trans f_x_37) fof (hx_afS hM gqfo rfl af_qfo) hrf (hx_afS hM gqhe rfl af_qhe) udf (hx_afS hM gqju rfl af_qju) odf (hx_afS hM gqod rfl af_qod) svf (hx_afS hM gqsv rfl af_qsv) szf (hx_afS hM gqsz rfl af_qsz) gdf (hx_afS hM gqgd rfl af_qgd) owf (hx_afS hM gqow rfl af_qow) wkf (hx_afS hM gqwk rfl af_qwk) plf (hx_afS hM gqpl rfl af_qpl) rlf (hx_afS hM gqru rfl af_qru) ia114_qpo nia114_qpo ia114_qpd nia114_qpd ia114_qps nia114_qps ia114_qpk nia114_qpk ia114_qpt nia114_qpt agf (hx_afS hM gqag rfl af_qag) byf (hx_afS hM gqby rfl af_qby) c0 ((hM.o gx trivial rfl).1.trans f_x_36) a0 ((hM.o gx trivial rfl).1.trans f_x_1) nw0 ((hM.o gx trivial rfl).1.trans f_x_0) fw114_x_59 ffw114_x_59 ?o128 adf psf prf A hCA hPL (hz_otherI HR9 HN9 HBk9 hbl1 ⟨hn2, hn4⟩ gd9 gl9 (j := iv114_4.toInt) ?o129 ?o130 vi114_0) (by rw [hq9, hp9]; exact hz_roomTI HR9 HN9 HBk9 hbl1 ⟨hn2, hn4⟩ gd9 gl9 h6008 (j := iv114_4.toInt) (by omega) (by omega) vi114_0)) (cwV 4 hts (hx_gV kw_1709 kw_1706 kw_1708 kw_89 kw_103) rfl rfl rfl (by decide +kernel) ⟨Nat.le_of_ble_eq_true rfl, Nat.le_of_ble_eq_true rfl⟩) rfl hl.1 rfl (Nat.le_of_ble_eq_true rfl) dX10_net_150 ⟨Nat.le_of_ble_eq_true rfl, Nat.le_of_ble_eq_true rfl⟩) hW (fun r_48 L_46 h_47 H locs p_49 hW => ?_)
                      case o128 => omega
                      case o129 => omega
                      case o130 => omega
                      obtain ⟨⟨w_51, w_52, w_53, w_54, w_55, w_56, fw_51, fw_52, fw_53, fw_54, fw_55, fw_56, hr_50⟩, hT, hs⟩ := p_49
                      replace hT : hx_T T_tb L_46 h_47 := hT
                      replace hs : hx_S T_tb [(10, 59), (10, 67), (10, 68), (10, 69), (10, 70), (10, 71), (93, 0), (94, 0), (95, 0), (96, 0), (97, 0)] hL1 hl1 L_46 h_47 := hs
                      replace f_2 := (hs.o (gx.S hM) trivial rfl).1.trans f_2
                      replace ffw14_x_84 := (hs.o (gx.S hM) trivial rfl).1.trans ffw14_x_84
                      replace fw_18 := (hs.o (gx.S hM) trivial rfl).1.trans fw_18
                      replace fw_19 := (hs.o (gx.S hM) trivial rfl).1.trans fw_19
                      replace nia14_qrl : h_47.2.1 qrl = ia14_qrl := (funext fun j => (hs.a (gqrl.S hM) rfl j).1).trans nia14_qrl
                      replace fw_12 : h_47.2.1 qdb = w_12 := (funext fun j => (hs.a (gqdb.S hM) rfl j).1).trans fw_12
                      replace fw_20 : h_47.2.1 qbr = w_20 := (funext fun j => (hs.a (gqbr.S hM) rfl j).1).trans fw_20
                      replace ex_41 := ex_41.trans (hs.a (gqbr.S hM) rfl _).1.symm
                      replace ex_45 := ex_45.trans (hs.a (gqbr.S hM) rfl _).1.symm
                      replace hM := hM.tr (hs.mono ?o131)
                      case o131 => decide
                      have fw_51 : h_47.2.1 x 59 = w_51 := fw_51
                      have bw_51 := hT.gi (gx.S hM) tt_10 (k := 59) rfl
                      rw [fw_51] at bw_51
                      have bw_51 : 0 ≤ w_51.toInt ∧ w_51.toInt ≤ 600 := bw_51
                      have fw_52 : h_47.2.1 qpo = w_52 := fw_52
                      have fw_53 : h_47.2.1 qpd = w_53 := fw_53
                      have fw_54 : h_47.2.1 qps = w_54 := fw_54
                      have fw_55 : h_47.2.1 qpk = w_55 := fw_55
                      have fw_56 : h_47.2.1 qpt = w_56 := fw_56
                      have htk9 := hr_50; rw [hq9, hp9] at htk9
                      refine lv_pop hx hb dX10_net_153 rfl ?_
                      obtain ⟨x_57, ex_57⟩ : ∃ y : Int32, y = iv114_4 + Int32.ofInt 1 := ⟨_, rfl⟩
                      have zx_57 : x_57.toInt = iv114_4.toInt + (1) := ?o132
                      case o132 =>
                        rw [ex_57]
                        refine i32_add rfl ?o133 ?o134 ?o135
                        case o133 => decide
                        case o134 => omega
                        case o135 => omega
                      refine lv_iinc (v := x_57) (lv' := [(4, .int x_57), (2, .int (1 : Int32)), (3, .int iv31_3), (1, .int iv14_1), (0, .ref x)]) hx hb dX10_net_154 hl (k := 0) rfl ex_57.symm ?o136 rfl (fun ls hl => ?_)
                      case o136 => decide
                      refine lv_goto (tgt := 114) hx hb dX10_net_157 ?o137 ?_
                      case o137 => decide
                      refine ih114 x_57 w_51 w_52 w_53 w_54 w_55 w_56 _ _ L_46 h_47 ?o138 ?o139 ?o140 ?o141 (hz_tr_s vi114_0 ?o142 (Prod.ext htk9.symm rfl) zx_57) ?o143 ls ?o144 hW hT hM fw_51 f_2 ffw14_x_84 fw_18 fw_19 fw_52 fw_53 fw_54 fw_55 fw_56 nia14_qrl fw_12 fw_20 (lv_sub hl [0, 1, 2, 3, 4] rfl)
                      case o138 => omega
                      case o139 => omega
                      case o140 => omega
                      case o141 => omega
                      case o142 => omega
                      case o143 => omega
                      case o144 => omega
                have zk_0 : (0 : Int32).toInt = 0 := ?o145
                case o145 => decide
                refine loop114 5 (0 : Int32) fw14_x_59 ia14_qpo ia14_qpd ia14_qps ia14_qpk ia14_qpt _ _ hL1 hl1 ?o146 ?o147 ?o148 ?o149 (by rw [zk_0]; rfl) ?o150 ls ?o151 hW hT hM ffw14_x_59 f_2 ffw14_x_84 fw_18 fw_19 nia14_qpo nia14_qpd nia14_qps nia14_qpk nia14_qpt nia14_qrl fw_12 fw_20 hl
                case o146 => decide
                case o147 => decide
                case o148 => omega
                case o149 => omega
                case o150 => omega
                case o151 => omega
          · skip
            refine lv_iload_n hx hb dX10_net_40 rfl (lv_at hl 1 rfl) ?_
            refine lv_aload_n hx hb dX10_net_41 rfl (lv_at hl 4 rfl) ?_
            refine lv_aload_n hx hb dX10_net_42 rfl (lv_at hl 4 rfl) ?_
            refine hk_getr hx hb hts hC_10 hown hW (gx.S hM) tt_10 88 ?o152 rfl kw_1231 ⟨rfl, rfl, rfl⟩ ((hM.o gx trivial rfl).2.trans f_x_88) dX10_net_43 ?_
            case o152 => decide
            refine lv_iload hx hb dX10_net_46 (lv_at hl 0 rfl) ?_
            refine hx_iald hx hb hW hT (gqbr.S hM) tt_110 rfl ⟨?o153, ?o154⟩ dX10_net_48 (fun x_58 ex_58 lx_58 ux_58 => ?_)
            case o153 => omega
            case o154 => omega
            have ax_58 : x_58 = w_20 iv31_4.toNatClampNeg := ex_58.trans (congrFun fw_20 _)
            refine lv_aload_n hx hb dX10_net_49 rfl (lv_at hl 4 rfl) ?_
            refine hk_getr hx hb hts hC_10 hown hW (gx.S hM) tt_10 88 ?o155 rfl kw_1231 ⟨rfl, rfl, rfl⟩ ((hM.o gx trivial rfl).2.trans f_x_88) dX10_net_50 ?_
            case o155 => decide
            refine lv_iload hx hb dX10_net_53 (lv_at hl 0 rfl) ?_
            refine lv_iconst (v := 1) hx hb dX10_net_55 ?o156 ?_
            case o156 => decide
            refine lv_iadd hx hb dX10_net_56 ?_
            have rg_59 := i32_r iv31_4
            refine lv_topi (fun x_60 ex_60 => ?_)
            have zx_60 : x_60.toInt = iv31_4.toInt + 1 := ?o157
            case o157 =>
              rw [ex_60]
              refine i32_add rfl ?o158 ?o159 ?o160
              case o158 => decide
              case o159 => omega
              case o160 => omega
            refine lv_aload_n hx hb dX10_net_57 rfl (lv_at hl 4 rfl) ?_
            refine hk_geti hx hb hts hC_10 hown hW (gx.S hM) tt_10 87 ?o161 rfl kw_1230 ⟨rfl, rfl, rfl⟩ fw_19 dX10_net_58 ?_
            case o161 => decide
            refine lv_irem hx hb dX10_net_61 (hx_ne0 ?o162) ?_
            case o162 => omega
            refine lv_topi (fun x_61 ex_61 => ?_)
            have zx_61 : 0 ≤ x_61.toInt ∧ x_61.toInt < w_19.toInt := ?o163
            case o163 =>
              rw [ex_61]
              refine hx_rem ?o164 ?o165
              case o164 => omega
              case o165 => omega
            have hmd : x_61.toInt = x_60.toInt % w_19.toInt := ?o166
            case o166 =>
              rw [ex_61]
              refine hx_remz ?o167 ?o168
              case o167 => omega
              case o168 => omega
            refine hx_iald hx hb hW hT (gqbr.S hM) tt_110 rfl ⟨?o169, ?o170⟩ dX10_net_62 (fun x_62 ex_62 lx_62 ux_62 => ?_)
            case o169 => omega
            case o170 => omega
            have ax_62 : x_62 = w_20 x_61.toNatClampNeg := ex_62.trans (congrFun fw_20 _)
            refine lv_aload_n hx hb dX10_net_63 rfl (lv_at hl 4 rfl) ?_
            refine hk_geti hx hb hts hC_10 hown hW (gx.S hM) tt_10 86 ?o171 rfl kw_1229 ⟨rfl, rfl, rfl⟩ fw_18 dX10_net_64 ?_
            case o171 => decide
            refine lv_iconst (v := 0) hx hb dX10_net_67 ?o172 ?_
            case o172 => decide
            have zc_0 : (0 : Int32).toInt = 0 := ?o173
            case o173 => decide
            refine hx_goi (hx_runV (As := [.int x_58, .int x_62, .int w_18, .int (0 : Int32)]) (rest := [.int iv31_3]) ⟨hx, hb, hml, hown, hts⟩ hW (gx.S hM) tt_10 (T := TX10) (N := 98) rfl (t_X10_takes_0v l dC dI dA hL1 hl1 H.size x x_58 x_62 w_18 hT (gx.S hM) qfo (gqfo.S hM) ((hM.o gx trivial rfl).2.trans f_x_46) qhe (gqhe.S hM) ((hM.o gx trivial rfl).2.trans f_x_47) qju (gqju.S hM) ((hM.o gx trivial rfl).2.trans f_x_51) qod (gqod.S hM) ((hM.o gx trivial rfl).2.trans f_x_48) qsv (gqsv.S hM) ((hM.o gx trivial rfl).2.trans f_x_50) qsz (gqsz.S hM) ((hM.o gx trivial rfl).2.trans f_x_49) qgd (gqgd.S hM) ((hM.o gx trivial rfl).2.trans f_x_56) qow (gqow.S hM) ((hM.o gx trivial rfl).2.trans f_x_55) qwk (gqwk.S hM) ((hM.o gx trivial rfl).2.trans f_x_54) qpl (gqpl.S hM) ((hM.o gx trivial rfl).2.trans f_x_44) qru (gqru.S hM) ((hM.o gx trivial rfl).2.trans f_x_3) qpo (gqpo.S hM) ((hM.o gx trivial rfl).2.trans f_x_60) qpd (gqpd.S hM) ((hM.o gx trivial rfl).2.trans f_x_61) qps (gqps.S hM) ((hM.o gx trivial rfl).2.trans f_x_62) qpk (gqpk.S hM) ((hM.o gx trivial rfl).2.trans f_x_63) qpt (gqpt.S hM) ((hM.o gx trivial rfl).2.trans f_x_64) qag (gqag.S hM) ((hM.o gx trivial rfl).2.trans f_x_38) qby (gqby.S hM) ((hM.o gx trivial rfl).2.trans f_x_37) fof (hx_afS hM gqfo rfl af_qfo) hrf (hx_afS hM gqhe rfl af_qhe) udf (hx_afS hM gqju rfl af_qju) odf (hx_afS hM gqod rfl af_qod) svf (hx_afS hM gqsv rfl af_qsv) szf (hx_afS hM gqsz rfl af_qsz) gdf (hx_afS hM gqgd rfl af_qgd) owf (hx_afS hM gqow rfl af_qow) wkf (hx_afS hM gqwk rfl af_qwk) plf (hx_afS hM gqpl rfl af_qpl) rlf (hx_afS hM gqru rfl af_qru) ia14_qpo nia14_qpo ia14_qpd nia14_qpd ia14_qps nia14_qps ia14_qpk nia14_qpk ia14_qpt nia14_qpt agf (hx_afS hM gqag rfl af_qag) byf (hx_afS hM gqby rfl af_qby) c0 ((hM.o gx trivial rfl).1.trans f_x_36) a0 ((hM.o gx trivial rfl).1.trans f_x_1) nw0 ((hM.o gx trivial rfl).1.trans f_x_0) fw14_x_59 ffw14_x_59 ?o174 adf psf prf A hCA hPL (fun c hc => HBk9 c hc)) (cwV 4 hts (hx_gV kw_1709 kw_1706 kw_1708 kw_89 kw_103) rfl rfl rfl (by decide +kernel) ⟨Nat.le_of_ble_eq_true rfl, Nat.le_of_ble_eq_true rfl⟩) rfl hl.1 rfl (Nat.le_of_ble_eq_true rfl) dX10_net_68 ⟨Nat.le_of_ble_eq_true rfl, Nat.le_of_ble_eq_true rfl⟩) hW (fun r_65 L_63 h_64 H locs p_66 hW => ?_)
            case o174 => omega
            obtain ⟨hr_67, hT, hs⟩ := p_66
            replace hT : hx_T T_tb L_63 h_64 := hT
            replace hs : hx_S T_tb [(10, 67), (10, 68), (10, 69), (10, 70), (10, 71)] hL1 hl1 L_63 h_64 := hs
            replace f_2 := (hs.o (gx.S hM) trivial rfl).1.trans f_2
            replace ffw14_x_59 := (hs.o (gx.S hM) trivial rfl).1.trans ffw14_x_59
            replace ffw14_x_84 := (hs.o (gx.S hM) trivial rfl).1.trans ffw14_x_84
            replace fw_18 := (hs.o (gx.S hM) trivial rfl).1.trans fw_18
            replace fw_19 := (hs.o (gx.S hM) trivial rfl).1.trans fw_19
            replace nia14_qpo : h_64.2.1 qpo = ia14_qpo := (funext fun j => (hs.a (gqpo.S hM) rfl j).1).trans nia14_qpo
            replace nia14_qpd : h_64.2.1 qpd = ia14_qpd := (funext fun j => (hs.a (gqpd.S hM) rfl j).1).trans nia14_qpd
            replace nia14_qps : h_64.2.1 qps = ia14_qps := (funext fun j => (hs.a (gqps.S hM) rfl j).1).trans nia14_qps
            replace nia14_qpk : h_64.2.1 qpk = ia14_qpk := (funext fun j => (hs.a (gqpk.S hM) rfl j).1).trans nia14_qpk
            replace nia14_qpt : h_64.2.1 qpt = ia14_qpt := (funext fun j => (hs.a (gqpt.S hM) rfl j).1).trans nia14_qpt
            replace nia14_qrl : h_64.2.1 qrl = ia14_qrl := (funext fun j => (hs.a (gqrl.S hM) rfl j).1).trans nia14_qrl
            replace fw_12 : h_64.2.1 qdb = w_12 := (funext fun j => (hs.a (gqdb.S hM) rfl j).1).trans fw_12
            replace fw_20 : h_64.2.1 qbr = w_20 := (funext fun j => (hs.a (gqbr.S hM) rfl j).1).trans fw_20
            replace ex_58 := ex_58.trans (hs.a (gqbr.S hM) rfl _).1.symm
            replace ex_62 := ex_62.trans (hs.a (gqbr.S hM) rfl _).1.symm
            replace hM := hM.tr (hs.mono ?o175)
            case o175 => decide
            have hq9 : x_58.toInt = (hz_be (hz_RP odf szf gdf owf svf (hz_rc A plf) nw0.toInt) agf byf c0.toInt.toNat pn0.toInt ((ia14_qpo, ia14_qpd, ia14_qps, ia14_qpk, ia14_qpt, fw14_x_59.toInt.toNat) : hz_P)).2.2 iv31_4.toInt.toNat := ?o176
            case o176 =>
              rw [ax_58]
              exact hS9.2.2.2 _ (by unfold Int32.toNatClampNeg; omega)
            have hm1 := Int.emod_nonneg (iv31_4.toInt + 1) (show w_19.toInt ≠ 0 by omega); have hm2 := Int.emod_lt_of_pos (iv31_4.toInt + 1) (show 0 < w_19.toInt by omega)
            have hp9 : x_62.toInt = (hz_be (hz_RP odf szf gdf owf svf (hz_rc A plf) nw0.toInt) agf byf c0.toInt.toNat pn0.toInt ((ia14_qpo, ia14_qpd, ia14_qps, ia14_qpk, ia14_qpt, fw14_x_59.toInt.toNat) : hz_P)).2.2 ((iv31_4.toInt + 1) % w_19.toInt).toNat := ?o177
            case o177 =>
              have e9 : x_61.toNatClampNeg = ((iv31_4.toInt + 1) % w_19.toInt).toNat := (by unfold Int32.toNatClampNeg; rw [hmd, show x_60.toInt = iv31_4.toInt + 1 by omega])
              rw [ax_62, e9]
              refine hS9.2.2.2 _ ?o178
              case o178 => omega
            have htk9 := hr_67.1; rw [hq9, hp9] at htk9
            refine lv_iadd hx hb dX10_net_71 ?_
            have rg_68 := i32_r iv31_3
            have rg_69 := i32_r r_65
            refine lv_topi (fun x_70 ex_70 => ?_)
            have zx_70 : x_70.toInt = iv31_3.toInt + r_65.toInt := ?o179
            case o179 =>
              rw [ex_70]
              refine i32_add rfl rfl ?o180 ?o181
              case o180 => omega
              case o181 => omega
            refine lv_istore_n (lv' := [(3, .int x_70), (4, .int iv31_4), (2, .int iv14_2), (1, .int iv14_1), (0, .ref x)]) hx hb dX10_net_72 rfl hl ?o182 rfl (fun ls hl => ?_)
            case o182 => decide
            obtain ⟨x_71, ex_71⟩ : ∃ y : Int32, y = iv31_4 + Int32.ofInt 1 := ⟨_, rfl⟩
            have zx_71 : x_71.toInt = iv31_4.toInt + (1) := ?o183
            case o183 =>
              rw [ex_71]
              refine i32_add rfl ?o184 ?o185 ?o186
              case o184 => decide
              case o185 => omega
              case o186 => omega
            refine lv_iinc (v := x_71) (lv' := [(4, .int x_71), (3, .int x_70), (2, .int iv14_2), (1, .int iv14_1), (0, .ref x)]) hx hb dX10_net_73 hl (k := 1) rfl ex_71.symm ?o187 rfl (fun ls hl => ?_)
            case o187 => decide
            refine lv_goto (tgt := 31) hx hb dX10_net_76 ?o188 ?_
            case o188 => decide
            refine ih31 x_70 x_71 _ _ L_63 h_64 ?o189 ?o190 ?o191 ?o192 (hz_ne_s vi31_0 ?o193 (Prod.eta _).symm (by rw [← htk9]; omega) zx_71) ?o194 ?o195 ls ?o196 hW hT hM f_2 ffw14_x_59 ffw14_x_84 fw_18 fw_19 nia14_qpo nia14_qpd nia14_qps nia14_qpk nia14_qpt nia14_qrl fw_12 fw_20 (lv_sub hl [0, 1, 2, 3, 4] rfl)
            case o189 => omega
            case o190 => omega
            case o191 => omega
            case o192 => omega
            case o193 => omega
            case o194 => omega
            case o195 => omega
            case o196 => omega
      have zk_0 : (0 : Int32).toInt = 0 := ?o197
      case o197 => decide
      have zk_0 : (0 : Int32).toInt = 0 := ?o198
      case o198 => decide
      refine loop31 5 (0 : Int32) (0 : Int32) _ _ L_13 h_14 ?o199 ?o200 ?o201 ?o202 (by rw [zk_0]; rfl) ?o203 ?o204 ls ?o205 hW hT hM f_2 ffw14_x_59 ffw14_x_84 fw_18 fw_19 nia14_qpo nia14_qpd nia14_qps nia14_qpk nia14_qpt nia14_qrl fw_12 fw_20 hl
      case o199 => decide
      case o200 => decide
      case o201 => decide
      case o202 => decide
      case o203 => omega
      case o204 => omega
      case o205 => omega
  have zk_0 : (0 : Int32).toInt = 0 := ?o206
  case o206 => decide
  have zk_1 : (1 : Int32).toInt = 1 := ?o207
  case o207 => decide
  have zk_0 : (0 : Int32).toInt = 0 := ?o208
  case o208 => decide
  refine loop14 101 (0 : Int32) (1 : Int32) n0 (0 : Int32) pof pdf psm pkf pst fa_5 _ _ L h_3 ?o209 ?o210 ?o211 ?o212 ?o213 ?o214 ?o215 ?o216 (fun j hj => by exfalso; rw [zk_0] at hj; exact absurd hj (Nat.not_lt_zero j)) (by rw [zk_0]; rfl) (by rw [show ((0 : Int32).toInt).toNat = 0 from by decide]; rfl) ?o217 (fun j hj => by exfalso; rw [zk_0] at hj; exact absurd hj (Nat.not_lt_zero j)) ls ?o218 hW hT hM f_x_59 f_4 f_2 af_qpo af_qpd af_qps af_qpk af_qpt nfa_5 hl
  case o209 => decide
  case o210 => decide
  case o211 => decide
  case o212 => decide
  case o213 => omega
  case o214 => omega
  case o215 => decide
  case o216 => decide
  case o217 => omega
  case o218 => omega


set_option maxHeartbeats 4000000 in
set_option maxRecDepth 100000 in
theorem t_X10_netted_v (l : Launch) (dC : Nat → ClassId) (dI : Nat → Nat → Nat) (dA : Nat → ClassId) (L : List Nat) (h : hx_h) (sz : Nat) (x : Nat) (i1 : Int32) (hT : hx_T T_tb L h) (gx : hx_g L h x 10) (qrl : Nat) (gqrl : hx_g L h qrl 109) (f_x_85 : h.2.2 x 85 = some qrl) (rgl : Nat → Int32) (af_qrl : h.2.1 qrl = rgl) (hn0 : Int32) (f_x_83 : h.2.1 x 83 = hn0) (rm0 : Int32) (f_x_84 : h.2.1 x 84 = rm0) : Met l yX10_netted (Cond.code yX10_netted cX10_netted 2 (some .int) :: hx_all) ({ frames := 1, cells := 0, slots := 0, locals := 22 }) (va_Pc [.ref x, .int i1] (hx_B T_tb (P_ty dA) (dC, dI) vwCl L h sz)) (va_Qi (fun (r : Int32) (u : List Nat × hx_h) => (hz_ND2 hn0.toInt i1.toInt rm0.toInt r.toInt rgl) ∧ hx_T T_tb u.1 u.2 ∧ hx_S T_tb [] L h u.1 u.2) (hx_E T_tb (P_ty dA) (dC, dI) vwCl (hx_A L sz)) (hx_A L sz)) 0 0 (hx_A L sz) := by
  refine hx_met (lv := [(0, .ref x), (1, .int i1)]) (by decide +kernel) rfl (Nat.le_of_ble_eq_true rfl) rfl ?_
  intro p e s m below meth c hx hb hml hr hlk hts0 hown hin hsz hW ls hl
  have hts : ∀ w ∈ hx_all, w.before _ s = true := fun w hw => hts0 w (List.mem_cons_of_mem _ hw)
  have hown : s.vm.findClass "SmallCourtModel" = some m.cls := hown
  have hM : hx_S T_tb [] L h L h := hx_S.rf
  have b_hn0 := hT.gi gx tt_10 (k := 83) rfl
  rw [f_x_83] at b_hn0
  have b_hn0 : 0 ≤ hn0.toInt ∧ hn0.toInt ≤ 1 := b_hn0
  have b_rm0 := hT.gi gx tt_10 (k := 84) rfl
  rw [f_x_84] at b_rm0
  have b_rm0 : 0 ≤ rm0.toInt ∧ rm0.toInt ≤ 300 := b_rm0
  refine lv_aload_n hx hb dX10_netted_0 rfl (lv_at hl 0 rfl) ?_
  refine hk_geti hx hb hts hC_10 hown hW (gx.S hM) tt_10 83 ?o0 rfl kw_1226 ⟨rfl, rfl, rfl⟩ ((hM.o gx trivial rfl).1.trans f_x_83) dX10_netted_1 ?_
  case o0 => decide
  refine hb_if_ne (zx := hn0.toInt) (tgt := 11) hx hb rfl dX10_netted_4 ?o1 (fun c_1 => ?_) (fun c_1 => ?_)
  case o1 => decide
  · skip
    refine lv_iload_n hx hb dX10_netted_11 rfl (lv_at hl 1 rfl) ?_
    refine lv_iconst (v := -1) hx hb dX10_netted_12 ?o2 ?_
    case o2 => decide
    refine hb_icmp_ne (zx := i1.toInt) (zy := (-1)) (tgt := 23) hx hb rfl ?o3 dX10_netted_13 ?o4 (fun c_2 => ?_) (fun c_2 => ?_)
    case o3 => decide
    case o4 => decide
    · skip
      refine lv_iload_n hx hb dX10_netted_23 rfl (lv_at hl 1 rfl) ?_
      refine lv_iconst (v := 0) hx hb dX10_netted_24 ?o5 ?_
      case o5 => decide
      refine lv_aload_n hx hb dX10_netted_25 rfl (lv_at hl 0 rfl) ?_
      refine hk_geti hx hb hts hC_10 hown hW (gx.S hM) tt_10 84 ?o6 rfl kw_1227 ⟨rfl, rfl, rfl⟩ ((hM.o gx trivial rfl).1.trans f_x_84) dX10_netted_26 ?_
      case o6 => decide
      refine lv_iconst (v := 1) hx hb dX10_netted_29 ?o7 ?_
      case o7 => decide
      refine lv_isub hx hb dX10_netted_30 ?_
      have rg_3 := i32_r rm0
      refine lv_topi (fun x_4 ex_4 => ?_)
      have zx_4 : x_4.toInt = rm0.toInt - 1 := ?o8
      case o8 =>
        rw [ex_4]
        refine i32_sub rfl ?o9 ?o10 ?o11
        case o9 => decide
        case o10 => omega
        case o11 => omega
      have zc_0 : (0 : Int32).toInt = 0 := ?o12
      case o12 => decide
      refine hx_goi (hx_runS (As := [.int i1, .int (0 : Int32), .int x_4]) (rest := []) ⟨hx, hb, hml, hown, hts⟩ hW (t_X10_in l dC dI dA L h s.heap.size i1 (0 : Int32) x_4 hT) (va_cwS 3 hts (hx_gS kw_1445 kw_1443 kw_1444 kw_103) rfl rfl rfl (by decide +kernel) ⟨Nat.le_of_ble_eq_true rfl, Nat.le_of_ble_eq_true rfl⟩) rfl hl.1 rfl (Nat.le_of_ble_eq_true rfl) dX10_netted_31 ⟨Nat.le_of_ble_eq_true rfl, Nat.le_of_ble_eq_true rfl⟩) hW (fun r_7 L_5 h_6 H locs p_8 hW => ?_)
      obtain ⟨hr_9, hT, hs⟩ := p_8
      replace hT : hx_T T_tb L_5 h_6 := hT
      replace hs : hx_S T_tb [] L h L_5 h_6 := hs
      replace hM := hM.tr (hs.mono ?o13)
      case o13 => decide
      refine hb_if_eq (zx := r_7.toInt) (tgt := 46) hx hb rfl dX10_netted_34 ?o14 (fun c_10 => ?_) (fun c_10 => ?_)
      case o14 => decide
      · skip
        replace hr_9 := hr_9.resolve_right (fun z9 => absurd (c_10.symm.trans z9.1) ?o15)
        case o15 => decide
        replace hr_9 := hr_9.2
        refine lv_iconst (v := -1) hx hb dX10_netted_46 ?o16 ?_
        case o16 => decide
        refine hx_reti hx hb hr hlk hW ⟨(Or.inr ⟨?o17, Or.inr (Or.inl ⟨?o18, ?o19, ?o20⟩)⟩), hT, hM⟩ dX10_netted_47
        case o17 => omega
        case o18 => omega
        case o19 => omega
        case o20 => decide
      · skip
        replace hr_9 := hr_9.resolve_left (fun z9 => c_10 z9.1)
        replace c_10 := hr_9.1
        replace hr_9 := hr_9.2
        refine lv_aload_n hx hb dX10_netted_37 rfl (lv_at hl 0 rfl) ?_
        refine hk_getr hx hb hts hC_10 hown hW (gx.S hM) tt_10 85 ?o21 rfl kw_1228 ⟨rfl, rfl, rfl⟩ ((hM.o gx trivial rfl).2.trans f_x_85) dX10_netted_38 ?_
        case o21 => decide
        refine lv_iload_n hx hb dX10_netted_41 rfl (lv_at hl 1 rfl) ?_
        refine hx_iald hx hb hW hT (gqrl.S hM) tt_109 rfl ⟨?o22, ?o23⟩ dX10_netted_42 (fun x_11 ex_11 lx_11 ux_11 => ?_)
        case o22 => omega
        case o23 => omega
        have ax_11 : x_11 = rgl i1.toNatClampNeg := ex_11.trans (congrFun (hx_afS hM gqrl rfl af_qrl) _)
        refine lv_goto (tgt := 47) hx hb dX10_netted_43 ?o24 ?_
        case o24 => decide
        refine hx_reti hx hb hr hlk hW ⟨(Or.inr ⟨?o25, Or.inr (Or.inr ⟨⟨?o26, ?o27⟩, congrArg Int32.toInt ax_11⟩)⟩), hT, hM⟩ dX10_netted_47
        case o25 => omega
        case o26 => omega
        case o27 => omega
    · skip
      refine lv_aload_n hx hb dX10_netted_16 rfl (lv_at hl 0 rfl) ?_
      refine hk_geti hx hb hts hC_10 hown hW (gx.S hM) tt_10 84 ?o28 rfl kw_1227 ⟨rfl, rfl, rfl⟩ ((hM.o gx trivial rfl).1.trans f_x_84) dX10_netted_17 ?_
      case o28 => decide
      refine lv_goto (tgt := 47) hx hb dX10_netted_20 ?o29 ?_
      case o29 => decide
      refine hx_reti hx hb hr hlk hW ⟨(Or.inr ⟨?o30, Or.inl ⟨?o31, rfl⟩⟩), hT, hM⟩ dX10_netted_47
      case o30 => omega
      case o31 => omega
  · skip
    refine lv_iconst (v := -1) hx hb dX10_netted_7 ?o32 ?_
    case o32 => decide
    refine lv_goto (tgt := 47) hx hb dX10_netted_8 ?o33 ?_
    case o33 => decide
    refine hx_reti hx hb hr hlk hW ⟨(Or.inl ⟨?o34, ?o35⟩), hT, hM⟩ dX10_netted_47
    case o34 => omega
    case o35 => decide
