
set_option maxHeartbeats 4000000 in
set_option maxRecDepth 100000 in
theorem t_X10_takes_0v (l : Launch) (dC : Nat → ClassId) (dI : Nat → Nat → Nat) (dA : Nat → ClassId) (L : List Nat) (h : hx_h) (sz : Nat) (x : Nat) (i1 : Int32) (i2 : Int32) (i3 : Int32) (hT : hx_T T_tb L h) (gx : hx_g L h x 10) (qfo : Nat) (gqfo : hx_g L h qfo 81) (f_x_46 : h.2.2 x 46 = some qfo) (qhe : Nat) (gqhe : hx_g L h qhe 82) (f_x_47 : h.2.2 x 47 = some qhe) (qju : Nat) (gqju : hx_g L h qju 86) (f_x_51 : h.2.2 x 51 = some qju) (qod : Nat) (gqod : hx_g L h qod 83) (f_x_48 : h.2.2 x 48 = some qod) (qsv : Nat) (gqsv : hx_g L h qsv 85) (f_x_50 : h.2.2 x 50 = some qsv) (qsz : Nat) (gqsz : hx_g L h qsz 84) (f_x_49 : h.2.2 x 49 = some qsz) (qgd : Nat) (gqgd : hx_g L h qgd 91) (f_x_56 : h.2.2 x 56 = some qgd) (qow : Nat) (gqow : hx_g L h qow 90) (f_x_55 : h.2.2 x 55 = some qow) (qwk : Nat) (gqwk : hx_g L h qwk 89) (f_x_54 : h.2.2 x 54 = some qwk) (qpl : Nat) (gqpl : hx_g L h qpl 79) (f_x_44 : h.2.2 x 44 = some qpl) (qru : Nat) (gqru : hx_g L h qru 50) (f_x_3 : h.2.2 x 3 = some qru) (qpo : Nat) (gqpo : hx_g L h qpo 93) (f_x_60 : h.2.2 x 60 = some qpo) (qpd : Nat) (gqpd : hx_g L h qpd 94) (f_x_61 : h.2.2 x 61 = some qpd) (qps : Nat) (gqps : hx_g L h qps 95) (f_x_62 : h.2.2 x 62 = some qps) (qpk : Nat) (gqpk : hx_g L h qpk 96) (f_x_63 : h.2.2 x 63 = some qpk) (qpt : Nat) (gqpt : hx_g L h qpt 97) (f_x_64 : h.2.2 x 64 = some qpt) (qag : Nat) (gqag : hx_g L h qag 73) (f_x_38 : h.2.2 x 38 = some qag) (qby : Nat) (gqby : hx_g L h qby 72) (f_x_37 : h.2.2 x 37 = some qby) (fof : Nat → Int32) (af_qfo : h.2.1 qfo = fof) (hrf : Nat → Int32) (af_qhe : h.2.1 qhe = hrf) (udf : Nat → Int32) (af_qju : h.2.1 qju = udf) (odf : Nat → Int32) (af_qod : h.2.1 qod = odf) (svf : Nat → Int32) (af_qsv : h.2.1 qsv = svf) (szf : Nat → Int32) (af_qsz : h.2.1 qsz = szf) (gdf : Nat → Int32) (af_qgd : h.2.1 qgd = gdf) (owf : Nat → Int32) (af_qow : h.2.1 qow = owf) (wkf : Nat → Int32) (af_qwk : h.2.1 qwk = wkf) (plf : Nat → Int32) (af_qpl : h.2.1 qpl = plf) (rlf : Nat → Int32) (af_qru : h.2.1 qru = rlf) (pof : Nat → Int32) (af_qpo : h.2.1 qpo = pof) (pdf : Nat → Int32) (af_qpd : h.2.1 qpd = pdf) (psm : Nat → Int32) (af_qps : h.2.1 qps = psm) (pkf : Nat → Int32) (af_qpk : h.2.1 qpk = pkf) (pst : Nat → Int32) (af_qpt : h.2.1 qpt = pst) (agf : Nat → Int32) (af_qag : h.2.1 qag = agf) (byf : Nat → Int32) (af_qby : h.2.1 qby = byf) (c0 : Int32) (f_x_36 : h.2.1 x 36 = c0) (a0 : Int32) (f_x_1 : h.2.1 x 1 = a0) (nw0 : Int32) (f_x_0 : h.2.1 x 0 = nw0) (n0 : Int32) (f_x_59 : h.2.1 x 59 = n0) (hi3 : 0 ≤ i3.toInt) (adf psf prf : Nat → Int32) (A : Nat → hv_act) (hCA : hv_CA adf rlf psf prf a0.toInt A) (hPL : hx_PL plf c0.toInt a0.toInt) (hrb : ∀ c, c < c0.toInt.toNat → 0 ≤ (hz_RP odf szf gdf owf svf (hz_rc A plf) nw0.toInt) ((pof, pdf, psm, pkf, pst, n0.toInt.toNat) : hz_P) c ∧ (hz_RP odf szf gdf owf svf (hz_rc A plf) nw0.toInt) ((pof, pdf, psm, pkf, pst, n0.toInt.toNat) : hz_P) c ≤ 609999) : Met l yX10_takes (Cond.code yX10_takes cX10_takes 9 (some .int) :: hx_all) ({ frames := 3, cells := 0, slots := 0, locals := 71 }) (va_Pc [.ref x, .int i1, .int i2, .int i3, .int (0 : Int32)] (hx_B T_tb (P_ty dA) (dC, dI) vwCl L h sz)) (va_Qi (fun (r : Int32) (u : List Nat × hx_h) => (r.toInt = (hz_cn ((hz_RP odf szf gdf owf svf (hz_rc A plf) nw0.toInt) ((pof, pdf, psm, pkf, pst, n0.toInt.toNat) : hz_P)) (hz_mt agf byf i1.toInt i2.toInt) i3.toInt c0.toInt.toNat).2 ∧ (0 ≤ r.toInt ∧ r.toInt ≤ 100)) ∧ hx_T T_tb u.1 u.2 ∧ hx_S T_tb [(10, 67), (10, 68), (10, 69), (10, 70), (10, 71)] L h u.1 u.2) (hx_E T_tb (P_ty dA) (dC, dI) vwCl (hx_A L sz)) (hx_A L sz)) 0 0 (hx_A L sz) := by
  refine hx_met (lv := [(0, .ref x), (1, .int i1), (2, .int i2), (3, .int i3), (4, .int (0 : Int32))]) (by decide +kernel) rfl (Nat.le_of_ble_eq_true rfl) rfl ?_
  intro p e s m below meth c hx hb hml hr hlk hts0 hown hin hsz hW ls hl
  have hts : ∀ w ∈ hx_all, w.before _ s = true := fun w hw => hts0 w (List.mem_cons_of_mem _ hw)
  have hown : s.vm.findClass "SmallCourtModel" = some m.cls := hown
  have hM : hx_S T_tb [(10, 67), (10, 68), (10, 69), (10, 70), (10, 71)] L h L h := hx_S.rf
  have b_c0 := hT.gi gx tt_10 (k := 36) rfl
  rw [f_x_36] at b_c0
  have b_c0 : 0 ≤ c0.toInt ∧ c0.toInt ≤ 100 := b_c0
  have b_a0 := hT.gi gx tt_10 (k := 1) rfl
  rw [f_x_1] at b_a0
  have b_a0 : 0 ≤ a0.toInt ∧ a0.toInt ≤ 8 := b_a0
  have b_nw0 := hT.gi gx tt_10 (k := 0) rfl
  rw [f_x_0] at b_nw0
  have b_nw0 : 0 ≤ nw0.toInt ∧ nw0.toInt ≤ 7999 := b_nw0
  have b_n0 := hT.gi gx tt_10 (k := 59) rfl
  rw [f_x_59] at b_n0
  have b_n0 : 0 ≤ n0.toInt ∧ n0.toInt ≤ 600 := b_n0
  have rg93 := i32_r i3
  refine lv_iload_n hx hb dX10_takes_0 rfl (lv_at hl 3 rfl) ?_
  refine lv_istore (lv' := [(5, .int i3), (0, .ref x), (1, .int i1), (2, .int i2), (3, .int i3), (4, .int (0 : Int32))]) hx hb dX10_takes_1 hl (by decide) rfl (fun ls hl => ?_)
  refine lv_iconst (v := 0) hx hb dX10_takes_3 (by decide) ?_
  refine lv_istore (lv' := [(6, .int (0 : Int32)), (5, .int i3), (0, .ref x), (1, .int i1), (2, .int i2), (3, .int i3), (4, .int (0 : Int32))]) hx hb dX10_takes_4 hl (by decide) rfl (fun ls hl => ?_)
  refine lv_iconst (v := 0) hx hb dX10_takes_6 (by decide) ?_
  refine lv_istore (lv' := [(7, .int (0 : Int32)), (6, .int (0 : Int32)), (5, .int i3), (0, .ref x), (1, .int i1), (2, .int i2), (3, .int i3), (4, .int (0 : Int32))]) hx hb dX10_takes_7 hl (by decide) rfl (fun ls hl => ?_)
  have loop9 : ∀ (n9 : Nat) (iv9_5 iv9_6 iv9_7 : Int32) (H : Heap) (locs : List Loc) (hL1 : List Nat) (hl1 : hx_h), 0 ≤ iv9_5.toInt → iv9_5.toInt ≤ 2147483647 → 0 ≤ iv9_6.toInt → iv9_6.toInt ≤ 100 → 0 ≤ iv9_7.toInt → iv9_7.toInt ≤ 100 → (hz_cn ((hz_RP odf szf gdf owf svf (hz_rc A plf) nw0.toInt) ((pof, pdf, psm, pkf, pst, n0.toInt.toNat) : hz_P)) (hz_mt agf byf i1.toInt i2.toInt) i3.toInt (iv9_7.toInt).toNat = (iv9_5.toInt, iv9_6.toInt)) → (iv9_7.toInt ≤ c0.toInt) → (iv9_6.toInt ≤ iv9_7.toInt) → ∀ (ls : Array Slot), 100 - iv9_7.toInt < (n9 : Int) → hx_W T_tb (P_ty dA) (dC, dI) vwCl (hx_A L sz) s.heap hL1 hl1 s H locs → hx_T T_tb hL1 hl1 → hx_S T_tb [(10, 67), (10, 68), (10, 69), (10, 70), (10, 71)] L h hL1 hl1 → lv_has ls 9 [(7, .int iv9_7), (6, .int iv9_6), (5, .int iv9_5), (0, .ref x), (1, .int i1), (2, .int i2), (3, .int i3), (4, .int (0 : Int32))] → W p l e ({ frames := 3, cells := 0, slots := 0, locals := 71 }) s m ([.ref x, .int i1, .int i2, .int i3, .int (0 : Int32)] : List Value).toArray below meth c H locs 0 0 (MQ below (va_Qi (fun (r : Int32) (u : List Nat × hx_h) => (r.toInt = (hz_cn ((hz_RP odf szf gdf owf svf (hz_rc A plf) nw0.toInt) ((pof, pdf, psm, pkf, pst, n0.toInt.toNat) : hz_P)) (hz_mt agf byf i1.toInt i2.toInt) i3.toInt c0.toInt.toNat).2 ∧ (0 ≤ r.toInt ∧ r.toInt ≤ 100)) ∧ hx_T T_tb u.1 u.2 ∧ hx_S T_tb [(10, 67), (10, 68), (10, 69), (10, 70), (10, 71)] L h u.1 u.2) (hx_E T_tb (P_ty dA) (dC, dI) vwCl (hx_A L sz)) (hx_A L sz)) ([.ref x, .int i1, .int i2, .int i3, .int (0 : Int32)] : List Value).toArray s 0 0 (hx_A L sz)) (F0 m 9 ls []) := by
    intro n9
    induction n9 with
    | zero => intro iv9_5 iv9_6 iv9_7 H locs hL1 hl1 bliv9_5 buiv9_5 bliv9_6 buiv9_6 bliv9_7 buiv9_7 vi9_0 vi9_1 vi9_2 ls hn9; exfalso; omega
    | succ n9 ih9 =>
      intro iv9_5 iv9_6 iv9_7 H locs hL1 hl1 bliv9_5 buiv9_5 bliv9_6 buiv9_6 bliv9_7 buiv9_7 vi9_0 vi9_1 vi9_2 ls hn9 hW hT hM   hl
      refine lv_iload hx hb dX10_takes_9 (lv_at hl 0 rfl) ?_
      refine lv_aload_n hx hb dX10_takes_11 rfl (lv_at hl 3 rfl) ?_
      refine hk_geti hx hb hts hC_10 hown hW (gx.S hM) tt_10 36 (by decide) rfl kw_1179 ⟨rfl, rfl, rfl⟩ ((hM.o gx trivial rfl).1.trans f_x_36) dX10_takes_12 ?_
      refine hb_icmp_ge (zx := iv9_7.toInt) (zy := c0.toInt) (tgt := 102) hx hb rfl rfl dX10_takes_15 (by decide) (fun c_1 => ?_) (fun c_1 => ?_)
      · skip
        have hend9 := vi9_0; rw [show iv9_7.toInt.toNat = c0.toInt.toNat by omega] at hend9
        refine lv_iload hx hb dX10_takes_102 (lv_at hl 1 rfl) ?_
        exact hx_reti hx hb hr hlk hW ⟨⟨(congrArg Prod.snd hend9).symm, by omega, by omega⟩, hT, hM⟩ dX10_takes_104
      · skip
        refine lv_iload hx hb dX10_takes_18 (lv_at hl 2 rfl) ?_
        refine hb_if_le (zx := iv9_5.toInt) (tgt := 102) hx hb rfl dX10_takes_20 (by decide) (fun c_2 => ?_) (fun c_2 => ?_)
        · skip
          have hend9 := hz_cn_z vi9_0 (by omega) c0.toInt.toNat (by omega)
          refine lv_iload hx hb dX10_takes_102 (lv_at hl 1 rfl) ?_
          exact hx_reti hx hb hr hlk hW ⟨⟨(congrArg Prod.snd hend9).symm, by omega, by omega⟩, hT, hM⟩ dX10_takes_104
        · skip
          refine lv_aload_n hx hb dX10_takes_23 rfl (lv_at hl 3 rfl) ?_
          refine hk_getr hx hb hts hC_10 hown hW (gx.S hM) tt_10 38 (by decide) rfl kw_1181 ⟨rfl, rfl, rfl⟩ ((hM.o gx trivial rfl).2.trans f_x_38) dX10_takes_24 ?_
          refine lv_iload hx hb dX10_takes_27 (lv_at hl 0 rfl) ?_
          refine hx_iald hx hb hW hT (gqag.S hM) tt_73 rfl ⟨by omega, by omega⟩ dX10_takes_29 (fun x_3 ex_3 lx_3 ux_3 => ?_)
          have ax_3 : x_3 = agf iv9_7.toNatClampNeg := ex_3.trans (congrFun (hx_afS hM gqag rfl af_qag) _)
          refine lv_iload_n hx hb dX10_takes_30 rfl (lv_at hl 4 rfl) ?_
          refine hb_icmp_ne (zx := x_3.toInt) (zy := i1.toInt) (tgt := 96) hx hb rfl rfl dX10_takes_31 (by decide) (fun c_4 => ?_) (fun c_4 => ?_)
          · skip
            obtain ⟨x_5, ex_5⟩ : ∃ y : Int32, y = iv9_7 + Int32.ofInt 1 := ⟨_, rfl⟩
            have rg_6 := i32_r iv9_7
            have zx_5 : x_5.toInt = iv9_7.toInt + (1) := by rw [ex_5]; exact i32_add rfl (by decide) (by omega) (by omega)
            refine lv_iinc (v := x_5) (lv' := [(7, .int x_5), (6, .int iv9_6), (5, .int iv9_5), (0, .ref x), (1, .int i1), (2, .int i2), (3, .int i3), (4, .int (0 : Int32))]) hx hb dX10_takes_96 hl (k := 0) rfl ex_5.symm (by decide) rfl (fun ls hl => ?_)
            refine lv_goto (tgt := 9) hx hb dX10_takes_99 (by decide) ?_
            exact ih9 iv9_5 iv9_6 x_5 _ _ hL1 hl1 (by omega) (by omega) (by omega) (by omega) (by omega) (by omega) (hz_cn_n vi9_0 (by omega) (fun z => by have z9 := (hz_mt_t.mp z.2.1).1; rw [show agf iv9_7.toInt.toNat = x_3 from ax_3.symm] at z9; omega) zx_5) (by omega) (by omega) ls (by omega) hW hT hM   (lv_sub hl [0, 1, 2, 3, 4, 5, 6, 7] rfl)
          · skip
            refine lv_aload_n hx hb dX10_takes_34 rfl (lv_at hl 3 rfl) ?_
            refine hk_getr hx hb hts hC_10 hown hW (gx.S hM) tt_10 37 (by decide) rfl kw_1180 ⟨rfl, rfl, rfl⟩ ((hM.o gx trivial rfl).2.trans f_x_37) dX10_takes_35 ?_
            refine lv_iload hx hb dX10_takes_38 (lv_at hl 0 rfl) ?_
            refine hx_iald hx hb hW hT (gqby.S hM) tt_72 rfl ⟨by omega, by omega⟩ dX10_takes_40 (fun x_7 ex_7 lx_7 ux_7 => ?_)
            have ax_7 : x_7 = byf iv9_7.toNatClampNeg := ex_7.trans (congrFun (hx_afS hM gqby rfl af_qby) _)
            refine lv_iload_n hx hb dX10_takes_41 rfl (lv_at hl 5 rfl) ?_
            refine hb_icmp_ne (zx := x_7.toInt) (zy := i2.toInt) (tgt := 96) hx hb rfl rfl dX10_takes_42 (by decide) (fun c_8 => ?_) (fun c_8 => ?_)
            · skip
              obtain ⟨x_9, ex_9⟩ : ∃ y : Int32, y = iv9_7 + Int32.ofInt 1 := ⟨_, rfl⟩
              have rg_10 := i32_r iv9_7
              have zx_9 : x_9.toInt = iv9_7.toInt + (1) := by rw [ex_9]; exact i32_add rfl (by decide) (by omega) (by omega)
              refine lv_iinc (v := x_9) (lv' := [(7, .int x_9), (6, .int iv9_6), (5, .int iv9_5), (0, .ref x), (1, .int i1), (2, .int i2), (3, .int i3), (4, .int (0 : Int32))]) hx hb dX10_takes_96 hl (k := 0) rfl ex_9.symm (by decide) rfl (fun ls hl => ?_)
              refine lv_goto (tgt := 9) hx hb dX10_takes_99 (by decide) ?_
              exact ih9 iv9_5 iv9_6 x_9 _ _ hL1 hl1 (by omega) (by omega) (by omega) (by omega) (by omega) (by omega) (hz_cn_n vi9_0 (by omega) (fun z => by have z9 := (hz_mt_t.mp z.2.1).2; rw [show byf iv9_7.toInt.toNat = x_7 from ax_7.symm] at z9; omega) zx_9) (by omega) (by omega) ls (by omega) hW hT hM   (lv_sub hl [0, 1, 2, 3, 4, 5, 6, 7] rfl)
            · skip
              refine lv_aload_n hx hb dX10_takes_45 rfl (lv_at hl 3 rfl) ?_
              refine lv_iload hx hb dX10_takes_46 (lv_at hl 0 rfl) ?_
              refine hx_goi (hx_runV (As := [.int iv9_7]) (rest := []) ⟨hx, hb, hml, hown, hts⟩ hW (gx.S hM) tt_10 (T := TX10) (N := 98) rfl (t_X10_isOpen_v l dC dI dA hL1 hl1 H.size x iv9_7 hT (gx.S hM) qfo (gqfo.S hM) ((hM.o gx trivial rfl).2.trans f_x_46) qhe (gqhe.S hM) ((hM.o gx trivial rfl).2.trans f_x_47) qju (gqju.S hM) ((hM.o gx trivial rfl).2.trans f_x_51) qod (gqod.S hM) ((hM.o gx trivial rfl).2.trans f_x_48) qsv (gqsv.S hM) ((hM.o gx trivial rfl).2.trans f_x_50) qsz (gqsz.S hM) ((hM.o gx trivial rfl).2.trans f_x_49) qgd (gqgd.S hM) ((hM.o gx trivial rfl).2.trans f_x_56) qow (gqow.S hM) ((hM.o gx trivial rfl).2.trans f_x_55) qwk (gqwk.S hM) ((hM.o gx trivial rfl).2.trans f_x_54) qpl (gqpl.S hM) ((hM.o gx trivial rfl).2.trans f_x_44) qru (gqru.S hM) ((hM.o gx trivial rfl).2.trans f_x_3) qpo (gqpo.S hM) ((hM.o gx trivial rfl).2.trans f_x_60) qpd (gqpd.S hM) ((hM.o gx trivial rfl).2.trans f_x_61) qps (gqps.S hM) ((hM.o gx trivial rfl).2.trans f_x_62) qpk (gqpk.S hM) ((hM.o gx trivial rfl).2.trans f_x_63) qpt (gqpt.S hM) ((hM.o gx trivial rfl).2.trans f_x_64) fof (hx_afS hM gqfo rfl af_qfo) hrf (hx_afS hM gqhe rfl af_qhe) udf (hx_afS hM gqju rfl af_qju) odf (hx_afS hM gqod rfl af_qod) svf (hx_afS hM gqsv rfl af_qsv) szf (hx_afS hM gqsz rfl af_qsz) gdf (hx_afS hM gqgd rfl af_qgd) owf (hx_afS hM gqow rfl af_qow) wkf (hx_afS hM gqwk rfl af_qwk) plf (hx_afS hM gqpl rfl af_qpl) rlf (hx_afS hM gqru rfl af_qru) pof (hx_afS hM gqpo rfl af_qpo) pdf (hx_afS hM gqpd rfl af_qpd) psm (hx_afS hM gqps rfl af_qps) pkf (hx_afS hM gqpk rfl af_qpk) pst (hx_afS hM gqpt rfl af_qpt) c0 ((hM.o gx trivial rfl).1.trans f_x_36) a0 ((hM.o gx trivial rfl).1.trans f_x_1) nw0 ((hM.o gx trivial rfl).1.trans f_x_0) n0 ((hM.o gx trivial rfl).1.trans f_x_59) ⟨by omega, by omega⟩ adf psf prf A hCA hPL) (cwV 1 hts (hx_gV kw_1637 kw_1634 kw_1636 kw_81 kw_103) rfl rfl rfl (by decide +kernel) ⟨Nat.le_of_ble_eq_true rfl, Nat.le_of_ble_eq_true rfl⟩) rfl hl.1 rfl (Nat.le_of_ble_eq_true rfl) dX10_takes_48 ⟨Nat.le_of_ble_eq_true rfl, Nat.le_of_ble_eq_true rfl⟩) hW (fun r_13 L_11 h_12 H locs p_14 hW => ?_)
              obtain ⟨⟨w_16, fw_16, hr_15⟩, hT, hs⟩ := p_14
              replace hT : hx_T T_tb L_11 h_12 := hT
              replace hs : hx_S T_tb [(10, 67), (10, 68), (10, 69), (10, 70), (10, 71)] hL1 hl1 L_11 h_12 := hs
              replace ex_3 := ex_3.trans (hs.a (gqag.S hM) rfl _).1.symm
              replace ex_7 := ex_7.trans (hs.a (gqby.S hM) rfl _).1.symm
              replace hM := hM.tr (hs.mono (by decide))
              have fw_16 : h_12.2.1 x 68 = w_16 := fw_16
              have bw_16 := hT.gi (gx.S hM) tt_10 (k := 68) rfl
              rw [fw_16] at bw_16
              have bw_16 : 0 ≤ w_16.toInt ∧ w_16.toInt ≤ 610000 := bw_16
              have hro9 : w_16.toInt = (hz_RP odf szf gdf owf svf (hz_rc A plf) nw0.toInt) ((pof, pdf, psm, pkf, pst, n0.toInt.toNat) : hz_P) iv9_7.toInt.toNat := hr_15.2
              have hop9 : (r_13.toInt = 1 ∧ 0 < w_16.toInt) ∨ (r_13.toInt = 0 ∧ ¬ 0 < w_16.toInt) := by rw [hr_15.2]; exact hr_15.1
              have hrv9 := hrb iv9_7.toInt.toNat (by omega); rw [← hro9] at hrv9
              clear hr_15
              refine hb_if_ne (zx := r_13.toInt) (tgt := 57) hx hb rfl dX10_takes_51 (by decide) (fun c_17 => ?_) (fun c_17 => ?_)
              · skip
                have hmt9 : hz_mt agf byf i1.toInt i2.toInt iv9_7.toInt.toNat = true := hz_mt_t.mpr ⟨(by rw [show agf iv9_7.toInt.toNat = x_3 from ax_3.symm]; omega), (by rw [show byf iv9_7.toInt.toNat = x_7 from ax_7.symm]; omega)⟩
                refine lv_iload hx hb dX10_takes_57 (lv_at hl 2 rfl) ?_
                refine lv_aload_n hx hb dX10_takes_59 rfl (lv_at hl 3 rfl) ?_
                refine hk_geti hx hb hts hC_10 hown hW (gx.S hM) tt_10 68 (by decide) rfl kw_1211 ⟨rfl, rfl, rfl⟩ fw_16 dX10_takes_60 ?_
                refine hx_goi (hx_runS (As := [.int iv9_5, .int w_16]) (rest := []) ⟨hx, hb, hml, hown, hts⟩ hW (t_X10_lesser_3 l dC dI dA L_11 h_12 H.size iv9_5 w_16 hT) (va_cwS 2 hts (hx_gS kw_1705 kw_1703 kw_1704 kw_103) rfl rfl rfl (by decide +kernel) ⟨Nat.le_of_ble_eq_true rfl, Nat.le_of_ble_eq_true rfl⟩) rfl hl.1 rfl (Nat.le_of_ble_eq_true rfl) dX10_takes_63 ⟨Nat.le_of_ble_eq_true rfl, Nat.le_of_ble_eq_true rfl⟩) hW (fun r_20 L_18 h_19 H locs p_21 hW => ?_)
                obtain ⟨hr_22, hT, hs⟩ := p_21
                replace hT : hx_T T_tb L_18 h_19 := hT
                replace hs : hx_S T_tb [] L_11 h_12 L_18 h_19 := hs
                replace fw_16 := (hs.o (gx.S hM) trivial rfl).1.trans fw_16
                replace ex_3 := ex_3.trans (hs.a (gqag.S hM) rfl _).1.symm
                replace ex_7 := ex_7.trans (hs.a (gqby.S hM) rfl _).1.symm
                replace hM := hM.tr (hs.mono (by decide))
                have hmi9 := hz_mi_2 hr_22; have hmb9 := hz_mi_l (a := iv9_5.toInt) (b := w_16.toInt); have hmc9 := hz_mi_c (a := iv9_5.toInt) (b := w_16.toInt)
                clear hr_22
                refine lv_istore (lv' := [(8, .int r_20), (7, .int iv9_7), (6, .int iv9_6), (5, .int iv9_5), (0, .ref x), (1, .int i1), (2, .int i2), (3, .int i3), (4, .int (0 : Int32))]) hx hb dX10_takes_66 hl (by decide) rfl (fun ls hl => ?_)
                refine lv_iload hx hb dX10_takes_68 (lv_at hl 8 rfl) ?_
                refine hb_if_eq (zx := 0) (tgt := 86) hx hb (by decide) dX10_takes_70 (by decide) (fun c_23 => ?_) (fun c_23 => by exfalso; omega)
                refine lv_iload hx hb dX10_takes_86 (lv_at hl 3 rfl) ?_
                refine lv_iload hx hb dX10_takes_88 (lv_at hl 0 rfl) ?_
                refine lv_isub hx hb dX10_takes_90 ?_
                have rg_24 := i32_r iv9_5
                have rg_25 := i32_r r_20
                refine lv_topi (fun x_26 ex_26 => ?_)
                have zx_26 : x_26.toInt = iv9_5.toInt - r_20.toInt := by rw [ex_26]; exact i32_sub rfl rfl (by omega) (by omega)
                refine lv_istore (lv' := [(5, .int x_26), (8, .int r_20), (7, .int iv9_7), (6, .int iv9_6), (0, .ref x), (1, .int i1), (2, .int i2), (3, .int i3), (4, .int (0 : Int32))]) hx hb dX10_takes_91 hl (by decide) rfl (fun ls hl => ?_)
                obtain ⟨x_27, ex_27⟩ : ∃ y : Int32, y = iv9_6 + Int32.ofInt 1 := ⟨_, rfl⟩
                have rg_28 := i32_r iv9_6
                have zx_27 : x_27.toInt = iv9_6.toInt + (1) := by rw [ex_27]; exact i32_add rfl (by decide) (by omega) (by omega)
                refine lv_iinc (v := x_27) (lv' := [(6, .int x_27), (5, .int x_26), (8, .int r_20), (7, .int iv9_7), (0, .ref x), (1, .int i1), (2, .int i2), (3, .int i3), (4, .int (0 : Int32))]) hx hb dX10_takes_93 hl (k := 3) rfl ex_27.symm (by decide) rfl (fun ls hl => ?_)
                obtain ⟨x_29, ex_29⟩ : ∃ y : Int32, y = iv9_7 + Int32.ofInt 1 := ⟨_, rfl⟩
                have rg_30 := i32_r iv9_7
                have zx_29 : x_29.toInt = iv9_7.toInt + (1) := by rw [ex_29]; exact i32_add rfl (by decide) (by omega) (by omega)
                refine lv_iinc (v := x_29) (lv' := [(7, .int x_29), (6, .int x_27), (5, .int x_26), (8, .int r_20), (0, .ref x), (1, .int i1), (2, .int i2), (3, .int i3), (4, .int (0 : Int32))]) hx hb dX10_takes_96 hl (k := 3) rfl ex_29.symm (by decide) rfl (fun ls hl => ?_)
                refine lv_goto (tgt := 9) hx hb dX10_takes_99 (by decide) ?_
                exact ih9 x_26 x_27 x_29 _ _ L_18 h_19 (by omega) (by omega) (by omega) (by omega) (by omega) (by omega) (hz_cn_y vi9_0 (by omega) (by omega) hmt9 (by rw [← hro9]; omega) (by rw [← hro9]; exact hmi9) zx_26 zx_27 zx_29) (by omega) (by omega) ls (by omega) hW hT hM   (lv_sub hl [0, 1, 2, 4, 5, 6, 7, 8] rfl)
              · skip
                refine lv_goto (tgt := 96) hx hb dX10_takes_54 (by decide) ?_
                obtain ⟨x_31, ex_31⟩ : ∃ y : Int32, y = iv9_7 + Int32.ofInt 1 := ⟨_, rfl⟩
                have rg_32 := i32_r iv9_7
                have zx_31 : x_31.toInt = iv9_7.toInt + (1) := by rw [ex_31]; exact i32_add rfl (by decide) (by omega) (by omega)
                refine lv_iinc (v := x_31) (lv' := [(7, .int x_31), (6, .int iv9_6), (5, .int iv9_5), (0, .ref x), (1, .int i1), (2, .int i2), (3, .int i3), (4, .int (0 : Int32))]) hx hb dX10_takes_96 hl (k := 0) rfl ex_31.symm (by decide) rfl (fun ls hl => ?_)
                refine lv_goto (tgt := 9) hx hb dX10_takes_99 (by decide) ?_
                exact ih9 iv9_5 iv9_6 x_31 _ _ L_11 h_12 (by omega) (by omega) (by omega) (by omega) (by omega) (by omega) (hz_cn_n vi9_0 (by omega) (fun z => by have z9 := z.2.2; rw [← hro9] at z9; omega) zx_31) (by omega) (by omega) ls (by omega) hW hT hM   (lv_sub hl [0, 1, 2, 3, 4, 5, 6, 7] rfl)
  have zk_0 : (0 : Int32).toInt = 0 := by decide
  have zk_0 : (0 : Int32).toInt = 0 := by decide
  exact loop9 101 i3 (0 : Int32) (0 : Int32) _ _ L h (by omega) (by omega) (by decide) (by decide) (by decide) (by decide) (by rw [zk_0]; rfl) (by omega) (by omega) ls (by omega) hW hT hM   hl


set_option maxHeartbeats 4000000 in
set_option maxRecDepth 100000 in
theorem t_X10_takes_1v (l : Launch) (dC : Nat → ClassId) (dI : Nat → Nat → Nat) (dA : Nat → ClassId) (L : List Nat) (h : hx_h) (sz : Nat) (x : Nat) (i1 : Int32) (i2 : Int32) (i3 : Int32) (hT : hx_T T_tb L h) (gx : hx_g L h x 10) (qfo : Nat) (gqfo : hx_g L h qfo 81) (f_x_46 : h.2.2 x 46 = some qfo) (qhe : Nat) (gqhe : hx_g L h qhe 82) (f_x_47 : h.2.2 x 47 = some qhe) (qju : Nat) (gqju : hx_g L h qju 86) (f_x_51 : h.2.2 x 51 = some qju) (qod : Nat) (gqod : hx_g L h qod 83) (f_x_48 : h.2.2 x 48 = some qod) (qsv : Nat) (gqsv : hx_g L h qsv 85) (f_x_50 : h.2.2 x 50 = some qsv) (qsz : Nat) (gqsz : hx_g L h qsz 84) (f_x_49 : h.2.2 x 49 = some qsz) (qgd : Nat) (gqgd : hx_g L h qgd 91) (f_x_56 : h.2.2 x 56 = some qgd) (qow : Nat) (gqow : hx_g L h qow 90) (f_x_55 : h.2.2 x 55 = some qow) (qwk : Nat) (gqwk : hx_g L h qwk 89) (f_x_54 : h.2.2 x 54 = some qwk) (qpl : Nat) (gqpl : hx_g L h qpl 79) (f_x_44 : h.2.2 x 44 = some qpl) (qru : Nat) (gqru : hx_g L h qru 50) (f_x_3 : h.2.2 x 3 = some qru) (qpo : Nat) (gqpo : hx_g L h qpo 93) (f_x_60 : h.2.2 x 60 = some qpo) (qpd : Nat) (gqpd : hx_g L h qpd 94) (f_x_61 : h.2.2 x 61 = some qpd) (qps : Nat) (gqps : hx_g L h qps 95) (f_x_62 : h.2.2 x 62 = some qps) (qpk : Nat) (gqpk : hx_g L h qpk 96) (f_x_63 : h.2.2 x 63 = some qpk) (qpt : Nat) (gqpt : hx_g L h qpt 97) (f_x_64 : h.2.2 x 64 = some qpt) (qag : Nat) (gqag : hx_g L h qag 73) (f_x_38 : h.2.2 x 38 = some qag) (qby : Nat) (gqby : hx_g L h qby 72) (f_x_37 : h.2.2 x 37 = some qby) (fof : Nat → Int32) (af_qfo : h.2.1 qfo = fof) (hrf : Nat → Int32) (af_qhe : h.2.1 qhe = hrf) (udf : Nat → Int32) (af_qju : h.2.1 qju = udf) (odf : Nat → Int32) (af_qod : h.2.1 qod = odf) (svf : Nat → Int32) (af_qsv : h.2.1 qsv = svf) (szf : Nat → Int32) (af_qsz : h.2.1 qsz = szf) (gdf : Nat → Int32) (af_qgd : h.2.1 qgd = gdf) (owf : Nat → Int32) (af_qow : h.2.1 qow = owf) (wkf : Nat → Int32) (af_qwk : h.2.1 qwk = wkf) (plf : Nat → Int32) (af_qpl : h.2.1 qpl = plf) (rlf : Nat → Int32) (af_qru : h.2.1 qru = rlf) (pof : Nat → Int32) (af_qpo : h.2.1 qpo = pof) (pdf : Nat → Int32) (af_qpd : h.2.1 qpd = pdf) (psm : Nat → Int32) (af_qps : h.2.1 qps = psm) (pkf : Nat → Int32) (af_qpk : h.2.1 qpk = pkf) (pst : Nat → Int32) (af_qpt : h.2.1 qpt = pst) (agf : Nat → Int32) (af_qag : h.2.1 qag = agf) (byf : Nat → Int32) (af_qby : h.2.1 qby = byf) (c0 : Int32) (f_x_36 : h.2.1 x 36 = c0) (a0 : Int32) (f_x_1 : h.2.1 x 1 = a0) (nw0 : Int32) (f_x_0 : h.2.1 x 0 = nw0) (n0 : Int32) (f_x_59 : h.2.1 x 59 = n0) (hi3 : 0 ≤ i3.toInt) (adf psf prf : Nat → Int32) (A : Nat → hv_act) (hCA : hv_CA adf rlf psf prf a0.toInt A) (hPL : hx_PL plf c0.toInt a0.toInt) (hrb : ∀ c, c < c0.toInt.toNat → 0 ≤ (hz_RP odf szf gdf owf svf (hz_rc A plf) nw0.toInt) ((pof, pdf, psm, pkf, pst, n0.toInt.toNat) : hz_P) c ∧ (hz_RP odf szf gdf owf svf (hz_rc A plf) nw0.toInt) ((pof, pdf, psm, pkf, pst, n0.toInt.toNat) : hz_P) c ≤ 609999) (h600 : (n0.toInt.toNat : Int) + (hz_cn ((hz_RP odf szf gdf owf svf (hz_rc A plf) nw0.toInt) ((pof, pdf, psm, pkf, pst, n0.toInt.toNat) : hz_P)) (hz_mt agf byf i1.toInt i2.toInt) i3.toInt c0.toInt.toNat).2 ≤ 600) : Met l yX10_takes (Cond.code yX10_takes cX10_takes 9 (some .int) :: hx_all) ({ frames := 3, cells := 0, slots := 0, locals := 71 }) (va_Pc [.ref x, .int i1, .int i2, .int i3, .int (1 : Int32)] (hx_B T_tb (P_ty dA) (dC, dI) vwCl L h sz)) (va_Qi (fun (r : Int32) (u : List Nat × hx_h) => (∃ (n1 : Int32) (pof1 : Nat → Int32) (pdf1 : Nat → Int32) (psm1 : Nat → Int32) (pkf1 : Nat → Int32) (pst1 : Nat → Int32), u.2.2.1 x 59 = n1 ∧ u.2.2.1 qpo = pof1 ∧ u.2.2.1 qpd = pdf1 ∧ u.2.2.1 qps = psm1 ∧ u.2.2.1 qpk = pkf1 ∧ u.2.2.1 qpt = pst1 ∧ (((pof1, pdf1, psm1, pkf1, pst1, n1.toInt.toNat) : hz_P) = (hz_tk (hz_RP odf szf gdf owf svf (hz_rc A plf) nw0.toInt) (hz_mt agf byf i1.toInt i2.toInt) nw0 ((pof, pdf, psm, pkf, pst, n0.toInt.toNat) : hz_P) i3.toInt c0.toInt.toNat).1)) ∧ hx_T T_tb u.1 u.2 ∧ hx_S T_tb [(10, 59), (10, 67), (10, 68), (10, 69), (10, 70), (10, 71), (93, 0), (94, 0), (95, 0), (96, 0), (97, 0)] L h u.1 u.2) (hx_E T_tb (P_ty dA) (dC, dI) vwCl (hx_A L sz)) (hx_A L sz)) 0 0 (hx_A L sz) := by
  refine hx_met (lv := [(0, .ref x), (1, .int i1), (2, .int i2), (3, .int i3), (4, .int (1 : Int32))]) (by decide +kernel) rfl (Nat.le_of_ble_eq_true rfl) rfl ?_
  intro p e s m below meth c hx hb hml hr hlk hts0 hown hin hsz hW ls hl
  have hts : ∀ w ∈ hx_all, w.before _ s = true := fun w hw => hts0 w (List.mem_cons_of_mem _ hw)
  have hown : s.vm.findClass "SmallCourtModel" = some m.cls := hown
  have hM : hx_S T_tb [(10, 59), (10, 67), (10, 68), (10, 69), (10, 70), (10, 71), (93, 0), (94, 0), (95, 0), (96, 0), (97, 0)] L h L h := hx_S.rf
  have b_c0 := hT.gi gx tt_10 (k := 36) rfl
  rw [f_x_36] at b_c0
  have b_c0 : 0 ≤ c0.toInt ∧ c0.toInt ≤ 100 := b_c0
  have b_a0 := hT.gi gx tt_10 (k := 1) rfl
  rw [f_x_1] at b_a0
  have b_a0 : 0 ≤ a0.toInt ∧ a0.toInt ≤ 8 := b_a0
  have b_nw0 := hT.gi gx tt_10 (k := 0) rfl
  rw [f_x_0] at b_nw0
  have b_nw0 : 0 ≤ nw0.toInt ∧ nw0.toInt ≤ 7999 := b_nw0
  have b_n0 := hT.gi gx tt_10 (k := 59) rfl
  rw [f_x_59] at b_n0
  have b_n0 : 0 ≤ n0.toInt ∧ n0.toInt ≤ 600 := b_n0
  have rg93 := i32_r i3
  have HR9 : hz_HR (hz_RP odf szf gdf owf svf (hz_rc A plf) nw0.toInt) nw0 c0.toInt.toNat := hz_RP_HR (by omega)
  have HN9 : ∀ (P : hz_P) (c : Nat), 0 ≤ (hz_RP odf szf gdf owf svf (hz_rc A plf) nw0.toInt) P c := hz_RP_N
  have HB9 : hz_RB (hz_RP odf szf gdf owf svf (hz_rc A plf) nw0.toInt) c0.toInt.toNat ((pof, pdf, psm, pkf, pst, n0.toInt.toNat) : hz_P) := hrb
  refine lv_iload_n hx hb dX10_takes_0 rfl (lv_at hl 3 rfl) ?_
  refine lv_istore (lv' := [(5, .int i3), (0, .ref x), (1, .int i1), (2, .int i2), (3, .int i3), (4, .int (1 : Int32))]) hx hb dX10_takes_1 hl (by decide) rfl (fun ls hl => ?_)
  refine lv_iconst (v := 0) hx hb dX10_takes_3 (by decide) ?_
  refine lv_istore (lv' := [(6, .int (0 : Int32)), (5, .int i3), (0, .ref x), (1, .int i1), (2, .int i2), (3, .int i3), (4, .int (1 : Int32))]) hx hb dX10_takes_4 hl (by decide) rfl (fun ls hl => ?_)
  refine lv_iconst (v := 0) hx hb dX10_takes_6 (by decide) ?_
  refine lv_istore (lv' := [(7, .int (0 : Int32)), (6, .int (0 : Int32)), (5, .int i3), (0, .ref x), (1, .int i1), (2, .int i2), (3, .int i3), (4, .int (1 : Int32))]) hx hb dX10_takes_7 hl (by decide) rfl (fun ls hl => ?_)
  have loop9 : ∀ (n9 : Nat) (iv9_5 iv9_6 iv9_7 fw9_x_59 : Int32) (ia9_qpo ia9_qpd ia9_qps ia9_qpk ia9_qpt : Nat → Int32) (H : Heap) (locs : List Loc) (hL1 : List Nat) (hl1 : hx_h), 0 ≤ iv9_5.toInt → iv9_5.toInt ≤ 2147483647 → 0 ≤ iv9_6.toInt → iv9_6.toInt ≤ 100 → 0 ≤ iv9_7.toInt → iv9_7.toInt ≤ 100 → 0 ≤ fw9_x_59.toInt → fw9_x_59.toInt ≤ 600 → (hz_tk (hz_RP odf szf gdf owf svf (hz_rc A plf) nw0.toInt) (hz_mt agf byf i1.toInt i2.toInt) nw0 ((pof, pdf, psm, pkf, pst, n0.toInt.toNat) : hz_P) i3.toInt (iv9_7.toInt).toNat = (((ia9_qpo, ia9_qpd, ia9_qps, ia9_qpk, ia9_qpt, (fw9_x_59.toInt).toNat) : hz_P), iv9_5.toInt)) → (iv9_7.toInt ≤ c0.toInt) → (iv9_6.toInt ≤ iv9_7.toInt) → ∀ (ls : Array Slot), 100 - iv9_7.toInt < (n9 : Int) → hx_W T_tb (P_ty dA) (dC, dI) vwCl (hx_A L sz) s.heap hL1 hl1 s H locs → hx_T T_tb hL1 hl1 → hx_S T_tb [(10, 59), (10, 67), (10, 68), (10, 69), (10, 70), (10, 71), (93, 0), (94, 0), (95, 0), (96, 0), (97, 0)] L h hL1 hl1 → hl1.2.1 x 59 = fw9_x_59 → hl1.2.1 qpo = ia9_qpo → hl1.2.1 qpd = ia9_qpd → hl1.2.1 qps = ia9_qps → hl1.2.1 qpk = ia9_qpk → hl1.2.1 qpt = ia9_qpt → lv_has ls 9 [(7, .int iv9_7), (6, .int iv9_6), (5, .int iv9_5), (0, .ref x), (1, .int i1), (2, .int i2), (3, .int i3), (4, .int (1 : Int32))] → W p l e ({ frames := 3, cells := 0, slots := 0, locals := 71 }) s m ([.ref x, .int i1, .int i2, .int i3, .int (1 : Int32)] : List Value).toArray below meth c H locs 0 0 (MQ below (va_Qi (fun (r : Int32) (u : List Nat × hx_h) => (∃ (n1 : Int32) (pof1 : Nat → Int32) (pdf1 : Nat → Int32) (psm1 : Nat → Int32) (pkf1 : Nat → Int32) (pst1 : Nat → Int32), u.2.2.1 x 59 = n1 ∧ u.2.2.1 qpo = pof1 ∧ u.2.2.1 qpd = pdf1 ∧ u.2.2.1 qps = psm1 ∧ u.2.2.1 qpk = pkf1 ∧ u.2.2.1 qpt = pst1 ∧ (((pof1, pdf1, psm1, pkf1, pst1, n1.toInt.toNat) : hz_P) = (hz_tk (hz_RP odf szf gdf owf svf (hz_rc A plf) nw0.toInt) (hz_mt agf byf i1.toInt i2.toInt) nw0 ((pof, pdf, psm, pkf, pst, n0.toInt.toNat) : hz_P) i3.toInt c0.toInt.toNat).1)) ∧ hx_T T_tb u.1 u.2 ∧ hx_S T_tb [(10, 59), (10, 67), (10, 68), (10, 69), (10, 70), (10, 71), (93, 0), (94, 0), (95, 0), (96, 0), (97, 0)] L h u.1 u.2) (hx_E T_tb (P_ty dA) (dC, dI) vwCl (hx_A L sz)) (hx_A L sz)) ([.ref x, .int i1, .int i2, .int i3, .int (1 : Int32)] : List Value).toArray s 0 0 (hx_A L sz)) (F0 m 9 ls []) := by
    intro n9
    induction n9 with
    | zero => intro iv9_5 iv9_6 iv9_7 fw9_x_59 ia9_qpo ia9_qpd ia9_qps ia9_qpk ia9_qpt H locs hL1 hl1 bliv9_5 buiv9_5 bliv9_6 buiv9_6 bliv9_7 buiv9_7 blfw9_x_59 bufw9_x_59 vi9_0 vi9_1 vi9_2 ls hn9; exfalso; omega
    | succ n9 ih9 =>
      intro iv9_5 iv9_6 iv9_7 fw9_x_59 ia9_qpo ia9_qpd ia9_qps ia9_qpk ia9_qpt H locs hL1 hl1 bliv9_5 buiv9_5 bliv9_6 buiv9_6 bliv9_7 buiv9_7 blfw9_x_59 bufw9_x_59 vi9_0 vi9_1 vi9_2 ls hn9 hW hT hM ffw9_x_59 nia9_qpo nia9_qpd nia9_qps nia9_qpk nia9_qpt hl
      have HQ9 : hz_RB (hz_RP odf szf gdf owf svf (hz_rc A plf) nw0.toInt) c0.toInt.toNat ((ia9_qpo, ia9_qpd, ia9_qps, ia9_qpk, ia9_qpt, fw9_x_59.toInt.toNat) : hz_P) := hz_tk_RB HR9 HN9 HB9 (by omega) vi9_0
      refine lv_iload hx hb dX10_takes_9 (lv_at hl 0 rfl) ?_
      refine lv_aload_n hx hb dX10_takes_11 rfl (lv_at hl 3 rfl) ?_
      refine hk_geti hx hb hts hC_10 hown hW (gx.S hM) tt_10 36 (by decide) rfl kw_1179 ⟨rfl, rfl, rfl⟩ ((hM.o gx trivial rfl).1.trans f_x_36) dX10_takes_12 ?_
      refine hb_icmp_ge (zx := iv9_7.toInt) (zy := c0.toInt) (tgt := 102) hx hb rfl rfl dX10_takes_15 (by decide) (fun c_1 => ?_) (fun c_1 => ?_)
      · skip
        have hend9 := vi9_0; rw [show iv9_7.toInt.toNat = c0.toInt.toNat by omega] at hend9
        refine lv_iload hx hb dX10_takes_102 (lv_at hl 1 rfl) ?_
        exact hx_reti hx hb hr hlk hW ⟨⟨fw9_x_59, ia9_qpo, ia9_qpd, ia9_qps, ia9_qpk, ia9_qpt, ffw9_x_59, nia9_qpo, nia9_qpd, nia9_qps, nia9_qpk, nia9_qpt, (congrArg Prod.fst hend9).symm⟩, hT, hM⟩ dX10_takes_104
      · skip
        refine lv_iload hx hb dX10_takes_18 (lv_at hl 2 rfl) ?_
        refine hb_if_le (zx := iv9_5.toInt) (tgt := 102) hx hb rfl dX10_takes_20 (by decide) (fun c_2 => ?_) (fun c_2 => ?_)
        · skip
          have hend9 := hz_tk_z vi9_0 (by omega) c0.toInt.toNat (by omega)
          refine lv_iload hx hb dX10_takes_102 (lv_at hl 1 rfl) ?_
          exact hx_reti hx hb hr hlk hW ⟨⟨fw9_x_59, ia9_qpo, ia9_qpd, ia9_qps, ia9_qpk, ia9_qpt, ffw9_x_59, nia9_qpo, nia9_qpd, nia9_qps, nia9_qpk, nia9_qpt, (congrArg Prod.fst hend9).symm⟩, hT, hM⟩ dX10_takes_104
        · skip
          refine lv_aload_n hx hb dX10_takes_23 rfl (lv_at hl 3 rfl) ?_
          refine hk_getr hx hb hts hC_10 hown hW (gx.S hM) tt_10 38 (by decide) rfl kw_1181 ⟨rfl, rfl, rfl⟩ ((hM.o gx trivial rfl).2.trans f_x_38) dX10_takes_24 ?_
          refine lv_iload hx hb dX10_takes_27 (lv_at hl 0 rfl) ?_
          refine hx_iald hx hb hW hT (gqag.S hM) tt_73 rfl ⟨by omega, by omega⟩ dX10_takes_29 (fun x_3 ex_3 lx_3 ux_3 => ?_)
          have ax_3 : x_3 = agf iv9_7.toNatClampNeg := ex_3.trans (congrFun (hx_afS hM gqag rfl af_qag) _)
          refine lv_iload_n hx hb dX10_takes_30 rfl (lv_at hl 4 rfl) ?_
          refine hb_icmp_ne (zx := x_3.toInt) (zy := i1.toInt) (tgt := 96) hx hb rfl rfl dX10_takes_31 (by decide) (fun c_4 => ?_) (fun c_4 => ?_)
          · skip
            obtain ⟨x_5, ex_5⟩ : ∃ y : Int32, y = iv9_7 + Int32.ofInt 1 := ⟨_, rfl⟩
            have rg_6 := i32_r iv9_7
            have zx_5 : x_5.toInt = iv9_7.toInt + (1) := by rw [ex_5]; exact i32_add rfl (by decide) (by omega) (by omega)
            refine lv_iinc (v := x_5) (lv' := [(7, .int x_5), (6, .int iv9_6), (5, .int iv9_5), (0, .ref x), (1, .int i1), (2, .int i2), (3, .int i3), (4, .int (1 : Int32))]) hx hb dX10_takes_96 hl (k := 0) rfl ex_5.symm (by decide) rfl (fun ls hl => ?_)
            refine lv_goto (tgt := 9) hx hb dX10_takes_99 (by decide) ?_
            exact ih9 iv9_5 iv9_6 x_5 fw9_x_59 ia9_qpo ia9_qpd ia9_qps ia9_qpk ia9_qpt _ _ hL1 hl1 (by omega) (by omega) (by omega) (by omega) (by omega) (by omega) (by omega) (by omega) (hz_tk_n vi9_0 (by omega) (fun z => by have z9 := (hz_mt_t.mp z.2.1).1; rw [show agf iv9_7.toInt.toNat = x_3 from ax_3.symm] at z9; omega) zx_5) (by omega) (by omega) ls (by omega) hW hT hM ffw9_x_59 nia9_qpo nia9_qpd nia9_qps nia9_qpk nia9_qpt (lv_sub hl [0, 1, 2, 3, 4, 5, 6, 7] rfl)
          · skip
            refine lv_aload_n hx hb dX10_takes_34 rfl (lv_at hl 3 rfl) ?_
            refine hk_getr hx hb hts hC_10 hown hW (gx.S hM) tt_10 37 (by decide) rfl kw_1180 ⟨rfl, rfl, rfl⟩ ((hM.o gx trivial rfl).2.trans f_x_37) dX10_takes_35 ?_
            refine lv_iload hx hb dX10_takes_38 (lv_at hl 0 rfl) ?_
            refine hx_iald hx hb hW hT (gqby.S hM) tt_72 rfl ⟨by omega, by omega⟩ dX10_takes_40 (fun x_7 ex_7 lx_7 ux_7 => ?_)
            have ax_7 : x_7 = byf iv9_7.toNatClampNeg := ex_7.trans (congrFun (hx_afS hM gqby rfl af_qby) _)
            refine lv_iload_n hx hb dX10_takes_41 rfl (lv_at hl 5 rfl) ?_
            refine hb_icmp_ne (zx := x_7.toInt) (zy := i2.toInt) (tgt := 96) hx hb rfl rfl dX10_takes_42 (by decide) (fun c_8 => ?_) (fun c_8 => ?_)
            · skip
              obtain ⟨x_9, ex_9⟩ : ∃ y : Int32, y = iv9_7 + Int32.ofInt 1 := ⟨_, rfl⟩
              have rg_10 := i32_r iv9_7
              have zx_9 : x_9.toInt = iv9_7.toInt + (1) := by rw [ex_9]; exact i32_add rfl (by decide) (by omega) (by omega)
              refine lv_iinc (v := x_9) (lv' := [(7, .int x_9), (6, .int iv9_6), (5, .int iv9_5), (0, .ref x), (1, .int i1), (2, .int i2), (3, .int i3), (4, .int (1 : Int32))]) hx hb dX10_takes_96 hl (k := 0) rfl ex_9.symm (by decide) rfl (fun ls hl => ?_)
              refine lv_goto (tgt := 9) hx hb dX10_takes_99 (by decide) ?_
              exact ih9 iv9_5 iv9_6 x_9 fw9_x_59 ia9_qpo ia9_qpd ia9_qps ia9_qpk ia9_qpt _ _ hL1 hl1 (by omega) (by omega) (by omega) (by omega) (by omega) (by omega) (by omega) (by omega) (hz_tk_n vi9_0 (by omega) (fun z => by have z9 := (hz_mt_t.mp z.2.1).2; rw [show byf iv9_7.toInt.toNat = x_7 from ax_7.symm] at z9; omega) zx_9) (by omega) (by omega) ls (by omega) hW hT hM ffw9_x_59 nia9_qpo nia9_qpd nia9_qps nia9_qpk nia9_qpt (lv_sub hl [0, 1, 2, 3, 4, 5, 6, 7] rfl)
            · skip
              refine lv_aload_n hx hb dX10_takes_45 rfl (lv_at hl 3 rfl) ?_
              refine lv_iload hx hb dX10_takes_46 (lv_at hl 0 rfl) ?_
              refine hx_goi (hx_runV (As := [.int iv9_7]) (rest := []) ⟨hx, hb, hml, hown, hts⟩ hW (gx.S hM) tt_10 (T := TX10) (N := 98) rfl (t_X10_isOpen_v l dC dI dA hL1 hl1 H.size x iv9_7 hT (gx.S hM) qfo (gqfo.S hM) ((hM.o gx trivial rfl).2.trans f_x_46) qhe (gqhe.S hM) ((hM.o gx trivial rfl).2.trans f_x_47) qju (gqju.S hM) ((hM.o gx trivial rfl).2.trans f_x_51) qod (gqod.S hM) ((hM.o gx trivial rfl).2.trans f_x_48) qsv (gqsv.S hM) ((hM.o gx trivial rfl).2.trans f_x_50) qsz (gqsz.S hM) ((hM.o gx trivial rfl).2.trans f_x_49) qgd (gqgd.S hM) ((hM.o gx trivial rfl).2.trans f_x_56) qow (gqow.S hM) ((hM.o gx trivial rfl).2.trans f_x_55) qwk (gqwk.S hM) ((hM.o gx trivial rfl).2.trans f_x_54) qpl (gqpl.S hM) ((hM.o gx trivial rfl).2.trans f_x_44) qru (gqru.S hM) ((hM.o gx trivial rfl).2.trans f_x_3) qpo (gqpo.S hM) ((hM.o gx trivial rfl).2.trans f_x_60) qpd (gqpd.S hM) ((hM.o gx trivial rfl).2.trans f_x_61) qps (gqps.S hM) ((hM.o gx trivial rfl).2.trans f_x_62) qpk (gqpk.S hM) ((hM.o gx trivial rfl).2.trans f_x_63) qpt (gqpt.S hM) ((hM.o gx trivial rfl).2.trans f_x_64) fof (hx_afS hM gqfo rfl af_qfo) hrf (hx_afS hM gqhe rfl af_qhe) udf (hx_afS hM gqju rfl af_qju) odf (hx_afS hM gqod rfl af_qod) svf (hx_afS hM gqsv rfl af_qsv) szf (hx_afS hM gqsz rfl af_qsz) gdf (hx_afS hM gqgd rfl af_qgd) owf (hx_afS hM gqow rfl af_qow) wkf (hx_afS hM gqwk rfl af_qwk) plf (hx_afS hM gqpl rfl af_qpl) rlf (hx_afS hM gqru rfl af_qru) ia9_qpo nia9_qpo ia9_qpd nia9_qpd ia9_qps nia9_qps ia9_qpk nia9_qpk ia9_qpt nia9_qpt c0 ((hM.o gx trivial rfl).1.trans f_x_36) a0 ((hM.o gx trivial rfl).1.trans f_x_1) nw0 ((hM.o gx trivial rfl).1.trans f_x_0) fw9_x_59 ffw9_x_59 ⟨by omega, by omega⟩ adf psf prf A hCA hPL) (cwV 1 hts (hx_gV kw_1637 kw_1634 kw_1636 kw_81 kw_103) rfl rfl rfl (by decide +kernel) ⟨Nat.le_of_ble_eq_true rfl, Nat.le_of_ble_eq_true rfl⟩) rfl hl.1 rfl (Nat.le_of_ble_eq_true rfl) dX10_takes_48 ⟨Nat.le_of_ble_eq_true rfl, Nat.le_of_ble_eq_true rfl⟩) hW (fun r_13 L_11 h_12 H locs p_14 hW => ?_)
              obtain ⟨⟨w_16, fw_16, hr_15⟩, hT, hs⟩ := p_14
              replace hT : hx_T T_tb L_11 h_12 := hT
              replace hs : hx_S T_tb [(10, 67), (10, 68), (10, 69), (10, 70), (10, 71)] hL1 hl1 L_11 h_12 := hs
              replace ffw9_x_59 := (hs.o (gx.S hM) trivial rfl).1.trans ffw9_x_59
              replace nia9_qpo : h_12.2.1 qpo = ia9_qpo := (funext fun j => (hs.a (gqpo.S hM) rfl j).1).trans nia9_qpo
              replace nia9_qpd : h_12.2.1 qpd = ia9_qpd := (funext fun j => (hs.a (gqpd.S hM) rfl j).1).trans nia9_qpd
              replace nia9_qps : h_12.2.1 qps = ia9_qps := (funext fun j => (hs.a (gqps.S hM) rfl j).1).trans nia9_qps
              replace nia9_qpk : h_12.2.1 qpk = ia9_qpk := (funext fun j => (hs.a (gqpk.S hM) rfl j).1).trans nia9_qpk
              replace nia9_qpt : h_12.2.1 qpt = ia9_qpt := (funext fun j => (hs.a (gqpt.S hM) rfl j).1).trans nia9_qpt
              replace ex_3 := ex_3.trans (hs.a (gqag.S hM) rfl _).1.symm
              replace ex_7 := ex_7.trans (hs.a (gqby.S hM) rfl _).1.symm
              replace hM := hM.tr (hs.mono (by decide))
              have fw_16 : h_12.2.1 x 68 = w_16 := fw_16
              have bw_16 := hT.gi (gx.S hM) tt_10 (k := 68) rfl
              rw [fw_16] at bw_16
              have bw_16 : 0 ≤ w_16.toInt ∧ w_16.toInt ≤ 610000 := bw_16
              have hro9 : w_16.toInt = (hz_RP odf szf gdf owf svf (hz_rc A plf) nw0.toInt) ((ia9_qpo, ia9_qpd, ia9_qps, ia9_qpk, ia9_qpt, fw9_x_59.toInt.toNat) : hz_P) iv9_7.toInt.toNat := hr_15.2
              have hop9 : (r_13.toInt = 1 ∧ 0 < w_16.toInt) ∨ (r_13.toInt = 0 ∧ ¬ 0 < w_16.toInt) := by rw [hr_15.2]; exact hr_15.1
              have hrv9 := HQ9 iv9_7.toInt.toNat (by omega); rw [← hro9] at hrv9
              clear hr_15
              refine hb_if_ne (zx := r_13.toInt) (tgt := 57) hx hb rfl dX10_takes_51 (by decide) (fun c_17 => ?_) (fun c_17 => ?_)
              · skip
                have hmt9 : hz_mt agf byf i1.toInt i2.toInt iv9_7.toInt.toNat = true := hz_mt_t.mpr ⟨(by rw [show agf iv9_7.toInt.toNat = x_3 from ax_3.symm]; omega), (by rw [show byf iv9_7.toInt.toNat = x_7 from ax_7.symm]; omega)⟩
                refine lv_iload hx hb dX10_takes_57 (lv_at hl 2 rfl) ?_
                refine lv_aload_n hx hb dX10_takes_59 rfl (lv_at hl 3 rfl) ?_
                refine hk_geti hx hb hts hC_10 hown hW (gx.S hM) tt_10 68 (by decide) rfl kw_1211 ⟨rfl, rfl, rfl⟩ fw_16 dX10_takes_60 ?_
                refine hx_goi (hx_runS (As := [.int iv9_5, .int w_16]) (rest := []) ⟨hx, hb, hml, hown, hts⟩ hW (t_X10_lesser_3 l dC dI dA L_11 h_12 H.size iv9_5 w_16 hT) (va_cwS 2 hts (hx_gS kw_1705 kw_1703 kw_1704 kw_103) rfl rfl rfl (by decide +kernel) ⟨Nat.le_of_ble_eq_true rfl, Nat.le_of_ble_eq_true rfl⟩) rfl hl.1 rfl (Nat.le_of_ble_eq_true rfl) dX10_takes_63 ⟨Nat.le_of_ble_eq_true rfl, Nat.le_of_ble_eq_true rfl⟩) hW (fun r_20 L_18 h_19 H locs p_21 hW => ?_)
                obtain ⟨hr_22, hT, hs⟩ := p_21
                replace hT : hx_T T_tb L_18 h_19 := hT
                replace hs : hx_S T_tb [] L_11 h_12 L_18 h_19 := hs
                replace ffw9_x_59 := (hs.o (gx.S hM) trivial rfl).1.trans ffw9_x_59
                replace fw_16 := (hs.o (gx.S hM) trivial rfl).1.trans fw_16
                replace nia9_qpo : h_19.2.1 qpo = ia9_qpo := (funext fun j => (hs.a (gqpo.S hM) rfl j).1).trans nia9_qpo
                replace nia9_qpd : h_19.2.1 qpd = ia9_qpd := (funext fun j => (hs.a (gqpd.S hM) rfl j).1).trans nia9_qpd
                replace nia9_qps : h_19.2.1 qps = ia9_qps := (funext fun j => (hs.a (gqps.S hM) rfl j).1).trans nia9_qps
                replace nia9_qpk : h_19.2.1 qpk = ia9_qpk := (funext fun j => (hs.a (gqpk.S hM) rfl j).1).trans nia9_qpk
                replace nia9_qpt : h_19.2.1 qpt = ia9_qpt := (funext fun j => (hs.a (gqpt.S hM) rfl j).1).trans nia9_qpt
                replace ex_3 := ex_3.trans (hs.a (gqag.S hM) rfl _).1.symm
                replace ex_7 := ex_7.trans (hs.a (gqby.S hM) rfl _).1.symm
                replace hM := hM.tr (hs.mono (by decide))
                have hmi9 := hz_mi_2 hr_22; have hmb9 := hz_mi_l (a := iv9_5.toInt) (b := w_16.toInt); have hmc9 := hz_mi_c (a := iv9_5.toInt) (b := w_16.toInt)
                clear hr_22
                refine lv_istore (lv' := [(8, .int r_20), (7, .int iv9_7), (6, .int iv9_6), (5, .int iv9_5), (0, .ref x), (1, .int i1), (2, .int i2), (3, .int i3), (4, .int (1 : Int32))]) hx hb dX10_takes_66 hl (by decide) rfl (fun ls hl => ?_)
                refine lv_iload hx hb dX10_takes_68 (lv_at hl 8 rfl) ?_
                refine hb_if_eq (zx := 1) (tgt := 86) hx hb (by decide) dX10_takes_70 (by decide) (fun c_23 => by exfalso; omega) (fun c_23 => ?_)
                refine lv_aload_n hx hb dX10_takes_73 rfl (lv_at hl 4 rfl) ?_
                refine lv_iload hx hb dX10_takes_74 (lv_at hl 1 rfl) ?_
                refine lv_aload_n hx hb dX10_takes_76 rfl (lv_at hl 4 rfl) ?_
                refine hk_geti hx hb hts hC_10 hown hW (gx.S hM) tt_10 0 (by decide) rfl kw_1143 ⟨rfl, rfl, rfl⟩ ((hM.o gx trivial rfl).1.trans f_x_0) dX10_takes_77 ?_
                refine lv_iload hx hb dX10_takes_80 (lv_at hl 0 rfl) ?_
                have hrm9 := hz_room1 HR9 HB9 h600 (k := iv9_7.toInt) (by omega) (by omega) vi9_0 (by omega) hmt9 (by rw [← hro9]; omega)
                have hrm8 : ((fw9_x_59.toInt.toNat : Nat) : Int) + 1 ≤ 600 := hrm9
                refine hx_goi (hx_runV (As := [.int iv9_7, .int nw0, .int r_20]) (rest := []) ⟨hx, hb, hml, hown, hts⟩ hW (gx.S hM) tt_10 (T := TX10) (N := 98) rfl (t_X10_pays_v l dC dI dA L_18 h_19 H.size x iv9_7 nw0 r_20 hT (gx.S hM) qpo (gqpo.S hM) ((hM.o gx trivial rfl).2.trans f_x_60) qpd (gqpd.S hM) ((hM.o gx trivial rfl).2.trans f_x_61) qps (gqps.S hM) ((hM.o gx trivial rfl).2.trans f_x_62) qpk (gqpk.S hM) ((hM.o gx trivial rfl).2.trans f_x_63) qpt (gqpt.S hM) ((hM.o gx trivial rfl).2.trans f_x_64) ia9_qpo nia9_qpo ia9_qpd nia9_qpd ia9_qps nia9_qps ia9_qpk nia9_qpk ia9_qpt nia9_qpt nw0 ((hM.o gx trivial rfl).1.trans f_x_0) fw9_x_59 ffw9_x_59 (by omega) ⟨by omega, by omega⟩) (cwV 3 hts (hx_gV kw_1653 kw_1650 kw_1652 kw_84 kw_103) rfl rfl rfl (by decide +kernel) ⟨Nat.le_of_ble_eq_true rfl, Nat.le_of_ble_eq_true rfl⟩) rfl hl.1 rfl (Nat.le_of_ble_eq_true rfl) dX10_takes_82 ⟨Nat.le_of_ble_eq_true rfl, Nat.le_of_ble_eq_true rfl⟩) hW (fun r_26 L_24 h_25 H locs p_27 hW => ?_)
                obtain ⟨⟨w_29, w_30, w_31, w_32, w_33, w_34, fw_29, fw_30, fw_31, fw_32, fw_33, fw_34, hr_28⟩, hT, hs⟩ := p_27
                replace hT : hx_T T_tb L_24 h_25 := hT
                replace hs : hx_S T_tb [(10, 59), (93, 0), (94, 0), (95, 0), (96, 0), (97, 0)] L_18 h_19 L_24 h_25 := hs
                replace fw_16 := (hs.o (gx.S hM) trivial rfl).1.trans fw_16
                replace ex_3 := ex_3.trans (hs.a (gqag.S hM) rfl _).1.symm
                replace ex_7 := ex_7.trans (hs.a (gqby.S hM) rfl _).1.symm
                replace hM := hM.tr (hs.mono (by decide))
                have fw_29 : h_25.2.1 x 59 = w_29 := fw_29
                have bw_29 := hT.gi (gx.S hM) tt_10 (k := 59) rfl
                rw [fw_29] at bw_29
                have bw_29 : 0 ≤ w_29.toInt ∧ w_29.toInt ≤ 600 := bw_29
                have fw_30 : h_25.2.1 qpo = w_30 := fw_30
                have fw_31 : h_25.2.1 qpd = w_31 := fw_31
                have fw_32 : h_25.2.1 qps = w_32 := fw_32
                have fw_33 : h_25.2.1 qpk = w_33 := fw_33
                have fw_34 : h_25.2.1 qpt = w_34 := fw_34
                have happ9 : ((w_30, w_31, w_32, w_33, w_34, w_29.toInt.toNat) : hz_P) = hz_ap ((ia9_qpo, ia9_qpd, ia9_qps, ia9_qpk, ia9_qpt, fw9_x_59.toInt.toNat) : hz_P) iv9_7 r_20 nw0 := hz_ap_eq hr_28.2.2 (by have h9 := hr_28.2.1; omega)
                refine lv_pop hx hb dX10_takes_85 rfl ?_
                refine lv_iload hx hb dX10_takes_86 (lv_at hl 3 rfl) ?_
                refine lv_iload hx hb dX10_takes_88 (lv_at hl 0 rfl) ?_
                refine lv_isub hx hb dX10_takes_90 ?_
                have rg_35 := i32_r iv9_5
                have rg_36 := i32_r r_20
                refine lv_topi (fun x_37 ex_37 => ?_)
                have zx_37 : x_37.toInt = iv9_5.toInt - r_20.toInt := by rw [ex_37]; exact i32_sub rfl rfl (by omega) (by omega)
                refine lv_istore (lv' := [(5, .int x_37), (8, .int r_20), (7, .int iv9_7), (6, .int iv9_6), (0, .ref x), (1, .int i1), (2, .int i2), (3, .int i3), (4, .int (1 : Int32))]) hx hb dX10_takes_91 hl (by decide) rfl (fun ls hl => ?_)
                obtain ⟨x_38, ex_38⟩ : ∃ y : Int32, y = iv9_6 + Int32.ofInt 1 := ⟨_, rfl⟩
                have rg_39 := i32_r iv9_6
                have zx_38 : x_38.toInt = iv9_6.toInt + (1) := by rw [ex_38]; exact i32_add rfl (by decide) (by omega) (by omega)
                refine lv_iinc (v := x_38) (lv' := [(6, .int x_38), (5, .int x_37), (8, .int r_20), (7, .int iv9_7), (0, .ref x), (1, .int i1), (2, .int i2), (3, .int i3), (4, .int (1 : Int32))]) hx hb dX10_takes_93 hl (k := 3) rfl ex_38.symm (by decide) rfl (fun ls hl => ?_)
                obtain ⟨x_40, ex_40⟩ : ∃ y : Int32, y = iv9_7 + Int32.ofInt 1 := ⟨_, rfl⟩
                have rg_41 := i32_r iv9_7
                have zx_40 : x_40.toInt = iv9_7.toInt + (1) := by rw [ex_40]; exact i32_add rfl (by decide) (by omega) (by omega)
                refine lv_iinc (v := x_40) (lv' := [(7, .int x_40), (6, .int x_38), (5, .int x_37), (8, .int r_20), (0, .ref x), (1, .int i1), (2, .int i2), (3, .int i3), (4, .int (1 : Int32))]) hx hb dX10_takes_96 hl (k := 3) rfl ex_40.symm (by decide) rfl (fun ls hl => ?_)
                refine lv_goto (tgt := 9) hx hb dX10_takes_99 (by decide) ?_
                exact ih9 x_37 x_38 x_40 w_29 w_30 w_31 w_32 w_33 w_34 _ _ L_24 h_25 (by omega) (by omega) (by omega) (by omega) (by omega) (by omega) (by omega) (by omega) (hz_tk_y vi9_0 (by omega) (by omega) (by omega) hmt9 (by rw [← hro9]; omega) (by rw [← hro9]; omega) rfl (by rw [← hro9]; exact hmi9) happ9 zx_37 zx_40) (by omega) (by omega) ls (by omega) hW hT hM fw_29 fw_30 fw_31 fw_32 fw_33 fw_34 (lv_sub hl [0, 1, 2, 4, 5, 6, 7, 8] rfl)
              · skip
                refine lv_goto (tgt := 96) hx hb dX10_takes_54 (by decide) ?_
                obtain ⟨x_42, ex_42⟩ : ∃ y : Int32, y = iv9_7 + Int32.ofInt 1 := ⟨_, rfl⟩
                have rg_43 := i32_r iv9_7
                have zx_42 : x_42.toInt = iv9_7.toInt + (1) := by rw [ex_42]; exact i32_add rfl (by decide) (by omega) (by omega)
                refine lv_iinc (v := x_42) (lv' := [(7, .int x_42), (6, .int iv9_6), (5, .int iv9_5), (0, .ref x), (1, .int i1), (2, .int i2), (3, .int i3), (4, .int (1 : Int32))]) hx hb dX10_takes_96 hl (k := 0) rfl ex_42.symm (by decide) rfl (fun ls hl => ?_)
                refine lv_goto (tgt := 9) hx hb dX10_takes_99 (by decide) ?_
                exact ih9 iv9_5 iv9_6 x_42 fw9_x_59 ia9_qpo ia9_qpd ia9_qps ia9_qpk ia9_qpt _ _ L_11 h_12 (by omega) (by omega) (by omega) (by omega) (by omega) (by omega) (by omega) (by omega) (hz_tk_n vi9_0 (by omega) (fun z => by have z9 := z.2.2; rw [← hro9] at z9; omega) zx_42) (by omega) (by omega) ls (by omega) hW hT hM ffw9_x_59 nia9_qpo nia9_qpd nia9_qps nia9_qpk nia9_qpt (lv_sub hl [0, 1, 2, 3, 4, 5, 6, 7] rfl)
  have zk_0 : (0 : Int32).toInt = 0 := by decide
  have zk_0 : (0 : Int32).toInt = 0 := by decide
  exact loop9 101 i3 (0 : Int32) (0 : Int32) n0 pof pdf psm pkf pst _ _ L h (by omega) (by omega) (by decide) (by decide) (by decide) (by decide) (by omega) (by omega) (by rw [zk_0]; rfl) (by omega) (by omega) ls (by omega) hW hT hM f_x_59 af_qpo af_qpd af_qps af_qpk af_qpt hl


set_option maxHeartbeats 4000000 in
set_option maxRecDepth 100000 in
theorem t_X10_debts_v (l : Launch) (dC : Nat → ClassId) (dI : Nat → Nat → Nat) (dA : Nat → ClassId) (L : List Nat) (h : hx_h) (sz : Nat) (x : Nat) (hT : hx_T T_tb L h) (gx : hx_g L h x 10) (qfo : Nat) (gqfo : hx_g L h qfo 81) (f_x_46 : h.2.2 x 46 = some qfo) (qhe : Nat) (gqhe : hx_g L h qhe 82) (f_x_47 : h.2.2 x 47 = some qhe) (qju : Nat) (gqju : hx_g L h qju 86) (f_x_51 : h.2.2 x 51 = some qju) (qod : Nat) (gqod : hx_g L h qod 83) (f_x_48 : h.2.2 x 48 = some qod) (qsv : Nat) (gqsv : hx_g L h qsv 85) (f_x_50 : h.2.2 x 50 = some qsv) (qsz : Nat) (gqsz : hx_g L h qsz 84) (f_x_49 : h.2.2 x 49 = some qsz) (qgd : Nat) (gqgd : hx_g L h qgd 91) (f_x_56 : h.2.2 x 56 = some qgd) (qow : Nat) (gqow : hx_g L h qow 90) (f_x_55 : h.2.2 x 55 = some qow) (qwk : Nat) (gqwk : hx_g L h qwk 89) (f_x_54 : h.2.2 x 54 = some qwk) (qpl : Nat) (gqpl : hx_g L h qpl 79) (f_x_44 : h.2.2 x 44 = some qpl) (qru : Nat) (gqru : hx_g L h qru 50) (f_x_3 : h.2.2 x 3 = some qru) (qpo : Nat) (gqpo : hx_g L h qpo 93) (f_x_60 : h.2.2 x 60 = some qpo) (qpd : Nat) (gqpd : hx_g L h qpd 94) (f_x_61 : h.2.2 x 61 = some qpd) (qps : Nat) (gqps : hx_g L h qps 95) (f_x_62 : h.2.2 x 62 = some qps) (qpk : Nat) (gqpk : hx_g L h qpk 96) (f_x_63 : h.2.2 x 63 = some qpk) (qpt : Nat) (gqpt : hx_g L h qpt 97) (f_x_64 : h.2.2 x 64 = some qpt) (qag : Nat) (gqag : hx_g L h qag 73) (f_x_38 : h.2.2 x 38 = some qag) (qby : Nat) (gqby : hx_g L h qby 72) (f_x_37 : h.2.2 x 37 = some qby) (qdb : Nat) (gqdb : hx_g L h qdb 108) (f_x_82 : h.2.2 x 82 = some qdb) (fof : Nat → Int32) (af_qfo : h.2.1 qfo = fof) (hrf : Nat → Int32) (af_qhe : h.2.1 qhe = hrf) (udf : Nat → Int32) (af_qju : h.2.1 qju = udf) (odf : Nat → Int32) (af_qod : h.2.1 qod = odf) (svf : Nat → Int32) (af_qsv : h.2.1 qsv = svf) (szf : Nat → Int32) (af_qsz : h.2.1 qsz = szf) (gdf : Nat → Int32) (af_qgd : h.2.1 qgd = gdf) (owf : Nat → Int32) (af_qow : h.2.1 qow = owf) (wkf : Nat → Int32) (af_qwk : h.2.1 qwk = wkf) (plf : Nat → Int32) (af_qpl : h.2.1 qpl = plf) (rlf : Nat → Int32) (af_qru : h.2.1 qru = rlf) (pof : Nat → Int32) (af_qpo : h.2.1 qpo = pof) (pdf : Nat → Int32) (af_qpd : h.2.1 qpd = pdf) (psm : Nat → Int32) (af_qps : h.2.1 qps = psm) (pkf : Nat → Int32) (af_qpk : h.2.1 qpk = pkf) (pst : Nat → Int32) (af_qpt : h.2.1 qpt = pst) (agf : Nat → Int32) (af_qag : h.2.1 qag = agf) (byf : Nat → Int32) (af_qby : h.2.1 qby = byf) (c0 : Int32) (f_x_36 : h.2.1 x 36 = c0) (a0 : Int32) (f_x_1 : h.2.1 x 1 = a0) (nw0 : Int32) (f_x_0 : h.2.1 x 0 = nw0) (n0 : Int32) (f_x_59 : h.2.1 x 59 = n0) (adf psf prf : Nat → Int32) (A : Nat → hv_act) (hCA : hv_CA adf rlf psf prf a0.toInt A) (hPL : hx_PL plf c0.toInt a0.toInt) (hrb : ∀ c, c < c0.toInt.toNat → 0 ≤ (hz_RP odf szf gdf owf svf (hz_rc A plf) nw0.toInt) ((pof, pdf, psm, pkf, pst, n0.toInt.toNat) : hz_P) c ∧ (hz_RP odf szf gdf owf svf (hz_rc A plf) nw0.toInt) ((pof, pdf, psm, pkf, pst, n0.toInt.toNat) : hz_P) c ≤ 609999) : Met l yX10_debts (Cond.code yX10_debts cX10_debts 2 none :: hx_all) ({ frames := 3, cells := 0, slots := 0, locals := 71 }) (va_Pc [.ref x] (hx_B T_tb (P_ty dA) (dC, dI) vwCl L h sz)) (va_Qv (fun (u : List Nat × hx_h) => (∃ (dbf1 : Nat → Int32), u.2.2.1 qdb = dbf1 ∧ (hz_DW dbf1 ((hz_RP odf szf gdf owf svf (hz_rc A plf) nw0.toInt) ((pof, pdf, psm, pkf, pst, n0.toInt.toNat) : hz_P)) agf byf c0.toInt.toNat)) ∧ hx_T T_tb u.1 u.2 ∧ hx_S T_tb [(10, 67), (10, 68), (10, 69), (10, 70), (10, 71), (108, 0)] L h u.1 u.2) (hx_E T_tb (P_ty dA) (dC, dI) vwCl (hx_A L sz)) (hx_A L sz)) 0 0 (hx_A L sz) := by
  refine hx_met (lv := [(0, .ref x)]) (by decide +kernel) rfl (Nat.le_of_ble_eq_true rfl) rfl ?_
  intro p e s m below meth c hx hb hml hr hlk hts0 hown hin hsz hW ls hl
  have hts : ∀ w ∈ hx_all, w.before _ s = true := fun w hw => hts0 w (List.mem_cons_of_mem _ hw)
  have hown : s.vm.findClass "SmallCourtModel" = some m.cls := hown
  have hM : hx_S T_tb [(10, 67), (10, 68), (10, 69), (10, 70), (10, 71), (108, 0)] L h L h := hx_S.rf
  have b_c0 := hT.gi gx tt_10 (k := 36) rfl
  rw [f_x_36] at b_c0
  have b_c0 : 0 ≤ c0.toInt ∧ c0.toInt ≤ 100 := b_c0
  have b_a0 := hT.gi gx tt_10 (k := 1) rfl
  rw [f_x_1] at b_a0
  have b_a0 : 0 ≤ a0.toInt ∧ a0.toInt ≤ 8 := b_a0
  have b_nw0 := hT.gi gx tt_10 (k := 0) rfl
  rw [f_x_0] at b_nw0
  have b_nw0 : 0 ≤ nw0.toInt ∧ nw0.toInt ≤ 7999 := b_nw0
  have b_n0 := hT.gi gx tt_10 (k := 59) rfl
  rw [f_x_59] at b_n0
  have b_n0 : 0 ≤ n0.toInt ∧ n0.toInt ≤ 600 := b_n0
  refine lv_iconst (v := 0) hx hb dX10_debts_0 (by decide) ?_
  refine lv_istore_n (lv' := [(1, .int (0 : Int32)), (0, .ref x)]) hx hb dX10_debts_1 rfl hl (by decide) rfl (fun ls hl => ?_)
  obtain ⟨fa_1, nfa_1⟩ : ∃ g : Nat → Int32, h.2.1 qdb = g := ⟨_, rfl⟩
  have loop2 : ∀ (n2 : Nat) (iv2_1 : Int32) (ia2_qdb : Nat → Int32) (H : Heap) (locs : List Loc) (hL1 : List Nat) (hl1 : hx_h), 0 ≤ iv2_1.toInt → iv2_1.toInt ≤ 1600 → (∀ j : Nat, (j : Int) < iv2_1.toInt → ia2_qdb j = 0) → ∀ (ls : Array Slot), 1600 - iv2_1.toInt < (n2 : Int) → hx_W T_tb (P_ty dA) (dC, dI) vwCl (hx_A L sz) s.heap hL1 hl1 s H locs → hx_T T_tb hL1 hl1 → hx_S T_tb [(10, 67), (10, 68), (10, 69), (10, 70), (10, 71), (108, 0)] L h hL1 hl1 → hl1.2.1 qdb = ia2_qdb → lv_has ls 2 [(1, .int iv2_1), (0, .ref x)] → W p l e ({ frames := 3, cells := 0, slots := 0, locals := 71 }) s m ([.ref x] : List Value).toArray below meth c H locs 0 0 (MQ below (va_Qv (fun (u : List Nat × hx_h) => (∃ (dbf1 : Nat → Int32), u.2.2.1 qdb = dbf1 ∧ (hz_DW dbf1 ((hz_RP odf szf gdf owf svf (hz_rc A plf) nw0.toInt) ((pof, pdf, psm, pkf, pst, n0.toInt.toNat) : hz_P)) agf byf c0.toInt.toNat)) ∧ hx_T T_tb u.1 u.2 ∧ hx_S T_tb [(10, 67), (10, 68), (10, 69), (10, 70), (10, 71), (108, 0)] L h u.1 u.2) (hx_E T_tb (P_ty dA) (dC, dI) vwCl (hx_A L sz)) (hx_A L sz)) ([.ref x] : List Value).toArray s 0 0 (hx_A L sz)) (F0 m 2 ls []) := by
    intro n2
    induction n2 with
    | zero => intro iv2_1 ia2_qdb H locs hL1 hl1 bliv2_1 buiv2_1 vi2_0 ls hn2; exfalso; omega
    | succ n2 ih2 =>
      intro iv2_1 ia2_qdb H locs hL1 hl1 bliv2_1 buiv2_1 vi2_0 ls hn2 hW hT hM  nia2_qdb hl
      refine lv_iload_n hx hb dX10_debts_2 rfl (lv_at hl 0 rfl) ?_
      refine lv_sipush (v := 1600) hx hb dX10_debts_3 (by decide) ?_
      refine hb_icmp_ge (zx := iv2_1.toInt) (zy := 1600) (tgt := 22) hx hb rfl (by decide) dX10_debts_6 (by decide) (fun c_2 => ?_) (fun c_2 => ?_)
      · skip
        refine lv_iconst (v := 0) hx hb dX10_debts_22 (by decide) ?_
        refine lv_istore_n (lv' := [(1, .int (0 : Int32)), (0, .ref x)]) hx hb dX10_debts_23 rfl hl (by decide) rfl (fun ls hl => ?_)
        have loop24 : ∀ (n24 : Nat) (iv24_1 : Int32) (ia24_qdb : Nat → Int32) (H : Heap) (locs : List Loc) (hL1 : List Nat) (hl1 : hx_h), 0 ≤ iv24_1.toInt → iv24_1.toInt ≤ 100 → (hz_DW ia24_qdb ((hz_RP odf szf gdf owf svf (hz_rc A plf) nw0.toInt) ((pof, pdf, psm, pkf, pst, n0.toInt.toNat) : hz_P)) agf byf (iv24_1.toInt).toNat) → (iv24_1.toInt ≤ c0.toInt) → ∀ (ls : Array Slot), 100 - iv24_1.toInt < (n24 : Int) → hx_W T_tb (P_ty dA) (dC, dI) vwCl (hx_A L sz) s.heap hL1 hl1 s H locs → hx_T T_tb hL1 hl1 → hx_S T_tb [(10, 67), (10, 68), (10, 69), (10, 70), (10, 71), (108, 0)] L h hL1 hl1 → hl1.2.1 qdb = ia24_qdb → lv_has ls 2 [(1, .int iv24_1), (0, .ref x)] → W p l e ({ frames := 3, cells := 0, slots := 0, locals := 71 }) s m ([.ref x] : List Value).toArray below meth c H locs 0 0 (MQ below (va_Qv (fun (u : List Nat × hx_h) => (∃ (dbf1 : Nat → Int32), u.2.2.1 qdb = dbf1 ∧ (hz_DW dbf1 ((hz_RP odf szf gdf owf svf (hz_rc A plf) nw0.toInt) ((pof, pdf, psm, pkf, pst, n0.toInt.toNat) : hz_P)) agf byf c0.toInt.toNat)) ∧ hx_T T_tb u.1 u.2 ∧ hx_S T_tb [(10, 67), (10, 68), (10, 69), (10, 70), (10, 71), (108, 0)] L h u.1 u.2) (hx_E T_tb (P_ty dA) (dC, dI) vwCl (hx_A L sz)) (hx_A L sz)) ([.ref x] : List Value).toArray s 0 0 (hx_A L sz)) (F0 m 24 ls []) := by
          intro n24
          induction n24 with
          | zero => intro iv24_1 ia24_qdb H locs hL1 hl1 bliv24_1 buiv24_1 vi24_0 vi24_1 ls hn24; exfalso; omega
          | succ n24 ih24 =>
            intro iv24_1 ia24_qdb H locs hL1 hl1 bliv24_1 buiv24_1 vi24_0 vi24_1 ls hn24 hW hT hM  nia24_qdb hl
            refine lv_iload_n hx hb dX10_debts_24 rfl (lv_at hl 0 rfl) ?_
            refine lv_aload_n hx hb dX10_debts_25 rfl (lv_at hl 1 rfl) ?_
            refine hk_geti hx hb hts hC_10 hown hW (gx.S hM) tt_10 36 (by decide) rfl kw_1179 ⟨rfl, rfl, rfl⟩ ((hM.o gx trivial rfl).1.trans f_x_36) dX10_debts_26 ?_
            refine hb_icmp_ge (zx := iv24_1.toInt) (zy := c0.toInt) (tgt := 74) hx hb rfl rfl dX10_debts_29 (by decide) (fun c_3 => ?_) (fun c_3 => ?_)
            · skip
              exact hx_retv hx hb hr hlk hW ⟨⟨ia24_qdb, nia24_qdb, (by have h9 := vi24_0; rw [show iv24_1.toInt.toNat = c0.toInt.toNat by omega] at h9; exact h9)⟩, hT, hM⟩ dX10_debts_74
            · skip
              refine lv_aload_n hx hb dX10_debts_32 rfl (lv_at hl 1 rfl) ?_
              refine lv_iload_n hx hb dX10_debts_33 rfl (lv_at hl 0 rfl) ?_
              refine hx_goi (hx_runV (As := [.int iv24_1]) (rest := []) ⟨hx, hb, hml, hown, hts⟩ hW (gx.S hM) tt_10 (T := TX10) (N := 98) rfl (t_X10_isOpen_v l dC dI dA hL1 hl1 H.size x iv24_1 hT (gx.S hM) qfo (gqfo.S hM) ((hM.o gx trivial rfl).2.trans f_x_46) qhe (gqhe.S hM) ((hM.o gx trivial rfl).2.trans f_x_47) qju (gqju.S hM) ((hM.o gx trivial rfl).2.trans f_x_51) qod (gqod.S hM) ((hM.o gx trivial rfl).2.trans f_x_48) qsv (gqsv.S hM) ((hM.o gx trivial rfl).2.trans f_x_50) qsz (gqsz.S hM) ((hM.o gx trivial rfl).2.trans f_x_49) qgd (gqgd.S hM) ((hM.o gx trivial rfl).2.trans f_x_56) qow (gqow.S hM) ((hM.o gx trivial rfl).2.trans f_x_55) qwk (gqwk.S hM) ((hM.o gx trivial rfl).2.trans f_x_54) qpl (gqpl.S hM) ((hM.o gx trivial rfl).2.trans f_x_44) qru (gqru.S hM) ((hM.o gx trivial rfl).2.trans f_x_3) qpo (gqpo.S hM) ((hM.o gx trivial rfl).2.trans f_x_60) qpd (gqpd.S hM) ((hM.o gx trivial rfl).2.trans f_x_61) qps (gqps.S hM) ((hM.o gx trivial rfl).2.trans f_x_62) qpk (gqpk.S hM) ((hM.o gx trivial rfl).2.trans f_x_63) qpt (gqpt.S hM) ((hM.o gx trivial rfl).2.trans f_x_64) fof (hx_afS hM gqfo rfl af_qfo) hrf (hx_afS hM gqhe rfl af_qhe) udf (hx_afS hM gqju rfl af_qju) odf (hx_afS hM gqod rfl af_qod) svf (hx_afS hM gqsv rfl af_qsv) szf (hx_afS hM gqsz rfl af_qsz) gdf (hx_afS hM gqgd rfl af_qgd) owf (hx_afS hM gqow rfl af_qow) wkf (hx_afS hM gqwk rfl af_qwk) plf (hx_afS hM gqpl rfl af_qpl) rlf (hx_afS hM gqru rfl af_qru) pof (hx_afS hM gqpo rfl af_qpo) pdf (hx_afS hM gqpd rfl af_qpd) psm (hx_afS hM gqps rfl af_qps) pkf (hx_afS hM gqpk rfl af_qpk) pst (hx_afS hM gqpt rfl af_qpt) c0 ((hM.o gx trivial rfl).1.trans f_x_36) a0 ((hM.o gx trivial rfl).1.trans f_x_1) nw0 ((hM.o gx trivial rfl).1.trans f_x_0) n0 ((hM.o gx trivial rfl).1.trans f_x_59) ⟨by omega, by omega⟩ adf psf prf A hCA hPL) (cwV 1 hts (hx_gV kw_1637 kw_1634 kw_1636 kw_81 kw_103) rfl rfl rfl (by decide +kernel) ⟨Nat.le_of_ble_eq_true rfl, Nat.le_of_ble_eq_true rfl⟩) rfl hl.1 rfl (Nat.le_of_ble_eq_true rfl) dX10_debts_34 ⟨Nat.le_of_ble_eq_true rfl, Nat.le_of_ble_eq_true rfl⟩) hW (fun r_6 L_4 h_5 H locs p_7 hW => ?_)
              obtain ⟨⟨w_9, fw_9, hr_8⟩, hT, hs⟩ := p_7
              replace hT : hx_T T_tb L_4 h_5 := hT
              replace hs : hx_S T_tb [(10, 67), (10, 68), (10, 69), (10, 70), (10, 71)] hL1 hl1 L_4 h_5 := hs
              replace nia24_qdb : h_5.2.1 qdb = ia24_qdb := (funext fun j => (hs.a (gqdb.S hM) rfl j).1).trans nia24_qdb
              replace hM := hM.tr (hs.mono (by decide))
              have fw_9 : h_5.2.1 x 68 = w_9 := fw_9
              have bw_9 := hT.gi (gx.S hM) tt_10 (k := 68) rfl
              rw [fw_9] at bw_9
              have bw_9 : 0 ≤ w_9.toInt ∧ w_9.toInt ≤ 610000 := bw_9
              have hro9 : w_9.toInt = (hz_RP odf szf gdf owf svf (hz_rc A plf) nw0.toInt) ((pof, pdf, psm, pkf, pst, n0.toInt.toNat) : hz_P) iv24_1.toInt.toNat := hr_8.2
              have hop9 : (r_6.toInt = 1 ∧ 0 < w_9.toInt) ∨ (r_6.toInt = 0 ∧ ¬ 0 < w_9.toInt) := by rw [hr_8.2]; exact hr_8.1
              have hrv9 := hrb iv24_1.toInt.toNat (by omega); rw [← hro9] at hrv9
              clear hr_8
              refine hb_if_eq (zx := r_6.toInt) (tgt := 68) hx hb rfl dX10_debts_37 (by decide) (fun c_10 => ?_) (fun c_10 => ?_)
              · skip
                obtain ⟨x_11, ex_11⟩ : ∃ y : Int32, y = iv24_1 + Int32.ofInt 1 := ⟨_, rfl⟩
                have rg_12 := i32_r iv24_1
                have zx_11 : x_11.toInt = iv24_1.toInt + (1) := by rw [ex_11]; exact i32_add rfl (by decide) (by omega) (by omega)
                refine lv_iinc (v := x_11) (lv' := [(1, .int x_11), (0, .ref x)]) hx hb dX10_debts_68 hl (k := 0) rfl ex_11.symm (by decide) rfl (fun ls hl => ?_)
                refine lv_goto (tgt := 24) hx hb dX10_debts_71 (by decide) ?_
                exact ih24 x_11 ia24_qdb _ _ L_4 h_5 (by omega) (by omega) (hz_DW_n vi24_0 (by omega) (by rw [← hro9]; omega) zx_11) (by omega) ls (by omega) hW hT hM  nia24_qdb (lv_sub hl [0, 1] rfl)
              · skip
                refine lv_aload_n hx hb dX10_debts_40 rfl (lv_at hl 1 rfl) ?_
                refine hk_getr hx hb hts hC_10 hown hW (gx.S hM) tt_10 82 (by decide) rfl kw_1225 ⟨rfl, rfl, rfl⟩ ((hM.o gx trivial rfl).2.trans f_x_82) dX10_debts_41 ?_
                refine lv_bipush (v := 40) hx hb dX10_debts_44 (by decide) ?_
                refine lv_aload_n hx hb dX10_debts_46 rfl (lv_at hl 1 rfl) ?_
                refine hk_getr hx hb hts hC_10 hown hW (gx.S hM) tt_10 38 (by decide) rfl kw_1181 ⟨rfl, rfl, rfl⟩ ((hM.o gx trivial rfl).2.trans f_x_38) dX10_debts_47 ?_
                refine lv_iload_n hx hb dX10_debts_50 rfl (lv_at hl 0 rfl) ?_
                refine hx_iald hx hb hW hT (gqag.S hM) tt_73 rfl ⟨by omega, by omega⟩ dX10_debts_51 (fun x_13 ex_13 lx_13 ux_13 => ?_)
                have ax_13 : x_13 = agf iv24_1.toNatClampNeg := ex_13.trans (congrFun (hx_afS hM gqag rfl af_qag) _)
                refine lv_imul hx hb dX10_debts_52 ?_
                refine lv_topi (fun x_14 ex_14 => ?_)
                have zx_14 : x_14.toInt = 40 * x_13.toInt := by rw [ex_14]; exact i32_mul (by decide) rfl rfl (by omega) (by omega)
                refine lv_aload_n hx hb dX10_debts_53 rfl (lv_at hl 1 rfl) ?_
                refine hk_getr hx hb hts hC_10 hown hW (gx.S hM) tt_10 37 (by decide) rfl kw_1180 ⟨rfl, rfl, rfl⟩ ((hM.o gx trivial rfl).2.trans f_x_37) dX10_debts_54 ?_
                refine lv_iload_n hx hb dX10_debts_57 rfl (lv_at hl 0 rfl) ?_
                refine hx_iald hx hb hW hT (gqby.S hM) tt_72 rfl ⟨by omega, by omega⟩ dX10_debts_58 (fun x_15 ex_15 lx_15 ux_15 => ?_)
                have ax_15 : x_15 = byf iv24_1.toNatClampNeg := ex_15.trans (congrFun (hx_afS hM gqby rfl af_qby) _)
                refine lv_iadd hx hb dX10_debts_59 ?_
                have rg_16 := i32_r x_14
                have rg_17 := i32_r x_15
                refine lv_topi (fun x_18 ex_18 => ?_)
                have zx_18 : x_18.toInt = x_14.toInt + x_15.toInt := by rw [ex_18]; exact i32_add rfl rfl (by omega) (by omega)
                refine lv_dup2_11 hx hb dX10_debts_60 rfl rfl ?_
                refine hx_iald hx hb hW hT (gqdb.S hM) tt_108 rfl ⟨by omega, by omega⟩ dX10_debts_61 (fun x_19 ex_19 lx_19 ux_19 => ?_)
                have ax_19 : x_19 = ia24_qdb x_18.toNatClampNeg := ex_19.trans (congrFun nia24_qdb _)
                refine lv_aload_n hx hb dX10_debts_62 rfl (lv_at hl 1 rfl) ?_
                refine hk_geti hx hb hts hC_10 hown hW (gx.S hM) tt_10 68 (by decide) rfl kw_1211 ⟨rfl, rfl, rfl⟩ fw_9 dX10_debts_63 ?_
                refine lv_iadd hx hb dX10_debts_66 ?_
                have rg_20 := i32_r x_19
                have rg_21 := i32_r w_9
                refine lv_topi (fun x_22 ex_22 => ?_)
                have nia24_qdbO := nia24_qdb
                refine hx_iast hx hb hW hT (hx_S.rf (M := [(108, 0)])) (gqdb.S hM) tt_108 rfl ⟨by omega, by omega⟩ rfl (i32_r _) (List.mem_singleton.mpr rfl) dX10_debts_67 (fun H locs h_23 eh_23 hW hT hs => ?_)
                replace fw_9 := (hs.o (gx.S hM) trivial rfl).1.trans fw_9
                replace ex_13 := ex_13.trans (hs.a (gqag.S hM) rfl _).1.symm
                replace ex_15 := ex_15.trans (hs.a (gqby.S hM) rfl _).1.symm
                replace hM := hM.tr (hs.mono (by decide))
                obtain ⟨fa_24, dfa_24⟩ : ∃ g : Nat → Int32, g = hx_up ia24_qdb x_18.toNatClampNeg x_22 := ⟨_, rfl⟩
                have nfa_24 : h_23.2.1 qdb = fa_24 := by rw [eh_23, dfa_24, ← nia24_qdbO]; exact hx_pi_fun _ _ _ _
                obtain ⟨x_25, ex_25⟩ : ∃ y : Int32, y = iv24_1 + Int32.ofInt 1 := ⟨_, rfl⟩
                have rg_26 := i32_r iv24_1
                have zx_25 : x_25.toInt = iv24_1.toInt + (1) := by rw [ex_25]; exact i32_add rfl (by decide) (by omega) (by omega)
                refine lv_iinc (v := x_25) (lv' := [(1, .int x_25), (0, .ref x)]) hx hb dX10_debts_68 hl (k := 0) rfl ex_25.symm (by decide) rfl (fun ls hl => ?_)
                refine lv_goto (tgt := 24) hx hb dX10_debts_71 (by decide) ?_
                exact ih24 x_25 fa_24 _ _ L_4 h_23 (by omega) (by omega) (hz_DW_s (ix := x_18.toNatClampNeg) vi24_0 (by omega) (by omega) (fun c hc => hrb c (by omega)) hro9 (by rw [show agf iv24_1.toInt.toNat = x_13 from ax_13.symm, show byf iv24_1.toInt.toNat = x_15 from ax_15.symm]; unfold Int32.toNatClampNeg; omega) (by unfold Int32.toNatClampNeg; omega) (by rw [dfa_24, ex_22, ax_19]) zx_25) (by omega) ls (by omega) hW hT hM  nfa_24 (lv_sub hl [0, 1] rfl)
        have zk_0 : (0 : Int32).toInt = 0 := by decide
        exact loop24 101 (0 : Int32) ia2_qdb _ _ hL1 hl1 (by decide) (by decide) (by rw [zk_0]; exact hz_DW_0 (fun j hj => vi2_0 j (by omega))) (by omega) ls (by omega) hW hT hM  nia2_qdb hl
      · skip
        refine lv_aload_n hx hb dX10_debts_9 rfl (lv_at hl 1 rfl) ?_
        refine hk_getr hx hb hts hC_10 hown hW (gx.S hM) tt_10 82 (by decide) rfl kw_1225 ⟨rfl, rfl, rfl⟩ ((hM.o gx trivial rfl).2.trans f_x_82) dX10_debts_10 ?_
        refine lv_iload_n hx hb dX10_debts_13 rfl (lv_at hl 0 rfl) ?_
        refine lv_iconst (v := 0) hx hb dX10_debts_14 (by decide) ?_
        have nia2_qdbO := nia2_qdb
        refine hx_iast hx hb hW hT (hx_S.rf (M := [(108, 0)])) (gqdb.S hM) tt_108 rfl ⟨by omega, by omega⟩ rfl (by decide) (List.mem_singleton.mpr rfl) dX10_debts_15 (fun H locs h_27 eh_27 hW hT hs => ?_)
        replace hM := hM.tr (hs.mono (by decide))
        obtain ⟨fa_28, dfa_28⟩ : ∃ g : Nat → Int32, g = hx_up ia2_qdb iv2_1.toNatClampNeg (0 : Int32) := ⟨_, rfl⟩
        have nfa_28 : h_27.2.1 qdb = fa_28 := by rw [eh_27, dfa_28, ← nia2_qdbO]; exact hx_pi_fun _ _ _ _
        obtain ⟨x_29, ex_29⟩ : ∃ y : Int32, y = iv2_1 + Int32.ofInt 1 := ⟨_, rfl⟩
        have rg_30 := i32_r iv2_1
        have zx_29 : x_29.toInt = iv2_1.toInt + (1) := by rw [ex_29]; exact i32_add rfl (by decide) (by omega) (by omega)
        refine lv_iinc (v := x_29) (lv' := [(1, .int x_29), (0, .ref x)]) hx hb dX10_debts_16 hl (k := 0) rfl ex_29.symm (by decide) rfl (fun ls hl => ?_)
        refine lv_goto (tgt := 2) hx hb dX10_debts_19 (by decide) ?_
        exact ih2 x_29 fa_28 _ _ hL1 h_27 (by omega) (by omega) (hy_cl_s vi2_0 (by omega) dfa_28 zx_29) ls (by omega) hW hT hM  nfa_28 (lv_sub hl [0, 1] rfl)
  have zk_0 : (0 : Int32).toInt = 0 := by decide
  exact loop2 1601 (0 : Int32) fa_1 _ _ L h (by decide) (by decide) (fun j hj => by exfalso; omega) ls (by omega) hW hT hM  nfa_1 hl


set_option maxHeartbeats 4000000 in
set_option maxRecDepth 100000 in
theorem t_X10_offers_v (l : Launch) (dC : Nat → ClassId) (dI : Nat → Nat → Nat) (dA : Nat → ClassId) (L : List Nat) (h : hx_h) (sz : Nat) (x : Nat) (i1 : Int32) (i2 : Int32) (hT : hx_T T_tb L h) (gx : hx_g L h x 10) (qdb : Nat) (gqdb : hx_g L h qdb 108) (f_x_82 : h.2.2 x 82 = some qdb) (qrg : Nat) (gqrg : hx_g L h qrg 111) (f_x_89 : h.2.2 x 89 = some qrg) (qbr : Nat) (gqbr : hx_g L h qbr 110) (f_x_88 : h.2.2 x 88 = some qbr) (dbf : Nat → Int32) (af_qdb : h.2.1 qdb = dbf) (rgf : Nat → Int32) (af_qrg : h.2.1 qrg = rgf) (brf : Nat → Int32) (af_qbr : h.2.1 qbr = brf) (bl0 : Int32) (f_x_86 : h.2.1 x 86 = bl0) (bs0 : Int32) (f_x_87 : h.2.1 x 87 = bs0) (hi1 : 2 ≤ i1.toInt ∧ i1.toInt ≤ 4) (hi2 : 0 ≤ i2.toInt) (g : Nat → Int) (hg : ∀ i : Nat, (i : Int) < i1.toInt → (rgf i).toInt = g i) (V : Int → Int) (hV : ∀ x : Nat, x < 1600 → (dbf x).toInt = V (x : Int)) (hVb : ∀ x : Int, 0 ≤ V x ∧ V x ≤ 61000000) (o : Int × Int × (Nat → Int)) (hSR : hz_SR o bl0.toInt bs0.toInt brf) : Met l yX10_offers (Cond.code yX10_offers cX10_offers 6 none :: hx_all) ({ frames := 0, cells := 0, slots := 0, locals := 0 }) (va_Pc [.ref x, .int i1, .int i2] (hx_B T_tb (P_ty dA) (dC, dI) vwCl L h sz)) (va_Qv (fun (u : List Nat × hx_h) => (∃ (bl1 : Int32) (bs1 : Int32) (brf1 : Nat → Int32), u.2.2.1 x 86 = bl1 ∧ u.2.2.1 x 87 = bs1 ∧ u.2.2.1 qbr = brf1 ∧ (hz_SR (hz_of i1.toInt (hz_mi i2.toInt (V (40 * g (i1.toInt - 1).toNat + g 0))) g o) bl1.toInt bs1.toInt brf1)) ∧ hx_T T_tb u.1 u.2 ∧ hx_S T_tb [(10, 86), (10, 87), (110, 0)] L h u.1 u.2) (hx_E T_tb (P_ty dA) (dC, dI) vwCl (hx_A L sz)) (hx_A L sz)) 0 0 (hx_A L sz) := by
  refine hx_met (lv := [(0, .ref x), (1, .int i1), (2, .int i2)]) (by decide +kernel) rfl (Nat.le_of_ble_eq_true rfl) rfl ?_
  intro p e s m below meth c hx hb hml hr hlk hts0 hown hin hsz hW ls hl
  have hts : ∀ w ∈ hx_all, w.before _ s = true := fun w hw => hts0 w (List.mem_cons_of_mem _ hw)
  have hown : s.vm.findClass "SmallCourtModel" = some m.cls := hown
  have hM : hx_S T_tb [(10, 86), (10, 87), (110, 0)] L h L h := hx_S.rf
  have b_bl0 := hT.gi gx tt_10 (k := 86) rfl
  rw [f_x_86] at b_bl0
  have b_bl0 : -2147483648 ≤ bl0.toInt ∧ bl0.toInt ≤ 2147483647 := b_bl0
  have b_bs0 := hT.gi gx tt_10 (k := 87) rfl
  rw [f_x_87] at b_bs0
  have b_bs0 : 0 ≤ bs0.toInt ∧ bs0.toInt ≤ 4 := b_bs0
  refine lv_aload_n hx hb dX10_offers_0 rfl (lv_at hl 0 rfl) ?_
  refine hk_getr hx hb hts hC_10 hown hW (gx.S hM) tt_10 82 (by decide) rfl kw_1225 ⟨rfl, rfl, rfl⟩ ((hM.o gx trivial rfl).2.trans f_x_82) dX10_offers_1 ?_
  refine lv_bipush (v := 40) hx hb dX10_offers_4 (by decide) ?_
  refine lv_aload_n hx hb dX10_offers_6 rfl (lv_at hl 0 rfl) ?_
  refine hk_getr hx hb hts hC_10 hown hW (gx.S hM) tt_10 89 (by decide) rfl kw_1232 ⟨rfl, rfl, rfl⟩ ((hM.o gx trivial rfl).2.trans f_x_89) dX10_offers_7 ?_
  refine lv_iload_n hx hb dX10_offers_10 rfl (lv_at hl 1 rfl) ?_
  refine lv_iconst (v := 1) hx hb dX10_offers_11 (by decide) ?_
  refine lv_isub hx hb dX10_offers_12 ?_
  have rg_1 := i32_r i1
  refine lv_topi (fun x_2 ex_2 => ?_)
  have zx_2 : x_2.toInt = i1.toInt - 1 := by rw [ex_2]; exact i32_sub rfl (by decide) (by omega) (by omega)
  refine hx_iald hx hb hW hT (gqrg.S hM) tt_111 rfl ⟨by omega, by omega⟩ dX10_offers_13 (fun x_3 ex_3 lx_3 ux_3 => ?_)
  have ax_3 : x_3 = rgf x_2.toNatClampNeg := ex_3.trans (congrFun (hx_afS hM gqrg rfl af_qrg) _)
  have hg1 : x_3.toInt = g (i1.toInt - 1).toNat := by have e9 : x_2.toNatClampNeg = (i1.toInt - 1).toNat := (by unfold Int32.toNatClampNeg; omega); rw [ax_3, e9]; exact hg _ (by omega)
  refine lv_imul hx hb dX10_offers_14 ?_
  refine lv_topi (fun x_4 ex_4 => ?_)
  have zx_4 : x_4.toInt = 40 * x_3.toInt := by rw [ex_4]; exact i32_mul (by decide) rfl rfl (by omega) (by omega)
  refine lv_aload_n hx hb dX10_offers_15 rfl (lv_at hl 0 rfl) ?_
  refine hk_getr hx hb hts hC_10 hown hW (gx.S hM) tt_10 89 (by decide) rfl kw_1232 ⟨rfl, rfl, rfl⟩ ((hM.o gx trivial rfl).2.trans f_x_89) dX10_offers_16 ?_
  refine lv_iconst (v := 0) hx hb dX10_offers_19 (by decide) ?_
  refine hx_iald hx hb hW hT (gqrg.S hM) tt_111 rfl (by decide) dX10_offers_20 (fun x_5 ex_5 lx_5 ux_5 => ?_)
  have ax_5 : x_5 = rgf (0 : Int32).toNatClampNeg := ex_5.trans (congrFun (hx_afS hM gqrg rfl af_qrg) _)
  have hg2 : x_5.toInt = g 0 := by rw [ax_5, show (0 : Int32).toNatClampNeg = 0 from by decide]; exact hg 0 (by omega)
  refine lv_iadd hx hb dX10_offers_21 ?_
  have rg_6 := i32_r x_4
  have rg_7 := i32_r x_5
  refine lv_topi (fun x_8 ex_8 => ?_)
  have zx_8 : x_8.toInt = x_4.toInt + x_5.toInt := by rw [ex_8]; exact i32_add rfl rfl (by omega) (by omega)
  refine hx_iald hx hb hW hT (gqdb.S hM) tt_108 rfl ⟨by omega, by omega⟩ dX10_offers_22 (fun x_9 ex_9 lx_9 ux_9 => ?_)
  have ax_9 : x_9 = dbf x_8.toNatClampNeg := ex_9.trans (congrFun (hx_afS hM gqdb rfl af_qdb) _)
  have hv9 : x_9.toInt = V (40 * g (i1.toInt - 1).toNat + g 0) := by have h9 := hV x_8.toNatClampNeg (by unfold Int32.toNatClampNeg; omega); rw [← ax_9, show ((x_8.toNatClampNeg : Nat) : Int) = 40 * g (i1.toInt - 1).toNat + g 0 by unfold Int32.toNatClampNeg; omega] at h9; exact h9
  have hv9b := hVb (40 * g (i1.toInt - 1).toNat + g 0); rw [← hv9] at hv9b
  refine lv_istore_n (lv' := [(3, .int x_9), (0, .ref x), (1, .int i1), (2, .int i2)]) hx hb dX10_offers_23 rfl hl (by decide) rfl (fun ls hl => ?_)
  refine lv_iload_n hx hb dX10_offers_24 rfl (lv_at hl 0 rfl) ?_
  refine lv_iload_n hx hb dX10_offers_25 rfl (lv_at hl 3 rfl) ?_
  refine hb_icmp_ge (zx := x_9.toInt) (zy := i2.toInt) (tgt := 33) hx hb rfl rfl dX10_offers_26 (by decide) (fun c_10 => ?_) (fun c_10 => ?_)
  · skip
    refine lv_iload_n hx hb dX10_offers_33 rfl (lv_at hl 3 rfl) ?_
    refine lv_istore (lv' := [(4, .int i2), (3, .int x_9), (0, .ref x), (1, .int i1), (2, .int i2)]) hx hb dX10_offers_34 hl (by decide) rfl (fun ls hl => ?_)
    have hmi9 : i2.toInt = hz_mi i2.toInt (V (40 * g (i1.toInt - 1).toNat + g 0)) := by rw [← hv9]; unfold hz_mi; split <;> omega
    have hsb9 := hSR.2.2.1
    refine lv_iload hx hb dX10_offers_36 (lv_at hl 0 rfl) ?_
    refine hb_if_eq (zx := i2.toInt) (tgt := 67) hx hb rfl dX10_offers_38 (by decide) (fun c_11 => ?_) (fun c_11 => ?_)
    · skip
      exact hx_retv hx hb hr hlk hW ⟨⟨bl0, bs0, brf, f_x_86, f_x_87, af_qbr, (by rw [← hmi9]; exact hz_SR_n hSR (by omega))⟩, hT, hM⟩ dX10_offers_67
    · skip
      refine lv_iload hx hb dX10_offers_41 (lv_at hl 0 rfl) ?_
      refine lv_aload_n hx hb dX10_offers_43 rfl (lv_at hl 2 rfl) ?_
      refine hk_geti hx hb hts hC_10 hown hW (gx.S hM) tt_10 86 (by decide) rfl kw_1229 ⟨rfl, rfl, rfl⟩ f_x_86 dX10_offers_44 ?_
      refine hb_icmp_lt (zx := i2.toInt) (zy := bl0.toInt) (tgt := 67) hx hb rfl rfl dX10_offers_47 (by decide) (fun c_12 => ?_) (fun c_12 => ?_)
      · skip
        exact hx_retv hx hb hr hlk hW ⟨⟨bl0, bs0, brf, f_x_86, f_x_87, af_qbr, (by rw [← hmi9]; exact hz_SR_n hSR (by omega))⟩, hT, hM⟩ dX10_offers_67
      · skip
        refine lv_iload hx hb dX10_offers_50 (lv_at hl 0 rfl) ?_
        refine lv_aload_n hx hb dX10_offers_52 rfl (lv_at hl 2 rfl) ?_
        refine hk_geti hx hb hts hC_10 hown hW (gx.S hM) tt_10 86 (by decide) rfl kw_1229 ⟨rfl, rfl, rfl⟩ f_x_86 dX10_offers_53 ?_
        refine hb_icmp_ne (zx := i2.toInt) (zy := bl0.toInt) (tgt := 68) hx hb rfl rfl dX10_offers_56 (by decide) (fun c_13 => ?_) (fun c_13 => ?_)
        · skip
          refine lv_aload_n hx hb dX10_offers_68 rfl (lv_at hl 2 rfl) ?_
          refine lv_iload hx hb dX10_offers_69 (lv_at hl 0 rfl) ?_
          refine hx_puti hx hb hts hC_10 hown hW hT (hx_S.rf (M := [(10, 86)])) (gx.S hM) tt_10 86 (by decide) rfl kw_1229 ⟨rfl, rfl, rfl⟩ rfl (x := i2) (i32_r _) rfl rfl rfl (List.mem_singleton.mpr rfl) dX10_offers_71 (fun H locs h_14 eh_14 hW hT hs => ?_)
          replace f_x_87 := (hs.o (gx.S hM) trivial rfl).1.trans f_x_87
          replace af_qbr : h_14.2.1 qbr = brf := (funext fun j => (hs.a (gqbr.S hM) rfl j).1).trans af_qbr
          replace ex_3 := ex_3.trans (hs.a (gqrg.S hM) rfl _).1.symm
          replace ex_5 := ex_5.trans (hs.a (gqrg.S hM) rfl _).1.symm
          replace ex_9 := ex_9.trans (hs.a (gqdb.S hM) rfl _).1.symm
          replace hM := hM.tr (hs.mono (by decide))
          have f_15 : h_14.2.1 x 86 = i2 := by rw [eh_14]; exact hx_pi_at _ _ _ _
          refine lv_aload_n hx hb dX10_offers_74 rfl (lv_at hl 2 rfl) ?_
          refine lv_iload_n hx hb dX10_offers_75 rfl (lv_at hl 3 rfl) ?_
          refine hx_puti hx hb hts hC_10 hown hW hT (hx_S.rf (M := [(10, 87)])) (gx.S hM) tt_10 87 (by decide) rfl kw_1230 ⟨rfl, rfl, rfl⟩ rfl (x := i1) ⟨by omega, by omega⟩ rfl rfl rfl (List.mem_singleton.mpr rfl) dX10_offers_76 (fun H locs h_16 eh_16 hW hT hs => ?_)
          replace f_15 := (hs.o (gx.S hM) trivial rfl).1.trans f_15
          replace af_qbr : h_16.2.1 qbr = brf := (funext fun j => (hs.a (gqbr.S hM) rfl j).1).trans af_qbr
          replace ex_3 := ex_3.trans (hs.a (gqrg.S hM) rfl _).1.symm
          replace ex_5 := ex_5.trans (hs.a (gqrg.S hM) rfl _).1.symm
          replace ex_9 := ex_9.trans (hs.a (gqdb.S hM) rfl _).1.symm
          replace hM := hM.tr (hs.mono (by decide))
          have f_17 : h_16.2.1 x 87 = i1 := by rw [eh_16]; exact hx_pi_at _ _ _ _
          refine lv_iconst (v := 0) hx hb dX10_offers_79 (by decide) ?_
          refine lv_istore (lv' := [(5, .int (0 : Int32)), (4, .int i2), (3, .int x_9), (0, .ref x), (1, .int i1), (2, .int i2)]) hx hb dX10_offers_80 hl (by decide) rfl (fun ls hl => ?_)
          have loop82 : ∀ (n82 : Nat) (iv82_5 : Int32) (ia82_qbr : Nat → Int32) (H : Heap) (locs : List Loc) (hL1 : List Nat) (hl1 : hx_h), 0 ≤ iv82_5.toInt → iv82_5.toInt ≤ 4 → (∀ k : Nat, (k : Int) < iv82_5.toInt → ia82_qbr k = rgf k) → ∀ (ls : Array Slot), 4 - iv82_5.toInt < (n82 : Int) → hx_W T_tb (P_ty dA) (dC, dI) vwCl (hx_A L sz) s.heap hL1 hl1 s H locs → hx_T T_tb hL1 hl1 → hx_S T_tb [(10, 86), (10, 87), (110, 0)] L h hL1 hl1 → hl1.2.1 x 86 = i2 → hl1.2.1 x 87 = i1 → hl1.2.1 qbr = ia82_qbr → lv_has ls 6 [(5, .int iv82_5), (4, .int i2), (3, .int x_9), (0, .ref x), (1, .int i1), (2, .int i2)] → W p l e ({ frames := 0, cells := 0, slots := 0, locals := 0 }) s m ([.ref x, .int i1, .int i2] : List Value).toArray below meth c H locs 0 0 (MQ below (va_Qv (fun (u : List Nat × hx_h) => (∃ (bl1 : Int32) (bs1 : Int32) (brf1 : Nat → Int32), u.2.2.1 x 86 = bl1 ∧ u.2.2.1 x 87 = bs1 ∧ u.2.2.1 qbr = brf1 ∧ (hz_SR (hz_of i1.toInt (hz_mi i2.toInt (V (40 * g (i1.toInt - 1).toNat + g 0))) g o) bl1.toInt bs1.toInt brf1)) ∧ hx_T T_tb u.1 u.2 ∧ hx_S T_tb [(10, 86), (10, 87), (110, 0)] L h u.1 u.2) (hx_E T_tb (P_ty dA) (dC, dI) vwCl (hx_A L sz)) (hx_A L sz)) ([.ref x, .int i1, .int i2] : List Value).toArray s 0 0 (hx_A L sz)) (F0 m 82 ls []) := by
            intro n82
            induction n82 with
            | zero => intro iv82_5 ia82_qbr H locs hL1 hl1 bliv82_5 buiv82_5 vi82_0 ls hn82; exfalso; omega
            | succ n82 ih82 =>
              intro iv82_5 ia82_qbr H locs hL1 hl1 bliv82_5 buiv82_5 vi82_0 ls hn82 hW hT hM f_15 f_17 nia82_qbr hl
              refine lv_iload hx hb dX10_offers_82 (lv_at hl 0 rfl) ?_
              refine lv_iload_n hx hb dX10_offers_84 rfl (lv_at hl 4 rfl) ?_
              refine hb_icmp_ge (zx := iv82_5.toInt) (zy := i1.toInt) (tgt := 108) hx hb rfl rfl dX10_offers_85 (by decide) (fun c_18 => ?_) (fun c_18 => ?_)
              · skip
                exact hx_retv hx hb hr hlk hW ⟨⟨i2, i1, ia82_qbr, f_15, f_17, nia82_qbr, (by rw [← hmi9]; exact hz_SR_y hSR (by omega) rfl rfl ⟨by omega, by omega⟩ (fun i hi => by rw [vi82_0 i (by omega)]; exact hg i hi))⟩, hT, hM⟩ dX10_offers_108
              · skip
                refine lv_aload_n hx hb dX10_offers_88 rfl (lv_at hl 3 rfl) ?_
                refine hk_getr hx hb hts hC_10 hown hW (gx.S hM) tt_10 88 (by decide) rfl kw_1231 ⟨rfl, rfl, rfl⟩ ((hM.o gx trivial rfl).2.trans f_x_88) dX10_offers_89 ?_
                refine lv_iload hx hb dX10_offers_92 (lv_at hl 0 rfl) ?_
                refine lv_aload_n hx hb dX10_offers_94 rfl (lv_at hl 3 rfl) ?_
                refine hk_getr hx hb hts hC_10 hown hW (gx.S hM) tt_10 89 (by decide) rfl kw_1232 ⟨rfl, rfl, rfl⟩ ((hM.o gx trivial rfl).2.trans f_x_89) dX10_offers_95 ?_
                refine lv_iload hx hb dX10_offers_98 (lv_at hl 0 rfl) ?_
                refine hx_iald hx hb hW hT (gqrg.S hM) tt_111 rfl ⟨by omega, by omega⟩ dX10_offers_100 (fun x_19 ex_19 lx_19 ux_19 => ?_)
                have ax_19 : x_19 = rgf iv82_5.toNatClampNeg := ex_19.trans (congrFun (hx_afS hM gqrg rfl af_qrg) _)
                have nia82_qbrO := nia82_qbr
                refine hx_iast hx hb hW hT (hx_S.rf (M := [(110, 0)])) (gqbr.S hM) tt_110 rfl ⟨by omega, by omega⟩ rfl ⟨by omega, by omega⟩ (List.mem_singleton.mpr rfl) dX10_offers_101 (fun H locs h_20 eh_20 hW hT hs => ?_)
                replace f_15 := (hs.o (gx.S hM) trivial rfl).1.trans f_15
                replace f_17 := (hs.o (gx.S hM) trivial rfl).1.trans f_17
                replace ex_19 := ex_19.trans (hs.a (gqrg.S hM) rfl _).1.symm
                replace hM := hM.tr (hs.mono (by decide))
                obtain ⟨fa_21, dfa_21⟩ : ∃ g : Nat → Int32, g = hx_up ia82_qbr iv82_5.toNatClampNeg x_19 := ⟨_, rfl⟩
                have nfa_21 : h_20.2.1 qbr = fa_21 := by rw [eh_20, dfa_21, ← nia82_qbrO]; exact hx_pi_fun _ _ _ _
                obtain ⟨x_22, ex_22⟩ : ∃ y : Int32, y = iv82_5 + Int32.ofInt 1 := ⟨_, rfl⟩
                have rg_23 := i32_r iv82_5
                have zx_22 : x_22.toInt = iv82_5.toInt + (1) := by rw [ex_22]; exact i32_add rfl (by decide) (by omega) (by omega)
                refine lv_iinc (v := x_22) (lv' := [(5, .int x_22), (4, .int i2), (3, .int x_9), (0, .ref x), (1, .int i1), (2, .int i2)]) hx hb dX10_offers_102 hl (k := 0) rfl ex_22.symm (by decide) rfl (fun ls hl => ?_)
                refine lv_goto (tgt := 82) hx hb dX10_offers_105 (by decide) ?_
                exact ih82 x_22 fa_21 _ _ hL1 h_20 (by omega) (by omega) (hx_cp_s vi82_0 dfa_21 ax_19 rfl (by omega) zx_22) ls (by omega) hW hT hM f_15 f_17 nfa_21 (lv_sub hl [0, 1, 2, 3, 4, 5] rfl)
          have zk_0 : (0 : Int32).toInt = 0 := by decide
          exact loop82 5 (0 : Int32) brf _ _ L h_16 (by decide) (by decide) (fun k hk => by omega) ls (by omega) hW hT hM f_15 f_17 af_qbr hl
        · skip
          refine lv_iload_n hx hb dX10_offers_59 rfl (lv_at hl 3 rfl) ?_
          refine lv_aload_n hx hb dX10_offers_60 rfl (lv_at hl 2 rfl) ?_
          refine hk_geti hx hb hts hC_10 hown hW (gx.S hM) tt_10 87 (by decide) rfl kw_1230 ⟨rfl, rfl, rfl⟩ f_x_87 dX10_offers_61 ?_
          refine hb_icmp_lt (zx := i1.toInt) (zy := bs0.toInt) (tgt := 68) hx hb rfl rfl dX10_offers_64 (by decide) (fun c_24 => ?_) (fun c_24 => ?_)
          · skip
            refine lv_aload_n hx hb dX10_offers_68 rfl (lv_at hl 2 rfl) ?_
            refine lv_iload hx hb dX10_offers_69 (lv_at hl 0 rfl) ?_
            refine hx_puti hx hb hts hC_10 hown hW hT (hx_S.rf (M := [(10, 86)])) (gx.S hM) tt_10 86 (by decide) rfl kw_1229 ⟨rfl, rfl, rfl⟩ rfl (x := i2) (i32_r _) rfl rfl rfl (List.mem_singleton.mpr rfl) dX10_offers_71 (fun H locs h_25 eh_25 hW hT hs => ?_)
            replace f_x_87 := (hs.o (gx.S hM) trivial rfl).1.trans f_x_87
            replace af_qbr : h_25.2.1 qbr = brf := (funext fun j => (hs.a (gqbr.S hM) rfl j).1).trans af_qbr
            replace ex_3 := ex_3.trans (hs.a (gqrg.S hM) rfl _).1.symm
            replace ex_5 := ex_5.trans (hs.a (gqrg.S hM) rfl _).1.symm
            replace ex_9 := ex_9.trans (hs.a (gqdb.S hM) rfl _).1.symm
            replace hM := hM.tr (hs.mono (by decide))
            have f_26 : h_25.2.1 x 86 = i2 := by rw [eh_25]; exact hx_pi_at _ _ _ _
            refine lv_aload_n hx hb dX10_offers_74 rfl (lv_at hl 2 rfl) ?_
            refine lv_iload_n hx hb dX10_offers_75 rfl (lv_at hl 3 rfl) ?_
            refine hx_puti hx hb hts hC_10 hown hW hT (hx_S.rf (M := [(10, 87)])) (gx.S hM) tt_10 87 (by decide) rfl kw_1230 ⟨rfl, rfl, rfl⟩ rfl (x := i1) ⟨by omega, by omega⟩ rfl rfl rfl (List.mem_singleton.mpr rfl) dX10_offers_76 (fun H locs h_27 eh_27 hW hT hs => ?_)
            replace f_26 := (hs.o (gx.S hM) trivial rfl).1.trans f_26
            replace af_qbr : h_27.2.1 qbr = brf := (funext fun j => (hs.a (gqbr.S hM) rfl j).1).trans af_qbr
            replace ex_3 := ex_3.trans (hs.a (gqrg.S hM) rfl _).1.symm
            replace ex_5 := ex_5.trans (hs.a (gqrg.S hM) rfl _).1.symm
            replace ex_9 := ex_9.trans (hs.a (gqdb.S hM) rfl _).1.symm
            replace hM := hM.tr (hs.mono (by decide))
            have f_28 : h_27.2.1 x 87 = i1 := by rw [eh_27]; exact hx_pi_at _ _ _ _
            refine lv_iconst (v := 0) hx hb dX10_offers_79 (by decide) ?_
            refine lv_istore (lv' := [(5, .int (0 : Int32)), (4, .int i2), (3, .int x_9), (0, .ref x), (1, .int i1), (2, .int i2)]) hx hb dX10_offers_80 hl (by decide) rfl (fun ls hl => ?_)
            have loop82 : ∀ (n82 : Nat) (iv82_5 : Int32) (ia82_qbr : Nat → Int32) (H : Heap) (locs : List Loc) (hL1 : List Nat) (hl1 : hx_h), 0 ≤ iv82_5.toInt → iv82_5.toInt ≤ 4 → (∀ k : Nat, (k : Int) < iv82_5.toInt → ia82_qbr k = rgf k) → ∀ (ls : Array Slot), 4 - iv82_5.toInt < (n82 : Int) → hx_W T_tb (P_ty dA) (dC, dI) vwCl (hx_A L sz) s.heap hL1 hl1 s H locs → hx_T T_tb hL1 hl1 → hx_S T_tb [(10, 86), (10, 87), (110, 0)] L h hL1 hl1 → hl1.2.1 x 86 = i2 → hl1.2.1 x 87 = i1 → hl1.2.1 qbr = ia82_qbr → lv_has ls 6 [(5, .int iv82_5), (4, .int i2), (3, .int x_9), (0, .ref x), (1, .int i1), (2, .int i2)] → W p l e ({ frames := 0, cells := 0, slots := 0, locals := 0 }) s m ([.ref x, .int i1, .int i2] : List Value).toArray below meth c H locs 0 0 (MQ below (va_Qv (fun (u : List Nat × hx_h) => (∃ (bl1 : Int32) (bs1 : Int32) (brf1 : Nat → Int32), u.2.2.1 x 86 = bl1 ∧ u.2.2.1 x 87 = bs1 ∧ u.2.2.1 qbr = brf1 ∧ (hz_SR (hz_of i1.toInt (hz_mi i2.toInt (V (40 * g (i1.toInt - 1).toNat + g 0))) g o) bl1.toInt bs1.toInt brf1)) ∧ hx_T T_tb u.1 u.2 ∧ hx_S T_tb [(10, 86), (10, 87), (110, 0)] L h u.1 u.2) (hx_E T_tb (P_ty dA) (dC, dI) vwCl (hx_A L sz)) (hx_A L sz)) ([.ref x, .int i1, .int i2] : List Value).toArray s 0 0 (hx_A L sz)) (F0 m 82 ls []) := by
              intro n82
              induction n82 with
              | zero => intro iv82_5 ia82_qbr H locs hL1 hl1 bliv82_5 buiv82_5 vi82_0 ls hn82; exfalso; omega
              | succ n82 ih82 =>
                intro iv82_5 ia82_qbr H locs hL1 hl1 bliv82_5 buiv82_5 vi82_0 ls hn82 hW hT hM f_26 f_28 nia82_qbr hl
                refine lv_iload hx hb dX10_offers_82 (lv_at hl 0 rfl) ?_
                refine lv_iload_n hx hb dX10_offers_84 rfl (lv_at hl 4 rfl) ?_
                refine hb_icmp_ge (zx := iv82_5.toInt) (zy := i1.toInt) (tgt := 108) hx hb rfl rfl dX10_offers_85 (by decide) (fun c_29 => ?_) (fun c_29 => ?_)
                · skip
                  exact hx_retv hx hb hr hlk hW ⟨⟨i2, i1, ia82_qbr, f_26, f_28, nia82_qbr, (by rw [← hmi9]; exact hz_SR_y hSR (by omega) rfl rfl ⟨by omega, by omega⟩ (fun i hi => by rw [vi82_0 i (by omega)]; exact hg i hi))⟩, hT, hM⟩ dX10_offers_108
                · skip
                  refine lv_aload_n hx hb dX10_offers_88 rfl (lv_at hl 3 rfl) ?_
                  refine hk_getr hx hb hts hC_10 hown hW (gx.S hM) tt_10 88 (by decide) rfl kw_1231 ⟨rfl, rfl, rfl⟩ ((hM.o gx trivial rfl).2.trans f_x_88) dX10_offers_89 ?_
                  refine lv_iload hx hb dX10_offers_92 (lv_at hl 0 rfl) ?_
                  refine lv_aload_n hx hb dX10_offers_94 rfl (lv_at hl 3 rfl) ?_
                  refine hk_getr hx hb hts hC_10 hown hW (gx.S hM) tt_10 89 (by decide) rfl kw_1232 ⟨rfl, rfl, rfl⟩ ((hM.o gx trivial rfl).2.trans f_x_89) dX10_offers_95 ?_
                  refine lv_iload hx hb dX10_offers_98 (lv_at hl 0 rfl) ?_
                  refine hx_iald hx hb hW hT (gqrg.S hM) tt_111 rfl ⟨by omega, by omega⟩ dX10_offers_100 (fun x_30 ex_30 lx_30 ux_30 => ?_)
                  have ax_30 : x_30 = rgf iv82_5.toNatClampNeg := ex_30.trans (congrFun (hx_afS hM gqrg rfl af_qrg) _)
                  have nia82_qbrO := nia82_qbr
                  refine hx_iast hx hb hW hT (hx_S.rf (M := [(110, 0)])) (gqbr.S hM) tt_110 rfl ⟨by omega, by omega⟩ rfl ⟨by omega, by omega⟩ (List.mem_singleton.mpr rfl) dX10_offers_101 (fun H locs h_31 eh_31 hW hT hs => ?_)
                  replace f_26 := (hs.o (gx.S hM) trivial rfl).1.trans f_26
                  replace f_28 := (hs.o (gx.S hM) trivial rfl).1.trans f_28
                  replace ex_30 := ex_30.trans (hs.a (gqrg.S hM) rfl _).1.symm
                  replace hM := hM.tr (hs.mono (by decide))
                  obtain ⟨fa_32, dfa_32⟩ : ∃ g : Nat → Int32, g = hx_up ia82_qbr iv82_5.toNatClampNeg x_30 := ⟨_, rfl⟩
                  have nfa_32 : h_31.2.1 qbr = fa_32 := by rw [eh_31, dfa_32, ← nia82_qbrO]; exact hx_pi_fun _ _ _ _
                  obtain ⟨x_33, ex_33⟩ : ∃ y : Int32, y = iv82_5 + Int32.ofInt 1 := ⟨_, rfl⟩
                  have rg_34 := i32_r iv82_5
                  have zx_33 : x_33.toInt = iv82_5.toInt + (1) := by rw [ex_33]; exact i32_add rfl (by decide) (by omega) (by omega)
                  refine lv_iinc (v := x_33) (lv' := [(5, .int x_33), (4, .int i2), (3, .int x_9), (0, .ref x), (1, .int i1), (2, .int i2)]) hx hb dX10_offers_102 hl (k := 0) rfl ex_33.symm (by decide) rfl (fun ls hl => ?_)
                  refine lv_goto (tgt := 82) hx hb dX10_offers_105 (by decide) ?_
                  exact ih82 x_33 fa_32 _ _ hL1 h_31 (by omega) (by omega) (hx_cp_s vi82_0 dfa_32 ax_30 rfl (by omega) zx_33) ls (by omega) hW hT hM f_26 f_28 nfa_32 (lv_sub hl [0, 1, 2, 3, 4, 5] rfl)
            have zk_0 : (0 : Int32).toInt = 0 := by decide
            exact loop82 5 (0 : Int32) brf _ _ L h_27 (by decide) (by decide) (fun k hk => by omega) ls (by omega) hW hT hM f_26 f_28 af_qbr hl
          · skip
            exact hx_retv hx hb hr hlk hW ⟨⟨bl0, bs0, brf, f_x_86, f_x_87, af_qbr, (by rw [← hmi9]; exact hz_SR_n hSR (by omega))⟩, hT, hM⟩ dX10_offers_67
  · skip
    refine lv_iload_n hx hb dX10_offers_29 rfl (lv_at hl 0 rfl) ?_
    refine lv_goto (tgt := 34) hx hb dX10_offers_30 (by decide) ?_
    refine lv_istore (lv' := [(4, .int x_9), (3, .int x_9), (0, .ref x), (1, .int i1), (2, .int i2)]) hx hb dX10_offers_34 hl (by decide) rfl (fun ls hl => ?_)
    have hmi9 : x_9.toInt = hz_mi i2.toInt (V (40 * g (i1.toInt - 1).toNat + g 0)) := by rw [← hv9]; unfold hz_mi; split <;> omega
    have hsb9 := hSR.2.2.1
    refine lv_iload hx hb dX10_offers_36 (lv_at hl 0 rfl) ?_
    refine hb_if_eq (zx := x_9.toInt) (tgt := 67) hx hb rfl dX10_offers_38 (by decide) (fun c_35 => ?_) (fun c_35 => ?_)
    · skip
      exact hx_retv hx hb hr hlk hW ⟨⟨bl0, bs0, brf, f_x_86, f_x_87, af_qbr, (by rw [← hmi9]; exact hz_SR_n hSR (by omega))⟩, hT, hM⟩ dX10_offers_67
    · skip
      refine lv_iload hx hb dX10_offers_41 (lv_at hl 0 rfl) ?_
      refine lv_aload_n hx hb dX10_offers_43 rfl (lv_at hl 2 rfl) ?_
      refine hk_geti hx hb hts hC_10 hown hW (gx.S hM) tt_10 86 (by decide) rfl kw_1229 ⟨rfl, rfl, rfl⟩ f_x_86 dX10_offers_44 ?_
      refine hb_icmp_lt (zx := x_9.toInt) (zy := bl0.toInt) (tgt := 67) hx hb rfl rfl dX10_offers_47 (by decide) (fun c_36 => ?_) (fun c_36 => ?_)
      · skip
        exact hx_retv hx hb hr hlk hW ⟨⟨bl0, bs0, brf, f_x_86, f_x_87, af_qbr, (by rw [← hmi9]; exact hz_SR_n hSR (by omega))⟩, hT, hM⟩ dX10_offers_67
      · skip
        refine lv_iload hx hb dX10_offers_50 (lv_at hl 0 rfl) ?_
        refine lv_aload_n hx hb dX10_offers_52 rfl (lv_at hl 2 rfl) ?_
        refine hk_geti hx hb hts hC_10 hown hW (gx.S hM) tt_10 86 (by decide) rfl kw_1229 ⟨rfl, rfl, rfl⟩ f_x_86 dX10_offers_53 ?_
        refine hb_icmp_ne (zx := x_9.toInt) (zy := bl0.toInt) (tgt := 68) hx hb rfl rfl dX10_offers_56 (by decide) (fun c_37 => ?_) (fun c_37 => ?_)
        · skip
          refine lv_aload_n hx hb dX10_offers_68 rfl (lv_at hl 2 rfl) ?_
          refine lv_iload hx hb dX10_offers_69 (lv_at hl 0 rfl) ?_
          refine hx_puti hx hb hts hC_10 hown hW hT (hx_S.rf (M := [(10, 86)])) (gx.S hM) tt_10 86 (by decide) rfl kw_1229 ⟨rfl, rfl, rfl⟩ rfl (x := x_9) (i32_r _) rfl rfl rfl (List.mem_singleton.mpr rfl) dX10_offers_71 (fun H locs h_38 eh_38 hW hT hs => ?_)
          replace f_x_87 := (hs.o (gx.S hM) trivial rfl).1.trans f_x_87
          replace af_qbr : h_38.2.1 qbr = brf := (funext fun j => (hs.a (gqbr.S hM) rfl j).1).trans af_qbr
          replace ex_3 := ex_3.trans (hs.a (gqrg.S hM) rfl _).1.symm
          replace ex_5 := ex_5.trans (hs.a (gqrg.S hM) rfl _).1.symm
          replace ex_9 := ex_9.trans (hs.a (gqdb.S hM) rfl _).1.symm
          replace hM := hM.tr (hs.mono (by decide))
          have f_39 : h_38.2.1 x 86 = x_9 := by rw [eh_38]; exact hx_pi_at _ _ _ _
          refine lv_aload_n hx hb dX10_offers_74 rfl (lv_at hl 2 rfl) ?_
          refine lv_iload_n hx hb dX10_offers_75 rfl (lv_at hl 3 rfl) ?_
          refine hx_puti hx hb hts hC_10 hown hW hT (hx_S.rf (M := [(10, 87)])) (gx.S hM) tt_10 87 (by decide) rfl kw_1230 ⟨rfl, rfl, rfl⟩ rfl (x := i1) ⟨by omega, by omega⟩ rfl rfl rfl (List.mem_singleton.mpr rfl) dX10_offers_76 (fun H locs h_40 eh_40 hW hT hs => ?_)
          replace f_39 := (hs.o (gx.S hM) trivial rfl).1.trans f_39
          replace af_qbr : h_40.2.1 qbr = brf := (funext fun j => (hs.a (gqbr.S hM) rfl j).1).trans af_qbr
          replace ex_3 := ex_3.trans (hs.a (gqrg.S hM) rfl _).1.symm
          replace ex_5 := ex_5.trans (hs.a (gqrg.S hM) rfl _).1.symm
          replace ex_9 := ex_9.trans (hs.a (gqdb.S hM) rfl _).1.symm
          replace hM := hM.tr (hs.mono (by decide))
          have f_41 : h_40.2.1 x 87 = i1 := by rw [eh_40]; exact hx_pi_at _ _ _ _
          refine lv_iconst (v := 0) hx hb dX10_offers_79 (by decide) ?_
          refine lv_istore (lv' := [(5, .int (0 : Int32)), (4, .int x_9), (3, .int x_9), (0, .ref x), (1, .int i1), (2, .int i2)]) hx hb dX10_offers_80 hl (by decide) rfl (fun ls hl => ?_)
          have loop82 : ∀ (n82 : Nat) (iv82_5 : Int32) (ia82_qbr : Nat → Int32) (H : Heap) (locs : List Loc) (hL1 : List Nat) (hl1 : hx_h), 0 ≤ iv82_5.toInt → iv82_5.toInt ≤ 4 → (∀ k : Nat, (k : Int) < iv82_5.toInt → ia82_qbr k = rgf k) → ∀ (ls : Array Slot), 4 - iv82_5.toInt < (n82 : Int) → hx_W T_tb (P_ty dA) (dC, dI) vwCl (hx_A L sz) s.heap hL1 hl1 s H locs → hx_T T_tb hL1 hl1 → hx_S T_tb [(10, 86), (10, 87), (110, 0)] L h hL1 hl1 → hl1.2.1 x 86 = x_9 → hl1.2.1 x 87 = i1 → hl1.2.1 qbr = ia82_qbr → lv_has ls 6 [(5, .int iv82_5), (4, .int x_9), (3, .int x_9), (0, .ref x), (1, .int i1), (2, .int i2)] → W p l e ({ frames := 0, cells := 0, slots := 0, locals := 0 }) s m ([.ref x, .int i1, .int i2] : List Value).toArray below meth c H locs 0 0 (MQ below (va_Qv (fun (u : List Nat × hx_h) => (∃ (bl1 : Int32) (bs1 : Int32) (brf1 : Nat → Int32), u.2.2.1 x 86 = bl1 ∧ u.2.2.1 x 87 = bs1 ∧ u.2.2.1 qbr = brf1 ∧ (hz_SR (hz_of i1.toInt (hz_mi i2.toInt (V (40 * g (i1.toInt - 1).toNat + g 0))) g o) bl1.toInt bs1.toInt brf1)) ∧ hx_T T_tb u.1 u.2 ∧ hx_S T_tb [(10, 86), (10, 87), (110, 0)] L h u.1 u.2) (hx_E T_tb (P_ty dA) (dC, dI) vwCl (hx_A L sz)) (hx_A L sz)) ([.ref x, .int i1, .int i2] : List Value).toArray s 0 0 (hx_A L sz)) (F0 m 82 ls []) := by
            intro n82
            induction n82 with
            | zero => intro iv82_5 ia82_qbr H locs hL1 hl1 bliv82_5 buiv82_5 vi82_0 ls hn82; exfalso; omega
            | succ n82 ih82 =>
              intro iv82_5 ia82_qbr H locs hL1 hl1 bliv82_5 buiv82_5 vi82_0 ls hn82 hW hT hM f_39 f_41 nia82_qbr hl
              refine lv_iload hx hb dX10_offers_82 (lv_at hl 0 rfl) ?_
              refine lv_iload_n hx hb dX10_offers_84 rfl (lv_at hl 4 rfl) ?_
              refine hb_icmp_ge (zx := iv82_5.toInt) (zy := i1.toInt) (tgt := 108) hx hb rfl rfl dX10_offers_85 (by decide) (fun c_42 => ?_) (fun c_42 => ?_)
              · skip
                exact hx_retv hx hb hr hlk hW ⟨⟨x_9, i1, ia82_qbr, f_39, f_41, nia82_qbr, (by rw [← hmi9]; exact hz_SR_y hSR (by omega) rfl rfl ⟨by omega, by omega⟩ (fun i hi => by rw [vi82_0 i (by omega)]; exact hg i hi))⟩, hT, hM⟩ dX10_offers_108
              · skip
                refine lv_aload_n hx hb dX10_offers_88 rfl (lv_at hl 3 rfl) ?_
                refine hk_getr hx hb hts hC_10 hown hW (gx.S hM) tt_10 88 (by decide) rfl kw_1231 ⟨rfl, rfl, rfl⟩ ((hM.o gx trivial rfl).2.trans f_x_88) dX10_offers_89 ?_
                refine lv_iload hx hb dX10_offers_92 (lv_at hl 0 rfl) ?_
                refine lv_aload_n hx hb dX10_offers_94 rfl (lv_at hl 3 rfl) ?_
                refine hk_getr hx hb hts hC_10 hown hW (gx.S hM) tt_10 89 (by decide) rfl kw_1232 ⟨rfl, rfl, rfl⟩ ((hM.o gx trivial rfl).2.trans f_x_89) dX10_offers_95 ?_
                refine lv_iload hx hb dX10_offers_98 (lv_at hl 0 rfl) ?_
                refine hx_iald hx hb hW hT (gqrg.S hM) tt_111 rfl ⟨by omega, by omega⟩ dX10_offers_100 (fun x_43 ex_43 lx_43 ux_43 => ?_)
                have ax_43 : x_43 = rgf iv82_5.toNatClampNeg := ex_43.trans (congrFun (hx_afS hM gqrg rfl af_qrg) _)
                have nia82_qbrO := nia82_qbr
                refine hx_iast hx hb hW hT (hx_S.rf (M := [(110, 0)])) (gqbr.S hM) tt_110 rfl ⟨by omega, by omega⟩ rfl ⟨by omega, by omega⟩ (List.mem_singleton.mpr rfl) dX10_offers_101 (fun H locs h_44 eh_44 hW hT hs => ?_)
                replace f_39 := (hs.o (gx.S hM) trivial rfl).1.trans f_39
                replace f_41 := (hs.o (gx.S hM) trivial rfl).1.trans f_41
                replace ex_43 := ex_43.trans (hs.a (gqrg.S hM) rfl _).1.symm
                replace hM := hM.tr (hs.mono (by decide))
                obtain ⟨fa_45, dfa_45⟩ : ∃ g : Nat → Int32, g = hx_up ia82_qbr iv82_5.toNatClampNeg x_43 := ⟨_, rfl⟩
                have nfa_45 : h_44.2.1 qbr = fa_45 := by rw [eh_44, dfa_45, ← nia82_qbrO]; exact hx_pi_fun _ _ _ _
                obtain ⟨x_46, ex_46⟩ : ∃ y : Int32, y = iv82_5 + Int32.ofInt 1 := ⟨_, rfl⟩
                have rg_47 := i32_r iv82_5
                have zx_46 : x_46.toInt = iv82_5.toInt + (1) := by rw [ex_46]; exact i32_add rfl (by decide) (by omega) (by omega)
                refine lv_iinc (v := x_46) (lv' := [(5, .int x_46), (4, .int x_9), (3, .int x_9), (0, .ref x), (1, .int i1), (2, .int i2)]) hx hb dX10_offers_102 hl (k := 0) rfl ex_46.symm (by decide) rfl (fun ls hl => ?_)
                refine lv_goto (tgt := 82) hx hb dX10_offers_105 (by decide) ?_
                exact ih82 x_46 fa_45 _ _ hL1 h_44 (by omega) (by omega) (hx_cp_s vi82_0 dfa_45 ax_43 rfl (by omega) zx_46) ls (by omega) hW hT hM f_39 f_41 nfa_45 (lv_sub hl [0, 1, 2, 3, 4, 5] rfl)
          have zk_0 : (0 : Int32).toInt = 0 := by decide
          exact loop82 5 (0 : Int32) brf _ _ L h_40 (by decide) (by decide) (fun k hk => by omega) ls (by omega) hW hT hM f_39 f_41 af_qbr hl
        · skip
          refine lv_iload_n hx hb dX10_offers_59 rfl (lv_at hl 3 rfl) ?_
          refine lv_aload_n hx hb dX10_offers_60 rfl (lv_at hl 2 rfl) ?_
          refine hk_geti hx hb hts hC_10 hown hW (gx.S hM) tt_10 87 (by decide) rfl kw_1230 ⟨rfl, rfl, rfl⟩ f_x_87 dX10_offers_61 ?_
          refine hb_icmp_lt (zx := i1.toInt) (zy := bs0.toInt) (tgt := 68) hx hb rfl rfl dX10_offers_64 (by decide) (fun c_48 => ?_) (fun c_48 => ?_)
          · skip
            refine lv_aload_n hx hb dX10_offers_68 rfl (lv_at hl 2 rfl) ?_
            refine lv_iload hx hb dX10_offers_69 (lv_at hl 0 rfl) ?_
            refine hx_puti hx hb hts hC_10 hown hW hT (hx_S.rf (M := [(10, 86)])) (gx.S hM) tt_10 86 (by decide) rfl kw_1229 ⟨rfl, rfl, rfl⟩ rfl (x := x_9) (i32_r _) rfl rfl rfl (List.mem_singleton.mpr rfl) dX10_offers_71 (fun H locs h_49 eh_49 hW hT hs => ?_)
            replace f_x_87 := (hs.o (gx.S hM) trivial rfl).1.trans f_x_87
            replace af_qbr : h_49.2.1 qbr = brf := (funext fun j => (hs.a (gqbr.S hM) rfl j).1).trans af_qbr
            replace ex_3 := ex_3.trans (hs.a (gqrg.S hM) rfl _).1.symm
            replace ex_5 := ex_5.trans (hs.a (gqrg.S hM) rfl _).1.symm
            replace ex_9 := ex_9.trans (hs.a (gqdb.S hM) rfl _).1.symm
            replace hM := hM.tr (hs.mono (by decide))
            have f_50 : h_49.2.1 x 86 = x_9 := by rw [eh_49]; exact hx_pi_at _ _ _ _
            refine lv_aload_n hx hb dX10_offers_74 rfl (lv_at hl 2 rfl) ?_
            refine lv_iload_n hx hb dX10_offers_75 rfl (lv_at hl 3 rfl) ?_
            refine hx_puti hx hb hts hC_10 hown hW hT (hx_S.rf (M := [(10, 87)])) (gx.S hM) tt_10 87 (by decide) rfl kw_1230 ⟨rfl, rfl, rfl⟩ rfl (x := i1) ⟨by omega, by omega⟩ rfl rfl rfl (List.mem_singleton.mpr rfl) dX10_offers_76 (fun H locs h_51 eh_51 hW hT hs => ?_)
            replace f_50 := (hs.o (gx.S hM) trivial rfl).1.trans f_50
            replace af_qbr : h_51.2.1 qbr = brf := (funext fun j => (hs.a (gqbr.S hM) rfl j).1).trans af_qbr
            replace ex_3 := ex_3.trans (hs.a (gqrg.S hM) rfl _).1.symm
            replace ex_5 := ex_5.trans (hs.a (gqrg.S hM) rfl _).1.symm
            replace ex_9 := ex_9.trans (hs.a (gqdb.S hM) rfl _).1.symm
            replace hM := hM.tr (hs.mono (by decide))
            have f_52 : h_51.2.1 x 87 = i1 := by rw [eh_51]; exact hx_pi_at _ _ _ _
            refine lv_iconst (v := 0) hx hb dX10_offers_79 (by decide) ?_
            refine lv_istore (lv' := [(5, .int (0 : Int32)), (4, .int x_9), (3, .int x_9), (0, .ref x), (1, .int i1), (2, .int i2)]) hx hb dX10_offers_80 hl (by decide) rfl (fun ls hl => ?_)
            have loop82 : ∀ (n82 : Nat) (iv82_5 : Int32) (ia82_qbr : Nat → Int32) (H : Heap) (locs : List Loc) (hL1 : List Nat) (hl1 : hx_h), 0 ≤ iv82_5.toInt → iv82_5.toInt ≤ 4 → (∀ k : Nat, (k : Int) < iv82_5.toInt → ia82_qbr k = rgf k) → ∀ (ls : Array Slot), 4 - iv82_5.toInt < (n82 : Int) → hx_W T_tb (P_ty dA) (dC, dI) vwCl (hx_A L sz) s.heap hL1 hl1 s H locs → hx_T T_tb hL1 hl1 → hx_S T_tb [(10, 86), (10, 87), (110, 0)] L h hL1 hl1 → hl1.2.1 x 86 = x_9 → hl1.2.1 x 87 = i1 → hl1.2.1 qbr = ia82_qbr → lv_has ls 6 [(5, .int iv82_5), (4, .int x_9), (3, .int x_9), (0, .ref x), (1, .int i1), (2, .int i2)] → W p l e ({ frames := 0, cells := 0, slots := 0, locals := 0 }) s m ([.ref x, .int i1, .int i2] : List Value).toArray below meth c H locs 0 0 (MQ below (va_Qv (fun (u : List Nat × hx_h) => (∃ (bl1 : Int32) (bs1 : Int32) (brf1 : Nat → Int32), u.2.2.1 x 86 = bl1 ∧ u.2.2.1 x 87 = bs1 ∧ u.2.2.1 qbr = brf1 ∧ (hz_SR (hz_of i1.toInt (hz_mi i2.toInt (V (40 * g (i1.toInt - 1).toNat + g 0))) g o) bl1.toInt bs1.toInt brf1)) ∧ hx_T T_tb u.1 u.2 ∧ hx_S T_tb [(10, 86), (10, 87), (110, 0)] L h u.1 u.2) (hx_E T_tb (P_ty dA) (dC, dI) vwCl (hx_A L sz)) (hx_A L sz)) ([.ref x, .int i1, .int i2] : List Value).toArray s 0 0 (hx_A L sz)) (F0 m 82 ls []) := by
              intro n82
              induction n82 with
              | zero => intro iv82_5 ia82_qbr H locs hL1 hl1 bliv82_5 buiv82_5 vi82_0 ls hn82; exfalso; omega
              | succ n82 ih82 =>
                intro iv82_5 ia82_qbr H locs hL1 hl1 bliv82_5 buiv82_5 vi82_0 ls hn82 hW hT hM f_50 f_52 nia82_qbr hl
                refine lv_iload hx hb dX10_offers_82 (lv_at hl 0 rfl) ?_
                refine lv_iload_n hx hb dX10_offers_84 rfl (lv_at hl 4 rfl) ?_
                refine hb_icmp_ge (zx := iv82_5.toInt) (zy := i1.toInt) (tgt := 108) hx hb rfl rfl dX10_offers_85 (by decide) (fun c_53 => ?_) (fun c_53 => ?_)
                · skip
                  exact hx_retv hx hb hr hlk hW ⟨⟨x_9, i1, ia82_qbr, f_50, f_52, nia82_qbr, (by rw [← hmi9]; exact hz_SR_y hSR (by omega) rfl rfl ⟨by omega, by omega⟩ (fun i hi => by rw [vi82_0 i (by omega)]; exact hg i hi))⟩, hT, hM⟩ dX10_offers_108
                · skip
                  refine lv_aload_n hx hb dX10_offers_88 rfl (lv_at hl 3 rfl) ?_
                  refine hk_getr hx hb hts hC_10 hown hW (gx.S hM) tt_10 88 (by decide) rfl kw_1231 ⟨rfl, rfl, rfl⟩ ((hM.o gx trivial rfl).2.trans f_x_88) dX10_offers_89 ?_
                  refine lv_iload hx hb dX10_offers_92 (lv_at hl 0 rfl) ?_
                  refine lv_aload_n hx hb dX10_offers_94 rfl (lv_at hl 3 rfl) ?_
                  refine hk_getr hx hb hts hC_10 hown hW (gx.S hM) tt_10 89 (by decide) rfl kw_1232 ⟨rfl, rfl, rfl⟩ ((hM.o gx trivial rfl).2.trans f_x_89) dX10_offers_95 ?_
                  refine lv_iload hx hb dX10_offers_98 (lv_at hl 0 rfl) ?_
                  refine hx_iald hx hb hW hT (gqrg.S hM) tt_111 rfl ⟨by omega, by omega⟩ dX10_offers_100 (fun x_54 ex_54 lx_54 ux_54 => ?_)
                  have ax_54 : x_54 = rgf iv82_5.toNatClampNeg := ex_54.trans (congrFun (hx_afS hM gqrg rfl af_qrg) _)
                  have nia82_qbrO := nia82_qbr
                  refine hx_iast hx hb hW hT (hx_S.rf (M := [(110, 0)])) (gqbr.S hM) tt_110 rfl ⟨by omega, by omega⟩ rfl ⟨by omega, by omega⟩ (List.mem_singleton.mpr rfl) dX10_offers_101 (fun H locs h_55 eh_55 hW hT hs => ?_)
                  replace f_50 := (hs.o (gx.S hM) trivial rfl).1.trans f_50
                  replace f_52 := (hs.o (gx.S hM) trivial rfl).1.trans f_52
                  replace ex_54 := ex_54.trans (hs.a (gqrg.S hM) rfl _).1.symm
                  replace hM := hM.tr (hs.mono (by decide))
                  obtain ⟨fa_56, dfa_56⟩ : ∃ g : Nat → Int32, g = hx_up ia82_qbr iv82_5.toNatClampNeg x_54 := ⟨_, rfl⟩
                  have nfa_56 : h_55.2.1 qbr = fa_56 := by rw [eh_55, dfa_56, ← nia82_qbrO]; exact hx_pi_fun _ _ _ _
                  obtain ⟨x_57, ex_57⟩ : ∃ y : Int32, y = iv82_5 + Int32.ofInt 1 := ⟨_, rfl⟩
                  have rg_58 := i32_r iv82_5
                  have zx_57 : x_57.toInt = iv82_5.toInt + (1) := by rw [ex_57]; exact i32_add rfl (by decide) (by omega) (by omega)
                  refine lv_iinc (v := x_57) (lv' := [(5, .int x_57), (4, .int x_9), (3, .int x_9), (0, .ref x), (1, .int i1), (2, .int i2)]) hx hb dX10_offers_102 hl (k := 0) rfl ex_57.symm (by decide) rfl (fun ls hl => ?_)
                  refine lv_goto (tgt := 82) hx hb dX10_offers_105 (by decide) ?_
                  exact ih82 x_57 fa_56 _ _ hL1 h_55 (by omega) (by omega) (hx_cp_s vi82_0 dfa_56 ax_54 rfl (by omega) zx_57) ls (by omega) hW hT hM f_50 f_52 nfa_56 (lv_sub hl [0, 1, 2, 3, 4, 5] rfl)
            have zk_0 : (0 : Int32).toInt = 0 := by decide
            exact loop82 5 (0 : Int32) brf _ _ L h_51 (by decide) (by decide) (fun k hk => by omega) ls (by omega) hW hT hM f_50 f_52 af_qbr hl
          · skip
            exact hx_retv hx hb hr hlk hW ⟨⟨bl0, bs0, brf, f_x_86, f_x_87, af_qbr, (by rw [← hmi9]; exact hz_SR_n hSR (by omega))⟩, hT, hM⟩ dX10_offers_67
