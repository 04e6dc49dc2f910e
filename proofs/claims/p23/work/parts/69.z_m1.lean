
set_option maxHeartbeats 4000000 in
set_option maxRecDepth 100000 in
theorem t_X2_costsBy_v (l : Launch) (dC : Nat → ClassId) (dI : Nat → Nat → Nat) (dA : Nat → ClassId) (L : List Nat) (h : hx_h) (sz : Nat) (x : Nat) (v1 : Nat) (i2 : Int32) (hT : hx_T T_tb L h) (gx : hx_g L h x 2) (gv1 : hx_g L h v1 0) (qt : Nat) (gqt : hx_g L h qt 11) (f_v1_2 : h.2.2 v1 2 = some qt) (tf : Nat → Int32) (af_qt : h.2.1 qt = tf) (t0 : Int32) (f_x_9 : h.2.1 x 9 = t0) (R : Nat → Int) (hR : hv_rC tf = R) (hRb : ∀ k, 0 ≤ R k ∧ R k ≤ 9999) (ht0 : 0 ≤ t0.toInt ∧ t0.toInt ≤ 512) : Met l yX2_costsBy (Cond.code yX2_costsBy cX2_costsBy 4 (some .int) :: hx_all) ({ frames := 0, cells := 0, slots := 0, locals := 0 }) (va_Pc [.ref x, .ref v1, .int i2] (hx_B T_tb (P_ty dA) (dC, dI) vwCl L h sz)) (va_Qi (fun (r : Int32) (u : List Nat × hx_h) => (((i2.toInt ≠ 0 → r.toInt = t0.toInt * R 9 + R 10 + R 11) ∧ (i2.toInt = 0 → r.toInt = t0.toInt * R 9 + R 10)) ∧ (0 ≤ r.toInt ∧ r.toInt ≤ 5139486)) ∧ hx_T T_tb u.1 u.2 ∧ hx_S T_tb [] L h u.1 u.2) (hx_E T_tb (P_ty dA) (dC, dI) vwCl (hx_A L sz)) (hx_A L sz)) 0 0 (hx_A L sz) := by
  refine hx_met (lv := [(0, .ref x), (1, .ref v1), (2, .int i2)]) (by decide +kernel) rfl (Nat.le_of_ble_eq_true rfl) rfl ?_
  intro p e s m below meth c hx hb hml hr hlk hts0 hown hin hsz hW ls hl
  have hts : ∀ w ∈ hx_all, w.before _ s = true := fun w hw => hts0 w (List.mem_cons_of_mem _ hw)
  have hown : s.vm.findClass "SmallCourt$Claim" = some m.cls := hown
  have hM : hx_S T_tb [] L h L h := hx_S.rf
  have b_t0 := hT.gi gx tt_2 (k := 9) rfl
  rw [f_x_9] at b_t0
  have b_t0 : -2147483648 ≤ t0.toInt ∧ t0.toInt ≤ 2147483647 := b_t0
  refine lv_aload_n hx hb dX2_costsBy_0 rfl (lv_at hl 0 rfl) ?_
  refine hk_geti hx hb hts hC_2 hown hW (gx.S hM) tt_2 9 (by decide) rfl kw_744 ⟨rfl, rfl, rfl⟩ ((hM.o gx trivial rfl).1.trans f_x_9) dX2_costsBy_1 ?_
  refine lv_aload_n hx hb dX2_costsBy_4 rfl (lv_at hl 1 rfl) ?_
  refine hk_getr hx hb hts hC_0 hown hW (gv1.S hM) tt_0 2 (by decide) rfl kw_167 ⟨rfl, rfl, rfl⟩ ((hM.o gv1 trivial rfl).2.trans f_v1_2) dX2_costsBy_5 ?_
  refine lv_bipush (v := 10) hx hb dX2_costsBy_8 (by decide) ?_
  refine hx_iald hx hb hW hT (gqt.S hM) tt_11 rfl (by decide) dX2_costsBy_10 (fun x_1 ex_1 lx_1 ux_1 => ?_)
  have ax_1 : x_1 = tf (10 : Int32).toNatClampNeg := ex_1.trans (congrFun (hx_afS hM gqt rfl af_qt) _)
  have hR_2 : x_1.toInt = R 9 := by rw [← hR, ax_1, show (10 : Int32).toNatClampNeg = 10 from by decide]; rfl
  have hR_2b := hRb 9
  rw [← hR_2] at hR_2b
  refine lv_imul hx hb dX2_costsBy_11 ?_
  refine lv_topi (fun x_3 ex_3 => ?_)
  have mx_3 : t0.toInt = 0 → x_3.toInt = 0 := fun z => by rw [ex_3]; exact hx_mul0 z
  obtain ⟨zm_4, zm_4l, zm_4h⟩ := hv_mul9 ⟨by omega, by omega⟩ ⟨by omega, by omega⟩ ex_3
  refine lv_aload_n hx hb dX2_costsBy_12 rfl (lv_at hl 1 rfl) ?_
  refine hk_getr hx hb hts hC_0 hown hW (gv1.S hM) tt_0 2 (by decide) rfl kw_167 ⟨rfl, rfl, rfl⟩ ((hM.o gv1 trivial rfl).2.trans f_v1_2) dX2_costsBy_13 ?_
  refine lv_bipush (v := 11) hx hb dX2_costsBy_16 (by decide) ?_
  refine hx_iald hx hb hW hT (gqt.S hM) tt_11 rfl (by decide) dX2_costsBy_18 (fun x_5 ex_5 lx_5 ux_5 => ?_)
  have ax_5 : x_5 = tf (11 : Int32).toNatClampNeg := ex_5.trans (congrFun (hx_afS hM gqt rfl af_qt) _)
  have hR_6 : x_5.toInt = R 10 := by rw [← hR, ax_5, show (11 : Int32).toNatClampNeg = 11 from by decide]; rfl
  have hR_6b := hRb 10
  rw [← hR_6] at hR_6b
  refine lv_iadd hx hb dX2_costsBy_19 ?_
  have rg_7 := i32_r x_3
  have rg_8 := i32_r x_5
  refine lv_topi (fun x_9 ex_9 => ?_)
  have zx_9 : x_9.toInt = x_3.toInt + x_5.toInt := by rw [ex_9]; exact i32_add rfl rfl (by omega) (by omega)
  refine lv_istore_n (lv' := [(3, .int x_9), (0, .ref x), (1, .ref v1), (2, .int i2)]) hx hb dX2_costsBy_20 rfl hl (by decide) rfl (fun ls hl => ?_)
  refine lv_iload_n hx hb dX2_costsBy_21 rfl (lv_at hl 3 rfl) ?_
  refine hb_if_eq (zx := i2.toInt) (tgt := 37) hx hb rfl dX2_costsBy_22 (by decide) (fun c_10 => ?_) (fun c_10 => ?_)
  · skip
    refine lv_iload_n hx hb dX2_costsBy_37 rfl (lv_at hl 0 rfl) ?_
    exact hx_reti hx hb hr hlk hW ⟨⟨⟨fun z => by exfalso; omega, fun _ => by rw [← hR_2, ← hR_6]; omega⟩, by omega, by omega⟩, hT, hM⟩ dX2_costsBy_38
  · skip
    refine lv_iload_n hx hb dX2_costsBy_25 rfl (lv_at hl 0 rfl) ?_
    refine lv_aload_n hx hb dX2_costsBy_26 rfl (lv_at hl 2 rfl) ?_
    refine hk_getr hx hb hts hC_0 hown hW (gv1.S hM) tt_0 2 (by decide) rfl kw_167 ⟨rfl, rfl, rfl⟩ ((hM.o gv1 trivial rfl).2.trans f_v1_2) dX2_costsBy_27 ?_
    refine lv_bipush (v := 12) hx hb dX2_costsBy_30 (by decide) ?_
    refine hx_iald hx hb hW hT (gqt.S hM) tt_11 rfl (by decide) dX2_costsBy_32 (fun x_11 ex_11 lx_11 ux_11 => ?_)
    have ax_11 : x_11 = tf (12 : Int32).toNatClampNeg := ex_11.trans (congrFun (hx_afS hM gqt rfl af_qt) _)
    have hR_12 : x_11.toInt = R 11 := by rw [← hR, ax_11, show (12 : Int32).toNatClampNeg = 12 from by decide]; rfl
    have hR_12b := hRb 11
    rw [← hR_12] at hR_12b
    refine lv_iadd hx hb dX2_costsBy_33 ?_
    have rg_13 := i32_r x_9
    have rg_14 := i32_r x_11
    refine lv_topi (fun x_15 ex_15 => ?_)
    have zx_15 : x_15.toInt = x_9.toInt + x_11.toInt := by rw [ex_15]; exact i32_add rfl rfl (by omega) (by omega)
    refine lv_goto (tgt := 38) hx hb dX2_costsBy_34 (by decide) ?_
    exact hx_reti hx hb hr hlk hW ⟨⟨⟨fun _ => by rw [← hR_2, ← hR_6, ← hR_12]; omega, fun z => by exfalso; omega⟩, by omega, by omega⟩, hT, hM⟩ dX2_costsBy_38


set_option maxHeartbeats 4000000 in
set_option maxRecDepth 100000 in
theorem t_X9_other_v (l : Launch) (dC : Nat → ClassId) (dI : Nat → Nat → Nat) (dA : Nat → ClassId) (L : List Nat) (h : hx_h) (sz : Nat) (x : Nat) (i1 : Int32) (i2 : Int32) (hT : hx_T T_tb L h) (gx : hx_g L h x 9) (qa : Nat) (gqa : hx_g L h qa 43) (f_x_5 : h.2.2 x 5 = some qa) (w : Nat) (gw : hx_g L h w 0) (f_x_4 : h.2.2 x 4 = some w) (qh : Nat) (gqh : hx_g L h qh 46) (f_x_12 : h.2.2 x 12 = some qh) (qc : Nat) (gqc : hx_g L h qc 45) (f_x_10 : h.2.2 x 10 = some qc) (qp : Nat) (gqp : hx_g L h qp 44) (f_x_7 : h.2.2 x 7 = some qp)  (cn0 : Int32) (f_x_11 : h.2.1 x 11 = cn0) (pn0 : Int32) (f_x_8 : h.2.1 x 8 = pn0) (m0 : Int32) (f_x_13 : h.2.1 x 13 = m0) (a0 : Int32) (f_x_6 : h.2.1 x 6 = a0) (bnf : Nat → Int32) (cl_qp_1 : hx_col 40 h qp 1 = bnf) (smf : Nat → Int32) (cl_qc_6 : hx_col 100 h qc 6 = smf) (frf : Nat → Int32) (cl_qc_7 : hx_col 100 h qc 7 = frf) (flf : Nat → Int32) (cl_qc_8 : hx_col 100 h qc 8 = flf) (tf : Nat → Int32) (cl_qc_9 : hx_col 100 h qc 9 = tf) (nu_qp : hx_num 40 h qp 0 (pn0.toInt)) (nu_qc : hx_num 100 h qc 0 (cn0.toInt)) (agf byf : Nat → Int32) (hDF : hw_DF h qc qp 2 agf cn0.toInt) (hDP : hw_DF h qc qp 1 byf cn0.toInt) (hof cF : Nat → Int32) (A : Nat → hv_act) (hRA : hv_RA h qa w a0.toInt A) (hFX : hv_FX 8 4 h qc cF cn0.toInt) (hHL : hv_HL h qh qc hof m0.toInt cn0.toInt) (hAB : ∀ j : Nat, (∀ k, 0 ≤ (A j).2.1 k ∧ (A j).2.1 k ≤ 9999) ∧ hv_OK (A j).2.2) (htb : ∀ c, c < 100 → 0 ≤ (tf c).toInt ∧ (tf c).toInt ≤ 512) (pf_x_6 : ∀ j : Nat, (j : Int) < (h.2.1 x 6).toInt → h.2.2 qa j ≠ none) (pf_x_13 : ∀ j : Nat, (j : Int) < (h.2.1 x 13).toInt → h.2.2 qh j ≠ none) (pf_x_11 : ∀ j : Nat, (j : Int) < (h.2.1 x 11).toInt → h.2.2 qc j ≠ none) (pf_x_8 : ∀ j : Nat, (j : Int) < (h.2.1 x 8).toInt → h.2.2 qp j ≠ none) : Met l yX9_other (Cond.code yX9_other cX9_other 8 (some .int) :: hx_all) ({ frames := 3, cells := 0, slots := 0, locals := 71 }) (va_Pc [.ref x, .int i1, .int i2] (hx_B T_tb (P_ty dA) (dC, dI) vwCl L h sz)) (va_Qi (fun (r : Int32) (u : List Nat × hx_h) => (hv_OT (hv_oJ cF hof frf bnf agf smf byf flf (A (i1.toInt + 1).toNat) cn0.toInt.toNat) (fun j => (tf (hof j).toNatClampNeg).toInt) (A (i1.toInt + 1).toNat).2.1 i1.toInt a0.toInt i2.toInt m0.toInt r.toInt) ∧ hx_T T_tb u.1 u.2 ∧ hx_S T_tb [] L h u.1 u.2) (hx_E T_tb (P_ty dA) (dC, dI) vwCl (hx_A L sz)) (hx_A L sz)) 0 0 (hx_A L sz) := by
  refine hx_met (lv := [(0, .ref x), (1, .int i1), (2, .int i2)]) (by decide +kernel) rfl (Nat.le_of_ble_eq_true rfl) rfl ?_
  intro p e s m below meth c hx hb hml hr hlk hts0 hown hin hsz hW ls hl
  have hts : ∀ w ∈ hx_all, w.before _ s = true := fun w hw => hts0 w (List.mem_cons_of_mem _ hw)
  have hown : s.vm.findClass "SmallCourt" = some m.cls := hown
  have hM : hx_S T_tb [] L h L h := hx_S.rf
  have b_cn0 := hT.gi gx tt_9 (k := 11) rfl
  rw [f_x_11] at b_cn0
  have b_cn0 : 0 ≤ cn0.toInt ∧ cn0.toInt ≤ 100 := b_cn0
  have b_pn0 := hT.gi gx tt_9 (k := 8) rfl
  rw [f_x_8] at b_pn0
  have b_pn0 : 0 ≤ pn0.toInt ∧ pn0.toInt ≤ 40 := b_pn0
  have b_m0 := hT.gi gx tt_9 (k := 13) rfl
  rw [f_x_13] at b_m0
  have b_m0 : 0 ≤ m0.toInt ∧ m0.toInt ≤ 100 := b_m0
  have b_a0 := hT.gi gx tt_9 (k := 6) rfl
  rw [f_x_6] at b_a0
  have b_a0 : 0 ≤ a0.toInt ∧ a0.toInt ≤ 8 := b_a0
  refine lv_iload_n hx hb dX9_other_0 rfl (lv_at hl 1 rfl) ?_
  refine lv_iconst (v := -1) hx hb dX9_other_1 (by decide) ?_
  refine hb_icmp_lt (zx := i1.toInt) (zy := (-1)) (tgt := 24) hx hb rfl (by decide) dX9_other_2 (by decide) (fun c_1 => ?_) (fun c_1 => ?_)
  · skip
    refine lv_iconst (v := -1) hx hb dX9_other_24 (by decide) ?_
    exact hx_reti hx hb hr hlk hW ⟨(Or.inl ⟨by omega, by decide⟩), hT, hM⟩ dX9_other_25
  · skip
    refine lv_iload_n hx hb dX9_other_5 rfl (lv_at hl 1 rfl) ?_
    refine lv_aload_n hx hb dX9_other_6 rfl (lv_at hl 0 rfl) ?_
    refine hk_geti hx hb hts hC_9 hown hW gx tt_9 6 (by decide) rfl kw_370 ⟨rfl, rfl, rfl⟩ f_x_6 dX9_other_7 ?_
    refine hb_icmp_ge (zx := i1.toInt) (zy := a0.toInt) (tgt := 24) hx hb rfl rfl dX9_other_10 (by decide) (fun c_2 => ?_) (fun c_2 => ?_)
    · skip
      refine lv_iconst (v := -1) hx hb dX9_other_24 (by decide) ?_
      exact hx_reti hx hb hr hlk hW ⟨(Or.inl ⟨by omega, by decide⟩), hT, hM⟩ dX9_other_25
    · skip
      refine lv_iload_n hx hb dX9_other_13 rfl (lv_at hl 2 rfl) ?_
      refine lv_iconst (v := 1) hx hb dX9_other_14 (by decide) ?_
      refine hb_icmp_lt (zx := i2.toInt) (zy := 1) (tgt := 24) hx hb rfl (by decide) dX9_other_15 (by decide) (fun c_3 => ?_) (fun c_3 => ?_)
      · skip
        refine lv_iconst (v := -1) hx hb dX9_other_24 (by decide) ?_
        exact hx_reti hx hb hr hlk hW ⟨(Or.inl ⟨by omega, by decide⟩), hT, hM⟩ dX9_other_25
      · skip
        refine lv_iload_n hx hb dX9_other_18 rfl (lv_at hl 2 rfl) ?_
        refine lv_bipush (v := 6) hx hb dX9_other_19 (by decide) ?_
        refine hb_icmp_le (zx := i2.toInt) (zy := 6) (tgt := 26) hx hb rfl (by decide) dX9_other_21 (by decide) (fun c_4 => ?_) (fun c_4 => ?_)
        · skip
          refine lv_iload_n hx hb dX9_other_26 rfl (lv_at hl 1 rfl) ?_
          refine lv_iconst (v := -1) hx hb dX9_other_27 (by decide) ?_
          refine hb_icmp_ne (zx := i1.toInt) (zy := (-1)) (tgt := 38) hx hb rfl (by decide) dX9_other_28 (by decide) (fun c_5 => ?_) (fun c_5 => ?_)
          · skip
            refine lv_aload_n hx hb dX9_other_38 rfl (lv_at hl 0 rfl) ?_
            refine hk_getr hx hb hts hC_9 hown hW gx tt_9 5 (by decide) rfl kw_369 ⟨rfl, rfl, rfl⟩ f_x_5 dX9_other_39 ?_
            refine lv_iload_n hx hb dX9_other_42 rfl (lv_at hl 1 rfl) ?_
            refine hx_aaldN hx hb hW hT gqa tt_43 (t1 := 0) rfl ⟨by omega, by omega⟩ (pf_x_6 _ (by rw [f_x_6]; exact hx_tnI (by omega) (by omega))) dX9_other_43 (fun q_6 fq_6 gq_6 => ?_)
            have hAQo : hv_AQ h q_6 i1.toInt (A (i1.toInt + 1).toNat) := by have h8 := hRA.2 i1.toNatClampNeg (by unfold Int32.toNatClampNeg; omega) q_6 fq_6; rw [show (i1.toInt + 1).toNat = i1.toNatClampNeg + 1 by unfold Int32.toNatClampNeg; omega, show i1.toInt = ((i1.toNatClampNeg : Nat) : Int) by unfold Int32.toNatClampNeg; omega]; exact h8
            refine lv_astore_n (lv' := [(3, .ref q_6), (0, .ref x), (1, .int i1), (2, .int i2)]) hx hb dX9_other_44 rfl hl (by decide) rfl (fun ls hl => ?_)
            refine lv_iconst (v := 0) hx hb dX9_other_45 (by decide) ?_
            refine lv_istore (lv' := [(4, .int (0 : Int32)), (3, .ref q_6), (0, .ref x), (1, .int i1), (2, .int i2)]) hx hb dX9_other_46 hl (by decide) rfl (fun ls hl => ?_)
            refine lv_iconst (v := 0) hx hb dX9_other_48 (by decide) ?_
            refine lv_istore (lv' := [(5, .int (0 : Int32)), (4, .int (0 : Int32)), (3, .ref q_6), (0, .ref x), (1, .int i1), (2, .int i2)]) hx hb dX9_other_49 hl (by decide) rfl (fun ls hl => ?_)
            refine lv_iconst (v := 0) hx hb dX9_other_51 (by decide) ?_
            refine lv_istore (lv' := [(6, .int (0 : Int32)), (5, .int (0 : Int32)), (4, .int (0 : Int32)), (3, .ref q_6), (0, .ref x), (1, .int i1), (2, .int i2)]) hx hb dX9_other_52 hl (by decide) rfl (fun ls hl => ?_)
            have loop54 : ∀ (n54 : Nat) (iv54_4 iv54_5 iv54_6 : Int32) (H : Heap) (locs : List Loc) (hL1 : List Nat) (hl1 : hx_h), 0 ≤ iv54_4.toInt → iv54_4.toInt ≤ 100 → 0 ≤ iv54_5.toInt → iv54_5.toInt ≤ 513948600 → 0 ≤ iv54_6.toInt → iv54_6.toInt ≤ 100 → (iv54_4.toInt = hv_oc (hv_oJ cF hof frf bnf agf smf byf flf (A (i1.toInt + 1).toNat) cn0.toInt.toNat) i2.toInt (iv54_6.toInt).toNat) → (iv54_5.toInt = hv_os (hv_oJ cF hof frf bnf agf smf byf flf (A (i1.toInt + 1).toNat) cn0.toInt.toNat) (fun j => (tf (hof j).toNatClampNeg).toInt) (A (i1.toInt + 1).toNat).2.1 (iv54_6.toInt).toNat) → (iv54_4.toInt ≤ iv54_6.toInt) → (iv54_5.toInt ≤ 5139486 * iv54_6.toInt) → (iv54_6.toInt ≤ m0.toInt) → ∀ (ls : Array Slot), 100 - iv54_6.toInt < (n54 : Int) → hx_W T_tb (P_ty dA) (dC, dI) vwCl (hx_A L sz) s.heap hL1 hl1 s H locs → hx_T T_tb hL1 hl1 → hx_S T_tb [] L h hL1 hl1 → hl1.2.2 x 5 = some qa → hl1.2.2 x 4 = some w → hl1.2.2 x 12 = some qh → hl1.2.2 x 10 = some qc → hl1.2.2 x 7 = some qp → hl1.2.1 x 11 = cn0 → hl1.2.1 x 8 = pn0 → hl1.2.1 x 13 = m0 → hl1.2.1 x 6 = a0 → hx_g hL1 hl1 x 9 → hx_g hL1 hl1 qa 43 → hx_g hL1 hl1 w 0 → hx_g hL1 hl1 qh 46 → hx_g hL1 hl1 qc 45 → hx_g hL1 hl1 qp 44 → hx_g hL1 hl1 q_6 0 → (∀ j : Nat, (j : Int) < (hl1.2.1 x 6).toInt → hl1.2.2 qa j ≠ none) → (∀ j : Nat, (j : Int) < (hl1.2.1 x 13).toInt → hl1.2.2 qh j ≠ none) → (∀ j : Nat, (j : Int) < (hl1.2.1 x 11).toInt → hl1.2.2 qc j ≠ none) → (∀ j : Nat, (j : Int) < (hl1.2.1 x 8).toInt → hl1.2.2 qp j ≠ none) → hx_col 40 hl1 qp 1 = bnf → hx_col 100 hl1 qc 6 = smf → hx_col 100 hl1 qc 7 = frf → hx_col 100 hl1 qc 8 = flf → hx_col 100 hl1 qc 9 = tf → hx_num 40 hl1 qp 0 (pn0.toInt) → hx_num 100 hl1 qc 0 (cn0.toInt) → hl1.2.2 qa i1.toNatClampNeg = some q_6 → hw_DF hl1 qc qp 2 agf cn0.toInt → hw_DF hl1 qc qp 1 byf cn0.toInt → hv_RA hl1 qa w a0.toInt A → hv_FX 8 4 hl1 qc cF cn0.toInt → hv_HL hl1 qh qc hof m0.toInt cn0.toInt → hv_AQ hl1 q_6 i1.toInt (A (i1.toInt + 1).toNat) → lv_has ls 8 [(6, .int iv54_6), (5, .int iv54_5), (4, .int iv54_4), (3, .ref q_6), (0, .ref x), (1, .int i1), (2, .int i2)] → W p l e ({ frames := 3, cells := 0, slots := 0, locals := 71 }) s m ([.ref x, .int i1, .int i2] : List Value).toArray below meth c H locs 0 0 (MQ below (va_Qi (fun (r : Int32) (u : List Nat × hx_h) => (hv_OT (hv_oJ cF hof frf bnf agf smf byf flf (A (i1.toInt + 1).toNat) cn0.toInt.toNat) (fun j => (tf (hof j).toNatClampNeg).toInt) (A (i1.toInt + 1).toNat).2.1 i1.toInt a0.toInt i2.toInt m0.toInt r.toInt) ∧ hx_T T_tb u.1 u.2 ∧ hx_S T_tb [] L h u.1 u.2) (hx_E T_tb (P_ty dA) (dC, dI) vwCl (hx_A L sz)) (hx_A L sz)) ([.ref x, .int i1, .int i2] : List Value).toArray s 0 0 (hx_A L sz)) (F0 m 54 ls []) := by
              intro n54
              induction n54 with
              | zero => intro iv54_4 iv54_5 iv54_6 H locs hL1 hl1 bliv54_4 buiv54_4 bliv54_5 buiv54_5 bliv54_6 buiv54_6 vi54_0 vi54_1 vi54_2 vi54_3 vi54_4 ls hn54; exfalso; omega
              | succ n54 ih54 =>
                intro iv54_4 iv54_5 iv54_6 H locs hL1 hl1 bliv54_4 buiv54_4 bliv54_5 buiv54_5 bliv54_6 buiv54_6 vi54_0 vi54_1 vi54_2 vi54_3 vi54_4 ls hn54 hW hT hM f_x_5 f_x_4 f_x_12 f_x_10 f_x_7 f_x_11 f_x_8 f_x_13 f_x_6 gx gqa gw gqh gqc gqp gq_6 pf_x_6 pf_x_13 pf_x_11 pf_x_8 cl_qp_1 cl_qc_6 cl_qc_7 cl_qc_8 cl_qc_9 nu_qp nu_qc fq_6 hDF hDP hRA hFX hHL hAQo hl
                refine lv_iload hx hb dX9_other_54 (lv_at hl 0 rfl) ?_
                refine lv_aload_n hx hb dX9_other_56 rfl (lv_at hl 4 rfl) ?_
                refine hk_geti hx hb hts hC_9 hown hW gx tt_9 13 (by decide) rfl kw_377 ⟨rfl, rfl, rfl⟩ f_x_13 dX9_other_57 ?_
                refine hb_icmp_ge (zx := iv54_6.toInt) (zy := m0.toInt) (tgt := 126) hx hb rfl rfl dX9_other_60 (by decide) (fun c_7 => ?_) (fun c_7 => ?_)
                · skip
                  refine lv_iload_n hx hb dX9_other_126 rfl (lv_at hl 6 rfl) ?_
                  refine lv_iconst (v := 5) hx hb dX9_other_127 (by decide) ?_
                  refine hb_icmp_le (zx := i2.toInt) (zy := 5) (tgt := 136) hx hb rfl (by decide) dX9_other_128 (by decide) (fun c_8 => ?_) (fun c_8 => ?_)
                  · skip
                    refine lv_iload hx hb dX9_other_136 (lv_at hl 2 rfl) ?_
                    exact hx_reti hx hb hr hlk hW ⟨(Or.inr ⟨by omega, Or.inr ⟨by omega, (by have h8 := vi54_0; rw [show iv54_6.toInt.toNat = m0.toInt.toNat by omega] at h8; exact h8)⟩⟩), hT, hM⟩ dX9_other_138
                  · skip
                    refine lv_iload hx hb dX9_other_131 (lv_at hl 1 rfl) ?_
                    refine lv_goto (tgt := 138) hx hb dX9_other_133 (by decide) ?_
                    exact hx_reti hx hb hr hlk hW ⟨(Or.inr ⟨by omega, Or.inl ⟨by omega, (by have h8 := vi54_1; rw [show iv54_6.toInt.toNat = m0.toInt.toNat by omega] at h8; exact h8)⟩⟩), hT, hM⟩ dX9_other_138
                · skip
                  refine lv_aload_n hx hb dX9_other_63 rfl (lv_at hl 4 rfl) ?_
                  refine lv_aload_n hx hb dX9_other_64 rfl (lv_at hl 4 rfl) ?_
                  refine hk_getr hx hb hts hC_9 hown hW gx tt_9 12 (by decide) rfl kw_376 ⟨rfl, rfl, rfl⟩ f_x_12 dX9_other_65 ?_
                  refine lv_iload hx hb dX9_other_68 (lv_at hl 0 rfl) ?_
                  refine hx_aaldN hx hb hW hT gqh tt_46 (t1 := 2) rfl ⟨by omega, by omega⟩ (pf_x_13 _ (by rw [f_x_13]; exact hx_tnI (by omega) (by omega))) dX9_other_70 (fun q_9 fq_9 gq_9 => ?_)
                  obtain ⟨ho_10o, ho_10a, ho_10b, ho_10c, ho_10d⟩ := hHL iv54_6.toNatClampNeg (by unfold Int32.toNatClampNeg; omega) (by unfold Int32.toNatClampNeg; omega)
                  have ho_10e : ho_10o = q_9 := Option.some.inj (ho_10a.symm.trans fq_9)
                  rw [ho_10e] at ho_10d
                  have ho_10b : 0 ≤ (hof iv54_6.toNatClampNeg).toInt := ho_10b
                  have ho_10c : (hof iv54_6.toNatClampNeg).toInt < cn0.toInt := ho_10c
                  have ho_10d : hl1.2.2 qc (hof iv54_6.toNatClampNeg).toNatClampNeg = some q_9 := ho_10d
                  have ho_10u : 0 ≤ (hof iv54_6.toInt.toNat).toInt ∧ (hof iv54_6.toInt.toNat).toInt < cn0.toInt := ⟨ho_10b, ho_10c⟩
                  refine lv_aload_n hx hb dX9_other_71 rfl (lv_at hl 3 rfl) ?_
                  have hTo := hT
                  obtain ⟨q_11, fq_11, gq_11⟩ := hv_rf hT gq_6 tt_0 (k := 2) (u := 11) rfl
                  obtain ⟨q_12, fq_12, gq_12⟩ := hv_rf hT gq_6 tt_0 (k := 3) (u := 12) rfl
                  obtain ⟨q_13, fq_13, gq_13⟩ := hv_rf hT gq_9 tt_2 (k := 4) (u := 20) rfl
                  obtain ⟨fv_14, efv_14⟩ : ∃ y : Int32, y = hl1.2.1 q_6 4 := ⟨_, rfl⟩
                  have bfv_14 := hT.gi gq_6 tt_0 (k := 4) rfl
                  rw [← efv_14] at bfv_14
                  have bfv_14 : 0 ≤ fv_14.toInt ∧ fv_14.toInt ≤ 160 := bfv_14
                  have ffv_14 := efv_14.symm
                  obtain ⟨fa_15, nfa_15⟩ : ∃ g : Nat → Int32, hl1.2.1 q_11 = g := ⟨_, rfl⟩
                  obtain ⟨fa_16, nfa_16⟩ : ∃ g : Nat → Int32, hl1.2.1 q_12 = g := ⟨_, rfl⟩
                  obtain ⟨fa_17, nfa_17⟩ : ∃ g : Nat → Int32, hl1.2.1 q_13 = g := ⟨_, rfl⟩
                  refine hx_goi (hx_runV (As := [.ref q_9, .ref q_6]) (rest := []) ⟨hx, hb, hml, hown, hts⟩ hW gx tt_9 (T := TX9) (N := 20) rfl (t_X9_judgement_v l dC dI dA hL1 hl1 H.size x q_9 q_6 hT gx gq_9 gq_6 qp gqp f_x_7 qc gqc f_x_10 q_11 gq_11 fq_11 q_12 gq_12 fq_12 q_13 gq_13 fq_13 (hof iv54_6.toNatClampNeg) ho_10d ⟨by omega, by omega⟩ fa_15 nfa_15 fa_16 nfa_16 fa_17 nfa_17 cn0 f_x_11 pn0 f_x_8 fv_14 ffv_14 frf cl_qc_7 smf cl_qc_6 flf cl_qc_8 bnf cl_qp_1 nu_qp agf byf hDF hDP (A (i1.toInt + 1).toNat).2.1 (by rw [← nfa_15]; exact hAQo.2.2.1 _ fq_11) (hAB _).1 (A (i1.toInt + 1).toNat).2.2 (hAB _).2 (by have h8 := hAQo.2.2.2 _ fq_12; rw [nfa_16, ffv_14] at h8; exact h8) (by omega) pf_x_8 pf_x_11) (cwV 2 hts (hx_gV kw_830 kw_827 kw_829 kw_28 kw_94) rfl rfl rfl (by decide +kernel) ⟨Nat.le_of_ble_eq_true rfl, Nat.le_of_ble_eq_true rfl⟩) rfl hl.1 rfl (Nat.le_of_ble_eq_true rfl) dX9_other_72 ⟨Nat.le_of_ble_eq_true rfl, Nat.le_of_ble_eq_true rfl⟩) hW (fun r_20 L_18 h_19 H locs p_21 hW => ?_)
                  obtain ⟨hr_22, hT, hs⟩ := p_21
                  replace hT : hx_T T_tb L_18 h_19 := hT
                  replace hs : hx_S T_tb [] hL1 hl1 L_18 h_19 := hs
                  replace f_x_5 := (hs.o gx trivial rfl).2.trans f_x_5
                  replace f_x_4 := (hs.o gx trivial rfl).2.trans f_x_4
                  replace f_x_12 := (hs.o gx trivial rfl).2.trans f_x_12
                  replace f_x_10 := (hs.o gx trivial rfl).2.trans f_x_10
                  replace f_x_7 := (hs.o gx trivial rfl).2.trans f_x_7
                  replace f_x_11 := (hs.o gx trivial rfl).1.trans f_x_11
                  replace f_x_8 := (hs.o gx trivial rfl).1.trans f_x_8
                  replace f_x_13 := (hs.o gx trivial rfl).1.trans f_x_13
                  replace f_x_6 := (hs.o gx trivial rfl).1.trans f_x_6
                  replace fq_11 := (hs.o gq_6 trivial rfl).2.trans fq_11
                  replace fq_12 := (hs.o gq_6 trivial rfl).2.trans fq_12
                  replace fq_13 := (hs.o gq_9 trivial rfl).2.trans fq_13
                  replace ffv_14 := (hs.o gq_6 trivial rfl).1.trans ffv_14
                  replace pf_x_6 : ∀ j : Nat, (j : Int) < (h_19.2.1 x 6).toInt → h_19.2.2 qa j ≠ none := by
                    intro j hj; rw [(hs.o gx trivial rfl).1] at hj; rw [(hs.a gqa rfl j).2]; exact pf_x_6 j hj
                  replace pf_x_13 : ∀ j : Nat, (j : Int) < (h_19.2.1 x 13).toInt → h_19.2.2 qh j ≠ none := by
                    intro j hj; rw [(hs.o gx trivial rfl).1] at hj; rw [(hs.a gqh rfl j).2]; exact pf_x_13 j hj
                  replace pf_x_11 : ∀ j : Nat, (j : Int) < (h_19.2.1 x 11).toInt → h_19.2.2 qc j ≠ none := by
                    intro j hj; rw [(hs.o gx trivial rfl).1] at hj; rw [(hs.a gqc rfl j).2]; exact pf_x_11 j hj
                  replace pf_x_8 : ∀ j : Nat, (j : Int) < (h_19.2.1 x 8).toInt → h_19.2.2 qp j ≠ none := by
                    intro j hj; rw [(hs.o gx trivial rfl).1] at hj; rw [(hs.a gqp rfl j).2]; exact pf_x_8 j hj
                  replace cl_qp_1 : hx_col 40 h_19 qp 1 = bnf := (hx_col_S hs hTo gqp tt_44 tt_4 rfl rfl).trans cl_qp_1
                  replace cl_qc_6 : hx_col 100 h_19 qc 6 = smf := (hx_col_S hs hTo gqc tt_45 tt_2 rfl rfl).trans cl_qc_6
                  replace cl_qc_7 : hx_col 100 h_19 qc 7 = frf := (hx_col_S hs hTo gqc tt_45 tt_2 rfl rfl).trans cl_qc_7
                  replace cl_qc_8 : hx_col 100 h_19 qc 8 = flf := (hx_col_S hs hTo gqc tt_45 tt_2 rfl rfl).trans cl_qc_8
                  replace cl_qc_9 : hx_col 100 h_19 qc 9 = tf := (hx_col_S hs hTo gqc tt_45 tt_2 rfl rfl).trans cl_qc_9
                  replace nu_qp : hx_num 40 h_19 qp 0 (pn0.toInt) := hx_num_S hs hTo gqp tt_44 tt_4 rfl rfl nu_qp
                  replace nu_qc : hx_num 100 h_19 qc 0 (cn0.toInt) := hx_num_S hs hTo gqc tt_45 tt_2 rfl rfl nu_qc
                  replace hDF : hw_DF h_19 qc qp 2 agf cn0.toInt := hw_DF_S hs hTo gqc gqp tt_45 tt_2 rfl rfl rfl hDF
                  replace hDP : hw_DF h_19 qc qp 1 byf cn0.toInt := hw_DF_S hs hTo gqc gqp tt_45 tt_2 rfl rfl rfl hDP
                  replace hRA : hv_RA h_19 qa w a0.toInt A := hv_RA_S hs hTo gqa gw tt_43 tt_0 rfl rfl rfl rfl rfl rfl (by omega) hRA
                  replace hFX : hv_FX 8 4 h_19 qc cF cn0.toInt := hv_FX_S hs hTo gqc tt_45 tt_2 rfl rfl rfl rfl hFX
                  replace hHL : hv_HL h_19 qh qc hof m0.toInt cn0.toInt := hv_HL_S hs gqh gqc rfl rfl hHL
                  replace hAQo : hv_AQ h_19 q_6 i1.toInt (A (i1.toInt + 1).toNat) := hv_AQ_S hs hTo gq_6 tt_0 rfl rfl rfl rfl rfl hAQo
                  replace fq_6 := (hs.a gqa rfl _).2.trans fq_6
                  replace ho_10d := (hs.a gqc rfl _).2.trans ho_10d
                  replace nfa_15 : h_19.2.1 q_11 = fa_15 := (funext fun j => (hs.a gq_11 rfl j).1).trans nfa_15
                  replace nfa_16 : h_19.2.1 q_12 = fa_16 := (funext fun j => (hs.a gq_12 rfl j).1).trans nfa_16
                  replace nfa_17 : h_19.2.1 q_13 = fa_17 := (funext fun j => (hs.a gq_13 rfl j).1).trans nfa_17
                  replace hM := hM.tr (hs.mono (by decide))
                  replace gx := gx.S hs
                  replace gqa := gqa.S hs
                  replace gw := gw.S hs
                  replace gqh := gqh.S hs
                  replace gqc := gqc.S hs
                  replace gqp := gqp.S hs
                  replace gq_6 := gq_6.S hs
                  replace gq_9 := gq_9.S hs
                  replace gq_11 := gq_11.S hs
                  replace gq_12 := gq_12.S hs
                  replace gq_13 := gq_13.S hs
                  have hJ_23 : r_20.toInt = (hv_oJ cF hof frf bnf agf smf byf flf (A (i1.toInt + 1).toNat) cn0.toInt.toNat) iv54_6.toInt.toNat := by rw [hr_22.1]; exact hv_jg_e (hAB _).2 (fun k hk => by have h8 := (hFX).1 (hof iv54_6.toNatClampNeg).toNatClampNeg (by unfold Int32.toNatClampNeg; omega) (by unfold Int32.toNatClampNeg; omega) _ _ ho_10d fq_13 k hk; rw [nfa_17] at h8; exact congrArg Int32.toInt h8)
                  refine lv_istore (lv' := [(7, .int r_20), (6, .int iv54_6), (5, .int iv54_5), (4, .int iv54_4), (3, .ref q_6), (0, .ref x), (1, .int i1), (2, .int i2)]) hx hb dX9_other_75 hl (by decide) rfl (fun ls hl => ?_)
                  refine lv_iload hx hb dX9_other_77 (lv_at hl 3 rfl) ?_
                  refine lv_iload hx hb dX9_other_79 (lv_at hl 0 rfl) ?_
                  refine lv_iload_n hx hb dX9_other_81 rfl (lv_at hl 7 rfl) ?_
                  refine hb_icmp_ne (zx := r_20.toInt) (zy := i2.toInt) (tgt := 89) hx hb rfl rfl dX9_other_82 (by decide) (fun c_24 => ?_) (fun c_24 => ?_)
                  · skip
                    refine lv_iconst (v := 0) hx hb dX9_other_89 (by decide) ?_
                    refine lv_iadd hx hb dX9_other_90 ?_
                    have rg_25 := i32_r iv54_4
                    refine lv_topi (fun x_26 ex_26 => ?_)
                    have zx_26 : x_26.toInt = iv54_4.toInt + 0 := by rw [ex_26]; exact i32_add rfl (by decide) (by omega) (by omega)
                    refine lv_istore (lv' := [(4, .int x_26), (7, .int r_20), (6, .int iv54_6), (5, .int iv54_5), (3, .ref q_6), (0, .ref x), (1, .int i1), (2, .int i2)]) hx hb dX9_other_91 hl (by decide) rfl (fun ls hl => ?_)
                    refine lv_iload hx hb dX9_other_93 (lv_at hl 3 rfl) ?_
                    refine lv_aload_n hx hb dX9_other_95 rfl (lv_at hl 5 rfl) ?_
                    refine hk_getr hx hb hts hC_9 hown hW gx tt_9 12 (by decide) rfl kw_376 ⟨rfl, rfl, rfl⟩ f_x_12 dX9_other_96 ?_
                    refine lv_iload hx hb dX9_other_99 (lv_at hl 2 rfl) ?_
                    refine hx_aaldN hx hb hW hT gqh tt_46 (t1 := 2) rfl ⟨by omega, by omega⟩ (pf_x_13 _ (by rw [f_x_13]; exact hx_tnI (by omega) (by omega))) dX9_other_101 (fun q_27 fq_27 gq_27 => ?_)
                    obtain ⟨ho_28o, ho_28a, ho_28b, ho_28c, ho_28d⟩ := hHL iv54_6.toNatClampNeg (by unfold Int32.toNatClampNeg; omega) (by unfold Int32.toNatClampNeg; omega)
                    have ho_28e : ho_28o = q_27 := Option.some.inj (ho_28a.symm.trans fq_27)
                    rw [ho_28e] at ho_28d
                    have ho_28b : 0 ≤ (hof iv54_6.toNatClampNeg).toInt := ho_28b
                    have ho_28c : (hof iv54_6.toNatClampNeg).toInt < cn0.toInt := ho_28c
                    have ho_28d : h_19.2.2 qc (hof iv54_6.toNatClampNeg).toNatClampNeg = some q_27 := ho_28d
                    have ho_28u : 0 ≤ (hof iv54_6.toInt.toNat).toInt ∧ (hof iv54_6.toInt.toNat).toInt < cn0.toInt := ⟨ho_28b, ho_28c⟩
                    obtain ⟨fv_29, efv_29⟩ : ∃ y : Int32, y = h_19.2.1 q_27 9 := ⟨_, rfl⟩
                    have bfv_29 := hT.gi gq_27 tt_2 (k := 9) rfl
                    rw [← efv_29] at bfv_29
                    have bfv_29 : -2147483648 ≤ fv_29.toInt ∧ fv_29.toInt ≤ 2147483647 := bfv_29
                    have ffv_29 := efv_29.symm
                    have ct_30 : fv_29 = tf (hof iv54_6.toNatClampNeg).toNatClampNeg := by rw [← ffv_29, ← cl_qc_9]; exact (hx_col_at ho_28d (by unfold Int32.toNatClampNeg; omega)).symm
                    have ct_30b := htb (hof iv54_6.toNatClampNeg).toNatClampNeg (by unfold Int32.toNatClampNeg; omega); rw [← ct_30] at ct_30b
                    refine lv_aload_n hx hb dX9_other_102 rfl (lv_at hl 4 rfl) ?_
                    refine lv_iload hx hb dX9_other_103 (lv_at hl 1 rfl) ?_
                    refine lv_iconst (v := 5) hx hb dX9_other_105 (by decide) ?_
                    refine hb_icmp_ne (zx := r_20.toInt) (zy := 5) (tgt := 113) hx hb rfl (by decide) dX9_other_106 (by decide) (fun c_31 => ?_) (fun c_31 => ?_)
                    · skip
                      refine lv_iconst (v := 0) hx hb dX9_other_113 (by decide) ?_
                      have hTo := hT
                      have zc_0 : (0 : Int32).toInt = 0 := by decide
                      refine hx_goi (hx_runV (As := [.ref q_6, .int (0 : Int32)]) (rest := [.int iv54_5]) ⟨hx, hb, hml, hown, hts⟩ hW gq_27 tt_2 (T := TX2) (N := 19) rfl (t_X2_costsBy_v l dC dI dA L_18 h_19 H.size q_27 q_6 (0 : Int32) hT gq_27 gq_6 q_11 gq_11 fq_11 fa_15 nfa_15 fv_29 ffv_29 (A (i1.toInt + 1).toNat).2.1 (by rw [← nfa_15]; exact hAQo.2.2.1 _ fq_11) (hAB _).1 ⟨by omega, by omega⟩) (cwV 2 hts (hx_gV kw_849 kw_846 kw_847 kw_848 kw_110) rfl rfl rfl (by decide +kernel) ⟨Nat.le_of_ble_eq_true rfl, Nat.le_of_ble_eq_true rfl⟩) rfl hl.1 rfl (Nat.le_of_ble_eq_true rfl) dX9_other_114 ⟨Nat.le_of_ble_eq_true rfl, Nat.le_of_ble_eq_true rfl⟩) hW (fun r_34 L_32 h_33 H locs p_35 hW => ?_)
                      obtain ⟨hr_36, hT, hs⟩ := p_35
                      replace hT : hx_T T_tb L_32 h_33 := hT
                      replace hs : hx_S T_tb [] L_18 h_19 L_32 h_33 := hs
                      replace f_x_5 := (hs.o gx trivial rfl).2.trans f_x_5
                      replace f_x_4 := (hs.o gx trivial rfl).2.trans f_x_4
                      replace f_x_12 := (hs.o gx trivial rfl).2.trans f_x_12
                      replace f_x_10 := (hs.o gx trivial rfl).2.trans f_x_10
                      replace f_x_7 := (hs.o gx trivial rfl).2.trans f_x_7
                      replace f_x_11 := (hs.o gx trivial rfl).1.trans f_x_11
                      replace f_x_8 := (hs.o gx trivial rfl).1.trans f_x_8
                      replace f_x_13 := (hs.o gx trivial rfl).1.trans f_x_13
                      replace f_x_6 := (hs.o gx trivial rfl).1.trans f_x_6
                      replace fq_11 := (hs.o gq_6 trivial rfl).2.trans fq_11
                      replace fq_12 := (hs.o gq_6 trivial rfl).2.trans fq_12
                      replace fq_13 := (hs.o gq_9 trivial rfl).2.trans fq_13
                      replace ffv_14 := (hs.o gq_6 trivial rfl).1.trans ffv_14
                      replace ffv_29 := (hs.o gq_27 trivial rfl).1.trans ffv_29
                      replace pf_x_6 : ∀ j : Nat, (j : Int) < (h_33.2.1 x 6).toInt → h_33.2.2 qa j ≠ none := by
                        intro j hj; rw [(hs.o gx trivial rfl).1] at hj; rw [(hs.a gqa rfl j).2]; exact pf_x_6 j hj
                      replace pf_x_13 : ∀ j : Nat, (j : Int) < (h_33.2.1 x 13).toInt → h_33.2.2 qh j ≠ none := by
                        intro j hj; rw [(hs.o gx trivial rfl).1] at hj; rw [(hs.a gqh rfl j).2]; exact pf_x_13 j hj
                      replace pf_x_11 : ∀ j : Nat, (j : Int) < (h_33.2.1 x 11).toInt → h_33.2.2 qc j ≠ none := by
                        intro j hj; rw [(hs.o gx trivial rfl).1] at hj; rw [(hs.a gqc rfl j).2]; exact pf_x_11 j hj
                      replace pf_x_8 : ∀ j : Nat, (j : Int) < (h_33.2.1 x 8).toInt → h_33.2.2 qp j ≠ none := by
                        intro j hj; rw [(hs.o gx trivial rfl).1] at hj; rw [(hs.a gqp rfl j).2]; exact pf_x_8 j hj
                      replace cl_qp_1 : hx_col 40 h_33 qp 1 = bnf := (hx_col_S hs hTo gqp tt_44 tt_4 rfl rfl).trans cl_qp_1
                      replace cl_qc_6 : hx_col 100 h_33 qc 6 = smf := (hx_col_S hs hTo gqc tt_45 tt_2 rfl rfl).trans cl_qc_6
                      replace cl_qc_7 : hx_col 100 h_33 qc 7 = frf := (hx_col_S hs hTo gqc tt_45 tt_2 rfl rfl).trans cl_qc_7
                      replace cl_qc_8 : hx_col 100 h_33 qc 8 = flf := (hx_col_S hs hTo gqc tt_45 tt_2 rfl rfl).trans cl_qc_8
                      replace cl_qc_9 : hx_col 100 h_33 qc 9 = tf := (hx_col_S hs hTo gqc tt_45 tt_2 rfl rfl).trans cl_qc_9
                      replace nu_qp : hx_num 40 h_33 qp 0 (pn0.toInt) := hx_num_S hs hTo gqp tt_44 tt_4 rfl rfl nu_qp
                      replace nu_qc : hx_num 100 h_33 qc 0 (cn0.toInt) := hx_num_S hs hTo gqc tt_45 tt_2 rfl rfl nu_qc
                      replace hDF : hw_DF h_33 qc qp 2 agf cn0.toInt := hw_DF_S hs hTo gqc gqp tt_45 tt_2 rfl rfl rfl hDF
                      replace hDP : hw_DF h_33 qc qp 1 byf cn0.toInt := hw_DF_S hs hTo gqc gqp tt_45 tt_2 rfl rfl rfl hDP
                      replace hRA : hv_RA h_33 qa w a0.toInt A := hv_RA_S hs hTo gqa gw tt_43 tt_0 rfl rfl rfl rfl rfl rfl (by omega) hRA
                      replace hFX : hv_FX 8 4 h_33 qc cF cn0.toInt := hv_FX_S hs hTo gqc tt_45 tt_2 rfl rfl rfl rfl hFX
                      replace hHL : hv_HL h_33 qh qc hof m0.toInt cn0.toInt := hv_HL_S hs gqh gqc rfl rfl hHL
                      replace hAQo : hv_AQ h_33 q_6 i1.toInt (A (i1.toInt + 1).toNat) := hv_AQ_S hs hTo gq_6 tt_0 rfl rfl rfl rfl rfl hAQo
                      replace fq_6 := (hs.a gqa rfl _).2.trans fq_6
                      replace ho_10d := (hs.a gqc rfl _).2.trans ho_10d
                      replace ho_28d := (hs.a gqc rfl _).2.trans ho_28d
                      replace nfa_15 : h_33.2.1 q_11 = fa_15 := (funext fun j => (hs.a gq_11 rfl j).1).trans nfa_15
                      replace nfa_16 : h_33.2.1 q_12 = fa_16 := (funext fun j => (hs.a gq_12 rfl j).1).trans nfa_16
                      replace nfa_17 : h_33.2.1 q_13 = fa_17 := (funext fun j => (hs.a gq_13 rfl j).1).trans nfa_17
                      replace hM := hM.tr (hs.mono (by decide))
                      replace gx := gx.S hs
                      replace gqa := gqa.S hs
                      replace gw := gw.S hs
                      replace gqh := gqh.S hs
                      replace gqc := gqc.S hs
                      replace gqp := gqp.S hs
                      replace gq_6 := gq_6.S hs
                      replace gq_9 := gq_9.S hs
                      replace gq_11 := gq_11.S hs
                      replace gq_12 := gq_12.S hs
                      replace gq_13 := gq_13.S hs
                      replace gq_27 := gq_27.S hs
                      refine lv_iadd hx hb dX9_other_117 ?_
                      have rg_37 := i32_r iv54_5
                      have rg_38 := i32_r r_34
                      refine lv_topi (fun x_39 ex_39 => ?_)
                      have zx_39 : x_39.toInt = iv54_5.toInt + r_34.toInt := by rw [ex_39]; exact i32_add rfl rfl (by omega) (by omega)
                      refine lv_istore (lv' := [(5, .int x_39), (4, .int x_26), (7, .int r_20), (6, .int iv54_6), (3, .ref q_6), (0, .ref x), (1, .int i1), (2, .int i2)]) hx hb dX9_other_118 hl (by decide) rfl (fun ls hl => ?_)
                      obtain ⟨x_40, ex_40⟩ : ∃ y : Int32, y = iv54_6 + Int32.ofInt 1 := ⟨_, rfl⟩
                      have rg_41 := i32_r iv54_6
                      have zx_40 : x_40.toInt = iv54_6.toInt + (1) := by rw [ex_40]; exact i32_add rfl (by decide) (by omega) (by omega)
                      refine lv_iinc (v := x_40) (lv' := [(6, .int x_40), (5, .int x_39), (4, .int x_26), (7, .int r_20), (3, .ref q_6), (0, .ref x), (1, .int i1), (2, .int i2)]) hx hb dX9_other_120 hl (k := 3) rfl ex_40.symm (by decide) rfl (fun ls hl => ?_)
                      refine lv_goto (tgt := 54) hx hb dX9_other_123 (by decide) ?_
                      exact ih54 x_26 x_39 x_40 _ _ L_32 h_33 (by omega) (by omega) (by omega) (by omega) (by omega) (by omega) (by by_cases z9 : r_20.toInt = i2.toInt; exact hv_oc_y vi54_0 (by rw [← hJ_23]; exact z9) (by omega) (by omega) zx_40; exact hv_oc_n vi54_0 (by rw [← hJ_23]; exact z9) (by omega) (by omega) zx_40) (hv_os_s vi54_1 (c := r_34.toInt) (by show _ = (tf (hof iv54_6.toNatClampNeg).toNatClampNeg).toInt * _ + _ + _; rw [← ct_30, ← hJ_23]; by_cases z9 : r_20.toInt = 5; (rw [if_pos z9]; exact hr_36.1.1 (by omega)); (rw [if_neg z9, Int.add_zero]; exact hr_36.1.2 (by omega))) (by omega) zx_39 zx_40) (by omega) (by omega) (by omega) ls (by omega) hW hT hM f_x_5 f_x_4 f_x_12 f_x_10 f_x_7 f_x_11 f_x_8 f_x_13 f_x_6 gx gqa gw gqh gqc gqp gq_6 pf_x_6 pf_x_13 pf_x_11 pf_x_8 cl_qp_1 cl_qc_6 cl_qc_7 cl_qc_8 cl_qc_9 nu_qp nu_qc fq_6 hDF hDP hRA hFX hHL hAQo (lv_sub hl [0, 1, 2, 4, 5, 6, 7] rfl)
                    · skip
                      refine lv_iconst (v := 1) hx hb dX9_other_109 (by decide) ?_
                      refine lv_goto (tgt := 114) hx hb dX9_other_110 (by decide) ?_
                      have hTo := hT
                      have zc_1 : (1 : Int32).toInt = 1 := by decide
                      refine hx_goi (hx_runV (As := [.ref q_6, .int (1 : Int32)]) (rest := [.int iv54_5]) ⟨hx, hb, hml, hown, hts⟩ hW gq_27 tt_2 (T := TX2) (N := 19) rfl (t_X2_costsBy_v l dC dI dA L_18 h_19 H.size q_27 q_6 (1 : Int32) hT gq_27 gq_6 q_11 gq_11 fq_11 fa_15 nfa_15 fv_29 ffv_29 (A (i1.toInt + 1).toNat).2.1 (by rw [← nfa_15]; exact hAQo.2.2.1 _ fq_11) (hAB _).1 ⟨by omega, by omega⟩) (cwV 2 hts (hx_gV kw_849 kw_846 kw_847 kw_848 kw_110) rfl rfl rfl (by decide +kernel) ⟨Nat.le_of_ble_eq_true rfl, Nat.le_of_ble_eq_true rfl⟩) rfl hl.1 rfl (Nat.le_of_ble_eq_true rfl) dX9_other_114 ⟨Nat.le_of_ble_eq_true rfl, Nat.le_of_ble_eq_true rfl⟩) hW (fun r_44 L_42 h_43 H locs p_45 hW => ?_)
                      obtain ⟨hr_46, hT, hs⟩ := p_45
                      replace hT : hx_T T_tb L_42 h_43 := hT
                      replace hs : hx_S T_tb [] L_18 h_19 L_42 h_43 := hs
                      replace f_x_5 := (hs.o gx trivial rfl).2.trans f_x_5
                      replace f_x_4 := (hs.o gx trivial rfl).2.trans f_x_4
                      replace f_x_12 := (hs.o gx trivial rfl).2.trans f_x_12
                      replace f_x_10 := (hs.o gx trivial rfl).2.trans f_x_10
                      replace f_x_7 := (hs.o gx trivial rfl).2.trans f_x_7
                      replace f_x_11 := (hs.o gx trivial rfl).1.trans f_x_11
                      replace f_x_8 := (hs.o gx trivial rfl).1.trans f_x_8
                      replace f_x_13 := (hs.o gx trivial rfl).1.trans f_x_13
                      replace f_x_6 := (hs.o gx trivial rfl).1.trans f_x_6
                      replace fq_11 := (hs.o gq_6 trivial rfl).2.trans fq_11
                      replace fq_12 := (hs.o gq_6 trivial rfl).2.trans fq_12
                      replace fq_13 := (hs.o gq_9 trivial rfl).2.trans fq_13
                      replace ffv_14 := (hs.o gq_6 trivial rfl).1.trans ffv_14
                      replace ffv_29 := (hs.o gq_27 trivial rfl).1.trans ffv_29
                      replace pf_x_6 : ∀ j : Nat, (j : Int) < (h_43.2.1 x 6).toInt → h_43.2.2 qa j ≠ none := by
                        intro j hj; rw [(hs.o gx trivial rfl).1] at hj; rw [(hs.a gqa rfl j).2]; exact pf_x_6 j hj
                      replace pf_x_13 : ∀ j : Nat, (j : Int) < (h_43.2.1 x 13).toInt → h_43.2.2 qh j ≠ none := by
                        intro j hj; rw [(hs.o gx trivial rfl).1] at hj; rw [(hs.a gqh rfl j).2]; exact pf_x_13 j hj
                      replace pf_x_11 : ∀ j : Nat, (j : Int) < (h_43.2.1 x 11).toInt → h_43.2.2 qc j ≠ none := by
                        intro j hj; rw [(hs.o gx trivial rfl).1] at hj; rw [(hs.a gqc rfl j).2]; exact pf_x_11 j hj
                      replace pf_x_8 : ∀ j : Nat, (j : Int) < (h_43.2.1 x 8).toInt → h_43.2.2 qp j ≠ none := by
                        intro j hj; rw [(hs.o gx trivial rfl).1] at hj; rw [(hs.a gqp rfl j).2]; exact pf_x_8 j hj
                      replace cl_qp_1 : hx_col 40 h_43 qp 1 = bnf := (hx_col_S hs hTo gqp tt_44 tt_4 rfl rfl).trans cl_qp_1
                      replace cl_qc_6 : hx_col 100 h_43 qc 6 = smf := (hx_col_S hs hTo gqc tt_45 tt_2 rfl rfl).trans cl_qc_6
                      replace cl_qc_7 : hx_col 100 h_43 qc 7 = frf := (hx_col_S hs hTo gqc tt_45 tt_2 rfl rfl).trans cl_qc_7
                      replace cl_qc_8 : hx_col 100 h_43 qc 8 = flf := (hx_col_S hs hTo gqc tt_45 tt_2 rfl rfl).trans cl_qc_8
                      replace cl_qc_9 : hx_col 100 h_43 qc 9 = tf := (hx_col_S hs hTo gqc tt_45 tt_2 rfl rfl).trans cl_qc_9
                      replace nu_qp : hx_num 40 h_43 qp 0 (pn0.toInt) := hx_num_S hs hTo gqp tt_44 tt_4 rfl rfl nu_qp
                      replace nu_qc : hx_num 100 h_43 qc 0 (cn0.toInt) := hx_num_S hs hTo gqc tt_45 tt_2 rfl rfl nu_qc
                      replace hDF : hw_DF h_43 qc qp 2 agf cn0.toInt := hw_DF_S hs hTo gqc gqp tt_45 tt_2 rfl rfl rfl hDF
                      replace hDP : hw_DF h_43 qc qp 1 byf cn0.toInt := hw_DF_S hs hTo gqc gqp tt_45 tt_2 rfl rfl rfl hDP
                      replace hRA : hv_RA h_43 qa w a0.toInt A := hv_RA_S hs hTo gqa gw tt_43 tt_0 rfl rfl rfl rfl rfl rfl (by omega) hRA
                      replace hFX : hv_FX 8 4 h_43 qc cF cn0.toInt := hv_FX_S hs hTo gqc tt_45 tt_2 rfl rfl rfl rfl hFX
                      replace hHL : hv_HL h_43 qh qc hof m0.toInt cn0.toInt := hv_HL_S hs gqh gqc rfl rfl hHL
                      replace hAQo : hv_AQ h_43 q_6 i1.toInt (A (i1.toInt + 1).toNat) := hv_AQ_S hs hTo gq_6 tt_0 rfl rfl rfl rfl rfl hAQo
                      replace fq_6 := (hs.a gqa rfl _).2.trans fq_6
                      replace ho_10d := (hs.a gqc rfl _).2.trans ho_10d
                      replace ho_28d := (hs.a gqc rfl _).2.trans ho_28d
                      replace nfa_15 : h_43.2.1 q_11 = fa_15 := (funext fun j => (hs.a gq_11 rfl j).1).trans nfa_15
                      replace nfa_16 : h_43.2.1 q_12 = fa_16 := (funext fun j => (hs.a gq_12 rfl j).1).trans nfa_16
                      replace nfa_17 : h_43.2.1 q_13 = fa_17 := (funext fun j => (hs.a gq_13 rfl j).1).trans nfa_17
                      replace hM := hM.tr (hs.mono (by decide))
                      replace gx := gx.S hs
                      replace gqa := gqa.S hs
                      replace gw := gw.S hs
                      replace gqh := gqh.S hs
                      replace gqc := gqc.S hs
                      replace gqp := gqp.S hs
                      replace gq_6 := gq_6.S hs
                      replace gq_9 := gq_9.S hs
                      replace gq_11 := gq_11.S hs
                      replace gq_12 := gq_12.S hs
                      replace gq_13 := gq_13.S hs
                      replace gq_27 := gq_27.S hs
                      refine lv_iadd hx hb dX9_other_117 ?_
                      have rg_47 := i32_r iv54_5
                      have rg_48 := i32_r r_44
                      refine lv_topi (fun x_49 ex_49 => ?_)
                      have zx_49 : x_49.toInt = iv54_5.toInt + r_44.toInt := by rw [ex_49]; exact i32_add rfl rfl (by omega) (by omega)
                      refine lv_istore (lv' := [(5, .int x_49), (4, .int x_26), (7, .int r_20), (6, .int iv54_6), (3, .ref q_6), (0, .ref x), (1, .int i1), (2, .int i2)]) hx hb dX9_other_118 hl (by decide) rfl (fun ls hl => ?_)
                      obtain ⟨x_50, ex_50⟩ : ∃ y : Int32, y = iv54_6 + Int32.ofInt 1 := ⟨_, rfl⟩
                      have rg_51 := i32_r iv54_6
                      have zx_50 : x_50.toInt = iv54_6.toInt + (1) := by rw [ex_50]; exact i32_add rfl (by decide) (by omega) (by omega)
                      refine lv_iinc (v := x_50) (lv' := [(6, .int x_50), (5, .int x_49), (4, .int x_26), (7, .int r_20), (3, .ref q_6), (0, .ref x), (1, .int i1), (2, .int i2)]) hx hb dX9_other_120 hl (k := 3) rfl ex_50.symm (by decide) rfl (fun ls hl => ?_)
                      refine lv_goto (tgt := 54) hx hb dX9_other_123 (by decide) ?_
                      exact ih54 x_26 x_49 x_50 _ _ L_42 h_43 (by omega) (by omega) (by omega) (by omega) (by omega) (by omega) (by by_cases z9 : r_20.toInt = i2.toInt; exact hv_oc_y vi54_0 (by rw [← hJ_23]; exact z9) (by omega) (by omega) zx_50; exact hv_oc_n vi54_0 (by rw [← hJ_23]; exact z9) (by omega) (by omega) zx_50) (hv_os_s vi54_1 (c := r_44.toInt) (by show _ = (tf (hof iv54_6.toNatClampNeg).toNatClampNeg).toInt * _ + _ + _; rw [← ct_30, ← hJ_23]; by_cases z9 : r_20.toInt = 5; (rw [if_pos z9]; exact hr_46.1.1 (by omega)); (rw [if_neg z9, Int.add_zero]; exact hr_46.1.2 (by omega))) (by omega) zx_49 zx_50) (by omega) (by omega) (by omega) ls (by omega) hW hT hM f_x_5 f_x_4 f_x_12 f_x_10 f_x_7 f_x_11 f_x_8 f_x_13 f_x_6 gx gqa gw gqh gqc gqp gq_6 pf_x_6 pf_x_13 pf_x_11 pf_x_8 cl_qp_1 cl_qc_6 cl_qc_7 cl_qc_8 cl_qc_9 nu_qp nu_qc fq_6 hDF hDP hRA hFX hHL hAQo (lv_sub hl [0, 1, 2, 4, 5, 6, 7] rfl)
                  · skip
                    refine lv_iconst (v := 1) hx hb dX9_other_85 (by decide) ?_
                    refine lv_goto (tgt := 90) hx hb dX9_other_86 (by decide) ?_
                    refine lv_iadd hx hb dX9_other_90 ?_
                    have rg_52 := i32_r iv54_4
                    refine lv_topi (fun x_53 ex_53 => ?_)
                    have zx_53 : x_53.toInt = iv54_4.toInt + 1 := by rw [ex_53]; exact i32_add rfl (by decide) (by omega) (by omega)
                    refine lv_istore (lv' := [(4, .int x_53), (7, .int r_20), (6, .int iv54_6), (5, .int iv54_5), (3, .ref q_6), (0, .ref x), (1, .int i1), (2, .int i2)]) hx hb dX9_other_91 hl (by decide) rfl (fun ls hl => ?_)
                    refine lv_iload hx hb dX9_other_93 (lv_at hl 3 rfl) ?_
                    refine lv_aload_n hx hb dX9_other_95 rfl (lv_at hl 5 rfl) ?_
                    refine hk_getr hx hb hts hC_9 hown hW gx tt_9 12 (by decide) rfl kw_376 ⟨rfl, rfl, rfl⟩ f_x_12 dX9_other_96 ?_
                    refine lv_iload hx hb dX9_other_99 (lv_at hl 2 rfl) ?_
                    refine hx_aaldN hx hb hW hT gqh tt_46 (t1 := 2) rfl ⟨by omega, by omega⟩ (pf_x_13 _ (by rw [f_x_13]; exact hx_tnI (by omega) (by omega))) dX9_other_101 (fun q_54 fq_54 gq_54 => ?_)
                    obtain ⟨ho_55o, ho_55a, ho_55b, ho_55c, ho_55d⟩ := hHL iv54_6.toNatClampNeg (by unfold Int32.toNatClampNeg; omega) (by unfold Int32.toNatClampNeg; omega)
                    have ho_55e : ho_55o = q_54 := Option.some.inj (ho_55a.symm.trans fq_54)
                    rw [ho_55e] at ho_55d
                    have ho_55b : 0 ≤ (hof iv54_6.toNatClampNeg).toInt := ho_55b
                    have ho_55c : (hof iv54_6.toNatClampNeg).toInt < cn0.toInt := ho_55c
                    have ho_55d : h_19.2.2 qc (hof iv54_6.toNatClampNeg).toNatClampNeg = some q_54 := ho_55d
                    have ho_55u : 0 ≤ (hof iv54_6.toInt.toNat).toInt ∧ (hof iv54_6.toInt.toNat).toInt < cn0.toInt := ⟨ho_55b, ho_55c⟩
                    obtain ⟨fv_56, efv_56⟩ : ∃ y : Int32, y = h_19.2.1 q_54 9 := ⟨_, rfl⟩
                    have bfv_56 := hT.gi gq_54 tt_2 (k := 9) rfl
                    rw [← efv_56] at bfv_56
                    have bfv_56 : -2147483648 ≤ fv_56.toInt ∧ fv_56.toInt ≤ 2147483647 := bfv_56
                    have ffv_56 := efv_56.symm
                    have ct_57 : fv_56 = tf (hof iv54_6.toNatClampNeg).toNatClampNeg := by rw [← ffv_56, ← cl_qc_9]; exact (hx_col_at ho_55d (by unfold Int32.toNatClampNeg; omega)).symm
                    have ct_57b := htb (hof iv54_6.toNatClampNeg).toNatClampNeg (by unfold Int32.toNatClampNeg; omega); rw [← ct_57] at ct_57b
                    refine lv_aload_n hx hb dX9_other_102 rfl (lv_at hl 4 rfl) ?_
                    refine lv_iload hx hb dX9_other_103 (lv_at hl 1 rfl) ?_
                    refine lv_iconst (v := 5) hx hb dX9_other_105 (by decide) ?_
                    refine hb_icmp_ne (zx := r_20.toInt) (zy := 5) (tgt := 113) hx hb rfl (by decide) dX9_other_106 (by decide) (fun c_58 => ?_) (fun c_58 => ?_)
                    · skip
                      refine lv_iconst (v := 0) hx hb dX9_other_113 (by decide) ?_
                      have hTo := hT
                      have zc_0 : (0 : Int32).toInt = 0 := by decide
                      refine hx_goi (hx_runV (As := [.ref q_6, .int (0 : Int32)]) (rest := [.int iv54_5]) ⟨hx, hb, hml, hown, hts⟩ hW gq_54 tt_2 (T := TX2) (N := 19) rfl (t_X2_costsBy_v l dC dI dA L_18 h_19 H.size q_54 q_6 (0 : Int32) hT gq_54 gq_6 q_11 gq_11 fq_11 fa_15 nfa_15 fv_56 ffv_56 (A (i1.toInt + 1).toNat).2.1 (by rw [← nfa_15]; exact hAQo.2.2.1 _ fq_11) (hAB _).1 ⟨by omega, by omega⟩) (cwV 2 hts (hx_gV kw_849 kw_846 kw_847 kw_848 kw_110) rfl rfl rfl (by decide +kernel) ⟨Nat.le_of_ble_eq_true rfl, Nat.le_of_ble_eq_true rfl⟩) rfl hl.1 rfl (Nat.le_of_ble_eq_true rfl) dX9_other_114 ⟨Nat.le_of_ble_eq_true rfl, Nat.le_of_ble_eq_true rfl⟩) hW (fun r_61 L_59 h_60 H locs p_62 hW => ?_)
                      obtain ⟨hr_63, hT, hs⟩ := p_62
                      replace hT : hx_T T_tb L_59 h_60 := hT
                      replace hs : hx_S T_tb [] L_18 h_19 L_59 h_60 := hs
                      replace f_x_5 := (hs.o gx trivial rfl).2.trans f_x_5
                      replace f_x_4 := (hs.o gx trivial rfl).2.trans f_x_4
                      replace f_x_12 := (hs.o gx trivial rfl).2.trans f_x_12
                      replace f_x_10 := (hs.o gx trivial rfl).2.trans f_x_10
                      replace f_x_7 := (hs.o gx trivial rfl).2.trans f_x_7
                      replace f_x_11 := (hs.o gx trivial rfl).1.trans f_x_11
                      replace f_x_8 := (hs.o gx trivial rfl).1.trans f_x_8
                      replace f_x_13 := (hs.o gx trivial rfl).1.trans f_x_13
                      replace f_x_6 := (hs.o gx trivial rfl).1.trans f_x_6
                      replace fq_11 := (hs.o gq_6 trivial rfl).2.trans fq_11
                      replace fq_12 := (hs.o gq_6 trivial rfl).2.trans fq_12
                      replace fq_13 := (hs.o gq_9 trivial rfl).2.trans fq_13
                      replace ffv_14 := (hs.o gq_6 trivial rfl).1.trans ffv_14
                      replace ffv_56 := (hs.o gq_54 trivial rfl).1.trans ffv_56
                      replace pf_x_6 : ∀ j : Nat, (j : Int) < (h_60.2.1 x 6).toInt → h_60.2.2 qa j ≠ none := by
                        intro j hj; rw [(hs.o gx trivial rfl).1] at hj; rw [(hs.a gqa rfl j).2]; exact pf_x_6 j hj
                      replace pf_x_13 : ∀ j : Nat, (j : Int) < (h_60.2.1 x 13).toInt → h_60.2.2 qh j ≠ none := by
                        intro j hj; rw [(hs.o gx trivial rfl).1] at hj; rw [(hs.a gqh rfl j).2]; exact pf_x_13 j hj
                      replace pf_x_11 : ∀ j : Nat, (j : Int) < (h_60.2.1 x 11).toInt → h_60.2.2 qc j ≠ none := by
                        intro j hj; rw [(hs.o gx trivial rfl).1] at hj; rw [(hs.a gqc rfl j).2]; exact pf_x_11 j hj
                      replace pf_x_8 : ∀ j : Nat, (j : Int) < (h_60.2.1 x 8).toInt → h_60.2.2 qp j ≠ none := by
                        intro j hj; rw [(hs.o gx trivial rfl).1] at hj; rw [(hs.a gqp rfl j).2]; exact pf_x_8 j hj
                      replace cl_qp_1 : hx_col 40 h_60 qp 1 = bnf := (hx_col_S hs hTo gqp tt_44 tt_4 rfl rfl).trans cl_qp_1
                      replace cl_qc_6 : hx_col 100 h_60 qc 6 = smf := (hx_col_S hs hTo gqc tt_45 tt_2 rfl rfl).trans cl_qc_6
                      replace cl_qc_7 : hx_col 100 h_60 qc 7 = frf := (hx_col_S hs hTo gqc tt_45 tt_2 rfl rfl).trans cl_qc_7
                      replace cl_qc_8 : hx_col 100 h_60 qc 8 = flf := (hx_col_S hs hTo gqc tt_45 tt_2 rfl rfl).trans cl_qc_8
                      replace cl_qc_9 : hx_col 100 h_60 qc 9 = tf := (hx_col_S hs hTo gqc tt_45 tt_2 rfl rfl).trans cl_qc_9
                      replace nu_qp : hx_num 40 h_60 qp 0 (pn0.toInt) := hx_num_S hs hTo gqp tt_44 tt_4 rfl rfl nu_qp
                      replace nu_qc : hx_num 100 h_60 qc 0 (cn0.toInt) := hx_num_S hs hTo gqc tt_45 tt_2 rfl rfl nu_qc
                      replace hDF : hw_DF h_60 qc qp 2 agf cn0.toInt := hw_DF_S hs hTo gqc gqp tt_45 tt_2 rfl rfl rfl hDF
                      replace hDP : hw_DF h_60 qc qp 1 byf cn0.toInt := hw_DF_S hs hTo gqc gqp tt_45 tt_2 rfl rfl rfl hDP
                      replace hRA : hv_RA h_60 qa w a0.toInt A := hv_RA_S hs hTo gqa gw tt_43 tt_0 rfl rfl rfl rfl rfl rfl (by omega) hRA
                      replace hFX : hv_FX 8 4 h_60 qc cF cn0.toInt := hv_FX_S hs hTo gqc tt_45 tt_2 rfl rfl rfl rfl hFX
                      replace hHL : hv_HL h_60 qh qc hof m0.toInt cn0.toInt := hv_HL_S hs gqh gqc rfl rfl hHL
                      replace hAQo : hv_AQ h_60 q_6 i1.toInt (A (i1.toInt + 1).toNat) := hv_AQ_S hs hTo gq_6 tt_0 rfl rfl rfl rfl rfl hAQo
                      replace fq_6 := (hs.a gqa rfl _).2.trans fq_6
                      replace ho_10d := (hs.a gqc rfl _).2.trans ho_10d
                      replace ho_55d := (hs.a gqc rfl _).2.trans ho_55d
                      replace nfa_15 : h_60.2.1 q_11 = fa_15 := (funext fun j => (hs.a gq_11 rfl j).1).trans nfa_15
                      replace nfa_16 : h_60.2.1 q_12 = fa_16 := (funext fun j => (hs.a gq_12 rfl j).1).trans nfa_16
                      replace nfa_17 : h_60.2.1 q_13 = fa_17 := (funext fun j => (hs.a gq_13 rfl j).1).trans nfa_17
                      replace hM := hM.tr (hs.mono (by decide))
                      replace gx := gx.S hs
                      replace gqa := gqa.S hs
                      replace gw := gw.S hs
                      replace gqh := gqh.S hs
                      replace gqc := gqc.S hs
                      replace gqp := gqp.S hs
                      replace gq_6 := gq_6.S hs
                      replace gq_9 := gq_9.S hs
                      replace gq_11 := gq_11.S hs
                      replace gq_12 := gq_12.S hs
                      replace gq_13 := gq_13.S hs
                      replace gq_54 := gq_54.S hs
                      refine lv_iadd hx hb dX9_other_117 ?_
                      have rg_64 := i32_r iv54_5
                      have rg_65 := i32_r r_61
                      refine lv_topi (fun x_66 ex_66 => ?_)
                      have zx_66 : x_66.toInt = iv54_5.toInt + r_61.toInt := by rw [ex_66]; exact i32_add rfl rfl (by omega) (by omega)
                      refine lv_istore (lv' := [(5, .int x_66), (4, .int x_53), (7, .int r_20), (6, .int iv54_6), (3, .ref q_6), (0, .ref x), (1, .int i1), (2, .int i2)]) hx hb dX9_other_118 hl (by decide) rfl (fun ls hl => ?_)
                      obtain ⟨x_67, ex_67⟩ : ∃ y : Int32, y = iv54_6 + Int32.ofInt 1 := ⟨_, rfl⟩
                      have rg_68 := i32_r iv54_6
                      have zx_67 : x_67.toInt = iv54_6.toInt + (1) := by rw [ex_67]; exact i32_add rfl (by decide) (by omega) (by omega)
                      refine lv_iinc (v := x_67) (lv' := [(6, .int x_67), (5, .int x_66), (4, .int x_53), (7, .int r_20), (3, .ref q_6), (0, .ref x), (1, .int i1), (2, .int i2)]) hx hb dX9_other_120 hl (k := 3) rfl ex_67.symm (by decide) rfl (fun ls hl => ?_)
                      refine lv_goto (tgt := 54) hx hb dX9_other_123 (by decide) ?_
                      exact ih54 x_53 x_66 x_67 _ _ L_59 h_60 (by omega) (by omega) (by omega) (by omega) (by omega) (by omega) (by by_cases z9 : r_20.toInt = i2.toInt; exact hv_oc_y vi54_0 (by rw [← hJ_23]; exact z9) (by omega) (by omega) zx_67; exact hv_oc_n vi54_0 (by rw [← hJ_23]; exact z9) (by omega) (by omega) zx_67) (hv_os_s vi54_1 (c := r_61.toInt) (by show _ = (tf (hof iv54_6.toNatClampNeg).toNatClampNeg).toInt * _ + _ + _; rw [← ct_57, ← hJ_23]; by_cases z9 : r_20.toInt = 5; (rw [if_pos z9]; exact hr_63.1.1 (by omega)); (rw [if_neg z9, Int.add_zero]; exact hr_63.1.2 (by omega))) (by omega) zx_66 zx_67) (by omega) (by omega) (by omega) ls (by omega) hW hT hM f_x_5 f_x_4 f_x_12 f_x_10 f_x_7 f_x_11 f_x_8 f_x_13 f_x_6 gx gqa gw gqh gqc gqp gq_6 pf_x_6 pf_x_13 pf_x_11 pf_x_8 cl_qp_1 cl_qc_6 cl_qc_7 cl_qc_8 cl_qc_9 nu_qp nu_qc fq_6 hDF hDP hRA hFX hHL hAQo (lv_sub hl [0, 1, 2, 4, 5, 6, 7] rfl)
                    · skip
                      refine lv_iconst (v := 1) hx hb dX9_other_109 (by decide) ?_
                      refine lv_goto (tgt := 114) hx hb dX9_other_110 (by decide) ?_
                      have hTo := hT
                      have zc_1 : (1 : Int32).toInt = 1 := by decide
                      refine hx_goi (hx_runV (As := [.ref q_6, .int (1 : Int32)]) (rest := [.int iv54_5]) ⟨hx, hb, hml, hown, hts⟩ hW gq_54 tt_2 (T := TX2) (N := 19) rfl (t_X2_costsBy_v l dC dI dA L_18 h_19 H.size q_54 q_6 (1 : Int32) hT gq_54 gq_6 q_11 gq_11 fq_11 fa_15 nfa_15 fv_56 ffv_56 (A (i1.toInt + 1).toNat).2.1 (by rw [← nfa_15]; exact hAQo.2.2.1 _ fq_11) (hAB _).1 ⟨by omega, by omega⟩) (cwV 2 hts (hx_gV kw_849 kw_846 kw_847 kw_848 kw_110) rfl rfl rfl (by decide +kernel) ⟨Nat.le_of_ble_eq_true rfl, Nat.le_of_ble_eq_true rfl⟩) rfl hl.1 rfl (Nat.le_of_ble_eq_true rfl) dX9_other_114 ⟨Nat.le_of_ble_eq_true rfl, Nat.le_of_ble_eq_true rfl⟩) hW (fun r_71 L_69 h_70 H locs p_72 hW => ?_)
                      obtain ⟨hr_73, hT, hs⟩ := p_72
                      replace hT : hx_T T_tb L_69 h_70 := hT
                      replace hs : hx_S T_tb [] L_18 h_19 L_69 h_70 := hs
                      replace f_x_5 := (hs.o gx trivial rfl).2.trans f_x_5
                      replace f_x_4 := (hs.o gx trivial rfl).2.trans f_x_4
                      replace f_x_12 := (hs.o gx trivial rfl).2.trans f_x_12
                      replace f_x_10 := (hs.o gx trivial rfl).2.trans f_x_10
                      replace f_x_7 := (hs.o gx trivial rfl).2.trans f_x_7
                      replace f_x_11 := (hs.o gx trivial rfl).1.trans f_x_11
                      replace f_x_8 := (hs.o gx trivial rfl).1.trans f_x_8
                      replace f_x_13 := (hs.o gx trivial rfl).1.trans f_x_13
                      replace f_x_6 := (hs.o gx trivial rfl).1.trans f_x_6
                      replace fq_11 := (hs.o gq_6 trivial rfl).2.trans fq_11
                      replace fq_12 := (hs.o gq_6 trivial rfl).2.trans fq_12
                      replace fq_13 := (hs.o gq_9 trivial rfl).2.trans fq_13
                      replace ffv_14 := (hs.o gq_6 trivial rfl).1.trans ffv_14
                      replace ffv_56 := (hs.o gq_54 trivial rfl).1.trans ffv_56
                      replace pf_x_6 : ∀ j : Nat, (j : Int) < (h_70.2.1 x 6).toInt → h_70.2.2 qa j ≠ none := by
                        intro j hj; rw [(hs.o gx trivial rfl).1] at hj; rw [(hs.a gqa rfl j).2]; exact pf_x_6 j hj
                      replace pf_x_13 : ∀ j : Nat, (j : Int) < (h_70.2.1 x 13).toInt → h_70.2.2 qh j ≠ none := by
                        intro j hj; rw [(hs.o gx trivial rfl).1] at hj; rw [(hs.a gqh rfl j).2]; exact pf_x_13 j hj
                      replace pf_x_11 : ∀ j : Nat, (j : Int) < (h_70.2.1 x 11).toInt → h_70.2.2 qc j ≠ none := by
                        intro j hj; rw [(hs.o gx trivial rfl).1] at hj; rw [(hs.a gqc rfl j).2]; exact pf_x_11 j hj
                      replace pf_x_8 : ∀ j : Nat, (j : Int) < (h_70.2.1 x 8).toInt → h_70.2.2 qp j ≠ none := by
                        intro j hj; rw [(hs.o gx trivial rfl).1] at hj; rw [(hs.a gqp rfl j).2]; exact pf_x_8 j hj
                      replace cl_qp_1 : hx_col 40 h_70 qp 1 = bnf := (hx_col_S hs hTo gqp tt_44 tt_4 rfl rfl).trans cl_qp_1
                      replace cl_qc_6 : hx_col 100 h_70 qc 6 = smf := (hx_col_S hs hTo gqc tt_45 tt_2 rfl rfl).trans cl_qc_6
                      replace cl_qc_7 : hx_col 100 h_70 qc 7 = frf := (hx_col_S hs hTo gqc tt_45 tt_2 rfl rfl).trans cl_qc_7
                      replace cl_qc_8 : hx_col 100 h_70 qc 8 = flf := (hx_col_S hs hTo gqc tt_45 tt_2 rfl rfl).trans cl_qc_8
                      replace cl_qc_9 : hx_col 100 h_70 qc 9 = tf := (hx_col_S hs hTo gqc tt_45 tt_2 rfl rfl).trans cl_qc_9
                      replace nu_qp : hx_num 40 h_70 qp 0 (pn0.toInt) := hx_num_S hs hTo gqp tt_44 tt_4 rfl rfl nu_qp
                      replace nu_qc : hx_num 100 h_70 qc 0 (cn0.toInt) := hx_num_S hs hTo gqc tt_45 tt_2 rfl rfl nu_qc
                      replace hDF : hw_DF h_70 qc qp 2 agf cn0.toInt := hw_DF_S hs hTo gqc gqp tt_45 tt_2 rfl rfl rfl hDF
                      replace hDP : hw_DF h_70 qc qp 1 byf cn0.toInt := hw_DF_S hs hTo gqc gqp tt_45 tt_2 rfl rfl rfl hDP
                      replace hRA : hv_RA h_70 qa w a0.toInt A := hv_RA_S hs hTo gqa gw tt_43 tt_0 rfl rfl rfl rfl rfl rfl (by omega) hRA
                      replace hFX : hv_FX 8 4 h_70 qc cF cn0.toInt := hv_FX_S hs hTo gqc tt_45 tt_2 rfl rfl rfl rfl hFX
                      replace hHL : hv_HL h_70 qh qc hof m0.toInt cn0.toInt := hv_HL_S hs gqh gqc rfl rfl hHL
                      replace hAQo : hv_AQ h_70 q_6 i1.toInt (A (i1.toInt + 1).toNat) := hv_AQ_S hs hTo gq_6 tt_0 rfl rfl rfl rfl rfl hAQo
                      replace fq_6 := (hs.a gqa rfl _).2.trans fq_6
                      replace ho_10d := (hs.a gqc rfl _).2.trans ho_10d
                      replace ho_55d := (hs.a gqc rfl _).2.trans ho_55d
                      replace nfa_15 : h_70.2.1 q_11 = fa_15 := (funext fun j => (hs.a gq_11 rfl j).1).trans nfa_15
                      replace nfa_16 : h_70.2.1 q_12 = fa_16 := (funext fun j => (hs.a gq_12 rfl j).1).trans nfa_16
                      replace nfa_17 : h_70.2.1 q_13 = fa_17 := (funext fun j => (hs.a gq_13 rfl j).1).trans nfa_17
                      replace hM := hM.tr (hs.mono (by decide))
                      replace gx := gx.S hs
                      replace gqa := gqa.S hs
                      replace gw := gw.S hs
                      replace gqh := gqh.S hs
                      replace gqc := gqc.S hs
                      replace gqp := gqp.S hs
                      replace gq_6 := gq_6.S hs
                      replace gq_9 := gq_9.S hs
                      replace gq_11 := gq_11.S hs
                      replace gq_12 := gq_12.S hs
                      replace gq_13 := gq_13.S hs
                      replace gq_54 := gq_54.S hs
                      refine lv_iadd hx hb dX9_other_117 ?_
                      have rg_74 := i32_r iv54_5
                      have rg_75 := i32_r r_71
                      refine lv_topi (fun x_76 ex_76 => ?_)
                      have zx_76 : x_76.toInt = iv54_5.toInt + r_71.toInt := by rw [ex_76]; exact i32_add rfl rfl (by omega) (by omega)
                      refine lv_istore (lv' := [(5, .int x_76), (4, .int x_53), (7, .int r_20), (6, .int iv54_6), (3, .ref q_6), (0, .ref x), (1, .int i1), (2, .int i2)]) hx hb dX9_other_118 hl (by decide) rfl (fun ls hl => ?_)
                      obtain ⟨x_77, ex_77⟩ : ∃ y : Int32, y = iv54_6 + Int32.ofInt 1 := ⟨_, rfl⟩
                      have rg_78 := i32_r iv54_6
                      have zx_77 : x_77.toInt = iv54_6.toInt + (1) := by rw [ex_77]; exact i32_add rfl (by decide) (by omega) (by omega)
                      refine lv_iinc (v := x_77) (lv' := [(6, .int x_77), (5, .int x_76), (4, .int x_53), (7, .int r_20), (3, .ref q_6), (0, .ref x), (1, .int i1), (2, .int i2)]) hx hb dX9_other_120 hl (k := 3) rfl ex_77.symm (by decide) rfl (fun ls hl => ?_)
                      refine lv_goto (tgt := 54) hx hb dX9_other_123 (by decide) ?_
                      exact ih54 x_53 x_76 x_77 _ _ L_69 h_70 (by omega) (by omega) (by omega) (by omega) (by omega) (by omega) (by by_cases z9 : r_20.toInt = i2.toInt; exact hv_oc_y vi54_0 (by rw [← hJ_23]; exact z9) (by omega) (by omega) zx_77; exact hv_oc_n vi54_0 (by rw [← hJ_23]; exact z9) (by omega) (by omega) zx_77) (hv_os_s vi54_1 (c := r_71.toInt) (by show _ = (tf (hof iv54_6.toNatClampNeg).toNatClampNeg).toInt * _ + _ + _; rw [← ct_57, ← hJ_23]; by_cases z9 : r_20.toInt = 5; (rw [if_pos z9]; exact hr_73.1.1 (by omega)); (rw [if_neg z9, Int.add_zero]; exact hr_73.1.2 (by omega))) (by omega) zx_76 zx_77) (by omega) (by omega) (by omega) ls (by omega) hW hT hM f_x_5 f_x_4 f_x_12 f_x_10 f_x_7 f_x_11 f_x_8 f_x_13 f_x_6 gx gqa gw gqh gqc gqp gq_6 pf_x_6 pf_x_13 pf_x_11 pf_x_8 cl_qp_1 cl_qc_6 cl_qc_7 cl_qc_8 cl_qc_9 nu_qp nu_qc fq_6 hDF hDP hRA hFX hHL hAQo (lv_sub hl [0, 1, 2, 4, 5, 6, 7] rfl)
            have zk_0 : (0 : Int32).toInt = 0 := by decide
            have zk_0 : (0 : Int32).toInt = 0 := by decide
            have zk_0 : (0 : Int32).toInt = 0 := by decide
            exact loop54 101 (0 : Int32) (0 : Int32) (0 : Int32) _ _ L h (by decide) (by decide) (by decide) (by decide) (by decide) (by decide) (by rw [zk_0]; rfl) (by rw [zk_0]; rfl) (by omega) (by omega) (by omega) ls (by omega) hW hT hM f_x_5 f_x_4 f_x_12 f_x_10 f_x_7 f_x_11 f_x_8 f_x_13 f_x_6 gx gqa gw gqh gqc gqp gq_6 pf_x_6 pf_x_13 pf_x_11 pf_x_8 cl_qp_1 cl_qc_6 cl_qc_7 cl_qc_8 cl_qc_9 nu_qp nu_qc fq_6 hDF hDP hRA hFX hHL hAQo hl
          · skip
            refine lv_aload_n hx hb dX9_other_31 rfl (lv_at hl 0 rfl) ?_
            refine hk_getr hx hb hts hC_9 hown hW gx tt_9 4 (by decide) rfl kw_368 ⟨rfl, rfl, rfl⟩ f_x_4 dX9_other_32 ?_
            refine lv_goto (tgt := 44) hx hb dX9_other_35 (by decide) ?_
            have hAQo : hv_AQ h w i1.toInt (A (i1.toInt + 1).toNat) := by have h8 := hRA.1; rw [show i1.toInt = -1 by omega]; exact h8
            refine lv_astore_n (lv' := [(3, .ref w), (0, .ref x), (1, .int i1), (2, .int i2)]) hx hb dX9_other_44 rfl hl (by decide) rfl (fun ls hl => ?_)
            refine lv_iconst (v := 0) hx hb dX9_other_45 (by decide) ?_
            refine lv_istore (lv' := [(4, .int (0 : Int32)), (3, .ref w), (0, .ref x), (1, .int i1), (2, .int i2)]) hx hb dX9_other_46 hl (by decide) rfl (fun ls hl => ?_)
            refine lv_iconst (v := 0) hx hb dX9_other_48 (by decide) ?_
            refine lv_istore (lv' := [(5, .int (0 : Int32)), (4, .int (0 : Int32)), (3, .ref w), (0, .ref x), (1, .int i1), (2, .int i2)]) hx hb dX9_other_49 hl (by decide) rfl (fun ls hl => ?_)
            refine lv_iconst (v := 0) hx hb dX9_other_51 (by decide) ?_
            refine lv_istore (lv' := [(6, .int (0 : Int32)), (5, .int (0 : Int32)), (4, .int (0 : Int32)), (3, .ref w), (0, .ref x), (1, .int i1), (2, .int i2)]) hx hb dX9_other_52 hl (by decide) rfl (fun ls hl => ?_)
            have loop54 : ∀ (n54 : Nat) (iv54_4 iv54_5 iv54_6 : Int32) (H : Heap) (locs : List Loc) (hL1 : List Nat) (hl1 : hx_h), 0 ≤ iv54_4.toInt → iv54_4.toInt ≤ 100 → 0 ≤ iv54_5.toInt → iv54_5.toInt ≤ 513948600 → 0 ≤ iv54_6.toInt → iv54_6.toInt ≤ 100 → (iv54_4.toInt = hv_oc (hv_oJ cF hof frf bnf agf smf byf flf (A (i1.toInt + 1).toNat) cn0.toInt.toNat) i2.toInt (iv54_6.toInt).toNat) → (iv54_5.toInt = hv_os (hv_oJ cF hof frf bnf agf smf byf flf (A (i1.toInt + 1).toNat) cn0.toInt.toNat) (fun j => (tf (hof j).toNatClampNeg).toInt) (A (i1.toInt + 1).toNat).2.1 (iv54_6.toInt).toNat) → (iv54_4.toInt ≤ iv54_6.toInt) → (iv54_5.toInt ≤ 5139486 * iv54_6.toInt) → (iv54_6.toInt ≤ m0.toInt) → ∀ (ls : Array Slot), 100 - iv54_6.toInt < (n54 : Int) → hx_W T_tb (P_ty dA) (dC, dI) vwCl (hx_A L sz) s.heap hL1 hl1 s H locs → hx_T T_tb hL1 hl1 → hx_S T_tb [] L h hL1 hl1 → hl1.2.2 x 5 = some qa → hl1.2.2 x 4 = some w → hl1.2.2 x 12 = some qh → hl1.2.2 x 10 = some qc → hl1.2.2 x 7 = some qp → hl1.2.1 x 11 = cn0 → hl1.2.1 x 8 = pn0 → hl1.2.1 x 13 = m0 → hl1.2.1 x 6 = a0 → hx_g hL1 hl1 x 9 → hx_g hL1 hl1 qa 43 → hx_g hL1 hl1 w 0 → hx_g hL1 hl1 qh 46 → hx_g hL1 hl1 qc 45 → hx_g hL1 hl1 qp 44 → (∀ j : Nat, (j : Int) < (hl1.2.1 x 6).toInt → hl1.2.2 qa j ≠ none) → (∀ j : Nat, (j : Int) < (hl1.2.1 x 13).toInt → hl1.2.2 qh j ≠ none) → (∀ j : Nat, (j : Int) < (hl1.2.1 x 11).toInt → hl1.2.2 qc j ≠ none) → (∀ j : Nat, (j : Int) < (hl1.2.1 x 8).toInt → hl1.2.2 qp j ≠ none) → hx_col 40 hl1 qp 1 = bnf → hx_col 100 hl1 qc 6 = smf → hx_col 100 hl1 qc 7 = frf → hx_col 100 hl1 qc 8 = flf → hx_col 100 hl1 qc 9 = tf → hx_num 40 hl1 qp 0 (pn0.toInt) → hx_num 100 hl1 qc 0 (cn0.toInt) → hw_DF hl1 qc qp 2 agf cn0.toInt → hw_DF hl1 qc qp 1 byf cn0.toInt → hv_RA hl1 qa w a0.toInt A → hv_FX 8 4 hl1 qc cF cn0.toInt → hv_HL hl1 qh qc hof m0.toInt cn0.toInt → hv_AQ hl1 w i1.toInt (A (i1.toInt + 1).toNat) → lv_has ls 8 [(6, .int iv54_6), (5, .int iv54_5), (4, .int iv54_4), (3, .ref w), (0, .ref x), (1, .int i1), (2, .int i2)] → W p l e ({ frames := 3, cells := 0, slots := 0, locals := 71 }) s m ([.ref x, .int i1, .int i2] : List Value).toArray below meth c H locs 0 0 (MQ below (va_Qi (fun (r : Int32) (u : List Nat × hx_h) => (hv_OT (hv_oJ cF hof frf bnf agf smf byf flf (A (i1.toInt + 1).toNat) cn0.toInt.toNat) (fun j => (tf (hof j).toNatClampNeg).toInt) (A (i1.toInt + 1).toNat).2.1 i1.toInt a0.toInt i2.toInt m0.toInt r.toInt) ∧ hx_T T_tb u.1 u.2 ∧ hx_S T_tb [] L h u.1 u.2) (hx_E T_tb (P_ty dA) (dC, dI) vwCl (hx_A L sz)) (hx_A L sz)) ([.ref x, .int i1, .int i2] : List Value).toArray s 0 0 (hx_A L sz)) (F0 m 54 ls []) := by
              intro n54
              induction n54 with
              | zero => intro iv54_4 iv54_5 iv54_6 H locs hL1 hl1 bliv54_4 buiv54_4 bliv54_5 buiv54_5 bliv54_6 buiv54_6 vi54_0 vi54_1 vi54_2 vi54_3 vi54_4 ls hn54; exfalso; omega
              | succ n54 ih54 =>
                intro iv54_4 iv54_5 iv54_6 H locs hL1 hl1 bliv54_4 buiv54_4 bliv54_5 buiv54_5 bliv54_6 buiv54_6 vi54_0 vi54_1 vi54_2 vi54_3 vi54_4 ls hn54 hW hT hM f_x_5 f_x_4 f_x_12 f_x_10 f_x_7 f_x_11 f_x_8 f_x_13 f_x_6 gx gqa gw gqh gqc gqp pf_x_6 pf_x_13 pf_x_11 pf_x_8 cl_qp_1 cl_qc_6 cl_qc_7 cl_qc_8 cl_qc_9 nu_qp nu_qc hDF hDP hRA hFX hHL hAQo hl
                refine lv_iload hx hb dX9_other_54 (lv_at hl 0 rfl) ?_
                refine lv_aload_n hx hb dX9_other_56 rfl (lv_at hl 4 rfl) ?_
                refine hk_geti hx hb hts hC_9 hown hW gx tt_9 13 (by decide) rfl kw_377 ⟨rfl, rfl, rfl⟩ f_x_13 dX9_other_57 ?_
                refine hb_icmp_ge (zx := iv54_6.toInt) (zy := m0.toInt) (tgt := 126) hx hb rfl rfl dX9_other_60 (by decide) (fun c_79 => ?_) (fun c_79 => ?_)
                · skip
                  refine lv_iload_n hx hb dX9_other_126 rfl (lv_at hl 6 rfl) ?_
                  refine lv_iconst (v := 5) hx hb dX9_other_127 (by decide) ?_
                  refine hb_icmp_le (zx := i2.toInt) (zy := 5) (tgt := 136) hx hb rfl (by decide) dX9_other_128 (by decide) (fun c_80 => ?_) (fun c_80 => ?_)
                  · skip
                    refine lv_iload hx hb dX9_other_136 (lv_at hl 2 rfl) ?_
                    exact hx_reti hx hb hr hlk hW ⟨(Or.inr ⟨by omega, Or.inr ⟨by omega, (by have h8 := vi54_0; rw [show iv54_6.toInt.toNat = m0.toInt.toNat by omega] at h8; exact h8)⟩⟩), hT, hM⟩ dX9_other_138
                  · skip
                    refine lv_iload hx hb dX9_other_131 (lv_at hl 1 rfl) ?_
                    refine lv_goto (tgt := 138) hx hb dX9_other_133 (by decide) ?_
                    exact hx_reti hx hb hr hlk hW ⟨(Or.inr ⟨by omega, Or.inl ⟨by omega, (by have h8 := vi54_1; rw [show iv54_6.toInt.toNat = m0.toInt.toNat by omega] at h8; exact h8)⟩⟩), hT, hM⟩ dX9_other_138
                · skip
                  refine lv_aload_n hx hb dX9_other_63 rfl (lv_at hl 4 rfl) ?_
                  refine lv_aload_n hx hb dX9_other_64 rfl (lv_at hl 4 rfl) ?_
                  refine hk_getr hx hb hts hC_9 hown hW gx tt_9 12 (by decide) rfl kw_376 ⟨rfl, rfl, rfl⟩ f_x_12 dX9_other_65 ?_
                  refine lv_iload hx hb dX9_other_68 (lv_at hl 0 rfl) ?_
                  refine hx_aaldN hx hb hW hT gqh tt_46 (t1 := 2) rfl ⟨by omega, by omega⟩ (pf_x_13 _ (by rw [f_x_13]; exact hx_tnI (by omega) (by omega))) dX9_other_70 (fun q_81 fq_81 gq_81 => ?_)
                  obtain ⟨ho_82o, ho_82a, ho_82b, ho_82c, ho_82d⟩ := hHL iv54_6.toNatClampNeg (by unfold Int32.toNatClampNeg; omega) (by unfold Int32.toNatClampNeg; omega)
                  have ho_82e : ho_82o = q_81 := Option.some.inj (ho_82a.symm.trans fq_81)
                  rw [ho_82e] at ho_82d
                  have ho_82b : 0 ≤ (hof iv54_6.toNatClampNeg).toInt := ho_82b
                  have ho_82c : (hof iv54_6.toNatClampNeg).toInt < cn0.toInt := ho_82c
                  have ho_82d : hl1.2.2 qc (hof iv54_6.toNatClampNeg).toNatClampNeg = some q_81 := ho_82d
                  have ho_82u : 0 ≤ (hof iv54_6.toInt.toNat).toInt ∧ (hof iv54_6.toInt.toNat).toInt < cn0.toInt := ⟨ho_82b, ho_82c⟩
                  refine lv_aload_n hx hb dX9_other_71 rfl (lv_at hl 3 rfl) ?_
                  have hTo := hT
                  obtain ⟨q_83, fq_83, gq_83⟩ := hv_rf hT gw tt_0 (k := 2) (u := 11) rfl
                  obtain ⟨q_84, fq_84, gq_84⟩ := hv_rf hT gw tt_0 (k := 3) (u := 12) rfl
                  obtain ⟨q_85, fq_85, gq_85⟩ := hv_rf hT gq_81 tt_2 (k := 4) (u := 20) rfl
                  obtain ⟨fv_86, efv_86⟩ : ∃ y : Int32, y = hl1.2.1 w 4 := ⟨_, rfl⟩
                  have bfv_86 := hT.gi gw tt_0 (k := 4) rfl
                  rw [← efv_86] at bfv_86
                  have bfv_86 : 0 ≤ fv_86.toInt ∧ fv_86.toInt ≤ 160 := bfv_86
                  have ffv_86 := efv_86.symm
                  obtain ⟨fa_87, nfa_87⟩ : ∃ g : Nat → Int32, hl1.2.1 q_83 = g := ⟨_, rfl⟩
                  obtain ⟨fa_88, nfa_88⟩ : ∃ g : Nat → Int32, hl1.2.1 q_84 = g := ⟨_, rfl⟩
                  obtain ⟨fa_89, nfa_89⟩ : ∃ g : Nat → Int32, hl1.2.1 q_85 = g := ⟨_, rfl⟩
                  refine hx_goi (hx_runV (As := [.ref q_81, .ref w]) (rest := []) ⟨hx, hb, hml, hown, hts⟩ hW gx tt_9 (T := TX9) (N := 20) rfl (t_X9_judgement_v l dC dI dA hL1 hl1 H.size x q_81 w hT gx gq_81 gw qp gqp f_x_7 qc gqc f_x_10 q_83 gq_83 fq_83 q_84 gq_84 fq_84 q_85 gq_85 fq_85 (hof iv54_6.toNatClampNeg) ho_82d ⟨by omega, by omega⟩ fa_87 nfa_87 fa_88 nfa_88 fa_89 nfa_89 cn0 f_x_11 pn0 f_x_8 fv_86 ffv_86 frf cl_qc_7 smf cl_qc_6 flf cl_qc_8 bnf cl_qp_1 nu_qp agf byf hDF hDP (A (i1.toInt + 1).toNat).2.1 (by rw [← nfa_87]; exact hAQo.2.2.1 _ fq_83) (hAB _).1 (A (i1.toInt + 1).toNat).2.2 (hAB _).2 (by have h8 := hAQo.2.2.2 _ fq_84; rw [nfa_88, ffv_86] at h8; exact h8) (by omega) pf_x_8 pf_x_11) (cwV 2 hts (hx_gV kw_830 kw_827 kw_829 kw_28 kw_94) rfl rfl rfl (by decide +kernel) ⟨Nat.le_of_ble_eq_true rfl, Nat.le_of_ble_eq_true rfl⟩) rfl hl.1 rfl (Nat.le_of_ble_eq_true rfl) dX9_other_72 ⟨Nat.le_of_ble_eq_true rfl, Nat.le_of_ble_eq_true rfl⟩) hW (fun r_92 L_90 h_91 H locs p_93 hW => ?_)
                  obtain ⟨hr_94, hT, hs⟩ := p_93
                  replace hT : hx_T T_tb L_90 h_91 := hT
                  replace hs : hx_S T_tb [] hL1 hl1 L_90 h_91 := hs
                  replace f_x_5 := (hs.o gx trivial rfl).2.trans f_x_5
                  replace f_x_4 := (hs.o gx trivial rfl).2.trans f_x_4
                  replace f_x_12 := (hs.o gx trivial rfl).2.trans f_x_12
                  replace f_x_10 := (hs.o gx trivial rfl).2.trans f_x_10
                  replace f_x_7 := (hs.o gx trivial rfl).2.trans f_x_7
                  replace f_x_11 := (hs.o gx trivial rfl).1.trans f_x_11
                  replace f_x_8 := (hs.o gx trivial rfl).1.trans f_x_8
                  replace f_x_13 := (hs.o gx trivial rfl).1.trans f_x_13
                  replace f_x_6 := (hs.o gx trivial rfl).1.trans f_x_6
                  replace fq_83 := (hs.o gw trivial rfl).2.trans fq_83
                  replace fq_84 := (hs.o gw trivial rfl).2.trans fq_84
                  replace fq_85 := (hs.o gq_81 trivial rfl).2.trans fq_85
                  replace ffv_86 := (hs.o gw trivial rfl).1.trans ffv_86
                  replace pf_x_6 : ∀ j : Nat, (j : Int) < (h_91.2.1 x 6).toInt → h_91.2.2 qa j ≠ none := by
                    intro j hj; rw [(hs.o gx trivial rfl).1] at hj; rw [(hs.a gqa rfl j).2]; exact pf_x_6 j hj
                  replace pf_x_13 : ∀ j : Nat, (j : Int) < (h_91.2.1 x 13).toInt → h_91.2.2 qh j ≠ none := by
                    intro j hj; rw [(hs.o gx trivial rfl).1] at hj; rw [(hs.a gqh rfl j).2]; exact pf_x_13 j hj
                  replace pf_x_11 : ∀ j : Nat, (j : Int) < (h_91.2.1 x 11).toInt → h_91.2.2 qc j ≠ none := by
                    intro j hj; rw [(hs.o gx trivial rfl).1] at hj; rw [(hs.a gqc rfl j).2]; exact pf_x_11 j hj
                  replace pf_x_8 : ∀ j : Nat, (j : Int) < (h_91.2.1 x 8).toInt → h_91.2.2 qp j ≠ none := by
                    intro j hj; rw [(hs.o gx trivial rfl).1] at hj; rw [(hs.a gqp rfl j).2]; exact pf_x_8 j hj
                  replace cl_qp_1 : hx_col 40 h_91 qp 1 = bnf := (hx_col_S hs hTo gqp tt_44 tt_4 rfl rfl).trans cl_qp_1
                  replace cl_qc_6 : hx_col 100 h_91 qc 6 = smf := (hx_col_S hs hTo gqc tt_45 tt_2 rfl rfl).trans cl_qc_6
                  replace cl_qc_7 : hx_col 100 h_91 qc 7 = frf := (hx_col_S hs hTo gqc tt_45 tt_2 rfl rfl).trans cl_qc_7
                  replace cl_qc_8 : hx_col 100 h_91 qc 8 = flf := (hx_col_S hs hTo gqc tt_45 tt_2 rfl rfl).trans cl_qc_8
                  replace cl_qc_9 : hx_col 100 h_91 qc 9 = tf := (hx_col_S hs hTo gqc tt_45 tt_2 rfl rfl).trans cl_qc_9
                  replace nu_qp : hx_num 40 h_91 qp 0 (pn0.toInt) := hx_num_S hs hTo gqp tt_44 tt_4 rfl rfl nu_qp
                  replace nu_qc : hx_num 100 h_91 qc 0 (cn0.toInt) := hx_num_S hs hTo gqc tt_45 tt_2 rfl rfl nu_qc
                  replace hDF : hw_DF h_91 qc qp 2 agf cn0.toInt := hw_DF_S hs hTo gqc gqp tt_45 tt_2 rfl rfl rfl hDF
                  replace hDP : hw_DF h_91 qc qp 1 byf cn0.toInt := hw_DF_S hs hTo gqc gqp tt_45 tt_2 rfl rfl rfl hDP
                  replace hRA : hv_RA h_91 qa w a0.toInt A := hv_RA_S hs hTo gqa gw tt_43 tt_0 rfl rfl rfl rfl rfl rfl (by omega) hRA
                  replace hFX : hv_FX 8 4 h_91 qc cF cn0.toInt := hv_FX_S hs hTo gqc tt_45 tt_2 rfl rfl rfl rfl hFX
                  replace hHL : hv_HL h_91 qh qc hof m0.toInt cn0.toInt := hv_HL_S hs gqh gqc rfl rfl hHL
                  replace hAQo : hv_AQ h_91 w i1.toInt (A (i1.toInt + 1).toNat) := hv_AQ_S hs hTo gw tt_0 rfl rfl rfl rfl rfl hAQo
                  replace ho_82d := (hs.a gqc rfl _).2.trans ho_82d
                  replace nfa_87 : h_91.2.1 q_83 = fa_87 := (funext fun j => (hs.a gq_83 rfl j).1).trans nfa_87
                  replace nfa_88 : h_91.2.1 q_84 = fa_88 := (funext fun j => (hs.a gq_84 rfl j).1).trans nfa_88
                  replace nfa_89 : h_91.2.1 q_85 = fa_89 := (funext fun j => (hs.a gq_85 rfl j).1).trans nfa_89
                  replace hM := hM.tr (hs.mono (by decide))
                  replace gx := gx.S hs
                  replace gqa := gqa.S hs
                  replace gw := gw.S hs
                  replace gqh := gqh.S hs
                  replace gqc := gqc.S hs
                  replace gqp := gqp.S hs
                  replace gq_81 := gq_81.S hs
                  replace gq_83 := gq_83.S hs
                  replace gq_84 := gq_84.S hs
                  replace gq_85 := gq_85.S hs
                  have hJ_95 : r_92.toInt = (hv_oJ cF hof frf bnf agf smf byf flf (A (i1.toInt + 1).toNat) cn0.toInt.toNat) iv54_6.toInt.toNat := by rw [hr_94.1]; exact hv_jg_e (hAB _).2 (fun k hk => by have h8 := (hFX).1 (hof iv54_6.toNatClampNeg).toNatClampNeg (by unfold Int32.toNatClampNeg; omega) (by unfold Int32.toNatClampNeg; omega) _ _ ho_82d fq_85 k hk; rw [nfa_89] at h8; exact congrArg Int32.toInt h8)
                  refine lv_istore (lv' := [(7, .int r_92), (6, .int iv54_6), (5, .int iv54_5), (4, .int iv54_4), (3, .ref w), (0, .ref x), (1, .int i1), (2, .int i2)]) hx hb dX9_other_75 hl (by decide) rfl (fun ls hl => ?_)
                  refine lv_iload hx hb dX9_other_77 (lv_at hl 3 rfl) ?_
                  refine lv_iload hx hb dX9_other_79 (lv_at hl 0 rfl) ?_
                  refine lv_iload_n hx hb dX9_other_81 rfl (lv_at hl 7 rfl) ?_
                  refine hb_icmp_ne (zx := r_92.toInt) (zy := i2.toInt) (tgt := 89) hx hb rfl rfl dX9_other_82 (by decide) (fun c_96 => ?_) (fun c_96 => ?_)
                  · skip
                    refine lv_iconst (v := 0) hx hb dX9_other_89 (by decide) ?_
                    refine lv_iadd hx hb dX9_other_90 ?_
                    have rg_97 := i32_r iv54_4
                    refine lv_topi (fun x_98 ex_98 => ?_)
                    have zx_98 : x_98.toInt = iv54_4.toInt + 0 := by rw [ex_98]; exact i32_add rfl (by decide) (by omega) (by omega)
                    refine lv_istore (lv' := [(4, .int x_98), (7, .int r_92), (6, .int iv54_6), (5, .int iv54_5), (3, .ref w), (0, .ref x), (1, .int i1), (2, .int i2)]) hx hb dX9_other_91 hl (by decide) rfl (fun ls hl => ?_)
                    refine lv_iload hx hb dX9_other_93 (lv_at hl 3 rfl) ?_
                    refine lv_aload_n hx hb dX9_other_95 rfl (lv_at hl 5 rfl) ?_
                    refine hk_getr hx hb hts hC_9 hown hW gx tt_9 12 (by decide) rfl kw_376 ⟨rfl, rfl, rfl⟩ f_x_12 dX9_other_96 ?_
                    refine lv_iload hx hb dX9_other_99 (lv_at hl 2 rfl) ?_
                    refine hx_aaldN hx hb hW hT gqh tt_46 (t1 := 2) rfl ⟨by omega, by omega⟩ (pf_x_13 _ (by rw [f_x_13]; exact hx_tnI (by omega) (by omega))) dX9_other_101 (fun q_99 fq_99 gq_99 => ?_)
                    obtain ⟨ho_100o, ho_100a, ho_100b, ho_100c, ho_100d⟩ := hHL iv54_6.toNatClampNeg (by unfold Int32.toNatClampNeg; omega) (by unfold Int32.toNatClampNeg; omega)
                    have ho_100e : ho_100o = q_99 := Option.some.inj (ho_100a.symm.trans fq_99)
                    rw [ho_100e] at ho_100d
                    have ho_100b : 0 ≤ (hof iv54_6.toNatClampNeg).toInt := ho_100b
                    have ho_100c : (hof iv54_6.toNatClampNeg).toInt < cn0.toInt := ho_100c
                    have ho_100d : h_91.2.2 qc (hof iv54_6.toNatClampNeg).toNatClampNeg = some q_99 := ho_100d
                    have ho_100u : 0 ≤ (hof iv54_6.toInt.toNat).toInt ∧ (hof iv54_6.toInt.toNat).toInt < cn0.toInt := ⟨ho_100b, ho_100c⟩
                    obtain ⟨fv_101, efv_101⟩ : ∃ y : Int32, y = h_91.2.1 q_99 9 := ⟨_, rfl⟩
                    have bfv_101 := hT.gi gq_99 tt_2 (k := 9) rfl
                    rw [← efv_101] at bfv_101
                    have bfv_101 : -2147483648 ≤ fv_101.toInt ∧ fv_101.toInt ≤ 2147483647 := bfv_101
                    have ffv_101 := efv_101.symm
                    have ct_102 : fv_101 = tf (hof iv54_6.toNatClampNeg).toNatClampNeg := by rw [← ffv_101, ← cl_qc_9]; exact (hx_col_at ho_100d (by unfold Int32.toNatClampNeg; omega)).symm
                    have ct_102b := htb (hof iv54_6.toNatClampNeg).toNatClampNeg (by unfold Int32.toNatClampNeg; omega); rw [← ct_102] at ct_102b
                    refine lv_aload_n hx hb dX9_other_102 rfl (lv_at hl 4 rfl) ?_
                    refine lv_iload hx hb dX9_other_103 (lv_at hl 1 rfl) ?_
                    refine lv_iconst (v := 5) hx hb dX9_other_105 (by decide) ?_
                    refine hb_icmp_ne (zx := r_92.toInt) (zy := 5) (tgt := 113) hx hb rfl (by decide) dX9_other_106 (by decide) (fun c_103 => ?_) (fun c_103 => ?_)
                    · skip
                      refine lv_iconst (v := 0) hx hb dX9_other_113 (by decide) ?_
                      have hTo := hT
                      have zc_0 : (0 : Int32).toInt = 0 := by decide
                      refine hx_goi (hx_runV (As := [.ref w, .int (0 : Int32)]) (rest := [.int iv54_5]) ⟨hx, hb, hml, hown, hts⟩ hW gq_99 tt_2 (T := TX2) (N := 19) rfl (t_X2_costsBy_v l dC dI dA L_90 h_91 H.size q_99 w (0 : Int32) hT gq_99 gw q_83 gq_83 fq_83 fa_87 nfa_87 fv_101 ffv_101 (A (i1.toInt + 1).toNat).2.1 (by rw [← nfa_87]; exact hAQo.2.2.1 _ fq_83) (hAB _).1 ⟨by omega, by omega⟩) (cwV 2 hts (hx_gV kw_849 kw_846 kw_847 kw_848 kw_110) rfl rfl rfl (by decide +kernel) ⟨Nat.le_of_ble_eq_true rfl, Nat.le_of_ble_eq_true rfl⟩) rfl hl.1 rfl (Nat.le_of_ble_eq_true rfl) dX9_other_114 ⟨Nat.le_of_ble_eq_true rfl, Nat.le_of_ble_eq_true rfl⟩) hW (fun r_106 L_104 h_105 H locs p_107 hW => ?_)
                      obtain ⟨hr_108, hT, hs⟩ := p_107
                      replace hT : hx_T T_tb L_104 h_105 := hT
                      replace hs : hx_S T_tb [] L_90 h_91 L_104 h_105 := hs
                      replace f_x_5 := (hs.o gx trivial rfl).2.trans f_x_5
                      replace f_x_4 := (hs.o gx trivial rfl).2.trans f_x_4
                      replace f_x_12 := (hs.o gx trivial rfl).2.trans f_x_12
                      replace f_x_10 := (hs.o gx trivial rfl).2.trans f_x_10
                      replace f_x_7 := (hs.o gx trivial rfl).2.trans f_x_7
                      replace f_x_11 := (hs.o gx trivial rfl).1.trans f_x_11
                      replace f_x_8 := (hs.o gx trivial rfl).1.trans f_x_8
                      replace f_x_13 := (hs.o gx trivial rfl).1.trans f_x_13
                      replace f_x_6 := (hs.o gx trivial rfl).1.trans f_x_6
                      replace fq_83 := (hs.o gw trivial rfl).2.trans fq_83
                      replace fq_84 := (hs.o gw trivial rfl).2.trans fq_84
                      replace fq_85 := (hs.o gq_81 trivial rfl).2.trans fq_85
                      replace ffv_86 := (hs.o gw trivial rfl).1.trans ffv_86
                      replace ffv_101 := (hs.o gq_99 trivial rfl).1.trans ffv_101
                      replace pf_x_6 : ∀ j : Nat, (j : Int) < (h_105.2.1 x 6).toInt → h_105.2.2 qa j ≠ none := by
                        intro j hj; rw [(hs.o gx trivial rfl).1] at hj; rw [(hs.a gqa rfl j).2]; exact pf_x_6 j hj
                      replace pf_x_13 : ∀ j : Nat, (j : Int) < (h_105.2.1 x 13).toInt → h_105.2.2 qh j ≠ none := by
                        intro j hj; rw [(hs.o gx trivial rfl).1] at hj; rw [(hs.a gqh rfl j).2]; exact pf_x_13 j hj
                      replace pf_x_11 : ∀ j : Nat, (j : Int) < (h_105.2.1 x 11).toInt → h_105.2.2 qc j ≠ none := by
                        intro j hj; rw [(hs.o gx trivial rfl).1] at hj; rw [(hs.a gqc rfl j).2]; exact pf_x_11 j hj
                      replace pf_x_8 : ∀ j : Nat, (j : Int) < (h_105.2.1 x 8).toInt → h_105.2.2 qp j ≠ none := by
                        intro j hj; rw [(hs.o gx trivial rfl).1] at hj; rw [(hs.a gqp rfl j).2]; exact pf_x_8 j hj
                      replace cl_qp_1 : hx_col 40 h_105 qp 1 = bnf := (hx_col_S hs hTo gqp tt_44 tt_4 rfl rfl).trans cl_qp_1
                      replace cl_qc_6 : hx_col 100 h_105 qc 6 = smf := (hx_col_S hs hTo gqc tt_45 tt_2 rfl rfl).trans cl_qc_6
                      replace cl_qc_7 : hx_col 100 h_105 qc 7 = frf := (hx_col_S hs hTo gqc tt_45 tt_2 rfl rfl).trans cl_qc_7
                      replace cl_qc_8 : hx_col 100 h_105 qc 8 = flf := (hx_col_S hs hTo gqc tt_45 tt_2 rfl rfl).trans cl_qc_8
                      replace cl_qc_9 : hx_col 100 h_105 qc 9 = tf := (hx_col_S hs hTo gqc tt_45 tt_2 rfl rfl).trans cl_qc_9
                      replace nu_qp : hx_num 40 h_105 qp 0 (pn0.toInt) := hx_num_S hs hTo gqp tt_44 tt_4 rfl rfl nu_qp
                      replace nu_qc : hx_num 100 h_105 qc 0 (cn0.toInt) := hx_num_S hs hTo gqc tt_45 tt_2 rfl rfl nu_qc
                      replace hDF : hw_DF h_105 qc qp 2 agf cn0.toInt := hw_DF_S hs hTo gqc gqp tt_45 tt_2 rfl rfl rfl hDF
                      replace hDP : hw_DF h_105 qc qp 1 byf cn0.toInt := hw_DF_S hs hTo gqc gqp tt_45 tt_2 rfl rfl rfl hDP
                      replace hRA : hv_RA h_105 qa w a0.toInt A := hv_RA_S hs hTo gqa gw tt_43 tt_0 rfl rfl rfl rfl rfl rfl (by omega) hRA
                      replace hFX : hv_FX 8 4 h_105 qc cF cn0.toInt := hv_FX_S hs hTo gqc tt_45 tt_2 rfl rfl rfl rfl hFX
                      replace hHL : hv_HL h_105 qh qc hof m0.toInt cn0.toInt := hv_HL_S hs gqh gqc rfl rfl hHL
                      replace hAQo : hv_AQ h_105 w i1.toInt (A (i1.toInt + 1).toNat) := hv_AQ_S hs hTo gw tt_0 rfl rfl rfl rfl rfl hAQo
                      replace ho_82d := (hs.a gqc rfl _).2.trans ho_82d
                      replace ho_100d := (hs.a gqc rfl _).2.trans ho_100d
                      replace nfa_87 : h_105.2.1 q_83 = fa_87 := (funext fun j => (hs.a gq_83 rfl j).1).trans nfa_87
                      replace nfa_88 : h_105.2.1 q_84 = fa_88 := (funext fun j => (hs.a gq_84 rfl j).1).trans nfa_88
                      replace nfa_89 : h_105.2.1 q_85 = fa_89 := (funext fun j => (hs.a gq_85 rfl j).1).trans nfa_89
                      replace hM := hM.tr (hs.mono (by decide))
                      replace gx := gx.S hs
                      replace gqa := gqa.S hs
                      replace gw := gw.S hs
                      replace gqh := gqh.S hs
                      replace gqc := gqc.S hs
                      replace gqp := gqp.S hs
                      replace gq_81 := gq_81.S hs
                      replace gq_83 := gq_83.S hs
                      replace gq_84 := gq_84.S hs
                      replace gq_85 := gq_85.S hs
                      replace gq_99 := gq_99.S hs
                      refine lv_iadd hx hb dX9_other_117 ?_
                      have rg_109 := i32_r iv54_5
                      have rg_110 := i32_r r_106
                      refine lv_topi (fun x_111 ex_111 => ?_)
                      have zx_111 : x_111.toInt = iv54_5.toInt + r_106.toInt := by rw [ex_111]; exact i32_add rfl rfl (by omega) (by omega)
                      refine lv_istore (lv' := [(5, .int x_111), (4, .int x_98), (7, .int r_92), (6, .int iv54_6), (3, .ref w), (0, .ref x), (1, .int i1), (2, .int i2)]) hx hb dX9_other_118 hl (by decide) rfl (fun ls hl => ?_)
                      obtain ⟨x_112, ex_112⟩ : ∃ y : Int32, y = iv54_6 + Int32.ofInt 1 := ⟨_, rfl⟩
                      have rg_113 := i32_r iv54_6
                      have zx_112 : x_112.toInt = iv54_6.toInt + (1) := by rw [ex_112]; exact i32_add rfl (by decide) (by omega) (by omega)
                      refine lv_iinc (v := x_112) (lv' := [(6, .int x_112), (5, .int x_111), (4, .int x_98), (7, .int r_92), (3, .ref w), (0, .ref x), (1, .int i1), (2, .int i2)]) hx hb dX9_other_120 hl (k := 3) rfl ex_112.symm (by decide) rfl (fun ls hl => ?_)
                      refine lv_goto (tgt := 54) hx hb dX9_other_123 (by decide) ?_
                      exact ih54 x_98 x_111 x_112 _ _ L_104 h_105 (by omega) (by omega) (by omega) (by omega) (by omega) (by omega) (by by_cases z9 : r_92.toInt = i2.toInt; exact hv_oc_y vi54_0 (by rw [← hJ_95]; exact z9) (by omega) (by omega) zx_112; exact hv_oc_n vi54_0 (by rw [← hJ_95]; exact z9) (by omega) (by omega) zx_112) (hv_os_s vi54_1 (c := r_106.toInt) (by show _ = (tf (hof iv54_6.toNatClampNeg).toNatClampNeg).toInt * _ + _ + _; rw [← ct_102, ← hJ_95]; by_cases z9 : r_92.toInt = 5; (rw [if_pos z9]; exact hr_108.1.1 (by omega)); (rw [if_neg z9, Int.add_zero]; exact hr_108.1.2 (by omega))) (by omega) zx_111 zx_112) (by omega) (by omega) (by omega) ls (by omega) hW hT hM f_x_5 f_x_4 f_x_12 f_x_10 f_x_7 f_x_11 f_x_8 f_x_13 f_x_6 gx gqa gw gqh gqc gqp pf_x_6 pf_x_13 pf_x_11 pf_x_8 cl_qp_1 cl_qc_6 cl_qc_7 cl_qc_8 cl_qc_9 nu_qp nu_qc hDF hDP hRA hFX hHL hAQo (lv_sub hl [0, 1, 2, 4, 5, 6, 7] rfl)
                    · skip
                      refine lv_iconst (v := 1) hx hb dX9_other_109 (by decide) ?_
                      refine lv_goto (tgt := 114) hx hb dX9_other_110 (by decide) ?_
                      have hTo := hT
                      have zc_1 : (1 : Int32).toInt = 1 := by decide
                      refine hx_goi (hx_runV (As := [.ref w, .int (1 : Int32)]) (rest := [.int iv54_5]) ⟨hx, hb, hml, hown, hts⟩ hW gq_99 tt_2 (T := TX2) (N := 19) rfl (t_X2_costsBy_v l dC dI dA L_90 h_91 H.size q_99 w (1 : Int32) hT gq_99 gw q_83 gq_83 fq_83 fa_87 nfa_87 fv_101 ffv_101 (A (i1.toInt + 1).toNat).2.1 (by rw [← nfa_87]; exact hAQo.2.2.1 _ fq_83) (hAB _).1 ⟨by omega, by omega⟩) (cwV 2 hts (hx_gV kw_849 kw_846 kw_847 kw_848 kw_110) rfl rfl rfl (by decide +kernel) ⟨Nat.le_of_ble_eq_true rfl, Nat.le_of_ble_eq_true rfl⟩) rfl hl.1 rfl (Nat.le_of_ble_eq_true rfl) dX9_other_114 ⟨Nat.le_of_ble_eq_true rfl, Nat.le_of_ble_eq_true rfl⟩) hW (fun r_116 L_114 h_115 H locs p_117 hW => ?_)
                      obtain ⟨hr_118, hT, hs⟩ := p_117
                      replace hT : hx_T T_tb L_114 h_115 := hT
                      replace hs : hx_S T_tb [] L_90 h_91 L_114 h_115 := hs
                      replace f_x_5 := (hs.o gx trivial rfl).2.trans f_x_5
                      replace f_x_4 := (hs.o gx trivial rfl).2.trans f_x_4
                      replace f_x_12 := (hs.o gx trivial rfl).2.trans f_x_12
                      replace f_x_10 := (hs.o gx trivial rfl).2.trans f_x_10
                      replace f_x_7 := (hs.o gx trivial rfl).2.trans f_x_7
                      replace f_x_11 := (hs.o gx trivial rfl).1.trans f_x_11
                      replace f_x_8 := (hs.o gx trivial rfl).1.trans f_x_8
                      replace f_x_13 := (hs.o gx trivial rfl).1.trans f_x_13
                      replace f_x_6 := (hs.o gx trivial rfl).1.trans f_x_6
                      replace fq_83 := (hs.o gw trivial rfl).2.trans fq_83
                      replace fq_84 := (hs.o gw trivial rfl).2.trans fq_84
                      replace fq_85 := (hs.o gq_81 trivial rfl).2.trans fq_85
                      replace ffv_86 := (hs.o gw trivial rfl).1.trans ffv_86
                      replace ffv_101 := (hs.o gq_99 trivial rfl).1.trans ffv_101
                      replace pf_x_6 : ∀ j : Nat, (j : Int) < (h_115.2.1 x 6).toInt → h_115.2.2 qa j ≠ none := by
                        intro j hj; rw [(hs.o gx trivial rfl).1] at hj; rw [(hs.a gqa rfl j).2]; exact pf_x_6 j hj
                      replace pf_x_13 : ∀ j : Nat, (j : Int) < (h_115.2.1 x 13).toInt → h_115.2.2 qh j ≠ none := by
                        intro j hj; rw [(hs.o gx trivial rfl).1] at hj; rw [(hs.a gqh rfl j).2]; exact pf_x_13 j hj
                      replace pf_x_11 : ∀ j : Nat, (j : Int) < (h_115.2.1 x 11).toInt → h_115.2.2 qc j ≠ none := by
                        intro j hj; rw [(hs.o gx trivial rfl).1] at hj; rw [(hs.a gqc rfl j).2]; exact pf_x_11 j hj
                      replace pf_x_8 : ∀ j : Nat, (j : Int) < (h_115.2.1 x 8).toInt → h_115.2.2 qp j ≠ none := by
                        intro j hj; rw [(hs.o gx trivial rfl).1] at hj; rw [(hs.a gqp rfl j).2]; exact pf_x_8 j hj
                      replace cl_qp_1 : hx_col 40 h_115 qp 1 = bnf := (hx_col_S hs hTo gqp tt_44 tt_4 rfl rfl).trans cl_qp_1
                      replace cl_qc_6 : hx_col 100 h_115 qc 6 = smf := (hx_col_S hs hTo gqc tt_45 tt_2 rfl rfl).trans cl_qc_6
                      replace cl_qc_7 : hx_col 100 h_115 qc 7 = frf := (hx_col_S hs hTo gqc tt_45 tt_2 rfl rfl).trans cl_qc_7
                      replace cl_qc_8 : hx_col 100 h_115 qc 8 = flf := (hx_col_S hs hTo gqc tt_45 tt_2 rfl rfl).trans cl_qc_8
                      replace cl_qc_9 : hx_col 100 h_115 qc 9 = tf := (hx_col_S hs hTo gqc tt_45 tt_2 rfl rfl).trans cl_qc_9
                      replace nu_qp : hx_num 40 h_115 qp 0 (pn0.toInt) := hx_num_S hs hTo gqp tt_44 tt_4 rfl rfl nu_qp
                      replace nu_qc : hx_num 100 h_115 qc 0 (cn0.toInt) := hx_num_S hs hTo gqc tt_45 tt_2 rfl rfl nu_qc
                      replace hDF : hw_DF h_115 qc qp 2 agf cn0.toInt := hw_DF_S hs hTo gqc gqp tt_45 tt_2 rfl rfl rfl hDF
                      replace hDP : hw_DF h_115 qc qp 1 byf cn0.toInt := hw_DF_S hs hTo gqc gqp tt_45 tt_2 rfl rfl rfl hDP
                      replace hRA : hv_RA h_115 qa w a0.toInt A := hv_RA_S hs hTo gqa gw tt_43 tt_0 rfl rfl rfl rfl rfl rfl (by omega) hRA
                      replace hFX : hv_FX 8 4 h_115 qc cF cn0.toInt := hv_FX_S hs hTo gqc tt_45 tt_2 rfl rfl rfl rfl hFX
                      replace hHL : hv_HL h_115 qh qc hof m0.toInt cn0.toInt := hv_HL_S hs gqh gqc rfl rfl hHL
                      replace hAQo : hv_AQ h_115 w i1.toInt (A (i1.toInt + 1).toNat) := hv_AQ_S hs hTo gw tt_0 rfl rfl rfl rfl rfl hAQo
                      replace ho_82d := (hs.a gqc rfl _).2.trans ho_82d
                      replace ho_100d := (hs.a gqc rfl _).2.trans ho_100d
                      replace nfa_87 : h_115.2.1 q_83 = fa_87 := (funext fun j => (hs.a gq_83 rfl j).1).trans nfa_87
                      replace nfa_88 : h_115.2.1 q_84 = fa_88 := (funext fun j => (hs.a gq_84 rfl j).1).trans nfa_88
                      replace nfa_89 : h_115.2.1 q_85 = fa_89 := (funext fun j => (hs.a gq_85 rfl j).1).trans nfa_89
                      replace hM := hM.tr (hs.mono (by decide))
                      replace gx := gx.S hs
                      replace gqa := gqa.S hs
                      replace gw := gw.S hs
                      replace gqh := gqh.S hs
                      replace gqc := gqc.S hs
                      replace gqp := gqp.S hs
                      replace gq_81 := gq_81.S hs
                      replace gq_83 := gq_83.S hs
                      replace gq_84 := gq_84.S hs
                      replace gq_85 := gq_85.S hs
                      replace gq_99 := gq_99.S hs
                      refine lv_iadd hx hb dX9_other_117 ?_
                      have rg_119 := i32_r iv54_5
                      have rg_120 := i32_r r_116
                      refine lv_topi (fun x_121 ex_121 => ?_)
                      have zx_121 : x_121.toInt = iv54_5.toInt + r_116.toInt := by rw [ex_121]; exact i32_add rfl rfl (by omega) (by omega)
                      refine lv_istore (lv' := [(5, .int x_121), (4, .int x_98), (7, .int r_92), (6, .int iv54_6), (3, .ref w), (0, .ref x), (1, .int i1), (2, .int i2)]) hx hb dX9_other_118 hl (by decide) rfl (fun ls hl => ?_)
                      obtain ⟨x_122, ex_122⟩ : ∃ y : Int32, y = iv54_6 + Int32.ofInt 1 := ⟨_, rfl⟩
                      have rg_123 := i32_r iv54_6
                      have zx_122 : x_122.toInt = iv54_6.toInt + (1) := by rw [ex_122]; exact i32_add rfl (by decide) (by omega) (by omega)
                      refine lv_iinc (v := x_122) (lv' := [(6, .int x_122), (5, .int x_121), (4, .int x_98), (7, .int r_92), (3, .ref w), (0, .ref x), (1, .int i1), (2, .int i2)]) hx hb dX9_other_120 hl (k := 3) rfl ex_122.symm (by decide) rfl (fun ls hl => ?_)
                      refine lv_goto (tgt := 54) hx hb dX9_other_123 (by decide) ?_
                      exact ih54 x_98 x_121 x_122 _ _ L_114 h_115 (by omega) (by omega) (by omega) (by omega) (by omega) (by omega) (by by_cases z9 : r_92.toInt = i2.toInt; exact hv_oc_y vi54_0 (by rw [← hJ_95]; exact z9) (by omega) (by omega) zx_122; exact hv_oc_n vi54_0 (by rw [← hJ_95]; exact z9) (by omega) (by omega) zx_122) (hv_os_s vi54_1 (c := r_116.toInt) (by show _ = (tf (hof iv54_6.toNatClampNeg).toNatClampNeg).toInt * _ + _ + _; rw [← ct_102, ← hJ_95]; by_cases z9 : r_92.toInt = 5; (rw [if_pos z9]; exact hr_118.1.1 (by omega)); (rw [if_neg z9, Int.add_zero]; exact hr_118.1.2 (by omega))) (by omega) zx_121 zx_122) (by omega) (by omega) (by omega) ls (by omega) hW hT hM f_x_5 f_x_4 f_x_12 f_x_10 f_x_7 f_x_11 f_x_8 f_x_13 f_x_6 gx gqa gw gqh gqc gqp pf_x_6 pf_x_13 pf_x_11 pf_x_8 cl_qp_1 cl_qc_6 cl_qc_7 cl_qc_8 cl_qc_9 nu_qp nu_qc hDF hDP hRA hFX hHL hAQo (lv_sub hl [0, 1, 2, 4, 5, 6, 7] rfl)
                  · skip
                    refine lv_iconst (v := 1) hx hb dX9_other_85 (by decide) ?_
                    refine lv_goto (tgt := 90) hx hb dX9_other_86 (by decide) ?_
                    refine lv_iadd hx hb dX9_other_90 ?_
                    have rg_124 := i32_r iv54_4
                    refine lv_topi (fun x_125 ex_125 => ?_)
                    have zx_125 : x_125.toInt = iv54_4.toInt + 1 := by rw [ex_125]; exact i32_add rfl (by decide) (by omega) (by omega)
                    refine lv_istore (lv' := [(4, .int x_125), (7, .int r_92), (6, .int iv54_6), (5, .int iv54_5), (3, .ref w), (0, .ref x), (1, .int i1), (2, .int i2)]) hx hb dX9_other_91 hl (by decide) rfl (fun ls hl => ?_)
                    refine lv_iload hx hb dX9_other_93 (lv_at hl 3 rfl) ?_
                    refine lv_aload_n hx hb dX9_other_95 rfl (lv_at hl 5 rfl) ?_
                    refine hk_getr hx hb hts hC_9 hown hW gx tt_9 12 (by decide) rfl kw_376 ⟨rfl, rfl, rfl⟩ f_x_12 dX9_other_96 ?_
                    refine lv_iload hx hb dX9_other_99 (lv_at hl 2 rfl) ?_
                    refine hx_aaldN hx hb hW hT gqh tt_46 (t1 := 2) rfl ⟨by omega, by omega⟩ (pf_x_13 _ (by rw [f_x_13]; exact hx_tnI (by omega) (by omega))) dX9_other_101 (fun q_126 fq_126 gq_126 => ?_)
                    obtain ⟨ho_127o, ho_127a, ho_127b, ho_127c, ho_127d⟩ := hHL iv54_6.toNatClampNeg (by unfold Int32.toNatClampNeg; omega) (by unfold Int32.toNatClampNeg; omega)
                    have ho_127e : ho_127o = q_126 := Option.some.inj (ho_127a.symm.trans fq_126)
                    rw [ho_127e] at ho_127d
                    have ho_127b : 0 ≤ (hof iv54_6.toNatClampNeg).toInt := ho_127b
                    have ho_127c : (hof iv54_6.toNatClampNeg).toInt < cn0.toInt := ho_127c
                    have ho_127d : h_91.2.2 qc (hof iv54_6.toNatClampNeg).toNatClampNeg = some q_126 := ho_127d
                    have ho_127u : 0 ≤ (hof iv54_6.toInt.toNat).toInt ∧ (hof iv54_6.toInt.toNat).toInt < cn0.toInt := ⟨ho_127b, ho_127c⟩
                    obtain ⟨fv_128, efv_128⟩ : ∃ y : Int32, y = h_91.2.1 q_126 9 := ⟨_, rfl⟩
                    have bfv_128 := hT.gi gq_126 tt_2 (k := 9) rfl
                    rw [← efv_128] at bfv_128
                    have bfv_128 : -2147483648 ≤ fv_128.toInt ∧ fv_128.toInt ≤ 2147483647 := bfv_128
                    have ffv_128 := efv_128.symm
                    have ct_129 : fv_128 = tf (hof iv54_6.toNatClampNeg).toNatClampNeg := by rw [← ffv_128, ← cl_qc_9]; exact (hx_col_at ho_127d (by unfold Int32.toNatClampNeg; omega)).symm
                    have ct_129b := htb (hof iv54_6.toNatClampNeg).toNatClampNeg (by unfold Int32.toNatClampNeg; omega); rw [← ct_129] at ct_129b
                    refine lv_aload_n hx hb dX9_other_102 rfl (lv_at hl 4 rfl) ?_
                    refine lv_iload hx hb dX9_other_103 (lv_at hl 1 rfl) ?_
                    refine lv_iconst (v := 5) hx hb dX9_other_105 (by decide) ?_
                    refine hb_icmp_ne (zx := r_92.toInt) (zy := 5) (tgt := 113) hx hb rfl (by decide) dX9_other_106 (by decide) (fun c_130 => ?_) (fun c_130 => ?_)
                    · skip
                      refine lv_iconst (v := 0) hx hb dX9_other_113 (by decide) ?_
                      have hTo := hT
                      have zc_0 : (0 : Int32).toInt = 0 := by decide
                      refine hx_goi (hx_runV (As := [.ref w, .int (0 : Int32)]) (rest := [.int iv54_5]) ⟨hx, hb, hml, hown, hts⟩ hW gq_126 tt_2 (T := TX2) (N := 19) rfl (t_X2_costsBy_v l dC dI dA L_90 h_91 H.size q_126 w (0 : Int32) hT gq_126 gw q_83 gq_83 fq_83 fa_87 nfa_87 fv_128 ffv_128 (A (i1.toInt + 1).toNat).2.1 (by rw [← nfa_87]; exact hAQo.2.2.1 _ fq_83) (hAB _).1 ⟨by omega, by omega⟩) (cwV 2 hts (hx_gV kw_849 kw_846 kw_847 kw_848 kw_110) rfl rfl rfl (by decide +kernel) ⟨Nat.le_of_ble_eq_true rfl, Nat.le_of_ble_eq_true rfl⟩) rfl hl.1 rfl (Nat.le_of_ble_eq_true rfl) dX9_other_114 ⟨Nat.le_of_ble_eq_true rfl, Nat.le_of_ble_eq_true rfl⟩) hW (fun r_133 L_131 h_132 H locs p_134 hW => ?_)
                      obtain ⟨hr_135, hT, hs⟩ := p_134
                      replace hT : hx_T T_tb L_131 h_132 := hT
                      replace hs : hx_S T_tb [] L_90 h_91 L_131 h_132 := hs
                      replace f_x_5 := (hs.o gx trivial rfl).2.trans f_x_5
                      replace f_x_4 := (hs.o gx trivial rfl).2.trans f_x_4
                      replace f_x_12 := (hs.o gx trivial rfl).2.trans f_x_12
                      replace f_x_10 := (hs.o gx trivial rfl).2.trans f_x_10
                      replace f_x_7 := (hs.o gx trivial rfl).2.trans f_x_7
                      replace f_x_11 := (hs.o gx trivial rfl).1.trans f_x_11
                      replace f_x_8 := (hs.o gx trivial rfl).1.trans f_x_8
                      replace f_x_13 := (hs.o gx trivial rfl).1.trans f_x_13
                      replace f_x_6 := (hs.o gx trivial rfl).1.trans f_x_6
                      replace fq_83 := (hs.o gw trivial rfl).2.trans fq_83
                      replace fq_84 := (hs.o gw trivial rfl).2.trans fq_84
                      replace fq_85 := (hs.o gq_81 trivial rfl).2.trans fq_85
                      replace ffv_86 := (hs.o gw trivial rfl).1.trans ffv_86
                      replace ffv_128 := (hs.o gq_126 trivial rfl).1.trans ffv_128
                      replace pf_x_6 : ∀ j : Nat, (j : Int) < (h_132.2.1 x 6).toInt → h_132.2.2 qa j ≠ none := by
                        intro j hj; rw [(hs.o gx trivial rfl).1] at hj; rw [(hs.a gqa rfl j).2]; exact pf_x_6 j hj
                      replace pf_x_13 : ∀ j : Nat, (j : Int) < (h_132.2.1 x 13).toInt → h_132.2.2 qh j ≠ none := by
                        intro j hj; rw [(hs.o gx trivial rfl).1] at hj; rw [(hs.a gqh rfl j).2]; exact pf_x_13 j hj
                      replace pf_x_11 : ∀ j : Nat, (j : Int) < (h_132.2.1 x 11).toInt → h_132.2.2 qc j ≠ none := by
                        intro j hj; rw [(hs.o gx trivial rfl).1] at hj; rw [(hs.a gqc rfl j).2]; exact pf_x_11 j hj
                      replace pf_x_8 : ∀ j : Nat, (j : Int) < (h_132.2.1 x 8).toInt → h_132.2.2 qp j ≠ none := by
                        intro j hj; rw [(hs.o gx trivial rfl).1] at hj; rw [(hs.a gqp rfl j).2]; exact pf_x_8 j hj
                      replace cl_qp_1 : hx_col 40 h_132 qp 1 = bnf := (hx_col_S hs hTo gqp tt_44 tt_4 rfl rfl).trans cl_qp_1
                      replace cl_qc_6 : hx_col 100 h_132 qc 6 = smf := (hx_col_S hs hTo gqc tt_45 tt_2 rfl rfl).trans cl_qc_6
                      replace cl_qc_7 : hx_col 100 h_132 qc 7 = frf := (hx_col_S hs hTo gqc tt_45 tt_2 rfl rfl).trans cl_qc_7
                      replace cl_qc_8 : hx_col 100 h_132 qc 8 = flf := (hx_col_S hs hTo gqc tt_45 tt_2 rfl rfl).trans cl_qc_8
                      replace cl_qc_9 : hx_col 100 h_132 qc 9 = tf := (hx_col_S hs hTo gqc tt_45 tt_2 rfl rfl).trans cl_qc_9
                      replace nu_qp : hx_num 40 h_132 qp 0 (pn0.toInt) := hx_num_S hs hTo gqp tt_44 tt_4 rfl rfl nu_qp
                      replace nu_qc : hx_num 100 h_132 qc 0 (cn0.toInt) := hx_num_S hs hTo gqc tt_45 tt_2 rfl rfl nu_qc
                      replace hDF : hw_DF h_132 qc qp 2 agf cn0.toInt := hw_DF_S hs hTo gqc gqp tt_45 tt_2 rfl rfl rfl hDF
                      replace hDP : hw_DF h_132 qc qp 1 byf cn0.toInt := hw_DF_S hs hTo gqc gqp tt_45 tt_2 rfl rfl rfl hDP
                      replace hRA : hv_RA h_132 qa w a0.toInt A := hv_RA_S hs hTo gqa gw tt_43 tt_0 rfl rfl rfl rfl rfl rfl (by omega) hRA
                      replace hFX : hv_FX 8 4 h_132 qc cF cn0.toInt := hv_FX_S hs hTo gqc tt_45 tt_2 rfl rfl rfl rfl hFX
                      replace hHL : hv_HL h_132 qh qc hof m0.toInt cn0.toInt := hv_HL_S hs gqh gqc rfl rfl hHL
                      replace hAQo : hv_AQ h_132 w i1.toInt (A (i1.toInt + 1).toNat) := hv_AQ_S hs hTo gw tt_0 rfl rfl rfl rfl rfl hAQo
                      replace ho_82d := (hs.a gqc rfl _).2.trans ho_82d
                      replace ho_127d := (hs.a gqc rfl _).2.trans ho_127d
                      replace nfa_87 : h_132.2.1 q_83 = fa_87 := (funext fun j => (hs.a gq_83 rfl j).1).trans nfa_87
                      replace nfa_88 : h_132.2.1 q_84 = fa_88 := (funext fun j => (hs.a gq_84 rfl j).1).trans nfa_88
                      replace nfa_89 : h_132.2.1 q_85 = fa_89 := (funext fun j => (hs.a gq_85 rfl j).1).trans nfa_89
                      replace hM := hM.tr (hs.mono (by decide))
                      replace gx := gx.S hs
                      replace gqa := gqa.S hs
                      replace gw := gw.S hs
                      replace gqh := gqh.S hs
                      replace gqc := gqc.S hs
                      replace gqp := gqp.S hs
                      replace gq_81 := gq_81.S hs
                      replace gq_83 := gq_83.S hs
                      replace gq_84 := gq_84.S hs
                      replace gq_85 := gq_85.S hs
                      replace gq_126 := gq_126.S hs
                      refine lv_iadd hx hb dX9_other_117 ?_
                      have rg_136 := i32_r iv54_5
                      have rg_137 := i32_r r_133
                      refine lv_topi (fun x_138 ex_138 => ?_)
                      have zx_138 : x_138.toInt = iv54_5.toInt + r_133.toInt := by rw [ex_138]; exact i32_add rfl rfl (by omega) (by omega)
                      refine lv_istore (lv' := [(5, .int x_138), (4, .int x_125), (7, .int r_92), (6, .int iv54_6), (3, .ref w), (0, .ref x), (1, .int i1), (2, .int i2)]) hx hb dX9_other_118 hl (by decide) rfl (fun ls hl => ?_)
                      obtain ⟨x_139, ex_139⟩ : ∃ y : Int32, y = iv54_6 + Int32.ofInt 1 := ⟨_, rfl⟩
                      have rg_140 := i32_r iv54_6
                      have zx_139 : x_139.toInt = iv54_6.toInt + (1) := by rw [ex_139]; exact i32_add rfl (by decide) (by omega) (by omega)
                      refine lv_iinc (v := x_139) (lv' := [(6, .int x_139), (5, .int x_138), (4, .int x_125), (7, .int r_92), (3, .ref w), (0, .ref x), (1, .int i1), (2, .int i2)]) hx hb dX9_other_120 hl (k := 3) rfl ex_139.symm (by decide) rfl (fun ls hl => ?_)
                      refine lv_goto (tgt := 54) hx hb dX9_other_123 (by decide) ?_
                      exact ih54 x_125 x_138 x_139 _ _ L_131 h_132 (by omega) (by omega) (by omega) (by omega) (by omega) (by omega) (by by_cases z9 : r_92.toInt = i2.toInt; exact hv_oc_y vi54_0 (by rw [← hJ_95]; exact z9) (by omega) (by omega) zx_139; exact hv_oc_n vi54_0 (by rw [← hJ_95]; exact z9) (by omega) (by omega) zx_139) (hv_os_s vi54_1 (c := r_133.toInt) (by show _ = (tf (hof iv54_6.toNatClampNeg).toNatClampNeg).toInt * _ + _ + _; rw [← ct_129, ← hJ_95]; by_cases z9 : r_92.toInt = 5; (rw [if_pos z9]; exact hr_135.1.1 (by omega)); (rw [if_neg z9, Int.add_zero]; exact hr_135.1.2 (by omega))) (by omega) zx_138 zx_139) (by omega) (by omega) (by omega) ls (by omega) hW hT hM f_x_5 f_x_4 f_x_12 f_x_10 f_x_7 f_x_11 f_x_8 f_x_13 f_x_6 gx gqa gw gqh gqc gqp pf_x_6 pf_x_13 pf_x_11 pf_x_8 cl_qp_1 cl_qc_6 cl_qc_7 cl_qc_8 cl_qc_9 nu_qp nu_qc hDF hDP hRA hFX hHL hAQo (lv_sub hl [0, 1, 2, 4, 5, 6, 7] rfl)
                    · skip
                      refine lv_iconst (v := 1) hx hb dX9_other_109 (by decide) ?_
                      refine lv_goto (tgt := 114) hx hb dX9_other_110 (by decide) ?_
                      have hTo := hT
                      have zc_1 : (1 : Int32).toInt = 1 := by decide
                      refine hx_goi (hx_runV (As := [.ref w, .int (1 : Int32)]) (rest := [.int iv54_5]) ⟨hx, hb, hml, hown, hts⟩ hW gq_126 tt_2 (T := TX2) (N := 19) rfl (t_X2_costsBy_v l dC dI dA L_90 h_91 H.size q_126 w (1 : Int32) hT gq_126 gw q_83 gq_83 fq_83 fa_87 nfa_87 fv_128 ffv_128 (A (i1.toInt + 1).toNat).2.1 (by rw [← nfa_87]; exact hAQo.2.2.1 _ fq_83) (hAB _).1 ⟨by omega, by omega⟩) (cwV 2 hts (hx_gV kw_849 kw_846 kw_847 kw_848 kw_110) rfl rfl rfl (by decide +kernel) ⟨Nat.le_of_ble_eq_true rfl, Nat.le_of_ble_eq_true rfl⟩) rfl hl.1 rfl (Nat.le_of_ble_eq_true rfl) dX9_other_114 ⟨Nat.le_of_ble_eq_true rfl, Nat.le_of_ble_eq_true rfl⟩) hW (fun r_143 L_141 h_142 H locs p_144 hW => ?_)
                      obtain ⟨hr_145, hT, hs⟩ := p_144
                      replace hT : hx_T T_tb L_141 h_142 := hT
                      replace hs : hx_S T_tb [] L_90 h_91 L_141 h_142 := hs
                      replace f_x_5 := (hs.o gx trivial rfl).2.trans f_x_5
                      replace f_x_4 := (hs.o gx trivial rfl).2.trans f_x_4
                      replace f_x_12 := (hs.o gx trivial rfl).2.trans f_x_12
                      replace f_x_10 := (hs.o gx trivial rfl).2.trans f_x_10
                      replace f_x_7 := (hs.o gx trivial rfl).2.trans f_x_7
                      replace f_x_11 := (hs.o gx trivial rfl).1.trans f_x_11
                      replace f_x_8 := (hs.o gx trivial rfl).1.trans f_x_8
                      replace f_x_13 := (hs.o gx trivial rfl).1.trans f_x_13
                      replace f_x_6 := (hs.o gx trivial rfl).1.trans f_x_6
                      replace fq_83 := (hs.o gw trivial rfl).2.trans fq_83
                      replace fq_84 := (hs.o gw trivial rfl).2.trans fq_84
                      replace fq_85 := (hs.o gq_81 trivial rfl).2.trans fq_85
                      replace ffv_86 := (hs.o gw trivial rfl).1.trans ffv_86
                      replace ffv_128 := (hs.o gq_126 trivial rfl).1.trans ffv_128
                      replace pf_x_6 : ∀ j : Nat, (j : Int) < (h_142.2.1 x 6).toInt → h_142.2.2 qa j ≠ none := by
                        intro j hj; rw [(hs.o gx trivial rfl).1] at hj; rw [(hs.a gqa rfl j).2]; exact pf_x_6 j hj
                      replace pf_x_13 : ∀ j : Nat, (j : Int) < (h_142.2.1 x 13).toInt → h_142.2.2 qh j ≠ none := by
                        intro j hj; rw [(hs.o gx trivial rfl).1] at hj; rw [(hs.a gqh rfl j).2]; exact pf_x_13 j hj
                      replace pf_x_11 : ∀ j : Nat, (j : Int) < (h_142.2.1 x 11).toInt → h_142.2.2 qc j ≠ none := by
                        intro j hj; rw [(hs.o gx trivial rfl).1] at hj; rw [(hs.a gqc rfl j).2]; exact pf_x_11 j hj
                      replace pf_x_8 : ∀ j : Nat, (j : Int) < (h_142.2.1 x 8).toInt → h_142.2.2 qp j ≠ none := by
                        intro j hj; rw [(hs.o gx trivial rfl).1] at hj; rw [(hs.a gqp rfl j).2]; exact pf_x_8 j hj
                      replace cl_qp_1 : hx_col 40 h_142 qp 1 = bnf := (hx_col_S hs hTo gqp tt_44 tt_4 rfl rfl).trans cl_qp_1
                      replace cl_qc_6 : hx_col 100 h_142 qc 6 = smf := (hx_col_S hs hTo gqc tt_45 tt_2 rfl rfl).trans cl_qc_6
                      replace cl_qc_7 : hx_col 100 h_142 qc 7 = frf := (hx_col_S hs hTo gqc tt_45 tt_2 rfl rfl).trans cl_qc_7
                      replace cl_qc_8 : hx_col 100 h_142 qc 8 = flf := (hx_col_S hs hTo gqc tt_45 tt_2 rfl rfl).trans cl_qc_8
                      replace cl_qc_9 : hx_col 100 h_142 qc 9 = tf := (hx_col_S hs hTo gqc tt_45 tt_2 rfl rfl).trans cl_qc_9
                      replace nu_qp : hx_num 40 h_142 qp 0 (pn0.toInt) := hx_num_S hs hTo gqp tt_44 tt_4 rfl rfl nu_qp
                      replace nu_qc : hx_num 100 h_142 qc 0 (cn0.toInt) := hx_num_S hs hTo gqc tt_45 tt_2 rfl rfl nu_qc
                      replace hDF : hw_DF h_142 qc qp 2 agf cn0.toInt := hw_DF_S hs hTo gqc gqp tt_45 tt_2 rfl rfl rfl hDF
                      replace hDP : hw_DF h_142 qc qp 1 byf cn0.toInt := hw_DF_S hs hTo gqc gqp tt_45 tt_2 rfl rfl rfl hDP
                      replace hRA : hv_RA h_142 qa w a0.toInt A := hv_RA_S hs hTo gqa gw tt_43 tt_0 rfl rfl rfl rfl rfl rfl (by omega) hRA
                      replace hFX : hv_FX 8 4 h_142 qc cF cn0.toInt := hv_FX_S hs hTo gqc tt_45 tt_2 rfl rfl rfl rfl hFX
                      replace hHL : hv_HL h_142 qh qc hof m0.toInt cn0.toInt := hv_HL_S hs gqh gqc rfl rfl hHL
                      replace hAQo : hv_AQ h_142 w i1.toInt (A (i1.toInt + 1).toNat) := hv_AQ_S hs hTo gw tt_0 rfl rfl rfl rfl rfl hAQo
                      replace ho_82d := (hs.a gqc rfl _).2.trans ho_82d
                      replace ho_127d := (hs.a gqc rfl _).2.trans ho_127d
                      replace nfa_87 : h_142.2.1 q_83 = fa_87 := (funext fun j => (hs.a gq_83 rfl j).1).trans nfa_87
                      replace nfa_88 : h_142.2.1 q_84 = fa_88 := (funext fun j => (hs.a gq_84 rfl j).1).trans nfa_88
                      replace nfa_89 : h_142.2.1 q_85 = fa_89 := (funext fun j => (hs.a gq_85 rfl j).1).trans nfa_89
                      replace hM := hM.tr (hs.mono (by decide))
                      replace gx := gx.S hs
                      replace gqa := gqa.S hs
                      replace gw := gw.S hs
                      replace gqh := gqh.S hs
                      replace gqc := gqc.S hs
                      replace gqp := gqp.S hs
                      replace gq_81 := gq_81.S hs
                      replace gq_83 := gq_83.S hs
                      replace gq_84 := gq_84.S hs
                      replace gq_85 := gq_85.S hs
                      replace gq_126 := gq_126.S hs
                      refine lv_iadd hx hb dX9_other_117 ?_
                      have rg_146 := i32_r iv54_5
                      have rg_147 := i32_r r_143
                      refine lv_topi (fun x_148 ex_148 => ?_)
                      have zx_148 : x_148.toInt = iv54_5.toInt + r_143.toInt := by rw [ex_148]; exact i32_add rfl rfl (by omega) (by omega)
                      refine lv_istore (lv' := [(5, .int x_148), (4, .int x_125), (7, .int r_92), (6, .int iv54_6), (3, .ref w), (0, .ref x), (1, .int i1), (2, .int i2)]) hx hb dX9_other_118 hl (by decide) rfl (fun ls hl => ?_)
                      obtain ⟨x_149, ex_149⟩ : ∃ y : Int32, y = iv54_6 + Int32.ofInt 1 := ⟨_, rfl⟩
                      have rg_150 := i32_r iv54_6
                      have zx_149 : x_149.toInt = iv54_6.toInt + (1) := by rw [ex_149]; exact i32_add rfl (by decide) (by omega) (by omega)
                      refine lv_iinc (v := x_149) (lv' := [(6, .int x_149), (5, .int x_148), (4, .int x_125), (7, .int r_92), (3, .ref w), (0, .ref x), (1, .int i1), (2, .int i2)]) hx hb dX9_other_120 hl (k := 3) rfl ex_149.symm (by decide) rfl (fun ls hl => ?_)
                      refine lv_goto (tgt := 54) hx hb dX9_other_123 (by decide) ?_
                      exact ih54 x_125 x_148 x_149 _ _ L_141 h_142 (by omega) (by omega) (by omega) (by omega) (by omega) (by omega) (by by_cases z9 : r_92.toInt = i2.toInt; exact hv_oc_y vi54_0 (by rw [← hJ_95]; exact z9) (by omega) (by omega) zx_149; exact hv_oc_n vi54_0 (by rw [← hJ_95]; exact z9) (by omega) (by omega) zx_149) (hv_os_s vi54_1 (c := r_143.toInt) (by show _ = (tf (hof iv54_6.toNatClampNeg).toNatClampNeg).toInt * _ + _ + _; rw [← ct_129, ← hJ_95]; by_cases z9 : r_92.toInt = 5; (rw [if_pos z9]; exact hr_145.1.1 (by omega)); (rw [if_neg z9, Int.add_zero]; exact hr_145.1.2 (by omega))) (by omega) zx_148 zx_149) (by omega) (by omega) (by omega) ls (by omega) hW hT hM f_x_5 f_x_4 f_x_12 f_x_10 f_x_7 f_x_11 f_x_8 f_x_13 f_x_6 gx gqa gw gqh gqc gqp pf_x_6 pf_x_13 pf_x_11 pf_x_8 cl_qp_1 cl_qc_6 cl_qc_7 cl_qc_8 cl_qc_9 nu_qp nu_qc hDF hDP hRA hFX hHL hAQo (lv_sub hl [0, 1, 2, 4, 5, 6, 7] rfl)
            have zk_0 : (0 : Int32).toInt = 0 := by decide
            have zk_0 : (0 : Int32).toInt = 0 := by decide
            have zk_0 : (0 : Int32).toInt = 0 := by decide
            exact loop54 101 (0 : Int32) (0 : Int32) (0 : Int32) _ _ L h (by decide) (by decide) (by decide) (by decide) (by decide) (by decide) (by rw [zk_0]; rfl) (by rw [zk_0]; rfl) (by omega) (by omega) (by omega) ls (by omega) hW hT hM f_x_5 f_x_4 f_x_12 f_x_10 f_x_7 f_x_11 f_x_8 f_x_13 f_x_6 gx gqa gw gqh gqc gqp pf_x_6 pf_x_13 pf_x_11 pf_x_8 cl_qp_1 cl_qc_6 cl_qc_7 cl_qc_8 cl_qc_9 nu_qp nu_qc hDF hDP hRA hFX hHL hAQo hl
        · skip
          refine lv_iconst (v := -1) hx hb dX9_other_24 (by decide) ?_
          exact hx_reti hx hb hr hlk hW ⟨(Or.inl ⟨by omega, by decide⟩), hT, hM⟩ dX9_other_25
