
set_option maxHeartbeats 4000000 in
set_option maxRecDepth 100000 in
theorem t_X9_sumOfSplit_v (l : Launch) (dC : Nat → ClassId) (dI : Nat → Nat → Nat) (dA : Nat → ClassId) (L : List Nat) (h : hx_h) (sz : Nat) (x : Nat) (v1 : Nat) (v2 : Nat) (hT : hx_T T_tb L h) (gx : hx_g L h x 9) (gv1 : hx_g L h v1 2) (gv2 : hx_g L h v2 0) (qp : Nat) (gqp : hx_g L h qp 44) (f_x_7 : h.2.2 x 7 = some qp) (qc : Nat) (gqc : hx_g L h qc 45) (f_x_10 : h.2.2 x 10 = some qc) (qt : Nat) (gqt : hx_g L h qt 11) (f_v2_2 : h.2.2 v2 2 = some qt) (ic : Int32) (eo_v1 : h.2.2 qc ic.toNatClampNeg = some v1) (ob_ic : 0 ≤ ic.toInt ∧ ic.toInt ≤ 99) (tf : Nat → Int32) (af_qt : h.2.1 qt = tf) (cn0 : Int32) (f_x_11 : h.2.1 x 11 = cn0) (pn0 : Int32) (f_x_8 : h.2.1 x 8 = pn0) (smf : Nat → Int32) (cl_qc_6 : hx_col 100 h qc 6 = smf) (flf : Nat → Int32) (cl_qc_8 : hx_col 100 h qc 8 = flf) (nu_qp : hx_num 40 h qp 0 (pn0.toInt)) (agf byf : Nat → Int32) (hDF : hw_DF h qc qp 2 agf cn0.toInt) (hDP : hw_DF h qc qp 1 byf cn0.toInt) (R : Nat → Int) (hR : hv_rC tf = R) (hRb : ∀ k, 0 ≤ R k ∧ R k ≤ 9999) (hcn : ic.toInt < cn0.toInt) (pf_x_8 : ∀ j : Nat, (j : Int) < (h.2.1 x 8).toInt → h.2.2 qp j ≠ none) (pf_x_11 : ∀ j : Nat, (j : Int) < (h.2.1 x 11).toInt → h.2.2 qc j ≠ none) : Met l yX9_sumOfSplit (Cond.code yX9_sumOfSplit cX9_sumOfSplit 6 (some .int) :: hx_all) ({ frames := 0, cells := 0, slots := 0, locals := 0 }) (va_Pc [.ref x, .ref v1, .ref v2] (hx_B T_tb (P_ty dA) (dC, dI) vwCl L h sz)) (va_Qi (fun (r : Int32) (u : List Nat × hx_h) => (r.toInt = hv_sm byf agf flf smf (byf ic.toNatClampNeg).toInt (agf ic.toNatClampNeg).toInt ((flf ic.toNatClampNeg).toInt - R 1) cn0.toInt.toNat ∧ (0 ≤ r.toInt ∧ r.toInt ≤ 999900)) ∧ hx_T T_tb u.1 u.2 ∧ hx_S T_tb [] L h u.1 u.2) (hx_E T_tb (P_ty dA) (dC, dI) vwCl (hx_A L sz)) (hx_A L sz)) 0 0 (hx_A L sz) := by
  refine hx_met (lv := [(0, .ref x), (1, .ref v1), (2, .ref v2)]) (by decide +kernel) rfl (Nat.le_of_ble_eq_true rfl) rfl ?_
  intro p e s m below meth c hx hb hml hr hlk hts0 hown hin hsz hW ls hl
  have hts : ∀ w ∈ hx_all, w.before _ s = true := fun w hw => hts0 w (List.mem_cons_of_mem _ hw)
  have hown : s.vm.findClass "SmallCourt" = some m.cls := hown
  have hM : hx_S T_tb [] L h L h := hx_S.rf
  have b_cn0 := hT.gi gx tt_9 (k := 11) rfl
  rw [f_x_11] at b_cn0
  have b_cn0 : 0 ≤ cn0.toInt ∧ cn0.toInt ≤ 100 := b_cn0
  have b_pn0 := hT.gi gx tt_9 (k := 8) rfl
  rw [f_x_8] at b_pn0
  have b_pn0 : 0 ≤ pn0.toInt ∧ pn0.toInt ≤ 40 := b_pn0
  obtain ⟨fv_1, efv_1⟩ : ∃ y : Int32, y = h.2.1 v1 8 := ⟨_, rfl⟩
  have bfv_1 := hT.gi (gv1.S hM) tt_2 (k := 8) rfl
  rw [← efv_1] at bfv_1
  have bfv_1 : 0 ≤ fv_1.toInt ∧ fv_1.toInt ≤ 7999 := bfv_1
  have ffv_1 := efv_1.symm
  have cv1f9 : fv_1 = flf ic.toNatClampNeg := by rw [← ffv_1, ← cl_qc_8]; exact (hx_col_at eo_v1 (by unfold Int32.toNatClampNeg; omega)).symm
  refine lv_iconst (v := 0) hx hb dX9_sumOfSplit_0 (by decide) ?_
  refine lv_istore_n (lv' := [(3, .int (0 : Int32)), (0, .ref x), (1, .ref v1), (2, .ref v2)]) hx hb dX9_sumOfSplit_1 rfl hl (by decide) rfl (fun ls hl => ?_)
  refine lv_iconst (v := 0) hx hb dX9_sumOfSplit_2 (by decide) ?_
  refine lv_istore (lv' := [(4, .int (0 : Int32)), (3, .int (0 : Int32)), (0, .ref x), (1, .ref v1), (2, .ref v2)]) hx hb dX9_sumOfSplit_3 hl (by decide) rfl (fun ls hl => ?_)
  have loop5 : ∀ (n5 : Nat) (iv5_3 iv5_4 : Int32) (H : Heap) (locs : List Loc) (hL1 : List Nat) (hl1 : hx_h), 0 ≤ iv5_3.toInt → iv5_3.toInt ≤ 999900 → 0 ≤ iv5_4.toInt → iv5_4.toInt ≤ 100 → (iv5_3.toInt = hv_sm byf agf flf smf (byf ic.toNatClampNeg).toInt (agf ic.toNatClampNeg).toInt ((flf ic.toNatClampNeg).toInt - R 1) (iv5_4.toInt).toNat) → (iv5_3.toInt ≤ 9999 * iv5_4.toInt) → (iv5_4.toInt ≤ cn0.toInt) → ∀ (ls : Array Slot), 100 - iv5_4.toInt < (n5 : Int) → hx_W T_tb (P_ty dA) (dC, dI) vwCl (hx_A L sz) s.heap hL1 hl1 s H locs → hx_T T_tb hL1 hl1 → hx_S T_tb [] L h hL1 hl1 → hl1.2.2 x 7 = some qp → hl1.2.2 x 10 = some qc → hl1.2.1 x 11 = cn0 → hl1.2.1 x 8 = pn0 → hl1.2.1 v1 8 = fv_1 → hx_g hL1 hl1 x 9 → hx_g hL1 hl1 qp 44 → hx_g hL1 hl1 qc 45 → (∀ j : Nat, (j : Int) < (hl1.2.1 x 8).toInt → hl1.2.2 qp j ≠ none) → (∀ j : Nat, (j : Int) < (hl1.2.1 x 11).toInt → hl1.2.2 qc j ≠ none) → hx_col 100 hl1 qc 6 = smf → hx_col 100 hl1 qc 8 = flf → hx_num 40 hl1 qp 0 (pn0.toInt) → hl1.2.2 qc ic.toNatClampNeg = some v1 → hw_DF hl1 qc qp 2 agf cn0.toInt → hw_DF hl1 qc qp 1 byf cn0.toInt → lv_has ls 6 [(4, .int iv5_4), (3, .int iv5_3), (0, .ref x), (1, .ref v1), (2, .ref v2)] → W p l e ({ frames := 0, cells := 0, slots := 0, locals := 0 }) s m ([.ref x, .ref v1, .ref v2] : List Value).toArray below meth c H locs 0 0 (MQ below (va_Qi (fun (r : Int32) (u : List Nat × hx_h) => (r.toInt = hv_sm byf agf flf smf (byf ic.toNatClampNeg).toInt (agf ic.toNatClampNeg).toInt ((flf ic.toNatClampNeg).toInt - R 1) cn0.toInt.toNat ∧ (0 ≤ r.toInt ∧ r.toInt ≤ 999900)) ∧ hx_T T_tb u.1 u.2 ∧ hx_S T_tb [] L h u.1 u.2) (hx_E T_tb (P_ty dA) (dC, dI) vwCl (hx_A L sz)) (hx_A L sz)) ([.ref x, .ref v1, .ref v2] : List Value).toArray s 0 0 (hx_A L sz)) (F0 m 5 ls []) := by
    intro n5
    induction n5 with
    | zero => intro iv5_3 iv5_4 H locs hL1 hl1 bliv5_3 buiv5_3 bliv5_4 buiv5_4 vi5_0 vi5_1 vi5_2 ls hn5; exfalso; omega
    | succ n5 ih5 =>
      intro iv5_3 iv5_4 H locs hL1 hl1 bliv5_3 buiv5_3 bliv5_4 buiv5_4 vi5_0 vi5_1 vi5_2 ls hn5 hW hT hM f_x_7 f_x_10 f_x_11 f_x_8 ffv_1 gx gqp gqc pf_x_8 pf_x_11 cl_qc_6 cl_qc_8 nu_qp eo_v1 hDF hDP hl
      refine lv_iload hx hb dX9_sumOfSplit_5 (lv_at hl 0 rfl) ?_
      refine lv_aload_n hx hb dX9_sumOfSplit_7 rfl (lv_at hl 2 rfl) ?_
      refine hk_geti hx hb hts hC_9 hown hW gx tt_9 11 (by decide) rfl kw_375 ⟨rfl, rfl, rfl⟩ f_x_11 dX9_sumOfSplit_8 ?_
      refine hb_icmp_ge (zx := iv5_4.toInt) (zy := cn0.toInt) (tgt := 80) hx hb rfl rfl dX9_sumOfSplit_11 (by decide) (fun c_2 => ?_) (fun c_2 => ?_)
      · skip
        refine lv_iload_n hx hb dX9_sumOfSplit_80 rfl (lv_at hl 1 rfl) ?_
        exact hx_reti hx hb hr hlk hW ⟨⟨(by have h8 := vi5_0; rw [show iv5_4.toInt.toNat = cn0.toInt.toNat by omega] at h8; exact h8), by omega, by omega⟩, hT, hM⟩ dX9_sumOfSplit_81
      · skip
        refine lv_aload_n hx hb dX9_sumOfSplit_14 rfl (lv_at hl 2 rfl) ?_
        refine hk_getr hx hb hts hC_9 hown hW gx tt_9 10 (by decide) rfl kw_374 ⟨rfl, rfl, rfl⟩ f_x_10 dX9_sumOfSplit_15 ?_
        refine lv_iload hx hb dX9_sumOfSplit_18 (lv_at hl 0 rfl) ?_
        refine hx_aaldN hx hb hW hT gqc tt_45 (t1 := 2) rfl ⟨by omega, by omega⟩ (pf_x_11 _ (by rw [f_x_11]; exact hx_tnI (by omega) (by omega))) dX9_sumOfSplit_20 (fun q_3 fq_3 gq_3 => ?_)
        refine lv_astore (lv' := [(5, .ref q_3), (4, .int iv5_4), (3, .int iv5_3), (0, .ref x), (1, .ref v1), (2, .ref v2)]) hx hb dX9_sumOfSplit_21 hl (by decide) rfl (fun ls hl => ?_)
        refine lv_aload hx hb dX9_sumOfSplit_23 (lv_at hl 0 rfl) ?_
        refine hx_getn hx hb hts hC_2 hown hW hT gq_3 tt_2 1 (by decide) rfl kw_728 ⟨rfl, rfl, rfl⟩ dX9_sumOfSplit_25 (fun q_4 fq_4 gq_4 => ?_)
        refine lv_aload_n hx hb dX9_sumOfSplit_28 rfl (lv_at hl 4 rfl) ?_
        refine hx_getn hx hb hts hC_2 hown hW hT (gv1.S hM) tt_2 1 (by decide) rfl kw_728 ⟨rfl, rfl, rfl⟩ dX9_sumOfSplit_29 (fun q_5 fq_5 gq_5 => ?_)
        have hp_6 := hv_pid hDP nu_qp (by unfold Int32.toNatClampNeg; omega) (by unfold Int32.toNatClampNeg; omega) (by unfold Int32.toNatClampNeg; omega) (by unfold Int32.toNatClampNeg; omega) fq_3 eo_v1 fq_4 fq_5
        refine lv_acmp_ne (rx := (some q_4)) (ry := (some q_5)) (tgt := 74) hx hb dX9_sumOfSplit_32 (by decide) (fun c_7 => ?_) (fun c_7 => ?_)
        · skip
          obtain ⟨x_8, ex_8⟩ : ∃ y : Int32, y = iv5_4 + Int32.ofInt 1 := ⟨_, rfl⟩
          have rg_9 := i32_r iv5_4
          have zx_8 : x_8.toInt = iv5_4.toInt + (1) := by rw [ex_8]; exact i32_add rfl (by decide) (by omega) (by omega)
          refine lv_iinc (v := x_8) (lv' := [(4, .int x_8), (5, .ref q_3), (3, .int iv5_3), (0, .ref x), (1, .ref v1), (2, .ref v2)]) hx hb dX9_sumOfSplit_74 hl (k := 1) rfl ex_8.symm (by decide) rfl (fun ls hl => ?_)
          refine lv_goto (tgt := 5) hx hb dX9_sumOfSplit_77 (by decide) ?_
          exact ih5 iv5_3 x_8 _ _ hL1 hl1 (by omega) (by omega) (by omega) (by omega) (hv_sm_n vi5_0 (hv_sq_f (fun z => c_7 (congrArg some (hp_6.mpr z.1)))) (by omega) zx_8) (by omega) (by omega) ls (by omega) hW hT hM f_x_7 f_x_10 f_x_11 f_x_8 ffv_1 gx gqp gqc pf_x_8 pf_x_11 cl_qc_6 cl_qc_8 nu_qp eo_v1 hDF hDP (lv_sub hl [0, 2, 3, 4, 5] rfl)
        · skip
          refine lv_aload hx hb dX9_sumOfSplit_35 (lv_at hl 0 rfl) ?_
          refine hx_getn hx hb hts hC_2 hown hW hT gq_3 tt_2 2 (by decide) rfl kw_733 ⟨rfl, rfl, rfl⟩ dX9_sumOfSplit_37 (fun q_10 fq_10 gq_10 => ?_)
          refine lv_aload_n hx hb dX9_sumOfSplit_40 rfl (lv_at hl 4 rfl) ?_
          refine hx_getn hx hb hts hC_2 hown hW hT (gv1.S hM) tt_2 2 (by decide) rfl kw_733 ⟨rfl, rfl, rfl⟩ dX9_sumOfSplit_41 (fun q_11 fq_11 gq_11 => ?_)
          have hp_12 := hv_pid hDF nu_qp (by unfold Int32.toNatClampNeg; omega) (by unfold Int32.toNatClampNeg; omega) (by unfold Int32.toNatClampNeg; omega) (by unfold Int32.toNatClampNeg; omega) fq_3 eo_v1 fq_10 fq_11
          refine lv_acmp_ne (rx := (some q_10)) (ry := (some q_11)) (tgt := 74) hx hb dX9_sumOfSplit_44 (by decide) (fun c_13 => ?_) (fun c_13 => ?_)
          · skip
            obtain ⟨x_14, ex_14⟩ : ∃ y : Int32, y = iv5_4 + Int32.ofInt 1 := ⟨_, rfl⟩
            have rg_15 := i32_r iv5_4
            have zx_14 : x_14.toInt = iv5_4.toInt + (1) := by rw [ex_14]; exact i32_add rfl (by decide) (by omega) (by omega)
            refine lv_iinc (v := x_14) (lv' := [(4, .int x_14), (5, .ref q_3), (3, .int iv5_3), (0, .ref x), (1, .ref v1), (2, .ref v2)]) hx hb dX9_sumOfSplit_74 hl (k := 1) rfl ex_14.symm (by decide) rfl (fun ls hl => ?_)
            refine lv_goto (tgt := 5) hx hb dX9_sumOfSplit_77 (by decide) ?_
            exact ih5 iv5_3 x_14 _ _ hL1 hl1 (by omega) (by omega) (by omega) (by omega) (hv_sm_n vi5_0 (hv_sq_f (fun z => c_13 (congrArg some (hp_12.mpr z.2.1)))) (by omega) zx_14) (by omega) (by omega) ls (by omega) hW hT hM f_x_7 f_x_10 f_x_11 f_x_8 ffv_1 gx gqp gqc pf_x_8 pf_x_11 cl_qc_6 cl_qc_8 nu_qp eo_v1 hDF hDP (lv_sub hl [0, 2, 3, 4, 5] rfl)
          · skip
            refine lv_aload hx hb dX9_sumOfSplit_47 (lv_at hl 0 rfl) ?_
            refine hx_geti hx hb hts hC_2 hown hW hT gq_3 tt_2 8 (by decide) rfl kw_743 ⟨rfl, rfl, rfl⟩ dX9_sumOfSplit_49 (fun x_16 ex_16 lx_16 ux_16 => ?_)
            have fx_16 := ex_16.symm
            have cx_16 : x_16 = flf iv5_4.toNatClampNeg := by rw [ex_16, ← cl_qc_8]; exact (hx_col_at fq_3 (by unfold Int32.toNatClampNeg; omega)).symm
            refine lv_aload_n hx hb dX9_sumOfSplit_52 rfl (lv_at hl 4 rfl) ?_
            refine hk_geti hx hb hts hC_2 hown hW (gv1.S hM) tt_2 8 (by decide) rfl kw_743 ⟨rfl, rfl, rfl⟩ ffv_1 dX9_sumOfSplit_53 ?_
            refine lv_aload_n hx hb dX9_sumOfSplit_56 rfl (lv_at hl 5 rfl) ?_
            refine hk_getr hx hb hts hC_0 hown hW (gv2.S hM) tt_0 2 (by decide) rfl kw_170 ⟨rfl, rfl, rfl⟩ ((hM.o gv2 trivial rfl).2.trans f_v2_2) dX9_sumOfSplit_57 ?_
            refine lv_iconst (v := 2) hx hb dX9_sumOfSplit_60 (by decide) ?_
            refine hx_iald hx hb hW hT (gqt.S hM) tt_11 rfl (by decide) dX9_sumOfSplit_61 (fun x_17 ex_17 lx_17 ux_17 => ?_)
            have ax_17 : x_17 = tf (2 : Int32).toNatClampNeg := ex_17.trans (congrFun (hx_afS hM gqt rfl af_qt) _)
            have hR_18 : x_17.toInt = R 1 := by rw [← hR, ax_17, show (2 : Int32).toNatClampNeg = 2 from by decide]; rfl
            have hR_18b := hRb 1
            rw [← hR_18] at hR_18b
            refine lv_isub hx hb dX9_sumOfSplit_62 ?_
            have rg_19 := i32_r fv_1
            have rg_20 := i32_r x_17
            refine lv_topi (fun x_21 ex_21 => ?_)
            have zx_21 : x_21.toInt = fv_1.toInt - x_17.toInt := by rw [ex_21]; exact i32_sub rfl rfl (by omega) (by omega)
            refine hb_icmp_lt (zx := x_16.toInt) (zy := x_21.toInt) (tgt := 74) hx hb rfl rfl dX9_sumOfSplit_63 (by decide) (fun c_22 => ?_) (fun c_22 => ?_)
            · skip
              obtain ⟨x_23, ex_23⟩ : ∃ y : Int32, y = iv5_4 + Int32.ofInt 1 := ⟨_, rfl⟩
              have rg_24 := i32_r iv5_4
              have zx_23 : x_23.toInt = iv5_4.toInt + (1) := by rw [ex_23]; exact i32_add rfl (by decide) (by omega) (by omega)
              refine lv_iinc (v := x_23) (lv' := [(4, .int x_23), (5, .ref q_3), (3, .int iv5_3), (0, .ref x), (1, .ref v1), (2, .ref v2)]) hx hb dX9_sumOfSplit_74 hl (k := 1) rfl ex_23.symm (by decide) rfl (fun ls hl => ?_)
              refine lv_goto (tgt := 5) hx hb dX9_sumOfSplit_77 (by decide) ?_
              exact ih5 iv5_3 x_23 _ _ hL1 hl1 (by omega) (by omega) (by omega) (by omega) (hv_sm_n vi5_0 (hv_sq_f (fun z => by have h9 := z.2.2; rw [show (flf iv5_4.toInt.toNat) = x_16 from cx_16.symm, show (flf ic.toNatClampNeg) = fv_1 from cv1f9.symm] at h9; omega)) (by omega) zx_23) (by omega) (by omega) ls (by omega) hW hT hM f_x_7 f_x_10 f_x_11 f_x_8 ffv_1 gx gqp gqc pf_x_8 pf_x_11 cl_qc_6 cl_qc_8 nu_qp eo_v1 hDF hDP (lv_sub hl [0, 2, 3, 4, 5] rfl)
            · skip
              refine lv_iload_n hx hb dX9_sumOfSplit_66 rfl (lv_at hl 2 rfl) ?_
              refine lv_aload hx hb dX9_sumOfSplit_67 (lv_at hl 0 rfl) ?_
              refine hx_geti hx hb hts hC_2 hown hW hT gq_3 tt_2 6 (by decide) rfl kw_741 ⟨rfl, rfl, rfl⟩ dX9_sumOfSplit_69 (fun x_25 ex_25 lx_25 ux_25 => ?_)
              have fx_25 := ex_25.symm
              have cx_25 : x_25 = smf iv5_4.toNatClampNeg := by rw [ex_25, ← cl_qc_6]; exact (hx_col_at fq_3 (by unfold Int32.toNatClampNeg; omega)).symm
              refine lv_iadd hx hb dX9_sumOfSplit_72 ?_
              have rg_26 := i32_r iv5_3
              have rg_27 := i32_r x_25
              refine lv_topi (fun x_28 ex_28 => ?_)
              have zx_28 : x_28.toInt = iv5_3.toInt + x_25.toInt := by rw [ex_28]; exact i32_add rfl rfl (by omega) (by omega)
              refine lv_istore_n (lv' := [(3, .int x_28), (5, .ref q_3), (4, .int iv5_4), (0, .ref x), (1, .ref v1), (2, .ref v2)]) hx hb dX9_sumOfSplit_73 rfl hl (by decide) rfl (fun ls hl => ?_)
              obtain ⟨x_29, ex_29⟩ : ∃ y : Int32, y = iv5_4 + Int32.ofInt 1 := ⟨_, rfl⟩
              have rg_30 := i32_r iv5_4
              have zx_29 : x_29.toInt = iv5_4.toInt + (1) := by rw [ex_29]; exact i32_add rfl (by decide) (by omega) (by omega)
              refine lv_iinc (v := x_29) (lv' := [(4, .int x_29), (3, .int x_28), (5, .ref q_3), (0, .ref x), (1, .ref v1), (2, .ref v2)]) hx hb dX9_sumOfSplit_74 hl (k := 2) rfl ex_29.symm (by decide) rfl (fun ls hl => ?_)
              refine lv_goto (tgt := 5) hx hb dX9_sumOfSplit_77 (by decide) ?_
              exact ih5 x_28 x_29 _ _ hL1 hl1 (by omega) (by omega) (by omega) (by omega) (hv_sm_y (ix := iv5_4.toNatClampNeg) (v := x_25) vi5_0 (hv_sq_t.mpr ⟨(hp_6.mp (Option.some.inj c_7)), (hp_12.mp (Option.some.inj c_13)), (by rw [show (flf iv5_4.toInt.toNat) = x_16 from cx_16.symm, show (flf ic.toNatClampNeg) = fv_1 from cv1f9.symm]; omega)⟩) (by omega) (by unfold Int32.toNatClampNeg; omega) cx_25 (by omega) zx_29) (by omega) (by omega) ls (by omega) hW hT hM f_x_7 f_x_10 f_x_11 f_x_8 ffv_1 gx gqp gqc pf_x_8 pf_x_11 cl_qc_6 cl_qc_8 nu_qp eo_v1 hDF hDP (lv_sub hl [0, 1, 3, 4, 5] rfl)
  have zk_0 : (0 : Int32).toInt = 0 := by decide
  have zk_0 : (0 : Int32).toInt = 0 := by decide
  exact loop5 101 (0 : Int32) (0 : Int32) _ _ L h (by decide) (by decide) (by decide) (by decide) (by rw [zk_0]; rfl) (by omega) (by omega) ls (by omega) hW hT hM f_x_7 f_x_10 f_x_11 f_x_8 ffv_1 gx gqp gqc pf_x_8 pf_x_11 cl_qc_6 cl_qc_8 nu_qp eo_v1 hDF hDP hl


set_option maxHeartbeats 4000000 in
set_option maxRecDepth 100000 in
theorem t_X10_isSplit_v (l : Launch) (dC : Nat → ClassId) (dI : Nat → Nat → Nat) (dA : Nat → ClassId) (L : List Nat) (h : hx_h) (sz : Nat) (x : Nat) (i1 : Int32) (i2 : Int32) (hT : hx_T T_tb L h) (gx : hx_g L h x 10) (qb : Nat) (gqb : hx_g L h qb 72) (f_x_37 : h.2.2 x 37 = some qb) (qa : Nat) (gqa : hx_g L h qa 73) (f_x_38 : h.2.2 x 38 = some qa) (qf : Nat) (gqf : hx_g L h qf 78) (f_x_43 : h.2.2 x 43 = some qf) (qs : Nat) (gqs : hx_g L h qs 74) (f_x_39 : h.2.2 x 39 = some qs) (ql : Nat) (gql : hx_g L h ql 50) (f_x_3 : h.2.2 x 3 = some ql) (byf : Nat → Int32) (af_qb : h.2.1 qb = byf) (agf : Nat → Int32) (af_qa : h.2.1 qa = agf) (flf : Nat → Int32) (af_qf : h.2.1 qf = flf) (smf : Nat → Int32) (af_qs : h.2.1 qs = smf) (rlf : Nat → Int32) (af_ql : h.2.1 ql = rlf) (c0 : Int32) (f_x_36 : h.2.1 x 36 = c0) (hi1 : 0 ≤ i1.toInt ∧ i1.toInt ≤ 99) (hi2 : 0 ≤ i2.toInt ∧ i2.toInt ≤ 8) (R : Nat → Int) (hRr : ∀ k : Nat, k ≤ 12 → (rlf (13 * i2.toInt.toNat + k)).toInt = R k) : Met l yX10_isSplit (Cond.code yX10_isSplit cX10_isSplit 6 (some .boolean) :: hx_all) ({ frames := 1, cells := 0, slots := 0, locals := 22 }) (va_Pc [.ref x, .int i1, .int i2] (hx_B T_tb (P_ty dA) (dC, dI) vwCl L h sz)) (va_Qi (fun (r : Int32) (u : List Nat × hx_h) => ((r.toInt = 1 ∧ (1 < hv_sct byf agf flf (byf i1.toNatClampNeg).toInt (agf i1.toNatClampNeg).toInt ((flf i1.toNatClampNeg).toInt - R 1) c0.toInt.toNat ∧ R 0 < hv_sm byf agf flf smf (byf i1.toNatClampNeg).toInt (agf i1.toNatClampNeg).toInt ((flf i1.toNatClampNeg).toInt - R 1) c0.toInt.toNat)) ∨ (r.toInt = 0 ∧ ¬ (1 < hv_sct byf agf flf (byf i1.toNatClampNeg).toInt (agf i1.toNatClampNeg).toInt ((flf i1.toNatClampNeg).toInt - R 1) c0.toInt.toNat ∧ R 0 < hv_sm byf agf flf smf (byf i1.toNatClampNeg).toInt (agf i1.toNatClampNeg).toInt ((flf i1.toNatClampNeg).toInt - R 1) c0.toInt.toNat))) ∧ hx_T T_tb u.1 u.2 ∧ hx_S T_tb [] L h u.1 u.2) (hx_E T_tb (P_ty dA) (dC, dI) vwCl (hx_A L sz)) (hx_A L sz)) 0 0 (hx_A L sz) := by
  refine hx_met (lv := [(0, .ref x), (1, .int i1), (2, .int i2)]) (by decide +kernel) rfl (Nat.le_of_ble_eq_true rfl) rfl ?_
  intro p e s m below meth c hx hb hml hr hlk hts0 hown hin hsz hW ls hl
  have hts : ∀ w ∈ hx_all, w.before _ s = true := fun w hw => hts0 w (List.mem_cons_of_mem _ hw)
  have hown : s.vm.findClass "SmallCourtModel" = some m.cls := hown
  have hM : hx_S T_tb [] L h L h := hx_S.rf
  have b_c0 := hT.gi gx tt_10 (k := 36) rfl
  rw [f_x_36] at b_c0
  have b_c0 : 0 ≤ c0.toInt ∧ c0.toInt ≤ 100 := b_c0
  refine lv_iconst (v := 0) hx hb dX10_isSplit_0 (by decide) ?_
  refine lv_istore_n (lv' := [(3, .int (0 : Int32)), (0, .ref x), (1, .int i1), (2, .int i2)]) hx hb dX10_isSplit_1 rfl hl (by decide) rfl (fun ls hl => ?_)
  refine lv_iconst (v := 0) hx hb dX10_isSplit_2 (by decide) ?_
  refine lv_istore (lv' := [(4, .int (0 : Int32)), (3, .int (0 : Int32)), (0, .ref x), (1, .int i1), (2, .int i2)]) hx hb dX10_isSplit_3 hl (by decide) rfl (fun ls hl => ?_)
  refine lv_iconst (v := 0) hx hb dX10_isSplit_5 (by decide) ?_
  refine lv_istore (lv' := [(5, .int (0 : Int32)), (4, .int (0 : Int32)), (3, .int (0 : Int32)), (0, .ref x), (1, .int i1), (2, .int i2)]) hx hb dX10_isSplit_6 hl (by decide) rfl (fun ls hl => ?_)
  have loop8 : ∀ (n8 : Nat) (iv8_3 iv8_4 iv8_5 : Int32) (H : Heap) (locs : List Loc) (hL1 : List Nat) (hl1 : hx_h), 0 ≤ iv8_3.toInt → iv8_3.toInt ≤ 100 → 0 ≤ iv8_4.toInt → iv8_4.toInt ≤ 999900 → 0 ≤ iv8_5.toInt → iv8_5.toInt ≤ 100 → (iv8_3.toInt = hv_sct byf agf flf (byf i1.toNatClampNeg).toInt (agf i1.toNatClampNeg).toInt ((flf i1.toNatClampNeg).toInt - R 1) (iv8_5.toInt).toNat) → (iv8_4.toInt = hv_sm byf agf flf smf (byf i1.toNatClampNeg).toInt (agf i1.toNatClampNeg).toInt ((flf i1.toNatClampNeg).toInt - R 1) (iv8_5.toInt).toNat) → (iv8_4.toInt ≤ 9999 * iv8_5.toInt) → (iv8_3.toInt ≤ iv8_5.toInt) → (iv8_5.toInt ≤ c0.toInt) → ∀ (ls : Array Slot), 100 - iv8_5.toInt < (n8 : Int) → hx_W T_tb (P_ty dA) (dC, dI) vwCl (hx_A L sz) s.heap hL1 hl1 s H locs → hx_T T_tb hL1 hl1 → hx_S T_tb [] L h hL1 hl1 → lv_has ls 6 [(5, .int iv8_5), (4, .int iv8_4), (3, .int iv8_3), (0, .ref x), (1, .int i1), (2, .int i2)] → W p l e ({ frames := 1, cells := 0, slots := 0, locals := 22 }) s m ([.ref x, .int i1, .int i2] : List Value).toArray below meth c H locs 0 0 (MQ below (va_Qi (fun (r : Int32) (u : List Nat × hx_h) => ((r.toInt = 1 ∧ (1 < hv_sct byf agf flf (byf i1.toNatClampNeg).toInt (agf i1.toNatClampNeg).toInt ((flf i1.toNatClampNeg).toInt - R 1) c0.toInt.toNat ∧ R 0 < hv_sm byf agf flf smf (byf i1.toNatClampNeg).toInt (agf i1.toNatClampNeg).toInt ((flf i1.toNatClampNeg).toInt - R 1) c0.toInt.toNat)) ∨ (r.toInt = 0 ∧ ¬ (1 < hv_sct byf agf flf (byf i1.toNatClampNeg).toInt (agf i1.toNatClampNeg).toInt ((flf i1.toNatClampNeg).toInt - R 1) c0.toInt.toNat ∧ R 0 < hv_sm byf agf flf smf (byf i1.toNatClampNeg).toInt (agf i1.toNatClampNeg).toInt ((flf i1.toNatClampNeg).toInt - R 1) c0.toInt.toNat))) ∧ hx_T T_tb u.1 u.2 ∧ hx_S T_tb [] L h u.1 u.2) (hx_E T_tb (P_ty dA) (dC, dI) vwCl (hx_A L sz)) (hx_A L sz)) ([.ref x, .int i1, .int i2] : List Value).toArray s 0 0 (hx_A L sz)) (F0 m 8 ls []) := by
    intro n8
    induction n8 with
    | zero => intro iv8_3 iv8_4 iv8_5 H locs hL1 hl1 bliv8_3 buiv8_3 bliv8_4 buiv8_4 bliv8_5 buiv8_5 vi8_0 vi8_1 vi8_2 vi8_3 vi8_4 ls hn8; exfalso; omega
    | succ n8 ih8 =>
      intro iv8_3 iv8_4 iv8_5 H locs hL1 hl1 bliv8_3 buiv8_3 bliv8_4 buiv8_4 bliv8_5 buiv8_5 vi8_0 vi8_1 vi8_2 vi8_3 vi8_4 ls hn8 hW hT hM   hl
      refine lv_iload hx hb dX10_isSplit_8 (lv_at hl 0 rfl) ?_
      refine lv_aload_n hx hb dX10_isSplit_10 rfl (lv_at hl 3 rfl) ?_
      refine hk_geti hx hb hts hC_10 hown hW (gx.S hM) tt_10 36 (by decide) rfl kw_1179 ⟨rfl, rfl, rfl⟩ ((hM.o gx trivial rfl).1.trans f_x_36) dX10_isSplit_11 ?_
      refine hb_icmp_ge (zx := iv8_5.toInt) (zy := c0.toInt) (tgt := 96) hx hb rfl rfl dX10_isSplit_14 (by decide) (fun c_1 => ?_) (fun c_1 => ?_)
      · skip
        refine lv_iload_n hx hb dX10_isSplit_96 rfl (lv_at hl 2 rfl) ?_
        refine lv_iconst (v := 1) hx hb dX10_isSplit_97 (by decide) ?_
        refine hb_icmp_le (zx := iv8_3.toInt) (zy := 1) (tgt := 116) hx hb rfl (by decide) dX10_isSplit_98 (by decide) (fun c_2 => ?_) (fun c_2 => ?_)
        · skip
          refine lv_iconst (v := 0) hx hb dX10_isSplit_116 (by decide) ?_
          exact hx_retz hx hb hr rfl hlk hW ⟨(Or.inr ⟨by decide, (by have h8 := vi8_0; have h7 := vi8_1; rw [show iv8_5.toInt.toNat = c0.toInt.toNat by omega] at h8 h7; omega)⟩), hT, hM⟩ dX10_isSplit_117
        · skip
          refine lv_iload hx hb dX10_isSplit_101 (lv_at hl 1 rfl) ?_
          refine lv_aload_n hx hb dX10_isSplit_103 rfl (lv_at hl 3 rfl) ?_
          refine lv_iload_n hx hb dX10_isSplit_104 rfl (lv_at hl 5 rfl) ?_
          refine lv_iconst (v := 0) hx hb dX10_isSplit_105 (by decide) ?_
          have zc_0 : (0 : Int32).toInt = 0 := by decide
          refine hx_goi (hx_runV (As := [.int i2, .int (0 : Int32)]) (rest := [.int iv8_4]) ⟨hx, hb, hml, hown, hts⟩ hW (gx.S hM) tt_10 (T := TX10) (N := 98) rfl (t_X10_ruleOf_v l dC dI dA hL1 hl1 H.size x i2 (0 : Int32) hT (gx.S hM) ql (gql.S hM) ((hM.o gx trivial rfl).2.trans f_x_3) rlf (hx_afS hM gql rfl af_ql) ⟨by omega, by omega⟩ (by decide)) (cwV 2 hts (hx_gV kw_1533 kw_1530 kw_1532 kw_66 kw_103) rfl rfl rfl (by decide +kernel) ⟨Nat.le_of_ble_eq_true rfl, Nat.le_of_ble_eq_true rfl⟩) rfl hl.1 rfl (Nat.le_of_ble_eq_true rfl) dX10_isSplit_106 ⟨Nat.le_of_ble_eq_true rfl, Nat.le_of_ble_eq_true rfl⟩) hW (fun r_5 L_3 h_4 H locs p_6 hW => ?_)
          obtain ⟨hr_7, hT, hs⟩ := p_6
          replace hT : hx_T T_tb L_3 h_4 := hT
          replace hs : hx_S T_tb [] hL1 hl1 L_3 h_4 := hs
          replace hM := hM.tr (hs.mono (by decide))
          have hR_8 : r_5.toInt = R 0 := by rw [hr_7.1, show (0 : Int32).toInt.toNat = 0 from by decide]; exact hRr 0 (by decide)
          refine hb_icmp_le (zx := iv8_4.toInt) (zy := r_5.toInt) (tgt := 116) hx hb rfl rfl dX10_isSplit_109 (by decide) (fun c_9 => ?_) (fun c_9 => ?_)
          · skip
            refine lv_iconst (v := 0) hx hb dX10_isSplit_116 (by decide) ?_
            exact hx_retz hx hb hr rfl hlk hW ⟨(Or.inr ⟨by decide, (by have h8 := vi8_0; have h7 := vi8_1; rw [show iv8_5.toInt.toNat = c0.toInt.toNat by omega] at h8 h7; have h6 := hR_8; omega)⟩), hT, hM⟩ dX10_isSplit_117
          · skip
            refine lv_iconst (v := 1) hx hb dX10_isSplit_112 (by decide) ?_
            refine lv_goto (tgt := 117) hx hb dX10_isSplit_113 (by decide) ?_
            exact hx_retz hx hb hr rfl hlk hW ⟨(Or.inl ⟨by decide, (by have h8 := vi8_0; have h7 := vi8_1; rw [show iv8_5.toInt.toNat = c0.toInt.toNat by omega] at h8 h7; have h6 := hR_8; omega)⟩), hT, hM⟩ dX10_isSplit_117
      · skip
        refine lv_aload_n hx hb dX10_isSplit_17 rfl (lv_at hl 3 rfl) ?_
        refine hk_getr hx hb hts hC_10 hown hW (gx.S hM) tt_10 37 (by decide) rfl kw_1180 ⟨rfl, rfl, rfl⟩ ((hM.o gx trivial rfl).2.trans f_x_37) dX10_isSplit_18 ?_
        refine lv_iload hx hb dX10_isSplit_21 (lv_at hl 0 rfl) ?_
        refine hx_iald hx hb hW hT (gqb.S hM) tt_72 rfl ⟨by omega, by omega⟩ dX10_isSplit_23 (fun x_10 ex_10 lx_10 ux_10 => ?_)
        have ax_10 : x_10 = byf iv8_5.toNatClampNeg := ex_10.trans (congrFun (hx_afS hM gqb rfl af_qb) _)
        refine lv_aload_n hx hb dX10_isSplit_24 rfl (lv_at hl 3 rfl) ?_
        refine hk_getr hx hb hts hC_10 hown hW (gx.S hM) tt_10 37 (by decide) rfl kw_1180 ⟨rfl, rfl, rfl⟩ ((hM.o gx trivial rfl).2.trans f_x_37) dX10_isSplit_25 ?_
        refine lv_iload_n hx hb dX10_isSplit_28 rfl (lv_at hl 4 rfl) ?_
        refine hx_iald hx hb hW hT (gqb.S hM) tt_72 rfl ⟨by omega, by omega⟩ dX10_isSplit_29 (fun x_11 ex_11 lx_11 ux_11 => ?_)
        have ax_11 : x_11 = byf i1.toNatClampNeg := ex_11.trans (congrFun (hx_afS hM gqb rfl af_qb) _)
        refine hb_icmp_ne (zx := x_10.toInt) (zy := x_11.toInt) (tgt := 90) hx hb rfl rfl dX10_isSplit_30 (by decide) (fun c_12 => ?_) (fun c_12 => ?_)
        · skip
          obtain ⟨x_13, ex_13⟩ : ∃ y : Int32, y = iv8_5 + Int32.ofInt 1 := ⟨_, rfl⟩
          have rg_14 := i32_r iv8_5
          have zx_13 : x_13.toInt = iv8_5.toInt + (1) := by rw [ex_13]; exact i32_add rfl (by decide) (by omega) (by omega)
          refine lv_iinc (v := x_13) (lv' := [(5, .int x_13), (4, .int iv8_4), (3, .int iv8_3), (0, .ref x), (1, .int i1), (2, .int i2)]) hx hb dX10_isSplit_90 hl (k := 0) rfl ex_13.symm (by decide) rfl (fun ls hl => ?_)
          refine lv_goto (tgt := 8) hx hb dX10_isSplit_93 (by decide) ?_
          exact ih8 iv8_3 iv8_4 x_13 _ _ hL1 hl1 (by omega) (by omega) (by omega) (by omega) (by omega) (by omega) (hv_sct_n vi8_0 (hv_sq_f (fun z => by have h9 := z.1; rw [show byf iv8_5.toInt.toNat = x_10 from ax_10.symm, show byf i1.toNatClampNeg = x_11 from ax_11.symm] at h9; omega)) (by omega) zx_13) (hv_sm_n vi8_1 (hv_sq_f (fun z => by have h9 := z.1; rw [show byf iv8_5.toInt.toNat = x_10 from ax_10.symm, show byf i1.toNatClampNeg = x_11 from ax_11.symm] at h9; omega)) (by omega) zx_13) (by omega) (by omega) (by omega) ls (by omega) hW hT hM   (lv_sub hl [0, 1, 2, 3, 4, 5] rfl)
        · skip
          refine lv_aload_n hx hb dX10_isSplit_33 rfl (lv_at hl 3 rfl) ?_
          refine hk_getr hx hb hts hC_10 hown hW (gx.S hM) tt_10 38 (by decide) rfl kw_1181 ⟨rfl, rfl, rfl⟩ ((hM.o gx trivial rfl).2.trans f_x_38) dX10_isSplit_34 ?_
          refine lv_iload hx hb dX10_isSplit_37 (lv_at hl 0 rfl) ?_
          refine hx_iald hx hb hW hT (gqa.S hM) tt_73 rfl ⟨by omega, by omega⟩ dX10_isSplit_39 (fun x_15 ex_15 lx_15 ux_15 => ?_)
          have ax_15 : x_15 = agf iv8_5.toNatClampNeg := ex_15.trans (congrFun (hx_afS hM gqa rfl af_qa) _)
          refine lv_aload_n hx hb dX10_isSplit_40 rfl (lv_at hl 3 rfl) ?_
          refine hk_getr hx hb hts hC_10 hown hW (gx.S hM) tt_10 38 (by decide) rfl kw_1181 ⟨rfl, rfl, rfl⟩ ((hM.o gx trivial rfl).2.trans f_x_38) dX10_isSplit_41 ?_
          refine lv_iload_n hx hb dX10_isSplit_44 rfl (lv_at hl 4 rfl) ?_
          refine hx_iald hx hb hW hT (gqa.S hM) tt_73 rfl ⟨by omega, by omega⟩ dX10_isSplit_45 (fun x_16 ex_16 lx_16 ux_16 => ?_)
          have ax_16 : x_16 = agf i1.toNatClampNeg := ex_16.trans (congrFun (hx_afS hM gqa rfl af_qa) _)
          refine hb_icmp_ne (zx := x_15.toInt) (zy := x_16.toInt) (tgt := 90) hx hb rfl rfl dX10_isSplit_46 (by decide) (fun c_17 => ?_) (fun c_17 => ?_)
          · skip
            obtain ⟨x_18, ex_18⟩ : ∃ y : Int32, y = iv8_5 + Int32.ofInt 1 := ⟨_, rfl⟩
            have rg_19 := i32_r iv8_5
            have zx_18 : x_18.toInt = iv8_5.toInt + (1) := by rw [ex_18]; exact i32_add rfl (by decide) (by omega) (by omega)
            refine lv_iinc (v := x_18) (lv' := [(5, .int x_18), (4, .int iv8_4), (3, .int iv8_3), (0, .ref x), (1, .int i1), (2, .int i2)]) hx hb dX10_isSplit_90 hl (k := 0) rfl ex_18.symm (by decide) rfl (fun ls hl => ?_)
            refine lv_goto (tgt := 8) hx hb dX10_isSplit_93 (by decide) ?_
            exact ih8 iv8_3 iv8_4 x_18 _ _ hL1 hl1 (by omega) (by omega) (by omega) (by omega) (by omega) (by omega) (hv_sct_n vi8_0 (hv_sq_f (fun z => by have h9 := z.2.1; rw [show agf iv8_5.toInt.toNat = x_15 from ax_15.symm, show agf i1.toNatClampNeg = x_16 from ax_16.symm] at h9; omega)) (by omega) zx_18) (hv_sm_n vi8_1 (hv_sq_f (fun z => by have h9 := z.2.1; rw [show agf iv8_5.toInt.toNat = x_15 from ax_15.symm, show agf i1.toNatClampNeg = x_16 from ax_16.symm] at h9; omega)) (by omega) zx_18) (by omega) (by omega) (by omega) ls (by omega) hW hT hM   (lv_sub hl [0, 1, 2, 3, 4, 5] rfl)
          · skip
            refine lv_aload_n hx hb dX10_isSplit_49 rfl (lv_at hl 3 rfl) ?_
            refine hk_getr hx hb hts hC_10 hown hW (gx.S hM) tt_10 43 (by decide) rfl kw_1186 ⟨rfl, rfl, rfl⟩ ((hM.o gx trivial rfl).2.trans f_x_43) dX10_isSplit_50 ?_
            refine lv_iload hx hb dX10_isSplit_53 (lv_at hl 0 rfl) ?_
            refine hx_iald hx hb hW hT (gqf.S hM) tt_78 rfl ⟨by omega, by omega⟩ dX10_isSplit_55 (fun x_20 ex_20 lx_20 ux_20 => ?_)
            have ax_20 : x_20 = flf iv8_5.toNatClampNeg := ex_20.trans (congrFun (hx_afS hM gqf rfl af_qf) _)
            refine lv_aload_n hx hb dX10_isSplit_56 rfl (lv_at hl 3 rfl) ?_
            refine hk_getr hx hb hts hC_10 hown hW (gx.S hM) tt_10 43 (by decide) rfl kw_1186 ⟨rfl, rfl, rfl⟩ ((hM.o gx trivial rfl).2.trans f_x_43) dX10_isSplit_57 ?_
            refine lv_iload_n hx hb dX10_isSplit_60 rfl (lv_at hl 4 rfl) ?_
            refine hx_iald hx hb hW hT (gqf.S hM) tt_78 rfl ⟨by omega, by omega⟩ dX10_isSplit_61 (fun x_21 ex_21 lx_21 ux_21 => ?_)
            have ax_21 : x_21 = flf i1.toNatClampNeg := ex_21.trans (congrFun (hx_afS hM gqf rfl af_qf) _)
            refine lv_aload_n hx hb dX10_isSplit_62 rfl (lv_at hl 3 rfl) ?_
            refine lv_iload_n hx hb dX10_isSplit_63 rfl (lv_at hl 5 rfl) ?_
            refine lv_iconst (v := 1) hx hb dX10_isSplit_64 (by decide) ?_
            have zc_1 : (1 : Int32).toInt = 1 := by decide
            refine hx_goi (hx_runV (As := [.int i2, .int (1 : Int32)]) (rest := [.int x_21, .int x_20]) ⟨hx, hb, hml, hown, hts⟩ hW (gx.S hM) tt_10 (T := TX10) (N := 98) rfl (t_X10_ruleOf_v l dC dI dA hL1 hl1 H.size x i2 (1 : Int32) hT (gx.S hM) ql (gql.S hM) ((hM.o gx trivial rfl).2.trans f_x_3) rlf (hx_afS hM gql rfl af_ql) ⟨by omega, by omega⟩ (by decide)) (cwV 2 hts (hx_gV kw_1533 kw_1530 kw_1532 kw_66 kw_103) rfl rfl rfl (by decide +kernel) ⟨Nat.le_of_ble_eq_true rfl, Nat.le_of_ble_eq_true rfl⟩) rfl hl.1 rfl (Nat.le_of_ble_eq_true rfl) dX10_isSplit_65 ⟨Nat.le_of_ble_eq_true rfl, Nat.le_of_ble_eq_true rfl⟩) hW (fun r_24 L_22 h_23 H locs p_25 hW => ?_)
            obtain ⟨hr_26, hT, hs⟩ := p_25
            replace hT : hx_T T_tb L_22 h_23 := hT
            replace hs : hx_S T_tb [] hL1 hl1 L_22 h_23 := hs
            replace ex_10 := ex_10.trans (hs.a (gqb.S hM) rfl _).1.symm
            replace ex_11 := ex_11.trans (hs.a (gqb.S hM) rfl _).1.symm
            replace ex_15 := ex_15.trans (hs.a (gqa.S hM) rfl _).1.symm
            replace ex_16 := ex_16.trans (hs.a (gqa.S hM) rfl _).1.symm
            replace ex_20 := ex_20.trans (hs.a (gqf.S hM) rfl _).1.symm
            replace ex_21 := ex_21.trans (hs.a (gqf.S hM) rfl _).1.symm
            replace hM := hM.tr (hs.mono (by decide))
            have hR_27 : r_24.toInt = R 1 := by rw [hr_26.1, show (1 : Int32).toInt.toNat = 1 from by decide]; exact hRr 1 (by decide)
            refine lv_isub hx hb dX10_isSplit_68 ?_
            have rg_28 := i32_r x_21
            have rg_29 := i32_r r_24
            refine lv_topi (fun x_30 ex_30 => ?_)
            have zx_30 : x_30.toInt = x_21.toInt - r_24.toInt := by rw [ex_30]; exact i32_sub rfl rfl (by omega) (by omega)
            refine hb_icmp_ge (zx := x_20.toInt) (zy := x_30.toInt) (tgt := 75) hx hb rfl rfl dX10_isSplit_69 (by decide) (fun c_31 => ?_) (fun c_31 => ?_)
            · skip
              obtain ⟨x_32, ex_32⟩ : ∃ y : Int32, y = iv8_3 + Int32.ofInt 1 := ⟨_, rfl⟩
              have rg_33 := i32_r iv8_3
              have zx_32 : x_32.toInt = iv8_3.toInt + (1) := by rw [ex_32]; exact i32_add rfl (by decide) (by omega) (by omega)
              refine lv_iinc (v := x_32) (lv' := [(3, .int x_32), (5, .int iv8_5), (4, .int iv8_4), (0, .ref x), (1, .int i1), (2, .int i2)]) hx hb dX10_isSplit_75 hl (k := 2) rfl ex_32.symm (by decide) rfl (fun ls hl => ?_)
              refine lv_iload hx hb dX10_isSplit_78 (lv_at hl 2 rfl) ?_
              refine lv_aload_n hx hb dX10_isSplit_80 rfl (lv_at hl 3 rfl) ?_
              refine hk_getr hx hb hts hC_10 hown hW (gx.S hM) tt_10 39 (by decide) rfl kw_1182 ⟨rfl, rfl, rfl⟩ ((hM.o gx trivial rfl).2.trans f_x_39) dX10_isSplit_81 ?_
              refine lv_iload hx hb dX10_isSplit_84 (lv_at hl 1 rfl) ?_
              refine hx_iald hx hb hW hT (gqs.S hM) tt_74 rfl ⟨by omega, by omega⟩ dX10_isSplit_86 (fun x_34 ex_34 lx_34 ux_34 => ?_)
              have ax_34 : x_34 = smf iv8_5.toNatClampNeg := ex_34.trans (congrFun (hx_afS hM gqs rfl af_qs) _)
              refine lv_iadd hx hb dX10_isSplit_87 ?_
              have rg_35 := i32_r iv8_4
              have rg_36 := i32_r x_34
              refine lv_topi (fun x_37 ex_37 => ?_)
              have zx_37 : x_37.toInt = iv8_4.toInt + x_34.toInt := by rw [ex_37]; exact i32_add rfl rfl (by omega) (by omega)
              refine lv_istore (lv' := [(4, .int x_37), (3, .int x_32), (5, .int iv8_5), (0, .ref x), (1, .int i1), (2, .int i2)]) hx hb dX10_isSplit_88 hl (by decide) rfl (fun ls hl => ?_)
              obtain ⟨x_38, ex_38⟩ : ∃ y : Int32, y = iv8_5 + Int32.ofInt 1 := ⟨_, rfl⟩
              have rg_39 := i32_r iv8_5
              have zx_38 : x_38.toInt = iv8_5.toInt + (1) := by rw [ex_38]; exact i32_add rfl (by decide) (by omega) (by omega)
              refine lv_iinc (v := x_38) (lv' := [(5, .int x_38), (4, .int x_37), (3, .int x_32), (0, .ref x), (1, .int i1), (2, .int i2)]) hx hb dX10_isSplit_90 hl (k := 2) rfl ex_38.symm (by decide) rfl (fun ls hl => ?_)
              refine lv_goto (tgt := 8) hx hb dX10_isSplit_93 (by decide) ?_
              exact ih8 x_32 x_37 x_38 _ _ L_22 h_23 (by omega) (by omega) (by omega) (by omega) (by omega) (by omega) (hv_sct_y vi8_0 (hv_sq_t.mpr ⟨(by rw [show byf iv8_5.toInt.toNat = x_10 from ax_10.symm, show byf i1.toNatClampNeg = x_11 from ax_11.symm]; omega), (by rw [show agf iv8_5.toInt.toNat = x_15 from ax_15.symm, show agf i1.toNatClampNeg = x_16 from ax_16.symm]; omega), (by rw [show flf iv8_5.toInt.toNat = x_20 from ax_20.symm, show flf i1.toNatClampNeg = x_21 from ax_21.symm]; omega)⟩) (by omega) (by omega) zx_38) (hv_sm_y (ix := iv8_5.toNatClampNeg) vi8_1 (hv_sq_t.mpr ⟨(by rw [show byf iv8_5.toInt.toNat = x_10 from ax_10.symm, show byf i1.toNatClampNeg = x_11 from ax_11.symm]; omega), (by rw [show agf iv8_5.toInt.toNat = x_15 from ax_15.symm, show agf i1.toNatClampNeg = x_16 from ax_16.symm]; omega), (by rw [show flf iv8_5.toInt.toNat = x_20 from ax_20.symm, show flf i1.toNatClampNeg = x_21 from ax_21.symm]; omega)⟩) (by omega) (by unfold Int32.toNatClampNeg; omega) ax_34 (by omega) zx_38) (by omega) (by omega) (by omega) ls (by omega) hW hT hM   (lv_sub hl [0, 1, 2, 3, 4, 5] rfl)
            · skip
              refine lv_goto (tgt := 90) hx hb dX10_isSplit_72 (by decide) ?_
              obtain ⟨x_40, ex_40⟩ : ∃ y : Int32, y = iv8_5 + Int32.ofInt 1 := ⟨_, rfl⟩
              have rg_41 := i32_r iv8_5
              have zx_40 : x_40.toInt = iv8_5.toInt + (1) := by rw [ex_40]; exact i32_add rfl (by decide) (by omega) (by omega)
              refine lv_iinc (v := x_40) (lv' := [(5, .int x_40), (4, .int iv8_4), (3, .int iv8_3), (0, .ref x), (1, .int i1), (2, .int i2)]) hx hb dX10_isSplit_90 hl (k := 0) rfl ex_40.symm (by decide) rfl (fun ls hl => ?_)
              refine lv_goto (tgt := 8) hx hb dX10_isSplit_93 (by decide) ?_
              exact ih8 iv8_3 iv8_4 x_40 _ _ L_22 h_23 (by omega) (by omega) (by omega) (by omega) (by omega) (by omega) (hv_sct_n vi8_0 (hv_sq_f (fun z => by have h9 := z.2.2; rw [show flf iv8_5.toInt.toNat = x_20 from ax_20.symm, show flf i1.toNatClampNeg = x_21 from ax_21.symm] at h9; omega)) (by omega) zx_40) (hv_sm_n vi8_1 (hv_sq_f (fun z => by have h9 := z.2.2; rw [show flf iv8_5.toInt.toNat = x_20 from ax_20.symm, show flf i1.toNatClampNeg = x_21 from ax_21.symm] at h9; omega)) (by omega) zx_40) (by omega) (by omega) (by omega) ls (by omega) hW hT hM   (lv_sub hl [0, 1, 2, 3, 4, 5] rfl)
  have zk_0 : (0 : Int32).toInt = 0 := by decide
  have zk_0 : (0 : Int32).toInt = 0 := by decide
  have zk_0 : (0 : Int32).toInt = 0 := by decide
  exact loop8 101 (0 : Int32) (0 : Int32) (0 : Int32) _ _ L h (by decide) (by decide) (by decide) (by decide) (by decide) (by decide) (by rw [zk_0]; rfl) (by rw [zk_0]; rfl) (by omega) (by omega) (by omega) ls (by omega) hW hT hM   hl


set_option maxHeartbeats 4000000 in
set_option maxRecDepth 100000 in
theorem t_X9_judgement_v (l : Launch) (dC : Nat → ClassId) (dI : Nat → Nat → Nat) (dA : Nat → ClassId) (L : List Nat) (h : hx_h) (sz : Nat) (x : Nat) (v1 : Nat) (v2 : Nat) (hT : hx_T T_tb L h) (gx : hx_g L h x 9) (gv1 : hx_g L h v1 2) (gv2 : hx_g L h v2 0) (qp : Nat) (gqp : hx_g L h qp 44) (f_x_7 : h.2.2 x 7 = some qp) (qc : Nat) (gqc : hx_g L h qc 45) (f_x_10 : h.2.2 x 10 = some qc) (qt : Nat) (gqt : hx_g L h qt 11) (f_v2_2 : h.2.2 v2 2 = some qt) (qpr : Nat) (gqpr : hx_g L h qpr 12) (f_v2_3 : h.2.2 v2 3 = some qpr) (qft : Nat) (gqft : hx_g L h qft 20) (f_v1_4 : h.2.2 v1 4 = some qft) (ic : Int32) (eo_v1 : h.2.2 qc ic.toNatClampNeg = some v1) (ob_ic : 0 ≤ ic.toInt ∧ ic.toInt ≤ 99) (tf : Nat → Int32) (af_qt : h.2.1 qt = tf) (prf : Nat → Int32) (af_qpr : h.2.1 qpr = prf) (ff : Nat → Int32) (af_qft : h.2.1 qft = ff) (cn0 : Int32) (f_x_11 : h.2.1 x 11 = cn0) (pn0 : Int32) (f_x_8 : h.2.1 x 8 = pn0) (pl0 : Int32) (f_v2_4 : h.2.1 v2 4 = pl0) (frf : Nat → Int32) (cl_qc_7 : hx_col 100 h qc 7 = frf) (smf : Nat → Int32) (cl_qc_6 : hx_col 100 h qc 6 = smf) (flf : Nat → Int32) (cl_qc_8 : hx_col 100 h qc 8 = flf) (bnf : Nat → Int32) (cl_qp_1 : hx_col 40 h qp 1 = bnf) (nu_qp : hx_num 40 h qp 0 (pn0.toInt)) (agf byf : Nat → Int32) (hDF : hw_DF h qc qp 2 agf cn0.toInt) (hDP : hw_DF h qc qp 1 byf cn0.toInt) (R : Nat → Int) (hR : hv_rC tf = R) (hRb : ∀ k, 0 ≤ R k ∧ R k ≤ 9999) (o : List hv_tok) (hO : hv_OK o) (hls : hv_ls prf pl0.toInt.toNat = o.map hv_cc) (hcn : ic.toInt < cn0.toInt) (pf_x_8 : ∀ j : Nat, (j : Int) < (h.2.1 x 8).toInt → h.2.2 qp j ≠ none) (pf_x_11 : ∀ j : Nat, (j : Int) < (h.2.1 x 11).toInt → h.2.2 qc j ≠ none) : Met l yX9_judgement (Cond.code yX9_judgement cX9_judgement 3 (some .int) :: hx_all) ({ frames := 2, cells := 0, slots := 0, locals := 49 }) (va_Pc [.ref x, .ref v1, .ref v2] (hx_B T_tb (P_ty dA) (dC, dI) vwCl L h sz)) (va_Qi (fun (r : Int32) (u : List Nat × hx_h) => (r.toInt = hv_jg (hv_F0 ff 0) R o (frf ic.toNatClampNeg).toInt (bnf (agf ic.toNatClampNeg).toNatClampNeg).toInt (smf ic.toNatClampNeg).toInt (hv_sm byf agf flf smf (byf ic.toNatClampNeg).toInt (agf ic.toNatClampNeg).toInt ((flf ic.toNatClampNeg).toInt - R 1) cn0.toInt.toNat) ∧ (1 ≤ r.toInt ∧ r.toInt ≤ 5)) ∧ hx_T T_tb u.1 u.2 ∧ hx_S T_tb [] L h u.1 u.2) (hx_E T_tb (P_ty dA) (dC, dI) vwCl (hx_A L sz)) (hx_A L sz)) 0 0 (hx_A L sz) := by
  refine hx_met (lv := [(0, .ref x), (1, .ref v1), (2, .ref v2)]) (by decide +kernel) rfl (Nat.le_of_ble_eq_true rfl) rfl ?_
  intro p e s m below meth c hx hb hml hr hlk hts0 hown hin hsz hW ls hl
  have hts : ∀ w ∈ hx_all, w.before _ s = true := fun w hw => hts0 w (List.mem_cons_of_mem _ hw)
  have hown : s.vm.findClass "SmallCourt" = some m.cls := hown
  have hM : hx_S T_tb [] L h L h := hx_S.rf
  have b_cn0 := hT.gi gx tt_9 (k := 11) rfl
  rw [f_x_11] at b_cn0
  have b_cn0 : 0 ≤ cn0.toInt ∧ cn0.toInt ≤ 100 := b_cn0
  have b_pn0 := hT.gi gx tt_9 (k := 8) rfl
  rw [f_x_8] at b_pn0
  have b_pn0 : 0 ≤ pn0.toInt ∧ pn0.toInt ≤ 40 := b_pn0
  have b_pl0 := hT.gi gv2 tt_0 (k := 4) rfl
  rw [f_v2_4] at b_pl0
  have b_pl0 : 0 ≤ pl0.toInt ∧ pl0.toInt ≤ 160 := b_pl0
  refine lv_aload_n hx hb dX9_judgement_0 rfl (lv_at hl 1 rfl) ?_
  refine hx_geti hx hb hts hC_2 hown hW hT (gv1.S hM) tt_2 7 (by decide) rfl kw_742 ⟨rfl, rfl, rfl⟩ dX9_judgement_1 (fun x_1 ex_1 lx_1 ux_1 => ?_)
  have fx_1 := ex_1.symm
  have cx_1 : x_1 = frf ic.toNatClampNeg := by rw [ex_1, ← cl_qc_7]; exact (hx_col_at eo_v1 (by unfold Int32.toNatClampNeg; omega)).symm
  refine lv_aload_n hx hb dX9_judgement_4 rfl (lv_at hl 1 rfl) ?_
  refine hx_getn hx hb hts hC_2 hown hW hT (gv1.S hM) tt_2 2 (by decide) rfl kw_733 ⟨rfl, rfl, rfl⟩ dX9_judgement_5 (fun q_2 fq_2 gq_2 => ?_)
  obtain ⟨dAq_2, dBq_2, dCq_2⟩ := hDF ic.toNatClampNeg (by unfold Int32.toNatClampNeg; omega) (by unfold Int32.toNatClampNeg; omega) _ _ eo_v1 fq_2
  have dAq_2 : 0 ≤ (agf ic.toNatClampNeg).toInt := dAq_2
  have dBq_2 : (agf ic.toNatClampNeg).toInt < 40 := dBq_2
  have dUq_2 : 0 ≤ (agf ic.toInt.toNat).toInt ∧ (agf ic.toInt.toNat).toInt < 40 := ⟨dAq_2, dBq_2⟩
  have eoq_2 : h.2.2 qp (agf ic.toNatClampNeg).toNatClampNeg = some q_2 := dCq_2
  refine hx_geti hx hb hts hC_4 hown hW hT gq_2 tt_4 1 (by decide) rfl kw_614 ⟨rfl, rfl, rfl⟩ dX9_judgement_8 (fun x_3 ex_3 lx_3 ux_3 => ?_)
  have fx_3 := ex_3.symm
  have cx_3 : x_3 = bnf (agf ic.toNatClampNeg).toNatClampNeg := by rw [ex_3, ← cl_qp_1]; exact (hx_col_at eoq_2 (by unfold Int32.toNatClampNeg; omega)).symm
  refine lv_sipush (v := 365) hx hb dX9_judgement_11 (by decide) ?_
  refine lv_aload_n hx hb dX9_judgement_14 rfl (lv_at hl 2 rfl) ?_
  refine hk_getr hx hb hts hC_0 hown hW (gv2.S hM) tt_0 2 (by decide) rfl kw_170 ⟨rfl, rfl, rfl⟩ ((hM.o gv2 trivial rfl).2.trans f_v2_2) dX9_judgement_15 ?_
  refine lv_bipush (v := 9) hx hb dX9_judgement_18 (by decide) ?_
  refine hx_iald hx hb hW hT (gqt.S hM) tt_11 rfl (by decide) dX9_judgement_20 (fun x_4 ex_4 lx_4 ux_4 => ?_)
  have ax_4 : x_4 = tf (9 : Int32).toNatClampNeg := ex_4.trans (congrFun (hx_afS hM gqt rfl af_qt) _)
  have hR_5 : x_4.toInt = R 8 := by rw [← hR, ax_4, show (9 : Int32).toNatClampNeg = 9 from by decide]; rfl
  have hR_5b := hRb 8
  rw [← hR_5] at hR_5b
  refine lv_imul hx hb dX9_judgement_21 ?_
  refine lv_topi (fun x_6 ex_6 => ?_)
  have zx_6 : x_6.toInt = 365 * x_4.toInt := by rw [ex_6]; exact i32_mul (by decide) rfl rfl (by omega) (by omega)
  refine lv_iadd hx hb dX9_judgement_22 ?_
  have rg_7 := i32_r x_3
  have rg_8 := i32_r x_6
  refine lv_topi (fun x_9 ex_9 => ?_)
  have zx_9 : x_9.toInt = x_3.toInt + x_6.toInt := by rw [ex_9]; exact i32_add rfl rfl (by omega) (by omega)
  refine hb_icmp_ge (zx := x_1.toInt) (zy := x_9.toInt) (tgt := 28) hx hb rfl rfl dX9_judgement_23 (by decide) (fun c_10 => ?_) (fun c_10 => ?_)
  · skip
    refine lv_aload_n hx hb dX9_judgement_28 rfl (lv_at hl 1 rfl) ?_
    refine hx_geti hx hb hts hC_2 hown hW hT (gv1.S hM) tt_2 6 (by decide) rfl kw_741 ⟨rfl, rfl, rfl⟩ dX9_judgement_29 (fun x_11 ex_11 lx_11 ux_11 => ?_)
    have fx_11 := ex_11.symm
    have cx_11 : x_11 = smf ic.toNatClampNeg := by rw [ex_11, ← cl_qc_6]; exact (hx_col_at eo_v1 (by unfold Int32.toNatClampNeg; omega)).symm
    refine lv_aload_n hx hb dX9_judgement_32 rfl (lv_at hl 2 rfl) ?_
    refine hk_getr hx hb hts hC_0 hown hW (gv2.S hM) tt_0 2 (by decide) rfl kw_170 ⟨rfl, rfl, rfl⟩ ((hM.o gv2 trivial rfl).2.trans f_v2_2) dX9_judgement_33 ?_
    refine lv_iconst (v := 1) hx hb dX9_judgement_36 (by decide) ?_
    refine hx_iald hx hb hW hT (gqt.S hM) tt_11 rfl (by decide) dX9_judgement_37 (fun x_12 ex_12 lx_12 ux_12 => ?_)
    have ax_12 : x_12 = tf (1 : Int32).toNatClampNeg := ex_12.trans (congrFun (hx_afS hM gqt rfl af_qt) _)
    have hR_13 : x_12.toInt = R 0 := by rw [← hR, ax_12, show (1 : Int32).toNatClampNeg = 1 from by decide]; rfl
    have hR_13b := hRb 0
    rw [← hR_13] at hR_13b
    refine hb_icmp_le (zx := x_11.toInt) (zy := x_12.toInt) (tgt := 43) hx hb rfl rfl dX9_judgement_38 (by decide) (fun c_14 => ?_) (fun c_14 => ?_)
    · skip
      refine lv_aload_n hx hb dX9_judgement_43 rfl (lv_at hl 0 rfl) ?_
      refine lv_aload_n hx hb dX9_judgement_44 rfl (lv_at hl 1 rfl) ?_
      refine lv_aload_n hx hb dX9_judgement_45 rfl (lv_at hl 2 rfl) ?_
      have hTo := hT
      refine hx_goi (hx_runV (As := [.ref v1, .ref v2]) (rest := []) ⟨hx, hb, hml, hown, hts⟩ hW gx tt_9 (T := TX9) (N := 20) rfl (t_X9_sumOfSplit_v l dC dI dA L h s.heap.size x v1 v2 hT gx (gv1.S hM) (gv2.S hM) qp gqp f_x_7 qc gqc f_x_10 qt (gqt.S hM) ((hM.o gv2 trivial rfl).2.trans f_v2_2) ic eo_v1 ⟨by omega, by omega⟩ tf (hx_afS hM gqt rfl af_qt) cn0 f_x_11 pn0 f_x_8 smf cl_qc_6 flf cl_qc_8 nu_qp agf byf hDF hDP R hR hRb (by omega) pf_x_8 pf_x_11) (cwV 2 hts (hx_gV kw_834 kw_831 kw_833 kw_29 kw_94) rfl rfl rfl (by decide +kernel) ⟨Nat.le_of_ble_eq_true rfl, Nat.le_of_ble_eq_true rfl⟩) rfl hl.1 rfl (Nat.le_of_ble_eq_true rfl) dX9_judgement_46 ⟨Nat.le_of_ble_eq_true rfl, Nat.le_of_ble_eq_true rfl⟩) hW (fun r_17 L_15 h_16 H locs p_18 hW => ?_)
      obtain ⟨hr_19, hT, hs⟩ := p_18
      replace hT : hx_T T_tb L_15 h_16 := hT
      replace hs : hx_S T_tb [] L h L_15 h_16 := hs
      replace f_x_7 := (hs.o gx trivial rfl).2.trans f_x_7
      replace f_x_10 := (hs.o gx trivial rfl).2.trans f_x_10
      replace f_x_11 := (hs.o gx trivial rfl).1.trans f_x_11
      replace f_x_8 := (hs.o gx trivial rfl).1.trans f_x_8
      replace fx_1 := (hs.o (gv1.S hM) trivial rfl).1.trans fx_1
      replace fq_2 := (hs.o (gv1.S hM) trivial rfl).2.trans fq_2
      replace fx_3 := (hs.o gq_2 trivial rfl).1.trans fx_3
      replace fx_11 := (hs.o (gv1.S hM) trivial rfl).1.trans fx_11
      replace pf_x_8 : ∀ j : Nat, (j : Int) < (h_16.2.1 x 8).toInt → h_16.2.2 qp j ≠ none := by
        intro j hj; rw [(hs.o gx trivial rfl).1] at hj; rw [(hs.a gqp rfl j).2]; exact pf_x_8 j hj
      replace pf_x_11 : ∀ j : Nat, (j : Int) < (h_16.2.1 x 11).toInt → h_16.2.2 qc j ≠ none := by
        intro j hj; rw [(hs.o gx trivial rfl).1] at hj; rw [(hs.a gqc rfl j).2]; exact pf_x_11 j hj
      replace cl_qc_7 : hx_col 100 h_16 qc 7 = frf := (hx_col_S hs hTo gqc tt_45 tt_2 rfl rfl).trans cl_qc_7
      replace cl_qc_6 : hx_col 100 h_16 qc 6 = smf := (hx_col_S hs hTo gqc tt_45 tt_2 rfl rfl).trans cl_qc_6
      replace cl_qc_8 : hx_col 100 h_16 qc 8 = flf := (hx_col_S hs hTo gqc tt_45 tt_2 rfl rfl).trans cl_qc_8
      replace cl_qp_1 : hx_col 40 h_16 qp 1 = bnf := (hx_col_S hs hTo gqp tt_44 tt_4 rfl rfl).trans cl_qp_1
      replace nu_qp : hx_num 40 h_16 qp 0 (pn0.toInt) := hx_num_S hs hTo gqp tt_44 tt_4 rfl rfl nu_qp
      replace hDF : hw_DF h_16 qc qp 2 agf cn0.toInt := hw_DF_S hs hTo gqc gqp tt_45 tt_2 rfl rfl rfl hDF
      replace hDP : hw_DF h_16 qc qp 1 byf cn0.toInt := hw_DF_S hs hTo gqc gqp tt_45 tt_2 rfl rfl rfl hDP
      replace eo_v1 := (hs.a gqc rfl _).2.trans eo_v1
      replace eoq_2 := (hs.a gqp rfl _).2.trans eoq_2
      replace ex_4 := ex_4.trans (hs.a (gqt.S hM) rfl _).1.symm
      replace ex_12 := ex_12.trans (hs.a (gqt.S hM) rfl _).1.symm
      replace hM := hM.tr (hs.mono (by decide))
      replace gx := gx.S hs
      replace gqp := gqp.S hs
      replace gqc := gqc.S hs
      replace gq_2 := gq_2.S hs
      refine lv_aload_n hx hb dX9_judgement_49 rfl (lv_at hl 2 rfl) ?_
      refine hk_getr hx hb hts hC_0 hown hW (gv2.S hM) tt_0 2 (by decide) rfl kw_170 ⟨rfl, rfl, rfl⟩ ((hM.o gv2 trivial rfl).2.trans f_v2_2) dX9_judgement_50 ?_
      refine lv_iconst (v := 1) hx hb dX9_judgement_53 (by decide) ?_
      refine hx_iald hx hb hW hT (gqt.S hM) tt_11 rfl (by decide) dX9_judgement_54 (fun x_20 ex_20 lx_20 ux_20 => ?_)
      have ax_20 : x_20 = tf (1 : Int32).toNatClampNeg := ex_20.trans (congrFun (hx_afS hM gqt rfl af_qt) _)
      obtain rfl : x_12 = x_20 := ex_12.trans ex_20.symm
      have hR_21 : x_12.toInt = R 0 := by rw [← hR, ax_12, show (1 : Int32).toNatClampNeg = 1 from by decide]; rfl
      have hR_21b := hRb 0
      rw [← hR_21] at hR_21b
      refine hb_icmp_le (zx := r_17.toInt) (zy := x_12.toInt) (tgt := 60) hx hb rfl rfl dX9_judgement_55 (by decide) (fun c_22 => ?_) (fun c_22 => ?_)
      · skip
        refine lv_aload_n hx hb dX9_judgement_60 rfl (lv_at hl 2 rfl) ?_
        refine lv_aload_n hx hb dX9_judgement_61 rfl (lv_at hl 1 rfl) ?_
        refine hk_getr hx hb hts hC_2 hown hW (gv1.S hM) tt_2 4 (by decide) rfl kw_738 ⟨rfl, rfl, rfl⟩ ((hM.o gv1 trivial rfl).2.trans f_v1_4) dX9_judgement_62 ?_
        have hTo := hT
        refine hx_goi (hx_runV (As := [.ref qft]) (rest := []) ⟨hx, hb, hml, hown, hts⟩ hW (gv2.S hM) tt_0 (T := TX0) (N := 5) rfl (t_X0_proves_v l dC dI dA L_15 h_16 H.size v2 qft hT (gv2.S hM) (gqft.S hM) qpr (gqpr.S hM) ((hM.o gv2 trivial rfl).2.trans f_v2_3) ff (hx_afS hM gqft rfl af_qft) prf (hx_afS hM gqpr rfl af_qpr) pl0 ((hM.o gv2 trivial rfl).1.trans f_v2_4) o hO hls) (cwV 1 hts (hx_gV kw_838 kw_835 kw_836 kw_837 kw_96) rfl rfl rfl (by decide +kernel) ⟨Nat.le_of_ble_eq_true rfl, Nat.le_of_ble_eq_true rfl⟩) rfl hl.1 rfl (Nat.le_of_ble_eq_true rfl) dX9_judgement_65 ⟨Nat.le_of_ble_eq_true rfl, Nat.le_of_ble_eq_true rfl⟩) hW (fun r_25 L_23 h_24 H locs p_26 hW => ?_)
        obtain ⟨hr_27, hT, hs⟩ := p_26
        replace hT : hx_T T_tb L_23 h_24 := hT
        replace hs : hx_S T_tb [] L_15 h_16 L_23 h_24 := hs
        replace f_x_7 := (hs.o gx trivial rfl).2.trans f_x_7
        replace f_x_10 := (hs.o gx trivial rfl).2.trans f_x_10
        replace f_x_11 := (hs.o gx trivial rfl).1.trans f_x_11
        replace f_x_8 := (hs.o gx trivial rfl).1.trans f_x_8
        replace fx_1 := (hs.o (gv1.S hM) trivial rfl).1.trans fx_1
        replace fq_2 := (hs.o (gv1.S hM) trivial rfl).2.trans fq_2
        replace fx_3 := (hs.o gq_2 trivial rfl).1.trans fx_3
        replace fx_11 := (hs.o (gv1.S hM) trivial rfl).1.trans fx_11
        replace pf_x_8 : ∀ j : Nat, (j : Int) < (h_24.2.1 x 8).toInt → h_24.2.2 qp j ≠ none := by
          intro j hj; rw [(hs.o gx trivial rfl).1] at hj; rw [(hs.a gqp rfl j).2]; exact pf_x_8 j hj
        replace pf_x_11 : ∀ j : Nat, (j : Int) < (h_24.2.1 x 11).toInt → h_24.2.2 qc j ≠ none := by
          intro j hj; rw [(hs.o gx trivial rfl).1] at hj; rw [(hs.a gqc rfl j).2]; exact pf_x_11 j hj
        replace cl_qc_7 : hx_col 100 h_24 qc 7 = frf := (hx_col_S hs hTo gqc tt_45 tt_2 rfl rfl).trans cl_qc_7
        replace cl_qc_6 : hx_col 100 h_24 qc 6 = smf := (hx_col_S hs hTo gqc tt_45 tt_2 rfl rfl).trans cl_qc_6
        replace cl_qc_8 : hx_col 100 h_24 qc 8 = flf := (hx_col_S hs hTo gqc tt_45 tt_2 rfl rfl).trans cl_qc_8
        replace cl_qp_1 : hx_col 40 h_24 qp 1 = bnf := (hx_col_S hs hTo gqp tt_44 tt_4 rfl rfl).trans cl_qp_1
        replace nu_qp : hx_num 40 h_24 qp 0 (pn0.toInt) := hx_num_S hs hTo gqp tt_44 tt_4 rfl rfl nu_qp
        replace hDF : hw_DF h_24 qc qp 2 agf cn0.toInt := hw_DF_S hs hTo gqc gqp tt_45 tt_2 rfl rfl rfl hDF
        replace hDP : hw_DF h_24 qc qp 1 byf cn0.toInt := hw_DF_S hs hTo gqc gqp tt_45 tt_2 rfl rfl rfl hDP
        replace eo_v1 := (hs.a gqc rfl _).2.trans eo_v1
        replace eoq_2 := (hs.a gqp rfl _).2.trans eoq_2
        replace ex_4 := ex_4.trans (hs.a (gqt.S hM) rfl _).1.symm
        replace ex_12 := ex_12.trans (hs.a (gqt.S hM) rfl _).1.symm
        replace hM := hM.tr (hs.mono (by decide))
        replace gx := gx.S hs
        replace gqp := gqp.S hs
        replace gqc := gqc.S hs
        replace gq_2 := gq_2.S hs
        refine hb_if_eq (zx := r_25.toInt) (tgt := 75) hx hb rfl dX9_judgement_68 (by decide) (fun c_28 => ?_) (fun c_28 => ?_)
        · skip
          refine lv_iconst (v := 4) hx hb dX9_judgement_75 (by decide) ?_
          exact hx_reti hx hb hr hlk hW ⟨⟨(hv_jg_4 (by rw [← cx_1, ← cx_3]; omega) (by rw [← cx_11]; omega) (by rw [← hr_19.1]; omega) (Or.inr ⟨by decide, (by rcases hr_27 with z | z; (exfalso; omega); exact z.2)⟩)), by decide, by decide⟩, hT, hM⟩ dX9_judgement_76
        · skip
          refine lv_iconst (v := 5) hx hb dX9_judgement_71 (by decide) ?_
          refine lv_goto (tgt := 76) hx hb dX9_judgement_72 (by decide) ?_
          exact hx_reti hx hb hr hlk hW ⟨⟨(hv_jg_4 (by rw [← cx_1, ← cx_3]; omega) (by rw [← cx_11]; omega) (by rw [← hr_19.1]; omega) (Or.inl ⟨by decide, (by rcases hr_27 with z | z; exact z.2; exfalso; omega)⟩)), by decide, by decide⟩, hT, hM⟩ dX9_judgement_76
      · skip
        refine lv_iconst (v := 3) hx hb dX9_judgement_58 (by decide) ?_
        exact hx_reti hx hb hr hlk hW ⟨⟨(hv_jg_3 (by rw [← cx_1, ← cx_3]; omega) (by rw [← cx_11]; omega) (by rw [← hr_19.1]; omega) (by decide)), by decide, by decide⟩, hT, hM⟩ dX9_judgement_59
    · skip
      refine lv_iconst (v := 2) hx hb dX9_judgement_41 (by decide) ?_
      exact hx_reti hx hb hr hlk hW ⟨⟨(hv_jg_2 (by rw [← cx_1, ← cx_3]; omega) (by rw [← cx_11]; omega) (by decide)), by decide, by decide⟩, hT, hM⟩ dX9_judgement_42
  · skip
    refine lv_iconst (v := 1) hx hb dX9_judgement_26 (by decide) ?_
    exact hx_reti hx hb hr hlk hW ⟨⟨(hv_jg_1 (by rw [← cx_1, ← cx_3]; omega) (by decide)), by decide, by decide⟩, hT, hM⟩ dX9_judgement_27


set_option maxHeartbeats 4000000 in
set_option maxRecDepth 100000 in
theorem t_X10_judges_v (l : Launch) (dC : Nat → ClassId) (dI : Nat → Nat → Nat) (dA : Nat → ClassId) (L : List Nat) (h : hx_h) (sz : Nat) (x : Nat) (i1 : Int32) (i2 : Int32) (hT : hx_T T_tb L h) (gx : hx_g L h x 10) (qb : Nat) (gqb : hx_g L h qb 72) (f_x_37 : h.2.2 x 37 = some qb) (qa : Nat) (gqa : hx_g L h qa 73) (f_x_38 : h.2.2 x 38 = some qa) (qf : Nat) (gqf : hx_g L h qf 78) (f_x_43 : h.2.2 x 43 = some qf) (qs : Nat) (gqs : hx_g L h qs 74) (f_x_39 : h.2.2 x 39 = some qs) (ql : Nat) (gql : hx_g L h ql 50) (f_x_3 : h.2.2 x 3 = some ql) (qo : Nat) (gqo : hx_g L h qo 75) (f_x_40 : h.2.2 x 40 = some qo) (qbn : Nat) (gqbn : hx_g L h qbn 58) (f_x_21 : h.2.2 x 21 = some qbn) (qn : Nat) (gqn : hx_g L h qn 51) (f_x_4 : h.2.2 x 4 = some qn) (qp : Nat) (gqp : hx_g L h qp 52) (f_x_5 : h.2.2 x 5 = some qp) (qk : Nat) (gqk : hx_g L h qk 99) (f_x_66 : h.2.2 x 66 = some qk) (qft : Nat) (gqft : hx_g L h qft 88) (f_x_53 : h.2.2 x 53 = some qft) (byf : Nat → Int32) (af_qb : h.2.1 qb = byf) (agf : Nat → Int32) (af_qa : h.2.1 qa = agf) (flf : Nat → Int32) (af_qf : h.2.1 qf = flf) (smf : Nat → Int32) (af_qs : h.2.1 qs = smf) (rlf : Nat → Int32) (af_ql : h.2.1 ql = rlf) (frf : Nat → Int32) (af_qo : h.2.1 qo = frf) (bnf : Nat → Int32) (af_qbn : h.2.1 qbn = bnf) (psf : Nat → Int32) (af_qn : h.2.1 qn = psf) (prf : Nat → Int32) (af_qp : h.2.1 qp = prf) (skf : Nat → Int32) (af_qk : h.2.1 qk = skf) (rf : Nat → Int32) (af_qft : h.2.1 qft = rf) (c0 : Int32) (f_x_36 : h.2.1 x 36 = c0) (hi1 : 0 ≤ i1.toInt ∧ i1.toInt < c0.toInt) (hi2 : 0 ≤ i2.toInt ∧ i2.toInt ≤ 8) (R : Nat → Int) (hRr : ∀ k : Nat, k ≤ 12 → (rlf (13 * i2.toInt.toNat + k)).toInt = R k) (hRb : ∀ k, 0 ≤ R k ∧ R k ≤ 9999) (o : List hv_tok) (hO : hv_OK o) (hls : hv_ls (fun i => prf (128 * i2.toInt.toNat + i)) (psf i2.toInt.toNat).toInt.toNat = o.map hv_rc) (hps : (psf i2.toInt.toNat).toInt ≤ 128) : Met l yX10_judges (Cond.code yX10_judges cX10_judges 3 (some .int) :: hx_all) ({ frames := 2, cells := 0, slots := 0, locals := 50 }) (va_Pc [.ref x, .int i1, .int i2] (hx_B T_tb (P_ty dA) (dC, dI) vwCl L h sz)) (va_Qi (fun (r : Int32) (u : List Nat × hx_h) => (r.toInt = hv_jg (hv_F0 rf (8 * i1.toInt.toNat)) R o (frf i1.toNatClampNeg).toInt (bnf (agf i1.toNatClampNeg).toNatClampNeg).toInt (smf i1.toNatClampNeg).toInt (hv_sm byf agf flf smf (byf i1.toNatClampNeg).toInt (agf i1.toNatClampNeg).toInt ((flf i1.toNatClampNeg).toInt - R 1) c0.toInt.toNat) ∧ (1 ≤ r.toInt ∧ r.toInt ≤ 5)) ∧ hx_T T_tb u.1 u.2 ∧ hx_S T_tb [(99, 0)] L h u.1 u.2) (hx_E T_tb (P_ty dA) (dC, dI) vwCl (hx_A L sz)) (hx_A L sz)) 0 0 (hx_A L sz) := by
  refine hx_met (lv := [(0, .ref x), (1, .int i1), (2, .int i2)]) (by decide +kernel) rfl (Nat.le_of_ble_eq_true rfl) rfl ?_
  intro p e s m below meth c hx hb hml hr hlk hts0 hown hin hsz hW ls hl
  have hts : ∀ w ∈ hx_all, w.before _ s = true := fun w hw => hts0 w (List.mem_cons_of_mem _ hw)
  have hown : s.vm.findClass "SmallCourtModel" = some m.cls := hown
  have hM : hx_S T_tb [(99, 0)] L h L h := hx_S.rf
  have b_c0 := hT.gi gx tt_10 (k := 36) rfl
  rw [f_x_36] at b_c0
  have b_c0 : 0 ≤ c0.toInt ∧ c0.toInt ≤ 100 := b_c0
  refine lv_aload_n hx hb dX10_judges_0 rfl (lv_at hl 0 rfl) ?_
  refine hk_getr hx hb hts hC_10 hown hW (gx.S hM) tt_10 40 (by decide) rfl kw_1183 ⟨rfl, rfl, rfl⟩ ((hM.o gx trivial rfl).2.trans f_x_40) dX10_judges_1 ?_
  refine lv_iload_n hx hb dX10_judges_4 rfl (lv_at hl 1 rfl) ?_
  refine hx_iald hx hb hW hT (gqo.S hM) tt_75 rfl ⟨by omega, by omega⟩ dX10_judges_5 (fun x_1 ex_1 lx_1 ux_1 => ?_)
  have ax_1 : x_1 = frf i1.toNatClampNeg := ex_1.trans (congrFun (hx_afS hM gqo rfl af_qo) _)
  refine lv_aload_n hx hb dX10_judges_6 rfl (lv_at hl 0 rfl) ?_
  refine hk_getr hx hb hts hC_10 hown hW (gx.S hM) tt_10 21 (by decide) rfl kw_1164 ⟨rfl, rfl, rfl⟩ ((hM.o gx trivial rfl).2.trans f_x_21) dX10_judges_7 ?_
  refine lv_aload_n hx hb dX10_judges_10 rfl (lv_at hl 0 rfl) ?_
  refine hk_getr hx hb hts hC_10 hown hW (gx.S hM) tt_10 38 (by decide) rfl kw_1181 ⟨rfl, rfl, rfl⟩ ((hM.o gx trivial rfl).2.trans f_x_38) dX10_judges_11 ?_
  refine lv_iload_n hx hb dX10_judges_14 rfl (lv_at hl 1 rfl) ?_
  refine hx_iald hx hb hW hT (gqa.S hM) tt_73 rfl ⟨by omega, by omega⟩ dX10_judges_15 (fun x_2 ex_2 lx_2 ux_2 => ?_)
  have ax_2 : x_2 = agf i1.toNatClampNeg := ex_2.trans (congrFun (hx_afS hM gqa rfl af_qa) _)
  refine hx_iald hx hb hW hT (gqbn.S hM) tt_58 rfl ⟨by omega, by omega⟩ dX10_judges_16 (fun x_3 ex_3 lx_3 ux_3 => ?_)
  have ax_3 : x_3 = bnf x_2.toNatClampNeg := ex_3.trans (congrFun (hx_afS hM gqbn rfl af_qbn) _)
  have cbo9 : x_3 = bnf (agf i1.toNatClampNeg).toNatClampNeg := by rw [ax_3, ← ax_2]
  refine lv_isub hx hb dX10_judges_17 ?_
  have rg_4 := i32_r x_1
  have rg_5 := i32_r x_3
  refine lv_topi (fun x_6 ex_6 => ?_)
  have zx_6 : x_6.toInt = x_1.toInt - x_3.toInt := by rw [ex_6]; exact i32_sub rfl rfl (by omega) (by omega)
  refine lv_sipush (v := 365) hx hb dX10_judges_18 (by decide) ?_
  refine lv_aload_n hx hb dX10_judges_21 rfl (lv_at hl 0 rfl) ?_
  refine lv_iload_n hx hb dX10_judges_22 rfl (lv_at hl 2 rfl) ?_
  refine lv_bipush (v := 8) hx hb dX10_judges_23 (by decide) ?_
  have zc_8 : (8 : Int32).toInt = 8 := by decide
  have zc_365 : (365 : Int32).toInt = 365 := by decide
  refine hx_goi (hx_runV (As := [.int i2, .int (8 : Int32)]) (rest := [.int (365 : Int32), .int x_6]) ⟨hx, hb, hml, hown, hts⟩ hW (gx.S hM) tt_10 (T := TX10) (N := 98) rfl (t_X10_ruleOf_v l dC dI dA L h s.heap.size x i2 (8 : Int32) hT (gx.S hM) ql (gql.S hM) ((hM.o gx trivial rfl).2.trans f_x_3) rlf (hx_afS hM gql rfl af_ql) ⟨by omega, by omega⟩ (by decide)) (cwV 2 hts (hx_gV kw_1533 kw_1530 kw_1532 kw_66 kw_103) rfl rfl rfl (by decide +kernel) ⟨Nat.le_of_ble_eq_true rfl, Nat.le_of_ble_eq_true rfl⟩) rfl hl.1 rfl (Nat.le_of_ble_eq_true rfl) dX10_judges_25 ⟨Nat.le_of_ble_eq_true rfl, Nat.le_of_ble_eq_true rfl⟩) hW (fun r_9 L_7 h_8 H locs p_10 hW => ?_)
  obtain ⟨hr_11, hT, hs⟩ := p_10
  replace hT : hx_T T_tb L_7 h_8 := hT
  replace hs : hx_S T_tb [] L h L_7 h_8 := hs
  replace af_qk : h_8.2.1 qk = skf := (funext fun j => (hs.a (gqk.S hM) rfl j).1).trans af_qk
  replace ex_1 := ex_1.trans (hs.a (gqo.S hM) rfl _).1.symm
  replace ex_2 := ex_2.trans (hs.a (gqa.S hM) rfl _).1.symm
  replace ex_3 := ex_3.trans (hs.a (gqbn.S hM) rfl _).1.symm
  replace hM := hM.tr (hs.mono (by decide))
  have hR_12 : r_9.toInt = R 8 := by rw [hr_11.1, show (8 : Int32).toInt.toNat = 8 from by decide]; exact hRr 8 (by decide)
  refine lv_imul hx hb dX10_judges_28 ?_
  refine lv_topi (fun x_13 ex_13 => ?_)
  have zx_13 : x_13.toInt = 365 * r_9.toInt := by rw [ex_13]; exact i32_mul (by decide) rfl rfl (by omega) (by omega)
  refine hb_icmp_ge (zx := x_6.toInt) (zy := x_13.toInt) (tgt := 34) hx hb rfl rfl dX10_judges_29 (by decide) (fun c_14 => ?_) (fun c_14 => ?_)
  · skip
    refine lv_aload_n hx hb dX10_judges_34 rfl (lv_at hl 0 rfl) ?_
    refine hk_getr hx hb hts hC_10 hown hW (gx.S hM) tt_10 39 (by decide) rfl kw_1182 ⟨rfl, rfl, rfl⟩ ((hM.o gx trivial rfl).2.trans f_x_39) dX10_judges_35 ?_
    refine lv_iload_n hx hb dX10_judges_38 rfl (lv_at hl 1 rfl) ?_
    refine hx_iald hx hb hW hT (gqs.S hM) tt_74 rfl ⟨by omega, by omega⟩ dX10_judges_39 (fun x_15 ex_15 lx_15 ux_15 => ?_)
    have ax_15 : x_15 = smf i1.toNatClampNeg := ex_15.trans (congrFun (hx_afS hM gqs rfl af_qs) _)
    refine lv_aload_n hx hb dX10_judges_40 rfl (lv_at hl 0 rfl) ?_
    refine lv_iload_n hx hb dX10_judges_41 rfl (lv_at hl 2 rfl) ?_
    refine lv_iconst (v := 0) hx hb dX10_judges_42 (by decide) ?_
    have zc_0 : (0 : Int32).toInt = 0 := by decide
    refine hx_goi (hx_runV (As := [.int i2, .int (0 : Int32)]) (rest := [.int x_15]) ⟨hx, hb, hml, hown, hts⟩ hW (gx.S hM) tt_10 (T := TX10) (N := 98) rfl (t_X10_ruleOf_v l dC dI dA L_7 h_8 H.size x i2 (0 : Int32) hT (gx.S hM) ql (gql.S hM) ((hM.o gx trivial rfl).2.trans f_x_3) rlf (hx_afS hM gql rfl af_ql) ⟨by omega, by omega⟩ (by decide)) (cwV 2 hts (hx_gV kw_1533 kw_1530 kw_1532 kw_66 kw_103) rfl rfl rfl (by decide +kernel) ⟨Nat.le_of_ble_eq_true rfl, Nat.le_of_ble_eq_true rfl⟩) rfl hl.1 rfl (Nat.le_of_ble_eq_true rfl) dX10_judges_43 ⟨Nat.le_of_ble_eq_true rfl, Nat.le_of_ble_eq_true rfl⟩) hW (fun r_18 L_16 h_17 H locs p_19 hW => ?_)
    obtain ⟨hr_20, hT, hs⟩ := p_19
    replace hT : hx_T T_tb L_16 h_17 := hT
    replace hs : hx_S T_tb [] L_7 h_8 L_16 h_17 := hs
    replace af_qk : h_17.2.1 qk = skf := (funext fun j => (hs.a (gqk.S hM) rfl j).1).trans af_qk
    replace ex_1 := ex_1.trans (hs.a (gqo.S hM) rfl _).1.symm
    replace ex_2 := ex_2.trans (hs.a (gqa.S hM) rfl _).1.symm
    replace ex_3 := ex_3.trans (hs.a (gqbn.S hM) rfl _).1.symm
    replace ex_15 := ex_15.trans (hs.a (gqs.S hM) rfl _).1.symm
    replace hM := hM.tr (hs.mono (by decide))
    have hR_21 : r_18.toInt = R 0 := by rw [hr_20.1, show (0 : Int32).toInt.toNat = 0 from by decide]; exact hRr 0 (by decide)
    refine hb_icmp_le (zx := x_15.toInt) (zy := r_18.toInt) (tgt := 51) hx hb rfl rfl dX10_judges_46 (by decide) (fun c_22 => ?_) (fun c_22 => ?_)
    · skip
      refine lv_aload_n hx hb dX10_judges_51 rfl (lv_at hl 0 rfl) ?_
      refine lv_iload_n hx hb dX10_judges_52 rfl (lv_at hl 1 rfl) ?_
      refine lv_iload_n hx hb dX10_judges_53 rfl (lv_at hl 2 rfl) ?_
      refine hx_goi (hx_runV (As := [.int i1, .int i2]) (rest := []) ⟨hx, hb, hml, hown, hts⟩ hW (gx.S hM) tt_10 (T := TX10) (N := 98) rfl (t_X10_isSplit_v l dC dI dA L_16 h_17 H.size x i1 i2 hT (gx.S hM) qb (gqb.S hM) ((hM.o gx trivial rfl).2.trans f_x_37) qa (gqa.S hM) ((hM.o gx trivial rfl).2.trans f_x_38) qf (gqf.S hM) ((hM.o gx trivial rfl).2.trans f_x_43) qs (gqs.S hM) ((hM.o gx trivial rfl).2.trans f_x_39) ql (gql.S hM) ((hM.o gx trivial rfl).2.trans f_x_3) byf (hx_afS hM gqb rfl af_qb) agf (hx_afS hM gqa rfl af_qa) flf (hx_afS hM gqf rfl af_qf) smf (hx_afS hM gqs rfl af_qs) rlf (hx_afS hM gql rfl af_ql) c0 ((hM.o gx trivial rfl).1.trans f_x_36) ⟨by omega, by omega⟩ ⟨by omega, by omega⟩ R hRr) (cwV 2 hts (hx_gV kw_1621 kw_1618 kw_1620 kw_78 kw_103) rfl rfl rfl (by decide +kernel) ⟨Nat.le_of_ble_eq_true rfl, Nat.le_of_ble_eq_true rfl⟩) rfl hl.1 rfl (Nat.le_of_ble_eq_true rfl) dX10_judges_54 ⟨Nat.le_of_ble_eq_true rfl, Nat.le_of_ble_eq_true rfl⟩) hW (fun r_25 L_23 h_24 H locs p_26 hW => ?_)
      obtain ⟨hr_27, hT, hs⟩ := p_26
      replace hT : hx_T T_tb L_23 h_24 := hT
      replace hs : hx_S T_tb [] L_16 h_17 L_23 h_24 := hs
      replace af_qk : h_24.2.1 qk = skf := (funext fun j => (hs.a (gqk.S hM) rfl j).1).trans af_qk
      replace ex_1 := ex_1.trans (hs.a (gqo.S hM) rfl _).1.symm
      replace ex_2 := ex_2.trans (hs.a (gqa.S hM) rfl _).1.symm
      replace ex_3 := ex_3.trans (hs.a (gqbn.S hM) rfl _).1.symm
      replace ex_15 := ex_15.trans (hs.a (gqs.S hM) rfl _).1.symm
      replace hM := hM.tr (hs.mono (by decide))
      refine hb_if_eq (zx := r_25.toInt) (tgt := 62) hx hb rfl dX10_judges_57 (by decide) (fun c_28 => ?_) (fun c_28 => ?_)
      · skip
        refine lv_aload_n hx hb dX10_judges_62 rfl (lv_at hl 0 rfl) ?_
        refine lv_iload_n hx hb dX10_judges_63 rfl (lv_at hl 1 rfl) ?_
        refine lv_iload_n hx hb dX10_judges_64 rfl (lv_at hl 2 rfl) ?_
        refine hx_goi (hx_runV (As := [.int i1, .int i2]) (rest := []) ⟨hx, hb, hml, hown, hts⟩ hW (gx.S hM) tt_10 (T := TX10) (N := 98) rfl (t_X10_isProved_v l dC dI dA L_23 h_24 H.size x i1 i2 hT (gx.S hM) qn (gqn.S hM) ((hM.o gx trivial rfl).2.trans f_x_4) qp (gqp.S hM) ((hM.o gx trivial rfl).2.trans f_x_5) qk (gqk.S hM) ((hM.o gx trivial rfl).2.trans f_x_66) qft (gqft.S hM) ((hM.o gx trivial rfl).2.trans f_x_53) psf (hx_afS hM gqn rfl af_qn) prf (hx_afS hM gqp rfl af_qp) skf af_qk rf (hx_afS hM gqft rfl af_qft) ⟨by omega, by omega⟩ ⟨by omega, by omega⟩ o hO hls hps) (cwV 2 hts (hx_gV kw_1625 kw_1622 kw_1624 kw_79 kw_103) rfl rfl rfl (by decide +kernel) ⟨Nat.le_of_ble_eq_true rfl, Nat.le_of_ble_eq_true rfl⟩) rfl hl.1 rfl (Nat.le_of_ble_eq_true rfl) dX10_judges_65 ⟨Nat.le_of_ble_eq_true rfl, Nat.le_of_ble_eq_true rfl⟩) hW (fun r_31 L_29 h_30 H locs p_32 hW => ?_)
        obtain ⟨hr_33, hT, hs⟩ := p_32
        replace hT : hx_T T_tb L_29 h_30 := hT
        replace hs : hx_S T_tb [(99, 0)] L_23 h_24 L_29 h_30 := hs
        replace ex_1 := ex_1.trans (hs.a (gqo.S hM) rfl _).1.symm
        replace ex_2 := ex_2.trans (hs.a (gqa.S hM) rfl _).1.symm
        replace ex_3 := ex_3.trans (hs.a (gqbn.S hM) rfl _).1.symm
        replace ex_15 := ex_15.trans (hs.a (gqs.S hM) rfl _).1.symm
        replace hM := hM.tr (hs.mono (by decide))
        refine hb_if_eq (zx := r_31.toInt) (tgt := 75) hx hb rfl dX10_judges_68 (by decide) (fun c_34 => ?_) (fun c_34 => ?_)
        · skip
          refine lv_iconst (v := 4) hx hb dX10_judges_75 (by decide) ?_
          exact hx_reti hx hb hr hlk hW ⟨⟨(hv_jg_4 (by rw [← ax_1, ← cbo9]; omega) (by rw [← ax_15]; omega) (by rcases hr_27 with z | z; (exfalso; omega); intro z9; by_cases z8 : 1 < hv_sct byf agf flf (byf i1.toNatClampNeg).toInt (agf i1.toNatClampNeg).toInt ((flf i1.toNatClampNeg).toInt - R 1) c0.toInt.toNat; exact z.2 ⟨z8, z9⟩; rw [hv_sct_1 (c := i1.toNatClampNeg) (hv_sq_t.mpr ⟨rfl, rfl, (by have := hRb 1; omega)⟩) c0.toInt.toNat (by unfold Int32.toNatClampNeg; omega) (by omega), ← ax_15] at z9; omega) (Or.inr ⟨by decide, (by rcases hr_33 with z | z; (exfalso; omega); exact z.2)⟩)), by decide, by decide⟩, hT, hM⟩ dX10_judges_76
        · skip
          refine lv_iconst (v := 5) hx hb dX10_judges_71 (by decide) ?_
          refine lv_goto (tgt := 76) hx hb dX10_judges_72 (by decide) ?_
          exact hx_reti hx hb hr hlk hW ⟨⟨(hv_jg_4 (by rw [← ax_1, ← cbo9]; omega) (by rw [← ax_15]; omega) (by rcases hr_27 with z | z; (exfalso; omega); intro z9; by_cases z8 : 1 < hv_sct byf agf flf (byf i1.toNatClampNeg).toInt (agf i1.toNatClampNeg).toInt ((flf i1.toNatClampNeg).toInt - R 1) c0.toInt.toNat; exact z.2 ⟨z8, z9⟩; rw [hv_sct_1 (c := i1.toNatClampNeg) (hv_sq_t.mpr ⟨rfl, rfl, (by have := hRb 1; omega)⟩) c0.toInt.toNat (by unfold Int32.toNatClampNeg; omega) (by omega), ← ax_15] at z9; omega) (Or.inl ⟨by decide, (by rcases hr_33 with z | z; exact z.2; exfalso; omega)⟩)), by decide, by decide⟩, hT, hM⟩ dX10_judges_76
      · skip
        refine lv_iconst (v := 3) hx hb dX10_judges_60 (by decide) ?_
        exact hx_reti hx hb hr hlk hW ⟨⟨(hv_jg_3 (by rw [← ax_1, ← cbo9]; omega) (by rw [← ax_15]; omega) (by rcases hr_27 with z | z; exact z.2.2; exfalso; omega) (by decide)), by decide, by decide⟩, hT, hM⟩ dX10_judges_61
    · skip
      refine lv_iconst (v := 2) hx hb dX10_judges_49 (by decide) ?_
      exact hx_reti hx hb hr hlk hW ⟨⟨(hv_jg_2 (by rw [← ax_1, ← cbo9]; omega) (by rw [← ax_15]; omega) (by decide)), by decide, by decide⟩, hT, hM⟩ dX10_judges_50
  · skip
    refine lv_iconst (v := 1) hx hb dX10_judges_32 (by decide) ?_
    exact hx_reti hx hb hr hlk hW ⟨⟨(hv_jg_1 (by rw [← ax_1, ← cbo9]; omega) (by decide)), by decide, by decide⟩, hT, hM⟩ dX10_judges_33
