section
set_option maxHeartbeats 4000000 in
set_option maxRecDepth 100000 in
theorem t_X9_drawBench_v (l : Launch) (dC : Nat → ClassId) (dI : Nat → Nat → Nat) (dA : Nat → ClassId) (L : List Nat) (h : hx_h) (sz : Nat) (x : Nat) (v1 : Nat) (i2 : Int32) (hT : hx_T T_tb L h) (gx : hx_g L h x 9) (gv1 : hx_g L h v1 2) (qp : Nat) (gqp : hx_g L h qp 44) (f_x_7 : h.2.2 x 7 = some qp) (qc : Nat) (gqc : hx_g L h qc 45) (f_x_10 : h.2.2 x 10 = some qc) (qfi : Nat) (gqfi : hx_g L h qfi 47) (f_x_15 : h.2.2 x 15 = some qfi) (ic : Int32) (eo_v1 : h.2.2 qc ic.toNatClampNeg = some v1) (ob_ic : 0 ≤ ic.toInt ∧ ic.toInt ≤ 99) (fi0 : Nat → Int32) (af_qfi : h.2.1 qfi = fi0) (cn0 : Int32) (f_x_11 : h.2.1 x 11 = cn0) (pn0 : Int32) (f_x_8 : h.2.1 x 8 = pn0) (df : Nat → Int32) (cl_qp_7 : hx_col 40 h qp 7 = df) (jf : Nat → Int32) (cl_qp_8 : hx_col 40 h qp 8 = jf) (kf : Nat → Int32) (cl_qp_2 : hx_col 40 h qp 2 = kf) (nu_qp : hx_num 40 h qp 0 (pn0.toInt)) (agf byf : Nat → Int32) (hDF : hw_DF h qc qp 2 agf cn0.toInt) (hDP : hw_DF h qc qp 1 byf cn0.toInt) (hcn : ic.toInt < cn0.toInt) (hi2 : 0 ≤ i2.toInt) (bF : Nat → Int32) (hBX : hv_FX 3 5 h qc bF cn0.toInt) (pf_x_8 : ∀ j : Nat, (j : Int) < (h.2.1 x 8).toInt → h.2.2 qp j ≠ none) : Met l yX9_drawBench (Cond.code yX9_drawBench cX9_drawBench 9 (some .boolean) :: hx_all) ({ frames := 2, cells := 0, slots := 0, locals := 42 }) (va_Pc [.ref x, .ref v1, .int i2] (hx_B T_tb (P_ty dA) (dC, dI) vwCl L h sz)) (va_Qi (fun (r : Int32) (u : List Nat × hx_h) => ((r.toInt = 1 ∧ 3 ≤ ((hv_fs jf df kf (byf ic.toNatClampNeg).toNatClampNeg (agf ic.toNatClampNeg).toNatClampNeg pn0.toInt.toNat).length : Int) ∧ ∃ (b0 b1 b2 : Int32) (bF1 : Nat → Int32), hv_BN (hv_fs jf df kf (byf ic.toNatClampNeg).toNatClampNeg (agf ic.toNatClampNeg).toNatClampNeg pn0.toInt.toNat) (i2.toInt % hv_T3 (hv_fs jf df kf (byf ic.toNatClampNeg).toNatClampNeg (agf ic.toNatClampNeg).toNatClampNeg pn0.toInt.toNat).length) b0 b1 b2 ∧ bF1 = hx_up (hx_up (hx_up bF (0 + 3 * ic.toNatClampNeg) b0) (1 + 3 * ic.toNatClampNeg) b1) (2 + 3 * ic.toNatClampNeg) b2 ∧ hv_FX 3 5 u.2 qc bF1 cn0.toInt) ∨ (r.toInt = 0 ∧ ((hv_fs jf df kf (byf ic.toNatClampNeg).toNatClampNeg (agf ic.toNatClampNeg).toNatClampNeg pn0.toInt.toNat).length : Int) < 3 ∧ hv_FX 3 5 u.2 qc bF cn0.toInt)) ∧ hx_T T_tb u.1 u.2 ∧ hx_S T_tb [(21, 0), (47, 0)] L h u.1 u.2) (hx_E T_tb (P_ty dA) (dC, dI) vwCl (hx_A L sz)) (hx_A L sz)) 0 0 (hx_A L sz) := by
  refine hx_met (lv := [(0, .ref x), (1, .ref v1), (2, .int i2)]) (by decide +kernel) rfl (Nat.le_of_ble_eq_true rfl) rfl ?_
  intro p e s m below meth c hx hb hml hr hlk hts0 hown hin hsz hW ls hl
  have hts : ∀ w ∈ hx_all, w.before _ s = true := fun w hw => hts0 w (List.mem_cons_of_mem _ hw)
  have hown : s.vm.findClass "SmallCourt" = some m.cls := hown
  have hM : hx_S T_tb [(21, 0), (47, 0)] L h L h := hx_S.rf
  have b_cn0 := hT.gi gx tt_9 (k := 11) rfl
  rw [f_x_11] at b_cn0
  have b_cn0 : 0 ≤ cn0.toInt ∧ cn0.toInt ≤ 100 := b_cn0
  have b_pn0 := hT.gi gx tt_9 (k := 8) rfl
  rw [f_x_8] at b_pn0
  have b_pn0 : 0 ≤ pn0.toInt ∧ pn0.toInt ≤ 40 := b_pn0
  refine lv_iconst (v := 0) hx hb dX9_drawBench_0 (by decide) ?_
  refine lv_istore_n (lv' := [(3, .int (0 : Int32)), (0, .ref x), (1, .ref v1), (2, .int i2)]) hx hb dX9_drawBench_1 rfl hl (by decide) rfl (fun ls hl => ?_)
  refine lv_iconst (v := 0) hx hb dX9_drawBench_2 (by decide) ?_
  refine lv_istore (lv' := [(4, .int (0 : Int32)), (3, .int (0 : Int32)), (0, .ref x), (1, .ref v1), (2, .int i2)]) hx hb dX9_drawBench_3 hl (by decide) rfl (fun ls hl => ?_)
  have loop5 : ∀ (n5 : Nat) (iv5_3 iv5_4 : Int32) (ia5_qfi : Nat → Int32) (H : Heap) (locs : List Loc) (hL1 : List Nat) (hl1 : hx_h), 0 ≤ iv5_3.toInt → iv5_3.toInt ≤ 40 → 0 ≤ iv5_4.toInt → iv5_4.toInt ≤ 40 → (hv_fl ia5_qfi (hv_fs jf df kf (byf ic.toNatClampNeg).toNatClampNeg (agf ic.toNatClampNeg).toNatClampNeg (iv5_4.toInt).toNat) ∧ iv5_3.toInt = ((hv_fs jf df kf (byf ic.toNatClampNeg).toNatClampNeg (agf ic.toNatClampNeg).toNatClampNeg (iv5_4.toInt).toNat).length : Int)) → (iv5_3.toInt ≤ iv5_4.toInt) → (iv5_4.toInt ≤ pn0.toInt) → ∀ (ls : Array Slot), 40 - iv5_4.toInt < (n5 : Int) → hx_W T_tb (P_ty dA) (dC, dI) vwCl (hx_A L sz) s.heap hL1 hl1 s H locs → hx_T T_tb hL1 hl1 → hx_S T_tb [(21, 0), (47, 0)] L h hL1 hl1 → hl1.2.2 x 7 = some qp → hl1.2.2 x 10 = some qc → hl1.2.2 x 15 = some qfi → hl1.2.1 x 11 = cn0 → hl1.2.1 x 8 = pn0 → hx_g hL1 hl1 x 9 → hx_g hL1 hl1 qp 44 → hx_g hL1 hl1 qc 45 → (∀ j : Nat, (j : Int) < (hl1.2.1 x 8).toInt → hl1.2.2 qp j ≠ none) → hl1.2.1 qfi = ia5_qfi → hx_col 40 hl1 qp 7 = df → hx_col 40 hl1 qp 8 = jf → hx_col 40 hl1 qp 2 = kf → hx_num 40 hl1 qp 0 (pn0.toInt) → hl1.2.2 qc ic.toNatClampNeg = some v1 → hw_DF hl1 qc qp 2 agf cn0.toInt → hw_DF hl1 qc qp 1 byf cn0.toInt → hv_FX 3 5 hl1 qc bF cn0.toInt → lv_has ls 9 [(4, .int iv5_4), (3, .int iv5_3), (0, .ref x), (1, .ref v1), (2, .int i2)] → W p l e ({ frames := 2, cells := 0, slots := 0, locals := 42 }) s m ([.ref x, .ref v1, .int i2] : List Value).toArray below meth c H locs 0 0 (MQ below (va_Qi (fun (r : Int32) (u : List Nat × hx_h) => ((r.toInt = 1 ∧ 3 ≤ ((hv_fs jf df kf (byf ic.toNatClampNeg).toNatClampNeg (agf ic.toNatClampNeg).toNatClampNeg pn0.toInt.toNat).length : Int) ∧ ∃ (b0 b1 b2 : Int32) (bF1 : Nat → Int32), hv_BN (hv_fs jf df kf (byf ic.toNatClampNeg).toNatClampNeg (agf ic.toNatClampNeg).toNatClampNeg pn0.toInt.toNat) (i2.toInt % hv_T3 (hv_fs jf df kf (byf ic.toNatClampNeg).toNatClampNeg (agf ic.toNatClampNeg).toNatClampNeg pn0.toInt.toNat).length) b0 b1 b2 ∧ bF1 = hx_up (hx_up (hx_up bF (0 + 3 * ic.toNatClampNeg) b0) (1 + 3 * ic.toNatClampNeg) b1) (2 + 3 * ic.toNatClampNeg) b2 ∧ hv_FX 3 5 u.2 qc bF1 cn0.toInt) ∨ (r.toInt = 0 ∧ ((hv_fs jf df kf (byf ic.toNatClampNeg).toNatClampNeg (agf ic.toNatClampNeg).toNatClampNeg pn0.toInt.toNat).length : Int) < 3 ∧ hv_FX 3 5 u.2 qc bF cn0.toInt)) ∧ hx_T T_tb u.1 u.2 ∧ hx_S T_tb [(21, 0), (47, 0)] L h u.1 u.2) (hx_E T_tb (P_ty dA) (dC, dI) vwCl (hx_A L sz)) (hx_A L sz)) ([.ref x, .ref v1, .int i2] : List Value).toArray s 0 0 (hx_A L sz)) (F0 m 5 ls []) := by
    intro n5
    induction n5 with
    | zero => intro iv5_3 iv5_4 ia5_qfi H locs hL1 hl1 bliv5_3 buiv5_3 bliv5_4 buiv5_4 vi5_0 vi5_1 vi5_2 ls hn5; exfalso; omega
    | succ n5 ih5 =>
      intro iv5_3 iv5_4 ia5_qfi H locs hL1 hl1 bliv5_3 buiv5_3 bliv5_4 buiv5_4 vi5_0 vi5_1 vi5_2 ls hn5 hW hT hM f_x_7 f_x_10 f_x_15 f_x_11 f_x_8 gx gqp gqc pf_x_8 nia5_qfi cl_qp_7 cl_qp_8 cl_qp_2 nu_qp eo_v1 hDF hDP hBX hl
      refine lv_iload hx hb dX9_drawBench_5 (lv_at hl 0 rfl) ?_
      refine lv_aload_n hx hb dX9_drawBench_7 rfl (lv_at hl 2 rfl) ?_
      refine hk_geti hx hb hts hC_9 hown hW gx tt_9 8 (by decide) rfl kw_372 ⟨rfl, rfl, rfl⟩ f_x_8 dX9_drawBench_8 ?_
      refine hb_icmp_ge (zx := iv5_4.toInt) (zy := pn0.toInt) (tgt := 45) hx hb rfl rfl dX9_drawBench_11 (by decide) (fun c_1 => ?_) (fun c_1 => ?_)
      · skip
        obtain ⟨hfl9, hln9⟩ := vi5_0; rw [show iv5_4.toInt.toNat = pn0.toInt.toNat by omega] at hfl9 hln9
        refine lv_iload_n hx hb dX9_drawBench_45 rfl (lv_at hl 1 rfl) ?_
        refine lv_iload_n hx hb dX9_drawBench_46 rfl (lv_at hl 1 rfl) ?_
        refine lv_iconst (v := 1) hx hb dX9_drawBench_47 (by decide) ?_
        refine lv_isub hx hb dX9_drawBench_48 ?_
        have rg_2 := i32_r iv5_3
        refine lv_topi (fun x_3 ex_3 => ?_)
        have zx_3 : x_3.toInt = iv5_3.toInt - 1 := by rw [ex_3]; exact i32_sub rfl (by decide) (by omega) (by omega)
        refine lv_imul hx hb dX9_drawBench_49 ?_
        refine lv_topi (fun x_4 ex_4 => ?_)
        have mx_4 : iv5_3.toInt = 0 → x_4.toInt = 0 := fun z => by rw [ex_4]; exact hx_mul0 z
        refine lv_iload_n hx hb dX9_drawBench_50 rfl (lv_at hl 1 rfl) ?_
        refine lv_iconst (v := 2) hx hb dX9_drawBench_51 (by decide) ?_
        refine lv_isub hx hb dX9_drawBench_52 ?_
        refine lv_topi (fun x_5 ex_5 => ?_)
        have zx_5 : x_5.toInt = iv5_3.toInt - 2 := by rw [ex_5]; exact i32_sub rfl (by decide) (by omega) (by omega)
        refine lv_imul hx hb dX9_drawBench_53 ?_
        refine lv_topi (fun x_6 ex_6 => ?_)
        have mx_6 : x_4.toInt = 0 → x_6.toInt = 0 := fun z => by rw [ex_6]; exact hx_mul0 z
        refine lv_bipush (v := 6) hx hb dX9_drawBench_54 (by decide) ?_
        refine lv_idiv hx hb dX9_drawBench_56 (by decide) ?_
        refine lv_topi (fun x_7 ex_7 => ?_)
        have zx_7 : -1073741824 ≤ x_7.toInt ∧ x_7.toInt ≤ 1073741824 := by rw [ex_7]; exact hx_divb (by decide)
        have hs9 : x_7.toInt = hv_T3 iv5_3.toInt.toNat := hv_n6 (by omega) (by omega) zx_3 ex_4 zx_5 ex_6 ex_7
        have ht9 := hv_T3_c (n := iv5_3.toInt) (by omega) (by omega)
        refine lv_istore (lv' := [(4, .int x_7), (3, .int iv5_3), (0, .ref x), (1, .ref v1), (2, .int i2)]) hx hb dX9_drawBench_57 hl (by decide) rfl (fun ls hl => ?_)
        refine lv_iload hx hb dX9_drawBench_59 (lv_at hl 0 rfl) ?_
        refine lv_iconst (v := 1) hx hb dX9_drawBench_61 (by decide) ?_
        refine hb_icmp_ge (zx := x_7.toInt) (zy := 1) (tgt := 67) hx hb rfl (by decide) dX9_drawBench_62 (by decide) (fun c_8 => ?_) (fun c_8 => ?_)
        · skip
          refine lv_iload_n hx hb dX9_drawBench_67 rfl (lv_at hl 4 rfl) ?_
          refine lv_iload hx hb dX9_drawBench_68 (lv_at hl 0 rfl) ?_
          refine lv_irem hx hb dX9_drawBench_70 (hx_ne0 (by omega)) ?_
          refine lv_topi (fun x_9 ex_9 => ?_)
          have zx_9 : 0 ≤ x_9.toInt ∧ x_9.toInt < x_7.toInt := by rw [ex_9]; exact hx_rem (by omega) (by omega)
          have hp9 : x_9.toInt = i2.toInt % hv_T3 iv5_3.toInt.toNat := by rw [ex_9, hx_remz (by omega) (by omega), hs9]
          refine lv_istore (lv' := [(5, .int x_9), (4, .int x_7), (3, .int iv5_3), (0, .ref x), (1, .ref v1), (2, .int i2)]) hx hb dX9_drawBench_71 hl (by decide) rfl (fun ls hl => ?_)
          refine lv_iconst (v := 0) hx hb dX9_drawBench_73 (by decide) ?_
          refine lv_istore (lv' := [(6, .int (0 : Int32)), (5, .int x_9), (4, .int x_7), (3, .int iv5_3), (0, .ref x), (1, .ref v1), (2, .int i2)]) hx hb dX9_drawBench_74 hl (by decide) rfl (fun ls hl => ?_)
          have loop76 : ∀ (n76 : Nat) (iv76_5 iv76_6 : Int32) (H : Heap) (locs : List Loc) (hL1 : List Nat) (hl1 : hx_h), 0 ≤ iv76_5.toInt → iv76_5.toInt ≤ 9880 → 0 ≤ iv76_6.toInt → iv76_6.toInt ≤ 40 → (iv76_5.toInt = (i2.toInt % hv_T3 iv5_3.toInt.toNat) - hv_T3 iv5_3.toInt.toNat + hv_T3 (iv5_3.toInt - iv76_6.toInt).toNat) → (iv76_6.toInt ≤ iv5_3.toInt) → ∀ (ls : Array Slot), 40 - iv76_6.toInt < (n76 : Int) → hx_W T_tb (P_ty dA) (dC, dI) vwCl (hx_A L sz) s.heap hL1 hl1 s H locs → hx_T T_tb hL1 hl1 → hx_S T_tb [(21, 0), (47, 0)] L h hL1 hl1 → hl1.2.2 x 7 = some qp → hl1.2.2 x 10 = some qc → hl1.2.2 x 15 = some qfi → hl1.2.1 x 11 = cn0 → hl1.2.1 x 8 = pn0 → hx_g hL1 hl1 x 9 → hx_g hL1 hl1 qp 44 → hx_g hL1 hl1 qc 45 → (∀ j : Nat, (j : Int) < (hl1.2.1 x 8).toInt → hl1.2.2 qp j ≠ none) → hl1.2.1 qfi = ia5_qfi → hx_col 40 hl1 qp 7 = df → hx_col 40 hl1 qp 8 = jf → hx_col 40 hl1 qp 2 = kf → hx_num 40 hl1 qp 0 (pn0.toInt) → hl1.2.2 qc ic.toNatClampNeg = some v1 → hw_DF hl1 qc qp 2 agf cn0.toInt → hw_DF hl1 qc qp 1 byf cn0.toInt → hv_FX 3 5 hl1 qc bF cn0.toInt → lv_has ls 9 [(6, .int iv76_6), (5, .int iv76_5), (4, .int x_7), (3, .int iv5_3), (0, .ref x), (1, .ref v1), (2, .int i2)] → W p l e ({ frames := 2, cells := 0, slots := 0, locals := 42 }) s m ([.ref x, .ref v1, .int i2] : List Value).toArray below meth c H locs 0 0 (MQ below (va_Qi (fun (r : Int32) (u : List Nat × hx_h) => ((r.toInt = 1 ∧ 3 ≤ ((hv_fs jf df kf (byf ic.toNatClampNeg).toNatClampNeg (agf ic.toNatClampNeg).toNatClampNeg pn0.toInt.toNat).length : Int) ∧ ∃ (b0 b1 b2 : Int32) (bF1 : Nat → Int32), hv_BN (hv_fs jf df kf (byf ic.toNatClampNeg).toNatClampNeg (agf ic.toNatClampNeg).toNatClampNeg pn0.toInt.toNat) (i2.toInt % hv_T3 (hv_fs jf df kf (byf ic.toNatClampNeg).toNatClampNeg (agf ic.toNatClampNeg).toNatClampNeg pn0.toInt.toNat).length) b0 b1 b2 ∧ bF1 = hx_up (hx_up (hx_up bF (0 + 3 * ic.toNatClampNeg) b0) (1 + 3 * ic.toNatClampNeg) b1) (2 + 3 * ic.toNatClampNeg) b2 ∧ hv_FX 3 5 u.2 qc bF1 cn0.toInt) ∨ (r.toInt = 0 ∧ ((hv_fs jf df kf (byf ic.toNatClampNeg).toNatClampNeg (agf ic.toNatClampNeg).toNatClampNeg pn0.toInt.toNat).length : Int) < 3 ∧ hv_FX 3 5 u.2 qc bF cn0.toInt)) ∧ hx_T T_tb u.1 u.2 ∧ hx_S T_tb [(21, 0), (47, 0)] L h u.1 u.2) (hx_E T_tb (P_ty dA) (dC, dI) vwCl (hx_A L sz)) (hx_A L sz)) ([.ref x, .ref v1, .int i2] : List Value).toArray s 0 0 (hx_A L sz)) (F0 m 76 ls []) := by
            intro n76
            induction n76 with
            | zero => intro iv76_5 iv76_6 H locs hL1 hl1 bliv76_5 buiv76_5 bliv76_6 buiv76_6 vi76_0 vi76_1 ls hn76; exfalso; omega
            | succ n76 ih76 =>
              intro iv76_5 iv76_6 H locs hL1 hl1 bliv76_5 buiv76_5 bliv76_6 buiv76_6 vi76_0 vi76_1 ls hn76 hW hT hM f_x_7 f_x_10 f_x_15 f_x_11 f_x_8 gx gqp gqc pf_x_8 nia5_qfi cl_qp_7 cl_qp_8 cl_qp_2 nu_qp eo_v1 hDF hDP hBX hl
              refine lv_iload hx hb dX9_drawBench_76 (lv_at hl 0 rfl) ?_
              refine lv_iload_n hx hb dX9_drawBench_78 rfl (lv_at hl 3 rfl) ?_
              refine hb_icmp_ge (zx := iv76_6.toInt) (zy := iv5_3.toInt) (tgt := 174) hx hb rfl rfl dX9_drawBench_79 (by decide) (fun c_10 => ?_) (fun c_10 => ?_)
              · skip
                refine lv_iconst (v := 0) hx hb dX9_drawBench_174 (by decide) ?_
                exact hx_retz hx hb hr rfl hlk hW ⟨(by exfalso; have h8 : hv_T3 (iv76_6.toInt - iv76_6.toInt).toNat = 0 := (by { rw [show (iv76_6.toInt - iv76_6.toInt).toNat = 0 by omega]; rfl }); have h7 : hv_T3 (iv5_3.toInt - iv76_6.toInt).toNat = 0 := (by { rw [show (iv5_3.toInt - iv76_6.toInt).toNat = 0 by omega]; rfl }); omega), hT, hM⟩ dX9_drawBench_175
              · skip
                refine lv_iload hx hb dX9_drawBench_82 (lv_at hl 0 rfl) ?_
                refine lv_iconst (v := 1) hx hb dX9_drawBench_84 (by decide) ?_
                refine lv_iadd hx hb dX9_drawBench_85 ?_
                have rg_11 := i32_r iv76_6
                refine lv_topi (fun x_12 ex_12 => ?_)
                have zx_12 : x_12.toInt = iv76_6.toInt + 1 := by rw [ex_12]; exact i32_add rfl (by decide) (by omega) (by omega)
                refine lv_istore (lv' := [(7, .int x_12), (6, .int iv76_6), (5, .int iv76_5), (4, .int x_7), (3, .int iv5_3), (0, .ref x), (1, .ref v1), (2, .int i2)]) hx hb dX9_drawBench_86 hl (by decide) rfl (fun ls hl => ?_)
                have loop88 : ∀ (n88 : Nat) (iv88_5 iv88_7 : Int32) (H : Heap) (locs : List Loc) (hL1 : List Nat) (hl1 : hx_h), 0 ≤ iv88_5.toInt → iv88_5.toInt ≤ 9880 → 0 ≤ iv88_7.toInt → iv88_7.toInt ≤ 40 → (iv88_5.toInt = (i2.toInt % hv_T3 iv5_3.toInt.toNat) - hv_T3 iv5_3.toInt.toNat + hv_T3 (iv5_3.toInt - iv76_6.toInt).toNat - hv_T2 (iv5_3.toInt - iv76_6.toInt - 1).toNat + hv_T2 (iv5_3.toInt - iv88_7.toInt).toNat) → (iv88_7.toInt ≤ iv5_3.toInt) → (iv76_6.toInt + 1 ≤ iv88_7.toInt) → ∀ (ls : Array Slot), 40 - iv88_7.toInt < (n88 : Int) → hx_W T_tb (P_ty dA) (dC, dI) vwCl (hx_A L sz) s.heap hL1 hl1 s H locs → hx_T T_tb hL1 hl1 → hx_S T_tb [(21, 0), (47, 0)] L h hL1 hl1 → hl1.2.2 x 7 = some qp → hl1.2.2 x 10 = some qc → hl1.2.2 x 15 = some qfi → hl1.2.1 x 11 = cn0 → hl1.2.1 x 8 = pn0 → hx_g hL1 hl1 x 9 → hx_g hL1 hl1 qp 44 → hx_g hL1 hl1 qc 45 → (∀ j : Nat, (j : Int) < (hl1.2.1 x 8).toInt → hl1.2.2 qp j ≠ none) → hl1.2.1 qfi = ia5_qfi → hx_col 40 hl1 qp 7 = df → hx_col 40 hl1 qp 8 = jf → hx_col 40 hl1 qp 2 = kf → hx_num 40 hl1 qp 0 (pn0.toInt) → hl1.2.2 qc ic.toNatClampNeg = some v1 → hw_DF hl1 qc qp 2 agf cn0.toInt → hw_DF hl1 qc qp 1 byf cn0.toInt → hv_FX 3 5 hl1 qc bF cn0.toInt → lv_has ls 9 [(7, .int iv88_7), (6, .int iv76_6), (5, .int iv88_5), (4, .int x_7), (3, .int iv5_3), (0, .ref x), (1, .ref v1), (2, .int i2)] → W p l e ({ frames := 2, cells := 0, slots := 0, locals := 42 }) s m ([.ref x, .ref v1, .int i2] : List Value).toArray below meth c H locs 0 0 (MQ below (va_Qi (fun (r : Int32) (u : List Nat × hx_h) => ((r.toInt = 1 ∧ 3 ≤ ((hv_fs jf df kf (byf ic.toNatClampNeg).toNatClampNeg (agf ic.toNatClampNeg).toNatClampNeg pn0.toInt.toNat).length : Int) ∧ ∃ (b0 b1 b2 : Int32) (bF1 : Nat → Int32), hv_BN (hv_fs jf df kf (byf ic.toNatClampNeg).toNatClampNeg (agf ic.toNatClampNeg).toNatClampNeg pn0.toInt.toNat) (i2.toInt % hv_T3 (hv_fs jf df kf (byf ic.toNatClampNeg).toNatClampNeg (agf ic.toNatClampNeg).toNatClampNeg pn0.toInt.toNat).length) b0 b1 b2 ∧ bF1 = hx_up (hx_up (hx_up bF (0 + 3 * ic.toNatClampNeg) b0) (1 + 3 * ic.toNatClampNeg) b1) (2 + 3 * ic.toNatClampNeg) b2 ∧ hv_FX 3 5 u.2 qc bF1 cn0.toInt) ∨ (r.toInt = 0 ∧ ((hv_fs jf df kf (byf ic.toNatClampNeg).toNatClampNeg (agf ic.toNatClampNeg).toNatClampNeg pn0.toInt.toNat).length : Int) < 3 ∧ hv_FX 3 5 u.2 qc bF cn0.toInt)) ∧ hx_T T_tb u.1 u.2 ∧ hx_S T_tb [(21, 0), (47, 0)] L h u.1 u.2) (hx_E T_tb (P_ty dA) (dC, dI) vwCl (hx_A L sz)) (hx_A L sz)) ([.ref x, .ref v1, .int i2] : List Value).toArray s 0 0 (hx_A L sz)) (F0 m 88 ls []) := by
                  intro n88
                  induction n88 with
                  | zero => intro iv88_5 iv88_7 H locs hL1 hl1 bliv88_5 buiv88_5 bliv88_7 buiv88_7 vi88_0 vi88_1 vi88_2 ls hn88; exfalso; omega
                  | succ n88 ih88 =>
                    intro iv88_5 iv88_7 H locs hL1 hl1 bliv88_5 buiv88_5 bliv88_7 buiv88_7 vi88_0 vi88_1 vi88_2 ls hn88 hW hT hM f_x_7 f_x_10 f_x_15 f_x_11 f_x_8 gx gqp gqc pf_x_8 nia5_qfi cl_qp_7 cl_qp_8 cl_qp_2 nu_qp eo_v1 hDF hDP hBX hl
                    refine lv_iload hx hb dX9_drawBench_88 (lv_at hl 0 rfl) ?_
                    refine lv_iload_n hx hb dX9_drawBench_90 rfl (lv_at hl 4 rfl) ?_
                    refine hb_icmp_ge (zx := iv88_7.toInt) (zy := iv5_3.toInt) (tgt := 168) hx hb rfl rfl dX9_drawBench_91 (by decide) (fun c_13 => ?_) (fun c_13 => ?_)
                    · skip
                      obtain ⟨x_14, ex_14⟩ : ∃ y : Int32, y = iv76_6 + Int32.ofInt 1 := ⟨_, rfl⟩
                      have zx_14 : x_14.toInt = iv76_6.toInt + (1) := by rw [ex_14]; exact i32_add rfl (by decide) (by omega) (by omega)
                      refine lv_iinc (v := x_14) (lv' := [(6, .int x_14), (7, .int iv88_7), (5, .int iv88_5), (4, .int x_7), (3, .int iv5_3), (0, .ref x), (1, .ref v1), (2, .int i2)]) hx hb dX9_drawBench_168 hl (k := 1) rfl ex_14.symm (by decide) rfl (fun ls hl => ?_)
                      refine lv_goto (tgt := 76) hx hb dX9_drawBench_171 (by decide) ?_
                      exact ih76 iv88_5 x_14 _ _ hL1 hl1 (by omega) (by omega) (by omega) (by omega) (by have h9 := hv_T3_p (m := iv5_3.toInt - iv76_6.toInt) (by omega); have h8 : hv_T2 (iv5_3.toInt - iv88_7.toInt).toNat = 0 := by { rw [show (iv5_3.toInt - iv88_7.toInt).toNat = 0 by omega]; rfl }; rw [show iv5_3.toInt - x_14.toInt = iv5_3.toInt - iv76_6.toInt - 1 by omega]; omega) (by omega) ls (by omega) hW hT hM f_x_7 f_x_10 f_x_15 f_x_11 f_x_8 gx gqp gqc pf_x_8 nia5_qfi cl_qp_7 cl_qp_8 cl_qp_2 nu_qp eo_v1 hDF hDP hBX (lv_sub hl [0, 2, 3, 4, 5, 6, 7] rfl)
                    · skip
                      refine lv_iload_n hx hb dX9_drawBench_94 rfl (lv_at hl 4 rfl) ?_
                      refine lv_iload hx hb dX9_drawBench_95 (lv_at hl 0 rfl) ?_
                      refine lv_isub hx hb dX9_drawBench_97 ?_
                      have rg_15 := i32_r iv88_7
                      refine lv_topi (fun x_16 ex_16 => ?_)
                      have zx_16 : x_16.toInt = iv5_3.toInt - iv88_7.toInt := by rw [ex_16]; exact i32_sub rfl rfl (by omega) (by omega)
                      refine lv_iconst (v := 1) hx hb dX9_drawBench_98 (by decide) ?_
                      refine lv_isub hx hb dX9_drawBench_99 ?_
                      have rg_17 := i32_r x_16
                      refine lv_topi (fun x_18 ex_18 => ?_)
                      have zx_18 : x_18.toInt = x_16.toInt - 1 := by rw [ex_18]; exact i32_sub rfl (by decide) (by omega) (by omega)
                      refine lv_istore (lv' := [(8, .int x_18), (7, .int iv88_7), (6, .int iv76_6), (5, .int iv88_5), (4, .int x_7), (3, .int iv5_3), (0, .ref x), (1, .ref v1), (2, .int i2)]) hx hb dX9_drawBench_100 hl (by decide) rfl (fun ls hl => ?_)
                      refine lv_iload hx hb dX9_drawBench_102 (lv_at hl 3 rfl) ?_
                      refine lv_iload hx hb dX9_drawBench_104 (lv_at hl 0 rfl) ?_
                      refine hb_icmp_ge (zx := iv88_5.toInt) (zy := x_18.toInt) (tgt := 155) hx hb rfl rfl dX9_drawBench_106 (by decide) (fun c_19 => ?_) (fun c_19 => ?_)
                      · skip
                        refine lv_iload hx hb dX9_drawBench_155 (lv_at hl 3 rfl) ?_
                        refine lv_iload hx hb dX9_drawBench_157 (lv_at hl 0 rfl) ?_
                        refine lv_isub hx hb dX9_drawBench_159 ?_
                        have rg_20 := i32_r iv88_5
                        have rg_21 := i32_r x_18
                        refine lv_topi (fun x_22 ex_22 => ?_)
                        have zx_22 : x_22.toInt = iv88_5.toInt - x_18.toInt := by rw [ex_22]; exact i32_sub rfl rfl (by omega) (by omega)
                        refine lv_istore (lv' := [(5, .int x_22), (8, .int x_18), (7, .int iv88_7), (6, .int iv76_6), (4, .int x_7), (3, .int iv5_3), (0, .ref x), (1, .ref v1), (2, .int i2)]) hx hb dX9_drawBench_160 hl (by decide) rfl (fun ls hl => ?_)
                        obtain ⟨x_23, ex_23⟩ : ∃ y : Int32, y = iv88_7 + Int32.ofInt 1 := ⟨_, rfl⟩
                        have zx_23 : x_23.toInt = iv88_7.toInt + (1) := by rw [ex_23]; exact i32_add rfl (by decide) (by omega) (by omega)
                        refine lv_iinc (v := x_23) (lv' := [(7, .int x_23), (5, .int x_22), (8, .int x_18), (6, .int iv76_6), (4, .int x_7), (3, .int iv5_3), (0, .ref x), (1, .ref v1), (2, .int i2)]) hx hb dX9_drawBench_162 hl (k := 2) rfl ex_23.symm (by decide) rfl (fun ls hl => ?_)
                        refine lv_goto (tgt := 88) hx hb dX9_drawBench_165 (by decide) ?_
                        exact ih88 x_22 x_23 _ _ hL1 hl1 (by omega) (by omega) (by omega) (by omega) (by have h9 := hv_T2_p (m := iv5_3.toInt - iv88_7.toInt) (by omega); rw [show iv5_3.toInt - x_23.toInt = iv5_3.toInt - iv88_7.toInt - 1 by omega]; omega) (by omega) (by omega) ls (by omega) hW hT hM f_x_7 f_x_10 f_x_15 f_x_11 f_x_8 gx gqp gqc pf_x_8 nia5_qfi cl_qp_7 cl_qp_8 cl_qp_2 nu_qp eo_v1 hDF hDP hBX (lv_sub hl [0, 3, 1, 4, 5, 6, 7, 8] rfl)
                      · skip
                        refine lv_aload_n hx hb dX9_drawBench_109 rfl (lv_at hl 7 rfl) ?_
                        refine hx_getn hx hb hts hC_2 hown hW hT (gv1.S hM) tt_2 5 (by decide) rfl kw_740 ⟨rfl, rfl, rfl⟩ dX9_drawBench_110 (fun q_24 fq_24 gq_24 => ?_)
                        refine lv_iconst (v := 0) hx hb dX9_drawBench_113 (by decide) ?_
                        refine lv_aload_n hx hb dX9_drawBench_114 rfl (lv_at hl 6 rfl) ?_
                        refine hk_getr hx hb hts hC_9 hown hW gx tt_9 15 (by decide) rfl kw_379 ⟨rfl, rfl, rfl⟩ f_x_15 dX9_drawBench_115 ?_
                        refine lv_iload hx hb dX9_drawBench_118 (lv_at hl 2 rfl) ?_
                        refine hx_iald hx hb hW hT (gqfi.S hM) tt_47 rfl ⟨by omega, by omega⟩ dX9_drawBench_120 (fun x_25 ex_25 lx_25 ux_25 => ?_)
                        have ax_25 : x_25 = ia5_qfi iv76_6.toNatClampNeg := ex_25.trans (congrFun nia5_qfi _)
                        have hfO9 := hBX
                        have hTO9 := hT
                        have gcO9 := gqc
                        have gtO9 := gq_24
                        have foO9 := eo_v1
                        have ftO9 := fq_24
                        have hTo := hT
                        refine hx_iast hx hb hW hT (hx_S.rf (M := [(21, 0)])) gq_24 tt_21 rfl (by decide) rfl (i32_r _) (List.mem_singleton.mpr rfl) dX9_drawBench_121 (fun H locs h_26 eh_26 hW hT hs => ?_)
                        replace f_x_7 := (hs.o gx trivial rfl).2.trans f_x_7
                        replace f_x_10 := (hs.o gx trivial rfl).2.trans f_x_10
                        replace f_x_15 := (hs.o gx trivial rfl).2.trans f_x_15
                        replace f_x_11 := (hs.o gx trivial rfl).1.trans f_x_11
                        replace f_x_8 := (hs.o gx trivial rfl).1.trans f_x_8
                        replace fq_24 := (hs.o (gv1.S hM) trivial rfl).2.trans fq_24
                        replace pf_x_8 : ∀ j : Nat, (j : Int) < (h_26.2.1 x 8).toInt → h_26.2.2 qp j ≠ none := by
                          intro j hj; rw [(hs.o gx trivial rfl).1] at hj; rw [(hs.a gqp rfl j).2]; exact pf_x_8 j hj
                        replace cl_qp_7 : hx_col 40 h_26 qp 7 = df := (hx_col_S hs hTo gqp tt_44 tt_4 rfl rfl).trans cl_qp_7
                        replace cl_qp_8 : hx_col 40 h_26 qp 8 = jf := (hx_col_S hs hTo gqp tt_44 tt_4 rfl rfl).trans cl_qp_8
                        replace cl_qp_2 : hx_col 40 h_26 qp 2 = kf := (hx_col_S hs hTo gqp tt_44 tt_4 rfl rfl).trans cl_qp_2
                        replace nu_qp : hx_num 40 h_26 qp 0 (pn0.toInt) := hx_num_S hs hTo gqp tt_44 tt_4 rfl rfl nu_qp
                        replace hDF : hw_DF h_26 qc qp 2 agf cn0.toInt := hw_DF_S hs hTo gqc gqp tt_45 tt_2 rfl rfl rfl hDF
                        replace hDP : hw_DF h_26 qc qp 1 byf cn0.toInt := hw_DF_S hs hTo gqc gqp tt_45 tt_2 rfl rfl rfl hDP
                        replace eo_v1 := (hs.a gqc rfl _).2.trans eo_v1
                        replace nia5_qfi : h_26.2.1 qfi = ia5_qfi := (funext fun j => (hs.a (gqfi.S hM) rfl j).1).trans nia5_qfi
                        replace ex_25 := ex_25.trans (hs.a (gqfi.S hM) rfl _).1.symm
                        replace hM := hM.tr (hs.mono (by decide))
                        replace gx := gx.S hs
                        replace gqp := gqp.S hs
                        replace gqc := gqc.S hs
                        replace gq_24 := gq_24.S hs
                        obtain ⟨xF_27, dxF_27⟩ : ∃ g : Nat → Int32, g = hx_up bF ((0 : Int32).toNatClampNeg + 3 * ic.toNatClampNeg) x_25 := ⟨_, rfl⟩
                        have nxF_27 : hv_FX 3 5 h_26 qc xF_27 cn0.toInt := by rw [dxF_27]; exact hv_FX_u hfO9 hTO9 gcO9 gtO9 (by decide) tt_45 (by unfold Int32.toNatClampNeg; omega) (by unfold Int32.toNatClampNeg; omega) foO9 ftO9 (by decide) eh_26
                        refine lv_aload_n hx hb dX9_drawBench_122 rfl (lv_at hl 7 rfl) ?_
                        refine hk_getr hx hb hts hC_2 hown hW (gv1.S hM) tt_2 5 (by decide) rfl kw_740 ⟨rfl, rfl, rfl⟩ fq_24 dX9_drawBench_123 ?_
                        refine lv_iconst (v := 1) hx hb dX9_drawBench_126 (by decide) ?_
                        refine lv_aload_n hx hb dX9_drawBench_127 rfl (lv_at hl 6 rfl) ?_
                        refine hk_getr hx hb hts hC_9 hown hW gx tt_9 15 (by decide) rfl kw_379 ⟨rfl, rfl, rfl⟩ f_x_15 dX9_drawBench_128 ?_
                        refine lv_iload hx hb dX9_drawBench_131 (lv_at hl 1 rfl) ?_
                        refine hx_iald hx hb hW hT (gqfi.S hM) tt_47 rfl ⟨by omega, by omega⟩ dX9_drawBench_133 (fun x_28 ex_28 lx_28 ux_28 => ?_)
                        have ax_28 : x_28 = ia5_qfi iv88_7.toNatClampNeg := ex_28.trans (congrFun nia5_qfi _)
                        have hfO9 := nxF_27
                        have hTO9 := hT
                        have gcO9 := gqc
                        have gtO9 := gq_24
                        have foO9 := eo_v1
                        have ftO9 := fq_24
                        have hTo := hT
                        refine hx_iast hx hb hW hT (hx_S.rf (M := [(21, 0)])) gq_24 tt_21 rfl (by decide) rfl (i32_r _) (List.mem_singleton.mpr rfl) dX9_drawBench_134 (fun H locs h_29 eh_29 hW hT hs => ?_)
                        replace f_x_7 := (hs.o gx trivial rfl).2.trans f_x_7
                        replace f_x_10 := (hs.o gx trivial rfl).2.trans f_x_10
                        replace f_x_15 := (hs.o gx trivial rfl).2.trans f_x_15
                        replace f_x_11 := (hs.o gx trivial rfl).1.trans f_x_11
                        replace f_x_8 := (hs.o gx trivial rfl).1.trans f_x_8
                        replace fq_24 := (hs.o (gv1.S hM) trivial rfl).2.trans fq_24
                        replace pf_x_8 : ∀ j : Nat, (j : Int) < (h_29.2.1 x 8).toInt → h_29.2.2 qp j ≠ none := by
                          intro j hj; rw [(hs.o gx trivial rfl).1] at hj; rw [(hs.a gqp rfl j).2]; exact pf_x_8 j hj
                        replace cl_qp_7 : hx_col 40 h_29 qp 7 = df := (hx_col_S hs hTo gqp tt_44 tt_4 rfl rfl).trans cl_qp_7
                        replace cl_qp_8 : hx_col 40 h_29 qp 8 = jf := (hx_col_S hs hTo gqp tt_44 tt_4 rfl rfl).trans cl_qp_8
                        replace cl_qp_2 : hx_col 40 h_29 qp 2 = kf := (hx_col_S hs hTo gqp tt_44 tt_4 rfl rfl).trans cl_qp_2
                        replace nu_qp : hx_num 40 h_29 qp 0 (pn0.toInt) := hx_num_S hs hTo gqp tt_44 tt_4 rfl rfl nu_qp
                        replace hDF : hw_DF h_29 qc qp 2 agf cn0.toInt := hw_DF_S hs hTo gqc gqp tt_45 tt_2 rfl rfl rfl hDF
                        replace hDP : hw_DF h_29 qc qp 1 byf cn0.toInt := hw_DF_S hs hTo gqc gqp tt_45 tt_2 rfl rfl rfl hDP
                        replace eo_v1 := (hs.a gqc rfl _).2.trans eo_v1
                        replace nia5_qfi : h_29.2.1 qfi = ia5_qfi := (funext fun j => (hs.a (gqfi.S hM) rfl j).1).trans nia5_qfi
                        replace ex_25 := ex_25.trans (hs.a (gqfi.S hM) rfl _).1.symm
                        replace ex_28 := ex_28.trans (hs.a (gqfi.S hM) rfl _).1.symm
                        replace hM := hM.tr (hs.mono (by decide))
                        replace gx := gx.S hs
                        replace gqp := gqp.S hs
                        replace gqc := gqc.S hs
                        replace gq_24 := gq_24.S hs
                        obtain ⟨xF_30, dxF_30⟩ : ∃ g : Nat → Int32, g = hx_up xF_27 ((1 : Int32).toNatClampNeg + 3 * ic.toNatClampNeg) x_28 := ⟨_, rfl⟩
                        have nxF_30 : hv_FX 3 5 h_29 qc xF_30 cn0.toInt := by rw [dxF_30]; exact hv_FX_u hfO9 hTO9 gcO9 gtO9 (by decide) tt_45 (by unfold Int32.toNatClampNeg; omega) (by unfold Int32.toNatClampNeg; omega) foO9 ftO9 (by decide) eh_29
                        refine lv_aload_n hx hb dX9_drawBench_135 rfl (lv_at hl 7 rfl) ?_
                        refine hk_getr hx hb hts hC_2 hown hW (gv1.S hM) tt_2 5 (by decide) rfl kw_740 ⟨rfl, rfl, rfl⟩ fq_24 dX9_drawBench_136 ?_
                        refine lv_iconst (v := 2) hx hb dX9_drawBench_139 (by decide) ?_
                        refine lv_aload_n hx hb dX9_drawBench_140 rfl (lv_at hl 6 rfl) ?_
                        refine hk_getr hx hb hts hC_9 hown hW gx tt_9 15 (by decide) rfl kw_379 ⟨rfl, rfl, rfl⟩ f_x_15 dX9_drawBench_141 ?_
                        refine lv_iload hx hb dX9_drawBench_144 (lv_at hl 1 rfl) ?_
                        refine lv_iconst (v := 1) hx hb dX9_drawBench_146 (by decide) ?_
                        refine lv_iadd hx hb dX9_drawBench_147 ?_
                        refine lv_topi (fun x_31 ex_31 => ?_)
                        have zx_31 : x_31.toInt = iv88_7.toInt + 1 := by rw [ex_31]; exact i32_add rfl (by decide) (by omega) (by omega)
                        refine lv_iload hx hb dX9_drawBench_148 (lv_at hl 3 rfl) ?_
                        refine lv_iadd hx hb dX9_drawBench_150 ?_
                        have rg_32 := i32_r x_31
                        have rg_33 := i32_r iv88_5
                        refine lv_topi (fun x_34 ex_34 => ?_)
                        have zx_34 : x_34.toInt = x_31.toInt + iv88_5.toInt := by rw [ex_34]; exact i32_add rfl rfl (by omega) (by omega)
                        refine hx_iald hx hb hW hT (gqfi.S hM) tt_47 rfl ⟨by omega, by omega⟩ dX9_drawBench_151 (fun x_35 ex_35 lx_35 ux_35 => ?_)
                        have ax_35 : x_35 = ia5_qfi x_34.toNatClampNeg := ex_35.trans (congrFun nia5_qfi _)
                        have hfO9 := nxF_30
                        have hTO9 := hT
                        have gcO9 := gqc
                        have gtO9 := gq_24
                        have foO9 := eo_v1
                        have ftO9 := fq_24
                        have hTo := hT
                        refine hx_iast hx hb hW hT (hx_S.rf (M := [(21, 0)])) gq_24 tt_21 rfl (by decide) rfl (i32_r _) (List.mem_singleton.mpr rfl) dX9_drawBench_152 (fun H locs h_36 eh_36 hW hT hs => ?_)
                        replace f_x_7 := (hs.o gx trivial rfl).2.trans f_x_7
                        replace f_x_10 := (hs.o gx trivial rfl).2.trans f_x_10
                        replace f_x_15 := (hs.o gx trivial rfl).2.trans f_x_15
                        replace f_x_11 := (hs.o gx trivial rfl).1.trans f_x_11
                        replace f_x_8 := (hs.o gx trivial rfl).1.trans f_x_8
                        replace fq_24 := (hs.o (gv1.S hM) trivial rfl).2.trans fq_24
                        replace pf_x_8 : ∀ j : Nat, (j : Int) < (h_36.2.1 x 8).toInt → h_36.2.2 qp j ≠ none := by
                          intro j hj; rw [(hs.o gx trivial rfl).1] at hj; rw [(hs.a gqp rfl j).2]; exact pf_x_8 j hj
                        replace cl_qp_7 : hx_col 40 h_36 qp 7 = df := (hx_col_S hs hTo gqp tt_44 tt_4 rfl rfl).trans cl_qp_7
                        replace cl_qp_8 : hx_col 40 h_36 qp 8 = jf := (hx_col_S hs hTo gqp tt_44 tt_4 rfl rfl).trans cl_qp_8
                        replace cl_qp_2 : hx_col 40 h_36 qp 2 = kf := (hx_col_S hs hTo gqp tt_44 tt_4 rfl rfl).trans cl_qp_2
                        replace nu_qp : hx_num 40 h_36 qp 0 (pn0.toInt) := hx_num_S hs hTo gqp tt_44 tt_4 rfl rfl nu_qp
                        replace hDF : hw_DF h_36 qc qp 2 agf cn0.toInt := hw_DF_S hs hTo gqc gqp tt_45 tt_2 rfl rfl rfl hDF
                        replace hDP : hw_DF h_36 qc qp 1 byf cn0.toInt := hw_DF_S hs hTo gqc gqp tt_45 tt_2 rfl rfl rfl hDP
                        replace eo_v1 := (hs.a gqc rfl _).2.trans eo_v1
                        replace nia5_qfi : h_36.2.1 qfi = ia5_qfi := (funext fun j => (hs.a (gqfi.S hM) rfl j).1).trans nia5_qfi
                        replace ex_25 := ex_25.trans (hs.a (gqfi.S hM) rfl _).1.symm
                        replace ex_28 := ex_28.trans (hs.a (gqfi.S hM) rfl _).1.symm
                        replace ex_35 := ex_35.trans (hs.a (gqfi.S hM) rfl _).1.symm
                        replace hM := hM.tr (hs.mono (by decide))
                        replace gx := gx.S hs
                        replace gqp := gqp.S hs
                        replace gqc := gqc.S hs
                        replace gq_24 := gq_24.S hs
                        obtain ⟨xF_37, dxF_37⟩ : ∃ g : Nat → Int32, g = hx_up xF_30 ((2 : Int32).toNatClampNeg + 3 * ic.toNatClampNeg) x_35 := ⟨_, rfl⟩
                        have nxF_37 : hv_FX 3 5 h_36 qc xF_37 cn0.toInt := by rw [dxF_37]; exact hv_FX_u hfO9 hTO9 gcO9 gtO9 (by decide) tt_45 (by unfold Int32.toNatClampNeg; omega) (by unfold Int32.toNatClampNeg; omega) foO9 ftO9 (by decide) eh_36
                        refine lv_iconst (v := 1) hx hb dX9_drawBench_153 (by decide) ?_
                        exact hx_retz hx hb hr rfl hlk hW ⟨(Or.inl ⟨by decide, by rw [← hln9]; omega, x_25, x_28, x_35, xF_37, ⟨iv76_6.toInt, iv88_7.toInt, x_34.toInt, by rw [← hln9]; exact ⟨by omega, by omega, by omega, by omega⟩, (by rw [← hln9, show ((hv_fs jf df kf (byf ic.toNatClampNeg).toNatClampNeg (agf ic.toNatClampNeg).toNatClampNeg pn0.toInt.toNat)).length = iv5_3.toInt.toNat by omega, ← hp9]; unfold hv_ps; omega), (by rw [ax_25]; exact hfl9 iv76_6.toInt.toNat (by omega)), (by rw [ax_28]; exact hfl9 iv88_7.toInt.toNat (by omega)), (by rw [ax_35]; exact hfl9 x_34.toInt.toNat (by omega))⟩, (by have k0 : (0 : Int32).toNatClampNeg = 0 := (by decide); have k1 : (1 : Int32).toNatClampNeg = 1 := (by decide); have k2 : (2 : Int32).toNatClampNeg = 2 := (by decide); rw [dxF_37, dxF_30, dxF_27, k0, k1, k2]), nxF_37⟩), hT, hM⟩ dX9_drawBench_154
                exact loop88 41 iv76_5 x_12 _ _ hL1 hl1 (by omega) (by omega) (by omega) (by omega) (by rw [show iv5_3.toInt - x_12.toInt = iv5_3.toInt - iv76_6.toInt - 1 by omega]; omega) (by omega) (by omega) ls (by omega) hW hT hM f_x_7 f_x_10 f_x_15 f_x_11 f_x_8 gx gqp gqc pf_x_8 nia5_qfi cl_qp_7 cl_qp_8 cl_qp_2 nu_qp eo_v1 hDF hDP hBX hl
          have zk_0 : (0 : Int32).toInt = 0 := by decide
          exact loop76 41 x_9 (0 : Int32) _ _ hL1 hl1 (by omega) (by omega) (by decide) (by decide) (by rw [zk_0, show iv5_3.toInt - 0 = iv5_3.toInt by omega]; omega) (by omega) ls (by omega) hW hT hM f_x_7 f_x_10 f_x_15 f_x_11 f_x_8 gx gqp gqc pf_x_8 nia5_qfi cl_qp_7 cl_qp_8 cl_qp_2 nu_qp eo_v1 hDF hDP hBX hl
        · skip
          refine lv_iconst (v := 0) hx hb dX9_drawBench_65 (by decide) ?_
          exact hx_retz hx hb hr rfl hlk hW ⟨(Or.inr ⟨by decide, by rw [← hln9]; omega, hBX⟩), hT, hM⟩ dX9_drawBench_66
      · skip
        refine lv_aload_n hx hb dX9_drawBench_14 rfl (lv_at hl 2 rfl) ?_
        refine hk_getr hx hb hts hC_9 hown hW gx tt_9 7 (by decide) rfl kw_371 ⟨rfl, rfl, rfl⟩ f_x_7 dX9_drawBench_15 ?_
        refine lv_iload hx hb dX9_drawBench_18 (lv_at hl 0 rfl) ?_
        refine hx_aaldN hx hb hW hT gqp tt_44 (t1 := 4) rfl ⟨by omega, by omega⟩ (pf_x_8 _ (by rw [f_x_8]; exact hx_tnI (by omega) (by omega))) dX9_drawBench_20 (fun q_38 fq_38 gq_38 => ?_)
        refine lv_aload_n hx hb dX9_drawBench_21 rfl (lv_at hl 3 rfl) ?_
        have hTo := hT
        refine hx_goi (hx_runV (As := [.ref v1]) (rest := []) ⟨hx, hb, hml, hown, hts⟩ hW gq_38 tt_4 (T := TX4) (N := 10) rfl (t_X4_maySit_v l dC dI dA hL1 hl1 H.size q_38 v1 hT gq_38 (gv1.S hM) qp gqp qc gqc (pn0.toInt) (cn0.toInt) iv5_4 fq_38 ⟨by omega, by omega⟩ ic eo_v1 ⟨by omega, by omega⟩ df cl_qp_7 jf cl_qp_8 kf cl_qp_2 nu_qp agf byf hDF hDP (by omega)) (cwV 1 hts (hx_gV kw_822 kw_819 kw_820 kw_821 kw_108) rfl rfl rfl (by decide +kernel) ⟨Nat.le_of_ble_eq_true rfl, Nat.le_of_ble_eq_true rfl⟩) rfl hl.1 rfl (Nat.le_of_ble_eq_true rfl) dX9_drawBench_22 ⟨Nat.le_of_ble_eq_true rfl, Nat.le_of_ble_eq_true rfl⟩) hW (fun r_41 L_39 h_40 H locs p_42 hW => ?_)
        obtain ⟨hr_43, hT, hs⟩ := p_42
        replace hT : hx_T T_tb L_39 h_40 := hT
        replace hs : hx_S T_tb [] hL1 hl1 L_39 h_40 := hs
        replace f_x_7 := (hs.o gx trivial rfl).2.trans f_x_7
        replace f_x_10 := (hs.o gx trivial rfl).2.trans f_x_10
        replace f_x_15 := (hs.o gx trivial rfl).2.trans f_x_15
        replace f_x_11 := (hs.o gx trivial rfl).1.trans f_x_11
        replace f_x_8 := (hs.o gx trivial rfl).1.trans f_x_8
        replace pf_x_8 : ∀ j : Nat, (j : Int) < (h_40.2.1 x 8).toInt → h_40.2.2 qp j ≠ none := by
          intro j hj; rw [(hs.o gx trivial rfl).1] at hj; rw [(hs.a gqp rfl j).2]; exact pf_x_8 j hj
        replace cl_qp_7 : hx_col 40 h_40 qp 7 = df := (hx_col_S hs hTo gqp tt_44 tt_4 rfl rfl).trans cl_qp_7
        replace cl_qp_8 : hx_col 40 h_40 qp 8 = jf := (hx_col_S hs hTo gqp tt_44 tt_4 rfl rfl).trans cl_qp_8
        replace cl_qp_2 : hx_col 40 h_40 qp 2 = kf := (hx_col_S hs hTo gqp tt_44 tt_4 rfl rfl).trans cl_qp_2
        replace nu_qp : hx_num 40 h_40 qp 0 (pn0.toInt) := hx_num_S hs hTo gqp tt_44 tt_4 rfl rfl nu_qp
        replace hDF : hw_DF h_40 qc qp 2 agf cn0.toInt := hw_DF_S hs hTo gqc gqp tt_45 tt_2 rfl rfl rfl hDF
        replace hDP : hw_DF h_40 qc qp 1 byf cn0.toInt := hw_DF_S hs hTo gqc gqp tt_45 tt_2 rfl rfl rfl hDP
        replace hBX : hv_FX 3 5 h_40 qc bF cn0.toInt := hv_FX_S hs hTo gqc tt_45 tt_2 rfl rfl rfl rfl hBX
        replace eo_v1 := (hs.a gqc rfl _).2.trans eo_v1
        replace fq_38 := (hs.a gqp rfl _).2.trans fq_38
        replace nia5_qfi : h_40.2.1 qfi = ia5_qfi := (funext fun j => (hs.a (gqfi.S hM) rfl j).1).trans nia5_qfi
        replace hM := hM.tr (hs.mono (by decide))
        replace gx := gx.S hs
        replace gqp := gqp.S hs
        replace gqc := gqc.S hs
        replace gq_38 := gq_38.S hs
        refine hb_if_eq (zx := r_41.toInt) (tgt := 39) hx hb rfl dX9_drawBench_25 (by decide) (fun c_44 => ?_) (fun c_44 => ?_)
        · skip
          obtain ⟨x_45, ex_45⟩ : ∃ y : Int32, y = iv5_4 + Int32.ofInt 1 := ⟨_, rfl⟩
          have rg_46 := i32_r iv5_4
          have zx_45 : x_45.toInt = iv5_4.toInt + (1) := by rw [ex_45]; exact i32_add rfl (by decide) (by omega) (by omega)
          refine lv_iinc (v := x_45) (lv' := [(4, .int x_45), (3, .int iv5_3), (0, .ref x), (1, .ref v1), (2, .int i2)]) hx hb dX9_drawBench_39 hl (k := 0) rfl ex_45.symm (by decide) rfl (fun ls hl => ?_)
          refine lv_goto (tgt := 5) hx hb dX9_drawBench_42 (by decide) ?_
          exact ih5 iv5_3 x_45 ia5_qfi _ _ L_39 h_40 (by omega) (by omega) (by omega) (by omega) (hv_fs_n vi5_0 (by rcases hr_43 with z | z; (exfalso; omega); exact z.2) (by omega) zx_45) (by omega) (by omega) ls (by omega) hW hT hM f_x_7 f_x_10 f_x_15 f_x_11 f_x_8 gx gqp gqc pf_x_8 nia5_qfi cl_qp_7 cl_qp_8 cl_qp_2 nu_qp eo_v1 hDF hDP hBX (lv_sub hl [0, 1, 2, 3, 4] rfl)
        · skip
          refine lv_aload_n hx hb dX9_drawBench_28 rfl (lv_at hl 2 rfl) ?_
          refine hk_getr hx hb hts hC_9 hown hW gx tt_9 15 (by decide) rfl kw_379 ⟨rfl, rfl, rfl⟩ f_x_15 dX9_drawBench_29 ?_
          refine lv_iload_n hx hb dX9_drawBench_32 rfl (lv_at hl 1 rfl) ?_
          refine lv_iload hx hb dX9_drawBench_33 (lv_at hl 0 rfl) ?_
          have hTo := hT
          have nia5_qfiO := nia5_qfi
          have hTo := hT
          refine hx_iast hx hb hW hT (hx_S.rf (M := [(47, 0)])) (gqfi.S hM) tt_47 rfl ⟨by omega, by omega⟩ rfl (i32_r _) (List.mem_singleton.mpr rfl) dX9_drawBench_35 (fun H locs h_47 eh_47 hW hT hs => ?_)
          replace f_x_7 := (hs.o gx trivial rfl).2.trans f_x_7
          replace f_x_10 := (hs.o gx trivial rfl).2.trans f_x_10
          replace f_x_15 := (hs.o gx trivial rfl).2.trans f_x_15
          replace f_x_11 := (hs.o gx trivial rfl).1.trans f_x_11
          replace f_x_8 := (hs.o gx trivial rfl).1.trans f_x_8
          replace pf_x_8 : ∀ j : Nat, (j : Int) < (h_47.2.1 x 8).toInt → h_47.2.2 qp j ≠ none := by
            intro j hj; rw [(hs.o gx trivial rfl).1] at hj; rw [(hs.a gqp rfl j).2]; exact pf_x_8 j hj
          replace cl_qp_7 : hx_col 40 h_47 qp 7 = df := (hx_col_S hs hTo gqp tt_44 tt_4 rfl rfl).trans cl_qp_7
          replace cl_qp_8 : hx_col 40 h_47 qp 8 = jf := (hx_col_S hs hTo gqp tt_44 tt_4 rfl rfl).trans cl_qp_8
          replace cl_qp_2 : hx_col 40 h_47 qp 2 = kf := (hx_col_S hs hTo gqp tt_44 tt_4 rfl rfl).trans cl_qp_2
          replace nu_qp : hx_num 40 h_47 qp 0 (pn0.toInt) := hx_num_S hs hTo gqp tt_44 tt_4 rfl rfl nu_qp
          replace hDF : hw_DF h_47 qc qp 2 agf cn0.toInt := hw_DF_S hs hTo gqc gqp tt_45 tt_2 rfl rfl rfl hDF
          replace hDP : hw_DF h_47 qc qp 1 byf cn0.toInt := hw_DF_S hs hTo gqc gqp tt_45 tt_2 rfl rfl rfl hDP
          replace hBX : hv_FX 3 5 h_47 qc bF cn0.toInt := hv_FX_S hs hTo gqc tt_45 tt_2 rfl rfl rfl rfl hBX
          replace eo_v1 := (hs.a gqc rfl _).2.trans eo_v1
          replace fq_38 := (hs.a gqp rfl _).2.trans fq_38
          replace hM := hM.tr (hs.mono (by decide))
          replace gx := gx.S hs
          replace gqp := gqp.S hs
          replace gqc := gqc.S hs
          replace gq_38 := gq_38.S hs
          obtain ⟨fa_48, dfa_48⟩ : ∃ g : Nat → Int32, g = hx_up ia5_qfi iv5_3.toNatClampNeg iv5_4 := ⟨_, rfl⟩
          have nfa_48 : h_47.2.1 qfi = fa_48 := by rw [eh_47, dfa_48, ← nia5_qfiO]; exact hx_pi_fun _ _ _ _
          obtain ⟨x_49, ex_49⟩ : ∃ y : Int32, y = iv5_3 + Int32.ofInt 1 := ⟨_, rfl⟩
          have rg_50 := i32_r iv5_3
          have zx_49 : x_49.toInt = iv5_3.toInt + (1) := by rw [ex_49]; exact i32_add rfl (by decide) (by omega) (by omega)
          refine lv_iinc (v := x_49) (lv' := [(3, .int x_49), (4, .int iv5_4), (0, .ref x), (1, .ref v1), (2, .int i2)]) hx hb dX9_drawBench_36 hl (k := 1) rfl ex_49.symm (by decide) rfl (fun ls hl => ?_)
          obtain ⟨x_51, ex_51⟩ : ∃ y : Int32, y = iv5_4 + Int32.ofInt 1 := ⟨_, rfl⟩
          have rg_52 := i32_r iv5_4
          have zx_51 : x_51.toInt = iv5_4.toInt + (1) := by rw [ex_51]; exact i32_add rfl (by decide) (by omega) (by omega)
          refine lv_iinc (v := x_51) (lv' := [(4, .int x_51), (3, .int x_49), (0, .ref x), (1, .ref v1), (2, .int i2)]) hx hb dX9_drawBench_39 hl (k := 1) rfl ex_51.symm (by decide) rfl (fun ls hl => ?_)
          refine lv_goto (tgt := 5) hx hb dX9_drawBench_42 (by decide) ?_
          exact ih5 x_49 x_51 fa_48 _ _ L_39 h_47 (by omega) (by omega) (by omega) (by omega) (hv_fs_y vi5_0 (by rcases hr_43 with z | z; exact z.2; exfalso; omega) (by omega) (by unfold Int32.toNatClampNeg; omega) rfl dfa_48 zx_51 (by omega)) (by omega) (by omega) ls (by omega) hW hT hM f_x_7 f_x_10 f_x_15 f_x_11 f_x_8 gx gqp gqc pf_x_8 nfa_48 cl_qp_7 cl_qp_8 cl_qp_2 nu_qp eo_v1 hDF hDP hBX (lv_sub hl [0, 1, 2, 3, 4] rfl)
  have zk_0 : (0 : Int32).toInt = 0 := by decide
  have zk_0 : (0 : Int32).toInt = 0 := by decide
  exact loop5 41 (0 : Int32) (0 : Int32) fi0 _ _ L h (by decide) (by decide) (by decide) (by decide) (by rw [zk_0]; exact ⟨hv_fl_0, rfl⟩) (by omega) (by omega) ls (by omega) hW hT hM f_x_7 f_x_10 f_x_15 f_x_11 f_x_8 gx gqp gqc pf_x_8 af_qfi cl_qp_7 cl_qp_8 cl_qp_2 nu_qp eo_v1 hDF hDP hBX hl


set_option maxHeartbeats 4000000 in
set_option maxRecDepth 100000 in
theorem t_X10_draws_v (l : Launch) (dC : Nat → ClassId) (dI : Nat → Nat → Nat) (dA : Nat → ClassId) (L : List Nat) (h : hx_h) (sz : Nat) (x : Nat) (i1 : Int32) (i2 : Int32) (i3 : Int32) (hT : hx_T T_tb L h) (gx : hx_g L h x 10) (qb : Nat) (gqb : hx_g L h qb 87) (f_x_52 : h.2.2 x 52 = some qb) (qs : Nat) (gqs : hx_g L h qs 98) (f_x_65 : h.2.2 x 65 = some qs) (bf0 : Nat → Int32) (af_qb : h.2.1 qb = bf0) (sf : Nat → Int32) (af_qs : h.2.1 qs = sf) (hi1 : 0 ≤ i1.toInt ∧ i1.toInt ≤ 99) (hi2 : 0 ≤ i2.toInt ∧ i2.toInt ≤ 40) (lj : List Nat) (hfl : hv_fl sf lj) (hlj : i2.toInt = (lj.length : Int)) (hi3 : 0 ≤ i3.toInt ∧ i3.toInt < hv_T3 i2.toInt.toNat) : Met l yX10_draws (Cond.code yX10_draws cX10_draws 8 none :: hx_all) ({ frames := 0, cells := 0, slots := 0, locals := 0 }) (va_Pc [.ref x, .int i1, .int i2, .int i3] (hx_B T_tb (P_ty dA) (dC, dI) vwCl L h sz)) (va_Qv (fun (u : List Nat × hx_h) => (∃ (bf1 : Nat → Int32), u.2.2.1 qb = bf1 ∧ (∃ b0 b1 b2 : Int32, hv_BN lj i3.toInt b0 b1 b2 ∧ bf1 = hx_up (hx_up (hx_up bf0 (3 * i1.toInt.toNat) b0) (3 * i1.toInt.toNat + 1) b1) (3 * i1.toInt.toNat + 2) b2)) ∧ hx_T T_tb u.1 u.2 ∧ hx_S T_tb [(87, 0)] L h u.1 u.2) (hx_E T_tb (P_ty dA) (dC, dI) vwCl (hx_A L sz)) (hx_A L sz)) 0 0 (hx_A L sz) := by
  refine hx_met (lv := [(0, .ref x), (1, .int i1), (2, .int i2), (3, .int i3)]) (by decide +kernel) rfl (Nat.le_of_ble_eq_true rfl) rfl ?_
  intro p e s m below meth c hx hb hml hr hlk hts0 hown hin hsz hW ls hl
  have hts : ∀ w ∈ hx_all, w.before _ s = true := fun w hw => hts0 w (List.mem_cons_of_mem _ hw)
  have hown : s.vm.findClass "SmallCourtModel" = some m.cls := hown
  have hM : hx_S T_tb [(87, 0)] L h L h := hx_S.rf
  have ht9 := hv_T3_c (n := i2.toInt) (by omega) (by omega)
  refine lv_iload_n hx hb dX10_draws_0 rfl (lv_at hl 3 rfl) ?_
  refine lv_istore (lv' := [(4, .int i3), (0, .ref x), (1, .int i1), (2, .int i2), (3, .int i3)]) hx hb dX10_draws_1 hl (by decide) rfl (fun ls hl => ?_)
  refine lv_iconst (v := 0) hx hb dX10_draws_3 (by decide) ?_
  refine lv_istore (lv' := [(5, .int (0 : Int32)), (4, .int i3), (0, .ref x), (1, .int i1), (2, .int i2), (3, .int i3)]) hx hb dX10_draws_4 hl (by decide) rfl (fun ls hl => ?_)
  have loop6 : ∀ (n6 : Nat) (iv6_4 iv6_5 : Int32) (ia6_qb : Nat → Int32) (H : Heap) (locs : List Loc) (hL1 : List Nat) (hl1 : hx_h), -9880 ≤ iv6_4.toInt → iv6_4.toInt ≤ 9880 → 0 ≤ iv6_5.toInt → iv6_5.toInt ≤ 40 → (iv6_4.toInt = i3.toInt - hv_T3 i2.toInt.toNat + hv_T3 (i2.toInt - iv6_5.toInt).toNat) → ((hv_DB i2.toInt i3.toInt sf bf0 ia6_qb i1.toInt.toNat iv6_4.toInt)) → (iv6_5.toInt ≤ i2.toInt) → ∀ (ls : Array Slot), 40 - iv6_5.toInt < (n6 : Int) → hx_W T_tb (P_ty dA) (dC, dI) vwCl (hx_A L sz) s.heap hL1 hl1 s H locs → hx_T T_tb hL1 hl1 → hx_S T_tb [(87, 0)] L h hL1 hl1 → hl1.2.1 qb = ia6_qb → lv_has ls 8 [(5, .int iv6_5), (4, .int iv6_4), (0, .ref x), (1, .int i1), (2, .int i2), (3, .int i3)] → W p l e ({ frames := 0, cells := 0, slots := 0, locals := 0 }) s m ([.ref x, .int i1, .int i2, .int i3] : List Value).toArray below meth c H locs 0 0 (MQ below (va_Qv (fun (u : List Nat × hx_h) => (∃ (bf1 : Nat → Int32), u.2.2.1 qb = bf1 ∧ (∃ b0 b1 b2 : Int32, hv_BN lj i3.toInt b0 b1 b2 ∧ bf1 = hx_up (hx_up (hx_up bf0 (3 * i1.toInt.toNat) b0) (3 * i1.toInt.toNat + 1) b1) (3 * i1.toInt.toNat + 2) b2)) ∧ hx_T T_tb u.1 u.2 ∧ hx_S T_tb [(87, 0)] L h u.1 u.2) (hx_E T_tb (P_ty dA) (dC, dI) vwCl (hx_A L sz)) (hx_A L sz)) ([.ref x, .int i1, .int i2, .int i3] : List Value).toArray s 0 0 (hx_A L sz)) (F0 m 6 ls []) := by
    intro n6
    induction n6 with
    | zero => intro iv6_4 iv6_5 ia6_qb H locs hL1 hl1 bliv6_4 buiv6_4 bliv6_5 buiv6_5 vi6_0 vi6_1 vi6_2 ls hn6; exfalso; omega
    | succ n6 ih6 =>
      intro iv6_4 iv6_5 ia6_qb H locs hL1 hl1 bliv6_4 buiv6_4 bliv6_5 buiv6_5 vi6_0 vi6_1 vi6_2 ls hn6 hW hT hM  nia6_qb hl
      refine lv_iload hx hb dX10_draws_6 (lv_at hl 0 rfl) ?_
      refine lv_iload_n hx hb dX10_draws_8 rfl (lv_at hl 4 rfl) ?_
      refine hb_icmp_ge (zx := iv6_5.toInt) (zy := i2.toInt) (tgt := 111) hx hb rfl rfl dX10_draws_9 (by decide) (fun c_1 => ?_) (fun c_1 => ?_)
      · skip
        exact hx_retv hx hb hr hlk hW ⟨⟨ia6_qb, nia6_qb, (hv_DB_e vi6_1 (by have h8 : hv_T3 (i2.toInt - iv6_5.toInt).toNat = 0 := by { rw [show (i2.toInt - iv6_5.toInt).toNat = 0 by omega]; rfl }; omega) hfl hlj)⟩, hT, hM⟩ dX10_draws_111
      · skip
        refine lv_iload hx hb dX10_draws_12 (lv_at hl 0 rfl) ?_
        refine lv_iconst (v := 1) hx hb dX10_draws_14 (by decide) ?_
        refine lv_iadd hx hb dX10_draws_15 ?_
        have rg_2 := i32_r iv6_5
        refine lv_topi (fun x_3 ex_3 => ?_)
        have zx_3 : x_3.toInt = iv6_5.toInt + 1 := by rw [ex_3]; exact i32_add rfl (by decide) (by omega) (by omega)
        refine lv_istore (lv' := [(6, .int x_3), (5, .int iv6_5), (4, .int iv6_4), (0, .ref x), (1, .int i1), (2, .int i2), (3, .int i3)]) hx hb dX10_draws_16 hl (by decide) rfl (fun ls hl => ?_)
        have loop18 : ∀ (n18 : Nat) (iv18_4 iv18_6 : Int32) (ia18_qb : Nat → Int32) (H : Heap) (locs : List Loc) (hL1 : List Nat) (hl1 : hx_h), -9880 ≤ iv18_4.toInt → iv18_4.toInt ≤ 9880 → 0 ≤ iv18_6.toInt → iv18_6.toInt ≤ 40 → (iv18_4.toInt = i3.toInt - hv_T3 i2.toInt.toNat + hv_T3 (i2.toInt - iv6_5.toInt).toNat - hv_T2 (i2.toInt - iv6_5.toInt - 1).toNat + hv_T2 (i2.toInt - iv18_6.toInt).toNat) → ((hv_DB i2.toInt i3.toInt sf bf0 ia18_qb i1.toInt.toNat iv18_4.toInt)) → (iv18_6.toInt ≤ i2.toInt) → (iv6_5.toInt + 1 ≤ iv18_6.toInt) → ∀ (ls : Array Slot), 40 - iv18_6.toInt < (n18 : Int) → hx_W T_tb (P_ty dA) (dC, dI) vwCl (hx_A L sz) s.heap hL1 hl1 s H locs → hx_T T_tb hL1 hl1 → hx_S T_tb [(87, 0)] L h hL1 hl1 → hl1.2.1 qb = ia18_qb → lv_has ls 8 [(6, .int iv18_6), (5, .int iv6_5), (4, .int iv18_4), (0, .ref x), (1, .int i1), (2, .int i2), (3, .int i3)] → W p l e ({ frames := 0, cells := 0, slots := 0, locals := 0 }) s m ([.ref x, .int i1, .int i2, .int i3] : List Value).toArray below meth c H locs 0 0 (MQ below (va_Qv (fun (u : List Nat × hx_h) => (∃ (bf1 : Nat → Int32), u.2.2.1 qb = bf1 ∧ (∃ b0 b1 b2 : Int32, hv_BN lj i3.toInt b0 b1 b2 ∧ bf1 = hx_up (hx_up (hx_up bf0 (3 * i1.toInt.toNat) b0) (3 * i1.toInt.toNat + 1) b1) (3 * i1.toInt.toNat + 2) b2)) ∧ hx_T T_tb u.1 u.2 ∧ hx_S T_tb [(87, 0)] L h u.1 u.2) (hx_E T_tb (P_ty dA) (dC, dI) vwCl (hx_A L sz)) (hx_A L sz)) ([.ref x, .int i1, .int i2, .int i3] : List Value).toArray s 0 0 (hx_A L sz)) (F0 m 18 ls []) := by
          intro n18
          induction n18 with
          | zero => intro iv18_4 iv18_6 ia18_qb H locs hL1 hl1 bliv18_4 buiv18_4 bliv18_6 buiv18_6 vi18_0 vi18_1 vi18_2 vi18_3 ls hn18; exfalso; omega
          | succ n18 ih18 =>
            intro iv18_4 iv18_6 ia18_qb H locs hL1 hl1 bliv18_4 buiv18_4 bliv18_6 buiv18_6 vi18_0 vi18_1 vi18_2 vi18_3 ls hn18 hW hT hM  nia18_qb hl
            refine lv_iload hx hb dX10_draws_18 (lv_at hl 0 rfl) ?_
            refine lv_iload_n hx hb dX10_draws_20 rfl (lv_at hl 5 rfl) ?_
            refine hb_icmp_ge (zx := iv18_6.toInt) (zy := i2.toInt) (tgt := 105) hx hb rfl rfl dX10_draws_21 (by decide) (fun c_4 => ?_) (fun c_4 => ?_)
            · skip
              obtain ⟨x_5, ex_5⟩ : ∃ y : Int32, y = iv6_5 + Int32.ofInt 1 := ⟨_, rfl⟩
              have zx_5 : x_5.toInt = iv6_5.toInt + (1) := by rw [ex_5]; exact i32_add rfl (by decide) (by omega) (by omega)
              refine lv_iinc (v := x_5) (lv' := [(5, .int x_5), (6, .int iv18_6), (4, .int iv18_4), (0, .ref x), (1, .int i1), (2, .int i2), (3, .int i3)]) hx hb dX10_draws_105 hl (k := 1) rfl ex_5.symm (by decide) rfl (fun ls hl => ?_)
              refine lv_goto (tgt := 6) hx hb dX10_draws_108 (by decide) ?_
              exact ih6 iv18_4 x_5 ia18_qb _ _ hL1 hl1 (by omega) (by omega) (by omega) (by omega) (by have h9 := hv_T3_p (m := i2.toInt - iv6_5.toInt) (by omega); have h8 : hv_T2 (i2.toInt - iv18_6.toInt).toNat = 0 := by { rw [show (i2.toInt - iv18_6.toInt).toNat = 0 by omega]; rfl }; rw [show i2.toInt - x_5.toInt = i2.toInt - iv6_5.toInt - 1 by omega]; omega) vi18_1 (by omega) ls (by omega) hW hT hM  nia18_qb (lv_sub hl [0, 2, 3, 4, 5, 6] rfl)
            · skip
              refine lv_iload hx hb dX10_draws_24 (lv_at hl 0 rfl) ?_
              refine lv_iconst (v := 1) hx hb dX10_draws_26 (by decide) ?_
              refine lv_iadd hx hb dX10_draws_27 ?_
              have rg_6 := i32_r iv18_6
              refine lv_topi (fun x_7 ex_7 => ?_)
              have zx_7 : x_7.toInt = iv18_6.toInt + 1 := by rw [ex_7]; exact i32_add rfl (by decide) (by omega) (by omega)
              refine lv_istore (lv' := [(7, .int x_7), (6, .int iv18_6), (5, .int iv6_5), (4, .int iv18_4), (0, .ref x), (1, .int i1), (2, .int i2), (3, .int i3)]) hx hb dX10_draws_28 hl (by decide) rfl (fun ls hl => ?_)
              have loop30 : ∀ (n30 : Nat) (iv30_4 iv30_7 : Int32) (ia30_qb : Nat → Int32) (H : Heap) (locs : List Loc) (hL1 : List Nat) (hl1 : hx_h), -9880 ≤ iv30_4.toInt → iv30_4.toInt ≤ 9880 → 0 ≤ iv30_7.toInt → iv30_7.toInt ≤ 40 → (iv30_4.toInt = i3.toInt - hv_T3 i2.toInt.toNat + hv_T3 (i2.toInt - iv6_5.toInt).toNat - hv_T2 (i2.toInt - iv6_5.toInt - 1).toNat + hv_T2 (i2.toInt - iv18_6.toInt).toNat - (iv30_7.toInt - iv18_6.toInt - 1)) → ((hv_DB i2.toInt i3.toInt sf bf0 ia30_qb i1.toInt.toNat iv30_4.toInt)) → (iv30_7.toInt ≤ i2.toInt) → (iv18_6.toInt + 1 ≤ iv30_7.toInt) → ∀ (ls : Array Slot), 40 - iv30_7.toInt < (n30 : Int) → hx_W T_tb (P_ty dA) (dC, dI) vwCl (hx_A L sz) s.heap hL1 hl1 s H locs → hx_T T_tb hL1 hl1 → hx_S T_tb [(87, 0)] L h hL1 hl1 → hl1.2.1 qb = ia30_qb → lv_has ls 8 [(7, .int iv30_7), (6, .int iv18_6), (5, .int iv6_5), (4, .int iv30_4), (0, .ref x), (1, .int i1), (2, .int i2), (3, .int i3)] → W p l e ({ frames := 0, cells := 0, slots := 0, locals := 0 }) s m ([.ref x, .int i1, .int i2, .int i3] : List Value).toArray below meth c H locs 0 0 (MQ below (va_Qv (fun (u : List Nat × hx_h) => (∃ (bf1 : Nat → Int32), u.2.2.1 qb = bf1 ∧ (∃ b0 b1 b2 : Int32, hv_BN lj i3.toInt b0 b1 b2 ∧ bf1 = hx_up (hx_up (hx_up bf0 (3 * i1.toInt.toNat) b0) (3 * i1.toInt.toNat + 1) b1) (3 * i1.toInt.toNat + 2) b2)) ∧ hx_T T_tb u.1 u.2 ∧ hx_S T_tb [(87, 0)] L h u.1 u.2) (hx_E T_tb (P_ty dA) (dC, dI) vwCl (hx_A L sz)) (hx_A L sz)) ([.ref x, .int i1, .int i2, .int i3] : List Value).toArray s 0 0 (hx_A L sz)) (F0 m 30 ls []) := by
                intro n30
                induction n30 with
                | zero => intro iv30_4 iv30_7 ia30_qb H locs hL1 hl1 bliv30_4 buiv30_4 bliv30_7 buiv30_7 vi30_0 vi30_1 vi30_2 vi30_3 ls hn30; exfalso; omega
                | succ n30 ih30 =>
                  intro iv30_4 iv30_7 ia30_qb H locs hL1 hl1 bliv30_4 buiv30_4 bliv30_7 buiv30_7 vi30_0 vi30_1 vi30_2 vi30_3 ls hn30 hW hT hM  nia30_qb hl
                  refine lv_iload hx hb dX10_draws_30 (lv_at hl 0 rfl) ?_
                  refine lv_iload_n hx hb dX10_draws_32 rfl (lv_at hl 6 rfl) ?_
                  refine hb_icmp_ge (zx := iv30_7.toInt) (zy := i2.toInt) (tgt := 99) hx hb rfl rfl dX10_draws_33 (by decide) (fun c_8 => ?_) (fun c_8 => ?_)
                  · skip
                    obtain ⟨x_9, ex_9⟩ : ∃ y : Int32, y = iv18_6 + Int32.ofInt 1 := ⟨_, rfl⟩
                    have zx_9 : x_9.toInt = iv18_6.toInt + (1) := by rw [ex_9]; exact i32_add rfl (by decide) (by omega) (by omega)
                    refine lv_iinc (v := x_9) (lv' := [(6, .int x_9), (7, .int iv30_7), (5, .int iv6_5), (4, .int iv30_4), (0, .ref x), (1, .int i1), (2, .int i2), (3, .int i3)]) hx hb dX10_draws_99 hl (k := 1) rfl ex_9.symm (by decide) rfl (fun ls hl => ?_)
                    refine lv_goto (tgt := 18) hx hb dX10_draws_102 (by decide) ?_
                    exact ih18 iv30_4 x_9 ia30_qb _ _ hL1 hl1 (by omega) (by omega) (by omega) (by omega) (by have h9 := hv_T2_p (m := i2.toInt - iv18_6.toInt) (by omega); rw [show i2.toInt - x_9.toInt = i2.toInt - iv18_6.toInt - 1 by omega]; omega) vi30_1 (by omega) (by omega) ls (by omega) hW hT hM  nia30_qb (lv_sub hl [0, 2, 3, 4, 5, 6, 7] rfl)
                  · skip
                    have hpb9 := hv_ps_b (n := i2.toInt) (a := iv6_5.toInt) (b := iv18_6.toInt) (c := iv30_7.toInt) ⟨by omega, by omega, by omega, by omega⟩; unfold hv_ps at hpb9
                    refine lv_iload hx hb dX10_draws_36 (lv_at hl 3 rfl) ?_
                    refine hb_if_ne (zx := iv30_4.toInt) (tgt := 90) hx hb rfl dX10_draws_38 (by decide) (fun c_10 => ?_) (fun c_10 => ?_)
                    · skip
                      obtain ⟨x_11, ex_11⟩ : ∃ y : Int32, y = iv30_4 + Int32.ofInt (-1) := ⟨_, rfl⟩
                      have rg_12 := i32_r iv30_4
                      have zx_11 : x_11.toInt = iv30_4.toInt + (-1) := by rw [ex_11]; exact i32_add rfl (by decide) (by omega) (by omega)
                      refine lv_iinc (v := x_11) (lv' := [(4, .int x_11), (7, .int iv30_7), (6, .int iv18_6), (5, .int iv6_5), (0, .ref x), (1, .int i1), (2, .int i2), (3, .int i3)]) hx hb dX10_draws_90 hl (k := 3) rfl ex_11.symm (by decide) rfl (fun ls hl => ?_)
                      obtain ⟨x_13, ex_13⟩ : ∃ y : Int32, y = iv30_7 + Int32.ofInt 1 := ⟨_, rfl⟩
                      have rg_14 := i32_r iv30_7
                      have zx_13 : x_13.toInt = iv30_7.toInt + (1) := by rw [ex_13]; exact i32_add rfl (by decide) (by omega) (by omega)
                      refine lv_iinc (v := x_13) (lv' := [(7, .int x_13), (4, .int x_11), (6, .int iv18_6), (5, .int iv6_5), (0, .ref x), (1, .int i1), (2, .int i2), (3, .int i3)]) hx hb dX10_draws_93 hl (k := 1) rfl ex_13.symm (by decide) rfl (fun ls hl => ?_)
                      refine lv_goto (tgt := 30) hx hb dX10_draws_96 (by decide) ?_
                      exact ih30 x_11 x_13 ia30_qb _ _ hL1 hl1 (by omega) (by omega) (by omega) (by omega) (by omega) (hv_DB_n vi30_1 (by omega) (by omega)) (by omega) (by omega) ls (by omega) hW hT hM  nia30_qb (lv_sub hl [0, 2, 3, 1, 4, 5, 6, 7] rfl)
                    · skip
                      refine lv_aload_n hx hb dX10_draws_41 rfl (lv_at hl 4 rfl) ?_
                      refine hk_getr hx hb hts hC_10 hown hW (gx.S hM) tt_10 52 (by decide) rfl kw_1195 ⟨rfl, rfl, rfl⟩ ((hM.o gx trivial rfl).2.trans f_x_52) dX10_draws_42 ?_
                      refine lv_iconst (v := 3) hx hb dX10_draws_45 (by decide) ?_
                      refine lv_iload_n hx hb dX10_draws_46 rfl (lv_at hl 5 rfl) ?_
                      refine lv_imul hx hb dX10_draws_47 ?_
                      refine lv_topi (fun x_15 ex_15 => ?_)
                      have zx_15 : x_15.toInt = 3 * i1.toInt := by rw [ex_15]; exact i32_mul (by decide) rfl rfl (by omega) (by omega)
                      refine lv_aload_n hx hb dX10_draws_48 rfl (lv_at hl 4 rfl) ?_
                      refine hk_getr hx hb hts hC_10 hown hW (gx.S hM) tt_10 65 (by decide) rfl kw_1208 ⟨rfl, rfl, rfl⟩ ((hM.o gx trivial rfl).2.trans f_x_65) dX10_draws_49 ?_
                      refine lv_iload hx hb dX10_draws_52 (lv_at hl 2 rfl) ?_
                      refine hx_iald hx hb hW hT (gqs.S hM) tt_98 rfl ⟨by omega, by omega⟩ dX10_draws_54 (fun x_16 ex_16 lx_16 ux_16 => ?_)
                      have ax_16 : x_16 = sf iv6_5.toNatClampNeg := ex_16.trans (congrFun (hx_afS hM gqs rfl af_qs) _)
                      have nia30_qbO := nia30_qb
                      refine hx_iast hx hb hW hT (hx_S.rf (M := [(87, 0)])) (gqb.S hM) tt_87 rfl ⟨by omega, by omega⟩ rfl (i32_r _) (List.mem_singleton.mpr rfl) dX10_draws_55 (fun H locs h_17 eh_17 hW hT hs => ?_)
                      replace ex_16 := ex_16.trans (hs.a (gqs.S hM) rfl _).1.symm
                      replace hM := hM.tr (hs.mono (by decide))
                      obtain ⟨fa_18, dfa_18⟩ : ∃ g : Nat → Int32, g = hx_up ia30_qb x_15.toNatClampNeg x_16 := ⟨_, rfl⟩
                      have nfa_18 : h_17.2.1 qb = fa_18 := by rw [eh_17, dfa_18, ← nia30_qbO]; exact hx_pi_fun _ _ _ _
                      refine lv_aload_n hx hb dX10_draws_56 rfl (lv_at hl 4 rfl) ?_
                      refine hk_getr hx hb hts hC_10 hown hW (gx.S hM) tt_10 52 (by decide) rfl kw_1195 ⟨rfl, rfl, rfl⟩ ((hM.o gx trivial rfl).2.trans f_x_52) dX10_draws_57 ?_
                      refine lv_iconst (v := 3) hx hb dX10_draws_60 (by decide) ?_
                      refine lv_iload_n hx hb dX10_draws_61 rfl (lv_at hl 5 rfl) ?_
                      refine lv_imul hx hb dX10_draws_62 ?_
                      refine lv_topi (fun x_19 ex_19 => ?_)
                      have zx_19 : x_19.toInt = 3 * i1.toInt := by rw [ex_19]; exact i32_mul (by decide) rfl rfl (by omega) (by omega)
                      refine lv_iconst (v := 1) hx hb dX10_draws_63 (by decide) ?_
                      refine lv_iadd hx hb dX10_draws_64 ?_
                      have rg_20 := i32_r x_19
                      refine lv_topi (fun x_21 ex_21 => ?_)
                      have zx_21 : x_21.toInt = x_19.toInt + 1 := by rw [ex_21]; exact i32_add rfl (by decide) (by omega) (by omega)
                      refine lv_aload_n hx hb dX10_draws_65 rfl (lv_at hl 4 rfl) ?_
                      refine hk_getr hx hb hts hC_10 hown hW (gx.S hM) tt_10 65 (by decide) rfl kw_1208 ⟨rfl, rfl, rfl⟩ ((hM.o gx trivial rfl).2.trans f_x_65) dX10_draws_66 ?_
                      refine lv_iload hx hb dX10_draws_69 (lv_at hl 1 rfl) ?_
                      refine hx_iald hx hb hW hT (gqs.S hM) tt_98 rfl ⟨by omega, by omega⟩ dX10_draws_71 (fun x_22 ex_22 lx_22 ux_22 => ?_)
                      have ax_22 : x_22 = sf iv18_6.toNatClampNeg := ex_22.trans (congrFun (hx_afS hM gqs rfl af_qs) _)
                      have nfa_18O := nfa_18
                      refine hx_iast hx hb hW hT (hx_S.rf (M := [(87, 0)])) (gqb.S hM) tt_87 rfl ⟨by omega, by omega⟩ rfl (i32_r _) (List.mem_singleton.mpr rfl) dX10_draws_72 (fun H locs h_23 eh_23 hW hT hs => ?_)
                      replace ex_16 := ex_16.trans (hs.a (gqs.S hM) rfl _).1.symm
                      replace ex_22 := ex_22.trans (hs.a (gqs.S hM) rfl _).1.symm
                      replace hM := hM.tr (hs.mono (by decide))
                      obtain ⟨fa_24, dfa_24⟩ : ∃ g : Nat → Int32, g = hx_up fa_18 x_21.toNatClampNeg x_22 := ⟨_, rfl⟩
                      have nfa_24 : h_23.2.1 qb = fa_24 := by rw [eh_23, dfa_24, ← nfa_18O]; exact hx_pi_fun _ _ _ _
                      refine lv_aload_n hx hb dX10_draws_73 rfl (lv_at hl 4 rfl) ?_
                      refine hk_getr hx hb hts hC_10 hown hW (gx.S hM) tt_10 52 (by decide) rfl kw_1195 ⟨rfl, rfl, rfl⟩ ((hM.o gx trivial rfl).2.trans f_x_52) dX10_draws_74 ?_
                      refine lv_iconst (v := 3) hx hb dX10_draws_77 (by decide) ?_
                      refine lv_iload_n hx hb dX10_draws_78 rfl (lv_at hl 5 rfl) ?_
                      refine lv_imul hx hb dX10_draws_79 ?_
                      refine lv_topi (fun x_25 ex_25 => ?_)
                      have zx_25 : x_25.toInt = 3 * i1.toInt := by rw [ex_25]; exact i32_mul (by decide) rfl rfl (by omega) (by omega)
                      refine lv_iconst (v := 2) hx hb dX10_draws_80 (by decide) ?_
                      refine lv_iadd hx hb dX10_draws_81 ?_
                      have rg_26 := i32_r x_25
                      refine lv_topi (fun x_27 ex_27 => ?_)
                      have zx_27 : x_27.toInt = x_25.toInt + 2 := by rw [ex_27]; exact i32_add rfl (by decide) (by omega) (by omega)
                      refine lv_aload_n hx hb dX10_draws_82 rfl (lv_at hl 4 rfl) ?_
                      refine hk_getr hx hb hts hC_10 hown hW (gx.S hM) tt_10 65 (by decide) rfl kw_1208 ⟨rfl, rfl, rfl⟩ ((hM.o gx trivial rfl).2.trans f_x_65) dX10_draws_83 ?_
                      refine lv_iload hx hb dX10_draws_86 (lv_at hl 0 rfl) ?_
                      refine hx_iald hx hb hW hT (gqs.S hM) tt_98 rfl ⟨by omega, by omega⟩ dX10_draws_88 (fun x_28 ex_28 lx_28 ux_28 => ?_)
                      have ax_28 : x_28 = sf iv30_7.toNatClampNeg := ex_28.trans (congrFun (hx_afS hM gqs rfl af_qs) _)
                      have nfa_24O := nfa_24
                      refine hx_iast hx hb hW hT (hx_S.rf (M := [(87, 0)])) (gqb.S hM) tt_87 rfl ⟨by omega, by omega⟩ rfl (i32_r _) (List.mem_singleton.mpr rfl) dX10_draws_89 (fun H locs h_29 eh_29 hW hT hs => ?_)
                      replace ex_16 := ex_16.trans (hs.a (gqs.S hM) rfl _).1.symm
                      replace ex_22 := ex_22.trans (hs.a (gqs.S hM) rfl _).1.symm
                      replace ex_28 := ex_28.trans (hs.a (gqs.S hM) rfl _).1.symm
                      replace hM := hM.tr (hs.mono (by decide))
                      obtain ⟨fa_30, dfa_30⟩ : ∃ g : Nat → Int32, g = hx_up fa_24 x_27.toNatClampNeg x_28 := ⟨_, rfl⟩
                      have nfa_30 : h_29.2.1 qb = fa_30 := by rw [eh_29, dfa_30, ← nfa_24O]; exact hx_pi_fun _ _ _ _
                      obtain ⟨x_31, ex_31⟩ : ∃ y : Int32, y = iv30_4 + Int32.ofInt (-1) := ⟨_, rfl⟩
                      have rg_32 := i32_r iv30_4
                      have zx_31 : x_31.toInt = iv30_4.toInt + (-1) := by rw [ex_31]; exact i32_add rfl (by decide) (by omega) (by omega)
                      refine lv_iinc (v := x_31) (lv' := [(4, .int x_31), (7, .int iv30_7), (6, .int iv18_6), (5, .int iv6_5), (0, .ref x), (1, .int i1), (2, .int i2), (3, .int i3)]) hx hb dX10_draws_90 hl (k := 3) rfl ex_31.symm (by decide) rfl (fun ls hl => ?_)
                      obtain ⟨x_33, ex_33⟩ : ∃ y : Int32, y = iv30_7 + Int32.ofInt 1 := ⟨_, rfl⟩
                      have rg_34 := i32_r iv30_7
                      have zx_33 : x_33.toInt = iv30_7.toInt + (1) := by rw [ex_33]; exact i32_add rfl (by decide) (by omega) (by omega)
                      refine lv_iinc (v := x_33) (lv' := [(7, .int x_33), (4, .int x_31), (6, .int iv18_6), (5, .int iv6_5), (0, .ref x), (1, .int i1), (2, .int i2), (3, .int i3)]) hx hb dX10_draws_93 hl (k := 1) rfl ex_33.symm (by decide) rfl (fun ls hl => ?_)
                      refine lv_goto (tgt := 30) hx hb dX10_draws_96 (by decide) ?_
                      exact ih30 x_31 x_33 fa_30 _ _ hL1 h_29 (by omega) (by omega) (by omega) (by omega) (by omega) (hv_DB_y vi30_1 (by omega) (by omega) (x := iv6_5.toInt) (y := iv18_6.toInt) (z := iv30_7.toInt) ⟨by omega, by omega, by omega, by omega⟩ (by unfold hv_ps; omega) dfa_18 dfa_24 dfa_30 (by unfold Int32.toNatClampNeg; omega) (by unfold Int32.toNatClampNeg; omega) (by unfold Int32.toNatClampNeg; omega) ax_16 ax_22 ax_28 (by unfold Int32.toNatClampNeg; omega) (by unfold Int32.toNatClampNeg; omega) (by unfold Int32.toNatClampNeg; omega)) (by omega) (by omega) ls (by omega) hW hT hM  nfa_30 (lv_sub hl [0, 2, 3, 1, 4, 5, 6, 7] rfl)
              exact loop30 41 iv18_4 x_7 ia18_qb _ _ hL1 hl1 (by omega) (by omega) (by omega) (by omega) (by omega) vi18_1 (by omega) (by omega) ls (by omega) hW hT hM  nia18_qb hl
        exact loop18 41 iv6_4 x_3 ia6_qb _ _ hL1 hl1 (by omega) (by omega) (by omega) (by omega) (by rw [show i2.toInt - x_3.toInt = i2.toInt - iv6_5.toInt - 1 by omega]; omega) vi6_1 (by omega) (by omega) ls (by omega) hW hT hM  nia6_qb hl
  have zk_0 : (0 : Int32).toInt = 0 := by decide
  exact loop6 41 i3 (0 : Int32) bf0 _ _ L h (by omega) (by omega) (by decide) (by decide) (by rw [zk_0, show i2.toInt - 0 = i2.toInt by omega]; omega) (Or.inl ⟨by omega, rfl⟩) (by omega) ls (by omega) hW hT hM  af_qb hl
end
section
/-! HEARD -/
/-- the row of those heard: claims, by the numbers of hof -/
def hv_HL (h : hx_h) (qh qc : Nat) (hof : Nat → Int32) (m n : Int) : Prop := ∀ j : Nat, j < 100 → (j : Int) < m → ∃ o, h.2.2 qh j = some o ∧ 0 ≤ (hof j).toInt ∧ (hof j).toInt < n ∧ h.2.2 qc (hof j).toInt.toNat = some o
section HVHL
variable {tb : List hx_d} {M : hx_m} {L L1 : List Nat} {h h1 : hx_h} {qh qc th tc x : Nat} {hof : Nat → Int32} {m n : Int}
theorem hv_HL_S (hs : hx_S tb M L h L1 h1) (gh : hx_g L h qh th) (gc : hx_g L h qc tc) (m1 : M.any (fun q => q.1 == th) = false) (m2 : M.any (fun q => q.1 == tc) = false) (H : hv_HL h qh qc hof m n) : hv_HL h1 qh qc hof m n := by
  intro j hj hjm
  obtain ⟨o, a, b, c, d⟩ := H j hj hjm
  exact ⟨o, by rw [(hs.a gh m1 j).2]; exact a, b, c, by rw [(hs.a gc m2 _).2]; exact d⟩
theorem hv_HL_0 {z : Int} (hz : z = 0) : hv_HL h qh qc hof z n := fun j _ hj => by exfalso; omega
theorem hv_HL_e {f : Nat → Int32} {m' n' : Int} (H : hv_HL h qh qc hof m n) (e : hof = f) (em : m = m') (en : n = n') : hv_HL h qh qc f m' n' := by
  subst e; subst em; subst en; exact H
/-- one more is heard -/
theorem hv_HL_h {o : Nat} {i j : Int32} {m' : Int} (H : hv_HL h qh qc hof m n) (ne : qh ≠ qc) (eh : h1 = hx_pr h qh i.toNatClampNeg (some o)) (h0 : 0 ≤ i.toInt) (hi : i.toInt = m) (j0 : 0 ≤ j.toInt) (j1 : j.toInt < n) (fo : h.2.2 qc j.toNatClampNeg = some o) (em : m' = m + 1) : hv_HL h1 qh qc (hx_up hof m.toNat j) m' n := by
  have e1 : i.toNatClampNeg = m.toNat := by unfold Int32.toNatClampNeg; omega
  subst eh
  intro k hk hkm
  by_cases z : k = m.toNat
  · subst z
    refine ⟨o, by rw [← e1]; exact hx_pr_at _ _ _ _, ?_, ?_, ?_⟩
    · rw [hx_up_at]; exact j0
    · rw [hx_up_at]; exact j1
    · rw [hx_up_at, hx_pr_ne h (some o) (fun q => ne q.1.symm)]; exact fo
  · obtain ⟨o', a, b, c, d⟩ := H k hk (by omega)
    refine ⟨o', ?_, ?_, ?_, ?_⟩
    · rw [hx_pr_ne h (some o) (fun q => z (by rw [q.2, e1]))]; exact a
    · rw [hx_up_ne z]; exact b
    · rw [hx_up_ne z]; exact c
    · rw [hx_up_ne z, hx_pr_ne h (some o) (fun q => ne q.1.symm)]; exact d
/-- one more claim -/
theorem hv_HL_c {p : Nat} {i : Int32} {n' : Int} (H : hv_HL h qh qc hof m n) (ne : qh ≠ qc) (eh : h1 = hx_pr h qc i.toNatClampNeg (some p)) (h0 : 0 ≤ i.toInt) (hi : i.toInt = n) (em : n' = n + 1) : hv_HL h1 qh qc hof m n' := by
  have e1 : i.toNatClampNeg = n.toNat := by unfold Int32.toNatClampNeg; omega
  subst eh
  intro k hk hkm
  obtain ⟨o, a, b, c, d⟩ := H k hk hkm
  refine ⟨o, ?_, b, by omega, ?_⟩
  · rw [hx_pr_ne h (some p) (fun q => ne q.1)]; exact a
  · rw [hx_pr_ne h (some p) (fun q => by have := q.2; omega)]; exact d
end HVHL
theorem hv_HL_X {tb : List hx_d} {M : hx_m} {L L1 : List Nat} {h h1 : hx_h} {qh qc th tc x : Nat} {hof : Nat → Int32} {m n : Int} (hs : hx_S tb M (hx_X L x) h L1 h1) (gh : hx_g (hx_X L x) h qh th) (gc : hx_g (hx_X L x) h qc tc) (m1 : M.any (fun q => q.1 == th) = false) (m2 : M.any (fun q => q.1 == tc) = false) (H : hv_HL h qh qc hof m n) : hv_HL h1 qh qc hof m n := hv_HL_S hs gh gc m1 m2 H
def hv_HC (ff hf df agf : Nat → Int32) (n i d len : Int) : Prop := (0 ≤ i ∧ i < n) ∧ (ff i.toNat).toInt ≠ -1 ∧ (hf i.toNat).toInt = -1 ∧ (df (agf i.toNat).toInt.toNat).toInt = 0 ∧ 0 ≤ d ∧ 3 ≤ len
/-- what hear answers, and what stands behind it -/
def hv_HS (C : Prop) (i nw m0 m1 r : Int32) (J : Int) (hf hf1 uf uf1 hof hof1 : Nat → Int32) : Prop := (r.toInt = -1 ∧ ¬ C ∧ m1 = m0 ∧ hf1 = hf ∧ uf1 = uf ∧ hof1 = hof) ∨ (C ∧ r.toInt = J ∧ (1 ≤ r.toInt ∧ r.toInt ≤ 5) ∧ m1.toInt = m0.toInt + 1 ∧ hf1 = hx_up hf i.toNatClampNeg nw ∧ uf1 = hx_up uf i.toNatClampNeg r ∧ hof1 = hx_up hof m0.toInt.toNat i)
theorem hv_jg_e {F G R : Nat → Int} {o : List hv_tok} {fr bo su sp : Int} (hO : hv_OK o) (h : ∀ k, k < 8 → F k = G k) : hv_jg F R o fr bo su sp = hv_jg G R o fr bo su sp := by
  unfold hv_jg
  rw [hv_pr_e hO h]
/-- the facts of both sides: of those heard the same; of others what was told as they were filed -/
def hv_FR (cF rf nf wf sf hf : Nat → Int32) (n : Int) : Prop := ∀ c : Nat, (c : Int) < n → ((hf c).toInt ≠ -1 → ∀ k, k < 8 → cF (k + 8 * c) = rf (k + 8 * c)) ∧ ((hf c).toInt = -1 → cF (2 + 8 * c) = nf c ∧ cF (3 + 8 * c) = wf c ∧ cF (7 + 8 * c) = sf c)
/-- eight facts of a claim -/
def hv_u8 (f : Nat → Int32) (c : Nat) (v : Nat → Int32) : Nat → Int32 := fun j => if 8 * c ≤ j ∧ j < 8 * c + 8 then v (j - 8 * c) else f j
theorem hv_u8_at {f v : Nat → Int32} {c k : Nat} (hk : k < 8) : hv_u8 f c v (k + 8 * c) = v k := by
  unfold hv_u8
  rw [if_pos (by omega), show k + 8 * c - 8 * c = k by omega]
theorem hv_u8_ne {f v : Nat → Int32} {c d k : Nat} (hk : k < 8) (h : d ≠ c) : hv_u8 f c v (k + 8 * d) = f (k + 8 * d) := by
  unfold hv_u8
  rw [if_neg (by omega)]
/-- a claim's facts, told as it is heard -/
def hv_CU (cF cF1 : Nat → Int32) (c : Nat) (a0 a1 a4 a5 : Int32) (a6 : Int) : Prop := (∀ d k : Nat, k < 8 → d ≠ c → cF1 (k + 8 * d) = cF (k + 8 * d)) ∧ cF1 (0 + 8 * c) = a0 ∧ cF1 (1 + 8 * c) = a1 ∧ cF1 (2 + 8 * c) = cF (2 + 8 * c) ∧ cF1 (3 + 8 * c) = cF (3 + 8 * c) ∧ cF1 (4 + 8 * c) = a4 ∧ cF1 (5 + 8 * c) = a5 ∧ (cF1 (6 + 8 * c)).toInt = a6 ∧ cF1 (7 + 8 * c) = cF (7 + 8 * c)
theorem hv_CU_i {f0 f1 f2 f3 f4 f5 : Nat → Int32} {c : Nat} {v0 v1 v4 v5 v6 a4 a5 : Int32} {a6 : Int} (d1 : f1 = hx_up f0 ((0 : Int32).toNatClampNeg + 8 * c) v0) (d2 : f2 = hx_up f1 ((1 : Int32).toNatClampNeg + 8 * c) v1) (d3 : f3 = hx_up f2 ((4 : Int32).toNatClampNeg + 8 * c) v4) (d4 : f4 = hx_up f3 ((5 : Int32).toNatClampNeg + 8 * c) v5) (d5 : f5 = hx_up f4 ((6 : Int32).toNatClampNeg + 8 * c) v6) (e4 : v4 = a4) (e5 : v5 = a5) (e6 : v6.toInt = a6) : hv_CU f0 f5 c v0 v1 a4 a5 a6 := by
  have k0 : (0 : Int32).toNatClampNeg = 0 := by decide
  have k1 : (1 : Int32).toNatClampNeg = 1 := by decide
  have k4 : (4 : Int32).toNatClampNeg = 4 := by decide
  have k5 : (5 : Int32).toNatClampNeg = 5 := by decide
  have k6 : (6 : Int32).toNatClampNeg = 6 := by decide
  rw [k0] at d1; rw [k1] at d2; rw [k4] at d3; rw [k5] at d4; rw [k6] at d5
  subst d1; subst d2; subst d3; subst d4; subst d5; subst e4; subst e5
  refine ⟨fun d k hk hd => ?_, ?_, ?_, ?_, ?_, ?_, ?_, ?_, ?_⟩
  · rw [hx_up_ne (by omega), hx_up_ne (by omega), hx_up_ne (by omega), hx_up_ne (by omega), hx_up_ne (by omega)]
  · rw [hx_up_ne (by omega), hx_up_ne (by omega), hx_up_ne (by omega), hx_up_ne (by omega), hx_up_at]
  · rw [hx_up_ne (by omega), hx_up_ne (by omega), hx_up_ne (by omega), hx_up_at]
  · rw [hx_up_ne (by omega), hx_up_ne (by omega), hx_up_ne (by omega), hx_up_ne (by omega), hx_up_ne (by omega)]
  · rw [hx_up_ne (by omega), hx_up_ne (by omega), hx_up_ne (by omega), hx_up_ne (by omega), hx_up_ne (by omega)]
  · rw [hx_up_ne (by omega), hx_up_ne (by omega), hx_up_at]
  · rw [hx_up_ne (by omega), hx_up_at]
  · rw [hx_up_at]; exact e6
  · rw [hx_up_ne (by omega), hx_up_ne (by omega), hx_up_ne (by omega), hx_up_ne (by omega), hx_up_ne (by omega)]
def hv_CV (rf rf1 : Nat → Int32) (c : Nat) (a0 a1 a2 a3 a4 a5 : Int32) (a6 : Int) (a7 : Int32) : Prop := (∀ d k : Nat, k < 8 → d ≠ c → rf1 (k + 8 * d) = rf (k + 8 * d)) ∧ rf1 (0 + 8 * c) = a0 ∧ rf1 (1 + 8 * c) = a1 ∧ rf1 (2 + 8 * c) = a2 ∧ rf1 (3 + 8 * c) = a3 ∧ rf1 (4 + 8 * c) = a4 ∧ rf1 (5 + 8 * c) = a5 ∧ (rf1 (6 + 8 * c)).toInt = a6 ∧ rf1 (7 + 8 * c) = a7
theorem hv_CV_i {f0 f1 f2 f3 f4 f5 f6 f7 f8 : Nat → Int32} {c i0 i1 i2 i3 i4 i5 i6 i7 : Nat} {v0 v1 v2 v3 v4 v5 v6 v7 a2 a3 a4 a5 a7 : Int32} {a6 : Int} (d1 : f1 = hx_up f0 i0 v0) (d2 : f2 = hx_up f1 i1 v1) (d3 : f3 = hx_up f2 i2 v2) (d4 : f4 = hx_up f3 i3 v3) (d5 : f5 = hx_up f4 i4 v4) (d6 : f6 = hx_up f5 i5 v5) (d7 : f7 = hx_up f6 i6 v6) (d8 : f8 = hx_up f7 i7 v7) (k0 : i0 = 8 * c) (k1 : i1 = 1 + 8 * c) (k2 : i2 = 2 + 8 * c) (k3 : i3 = 3 + 8 * c) (k4 : i4 = 4 + 8 * c) (k5 : i5 = 5 + 8 * c) (k6 : i6 = 6 + 8 * c) (k7 : i7 = 7 + 8 * c) (e2 : v2 = a2) (e3 : v3 = a3) (e4 : v4 = a4) (e5 : v5 = a5) (e6 : v6.toInt = a6) (e7 : v7 = a7) : hv_CV f0 f8 c v0 v1 a2 a3 a4 a5 a6 a7 := by
  subst d1; subst d2; subst d3; subst d4; subst d5; subst d6; subst d7; subst d8
  subst e2; subst e3; subst e4; subst e5; subst e7
  have n : ∀ {f : Nat → Int32} {i j : Nat} {v : Int32}, i ≠ j → hx_up f i v j = f j := fun h => hx_up_ne (fun z => h z.symm)
  refine ⟨fun d k hk hd => ?_, ?_, ?_, ?_, ?_, ?_, ?_, ?_, ?_⟩
  · rw [n (by omega), n (by omega), n (by omega), n (by omega), n (by omega), n (by omega), n (by omega), n (by omega)]
  · rw [n (by omega), n (by omega), n (by omega), n (by omega), n (by omega), n (by omega), n (by omega), show 0 + 8 * c = i0 by omega, hx_up_at]
  · rw [n (by omega), n (by omega), n (by omega), n (by omega), n (by omega), n (by omega), show 1 + 8 * c = i1 by omega, hx_up_at]
  · rw [n (by omega), n (by omega), n (by omega), n (by omega), n (by omega), show 2 + 8 * c = i2 by omega, hx_up_at]
  · rw [n (by omega), n (by omega), n (by omega), n (by omega), show 3 + 8 * c = i3 by omega, hx_up_at]
  · rw [n (by omega), n (by omega), n (by omega), show 4 + 8 * c = i4 by omega, hx_up_at]
  · rw [n (by omega), n (by omega), show 5 + 8 * c = i5 by omega, hx_up_at]
  · rw [n (by omega), show 6 + 8 * c = i6 by omega, hx_up_at]; exact e6
  · rw [show 7 + 8 * c = i7 by omega, hx_up_at]
end
section
set_option maxHeartbeats 4000000 in
set_option maxRecDepth 100000 in
theorem t_X9_hear_v (l : Launch) (dC : Nat → ClassId) (dI : Nat → Nat → Nat) (dA : Nat → ClassId) (L : List Nat) (h : hx_h) (sz : Nat) (x : Nat) (i1 : Int32) (i2 : Int32) (i3 : Int32) (i4 : Int32) (hT : hx_T T_tb L h) (gx : hx_g L h x 9) (qp : Nat) (gqp : hx_g L h qp 44) (f_x_7 : h.2.2 x 7 = some qp) (qc : Nat) (gqc : hx_g L h qc 45) (f_x_10 : h.2.2 x 10 = some qc) (qh : Nat) (gqh : hx_g L h qh 46) (f_x_12 : h.2.2 x 12 = some qh) (qb : Nat) (gqb : hx_g L h qb 1) (f_x_9 : h.2.2 x 9 = some qb) (qo : Nat) (gqo : hx_g L h qo 13) (f_qb_1 : h.2.2 qb 1 = some qo) (qwi : Nat) (gqwi : hx_g L h qwi 14) (f_qb_2 : h.2.2 qb 2 = some qwi) (qdy : Nat) (gqdy : hx_g L h qdy 15) (f_qb_3 : h.2.2 qb 3 = some qdy) (qkd : Nat) (gqkd : hx_g L h qkd 16) (f_qb_4 : h.2.2 qb 4 = some qkd) (qsm : Nat) (gqsm : hx_g L h qsm 17) (f_qb_5 : h.2.2 qb 5 = some qsm) (qbd : Nat) (gqbd : hx_g L h qbd 18) (f_qb_6 : h.2.2 qb 6 = some qbd) (qtk : Nat) (gqtk : hx_g L h qtk 19) (f_qb_7 : h.2.2 qb 7 = some qtk) (qfi : Nat) (gqfi : hx_g L h qfi 47) (f_x_15 : h.2.2 x 15 = some qfi) (of : Nat → Int32) (af_qo : h.2.1 qo = of) (wf : Nat → Int32) (af_qwi : h.2.1 qwi = wf) (df : Nat → Int32) (af_qdy : h.2.1 qdy = df) (kf : Nat → Int32) (af_qkd : h.2.1 qkd = kf) (sf : Nat → Int32) (af_qsm : h.2.1 qsm = sf) (bf : Nat → Int32) (af_qbd : h.2.1 qbd = bf) (tf : Nat → Int32) (af_qtk : h.2.1 qtk = tf) (fi0 : Nat → Int32) (af_qfi : h.2.1 qfi = fi0) (cn0 : Int32) (f_x_11 : h.2.1 x 11 = cn0) (pn0 : Int32) (f_x_8 : h.2.1 x 8 = pn0) (m0 : Int32) (f_x_13 : h.2.1 x 13 = m0) (nw0 : Int32) (f_x_2 : h.2.1 x 2 = nw0) (ln0 : Int32) (f_qb_0 : h.2.1 qb 0 = ln0) (ddf : Nat → Int32) (cl_qp_7 : hx_col 40 h qp 7 = ddf) (jjf : Nat → Int32) (cl_qp_8 : hx_col 40 h qp 8 = jjf) (kkf : Nat → Int32) (cl_qp_2 : hx_col 40 h qp 2 = kkf) (bnf : Nat → Int32) (cl_qp_1 : hx_col 40 h qp 1 = bnf) (fof : Nat → Int32) (cl_qc_10 : hx_col 100 h qc 10 = fof) (hrf : Nat → Int32) (cl_qc_11 : hx_col 100 h qc 11 = hrf) (udf : Nat → Int32) (cl_qc_12 : hx_col 100 h qc 12 = udf) (smf : Nat → Int32) (cl_qc_6 : hx_col 100 h qc 6 = smf) (frf : Nat → Int32) (cl_qc_7 : hx_col 100 h qc 7 = frf) (flf : Nat → Int32) (cl_qc_8 : hx_col 100 h qc 8 = flf) (nu_qp : hx_num 40 h qp 0 (pn0.toInt)) (nu_qc : hx_num 100 h qc 0 (cn0.toInt)) (hi2 : 0 ≤ i2.toInt ∧ i2.toInt ≤ 1) (hi3 : 0 ≤ i3.toInt ∧ i3.toInt ≤ 1) (agf byf plf hof cF bF : Nat → Int32) (A : Nat → hv_act) (hDF : hw_DF h qc qp 2 agf cn0.toInt) (hDP : hw_DF h qc qp 1 byf cn0.toInt) (hAC : hv_AC h qc plf cn0.toInt A) (hAB : ∀ j : Nat, (∀ k, 0 ≤ (A j).2.1 k ∧ (A j).2.1 k ≤ 9999) ∧ hv_OK (A j).2.2) (hFX : hv_FX 8 4 h qc cF cn0.toInt) (hBX : hv_FX 3 5 h qc bF cn0.toInt) (hHL : hv_HL h qh qc hof m0.toInt cn0.toInt) (hHC : m0.toInt = hx_hc hrf cn0.toInt.toNat) (hBD : hy_BD df bf ln0.toInt.toNat) (hDY : hy_DY df ln0.toInt.toNat) (pf_x_8 : ∀ j : Nat, (j : Int) < (h.2.1 x 8).toInt → h.2.2 qp j ≠ none) (pf_x_11 : ∀ j : Nat, (j : Int) < (h.2.1 x 11).toInt → h.2.2 qc j ≠ none) (pf_x_13 : ∀ j : Nat, (j : Int) < (h.2.1 x 13).toInt → h.2.2 qh j ≠ none) : Met l yX9_hear (Cond.code yX9_hear cX9_hear 8 (some .int) :: hx_all) ({ frames := 4, cells := 0, slots := 0, locals := 92 }) (va_Pc [.ref x, .int i1, .int i2, .int i3, .int i4] (hx_B T_tb (P_ty dA) (dC, dI) vwCl L h sz)) (va_Qi (fun (r : Int32) (u : List Nat × hx_h) => (∃ (m1 : Int32) (hrf1 : Nat → Int32) (udf1 : Nat → Int32), u.2.2.1 x 13 = m1 ∧ hx_col 100 u.2 qc 11 = hrf1 ∧ hx_col 100 u.2 qc 12 = udf1 ∧ (∃ cF1 bF1 hof1 : Nat → Int32, hv_HS (hv_HC fof hrf ddf agf cn0.toInt i1.toInt i4.toInt ((hv_fs jjf ddf kkf (byf i1.toNatClampNeg).toNatClampNeg (agf i1.toNatClampNeg).toNatClampNeg pn0.toInt.toNat).length : Int)) i1 nw0 m0 m1 r (hv_jg (hv_F0 cF1 (8 * i1.toNatClampNeg)) (A (plf i1.toNatClampNeg).toInt.toNat).2.1 (A (plf i1.toNatClampNeg).toInt.toNat).2.2 (frf i1.toNatClampNeg).toInt (bnf (agf i1.toNatClampNeg).toNatClampNeg).toInt (smf i1.toNatClampNeg).toInt (hv_sm byf agf flf smf (byf i1.toNatClampNeg).toInt (agf i1.toNatClampNeg).toInt ((flf i1.toNatClampNeg).toInt - (A (plf i1.toNatClampNeg).toInt.toNat).2.1 1) cn0.toInt.toNat)) hrf hrf1 udf udf1 hof hof1 ∧ hv_FX 8 4 u.2 qc cF1 cn0.toInt ∧ hv_FX 3 5 u.2 qc bF1 cn0.toInt ∧ hv_HL u.2 qh qc hof1 m1.toInt cn0.toInt ∧ ((r.toInt = -1 ∧ cF1 = cF ∧ bF1 = bF) ∨ (r.toInt ≠ -1 ∧ hv_CU cF cF1 i1.toNatClampNeg i2 i3 (hy_bs of wf df kf sf (byf i1.toNatClampNeg) (agf i1.toNatClampNeg) (flf i1.toNatClampNeg) ln0.toInt.toNat) (-(hy_bs of wf df kf sf (agf i1.toNatClampNeg) (byf i1.toNatClampNeg) (flf i1.toNatClampNeg) ln0.toInt.toNat)) (hy_G of wf df kf sf bf (byf i1.toNatClampNeg) (agf i1.toNatClampNeg) (flf i1.toNatClampNeg) ln0.toInt.toNat ln0.toInt.toNat).2 ∧ (∃ b0 b1 b2 : Int32, hv_BN (hv_fs jjf ddf kkf (byf i1.toNatClampNeg).toNatClampNeg (agf i1.toNatClampNeg).toNatClampNeg pn0.toInt.toNat) (i4.toInt % hv_T3 (hv_fs jjf ddf kkf (byf i1.toNatClampNeg).toNatClampNeg (agf i1.toNatClampNeg).toNatClampNeg pn0.toInt.toNat).length) b0 b1 b2 ∧ bF1 = hx_up (hx_up (hx_up bF (0 + 3 * i1.toNatClampNeg) b0) (1 + 3 * i1.toNatClampNeg) b1) (2 + 3 * i1.toNatClampNeg) b2))))) ∧ hx_T T_tb u.1 u.2 ∧ hx_S T_tb [(2, 11), (2, 12), (9, 13), (19, 0), (20, 0), (21, 0), (46, 0), (47, 0)] L h u.1 u.2 ∧ (∀ j : Nat, (j : Int) < (u.2.2.1 x 13).toInt → u.2.2.2 qh j ≠ none)) (hx_E T_tb (P_ty dA) (dC, dI) vwCl (hx_A L sz)) (hx_A L sz)) 0 0 (hx_A L sz) := by
  refine hx_met (lv := [(0, .ref x), (1, .int i1), (2, .int i2), (3, .int i3), (4, .int i4)]) (by decide +kernel) rfl (Nat.le_of_ble_eq_true rfl) rfl ?_
  intro p e s m below meth c hx hb hml hr hlk hts0 hown hin hsz hW ls hl
  have hts : ∀ w ∈ hx_all, w.before _ s = true := fun w hw => hts0 w (List.mem_cons_of_mem _ hw)
  have hown : s.vm.findClass "SmallCourt" = some m.cls := hown
  have hM : hx_S T_tb [(2, 11), (2, 12), (9, 13), (19, 0), (20, 0), (21, 0), (46, 0), (47, 0)] L h L h := hx_S.rf
  have b_cn0 := hT.gi gx tt_9 (k := 11) rfl
  rw [f_x_11] at b_cn0
  have b_cn0 : 0 ≤ cn0.toInt ∧ cn0.toInt ≤ 100 := b_cn0
  have b_pn0 := hT.gi gx tt_9 (k := 8) rfl
  rw [f_x_8] at b_pn0
  have b_pn0 : 0 ≤ pn0.toInt ∧ pn0.toInt ≤ 40 := b_pn0
  have b_m0 := hT.gi gx tt_9 (k := 13) rfl
  rw [f_x_13] at b_m0
  have b_m0 : 0 ≤ m0.toInt ∧ m0.toInt ≤ 100 := b_m0
  have b_nw0 := hT.gi gx tt_9 (k := 2) rfl
  rw [f_x_2] at b_nw0
  have b_nw0 : 0 ≤ nw0.toInt ∧ nw0.toInt ≤ 7999 := b_nw0
  have b_ln0 := hT.gi gqb tt_1 (k := 0) rfl
  rw [f_qb_0] at b_ln0
  have b_ln0 : 0 ≤ ln0.toInt ∧ ln0.toInt ≤ 400 := b_ln0
  refine lv_aload_n hx hb dX9_hear_0 rfl (lv_at hl 0 rfl) ?_
  refine lv_iload_n hx hb dX9_hear_1 rfl (lv_at hl 1 rfl) ?_
  have hTo := hT
  refine hx_goq (hx_runV (As := [.int i1]) (rest := []) ⟨hx, hb, hml, hown, hts⟩ hW gx tt_9 (T := TX9) (N := 20) rfl (t_X9_claimAt_2 l dC dI dA L h s.heap.size x i1 hT gx cn0 f_x_11 qc gqc f_x_10 pf_x_11) (cwV 1 hts (hx_gV kw_810 kw_807 kw_809 kw_25 kw_94) rfl rfl rfl (by decide +kernel) ⟨Nat.le_of_ble_eq_true rfl, Nat.le_of_ble_eq_true rfl⟩) rfl hl.1 rfl (Nat.le_of_ble_eq_true rfl) dX9_hear_2 ⟨Nat.le_of_ble_eq_true rfl, Nat.le_of_ble_eq_true rfl⟩) hW (fun r_3 L_1 h_2 H locs p_4 hW => ?_)
  obtain ⟨hr_5, hT, hs⟩ := p_4
  replace hT : hx_T T_tb L_1 h_2 := hT
  replace hs : hx_S T_tb [] L h L_1 h_2 := hs
  replace f_x_7 := (hs.o gx trivial rfl).2.trans f_x_7
  replace f_x_10 := (hs.o gx trivial rfl).2.trans f_x_10
  replace f_x_12 := (hs.o gx trivial rfl).2.trans f_x_12
  replace f_x_9 := (hs.o gx trivial rfl).2.trans f_x_9
  replace f_x_15 := (hs.o gx trivial rfl).2.trans f_x_15
  replace f_x_11 := (hs.o gx trivial rfl).1.trans f_x_11
  replace f_x_8 := (hs.o gx trivial rfl).1.trans f_x_8
  replace f_x_13 := (hs.o gx trivial rfl).1.trans f_x_13
  replace f_x_2 := (hs.o gx trivial rfl).1.trans f_x_2
  replace pf_x_8 : ∀ j : Nat, (j : Int) < (h_2.2.1 x 8).toInt → h_2.2.2 qp j ≠ none := by
    intro j hj; rw [(hs.o gx trivial rfl).1] at hj; rw [(hs.a gqp rfl j).2]; exact pf_x_8 j hj
  replace pf_x_11 : ∀ j : Nat, (j : Int) < (h_2.2.1 x 11).toInt → h_2.2.2 qc j ≠ none := by
    intro j hj; rw [(hs.o gx trivial rfl).1] at hj; rw [(hs.a gqc rfl j).2]; exact pf_x_11 j hj
  replace pf_x_13 : ∀ j : Nat, (j : Int) < (h_2.2.1 x 13).toInt → h_2.2.2 qh j ≠ none := by
    intro j hj; rw [(hs.o gx trivial rfl).1] at hj; rw [(hs.a gqh rfl j).2]; exact pf_x_13 j hj
  replace cl_qp_7 : hx_col 40 h_2 qp 7 = ddf := (hx_col_S hs hTo gqp tt_44 tt_4 rfl rfl).trans cl_qp_7
  replace cl_qp_8 : hx_col 40 h_2 qp 8 = jjf := (hx_col_S hs hTo gqp tt_44 tt_4 rfl rfl).trans cl_qp_8
  replace cl_qp_2 : hx_col 40 h_2 qp 2 = kkf := (hx_col_S hs hTo gqp tt_44 tt_4 rfl rfl).trans cl_qp_2
  replace cl_qp_1 : hx_col 40 h_2 qp 1 = bnf := (hx_col_S hs hTo gqp tt_44 tt_4 rfl rfl).trans cl_qp_1
  replace cl_qc_10 : hx_col 100 h_2 qc 10 = fof := (hx_col_S hs hTo gqc tt_45 tt_2 rfl rfl).trans cl_qc_10
  replace cl_qc_11 : hx_col 100 h_2 qc 11 = hrf := (hx_col_S hs hTo gqc tt_45 tt_2 rfl rfl).trans cl_qc_11
  replace cl_qc_12 : hx_col 100 h_2 qc 12 = udf := (hx_col_S hs hTo gqc tt_45 tt_2 rfl rfl).trans cl_qc_12
  replace cl_qc_6 : hx_col 100 h_2 qc 6 = smf := (hx_col_S hs hTo gqc tt_45 tt_2 rfl rfl).trans cl_qc_6
  replace cl_qc_7 : hx_col 100 h_2 qc 7 = frf := (hx_col_S hs hTo gqc tt_45 tt_2 rfl rfl).trans cl_qc_7
  replace cl_qc_8 : hx_col 100 h_2 qc 8 = flf := (hx_col_S hs hTo gqc tt_45 tt_2 rfl rfl).trans cl_qc_8
  replace nu_qp : hx_num 40 h_2 qp 0 (pn0.toInt) := hx_num_S hs hTo gqp tt_44 tt_4 rfl rfl nu_qp
  replace nu_qc : hx_num 100 h_2 qc 0 (cn0.toInt) := hx_num_S hs hTo gqc tt_45 tt_2 rfl rfl nu_qc
  replace hDF : hw_DF h_2 qc qp 2 agf cn0.toInt := hw_DF_S hs hTo gqc gqp tt_45 tt_2 rfl rfl rfl hDF
  replace hDP : hw_DF h_2 qc qp 1 byf cn0.toInt := hw_DF_S hs hTo gqc gqp tt_45 tt_2 rfl rfl rfl hDP
  replace hAC : hv_AC h_2 qc plf cn0.toInt A := hv_AC_S hs hTo gqc tt_45 tt_2 rfl tt_0 rfl rfl rfl rfl rfl rfl rfl hAC
  replace hFX : hv_FX 8 4 h_2 qc cF cn0.toInt := hv_FX_S hs hTo gqc tt_45 tt_2 rfl rfl rfl rfl hFX
  replace hBX : hv_FX 3 5 h_2 qc bF cn0.toInt := hv_FX_S hs hTo gqc tt_45 tt_2 rfl rfl rfl rfl hBX
  replace hHL : hv_HL h_2 qh qc hof m0.toInt cn0.toInt := hv_HL_S hs gqh gqc rfl rfl hHL
  replace af_qtk : h_2.2.1 qtk = tf := (funext fun j => (hs.a (gqtk.S hM) rfl j).1).trans af_qtk
  replace af_qfi : h_2.2.1 qfi = fi0 := (funext fun j => (hs.a (gqfi.S hM) rfl j).1).trans af_qfi
  replace hM := hM.tr (hs.mono (by decide))
  replace gx := gx.S hs
  replace gqp := gqp.S hs
  replace gqc := gqc.S hs
  replace gqh := gqh.S hs
  obtain ⟨hr_5, hr_5B⟩ := hr_5
  have hr_5 : ∀ q, r_3 = some q → hx_g L_1 h_2 q 2 := hr_5
  rcases r_3 with _ | q_6
  · skip
    have k_7 : i1.toInt < 0 ∨ cn0.toInt ≤ i1.toInt := by
      rcases hr_5B with ⟨_, z⟩ | ⟨_, _, q, z, _⟩
      · exact z
      · cases z
    refine lv_astoreN (lv' := [(5, .null), (0, .ref x), (1, .int i1), (2, .int i2), (3, .int i3), (4, .int i4)]) hx hb dX9_hear_5 hl (by decide) rfl (fun ls hl => ?_)
    refine lv_aloadN hx hb dX9_hear_7 (lv_at hl 0 rfl) ?_
    refine lv_ifnullN (tgt := 66) hx hb dX9_hear_9 (by decide) ?_
    refine lv_iconst (v := -1) hx hb dX9_hear_66 (by decide) ?_
    exact hx_reti hx hb hr hlk hW ⟨⟨m0, hrf, udf, f_x_13, cl_qc_11, cl_qc_12, ⟨cF, bF, hof, Or.inl ⟨by decide, (fun hc => by have h1 := hc.1; omega), rfl, rfl, rfl, rfl⟩, hFX, hBX, hHL, Or.inl ⟨by decide, rfl, rfl⟩⟩⟩, hT, hM, pf_x_13⟩ dX9_hear_67
  · have gq_6 := hr_5 _ rfl
    have k_8 : 0 ≤ i1.toInt ∧ i1.toInt < cn0.toInt ∧ h_2.2.2 qc i1.toNatClampNeg = some q_6 := by
      rcases hr_5B with ⟨z, _⟩ | ⟨z1, z2, q, z3, z4⟩
      · cases z
      · cases z3; exact ⟨z1, z2, z4⟩
    have fo_9 := k_8.2.2
    have k_8 : 0 ≤ i1.toInt ∧ i1.toInt < cn0.toInt := ⟨k_8.1, k_8.2.1⟩
    refine lv_astore (lv' := [(5, .ref q_6), (0, .ref x), (1, .int i1), (2, .int i2), (3, .int i3), (4, .int i4)]) hx hb dX9_hear_5 hl (by decide) rfl (fun ls hl => ?_)
    refine lv_aload hx hb dX9_hear_7 (lv_at hl 0 rfl) ?_
    refine lv_ifnull hx hb dX9_hear_9 ?_
    refine lv_aload hx hb dX9_hear_12 (lv_at hl 0 rfl) ?_
    refine hx_geti hx hb hts hC_2 hown hW hT gq_6 tt_2 10 (by decide) rfl kw_747 ⟨rfl, rfl, rfl⟩ dX9_hear_14 (fun x_10 ex_10 lx_10 ux_10 => ?_)
    have fx_10 := ex_10.symm
    have cx_10 : x_10 = fof i1.toNatClampNeg := by rw [ex_10, ← cl_qc_10]; exact (hx_col_at fo_9 (by unfold Int32.toNatClampNeg; omega)).symm
    refine lv_iconst (v := -1) hx hb dX9_hear_17 (by decide) ?_
    refine hb_icmp_eq (zx := x_10.toInt) (zy := (-1)) (tgt := 66) hx hb rfl (by decide) dX9_hear_18 (by decide) (fun c_11 => ?_) (fun c_11 => ?_)
    · skip
      refine lv_iconst (v := -1) hx hb dX9_hear_66 (by decide) ?_
      exact hx_reti hx hb hr hlk hW ⟨⟨m0, hrf, udf, f_x_13, cl_qc_11, cl_qc_12, ⟨cF, bF, hof, Or.inl ⟨by decide, (fun hc => by have h1 := hc.2.1; rw [show fof i1.toInt.toNat = x_10 from cx_10.symm] at h1; omega), rfl, rfl, rfl, rfl⟩, hFX, hBX, hHL, Or.inl ⟨by decide, rfl, rfl⟩⟩⟩, hT, hM, pf_x_13⟩ dX9_hear_67
    · skip
      refine lv_aload hx hb dX9_hear_21 (lv_at hl 0 rfl) ?_
      refine hx_geti hx hb hts hC_2 hown hW hT gq_6 tt_2 11 (by decide) rfl kw_749 ⟨rfl, rfl, rfl⟩ dX9_hear_23 (fun x_12 ex_12 lx_12 ux_12 => ?_)
      have fx_12 := ex_12.symm
      have cx_12 : x_12 = hrf i1.toNatClampNeg := by rw [ex_12, ← cl_qc_11]; exact (hx_col_at fo_9 (by unfold Int32.toNatClampNeg; omega)).symm
      refine lv_iconst (v := -1) hx hb dX9_hear_26 (by decide) ?_
      refine hb_icmp_ne (zx := x_12.toInt) (zy := (-1)) (tgt := 66) hx hb rfl (by decide) dX9_hear_27 (by decide) (fun c_13 => ?_) (fun c_13 => ?_)
      · skip
        refine lv_iconst (v := -1) hx hb dX9_hear_66 (by decide) ?_
        exact hx_reti hx hb hr hlk hW ⟨⟨m0, hrf, udf, f_x_13, cl_qc_11, cl_qc_12, ⟨cF, bF, hof, Or.inl ⟨by decide, (fun hc => by have h1 := hc.2.2.1; rw [show hrf i1.toInt.toNat = x_12 from cx_12.symm] at h1; omega), rfl, rfl, rfl, rfl⟩, hFX, hBX, hHL, Or.inl ⟨by decide, rfl, rfl⟩⟩⟩, hT, hM, pf_x_13⟩ dX9_hear_67
      · skip
        refine lv_aload hx hb dX9_hear_30 (lv_at hl 0 rfl) ?_
        refine hx_getn hx hb hts hC_2 hown hW hT gq_6 tt_2 2 (by decide) rfl kw_733 ⟨rfl, rfl, rfl⟩ dX9_hear_32 (fun q_14 fq_14 gq_14 => ?_)
        obtain ⟨dAq_14, dBq_14, dCq_14⟩ := hDF i1.toNatClampNeg (by unfold Int32.toNatClampNeg; omega) (by unfold Int32.toNatClampNeg; omega) _ _ fo_9 fq_14
        have dAq_14 : 0 ≤ (agf i1.toNatClampNeg).toInt := dAq_14
        have dBq_14 : (agf i1.toNatClampNeg).toInt < 40 := dBq_14
        have dUq_14 : 0 ≤ (agf i1.toInt.toNat).toInt ∧ (agf i1.toInt.toNat).toInt < 40 := ⟨dAq_14, dBq_14⟩
        have eoq_14 : h_2.2.2 qp (agf i1.toNatClampNeg).toNatClampNeg = some q_14 := dCq_14
        refine hx_geti hx hb hts hC_4 hown hW hT gq_14 tt_4 7 (by decide) rfl kw_623 ⟨rfl, rfl, rfl⟩ dX9_hear_35 (fun x_15 ex_15 lx_15 ux_15 => ?_)
        have fx_15 := ex_15.symm
        have cx_15 : x_15 = ddf (agf i1.toNatClampNeg).toNatClampNeg := by rw [ex_15, ← cl_qp_7]; exact (hx_col_at eoq_14 (by unfold Int32.toNatClampNeg; omega)).symm
        refine hb_if_ne (zx := x_15.toInt) (tgt := 66) hx hb rfl dX9_hear_38 (by decide) (fun c_16 => ?_) (fun c_16 => ?_)
        · skip
          refine lv_iconst (v := -1) hx hb dX9_hear_66 (by decide) ?_
          exact hx_reti hx hb hr hlk hW ⟨⟨m0, hrf, udf, f_x_13, cl_qc_11, cl_qc_12, ⟨cF, bF, hof, Or.inl ⟨by decide, (fun hc => by have h1 := hc.2.2.2.1; rw [show ddf (agf i1.toInt.toNat).toInt.toNat = x_15 from cx_15.symm] at h1; omega), rfl, rfl, rfl, rfl⟩, hFX, hBX, hHL, Or.inl ⟨by decide, rfl, rfl⟩⟩⟩, hT, hM, pf_x_13⟩ dX9_hear_67
        · skip
          refine lv_iload hx hb dX9_hear_41 (lv_at hl 5 rfl) ?_
          refine hb_if_lt (zx := i4.toInt) (tgt := 66) hx hb rfl dX9_hear_43 (by decide) (fun c_17 => ?_) (fun c_17 => ?_)
          · skip
            refine lv_iconst (v := -1) hx hb dX9_hear_66 (by decide) ?_
            exact hx_reti hx hb hr hlk hW ⟨⟨m0, hrf, udf, f_x_13, cl_qc_11, cl_qc_12, ⟨cF, bF, hof, Or.inl ⟨by decide, (fun hc => by have h1 := hc.2.2.2.2.1; omega), rfl, rfl, rfl, rfl⟩, hFX, hBX, hHL, Or.inl ⟨by decide, rfl, rfl⟩⟩⟩, hT, hM, pf_x_13⟩ dX9_hear_67
          · skip
            have hlt := hx_hear_lt hHC (by omega) (by omega) cx_12 (by omega)
            refine lv_aload_n hx hb dX9_hear_46 rfl (lv_at hl 1 rfl) ?_
            refine hk_geti hx hb hts hC_9 hown hW gx tt_9 13 (by decide) rfl kw_377 ⟨rfl, rfl, rfl⟩ f_x_13 dX9_hear_47 ?_
            refine lv_bipush (v := 100) hx hb dX9_hear_50 (by decide) ?_
            refine hb_icmp_ge (zx := m0.toInt) (zy := 100) (tgt := 66) hx hb rfl (by decide) dX9_hear_52 (by decide) (fun c_18 => ?_) (fun c_18 => ?_)
            · skip
              refine lv_iconst (v := -1) hx hb dX9_hear_66 (by decide) ?_
              exact hx_reti hx hb hr hlk hW ⟨⟨m0, hrf, udf, f_x_13, cl_qc_11, cl_qc_12, ⟨cF, bF, hof, Or.inl ⟨by decide, (fun hc => by omega), rfl, rfl, rfl, rfl⟩, hFX, hBX, hHL, Or.inl ⟨by decide, rfl, rfl⟩⟩⟩, hT, hM, pf_x_13⟩ dX9_hear_67
            · skip
              refine lv_aload_n hx hb dX9_hear_55 rfl (lv_at hl 1 rfl) ?_
              refine lv_aload hx hb dX9_hear_56 (lv_at hl 0 rfl) ?_
              refine lv_iload hx hb dX9_hear_58 (lv_at hl 5 rfl) ?_
              have hTo := hT
              refine hx_goi (hx_runV (As := [.ref q_6, .int i4]) (rest := []) ⟨hx, hb, hml, hown, hts⟩ hW gx tt_9 (T := TX9) (N := 20) rfl (t_X9_drawBench_v l dC dI dA L_1 h_2 H.size x q_6 i4 hT gx gq_6 qp gqp f_x_7 qc gqc f_x_10 qfi (gqfi.S hM) f_x_15 i1 fo_9 ⟨by omega, by omega⟩ fi0 af_qfi cn0 f_x_11 pn0 f_x_8 ddf cl_qp_7 jjf cl_qp_8 kkf cl_qp_2 nu_qp agf byf hDF hDP (by omega) (by omega) bF hBX pf_x_8) (cwV 2 hts (hx_gV kw_818 kw_815 kw_817 kw_26 kw_94) rfl rfl rfl (by decide +kernel) ⟨Nat.le_of_ble_eq_true rfl, Nat.le_of_ble_eq_true rfl⟩) rfl hl.1 rfl (Nat.le_of_ble_eq_true rfl) dX9_hear_60 ⟨Nat.le_of_ble_eq_true rfl, Nat.le_of_ble_eq_true rfl⟩) hW (fun r_21 L_19 h_20 H locs p_22 hW => ?_)
              obtain ⟨hr_23, hT, hs⟩ := p_22
              replace hT : hx_T T_tb L_19 h_20 := hT
              replace hs : hx_S T_tb [(21, 0), (47, 0)] L_1 h_2 L_19 h_20 := hs
              replace f_x_7 := (hs.o gx trivial rfl).2.trans f_x_7
              replace f_x_10 := (hs.o gx trivial rfl).2.trans f_x_10
              replace f_x_12 := (hs.o gx trivial rfl).2.trans f_x_12
              replace f_x_9 := (hs.o gx trivial rfl).2.trans f_x_9
              replace f_x_15 := (hs.o gx trivial rfl).2.trans f_x_15
              replace f_x_11 := (hs.o gx trivial rfl).1.trans f_x_11
              replace f_x_8 := (hs.o gx trivial rfl).1.trans f_x_8
              replace f_x_13 := (hs.o gx trivial rfl).1.trans f_x_13
              replace f_x_2 := (hs.o gx trivial rfl).1.trans f_x_2
              replace fx_10 := (hs.o gq_6 trivial rfl).1.trans fx_10
              replace fx_12 := (hs.o gq_6 trivial rfl).1.trans fx_12
              replace fq_14 := (hs.o gq_6 trivial rfl).2.trans fq_14
              replace fx_15 := (hs.o gq_14 trivial rfl).1.trans fx_15
              replace pf_x_8 : ∀ j : Nat, (j : Int) < (h_20.2.1 x 8).toInt → h_20.2.2 qp j ≠ none := by
                intro j hj; rw [(hs.o gx trivial rfl).1] at hj; rw [(hs.a gqp rfl j).2]; exact pf_x_8 j hj
              replace pf_x_11 : ∀ j : Nat, (j : Int) < (h_20.2.1 x 11).toInt → h_20.2.2 qc j ≠ none := by
                intro j hj; rw [(hs.o gx trivial rfl).1] at hj; rw [(hs.a gqc rfl j).2]; exact pf_x_11 j hj
              replace pf_x_13 : ∀ j : Nat, (j : Int) < (h_20.2.1 x 13).toInt → h_20.2.2 qh j ≠ none := by
                intro j hj; rw [(hs.o gx trivial rfl).1] at hj; rw [(hs.a gqh rfl j).2]; exact pf_x_13 j hj
              replace cl_qp_7 : hx_col 40 h_20 qp 7 = ddf := (hx_col_S hs hTo gqp tt_44 tt_4 rfl rfl).trans cl_qp_7
              replace cl_qp_8 : hx_col 40 h_20 qp 8 = jjf := (hx_col_S hs hTo gqp tt_44 tt_4 rfl rfl).trans cl_qp_8
              replace cl_qp_2 : hx_col 40 h_20 qp 2 = kkf := (hx_col_S hs hTo gqp tt_44 tt_4 rfl rfl).trans cl_qp_2
              replace cl_qp_1 : hx_col 40 h_20 qp 1 = bnf := (hx_col_S hs hTo gqp tt_44 tt_4 rfl rfl).trans cl_qp_1
              replace cl_qc_10 : hx_col 100 h_20 qc 10 = fof := (hx_col_S hs hTo gqc tt_45 tt_2 rfl rfl).trans cl_qc_10
              replace cl_qc_11 : hx_col 100 h_20 qc 11 = hrf := (hx_col_S hs hTo gqc tt_45 tt_2 rfl rfl).trans cl_qc_11
              replace cl_qc_12 : hx_col 100 h_20 qc 12 = udf := (hx_col_S hs hTo gqc tt_45 tt_2 rfl rfl).trans cl_qc_12
              replace cl_qc_6 : hx_col 100 h_20 qc 6 = smf := (hx_col_S hs hTo gqc tt_45 tt_2 rfl rfl).trans cl_qc_6
              replace cl_qc_7 : hx_col 100 h_20 qc 7 = frf := (hx_col_S hs hTo gqc tt_45 tt_2 rfl rfl).trans cl_qc_7
              replace cl_qc_8 : hx_col 100 h_20 qc 8 = flf := (hx_col_S hs hTo gqc tt_45 tt_2 rfl rfl).trans cl_qc_8
              replace nu_qp : hx_num 40 h_20 qp 0 (pn0.toInt) := hx_num_S hs hTo gqp tt_44 tt_4 rfl rfl nu_qp
              replace nu_qc : hx_num 100 h_20 qc 0 (cn0.toInt) := hx_num_S hs hTo gqc tt_45 tt_2 rfl rfl nu_qc
              replace hDF : hw_DF h_20 qc qp 2 agf cn0.toInt := hw_DF_S hs hTo gqc gqp tt_45 tt_2 rfl rfl rfl hDF
              replace hDP : hw_DF h_20 qc qp 1 byf cn0.toInt := hw_DF_S hs hTo gqc gqp tt_45 tt_2 rfl rfl rfl hDP
              replace hAC : hv_AC h_20 qc plf cn0.toInt A := hv_AC_S hs hTo gqc tt_45 tt_2 rfl tt_0 rfl rfl rfl rfl rfl rfl rfl hAC
              replace hFX : hv_FX 8 4 h_20 qc cF cn0.toInt := hv_FX_S hs hTo gqc tt_45 tt_2 rfl rfl rfl rfl hFX
              replace hHL : hv_HL h_20 qh qc hof m0.toInt cn0.toInt := hv_HL_S hs gqh gqc rfl rfl hHL
              replace fo_9 := (hs.a gqc rfl _).2.trans fo_9
              replace eoq_14 := (hs.a gqp rfl _).2.trans eoq_14
              replace af_qtk : h_20.2.1 qtk = tf := (funext fun j => (hs.a (gqtk.S hM) rfl j).1).trans af_qtk
              replace hM := hM.tr (hs.mono (by decide))
              replace gx := gx.S hs
              replace gqp := gqp.S hs
              replace gqc := gqc.S hs
              replace gqh := gqh.S hs
              replace gq_6 := gq_6.S hs
              replace gq_14 := gq_14.S hs
              refine hb_if_ne (zx := r_21.toInt) (tgt := 68) hx hb rfl dX9_hear_63 (by decide) (fun c_24 => ?_) (fun c_24 => ?_)
              · skip
                obtain ⟨_, hN3, b0_9, b1_9, b2_9, bF9, hBN9, hBe9, hBX9⟩ := hr_23.resolve_right (fun z => by have := z.1; omega)
                have hBX9 : hv_FX 3 5 h_20 qc bF9 cn0.toInt := hBX9
                refine lv_aload hx hb dX9_hear_68 (lv_at hl 0 rfl) ?_
                refine hx_getn hx hb hts hC_2 hown hW hT gq_6 tt_2 1 (by decide) rfl kw_728 ⟨rfl, rfl, rfl⟩ dX9_hear_70 (fun q_25 fq_25 gq_25 => ?_)
                obtain ⟨dAq_25, dBq_25, dCq_25⟩ := hDP i1.toNatClampNeg (by unfold Int32.toNatClampNeg; omega) (by unfold Int32.toNatClampNeg; omega) _ _ fo_9 fq_25
                have dAq_25 : 0 ≤ (byf i1.toNatClampNeg).toInt := dAq_25
                have dBq_25 : (byf i1.toNatClampNeg).toInt < 40 := dBq_25
                have dUq_25 : 0 ≤ (byf i1.toInt.toNat).toInt ∧ (byf i1.toInt.toNat).toInt < 40 := ⟨dAq_25, dBq_25⟩
                have eoq_25 : h_20.2.2 qp (byf i1.toNatClampNeg).toNatClampNeg = some q_25 := dCq_25
                refine hx_geti hx hb hts hC_4 hown hW hT gq_25 tt_4 0 (by decide) rfl kw_612 ⟨rfl, rfl, rfl⟩ dX9_hear_73 (fun x_26 ex_26 lx_26 ux_26 => ?_)
                have fx_26 := ex_26.symm
                have hpn9 : x_26 = byf i1.toNatClampNeg := ex_26.trans (hx_num_at nu_qp eoq_25 (by omega) (by omega))
                refine lv_istore (lv' := [(6, .int x_26), (5, .ref q_6), (0, .ref x), (1, .int i1), (2, .int i2), (3, .int i3), (4, .int i4)]) hx hb dX9_hear_76 hl (by decide) rfl (fun ls hl => ?_)
                refine lv_aload hx hb dX9_hear_78 (lv_at hl 1 rfl) ?_
                refine hk_getr hx hb hts hC_2 hown hW gq_6 tt_2 2 (by decide) rfl kw_733 ⟨rfl, rfl, rfl⟩ fq_14 dX9_hear_80 ?_
                refine hx_geti hx hb hts hC_4 hown hW hT gq_14 tt_4 0 (by decide) rfl kw_612 ⟨rfl, rfl, rfl⟩ dX9_hear_83 (fun x_27 ex_27 lx_27 ux_27 => ?_)
                have fx_27 := ex_27.symm
                have hqn9 : x_27 = agf i1.toNatClampNeg := ex_27.trans (hx_num_at nu_qp eoq_14 (by omega) (by omega))
                refine lv_istore (lv' := [(7, .int x_27), (6, .int x_26), (5, .ref q_6), (0, .ref x), (1, .int i1), (2, .int i2), (3, .int i3), (4, .int i4)]) hx hb dX9_hear_86 hl (by decide) rfl (fun ls hl => ?_)
                refine lv_aload hx hb dX9_hear_88 (lv_at hl 2 rfl) ?_
                refine hx_getn hx hb hts hC_2 hown hW hT gq_6 tt_2 4 (by decide) rfl kw_738 ⟨rfl, rfl, rfl⟩ dX9_hear_90 (fun q_28 fq_28 gq_28 => ?_)
                refine lv_iconst (v := 0) hx hb dX9_hear_93 (by decide) ?_
                refine lv_iload_n hx hb dX9_hear_94 rfl (lv_at hl 5 rfl) ?_
                have jn_103 : ∀ (xj_29 : Int32) (ls : Array Slot), 0 ≤ xj_29.toInt → xj_29.toInt ≤ 1 → xj_29.toInt = i2.toInt → lv_has ls 8 [(7, .int x_27), (6, .int x_26), (5, .ref q_6), (0, .ref x), (1, .int i1), (2, .int i2), (3, .int i3), (4, .int i4)] → W p l e ({ frames := 4, cells := 0, slots := 0, locals := 92 }) s m ([.ref x, .int i1, .int i2, .int i3, .int i4] : List Value).toArray below meth c H locs 0 0 (MQ below (va_Qi (fun (r : Int32) (u : List Nat × hx_h) => (∃ (m1 : Int32) (hrf1 : Nat → Int32) (udf1 : Nat → Int32), u.2.2.1 x 13 = m1 ∧ hx_col 100 u.2 qc 11 = hrf1 ∧ hx_col 100 u.2 qc 12 = udf1 ∧ (∃ cF1 bF1 hof1 : Nat → Int32, hv_HS (hv_HC fof hrf ddf agf cn0.toInt i1.toInt i4.toInt ((hv_fs jjf ddf kkf (byf i1.toNatClampNeg).toNatClampNeg (agf i1.toNatClampNeg).toNatClampNeg pn0.toInt.toNat).length : Int)) i1 nw0 m0 m1 r (hv_jg (hv_F0 cF1 (8 * i1.toNatClampNeg)) (A (plf i1.toNatClampNeg).toInt.toNat).2.1 (A (plf i1.toNatClampNeg).toInt.toNat).2.2 (frf i1.toNatClampNeg).toInt (bnf (agf i1.toNatClampNeg).toNatClampNeg).toInt (smf i1.toNatClampNeg).toInt (hv_sm byf agf flf smf (byf i1.toNatClampNeg).toInt (agf i1.toNatClampNeg).toInt ((flf i1.toNatClampNeg).toInt - (A (plf i1.toNatClampNeg).toInt.toNat).2.1 1) cn0.toInt.toNat)) hrf hrf1 udf udf1 hof hof1 ∧ hv_FX 8 4 u.2 qc cF1 cn0.toInt ∧ hv_FX 3 5 u.2 qc bF1 cn0.toInt ∧ hv_HL u.2 qh qc hof1 m1.toInt cn0.toInt ∧ ((r.toInt = -1 ∧ cF1 = cF ∧ bF1 = bF) ∨ (r.toInt ≠ -1 ∧ hv_CU cF cF1 i1.toNatClampNeg i2 i3 (hy_bs of wf df kf sf (byf i1.toNatClampNeg) (agf i1.toNatClampNeg) (flf i1.toNatClampNeg) ln0.toInt.toNat) (-(hy_bs of wf df kf sf (agf i1.toNatClampNeg) (byf i1.toNatClampNeg) (flf i1.toNatClampNeg) ln0.toInt.toNat)) (hy_G of wf df kf sf bf (byf i1.toNatClampNeg) (agf i1.toNatClampNeg) (flf i1.toNatClampNeg) ln0.toInt.toNat ln0.toInt.toNat).2 ∧ (∃ b0 b1 b2 : Int32, hv_BN (hv_fs jjf ddf kkf (byf i1.toNatClampNeg).toNatClampNeg (agf i1.toNatClampNeg).toNatClampNeg pn0.toInt.toNat) (i4.toInt % hv_T3 (hv_fs jjf ddf kkf (byf i1.toNatClampNeg).toNatClampNeg (agf i1.toNatClampNeg).toNatClampNeg pn0.toInt.toNat).length) b0 b1 b2 ∧ bF1 = hx_up (hx_up (hx_up bF (0 + 3 * i1.toNatClampNeg) b0) (1 + 3 * i1.toNatClampNeg) b1) (2 + 3 * i1.toNatClampNeg) b2))))) ∧ hx_T T_tb u.1 u.2 ∧ hx_S T_tb [(2, 11), (2, 12), (9, 13), (19, 0), (20, 0), (21, 0), (46, 0), (47, 0)] L h u.1 u.2 ∧ (∀ j : Nat, (j : Int) < (u.2.2.1 x 13).toInt → u.2.2.2 qh j ≠ none)) (hx_E T_tb (P_ty dA) (dC, dI) vwCl (hx_A L sz)) (hx_A L sz)) ([.ref x, .int i1, .int i2, .int i3, .int i4] : List Value).toArray s 0 0 (hx_A L sz)) (F0 m 103 ls [.int xj_29, .int (0 : Int32), .ref q_28]) := by
                  intro xj_29 ls blxj_29 buxj_29 jcxj_29 hl
                  obtain rfl : i2 = xj_29 := Int32.toInt_inj.mp (by omega)
                  have hfO9 := hFX
                  have hTO9 := hT
                  have gcO9 := gqc
                  have gtO9 := gq_28
                  have foO9 := fo_9
                  have ftO9 := fq_28
                  have hTo := hT
                  refine hx_iast hx hb hW hT (hx_S.rf (M := [(20, 0)])) gq_28 tt_20 rfl (by decide) rfl (i32_r _) (List.mem_singleton.mpr rfl) dX9_hear_103 (fun H locs h_30 eh_30 hW hT hs => ?_)
                  replace f_x_7 := (hs.o gx trivial rfl).2.trans f_x_7
                  replace f_x_10 := (hs.o gx trivial rfl).2.trans f_x_10
                  replace f_x_12 := (hs.o gx trivial rfl).2.trans f_x_12
                  replace f_x_9 := (hs.o gx trivial rfl).2.trans f_x_9
                  replace f_x_15 := (hs.o gx trivial rfl).2.trans f_x_15
                  replace f_x_11 := (hs.o gx trivial rfl).1.trans f_x_11
                  replace f_x_8 := (hs.o gx trivial rfl).1.trans f_x_8
                  replace f_x_13 := (hs.o gx trivial rfl).1.trans f_x_13
                  replace f_x_2 := (hs.o gx trivial rfl).1.trans f_x_2
                  replace fx_10 := (hs.o gq_6 trivial rfl).1.trans fx_10
                  replace fx_12 := (hs.o gq_6 trivial rfl).1.trans fx_12
                  replace fq_14 := (hs.o gq_6 trivial rfl).2.trans fq_14
                  replace fx_15 := (hs.o gq_14 trivial rfl).1.trans fx_15
                  replace fq_25 := (hs.o gq_6 trivial rfl).2.trans fq_25
                  replace fx_26 := (hs.o gq_25 trivial rfl).1.trans fx_26
                  replace fx_27 := (hs.o gq_14 trivial rfl).1.trans fx_27
                  replace fq_28 := (hs.o gq_6 trivial rfl).2.trans fq_28
                  replace pf_x_8 : ∀ j : Nat, (j : Int) < (h_30.2.1 x 8).toInt → h_30.2.2 qp j ≠ none := by
                    intro j hj; rw [(hs.o gx trivial rfl).1] at hj; rw [(hs.a gqp rfl j).2]; exact pf_x_8 j hj
                  replace pf_x_11 : ∀ j : Nat, (j : Int) < (h_30.2.1 x 11).toInt → h_30.2.2 qc j ≠ none := by
                    intro j hj; rw [(hs.o gx trivial rfl).1] at hj; rw [(hs.a gqc rfl j).2]; exact pf_x_11 j hj
                  replace pf_x_13 : ∀ j : Nat, (j : Int) < (h_30.2.1 x 13).toInt → h_30.2.2 qh j ≠ none := by
                    intro j hj; rw [(hs.o gx trivial rfl).1] at hj; rw [(hs.a gqh rfl j).2]; exact pf_x_13 j hj
                  replace cl_qp_7 : hx_col 40 h_30 qp 7 = ddf := (hx_col_S hs hTo gqp tt_44 tt_4 rfl rfl).trans cl_qp_7
                  replace cl_qp_8 : hx_col 40 h_30 qp 8 = jjf := (hx_col_S hs hTo gqp tt_44 tt_4 rfl rfl).trans cl_qp_8
                  replace cl_qp_2 : hx_col 40 h_30 qp 2 = kkf := (hx_col_S hs hTo gqp tt_44 tt_4 rfl rfl).trans cl_qp_2
                  replace cl_qp_1 : hx_col 40 h_30 qp 1 = bnf := (hx_col_S hs hTo gqp tt_44 tt_4 rfl rfl).trans cl_qp_1
                  replace cl_qc_10 : hx_col 100 h_30 qc 10 = fof := (hx_col_S hs hTo gqc tt_45 tt_2 rfl rfl).trans cl_qc_10
                  replace cl_qc_11 : hx_col 100 h_30 qc 11 = hrf := (hx_col_S hs hTo gqc tt_45 tt_2 rfl rfl).trans cl_qc_11
                  replace cl_qc_12 : hx_col 100 h_30 qc 12 = udf := (hx_col_S hs hTo gqc tt_45 tt_2 rfl rfl).trans cl_qc_12
                  replace cl_qc_6 : hx_col 100 h_30 qc 6 = smf := (hx_col_S hs hTo gqc tt_45 tt_2 rfl rfl).trans cl_qc_6
                  replace cl_qc_7 : hx_col 100 h_30 qc 7 = frf := (hx_col_S hs hTo gqc tt_45 tt_2 rfl rfl).trans cl_qc_7
                  replace cl_qc_8 : hx_col 100 h_30 qc 8 = flf := (hx_col_S hs hTo gqc tt_45 tt_2 rfl rfl).trans cl_qc_8
                  replace nu_qp : hx_num 40 h_30 qp 0 (pn0.toInt) := hx_num_S hs hTo gqp tt_44 tt_4 rfl rfl nu_qp
                  replace nu_qc : hx_num 100 h_30 qc 0 (cn0.toInt) := hx_num_S hs hTo gqc tt_45 tt_2 rfl rfl nu_qc
                  replace hDF : hw_DF h_30 qc qp 2 agf cn0.toInt := hw_DF_S hs hTo gqc gqp tt_45 tt_2 rfl rfl rfl hDF
                  replace hDP : hw_DF h_30 qc qp 1 byf cn0.toInt := hw_DF_S hs hTo gqc gqp tt_45 tt_2 rfl rfl rfl hDP
                  replace hAC : hv_AC h_30 qc plf cn0.toInt A := hv_AC_S hs hTo gqc tt_45 tt_2 rfl tt_0 rfl rfl rfl rfl rfl rfl rfl hAC
                  replace hHL : hv_HL h_30 qh qc hof m0.toInt cn0.toInt := hv_HL_S hs gqh gqc rfl rfl hHL
                  replace hBX9 : hv_FX 3 5 h_30 qc bF9 cn0.toInt := hv_FX_S hs hTo gqc tt_45 tt_2 rfl rfl rfl rfl hBX9
                  replace fo_9 := (hs.a gqc rfl _).2.trans fo_9
                  replace eoq_14 := (hs.a gqp rfl _).2.trans eoq_14
                  replace eoq_25 := (hs.a gqp rfl _).2.trans eoq_25
                  replace af_qtk : h_30.2.1 qtk = tf := (funext fun j => (hs.a (gqtk.S hM) rfl j).1).trans af_qtk
                  replace hM := hM.tr (hs.mono (by decide))
                  replace gx := gx.S hs
                  replace gqp := gqp.S hs
                  replace gqc := gqc.S hs
                  replace gqh := gqh.S hs
                  replace gq_6 := gq_6.S hs
                  replace gq_14 := gq_14.S hs
                  replace gq_25 := gq_25.S hs
                  replace gq_28 := gq_28.S hs
                  obtain ⟨xF_31, dxF_31⟩ : ∃ g : Nat → Int32, g = hx_up cF ((0 : Int32).toNatClampNeg + 8 * i1.toNatClampNeg) i2 := ⟨_, rfl⟩
                  have nxF_31 : hv_FX 8 4 h_30 qc xF_31 cn0.toInt := by rw [dxF_31]; exact hv_FX_u hfO9 hTO9 gcO9 gtO9 (by decide) tt_45 (by unfold Int32.toNatClampNeg; omega) (by unfold Int32.toNatClampNeg; omega) foO9 ftO9 (by decide) eh_30
                  refine lv_aload hx hb dX9_hear_104 (lv_at hl 2 rfl) ?_
                  refine hk_getr hx hb hts hC_2 hown hW gq_6 tt_2 4 (by decide) rfl kw_738 ⟨rfl, rfl, rfl⟩ fq_28 dX9_hear_106 ?_
                  refine lv_iconst (v := 1) hx hb dX9_hear_109 (by decide) ?_
                  refine lv_iload_n hx hb dX9_hear_110 rfl (lv_at hl 6 rfl) ?_
                  have jn_119 : ∀ (xj_32 : Int32) (ls : Array Slot), 0 ≤ xj_32.toInt → xj_32.toInt ≤ 1 → xj_32.toInt = i3.toInt → lv_has ls 8 [(7, .int x_27), (6, .int x_26), (5, .ref q_6), (0, .ref x), (1, .int i1), (2, .int i2), (3, .int i3), (4, .int i4)] → W p l e ({ frames := 4, cells := 0, slots := 0, locals := 92 }) s m ([.ref x, .int i1, .int i2, .int i3, .int i4] : List Value).toArray below meth c H locs 0 0 (MQ below (va_Qi (fun (r : Int32) (u : List Nat × hx_h) => (∃ (m1 : Int32) (hrf1 : Nat → Int32) (udf1 : Nat → Int32), u.2.2.1 x 13 = m1 ∧ hx_col 100 u.2 qc 11 = hrf1 ∧ hx_col 100 u.2 qc 12 = udf1 ∧ (∃ cF1 bF1 hof1 : Nat → Int32, hv_HS (hv_HC fof hrf ddf agf cn0.toInt i1.toInt i4.toInt ((hv_fs jjf ddf kkf (byf i1.toNatClampNeg).toNatClampNeg (agf i1.toNatClampNeg).toNatClampNeg pn0.toInt.toNat).length : Int)) i1 nw0 m0 m1 r (hv_jg (hv_F0 cF1 (8 * i1.toNatClampNeg)) (A (plf i1.toNatClampNeg).toInt.toNat).2.1 (A (plf i1.toNatClampNeg).toInt.toNat).2.2 (frf i1.toNatClampNeg).toInt (bnf (agf i1.toNatClampNeg).toNatClampNeg).toInt (smf i1.toNatClampNeg).toInt (hv_sm byf agf flf smf (byf i1.toNatClampNeg).toInt (agf i1.toNatClampNeg).toInt ((flf i1.toNatClampNeg).toInt - (A (plf i1.toNatClampNeg).toInt.toNat).2.1 1) cn0.toInt.toNat)) hrf hrf1 udf udf1 hof hof1 ∧ hv_FX 8 4 u.2 qc cF1 cn0.toInt ∧ hv_FX 3 5 u.2 qc bF1 cn0.toInt ∧ hv_HL u.2 qh qc hof1 m1.toInt cn0.toInt ∧ ((r.toInt = -1 ∧ cF1 = cF ∧ bF1 = bF) ∨ (r.toInt ≠ -1 ∧ hv_CU cF cF1 i1.toNatClampNeg i2 i3 (hy_bs of wf df kf sf (byf i1.toNatClampNeg) (agf i1.toNatClampNeg) (flf i1.toNatClampNeg) ln0.toInt.toNat) (-(hy_bs of wf df kf sf (agf i1.toNatClampNeg) (byf i1.toNatClampNeg) (flf i1.toNatClampNeg) ln0.toInt.toNat)) (hy_G of wf df kf sf bf (byf i1.toNatClampNeg) (agf i1.toNatClampNeg) (flf i1.toNatClampNeg) ln0.toInt.toNat ln0.toInt.toNat).2 ∧ (∃ b0 b1 b2 : Int32, hv_BN (hv_fs jjf ddf kkf (byf i1.toNatClampNeg).toNatClampNeg (agf i1.toNatClampNeg).toNatClampNeg pn0.toInt.toNat) (i4.toInt % hv_T3 (hv_fs jjf ddf kkf (byf i1.toNatClampNeg).toNatClampNeg (agf i1.toNatClampNeg).toNatClampNeg pn0.toInt.toNat).length) b0 b1 b2 ∧ bF1 = hx_up (hx_up (hx_up bF (0 + 3 * i1.toNatClampNeg) b0) (1 + 3 * i1.toNatClampNeg) b1) (2 + 3 * i1.toNatClampNeg) b2))))) ∧ hx_T T_tb u.1 u.2 ∧ hx_S T_tb [(2, 11), (2, 12), (9, 13), (19, 0), (20, 0), (21, 0), (46, 0), (47, 0)] L h u.1 u.2 ∧ (∀ j : Nat, (j : Int) < (u.2.2.1 x 13).toInt → u.2.2.2 qh j ≠ none)) (hx_E T_tb (P_ty dA) (dC, dI) vwCl (hx_A L sz)) (hx_A L sz)) ([.ref x, .int i1, .int i2, .int i3, .int i4] : List Value).toArray s 0 0 (hx_A L sz)) (F0 m 119 ls [.int xj_32, .int (1 : Int32), .ref q_28]) := by
                    intro xj_32 ls blxj_32 buxj_32 jcxj_32 hl
                    obtain rfl : i3 = xj_32 := Int32.toInt_inj.mp (by omega)
                    have hfO9 := nxF_31
                    have hTO9 := hT
                    have gcO9 := gqc
                    have gtO9 := gq_28
                    have foO9 := fo_9
                    have ftO9 := fq_28
                    have hTo := hT
                    refine hx_iast hx hb hW hT (hx_S.rf (M := [(20, 0)])) gq_28 tt_20 rfl (by decide) rfl (i32_r _) (List.mem_singleton.mpr rfl) dX9_hear_119 (fun H locs h_33 eh_33 hW hT hs => ?_)
                    replace f_x_7 := (hs.o gx trivial rfl).2.trans f_x_7
                    replace f_x_10 := (hs.o gx trivial rfl).2.trans f_x_10
                    replace f_x_12 := (hs.o gx trivial rfl).2.trans f_x_12
                    replace f_x_9 := (hs.o gx trivial rfl).2.trans f_x_9
                    replace f_x_15 := (hs.o gx trivial rfl).2.trans f_x_15
                    replace f_x_11 := (hs.o gx trivial rfl).1.trans f_x_11
                    replace f_x_8 := (hs.o gx trivial rfl).1.trans f_x_8
                    replace f_x_13 := (hs.o gx trivial rfl).1.trans f_x_13
                    replace f_x_2 := (hs.o gx trivial rfl).1.trans f_x_2
                    replace fx_10 := (hs.o gq_6 trivial rfl).1.trans fx_10
                    replace fx_12 := (hs.o gq_6 trivial rfl).1.trans fx_12
                    replace fq_14 := (hs.o gq_6 trivial rfl).2.trans fq_14
                    replace fx_15 := (hs.o gq_14 trivial rfl).1.trans fx_15
                    replace fq_25 := (hs.o gq_6 trivial rfl).2.trans fq_25
                    replace fx_26 := (hs.o gq_25 trivial rfl).1.trans fx_26
                    replace fx_27 := (hs.o gq_14 trivial rfl).1.trans fx_27
                    replace fq_28 := (hs.o gq_6 trivial rfl).2.trans fq_28
                    replace pf_x_8 : ∀ j : Nat, (j : Int) < (h_33.2.1 x 8).toInt → h_33.2.2 qp j ≠ none := by
                      intro j hj; rw [(hs.o gx trivial rfl).1] at hj; rw [(hs.a gqp rfl j).2]; exact pf_x_8 j hj
                    replace pf_x_11 : ∀ j : Nat, (j : Int) < (h_33.2.1 x 11).toInt → h_33.2.2 qc j ≠ none := by
                      intro j hj; rw [(hs.o gx trivial rfl).1] at hj; rw [(hs.a gqc rfl j).2]; exact pf_x_11 j hj
                    replace pf_x_13 : ∀ j : Nat, (j : Int) < (h_33.2.1 x 13).toInt → h_33.2.2 qh j ≠ none := by
                      intro j hj; rw [(hs.o gx trivial rfl).1] at hj; rw [(hs.a gqh rfl j).2]; exact pf_x_13 j hj
                    replace cl_qp_7 : hx_col 40 h_33 qp 7 = ddf := (hx_col_S hs hTo gqp tt_44 tt_4 rfl rfl).trans cl_qp_7
                    replace cl_qp_8 : hx_col 40 h_33 qp 8 = jjf := (hx_col_S hs hTo gqp tt_44 tt_4 rfl rfl).trans cl_qp_8
                    replace cl_qp_2 : hx_col 40 h_33 qp 2 = kkf := (hx_col_S hs hTo gqp tt_44 tt_4 rfl rfl).trans cl_qp_2
                    replace cl_qp_1 : hx_col 40 h_33 qp 1 = bnf := (hx_col_S hs hTo gqp tt_44 tt_4 rfl rfl).trans cl_qp_1
                    replace cl_qc_10 : hx_col 100 h_33 qc 10 = fof := (hx_col_S hs hTo gqc tt_45 tt_2 rfl rfl).trans cl_qc_10
                    replace cl_qc_11 : hx_col 100 h_33 qc 11 = hrf := (hx_col_S hs hTo gqc tt_45 tt_2 rfl rfl).trans cl_qc_11
                    replace cl_qc_12 : hx_col 100 h_33 qc 12 = udf := (hx_col_S hs hTo gqc tt_45 tt_2 rfl rfl).trans cl_qc_12
                    replace cl_qc_6 : hx_col 100 h_33 qc 6 = smf := (hx_col_S hs hTo gqc tt_45 tt_2 rfl rfl).trans cl_qc_6
                    replace cl_qc_7 : hx_col 100 h_33 qc 7 = frf := (hx_col_S hs hTo gqc tt_45 tt_2 rfl rfl).trans cl_qc_7
                    replace cl_qc_8 : hx_col 100 h_33 qc 8 = flf := (hx_col_S hs hTo gqc tt_45 tt_2 rfl rfl).trans cl_qc_8
                    replace nu_qp : hx_num 40 h_33 qp 0 (pn0.toInt) := hx_num_S hs hTo gqp tt_44 tt_4 rfl rfl nu_qp
                    replace nu_qc : hx_num 100 h_33 qc 0 (cn0.toInt) := hx_num_S hs hTo gqc tt_45 tt_2 rfl rfl nu_qc
                    replace hDF : hw_DF h_33 qc qp 2 agf cn0.toInt := hw_DF_S hs hTo gqc gqp tt_45 tt_2 rfl rfl rfl hDF
                    replace hDP : hw_DF h_33 qc qp 1 byf cn0.toInt := hw_DF_S hs hTo gqc gqp tt_45 tt_2 rfl rfl rfl hDP
                    replace hAC : hv_AC h_33 qc plf cn0.toInt A := hv_AC_S hs hTo gqc tt_45 tt_2 rfl tt_0 rfl rfl rfl rfl rfl rfl rfl hAC
                    replace hHL : hv_HL h_33 qh qc hof m0.toInt cn0.toInt := hv_HL_S hs gqh gqc rfl rfl hHL
                    replace hBX9 : hv_FX 3 5 h_33 qc bF9 cn0.toInt := hv_FX_S hs hTo gqc tt_45 tt_2 rfl rfl rfl rfl hBX9
                    replace fo_9 := (hs.a gqc rfl _).2.trans fo_9
                    replace eoq_14 := (hs.a gqp rfl _).2.trans eoq_14
                    replace eoq_25 := (hs.a gqp rfl _).2.trans eoq_25
                    replace af_qtk : h_33.2.1 qtk = tf := (funext fun j => (hs.a (gqtk.S hM) rfl j).1).trans af_qtk
                    replace hM := hM.tr (hs.mono (by decide))
                    replace gx := gx.S hs
                    replace gqp := gqp.S hs
                    replace gqc := gqc.S hs
                    replace gqh := gqh.S hs
                    replace gq_6 := gq_6.S hs
                    replace gq_14 := gq_14.S hs
                    replace gq_25 := gq_25.S hs
                    replace gq_28 := gq_28.S hs
                    obtain ⟨xF_34, dxF_34⟩ : ∃ g : Nat → Int32, g = hx_up xF_31 ((1 : Int32).toNatClampNeg + 8 * i1.toNatClampNeg) i3 := ⟨_, rfl⟩
                    have nxF_34 : hv_FX 8 4 h_33 qc xF_34 cn0.toInt := by rw [dxF_34]; exact hv_FX_u hfO9 hTO9 gcO9 gtO9 (by decide) tt_45 (by unfold Int32.toNatClampNeg; omega) (by unfold Int32.toNatClampNeg; omega) foO9 ftO9 (by decide) eh_33
                    refine lv_aload hx hb dX9_hear_120 (lv_at hl 2 rfl) ?_
                    refine hk_getr hx hb hts hC_2 hown hW gq_6 tt_2 4 (by decide) rfl kw_738 ⟨rfl, rfl, rfl⟩ fq_28 dX9_hear_122 ?_
                    refine lv_iconst (v := 4) hx hb dX9_hear_125 (by decide) ?_
                    refine lv_aload_n hx hb dX9_hear_126 rfl (lv_at hl 3 rfl) ?_
                    refine hk_getr hx hb hts hC_9 hown hW gx tt_9 9 (by decide) rfl kw_373 ⟨rfl, rfl, rfl⟩ f_x_9 dX9_hear_127 ?_
                    refine lv_iload hx hb dX9_hear_130 (lv_at hl 1 rfl) ?_
                    refine lv_iload hx hb dX9_hear_132 (lv_at hl 0 rfl) ?_
                    refine lv_aload hx hb dX9_hear_134 (lv_at hl 2 rfl) ?_
                    refine hx_geti hx hb hts hC_2 hown hW hT gq_6 tt_2 8 (by decide) rfl kw_743 ⟨rfl, rfl, rfl⟩ dX9_hear_136 (fun x_35 ex_35 lx_35 ux_35 => ?_)
                    have fx_35 := ex_35.symm
                    have cx_35 : x_35 = flf i1.toNatClampNeg := by rw [ex_35, ← cl_qc_8]; exact (hx_col_at fo_9 (by unfold Int32.toNatClampNeg; omega)).symm
                    have hTo := hT
                    have zc_4 : (4 : Int32).toInt = 4 := by decide
                    refine hx_goi (hx_runV (As := [.int x_26, .int x_27, .int x_35]) (rest := [.int (4 : Int32), .ref q_28]) ⟨hx, hb, hml, hown, hts⟩ hW (gqb.S hM) tt_1 (T := TX1) (N := 8) rfl (t_X1_sumWith_2 l dC dI dA L_19 h_33 H.size qb x_26 x_27 x_35 hT (gqb.S hM) qo (gqo.S hM) ((hM.o gqb trivial rfl).2.trans f_qb_1) qwi (gqwi.S hM) ((hM.o gqb trivial rfl).2.trans f_qb_2) qdy (gqdy.S hM) ((hM.o gqb trivial rfl).2.trans f_qb_3) qkd (gqkd.S hM) ((hM.o gqb trivial rfl).2.trans f_qb_4) qsm (gqsm.S hM) ((hM.o gqb trivial rfl).2.trans f_qb_5) of (hx_afS hM gqo rfl af_qo) wf (hx_afS hM gqwi rfl af_qwi) df (hx_afS hM gqdy rfl af_qdy) kf (hx_afS hM gqkd rfl af_qkd) sf (hx_afS hM gqsm rfl af_qsm) ln0 ((hM.o gqb trivial rfl).1.trans f_qb_0)) (cwV 3 hts (hx_gV kw_688 kw_685 kw_686 kw_687 kw_98) rfl rfl rfl (by decide +kernel) ⟨Nat.le_of_ble_eq_true rfl, Nat.le_of_ble_eq_true rfl⟩) rfl hl.1 rfl (Nat.le_of_ble_eq_true rfl) dX9_hear_139 ⟨Nat.le_of_ble_eq_true rfl, Nat.le_of_ble_eq_true rfl⟩) hW (fun r_38 L_36 h_37 H locs p_39 hW => ?_)
                    obtain ⟨hr_40, hT, hs⟩ := p_39
                    replace hT : hx_T T_tb L_36 h_37 := hT
                    replace hs : hx_S T_tb [] L_19 h_33 L_36 h_37 := hs
                    replace f_x_7 := (hs.o gx trivial rfl).2.trans f_x_7
                    replace f_x_10 := (hs.o gx trivial rfl).2.trans f_x_10
                    replace f_x_12 := (hs.o gx trivial rfl).2.trans f_x_12
                    replace f_x_9 := (hs.o gx trivial rfl).2.trans f_x_9
                    replace f_x_15 := (hs.o gx trivial rfl).2.trans f_x_15
                    replace f_x_11 := (hs.o gx trivial rfl).1.trans f_x_11
                    replace f_x_8 := (hs.o gx trivial rfl).1.trans f_x_8
                    replace f_x_13 := (hs.o gx trivial rfl).1.trans f_x_13
                    replace f_x_2 := (hs.o gx trivial rfl).1.trans f_x_2
                    replace fx_10 := (hs.o gq_6 trivial rfl).1.trans fx_10
                    replace fx_12 := (hs.o gq_6 trivial rfl).1.trans fx_12
                    replace fq_14 := (hs.o gq_6 trivial rfl).2.trans fq_14
                    replace fx_15 := (hs.o gq_14 trivial rfl).1.trans fx_15
                    replace fq_25 := (hs.o gq_6 trivial rfl).2.trans fq_25
                    replace fx_26 := (hs.o gq_25 trivial rfl).1.trans fx_26
                    replace fx_27 := (hs.o gq_14 trivial rfl).1.trans fx_27
                    replace fq_28 := (hs.o gq_6 trivial rfl).2.trans fq_28
                    replace fx_35 := (hs.o gq_6 trivial rfl).1.trans fx_35
                    replace pf_x_8 : ∀ j : Nat, (j : Int) < (h_37.2.1 x 8).toInt → h_37.2.2 qp j ≠ none := by
                      intro j hj; rw [(hs.o gx trivial rfl).1] at hj; rw [(hs.a gqp rfl j).2]; exact pf_x_8 j hj
                    replace pf_x_11 : ∀ j : Nat, (j : Int) < (h_37.2.1 x 11).toInt → h_37.2.2 qc j ≠ none := by
                      intro j hj; rw [(hs.o gx trivial rfl).1] at hj; rw [(hs.a gqc rfl j).2]; exact pf_x_11 j hj
                    replace pf_x_13 : ∀ j : Nat, (j : Int) < (h_37.2.1 x 13).toInt → h_37.2.2 qh j ≠ none := by
                      intro j hj; rw [(hs.o gx trivial rfl).1] at hj; rw [(hs.a gqh rfl j).2]; exact pf_x_13 j hj
                    replace cl_qp_7 : hx_col 40 h_37 qp 7 = ddf := (hx_col_S hs hTo gqp tt_44 tt_4 rfl rfl).trans cl_qp_7
                    replace cl_qp_8 : hx_col 40 h_37 qp 8 = jjf := (hx_col_S hs hTo gqp tt_44 tt_4 rfl rfl).trans cl_qp_8
                    replace cl_qp_2 : hx_col 40 h_37 qp 2 = kkf := (hx_col_S hs hTo gqp tt_44 tt_4 rfl rfl).trans cl_qp_2
                    replace cl_qp_1 : hx_col 40 h_37 qp 1 = bnf := (hx_col_S hs hTo gqp tt_44 tt_4 rfl rfl).trans cl_qp_1
                    replace cl_qc_10 : hx_col 100 h_37 qc 10 = fof := (hx_col_S hs hTo gqc tt_45 tt_2 rfl rfl).trans cl_qc_10
                    replace cl_qc_11 : hx_col 100 h_37 qc 11 = hrf := (hx_col_S hs hTo gqc tt_45 tt_2 rfl rfl).trans cl_qc_11
                    replace cl_qc_12 : hx_col 100 h_37 qc 12 = udf := (hx_col_S hs hTo gqc tt_45 tt_2 rfl rfl).trans cl_qc_12
                    replace cl_qc_6 : hx_col 100 h_37 qc 6 = smf := (hx_col_S hs hTo gqc tt_45 tt_2 rfl rfl).trans cl_qc_6
                    replace cl_qc_7 : hx_col 100 h_37 qc 7 = frf := (hx_col_S hs hTo gqc tt_45 tt_2 rfl rfl).trans cl_qc_7
                    replace cl_qc_8 : hx_col 100 h_37 qc 8 = flf := (hx_col_S hs hTo gqc tt_45 tt_2 rfl rfl).trans cl_qc_8
                    replace nu_qp : hx_num 40 h_37 qp 0 (pn0.toInt) := hx_num_S hs hTo gqp tt_44 tt_4 rfl rfl nu_qp
                    replace nu_qc : hx_num 100 h_37 qc 0 (cn0.toInt) := hx_num_S hs hTo gqc tt_45 tt_2 rfl rfl nu_qc
                    replace hDF : hw_DF h_37 qc qp 2 agf cn0.toInt := hw_DF_S hs hTo gqc gqp tt_45 tt_2 rfl rfl rfl hDF
                    replace hDP : hw_DF h_37 qc qp 1 byf cn0.toInt := hw_DF_S hs hTo gqc gqp tt_45 tt_2 rfl rfl rfl hDP
                    replace hAC : hv_AC h_37 qc plf cn0.toInt A := hv_AC_S hs hTo gqc tt_45 tt_2 rfl tt_0 rfl rfl rfl rfl rfl rfl rfl hAC
                    replace hHL : hv_HL h_37 qh qc hof m0.toInt cn0.toInt := hv_HL_S hs gqh gqc rfl rfl hHL
                    replace hBX9 : hv_FX 3 5 h_37 qc bF9 cn0.toInt := hv_FX_S hs hTo gqc tt_45 tt_2 rfl rfl rfl rfl hBX9
                    replace nxF_34 : hv_FX 8 4 h_37 qc xF_34 cn0.toInt := hv_FX_S hs hTo gqc tt_45 tt_2 rfl rfl rfl rfl nxF_34
                    replace fo_9 := (hs.a gqc rfl _).2.trans fo_9
                    replace eoq_14 := (hs.a gqp rfl _).2.trans eoq_14
                    replace eoq_25 := (hs.a gqp rfl _).2.trans eoq_25
                    replace af_qtk : h_37.2.1 qtk = tf := (funext fun j => (hs.a (gqtk.S hM) rfl j).1).trans af_qtk
                    replace hM := hM.tr (hs.mono (by decide))
                    replace gx := gx.S hs
                    replace gqp := gqp.S hs
                    replace gqc := gqc.S hs
                    replace gqh := gqh.S hs
                    replace gq_6 := gq_6.S hs
                    replace gq_14 := gq_14.S hs
                    replace gq_25 := gq_25.S hs
                    replace gq_28 := gq_28.S hs
                    have nS_41 := hr_40; rw [hpn9, hqn9, cx_35] at nS_41
                    have hfO9 := nxF_34
                    have hTO9 := hT
                    have gcO9 := gqc
                    have gtO9 := gq_28
                    have foO9 := fo_9
                    have ftO9 := fq_28
                    have hTo := hT
                    refine hx_iast hx hb hW hT (hx_S.rf (M := [(20, 0)])) gq_28 tt_20 rfl (by decide) rfl (i32_r _) (List.mem_singleton.mpr rfl) dX9_hear_142 (fun H locs h_42 eh_42 hW hT hs => ?_)
                    replace f_x_7 := (hs.o gx trivial rfl).2.trans f_x_7
                    replace f_x_10 := (hs.o gx trivial rfl).2.trans f_x_10
                    replace f_x_12 := (hs.o gx trivial rfl).2.trans f_x_12
                    replace f_x_9 := (hs.o gx trivial rfl).2.trans f_x_9
                    replace f_x_15 := (hs.o gx trivial rfl).2.trans f_x_15
                    replace f_x_11 := (hs.o gx trivial rfl).1.trans f_x_11
                    replace f_x_8 := (hs.o gx trivial rfl).1.trans f_x_8
                    replace f_x_13 := (hs.o gx trivial rfl).1.trans f_x_13
                    replace f_x_2 := (hs.o gx trivial rfl).1.trans f_x_2
                    replace fx_10 := (hs.o gq_6 trivial rfl).1.trans fx_10
                    replace fx_12 := (hs.o gq_6 trivial rfl).1.trans fx_12
                    replace fq_14 := (hs.o gq_6 trivial rfl).2.trans fq_14
                    replace fx_15 := (hs.o gq_14 trivial rfl).1.trans fx_15
                    replace fq_25 := (hs.o gq_6 trivial rfl).2.trans fq_25
                    replace fx_26 := (hs.o gq_25 trivial rfl).1.trans fx_26
                    replace fx_27 := (hs.o gq_14 trivial rfl).1.trans fx_27
                    replace fq_28 := (hs.o gq_6 trivial rfl).2.trans fq_28
                    replace fx_35 := (hs.o gq_6 trivial rfl).1.trans fx_35
                    replace pf_x_8 : ∀ j : Nat, (j : Int) < (h_42.2.1 x 8).toInt → h_42.2.2 qp j ≠ none := by
                      intro j hj; rw [(hs.o gx trivial rfl).1] at hj; rw [(hs.a gqp rfl j).2]; exact pf_x_8 j hj
                    replace pf_x_11 : ∀ j : Nat, (j : Int) < (h_42.2.1 x 11).toInt → h_42.2.2 qc j ≠ none := by
                      intro j hj; rw [(hs.o gx trivial rfl).1] at hj; rw [(hs.a gqc rfl j).2]; exact pf_x_11 j hj
                    replace pf_x_13 : ∀ j : Nat, (j : Int) < (h_42.2.1 x 13).toInt → h_42.2.2 qh j ≠ none := by
                      intro j hj; rw [(hs.o gx trivial rfl).1] at hj; rw [(hs.a gqh rfl j).2]; exact pf_x_13 j hj
                    replace cl_qp_7 : hx_col 40 h_42 qp 7 = ddf := (hx_col_S hs hTo gqp tt_44 tt_4 rfl rfl).trans cl_qp_7
                    replace cl_qp_8 : hx_col 40 h_42 qp 8 = jjf := (hx_col_S hs hTo gqp tt_44 tt_4 rfl rfl).trans cl_qp_8
                    replace cl_qp_2 : hx_col 40 h_42 qp 2 = kkf := (hx_col_S hs hTo gqp tt_44 tt_4 rfl rfl).trans cl_qp_2
                    replace cl_qp_1 : hx_col 40 h_42 qp 1 = bnf := (hx_col_S hs hTo gqp tt_44 tt_4 rfl rfl).trans cl_qp_1
                    replace cl_qc_10 : hx_col 100 h_42 qc 10 = fof := (hx_col_S hs hTo gqc tt_45 tt_2 rfl rfl).trans cl_qc_10
                    replace cl_qc_11 : hx_col 100 h_42 qc 11 = hrf := (hx_col_S hs hTo gqc tt_45 tt_2 rfl rfl).trans cl_qc_11
                    replace cl_qc_12 : hx_col 100 h_42 qc 12 = udf := (hx_col_S hs hTo gqc tt_45 tt_2 rfl rfl).trans cl_qc_12
                    replace cl_qc_6 : hx_col 100 h_42 qc 6 = smf := (hx_col_S hs hTo gqc tt_45 tt_2 rfl rfl).trans cl_qc_6
                    replace cl_qc_7 : hx_col 100 h_42 qc 7 = frf := (hx_col_S hs hTo gqc tt_45 tt_2 rfl rfl).trans cl_qc_7
                    replace cl_qc_8 : hx_col 100 h_42 qc 8 = flf := (hx_col_S hs hTo gqc tt_45 tt_2 rfl rfl).trans cl_qc_8
                    replace nu_qp : hx_num 40 h_42 qp 0 (pn0.toInt) := hx_num_S hs hTo gqp tt_44 tt_4 rfl rfl nu_qp
                    replace nu_qc : hx_num 100 h_42 qc 0 (cn0.toInt) := hx_num_S hs hTo gqc tt_45 tt_2 rfl rfl nu_qc
                    replace hDF : hw_DF h_42 qc qp 2 agf cn0.toInt := hw_DF_S hs hTo gqc gqp tt_45 tt_2 rfl rfl rfl hDF
                    replace hDP : hw_DF h_42 qc qp 1 byf cn0.toInt := hw_DF_S hs hTo gqc gqp tt_45 tt_2 rfl rfl rfl hDP
                    replace hAC : hv_AC h_42 qc plf cn0.toInt A := hv_AC_S hs hTo gqc tt_45 tt_2 rfl tt_0 rfl rfl rfl rfl rfl rfl rfl hAC
                    replace hHL : hv_HL h_42 qh qc hof m0.toInt cn0.toInt := hv_HL_S hs gqh gqc rfl rfl hHL
                    replace hBX9 : hv_FX 3 5 h_42 qc bF9 cn0.toInt := hv_FX_S hs hTo gqc tt_45 tt_2 rfl rfl rfl rfl hBX9
                    replace fo_9 := (hs.a gqc rfl _).2.trans fo_9
                    replace eoq_14 := (hs.a gqp rfl _).2.trans eoq_14
                    replace eoq_25 := (hs.a gqp rfl _).2.trans eoq_25
                    replace af_qtk : h_42.2.1 qtk = tf := (funext fun j => (hs.a (gqtk.S hM) rfl j).1).trans af_qtk
                    replace hM := hM.tr (hs.mono (by decide))
                    replace gx := gx.S hs
                    replace gqp := gqp.S hs
                    replace gqc := gqc.S hs
                    replace gqh := gqh.S hs
                    replace gq_6 := gq_6.S hs
                    replace gq_14 := gq_14.S hs
                    replace gq_25 := gq_25.S hs
                    replace gq_28 := gq_28.S hs
                    obtain ⟨xF_43, dxF_43⟩ : ∃ g : Nat → Int32, g = hx_up xF_34 ((4 : Int32).toNatClampNeg + 8 * i1.toNatClampNeg) r_38 := ⟨_, rfl⟩
                    have nxF_43 : hv_FX 8 4 h_42 qc xF_43 cn0.toInt := by rw [dxF_43]; exact hv_FX_u hfO9 hTO9 gcO9 gtO9 (by decide) tt_45 (by unfold Int32.toNatClampNeg; omega) (by unfold Int32.toNatClampNeg; omega) foO9 ftO9 (by decide) eh_42
                    refine lv_aload hx hb dX9_hear_143 (lv_at hl 2 rfl) ?_
                    refine hk_getr hx hb hts hC_2 hown hW gq_6 tt_2 4 (by decide) rfl kw_738 ⟨rfl, rfl, rfl⟩ fq_28 dX9_hear_145 ?_
                    refine lv_iconst (v := 5) hx hb dX9_hear_148 (by decide) ?_
                    refine lv_aload_n hx hb dX9_hear_149 rfl (lv_at hl 3 rfl) ?_
                    refine hk_getr hx hb hts hC_9 hown hW gx tt_9 9 (by decide) rfl kw_373 ⟨rfl, rfl, rfl⟩ f_x_9 dX9_hear_150 ?_
                    refine lv_iload hx hb dX9_hear_153 (lv_at hl 0 rfl) ?_
                    refine lv_iload hx hb dX9_hear_155 (lv_at hl 1 rfl) ?_
                    refine lv_aload hx hb dX9_hear_157 (lv_at hl 2 rfl) ?_
                    refine hk_geti hx hb hts hC_2 hown hW gq_6 tt_2 8 (by decide) rfl kw_743 ⟨rfl, rfl, rfl⟩ fx_35 dX9_hear_159 ?_
                    have hTo := hT
                    have zc_5 : (5 : Int32).toInt = 5 := by decide
                    refine hx_goi (hx_runV (As := [.int x_27, .int x_26, .int x_35]) (rest := [.int (5 : Int32), .ref q_28]) ⟨hx, hb, hml, hown, hts⟩ hW (gqb.S hM) tt_1 (T := TX1) (N := 8) rfl (t_X1_sumWith_2 l dC dI dA L_36 h_42 H.size qb x_27 x_26 x_35 hT (gqb.S hM) qo (gqo.S hM) ((hM.o gqb trivial rfl).2.trans f_qb_1) qwi (gqwi.S hM) ((hM.o gqb trivial rfl).2.trans f_qb_2) qdy (gqdy.S hM) ((hM.o gqb trivial rfl).2.trans f_qb_3) qkd (gqkd.S hM) ((hM.o gqb trivial rfl).2.trans f_qb_4) qsm (gqsm.S hM) ((hM.o gqb trivial rfl).2.trans f_qb_5) of (hx_afS hM gqo rfl af_qo) wf (hx_afS hM gqwi rfl af_qwi) df (hx_afS hM gqdy rfl af_qdy) kf (hx_afS hM gqkd rfl af_qkd) sf (hx_afS hM gqsm rfl af_qsm) ln0 ((hM.o gqb trivial rfl).1.trans f_qb_0)) (cwV 3 hts (hx_gV kw_688 kw_685 kw_686 kw_687 kw_98) rfl rfl rfl (by decide +kernel) ⟨Nat.le_of_ble_eq_true rfl, Nat.le_of_ble_eq_true rfl⟩) rfl hl.1 rfl (Nat.le_of_ble_eq_true rfl) dX9_hear_162 ⟨Nat.le_of_ble_eq_true rfl, Nat.le_of_ble_eq_true rfl⟩) hW (fun r_46 L_44 h_45 H locs p_47 hW => ?_)
                    obtain ⟨hr_48, hT, hs⟩ := p_47
                    replace hT : hx_T T_tb L_44 h_45 := hT
                    replace hs : hx_S T_tb [] L_36 h_42 L_44 h_45 := hs
                    replace f_x_7 := (hs.o gx trivial rfl).2.trans f_x_7
                    replace f_x_10 := (hs.o gx trivial rfl).2.trans f_x_10
                    replace f_x_12 := (hs.o gx trivial rfl).2.trans f_x_12
                    replace f_x_9 := (hs.o gx trivial rfl).2.trans f_x_9
                    replace f_x_15 := (hs.o gx trivial rfl).2.trans f_x_15
                    replace f_x_11 := (hs.o gx trivial rfl).1.trans f_x_11
                    replace f_x_8 := (hs.o gx trivial rfl).1.trans f_x_8
                    replace f_x_13 := (hs.o gx trivial rfl).1.trans f_x_13
                    replace f_x_2 := (hs.o gx trivial rfl).1.trans f_x_2
                    replace fx_10 := (hs.o gq_6 trivial rfl).1.trans fx_10
                    replace fx_12 := (hs.o gq_6 trivial rfl).1.trans fx_12
                    replace fq_14 := (hs.o gq_6 trivial rfl).2.trans fq_14
                    replace fx_15 := (hs.o gq_14 trivial rfl).1.trans fx_15
                    replace fq_25 := (hs.o gq_6 trivial rfl).2.trans fq_25
                    replace fx_26 := (hs.o gq_25 trivial rfl).1.trans fx_26
                    replace fx_27 := (hs.o gq_14 trivial rfl).1.trans fx_27
                    replace fq_28 := (hs.o gq_6 trivial rfl).2.trans fq_28
                    replace fx_35 := (hs.o gq_6 trivial rfl).1.trans fx_35
                    replace pf_x_8 : ∀ j : Nat, (j : Int) < (h_45.2.1 x 8).toInt → h_45.2.2 qp j ≠ none := by
                      intro j hj; rw [(hs.o gx trivial rfl).1] at hj; rw [(hs.a gqp rfl j).2]; exact pf_x_8 j hj
                    replace pf_x_11 : ∀ j : Nat, (j : Int) < (h_45.2.1 x 11).toInt → h_45.2.2 qc j ≠ none := by
                      intro j hj; rw [(hs.o gx trivial rfl).1] at hj; rw [(hs.a gqc rfl j).2]; exact pf_x_11 j hj
                    replace pf_x_13 : ∀ j : Nat, (j : Int) < (h_45.2.1 x 13).toInt → h_45.2.2 qh j ≠ none := by
                      intro j hj; rw [(hs.o gx trivial rfl).1] at hj; rw [(hs.a gqh rfl j).2]; exact pf_x_13 j hj
                    replace cl_qp_7 : hx_col 40 h_45 qp 7 = ddf := (hx_col_S hs hTo gqp tt_44 tt_4 rfl rfl).trans cl_qp_7
                    replace cl_qp_8 : hx_col 40 h_45 qp 8 = jjf := (hx_col_S hs hTo gqp tt_44 tt_4 rfl rfl).trans cl_qp_8
                    replace cl_qp_2 : hx_col 40 h_45 qp 2 = kkf := (hx_col_S hs hTo gqp tt_44 tt_4 rfl rfl).trans cl_qp_2
                    replace cl_qp_1 : hx_col 40 h_45 qp 1 = bnf := (hx_col_S hs hTo gqp tt_44 tt_4 rfl rfl).trans cl_qp_1
                    replace cl_qc_10 : hx_col 100 h_45 qc 10 = fof := (hx_col_S hs hTo gqc tt_45 tt_2 rfl rfl).trans cl_qc_10
                    replace cl_qc_11 : hx_col 100 h_45 qc 11 = hrf := (hx_col_S hs hTo gqc tt_45 tt_2 rfl rfl).trans cl_qc_11
                    replace cl_qc_12 : hx_col 100 h_45 qc 12 = udf := (hx_col_S hs hTo gqc tt_45 tt_2 rfl rfl).trans cl_qc_12
                    replace cl_qc_6 : hx_col 100 h_45 qc 6 = smf := (hx_col_S hs hTo gqc tt_45 tt_2 rfl rfl).trans cl_qc_6
                    replace cl_qc_7 : hx_col 100 h_45 qc 7 = frf := (hx_col_S hs hTo gqc tt_45 tt_2 rfl rfl).trans cl_qc_7
                    replace cl_qc_8 : hx_col 100 h_45 qc 8 = flf := (hx_col_S hs hTo gqc tt_45 tt_2 rfl rfl).trans cl_qc_8
                    replace nu_qp : hx_num 40 h_45 qp 0 (pn0.toInt) := hx_num_S hs hTo gqp tt_44 tt_4 rfl rfl nu_qp
                    replace nu_qc : hx_num 100 h_45 qc 0 (cn0.toInt) := hx_num_S hs hTo gqc tt_45 tt_2 rfl rfl nu_qc
                    replace hDF : hw_DF h_45 qc qp 2 agf cn0.toInt := hw_DF_S hs hTo gqc gqp tt_45 tt_2 rfl rfl rfl hDF
                    replace hDP : hw_DF h_45 qc qp 1 byf cn0.toInt := hw_DF_S hs hTo gqc gqp tt_45 tt_2 rfl rfl rfl hDP
                    replace hAC : hv_AC h_45 qc plf cn0.toInt A := hv_AC_S hs hTo gqc tt_45 tt_2 rfl tt_0 rfl rfl rfl rfl rfl rfl rfl hAC
                    replace hHL : hv_HL h_45 qh qc hof m0.toInt cn0.toInt := hv_HL_S hs gqh gqc rfl rfl hHL
                    replace hBX9 : hv_FX 3 5 h_45 qc bF9 cn0.toInt := hv_FX_S hs hTo gqc tt_45 tt_2 rfl rfl rfl rfl hBX9
                    replace nxF_43 : hv_FX 8 4 h_45 qc xF_43 cn0.toInt := hv_FX_S hs hTo gqc tt_45 tt_2 rfl rfl rfl rfl nxF_43
                    replace fo_9 := (hs.a gqc rfl _).2.trans fo_9
                    replace eoq_14 := (hs.a gqp rfl _).2.trans eoq_14
                    replace eoq_25 := (hs.a gqp rfl _).2.trans eoq_25
                    replace af_qtk : h_45.2.1 qtk = tf := (funext fun j => (hs.a (gqtk.S hM) rfl j).1).trans af_qtk
                    replace hM := hM.tr (hs.mono (by decide))
                    replace gx := gx.S hs
                    replace gqp := gqp.S hs
                    replace gqc := gqc.S hs
                    replace gqh := gqh.S hs
                    replace gq_6 := gq_6.S hs
                    replace gq_14 := gq_14.S hs
                    replace gq_25 := gq_25.S hs
                    replace gq_28 := gq_28.S hs
                    have nS_49 := hr_48; rw [hpn9, hqn9, cx_35] at nS_49
                    refine lv_ineg hx hb dX9_hear_165 ?_
                    refine lv_topi (fun x_50 ex_50 => ?_)
                    have hfO9 := nxF_43
                    have hTO9 := hT
                    have gcO9 := gqc
                    have gtO9 := gq_28
                    have foO9 := fo_9
                    have ftO9 := fq_28
                    have hTo := hT
                    refine hx_iast hx hb hW hT (hx_S.rf (M := [(20, 0)])) gq_28 tt_20 rfl (by decide) rfl (i32_r _) (List.mem_singleton.mpr rfl) dX9_hear_166 (fun H locs h_51 eh_51 hW hT hs => ?_)
                    replace f_x_7 := (hs.o gx trivial rfl).2.trans f_x_7
                    replace f_x_10 := (hs.o gx trivial rfl).2.trans f_x_10
                    replace f_x_12 := (hs.o gx trivial rfl).2.trans f_x_12
                    replace f_x_9 := (hs.o gx trivial rfl).2.trans f_x_9
                    replace f_x_15 := (hs.o gx trivial rfl).2.trans f_x_15
                    replace f_x_11 := (hs.o gx trivial rfl).1.trans f_x_11
                    replace f_x_8 := (hs.o gx trivial rfl).1.trans f_x_8
                    replace f_x_13 := (hs.o gx trivial rfl).1.trans f_x_13
                    replace f_x_2 := (hs.o gx trivial rfl).1.trans f_x_2
                    replace fx_10 := (hs.o gq_6 trivial rfl).1.trans fx_10
                    replace fx_12 := (hs.o gq_6 trivial rfl).1.trans fx_12
                    replace fq_14 := (hs.o gq_6 trivial rfl).2.trans fq_14
                    replace fx_15 := (hs.o gq_14 trivial rfl).1.trans fx_15
                    replace fq_25 := (hs.o gq_6 trivial rfl).2.trans fq_25
                    replace fx_26 := (hs.o gq_25 trivial rfl).1.trans fx_26
                    replace fx_27 := (hs.o gq_14 trivial rfl).1.trans fx_27
                    replace fq_28 := (hs.o gq_6 trivial rfl).2.trans fq_28
                    replace fx_35 := (hs.o gq_6 trivial rfl).1.trans fx_35
                    replace pf_x_8 : ∀ j : Nat, (j : Int) < (h_51.2.1 x 8).toInt → h_51.2.2 qp j ≠ none := by
                      intro j hj; rw [(hs.o gx trivial rfl).1] at hj; rw [(hs.a gqp rfl j).2]; exact pf_x_8 j hj
                    replace pf_x_11 : ∀ j : Nat, (j : Int) < (h_51.2.1 x 11).toInt → h_51.2.2 qc j ≠ none := by
                      intro j hj; rw [(hs.o gx trivial rfl).1] at hj; rw [(hs.a gqc rfl j).2]; exact pf_x_11 j hj
                    replace pf_x_13 : ∀ j : Nat, (j : Int) < (h_51.2.1 x 13).toInt → h_51.2.2 qh j ≠ none := by
                      intro j hj; rw [(hs.o gx trivial rfl).1] at hj; rw [(hs.a gqh rfl j).2]; exact pf_x_13 j hj
                    replace cl_qp_7 : hx_col 40 h_51 qp 7 = ddf := (hx_col_S hs hTo gqp tt_44 tt_4 rfl rfl).trans cl_qp_7
                    replace cl_qp_8 : hx_col 40 h_51 qp 8 = jjf := (hx_col_S hs hTo gqp tt_44 tt_4 rfl rfl).trans cl_qp_8
                    replace cl_qp_2 : hx_col 40 h_51 qp 2 = kkf := (hx_col_S hs hTo gqp tt_44 tt_4 rfl rfl).trans cl_qp_2
                    replace cl_qp_1 : hx_col 40 h_51 qp 1 = bnf := (hx_col_S hs hTo gqp tt_44 tt_4 rfl rfl).trans cl_qp_1
                    replace cl_qc_10 : hx_col 100 h_51 qc 10 = fof := (hx_col_S hs hTo gqc tt_45 tt_2 rfl rfl).trans cl_qc_10
                    replace cl_qc_11 : hx_col 100 h_51 qc 11 = hrf := (hx_col_S hs hTo gqc tt_45 tt_2 rfl rfl).trans cl_qc_11
                    replace cl_qc_12 : hx_col 100 h_51 qc 12 = udf := (hx_col_S hs hTo gqc tt_45 tt_2 rfl rfl).trans cl_qc_12
                    replace cl_qc_6 : hx_col 100 h_51 qc 6 = smf := (hx_col_S hs hTo gqc tt_45 tt_2 rfl rfl).trans cl_qc_6
                    replace cl_qc_7 : hx_col 100 h_51 qc 7 = frf := (hx_col_S hs hTo gqc tt_45 tt_2 rfl rfl).trans cl_qc_7
                    replace cl_qc_8 : hx_col 100 h_51 qc 8 = flf := (hx_col_S hs hTo gqc tt_45 tt_2 rfl rfl).trans cl_qc_8
                    replace nu_qp : hx_num 40 h_51 qp 0 (pn0.toInt) := hx_num_S hs hTo gqp tt_44 tt_4 rfl rfl nu_qp
                    replace nu_qc : hx_num 100 h_51 qc 0 (cn0.toInt) := hx_num_S hs hTo gqc tt_45 tt_2 rfl rfl nu_qc
                    replace hDF : hw_DF h_51 qc qp 2 agf cn0.toInt := hw_DF_S hs hTo gqc gqp tt_45 tt_2 rfl rfl rfl hDF
                    replace hDP : hw_DF h_51 qc qp 1 byf cn0.toInt := hw_DF_S hs hTo gqc gqp tt_45 tt_2 rfl rfl rfl hDP
                    replace hAC : hv_AC h_51 qc plf cn0.toInt A := hv_AC_S hs hTo gqc tt_45 tt_2 rfl tt_0 rfl rfl rfl rfl rfl rfl rfl hAC
                    replace hHL : hv_HL h_51 qh qc hof m0.toInt cn0.toInt := hv_HL_S hs gqh gqc rfl rfl hHL
                    replace hBX9 : hv_FX 3 5 h_51 qc bF9 cn0.toInt := hv_FX_S hs hTo gqc tt_45 tt_2 rfl rfl rfl rfl hBX9
                    replace fo_9 := (hs.a gqc rfl _).2.trans fo_9
                    replace eoq_14 := (hs.a gqp rfl _).2.trans eoq_14
                    replace eoq_25 := (hs.a gqp rfl _).2.trans eoq_25
                    replace af_qtk : h_51.2.1 qtk = tf := (funext fun j => (hs.a (gqtk.S hM) rfl j).1).trans af_qtk
                    replace hM := hM.tr (hs.mono (by decide))
                    replace gx := gx.S hs
                    replace gqp := gqp.S hs
                    replace gqc := gqc.S hs
                    replace gqh := gqh.S hs
                    replace gq_6 := gq_6.S hs
                    replace gq_14 := gq_14.S hs
                    replace gq_25 := gq_25.S hs
                    replace gq_28 := gq_28.S hs
                    obtain ⟨xF_52, dxF_52⟩ : ∃ g : Nat → Int32, g = hx_up xF_43 ((5 : Int32).toNatClampNeg + 8 * i1.toNatClampNeg) x_50 := ⟨_, rfl⟩
                    have nxF_52 : hv_FX 8 4 h_51 qc xF_52 cn0.toInt := by rw [dxF_52]; exact hv_FX_u hfO9 hTO9 gcO9 gtO9 (by decide) tt_45 (by unfold Int32.toNatClampNeg; omega) (by unfold Int32.toNatClampNeg; omega) foO9 ftO9 (by decide) eh_51
                    refine lv_aload hx hb dX9_hear_167 (lv_at hl 2 rfl) ?_
                    refine hk_getr hx hb hts hC_2 hown hW gq_6 tt_2 4 (by decide) rfl kw_738 ⟨rfl, rfl, rfl⟩ fq_28 dX9_hear_169 ?_
                    refine lv_bipush (v := 6) hx hb dX9_hear_172 (by decide) ?_
                    refine lv_aload_n hx hb dX9_hear_174 rfl (lv_at hl 3 rfl) ?_
                    refine hk_getr hx hb hts hC_9 hown hW gx tt_9 9 (by decide) rfl kw_373 ⟨rfl, rfl, rfl⟩ f_x_9 dX9_hear_175 ?_
                    refine lv_iload hx hb dX9_hear_178 (lv_at hl 1 rfl) ?_
                    refine lv_iload hx hb dX9_hear_180 (lv_at hl 0 rfl) ?_
                    refine lv_aload hx hb dX9_hear_182 (lv_at hl 2 rfl) ?_
                    refine hk_geti hx hb hts hC_2 hown hW gq_6 tt_2 8 (by decide) rfl kw_743 ⟨rfl, rfl, rfl⟩ fx_35 dX9_hear_184 ?_
                    have hTo := hT
                    have zc_6 : (6 : Int32).toInt = 6 := by decide
                    refine hx_goi (hx_runV (As := [.int x_26, .int x_27, .int x_35]) (rest := [.int (6 : Int32), .ref q_28]) ⟨hx, hb, hml, hown, hts⟩ hW (gqb.S hM) tt_1 (T := TX1) (N := 8) rfl (t_X1_twinPairs_2 l dC dI dA L_44 h_51 H.size qb x_26 x_27 x_35 hT (gqb.S hM) qo (gqo.S hM) ((hM.o gqb trivial rfl).2.trans f_qb_1) qwi (gqwi.S hM) ((hM.o gqb trivial rfl).2.trans f_qb_2) qdy (gqdy.S hM) ((hM.o gqb trivial rfl).2.trans f_qb_3) qkd (gqkd.S hM) ((hM.o gqb trivial rfl).2.trans f_qb_4) qsm (gqsm.S hM) ((hM.o gqb trivial rfl).2.trans f_qb_5) qbd (gqbd.S hM) ((hM.o gqb trivial rfl).2.trans f_qb_6) qtk (gqtk.S hM) ((hM.o gqb trivial rfl).2.trans f_qb_7) of (hx_afS hM gqo rfl af_qo) wf (hx_afS hM gqwi rfl af_qwi) df (hx_afS hM gqdy rfl af_qdy) kf (hx_afS hM gqkd rfl af_qkd) sf (hx_afS hM gqsm rfl af_qsm) bf (hx_afS hM gqbd rfl af_qbd) tf af_qtk ln0 ((hM.o gqb trivial rfl).1.trans f_qb_0) hBD hDY) (cwV 3 hts (hx_gV kw_696 kw_693 kw_694 kw_695 kw_98) rfl rfl rfl (by decide +kernel) ⟨Nat.le_of_ble_eq_true rfl, Nat.le_of_ble_eq_true rfl⟩) rfl hl.1 rfl (Nat.le_of_ble_eq_true rfl) dX9_hear_187 ⟨Nat.le_of_ble_eq_true rfl, Nat.le_of_ble_eq_true rfl⟩) hW (fun r_55 L_53 h_54 H locs p_56 hW => ?_)
                    obtain ⟨hr_57, hT, hs⟩ := p_56
                    replace hT : hx_T T_tb L_53 h_54 := hT
                    replace hs : hx_S T_tb [(19, 0)] L_44 h_51 L_53 h_54 := hs
                    replace f_x_7 := (hs.o gx trivial rfl).2.trans f_x_7
                    replace f_x_10 := (hs.o gx trivial rfl).2.trans f_x_10
                    replace f_x_12 := (hs.o gx trivial rfl).2.trans f_x_12
                    replace f_x_9 := (hs.o gx trivial rfl).2.trans f_x_9
                    replace f_x_15 := (hs.o gx trivial rfl).2.trans f_x_15
                    replace f_x_11 := (hs.o gx trivial rfl).1.trans f_x_11
                    replace f_x_8 := (hs.o gx trivial rfl).1.trans f_x_8
                    replace f_x_13 := (hs.o gx trivial rfl).1.trans f_x_13
                    replace f_x_2 := (hs.o gx trivial rfl).1.trans f_x_2
                    replace fx_10 := (hs.o gq_6 trivial rfl).1.trans fx_10
                    replace fx_12 := (hs.o gq_6 trivial rfl).1.trans fx_12
                    replace fq_14 := (hs.o gq_6 trivial rfl).2.trans fq_14
                    replace fx_15 := (hs.o gq_14 trivial rfl).1.trans fx_15
                    replace fq_25 := (hs.o gq_6 trivial rfl).2.trans fq_25
                    replace fx_26 := (hs.o gq_25 trivial rfl).1.trans fx_26
                    replace fx_27 := (hs.o gq_14 trivial rfl).1.trans fx_27
                    replace fq_28 := (hs.o gq_6 trivial rfl).2.trans fq_28
                    replace fx_35 := (hs.o gq_6 trivial rfl).1.trans fx_35
                    replace pf_x_8 : ∀ j : Nat, (j : Int) < (h_54.2.1 x 8).toInt → h_54.2.2 qp j ≠ none := by
                      intro j hj; rw [(hs.o gx trivial rfl).1] at hj; rw [(hs.a gqp rfl j).2]; exact pf_x_8 j hj
                    replace pf_x_11 : ∀ j : Nat, (j : Int) < (h_54.2.1 x 11).toInt → h_54.2.2 qc j ≠ none := by
                      intro j hj; rw [(hs.o gx trivial rfl).1] at hj; rw [(hs.a gqc rfl j).2]; exact pf_x_11 j hj
                    replace pf_x_13 : ∀ j : Nat, (j : Int) < (h_54.2.1 x 13).toInt → h_54.2.2 qh j ≠ none := by
                      intro j hj; rw [(hs.o gx trivial rfl).1] at hj; rw [(hs.a gqh rfl j).2]; exact pf_x_13 j hj
                    replace cl_qp_7 : hx_col 40 h_54 qp 7 = ddf := (hx_col_S hs hTo gqp tt_44 tt_4 rfl rfl).trans cl_qp_7
                    replace cl_qp_8 : hx_col 40 h_54 qp 8 = jjf := (hx_col_S hs hTo gqp tt_44 tt_4 rfl rfl).trans cl_qp_8
                    replace cl_qp_2 : hx_col 40 h_54 qp 2 = kkf := (hx_col_S hs hTo gqp tt_44 tt_4 rfl rfl).trans cl_qp_2
                    replace cl_qp_1 : hx_col 40 h_54 qp 1 = bnf := (hx_col_S hs hTo gqp tt_44 tt_4 rfl rfl).trans cl_qp_1
                    replace cl_qc_10 : hx_col 100 h_54 qc 10 = fof := (hx_col_S hs hTo gqc tt_45 tt_2 rfl rfl).trans cl_qc_10
                    replace cl_qc_11 : hx_col 100 h_54 qc 11 = hrf := (hx_col_S hs hTo gqc tt_45 tt_2 rfl rfl).trans cl_qc_11
                    replace cl_qc_12 : hx_col 100 h_54 qc 12 = udf := (hx_col_S hs hTo gqc tt_45 tt_2 rfl rfl).trans cl_qc_12
                    replace cl_qc_6 : hx_col 100 h_54 qc 6 = smf := (hx_col_S hs hTo gqc tt_45 tt_2 rfl rfl).trans cl_qc_6
                    replace cl_qc_7 : hx_col 100 h_54 qc 7 = frf := (hx_col_S hs hTo gqc tt_45 tt_2 rfl rfl).trans cl_qc_7
                    replace cl_qc_8 : hx_col 100 h_54 qc 8 = flf := (hx_col_S hs hTo gqc tt_45 tt_2 rfl rfl).trans cl_qc_8
                    replace nu_qp : hx_num 40 h_54 qp 0 (pn0.toInt) := hx_num_S hs hTo gqp tt_44 tt_4 rfl rfl nu_qp
                    replace nu_qc : hx_num 100 h_54 qc 0 (cn0.toInt) := hx_num_S hs hTo gqc tt_45 tt_2 rfl rfl nu_qc
                    replace hDF : hw_DF h_54 qc qp 2 agf cn0.toInt := hw_DF_S hs hTo gqc gqp tt_45 tt_2 rfl rfl rfl hDF
                    replace hDP : hw_DF h_54 qc qp 1 byf cn0.toInt := hw_DF_S hs hTo gqc gqp tt_45 tt_2 rfl rfl rfl hDP
                    replace hAC : hv_AC h_54 qc plf cn0.toInt A := hv_AC_S hs hTo gqc tt_45 tt_2 rfl tt_0 rfl rfl rfl rfl rfl rfl rfl hAC
                    replace hHL : hv_HL h_54 qh qc hof m0.toInt cn0.toInt := hv_HL_S hs gqh gqc rfl rfl hHL
                    replace hBX9 : hv_FX 3 5 h_54 qc bF9 cn0.toInt := hv_FX_S hs hTo gqc tt_45 tt_2 rfl rfl rfl rfl hBX9
                    replace nxF_52 : hv_FX 8 4 h_54 qc xF_52 cn0.toInt := hv_FX_S hs hTo gqc tt_45 tt_2 rfl rfl rfl rfl nxF_52
                    replace fo_9 := (hs.a gqc rfl _).2.trans fo_9
                    replace eoq_14 := (hs.a gqp rfl _).2.trans eoq_14
                    replace eoq_25 := (hs.a gqp rfl _).2.trans eoq_25
                    replace hM := hM.tr (hs.mono (by decide))
                    replace gx := gx.S hs
                    replace gqp := gqp.S hs
                    replace gqc := gqc.S hs
                    replace gqh := gqh.S hs
                    replace gq_6 := gq_6.S hs
                    replace gq_14 := gq_14.S hs
                    replace gq_25 := gq_25.S hs
                    replace gq_28 := gq_28.S hs
                    have nS_58 := hr_57; rw [hpn9, hqn9, cx_35] at nS_58
                    have hfO9 := nxF_52
                    have hTO9 := hT
                    have gcO9 := gqc
                    have gtO9 := gq_28
                    have foO9 := fo_9
                    have ftO9 := fq_28
                    have hTo := hT
                    refine hx_iast hx hb hW hT (hx_S.rf (M := [(20, 0)])) gq_28 tt_20 rfl (by decide) rfl (i32_r _) (List.mem_singleton.mpr rfl) dX9_hear_190 (fun H locs h_59 eh_59 hW hT hs => ?_)
                    replace f_x_7 := (hs.o gx trivial rfl).2.trans f_x_7
                    replace f_x_10 := (hs.o gx trivial rfl).2.trans f_x_10
                    replace f_x_12 := (hs.o gx trivial rfl).2.trans f_x_12
                    replace f_x_9 := (hs.o gx trivial rfl).2.trans f_x_9
                    replace f_x_15 := (hs.o gx trivial rfl).2.trans f_x_15
                    replace f_x_11 := (hs.o gx trivial rfl).1.trans f_x_11
                    replace f_x_8 := (hs.o gx trivial rfl).1.trans f_x_8
                    replace f_x_13 := (hs.o gx trivial rfl).1.trans f_x_13
                    replace f_x_2 := (hs.o gx trivial rfl).1.trans f_x_2
                    replace fx_10 := (hs.o gq_6 trivial rfl).1.trans fx_10
                    replace fx_12 := (hs.o gq_6 trivial rfl).1.trans fx_12
                    replace fq_14 := (hs.o gq_6 trivial rfl).2.trans fq_14
                    replace fx_15 := (hs.o gq_14 trivial rfl).1.trans fx_15
                    replace fq_25 := (hs.o gq_6 trivial rfl).2.trans fq_25
                    replace fx_26 := (hs.o gq_25 trivial rfl).1.trans fx_26
                    replace fx_27 := (hs.o gq_14 trivial rfl).1.trans fx_27
                    replace fq_28 := (hs.o gq_6 trivial rfl).2.trans fq_28
                    replace fx_35 := (hs.o gq_6 trivial rfl).1.trans fx_35
                    replace pf_x_8 : ∀ j : Nat, (j : Int) < (h_59.2.1 x 8).toInt → h_59.2.2 qp j ≠ none := by
                      intro j hj; rw [(hs.o gx trivial rfl).1] at hj; rw [(hs.a gqp rfl j).2]; exact pf_x_8 j hj
                    replace pf_x_11 : ∀ j : Nat, (j : Int) < (h_59.2.1 x 11).toInt → h_59.2.2 qc j ≠ none := by
                      intro j hj; rw [(hs.o gx trivial rfl).1] at hj; rw [(hs.a gqc rfl j).2]; exact pf_x_11 j hj
                    replace pf_x_13 : ∀ j : Nat, (j : Int) < (h_59.2.1 x 13).toInt → h_59.2.2 qh j ≠ none := by
                      intro j hj; rw [(hs.o gx trivial rfl).1] at hj; rw [(hs.a gqh rfl j).2]; exact pf_x_13 j hj
                    replace cl_qp_7 : hx_col 40 h_59 qp 7 = ddf := (hx_col_S hs hTo gqp tt_44 tt_4 rfl rfl).trans cl_qp_7
                    replace cl_qp_8 : hx_col 40 h_59 qp 8 = jjf := (hx_col_S hs hTo gqp tt_44 tt_4 rfl rfl).trans cl_qp_8
                    replace cl_qp_2 : hx_col 40 h_59 qp 2 = kkf := (hx_col_S hs hTo gqp tt_44 tt_4 rfl rfl).trans cl_qp_2
                    replace cl_qp_1 : hx_col 40 h_59 qp 1 = bnf := (hx_col_S hs hTo gqp tt_44 tt_4 rfl rfl).trans cl_qp_1
                    replace cl_qc_10 : hx_col 100 h_59 qc 10 = fof := (hx_col_S hs hTo gqc tt_45 tt_2 rfl rfl).trans cl_qc_10
                    replace cl_qc_11 : hx_col 100 h_59 qc 11 = hrf := (hx_col_S hs hTo gqc tt_45 tt_2 rfl rfl).trans cl_qc_11
                    replace cl_qc_12 : hx_col 100 h_59 qc 12 = udf := (hx_col_S hs hTo gqc tt_45 tt_2 rfl rfl).trans cl_qc_12
                    replace cl_qc_6 : hx_col 100 h_59 qc 6 = smf := (hx_col_S hs hTo gqc tt_45 tt_2 rfl rfl).trans cl_qc_6
                    replace cl_qc_7 : hx_col 100 h_59 qc 7 = frf := (hx_col_S hs hTo gqc tt_45 tt_2 rfl rfl).trans cl_qc_7
                    replace cl_qc_8 : hx_col 100 h_59 qc 8 = flf := (hx_col_S hs hTo gqc tt_45 tt_2 rfl rfl).trans cl_qc_8
                    replace nu_qp : hx_num 40 h_59 qp 0 (pn0.toInt) := hx_num_S hs hTo gqp tt_44 tt_4 rfl rfl nu_qp
                    replace nu_qc : hx_num 100 h_59 qc 0 (cn0.toInt) := hx_num_S hs hTo gqc tt_45 tt_2 rfl rfl nu_qc
                    replace hDF : hw_DF h_59 qc qp 2 agf cn0.toInt := hw_DF_S hs hTo gqc gqp tt_45 tt_2 rfl rfl rfl hDF
                    replace hDP : hw_DF h_59 qc qp 1 byf cn0.toInt := hw_DF_S hs hTo gqc gqp tt_45 tt_2 rfl rfl rfl hDP
                    replace hAC : hv_AC h_59 qc plf cn0.toInt A := hv_AC_S hs hTo gqc tt_45 tt_2 rfl tt_0 rfl rfl rfl rfl rfl rfl rfl hAC
                    replace hHL : hv_HL h_59 qh qc hof m0.toInt cn0.toInt := hv_HL_S hs gqh gqc rfl rfl hHL
                    replace hBX9 : hv_FX 3 5 h_59 qc bF9 cn0.toInt := hv_FX_S hs hTo gqc tt_45 tt_2 rfl rfl rfl rfl hBX9
                    replace fo_9 := (hs.a gqc rfl _).2.trans fo_9
                    replace eoq_14 := (hs.a gqp rfl _).2.trans eoq_14
                    replace eoq_25 := (hs.a gqp rfl _).2.trans eoq_25
                    replace hM := hM.tr (hs.mono (by decide))
                    replace gx := gx.S hs
                    replace gqp := gqp.S hs
                    replace gqc := gqc.S hs
                    replace gqh := gqh.S hs
                    replace gq_6 := gq_6.S hs
                    replace gq_14 := gq_14.S hs
                    replace gq_25 := gq_25.S hs
                    replace gq_28 := gq_28.S hs
                    obtain ⟨xF_60, dxF_60⟩ : ∃ g : Nat → Int32, g = hx_up xF_52 ((6 : Int32).toNatClampNeg + 8 * i1.toNatClampNeg) r_55 := ⟨_, rfl⟩
                    have nxF_60 : hv_FX 8 4 h_59 qc xF_60 cn0.toInt := by rw [dxF_60]; exact hv_FX_u hfO9 hTO9 gcO9 gtO9 (by decide) tt_45 (by unfold Int32.toNatClampNeg; omega) (by unfold Int32.toNatClampNeg; omega) foO9 ftO9 (by decide) eh_59
                    refine lv_aload hx hb dX9_hear_191 (lv_at hl 2 rfl) ?_
                    refine lv_aload_n hx hb dX9_hear_193 rfl (lv_at hl 3 rfl) ?_
                    refine hk_geti hx hb hts hC_9 hown hW gx tt_9 2 (by decide) rfl kw_366 ⟨rfl, rfl, rfl⟩ f_x_2 dX9_hear_194 ?_
                    have hTo := hT
                    have cl_qc_11O := cl_qc_11
                    have nu_qcO := nu_qc
                    have fo_9O := fo_9
                    refine hx_puti hx hb hts hC_2 hown hW hT (hx_S.rf (M := [(2, 11)])) gq_6 tt_2 11 (by decide) rfl kw_749 ⟨rfl, rfl, rfl⟩ rfl (x := nw0) ⟨by omega, by omega⟩ rfl rfl rfl (List.mem_singleton.mpr rfl) dX9_hear_197 (fun H locs h_61 eh_61 hW hT hs => ?_)
                    replace f_x_7 := (hs.o gx trivial rfl).2.trans f_x_7
                    replace f_x_10 := (hs.o gx trivial rfl).2.trans f_x_10
                    replace f_x_12 := (hs.o gx trivial rfl).2.trans f_x_12
                    replace f_x_9 := (hs.o gx trivial rfl).2.trans f_x_9
                    replace f_x_15 := (hs.o gx trivial rfl).2.trans f_x_15
                    replace f_x_11 := (hs.o gx trivial rfl).1.trans f_x_11
                    replace f_x_8 := (hs.o gx trivial rfl).1.trans f_x_8
                    replace f_x_13 := (hs.o gx trivial rfl).1.trans f_x_13
                    replace f_x_2 := (hs.o gx trivial rfl).1.trans f_x_2
                    replace fx_10 := (hs.o gq_6 trivial rfl).1.trans fx_10
                    replace fq_14 := (hs.o gq_6 trivial rfl).2.trans fq_14
                    replace fx_15 := (hs.o gq_14 trivial rfl).1.trans fx_15
                    replace fq_25 := (hs.o gq_6 trivial rfl).2.trans fq_25
                    replace fx_26 := (hs.o gq_25 trivial rfl).1.trans fx_26
                    replace fx_27 := (hs.o gq_14 trivial rfl).1.trans fx_27
                    replace fq_28 := (hs.o gq_6 trivial rfl).2.trans fq_28
                    replace fx_35 := (hs.o gq_6 trivial rfl).1.trans fx_35
                    replace pf_x_8 : ∀ j : Nat, (j : Int) < (h_61.2.1 x 8).toInt → h_61.2.2 qp j ≠ none := by
                      intro j hj; rw [(hs.o gx trivial rfl).1] at hj; rw [(hs.a gqp rfl j).2]; exact pf_x_8 j hj
                    replace pf_x_11 : ∀ j : Nat, (j : Int) < (h_61.2.1 x 11).toInt → h_61.2.2 qc j ≠ none := by
                      intro j hj; rw [(hs.o gx trivial rfl).1] at hj; rw [(hs.a gqc rfl j).2]; exact pf_x_11 j hj
                    replace pf_x_13 : ∀ j : Nat, (j : Int) < (h_61.2.1 x 13).toInt → h_61.2.2 qh j ≠ none := by
                      intro j hj; rw [(hs.o gx trivial rfl).1] at hj; rw [(hs.a gqh rfl j).2]; exact pf_x_13 j hj
                    replace cl_qp_7 : hx_col 40 h_61 qp 7 = ddf := (hx_col_S hs hTo gqp tt_44 tt_4 rfl rfl).trans cl_qp_7
                    replace cl_qp_8 : hx_col 40 h_61 qp 8 = jjf := (hx_col_S hs hTo gqp tt_44 tt_4 rfl rfl).trans cl_qp_8
                    replace cl_qp_2 : hx_col 40 h_61 qp 2 = kkf := (hx_col_S hs hTo gqp tt_44 tt_4 rfl rfl).trans cl_qp_2
                    replace cl_qp_1 : hx_col 40 h_61 qp 1 = bnf := (hx_col_S hs hTo gqp tt_44 tt_4 rfl rfl).trans cl_qp_1
                    replace cl_qc_10 : hx_col 100 h_61 qc 10 = fof := (hx_col_S hs hTo gqc tt_45 tt_2 rfl rfl).trans cl_qc_10
                    replace cl_qc_12 : hx_col 100 h_61 qc 12 = udf := (hx_col_S hs hTo gqc tt_45 tt_2 rfl rfl).trans cl_qc_12
                    replace cl_qc_6 : hx_col 100 h_61 qc 6 = smf := (hx_col_S hs hTo gqc tt_45 tt_2 rfl rfl).trans cl_qc_6
                    replace cl_qc_7 : hx_col 100 h_61 qc 7 = frf := (hx_col_S hs hTo gqc tt_45 tt_2 rfl rfl).trans cl_qc_7
                    replace cl_qc_8 : hx_col 100 h_61 qc 8 = flf := (hx_col_S hs hTo gqc tt_45 tt_2 rfl rfl).trans cl_qc_8
                    replace nu_qp : hx_num 40 h_61 qp 0 (pn0.toInt) := hx_num_S hs hTo gqp tt_44 tt_4 rfl rfl nu_qp
                    replace nu_qc : hx_num 100 h_61 qc 0 (cn0.toInt) := hx_num_S hs hTo gqc tt_45 tt_2 rfl rfl nu_qc
                    replace hDF : hw_DF h_61 qc qp 2 agf cn0.toInt := hw_DF_S hs hTo gqc gqp tt_45 tt_2 rfl rfl rfl hDF
                    replace hDP : hw_DF h_61 qc qp 1 byf cn0.toInt := hw_DF_S hs hTo gqc gqp tt_45 tt_2 rfl rfl rfl hDP
                    replace hAC : hv_AC h_61 qc plf cn0.toInt A := hv_AC_S hs hTo gqc tt_45 tt_2 rfl tt_0 rfl rfl rfl rfl rfl rfl rfl hAC
                    replace hHL : hv_HL h_61 qh qc hof m0.toInt cn0.toInt := hv_HL_S hs gqh gqc rfl rfl hHL
                    replace hBX9 : hv_FX 3 5 h_61 qc bF9 cn0.toInt := hv_FX_S hs hTo gqc tt_45 tt_2 rfl rfl rfl rfl hBX9
                    replace nxF_60 : hv_FX 8 4 h_61 qc xF_60 cn0.toInt := hv_FX_S hs hTo gqc tt_45 tt_2 rfl rfl rfl rfl nxF_60
                    replace fo_9 := (hs.a gqc rfl _).2.trans fo_9
                    replace eoq_14 := (hs.a gqp rfl _).2.trans eoq_14
                    replace eoq_25 := (hs.a gqp rfl _).2.trans eoq_25
                    replace hM := hM.tr (hs.mono (by decide))
                    replace gx := gx.S hs
                    replace gqp := gqp.S hs
                    replace gqc := gqc.S hs
                    replace gqh := gqh.S hs
                    replace gq_6 := gq_6.S hs
                    replace gq_14 := gq_14.S hs
                    replace gq_25 := gq_25.S hs
                    replace gq_28 := gq_28.S hs
                    have f_62 : h_61.2.1 q_6 11 = nw0 := by rw [eh_61]; exact hx_pi_at _ _ _ _
                    obtain ⟨fc_63, dfc_63⟩ : ∃ g : Nat → Int32, g = hx_up hrf i1.toNatClampNeg nw0 := ⟨_, rfl⟩
                    have nfc_63 : hx_col 100 h_61 qc 11 = fc_63 := by rw [dfc_63, ← cl_qc_11O]; exact hx_col_pi nu_qcO fo_9O (by unfold Int32.toNatClampNeg; omega) eh_61
                    refine lv_aload hx hb dX9_hear_200 (lv_at hl 2 rfl) ?_
                    refine lv_aload_n hx hb dX9_hear_202 rfl (lv_at hl 3 rfl) ?_
                    refine lv_aload hx hb dX9_hear_203 (lv_at hl 2 rfl) ?_
                    refine lv_aload hx hb dX9_hear_205 (lv_at hl 2 rfl) ?_
                    refine hx_getn hx hb hts hC_2 hown hW hT gq_6 tt_2 3 (by decide) rfl kw_736 ⟨rfl, rfl, rfl⟩ dX9_hear_207 (fun q_64 fq_64 gq_64 => ?_)
                    obtain ⟨hpl9, hAQ9⟩ := hAC i1.toNatClampNeg (by unfold Int32.toNatClampNeg; omega) (by unfold Int32.toNatClampNeg; omega) _ _ fo_9 fq_64
                    have hTo := hT
                    obtain ⟨q_65, fq_65, gq_65⟩ := hv_rf hT gq_64 tt_0 (k := 2) (u := 11) rfl
                    obtain ⟨q_66, fq_66, gq_66⟩ := hv_rf hT gq_64 tt_0 (k := 3) (u := 12) rfl
                    obtain ⟨fv_67, efv_67⟩ : ∃ y : Int32, y = h_61.2.1 q_64 4 := ⟨_, rfl⟩
                    have bfv_67 := hT.gi gq_64 tt_0 (k := 4) rfl
                    rw [← efv_67] at bfv_67
                    have bfv_67 : 0 ≤ fv_67.toInt ∧ fv_67.toInt ≤ 160 := bfv_67
                    have ffv_67 := efv_67.symm
                    obtain ⟨fa_68, nfa_68⟩ : ∃ g : Nat → Int32, h_61.2.1 q_65 = g := ⟨_, rfl⟩
                    obtain ⟨fa_69, nfa_69⟩ : ∃ g : Nat → Int32, h_61.2.1 q_66 = g := ⟨_, rfl⟩
                    obtain ⟨fa_70, nfa_70⟩ : ∃ g : Nat → Int32, h_61.2.1 q_28 = g := ⟨_, rfl⟩
                    refine hx_goi (hx_runV (As := [.ref q_6, .ref q_64]) (rest := [.ref q_6]) ⟨hx, hb, hml, hown, hts⟩ hW gx tt_9 (T := TX9) (N := 20) rfl (t_X9_judgement_v l dC dI dA L_53 h_61 H.size x q_6 q_64 hT gx gq_6 gq_64 qp gqp f_x_7 qc gqc f_x_10 q_65 gq_65 fq_65 q_66 gq_66 fq_66 q_28 gq_28 fq_28 i1 fo_9 ⟨by omega, by omega⟩ fa_68 nfa_68 fa_69 nfa_69 fa_70 nfa_70 cn0 f_x_11 pn0 f_x_8 fv_67 ffv_67 frf cl_qc_7 smf cl_qc_6 flf cl_qc_8 bnf cl_qp_1 nu_qp agf byf hDF hDP (A (plf i1.toNatClampNeg).toInt.toNat).2.1 (by rw [← nfa_68]; exact hAQ9.2.2.1 _ fq_65) (hAB _).1 (A (plf i1.toNatClampNeg).toInt.toNat).2.2 (hAB _).2 (by have h8 := hAQ9.2.2.2 _ fq_66; rw [nfa_69, ffv_67] at h8; exact h8) (by omega) pf_x_8 pf_x_11) (cwV 2 hts (hx_gV kw_830 kw_827 kw_829 kw_28 kw_94) rfl rfl rfl (by decide +kernel) ⟨Nat.le_of_ble_eq_true rfl, Nat.le_of_ble_eq_true rfl⟩) rfl hl.1 rfl (Nat.le_of_ble_eq_true rfl) dX9_hear_210 ⟨Nat.le_of_ble_eq_true rfl, Nat.le_of_ble_eq_true rfl⟩) hW (fun r_73 L_71 h_72 H locs p_74 hW => ?_)
                    obtain ⟨hr_75, hT, hs⟩ := p_74
                    replace hT : hx_T T_tb L_71 h_72 := hT
                    replace hs : hx_S T_tb [] L_53 h_61 L_71 h_72 := hs
                    replace f_x_7 := (hs.o gx trivial rfl).2.trans f_x_7
                    replace f_x_10 := (hs.o gx trivial rfl).2.trans f_x_10
                    replace f_x_12 := (hs.o gx trivial rfl).2.trans f_x_12
                    replace f_x_9 := (hs.o gx trivial rfl).2.trans f_x_9
                    replace f_x_15 := (hs.o gx trivial rfl).2.trans f_x_15
                    replace f_x_11 := (hs.o gx trivial rfl).1.trans f_x_11
                    replace f_x_8 := (hs.o gx trivial rfl).1.trans f_x_8
                    replace f_x_13 := (hs.o gx trivial rfl).1.trans f_x_13
                    replace f_x_2 := (hs.o gx trivial rfl).1.trans f_x_2
                    replace fx_10 := (hs.o gq_6 trivial rfl).1.trans fx_10
                    replace fq_14 := (hs.o gq_6 trivial rfl).2.trans fq_14
                    replace fx_15 := (hs.o gq_14 trivial rfl).1.trans fx_15
                    replace fq_25 := (hs.o gq_6 trivial rfl).2.trans fq_25
                    replace fx_26 := (hs.o gq_25 trivial rfl).1.trans fx_26
                    replace fx_27 := (hs.o gq_14 trivial rfl).1.trans fx_27
                    replace fq_28 := (hs.o gq_6 trivial rfl).2.trans fq_28
                    replace fx_35 := (hs.o gq_6 trivial rfl).1.trans fx_35
                    replace f_62 := (hs.o gq_6 trivial rfl).1.trans f_62
                    replace fq_64 := (hs.o gq_6 trivial rfl).2.trans fq_64
                    replace fq_65 := (hs.o gq_64 trivial rfl).2.trans fq_65
                    replace fq_66 := (hs.o gq_64 trivial rfl).2.trans fq_66
                    replace ffv_67 := (hs.o gq_64 trivial rfl).1.trans ffv_67
                    replace pf_x_8 : ∀ j : Nat, (j : Int) < (h_72.2.1 x 8).toInt → h_72.2.2 qp j ≠ none := by
                      intro j hj; rw [(hs.o gx trivial rfl).1] at hj; rw [(hs.a gqp rfl j).2]; exact pf_x_8 j hj
                    replace pf_x_11 : ∀ j : Nat, (j : Int) < (h_72.2.1 x 11).toInt → h_72.2.2 qc j ≠ none := by
                      intro j hj; rw [(hs.o gx trivial rfl).1] at hj; rw [(hs.a gqc rfl j).2]; exact pf_x_11 j hj
                    replace pf_x_13 : ∀ j : Nat, (j : Int) < (h_72.2.1 x 13).toInt → h_72.2.2 qh j ≠ none := by
                      intro j hj; rw [(hs.o gx trivial rfl).1] at hj; rw [(hs.a gqh rfl j).2]; exact pf_x_13 j hj
                    replace cl_qp_7 : hx_col 40 h_72 qp 7 = ddf := (hx_col_S hs hTo gqp tt_44 tt_4 rfl rfl).trans cl_qp_7
                    replace cl_qp_8 : hx_col 40 h_72 qp 8 = jjf := (hx_col_S hs hTo gqp tt_44 tt_4 rfl rfl).trans cl_qp_8
                    replace cl_qp_2 : hx_col 40 h_72 qp 2 = kkf := (hx_col_S hs hTo gqp tt_44 tt_4 rfl rfl).trans cl_qp_2
                    replace cl_qp_1 : hx_col 40 h_72 qp 1 = bnf := (hx_col_S hs hTo gqp tt_44 tt_4 rfl rfl).trans cl_qp_1
                    replace cl_qc_10 : hx_col 100 h_72 qc 10 = fof := (hx_col_S hs hTo gqc tt_45 tt_2 rfl rfl).trans cl_qc_10
                    replace cl_qc_12 : hx_col 100 h_72 qc 12 = udf := (hx_col_S hs hTo gqc tt_45 tt_2 rfl rfl).trans cl_qc_12
                    replace cl_qc_6 : hx_col 100 h_72 qc 6 = smf := (hx_col_S hs hTo gqc tt_45 tt_2 rfl rfl).trans cl_qc_6
                    replace cl_qc_7 : hx_col 100 h_72 qc 7 = frf := (hx_col_S hs hTo gqc tt_45 tt_2 rfl rfl).trans cl_qc_7
                    replace cl_qc_8 : hx_col 100 h_72 qc 8 = flf := (hx_col_S hs hTo gqc tt_45 tt_2 rfl rfl).trans cl_qc_8
                    replace nfc_63 : hx_col 100 h_72 qc 11 = fc_63 := (hx_col_S hs hTo gqc tt_45 tt_2 rfl rfl).trans nfc_63
                    replace nu_qp : hx_num 40 h_72 qp 0 (pn0.toInt) := hx_num_S hs hTo gqp tt_44 tt_4 rfl rfl nu_qp
                    replace nu_qc : hx_num 100 h_72 qc 0 (cn0.toInt) := hx_num_S hs hTo gqc tt_45 tt_2 rfl rfl nu_qc
                    replace hDF : hw_DF h_72 qc qp 2 agf cn0.toInt := hw_DF_S hs hTo gqc gqp tt_45 tt_2 rfl rfl rfl hDF
                    replace hDP : hw_DF h_72 qc qp 1 byf cn0.toInt := hw_DF_S hs hTo gqc gqp tt_45 tt_2 rfl rfl rfl hDP
                    replace hAC : hv_AC h_72 qc plf cn0.toInt A := hv_AC_S hs hTo gqc tt_45 tt_2 rfl tt_0 rfl rfl rfl rfl rfl rfl rfl hAC
                    replace hHL : hv_HL h_72 qh qc hof m0.toInt cn0.toInt := hv_HL_S hs gqh gqc rfl rfl hHL
                    replace hBX9 : hv_FX 3 5 h_72 qc bF9 cn0.toInt := hv_FX_S hs hTo gqc tt_45 tt_2 rfl rfl rfl rfl hBX9
                    replace nxF_60 : hv_FX 8 4 h_72 qc xF_60 cn0.toInt := hv_FX_S hs hTo gqc tt_45 tt_2 rfl rfl rfl rfl nxF_60
                    replace fo_9 := (hs.a gqc rfl _).2.trans fo_9
                    replace eoq_14 := (hs.a gqp rfl _).2.trans eoq_14
                    replace eoq_25 := (hs.a gqp rfl _).2.trans eoq_25
                    replace nfa_68 : h_72.2.1 q_65 = fa_68 := (funext fun j => (hs.a gq_65 rfl j).1).trans nfa_68
                    replace nfa_69 : h_72.2.1 q_66 = fa_69 := (funext fun j => (hs.a gq_66 rfl j).1).trans nfa_69
                    replace nfa_70 : h_72.2.1 q_28 = fa_70 := (funext fun j => (hs.a gq_28 rfl j).1).trans nfa_70
                    replace hM := hM.tr (hs.mono (by decide))
                    replace gx := gx.S hs
                    replace gqp := gqp.S hs
                    replace gqc := gqc.S hs
                    replace gqh := gqh.S hs
                    replace gq_6 := gq_6.S hs
                    replace gq_14 := gq_14.S hs
                    replace gq_25 := gq_25.S hs
                    replace gq_28 := gq_28.S hs
                    replace gq_64 := gq_64.S hs
                    replace gq_65 := gq_65.S hs
                    replace gq_66 := gq_66.S hs
                    have hJ9 : r_73.toInt = (hv_jg (hv_F0 xF_60 (8 * i1.toNatClampNeg)) (A (plf i1.toNatClampNeg).toInt.toNat).2.1 (A (plf i1.toNatClampNeg).toInt.toNat).2.2 (frf i1.toNatClampNeg).toInt (bnf (agf i1.toNatClampNeg).toNatClampNeg).toInt (smf i1.toNatClampNeg).toInt (hv_sm byf agf flf smf (byf i1.toNatClampNeg).toInt (agf i1.toNatClampNeg).toInt ((flf i1.toNatClampNeg).toInt - (A (plf i1.toNatClampNeg).toInt.toNat).2.1 1) cn0.toInt.toNat)) := by rw [hr_75.1]; exact hv_jg_e (hAB _).2 (fun k hk => by have h8 := (nxF_60).1 i1.toNatClampNeg (by unfold Int32.toNatClampNeg; omega) (by unfold Int32.toNatClampNeg; omega) _ _ fo_9 fq_28 k hk; rw [nfa_70] at h8; exact congrArg Int32.toInt h8)
                    have hTo := hT
                    have cl_qc_12O := cl_qc_12
                    have nu_qcO := nu_qc
                    have fo_9O := fo_9
                    refine hx_puti hx hb hts hC_2 hown hW hT (hx_S.rf (M := [(2, 12)])) gq_6 tt_2 12 (by decide) rfl kw_751 ⟨rfl, rfl, rfl⟩ rfl (x := r_73) ⟨by omega, by omega⟩ rfl rfl rfl (List.mem_singleton.mpr rfl) dX9_hear_213 (fun H locs h_76 eh_76 hW hT hs => ?_)
                    replace f_x_7 := (hs.o gx trivial rfl).2.trans f_x_7
                    replace f_x_10 := (hs.o gx trivial rfl).2.trans f_x_10
                    replace f_x_12 := (hs.o gx trivial rfl).2.trans f_x_12
                    replace f_x_9 := (hs.o gx trivial rfl).2.trans f_x_9
                    replace f_x_15 := (hs.o gx trivial rfl).2.trans f_x_15
                    replace f_x_11 := (hs.o gx trivial rfl).1.trans f_x_11
                    replace f_x_8 := (hs.o gx trivial rfl).1.trans f_x_8
                    replace f_x_13 := (hs.o gx trivial rfl).1.trans f_x_13
                    replace f_x_2 := (hs.o gx trivial rfl).1.trans f_x_2
                    replace fx_10 := (hs.o gq_6 trivial rfl).1.trans fx_10
                    replace fq_14 := (hs.o gq_6 trivial rfl).2.trans fq_14
                    replace fx_15 := (hs.o gq_14 trivial rfl).1.trans fx_15
                    replace fq_25 := (hs.o gq_6 trivial rfl).2.trans fq_25
                    replace fx_26 := (hs.o gq_25 trivial rfl).1.trans fx_26
                    replace fx_27 := (hs.o gq_14 trivial rfl).1.trans fx_27
                    replace fq_28 := (hs.o gq_6 trivial rfl).2.trans fq_28
                    replace fx_35 := (hs.o gq_6 trivial rfl).1.trans fx_35
                    replace f_62 := (hs.o gq_6 trivial rfl).1.trans f_62
                    replace fq_64 := (hs.o gq_6 trivial rfl).2.trans fq_64
                    replace fq_65 := (hs.o gq_64 trivial rfl).2.trans fq_65
                    replace fq_66 := (hs.o gq_64 trivial rfl).2.trans fq_66
                    replace ffv_67 := (hs.o gq_64 trivial rfl).1.trans ffv_67
                    replace pf_x_8 : ∀ j : Nat, (j : Int) < (h_76.2.1 x 8).toInt → h_76.2.2 qp j ≠ none := by
                      intro j hj; rw [(hs.o gx trivial rfl).1] at hj; rw [(hs.a gqp rfl j).2]; exact pf_x_8 j hj
                    replace pf_x_11 : ∀ j : Nat, (j : Int) < (h_76.2.1 x 11).toInt → h_76.2.2 qc j ≠ none := by
                      intro j hj; rw [(hs.o gx trivial rfl).1] at hj; rw [(hs.a gqc rfl j).2]; exact pf_x_11 j hj
                    replace pf_x_13 : ∀ j : Nat, (j : Int) < (h_76.2.1 x 13).toInt → h_76.2.2 qh j ≠ none := by
                      intro j hj; rw [(hs.o gx trivial rfl).1] at hj; rw [(hs.a gqh rfl j).2]; exact pf_x_13 j hj
                    replace cl_qp_7 : hx_col 40 h_76 qp 7 = ddf := (hx_col_S hs hTo gqp tt_44 tt_4 rfl rfl).trans cl_qp_7
                    replace cl_qp_8 : hx_col 40 h_76 qp 8 = jjf := (hx_col_S hs hTo gqp tt_44 tt_4 rfl rfl).trans cl_qp_8
                    replace cl_qp_2 : hx_col 40 h_76 qp 2 = kkf := (hx_col_S hs hTo gqp tt_44 tt_4 rfl rfl).trans cl_qp_2
                    replace cl_qp_1 : hx_col 40 h_76 qp 1 = bnf := (hx_col_S hs hTo gqp tt_44 tt_4 rfl rfl).trans cl_qp_1
                    replace cl_qc_10 : hx_col 100 h_76 qc 10 = fof := (hx_col_S hs hTo gqc tt_45 tt_2 rfl rfl).trans cl_qc_10
                    replace cl_qc_6 : hx_col 100 h_76 qc 6 = smf := (hx_col_S hs hTo gqc tt_45 tt_2 rfl rfl).trans cl_qc_6
                    replace cl_qc_7 : hx_col 100 h_76 qc 7 = frf := (hx_col_S hs hTo gqc tt_45 tt_2 rfl rfl).trans cl_qc_7
                    replace cl_qc_8 : hx_col 100 h_76 qc 8 = flf := (hx_col_S hs hTo gqc tt_45 tt_2 rfl rfl).trans cl_qc_8
                    replace nfc_63 : hx_col 100 h_76 qc 11 = fc_63 := (hx_col_S hs hTo gqc tt_45 tt_2 rfl rfl).trans nfc_63
                    replace nu_qp : hx_num 40 h_76 qp 0 (pn0.toInt) := hx_num_S hs hTo gqp tt_44 tt_4 rfl rfl nu_qp
                    replace nu_qc : hx_num 100 h_76 qc 0 (cn0.toInt) := hx_num_S hs hTo gqc tt_45 tt_2 rfl rfl nu_qc
                    replace hDF : hw_DF h_76 qc qp 2 agf cn0.toInt := hw_DF_S hs hTo gqc gqp tt_45 tt_2 rfl rfl rfl hDF
                    replace hDP : hw_DF h_76 qc qp 1 byf cn0.toInt := hw_DF_S hs hTo gqc gqp tt_45 tt_2 rfl rfl rfl hDP
                    replace hAC : hv_AC h_76 qc plf cn0.toInt A := hv_AC_S hs hTo gqc tt_45 tt_2 rfl tt_0 rfl rfl rfl rfl rfl rfl rfl hAC
                    replace hHL : hv_HL h_76 qh qc hof m0.toInt cn0.toInt := hv_HL_S hs gqh gqc rfl rfl hHL
                    replace hBX9 : hv_FX 3 5 h_76 qc bF9 cn0.toInt := hv_FX_S hs hTo gqc tt_45 tt_2 rfl rfl rfl rfl hBX9
                    replace nxF_60 : hv_FX 8 4 h_76 qc xF_60 cn0.toInt := hv_FX_S hs hTo gqc tt_45 tt_2 rfl rfl rfl rfl nxF_60
                    replace fo_9 := (hs.a gqc rfl _).2.trans fo_9
                    replace eoq_14 := (hs.a gqp rfl _).2.trans eoq_14
                    replace eoq_25 := (hs.a gqp rfl _).2.trans eoq_25
                    replace nfa_68 : h_76.2.1 q_65 = fa_68 := (funext fun j => (hs.a gq_65 rfl j).1).trans nfa_68
                    replace nfa_69 : h_76.2.1 q_66 = fa_69 := (funext fun j => (hs.a gq_66 rfl j).1).trans nfa_69
                    replace nfa_70 : h_76.2.1 q_28 = fa_70 := (funext fun j => (hs.a gq_28 rfl j).1).trans nfa_70
                    replace hM := hM.tr (hs.mono (by decide))
                    replace gx := gx.S hs
                    replace gqp := gqp.S hs
                    replace gqc := gqc.S hs
                    replace gqh := gqh.S hs
                    replace gq_6 := gq_6.S hs
                    replace gq_14 := gq_14.S hs
                    replace gq_25 := gq_25.S hs
                    replace gq_28 := gq_28.S hs
                    replace gq_64 := gq_64.S hs
                    replace gq_65 := gq_65.S hs
                    replace gq_66 := gq_66.S hs
                    have f_77 : h_76.2.1 q_6 12 = r_73 := by rw [eh_76]; exact hx_pi_at _ _ _ _
                    obtain ⟨fc_78, dfc_78⟩ : ∃ g : Nat → Int32, g = hx_up udf i1.toNatClampNeg r_73 := ⟨_, rfl⟩
                    have nfc_78 : hx_col 100 h_76 qc 12 = fc_78 := by rw [dfc_78, ← cl_qc_12O]; exact hx_col_pi nu_qcO fo_9O (by unfold Int32.toNatClampNeg; omega) eh_76
                    refine lv_aload_n hx hb dX9_hear_216 rfl (lv_at hl 3 rfl) ?_
                    refine hk_getr hx hb hts hC_9 hown hW gx tt_9 12 (by decide) rfl kw_376 ⟨rfl, rfl, rfl⟩ f_x_12 dX9_hear_217 ?_
                    refine lv_aload_n hx hb dX9_hear_220 rfl (lv_at hl 3 rfl) ?_
                    refine hk_geti hx hb hts hC_9 hown hW gx tt_9 13 (by decide) rfl kw_377 ⟨rfl, rfl, rfl⟩ f_x_13 dX9_hear_221 ?_
                    refine lv_aload hx hb dX9_hear_224 (lv_at hl 2 rfl) ?_
                    have hHLO9 := hHL
                    have foO9 := fo_9
                    have gqhO9 := gqh
                    have gqcO8 := gqc
                    have hTo := hT
                    have pf_x_13O := pf_x_13
                    refine hx_aast hx hb hW hT (hx_S.rf (M := [(46, 0)])) gqh tt_46 rfl gq_6 tt_2 rfl (by decide) ⟨by omega, by omega⟩ (List.mem_singleton.mpr rfl) dX9_hear_226 (fun H locs h_79 eh_79 hW hT hs => ?_)
                    replace f_x_7 := (hs.o gx trivial rfl).2.trans f_x_7
                    replace f_x_10 := (hs.o gx trivial rfl).2.trans f_x_10
                    replace f_x_12 := (hs.o gx trivial rfl).2.trans f_x_12
                    replace f_x_9 := (hs.o gx trivial rfl).2.trans f_x_9
                    replace f_x_15 := (hs.o gx trivial rfl).2.trans f_x_15
                    replace f_x_11 := (hs.o gx trivial rfl).1.trans f_x_11
                    replace f_x_8 := (hs.o gx trivial rfl).1.trans f_x_8
                    replace f_x_13 := (hs.o gx trivial rfl).1.trans f_x_13
                    replace f_x_2 := (hs.o gx trivial rfl).1.trans f_x_2
                    replace fx_10 := (hs.o gq_6 trivial rfl).1.trans fx_10
                    replace fq_14 := (hs.o gq_6 trivial rfl).2.trans fq_14
                    replace fx_15 := (hs.o gq_14 trivial rfl).1.trans fx_15
                    replace fq_25 := (hs.o gq_6 trivial rfl).2.trans fq_25
                    replace fx_26 := (hs.o gq_25 trivial rfl).1.trans fx_26
                    replace fx_27 := (hs.o gq_14 trivial rfl).1.trans fx_27
                    replace fq_28 := (hs.o gq_6 trivial rfl).2.trans fq_28
                    replace fx_35 := (hs.o gq_6 trivial rfl).1.trans fx_35
                    replace f_62 := (hs.o gq_6 trivial rfl).1.trans f_62
                    replace fq_64 := (hs.o gq_6 trivial rfl).2.trans fq_64
                    replace fq_65 := (hs.o gq_64 trivial rfl).2.trans fq_65
                    replace fq_66 := (hs.o gq_64 trivial rfl).2.trans fq_66
                    replace ffv_67 := (hs.o gq_64 trivial rfl).1.trans ffv_67
                    replace f_77 := (hs.o gq_6 trivial rfl).1.trans f_77
                    replace pf_x_8 : ∀ j : Nat, (j : Int) < (h_79.2.1 x 8).toInt → h_79.2.2 qp j ≠ none := by
                      intro j hj; rw [(hs.o gx trivial rfl).1] at hj; rw [(hs.a gqp rfl j).2]; exact pf_x_8 j hj
                    replace pf_x_11 : ∀ j : Nat, (j : Int) < (h_79.2.1 x 11).toInt → h_79.2.2 qc j ≠ none := by
                      intro j hj; rw [(hs.o gx trivial rfl).1] at hj; rw [(hs.a gqc rfl j).2]; exact pf_x_11 j hj
                    replace cl_qp_7 : hx_col 40 h_79 qp 7 = ddf := (hx_col_S hs hTo gqp tt_44 tt_4 rfl rfl).trans cl_qp_7
                    replace cl_qp_8 : hx_col 40 h_79 qp 8 = jjf := (hx_col_S hs hTo gqp tt_44 tt_4 rfl rfl).trans cl_qp_8
                    replace cl_qp_2 : hx_col 40 h_79 qp 2 = kkf := (hx_col_S hs hTo gqp tt_44 tt_4 rfl rfl).trans cl_qp_2
                    replace cl_qp_1 : hx_col 40 h_79 qp 1 = bnf := (hx_col_S hs hTo gqp tt_44 tt_4 rfl rfl).trans cl_qp_1
                    replace cl_qc_10 : hx_col 100 h_79 qc 10 = fof := (hx_col_S hs hTo gqc tt_45 tt_2 rfl rfl).trans cl_qc_10
                    replace cl_qc_6 : hx_col 100 h_79 qc 6 = smf := (hx_col_S hs hTo gqc tt_45 tt_2 rfl rfl).trans cl_qc_6
                    replace cl_qc_7 : hx_col 100 h_79 qc 7 = frf := (hx_col_S hs hTo gqc tt_45 tt_2 rfl rfl).trans cl_qc_7
                    replace cl_qc_8 : hx_col 100 h_79 qc 8 = flf := (hx_col_S hs hTo gqc tt_45 tt_2 rfl rfl).trans cl_qc_8
                    replace nfc_63 : hx_col 100 h_79 qc 11 = fc_63 := (hx_col_S hs hTo gqc tt_45 tt_2 rfl rfl).trans nfc_63
                    replace nfc_78 : hx_col 100 h_79 qc 12 = fc_78 := (hx_col_S hs hTo gqc tt_45 tt_2 rfl rfl).trans nfc_78
                    replace nu_qp : hx_num 40 h_79 qp 0 (pn0.toInt) := hx_num_S hs hTo gqp tt_44 tt_4 rfl rfl nu_qp
                    replace nu_qc : hx_num 100 h_79 qc 0 (cn0.toInt) := hx_num_S hs hTo gqc tt_45 tt_2 rfl rfl nu_qc
                    replace hDF : hw_DF h_79 qc qp 2 agf cn0.toInt := hw_DF_S hs hTo gqc gqp tt_45 tt_2 rfl rfl rfl hDF
                    replace hDP : hw_DF h_79 qc qp 1 byf cn0.toInt := hw_DF_S hs hTo gqc gqp tt_45 tt_2 rfl rfl rfl hDP
                    replace hAC : hv_AC h_79 qc plf cn0.toInt A := hv_AC_S hs hTo gqc tt_45 tt_2 rfl tt_0 rfl rfl rfl rfl rfl rfl rfl hAC
                    replace hBX9 : hv_FX 3 5 h_79 qc bF9 cn0.toInt := hv_FX_S hs hTo gqc tt_45 tt_2 rfl rfl rfl rfl hBX9
                    replace nxF_60 : hv_FX 8 4 h_79 qc xF_60 cn0.toInt := hv_FX_S hs hTo gqc tt_45 tt_2 rfl rfl rfl rfl nxF_60
                    replace fo_9 := (hs.a gqc rfl _).2.trans fo_9
                    replace eoq_14 := (hs.a gqp rfl _).2.trans eoq_14
                    replace eoq_25 := (hs.a gqp rfl _).2.trans eoq_25
                    replace nfa_68 : h_79.2.1 q_65 = fa_68 := (funext fun j => (hs.a gq_65 rfl j).1).trans nfa_68
                    replace nfa_69 : h_79.2.1 q_66 = fa_69 := (funext fun j => (hs.a gq_66 rfl j).1).trans nfa_69
                    replace nfa_70 : h_79.2.1 q_28 = fa_70 := (funext fun j => (hs.a gq_28 rfl j).1).trans nfa_70
                    replace hM := hM.tr (hs.mono (by decide))
                    replace gx := gx.S hs
                    replace gqp := gqp.S hs
                    replace gqc := gqc.S hs
                    replace gqh := gqh.S hs
                    replace gq_6 := gq_6.S hs
                    replace gq_14 := gq_14.S hs
                    replace gq_25 := gq_25.S hs
                    replace gq_28 := gq_28.S hs
                    replace gq_64 := gq_64.S hs
                    replace gq_65 := gq_65.S hs
                    replace gq_66 := gq_66.S hs
                    have pf_x_13 : ∀ j : Nat, (j : Int) < (h_79.2.1 x 13).toInt → h_79.2.2 qh j ≠ none := hx_pfk pf_x_13O eh_79
                    have px_80 : ∀ j : Nat, (j : Int) < m0.toInt + 1 → h_79.2.2 qh j ≠ none := hx_pfx pf_x_13O (by first | exact f_x_13 | exact ((hs.o gx trivial rfl).1.symm.trans f_x_13)) (by omega) eh_79
                    have hHL9 : hv_HL h_79 qh qc (hx_up hof m0.toInt.toNat i1) (m0.toInt + 1) cn0.toInt := hv_HL_h hHLO9 (gqhO9.ne gqcO8 (by decide)) eh_79 (by omega) rfl (by omega) (by omega) foO9 rfl
                    refine lv_aload_n hx hb dX9_hear_227 rfl (lv_at hl 3 rfl) ?_
                    refine lv_dup hx hb dX9_hear_228 rfl ?_
                    refine hk_geti hx hb hts hC_9 hown hW gx tt_9 13 (by decide) rfl kw_377 ⟨rfl, rfl, rfl⟩ f_x_13 dX9_hear_229 ?_
                    refine lv_iconst (v := 1) hx hb dX9_hear_232 (by decide) ?_
                    refine lv_iadd hx hb dX9_hear_233 ?_
                    have rg_81 := i32_r m0
                    refine lv_topi (fun x_82 ex_82 => ?_)
                    have zx_82 : x_82.toInt = m0.toInt + 1 := by rw [ex_82]; exact i32_add rfl (by decide) (by omega) (by omega)
                    have hTo := hT
                    refine hx_puti hx hb hts hC_9 hown hW hT (hx_S.rf (M := [(9, 13)])) gx tt_9 13 (by decide) rfl kw_377 ⟨rfl, rfl, rfl⟩ rfl (x := x_82) ⟨by omega, by omega⟩ rfl rfl rfl (List.mem_singleton.mpr rfl) dX9_hear_234 (fun H locs h_83 eh_83 hW hT hs => ?_)
                    replace px_80 : ∀ j : Nat, (j : Int) < m0.toInt + 1 → h_83.2.2 qh j ≠ none := fun j hj => by rw [(hs.a gqh rfl j).2]; exact px_80 j hj
                    replace f_x_7 := (hs.o gx trivial rfl).2.trans f_x_7
                    replace f_x_10 := (hs.o gx trivial rfl).2.trans f_x_10
                    replace f_x_12 := (hs.o gx trivial rfl).2.trans f_x_12
                    replace f_x_9 := (hs.o gx trivial rfl).2.trans f_x_9
                    replace f_x_15 := (hs.o gx trivial rfl).2.trans f_x_15
                    replace f_x_11 := (hs.o gx trivial rfl).1.trans f_x_11
                    replace f_x_8 := (hs.o gx trivial rfl).1.trans f_x_8
                    replace f_x_2 := (hs.o gx trivial rfl).1.trans f_x_2
                    replace fx_10 := (hs.o gq_6 trivial rfl).1.trans fx_10
                    replace fq_14 := (hs.o gq_6 trivial rfl).2.trans fq_14
                    replace fx_15 := (hs.o gq_14 trivial rfl).1.trans fx_15
                    replace fq_25 := (hs.o gq_6 trivial rfl).2.trans fq_25
                    replace fx_26 := (hs.o gq_25 trivial rfl).1.trans fx_26
                    replace fx_27 := (hs.o gq_14 trivial rfl).1.trans fx_27
                    replace fq_28 := (hs.o gq_6 trivial rfl).2.trans fq_28
                    replace fx_35 := (hs.o gq_6 trivial rfl).1.trans fx_35
                    replace f_62 := (hs.o gq_6 trivial rfl).1.trans f_62
                    replace fq_64 := (hs.o gq_6 trivial rfl).2.trans fq_64
                    replace fq_65 := (hs.o gq_64 trivial rfl).2.trans fq_65
                    replace fq_66 := (hs.o gq_64 trivial rfl).2.trans fq_66
                    replace ffv_67 := (hs.o gq_64 trivial rfl).1.trans ffv_67
                    replace f_77 := (hs.o gq_6 trivial rfl).1.trans f_77
                    replace pf_x_8 : ∀ j : Nat, (j : Int) < (h_83.2.1 x 8).toInt → h_83.2.2 qp j ≠ none := by
                      intro j hj; rw [(hs.o gx trivial rfl).1] at hj; rw [(hs.a gqp rfl j).2]; exact pf_x_8 j hj
                    replace pf_x_11 : ∀ j : Nat, (j : Int) < (h_83.2.1 x 11).toInt → h_83.2.2 qc j ≠ none := by
                      intro j hj; rw [(hs.o gx trivial rfl).1] at hj; rw [(hs.a gqc rfl j).2]; exact pf_x_11 j hj
                    replace cl_qp_7 : hx_col 40 h_83 qp 7 = ddf := (hx_col_S hs hTo gqp tt_44 tt_4 rfl rfl).trans cl_qp_7
                    replace cl_qp_8 : hx_col 40 h_83 qp 8 = jjf := (hx_col_S hs hTo gqp tt_44 tt_4 rfl rfl).trans cl_qp_8
                    replace cl_qp_2 : hx_col 40 h_83 qp 2 = kkf := (hx_col_S hs hTo gqp tt_44 tt_4 rfl rfl).trans cl_qp_2
                    replace cl_qp_1 : hx_col 40 h_83 qp 1 = bnf := (hx_col_S hs hTo gqp tt_44 tt_4 rfl rfl).trans cl_qp_1
                    replace cl_qc_10 : hx_col 100 h_83 qc 10 = fof := (hx_col_S hs hTo gqc tt_45 tt_2 rfl rfl).trans cl_qc_10
                    replace cl_qc_6 : hx_col 100 h_83 qc 6 = smf := (hx_col_S hs hTo gqc tt_45 tt_2 rfl rfl).trans cl_qc_6
                    replace cl_qc_7 : hx_col 100 h_83 qc 7 = frf := (hx_col_S hs hTo gqc tt_45 tt_2 rfl rfl).trans cl_qc_7
                    replace cl_qc_8 : hx_col 100 h_83 qc 8 = flf := (hx_col_S hs hTo gqc tt_45 tt_2 rfl rfl).trans cl_qc_8
                    replace nfc_63 : hx_col 100 h_83 qc 11 = fc_63 := (hx_col_S hs hTo gqc tt_45 tt_2 rfl rfl).trans nfc_63
                    replace nfc_78 : hx_col 100 h_83 qc 12 = fc_78 := (hx_col_S hs hTo gqc tt_45 tt_2 rfl rfl).trans nfc_78
                    replace nu_qp : hx_num 40 h_83 qp 0 (pn0.toInt) := hx_num_S hs hTo gqp tt_44 tt_4 rfl rfl nu_qp
                    replace nu_qc : hx_num 100 h_83 qc 0 (cn0.toInt) := hx_num_S hs hTo gqc tt_45 tt_2 rfl rfl nu_qc
                    replace hDF : hw_DF h_83 qc qp 2 agf cn0.toInt := hw_DF_S hs hTo gqc gqp tt_45 tt_2 rfl rfl rfl hDF
                    replace hDP : hw_DF h_83 qc qp 1 byf cn0.toInt := hw_DF_S hs hTo gqc gqp tt_45 tt_2 rfl rfl rfl hDP
                    replace hAC : hv_AC h_83 qc plf cn0.toInt A := hv_AC_S hs hTo gqc tt_45 tt_2 rfl tt_0 rfl rfl rfl rfl rfl rfl rfl hAC
                    replace hBX9 : hv_FX 3 5 h_83 qc bF9 cn0.toInt := hv_FX_S hs hTo gqc tt_45 tt_2 rfl rfl rfl rfl hBX9
                    replace nxF_60 : hv_FX 8 4 h_83 qc xF_60 cn0.toInt := hv_FX_S hs hTo gqc tt_45 tt_2 rfl rfl rfl rfl nxF_60
                    replace hHL9 : hv_HL h_83 qh qc (hx_up hof m0.toInt.toNat i1) (m0.toInt + 1) cn0.toInt := hv_HL_S hs gqh gqc rfl rfl hHL9
                    replace fo_9 := (hs.a gqc rfl _).2.trans fo_9
                    replace eoq_14 := (hs.a gqp rfl _).2.trans eoq_14
                    replace eoq_25 := (hs.a gqp rfl _).2.trans eoq_25
                    replace nfa_68 : h_83.2.1 q_65 = fa_68 := (funext fun j => (hs.a gq_65 rfl j).1).trans nfa_68
                    replace nfa_69 : h_83.2.1 q_66 = fa_69 := (funext fun j => (hs.a gq_66 rfl j).1).trans nfa_69
                    replace nfa_70 : h_83.2.1 q_28 = fa_70 := (funext fun j => (hs.a gq_28 rfl j).1).trans nfa_70
                    replace hM := hM.tr (hs.mono (by decide))
                    replace gx := gx.S hs
                    replace gqp := gqp.S hs
                    replace gqc := gqc.S hs
                    replace gqh := gqh.S hs
                    replace gq_6 := gq_6.S hs
                    replace gq_14 := gq_14.S hs
                    replace gq_25 := gq_25.S hs
                    replace gq_28 := gq_28.S hs
                    replace gq_64 := gq_64.S hs
                    replace gq_65 := gq_65.S hs
                    replace gq_66 := gq_66.S hs
                    have f_84 : h_83.2.1 x 13 = x_82 := by rw [eh_83]; exact hx_pi_at _ _ _ _
                    have pf_85 : ∀ j : Nat, (j : Int) < (h_83.2.1 x 13).toInt → h_83.2.2 qh j ≠ none := fun j hj => px_80 j (by rw [f_84] at hj; omega)
                    refine lv_aload hx hb dX9_hear_237 (lv_at hl 2 rfl) ?_
                    refine hk_geti hx hb hts hC_2 hown hW gq_6 tt_2 12 (by decide) rfl kw_751 ⟨rfl, rfl, rfl⟩ f_77 dX9_hear_239 ?_
                    exact hx_reti hx hb hr hlk hW ⟨⟨x_82, fc_63, fc_78, f_84, nfc_63, nfc_78, ⟨xF_60, bF9, _, Or.inr ⟨⟨⟨by omega, by omega⟩, (by rw [show fof i1.toInt.toNat = x_10 from cx_10.symm]; omega), (by rw [show hrf i1.toInt.toNat = x_12 from cx_12.symm]; omega), (by rw [show ddf (agf i1.toInt.toNat).toInt.toNat = x_15 from cx_15.symm]; omega), by omega, hN3⟩, hJ9, ⟨by omega, by omega⟩, by omega, dfc_63, dfc_78, rfl⟩, nxF_60, hBX9, (hv_HL_e hHL9 rfl (by omega) rfl), Or.inr ⟨by omega, (hv_CU_i dxF_31 dxF_34 dxF_43 dxF_52 dxF_60 (Int32.toInt_inj.mp nS_41) (by rw [ex_50, Int32.toInt_inj.mp nS_49]) nS_58), ⟨b0_9, b1_9, b2_9, hBN9, hBe9⟩⟩⟩⟩, hT, hM, pf_85⟩ dX9_hear_242
                  refine hb_if_eq (zx := i3.toInt) (tgt := 118) hx hb rfl dX9_hear_111 (by decide) (fun c_86 => ?_) (fun c_86 => ?_)
                  · skip
                    refine lv_iconst (v := 0) hx hb dX9_hear_118 (by decide) ?_
                    have zj_119 : (0 : Int32).toInt = 0 := by decide
                    exact jn_119 (0 : Int32) ls (by decide) (by decide) (by omega) hl
                  · skip
                    refine lv_iconst (v := 1) hx hb dX9_hear_114 (by decide) ?_
                    refine lv_goto (tgt := 119) hx hb dX9_hear_115 (by decide) ?_
                    have zj_119 : (1 : Int32).toInt = 1 := by decide
                    exact jn_119 (1 : Int32) ls (by decide) (by decide) (by omega) hl
                refine hb_if_eq (zx := i2.toInt) (tgt := 102) hx hb rfl dX9_hear_95 (by decide) (fun c_87 => ?_) (fun c_87 => ?_)
                · skip
                  refine lv_iconst (v := 0) hx hb dX9_hear_102 (by decide) ?_
                  have zj_103 : (0 : Int32).toInt = 0 := by decide
                  exact jn_103 (0 : Int32) ls (by decide) (by decide) (by omega) hl
                · skip
                  refine lv_iconst (v := 1) hx hb dX9_hear_98 (by decide) ?_
                  refine lv_goto (tgt := 103) hx hb dX9_hear_99 (by decide) ?_
                  have zj_103 : (1 : Int32).toInt = 1 := by decide
                  exact jn_103 (1 : Int32) ls (by decide) (by decide) (by omega) hl
              · skip
                refine lv_iconst (v := -1) hx hb dX9_hear_66 (by decide) ?_
                exact hx_reti hx hb hr hlk hW ⟨⟨m0, hrf, udf, f_x_13, cl_qc_11, cl_qc_12, ⟨cF, bF, hof, Or.inl ⟨by decide, (fun hc => by have h1 := hc.2.2.2.2.2; rcases hr_23 with z | z; omega; omega), rfl, rfl, rfl, rfl⟩, hFX, (by rcases hr_23 with z | z; (exfalso; omega); exact z.2.2), hHL, Or.inl ⟨by decide, rfl, rfl⟩⟩⟩, hT, hM, pf_x_13⟩ dX9_hear_67


set_option maxHeartbeats 4000000 in
set_option maxRecDepth 100000 in
theorem t_X10_hear_v (l : Launch) (dC : Nat → ClassId) (dI : Nat → Nat → Nat) (dA : Nat → ClassId) (L : List Nat) (h : hx_h) (sz : Nat) (x : Nat) (i1 : Int32) (i2 : Int32) (i3 : Int32) (i4 : Int32) (hT : hx_T T_tb L h) (gx : hx_g L h x 10) (rby : Nat) (grby : hx_g L h rby 72) (f_x_37 : h.2.2 x 37 = some rby) (rag : Nat) (grag : hx_g L h rag 73) (f_x_38 : h.2.2 x 38 = some rag) (rfi : Nat) (grfi : hx_g L h rfi 78) (f_x_43 : h.2.2 x 43 = some rfi) (rsm : Nat) (grsm : hx_g L h rsm 74) (f_x_39 : h.2.2 x 39 = some rsm) (rrl : Nat) (grrl : hx_g L h rrl 50) (f_x_3 : h.2.2 x 3 = some rrl) (rfr : Nat) (grfr : hx_g L h rfr 75) (f_x_40 : h.2.2 x 40 = some rfr) (rbn : Nat) (grbn : hx_g L h rbn 58) (f_x_21 : h.2.2 x 21 = some rbn) (rpn : Nat) (grpn : hx_g L h rpn 51) (f_x_4 : h.2.2 x 4 = some rpn) (rpr : Nat) (grpr : hx_g L h rpr 52) (f_x_5 : h.2.2 x 5 = some rpr) (rst : Nat) (grst : hx_g L h rst 99) (f_x_66 : h.2.2 x 66 = some rst) (rfc : Nat) (grfc : hx_g L h rfc 88) (f_x_53 : h.2.2 x 53 = some rfc) (rhe : Nat) (grhe : hx_g L h rhe 82) (f_x_47 : h.2.2 x 47 = some rhe) (rfo : Nat) (grfo : hx_g L h rfo 81) (f_x_46 : h.2.2 x 46 = some rfo) (rdd : Nat) (grdd : hx_g L h rdd 64) (f_x_27 : h.2.2 x 27 = some rdd) (rjj : Nat) (grjj : hx_g L h rjj 65) (f_x_28 : h.2.2 x 28 = some rjj) (rkk : Nat) (grkk : hx_g L h rkk 63) (f_x_26 : h.2.2 x 26 = some rkk) (rsi : Nat) (grsi : hx_g L h rsi 98) (f_x_65 : h.2.2 x 65 = some rsi) (rbe : Nat) (grbe : hx_g L h rbe 87) (f_x_52 : h.2.2 x 52 = some rbe) (rho : Nat) (grho : hx_g L h rho 92) (f_x_58 : h.2.2 x 58 = some rho) (rnt : Nat) (grnt : hx_g L h rnt 76) (f_x_41 : h.2.2 x 41 = some rnt) (rwt : Nat) (grwt : hx_g L h rwt 77) (f_x_42 : h.2.2 x 42 = some rwt) (rju : Nat) (grju : hx_g L h rju 86) (f_x_51 : h.2.2 x 51 = some rju) (rpl : Nat) (grpl : hx_g L h rpl 79) (f_x_44 : h.2.2 x 44 = some rpl) (qo : Nat) (gqo : hx_g L h qo 66) (f_x_30 : h.2.2 x 30 = some qo) (qwi : Nat) (gqwi : hx_g L h qwi 67) (f_x_31 : h.2.2 x 31 = some qwi) (qdy : Nat) (gqdy : hx_g L h qdy 68) (f_x_32 : h.2.2 x 32 = some qdy) (qkd : Nat) (gqkd : hx_g L h qkd 69) (f_x_33 : h.2.2 x 33 = some qkd) (qsm : Nat) (gqsm : hx_g L h qsm 70) (f_x_34 : h.2.2 x 34 = some qsm) (qtk : Nat) (gqtk : hx_g L h qtk 71) (f_x_35 : h.2.2 x 35 = some qtk) (byf : Nat → Int32) (af_rby : h.2.1 rby = byf) (agf : Nat → Int32) (af_rag : h.2.1 rag = agf) (flf : Nat → Int32) (af_rfi : h.2.1 rfi = flf) (smf : Nat → Int32) (af_rsm : h.2.1 rsm = smf) (rlf : Nat → Int32) (af_rrl : h.2.1 rrl = rlf) (frf : Nat → Int32) (af_rfr : h.2.1 rfr = frf) (bnf : Nat → Int32) (af_rbn : h.2.1 rbn = bnf) (psf : Nat → Int32) (af_rpn : h.2.1 rpn = psf) (prf : Nat → Int32) (af_rpr : h.2.1 rpr = prf) (skf : Nat → Int32) (af_rst : h.2.1 rst = skf) (rf : Nat → Int32) (af_rfc : h.2.1 rfc = rf) (hrf : Nat → Int32) (af_rhe : h.2.1 rhe = hrf) (fof : Nat → Int32) (af_rfo : h.2.1 rfo = fof) (ddf : Nat → Int32) (af_rdd : h.2.1 rdd = ddf) (jjf : Nat → Int32) (af_rjj : h.2.1 rjj = jjf) (kkf : Nat → Int32) (af_rkk : h.2.1 rkk = kkf) (sif : Nat → Int32) (af_rsi : h.2.1 rsi = sif) (bnh : Nat → Int32) (af_rbe : h.2.1 rbe = bnh) (hof : Nat → Int32) (af_rho : h.2.1 rho = hof) (ntf : Nat → Int32) (af_rnt : h.2.1 rnt = ntf) (wtf : Nat → Int32) (af_rwt : h.2.1 rwt = wtf) (udf : Nat → Int32) (af_rju : h.2.1 rju = udf) (plf : Nat → Int32) (af_rpl : h.2.1 rpl = plf) (of : Nat → Int32) (af_qo : h.2.1 qo = of) (wf : Nat → Int32) (af_qwi : h.2.1 qwi = wf) (df : Nat → Int32) (af_qdy : h.2.1 qdy = df) (kf : Nat → Int32) (af_qkd : h.2.1 qkd = kf) (sf : Nat → Int32) (af_qsm : h.2.1 qsm = sf) (tf : Nat → Int32) (af_qtk : h.2.1 qtk = tf) (c0 : Int32) (f_x_36 : h.2.1 x 36 = c0) (m0 : Int32) (f_x_57 : h.2.1 x 57 = m0) (a0 : Int32) (f_x_1 : h.2.1 x 1 = a0) (pn0 : Int32) (f_x_20 : h.2.1 x 20 = pn0) (nw0 : Int32) (f_x_0 : h.2.1 x 0 = nw0) (ln0 : Int32) (f_x_29 : h.2.1 x 29 = ln0) (hi2 : 0 ≤ i2.toInt ∧ i2.toInt ≤ 1) (hi3 : 0 ≤ i3.toInt ∧ i3.toInt ≤ 1) (adf : Nat → Int32) (A : Nat → hv_act) (hCA : hv_CA adf rlf psf prf a0.toInt A) (hAB : ∀ j : Nat, (∀ k, 0 ≤ (A j).2.1 k ∧ (A j).2.1 k ≤ 9999) ∧ hv_OK (A j).2.2) (hPL : hx_PL plf c0.toInt a0.toInt) (hHC : m0.toInt = hx_hc hrf c0.toInt.toNat) (bf : Nat → Int32) (hBD : hy_BD df bf ln0.toInt.toNat) (hDY : hy_DY df ln0.toInt.toNat) : Met l yX10_hear (Cond.code yX10_hear cX10_hear 6 (some .int) :: hx_all) ({ frames := 3, cells := 0, slots := 0, locals := 73 }) (va_Pc [.ref x, .int i1, .int i2, .int i3, .int i4] (hx_B T_tb (P_ty dA) (dC, dI) vwCl L h sz)) (va_Qi (fun (r : Int32) (u : List Nat × hx_h) => (∃ (m1 : Int32) (hrf1 : Nat → Int32) (udf1 : Nat → Int32) (hof1 : Nat → Int32) (rf1 : Nat → Int32) (bnh1 : Nat → Int32), u.2.2.1 x 57 = m1 ∧ u.2.2.1 rhe = hrf1 ∧ u.2.2.1 rju = udf1 ∧ u.2.2.1 rho = hof1 ∧ u.2.2.1 rfc = rf1 ∧ u.2.2.1 rbe = bnh1 ∧ (hv_HS (hv_HC fof hrf ddf agf c0.toInt i1.toInt i4.toInt ((hv_fs jjf ddf kkf (byf i1.toNatClampNeg).toNatClampNeg (agf i1.toNatClampNeg).toNatClampNeg pn0.toInt.toNat).length : Int)) i1 nw0 m0 m1 r (hv_jg (hv_F0 rf1 (8 * i1.toNatClampNeg)) (A (plf i1.toNatClampNeg).toInt.toNat).2.1 (A (plf i1.toNatClampNeg).toInt.toNat).2.2 (frf i1.toNatClampNeg).toInt (bnf (agf i1.toNatClampNeg).toNatClampNeg).toInt (smf i1.toNatClampNeg).toInt (hv_sm byf agf flf smf (byf i1.toNatClampNeg).toInt (agf i1.toNatClampNeg).toInt ((flf i1.toNatClampNeg).toInt - (A (plf i1.toNatClampNeg).toInt.toNat).2.1 1) c0.toInt.toNat)) hrf hrf1 udf udf1 hof hof1 ∧ ((r.toInt = -1 ∧ rf1 = rf ∧ bnh1 = bnh) ∨ (r.toInt ≠ -1 ∧ hv_CV rf rf1 i1.toNatClampNeg i2 i3 (ntf i1.toNatClampNeg) (wtf i1.toNatClampNeg) (hy_bs of wf df kf sf (byf i1.toNatClampNeg) (agf i1.toNatClampNeg) (flf i1.toNatClampNeg) ln0.toInt.toNat) (-(hy_bs of wf df kf sf (agf i1.toNatClampNeg) (byf i1.toNatClampNeg) (flf i1.toNatClampNeg) ln0.toInt.toNat)) (hy_G of wf df kf sf bf (byf i1.toNatClampNeg) (agf i1.toNatClampNeg) (flf i1.toNatClampNeg) ln0.toInt.toNat ln0.toInt.toNat).2 (smf i1.toNatClampNeg) ∧ (∃ b0 b1 b2 : Int32, hv_BN (hv_fs jjf ddf kkf (byf i1.toNatClampNeg).toNatClampNeg (agf i1.toNatClampNeg).toNatClampNeg pn0.toInt.toNat) (i4.toInt % hv_T3 (hv_fs jjf ddf kkf (byf i1.toNatClampNeg).toNatClampNeg (agf i1.toNatClampNeg).toNatClampNeg pn0.toInt.toNat).length) b0 b1 b2 ∧ bnh1 = hx_up (hx_up (hx_up bnh (3 * i1.toInt.toNat) b0) (3 * i1.toInt.toNat + 1) b1) (3 * i1.toInt.toNat + 2) b2))))) ∧ hx_T T_tb u.1 u.2 ∧ hx_S T_tb [(10, 57), (71, 0), (82, 0), (86, 0), (87, 0), (88, 0), (92, 0), (98, 0), (99, 0)] L h u.1 u.2) (hx_E T_tb (P_ty dA) (dC, dI) vwCl (hx_A L sz)) (hx_A L sz)) 0 0 (hx_A L sz) := by
  refine hx_met (lv := [(0, .ref x), (1, .int i1), (2, .int i2), (3, .int i3), (4, .int i4)]) (by decide +kernel) rfl (Nat.le_of_ble_eq_true rfl) rfl ?_
  intro p e s m below meth c hx hb hml hr hlk hts0 hown hin hsz hW ls hl
  have hts : ∀ w ∈ hx_all, w.before _ s = true := fun w hw => hts0 w (List.mem_cons_of_mem _ hw)
  have hown : s.vm.findClass "SmallCourtModel" = some m.cls := hown
  have hM : hx_S T_tb [(10, 57), (71, 0), (82, 0), (86, 0), (87, 0), (88, 0), (92, 0), (98, 0), (99, 0)] L h L h := hx_S.rf
  have b_c0 := hT.gi gx tt_10 (k := 36) rfl
  rw [f_x_36] at b_c0
  have b_c0 : 0 ≤ c0.toInt ∧ c0.toInt ≤ 100 := b_c0
  have b_m0 := hT.gi gx tt_10 (k := 57) rfl
  rw [f_x_57] at b_m0
  have b_m0 : 0 ≤ m0.toInt ∧ m0.toInt ≤ 100 := b_m0
  have b_a0 := hT.gi gx tt_10 (k := 1) rfl
  rw [f_x_1] at b_a0
  have b_a0 : 0 ≤ a0.toInt ∧ a0.toInt ≤ 8 := b_a0
  have b_pn0 := hT.gi gx tt_10 (k := 20) rfl
  rw [f_x_20] at b_pn0
  have b_pn0 : 0 ≤ pn0.toInt ∧ pn0.toInt ≤ 40 := b_pn0
  have b_nw0 := hT.gi gx tt_10 (k := 0) rfl
  rw [f_x_0] at b_nw0
  have b_nw0 : 0 ≤ nw0.toInt ∧ nw0.toInt ≤ 7999 := b_nw0
  have b_ln0 := hT.gi gx tt_10 (k := 29) rfl
  rw [f_x_29] at b_ln0
  have b_ln0 : 0 ≤ ln0.toInt ∧ ln0.toInt ≤ 400 := b_ln0
  refine lv_aload_n hx hb dX10_hear_0 rfl (lv_at hl 0 rfl) ?_
  refine lv_iload_n hx hb dX10_hear_1 rfl (lv_at hl 1 rfl) ?_
  refine hx_goi (hx_runV (As := [.int i1]) (rest := []) ⟨hx, hb, hml, hown, hts⟩ hW (gx.S hM) tt_10 (T := TX10) (N := 98) rfl (t_X10_isClaim l dC dI dA L h s.heap.size x i1 hT (gx.S hM) c0 ((hM.o gx trivial rfl).1.trans f_x_36)) (cwV 1 hts (hx_gV kw_1597 kw_1594 kw_1596 kw_73 kw_103) rfl rfl rfl (by decide +kernel) ⟨Nat.le_of_ble_eq_true rfl, Nat.le_of_ble_eq_true rfl⟩) rfl hl.1 rfl (Nat.le_of_ble_eq_true rfl) dX10_hear_2 ⟨Nat.le_of_ble_eq_true rfl, Nat.le_of_ble_eq_true rfl⟩) hW (fun r_3 L_1 h_2 H locs p_4 hW => ?_)
  obtain ⟨hr_5, hT, hs⟩ := p_4
  replace hT : hx_T T_tb L_1 h_2 := hT
  replace hs : hx_S T_tb [] L h L_1 h_2 := hs
  replace f_x_57 := (hs.o (gx.S hM) trivial rfl).1.trans f_x_57
  replace af_rst : h_2.2.1 rst = skf := (funext fun j => (hs.a (grst.S hM) rfl j).1).trans af_rst
  replace af_rfc : h_2.2.1 rfc = rf := (funext fun j => (hs.a (grfc.S hM) rfl j).1).trans af_rfc
  replace af_rhe : h_2.2.1 rhe = hrf := (funext fun j => (hs.a (grhe.S hM) rfl j).1).trans af_rhe
  replace af_rsi : h_2.2.1 rsi = sif := (funext fun j => (hs.a (grsi.S hM) rfl j).1).trans af_rsi
  replace af_rbe : h_2.2.1 rbe = bnh := (funext fun j => (hs.a (grbe.S hM) rfl j).1).trans af_rbe
  replace af_rho : h_2.2.1 rho = hof := (funext fun j => (hs.a (grho.S hM) rfl j).1).trans af_rho
  replace af_rju : h_2.2.1 rju = udf := (funext fun j => (hs.a (grju.S hM) rfl j).1).trans af_rju
  replace af_qtk : h_2.2.1 qtk = tf := (funext fun j => (hs.a (gqtk.S hM) rfl j).1).trans af_qtk
  replace hM := hM.tr (hs.mono (by decide))
  refine hb_if_eq (zx := r_3.toInt) (tgt := 47) hx hb rfl dX10_hear_5 (by decide) (fun c_6 => ?_) (fun c_6 => ?_)
  · skip
    replace hr_5 := hr_5.resolve_right (fun z9 => absurd (c_6.symm.trans z9.1) (by decide))
    replace hr_5 := hr_5.2
    refine lv_iconst (v := -1) hx hb dX10_hear_47 (by decide) ?_
    exact hx_reti hx hb hr hlk hW ⟨⟨m0, hrf, udf, hof, rf, bnh, f_x_57, af_rhe, af_rju, af_rho, af_rfc, af_rbe, ⟨Or.inl ⟨by decide, (fun hc => by have h1 := hc.1; omega), rfl, rfl, rfl, rfl⟩, Or.inl ⟨by decide, rfl, rfl⟩⟩⟩, hT, hM⟩ dX10_hear_48
  · skip
    replace hr_5 := hr_5.resolve_left (fun z9 => c_6 z9.1)
    replace c_6 := hr_5.1
    replace hr_5 := hr_5.2
    refine lv_aload_n hx hb dX10_hear_8 rfl (lv_at hl 0 rfl) ?_
    refine hk_getr hx hb hts hC_10 hown hW (gx.S hM) tt_10 46 (by decide) rfl kw_1189 ⟨rfl, rfl, rfl⟩ ((hM.o gx trivial rfl).2.trans f_x_46) dX10_hear_9 ?_
    refine lv_iload_n hx hb dX10_hear_12 rfl (lv_at hl 1 rfl) ?_
    refine hx_iald hx hb hW hT (grfo.S hM) tt_81 rfl ⟨by omega, by omega⟩ dX10_hear_13 (fun x_7 ex_7 lx_7 ux_7 => ?_)
    have ax_7 : x_7 = fof i1.toNatClampNeg := ex_7.trans (congrFun (hx_afS hM grfo rfl af_rfo) _)
    refine lv_iconst (v := -1) hx hb dX10_hear_14 (by decide) ?_
    refine hb_icmp_eq (zx := x_7.toInt) (zy := (-1)) (tgt := 47) hx hb rfl (by decide) dX10_hear_15 (by decide) (fun c_8 => ?_) (fun c_8 => ?_)
    · skip
      refine lv_iconst (v := -1) hx hb dX10_hear_47 (by decide) ?_
      exact hx_reti hx hb hr hlk hW ⟨⟨m0, hrf, udf, hof, rf, bnh, f_x_57, af_rhe, af_rju, af_rho, af_rfc, af_rbe, ⟨Or.inl ⟨by decide, (fun hc => by have h1 := hc.2.1; rw [show fof i1.toInt.toNat = x_7 from ax_7.symm] at h1; omega), rfl, rfl, rfl, rfl⟩, Or.inl ⟨by decide, rfl, rfl⟩⟩⟩, hT, hM⟩ dX10_hear_48
    · skip
      refine lv_aload_n hx hb dX10_hear_18 rfl (lv_at hl 0 rfl) ?_
      refine hk_getr hx hb hts hC_10 hown hW (gx.S hM) tt_10 47 (by decide) rfl kw_1190 ⟨rfl, rfl, rfl⟩ ((hM.o gx trivial rfl).2.trans f_x_47) dX10_hear_19 ?_
      refine lv_iload_n hx hb dX10_hear_22 rfl (lv_at hl 1 rfl) ?_
      refine hx_iald hx hb hW hT (grhe.S hM) tt_82 rfl ⟨by omega, by omega⟩ dX10_hear_23 (fun x_9 ex_9 lx_9 ux_9 => ?_)
      have ax_9 : x_9 = hrf i1.toNatClampNeg := ex_9.trans (congrFun af_rhe _)
      refine lv_iconst (v := -1) hx hb dX10_hear_24 (by decide) ?_
      refine hb_icmp_ne (zx := x_9.toInt) (zy := (-1)) (tgt := 47) hx hb rfl (by decide) dX10_hear_25 (by decide) (fun c_10 => ?_) (fun c_10 => ?_)
      · skip
        refine lv_iconst (v := -1) hx hb dX10_hear_47 (by decide) ?_
        exact hx_reti hx hb hr hlk hW ⟨⟨m0, hrf, udf, hof, rf, bnh, f_x_57, af_rhe, af_rju, af_rho, af_rfc, af_rbe, ⟨Or.inl ⟨by decide, (fun hc => by have h1 := hc.2.2.1; rw [show hrf i1.toInt.toNat = x_9 from ax_9.symm] at h1; omega), rfl, rfl, rfl, rfl⟩, Or.inl ⟨by decide, rfl, rfl⟩⟩⟩, hT, hM⟩ dX10_hear_48
      · skip
        refine lv_aload_n hx hb dX10_hear_28 rfl (lv_at hl 0 rfl) ?_
        refine hk_getr hx hb hts hC_10 hown hW (gx.S hM) tt_10 27 (by decide) rfl kw_1170 ⟨rfl, rfl, rfl⟩ ((hM.o gx trivial rfl).2.trans f_x_27) dX10_hear_29 ?_
        refine lv_aload_n hx hb dX10_hear_32 rfl (lv_at hl 0 rfl) ?_
        refine hk_getr hx hb hts hC_10 hown hW (gx.S hM) tt_10 38 (by decide) rfl kw_1181 ⟨rfl, rfl, rfl⟩ ((hM.o gx trivial rfl).2.trans f_x_38) dX10_hear_33 ?_
        refine lv_iload_n hx hb dX10_hear_36 rfl (lv_at hl 1 rfl) ?_
        refine hx_iald hx hb hW hT (grag.S hM) tt_73 rfl ⟨by omega, by omega⟩ dX10_hear_37 (fun x_11 ex_11 lx_11 ux_11 => ?_)
        have ax_11 : x_11 = agf i1.toNatClampNeg := ex_11.trans (congrFun (hx_afS hM grag rfl af_rag) _)
        refine hx_zald hx hb hW hT (grdd.S hM) tt_64 rfl ⟨by omega, by omega⟩ dX10_hear_38 (fun x_12 ex_12 lx_12 ux_12 => ?_)
        have ax_12 : x_12 = ddf x_11.toNatClampNeg := ex_12.trans (congrFun (hx_afS hM grdd rfl af_rdd) _)
        have hdd9 : x_12 = ddf (agf i1.toNatClampNeg).toNatClampNeg := by rw [ax_12, ← ax_11]
        refine hb_if_ne (zx := x_12.toInt) (tgt := 47) hx hb rfl dX10_hear_39 (by decide) (fun c_13 => ?_) (fun c_13 => ?_)
        · skip
          refine lv_iconst (v := -1) hx hb dX10_hear_47 (by decide) ?_
          exact hx_reti hx hb hr hlk hW ⟨⟨m0, hrf, udf, hof, rf, bnh, f_x_57, af_rhe, af_rju, af_rho, af_rfc, af_rbe, ⟨Or.inl ⟨by decide, (fun hc => by have h1 := hc.2.2.2.1; rw [show ddf (agf i1.toInt.toNat).toInt.toNat = x_12 from hdd9.symm] at h1; omega), rfl, rfl, rfl, rfl⟩, Or.inl ⟨by decide, rfl, rfl⟩⟩⟩, hT, hM⟩ dX10_hear_48
        · skip
          refine lv_iload hx hb dX10_hear_42 (lv_at hl 4 rfl) ?_
          refine hb_if_ge (zx := i4.toInt) (tgt := 49) hx hb rfl dX10_hear_44 (by decide) (fun c_14 => ?_) (fun c_14 => ?_)
          · skip
            refine lv_aload_n hx hb dX10_hear_49 rfl (lv_at hl 0 rfl) ?_
            refine lv_iload_n hx hb dX10_hear_50 rfl (lv_at hl 1 rfl) ?_
            refine hx_goi (hx_runV (As := [.int i1]) (rest := []) ⟨hx, hb, hml, hown, hts⟩ hW (gx.S hM) tt_10 (T := TX10) (N := 98) rfl (t_X10_sits_v l dC dI dA L_1 h_2 H.size x i1 hT (gx.S hM) rjj (grjj.S hM) ((hM.o gx trivial rfl).2.trans f_x_28) rdd (grdd.S hM) ((hM.o gx trivial rfl).2.trans f_x_27) rkk (grkk.S hM) ((hM.o gx trivial rfl).2.trans f_x_26) rby (grby.S hM) ((hM.o gx trivial rfl).2.trans f_x_37) rag (grag.S hM) ((hM.o gx trivial rfl).2.trans f_x_38) rsi (grsi.S hM) ((hM.o gx trivial rfl).2.trans f_x_65) jjf (hx_afS hM grjj rfl af_rjj) ddf (hx_afS hM grdd rfl af_rdd) kkf (hx_afS hM grkk rfl af_rkk) byf (hx_afS hM grby rfl af_rby) agf (hx_afS hM grag rfl af_rag) sif af_rsi pn0 ((hM.o gx trivial rfl).1.trans f_x_20) ⟨by omega, by omega⟩) (cwV 1 hts (hx_gV kw_1605 kw_1602 kw_1604 kw_74 kw_103) rfl rfl rfl (by decide +kernel) ⟨Nat.le_of_ble_eq_true rfl, Nat.le_of_ble_eq_true rfl⟩) rfl hl.1 rfl (Nat.le_of_ble_eq_true rfl) dX10_hear_51 ⟨Nat.le_of_ble_eq_true rfl, Nat.le_of_ble_eq_true rfl⟩) hW (fun r_17 L_15 h_16 H locs p_18 hW => ?_)
            obtain ⟨⟨w_20, fw_20, hr_19⟩, hT, hs⟩ := p_18
            replace hT : hx_T T_tb L_15 h_16 := hT
            replace hs : hx_S T_tb [(98, 0)] L_1 h_2 L_15 h_16 := hs
            replace f_x_57 := (hs.o (gx.S hM) trivial rfl).1.trans f_x_57
            replace af_rst : h_16.2.1 rst = skf := (funext fun j => (hs.a (grst.S hM) rfl j).1).trans af_rst
            replace af_rfc : h_16.2.1 rfc = rf := (funext fun j => (hs.a (grfc.S hM) rfl j).1).trans af_rfc
            replace af_rhe : h_16.2.1 rhe = hrf := (funext fun j => (hs.a (grhe.S hM) rfl j).1).trans af_rhe
            replace af_rbe : h_16.2.1 rbe = bnh := (funext fun j => (hs.a (grbe.S hM) rfl j).1).trans af_rbe
            replace af_rho : h_16.2.1 rho = hof := (funext fun j => (hs.a (grho.S hM) rfl j).1).trans af_rho
            replace af_rju : h_16.2.1 rju = udf := (funext fun j => (hs.a (grju.S hM) rfl j).1).trans af_rju
            replace af_qtk : h_16.2.1 qtk = tf := (funext fun j => (hs.a (gqtk.S hM) rfl j).1).trans af_qtk
            replace ex_7 := ex_7.trans (hs.a (grfo.S hM) rfl _).1.symm
            replace ex_9 := ex_9.trans (hs.a (grhe.S hM) rfl _).1.symm
            replace ex_11 := ex_11.trans (hs.a (grag.S hM) rfl _).1.symm
            replace ex_12 := ex_12.trans (hs.a (grdd.S hM) rfl _).1.symm
            replace hM := hM.tr (hs.mono (by decide))
            have fw_20 : h_16.2.1 rsi = w_20 := fw_20
            have r_17b9 : 0 ≤ r_17.toInt ∧ r_17.toInt ≤ 40 := by rw [hr_19.1]; exact ⟨Int.natCast_nonneg _, Int.le_trans (Int.ofNat_le.mpr (hv_fs_b _)) (by omega)⟩
            refine lv_istore (lv' := [(5, .int r_17), (0, .ref x), (1, .int i1), (2, .int i2), (3, .int i3), (4, .int i4)]) hx hb dX10_hear_54 hl (by decide) rfl (fun ls hl => ?_)
            refine lv_iload hx hb dX10_hear_56 (lv_at hl 0 rfl) ?_
            refine lv_iconst (v := 3) hx hb dX10_hear_58 (by decide) ?_
            refine hb_icmp_ge (zx := r_17.toInt) (zy := 3) (tgt := 64) hx hb rfl (by decide) dX10_hear_59 (by decide) (fun c_21 => ?_) (fun c_21 => ?_)
            · skip
              refine lv_aload_n hx hb dX10_hear_64 rfl (lv_at hl 1 rfl) ?_
              refine lv_iload_n hx hb dX10_hear_65 rfl (lv_at hl 2 rfl) ?_
              refine lv_iload hx hb dX10_hear_66 (lv_at hl 0 rfl) ?_
              refine lv_iload hx hb dX10_hear_68 (lv_at hl 5 rfl) ?_
              refine lv_iload hx hb dX10_hear_70 (lv_at hl 0 rfl) ?_
              refine lv_iload hx hb dX10_hear_72 (lv_at hl 0 rfl) ?_
              refine lv_iconst (v := 1) hx hb dX10_hear_74 (by decide) ?_
              refine lv_isub hx hb dX10_hear_75 ?_
              have rg_22 := i32_r r_17
              refine lv_topi (fun x_23 ex_23 => ?_)
              have zx_23 : x_23.toInt = r_17.toInt - 1 := by rw [ex_23]; exact i32_sub rfl (by decide) (by omega) (by omega)
              refine lv_imul hx hb dX10_hear_76 ?_
              refine lv_topi (fun x_24 ex_24 => ?_)
              have mx_24 : r_17.toInt = 0 → x_24.toInt = 0 := fun z => by rw [ex_24]; exact hx_mul0 z
              refine lv_iload hx hb dX10_hear_77 (lv_at hl 0 rfl) ?_
              refine lv_iconst (v := 2) hx hb dX10_hear_79 (by decide) ?_
              refine lv_isub hx hb dX10_hear_80 ?_
              refine lv_topi (fun x_25 ex_25 => ?_)
              have zx_25 : x_25.toInt = r_17.toInt - 2 := by rw [ex_25]; exact i32_sub rfl (by decide) (by omega) (by omega)
              refine lv_imul hx hb dX10_hear_81 ?_
              refine lv_topi (fun x_26 ex_26 => ?_)
              have mx_26 : x_24.toInt = 0 → x_26.toInt = 0 := fun z => by rw [ex_26]; exact hx_mul0 z
              refine lv_bipush (v := 6) hx hb dX10_hear_82 (by decide) ?_
              refine lv_idiv hx hb dX10_hear_84 (by decide) ?_
              refine lv_topi (fun x_27 ex_27 => ?_)
              have zx_27 : -1073741824 ≤ x_27.toInt ∧ x_27.toInt ≤ 1073741824 := by rw [ex_27]; exact hx_divb (by decide)
              have hs9 : x_27.toInt = hv_T3 r_17.toInt.toNat := hv_n6 (by omega) (by omega) zx_23 ex_24 zx_25 ex_26 ex_27
              have ht9 := hv_T3_c (n := r_17.toInt) (by omega) (by omega)
              refine lv_irem hx hb dX10_hear_85 (hx_ne0 (by omega)) ?_
              refine lv_topi (fun x_28 ex_28 => ?_)
              have zx_28 : 0 ≤ x_28.toInt ∧ x_28.toInt < x_27.toInt := by rw [ex_28]; exact hx_rem (by omega) (by omega)
              have hp9 : x_28.toInt = i4.toInt % hv_T3 r_17.toInt.toNat := by rw [ex_28, hx_remz (by omega) (by omega), hs9]
              refine hx_gov (hx_runV (As := [.int i1, .int r_17, .int x_28]) (rest := []) ⟨hx, hb, hml, hown, hts⟩ hW (gx.S hM) tt_10 (T := TX10) (N := 98) rfl (t_X10_draws_v l dC dI dA L_15 h_16 H.size x i1 r_17 x_28 hT (gx.S hM) rbe (grbe.S hM) ((hM.o gx trivial rfl).2.trans f_x_52) rsi (grsi.S hM) ((hM.o gx trivial rfl).2.trans f_x_65) bnh af_rbe w_20 fw_20 ⟨by omega, by omega⟩ ⟨by omega, by omega⟩ (hv_fs jjf ddf kkf (byf i1.toNatClampNeg).toNatClampNeg (agf i1.toNatClampNeg).toNatClampNeg pn0.toInt.toNat) hr_19.2 hr_19.1 ⟨by omega, by omega⟩) (cwV 3 hts (hx_gV kw_1613 kw_1610 kw_1612 kw_76 kw_103) rfl rfl rfl (by decide +kernel) ⟨Nat.le_of_ble_eq_true rfl, Nat.le_of_ble_eq_true rfl⟩) rfl hl.1 rfl (Nat.le_of_ble_eq_true rfl) dX10_hear_86 ⟨Nat.le_of_ble_eq_true rfl, Nat.le_of_ble_eq_true rfl⟩) hW (fun L_29 h_30 H locs p_32 hW => ?_)
              obtain ⟨⟨w_34, fw_34, hr_33⟩, hT, hs⟩ := p_32
              replace hT : hx_T T_tb L_29 h_30 := hT
              replace hs : hx_S T_tb [(87, 0)] L_15 h_16 L_29 h_30 := hs
              replace f_x_57 := (hs.o (gx.S hM) trivial rfl).1.trans f_x_57
              replace af_rst : h_30.2.1 rst = skf := (funext fun j => (hs.a (grst.S hM) rfl j).1).trans af_rst
              replace af_rfc : h_30.2.1 rfc = rf := (funext fun j => (hs.a (grfc.S hM) rfl j).1).trans af_rfc
              replace af_rhe : h_30.2.1 rhe = hrf := (funext fun j => (hs.a (grhe.S hM) rfl j).1).trans af_rhe
              replace af_rho : h_30.2.1 rho = hof := (funext fun j => (hs.a (grho.S hM) rfl j).1).trans af_rho
              replace af_rju : h_30.2.1 rju = udf := (funext fun j => (hs.a (grju.S hM) rfl j).1).trans af_rju
              replace af_qtk : h_30.2.1 qtk = tf := (funext fun j => (hs.a (gqtk.S hM) rfl j).1).trans af_qtk
              replace fw_20 : h_30.2.1 rsi = w_20 := (funext fun j => (hs.a (grsi.S hM) rfl j).1).trans fw_20
              replace ex_7 := ex_7.trans (hs.a (grfo.S hM) rfl _).1.symm
              replace ex_9 := ex_9.trans (hs.a (grhe.S hM) rfl _).1.symm
              replace ex_11 := ex_11.trans (hs.a (grag.S hM) rfl _).1.symm
              replace ex_12 := ex_12.trans (hs.a (grdd.S hM) rfl _).1.symm
              replace hM := hM.tr (hs.mono (by decide))
              have fw_34 : h_30.2.1 rbe = w_34 := fw_34
              have hlt := hx_hear_lt hHC (by omega) (by omega) ax_9 (by omega)
              refine lv_aload_n hx hb dX10_hear_89 rfl (lv_at hl 1 rfl) ?_
              refine hk_getr hx hb hts hC_10 hown hW (gx.S hM) tt_10 47 (by decide) rfl kw_1190 ⟨rfl, rfl, rfl⟩ ((hM.o gx trivial rfl).2.trans f_x_47) dX10_hear_90 ?_
              refine lv_iload_n hx hb dX10_hear_93 rfl (lv_at hl 2 rfl) ?_
              refine lv_aload_n hx hb dX10_hear_94 rfl (lv_at hl 1 rfl) ?_
              refine hk_geti hx hb hts hC_10 hown hW (gx.S hM) tt_10 0 (by decide) rfl kw_1143 ⟨rfl, rfl, rfl⟩ ((hM.o gx trivial rfl).1.trans f_x_0) dX10_hear_95 ?_
              have af_rheO := af_rhe
              refine hx_iast hx hb hW hT (hx_S.rf (M := [(82, 0)])) (grhe.S hM) tt_82 rfl ⟨by omega, by omega⟩ rfl ⟨by omega, by omega⟩ (List.mem_singleton.mpr rfl) dX10_hear_98 (fun H locs h_35 eh_35 hW hT hs => ?_)
              replace f_x_57 := (hs.o (gx.S hM) trivial rfl).1.trans f_x_57
              replace af_rst : h_35.2.1 rst = skf := (funext fun j => (hs.a (grst.S hM) rfl j).1).trans af_rst
              replace af_rfc : h_35.2.1 rfc = rf := (funext fun j => (hs.a (grfc.S hM) rfl j).1).trans af_rfc
              replace af_rho : h_35.2.1 rho = hof := (funext fun j => (hs.a (grho.S hM) rfl j).1).trans af_rho
              replace af_rju : h_35.2.1 rju = udf := (funext fun j => (hs.a (grju.S hM) rfl j).1).trans af_rju
              replace af_qtk : h_35.2.1 qtk = tf := (funext fun j => (hs.a (gqtk.S hM) rfl j).1).trans af_qtk
              replace fw_20 : h_35.2.1 rsi = w_20 := (funext fun j => (hs.a (grsi.S hM) rfl j).1).trans fw_20
              replace fw_34 : h_35.2.1 rbe = w_34 := (funext fun j => (hs.a (grbe.S hM) rfl j).1).trans fw_34
              replace ex_7 := ex_7.trans (hs.a (grfo.S hM) rfl _).1.symm
              replace ex_11 := ex_11.trans (hs.a (grag.S hM) rfl _).1.symm
              replace ex_12 := ex_12.trans (hs.a (grdd.S hM) rfl _).1.symm
              replace hM := hM.tr (hs.mono (by decide))
              obtain ⟨fa_36, dfa_36⟩ : ∃ g : Nat → Int32, g = hx_up hrf i1.toNatClampNeg nw0 := ⟨_, rfl⟩
              have nfa_36 : h_35.2.1 rhe = fa_36 := by rw [eh_35, dfa_36, ← af_rheO]; exact hx_pi_fun _ _ _ _
              refine lv_aload_n hx hb dX10_hear_99 rfl (lv_at hl 1 rfl) ?_
              refine hk_getr hx hb hts hC_10 hown hW (gx.S hM) tt_10 58 (by decide) rfl kw_1201 ⟨rfl, rfl, rfl⟩ ((hM.o gx trivial rfl).2.trans f_x_58) dX10_hear_100 ?_
              refine lv_aload_n hx hb dX10_hear_103 rfl (lv_at hl 1 rfl) ?_
              refine hk_geti hx hb hts hC_10 hown hW (gx.S hM) tt_10 57 (by decide) rfl kw_1200 ⟨rfl, rfl, rfl⟩ f_x_57 dX10_hear_104 ?_
              refine lv_iload_n hx hb dX10_hear_107 rfl (lv_at hl 2 rfl) ?_
              have af_rhoO := af_rho
              refine hx_iast hx hb hW hT (hx_S.rf (M := [(92, 0)])) (grho.S hM) tt_92 rfl ⟨by omega, by omega⟩ rfl ⟨by omega, by omega⟩ (List.mem_singleton.mpr rfl) dX10_hear_108 (fun H locs h_37 eh_37 hW hT hs => ?_)
              replace f_x_57 := (hs.o (gx.S hM) trivial rfl).1.trans f_x_57
              replace af_rst : h_37.2.1 rst = skf := (funext fun j => (hs.a (grst.S hM) rfl j).1).trans af_rst
              replace af_rfc : h_37.2.1 rfc = rf := (funext fun j => (hs.a (grfc.S hM) rfl j).1).trans af_rfc
              replace af_rju : h_37.2.1 rju = udf := (funext fun j => (hs.a (grju.S hM) rfl j).1).trans af_rju
              replace af_qtk : h_37.2.1 qtk = tf := (funext fun j => (hs.a (gqtk.S hM) rfl j).1).trans af_qtk
              replace fw_20 : h_37.2.1 rsi = w_20 := (funext fun j => (hs.a (grsi.S hM) rfl j).1).trans fw_20
              replace fw_34 : h_37.2.1 rbe = w_34 := (funext fun j => (hs.a (grbe.S hM) rfl j).1).trans fw_34
              replace nfa_36 : h_37.2.1 rhe = fa_36 := (funext fun j => (hs.a (grhe.S hM) rfl j).1).trans nfa_36
              replace ex_7 := ex_7.trans (hs.a (grfo.S hM) rfl _).1.symm
              replace ex_11 := ex_11.trans (hs.a (grag.S hM) rfl _).1.symm
              replace ex_12 := ex_12.trans (hs.a (grdd.S hM) rfl _).1.symm
              replace hM := hM.tr (hs.mono (by decide))
              obtain ⟨fa_38, dfa_38⟩ : ∃ g : Nat → Int32, g = hx_up hof m0.toNatClampNeg i1 := ⟨_, rfl⟩
              have nfa_38 : h_37.2.1 rho = fa_38 := by rw [eh_37, dfa_38, ← af_rhoO]; exact hx_pi_fun _ _ _ _
              refine lv_aload_n hx hb dX10_hear_109 rfl (lv_at hl 1 rfl) ?_
              refine lv_dup hx hb dX10_hear_110 rfl ?_
              refine hk_geti hx hb hts hC_10 hown hW (gx.S hM) tt_10 57 (by decide) rfl kw_1200 ⟨rfl, rfl, rfl⟩ f_x_57 dX10_hear_111 ?_
              refine lv_iconst (v := 1) hx hb dX10_hear_114 (by decide) ?_
              refine lv_iadd hx hb dX10_hear_115 ?_
              have rg_39 := i32_r m0
              refine lv_topi (fun x_40 ex_40 => ?_)
              have zx_40 : x_40.toInt = m0.toInt + 1 := by rw [ex_40]; exact i32_add rfl (by decide) (by omega) (by omega)
              refine hx_puti hx hb hts hC_10 hown hW hT (hx_S.rf (M := [(10, 57)])) (gx.S hM) tt_10 57 (by decide) rfl kw_1200 ⟨rfl, rfl, rfl⟩ rfl (x := x_40) ⟨by omega, by omega⟩ rfl rfl rfl (List.mem_singleton.mpr rfl) dX10_hear_116 (fun H locs h_41 eh_41 hW hT hs => ?_)
              replace af_rst : h_41.2.1 rst = skf := (funext fun j => (hs.a (grst.S hM) rfl j).1).trans af_rst
              replace af_rfc : h_41.2.1 rfc = rf := (funext fun j => (hs.a (grfc.S hM) rfl j).1).trans af_rfc
              replace af_rju : h_41.2.1 rju = udf := (funext fun j => (hs.a (grju.S hM) rfl j).1).trans af_rju
              replace af_qtk : h_41.2.1 qtk = tf := (funext fun j => (hs.a (gqtk.S hM) rfl j).1).trans af_qtk
              replace fw_20 : h_41.2.1 rsi = w_20 := (funext fun j => (hs.a (grsi.S hM) rfl j).1).trans fw_20
              replace fw_34 : h_41.2.1 rbe = w_34 := (funext fun j => (hs.a (grbe.S hM) rfl j).1).trans fw_34
              replace nfa_36 : h_41.2.1 rhe = fa_36 := (funext fun j => (hs.a (grhe.S hM) rfl j).1).trans nfa_36
              replace nfa_38 : h_41.2.1 rho = fa_38 := (funext fun j => (hs.a (grho.S hM) rfl j).1).trans nfa_38
              replace ex_7 := ex_7.trans (hs.a (grfo.S hM) rfl _).1.symm
              replace ex_11 := ex_11.trans (hs.a (grag.S hM) rfl _).1.symm
              replace ex_12 := ex_12.trans (hs.a (grdd.S hM) rfl _).1.symm
              replace hM := hM.tr (hs.mono (by decide))
              have f_42 : h_41.2.1 x 57 = x_40 := by rw [eh_41]; exact hx_pi_at _ _ _ _
              refine lv_aload_n hx hb dX10_hear_119 rfl (lv_at hl 1 rfl) ?_
              refine hk_getr hx hb hts hC_10 hown hW (gx.S hM) tt_10 53 (by decide) rfl kw_1196 ⟨rfl, rfl, rfl⟩ ((hM.o gx trivial rfl).2.trans f_x_53) dX10_hear_120 ?_
              refine lv_bipush (v := 8) hx hb dX10_hear_123 (by decide) ?_
              refine lv_iload_n hx hb dX10_hear_125 rfl (lv_at hl 2 rfl) ?_
              refine lv_imul hx hb dX10_hear_126 ?_
              refine lv_topi (fun x_43 ex_43 => ?_)
              have zx_43 : x_43.toInt = 8 * i1.toInt := by rw [ex_43]; exact i32_mul (by decide) rfl rfl (by omega) (by omega)
              refine lv_iload_n hx hb dX10_hear_127 rfl (lv_at hl 3 rfl) ?_
              have jn_136 : ∀ (xj_44 : Int32) (ls : Array Slot), 0 ≤ xj_44.toInt → xj_44.toInt ≤ 1 → xj_44.toInt = i2.toInt → lv_has ls 6 [(5, .int r_17), (0, .ref x), (1, .int i1), (2, .int i2), (3, .int i3), (4, .int i4)] → W p l e ({ frames := 3, cells := 0, slots := 0, locals := 73 }) s m ([.ref x, .int i1, .int i2, .int i3, .int i4] : List Value).toArray below meth c H locs 0 0 (MQ below (va_Qi (fun (r : Int32) (u : List Nat × hx_h) => (∃ (m1 : Int32) (hrf1 : Nat → Int32) (udf1 : Nat → Int32) (hof1 : Nat → Int32) (rf1 : Nat → Int32) (bnh1 : Nat → Int32), u.2.2.1 x 57 = m1 ∧ u.2.2.1 rhe = hrf1 ∧ u.2.2.1 rju = udf1 ∧ u.2.2.1 rho = hof1 ∧ u.2.2.1 rfc = rf1 ∧ u.2.2.1 rbe = bnh1 ∧ (hv_HS (hv_HC fof hrf ddf agf c0.toInt i1.toInt i4.toInt ((hv_fs jjf ddf kkf (byf i1.toNatClampNeg).toNatClampNeg (agf i1.toNatClampNeg).toNatClampNeg pn0.toInt.toNat).length : Int)) i1 nw0 m0 m1 r (hv_jg (hv_F0 rf1 (8 * i1.toNatClampNeg)) (A (plf i1.toNatClampNeg).toInt.toNat).2.1 (A (plf i1.toNatClampNeg).toInt.toNat).2.2 (frf i1.toNatClampNeg).toInt (bnf (agf i1.toNatClampNeg).toNatClampNeg).toInt (smf i1.toNatClampNeg).toInt (hv_sm byf agf flf smf (byf i1.toNatClampNeg).toInt (agf i1.toNatClampNeg).toInt ((flf i1.toNatClampNeg).toInt - (A (plf i1.toNatClampNeg).toInt.toNat).2.1 1) c0.toInt.toNat)) hrf hrf1 udf udf1 hof hof1 ∧ ((r.toInt = -1 ∧ rf1 = rf ∧ bnh1 = bnh) ∨ (r.toInt ≠ -1 ∧ hv_CV rf rf1 i1.toNatClampNeg i2 i3 (ntf i1.toNatClampNeg) (wtf i1.toNatClampNeg) (hy_bs of wf df kf sf (byf i1.toNatClampNeg) (agf i1.toNatClampNeg) (flf i1.toNatClampNeg) ln0.toInt.toNat) (-(hy_bs of wf df kf sf (agf i1.toNatClampNeg) (byf i1.toNatClampNeg) (flf i1.toNatClampNeg) ln0.toInt.toNat)) (hy_G of wf df kf sf bf (byf i1.toNatClampNeg) (agf i1.toNatClampNeg) (flf i1.toNatClampNeg) ln0.toInt.toNat ln0.toInt.toNat).2 (smf i1.toNatClampNeg) ∧ (∃ b0 b1 b2 : Int32, hv_BN (hv_fs jjf ddf kkf (byf i1.toNatClampNeg).toNatClampNeg (agf i1.toNatClampNeg).toNatClampNeg pn0.toInt.toNat) (i4.toInt % hv_T3 (hv_fs jjf ddf kkf (byf i1.toNatClampNeg).toNatClampNeg (agf i1.toNatClampNeg).toNatClampNeg pn0.toInt.toNat).length) b0 b1 b2 ∧ bnh1 = hx_up (hx_up (hx_up bnh (3 * i1.toInt.toNat) b0) (3 * i1.toInt.toNat + 1) b1) (3 * i1.toInt.toNat + 2) b2))))) ∧ hx_T T_tb u.1 u.2 ∧ hx_S T_tb [(10, 57), (71, 0), (82, 0), (86, 0), (87, 0), (88, 0), (92, 0), (98, 0), (99, 0)] L h u.1 u.2) (hx_E T_tb (P_ty dA) (dC, dI) vwCl (hx_A L sz)) (hx_A L sz)) ([.ref x, .int i1, .int i2, .int i3, .int i4] : List Value).toArray s 0 0 (hx_A L sz)) (F0 m 136 ls [.int xj_44, .int x_43, .ref rfc]) := by
                intro xj_44 ls blxj_44 buxj_44 jcxj_44 hl
                obtain rfl : i2 = xj_44 := Int32.toInt_inj.mp (by omega)
                have af_rfcO := af_rfc
                refine hx_iast hx hb hW hT (hx_S.rf (M := [(88, 0)])) (grfc.S hM) tt_88 rfl ⟨by omega, by omega⟩ rfl (i32_r _) (List.mem_singleton.mpr rfl) dX10_hear_136 (fun H locs h_45 eh_45 hW hT hs => ?_)
                replace f_42 := (hs.o (gx.S hM) trivial rfl).1.trans f_42
                replace af_rst : h_45.2.1 rst = skf := (funext fun j => (hs.a (grst.S hM) rfl j).1).trans af_rst
                replace af_rju : h_45.2.1 rju = udf := (funext fun j => (hs.a (grju.S hM) rfl j).1).trans af_rju
                replace af_qtk : h_45.2.1 qtk = tf := (funext fun j => (hs.a (gqtk.S hM) rfl j).1).trans af_qtk
                replace fw_20 : h_45.2.1 rsi = w_20 := (funext fun j => (hs.a (grsi.S hM) rfl j).1).trans fw_20
                replace fw_34 : h_45.2.1 rbe = w_34 := (funext fun j => (hs.a (grbe.S hM) rfl j).1).trans fw_34
                replace nfa_36 : h_45.2.1 rhe = fa_36 := (funext fun j => (hs.a (grhe.S hM) rfl j).1).trans nfa_36
                replace nfa_38 : h_45.2.1 rho = fa_38 := (funext fun j => (hs.a (grho.S hM) rfl j).1).trans nfa_38
                replace ex_7 := ex_7.trans (hs.a (grfo.S hM) rfl _).1.symm
                replace ex_11 := ex_11.trans (hs.a (grag.S hM) rfl _).1.symm
                replace ex_12 := ex_12.trans (hs.a (grdd.S hM) rfl _).1.symm
                replace hM := hM.tr (hs.mono (by decide))
                obtain ⟨fa_46, dfa_46⟩ : ∃ g : Nat → Int32, g = hx_up rf x_43.toNatClampNeg i2 := ⟨_, rfl⟩
                have nfa_46 : h_45.2.1 rfc = fa_46 := by rw [eh_45, dfa_46, ← af_rfcO]; exact hx_pi_fun _ _ _ _
                refine lv_aload_n hx hb dX10_hear_137 rfl (lv_at hl 1 rfl) ?_
                refine hk_getr hx hb hts hC_10 hown hW (gx.S hM) tt_10 53 (by decide) rfl kw_1196 ⟨rfl, rfl, rfl⟩ ((hM.o gx trivial rfl).2.trans f_x_53) dX10_hear_138 ?_
                refine lv_bipush (v := 8) hx hb dX10_hear_141 (by decide) ?_
                refine lv_iload_n hx hb dX10_hear_143 rfl (lv_at hl 2 rfl) ?_
                refine lv_imul hx hb dX10_hear_144 ?_
                refine lv_topi (fun x_47 ex_47 => ?_)
                have zx_47 : x_47.toInt = 8 * i1.toInt := by rw [ex_47]; exact i32_mul (by decide) rfl rfl (by omega) (by omega)
                refine lv_iconst (v := 1) hx hb dX10_hear_145 (by decide) ?_
                refine lv_iadd hx hb dX10_hear_146 ?_
                have rg_48 := i32_r x_47
                refine lv_topi (fun x_49 ex_49 => ?_)
                have zx_49 : x_49.toInt = x_47.toInt + 1 := by rw [ex_49]; exact i32_add rfl (by decide) (by omega) (by omega)
                refine lv_iload_n hx hb dX10_hear_147 rfl (lv_at hl 4 rfl) ?_
                have jn_156 : ∀ (xj_50 : Int32) (ls : Array Slot), 0 ≤ xj_50.toInt → xj_50.toInt ≤ 1 → xj_50.toInt = i3.toInt → lv_has ls 6 [(5, .int r_17), (0, .ref x), (1, .int i1), (2, .int i2), (3, .int i3), (4, .int i4)] → W p l e ({ frames := 3, cells := 0, slots := 0, locals := 73 }) s m ([.ref x, .int i1, .int i2, .int i3, .int i4] : List Value).toArray below meth c H locs 0 0 (MQ below (va_Qi (fun (r : Int32) (u : List Nat × hx_h) => (∃ (m1 : Int32) (hrf1 : Nat → Int32) (udf1 : Nat → Int32) (hof1 : Nat → Int32) (rf1 : Nat → Int32) (bnh1 : Nat → Int32), u.2.2.1 x 57 = m1 ∧ u.2.2.1 rhe = hrf1 ∧ u.2.2.1 rju = udf1 ∧ u.2.2.1 rho = hof1 ∧ u.2.2.1 rfc = rf1 ∧ u.2.2.1 rbe = bnh1 ∧ (hv_HS (hv_HC fof hrf ddf agf c0.toInt i1.toInt i4.toInt ((hv_fs jjf ddf kkf (byf i1.toNatClampNeg).toNatClampNeg (agf i1.toNatClampNeg).toNatClampNeg pn0.toInt.toNat).length : Int)) i1 nw0 m0 m1 r (hv_jg (hv_F0 rf1 (8 * i1.toNatClampNeg)) (A (plf i1.toNatClampNeg).toInt.toNat).2.1 (A (plf i1.toNatClampNeg).toInt.toNat).2.2 (frf i1.toNatClampNeg).toInt (bnf (agf i1.toNatClampNeg).toNatClampNeg).toInt (smf i1.toNatClampNeg).toInt (hv_sm byf agf flf smf (byf i1.toNatClampNeg).toInt (agf i1.toNatClampNeg).toInt ((flf i1.toNatClampNeg).toInt - (A (plf i1.toNatClampNeg).toInt.toNat).2.1 1) c0.toInt.toNat)) hrf hrf1 udf udf1 hof hof1 ∧ ((r.toInt = -1 ∧ rf1 = rf ∧ bnh1 = bnh) ∨ (r.toInt ≠ -1 ∧ hv_CV rf rf1 i1.toNatClampNeg i2 i3 (ntf i1.toNatClampNeg) (wtf i1.toNatClampNeg) (hy_bs of wf df kf sf (byf i1.toNatClampNeg) (agf i1.toNatClampNeg) (flf i1.toNatClampNeg) ln0.toInt.toNat) (-(hy_bs of wf df kf sf (agf i1.toNatClampNeg) (byf i1.toNatClampNeg) (flf i1.toNatClampNeg) ln0.toInt.toNat)) (hy_G of wf df kf sf bf (byf i1.toNatClampNeg) (agf i1.toNatClampNeg) (flf i1.toNatClampNeg) ln0.toInt.toNat ln0.toInt.toNat).2 (smf i1.toNatClampNeg) ∧ (∃ b0 b1 b2 : Int32, hv_BN (hv_fs jjf ddf kkf (byf i1.toNatClampNeg).toNatClampNeg (agf i1.toNatClampNeg).toNatClampNeg pn0.toInt.toNat) (i4.toInt % hv_T3 (hv_fs jjf ddf kkf (byf i1.toNatClampNeg).toNatClampNeg (agf i1.toNatClampNeg).toNatClampNeg pn0.toInt.toNat).length) b0 b1 b2 ∧ bnh1 = hx_up (hx_up (hx_up bnh (3 * i1.toInt.toNat) b0) (3 * i1.toInt.toNat + 1) b1) (3 * i1.toInt.toNat + 2) b2))))) ∧ hx_T T_tb u.1 u.2 ∧ hx_S T_tb [(10, 57), (71, 0), (82, 0), (86, 0), (87, 0), (88, 0), (92, 0), (98, 0), (99, 0)] L h u.1 u.2) (hx_E T_tb (P_ty dA) (dC, dI) vwCl (hx_A L sz)) (hx_A L sz)) ([.ref x, .int i1, .int i2, .int i3, .int i4] : List Value).toArray s 0 0 (hx_A L sz)) (F0 m 156 ls [.int xj_50, .int x_49, .ref rfc]) := by
                  intro xj_50 ls blxj_50 buxj_50 jcxj_50 hl
                  obtain rfl : i3 = xj_50 := Int32.toInt_inj.mp (by omega)
                  have nfa_46O := nfa_46
                  refine hx_iast hx hb hW hT (hx_S.rf (M := [(88, 0)])) (grfc.S hM) tt_88 rfl ⟨by omega, by omega⟩ rfl (i32_r _) (List.mem_singleton.mpr rfl) dX10_hear_156 (fun H locs h_51 eh_51 hW hT hs => ?_)
                  replace f_42 := (hs.o (gx.S hM) trivial rfl).1.trans f_42
                  replace af_rst : h_51.2.1 rst = skf := (funext fun j => (hs.a (grst.S hM) rfl j).1).trans af_rst
                  replace af_rju : h_51.2.1 rju = udf := (funext fun j => (hs.a (grju.S hM) rfl j).1).trans af_rju
                  replace af_qtk : h_51.2.1 qtk = tf := (funext fun j => (hs.a (gqtk.S hM) rfl j).1).trans af_qtk
                  replace fw_20 : h_51.2.1 rsi = w_20 := (funext fun j => (hs.a (grsi.S hM) rfl j).1).trans fw_20
                  replace fw_34 : h_51.2.1 rbe = w_34 := (funext fun j => (hs.a (grbe.S hM) rfl j).1).trans fw_34
                  replace nfa_36 : h_51.2.1 rhe = fa_36 := (funext fun j => (hs.a (grhe.S hM) rfl j).1).trans nfa_36
                  replace nfa_38 : h_51.2.1 rho = fa_38 := (funext fun j => (hs.a (grho.S hM) rfl j).1).trans nfa_38
                  replace ex_7 := ex_7.trans (hs.a (grfo.S hM) rfl _).1.symm
                  replace ex_11 := ex_11.trans (hs.a (grag.S hM) rfl _).1.symm
                  replace ex_12 := ex_12.trans (hs.a (grdd.S hM) rfl _).1.symm
                  replace hM := hM.tr (hs.mono (by decide))
                  obtain ⟨fa_52, dfa_52⟩ : ∃ g : Nat → Int32, g = hx_up fa_46 x_49.toNatClampNeg i3 := ⟨_, rfl⟩
                  have nfa_52 : h_51.2.1 rfc = fa_52 := by rw [eh_51, dfa_52, ← nfa_46O]; exact hx_pi_fun _ _ _ _
                  refine lv_aload_n hx hb dX10_hear_157 rfl (lv_at hl 1 rfl) ?_
                  refine hk_getr hx hb hts hC_10 hown hW (gx.S hM) tt_10 53 (by decide) rfl kw_1196 ⟨rfl, rfl, rfl⟩ ((hM.o gx trivial rfl).2.trans f_x_53) dX10_hear_158 ?_
                  refine lv_bipush (v := 8) hx hb dX10_hear_161 (by decide) ?_
                  refine lv_iload_n hx hb dX10_hear_163 rfl (lv_at hl 2 rfl) ?_
                  refine lv_imul hx hb dX10_hear_164 ?_
                  refine lv_topi (fun x_53 ex_53 => ?_)
                  have zx_53 : x_53.toInt = 8 * i1.toInt := by rw [ex_53]; exact i32_mul (by decide) rfl rfl (by omega) (by omega)
                  refine lv_iconst (v := 2) hx hb dX10_hear_165 (by decide) ?_
                  refine lv_iadd hx hb dX10_hear_166 ?_
                  have rg_54 := i32_r x_53
                  refine lv_topi (fun x_55 ex_55 => ?_)
                  have zx_55 : x_55.toInt = x_53.toInt + 2 := by rw [ex_55]; exact i32_add rfl (by decide) (by omega) (by omega)
                  refine lv_aload_n hx hb dX10_hear_167 rfl (lv_at hl 1 rfl) ?_
                  refine hk_getr hx hb hts hC_10 hown hW (gx.S hM) tt_10 41 (by decide) rfl kw_1184 ⟨rfl, rfl, rfl⟩ ((hM.o gx trivial rfl).2.trans f_x_41) dX10_hear_168 ?_
                  refine lv_iload_n hx hb dX10_hear_171 rfl (lv_at hl 2 rfl) ?_
                  refine hx_zald hx hb hW hT (grnt.S hM) tt_76 rfl ⟨by omega, by omega⟩ dX10_hear_172 (fun x_56 ex_56 lx_56 ux_56 => ?_)
                  have ax_56 : x_56 = ntf i1.toNatClampNeg := ex_56.trans (congrFun (hx_afS hM grnt rfl af_rnt) _)
                  have jn_181 : ∀ (xj_57 : Int32) (ls : Array Slot), 0 ≤ xj_57.toInt → xj_57.toInt ≤ 1 → xj_57.toInt = x_56.toInt → lv_has ls 6 [(5, .int r_17), (0, .ref x), (1, .int i1), (2, .int i2), (3, .int i3), (4, .int i4)] → W p l e ({ frames := 3, cells := 0, slots := 0, locals := 73 }) s m ([.ref x, .int i1, .int i2, .int i3, .int i4] : List Value).toArray below meth c H locs 0 0 (MQ below (va_Qi (fun (r : Int32) (u : List Nat × hx_h) => (∃ (m1 : Int32) (hrf1 : Nat → Int32) (udf1 : Nat → Int32) (hof1 : Nat → Int32) (rf1 : Nat → Int32) (bnh1 : Nat → Int32), u.2.2.1 x 57 = m1 ∧ u.2.2.1 rhe = hrf1 ∧ u.2.2.1 rju = udf1 ∧ u.2.2.1 rho = hof1 ∧ u.2.2.1 rfc = rf1 ∧ u.2.2.1 rbe = bnh1 ∧ (hv_HS (hv_HC fof hrf ddf agf c0.toInt i1.toInt i4.toInt ((hv_fs jjf ddf kkf (byf i1.toNatClampNeg).toNatClampNeg (agf i1.toNatClampNeg).toNatClampNeg pn0.toInt.toNat).length : Int)) i1 nw0 m0 m1 r (hv_jg (hv_F0 rf1 (8 * i1.toNatClampNeg)) (A (plf i1.toNatClampNeg).toInt.toNat).2.1 (A (plf i1.toNatClampNeg).toInt.toNat).2.2 (frf i1.toNatClampNeg).toInt (bnf (agf i1.toNatClampNeg).toNatClampNeg).toInt (smf i1.toNatClampNeg).toInt (hv_sm byf agf flf smf (byf i1.toNatClampNeg).toInt (agf i1.toNatClampNeg).toInt ((flf i1.toNatClampNeg).toInt - (A (plf i1.toNatClampNeg).toInt.toNat).2.1 1) c0.toInt.toNat)) hrf hrf1 udf udf1 hof hof1 ∧ ((r.toInt = -1 ∧ rf1 = rf ∧ bnh1 = bnh) ∨ (r.toInt ≠ -1 ∧ hv_CV rf rf1 i1.toNatClampNeg i2 i3 (ntf i1.toNatClampNeg) (wtf i1.toNatClampNeg) (hy_bs of wf df kf sf (byf i1.toNatClampNeg) (agf i1.toNatClampNeg) (flf i1.toNatClampNeg) ln0.toInt.toNat) (-(hy_bs of wf df kf sf (agf i1.toNatClampNeg) (byf i1.toNatClampNeg) (flf i1.toNatClampNeg) ln0.toInt.toNat)) (hy_G of wf df kf sf bf (byf i1.toNatClampNeg) (agf i1.toNatClampNeg) (flf i1.toNatClampNeg) ln0.toInt.toNat ln0.toInt.toNat).2 (smf i1.toNatClampNeg) ∧ (∃ b0 b1 b2 : Int32, hv_BN (hv_fs jjf ddf kkf (byf i1.toNatClampNeg).toNatClampNeg (agf i1.toNatClampNeg).toNatClampNeg pn0.toInt.toNat) (i4.toInt % hv_T3 (hv_fs jjf ddf kkf (byf i1.toNatClampNeg).toNatClampNeg (agf i1.toNatClampNeg).toNatClampNeg pn0.toInt.toNat).length) b0 b1 b2 ∧ bnh1 = hx_up (hx_up (hx_up bnh (3 * i1.toInt.toNat) b0) (3 * i1.toInt.toNat + 1) b1) (3 * i1.toInt.toNat + 2) b2))))) ∧ hx_T T_tb u.1 u.2 ∧ hx_S T_tb [(10, 57), (71, 0), (82, 0), (86, 0), (87, 0), (88, 0), (92, 0), (98, 0), (99, 0)] L h u.1 u.2) (hx_E T_tb (P_ty dA) (dC, dI) vwCl (hx_A L sz)) (hx_A L sz)) ([.ref x, .int i1, .int i2, .int i3, .int i4] : List Value).toArray s 0 0 (hx_A L sz)) (F0 m 181 ls [.int xj_57, .int x_55, .ref rfc]) := by
                    intro xj_57 ls blxj_57 buxj_57 jcxj_57 hl
                    obtain rfl : x_56 = xj_57 := Int32.toInt_inj.mp (by omega)
                    have nfa_52O := nfa_52
                    refine hx_iast hx hb hW hT (hx_S.rf (M := [(88, 0)])) (grfc.S hM) tt_88 rfl ⟨by omega, by omega⟩ rfl (i32_r _) (List.mem_singleton.mpr rfl) dX10_hear_181 (fun H locs h_58 eh_58 hW hT hs => ?_)
                    replace f_42 := (hs.o (gx.S hM) trivial rfl).1.trans f_42
                    replace af_rst : h_58.2.1 rst = skf := (funext fun j => (hs.a (grst.S hM) rfl j).1).trans af_rst
                    replace af_rju : h_58.2.1 rju = udf := (funext fun j => (hs.a (grju.S hM) rfl j).1).trans af_rju
                    replace af_qtk : h_58.2.1 qtk = tf := (funext fun j => (hs.a (gqtk.S hM) rfl j).1).trans af_qtk
                    replace fw_20 : h_58.2.1 rsi = w_20 := (funext fun j => (hs.a (grsi.S hM) rfl j).1).trans fw_20
                    replace fw_34 : h_58.2.1 rbe = w_34 := (funext fun j => (hs.a (grbe.S hM) rfl j).1).trans fw_34
                    replace nfa_36 : h_58.2.1 rhe = fa_36 := (funext fun j => (hs.a (grhe.S hM) rfl j).1).trans nfa_36
                    replace nfa_38 : h_58.2.1 rho = fa_38 := (funext fun j => (hs.a (grho.S hM) rfl j).1).trans nfa_38
                    replace ex_7 := ex_7.trans (hs.a (grfo.S hM) rfl _).1.symm
                    replace ex_11 := ex_11.trans (hs.a (grag.S hM) rfl _).1.symm
                    replace ex_12 := ex_12.trans (hs.a (grdd.S hM) rfl _).1.symm
                    replace ex_56 := ex_56.trans (hs.a (grnt.S hM) rfl _).1.symm
                    replace hM := hM.tr (hs.mono (by decide))
                    obtain ⟨fa_59, dfa_59⟩ : ∃ g : Nat → Int32, g = hx_up fa_52 x_55.toNatClampNeg x_56 := ⟨_, rfl⟩
                    have nfa_59 : h_58.2.1 rfc = fa_59 := by rw [eh_58, dfa_59, ← nfa_52O]; exact hx_pi_fun _ _ _ _
                    refine lv_aload_n hx hb dX10_hear_182 rfl (lv_at hl 1 rfl) ?_
                    refine hk_getr hx hb hts hC_10 hown hW (gx.S hM) tt_10 53 (by decide) rfl kw_1196 ⟨rfl, rfl, rfl⟩ ((hM.o gx trivial rfl).2.trans f_x_53) dX10_hear_183 ?_
                    refine lv_bipush (v := 8) hx hb dX10_hear_186 (by decide) ?_
                    refine lv_iload_n hx hb dX10_hear_188 rfl (lv_at hl 2 rfl) ?_
                    refine lv_imul hx hb dX10_hear_189 ?_
                    refine lv_topi (fun x_60 ex_60 => ?_)
                    have zx_60 : x_60.toInt = 8 * i1.toInt := by rw [ex_60]; exact i32_mul (by decide) rfl rfl (by omega) (by omega)
                    refine lv_iconst (v := 3) hx hb dX10_hear_190 (by decide) ?_
                    refine lv_iadd hx hb dX10_hear_191 ?_
                    have rg_61 := i32_r x_60
                    refine lv_topi (fun x_62 ex_62 => ?_)
                    have zx_62 : x_62.toInt = x_60.toInt + 3 := by rw [ex_62]; exact i32_add rfl (by decide) (by omega) (by omega)
                    refine lv_aload_n hx hb dX10_hear_192 rfl (lv_at hl 1 rfl) ?_
                    refine hk_getr hx hb hts hC_10 hown hW (gx.S hM) tt_10 42 (by decide) rfl kw_1185 ⟨rfl, rfl, rfl⟩ ((hM.o gx trivial rfl).2.trans f_x_42) dX10_hear_193 ?_
                    refine lv_iload_n hx hb dX10_hear_196 rfl (lv_at hl 2 rfl) ?_
                    refine hx_iald hx hb hW hT (grwt.S hM) tt_77 rfl ⟨by omega, by omega⟩ dX10_hear_197 (fun x_63 ex_63 lx_63 ux_63 => ?_)
                    have ax_63 : x_63 = wtf i1.toNatClampNeg := ex_63.trans (congrFun (hx_afS hM grwt rfl af_rwt) _)
                    have nfa_59O := nfa_59
                    refine hx_iast hx hb hW hT (hx_S.rf (M := [(88, 0)])) (grfc.S hM) tt_88 rfl ⟨by omega, by omega⟩ rfl (i32_r _) (List.mem_singleton.mpr rfl) dX10_hear_198 (fun H locs h_64 eh_64 hW hT hs => ?_)
                    replace f_42 := (hs.o (gx.S hM) trivial rfl).1.trans f_42
                    replace af_rst : h_64.2.1 rst = skf := (funext fun j => (hs.a (grst.S hM) rfl j).1).trans af_rst
                    replace af_rju : h_64.2.1 rju = udf := (funext fun j => (hs.a (grju.S hM) rfl j).1).trans af_rju
                    replace af_qtk : h_64.2.1 qtk = tf := (funext fun j => (hs.a (gqtk.S hM) rfl j).1).trans af_qtk
                    replace fw_20 : h_64.2.1 rsi = w_20 := (funext fun j => (hs.a (grsi.S hM) rfl j).1).trans fw_20
                    replace fw_34 : h_64.2.1 rbe = w_34 := (funext fun j => (hs.a (grbe.S hM) rfl j).1).trans fw_34
                    replace nfa_36 : h_64.2.1 rhe = fa_36 := (funext fun j => (hs.a (grhe.S hM) rfl j).1).trans nfa_36
                    replace nfa_38 : h_64.2.1 rho = fa_38 := (funext fun j => (hs.a (grho.S hM) rfl j).1).trans nfa_38
                    replace ex_7 := ex_7.trans (hs.a (grfo.S hM) rfl _).1.symm
                    replace ex_11 := ex_11.trans (hs.a (grag.S hM) rfl _).1.symm
                    replace ex_12 := ex_12.trans (hs.a (grdd.S hM) rfl _).1.symm
                    replace ex_56 := ex_56.trans (hs.a (grnt.S hM) rfl _).1.symm
                    replace ex_63 := ex_63.trans (hs.a (grwt.S hM) rfl _).1.symm
                    replace hM := hM.tr (hs.mono (by decide))
                    obtain ⟨fa_65, dfa_65⟩ : ∃ g : Nat → Int32, g = hx_up fa_59 x_62.toNatClampNeg x_63 := ⟨_, rfl⟩
                    have nfa_65 : h_64.2.1 rfc = fa_65 := by rw [eh_64, dfa_65, ← nfa_59O]; exact hx_pi_fun _ _ _ _
                    refine lv_aload_n hx hb dX10_hear_199 rfl (lv_at hl 1 rfl) ?_
                    refine hk_getr hx hb hts hC_10 hown hW (gx.S hM) tt_10 53 (by decide) rfl kw_1196 ⟨rfl, rfl, rfl⟩ ((hM.o gx trivial rfl).2.trans f_x_53) dX10_hear_200 ?_
                    refine lv_bipush (v := 8) hx hb dX10_hear_203 (by decide) ?_
                    refine lv_iload_n hx hb dX10_hear_205 rfl (lv_at hl 2 rfl) ?_
                    refine lv_imul hx hb dX10_hear_206 ?_
                    refine lv_topi (fun x_66 ex_66 => ?_)
                    have zx_66 : x_66.toInt = 8 * i1.toInt := by rw [ex_66]; exact i32_mul (by decide) rfl rfl (by omega) (by omega)
                    refine lv_iconst (v := 4) hx hb dX10_hear_207 (by decide) ?_
                    refine lv_iadd hx hb dX10_hear_208 ?_
                    have rg_67 := i32_r x_66
                    refine lv_topi (fun x_68 ex_68 => ?_)
                    have zx_68 : x_68.toInt = x_66.toInt + 4 := by rw [ex_68]; exact i32_add rfl (by decide) (by omega) (by omega)
                    refine lv_aload_n hx hb dX10_hear_209 rfl (lv_at hl 1 rfl) ?_
                    refine lv_aload_n hx hb dX10_hear_210 rfl (lv_at hl 1 rfl) ?_
                    refine hk_getr hx hb hts hC_10 hown hW (gx.S hM) tt_10 37 (by decide) rfl kw_1180 ⟨rfl, rfl, rfl⟩ ((hM.o gx trivial rfl).2.trans f_x_37) dX10_hear_211 ?_
                    refine lv_iload_n hx hb dX10_hear_214 rfl (lv_at hl 2 rfl) ?_
                    refine hx_iald hx hb hW hT (grby.S hM) tt_72 rfl ⟨by omega, by omega⟩ dX10_hear_215 (fun x_69 ex_69 lx_69 ux_69 => ?_)
                    have ax_69 : x_69 = byf i1.toNatClampNeg := ex_69.trans (congrFun (hx_afS hM grby rfl af_rby) _)
                    refine lv_aload_n hx hb dX10_hear_216 rfl (lv_at hl 1 rfl) ?_
                    refine hk_getr hx hb hts hC_10 hown hW (gx.S hM) tt_10 38 (by decide) rfl kw_1181 ⟨rfl, rfl, rfl⟩ ((hM.o gx trivial rfl).2.trans f_x_38) dX10_hear_217 ?_
                    refine lv_iload_n hx hb dX10_hear_220 rfl (lv_at hl 2 rfl) ?_
                    refine hx_iald hx hb hW hT (grag.S hM) tt_73 rfl ⟨by omega, by omega⟩ dX10_hear_221 (fun x_70 ex_70 lx_70 ux_70 => ?_)
                    have ax_70 : x_70 = agf i1.toNatClampNeg := ex_70.trans (congrFun (hx_afS hM grag rfl af_rag) _)
                    obtain rfl : x_11 = x_70 := ex_11.trans ex_70.symm
                    refine lv_aload_n hx hb dX10_hear_222 rfl (lv_at hl 1 rfl) ?_
                    refine hk_getr hx hb hts hC_10 hown hW (gx.S hM) tt_10 43 (by decide) rfl kw_1186 ⟨rfl, rfl, rfl⟩ ((hM.o gx trivial rfl).2.trans f_x_43) dX10_hear_223 ?_
                    refine lv_iload_n hx hb dX10_hear_226 rfl (lv_at hl 2 rfl) ?_
                    refine hx_iald hx hb hW hT (grfi.S hM) tt_78 rfl ⟨by omega, by omega⟩ dX10_hear_227 (fun x_71 ex_71 lx_71 ux_71 => ?_)
                    have ax_71 : x_71 = flf i1.toNatClampNeg := ex_71.trans (congrFun (hx_afS hM grfi rfl af_rfi) _)
                    refine hx_goi (hx_runV (As := [.int x_69, .int x_11, .int x_71]) (rest := [.int x_68, .ref rfc]) ⟨hx, hb, hml, hown, hts⟩ hW (gx.S hM) tt_10 (T := TX10) (N := 98) rfl (t_X10_bookSum_2 l dC dI dA L_29 h_64 H.size x x_69 x_11 x_71 hT (gx.S hM) qo (gqo.S hM) ((hM.o gx trivial rfl).2.trans f_x_30) qwi (gqwi.S hM) ((hM.o gx trivial rfl).2.trans f_x_31) qdy (gqdy.S hM) ((hM.o gx trivial rfl).2.trans f_x_32) qkd (gqkd.S hM) ((hM.o gx trivial rfl).2.trans f_x_33) qsm (gqsm.S hM) ((hM.o gx trivial rfl).2.trans f_x_34) of (hx_afS hM gqo rfl af_qo) wf (hx_afS hM gqwi rfl af_qwi) df (hx_afS hM gqdy rfl af_qdy) kf (hx_afS hM gqkd rfl af_qkd) sf (hx_afS hM gqsm rfl af_qsm) ln0 ((hM.o gx trivial rfl).1.trans f_x_29)) (cwV 3 hts (hx_gV kw_1573 kw_1570 kw_1572 kw_69 kw_103) rfl rfl rfl (by decide +kernel) ⟨Nat.le_of_ble_eq_true rfl, Nat.le_of_ble_eq_true rfl⟩) rfl hl.1 rfl (Nat.le_of_ble_eq_true rfl) dX10_hear_228 ⟨Nat.le_of_ble_eq_true rfl, Nat.le_of_ble_eq_true rfl⟩) hW (fun r_74 L_72 h_73 H locs p_75 hW => ?_)
                    obtain ⟨hr_76, hT, hs⟩ := p_75
                    replace hT : hx_T T_tb L_72 h_73 := hT
                    replace hs : hx_S T_tb [] L_29 h_64 L_72 h_73 := hs
                    replace f_42 := (hs.o (gx.S hM) trivial rfl).1.trans f_42
                    replace af_rst : h_73.2.1 rst = skf := (funext fun j => (hs.a (grst.S hM) rfl j).1).trans af_rst
                    replace af_rju : h_73.2.1 rju = udf := (funext fun j => (hs.a (grju.S hM) rfl j).1).trans af_rju
                    replace af_qtk : h_73.2.1 qtk = tf := (funext fun j => (hs.a (gqtk.S hM) rfl j).1).trans af_qtk
                    replace fw_20 : h_73.2.1 rsi = w_20 := (funext fun j => (hs.a (grsi.S hM) rfl j).1).trans fw_20
                    replace fw_34 : h_73.2.1 rbe = w_34 := (funext fun j => (hs.a (grbe.S hM) rfl j).1).trans fw_34
                    replace nfa_36 : h_73.2.1 rhe = fa_36 := (funext fun j => (hs.a (grhe.S hM) rfl j).1).trans nfa_36
                    replace nfa_38 : h_73.2.1 rho = fa_38 := (funext fun j => (hs.a (grho.S hM) rfl j).1).trans nfa_38
                    replace nfa_65 : h_73.2.1 rfc = fa_65 := (funext fun j => (hs.a (grfc.S hM) rfl j).1).trans nfa_65
                    replace ex_7 := ex_7.trans (hs.a (grfo.S hM) rfl _).1.symm
                    replace ex_11 := ex_11.trans (hs.a (grag.S hM) rfl _).1.symm
                    replace ex_12 := ex_12.trans (hs.a (grdd.S hM) rfl _).1.symm
                    replace ex_56 := ex_56.trans (hs.a (grnt.S hM) rfl _).1.symm
                    replace ex_63 := ex_63.trans (hs.a (grwt.S hM) rfl _).1.symm
                    replace ex_69 := ex_69.trans (hs.a (grby.S hM) rfl _).1.symm
                    replace ex_71 := ex_71.trans (hs.a (grfi.S hM) rfl _).1.symm
                    replace hM := hM.tr (hs.mono (by decide))
                    have nS_77 := hr_76; rw [ax_69, ax_11, ax_71] at nS_77
                    have nfa_65O := nfa_65
                    refine hx_iast hx hb hW hT (hx_S.rf (M := [(88, 0)])) (grfc.S hM) tt_88 rfl ⟨by omega, by omega⟩ rfl (i32_r _) (List.mem_singleton.mpr rfl) dX10_hear_231 (fun H locs h_78 eh_78 hW hT hs => ?_)
                    replace f_42 := (hs.o (gx.S hM) trivial rfl).1.trans f_42
                    replace af_rst : h_78.2.1 rst = skf := (funext fun j => (hs.a (grst.S hM) rfl j).1).trans af_rst
                    replace af_rju : h_78.2.1 rju = udf := (funext fun j => (hs.a (grju.S hM) rfl j).1).trans af_rju
                    replace af_qtk : h_78.2.1 qtk = tf := (funext fun j => (hs.a (gqtk.S hM) rfl j).1).trans af_qtk
                    replace fw_20 : h_78.2.1 rsi = w_20 := (funext fun j => (hs.a (grsi.S hM) rfl j).1).trans fw_20
                    replace fw_34 : h_78.2.1 rbe = w_34 := (funext fun j => (hs.a (grbe.S hM) rfl j).1).trans fw_34
                    replace nfa_36 : h_78.2.1 rhe = fa_36 := (funext fun j => (hs.a (grhe.S hM) rfl j).1).trans nfa_36
                    replace nfa_38 : h_78.2.1 rho = fa_38 := (funext fun j => (hs.a (grho.S hM) rfl j).1).trans nfa_38
                    replace ex_7 := ex_7.trans (hs.a (grfo.S hM) rfl _).1.symm
                    replace ex_11 := ex_11.trans (hs.a (grag.S hM) rfl _).1.symm
                    replace ex_12 := ex_12.trans (hs.a (grdd.S hM) rfl _).1.symm
                    replace ex_56 := ex_56.trans (hs.a (grnt.S hM) rfl _).1.symm
                    replace ex_63 := ex_63.trans (hs.a (grwt.S hM) rfl _).1.symm
                    replace ex_69 := ex_69.trans (hs.a (grby.S hM) rfl _).1.symm
                    replace ex_71 := ex_71.trans (hs.a (grfi.S hM) rfl _).1.symm
                    replace hM := hM.tr (hs.mono (by decide))
                    obtain ⟨fa_79, dfa_79⟩ : ∃ g : Nat → Int32, g = hx_up fa_65 x_68.toNatClampNeg r_74 := ⟨_, rfl⟩
                    have nfa_79 : h_78.2.1 rfc = fa_79 := by rw [eh_78, dfa_79, ← nfa_65O]; exact hx_pi_fun _ _ _ _
                    refine lv_aload_n hx hb dX10_hear_232 rfl (lv_at hl 1 rfl) ?_
                    refine hk_getr hx hb hts hC_10 hown hW (gx.S hM) tt_10 53 (by decide) rfl kw_1196 ⟨rfl, rfl, rfl⟩ ((hM.o gx trivial rfl).2.trans f_x_53) dX10_hear_233 ?_
                    refine lv_bipush (v := 8) hx hb dX10_hear_236 (by decide) ?_
                    refine lv_iload_n hx hb dX10_hear_238 rfl (lv_at hl 2 rfl) ?_
                    refine lv_imul hx hb dX10_hear_239 ?_
                    refine lv_topi (fun x_80 ex_80 => ?_)
                    have zx_80 : x_80.toInt = 8 * i1.toInt := by rw [ex_80]; exact i32_mul (by decide) rfl rfl (by omega) (by omega)
                    refine lv_iconst (v := 5) hx hb dX10_hear_240 (by decide) ?_
                    refine lv_iadd hx hb dX10_hear_241 ?_
                    have rg_81 := i32_r x_80
                    refine lv_topi (fun x_82 ex_82 => ?_)
                    have zx_82 : x_82.toInt = x_80.toInt + 5 := by rw [ex_82]; exact i32_add rfl (by decide) (by omega) (by omega)
                    refine lv_aload_n hx hb dX10_hear_242 rfl (lv_at hl 1 rfl) ?_
                    refine lv_aload_n hx hb dX10_hear_243 rfl (lv_at hl 1 rfl) ?_
                    refine hk_getr hx hb hts hC_10 hown hW (gx.S hM) tt_10 38 (by decide) rfl kw_1181 ⟨rfl, rfl, rfl⟩ ((hM.o gx trivial rfl).2.trans f_x_38) dX10_hear_244 ?_
                    refine lv_iload_n hx hb dX10_hear_247 rfl (lv_at hl 2 rfl) ?_
                    refine hx_iald hx hb hW hT (grag.S hM) tt_73 rfl ⟨by omega, by omega⟩ dX10_hear_248 (fun x_83 ex_83 lx_83 ux_83 => ?_)
                    have ax_83 : x_83 = agf i1.toNatClampNeg := ex_83.trans (congrFun (hx_afS hM grag rfl af_rag) _)
                    obtain rfl : x_11 = x_83 := ex_11.trans ex_83.symm
                    refine lv_aload_n hx hb dX10_hear_249 rfl (lv_at hl 1 rfl) ?_
                    refine hk_getr hx hb hts hC_10 hown hW (gx.S hM) tt_10 37 (by decide) rfl kw_1180 ⟨rfl, rfl, rfl⟩ ((hM.o gx trivial rfl).2.trans f_x_37) dX10_hear_250 ?_
                    refine lv_iload_n hx hb dX10_hear_253 rfl (lv_at hl 2 rfl) ?_
                    refine hx_iald hx hb hW hT (grby.S hM) tt_72 rfl ⟨by omega, by omega⟩ dX10_hear_254 (fun x_84 ex_84 lx_84 ux_84 => ?_)
                    have ax_84 : x_84 = byf i1.toNatClampNeg := ex_84.trans (congrFun (hx_afS hM grby rfl af_rby) _)
                    obtain rfl : x_69 = x_84 := ex_69.trans ex_84.symm
                    refine lv_aload_n hx hb dX10_hear_255 rfl (lv_at hl 1 rfl) ?_
                    refine hk_getr hx hb hts hC_10 hown hW (gx.S hM) tt_10 43 (by decide) rfl kw_1186 ⟨rfl, rfl, rfl⟩ ((hM.o gx trivial rfl).2.trans f_x_43) dX10_hear_256 ?_
                    refine lv_iload_n hx hb dX10_hear_259 rfl (lv_at hl 2 rfl) ?_
                    refine hx_iald hx hb hW hT (grfi.S hM) tt_78 rfl ⟨by omega, by omega⟩ dX10_hear_260 (fun x_85 ex_85 lx_85 ux_85 => ?_)
                    have ax_85 : x_85 = flf i1.toNatClampNeg := ex_85.trans (congrFun (hx_afS hM grfi rfl af_rfi) _)
                    obtain rfl : x_71 = x_85 := ex_71.trans ex_85.symm
                    refine hx_goi (hx_runV (As := [.int x_11, .int x_69, .int x_71]) (rest := [.int x_82, .ref rfc]) ⟨hx, hb, hml, hown, hts⟩ hW (gx.S hM) tt_10 (T := TX10) (N := 98) rfl (t_X10_bookSum_2 l dC dI dA L_72 h_78 H.size x x_11 x_69 x_71 hT (gx.S hM) qo (gqo.S hM) ((hM.o gx trivial rfl).2.trans f_x_30) qwi (gqwi.S hM) ((hM.o gx trivial rfl).2.trans f_x_31) qdy (gqdy.S hM) ((hM.o gx trivial rfl).2.trans f_x_32) qkd (gqkd.S hM) ((hM.o gx trivial rfl).2.trans f_x_33) qsm (gqsm.S hM) ((hM.o gx trivial rfl).2.trans f_x_34) of (hx_afS hM gqo rfl af_qo) wf (hx_afS hM gqwi rfl af_qwi) df (hx_afS hM gqdy rfl af_qdy) kf (hx_afS hM gqkd rfl af_qkd) sf (hx_afS hM gqsm rfl af_qsm) ln0 ((hM.o gx trivial rfl).1.trans f_x_29)) (cwV 3 hts (hx_gV kw_1573 kw_1570 kw_1572 kw_69 kw_103) rfl rfl rfl (by decide +kernel) ⟨Nat.le_of_ble_eq_true rfl, Nat.le_of_ble_eq_true rfl⟩) rfl hl.1 rfl (Nat.le_of_ble_eq_true rfl) dX10_hear_261 ⟨Nat.le_of_ble_eq_true rfl, Nat.le_of_ble_eq_true rfl⟩) hW (fun r_88 L_86 h_87 H locs p_89 hW => ?_)
                    obtain ⟨hr_90, hT, hs⟩ := p_89
                    replace hT : hx_T T_tb L_86 h_87 := hT
                    replace hs : hx_S T_tb [] L_72 h_78 L_86 h_87 := hs
                    replace f_42 := (hs.o (gx.S hM) trivial rfl).1.trans f_42
                    replace af_rst : h_87.2.1 rst = skf := (funext fun j => (hs.a (grst.S hM) rfl j).1).trans af_rst
                    replace af_rju : h_87.2.1 rju = udf := (funext fun j => (hs.a (grju.S hM) rfl j).1).trans af_rju
                    replace af_qtk : h_87.2.1 qtk = tf := (funext fun j => (hs.a (gqtk.S hM) rfl j).1).trans af_qtk
                    replace fw_20 : h_87.2.1 rsi = w_20 := (funext fun j => (hs.a (grsi.S hM) rfl j).1).trans fw_20
                    replace fw_34 : h_87.2.1 rbe = w_34 := (funext fun j => (hs.a (grbe.S hM) rfl j).1).trans fw_34
                    replace nfa_36 : h_87.2.1 rhe = fa_36 := (funext fun j => (hs.a (grhe.S hM) rfl j).1).trans nfa_36
                    replace nfa_38 : h_87.2.1 rho = fa_38 := (funext fun j => (hs.a (grho.S hM) rfl j).1).trans nfa_38
                    replace nfa_79 : h_87.2.1 rfc = fa_79 := (funext fun j => (hs.a (grfc.S hM) rfl j).1).trans nfa_79
                    replace ex_7 := ex_7.trans (hs.a (grfo.S hM) rfl _).1.symm
                    replace ex_11 := ex_11.trans (hs.a (grag.S hM) rfl _).1.symm
                    replace ex_12 := ex_12.trans (hs.a (grdd.S hM) rfl _).1.symm
                    replace ex_56 := ex_56.trans (hs.a (grnt.S hM) rfl _).1.symm
                    replace ex_63 := ex_63.trans (hs.a (grwt.S hM) rfl _).1.symm
                    replace ex_69 := ex_69.trans (hs.a (grby.S hM) rfl _).1.symm
                    replace ex_71 := ex_71.trans (hs.a (grfi.S hM) rfl _).1.symm
                    replace hM := hM.tr (hs.mono (by decide))
                    have nS_91 := hr_90; rw [ax_69, ax_11, ax_71] at nS_91
                    refine lv_ineg hx hb dX10_hear_264 ?_
                    refine lv_topi (fun x_92 ex_92 => ?_)
                    have nfa_79O := nfa_79
                    refine hx_iast hx hb hW hT (hx_S.rf (M := [(88, 0)])) (grfc.S hM) tt_88 rfl ⟨by omega, by omega⟩ rfl (i32_r _) (List.mem_singleton.mpr rfl) dX10_hear_265 (fun H locs h_93 eh_93 hW hT hs => ?_)
                    replace f_42 := (hs.o (gx.S hM) trivial rfl).1.trans f_42
                    replace af_rst : h_93.2.1 rst = skf := (funext fun j => (hs.a (grst.S hM) rfl j).1).trans af_rst
                    replace af_rju : h_93.2.1 rju = udf := (funext fun j => (hs.a (grju.S hM) rfl j).1).trans af_rju
                    replace af_qtk : h_93.2.1 qtk = tf := (funext fun j => (hs.a (gqtk.S hM) rfl j).1).trans af_qtk
                    replace fw_20 : h_93.2.1 rsi = w_20 := (funext fun j => (hs.a (grsi.S hM) rfl j).1).trans fw_20
                    replace fw_34 : h_93.2.1 rbe = w_34 := (funext fun j => (hs.a (grbe.S hM) rfl j).1).trans fw_34
                    replace nfa_36 : h_93.2.1 rhe = fa_36 := (funext fun j => (hs.a (grhe.S hM) rfl j).1).trans nfa_36
                    replace nfa_38 : h_93.2.1 rho = fa_38 := (funext fun j => (hs.a (grho.S hM) rfl j).1).trans nfa_38
                    replace ex_7 := ex_7.trans (hs.a (grfo.S hM) rfl _).1.symm
                    replace ex_11 := ex_11.trans (hs.a (grag.S hM) rfl _).1.symm
                    replace ex_12 := ex_12.trans (hs.a (grdd.S hM) rfl _).1.symm
                    replace ex_56 := ex_56.trans (hs.a (grnt.S hM) rfl _).1.symm
                    replace ex_63 := ex_63.trans (hs.a (grwt.S hM) rfl _).1.symm
                    replace ex_69 := ex_69.trans (hs.a (grby.S hM) rfl _).1.symm
                    replace ex_71 := ex_71.trans (hs.a (grfi.S hM) rfl _).1.symm
                    replace hM := hM.tr (hs.mono (by decide))
                    obtain ⟨fa_94, dfa_94⟩ : ∃ g : Nat → Int32, g = hx_up fa_79 x_82.toNatClampNeg x_92 := ⟨_, rfl⟩
                    have nfa_94 : h_93.2.1 rfc = fa_94 := by rw [eh_93, dfa_94, ← nfa_79O]; exact hx_pi_fun _ _ _ _
                    refine lv_aload_n hx hb dX10_hear_266 rfl (lv_at hl 1 rfl) ?_
                    refine hk_getr hx hb hts hC_10 hown hW (gx.S hM) tt_10 53 (by decide) rfl kw_1196 ⟨rfl, rfl, rfl⟩ ((hM.o gx trivial rfl).2.trans f_x_53) dX10_hear_267 ?_
                    refine lv_bipush (v := 8) hx hb dX10_hear_270 (by decide) ?_
                    refine lv_iload_n hx hb dX10_hear_272 rfl (lv_at hl 2 rfl) ?_
                    refine lv_imul hx hb dX10_hear_273 ?_
                    refine lv_topi (fun x_95 ex_95 => ?_)
                    have zx_95 : x_95.toInt = 8 * i1.toInt := by rw [ex_95]; exact i32_mul (by decide) rfl rfl (by omega) (by omega)
                    refine lv_bipush (v := 6) hx hb dX10_hear_274 (by decide) ?_
                    refine lv_iadd hx hb dX10_hear_276 ?_
                    have rg_96 := i32_r x_95
                    refine lv_topi (fun x_97 ex_97 => ?_)
                    have zx_97 : x_97.toInt = x_95.toInt + 6 := by rw [ex_97]; exact i32_add rfl (by decide) (by omega) (by omega)
                    refine lv_aload_n hx hb dX10_hear_277 rfl (lv_at hl 1 rfl) ?_
                    refine lv_aload_n hx hb dX10_hear_278 rfl (lv_at hl 1 rfl) ?_
                    refine hk_getr hx hb hts hC_10 hown hW (gx.S hM) tt_10 37 (by decide) rfl kw_1180 ⟨rfl, rfl, rfl⟩ ((hM.o gx trivial rfl).2.trans f_x_37) dX10_hear_279 ?_
                    refine lv_iload_n hx hb dX10_hear_282 rfl (lv_at hl 2 rfl) ?_
                    refine hx_iald hx hb hW hT (grby.S hM) tt_72 rfl ⟨by omega, by omega⟩ dX10_hear_283 (fun x_98 ex_98 lx_98 ux_98 => ?_)
                    have ax_98 : x_98 = byf i1.toNatClampNeg := ex_98.trans (congrFun (hx_afS hM grby rfl af_rby) _)
                    obtain rfl : x_69 = x_98 := ex_69.trans ex_98.symm
                    refine lv_aload_n hx hb dX10_hear_284 rfl (lv_at hl 1 rfl) ?_
                    refine hk_getr hx hb hts hC_10 hown hW (gx.S hM) tt_10 38 (by decide) rfl kw_1181 ⟨rfl, rfl, rfl⟩ ((hM.o gx trivial rfl).2.trans f_x_38) dX10_hear_285 ?_
                    refine lv_iload_n hx hb dX10_hear_288 rfl (lv_at hl 2 rfl) ?_
                    refine hx_iald hx hb hW hT (grag.S hM) tt_73 rfl ⟨by omega, by omega⟩ dX10_hear_289 (fun x_99 ex_99 lx_99 ux_99 => ?_)
                    have ax_99 : x_99 = agf i1.toNatClampNeg := ex_99.trans (congrFun (hx_afS hM grag rfl af_rag) _)
                    obtain rfl : x_11 = x_99 := ex_11.trans ex_99.symm
                    refine lv_aload_n hx hb dX10_hear_290 rfl (lv_at hl 1 rfl) ?_
                    refine hk_getr hx hb hts hC_10 hown hW (gx.S hM) tt_10 43 (by decide) rfl kw_1186 ⟨rfl, rfl, rfl⟩ ((hM.o gx trivial rfl).2.trans f_x_43) dX10_hear_291 ?_
                    refine lv_iload_n hx hb dX10_hear_294 rfl (lv_at hl 2 rfl) ?_
                    refine hx_iald hx hb hW hT (grfi.S hM) tt_78 rfl ⟨by omega, by omega⟩ dX10_hear_295 (fun x_100 ex_100 lx_100 ux_100 => ?_)
                    have ax_100 : x_100 = flf i1.toNatClampNeg := ex_100.trans (congrFun (hx_afS hM grfi rfl af_rfi) _)
                    obtain rfl : x_71 = x_100 := ex_71.trans ex_100.symm
                    refine hx_goi (hx_runV (As := [.int x_69, .int x_11, .int x_71]) (rest := [.int x_97, .ref rfc]) ⟨hx, hb, hml, hown, hts⟩ hW (gx.S hM) tt_10 (T := TX10) (N := 98) rfl (t_X10_alike_2 l dC dI dA L_86 h_93 H.size x x_69 x_11 x_71 hT (gx.S hM) qo (gqo.S hM) ((hM.o gx trivial rfl).2.trans f_x_30) qwi (gqwi.S hM) ((hM.o gx trivial rfl).2.trans f_x_31) qdy (gqdy.S hM) ((hM.o gx trivial rfl).2.trans f_x_32) qkd (gqkd.S hM) ((hM.o gx trivial rfl).2.trans f_x_33) qsm (gqsm.S hM) ((hM.o gx trivial rfl).2.trans f_x_34) qtk (gqtk.S hM) ((hM.o gx trivial rfl).2.trans f_x_35) of (hx_afS hM gqo rfl af_qo) wf (hx_afS hM gqwi rfl af_qwi) df (hx_afS hM gqdy rfl af_qdy) kf (hx_afS hM gqkd rfl af_qkd) sf (hx_afS hM gqsm rfl af_qsm) tf af_qtk ln0 ((hM.o gx trivial rfl).1.trans f_x_29) bf hBD hDY ⟨by omega, by omega⟩) (cwV 3 hts (hx_gV kw_1577 kw_1574 kw_1576 kw_70 kw_103) rfl rfl rfl (by decide +kernel) ⟨Nat.le_of_ble_eq_true rfl, Nat.le_of_ble_eq_true rfl⟩) rfl hl.1 rfl (Nat.le_of_ble_eq_true rfl) dX10_hear_296 ⟨Nat.le_of_ble_eq_true rfl, Nat.le_of_ble_eq_true rfl⟩) hW (fun r_103 L_101 h_102 H locs p_104 hW => ?_)
                    obtain ⟨hr_105, hT, hs⟩ := p_104
                    replace hT : hx_T T_tb L_101 h_102 := hT
                    replace hs : hx_S T_tb [(71, 0)] L_86 h_93 L_101 h_102 := hs
                    replace f_42 := (hs.o (gx.S hM) trivial rfl).1.trans f_42
                    replace af_rst : h_102.2.1 rst = skf := (funext fun j => (hs.a (grst.S hM) rfl j).1).trans af_rst
                    replace af_rju : h_102.2.1 rju = udf := (funext fun j => (hs.a (grju.S hM) rfl j).1).trans af_rju
                    replace fw_20 : h_102.2.1 rsi = w_20 := (funext fun j => (hs.a (grsi.S hM) rfl j).1).trans fw_20
                    replace fw_34 : h_102.2.1 rbe = w_34 := (funext fun j => (hs.a (grbe.S hM) rfl j).1).trans fw_34
                    replace nfa_36 : h_102.2.1 rhe = fa_36 := (funext fun j => (hs.a (grhe.S hM) rfl j).1).trans nfa_36
                    replace nfa_38 : h_102.2.1 rho = fa_38 := (funext fun j => (hs.a (grho.S hM) rfl j).1).trans nfa_38
                    replace nfa_94 : h_102.2.1 rfc = fa_94 := (funext fun j => (hs.a (grfc.S hM) rfl j).1).trans nfa_94
                    replace ex_7 := ex_7.trans (hs.a (grfo.S hM) rfl _).1.symm
                    replace ex_11 := ex_11.trans (hs.a (grag.S hM) rfl _).1.symm
                    replace ex_12 := ex_12.trans (hs.a (grdd.S hM) rfl _).1.symm
                    replace ex_56 := ex_56.trans (hs.a (grnt.S hM) rfl _).1.symm
                    replace ex_63 := ex_63.trans (hs.a (grwt.S hM) rfl _).1.symm
                    replace ex_69 := ex_69.trans (hs.a (grby.S hM) rfl _).1.symm
                    replace ex_71 := ex_71.trans (hs.a (grfi.S hM) rfl _).1.symm
                    replace hM := hM.tr (hs.mono (by decide))
                    have nS_106 := hr_105; rw [ax_69, ax_11, ax_71] at nS_106
                    have nfa_94O := nfa_94
                    refine hx_iast hx hb hW hT (hx_S.rf (M := [(88, 0)])) (grfc.S hM) tt_88 rfl ⟨by omega, by omega⟩ rfl (i32_r _) (List.mem_singleton.mpr rfl) dX10_hear_299 (fun H locs h_107 eh_107 hW hT hs => ?_)
                    replace f_42 := (hs.o (gx.S hM) trivial rfl).1.trans f_42
                    replace af_rst : h_107.2.1 rst = skf := (funext fun j => (hs.a (grst.S hM) rfl j).1).trans af_rst
                    replace af_rju : h_107.2.1 rju = udf := (funext fun j => (hs.a (grju.S hM) rfl j).1).trans af_rju
                    replace fw_20 : h_107.2.1 rsi = w_20 := (funext fun j => (hs.a (grsi.S hM) rfl j).1).trans fw_20
                    replace fw_34 : h_107.2.1 rbe = w_34 := (funext fun j => (hs.a (grbe.S hM) rfl j).1).trans fw_34
                    replace nfa_36 : h_107.2.1 rhe = fa_36 := (funext fun j => (hs.a (grhe.S hM) rfl j).1).trans nfa_36
                    replace nfa_38 : h_107.2.1 rho = fa_38 := (funext fun j => (hs.a (grho.S hM) rfl j).1).trans nfa_38
                    replace ex_7 := ex_7.trans (hs.a (grfo.S hM) rfl _).1.symm
                    replace ex_11 := ex_11.trans (hs.a (grag.S hM) rfl _).1.symm
                    replace ex_12 := ex_12.trans (hs.a (grdd.S hM) rfl _).1.symm
                    replace ex_56 := ex_56.trans (hs.a (grnt.S hM) rfl _).1.symm
                    replace ex_63 := ex_63.trans (hs.a (grwt.S hM) rfl _).1.symm
                    replace ex_69 := ex_69.trans (hs.a (grby.S hM) rfl _).1.symm
                    replace ex_71 := ex_71.trans (hs.a (grfi.S hM) rfl _).1.symm
                    replace hM := hM.tr (hs.mono (by decide))
                    obtain ⟨fa_108, dfa_108⟩ : ∃ g : Nat → Int32, g = hx_up fa_94 x_97.toNatClampNeg r_103 := ⟨_, rfl⟩
                    have nfa_108 : h_107.2.1 rfc = fa_108 := by rw [eh_107, dfa_108, ← nfa_94O]; exact hx_pi_fun _ _ _ _
                    refine lv_aload_n hx hb dX10_hear_300 rfl (lv_at hl 1 rfl) ?_
                    refine hk_getr hx hb hts hC_10 hown hW (gx.S hM) tt_10 53 (by decide) rfl kw_1196 ⟨rfl, rfl, rfl⟩ ((hM.o gx trivial rfl).2.trans f_x_53) dX10_hear_301 ?_
                    refine lv_bipush (v := 8) hx hb dX10_hear_304 (by decide) ?_
                    refine lv_iload_n hx hb dX10_hear_306 rfl (lv_at hl 2 rfl) ?_
                    refine lv_imul hx hb dX10_hear_307 ?_
                    refine lv_topi (fun x_109 ex_109 => ?_)
                    have zx_109 : x_109.toInt = 8 * i1.toInt := by rw [ex_109]; exact i32_mul (by decide) rfl rfl (by omega) (by omega)
                    refine lv_bipush (v := 7) hx hb dX10_hear_308 (by decide) ?_
                    refine lv_iadd hx hb dX10_hear_310 ?_
                    have rg_110 := i32_r x_109
                    refine lv_topi (fun x_111 ex_111 => ?_)
                    have zx_111 : x_111.toInt = x_109.toInt + 7 := by rw [ex_111]; exact i32_add rfl (by decide) (by omega) (by omega)
                    refine lv_aload_n hx hb dX10_hear_311 rfl (lv_at hl 1 rfl) ?_
                    refine hk_getr hx hb hts hC_10 hown hW (gx.S hM) tt_10 39 (by decide) rfl kw_1182 ⟨rfl, rfl, rfl⟩ ((hM.o gx trivial rfl).2.trans f_x_39) dX10_hear_312 ?_
                    refine lv_iload_n hx hb dX10_hear_315 rfl (lv_at hl 2 rfl) ?_
                    refine hx_iald hx hb hW hT (grsm.S hM) tt_74 rfl ⟨by omega, by omega⟩ dX10_hear_316 (fun x_112 ex_112 lx_112 ux_112 => ?_)
                    have ax_112 : x_112 = smf i1.toNatClampNeg := ex_112.trans (congrFun (hx_afS hM grsm rfl af_rsm) _)
                    have nfa_108O := nfa_108
                    refine hx_iast hx hb hW hT (hx_S.rf (M := [(88, 0)])) (grfc.S hM) tt_88 rfl ⟨by omega, by omega⟩ rfl (i32_r _) (List.mem_singleton.mpr rfl) dX10_hear_317 (fun H locs h_113 eh_113 hW hT hs => ?_)
                    replace f_42 := (hs.o (gx.S hM) trivial rfl).1.trans f_42
                    replace af_rst : h_113.2.1 rst = skf := (funext fun j => (hs.a (grst.S hM) rfl j).1).trans af_rst
                    replace af_rju : h_113.2.1 rju = udf := (funext fun j => (hs.a (grju.S hM) rfl j).1).trans af_rju
                    replace fw_20 : h_113.2.1 rsi = w_20 := (funext fun j => (hs.a (grsi.S hM) rfl j).1).trans fw_20
                    replace fw_34 : h_113.2.1 rbe = w_34 := (funext fun j => (hs.a (grbe.S hM) rfl j).1).trans fw_34
                    replace nfa_36 : h_113.2.1 rhe = fa_36 := (funext fun j => (hs.a (grhe.S hM) rfl j).1).trans nfa_36
                    replace nfa_38 : h_113.2.1 rho = fa_38 := (funext fun j => (hs.a (grho.S hM) rfl j).1).trans nfa_38
                    replace ex_7 := ex_7.trans (hs.a (grfo.S hM) rfl _).1.symm
                    replace ex_11 := ex_11.trans (hs.a (grag.S hM) rfl _).1.symm
                    replace ex_12 := ex_12.trans (hs.a (grdd.S hM) rfl _).1.symm
                    replace ex_56 := ex_56.trans (hs.a (grnt.S hM) rfl _).1.symm
                    replace ex_63 := ex_63.trans (hs.a (grwt.S hM) rfl _).1.symm
                    replace ex_69 := ex_69.trans (hs.a (grby.S hM) rfl _).1.symm
                    replace ex_71 := ex_71.trans (hs.a (grfi.S hM) rfl _).1.symm
                    replace ex_112 := ex_112.trans (hs.a (grsm.S hM) rfl _).1.symm
                    replace hM := hM.tr (hs.mono (by decide))
                    obtain ⟨fa_114, dfa_114⟩ : ∃ g : Nat → Int32, g = hx_up fa_108 x_111.toNatClampNeg x_112 := ⟨_, rfl⟩
                    have nfa_114 : h_113.2.1 rfc = fa_114 := by rw [eh_113, dfa_114, ← nfa_108O]; exact hx_pi_fun _ _ _ _
                    refine lv_aload_n hx hb dX10_hear_318 rfl (lv_at hl 1 rfl) ?_
                    refine hk_getr hx hb hts hC_10 hown hW (gx.S hM) tt_10 51 (by decide) rfl kw_1194 ⟨rfl, rfl, rfl⟩ ((hM.o gx trivial rfl).2.trans f_x_51) dX10_hear_319 ?_
                    refine lv_iload_n hx hb dX10_hear_322 rfl (lv_at hl 2 rfl) ?_
                    refine lv_aload_n hx hb dX10_hear_323 rfl (lv_at hl 1 rfl) ?_
                    refine lv_iload_n hx hb dX10_hear_324 rfl (lv_at hl 2 rfl) ?_
                    refine lv_aload_n hx hb dX10_hear_325 rfl (lv_at hl 1 rfl) ?_
                    refine hk_getr hx hb hts hC_10 hown hW (gx.S hM) tt_10 44 (by decide) rfl kw_1187 ⟨rfl, rfl, rfl⟩ ((hM.o gx trivial rfl).2.trans f_x_44) dX10_hear_326 ?_
                    refine lv_iload_n hx hb dX10_hear_329 rfl (lv_at hl 2 rfl) ?_
                    refine hx_iald hx hb hW hT (grpl.S hM) tt_79 rfl ⟨by omega, by omega⟩ dX10_hear_330 (fun x_115 ex_115 lx_115 ux_115 => ?_)
                    have ax_115 : x_115 = plf i1.toNatClampNeg := ex_115.trans (congrFun (hx_afS hM grpl rfl af_rpl) _)
                    have hpl := hPL i1.toInt (by omega) (by omega)
                    have hpl2 : 0 ≤ x_115.toInt ∧ x_115.toInt ≤ a0.toInt := by rw [ax_115]; exact hpl
                    obtain ⟨⟨hs1, _⟩, hs2, hs3⟩ := hCA.2 x_115.toInt.toNat (by omega)
                    refine hx_goi (hx_runV (As := [.int i1, .int x_115]) (rest := [.int i1, .ref rju]) ⟨hx, hb, hml, hown, hts⟩ hW (gx.S hM) tt_10 (T := TX10) (N := 98) rfl (t_X10_judges_v l dC dI dA L_101 h_113 H.size x i1 x_115 hT (gx.S hM) rby (grby.S hM) ((hM.o gx trivial rfl).2.trans f_x_37) rag (grag.S hM) ((hM.o gx trivial rfl).2.trans f_x_38) rfi (grfi.S hM) ((hM.o gx trivial rfl).2.trans f_x_43) rsm (grsm.S hM) ((hM.o gx trivial rfl).2.trans f_x_39) rrl (grrl.S hM) ((hM.o gx trivial rfl).2.trans f_x_3) rfr (grfr.S hM) ((hM.o gx trivial rfl).2.trans f_x_40) rbn (grbn.S hM) ((hM.o gx trivial rfl).2.trans f_x_21) rpn (grpn.S hM) ((hM.o gx trivial rfl).2.trans f_x_4) rpr (grpr.S hM) ((hM.o gx trivial rfl).2.trans f_x_5) rst (grst.S hM) ((hM.o gx trivial rfl).2.trans f_x_66) rfc (grfc.S hM) ((hM.o gx trivial rfl).2.trans f_x_53) byf (hx_afS hM grby rfl af_rby) agf (hx_afS hM grag rfl af_rag) flf (hx_afS hM grfi rfl af_rfi) smf (hx_afS hM grsm rfl af_rsm) rlf (hx_afS hM grrl rfl af_rrl) frf (hx_afS hM grfr rfl af_rfr) bnf (hx_afS hM grbn rfl af_rbn) psf (hx_afS hM grpn rfl af_rpn) prf (hx_afS hM grpr rfl af_rpr) skf af_rst fa_114 nfa_114 c0 ((hM.o gx trivial rfl).1.trans f_x_36) ⟨by omega, by omega⟩ ⟨by omega, by omega⟩ (A x_115.toInt.toNat).2.1 (fun k hk => by rw [← hs2]; show _ = (if k < 13 then _ else 0); rw [if_pos (by omega)]) (hAB _).1 (A x_115.toInt.toNat).2.2 (hAB _).2 hs3 hs1) (cwV 2 hts (hx_gV kw_1617 kw_1614 kw_1616 kw_77 kw_103) rfl rfl rfl (by decide +kernel) ⟨Nat.le_of_ble_eq_true rfl, Nat.le_of_ble_eq_true rfl⟩) rfl hl.1 rfl (Nat.le_of_ble_eq_true rfl) dX10_hear_331 ⟨Nat.le_of_ble_eq_true rfl, Nat.le_of_ble_eq_true rfl⟩) hW (fun r_118 L_116 h_117 H locs p_119 hW => ?_)
                    obtain ⟨hr_120, hT, hs⟩ := p_119
                    replace hT : hx_T T_tb L_116 h_117 := hT
                    replace hs : hx_S T_tb [(99, 0)] L_101 h_113 L_116 h_117 := hs
                    replace f_42 := (hs.o (gx.S hM) trivial rfl).1.trans f_42
                    replace af_rju : h_117.2.1 rju = udf := (funext fun j => (hs.a (grju.S hM) rfl j).1).trans af_rju
                    replace fw_20 : h_117.2.1 rsi = w_20 := (funext fun j => (hs.a (grsi.S hM) rfl j).1).trans fw_20
                    replace fw_34 : h_117.2.1 rbe = w_34 := (funext fun j => (hs.a (grbe.S hM) rfl j).1).trans fw_34
                    replace nfa_36 : h_117.2.1 rhe = fa_36 := (funext fun j => (hs.a (grhe.S hM) rfl j).1).trans nfa_36
                    replace nfa_38 : h_117.2.1 rho = fa_38 := (funext fun j => (hs.a (grho.S hM) rfl j).1).trans nfa_38
                    replace nfa_114 : h_117.2.1 rfc = fa_114 := (funext fun j => (hs.a (grfc.S hM) rfl j).1).trans nfa_114
                    replace ex_7 := ex_7.trans (hs.a (grfo.S hM) rfl _).1.symm
                    replace ex_11 := ex_11.trans (hs.a (grag.S hM) rfl _).1.symm
                    replace ex_12 := ex_12.trans (hs.a (grdd.S hM) rfl _).1.symm
                    replace ex_56 := ex_56.trans (hs.a (grnt.S hM) rfl _).1.symm
                    replace ex_63 := ex_63.trans (hs.a (grwt.S hM) rfl _).1.symm
                    replace ex_69 := ex_69.trans (hs.a (grby.S hM) rfl _).1.symm
                    replace ex_71 := ex_71.trans (hs.a (grfi.S hM) rfl _).1.symm
                    replace ex_112 := ex_112.trans (hs.a (grsm.S hM) rfl _).1.symm
                    replace ex_115 := ex_115.trans (hs.a (grpl.S hM) rfl _).1.symm
                    replace hM := hM.tr (hs.mono (by decide))
                    have hJ9 := hr_120.1; rw [ax_115] at hJ9
                    have af_rjuO := af_rju
                    refine hx_iast hx hb hW hT (hx_S.rf (M := [(86, 0)])) (grju.S hM) tt_86 rfl ⟨by omega, by omega⟩ rfl ⟨by omega, by omega⟩ (List.mem_singleton.mpr rfl) dX10_hear_334 (fun H locs h_121 eh_121 hW hT hs => ?_)
                    replace f_42 := (hs.o (gx.S hM) trivial rfl).1.trans f_42
                    replace fw_20 : h_121.2.1 rsi = w_20 := (funext fun j => (hs.a (grsi.S hM) rfl j).1).trans fw_20
                    replace fw_34 : h_121.2.1 rbe = w_34 := (funext fun j => (hs.a (grbe.S hM) rfl j).1).trans fw_34
                    replace nfa_36 : h_121.2.1 rhe = fa_36 := (funext fun j => (hs.a (grhe.S hM) rfl j).1).trans nfa_36
                    replace nfa_38 : h_121.2.1 rho = fa_38 := (funext fun j => (hs.a (grho.S hM) rfl j).1).trans nfa_38
                    replace nfa_114 : h_121.2.1 rfc = fa_114 := (funext fun j => (hs.a (grfc.S hM) rfl j).1).trans nfa_114
                    replace ex_7 := ex_7.trans (hs.a (grfo.S hM) rfl _).1.symm
                    replace ex_11 := ex_11.trans (hs.a (grag.S hM) rfl _).1.symm
                    replace ex_12 := ex_12.trans (hs.a (grdd.S hM) rfl _).1.symm
                    replace ex_56 := ex_56.trans (hs.a (grnt.S hM) rfl _).1.symm
                    replace ex_63 := ex_63.trans (hs.a (grwt.S hM) rfl _).1.symm
                    replace ex_69 := ex_69.trans (hs.a (grby.S hM) rfl _).1.symm
                    replace ex_71 := ex_71.trans (hs.a (grfi.S hM) rfl _).1.symm
                    replace ex_112 := ex_112.trans (hs.a (grsm.S hM) rfl _).1.symm
                    replace ex_115 := ex_115.trans (hs.a (grpl.S hM) rfl _).1.symm
                    replace hM := hM.tr (hs.mono (by decide))
                    obtain ⟨fa_122, dfa_122⟩ : ∃ g : Nat → Int32, g = hx_up udf i1.toNatClampNeg r_118 := ⟨_, rfl⟩
                    have nfa_122 : h_121.2.1 rju = fa_122 := by rw [eh_121, dfa_122, ← af_rjuO]; exact hx_pi_fun _ _ _ _
                    refine lv_aload_n hx hb dX10_hear_335 rfl (lv_at hl 1 rfl) ?_
                    refine hk_getr hx hb hts hC_10 hown hW (gx.S hM) tt_10 51 (by decide) rfl kw_1194 ⟨rfl, rfl, rfl⟩ ((hM.o gx trivial rfl).2.trans f_x_51) dX10_hear_336 ?_
                    refine lv_iload_n hx hb dX10_hear_339 rfl (lv_at hl 2 rfl) ?_
                    refine hx_iald hx hb hW hT (grju.S hM) tt_86 rfl ⟨by omega, by omega⟩ dX10_hear_340 (fun x_123 ex_123 lx_123 ux_123 => ?_)
                    have ax_123 : x_123 = fa_122 i1.toNatClampNeg := ex_123.trans (congrFun nfa_122 _)
                    have exv9 : x_123 = r_118 := by rw [ax_123, dfa_122]; exact hx_up_at
                    exact hx_reti hx hb hr hlk hW ⟨⟨x_40, fa_36, fa_122, fa_38, fa_114, w_34, f_42, nfa_36, nfa_122, nfa_38, nfa_114, fw_34, ⟨Or.inr ⟨⟨⟨by omega, by omega⟩, (by rw [show fof i1.toInt.toNat = x_7 from ax_7.symm]; omega), (by rw [show hrf i1.toInt.toNat = x_9 from ax_9.symm]; omega), (by rw [show ddf (agf i1.toInt.toNat).toInt.toNat = x_12 from hdd9.symm]; omega), by omega, (by have h2 := hr_19.1; omega)⟩, (by rw [exv9]; exact hJ9), (by rw [exv9]; exact hr_120.2), by omega, dfa_36, (by rw [exv9]; exact dfa_122), (by rw [dfa_38]; congr 1)⟩, Or.inr ⟨(by rw [exv9]; have := hr_120.2; omega), (hv_CV_i dfa_46 dfa_52 dfa_59 dfa_65 dfa_79 dfa_94 dfa_108 dfa_114 (by unfold Int32.toNatClampNeg; omega) (by unfold Int32.toNatClampNeg; omega) (by unfold Int32.toNatClampNeg; omega) (by unfold Int32.toNatClampNeg; omega) (by unfold Int32.toNatClampNeg; omega) (by unfold Int32.toNatClampNeg; omega) (by unfold Int32.toNatClampNeg; omega) (by unfold Int32.toNatClampNeg; omega) ax_56 ax_63 (Int32.toInt_inj.mp nS_77) (by rw [ex_92, Int32.toInt_inj.mp nS_91]) nS_106 ax_112), (by obtain ⟨b0, b1, b2, hb, he⟩ := hr_33; rw [hp9, show r_17.toInt.toNat = (hv_fs jjf ddf kkf (byf i1.toNatClampNeg).toNatClampNeg (agf i1.toNatClampNeg).toNatClampNeg pn0.toInt.toNat).length by have h2 := hr_19.1; omega] at hb; exact ⟨b0, b1, b2, hb, he⟩)⟩⟩⟩, hT, hM⟩ dX10_hear_341
                  refine hb_if_eq (zx := x_56.toInt) (tgt := 180) hx hb rfl dX10_hear_173 (by decide) (fun c_124 => ?_) (fun c_124 => ?_)
                  · skip
                    refine lv_iconst (v := 0) hx hb dX10_hear_180 (by decide) ?_
                    have zj_181 : (0 : Int32).toInt = 0 := by decide
                    exact jn_181 (0 : Int32) ls (by decide) (by decide) (by omega) hl
                  · skip
                    refine lv_iconst (v := 1) hx hb dX10_hear_176 (by decide) ?_
                    refine lv_goto (tgt := 181) hx hb dX10_hear_177 (by decide) ?_
                    have zj_181 : (1 : Int32).toInt = 1 := by decide
                    exact jn_181 (1 : Int32) ls (by decide) (by decide) (by omega) hl
                refine hb_if_eq (zx := i3.toInt) (tgt := 155) hx hb rfl dX10_hear_148 (by decide) (fun c_125 => ?_) (fun c_125 => ?_)
                · skip
                  refine lv_iconst (v := 0) hx hb dX10_hear_155 (by decide) ?_
                  have zj_156 : (0 : Int32).toInt = 0 := by decide
                  exact jn_156 (0 : Int32) ls (by decide) (by decide) (by omega) hl
                · skip
                  refine lv_iconst (v := 1) hx hb dX10_hear_151 (by decide) ?_
                  refine lv_goto (tgt := 156) hx hb dX10_hear_152 (by decide) ?_
                  have zj_156 : (1 : Int32).toInt = 1 := by decide
                  exact jn_156 (1 : Int32) ls (by decide) (by decide) (by omega) hl
              refine hb_if_eq (zx := i2.toInt) (tgt := 135) hx hb rfl dX10_hear_128 (by decide) (fun c_126 => ?_) (fun c_126 => ?_)
              · skip
                refine lv_iconst (v := 0) hx hb dX10_hear_135 (by decide) ?_
                have zj_136 : (0 : Int32).toInt = 0 := by decide
                exact jn_136 (0 : Int32) ls (by decide) (by decide) (by omega) hl
              · skip
                refine lv_iconst (v := 1) hx hb dX10_hear_131 (by decide) ?_
                refine lv_goto (tgt := 136) hx hb dX10_hear_132 (by decide) ?_
                have zj_136 : (1 : Int32).toInt = 1 := by decide
                exact jn_136 (1 : Int32) ls (by decide) (by decide) (by omega) hl
            · skip
              refine lv_iconst (v := -1) hx hb dX10_hear_62 (by decide) ?_
              exact hx_reti hx hb hr hlk hW ⟨⟨m0, hrf, udf, hof, rf, bnh, f_x_57, af_rhe, af_rju, af_rho, af_rfc, af_rbe, ⟨Or.inl ⟨by decide, (fun hc => by have h1 := hc.2.2.2.2.2; have h2 := hr_19.1; omega), rfl, rfl, rfl, rfl⟩, Or.inl ⟨by decide, rfl, rfl⟩⟩⟩, hT, hM⟩ dX10_hear_63
          · skip
            refine lv_iconst (v := -1) hx hb dX10_hear_47 (by decide) ?_
            exact hx_reti hx hb hr hlk hW ⟨⟨m0, hrf, udf, hof, rf, bnh, f_x_57, af_rhe, af_rju, af_rho, af_rfc, af_rbe, ⟨Or.inl ⟨by decide, (fun hc => by have h1 := hc.2.2.2.2.1; omega), rfl, rfl, rfl, rfl⟩, Or.inl ⟨by decide, rfl, rfl⟩⟩⟩, hT, hM⟩ dX10_hear_48
end
