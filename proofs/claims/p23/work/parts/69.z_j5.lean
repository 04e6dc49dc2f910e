
set_option maxHeartbeats 4000000 in
set_option maxRecDepth 100000 in
theorem t_X9_drawBench_v (l : Launch) (dC : Nat → ClassId) (dI : Nat → Nat → Nat) (dA : Nat → ClassId) (L : List Nat) (h : hx_h) (sz : Nat) (x : Nat) (v1 : Nat) (i2 : Int32) (hT : hx_T T_tb L h) (gx : hx_g L h x 9) (gv1 : hx_g L h v1 2) (qp : Nat) (gqp : hx_g L h qp 44) (f_x_7 : h.2.2 x 7 = some qp) (qc : Nat) (gqc : hx_g L h qc 45) (f_x_10 : h.2.2 x 10 = some qc) (qfi : Nat) (gqfi : hx_g L h qfi 47) (f_x_15 : h.2.2 x 15 = some qfi) (ic : Int32) (eo_v1 : h.2.2 qc ic.toNatClampNeg = some v1) (ob_ic : 0 ≤ ic.toInt ∧ ic.toInt ≤ 99) (fi0 : Nat → Int32) (af_qfi : h.2.1 qfi = fi0) (cn0 : Int32) (f_x_11 : h.2.1 x 11 = cn0) (pn0 : Int32) (f_x_8 : h.2.1 x 8 = pn0) (df : Nat → Int32) (cl_qp_7 : hx_col 40 h qp 7 = df) (jf : Nat → Int32) (cl_qp_8 : hx_col 40 h qp 8 = jf) (kf : Nat → Int32) (cl_qp_2 : hx_col 40 h qp 2 = kf) (nu_qp : hx_num 40 h qp 0 (pn0.toInt)) (agf byf : Nat → Int32) (hDF : hw_DF h qc qp 2 agf cn0.toInt) (hDP : hw_DF h qc qp 1 byf cn0.toInt) (hcn : ic.toInt < cn0.toInt) (hi2 : 0 ≤ i2.toInt) (bF : Nat → Int32) (hBX : hv_FX 3 5 h qc bF cn0.toInt) (pf_x_8 : ∀ j : Nat, (j : Int) < (h.2.1 x 8).toInt → h.2.2 qp j ≠ none) : Met l yX9_drawBench (Cond.code yX9_drawBench cX9_drawBench 9 (some .boolean) :: hx_all) ({ frames := 2, cells := 0, slots := 0, locals := 42 }) (va_Pc [.ref x, .ref v1, .int i2] (hx_B T_tb (P_ty dA) (dC, dI) vwCl L h sz)) (va_Qi (fun (r : Int32) (u : List Nat × hx_h) => ((r.toInt = 1 ∧ 3 ≤ ((hv_fs jf df kf (byf ic.toNatClampNeg).toNatClampNeg (agf ic.toNatClampNeg).toNatClampNeg pn0.toInt.toNat).length : Int) ∧ ∃ (b0 b1 b2 : Int32) (bF1 : Nat → Int32), hv_BN (hv_fs jf df kf (byf ic.toNatClampNeg).toNatClampNeg (agf ic.toNatClampNeg).toNatClampNeg pn0.toInt.toNat) (i2.toInt % hv_T3 (hv_fs jf df kf (byf ic.toNatClampNeg).toNatClampNeg (agf ic.toNatClampNeg).toNatClampNeg pn0.toInt.toNat).length) b0 b1 b2 ∧ bF1 = hx_up (hx_up (hx_up bF (0 + 3 * ic.toNatClampNeg) b0) (1 + 3 * ic.toNatClampNeg) b1) (2 + 3 * ic.toNatClampNeg) b2 ∧ hv_FX 3 5 u.2 qc bF1 cn0.toInt) ∨ (r.toInt = 0 ∧ ((hv_fs jf df kf (byf ic.toNatClampNeg).toNatClampNeg (agf ic.toNatClampNeg).toNatClampNeg pn0.toInt.toNat).length : Int) < 3 ∧ hv_FX 3 5 u.2 qc bF cn0.toInt)) ∧ hx_T T_tb u.1 u.2 ∧ hx_S T_tb [(21, 0), (47, 0)] L h u.1 u.2) (hx_E T_tb (P_ty dA) (dC, dI) vwCl (hx_A L sz)) (hx_A L sz)) 0 0 (hx_A L sz) := by
  refine hx_met (lv := [(0, .ref x), (1, .ref v1), (2, .int i2)]) (by decide +kernel) rfl (Nat.le_of_ble_eq_true rfl) rfl ?_
  intro p e s m below meth c hx hb hml hr hlk hts0 hown hin hsz hW ls hl
  have hts : ∀ w ∈ hx_all, w.before _ s = true := fun w hw => hts0 w (List.mem_cons_of_mem _ hw)
  have hown : s.vm.findClass "SmallCourt" = some m.cls := hown
  have hM : hx_S T_tb [(21, 0), (47, 0)] L h L h := hx_S.rf
  have b_cn0 := hT.gi gx tt_9 (k := 11) rfl
  rw [f_x_11] at b_cn0
  have b_cn0 : 0 ≤ cn0.toInt ∧ cn0.toInt ≤ 100 := b_cn0
  have b_pn0 := hT.gi gx tt_9 (k := 8) rfl
  rw [f_x_8] at b_pn0
  have b_pn0 : 0 ≤ pn0.toInt ∧ pn0.toInt ≤ 40 := b_pn0
  refine lv_iconst (v := 0) hx hb dX9_drawBench_0 (by decide) ?_
  refine lv_istore_n (lv' := [(3, .int (0 : Int32)), (0, .ref x), (1, .ref v1), (2, .int i2)]) hx hb dX9_drawBench_1 rfl hl (by decide) rfl (fun ls hl => ?_)
  refine lv_iconst (v := 0) hx hb dX9_drawBench_2 (by decide) ?_
  refine lv_istore (lv' := [(4, .int (0 : Int32)), (3, .int (0 : Int32)), (0, .ref x), (1, .ref v1), (2, .int i2)]) hx hb dX9_drawBench_3 hl (by decide) rfl (fun ls hl => ?_)
  have loop5 : ∀ (n5 : Nat) (iv5_3 iv5_4 : Int32) (ia5_qfi : Nat → Int32) (H : Heap) (locs : List Loc) (hL1 : List Nat) (hl1 : hx_h), 0 ≤ iv5_3.toInt → iv5_3.toInt ≤ 40 → 0 ≤ iv5_4.toInt → iv5_4.toInt ≤ 40 → (hv_fl ia5_qfi (hv_fs jf df kf (byf ic.toNatClampNeg).toNatClampNeg (agf ic.toNatClampNeg).toNatClampNeg (iv5_4.toInt).toNat) ∧ iv5_3.toInt = ((hv_fs jf df kf (byf ic.toNatClampNeg).toNatClampNeg (agf ic.toNatClampNeg).toNatClampNeg (iv5_4.toInt).toNat).length : Int)) → (iv5_3.toInt ≤ iv5_4.toInt) → (iv5_4.toInt ≤ pn0.toInt) → ∀ (ls : Array Slot), 40 - iv5_4.toInt < (n5 : Int) → hx_W T_tb (P_ty dA) (dC, dI) vwCl (hx_A L sz) s.heap hL1 hl1 s H locs → hx_T T_tb hL1 hl1 → hx_S T_tb [(21, 0), (47, 0)] L h hL1 hl1 → hl1.2.2 x 7 = some qp → hl1.2.2 x 10 = some qc → hl1.2.2 x 15 = some qfi → hl1.2.1 x 11 = cn0 → hl1.2.1 x 8 = pn0 → hx_g hL1 hl1 x 9 → hx_g hL1 hl1 qp 44 → hx_g hL1 hl1 qc 45 → (∀ j : Nat, (j : Int) < (hl1.2.1 x 8).toInt → hl1.2.2 qp j ≠ none) → hl1.2.1 qfi = ia5_qfi → hx_col 40 hl1 qp 7 = df → hx_col 40 hl1 qp 8 = jf → hx_col 40 hl1 qp 2 = kf → hx_num 40 hl1 qp 0 (pn0.toInt) → hl1.2.2 qc ic.toNatClampNeg = some v1 → hw_DF hl1 qc qp 2 agf cn0.toInt → hw_DF hl1 qc qp 1 byf cn0.toInt → hv_FX 3 5 hl1 qc bF cn0.toInt → lv_has ls 9 [(4, .int iv5_4), (3, .int iv5_3), (0, .ref x), (1, .ref v1), (2, .int i2)] → W p l e ({ frames := 2, cells := 0, slots := 0, locals := 42 }) s m ([.ref x, .ref v1, .int i2] : List Value).toArray below meth c H locs 0 0 (MQ below (va_Qi (fun (r : Int32) (u : List Nat × hx_h) => ((r.toInt = 1 ∧ 3 ≤ ((hv_fs jf df kf (byf ic.toNatClampNeg).toNatClampNeg (agf ic.toNatClampNeg).toNatClampNeg pn0.toInt.toNat).length : Int) ∧ ∃ (b0 b1 b2 : Int32) (bF1 : Nat → Int32), hv_BN (hv_fs jf df kf (byf ic.toNatClampNeg).toNatClampNeg (agf ic.toNatClampNeg).toNatClampNeg pn0.toInt.toNat) (i2.toInt % hv_T3 (hv_fs jf df kf (byf ic.toNatClampNeg).toNatClampNeg (agf ic.toNatClampNeg).toNatClampNeg pn0.toInt.toNat).length) b0 b1 b2 ∧ bF1 = hx_up (hx_up (hx_up bF (0 + 3 * ic.toNatClampNeg) b0) (1 + 3 * ic.toNatClampNeg) b1) (2 + 3 * ic.toNatClampNeg) b2 ∧ hv_FX 3 5 u.2 qc bF1 cn0.toInt) ∨ (r.toInt = 0 ∧ ((hv_fs jf df kf (byf ic.toNatClampNeg).toNatClampNeg (agf ic.toNatClampNeg).toNatClampNeg pn0.toInt.toNat).length : Int) < 3 ∧ hv_FX 3 5 u.2 qc bF cn0.toInt)) ∧ hx_T T_tb u.1 u.2 ∧ hx_S T_tb [(21, 0), (47, 0)] L h u.1 u.2) (hx_E T_tb (P_ty dA) (dC, dI) vwCl (hx_A L sz)) (hx_A L sz)) ([.ref x, .ref v1, .int i2] : List Value).toArray s 0 0 (hx_A L sz)) (F0 m 5 ls []) := by
    intro n5
    induction n5 with
    | zero => intro iv5_3 iv5_4 ia5_qfi H locs hL1 hl1 bliv5_3 buiv5_3 bliv5_4 buiv5_4 vi5_0 vi5_1 vi5_2 ls hn5; exfalso; omega
    | succ n5 ih5 =>
      intro iv5_3 iv5_4 ia5_qfi H locs hL1 hl1 bliv5_3 buiv5_3 bliv5_4 buiv5_4 vi5_0 vi5_1 vi5_2 ls hn5 hW hT hM f_x_7 f_x_10 f_x_15 f_x_11 f_x_8 gx gqp gqc pf_x_8 nia5_qfi cl_qp_7 cl_qp_8 cl_qp_2 nu_qp eo_v1 hDF hDP hBX hl
      refine lv_iload hx hb dX9_drawBench_5 (lv_at hl 0 rfl) ?_
      refine lv_aload_n hx hb dX9_drawBench_7 rfl (lv_at hl 2 rfl) ?_
      refine hk_geti hx hb hts hC_9 hown hW gx tt_9 8 (by decide) rfl kw_372 ⟨rfl, rfl, rfl⟩ f_x_8 dX9_drawBench_8 ?_
      refine hb_icmp_ge (zx := iv5_4.toInt) (zy := pn0.toInt) (tgt := 45) hx hb rfl rfl dX9_drawBench_11 (by decide) (fun c_1 => ?_) (fun c_1 => ?_)
      · skip
        obtain ⟨hfl9, hln9⟩ := vi5_0; rw [show iv5_4.toInt.toNat = pn0.toInt.toNat by omega] at hfl9 hln9
        refine lv_iload_n hx hb dX9_drawBench_45 rfl (lv_at hl 1 rfl) ?_
        refine lv_iload_n hx hb dX9_drawBench_46 rfl (lv_at hl 1 rfl) ?_
        refine lv_iconst (v := 1) hx hb dX9_drawBench_47 (by decide) ?_
        refine lv_isub hx hb dX9_drawBench_48 ?_
        have rg_2 := i32_r iv5_3
        refine lv_topi (fun x_3 ex_3 => ?_)
        have zx_3 : x_3.toInt = iv5_3.toInt - 1 := by rw [ex_3]; exact i32_sub rfl (by decide) (by omega) (by omega)
        refine lv_imul hx hb dX9_drawBench_49 ?_
        refine lv_topi (fun x_4 ex_4 => ?_)
        have mx_4 : iv5_3.toInt = 0 → x_4.toInt = 0 := fun z => by rw [ex_4]; exact hx_mul0 z
        refine lv_iload_n hx hb dX9_drawBench_50 rfl (lv_at hl 1 rfl) ?_
        refine lv_iconst (v := 2) hx hb dX9_drawBench_51 (by decide) ?_
        refine lv_isub hx hb dX9_drawBench_52 ?_
        refine lv_topi (fun x_5 ex_5 => ?_)
        have zx_5 : x_5.toInt = iv5_3.toInt - 2 := by rw [ex_5]; exact i32_sub rfl (by decide) (by omega) (by omega)
        refine lv_imul hx hb dX9_drawBench_53 ?_
        refine lv_topi (fun x_6 ex_6 => ?_)
        have mx_6 : x_4.toInt = 0 → x_6.toInt = 0 := fun z => by rw [ex_6]; exact hx_mul0 z
        refine lv_bipush (v := 6) hx hb dX9_drawBench_54 (by decide) ?_
        refine lv_idiv hx hb dX9_drawBench_56 (by decide) ?_
        refine lv_topi (fun x_7 ex_7 => ?_)
        have zx_7 : -1073741824 ≤ x_7.toInt ∧ x_7.toInt ≤ 1073741824 := by rw [ex_7]; exact hx_divb (by decide)
        have hs9 : x_7.toInt = hv_T3 iv5_3.toInt.toNat := hv_n6 (by omega) (by omega) zx_3 ex_4 zx_5 ex_6 ex_7
        have ht9 := hv_T3_c (n := iv5_3.toInt) (by omega) (by omega)
        refine lv_istore (lv' := [(4, .int x_7), (3, .int iv5_3), (0, .ref x), (1, .ref v1), (2, .int i2)]) hx hb dX9_drawBench_57 hl (by decide) rfl (fun ls hl => ?_)
        refine lv_iload hx hb dX9_drawBench_59 (lv_at hl 0 rfl) ?_
        refine lv_iconst (v := 1) hx hb dX9_drawBench_61 (by decide) ?_
        refine hb_icmp_ge (zx := x_7.toInt) (zy := 1) (tgt := 67) hx hb rfl (by decide) dX9_drawBench_62 (by decide) (fun c_8 => ?_) (fun c_8 => ?_)
        · skip
          refine lv_iload_n hx hb dX9_drawBench_67 rfl (lv_at hl 4 rfl) ?_
          refine lv_iload hx hb dX9_drawBench_68 (lv_at hl 0 rfl) ?_
          refine lv_irem hx hb dX9_drawBench_70 (hx_ne0 (by omega)) ?_
          refine lv_topi (fun x_9 ex_9 => ?_)
          have zx_9 : 0 ≤ x_9.toInt ∧ x_9.toInt < x_7.toInt := by rw [ex_9]; exact hx_rem (by omega) (by omega)
          have hp9 : x_9.toInt = i2.toInt % hv_T3 iv5_3.toInt.toNat := by rw [ex_9, hx_remz (by omega) (by omega), hs9]
          refine lv_istore (lv' := [(5, .int x_9), (4, .int x_7), (3, .int iv5_3), (0, .ref x), (1, .ref v1), (2, .int i2)]) hx hb dX9_drawBench_71 hl (by decide) rfl (fun ls hl => ?_)
          refine lv_iconst (v := 0) hx hb dX9_drawBench_73 (by decide) ?_
          refine lv_istore (lv' := [(6, .int (0 : Int32)), (5, .int x_9), (4, .int x_7), (3, .int iv5_3), (0, .ref x), (1, .ref v1), (2, .int i2)]) hx hb dX9_drawBench_74 hl (by decide) rfl (fun ls hl => ?_)
          have loop76 : ∀ (n76 : Nat) (iv76_5 iv76_6 : Int32) (H : Heap) (locs : List Loc) (hL1 : List Nat) (hl1 : hx_h), 0 ≤ iv76_5.toInt → iv76_5.toInt ≤ 9880 → 0 ≤ iv76_6.toInt → iv76_6.toInt ≤ 40 → (iv76_5.toInt = (i2.toInt % hv_T3 iv5_3.toInt.toNat) - hv_T3 iv5_3.toInt.toNat + hv_T3 (iv5_3.toInt - iv76_6.toInt).toNat) → (iv76_6.toInt ≤ iv5_3.toInt) → ∀ (ls : Array Slot), 40 - iv76_6.toInt < (n76 : Int) → hx_W T_tb (P_ty dA) (dC, dI) vwCl (hx_A L sz) s.heap hL1 hl1 s H locs → hx_T T_tb hL1 hl1 → hx_S T_tb [(21, 0), (47, 0)] L h hL1 hl1 → hl1.2.2 x 7 = some qp → hl1.2.2 x 10 = some qc → hl1.2.2 x 15 = some qfi → hl1.2.1 x 11 = cn0 → hl1.2.1 x 8 = pn0 → hx_g hL1 hl1 x 9 → hx_g hL1 hl1 qp 44 → hx_g hL1 hl1 qc 45 → (∀ j : Nat, (j : Int) < (hl1.2.1 x 8).toInt → hl1.2.2 qp j ≠ none) → hl1.2.1 qfi = ia5_qfi → hx_col 40 hl1 qp 7 = df → hx_col 40 hl1 qp 8 = jf → hx_col 40 hl1 qp 2 = kf → hx_num 40 hl1 qp 0 (pn0.toInt) → hl1.2.2 qc ic.toNatClampNeg = some v1 → hw_DF hl1 qc qp 2 agf cn0.toInt → hw_DF hl1 qc qp 1 byf cn0.toInt → hv_FX 3 5 hl1 qc bF cn0.toInt → lv_has ls 9 [(6, .int iv76_6), (5, .int iv76_5), (4, .int x_7), (3, .int iv5_3), (0, .ref x), (1, .ref v1), (2, .int i2)] → W p l e ({ frames := 2, cells := 0, slots := 0, locals := 42 }) s m ([.ref x, .ref v1, .int i2] : List Value).toArray below meth c H locs 0 0 (MQ below (va_Qi (fun (r : Int32) (u : List Nat × hx_h) => ((r.toInt = 1 ∧ 3 ≤ ((hv_fs jf df kf (byf ic.toNatClampNeg).toNatClampNeg (agf ic.toNatClampNeg).toNatClampNeg pn0.toInt.toNat).length : Int) ∧ ∃ (b0 b1 b2 : Int32) (bF1 : Nat → Int32), hv_BN (hv_fs jf df kf (byf ic.toNatClampNeg).toNatClampNeg (agf ic.toNatClampNeg).toNatClampNeg pn0.toInt.toNat) (i2.toInt % hv_T3 (hv_fs jf df kf (byf ic.toNatClampNeg).toNatClampNeg (agf ic.toNatClampNeg).toNatClampNeg pn0.toInt.toNat).length) b0 b1 b2 ∧ bF1 = hx_up (hx_up (hx_up bF (0 + 3 * ic.toNatClampNeg) b0) (1 + 3 * ic.toNatClampNeg) b1) (2 + 3 * ic.toNatClampNeg) b2 ∧ hv_FX 3 5 u.2 qc bF1 cn0.toInt) ∨ (r.toInt = 0 ∧ ((hv_fs jf df kf (byf ic.toNatClampNeg).toNatClampNeg (agf ic.toNatClampNeg).toNatClampNeg pn0.toInt.toNat).length : Int) < 3 ∧ hv_FX 3 5 u.2 qc bF cn0.toInt)) ∧ hx_T T_tb u.1 u.2 ∧ hx_S T_tb [(21, 0), (47, 0)] L h u.1 u.2) (hx_E T_tb (P_ty dA) (dC, dI) vwCl (hx_A L sz)) (hx_A L sz)) ([.ref x, .ref v1, .int i2] : List Value).toArray s 0 0 (hx_A L sz)) (F0 m 76 ls []) := by
            intro n76
            induction n76 with
            | zero => intro iv76_5 iv76_6 H locs hL1 hl1 bliv76_5 buiv76_5 bliv76_6 buiv76_6 vi76_0 vi76_1 ls hn76; exfalso; omega
            | succ n76 ih76 =>
              intro iv76_5 iv76_6 H locs hL1 hl1 bliv76_5 buiv76_5 bliv76_6 buiv76_6 vi76_0 vi76_1 ls hn76 hW hT hM f_x_7 f_x_10 f_x_15 f_x_11 f_x_8 gx gqp gqc pf_x_8 nia5_qfi cl_qp_7 cl_qp_8 cl_qp_2 nu_qp eo_v1 hDF hDP hBX hl
              refine lv_iload hx hb dX9_drawBench_76 (lv_at hl 0 rfl) ?_
              refine lv_iload_n hx hb dX9_drawBench_78 rfl (lv_at hl 3 rfl) ?_
              refine hb_icmp_ge (zx := iv76_6.toInt) (zy := iv5_3.toInt) (tgt := 174) hx hb rfl rfl dX9_drawBench_79 (by decide) (fun c_10 => ?_) (fun c_10 => ?_)
              · skip
                refine lv_iconst (v := 0) hx hb dX9_drawBench_174 (by decide) ?_
                exact hx_retz hx hb hr rfl hlk hW ⟨(by exfalso; have h8 : hv_T3 (iv76_6.toInt - iv76_6.toInt).toNat = 0 := (by { rw [show (iv76_6.toInt - iv76_6.toInt).toNat = 0 by omega]; rfl }); have h7 : hv_T3 (iv5_3.toInt - iv76_6.toInt).toNat = 0 := (by { rw [show (iv5_3.toInt - iv76_6.toInt).toNat = 0 by omega]; rfl }); omega), hT, hM⟩ dX9_drawBench_175
              · skip
                refine lv_iload hx hb dX9_drawBench_82 (lv_at hl 0 rfl) ?_
                refine lv_iconst (v := 1) hx hb dX9_drawBench_84 (by decide) ?_
                refine lv_iadd hx hb dX9_drawBench_85 ?_
                have rg_11 := i32_r iv76_6
                refine lv_topi (fun x_12 ex_12 => ?_)
                have zx_12 : x_12.toInt = iv76_6.toInt + 1 := by rw [ex_12]; exact i32_add rfl (by decide) (by omega) (by omega)
                refine lv_istore (lv' := [(7, .int x_12), (6, .int iv76_6), (5, .int iv76_5), (4, .int x_7), (3, .int iv5_3), (0, .ref x), (1, .ref v1), (2, .int i2)]) hx hb dX9_drawBench_86 hl (by decide) rfl (fun ls hl => ?_)
                have loop88 : ∀ (n88 : Nat) (iv88_5 iv88_7 : Int32) (H : Heap) (locs : List Loc) (hL1 : List Nat) (hl1 : hx_h), 0 ≤ iv88_5.toInt → iv88_5.toInt ≤ 9880 → 0 ≤ iv88_7.toInt → iv88_7.toInt ≤ 40 → (iv88_5.toInt = (i2.toInt % hv_T3 iv5_3.toInt.toNat) - hv_T3 iv5_3.toInt.toNat + hv_T3 (iv5_3.toInt - iv76_6.toInt).toNat - hv_T2 (iv5_3.toInt - iv76_6.toInt - 1).toNat + hv_T2 (iv5_3.toInt - iv88_7.toInt).toNat) → (iv88_7.toInt ≤ iv5_3.toInt) → (iv76_6.toInt + 1 ≤ iv88_7.toInt) → ∀ (ls : Array Slot), 40 - iv88_7.toInt < (n88 : Int) → hx_W T_tb (P_ty dA) (dC, dI) vwCl (hx_A L sz) s.heap hL1 hl1 s H locs → hx_T T_tb hL1 hl1 → hx_S T_tb [(21, 0), (47, 0)] L h hL1 hl1 → hl1.2.2 x 7 = some qp → hl1.2.2 x 10 = some qc → hl1.2.2 x 15 = some qfi → hl1.2.1 x 11 = cn0 → hl1.2.1 x 8 = pn0 → hx_g hL1 hl1 x 9 → hx_g hL1 hl1 qp 44 → hx_g hL1 hl1 qc 45 → (∀ j : Nat, (j : Int) < (hl1.2.1 x 8).toInt → hl1.2.2 qp j ≠ none) → hl1.2.1 qfi = ia5_qfi → hx_col 40 hl1 qp 7 = df → hx_col 40 hl1 qp 8 = jf → hx_col 40 hl1 qp 2 = kf → hx_num 40 hl1 qp 0 (pn0.toInt) → hl1.2.2 qc ic.toNatClampNeg = some v1 → hw_DF hl1 qc qp 2 agf cn0.toInt → hw_DF hl1 qc qp 1 byf cn0.toInt → hv_FX 3 5 hl1 qc bF cn0.toInt → lv_has ls 9 [(7, .int iv88_7), (6, .int iv76_6), (5, .int iv88_5), (4, .int x_7), (3, .int iv5_3), (0, .ref x), (1, .ref v1), (2, .int i2)] → W p l e ({ frames := 2, cells := 0, slots := 0, locals := 42 }) s m ([.ref x, .ref v1, .int i2] : List Value).toArray below meth c H locs 0 0 (MQ below (va_Qi (fun (r : Int32) (u : List Nat × hx_h) => ((r.toInt = 1 ∧ 3 ≤ ((hv_fs jf df kf (byf ic.toNatClampNeg).toNatClampNeg (agf ic.toNatClampNeg).toNatClampNeg pn0.toInt.toNat).length : Int) ∧ ∃ (b0 b1 b2 : Int32) (bF1 : Nat → Int32), hv_BN (hv_fs jf df kf (byf ic.toNatClampNeg).toNatClampNeg (agf ic.toNatClampNeg).toNatClampNeg pn0.toInt.toNat) (i2.toInt % hv_T3 (hv_fs jf df kf (byf ic.toNatClampNeg).toNatClampNeg (agf ic.toNatClampNeg).toNatClampNeg pn0.toInt.toNat).length) b0 b1 b2 ∧ bF1 = hx_up (hx_up (hx_up bF (0 + 3 * ic.toNatClampNeg) b0) (1 + 3 * ic.toNatClampNeg) b1) (2 + 3 * ic.toNatClampNeg) b2 ∧ hv_FX 3 5 u.2 qc bF1 cn0.toInt) ∨ (r.toInt = 0 ∧ ((hv_fs jf df kf (byf ic.toNatClampNeg).toNatClampNeg (agf ic.toNatClampNeg).toNatClampNeg pn0.toInt.toNat).length : Int) < 3 ∧ hv_FX 3 5 u.2 qc bF cn0.toInt)) ∧ hx_T T_tb u.1 u.2 ∧ hx_S T_tb [(21, 0), (47, 0)] L h u.1 u.2) (hx_E T_tb (P_ty dA) (dC, dI) vwCl (hx_A L sz)) (hx_A L sz)) ([.ref x, .ref v1, .int i2] : List Value).toArray s 0 0 (hx_A L sz)) (F0 m 88 ls []) := by
                  intro n88
                  induction n88 with
                  | zero => intro iv88_5 iv88_7 H locs hL1 hl1 bliv88_5 buiv88_5 bliv88_7 buiv88_7 vi88_0 vi88_1 vi88_2 ls hn88; exfalso; omega
                  | succ n88 ih88 =>
                    intro iv88_5 iv88_7 H locs hL1 hl1 bliv88_5 buiv88_5 bliv88_7 buiv88_7 vi88_0 vi88_1 vi88_2 ls hn88 hW hT hM f_x_7 f_x_10 f_x_15 f_x_11 f_x_8 gx gqp gqc pf_x_8 nia5_qfi cl_qp_7 cl_qp_8 cl_qp_2 nu_qp eo_v1 hDF hDP hBX hl
                    refine lv_iload hx hb dX9_drawBench_88 (lv_at hl 0 rfl) ?_
                    refine lv_iload_n hx hb dX9_drawBench_90 rfl (lv_at hl 4 rfl) ?_
                    refine hb_icmp_ge (zx := iv88_7.toInt) (zy := iv5_3.toInt) (tgt := 168) hx hb rfl rfl dX9_drawBench_91 (by decide) (fun c_13 => ?_) (fun c_13 => ?_)
                    · skip
                      obtain ⟨x_14, ex_14⟩ : ∃ y : Int32, y = iv76_6 + Int32.ofInt 1 := ⟨_, rfl⟩
                      have zx_14 : x_14.toInt = iv76_6.toInt + (1) := by rw [ex_14]; exact i32_add rfl (by decide) (by omega) (by omega)
                      refine lv_iinc (v := x_14) (lv' := [(6, .int x_14), (7, .int iv88_7), (5, .int iv88_5), (4, .int x_7), (3, .int iv5_3), (0, .ref x), (1, .ref v1), (2, .int i2)]) hx hb dX9_drawBench_168 hl (k := 1) rfl ex_14.symm (by decide) rfl (fun ls hl => ?_)
                      refine lv_goto (tgt := 76) hx hb dX9_drawBench_171 (by decide) ?_
                      exact ih76 iv88_5 x_14 _ _ hL1 hl1 (by omega) (by omega) (by omega) (by omega) (by have h9 := hv_T3_p (m := iv5_3.toInt - iv76_6.toInt) (by omega); have h8 : hv_T2 (iv5_3.toInt - iv88_7.toInt).toNat = 0 := by { rw [show (iv5_3.toInt - iv88_7.toInt).toNat = 0 by omega]; rfl }; rw [show iv5_3.toInt - x_14.toInt = iv5_3.toInt - iv76_6.toInt - 1 by omega]; omega) (by omega) ls (by omega) hW hT hM f_x_7 f_x_10 f_x_15 f_x_11 f_x_8 gx gqp gqc pf_x_8 nia5_qfi cl_qp_7 cl_qp_8 cl_qp_2 nu_qp eo_v1 hDF hDP hBX (lv_sub hl [0, 2, 3, 4, 5, 6, 7] rfl)
                    · skip
                      refine lv_iload_n hx hb dX9_drawBench_94 rfl (lv_at hl 4 rfl) ?_
                      refine lv_iload hx hb dX9_drawBench_95 (lv_at hl 0 rfl) ?_
                      refine lv_isub hx hb dX9_drawBench_97 ?_
                      have rg_15 := i32_r iv88_7
                      refine lv_topi (fun x_16 ex_16 => ?_)
                      have zx_16 : x_16.toInt = iv5_3.toInt - iv88_7.toInt := by rw [ex_16]; exact i32_sub rfl rfl (by omega) (by omega)
                      refine lv_iconst (v := 1) hx hb dX9_drawBench_98 (by decide) ?_
                      refine lv_isub hx hb dX9_drawBench_99 ?_
                      have rg_17 := i32_r x_16
                      refine lv_topi (fun x_18 ex_18 => ?_)
                      have zx_18 : x_18.toInt = x_16.toInt - 1 := by rw [ex_18]; exact i32_sub rfl (by decide) (by omega) (by omega)
                      refine lv_istore (lv' := [(8, .int x_18), (7, .int iv88_7), (6, .int iv76_6), (5, .int iv88_5), (4, .int x_7), (3, .int iv5_3), (0, .ref x), (1, .ref v1), (2, .int i2)]) hx hb dX9_drawBench_100 hl (by decide) rfl (fun ls hl => ?_)
                      refine lv_iload hx hb dX9_drawBench_102 (lv_at hl 3 rfl) ?_
                      refine lv_iload hx hb dX9_drawBench_104 (lv_at hl 0 rfl) ?_
                      refine hb_icmp_ge (zx := iv88_5.toInt) (zy := x_18.toInt) (tgt := 155) hx hb rfl rfl dX9_drawBench_106 (by decide) (fun c_19 => ?_) (fun c_19 => ?_)
                      · skip
                        refine lv_iload hx hb dX9_drawBench_155 (lv_at hl 3 rfl) ?_
                        refine lv_iload hx hb dX9_drawBench_157 (lv_at hl 0 rfl) ?_
                        refine lv_isub hx hb dX9_drawBench_159 ?_
                        have rg_20 := i32_r iv88_5
                        have rg_21 := i32_r x_18
                        refine lv_topi (fun x_22 ex_22 => ?_)
                        have zx_22 : x_22.toInt = iv88_5.toInt - x_18.toInt := by rw [ex_22]; exact i32_sub rfl rfl (by omega) (by omega)
                        refine lv_istore (lv' := [(5, .int x_22), (8, .int x_18), (7, .int iv88_7), (6, .int iv76_6), (4, .int x_7), (3, .int iv5_3), (0, .ref x), (1, .ref v1), (2, .int i2)]) hx hb dX9_drawBench_160 hl (by decide) rfl (fun ls hl => ?_)
                        obtain ⟨x_23, ex_23⟩ : ∃ y : Int32, y = iv88_7 + Int32.ofInt 1 := ⟨_, rfl⟩
                        have zx_23 : x_23.toInt = iv88_7.toInt + (1) := by rw [ex_23]; exact i32_add rfl (by decide) (by omega) (by omega)
                        refine lv_iinc (v := x_23) (lv' := [(7, .int x_23), (5, .int x_22), (8, .int x_18), (6, .int iv76_6), (4, .int x_7), (3, .int iv5_3), (0, .ref x), (1, .ref v1), (2, .int i2)]) hx hb dX9_drawBench_162 hl (k := 2) rfl ex_23.symm (by decide) rfl (fun ls hl => ?_)
                        refine lv_goto (tgt := 88) hx hb dX9_drawBench_165 (by decide) ?_
                        exact ih88 x_22 x_23 _ _ hL1 hl1 (by omega) (by omega) (by omega) (by omega) (by have h9 := hv_T2_p (m := iv5_3.toInt - iv88_7.toInt) (by omega); rw [show iv5_3.toInt - x_23.toInt = iv5_3.toInt - iv88_7.toInt - 1 by omega]; omega) (by omega) (by omega) ls (by omega) hW hT hM f_x_7 f_x_10 f_x_15 f_x_11 f_x_8 gx gqp gqc pf_x_8 nia5_qfi cl_qp_7 cl_qp_8 cl_qp_2 nu_qp eo_v1 hDF hDP hBX (lv_sub hl [0, 3, 1, 4, 5, 6, 7, 8] rfl)
                      · skip
                        refine lv_aload_n hx hb dX9_drawBench_109 rfl (lv_at hl 7 rfl) ?_
                        refine hx_getn hx hb hts hC_2 hown hW hT (gv1.S hM) tt_2 5 (by decide) rfl kw_740 ⟨rfl, rfl, rfl⟩ dX9_drawBench_110 (fun q_24 fq_24 gq_24 => ?_)
                        refine lv_iconst (v := 0) hx hb dX9_drawBench_113 (by decide) ?_
                        refine lv_aload_n hx hb dX9_drawBench_114 rfl (lv_at hl 6 rfl) ?_
                        refine hk_getr hx hb hts hC_9 hown hW gx tt_9 15 (by decide) rfl kw_379 ⟨rfl, rfl, rfl⟩ f_x_15 dX9_drawBench_115 ?_
                        refine lv_iload hx hb dX9_drawBench_118 (lv_at hl 2 rfl) ?_
                        refine hx_iald hx hb hW hT (gqfi.S hM) tt_47 rfl ⟨by omega, by omega⟩ dX9_drawBench_120 (fun x_25 ex_25 lx_25 ux_25 => ?_)
                        have ax_25 : x_25 = ia5_qfi iv76_6.toNatClampNeg := ex_25.trans (congrFun nia5_qfi _)
                        have hfO9 := hBX
                        have hTO9 := hT
                        have gcO9 := gqc
                        have gtO9 := gq_24
                        have foO9 := eo_v1
                        have ftO9 := fq_24
                        have hTo := hT
                        refine hx_iast hx hb hW hT (hx_S.rf (M := [(21, 0)])) gq_24 tt_21 rfl (by decide) rfl (i32_r _) (List.mem_singleton.mpr rfl) dX9_drawBench_121 (fun H locs h_26 eh_26 hW hT hs => ?_)
                        replace f_x_7 := (hs.o gx trivial rfl).2.trans f_x_7
                        replace f_x_10 := (hs.o gx trivial rfl).2.trans f_x_10
                        replace f_x_15 := (hs.o gx trivial rfl).2.trans f_x_15
                        replace f_x_11 := (hs.o gx trivial rfl).1.trans f_x_11
                        replace f_x_8 := (hs.o gx trivial rfl).1.trans f_x_8
                        replace fq_24 := (hs.o (gv1.S hM) trivial rfl).2.trans fq_24
                        replace pf_x_8 : ∀ j : Nat, (j : Int) < (h_26.2.1 x 8).toInt → h_26.2.2 qp j ≠ none := by
                          intro j hj; rw [(hs.o gx trivial rfl).1] at hj; rw [(hs.a gqp rfl j).2]; exact pf_x_8 j hj
                        replace cl_qp_7 : hx_col 40 h_26 qp 7 = df := (hx_col_S hs hTo gqp tt_44 tt_4 rfl rfl).trans cl_qp_7
                        replace cl_qp_8 : hx_col 40 h_26 qp 8 = jf := (hx_col_S hs hTo gqp tt_44 tt_4 rfl rfl).trans cl_qp_8
                        replace cl_qp_2 : hx_col 40 h_26 qp 2 = kf := (hx_col_S hs hTo gqp tt_44 tt_4 rfl rfl).trans cl_qp_2
                        replace nu_qp : hx_num 40 h_26 qp 0 (pn0.toInt) := hx_num_S hs hTo gqp tt_44 tt_4 rfl rfl nu_qp
                        replace hDF : hw_DF h_26 qc qp 2 agf cn0.toInt := hw_DF_S hs hTo gqc gqp tt_45 tt_2 rfl rfl rfl hDF
                        replace hDP : hw_DF h_26 qc qp 1 byf cn0.toInt := hw_DF_S hs hTo gqc gqp tt_45 tt_2 rfl rfl rfl hDP
                        replace eo_v1 := (hs.a gqc rfl _).2.trans eo_v1
                        replace nia5_qfi : h_26.2.1 qfi = ia5_qfi := (funext fun j => (hs.a (gqfi.S hM) rfl j).1).trans nia5_qfi
                        replace ex_25 := ex_25.trans (hs.a (gqfi.S hM) rfl _).1.symm
                        replace hM := hM.tr (hs.mono (by decide))
                        replace gx := gx.S hs
                        replace gqp := gqp.S hs
                        replace gqc := gqc.S hs
                        replace gq_24 := gq_24.S hs
                        obtain ⟨xF_27, dxF_27⟩ : ∃ g : Nat → Int32, g = hx_up bF ((0 : Int32).toNatClampNeg + 3 * ic.toNatClampNeg) x_25 := ⟨_, rfl⟩
                        have nxF_27 : hv_FX 3 5 h_26 qc xF_27 cn0.toInt := by rw [dxF_27]; exact hv_FX_u hfO9 hTO9 gcO9 gtO9 (by decide) tt_45 (by unfold Int32.toNatClampNeg; omega) (by unfold Int32.toNatClampNeg; omega) foO9 ftO9 (by decide) eh_26
                        refine lv_aload_n hx hb dX9_drawBench_122 rfl (lv_at hl 7 rfl) ?_
                        refine hk_getr hx hb hts hC_2 hown hW (gv1.S hM) tt_2 5 (by decide) rfl kw_740 ⟨rfl, rfl, rfl⟩ fq_24 dX9_drawBench_123 ?_
                        refine lv_iconst (v := 1) hx hb dX9_drawBench_126 (by decide) ?_
                        refine lv_aload_n hx hb dX9_drawBench_127 rfl (lv_at hl 6 rfl) ?_
                        refine hk_getr hx hb hts hC_9 hown hW gx tt_9 15 (by decide) rfl kw_379 ⟨rfl, rfl, rfl⟩ f_x_15 dX9_drawBench_128 ?_
                        refine lv_iload hx hb dX9_drawBench_131 (lv_at hl 1 rfl) ?_
                        refine hx_iald hx hb hW hT (gqfi.S hM) tt_47 rfl ⟨by omega, by omega⟩ dX9_drawBench_133 (fun x_28 ex_28 lx_28 ux_28 => ?_)
                        have ax_28 : x_28 = ia5_qfi iv88_7.toNatClampNeg := ex_28.trans (congrFun nia5_qfi _)
                        have hfO9 := nxF_27
                        have hTO9 := hT
                        have gcO9 := gqc
                        have gtO9 := gq_24
                        have foO9 := eo_v1
                        have ftO9 := fq_24
                        have hTo := hT
                        refine hx_iast hx hb hW hT (hx_S.rf (M := [(21, 0)])) gq_24 tt_21 rfl (by decide) rfl (i32_r _) (List.mem_singleton.mpr rfl) dX9_drawBench_134 (fun H locs h_29 eh_29 hW hT hs => ?_)
                        replace f_x_7 := (hs.o gx trivial rfl).2.trans f_x_7
                        replace f_x_10 := (hs.o gx trivial rfl).2.trans f_x_10
                        replace f_x_15 := (hs.o gx trivial rfl).2.trans f_x_15
                        replace f_x_11 := (hs.o gx trivial rfl).1.trans f_x_11
                        replace f_x_8 := (hs.o gx trivial rfl).1.trans f_x_8
                        replace fq_24 := (hs.o (gv1.S hM) trivial rfl).2.trans fq_24
                        replace pf_x_8 : ∀ j : Nat, (j : Int) < (h_29.2.1 x 8).toInt → h_29.2.2 qp j ≠ none := by
                          intro j hj; rw [(hs.o gx trivial rfl).1] at hj; rw [(hs.a gqp rfl j).2]; exact pf_x_8 j hj
                        replace cl_qp_7 : hx_col 40 h_29 qp 7 = df := (hx_col_S hs hTo gqp tt_44 tt_4 rfl rfl).trans cl_qp_7
                        replace cl_qp_8 : hx_col 40 h_29 qp 8 = jf := (hx_col_S hs hTo gqp tt_44 tt_4 rfl rfl).trans cl_qp_8
                        replace cl_qp_2 : hx_col 40 h_29 qp 2 = kf := (hx_col_S hs hTo gqp tt_44 tt_4 rfl rfl).trans cl_qp_2
                        replace nu_qp : hx_num 40 h_29 qp 0 (pn0.toInt) := hx_num_S hs hTo gqp tt_44 tt_4 rfl rfl nu_qp
                        replace hDF : hw_DF h_29 qc qp 2 agf cn0.toInt := hw_DF_S hs hTo gqc gqp tt_45 tt_2 rfl rfl rfl hDF
                        replace hDP : hw_DF h_29 qc qp 1 byf cn0.toInt := hw_DF_S hs hTo gqc gqp tt_45 tt_2 rfl rfl rfl hDP
                        replace eo_v1 := (hs.a gqc rfl _).2.trans eo_v1
                        replace nia5_qfi : h_29.2.1 qfi = ia5_qfi := (funext fun j => (hs.a (gqfi.S hM) rfl j).1).trans nia5_qfi
                        replace ex_25 := ex_25.trans (hs.a (gqfi.S hM) rfl _).1.symm
                        replace ex_28 := ex_28.trans (hs.a (gqfi.S hM) rfl _).1.symm
                        replace hM := hM.tr (hs.mono (by decide))
                        replace gx := gx.S hs
                        replace gqp := gqp.S hs
                        replace gqc := gqc.S hs
                        replace gq_24 := gq_24.S hs
                        obtain ⟨xF_30, dxF_30⟩ : ∃ g : Nat → Int32, g = hx_up xF_27 ((1 : Int32).toNatClampNeg + 3 * ic.toNatClampNeg) x_28 := ⟨_, rfl⟩
                        have nxF_30 : hv_FX 3 5 h_29 qc xF_30 cn0.toInt := by rw [dxF_30]; exact hv_FX_u hfO9 hTO9 gcO9 gtO9 (by decide) tt_45 (by unfold Int32.toNatClampNeg; omega) (by unfold Int32.toNatClampNeg; omega) foO9 ftO9 (by decide) eh_29
                        refine lv_aload_n hx hb dX9_drawBench_135 rfl (lv_at hl 7 rfl) ?_
                        refine hk_getr hx hb hts hC_2 hown hW (gv1.S hM) tt_2 5 (by decide) rfl kw_740 ⟨rfl, rfl, rfl⟩ fq_24 dX9_drawBench_136 ?_
                        refine lv_iconst (v := 2) hx hb dX9_drawBench_139 (by decide) ?_
                        refine lv_aload_n hx hb dX9_drawBench_140 rfl (lv_at hl 6 rfl) ?_
                        refine hk_getr hx hb hts hC_9 hown hW gx tt_9 15 (by decide) rfl kw_379 ⟨rfl, rfl, rfl⟩ f_x_15 dX9_drawBench_141 ?_
                        refine lv_iload hx hb dX9_drawBench_144 (lv_at hl 1 rfl) ?_
                        refine lv_iconst (v := 1) hx hb dX9_drawBench_146 (by decide) ?_
                        refine lv_iadd hx hb dX9_drawBench_147 ?_
                        refine lv_topi (fun x_31 ex_31 => ?_)
                        have zx_31 : x_31.toInt = iv88_7.toInt + 1 := by rw [ex_31]; exact i32_add rfl (by decide) (by omega) (by omega)
                        refine lv_iload hx hb dX9_drawBench_148 (lv_at hl 3 rfl) ?_
                        refine lv_iadd hx hb dX9_drawBench_150 ?_
                        have rg_32 := i32_r x_31
                        have rg_33 := i32_r iv88_5
                        refine lv_topi (fun x_34 ex_34 => ?_)
                        have zx_34 : x_34.toInt = x_31.toInt + iv88_5.toInt := by rw [ex_34]; exact i32_add rfl rfl (by omega) (by omega)
                        refine hx_iald hx hb hW hT (gqfi.S hM) tt_47 rfl ⟨by omega, by omega⟩ dX9_drawBench_151 (fun x_35 ex_35 lx_35 ux_35 => ?_)
                        have ax_35 : x_35 = ia5_qfi x_34.toNatClampNeg := ex_35.trans (congrFun nia5_qfi _)
                        have hfO9 := nxF_30
                        have hTO9 := hT
                        have gcO9 := gqc
                        have gtO9 := gq_24
                        have foO9 := eo_v1
                        have ftO9 := fq_24
                        have hTo := hT
                        refine hx_iast hx hb hW hT (hx_S.rf (M := [(21, 0)])) gq_24 tt_21 rfl (by decide) rfl (i32_r _) (List.mem_singleton.mpr rfl) dX9_drawBench_152 (fun H locs h_36 eh_36 hW hT hs => ?_)
                        replace f_x_7 := (hs.o gx trivial rfl).2.trans f_x_7
                        replace f_x_10 := (hs.o gx trivial rfl).2.trans f_x_10
                        replace f_x_15 := (hs.o gx trivial rfl).2.trans f_x_15
                        replace f_x_11 := (hs.o gx trivial rfl).1.trans f_x_11
                        replace f_x_8 := (hs.o gx trivial rfl).1.trans f_x_8
                        replace fq_24 := (hs.o (gv1.S hM) trivial rfl).2.trans fq_24
                        replace pf_x_8 : ∀ j : Nat, (j : Int) < (h_36.2.1 x 8).toInt → h_36.2.2 qp j ≠ none := by
                          intro j hj; rw [(hs.o gx trivial rfl).1] at hj; rw [(hs.a gqp rfl j).2]; exact pf_x_8 j hj
                        replace cl_qp_7 : hx_col 40 h_36 qp 7 = df := (hx_col_S hs hTo gqp tt_44 tt_4 rfl rfl).trans cl_qp_7
                        replace cl_qp_8 : hx_col 40 h_36 qp 8 = jf := (hx_col_S hs hTo gqp tt_44 tt_4 rfl rfl).trans cl_qp_8
                        replace cl_qp_2 : hx_col 40 h_36 qp 2 = kf := (hx_col_S hs hTo gqp tt_44 tt_4 rfl rfl).trans cl_qp_2
                        replace nu_qp : hx_num 40 h_36 qp 0 (pn0.toInt) := hx_num_S hs hTo gqp tt_44 tt_4 rfl rfl nu_qp
                        replace hDF : hw_DF h_36 qc qp 2 agf cn0.toInt := hw_DF_S hs hTo gqc gqp tt_45 tt_2 rfl rfl rfl hDF
                        replace hDP : hw_DF h_36 qc qp 1 byf cn0.toInt := hw_DF_S hs hTo gqc gqp tt_45 tt_2 rfl rfl rfl hDP
                        replace eo_v1 := (hs.a gqc rfl _).2.trans eo_v1
                        replace nia5_qfi : h_36.2.1 qfi = ia5_qfi := (funext fun j => (hs.a (gqfi.S hM) rfl j).1).trans nia5_qfi
                        replace ex_25 := ex_25.trans (hs.a (gqfi.S hM) rfl _).1.symm
                        replace ex_28 := ex_28.trans (hs.a (gqfi.S hM) rfl _).1.symm
                        replace ex_35 := ex_35.trans (hs.a (gqfi.S hM) rfl _).1.symm
                        replace hM := hM.tr (hs.mono (by decide))
                        replace gx := gx.S hs
                        replace gqp := gqp.S hs
                        replace gqc := gqc.S hs
                        replace gq_24 := gq_24.S hs
                        obtain ⟨xF_37, dxF_37⟩ : ∃ g : Nat → Int32, g = hx_up xF_30 ((2 : Int32).toNatClampNeg + 3 * ic.toNatClampNeg) x_35 := ⟨_, rfl⟩
                        have nxF_37 : hv_FX 3 5 h_36 qc xF_37 cn0.toInt := by rw [dxF_37]; exact hv_FX_u hfO9 hTO9 gcO9 gtO9 (by decide) tt_45 (by unfold Int32.toNatClampNeg; omega) (by unfold Int32.toNatClampNeg; omega) foO9 ftO9 (by decide) eh_36
                        refine lv_iconst (v := 1) hx hb dX9_drawBench_153 (by decide) ?_
                        exact hx_retz hx hb hr rfl hlk hW ⟨(Or.inl ⟨by decide, by rw [← hln9]; omega, x_25, x_28, x_35, xF_37, ⟨iv76_6.toInt, iv88_7.toInt, x_34.toInt, by rw [← hln9]; exact ⟨by omega, by omega, by omega, by omega⟩, (by rw [← hln9, show ((hv_fs jf df kf (byf ic.toNatClampNeg).toNatClampNeg (agf ic.toNatClampNeg).toNatClampNeg pn0.toInt.toNat)).length = iv5_3.toInt.toNat by omega, ← hp9]; unfold hv_ps; omega), (by rw [ax_25]; exact hfl9 iv76_6.toInt.toNat (by omega)), (by rw [ax_28]; exact hfl9 iv88_7.toInt.toNat (by omega)), (by rw [ax_35]; exact hfl9 x_34.toInt.toNat (by omega))⟩, (by have k0 : (0 : Int32).toNatClampNeg = 0 := (by decide); have k1 : (1 : Int32).toNatClampNeg = 1 := (by decide); have k2 : (2 : Int32).toNatClampNeg = 2 := (by decide); rw [dxF_37, dxF_30, dxF_27, k0, k1, k2]), nxF_37⟩), hT, hM⟩ dX9_drawBench_154
                exact loop88 41 iv76_5 x_12 _ _ hL1 hl1 (by omega) (by omega) (by omega) (by omega) (by rw [show iv5_3.toInt - x_12.toInt = iv5_3.toInt - iv76_6.toInt - 1 by omega]; omega) (by omega) (by omega) ls (by omega) hW hT hM f_x_7 f_x_10 f_x_15 f_x_11 f_x_8 gx gqp gqc pf_x_8 nia5_qfi cl_qp_7 cl_qp_8 cl_qp_2 nu_qp eo_v1 hDF hDP hBX hl
          have zk_0 : (0 : Int32).toInt = 0 := by decide
          exact loop76 41 x_9 (0 : Int32) _ _ hL1 hl1 (by omega) (by omega) (by decide) (by decide) (by rw [zk_0, show iv5_3.toInt - 0 = iv5_3.toInt by omega]; omega) (by omega) ls (by omega) hW hT hM f_x_7 f_x_10 f_x_15 f_x_11 f_x_8 gx gqp gqc pf_x_8 nia5_qfi cl_qp_7 cl_qp_8 cl_qp_2 nu_qp eo_v1 hDF hDP hBX hl
        · skip
          refine lv_iconst (v := 0) hx hb dX9_drawBench_65 (by decide) ?_
          exact hx_retz hx hb hr rfl hlk hW ⟨(Or.inr ⟨by decide, by rw [← hln9]; omega, hBX⟩), hT, hM⟩ dX9_drawBench_66
      · skip
        refine lv_aload_n hx hb dX9_drawBench_14 rfl (lv_at hl 2 rfl) ?_
        refine hk_getr hx hb hts hC_9 hown hW gx tt_9 7 (by decide) rfl kw_371 ⟨rfl, rfl, rfl⟩ f_x_7 dX9_drawBench_15 ?_
        refine lv_iload hx hb dX9_drawBench_18 (lv_at hl 0 rfl) ?_
        refine hx_aaldN hx hb hW hT gqp tt_44 (t1 := 4) rfl ⟨by omega, by omega⟩ (pf_x_8 _ (by rw [f_x_8]; exact hx_tnI (by omega) (by omega))) dX9_drawBench_20 (fun q_38 fq_38 gq_38 => ?_)
        refine lv_aload_n hx hb dX9_drawBench_21 rfl (lv_at hl 3 rfl) ?_
        have hTo := hT
        refine hx_goi (hx_runV (As := [.ref v1]) (rest := []) ⟨hx, hb, hml, hown, hts⟩ hW gq_38 tt_4 (T := TX4) (N := 10) rfl (t_X4_maySit_v l dC dI dA hL1 hl1 H.size q_38 v1 hT gq_38 (gv1.S hM) qp gqp qc gqc (pn0.toInt) (cn0.toInt) iv5_4 fq_38 ⟨by omega, by omega⟩ ic eo_v1 ⟨by omega, by omega⟩ df cl_qp_7 jf cl_qp_8 kf cl_qp_2 nu_qp agf byf hDF hDP (by omega)) (cwV 1 hts (hx_gV kw_822 kw_819 kw_820 kw_821 kw_108) rfl rfl rfl (by decide +kernel) ⟨Nat.le_of_ble_eq_true rfl, Nat.le_of_ble_eq_true rfl⟩) rfl hl.1 rfl (Nat.le_of_ble_eq_true rfl) dX9_drawBench_22 ⟨Nat.le_of_ble_eq_true rfl, Nat.le_of_ble_eq_true rfl⟩) hW (fun r_41 L_39 h_40 H locs p_42 hW => ?_)
        obtain ⟨hr_43, hT, hs⟩ := p_42
        replace hT : hx_T T_tb L_39 h_40 := hT
        replace hs : hx_S T_tb [] hL1 hl1 L_39 h_40 := hs
        replace f_x_7 := (hs.o gx trivial rfl).2.trans f_x_7
        replace f_x_10 := (hs.o gx trivial rfl).2.trans f_x_10
        replace f_x_15 := (hs.o gx trivial rfl).2.trans f_x_15
        replace f_x_11 := (hs.o gx trivial rfl).1.trans f_x_11
        replace f_x_8 := (hs.o gx trivial rfl).1.trans f_x_8
        replace pf_x_8 : ∀ j : Nat, (j : Int) < (h_40.2.1 x 8).toInt → h_40.2.2 qp j ≠ none := by
          intro j hj; rw [(hs.o gx trivial rfl).1] at hj; rw [(hs.a gqp rfl j).2]; exact pf_x_8 j hj
        replace cl_qp_7 : hx_col 40 h_40 qp 7 = df := (hx_col_S hs hTo gqp tt_44 tt_4 rfl rfl).trans cl_qp_7
        replace cl_qp_8 : hx_col 40 h_40 qp 8 = jf := (hx_col_S hs hTo gqp tt_44 tt_4 rfl rfl).trans cl_qp_8
        replace cl_qp_2 : hx_col 40 h_40 qp 2 = kf := (hx_col_S hs hTo gqp tt_44 tt_4 rfl rfl).trans cl_qp_2
        replace nu_qp : hx_num 40 h_40 qp 0 (pn0.toInt) := hx_num_S hs hTo gqp tt_44 tt_4 rfl rfl nu_qp
        replace hDF : hw_DF h_40 qc qp 2 agf cn0.toInt := hw_DF_S hs hTo gqc gqp tt_45 tt_2 rfl rfl rfl hDF
        replace hDP : hw_DF h_40 qc qp 1 byf cn0.toInt := hw_DF_S hs hTo gqc gqp tt_45 tt_2 rfl rfl rfl hDP
        replace hBX : hv_FX 3 5 h_40 qc bF cn0.toInt := hv_FX_S hs hTo gqc tt_45 tt_2 rfl rfl rfl rfl hBX
        replace eo_v1 := (hs.a gqc rfl _).2.trans eo_v1
        replace fq_38 := (hs.a gqp rfl _).2.trans fq_38
        replace nia5_qfi : h_40.2.1 qfi = ia5_qfi := (funext fun j => (hs.a (gqfi.S hM) rfl j).1).trans nia5_qfi
        replace hM := hM.tr (hs.mono (by decide))
        replace gx := gx.S hs
        replace gqp := gqp.S hs
        replace gqc := gqc.S hs
        replace gq_38 := gq_38.S hs
        refine hb_if_eq (zx := r_41.toInt) (tgt := 39) hx hb rfl dX9_drawBench_25 (by decide) (fun c_44 => ?_) (fun c_44 => ?_)
        · skip
          obtain ⟨x_45, ex_45⟩ : ∃ y : Int32, y = iv5_4 + Int32.ofInt 1 := ⟨_, rfl⟩
          have rg_46 := i32_r iv5_4
          have zx_45 : x_45.toInt = iv5_4.toInt + (1) := by rw [ex_45]; exact i32_add rfl (by decide) (by omega) (by omega)
          refine lv_iinc (v := x_45) (lv' := [(4, .int x_45), (3, .int iv5_3), (0, .ref x), (1, .ref v1), (2, .int i2)]) hx hb dX9_drawBench_39 hl (k := 0) rfl ex_45.symm (by decide) rfl (fun ls hl => ?_)
          refine lv_goto (tgt := 5) hx hb dX9_drawBench_42 (by decide) ?_
          exact ih5 iv5_3 x_45 ia5_qfi _ _ L_39 h_40 (by omega) (by omega) (by omega) (by omega) (hv_fs_n vi5_0 (by rcases hr_43 with z | z; (exfalso; omega); exact z.2) (by omega) zx_45) (by omega) (by omega) ls (by omega) hW hT hM f_x_7 f_x_10 f_x_15 f_x_11 f_x_8 gx gqp gqc pf_x_8 nia5_qfi cl_qp_7 cl_qp_8 cl_qp_2 nu_qp eo_v1 hDF hDP hBX (lv_sub hl [0, 1, 2, 3, 4] rfl)
        · skip
          refine lv_aload_n hx hb dX9_drawBench_28 rfl (lv_at hl 2 rfl) ?_
          refine hk_getr hx hb hts hC_9 hown hW gx tt_9 15 (by decide) rfl kw_379 ⟨rfl, rfl, rfl⟩ f_x_15 dX9_drawBench_29 ?_
          refine lv_iload_n hx hb dX9_drawBench_32 rfl (lv_at hl 1 rfl) ?_
          refine lv_iload hx hb dX9_drawBench_33 (lv_at hl 0 rfl) ?_
          have hTo := hT
          have nia5_qfiO := nia5_qfi
          have hTo := hT
          refine hx_iast hx hb hW hT (hx_S.rf (M := [(47, 0)])) (gqfi.S hM) tt_47 rfl ⟨by omega, by omega⟩ rfl (i32_r _) (List.mem_singleton.mpr rfl) dX9_drawBench_35 (fun H locs h_47 eh_47 hW hT hs => ?_)
          replace f_x_7 := (hs.o gx trivial rfl).2.trans f_x_7
          replace f_x_10 := (hs.o gx trivial rfl).2.trans f_x_10
          replace f_x_15 := (hs.o gx trivial rfl).2.trans f_x_15
          replace f_x_11 := (hs.o gx trivial rfl).1.trans f_x_11
          replace f_x_8 := (hs.o gx trivial rfl).1.trans f_x_8
          replace pf_x_8 : ∀ j : Nat, (j : Int) < (h_47.2.1 x 8).toInt → h_47.2.2 qp j ≠ none := by
            intro j hj; rw [(hs.o gx trivial rfl).1] at hj; rw [(hs.a gqp rfl j).2]; exact pf_x_8 j hj
          replace cl_qp_7 : hx_col 40 h_47 qp 7 = df := (hx_col_S hs hTo gqp tt_44 tt_4 rfl rfl).trans cl_qp_7
          replace cl_qp_8 : hx_col 40 h_47 qp 8 = jf := (hx_col_S hs hTo gqp tt_44 tt_4 rfl rfl).trans cl_qp_8
          replace cl_qp_2 : hx_col 40 h_47 qp 2 = kf := (hx_col_S hs hTo gqp tt_44 tt_4 rfl rfl).trans cl_qp_2
          replace nu_qp : hx_num 40 h_47 qp 0 (pn0.toInt) := hx_num_S hs hTo gqp tt_44 tt_4 rfl rfl nu_qp
          replace hDF : hw_DF h_47 qc qp 2 agf cn0.toInt := hw_DF_S hs hTo gqc gqp tt_45 tt_2 rfl rfl rfl hDF
          replace hDP : hw_DF h_47 qc qp 1 byf cn0.toInt := hw_DF_S hs hTo gqc gqp tt_45 tt_2 rfl rfl rfl hDP
          replace hBX : hv_FX 3 5 h_47 qc bF cn0.toInt := hv_FX_S hs hTo gqc tt_45 tt_2 rfl rfl rfl rfl hBX
          replace eo_v1 := (hs.a gqc rfl _).2.trans eo_v1
          replace fq_38 := (hs.a gqp rfl _).2.trans fq_38
          replace hM := hM.tr (hs.mono (by decide))
          replace gx := gx.S hs
          replace gqp := gqp.S hs
          replace gqc := gqc.S hs
          replace gq_38 := gq_38.S hs
          obtain ⟨fa_48, dfa_48⟩ : ∃ g : Nat → Int32, g = hx_up ia5_qfi iv5_3.toNatClampNeg iv5_4 := ⟨_, rfl⟩
          have nfa_48 : h_47.2.1 qfi = fa_48 := by rw [eh_47, dfa_48, ← nia5_qfiO]; exact hx_pi_fun _ _ _ _
          obtain ⟨x_49, ex_49⟩ : ∃ y : Int32, y = iv5_3 + Int32.ofInt 1 := ⟨_, rfl⟩
          have rg_50 := i32_r iv5_3
          have zx_49 : x_49.toInt = iv5_3.toInt + (1) := by rw [ex_49]; exact i32_add rfl (by decide) (by omega) (by omega)
          refine lv_iinc (v := x_49) (lv' := [(3, .int x_49), (4, .int iv5_4), (0, .ref x), (1, .ref v1), (2, .int i2)]) hx hb dX9_drawBench_36 hl (k := 1) rfl ex_49.symm (by decide) rfl (fun ls hl => ?_)
          obtain ⟨x_51, ex_51⟩ : ∃ y : Int32, y = iv5_4 + Int32.ofInt 1 := ⟨_, rfl⟩
          have rg_52 := i32_r iv5_4
          have zx_51 : x_51.toInt = iv5_4.toInt + (1) := by rw [ex_51]; exact i32_add rfl (by decide) (by omega) (by omega)
          refine lv_iinc (v := x_51) (lv' := [(4, .int x_51), (3, .int x_49), (0, .ref x), (1, .ref v1), (2, .int i2)]) hx hb dX9_drawBench_39 hl (k := 1) rfl ex_51.symm (by decide) rfl (fun ls hl => ?_)
          refine lv_goto (tgt := 5) hx hb dX9_drawBench_42 (by decide) ?_
          exact ih5 x_49 x_51 fa_48 _ _ L_39 h_47 (by omega) (by omega) (by omega) (by omega) (hv_fs_y vi5_0 (by rcases hr_43 with z | z; exact z.2; exfalso; omega) (by omega) (by unfold Int32.toNatClampNeg; omega) rfl dfa_48 zx_51 (by omega)) (by omega) (by omega) ls (by omega) hW hT hM f_x_7 f_x_10 f_x_15 f_x_11 f_x_8 gx gqp gqc pf_x_8 nfa_48 cl_qp_7 cl_qp_8 cl_qp_2 nu_qp eo_v1 hDF hDP hBX (lv_sub hl [0, 1, 2, 3, 4] rfl)
  have zk_0 : (0 : Int32).toInt = 0 := by decide
  have zk_0 : (0 : Int32).toInt = 0 := by decide
  exact loop5 41 (0 : Int32) (0 : Int32) fi0 _ _ L h (by decide) (by decide) (by decide) (by decide) (by rw [zk_0]; exact ⟨hv_fl_0, rfl⟩) (by omega) (by omega) ls (by omega) hW hT hM f_x_7 f_x_10 f_x_15 f_x_11 f_x_8 gx gqp gqc pf_x_8 af_qfi cl_qp_7 cl_qp_8 cl_qp_2 nu_qp eo_v1 hDF hDP hBX hl


set_option maxHeartbeats 4000000 in
set_option maxRecDepth 100000 in
theorem t_X10_draws_v (l : Launch) (dC : Nat → ClassId) (dI : Nat → Nat → Nat) (dA : Nat → ClassId) (L : List Nat) (h : hx_h) (sz : Nat) (x : Nat) (i1 : Int32) (i2 : Int32) (i3 : Int32) (hT : hx_T T_tb L h) (gx : hx_g L h x 10) (qb : Nat) (gqb : hx_g L h qb 87) (f_x_52 : h.2.2 x 52 = some qb) (qs : Nat) (gqs : hx_g L h qs 98) (f_x_65 : h.2.2 x 65 = some qs) (bf0 : Nat → Int32) (af_qb : h.2.1 qb = bf0) (sf : Nat → Int32) (af_qs : h.2.1 qs = sf) (hi1 : 0 ≤ i1.toInt ∧ i1.toInt ≤ 99) (hi2 : 0 ≤ i2.toInt ∧ i2.toInt ≤ 40) (lj : List Nat) (hfl : hv_fl sf lj) (hlj : i2.toInt = (lj.length : Int)) (hi3 : 0 ≤ i3.toInt ∧ i3.toInt < hv_T3 i2.toInt.toNat) : Met l yX10_draws (Cond.code yX10_draws cX10_draws 8 none :: hx_all) ({ frames := 0, cells := 0, slots := 0, locals := 0 }) (va_Pc [.ref x, .int i1, .int i2, .int i3] (hx_B T_tb (P_ty dA) (dC, dI) vwCl L h sz)) (va_Qv (fun (u : List Nat × hx_h) => (∃ (bf1 : Nat → Int32), u.2.2.1 qb = bf1 ∧ (∃ b0 b1 b2 : Int32, hv_BN lj i3.toInt b0 b1 b2 ∧ bf1 = hx_up (hx_up (hx_up bf0 (3 * i1.toInt.toNat) b0) (3 * i1.toInt.toNat + 1) b1) (3 * i1.toInt.toNat + 2) b2)) ∧ hx_T T_tb u.1 u.2 ∧ hx_S T_tb [(87, 0)] L h u.1 u.2) (hx_E T_tb (P_ty dA) (dC, dI) vwCl (hx_A L sz)) (hx_A L sz)) 0 0 (hx_A L sz) := by
  refine hx_met (lv := [(0, .ref x), (1, .int i1), (2, .int i2), (3, .int i3)]) (by decide +kernel) rfl (Nat.le_of_ble_eq_true rfl) rfl ?_
  intro p e s m below meth c hx hb hml hr hlk hts0 hown hin hsz hW ls hl
  have hts : ∀ w ∈ hx_all, w.before _ s = true := fun w hw => hts0 w (List.mem_cons_of_mem _ hw)
  have hown : s.vm.findClass "SmallCourtModel" = some m.cls := hown
  have hM : hx_S T_tb [(87, 0)] L h L h := hx_S.rf
  have ht9 := hv_T3_c (n := i2.toInt) (by omega) (by omega)
  refine lv_iload_n hx hb dX10_draws_0 rfl (lv_at hl 3 rfl) ?_
  refine lv_istore (lv' := [(4, .int i3), (0, .ref x), (1, .int i1), (2, .int i2), (3, .int i3)]) hx hb dX10_draws_1 hl (by decide) rfl (fun ls hl => ?_)
  refine lv_iconst (v := 0) hx hb dX10_draws_3 (by decide) ?_
  refine lv_istore (lv' := [(5, .int (0 : Int32)), (4, .int i3), (0, .ref x), (1, .int i1), (2, .int i2), (3, .int i3)]) hx hb dX10_draws_4 hl (by decide) rfl (fun ls hl => ?_)
  have loop6 : ∀ (n6 : Nat) (iv6_4 iv6_5 : Int32) (ia6_qb : Nat → Int32) (H : Heap) (locs : List Loc) (hL1 : List Nat) (hl1 : hx_h), -9880 ≤ iv6_4.toInt → iv6_4.toInt ≤ 9880 → 0 ≤ iv6_5.toInt → iv6_5.toInt ≤ 40 → (iv6_4.toInt = i3.toInt - hv_T3 i2.toInt.toNat + hv_T3 (i2.toInt - iv6_5.toInt).toNat) → ((hv_DB i2.toInt i3.toInt sf bf0 ia6_qb i1.toInt.toNat iv6_4.toInt)) → (iv6_5.toInt ≤ i2.toInt) → ∀ (ls : Array Slot), 40 - iv6_5.toInt < (n6 : Int) → hx_W T_tb (P_ty dA) (dC, dI) vwCl (hx_A L sz) s.heap hL1 hl1 s H locs → hx_T T_tb hL1 hl1 → hx_S T_tb [(87, 0)] L h hL1 hl1 → hl1.2.1 qb = ia6_qb → lv_has ls 8 [(5, .int iv6_5), (4, .int iv6_4), (0, .ref x), (1, .int i1), (2, .int i2), (3, .int i3)] → W p l e ({ frames := 0, cells := 0, slots := 0, locals := 0 }) s m ([.ref x, .int i1, .int i2, .int i3] : List Value).toArray below meth c H locs 0 0 (MQ below (va_Qv (fun (u : List Nat × hx_h) => (∃ (bf1 : Nat → Int32), u.2.2.1 qb = bf1 ∧ (∃ b0 b1 b2 : Int32, hv_BN lj i3.toInt b0 b1 b2 ∧ bf1 = hx_up (hx_up (hx_up bf0 (3 * i1.toInt.toNat) b0) (3 * i1.toInt.toNat + 1) b1) (3 * i1.toInt.toNat + 2) b2)) ∧ hx_T T_tb u.1 u.2 ∧ hx_S T_tb [(87, 0)] L h u.1 u.2) (hx_E T_tb (P_ty dA) (dC, dI) vwCl (hx_A L sz)) (hx_A L sz)) ([.ref x, .int i1, .int i2, .int i3] : List Value).toArray s 0 0 (hx_A L sz)) (F0 m 6 ls []) := by
    intro n6
    induction n6 with
    | zero => intro iv6_4 iv6_5 ia6_qb H locs hL1 hl1 bliv6_4 buiv6_4 bliv6_5 buiv6_5 vi6_0 vi6_1 vi6_2 ls hn6; exfalso; omega
    | succ n6 ih6 =>
      intro iv6_4 iv6_5 ia6_qb H locs hL1 hl1 bliv6_4 buiv6_4 bliv6_5 buiv6_5 vi6_0 vi6_1 vi6_2 ls hn6 hW hT hM  nia6_qb hl
      refine lv_iload hx hb dX10_draws_6 (lv_at hl 0 rfl) ?_
      refine lv_iload_n hx hb dX10_draws_8 rfl (lv_at hl 4 rfl) ?_
      refine hb_icmp_ge (zx := iv6_5.toInt) (zy := i2.toInt) (tgt := 111) hx hb rfl rfl dX10_draws_9 (by decide) (fun c_1 => ?_) (fun c_1 => ?_)
      · skip
        exact hx_retv hx hb hr hlk hW ⟨⟨ia6_qb, nia6_qb, (hv_DB_e vi6_1 (by have h8 : hv_T3 (i2.toInt - iv6_5.toInt).toNat = 0 := by { rw [show (i2.toInt - iv6_5.toInt).toNat = 0 by omega]; rfl }; omega) hfl hlj)⟩, hT, hM⟩ dX10_draws_111
      · skip
        refine lv_iload hx hb dX10_draws_12 (lv_at hl 0 rfl) ?_
        refine lv_iconst (v := 1) hx hb dX10_draws_14 (by decide) ?_
        refine lv_iadd hx hb dX10_draws_15 ?_
        have rg_2 := i32_r iv6_5
        refine lv_topi (fun x_3 ex_3 => ?_)
        have zx_3 : x_3.toInt = iv6_5.toInt + 1 := by rw [ex_3]; exact i32_add rfl (by decide) (by omega) (by omega)
        refine lv_istore (lv' := [(6, .int x_3), (5, .int iv6_5), (4, .int iv6_4), (0, .ref x), (1, .int i1), (2, .int i2), (3, .int i3)]) hx hb dX10_draws_16 hl (by decide) rfl (fun ls hl => ?_)
        have loop18 : ∀ (n18 : Nat) (iv18_4 iv18_6 : Int32) (ia18_qb : Nat → Int32) (H : Heap) (locs : List Loc) (hL1 : List Nat) (hl1 : hx_h), -9880 ≤ iv18_4.toInt → iv18_4.toInt ≤ 9880 → 0 ≤ iv18_6.toInt → iv18_6.toInt ≤ 40 → (iv18_4.toInt = i3.toInt - hv_T3 i2.toInt.toNat + hv_T3 (i2.toInt - iv6_5.toInt).toNat - hv_T2 (i2.toInt - iv6_5.toInt - 1).toNat + hv_T2 (i2.toInt - iv18_6.toInt).toNat) → ((hv_DB i2.toInt i3.toInt sf bf0 ia18_qb i1.toInt.toNat iv18_4.toInt)) → (iv18_6.toInt ≤ i2.toInt) → (iv6_5.toInt + 1 ≤ iv18_6.toInt) → ∀ (ls : Array Slot), 40 - iv18_6.toInt < (n18 : Int) → hx_W T_tb (P_ty dA) (dC, dI) vwCl (hx_A L sz) s.heap hL1 hl1 s H locs → hx_T T_tb hL1 hl1 → hx_S T_tb [(87, 0)] L h hL1 hl1 → hl1.2.1 qb = ia18_qb → lv_has ls 8 [(6, .int iv18_6), (5, .int iv6_5), (4, .int iv18_4), (0, .ref x), (1, .int i1), (2, .int i2), (3, .int i3)] → W p l e ({ frames := 0, cells := 0, slots := 0, locals := 0 }) s m ([.ref x, .int i1, .int i2, .int i3] : List Value).toArray below meth c H locs 0 0 (MQ below (va_Qv (fun (u : List Nat × hx_h) => (∃ (bf1 : Nat → Int32), u.2.2.1 qb = bf1 ∧ (∃ b0 b1 b2 : Int32, hv_BN lj i3.toInt b0 b1 b2 ∧ bf1 = hx_up (hx_up (hx_up bf0 (3 * i1.toInt.toNat) b0) (3 * i1.toInt.toNat + 1) b1) (3 * i1.toInt.toNat + 2) b2)) ∧ hx_T T_tb u.1 u.2 ∧ hx_S T_tb [(87, 0)] L h u.1 u.2) (hx_E T_tb (P_ty dA) (dC, dI) vwCl (hx_A L sz)) (hx_A L sz)) ([.ref x, .int i1, .int i2, .int i3] : List Value).toArray s 0 0 (hx_A L sz)) (F0 m 18 ls []) := by
          intro n18
          induction n18 with
          | zero => intro iv18_4 iv18_6 ia18_qb H locs hL1 hl1 bliv18_4 buiv18_4 bliv18_6 buiv18_6 vi18_0 vi18_1 vi18_2 vi18_3 ls hn18; exfalso; omega
          | succ n18 ih18 =>
            intro iv18_4 iv18_6 ia18_qb H locs hL1 hl1 bliv18_4 buiv18_4 bliv18_6 buiv18_6 vi18_0 vi18_1 vi18_2 vi18_3 ls hn18 hW hT hM  nia18_qb hl
            refine lv_iload hx hb dX10_draws_18 (lv_at hl 0 rfl) ?_
            refine lv_iload_n hx hb dX10_draws_20 rfl (lv_at hl 5 rfl) ?_
            refine hb_icmp_ge (zx := iv18_6.toInt) (zy := i2.toInt) (tgt := 105) hx hb rfl rfl dX10_draws_21 (by decide) (fun c_4 => ?_) (fun c_4 => ?_)
            · skip
              obtain ⟨x_5, ex_5⟩ : ∃ y : Int32, y = iv6_5 + Int32.ofInt 1 := ⟨_, rfl⟩
              have zx_5 : x_5.toInt = iv6_5.toInt + (1) := by rw [ex_5]; exact i32_add rfl (by decide) (by omega) (by omega)
              refine lv_iinc (v := x_5) (lv' := [(5, .int x_5), (6, .int iv18_6), (4, .int iv18_4), (0, .ref x), (1, .int i1), (2, .int i2), (3, .int i3)]) hx hb dX10_draws_105 hl (k := 1) rfl ex_5.symm (by decide) rfl (fun ls hl => ?_)
              refine lv_goto (tgt := 6) hx hb dX10_draws_108 (by decide) ?_
              exact ih6 iv18_4 x_5 ia18_qb _ _ hL1 hl1 (by omega) (by omega) (by omega) (by omega) (by have h9 := hv_T3_p (m := i2.toInt - iv6_5.toInt) (by omega); have h8 : hv_T2 (i2.toInt - iv18_6.toInt).toNat = 0 := by { rw [show (i2.toInt - iv18_6.toInt).toNat = 0 by omega]; rfl }; rw [show i2.toInt - x_5.toInt = i2.toInt - iv6_5.toInt - 1 by omega]; omega) vi18_1 (by omega) ls (by omega) hW hT hM  nia18_qb (lv_sub hl [0, 2, 3, 4, 5, 6] rfl)
            · skip
              refine lv_iload hx hb dX10_draws_24 (lv_at hl 0 rfl) ?_
              refine lv_iconst (v := 1) hx hb dX10_draws_26 (by decide) ?_
              refine lv_iadd hx hb dX10_draws_27 ?_
              have rg_6 := i32_r iv18_6
              refine lv_topi (fun x_7 ex_7 => ?_)
              have zx_7 : x_7.toInt = iv18_6.toInt + 1 := by rw [ex_7]; exact i32_add rfl (by decide) (by omega) (by omega)
              refine lv_istore (lv' := [(7, .int x_7), (6, .int iv18_6), (5, .int iv6_5), (4, .int iv18_4), (0, .ref x), (1, .int i1), (2, .int i2), (3, .int i3)]) hx hb dX10_draws_28 hl (by decide) rfl (fun ls hl => ?_)
              have loop30 : ∀ (n30 : Nat) (iv30_4 iv30_7 : Int32) (ia30_qb : Nat → Int32) (H : Heap) (locs : List Loc) (hL1 : List Nat) (hl1 : hx_h), -9880 ≤ iv30_4.toInt → iv30_4.toInt ≤ 9880 → 0 ≤ iv30_7.toInt → iv30_7.toInt ≤ 40 → (iv30_4.toInt = i3.toInt - hv_T3 i2.toInt.toNat + hv_T3 (i2.toInt - iv6_5.toInt).toNat - hv_T2 (i2.toInt - iv6_5.toInt - 1).toNat + hv_T2 (i2.toInt - iv18_6.toInt).toNat - (iv30_7.toInt - iv18_6.toInt - 1)) → ((hv_DB i2.toInt i3.toInt sf bf0 ia30_qb i1.toInt.toNat iv30_4.toInt)) → (iv30_7.toInt ≤ i2.toInt) → (iv18_6.toInt + 1 ≤ iv30_7.toInt) → ∀ (ls : Array Slot), 40 - iv30_7.toInt < (n30 : Int) → hx_W T_tb (P_ty dA) (dC, dI) vwCl (hx_A L sz) s.heap hL1 hl1 s H locs → hx_T T_tb hL1 hl1 → hx_S T_tb [(87, 0)] L h hL1 hl1 → hl1.2.1 qb = ia30_qb → lv_has ls 8 [(7, .int iv30_7), (6, .int iv18_6), (5, .int iv6_5), (4, .int iv30_4), (0, .ref x), (1, .int i1), (2, .int i2), (3, .int i3)] → W p l e ({ frames := 0, cells := 0, slots := 0, locals := 0 }) s m ([.ref x, .int i1, .int i2, .int i3] : List Value).toArray below meth c H locs 0 0 (MQ below (va_Qv (fun (u : List Nat × hx_h) => (∃ (bf1 : Nat → Int32), u.2.2.1 qb = bf1 ∧ (∃ b0 b1 b2 : Int32, hv_BN lj i3.toInt b0 b1 b2 ∧ bf1 = hx_up (hx_up (hx_up bf0 (3 * i1.toInt.toNat) b0) (3 * i1.toInt.toNat + 1) b1) (3 * i1.toInt.toNat + 2) b2)) ∧ hx_T T_tb u.1 u.2 ∧ hx_S T_tb [(87, 0)] L h u.1 u.2) (hx_E T_tb (P_ty dA) (dC, dI) vwCl (hx_A L sz)) (hx_A L sz)) ([.ref x, .int i1, .int i2, .int i3] : List Value).toArray s 0 0 (hx_A L sz)) (F0 m 30 ls []) := by
                intro n30
                induction n30 with
                | zero => intro iv30_4 iv30_7 ia30_qb H locs hL1 hl1 bliv30_4 buiv30_4 bliv30_7 buiv30_7 vi30_0 vi30_1 vi30_2 vi30_3 ls hn30; exfalso; omega
                | succ n30 ih30 =>
                  intro iv30_4 iv30_7 ia30_qb H locs hL1 hl1 bliv30_4 buiv30_4 bliv30_7 buiv30_7 vi30_0 vi30_1 vi30_2 vi30_3 ls hn30 hW hT hM  nia30_qb hl
                  refine lv_iload hx hb dX10_draws_30 (lv_at hl 0 rfl) ?_
                  refine lv_iload_n hx hb dX10_draws_32 rfl (lv_at hl 6 rfl) ?_
                  refine hb_icmp_ge (zx := iv30_7.toInt) (zy := i2.toInt) (tgt := 99) hx hb rfl rfl dX10_draws_33 (by decide) (fun c_8 => ?_) (fun c_8 => ?_)
                  · skip
                    obtain ⟨x_9, ex_9⟩ : ∃ y : Int32, y = iv18_6 + Int32.ofInt 1 := ⟨_, rfl⟩
                    have zx_9 : x_9.toInt = iv18_6.toInt + (1) := by rw [ex_9]; exact i32_add rfl (by decide) (by omega) (by omega)
                    refine lv_iinc (v := x_9) (lv' := [(6, .int x_9), (7, .int iv30_7), (5, .int iv6_5), (4, .int iv30_4), (0, .ref x), (1, .int i1), (2, .int i2), (3, .int i3)]) hx hb dX10_draws_99 hl (k := 1) rfl ex_9.symm (by decide) rfl (fun ls hl => ?_)
                    refine lv_goto (tgt := 18) hx hb dX10_draws_102 (by decide) ?_
                    exact ih18 iv30_4 x_9 ia30_qb _ _ hL1 hl1 (by omega) (by omega) (by omega) (by omega) (by have h9 := hv_T2_p (m := i2.toInt - iv18_6.toInt) (by omega); rw [show i2.toInt - x_9.toInt = i2.toInt - iv18_6.toInt - 1 by omega]; omega) vi30_1 (by omega) (by omega) ls (by omega) hW hT hM  nia30_qb (lv_sub hl [0, 2, 3, 4, 5, 6, 7] rfl)
                  · skip
                    have hpb9 := hv_ps_b (n := i2.toInt) (a := iv6_5.toInt) (b := iv18_6.toInt) (c := iv30_7.toInt) ⟨by omega, by omega, by omega, by omega⟩; unfold hv_ps at hpb9
                    refine lv_iload hx hb dX10_draws_36 (lv_at hl 3 rfl) ?_
                    refine hb_if_ne (zx := iv30_4.toInt) (tgt := 90) hx hb rfl dX10_draws_38 (by decide) (fun c_10 => ?_) (fun c_10 => ?_)
                    · skip
                      obtain ⟨x_11, ex_11⟩ : ∃ y : Int32, y = iv30_4 + Int32.ofInt (-1) := ⟨_, rfl⟩
                      have rg_12 := i32_r iv30_4
                      have zx_11 : x_11.toInt = iv30_4.toInt + (-1) := by rw [ex_11]; exact i32_add rfl (by decide) (by omega) (by omega)
                      refine lv_iinc (v := x_11) (lv' := [(4, .int x_11), (7, .int iv30_7), (6, .int iv18_6), (5, .int iv6_5), (0, .ref x), (1, .int i1), (2, .int i2), (3, .int i3)]) hx hb dX10_draws_90 hl (k := 3) rfl ex_11.symm (by decide) rfl (fun ls hl => ?_)
                      obtain ⟨x_13, ex_13⟩ : ∃ y : Int32, y = iv30_7 + Int32.ofInt 1 := ⟨_, rfl⟩
                      have rg_14 := i32_r iv30_7
                      have zx_13 : x_13.toInt = iv30_7.toInt + (1) := by rw [ex_13]; exact i32_add rfl (by decide) (by omega) (by omega)
                      refine lv_iinc (v := x_13) (lv' := [(7, .int x_13), (4, .int x_11), (6, .int iv18_6), (5, .int iv6_5), (0, .ref x), (1, .int i1), (2, .int i2), (3, .int i3)]) hx hb dX10_draws_93 hl (k := 1) rfl ex_13.symm (by decide) rfl (fun ls hl => ?_)
                      refine lv_goto (tgt := 30) hx hb dX10_draws_96 (by decide) ?_
                      exact ih30 x_11 x_13 ia30_qb _ _ hL1 hl1 (by omega) (by omega) (by omega) (by omega) (by omega) (hv_DB_n vi30_1 (by omega) (by omega)) (by omega) (by omega) ls (by omega) hW hT hM  nia30_qb (lv_sub hl [0, 2, 3, 1, 4, 5, 6, 7] rfl)
                    · skip
                      refine lv_aload_n hx hb dX10_draws_41 rfl (lv_at hl 4 rfl) ?_
                      refine hk_getr hx hb hts hC_10 hown hW (gx.S hM) tt_10 52 (by decide) rfl kw_1195 ⟨rfl, rfl, rfl⟩ ((hM.o gx trivial rfl).2.trans f_x_52) dX10_draws_42 ?_
                      refine lv_iconst (v := 3) hx hb dX10_draws_45 (by decide) ?_
                      refine lv_iload_n hx hb dX10_draws_46 rfl (lv_at hl 5 rfl) ?_
                      refine lv_imul hx hb dX10_draws_47 ?_
                      refine lv_topi (fun x_15 ex_15 => ?_)
                      have zx_15 : x_15.toInt = 3 * i1.toInt := by rw [ex_15]; exact i32_mul (by decide) rfl rfl (by omega) (by omega)
                      refine lv_aload_n hx hb dX10_draws_48 rfl (lv_at hl 4 rfl) ?_
                      refine hk_getr hx hb hts hC_10 hown hW (gx.S hM) tt_10 65 (by decide) rfl kw_1208 ⟨rfl, rfl, rfl⟩ ((hM.o gx trivial rfl).2.trans f_x_65) dX10_draws_49 ?_
                      refine lv_iload hx hb dX10_draws_52 (lv_at hl 2 rfl) ?_
                      refine hx_iald hx hb hW hT (gqs.S hM) tt_98 rfl ⟨by omega, by omega⟩ dX10_draws_54 (fun x_16 ex_16 lx_16 ux_16 => ?_)
                      have ax_16 : x_16 = sf iv6_5.toNatClampNeg := ex_16.trans (congrFun (hx_afS hM gqs rfl af_qs) _)
                      have nia30_qbO := nia30_qb
                      refine hx_iast hx hb hW hT (hx_S.rf (M := [(87, 0)])) (gqb.S hM) tt_87 rfl ⟨by omega, by omega⟩ rfl (i32_r _) (List.mem_singleton.mpr rfl) dX10_draws_55 (fun H locs h_17 eh_17 hW hT hs => ?_)
                      replace ex_16 := ex_16.trans (hs.a (gqs.S hM) rfl _).1.symm
                      replace hM := hM.tr (hs.mono (by decide))
                      obtain ⟨fa_18, dfa_18⟩ : ∃ g : Nat → Int32, g = hx_up ia30_qb x_15.toNatClampNeg x_16 := ⟨_, rfl⟩
                      have nfa_18 : h_17.2.1 qb = fa_18 := by rw [eh_17, dfa_18, ← nia30_qbO]; exact hx_pi_fun _ _ _ _
                      refine lv_aload_n hx hb dX10_draws_56 rfl (lv_at hl 4 rfl) ?_
                      refine hk_getr hx hb hts hC_10 hown hW (gx.S hM) tt_10 52 (by decide) rfl kw_1195 ⟨rfl, rfl, rfl⟩ ((hM.o gx trivial rfl).2.trans f_x_52) dX10_draws_57 ?_
                      refine lv_iconst (v := 3) hx hb dX10_draws_60 (by decide) ?_
                      refine lv_iload_n hx hb dX10_draws_61 rfl (lv_at hl 5 rfl) ?_
                      refine lv_imul hx hb dX10_draws_62 ?_
                      refine lv_topi (fun x_19 ex_19 => ?_)
                      have zx_19 : x_19.toInt = 3 * i1.toInt := by rw [ex_19]; exact i32_mul (by decide) rfl rfl (by omega) (by omega)
                      refine lv_iconst (v := 1) hx hb dX10_draws_63 (by decide) ?_
                      refine lv_iadd hx hb dX10_draws_64 ?_
                      have rg_20 := i32_r x_19
                      refine lv_topi (fun x_21 ex_21 => ?_)
                      have zx_21 : x_21.toInt = x_19.toInt + 1 := by rw [ex_21]; exact i32_add rfl (by decide) (by omega) (by omega)
                      refine lv_aload_n hx hb dX10_draws_65 rfl (lv_at hl 4 rfl) ?_
                      refine hk_getr hx hb hts hC_10 hown hW (gx.S hM) tt_10 65 (by decide) rfl kw_1208 ⟨rfl, rfl, rfl⟩ ((hM.o gx trivial rfl).2.trans f_x_65) dX10_draws_66 ?_
                      refine lv_iload hx hb dX10_draws_69 (lv_at hl 1 rfl) ?_
                      refine hx_iald hx hb hW hT (gqs.S hM) tt_98 rfl ⟨by omega, by omega⟩ dX10_draws_71 (fun x_22 ex_22 lx_22 ux_22 => ?_)
                      have ax_22 : x_22 = sf iv18_6.toNatClampNeg := ex_22.trans (congrFun (hx_afS hM gqs rfl af_qs) _)
                      have nfa_18O := nfa_18
                      refine hx_iast hx hb hW hT (hx_S.rf (M := [(87, 0)])) (gqb.S hM) tt_87 rfl ⟨by omega, by omega⟩ rfl (i32_r _) (List.mem_singleton.mpr rfl) dX10_draws_72 (fun H locs h_23 eh_23 hW hT hs => ?_)
                      replace ex_16 := ex_16.trans (hs.a (gqs.S hM) rfl _).1.symm
                      replace ex_22 := ex_22.trans (hs.a (gqs.S hM) rfl _).1.symm
                      replace hM := hM.tr (hs.mono (by decide))
                      obtain ⟨fa_24, dfa_24⟩ : ∃ g : Nat → Int32, g = hx_up fa_18 x_21.toNatClampNeg x_22 := ⟨_, rfl⟩
                      have nfa_24 : h_23.2.1 qb = fa_24 := by rw [eh_23, dfa_24, ← nfa_18O]; exact hx_pi_fun _ _ _ _
                      refine lv_aload_n hx hb dX10_draws_73 rfl (lv_at hl 4 rfl) ?_
                      refine hk_getr hx hb hts hC_10 hown hW (gx.S hM) tt_10 52 (by decide) rfl kw_1195 ⟨rfl, rfl, rfl⟩ ((hM.o gx trivial rfl).2.trans f_x_52) dX10_draws_74 ?_
                      refine lv_iconst (v := 3) hx hb dX10_draws_77 (by decide) ?_
                      refine lv_iload_n hx hb dX10_draws_78 rfl (lv_at hl 5 rfl) ?_
                      refine lv_imul hx hb dX10_draws_79 ?_
                      refine lv_topi (fun x_25 ex_25 => ?_)
                      have zx_25 : x_25.toInt = 3 * i1.toInt := by rw [ex_25]; exact i32_mul (by decide) rfl rfl (by omega) (by omega)
                      refine lv_iconst (v := 2) hx hb dX10_draws_80 (by decide) ?_
                      refine lv_iadd hx hb dX10_draws_81 ?_
                      have rg_26 := i32_r x_25
                      refine lv_topi (fun x_27 ex_27 => ?_)
                      have zx_27 : x_27.toInt = x_25.toInt + 2 := by rw [ex_27]; exact i32_add rfl (by decide) (by omega) (by omega)
                      refine lv_aload_n hx hb dX10_draws_82 rfl (lv_at hl 4 rfl) ?_
                      refine hk_getr hx hb hts hC_10 hown hW (gx.S hM) tt_10 65 (by decide) rfl kw_1208 ⟨rfl, rfl, rfl⟩ ((hM.o gx trivial rfl).2.trans f_x_65) dX10_draws_83 ?_
                      refine lv_iload hx hb dX10_draws_86 (lv_at hl 0 rfl) ?_
                      refine hx_iald hx hb hW hT (gqs.S hM) tt_98 rfl ⟨by omega, by omega⟩ dX10_draws_88 (fun x_28 ex_28 lx_28 ux_28 => ?_)
                      have ax_28 : x_28 = sf iv30_7.toNatClampNeg := ex_28.trans (congrFun (hx_afS hM gqs rfl af_qs) _)
                      have nfa_24O := nfa_24
                      refine hx_iast hx hb hW hT (hx_S.rf (M := [(87, 0)])) (gqb.S hM) tt_87 rfl ⟨by omega, by omega⟩ rfl (i32_r _) (List.mem_singleton.mpr rfl) dX10_draws_89 (fun H locs h_29 eh_29 hW hT hs => ?_)
                      replace ex_16 := ex_16.trans (hs.a (gqs.S hM) rfl _).1.symm
                      replace ex_22 := ex_22.trans (hs.a (gqs.S hM) rfl _).1.symm
                      replace ex_28 := ex_28.trans (hs.a (gqs.S hM) rfl _).1.symm
                      replace hM := hM.tr (hs.mono (by decide))
                      obtain ⟨fa_30, dfa_30⟩ : ∃ g : Nat → Int32, g = hx_up fa_24 x_27.toNatClampNeg x_28 := ⟨_, rfl⟩
                      have nfa_30 : h_29.2.1 qb = fa_30 := by rw [eh_29, dfa_30, ← nfa_24O]; exact hx_pi_fun _ _ _ _
                      obtain ⟨x_31, ex_31⟩ : ∃ y : Int32, y = iv30_4 + Int32.ofInt (-1) := ⟨_, rfl⟩
                      have rg_32 := i32_r iv30_4
                      have zx_31 : x_31.toInt = iv30_4.toInt + (-1) := by rw [ex_31]; exact i32_add rfl (by decide) (by omega) (by omega)
                      refine lv_iinc (v := x_31) (lv' := [(4, .int x_31), (7, .int iv30_7), (6, .int iv18_6), (5, .int iv6_5), (0, .ref x), (1, .int i1), (2, .int i2), (3, .int i3)]) hx hb dX10_draws_90 hl (k := 3) rfl ex_31.symm (by decide) rfl (fun ls hl => ?_)
                      obtain ⟨x_33, ex_33⟩ : ∃ y : Int32, y = iv30_7 + Int32.ofInt 1 := ⟨_, rfl⟩
                      have rg_34 := i32_r iv30_7
                      have zx_33 : x_33.toInt = iv30_7.toInt + (1) := by rw [ex_33]; exact i32_add rfl (by decide) (by omega) (by omega)
                      refine lv_iinc (v := x_33) (lv' := [(7, .int x_33), (4, .int x_31), (6, .int iv18_6), (5, .int iv6_5), (0, .ref x), (1, .int i1), (2, .int i2), (3, .int i3)]) hx hb dX10_draws_93 hl (k := 1) rfl ex_33.symm (by decide) rfl (fun ls hl => ?_)
                      refine lv_goto (tgt := 30) hx hb dX10_draws_96 (by decide) ?_
                      exact ih30 x_31 x_33 fa_30 _ _ hL1 h_29 (by omega) (by omega) (by omega) (by omega) (by omega) (hv_DB_y vi30_1 (by omega) (by omega) (x := iv6_5.toInt) (y := iv18_6.toInt) (z := iv30_7.toInt) ⟨by omega, by omega, by omega, by omega⟩ (by unfold hv_ps; omega) dfa_18 dfa_24 dfa_30 (by unfold Int32.toNatClampNeg; omega) (by unfold Int32.toNatClampNeg; omega) (by unfold Int32.toNatClampNeg; omega) ax_16 ax_22 ax_28 (by unfold Int32.toNatClampNeg; omega) (by unfold Int32.toNatClampNeg; omega) (by unfold Int32.toNatClampNeg; omega)) (by omega) (by omega) ls (by omega) hW hT hM  nfa_30 (lv_sub hl [0, 2, 3, 1, 4, 5, 6, 7] rfl)
              exact loop30 41 iv18_4 x_7 ia18_qb _ _ hL1 hl1 (by omega) (by omega) (by omega) (by omega) (by omega) vi18_1 (by omega) (by omega) ls (by omega) hW hT hM  nia18_qb hl
        exact loop18 41 iv6_4 x_3 ia6_qb _ _ hL1 hl1 (by omega) (by omega) (by omega) (by omega) (by rw [show i2.toInt - x_3.toInt = i2.toInt - iv6_5.toInt - 1 by omega]; omega) vi6_1 (by omega) (by omega) ls (by omega) hW hT hM  nia6_qb hl
  have zk_0 : (0 : Int32).toInt = 0 := by decide
  exact loop6 41 i3 (0 : Int32) bf0 _ _ L h (by omega) (by omega) (by decide) (by decide) (by rw [zk_0, show i2.toInt - 0 = i2.toInt by omega]; omega) (Or.inl ⟨by omega, rfl⟩) (by omega) ls (by omega) hW hT hM  af_qb hl
