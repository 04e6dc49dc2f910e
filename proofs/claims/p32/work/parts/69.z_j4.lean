section
set_option maxHeartbeats 4000000 in
set_option maxRecDepth 100000 in
theorem t_X9_sumOfSplit_v (l : Launch) (dC : Nat → ClassId) (dI : Nat → Nat → Nat) (dA : Nat → ClassId) (L : List Nat) (h : hx_h) (sz : Nat) (x : Nat) (v1 : Nat) (v2 : Nat) (hT : hx_T T_tb L h) (gx : hx_g L h x 9) (gv1 : hx_g L h v1 2) (gv2 : hx_g L h v2 0) (qp : Nat) (gqp : hx_g L h qp 44) (f_x_7 : h.2.2 x 7 = some qp) (qc : Nat) (gqc : hx_g L h qc 45) (f_x_10 : h.2.2 x 10 = some qc) (qt : Nat) (gqt : hx_g L h qt 11) (f_v2_2 : h.2.2 v2 2 = some qt) (ic : Int32) (eo_v1 : h.2.2 qc ic.toNatClampNeg = some v1) (ob_ic : 0 ≤ ic.toInt ∧ ic.toInt ≤ 99) (tf : Nat → Int32) (af_qt : h.2.1 qt = tf) (cn0 : Int32) (f_x_11 : h.2.1 x 11 = cn0) (pn0 : Int32) (f_x_8 : h.2.1 x 8 = pn0) (smf : Nat → Int32) (cl_qc_6 : hx_col 100 h qc 6 = smf) (flf : Nat → Int32) (cl_qc_8 : hx_col 100 h qc 8 = flf) (nu_qp : hx_num 40 h qp 0 (pn0.toInt)) (agf byf : Nat → Int32) (hDF : hw_DF h qc qp 2 agf cn0.toInt) (hDP : hw_DF h qc qp 1 byf cn0.toInt) (R : Nat → Int) (hR : hv_rC tf = R) (hRb : ∀ k, 0 ≤ R k ∧ R k ≤ 9999) (hcn : ic.toInt < cn0.toInt) (pf_x_8 : ∀ j : Nat, (j : Int) < (h.2.1 x 8).toInt → h.2.2 qp j ≠ none) (pf_x_11 : ∀ j : Nat, (j : Int) < (h.2.1 x 11).toInt → h.2.2 qc j ≠ none) : Met l yX9_sumOfSplit (Cond.code yX9_sumOfSplit cX9_sumOfSplit 6 (some .int) :: hx_all) ({ frames := 0, cells := 0, slots := 0, locals := 0 }) (va_Pc [.ref x, .ref v1, .ref v2] (hx_B T_tb (P_ty dA) (dC, dI) vwCl L h sz)) (va_Qi (fun (r : Int32) (u : List Nat × hx_h) => (r.toInt = hv_sm byf agf flf smf (byf ic.toNatClampNeg).toInt (agf ic.toNatClampNeg).toInt ((flf ic.toNatClampNeg).toInt - R 1) cn0.toInt.toNat ∧ (0 ≤ r.toInt ∧ r.toInt ≤ 999900)) ∧ hx_T T_tb u.1 u.2 ∧ hx_S T_tb [] L h u.1 u.2) (hx_E T_tb (P_ty dA) (dC, dI) vwCl (hx_A L sz)) (hx_A L sz)) 0 0 (hx_A L sz) := by
  refine hx_met (lv := [(0, .ref x), (1, .ref v1), (2, .ref v2)]) (by decide +kernel) rfl (Nat.le_of_ble_eq_true rfl) rfl ?_
  intro p e s m below meth c hx hb hml hr hlk hts0 hown hin hsz hW ls hl
  have hts : ∀ w ∈ hx_all, w.before _ s = true := fun w hw => hts0 w (List.mem_cons_of_mem _ hw)
  have hown : s.vm.findClass "SmallCourt" = some m.cls := hown
  have hM : hx_S T_tb [] L h L h := hx_S.rf
  have b_cn0 := hT.gi gx tt_9 (k := 11) rfl
  rw [f_x_11] at b_cn0
  have b_cn0 : 0 ≤ cn0.toInt ∧ cn0.toInt ≤ 100 := b_cn0
  have b_pn0 := hT.gi gx tt_9 (k := 8) rfl
  rw [f_x_8] at b_pn0
  have b_pn0 : 0 ≤ pn0.toInt ∧ pn0.toInt ≤ 40 := b_pn0
  obtain ⟨fv_1, efv_1⟩ : ∃ y : Int32, y = h.2.1 v1 8 := ⟨_, rfl⟩
  have bfv_1 := hT.gi (gv1.S hM) tt_2 (k := 8) rfl
  rw [← efv_1] at bfv_1
  have bfv_1 : 0 ≤ fv_1.toInt ∧ fv_1.toInt ≤ 7999 := bfv_1
  have ffv_1 := efv_1.symm
  have cv1f9 : fv_1 = flf ic.toNatClampNeg := ?o0
  case o0 =>
    rw [← ffv_1, ← cl_qc_8]
    exact (hx_col_at eo_v1 (by unfold Int32.toNatClampNeg; omega)).symm
  refine lv_iconst (v := 0) hx hb dX9_sumOfSplit_0 ?o1 ?_
  case o1 => decide
  refine lv_istore_n (lv' := [(3, .int (0 : Int32)), (0, .ref x), (1, .ref v1), (2, .ref v2)]) hx hb dX9_sumOfSplit_1 rfl hl ?o2 rfl (fun ls hl => ?_)
  case o2 => decide
  refine lv_iconst (v := 0) hx hb dX9_sumOfSplit_2 ?o3 ?_
  case o3 => decide
  refine lv_istore (lv' := [(4, .int (0 : Int32)), (3, .int (0 : Int32)), (0, .ref x), (1, .ref v1), (2, .ref v2)]) hx hb dX9_sumOfSplit_3 hl ?o4 rfl (fun ls hl => ?_)
  case o4 => decide
  have loop5 : ∀ (n5 : Nat) (iv5_3 iv5_4 : Int32) (H : Heap) (locs : List Loc) (hL1 : List Nat) (hl1 : hx_h), 0 ≤ iv5_3.toInt → iv5_3.toInt ≤ 999900 → 0 ≤ iv5_4.toInt → iv5_4.toInt ≤ 100 → (iv5_3.toInt = hv_sm byf agf flf smf (byf ic.toNatClampNeg).toInt (agf ic.toNatClampNeg).toInt ((flf ic.toNatClampNeg).toInt - R 1) (iv5_4.toInt).toNat) → (iv5_3.toInt ≤ 9999 * iv5_4.toInt) → (iv5_4.toInt ≤ cn0.toInt) → ∀ (ls : Array Slot), 100 - iv5_4.toInt < (n5 : Int) → hx_W T_tb (P_ty dA) (dC, dI) vwCl (hx_A L sz) s.heap hL1 hl1 s H locs → hx_T T_tb hL1 hl1 → hx_S T_tb [] L h hL1 hl1 → hl1.2.2 x 7 = some qp → hl1.2.2 x 10 = some qc → hl1.2.1 x 11 = cn0 → hl1.2.1 x 8 = pn0 → hl1.2.1 v1 8 = fv_1 → hx_g hL1 hl1 x 9 → hx_g hL1 hl1 qp 44 → hx_g hL1 hl1 qc 45 → (∀ j : Nat, (j : Int) < (hl1.2.1 x 8).toInt → hl1.2.2 qp j ≠ none) → (∀ j : Nat, (j : Int) < (hl1.2.1 x 11).toInt → hl1.2.2 qc j ≠ none) → hx_col 100 hl1 qc 6 = smf → hx_col 100 hl1 qc 8 = flf → hx_num 40 hl1 qp 0 (pn0.toInt) → hl1.2.2 qc ic.toNatClampNeg = some v1 → hw_DF hl1 qc qp 2 agf cn0.toInt → hw_DF hl1 qc qp 1 byf cn0.toInt → lv_has ls 6 [(4, .int iv5_4), (3, .int iv5_3), (0, .ref x), (1, .ref v1), (2, .ref v2)] → W p l e ({ frames := 0, cells := 0, slots := 0, locals := 0 }) s m ([.ref x, .ref v1, .ref v2] : List Value).toArray below meth c H locs 0 0 (MQ below (va_Qi (fun (r : Int32) (u : List Nat × hx_h) => (r.toInt = hv_sm byf agf flf smf (byf ic.toNatClampNeg).toInt (agf ic.toNatClampNeg).toInt ((flf ic.toNatClampNeg).toInt - R 1) cn0.toInt.toNat ∧ (0 ≤ r.toInt ∧ r.toInt ≤ 999900)) ∧ hx_T T_tb u.1 u.2 ∧ hx_S T_tb [] L h u.1 u.2) (hx_E T_tb (P_ty dA) (dC, dI) vwCl (hx_A L sz)) (hx_A L sz)) ([.ref x, .ref v1, .ref v2] : List Value).toArray s 0 0 (hx_A L sz)) (F0 m 5 ls []) := by
    intro n5
    induction n5 with
    | zero => intro iv5_3 iv5_4 H locs hL1 hl1 bliv5_3 buiv5_3 bliv5_4 buiv5_4 vi5_0 vi5_1 vi5_2 ls hn5; exfalso; omega
    | succ n5 ih5 =>
      intro iv5_3 iv5_4 H locs hL1 hl1 bliv5_3 buiv5_3 bliv5_4 buiv5_4 vi5_0 vi5_1 vi5_2 ls hn5 hW hT hM f_x_7 f_x_10 f_x_11 f_x_8 ffv_1 gx gqp gqc pf_x_8 pf_x_11 cl_qc_6 cl_qc_8 nu_qp eo_v1 hDF hDP hl
      refine lv_iload hx hb dX9_sumOfSplit_5 (lv_at hl 0 rfl) ?_
      refine lv_aload_n hx hb dX9_sumOfSplit_7 rfl (lv_at hl 2 rfl) ?_
      refine hk_geti hx hb hts hC_9 hown hW gx tt_9 11 ?o5 rfl kw_375 ⟨rfl, rfl, rfl⟩ f_x_11 dX9_sumOfSplit_8 ?_
      case o5 => decide
      refine hb_icmp_ge (zx := iv5_4.toInt) (zy := cn0.toInt) (tgt := 80) hx hb rfl rfl dX9_sumOfSplit_11 ?o6 (fun c_2 => ?_) (fun c_2 => ?_)
      case o6 => decide
      · skip
        refine lv_iload_n hx hb dX9_sumOfSplit_80 rfl (lv_at hl 1 rfl) ?_
        refine hx_reti hx hb hr hlk hW ⟨⟨(by have h8 := vi5_0; rw [show iv5_4.toInt.toNat = cn0.toInt.toNat by omega] at h8; exact h8), ?o7, ?o8⟩, hT, hM⟩ dX9_sumOfSplit_81
        case o7 => omega
        case o8 => omega
      · skip
        refine lv_aload_n hx hb dX9_sumOfSplit_14 rfl (lv_at hl 2 rfl) ?_
        refine hk_getr hx hb hts hC_9 hown hW gx tt_9 10 ?o9 rfl kw_374 ⟨rfl, rfl, rfl⟩ f_x_10 dX9_sumOfSplit_15 ?_
        case o9 => decide
        refine lv_iload hx hb dX9_sumOfSplit_18 (lv_at hl 0 rfl) ?_
        refine hx_aaldN hx hb hW hT gqc tt_45 (t1 := 2) rfl ⟨?o10, ?o11⟩ (pf_x_11 _ (by rw [f_x_11]; exact hx_tnI (by omega) (by omega))) dX9_sumOfSplit_20 (fun q_3 fq_3 gq_3 => ?_)
        case o10 => omega
        case o11 => omega
        refine lv_astore (lv' := [(5, .ref q_3), (4, .int iv5_4), (3, .int iv5_3), (0, .ref x), (1, .ref v1), (2, .ref v2)]) hx hb dX9_sumOfSplit_21 hl ?o12 rfl (fun ls hl => ?_)
        case o12 => decide
        refine lv_aload hx hb dX9_sumOfSplit_23 (lv_at hl 0 rfl) ?_
        refine hx_getn hx hb hts hC_2 hown hW hT gq_3 tt_2 1 ?o13 rfl kw_728 ⟨rfl, rfl, rfl⟩ dX9_sumOfSplit_25 (fun q_4 fq_4 gq_4 => ?_)
        case o13 => decide
        refine lv_aload_n hx hb dX9_sumOfSplit_28 rfl (lv_at hl 4 rfl) ?_
        refine hx_getn hx hb hts hC_2 hown hW hT (gv1.S hM) tt_2 1 ?o14 rfl kw_728 ⟨rfl, rfl, rfl⟩ dX9_sumOfSplit_29 (fun q_5 fq_5 gq_5 => ?_)
        case o14 => decide
        have hp_6 := hv_pid hDP nu_qp (by unfold Int32.toNatClampNeg; omega) (by unfold Int32.toNatClampNeg; omega) (by unfold Int32.toNatClampNeg; omega) (by unfold Int32.toNatClampNeg; omega) fq_3 eo_v1 fq_4 fq_5
        refine lv_acmp_ne (rx := (some q_4)) (ry := (some q_5)) (tgt := 74) hx hb dX9_sumOfSplit_32 ?o15 (fun c_7 => ?_) (fun c_7 => ?_)
        case o15 => decide
        · skip
          obtain ⟨x_8, ex_8⟩ : ∃ y : Int32, y = iv5_4 + Int32.ofInt 1 := ⟨_, rfl⟩
          have rg_9 := i32_r iv5_4
          have zx_8 : x_8.toInt = iv5_4.toInt + (1) := ?o16
          case o16 =>
            rw [ex_8]
            refine i32_add rfl ?o17 ?o18 ?o19
            case o17 => decide
            case o18 => omega
            case o19 => omega
          refine lv_iinc (v := x_8) (lv' := [(4, .int x_8), (5, .ref q_3), (3, .int iv5_3), (0, .ref x), (1, .ref v1), (2, .ref v2)]) hx hb dX9_sumOfSplit_74 hl (k := 1) rfl ex_8.symm ?o20 rfl (fun ls hl => ?_)
          case o20 => decide
          refine lv_goto (tgt := 5) hx hb dX9_sumOfSplit_77 ?o21 ?_
          case o21 => decide
          refine ih5 iv5_3 x_8 _ _ hL1 hl1 ?o22 ?o23 ?o24 ?o25 (hv_sm_n vi5_0 (hv_sq_f (fun z => c_7 (congrArg some (hp_6.mpr z.1)))) ?o26 zx_8) ?o27 ?o28 ls ?o29 hW hT hM f_x_7 f_x_10 f_x_11 f_x_8 ffv_1 gx gqp gqc pf_x_8 pf_x_11 cl_qc_6 cl_qc_8 nu_qp eo_v1 hDF hDP (lv_sub hl [0, 2, 3, 4, 5] rfl)
          case o22 => omega
          case o23 => omega
          case o24 => omega
          case o25 => omega
          case o26 => omega
          case o27 => omega
          case o28 => omega
          case o29 => omega
        · skip
          refine lv_aload hx hb dX9_sumOfSplit_35 (lv_at hl 0 rfl) ?_
          refine hx_getn hx hb hts hC_2 hown hW hT gq_3 tt_2 2 ?o30 rfl kw_733 ⟨rfl, rfl, rfl⟩ dX9_sumOfSplit_37 (fun q_10 fq_10 gq_10 => ?_)
          case o30 => decide
          refine lv_aload_n hx hb dX9_sumOfSplit_40 rfl (lv_at hl 4 rfl) ?_
          refine hx_getn hx hb hts hC_2 hown hW hT (gv1.S hM) tt_2 2 ?o31 rfl kw_733 ⟨rfl, rfl, rfl⟩ dX9_sumOfSplit_41 (fun q_11 fq_11 gq_11 => ?_)
          case o31 => decide
          have hp_12 := hv_pid hDF nu_qp (by unfold Int32.toNatClampNeg; omega) (by unfold Int32.toNatClampNeg; omega) (by unfold Int32.toNatClampNeg; omega) (by unfold Int32.toNatClampNeg; omega) fq_3 eo_v1 fq_10 fq_11
          refine lv_acmp_ne (rx := (some q_10)) (ry := (some q_11)) (tgt := 74) hx hb dX9_sumOfSplit_44 ?o32 (fun c_13 => ?_) (fun c_13 => ?_)
          case o32 => decide
          · skip
            obtain ⟨x_14, ex_14⟩ : ∃ y : Int32, y = iv5_4 + Int32.ofInt 1 := ⟨_, rfl⟩
            have rg_15 := i32_r iv5_4
            have zx_14 : x_14.toInt = iv5_4.toInt + (1) := ?o33
            case o33 =>
              rw [ex_14]
              refine i32_add rfl ?o34 ?o35 ?o36
              case o34 => decide
              case o35 => omega
              case o36 => omega
            refine lv_iinc (v := x_14) (lv' := [(4, .int x_14), (5, .ref q_3), (3, .int iv5_3), (0, .ref x), (1, .ref v1), (2, .ref v2)]) hx hb dX9_sumOfSplit_74 hl (k := 1) rfl ex_14.symm ?o37 rfl (fun ls hl => ?_)
            case o37 => decide
            refine lv_goto (tgt := 5) hx hb dX9_sumOfSplit_77 ?o38 ?_
            case o38 => decide
            refine ih5 iv5_3 x_14 _ _ hL1 hl1 ?o39 ?o40 ?o41 ?o42 (hv_sm_n vi5_0 (hv_sq_f (fun z => c_13 (congrArg some (hp_12.mpr z.2.1)))) ?o43 zx_14) ?o44 ?o45 ls ?o46 hW hT hM f_x_7 f_x_10 f_x_11 f_x_8 ffv_1 gx gqp gqc pf_x_8 pf_x_11 cl_qc_6 cl_qc_8 nu_qp eo_v1 hDF hDP (lv_sub hl [0, 2, 3, 4, 5] rfl)
            case o39 => omega
            case o40 => omega
            case o41 => omega
            case o42 => omega
            case o43 => omega
            case o44 => omega
            case o45 => omega
            case o46 => omega
          · skip
            refine lv_aload hx hb dX9_sumOfSplit_47 (lv_at hl 0 rfl) ?_
            refine hx_geti hx hb hts hC_2 hown hW hT gq_3 tt_2 8 ?o47 rfl kw_743 ⟨rfl, rfl, rfl⟩ dX9_sumOfSplit_49 (fun x_16 ex_16 lx_16 ux_16 => ?_)
            case o47 => decide
            have fx_16 := ex_16.symm
            have cx_16 : x_16 = flf iv5_4.toNatClampNeg := ?o48
            case o48 =>
              rw [ex_16, ← cl_qc_8]
              exact (hx_col_at fq_3 (by unfold Int32.toNatClampNeg; omega)).symm
            refine lv_aload_n hx hb dX9_sumOfSplit_52 rfl (lv_at hl 4 rfl) ?_
            refine hk_geti hx hb hts hC_2 hown hW (gv1.S hM) tt_2 8 ?o49 rfl kw_743 ⟨rfl, rfl, rfl⟩ ffv_1 dX9_sumOfSplit_53 ?_
            case o49 => decide
            refine lv_aload_n hx hb dX9_sumOfSplit_56 rfl (lv_at hl 5 rfl) ?_
            refine hk_getr hx hb hts hC_0 hown hW (gv2.S hM) tt_0 2 ?o50 rfl kw_170 ⟨rfl, rfl, rfl⟩ ((hM.o gv2 trivial rfl).2.trans f_v2_2) dX9_sumOfSplit_57 ?_
            case o50 => decide
            refine lv_iconst (v := 2) hx hb dX9_sumOfSplit_60 ?o51 ?_
            case o51 => decide
            refine hx_iald hx hb hW hT (gqt.S hM) tt_11 rfl ?o52 dX9_sumOfSplit_61 (fun x_17 ex_17 lx_17 ux_17 => ?_)
            case o52 => decide
            have ax_17 : x_17 = tf (2 : Int32).toNatClampNeg := ex_17.trans (congrFun (hx_afS hM gqt rfl af_qt) _)
            have hR_18 : x_17.toInt = R 1 := ?o53
            case o53 =>
              rw [← hR, ax_17, show (2 : Int32).toNatClampNeg = 2 from by decide]
              rfl
            have hR_18b := hRb 1
            rw [← hR_18] at hR_18b
            refine lv_isub hx hb dX9_sumOfSplit_62 ?_
            have rg_19 := i32_r fv_1
            have rg_20 := i32_r x_17
            refine lv_topi (fun x_21 ex_21 => ?_)
            have zx_21 : x_21.toInt = fv_1.toInt - x_17.toInt := ?o54
            case o54 =>
              rw [ex_21]
              refine i32_sub rfl rfl ?o55 ?o56
              case o55 => omega
              case o56 => omega
            refine hb_icmp_lt (zx := x_16.toInt) (zy := x_21.toInt) (tgt := 74) hx hb rfl rfl dX9_sumOfSplit_63 ?o57 (fun c_22 => ?_) (fun c_22 => ?_)
            case o57 => decide
            · skip
              obtain ⟨x_23, ex_23⟩ : ∃ y : Int32, y = iv5_4 + Int32.ofInt 1 := ⟨_, rfl⟩
              have rg_24 := i32_r iv5_4
              have zx_23 : x_23.toInt = iv5_4.toInt + (1) := ?o58
              case o58 =>
                rw [ex_23]
                refine i32_add rfl ?o59 ?o60 ?o61
                case o59 => decide
                case o60 => omega
                case o61 => omega
              refine lv_iinc (v := x_23) (lv' := [(4, .int x_23), (5, .ref q_3), (3, .int iv5_3), (0, .ref x), (1, .ref v1), (2, .ref v2)]) hx hb dX9_sumOfSplit_74 hl (k := 1) rfl ex_23.symm ?o62 rfl (fun ls hl => ?_)
              case o62 => decide
              refine lv_goto (tgt := 5) hx hb dX9_sumOfSplit_77 ?o63 ?_
              case o63 => decide
              refine ih5 iv5_3 x_23 _ _ hL1 hl1 ?o64 ?o65 ?o66 ?o67 (hv_sm_n vi5_0 (hv_sq_f (fun z => by have h9 := z.2.2; rw [show (flf iv5_4.toInt.toNat) = x_16 from cx_16.symm, show (flf ic.toNatClampNeg) = fv_1 from cv1f9.symm] at h9; omega)) ?o68 zx_23) ?o69 ?o70 ls ?o71 hW hT hM f_x_7 f_x_10 f_x_11 f_x_8 ffv_1 gx gqp gqc pf_x_8 pf_x_11 cl_qc_6 cl_qc_8 nu_qp eo_v1 hDF hDP (lv_sub hl [0, 2, 3, 4, 5] rfl)
              case o64 => omega
              case o65 => omega
              case o66 => omega
              case o67 => omega
              case o68 => omega
              case o69 => omega
              case o70 => omega
              case o71 => omega
            · skip
              refine lv_iload_n hx hb dX9_sumOfSplit_66 rfl (lv_at hl 2 rfl) ?_
              refine lv_aload hx hb dX9_sumOfSplit_67 (lv_at hl 0 rfl) ?_
              refine hx_geti hx hb hts hC_2 hown hW hT gq_3 tt_2 6 ?o72 rfl kw_741 ⟨rfl, rfl, rfl⟩ dX9_sumOfSplit_69 (fun x_25 ex_25 lx_25 ux_25 => ?_)
              case o72 => decide
              have fx_25 := ex_25.symm
              have cx_25 : x_25 = smf iv5_4.toNatClampNeg := ?o73
              case o73 =>
                rw [ex_25, ← cl_qc_6]
                exact (hx_col_at fq_3 (by unfold Int32.toNatClampNeg; omega)).symm
              refine lv_iadd hx hb dX9_sumOfSplit_72 ?_
              have rg_26 := i32_r iv5_3
              have rg_27 := i32_r x_25
              refine lv_topi (fun x_28 ex_28 => ?_)
              have zx_28 : x_28.toInt = iv5_3.toInt + x_25.toInt := ?o74
              case o74 =>
                rw [ex_28]
                refine i32_add rfl rfl ?o75 ?o76
                case o75 => omega
                case o76 => omega
              refine lv_istore_n (lv' := [(3, .int x_28), (5, .ref q_3), (4, .int iv5_4), (0, .ref x), (1, .ref v1), (2, .ref v2)]) hx hb dX9_sumOfSplit_73 rfl hl ?o77 rfl (fun ls hl => ?_)
              case o77 => decide
              obtain ⟨x_29, ex_29⟩ : ∃ y : Int32, y = iv5_4 + Int32.ofInt 1 := ⟨_, rfl⟩
              have rg_30 := i32_r iv5_4
              have zx_29 : x_29.toInt = iv5_4.toInt + (1) := ?o78
              case o78 =>
                rw [ex_29]
                refine i32_add rfl ?o79 ?o80 ?o81
                case o79 => decide
                case o80 => omega
                case o81 => omega
              refine lv_iinc (v := x_29) (lv' := [(4, .int x_29), (3, .int x_28), (5, .ref q_3), (0, .ref x), (1, .ref v1), (2, .ref v2)]) hx hb dX9_sumOfSplit_74 hl (k := 2) rfl ex_29.symm ?o82 rfl (fun ls hl => ?_)
              case o82 => decide
              refine lv_goto (tgt := 5) hx hb dX9_sumOfSplit_77 ?o83 ?_
              case o83 => decide
              refine ih5 x_28 x_29 _ _ hL1 hl1 ?o84 ?o85 ?o86 ?o87 (hv_sm_y (ix := iv5_4.toNatClampNeg) (v := x_25) vi5_0 (hv_sq_t.mpr ⟨(hp_6.mp (Option.some.inj c_7)), (hp_12.mp (Option.some.inj c_13)), (by rw [show (flf iv5_4.toInt.toNat) = x_16 from cx_16.symm, show (flf ic.toNatClampNeg) = fv_1 from cv1f9.symm]; omega)⟩) ?o88 (by unfold Int32.toNatClampNeg; omega) cx_25 ?o89 zx_29) ?o90 ?o91 ls ?o92 hW hT hM f_x_7 f_x_10 f_x_11 f_x_8 ffv_1 gx gqp gqc pf_x_8 pf_x_11 cl_qc_6 cl_qc_8 nu_qp eo_v1 hDF hDP (lv_sub hl [0, 1, 3, 4, 5] rfl)
              case o84 => omega
              case o85 => omega
              case o86 => omega
              case o87 => omega
              case o88 => omega
              case o89 => omega
              case o90 => omega
              case o91 => omega
              case o92 => omega
  have zk_0 : (0 : Int32).toInt = 0 := ?o93
  case o93 => decide
  have zk_0 : (0 : Int32).toInt = 0 := ?o94
  case o94 => decide
  refine loop5 101 (0 : Int32) (0 : Int32) _ _ L h ?o95 ?o96 ?o97 ?o98 (by rw [zk_0]; rfl) ?o99 ?o100 ls ?o101 hW hT hM f_x_7 f_x_10 f_x_11 f_x_8 ffv_1 gx gqp gqc pf_x_8 pf_x_11 cl_qc_6 cl_qc_8 nu_qp eo_v1 hDF hDP hl
  case o95 => decide
  case o96 => decide
  case o97 => decide
  case o98 => decide
  case o99 => omega
  case o100 => omega
  case o101 => omega


set_option maxHeartbeats 4000000 in
set_option maxRecDepth 100000 in
theorem t_X10_isSplit_v (l : Launch) (dC : Nat → ClassId) (dI : Nat → Nat → Nat) (dA : Nat → ClassId) (L : List Nat) (h : hx_h) (sz : Nat) (x : Nat) (i1 : Int32) (i2 : Int32) (hT : hx_T T_tb L h) (gx : hx_g L h x 10) (qb : Nat) (gqb : hx_g L h qb 72) (f_x_37 : h.2.2 x 37 = some qb) (qa : Nat) (gqa : hx_g L h qa 73) (f_x_38 : h.2.2 x 38 = some qa) (qf : Nat) (gqf : hx_g L h qf 78) (f_x_43 : h.2.2 x 43 = some qf) (qs : Nat) (gqs : hx_g L h qs 74) (f_x_39 : h.2.2 x 39 = some qs) (ql : Nat) (gql : hx_g L h ql 50) (f_x_3 : h.2.2 x 3 = some ql) (byf : Nat → Int32) (af_qb : h.2.1 qb = byf) (agf : Nat → Int32) (af_qa : h.2.1 qa = agf) (flf : Nat → Int32) (af_qf : h.2.1 qf = flf) (smf : Nat → Int32) (af_qs : h.2.1 qs = smf) (rlf : Nat → Int32) (af_ql : h.2.1 ql = rlf) (c0 : Int32) (f_x_36 : h.2.1 x 36 = c0) (hi1 : 0 ≤ i1.toInt ∧ i1.toInt ≤ 99) (hi2 : 0 ≤ i2.toInt ∧ i2.toInt ≤ 8) (R : Nat → Int) (hRr : ∀ k : Nat, k ≤ 12 → (rlf (13 * i2.toInt.toNat + k)).toInt = R k) : Met l yX10_isSplit (Cond.code yX10_isSplit cX10_isSplit 6 (some .boolean) :: hx_all) ({ frames := 1, cells := 0, slots := 0, locals := 22 }) (va_Pc [.ref x, .int i1, .int i2] (hx_B T_tb (P_ty dA) (dC, dI) vwCl L h sz)) (va_Qi (fun (r : Int32) (u : List Nat × hx_h) => ((r.toInt = 1 ∧ (1 < hv_sct byf agf flf (byf i1.toNatClampNeg).toInt (agf i1.toNatClampNeg).toInt ((flf i1.toNatClampNeg).toInt - R 1) c0.toInt.toNat ∧ R 0 < hv_sm byf agf flf smf (byf i1.toNatClampNeg).toInt (agf i1.toNatClampNeg).toInt ((flf i1.toNatClampNeg).toInt - R 1) c0.toInt.toNat)) ∨ (r.toInt = 0 ∧ ¬ (1 < hv_sct byf agf flf (byf i1.toNatClampNeg).toInt (agf i1.toNatClampNeg).toInt ((flf i1.toNatClampNeg).toInt - R 1) c0.toInt.toNat ∧ R 0 < hv_sm byf agf flf smf (byf i1.toNatClampNeg).toInt (agf i1.toNatClampNeg).toInt ((flf i1.toNatClampNeg).toInt - R 1) c0.toInt.toNat))) ∧ hx_T T_tb u.1 u.2 ∧ hx_S T_tb [] L h u.1 u.2) (hx_E T_tb (P_ty dA) (dC, dI) vwCl (hx_A L sz)) (hx_A L sz)) 0 0 (hx_A L sz) := by
  refine hx_met (lv := [(0, .ref x), (1, .int i1), (2, .int i2)]) (by decide +kernel) rfl (Nat.le_of_ble_eq_true rfl) rfl ?_
  intro p e s m below meth c hx hb hml hr hlk hts0 hown hin hsz hW ls hl
  have hts : ∀ w ∈ hx_all, w.before _ s = true := fun w hw => hts0 w (List.mem_cons_of_mem _ hw)
  have hown : s.vm.findClass "SmallCourtModel" = some m.cls := hown
  have hM : hx_S T_tb [] L h L h := hx_S.rf
  have b_c0 := hT.gi gx tt_10 (k := 36) rfl
  rw [f_x_36] at b_c0
  have b_c0 : 0 ≤ c0.toInt ∧ c0.toInt ≤ 100 := b_c0
  refine lv_iconst (v := 0) hx hb dX10_isSplit_0 ?o0 ?_
  case o0 => decide
  refine lv_istore_n (lv' := [(3, .int (0 : Int32)), (0, .ref x), (1, .int i1), (2, .int i2)]) hx hb dX10_isSplit_1 rfl hl ?o1 rfl (fun ls hl => ?_)
  case o1 => decide
  refine lv_iconst (v := 0) hx hb dX10_isSplit_2 ?o2 ?_
  case o2 => decide
  refine lv_istore (lv' := [(4, .int (0 : Int32)), (3, .int (0 : Int32)), (0, .ref x), (1, .int i1), (2, .int i2)]) hx hb dX10_isSplit_3 hl ?o3 rfl (fun ls hl => ?_)
  case o3 => decide
  refine lv_iconst (v := 0) hx hb dX10_isSplit_5 ?o4 ?_
  case o4 => decide
  refine lv_istore (lv' := [(5, .int (0 : Int32)), (4, .int (0 : Int32)), (3, .int (0 : Int32)), (0, .ref x), (1, .int i1), (2, .int i2)]) hx hb dX10_isSplit_6 hl ?o5 rfl (fun ls hl => ?_)
  case o5 => decide
  have loop8 : ∀ (n8 : Nat) (iv8_3 iv8_4 iv8_5 : Int32) (H : Heap) (locs : List Loc) (hL1 : List Nat) (hl1 : hx_h), 0 ≤ iv8_3.toInt → iv8_3.toInt ≤ 100 → 0 ≤ iv8_4.toInt → iv8_4.toInt ≤ 999900 → 0 ≤ iv8_5.toInt → iv8_5.toInt ≤ 100 → (iv8_3.toInt = hv_sct byf agf flf (byf i1.toNatClampNeg).toInt (agf i1.toNatClampNeg).toInt ((flf i1.toNatClampNeg).toInt - R 1) (iv8_5.toInt).toNat) → (iv8_4.toInt = hv_sm byf agf flf smf (byf i1.toNatClampNeg).toInt (agf i1.toNatClampNeg).toInt ((flf i1.toNatClampNeg).toInt - R 1) (iv8_5.toInt).toNat) → (iv8_4.toInt ≤ 9999 * iv8_5.toInt) → (iv8_3.toInt ≤ iv8_5.toInt) → (iv8_5.toInt ≤ c0.toInt) → ∀ (ls : Array Slot), 100 - iv8_5.toInt < (n8 : Int) → hx_W T_tb (P_ty dA) (dC, dI) vwCl (hx_A L sz) s.heap hL1 hl1 s H locs → hx_T T_tb hL1 hl1 → hx_S T_tb [] L h hL1 hl1 → lv_has ls 6 [(5, .int iv8_5), (4, .int iv8_4), (3, .int iv8_3), (0, .ref x), (1, .int i1), (2, .int i2)] → W p l e ({ frames := 1, cells := 0, slots := 0, locals := 22 }) s m ([.ref x, .int i1, .int i2] : List Value).toArray below meth c H locs 0 0 (MQ below (va_Qi (fun (r : Int32) (u : List Nat × hx_h) => ((r.toInt = 1 ∧ (1 < hv_sct byf agf flf (byf i1.toNatClampNeg).toInt (agf i1.toNatClampNeg).toInt ((flf i1.toNatClampNeg).toInt - R 1) c0.toInt.toNat ∧ R 0 < hv_sm byf agf flf smf (byf i1.toNatClampNeg).toInt (agf i1.toNatClampNeg).toInt ((flf i1.toNatClampNeg).toInt - R 1) c0.toInt.toNat)) ∨ (r.toInt = 0 ∧ ¬ (1 < hv_sct byf agf flf (byf i1.toNatClampNeg).toInt (agf i1.toNatClampNeg).toInt ((flf i1.toNatClampNeg).toInt - R 1) c0.toInt.toNat ∧ R 0 < hv_sm byf agf flf smf (byf i1.toNatClampNeg).toInt (agf i1.toNatClampNeg).toInt ((flf i1.toNatClampNeg).toInt - R 1) c0.toInt.toNat))) ∧ hx_T T_tb u.1 u.2 ∧ hx_S T_tb [] L h u.1 u.2) (hx_E T_tb (P_ty dA) (dC, dI) vwCl (hx_A L sz)) (hx_A L sz)) ([.ref x, .int i1, .int i2] : List Value).toArray s 0 0 (hx_A L sz)) (F0 m 8 ls []) := by
    intro n8
    induction n8 with
    | zero => intro iv8_3 iv8_4 iv8_5 H locs hL1 hl1 bliv8_3 buiv8_3 bliv8_4 buiv8_4 bliv8_5 buiv8_5 vi8_0 vi8_1 vi8_2 vi8_3 vi8_4 ls hn8; exfalso; omega
    | succ n8 ih8 =>
      intro iv8_3 iv8_4 iv8_5 H locs hL1 hl1 bliv8_3 buiv8_3 bliv8_4 buiv8_4 bliv8_5 buiv8_5 vi8_0 vi8_1 vi8_2 vi8_3 vi8_4 ls hn8 hW hT hM   hl
      refine lv_iload hx hb dX10_isSplit_8 (lv_at hl 0 rfl) ?_
      refine lv_aload_n hx hb dX10_isSplit_10 rfl (lv_at hl 3 rfl) ?_
      refine hk_geti hx hb hts hC_10 hown hW (gx.S hM) tt_10 36 ?o6 rfl kw_1179 ⟨rfl, rfl, rfl⟩ ((hM.o gx trivial rfl).1.trans f_x_36) dX10_isSplit_11 ?_
      case o6 => decide
      refine hb_icmp_ge (zx := iv8_5.toInt) (zy := c0.toInt) (tgt := 96) hx hb rfl rfl dX10_isSplit_14 ?o7 (fun c_1 => ?_) (fun c_1 => ?_)
      case o7 => decide
      · skip
        refine lv_iload_n hx hb dX10_isSplit_96 rfl (lv_at hl 2 rfl) ?_
        refine lv_iconst (v := 1) hx hb dX10_isSplit_97 ?o8 ?_
        case o8 => decide
        refine hb_icmp_le (zx := iv8_3.toInt) (zy := 1) (tgt := 116) hx hb rfl ?o9 dX10_isSplit_98 ?o10 (fun c_2 => ?_) (fun c_2 => ?_)
        case o9 => decide
        case o10 => decide
        · skip
          refine lv_iconst (v := 0) hx hb dX10_isSplit_116 ?o11 ?_
          case o11 => decide
          refine hx_retz hx hb hr rfl hlk hW ⟨(Or.inr ⟨?o12, (by have h8 := vi8_0; have h7 := vi8_1; rw [show iv8_5.toInt.toNat = c0.toInt.toNat by omega] at h8 h7; omega)⟩), hT, hM⟩ dX10_isSplit_117
          case o12 => decide
        · skip
          refine lv_iload hx hb dX10_isSplit_101 (lv_at hl 1 rfl) ?_
          refine lv_aload_n hx hb dX10_isSplit_103 rfl (lv_at hl 3 rfl) ?_
          refine lv_iload_n hx hb dX10_isSplit_104 rfl (lv_at hl 5 rfl) ?_
          refine lv_iconst (v := 0) hx hb dX10_isSplit_105 ?o13 ?_
          case o13 => decide
          have zc_0 : (0 : Int32).toInt = 0 := ?o14
          case o14 => decide
          refine hx_goi (hx_runV (As := [.int i2, .int (0 : Int32)]) (rest := [.int iv8_4]) ⟨hx, hb, hml, hown, hts⟩ hW (gx.S hM) tt_10 (T := TX10) (N := 98) rfl (t_X10_ruleOf_v l dC dI dA hL1 hl1 H.size x i2 (0 : Int32) hT (gx.S hM) ql (gql.S hM) ((hM.o gx trivial rfl).2.trans f_x_3) rlf (hx_afS hM gql rfl af_ql) ⟨?o15, ?o16⟩ ?o17) (cwV 2 hts (hx_gV kw_1533 kw_1530 kw_1532 kw_66 kw_103) rfl rfl rfl (by decide +kernel) ⟨Nat.le_of_ble_eq_true rfl, Nat.le_of_ble_eq_true rfl⟩) rfl hl.1 rfl (Nat.le_of_ble_eq_true rfl) dX10_isSplit_106 ⟨Nat.le_of_ble_eq_true rfl, Nat.le_of_ble_eq_true rfl⟩) hW (fun r_5 L_3 h_4 H locs p_6 hW => ?_)
          case o15 => omega
          case o16 => omega
          case o17 => decide
          obtain ⟨hr_7, hT, hs⟩ := p_6
          replace hT : hx_T T_tb L_3 h_4 := hT
          replace hs : hx_S T_tb [] hL1 hl1 L_3 h_4 := hs
          replace hM := hM.tr (hs.mono ?o18)
          case o18 => decide
          have hR_8 : r_5.toInt = R 0 := ?o19
          case o19 =>
            rw [hr_7.1, show (0 : Int32).toInt.toNat = 0 from by decide]
            refine hRr 0 ?o20
            case o20 => decide
          refine hb_icmp_le (zx := iv8_4.toInt) (zy := r_5.toInt) (tgt := 116) hx hb rfl rfl dX10_isSplit_109 ?o21 (fun c_9 => ?_) (fun c_9 => ?_)
          case o21 => decide
          · skip
            refine lv_iconst (v := 0) hx hb dX10_isSplit_116 ?o22 ?_
            case o22 => decide
            refine hx_retz hx hb hr rfl hlk hW ⟨(Or.inr ⟨?o23, (by have h8 := vi8_0; have h7 := vi8_1; rw [show iv8_5.toInt.toNat = c0.toInt.toNat by omega] at h8 h7; have h6 := hR_8; omega)⟩), hT, hM⟩ dX10_isSplit_117
            case o23 => decide
          · skip
            refine lv_iconst (v := 1) hx hb dX10_isSplit_112 ?o24 ?_
            case o24 => decide
            refine lv_goto (tgt := 117) hx hb dX10_isSplit_113 ?o25 ?_
            case o25 => decide
            refine hx_retz hx hb hr rfl hlk hW ⟨(Or.inl ⟨?o26, (by have h8 := vi8_0; have h7 := vi8_1; rw [show iv8_5.toInt.toNat = c0.toInt.toNat by omega] at h8 h7; have h6 := hR_8; omega)⟩), hT, hM⟩ dX10_isSplit_117
            case o26 => decide
      · skip
        refine lv_aload_n hx hb dX10_isSplit_17 rfl (lv_at hl 3 rfl) ?_
        refine hk_getr hx hb hts hC_10 hown hW (gx.S hM) tt_10 37 ?o27 rfl kw_1180 ⟨rfl, rfl, rfl⟩ ((hM.o gx trivial rfl).2.trans f_x_37) dX10_isSplit_18 ?_
        case o27 => decide
        refine lv_iload hx hb dX10_isSplit_21 (lv_at hl 0 rfl) ?_
        refine hx_iald hx hb hW hT (gqb.S hM) tt_72 rfl ⟨?o28, ?o29⟩ dX10_isSplit_23 (fun x_10 ex_10 lx_10 ux_10 => ?_)
        case o28 => omega
        case o29 => omega
        have ax_10 : x_10 = byf iv8_5.toNatClampNeg := ex_10.trans (congrFun (hx_afS hM gqb rfl af_qb) _)
        refine lv_aload_n hx hb dX10_isSplit_24 rfl (lv_at hl 3 rfl) ?_
        refine hk_getr hx hb hts hC_10 hown hW (gx.S hM) tt_10 37 ?o30 rfl kw_1180 ⟨rfl, rfl, rfl⟩ ((hM.o gx trivial rfl).2.trans f_x_37) dX10_isSplit_25 ?_
        case o30 => decide
        refine lv_iload_n hx hb dX10_isSplit_28 rfl (lv_at hl 4 rfl) ?_
        refine hx_iald hx hb hW hT (gqb.S hM) tt_72 rfl ⟨?o31, ?o32⟩ dX10_isSplit_29 (fun x_11 ex_11 lx_11 ux_11 => ?_)
        case o31 => omega
        case o32 => omega
        have ax_11 : x_11 = byf i1.toNatClampNeg := ex_11.trans (congrFun (hx_afS hM gqb rfl af_qb) _)
        refine hb_icmp_ne (zx := x_10.toInt) (zy := x_11.toInt) (tgt := 90) hx hb rfl rfl dX10_isSplit_30 ?o33 (fun c_12 => ?_) (fun c_12 => ?_)
        case o33 => decide
        · skip
          obtain ⟨x_13, ex_13⟩ : ∃ y : Int32, y = iv8_5 + Int32.ofInt 1 := ⟨_, rfl⟩
          have rg_14 := i32_r iv8_5
          have zx_13 : x_13.toInt = iv8_5.toInt + (1) := ?o34
          case o34 =>
            rw [ex_13]
            refine i32_add rfl ?o35 ?o36 ?o37
            case o35 => decide
            case o36 => omega
            case o37 => omega
          refine lv_iinc (v := x_13) (lv' := [(5, .int x_13), (4, .int iv8_4), (3, .int iv8_3), (0, .ref x), (1, .int i1), (2, .int i2)]) hx hb dX10_isSplit_90 hl (k := 0) rfl ex_13.symm ?o38 rfl (fun ls hl => ?_)
          case o38 => decide
          refine lv_goto (tgt := 8) hx hb dX10_isSplit_93 ?o39 ?_
          case o39 => decide
          refine ih8 iv8_3 iv8_4 x_13 _ _ hL1 hl1 ?o40 ?o41 ?o42 ?o43 ?o44 ?o45 (hv_sct_n vi8_0 (hv_sq_f (fun z => by have h9 := z.1; rw [show byf iv8_5.toInt.toNat = x_10 from ax_10.symm, show byf i1.toNatClampNeg = x_11 from ax_11.symm] at h9; omega)) ?o46 zx_13) (hv_sm_n vi8_1 (hv_sq_f (fun z => by have h9 := z.1; rw [show byf iv8_5.toInt.toNat = x_10 from ax_10.symm, show byf i1.toNatClampNeg = x_11 from ax_11.symm] at h9; omega)) ?o47 zx_13) ?o48 ?o49 ?o50 ls ?o51 hW hT hM   (lv_sub hl [0, 1, 2, 3, 4, 5] rfl)
          case o40 => omega
          case o41 => omega
          case o42 => omega
          case o43 => omega
          case o44 => omega
          case o45 => omega
          case o46 => omega
          case o47 => omega
          case o48 => omega
          case o49 => omega
          case o50 => omega
          case o51 => omega
        · skip
          refine lv_aload_n hx hb dX10_isSplit_33 rfl (lv_at hl 3 rfl) ?_
          refine hk_getr hx hb hts hC_10 hown hW (gx.S hM) tt_10 38 ?o52 rfl kw_1181 ⟨rfl, rfl, rfl⟩ ((hM.o gx trivial rfl).2.trans f_x_38) dX10_isSplit_34 ?_
          case o52 => decide
          refine lv_iload hx hb dX10_isSplit_37 (lv_at hl 0 rfl) ?_
          refine hx_iald hx hb hW hT (gqa.S hM) tt_73 rfl ⟨?o53, ?o54⟩ dX10_isSplit_39 (fun x_15 ex_15 lx_15 ux_15 => ?_)
          case o53 => omega
          case o54 => omega
          have ax_15 : x_15 = agf iv8_5.toNatClampNeg := ex_15.trans (congrFun (hx_afS hM gqa rfl af_qa) _)
          refine lv_aload_n hx hb dX10_isSplit_40 rfl (lv_at hl 3 rfl) ?_
          refine hk_getr hx hb hts hC_10 hown hW (gx.S hM) tt_10 38 ?o55 rfl kw_1181 ⟨rfl, rfl, rfl⟩ ((hM.o gx trivial rfl).2.trans f_x_38) dX10_isSplit_41 ?_
          case o55 => decide
          refine lv_iload_n hx hb dX10_isSplit_44 rfl (lv_at hl 4 rfl) ?_
          refine hx_iald hx hb hW hT (gqa.S hM) tt_73 rfl ⟨?o56, ?o57⟩ dX10_isSplit_45 (fun x_16 ex_16 lx_16 ux_16 => ?_)
          case o56 => omega
          case o57 => omega
          have ax_16 : x_16 = agf i1.toNatClampNeg := ex_16.trans (congrFun (hx_afS hM gqa rfl af_qa) _)
          refine hb_icmp_ne (zx := x_15.toInt) (zy := x_16.toInt) (tgt := 90) hx hb rfl rfl dX10_isSplit_46 ?o58 (fun c_17 => ?_) (fun c_17 => ?_)
          case o58 => decide
          · skip
            obtain ⟨x_18, ex_18⟩ : ∃ y : Int32, y = iv8_5 + Int32.ofInt 1 := ⟨_, rfl⟩
            have rg_19 := i32_r iv8_5
            have zx_18 : x_18.toInt = iv8_5.toInt + (1) := ?o59
            case o59 =>
              rw [ex_18]
              refine i32_add rfl ?o60 ?o61 ?o62
              case o60 => decide
              case o61 => omega
              case o62 => omega
            refine lv_iinc (v := x_18) (lv' := [(5, .int x_18), (4, .int iv8_4), (3, .int iv8_3), (0, .ref x), (1, .int i1), (2, .int i2)]) hx hb dX10_isSplit_90 hl (k := 0) rfl ex_18.symm ?o63 rfl (fun ls hl => ?_)
            case o63 => decide
            refine lv_goto (tgt := 8) hx hb dX10_isSplit_93 ?o64 ?_
            case o64 => decide
            refine ih8 iv8_3 iv8_4 x_18 _ _ hL1 hl1 ?o65 ?o66 ?o67 ?o68 ?o69 ?o70 (hv_sct_n vi8_0 (hv_sq_f (fun z => by have h9 := z.2.1; rw [show agf iv8_5.toInt.toNat = x_15 from ax_15.symm, show agf i1.toNatClampNeg = x_16 from ax_16.symm] at h9; omega)) ?o71 zx_18) (hv_sm_n vi8_1 (hv_sq_f (fun z => by have h9 := z.2.1; rw [show agf iv8_5.toInt.toNat = x_15 from ax_15.symm, show agf i1.toNatClampNeg = x_16 from ax_16.symm] at h9; omega)) ?o72 zx_18) ?o73 ?o74 ?o75 ls ?o76 hW hT hM   (lv_sub hl [0, 1, 2, 3, 4, 5] rfl)
            case o65 => omega
            case o66 => omega
            case o67 => omega
            case o68 => omega
            case o69 => omega
            case o70 => omega
            case o71 => omega
            case o72 => omega
            case o73 => omega
            case o74 => omega
            case o75 => omega
            case o76 => omega
          · skip
            refine lv_aload_n hx hb dX10_isSplit_49 rfl (lv_at hl 3 rfl) ?_
            refine hk_getr hx hb hts hC_10 hown hW (gx.S hM) tt_10 43 ?o77 rfl kw_1186 ⟨rfl, rfl, rfl⟩ ((hM.o gx trivial rfl).2.trans f_x_43) dX10_isSplit_50 ?_
            case o77 => decide
            refine lv_iload hx hb dX10_isSplit_53 (lv_at hl 0 rfl) ?_
            refine hx_iald hx hb hW hT (gqf.S hM) tt_78 rfl ⟨?o78, ?o79⟩ dX10_isSplit_55 (fun x_20 ex_20 lx_20 ux_20 => ?_)
            case o78 => omega
            case o79 => omega
            have ax_20 : x_20 = flf iv8_5.toNatClampNeg := ex_20.trans (congrFun (hx_afS hM gqf rfl af_qf) _)
            refine lv_aload_n hx hb dX10_isSplit_56 rfl (lv_at hl 3 rfl) ?_
            refine hk_getr hx hb hts hC_10 hown hW (gx.S hM) tt_10 43 ?o80 rfl kw_1186 ⟨rfl, rfl, rfl⟩ ((hM.o gx trivial rfl).2.trans f_x_43) dX10_isSplit_57 ?_
            case o80 => decide
            refine lv_iload_n hx hb dX10_isSplit_60 rfl (lv_at hl 4 rfl) ?_
            refine hx_iald hx hb hW hT (gqf.S hM) tt_78 rfl ⟨?o81, ?o82⟩ dX10_isSplit_61 (fun x_21 ex_21 lx_21 ux_21 => ?_)
            case o81 => omega
            case o82 => omega
            have ax_21 : x_21 = flf i1.toNatClampNeg := ex_21.trans (congrFun (hx_afS hM gqf rfl af_qf) _)
            refine lv_aload_n hx hb dX10_isSplit_62 rfl (lv_at hl 3 rfl) ?_
            refine lv_iload_n hx hb dX10_isSplit_63 rfl (lv_at hl 5 rfl) ?_
            refine lv_iconst (v := 1) hx hb dX10_isSplit_64 ?o83 ?_
            case o83 => decide
            have zc_1 : (1 : Int32).toInt = 1 := ?o84
            case o84 => decide
            refine hx_goi (hx_runV (As := [.int i2, .int (1 : Int32)]) (rest := [.int x_21, .int x_20]) ⟨hx, hb, hml, hown, hts⟩ hW (gx.S hM) tt_10 (T := TX10) (N := 98) rfl (t_X10_ruleOf_v l dC dI dA hL1 hl1 H.size x i2 (1 : Int32) hT (gx.S hM) ql (gql.S hM) ((hM.o gx trivial rfl).2.trans f_x_3) rlf (hx_afS hM gql rfl af_ql) ⟨?o85, ?o86⟩ ?o87) (cwV 2 hts (hx_gV kw_1533 kw_1530 kw_1532 kw_66 kw_103) rfl rfl rfl (by decide +kernel) ⟨Nat.le_of_ble_eq_true rfl, Nat.le_of_ble_eq_true rfl⟩) rfl hl.1 rfl (Nat.le_of_ble_eq_true rfl) dX10_isSplit_65 ⟨Nat.le_of_ble_eq_true rfl, Nat.le_of_ble_eq_true rfl⟩) hW (fun r_24 L_22 h_23 H locs p_25 hW => ?_)
            case o85 => omega
            case o86 => omega
            case o87 => decide
            obtain ⟨hr_26, hT, hs⟩ := p_25
            replace hT : hx_T T_tb L_22 h_23 := hT
            replace hs : hx_S T_tb [] hL1 hl1 L_22 h_23 := hs
            replace ex_10 := ex_10.trans (hs.a (gqb.S hM) rfl _).1.symm
            replace ex_11 := ex_11.trans (hs.a (gqb.S hM) rfl _).1.symm
            replace ex_15 := ex_15.trans (hs.a (gqa.S hM) rfl _).1.symm
            replace ex_16 := ex_16.trans (hs.a (gqa.S hM) rfl _).1.symm
            replace ex_20 := ex_20.trans (hs.a (gqf.S hM) rfl _).1.symm
            replace ex_21 := ex_21.trans (hs.a (gqf.S hM) rfl _).1.symm
            replace hM := hM.tr (hs.mono ?o88)
            case o88 => decide
            have hR_27 : r_24.toInt = R 1 := ?o89
            case o89 =>
              rw [hr_26.1, show (1 : Int32).toInt.toNat = 1 from by decide]
              refine hRr 1 ?o90
              case o90 => decide
            refine lv_isub hx hb dX10_isSplit_68 ?_
            have rg_28 := i32_r x_21
            have rg_29 := i32_r r_24
            refine lv_topi (fun x_30 ex_30 => ?_)
            have zx_30 : x_30.toInt = x_21.toInt - r_24.toInt := ?o91
            case o91 =>
              rw [ex_30]
              refine i32_sub rfl rfl ?o92 ?o93
              case o92 => omega
              case o93 => omega
            refine hb_icmp_ge (zx := x_20.toInt) (zy := x_30.toInt) (tgt := 75) hx hb rfl rfl dX10_isSplit_69 ?o94 (fun c_31 => ?_) (fun c_31 => ?_)
            case o94 => decide
            · skip
              obtain ⟨x_32, ex_32⟩ : ∃ y : Int32, y = iv8_3 + Int32.ofInt 1 := ⟨_, rfl⟩
              have rg_33 := i32_r iv8_3
              have zx_32 : x_32.toInt = iv8_3.toInt + (1) := ?o95
              case o95 =>
                rw [ex_32]
                refine i32_add rfl ?o96 ?o97 ?o98
                case o96 => decide
                case o97 => omega
                case o98 => omega
              refine lv_iinc (v := x_32) (lv' := [(3, .int x_32), (5, .int iv8_5), (4, .int iv8_4), (0, .ref x), (1, .int i1), (2, .int i2)]) hx hb dX10_isSplit_75 hl (k := 2) rfl ex_32.symm ?o99 rfl (fun ls hl => ?_)
              case o99 => decide
              refine lv_iload hx hb dX10_isSplit_78 (lv_at hl 2 rfl) ?_
              refine lv_aload_n hx hb dX10_isSplit_80 rfl (lv_at hl 3 rfl) ?_
              refine hk_getr hx hb hts hC_10 hown hW (gx.S hM) tt_10 39 ?o100 rfl kw_1182 ⟨rfl, rfl, rfl⟩ ((hM.o gx trivial rfl).2.trans f_x_39) dX10_isSplit_81 ?_
              case o100 => decide
              refine lv_iload hx hb dX10_isSplit_84 (lv_at hl 1 rfl) ?_
              refine hx_iald hx hb hW hT (gqs.S hM) tt_74 rfl ⟨?o101, ?o102⟩ dX10_isSplit_86 (fun x_34 ex_34 lx_34 ux_34 => ?_)
              case o101 => omega
              case o102 => omega
              have ax_34 : x_34 = smf iv8_5.toNatClampNeg := ex_34.trans (congrFun (hx_afS hM gqs rfl af_qs) _)
              refine lv_iadd hx hb dX10_isSplit_87 ?_
              have rg_35 := i32_r iv8_4
              have rg_36 := i32_r x_34
              refine lv_topi (fun x_37 ex_37 => ?_)
              have zx_37 : x_37.toInt = iv8_4.toInt + x_34.toInt := ?o103
              case o103 =>
                rw [ex_37]
                refine i32_add rfl rfl ?o104 ?o105
                case o104 => omega
                case o105 => omega
              refine lv_istore (lv' := [(4, .int x_37), (3, .int x_32), (5, .int iv8_5), (0, .ref x), (1, .int i1), (2, .int i2)]) hx hb dX10_isSplit_88 hl ?o106 rfl (fun ls hl => ?_)
              case o106 => decide
              obtain ⟨x_38, ex_38⟩ : ∃ y : Int32, y = iv8_5 + Int32.ofInt 1 := ⟨_, rfl⟩
              have rg_39 := i32_r iv8_5
              have zx_38 : x_38.toInt = iv8_5.toInt + (1) := ?o107
              case o107 =>
                rw [ex_38]
                refine i32_add rfl ?o108 ?o109 ?o110
                case o108 => decide
                case o109 => omega
                case o110 => omega
              refine lv_iinc (v := x_38) (lv' := [(5, .int x_38), (4, .int x_37), (3, .int x_32), (0, .ref x), (1, .int i1), (2, .int i2)]) hx hb dX10_isSplit_90 hl (k := 2) rfl ex_38.symm ?o111 rfl (fun ls hl => ?_)
              case o111 => decide
              refine lv_goto (tgt := 8) hx hb dX10_isSplit_93 ?o112 ?_
              case o112 => decide
              refine ih8 x_32 x_37 x_38 _ _ L_22 h_23 ?o113 ?o114 ?o115 ?o116 ?o117 ?o118 (hv_sct_y vi8_0 (hv_sq_t.mpr ⟨(by rw [show byf iv8_5.toInt.toNat = x_10 from ax_10.symm, show byf i1.toNatClampNeg = x_11 from ax_11.symm]; omega), (by rw [show agf iv8_5.toInt.toNat = x_15 from ax_15.symm, show agf i1.toNatClampNeg = x_16 from ax_16.symm]; omega), (by rw [show flf iv8_5.toInt.toNat = x_20 from ax_20.symm, show flf i1.toNatClampNeg = x_21 from ax_21.symm]; omega)⟩) ?o119 ?o120 zx_38) (hv_sm_y (ix := iv8_5.toNatClampNeg) vi8_1 (hv_sq_t.mpr ⟨(by rw [show byf iv8_5.toInt.toNat = x_10 from ax_10.symm, show byf i1.toNatClampNeg = x_11 from ax_11.symm]; omega), (by rw [show agf iv8_5.toInt.toNat = x_15 from ax_15.symm, show agf i1.toNatClampNeg = x_16 from ax_16.symm]; omega), (by rw [show flf iv8_5.toInt.toNat = x_20 from ax_20.symm, show flf i1.toNatClampNeg = x_21 from ax_21.symm]; omega)⟩) ?o121 (by unfold Int32.toNatClampNeg; omega) ax_34 ?o122 zx_38) ?o123 ?o124 ?o125 ls ?o126 hW hT hM   (lv_sub hl [0, 1, 2, 3, 4, 5] rfl)
              case o113 => omega
              case o114 => omega
              case o115 => omega
              case o116 => omega
              case o117 => omega
              case o118 => omega
              case o119 => omega
              case o120 => omega
              case o121 => omega
              case o122 => omega
              case o123 => omega
              case o124 => omega
              case o125 => omega
              case o126 => omega
            · skip
              refine lv_goto (tgt := 90) hx hb dX10_isSplit_72 ?o127 ?_
              case o127 => decide
              obtain ⟨x_40, ex_40⟩ : ∃ y : Int32, y = iv8_5 + Int32.ofInt 1 := ⟨_, rfl⟩
              have rg_41 := i32_r iv8_5
              have zx_40 : x_40.toInt = iv8_5.toInt + (1) := ?o128
              case o128 =>
                rw [ex_40]
                refine i32_add rfl ?o129 ?o130 ?o131
                case o129 => decide
                case o130 => omega
                case o131 => omega
              refine lv_iinc (v := x_40) (lv' := [(5, .int x_40), (4, .int iv8_4), (3, .int iv8_3), (0, .ref x), (1, .int i1), (2, .int i2)]) hx hb dX10_isSplit_90 hl (k := 0) rfl ex_40.symm ?o132 rfl (fun ls hl => ?_)
              case o132 => decide
              refine lv_goto (tgt := 8) hx hb dX10_isSplit_93 ?o133 ?_
              case o133 => decide
              refine ih8 iv8_3 iv8_4 x_40 _ _ L_22 h_23 ?o134 ?o135 ?o136 ?o137 ?o138 ?o139 (hv_sct_n vi8_0 (hv_sq_f (fun z => by have h9 := z.2.2; rw [show flf iv8_5.toInt.toNat = x_20 from ax_20.symm, show flf i1.toNatClampNeg = x_21 from ax_21.symm] at h9; omega)) ?o140 zx_40) (hv_sm_n vi8_1 (hv_sq_f (fun z => by have h9 := z.2.2; rw [show flf iv8_5.toInt.toNat = x_20 from ax_20.symm, show flf i1.toNatClampNeg = x_21 from ax_21.symm] at h9; omega)) ?o141 zx_40) ?o142 ?o143 ?o144 ls ?o145 hW hT hM   (lv_sub hl [0, 1, 2, 3, 4, 5] rfl)
              case o134 => omega
              case o135 => omega
              case o136 => omega
              case o137 => omega
              case o138 => omega
              case o139 => omega
              case o140 => omega
              case o141 => omega
              case o142 => omega
              case o143 => omega
              case o144 => omega
              case o145 => omega
  have zk_0 : (0 : Int32).toInt = 0 := ?o146
  case o146 => decide
  have zk_0 : (0 : Int32).toInt = 0 := ?o147
  case o147 => decide
  have zk_0 : (0 : Int32).toInt = 0 := ?o148
  case o148 => decide
  refine loop8 101 (0 : Int32) (0 : Int32) (0 : Int32) _ _ L h ?o149 ?o150 ?o151 ?o152 ?o153 ?o154 (by rw [zk_0]; rfl) (by rw [zk_0]; rfl) ?o155 ?o156 ?o157 ls ?o158 hW hT hM   hl
  case o149 => decide
  case o150 => decide
  case o151 => decide
  case o152 => decide
  case o153 => decide
  case o154 => decide
  case o155 => omega
  case o156 => omega
  case o157 => omega
  case o158 => omega


set_option maxHeartbeats 4000000 in
set_option maxRecDepth 100000 in
theorem t_X9_judgement_v (l : Launch) (dC : Nat → ClassId) (dI : Nat → Nat → Nat) (dA : Nat → ClassId) (L : List Nat) (h : hx_h) (sz : Nat) (x : Nat) (v1 : Nat) (v2 : Nat) (hT : hx_T T_tb L h) (gx : hx_g L h x 9) (gv1 : hx_g L h v1 2) (gv2 : hx_g L h v2 0) (qp : Nat) (gqp : hx_g L h qp 44) (f_x_7 : h.2.2 x 7 = some qp) (qc : Nat) (gqc : hx_g L h qc 45) (f_x_10 : h.2.2 x 10 = some qc) (qt : Nat) (gqt : hx_g L h qt 11) (f_v2_2 : h.2.2 v2 2 = some qt) (qpr : Nat) (gqpr : hx_g L h qpr 12) (f_v2_3 : h.2.2 v2 3 = some qpr) (qft : Nat) (gqft : hx_g L h qft 20) (f_v1_4 : h.2.2 v1 4 = some qft) (ic : Int32) (eo_v1 : h.2.2 qc ic.toNatClampNeg = some v1) (ob_ic : 0 ≤ ic.toInt ∧ ic.toInt ≤ 99) (tf : Nat → Int32) (af_qt : h.2.1 qt = tf) (prf : Nat → Int32) (af_qpr : h.2.1 qpr = prf) (ff : Nat → Int32) (af_qft : h.2.1 qft = ff) (cn0 : Int32) (f_x_11 : h.2.1 x 11 = cn0) (pn0 : Int32) (f_x_8 : h.2.1 x 8 = pn0) (pl0 : Int32) (f_v2_4 : h.2.1 v2 4 = pl0) (frf : Nat → Int32) (cl_qc_7 : hx_col 100 h qc 7 = frf) (smf : Nat → Int32) (cl_qc_6 : hx_col 100 h qc 6 = smf) (flf : Nat → Int32) (cl_qc_8 : hx_col 100 h qc 8 = flf) (bnf : Nat → Int32) (cl_qp_1 : hx_col 40 h qp 1 = bnf) (nu_qp : hx_num 40 h qp 0 (pn0.toInt)) (agf byf : Nat → Int32) (hDF : hw_DF h qc qp 2 agf cn0.toInt) (hDP : hw_DF h qc qp 1 byf cn0.toInt) (R : Nat → Int) (hR : hv_rC tf = R) (hRb : ∀ k, 0 ≤ R k ∧ R k ≤ 9999) (o : List hv_tok) (hO : hv_OK o) (hls : hv_ls prf pl0.toInt.toNat = o.map hv_cc) (hcn : ic.toInt < cn0.toInt) (pf_x_8 : ∀ j : Nat, (j : Int) < (h.2.1 x 8).toInt → h.2.2 qp j ≠ none) (pf_x_11 : ∀ j : Nat, (j : Int) < (h.2.1 x 11).toInt → h.2.2 qc j ≠ none) : Met l yX9_judgement (Cond.code yX9_judgement cX9_judgement 3 (some .int) :: hx_all) ({ frames := 2, cells := 0, slots := 0, locals := 49 }) (va_Pc [.ref x, .ref v1, .ref v2] (hx_B T_tb (P_ty dA) (dC, dI) vwCl L h sz)) (va_Qi (fun (r : Int32) (u : List Nat × hx_h) => (r.toInt = hv_jg (hv_F0 ff 0) R o (frf ic.toNatClampNeg).toInt (bnf (agf ic.toNatClampNeg).toNatClampNeg).toInt (smf ic.toNatClampNeg).toInt (hv_sm byf agf flf smf (byf ic.toNatClampNeg).toInt (agf ic.toNatClampNeg).toInt ((flf ic.toNatClampNeg).toInt - R 1) cn0.toInt.toNat) ∧ (1 ≤ r.toInt ∧ r.toInt ≤ 5)) ∧ hx_T T_tb u.1 u.2 ∧ hx_S T_tb [] L h u.1 u.2) (hx_E T_tb (P_ty dA) (dC, dI) vwCl (hx_A L sz)) (hx_A L sz)) 0 0 (hx_A L sz) := by
  refine hx_met (lv := [(0, .ref x), (1, .ref v1), (2, .ref v2)]) (by decide +kernel) rfl (Nat.le_of_ble_eq_true rfl) rfl ?_
  intro p e s m below meth c hx hb hml hr hlk hts0 hown hin hsz hW ls hl
  have hts : ∀ w ∈ hx_all, w.before _ s = true := fun w hw => hts0 w (List.mem_cons_of_mem _ hw)
  have hown : s.vm.findClass "SmallCourt" = some m.cls := hown
  have hM : hx_S T_tb [] L h L h := hx_S.rf
  have b_cn0 := hT.gi gx tt_9 (k := 11) rfl
  rw [f_x_11] at b_cn0
  have b_cn0 : 0 ≤ cn0.toInt ∧ cn0.toInt ≤ 100 := b_cn0
  have b_pn0 := hT.gi gx tt_9 (k := 8) rfl
  rw [f_x_8] at b_pn0
  have b_pn0 : 0 ≤ pn0.toInt ∧ pn0.toInt ≤ 40 := b_pn0
  have b_pl0 := hT.gi gv2 tt_0 (k := 4) rfl
  rw [f_v2_4] at b_pl0
  have b_pl0 : 0 ≤ pl0.toInt ∧ pl0.toInt ≤ 160 := b_pl0
  refine lv_aload_n hx hb dX9_judgement_0 rfl (lv_at hl 1 rfl) ?_
  refine hx_geti hx hb hts hC_2 hown hW hT (gv1.S hM) tt_2 7 ?o0 rfl kw_742 ⟨rfl, rfl, rfl⟩ dX9_judgement_1 (fun x_1 ex_1 lx_1 ux_1 => ?_)
  case o0 => decide
  have fx_1 := ex_1.symm
  have cx_1 : x_1 = frf ic.toNatClampNeg := ?o1
  case o1 =>
    rw [ex_1, ← cl_qc_7]
    exact (hx_col_at eo_v1 (by unfold Int32.toNatClampNeg; omega)).symm
  refine lv_aload_n hx hb dX9_judgement_4 rfl (lv_at hl 1 rfl) ?_
  refine hx_getn hx hb hts hC_2 hown hW hT (gv1.S hM) tt_2 2 ?o2 rfl kw_733 ⟨rfl, rfl, rfl⟩ dX9_judgement_5 (fun q_2 fq_2 gq_2 => ?_)
  case o2 => decide
  obtain ⟨dAq_2, dBq_2, dCq_2⟩ := hDF ic.toNatClampNeg (by unfold Int32.toNatClampNeg; omega) (by unfold Int32.toNatClampNeg; omega) _ _ eo_v1 fq_2
  have dAq_2 : 0 ≤ (agf ic.toNatClampNeg).toInt := dAq_2
  have dBq_2 : (agf ic.toNatClampNeg).toInt < 40 := dBq_2
  have dUq_2 : 0 ≤ (agf ic.toInt.toNat).toInt ∧ (agf ic.toInt.toNat).toInt < 40 := ⟨dAq_2, dBq_2⟩
  have eoq_2 : h.2.2 qp (agf ic.toNatClampNeg).toNatClampNeg = some q_2 := dCq_2
  refine hx_geti hx hb hts hC_4 hown hW hT gq_2 tt_4 1 ?o3 rfl kw_614 ⟨rfl, rfl, rfl⟩ dX9_judgement_8 (fun x_3 ex_3 lx_3 ux_3 => ?_)
  case o3 => decide
  have fx_3 := ex_3.symm
  have cx_3 : x_3 = bnf (agf ic.toNatClampNeg).toNatClampNeg := ?o4
  case o4 =>
    rw [ex_3, ← cl_qp_1]
    exact (hx_col_at eoq_2 (by unfold Int32.toNatClampNeg; omega)).symm
  refine lv_sipush (v := 365) hx hb dX9_judgement_11 ?o5 ?_
  case o5 => decide
  refine lv_aload_n hx hb dX9_judgement_14 rfl (lv_at hl 2 rfl) ?_
  refine hk_getr hx hb hts hC_0 hown hW (gv2.S hM) tt_0 2 ?o6 rfl kw_170 ⟨rfl, rfl, rfl⟩ ((hM.o gv2 trivial rfl).2.trans f_v2_2) dX9_judgement_15 ?_
  case o6 => decide
  refine lv_bipush (v := 9) hx hb dX9_judgement_18 ?o7 ?_
  case o7 => decide
  refine hx_iald hx hb hW hT (gqt.S hM) tt_11 rfl ?o8 dX9_judgement_20 (fun x_4 ex_4 lx_4 ux_4 => ?_)
  case o8 => decide
  have ax_4 : x_4 = tf (9 : Int32).toNatClampNeg := ex_4.trans (congrFun (hx_afS hM gqt rfl af_qt) _)
  have hR_5 : x_4.toInt = R 8 := ?o9
  case o9 =>
    rw [← hR, ax_4, show (9 : Int32).toNatClampNeg = 9 from by decide]
    rfl
  have hR_5b := hRb 8
  rw [← hR_5] at hR_5b
  refine lv_imul hx hb dX9_judgement_21 ?_
  refine lv_topi (fun x_6 ex_6 => ?_)
  have zx_6 : x_6.toInt = 365 * x_4.toInt := ?o10
  case o10 =>
    rw [ex_6]
    refine i32_mul ?o11 rfl rfl ?o12 ?o13
    case o11 => decide
    case o12 => omega
    case o13 => omega
  refine lv_iadd hx hb dX9_judgement_22 ?_
  have rg_7 := i32_r x_3
  have rg_8 := i32_r x_6
  refine lv_topi (fun x_9 ex_9 => ?_)
  have zx_9 : x_9.toInt = x_3.toInt + x_6.toInt := ?o14
  case o14 =>
    rw [ex_9]
    refine i32_add rfl rfl ?o15 ?o16
    case o15 => omega
    case o16 => omega
  refine hb_icmp_ge (zx := x_1.toInt) (zy := x_9.toInt) (tgt := 28) hx hb rfl rfl dX9_judgement_23 ?o17 (fun c_10 => ?_) (fun c_10 => ?_)
  case o17 => decide
  · skip
    refine lv_aload_n hx hb dX9_judgement_28 rfl (lv_at hl 1 rfl) ?_
    refine hx_geti hx hb hts hC_2 hown hW hT (gv1.S hM) tt_2 6 ?o18 rfl kw_741 ⟨rfl, rfl, rfl⟩ dX9_judgement_29 (fun x_11 ex_11 lx_11 ux_11 => ?_)
    case o18 => decide
    have fx_11 := ex_11.symm
    have cx_11 : x_11 = smf ic.toNatClampNeg := ?o19
    case o19 =>
      rw [ex_11, ← cl_qc_6]
      exact (hx_col_at eo_v1 (by unfold Int32.toNatClampNeg; omega)).symm
    refine lv_aload_n hx hb dX9_judgement_32 rfl (lv_at hl 2 rfl) ?_
    refine hk_getr hx hb hts hC_0 hown hW (gv2.S hM) tt_0 2 ?o20 rfl kw_170 ⟨rfl, rfl, rfl⟩ ((hM.o gv2 trivial rfl).2.trans f_v2_2) dX9_judgement_33 ?_
    case o20 => decide
    refine lv_iconst (v := 1) hx hb dX9_judgement_36 ?o21 ?_
    case o21 => decide
    refine hx_iald hx hb hW hT (gqt.S hM) tt_11 rfl ?o22 dX9_judgement_37 (fun x_12 ex_12 lx_12 ux_12 => ?_)
    case o22 => decide
    have ax_12 : x_12 = tf (1 : Int32).toNatClampNeg := ex_12.trans (congrFun (hx_afS hM gqt rfl af_qt) _)
    have hR_13 : x_12.toInt = R 0 := ?o23
    case o23 =>
      rw [← hR, ax_12, show (1 : Int32).toNatClampNeg = 1 from by decide]
      rfl
    have hR_13b := hRb 0
    rw [← hR_13] at hR_13b
    refine hb_icmp_le (zx := x_11.toInt) (zy := x_12.toInt) (tgt := 43) hx hb rfl rfl dX9_judgement_38 ?o24 (fun c_14 => ?_) (fun c_14 => ?_)
    case o24 => decide
    · skip
      refine lv_aload_n hx hb dX9_judgement_43 rfl (lv_at hl 0 rfl) ?_
      refine lv_aload_n hx hb dX9_judgement_44 rfl (lv_at hl 1 rfl) ?_
      refine lv_aload_n hx hb dX9_judgement_45 rfl (lv_at hl 2 rfl) ?_
      have hTo := hT
      refine hx_goi (hx_runV (As := [.ref v1, .ref v2]) (rest := []) ⟨hx, hb, hml, hown, hts⟩ hW gx tt_9 (T := TX9) (N := 20) rfl (t_X9_sumOfSplit_v l dC dI dA L h s.heap.size x v1 v2 hT gx (gv1.S hM) (gv2.S hM) qp gqp f_x_7 qc gqc f_x_10 qt (gqt.S hM) ((hM.o gv2 trivial rfl).2.trans f_v2_2) ic eo_v1 ⟨?o25, ?o26⟩ tf (hx_afS hM gqt rfl af_qt) cn0 f_x_11 pn0 f_x_8 smf cl_qc_6 flf cl_qc_8 nu_qp agf byf hDF hDP R hR hRb ?o27 pf_x_8 pf_x_11) (cwV 2 hts (hx_gV kw_834 kw_831 kw_833 kw_29 kw_94) rfl rfl rfl (by decide +kernel) ⟨Nat.le_of_ble_eq_true rfl, Nat.le_of_ble_eq_true rfl⟩) rfl hl.1 rfl (Nat.le_of_ble_eq_true rfl) dX9_judgement_46 ⟨Nat.le_of_ble_eq_true rfl, Nat.le_of_ble_eq_true rfl⟩) hW (fun r_17 L_15 h_16 H locs p_18 hW => ?_)
      case o25 => omega
      case o26 => omega
      case o27 => omega
      obtain ⟨hr_19, hT, hs⟩ := p_18
      replace hT : hx_T T_tb L_15 h_16 := hT
      replace hs : hx_S T_tb [] L h L_15 h_16 := hs
      replace f_x_7 := (hs.o gx trivial rfl).2.trans f_x_7
      replace f_x_10 := (hs.o gx trivial rfl).2.trans f_x_10
      replace f_x_11 := (hs.o gx trivial rfl).1.trans f_x_11
      replace f_x_8 := (hs.o gx trivial rfl).1.trans f_x_8
      replace fx_1 := (hs.o (gv1.S hM) trivial rfl).1.trans fx_1
      replace fq_2 := (hs.o (gv1.S hM) trivial rfl).2.trans fq_2
      replace fx_3 := (hs.o gq_2 trivial rfl).1.trans fx_3
      replace fx_11 := (hs.o (gv1.S hM) trivial rfl).1.trans fx_11
      replace pf_x_8 : ∀ j : Nat, (j : Int) < (h_16.2.1 x 8).toInt → h_16.2.2 qp j ≠ none := by
        intro j hj; rw [(hs.o gx trivial rfl).1] at hj; rw [(hs.a gqp rfl j).2]; exact pf_x_8 j hj
      replace pf_x_11 : ∀ j : Nat, (j : Int) < (h_16.2.1 x 11).toInt → h_16.2.2 qc j ≠ none := by
        intro j hj; rw [(hs.o gx trivial rfl).1] at hj; rw [(hs.a gqc rfl j).2]; exact pf_x_11 j hj
      replace cl_qc_7 : hx_col 100 h_16 qc 7 = frf := (hx_col_S hs hTo gqc tt_45 tt_2 rfl rfl).trans cl_qc_7
      replace cl_qc_6 : hx_col 100 h_16 qc 6 = smf := (hx_col_S hs hTo gqc tt_45 tt_2 rfl rfl).trans cl_qc_6
      replace cl_qc_8 : hx_col 100 h_16 qc 8 = flf := (hx_col_S hs hTo gqc tt_45 tt_2 rfl rfl).trans cl_qc_8
      replace cl_qp_1 : hx_col 40 h_16 qp 1 = bnf := (hx_col_S hs hTo gqp tt_44 tt_4 rfl rfl).trans cl_qp_1
      replace nu_qp : hx_num 40 h_16 qp 0 (pn0.toInt) := hx_num_S hs hTo gqp tt_44 tt_4 rfl rfl nu_qp
      replace hDF : hw_DF h_16 qc qp 2 agf cn0.toInt := hw_DF_S hs hTo gqc gqp tt_45 tt_2 rfl rfl rfl hDF
      replace hDP : hw_DF h_16 qc qp 1 byf cn0.toInt := hw_DF_S hs hTo gqc gqp tt_45 tt_2 rfl rfl rfl hDP
      replace eo_v1 := (hs.a gqc rfl _).2.trans eo_v1
      replace eoq_2 := (hs.a gqp rfl _).2.trans eoq_2
      replace ex_4 := ex_4.trans (hs.a (gqt.S hM) rfl _).1.symm
      replace ex_12 := ex_12.trans (hs.a (gqt.S hM) rfl _).1.symm
      replace hM := hM.tr (hs.mono ?o28)
      case o28 => decide
      replace gx := gx.S hs
      replace gqp := gqp.S hs
      replace gqc := gqc.S hs
      replace gq_2 := gq_2.S hs
      refine lv_aload_n hx hb dX9_judgement_49 rfl (lv_at hl 2 rfl) ?_
      refine hk_getr hx hb hts hC_0 hown hW (gv2.S hM) tt_0 2 ?o29 rfl kw_170 ⟨rfl, rfl, rfl⟩ ((hM.o gv2 trivial rfl).2.trans f_v2_2) dX9_judgement_50 ?_
      case o29 => decide
      refine lv_iconst (v := 1) hx hb dX9_judgement_53 ?o30 ?_
      case o30 => decide
      refine hx_iald hx hb hW hT (gqt.S hM) tt_11 rfl ?o31 dX9_judgement_54 (fun x_20 ex_20 lx_20 ux_20 => ?_)
      case o31 => decide
      have ax_20 : x_20 = tf (1 : Int32).toNatClampNeg := ex_20.trans (congrFun (hx_afS hM gqt rfl af_qt) _)
      obtain rfl : x_12 = x_20 := ex_12.trans ex_20.symm
      have hR_21 : x_12.toInt = R 0 := ?o32
      case o32 =>
        rw [← hR, ax_12, show (1 : Int32).toNatClampNeg = 1 from by decide]
        rfl
      have hR_21b := hRb 0
      rw [← hR_21] at hR_21b
      refine hb_icmp_le (zx := r_17.toInt) (zy := x_12.toInt) (tgt := 60) hx hb rfl rfl dX9_judgement_55 ?o33 (fun c_22 => ?_) (fun c_22 => ?_)
      case o33 => decide
      · skip
        refine lv_aload_n hx hb dX9_judgement_60 rfl (lv_at hl 2 rfl) ?_
        refine lv_aload_n hx hb dX9_judgement_61 rfl (lv_at hl 1 rfl) ?_
        refine hk_getr hx hb hts hC_2 hown hW (gv1.S hM) tt_2 4 ?o34 rfl kw_738 ⟨rfl, rfl, rfl⟩ ((hM.o gv1 trivial rfl).2.trans f_v1_4) dX9_judgement_62 ?_
        case o34 => decide
        have hTo := hT
        refine hx_goi (hx_runV (As := [.ref qft]) (rest := []) ⟨hx, hb, hml, hown, hts⟩ hW (gv2.S hM) tt_0 (T := TX0) (N := 5) rfl (t_X0_proves_v l dC dI dA L_15 h_16 H.size v2 qft hT (gv2.S hM) (gqft.S hM) qpr (gqpr.S hM) ((hM.o gv2 trivial rfl).2.trans f_v2_3) ff (hx_afS hM gqft rfl af_qft) prf (hx_afS hM gqpr rfl af_qpr) pl0 ((hM.o gv2 trivial rfl).1.trans f_v2_4) o hO hls) (cwV 1 hts (hx_gV kw_838 kw_835 kw_836 kw_837 kw_96) rfl rfl rfl (by decide +kernel) ⟨Nat.le_of_ble_eq_true rfl, Nat.le_of_ble_eq_true rfl⟩) rfl hl.1 rfl (Nat.le_of_ble_eq_true rfl) dX9_judgement_65 ⟨Nat.le_of_ble_eq_true rfl, Nat.le_of_ble_eq_true rfl⟩) hW (fun r_25 L_23 h_24 H locs p_26 hW => ?_)
        obtain ⟨hr_27, hT, hs⟩ := p_26
        replace hT : hx_T T_tb L_23 h_24 := hT
        replace hs : hx_S T_tb [] L_15 h_16 L_23 h_24 := hs
        replace f_x_7 := (hs.o gx trivial rfl).2.trans f_x_7
        replace f_x_10 := (hs.o gx trivial rfl).2.trans f_x_10
        replace f_x_11 := (hs.o gx trivial rfl).1.trans f_x_11
        replace f_x_8 := (hs.o gx trivial rfl).1.trans f_x_8
        replace fx_1 := (hs.o (gv1.S hM) trivial rfl).1.trans fx_1
        replace fq_2 := (hs.o (gv1.S hM) trivial rfl).2.trans fq_2
        replace fx_3 := (hs.o gq_2 trivial rfl).1.trans fx_3
        replace fx_11 := (hs.o (gv1.S hM) trivial rfl).1.trans fx_11
        replace pf_x_8 : ∀ j : Nat, (j : Int) < (h_24.2.1 x 8).toInt → h_24.2.2 qp j ≠ none := by
          intro j hj; rw [(hs.o gx trivial rfl).1] at hj; rw [(hs.a gqp rfl j).2]; exact pf_x_8 j hj
        replace pf_x_11 : ∀ j : Nat, (j : Int) < (h_24.2.1 x 11).toInt → h_24.2.2 qc j ≠ none := by
          intro j hj; rw [(hs.o gx trivial rfl).1] at hj; rw [(hs.a gqc rfl j).2]; exact pf_x_11 j hj
        replace cl_qc_7 : hx_col 100 h_24 qc 7 = frf := (hx_col_S hs hTo gqc tt_45 tt_2 rfl rfl).trans cl_qc_7
        replace cl_qc_6 : hx_col 100 h_24 qc 6 = smf := (hx_col_S hs hTo gqc tt_45 tt_2 rfl rfl).trans cl_qc_6
        replace cl_qc_8 : hx_col 100 h_24 qc 8 = flf := (hx_col_S hs hTo gqc tt_45 tt_2 rfl rfl).trans cl_qc_8
        replace cl_qp_1 : hx_col 40 h_24 qp 1 = bnf := (hx_col_S hs hTo gqp tt_44 tt_4 rfl rfl).trans cl_qp_1
        replace nu_qp : hx_num 40 h_24 qp 0 (pn0.toInt) := hx_num_S hs hTo gqp tt_44 tt_4 rfl rfl nu_qp
        replace hDF : hw_DF h_24 qc qp 2 agf cn0.toInt := hw_DF_S hs hTo gqc gqp tt_45 tt_2 rfl rfl rfl hDF
        replace hDP : hw_DF h_24 qc qp 1 byf cn0.toInt := hw_DF_S hs hTo gqc gqp tt_45 tt_2 rfl rfl rfl hDP
        replace eo_v1 := (hs.a gqc rfl _).2.trans eo_v1
        replace eoq_2 := (hs.a gqp rfl _).2.trans eoq_2
        replace ex_4 := ex_4.trans (hs.a (gqt.S hM) rfl _).1.symm
        replace ex_12 := ex_12.trans (hs.a (gqt.S hM) rfl _).1.symm
        replace hM := hM.tr (hs.mono ?o35)
        case o35 => decide
        replace gx := gx.S hs
        replace gqp := gqp.S hs
        replace gqc := gqc.S hs
        replace gq_2 := gq_2.S hs
        refine hb_if_eq (zx := r_25.toInt) (tgt := 75) hx hb rfl dX9_judgement_68 ?o36 (fun c_28 => ?_) (fun c_28 => ?_)
        case o36 => decide
        · skip
          refine lv_iconst (v := 4) hx hb dX9_judgement_75 ?o37 ?_
          case o37 => decide
          refine hx_reti hx hb hr hlk hW ⟨⟨(hv_jg_4 (by rw [← cx_1, ← cx_3]; omega) (by rw [← cx_11]; omega) (by rw [← hr_19.1]; omega) (Or.inr ⟨?o38, (by rcases hr_27 with z | z; (exfalso; omega); exact z.2)⟩)), ?o39, ?o40⟩, hT, hM⟩ dX9_judgement_76
          case o38 => decide
          case o39 => decide
          case o40 => decide
        · skip
          refine lv_iconst (v := 5) hx hb dX9_judgement_71 ?o41 ?_
          case o41 => decide
          refine lv_goto (tgt := 76) hx hb dX9_judgement_72 ?o42 ?_
          case o42 => decide
          refine hx_reti hx hb hr hlk hW ⟨⟨(hv_jg_4 (by rw [← cx_1, ← cx_3]; omega) (by rw [← cx_11]; omega) (by rw [← hr_19.1]; omega) (Or.inl ⟨?o43, (by rcases hr_27 with z | z; exact z.2; exfalso; omega)⟩)), ?o44, ?o45⟩, hT, hM⟩ dX9_judgement_76
          case o43 => decide
          case o44 => decide
          case o45 => decide
      · skip
        refine lv_iconst (v := 3) hx hb dX9_judgement_58 ?o46 ?_
        case o46 => decide
        refine hx_reti hx hb hr hlk hW ⟨⟨(hv_jg_3 (by rw [← cx_1, ← cx_3]; omega) (by rw [← cx_11]; omega) (by rw [← hr_19.1]; omega) ?o47), ?o48, ?o49⟩, hT, hM⟩ dX9_judgement_59
        case o47 => decide
        case o48 => decide
        case o49 => decide
    · skip
      refine lv_iconst (v := 2) hx hb dX9_judgement_41 ?o50 ?_
      case o50 => decide
      refine hx_reti hx hb hr hlk hW ⟨⟨(hv_jg_2 (by rw [← cx_1, ← cx_3]; omega) (by rw [← cx_11]; omega) ?o51), ?o52, ?o53⟩, hT, hM⟩ dX9_judgement_42
      case o51 => decide
      case o52 => decide
      case o53 => decide
  · skip
    refine lv_iconst (v := 1) hx hb dX9_judgement_26 ?o54 ?_
    case o54 => decide
    refine hx_reti hx hb hr hlk hW ⟨⟨(hv_jg_1 (by rw [← cx_1, ← cx_3]; omega) ?o55), ?o56, ?o57⟩, hT, hM⟩ dX9_judgement_27
    case o55 => decide
    case o56 => decide
    case o57 => decide


set_option maxHeartbeats 4000000 in
set_option maxRecDepth 100000 in
theorem t_X10_judges_v (l : Launch) (dC : Nat → ClassId) (dI : Nat → Nat → Nat) (dA : Nat → ClassId) (L : List Nat) (h : hx_h) (sz : Nat) (x : Nat) (i1 : Int32) (i2 : Int32) (hT : hx_T T_tb L h) (gx : hx_g L h x 10) (qb : Nat) (gqb : hx_g L h qb 72) (f_x_37 : h.2.2 x 37 = some qb) (qa : Nat) (gqa : hx_g L h qa 73) (f_x_38 : h.2.2 x 38 = some qa) (qf : Nat) (gqf : hx_g L h qf 78) (f_x_43 : h.2.2 x 43 = some qf) (qs : Nat) (gqs : hx_g L h qs 74) (f_x_39 : h.2.2 x 39 = some qs) (ql : Nat) (gql : hx_g L h ql 50) (f_x_3 : h.2.2 x 3 = some ql) (qo : Nat) (gqo : hx_g L h qo 75) (f_x_40 : h.2.2 x 40 = some qo) (qbn : Nat) (gqbn : hx_g L h qbn 58) (f_x_21 : h.2.2 x 21 = some qbn) (qn : Nat) (gqn : hx_g L h qn 51) (f_x_4 : h.2.2 x 4 = some qn) (qp : Nat) (gqp : hx_g L h qp 52) (f_x_5 : h.2.2 x 5 = some qp) (qk : Nat) (gqk : hx_g L h qk 99) (f_x_66 : h.2.2 x 66 = some qk) (qft : Nat) (gqft : hx_g L h qft 88) (f_x_53 : h.2.2 x 53 = some qft) (byf : Nat → Int32) (af_qb : h.2.1 qb = byf) (agf : Nat → Int32) (af_qa : h.2.1 qa = agf) (flf : Nat → Int32) (af_qf : h.2.1 qf = flf) (smf : Nat → Int32) (af_qs : h.2.1 qs = smf) (rlf : Nat → Int32) (af_ql : h.2.1 ql = rlf) (frf : Nat → Int32) (af_qo : h.2.1 qo = frf) (bnf : Nat → Int32) (af_qbn : h.2.1 qbn = bnf) (psf : Nat → Int32) (af_qn : h.2.1 qn = psf) (prf : Nat → Int32) (af_qp : h.2.1 qp = prf) (skf : Nat → Int32) (af_qk : h.2.1 qk = skf) (rf : Nat → Int32) (af_qft : h.2.1 qft = rf) (c0 : Int32) (f_x_36 : h.2.1 x 36 = c0) (hi1 : 0 ≤ i1.toInt ∧ i1.toInt < c0.toInt) (hi2 : 0 ≤ i2.toInt ∧ i2.toInt ≤ 8) (R : Nat → Int) (hRr : ∀ k : Nat, k ≤ 12 → (rlf (13 * i2.toInt.toNat + k)).toInt = R k) (hRb : ∀ k, 0 ≤ R k ∧ R k ≤ 9999) (o : List hv_tok) (hO : hv_OK o) (hls : hv_ls (fun i => prf (128 * i2.toInt.toNat + i)) (psf i2.toInt.toNat).toInt.toNat = o.map hv_rc) (hps : (psf i2.toInt.toNat).toInt ≤ 128) : Met l yX10_judges (Cond.code yX10_judges cX10_judges 3 (some .int) :: hx_all) ({ frames := 2, cells := 0, slots := 0, locals := 50 }) (va_Pc [.ref x, .int i1, .int i2] (hx_B T_tb (P_ty dA) (dC, dI) vwCl L h sz)) (va_Qi (fun (r : Int32) (u : List Nat × hx_h) => (r.toInt = hv_jg (hv_F0 rf (8 * i1.toInt.toNat)) R o (frf i1.toNatClampNeg).toInt (bnf (agf i1.toNatClampNeg).toNatClampNeg).toInt (smf i1.toNatClampNeg).toInt (hv_sm byf agf flf smf (byf i1.toNatClampNeg).toInt (agf i1.toNatClampNeg).toInt ((flf i1.toNatClampNeg).toInt - R 1) c0.toInt.toNat) ∧ (1 ≤ r.toInt ∧ r.toInt ≤ 5)) ∧ hx_T T_tb u.1 u.2 ∧ hx_S T_tb [(99, 0)] L h u.1 u.2) (hx_E T_tb (P_ty dA) (dC, dI) vwCl (hx_A L sz)) (hx_A L sz)) 0 0 (hx_A L sz) := by
  refine hx_met (lv := [(0, .ref x), (1, .int i1), (2, .int i2)]) (by decide +kernel) rfl (Nat.le_of_ble_eq_true rfl) rfl ?_
  intro p e s m below meth c hx hb hml hr hlk hts0 hown hin hsz hW ls hl
  have hts : ∀ w ∈ hx_all, w.before _ s = true := fun w hw => hts0 w (List.mem_cons_of_mem _ hw)
  have hown : s.vm.findClass "SmallCourtModel" = some m.cls := hown
  have hM : hx_S T_tb [(99, 0)] L h L h := hx_S.rf
  have b_c0 := hT.gi gx tt_10 (k := 36) rfl
  rw [f_x_36] at b_c0
  have b_c0 : 0 ≤ c0.toInt ∧ c0.toInt ≤ 100 := b_c0
  refine lv_aload_n hx hb dX10_judges_0 rfl (lv_at hl 0 rfl) ?_
  refine hk_getr hx hb hts hC_10 hown hW (gx.S hM) tt_10 40 ?o0 rfl kw_1183 ⟨rfl, rfl, rfl⟩ ((hM.o gx trivial rfl).2.trans f_x_40) dX10_judges_1 ?_
  case o0 => decide
  refine lv_iload_n hx hb dX10_judges_4 rfl (lv_at hl 1 rfl) ?_
  refine hx_iald hx hb hW hT (gqo.S hM) tt_75 rfl ⟨?o1, ?o2⟩ dX10_judges_5 (fun x_1 ex_1 lx_1 ux_1 => ?_)
  case o1 => omega
  case o2 => omega
  have ax_1 : x_1 = frf i1.toNatClampNeg := ex_1.trans (congrFun (hx_afS hM gqo rfl af_qo) _)
  refine lv_aload_n hx hb dX10_judges_6 rfl (lv_at hl 0 rfl) ?_
  refine hk_getr hx hb hts hC_10 hown hW (gx.S hM) tt_10 21 ?o3 rfl kw_1164 ⟨rfl, rfl, rfl⟩ ((hM.o gx trivial rfl).2.trans f_x_21) dX10_judges_7 ?_
  case o3 => decide
  refine lv_aload_n hx hb dX10_judges_10 rfl (lv_at hl 0 rfl) ?_
  refine hk_getr hx hb hts hC_10 hown hW (gx.S hM) tt_10 38 ?o4 rfl kw_1181 ⟨rfl, rfl, rfl⟩ ((hM.o gx trivial rfl).2.trans f_x_38) dX10_judges_11 ?_
  case o4 => decide
  refine lv_iload_n hx hb dX10_judges_14 rfl (lv_at hl 1 rfl) ?_
  refine hx_iald hx hb hW hT (gqa.S hM) tt_73 rfl ⟨?o5, ?o6⟩ dX10_judges_15 (fun x_2 ex_2 lx_2 ux_2 => ?_)
  case o5 => omega
  case o6 => omega
  have ax_2 : x_2 = agf i1.toNatClampNeg := ex_2.trans (congrFun (hx_afS hM gqa rfl af_qa) _)
  refine hx_iald hx hb hW hT (gqbn.S hM) tt_58 rfl ⟨?o7, ?o8⟩ dX10_judges_16 (fun x_3 ex_3 lx_3 ux_3 => ?_)
  case o7 => omega
  case o8 => omega
  have ax_3 : x_3 = bnf x_2.toNatClampNeg := ex_3.trans (congrFun (hx_afS hM gqbn rfl af_qbn) _)
  have cbo9 : x_3 = bnf (agf i1.toNatClampNeg).toNatClampNeg := ?o9
  case o9 => rw [ax_3, ← ax_2]
  refine lv_isub hx hb dX10_judges_17 ?_
  have rg_4 := i32_r x_1
  have rg_5 := i32_r x_3
  refine lv_topi (fun x_6 ex_6 => ?_)
  have zx_6 : x_6.toInt = x_1.toInt - x_3.toInt := ?o10
  case o10 =>
    rw [ex_6]
    refine i32_sub rfl rfl ?o11 ?o12
    case o11 => omega
    case o12 => omega
  refine lv_sipush (v := 365) hx hb dX10_judges_18 ?o13 ?_
  case o13 => decide
  refine lv_aload_n hx hb dX10_judges_21 rfl (lv_at hl 0 rfl) ?_
  refine lv_iload_n hx hb dX10_judges_22 rfl (lv_at hl 2 rfl) ?_
  refine lv_bipush (v := 8) hx hb dX10_judges_23 ?o14 ?_
  case o14 => decide
  have zc_8 : (8 : Int32).toInt = 8 := ?o15
  case o15 => decide
  have zc_365 : (365 : Int32).toInt = 365 := ?o16
  case o16 => decide
  refine hx_goi (hx_runV (As := [.int i2, .int (8 : Int32)]) (rest := [.int (365 : Int32), .int x_6]) ⟨hx, hb, hml, hown, hts⟩ hW (gx.S hM) tt_10 (T := TX10) (N := 98) rfl (t_X10_ruleOf_v l dC dI dA L h s.heap.size x i2 (8 : Int32) hT (gx.S hM) ql (gql.S hM) ((hM.o gx trivial rfl).2.trans f_x_3) rlf (hx_afS hM gql rfl af_ql) ⟨?o17, ?o18⟩ ?o19) (cwV 2 hts (hx_gV kw_1533 kw_1530 kw_1532 kw_66 kw_103) rfl rfl rfl (by decide +kernel) ⟨Nat.le_of_ble_eq_true rfl, Nat.le_of_ble_eq_true rfl⟩) rfl hl.1 rfl (Nat.le_of_ble_eq_true rfl) dX10_judges_25 ⟨Nat.le_of_ble_eq_true rfl, Nat.le_of_ble_eq_true rfl⟩) hW (fun r_9 L_7 h_8 H locs p_10 hW => ?_)
  case o17 => omega
  case o18 => omega
  case o19 => decide
  obtain ⟨hr_11, hT, hs⟩ := p_10
  replace hT : hx_T T_tb L_7 h_8 := hT
  replace hs : hx_S T_tb [] L h L_7 h_8 := hs
  replace af_qk : h_8.2.1 qk = skf := (funext fun j => (hs.a (gqk.S hM) rfl j).1).trans af_qk
  replace ex_1 := ex_1.trans (hs.a (gqo.S hM) rfl _).1.symm
  replace ex_2 := ex_2.trans (hs.a (gqa.S hM) rfl _).1.symm
  replace ex_3 := ex_3.trans (hs.a (gqbn.S hM) rfl _).1.symm
  replace hM := hM.tr (hs.mono ?o20)
  case o20 => decide
  have hR_12 : r_9.toInt = R 8 := ?o21
  case o21 =>
    rw [hr_11.1, show (8 : Int32).toInt.toNat = 8 from by decide]
    refine hRr 8 ?o22
    case o22 => decide
  refine lv_imul hx hb dX10_judges_28 ?_
  refine lv_topi (fun x_13 ex_13 => ?_)
  have zx_13 : x_13.toInt = 365 * r_9.toInt := ?o23
  case o23 =>
    rw [ex_13]
    refine i32_mul ?o24 rfl rfl ?o25 ?o26
    case o24 => decide
    case o25 => omega
    case o26 => omega
  refine hb_icmp_ge (zx := x_6.toInt) (zy := x_13.toInt) (tgt := 34) hx hb rfl rfl dX10_judges_29 ?o27 (fun c_14 => ?_) (fun c_14 => ?_)
  case o27 => decide
  · skip
    refine lv_aload_n hx hb dX10_judges_34 rfl (lv_at hl 0 rfl) ?_
    refine hk_getr hx hb hts hC_10 hown hW (gx.S hM) tt_10 39 ?o28 rfl kw_1182 ⟨rfl, rfl, rfl⟩ ((hM.o gx trivial rfl).2.trans f_x_39) dX10_judges_35 ?_
    case o28 => decide
    refine lv_iload_n hx hb dX10_judges_38 rfl (lv_at hl 1 rfl) ?_
    refine hx_iald hx hb hW hT (gqs.S hM) tt_74 rfl ⟨?o29, ?o30⟩ dX10_judges_39 (fun x_15 ex_15 lx_15 ux_15 => ?_)
    case o29 => omega
    case o30 => omega
    have ax_15 : x_15 = smf i1.toNatClampNeg := ex_15.trans (congrFun (hx_afS hM gqs rfl af_qs) _)
    refine lv_aload_n hx hb dX10_judges_40 rfl (lv_at hl 0 rfl) ?_
    refine lv_iload_n hx hb dX10_judges_41 rfl (lv_at hl 2 rfl) ?_
    refine lv_iconst (v := 0) hx hb dX10_judges_42 ?o31 ?_
    case o31 => decide
    have zc_0 : (0 : Int32).toInt = 0 := ?o32
    case o32 => decide
    refine hx_goi (hx_runV (As := [.int i2, .int (0 : Int32)]) (rest := [.int x_15]) ⟨hx, hb, hml, hown, hts⟩ hW (gx.S hM) tt_10 (T := TX10) (N := 98) rfl (t_X10_ruleOf_v l dC dI dA L_7 h_8 H.size x i2 (0 : Int32) hT (gx.S hM) ql (gql.S hM) ((hM.o gx trivial rfl).2.trans f_x_3) rlf (hx_afS hM gql rfl af_ql) ⟨?o33, ?o34⟩ ?o35) (cwV 2 hts (hx_gV kw_1533 kw_1530 kw_1532 kw_66 kw_103) rfl rfl rfl (by decide +kernel) ⟨Nat.le_of_ble_eq_true rfl, Nat.le_of_ble_eq_true rfl⟩) rfl hl.1 rfl (Nat.le_of_ble_eq_true rfl) dX10_judges_43 ⟨Nat.le_of_ble_eq_true rfl, Nat.le_of_ble_eq_true rfl⟩) hW (fun r_18 L_16 h_17 H locs p_19 hW => ?_)
    case o33 => omega
    case o34 => omega
    case o35 => decide
    obtain ⟨hr_20, hT, hs⟩ := p_19
    replace hT : hx_T T_tb L_16 h_17 := hT
    replace hs : hx_S T_tb [] L_7 h_8 L_16 h_17 := hs
    replace af_qk : h_17.2.1 qk = skf := (funext fun j => (hs.a (gqk.S hM) rfl j).1).trans af_qk
    replace ex_1 := ex_1.trans (hs.a (gqo.S hM) rfl _).1.symm
    replace ex_2 := ex_2.trans (hs.a (gqa.S hM) rfl _).1.symm
    replace ex_3 := ex_3.trans (hs.a (gqbn.S hM) rfl _).1.symm
    replace ex_15 := ex_15.trans (hs.a (gqs.S hM) rfl _).1.symm
    replace hM := hM.tr (hs.mono ?o36)
    case o36 => decide
    have hR_21 : r_18.toInt = R 0 := ?o37
    case o37 =>
      rw [hr_20.1, show (0 : Int32).toInt.toNat = 0 from by decide]
      refine hRr 0 ?o38
      case o38 => decide
    refine hb_icmp_le (zx := x_15.toInt) (zy := r_18.toInt) (tgt := 51) hx hb rfl rfl dX10_judges_46 ?o39 (fun c_22 => ?_) (fun c_22 => ?_)
    case o39 => decide
    · skip
      refine lv_aload_n hx hb dX10_judges_51 rfl (lv_at hl 0 rfl) ?_
      refine lv_iload_n hx hb dX10_judges_52 rfl (lv_at hl 1 rfl) ?_
      refine lv_iload_n hx hb dX10_judges_53 rfl (lv_at hl 2 rfl) ?_
      refine hx_goi (hx_runV (As := [.int i1, .int i2]) (rest := []) ⟨hx, hb, hml, hown, hts⟩ hW (gx.S hM) tt_10 (T := TX10) (N := 98) rfl (t_X10_isSplit_v l dC dI dA L_16 h_17 H.size x i1 i2 hT (gx.S hM) qb (gqb.S hM) ((hM.o gx trivial rfl).2.trans f_x_37) qa (gqa.S hM) ((hM.o gx trivial rfl).2.trans f_x_38) qf (gqf.S hM) ((hM.o gx trivial rfl).2.trans f_x_43) qs (gqs.S hM) ((hM.o gx trivial rfl).2.trans f_x_39) ql (gql.S hM) ((hM.o gx trivial rfl).2.trans f_x_3) byf (hx_afS hM gqb rfl af_qb) agf (hx_afS hM gqa rfl af_qa) flf (hx_afS hM gqf rfl af_qf) smf (hx_afS hM gqs rfl af_qs) rlf (hx_afS hM gql rfl af_ql) c0 ((hM.o gx trivial rfl).1.trans f_x_36) ⟨?o40, ?o41⟩ ⟨?o42, ?o43⟩ R hRr) (cwV 2 hts (hx_gV kw_1621 kw_1618 kw_1620 kw_78 kw_103) rfl rfl rfl (by decide +kernel) ⟨Nat.le_of_ble_eq_true rfl, Nat.le_of_ble_eq_true rfl⟩) rfl hl.1 rfl (Nat.le_of_ble_eq_true rfl) dX10_judges_54 ⟨Nat.le_of_ble_eq_true rfl, Nat.le_of_ble_eq_true rfl⟩) hW (fun r_25 L_23 h_24 H locs p_26 hW => ?_)
      case o40 => omega
      case o41 => omega
      case o42 => omega
      case o43 => omega
      obtain ⟨hr_27, hT, hs⟩ := p_26
      replace hT : hx_T T_tb L_23 h_24 := hT
      replace hs : hx_S T_tb [] L_16 h_17 L_23 h_24 := hs
      replace af_qk : h_24.2.1 qk = skf := (funext fun j => (hs.a (gqk.S hM) rfl j).1).trans af_qk
      replace ex_1 := ex_1.trans (hs.a (gqo.S hM) rfl _).1.symm
      replace ex_2 := ex_2.trans (hs.a (gqa.S hM) rfl _).1.symm
      replace ex_3 := ex_3.trans (hs.a (gqbn.S hM) rfl _).1.symm
      replace ex_15 := ex_15.trans (hs.a (gqs.S hM) rfl _).1.symm
      replace hM := hM.tr (hs.mono ?o44)
      case o44 => decide
      refine hb_if_eq (zx := r_25.toInt) (tgt := 62) hx hb rfl dX10_judges_57 ?o45 (fun c_28 => ?_) (fun c_28 => ?_)
      case o45 => decide
      · skip
        refine lv_aload_n hx hb dX10_judges_62 rfl (lv_at hl 0 rfl) ?_
        refine lv_iload_n hx hb dX10_judges_63 rfl (lv_at hl 1 rfl) ?_
        refine lv_iload_n hx hb dX10_judges_64 rfl (lv_at hl 2 rfl) ?_
        refine hx_goi (hx_runV (As := [.int i1, .int i2]) (rest := []) ⟨hx, hb, hml, hown, hts⟩ hW (gx.S hM) tt_10 (T := TX10) (N := 98) rfl (t_X10_isProved_v l dC dI dA L_23 h_24 H.size x i1 i2 hT (gx.S hM) qn (gqn.S hM) ((hM.o gx trivial rfl).2.trans f_x_4) qp (gqp.S hM) ((hM.o gx trivial rfl).2.trans f_x_5) qk (gqk.S hM) ((hM.o gx trivial rfl).2.trans f_x_66) qft (gqft.S hM) ((hM.o gx trivial rfl).2.trans f_x_53) psf (hx_afS hM gqn rfl af_qn) prf (hx_afS hM gqp rfl af_qp) skf af_qk rf (hx_afS hM gqft rfl af_qft) ⟨?o46, ?o47⟩ ⟨?o48, ?o49⟩ o hO hls hps) (cwV 2 hts (hx_gV kw_1625 kw_1622 kw_1624 kw_79 kw_103) rfl rfl rfl (by decide +kernel) ⟨Nat.le_of_ble_eq_true rfl, Nat.le_of_ble_eq_true rfl⟩) rfl hl.1 rfl (Nat.le_of_ble_eq_true rfl) dX10_judges_65 ⟨Nat.le_of_ble_eq_true rfl, Nat.le_of_ble_eq_true rfl⟩) hW (fun r_31 L_29 h_30 H locs p_32 hW => ?_)
        case o46 => omega
        case o47 => omega
        case o48 => omega
        case o49 => omega
        obtain ⟨hr_33, hT, hs⟩ := p_32
        replace hT : hx_T T_tb L_29 h_30 := hT
        replace hs : hx_S T_tb [(99, 0)] L_23 h_24 L_29 h_30 := hs
        replace ex_1 := ex_1.trans (hs.a (gqo.S hM) rfl _).1.symm
        replace ex_2 := ex_2.trans (hs.a (gqa.S hM) rfl _).1.symm
        replace ex_3 := ex_3.trans (hs.a (gqbn.S hM) rfl _).1.symm
        replace ex_15 := ex_15.trans (hs.a (gqs.S hM) rfl _).1.symm
        replace hM := hM.tr (hs.mono ?o50)
        case o50 => decide
        refine hb_if_eq (zx := r_31.toInt) (tgt := 75) hx hb rfl dX10_judges_68 ?o51 (fun c_34 => ?_) (fun c_34 => ?_)
        case o51 => decide
        · skip
          refine lv_iconst (v := 4) hx hb dX10_judges_75 ?o52 ?_
          case o52 => decide
          refine hx_reti hx hb hr hlk hW ⟨⟨(hv_jg_4 (by rw [← ax_1, ← cbo9]; omega) (by rw [← ax_15]; omega) (by rcases hr_27 with z | z; (exfalso; omega); intro z9; by_cases z8 : 1 < hv_sct byf agf flf (byf i1.toNatClampNeg).toInt (agf i1.toNatClampNeg).toInt ((flf i1.toNatClampNeg).toInt - R 1) c0.toInt.toNat; exact z.2 ⟨z8, z9⟩; rw [hv_sct_1 (c := i1.toNatClampNeg) (hv_sq_t.mpr ⟨rfl, rfl, (by have := hRb 1; omega)⟩) c0.toInt.toNat (by unfold Int32.toNatClampNeg; omega) (by omega), ← ax_15] at z9; omega) (Or.inr ⟨?o53, (by rcases hr_33 with z | z; (exfalso; omega); exact z.2)⟩)), ?o54, ?o55⟩, hT, hM⟩ dX10_judges_76
          case o53 => decide
          case o54 => decide
          case o55 => decide
        · skip
          refine lv_iconst (v := 5) hx hb dX10_judges_71 ?o56 ?_
          case o56 => decide
          refine lv_goto (tgt := 76) hx hb dX10_judges_72 ?o57 ?_
          case o57 => decide
          refine hx_reti hx hb hr hlk hW ⟨⟨(hv_jg_4 (by rw [← ax_1, ← cbo9]; omega) (by rw [← ax_15]; omega) (by rcases hr_27 with z | z; (exfalso; omega); intro z9; by_cases z8 : 1 < hv_sct byf agf flf (byf i1.toNatClampNeg).toInt (agf i1.toNatClampNeg).toInt ((flf i1.toNatClampNeg).toInt - R 1) c0.toInt.toNat; exact z.2 ⟨z8, z9⟩; rw [hv_sct_1 (c := i1.toNatClampNeg) (hv_sq_t.mpr ⟨rfl, rfl, (by have := hRb 1; omega)⟩) c0.toInt.toNat (by unfold Int32.toNatClampNeg; omega) (by omega), ← ax_15] at z9; omega) (Or.inl ⟨?o58, (by rcases hr_33 with z | z; exact z.2; exfalso; omega)⟩)), ?o59, ?o60⟩, hT, hM⟩ dX10_judges_76
          case o58 => decide
          case o59 => decide
          case o60 => decide
      · skip
        refine lv_iconst (v := 3) hx hb dX10_judges_60 ?o61 ?_
        case o61 => decide
        refine hx_reti hx hb hr hlk hW ⟨⟨(hv_jg_3 (by rw [← ax_1, ← cbo9]; omega) (by rw [← ax_15]; omega) (by rcases hr_27 with z | z; exact z.2.2; exfalso; omega) ?o62), ?o63, ?o64⟩, hT, hM⟩ dX10_judges_61
        case o62 => decide
        case o63 => decide
        case o64 => decide
    · skip
      refine lv_iconst (v := 2) hx hb dX10_judges_49 ?o65 ?_
      case o65 => decide
      refine hx_reti hx hb hr hlk hW ⟨⟨(hv_jg_2 (by rw [← ax_1, ← cbo9]; omega) (by rw [← ax_15]; omega) ?o66), ?o67, ?o68⟩, hT, hM⟩ dX10_judges_50
      case o66 => decide
      case o67 => decide
      case o68 => decide
  · skip
    refine lv_iconst (v := 1) hx hb dX10_judges_32 ?o69 ?_
    case o69 => decide
    refine hx_reti hx hb hr hlk hW ⟨⟨(hv_jg_1 (by rw [← ax_1, ← cbo9]; omega) ?o70), ?o71, ?o72⟩, hT, hM⟩ dX10_judges_33
    case o70 => decide
    case o71 => decide
    case o72 => decide
end
section
set_option maxHeartbeats 4000000 in
set_option maxRecDepth 100000 in
theorem t_X9_drawBench_v (l : Launch) (dC : Nat → ClassId) (dI : Nat → Nat → Nat) (dA : Nat → ClassId) (L : List Nat) (h : hx_h) (sz : Nat) (x : Nat) (v1 : Nat) (i2 : Int32) (hT : hx_T T_tb L h) (gx : hx_g L h x 9) (gv1 : hx_g L h v1 2) (qp : Nat) (gqp : hx_g L h qp 44) (f_x_7 : h.2.2 x 7 = some qp) (qc : Nat) (gqc : hx_g L h qc 45) (f_x_10 : h.2.2 x 10 = some qc) (qfi : Nat) (gqfi : hx_g L h qfi 47) (f_x_15 : h.2.2 x 15 = some qfi) (ic : Int32) (eo_v1 : h.2.2 qc ic.toNatClampNeg = some v1) (ob_ic : 0 ≤ ic.toInt ∧ ic.toInt ≤ 99) (fi0 : Nat → Int32) (af_qfi : h.2.1 qfi = fi0) (cn0 : Int32) (f_x_11 : h.2.1 x 11 = cn0) (pn0 : Int32) (f_x_8 : h.2.1 x 8 = pn0) (df : Nat → Int32) (cl_qp_7 : hx_col 40 h qp 7 = df) (jf : Nat → Int32) (cl_qp_8 : hx_col 40 h qp 8 = jf) (kf : Nat → Int32) (cl_qp_2 : hx_col 40 h qp 2 = kf) (nu_qp : hx_num 40 h qp 0 (pn0.toInt)) (agf byf : Nat → Int32) (hDF : hw_DF h qc qp 2 agf cn0.toInt) (hDP : hw_DF h qc qp 1 byf cn0.toInt) (hcn : ic.toInt < cn0.toInt) (hi2 : 0 ≤ i2.toInt) (bF : Nat → Int32) (hBX : hv_FX 3 5 h qc bF cn0.toInt) (pf_x_8 : ∀ j : Nat, (j : Int) < (h.2.1 x 8).toInt → h.2.2 qp j ≠ none) : Met l yX9_drawBench (Cond.code yX9_drawBench cX9_drawBench 9 (some .boolean) :: hx_all) ({ frames := 2, cells := 0, slots := 0, locals := 42 }) (va_Pc [.ref x, .ref v1, .int i2] (hx_B T_tb (P_ty dA) (dC, dI) vwCl L h sz)) (va_Qi (fun (r : Int32) (u : List Nat × hx_h) => ((r.toInt = 1 ∧ 3 ≤ ((hv_fs jf df kf (byf ic.toNatClampNeg).toNatClampNeg (agf ic.toNatClampNeg).toNatClampNeg pn0.toInt.toNat).length : Int) ∧ ∃ (b0 b1 b2 : Int32) (bF1 : Nat → Int32), hv_BN (hv_fs jf df kf (byf ic.toNatClampNeg).toNatClampNeg (agf ic.toNatClampNeg).toNatClampNeg pn0.toInt.toNat) (i2.toInt % hv_T3 (hv_fs jf df kf (byf ic.toNatClampNeg).toNatClampNeg (agf ic.toNatClampNeg).toNatClampNeg pn0.toInt.toNat).length) b0 b1 b2 ∧ bF1 = hx_up (hx_up (hx_up bF (0 + 3 * ic.toNatClampNeg) b0) (1 + 3 * ic.toNatClampNeg) b1) (2 + 3 * ic.toNatClampNeg) b2 ∧ hv_FX 3 5 u.2 qc bF1 cn0.toInt) ∨ (r.toInt = 0 ∧ ((hv_fs jf df kf (byf ic.toNatClampNeg).toNatClampNeg (agf ic.toNatClampNeg).toNatClampNeg pn0.toInt.toNat).length : Int) < 3 ∧ hv_FX 3 5 u.2 qc bF cn0.toInt)) ∧ hx_T T_tb u.1 u.2 ∧ hx_S T_tb [(21, 0), (47, 0)] L h u.1 u.2) (hx_E T_tb (P_ty dA) (dC, dI) vwCl (hx_A L sz)) (hx_A L sz)) 0 0 (hx_A L sz) := by
  refine hx_met (lv := [(0, .ref x), (1, .ref v1), (2, .int i2)]) (by decide +kernel) rfl (Nat.le_of_ble_eq_true rfl) rfl ?_
  intro p e s m below meth c hx hb hml hr hlk hts0 hown hin hsz hW ls hl
  have hts : ∀ w ∈ hx_all, w.before _ s = true := fun w hw => hts0 w (List.mem_cons_of_mem _ hw)
  have hown : s.vm.findClass "SmallCourt" = some m.cls := hown
  have hM : hx_S T_tb [(21, 0), (47, 0)] L h L h := hx_S.rf
  have b_cn0 := hT.gi gx tt_9 (k := 11) rfl
  rw [f_x_11] at b_cn0
  have b_cn0 : 0 ≤ cn0.toInt ∧ cn0.toInt ≤ 100 := b_cn0
  have b_pn0 := hT.gi gx tt_9 (k := 8) rfl
  rw [f_x_8] at b_pn0
  have b_pn0 : 0 ≤ pn0.toInt ∧ pn0.toInt ≤ 40 := b_pn0
  refine lv_iconst (v := 0) hx hb dX9_drawBench_0 ?o0 ?_
  case o0 => decide
  refine lv_istore_n (lv' := [(3, .int (0 : Int32)), (0, .ref x), (1, .ref v1), (2, .int i2)]) hx hb dX9_drawBench_1 rfl hl ?o1 rfl (fun ls hl => ?_)
  case o1 => decide
  refine lv_iconst (v := 0) hx hb dX9_drawBench_2 ?o2 ?_
  case o2 => decide
  refine lv_istore (lv' := [(4, .int (0 : Int32)), (3, .int (0 : Int32)), (0, .ref x), (1, .ref v1), (2, .int i2)]) hx hb dX9_drawBench_3 hl ?o3 rfl (fun ls hl => ?_)
  case o3 => decide
  have loop5 : ∀ (n5 : Nat) (iv5_3 iv5_4 : Int32) (ia5_qfi : Nat → Int32) (H : Heap) (locs : List Loc) (hL1 : List Nat) (hl1 : hx_h), 0 ≤ iv5_3.toInt → iv5_3.toInt ≤ 40 → 0 ≤ iv5_4.toInt → iv5_4.toInt ≤ 40 → (hv_fl ia5_qfi (hv_fs jf df kf (byf ic.toNatClampNeg).toNatClampNeg (agf ic.toNatClampNeg).toNatClampNeg (iv5_4.toInt).toNat) ∧ iv5_3.toInt = ((hv_fs jf df kf (byf ic.toNatClampNeg).toNatClampNeg (agf ic.toNatClampNeg).toNatClampNeg (iv5_4.toInt).toNat).length : Int)) → (iv5_3.toInt ≤ iv5_4.toInt) → (iv5_4.toInt ≤ pn0.toInt) → ∀ (ls : Array Slot), 40 - iv5_4.toInt < (n5 : Int) → hx_W T_tb (P_ty dA) (dC, dI) vwCl (hx_A L sz) s.heap hL1 hl1 s H locs → hx_T T_tb hL1 hl1 → hx_S T_tb [(21, 0), (47, 0)] L h hL1 hl1 → hl1.2.2 x 7 = some qp → hl1.2.2 x 10 = some qc → hl1.2.2 x 15 = some qfi → hl1.2.1 x 11 = cn0 → hl1.2.1 x 8 = pn0 → hx_g hL1 hl1 x 9 → hx_g hL1 hl1 qp 44 → hx_g hL1 hl1 qc 45 → (∀ j : Nat, (j : Int) < (hl1.2.1 x 8).toInt → hl1.2.2 qp j ≠ none) → hl1.2.1 qfi = ia5_qfi → hx_col 40 hl1 qp 7 = df → hx_col 40 hl1 qp 8 = jf → hx_col 40 hl1 qp 2 = kf → hx_num 40 hl1 qp 0 (pn0.toInt) → hl1.2.2 qc ic.toNatClampNeg = some v1 → hw_DF hl1 qc qp 2 agf cn0.toInt → hw_DF hl1 qc qp 1 byf cn0.toInt → hv_FX 3 5 hl1 qc bF cn0.toInt → lv_has ls 9 [(4, .int iv5_4), (3, .int iv5_3), (0, .ref x), (1, .ref v1), (2, .int i2)] → W p l e ({ frames := 2, cells := 0, slots := 0, locals := 42 }) s m ([.ref x, .ref v1, .int i2] : List Value).toArray below meth c H locs 0 0 (MQ below (va_Qi (fun (r : Int32) (u : List Nat × hx_h) => ((r.toInt = 1 ∧ 3 ≤ ((hv_fs jf df kf (byf ic.toNatClampNeg).toNatClampNeg (agf ic.toNatClampNeg).toNatClampNeg pn0.toInt.toNat).length : Int) ∧ ∃ (b0 b1 b2 : Int32) (bF1 : Nat → Int32), hv_BN (hv_fs jf df kf (byf ic.toNatClampNeg).toNatClampNeg (agf ic.toNatClampNeg).toNatClampNeg pn0.toInt.toNat) (i2.toInt % hv_T3 (hv_fs jf df kf (byf ic.toNatClampNeg).toNatClampNeg (agf ic.toNatClampNeg).toNatClampNeg pn0.toInt.toNat).length) b0 b1 b2 ∧ bF1 = hx_up (hx_up (hx_up bF (0 + 3 * ic.toNatClampNeg) b0) (1 + 3 * ic.toNatClampNeg) b1) (2 + 3 * ic.toNatClampNeg) b2 ∧ hv_FX 3 5 u.2 qc bF1 cn0.toInt) ∨ (r.toInt = 0 ∧ ((hv_fs jf df kf (byf ic.toNatClampNeg).toNatClampNeg (agf ic.toNatClampNeg).toNatClampNeg pn0.toInt.toNat).length : Int) < 3 ∧ hv_FX 3 5 u.2 qc bF cn0.toInt)) ∧ hx_T T_tb u.1 u.2 ∧ hx_S T_tb [(21, 0), (47, 0)] L h u.1 u.2) (hx_E T_tb (P_ty dA) (dC, dI) vwCl (hx_A L sz)) (hx_A L sz)) ([.ref x, .ref v1, .int i2] : List Value).toArray s 0 0 (hx_A L sz)) (F0 m 5 ls []) := by
    intro n5
    induction n5 with
    | zero => intro iv5_3 iv5_4 ia5_qfi H locs hL1 hl1 bliv5_3 buiv5_3 bliv5_4 buiv5_4 vi5_0 vi5_1 vi5_2 ls hn5; exfalso; omega
    | succ n5 ih5 =>
      intro iv5_3 iv5_4 ia5_qfi H locs hL1 hl1 bliv5_3 buiv5_3 bliv5_4 buiv5_4 vi5_0 vi5_1 vi5_2 ls hn5 hW hT hM f_x_7 f_x_10 f_x_15 f_x_11 f_x_8 gx gqp gqc pf_x_8 nia5_qfi cl_qp_7 cl_qp_8 cl_qp_2 nu_qp eo_v1 hDF hDP hBX hl
      refine lv_iload hx hb dX9_drawBench_5 (lv_at hl 0 rfl) ?_
      refine lv_aload_n hx hb dX9_drawBench_7 rfl (lv_at hl 2 rfl) ?_
      refine hk_geti hx hb hts hC_9 hown hW gx tt_9 8 ?o4 rfl kw_372 ⟨rfl, rfl, rfl⟩ f_x_8 dX9_drawBench_8 ?_
      case o4 => decide
      refine hb_icmp_ge (zx := iv5_4.toInt) (zy := pn0.toInt) (tgt := 45) hx hb rfl rfl dX9_drawBench_11 ?o5 (fun c_1 => ?_) (fun c_1 => ?_)
      case o5 => decide
      · skip
        obtain ⟨hfl9, hln9⟩ := vi5_0; rw [show iv5_4.toInt.toNat = pn0.toInt.toNat by omega] at hfl9 hln9
        refine lv_iload_n hx hb dX9_drawBench_45 rfl (lv_at hl 1 rfl) ?_
        refine lv_iload_n hx hb dX9_drawBench_46 rfl (lv_at hl 1 rfl) ?_
        refine lv_iconst (v := 1) hx hb dX9_drawBench_47 ?o6 ?_
        case o6 => decide
        refine lv_isub hx hb dX9_drawBench_48 ?_
        have rg_2 := i32_r iv5_3
        refine lv_topi (fun x_3 ex_3 => ?_)
        have zx_3 : x_3.toInt = iv5_3.toInt - 1 := ?o7
        case o7 =>
          rw [ex_3]
          refine i32_sub rfl ?o8 ?o9 ?o10
          case o8 => decide
          case o9 => omega
          case o10 => omega
        refine lv_imul hx hb dX9_drawBench_49 ?_
        refine lv_topi (fun x_4 ex_4 => ?_)
        have mx_4 : iv5_3.toInt = 0 → x_4.toInt = 0 := fun z => by rw [ex_4]; exact hx_mul0 z
        refine lv_iload_n hx hb dX9_drawBench_50 rfl (lv_at hl 1 rfl) ?_
        refine lv_iconst (v := 2) hx hb dX9_drawBench_51 ?o11 ?_
        case o11 => decide
        refine lv_isub hx hb dX9_drawBench_52 ?_
        refine lv_topi (fun x_5 ex_5 => ?_)
        have zx_5 : x_5.toInt = iv5_3.toInt - 2 := ?o12
        case o12 =>
          rw [ex_5]
          refine i32_sub rfl ?o13 ?o14 ?o15
          case o13 => decide
          case o14 => omega
          case o15 => omega
        refine lv_imul hx hb dX9_drawBench_53 ?_
        refine lv_topi (fun x_6 ex_6 => ?_)
        have mx_6 : x_4.toInt = 0 → x_6.toInt = 0 := fun z => by rw [ex_6]; exact hx_mul0 z
        refine lv_bipush (v := 6) hx hb dX9_drawBench_54 ?o16 ?_
        case o16 => decide
        refine lv_idiv hx hb dX9_drawBench_56 ?o17 ?_
        case o17 => decide
        refine lv_topi (fun x_7 ex_7 => ?_)
        have zx_7 : -1073741824 ≤ x_7.toInt ∧ x_7.toInt ≤ 1073741824 := ?o18
        case o18 =>
          rw [ex_7]
          refine hx_divb ?o19
          case o19 => decide
        have hs9 : x_7.toInt = hv_T3 iv5_3.toInt.toNat := hv_n6 ?o20 ?o21 zx_3 ex_4 zx_5 ex_6 ex_7
        case o20 => omega
        case o21 => omega
        have ht9 := hv_T3_c (n := iv5_3.toInt) ?o22 ?o23
        case o22 => omega
        case o23 => omega
        refine lv_istore (lv' := [(4, .int x_7), (3, .int iv5_3), (0, .ref x), (1, .ref v1), (2, .int i2)]) hx hb dX9_drawBench_57 hl ?o24 rfl (fun ls hl => ?_)
        case o24 => decide
        refine lv_iload hx hb dX9_drawBench_59 (lv_at hl 0 rfl) ?_
        refine lv_iconst (v := 1) hx hb dX9_drawBench_61 ?o25 ?_
        case o25 => decide
        refine hb_icmp_ge (zx := x_7.toInt) (zy := 1) (tgt := 67) hx hb rfl ?o26 dX9_drawBench_62 ?o27 (fun c_8 => ?_) (fun c_8 => ?_)
        case o26 => decide
        case o27 => decide
        · skip
          refine lv_iload_n hx hb dX9_drawBench_67 rfl (lv_at hl 4 rfl) ?_
          refine lv_iload hx hb dX9_drawBench_68 (lv_at hl 0 rfl) ?_
          refine lv_irem hx hb dX9_drawBench_70 (hx_ne0 ?o28) ?_
          case o28 => omega
          refine lv_topi (fun x_9 ex_9 => ?_)
          have zx_9 : 0 ≤ x_9.toInt ∧ x_9.toInt < x_7.toInt := ?o29
          case o29 =>
            rw [ex_9]
            refine hx_rem ?o30 ?o31
            case o30 => omega
            case o31 => omega
          have hp9 : x_9.toInt = i2.toInt % hv_T3 iv5_3.toInt.toNat := ?o32
          case o32 => rw [ex_9, hx_remz (by omega) (by omega), hs9]
          refine lv_istore (lv' := [(5, .int x_9), (4, .int x_7), (3, .int iv5_3), (0, .ref x), (1, .ref v1), (2, .int i2)]) hx hb dX9_drawBench_71 hl ?o33 rfl (fun ls hl => ?_)
          case o33 => decide
          refine lv_iconst (v := 0) hx hb dX9_drawBench_73 ?o34 ?_
          case o34 => decide
          refine lv_istore (lv' := [(6, .int (0 : Int32)), (5, .int x_9), (4, .int x_7), (3, .int iv5_3), (0, .ref x), (1, .ref v1), (2, .int i2)]) hx hb dX9_drawBench_74 hl ?o35 rfl (fun ls hl => ?_)
          case o35 => decide
          have loop76 : ∀ (n76 : Nat) (iv76_5 iv76_6 : Int32) (H : Heap) (locs : List Loc) (hL1 : List Nat) (hl1 : hx_h), 0 ≤ iv76_5.toInt → iv76_5.toInt ≤ 9880 → 0 ≤ iv76_6.toInt → iv76_6.toInt ≤ 40 → (iv76_5.toInt = (i2.toInt % hv_T3 iv5_3.toInt.toNat) - hv_T3 iv5_3.toInt.toNat + hv_T3 (iv5_3.toInt - iv76_6.toInt).toNat) → (iv76_6.toInt ≤ iv5_3.toInt) → ∀ (ls : Array Slot), 40 - iv76_6.toInt < (n76 : Int) → hx_W T_tb (P_ty dA) (dC, dI) vwCl (hx_A L sz) s.heap hL1 hl1 s H locs → hx_T T_tb hL1 hl1 → hx_S T_tb [(21, 0), (47, 0)] L h hL1 hl1 → hl1.2.2 x 7 = some qp → hl1.2.2 x 10 = some qc → hl1.2.2 x 15 = some qfi → hl1.2.1 x 11 = cn0 → hl1.2.1 x 8 = pn0 → hx_g hL1 hl1 x 9 → hx_g hL1 hl1 qp 44 → hx_g hL1 hl1 qc 45 → (∀ j : Nat, (j : Int) < (hl1.2.1 x 8).toInt → hl1.2.2 qp j ≠ none) → hl1.2.1 qfi = ia5_qfi → hx_col 40 hl1 qp 7 = df → hx_col 40 hl1 qp 8 = jf → hx_col 40 hl1 qp 2 = kf → hx_num 40 hl1 qp 0 (pn0.toInt) → hl1.2.2 qc ic.toNatClampNeg = some v1 → hw_DF hl1 qc qp 2 agf cn0.toInt → hw_DF hl1 qc qp 1 byf cn0.toInt → hv_FX 3 5 hl1 qc bF cn0.toInt → lv_has ls 9 [(6, .int iv76_6), (5, .int iv76_5), (4, .int x_7), (3, .int iv5_3), (0, .ref x), (1, .ref v1), (2, .int i2)] → W p l e ({ frames := 2, cells := 0, slots := 0, locals := 42 }) s m ([.ref x, .ref v1, .int i2] : List Value).toArray below meth c H locs 0 0 (MQ below (va_Qi (fun (r : Int32) (u : List Nat × hx_h) => ((r.toInt = 1 ∧ 3 ≤ ((hv_fs jf df kf (byf ic.toNatClampNeg).toNatClampNeg (agf ic.toNatClampNeg).toNatClampNeg pn0.toInt.toNat).length : Int) ∧ ∃ (b0 b1 b2 : Int32) (bF1 : Nat → Int32), hv_BN (hv_fs jf df kf (byf ic.toNatClampNeg).toNatClampNeg (agf ic.toNatClampNeg).toNatClampNeg pn0.toInt.toNat) (i2.toInt % hv_T3 (hv_fs jf df kf (byf ic.toNatClampNeg).toNatClampNeg (agf ic.toNatClampNeg).toNatClampNeg pn0.toInt.toNat).length) b0 b1 b2 ∧ bF1 = hx_up (hx_up (hx_up bF (0 + 3 * ic.toNatClampNeg) b0) (1 + 3 * ic.toNatClampNeg) b1) (2 + 3 * ic.toNatClampNeg) b2 ∧ hv_FX 3 5 u.2 qc bF1 cn0.toInt) ∨ (r.toInt = 0 ∧ ((hv_fs jf df kf (byf ic.toNatClampNeg).toNatClampNeg (agf ic.toNatClampNeg).toNatClampNeg pn0.toInt.toNat).length : Int) < 3 ∧ hv_FX 3 5 u.2 qc bF cn0.toInt)) ∧ hx_T T_tb u.1 u.2 ∧ hx_S T_tb [(21, 0), (47, 0)] L h u.1 u.2) (hx_E T_tb (P_ty dA) (dC, dI) vwCl (hx_A L sz)) (hx_A L sz)) ([.ref x, .ref v1, .int i2] : List Value).toArray s 0 0 (hx_A L sz)) (F0 m 76 ls []) := by
            intro n76
            induction n76 with
            | zero => intro iv76_5 iv76_6 H locs hL1 hl1 bliv76_5 buiv76_5 bliv76_6 buiv76_6 vi76_0 vi76_1 ls hn76; exfalso; omega
            | succ n76 ih76 =>
              intro iv76_5 iv76_6 H locs hL1 hl1 bliv76_5 buiv76_5 bliv76_6 buiv76_6 vi76_0 vi76_1 ls hn76 hW hT hM f_x_7 f_x_10 f_x_15 f_x_11 f_x_8 gx gqp gqc pf_x_8 nia5_qfi cl_qp_7 cl_qp_8 cl_qp_2 nu_qp eo_v1 hDF hDP hBX hl
              refine lv_iload hx hb dX9_drawBench_76 (lv_at hl 0 rfl) ?_
              refine lv_iload_n hx hb dX9_drawBench_78 rfl (lv_at hl 3 rfl) ?_
              refine hb_icmp_ge (zx := iv76_6.toInt) (zy := iv5_3.toInt) (tgt := 174) hx hb rfl rfl dX9_drawBench_79 ?o36 (fun c_10 => ?_) (fun c_10 => ?_)
              case o36 => decide
              · skip
                refine lv_iconst (v := 0) hx hb dX9_drawBench_174 ?o37 ?_
                case o37 => decide
                exact hx_retz hx hb hr rfl hlk hW ⟨(by exfalso; have h8 : hv_T3 (iv76_6.toInt - iv76_6.toInt).toNat = 0 := (by { rw [show (iv76_6.toInt - iv76_6.toInt).toNat = 0 by omega]; rfl }); have h7 : hv_T3 (iv5_3.toInt - iv76_6.toInt).toNat = 0 := (by { rw [show (iv5_3.toInt - iv76_6.toInt).toNat = 0 by omega]; rfl }); omega), hT, hM⟩ dX9_drawBench_175
              · skip
                refine lv_iload hx hb dX9_drawBench_82 (lv_at hl 0 rfl) ?_
                refine lv_iconst (v := 1) hx hb dX9_drawBench_84 ?o38 ?_
                case o38 => decide
                refine lv_iadd hx hb dX9_drawBench_85 ?_
                have rg_11 := i32_r iv76_6
                refine lv_topi (fun x_12 ex_12 => ?_)
                have zx_12 : x_12.toInt = iv76_6.toInt + 1 := ?o39
                case o39 =>
                  rw [ex_12]
                  refine i32_add rfl ?o40 ?o41 ?o42
                  case o40 => decide
                  case o41 => omega
                  case o42 => omega
                refine lv_istore (lv' := [(7, .int x_12), (6, .int iv76_6), (5, .int iv76_5), (4, .int x_7), (3, .int iv5_3), (0, .ref x), (1, .ref v1), (2, .int i2)]) hx hb dX9_drawBench_86 hl ?o43 rfl (fun ls hl => ?_)
                case o43 => decide
                have loop88 : ∀ (n88 : Nat) (iv88_5 iv88_7 : Int32) (H : Heap) (locs : List Loc) (hL1 : List Nat) (hl1 : hx_h), 0 ≤ iv88_5.toInt → iv88_5.toInt ≤ 9880 → 0 ≤ iv88_7.toInt → iv88_7.toInt ≤ 40 → (iv88_5.toInt = (i2.toInt % hv_T3 iv5_3.toInt.toNat) - hv_T3 iv5_3.toInt.toNat + hv_T3 (iv5_3.toInt - iv76_6.toInt).toNat - hv_T2 (iv5_3.toInt - iv76_6.toInt - 1).toNat + hv_T2 (iv5_3.toInt - iv88_7.toInt).toNat) → (iv88_7.toInt ≤ iv5_3.toInt) → (iv76_6.toInt + 1 ≤ iv88_7.toInt) → ∀ (ls : Array Slot), 40 - iv88_7.toInt < (n88 : Int) → hx_W T_tb (P_ty dA) (dC, dI) vwCl (hx_A L sz) s.heap hL1 hl1 s H locs → hx_T T_tb hL1 hl1 → hx_S T_tb [(21, 0), (47, 0)] L h hL1 hl1 → hl1.2.2 x 7 = some qp → hl1.2.2 x 10 = some qc → hl1.2.2 x 15 = some qfi → hl1.2.1 x 11 = cn0 → hl1.2.1 x 8 = pn0 → hx_g hL1 hl1 x 9 → hx_g hL1 hl1 qp 44 → hx_g hL1 hl1 qc 45 → (∀ j : Nat, (j : Int) < (hl1.2.1 x 8).toInt → hl1.2.2 qp j ≠ none) → hl1.2.1 qfi = ia5_qfi → hx_col 40 hl1 qp 7 = df → hx_col 40 hl1 qp 8 = jf → hx_col 40 hl1 qp 2 = kf → hx_num 40 hl1 qp 0 (pn0.toInt) → hl1.2.2 qc ic.toNatClampNeg = some v1 → hw_DF hl1 qc qp 2 agf cn0.toInt → hw_DF hl1 qc qp 1 byf cn0.toInt → hv_FX 3 5 hl1 qc bF cn0.toInt → lv_has ls 9 [(7, .int iv88_7), (6, .int iv76_6), (5, .int iv88_5), (4, .int x_7), (3, .int iv5_3), (0, .ref x), (1, .ref v1), (2, .int i2)] → W p l e ({ frames := 2, cells := 0, slots := 0, locals := 42 }) s m ([.ref x, .ref v1, .int i2] : List Value).toArray below meth c H locs 0 0 (MQ below (va_Qi (fun (r : Int32) (u : List Nat × hx_h) => ((r.toInt = 1 ∧ 3 ≤ ((hv_fs jf df kf (byf ic.toNatClampNeg).toNatClampNeg (agf ic.toNatClampNeg).toNatClampNeg pn0.toInt.toNat).length : Int) ∧ ∃ (b0 b1 b2 : Int32) (bF1 : Nat → Int32), hv_BN (hv_fs jf df kf (byf ic.toNatClampNeg).toNatClampNeg (agf ic.toNatClampNeg).toNatClampNeg pn0.toInt.toNat) (i2.toInt % hv_T3 (hv_fs jf df kf (byf ic.toNatClampNeg).toNatClampNeg (agf ic.toNatClampNeg).toNatClampNeg pn0.toInt.toNat).length) b0 b1 b2 ∧ bF1 = hx_up (hx_up (hx_up bF (0 + 3 * ic.toNatClampNeg) b0) (1 + 3 * ic.toNatClampNeg) b1) (2 + 3 * ic.toNatClampNeg) b2 ∧ hv_FX 3 5 u.2 qc bF1 cn0.toInt) ∨ (r.toInt = 0 ∧ ((hv_fs jf df kf (byf ic.toNatClampNeg).toNatClampNeg (agf ic.toNatClampNeg).toNatClampNeg pn0.toInt.toNat).length : Int) < 3 ∧ hv_FX 3 5 u.2 qc bF cn0.toInt)) ∧ hx_T T_tb u.1 u.2 ∧ hx_S T_tb [(21, 0), (47, 0)] L h u.1 u.2) (hx_E T_tb (P_ty dA) (dC, dI) vwCl (hx_A L sz)) (hx_A L sz)) ([.ref x, .ref v1, .int i2] : List Value).toArray s 0 0 (hx_A L sz)) (F0 m 88 ls []) := by
                  intro n88
                  induction n88 with
                  | zero => intro iv88_5 iv88_7 H locs hL1 hl1 bliv88_5 buiv88_5 bliv88_7 buiv88_7 vi88_0 vi88_1 vi88_2 ls hn88; exfalso; omega
                  | succ n88 ih88 =>
                    intro iv88_5 iv88_7 H locs hL1 hl1 bliv88_5 buiv88_5 bliv88_7 buiv88_7 vi88_0 vi88_1 vi88_2 ls hn88 hW hT hM f_x_7 f_x_10 f_x_15 f_x_11 f_x_8 gx gqp gqc pf_x_8 nia5_qfi cl_qp_7 cl_qp_8 cl_qp_2 nu_qp eo_v1 hDF hDP hBX hl
                    refine lv_iload hx hb dX9_drawBench_88 (lv_at hl 0 rfl) ?_
                    refine lv_iload_n hx hb dX9_drawBench_90 rfl (lv_at hl 4 rfl) ?_
                    refine hb_icmp_ge (zx := iv88_7.toInt) (zy := iv5_3.toInt) (tgt := 168) hx hb rfl rfl dX9_drawBench_91 ?o44 (fun c_13 => ?_) (fun c_13 => ?_)
                    case o44 => decide
                    · skip
                      obtain ⟨x_14, ex_14⟩ : ∃ y : Int32, y = iv76_6 + Int32.ofInt 1 := ⟨_, rfl⟩
                      have zx_14 : x_14.toInt = iv76_6.toInt + (1) := ?o45
                      case o45 =>
                        rw [ex_14]
                        refine i32_add rfl ?o46 ?o47 ?o48
                        case o46 => decide
                        case o47 => omega
                        case o48 => omega
                      refine lv_iinc (v := x_14) (lv' := [(6, .int x_14), (7, .int iv88_7), (5, .int iv88_5), (4, .int x_7), (3, .int iv5_3), (0, .ref x), (1, .ref v1), (2, .int i2)]) hx hb dX9_drawBench_168 hl (k := 1) rfl ex_14.symm ?o49 rfl (fun ls hl => ?_)
                      case o49 => decide
                      refine lv_goto (tgt := 76) hx hb dX9_drawBench_171 ?o50 ?_
                      case o50 => decide
                      refine ih76 iv88_5 x_14 _ _ hL1 hl1 ?o51 ?o52 ?o53 ?o54 (by have h9 := hv_T3_p (m := iv5_3.toInt - iv76_6.toInt) (by omega); have h8 : hv_T2 (iv5_3.toInt - iv88_7.toInt).toNat = 0 := by { rw [show (iv5_3.toInt - iv88_7.toInt).toNat = 0 by omega]; rfl }; rw [show iv5_3.toInt - x_14.toInt = iv5_3.toInt - iv76_6.toInt - 1 by omega]; omega) ?o55 ls ?o56 hW hT hM f_x_7 f_x_10 f_x_15 f_x_11 f_x_8 gx gqp gqc pf_x_8 nia5_qfi cl_qp_7 cl_qp_8 cl_qp_2 nu_qp eo_v1 hDF hDP hBX (lv_sub hl [0, 2, 3, 4, 5, 6, 7] rfl)
                      case o51 => omega
                      case o52 => omega
                      case o53 => omega
                      case o54 => omega
                      case o55 => omega
                      case o56 => omega
                    · skip
                      refine lv_iload_n hx hb dX9_drawBench_94 rfl (lv_at hl 4 rfl) ?_
                      refine lv_iload hx hb dX9_drawBench_95 (lv_at hl 0 rfl) ?_
                      refine lv_isub hx hb dX9_drawBench_97 ?_
                      have rg_15 := i32_r iv88_7
                      refine lv_topi (fun x_16 ex_16 => ?_)
                      have zx_16 : x_16.toInt = iv5_3.toInt - iv88_7.toInt := ?o57
                      case o57 =>
                        rw [ex_16]
                        refine i32_sub rfl rfl ?o58 ?o59
                        case o58 => omega
                        case o59 => omega
                      refine lv_iconst (v := 1) hx hb dX9_drawBench_98 ?o60 ?_
                      case o60 => decide
                      refine lv_isub hx hb dX9_drawBench_99 ?_
                      have rg_17 := i32_r x_16
                      refine lv_topi (fun x_18 ex_18 => ?_)
                      have zx_18 : x_18.toInt = x_16.toInt - 1 := ?o61
                      case o61 =>
                        rw [ex_18]
                        refine i32_sub rfl ?o62 ?o63 ?o64
                        case o62 => decide
                        case o63 => omega
                        case o64 => omega
                      refine lv_istore (lv' := [(8, .int x_18), (7, .int iv88_7), (6, .int iv76_6), (5, .int iv88_5), (4, .int x_7), (3, .int iv5_3), (0, .ref x), (1, .ref v1), (2, .int i2)]) hx hb dX9_drawBench_100 hl ?o65 rfl (fun ls hl => ?_)
                      case o65 => decide
                      refine lv_iload hx hb dX9_drawBench_102 (lv_at hl 3 rfl) ?_
                      refine lv_iload hx hb dX9_drawBench_104 (lv_at hl 0 rfl) ?_
                      refine hb_icmp_ge (zx := iv88_5.toInt) (zy := x_18.toInt) (tgt := 155) hx hb rfl rfl dX9_drawBench_106 ?o66 (fun c_19 => ?_) (fun c_19 => ?_)
                      case o66 => decide
                      · skip
                        refine lv_iload hx hb dX9_drawBench_155 (lv_at hl 3 rfl) ?_
                        refine lv_iload hx hb dX9_drawBench_157 (lv_at hl 0 rfl) ?_
                        refine lv_isub hx hb dX9_drawBench_159 ?_
                        have rg_20 := i32_r iv88_5
                        have rg_21 := i32_r x_18
                        refine lv_topi (fun x_22 ex_22 => ?_)
                        have zx_22 : x_22.toInt = iv88_5.toInt - x_18.toInt := ?o67
                        case o67 =>
                          rw [ex_22]
                          refine i32_sub rfl rfl ?o68 ?o69
                          case o68 => omega
                          case o69 => omega
                        refine lv_istore (lv' := [(5, .int x_22), (8, .int x_18), (7, .int iv88_7), (6, .int iv76_6), (4, .int x_7), (3, .int iv5_3), (0, .ref x), (1, .ref v1), (2, .int i2)]) hx hb dX9_drawBench_160 hl ?o70 rfl (fun ls hl => ?_)
                        case o70 => decide
                        obtain ⟨x_23, ex_23⟩ : ∃ y : Int32, y = iv88_7 + Int32.ofInt 1 := ⟨_, rfl⟩
                        have zx_23 : x_23.toInt = iv88_7.toInt + (1) := ?o71
                        case o71 =>
                          rw [ex_23]
                          refine i32_add rfl ?o72 ?o73 ?o74
                          case o72 => decide
                          case o73 => omega
                          case o74 => omega
                        refine lv_iinc (v := x_23) (lv' := [(7, .int x_23), (5, .int x_22), (8, .int x_18), (6, .int iv76_6), (4, .int x_7), (3, .int iv5_3), (0, .ref x), (1, .ref v1), (2, .int i2)]) hx hb dX9_drawBench_162 hl (k := 2) rfl ex_23.symm ?o75 rfl (fun ls hl => ?_)
                        case o75 => decide
                        refine lv_goto (tgt := 88) hx hb dX9_drawBench_165 ?o76 ?_
                        case o76 => decide
                        refine ih88 x_22 x_23 _ _ hL1 hl1 ?o77 ?o78 ?o79 ?o80 (by have h9 := hv_T2_p (m := iv5_3.toInt - iv88_7.toInt) (by omega); rw [show iv5_3.toInt - x_23.toInt = iv5_3.toInt - iv88_7.toInt - 1 by omega]; omega) ?o81 ?o82 ls ?o83 hW hT hM f_x_7 f_x_10 f_x_15 f_x_11 f_x_8 gx gqp gqc pf_x_8 nia5_qfi cl_qp_7 cl_qp_8 cl_qp_2 nu_qp eo_v1 hDF hDP hBX (lv_sub hl [0, 3, 1, 4, 5, 6, 7, 8] rfl)
                        case o77 => omega
                        case o78 => omega
                        case o79 => omega
                        case o80 => omega
                        case o81 => omega
                        case o82 => omega
                        case o83 => omega
                      · skip
                        refine lv_aload_n hx hb dX9_drawBench_109 rfl (lv_at hl 7 rfl) ?_
                        refine hx_getn hx hb hts hC_2 hown hW hT (gv1.S hM) tt_2 5 ?o84 rfl kw_740 ⟨rfl, rfl, rfl⟩ dX9_drawBench_110 (fun q_24 fq_24 gq_24 => ?_)
                        case o84 => decide
                        refine lv_iconst (v := 0) hx hb dX9_drawBench_113 ?o85 ?_
                        case o85 => decide
                        refine lv_aload_n hx hb dX9_drawBench_114 rfl (lv_at hl 6 rfl) ?_
                        refine hk_getr hx hb hts hC_9 hown hW gx tt_9 15 ?o86 rfl kw_379 ⟨rfl, rfl, rfl⟩ f_x_15 dX9_drawBench_115 ?_
                        case o86 => decide
                        refine lv_iload hx hb dX9_drawBench_118 (lv_at hl 2 rfl) ?_
                        refine hx_iald hx hb hW hT (gqfi.S hM) tt_47 rfl ⟨?o87, ?o88⟩ dX9_drawBench_120 (fun x_25 ex_25 lx_25 ux_25 => ?_)
                        case o87 => omega
                        case o88 => omega
                        have ax_25 : x_25 = ia5_qfi iv76_6.toNatClampNeg := ex_25.trans (congrFun nia5_qfi _)
                        have hfO9 := hBX
                        have hTO9 := hT
                        have gcO9 := gqc
                        have gtO9 := gq_24
                        have foO9 := eo_v1
                        have ftO9 := fq_24
                        have hTo := hT
                        refine hx_iast hx hb hW hT (hx_S.rf (M := [(21, 0)])) gq_24 tt_21 rfl ?o89 rfl (i32_r _) (List.mem_singleton.mpr rfl) dX9_drawBench_121 (fun H locs h_26 eh_26 hW hT hs => ?_)
                        case o89 => decide
                        replace f_x_7 := (hs.o gx trivial rfl).2.trans f_x_7
                        replace f_x_10 := (hs.o gx trivial rfl).2.trans f_x_10
                        replace f_x_15 := (hs.o gx trivial rfl).2.trans f_x_15
                        replace f_x_11 := (hs.o gx trivial rfl).1.trans f_x_11
                        replace f_x_8 := (hs.o gx trivial rfl).1.trans f_x_8
                        replace fq_24 := (hs.o (gv1.S hM) trivial rfl).2.trans fq_24
                        replace pf_x_8 : ∀ j : Nat, (j : Int) < (h_26.2.1 x 8).toInt → h_26.2.2 qp j ≠ none := by
                          intro j hj; rw [(hs.o gx trivial rfl).1] at hj; rw [(hs.a gqp rfl j).2]; exact pf_x_8 j hj
                        replace cl_qp_7 : hx_col 40 h_26 qp 7 = df := (hx_col_S hs hTo gqp tt_44 tt_4 rfl rfl).trans cl_qp_7
                        replace cl_qp_8 : hx_col 40 h_26 qp 8 = jf := (hx_col_S hs hTo gqp tt_44 tt_4 rfl rfl).trans cl_qp_8
                        replace cl_qp_2 : hx_col 40 h_26 qp 2 = kf := (hx_col_S hs hTo gqp tt_44 tt_4 rfl rfl).trans cl_qp_2
                        replace nu_qp : hx_num 40 h_26 qp 0 (pn0.toInt) := hx_num_S hs hTo gqp tt_44 tt_4 rfl rfl nu_qp
                        replace hDF : hw_DF h_26 qc qp 2 agf cn0.toInt := hw_DF_S hs hTo gqc gqp tt_45 tt_2 rfl rfl rfl hDF
                        replace hDP : hw_DF h_26 qc qp 1 byf cn0.toInt := hw_DF_S hs hTo gqc gqp tt_45 tt_2 rfl rfl rfl hDP
                        replace eo_v1 := (hs.a gqc rfl _).2.trans eo_v1
                        replace nia5_qfi : h_26.2.1 qfi = ia5_qfi := (funext fun j => (hs.a (gqfi.S hM) rfl j).1).trans nia5_qfi
                        replace ex_25 := ex_25.trans (hs.a (gqfi.S hM) rfl _).1.symm
                        replace hM := hM.tr (hs.mono ?o90)
                        case o90 => decide
                        replace gx := gx.S hs
                        replace gqp := gqp.S hs
                        replace gqc := gqc.S hs
                        replace gq_24 := gq_24.S hs
                        obtain ⟨xF_27, dxF_27⟩ : ∃ g : Nat → Int32, g = hx_up bF ((0 : Int32).toNatClampNeg + 3 * ic.toNatClampNeg) x_25 := ⟨_, rfl⟩
                        have nxF_27 : hv_FX 3 5 h_26 qc xF_27 cn0.toInt := ?o91
                        case o91 =>
                          rw [dxF_27]
                          refine hv_FX_u hfO9 hTO9 gcO9 gtO9 ?o92 tt_45 (by unfold Int32.toNatClampNeg; omega) (by unfold Int32.toNatClampNeg; omega) foO9 ftO9 ?o93 eh_26
                          case o92 => decide
                          case o93 => decide
                        refine lv_aload_n hx hb dX9_drawBench_122 rfl (lv_at hl 7 rfl) ?_
                        refine hk_getr hx hb hts hC_2 hown hW (gv1.S hM) tt_2 5 ?o94 rfl kw_740 ⟨rfl, rfl, rfl⟩ fq_24 dX9_drawBench_123 ?_
                        case o94 => decide
                        refine lv_iconst (v := 1) hx hb dX9_drawBench_126 ?o95 ?_
                        case o95 => decide
                        refine lv_aload_n hx hb dX9_drawBench_127 rfl (lv_at hl 6 rfl) ?_
                        refine hk_getr hx hb hts hC_9 hown hW gx tt_9 15 ?o96 rfl kw_379 ⟨rfl, rfl, rfl⟩ f_x_15 dX9_drawBench_128 ?_
                        case o96 => decide
                        refine lv_iload hx hb dX9_drawBench_131 (lv_at hl 1 rfl) ?_
                        refine hx_iald hx hb hW hT (gqfi.S hM) tt_47 rfl ⟨?o97, ?o98⟩ dX9_drawBench_133 (fun x_28 ex_28 lx_28 ux_28 => ?_)
                        case o97 => omega
                        case o98 => omega
                        have ax_28 : x_28 = ia5_qfi iv88_7.toNatClampNeg := ex_28.trans (congrFun nia5_qfi _)
                        have hfO9 := nxF_27
                        have hTO9 := hT
                        have gcO9 := gqc
                        have gtO9 := gq_24
                        have foO9 := eo_v1
                        have ftO9 := fq_24
                        have hTo := hT
                        refine hx_iast hx hb hW hT (hx_S.rf (M := [(21, 0)])) gq_24 tt_21 rfl ?o99 rfl (i32_r _) (List.mem_singleton.mpr rfl) dX9_drawBench_134 (fun H locs h_29 eh_29 hW hT hs => ?_)
                        case o99 => decide
                        replace f_x_7 := (hs.o gx trivial rfl).2.trans f_x_7
                        replace f_x_10 := (hs.o gx trivial rfl).2.trans f_x_10
                        replace f_x_15 := (hs.o gx trivial rfl).2.trans f_x_15
                        replace f_x_11 := (hs.o gx trivial rfl).1.trans f_x_11
                        replace f_x_8 := (hs.o gx trivial rfl).1.trans f_x_8
                        replace fq_24 := (hs.o (gv1.S hM) trivial rfl).2.trans fq_24
                        replace pf_x_8 : ∀ j : Nat, (j : Int) < (h_29.2.1 x 8).toInt → h_29.2.2 qp j ≠ none := by
                          intro j hj; rw [(hs.o gx trivial rfl).1] at hj; rw [(hs.a gqp rfl j).2]; exact pf_x_8 j hj
                        replace cl_qp_7 : hx_col 40 h_29 qp 7 = df := (hx_col_S hs hTo gqp tt_44 tt_4 rfl rfl).trans cl_qp_7
                        replace cl_qp_8 : hx_col 40 h_29 qp 8 = jf := (hx_col_S hs hTo gqp tt_44 tt_4 rfl rfl).trans cl_qp_8
                        replace cl_qp_2 : hx_col 40 h_29 qp 2 = kf := (hx_col_S hs hTo gqp tt_44 tt_4 rfl rfl).trans cl_qp_2
                        replace nu_qp : hx_num 40 h_29 qp 0 (pn0.toInt) := hx_num_S hs hTo gqp tt_44 tt_4 rfl rfl nu_qp
                        replace hDF : hw_DF h_29 qc qp 2 agf cn0.toInt := hw_DF_S hs hTo gqc gqp tt_45 tt_2 rfl rfl rfl hDF
                        replace hDP : hw_DF h_29 qc qp 1 byf cn0.toInt := hw_DF_S hs hTo gqc gqp tt_45 tt_2 rfl rfl rfl hDP
                        replace eo_v1 := (hs.a gqc rfl _).2.trans eo_v1
                        replace nia5_qfi : h_29.2.1 qfi = ia5_qfi := (funext fun j => (hs.a (gqfi.S hM) rfl j).1).trans nia5_qfi
                        replace ex_25 := ex_25.trans (hs.a (gqfi.S hM) rfl _).1.symm
                        replace ex_28 := ex_28.trans (hs.a (gqfi.S hM) rfl _).1.symm
                        replace hM := hM.tr (hs.mono ?o100)
                        case o100 => decide
                        replace gx := gx.S hs
                        replace gqp := gqp.S hs
                        replace gqc := gqc.S hs
                        replace gq_24 := gq_24.S hs
                        obtain ⟨xF_30, dxF_30⟩ : ∃ g : Nat → Int32, g = hx_up xF_27 ((1 : Int32).toNatClampNeg + 3 * ic.toNatClampNeg) x_28 := ⟨_, rfl⟩
                        have nxF_30 : hv_FX 3 5 h_29 qc xF_30 cn0.toInt := ?o101
                        case o101 =>
                          rw [dxF_30]
                          refine hv_FX_u hfO9 hTO9 gcO9 gtO9 ?o102 tt_45 (by unfold Int32.toNatClampNeg; omega) (by unfold Int32.toNatClampNeg; omega) foO9 ftO9 ?o103 eh_29
                          case o102 => decide
                          case o103 => decide
                        refine lv_aload_n hx hb dX9_drawBench_135 rfl (lv_at hl 7 rfl) ?_
                        refine hk_getr hx hb hts hC_2 hown hW (gv1.S hM) tt_2 5 ?o104 rfl kw_740 ⟨rfl, rfl, rfl⟩ fq_24 dX9_drawBench_136 ?_
                        case o104 => decide
                        refine lv_iconst (v := 2) hx hb dX9_drawBench_139 ?o105 ?_
                        case o105 => decide
                        refine lv_aload_n hx hb dX9_drawBench_140 rfl (lv_at hl 6 rfl) ?_
                        refine hk_getr hx hb hts hC_9 hown hW gx tt_9 15 ?o106 rfl kw_379 ⟨rfl, rfl, rfl⟩ f_x_15 dX9_drawBench_141 ?_
                        case o106 => decide
                        refine lv_iload hx hb dX9_drawBench_144 (lv_at hl 1 rfl) ?_
                        refine lv_iconst (v := 1) hx hb dX9_drawBench_146 ?o107 ?_
                        case o107 => decide
                        refine lv_iadd hx hb dX9_drawBench_147 ?_
                        refine lv_topi (fun x_31 ex_31 => ?_)
                        have zx_31 : x_31.toInt = iv88_7.toInt + 1 := ?o108
                        case o108 =>
                          rw [ex_31]
                          refine i32_add rfl ?o109 ?o110 ?o111
                          case o109 => decide
                          case o110 => omega
                          case o111 => omega
                        refine lv_iload hx hb dX9_drawBench_148 (lv_at hl 3 rfl) ?_
                        refine lv_iadd hx hb dX9_drawBench_150 ?_
                        have rg_32 := i32_r x_31
                        have rg_33 := i32_r iv88_5
                        refine lv_topi (fun x_34 ex_34 => ?_)
                        have zx_34 : x_34.toInt = x_31.toInt + iv88_5.toInt := ?o112
                        case o112 =>
                          rw [ex_34]
                          refine i32_add rfl rfl ?o113 ?o114
                          case o113 => omega
                          case o114 => omega
                        refine hx_iald hx hb hW hT (gqfi.S hM) tt_47 rfl ⟨?o115, ?o116⟩ dX9_drawBench_151 (fun x_35 ex_35 lx_35 ux_35 => ?_)
                        case o115 => omega
                        case o116 => omega
                        have ax_35 : x_35 = ia5_qfi x_34.toNatClampNeg := ex_35.trans (congrFun nia5_qfi _)
                        have hfO9 := nxF_30
                        have hTO9 := hT
                        have gcO9 := gqc
                        have gtO9 := gq_24
                        have foO9 := eo_v1
                        have ftO9 := fq_24
                        have hTo := hT
                        refine hx_iast hx hb hW hT (hx_S.rf (M := [(21, 0)])) gq_24 tt_21 rfl ?o117 rfl (i32_r _) (List.mem_singleton.mpr rfl) dX9_drawBench_152 (fun H locs h_36 eh_36 hW hT hs => ?_)
                        case o117 => decide
                        replace f_x_7 := (hs.o gx trivial rfl).2.trans f_x_7
                        replace f_x_10 := (hs.o gx trivial rfl).2.trans f_x_10
                        replace f_x_15 := (hs.o gx trivial rfl).2.trans f_x_15
                        replace f_x_11 := (hs.o gx trivial rfl).1.trans f_x_11
                        replace f_x_8 := (hs.o gx trivial rfl).1.trans f_x_8
                        replace fq_24 := (hs.o (gv1.S hM) trivial rfl).2.trans fq_24
                        replace pf_x_8 : ∀ j : Nat, (j : Int) < (h_36.2.1 x 8).toInt → h_36.2.2 qp j ≠ none := by
                          intro j hj; rw [(hs.o gx trivial rfl).1] at hj; rw [(hs.a gqp rfl j).2]; exact pf_x_8 j hj
                        replace cl_qp_7 : hx_col 40 h_36 qp 7 = df := (hx_col_S hs hTo gqp tt_44 tt_4 rfl rfl).trans cl_qp_7
                        replace cl_qp_8 : hx_col 40 h_36 qp 8 = jf := (hx_col_S hs hTo gqp tt_44 tt_4 rfl rfl).trans cl_qp_8
                        replace cl_qp_2 : hx_col 40 h_36 qp 2 = kf := (hx_col_S hs hTo gqp tt_44 tt_4 rfl rfl).trans cl_qp_2
                        replace nu_qp : hx_num 40 h_36 qp 0 (pn0.toInt) := hx_num_S hs hTo gqp tt_44 tt_4 rfl rfl nu_qp
                        replace hDF : hw_DF h_36 qc qp 2 agf cn0.toInt := hw_DF_S hs hTo gqc gqp tt_45 tt_2 rfl rfl rfl hDF
                        replace hDP : hw_DF h_36 qc qp 1 byf cn0.toInt := hw_DF_S hs hTo gqc gqp tt_45 tt_2 rfl rfl rfl hDP
                        replace eo_v1 := (hs.a gqc rfl _).2.trans eo_v1
                        replace nia5_qfi : h_36.2.1 qfi = ia5_qfi := (funext fun j => (hs.a (gqfi.S hM) rfl j).1).trans nia5_qfi
                        replace ex_25 := ex_25.trans (hs.a (gqfi.S hM) rfl _).1.symm
                        replace ex_28 := ex_28.trans (hs.a (gqfi.S hM) rfl _).1.symm
                        replace ex_35 := ex_35.trans (hs.a (gqfi.S hM) rfl _).1.symm
                        replace hM := hM.tr (hs.mono ?o118)
                        case o118 => decide
                        replace gx := gx.S hs
                        replace gqp := gqp.S hs
                        replace gqc := gqc.S hs
                        replace gq_24 := gq_24.S hs
                        obtain ⟨xF_37, dxF_37⟩ : ∃ g : Nat → Int32, g = hx_up xF_30 ((2 : Int32).toNatClampNeg + 3 * ic.toNatClampNeg) x_35 := ⟨_, rfl⟩
                        have nxF_37 : hv_FX 3 5 h_36 qc xF_37 cn0.toInt := ?o119
                        case o119 =>
                          rw [dxF_37]
                          refine hv_FX_u hfO9 hTO9 gcO9 gtO9 ?o120 tt_45 (by unfold Int32.toNatClampNeg; omega) (by unfold Int32.toNatClampNeg; omega) foO9 ftO9 ?o121 eh_36
                          case o120 => decide
                          case o121 => decide
                        refine lv_iconst (v := 1) hx hb dX9_drawBench_153 ?o122 ?_
                        case o122 => decide
                        refine hx_retz hx hb hr rfl hlk hW ⟨(Or.inl ⟨?o123, by rw [← hln9]; omega, x_25, x_28, x_35, xF_37, ⟨iv76_6.toInt, iv88_7.toInt, x_34.toInt, by rw [← hln9]; exact ⟨by omega, by omega, by omega, by omega⟩, (by rw [← hln9, show ((hv_fs jf df kf (byf ic.toNatClampNeg).toNatClampNeg (agf ic.toNatClampNeg).toNatClampNeg pn0.toInt.toNat)).length = iv5_3.toInt.toNat by omega, ← hp9]; unfold hv_ps; omega), (by rw [ax_25]; exact hfl9 iv76_6.toInt.toNat (by omega)), (by rw [ax_28]; exact hfl9 iv88_7.toInt.toNat (by omega)), (by rw [ax_35]; exact hfl9 x_34.toInt.toNat (by omega))⟩, (by have k0 : (0 : Int32).toNatClampNeg = 0 := (by decide); have k1 : (1 : Int32).toNatClampNeg = 1 := (by decide); have k2 : (2 : Int32).toNatClampNeg = 2 := (by decide); rw [dxF_37, dxF_30, dxF_27, k0, k1, k2]), nxF_37⟩), hT, hM⟩ dX9_drawBench_154
                        case o123 => decide
                refine loop88 41 iv76_5 x_12 _ _ hL1 hl1 ?o124 ?o125 ?o126 ?o127 (by rw [show iv5_3.toInt - x_12.toInt = iv5_3.toInt - iv76_6.toInt - 1 by omega]; omega) ?o128 ?o129 ls ?o130 hW hT hM f_x_7 f_x_10 f_x_15 f_x_11 f_x_8 gx gqp gqc pf_x_8 nia5_qfi cl_qp_7 cl_qp_8 cl_qp_2 nu_qp eo_v1 hDF hDP hBX hl
                case o124 => omega
                case o125 => omega
                case o126 => omega
                case o127 => omega
                case o128 => omega
                case o129 => omega
                case o130 => omega
          have zk_0 : (0 : Int32).toInt = 0 := ?o131
          case o131 => decide
          refine loop76 41 x_9 (0 : Int32) _ _ hL1 hl1 ?o132 ?o133 ?o134 ?o135 (by rw [zk_0, show iv5_3.toInt - 0 = iv5_3.toInt by omega]; omega) ?o136 ls ?o137 hW hT hM f_x_7 f_x_10 f_x_15 f_x_11 f_x_8 gx gqp gqc pf_x_8 nia5_qfi cl_qp_7 cl_qp_8 cl_qp_2 nu_qp eo_v1 hDF hDP hBX hl
          case o132 => omega
          case o133 => omega
          case o134 => decide
          case o135 => decide
          case o136 => omega
          case o137 => omega
        · skip
          refine lv_iconst (v := 0) hx hb dX9_drawBench_65 ?o138 ?_
          case o138 => decide
          refine hx_retz hx hb hr rfl hlk hW ⟨(Or.inr ⟨?o139, by rw [← hln9]; omega, hBX⟩), hT, hM⟩ dX9_drawBench_66
          case o139 => decide
      · skip
        refine lv_aload_n hx hb dX9_drawBench_14 rfl (lv_at hl 2 rfl) ?_
        refine hk_getr hx hb hts hC_9 hown hW gx tt_9 7 ?o140 rfl kw_371 ⟨rfl, rfl, rfl⟩ f_x_7 dX9_drawBench_15 ?_
        case o140 => decide
        refine lv_iload hx hb dX9_drawBench_18 (lv_at hl 0 rfl) ?_
        refine hx_aaldN hx hb hW hT gqp tt_44 (t1 := 4) rfl ⟨?o141, ?o142⟩ (pf_x_8 _ (by rw [f_x_8]; exact hx_tnI (by omega) (by omega))) dX9_drawBench_20 (fun q_38 fq_38 gq_38 => ?_)
        case o141 => omega
        case o142 => omega
        refine lv_aload_n hx hb dX9_drawBench_21 rfl (lv_at hl 3 rfl) ?_
        have hTo := hT
        refine hx_goi (hx_runV (As := [.ref v1]) (rest := []) ⟨hx, hb, hml, hown, hts⟩ hW gq_38 tt_4 (T := TX4) (N := 10) rfl (t_X4_maySit_v l dC dI dA hL1 hl1 H.size q_38 v1 hT gq_38 (gv1.S hM) qp gqp qc gqc (pn0.toInt) (cn0.toInt) iv5_4 fq_38 ⟨?o143, ?o144⟩ ic eo_v1 ⟨?o145, ?o146⟩ df cl_qp_7 jf cl_qp_8 kf cl_qp_2 nu_qp agf byf hDF hDP ?o147) (cwV 1 hts (hx_gV kw_822 kw_819 kw_820 kw_821 kw_108) rfl rfl rfl (by decide +kernel) ⟨Nat.le_of_ble_eq_true rfl, Nat.le_of_ble_eq_true rfl⟩) rfl hl.1 rfl (Nat.le_of_ble_eq_true rfl) dX9_drawBench_22 ⟨Nat.le_of_ble_eq_true rfl, Nat.le_of_ble_eq_true rfl⟩) hW (fun r_41 L_39 h_40 H locs p_42 hW => ?_)
        case o143 => omega
        case o144 => omega
        case o145 => omega
        case o146 => omega
        case o147 => omega
        obtain ⟨hr_43, hT, hs⟩ := p_42
        replace hT : hx_T T_tb L_39 h_40 := hT
        replace hs : hx_S T_tb [] hL1 hl1 L_39 h_40 := hs
        replace f_x_7 := (hs.o gx trivial rfl).2.trans f_x_7
        replace f_x_10 := (hs.o gx trivial rfl).2.trans f_x_10
        replace f_x_15 := (hs.o gx trivial rfl).2.trans f_x_15
        replace f_x_11 := (hs.o gx trivial rfl).1.trans f_x_11
        replace f_x_8 := (hs.o gx trivial rfl).1.trans f_x_8
        replace pf_x_8 : ∀ j : Nat, (j : Int) < (h_40.2.1 x 8).toInt → h_40.2.2 qp j ≠ none := by
          intro j hj; rw [(hs.o gx trivial rfl).1] at hj; rw [(hs.a gqp rfl j).2]; exact pf_x_8 j hj
        replace cl_qp_7 : hx_col 40 h_40 qp 7 = df := (hx_col_S hs hTo gqp tt_44 tt_4 rfl rfl).trans cl_qp_7
        replace cl_qp_8 : hx_col 40 h_40 qp 8 = jf := (hx_col_S hs hTo gqp tt_44 tt_4 rfl rfl).trans cl_qp_8
        replace cl_qp_2 : hx_col 40 h_40 qp 2 = kf := (hx_col_S hs hTo gqp tt_44 tt_4 rfl rfl).trans cl_qp_2
        replace nu_qp : hx_num 40 h_40 qp 0 (pn0.toInt) := hx_num_S hs hTo gqp tt_44 tt_4 rfl rfl nu_qp
        replace hDF : hw_DF h_40 qc qp 2 agf cn0.toInt := hw_DF_S hs hTo gqc gqp tt_45 tt_2 rfl rfl rfl hDF
        replace hDP : hw_DF h_40 qc qp 1 byf cn0.toInt := hw_DF_S hs hTo gqc gqp tt_45 tt_2 rfl rfl rfl hDP
        replace hBX : hv_FX 3 5 h_40 qc bF cn0.toInt := hv_FX_S hs hTo gqc tt_45 tt_2 rfl rfl rfl rfl hBX
        replace eo_v1 := (hs.a gqc rfl _).2.trans eo_v1
        replace fq_38 := (hs.a gqp rfl _).2.trans fq_38
        replace nia5_qfi : h_40.2.1 qfi = ia5_qfi := (funext fun j => (hs.a (gqfi.S hM) rfl j).1).trans nia5_qfi
        replace hM := hM.tr (hs.mono ?o148)
        case o148 => decide
        replace gx := gx.S hs
        replace gqp := gqp.S hs
        replace gqc := gqc.S hs
        replace gq_38 := gq_38.S hs
        refine hb_if_eq (zx := r_41.toInt) (tgt := 39) hx hb rfl dX9_drawBench_25 ?o149 (fun c_44 => ?_) (fun c_44 => ?_)
        case o149 => decide
        · skip
          obtain ⟨x_45, ex_45⟩ : ∃ y : Int32, y = iv5_4 + Int32.ofInt 1 := ⟨_, rfl⟩
          have rg_46 := i32_r iv5_4
          have zx_45 : x_45.toInt = iv5_4.toInt + (1) := ?o150
          case o150 =>
            rw [ex_45]
            refine i32_add rfl ?o151 ?o152 ?o153
            case o151 => decide
            case o152 => omega
            case o153 => omega
          refine lv_iinc (v := x_45) (lv' := [(4, .int x_45), (3, .int iv5_3), (0, .ref x), (1, .ref v1), (2, .int i2)]) hx hb dX9_drawBench_39 hl (k := 0) rfl ex_45.symm ?o154 rfl (fun ls hl => ?_)
          case o154 => decide
          refine lv_goto (tgt := 5) hx hb dX9_drawBench_42 ?o155 ?_
          case o155 => decide
          refine ih5 iv5_3 x_45 ia5_qfi _ _ L_39 h_40 ?o156 ?o157 ?o158 ?o159 (hv_fs_n vi5_0 (by rcases hr_43 with z | z; (exfalso; omega); exact z.2) ?o160 zx_45) ?o161 ?o162 ls ?o163 hW hT hM f_x_7 f_x_10 f_x_15 f_x_11 f_x_8 gx gqp gqc pf_x_8 nia5_qfi cl_qp_7 cl_qp_8 cl_qp_2 nu_qp eo_v1 hDF hDP hBX (lv_sub hl [0, 1, 2, 3, 4] rfl)
          case o156 => omega
          case o157 => omega
          case o158 => omega
          case o159 => omega
          case o160 => omega
          case o161 => omega
          case o162 => omega
          case o163 => omega
        · skip
          refine lv_aload_n hx hb dX9_drawBench_28 rfl (lv_at hl 2 rfl) ?_
          refine hk_getr hx hb hts hC_9 hown hW gx tt_9 15 ?o164 rfl kw_379 ⟨rfl, rfl, rfl⟩ f_x_15 dX9_drawBench_29 ?_
          case o164 => decide
          refine lv_iload_n hx hb dX9_drawBench_32 rfl (lv_at hl 1 rfl) ?_
          refine lv_iload hx hb dX9_drawBench_33 (lv_at hl 0 rfl) ?_
          have hTo := hT
          have nia5_qfiO := nia5_qfi
          have hTo := hT
          refine hx_iast hx hb hW hT (hx_S.rf (M := [(47, 0)])) (gqfi.S hM) tt_47 rfl ⟨?o165, ?o166⟩ rfl (i32_r _) (List.mem_singleton.mpr rfl) dX9_drawBench_35 (fun H locs h_47 eh_47 hW hT hs => ?_)
          case o165 => omega
          case o166 => omega
          replace f_x_7 := (hs.o gx trivial rfl).2.trans f_x_7
          replace f_x_10 := (hs.o gx trivial rfl).2.trans f_x_10
          replace f_x_15 := (hs.o gx trivial rfl).2.trans f_x_15
          replace f_x_11 := (hs.o gx trivial rfl).1.trans f_x_11
          replace f_x_8 := (hs.o gx trivial rfl).1.trans f_x_8
          replace pf_x_8 : ∀ j : Nat, (j : Int) < (h_47.2.1 x 8).toInt → h_47.2.2 qp j ≠ none := by
            intro j hj; rw [(hs.o gx trivial rfl).1] at hj; rw [(hs.a gqp rfl j).2]; exact pf_x_8 j hj
          replace cl_qp_7 : hx_col 40 h_47 qp 7 = df := (hx_col_S hs hTo gqp tt_44 tt_4 rfl rfl).trans cl_qp_7
          replace cl_qp_8 : hx_col 40 h_47 qp 8 = jf := (hx_col_S hs hTo gqp tt_44 tt_4 rfl rfl).trans cl_qp_8
          replace cl_qp_2 : hx_col 40 h_47 qp 2 = kf := (hx_col_S hs hTo gqp tt_44 tt_4 rfl rfl).trans cl_qp_2
          replace nu_qp : hx_num 40 h_47 qp 0 (pn0.toInt) := hx_num_S hs hTo gqp tt_44 tt_4 rfl rfl nu_qp
          replace hDF : hw_DF h_47 qc qp 2 agf cn0.toInt := hw_DF_S hs hTo gqc gqp tt_45 tt_2 rfl rfl rfl hDF
          replace hDP : hw_DF h_47 qc qp 1 byf cn0.toInt := hw_DF_S hs hTo gqc gqp tt_45 tt_2 rfl rfl rfl hDP
          replace hBX : hv_FX 3 5 h_47 qc bF cn0.toInt := hv_FX_S hs hTo gqc tt_45 tt_2 rfl rfl rfl rfl hBX
          replace eo_v1 := (hs.a gqc rfl _).2.trans eo_v1
          replace fq_38 := (hs.a gqp rfl _).2.trans fq_38
          replace hM := hM.tr (hs.mono ?o167)
          case o167 => decide
          replace gx := gx.S hs
          replace gqp := gqp.S hs
          replace gqc := gqc.S hs
          replace gq_38 := gq_38.S hs
          obtain ⟨fa_48, dfa_48⟩ : ∃ g : Nat → Int32, g = hx_up ia5_qfi iv5_3.toNatClampNeg iv5_4 := ⟨_, rfl⟩
          have nfa_48 : h_47.2.1 qfi = fa_48 := ?o168
          case o168 =>
            rw [eh_47, dfa_48, ← nia5_qfiO]
            exact hx_pi_fun _ _ _ _
          obtain ⟨x_49, ex_49⟩ : ∃ y : Int32, y = iv5_3 + Int32.ofInt 1 := ⟨_, rfl⟩
          have rg_50 := i32_r iv5_3
          have zx_49 : x_49.toInt = iv5_3.toInt + (1) := ?o169
          case o169 =>
            rw [ex_49]
            refine i32_add rfl ?o170 ?o171 ?o172
            case o170 => decide
            case o171 => omega
            case o172 => omega
          refine lv_iinc (v := x_49) (lv' := [(3, .int x_49), (4, .int iv5_4), (0, .ref x), (1, .ref v1), (2, .int i2)]) hx hb dX9_drawBench_36 hl (k := 1) rfl ex_49.symm ?o173 rfl (fun ls hl => ?_)
          case o173 => decide
          obtain ⟨x_51, ex_51⟩ : ∃ y : Int32, y = iv5_4 + Int32.ofInt 1 := ⟨_, rfl⟩
          have rg_52 := i32_r iv5_4
          have zx_51 : x_51.toInt = iv5_4.toInt + (1) := ?o174
          case o174 =>
            rw [ex_51]
            refine i32_add rfl ?o175 ?o176 ?o177
            case o175 => decide
            case o176 => omega
            case o177 => omega
          refine lv_iinc (v := x_51) (lv' := [(4, .int x_51), (3, .int x_49), (0, .ref x), (1, .ref v1), (2, .int i2)]) hx hb dX9_drawBench_39 hl (k := 1) rfl ex_51.symm ?o178 rfl (fun ls hl => ?_)
          case o178 => decide
          refine lv_goto (tgt := 5) hx hb dX9_drawBench_42 ?o179 ?_
          case o179 => decide
          refine ih5 x_49 x_51 fa_48 _ _ L_39 h_47 ?o180 ?o181 ?o182 ?o183 (hv_fs_y vi5_0 (by rcases hr_43 with z | z; exact z.2; exfalso; omega) ?o184 (by unfold Int32.toNatClampNeg; omega) rfl dfa_48 zx_51 ?o185) ?o186 ?o187 ls ?o188 hW hT hM f_x_7 f_x_10 f_x_15 f_x_11 f_x_8 gx gqp gqc pf_x_8 nfa_48 cl_qp_7 cl_qp_8 cl_qp_2 nu_qp eo_v1 hDF hDP hBX (lv_sub hl [0, 1, 2, 3, 4] rfl)
          case o180 => omega
          case o181 => omega
          case o182 => omega
          case o183 => omega
          case o184 => omega
          case o185 => omega
          case o186 => omega
          case o187 => omega
          case o188 => omega
  have zk_0 : (0 : Int32).toInt = 0 := ?o189
  case o189 => decide
  have zk_0 : (0 : Int32).toInt = 0 := ?o190
  case o190 => decide
  refine loop5 41 (0 : Int32) (0 : Int32) fi0 _ _ L h ?o191 ?o192 ?o193 ?o194 (by rw [zk_0]; exact ⟨hv_fl_0, rfl⟩) ?o195 ?o196 ls ?o197 hW hT hM f_x_7 f_x_10 f_x_15 f_x_11 f_x_8 gx gqp gqc pf_x_8 af_qfi cl_qp_7 cl_qp_8 cl_qp_2 nu_qp eo_v1 hDF hDP hBX hl
  case o191 => decide
  case o192 => decide
  case o193 => decide
  case o194 => decide
  case o195 => omega
  case o196 => omega
  case o197 => omega


set_option maxHeartbeats 4000000 in
set_option maxRecDepth 100000 in
theorem t_X10_draws_v (l : Launch) (dC : Nat → ClassId) (dI : Nat → Nat → Nat) (dA : Nat → ClassId) (L : List Nat) (h : hx_h) (sz : Nat) (x : Nat) (i1 : Int32) (i2 : Int32) (i3 : Int32) (hT : hx_T T_tb L h) (gx : hx_g L h x 10) (qb : Nat) (gqb : hx_g L h qb 87) (f_x_52 : h.2.2 x 52 = some qb) (qs : Nat) (gqs : hx_g L h qs 98) (f_x_65 : h.2.2 x 65 = some qs) (bf0 : Nat → Int32) (af_qb : h.2.1 qb = bf0) (sf : Nat → Int32) (af_qs : h.2.1 qs = sf) (hi1 : 0 ≤ i1.toInt ∧ i1.toInt ≤ 99) (hi2 : 0 ≤ i2.toInt ∧ i2.toInt ≤ 40) (lj : List Nat) (hfl : hv_fl sf lj) (hlj : i2.toInt = (lj.length : Int)) (hi3 : 0 ≤ i3.toInt ∧ i3.toInt < hv_T3 i2.toInt.toNat) : Met l yX10_draws (Cond.code yX10_draws cX10_draws 8 none :: hx_all) ({ frames := 0, cells := 0, slots := 0, locals := 0 }) (va_Pc [.ref x, .int i1, .int i2, .int i3] (hx_B T_tb (P_ty dA) (dC, dI) vwCl L h sz)) (va_Qv (fun (u : List Nat × hx_h) => (∃ (bf1 : Nat → Int32), u.2.2.1 qb = bf1 ∧ (∃ b0 b1 b2 : Int32, hv_BN lj i3.toInt b0 b1 b2 ∧ bf1 = hx_up (hx_up (hx_up bf0 (3 * i1.toInt.toNat) b0) (3 * i1.toInt.toNat + 1) b1) (3 * i1.toInt.toNat + 2) b2)) ∧ hx_T T_tb u.1 u.2 ∧ hx_S T_tb [(87, 0)] L h u.1 u.2) (hx_E T_tb (P_ty dA) (dC, dI) vwCl (hx_A L sz)) (hx_A L sz)) 0 0 (hx_A L sz) := by
  refine hx_met (lv := [(0, .ref x), (1, .int i1), (2, .int i2), (3, .int i3)]) (by decide +kernel) rfl (Nat.le_of_ble_eq_true rfl) rfl ?_
  intro p e s m below meth c hx hb hml hr hlk hts0 hown hin hsz hW ls hl
  have hts : ∀ w ∈ hx_all, w.before _ s = true := fun w hw => hts0 w (List.mem_cons_of_mem _ hw)
  have hown : s.vm.findClass "SmallCourtModel" = some m.cls := hown
  have hM : hx_S T_tb [(87, 0)] L h L h := hx_S.rf
  have ht9 := hv_T3_c (n := i2.toInt) ?o0 ?o1
  case o0 => omega
  case o1 => omega
  refine lv_iload_n hx hb dX10_draws_0 rfl (lv_at hl 3 rfl) ?_
  refine lv_istore (lv' := [(4, .int i3), (0, .ref x), (1, .int i1), (2, .int i2), (3, .int i3)]) hx hb dX10_draws_1 hl ?o2 rfl (fun ls hl => ?_)
  case o2 => decide
  refine lv_iconst (v := 0) hx hb dX10_draws_3 ?o3 ?_
  case o3 => decide
  refine lv_istore (lv' := [(5, .int (0 : Int32)), (4, .int i3), (0, .ref x), (1, .int i1), (2, .int i2), (3, .int i3)]) hx hb dX10_draws_4 hl ?o4 rfl (fun ls hl => ?_)
  case o4 => decide
  have loop6 : ∀ (n6 : Nat) (iv6_4 iv6_5 : Int32) (ia6_qb : Nat → Int32) (H : Heap) (locs : List Loc) (hL1 : List Nat) (hl1 : hx_h), -9880 ≤ iv6_4.toInt → iv6_4.toInt ≤ 9880 → 0 ≤ iv6_5.toInt → iv6_5.toInt ≤ 40 → (iv6_4.toInt = i3.toInt - hv_T3 i2.toInt.toNat + hv_T3 (i2.toInt - iv6_5.toInt).toNat) → ((hv_DB i2.toInt i3.toInt sf bf0 ia6_qb i1.toInt.toNat iv6_4.toInt)) → (iv6_5.toInt ≤ i2.toInt) → ∀ (ls : Array Slot), 40 - iv6_5.toInt < (n6 : Int) → hx_W T_tb (P_ty dA) (dC, dI) vwCl (hx_A L sz) s.heap hL1 hl1 s H locs → hx_T T_tb hL1 hl1 → hx_S T_tb [(87, 0)] L h hL1 hl1 → hl1.2.1 qb = ia6_qb → lv_has ls 8 [(5, .int iv6_5), (4, .int iv6_4), (0, .ref x), (1, .int i1), (2, .int i2), (3, .int i3)] → W p l e ({ frames := 0, cells := 0, slots := 0, locals := 0 }) s m ([.ref x, .int i1, .int i2, .int i3] : List Value).toArray below meth c H locs 0 0 (MQ below (va_Qv (fun (u : List Nat × hx_h) => (∃ (bf1 : Nat → Int32), u.2.2.1 qb = bf1 ∧ (∃ b0 b1 b2 : Int32, hv_BN lj i3.toInt b0 b1 b2 ∧ bf1 = hx_up (hx_up (hx_up bf0 (3 * i1.toInt.toNat) b0) (3 * i1.toInt.toNat + 1) b1) (3 * i1.toInt.toNat + 2) b2)) ∧ hx_T T_tb u.1 u.2 ∧ hx_S T_tb [(87, 0)] L h u.1 u.2) (hx_E T_tb (P_ty dA) (dC, dI) vwCl (hx_A L sz)) (hx_A L sz)) ([.ref x, .int i1, .int i2, .int i3] : List Value).toArray s 0 0 (hx_A L sz)) (F0 m 6 ls []) := by
    intro n6
    induction n6 with
    | zero => intro iv6_4 iv6_5 ia6_qb H locs hL1 hl1 bliv6_4 buiv6_4 bliv6_5 buiv6_5 vi6_0 vi6_1 vi6_2 ls hn6; exfalso; omega
    | succ n6 ih6 =>
      intro iv6_4 iv6_5 ia6_qb H locs hL1 hl1 bliv6_4 buiv6_4 bliv6_5 buiv6_5 vi6_0 vi6_1 vi6_2 ls hn6 hW hT hM  nia6_qb hl
      refine lv_iload hx hb dX10_draws_6 (lv_at hl 0 rfl) ?_
      refine lv_iload_n hx hb dX10_draws_8 rfl (lv_at hl 4 rfl) ?_
      refine hb_icmp_ge (zx := iv6_5.toInt) (zy := i2.toInt) (tgt := 111) hx hb rfl rfl dX10_draws_9 ?o5 (fun c_1 => ?_) (fun c_1 => ?_)
      case o5 => decide
      · skip
        exact hx_retv hx hb hr hlk hW ⟨⟨ia6_qb, nia6_qb, (hv_DB_e vi6_1 (by have h8 : hv_T3 (i2.toInt - iv6_5.toInt).toNat = 0 := by { rw [show (i2.toInt - iv6_5.toInt).toNat = 0 by omega]; rfl }; omega) hfl hlj)⟩, hT, hM⟩ dX10_draws_111
      · skip
        refine lv_iload hx hb dX10_draws_12 (lv_at hl 0 rfl) ?_
        refine lv_iconst (v := 1) hx hb dX10_draws_14 ?o6 ?_
        case o6 => decide
        refine lv_iadd hx hb dX10_draws_15 ?_
        have rg_2 := i32_r iv6_5
        refine lv_topi (fun x_3 ex_3 => ?_)
        have zx_3 : x_3.toInt = iv6_5.toInt + 1 := ?o7
        case o7 =>
          rw [ex_3]
          refine i32_add rfl ?o8 ?o9 ?o10
          case o8 => decide
          case o9 => omega
          case o10 => omega
        refine lv_istore (lv' := [(6, .int x_3), (5, .int iv6_5), (4, .int iv6_4), (0, .ref x), (1, .int i1), (2, .int i2), (3, .int i3)]) hx hb dX10_draws_16 hl ?o11 rfl (fun ls hl => ?_)
        case o11 => decide
        have loop18 : ∀ (n18 : Nat) (iv18_4 iv18_6 : Int32) (ia18_qb : Nat → Int32) (H : Heap) (locs : List Loc) (hL1 : List Nat) (hl1 : hx_h), -9880 ≤ iv18_4.toInt → iv18_4.toInt ≤ 9880 → 0 ≤ iv18_6.toInt → iv18_6.toInt ≤ 40 → (iv18_4.toInt = i3.toInt - hv_T3 i2.toInt.toNat + hv_T3 (i2.toInt - iv6_5.toInt).toNat - hv_T2 (i2.toInt - iv6_5.toInt - 1).toNat + hv_T2 (i2.toInt - iv18_6.toInt).toNat) → ((hv_DB i2.toInt i3.toInt sf bf0 ia18_qb i1.toInt.toNat iv18_4.toInt)) → (iv18_6.toInt ≤ i2.toInt) → (iv6_5.toInt + 1 ≤ iv18_6.toInt) → ∀ (ls : Array Slot), 40 - iv18_6.toInt < (n18 : Int) → hx_W T_tb (P_ty dA) (dC, dI) vwCl (hx_A L sz) s.heap hL1 hl1 s H locs → hx_T T_tb hL1 hl1 → hx_S T_tb [(87, 0)] L h hL1 hl1 → hl1.2.1 qb = ia18_qb → lv_has ls 8 [(6, .int iv18_6), (5, .int iv6_5), (4, .int iv18_4), (0, .ref x), (1, .int i1), (2, .int i2), (3, .int i3)] → W p l e ({ frames := 0, cells := 0, slots := 0, locals := 0 }) s m ([.ref x, .int i1, .int i2, .int i3] : List Value).toArray below meth c H locs 0 0 (MQ below (va_Qv (fun (u : List Nat × hx_h) => (∃ (bf1 : Nat → Int32), u.2.2.1 qb = bf1 ∧ (∃ b0 b1 b2 : Int32, hv_BN lj i3.toInt b0 b1 b2 ∧ bf1 = hx_up (hx_up (hx_up bf0 (3 * i1.toInt.toNat) b0) (3 * i1.toInt.toNat + 1) b1) (3 * i1.toInt.toNat + 2) b2)) ∧ hx_T T_tb u.1 u.2 ∧ hx_S T_tb [(87, 0)] L h u.1 u.2) (hx_E T_tb (P_ty dA) (dC, dI) vwCl (hx_A L sz)) (hx_A L sz)) ([.ref x, .int i1, .int i2, .int i3] : List Value).toArray s 0 0 (hx_A L sz)) (F0 m 18 ls []) := by
          intro n18
          induction n18 with
          | zero => intro iv18_4 iv18_6 ia18_qb H locs hL1 hl1 bliv18_4 buiv18_4 bliv18_6 buiv18_6 vi18_0 vi18_1 vi18_2 vi18_3 ls hn18; exfalso; omega
          | succ n18 ih18 =>
            intro iv18_4 iv18_6 ia18_qb H locs hL1 hl1 bliv18_4 buiv18_4 bliv18_6 buiv18_6 vi18_0 vi18_1 vi18_2 vi18_3 ls hn18 hW hT hM  nia18_qb hl
            refine lv_iload hx hb dX10_draws_18 (lv_at hl 0 rfl) ?_
            refine lv_iload_n hx hb dX10_draws_20 rfl (lv_at hl 5 rfl) ?_
            refine hb_icmp_ge (zx := iv18_6.toInt) (zy := i2.toInt) (tgt := 105) hx hb rfl rfl dX10_draws_21 ?o12 (fun c_4 => ?_) (fun c_4 => ?_)
            case o12 => decide
            · skip
              obtain ⟨x_5, ex_5⟩ : ∃ y : Int32, y = iv6_5 + Int32.ofInt 1 := ⟨_, rfl⟩
              have zx_5 : x_5.toInt = iv6_5.toInt + (1) := ?o13
              case o13 =>
                rw [ex_5]
                refine i32_add rfl ?o14 ?o15 ?o16
                case o14 => decide
                case o15 => omega
                case o16 => omega
              refine lv_iinc (v := x_5) (lv' := [(5, .int x_5), (6, .int iv18_6), (4, .int iv18_4), (0, .ref x), (1, .int i1), (2, .int i2), (3, .int i3)]) hx hb dX10_draws_105 hl (k := 1) rfl ex_5.symm ?o17 rfl (fun ls hl => ?_)
              case o17 => decide
              refine lv_goto (tgt := 6) hx hb dX10_draws_108 ?o18 ?_
              case o18 => decide
              refine ih6 iv18_4 x_5 ia18_qb _ _ hL1 hl1 ?o19 ?o20 ?o21 ?o22 (by have h9 := hv_T3_p (m := i2.toInt - iv6_5.toInt) (by omega); have h8 : hv_T2 (i2.toInt - iv18_6.toInt).toNat = 0 := by { rw [show (i2.toInt - iv18_6.toInt).toNat = 0 by omega]; rfl }; rw [show i2.toInt - x_5.toInt = i2.toInt - iv6_5.toInt - 1 by omega]; omega) vi18_1 ?o23 ls ?o24 hW hT hM  nia18_qb (lv_sub hl [0, 2, 3, 4, 5, 6] rfl)
              case o19 => omega
              case o20 => omega
              case o21 => omega
              case o22 => omega
              case o23 => omega
              case o24 => omega
            · skip
              refine lv_iload hx hb dX10_draws_24 (lv_at hl 0 rfl) ?_
              refine lv_iconst (v := 1) hx hb dX10_draws_26 ?o25 ?_
              case o25 => decide
              refine lv_iadd hx hb dX10_draws_27 ?_
              have rg_6 := i32_r iv18_6
              refine lv_topi (fun x_7 ex_7 => ?_)
              have zx_7 : x_7.toInt = iv18_6.toInt + 1 := ?o26
              case o26 =>
                rw [ex_7]
                refine i32_add rfl ?o27 ?o28 ?o29
                case o27 => decide
                case o28 => omega
                case o29 => omega
              refine lv_istore (lv' := [(7, .int x_7), (6, .int iv18_6), (5, .int iv6_5), (4, .int iv18_4), (0, .ref x), (1, .int i1), (2, .int i2), (3, .int i3)]) hx hb dX10_draws_28 hl ?o30 rfl (fun ls hl => ?_)
              case o30 => decide
              have loop30 : ∀ (n30 : Nat) (iv30_4 iv30_7 : Int32) (ia30_qb : Nat → Int32) (H : Heap) (locs : List Loc) (hL1 : List Nat) (hl1 : hx_h), -9880 ≤ iv30_4.toInt → iv30_4.toInt ≤ 9880 → 0 ≤ iv30_7.toInt → iv30_7.toInt ≤ 40 → (iv30_4.toInt = i3.toInt - hv_T3 i2.toInt.toNat + hv_T3 (i2.toInt - iv6_5.toInt).toNat - hv_T2 (i2.toInt - iv6_5.toInt - 1).toNat + hv_T2 (i2.toInt - iv18_6.toInt).toNat - (iv30_7.toInt - iv18_6.toInt - 1)) → ((hv_DB i2.toInt i3.toInt sf bf0 ia30_qb i1.toInt.toNat iv30_4.toInt)) → (iv30_7.toInt ≤ i2.toInt) → (iv18_6.toInt + 1 ≤ iv30_7.toInt) → ∀ (ls : Array Slot), 40 - iv30_7.toInt < (n30 : Int) → hx_W T_tb (P_ty dA) (dC, dI) vwCl (hx_A L sz) s.heap hL1 hl1 s H locs → hx_T T_tb hL1 hl1 → hx_S T_tb [(87, 0)] L h hL1 hl1 → hl1.2.1 qb = ia30_qb → lv_has ls 8 [(7, .int iv30_7), (6, .int iv18_6), (5, .int iv6_5), (4, .int iv30_4), (0, .ref x), (1, .int i1), (2, .int i2), (3, .int i3)] → W p l e ({ frames := 0, cells := 0, slots := 0, locals := 0 }) s m ([.ref x, .int i1, .int i2, .int i3] : List Value).toArray below meth c H locs 0 0 (MQ below (va_Qv (fun (u : List Nat × hx_h) => (∃ (bf1 : Nat → Int32), u.2.2.1 qb = bf1 ∧ (∃ b0 b1 b2 : Int32, hv_BN lj i3.toInt b0 b1 b2 ∧ bf1 = hx_up (hx_up (hx_up bf0 (3 * i1.toInt.toNat) b0) (3 * i1.toInt.toNat + 1) b1) (3 * i1.toInt.toNat + 2) b2)) ∧ hx_T T_tb u.1 u.2 ∧ hx_S T_tb [(87, 0)] L h u.1 u.2) (hx_E T_tb (P_ty dA) (dC, dI) vwCl (hx_A L sz)) (hx_A L sz)) ([.ref x, .int i1, .int i2, .int i3] : List Value).toArray s 0 0 (hx_A L sz)) (F0 m 30 ls []) := by
                intro n30
                induction n30 with
                | zero => intro iv30_4 iv30_7 ia30_qb H locs hL1 hl1 bliv30_4 buiv30_4 bliv30_7 buiv30_7 vi30_0 vi30_1 vi30_2 vi30_3 ls hn30; exfalso; omega
                | succ n30 ih30 =>
                  intro iv30_4 iv30_7 ia30_qb H locs hL1 hl1 bliv30_4 buiv30_4 bliv30_7 buiv30_7 vi30_0 vi30_1 vi30_2 vi30_3 ls hn30 hW hT hM  nia30_qb hl
                  refine lv_iload hx hb dX10_draws_30 (lv_at hl 0 rfl) ?_
                  refine lv_iload_n hx hb dX10_draws_32 rfl (lv_at hl 6 rfl) ?_
                  refine hb_icmp_ge (zx := iv30_7.toInt) (zy := i2.toInt) (tgt := 99) hx hb rfl rfl dX10_draws_33 ?o31 (fun c_8 => ?_) (fun c_8 => ?_)
                  case o31 => decide
                  · skip
                    obtain ⟨x_9, ex_9⟩ : ∃ y : Int32, y = iv18_6 + Int32.ofInt 1 := ⟨_, rfl⟩
                    have zx_9 : x_9.toInt = iv18_6.toInt + (1) := ?o32
                    case o32 =>
                      rw [ex_9]
                      refine i32_add rfl ?o33 ?o34 ?o35
                      case o33 => decide
                      case o34 => omega
                      case o35 => omega
                    refine lv_iinc (v := x_9) (lv' := [(6, .int x_9), (7, .int iv30_7), (5, .int iv6_5), (4, .int iv30_4), (0, .ref x), (1, .int i1), (2, .int i2), (3, .int i3)]) hx hb dX10_draws_99 hl (k := 1) rfl ex_9.symm ?o36 rfl (fun ls hl => ?_)
                    case o36 => decide
                    refine lv_goto (tgt := 18) hx hb dX10_draws_102 ?o37 ?_
                    case o37 => decide
                    refine ih18 iv30_4 x_9 ia30_qb _ _ hL1 hl1 ?o38 ?o39 ?o40 ?o41 (by have h9 := hv_T2_p (m := i2.toInt - iv18_6.toInt) (by omega); rw [show i2.toInt - x_9.toInt = i2.toInt - iv18_6.toInt - 1 by omega]; omega) vi30_1 ?o42 ?o43 ls ?o44 hW hT hM  nia30_qb (lv_sub hl [0, 2, 3, 4, 5, 6, 7] rfl)
                    case o38 => omega
                    case o39 => omega
                    case o40 => omega
                    case o41 => omega
                    case o42 => omega
                    case o43 => omega
                    case o44 => omega
                  · skip
                    have hpb9 := hv_ps_b (n := i2.toInt) (a := iv6_5.toInt) (b := iv18_6.toInt) (c := iv30_7.toInt) ⟨by omega, by omega, by omega, by omega⟩; unfold hv_ps at hpb9
                    refine lv_iload hx hb dX10_draws_36 (lv_at hl 3 rfl) ?_
                    refine hb_if_ne (zx := iv30_4.toInt) (tgt := 90) hx hb rfl dX10_draws_38 ?o45 (fun c_10 => ?_) (fun c_10 => ?_)
                    case o45 => decide
                    · skip
                      obtain ⟨x_11, ex_11⟩ : ∃ y : Int32, y = iv30_4 + Int32.ofInt (-1) := ⟨_, rfl⟩
                      have rg_12 := i32_r iv30_4
                      have zx_11 : x_11.toInt = iv30_4.toInt + (-1) := ?o46
                      case o46 =>
                        rw [ex_11]
                        refine i32_add rfl ?o47 ?o48 ?o49
                        case o47 => decide
                        case o48 => omega
                        case o49 => omega
                      refine lv_iinc (v := x_11) (lv' := [(4, .int x_11), (7, .int iv30_7), (6, .int iv18_6), (5, .int iv6_5), (0, .ref x), (1, .int i1), (2, .int i2), (3, .int i3)]) hx hb dX10_draws_90 hl (k := 3) rfl ex_11.symm ?o50 rfl (fun ls hl => ?_)
                      case o50 => decide
                      obtain ⟨x_13, ex_13⟩ : ∃ y : Int32, y = iv30_7 + Int32.ofInt 1 := ⟨_, rfl⟩
                      have rg_14 := i32_r iv30_7
                      have zx_13 : x_13.toInt = iv30_7.toInt + (1) := ?o51
                      case o51 =>
                        rw [ex_13]
                        refine i32_add rfl ?o52 ?o53 ?o54
                        case o52 => decide
                        case o53 => omega
                        case o54 => omega
                      refine lv_iinc (v := x_13) (lv' := [(7, .int x_13), (4, .int x_11), (6, .int iv18_6), (5, .int iv6_5), (0, .ref x), (1, .int i1), (2, .int i2), (3, .int i3)]) hx hb dX10_draws_93 hl (k := 1) rfl ex_13.symm ?o55 rfl (fun ls hl => ?_)
                      case o55 => decide
                      refine lv_goto (tgt := 30) hx hb dX10_draws_96 ?o56 ?_
                      case o56 => decide
                      refine ih30 x_11 x_13 ia30_qb _ _ hL1 hl1 ?o57 ?o58 ?o59 ?o60 ?o61 (hv_DB_n vi30_1 ?o62 ?o63) ?o64 ?o65 ls ?o66 hW hT hM  nia30_qb (lv_sub hl [0, 2, 3, 1, 4, 5, 6, 7] rfl)
                      case o57 => omega
                      case o58 => omega
                      case o59 => omega
                      case o60 => omega
                      case o61 => omega
                      case o62 => omega
                      case o63 => omega
                      case o64 => omega
                      case o65 => omega
                      case o66 => omega
                    · skip
                      refine lv_aload_n hx hb dX10_draws_41 rfl (lv_at hl 4 rfl) ?_
                      refine hk_getr hx hb hts hC_10 hown hW (gx.S hM) tt_10 52 ?o67 rfl kw_1195 ⟨rfl, rfl, rfl⟩ ((hM.o gx trivial rfl).2.trans f_x_52) dX10_draws_42 ?_
                      case o67 => decide
                      refine lv_iconst (v := 3) hx hb dX10_draws_45 ?o68 ?_
                      case o68 => decide
                      refine lv_iload_n hx hb dX10_draws_46 rfl (lv_at hl 5 rfl) ?_
                      refine lv_imul hx hb dX10_draws_47 ?_
                      refine lv_topi (fun x_15 ex_15 => ?_)
                      have zx_15 : x_15.toInt = 3 * i1.toInt := ?o69
                      case o69 =>
                        rw [ex_15]
                        refine i32_mul ?o70 rfl rfl ?o71 ?o72
                        case o70 => decide
                        case o71 => omega
                        case o72 => omega
                      refine lv_aload_n hx hb dX10_draws_48 rfl (lv_at hl 4 rfl) ?_
                      refine hk_getr hx hb hts hC_10 hown hW (gx.S hM) tt_10 65 ?o73 rfl kw_1208 ⟨rfl, rfl, rfl⟩ ((hM.o gx trivial rfl).2.trans f_x_65) dX10_draws_49 ?_
                      case o73 => decide
                      refine lv_iload hx hb dX10_draws_52 (lv_at hl 2 rfl) ?_
                      refine hx_iald hx hb hW hT (gqs.S hM) tt_98 rfl ⟨?o74, ?o75⟩ dX10_draws_54 (fun x_16 ex_16 lx_16 ux_16 => ?_)
                      case o74 => omega
                      case o75 => omega
                      have ax_16 : x_16 = sf iv6_5.toNatClampNeg := ex_16.trans (congrFun (hx_afS hM gqs rfl af_qs) _)
                      have nia30_qbO := nia30_qb
                      refine hx_iast hx hb hW hT (hx_S.rf (M := [(87, 0)])) (gqb.S hM) tt_87 rfl ⟨?o76, ?o77⟩ rfl (i32_r _) (List.mem_singleton.mpr rfl) dX10_draws_55 (fun H locs h_17 eh_17 hW hT hs => ?_)
                      case o76 => omega
                      case o77 => omega
                      replace ex_16 := ex_16.trans (hs.a (gqs.S hM) rfl _).1.symm
                      replace hM := hM.tr (hs.mono ?o78)
                      case o78 => decide
                      obtain ⟨fa_18, dfa_18⟩ : ∃ g : Nat → Int32, g = hx_up ia30_qb x_15.toNatClampNeg x_16 := ⟨_, rfl⟩
                      have nfa_18 : h_17.2.1 qb = fa_18 := ?o79
                      case o79 =>
                        rw [eh_17, dfa_18, ← nia30_qbO]
                        exact hx_pi_fun _ _ _ _
                      refine lv_aload_n hx hb dX10_draws_56 rfl (lv_at hl 4 rfl) ?_
                      refine hk_getr hx hb hts hC_10 hown hW (gx.S hM) tt_10 52 ?o80 rfl kw_1195 ⟨rfl, rfl, rfl⟩ ((hM.o gx trivial rfl).2.trans f_x_52) dX10_draws_57 ?_
                      case o80 => decide
                      refine lv_iconst (v := 3) hx hb dX10_draws_60 ?o81 ?_
                      case o81 => decide
                      refine lv_iload_n hx hb dX10_draws_61 rfl (lv_at hl 5 rfl) ?_
                      refine lv_imul hx hb dX10_draws_62 ?_
                      refine lv_topi (fun x_19 ex_19 => ?_)
                      have zx_19 : x_19.toInt = 3 * i1.toInt := ?o82
                      case o82 =>
                        rw [ex_19]
                        refine i32_mul ?o83 rfl rfl ?o84 ?o85
                        case o83 => decide
                        case o84 => omega
                        case o85 => omega
                      refine lv_iconst (v := 1) hx hb dX10_draws_63 ?o86 ?_
                      case o86 => decide
                      refine lv_iadd hx hb dX10_draws_64 ?_
                      have rg_20 := i32_r x_19
                      refine lv_topi (fun x_21 ex_21 => ?_)
                      have zx_21 : x_21.toInt = x_19.toInt + 1 := ?o87
                      case o87 =>
                        rw [ex_21]
                        refine i32_add rfl ?o88 ?o89 ?o90
                        case o88 => decide
                        case o89 => omega
                        case o90 => omega
                      refine lv_aload_n hx hb dX10_draws_65 rfl (lv_at hl 4 rfl) ?_
                      refine hk_getr hx hb hts hC_10 hown hW (gx.S hM) tt_10 65 ?o91 rfl kw_1208 ⟨rfl, rfl, rfl⟩ ((hM.o gx trivial rfl).2.trans f_x_65) dX10_draws_66 ?_
                      case o91 => decide
                      refine lv_iload hx hb dX10_draws_69 (lv_at hl 1 rfl) ?_
                      refine hx_iald hx hb hW hT (gqs.S hM) tt_98 rfl ⟨?o92, ?o93⟩ dX10_draws_71 (fun x_22 ex_22 lx_22 ux_22 => ?_)
                      case o92 => omega
                      case o93 => omega
                      have ax_22 : x_22 = sf iv18_6.toNatClampNeg := ex_22.trans (congrFun (hx_afS hM gqs rfl af_qs) _)
                      have nfa_18O := nfa_18
                      refine hx_iast hx hb hW hT (hx_S.rf (M := [(87, 0)])) (gqb.S hM) tt_87 rfl ⟨?o94, ?o95⟩ rfl (i32_r _) (List.mem_singleton.mpr rfl) dX10_draws_72 (fun H locs h_23 eh_23 hW hT hs => ?_)
                      case o94 => omega
                      case o95 => omega
                      replace ex_16 := ex_16.trans (hs.a (gqs.S hM) rfl _).1.symm
                      replace ex_22 := ex_22.trans (hs.a (gqs.S hM) rfl _).1.symm
                      replace hM := hM.tr (hs.mono ?o96)
                      case o96 => decide
                      obtain ⟨fa_24, dfa_24⟩ : ∃ g : Nat → Int32, g = hx_up fa_18 x_21.toNatClampNeg x_22 := ⟨_, rfl⟩
                      have nfa_24 : h_23.2.1 qb = fa_24 := ?o97
                      case o97 =>
                        rw [eh_23, dfa_24, ← nfa_18O]
                        exact hx_pi_fun _ _ _ _
                      refine lv_aload_n hx hb dX10_draws_73 rfl (lv_at hl 4 rfl) ?_
                      refine hk_getr hx hb hts hC_10 hown hW (gx.S hM) tt_10 52 ?o98 rfl kw_1195 ⟨rfl, rfl, rfl⟩ ((hM.o gx trivial rfl).2.trans f_x_52) dX10_draws_74 ?_
                      case o98 => decide
                      refine lv_iconst (v := 3) hx hb dX10_draws_77 ?o99 ?_
                      case o99 => decide
                      refine lv_iload_n hx hb dX10_draws_78 rfl (lv_at hl 5 rfl) ?_
                      refine lv_imul hx hb dX10_draws_79 ?_
                      refine lv_topi (fun x_25 ex_25 => ?_)
                      have zx_25 : x_25.toInt = 3 * i1.toInt := ?o100
                      case o100 =>
                        rw [ex_25]
                        refine i32_mul ?o101 rfl rfl ?o102 ?o103
                        case o101 => decide
                        case o102 => omega
                        case o103 => omega
                      refine lv_iconst (v := 2) hx hb dX10_draws_80 ?o104 ?_
                      case o104 => decide
                      refine lv_iadd hx hb dX10_draws_81 ?_
                      have rg_26 := i32_r x_25
                      refine lv_topi (fun x_27 ex_27 => ?_)
                      have zx_27 : x_27.toInt = x_25.toInt + 2 := ?o105
                      case o105 =>
                        rw [ex_27]
                        refine i32_add rfl ?o106 ?o107 ?o108
                        case o106 => decide
                        case o107 => omega
                        case o108 => omega
                      refine lv_aload_n hx hb dX10_draws_82 rfl (lv_at hl 4 rfl) ?_
                      refine hk_getr hx hb hts hC_10 hown hW (gx.S hM) tt_10 65 ?o109 rfl kw_1208 ⟨rfl, rfl, rfl⟩ ((hM.o gx trivial rfl).2.trans f_x_65) dX10_draws_83 ?_
                      case o109 => decide
                      refine lv_iload hx hb dX10_draws_86 (lv_at hl 0 rfl) ?_
                      refine hx_iald hx hb hW hT (gqs.S hM) tt_98 rfl ⟨?o110, ?o111⟩ dX10_draws_88 (fun x_28 ex_28 lx_28 ux_28 => ?_)
                      case o110 => omega
                      case o111 => omega
                      have ax_28 : x_28 = sf iv30_7.toNatClampNeg := ex_28.trans (congrFun (hx_afS hM gqs rfl af_qs) _)
                      have nfa_24O := nfa_24
                      refine hx_iast hx hb hW hT (hx_S.rf (M := [(87, 0)])) (gqb.S hM) tt_87 rfl ⟨?o112, ?o113⟩ rfl (i32_r _) (List.mem_singleton.mpr rfl) dX10_draws_89 (fun H locs h_29 eh_29 hW hT hs => ?_)
                      case o112 => omega
                      case o113 => omega
                      replace ex_16 := ex_16.trans (hs.a (gqs.S hM) rfl _).1.symm
                      replace ex_22 := ex_22.trans (hs.a (gqs.S hM) rfl _).1.symm
                      replace ex_28 := ex_28.trans (hs.a (gqs.S hM) rfl _).1.symm
                      replace hM := hM.tr (hs.mono ?o114)
                      case o114 => decide
                      obtain ⟨fa_30, dfa_30⟩ : ∃ g : Nat → Int32, g = hx_up fa_24 x_27.toNatClampNeg x_28 := ⟨_, rfl⟩
                      have nfa_30 : h_29.2.1 qb = fa_30 := ?o115
                      case o115 =>
                        rw [eh_29, dfa_30, ← nfa_24O]
                        exact hx_pi_fun _ _ _ _
                      obtain ⟨x_31, ex_31⟩ : ∃ y : Int32, y = iv30_4 + Int32.ofInt (-1) := ⟨_, rfl⟩
                      have rg_32 := i32_r iv30_4
                      have zx_31 : x_31.toInt = iv30_4.toInt + (-1) := ?o116
                      case o116 =>
                        rw [ex_31]
                        refine i32_add rfl ?o117 ?o118 ?o119
                        case o117 => decide
                        case o118 => omega
                        case o119 => omega
                      refine lv_iinc (v := x_31) (lv' := [(4, .int x_31), (7, .int iv30_7), (6, .int iv18_6), (5, .int iv6_5), (0, .ref x), (1, .int i1), (2, .int i2), (3, .int i3)]) hx hb dX10_draws_90 hl (k := 3) rfl ex_31.symm ?o120 rfl (fun ls hl => ?_)
                      case o120 => decide
                      obtain ⟨x_33, ex_33⟩ : ∃ y : Int32, y = iv30_7 + Int32.ofInt 1 := ⟨_, rfl⟩
                      have rg_34 := i32_r iv30_7
                      have zx_33 : x_33.toInt = iv30_7.toInt + (1) := ?o121
                      case o121 =>
                        rw [ex_33]
                        refine i32_add rfl ?o122 ?o123 ?o124
                        case o122 => decide
                        case o123 => omega
                        case o124 => omega
                      refine lv_iinc (v := x_33) (lv' := [(7, .int x_33), (4, .int x_31), (6, .int iv18_6), (5, .int iv6_5), (0, .ref x), (1, .int i1), (2, .int i2), (3, .int i3)]) hx hb dX10_draws_93 hl (k := 1) rfl ex_33.symm ?o125 rfl (fun ls hl => ?_)
                      case o125 => decide
                      refine lv_goto (tgt := 30) hx hb dX10_draws_96 ?o126 ?_
                      case o126 => decide
                      refine ih30 x_31 x_33 fa_30 _ _ hL1 h_29 ?o127 ?o128 ?o129 ?o130 ?o131 (hv_DB_y vi30_1 ?o132 ?o133 (x := iv6_5.toInt) (y := iv18_6.toInt) (z := iv30_7.toInt) ⟨?o134, ?o135, ?o136, ?o137⟩ (by unfold hv_ps; omega) dfa_18 dfa_24 dfa_30 (by unfold Int32.toNatClampNeg; omega) (by unfold Int32.toNatClampNeg; omega) (by unfold Int32.toNatClampNeg; omega) ax_16 ax_22 ax_28 (by unfold Int32.toNatClampNeg; omega) (by unfold Int32.toNatClampNeg; omega) (by unfold Int32.toNatClampNeg; omega)) ?o138 ?o139 ls ?o140 hW hT hM  nfa_30 (lv_sub hl [0, 2, 3, 1, 4, 5, 6, 7] rfl)
                      case o127 => omega
                      case o128 => omega
                      case o129 => omega
                      case o130 => omega
                      case o131 => omega
                      case o132 => omega
                      case o133 => omega
                      case o134 => omega
                      case o135 => omega
                      case o136 => omega
                      case o137 => omega
                      case o138 => omega
                      case o139 => omega
                      case o140 => omega
              refine loop30 41 iv18_4 x_7 ia18_qb _ _ hL1 hl1 ?o141 ?o142 ?o143 ?o144 ?o145 vi18_1 ?o146 ?o147 ls ?o148 hW hT hM  nia18_qb hl
              case o141 => omega
              case o142 => omega
              case o143 => omega
              case o144 => omega
              case o145 => omega
              case o146 => omega
              case o147 => omega
              case o148 => omega
        refine loop18 41 iv6_4 x_3 ia6_qb _ _ hL1 hl1 ?o149 ?o150 ?o151 ?o152 (by rw [show i2.toInt - x_3.toInt = i2.toInt - iv6_5.toInt - 1 by omega]; omega) vi6_1 ?o153 ?o154 ls ?o155 hW hT hM  nia6_qb hl
        case o149 => omega
        case o150 => omega
        case o151 => omega
        case o152 => omega
        case o153 => omega
        case o154 => omega
        case o155 => omega
  have zk_0 : (0 : Int32).toInt = 0 := ?o156
  case o156 => decide
  refine loop6 41 i3 (0 : Int32) bf0 _ _ L h ?o157 ?o158 ?o159 ?o160 (by rw [zk_0, show i2.toInt - 0 = i2.toInt by omega]; omega) (Or.inl ⟨?o161, rfl⟩) ?o162 ls ?o163 hW hT hM  af_qb hl
  case o157 => omega
  case o158 => omega
  case o159 => decide
  case o160 => decide
  case o161 => omega
  case o162 => omega
  case o163 => omega
end
section
/-! HEARD -/
/-- the row of those heard: claims, by the numbers of hof -/
def hv_HL (h : hx_h) (qh qc : Nat) (hof : Nat → Int32) (m n : Int) : Prop := ∀ j : Nat, j < 100 → (j : Int) < m → ∃ o, h.2.2 qh j = some o ∧ 0 ≤ (hof j).toInt ∧ (hof j).toInt < n ∧ h.2.2 qc (hof j).toInt.toNat = some o
section HVHL
variable {tb : List hx_d} {M : hx_m} {L L1 : List Nat} {h h1 : hx_h} {qh qc th tc x : Nat} {hof : Nat → Int32} {m n : Int}
theorem hv_HL_S (hs : hx_S tb M L h L1 h1) (gh : hx_g L h qh th) (gc : hx_g L h qc tc) (m1 : M.any (fun q => q.1 == th) = false) (m2 : M.any (fun q => q.1 == tc) = false) (H : hv_HL h qh qc hof m n) : hv_HL h1 qh qc hof m n := by
  intro j hj hjm
  obtain ⟨o, a, b, c, d⟩ := H j hj hjm
  exact ⟨o, by rw [(hs.a gh m1 j).2]; exact a, b, c, by rw [(hs.a gc m2 _).2]; exact d⟩
theorem hv_HL_0 {z : Int} (hz : z = 0) : hv_HL h qh qc hof z n := fun j _ hj => by exfalso; omega
theorem hv_HL_e {f : Nat → Int32} {m' n' : Int} (H : hv_HL h qh qc hof m n) (e : hof = f) (em : m = m') (en : n = n') : hv_HL h qh qc f m' n' := by
  subst e; subst em; subst en; exact H
/-- one more is heard -/
theorem hv_HL_h {o : Nat} {i j : Int32} {m' : Int} (H : hv_HL h qh qc hof m n) (ne : qh ≠ qc) (eh : h1 = hx_pr h qh i.toNatClampNeg (some o)) (h0 : 0 ≤ i.toInt) (hi : i.toInt = m) (j0 : 0 ≤ j.toInt) (j1 : j.toInt < n) (fo : h.2.2 qc j.toNatClampNeg = some o) (em : m' = m + 1) : hv_HL h1 qh qc (hx_up hof m.toNat j) m' n := by
  have e1 : i.toNatClampNeg = m.toNat := by unfold Int32.toNatClampNeg; omega
  subst eh
  intro k hk hkm
  by_cases z : k = m.toNat
  · subst z
    refine ⟨o, by rw [← e1]; exact hx_pr_at _ _ _ _, ?_, ?_, ?_⟩
    · rw [hx_up_at]; exact j0
    · rw [hx_up_at]; exact j1
    · rw [hx_up_at, hx_pr_ne h (some o) (fun q => ne q.1.symm)]; exact fo
  · obtain ⟨o', a, b, c, d⟩ := H k hk (by omega)
    refine ⟨o', ?_, ?_, ?_, ?_⟩
    · rw [hx_pr_ne h (some o) (fun q => z (by rw [q.2, e1]))]; exact a
    · rw [hx_up_ne z]; exact b
    · rw [hx_up_ne z]; exact c
    · rw [hx_up_ne z, hx_pr_ne h (some o) (fun q => ne q.1.symm)]; exact d
/-- one more claim -/
theorem hv_HL_c {p : Nat} {i : Int32} {n' : Int} (H : hv_HL h qh qc hof m n) (ne : qh ≠ qc) (eh : h1 = hx_pr h qc i.toNatClampNeg (some p)) (h0 : 0 ≤ i.toInt) (hi : i.toInt = n) (em : n' = n + 1) : hv_HL h1 qh qc hof m n' := by
  have e1 : i.toNatClampNeg = n.toNat := by unfold Int32.toNatClampNeg; omega
  subst eh
  intro k hk hkm
  obtain ⟨o, a, b, c, d⟩ := H k hk hkm
  refine ⟨o, ?_, b, by omega, ?_⟩
  · rw [hx_pr_ne h (some p) (fun q => ne q.1)]; exact a
  · rw [hx_pr_ne h (some p) (fun q => by have := q.2; omega)]; exact d
end HVHL
theorem hv_HL_X {tb : List hx_d} {M : hx_m} {L L1 : List Nat} {h h1 : hx_h} {qh qc th tc x : Nat} {hof : Nat → Int32} {m n : Int} (hs : hx_S tb M (hx_X L x) h L1 h1) (gh : hx_g (hx_X L x) h qh th) (gc : hx_g (hx_X L x) h qc tc) (m1 : M.any (fun q => q.1 == th) = false) (m2 : M.any (fun q => q.1 == tc) = false) (H : hv_HL h qh qc hof m n) : hv_HL h1 qh qc hof m n := hv_HL_S hs gh gc m1 m2 H
def hv_HC (ff hf df agf : Nat → Int32) (n i d len : Int) : Prop := (0 ≤ i ∧ i < n) ∧ (ff i.toNat).toInt ≠ -1 ∧ (hf i.toNat).toInt = -1 ∧ (df (agf i.toNat).toInt.toNat).toInt = 0 ∧ 0 ≤ d ∧ 3 ≤ len
/-- what hear answers, and what stands behind it -/
def hv_HS (C : Prop) (i nw m0 m1 r : Int32) (J : Int) (hf hf1 uf uf1 hof hof1 : Nat → Int32) : Prop := (r.toInt = -1 ∧ ¬ C ∧ m1 = m0 ∧ hf1 = hf ∧ uf1 = uf ∧ hof1 = hof) ∨ (C ∧ r.toInt = J ∧ (1 ≤ r.toInt ∧ r.toInt ≤ 5) ∧ m1.toInt = m0.toInt + 1 ∧ hf1 = hx_up hf i.toNatClampNeg nw ∧ uf1 = hx_up uf i.toNatClampNeg r ∧ hof1 = hx_up hof m0.toInt.toNat i)
theorem hv_jg_e {F G R : Nat → Int} {o : List hv_tok} {fr bo su sp : Int} (hO : hv_OK o) (h : ∀ k, k < 8 → F k = G k) : hv_jg F R o fr bo su sp = hv_jg G R o fr bo su sp := by
  unfold hv_jg
  rw [hv_pr_e hO h]
/-- the facts of both sides: of those heard the same; of others what was told as they were filed -/
def hv_FR (cF rf nf wf sf hf : Nat → Int32) (n : Int) : Prop := ∀ c : Nat, (c : Int) < n → ((hf c).toInt ≠ -1 → ∀ k, k < 8 → cF (k + 8 * c) = rf (k + 8 * c)) ∧ ((hf c).toInt = -1 → cF (2 + 8 * c) = nf c ∧ cF (3 + 8 * c) = wf c ∧ cF (7 + 8 * c) = sf c)
/-- eight facts of a claim -/
def hv_u8 (f : Nat → Int32) (c : Nat) (v : Nat → Int32) : Nat → Int32 := fun j => if 8 * c ≤ j ∧ j < 8 * c + 8 then v (j - 8 * c) else f j
theorem hv_u8_at {f v : Nat → Int32} {c k : Nat} (hk : k < 8) : hv_u8 f c v (k + 8 * c) = v k := by
  unfold hv_u8
  rw [if_pos (by omega), show k + 8 * c - 8 * c = k by omega]
theorem hv_u8_ne {f v : Nat → Int32} {c d k : Nat} (hk : k < 8) (h : d ≠ c) : hv_u8 f c v (k + 8 * d) = f (k + 8 * d) := by
  unfold hv_u8
  rw [if_neg (by omega)]
/-- a claim's facts, told as it is heard -/
def hv_CU (cF cF1 : Nat → Int32) (c : Nat) (a0 a1 a4 a5 : Int32) (a6 : Int) : Prop := (∀ d k : Nat, k < 8 → d ≠ c → cF1 (k + 8 * d) = cF (k + 8 * d)) ∧ cF1 (0 + 8 * c) = a0 ∧ cF1 (1 + 8 * c) = a1 ∧ cF1 (2 + 8 * c) = cF (2 + 8 * c) ∧ cF1 (3 + 8 * c) = cF (3 + 8 * c) ∧ cF1 (4 + 8 * c) = a4 ∧ cF1 (5 + 8 * c) = a5 ∧ (cF1 (6 + 8 * c)).toInt = a6 ∧ cF1 (7 + 8 * c) = cF (7 + 8 * c)
theorem hv_CU_i {f0 f1 f2 f3 f4 f5 : Nat → Int32} {c : Nat} {v0 v1 v4 v5 v6 a4 a5 : Int32} {a6 : Int} (d1 : f1 = hx_up f0 ((0 : Int32).toNatClampNeg + 8 * c) v0) (d2 : f2 = hx_up f1 ((1 : Int32).toNatClampNeg + 8 * c) v1) (d3 : f3 = hx_up f2 ((4 : Int32).toNatClampNeg + 8 * c) v4) (d4 : f4 = hx_up f3 ((5 : Int32).toNatClampNeg + 8 * c) v5) (d5 : f5 = hx_up f4 ((6 : Int32).toNatClampNeg + 8 * c) v6) (e4 : v4 = a4) (e5 : v5 = a5) (e6 : v6.toInt = a6) : hv_CU f0 f5 c v0 v1 a4 a5 a6 := by
  have k0 : (0 : Int32).toNatClampNeg = 0 := by decide
  have k1 : (1 : Int32).toNatClampNeg = 1 := by decide
  have k4 : (4 : Int32).toNatClampNeg = 4 := by decide
  have k5 : (5 : Int32).toNatClampNeg = 5 := by decide
  have k6 : (6 : Int32).toNatClampNeg = 6 := by decide
  rw [k0] at d1; rw [k1] at d2; rw [k4] at d3; rw [k5] at d4; rw [k6] at d5
  subst d1; subst d2; subst d3; subst d4; subst d5; subst e4; subst e5
  refine ⟨fun d k hk hd => ?_, ?_, ?_, ?_, ?_, ?_, ?_, ?_, ?_⟩
  · rw [hx_up_ne (by omega), hx_up_ne (by omega), hx_up_ne (by omega), hx_up_ne (by omega), hx_up_ne (by omega)]
  · rw [hx_up_ne (by omega), hx_up_ne (by omega), hx_up_ne (by omega), hx_up_ne (by omega), hx_up_at]
  · rw [hx_up_ne (by omega), hx_up_ne (by omega), hx_up_ne (by omega), hx_up_at]
  · rw [hx_up_ne (by omega), hx_up_ne (by omega), hx_up_ne (by omega), hx_up_ne (by omega), hx_up_ne (by omega)]
  · rw [hx_up_ne (by omega), hx_up_ne (by omega), hx_up_ne (by omega), hx_up_ne (by omega), hx_up_ne (by omega)]
  · rw [hx_up_ne (by omega), hx_up_ne (by omega), hx_up_at]
  · rw [hx_up_ne (by omega), hx_up_at]
  · rw [hx_up_at]; exact e6
  · rw [hx_up_ne (by omega), hx_up_ne (by omega), hx_up_ne (by omega), hx_up_ne (by omega), hx_up_ne (by omega)]
def hv_CV (rf rf1 : Nat → Int32) (c : Nat) (a0 a1 a2 a3 a4 a5 : Int32) (a6 : Int) (a7 : Int32) : Prop := (∀ d k : Nat, k < 8 → d ≠ c → rf1 (k + 8 * d) = rf (k + 8 * d)) ∧ rf1 (0 + 8 * c) = a0 ∧ rf1 (1 + 8 * c) = a1 ∧ rf1 (2 + 8 * c) = a2 ∧ rf1 (3 + 8 * c) = a3 ∧ rf1 (4 + 8 * c) = a4 ∧ rf1 (5 + 8 * c) = a5 ∧ (rf1 (6 + 8 * c)).toInt = a6 ∧ rf1 (7 + 8 * c) = a7
theorem hv_CV_i {f0 f1 f2 f3 f4 f5 f6 f7 f8 : Nat → Int32} {c i0 i1 i2 i3 i4 i5 i6 i7 : Nat} {v0 v1 v2 v3 v4 v5 v6 v7 a2 a3 a4 a5 a7 : Int32} {a6 : Int} (d1 : f1 = hx_up f0 i0 v0) (d2 : f2 = hx_up f1 i1 v1) (d3 : f3 = hx_up f2 i2 v2) (d4 : f4 = hx_up f3 i3 v3) (d5 : f5 = hx_up f4 i4 v4) (d6 : f6 = hx_up f5 i5 v5) (d7 : f7 = hx_up f6 i6 v6) (d8 : f8 = hx_up f7 i7 v7) (k0 : i0 = 8 * c) (k1 : i1 = 1 + 8 * c) (k2 : i2 = 2 + 8 * c) (k3 : i3 = 3 + 8 * c) (k4 : i4 = 4 + 8 * c) (k5 : i5 = 5 + 8 * c) (k6 : i6 = 6 + 8 * c) (k7 : i7 = 7 + 8 * c) (e2 : v2 = a2) (e3 : v3 = a3) (e4 : v4 = a4) (e5 : v5 = a5) (e6 : v6.toInt = a6) (e7 : v7 = a7) : hv_CV f0 f8 c v0 v1 a2 a3 a4 a5 a6 a7 := by
  subst d1; subst d2; subst d3; subst d4; subst d5; subst d6; subst d7; subst d8
  subst e2; subst e3; subst e4; subst e5; subst e7
  have n : ∀ {f : Nat → Int32} {i j : Nat} {v : Int32}, i ≠ j → hx_up f i v j = f j := fun h => hx_up_ne (fun z => h z.symm)
  refine ⟨fun d k hk hd => ?_, ?_, ?_, ?_, ?_, ?_, ?_, ?_, ?_⟩
  · rw [n (by omega), n (by omega), n (by omega), n (by omega), n (by omega), n (by omega), n (by omega), n (by omega)]
  · rw [n (by omega), n (by omega), n (by omega), n (by omega), n (by omega), n (by omega), n (by omega), show 0 + 8 * c = i0 by omega, hx_up_at]
  · rw [n (by omega), n (by omega), n (by omega), n (by omega), n (by omega), n (by omega), show 1 + 8 * c = i1 by omega, hx_up_at]
  · rw [n (by omega), n (by omega), n (by omega), n (by omega), n (by omega), show 2 + 8 * c = i2 by omega, hx_up_at]
  · rw [n (by omega), n (by omega), n (by omega), n (by omega), show 3 + 8 * c = i3 by omega, hx_up_at]
  · rw [n (by omega), n (by omega), n (by omega), show 4 + 8 * c = i4 by omega, hx_up_at]
  · rw [n (by omega), n (by omega), show 5 + 8 * c = i5 by omega, hx_up_at]
  · rw [n (by omega), show 6 + 8 * c = i6 by omega, hx_up_at]; exact e6
  · rw [show 7 + 8 * c = i7 by omega, hx_up_at]
end
