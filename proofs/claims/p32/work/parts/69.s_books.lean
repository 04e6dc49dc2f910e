
set_option maxHeartbeats 4000000 in
set_option maxRecDepth 100000 in
theorem t_X1_isLine_2 (l : Launch) (dC : Nat → ClassId) (dI : Nat → Nat → Nat) (dA : Nat → ClassId) (L : List Nat) (h : hx_h) (sz : Nat) (x : Nat) (i1 : Int32) (i2 : Int32) (i3 : Int32) (i4 : Int32) (hT : hx_T T_tb L h) (gx : hx_g L h x 1) (qo : Nat) (gqo : hx_g L h qo 13) (f_x_1 : h.2.2 x 1 = some qo) (qwi : Nat) (gqwi : hx_g L h qwi 14) (f_x_2 : h.2.2 x 2 = some qwi) (qdy : Nat) (gqdy : hx_g L h qdy 15) (f_x_3 : h.2.2 x 3 = some qdy) (of : Nat → Int32) (af_qo : h.2.1 qo = of) (wf : Nat → Int32) (af_qwi : h.2.1 qwi = wf) (df : Nat → Int32) (af_qdy : h.2.1 qdy = df) (hi1 : 0 ≤ i1.toInt ∧ i1.toInt ≤ 399) : Met l yX1_isLine (Cond.code yX1_isLine cX1_isLine 5 (some .boolean) :: hx_all) ({ frames := 0, cells := 0, slots := 0, locals := 0 }) (va_Pc [.ref x, .int i1, .int i2, .int i3, .int i4] (hx_B T_tb (P_ty dA) (dC, dI) vwCl L h sz)) (va_Qi (fun (r : Int32) (u : List Nat × hx_h) => ((r.toInt = 1 ∧ hy_ln of wf df i2 i3 i4 i1.toNatClampNeg = true) ∨ (r.toInt = 0 ∧ hy_ln of wf df i2 i3 i4 i1.toNatClampNeg = false)) ∧ hx_T T_tb u.1 u.2 ∧ hx_S T_tb [] L h u.1 u.2) (hx_E T_tb (P_ty dA) (dC, dI) vwCl (hx_A L sz)) (hx_A L sz)) 0 0 (hx_A L sz) := by
  refine hx_met (lv := [(0, .ref x), (1, .int i1), (2, .int i2), (3, .int i3), (4, .int i4)]) (by decide +kernel) rfl (Nat.le_of_ble_eq_true rfl) rfl ?_
  intro p e s m below meth c hx hb hml hr hlk hts0 hown hin hsz hW ls hl
  have hts : ∀ w ∈ hx_all, w.before _ s = true := fun w hw => hts0 w (List.mem_cons_of_mem _ hw)
  have hown : s.vm.findClass "SmallCourt$Books" = some m.cls := hown
  have hM : hx_S T_tb [] L h L h := hx_S.rf
  refine lv_aload_n hx hb dX1_isLine_0 rfl (lv_at hl 0 rfl) ?_
  refine hk_getr hx hb hts hC_1 hown hW (gx.S hM) tt_1 1 ?o0 rfl kw_198 ⟨rfl, rfl, rfl⟩ ((hM.o gx trivial rfl).2.trans f_x_1) dX1_isLine_1 ?_
  case o0 => decide
  refine lv_iload_n hx hb dX1_isLine_4 rfl (lv_at hl 1 rfl) ?_
  refine hx_iald hx hb hW hT (gqo.S hM) tt_13 rfl ⟨?o1, ?o2⟩ dX1_isLine_5 (fun x_1 ex_1 lx_1 ux_1 => ?_)
  case o1 => omega
  case o2 => omega
  have ax_1 : x_1 = of i1.toNatClampNeg := ex_1.trans (congrFun (hx_afS hM gqo rfl af_qo) _)
  refine lv_iload_n hx hb dX1_isLine_6 rfl (lv_at hl 2 rfl) ?_
  refine hb_icmp_ne (zx := x_1.toInt) (zy := i2.toInt) (tgt := 35) hx hb rfl rfl dX1_isLine_7 ?o3 (fun c_2 => ?_) (fun c_2 => ?_)
  case o3 => decide
  · skip
    refine lv_iconst (v := 0) hx hb dX1_isLine_35 ?o4 ?_
    case o4 => decide
    refine hx_retz hx hb hr rfl hlk hW ⟨(Or.inr ⟨?o5, hy_ln_f (fun hc => by have h9 := congrArg Int32.toInt (ax_1.trans hc.1); omega)⟩), hT, hM⟩ dX1_isLine_36
    case o5 => decide
  · skip
    refine lv_aload_n hx hb dX1_isLine_10 rfl (lv_at hl 0 rfl) ?_
    refine hk_getr hx hb hts hC_1 hown hW (gx.S hM) tt_1 2 ?o6 rfl kw_199 ⟨rfl, rfl, rfl⟩ ((hM.o gx trivial rfl).2.trans f_x_2) dX1_isLine_11 ?_
    case o6 => decide
    refine lv_iload_n hx hb dX1_isLine_14 rfl (lv_at hl 1 rfl) ?_
    refine hx_iald hx hb hW hT (gqwi.S hM) tt_14 rfl ⟨?o7, ?o8⟩ dX1_isLine_15 (fun x_3 ex_3 lx_3 ux_3 => ?_)
    case o7 => omega
    case o8 => omega
    have ax_3 : x_3 = wf i1.toNatClampNeg := ex_3.trans (congrFun (hx_afS hM gqwi rfl af_qwi) _)
    refine lv_iload_n hx hb dX1_isLine_16 rfl (lv_at hl 3 rfl) ?_
    refine hb_icmp_ne (zx := x_3.toInt) (zy := i3.toInt) (tgt := 35) hx hb rfl rfl dX1_isLine_17 ?o9 (fun c_4 => ?_) (fun c_4 => ?_)
    case o9 => decide
    · skip
      refine lv_iconst (v := 0) hx hb dX1_isLine_35 ?o10 ?_
      case o10 => decide
      refine hx_retz hx hb hr rfl hlk hW ⟨(Or.inr ⟨?o11, hy_ln_f (fun hc => by have h9 := congrArg Int32.toInt (ax_3.trans hc.2.1); omega)⟩), hT, hM⟩ dX1_isLine_36
      case o11 => decide
    · skip
      refine lv_aload_n hx hb dX1_isLine_20 rfl (lv_at hl 0 rfl) ?_
      refine hk_getr hx hb hts hC_1 hown hW (gx.S hM) tt_1 3 ?o12 rfl kw_200 ⟨rfl, rfl, rfl⟩ ((hM.o gx trivial rfl).2.trans f_x_3) dX1_isLine_21 ?_
      case o12 => decide
      refine lv_iload_n hx hb dX1_isLine_24 rfl (lv_at hl 1 rfl) ?_
      refine hx_iald hx hb hW hT (gqdy.S hM) tt_15 rfl ⟨?o13, ?o14⟩ dX1_isLine_25 (fun x_5 ex_5 lx_5 ux_5 => ?_)
      case o13 => omega
      case o14 => omega
      have ax_5 : x_5 = df i1.toNatClampNeg := ex_5.trans (congrFun (hx_afS hM gqdy rfl af_qdy) _)
      refine lv_iload hx hb dX1_isLine_26 (lv_at hl 4 rfl) ?_
      refine hb_icmp_gt (zx := x_5.toInt) (zy := i4.toInt) (tgt := 35) hx hb rfl rfl dX1_isLine_28 ?o15 (fun c_6 => ?_) (fun c_6 => ?_)
      case o15 => decide
      · skip
        refine lv_iconst (v := 0) hx hb dX1_isLine_35 ?o16 ?_
        case o16 => decide
        refine hx_retz hx hb hr rfl hlk hW ⟨(Or.inr ⟨?o17, hy_ln_f (fun hc => by have h9 := hc.2.2; rw [← ax_5] at h9; omega)⟩), hT, hM⟩ dX1_isLine_36
        case o17 => decide
      · skip
        refine lv_iconst (v := 1) hx hb dX1_isLine_31 ?o18 ?_
        case o18 => decide
        refine lv_goto (tgt := 36) hx hb dX1_isLine_32 ?o19 ?_
        case o19 => decide
        refine hx_retz hx hb hr rfl hlk hW ⟨(Or.inl ⟨?o20, hy_ln_t.mpr ⟨(ax_1.symm.trans (Int32.toInt_inj.mp ?o21)), (ax_3.symm.trans (Int32.toInt_inj.mp ?o22)), (by rw [← ax_5]; omega)⟩⟩), hT, hM⟩ dX1_isLine_36
        case o20 => decide
        case o21 => omega
        case o22 => omega


set_option maxHeartbeats 4000000 in
set_option maxRecDepth 100000 in
theorem t_X1_sumWith_2 (l : Launch) (dC : Nat → ClassId) (dI : Nat → Nat → Nat) (dA : Nat → ClassId) (L : List Nat) (h : hx_h) (sz : Nat) (x : Nat) (i1 : Int32) (i2 : Int32) (i3 : Int32) (hT : hx_T T_tb L h) (gx : hx_g L h x 1) (qo : Nat) (gqo : hx_g L h qo 13) (f_x_1 : h.2.2 x 1 = some qo) (qwi : Nat) (gqwi : hx_g L h qwi 14) (f_x_2 : h.2.2 x 2 = some qwi) (qdy : Nat) (gqdy : hx_g L h qdy 15) (f_x_3 : h.2.2 x 3 = some qdy) (qkd : Nat) (gqkd : hx_g L h qkd 16) (f_x_4 : h.2.2 x 4 = some qkd) (qsm : Nat) (gqsm : hx_g L h qsm 17) (f_x_5 : h.2.2 x 5 = some qsm) (of : Nat → Int32) (af_qo : h.2.1 qo = of) (wf : Nat → Int32) (af_qwi : h.2.1 qwi = wf) (df : Nat → Int32) (af_qdy : h.2.1 qdy = df) (kf : Nat → Int32) (af_qkd : h.2.1 qkd = kf) (sf : Nat → Int32) (af_qsm : h.2.1 qsm = sf) (ln0 : Int32) (f_x_0 : h.2.1 x 0 = ln0) : Met l yX1_sumWith (Cond.code yX1_sumWith cX1_sumWith 6 (some .int) :: hx_all) ({ frames := 1, cells := 0, slots := 0, locals := 24 }) (va_Pc [.ref x, .int i1, .int i2, .int i3] (hx_B T_tb (P_ty dA) (dC, dI) vwCl L h sz)) (va_Qi (fun (r : Int32) (u : List Nat × hx_h) => (r.toInt = (hy_bs of wf df kf sf i1 i2 i3 ln0.toInt.toNat).toInt) ∧ hx_T T_tb u.1 u.2 ∧ hx_S T_tb [] L h u.1 u.2) (hx_E T_tb (P_ty dA) (dC, dI) vwCl (hx_A L sz)) (hx_A L sz)) 0 0 (hx_A L sz) := by
  refine hx_met (lv := [(0, .ref x), (1, .int i1), (2, .int i2), (3, .int i3)]) (by decide +kernel) rfl (Nat.le_of_ble_eq_true rfl) rfl ?_
  intro p e s m below meth c hx hb hml hr hlk hts0 hown hin hsz hW ls hl
  have hts : ∀ w ∈ hx_all, w.before _ s = true := fun w hw => hts0 w (List.mem_cons_of_mem _ hw)
  have hown : s.vm.findClass "SmallCourt$Books" = some m.cls := hown
  have hM : hx_S T_tb [] L h L h := hx_S.rf
  have b_ln0 := hT.gi gx tt_1 (k := 0) rfl
  rw [f_x_0] at b_ln0
  have b_ln0 : 0 ≤ ln0.toInt ∧ ln0.toInt ≤ 400 := b_ln0
  refine lv_iconst (v := 0) hx hb dX1_sumWith_0 ?o0 ?_
  case o0 => decide
  refine lv_istore (lv' := [(4, .int (0 : Int32)), (0, .ref x), (1, .int i1), (2, .int i2), (3, .int i3)]) hx hb dX1_sumWith_1 hl ?o1 rfl (fun ls hl => ?_)
  case o1 => decide
  refine lv_iconst (v := 0) hx hb dX1_sumWith_3 ?o2 ?_
  case o2 => decide
  refine lv_istore (lv' := [(5, .int (0 : Int32)), (4, .int (0 : Int32)), (0, .ref x), (1, .int i1), (2, .int i2), (3, .int i3)]) hx hb dX1_sumWith_4 hl ?o3 rfl (fun ls hl => ?_)
  case o3 => decide
  have loop6 : ∀ (n6 : Nat) (iv6_4 iv6_5 : Int32) (H : Heap) (locs : List Loc) (hL1 : List Nat) (hl1 : hx_h), -2147483648 ≤ iv6_4.toInt → iv6_4.toInt ≤ 2147483647 → 0 ≤ iv6_5.toInt → iv6_5.toInt ≤ 400 → (iv6_4.toInt = (hy_bs of wf df kf sf i1 i2 i3 (iv6_5.toInt).toNat).toInt) → (iv6_5.toInt ≤ ln0.toInt) → ∀ (ls : Array Slot), 400 - iv6_5.toInt < (n6 : Int) → hx_W T_tb (P_ty dA) (dC, dI) vwCl (hx_A L sz) s.heap hL1 hl1 s H locs → hx_T T_tb hL1 hl1 → hx_S T_tb [] L h hL1 hl1 → lv_has ls 6 [(5, .int iv6_5), (4, .int iv6_4), (0, .ref x), (1, .int i1), (2, .int i2), (3, .int i3)] → W p l e ({ frames := 1, cells := 0, slots := 0, locals := 24 }) s m ([.ref x, .int i1, .int i2, .int i3] : List Value).toArray below meth c H locs 0 0 (MQ below (va_Qi (fun (r : Int32) (u : List Nat × hx_h) => (r.toInt = (hy_bs of wf df kf sf i1 i2 i3 ln0.toInt.toNat).toInt) ∧ hx_T T_tb u.1 u.2 ∧ hx_S T_tb [] L h u.1 u.2) (hx_E T_tb (P_ty dA) (dC, dI) vwCl (hx_A L sz)) (hx_A L sz)) ([.ref x, .int i1, .int i2, .int i3] : List Value).toArray s 0 0 (hx_A L sz)) (F0 m 6 ls []) := by
    intro n6
    induction n6 with
    | zero => intro iv6_4 iv6_5 H locs hL1 hl1 bliv6_4 buiv6_4 bliv6_5 buiv6_5 vi6_0 vi6_1 ls hn6; exfalso; omega
    | succ n6 ih6 =>
      intro iv6_4 iv6_5 H locs hL1 hl1 bliv6_4 buiv6_4 bliv6_5 buiv6_5 vi6_0 vi6_1 ls hn6 hW hT hM   hl
      refine lv_iload hx hb dX1_sumWith_6 (lv_at hl 0 rfl) ?_
      refine lv_aload_n hx hb dX1_sumWith_8 rfl (lv_at hl 2 rfl) ?_
      refine hk_geti hx hb hts hC_1 hown hW (gx.S hM) tt_1 0 ?o4 rfl kw_196 ⟨rfl, rfl, rfl⟩ ((hM.o gx trivial rfl).1.trans f_x_0) dX1_sumWith_9 ?_
      case o4 => decide
      refine hb_icmp_ge (zx := iv6_5.toInt) (zy := ln0.toInt) (tgt := 77) hx hb rfl rfl dX1_sumWith_12 ?o5 (fun c_1 => ?_) (fun c_1 => ?_)
      case o5 => decide
      · skip
        refine lv_iload hx hb dX1_sumWith_77 (lv_at hl 1 rfl) ?_
        exact hx_reti hx hb hr hlk hW ⟨(by have e9 : iv6_5.toInt = ln0.toInt := (by omega); rw [← e9]; exact vi6_0), hT, hM⟩ dX1_sumWith_79
      · skip
        refine lv_aload_n hx hb dX1_sumWith_15 rfl (lv_at hl 2 rfl) ?_
        refine lv_iload hx hb dX1_sumWith_16 (lv_at hl 0 rfl) ?_
        refine lv_iload_n hx hb dX1_sumWith_18 rfl (lv_at hl 3 rfl) ?_
        refine lv_iload_n hx hb dX1_sumWith_19 rfl (lv_at hl 4 rfl) ?_
        refine lv_iload_n hx hb dX1_sumWith_20 rfl (lv_at hl 5 rfl) ?_
        refine hx_goi (hx_runV (As := [.int iv6_5, .int i1, .int i2, .int i3]) (rest := []) ⟨hx, hb, hml, hown, hts⟩ hW (gx.S hM) tt_1 (T := TX1) (N := 8) rfl (t_X1_isLine_2 l dC dI dA hL1 hl1 H.size x iv6_5 i1 i2 i3 hT (gx.S hM) qo (gqo.S hM) ((hM.o gx trivial rfl).2.trans f_x_1) qwi (gqwi.S hM) ((hM.o gx trivial rfl).2.trans f_x_2) qdy (gqdy.S hM) ((hM.o gx trivial rfl).2.trans f_x_3) of (hx_afS hM gqo rfl af_qo) wf (hx_afS hM gqwi rfl af_qwi) df (hx_afS hM gqdy rfl af_qdy) ⟨?o6, ?o7⟩) (cwV 4 hts (hx_gV kw_692 kw_689 kw_691 kw_22 kw_98) rfl rfl rfl (by decide +kernel) ⟨Nat.le_of_ble_eq_true rfl, Nat.le_of_ble_eq_true rfl⟩) rfl hl.1 rfl (Nat.le_of_ble_eq_true rfl) dX1_sumWith_21 ⟨Nat.le_of_ble_eq_true rfl, Nat.le_of_ble_eq_true rfl⟩) hW (fun r_4 L_2 h_3 H locs p_5 hW => ?_)
        case o6 => omega
        case o7 => omega
        obtain ⟨hr_6, hT, hs⟩ := p_5
        replace hT : hx_T T_tb L_2 h_3 := hT
        replace hs : hx_S T_tb [] hL1 hl1 L_2 h_3 := hs
        replace hM := hM.tr (hs.mono ?o8)
        case o8 => decide
        refine hb_if_eq (zx := r_4.toInt) (tgt := 71) hx hb rfl dX1_sumWith_24 ?o9 (fun c_7 => ?_) (fun c_7 => ?_)
        case o9 => decide
        · skip
          obtain ⟨x_8, ex_8⟩ : ∃ y : Int32, y = iv6_5 + Int32.ofInt 1 := ⟨_, rfl⟩
          have rg_9 := i32_r iv6_5
          have zx_8 : x_8.toInt = iv6_5.toInt + (1) := ?o10
          case o10 =>
            rw [ex_8]
            refine i32_add rfl ?o11 ?o12 ?o13
            case o11 => decide
            case o12 => omega
            case o13 => omega
          refine lv_iinc (v := x_8) (lv' := [(5, .int x_8), (4, .int iv6_4), (0, .ref x), (1, .int i1), (2, .int i2), (3, .int i3)]) hx hb dX1_sumWith_71 hl (k := 0) rfl ex_8.symm ?o14 rfl (fun ls hl => ?_)
          case o14 => decide
          refine lv_goto (tgt := 6) hx hb dX1_sumWith_74 ?o15 ?_
          case o15 => decide
          refine ih6 iv6_4 x_8 _ _ L_2 h_3 (i32_r _).1 (i32_r _).2 ?o16 ?o17 (hy_bs_n vi6_0 ?o18 (by rcases hr_6 with z | z; (exfalso; omega); exact z.2) zx_8) ?o19 ls ?o20 hW hT hM   (lv_sub hl [0, 1, 2, 3, 4, 5] rfl)
          case o16 => omega
          case o17 => omega
          case o18 => omega
          case o19 => omega
          case o20 => omega
        · skip
          refine lv_iload hx hb dX1_sumWith_27 (lv_at hl 1 rfl) ?_
          refine lv_aload_n hx hb dX1_sumWith_29 rfl (lv_at hl 2 rfl) ?_
          refine hk_getr hx hb hts hC_1 hown hW (gx.S hM) tt_1 4 ?o21 rfl kw_201 ⟨rfl, rfl, rfl⟩ ((hM.o gx trivial rfl).2.trans f_x_4) dX1_sumWith_30 ?_
          case o21 => decide
          refine lv_iload hx hb dX1_sumWith_33 (lv_at hl 0 rfl) ?_
          refine hx_iald hx hb hW hT (gqkd.S hM) tt_16 rfl ⟨?o22, ?o23⟩ dX1_sumWith_35 (fun x_10 ex_10 lx_10 ux_10 => ?_)
          case o22 => omega
          case o23 => omega
          have ax_10 : x_10 = kf iv6_5.toNatClampNeg := ex_10.trans (congrFun (hx_afS hM gqkd rfl af_qkd) _)
          refine hb_if_eq (zx := x_10.toInt) (tgt := 50) hx hb rfl dX1_sumWith_36 ?o24 (fun c_11 => ?_) (fun c_11 => ?_)
          case o24 => decide
          · skip
            refine lv_aload_n hx hb dX1_sumWith_50 rfl (lv_at hl 2 rfl) ?_
            refine hk_getr hx hb hts hC_1 hown hW (gx.S hM) tt_1 5 ?o25 rfl kw_202 ⟨rfl, rfl, rfl⟩ ((hM.o gx trivial rfl).2.trans f_x_5) dX1_sumWith_51 ?_
            case o25 => decide
            refine lv_iload hx hb dX1_sumWith_54 (lv_at hl 0 rfl) ?_
            refine hx_iald hx hb hW hT (gqsm.S hM) tt_17 rfl ⟨?o26, ?o27⟩ dX1_sumWith_56 (fun x_12 ex_12 lx_12 ux_12 => ?_)
            case o26 => omega
            case o27 => omega
            have ax_12 : x_12 = sf iv6_5.toNatClampNeg := ex_12.trans (congrFun (hx_afS hM gqsm rfl af_qsm) _)
            refine lv_goto (tgt := 68) hx hb dX1_sumWith_57 ?o28 ?_
            case o28 => decide
            refine lv_iadd hx hb dX1_sumWith_68 ?_
            have rg_13 := i32_r iv6_4
            have rg_14 := i32_r x_12
            refine lv_topi (fun x_15 ex_15 => ?_)
            refine lv_istore (lv' := [(4, .int x_15), (5, .int iv6_5), (0, .ref x), (1, .int i1), (2, .int i2), (3, .int i3)]) hx hb dX1_sumWith_69 hl ?o29 rfl (fun ls hl => ?_)
            case o29 => decide
            obtain ⟨x_16, ex_16⟩ : ∃ y : Int32, y = iv6_5 + Int32.ofInt 1 := ⟨_, rfl⟩
            have rg_17 := i32_r iv6_5
            have zx_16 : x_16.toInt = iv6_5.toInt + (1) := ?o30
            case o30 =>
              rw [ex_16]
              refine i32_add rfl ?o31 ?o32 ?o33
              case o31 => decide
              case o32 => omega
              case o33 => omega
            refine lv_iinc (v := x_16) (lv' := [(5, .int x_16), (4, .int x_15), (0, .ref x), (1, .int i1), (2, .int i2), (3, .int i3)]) hx hb dX1_sumWith_71 hl (k := 1) rfl ex_16.symm ?o34 rfl (fun ls hl => ?_)
            case o34 => decide
            refine lv_goto (tgt := 6) hx hb dX1_sumWith_74 ?o35 ?_
            case o35 => decide
            exact ih6 x_15 x_16 _ _ L_2 h_3 (i32_r _).1 (i32_r _).2 (by omega) (by omega) (hy_bs_y vi6_0 (by omega) (by rcases hr_6 with z | z; exact z.2; exfalso; omega) ex_15 (by have hk : (kf iv6_5.toNatClampNeg).toInt = x_10.toInt := congrArg Int32.toInt ax_10.symm; unfold hy_bt; first | (rw [if_pos (by omega)]; exact ax_12) | (rw [if_neg (by omega), ex_12, ax_12])) zx_16) (by omega) ls (by omega) hW hT hM   (lv_sub hl [0, 1, 2, 3, 4, 5] rfl)
          · skip
            refine lv_aload_n hx hb dX1_sumWith_39 rfl (lv_at hl 2 rfl) ?_
            refine hk_getr hx hb hts hC_1 hown hW (gx.S hM) tt_1 4 ?o36 rfl kw_201 ⟨rfl, rfl, rfl⟩ ((hM.o gx trivial rfl).2.trans f_x_4) dX1_sumWith_40 ?_
            case o36 => decide
            refine lv_iload hx hb dX1_sumWith_43 (lv_at hl 0 rfl) ?_
            refine hx_iald hx hb hW hT (gqkd.S hM) tt_16 rfl ⟨?o37, ?o38⟩ dX1_sumWith_45 (fun x_18 ex_18 lx_18 ux_18 => ?_)
            case o37 => omega
            case o38 => omega
            have ax_18 : x_18 = kf iv6_5.toNatClampNeg := ex_18.trans (congrFun (hx_afS hM gqkd rfl af_qkd) _)
            obtain rfl : x_10 = x_18 := ex_10.trans ex_18.symm
            refine lv_iconst (v := 3) hx hb dX1_sumWith_46 ?o39 ?_
            case o39 => decide
            refine hb_icmp_ne (zx := x_10.toInt) (zy := 3) (tgt := 60) hx hb rfl ?o40 dX1_sumWith_47 ?o41 (fun c_19 => ?_) (fun c_19 => ?_)
            case o40 => decide
            case o41 => decide
            · skip
              refine lv_aload_n hx hb dX1_sumWith_60 rfl (lv_at hl 2 rfl) ?_
              refine hk_getr hx hb hts hC_1 hown hW (gx.S hM) tt_1 5 ?o42 rfl kw_202 ⟨rfl, rfl, rfl⟩ ((hM.o gx trivial rfl).2.trans f_x_5) dX1_sumWith_61 ?_
              case o42 => decide
              refine lv_iload hx hb dX1_sumWith_64 (lv_at hl 0 rfl) ?_
              refine hx_iald hx hb hW hT (gqsm.S hM) tt_17 rfl ⟨?o43, ?o44⟩ dX1_sumWith_66 (fun x_20 ex_20 lx_20 ux_20 => ?_)
              case o43 => omega
              case o44 => omega
              have ax_20 : x_20 = sf iv6_5.toNatClampNeg := ex_20.trans (congrFun (hx_afS hM gqsm rfl af_qsm) _)
              refine lv_ineg hx hb dX1_sumWith_67 ?_
              refine lv_topi (fun x_21 ex_21 => ?_)
              refine lv_iadd hx hb dX1_sumWith_68 ?_
              have rg_22 := i32_r iv6_4
              have rg_23 := i32_r x_21
              refine lv_topi (fun x_24 ex_24 => ?_)
              refine lv_istore (lv' := [(4, .int x_24), (5, .int iv6_5), (0, .ref x), (1, .int i1), (2, .int i2), (3, .int i3)]) hx hb dX1_sumWith_69 hl ?o45 rfl (fun ls hl => ?_)
              case o45 => decide
              obtain ⟨x_25, ex_25⟩ : ∃ y : Int32, y = iv6_5 + Int32.ofInt 1 := ⟨_, rfl⟩
              have rg_26 := i32_r iv6_5
              have zx_25 : x_25.toInt = iv6_5.toInt + (1) := ?o46
              case o46 =>
                rw [ex_25]
                refine i32_add rfl ?o47 ?o48 ?o49
                case o47 => decide
                case o48 => omega
                case o49 => omega
              refine lv_iinc (v := x_25) (lv' := [(5, .int x_25), (4, .int x_24), (0, .ref x), (1, .int i1), (2, .int i2), (3, .int i3)]) hx hb dX1_sumWith_71 hl (k := 1) rfl ex_25.symm ?o50 rfl (fun ls hl => ?_)
              case o50 => decide
              refine lv_goto (tgt := 6) hx hb dX1_sumWith_74 ?o51 ?_
              case o51 => decide
              exact ih6 x_24 x_25 _ _ L_2 h_3 (i32_r _).1 (i32_r _).2 (by omega) (by omega) (hy_bs_y vi6_0 (by omega) (by rcases hr_6 with z | z; exact z.2; exfalso; omega) ex_24 (by have hk : (kf iv6_5.toNatClampNeg).toInt = x_10.toInt := congrArg Int32.toInt ax_10.symm; unfold hy_bt; first | (rw [if_pos (by omega)]; exact ax_20) | (rw [if_neg (by omega), ex_21, ax_20])) zx_25) (by omega) ls (by omega) hW hT hM   (lv_sub hl [0, 1, 2, 3, 4, 5] rfl)
            · skip
              refine lv_aload_n hx hb dX1_sumWith_50 rfl (lv_at hl 2 rfl) ?_
              refine hk_getr hx hb hts hC_1 hown hW (gx.S hM) tt_1 5 ?o52 rfl kw_202 ⟨rfl, rfl, rfl⟩ ((hM.o gx trivial rfl).2.trans f_x_5) dX1_sumWith_51 ?_
              case o52 => decide
              refine lv_iload hx hb dX1_sumWith_54 (lv_at hl 0 rfl) ?_
              refine hx_iald hx hb hW hT (gqsm.S hM) tt_17 rfl ⟨?o53, ?o54⟩ dX1_sumWith_56 (fun x_27 ex_27 lx_27 ux_27 => ?_)
              case o53 => omega
              case o54 => omega
              have ax_27 : x_27 = sf iv6_5.toNatClampNeg := ex_27.trans (congrFun (hx_afS hM gqsm rfl af_qsm) _)
              refine lv_goto (tgt := 68) hx hb dX1_sumWith_57 ?o55 ?_
              case o55 => decide
              refine lv_iadd hx hb dX1_sumWith_68 ?_
              have rg_28 := i32_r iv6_4
              have rg_29 := i32_r x_27
              refine lv_topi (fun x_30 ex_30 => ?_)
              refine lv_istore (lv' := [(4, .int x_30), (5, .int iv6_5), (0, .ref x), (1, .int i1), (2, .int i2), (3, .int i3)]) hx hb dX1_sumWith_69 hl ?o56 rfl (fun ls hl => ?_)
              case o56 => decide
              obtain ⟨x_31, ex_31⟩ : ∃ y : Int32, y = iv6_5 + Int32.ofInt 1 := ⟨_, rfl⟩
              have rg_32 := i32_r iv6_5
              have zx_31 : x_31.toInt = iv6_5.toInt + (1) := ?o57
              case o57 =>
                rw [ex_31]
                refine i32_add rfl ?o58 ?o59 ?o60
                case o58 => decide
                case o59 => omega
                case o60 => omega
              refine lv_iinc (v := x_31) (lv' := [(5, .int x_31), (4, .int x_30), (0, .ref x), (1, .int i1), (2, .int i2), (3, .int i3)]) hx hb dX1_sumWith_71 hl (k := 1) rfl ex_31.symm ?o61 rfl (fun ls hl => ?_)
              case o61 => decide
              refine lv_goto (tgt := 6) hx hb dX1_sumWith_74 ?o62 ?_
              case o62 => decide
              exact ih6 x_30 x_31 _ _ L_2 h_3 (i32_r _).1 (i32_r _).2 (by omega) (by omega) (hy_bs_y vi6_0 (by omega) (by rcases hr_6 with z | z; exact z.2; exfalso; omega) ex_30 (by have hk : (kf iv6_5.toNatClampNeg).toInt = x_10.toInt := congrArg Int32.toInt ax_10.symm; unfold hy_bt; first | (rw [if_pos (by omega)]; exact ax_27) | (rw [if_neg (by omega), ex_27, ax_27])) zx_31) (by omega) ls (by omega) hW hT hM   (lv_sub hl [0, 1, 2, 3, 4, 5] rfl)
  have zk_0 : (0 : Int32).toInt = 0 := ?o63
  case o63 => decide
  have zk_0 : (0 : Int32).toInt = 0 := ?o64
  case o64 => decide
  refine loop6 401 (0 : Int32) (0 : Int32) _ _ L h ?o65 ?o66 ?o67 ?o68 (by rw [zk_0]; rfl) ?o69 ls ?o70 hW hT hM   hl
  case o65 => decide
  case o66 => decide
  case o67 => decide
  case o68 => decide
  case o69 => omega
  case o70 => omega


set_option maxHeartbeats 4000000 in
set_option maxRecDepth 100000 in
theorem t_X1_disorder_2 (l : Launch) (dC : Nat → ClassId) (dI : Nat → Nat → Nat) (dA : Nat → ClassId) (L : List Nat) (h : hx_h) (sz : Nat) (x : Nat) (i1 : Int32) (hT : hx_T T_tb L h) (gx : hx_g L h x 1) (qo : Nat) (gqo : hx_g L h qo 13) (f_x_1 : h.2.2 x 1 = some qo) (qdy : Nat) (gqdy : hx_g L h qdy 15) (f_x_3 : h.2.2 x 3 = some qdy) (of : Nat → Int32) (af_qo : h.2.1 qo = of) (df : Nat → Int32) (af_qdy : h.2.1 qdy = df) (ln0 : Int32) (f_x_0 : h.2.1 x 0 = ln0) : Met l yX1_disorder (Cond.code yX1_disorder cX1_disorder 5 (some .int) :: hx_all) ({ frames := 0, cells := 0, slots := 0, locals := 0 }) (va_Pc [.ref x, .int i1] (hx_B T_tb (P_ty dA) (dC, dI) vwCl L h sz)) (va_Qi (fun (r : Int32) (u : List Nat × hx_h) => (r.toInt = (hy_dr of df i1 (0) ln0.toInt.toNat).1) ∧ hx_T T_tb u.1 u.2 ∧ hx_S T_tb [] L h u.1 u.2) (hx_E T_tb (P_ty dA) (dC, dI) vwCl (hx_A L sz)) (hx_A L sz)) 0 0 (hx_A L sz) := by
  refine hx_met (lv := [(0, .ref x), (1, .int i1)]) (by decide +kernel) rfl (Nat.le_of_ble_eq_true rfl) rfl ?_
  intro p e s m below meth c hx hb hml hr hlk hts0 hown hin hsz hW ls hl
  have hts : ∀ w ∈ hx_all, w.before _ s = true := fun w hw => hts0 w (List.mem_cons_of_mem _ hw)
  have hown : s.vm.findClass "SmallCourt$Books" = some m.cls := hown
  have hM : hx_S T_tb [] L h L h := hx_S.rf
  have b_ln0 := hT.gi gx tt_1 (k := 0) rfl
  rw [f_x_0] at b_ln0
  have b_ln0 : 0 ≤ ln0.toInt ∧ ln0.toInt ≤ 400 := b_ln0
  refine lv_iconst (v := 0) hx hb dX1_disorder_0 ?o0 ?_
  case o0 => decide
  refine lv_istore_n (lv' := [(2, .int (0 : Int32)), (0, .ref x), (1, .int i1)]) hx hb dX1_disorder_1 rfl hl ?o1 rfl (fun ls hl => ?_)
  case o1 => decide
  refine lv_iconst (v := 0) hx hb dX1_disorder_2 ?o2 ?_
  case o2 => decide
  refine lv_istore_n (lv' := [(3, .int (0 : Int32)), (2, .int (0 : Int32)), (0, .ref x), (1, .int i1)]) hx hb dX1_disorder_3 rfl hl ?o3 rfl (fun ls hl => ?_)
  case o3 => decide
  refine lv_iconst (v := 0) hx hb dX1_disorder_4 ?o4 ?_
  case o4 => decide
  refine lv_istore (lv' := [(4, .int (0 : Int32)), (3, .int (0 : Int32)), (2, .int (0 : Int32)), (0, .ref x), (1, .int i1)]) hx hb dX1_disorder_5 hl ?o5 rfl (fun ls hl => ?_)
  case o5 => decide
  have loop7 : ∀ (n7 : Nat) (iv7_2 iv7_3 iv7_4 : Int32) (H : Heap) (locs : List Loc) (hL1 : List Nat) (hl1 : hx_h), 0 ≤ iv7_2.toInt → iv7_2.toInt ≤ 400 → -2147483648 ≤ iv7_3.toInt → iv7_3.toInt ≤ 2147483647 → 0 ≤ iv7_4.toInt → iv7_4.toInt ≤ 400 → ((iv7_2.toInt, iv7_3.toInt) = hy_dr of df i1 (0) (iv7_4.toInt).toNat) → (iv7_2.toInt ≤ iv7_4.toInt) → (iv7_4.toInt ≤ ln0.toInt) → ∀ (ls : Array Slot), 400 - iv7_4.toInt < (n7 : Int) → hx_W T_tb (P_ty dA) (dC, dI) vwCl (hx_A L sz) s.heap hL1 hl1 s H locs → hx_T T_tb hL1 hl1 → hx_S T_tb [] L h hL1 hl1 → lv_has ls 5 [(4, .int iv7_4), (3, .int iv7_3), (2, .int iv7_2), (0, .ref x), (1, .int i1)] → W p l e ({ frames := 0, cells := 0, slots := 0, locals := 0 }) s m ([.ref x, .int i1] : List Value).toArray below meth c H locs 0 0 (MQ below (va_Qi (fun (r : Int32) (u : List Nat × hx_h) => (r.toInt = (hy_dr of df i1 (0) ln0.toInt.toNat).1) ∧ hx_T T_tb u.1 u.2 ∧ hx_S T_tb [] L h u.1 u.2) (hx_E T_tb (P_ty dA) (dC, dI) vwCl (hx_A L sz)) (hx_A L sz)) ([.ref x, .int i1] : List Value).toArray s 0 0 (hx_A L sz)) (F0 m 7 ls []) := by
    intro n7
    induction n7 with
    | zero => intro iv7_2 iv7_3 iv7_4 H locs hL1 hl1 bliv7_2 buiv7_2 bliv7_3 buiv7_3 bliv7_4 buiv7_4 vi7_0 vi7_1 vi7_2 ls hn7; exfalso; omega
    | succ n7 ih7 =>
      intro iv7_2 iv7_3 iv7_4 H locs hL1 hl1 bliv7_2 buiv7_2 bliv7_3 buiv7_3 bliv7_4 buiv7_4 vi7_0 vi7_1 vi7_2 ls hn7 hW hT hM   hl
      refine lv_iload hx hb dX1_disorder_7 (lv_at hl 0 rfl) ?_
      refine lv_aload_n hx hb dX1_disorder_9 rfl (lv_at hl 3 rfl) ?_
      refine hk_geti hx hb hts hC_1 hown hW (gx.S hM) tt_1 0 ?o6 rfl kw_196 ⟨rfl, rfl, rfl⟩ ((hM.o gx trivial rfl).1.trans f_x_0) dX1_disorder_10 ?_
      case o6 => decide
      refine hb_icmp_ge (zx := iv7_4.toInt) (zy := ln0.toInt) (tgt := 60) hx hb rfl rfl dX1_disorder_13 ?o7 (fun c_1 => ?_) (fun c_1 => ?_)
      case o7 => decide
      · skip
        refine lv_iload_n hx hb dX1_disorder_60 rfl (lv_at hl 2 rfl) ?_
        exact hx_reti hx hb hr hlk hW ⟨(by have e9 : iv7_4.toInt = ln0.toInt := (by omega); rw [← e9]; exact congrArg Prod.fst vi7_0), hT, hM⟩ dX1_disorder_61
      · skip
        refine lv_aload_n hx hb dX1_disorder_16 rfl (lv_at hl 3 rfl) ?_
        refine hk_getr hx hb hts hC_1 hown hW (gx.S hM) tt_1 1 ?o8 rfl kw_198 ⟨rfl, rfl, rfl⟩ ((hM.o gx trivial rfl).2.trans f_x_1) dX1_disorder_17 ?_
        case o8 => decide
        refine lv_iload hx hb dX1_disorder_20 (lv_at hl 0 rfl) ?_
        refine hx_iald hx hb hW hT (gqo.S hM) tt_13 rfl ⟨?o9, ?o10⟩ dX1_disorder_22 (fun x_2 ex_2 lx_2 ux_2 => ?_)
        case o9 => omega
        case o10 => omega
        have ax_2 : x_2 = of iv7_4.toNatClampNeg := ex_2.trans (congrFun (hx_afS hM gqo rfl af_qo) _)
        refine lv_iload_n hx hb dX1_disorder_23 rfl (lv_at hl 4 rfl) ?_
        refine hb_icmp_ne (zx := x_2.toInt) (zy := i1.toInt) (tgt := 54) hx hb rfl rfl dX1_disorder_24 ?o11 (fun c_3 => ?_) (fun c_3 => ?_)
        case o11 => decide
        · skip
          obtain ⟨x_4, ex_4⟩ : ∃ y : Int32, y = iv7_4 + Int32.ofInt 1 := ⟨_, rfl⟩
          have rg_5 := i32_r iv7_4
          have zx_4 : x_4.toInt = iv7_4.toInt + (1) := ?o12
          case o12 =>
            rw [ex_4]
            refine i32_add rfl ?o13 ?o14 ?o15
            case o13 => decide
            case o14 => omega
            case o15 => omega
          refine lv_iinc (v := x_4) (lv' := [(4, .int x_4), (3, .int iv7_3), (2, .int iv7_2), (0, .ref x), (1, .int i1)]) hx hb dX1_disorder_54 hl (k := 0) rfl ex_4.symm ?o16 rfl (fun ls hl => ?_)
          case o16 => decide
          refine lv_goto (tgt := 7) hx hb dX1_disorder_57 ?o17 ?_
          case o17 => decide
          refine ih7 iv7_2 iv7_3 x_4 _ _ hL1 hl1 ?o18 ?o19 (i32_r _).1 (i32_r _).2 ?o20 ?o21 (hy_dr_n vi7_0 ?o22 (fun hc => by have h9 := congrArg Int32.toInt (ax_2.trans hc); omega) zx_4) ?o23 ?o24 ls ?o25 hW hT hM   (lv_sub hl [0, 1, 2, 3, 4] rfl)
          case o18 => omega
          case o19 => omega
          case o20 => omega
          case o21 => omega
          case o22 => omega
          case o23 => omega
          case o24 => omega
          case o25 => omega
        · skip
          refine lv_iload_n hx hb dX1_disorder_27 rfl (lv_at hl 2 rfl) ?_
          refine lv_aload_n hx hb dX1_disorder_28 rfl (lv_at hl 3 rfl) ?_
          refine hk_getr hx hb hts hC_1 hown hW (gx.S hM) tt_1 3 ?o26 rfl kw_200 ⟨rfl, rfl, rfl⟩ ((hM.o gx trivial rfl).2.trans f_x_3) dX1_disorder_29 ?_
          case o26 => decide
          refine lv_iload hx hb dX1_disorder_32 (lv_at hl 0 rfl) ?_
          refine hx_iald hx hb hW hT (gqdy.S hM) tt_15 rfl ⟨?o27, ?o28⟩ dX1_disorder_34 (fun x_6 ex_6 lx_6 ux_6 => ?_)
          case o27 => omega
          case o28 => omega
          have ax_6 : x_6 = df iv7_4.toNatClampNeg := ex_6.trans (congrFun (hx_afS hM gqdy rfl af_qdy) _)
          refine lv_iload_n hx hb dX1_disorder_35 rfl (lv_at hl 1 rfl) ?_
          refine hb_icmp_ge (zx := x_6.toInt) (zy := iv7_3.toInt) (tgt := 43) hx hb rfl rfl dX1_disorder_36 ?o29 (fun c_7 => ?_) (fun c_7 => ?_)
          case o29 => decide
          · skip
            refine lv_iconst (v := 0) hx hb dX1_disorder_43 ?o30 ?_
            case o30 => decide
            refine lv_iadd hx hb dX1_disorder_44 ?_
            have rg_8 := i32_r iv7_2
            refine lv_topi (fun x_9 ex_9 => ?_)
            have zx_9 : x_9.toInt = iv7_2.toInt + 0 := ?o31
            case o31 =>
              rw [ex_9]
              refine i32_add rfl ?o32 ?o33 ?o34
              case o32 => decide
              case o33 => omega
              case o34 => omega
            refine lv_istore_n (lv' := [(2, .int x_9), (4, .int iv7_4), (3, .int iv7_3), (0, .ref x), (1, .int i1)]) hx hb dX1_disorder_45 rfl hl ?o35 rfl (fun ls hl => ?_)
            case o35 => decide
            refine lv_aload_n hx hb dX1_disorder_46 rfl (lv_at hl 3 rfl) ?_
            refine hk_getr hx hb hts hC_1 hown hW (gx.S hM) tt_1 3 ?o36 rfl kw_200 ⟨rfl, rfl, rfl⟩ ((hM.o gx trivial rfl).2.trans f_x_3) dX1_disorder_47 ?_
            case o36 => decide
            refine lv_iload hx hb dX1_disorder_50 (lv_at hl 1 rfl) ?_
            refine hx_iald hx hb hW hT (gqdy.S hM) tt_15 rfl ⟨?o37, ?o38⟩ dX1_disorder_52 (fun x_10 ex_10 lx_10 ux_10 => ?_)
            case o37 => omega
            case o38 => omega
            have ax_10 : x_10 = df iv7_4.toNatClampNeg := ex_10.trans (congrFun (hx_afS hM gqdy rfl af_qdy) _)
            obtain rfl : x_6 = x_10 := ex_6.trans ex_10.symm
            refine lv_istore_n (lv' := [(3, .int x_6), (2, .int x_9), (4, .int iv7_4), (0, .ref x), (1, .int i1)]) hx hb dX1_disorder_53 rfl hl ?o39 rfl (fun ls hl => ?_)
            case o39 => decide
            obtain ⟨x_11, ex_11⟩ : ∃ y : Int32, y = iv7_4 + Int32.ofInt 1 := ⟨_, rfl⟩
            have rg_12 := i32_r iv7_4
            have zx_11 : x_11.toInt = iv7_4.toInt + (1) := ?o40
            case o40 =>
              rw [ex_11]
              refine i32_add rfl ?o41 ?o42 ?o43
              case o41 => decide
              case o42 => omega
              case o43 => omega
            refine lv_iinc (v := x_11) (lv' := [(4, .int x_11), (3, .int x_6), (2, .int x_9), (0, .ref x), (1, .int i1)]) hx hb dX1_disorder_54 hl (k := 2) rfl ex_11.symm ?o44 rfl (fun ls hl => ?_)
            case o44 => decide
            refine lv_goto (tgt := 7) hx hb dX1_disorder_57 ?o45 ?_
            case o45 => decide
            exact ih7 x_9 x_6 x_11 _ _ hL1 hl1 (by omega) (by omega) (i32_r _).1 (i32_r _).2 (by omega) (by omega) (hy_dr_y vi7_0 (by omega) (ax_2.symm.trans (Int32.toInt_inj.mp (by omega))) ax_6 (by first | (rw [if_pos (by omega)]; omega) | (rw [if_neg (by omega)]; omega)) zx_11) (by omega) (by omega) ls (by omega) hW hT hM   (lv_sub hl [0, 1, 2, 3, 4] rfl)
          · skip
            refine lv_iconst (v := 1) hx hb dX1_disorder_39 ?o46 ?_
            case o46 => decide
            refine lv_goto (tgt := 44) hx hb dX1_disorder_40 ?o47 ?_
            case o47 => decide
            refine lv_iadd hx hb dX1_disorder_44 ?_
            have rg_13 := i32_r iv7_2
            refine lv_topi (fun x_14 ex_14 => ?_)
            have zx_14 : x_14.toInt = iv7_2.toInt + 1 := ?o48
            case o48 =>
              rw [ex_14]
              refine i32_add rfl ?o49 ?o50 ?o51
              case o49 => decide
              case o50 => omega
              case o51 => omega
            refine lv_istore_n (lv' := [(2, .int x_14), (4, .int iv7_4), (3, .int iv7_3), (0, .ref x), (1, .int i1)]) hx hb dX1_disorder_45 rfl hl ?o52 rfl (fun ls hl => ?_)
            case o52 => decide
            refine lv_aload_n hx hb dX1_disorder_46 rfl (lv_at hl 3 rfl) ?_
            refine hk_getr hx hb hts hC_1 hown hW (gx.S hM) tt_1 3 ?o53 rfl kw_200 ⟨rfl, rfl, rfl⟩ ((hM.o gx trivial rfl).2.trans f_x_3) dX1_disorder_47 ?_
            case o53 => decide
            refine lv_iload hx hb dX1_disorder_50 (lv_at hl 1 rfl) ?_
            refine hx_iald hx hb hW hT (gqdy.S hM) tt_15 rfl ⟨?o54, ?o55⟩ dX1_disorder_52 (fun x_15 ex_15 lx_15 ux_15 => ?_)
            case o54 => omega
            case o55 => omega
            have ax_15 : x_15 = df iv7_4.toNatClampNeg := ex_15.trans (congrFun (hx_afS hM gqdy rfl af_qdy) _)
            obtain rfl : x_6 = x_15 := ex_6.trans ex_15.symm
            refine lv_istore_n (lv' := [(3, .int x_6), (2, .int x_14), (4, .int iv7_4), (0, .ref x), (1, .int i1)]) hx hb dX1_disorder_53 rfl hl ?o56 rfl (fun ls hl => ?_)
            case o56 => decide
            obtain ⟨x_16, ex_16⟩ : ∃ y : Int32, y = iv7_4 + Int32.ofInt 1 := ⟨_, rfl⟩
            have rg_17 := i32_r iv7_4
            have zx_16 : x_16.toInt = iv7_4.toInt + (1) := ?o57
            case o57 =>
              rw [ex_16]
              refine i32_add rfl ?o58 ?o59 ?o60
              case o58 => decide
              case o59 => omega
              case o60 => omega
            refine lv_iinc (v := x_16) (lv' := [(4, .int x_16), (3, .int x_6), (2, .int x_14), (0, .ref x), (1, .int i1)]) hx hb dX1_disorder_54 hl (k := 2) rfl ex_16.symm ?o61 rfl (fun ls hl => ?_)
            case o61 => decide
            refine lv_goto (tgt := 7) hx hb dX1_disorder_57 ?o62 ?_
            case o62 => decide
            exact ih7 x_14 x_6 x_16 _ _ hL1 hl1 (by omega) (by omega) (i32_r _).1 (i32_r _).2 (by omega) (by omega) (hy_dr_y vi7_0 (by omega) (ax_2.symm.trans (Int32.toInt_inj.mp (by omega))) ax_6 (by first | (rw [if_pos (by omega)]; omega) | (rw [if_neg (by omega)]; omega)) zx_16) (by omega) (by omega) ls (by omega) hW hT hM   (lv_sub hl [0, 1, 2, 3, 4] rfl)
  have zk_0 : (0 : Int32).toInt = 0 := ?o63
  case o63 => decide
  have zk_0 : (0 : Int32).toInt = 0 := ?o64
  case o64 => decide
  have zk_0 : (0 : Int32).toInt = 0 := ?o65
  case o65 => decide
  refine loop7 401 (0 : Int32) (0 : Int32) (0 : Int32) _ _ L h ?o66 ?o67 ?o68 ?o69 ?o70 ?o71 (by rw [zk_0]; rfl) ?o72 ?o73 ls ?o74 hW hT hM   hl
  case o66 => decide
  case o67 => decide
  case o68 => decide
  case o69 => decide
  case o70 => decide
  case o71 => decide
  case o72 => omega
  case o73 => omega
  case o74 => omega


set_option maxHeartbeats 4000000 in
set_option maxRecDepth 100000 in
theorem t_X1_areTwins_2 (l : Launch) (dC : Nat → ClassId) (dI : Nat → Nat → Nat) (dA : Nat → ClassId) (L : List Nat) (h : hx_h) (sz : Nat) (x : Nat) (i1 : Int32) (i2 : Int32) (hT : hx_T T_tb L h) (gx : hx_g L h x 1) (qkd : Nat) (gqkd : hx_g L h qkd 16) (f_x_4 : h.2.2 x 4 = some qkd) (qsm : Nat) (gqsm : hx_g L h qsm 17) (f_x_5 : h.2.2 x 5 = some qsm) (qdy : Nat) (gqdy : hx_g L h qdy 15) (f_x_3 : h.2.2 x 3 = some qdy) (kf : Nat → Int32) (af_qkd : h.2.1 qkd = kf) (sf : Nat → Int32) (af_qsm : h.2.1 qsm = sf) (df : Nat → Int32) (af_qdy : h.2.1 qdy = df) (hi1 : 0 ≤ i1.toInt ∧ i1.toInt ≤ 399) (hi2 : 0 ≤ i2.toInt ∧ i2.toInt ≤ 399) (hd1 : 0 ≤ (df i1.toNatClampNeg).toInt ∧ (df i1.toNatClampNeg).toInt ≤ 7999) (hd2 : 0 ≤ (df i2.toNatClampNeg).toInt ∧ (df i2.toNatClampNeg).toInt ≤ 7999) : Met l yX1_areTwins (Cond.code yX1_areTwins cX1_areTwins 3 (some .boolean) :: hx_all) ({ frames := 1, cells := 0, slots := 0, locals := 21 }) (va_Pc [.ref x, .int i1, .int i2] (hx_B T_tb (P_ty dA) (dC, dI) vwCl L h sz)) (va_Qi (fun (r : Int32) (u : List Nat × hx_h) => ((r.toInt = 1 ∧ hy_tw df kf sf i1.toNatClampNeg i2.toNatClampNeg = true) ∨ (r.toInt = 0 ∧ hy_tw df kf sf i1.toNatClampNeg i2.toNatClampNeg = false)) ∧ hx_T T_tb u.1 u.2 ∧ hx_S T_tb [] L h u.1 u.2) (hx_E T_tb (P_ty dA) (dC, dI) vwCl (hx_A L sz)) (hx_A L sz)) 0 0 (hx_A L sz) := by
  refine hx_met (lv := [(0, .ref x), (1, .int i1), (2, .int i2)]) (by decide +kernel) rfl (Nat.le_of_ble_eq_true rfl) rfl ?_
  intro p e s m below meth c hx hb hml hr hlk hts0 hown hin hsz hW ls hl
  have hts : ∀ w ∈ hx_all, w.before _ s = true := fun w hw => hts0 w (List.mem_cons_of_mem _ hw)
  have hown : s.vm.findClass "SmallCourt$Books" = some m.cls := hown
  have hM : hx_S T_tb [] L h L h := hx_S.rf
  refine lv_aload_n hx hb dX1_areTwins_0 rfl (lv_at hl 0 rfl) ?_
  refine hk_getr hx hb hts hC_1 hown hW (gx.S hM) tt_1 4 ?o0 rfl kw_201 ⟨rfl, rfl, rfl⟩ ((hM.o gx trivial rfl).2.trans f_x_4) dX1_areTwins_1 ?_
  case o0 => decide
  refine lv_iload_n hx hb dX1_areTwins_4 rfl (lv_at hl 1 rfl) ?_
  refine hx_iald hx hb hW hT (gqkd.S hM) tt_16 rfl ⟨?o1, ?o2⟩ dX1_areTwins_5 (fun x_1 ex_1 lx_1 ux_1 => ?_)
  case o1 => omega
  case o2 => omega
  have ax_1 : x_1 = kf i1.toNatClampNeg := ex_1.trans (congrFun (hx_afS hM gqkd rfl af_qkd) _)
  refine lv_iconst (v := 1) hx hb dX1_areTwins_6 ?o3 ?_
  case o3 => decide
  refine lv_ixor hx hb dX1_areTwins_7 ?_
  refine lv_topi (fun x_2 ex_2 => ?_)
  refine lv_aload_n hx hb dX1_areTwins_8 rfl (lv_at hl 0 rfl) ?_
  refine hk_getr hx hb hts hC_1 hown hW (gx.S hM) tt_1 4 ?o4 rfl kw_201 ⟨rfl, rfl, rfl⟩ ((hM.o gx trivial rfl).2.trans f_x_4) dX1_areTwins_9 ?_
  case o4 => decide
  refine lv_iload_n hx hb dX1_areTwins_12 rfl (lv_at hl 2 rfl) ?_
  refine hx_iald hx hb hW hT (gqkd.S hM) tt_16 rfl ⟨?o5, ?o6⟩ dX1_areTwins_13 (fun x_3 ex_3 lx_3 ux_3 => ?_)
  case o5 => omega
  case o6 => omega
  have ax_3 : x_3 = kf i2.toNatClampNeg := ex_3.trans (congrFun (hx_afS hM gqkd rfl af_qkd) _)
  refine hb_icmp_ne (zx := x_2.toInt) (zy := x_3.toInt) (tgt := 56) hx hb rfl rfl dX1_areTwins_14 ?o7 (fun c_4 => ?_) (fun c_4 => ?_)
  case o7 => decide
  · skip
    refine lv_iconst (v := 0) hx hb dX1_areTwins_56 ?o8 ?_
    case o8 => decide
    exact hx_retz hx hb hr rfl hlk hW ⟨(Or.inr ⟨by decide, by cases ez : hy_tw df kf sf i1.toNatClampNeg i2.toNatClampNeg with | false => rfl | true => exfalso; have hc := hy_tw_t.mp ez; first | (have h9 : x_2.toInt = x_3.toInt := congrArg Int32.toInt (ex_2.trans ((congrArg (fun z : Int32 => z ^^^ 1) ax_1).trans (hc.1.trans ax_3.symm))); omega)⟩), hT, hM⟩ dX1_areTwins_57
  · skip
    refine lv_aload_n hx hb dX1_areTwins_17 rfl (lv_at hl 0 rfl) ?_
    refine hk_getr hx hb hts hC_1 hown hW (gx.S hM) tt_1 5 ?o9 rfl kw_202 ⟨rfl, rfl, rfl⟩ ((hM.o gx trivial rfl).2.trans f_x_5) dX1_areTwins_18 ?_
    case o9 => decide
    refine lv_iload_n hx hb dX1_areTwins_21 rfl (lv_at hl 1 rfl) ?_
    refine hx_iald hx hb hW hT (gqsm.S hM) tt_17 rfl ⟨?o10, ?o11⟩ dX1_areTwins_22 (fun x_5 ex_5 lx_5 ux_5 => ?_)
    case o10 => omega
    case o11 => omega
    have ax_5 : x_5 = sf i1.toNatClampNeg := ex_5.trans (congrFun (hx_afS hM gqsm rfl af_qsm) _)
    refine lv_aload_n hx hb dX1_areTwins_23 rfl (lv_at hl 0 rfl) ?_
    refine hk_getr hx hb hts hC_1 hown hW (gx.S hM) tt_1 5 ?o12 rfl kw_202 ⟨rfl, rfl, rfl⟩ ((hM.o gx trivial rfl).2.trans f_x_5) dX1_areTwins_24 ?_
    case o12 => decide
    refine lv_iload_n hx hb dX1_areTwins_27 rfl (lv_at hl 2 rfl) ?_
    refine hx_iald hx hb hW hT (gqsm.S hM) tt_17 rfl ⟨?o13, ?o14⟩ dX1_areTwins_28 (fun x_6 ex_6 lx_6 ux_6 => ?_)
    case o13 => omega
    case o14 => omega
    have ax_6 : x_6 = sf i2.toNatClampNeg := ex_6.trans (congrFun (hx_afS hM gqsm rfl af_qsm) _)
    refine hb_icmp_ne (zx := x_5.toInt) (zy := x_6.toInt) (tgt := 56) hx hb rfl rfl dX1_areTwins_29 ?o15 (fun c_7 => ?_) (fun c_7 => ?_)
    case o15 => decide
    · skip
      refine lv_iconst (v := 0) hx hb dX1_areTwins_56 ?o16 ?_
      case o16 => decide
      exact hx_retz hx hb hr rfl hlk hW ⟨(Or.inr ⟨by decide, by cases ez : hy_tw df kf sf i1.toNatClampNeg i2.toNatClampNeg with | false => rfl | true => exfalso; have hc := hy_tw_t.mp ez; first | (have h9 : x_2.toInt = x_3.toInt := congrArg Int32.toInt (ex_2.trans ((congrArg (fun z : Int32 => z ^^^ 1) ax_1).trans (hc.1.trans ax_3.symm))); omega) | (have h9 : x_5.toInt = x_6.toInt := congrArg Int32.toInt (ax_5.trans (hc.2.1.trans ax_6.symm)); omega)⟩), hT, hM⟩ dX1_areTwins_57
    · skip
      refine lv_aload_n hx hb dX1_areTwins_32 rfl (lv_at hl 0 rfl) ?_
      refine hk_getr hx hb hts hC_1 hown hW (gx.S hM) tt_1 3 ?o17 rfl kw_200 ⟨rfl, rfl, rfl⟩ ((hM.o gx trivial rfl).2.trans f_x_3) dX1_areTwins_33 ?_
      case o17 => decide
      refine lv_iload_n hx hb dX1_areTwins_36 rfl (lv_at hl 1 rfl) ?_
      refine hx_iald hx hb hW hT (gqdy.S hM) tt_15 rfl ⟨?o18, ?o19⟩ dX1_areTwins_37 (fun x_8 ex_8 lx_8 ux_8 => ?_)
      case o18 => omega
      case o19 => omega
      have ax_8 : x_8 = df i1.toNatClampNeg := ex_8.trans (congrFun (hx_afS hM gqdy rfl af_qdy) _)
      refine lv_aload_n hx hb dX1_areTwins_38 rfl (lv_at hl 0 rfl) ?_
      refine hk_getr hx hb hts hC_1 hown hW (gx.S hM) tt_1 3 ?o20 rfl kw_200 ⟨rfl, rfl, rfl⟩ ((hM.o gx trivial rfl).2.trans f_x_3) dX1_areTwins_39 ?_
      case o20 => decide
      refine lv_iload_n hx hb dX1_areTwins_42 rfl (lv_at hl 2 rfl) ?_
      refine hx_iald hx hb hW hT (gqdy.S hM) tt_15 rfl ⟨?o21, ?o22⟩ dX1_areTwins_43 (fun x_9 ex_9 lx_9 ux_9 => ?_)
      case o21 => omega
      case o22 => omega
      have ax_9 : x_9 = df i2.toNatClampNeg := ex_9.trans (congrFun (hx_afS hM gqdy rfl af_qdy) _)
      refine lv_isub hx hb dX1_areTwins_44 ?_
      have rg_10 := i32_r x_8
      have rg_11 := i32_r x_9
      refine lv_topi (fun x_12 ex_12 => ?_)
      have hda : 0 ≤ x_8.toInt ∧ x_8.toInt ≤ 7999 := ?o23
      case o23 =>
        rw [ax_8]
        exact hd1
      have hdb : 0 ≤ x_9.toInt ∧ x_9.toInt ≤ 7999 := ?o24
      case o24 =>
        rw [ax_9]
        exact hd2
      have hdf : x_12.toInt = x_8.toInt - x_9.toInt := ?o25
      case o25 =>
        rw [ex_12]
        refine i32_sub rfl rfl ?o26 ?o27
        case o26 => omega
        case o27 => omega
      refine va_mabs hx hb (hml.trans hl.1.symm) hown (hts _ kw_705) (hts _ kw_706) (hts _ kw_109) (hts _ kw_707) (Nat.le_of_ble_eq_true rfl) (Nat.le_of_ble_eq_true rfl) (Nat.le_of_ble_eq_true rfl) (Nat.le_of_ble_eq_true rfl) dX1_areTwins_45 ?_
      refine lv_topi (fun x_13 ex_13 => ?_)
      have hab := hy_abs ex_13 ?o28 ?o29
      case o28 => omega
      case o29 => omega
      refine lv_iconst (v := 3) hx hb dX1_areTwins_48 ?o30 ?_
      case o30 => decide
      refine hb_icmp_gt (zx := x_13.toInt) (zy := 3) (tgt := 56) hx hb rfl ?o31 dX1_areTwins_49 ?o32 (fun c_14 => ?_) (fun c_14 => ?_)
      case o31 => decide
      case o32 => decide
      · skip
        refine lv_iconst (v := 0) hx hb dX1_areTwins_56 ?o33 ?_
        case o33 => decide
        exact hx_retz hx hb hr rfl hlk hW ⟨(Or.inr ⟨by decide, by cases ez : hy_tw df kf sf i1.toNatClampNeg i2.toNatClampNeg with | false => rfl | true => exfalso; have hc := hy_tw_t.mp ez; first | (have h9 : x_2.toInt = x_3.toInt := congrArg Int32.toInt (ex_2.trans ((congrArg (fun z : Int32 => z ^^^ 1) ax_1).trans (hc.1.trans ax_3.symm))); omega) | (have h9 : x_5.toInt = x_6.toInt := congrArg Int32.toInt (ax_5.trans (hc.2.1.trans ax_6.symm)); omega) | (have h9 := hc.2.2; rw [← ax_8, ← ax_9] at h9; omega)⟩), hT, hM⟩ dX1_areTwins_57
      · skip
        refine lv_iconst (v := 1) hx hb dX1_areTwins_52 ?o34 ?_
        case o34 => decide
        refine lv_goto (tgt := 57) hx hb dX1_areTwins_53 ?o35 ?_
        case o35 => decide
        refine hx_retz hx hb hr rfl hlk hW ⟨(Or.inl ⟨?o36, hy_tw_t.mpr ⟨((congrArg (fun z : Int32 => z ^^^ 1) ax_1).symm.trans (ex_2.symm.trans ((Int32.toInt_inj.mp ?o37).trans ax_3))), (ax_5.symm.trans ((Int32.toInt_inj.mp ?o38).trans ax_6)), (by rw [← ax_8, ← ax_9]; omega), (by rw [← ax_8, ← ax_9]; omega)⟩⟩), hT, hM⟩ dX1_areTwins_57
        case o36 => decide
        case o37 => omega
        case o38 => omega


set_option maxHeartbeats 4000000 in
set_option maxRecDepth 100000 in
theorem t_X1_takeTwin_2 (l : Launch) (dC : Nat → ClassId) (dI : Nat → Nat → Nat) (dA : Nat → ClassId) (L : List Nat) (h : hx_h) (sz : Nat) (x : Nat) (i1 : Int32) (i2 : Int32) (hT : hx_T T_tb L h) (gx : hx_g L h x 1) (qo : Nat) (gqo : hx_g L h qo 13) (f_x_1 : h.2.2 x 1 = some qo) (qwi : Nat) (gqwi : hx_g L h qwi 14) (f_x_2 : h.2.2 x 2 = some qwi) (qdy : Nat) (gqdy : hx_g L h qdy 15) (f_x_3 : h.2.2 x 3 = some qdy) (qkd : Nat) (gqkd : hx_g L h qkd 16) (f_x_4 : h.2.2 x 4 = some qkd) (qsm : Nat) (gqsm : hx_g L h qsm 17) (f_x_5 : h.2.2 x 5 = some qsm) (qbd : Nat) (gqbd : hx_g L h qbd 18) (f_x_6 : h.2.2 x 6 = some qbd) (qtk : Nat) (gqtk : hx_g L h qtk 19) (f_x_7 : h.2.2 x 7 = some qtk) (of : Nat → Int32) (af_qo : h.2.1 qo = of) (wf : Nat → Int32) (af_qwi : h.2.1 qwi = wf) (df : Nat → Int32) (af_qdy : h.2.1 qdy = df) (kf : Nat → Int32) (af_qkd : h.2.1 qkd = kf) (sf : Nat → Int32) (af_qsm : h.2.1 qsm = sf) (bf : Nat → Int32) (af_qbd : h.2.1 qbd = bf) (tf : Nat → Int32) (af_qtk : h.2.1 qtk = tf) (ln0 : Int32) (f_x_0 : h.2.1 x 0 = ln0) (hBD : hy_BD df bf ln0.toInt.toNat) (hDY : hy_DY df ln0.toInt.toNat) (hi1 : 0 ≤ i1.toInt ∧ i1.toInt < ln0.toInt) : Met l yX1_takeTwin (Cond.code yX1_takeTwin cX1_takeTwin 5 (some .boolean) :: hx_all) ({ frames := 2, cells := 0, slots := 0, locals := 43 }) (va_Pc [.ref x, .int i1, .int i2] (hx_B T_tb (P_ty dA) (dC, dI) vwCl L h sz)) (va_Qi (fun (r : Int32) (u : List Nat × hx_h) => (∃ (tf1 : Nat → Int32), u.2.2.1 qtk = tf1 ∧ (hy_TK (hy_am (hy_tp of wf df kf sf tf (of i1.toNatClampNeg) (wf i1.toNatClampNeg) i2 i1.toNatClampNeg) df ln0.toInt.toNat) r.toInt tf tf1)) ∧ hx_T T_tb u.1 u.2 ∧ hx_S T_tb [(19, 0)] L h u.1 u.2) (hx_E T_tb (P_ty dA) (dC, dI) vwCl (hx_A L sz)) (hx_A L sz)) 0 0 (hx_A L sz) := by
  refine hx_met (lv := [(0, .ref x), (1, .int i1), (2, .int i2)]) (by decide +kernel) rfl (Nat.le_of_ble_eq_true rfl) rfl ?_
  intro p e s m below meth c hx hb hml hr hlk hts0 hown hin hsz hW ls hl
  have hts : ∀ w ∈ hx_all, w.before _ s = true := fun w hw => hts0 w (List.mem_cons_of_mem _ hw)
  have hown : s.vm.findClass "SmallCourt$Books" = some m.cls := hown
  have hM : hx_S T_tb [(19, 0)] L h L h := hx_S.rf
  have b_ln0 := hT.gi gx tt_1 (k := 0) rfl
  rw [f_x_0] at b_ln0
  have b_ln0 : 0 ≤ ln0.toInt ∧ ln0.toInt ≤ 400 := b_ln0
  refine lv_iconst (v := 0) hx hb dX1_takeTwin_0 ?o0 ?_
  case o0 => decide
  refine lv_istore_n (lv' := [(3, .int (0 : Int32)), (0, .ref x), (1, .int i1), (2, .int i2)]) hx hb dX1_takeTwin_1 rfl hl ?o1 rfl (fun ls hl => ?_)
  case o1 => decide
  have loop2 : ∀ (n2 : Nat) (iv2_3 : Int32) (H : Heap) (locs : List Loc) (hL1 : List Nat) (hl1 : hx_h), 0 ≤ iv2_3.toInt → iv2_3.toInt ≤ 400 → (∀ j : Nat, (j : Int) < iv2_3.toInt → hy_tp of wf df kf sf tf (of i1.toNatClampNeg) (wf i1.toNatClampNeg) i2 i1.toNatClampNeg (bf j).toInt.toNat = false) → (iv2_3.toInt ≤ ln0.toInt) → ∀ (ls : Array Slot), 400 - iv2_3.toInt < (n2 : Int) → hx_W T_tb (P_ty dA) (dC, dI) vwCl (hx_A L sz) s.heap hL1 hl1 s H locs → hx_T T_tb hL1 hl1 → hx_S T_tb [(19, 0)] L h hL1 hl1 → hl1.2.1 qtk = tf → lv_has ls 5 [(3, .int iv2_3), (0, .ref x), (1, .int i1), (2, .int i2)] → W p l e ({ frames := 2, cells := 0, slots := 0, locals := 43 }) s m ([.ref x, .int i1, .int i2] : List Value).toArray below meth c H locs 0 0 (MQ below (va_Qi (fun (r : Int32) (u : List Nat × hx_h) => (∃ (tf1 : Nat → Int32), u.2.2.1 qtk = tf1 ∧ (hy_TK (hy_am (hy_tp of wf df kf sf tf (of i1.toNatClampNeg) (wf i1.toNatClampNeg) i2 i1.toNatClampNeg) df ln0.toInt.toNat) r.toInt tf tf1)) ∧ hx_T T_tb u.1 u.2 ∧ hx_S T_tb [(19, 0)] L h u.1 u.2) (hx_E T_tb (P_ty dA) (dC, dI) vwCl (hx_A L sz)) (hx_A L sz)) ([.ref x, .int i1, .int i2] : List Value).toArray s 0 0 (hx_A L sz)) (F0 m 2 ls []) := by
    intro n2
    induction n2 with
    | zero => intro iv2_3 H locs hL1 hl1 bliv2_3 buiv2_3 vi2_0 vi2_1 ls hn2; exfalso; omega
    | succ n2 ih2 =>
      intro iv2_3 H locs hL1 hl1 bliv2_3 buiv2_3 vi2_0 vi2_1 ls hn2 hW hT hM  af_qtk hl
      refine lv_iload_n hx hb dX1_takeTwin_2 rfl (lv_at hl 0 rfl) ?_
      refine lv_aload_n hx hb dX1_takeTwin_3 rfl (lv_at hl 1 rfl) ?_
      refine hk_geti hx hb hts hC_1 hown hW (gx.S hM) tt_1 0 ?o2 rfl kw_196 ⟨rfl, rfl, rfl⟩ ((hM.o gx trivial rfl).1.trans f_x_0) dX1_takeTwin_4 ?_
      case o2 => decide
      refine hb_icmp_ge (zx := iv2_3.toInt) (zy := ln0.toInt) (tgt := 76) hx hb rfl rfl dX1_takeTwin_7 ?o3 (fun c_1 => ?_) (fun c_1 => ?_)
      case o3 => decide
      · skip
        refine lv_iconst (v := 0) hx hb dX1_takeTwin_76 ?o4 ?_
        case o4 => decide
        refine hx_retz hx hb hr rfl hlk hW ⟨⟨tf, af_qtk, (Or.inl ⟨?o5, (by rw [hy_am_no hBD (fun j hj => vi2_0 j (by omega))]; decide), rfl⟩)⟩, hT, hM⟩ dX1_takeTwin_77
        case o5 => decide
      · skip
        refine lv_aload_n hx hb dX1_takeTwin_10 rfl (lv_at hl 1 rfl) ?_
        refine hk_getr hx hb hts hC_1 hown hW (gx.S hM) tt_1 6 ?o6 rfl kw_203 ⟨rfl, rfl, rfl⟩ ((hM.o gx trivial rfl).2.trans f_x_6) dX1_takeTwin_11 ?_
        case o6 => decide
        refine lv_iload_n hx hb dX1_takeTwin_14 rfl (lv_at hl 0 rfl) ?_
        refine hx_iald hx hb hW hT (gqbd.S hM) tt_18 rfl ⟨?o7, ?o8⟩ dX1_takeTwin_15 (fun x_2 ex_2 lx_2 ux_2 => ?_)
        case o7 => omega
        case o8 => omega
        have ax_2 : x_2 = bf iv2_3.toNatClampNeg := ex_2.trans (congrFun (hx_afS hM gqbd rfl af_qbd) _)
        refine lv_istore (lv' := [(4, .int x_2), (3, .int iv2_3), (0, .ref x), (1, .int i1), (2, .int i2)]) hx hb dX1_takeTwin_16 hl ?o9 rfl (fun ls hl => ?_)
        case o9 => decide
        have hhb := hy_BD_b hBD ?o10 ?o11 ax_2
        case o10 => omega
        case o11 => omega
        have hdm := hDY i1.toNatClampNeg (by unfold Int32.toNatClampNeg; omega)
        have hdh := hDY x_2.toNatClampNeg (by unfold Int32.toNatClampNeg; omega)
        refine lv_aload_n hx hb dX1_takeTwin_18 rfl (lv_at hl 2 rfl) ?_
        refine hk_getr hx hb hts hC_1 hown hW (gx.S hM) tt_1 7 ?o12 rfl kw_204 ⟨rfl, rfl, rfl⟩ ((hM.o gx trivial rfl).2.trans f_x_7) dX1_takeTwin_19 ?_
        case o12 => decide
        refine lv_iload hx hb dX1_takeTwin_22 (lv_at hl 0 rfl) ?_
        refine hx_zald hx hb hW hT (gqtk.S hM) tt_19 rfl ⟨?o13, ?o14⟩ dX1_takeTwin_24 (fun x_3 ex_3 lx_3 ux_3 => ?_)
        case o13 => omega
        case o14 => omega
        have ax_3 : x_3 = tf x_2.toNatClampNeg := ex_3.trans (congrFun af_qtk _)
        refine hb_if_ne (zx := x_3.toInt) (tgt := 70) hx hb rfl dX1_takeTwin_25 ?o15 (fun c_4 => ?_) (fun c_4 => ?_)
        case o15 => decide
        · skip
          obtain ⟨x_5, ex_5⟩ : ∃ y : Int32, y = iv2_3 + Int32.ofInt 1 := ⟨_, rfl⟩
          have rg_6 := i32_r iv2_3
          have zx_5 : x_5.toInt = iv2_3.toInt + (1) := ?o16
          case o16 =>
            rw [ex_5]
            refine i32_add rfl ?o17 ?o18 ?o19
            case o17 => decide
            case o18 => omega
            case o19 => omega
          refine lv_iinc (v := x_5) (lv' := [(3, .int x_5), (4, .int x_2), (0, .ref x), (1, .int i1), (2, .int i2)]) hx hb dX1_takeTwin_70 hl (k := 1) rfl ex_5.symm ?o20 rfl (fun ls hl => ?_)
          case o20 => decide
          refine lv_goto (tgt := 2) hx hb dX1_takeTwin_73 ?o21 ?_
          case o21 => decide
          refine ih2 x_5 _ _ hL1 hl1 ?o22 ?o23 (hy_all_s vi2_0 ?o24 (by rw [← ax_2]; exact hy_tp_f (Or.inl (by show (tf x_2.toNatClampNeg).toInt ≠ 0; rw [← ax_3]; omega))) zx_5) ?o25 ls ?o26 hW hT hM  af_qtk (lv_sub hl [0, 2, 3, 4] rfl)
          case o22 => omega
          case o23 => omega
          case o24 => omega
          case o25 => omega
          case o26 => omega
        · skip
          refine lv_aload_n hx hb dX1_takeTwin_28 rfl (lv_at hl 2 rfl) ?_
          refine lv_iload hx hb dX1_takeTwin_29 (lv_at hl 0 rfl) ?_
          refine lv_aload_n hx hb dX1_takeTwin_31 rfl (lv_at hl 2 rfl) ?_
          refine hk_getr hx hb hts hC_1 hown hW (gx.S hM) tt_1 2 ?o27 rfl kw_199 ⟨rfl, rfl, rfl⟩ ((hM.o gx trivial rfl).2.trans f_x_2) dX1_takeTwin_32 ?_
          case o27 => decide
          refine lv_iload_n hx hb dX1_takeTwin_35 rfl (lv_at hl 3 rfl) ?_
          refine hx_iald hx hb hW hT (gqwi.S hM) tt_14 rfl ⟨?o28, ?o29⟩ dX1_takeTwin_36 (fun x_7 ex_7 lx_7 ux_7 => ?_)
          case o28 => omega
          case o29 => omega
          have ax_7 : x_7 = wf i1.toNatClampNeg := ex_7.trans (congrFun (hx_afS hM gqwi rfl af_qwi) _)
          refine lv_aload_n hx hb dX1_takeTwin_37 rfl (lv_at hl 2 rfl) ?_
          refine hk_getr hx hb hts hC_1 hown hW (gx.S hM) tt_1 1 ?o30 rfl kw_198 ⟨rfl, rfl, rfl⟩ ((hM.o gx trivial rfl).2.trans f_x_1) dX1_takeTwin_38 ?_
          case o30 => decide
          refine lv_iload_n hx hb dX1_takeTwin_41 rfl (lv_at hl 3 rfl) ?_
          refine hx_iald hx hb hW hT (gqo.S hM) tt_13 rfl ⟨?o31, ?o32⟩ dX1_takeTwin_42 (fun x_8 ex_8 lx_8 ux_8 => ?_)
          case o31 => omega
          case o32 => omega
          have ax_8 : x_8 = of i1.toNatClampNeg := ex_8.trans (congrFun (hx_afS hM gqo rfl af_qo) _)
          refine lv_iload_n hx hb dX1_takeTwin_43 rfl (lv_at hl 4 rfl) ?_
          refine hx_goi (hx_runV (As := [.int x_2, .int x_7, .int x_8, .int i2]) (rest := []) ⟨hx, hb, hml, hown, hts⟩ hW (gx.S hM) tt_1 (T := TX1) (N := 8) rfl (t_X1_isLine_2 l dC dI dA hL1 hl1 H.size x x_2 x_7 x_8 i2 hT (gx.S hM) qo (gqo.S hM) ((hM.o gx trivial rfl).2.trans f_x_1) qwi (gqwi.S hM) ((hM.o gx trivial rfl).2.trans f_x_2) qdy (gqdy.S hM) ((hM.o gx trivial rfl).2.trans f_x_3) of (hx_afS hM gqo rfl af_qo) wf (hx_afS hM gqwi rfl af_qwi) df (hx_afS hM gqdy rfl af_qdy) ⟨?o33, ?o34⟩) (cwV 4 hts (hx_gV kw_692 kw_689 kw_691 kw_22 kw_98) rfl rfl rfl (by decide +kernel) ⟨Nat.le_of_ble_eq_true rfl, Nat.le_of_ble_eq_true rfl⟩) rfl hl.1 rfl (Nat.le_of_ble_eq_true rfl) dX1_takeTwin_44 ⟨Nat.le_of_ble_eq_true rfl, Nat.le_of_ble_eq_true rfl⟩) hW (fun r_11 L_9 h_10 H locs p_12 hW => ?_)
          case o33 => omega
          case o34 => omega
          obtain ⟨hr_13, hT, hs⟩ := p_12
          replace hT : hx_T T_tb L_9 h_10 := hT
          replace hs : hx_S T_tb [] hL1 hl1 L_9 h_10 := hs
          replace af_qtk : h_10.2.1 qtk = tf := (funext fun j => (hs.a (gqtk.S hM) rfl j).1).trans af_qtk
          replace ex_2 := ex_2.trans (hs.a (gqbd.S hM) rfl _).1.symm
          replace ex_3 := ex_3.trans (hs.a (gqtk.S hM) rfl _).1.symm
          replace ex_7 := ex_7.trans (hs.a (gqwi.S hM) rfl _).1.symm
          replace ex_8 := ex_8.trans (hs.a (gqo.S hM) rfl _).1.symm
          replace hM := hM.tr (hs.mono ?o35)
          case o35 => decide
          refine hb_if_eq (zx := r_11.toInt) (tgt := 70) hx hb rfl dX1_takeTwin_47 ?o36 (fun c_14 => ?_) (fun c_14 => ?_)
          case o36 => decide
          · skip
            obtain ⟨x_15, ex_15⟩ : ∃ y : Int32, y = iv2_3 + Int32.ofInt 1 := ⟨_, rfl⟩
            have rg_16 := i32_r iv2_3
            have zx_15 : x_15.toInt = iv2_3.toInt + (1) := ?o37
            case o37 =>
              rw [ex_15]
              refine i32_add rfl ?o38 ?o39 ?o40
              case o38 => decide
              case o39 => omega
              case o40 => omega
            refine lv_iinc (v := x_15) (lv' := [(3, .int x_15), (4, .int x_2), (0, .ref x), (1, .int i1), (2, .int i2)]) hx hb dX1_takeTwin_70 hl (k := 1) rfl ex_15.symm ?o41 rfl (fun ls hl => ?_)
            case o41 => decide
            refine lv_goto (tgt := 2) hx hb dX1_takeTwin_73 ?o42 ?_
            case o42 => decide
            refine ih2 x_15 _ _ L_9 h_10 ?o43 ?o44 (hy_all_s vi2_0 ?o45 (by rw [← ax_2]; exact hy_tp_f (Or.inr (Or.inl (by rcases hr_13 with z | z; (exfalso; omega); rw [ax_7, ax_8] at z; exact z.2)))) zx_15) ?o46 ls ?o47 hW hT hM  af_qtk (lv_sub hl [0, 2, 3, 4] rfl)
            case o43 => omega
            case o44 => omega
            case o45 => omega
            case o46 => omega
            case o47 => omega
          · skip
            refine lv_aload_n hx hb dX1_takeTwin_50 rfl (lv_at hl 2 rfl) ?_
            refine lv_iload_n hx hb dX1_takeTwin_51 rfl (lv_at hl 3 rfl) ?_
            refine lv_iload hx hb dX1_takeTwin_52 (lv_at hl 0 rfl) ?_
            refine hx_goi (hx_runV (As := [.int i1, .int x_2]) (rest := []) ⟨hx, hb, hml, hown, hts⟩ hW (gx.S hM) tt_1 (T := TX1) (N := 8) rfl (t_X1_areTwins_2 l dC dI dA L_9 h_10 H.size x i1 x_2 hT (gx.S hM) qkd (gqkd.S hM) ((hM.o gx trivial rfl).2.trans f_x_4) qsm (gqsm.S hM) ((hM.o gx trivial rfl).2.trans f_x_5) qdy (gqdy.S hM) ((hM.o gx trivial rfl).2.trans f_x_3) kf (hx_afS hM gqkd rfl af_qkd) sf (hx_afS hM gqsm rfl af_qsm) df (hx_afS hM gqdy rfl af_qdy) ⟨?o48, ?o49⟩ ⟨?o50, ?o51⟩ hdm hdh) (cwV 2 hts (hx_gV kw_704 kw_701 kw_703 kw_24 kw_98) rfl rfl rfl (by decide +kernel) ⟨Nat.le_of_ble_eq_true rfl, Nat.le_of_ble_eq_true rfl⟩) rfl hl.1 rfl (Nat.le_of_ble_eq_true rfl) dX1_takeTwin_54 ⟨Nat.le_of_ble_eq_true rfl, Nat.le_of_ble_eq_true rfl⟩) hW (fun r_19 L_17 h_18 H locs p_20 hW => ?_)
            case o48 => omega
            case o49 => omega
            case o50 => omega
            case o51 => omega
            obtain ⟨hr_21, hT, hs⟩ := p_20
            replace hT : hx_T T_tb L_17 h_18 := hT
            replace hs : hx_S T_tb [] L_9 h_10 L_17 h_18 := hs
            replace af_qtk : h_18.2.1 qtk = tf := (funext fun j => (hs.a (gqtk.S hM) rfl j).1).trans af_qtk
            replace ex_2 := ex_2.trans (hs.a (gqbd.S hM) rfl _).1.symm
            replace ex_3 := ex_3.trans (hs.a (gqtk.S hM) rfl _).1.symm
            replace ex_7 := ex_7.trans (hs.a (gqwi.S hM) rfl _).1.symm
            replace ex_8 := ex_8.trans (hs.a (gqo.S hM) rfl _).1.symm
            replace hM := hM.tr (hs.mono ?o52)
            case o52 => decide
            refine hb_if_eq (zx := r_19.toInt) (tgt := 70) hx hb rfl dX1_takeTwin_57 ?o53 (fun c_22 => ?_) (fun c_22 => ?_)
            case o53 => decide
            · skip
              obtain ⟨x_23, ex_23⟩ : ∃ y : Int32, y = iv2_3 + Int32.ofInt 1 := ⟨_, rfl⟩
              have rg_24 := i32_r iv2_3
              have zx_23 : x_23.toInt = iv2_3.toInt + (1) := ?o54
              case o54 =>
                rw [ex_23]
                refine i32_add rfl ?o55 ?o56 ?o57
                case o55 => decide
                case o56 => omega
                case o57 => omega
              refine lv_iinc (v := x_23) (lv' := [(3, .int x_23), (4, .int x_2), (0, .ref x), (1, .int i1), (2, .int i2)]) hx hb dX1_takeTwin_70 hl (k := 1) rfl ex_23.symm ?o58 rfl (fun ls hl => ?_)
              case o58 => decide
              refine lv_goto (tgt := 2) hx hb dX1_takeTwin_73 ?o59 ?_
              case o59 => decide
              refine ih2 x_23 _ _ L_17 h_18 ?o60 ?o61 (hy_all_s vi2_0 ?o62 (by rw [← ax_2]; exact hy_tp_f (Or.inr (Or.inr (by rcases hr_21 with z | z; (exfalso; omega); exact z.2)))) zx_23) ?o63 ls ?o64 hW hT hM  af_qtk (lv_sub hl [0, 2, 3, 4] rfl)
              case o60 => omega
              case o61 => omega
              case o62 => omega
              case o63 => omega
              case o64 => omega
            · skip
              have hAm := hy_am_yes (pr := hy_tp of wf df kf sf tf (of i1.toNatClampNeg) (wf i1.toNatClampNeg) i2 i1.toNatClampNeg) hBD (i := iv2_3.toNatClampNeg) (by unfold Int32.toNatClampNeg; omega) (fun j hj => vi2_0 j (by unfold Int32.toNatClampNeg at hj; omega)) (by rw [← ax_2]; exact hy_tp_t (by show (tf x_2.toNatClampNeg).toInt = 0; rw [← ax_3]; omega) (by rcases hr_13 with z | z; rw [ax_7, ax_8] at z; exact z.2; exfalso; omega) (by rcases hr_21 with z | z; exact z.2; exfalso; omega))
              rw [← ax_2] at hAm
              refine lv_aload_n hx hb dX1_takeTwin_60 rfl (lv_at hl 2 rfl) ?_
              refine hk_getr hx hb hts hC_1 hown hW (gx.S hM) tt_1 7 ?o65 rfl kw_204 ⟨rfl, rfl, rfl⟩ ((hM.o gx trivial rfl).2.trans f_x_7) dX1_takeTwin_61 ?_
              case o65 => decide
              refine lv_iload hx hb dX1_takeTwin_64 (lv_at hl 0 rfl) ?_
              refine lv_iconst (v := 1) hx hb dX1_takeTwin_66 ?o66 ?_
              case o66 => decide
              have af_qtkO := af_qtk
              refine hx_zast hx hb hW hT (hx_S.rf (M := [(19, 0)])) (gqtk.S hM) tt_19 rfl ⟨?o67, ?o68⟩ (y := 1) ?o69 ?o70 (List.mem_singleton.mpr rfl) dX1_takeTwin_67 (fun H locs h_25 eh_25 hW hT hs => ?_)
              case o67 => omega
              case o68 => omega
              case o69 => decide
              case o70 => decide
              replace ex_2 := ex_2.trans (hs.a (gqbd.S hM) rfl _).1.symm
              replace ex_7 := ex_7.trans (hs.a (gqwi.S hM) rfl _).1.symm
              replace ex_8 := ex_8.trans (hs.a (gqo.S hM) rfl _).1.symm
              replace hM := hM.tr (hs.mono ?o71)
              case o71 => decide
              obtain ⟨fa_26, dfa_26⟩ : ∃ g : Nat → Int32, g = hx_up tf x_2.toNatClampNeg (1 : Int32) := ⟨_, rfl⟩
              have nfa_26 : h_25.2.1 qtk = fa_26 := ?o72
              case o72 =>
                rw [eh_25, dfa_26, ← af_qtkO]
                exact hx_pi_fun _ _ _ _
              refine lv_iconst (v := 1) hx hb dX1_takeTwin_68 ?o73 ?_
              case o73 => decide
              refine hx_retz hx hb hr rfl hlk hW ⟨⟨fa_26, nfa_26, (Or.inr ⟨?o74, by rw [hAm]; omega, by rw [hAm]; exact dfa_26⟩)⟩, hT, hM⟩ dX1_takeTwin_69
              case o74 => decide
  have zk_0 : (0 : Int32).toInt = 0 := ?o75
  case o75 => decide
  refine loop2 401 (0 : Int32) _ _ L h ?o76 ?o77 (fun j hj => ?o78) ?o79 ls ?o80 hW hT hM  af_qtk hl
  case o76 => decide
  case o77 => decide
  case o78 =>
    exfalso
    omega
  case o79 => omega
  case o80 => omega


set_option maxHeartbeats 4000000 in
set_option maxRecDepth 100000 in
theorem t_X1_twinPairs_2 (l : Launch) (dC : Nat → ClassId) (dI : Nat → Nat → Nat) (dA : Nat → ClassId) (L : List Nat) (h : hx_h) (sz : Nat) (x : Nat) (i1 : Int32) (i2 : Int32) (i3 : Int32) (hT : hx_T T_tb L h) (gx : hx_g L h x 1) (qo : Nat) (gqo : hx_g L h qo 13) (f_x_1 : h.2.2 x 1 = some qo) (qwi : Nat) (gqwi : hx_g L h qwi 14) (f_x_2 : h.2.2 x 2 = some qwi) (qdy : Nat) (gqdy : hx_g L h qdy 15) (f_x_3 : h.2.2 x 3 = some qdy) (qkd : Nat) (gqkd : hx_g L h qkd 16) (f_x_4 : h.2.2 x 4 = some qkd) (qsm : Nat) (gqsm : hx_g L h qsm 17) (f_x_5 : h.2.2 x 5 = some qsm) (qbd : Nat) (gqbd : hx_g L h qbd 18) (f_x_6 : h.2.2 x 6 = some qbd) (qtk : Nat) (gqtk : hx_g L h qtk 19) (f_x_7 : h.2.2 x 7 = some qtk) (of : Nat → Int32) (af_qo : h.2.1 qo = of) (wf : Nat → Int32) (af_qwi : h.2.1 qwi = wf) (df : Nat → Int32) (af_qdy : h.2.1 qdy = df) (kf : Nat → Int32) (af_qkd : h.2.1 qkd = kf) (sf : Nat → Int32) (af_qsm : h.2.1 qsm = sf) (bf : Nat → Int32) (af_qbd : h.2.1 qbd = bf) (tf : Nat → Int32) (af_qtk : h.2.1 qtk = tf) (ln0 : Int32) (f_x_0 : h.2.1 x 0 = ln0) (hBD : hy_BD df bf ln0.toInt.toNat) (hDY : hy_DY df ln0.toInt.toNat) : Met l yX1_twinPairs (Cond.code yX1_twinPairs cX1_twinPairs 6 (some .int) :: hx_all) ({ frames := 3, cells := 0, slots := 0, locals := 67 }) (va_Pc [.ref x, .int i1, .int i2, .int i3] (hx_B T_tb (P_ty dA) (dC, dI) vwCl L h sz)) (va_Qi (fun (r : Int32) (u : List Nat × hx_h) => (r.toInt = (hy_G of wf df kf sf bf i1 i2 i3 ln0.toInt.toNat ln0.toInt.toNat).2) ∧ hx_T T_tb u.1 u.2 ∧ hx_S T_tb [(19, 0)] L h u.1 u.2) (hx_E T_tb (P_ty dA) (dC, dI) vwCl (hx_A L sz)) (hx_A L sz)) 0 0 (hx_A L sz) := by
  refine hx_met (lv := [(0, .ref x), (1, .int i1), (2, .int i2), (3, .int i3)]) (by decide +kernel) rfl (Nat.le_of_ble_eq_true rfl) rfl ?_
  intro p e s m below meth c hx hb hml hr hlk hts0 hown hin hsz hW ls hl
  have hts : ∀ w ∈ hx_all, w.before _ s = true := fun w hw => hts0 w (List.mem_cons_of_mem _ hw)
  have hown : s.vm.findClass "SmallCourt$Books" = some m.cls := hown
  have hM : hx_S T_tb [(19, 0)] L h L h := hx_S.rf
  have b_ln0 := hT.gi gx tt_1 (k := 0) rfl
  rw [f_x_0] at b_ln0
  have b_ln0 : 0 ≤ ln0.toInt ∧ ln0.toInt ≤ 400 := b_ln0
  refine lv_iconst (v := 0) hx hb dX1_twinPairs_0 ?o0 ?_
  case o0 => decide
  refine lv_istore (lv' := [(4, .int (0 : Int32)), (0, .ref x), (1, .int i1), (2, .int i2), (3, .int i3)]) hx hb dX1_twinPairs_1 hl ?o1 rfl (fun ls hl => ?_)
  case o1 => decide
  have loop3 : ∀ (n3 : Nat) (iv3_4 : Int32) (ia3_qtk : Nat → Int32) (H : Heap) (locs : List Loc) (hL1 : List Nat) (hl1 : hx_h), 0 ≤ iv3_4.toInt → iv3_4.toInt ≤ 400 → (iv3_4.toInt ≤ ln0.toInt) → (∀ j : Nat, (j : Int) < iv3_4.toInt → ia3_qtk j = 0) → ∀ (ls : Array Slot), 400 - iv3_4.toInt < (n3 : Int) → hx_W T_tb (P_ty dA) (dC, dI) vwCl (hx_A L sz) s.heap hL1 hl1 s H locs → hx_T T_tb hL1 hl1 → hx_S T_tb [(19, 0)] L h hL1 hl1 → hl1.2.1 qtk = ia3_qtk → lv_has ls 6 [(4, .int iv3_4), (0, .ref x), (1, .int i1), (2, .int i2), (3, .int i3)] → W p l e ({ frames := 3, cells := 0, slots := 0, locals := 67 }) s m ([.ref x, .int i1, .int i2, .int i3] : List Value).toArray below meth c H locs 0 0 (MQ below (va_Qi (fun (r : Int32) (u : List Nat × hx_h) => (r.toInt = (hy_G of wf df kf sf bf i1 i2 i3 ln0.toInt.toNat ln0.toInt.toNat).2) ∧ hx_T T_tb u.1 u.2 ∧ hx_S T_tb [(19, 0)] L h u.1 u.2) (hx_E T_tb (P_ty dA) (dC, dI) vwCl (hx_A L sz)) (hx_A L sz)) ([.ref x, .int i1, .int i2, .int i3] : List Value).toArray s 0 0 (hx_A L sz)) (F0 m 3 ls []) := by
    intro n3
    induction n3 with
    | zero => intro iv3_4 ia3_qtk H locs hL1 hl1 bliv3_4 buiv3_4 vi3_0 vi3_1 ls hn3; exfalso; omega
    | succ n3 ih3 =>
      intro iv3_4 ia3_qtk H locs hL1 hl1 bliv3_4 buiv3_4 vi3_0 vi3_1 ls hn3 hW hT hM  nia3_qtk hl
      refine lv_iload hx hb dX1_twinPairs_3 (lv_at hl 0 rfl) ?_
      refine lv_aload_n hx hb dX1_twinPairs_5 rfl (lv_at hl 1 rfl) ?_
      refine hk_geti hx hb hts hC_1 hown hW (gx.S hM) tt_1 0 ?o2 rfl kw_196 ⟨rfl, rfl, rfl⟩ ((hM.o gx trivial rfl).1.trans f_x_0) dX1_twinPairs_6 ?_
      case o2 => decide
      refine hb_icmp_ge (zx := iv3_4.toInt) (zy := ln0.toInt) (tgt := 26) hx hb rfl rfl dX1_twinPairs_9 ?o3 (fun c_1 => ?_) (fun c_1 => ?_)
      case o3 => decide
      · skip
        refine lv_iconst (v := 0) hx hb dX1_twinPairs_26 ?o4 ?_
        case o4 => decide
        refine lv_istore (lv' := [(4, .int (0 : Int32)), (0, .ref x), (1, .int i1), (2, .int i2), (3, .int i3)]) hx hb dX1_twinPairs_27 hl ?o5 rfl (fun ls hl => ?_)
        case o5 => decide
        refine lv_iconst (v := 0) hx hb dX1_twinPairs_29 ?o6 ?_
        case o6 => decide
        refine lv_istore (lv' := [(5, .int (0 : Int32)), (4, .int (0 : Int32)), (0, .ref x), (1, .int i1), (2, .int i2), (3, .int i3)]) hx hb dX1_twinPairs_30 hl ?o7 rfl (fun ls hl => ?_)
        case o7 => decide
        have loop32 : ∀ (n32 : Nat) (iv32_4 iv32_5 : Int32) (ia32_qtk : Nat → Int32) (H : Heap) (locs : List Loc) (hL1 : List Nat) (hl1 : hx_h), 0 ≤ iv32_4.toInt → iv32_4.toInt ≤ 400 → 0 ≤ iv32_5.toInt → iv32_5.toInt ≤ 400 → (iv32_4.toInt ≤ iv32_5.toInt) → (iv32_5.toInt ≤ ln0.toInt) → (hx_eqN ln0.toInt.toNat ia32_qtk (hy_G of wf df kf sf bf i1 i2 i3 ln0.toInt.toNat (iv32_5.toInt).toNat).1 ∧ iv32_4.toInt = (hy_G of wf df kf sf bf i1 i2 i3 ln0.toInt.toNat (iv32_5.toInt).toNat).2) → ∀ (ls : Array Slot), 400 - iv32_5.toInt < (n32 : Int) → hx_W T_tb (P_ty dA) (dC, dI) vwCl (hx_A L sz) s.heap hL1 hl1 s H locs → hx_T T_tb hL1 hl1 → hx_S T_tb [(19, 0)] L h hL1 hl1 → hl1.2.1 qtk = ia32_qtk → lv_has ls 6 [(5, .int iv32_5), (4, .int iv32_4), (0, .ref x), (1, .int i1), (2, .int i2), (3, .int i3)] → W p l e ({ frames := 3, cells := 0, slots := 0, locals := 67 }) s m ([.ref x, .int i1, .int i2, .int i3] : List Value).toArray below meth c H locs 0 0 (MQ below (va_Qi (fun (r : Int32) (u : List Nat × hx_h) => (r.toInt = (hy_G of wf df kf sf bf i1 i2 i3 ln0.toInt.toNat ln0.toInt.toNat).2) ∧ hx_T T_tb u.1 u.2 ∧ hx_S T_tb [(19, 0)] L h u.1 u.2) (hx_E T_tb (P_ty dA) (dC, dI) vwCl (hx_A L sz)) (hx_A L sz)) ([.ref x, .int i1, .int i2, .int i3] : List Value).toArray s 0 0 (hx_A L sz)) (F0 m 32 ls []) := by
          intro n32
          induction n32 with
          | zero => intro iv32_4 iv32_5 ia32_qtk H locs hL1 hl1 bliv32_4 buiv32_4 bliv32_5 buiv32_5 vi32_0 vi32_1 vi32_2 ls hn32; exfalso; omega
          | succ n32 ih32 =>
            intro iv32_4 iv32_5 ia32_qtk H locs hL1 hl1 bliv32_4 buiv32_4 bliv32_5 buiv32_5 vi32_0 vi32_1 vi32_2 ls hn32 hW hT hM  nia32_qtk hl
            refine lv_iload hx hb dX1_twinPairs_32 (lv_at hl 0 rfl) ?_
            refine lv_aload_n hx hb dX1_twinPairs_34 rfl (lv_at hl 2 rfl) ?_
            refine hk_geti hx hb hts hC_1 hown hW (gx.S hM) tt_1 0 ?o8 rfl kw_196 ⟨rfl, rfl, rfl⟩ ((hM.o gx trivial rfl).1.trans f_x_0) dX1_twinPairs_35 ?_
            case o8 => decide
            refine hb_icmp_ge (zx := iv32_5.toInt) (zy := ln0.toInt) (tgt := 82) hx hb rfl rfl dX1_twinPairs_38 ?o9 (fun c_2 => ?_) (fun c_2 => ?_)
            case o9 => decide
            · skip
              refine lv_iload hx hb dX1_twinPairs_82 (lv_at hl 1 rfl) ?_
              exact hx_reti hx hb hr hlk hW ⟨(by have e9 : iv32_5.toInt = ln0.toInt := (by omega); have h9 := vi32_2.2; rw [e9] at h9; exact h9), hT, hM⟩ dX1_twinPairs_84
            · skip
              refine lv_aload_n hx hb dX1_twinPairs_41 rfl (lv_at hl 2 rfl) ?_
              refine lv_aload_n hx hb dX1_twinPairs_42 rfl (lv_at hl 2 rfl) ?_
              refine hk_getr hx hb hts hC_1 hown hW (gx.S hM) tt_1 6 ?o10 rfl kw_203 ⟨rfl, rfl, rfl⟩ ((hM.o gx trivial rfl).2.trans f_x_6) dX1_twinPairs_43 ?_
              case o10 => decide
              refine lv_iload hx hb dX1_twinPairs_46 (lv_at hl 0 rfl) ?_
              refine hx_iald hx hb hW hT (gqbd.S hM) tt_18 rfl ⟨?o11, ?o12⟩ dX1_twinPairs_48 (fun x_3 ex_3 lx_3 ux_3 => ?_)
              case o11 => omega
              case o12 => omega
              have ax_3 : x_3 = bf iv32_5.toNatClampNeg := ex_3.trans (congrFun (hx_afS hM gqbd rfl af_qbd) _)
              refine lv_iload_n hx hb dX1_twinPairs_49 rfl (lv_at hl 3 rfl) ?_
              refine lv_iload_n hx hb dX1_twinPairs_50 rfl (lv_at hl 4 rfl) ?_
              refine lv_iload_n hx hb dX1_twinPairs_51 rfl (lv_at hl 5 rfl) ?_
              refine hx_goi (hx_runV (As := [.int x_3, .int i1, .int i2, .int i3]) (rest := []) ⟨hx, hb, hml, hown, hts⟩ hW (gx.S hM) tt_1 (T := TX1) (N := 8) rfl (t_X1_isLine_2 l dC dI dA hL1 hl1 H.size x x_3 i1 i2 i3 hT (gx.S hM) qo (gqo.S hM) ((hM.o gx trivial rfl).2.trans f_x_1) qwi (gqwi.S hM) ((hM.o gx trivial rfl).2.trans f_x_2) qdy (gqdy.S hM) ((hM.o gx trivial rfl).2.trans f_x_3) of (hx_afS hM gqo rfl af_qo) wf (hx_afS hM gqwi rfl af_qwi) df (hx_afS hM gqdy rfl af_qdy) ⟨?o13, ?o14⟩) (cwV 4 hts (hx_gV kw_692 kw_689 kw_691 kw_22 kw_98) rfl rfl rfl (by decide +kernel) ⟨Nat.le_of_ble_eq_true rfl, Nat.le_of_ble_eq_true rfl⟩) rfl hl.1 rfl (Nat.le_of_ble_eq_true rfl) dX1_twinPairs_52 ⟨Nat.le_of_ble_eq_true rfl, Nat.le_of_ble_eq_true rfl⟩) hW (fun r_6 L_4 h_5 H locs p_7 hW => ?_)
              case o13 => omega
              case o14 => omega
              obtain ⟨hr_8, hT, hs⟩ := p_7
              replace hT : hx_T T_tb L_4 h_5 := hT
              replace hs : hx_S T_tb [] hL1 hl1 L_4 h_5 := hs
              replace nia32_qtk : h_5.2.1 qtk = ia32_qtk := (funext fun j => (hs.a (gqtk.S hM) rfl j).1).trans nia32_qtk
              replace ex_3 := ex_3.trans (hs.a (gqbd.S hM) rfl _).1.symm
              replace hM := hM.tr (hs.mono ?o15)
              case o15 => decide
              refine hb_if_eq (zx := r_6.toInt) (tgt := 76) hx hb rfl dX1_twinPairs_55 ?o16 (fun c_9 => ?_) (fun c_9 => ?_)
              case o16 => decide
              · skip
                obtain ⟨x_10, ex_10⟩ : ∃ y : Int32, y = iv32_5 + Int32.ofInt 1 := ⟨_, rfl⟩
                have rg_11 := i32_r iv32_5
                have zx_10 : x_10.toInt = iv32_5.toInt + (1) := ?o17
                case o17 =>
                  rw [ex_10]
                  refine i32_add rfl ?o18 ?o19 ?o20
                  case o18 => decide
                  case o19 => omega
                  case o20 => omega
                refine lv_iinc (v := x_10) (lv' := [(5, .int x_10), (4, .int iv32_4), (0, .ref x), (1, .int i1), (2, .int i2), (3, .int i3)]) hx hb dX1_twinPairs_76 hl (k := 0) rfl ex_10.symm ?o21 rfl (fun ls hl => ?_)
                case o21 => decide
                refine lv_goto (tgt := 32) hx hb dX1_twinPairs_79 ?o22 ?_
                case o22 => decide
                refine ih32 iv32_4 x_10 ia32_qtk _ _ L_4 h_5 ?o23 ?o24 ?o25 ?o26 ?o27 ?o28 (by rw [show x_10.toInt.toNat = iv32_5.toInt.toNat + 1 from by omega, hy_G_n (by rcases hr_8 with z | z; (exfalso; omega); rw [ax_3] at z; exact z.2)]; exact vi32_2) ls ?o29 hW hT hM  nia32_qtk (lv_sub hl [0, 1, 2, 3, 4, 5] rfl)
                case o23 => omega
                case o24 => omega
                case o25 => omega
                case o26 => omega
                case o27 => omega
                case o28 => omega
                case o29 => omega
              · skip
                have hhb := hy_BD_b hBD ?o30 ?o31 ax_3
                case o30 => omega
                case o31 => omega
                refine lv_aload_n hx hb dX1_twinPairs_58 rfl (lv_at hl 2 rfl) ?_
                refine lv_aload_n hx hb dX1_twinPairs_59 rfl (lv_at hl 2 rfl) ?_
                refine hk_getr hx hb hts hC_1 hown hW (gx.S hM) tt_1 6 ?o32 rfl kw_203 ⟨rfl, rfl, rfl⟩ ((hM.o gx trivial rfl).2.trans f_x_6) dX1_twinPairs_60 ?_
                case o32 => decide
                refine lv_iload hx hb dX1_twinPairs_63 (lv_at hl 0 rfl) ?_
                refine hx_iald hx hb hW hT (gqbd.S hM) tt_18 rfl ⟨?o33, ?o34⟩ dX1_twinPairs_65 (fun x_12 ex_12 lx_12 ux_12 => ?_)
                case o33 => omega
                case o34 => omega
                have ax_12 : x_12 = bf iv32_5.toNatClampNeg := ex_12.trans (congrFun (hx_afS hM gqbd rfl af_qbd) _)
                obtain rfl : x_3 = x_12 := ex_3.trans ex_12.symm
                refine lv_iload_n hx hb dX1_twinPairs_66 rfl (lv_at hl 5 rfl) ?_
                refine hx_goi (hx_runV (As := [.int x_3, .int i3]) (rest := []) ⟨hx, hb, hml, hown, hts⟩ hW (gx.S hM) tt_1 (T := TX1) (N := 8) rfl (t_X1_takeTwin_2 l dC dI dA L_4 h_5 H.size x x_3 i3 hT (gx.S hM) qo (gqo.S hM) ((hM.o gx trivial rfl).2.trans f_x_1) qwi (gqwi.S hM) ((hM.o gx trivial rfl).2.trans f_x_2) qdy (gqdy.S hM) ((hM.o gx trivial rfl).2.trans f_x_3) qkd (gqkd.S hM) ((hM.o gx trivial rfl).2.trans f_x_4) qsm (gqsm.S hM) ((hM.o gx trivial rfl).2.trans f_x_5) qbd (gqbd.S hM) ((hM.o gx trivial rfl).2.trans f_x_6) qtk (gqtk.S hM) ((hM.o gx trivial rfl).2.trans f_x_7) of (hx_afS hM gqo rfl af_qo) wf (hx_afS hM gqwi rfl af_qwi) df (hx_afS hM gqdy rfl af_qdy) kf (hx_afS hM gqkd rfl af_qkd) sf (hx_afS hM gqsm rfl af_qsm) bf (hx_afS hM gqbd rfl af_qbd) ia32_qtk nia32_qtk ln0 ((hM.o gx trivial rfl).1.trans f_x_0) hBD hDY ⟨?o35, ?o36⟩) (cwV 2 hts (hx_gV kw_700 kw_697 kw_699 kw_23 kw_98) rfl rfl rfl (by decide +kernel) ⟨Nat.le_of_ble_eq_true rfl, Nat.le_of_ble_eq_true rfl⟩) rfl hl.1 rfl (Nat.le_of_ble_eq_true rfl) dX1_twinPairs_67 ⟨Nat.le_of_ble_eq_true rfl, Nat.le_of_ble_eq_true rfl⟩) hW (fun r_15 L_13 h_14 H locs p_16 hW => ?_)
                case o35 => omega
                case o36 => omega
                obtain ⟨⟨w_18, fw_18, hr_17⟩, hT, hs⟩ := p_16
                replace hT : hx_T T_tb L_13 h_14 := hT
                replace hs : hx_S T_tb [(19, 0)] L_4 h_5 L_13 h_14 := hs
                replace ex_3 := ex_3.trans (hs.a (gqbd.S hM) rfl _).1.symm
                replace hM := hM.tr (hs.mono ?o37)
                case o37 => decide
                have fw_18 : h_14.2.1 qtk = w_18 := fw_18
                refine hb_if_eq (zx := r_15.toInt) (tgt := 76) hx hb rfl dX1_twinPairs_70 ?o38 (fun c_19 => ?_) (fun c_19 => ?_)
                case o38 => decide
                · skip
                  obtain ⟨x_20, ex_20⟩ : ∃ y : Int32, y = iv32_5 + Int32.ofInt 1 := ⟨_, rfl⟩
                  have rg_21 := i32_r iv32_5
                  have zx_20 : x_20.toInt = iv32_5.toInt + (1) := ?o39
                  case o39 =>
                    rw [ex_20]
                    refine i32_add rfl ?o40 ?o41 ?o42
                    case o40 => decide
                    case o41 => omega
                    case o42 => omega
                  refine lv_iinc (v := x_20) (lv' := [(5, .int x_20), (4, .int iv32_4), (0, .ref x), (1, .int i1), (2, .int i2), (3, .int i3)]) hx hb dX1_twinPairs_76 hl (k := 0) rfl ex_20.symm ?o43 rfl (fun ls hl => ?_)
                  case o43 => decide
                  refine lv_goto (tgt := 32) hx hb dX1_twinPairs_79 ?o44 ?_
                  case o44 => decide
                  exact ih32 iv32_4 x_20 w_18 _ _ L_13 h_14 (by omega) (by omega) (by omega) (by omega) (by omega) (by omega) (by have hlt : hy_ln of wf df i1 i2 i3 (bf iv32_5.toNatClampNeg).toInt.toNat = true := (by rcases hr_8 with z | z; rw [ax_3] at z; exact z.2; exfalso; omega); have hTK := hr_17; obtain ⟨h7, h8, _⟩ := hy_ln_t.mp hlt; rw [ax_3] at hTK; have h7 : of (bf iv32_5.toNatClampNeg).toNatClampNeg = i1 := h7; have h8 : wf (bf iv32_5.toNatClampNeg).toNatClampNeg = i2 := h8; rw [h7, h8] at hTK; rw [show x_20.toInt.toNat = iv32_5.toInt.toNat + 1 from by omega]; exact hy_st_y hBD (by omega) vi32_2.1 vi32_2.2 hlt rfl (by rcases hTK with ⟨z1, z2, z3⟩ | ⟨z1, z2, z3⟩ <;> first | exact Or.inl ⟨z2, z3, by omega⟩ | exact Or.inr ⟨z2, z3, by omega⟩ | (exfalso; omega))) ls (by omega) hW hT hM  fw_18 (lv_sub hl [0, 1, 2, 3, 4, 5] rfl)
                · skip
                  obtain ⟨x_22, ex_22⟩ : ∃ y : Int32, y = iv32_4 + Int32.ofInt 1 := ⟨_, rfl⟩
                  have rg_23 := i32_r iv32_4
                  have zx_22 : x_22.toInt = iv32_4.toInt + (1) := ?o45
                  case o45 =>
                    rw [ex_22]
                    refine i32_add rfl ?o46 ?o47 ?o48
                    case o46 => decide
                    case o47 => omega
                    case o48 => omega
                  refine lv_iinc (v := x_22) (lv' := [(4, .int x_22), (5, .int iv32_5), (0, .ref x), (1, .int i1), (2, .int i2), (3, .int i3)]) hx hb dX1_twinPairs_73 hl (k := 1) rfl ex_22.symm ?o49 rfl (fun ls hl => ?_)
                  case o49 => decide
                  obtain ⟨x_24, ex_24⟩ : ∃ y : Int32, y = iv32_5 + Int32.ofInt 1 := ⟨_, rfl⟩
                  have rg_25 := i32_r iv32_5
                  have zx_24 : x_24.toInt = iv32_5.toInt + (1) := ?o50
                  case o50 =>
                    rw [ex_24]
                    refine i32_add rfl ?o51 ?o52 ?o53
                    case o51 => decide
                    case o52 => omega
                    case o53 => omega
                  refine lv_iinc (v := x_24) (lv' := [(5, .int x_24), (4, .int x_22), (0, .ref x), (1, .int i1), (2, .int i2), (3, .int i3)]) hx hb dX1_twinPairs_76 hl (k := 1) rfl ex_24.symm ?o54 rfl (fun ls hl => ?_)
                  case o54 => decide
                  refine lv_goto (tgt := 32) hx hb dX1_twinPairs_79 ?o55 ?_
                  case o55 => decide
                  exact ih32 x_22 x_24 w_18 _ _ L_13 h_14 (by omega) (by omega) (by omega) (by omega) (by omega) (by omega) (by have hlt : hy_ln of wf df i1 i2 i3 (bf iv32_5.toNatClampNeg).toInt.toNat = true := (by rcases hr_8 with z | z; rw [ax_3] at z; exact z.2; exfalso; omega); have hTK := hr_17; obtain ⟨h7, h8, _⟩ := hy_ln_t.mp hlt; rw [ax_3] at hTK; have h7 : of (bf iv32_5.toNatClampNeg).toNatClampNeg = i1 := h7; have h8 : wf (bf iv32_5.toNatClampNeg).toNatClampNeg = i2 := h8; rw [h7, h8] at hTK; rw [show x_24.toInt.toNat = iv32_5.toInt.toNat + 1 from by omega]; exact hy_st_y hBD (by omega) vi32_2.1 vi32_2.2 hlt rfl (by rcases hTK with ⟨z1, z2, z3⟩ | ⟨z1, z2, z3⟩ <;> first | exact Or.inl ⟨z2, z3, by omega⟩ | exact Or.inr ⟨z2, z3, by omega⟩ | (exfalso; omega))) ls (by omega) hW hT hM  fw_18 (lv_sub hl [0, 1, 2, 3, 4, 5] rfl)
        have zk_0 : (0 : Int32).toInt = 0 := ?o56
        case o56 => decide
        have zk_0 : (0 : Int32).toInt = 0 := ?o57
        case o57 => decide
        refine loop32 401 (0 : Int32) (0 : Int32) ia3_qtk _ _ hL1 hl1 ?o58 ?o59 ?o60 ?o61 ?o62 ?o63 ⟨fun j hj => (vi3_1 j ?o64).trans (by rw [zk_0]; rfl), by rw [zk_0]; rfl⟩ ls ?o65 hW hT hM  nia3_qtk hl
        case o58 => decide
        case o59 => decide
        case o60 => decide
        case o61 => decide
        case o62 => omega
        case o63 => omega
        case o64 => omega
        case o65 => omega
      · skip
        refine lv_aload_n hx hb dX1_twinPairs_12 rfl (lv_at hl 1 rfl) ?_
        refine hk_getr hx hb hts hC_1 hown hW (gx.S hM) tt_1 7 ?o66 rfl kw_204 ⟨rfl, rfl, rfl⟩ ((hM.o gx trivial rfl).2.trans f_x_7) dX1_twinPairs_13 ?_
        case o66 => decide
        refine lv_iload hx hb dX1_twinPairs_16 (lv_at hl 0 rfl) ?_
        refine lv_iconst (v := 0) hx hb dX1_twinPairs_18 ?o67 ?_
        case o67 => decide
        have nia3_qtkO := nia3_qtk
        refine hx_zast hx hb hW hT (hx_S.rf (M := [(19, 0)])) (gqtk.S hM) tt_19 rfl ⟨?o68, ?o69⟩ (y := 0) ?o70 ?o71 (List.mem_singleton.mpr rfl) dX1_twinPairs_19 (fun H locs h_26 eh_26 hW hT hs => ?_)
        case o68 => omega
        case o69 => omega
        case o70 => decide
        case o71 => decide
        replace hM := hM.tr (hs.mono ?o72)
        case o72 => decide
        obtain ⟨fa_27, dfa_27⟩ : ∃ g : Nat → Int32, g = hx_up ia3_qtk iv3_4.toNatClampNeg (0 : Int32) := ⟨_, rfl⟩
        have nfa_27 : h_26.2.1 qtk = fa_27 := ?o73
        case o73 =>
          rw [eh_26, dfa_27, ← nia3_qtkO]
          exact hx_pi_fun _ _ _ _
        obtain ⟨x_28, ex_28⟩ : ∃ y : Int32, y = iv3_4 + Int32.ofInt 1 := ⟨_, rfl⟩
        have rg_29 := i32_r iv3_4
        have zx_28 : x_28.toInt = iv3_4.toInt + (1) := ?o74
        case o74 =>
          rw [ex_28]
          refine i32_add rfl ?o75 ?o76 ?o77
          case o75 => decide
          case o76 => omega
          case o77 => omega
        refine lv_iinc (v := x_28) (lv' := [(4, .int x_28), (0, .ref x), (1, .int i1), (2, .int i2), (3, .int i3)]) hx hb dX1_twinPairs_20 hl (k := 0) rfl ex_28.symm ?o78 rfl (fun ls hl => ?_)
        case o78 => decide
        refine lv_goto (tgt := 3) hx hb dX1_twinPairs_23 ?o79 ?_
        case o79 => decide
        refine ih3 x_28 fa_27 _ _ hL1 h_26 ?o80 ?o81 ?o82 (hy_cl_s vi3_1 ?o83 dfa_27 zx_28) ls ?o84 hW hT hM  nfa_27 (lv_sub hl [0, 1, 2, 3, 4] rfl)
        case o80 => omega
        case o81 => omega
        case o82 => omega
        case o83 => omega
        case o84 => omega
  have zk_0 : (0 : Int32).toInt = 0 := ?o85
  case o85 => decide
  refine loop3 401 (0 : Int32) tf _ _ L h ?o86 ?o87 ?o88 (fun j hj => ?o89) ls ?o90 hW hT hM  af_qtk hl
  case o86 => decide
  case o87 => decide
  case o88 => omega
  case o89 =>
    exfalso
    omega
  case o90 => omega


set_option maxHeartbeats 4000000 in
set_option maxRecDepth 100000 in
theorem t_X1_addLine_3 (l : Launch) (dC : Nat → ClassId) (dI : Nat → Nat → Nat) (dA : Nat → ClassId) (L : List Nat) (h : hx_h) (sz : Nat) (x : Nat) (i1 : Int32) (i2 : Int32) (i3 : Int32) (i4 : Int32) (i5 : Int32) (hT : hx_T T_tb L h) (gx : hx_g L h x 1) (qo : Nat) (gqo : hx_g L h qo 13) (f_x_1 : h.2.2 x 1 = some qo) (qwi : Nat) (gqwi : hx_g L h qwi 14) (f_x_2 : h.2.2 x 2 = some qwi) (qdy : Nat) (gqdy : hx_g L h qdy 15) (f_x_3 : h.2.2 x 3 = some qdy) (qkd : Nat) (gqkd : hx_g L h qkd 16) (f_x_4 : h.2.2 x 4 = some qkd) (qsm : Nat) (gqsm : hx_g L h qsm 17) (f_x_5 : h.2.2 x 5 = some qsm) (qbd : Nat) (gqbd : hx_g L h qbd 18) (f_x_6 : h.2.2 x 6 = some qbd) (of : Nat → Int32) (af_qo : h.2.1 qo = of) (wf : Nat → Int32) (af_qwi : h.2.1 qwi = wf) (df : Nat → Int32) (af_qdy : h.2.1 qdy = df) (kf : Nat → Int32) (af_qkd : h.2.1 qkd = kf) (sf : Nat → Int32) (af_qsm : h.2.1 qsm = sf) (bf : Nat → Int32) (af_qbd : h.2.1 qbd = bf) (k0 : Int32) (f_x_0 : h.2.1 x 0 = k0) (hk0 : k0.toInt < 400) (hBD : hy_BD df bf k0.toInt.toNat) : Met l yX1_addLine (Cond.code yX1_addLine cX1_addLine 7 none :: hx_all) ({ frames := 0, cells := 0, slots := 0, locals := 0 }) (va_Pc [.ref x, .int i1, .int i2, .int i3, .int i4, .int i5] (hx_B T_tb (P_ty dA) (dC, dI) vwCl L h sz)) (va_Qv (fun (u : List Nat × hx_h) => (∃ (k1 : Int32) (of1 : Nat → Int32) (wf1 : Nat → Int32) (df1 : Nat → Int32) (kf1 : Nat → Int32) (sf1 : Nat → Int32) (bf1 : Nat → Int32), u.2.2.1 x 0 = k1 ∧ u.2.2.1 qo = of1 ∧ u.2.2.1 qwi = wf1 ∧ u.2.2.1 qdy = df1 ∧ u.2.2.1 qkd = kf1 ∧ u.2.2.1 qsm = sf1 ∧ u.2.2.1 qbd = bf1 ∧ (k1.toInt = k0.toInt + 1 ∧ of1 = hx_up of k0.toNatClampNeg i1 ∧ wf1 = hx_up wf k0.toNatClampNeg i2 ∧ df1 = hx_up df k0.toNatClampNeg i3 ∧ kf1 = hx_up kf k0.toNatClampNeg i4 ∧ sf1 = hx_up sf k0.toNatClampNeg i5 ∧ hy_BD df1 bf1 k1.toInt.toNat)) ∧ hx_T T_tb u.1 u.2 ∧ hx_S T_tb [(1, 0), (13, 0), (14, 0), (15, 0), (16, 0), (17, 0), (18, 0)] L h u.1 u.2) (hx_E T_tb (P_ty dA) (dC, dI) vwCl (hx_A L sz)) (hx_A L sz)) 0 0 (hx_A L sz) := by
  refine hx_met (lv := [(0, .ref x), (1, .int i1), (2, .int i2), (3, .int i3), (4, .int i4), (5, .int i5)]) (by decide +kernel) rfl (Nat.le_of_ble_eq_true rfl) rfl ?_
  intro p e s m below meth c hx hb hml hr hlk hts0 hown hin hsz hW ls hl
  have hts : ∀ w ∈ hx_all, w.before _ s = true := fun w hw => hts0 w (List.mem_cons_of_mem _ hw)
  have hown : s.vm.findClass "SmallCourt$Books" = some m.cls := hown
  have hM : hx_S T_tb [(1, 0), (13, 0), (14, 0), (15, 0), (16, 0), (17, 0), (18, 0)] L h L h := hx_S.rf
  have b_k0 := hT.gi gx tt_1 (k := 0) rfl
  rw [f_x_0] at b_k0
  have b_k0 : 0 ≤ k0.toInt ∧ k0.toInt ≤ 400 := b_k0
  refine lv_aload_n hx hb dX1_addLine_0 rfl (lv_at hl 0 rfl) ?_
  refine hk_geti hx hb hts hC_1 hown hW (gx.S hM) tt_1 0 ?o0 rfl kw_196 ⟨rfl, rfl, rfl⟩ f_x_0 dX1_addLine_1 ?_
  case o0 => decide
  refine lv_sipush (v := 400) hx hb dX1_addLine_4 ?o1 ?_
  case o1 => decide
  refine hb_icmp_lt (zx := k0.toInt) (zy := 400) (tgt := 11) hx hb rfl ?o2 dX1_addLine_7 ?o3 (fun c_1 => ?_) (fun c_1 => ?o4)
  case o2 => decide
  case o3 => decide
  case o4 =>
    exfalso
    omega
  refine lv_aload_n hx hb dX1_addLine_11 rfl (lv_at hl 0 rfl) ?_
  refine hk_getr hx hb hts hC_1 hown hW (gx.S hM) tt_1 1 ?o5 rfl kw_198 ⟨rfl, rfl, rfl⟩ ((hM.o gx trivial rfl).2.trans f_x_1) dX1_addLine_12 ?_
  case o5 => decide
  refine lv_aload_n hx hb dX1_addLine_15 rfl (lv_at hl 0 rfl) ?_
  refine hk_geti hx hb hts hC_1 hown hW (gx.S hM) tt_1 0 ?o6 rfl kw_196 ⟨rfl, rfl, rfl⟩ f_x_0 dX1_addLine_16 ?_
  case o6 => decide
  refine lv_iload_n hx hb dX1_addLine_19 rfl (lv_at hl 1 rfl) ?_
  have af_qoO := af_qo
  refine hx_iast hx hb hW hT (hx_S.rf (M := [(13, 0)])) (gqo.S hM) tt_13 rfl ⟨?o7, ?o8⟩ rfl (i32_r _) (List.mem_singleton.mpr rfl) dX1_addLine_20 (fun H locs h_2 eh_2 hW hT hs => ?_)
  case o7 => omega
  case o8 => omega
  replace f_x_0 := (hs.o (gx.S hM) trivial rfl).1.trans f_x_0
  replace af_qwi : h_2.2.1 qwi = wf := (funext fun j => (hs.a (gqwi.S hM) rfl j).1).trans af_qwi
  replace af_qdy : h_2.2.1 qdy = df := (funext fun j => (hs.a (gqdy.S hM) rfl j).1).trans af_qdy
  replace af_qkd : h_2.2.1 qkd = kf := (funext fun j => (hs.a (gqkd.S hM) rfl j).1).trans af_qkd
  replace af_qsm : h_2.2.1 qsm = sf := (funext fun j => (hs.a (gqsm.S hM) rfl j).1).trans af_qsm
  replace af_qbd : h_2.2.1 qbd = bf := (funext fun j => (hs.a (gqbd.S hM) rfl j).1).trans af_qbd
  replace hM := hM.tr (hs.mono ?o9)
  case o9 => decide
  obtain ⟨fa_3, dfa_3⟩ : ∃ g : Nat → Int32, g = hx_up of k0.toNatClampNeg i1 := ⟨_, rfl⟩
  have nfa_3 : h_2.2.1 qo = fa_3 := ?o10
  case o10 =>
    rw [eh_2, dfa_3, ← af_qoO]
    exact hx_pi_fun _ _ _ _
  refine lv_aload_n hx hb dX1_addLine_21 rfl (lv_at hl 0 rfl) ?_
  refine hk_getr hx hb hts hC_1 hown hW (gx.S hM) tt_1 2 ?o11 rfl kw_199 ⟨rfl, rfl, rfl⟩ ((hM.o gx trivial rfl).2.trans f_x_2) dX1_addLine_22 ?_
  case o11 => decide
  refine lv_aload_n hx hb dX1_addLine_25 rfl (lv_at hl 0 rfl) ?_
  refine hk_geti hx hb hts hC_1 hown hW (gx.S hM) tt_1 0 ?o12 rfl kw_196 ⟨rfl, rfl, rfl⟩ f_x_0 dX1_addLine_26 ?_
  case o12 => decide
  refine lv_iload_n hx hb dX1_addLine_29 rfl (lv_at hl 2 rfl) ?_
  have af_qwiO := af_qwi
  refine hx_iast hx hb hW hT (hx_S.rf (M := [(14, 0)])) (gqwi.S hM) tt_14 rfl ⟨?o13, ?o14⟩ rfl (i32_r _) (List.mem_singleton.mpr rfl) dX1_addLine_30 (fun H locs h_4 eh_4 hW hT hs => ?_)
  case o13 => omega
  case o14 => omega
  replace f_x_0 := (hs.o (gx.S hM) trivial rfl).1.trans f_x_0
  replace af_qdy : h_4.2.1 qdy = df := (funext fun j => (hs.a (gqdy.S hM) rfl j).1).trans af_qdy
  replace af_qkd : h_4.2.1 qkd = kf := (funext fun j => (hs.a (gqkd.S hM) rfl j).1).trans af_qkd
  replace af_qsm : h_4.2.1 qsm = sf := (funext fun j => (hs.a (gqsm.S hM) rfl j).1).trans af_qsm
  replace af_qbd : h_4.2.1 qbd = bf := (funext fun j => (hs.a (gqbd.S hM) rfl j).1).trans af_qbd
  replace nfa_3 : h_4.2.1 qo = fa_3 := (funext fun j => (hs.a (gqo.S hM) rfl j).1).trans nfa_3
  replace hM := hM.tr (hs.mono ?o15)
  case o15 => decide
  obtain ⟨fa_5, dfa_5⟩ : ∃ g : Nat → Int32, g = hx_up wf k0.toNatClampNeg i2 := ⟨_, rfl⟩
  have nfa_5 : h_4.2.1 qwi = fa_5 := ?o16
  case o16 =>
    rw [eh_4, dfa_5, ← af_qwiO]
    exact hx_pi_fun _ _ _ _
  refine lv_aload_n hx hb dX1_addLine_31 rfl (lv_at hl 0 rfl) ?_
  refine hk_getr hx hb hts hC_1 hown hW (gx.S hM) tt_1 3 ?o17 rfl kw_200 ⟨rfl, rfl, rfl⟩ ((hM.o gx trivial rfl).2.trans f_x_3) dX1_addLine_32 ?_
  case o17 => decide
  refine lv_aload_n hx hb dX1_addLine_35 rfl (lv_at hl 0 rfl) ?_
  refine hk_geti hx hb hts hC_1 hown hW (gx.S hM) tt_1 0 ?o18 rfl kw_196 ⟨rfl, rfl, rfl⟩ f_x_0 dX1_addLine_36 ?_
  case o18 => decide
  refine lv_iload_n hx hb dX1_addLine_39 rfl (lv_at hl 3 rfl) ?_
  have af_qdyO := af_qdy
  refine hx_iast hx hb hW hT (hx_S.rf (M := [(15, 0)])) (gqdy.S hM) tt_15 rfl ⟨?o19, ?o20⟩ rfl (i32_r _) (List.mem_singleton.mpr rfl) dX1_addLine_40 (fun H locs h_6 eh_6 hW hT hs => ?_)
  case o19 => omega
  case o20 => omega
  replace f_x_0 := (hs.o (gx.S hM) trivial rfl).1.trans f_x_0
  replace af_qkd : h_6.2.1 qkd = kf := (funext fun j => (hs.a (gqkd.S hM) rfl j).1).trans af_qkd
  replace af_qsm : h_6.2.1 qsm = sf := (funext fun j => (hs.a (gqsm.S hM) rfl j).1).trans af_qsm
  replace af_qbd : h_6.2.1 qbd = bf := (funext fun j => (hs.a (gqbd.S hM) rfl j).1).trans af_qbd
  replace nfa_3 : h_6.2.1 qo = fa_3 := (funext fun j => (hs.a (gqo.S hM) rfl j).1).trans nfa_3
  replace nfa_5 : h_6.2.1 qwi = fa_5 := (funext fun j => (hs.a (gqwi.S hM) rfl j).1).trans nfa_5
  replace hM := hM.tr (hs.mono ?o21)
  case o21 => decide
  obtain ⟨fa_7, dfa_7⟩ : ∃ g : Nat → Int32, g = hx_up df k0.toNatClampNeg i3 := ⟨_, rfl⟩
  have nfa_7 : h_6.2.1 qdy = fa_7 := ?o22
  case o22 =>
    rw [eh_6, dfa_7, ← af_qdyO]
    exact hx_pi_fun _ _ _ _
  refine lv_aload_n hx hb dX1_addLine_41 rfl (lv_at hl 0 rfl) ?_
  refine hk_getr hx hb hts hC_1 hown hW (gx.S hM) tt_1 4 ?o23 rfl kw_201 ⟨rfl, rfl, rfl⟩ ((hM.o gx trivial rfl).2.trans f_x_4) dX1_addLine_42 ?_
  case o23 => decide
  refine lv_aload_n hx hb dX1_addLine_45 rfl (lv_at hl 0 rfl) ?_
  refine hk_geti hx hb hts hC_1 hown hW (gx.S hM) tt_1 0 ?o24 rfl kw_196 ⟨rfl, rfl, rfl⟩ f_x_0 dX1_addLine_46 ?_
  case o24 => decide
  refine lv_iload hx hb dX1_addLine_49 (lv_at hl 4 rfl) ?_
  have af_qkdO := af_qkd
  refine hx_iast hx hb hW hT (hx_S.rf (M := [(16, 0)])) (gqkd.S hM) tt_16 rfl ⟨?o25, ?o26⟩ rfl (i32_r _) (List.mem_singleton.mpr rfl) dX1_addLine_51 (fun H locs h_8 eh_8 hW hT hs => ?_)
  case o25 => omega
  case o26 => omega
  replace f_x_0 := (hs.o (gx.S hM) trivial rfl).1.trans f_x_0
  replace af_qsm : h_8.2.1 qsm = sf := (funext fun j => (hs.a (gqsm.S hM) rfl j).1).trans af_qsm
  replace af_qbd : h_8.2.1 qbd = bf := (funext fun j => (hs.a (gqbd.S hM) rfl j).1).trans af_qbd
  replace nfa_3 : h_8.2.1 qo = fa_3 := (funext fun j => (hs.a (gqo.S hM) rfl j).1).trans nfa_3
  replace nfa_5 : h_8.2.1 qwi = fa_5 := (funext fun j => (hs.a (gqwi.S hM) rfl j).1).trans nfa_5
  replace nfa_7 : h_8.2.1 qdy = fa_7 := (funext fun j => (hs.a (gqdy.S hM) rfl j).1).trans nfa_7
  replace hM := hM.tr (hs.mono ?o27)
  case o27 => decide
  obtain ⟨fa_9, dfa_9⟩ : ∃ g : Nat → Int32, g = hx_up kf k0.toNatClampNeg i4 := ⟨_, rfl⟩
  have nfa_9 : h_8.2.1 qkd = fa_9 := ?o28
  case o28 =>
    rw [eh_8, dfa_9, ← af_qkdO]
    exact hx_pi_fun _ _ _ _
  refine lv_aload_n hx hb dX1_addLine_52 rfl (lv_at hl 0 rfl) ?_
  refine hk_getr hx hb hts hC_1 hown hW (gx.S hM) tt_1 5 ?o29 rfl kw_202 ⟨rfl, rfl, rfl⟩ ((hM.o gx trivial rfl).2.trans f_x_5) dX1_addLine_53 ?_
  case o29 => decide
  refine lv_aload_n hx hb dX1_addLine_56 rfl (lv_at hl 0 rfl) ?_
  refine hk_geti hx hb hts hC_1 hown hW (gx.S hM) tt_1 0 ?o30 rfl kw_196 ⟨rfl, rfl, rfl⟩ f_x_0 dX1_addLine_57 ?_
  case o30 => decide
  refine lv_iload hx hb dX1_addLine_60 (lv_at hl 5 rfl) ?_
  have af_qsmO := af_qsm
  refine hx_iast hx hb hW hT (hx_S.rf (M := [(17, 0)])) (gqsm.S hM) tt_17 rfl ⟨?o31, ?o32⟩ rfl (i32_r _) (List.mem_singleton.mpr rfl) dX1_addLine_62 (fun H locs h_10 eh_10 hW hT hs => ?_)
  case o31 => omega
  case o32 => omega
  replace f_x_0 := (hs.o (gx.S hM) trivial rfl).1.trans f_x_0
  replace af_qbd : h_10.2.1 qbd = bf := (funext fun j => (hs.a (gqbd.S hM) rfl j).1).trans af_qbd
  replace nfa_3 : h_10.2.1 qo = fa_3 := (funext fun j => (hs.a (gqo.S hM) rfl j).1).trans nfa_3
  replace nfa_5 : h_10.2.1 qwi = fa_5 := (funext fun j => (hs.a (gqwi.S hM) rfl j).1).trans nfa_5
  replace nfa_7 : h_10.2.1 qdy = fa_7 := (funext fun j => (hs.a (gqdy.S hM) rfl j).1).trans nfa_7
  replace nfa_9 : h_10.2.1 qkd = fa_9 := (funext fun j => (hs.a (gqkd.S hM) rfl j).1).trans nfa_9
  replace hM := hM.tr (hs.mono ?o33)
  case o33 => decide
  obtain ⟨fa_11, dfa_11⟩ : ∃ g : Nat → Int32, g = hx_up sf k0.toNatClampNeg i5 := ⟨_, rfl⟩
  have nfa_11 : h_10.2.1 qsm = fa_11 := ?o34
  case o34 =>
    rw [eh_10, dfa_11, ← af_qsmO]
    exact hx_pi_fun _ _ _ _
  refine lv_aload_n hx hb dX1_addLine_63 rfl (lv_at hl 0 rfl) ?_
  refine hk_geti hx hb hts hC_1 hown hW (gx.S hM) tt_1 0 ?o35 rfl kw_196 ⟨rfl, rfl, rfl⟩ f_x_0 dX1_addLine_64 ?_
  case o35 => decide
  refine lv_istore (lv' := [(6, .int k0), (0, .ref x), (1, .int i1), (2, .int i2), (3, .int i3), (4, .int i4), (5, .int i5)]) hx hb dX1_addLine_67 hl ?o36 rfl (fun ls hl => ?_)
  case o36 => decide
  have loop69 : ∀ (n69 : Nat) (iv69_6 : Int32) (ia69_qbd : Nat → Int32) (H : Heap) (locs : List Loc) (hL1 : List Nat) (hl1 : hx_h), 0 ≤ iv69_6.toInt → iv69_6.toInt ≤ 399 → (iv69_6.toInt ≤ k0.toInt) → (hy_bi fa_7 bf ia69_qbd k0.toInt.toNat iv69_6.toInt i3.toInt) → ∀ (ls : Array Slot), iv69_6.toInt < (n69 : Int) → hx_W T_tb (P_ty dA) (dC, dI) vwCl (hx_A L sz) s.heap hL1 hl1 s H locs → hx_T T_tb hL1 hl1 → hx_S T_tb [(1, 0), (13, 0), (14, 0), (15, 0), (16, 0), (17, 0), (18, 0)] L h hL1 hl1 → hl1.2.1 x 0 = k0 → hl1.2.1 qbd = ia69_qbd → hl1.2.1 qo = fa_3 → hl1.2.1 qwi = fa_5 → hl1.2.1 qdy = fa_7 → hl1.2.1 qkd = fa_9 → hl1.2.1 qsm = fa_11 → lv_has ls 7 [(6, .int iv69_6), (0, .ref x), (1, .int i1), (2, .int i2), (3, .int i3), (4, .int i4), (5, .int i5)] → W p l e ({ frames := 0, cells := 0, slots := 0, locals := 0 }) s m ([.ref x, .int i1, .int i2, .int i3, .int i4, .int i5] : List Value).toArray below meth c H locs 0 0 (MQ below (va_Qv (fun (u : List Nat × hx_h) => (∃ (k1 : Int32) (of1 : Nat → Int32) (wf1 : Nat → Int32) (df1 : Nat → Int32) (kf1 : Nat → Int32) (sf1 : Nat → Int32) (bf1 : Nat → Int32), u.2.2.1 x 0 = k1 ∧ u.2.2.1 qo = of1 ∧ u.2.2.1 qwi = wf1 ∧ u.2.2.1 qdy = df1 ∧ u.2.2.1 qkd = kf1 ∧ u.2.2.1 qsm = sf1 ∧ u.2.2.1 qbd = bf1 ∧ (k1.toInt = k0.toInt + 1 ∧ of1 = hx_up of k0.toNatClampNeg i1 ∧ wf1 = hx_up wf k0.toNatClampNeg i2 ∧ df1 = hx_up df k0.toNatClampNeg i3 ∧ kf1 = hx_up kf k0.toNatClampNeg i4 ∧ sf1 = hx_up sf k0.toNatClampNeg i5 ∧ hy_BD df1 bf1 k1.toInt.toNat)) ∧ hx_T T_tb u.1 u.2 ∧ hx_S T_tb [(1, 0), (13, 0), (14, 0), (15, 0), (16, 0), (17, 0), (18, 0)] L h u.1 u.2) (hx_E T_tb (P_ty dA) (dC, dI) vwCl (hx_A L sz)) (hx_A L sz)) ([.ref x, .int i1, .int i2, .int i3, .int i4, .int i5] : List Value).toArray s 0 0 (hx_A L sz)) (F0 m 69 ls []) := by
    intro n69
    induction n69 with
    | zero => intro iv69_6 ia69_qbd H locs hL1 hl1 bliv69_6 buiv69_6 vi69_0 vi69_1 ls hn69; exfalso; omega
    | succ n69 ih69 =>
      intro iv69_6 ia69_qbd H locs hL1 hl1 bliv69_6 buiv69_6 vi69_0 vi69_1 ls hn69 hW hT hM f_x_0 nia69_qbd nfa_3 nfa_5 nfa_7 nfa_9 nfa_11 hl
      refine lv_iload hx hb dX1_addLine_69 (lv_at hl 0 rfl) ?_
      refine hb_if_le (zx := iv69_6.toInt) (tgt := 114) hx hb rfl dX1_addLine_71 ?o37 (fun c_12 => ?_) (fun c_12 => ?_)
      case o37 => decide
      · skip
        refine lv_aload_n hx hb dX1_addLine_114 rfl (lv_at hl 1 rfl) ?_
        refine hk_getr hx hb hts hC_1 hown hW (gx.S hM) tt_1 6 ?o38 rfl kw_203 ⟨rfl, rfl, rfl⟩ ((hM.o gx trivial rfl).2.trans f_x_6) dX1_addLine_115 ?_
        case o38 => decide
        refine lv_iload hx hb dX1_addLine_118 (lv_at hl 0 rfl) ?_
        refine lv_aload_n hx hb dX1_addLine_120 rfl (lv_at hl 1 rfl) ?_
        refine hk_geti hx hb hts hC_1 hown hW (gx.S hM) tt_1 0 ?o39 rfl kw_196 ⟨rfl, rfl, rfl⟩ f_x_0 dX1_addLine_121 ?_
        case o39 => decide
        have nia69_qbdO := nia69_qbd
        refine hx_iast hx hb hW hT (hx_S.rf (M := [(18, 0)])) (gqbd.S hM) tt_18 rfl ⟨?o40, ?o41⟩ rfl ⟨?o42, ?o43⟩ (List.mem_singleton.mpr rfl) dX1_addLine_124 (fun H locs h_13 eh_13 hW hT hs => ?_)
        case o40 => omega
        case o41 => omega
        case o42 => omega
        case o43 => omega
        replace f_x_0 := (hs.o (gx.S hM) trivial rfl).1.trans f_x_0
        replace nfa_3 : h_13.2.1 qo = fa_3 := (funext fun j => (hs.a (gqo.S hM) rfl j).1).trans nfa_3
        replace nfa_5 : h_13.2.1 qwi = fa_5 := (funext fun j => (hs.a (gqwi.S hM) rfl j).1).trans nfa_5
        replace nfa_7 : h_13.2.1 qdy = fa_7 := (funext fun j => (hs.a (gqdy.S hM) rfl j).1).trans nfa_7
        replace nfa_9 : h_13.2.1 qkd = fa_9 := (funext fun j => (hs.a (gqkd.S hM) rfl j).1).trans nfa_9
        replace nfa_11 : h_13.2.1 qsm = fa_11 := (funext fun j => (hs.a (gqsm.S hM) rfl j).1).trans nfa_11
        replace hM := hM.tr (hs.mono ?o44)
        case o44 => decide
        obtain ⟨fa_14, dfa_14⟩ : ∃ g : Nat → Int32, g = hx_up ia69_qbd iv69_6.toNatClampNeg k0 := ⟨_, rfl⟩
        have nfa_14 : h_13.2.1 qbd = fa_14 := ?o45
        case o45 =>
          rw [eh_13, dfa_14, ← nia69_qbdO]
          exact hx_pi_fun _ _ _ _
        refine lv_aload_n hx hb dX1_addLine_125 rfl (lv_at hl 1 rfl) ?_
        refine lv_dup hx hb dX1_addLine_126 rfl ?_
        refine hk_geti hx hb hts hC_1 hown hW (gx.S hM) tt_1 0 ?o46 rfl kw_196 ⟨rfl, rfl, rfl⟩ f_x_0 dX1_addLine_127 ?_
        case o46 => decide
        refine lv_iconst (v := 1) hx hb dX1_addLine_130 ?o47 ?_
        case o47 => decide
        refine lv_iadd hx hb dX1_addLine_131 ?_
        have rg_15 := i32_r k0
        refine lv_topi (fun x_16 ex_16 => ?_)
        have zx_16 : x_16.toInt = k0.toInt + 1 := ?o48
        case o48 =>
          rw [ex_16]
          refine i32_add rfl ?o49 ?o50 ?o51
          case o49 => decide
          case o50 => omega
          case o51 => omega
        refine hx_puti hx hb hts hC_1 hown hW hT (hx_S.rf (M := [(1, 0)])) (gx.S hM) tt_1 0 ?o52 rfl kw_196 ⟨rfl, rfl, rfl⟩ rfl (x := x_16) ⟨?o53, ?o54⟩ rfl rfl rfl (List.mem_singleton.mpr rfl) dX1_addLine_132 (fun H locs h_17 eh_17 hW hT hs => ?_)
        case o52 => decide
        case o53 => omega
        case o54 => omega
        replace nfa_3 : h_17.2.1 qo = fa_3 := (funext fun j => (hs.a (gqo.S hM) rfl j).1).trans nfa_3
        replace nfa_5 : h_17.2.1 qwi = fa_5 := (funext fun j => (hs.a (gqwi.S hM) rfl j).1).trans nfa_5
        replace nfa_7 : h_17.2.1 qdy = fa_7 := (funext fun j => (hs.a (gqdy.S hM) rfl j).1).trans nfa_7
        replace nfa_9 : h_17.2.1 qkd = fa_9 := (funext fun j => (hs.a (gqkd.S hM) rfl j).1).trans nfa_9
        replace nfa_11 : h_17.2.1 qsm = fa_11 := (funext fun j => (hs.a (gqsm.S hM) rfl j).1).trans nfa_11
        replace nfa_14 : h_17.2.1 qbd = fa_14 := (funext fun j => (hs.a (gqbd.S hM) rfl j).1).trans nfa_14
        replace hM := hM.tr (hs.mono ?o55)
        case o55 => decide
        have f_18 : h_17.2.1 x 0 = x_16 := ?o56
        case o56 =>
          rw [eh_17]
          exact hx_pi_at _ _ _ _
        refine hx_retv hx hb hr hlk hW ⟨⟨x_16, fa_3, fa_5, fa_7, fa_9, fa_11, fa_14, f_18, nfa_3, nfa_5, nfa_7, nfa_9, nfa_11, nfa_14, ⟨?o57, dfa_3, dfa_5, dfa_7, dfa_9, dfa_11, hy_BD_in2 ?o58 ?o59 hBD dfa_7 vi69_1 ?o60 ?o61 (Or.inl ?o62) dfa_14⟩⟩, hT, hM⟩ dX1_addLine_135
        case o57 => omega
        case o58 => omega
        case o59 => omega
        case o60 => omega
        case o61 => omega
        case o62 => omega
      · skip
        refine lv_aload_n hx hb dX1_addLine_74 rfl (lv_at hl 1 rfl) ?_
        refine hk_getr hx hb hts hC_1 hown hW (gx.S hM) tt_1 3 ?o63 rfl kw_200 ⟨rfl, rfl, rfl⟩ ((hM.o gx trivial rfl).2.trans f_x_3) dX1_addLine_75 ?_
        case o63 => decide
        refine lv_aload_n hx hb dX1_addLine_78 rfl (lv_at hl 1 rfl) ?_
        refine hk_getr hx hb hts hC_1 hown hW (gx.S hM) tt_1 6 ?o64 rfl kw_203 ⟨rfl, rfl, rfl⟩ ((hM.o gx trivial rfl).2.trans f_x_6) dX1_addLine_79 ?_
        case o64 => decide
        refine lv_iload hx hb dX1_addLine_82 (lv_at hl 0 rfl) ?_
        refine lv_iconst (v := 1) hx hb dX1_addLine_84 ?o65 ?_
        case o65 => decide
        refine lv_isub hx hb dX1_addLine_85 ?_
        have rg_19 := i32_r iv69_6
        refine lv_topi (fun x_20 ex_20 => ?_)
        have zx_20 : x_20.toInt = iv69_6.toInt - 1 := ?o66
        case o66 =>
          rw [ex_20]
          refine i32_sub rfl ?o67 ?o68 ?o69
          case o67 => decide
          case o68 => omega
          case o69 => omega
        refine hx_iald hx hb hW hT (gqbd.S hM) tt_18 rfl ⟨?o70, ?o71⟩ dX1_addLine_86 (fun x_21 ex_21 lx_21 ux_21 => ?_)
        case o70 => omega
        case o71 => omega
        have ax_21 : x_21 = ia69_qbd x_20.toNatClampNeg := ex_21.trans (congrFun nia69_qbd _)
        refine hx_iald hx hb hW hT (gqdy.S hM) tt_15 rfl ⟨?o72, ?o73⟩ dX1_addLine_87 (fun x_22 ex_22 lx_22 ux_22 => ?_)
        case o72 => omega
        case o73 => omega
        have ax_22 : x_22 = fa_7 x_21.toNatClampNeg := ex_22.trans (congrFun nfa_7 _)
        refine lv_iload_n hx hb dX1_addLine_88 rfl (lv_at hl 4 rfl) ?_
        refine hb_icmp_le (zx := x_22.toInt) (zy := i3.toInt) (tgt := 114) hx hb rfl rfl dX1_addLine_89 ?o74 (fun c_23 => ?_) (fun c_23 => ?_)
        case o74 => decide
        · skip
          refine lv_aload_n hx hb dX1_addLine_114 rfl (lv_at hl 1 rfl) ?_
          refine hk_getr hx hb hts hC_1 hown hW (gx.S hM) tt_1 6 ?o75 rfl kw_203 ⟨rfl, rfl, rfl⟩ ((hM.o gx trivial rfl).2.trans f_x_6) dX1_addLine_115 ?_
          case o75 => decide
          refine lv_iload hx hb dX1_addLine_118 (lv_at hl 0 rfl) ?_
          refine lv_aload_n hx hb dX1_addLine_120 rfl (lv_at hl 1 rfl) ?_
          refine hk_geti hx hb hts hC_1 hown hW (gx.S hM) tt_1 0 ?o76 rfl kw_196 ⟨rfl, rfl, rfl⟩ f_x_0 dX1_addLine_121 ?_
          case o76 => decide
          have nia69_qbdO := nia69_qbd
          refine hx_iast hx hb hW hT (hx_S.rf (M := [(18, 0)])) (gqbd.S hM) tt_18 rfl ⟨?o77, ?o78⟩ rfl ⟨?o79, ?o80⟩ (List.mem_singleton.mpr rfl) dX1_addLine_124 (fun H locs h_24 eh_24 hW hT hs => ?_)
          case o77 => omega
          case o78 => omega
          case o79 => omega
          case o80 => omega
          replace f_x_0 := (hs.o (gx.S hM) trivial rfl).1.trans f_x_0
          replace nfa_3 : h_24.2.1 qo = fa_3 := (funext fun j => (hs.a (gqo.S hM) rfl j).1).trans nfa_3
          replace nfa_5 : h_24.2.1 qwi = fa_5 := (funext fun j => (hs.a (gqwi.S hM) rfl j).1).trans nfa_5
          replace nfa_7 : h_24.2.1 qdy = fa_7 := (funext fun j => (hs.a (gqdy.S hM) rfl j).1).trans nfa_7
          replace nfa_9 : h_24.2.1 qkd = fa_9 := (funext fun j => (hs.a (gqkd.S hM) rfl j).1).trans nfa_9
          replace nfa_11 : h_24.2.1 qsm = fa_11 := (funext fun j => (hs.a (gqsm.S hM) rfl j).1).trans nfa_11
          replace ex_22 := ex_22.trans (hs.a (gqdy.S hM) rfl _).1.symm
          replace hM := hM.tr (hs.mono ?o81)
          case o81 => decide
          obtain ⟨fa_25, dfa_25⟩ : ∃ g : Nat → Int32, g = hx_up ia69_qbd iv69_6.toNatClampNeg k0 := ⟨_, rfl⟩
          have nfa_25 : h_24.2.1 qbd = fa_25 := ?o82
          case o82 =>
            rw [eh_24, dfa_25, ← nia69_qbdO]
            exact hx_pi_fun _ _ _ _
          refine lv_aload_n hx hb dX1_addLine_125 rfl (lv_at hl 1 rfl) ?_
          refine lv_dup hx hb dX1_addLine_126 rfl ?_
          refine hk_geti hx hb hts hC_1 hown hW (gx.S hM) tt_1 0 ?o83 rfl kw_196 ⟨rfl, rfl, rfl⟩ f_x_0 dX1_addLine_127 ?_
          case o83 => decide
          refine lv_iconst (v := 1) hx hb dX1_addLine_130 ?o84 ?_
          case o84 => decide
          refine lv_iadd hx hb dX1_addLine_131 ?_
          have rg_26 := i32_r k0
          refine lv_topi (fun x_27 ex_27 => ?_)
          have zx_27 : x_27.toInt = k0.toInt + 1 := ?o85
          case o85 =>
            rw [ex_27]
            refine i32_add rfl ?o86 ?o87 ?o88
            case o86 => decide
            case o87 => omega
            case o88 => omega
          refine hx_puti hx hb hts hC_1 hown hW hT (hx_S.rf (M := [(1, 0)])) (gx.S hM) tt_1 0 ?o89 rfl kw_196 ⟨rfl, rfl, rfl⟩ rfl (x := x_27) ⟨?o90, ?o91⟩ rfl rfl rfl (List.mem_singleton.mpr rfl) dX1_addLine_132 (fun H locs h_28 eh_28 hW hT hs => ?_)
          case o89 => decide
          case o90 => omega
          case o91 => omega
          replace nfa_3 : h_28.2.1 qo = fa_3 := (funext fun j => (hs.a (gqo.S hM) rfl j).1).trans nfa_3
          replace nfa_5 : h_28.2.1 qwi = fa_5 := (funext fun j => (hs.a (gqwi.S hM) rfl j).1).trans nfa_5
          replace nfa_7 : h_28.2.1 qdy = fa_7 := (funext fun j => (hs.a (gqdy.S hM) rfl j).1).trans nfa_7
          replace nfa_9 : h_28.2.1 qkd = fa_9 := (funext fun j => (hs.a (gqkd.S hM) rfl j).1).trans nfa_9
          replace nfa_11 : h_28.2.1 qsm = fa_11 := (funext fun j => (hs.a (gqsm.S hM) rfl j).1).trans nfa_11
          replace nfa_25 : h_28.2.1 qbd = fa_25 := (funext fun j => (hs.a (gqbd.S hM) rfl j).1).trans nfa_25
          replace ex_22 := ex_22.trans (hs.a (gqdy.S hM) rfl _).1.symm
          replace hM := hM.tr (hs.mono ?o92)
          case o92 => decide
          have f_29 : h_28.2.1 x 0 = x_27 := ?o93
          case o93 =>
            rw [eh_28]
            exact hx_pi_at _ _ _ _
          exact hx_retv hx hb hr hlk hW ⟨⟨x_27, fa_3, fa_5, fa_7, fa_9, fa_11, fa_25, f_29, nfa_3, nfa_5, nfa_7, nfa_9, nfa_11, nfa_25, ⟨by omega, dfa_3, dfa_5, dfa_7, dfa_9, dfa_11, hy_BD_in2 (by omega) (by omega) hBD dfa_7 vi69_1 (by omega) (by omega) (by first | exact Or.inl (by omega) | exact Or.inr ⟨x_22, x_21, x_20, by omega, ax_21, ax_22, by omega⟩) dfa_25⟩⟩, hT, hM⟩ dX1_addLine_135
        · skip
          refine lv_aload_n hx hb dX1_addLine_92 rfl (lv_at hl 1 rfl) ?_
          refine hk_getr hx hb hts hC_1 hown hW (gx.S hM) tt_1 6 ?o94 rfl kw_203 ⟨rfl, rfl, rfl⟩ ((hM.o gx trivial rfl).2.trans f_x_6) dX1_addLine_93 ?_
          case o94 => decide
          refine lv_iload hx hb dX1_addLine_96 (lv_at hl 0 rfl) ?_
          refine lv_aload_n hx hb dX1_addLine_98 rfl (lv_at hl 1 rfl) ?_
          refine hk_getr hx hb hts hC_1 hown hW (gx.S hM) tt_1 6 ?o95 rfl kw_203 ⟨rfl, rfl, rfl⟩ ((hM.o gx trivial rfl).2.trans f_x_6) dX1_addLine_99 ?_
          case o95 => decide
          refine lv_iload hx hb dX1_addLine_102 (lv_at hl 0 rfl) ?_
          refine lv_iconst (v := 1) hx hb dX1_addLine_104 ?o96 ?_
          case o96 => decide
          refine lv_isub hx hb dX1_addLine_105 ?_
          refine lv_topi (fun x_30 ex_30 => ?_)
          have zx_30 : x_30.toInt = iv69_6.toInt - 1 := ?o97
          case o97 =>
            rw [ex_30]
            refine i32_sub rfl ?o98 ?o99 ?o100
            case o98 => decide
            case o99 => omega
            case o100 => omega
          obtain rfl : x_20 = x_30 := ex_20.trans ex_30.symm
          refine hx_iald hx hb hW hT (gqbd.S hM) tt_18 rfl ⟨?o101, ?o102⟩ dX1_addLine_106 (fun x_31 ex_31 lx_31 ux_31 => ?_)
          case o101 => omega
          case o102 => omega
          have ax_31 : x_31 = ia69_qbd x_20.toNatClampNeg := ex_31.trans (congrFun nia69_qbd _)
          obtain rfl : x_21 = x_31 := ex_21.trans ex_31.symm
          have nia69_qbdO := nia69_qbd
          refine hx_iast hx hb hW hT (hx_S.rf (M := [(18, 0)])) (gqbd.S hM) tt_18 rfl ⟨?o103, ?o104⟩ rfl ⟨?o105, ?o106⟩ (List.mem_singleton.mpr rfl) dX1_addLine_107 (fun H locs h_32 eh_32 hW hT hs => ?_)
          case o103 => omega
          case o104 => omega
          case o105 => omega
          case o106 => omega
          replace f_x_0 := (hs.o (gx.S hM) trivial rfl).1.trans f_x_0
          replace nfa_3 : h_32.2.1 qo = fa_3 := (funext fun j => (hs.a (gqo.S hM) rfl j).1).trans nfa_3
          replace nfa_5 : h_32.2.1 qwi = fa_5 := (funext fun j => (hs.a (gqwi.S hM) rfl j).1).trans nfa_5
          replace nfa_7 : h_32.2.1 qdy = fa_7 := (funext fun j => (hs.a (gqdy.S hM) rfl j).1).trans nfa_7
          replace nfa_9 : h_32.2.1 qkd = fa_9 := (funext fun j => (hs.a (gqkd.S hM) rfl j).1).trans nfa_9
          replace nfa_11 : h_32.2.1 qsm = fa_11 := (funext fun j => (hs.a (gqsm.S hM) rfl j).1).trans nfa_11
          replace ex_22 := ex_22.trans (hs.a (gqdy.S hM) rfl _).1.symm
          replace hM := hM.tr (hs.mono ?o107)
          case o107 => decide
          obtain ⟨fa_33, dfa_33⟩ : ∃ g : Nat → Int32, g = hx_up ia69_qbd iv69_6.toNatClampNeg x_21 := ⟨_, rfl⟩
          have nfa_33 : h_32.2.1 qbd = fa_33 := ?o108
          case o108 =>
            rw [eh_32, dfa_33, ← nia69_qbdO]
            exact hx_pi_fun _ _ _ _
          obtain ⟨x_34, ex_34⟩ : ∃ y : Int32, y = iv69_6 + Int32.ofInt (-1) := ⟨_, rfl⟩
          have zx_34 : x_34.toInt = iv69_6.toInt + (-1) := ?o109
          case o109 =>
            rw [ex_34]
            refine i32_add rfl ?o110 ?o111 ?o112
            case o110 => decide
            case o111 => omega
            case o112 => omega
          refine lv_iinc (v := x_34) (lv' := [(6, .int x_34), (0, .ref x), (1, .int i1), (2, .int i2), (3, .int i3), (4, .int i4), (5, .int i5)]) hx hb dX1_addLine_108 hl (k := 0) rfl ex_34.symm ?o113 rfl (fun ls hl => ?_)
          case o113 => decide
          refine lv_goto (tgt := 69) hx hb dX1_addLine_111 ?o114 ?_
          case o114 => decide
          refine ih69 x_34 fa_33 _ _ hL1 h_32 ?o115 ?o116 ?o117 (by have e9 : x_34.toInt = x_20.toInt := (by omega); rw [e9]; exact hy_bi_s vi69_1 (by omega) (by omega) zx_20 ax_21 ax_22 (by omega) rfl dfa_33) ls ?o118 hW hT hM f_x_0 nfa_33 nfa_3 nfa_5 nfa_7 nfa_9 nfa_11 (lv_sub hl [0, 1, 2, 3, 4, 5, 6] rfl)
          case o115 => omega
          case o116 => omega
          case o117 => omega
          case o118 => omega
  refine loop69 401 k0 bf _ _ L h_10 ?o119 ?o120 ?o121 (hy_bi_0 ?o122) ls ?o123 hW hT hM f_x_0 af_qbd nfa_3 nfa_5 nfa_7 nfa_9 nfa_11 hl
  case o119 => omega
  case o120 => omega
  case o121 => omega
  case o122 => omega
  case o123 => omega


set_option maxHeartbeats 4000000 in
set_option maxRecDepth 100000 in
theorem t_X10_bookSum_2 (l : Launch) (dC : Nat → ClassId) (dI : Nat → Nat → Nat) (dA : Nat → ClassId) (L : List Nat) (h : hx_h) (sz : Nat) (x : Nat) (i1 : Int32) (i2 : Int32) (i3 : Int32) (hT : hx_T T_tb L h) (gx : hx_g L h x 10) (qo : Nat) (gqo : hx_g L h qo 66) (f_x_30 : h.2.2 x 30 = some qo) (qwi : Nat) (gqwi : hx_g L h qwi 67) (f_x_31 : h.2.2 x 31 = some qwi) (qdy : Nat) (gqdy : hx_g L h qdy 68) (f_x_32 : h.2.2 x 32 = some qdy) (qkd : Nat) (gqkd : hx_g L h qkd 69) (f_x_33 : h.2.2 x 33 = some qkd) (qsm : Nat) (gqsm : hx_g L h qsm 70) (f_x_34 : h.2.2 x 34 = some qsm) (of : Nat → Int32) (af_qo : h.2.1 qo = of) (wf : Nat → Int32) (af_qwi : h.2.1 qwi = wf) (df : Nat → Int32) (af_qdy : h.2.1 qdy = df) (kf : Nat → Int32) (af_qkd : h.2.1 qkd = kf) (sf : Nat → Int32) (af_qsm : h.2.1 qsm = sf) (ln0 : Int32) (f_x_29 : h.2.1 x 29 = ln0) : Met l yX10_bookSum (Cond.code yX10_bookSum cX10_bookSum 6 (some .int) :: hx_all) ({ frames := 0, cells := 0, slots := 0, locals := 0 }) (va_Pc [.ref x, .int i1, .int i2, .int i3] (hx_B T_tb (P_ty dA) (dC, dI) vwCl L h sz)) (va_Qi (fun (r : Int32) (u : List Nat × hx_h) => (r.toInt = (hy_bs of wf df kf sf i1 i2 i3 ln0.toInt.toNat).toInt) ∧ hx_T T_tb u.1 u.2 ∧ hx_S T_tb [] L h u.1 u.2) (hx_E T_tb (P_ty dA) (dC, dI) vwCl (hx_A L sz)) (hx_A L sz)) 0 0 (hx_A L sz) := by
  refine hx_met (lv := [(0, .ref x), (1, .int i1), (2, .int i2), (3, .int i3)]) (by decide +kernel) rfl (Nat.le_of_ble_eq_true rfl) rfl ?_
  intro p e s m below meth c hx hb hml hr hlk hts0 hown hin hsz hW ls hl
  have hts : ∀ w ∈ hx_all, w.before _ s = true := fun w hw => hts0 w (List.mem_cons_of_mem _ hw)
  have hown : s.vm.findClass "SmallCourtModel" = some m.cls := hown
  have hM : hx_S T_tb [] L h L h := hx_S.rf
  have b_ln0 := hT.gi gx tt_10 (k := 29) rfl
  rw [f_x_29] at b_ln0
  have b_ln0 : 0 ≤ ln0.toInt ∧ ln0.toInt ≤ 400 := b_ln0
  refine lv_iconst (v := 0) hx hb dX10_bookSum_0 ?o0 ?_
  case o0 => decide
  refine lv_istore (lv' := [(4, .int (0 : Int32)), (0, .ref x), (1, .int i1), (2, .int i2), (3, .int i3)]) hx hb dX10_bookSum_1 hl ?o1 rfl (fun ls hl => ?_)
  case o1 => decide
  refine lv_iconst (v := 0) hx hb dX10_bookSum_3 ?o2 ?_
  case o2 => decide
  refine lv_istore (lv' := [(5, .int (0 : Int32)), (4, .int (0 : Int32)), (0, .ref x), (1, .int i1), (2, .int i2), (3, .int i3)]) hx hb dX10_bookSum_4 hl ?o3 rfl (fun ls hl => ?_)
  case o3 => decide
  have loop6 : ∀ (n6 : Nat) (iv6_4 iv6_5 : Int32) (H : Heap) (locs : List Loc) (hL1 : List Nat) (hl1 : hx_h), -2147483648 ≤ iv6_4.toInt → iv6_4.toInt ≤ 2147483647 → 0 ≤ iv6_5.toInt → iv6_5.toInt ≤ 400 → (iv6_4.toInt = (hy_bs of wf df kf sf i1 i2 i3 (iv6_5.toInt).toNat).toInt) → (iv6_5.toInt ≤ ln0.toInt) → ∀ (ls : Array Slot), 400 - iv6_5.toInt < (n6 : Int) → hx_W T_tb (P_ty dA) (dC, dI) vwCl (hx_A L sz) s.heap hL1 hl1 s H locs → hx_T T_tb hL1 hl1 → hx_S T_tb [] L h hL1 hl1 → lv_has ls 6 [(5, .int iv6_5), (4, .int iv6_4), (0, .ref x), (1, .int i1), (2, .int i2), (3, .int i3)] → W p l e ({ frames := 0, cells := 0, slots := 0, locals := 0 }) s m ([.ref x, .int i1, .int i2, .int i3] : List Value).toArray below meth c H locs 0 0 (MQ below (va_Qi (fun (r : Int32) (u : List Nat × hx_h) => (r.toInt = (hy_bs of wf df kf sf i1 i2 i3 ln0.toInt.toNat).toInt) ∧ hx_T T_tb u.1 u.2 ∧ hx_S T_tb [] L h u.1 u.2) (hx_E T_tb (P_ty dA) (dC, dI) vwCl (hx_A L sz)) (hx_A L sz)) ([.ref x, .int i1, .int i2, .int i3] : List Value).toArray s 0 0 (hx_A L sz)) (F0 m 6 ls []) := by
    intro n6
    induction n6 with
    | zero => intro iv6_4 iv6_5 H locs hL1 hl1 bliv6_4 buiv6_4 bliv6_5 buiv6_5 vi6_0 vi6_1 ls hn6; exfalso; omega
    | succ n6 ih6 =>
      intro iv6_4 iv6_5 H locs hL1 hl1 bliv6_4 buiv6_4 bliv6_5 buiv6_5 vi6_0 vi6_1 ls hn6 hW hT hM   hl
      refine lv_iload hx hb dX10_bookSum_6 (lv_at hl 0 rfl) ?_
      refine lv_aload_n hx hb dX10_bookSum_8 rfl (lv_at hl 2 rfl) ?_
      refine hk_geti hx hb hts hC_10 hown hW (gx.S hM) tt_10 29 ?o4 rfl kw_1172 ⟨rfl, rfl, rfl⟩ ((hM.o gx trivial rfl).1.trans f_x_29) dX10_bookSum_9 ?_
      case o4 => decide
      refine hb_icmp_ge (zx := iv6_5.toInt) (zy := ln0.toInt) (tgt := 98) hx hb rfl rfl dX10_bookSum_12 ?o5 (fun c_1 => ?_) (fun c_1 => ?_)
      case o5 => decide
      · skip
        refine lv_iload hx hb dX10_bookSum_98 (lv_at hl 1 rfl) ?_
        exact hx_reti hx hb hr hlk hW ⟨(by have e9 : iv6_5.toInt = ln0.toInt := (by omega); rw [← e9]; exact vi6_0), hT, hM⟩ dX10_bookSum_100
      · skip
        refine lv_aload_n hx hb dX10_bookSum_15 rfl (lv_at hl 2 rfl) ?_
        refine hk_getr hx hb hts hC_10 hown hW (gx.S hM) tt_10 30 ?o6 rfl kw_1173 ⟨rfl, rfl, rfl⟩ ((hM.o gx trivial rfl).2.trans f_x_30) dX10_bookSum_16 ?_
        case o6 => decide
        refine lv_iload hx hb dX10_bookSum_19 (lv_at hl 0 rfl) ?_
        refine hx_iald hx hb hW hT (gqo.S hM) tt_66 rfl ⟨?o7, ?o8⟩ dX10_bookSum_21 (fun x_2 ex_2 lx_2 ux_2 => ?_)
        case o7 => omega
        case o8 => omega
        have ax_2 : x_2 = of iv6_5.toNatClampNeg := ex_2.trans (congrFun (hx_afS hM gqo rfl af_qo) _)
        refine lv_iload_n hx hb dX10_bookSum_22 rfl (lv_at hl 3 rfl) ?_
        refine hb_icmp_ne (zx := x_2.toInt) (zy := i1.toInt) (tgt := 92) hx hb rfl rfl dX10_bookSum_23 ?o9 (fun c_3 => ?_) (fun c_3 => ?_)
        case o9 => decide
        · skip
          obtain ⟨x_4, ex_4⟩ : ∃ y : Int32, y = iv6_5 + Int32.ofInt 1 := ⟨_, rfl⟩
          have rg_5 := i32_r iv6_5
          have zx_4 : x_4.toInt = iv6_5.toInt + (1) := ?o10
          case o10 =>
            rw [ex_4]
            refine i32_add rfl ?o11 ?o12 ?o13
            case o11 => decide
            case o12 => omega
            case o13 => omega
          refine lv_iinc (v := x_4) (lv' := [(5, .int x_4), (4, .int iv6_4), (0, .ref x), (1, .int i1), (2, .int i2), (3, .int i3)]) hx hb dX10_bookSum_92 hl (k := 0) rfl ex_4.symm ?o14 rfl (fun ls hl => ?_)
          case o14 => decide
          refine lv_goto (tgt := 6) hx hb dX10_bookSum_95 ?o15 ?_
          case o15 => decide
          refine ih6 iv6_4 x_4 _ _ hL1 hl1 (i32_r _).1 (i32_r _).2 ?o16 ?o17 (hy_bs_n vi6_0 ?o18 (hy_ln_f (fun hc => by have h9 := congrArg Int32.toInt (ax_2.trans hc.1); omega)) zx_4) ?o19 ls ?o20 hW hT hM   (lv_sub hl [0, 1, 2, 3, 4, 5] rfl)
          case o16 => omega
          case o17 => omega
          case o18 => omega
          case o19 => omega
          case o20 => omega
        · skip
          refine lv_aload_n hx hb dX10_bookSum_26 rfl (lv_at hl 2 rfl) ?_
          refine hk_getr hx hb hts hC_10 hown hW (gx.S hM) tt_10 31 ?o21 rfl kw_1174 ⟨rfl, rfl, rfl⟩ ((hM.o gx trivial rfl).2.trans f_x_31) dX10_bookSum_27 ?_
          case o21 => decide
          refine lv_iload hx hb dX10_bookSum_30 (lv_at hl 0 rfl) ?_
          refine hx_iald hx hb hW hT (gqwi.S hM) tt_67 rfl ⟨?o22, ?o23⟩ dX10_bookSum_32 (fun x_6 ex_6 lx_6 ux_6 => ?_)
          case o22 => omega
          case o23 => omega
          have ax_6 : x_6 = wf iv6_5.toNatClampNeg := ex_6.trans (congrFun (hx_afS hM gqwi rfl af_qwi) _)
          refine lv_iload_n hx hb dX10_bookSum_33 rfl (lv_at hl 4 rfl) ?_
          refine hb_icmp_ne (zx := x_6.toInt) (zy := i2.toInt) (tgt := 92) hx hb rfl rfl dX10_bookSum_34 ?o24 (fun c_7 => ?_) (fun c_7 => ?_)
          case o24 => decide
          · skip
            obtain ⟨x_8, ex_8⟩ : ∃ y : Int32, y = iv6_5 + Int32.ofInt 1 := ⟨_, rfl⟩
            have rg_9 := i32_r iv6_5
            have zx_8 : x_8.toInt = iv6_5.toInt + (1) := ?o25
            case o25 =>
              rw [ex_8]
              refine i32_add rfl ?o26 ?o27 ?o28
              case o26 => decide
              case o27 => omega
              case o28 => omega
            refine lv_iinc (v := x_8) (lv' := [(5, .int x_8), (4, .int iv6_4), (0, .ref x), (1, .int i1), (2, .int i2), (3, .int i3)]) hx hb dX10_bookSum_92 hl (k := 0) rfl ex_8.symm ?o29 rfl (fun ls hl => ?_)
            case o29 => decide
            refine lv_goto (tgt := 6) hx hb dX10_bookSum_95 ?o30 ?_
            case o30 => decide
            refine ih6 iv6_4 x_8 _ _ hL1 hl1 (i32_r _).1 (i32_r _).2 ?o31 ?o32 (hy_bs_n vi6_0 ?o33 (hy_ln_f (fun hc => by have h9 := congrArg Int32.toInt (ax_6.trans hc.2.1); omega)) zx_8) ?o34 ls ?o35 hW hT hM   (lv_sub hl [0, 1, 2, 3, 4, 5] rfl)
            case o31 => omega
            case o32 => omega
            case o33 => omega
            case o34 => omega
            case o35 => omega
          · skip
            refine lv_aload_n hx hb dX10_bookSum_37 rfl (lv_at hl 2 rfl) ?_
            refine hk_getr hx hb hts hC_10 hown hW (gx.S hM) tt_10 32 ?o36 rfl kw_1175 ⟨rfl, rfl, rfl⟩ ((hM.o gx trivial rfl).2.trans f_x_32) dX10_bookSum_38 ?_
            case o36 => decide
            refine lv_iload hx hb dX10_bookSum_41 (lv_at hl 0 rfl) ?_
            refine hx_iald hx hb hW hT (gqdy.S hM) tt_68 rfl ⟨?o37, ?o38⟩ dX10_bookSum_43 (fun x_10 ex_10 lx_10 ux_10 => ?_)
            case o37 => omega
            case o38 => omega
            have ax_10 : x_10 = df iv6_5.toNatClampNeg := ex_10.trans (congrFun (hx_afS hM gqdy rfl af_qdy) _)
            refine lv_iload_n hx hb dX10_bookSum_44 rfl (lv_at hl 5 rfl) ?_
            refine hb_icmp_gt (zx := x_10.toInt) (zy := i3.toInt) (tgt := 92) hx hb rfl rfl dX10_bookSum_45 ?o39 (fun c_11 => ?_) (fun c_11 => ?_)
            case o39 => decide
            · skip
              obtain ⟨x_12, ex_12⟩ : ∃ y : Int32, y = iv6_5 + Int32.ofInt 1 := ⟨_, rfl⟩
              have rg_13 := i32_r iv6_5
              have zx_12 : x_12.toInt = iv6_5.toInt + (1) := ?o40
              case o40 =>
                rw [ex_12]
                refine i32_add rfl ?o41 ?o42 ?o43
                case o41 => decide
                case o42 => omega
                case o43 => omega
              refine lv_iinc (v := x_12) (lv' := [(5, .int x_12), (4, .int iv6_4), (0, .ref x), (1, .int i1), (2, .int i2), (3, .int i3)]) hx hb dX10_bookSum_92 hl (k := 0) rfl ex_12.symm ?o44 rfl (fun ls hl => ?_)
              case o44 => decide
              refine lv_goto (tgt := 6) hx hb dX10_bookSum_95 ?o45 ?_
              case o45 => decide
              refine ih6 iv6_4 x_12 _ _ hL1 hl1 (i32_r _).1 (i32_r _).2 ?o46 ?o47 (hy_bs_n vi6_0 ?o48 (hy_ln_f (fun hc => by have h9 := hc.2.2; rw [← ax_10] at h9; omega)) zx_12) ?o49 ls ?o50 hW hT hM   (lv_sub hl [0, 1, 2, 3, 4, 5] rfl)
              case o46 => omega
              case o47 => omega
              case o48 => omega
              case o49 => omega
              case o50 => omega
            · skip
              refine lv_iload hx hb dX10_bookSum_48 (lv_at hl 1 rfl) ?_
              refine lv_aload_n hx hb dX10_bookSum_50 rfl (lv_at hl 2 rfl) ?_
              refine hk_getr hx hb hts hC_10 hown hW (gx.S hM) tt_10 33 ?o51 rfl kw_1176 ⟨rfl, rfl, rfl⟩ ((hM.o gx trivial rfl).2.trans f_x_33) dX10_bookSum_51 ?_
              case o51 => decide
              refine lv_iload hx hb dX10_bookSum_54 (lv_at hl 0 rfl) ?_
              refine hx_iald hx hb hW hT (gqkd.S hM) tt_69 rfl ⟨?o52, ?o53⟩ dX10_bookSum_56 (fun x_14 ex_14 lx_14 ux_14 => ?_)
              case o52 => omega
              case o53 => omega
              have ax_14 : x_14 = kf iv6_5.toNatClampNeg := ex_14.trans (congrFun (hx_afS hM gqkd rfl af_qkd) _)
              refine hb_if_eq (zx := x_14.toInt) (tgt := 71) hx hb rfl dX10_bookSum_57 ?o54 (fun c_15 => ?_) (fun c_15 => ?_)
              case o54 => decide
              · skip
                refine lv_aload_n hx hb dX10_bookSum_71 rfl (lv_at hl 2 rfl) ?_
                refine hk_getr hx hb hts hC_10 hown hW (gx.S hM) tt_10 34 ?o55 rfl kw_1177 ⟨rfl, rfl, rfl⟩ ((hM.o gx trivial rfl).2.trans f_x_34) dX10_bookSum_72 ?_
                case o55 => decide
                refine lv_iload hx hb dX10_bookSum_75 (lv_at hl 0 rfl) ?_
                refine hx_iald hx hb hW hT (gqsm.S hM) tt_70 rfl ⟨?o56, ?o57⟩ dX10_bookSum_77 (fun x_16 ex_16 lx_16 ux_16 => ?_)
                case o56 => omega
                case o57 => omega
                have ax_16 : x_16 = sf iv6_5.toNatClampNeg := ex_16.trans (congrFun (hx_afS hM gqsm rfl af_qsm) _)
                refine lv_goto (tgt := 89) hx hb dX10_bookSum_78 ?o58 ?_
                case o58 => decide
                refine lv_iadd hx hb dX10_bookSum_89 ?_
                have rg_17 := i32_r iv6_4
                have rg_18 := i32_r x_16
                refine lv_topi (fun x_19 ex_19 => ?_)
                refine lv_istore (lv' := [(4, .int x_19), (5, .int iv6_5), (0, .ref x), (1, .int i1), (2, .int i2), (3, .int i3)]) hx hb dX10_bookSum_90 hl ?o59 rfl (fun ls hl => ?_)
                case o59 => decide
                obtain ⟨x_20, ex_20⟩ : ∃ y : Int32, y = iv6_5 + Int32.ofInt 1 := ⟨_, rfl⟩
                have rg_21 := i32_r iv6_5
                have zx_20 : x_20.toInt = iv6_5.toInt + (1) := ?o60
                case o60 =>
                  rw [ex_20]
                  refine i32_add rfl ?o61 ?o62 ?o63
                  case o61 => decide
                  case o62 => omega
                  case o63 => omega
                refine lv_iinc (v := x_20) (lv' := [(5, .int x_20), (4, .int x_19), (0, .ref x), (1, .int i1), (2, .int i2), (3, .int i3)]) hx hb dX10_bookSum_92 hl (k := 1) rfl ex_20.symm ?o64 rfl (fun ls hl => ?_)
                case o64 => decide
                refine lv_goto (tgt := 6) hx hb dX10_bookSum_95 ?o65 ?_
                case o65 => decide
                exact ih6 x_19 x_20 _ _ hL1 hl1 (i32_r _).1 (i32_r _).2 (by omega) (by omega) (hy_bs_y vi6_0 (by omega) (hy_ln_t.mpr ⟨(ax_2.symm.trans (Int32.toInt_inj.mp (by omega))), (ax_6.symm.trans (Int32.toInt_inj.mp (by omega))), (by rw [← ax_10]; omega)⟩) ex_19 (by have hk : (kf iv6_5.toNatClampNeg).toInt = x_14.toInt := congrArg Int32.toInt ax_14.symm; unfold hy_bt; first | (rw [if_pos (by omega)]; exact ax_16) | (rw [if_neg (by omega), ex_16, ax_16])) zx_20) (by omega) ls (by omega) hW hT hM   (lv_sub hl [0, 1, 2, 3, 4, 5] rfl)
              · skip
                refine lv_aload_n hx hb dX10_bookSum_60 rfl (lv_at hl 2 rfl) ?_
                refine hk_getr hx hb hts hC_10 hown hW (gx.S hM) tt_10 33 ?o66 rfl kw_1176 ⟨rfl, rfl, rfl⟩ ((hM.o gx trivial rfl).2.trans f_x_33) dX10_bookSum_61 ?_
                case o66 => decide
                refine lv_iload hx hb dX10_bookSum_64 (lv_at hl 0 rfl) ?_
                refine hx_iald hx hb hW hT (gqkd.S hM) tt_69 rfl ⟨?o67, ?o68⟩ dX10_bookSum_66 (fun x_22 ex_22 lx_22 ux_22 => ?_)
                case o67 => omega
                case o68 => omega
                have ax_22 : x_22 = kf iv6_5.toNatClampNeg := ex_22.trans (congrFun (hx_afS hM gqkd rfl af_qkd) _)
                obtain rfl : x_14 = x_22 := ex_14.trans ex_22.symm
                refine lv_iconst (v := 3) hx hb dX10_bookSum_67 ?o69 ?_
                case o69 => decide
                refine hb_icmp_ne (zx := x_14.toInt) (zy := 3) (tgt := 81) hx hb rfl ?o70 dX10_bookSum_68 ?o71 (fun c_23 => ?_) (fun c_23 => ?_)
                case o70 => decide
                case o71 => decide
                · skip
                  refine lv_aload_n hx hb dX10_bookSum_81 rfl (lv_at hl 2 rfl) ?_
                  refine hk_getr hx hb hts hC_10 hown hW (gx.S hM) tt_10 34 ?o72 rfl kw_1177 ⟨rfl, rfl, rfl⟩ ((hM.o gx trivial rfl).2.trans f_x_34) dX10_bookSum_82 ?_
                  case o72 => decide
                  refine lv_iload hx hb dX10_bookSum_85 (lv_at hl 0 rfl) ?_
                  refine hx_iald hx hb hW hT (gqsm.S hM) tt_70 rfl ⟨?o73, ?o74⟩ dX10_bookSum_87 (fun x_24 ex_24 lx_24 ux_24 => ?_)
                  case o73 => omega
                  case o74 => omega
                  have ax_24 : x_24 = sf iv6_5.toNatClampNeg := ex_24.trans (congrFun (hx_afS hM gqsm rfl af_qsm) _)
                  refine lv_ineg hx hb dX10_bookSum_88 ?_
                  refine lv_topi (fun x_25 ex_25 => ?_)
                  refine lv_iadd hx hb dX10_bookSum_89 ?_
                  have rg_26 := i32_r iv6_4
                  have rg_27 := i32_r x_25
                  refine lv_topi (fun x_28 ex_28 => ?_)
                  refine lv_istore (lv' := [(4, .int x_28), (5, .int iv6_5), (0, .ref x), (1, .int i1), (2, .int i2), (3, .int i3)]) hx hb dX10_bookSum_90 hl ?o75 rfl (fun ls hl => ?_)
                  case o75 => decide
                  obtain ⟨x_29, ex_29⟩ : ∃ y : Int32, y = iv6_5 + Int32.ofInt 1 := ⟨_, rfl⟩
                  have rg_30 := i32_r iv6_5
                  have zx_29 : x_29.toInt = iv6_5.toInt + (1) := ?o76
                  case o76 =>
                    rw [ex_29]
                    refine i32_add rfl ?o77 ?o78 ?o79
                    case o77 => decide
                    case o78 => omega
                    case o79 => omega
                  refine lv_iinc (v := x_29) (lv' := [(5, .int x_29), (4, .int x_28), (0, .ref x), (1, .int i1), (2, .int i2), (3, .int i3)]) hx hb dX10_bookSum_92 hl (k := 1) rfl ex_29.symm ?o80 rfl (fun ls hl => ?_)
                  case o80 => decide
                  refine lv_goto (tgt := 6) hx hb dX10_bookSum_95 ?o81 ?_
                  case o81 => decide
                  exact ih6 x_28 x_29 _ _ hL1 hl1 (i32_r _).1 (i32_r _).2 (by omega) (by omega) (hy_bs_y vi6_0 (by omega) (hy_ln_t.mpr ⟨(ax_2.symm.trans (Int32.toInt_inj.mp (by omega))), (ax_6.symm.trans (Int32.toInt_inj.mp (by omega))), (by rw [← ax_10]; omega)⟩) ex_28 (by have hk : (kf iv6_5.toNatClampNeg).toInt = x_14.toInt := congrArg Int32.toInt ax_14.symm; unfold hy_bt; first | (rw [if_pos (by omega)]; exact ax_24) | (rw [if_neg (by omega), ex_25, ax_24])) zx_29) (by omega) ls (by omega) hW hT hM   (lv_sub hl [0, 1, 2, 3, 4, 5] rfl)
                · skip
                  refine lv_aload_n hx hb dX10_bookSum_71 rfl (lv_at hl 2 rfl) ?_
                  refine hk_getr hx hb hts hC_10 hown hW (gx.S hM) tt_10 34 ?o82 rfl kw_1177 ⟨rfl, rfl, rfl⟩ ((hM.o gx trivial rfl).2.trans f_x_34) dX10_bookSum_72 ?_
                  case o82 => decide
                  refine lv_iload hx hb dX10_bookSum_75 (lv_at hl 0 rfl) ?_
                  refine hx_iald hx hb hW hT (gqsm.S hM) tt_70 rfl ⟨?o83, ?o84⟩ dX10_bookSum_77 (fun x_31 ex_31 lx_31 ux_31 => ?_)
                  case o83 => omega
                  case o84 => omega
                  have ax_31 : x_31 = sf iv6_5.toNatClampNeg := ex_31.trans (congrFun (hx_afS hM gqsm rfl af_qsm) _)
                  refine lv_goto (tgt := 89) hx hb dX10_bookSum_78 ?o85 ?_
                  case o85 => decide
                  refine lv_iadd hx hb dX10_bookSum_89 ?_
                  have rg_32 := i32_r iv6_4
                  have rg_33 := i32_r x_31
                  refine lv_topi (fun x_34 ex_34 => ?_)
                  refine lv_istore (lv' := [(4, .int x_34), (5, .int iv6_5), (0, .ref x), (1, .int i1), (2, .int i2), (3, .int i3)]) hx hb dX10_bookSum_90 hl ?o86 rfl (fun ls hl => ?_)
                  case o86 => decide
                  obtain ⟨x_35, ex_35⟩ : ∃ y : Int32, y = iv6_5 + Int32.ofInt 1 := ⟨_, rfl⟩
                  have rg_36 := i32_r iv6_5
                  have zx_35 : x_35.toInt = iv6_5.toInt + (1) := ?o87
                  case o87 =>
                    rw [ex_35]
                    refine i32_add rfl ?o88 ?o89 ?o90
                    case o88 => decide
                    case o89 => omega
                    case o90 => omega
                  refine lv_iinc (v := x_35) (lv' := [(5, .int x_35), (4, .int x_34), (0, .ref x), (1, .int i1), (2, .int i2), (3, .int i3)]) hx hb dX10_bookSum_92 hl (k := 1) rfl ex_35.symm ?o91 rfl (fun ls hl => ?_)
                  case o91 => decide
                  refine lv_goto (tgt := 6) hx hb dX10_bookSum_95 ?o92 ?_
                  case o92 => decide
                  exact ih6 x_34 x_35 _ _ hL1 hl1 (i32_r _).1 (i32_r _).2 (by omega) (by omega) (hy_bs_y vi6_0 (by omega) (hy_ln_t.mpr ⟨(ax_2.symm.trans (Int32.toInt_inj.mp (by omega))), (ax_6.symm.trans (Int32.toInt_inj.mp (by omega))), (by rw [← ax_10]; omega)⟩) ex_34 (by have hk : (kf iv6_5.toNatClampNeg).toInt = x_14.toInt := congrArg Int32.toInt ax_14.symm; unfold hy_bt; first | (rw [if_pos (by omega)]; exact ax_31) | (rw [if_neg (by omega), ex_31, ax_31])) zx_35) (by omega) ls (by omega) hW hT hM   (lv_sub hl [0, 1, 2, 3, 4, 5] rfl)
  have zk_0 : (0 : Int32).toInt = 0 := ?o93
  case o93 => decide
  have zk_0 : (0 : Int32).toInt = 0 := ?o94
  case o94 => decide
  refine loop6 401 (0 : Int32) (0 : Int32) _ _ L h ?o95 ?o96 ?o97 ?o98 (by rw [zk_0]; rfl) ?o99 ls ?o100 hW hT hM   hl
  case o95 => decide
  case o96 => decide
  case o97 => decide
  case o98 => decide
  case o99 => omega
  case o100 => omega


set_option maxHeartbeats 4000000 in
set_option maxRecDepth 100000 in
theorem t_X10_disorder_2 (l : Launch) (dC : Nat → ClassId) (dI : Nat → Nat → Nat) (dA : Nat → ClassId) (L : List Nat) (h : hx_h) (sz : Nat) (x : Nat) (i1 : Int32) (hT : hx_T T_tb L h) (gx : hx_g L h x 10) (qo : Nat) (gqo : hx_g L h qo 66) (f_x_30 : h.2.2 x 30 = some qo) (qdy : Nat) (gqdy : hx_g L h qdy 68) (f_x_32 : h.2.2 x 32 = some qdy) (of : Nat → Int32) (af_qo : h.2.1 qo = of) (df : Nat → Int32) (af_qdy : h.2.1 qdy = df) (ln0 : Int32) (f_x_29 : h.2.1 x 29 = ln0) : Met l yX10_disorder (Cond.code yX10_disorder cX10_disorder 5 (some .int) :: hx_all) ({ frames := 0, cells := 0, slots := 0, locals := 0 }) (va_Pc [.ref x, .int i1] (hx_B T_tb (P_ty dA) (dC, dI) vwCl L h sz)) (va_Qi (fun (r : Int32) (u : List Nat × hx_h) => (r.toInt = (hy_dr of df i1 (-1) ln0.toInt.toNat).1) ∧ hx_T T_tb u.1 u.2 ∧ hx_S T_tb [] L h u.1 u.2) (hx_E T_tb (P_ty dA) (dC, dI) vwCl (hx_A L sz)) (hx_A L sz)) 0 0 (hx_A L sz) := by
  refine hx_met (lv := [(0, .ref x), (1, .int i1)]) (by decide +kernel) rfl (Nat.le_of_ble_eq_true rfl) rfl ?_
  intro p e s m below meth c hx hb hml hr hlk hts0 hown hin hsz hW ls hl
  have hts : ∀ w ∈ hx_all, w.before _ s = true := fun w hw => hts0 w (List.mem_cons_of_mem _ hw)
  have hown : s.vm.findClass "SmallCourtModel" = some m.cls := hown
  have hM : hx_S T_tb [] L h L h := hx_S.rf
  have b_ln0 := hT.gi gx tt_10 (k := 29) rfl
  rw [f_x_29] at b_ln0
  have b_ln0 : 0 ≤ ln0.toInt ∧ ln0.toInt ≤ 400 := b_ln0
  refine lv_iconst (v := 0) hx hb dX10_disorder_0 ?o0 ?_
  case o0 => decide
  refine lv_istore_n (lv' := [(2, .int (0 : Int32)), (0, .ref x), (1, .int i1)]) hx hb dX10_disorder_1 rfl hl ?o1 rfl (fun ls hl => ?_)
  case o1 => decide
  refine lv_iconst (v := -1) hx hb dX10_disorder_2 ?o2 ?_
  case o2 => decide
  refine lv_istore_n (lv' := [(3, .int (-1 : Int32)), (2, .int (0 : Int32)), (0, .ref x), (1, .int i1)]) hx hb dX10_disorder_3 rfl hl ?o3 rfl (fun ls hl => ?_)
  case o3 => decide
  refine lv_iconst (v := 0) hx hb dX10_disorder_4 ?o4 ?_
  case o4 => decide
  refine lv_istore (lv' := [(4, .int (0 : Int32)), (3, .int (-1 : Int32)), (2, .int (0 : Int32)), (0, .ref x), (1, .int i1)]) hx hb dX10_disorder_5 hl ?o5 rfl (fun ls hl => ?_)
  case o5 => decide
  have loop7 : ∀ (n7 : Nat) (iv7_2 iv7_3 iv7_4 : Int32) (H : Heap) (locs : List Loc) (hL1 : List Nat) (hl1 : hx_h), 0 ≤ iv7_2.toInt → iv7_2.toInt ≤ 400 → -2147483648 ≤ iv7_3.toInt → iv7_3.toInt ≤ 2147483647 → 0 ≤ iv7_4.toInt → iv7_4.toInt ≤ 400 → ((iv7_2.toInt, iv7_3.toInt) = hy_dr of df i1 (-1) (iv7_4.toInt).toNat) → (iv7_2.toInt ≤ iv7_4.toInt) → (iv7_4.toInt ≤ ln0.toInt) → ∀ (ls : Array Slot), 400 - iv7_4.toInt < (n7 : Int) → hx_W T_tb (P_ty dA) (dC, dI) vwCl (hx_A L sz) s.heap hL1 hl1 s H locs → hx_T T_tb hL1 hl1 → hx_S T_tb [] L h hL1 hl1 → lv_has ls 5 [(4, .int iv7_4), (3, .int iv7_3), (2, .int iv7_2), (0, .ref x), (1, .int i1)] → W p l e ({ frames := 0, cells := 0, slots := 0, locals := 0 }) s m ([.ref x, .int i1] : List Value).toArray below meth c H locs 0 0 (MQ below (va_Qi (fun (r : Int32) (u : List Nat × hx_h) => (r.toInt = (hy_dr of df i1 (-1) ln0.toInt.toNat).1) ∧ hx_T T_tb u.1 u.2 ∧ hx_S T_tb [] L h u.1 u.2) (hx_E T_tb (P_ty dA) (dC, dI) vwCl (hx_A L sz)) (hx_A L sz)) ([.ref x, .int i1] : List Value).toArray s 0 0 (hx_A L sz)) (F0 m 7 ls []) := by
    intro n7
    induction n7 with
    | zero => intro iv7_2 iv7_3 iv7_4 H locs hL1 hl1 bliv7_2 buiv7_2 bliv7_3 buiv7_3 bliv7_4 buiv7_4 vi7_0 vi7_1 vi7_2 ls hn7; exfalso; omega
    | succ n7 ih7 =>
      intro iv7_2 iv7_3 iv7_4 H locs hL1 hl1 bliv7_2 buiv7_2 bliv7_3 buiv7_3 bliv7_4 buiv7_4 vi7_0 vi7_1 vi7_2 ls hn7 hW hT hM   hl
      refine lv_iload hx hb dX10_disorder_7 (lv_at hl 0 rfl) ?_
      refine lv_aload_n hx hb dX10_disorder_9 rfl (lv_at hl 3 rfl) ?_
      refine hk_geti hx hb hts hC_10 hown hW (gx.S hM) tt_10 29 ?o6 rfl kw_1172 ⟨rfl, rfl, rfl⟩ ((hM.o gx trivial rfl).1.trans f_x_29) dX10_disorder_10 ?_
      case o6 => decide
      refine hb_icmp_ge (zx := iv7_4.toInt) (zy := ln0.toInt) (tgt := 63) hx hb rfl rfl dX10_disorder_13 ?o7 (fun c_1 => ?_) (fun c_1 => ?_)
      case o7 => decide
      · skip
        refine lv_iload_n hx hb dX10_disorder_63 rfl (lv_at hl 2 rfl) ?_
        exact hx_reti hx hb hr hlk hW ⟨(by have e9 : iv7_4.toInt = ln0.toInt := (by omega); rw [← e9]; exact congrArg Prod.fst vi7_0), hT, hM⟩ dX10_disorder_64
      · skip
        refine lv_aload_n hx hb dX10_disorder_16 rfl (lv_at hl 3 rfl) ?_
        refine hk_getr hx hb hts hC_10 hown hW (gx.S hM) tt_10 30 ?o8 rfl kw_1173 ⟨rfl, rfl, rfl⟩ ((hM.o gx trivial rfl).2.trans f_x_30) dX10_disorder_17 ?_
        case o8 => decide
        refine lv_iload hx hb dX10_disorder_20 (lv_at hl 0 rfl) ?_
        refine hx_iald hx hb hW hT (gqo.S hM) tt_66 rfl ⟨?o9, ?o10⟩ dX10_disorder_22 (fun x_2 ex_2 lx_2 ux_2 => ?_)
        case o9 => omega
        case o10 => omega
        have ax_2 : x_2 = of iv7_4.toNatClampNeg := ex_2.trans (congrFun (hx_afS hM gqo rfl af_qo) _)
        refine lv_iload_n hx hb dX10_disorder_23 rfl (lv_at hl 4 rfl) ?_
        refine hb_icmp_eq (zx := x_2.toInt) (zy := i1.toInt) (tgt := 30) hx hb rfl rfl dX10_disorder_24 ?o11 (fun c_3 => ?_) (fun c_3 => ?_)
        case o11 => decide
        · skip
          refine lv_iload_n hx hb dX10_disorder_30 rfl (lv_at hl 2 rfl) ?_
          refine lv_aload_n hx hb dX10_disorder_31 rfl (lv_at hl 3 rfl) ?_
          refine hk_getr hx hb hts hC_10 hown hW (gx.S hM) tt_10 32 ?o12 rfl kw_1175 ⟨rfl, rfl, rfl⟩ ((hM.o gx trivial rfl).2.trans f_x_32) dX10_disorder_32 ?_
          case o12 => decide
          refine lv_iload hx hb dX10_disorder_35 (lv_at hl 0 rfl) ?_
          refine hx_iald hx hb hW hT (gqdy.S hM) tt_68 rfl ⟨?o13, ?o14⟩ dX10_disorder_37 (fun x_4 ex_4 lx_4 ux_4 => ?_)
          case o13 => omega
          case o14 => omega
          have ax_4 : x_4 = df iv7_4.toNatClampNeg := ex_4.trans (congrFun (hx_afS hM gqdy rfl af_qdy) _)
          refine lv_iload_n hx hb dX10_disorder_38 rfl (lv_at hl 1 rfl) ?_
          refine hb_icmp_ge (zx := x_4.toInt) (zy := iv7_3.toInt) (tgt := 46) hx hb rfl rfl dX10_disorder_39 ?o15 (fun c_5 => ?_) (fun c_5 => ?_)
          case o15 => decide
          · skip
            refine lv_iconst (v := 0) hx hb dX10_disorder_46 ?o16 ?_
            case o16 => decide
            refine lv_iadd hx hb dX10_disorder_47 ?_
            have rg_6 := i32_r iv7_2
            refine lv_topi (fun x_7 ex_7 => ?_)
            have zx_7 : x_7.toInt = iv7_2.toInt + 0 := ?o17
            case o17 =>
              rw [ex_7]
              refine i32_add rfl ?o18 ?o19 ?o20
              case o18 => decide
              case o19 => omega
              case o20 => omega
            refine lv_istore_n (lv' := [(2, .int x_7), (4, .int iv7_4), (3, .int iv7_3), (0, .ref x), (1, .int i1)]) hx hb dX10_disorder_48 rfl hl ?o21 rfl (fun ls hl => ?_)
            case o21 => decide
            refine lv_aload_n hx hb dX10_disorder_49 rfl (lv_at hl 3 rfl) ?_
            refine hk_getr hx hb hts hC_10 hown hW (gx.S hM) tt_10 32 ?o22 rfl kw_1175 ⟨rfl, rfl, rfl⟩ ((hM.o gx trivial rfl).2.trans f_x_32) dX10_disorder_50 ?_
            case o22 => decide
            refine lv_iload hx hb dX10_disorder_53 (lv_at hl 1 rfl) ?_
            refine hx_iald hx hb hW hT (gqdy.S hM) tt_68 rfl ⟨?o23, ?o24⟩ dX10_disorder_55 (fun x_8 ex_8 lx_8 ux_8 => ?_)
            case o23 => omega
            case o24 => omega
            have ax_8 : x_8 = df iv7_4.toNatClampNeg := ex_8.trans (congrFun (hx_afS hM gqdy rfl af_qdy) _)
            obtain rfl : x_4 = x_8 := ex_4.trans ex_8.symm
            refine lv_istore_n (lv' := [(3, .int x_4), (2, .int x_7), (4, .int iv7_4), (0, .ref x), (1, .int i1)]) hx hb dX10_disorder_56 rfl hl ?o25 rfl (fun ls hl => ?_)
            case o25 => decide
            obtain ⟨x_9, ex_9⟩ : ∃ y : Int32, y = iv7_4 + Int32.ofInt 1 := ⟨_, rfl⟩
            have rg_10 := i32_r iv7_4
            have zx_9 : x_9.toInt = iv7_4.toInt + (1) := ?o26
            case o26 =>
              rw [ex_9]
              refine i32_add rfl ?o27 ?o28 ?o29
              case o27 => decide
              case o28 => omega
              case o29 => omega
            refine lv_iinc (v := x_9) (lv' := [(4, .int x_9), (3, .int x_4), (2, .int x_7), (0, .ref x), (1, .int i1)]) hx hb dX10_disorder_57 hl (k := 2) rfl ex_9.symm ?o30 rfl (fun ls hl => ?_)
            case o30 => decide
            refine lv_goto (tgt := 7) hx hb dX10_disorder_60 ?o31 ?_
            case o31 => decide
            exact ih7 x_7 x_4 x_9 _ _ hL1 hl1 (by omega) (by omega) (i32_r _).1 (i32_r _).2 (by omega) (by omega) (hy_dr_y vi7_0 (by omega) (ax_2.symm.trans (Int32.toInt_inj.mp (by omega))) ax_4 (by first | (rw [if_pos (by omega)]; omega) | (rw [if_neg (by omega)]; omega)) zx_9) (by omega) (by omega) ls (by omega) hW hT hM   (lv_sub hl [0, 1, 2, 3, 4] rfl)
          · skip
            refine lv_iconst (v := 1) hx hb dX10_disorder_42 ?o32 ?_
            case o32 => decide
            refine lv_goto (tgt := 47) hx hb dX10_disorder_43 ?o33 ?_
            case o33 => decide
            refine lv_iadd hx hb dX10_disorder_47 ?_
            have rg_11 := i32_r iv7_2
            refine lv_topi (fun x_12 ex_12 => ?_)
            have zx_12 : x_12.toInt = iv7_2.toInt + 1 := ?o34
            case o34 =>
              rw [ex_12]
              refine i32_add rfl ?o35 ?o36 ?o37
              case o35 => decide
              case o36 => omega
              case o37 => omega
            refine lv_istore_n (lv' := [(2, .int x_12), (4, .int iv7_4), (3, .int iv7_3), (0, .ref x), (1, .int i1)]) hx hb dX10_disorder_48 rfl hl ?o38 rfl (fun ls hl => ?_)
            case o38 => decide
            refine lv_aload_n hx hb dX10_disorder_49 rfl (lv_at hl 3 rfl) ?_
            refine hk_getr hx hb hts hC_10 hown hW (gx.S hM) tt_10 32 ?o39 rfl kw_1175 ⟨rfl, rfl, rfl⟩ ((hM.o gx trivial rfl).2.trans f_x_32) dX10_disorder_50 ?_
            case o39 => decide
            refine lv_iload hx hb dX10_disorder_53 (lv_at hl 1 rfl) ?_
            refine hx_iald hx hb hW hT (gqdy.S hM) tt_68 rfl ⟨?o40, ?o41⟩ dX10_disorder_55 (fun x_13 ex_13 lx_13 ux_13 => ?_)
            case o40 => omega
            case o41 => omega
            have ax_13 : x_13 = df iv7_4.toNatClampNeg := ex_13.trans (congrFun (hx_afS hM gqdy rfl af_qdy) _)
            obtain rfl : x_4 = x_13 := ex_4.trans ex_13.symm
            refine lv_istore_n (lv' := [(3, .int x_4), (2, .int x_12), (4, .int iv7_4), (0, .ref x), (1, .int i1)]) hx hb dX10_disorder_56 rfl hl ?o42 rfl (fun ls hl => ?_)
            case o42 => decide
            obtain ⟨x_14, ex_14⟩ : ∃ y : Int32, y = iv7_4 + Int32.ofInt 1 := ⟨_, rfl⟩
            have rg_15 := i32_r iv7_4
            have zx_14 : x_14.toInt = iv7_4.toInt + (1) := ?o43
            case o43 =>
              rw [ex_14]
              refine i32_add rfl ?o44 ?o45 ?o46
              case o44 => decide
              case o45 => omega
              case o46 => omega
            refine lv_iinc (v := x_14) (lv' := [(4, .int x_14), (3, .int x_4), (2, .int x_12), (0, .ref x), (1, .int i1)]) hx hb dX10_disorder_57 hl (k := 2) rfl ex_14.symm ?o47 rfl (fun ls hl => ?_)
            case o47 => decide
            refine lv_goto (tgt := 7) hx hb dX10_disorder_60 ?o48 ?_
            case o48 => decide
            exact ih7 x_12 x_4 x_14 _ _ hL1 hl1 (by omega) (by omega) (i32_r _).1 (i32_r _).2 (by omega) (by omega) (hy_dr_y vi7_0 (by omega) (ax_2.symm.trans (Int32.toInt_inj.mp (by omega))) ax_4 (by first | (rw [if_pos (by omega)]; omega) | (rw [if_neg (by omega)]; omega)) zx_14) (by omega) (by omega) ls (by omega) hW hT hM   (lv_sub hl [0, 1, 2, 3, 4] rfl)
        · skip
          refine lv_goto (tgt := 57) hx hb dX10_disorder_27 ?o49 ?_
          case o49 => decide
          obtain ⟨x_16, ex_16⟩ : ∃ y : Int32, y = iv7_4 + Int32.ofInt 1 := ⟨_, rfl⟩
          have rg_17 := i32_r iv7_4
          have zx_16 : x_16.toInt = iv7_4.toInt + (1) := ?o50
          case o50 =>
            rw [ex_16]
            refine i32_add rfl ?o51 ?o52 ?o53
            case o51 => decide
            case o52 => omega
            case o53 => omega
          refine lv_iinc (v := x_16) (lv' := [(4, .int x_16), (3, .int iv7_3), (2, .int iv7_2), (0, .ref x), (1, .int i1)]) hx hb dX10_disorder_57 hl (k := 0) rfl ex_16.symm ?o54 rfl (fun ls hl => ?_)
          case o54 => decide
          refine lv_goto (tgt := 7) hx hb dX10_disorder_60 ?o55 ?_
          case o55 => decide
          refine ih7 iv7_2 iv7_3 x_16 _ _ hL1 hl1 ?o56 ?o57 (i32_r _).1 (i32_r _).2 ?o58 ?o59 (hy_dr_n vi7_0 ?o60 (fun hc => by have h9 := congrArg Int32.toInt (ax_2.trans hc); omega) zx_16) ?o61 ?o62 ls ?o63 hW hT hM   (lv_sub hl [0, 1, 2, 3, 4] rfl)
          case o56 => omega
          case o57 => omega
          case o58 => omega
          case o59 => omega
          case o60 => omega
          case o61 => omega
          case o62 => omega
          case o63 => omega
  have zk_0 : (0 : Int32).toInt = 0 := ?o64
  case o64 => decide
  have zk_m1 : (-1 : Int32).toInt = -1 := ?o65
  case o65 => decide
  have zk_0 : (0 : Int32).toInt = 0 := ?o66
  case o66 => decide
  refine loop7 401 (0 : Int32) (-1 : Int32) (0 : Int32) _ _ L h ?o67 ?o68 ?o69 ?o70 ?o71 ?o72 (by rw [zk_0, zk_m1]; rfl) ?o73 ?o74 ls ?o75 hW hT hM   hl
  case o67 => decide
  case o68 => decide
  case o69 => decide
  case o70 => decide
  case o71 => decide
  case o72 => decide
  case o73 => omega
  case o74 => omega
  case o75 => omega


set_option maxHeartbeats 4000000 in
set_option maxRecDepth 100000 in
theorem t_X10_areTwins_2 (l : Launch) (dC : Nat → ClassId) (dI : Nat → Nat → Nat) (dA : Nat → ClassId) (L : List Nat) (h : hx_h) (sz : Nat) (x : Nat) (i1 : Int32) (i2 : Int32) (hT : hx_T T_tb L h) (gx : hx_g L h x 10) (qkd : Nat) (gqkd : hx_g L h qkd 69) (f_x_33 : h.2.2 x 33 = some qkd) (qsm : Nat) (gqsm : hx_g L h qsm 70) (f_x_34 : h.2.2 x 34 = some qsm) (qdy : Nat) (gqdy : hx_g L h qdy 68) (f_x_32 : h.2.2 x 32 = some qdy) (kf : Nat → Int32) (af_qkd : h.2.1 qkd = kf) (sf : Nat → Int32) (af_qsm : h.2.1 qsm = sf) (df : Nat → Int32) (af_qdy : h.2.1 qdy = df) (hi1 : 0 ≤ i1.toInt ∧ i1.toInt ≤ 399) (hi2 : 0 ≤ i2.toInt ∧ i2.toInt ≤ 399) (hd1 : 0 ≤ (df i1.toNatClampNeg).toInt ∧ (df i1.toNatClampNeg).toInt ≤ 7999) (hd2 : 0 ≤ (df i2.toNatClampNeg).toInt ∧ (df i2.toNatClampNeg).toInt ≤ 7999) : Met l yX10_areTwins (Cond.code yX10_areTwins cX10_areTwins 4 (some .boolean) :: hx_all) ({ frames := 1, cells := 0, slots := 0, locals := 22 }) (va_Pc [.ref x, .int i1, .int i2] (hx_B T_tb (P_ty dA) (dC, dI) vwCl L h sz)) (va_Qi (fun (r : Int32) (u : List Nat × hx_h) => ((r.toInt = 1 ∧ hy_tw df kf sf i1.toNatClampNeg i2.toNatClampNeg = true) ∨ (r.toInt = 0 ∧ hy_tw df kf sf i1.toNatClampNeg i2.toNatClampNeg = false)) ∧ hx_T T_tb u.1 u.2 ∧ hx_S T_tb [] L h u.1 u.2) (hx_E T_tb (P_ty dA) (dC, dI) vwCl (hx_A L sz)) (hx_A L sz)) 0 0 (hx_A L sz) := by
  refine hx_met (lv := [(0, .ref x), (1, .int i1), (2, .int i2)]) (by decide +kernel) rfl (Nat.le_of_ble_eq_true rfl) rfl ?_
  intro p e s m below meth c hx hb hml hr hlk hts0 hown hin hsz hW ls hl
  have hts : ∀ w ∈ hx_all, w.before _ s = true := fun w hw => hts0 w (List.mem_cons_of_mem _ hw)
  have hown : s.vm.findClass "SmallCourtModel" = some m.cls := hown
  have hM : hx_S T_tb [] L h L h := hx_S.rf
  refine lv_aload_n hx hb dX10_areTwins_0 rfl (lv_at hl 0 rfl) ?_
  refine hk_getr hx hb hts hC_10 hown hW (gx.S hM) tt_10 32 ?o0 rfl kw_1175 ⟨rfl, rfl, rfl⟩ ((hM.o gx trivial rfl).2.trans f_x_32) dX10_areTwins_1 ?_
  case o0 => decide
  refine lv_iload_n hx hb dX10_areTwins_4 rfl (lv_at hl 1 rfl) ?_
  refine hx_iald hx hb hW hT (gqdy.S hM) tt_68 rfl ⟨?o1, ?o2⟩ dX10_areTwins_5 (fun x_1 ex_1 lx_1 ux_1 => ?_)
  case o1 => omega
  case o2 => omega
  have ax_1 : x_1 = df i1.toNatClampNeg := ex_1.trans (congrFun (hx_afS hM gqdy rfl af_qdy) _)
  refine lv_aload_n hx hb dX10_areTwins_6 rfl (lv_at hl 0 rfl) ?_
  refine hk_getr hx hb hts hC_10 hown hW (gx.S hM) tt_10 32 ?o3 rfl kw_1175 ⟨rfl, rfl, rfl⟩ ((hM.o gx trivial rfl).2.trans f_x_32) dX10_areTwins_7 ?_
  case o3 => decide
  refine lv_iload_n hx hb dX10_areTwins_10 rfl (lv_at hl 2 rfl) ?_
  refine hx_iald hx hb hW hT (gqdy.S hM) tt_68 rfl ⟨?o4, ?o5⟩ dX10_areTwins_11 (fun x_2 ex_2 lx_2 ux_2 => ?_)
  case o4 => omega
  case o5 => omega
  have ax_2 : x_2 = df i2.toNatClampNeg := ex_2.trans (congrFun (hx_afS hM gqdy rfl af_qdy) _)
  refine lv_isub hx hb dX10_areTwins_12 ?_
  have rg_3 := i32_r x_1
  have rg_4 := i32_r x_2
  refine lv_topi (fun x_5 ex_5 => ?_)
  have hda : 0 ≤ x_1.toInt ∧ x_1.toInt ≤ 7999 := ?o6
  case o6 =>
    rw [ax_1]
    exact hd1
  have hdb : 0 ≤ x_2.toInt ∧ x_2.toInt ≤ 7999 := ?o7
  case o7 =>
    rw [ax_2]
    exact hd2
  have hdf : x_5.toInt = x_1.toInt - x_2.toInt := ?o8
  case o8 =>
    rw [ex_5]
    refine i32_sub rfl rfl ?o9 ?o10
    case o9 => omega
    case o10 => omega
  refine lv_istore_n (lv' := [(3, .int x_5), (0, .ref x), (1, .int i1), (2, .int i2)]) hx hb dX10_areTwins_13 rfl hl ?o11 rfl (fun ls hl => ?_)
  case o11 => decide
  refine lv_aload_n hx hb dX10_areTwins_14 rfl (lv_at hl 1 rfl) ?_
  refine hk_getr hx hb hts hC_10 hown hW (gx.S hM) tt_10 33 ?o12 rfl kw_1176 ⟨rfl, rfl, rfl⟩ ((hM.o gx trivial rfl).2.trans f_x_33) dX10_areTwins_15 ?_
  case o12 => decide
  refine lv_iload_n hx hb dX10_areTwins_18 rfl (lv_at hl 2 rfl) ?_
  refine hx_iald hx hb hW hT (gqkd.S hM) tt_69 rfl ⟨?o13, ?o14⟩ dX10_areTwins_19 (fun x_6 ex_6 lx_6 ux_6 => ?_)
  case o13 => omega
  case o14 => omega
  have ax_6 : x_6 = kf i1.toNatClampNeg := ex_6.trans (congrFun (hx_afS hM gqkd rfl af_qkd) _)
  refine lv_iconst (v := 1) hx hb dX10_areTwins_20 ?o15 ?_
  case o15 => decide
  refine lv_ixor hx hb dX10_areTwins_21 ?_
  refine lv_topi (fun x_7 ex_7 => ?_)
  refine lv_aload_n hx hb dX10_areTwins_22 rfl (lv_at hl 1 rfl) ?_
  refine hk_getr hx hb hts hC_10 hown hW (gx.S hM) tt_10 33 ?o16 rfl kw_1176 ⟨rfl, rfl, rfl⟩ ((hM.o gx trivial rfl).2.trans f_x_33) dX10_areTwins_23 ?_
  case o16 => decide
  refine lv_iload_n hx hb dX10_areTwins_26 rfl (lv_at hl 3 rfl) ?_
  refine hx_iald hx hb hW hT (gqkd.S hM) tt_69 rfl ⟨?o17, ?o18⟩ dX10_areTwins_27 (fun x_8 ex_8 lx_8 ux_8 => ?_)
  case o17 => omega
  case o18 => omega
  have ax_8 : x_8 = kf i2.toNatClampNeg := ex_8.trans (congrFun (hx_afS hM gqkd rfl af_qkd) _)
  refine hb_icmp_ne (zx := x_7.toInt) (zy := x_8.toInt) (tgt := 60) hx hb rfl rfl dX10_areTwins_28 ?o19 (fun c_9 => ?_) (fun c_9 => ?_)
  case o19 => decide
  · skip
    refine lv_iconst (v := 0) hx hb dX10_areTwins_60 ?o20 ?_
    case o20 => decide
    exact hx_retz hx hb hr rfl hlk hW ⟨(Or.inr ⟨by decide, by cases ez : hy_tw df kf sf i1.toNatClampNeg i2.toNatClampNeg with | false => rfl | true => exfalso; have hc := hy_tw_t.mp ez; first | (have h9 : x_7.toInt = x_8.toInt := congrArg Int32.toInt (ex_7.trans ((congrArg (fun z : Int32 => z ^^^ 1) ax_6).trans (hc.1.trans ax_8.symm))); omega) | (have h9 := hc.2.2; rw [← ax_1, ← ax_2] at h9; omega)⟩), hT, hM⟩ dX10_areTwins_61
  · skip
    refine lv_aload_n hx hb dX10_areTwins_31 rfl (lv_at hl 1 rfl) ?_
    refine hk_getr hx hb hts hC_10 hown hW (gx.S hM) tt_10 34 ?o21 rfl kw_1177 ⟨rfl, rfl, rfl⟩ ((hM.o gx trivial rfl).2.trans f_x_34) dX10_areTwins_32 ?_
    case o21 => decide
    refine lv_iload_n hx hb dX10_areTwins_35 rfl (lv_at hl 2 rfl) ?_
    refine hx_iald hx hb hW hT (gqsm.S hM) tt_70 rfl ⟨?o22, ?o23⟩ dX10_areTwins_36 (fun x_10 ex_10 lx_10 ux_10 => ?_)
    case o22 => omega
    case o23 => omega
    have ax_10 : x_10 = sf i1.toNatClampNeg := ex_10.trans (congrFun (hx_afS hM gqsm rfl af_qsm) _)
    refine lv_aload_n hx hb dX10_areTwins_37 rfl (lv_at hl 1 rfl) ?_
    refine hk_getr hx hb hts hC_10 hown hW (gx.S hM) tt_10 34 ?o24 rfl kw_1177 ⟨rfl, rfl, rfl⟩ ((hM.o gx trivial rfl).2.trans f_x_34) dX10_areTwins_38 ?_
    case o24 => decide
    refine lv_iload_n hx hb dX10_areTwins_41 rfl (lv_at hl 3 rfl) ?_
    refine hx_iald hx hb hW hT (gqsm.S hM) tt_70 rfl ⟨?o25, ?o26⟩ dX10_areTwins_42 (fun x_11 ex_11 lx_11 ux_11 => ?_)
    case o25 => omega
    case o26 => omega
    have ax_11 : x_11 = sf i2.toNatClampNeg := ex_11.trans (congrFun (hx_afS hM gqsm rfl af_qsm) _)
    refine hb_icmp_ne (zx := x_10.toInt) (zy := x_11.toInt) (tgt := 60) hx hb rfl rfl dX10_areTwins_43 ?o27 (fun c_12 => ?_) (fun c_12 => ?_)
    case o27 => decide
    · skip
      refine lv_iconst (v := 0) hx hb dX10_areTwins_60 ?o28 ?_
      case o28 => decide
      exact hx_retz hx hb hr rfl hlk hW ⟨(Or.inr ⟨by decide, by cases ez : hy_tw df kf sf i1.toNatClampNeg i2.toNatClampNeg with | false => rfl | true => exfalso; have hc := hy_tw_t.mp ez; first | (have h9 : x_7.toInt = x_8.toInt := congrArg Int32.toInt (ex_7.trans ((congrArg (fun z : Int32 => z ^^^ 1) ax_6).trans (hc.1.trans ax_8.symm))); omega) | (have h9 : x_10.toInt = x_11.toInt := congrArg Int32.toInt (ax_10.trans (hc.2.1.trans ax_11.symm)); omega) | (have h9 := hc.2.2; rw [← ax_1, ← ax_2] at h9; omega)⟩), hT, hM⟩ dX10_areTwins_61
    · skip
      refine lv_iload_n hx hb dX10_areTwins_46 rfl (lv_at hl 0 rfl) ?_
      refine lv_bipush (v := -3) hx hb dX10_areTwins_47 ?o29 ?_
      case o29 => decide
      refine lv_iconst (v := 3) hx hb dX10_areTwins_49 ?o30 ?_
      case o30 => decide
      have zc_3 : (3 : Int32).toInt = 3 := ?o31
      case o31 => decide
      have zc_m3 : (-3 : Int32).toInt = -3 := ?o32
      case o32 => decide
      refine hx_goi (hx_runS (As := [.int x_5, .int (-3 : Int32), .int (3 : Int32)]) (rest := []) ⟨hx, hb, hml, hown, hts⟩ hW (t_X10_in l dC dI dA L h s.heap.size x_5 (-3 : Int32) (3 : Int32) hT) (va_cwS 3 hts (hx_gS kw_1445 kw_1443 kw_1444 kw_103) rfl rfl rfl (by decide +kernel) ⟨Nat.le_of_ble_eq_true rfl, Nat.le_of_ble_eq_true rfl⟩) rfl hl.1 rfl (Nat.le_of_ble_eq_true rfl) dX10_areTwins_50 ⟨Nat.le_of_ble_eq_true rfl, Nat.le_of_ble_eq_true rfl⟩) hW (fun r_15 L_13 h_14 H locs p_16 hW => ?_)
      obtain ⟨hr_17, hT, hs⟩ := p_16
      replace hT : hx_T T_tb L_13 h_14 := hT
      replace hs : hx_S T_tb [] L h L_13 h_14 := hs
      replace ex_1 := ex_1.trans (hs.a (gqdy.S hM) rfl _).1.symm
      replace ex_2 := ex_2.trans (hs.a (gqdy.S hM) rfl _).1.symm
      replace ex_6 := ex_6.trans (hs.a (gqkd.S hM) rfl _).1.symm
      replace ex_8 := ex_8.trans (hs.a (gqkd.S hM) rfl _).1.symm
      replace ex_10 := ex_10.trans (hs.a (gqsm.S hM) rfl _).1.symm
      replace ex_11 := ex_11.trans (hs.a (gqsm.S hM) rfl _).1.symm
      replace hM := hM.tr (hs.mono ?o33)
      case o33 => decide
      refine hb_if_eq (zx := r_15.toInt) (tgt := 60) hx hb rfl dX10_areTwins_53 ?o34 (fun c_18 => ?_) (fun c_18 => ?_)
      case o34 => decide
      · skip
        replace hr_17 := hr_17.resolve_right (fun z9 => absurd (c_18.symm.trans z9.1) ?o35)
        case o35 => decide
        replace hr_17 := hr_17.2
        refine lv_iconst (v := 0) hx hb dX10_areTwins_60 ?o36 ?_
        case o36 => decide
        exact hx_retz hx hb hr rfl hlk hW ⟨(Or.inr ⟨by decide, by cases ez : hy_tw df kf sf i1.toNatClampNeg i2.toNatClampNeg with | false => rfl | true => exfalso; have hc := hy_tw_t.mp ez; first | (have h9 : x_7.toInt = x_8.toInt := congrArg Int32.toInt (ex_7.trans ((congrArg (fun z : Int32 => z ^^^ 1) ax_6).trans (hc.1.trans ax_8.symm))); omega) | (have h9 : x_10.toInt = x_11.toInt := congrArg Int32.toInt (ax_10.trans (hc.2.1.trans ax_11.symm)); omega) | (have h9 := hc.2.2; rw [← ax_1, ← ax_2] at h9; omega)⟩), hT, hM⟩ dX10_areTwins_61
      · skip
        replace hr_17 := hr_17.resolve_left (fun z9 => c_18 z9.1)
        replace c_18 := hr_17.1
        replace hr_17 := hr_17.2
        refine lv_iconst (v := 1) hx hb dX10_areTwins_56 ?o37 ?_
        case o37 => decide
        refine lv_goto (tgt := 61) hx hb dX10_areTwins_57 ?o38 ?_
        case o38 => decide
        refine hx_retz hx hb hr rfl hlk hW ⟨(Or.inl ⟨?o39, hy_tw_t.mpr ⟨((congrArg (fun z : Int32 => z ^^^ 1) ax_6).symm.trans (ex_7.symm.trans ((Int32.toInt_inj.mp ?o40).trans ax_8))), (ax_10.symm.trans ((Int32.toInt_inj.mp ?o41).trans ax_11)), (by rw [← ax_1, ← ax_2]; omega), (by rw [← ax_1, ← ax_2]; omega)⟩⟩), hT, hM⟩ dX10_areTwins_61
        case o39 => decide
        case o40 => omega
        case o41 => omega


set_option maxHeartbeats 4000000 in
set_option maxRecDepth 100000 in
theorem t_X10_alike_2 (l : Launch) (dC : Nat → ClassId) (dI : Nat → Nat → Nat) (dA : Nat → ClassId) (L : List Nat) (h : hx_h) (sz : Nat) (x : Nat) (i1 : Int32) (i2 : Int32) (i3 : Int32) (hT : hx_T T_tb L h) (gx : hx_g L h x 10) (qo : Nat) (gqo : hx_g L h qo 66) (f_x_30 : h.2.2 x 30 = some qo) (qwi : Nat) (gqwi : hx_g L h qwi 67) (f_x_31 : h.2.2 x 31 = some qwi) (qdy : Nat) (gqdy : hx_g L h qdy 68) (f_x_32 : h.2.2 x 32 = some qdy) (qkd : Nat) (gqkd : hx_g L h qkd 69) (f_x_33 : h.2.2 x 33 = some qkd) (qsm : Nat) (gqsm : hx_g L h qsm 70) (f_x_34 : h.2.2 x 34 = some qsm) (qtk : Nat) (gqtk : hx_g L h qtk 71) (f_x_35 : h.2.2 x 35 = some qtk) (of : Nat → Int32) (af_qo : h.2.1 qo = of) (wf : Nat → Int32) (af_qwi : h.2.1 qwi = wf) (df : Nat → Int32) (af_qdy : h.2.1 qdy = df) (kf : Nat → Int32) (af_qkd : h.2.1 qkd = kf) (sf : Nat → Int32) (af_qsm : h.2.1 qsm = sf) (tf : Nat → Int32) (af_qtk : h.2.1 qtk = tf) (ln0 : Int32) (f_x_29 : h.2.1 x 29 = ln0) (bf : Nat → Int32) (hBD : hy_BD df bf ln0.toInt.toNat) (hDY : hy_DY df ln0.toInt.toNat) (hi3 : 0 ≤ i3.toInt ∧ i3.toInt ≤ 7999) : Met l yX10_alike (Cond.code yX10_alike cX10_alike 9 (some .int) :: hx_all) ({ frames := 2, cells := 0, slots := 0, locals := 45 }) (va_Pc [.ref x, .int i1, .int i2, .int i3] (hx_B T_tb (P_ty dA) (dC, dI) vwCl L h sz)) (va_Qi (fun (r : Int32) (u : List Nat × hx_h) => (r.toInt = (hy_G of wf df kf sf bf i1 i2 i3 ln0.toInt.toNat ln0.toInt.toNat).2) ∧ hx_T T_tb u.1 u.2 ∧ hx_S T_tb [(71, 0)] L h u.1 u.2) (hx_E T_tb (P_ty dA) (dC, dI) vwCl (hx_A L sz)) (hx_A L sz)) 0 0 (hx_A L sz) := by
  refine hx_met (lv := [(0, .ref x), (1, .int i1), (2, .int i2), (3, .int i3)]) (by decide +kernel) rfl (Nat.le_of_ble_eq_true rfl) rfl ?_
  intro p e s m below meth c hx hb hml hr hlk hts0 hown hin hsz hW ls hl
  have hts : ∀ w ∈ hx_all, w.before _ s = true := fun w hw => hts0 w (List.mem_cons_of_mem _ hw)
  have hown : s.vm.findClass "SmallCourtModel" = some m.cls := hown
  have hM : hx_S T_tb [(71, 0)] L h L h := hx_S.rf
  have b_ln0 := hT.gi gx tt_10 (k := 29) rfl
  rw [f_x_29] at b_ln0
  have b_ln0 : 0 ≤ ln0.toInt ∧ ln0.toInt ≤ 400 := b_ln0
  refine lv_iconst (v := 0) hx hb dX10_alike_0 ?o0 ?_
  case o0 => decide
  refine lv_istore (lv' := [(4, .int (0 : Int32)), (0, .ref x), (1, .int i1), (2, .int i2), (3, .int i3)]) hx hb dX10_alike_1 hl ?o1 rfl (fun ls hl => ?_)
  case o1 => decide
  have loop3 : ∀ (n3 : Nat) (iv3_4 : Int32) (ia3_qtk : Nat → Int32) (H : Heap) (locs : List Loc) (hL1 : List Nat) (hl1 : hx_h), 0 ≤ iv3_4.toInt → iv3_4.toInt ≤ 400 → (iv3_4.toInt ≤ ln0.toInt) → (∀ j : Nat, (j : Int) < iv3_4.toInt → ia3_qtk j = 0) → ∀ (ls : Array Slot), 400 - iv3_4.toInt < (n3 : Int) → hx_W T_tb (P_ty dA) (dC, dI) vwCl (hx_A L sz) s.heap hL1 hl1 s H locs → hx_T T_tb hL1 hl1 → hx_S T_tb [(71, 0)] L h hL1 hl1 → hl1.2.1 qtk = ia3_qtk → lv_has ls 9 [(4, .int iv3_4), (0, .ref x), (1, .int i1), (2, .int i2), (3, .int i3)] → W p l e ({ frames := 2, cells := 0, slots := 0, locals := 45 }) s m ([.ref x, .int i1, .int i2, .int i3] : List Value).toArray below meth c H locs 0 0 (MQ below (va_Qi (fun (r : Int32) (u : List Nat × hx_h) => (r.toInt = (hy_G of wf df kf sf bf i1 i2 i3 ln0.toInt.toNat ln0.toInt.toNat).2) ∧ hx_T T_tb u.1 u.2 ∧ hx_S T_tb [(71, 0)] L h u.1 u.2) (hx_E T_tb (P_ty dA) (dC, dI) vwCl (hx_A L sz)) (hx_A L sz)) ([.ref x, .int i1, .int i2, .int i3] : List Value).toArray s 0 0 (hx_A L sz)) (F0 m 3 ls []) := by
    intro n3
    induction n3 with
    | zero => intro iv3_4 ia3_qtk H locs hL1 hl1 bliv3_4 buiv3_4 vi3_0 vi3_1 ls hn3; exfalso; omega
    | succ n3 ih3 =>
      intro iv3_4 ia3_qtk H locs hL1 hl1 bliv3_4 buiv3_4 vi3_0 vi3_1 ls hn3 hW hT hM  nia3_qtk hl
      refine lv_iload hx hb dX10_alike_3 (lv_at hl 0 rfl) ?_
      refine lv_aload_n hx hb dX10_alike_5 rfl (lv_at hl 1 rfl) ?_
      refine hk_geti hx hb hts hC_10 hown hW (gx.S hM) tt_10 29 ?o2 rfl kw_1172 ⟨rfl, rfl, rfl⟩ ((hM.o gx trivial rfl).1.trans f_x_29) dX10_alike_6 ?_
      case o2 => decide
      refine hb_icmp_ge (zx := iv3_4.toInt) (zy := ln0.toInt) (tgt := 26) hx hb rfl rfl dX10_alike_9 ?o3 (fun c_1 => ?_) (fun c_1 => ?_)
      case o3 => decide
      · skip
        refine lv_iconst (v := 0) hx hb dX10_alike_26 ?o4 ?_
        case o4 => decide
        refine lv_istore (lv' := [(4, .int (0 : Int32)), (0, .ref x), (1, .int i1), (2, .int i2), (3, .int i3)]) hx hb dX10_alike_27 hl ?o5 rfl (fun ls hl => ?_)
        case o5 => decide
        refine lv_iconst (v := 0) hx hb dX10_alike_29 ?o6 ?_
        case o6 => decide
        refine lv_istore (lv' := [(5, .int (0 : Int32)), (4, .int (0 : Int32)), (0, .ref x), (1, .int i1), (2, .int i2), (3, .int i3)]) hx hb dX10_alike_30 hl ?o7 rfl (fun ls hl => ?_)
        case o7 => decide
        have loop32 : ∀ (n32 : Nat) (iv32_4 iv32_5 : Int32) (ia32_qtk : Nat → Int32) (H : Heap) (locs : List Loc) (hL1 : List Nat) (hl1 : hx_h), 0 ≤ iv32_4.toInt → iv32_4.toInt ≤ 400 → 0 ≤ iv32_5.toInt → iv32_5.toInt ≤ 8000 → (iv32_5.toInt ≤ i3.toInt + 1) → (hx_eqN ln0.toInt.toNat ia32_qtk (hy_G of wf df kf sf bf i1 i2 i3 ln0.toInt.toNat (hy_rd df ln0.toInt.toNat iv32_5.toInt 0)).1 ∧ iv32_4.toInt = (hy_G of wf df kf sf bf i1 i2 i3 ln0.toInt.toNat (hy_rd df ln0.toInt.toNat iv32_5.toInt 0)).2) → ∀ (ls : Array Slot), 8000 - iv32_5.toInt < (n32 : Int) → hx_W T_tb (P_ty dA) (dC, dI) vwCl (hx_A L sz) s.heap hL1 hl1 s H locs → hx_T T_tb hL1 hl1 → hx_S T_tb [(71, 0)] L h hL1 hl1 → hl1.2.1 qtk = ia32_qtk → lv_has ls 9 [(5, .int iv32_5), (4, .int iv32_4), (0, .ref x), (1, .int i1), (2, .int i2), (3, .int i3)] → W p l e ({ frames := 2, cells := 0, slots := 0, locals := 45 }) s m ([.ref x, .int i1, .int i2, .int i3] : List Value).toArray below meth c H locs 0 0 (MQ below (va_Qi (fun (r : Int32) (u : List Nat × hx_h) => (r.toInt = (hy_G of wf df kf sf bf i1 i2 i3 ln0.toInt.toNat ln0.toInt.toNat).2) ∧ hx_T T_tb u.1 u.2 ∧ hx_S T_tb [(71, 0)] L h u.1 u.2) (hx_E T_tb (P_ty dA) (dC, dI) vwCl (hx_A L sz)) (hx_A L sz)) ([.ref x, .int i1, .int i2, .int i3] : List Value).toArray s 0 0 (hx_A L sz)) (F0 m 32 ls []) := by
          intro n32
          induction n32 with
          | zero => intro iv32_4 iv32_5 ia32_qtk H locs hL1 hl1 bliv32_4 buiv32_4 bliv32_5 buiv32_5 vi32_0 vi32_1 ls hn32; exfalso; omega
          | succ n32 ih32 =>
            intro iv32_4 iv32_5 ia32_qtk H locs hL1 hl1 bliv32_4 buiv32_4 bliv32_5 buiv32_5 vi32_0 vi32_1 ls hn32 hW hT hM  nia32_qtk hl
            refine lv_iload hx hb dX10_alike_32 (lv_at hl 0 rfl) ?_
            refine lv_iload_n hx hb dX10_alike_34 rfl (lv_at hl 5 rfl) ?_
            refine hb_icmp_gt (zx := iv32_5.toInt) (zy := i3.toInt) (tgt := 222) hx hb rfl rfl dX10_alike_35 ?o8 (fun c_2 => ?_) (fun c_2 => ?_)
            case o8 => decide
            · skip
              refine lv_iload hx hb dX10_alike_222 (lv_at hl 1 rfl) ?_
              exact hx_reti hx hb hr hlk hW ⟨(by have e9 : iv32_5.toInt = i3.toInt + 1 := (by omega); rw [hy_G_all hBD e9]; exact vi32_1.2), hT, hM⟩ dX10_alike_224
            · skip
              refine lv_iconst (v := 0) hx hb dX10_alike_38 ?o9 ?_
              case o9 => decide
              refine lv_istore (lv' := [(6, .int (0 : Int32)), (5, .int iv32_5), (4, .int iv32_4), (0, .ref x), (1, .int i1), (2, .int i2), (3, .int i3)]) hx hb dX10_alike_39 hl ?o10 rfl (fun ls hl => ?_)
              case o10 => decide
              have loop41 : ∀ (n41 : Nat) (iv41_4 iv41_6 : Int32) (ia41_qtk : Nat → Int32) (H : Heap) (locs : List Loc) (hL1 : List Nat) (hl1 : hx_h), 0 ≤ iv41_4.toInt → iv41_4.toInt ≤ 400 → 0 ≤ iv41_6.toInt → iv41_6.toInt ≤ 400 → (iv41_6.toInt ≤ ln0.toInt) → (hx_eqN ln0.toInt.toNat ia41_qtk (hy_G of wf df kf sf bf i1 i2 i3 ln0.toInt.toNat (hy_rd df ln0.toInt.toNat iv32_5.toInt (iv41_6.toInt).toNat)).1 ∧ iv41_4.toInt = (hy_G of wf df kf sf bf i1 i2 i3 ln0.toInt.toNat (hy_rd df ln0.toInt.toNat iv32_5.toInt (iv41_6.toInt).toNat)).2) → ∀ (ls : Array Slot), 400 - iv41_6.toInt < (n41 : Int) → hx_W T_tb (P_ty dA) (dC, dI) vwCl (hx_A L sz) s.heap hL1 hl1 s H locs → hx_T T_tb hL1 hl1 → hx_S T_tb [(71, 0)] L h hL1 hl1 → hl1.2.1 qtk = ia41_qtk → lv_has ls 9 [(6, .int iv41_6), (5, .int iv32_5), (4, .int iv41_4), (0, .ref x), (1, .int i1), (2, .int i2), (3, .int i3)] → W p l e ({ frames := 2, cells := 0, slots := 0, locals := 45 }) s m ([.ref x, .int i1, .int i2, .int i3] : List Value).toArray below meth c H locs 0 0 (MQ below (va_Qi (fun (r : Int32) (u : List Nat × hx_h) => (r.toInt = (hy_G of wf df kf sf bf i1 i2 i3 ln0.toInt.toNat ln0.toInt.toNat).2) ∧ hx_T T_tb u.1 u.2 ∧ hx_S T_tb [(71, 0)] L h u.1 u.2) (hx_E T_tb (P_ty dA) (dC, dI) vwCl (hx_A L sz)) (hx_A L sz)) ([.ref x, .int i1, .int i2, .int i3] : List Value).toArray s 0 0 (hx_A L sz)) (F0 m 41 ls []) := by
                intro n41
                induction n41 with
                | zero => intro iv41_4 iv41_6 ia41_qtk H locs hL1 hl1 bliv41_4 buiv41_4 bliv41_6 buiv41_6 vi41_0 vi41_1 ls hn41; exfalso; omega
                | succ n41 ih41 =>
                  intro iv41_4 iv41_6 ia41_qtk H locs hL1 hl1 bliv41_4 buiv41_4 bliv41_6 buiv41_6 vi41_0 vi41_1 ls hn41 hW hT hM  nia41_qtk hl
                  refine lv_iload hx hb dX10_alike_41 (lv_at hl 0 rfl) ?_
                  refine lv_aload_n hx hb dX10_alike_43 rfl (lv_at hl 3 rfl) ?_
                  refine hk_geti hx hb hts hC_10 hown hW (gx.S hM) tt_10 29 ?o11 rfl kw_1172 ⟨rfl, rfl, rfl⟩ ((hM.o gx trivial rfl).1.trans f_x_29) dX10_alike_44 ?_
                  case o11 => decide
                  refine hb_icmp_ge (zx := iv41_6.toInt) (zy := ln0.toInt) (tgt := 216) hx hb rfl rfl dX10_alike_47 ?o12 (fun c_3 => ?_) (fun c_3 => ?_)
                  case o12 => decide
                  · skip
                    obtain ⟨x_4, ex_4⟩ : ∃ y : Int32, y = iv32_5 + Int32.ofInt 1 := ⟨_, rfl⟩
                    have rg_5 := i32_r iv32_5
                    have zx_4 : x_4.toInt = iv32_5.toInt + (1) := ?o13
                    case o13 =>
                      rw [ex_4]
                      refine i32_add rfl ?o14 ?o15 ?o16
                      case o14 => decide
                      case o15 => omega
                      case o16 => omega
                    refine lv_iinc (v := x_4) (lv' := [(5, .int x_4), (6, .int iv41_6), (4, .int iv41_4), (0, .ref x), (1, .int i1), (2, .int i2), (3, .int i3)]) hx hb dX10_alike_216 hl (k := 1) rfl ex_4.symm ?o17 rfl (fun ls hl => ?_)
                    case o17 => decide
                    refine lv_goto (tgt := 32) hx hb dX10_alike_219 ?o18 ?_
                    case o18 => decide
                    refine ih32 iv41_4 x_4 ia41_qtk _ _ hL1 hl1 ?o19 ?o20 ?o21 ?o22 ?o23 (by have e9 : iv41_6.toInt.toNat = ln0.toInt.toNat := (by omega); have h9 := vi41_1; rw [e9, hy_rd_e zx_4] at h9; exact h9) ls ?o24 hW hT hM  nia41_qtk (lv_sub hl [0, 2, 3, 4, 5, 6] rfl)
                    case o19 => omega
                    case o20 => omega
                    case o21 => omega
                    case o22 => omega
                    case o23 => omega
                    case o24 => omega
                  · skip
                    refine lv_aload_n hx hb dX10_alike_50 rfl (lv_at hl 3 rfl) ?_
                    refine hk_getr hx hb hts hC_10 hown hW (gx.S hM) tt_10 32 ?o25 rfl kw_1175 ⟨rfl, rfl, rfl⟩ ((hM.o gx trivial rfl).2.trans f_x_32) dX10_alike_51 ?_
                    case o25 => decide
                    refine lv_iload hx hb dX10_alike_54 (lv_at hl 0 rfl) ?_
                    refine hx_iald hx hb hW hT (gqdy.S hM) tt_68 rfl ⟨?o26, ?o27⟩ dX10_alike_56 (fun x_6 ex_6 lx_6 ux_6 => ?_)
                    case o26 => omega
                    case o27 => omega
                    have ax_6 : x_6 = df iv41_6.toNatClampNeg := ex_6.trans (congrFun (hx_afS hM gqdy rfl af_qdy) _)
                    refine lv_iload hx hb dX10_alike_57 (lv_at hl 1 rfl) ?_
                    refine hb_icmp_ne (zx := x_6.toInt) (zy := iv32_5.toInt) (tgt := 210) hx hb rfl rfl dX10_alike_59 ?o28 (fun c_7 => ?_) (fun c_7 => ?_)
                    case o28 => decide
                    · skip
                      obtain ⟨x_8, ex_8⟩ : ∃ y : Int32, y = iv41_6 + Int32.ofInt 1 := ⟨_, rfl⟩
                      have rg_9 := i32_r iv41_6
                      have zx_8 : x_8.toInt = iv41_6.toInt + (1) := ?o29
                      case o29 =>
                        rw [ex_8]
                        refine i32_add rfl ?o30 ?o31 ?o32
                        case o30 => decide
                        case o31 => omega
                        case o32 => omega
                      refine lv_iinc (v := x_8) (lv' := [(6, .int x_8), (5, .int iv32_5), (4, .int iv41_4), (0, .ref x), (1, .int i1), (2, .int i2), (3, .int i3)]) hx hb dX10_alike_210 hl (k := 0) rfl ex_8.symm ?o33 rfl (fun ls hl => ?_)
                      case o33 => decide
                      refine lv_goto (tgt := 41) hx hb dX10_alike_213 ?o34 ?_
                      case o34 => decide
                      refine ih41 iv41_4 x_8 ia41_qtk _ _ hL1 hl1 ?o35 ?o36 ?o37 ?o38 ?o39 (by rw [show x_8.toInt.toNat = iv41_6.toInt.toNat + 1 from by omega, hy_rd_n (by show (df iv41_6.toNatClampNeg).toInt ≠ _; rw [← ax_6]; omega)]; exact vi41_1) ls ?o40 hW hT hM  nia41_qtk (lv_sub hl [0, 1, 2, 3, 4, 5, 6] rfl)
                      case o35 => omega
                      case o36 => omega
                      case o37 => omega
                      case o38 => omega
                      case o39 => omega
                      case o40 => omega
                    · skip
                      refine lv_aload_n hx hb dX10_alike_62 rfl (lv_at hl 3 rfl) ?_
                      refine hk_getr hx hb hts hC_10 hown hW (gx.S hM) tt_10 30 ?o41 rfl kw_1173 ⟨rfl, rfl, rfl⟩ ((hM.o gx trivial rfl).2.trans f_x_30) dX10_alike_63 ?_
                      case o41 => decide
                      refine lv_iload hx hb dX10_alike_66 (lv_at hl 0 rfl) ?_
                      refine hx_iald hx hb hW hT (gqo.S hM) tt_66 rfl ⟨?o42, ?o43⟩ dX10_alike_68 (fun x_10 ex_10 lx_10 ux_10 => ?_)
                      case o42 => omega
                      case o43 => omega
                      have ax_10 : x_10 = of iv41_6.toNatClampNeg := ex_10.trans (congrFun (hx_afS hM gqo rfl af_qo) _)
                      refine lv_iload_n hx hb dX10_alike_69 rfl (lv_at hl 4 rfl) ?_
                      refine hb_icmp_ne (zx := x_10.toInt) (zy := i1.toInt) (tgt := 210) hx hb rfl rfl dX10_alike_70 ?o44 (fun c_11 => ?_) (fun c_11 => ?_)
                      case o44 => decide
                      · skip
                        obtain ⟨x_12, ex_12⟩ : ∃ y : Int32, y = iv41_6 + Int32.ofInt 1 := ⟨_, rfl⟩
                        have rg_13 := i32_r iv41_6
                        have zx_12 : x_12.toInt = iv41_6.toInt + (1) := ?o45
                        case o45 =>
                          rw [ex_12]
                          refine i32_add rfl ?o46 ?o47 ?o48
                          case o46 => decide
                          case o47 => omega
                          case o48 => omega
                        refine lv_iinc (v := x_12) (lv' := [(6, .int x_12), (5, .int iv32_5), (4, .int iv41_4), (0, .ref x), (1, .int i1), (2, .int i2), (3, .int i3)]) hx hb dX10_alike_210 hl (k := 0) rfl ex_12.symm ?o49 rfl (fun ls hl => ?_)
                        case o49 => decide
                        refine lv_goto (tgt := 41) hx hb dX10_alike_213 ?o50 ?_
                        case o50 => decide
                        refine ih41 iv41_4 x_12 ia41_qtk _ _ hL1 hl1 ?o51 ?o52 ?o53 ?o54 ?o55 (by have hD : (df iv41_6.toInt.toNat).toInt = iv32_5.toInt := (by show (df iv41_6.toNatClampNeg).toInt = _; rw [← ax_6]; omega); have hRX := hy_rd_x hBD (by omega : iv41_6.toInt.toNat < ln0.toInt.toNat) hD; have hRn : (bf (hy_rd df ln0.toInt.toNat iv32_5.toInt iv41_6.toInt.toNat)).toInt.toNat = iv41_6.toInt.toNat := (by rw [hRX.1]; rfl); rw [show x_12.toInt.toNat = iv41_6.toInt.toNat + 1 from by omega, hy_rd_y (by omega) hD, hy_G_n (by rw [hRn]; exact hy_ln_f (fun hc => by have h9 := congrArg Int32.toInt (ax_10.trans hc.1); omega))]; exact vi41_1) ls ?o56 hW hT hM  nia41_qtk (lv_sub hl [0, 1, 2, 3, 4, 5, 6] rfl)
                        case o51 => omega
                        case o52 => omega
                        case o53 => omega
                        case o54 => omega
                        case o55 => omega
                        case o56 => omega
                      · skip
                        refine lv_aload_n hx hb dX10_alike_73 rfl (lv_at hl 3 rfl) ?_
                        refine hk_getr hx hb hts hC_10 hown hW (gx.S hM) tt_10 31 ?o57 rfl kw_1174 ⟨rfl, rfl, rfl⟩ ((hM.o gx trivial rfl).2.trans f_x_31) dX10_alike_74 ?_
                        case o57 => decide
                        refine lv_iload hx hb dX10_alike_77 (lv_at hl 0 rfl) ?_
                        refine hx_iald hx hb hW hT (gqwi.S hM) tt_67 rfl ⟨?o58, ?o59⟩ dX10_alike_79 (fun x_14 ex_14 lx_14 ux_14 => ?_)
                        case o58 => omega
                        case o59 => omega
                        have ax_14 : x_14 = wf iv41_6.toNatClampNeg := ex_14.trans (congrFun (hx_afS hM gqwi rfl af_qwi) _)
                        refine lv_iload_n hx hb dX10_alike_80 rfl (lv_at hl 5 rfl) ?_
                        refine hb_icmp_eq (zx := x_14.toInt) (zy := i2.toInt) (tgt := 87) hx hb rfl rfl dX10_alike_81 ?o60 (fun c_15 => ?_) (fun c_15 => ?_)
                        case o60 => decide
                        · skip
                          refine lv_iconst (v := -1) hx hb dX10_alike_87 ?o61 ?_
                          case o61 => decide
                          refine lv_istore (lv' := [(7, .int (-1 : Int32)), (6, .int iv41_6), (5, .int iv32_5), (4, .int iv41_4), (0, .ref x), (1, .int i1), (2, .int i2), (3, .int i3)]) hx hb dX10_alike_88 hl ?o62 rfl (fun ls hl => ?_)
                          case o62 => decide
                          refine lv_iconst (v := 0) hx hb dX10_alike_90 ?o63 ?_
                          case o63 => decide
                          refine lv_istore (lv' := [(8, .int (0 : Int32)), (7, .int (-1 : Int32)), (6, .int iv41_6), (5, .int iv32_5), (4, .int iv41_4), (0, .ref x), (1, .int i1), (2, .int i2), (3, .int i3)]) hx hb dX10_alike_91 hl ?o64 rfl (fun ls hl => ?_)
                          case o64 => decide
                          have loop93 : ∀ (n93 : Nat) (iv93_7 iv93_8 : Int32) (H : Heap) (locs : List Loc) (hL1 : List Nat) (hl1 : hx_h), -1 ≤ iv93_7.toInt → iv93_7.toInt ≤ 399 → 0 ≤ iv93_8.toInt → iv93_8.toInt ≤ 400 → (iv93_7.toInt = hy_am (hy_tp of wf df kf sf ia41_qtk i1 i2 i3 iv41_6.toInt.toNat) df (iv93_8.toInt).toNat) → (iv93_8.toInt ≤ ln0.toInt) → ∀ (ls : Array Slot), 400 - iv93_8.toInt < (n93 : Int) → hx_W T_tb (P_ty dA) (dC, dI) vwCl (hx_A L sz) s.heap hL1 hl1 s H locs → hx_T T_tb hL1 hl1 → hx_S T_tb [(71, 0)] L h hL1 hl1 → hl1.2.1 qtk = ia41_qtk → lv_has ls 9 [(8, .int iv93_8), (7, .int iv93_7), (6, .int iv41_6), (5, .int iv32_5), (4, .int iv41_4), (0, .ref x), (1, .int i1), (2, .int i2), (3, .int i3)] → W p l e ({ frames := 2, cells := 0, slots := 0, locals := 45 }) s m ([.ref x, .int i1, .int i2, .int i3] : List Value).toArray below meth c H locs 0 0 (MQ below (va_Qi (fun (r : Int32) (u : List Nat × hx_h) => (r.toInt = (hy_G of wf df kf sf bf i1 i2 i3 ln0.toInt.toNat ln0.toInt.toNat).2) ∧ hx_T T_tb u.1 u.2 ∧ hx_S T_tb [(71, 0)] L h u.1 u.2) (hx_E T_tb (P_ty dA) (dC, dI) vwCl (hx_A L sz)) (hx_A L sz)) ([.ref x, .int i1, .int i2, .int i3] : List Value).toArray s 0 0 (hx_A L sz)) (F0 m 93 ls []) := by
                            intro n93
                            induction n93 with
                            | zero => intro iv93_7 iv93_8 H locs hL1 hl1 bliv93_7 buiv93_7 bliv93_8 buiv93_8 vi93_0 vi93_1 ls hn93; exfalso; omega
                            | succ n93 ih93 =>
                              intro iv93_7 iv93_8 H locs hL1 hl1 bliv93_7 buiv93_7 bliv93_8 buiv93_8 vi93_0 vi93_1 ls hn93 hW hT hM  nia41_qtk hl
                              refine lv_iload hx hb dX10_alike_93 (lv_at hl 0 rfl) ?_
                              refine lv_aload_n hx hb dX10_alike_95 rfl (lv_at hl 5 rfl) ?_
                              refine hk_geti hx hb hts hC_10 hown hW (gx.S hM) tt_10 29 ?o65 rfl kw_1172 ⟨rfl, rfl, rfl⟩ ((hM.o gx trivial rfl).1.trans f_x_29) dX10_alike_96 ?_
                              case o65 => decide
                              refine hb_icmp_ge (zx := iv93_8.toInt) (zy := ln0.toInt) (tgt := 191) hx hb rfl rfl dX10_alike_99 ?o66 (fun c_16 => ?_) (fun c_16 => ?_)
                              case o66 => decide
                              · skip
                                have hAm : iv93_7.toInt = hy_am (hy_tp of wf df kf sf ia41_qtk i1 i2 i3 iv41_6.toInt.toNat) df ln0.toInt.toNat := ?o67
                                case o67 =>
                                  have e9 : iv93_8.toInt = ln0.toInt := ?o68
                                  case o68 => omega
                                  have h9 := vi93_0
                                  rw [e9] at h9
                                  exact h9
                                refine lv_iload hx hb dX10_alike_191 (lv_at hl 1 rfl) ?_
                                refine hb_if_ge (zx := iv93_7.toInt) (tgt := 199) hx hb rfl dX10_alike_193 ?o69 (fun c_17 => ?_) (fun c_17 => ?_)
                                case o69 => decide
                                · skip
                                  have hcb : iv41_4.toInt ≤ ((hy_rd df ln0.toInt.toNat iv32_5.toInt iv41_6.toInt.toNat) : Int) := ?o70
                                  case o70 =>
                                    rw [vi41_1.2]
                                    exact (hy_G_b _).2
                                  have hrx := (hy_rd_x hBD (by omega : iv41_6.toInt.toNat < ln0.toInt.toNat) (D := iv32_5.toInt) (by show (df iv41_6.toNatClampNeg).toInt = _; rw [← ax_6]; omega)).2
                                  refine lv_aload_n hx hb dX10_alike_199 rfl (lv_at hl 5 rfl) ?_
                                  refine hk_getr hx hb hts hC_10 hown hW (gx.S hM) tt_10 35 ?o71 rfl kw_1178 ⟨rfl, rfl, rfl⟩ ((hM.o gx trivial rfl).2.trans f_x_35) dX10_alike_200 ?_
                                  case o71 => decide
                                  refine lv_iload hx hb dX10_alike_203 (lv_at hl 1 rfl) ?_
                                  refine lv_iconst (v := 1) hx hb dX10_alike_205 ?o72 ?_
                                  case o72 => decide
                                  have nia41_qtkO := nia41_qtk
                                  refine hx_zast hx hb hW hT (hx_S.rf (M := [(71, 0)])) (gqtk.S hM) tt_71 rfl ⟨?o73, ?o74⟩ (y := 1) ?o75 ?o76 (List.mem_singleton.mpr rfl) dX10_alike_206 (fun H locs h_18 eh_18 hW hT hs => ?_)
                                  case o73 => omega
                                  case o74 => omega
                                  case o75 => decide
                                  case o76 => decide
                                  replace hM := hM.tr (hs.mono ?o77)
                                  case o77 => decide
                                  obtain ⟨fa_19, dfa_19⟩ : ∃ g : Nat → Int32, g = hx_up ia41_qtk iv93_7.toNatClampNeg (1 : Int32) := ⟨_, rfl⟩
                                  have nfa_19 : h_18.2.1 qtk = fa_19 := ?o78
                                  case o78 =>
                                    rw [eh_18, dfa_19, ← nia41_qtkO]
                                    exact hx_pi_fun _ _ _ _
                                  obtain ⟨x_20, ex_20⟩ : ∃ y : Int32, y = iv41_4 + Int32.ofInt 1 := ⟨_, rfl⟩
                                  have rg_21 := i32_r iv41_4
                                  have zx_20 : x_20.toInt = iv41_4.toInt + (1) := ?o79
                                  case o79 =>
                                    rw [ex_20]
                                    refine i32_add rfl ?o80 ?o81 ?o82
                                    case o80 => decide
                                    case o81 => omega
                                    case o82 => omega
                                  refine lv_iinc (v := x_20) (lv' := [(4, .int x_20), (8, .int iv93_8), (7, .int iv93_7), (6, .int iv41_6), (5, .int iv32_5), (0, .ref x), (1, .int i1), (2, .int i2), (3, .int i3)]) hx hb dX10_alike_207 hl (k := 4) rfl ex_20.symm ?o83 rfl (fun ls hl => ?_)
                                  case o83 => decide
                                  obtain ⟨x_22, ex_22⟩ : ∃ y : Int32, y = iv41_6 + Int32.ofInt 1 := ⟨_, rfl⟩
                                  have rg_23 := i32_r iv41_6
                                  have zx_22 : x_22.toInt = iv41_6.toInt + (1) := ?o84
                                  case o84 =>
                                    rw [ex_22]
                                    refine i32_add rfl ?o85 ?o86 ?o87
                                    case o85 => decide
                                    case o86 => omega
                                    case o87 => omega
                                  refine lv_iinc (v := x_22) (lv' := [(6, .int x_22), (4, .int x_20), (8, .int iv93_8), (7, .int iv93_7), (5, .int iv32_5), (0, .ref x), (1, .int i1), (2, .int i2), (3, .int i3)]) hx hb dX10_alike_210 hl (k := 3) rfl ex_22.symm ?o88 rfl (fun ls hl => ?_)
                                  case o88 => decide
                                  refine lv_goto (tgt := 41) hx hb dX10_alike_213 ?o89 ?_
                                  case o89 => decide
                                  exact ih41 x_20 x_22 fa_19 _ _ hL1 h_18 (by omega) (by omega) (by omega) (by omega) (by omega) (by have hD : (df iv41_6.toInt.toNat).toInt = iv32_5.toInt := (by show (df iv41_6.toNatClampNeg).toInt = _; rw [← ax_6]; omega); have hRX := hy_rd_x hBD (by omega : iv41_6.toInt.toNat < ln0.toInt.toNat) hD; have hRn : (bf (hy_rd df ln0.toInt.toNat iv32_5.toInt iv41_6.toInt.toNat)).toInt.toNat = iv41_6.toInt.toNat := (by rw [hRX.1]; rfl); rw [show x_22.toInt.toNat = iv41_6.toInt.toNat + 1 from by omega, hy_rd_y (by omega) hD]; exact hy_st_y (A := iv93_7.toInt) hBD hRX.2 vi41_1.1 vi41_1.2 (by rw [hRn]; exact hy_ln_t.mpr ⟨(ax_10.symm.trans (Int32.toInt_inj.mp (by omega))), (ax_14.symm.trans (Int32.toInt_inj.mp (by omega))), by first | omega | (rw [hD]; omega)⟩) (by rw [hRn]; exact hAm) (Or.inr ⟨by omega, dfa_19, by omega⟩)) ls (by omega) hW hT hM  nfa_19 (lv_sub hl [0, 4, 1, 5, 6, 7, 8] rfl)
                                · skip
                                  refine lv_goto (tgt := 210) hx hb dX10_alike_196 ?o90 ?_
                                  case o90 => decide
                                  obtain ⟨x_24, ex_24⟩ : ∃ y : Int32, y = iv41_6 + Int32.ofInt 1 := ⟨_, rfl⟩
                                  have rg_25 := i32_r iv41_6
                                  have zx_24 : x_24.toInt = iv41_6.toInt + (1) := ?o91
                                  case o91 =>
                                    rw [ex_24]
                                    refine i32_add rfl ?o92 ?o93 ?o94
                                    case o92 => decide
                                    case o93 => omega
                                    case o94 => omega
                                  refine lv_iinc (v := x_24) (lv' := [(6, .int x_24), (8, .int iv93_8), (7, .int iv93_7), (5, .int iv32_5), (4, .int iv41_4), (0, .ref x), (1, .int i1), (2, .int i2), (3, .int i3)]) hx hb dX10_alike_210 hl (k := 2) rfl ex_24.symm ?o95 rfl (fun ls hl => ?_)
                                  case o95 => decide
                                  refine lv_goto (tgt := 41) hx hb dX10_alike_213 ?o96 ?_
                                  case o96 => decide
                                  exact ih41 iv41_4 x_24 ia41_qtk _ _ hL1 hl1 (by omega) (by omega) (by omega) (by omega) (by omega) (by have hD : (df iv41_6.toInt.toNat).toInt = iv32_5.toInt := (by show (df iv41_6.toNatClampNeg).toInt = _; rw [← ax_6]; omega); have hRX := hy_rd_x hBD (by omega : iv41_6.toInt.toNat < ln0.toInt.toNat) hD; have hRn : (bf (hy_rd df ln0.toInt.toNat iv32_5.toInt iv41_6.toInt.toNat)).toInt.toNat = iv41_6.toInt.toNat := (by rw [hRX.1]; rfl); rw [show x_24.toInt.toNat = iv41_6.toInt.toNat + 1 from by omega, hy_rd_y (by omega) hD]; exact hy_st_y (A := iv93_7.toInt) hBD hRX.2 vi41_1.1 vi41_1.2 (by rw [hRn]; exact hy_ln_t.mpr ⟨(ax_10.symm.trans (Int32.toInt_inj.mp (by omega))), (ax_14.symm.trans (Int32.toInt_inj.mp (by omega))), by first | omega | (rw [hD]; omega)⟩) (by rw [hRn]; exact hAm) (Or.inl ⟨by omega, rfl, rfl⟩)) ls (by omega) hW hT hM  nia41_qtk (lv_sub hl [0, 3, 4, 5, 6, 7, 8] rfl)
                              · skip
                                refine lv_aload_n hx hb dX10_alike_102 rfl (lv_at hl 5 rfl) ?_
                                refine hk_getr hx hb hts hC_10 hown hW (gx.S hM) tt_10 35 ?o97 rfl kw_1178 ⟨rfl, rfl, rfl⟩ ((hM.o gx trivial rfl).2.trans f_x_35) dX10_alike_103 ?_
                                case o97 => decide
                                refine lv_iload hx hb dX10_alike_106 (lv_at hl 0 rfl) ?_
                                refine hx_zald hx hb hW hT (gqtk.S hM) tt_71 rfl ⟨?o98, ?o99⟩ dX10_alike_108 (fun x_26 ex_26 lx_26 ux_26 => ?_)
                                case o98 => omega
                                case o99 => omega
                                have ax_26 : x_26 = ia41_qtk iv93_8.toNatClampNeg := ex_26.trans (congrFun nia41_qtk _)
                                refine hb_if_ne (zx := x_26.toInt) (tgt := 185) hx hb rfl dX10_alike_109 ?o100 (fun c_27 => ?_) (fun c_27 => ?_)
                                case o100 => decide
                                · skip
                                  obtain ⟨x_28, ex_28⟩ : ∃ y : Int32, y = iv93_8 + Int32.ofInt 1 := ⟨_, rfl⟩
                                  have rg_29 := i32_r iv93_8
                                  have zx_28 : x_28.toInt = iv93_8.toInt + (1) := ?o101
                                  case o101 =>
                                    rw [ex_28]
                                    refine i32_add rfl ?o102 ?o103 ?o104
                                    case o102 => decide
                                    case o103 => omega
                                    case o104 => omega
                                  refine lv_iinc (v := x_28) (lv' := [(8, .int x_28), (7, .int iv93_7), (6, .int iv41_6), (5, .int iv32_5), (4, .int iv41_4), (0, .ref x), (1, .int i1), (2, .int i2), (3, .int i3)]) hx hb dX10_alike_185 hl (k := 0) rfl ex_28.symm ?o105 rfl (fun ls hl => ?_)
                                  case o105 => decide
                                  refine lv_goto (tgt := 93) hx hb dX10_alike_188 ?o106 ?_
                                  case o106 => decide
                                  refine ih93 iv93_7 x_28 _ _ hL1 hl1 ?o107 ?o108 ?o109 ?o110 (hy_am_sn vi93_0 ?o111 (hy_tp_f (Or.inl (by show (ia41_qtk iv93_8.toNatClampNeg).toInt ≠ 0; rw [← ax_26]; omega))) zx_28) ?o112 ls ?o113 hW hT hM  nia41_qtk (lv_sub hl [0, 1, 2, 3, 4, 5, 6, 7, 8] rfl)
                                  case o107 => omega
                                  case o108 => omega
                                  case o109 => omega
                                  case o110 => omega
                                  case o111 => omega
                                  case o112 => omega
                                  case o113 => omega
                                · skip
                                  refine lv_aload_n hx hb dX10_alike_112 rfl (lv_at hl 5 rfl) ?_
                                  refine hk_getr hx hb hts hC_10 hown hW (gx.S hM) tt_10 30 ?o114 rfl kw_1173 ⟨rfl, rfl, rfl⟩ ((hM.o gx trivial rfl).2.trans f_x_30) dX10_alike_113 ?_
                                  case o114 => decide
                                  refine lv_iload hx hb dX10_alike_116 (lv_at hl 0 rfl) ?_
                                  refine hx_iald hx hb hW hT (gqo.S hM) tt_66 rfl ⟨?o115, ?o116⟩ dX10_alike_118 (fun x_30 ex_30 lx_30 ux_30 => ?_)
                                  case o115 => omega
                                  case o116 => omega
                                  have ax_30 : x_30 = of iv93_8.toNatClampNeg := ex_30.trans (congrFun (hx_afS hM gqo rfl af_qo) _)
                                  refine lv_iload_n hx hb dX10_alike_119 rfl (lv_at hl 7 rfl) ?_
                                  refine hb_icmp_ne (zx := x_30.toInt) (zy := i2.toInt) (tgt := 185) hx hb rfl rfl dX10_alike_120 ?o117 (fun c_31 => ?_) (fun c_31 => ?_)
                                  case o117 => decide
                                  · skip
                                    obtain ⟨x_32, ex_32⟩ : ∃ y : Int32, y = iv93_8 + Int32.ofInt 1 := ⟨_, rfl⟩
                                    have rg_33 := i32_r iv93_8
                                    have zx_32 : x_32.toInt = iv93_8.toInt + (1) := ?o118
                                    case o118 =>
                                      rw [ex_32]
                                      refine i32_add rfl ?o119 ?o120 ?o121
                                      case o119 => decide
                                      case o120 => omega
                                      case o121 => omega
                                    refine lv_iinc (v := x_32) (lv' := [(8, .int x_32), (7, .int iv93_7), (6, .int iv41_6), (5, .int iv32_5), (4, .int iv41_4), (0, .ref x), (1, .int i1), (2, .int i2), (3, .int i3)]) hx hb dX10_alike_185 hl (k := 0) rfl ex_32.symm ?o122 rfl (fun ls hl => ?_)
                                    case o122 => decide
                                    refine lv_goto (tgt := 93) hx hb dX10_alike_188 ?o123 ?_
                                    case o123 => decide
                                    refine ih93 iv93_7 x_32 _ _ hL1 hl1 ?o124 ?o125 ?o126 ?o127 (hy_am_sn vi93_0 ?o128 (hy_tp_f (Or.inr (Or.inl (hy_ln_f (fun hc => by have h9 := congrArg Int32.toInt (ax_30.trans hc.1); omega))))) zx_32) ?o129 ls ?o130 hW hT hM  nia41_qtk (lv_sub hl [0, 1, 2, 3, 4, 5, 6, 7, 8] rfl)
                                    case o124 => omega
                                    case o125 => omega
                                    case o126 => omega
                                    case o127 => omega
                                    case o128 => omega
                                    case o129 => omega
                                    case o130 => omega
                                  · skip
                                    refine lv_aload_n hx hb dX10_alike_123 rfl (lv_at hl 5 rfl) ?_
                                    refine hk_getr hx hb hts hC_10 hown hW (gx.S hM) tt_10 31 ?o131 rfl kw_1174 ⟨rfl, rfl, rfl⟩ ((hM.o gx trivial rfl).2.trans f_x_31) dX10_alike_124 ?_
                                    case o131 => decide
                                    refine lv_iload hx hb dX10_alike_127 (lv_at hl 0 rfl) ?_
                                    refine hx_iald hx hb hW hT (gqwi.S hM) tt_67 rfl ⟨?o132, ?o133⟩ dX10_alike_129 (fun x_34 ex_34 lx_34 ux_34 => ?_)
                                    case o132 => omega
                                    case o133 => omega
                                    have ax_34 : x_34 = wf iv93_8.toNatClampNeg := ex_34.trans (congrFun (hx_afS hM gqwi rfl af_qwi) _)
                                    refine lv_iload_n hx hb dX10_alike_130 rfl (lv_at hl 6 rfl) ?_
                                    refine hb_icmp_ne (zx := x_34.toInt) (zy := i1.toInt) (tgt := 185) hx hb rfl rfl dX10_alike_131 ?o134 (fun c_35 => ?_) (fun c_35 => ?_)
                                    case o134 => decide
                                    · skip
                                      obtain ⟨x_36, ex_36⟩ : ∃ y : Int32, y = iv93_8 + Int32.ofInt 1 := ⟨_, rfl⟩
                                      have rg_37 := i32_r iv93_8
                                      have zx_36 : x_36.toInt = iv93_8.toInt + (1) := ?o135
                                      case o135 =>
                                        rw [ex_36]
                                        refine i32_add rfl ?o136 ?o137 ?o138
                                        case o136 => decide
                                        case o137 => omega
                                        case o138 => omega
                                      refine lv_iinc (v := x_36) (lv' := [(8, .int x_36), (7, .int iv93_7), (6, .int iv41_6), (5, .int iv32_5), (4, .int iv41_4), (0, .ref x), (1, .int i1), (2, .int i2), (3, .int i3)]) hx hb dX10_alike_185 hl (k := 0) rfl ex_36.symm ?o139 rfl (fun ls hl => ?_)
                                      case o139 => decide
                                      refine lv_goto (tgt := 93) hx hb dX10_alike_188 ?o140 ?_
                                      case o140 => decide
                                      refine ih93 iv93_7 x_36 _ _ hL1 hl1 ?o141 ?o142 ?o143 ?o144 (hy_am_sn vi93_0 ?o145 (hy_tp_f (Or.inr (Or.inl (hy_ln_f (fun hc => by have h9 := congrArg Int32.toInt (ax_34.trans hc.2.1); omega))))) zx_36) ?o146 ls ?o147 hW hT hM  nia41_qtk (lv_sub hl [0, 1, 2, 3, 4, 5, 6, 7, 8] rfl)
                                      case o141 => omega
                                      case o142 => omega
                                      case o143 => omega
                                      case o144 => omega
                                      case o145 => omega
                                      case o146 => omega
                                      case o147 => omega
                                    · skip
                                      refine lv_aload_n hx hb dX10_alike_134 rfl (lv_at hl 5 rfl) ?_
                                      refine hk_getr hx hb hts hC_10 hown hW (gx.S hM) tt_10 32 ?o148 rfl kw_1175 ⟨rfl, rfl, rfl⟩ ((hM.o gx trivial rfl).2.trans f_x_32) dX10_alike_135 ?_
                                      case o148 => decide
                                      refine lv_iload hx hb dX10_alike_138 (lv_at hl 0 rfl) ?_
                                      refine hx_iald hx hb hW hT (gqdy.S hM) tt_68 rfl ⟨?o149, ?o150⟩ dX10_alike_140 (fun x_38 ex_38 lx_38 ux_38 => ?_)
                                      case o149 => omega
                                      case o150 => omega
                                      have ax_38 : x_38 = df iv93_8.toNatClampNeg := ex_38.trans (congrFun (hx_afS hM gqdy rfl af_qdy) _)
                                      refine lv_iload_n hx hb dX10_alike_141 rfl (lv_at hl 8 rfl) ?_
                                      refine hb_icmp_gt (zx := x_38.toInt) (zy := i3.toInt) (tgt := 185) hx hb rfl rfl dX10_alike_142 ?o151 (fun c_39 => ?_) (fun c_39 => ?_)
                                      case o151 => decide
                                      · skip
                                        obtain ⟨x_40, ex_40⟩ : ∃ y : Int32, y = iv93_8 + Int32.ofInt 1 := ⟨_, rfl⟩
                                        have rg_41 := i32_r iv93_8
                                        have zx_40 : x_40.toInt = iv93_8.toInt + (1) := ?o152
                                        case o152 =>
                                          rw [ex_40]
                                          refine i32_add rfl ?o153 ?o154 ?o155
                                          case o153 => decide
                                          case o154 => omega
                                          case o155 => omega
                                        refine lv_iinc (v := x_40) (lv' := [(8, .int x_40), (7, .int iv93_7), (6, .int iv41_6), (5, .int iv32_5), (4, .int iv41_4), (0, .ref x), (1, .int i1), (2, .int i2), (3, .int i3)]) hx hb dX10_alike_185 hl (k := 0) rfl ex_40.symm ?o156 rfl (fun ls hl => ?_)
                                        case o156 => decide
                                        refine lv_goto (tgt := 93) hx hb dX10_alike_188 ?o157 ?_
                                        case o157 => decide
                                        refine ih93 iv93_7 x_40 _ _ hL1 hl1 ?o158 ?o159 ?o160 ?o161 (hy_am_sn vi93_0 ?o162 (hy_tp_f (Or.inr (Or.inl (hy_ln_f (fun hc => by have h9 : (df iv93_8.toNatClampNeg).toInt ≤ i3.toInt := hc.2.2; rw [← ax_38] at h9; omega))))) zx_40) ?o163 ls ?o164 hW hT hM  nia41_qtk (lv_sub hl [0, 1, 2, 3, 4, 5, 6, 7, 8] rfl)
                                        case o158 => omega
                                        case o159 => omega
                                        case o160 => omega
                                        case o161 => omega
                                        case o162 => omega
                                        case o163 => omega
                                        case o164 => omega
                                      · skip
                                        have hdm := hDY iv41_6.toNatClampNeg (by unfold Int32.toNatClampNeg; omega)
                                        have hdh := hDY iv93_8.toNatClampNeg (by unfold Int32.toNatClampNeg; omega)
                                        refine lv_aload_n hx hb dX10_alike_145 rfl (lv_at hl 5 rfl) ?_
                                        refine lv_iload hx hb dX10_alike_146 (lv_at hl 2 rfl) ?_
                                        refine lv_iload hx hb dX10_alike_148 (lv_at hl 0 rfl) ?_
                                        refine hx_goi (hx_runV (As := [.int iv41_6, .int iv93_8]) (rest := []) ⟨hx, hb, hml, hown, hts⟩ hW (gx.S hM) tt_10 (T := TX10) (N := 98) rfl (t_X10_areTwins_2 l dC dI dA hL1 hl1 H.size x iv41_6 iv93_8 hT (gx.S hM) qkd (gqkd.S hM) ((hM.o gx trivial rfl).2.trans f_x_33) qsm (gqsm.S hM) ((hM.o gx trivial rfl).2.trans f_x_34) qdy (gqdy.S hM) ((hM.o gx trivial rfl).2.trans f_x_32) kf (hx_afS hM gqkd rfl af_qkd) sf (hx_afS hM gqsm rfl af_qsm) df (hx_afS hM gqdy rfl af_qdy) ⟨?o165, ?o166⟩ ⟨?o167, ?o168⟩ hdm hdh) (cwV 2 hts (hx_gV kw_1581 kw_1578 kw_1580 kw_71 kw_103) rfl rfl rfl (by decide +kernel) ⟨Nat.le_of_ble_eq_true rfl, Nat.le_of_ble_eq_true rfl⟩) rfl hl.1 rfl (Nat.le_of_ble_eq_true rfl) dX10_alike_150 ⟨Nat.le_of_ble_eq_true rfl, Nat.le_of_ble_eq_true rfl⟩) hW (fun r_44 L_42 h_43 H locs p_45 hW => ?_)
                                        case o165 => omega
                                        case o166 => omega
                                        case o167 => omega
                                        case o168 => omega
                                        obtain ⟨hr_46, hT, hs⟩ := p_45
                                        replace hT : hx_T T_tb L_42 h_43 := hT
                                        replace hs : hx_S T_tb [] hL1 hl1 L_42 h_43 := hs
                                        replace nia41_qtk : h_43.2.1 qtk = ia41_qtk := (funext fun j => (hs.a (gqtk.S hM) rfl j).1).trans nia41_qtk
                                        replace ex_26 := ex_26.trans (hs.a (gqtk.S hM) rfl _).1.symm
                                        replace ex_30 := ex_30.trans (hs.a (gqo.S hM) rfl _).1.symm
                                        replace ex_34 := ex_34.trans (hs.a (gqwi.S hM) rfl _).1.symm
                                        replace ex_38 := ex_38.trans (hs.a (gqdy.S hM) rfl _).1.symm
                                        replace hM := hM.tr (hs.mono ?o169)
                                        case o169 => decide
                                        refine hb_if_ne (zx := r_44.toInt) (tgt := 159) hx hb rfl dX10_alike_153 ?o170 (fun c_47 => ?_) (fun c_47 => ?_)
                                        case o170 => decide
                                        · skip
                                          refine lv_iload hx hb dX10_alike_159 (lv_at hl 1 rfl) ?_
                                          refine hb_if_lt (zx := iv93_7.toInt) (tgt := 181) hx hb rfl dX10_alike_161 ?o171 (fun c_48 => ?_) (fun c_48 => ?_)
                                          case o171 => decide
                                          · skip
                                            refine lv_iload hx hb dX10_alike_181 (lv_at hl 0 rfl) ?_
                                            refine lv_istore (lv' := [(7, .int iv93_8), (8, .int iv93_8), (6, .int iv41_6), (5, .int iv32_5), (4, .int iv41_4), (0, .ref x), (1, .int i1), (2, .int i2), (3, .int i3)]) hx hb dX10_alike_183 hl ?o172 rfl (fun ls hl => ?_)
                                            case o172 => decide
                                            obtain ⟨x_49, ex_49⟩ : ∃ y : Int32, y = iv93_8 + Int32.ofInt 1 := ⟨_, rfl⟩
                                            have rg_50 := i32_r iv93_8
                                            have zx_49 : x_49.toInt = iv93_8.toInt + (1) := ?o173
                                            case o173 =>
                                              rw [ex_49]
                                              refine i32_add rfl ?o174 ?o175 ?o176
                                              case o174 => decide
                                              case o175 => omega
                                              case o176 => omega
                                            refine lv_iinc (v := x_49) (lv' := [(8, .int x_49), (7, .int iv93_8), (6, .int iv41_6), (5, .int iv32_5), (4, .int iv41_4), (0, .ref x), (1, .int i1), (2, .int i2), (3, .int i3)]) hx hb dX10_alike_185 hl (k := 1) rfl ex_49.symm ?o177 rfl (fun ls hl => ?_)
                                            case o177 => decide
                                            refine lv_goto (tgt := 93) hx hb dX10_alike_188 ?o178 ?_
                                            case o178 => decide
                                            refine ih93 iv93_8 x_49 _ _ L_42 h_43 ?o179 ?o180 ?o181 ?o182 (hy_am_sy (x := iv93_7) (y := iv93_7) vi93_0 ?o183 (hy_tp_t (by show (ia41_qtk iv93_8.toNatClampNeg).toInt = 0; rw [← ax_26]; omega) (hy_ln_t.mpr ⟨(ax_30.symm.trans (Int32.toInt_inj.mp ?o184)), (ax_34.symm.trans (Int32.toInt_inj.mp ?o185)), (by show (df iv93_8.toNatClampNeg).toInt ≤ _; rw [← ax_38]; omega)⟩) (by rcases hr_46 with z | z; exact z.2; exfalso; omega)) (Or.inl ⟨?o186, rfl⟩) zx_49) ?o187 ls ?o188 hW hT hM  nia41_qtk (lv_sub hl [0, 1, 2, 3, 4, 5, 6, 7, 8] rfl)
                                            case o179 => omega
                                            case o180 => omega
                                            case o181 => omega
                                            case o182 => omega
                                            case o183 => omega
                                            case o184 => omega
                                            case o185 => omega
                                            case o186 => omega
                                            case o187 => omega
                                            case o188 => omega
                                          · skip
                                            refine lv_aload_n hx hb dX10_alike_164 rfl (lv_at hl 5 rfl) ?_
                                            refine hk_getr hx hb hts hC_10 hown hW (gx.S hM) tt_10 32 ?o189 rfl kw_1175 ⟨rfl, rfl, rfl⟩ ((hM.o gx trivial rfl).2.trans f_x_32) dX10_alike_165 ?_
                                            case o189 => decide
                                            refine lv_iload hx hb dX10_alike_168 (lv_at hl 0 rfl) ?_
                                            refine hx_iald hx hb hW hT (gqdy.S hM) tt_68 rfl ⟨?o190, ?o191⟩ dX10_alike_170 (fun x_51 ex_51 lx_51 ux_51 => ?_)
                                            case o190 => omega
                                            case o191 => omega
                                            have ax_51 : x_51 = df iv93_8.toNatClampNeg := ex_51.trans (congrFun (hx_afS hM gqdy rfl af_qdy) _)
                                            obtain rfl : x_38 = x_51 := ex_38.trans ex_51.symm
                                            refine lv_aload_n hx hb dX10_alike_171 rfl (lv_at hl 5 rfl) ?_
                                            refine hk_getr hx hb hts hC_10 hown hW (gx.S hM) tt_10 32 ?o192 rfl kw_1175 ⟨rfl, rfl, rfl⟩ ((hM.o gx trivial rfl).2.trans f_x_32) dX10_alike_172 ?_
                                            case o192 => decide
                                            refine lv_iload hx hb dX10_alike_175 (lv_at hl 1 rfl) ?_
                                            refine hx_iald hx hb hW hT (gqdy.S hM) tt_68 rfl ⟨?o193, ?o194⟩ dX10_alike_177 (fun x_52 ex_52 lx_52 ux_52 => ?_)
                                            case o193 => omega
                                            case o194 => omega
                                            have ax_52 : x_52 = df iv93_7.toNatClampNeg := ex_52.trans (congrFun (hx_afS hM gqdy rfl af_qdy) _)
                                            refine hb_icmp_ge (zx := x_38.toInt) (zy := x_52.toInt) (tgt := 185) hx hb rfl rfl dX10_alike_178 ?o195 (fun c_53 => ?_) (fun c_53 => ?_)
                                            case o195 => decide
                                            · skip
                                              obtain ⟨x_54, ex_54⟩ : ∃ y : Int32, y = iv93_8 + Int32.ofInt 1 := ⟨_, rfl⟩
                                              have rg_55 := i32_r iv93_8
                                              have zx_54 : x_54.toInt = iv93_8.toInt + (1) := ?o196
                                              case o196 =>
                                                rw [ex_54]
                                                refine i32_add rfl ?o197 ?o198 ?o199
                                                case o197 => decide
                                                case o198 => omega
                                                case o199 => omega
                                              refine lv_iinc (v := x_54) (lv' := [(8, .int x_54), (7, .int iv93_7), (6, .int iv41_6), (5, .int iv32_5), (4, .int iv41_4), (0, .ref x), (1, .int i1), (2, .int i2), (3, .int i3)]) hx hb dX10_alike_185 hl (k := 0) rfl ex_54.symm ?o200 rfl (fun ls hl => ?_)
                                              case o200 => decide
                                              refine lv_goto (tgt := 93) hx hb dX10_alike_188 ?o201 ?_
                                              case o201 => decide
                                              exact ih93 iv93_7 x_54 _ _ L_42 h_43 (by omega) (by omega) (by omega) (by omega) (hy_am_sy vi93_0 (by omega) (hy_tp_t (by show (ia41_qtk iv93_8.toNatClampNeg).toInt = 0; rw [← ax_26]; omega) (hy_ln_t.mpr ⟨(ax_30.symm.trans (Int32.toInt_inj.mp (by omega))), (ax_34.symm.trans (Int32.toInt_inj.mp (by omega))), (by show (df iv93_8.toNatClampNeg).toInt ≤ _; rw [← ax_38]; omega)⟩) (by rcases hr_46 with z | z; exact z.2; exfalso; omega)) (Or.inr ⟨by omega, ax_38, ax_52, by first | exact Or.inl ⟨by omega, rfl⟩ | exact Or.inr ⟨by omega, rfl⟩⟩) zx_54) (by omega) ls (by omega) hW hT hM  nia41_qtk (lv_sub hl [0, 1, 2, 3, 4, 5, 6, 7, 8] rfl)
                                            · skip
                                              refine lv_iload hx hb dX10_alike_181 (lv_at hl 0 rfl) ?_
                                              refine lv_istore (lv' := [(7, .int iv93_8), (8, .int iv93_8), (6, .int iv41_6), (5, .int iv32_5), (4, .int iv41_4), (0, .ref x), (1, .int i1), (2, .int i2), (3, .int i3)]) hx hb dX10_alike_183 hl ?o202 rfl (fun ls hl => ?_)
                                              case o202 => decide
                                              obtain ⟨x_56, ex_56⟩ : ∃ y : Int32, y = iv93_8 + Int32.ofInt 1 := ⟨_, rfl⟩
                                              have rg_57 := i32_r iv93_8
                                              have zx_56 : x_56.toInt = iv93_8.toInt + (1) := ?o203
                                              case o203 =>
                                                rw [ex_56]
                                                refine i32_add rfl ?o204 ?o205 ?o206
                                                case o204 => decide
                                                case o205 => omega
                                                case o206 => omega
                                              refine lv_iinc (v := x_56) (lv' := [(8, .int x_56), (7, .int iv93_8), (6, .int iv41_6), (5, .int iv32_5), (4, .int iv41_4), (0, .ref x), (1, .int i1), (2, .int i2), (3, .int i3)]) hx hb dX10_alike_185 hl (k := 1) rfl ex_56.symm ?o207 rfl (fun ls hl => ?_)
                                              case o207 => decide
                                              refine lv_goto (tgt := 93) hx hb dX10_alike_188 ?o208 ?_
                                              case o208 => decide
                                              exact ih93 iv93_8 x_56 _ _ L_42 h_43 (by omega) (by omega) (by omega) (by omega) (hy_am_sy vi93_0 (by omega) (hy_tp_t (by show (ia41_qtk iv93_8.toNatClampNeg).toInt = 0; rw [← ax_26]; omega) (hy_ln_t.mpr ⟨(ax_30.symm.trans (Int32.toInt_inj.mp (by omega))), (ax_34.symm.trans (Int32.toInt_inj.mp (by omega))), (by show (df iv93_8.toNatClampNeg).toInt ≤ _; rw [← ax_38]; omega)⟩) (by rcases hr_46 with z | z; exact z.2; exfalso; omega)) (Or.inr ⟨by omega, ax_38, ax_52, by first | exact Or.inl ⟨by omega, rfl⟩ | exact Or.inr ⟨by omega, rfl⟩⟩) zx_56) (by omega) ls (by omega) hW hT hM  nia41_qtk (lv_sub hl [0, 1, 2, 3, 4, 5, 6, 7, 8] rfl)
                                        · skip
                                          refine lv_goto (tgt := 185) hx hb dX10_alike_156 ?o209 ?_
                                          case o209 => decide
                                          obtain ⟨x_58, ex_58⟩ : ∃ y : Int32, y = iv93_8 + Int32.ofInt 1 := ⟨_, rfl⟩
                                          have rg_59 := i32_r iv93_8
                                          have zx_58 : x_58.toInt = iv93_8.toInt + (1) := ?o210
                                          case o210 =>
                                            rw [ex_58]
                                            refine i32_add rfl ?o211 ?o212 ?o213
                                            case o211 => decide
                                            case o212 => omega
                                            case o213 => omega
                                          refine lv_iinc (v := x_58) (lv' := [(8, .int x_58), (7, .int iv93_7), (6, .int iv41_6), (5, .int iv32_5), (4, .int iv41_4), (0, .ref x), (1, .int i1), (2, .int i2), (3, .int i3)]) hx hb dX10_alike_185 hl (k := 0) rfl ex_58.symm ?o214 rfl (fun ls hl => ?_)
                                          case o214 => decide
                                          refine lv_goto (tgt := 93) hx hb dX10_alike_188 ?o215 ?_
                                          case o215 => decide
                                          refine ih93 iv93_7 x_58 _ _ L_42 h_43 ?o216 ?o217 ?o218 ?o219 (hy_am_sn vi93_0 ?o220 (hy_tp_f (Or.inr (Or.inr (by rcases hr_46 with z | z; (exfalso; omega); exact z.2)))) zx_58) ?o221 ls ?o222 hW hT hM  nia41_qtk (lv_sub hl [0, 1, 2, 3, 4, 5, 6, 7, 8] rfl)
                                          case o216 => omega
                                          case o217 => omega
                                          case o218 => omega
                                          case o219 => omega
                                          case o220 => omega
                                          case o221 => omega
                                          case o222 => omega
                          have zk_m1 : (-1 : Int32).toInt = -1 := ?o223
                          case o223 => decide
                          have zk_0 : (0 : Int32).toInt = 0 := ?o224
                          case o224 => decide
                          refine loop93 401 (-1 : Int32) (0 : Int32) _ _ hL1 hl1 ?o225 ?o226 ?o227 ?o228 (by rw [zk_0, zk_m1]; rfl) ?o229 ls ?o230 hW hT hM  nia41_qtk hl
                          case o225 => decide
                          case o226 => decide
                          case o227 => decide
                          case o228 => decide
                          case o229 => omega
                          case o230 => omega
                        · skip
                          refine lv_goto (tgt := 210) hx hb dX10_alike_84 ?o231 ?_
                          case o231 => decide
                          obtain ⟨x_60, ex_60⟩ : ∃ y : Int32, y = iv41_6 + Int32.ofInt 1 := ⟨_, rfl⟩
                          have rg_61 := i32_r iv41_6
                          have zx_60 : x_60.toInt = iv41_6.toInt + (1) := ?o232
                          case o232 =>
                            rw [ex_60]
                            refine i32_add rfl ?o233 ?o234 ?o235
                            case o233 => decide
                            case o234 => omega
                            case o235 => omega
                          refine lv_iinc (v := x_60) (lv' := [(6, .int x_60), (5, .int iv32_5), (4, .int iv41_4), (0, .ref x), (1, .int i1), (2, .int i2), (3, .int i3)]) hx hb dX10_alike_210 hl (k := 0) rfl ex_60.symm ?o236 rfl (fun ls hl => ?_)
                          case o236 => decide
                          refine lv_goto (tgt := 41) hx hb dX10_alike_213 ?o237 ?_
                          case o237 => decide
                          refine ih41 iv41_4 x_60 ia41_qtk _ _ hL1 hl1 ?o238 ?o239 ?o240 ?o241 ?o242 (by have hD : (df iv41_6.toInt.toNat).toInt = iv32_5.toInt := (by show (df iv41_6.toNatClampNeg).toInt = _; rw [← ax_6]; omega); have hRX := hy_rd_x hBD (by omega : iv41_6.toInt.toNat < ln0.toInt.toNat) hD; have hRn : (bf (hy_rd df ln0.toInt.toNat iv32_5.toInt iv41_6.toInt.toNat)).toInt.toNat = iv41_6.toInt.toNat := (by rw [hRX.1]; rfl); rw [show x_60.toInt.toNat = iv41_6.toInt.toNat + 1 from by omega, hy_rd_y (by omega) hD, hy_G_n (by rw [hRn]; exact hy_ln_f (fun hc => by have h9 := congrArg Int32.toInt (ax_14.trans hc.2.1); omega))]; exact vi41_1) ls ?o243 hW hT hM  nia41_qtk (lv_sub hl [0, 1, 2, 3, 4, 5, 6] rfl)
                          case o238 => omega
                          case o239 => omega
                          case o240 => omega
                          case o241 => omega
                          case o242 => omega
                          case o243 => omega
              have zk_0 : (0 : Int32).toInt = 0 := ?o244
              case o244 => decide
              refine loop41 401 iv32_4 (0 : Int32) ia32_qtk _ _ hL1 hl1 ?o245 ?o246 ?o247 ?o248 ?o249 (by rw [zk_0]; exact vi32_1) ls ?o250 hW hT hM  nia32_qtk hl
              case o245 => omega
              case o246 => omega
              case o247 => decide
              case o248 => decide
              case o249 => omega
              case o250 => omega
        have zk_0 : (0 : Int32).toInt = 0 := ?o251
        case o251 => decide
        have zk_0 : (0 : Int32).toInt = 0 := ?o252
        case o252 => decide
        refine loop32 8001 (0 : Int32) (0 : Int32) ia3_qtk _ _ hL1 hl1 ?o253 ?o254 ?o255 ?o256 ?o257 (by rw [zk_0, hy_rd_0 (fun x hx => (hDY x hx).1)]; exact ⟨fun j hj => (vi3_1 j (by omega)).trans rfl, rfl⟩) ls ?o258 hW hT hM  nia3_qtk hl
        case o253 => decide
        case o254 => decide
        case o255 => decide
        case o256 => decide
        case o257 => omega
        case o258 => omega
      · skip
        refine lv_aload_n hx hb dX10_alike_12 rfl (lv_at hl 1 rfl) ?_
        refine hk_getr hx hb hts hC_10 hown hW (gx.S hM) tt_10 35 ?o259 rfl kw_1178 ⟨rfl, rfl, rfl⟩ ((hM.o gx trivial rfl).2.trans f_x_35) dX10_alike_13 ?_
        case o259 => decide
        refine lv_iload hx hb dX10_alike_16 (lv_at hl 0 rfl) ?_
        refine lv_iconst (v := 0) hx hb dX10_alike_18 ?o260 ?_
        case o260 => decide
        have nia3_qtkO := nia3_qtk
        refine hx_zast hx hb hW hT (hx_S.rf (M := [(71, 0)])) (gqtk.S hM) tt_71 rfl ⟨?o261, ?o262⟩ (y := 0) ?o263 ?o264 (List.mem_singleton.mpr rfl) dX10_alike_19 (fun H locs h_62 eh_62 hW hT hs => ?_)
        case o261 => omega
        case o262 => omega
        case o263 => decide
        case o264 => decide
        replace hM := hM.tr (hs.mono ?o265)
        case o265 => decide
        obtain ⟨fa_63, dfa_63⟩ : ∃ g : Nat → Int32, g = hx_up ia3_qtk iv3_4.toNatClampNeg (0 : Int32) := ⟨_, rfl⟩
        have nfa_63 : h_62.2.1 qtk = fa_63 := ?o266
        case o266 =>
          rw [eh_62, dfa_63, ← nia3_qtkO]
          exact hx_pi_fun _ _ _ _
        obtain ⟨x_64, ex_64⟩ : ∃ y : Int32, y = iv3_4 + Int32.ofInt 1 := ⟨_, rfl⟩
        have rg_65 := i32_r iv3_4
        have zx_64 : x_64.toInt = iv3_4.toInt + (1) := ?o267
        case o267 =>
          rw [ex_64]
          refine i32_add rfl ?o268 ?o269 ?o270
          case o268 => decide
          case o269 => omega
          case o270 => omega
        refine lv_iinc (v := x_64) (lv' := [(4, .int x_64), (0, .ref x), (1, .int i1), (2, .int i2), (3, .int i3)]) hx hb dX10_alike_20 hl (k := 0) rfl ex_64.symm ?o271 rfl (fun ls hl => ?_)
        case o271 => decide
        refine lv_goto (tgt := 3) hx hb dX10_alike_23 ?o272 ?_
        case o272 => decide
        refine ih3 x_64 fa_63 _ _ hL1 h_62 ?o273 ?o274 ?o275 (hy_cl_s vi3_1 ?o276 dfa_63 zx_64) ls ?o277 hW hT hM  nfa_63 (lv_sub hl [0, 1, 2, 3, 4] rfl)
        case o273 => omega
        case o274 => omega
        case o275 => omega
        case o276 => omega
        case o277 => omega
  have zk_0 : (0 : Int32).toInt = 0 := ?o278
  case o278 => decide
  refine loop3 401 (0 : Int32) tf _ _ L h ?o279 ?o280 ?o281 (fun j hj => ?o282) ls ?o283 hW hT hM  af_qtk hl
  case o279 => decide
  case o280 => decide
  case o281 => omega
  case o282 =>
    exfalso
    omega
  case o283 => omega


set_option maxHeartbeats 4000000 in
set_option maxRecDepth 100000 in
theorem t_X9_line_3 (l : Launch) (dC : Nat → ClassId) (dI : Nat → Nat → Nat) (dA : Nat → ClassId) (L : List Nat) (h : hx_h) (sz : Nat) (x : Nat) (i1 : Int32) (i2 : Int32) (i3 : Int32) (i4 : Int32) (i5 : Int32) (hT : hx_T T_tb L h) (gx : hx_g L h x 9) (qp : Nat) (gqp : hx_g L h qp 44) (f_x_7 : h.2.2 x 7 = some qp) (qb : Nat) (gqb : hx_g L h qb 1) (f_x_9 : h.2.2 x 9 = some qb) (qo : Nat) (gqo : hx_g L h qo 13) (f_qb_1 : h.2.2 qb 1 = some qo) (qwi : Nat) (gqwi : hx_g L h qwi 14) (f_qb_2 : h.2.2 qb 2 = some qwi) (qdy : Nat) (gqdy : hx_g L h qdy 15) (f_qb_3 : h.2.2 qb 3 = some qdy) (qkd : Nat) (gqkd : hx_g L h qkd 16) (f_qb_4 : h.2.2 qb 4 = some qkd) (qsm : Nat) (gqsm : hx_g L h qsm 17) (f_qb_5 : h.2.2 qb 5 = some qsm) (qbd : Nat) (gqbd : hx_g L h qbd 18) (f_qb_6 : h.2.2 qb 6 = some qbd) (of : Nat → Int32) (af_qo : h.2.1 qo = of) (wf : Nat → Int32) (af_qwi : h.2.1 qwi = wf) (df : Nat → Int32) (af_qdy : h.2.1 qdy = df) (kf : Nat → Int32) (af_qkd : h.2.1 qkd = kf) (sf : Nat → Int32) (af_qsm : h.2.1 qsm = sf) (bf : Nat → Int32) (af_qbd : h.2.1 qbd = bf) (ln0 : Int32) (f_qb_0 : h.2.1 qb 0 = ln0) (pn0 : Int32) (f_x_8 : h.2.1 x 8 = pn0) (nw0 : Int32) (f_x_2 : h.2.1 x 2 = nw0) (hBD : hy_BD df bf ln0.toInt.toNat) (pf_x_8 : ∀ j : Nat, (j : Int) < (h.2.1 x 8).toInt → h.2.2 qp j ≠ none) : Met l yX9_line (Cond.code yX9_line cX9_line 6 (some .int) :: hx_all) ({ frames := 2, cells := 0, slots := 0, locals := 43 }) (va_Pc [.ref x, .int i1, .int i2, .int i3, .int i4, .int i5] (hx_B T_tb (P_ty dA) (dC, dI) vwCl L h sz)) (va_Qi (fun (r : Int32) (u : List Nat × hx_h) => (∃ (ln1 : Int32) (of1 : Nat → Int32) (wf1 : Nat → Int32) (df1 : Nat → Int32) (kf1 : Nat → Int32) (sf1 : Nat → Int32) (bf1 : Nat → Int32), u.2.2.1 qb 0 = ln1 ∧ u.2.2.1 qo = of1 ∧ u.2.2.1 qwi = wf1 ∧ u.2.2.1 qdy = df1 ∧ u.2.2.1 qkd = kf1 ∧ u.2.2.1 qsm = sf1 ∧ u.2.2.1 qbd = bf1 ∧ ((hx_LS ln0.toInt pn0.toInt nw0.toInt i1.toInt i2.toInt i3.toInt i4.toInt i5.toInt r.toInt ln1.toInt) ∧ hx_LA ln0.toInt r.toInt i1 of of1 ∧ hx_LA ln0.toInt r.toInt i2 wf wf1 ∧ hx_LA ln0.toInt r.toInt i3 df df1 ∧ hx_LA ln0.toInt r.toInt i4 kf kf1 ∧ hx_LA ln0.toInt r.toInt i5 sf sf1 ∧ hy_BD df1 bf1 ln1.toInt.toNat)) ∧ hx_T T_tb u.1 u.2 ∧ hx_S T_tb [(1, 0), (13, 0), (14, 0), (15, 0), (16, 0), (17, 0), (18, 0)] L h u.1 u.2) (hx_E T_tb (P_ty dA) (dC, dI) vwCl (hx_A L sz)) (hx_A L sz)) 0 0 (hx_A L sz) := by
  refine hx_met (lv := [(0, .ref x), (1, .int i1), (2, .int i2), (3, .int i3), (4, .int i4), (5, .int i5)]) (by decide +kernel) rfl (Nat.le_of_ble_eq_true rfl) rfl ?_
  intro p e s m below meth c hx hb hml hr hlk hts0 hown hin hsz hW ls hl
  have hts : ∀ w ∈ hx_all, w.before _ s = true := fun w hw => hts0 w (List.mem_cons_of_mem _ hw)
  have hown : s.vm.findClass "SmallCourt" = some m.cls := hown
  have hM : hx_S T_tb [(1, 0), (13, 0), (14, 0), (15, 0), (16, 0), (17, 0), (18, 0)] L h L h := hx_S.rf
  have b_ln0 := hT.gi gqb tt_1 (k := 0) rfl
  rw [f_qb_0] at b_ln0
  have b_ln0 : 0 ≤ ln0.toInt ∧ ln0.toInt ≤ 400 := b_ln0
  have b_pn0 := hT.gi gx tt_9 (k := 8) rfl
  rw [f_x_8] at b_pn0
  have b_pn0 : 0 ≤ pn0.toInt ∧ pn0.toInt ≤ 40 := b_pn0
  have b_nw0 := hT.gi gx tt_9 (k := 2) rfl
  rw [f_x_2] at b_nw0
  have b_nw0 : 0 ≤ nw0.toInt ∧ nw0.toInt ≤ 7999 := b_nw0
  refine lv_aload_n hx hb dX9_line_0 rfl (lv_at hl 0 rfl) ?_
  refine hk_getr hx hb hts hC_9 hown hW (gx.S hM) tt_9 9 ?o0 rfl kw_373 ⟨rfl, rfl, rfl⟩ ((hM.o gx trivial rfl).2.trans f_x_9) dX9_line_1 ?_
  case o0 => decide
  refine hk_geti hx hb hts hC_1 hown hW (gqb.S hM) tt_1 0 ?o1 rfl kw_197 ⟨rfl, rfl, rfl⟩ f_qb_0 dX9_line_4 ?_
  case o1 => decide
  refine lv_sipush (v := 400) hx hb dX9_line_7 ?o2 ?_
  case o2 => decide
  refine hb_icmp_ge (zx := ln0.toInt) (zy := 400) (tgt := 56) hx hb rfl ?o3 dX9_line_10 ?o4 (fun c_1 => ?_) (fun c_1 => ?_)
  case o3 => decide
  case o4 => decide
  · skip
    refine lv_iconst (v := -1) hx hb dX9_line_56 ?o5 ?_
    case o5 => decide
    refine hx_reti hx hb hr hlk hW ⟨⟨ln0, of, wf, df, kf, sf, bf, f_qb_0, af_qo, af_qwi, af_qdy, af_qkd, af_qsm, af_qbd, ⟨(Or.inl ⟨?o6, ?o7, by unfold hx_LC; omega⟩), Or.inl ⟨?o8, rfl⟩, Or.inl ⟨?o9, rfl⟩, Or.inl ⟨?o10, rfl⟩, Or.inl ⟨?o11, rfl⟩, Or.inl ⟨?o12, rfl⟩, (by have e9 : ln0.toInt = ln0.toInt := (by omega); rw [e9]; exact hBD)⟩⟩, hT, hM⟩ dX9_line_57
    case o6 => decide
    case o7 => omega
    case o8 => decide
    case o9 => decide
    case o10 => decide
    case o11 => decide
    case o12 => decide
  · skip
    refine lv_aload_n hx hb dX9_line_13 rfl (lv_at hl 0 rfl) ?_
    refine lv_iload_n hx hb dX9_line_14 rfl (lv_at hl 1 rfl) ?_
    refine lv_iload_n hx hb dX9_line_15 rfl (lv_at hl 2 rfl) ?_
    refine hx_goi (hx_runV (As := [.int i1, .int i2]) (rest := []) ⟨hx, hb, hml, hown, hts⟩ hW (gx.S hM) tt_9 (T := TX9) (N := 20) rfl (t_X9_areTwo_2 l dC dI dA L h s.heap.size x i1 i2 hT (gx.S hM) pn0 ((hM.o gx trivial rfl).1.trans f_x_8) qp (gqp.S hM) ((hM.o gx trivial rfl).2.trans f_x_7) pf_x_8) (cwV 2 hts (hx_gV kw_675 kw_672 kw_674 kw_21 kw_94) rfl rfl rfl (by decide +kernel) ⟨Nat.le_of_ble_eq_true rfl, Nat.le_of_ble_eq_true rfl⟩) rfl hl.1 rfl (Nat.le_of_ble_eq_true rfl) dX9_line_16 ⟨Nat.le_of_ble_eq_true rfl, Nat.le_of_ble_eq_true rfl⟩) hW (fun r_4 L_2 h_3 H locs p_5 hW => ?_)
    obtain ⟨hr_6, hT, hs⟩ := p_5
    replace hT : hx_T T_tb L_2 h_3 := hT
    replace hs : hx_S T_tb [] L h L_2 h_3 := hs
    replace f_qb_0 := (hs.o (gqb.S hM) trivial rfl).1.trans f_qb_0
    replace pf_x_8 : ∀ j : Nat, (j : Int) < (h_3.2.1 x 8).toInt → h_3.2.2 qp j ≠ none := by
      intro j hj; rw [(hs.o (gx.S hM) trivial rfl).1] at hj; rw [(hs.a (gqp.S hM) rfl j).2]; exact pf_x_8 j hj
    replace af_qo : h_3.2.1 qo = of := (funext fun j => (hs.a (gqo.S hM) rfl j).1).trans af_qo
    replace af_qwi : h_3.2.1 qwi = wf := (funext fun j => (hs.a (gqwi.S hM) rfl j).1).trans af_qwi
    replace af_qdy : h_3.2.1 qdy = df := (funext fun j => (hs.a (gqdy.S hM) rfl j).1).trans af_qdy
    replace af_qkd : h_3.2.1 qkd = kf := (funext fun j => (hs.a (gqkd.S hM) rfl j).1).trans af_qkd
    replace af_qsm : h_3.2.1 qsm = sf := (funext fun j => (hs.a (gqsm.S hM) rfl j).1).trans af_qsm
    replace af_qbd : h_3.2.1 qbd = bf := (funext fun j => (hs.a (gqbd.S hM) rfl j).1).trans af_qbd
    replace hM := hM.tr (hs.mono ?o13)
    case o13 => decide
    refine hb_if_eq (zx := r_4.toInt) (tgt := 56) hx hb rfl dX9_line_19 ?o14 (fun c_7 => ?_) (fun c_7 => ?_)
    case o14 => decide
    · skip
      replace hr_6 := hr_6.resolve_right (fun z9 => absurd (c_7.symm.trans z9.1) ?o15)
      case o15 => decide
      replace hr_6 := hr_6.2
      refine lv_iconst (v := -1) hx hb dX9_line_56 ?o16 ?_
      case o16 => decide
      refine hx_reti hx hb hr hlk hW ⟨⟨ln0, of, wf, df, kf, sf, bf, f_qb_0, af_qo, af_qwi, af_qdy, af_qkd, af_qsm, af_qbd, ⟨(Or.inl ⟨?o17, ?o18, by unfold hx_LC; omega⟩), Or.inl ⟨?o19, rfl⟩, Or.inl ⟨?o20, rfl⟩, Or.inl ⟨?o21, rfl⟩, Or.inl ⟨?o22, rfl⟩, Or.inl ⟨?o23, rfl⟩, (by have e9 : ln0.toInt = ln0.toInt := (by omega); rw [e9]; exact hBD)⟩⟩, hT, hM⟩ dX9_line_57
      case o17 => decide
      case o18 => omega
      case o19 => decide
      case o20 => decide
      case o21 => decide
      case o22 => decide
      case o23 => decide
    · skip
      replace hr_6 := hr_6.resolve_left (fun z9 => c_7 z9.1)
      replace c_7 := hr_6.1
      replace hr_6 := hr_6.2
      refine lv_iload_n hx hb dX9_line_22 rfl (lv_at hl 3 rfl) ?_
      refine lv_iconst (v := 0) hx hb dX9_line_23 ?o24 ?_
      case o24 => decide
      refine lv_aload_n hx hb dX9_line_24 rfl (lv_at hl 0 rfl) ?_
      refine hk_geti hx hb hts hC_9 hown hW (gx.S hM) tt_9 2 ?o25 rfl kw_366 ⟨rfl, rfl, rfl⟩ ((hM.o gx trivial rfl).1.trans f_x_2) dX9_line_25 ?_
      case o25 => decide
      have zc_0 : (0 : Int32).toInt = 0 := ?o26
      case o26 => decide
      refine hx_goi (hx_runS (As := [.int i3, .int (0 : Int32), .int nw0]) (rest := []) ⟨hx, hb, hml, hown, hts⟩ hW (t_X9_isWithin_2 l dC dI dA L_2 h_3 H.size i3 (0 : Int32) nw0 hT) (va_cwS 3 hts (hx_gS kw_434 kw_432 kw_433 kw_94) rfl rfl rfl (by decide +kernel) ⟨Nat.le_of_ble_eq_true rfl, Nat.le_of_ble_eq_true rfl⟩) rfl hl.1 rfl (Nat.le_of_ble_eq_true rfl) dX9_line_28 ⟨Nat.le_of_ble_eq_true rfl, Nat.le_of_ble_eq_true rfl⟩) hW (fun r_10 L_8 h_9 H locs p_11 hW => ?_)
      obtain ⟨hr_12, hT, hs⟩ := p_11
      replace hT : hx_T T_tb L_8 h_9 := hT
      replace hs : hx_S T_tb [] L_2 h_3 L_8 h_9 := hs
      replace f_qb_0 := (hs.o (gqb.S hM) trivial rfl).1.trans f_qb_0
      replace pf_x_8 : ∀ j : Nat, (j : Int) < (h_9.2.1 x 8).toInt → h_9.2.2 qp j ≠ none := by
        intro j hj; rw [(hs.o (gx.S hM) trivial rfl).1] at hj; rw [(hs.a (gqp.S hM) rfl j).2]; exact pf_x_8 j hj
      replace af_qo : h_9.2.1 qo = of := (funext fun j => (hs.a (gqo.S hM) rfl j).1).trans af_qo
      replace af_qwi : h_9.2.1 qwi = wf := (funext fun j => (hs.a (gqwi.S hM) rfl j).1).trans af_qwi
      replace af_qdy : h_9.2.1 qdy = df := (funext fun j => (hs.a (gqdy.S hM) rfl j).1).trans af_qdy
      replace af_qkd : h_9.2.1 qkd = kf := (funext fun j => (hs.a (gqkd.S hM) rfl j).1).trans af_qkd
      replace af_qsm : h_9.2.1 qsm = sf := (funext fun j => (hs.a (gqsm.S hM) rfl j).1).trans af_qsm
      replace af_qbd : h_9.2.1 qbd = bf := (funext fun j => (hs.a (gqbd.S hM) rfl j).1).trans af_qbd
      replace hM := hM.tr (hs.mono ?o27)
      case o27 => decide
      refine hb_if_eq (zx := r_10.toInt) (tgt := 56) hx hb rfl dX9_line_31 ?o28 (fun c_13 => ?_) (fun c_13 => ?_)
      case o28 => decide
      · skip
        replace hr_12 := hr_12.resolve_right (fun z9 => absurd (c_13.symm.trans z9.1) ?o29)
        case o29 => decide
        replace hr_12 := hr_12.2
        refine lv_iconst (v := -1) hx hb dX9_line_56 ?o30 ?_
        case o30 => decide
        refine hx_reti hx hb hr hlk hW ⟨⟨ln0, of, wf, df, kf, sf, bf, f_qb_0, af_qo, af_qwi, af_qdy, af_qkd, af_qsm, af_qbd, ⟨(Or.inl ⟨?o31, ?o32, by unfold hx_LC; omega⟩), Or.inl ⟨?o33, rfl⟩, Or.inl ⟨?o34, rfl⟩, Or.inl ⟨?o35, rfl⟩, Or.inl ⟨?o36, rfl⟩, Or.inl ⟨?o37, rfl⟩, (by have e9 : ln0.toInt = ln0.toInt := (by omega); rw [e9]; exact hBD)⟩⟩, hT, hM⟩ dX9_line_57
        case o31 => decide
        case o32 => omega
        case o33 => decide
        case o34 => decide
        case o35 => decide
        case o36 => decide
        case o37 => decide
      · skip
        replace hr_12 := hr_12.resolve_left (fun z9 => c_13 z9.1)
        replace c_13 := hr_12.1
        replace hr_12 := hr_12.2
        refine lv_iload hx hb dX9_line_34 (lv_at hl 4 rfl) ?_
        refine lv_iconst (v := 0) hx hb dX9_line_36 ?o38 ?_
        case o38 => decide
        refine lv_iconst (v := 3) hx hb dX9_line_37 ?o39 ?_
        case o39 => decide
        have zc_3 : (3 : Int32).toInt = 3 := ?o40
        case o40 => decide
        refine hx_goi (hx_runS (As := [.int i4, .int (0 : Int32), .int (3 : Int32)]) (rest := []) ⟨hx, hb, hml, hown, hts⟩ hW (t_X9_isWithin_2 l dC dI dA L_8 h_9 H.size i4 (0 : Int32) (3 : Int32) hT) (va_cwS 3 hts (hx_gS kw_434 kw_432 kw_433 kw_94) rfl rfl rfl (by decide +kernel) ⟨Nat.le_of_ble_eq_true rfl, Nat.le_of_ble_eq_true rfl⟩) rfl hl.1 rfl (Nat.le_of_ble_eq_true rfl) dX9_line_38 ⟨Nat.le_of_ble_eq_true rfl, Nat.le_of_ble_eq_true rfl⟩) hW (fun r_16 L_14 h_15 H locs p_17 hW => ?_)
        obtain ⟨hr_18, hT, hs⟩ := p_17
        replace hT : hx_T T_tb L_14 h_15 := hT
        replace hs : hx_S T_tb [] L_8 h_9 L_14 h_15 := hs
        replace f_qb_0 := (hs.o (gqb.S hM) trivial rfl).1.trans f_qb_0
        replace pf_x_8 : ∀ j : Nat, (j : Int) < (h_15.2.1 x 8).toInt → h_15.2.2 qp j ≠ none := by
          intro j hj; rw [(hs.o (gx.S hM) trivial rfl).1] at hj; rw [(hs.a (gqp.S hM) rfl j).2]; exact pf_x_8 j hj
        replace af_qo : h_15.2.1 qo = of := (funext fun j => (hs.a (gqo.S hM) rfl j).1).trans af_qo
        replace af_qwi : h_15.2.1 qwi = wf := (funext fun j => (hs.a (gqwi.S hM) rfl j).1).trans af_qwi
        replace af_qdy : h_15.2.1 qdy = df := (funext fun j => (hs.a (gqdy.S hM) rfl j).1).trans af_qdy
        replace af_qkd : h_15.2.1 qkd = kf := (funext fun j => (hs.a (gqkd.S hM) rfl j).1).trans af_qkd
        replace af_qsm : h_15.2.1 qsm = sf := (funext fun j => (hs.a (gqsm.S hM) rfl j).1).trans af_qsm
        replace af_qbd : h_15.2.1 qbd = bf := (funext fun j => (hs.a (gqbd.S hM) rfl j).1).trans af_qbd
        replace hM := hM.tr (hs.mono ?o41)
        case o41 => decide
        refine hb_if_eq (zx := r_16.toInt) (tgt := 56) hx hb rfl dX9_line_41 ?o42 (fun c_19 => ?_) (fun c_19 => ?_)
        case o42 => decide
        · skip
          replace hr_18 := hr_18.resolve_right (fun z9 => absurd (c_19.symm.trans z9.1) ?o43)
          case o43 => decide
          replace hr_18 := hr_18.2
          refine lv_iconst (v := -1) hx hb dX9_line_56 ?o44 ?_
          case o44 => decide
          refine hx_reti hx hb hr hlk hW ⟨⟨ln0, of, wf, df, kf, sf, bf, f_qb_0, af_qo, af_qwi, af_qdy, af_qkd, af_qsm, af_qbd, ⟨(Or.inl ⟨?o45, ?o46, by unfold hx_LC; omega⟩), Or.inl ⟨?o47, rfl⟩, Or.inl ⟨?o48, rfl⟩, Or.inl ⟨?o49, rfl⟩, Or.inl ⟨?o50, rfl⟩, Or.inl ⟨?o51, rfl⟩, (by have e9 : ln0.toInt = ln0.toInt := (by omega); rw [e9]; exact hBD)⟩⟩, hT, hM⟩ dX9_line_57
          case o45 => decide
          case o46 => omega
          case o47 => decide
          case o48 => decide
          case o49 => decide
          case o50 => decide
          case o51 => decide
        · skip
          replace hr_18 := hr_18.resolve_left (fun z9 => c_19 z9.1)
          replace c_19 := hr_18.1
          replace hr_18 := hr_18.2
          refine lv_iload hx hb dX9_line_44 (lv_at hl 5 rfl) ?_
          refine lv_iconst (v := 1) hx hb dX9_line_46 ?o52 ?_
          case o52 => decide
          refine lv_sipush (v := 9999) hx hb dX9_line_47 ?o53 ?_
          case o53 => decide
          have zc_9999 : (9999 : Int32).toInt = 9999 := ?o54
          case o54 => decide
          have zc_1 : (1 : Int32).toInt = 1 := ?o55
          case o55 => decide
          refine hx_goi (hx_runS (As := [.int i5, .int (1 : Int32), .int (9999 : Int32)]) (rest := []) ⟨hx, hb, hml, hown, hts⟩ hW (t_X9_isWithin_2 l dC dI dA L_14 h_15 H.size i5 (1 : Int32) (9999 : Int32) hT) (va_cwS 3 hts (hx_gS kw_434 kw_432 kw_433 kw_94) rfl rfl rfl (by decide +kernel) ⟨Nat.le_of_ble_eq_true rfl, Nat.le_of_ble_eq_true rfl⟩) rfl hl.1 rfl (Nat.le_of_ble_eq_true rfl) dX9_line_50 ⟨Nat.le_of_ble_eq_true rfl, Nat.le_of_ble_eq_true rfl⟩) hW (fun r_22 L_20 h_21 H locs p_23 hW => ?_)
          obtain ⟨hr_24, hT, hs⟩ := p_23
          replace hT : hx_T T_tb L_20 h_21 := hT
          replace hs : hx_S T_tb [] L_14 h_15 L_20 h_21 := hs
          replace f_qb_0 := (hs.o (gqb.S hM) trivial rfl).1.trans f_qb_0
          replace pf_x_8 : ∀ j : Nat, (j : Int) < (h_21.2.1 x 8).toInt → h_21.2.2 qp j ≠ none := by
            intro j hj; rw [(hs.o (gx.S hM) trivial rfl).1] at hj; rw [(hs.a (gqp.S hM) rfl j).2]; exact pf_x_8 j hj
          replace af_qo : h_21.2.1 qo = of := (funext fun j => (hs.a (gqo.S hM) rfl j).1).trans af_qo
          replace af_qwi : h_21.2.1 qwi = wf := (funext fun j => (hs.a (gqwi.S hM) rfl j).1).trans af_qwi
          replace af_qdy : h_21.2.1 qdy = df := (funext fun j => (hs.a (gqdy.S hM) rfl j).1).trans af_qdy
          replace af_qkd : h_21.2.1 qkd = kf := (funext fun j => (hs.a (gqkd.S hM) rfl j).1).trans af_qkd
          replace af_qsm : h_21.2.1 qsm = sf := (funext fun j => (hs.a (gqsm.S hM) rfl j).1).trans af_qsm
          replace af_qbd : h_21.2.1 qbd = bf := (funext fun j => (hs.a (gqbd.S hM) rfl j).1).trans af_qbd
          replace hM := hM.tr (hs.mono ?o56)
          case o56 => decide
          refine hb_if_ne (zx := r_22.toInt) (tgt := 58) hx hb rfl dX9_line_53 ?o57 (fun c_25 => ?_) (fun c_25 => ?_)
          case o57 => decide
          · skip
            replace hr_24 := hr_24.resolve_left (fun z9 => c_25 z9.1)
            replace c_25 := hr_24.1
            replace hr_24 := hr_24.2
            refine lv_aload_n hx hb dX9_line_58 rfl (lv_at hl 0 rfl) ?_
            refine hk_getr hx hb hts hC_9 hown hW (gx.S hM) tt_9 9 ?o58 rfl kw_373 ⟨rfl, rfl, rfl⟩ ((hM.o gx trivial rfl).2.trans f_x_9) dX9_line_59 ?_
            case o58 => decide
            refine lv_iload_n hx hb dX9_line_62 rfl (lv_at hl 1 rfl) ?_
            refine lv_iload_n hx hb dX9_line_63 rfl (lv_at hl 2 rfl) ?_
            refine lv_iload_n hx hb dX9_line_64 rfl (lv_at hl 3 rfl) ?_
            refine lv_iload hx hb dX9_line_65 (lv_at hl 4 rfl) ?_
            refine lv_iload hx hb dX9_line_67 (lv_at hl 5 rfl) ?_
            refine hx_gov (hx_runV (As := [.int i1, .int i2, .int i3, .int i4, .int i5]) (rest := []) ⟨hx, hb, hml, hown, hts⟩ hW (gqb.S hM) tt_1 (T := TX1) (N := 8) rfl (t_X1_addLine_3 l dC dI dA L_20 h_21 H.size qb i1 i2 i3 i4 i5 hT (gqb.S hM) qo (gqo.S hM) ((hM.o gqb trivial rfl).2.trans f_qb_1) qwi (gqwi.S hM) ((hM.o gqb trivial rfl).2.trans f_qb_2) qdy (gqdy.S hM) ((hM.o gqb trivial rfl).2.trans f_qb_3) qkd (gqkd.S hM) ((hM.o gqb trivial rfl).2.trans f_qb_4) qsm (gqsm.S hM) ((hM.o gqb trivial rfl).2.trans f_qb_5) qbd (gqbd.S hM) ((hM.o gqb trivial rfl).2.trans f_qb_6) of af_qo wf af_qwi df af_qdy kf af_qkd sf af_qsm bf af_qbd ln0 f_qb_0 ?o59 hBD) (cwV 5 hts (hx_gV kw_679 kw_676 kw_677 kw_678 kw_98) rfl rfl rfl (by decide +kernel) ⟨Nat.le_of_ble_eq_true rfl, Nat.le_of_ble_eq_true rfl⟩) rfl hl.1 rfl (Nat.le_of_ble_eq_true rfl) dX9_line_69 ⟨Nat.le_of_ble_eq_true rfl, Nat.le_of_ble_eq_true rfl⟩) hW (fun L_26 h_27 H locs p_29 hW => ?_)
            case o59 => omega
            obtain ⟨⟨w_31, w_32, w_33, w_34, w_35, w_36, w_37, fw_31, fw_32, fw_33, fw_34, fw_35, fw_36, fw_37, hr_30⟩, hT, hs⟩ := p_29
            replace hT : hx_T T_tb L_26 h_27 := hT
            replace hs : hx_S T_tb [(1, 0), (13, 0), (14, 0), (15, 0), (16, 0), (17, 0), (18, 0)] L_20 h_21 L_26 h_27 := hs
            replace pf_x_8 : ∀ j : Nat, (j : Int) < (h_27.2.1 x 8).toInt → h_27.2.2 qp j ≠ none := by
              intro j hj; rw [(hs.o (gx.S hM) trivial rfl).1] at hj; rw [(hs.a (gqp.S hM) rfl j).2]; exact pf_x_8 j hj
            replace hM := hM.tr (hs.mono ?o60)
            case o60 => decide
            have fw_31 : h_27.2.1 qb 0 = w_31 := fw_31
            have bw_31 := hT.gi (gqb.S hM) tt_1 (k := 0) rfl
            rw [fw_31] at bw_31
            have bw_31 : 0 ≤ w_31.toInt ∧ w_31.toInt ≤ 400 := bw_31
            have fw_32 : h_27.2.1 qo = w_32 := fw_32
            have fw_33 : h_27.2.1 qwi = w_33 := fw_33
            have fw_34 : h_27.2.1 qdy = w_34 := fw_34
            have fw_35 : h_27.2.1 qkd = w_35 := fw_35
            have fw_36 : h_27.2.1 qsm = w_36 := fw_36
            have fw_37 : h_27.2.1 qbd = w_37 := fw_37
            refine lv_aload_n hx hb dX9_line_72 rfl (lv_at hl 0 rfl) ?_
            refine hk_getr hx hb hts hC_9 hown hW (gx.S hM) tt_9 9 ?o61 rfl kw_373 ⟨rfl, rfl, rfl⟩ ((hM.o gx trivial rfl).2.trans f_x_9) dX9_line_73 ?_
            case o61 => decide
            refine hk_geti hx hb hts hC_1 hown hW (gqb.S hM) tt_1 0 ?o62 rfl kw_197 ⟨rfl, rfl, rfl⟩ fw_31 dX9_line_76 ?_
            case o62 => decide
            refine hx_reti hx hb hr hlk hW ⟨⟨w_31, w_32, w_33, w_34, w_35, w_36, w_37, fw_31, fw_32, fw_33, fw_34, fw_35, fw_36, fw_37, ⟨(Or.inr ⟨?o63, ?o64, by unfold hx_LC; omega⟩), Or.inr ⟨?o65, ?o66, hr_30.2.1⟩, Or.inr ⟨?o67, ?o68, hr_30.2.2.1⟩, Or.inr ⟨?o69, ?o70, hr_30.2.2.2.1⟩, Or.inr ⟨?o71, ?o72, hr_30.2.2.2.2.1⟩, Or.inr ⟨?o73, ?o74, hr_30.2.2.2.2.2.1⟩, hr_30.2.2.2.2.2.2⟩⟩, hT, hM⟩ dX9_line_79
            case o63 => omega
            case o64 => omega
            case o65 => omega
            case o66 => omega
            case o67 => omega
            case o68 => omega
            case o69 => omega
            case o70 => omega
            case o71 => omega
            case o72 => omega
            case o73 => omega
            case o74 => omega
          · skip
            replace hr_24 := hr_24.resolve_right (fun z9 => absurd (c_25.symm.trans z9.1) ?o75)
            case o75 => decide
            replace hr_24 := hr_24.2
            refine lv_iconst (v := -1) hx hb dX9_line_56 ?o76 ?_
            case o76 => decide
            refine hx_reti hx hb hr hlk hW ⟨⟨ln0, of, wf, df, kf, sf, bf, f_qb_0, af_qo, af_qwi, af_qdy, af_qkd, af_qsm, af_qbd, ⟨(Or.inl ⟨?o77, ?o78, by unfold hx_LC; omega⟩), Or.inl ⟨?o79, rfl⟩, Or.inl ⟨?o80, rfl⟩, Or.inl ⟨?o81, rfl⟩, Or.inl ⟨?o82, rfl⟩, Or.inl ⟨?o83, rfl⟩, (by have e9 : ln0.toInt = ln0.toInt := (by omega); rw [e9]; exact hBD)⟩⟩, hT, hM⟩ dX9_line_57
            case o77 => decide
            case o78 => omega
            case o79 => decide
            case o80 => decide
            case o81 => decide
            case o82 => decide
            case o83 => decide


set_option maxHeartbeats 4000000 in
set_option maxRecDepth 100000 in
theorem t_X10_line_3 (l : Launch) (dC : Nat → ClassId) (dI : Nat → Nat → Nat) (dA : Nat → ClassId) (L : List Nat) (h : hx_h) (sz : Nat) (x : Nat) (i1 : Int32) (i2 : Int32) (i3 : Int32) (i4 : Int32) (i5 : Int32) (hT : hx_T T_tb L h) (gx : hx_g L h x 10) (qo : Nat) (gqo : hx_g L h qo 66) (f_x_30 : h.2.2 x 30 = some qo) (qwi : Nat) (gqwi : hx_g L h qwi 67) (f_x_31 : h.2.2 x 31 = some qwi) (qdy : Nat) (gqdy : hx_g L h qdy 68) (f_x_32 : h.2.2 x 32 = some qdy) (qkd : Nat) (gqkd : hx_g L h qkd 69) (f_x_33 : h.2.2 x 33 = some qkd) (qsm : Nat) (gqsm : hx_g L h qsm 70) (f_x_34 : h.2.2 x 34 = some qsm) (of : Nat → Int32) (af_qo : h.2.1 qo = of) (wf : Nat → Int32) (af_qwi : h.2.1 qwi = wf) (df : Nat → Int32) (af_qdy : h.2.1 qdy = df) (kf : Nat → Int32) (af_qkd : h.2.1 qkd = kf) (sf : Nat → Int32) (af_qsm : h.2.1 qsm = sf) (ln0 : Int32) (f_x_29 : h.2.1 x 29 = ln0) (pn0 : Int32) (f_x_20 : h.2.1 x 20 = pn0) (nw0 : Int32) (f_x_0 : h.2.1 x 0 = nw0) : Met l yX10_line (Cond.code yX10_line cX10_line 6 (some .int) :: hx_all) ({ frames := 2, cells := 0, slots := 0, locals := 43 }) (va_Pc [.ref x, .int i1, .int i2, .int i3, .int i4, .int i5] (hx_B T_tb (P_ty dA) (dC, dI) vwCl L h sz)) (va_Qi (fun (r : Int32) (u : List Nat × hx_h) => (∃ (ln1 : Int32) (of1 : Nat → Int32) (wf1 : Nat → Int32) (df1 : Nat → Int32) (kf1 : Nat → Int32) (sf1 : Nat → Int32), u.2.2.1 x 29 = ln1 ∧ u.2.2.1 qo = of1 ∧ u.2.2.1 qwi = wf1 ∧ u.2.2.1 qdy = df1 ∧ u.2.2.1 qkd = kf1 ∧ u.2.2.1 qsm = sf1 ∧ ((hx_LS ln0.toInt pn0.toInt nw0.toInt i1.toInt i2.toInt i3.toInt i4.toInt i5.toInt r.toInt ln1.toInt) ∧ hx_LA ln0.toInt r.toInt i1 of of1 ∧ hx_LA ln0.toInt r.toInt i2 wf wf1 ∧ hx_LA ln0.toInt r.toInt i3 df df1 ∧ hx_LA ln0.toInt r.toInt i4 kf kf1 ∧ hx_LA ln0.toInt r.toInt i5 sf sf1)) ∧ hx_T T_tb u.1 u.2 ∧ hx_S T_tb [(10, 29), (66, 0), (67, 0), (68, 0), (69, 0), (70, 0)] L h u.1 u.2) (hx_E T_tb (P_ty dA) (dC, dI) vwCl (hx_A L sz)) (hx_A L sz)) 0 0 (hx_A L sz) := by
  refine hx_met (lv := [(0, .ref x), (1, .int i1), (2, .int i2), (3, .int i3), (4, .int i4), (5, .int i5)]) (by decide +kernel) rfl (Nat.le_of_ble_eq_true rfl) rfl ?_
  intro p e s m below meth c hx hb hml hr hlk hts0 hown hin hsz hW ls hl
  have hts : ∀ w ∈ hx_all, w.before _ s = true := fun w hw => hts0 w (List.mem_cons_of_mem _ hw)
  have hown : s.vm.findClass "SmallCourtModel" = some m.cls := hown
  have hM : hx_S T_tb [(10, 29), (66, 0), (67, 0), (68, 0), (69, 0), (70, 0)] L h L h := hx_S.rf
  have b_ln0 := hT.gi gx tt_10 (k := 29) rfl
  rw [f_x_29] at b_ln0
  have b_ln0 : 0 ≤ ln0.toInt ∧ ln0.toInt ≤ 400 := b_ln0
  have b_pn0 := hT.gi gx tt_10 (k := 20) rfl
  rw [f_x_20] at b_pn0
  have b_pn0 : 0 ≤ pn0.toInt ∧ pn0.toInt ≤ 40 := b_pn0
  have b_nw0 := hT.gi gx tt_10 (k := 0) rfl
  rw [f_x_0] at b_nw0
  have b_nw0 : 0 ≤ nw0.toInt ∧ nw0.toInt ≤ 7999 := b_nw0
  refine lv_aload_n hx hb dX10_line_0 rfl (lv_at hl 0 rfl) ?_
  refine hk_geti hx hb hts hC_10 hown hW (gx.S hM) tt_10 29 ?o0 rfl kw_1172 ⟨rfl, rfl, rfl⟩ f_x_29 dX10_line_1 ?_
  case o0 => decide
  refine lv_sipush (v := 400) hx hb dX10_line_4 ?o1 ?_
  case o1 => decide
  refine hb_icmp_eq (zx := ln0.toInt) (zy := 400) (tgt := 65) hx hb rfl ?o2 dX10_line_7 ?o3 (fun c_1 => ?_) (fun c_1 => ?_)
  case o2 => decide
  case o3 => decide
  · skip
    refine lv_iconst (v := -1) hx hb dX10_line_65 ?o4 ?_
    case o4 => decide
    refine hx_reti hx hb hr hlk hW ⟨⟨ln0, of, wf, df, kf, sf, f_x_29, af_qo, af_qwi, af_qdy, af_qkd, af_qsm, ⟨(Or.inl ⟨?o5, ?o6, by unfold hx_LC; omega⟩), Or.inl ⟨?o7, rfl⟩, Or.inl ⟨?o8, rfl⟩, Or.inl ⟨?o9, rfl⟩, Or.inl ⟨?o10, rfl⟩, Or.inl ⟨?o11, rfl⟩⟩⟩, hT, hM⟩ dX10_line_66
    case o5 => decide
    case o6 => omega
    case o7 => decide
    case o8 => decide
    case o9 => decide
    case o10 => decide
    case o11 => decide
  · skip
    refine lv_aload_n hx hb dX10_line_10 rfl (lv_at hl 0 rfl) ?_
    refine lv_iload_n hx hb dX10_line_11 rfl (lv_at hl 1 rfl) ?_
    refine hx_goi (hx_runV (As := [.int i1]) (rest := []) ⟨hx, hb, hml, hown, hts⟩ hW (gx.S hM) tt_10 (T := TX10) (N := 98) rfl (t_X10_isPerson l dC dI dA L h s.heap.size x i1 hT (gx.S hM) pn0 ((hM.o gx trivial rfl).1.trans f_x_20)) (cwV 1 hts (hx_gV kw_1552 kw_1549 kw_1551 kw_68 kw_103) rfl rfl rfl (by decide +kernel) ⟨Nat.le_of_ble_eq_true rfl, Nat.le_of_ble_eq_true rfl⟩) rfl hl.1 rfl (Nat.le_of_ble_eq_true rfl) dX10_line_12 ⟨Nat.le_of_ble_eq_true rfl, Nat.le_of_ble_eq_true rfl⟩) hW (fun r_4 L_2 h_3 H locs p_5 hW => ?_)
    obtain ⟨hr_6, hT, hs⟩ := p_5
    replace hT : hx_T T_tb L_2 h_3 := hT
    replace hs : hx_S T_tb [] L h L_2 h_3 := hs
    replace f_x_29 := (hs.o (gx.S hM) trivial rfl).1.trans f_x_29
    replace af_qo : h_3.2.1 qo = of := (funext fun j => (hs.a (gqo.S hM) rfl j).1).trans af_qo
    replace af_qwi : h_3.2.1 qwi = wf := (funext fun j => (hs.a (gqwi.S hM) rfl j).1).trans af_qwi
    replace af_qdy : h_3.2.1 qdy = df := (funext fun j => (hs.a (gqdy.S hM) rfl j).1).trans af_qdy
    replace af_qkd : h_3.2.1 qkd = kf := (funext fun j => (hs.a (gqkd.S hM) rfl j).1).trans af_qkd
    replace af_qsm : h_3.2.1 qsm = sf := (funext fun j => (hs.a (gqsm.S hM) rfl j).1).trans af_qsm
    replace hM := hM.tr (hs.mono ?o12)
    case o12 => decide
    refine hb_if_eq (zx := r_4.toInt) (tgt := 65) hx hb rfl dX10_line_15 ?o13 (fun c_7 => ?_) (fun c_7 => ?_)
    case o13 => decide
    · skip
      replace hr_6 := hr_6.resolve_right (fun z9 => absurd (c_7.symm.trans z9.1) ?o14)
      case o14 => decide
      replace hr_6 := hr_6.2
      refine lv_iconst (v := -1) hx hb dX10_line_65 ?o15 ?_
      case o15 => decide
      refine hx_reti hx hb hr hlk hW ⟨⟨ln0, of, wf, df, kf, sf, f_x_29, af_qo, af_qwi, af_qdy, af_qkd, af_qsm, ⟨(Or.inl ⟨?o16, ?o17, by unfold hx_LC; omega⟩), Or.inl ⟨?o18, rfl⟩, Or.inl ⟨?o19, rfl⟩, Or.inl ⟨?o20, rfl⟩, Or.inl ⟨?o21, rfl⟩, Or.inl ⟨?o22, rfl⟩⟩⟩, hT, hM⟩ dX10_line_66
      case o16 => decide
      case o17 => omega
      case o18 => decide
      case o19 => decide
      case o20 => decide
      case o21 => decide
      case o22 => decide
    · skip
      replace hr_6 := hr_6.resolve_left (fun z9 => c_7 z9.1)
      replace c_7 := hr_6.1
      replace hr_6 := hr_6.2
      refine lv_aload_n hx hb dX10_line_18 rfl (lv_at hl 0 rfl) ?_
      refine lv_iload_n hx hb dX10_line_19 rfl (lv_at hl 2 rfl) ?_
      refine hx_goi (hx_runV (As := [.int i2]) (rest := []) ⟨hx, hb, hml, hown, hts⟩ hW (gx.S hM) tt_10 (T := TX10) (N := 98) rfl (t_X10_isPerson l dC dI dA L_2 h_3 H.size x i2 hT (gx.S hM) pn0 ((hM.o gx trivial rfl).1.trans f_x_20)) (cwV 1 hts (hx_gV kw_1552 kw_1549 kw_1551 kw_68 kw_103) rfl rfl rfl (by decide +kernel) ⟨Nat.le_of_ble_eq_true rfl, Nat.le_of_ble_eq_true rfl⟩) rfl hl.1 rfl (Nat.le_of_ble_eq_true rfl) dX10_line_20 ⟨Nat.le_of_ble_eq_true rfl, Nat.le_of_ble_eq_true rfl⟩) hW (fun r_10 L_8 h_9 H locs p_11 hW => ?_)
      obtain ⟨hr_12, hT, hs⟩ := p_11
      replace hT : hx_T T_tb L_8 h_9 := hT
      replace hs : hx_S T_tb [] L_2 h_3 L_8 h_9 := hs
      replace f_x_29 := (hs.o (gx.S hM) trivial rfl).1.trans f_x_29
      replace af_qo : h_9.2.1 qo = of := (funext fun j => (hs.a (gqo.S hM) rfl j).1).trans af_qo
      replace af_qwi : h_9.2.1 qwi = wf := (funext fun j => (hs.a (gqwi.S hM) rfl j).1).trans af_qwi
      replace af_qdy : h_9.2.1 qdy = df := (funext fun j => (hs.a (gqdy.S hM) rfl j).1).trans af_qdy
      replace af_qkd : h_9.2.1 qkd = kf := (funext fun j => (hs.a (gqkd.S hM) rfl j).1).trans af_qkd
      replace af_qsm : h_9.2.1 qsm = sf := (funext fun j => (hs.a (gqsm.S hM) rfl j).1).trans af_qsm
      replace hM := hM.tr (hs.mono ?o23)
      case o23 => decide
      refine hb_if_eq (zx := r_10.toInt) (tgt := 65) hx hb rfl dX10_line_23 ?o24 (fun c_13 => ?_) (fun c_13 => ?_)
      case o24 => decide
      · skip
        replace hr_12 := hr_12.resolve_right (fun z9 => absurd (c_13.symm.trans z9.1) ?o25)
        case o25 => decide
        replace hr_12 := hr_12.2
        refine lv_iconst (v := -1) hx hb dX10_line_65 ?o26 ?_
        case o26 => decide
        refine hx_reti hx hb hr hlk hW ⟨⟨ln0, of, wf, df, kf, sf, f_x_29, af_qo, af_qwi, af_qdy, af_qkd, af_qsm, ⟨(Or.inl ⟨?o27, ?o28, by unfold hx_LC; omega⟩), Or.inl ⟨?o29, rfl⟩, Or.inl ⟨?o30, rfl⟩, Or.inl ⟨?o31, rfl⟩, Or.inl ⟨?o32, rfl⟩, Or.inl ⟨?o33, rfl⟩⟩⟩, hT, hM⟩ dX10_line_66
        case o27 => decide
        case o28 => omega
        case o29 => decide
        case o30 => decide
        case o31 => decide
        case o32 => decide
        case o33 => decide
      · skip
        replace hr_12 := hr_12.resolve_left (fun z9 => c_13 z9.1)
        replace c_13 := hr_12.1
        replace hr_12 := hr_12.2
        refine lv_iload_n hx hb dX10_line_26 rfl (lv_at hl 1 rfl) ?_
        refine lv_iload_n hx hb dX10_line_27 rfl (lv_at hl 2 rfl) ?_
        refine hb_icmp_eq (zx := i1.toInt) (zy := i2.toInt) (tgt := 65) hx hb rfl rfl dX10_line_28 ?o34 (fun c_14 => ?_) (fun c_14 => ?_)
        case o34 => decide
        · skip
          refine lv_iconst (v := -1) hx hb dX10_line_65 ?o35 ?_
          case o35 => decide
          refine hx_reti hx hb hr hlk hW ⟨⟨ln0, of, wf, df, kf, sf, f_x_29, af_qo, af_qwi, af_qdy, af_qkd, af_qsm, ⟨(Or.inl ⟨?o36, ?o37, by unfold hx_LC; omega⟩), Or.inl ⟨?o38, rfl⟩, Or.inl ⟨?o39, rfl⟩, Or.inl ⟨?o40, rfl⟩, Or.inl ⟨?o41, rfl⟩, Or.inl ⟨?o42, rfl⟩⟩⟩, hT, hM⟩ dX10_line_66
          case o36 => decide
          case o37 => omega
          case o38 => decide
          case o39 => decide
          case o40 => decide
          case o41 => decide
          case o42 => decide
        · skip
          refine lv_iload_n hx hb dX10_line_31 rfl (lv_at hl 3 rfl) ?_
          refine lv_iconst (v := 0) hx hb dX10_line_32 ?o43 ?_
          case o43 => decide
          refine lv_aload_n hx hb dX10_line_33 rfl (lv_at hl 0 rfl) ?_
          refine hk_geti hx hb hts hC_10 hown hW (gx.S hM) tt_10 0 ?o44 rfl kw_1143 ⟨rfl, rfl, rfl⟩ ((hM.o gx trivial rfl).1.trans f_x_0) dX10_line_34 ?_
          case o44 => decide
          have zc_0 : (0 : Int32).toInt = 0 := ?o45
          case o45 => decide
          refine hx_goi (hx_runS (As := [.int i3, .int (0 : Int32), .int nw0]) (rest := []) ⟨hx, hb, hml, hown, hts⟩ hW (t_X10_in l dC dI dA L_8 h_9 H.size i3 (0 : Int32) nw0 hT) (va_cwS 3 hts (hx_gS kw_1445 kw_1443 kw_1444 kw_103) rfl rfl rfl (by decide +kernel) ⟨Nat.le_of_ble_eq_true rfl, Nat.le_of_ble_eq_true rfl⟩) rfl hl.1 rfl (Nat.le_of_ble_eq_true rfl) dX10_line_37 ⟨Nat.le_of_ble_eq_true rfl, Nat.le_of_ble_eq_true rfl⟩) hW (fun r_17 L_15 h_16 H locs p_18 hW => ?_)
          obtain ⟨hr_19, hT, hs⟩ := p_18
          replace hT : hx_T T_tb L_15 h_16 := hT
          replace hs : hx_S T_tb [] L_8 h_9 L_15 h_16 := hs
          replace f_x_29 := (hs.o (gx.S hM) trivial rfl).1.trans f_x_29
          replace af_qo : h_16.2.1 qo = of := (funext fun j => (hs.a (gqo.S hM) rfl j).1).trans af_qo
          replace af_qwi : h_16.2.1 qwi = wf := (funext fun j => (hs.a (gqwi.S hM) rfl j).1).trans af_qwi
          replace af_qdy : h_16.2.1 qdy = df := (funext fun j => (hs.a (gqdy.S hM) rfl j).1).trans af_qdy
          replace af_qkd : h_16.2.1 qkd = kf := (funext fun j => (hs.a (gqkd.S hM) rfl j).1).trans af_qkd
          replace af_qsm : h_16.2.1 qsm = sf := (funext fun j => (hs.a (gqsm.S hM) rfl j).1).trans af_qsm
          replace hM := hM.tr (hs.mono ?o46)
          case o46 => decide
          refine hb_if_eq (zx := r_17.toInt) (tgt := 65) hx hb rfl dX10_line_40 ?o47 (fun c_20 => ?_) (fun c_20 => ?_)
          case o47 => decide
          · skip
            replace hr_19 := hr_19.resolve_right (fun z9 => absurd (c_20.symm.trans z9.1) ?o48)
            case o48 => decide
            replace hr_19 := hr_19.2
            refine lv_iconst (v := -1) hx hb dX10_line_65 ?o49 ?_
            case o49 => decide
            refine hx_reti hx hb hr hlk hW ⟨⟨ln0, of, wf, df, kf, sf, f_x_29, af_qo, af_qwi, af_qdy, af_qkd, af_qsm, ⟨(Or.inl ⟨?o50, ?o51, by unfold hx_LC; omega⟩), Or.inl ⟨?o52, rfl⟩, Or.inl ⟨?o53, rfl⟩, Or.inl ⟨?o54, rfl⟩, Or.inl ⟨?o55, rfl⟩, Or.inl ⟨?o56, rfl⟩⟩⟩, hT, hM⟩ dX10_line_66
            case o50 => decide
            case o51 => omega
            case o52 => decide
            case o53 => decide
            case o54 => decide
            case o55 => decide
            case o56 => decide
          · skip
            replace hr_19 := hr_19.resolve_left (fun z9 => c_20 z9.1)
            replace c_20 := hr_19.1
            replace hr_19 := hr_19.2
            refine lv_iload hx hb dX10_line_43 (lv_at hl 4 rfl) ?_
            refine lv_iconst (v := 0) hx hb dX10_line_45 ?o57 ?_
            case o57 => decide
            refine lv_iconst (v := 3) hx hb dX10_line_46 ?o58 ?_
            case o58 => decide
            have zc_3 : (3 : Int32).toInt = 3 := ?o59
            case o59 => decide
            refine hx_goi (hx_runS (As := [.int i4, .int (0 : Int32), .int (3 : Int32)]) (rest := []) ⟨hx, hb, hml, hown, hts⟩ hW (t_X10_in l dC dI dA L_15 h_16 H.size i4 (0 : Int32) (3 : Int32) hT) (va_cwS 3 hts (hx_gS kw_1445 kw_1443 kw_1444 kw_103) rfl rfl rfl (by decide +kernel) ⟨Nat.le_of_ble_eq_true rfl, Nat.le_of_ble_eq_true rfl⟩) rfl hl.1 rfl (Nat.le_of_ble_eq_true rfl) dX10_line_47 ⟨Nat.le_of_ble_eq_true rfl, Nat.le_of_ble_eq_true rfl⟩) hW (fun r_23 L_21 h_22 H locs p_24 hW => ?_)
            obtain ⟨hr_25, hT, hs⟩ := p_24
            replace hT : hx_T T_tb L_21 h_22 := hT
            replace hs : hx_S T_tb [] L_15 h_16 L_21 h_22 := hs
            replace f_x_29 := (hs.o (gx.S hM) trivial rfl).1.trans f_x_29
            replace af_qo : h_22.2.1 qo = of := (funext fun j => (hs.a (gqo.S hM) rfl j).1).trans af_qo
            replace af_qwi : h_22.2.1 qwi = wf := (funext fun j => (hs.a (gqwi.S hM) rfl j).1).trans af_qwi
            replace af_qdy : h_22.2.1 qdy = df := (funext fun j => (hs.a (gqdy.S hM) rfl j).1).trans af_qdy
            replace af_qkd : h_22.2.1 qkd = kf := (funext fun j => (hs.a (gqkd.S hM) rfl j).1).trans af_qkd
            replace af_qsm : h_22.2.1 qsm = sf := (funext fun j => (hs.a (gqsm.S hM) rfl j).1).trans af_qsm
            replace hM := hM.tr (hs.mono ?o60)
            case o60 => decide
            refine hb_if_eq (zx := r_23.toInt) (tgt := 65) hx hb rfl dX10_line_50 ?o61 (fun c_26 => ?_) (fun c_26 => ?_)
            case o61 => decide
            · skip
              replace hr_25 := hr_25.resolve_right (fun z9 => absurd (c_26.symm.trans z9.1) ?o62)
              case o62 => decide
              replace hr_25 := hr_25.2
              refine lv_iconst (v := -1) hx hb dX10_line_65 ?o63 ?_
              case o63 => decide
              refine hx_reti hx hb hr hlk hW ⟨⟨ln0, of, wf, df, kf, sf, f_x_29, af_qo, af_qwi, af_qdy, af_qkd, af_qsm, ⟨(Or.inl ⟨?o64, ?o65, by unfold hx_LC; omega⟩), Or.inl ⟨?o66, rfl⟩, Or.inl ⟨?o67, rfl⟩, Or.inl ⟨?o68, rfl⟩, Or.inl ⟨?o69, rfl⟩, Or.inl ⟨?o70, rfl⟩⟩⟩, hT, hM⟩ dX10_line_66
              case o64 => decide
              case o65 => omega
              case o66 => decide
              case o67 => decide
              case o68 => decide
              case o69 => decide
              case o70 => decide
            · skip
              replace hr_25 := hr_25.resolve_left (fun z9 => c_26 z9.1)
              replace c_26 := hr_25.1
              replace hr_25 := hr_25.2
              refine lv_iload hx hb dX10_line_53 (lv_at hl 5 rfl) ?_
              refine lv_iconst (v := 1) hx hb dX10_line_55 ?o71 ?_
              case o71 => decide
              refine lv_sipush (v := 9999) hx hb dX10_line_56 ?o72 ?_
              case o72 => decide
              have zc_9999 : (9999 : Int32).toInt = 9999 := ?o73
              case o73 => decide
              have zc_1 : (1 : Int32).toInt = 1 := ?o74
              case o74 => decide
              refine hx_goi (hx_runS (As := [.int i5, .int (1 : Int32), .int (9999 : Int32)]) (rest := []) ⟨hx, hb, hml, hown, hts⟩ hW (t_X10_in l dC dI dA L_21 h_22 H.size i5 (1 : Int32) (9999 : Int32) hT) (va_cwS 3 hts (hx_gS kw_1445 kw_1443 kw_1444 kw_103) rfl rfl rfl (by decide +kernel) ⟨Nat.le_of_ble_eq_true rfl, Nat.le_of_ble_eq_true rfl⟩) rfl hl.1 rfl (Nat.le_of_ble_eq_true rfl) dX10_line_59 ⟨Nat.le_of_ble_eq_true rfl, Nat.le_of_ble_eq_true rfl⟩) hW (fun r_29 L_27 h_28 H locs p_30 hW => ?_)
              obtain ⟨hr_31, hT, hs⟩ := p_30
              replace hT : hx_T T_tb L_27 h_28 := hT
              replace hs : hx_S T_tb [] L_21 h_22 L_27 h_28 := hs
              replace f_x_29 := (hs.o (gx.S hM) trivial rfl).1.trans f_x_29
              replace af_qo : h_28.2.1 qo = of := (funext fun j => (hs.a (gqo.S hM) rfl j).1).trans af_qo
              replace af_qwi : h_28.2.1 qwi = wf := (funext fun j => (hs.a (gqwi.S hM) rfl j).1).trans af_qwi
              replace af_qdy : h_28.2.1 qdy = df := (funext fun j => (hs.a (gqdy.S hM) rfl j).1).trans af_qdy
              replace af_qkd : h_28.2.1 qkd = kf := (funext fun j => (hs.a (gqkd.S hM) rfl j).1).trans af_qkd
              replace af_qsm : h_28.2.1 qsm = sf := (funext fun j => (hs.a (gqsm.S hM) rfl j).1).trans af_qsm
              replace hM := hM.tr (hs.mono ?o75)
              case o75 => decide
              refine hb_if_ne (zx := r_29.toInt) (tgt := 67) hx hb rfl dX10_line_62 ?o76 (fun c_32 => ?_) (fun c_32 => ?_)
              case o76 => decide
              · skip
                replace hr_31 := hr_31.resolve_left (fun z9 => c_32 z9.1)
                replace c_32 := hr_31.1
                replace hr_31 := hr_31.2
                refine lv_aload_n hx hb dX10_line_67 rfl (lv_at hl 0 rfl) ?_
                refine hk_getr hx hb hts hC_10 hown hW (gx.S hM) tt_10 30 ?o77 rfl kw_1173 ⟨rfl, rfl, rfl⟩ ((hM.o gx trivial rfl).2.trans f_x_30) dX10_line_68 ?_
                case o77 => decide
                refine lv_aload_n hx hb dX10_line_71 rfl (lv_at hl 0 rfl) ?_
                refine hk_geti hx hb hts hC_10 hown hW (gx.S hM) tt_10 29 ?o78 rfl kw_1172 ⟨rfl, rfl, rfl⟩ f_x_29 dX10_line_72 ?_
                case o78 => decide
                refine lv_iload_n hx hb dX10_line_75 rfl (lv_at hl 1 rfl) ?_
                have af_qoO := af_qo
                refine hx_iast hx hb hW hT (hx_S.rf (M := [(66, 0)])) (gqo.S hM) tt_66 rfl ⟨?o79, ?o80⟩ rfl (i32_r _) (List.mem_singleton.mpr rfl) dX10_line_76 (fun H locs h_33 eh_33 hW hT hs => ?_)
                case o79 => omega
                case o80 => omega
                replace f_x_29 := (hs.o (gx.S hM) trivial rfl).1.trans f_x_29
                replace af_qwi : h_33.2.1 qwi = wf := (funext fun j => (hs.a (gqwi.S hM) rfl j).1).trans af_qwi
                replace af_qdy : h_33.2.1 qdy = df := (funext fun j => (hs.a (gqdy.S hM) rfl j).1).trans af_qdy
                replace af_qkd : h_33.2.1 qkd = kf := (funext fun j => (hs.a (gqkd.S hM) rfl j).1).trans af_qkd
                replace af_qsm : h_33.2.1 qsm = sf := (funext fun j => (hs.a (gqsm.S hM) rfl j).1).trans af_qsm
                replace hM := hM.tr (hs.mono ?o81)
                case o81 => decide
                obtain ⟨fa_34, dfa_34⟩ : ∃ g : Nat → Int32, g = hx_up of ln0.toNatClampNeg i1 := ⟨_, rfl⟩
                have nfa_34 : h_33.2.1 qo = fa_34 := ?o82
                case o82 =>
                  rw [eh_33, dfa_34, ← af_qoO]
                  exact hx_pi_fun _ _ _ _
                refine lv_aload_n hx hb dX10_line_77 rfl (lv_at hl 0 rfl) ?_
                refine hk_getr hx hb hts hC_10 hown hW (gx.S hM) tt_10 31 ?o83 rfl kw_1174 ⟨rfl, rfl, rfl⟩ ((hM.o gx trivial rfl).2.trans f_x_31) dX10_line_78 ?_
                case o83 => decide
                refine lv_aload_n hx hb dX10_line_81 rfl (lv_at hl 0 rfl) ?_
                refine hk_geti hx hb hts hC_10 hown hW (gx.S hM) tt_10 29 ?o84 rfl kw_1172 ⟨rfl, rfl, rfl⟩ f_x_29 dX10_line_82 ?_
                case o84 => decide
                refine lv_iload_n hx hb dX10_line_85 rfl (lv_at hl 2 rfl) ?_
                have af_qwiO := af_qwi
                refine hx_iast hx hb hW hT (hx_S.rf (M := [(67, 0)])) (gqwi.S hM) tt_67 rfl ⟨?o85, ?o86⟩ rfl (i32_r _) (List.mem_singleton.mpr rfl) dX10_line_86 (fun H locs h_35 eh_35 hW hT hs => ?_)
                case o85 => omega
                case o86 => omega
                replace f_x_29 := (hs.o (gx.S hM) trivial rfl).1.trans f_x_29
                replace af_qdy : h_35.2.1 qdy = df := (funext fun j => (hs.a (gqdy.S hM) rfl j).1).trans af_qdy
                replace af_qkd : h_35.2.1 qkd = kf := (funext fun j => (hs.a (gqkd.S hM) rfl j).1).trans af_qkd
                replace af_qsm : h_35.2.1 qsm = sf := (funext fun j => (hs.a (gqsm.S hM) rfl j).1).trans af_qsm
                replace nfa_34 : h_35.2.1 qo = fa_34 := (funext fun j => (hs.a (gqo.S hM) rfl j).1).trans nfa_34
                replace hM := hM.tr (hs.mono ?o87)
                case o87 => decide
                obtain ⟨fa_36, dfa_36⟩ : ∃ g : Nat → Int32, g = hx_up wf ln0.toNatClampNeg i2 := ⟨_, rfl⟩
                have nfa_36 : h_35.2.1 qwi = fa_36 := ?o88
                case o88 =>
                  rw [eh_35, dfa_36, ← af_qwiO]
                  exact hx_pi_fun _ _ _ _
                refine lv_aload_n hx hb dX10_line_87 rfl (lv_at hl 0 rfl) ?_
                refine hk_getr hx hb hts hC_10 hown hW (gx.S hM) tt_10 32 ?o89 rfl kw_1175 ⟨rfl, rfl, rfl⟩ ((hM.o gx trivial rfl).2.trans f_x_32) dX10_line_88 ?_
                case o89 => decide
                refine lv_aload_n hx hb dX10_line_91 rfl (lv_at hl 0 rfl) ?_
                refine hk_geti hx hb hts hC_10 hown hW (gx.S hM) tt_10 29 ?o90 rfl kw_1172 ⟨rfl, rfl, rfl⟩ f_x_29 dX10_line_92 ?_
                case o90 => decide
                refine lv_iload_n hx hb dX10_line_95 rfl (lv_at hl 3 rfl) ?_
                have af_qdyO := af_qdy
                refine hx_iast hx hb hW hT (hx_S.rf (M := [(68, 0)])) (gqdy.S hM) tt_68 rfl ⟨?o91, ?o92⟩ rfl (i32_r _) (List.mem_singleton.mpr rfl) dX10_line_96 (fun H locs h_37 eh_37 hW hT hs => ?_)
                case o91 => omega
                case o92 => omega
                replace f_x_29 := (hs.o (gx.S hM) trivial rfl).1.trans f_x_29
                replace af_qkd : h_37.2.1 qkd = kf := (funext fun j => (hs.a (gqkd.S hM) rfl j).1).trans af_qkd
                replace af_qsm : h_37.2.1 qsm = sf := (funext fun j => (hs.a (gqsm.S hM) rfl j).1).trans af_qsm
                replace nfa_34 : h_37.2.1 qo = fa_34 := (funext fun j => (hs.a (gqo.S hM) rfl j).1).trans nfa_34
                replace nfa_36 : h_37.2.1 qwi = fa_36 := (funext fun j => (hs.a (gqwi.S hM) rfl j).1).trans nfa_36
                replace hM := hM.tr (hs.mono ?o93)
                case o93 => decide
                obtain ⟨fa_38, dfa_38⟩ : ∃ g : Nat → Int32, g = hx_up df ln0.toNatClampNeg i3 := ⟨_, rfl⟩
                have nfa_38 : h_37.2.1 qdy = fa_38 := ?o94
                case o94 =>
                  rw [eh_37, dfa_38, ← af_qdyO]
                  exact hx_pi_fun _ _ _ _
                refine lv_aload_n hx hb dX10_line_97 rfl (lv_at hl 0 rfl) ?_
                refine hk_getr hx hb hts hC_10 hown hW (gx.S hM) tt_10 33 ?o95 rfl kw_1176 ⟨rfl, rfl, rfl⟩ ((hM.o gx trivial rfl).2.trans f_x_33) dX10_line_98 ?_
                case o95 => decide
                refine lv_aload_n hx hb dX10_line_101 rfl (lv_at hl 0 rfl) ?_
                refine hk_geti hx hb hts hC_10 hown hW (gx.S hM) tt_10 29 ?o96 rfl kw_1172 ⟨rfl, rfl, rfl⟩ f_x_29 dX10_line_102 ?_
                case o96 => decide
                refine lv_iload hx hb dX10_line_105 (lv_at hl 4 rfl) ?_
                have af_qkdO := af_qkd
                refine hx_iast hx hb hW hT (hx_S.rf (M := [(69, 0)])) (gqkd.S hM) tt_69 rfl ⟨?o97, ?o98⟩ rfl (i32_r _) (List.mem_singleton.mpr rfl) dX10_line_107 (fun H locs h_39 eh_39 hW hT hs => ?_)
                case o97 => omega
                case o98 => omega
                replace f_x_29 := (hs.o (gx.S hM) trivial rfl).1.trans f_x_29
                replace af_qsm : h_39.2.1 qsm = sf := (funext fun j => (hs.a (gqsm.S hM) rfl j).1).trans af_qsm
                replace nfa_34 : h_39.2.1 qo = fa_34 := (funext fun j => (hs.a (gqo.S hM) rfl j).1).trans nfa_34
                replace nfa_36 : h_39.2.1 qwi = fa_36 := (funext fun j => (hs.a (gqwi.S hM) rfl j).1).trans nfa_36
                replace nfa_38 : h_39.2.1 qdy = fa_38 := (funext fun j => (hs.a (gqdy.S hM) rfl j).1).trans nfa_38
                replace hM := hM.tr (hs.mono ?o99)
                case o99 => decide
                obtain ⟨fa_40, dfa_40⟩ : ∃ g : Nat → Int32, g = hx_up kf ln0.toNatClampNeg i4 := ⟨_, rfl⟩
                have nfa_40 : h_39.2.1 qkd = fa_40 := ?o100
                case o100 =>
                  rw [eh_39, dfa_40, ← af_qkdO]
                  exact hx_pi_fun _ _ _ _
                refine lv_aload_n hx hb dX10_line_108 rfl (lv_at hl 0 rfl) ?_
                refine hk_getr hx hb hts hC_10 hown hW (gx.S hM) tt_10 34 ?o101 rfl kw_1177 ⟨rfl, rfl, rfl⟩ ((hM.o gx trivial rfl).2.trans f_x_34) dX10_line_109 ?_
                case o101 => decide
                refine lv_aload_n hx hb dX10_line_112 rfl (lv_at hl 0 rfl) ?_
                refine hk_geti hx hb hts hC_10 hown hW (gx.S hM) tt_10 29 ?o102 rfl kw_1172 ⟨rfl, rfl, rfl⟩ f_x_29 dX10_line_113 ?_
                case o102 => decide
                refine lv_iload hx hb dX10_line_116 (lv_at hl 5 rfl) ?_
                have af_qsmO := af_qsm
                refine hx_iast hx hb hW hT (hx_S.rf (M := [(70, 0)])) (gqsm.S hM) tt_70 rfl ⟨?o103, ?o104⟩ rfl (i32_r _) (List.mem_singleton.mpr rfl) dX10_line_118 (fun H locs h_41 eh_41 hW hT hs => ?_)
                case o103 => omega
                case o104 => omega
                replace f_x_29 := (hs.o (gx.S hM) trivial rfl).1.trans f_x_29
                replace nfa_34 : h_41.2.1 qo = fa_34 := (funext fun j => (hs.a (gqo.S hM) rfl j).1).trans nfa_34
                replace nfa_36 : h_41.2.1 qwi = fa_36 := (funext fun j => (hs.a (gqwi.S hM) rfl j).1).trans nfa_36
                replace nfa_38 : h_41.2.1 qdy = fa_38 := (funext fun j => (hs.a (gqdy.S hM) rfl j).1).trans nfa_38
                replace nfa_40 : h_41.2.1 qkd = fa_40 := (funext fun j => (hs.a (gqkd.S hM) rfl j).1).trans nfa_40
                replace hM := hM.tr (hs.mono ?o105)
                case o105 => decide
                obtain ⟨fa_42, dfa_42⟩ : ∃ g : Nat → Int32, g = hx_up sf ln0.toNatClampNeg i5 := ⟨_, rfl⟩
                have nfa_42 : h_41.2.1 qsm = fa_42 := ?o106
                case o106 =>
                  rw [eh_41, dfa_42, ← af_qsmO]
                  exact hx_pi_fun _ _ _ _
                refine lv_aload_n hx hb dX10_line_119 rfl (lv_at hl 0 rfl) ?_
                refine lv_dup hx hb dX10_line_120 rfl ?_
                refine hk_geti hx hb hts hC_10 hown hW (gx.S hM) tt_10 29 ?o107 rfl kw_1172 ⟨rfl, rfl, rfl⟩ f_x_29 dX10_line_121 ?_
                case o107 => decide
                refine lv_iconst (v := 1) hx hb dX10_line_124 ?o108 ?_
                case o108 => decide
                refine lv_iadd hx hb dX10_line_125 ?_
                have rg_43 := i32_r ln0
                refine lv_topi (fun x_44 ex_44 => ?_)
                have zx_44 : x_44.toInt = ln0.toInt + 1 := ?o109
                case o109 =>
                  rw [ex_44]
                  refine i32_add rfl ?o110 ?o111 ?o112
                  case o110 => decide
                  case o111 => omega
                  case o112 => omega
                refine hx_puti hx hb hts hC_10 hown hW hT (hx_S.rf (M := [(10, 29)])) (gx.S hM) tt_10 29 ?o113 rfl kw_1172 ⟨rfl, rfl, rfl⟩ rfl (x := x_44) ⟨?o114, ?o115⟩ rfl rfl rfl (List.mem_singleton.mpr rfl) dX10_line_126 (fun H locs h_45 eh_45 hW hT hs => ?_)
                case o113 => decide
                case o114 => omega
                case o115 => omega
                replace nfa_34 : h_45.2.1 qo = fa_34 := (funext fun j => (hs.a (gqo.S hM) rfl j).1).trans nfa_34
                replace nfa_36 : h_45.2.1 qwi = fa_36 := (funext fun j => (hs.a (gqwi.S hM) rfl j).1).trans nfa_36
                replace nfa_38 : h_45.2.1 qdy = fa_38 := (funext fun j => (hs.a (gqdy.S hM) rfl j).1).trans nfa_38
                replace nfa_40 : h_45.2.1 qkd = fa_40 := (funext fun j => (hs.a (gqkd.S hM) rfl j).1).trans nfa_40
                replace nfa_42 : h_45.2.1 qsm = fa_42 := (funext fun j => (hs.a (gqsm.S hM) rfl j).1).trans nfa_42
                replace hM := hM.tr (hs.mono ?o116)
                case o116 => decide
                have f_46 : h_45.2.1 x 29 = x_44 := ?o117
                case o117 =>
                  rw [eh_45]
                  exact hx_pi_at _ _ _ _
                refine lv_aload_n hx hb dX10_line_129 rfl (lv_at hl 0 rfl) ?_
                refine hk_geti hx hb hts hC_10 hown hW (gx.S hM) tt_10 29 ?o118 rfl kw_1172 ⟨rfl, rfl, rfl⟩ f_46 dX10_line_130 ?_
                case o118 => decide
                refine hx_reti hx hb hr hlk hW ⟨⟨x_44, fa_34, fa_36, fa_38, fa_40, fa_42, f_46, nfa_34, nfa_36, nfa_38, nfa_40, nfa_42, ⟨(Or.inr ⟨?o119, ?o120, by unfold hx_LC; omega⟩), Or.inr ⟨?o121, ?o122, dfa_34⟩, Or.inr ⟨?o123, ?o124, dfa_36⟩, Or.inr ⟨?o125, ?o126, dfa_38⟩, Or.inr ⟨?o127, ?o128, dfa_40⟩, Or.inr ⟨?o129, ?o130, dfa_42⟩⟩⟩, hT, hM⟩ dX10_line_133
                case o119 => omega
                case o120 => omega
                case o121 => omega
                case o122 => omega
                case o123 => omega
                case o124 => omega
                case o125 => omega
                case o126 => omega
                case o127 => omega
                case o128 => omega
                case o129 => omega
                case o130 => omega
              · skip
                replace hr_31 := hr_31.resolve_right (fun z9 => absurd (c_32.symm.trans z9.1) ?o131)
                case o131 => decide
                replace hr_31 := hr_31.2
                refine lv_iconst (v := -1) hx hb dX10_line_65 ?o132 ?_
                case o132 => decide
                refine hx_reti hx hb hr hlk hW ⟨⟨ln0, of, wf, df, kf, sf, f_x_29, af_qo, af_qwi, af_qdy, af_qkd, af_qsm, ⟨(Or.inl ⟨?o133, ?o134, by unfold hx_LC; omega⟩), Or.inl ⟨?o135, rfl⟩, Or.inl ⟨?o136, rfl⟩, Or.inl ⟨?o137, rfl⟩, Or.inl ⟨?o138, rfl⟩, Or.inl ⟨?o139, rfl⟩⟩⟩, hT, hM⟩ dX10_line_66
                case o133 => decide
                case o134 => omega
                case o135 => decide
                case o136 => decide
                case o137 => decide
                case o138 => decide
                case o139 => decide


set_option maxHeartbeats 4000000 in
set_option maxRecDepth 100000 in
theorem t_X9_book_2 (l : Launch) (dC : Nat → ClassId) (dI : Nat → Nat → Nat) (dA : Nat → ClassId) (L : List Nat) (h : hx_h) (sz : Nat) (x : Nat) (i1 : Int32) (i2 : Int32) (i3 : Int32) (i4 : Int32) (hT : hx_T T_tb L h) (gx : hx_g L h x 9) (qp : Nat) (gqp : hx_g L h qp 44) (f_x_7 : h.2.2 x 7 = some qp) (qb : Nat) (gqb : hx_g L h qb 1) (f_x_9 : h.2.2 x 9 = some qb) (qo : Nat) (gqo : hx_g L h qo 13) (f_qb_1 : h.2.2 qb 1 = some qo) (qwi : Nat) (gqwi : hx_g L h qwi 14) (f_qb_2 : h.2.2 qb 2 = some qwi) (qdy : Nat) (gqdy : hx_g L h qdy 15) (f_qb_3 : h.2.2 qb 3 = some qdy) (qkd : Nat) (gqkd : hx_g L h qkd 16) (f_qb_4 : h.2.2 qb 4 = some qkd) (qsm : Nat) (gqsm : hx_g L h qsm 17) (f_qb_5 : h.2.2 qb 5 = some qsm) (qbd : Nat) (gqbd : hx_g L h qbd 18) (f_qb_6 : h.2.2 qb 6 = some qbd) (qtk : Nat) (gqtk : hx_g L h qtk 19) (f_qb_7 : h.2.2 qb 7 = some qtk) (of : Nat → Int32) (af_qo : h.2.1 qo = of) (wf : Nat → Int32) (af_qwi : h.2.1 qwi = wf) (df : Nat → Int32) (af_qdy : h.2.1 qdy = df) (kf : Nat → Int32) (af_qkd : h.2.1 qkd = kf) (sf : Nat → Int32) (af_qsm : h.2.1 qsm = sf) (bf : Nat → Int32) (af_qbd : h.2.1 qbd = bf) (tf : Nat → Int32) (af_qtk : h.2.1 qtk = tf) (ln0 : Int32) (f_qb_0 : h.2.1 qb 0 = ln0) (pn0 : Int32) (f_x_8 : h.2.1 x 8 = pn0) (hBD : hy_BD df bf ln0.toInt.toNat) (hDY : hy_DY df ln0.toInt.toNat) (pf_x_8 : ∀ j : Nat, (j : Int) < (h.2.1 x 8).toInt → h.2.2 qp j ≠ none) : Met l yX9_book (Cond.code yX9_book cX9_book 5 (some .int) :: hx_all) ({ frames := 4, cells := 0, slots := 0, locals := 92 }) (va_Pc [.ref x, .int i1, .int i2, .int i3, .int i4] (hx_B T_tb (P_ty dA) (dC, dI) vwCl L h sz)) (va_Qi (fun (r : Int32) (u : List Nat × hx_h) => (hy_BK pn0.toInt i1.toInt i2.toInt i3.toInt i4.toInt r.toInt (hy_bs of wf df kf sf i1 i2 i3 ln0.toInt.toNat).toInt (hy_G of wf df kf sf bf i1 i2 i3 ln0.toInt.toNat ln0.toInt.toNat).2 (hy_dr of df i1 (0) ln0.toInt.toNat).1) ∧ hx_T T_tb u.1 u.2 ∧ hx_S T_tb [(19, 0)] L h u.1 u.2) (hx_E T_tb (P_ty dA) (dC, dI) vwCl (hx_A L sz)) (hx_A L sz)) 0 0 (hx_A L sz) := by
  refine hx_met (lv := [(0, .ref x), (1, .int i1), (2, .int i2), (3, .int i3), (4, .int i4)]) (by decide +kernel) rfl (Nat.le_of_ble_eq_true rfl) rfl ?_
  intro p e s m below meth c hx hb hml hr hlk hts0 hown hin hsz hW ls hl
  have hts : ∀ w ∈ hx_all, w.before _ s = true := fun w hw => hts0 w (List.mem_cons_of_mem _ hw)
  have hown : s.vm.findClass "SmallCourt" = some m.cls := hown
  have hM : hx_S T_tb [(19, 0)] L h L h := hx_S.rf
  have b_ln0 := hT.gi gqb tt_1 (k := 0) rfl
  rw [f_qb_0] at b_ln0
  have b_ln0 : 0 ≤ ln0.toInt ∧ ln0.toInt ≤ 400 := b_ln0
  have b_pn0 := hT.gi gx tt_9 (k := 8) rfl
  rw [f_x_8] at b_pn0
  have b_pn0 : 0 ≤ pn0.toInt ∧ pn0.toInt ≤ 40 := b_pn0
  refine lv_aload_n hx hb dX9_book_0 rfl (lv_at hl 0 rfl) ?_
  refine lv_iload_n hx hb dX9_book_1 rfl (lv_at hl 1 rfl) ?_
  refine lv_iload_n hx hb dX9_book_2 rfl (lv_at hl 2 rfl) ?_
  refine hx_goi (hx_runV (As := [.int i1, .int i2]) (rest := []) ⟨hx, hb, hml, hown, hts⟩ hW (gx.S hM) tt_9 (T := TX9) (N := 20) rfl (t_X9_areTwo_2 l dC dI dA L h s.heap.size x i1 i2 hT (gx.S hM) pn0 ((hM.o gx trivial rfl).1.trans f_x_8) qp (gqp.S hM) ((hM.o gx trivial rfl).2.trans f_x_7) pf_x_8) (cwV 2 hts (hx_gV kw_675 kw_672 kw_674 kw_21 kw_94) rfl rfl rfl (by decide +kernel) ⟨Nat.le_of_ble_eq_true rfl, Nat.le_of_ble_eq_true rfl⟩) rfl hl.1 rfl (Nat.le_of_ble_eq_true rfl) dX9_book_3 ⟨Nat.le_of_ble_eq_true rfl, Nat.le_of_ble_eq_true rfl⟩) hW (fun r_3 L_1 h_2 H locs p_4 hW => ?_)
  obtain ⟨hr_5, hT, hs⟩ := p_4
  replace hT : hx_T T_tb L_1 h_2 := hT
  replace hs : hx_S T_tb [] L h L_1 h_2 := hs
  replace pf_x_8 : ∀ j : Nat, (j : Int) < (h_2.2.1 x 8).toInt → h_2.2.2 qp j ≠ none := by
    intro j hj; rw [(hs.o (gx.S hM) trivial rfl).1] at hj; rw [(hs.a (gqp.S hM) rfl j).2]; exact pf_x_8 j hj
  replace af_qtk : h_2.2.1 qtk = tf := (funext fun j => (hs.a (gqtk.S hM) rfl j).1).trans af_qtk
  replace hM := hM.tr (hs.mono ?o0)
  case o0 => decide
  refine hb_if_eq (zx := r_3.toInt) (tgt := 16) hx hb rfl dX9_book_6 ?o1 (fun c_6 => ?_) (fun c_6 => ?_)
  case o1 => decide
  · skip
    replace hr_5 := hr_5.resolve_right (fun z9 => absurd (c_6.symm.trans z9.1) ?o2)
    case o2 => decide
    replace hr_5 := hr_5.2
    refine lv_ldc (v := -1000000) hx hb hown (hts _ kw_684) dX9_book_16 ?_
    exact hx_reti hx hb hr hlk hW ⟨(hy_BK_n (by unfold hy_BC; omega) (by first | rfl | omega | decide)), hT, hM⟩ dX9_book_18
  · skip
    replace hr_5 := hr_5.resolve_left (fun z9 => c_6 z9.1)
    replace c_6 := hr_5.1
    replace hr_5 := hr_5.2
    refine lv_iload_n hx hb dX9_book_9 rfl (lv_at hl 3 rfl) ?_
    refine hx_goi (hx_runS (As := [.int i3]) (rest := []) ⟨hx, hb, hml, hown, hts⟩ hW (t_X9_isDay_2 l dC dI dA L_1 h_2 H.size i3 hT) (va_cwS 1 hts (hx_gS kw_431 kw_429 kw_430 kw_94) rfl rfl rfl (by decide +kernel) ⟨Nat.le_of_ble_eq_true rfl, Nat.le_of_ble_eq_true rfl⟩) rfl hl.1 rfl (Nat.le_of_ble_eq_true rfl) dX9_book_10 ⟨Nat.le_of_ble_eq_true rfl, Nat.le_of_ble_eq_true rfl⟩) hW (fun r_9 L_7 h_8 H locs p_10 hW => ?_)
    obtain ⟨hr_11, hT, hs⟩ := p_10
    replace hT : hx_T T_tb L_7 h_8 := hT
    replace hs : hx_S T_tb [] L_1 h_2 L_7 h_8 := hs
    replace pf_x_8 : ∀ j : Nat, (j : Int) < (h_8.2.1 x 8).toInt → h_8.2.2 qp j ≠ none := by
      intro j hj; rw [(hs.o (gx.S hM) trivial rfl).1] at hj; rw [(hs.a (gqp.S hM) rfl j).2]; exact pf_x_8 j hj
    replace af_qtk : h_8.2.1 qtk = tf := (funext fun j => (hs.a (gqtk.S hM) rfl j).1).trans af_qtk
    replace hM := hM.tr (hs.mono ?o3)
    case o3 => decide
    refine hb_if_ne (zx := r_9.toInt) (tgt := 19) hx hb rfl dX9_book_13 ?o4 (fun c_12 => ?_) (fun c_12 => ?_)
    case o4 => decide
    · skip
      replace hr_11 := hr_11.resolve_left (fun z9 => c_12 z9.1)
      replace c_12 := hr_11.1
      replace hr_11 := hr_11.2
      refine lv_iload hx hb dX9_book_19 (lv_at hl 4 rfl) ?_
      rcases (show (i4.toInt < 0 ∨ 2 < i4.toInt) ∨ i4.toInt = 0 ∨ i4.toInt = 1 ∨ i4.toInt = 2 from by omega) with c_13 | c_13 | c_13 | c_13
      · refine lv_tableOut (tgt := 79) hx hb dX9_book_21 c_13 ?o5 ?_
        case o5 => decide
        refine lv_ldc (v := -1000000) hx hb hown (hts _ kw_684) dX9_book_79 ?_
        exact hx_reti hx hb hr hlk hW ⟨(hy_BK_n (by unfold hy_BC; omega) (by first | rfl | omega | decide)), hT, hM⟩ dX9_book_81
      · refine lv_tableIn (off := 27) (tgt := 48) hx hb dX9_book_21 ?o6 ?o7 (by rw [c_13]; rfl) ?o8 ?_
        case o6 => omega
        case o7 => omega
        case o8 => decide
        refine lv_aload_n hx hb dX9_book_48 rfl (lv_at hl 0 rfl) ?_
        refine hk_getr hx hb hts hC_9 hown hW (gx.S hM) tt_9 9 ?o9 rfl kw_373 ⟨rfl, rfl, rfl⟩ ((hM.o gx trivial rfl).2.trans f_x_9) dX9_book_49 ?_
        case o9 => decide
        refine lv_iload_n hx hb dX9_book_52 rfl (lv_at hl 1 rfl) ?_
        refine lv_iload_n hx hb dX9_book_53 rfl (lv_at hl 2 rfl) ?_
        refine lv_iload_n hx hb dX9_book_54 rfl (lv_at hl 3 rfl) ?_
        refine hx_goi (hx_runV (As := [.int i1, .int i2, .int i3]) (rest := []) ⟨hx, hb, hml, hown, hts⟩ hW (gqb.S hM) tt_1 (T := TX1) (N := 8) rfl (t_X1_sumWith_2 l dC dI dA L_7 h_8 H.size qb i1 i2 i3 hT (gqb.S hM) qo (gqo.S hM) ((hM.o gqb trivial rfl).2.trans f_qb_1) qwi (gqwi.S hM) ((hM.o gqb trivial rfl).2.trans f_qb_2) qdy (gqdy.S hM) ((hM.o gqb trivial rfl).2.trans f_qb_3) qkd (gqkd.S hM) ((hM.o gqb trivial rfl).2.trans f_qb_4) qsm (gqsm.S hM) ((hM.o gqb trivial rfl).2.trans f_qb_5) of (hx_afS hM gqo rfl af_qo) wf (hx_afS hM gqwi rfl af_qwi) df (hx_afS hM gqdy rfl af_qdy) kf (hx_afS hM gqkd rfl af_qkd) sf (hx_afS hM gqsm rfl af_qsm) ln0 ((hM.o gqb trivial rfl).1.trans f_qb_0)) (cwV 3 hts (hx_gV kw_688 kw_685 kw_686 kw_687 kw_98) rfl rfl rfl (by decide +kernel) ⟨Nat.le_of_ble_eq_true rfl, Nat.le_of_ble_eq_true rfl⟩) rfl hl.1 rfl (Nat.le_of_ble_eq_true rfl) dX9_book_55 ⟨Nat.le_of_ble_eq_true rfl, Nat.le_of_ble_eq_true rfl⟩) hW (fun r_16 L_14 h_15 H locs p_17 hW => ?_)
        obtain ⟨hr_18, hT, hs⟩ := p_17
        replace hT : hx_T T_tb L_14 h_15 := hT
        replace hs : hx_S T_tb [] L_7 h_8 L_14 h_15 := hs
        replace pf_x_8 : ∀ j : Nat, (j : Int) < (h_15.2.1 x 8).toInt → h_15.2.2 qp j ≠ none := by
          intro j hj; rw [(hs.o (gx.S hM) trivial rfl).1] at hj; rw [(hs.a (gqp.S hM) rfl j).2]; exact pf_x_8 j hj
        replace af_qtk : h_15.2.1 qtk = tf := (funext fun j => (hs.a (gqtk.S hM) rfl j).1).trans af_qtk
        replace hM := hM.tr (hs.mono ?o10)
        case o10 => decide
        refine hx_reti hx hb hr hlk hW ⟨(hy_BK_0 (by unfold hy_BC; omega) ?o11 hr_18), hT, hM⟩ dX9_book_58
        case o11 => omega
      · refine lv_tableIn (off := 38) (tgt := 59) hx hb dX9_book_21 ?o12 ?o13 (by rw [c_13]; rfl) ?o14 ?_
        case o12 => omega
        case o13 => omega
        case o14 => decide
        refine lv_aload_n hx hb dX9_book_59 rfl (lv_at hl 0 rfl) ?_
        refine hk_getr hx hb hts hC_9 hown hW (gx.S hM) tt_9 9 ?o15 rfl kw_373 ⟨rfl, rfl, rfl⟩ ((hM.o gx trivial rfl).2.trans f_x_9) dX9_book_60 ?_
        case o15 => decide
        refine lv_iload_n hx hb dX9_book_63 rfl (lv_at hl 1 rfl) ?_
        refine lv_iload_n hx hb dX9_book_64 rfl (lv_at hl 2 rfl) ?_
        refine lv_iload_n hx hb dX9_book_65 rfl (lv_at hl 3 rfl) ?_
        refine hx_goi (hx_runV (As := [.int i1, .int i2, .int i3]) (rest := []) ⟨hx, hb, hml, hown, hts⟩ hW (gqb.S hM) tt_1 (T := TX1) (N := 8) rfl (t_X1_twinPairs_2 l dC dI dA L_7 h_8 H.size qb i1 i2 i3 hT (gqb.S hM) qo (gqo.S hM) ((hM.o gqb trivial rfl).2.trans f_qb_1) qwi (gqwi.S hM) ((hM.o gqb trivial rfl).2.trans f_qb_2) qdy (gqdy.S hM) ((hM.o gqb trivial rfl).2.trans f_qb_3) qkd (gqkd.S hM) ((hM.o gqb trivial rfl).2.trans f_qb_4) qsm (gqsm.S hM) ((hM.o gqb trivial rfl).2.trans f_qb_5) qbd (gqbd.S hM) ((hM.o gqb trivial rfl).2.trans f_qb_6) qtk (gqtk.S hM) ((hM.o gqb trivial rfl).2.trans f_qb_7) of (hx_afS hM gqo rfl af_qo) wf (hx_afS hM gqwi rfl af_qwi) df (hx_afS hM gqdy rfl af_qdy) kf (hx_afS hM gqkd rfl af_qkd) sf (hx_afS hM gqsm rfl af_qsm) bf (hx_afS hM gqbd rfl af_qbd) tf af_qtk ln0 ((hM.o gqb trivial rfl).1.trans f_qb_0) hBD hDY) (cwV 3 hts (hx_gV kw_696 kw_693 kw_694 kw_695 kw_98) rfl rfl rfl (by decide +kernel) ⟨Nat.le_of_ble_eq_true rfl, Nat.le_of_ble_eq_true rfl⟩) rfl hl.1 rfl (Nat.le_of_ble_eq_true rfl) dX9_book_66 ⟨Nat.le_of_ble_eq_true rfl, Nat.le_of_ble_eq_true rfl⟩) hW (fun r_21 L_19 h_20 H locs p_22 hW => ?_)
        obtain ⟨hr_23, hT, hs⟩ := p_22
        replace hT : hx_T T_tb L_19 h_20 := hT
        replace hs : hx_S T_tb [(19, 0)] L_7 h_8 L_19 h_20 := hs
        replace pf_x_8 : ∀ j : Nat, (j : Int) < (h_20.2.1 x 8).toInt → h_20.2.2 qp j ≠ none := by
          intro j hj; rw [(hs.o (gx.S hM) trivial rfl).1] at hj; rw [(hs.a (gqp.S hM) rfl j).2]; exact pf_x_8 j hj
        replace hM := hM.tr (hs.mono ?o16)
        case o16 => decide
        refine hx_reti hx hb hr hlk hW ⟨(hy_BK_1 (by unfold hy_BC; omega) ?o17 hr_23), hT, hM⟩ dX9_book_69
        case o17 => omega
      · refine lv_tableIn (off := 49) (tgt := 70) hx hb dX9_book_21 ?o18 ?o19 (by rw [c_13]; rfl) ?o20 ?_
        case o18 => omega
        case o19 => omega
        case o20 => decide
        refine lv_aload_n hx hb dX9_book_70 rfl (lv_at hl 0 rfl) ?_
        refine hk_getr hx hb hts hC_9 hown hW (gx.S hM) tt_9 9 ?o21 rfl kw_373 ⟨rfl, rfl, rfl⟩ ((hM.o gx trivial rfl).2.trans f_x_9) dX9_book_71 ?_
        case o21 => decide
        refine lv_iload_n hx hb dX9_book_74 rfl (lv_at hl 1 rfl) ?_
        refine hx_goi (hx_runV (As := [.int i1]) (rest := []) ⟨hx, hb, hml, hown, hts⟩ hW (gqb.S hM) tt_1 (T := TX1) (N := 8) rfl (t_X1_disorder_2 l dC dI dA L_7 h_8 H.size qb i1 hT (gqb.S hM) qo (gqo.S hM) ((hM.o gqb trivial rfl).2.trans f_qb_1) qdy (gqdy.S hM) ((hM.o gqb trivial rfl).2.trans f_qb_3) of (hx_afS hM gqo rfl af_qo) df (hx_afS hM gqdy rfl af_qdy) ln0 ((hM.o gqb trivial rfl).1.trans f_qb_0)) (cwV 1 hts (hx_gV kw_711 kw_708 kw_709 kw_710 kw_98) rfl rfl rfl (by decide +kernel) ⟨Nat.le_of_ble_eq_true rfl, Nat.le_of_ble_eq_true rfl⟩) rfl hl.1 rfl (Nat.le_of_ble_eq_true rfl) dX9_book_75 ⟨Nat.le_of_ble_eq_true rfl, Nat.le_of_ble_eq_true rfl⟩) hW (fun r_26 L_24 h_25 H locs p_27 hW => ?_)
        obtain ⟨hr_28, hT, hs⟩ := p_27
        replace hT : hx_T T_tb L_24 h_25 := hT
        replace hs : hx_S T_tb [] L_7 h_8 L_24 h_25 := hs
        replace pf_x_8 : ∀ j : Nat, (j : Int) < (h_25.2.1 x 8).toInt → h_25.2.2 qp j ≠ none := by
          intro j hj; rw [(hs.o (gx.S hM) trivial rfl).1] at hj; rw [(hs.a (gqp.S hM) rfl j).2]; exact pf_x_8 j hj
        replace af_qtk : h_25.2.1 qtk = tf := (funext fun j => (hs.a (gqtk.S hM) rfl j).1).trans af_qtk
        replace hM := hM.tr (hs.mono ?o22)
        case o22 => decide
        refine hx_reti hx hb hr hlk hW ⟨(hy_BK_2 (by unfold hy_BC; omega) ?o23 hr_28), hT, hM⟩ dX9_book_78
        case o23 => omega
    · skip
      replace hr_11 := hr_11.resolve_right (fun z9 => absurd (c_12.symm.trans z9.1) ?o24)
      case o24 => decide
      replace hr_11 := hr_11.2
      refine lv_ldc (v := -1000000) hx hb hown (hts _ kw_684) dX9_book_16 ?_
      exact hx_reti hx hb hr hlk hW ⟨(hy_BK_n (by unfold hy_BC; omega) (by first | rfl | omega | decide)), hT, hM⟩ dX9_book_18


set_option maxHeartbeats 4000000 in
set_option maxRecDepth 100000 in
theorem t_X10_book_2 (l : Launch) (dC : Nat → ClassId) (dI : Nat → Nat → Nat) (dA : Nat → ClassId) (L : List Nat) (h : hx_h) (sz : Nat) (x : Nat) (i1 : Int32) (i2 : Int32) (i3 : Int32) (i4 : Int32) (hT : hx_T T_tb L h) (gx : hx_g L h x 10) (qo : Nat) (gqo : hx_g L h qo 66) (f_x_30 : h.2.2 x 30 = some qo) (qwi : Nat) (gqwi : hx_g L h qwi 67) (f_x_31 : h.2.2 x 31 = some qwi) (qdy : Nat) (gqdy : hx_g L h qdy 68) (f_x_32 : h.2.2 x 32 = some qdy) (qkd : Nat) (gqkd : hx_g L h qkd 69) (f_x_33 : h.2.2 x 33 = some qkd) (qsm : Nat) (gqsm : hx_g L h qsm 70) (f_x_34 : h.2.2 x 34 = some qsm) (qtk : Nat) (gqtk : hx_g L h qtk 71) (f_x_35 : h.2.2 x 35 = some qtk) (of : Nat → Int32) (af_qo : h.2.1 qo = of) (wf : Nat → Int32) (af_qwi : h.2.1 qwi = wf) (df : Nat → Int32) (af_qdy : h.2.1 qdy = df) (kf : Nat → Int32) (af_qkd : h.2.1 qkd = kf) (sf : Nat → Int32) (af_qsm : h.2.1 qsm = sf) (tf : Nat → Int32) (af_qtk : h.2.1 qtk = tf) (ln0 : Int32) (f_x_29 : h.2.1 x 29 = ln0) (pn0 : Int32) (f_x_20 : h.2.1 x 20 = pn0) (bf : Nat → Int32) (hBD : hy_BD df bf ln0.toInt.toNat) (hDY : hy_DY df ln0.toInt.toNat) : Met l yX10_book (Cond.code yX10_book cX10_book 5 (some .int) :: hx_all) ({ frames := 3, cells := 0, slots := 0, locals := 73 }) (va_Pc [.ref x, .int i1, .int i2, .int i3, .int i4] (hx_B T_tb (P_ty dA) (dC, dI) vwCl L h sz)) (va_Qi (fun (r : Int32) (u : List Nat × hx_h) => (hy_BK pn0.toInt i1.toInt i2.toInt i3.toInt i4.toInt r.toInt (hy_bs of wf df kf sf i1 i2 i3 ln0.toInt.toNat).toInt (hy_G of wf df kf sf bf i1 i2 i3 ln0.toInt.toNat ln0.toInt.toNat).2 (hy_dr of df i1 (-1) ln0.toInt.toNat).1) ∧ hx_T T_tb u.1 u.2 ∧ hx_S T_tb [(71, 0)] L h u.1 u.2) (hx_E T_tb (P_ty dA) (dC, dI) vwCl (hx_A L sz)) (hx_A L sz)) 0 0 (hx_A L sz) := by
  refine hx_met (lv := [(0, .ref x), (1, .int i1), (2, .int i2), (3, .int i3), (4, .int i4)]) (by decide +kernel) rfl (Nat.le_of_ble_eq_true rfl) rfl ?_
  intro p e s m below meth c hx hb hml hr hlk hts0 hown hin hsz hW ls hl
  have hts : ∀ w ∈ hx_all, w.before _ s = true := fun w hw => hts0 w (List.mem_cons_of_mem _ hw)
  have hown : s.vm.findClass "SmallCourtModel" = some m.cls := hown
  have hM : hx_S T_tb [(71, 0)] L h L h := hx_S.rf
  have b_ln0 := hT.gi gx tt_10 (k := 29) rfl
  rw [f_x_29] at b_ln0
  have b_ln0 : 0 ≤ ln0.toInt ∧ ln0.toInt ≤ 400 := b_ln0
  have b_pn0 := hT.gi gx tt_10 (k := 20) rfl
  rw [f_x_20] at b_pn0
  have b_pn0 : 0 ≤ pn0.toInt ∧ pn0.toInt ≤ 40 := b_pn0
  refine lv_aload_n hx hb dX10_book_0 rfl (lv_at hl 0 rfl) ?_
  refine lv_iload_n hx hb dX10_book_1 rfl (lv_at hl 1 rfl) ?_
  refine hx_goi (hx_runV (As := [.int i1]) (rest := []) ⟨hx, hb, hml, hown, hts⟩ hW (gx.S hM) tt_10 (T := TX10) (N := 98) rfl (t_X10_isPerson l dC dI dA L h s.heap.size x i1 hT (gx.S hM) pn0 ((hM.o gx trivial rfl).1.trans f_x_20)) (cwV 1 hts (hx_gV kw_1552 kw_1549 kw_1551 kw_68 kw_103) rfl rfl rfl (by decide +kernel) ⟨Nat.le_of_ble_eq_true rfl, Nat.le_of_ble_eq_true rfl⟩) rfl hl.1 rfl (Nat.le_of_ble_eq_true rfl) dX10_book_2 ⟨Nat.le_of_ble_eq_true rfl, Nat.le_of_ble_eq_true rfl⟩) hW (fun r_3 L_1 h_2 H locs p_4 hW => ?_)
  obtain ⟨hr_5, hT, hs⟩ := p_4
  replace hT : hx_T T_tb L_1 h_2 := hT
  replace hs : hx_S T_tb [] L h L_1 h_2 := hs
  replace af_qtk : h_2.2.1 qtk = tf := (funext fun j => (hs.a (gqtk.S hM) rfl j).1).trans af_qtk
  replace hM := hM.tr (hs.mono ?o0)
  case o0 => decide
  refine hb_if_eq (zx := r_3.toInt) (tgt := 28) hx hb rfl dX10_book_5 ?o1 (fun c_6 => ?_) (fun c_6 => ?_)
  case o1 => decide
  · skip
    replace hr_5 := hr_5.resolve_right (fun z9 => absurd (c_6.symm.trans z9.1) ?o2)
    case o2 => decide
    replace hr_5 := hr_5.2
    refine lv_ldcw (v := -1000000) hx hb hown (hts _ kw_1569) dX10_book_28 ?_
    exact hx_reti hx hb hr hlk hW ⟨(hy_BK_n (by unfold hy_BC; omega) (by first | rfl | omega | decide)), hT, hM⟩ dX10_book_31
  · skip
    replace hr_5 := hr_5.resolve_left (fun z9 => c_6 z9.1)
    replace c_6 := hr_5.1
    replace hr_5 := hr_5.2
    refine lv_aload_n hx hb dX10_book_8 rfl (lv_at hl 0 rfl) ?_
    refine lv_iload_n hx hb dX10_book_9 rfl (lv_at hl 2 rfl) ?_
    refine hx_goi (hx_runV (As := [.int i2]) (rest := []) ⟨hx, hb, hml, hown, hts⟩ hW (gx.S hM) tt_10 (T := TX10) (N := 98) rfl (t_X10_isPerson l dC dI dA L_1 h_2 H.size x i2 hT (gx.S hM) pn0 ((hM.o gx trivial rfl).1.trans f_x_20)) (cwV 1 hts (hx_gV kw_1552 kw_1549 kw_1551 kw_68 kw_103) rfl rfl rfl (by decide +kernel) ⟨Nat.le_of_ble_eq_true rfl, Nat.le_of_ble_eq_true rfl⟩) rfl hl.1 rfl (Nat.le_of_ble_eq_true rfl) dX10_book_10 ⟨Nat.le_of_ble_eq_true rfl, Nat.le_of_ble_eq_true rfl⟩) hW (fun r_9 L_7 h_8 H locs p_10 hW => ?_)
    obtain ⟨hr_11, hT, hs⟩ := p_10
    replace hT : hx_T T_tb L_7 h_8 := hT
    replace hs : hx_S T_tb [] L_1 h_2 L_7 h_8 := hs
    replace af_qtk : h_8.2.1 qtk = tf := (funext fun j => (hs.a (gqtk.S hM) rfl j).1).trans af_qtk
    replace hM := hM.tr (hs.mono ?o3)
    case o3 => decide
    refine hb_if_eq (zx := r_9.toInt) (tgt := 28) hx hb rfl dX10_book_13 ?o4 (fun c_12 => ?_) (fun c_12 => ?_)
    case o4 => decide
    · skip
      replace hr_11 := hr_11.resolve_right (fun z9 => absurd (c_12.symm.trans z9.1) ?o5)
      case o5 => decide
      replace hr_11 := hr_11.2
      refine lv_ldcw (v := -1000000) hx hb hown (hts _ kw_1569) dX10_book_28 ?_
      exact hx_reti hx hb hr hlk hW ⟨(hy_BK_n (by unfold hy_BC; omega) (by first | rfl | omega | decide)), hT, hM⟩ dX10_book_31
    · skip
      replace hr_11 := hr_11.resolve_left (fun z9 => c_12 z9.1)
      replace c_12 := hr_11.1
      replace hr_11 := hr_11.2
      refine lv_iload_n hx hb dX10_book_16 rfl (lv_at hl 1 rfl) ?_
      refine lv_iload_n hx hb dX10_book_17 rfl (lv_at hl 2 rfl) ?_
      refine hb_icmp_eq (zx := i1.toInt) (zy := i2.toInt) (tgt := 28) hx hb rfl rfl dX10_book_18 ?o6 (fun c_13 => ?_) (fun c_13 => ?_)
      case o6 => decide
      · skip
        refine lv_ldcw (v := -1000000) hx hb hown (hts _ kw_1569) dX10_book_28 ?_
        exact hx_reti hx hb hr hlk hW ⟨(hy_BK_n (by unfold hy_BC; omega) (by first | rfl | omega | decide)), hT, hM⟩ dX10_book_31
      · skip
        refine lv_iload_n hx hb dX10_book_21 rfl (lv_at hl 3 rfl) ?_
        refine hx_goi (hx_runS (As := [.int i3]) (rest := []) ⟨hx, hb, hml, hown, hts⟩ hW (t_X10_isDay l dC dI dA L_7 h_8 H.size i3 hT) (va_cwS 1 hts (hx_gS kw_1464 kw_1462 kw_1463 kw_103) rfl rfl rfl (by decide +kernel) ⟨Nat.le_of_ble_eq_true rfl, Nat.le_of_ble_eq_true rfl⟩) rfl hl.1 rfl (Nat.le_of_ble_eq_true rfl) dX10_book_22 ⟨Nat.le_of_ble_eq_true rfl, Nat.le_of_ble_eq_true rfl⟩) hW (fun r_16 L_14 h_15 H locs p_17 hW => ?_)
        obtain ⟨hr_18, hT, hs⟩ := p_17
        replace hT : hx_T T_tb L_14 h_15 := hT
        replace hs : hx_S T_tb [] L_7 h_8 L_14 h_15 := hs
        replace af_qtk : h_15.2.1 qtk = tf := (funext fun j => (hs.a (gqtk.S hM) rfl j).1).trans af_qtk
        replace hM := hM.tr (hs.mono ?o7)
        case o7 => decide
        refine hb_if_ne (zx := r_16.toInt) (tgt := 32) hx hb rfl dX10_book_25 ?o8 (fun c_19 => ?_) (fun c_19 => ?_)
        case o8 => decide
        · skip
          replace hr_18 := hr_18.resolve_left (fun z9 => c_19 z9.1)
          replace c_19 := hr_18.1
          replace hr_18 := hr_18.2
          refine lv_iload hx hb dX10_book_32 (lv_at hl 4 rfl) ?_
          refine hb_if_ne (zx := i4.toInt) (tgt := 47) hx hb rfl dX10_book_34 ?o9 (fun c_20 => ?_) (fun c_20 => ?_)
          case o9 => decide
          · skip
            refine lv_iload hx hb dX10_book_47 (lv_at hl 4 rfl) ?_
            refine lv_iconst (v := 1) hx hb dX10_book_49 ?o10 ?_
            case o10 => decide
            refine hb_icmp_ne (zx := i4.toInt) (zy := 1) (tgt := 63) hx hb rfl ?o11 dX10_book_50 ?o12 (fun c_21 => ?_) (fun c_21 => ?_)
            case o11 => decide
            case o12 => decide
            · skip
              refine lv_iload hx hb dX10_book_63 (lv_at hl 4 rfl) ?_
              refine lv_iconst (v := 2) hx hb dX10_book_65 ?o13 ?_
              case o13 => decide
              refine hb_icmp_ne (zx := i4.toInt) (zy := 2) (tgt := 77) hx hb rfl ?o14 dX10_book_66 ?o15 (fun c_22 => ?_) (fun c_22 => ?_)
              case o14 => decide
              case o15 => decide
              · skip
                refine lv_ldcw (v := -1000000) hx hb hown (hts _ kw_1569) dX10_book_77 ?_
                exact hx_reti hx hb hr hlk hW ⟨(hy_BK_n (by unfold hy_BC; omega) (by first | rfl | omega | decide)), hT, hM⟩ dX10_book_80
              · skip
                refine lv_aload_n hx hb dX10_book_69 rfl (lv_at hl 0 rfl) ?_
                refine lv_iload_n hx hb dX10_book_70 rfl (lv_at hl 1 rfl) ?_
                refine hx_goi (hx_runV (As := [.int i1]) (rest := []) ⟨hx, hb, hml, hown, hts⟩ hW (gx.S hM) tt_10 (T := TX10) (N := 98) rfl (t_X10_disorder_2 l dC dI dA L_14 h_15 H.size x i1 hT (gx.S hM) qo (gqo.S hM) ((hM.o gx trivial rfl).2.trans f_x_30) qdy (gqdy.S hM) ((hM.o gx trivial rfl).2.trans f_x_32) of (hx_afS hM gqo rfl af_qo) df (hx_afS hM gqdy rfl af_qdy) ln0 ((hM.o gx trivial rfl).1.trans f_x_29)) (cwV 1 hts (hx_gV kw_1585 kw_1582 kw_1584 kw_72 kw_103) rfl rfl rfl (by decide +kernel) ⟨Nat.le_of_ble_eq_true rfl, Nat.le_of_ble_eq_true rfl⟩) rfl hl.1 rfl (Nat.le_of_ble_eq_true rfl) dX10_book_71 ⟨Nat.le_of_ble_eq_true rfl, Nat.le_of_ble_eq_true rfl⟩) hW (fun r_25 L_23 h_24 H locs p_26 hW => ?_)
                obtain ⟨hr_27, hT, hs⟩ := p_26
                replace hT : hx_T T_tb L_23 h_24 := hT
                replace hs : hx_S T_tb [] L_14 h_15 L_23 h_24 := hs
                replace af_qtk : h_24.2.1 qtk = tf := (funext fun j => (hs.a (gqtk.S hM) rfl j).1).trans af_qtk
                replace hM := hM.tr (hs.mono ?o16)
                case o16 => decide
                refine lv_goto (tgt := 80) hx hb dX10_book_74 ?o17 ?_
                case o17 => decide
                refine hx_reti hx hb hr hlk hW ⟨(hy_BK_2 (by unfold hy_BC; omega) ?o18 hr_27), hT, hM⟩ dX10_book_80
                case o18 => omega
            · skip
              refine lv_aload_n hx hb dX10_book_53 rfl (lv_at hl 0 rfl) ?_
              refine lv_iload_n hx hb dX10_book_54 rfl (lv_at hl 1 rfl) ?_
              refine lv_iload_n hx hb dX10_book_55 rfl (lv_at hl 2 rfl) ?_
              refine lv_iload_n hx hb dX10_book_56 rfl (lv_at hl 3 rfl) ?_
              refine hx_goi (hx_runV (As := [.int i1, .int i2, .int i3]) (rest := []) ⟨hx, hb, hml, hown, hts⟩ hW (gx.S hM) tt_10 (T := TX10) (N := 98) rfl (t_X10_alike_2 l dC dI dA L_14 h_15 H.size x i1 i2 i3 hT (gx.S hM) qo (gqo.S hM) ((hM.o gx trivial rfl).2.trans f_x_30) qwi (gqwi.S hM) ((hM.o gx trivial rfl).2.trans f_x_31) qdy (gqdy.S hM) ((hM.o gx trivial rfl).2.trans f_x_32) qkd (gqkd.S hM) ((hM.o gx trivial rfl).2.trans f_x_33) qsm (gqsm.S hM) ((hM.o gx trivial rfl).2.trans f_x_34) qtk (gqtk.S hM) ((hM.o gx trivial rfl).2.trans f_x_35) of (hx_afS hM gqo rfl af_qo) wf (hx_afS hM gqwi rfl af_qwi) df (hx_afS hM gqdy rfl af_qdy) kf (hx_afS hM gqkd rfl af_qkd) sf (hx_afS hM gqsm rfl af_qsm) tf af_qtk ln0 ((hM.o gx trivial rfl).1.trans f_x_29) bf hBD hDY ⟨?o19, ?o20⟩) (cwV 3 hts (hx_gV kw_1577 kw_1574 kw_1576 kw_70 kw_103) rfl rfl rfl (by decide +kernel) ⟨Nat.le_of_ble_eq_true rfl, Nat.le_of_ble_eq_true rfl⟩) rfl hl.1 rfl (Nat.le_of_ble_eq_true rfl) dX10_book_57 ⟨Nat.le_of_ble_eq_true rfl, Nat.le_of_ble_eq_true rfl⟩) hW (fun r_30 L_28 h_29 H locs p_31 hW => ?_)
              case o19 => omega
              case o20 => omega
              obtain ⟨hr_32, hT, hs⟩ := p_31
              replace hT : hx_T T_tb L_28 h_29 := hT
              replace hs : hx_S T_tb [(71, 0)] L_14 h_15 L_28 h_29 := hs
              replace hM := hM.tr (hs.mono ?o21)
              case o21 => decide
              refine lv_goto (tgt := 80) hx hb dX10_book_60 ?o22 ?_
              case o22 => decide
              refine hx_reti hx hb hr hlk hW ⟨(hy_BK_1 (by unfold hy_BC; omega) ?o23 hr_32), hT, hM⟩ dX10_book_80
              case o23 => omega
          · skip
            refine lv_aload_n hx hb dX10_book_37 rfl (lv_at hl 0 rfl) ?_
            refine lv_iload_n hx hb dX10_book_38 rfl (lv_at hl 1 rfl) ?_
            refine lv_iload_n hx hb dX10_book_39 rfl (lv_at hl 2 rfl) ?_
            refine lv_iload_n hx hb dX10_book_40 rfl (lv_at hl 3 rfl) ?_
            refine hx_goi (hx_runV (As := [.int i1, .int i2, .int i3]) (rest := []) ⟨hx, hb, hml, hown, hts⟩ hW (gx.S hM) tt_10 (T := TX10) (N := 98) rfl (t_X10_bookSum_2 l dC dI dA L_14 h_15 H.size x i1 i2 i3 hT (gx.S hM) qo (gqo.S hM) ((hM.o gx trivial rfl).2.trans f_x_30) qwi (gqwi.S hM) ((hM.o gx trivial rfl).2.trans f_x_31) qdy (gqdy.S hM) ((hM.o gx trivial rfl).2.trans f_x_32) qkd (gqkd.S hM) ((hM.o gx trivial rfl).2.trans f_x_33) qsm (gqsm.S hM) ((hM.o gx trivial rfl).2.trans f_x_34) of (hx_afS hM gqo rfl af_qo) wf (hx_afS hM gqwi rfl af_qwi) df (hx_afS hM gqdy rfl af_qdy) kf (hx_afS hM gqkd rfl af_qkd) sf (hx_afS hM gqsm rfl af_qsm) ln0 ((hM.o gx trivial rfl).1.trans f_x_29)) (cwV 3 hts (hx_gV kw_1573 kw_1570 kw_1572 kw_69 kw_103) rfl rfl rfl (by decide +kernel) ⟨Nat.le_of_ble_eq_true rfl, Nat.le_of_ble_eq_true rfl⟩) rfl hl.1 rfl (Nat.le_of_ble_eq_true rfl) dX10_book_41 ⟨Nat.le_of_ble_eq_true rfl, Nat.le_of_ble_eq_true rfl⟩) hW (fun r_35 L_33 h_34 H locs p_36 hW => ?_)
            obtain ⟨hr_37, hT, hs⟩ := p_36
            replace hT : hx_T T_tb L_33 h_34 := hT
            replace hs : hx_S T_tb [] L_14 h_15 L_33 h_34 := hs
            replace af_qtk : h_34.2.1 qtk = tf := (funext fun j => (hs.a (gqtk.S hM) rfl j).1).trans af_qtk
            replace hM := hM.tr (hs.mono ?o24)
            case o24 => decide
            refine lv_goto (tgt := 80) hx hb dX10_book_44 ?o25 ?_
            case o25 => decide
            refine hx_reti hx hb hr hlk hW ⟨(hy_BK_0 (by unfold hy_BC; omega) ?o26 hr_37), hT, hM⟩ dX10_book_80
            case o26 => omega
        · skip
          replace hr_18 := hr_18.resolve_right (fun z9 => absurd (c_19.symm.trans z9.1) ?o27)
          case o27 => decide
          replace hr_18 := hr_18.2
          refine lv_ldcw (v := -1000000) hx hb hown (hts _ kw_1569) dX10_book_28 ?_
          exact hx_reti hx hb hr hlk hW ⟨(hy_BK_n (by unfold hy_BC; omega) (by first | rfl | omega | decide)), hT, hM⟩ dX10_book_31
