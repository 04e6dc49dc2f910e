section
set_option maxHeartbeats 4000000 in
set_option maxRecDepth 100000 in
theorem t_X10_isNew_v (l : Launch) (dC : Nat → ClassId) (dI : Nat → Nat → Nat) (dA : Nat → ClassId) (L : List Nat) (h : hx_h) (sz : Nat) (x : Nat) (i1 : Int32) (i2 : Int32) (hT : hx_T T_tb L h) (gx : hx_g L h x 10) (sn0 : Int32) (f_x_13 : h.2.1 x 13 = sn0) (ft0 : Int32) (f_x_9 : h.2.1 x 9 = ft0) (kk : Nat) (hkk : kk < 14) (hi1 : i1.toInt = ((hv_rx kk : Nat) : Int)) (hi2 : 0 ≤ i2.toInt ∧ i2.toInt ≤ 402) (hF : ft0.toInt = 0) : Met l yX10_isNew (Cond.code yX10_isNew cX10_isNew 3 (some .boolean) :: hx_all) ({ frames := 1, cells := 0, slots := 0, locals := 22 }) (va_Pc [.ref x, .int i1, .int i2] (hx_B T_tb (P_ty dA) (dC, dI) vwCl L h sz)) (va_Qi (fun (r : Int32) (u : List Nat × hx_h) => (∃ (sn1 : Int32) (ft1 : Int32), u.2.2.1 x 13 = sn1 ∧ u.2.2.1 x 9 = ft1 ∧ (hv_IN r.toInt ft1.toInt ft0.toInt i2.toInt kk (hv_sR sn0) (hv_sR sn1))) ∧ hx_T T_tb u.1 u.2 ∧ hx_S T_tb [(10, 9), (10, 13)] L h u.1 u.2) (hx_E T_tb (P_ty dA) (dC, dI) vwCl (hx_A L sz)) (hx_A L sz)) 0 0 (hx_A L sz) := by
  refine hx_met (lv := [(0, .ref x), (1, .int i1), (2, .int i2)]) (by decide +kernel) rfl (Nat.le_of_ble_eq_true rfl) rfl ?_
  intro p e s m below meth c hx hb hml hr hlk hts0 hown hin hsz hW ls hl
  have hts : ∀ w ∈ hx_all, w.before _ s = true := fun w hw => hts0 w (List.mem_cons_of_mem _ hw)
  have hown : s.vm.findClass "SmallCourtModel" = some m.cls := hown
  have hM : hx_S T_tb [(10, 9), (10, 13)] L h L h := hx_S.rf
  have b_sn0 := hT.gi gx tt_10 (k := 13) rfl
  rw [f_x_13] at b_sn0
  have b_sn0 : -2147483648 ≤ sn0.toInt ∧ sn0.toInt ≤ 2147483647 := b_sn0
  have b_ft0 := hT.gi gx tt_10 (k := 9) rfl
  rw [f_x_9] at b_ft0
  have b_ft0 : -2147483648 ≤ ft0.toInt ∧ ft0.toInt ≤ 2147483647 := b_ft0
  have hrx := hv_rx_b hkk
  refine lv_aload_n hx hb dX10_isNew_0 rfl (lv_at hl 0 rfl) ?_
  refine hk_geti hx hb hts hC_10 hown hW (gx.S hM) tt_10 13 ?o0 rfl kw_1156 ⟨rfl, rfl, rfl⟩ f_x_13 dX10_isNew_1 ?_
  case o0 => decide
  refine lv_iload_n hx hb dX10_isNew_4 rfl (lv_at hl 1 rfl) ?_
  refine lv_ishr hx hb dX10_isNew_5 ?_
  refine lv_topi (fun x_1 ex_1 => ?_)
  refine lv_iconst (v := 1) hx hb dX10_isNew_6 ?o1 ?_
  case o1 => decide
  refine lv_iand hx hb dX10_isNew_7 ?_
  refine lv_topi (fun x_2 ex_2 => ?_)
  have zx_2 : 0 ≤ x_2.toInt ∧ x_2.toInt ≤ 1 := ?o2
  case o2 =>
    rw [ex_2]
    refine hx_andR ?o3 ?o4
    case o3 => decide
    case o4 => decide
  refine lv_iconst (v := 1) hx hb dX10_isNew_8 ?o5 ?_
  case o5 => decide
  refine hb_icmp_ne (zx := x_2.toInt) (zy := 1) (tgt := 19) hx hb rfl ?o6 dX10_isNew_9 ?o7 (fun c_3 => ?_) (fun c_3 => ?_)
  case o6 => decide
  case o7 => decide
  · skip
    refine lv_aload_n hx hb dX10_isNew_19 rfl (lv_at hl 0 rfl) ?_
    refine lv_dup hx hb dX10_isNew_20 rfl ?_
    refine hk_geti hx hb hts hC_10 hown hW (gx.S hM) tt_10 13 ?o8 rfl kw_1156 ⟨rfl, rfl, rfl⟩ f_x_13 dX10_isNew_21 ?_
    case o8 => decide
    refine lv_iconst (v := 1) hx hb dX10_isNew_24 ?o9 ?_
    case o9 => decide
    refine lv_iload_n hx hb dX10_isNew_25 rfl (lv_at hl 1 rfl) ?_
    refine lv_ishl hx hb dX10_isNew_26 ?_
    refine lv_topi (fun x_4 ex_4 => ?_)
    refine lv_ior hx hb dX10_isNew_27 ?_
    refine lv_topi (fun x_5 ex_5 => ?_)
    refine hx_puti hx hb hts hC_10 hown hW hT (hx_S.rf (M := [(10, 13)])) (gx.S hM) tt_10 13 ?o10 rfl kw_1156 ⟨rfl, rfl, rfl⟩ rfl (x := x_5) (i32_r _) rfl rfl rfl (List.mem_singleton.mpr rfl) dX10_isNew_28 (fun H locs h_6 eh_6 hW hT hs => ?_)
    case o10 => decide
    replace f_x_9 := (hs.o (gx.S hM) trivial rfl).1.trans f_x_9
    replace hM := hM.tr (hs.mono ?o11)
    case o11 => decide
    have f_7 : h_6.2.1 x 13 = x_5 := ?o12
    case o12 =>
      rw [eh_6]
      exact hx_pi_at _ _ _ _
    refine lv_iconst (v := 1) hx hb dX10_isNew_31 ?o13 ?_
    case o13 => decide
    refine hx_retz hx hb hr rfl hlk hW ⟨⟨x_5, ft0, f_7, f_x_9, (Or.inl ⟨?o14, rfl, (by rw [hv_sR_a hkk hi1]; cases h9 : sn0.toBitVec.getLsbD i1.toInt.toNat with | false => rfl | true => exact absurd ((hv_b_sh (by omega) (by omega) ex_1 ex_2).mpr h9) (by omega)), hv_sR_u kk hkk hi1 ex_4 ex_5⟩)⟩, hT, hM⟩ dX10_isNew_32
    case o14 => decide
  · skip
    refine lv_aload_n hx hb dX10_isNew_12 rfl (lv_at hl 0 rfl) ?_
    refine lv_iconst (v := 2) hx hb dX10_isNew_13 ?o15 ?_
    case o15 => decide
    refine lv_iload_n hx hb dX10_isNew_14 rfl (lv_at hl 2 rfl) ?_
    have zc_2 : (2 : Int32).toInt = 2 := ?o16
    case o16 => decide
    refine hx_goi (hx_runV (As := [.int (2 : Int32), .int i2]) (rest := []) ⟨hx, hb, hml, hown, hts⟩ hW (gx.S hM) tt_10 (T := TX10) (N := 98) rfl (t_X10_fails_v l dC dI dA L h s.heap.size x (2 : Int32) i2 hT (gx.S hM) ft0 f_x_9 ?o17 ?o18 ⟨?o19, ?o20⟩) (cwV 2 hts (hx_gV kw_1480 kw_1477 kw_1479 kw_56 kw_103) rfl rfl rfl (by decide +kernel) ⟨Nat.le_of_ble_eq_true rfl, Nat.le_of_ble_eq_true rfl⟩) rfl hl.1 rfl (Nat.le_of_ble_eq_true rfl) dX10_isNew_15 ⟨Nat.le_of_ble_eq_true rfl, Nat.le_of_ble_eq_true rfl⟩) hW (fun r_10 L_8 h_9 H locs p_11 hW => ?_)
    case o17 => omega
    case o18 => decide
    case o19 => omega
    case o20 => omega
    obtain ⟨⟨w_13, fw_13, hr_12⟩, hT, hs⟩ := p_11
    replace hT : hx_T T_tb L_8 h_9 := hT
    replace hs : hx_S T_tb [(10, 9)] L h L_8 h_9 := hs
    replace f_x_13 := (hs.o (gx.S hM) trivial rfl).1.trans f_x_13
    replace hM := hM.tr (hs.mono ?o21)
    case o21 => decide
    have fw_13 : h_9.2.1 x 9 = w_13 := fw_13
    have bw_13 := hT.gi (gx.S hM) tt_10 (k := 9) rfl
    rw [fw_13] at bw_13
    have bw_13 : -2147483648 ≤ w_13.toInt ∧ w_13.toInt ≤ 2147483647 := bw_13
    refine hx_retz hx hb hr (hx_nar01 ?o22) hlk hW ⟨⟨sn0, w_13, f_x_13, fw_13, (Or.inr ⟨?o23, (by rw [hv_sR_a hkk hi1]; exact (hv_b_sh (by omega) (by omega) ex_1 ex_2).mp (by omega)), ?o24⟩)⟩, hT, hM⟩ dX10_isNew_18
    case o22 => omega
    case o23 => omega
    case o24 => omega


set_option maxHeartbeats 4000000 in
set_option maxRecDepth 100000 in
theorem t_X10_leastOf_v (l : Launch) (dC : Nat → ClassId) (dI : Nat → Nat → Nat) (dA : Nat → ClassId) (L : List Nat) (h : hx_h) (sz : Nat) (i1 : Int32) (hT : hx_T T_tb L h)  (hi1 : 0 ≤ i1.toInt ∧ i1.toInt ≤ 12) : Met l yX10_leastOf (Cond.code yX10_leastOf cX10_leastOf 1 (some .int) :: hx_all) ({ frames := 0, cells := 0, slots := 0, locals := 0 }) (va_Pc [.int i1] (hx_B T_tb (P_ty dA) (dC, dI) vwCl L h sz)) (va_Qi (fun (r : Int32) (u : List Nat × hx_h) => (r.toInt = hv_lo i1.toInt.toNat ∧ (0 ≤ r.toInt ∧ r.toInt ≤ 1)) ∧ hx_T T_tb u.1 u.2 ∧ hx_S T_tb [] L h u.1 u.2) (hx_E T_tb (P_ty dA) (dC, dI) vwCl (hx_A L sz)) (hx_A L sz)) 0 0 (hx_A L sz) := by
  refine hx_met (lv := [(0, .int i1)]) (by decide +kernel) rfl (Nat.le_of_ble_eq_true rfl) rfl ?_
  intro p e s m below meth c hx hb hml hr hlk hts0 hown hin hsz hW ls hl
  have hts : ∀ w ∈ hx_all, w.before _ s = true := fun w hw => hts0 w (List.mem_cons_of_mem _ hw)
  have hown : s.vm.findClass "SmallCourtModel" = some m.cls := hown
  have hM : hx_S T_tb [] L h L h := hx_S.rf
  refine lv_iload_n hx hb dX10_leastOf_0 rfl (lv_at hl 0 rfl) ?_
  refine lv_iconst (v := 1) hx hb dX10_leastOf_1 ?o0 ?_
  case o0 => decide
  refine hb_icmp_eq (zx := i1.toInt) (zy := 1) (tgt := 16) hx hb rfl ?o1 dX10_leastOf_2 ?o2 (fun c_1 => ?_) (fun c_1 => ?_)
  case o1 => decide
  case o2 => decide
  · skip
    refine lv_iconst (v := 0) hx hb dX10_leastOf_16 ?o3 ?_
    case o3 => decide
    refine lv_goto (tgt := 21) hx hb dX10_leastOf_17 ?o4 ?_
    case o4 => decide
    refine hx_reti hx hb hr hlk hW ⟨⟨hv_lo_e (show (0 : Int32).toInt = 0 from ?o5) ?o6 ?o7, ?o8⟩, hT, hM⟩ dX10_leastOf_21
    case o5 => decide
    case o6 => omega
    case o7 => omega
    case o8 => decide
  · skip
    refine lv_iload_n hx hb dX10_leastOf_5 rfl (lv_at hl 0 rfl) ?_
    refine lv_iconst (v := 3) hx hb dX10_leastOf_6 ?o9 ?_
    case o9 => decide
    refine hb_icmp_eq (zx := i1.toInt) (zy := 3) (tgt := 16) hx hb rfl ?o10 dX10_leastOf_7 ?o11 (fun c_2 => ?_) (fun c_2 => ?_)
    case o10 => decide
    case o11 => decide
    · skip
      refine lv_iconst (v := 0) hx hb dX10_leastOf_16 ?o12 ?_
      case o12 => decide
      refine lv_goto (tgt := 21) hx hb dX10_leastOf_17 ?o13 ?_
      case o13 => decide
      refine hx_reti hx hb hr hlk hW ⟨⟨hv_lo_e (show (0 : Int32).toInt = 0 from ?o14) ?o15 ?o16, ?o17⟩, hT, hM⟩ dX10_leastOf_21
      case o14 => decide
      case o15 => omega
      case o16 => omega
      case o17 => decide
    · skip
      refine lv_iload_n hx hb dX10_leastOf_10 rfl (lv_at hl 0 rfl) ?_
      refine lv_bipush (v := 8) hx hb dX10_leastOf_11 ?o18 ?_
      case o18 => decide
      refine hb_icmp_lt (zx := i1.toInt) (zy := 8) (tgt := 20) hx hb rfl ?o19 dX10_leastOf_13 ?o20 (fun c_3 => ?_) (fun c_3 => ?_)
      case o19 => decide
      case o20 => decide
      · skip
        refine lv_iconst (v := 1) hx hb dX10_leastOf_20 ?o21 ?_
        case o21 => decide
        refine hx_reti hx hb hr hlk hW ⟨⟨hv_lo_e (show (1 : Int32).toInt = 1 from ?o22) ?o23 ?o24, ?o25⟩, hT, hM⟩ dX10_leastOf_21
        case o22 => decide
        case o23 => omega
        case o24 => omega
        case o25 => decide
      · skip
        refine lv_iconst (v := 0) hx hb dX10_leastOf_16 ?o26 ?_
        case o26 => decide
        refine lv_goto (tgt := 21) hx hb dX10_leastOf_17 ?o27 ?_
        case o27 => decide
        refine hx_reti hx hb hr hlk hW ⟨⟨hv_lo_e (show (0 : Int32).toInt = 0 from ?o28) ?o29 ?o30, ?o31⟩, hT, hM⟩ dX10_leastOf_21
        case o28 => decide
        case o29 => omega
        case o30 => omega
        case o31 => decide


set_option maxHeartbeats 4000000 in
set_option maxRecDepth 100000 in
theorem t_X10_mostOf_v (l : Launch) (dC : Nat → ClassId) (dI : Nat → Nat → Nat) (dA : Nat → ClassId) (L : List Nat) (h : hx_h) (sz : Nat) (i1 : Int32) (hT : hx_T T_tb L h)  (hi1 : 0 ≤ i1.toInt ∧ i1.toInt ≤ 12) : Met l yX10_mostOf (Cond.code yX10_mostOf cX10_mostOf 1 (some .int) :: hx_all) ({ frames := 0, cells := 0, slots := 0, locals := 0 }) (va_Pc [.int i1] (hx_B T_tb (P_ty dA) (dC, dI) vwCl L h sz)) (va_Qi (fun (r : Int32) (u : List Nat × hx_h) => (r.toInt = hv_hi i1.toInt.toNat ∧ (0 ≤ r.toInt ∧ r.toInt ≤ 9999)) ∧ hx_T T_tb u.1 u.2 ∧ hx_S T_tb [] L h u.1 u.2) (hx_E T_tb (P_ty dA) (dC, dI) vwCl (hx_A L sz)) (hx_A L sz)) 0 0 (hx_A L sz) := by
  refine hx_met (lv := [(0, .int i1)]) (by decide +kernel) rfl (Nat.le_of_ble_eq_true rfl) rfl ?_
  intro p e s m below meth c hx hb hml hr hlk hts0 hown hin hsz hW ls hl
  have hts : ∀ w ∈ hx_all, w.before _ s = true := fun w hw => hts0 w (List.mem_cons_of_mem _ hw)
  have hown : s.vm.findClass "SmallCourtModel" = some m.cls := hown
  have hM : hx_S T_tb [] L h L h := hx_S.rf
  refine lv_iload_n hx hb dX10_mostOf_0 rfl (lv_at hl 0 rfl) ?_
  rcases (show (i1.toInt < 0 ∨ 8 < i1.toInt) ∨ i1.toInt = 0 ∨ i1.toInt = 1 ∨ i1.toInt = 2 ∨ i1.toInt = 3 ∨ i1.toInt = 4 ∨ i1.toInt = 5 ∨ i1.toInt = 6 ∨ i1.toInt = 7 ∨ i1.toInt = 8 from by omega) with c_1 | c_1 | c_1 | c_1 | c_1 | c_1 | c_1 | c_1 | c_1 | c_1
  · refine lv_tableOut (tgt := 84) hx hb dX10_mostOf_1 c_1 ?o0 ?_
    case o0 => decide
    refine lv_sipush (v := 999) hx hb dX10_mostOf_84 ?o1 ?_
    case o1 => decide
    refine hx_reti hx hb hr hlk hW ⟨⟨hv_hi_e (show (999 : Int32).toInt = 999 from ?o2) ?o3, ?o4⟩, hT, hM⟩ dX10_mostOf_87
    case o2 => decide
    case o3 => omega
    case o4 => decide
  · refine lv_tableIn (off := 51) (tgt := 52) hx hb dX10_mostOf_1 ?o5 ?o6 (by rw [c_1]; rfl) ?o7 ?_
    case o5 => omega
    case o6 => omega
    case o7 => decide
    refine lv_sipush (v := 9999) hx hb dX10_mostOf_52 ?o8 ?_
    case o8 => decide
    refine hx_reti hx hb hr hlk hW ⟨⟨hv_hi_e (show (9999 : Int32).toInt = 9999 from ?o9) ?o10, ?o11⟩, hT, hM⟩ dX10_mostOf_55
    case o9 => decide
    case o10 => omega
    case o11 => decide
  · refine lv_tableIn (off := 55) (tgt := 56) hx hb dX10_mostOf_1 ?o12 ?o13 (by rw [c_1]; rfl) ?o14 ?_
    case o12 => omega
    case o13 => omega
    case o14 => decide
    refine lv_sipush (v := 365) hx hb dX10_mostOf_56 ?o15 ?_
    case o15 => decide
    refine hx_reti hx hb hr hlk hW ⟨⟨hv_hi_e (show (365 : Int32).toInt = 365 from ?o16) ?o17, ?o18⟩, hT, hM⟩ dX10_mostOf_59
    case o16 => decide
    case o17 => omega
    case o18 => decide
  · refine lv_tableIn (off := 59) (tgt := 60) hx hb dX10_mostOf_1 ?o19 ?o20 (by rw [c_1]; rfl) ?o21 ?_
    case o19 => omega
    case o20 => omega
    case o21 => decide
    refine lv_sipush (v := 999) hx hb dX10_mostOf_60 ?o22 ?_
    case o22 => decide
    refine hx_reti hx hb hr hlk hW ⟨⟨hv_hi_e (show (999 : Int32).toInt = 999 from ?o23) ?o24, ?o25⟩, hT, hM⟩ dX10_mostOf_63
    case o23 => decide
    case o24 => omega
    case o25 => decide
  · refine lv_tableIn (off := 63) (tgt := 64) hx hb dX10_mostOf_1 ?o26 ?o27 (by rw [c_1]; rfl) ?o28 ?_
    case o26 => omega
    case o27 => omega
    case o28 => decide
    refine lv_sipush (v := 999) hx hb dX10_mostOf_64 ?o29 ?_
    case o29 => decide
    refine hx_reti hx hb hr hlk hW ⟨⟨hv_hi_e (show (999 : Int32).toInt = 999 from ?o30) ?o31, ?o32⟩, hT, hM⟩ dX10_mostOf_67
    case o30 => decide
    case o31 => omega
    case o32 => decide
  · refine lv_tableIn (off := 67) (tgt := 68) hx hb dX10_mostOf_1 ?o33 ?o34 (by rw [c_1]; rfl) ?o35 ?_
    case o33 => omega
    case o34 => omega
    case o35 => decide
    refine lv_bipush (v := 20) hx hb dX10_mostOf_68 ?o36 ?_
    case o36 => decide
    refine hx_reti hx hb hr hlk hW ⟨⟨hv_hi_e (show (20 : Int32).toInt = 20 from ?o37) ?o38, ?o39⟩, hT, hM⟩ dX10_mostOf_70
    case o37 => decide
    case o38 => omega
    case o39 => decide
  · refine lv_tableIn (off := 70) (tgt := 71) hx hb dX10_mostOf_1 ?o40 ?o41 (by rw [c_1]; rfl) ?o42 ?_
    case o40 => omega
    case o41 => omega
    case o42 => decide
    refine lv_bipush (v := 20) hx hb dX10_mostOf_71 ?o43 ?_
    case o43 => decide
    refine hx_reti hx hb hr hlk hW ⟨⟨hv_hi_e (show (20 : Int32).toInt = 20 from ?o44) ?o45, ?o46⟩, hT, hM⟩ dX10_mostOf_73
    case o44 => decide
    case o45 => omega
    case o46 => decide
  · refine lv_tableIn (off := 73) (tgt := 74) hx hb dX10_mostOf_1 ?o47 ?o48 (by rw [c_1]; rfl) ?o49 ?_
    case o47 => omega
    case o48 => omega
    case o49 => decide
    refine lv_bipush (v := 30) hx hb dX10_mostOf_74 ?o50 ?_
    case o50 => decide
    refine hx_reti hx hb hr hlk hW ⟨⟨hv_hi_e (show (30 : Int32).toInt = 30 from ?o51) ?o52, ?o53⟩, hT, hM⟩ dX10_mostOf_76
    case o51 => decide
    case o52 => omega
    case o53 => decide
  · refine lv_tableIn (off := 76) (tgt := 77) hx hb dX10_mostOf_1 ?o54 ?o55 (by rw [c_1]; rfl) ?o56 ?_
    case o54 => omega
    case o55 => omega
    case o56 => decide
    refine lv_sipush (v := 400) hx hb dX10_mostOf_77 ?o57 ?_
    case o57 => decide
    refine hx_reti hx hb hr hlk hW ⟨⟨hv_hi_e (show (400 : Int32).toInt = 400 from ?o58) ?o59, ?o60⟩, hT, hM⟩ dX10_mostOf_80
    case o58 => decide
    case o59 => omega
    case o60 => decide
  · refine lv_tableIn (off := 80) (tgt := 81) hx hb dX10_mostOf_1 ?o61 ?o62 (by rw [c_1]; rfl) ?o63 ?_
    case o61 => omega
    case o62 => omega
    case o63 => decide
    refine lv_bipush (v := 40) hx hb dX10_mostOf_81 ?o64 ?_
    case o64 => decide
    refine hx_reti hx hb hr hlk hW ⟨⟨hv_hi_e (show (40 : Int32).toInt = 40 from ?o65) ?o66, ?o67⟩, hT, hM⟩ dX10_mostOf_83
    case o65 => decide
    case o66 => omega
    case o67 => decide


set_option maxHeartbeats 4000000 in
set_option maxRecDepth 100000 in
theorem t_X10_without_v (l : Launch) (dC : Nat → ClassId) (dI : Nat → Nat → Nat) (dA : Nat → ClassId) (L : List Nat) (h : hx_h) (sz : Nat) (i1 : Int32) (hT : hx_T T_tb L h)  (hi1 : 0 ≤ i1.toInt ∧ i1.toInt ≤ 12) : Met l yX10_without (Cond.code yX10_without cX10_without 1 (some .int) :: hx_all) ({ frames := 0, cells := 0, slots := 0, locals := 0 }) (va_Pc [.int i1] (hx_B T_tb (P_ty dA) (dC, dI) vwCl L h sz)) (va_Qi (fun (r : Int32) (u : List Nat × hx_h) => (r.toInt = hv_W0 i1.toInt.toNat ∧ (0 ≤ r.toInt ∧ r.toInt ≤ 480 ∧ ((i1.toInt = 2 → 1 ≤ r.toInt) ∧ (9 ≤ i1.toInt → r.toInt = 0)))) ∧ hx_T T_tb u.1 u.2 ∧ hx_S T_tb [] L h u.1 u.2) (hx_E T_tb (P_ty dA) (dC, dI) vwCl (hx_A L sz)) (hx_A L sz)) 0 0 (hx_A L sz) := by
  refine hx_met (lv := [(0, .int i1)]) (by decide +kernel) rfl (Nat.le_of_ble_eq_true rfl) rfl ?_
  intro p e s m below meth c hx hb hml hr hlk hts0 hown hin hsz hW ls hl
  have hts : ∀ w ∈ hx_all, w.before _ s = true := fun w hw => hts0 w (List.mem_cons_of_mem _ hw)
  have hown : s.vm.findClass "SmallCourtModel" = some m.cls := hown
  have hM : hx_S T_tb [] L h L h := hx_S.rf
  refine lv_iload_n hx hb dX10_without_0 rfl (lv_at hl 0 rfl) ?_
  rcases (show (i1.toInt < 0 ∨ 8 < i1.toInt) ∨ i1.toInt = 0 ∨ i1.toInt = 1 ∨ i1.toInt = 2 ∨ i1.toInt = 3 ∨ i1.toInt = 4 ∨ i1.toInt = 5 ∨ i1.toInt = 6 ∨ i1.toInt = 7 ∨ i1.toInt = 8 from by omega) with c_1 | c_1 | c_1 | c_1 | c_1 | c_1 | c_1 | c_1 | c_1 | c_1
  · refine lv_tableOut (tgt := 77) hx hb dX10_without_1 c_1 ?o0 ?_
    case o0 => decide
    refine lv_iconst (v := 0) hx hb dX10_without_77 ?o1 ?_
    case o1 => decide
    refine hx_reti hx hb hr hlk hW ⟨⟨hv_W0_e (show (0 : Int32).toInt = 0 from ?o2) ?o3, (by have zr : (0 : Int32).toInt = 0 := (by decide); refine ⟨?_, ?_, ?_⟩ <;> omega)⟩, hT, hM⟩ dX10_without_78
    case o2 => decide
    case o3 => omega
  · refine lv_tableIn (off := 51) (tgt := 52) hx hb dX10_without_1 ?o4 ?o5 (by rw [c_1]; rfl) ?o6 ?_
    case o4 => omega
    case o5 => omega
    case o6 => decide
    refine lv_sipush (v := 480) hx hb dX10_without_52 ?o7 ?_
    case o7 => decide
    refine hx_reti hx hb hr hlk hW ⟨⟨hv_W0_e (show (480 : Int32).toInt = 480 from ?o8) ?o9, (by have zr : (480 : Int32).toInt = 480 := (by decide); refine ⟨?_, ?_, ?_⟩ <;> omega)⟩, hT, hM⟩ dX10_without_55
    case o8 => decide
    case o9 => omega
  · refine lv_tableIn (off := 55) (tgt := 56) hx hb dX10_without_1 ?o10 ?o11 (by rw [c_1]; rfl) ?o12 ?_
    case o10 => omega
    case o11 => omega
    case o12 => decide
    refine lv_bipush (v := 30) hx hb dX10_without_56 ?o13 ?_
    case o13 => decide
    refine hx_reti hx hb hr hlk hW ⟨⟨hv_W0_e (show (30 : Int32).toInt = 30 from ?o14) ?o15, (by have zr : (30 : Int32).toInt = 30 := (by decide); refine ⟨?_, ?_, ?_⟩ <;> omega)⟩, hT, hM⟩ dX10_without_58
    case o14 => decide
    case o15 => omega
  · refine lv_tableIn (off := 58) (tgt := 59) hx hb dX10_without_1 ?o16 ?o17 (by rw [c_1]; rfl) ?o18 ?_
    case o16 => omega
    case o17 => omega
    case o18 => decide
    refine lv_bipush (v := 12) hx hb dX10_without_59 ?o19 ?_
    case o19 => decide
    refine hx_reti hx hb hr hlk hW ⟨⟨hv_W0_e (show (12 : Int32).toInt = 12 from ?o20) ?o21, (by have zr : (12 : Int32).toInt = 12 := (by decide); refine ⟨?_, ?_, ?_⟩ <;> omega)⟩, hT, hM⟩ dX10_without_61
    case o20 => decide
    case o21 => omega
  · refine lv_tableIn (off := 61) (tgt := 62) hx hb dX10_without_1 ?o22 ?o23 (by rw [c_1]; rfl) ?o24 ?_
    case o22 => omega
    case o23 => omega
    case o24 => decide
    refine lv_bipush (v := 60) hx hb dX10_without_62 ?o25 ?_
    case o25 => decide
    refine hx_reti hx hb hr hlk hW ⟨⟨hv_W0_e (show (60 : Int32).toInt = 60 from ?o26) ?o27, (by have zr : (60 : Int32).toInt = 60 := (by decide); refine ⟨?_, ?_, ?_⟩ <;> omega)⟩, hT, hM⟩ dX10_without_64
    case o26 => decide
    case o27 => omega
  · refine lv_tableIn (off := 64) (tgt := 65) hx hb dX10_without_1 ?o28 ?o29 (by rw [c_1]; rfl) ?o30 ?_
    case o28 => omega
    case o29 => omega
    case o30 => decide
    refine lv_iconst (v := 2) hx hb dX10_without_65 ?o31 ?_
    case o31 => decide
    refine hx_reti hx hb hr hlk hW ⟨⟨hv_W0_e (show (2 : Int32).toInt = 2 from ?o32) ?o33, (by have zr : (2 : Int32).toInt = 2 := (by decide); refine ⟨?_, ?_, ?_⟩ <;> omega)⟩, hT, hM⟩ dX10_without_66
    case o32 => decide
    case o33 => omega
  · refine lv_tableIn (off := 66) (tgt := 67) hx hb dX10_without_1 ?o34 ?o35 (by rw [c_1]; rfl) ?o36 ?_
    case o34 => omega
    case o35 => omega
    case o36 => decide
    refine lv_iconst (v := 4) hx hb dX10_without_67 ?o37 ?_
    case o37 => decide
    refine hx_reti hx hb hr hlk hW ⟨⟨hv_W0_e (show (4 : Int32).toInt = 4 from ?o38) ?o39, (by have zr : (4 : Int32).toInt = 4 := (by decide); refine ⟨?_, ?_, ?_⟩ <;> omega)⟩, hT, hM⟩ dX10_without_68
    case o38 => decide
    case o39 => omega
  · refine lv_tableIn (off := 68) (tgt := 69) hx hb dX10_without_1 ?o40 ?o41 (by rw [c_1]; rfl) ?o42 ?_
    case o40 => omega
    case o41 => omega
    case o42 => decide
    refine lv_iconst (v := 1) hx hb dX10_without_69 ?o43 ?_
    case o43 => decide
    refine hx_reti hx hb hr hlk hW ⟨⟨hv_W0_e (show (1 : Int32).toInt = 1 from ?o44) ?o45, (by have zr : (1 : Int32).toInt = 1 := (by decide); refine ⟨?_, ?_, ?_⟩ <;> omega)⟩, hT, hM⟩ dX10_without_70
    case o44 => decide
    case o45 => omega
  · refine lv_tableIn (off := 70) (tgt := 71) hx hb dX10_without_1 ?o46 ?o47 (by rw [c_1]; rfl) ?o48 ?_
    case o46 => omega
    case o47 => omega
    case o48 => decide
    refine lv_bipush (v := 40) hx hb dX10_without_71 ?o49 ?_
    case o49 => decide
    refine hx_reti hx hb hr hlk hW ⟨⟨hv_W0_e (show (40 : Int32).toInt = 40 from ?o50) ?o51, (by have zr : (40 : Int32).toInt = 40 := (by decide); refine ⟨?_, ?_, ?_⟩ <;> omega)⟩, hT, hM⟩ dX10_without_73
    case o50 => decide
    case o51 => omega
  · refine lv_tableIn (off := 73) (tgt := 74) hx hb dX10_without_1 ?o52 ?o53 (by rw [c_1]; rfl) ?o54 ?_
    case o52 => omega
    case o53 => omega
    case o54 => decide
    refine lv_bipush (v := 21) hx hb dX10_without_74 ?o55 ?_
    case o55 => decide
    refine hx_reti hx hb hr hlk hW ⟨⟨hv_W0_e (show (21 : Int32).toInt = 21 from ?o56) ?o57, (by have zr : (21 : Int32).toInt = 21 := (by decide); refine ⟨?_, ?_, ?_⟩ <;> omega)⟩, hT, hM⟩ dX10_without_76
    case o56 => decide
    case o57 => omega


set_option maxHeartbeats 4000000 in
set_option maxRecDepth 100000 in
theorem t_X10_clause_v (l : Launch) (dC : Nat → ClassId) (dI : Nat → Nat → Nat) (dA : Nat → ClassId) (L : List Nat) (h : hx_h) (sz : Nat) (x : Nat) (hT : hx_T T_tb L h) (gx : hx_g L h x 10) (qs : Nat) (gqs : hx_g L h qs 55) (f_x_15 : h.2.2 x 15 = some qs) (qo : Nat) (gqo : hx_g L h qo 56) (f_x_17 : h.2.2 x 17 = some qo) (qt : Nat) (gqt : hx_g L h qt 53) (f_x_6 : h.2.2 x 6 = some qt) (qw : Nat) (gqw : hx_g L h qw 57) (f_x_19 : h.2.2 x 19 = some qw) (qr : Nat) (gqr : hx_g L h qr 54) (f_x_12 : h.2.2 x 12 = some qr) (sf : Nat → Int32) (af_qs : h.2.1 qs = sf) (of : Nat → Int32) (af_qo : h.2.1 qo = of) (tf : Nat → Int32) (af_qt : h.2.1 qt = tf) (wf : Nat → Int32) (af_qw : h.2.1 qw = wf) (rd : Nat → Int32) (af_qr : h.2.1 qr = rd) (nx0 : Int32) (f_x_8 : h.2.1 x 8 = nx0) (tp0 : Int32) (f_x_7 : h.2.1 x 7 = tp0) (st0 : Int32) (f_x_14 : h.2.1 x 14 = st0) (ft0 : Int32) (f_x_9 : h.2.1 x 9 = ft0) (sn0 : Int32) (f_x_13 : h.2.1 x 13 = sn0) (hrp : hx_rp sf st0.toInt.toNat = some 1) (hrd : hx_rk rd) (hwd : hx_wd wf) (o : List hv_tok) (hO : hv_ls sf st0.toInt.toNat = o.map hv_rc) (hF : ft0.toInt = 0) (hA : nx0.toInt ≤ tp0.toInt) : Met l yX10_clause (Cond.code yX10_clause cX10_clause 4 (some .boolean) :: hx_all) ({ frames := 5, cells := 0, slots := 0, locals := 118 }) (va_Pc [.ref x] (hx_B T_tb (P_ty dA) (dC, dI) vwCl L h sz)) (va_Qi (fun (r : Int32) (u : List Nat × hx_h) => (∃ (nx1 : Int32) (st1 : Int32) (ft1 : Int32) (sn1 : Int32) (sf1 : Nat → Int32) (rd1 : Nat → Int32), u.2.2.1 x 8 = nx1 ∧ u.2.2.1 x 14 = st1 ∧ u.2.2.1 x 9 = ft1 ∧ u.2.2.1 x 13 = sn1 ∧ u.2.2.1 qs = sf1 ∧ u.2.2.1 qr = rd1 ∧ ((r.toInt = 0 ∨ r.toInt = 1) ∧ nx0.toInt ≤ nx1.toInt ∧ (r.toInt = 1 → nx0.toInt + 1 ≤ nx1.toInt ∧ nx1.toInt ≤ tp0.toInt ∧ hx_rp sf1 st1.toInt.toNat = some 1 ∧ hx_rk rd1) ∧ hv_CM tf tp0.toInt.toNat hv_rc (hv_cl tf tp0.toInt.toNat nx0.toInt.toNat (hv_sR sn0) (hv_rR rd) o) r.toInt ft1.toInt nx1.toInt (hv_sR sn1) (hv_rR rd1) (hv_ls sf1 st1.toInt.toNat))) ∧ hx_T T_tb u.1 u.2 ∧ hx_S T_tb [(10, 8), (10, 9), (10, 10), (10, 11), (10, 13), (10, 14), (10, 16), (10, 18), (54, 0), (55, 0), (56, 0)] L h u.1 u.2) (hx_E T_tb (P_ty dA) (dC, dI) vwCl (hx_A L sz)) (hx_A L sz)) 0 0 (hx_A L sz) := by
  refine hx_met (lv := [(0, .ref x)]) (by decide +kernel) rfl (Nat.le_of_ble_eq_true rfl) rfl ?_
  intro p e s m below meth c hx hb hml hr hlk hts0 hown hin hsz hW ls hl
  have hts : ∀ w ∈ hx_all, w.before _ s = true := fun w hw => hts0 w (List.mem_cons_of_mem _ hw)
  have hown : s.vm.findClass "SmallCourtModel" = some m.cls := hown
  have hM : hx_S T_tb [(10, 8), (10, 9), (10, 10), (10, 11), (10, 13), (10, 14), (10, 16), (10, 18), (54, 0), (55, 0), (56, 0)] L h L h := hx_S.rf
  have b_nx0 := hT.gi gx tt_10 (k := 8) rfl
  rw [f_x_8] at b_nx0
  have b_nx0 : 0 ≤ nx0.toInt ∧ nx0.toInt ≤ 402 := b_nx0
  have b_tp0 := hT.gi gx tt_10 (k := 7) rfl
  rw [f_x_7] at b_tp0
  have b_tp0 : 0 ≤ tp0.toInt ∧ tp0.toInt ≤ 400 := b_tp0
  have b_st0 := hT.gi gx tt_10 (k := 14) rfl
  rw [f_x_14] at b_st0
  have b_st0 : 0 ≤ st0.toInt ∧ st0.toInt ≤ 128 := b_st0
  have b_ft0 := hT.gi gx tt_10 (k := 9) rfl
  rw [f_x_9] at b_ft0
  have b_ft0 : -2147483648 ≤ ft0.toInt ∧ ft0.toInt ≤ 2147483647 := b_ft0
  have b_sn0 := hT.gi gx tt_10 (k := 13) rfl
  rw [f_x_13] at b_sn0
  have b_sn0 : -2147483648 ≤ sn0.toInt ∧ sn0.toInt ≤ 2147483647 := b_sn0
  refine lv_aload_n hx hb dX10_clause_0 rfl (lv_at hl 0 rfl) ?_
  refine hx_goi (hx_runV (As := []) (rest := []) ⟨hx, hb, hml, hown, hts⟩ hW (gx.S hM) tt_10 (T := TX10) (N := 98) rfl (t_X10_wordHere_v l dC dI dA L h s.heap.size x hT (gx.S hM) qt (gqt.S hM) ((hM.o gx trivial rfl).2.trans f_x_6) qw (gqw.S hM) ((hM.o gx trivial rfl).2.trans f_x_19) tf (hx_afS hM gqt rfl af_qt) wf (hx_afS hM gqw rfl af_qw) nx0 f_x_8 tp0 ((hM.o gx trivial rfl).1.trans f_x_7) hwd ?o0) (cwV 0 hts (hx_gV kw_1476 kw_1473 kw_1475 kw_55 kw_103) rfl rfl rfl (by decide +kernel) ⟨Nat.le_of_ble_eq_true rfl, Nat.le_of_ble_eq_true rfl⟩) rfl hl.1 rfl (Nat.le_of_ble_eq_true rfl) dX10_clause_1 ⟨Nat.le_of_ble_eq_true rfl, Nat.le_of_ble_eq_true rfl⟩) hW (fun r_3 L_1 h_2 H locs p_4 hW => ?_)
  case o0 => omega
  obtain ⟨⟨w_6, w_7, fw_6, fw_7, hr_5⟩, hT, hs⟩ := p_4
  replace hT : hx_T T_tb L_1 h_2 := hT
  replace hs : hx_S T_tb [(10, 8), (10, 11)] L h L_1 h_2 := hs
  replace f_x_14 := (hs.o (gx.S hM) trivial rfl).1.trans f_x_14
  replace f_x_9 := (hs.o (gx.S hM) trivial rfl).1.trans f_x_9
  replace f_x_13 := (hs.o (gx.S hM) trivial rfl).1.trans f_x_13
  replace af_qs : h_2.2.1 qs = sf := (funext fun j => (hs.a (gqs.S hM) rfl j).1).trans af_qs
  replace af_qo : h_2.2.1 qo = of := (funext fun j => (hs.a (gqo.S hM) rfl j).1).trans af_qo
  replace af_qr : h_2.2.1 qr = rd := (funext fun j => (hs.a (gqr.S hM) rfl j).1).trans af_qr
  replace hM := hM.tr (hs.mono ?o1)
  case o1 => decide
  have fw_6 : h_2.2.1 x 8 = w_6 := fw_6
  have bw_6 := hT.gi (gx.S hM) tt_10 (k := 8) rfl
  rw [fw_6] at bw_6
  have bw_6 : 0 ≤ w_6.toInt ∧ w_6.toInt ≤ 402 := bw_6
  have fw_7 : h_2.2.1 x 11 = w_7 := fw_7
  have bw_7 := hT.gi (gx.S hM) tt_10 (k := 11) rfl
  rw [fw_7] at bw_7
  have bw_7 : 0 ≤ w_7.toInt ∧ w_7.toInt ≤ 400 := bw_7
  have ek_8 : w_6.toInt.toNat = hv_sk tf tp0.toInt.toNat nx0.toInt.toNat := ?o2
  case o2 => omega
  have hr_5W : r_3.toInt = hv_wd tf tp0.toInt.toNat w_6.toInt.toNat := ?o3
  case o3 =>
    rw [ek_8]
    exact hr_5.2.2.2.2.1
  have hr_5E : ((hv_we tf tp0.toInt.toNat w_6.toInt.toNat : Nat) : Int) = w_6.toInt + w_7.toInt := ?o4
  case o4 =>
    rw [ek_8]
    exact hr_5.2.2.2.1.symm
  refine lv_istore_n (lv' := [(1, .int r_3), (0, .ref x)]) hx hb dX10_clause_4 rfl hl ?o5 rfl (fun ls hl => ?_)
  case o5 => decide
  refine lv_aload_n hx hb dX10_clause_5 rfl (lv_at hl 1 rfl) ?_
  refine hk_geti hx hb hts hC_10 hown hW (gx.S hM) tt_10 8 ?o6 rfl kw_1151 ⟨rfl, rfl, rfl⟩ fw_6 dX10_clause_6 ?_
  case o6 => decide
  refine lv_istore_n (lv' := [(2, .int w_6), (1, .int r_3), (0, .ref x)]) hx hb dX10_clause_9 rfl hl ?o7 rfl (fun ls hl => ?_)
  case o7 => decide
  have hw1 : hv_wd tf tp0.toInt.toNat w_6.toInt.toNat = r_3.toInt := hr_5W.symm
  refine lv_iload_n hx hb dX10_clause_10 rfl (lv_at hl 1 rfl) ?_
  refine lv_bipush (v := 11) hx hb dX10_clause_11 ?o8 ?_
  case o8 => decide
  refine lv_bipush (v := 20) hx hb dX10_clause_13 ?o9 ?_
  case o9 => decide
  have zc_20 : (20 : Int32).toInt = 20 := ?o10
  case o10 => decide
  have zc_11 : (11 : Int32).toInt = 11 := ?o11
  case o11 => decide
  refine hx_goi (hx_runS (As := [.int r_3, .int (11 : Int32), .int (20 : Int32)]) (rest := []) ⟨hx, hb, hml, hown, hts⟩ hW (t_X10_in l dC dI dA L_1 h_2 H.size r_3 (11 : Int32) (20 : Int32) hT) (va_cwS 3 hts (hx_gS kw_1445 kw_1443 kw_1444 kw_103) rfl rfl rfl (by decide +kernel) ⟨Nat.le_of_ble_eq_true rfl, Nat.le_of_ble_eq_true rfl⟩) rfl hl.1 rfl (Nat.le_of_ble_eq_true rfl) dX10_clause_15 ⟨Nat.le_of_ble_eq_true rfl, Nat.le_of_ble_eq_true rfl⟩) hW (fun r_11 L_9 h_10 H locs p_12 hW => ?_)
  obtain ⟨hr_13, hT, hs⟩ := p_12
  replace hT : hx_T T_tb L_9 h_10 := hT
  replace hs : hx_S T_tb [] L_1 h_2 L_9 h_10 := hs
  replace f_x_14 := (hs.o (gx.S hM) trivial rfl).1.trans f_x_14
  replace f_x_9 := (hs.o (gx.S hM) trivial rfl).1.trans f_x_9
  replace f_x_13 := (hs.o (gx.S hM) trivial rfl).1.trans f_x_13
  replace fw_6 := (hs.o (gx.S hM) trivial rfl).1.trans fw_6
  replace fw_7 := (hs.o (gx.S hM) trivial rfl).1.trans fw_7
  replace af_qs : h_10.2.1 qs = sf := (funext fun j => (hs.a (gqs.S hM) rfl j).1).trans af_qs
  replace af_qo : h_10.2.1 qo = of := (funext fun j => (hs.a (gqo.S hM) rfl j).1).trans af_qo
  replace af_qr : h_10.2.1 qr = rd := (funext fun j => (hs.a (gqr.S hM) rfl j).1).trans af_qr
  replace hM := hM.tr (hs.mono ?o12)
  case o12 => decide
  refine hb_if_ne (zx := r_11.toInt) (tgt := 28) hx hb rfl dX10_clause_18 ?o13 (fun c_14 => ?_) (fun c_14 => ?_)
  case o13 => decide
  · skip
    replace hr_13 := hr_13.resolve_left (fun z9 => c_14 z9.1)
    replace c_14 := hr_13.1
    replace hr_13 := hr_13.2
    refine lv_iload_n hx hb dX10_clause_28 rfl (lv_at hl 1 rfl) ?_
    refine lv_bipush (v := 20) hx hb dX10_clause_29 ?o14 ?_
    case o14 => decide
    refine hb_icmp_ne (zx := r_3.toInt) (zy := 20) (tgt := 64) hx hb rfl ?o15 dX10_clause_31 ?o16 (fun c_15 => ?_) (fun c_15 => ?_)
    case o15 => decide
    case o16 => decide
    · skip
      refine lv_iload_n hx hb dX10_clause_64 rfl (lv_at hl 1 rfl) ?_
      refine lv_bipush (v := 19) hx hb dX10_clause_65 ?o17 ?_
      case o17 => decide
      refine hb_icmp_ne (zx := r_3.toInt) (zy := 19) (tgt := 168) hx hb rfl ?o18 dX10_clause_67 ?o19 (fun c_16 => ?_) (fun c_16 => ?_)
      case o18 => decide
      case o19 => decide
      · skip
        refine lv_iload_n hx hb dX10_clause_168 rfl (lv_at hl 1 rfl) ?_
        refine lv_bipush (v := 11) hx hb dX10_clause_169 ?o20 ?_
        case o20 => decide
        refine lv_isub hx hb dX10_clause_171 ?_
        have rg_17 := i32_r r_3
        refine lv_topi (fun x_18 ex_18 => ?_)
        have zx_18 : x_18.toInt = r_3.toInt - 11 := ?o21
        case o21 =>
          rw [ex_18]
          refine i32_sub rfl ?o22 ?o23 ?o24
          case o22 => decide
          case o23 => omega
          case o24 => omega
        refine lv_istore_n (lv' := [(3, .int x_18), (2, .int w_6), (1, .int r_3), (0, .ref x)]) hx hb dX10_clause_172 rfl hl ?o25 rfl (fun ls hl => ?_)
        case o25 => decide
        refine lv_iload_n hx hb dX10_clause_173 rfl (lv_at hl 0 rfl) ?_
        refine lv_iconst (v := 5) hx hb dX10_clause_174 ?o26 ?_
        case o26 => decide
        refine hb_icmp_le (zx := x_18.toInt) (zy := 5) (tgt := 184) hx hb rfl ?o27 dX10_clause_175 ?o28 (fun c_19 => ?_) (fun c_19 => ?_)
        case o27 => decide
        case o28 => decide
        · skip
          refine lv_iload_n hx hb dX10_clause_184 rfl (lv_at hl 0 rfl) ?_
          refine lv_istore_n (lv' := [(3, .int x_18), (2, .int w_6), (1, .int r_3), (0, .ref x)]) hx hb dX10_clause_185 rfl hl ?o29 rfl (fun ls hl => ?_)
          case o29 => decide
          have hkk : x_18.toInt.toNat = hv_kk r_3.toInt := by unfold hv_kk; split <;> omega
          have hkb : 0 ≤ x_18.toInt ∧ x_18.toInt ≤ 8 := ?o30
          case o30 => omega
          have hlo2 : x_18.toInt = 2 → hv_lo x_18.toInt.toNat = 1 := fun z => by rw [z]; decide
          have zc6 : (6 : Int32).toInt = 6 := ?o31
          case o31 => decide
          refine lv_aload_n hx hb dX10_clause_186 rfl (lv_at hl 3 rfl) ?_
          refine lv_iload_n hx hb dX10_clause_187 rfl (lv_at hl 0 rfl) ?_
          refine lv_iload_n hx hb dX10_clause_188 rfl (lv_at hl 1 rfl) ?_
          refine hx_goi (hx_runV (As := [.int x_18, .int w_6]) (rest := []) ⟨hx, hb, hml, hown, hts⟩ hW (gx.S hM) tt_10 (T := TX10) (N := 98) rfl (t_X10_isNew_v l dC dI dA L_9 h_10 H.size x x_18 w_6 hT (gx.S hM) sn0 f_x_13 ft0 f_x_9 x_18.toInt.toNat ?o32 (hv_rx_i ?o33 ?o34) ⟨?o35, ?o36⟩ ?o37) (cwV 2 hts (hx_gV kw_1484 kw_1481 kw_1483 kw_57 kw_103) rfl rfl rfl (by decide +kernel) ⟨Nat.le_of_ble_eq_true rfl, Nat.le_of_ble_eq_true rfl⟩) rfl hl.1 rfl (Nat.le_of_ble_eq_true rfl) dX10_clause_189 ⟨Nat.le_of_ble_eq_true rfl, Nat.le_of_ble_eq_true rfl⟩) hW (fun r_22 L_20 h_21 H locs p_23 hW => ?_)
          case o32 => omega
          case o33 => omega
          case o34 => omega
          case o35 => omega
          case o36 => omega
          case o37 => omega
          obtain ⟨⟨w_25, w_26, fw_25, fw_26, hr_24⟩, hT, hs⟩ := p_23
          replace hT : hx_T T_tb L_20 h_21 := hT
          replace hs : hx_S T_tb [(10, 9), (10, 13)] L_9 h_10 L_20 h_21 := hs
          replace f_x_14 := (hs.o (gx.S hM) trivial rfl).1.trans f_x_14
          replace fw_6 := (hs.o (gx.S hM) trivial rfl).1.trans fw_6
          replace fw_7 := (hs.o (gx.S hM) trivial rfl).1.trans fw_7
          replace af_qs : h_21.2.1 qs = sf := (funext fun j => (hs.a (gqs.S hM) rfl j).1).trans af_qs
          replace af_qo : h_21.2.1 qo = of := (funext fun j => (hs.a (gqo.S hM) rfl j).1).trans af_qo
          replace af_qr : h_21.2.1 qr = rd := (funext fun j => (hs.a (gqr.S hM) rfl j).1).trans af_qr
          replace hM := hM.tr (hs.mono ?o38)
          case o38 => decide
          have fw_25 : h_21.2.1 x 13 = w_25 := fw_25
          have bw_25 := hT.gi (gx.S hM) tt_10 (k := 13) rfl
          rw [fw_25] at bw_25
          have bw_25 : -2147483648 ≤ w_25.toInt ∧ w_25.toInt ≤ 2147483647 := bw_25
          have fw_26 : h_21.2.1 x 9 = w_26 := fw_26
          have bw_26 := hT.gi (gx.S hM) tt_10 (k := 9) rfl
          rw [fw_26] at bw_26
          have bw_26 : -2147483648 ≤ w_26.toInt ∧ w_26.toInt ≤ 2147483647 := bw_26
          have hr_24b := hv_IN_b hr_24
          refine hb_if_ne (zx := r_22.toInt) (tgt := 197) hx hb rfl dX10_clause_192 ?o39 (fun c_27 => ?_) (fun c_27 => ?_)
          case o39 => decide
          · skip
            obtain ⟨hr_24F, hr_24S, hr_24U⟩ := hv_IN_1 hr_24 (by omega)
            refine lv_aload_n hx hb dX10_clause_197 rfl (lv_at hl 3 rfl) ?_
            refine lv_dup hx hb dX10_clause_198 rfl ?_
            refine hk_geti hx hb hts hC_10 hown hW (gx.S hM) tt_10 8 ?o40 rfl kw_1151 ⟨rfl, rfl, rfl⟩ fw_6 dX10_clause_199 ?_
            case o40 => decide
            refine lv_aload_n hx hb dX10_clause_202 rfl (lv_at hl 3 rfl) ?_
            refine hk_geti hx hb hts hC_10 hown hW (gx.S hM) tt_10 11 ?o41 rfl kw_1154 ⟨rfl, rfl, rfl⟩ fw_7 dX10_clause_203 ?_
            case o41 => decide
            refine lv_iadd hx hb dX10_clause_206 ?_
            have rg_28 := i32_r w_6
            have rg_29 := i32_r w_7
            refine lv_topi (fun x_30 ex_30 => ?_)
            have zx_30 : x_30.toInt = w_6.toInt + w_7.toInt := ?o42
            case o42 =>
              rw [ex_30]
              refine i32_add rfl rfl ?o43 ?o44
              case o43 => omega
              case o44 => omega
            refine hx_puti hx hb hts hC_10 hown hW hT (hx_S.rf (M := [(10, 8)])) (gx.S hM) tt_10 8 ?o45 rfl kw_1151 ⟨rfl, rfl, rfl⟩ rfl (x := x_30) ⟨?o46, ?o47⟩ rfl rfl rfl (List.mem_singleton.mpr rfl) dX10_clause_207 (fun H locs h_31 eh_31 hW hT hs => ?_)
            case o45 => decide
            case o46 => omega
            case o47 => omega
            replace f_x_14 := (hs.o (gx.S hM) trivial rfl).1.trans f_x_14
            replace fw_7 := (hs.o (gx.S hM) trivial rfl).1.trans fw_7
            replace fw_25 := (hs.o (gx.S hM) trivial rfl).1.trans fw_25
            replace fw_26 := (hs.o (gx.S hM) trivial rfl).1.trans fw_26
            replace af_qs : h_31.2.1 qs = sf := (funext fun j => (hs.a (gqs.S hM) rfl j).1).trans af_qs
            replace af_qo : h_31.2.1 qo = of := (funext fun j => (hs.a (gqo.S hM) rfl j).1).trans af_qo
            replace af_qr : h_31.2.1 qr = rd := (funext fun j => (hs.a (gqr.S hM) rfl j).1).trans af_qr
            replace hM := hM.tr (hs.mono ?o48)
            case o48 => decide
            have f_32 : h_31.2.1 x 8 = x_30 := ?o49
            case o49 =>
              rw [eh_31]
              exact hx_pi_at _ _ _ _
            have ha1 : x_30.toInt.toNat = hv_we tf tp0.toInt.toNat w_6.toInt.toNat := ?o50
            case o50 =>
              have h9 := hr_5E
              omega
            have hw3 := hv_wd_3 (T := tf) (n := tp0.toInt.toNat) (p := w_6.toInt.toNat) ?o51
            case o51 => omega
            refine lv_aload_n hx hb dX10_clause_210 rfl (lv_at hl 3 rfl) ?_
            refine lv_iload_n hx hb dX10_clause_211 rfl (lv_at hl 0 rfl) ?_
            refine hx_goi (hx_runS (As := [.int x_18]) (rest := [.ref x]) ⟨hx, hb, hml, hown, hts⟩ hW (t_X10_leastOf_v l dC dI dA L_20 h_31 H.size x_18 hT ⟨?o52, ?o53⟩) (va_cwS 1 hts (hx_gS kw_1518 kw_1516 kw_1517 kw_103) rfl rfl rfl (by decide +kernel) ⟨Nat.le_of_ble_eq_true rfl, Nat.le_of_ble_eq_true rfl⟩) rfl hl.1 rfl (Nat.le_of_ble_eq_true rfl) dX10_clause_212 ⟨Nat.le_of_ble_eq_true rfl, Nat.le_of_ble_eq_true rfl⟩) hW (fun r_35 L_33 h_34 H locs p_36 hW => ?_)
            case o52 => omega
            case o53 => omega
            obtain ⟨hr_37, hT, hs⟩ := p_36
            replace hT : hx_T T_tb L_33 h_34 := hT
            replace hs : hx_S T_tb [] L_20 h_31 L_33 h_34 := hs
            replace f_x_14 := (hs.o (gx.S hM) trivial rfl).1.trans f_x_14
            replace fw_7 := (hs.o (gx.S hM) trivial rfl).1.trans fw_7
            replace fw_25 := (hs.o (gx.S hM) trivial rfl).1.trans fw_25
            replace fw_26 := (hs.o (gx.S hM) trivial rfl).1.trans fw_26
            replace f_32 := (hs.o (gx.S hM) trivial rfl).1.trans f_32
            replace af_qs : h_34.2.1 qs = sf := (funext fun j => (hs.a (gqs.S hM) rfl j).1).trans af_qs
            replace af_qo : h_34.2.1 qo = of := (funext fun j => (hs.a (gqo.S hM) rfl j).1).trans af_qo
            replace af_qr : h_34.2.1 qr = rd := (funext fun j => (hs.a (gqr.S hM) rfl j).1).trans af_qr
            replace hM := hM.tr (hs.mono ?o54)
            case o54 => decide
            refine lv_iload_n hx hb dX10_clause_215 rfl (lv_at hl 0 rfl) ?_
            refine hx_goi (hx_runS (As := [.int x_18]) (rest := [.int r_35, .ref x]) ⟨hx, hb, hml, hown, hts⟩ hW (t_X10_mostOf_v l dC dI dA L_33 h_34 H.size x_18 hT ⟨?o55, ?o56⟩) (va_cwS 1 hts (hx_gS kw_1521 kw_1519 kw_1520 kw_103) rfl rfl rfl (by decide +kernel) ⟨Nat.le_of_ble_eq_true rfl, Nat.le_of_ble_eq_true rfl⟩) rfl hl.1 rfl (Nat.le_of_ble_eq_true rfl) dX10_clause_216 ⟨Nat.le_of_ble_eq_true rfl, Nat.le_of_ble_eq_true rfl⟩) hW (fun r_40 L_38 h_39 H locs p_41 hW => ?_)
            case o55 => omega
            case o56 => omega
            obtain ⟨hr_42, hT, hs⟩ := p_41
            replace hT : hx_T T_tb L_38 h_39 := hT
            replace hs : hx_S T_tb [] L_33 h_34 L_38 h_39 := hs
            replace f_x_14 := (hs.o (gx.S hM) trivial rfl).1.trans f_x_14
            replace fw_7 := (hs.o (gx.S hM) trivial rfl).1.trans fw_7
            replace fw_25 := (hs.o (gx.S hM) trivial rfl).1.trans fw_25
            replace fw_26 := (hs.o (gx.S hM) trivial rfl).1.trans fw_26
            replace f_32 := (hs.o (gx.S hM) trivial rfl).1.trans f_32
            replace af_qs : h_39.2.1 qs = sf := (funext fun j => (hs.a (gqs.S hM) rfl j).1).trans af_qs
            replace af_qo : h_39.2.1 qo = of := (funext fun j => (hs.a (gqo.S hM) rfl j).1).trans af_qo
            replace af_qr : h_39.2.1 qr = rd := (funext fun j => (hs.a (gqr.S hM) rfl j).1).trans af_qr
            replace hM := hM.tr (hs.mono ?o57)
            case o57 => decide
            refine hx_goi (hx_runV (As := [.int r_35, .int r_40]) (rest := []) ⟨hx, hb, hml, hown, hts⟩ hW (gx.S hM) tt_10 (T := TX10) (N := 98) rfl (t_X10_number_v l dC dI dA L_38 h_39 H.size x r_35 r_40 hT (gx.S hM) qt (gqt.S hM) ((hM.o gx trivial rfl).2.trans f_x_6) tf (hx_afS hM gqt rfl af_qt) x_30 f_32 tp0 ((hM.o gx trivial rfl).1.trans f_x_7) w_26 fw_26 ?o58 ?o59 ?o60) (cwV 2 hts (hx_gV kw_1503 kw_1500 kw_1502 kw_61 kw_103) rfl rfl rfl (by decide +kernel) ⟨Nat.le_of_ble_eq_true rfl, Nat.le_of_ble_eq_true rfl⟩) rfl hl.1 rfl (Nat.le_of_ble_eq_true rfl) dX10_clause_219 ⟨Nat.le_of_ble_eq_true rfl, Nat.le_of_ble_eq_true rfl⟩) hW (fun r_45 L_43 h_44 H locs p_46 hW => ?_)
            case o58 => omega
            case o59 => omega
            case o60 => omega
            obtain ⟨⟨w_48, w_49, w_50, fw_48, fw_49, fw_50, hr_47⟩, hT, hs⟩ := p_46
            replace hT : hx_T T_tb L_43 h_44 := hT
            replace hs : hx_S T_tb [(10, 8), (10, 9), (10, 10)] L_38 h_39 L_43 h_44 := hs
            replace f_x_14 := (hs.o (gx.S hM) trivial rfl).1.trans f_x_14
            replace fw_7 := (hs.o (gx.S hM) trivial rfl).1.trans fw_7
            replace fw_25 := (hs.o (gx.S hM) trivial rfl).1.trans fw_25
            replace af_qs : h_44.2.1 qs = sf := (funext fun j => (hs.a (gqs.S hM) rfl j).1).trans af_qs
            replace af_qo : h_44.2.1 qo = of := (funext fun j => (hs.a (gqo.S hM) rfl j).1).trans af_qo
            replace af_qr : h_44.2.1 qr = rd := (funext fun j => (hs.a (gqr.S hM) rfl j).1).trans af_qr
            replace hM := hM.tr (hs.mono ?o61)
            case o61 => decide
            have fw_48 : h_44.2.1 x 8 = w_48 := fw_48
            have bw_48 := hT.gi (gx.S hM) tt_10 (k := 8) rfl
            rw [fw_48] at bw_48
            have bw_48 : 0 ≤ w_48.toInt ∧ w_48.toInt ≤ 402 := bw_48
            have fw_49 : h_44.2.1 x 10 = w_49 := fw_49
            have bw_49 := hT.gi (gx.S hM) tt_10 (k := 10) rfl
            rw [fw_49] at bw_49
            have bw_49 : 0 ≤ w_49.toInt ∧ w_49.toInt ≤ 9999 := bw_49
            have fw_50 : h_44.2.1 x 9 = w_50 := fw_50
            have bw_50 := hT.gi (gx.S hM) tt_10 (k := 9) rfl
            rw [fw_50] at bw_50
            have bw_50 : -2147483648 ≤ w_50.toInt ∧ w_50.toInt ≤ 2147483647 := bw_50
            have hr_47b := hv_M_b hr_47.1
            refine hb_if_ne (zx := r_45.toInt) (tgt := 227) hx hb rfl dX10_clause_222 ?o62 (fun c_51 => ?_) (fun c_51 => ?_)
            case o62 => decide
            · skip
              obtain ⟨hr_47F, hr_47p, hr_47E⟩ := hv_M_1 hr_47.1 (by omega)
              have hr_47R := hr_47.2.1 ?o63
              case o63 => omega
              refine lv_aload_n hx hb dX10_clause_227 rfl (lv_at hl 3 rfl) ?_
              refine hk_getr hx hb hts hC_10 hown hW (gx.S hM) tt_10 12 ?o64 rfl kw_1155 ⟨rfl, rfl, rfl⟩ ((hM.o gx trivial rfl).2.trans f_x_12) dX10_clause_228 ?_
              case o64 => decide
              refine lv_iload_n hx hb dX10_clause_231 rfl (lv_at hl 0 rfl) ?_
              refine lv_aload_n hx hb dX10_clause_232 rfl (lv_at hl 3 rfl) ?_
              refine hk_geti hx hb hts hC_10 hown hW (gx.S hM) tt_10 10 ?o65 rfl kw_1153 ⟨rfl, rfl, rfl⟩ fw_49 dX10_clause_233 ?_
              case o65 => decide
              have af_qrO := af_qr
              refine hx_iast hx hb hW hT (hx_S.rf (M := [(54, 0)])) (gqr.S hM) tt_54 rfl ⟨?o66, ?o67⟩ rfl ⟨?o68, ?o69⟩ (List.mem_singleton.mpr rfl) dX10_clause_236 (fun H locs h_52 eh_52 hW hT hs => ?_)
              case o66 => omega
              case o67 => omega
              case o68 => omega
              case o69 => omega
              replace f_x_14 := (hs.o (gx.S hM) trivial rfl).1.trans f_x_14
              replace fw_7 := (hs.o (gx.S hM) trivial rfl).1.trans fw_7
              replace fw_25 := (hs.o (gx.S hM) trivial rfl).1.trans fw_25
              replace fw_48 := (hs.o (gx.S hM) trivial rfl).1.trans fw_48
              replace fw_49 := (hs.o (gx.S hM) trivial rfl).1.trans fw_49
              replace fw_50 := (hs.o (gx.S hM) trivial rfl).1.trans fw_50
              replace af_qs : h_52.2.1 qs = sf := (funext fun j => (hs.a (gqs.S hM) rfl j).1).trans af_qs
              replace af_qo : h_52.2.1 qo = of := (funext fun j => (hs.a (gqo.S hM) rfl j).1).trans af_qo
              replace hM := hM.tr (hs.mono ?o70)
              case o70 => decide
              obtain ⟨fa_53, dfa_53⟩ : ∃ g : Nat → Int32, g = hx_up rd x_18.toNatClampNeg w_49 := ⟨_, rfl⟩
              have nfa_53 : h_52.2.1 qr = fa_53 := ?o71
              case o71 =>
                rw [eh_52, dfa_53, ← af_qrO]
                exact hx_pi_fun _ _ _ _
              refine lv_iload_n hx hb dX10_clause_237 rfl (lv_at hl 0 rfl) ?_
              refine lv_iconst (v := 5) hx hb dX10_clause_238 ?o72 ?_
              case o72 => decide
              refine hb_icmp_eq (zx := x_18.toInt) (zy := 5) (tgt := 244) hx hb rfl ?o73 dX10_clause_239 ?o74 (fun c_54 => ?_) (fun c_54 => ?_)
              case o73 => decide
              case o74 => decide
              · skip
                refine lv_aload_n hx hb dX10_clause_244 rfl (lv_at hl 3 rfl) ?_
                refine lv_iconst (v := 1) hx hb dX10_clause_245 ?o75 ?_
                case o75 => decide
                refine lv_bipush (v := 30) hx hb dX10_clause_246 ?o76 ?_
                case o76 => decide
                have zc_30 : (30 : Int32).toInt = 30 := ?o77
                case o77 => decide
                have zc_1 : (1 : Int32).toInt = 1 := ?o78
                case o78 => decide
                refine hx_goi (hx_runV (As := [.int (1 : Int32), .int (30 : Int32)]) (rest := []) ⟨hx, hb, hml, hown, hts⟩ hW (gx.S hM) tt_10 (T := TX10) (N := 98) rfl (t_X10_number_v l dC dI dA L_43 h_52 H.size x (1 : Int32) (30 : Int32) hT (gx.S hM) qt (gqt.S hM) ((hM.o gx trivial rfl).2.trans f_x_6) tf (hx_afS hM gqt rfl af_qt) w_48 fw_48 tp0 ((hM.o gx trivial rfl).1.trans f_x_7) w_50 fw_50 ?o79 ?o80 ?o81) (cwV 2 hts (hx_gV kw_1503 kw_1500 kw_1502 kw_61 kw_103) rfl rfl rfl (by decide +kernel) ⟨Nat.le_of_ble_eq_true rfl, Nat.le_of_ble_eq_true rfl⟩) rfl hl.1 rfl (Nat.le_of_ble_eq_true rfl) dX10_clause_248 ⟨Nat.le_of_ble_eq_true rfl, Nat.le_of_ble_eq_true rfl⟩) hW (fun r_57 L_55 h_56 H locs p_58 hW => ?_)
                case o79 => omega
                case o80 => omega
                case o81 => decide
                obtain ⟨⟨w_60, w_61, w_62, fw_60, fw_61, fw_62, hr_59⟩, hT, hs⟩ := p_58
                replace hT : hx_T T_tb L_55 h_56 := hT
                replace hs : hx_S T_tb [(10, 8), (10, 9), (10, 10)] L_43 h_52 L_55 h_56 := hs
                replace f_x_14 := (hs.o (gx.S hM) trivial rfl).1.trans f_x_14
                replace fw_7 := (hs.o (gx.S hM) trivial rfl).1.trans fw_7
                replace fw_25 := (hs.o (gx.S hM) trivial rfl).1.trans fw_25
                replace af_qs : h_56.2.1 qs = sf := (funext fun j => (hs.a (gqs.S hM) rfl j).1).trans af_qs
                replace af_qo : h_56.2.1 qo = of := (funext fun j => (hs.a (gqo.S hM) rfl j).1).trans af_qo
                replace nfa_53 : h_56.2.1 qr = fa_53 := (funext fun j => (hs.a (gqr.S hM) rfl j).1).trans nfa_53
                replace hM := hM.tr (hs.mono ?o82)
                case o82 => decide
                have fw_60 : h_56.2.1 x 8 = w_60 := fw_60
                have bw_60 := hT.gi (gx.S hM) tt_10 (k := 8) rfl
                rw [fw_60] at bw_60
                have bw_60 : 0 ≤ w_60.toInt ∧ w_60.toInt ≤ 402 := bw_60
                have fw_61 : h_56.2.1 x 10 = w_61 := fw_61
                have bw_61 := hT.gi (gx.S hM) tt_10 (k := 10) rfl
                rw [fw_61] at bw_61
                have bw_61 : 0 ≤ w_61.toInt ∧ w_61.toInt ≤ 9999 := bw_61
                have fw_62 : h_56.2.1 x 9 = w_62 := fw_62
                have bw_62 := hT.gi (gx.S hM) tt_10 (k := 9) rfl
                rw [fw_62] at bw_62
                have bw_62 : -2147483648 ≤ w_62.toInt ∧ w_62.toInt ≤ 2147483647 := bw_62
                have hr_59b := hv_M_b hr_59.1
                refine hb_if_ne (zx := r_57.toInt) (tgt := 256) hx hb rfl dX10_clause_251 ?o83 (fun c_63 => ?_) (fun c_63 => ?_)
                case o83 => decide
                · skip
                  obtain ⟨hr_59F, hr_59p, hr_59E⟩ := hv_M_1 hr_59.1 (by omega)
                  have hr_59R := hr_59.2.1 ?o84
                  case o84 => omega
                  refine lv_aload_n hx hb dX10_clause_256 rfl (lv_at hl 3 rfl) ?_
                  refine hk_getr hx hb hts hC_10 hown hW (gx.S hM) tt_10 12 ?o85 rfl kw_1155 ⟨rfl, rfl, rfl⟩ ((hM.o gx trivial rfl).2.trans f_x_12) dX10_clause_257 ?_
                  case o85 => decide
                  refine lv_bipush (v := 6) hx hb dX10_clause_260 ?o86 ?_
                  case o86 => decide
                  refine lv_aload_n hx hb dX10_clause_262 rfl (lv_at hl 3 rfl) ?_
                  refine hk_geti hx hb hts hC_10 hown hW (gx.S hM) tt_10 10 ?o87 rfl kw_1153 ⟨rfl, rfl, rfl⟩ fw_61 dX10_clause_263 ?_
                  case o87 => decide
                  have nfa_53O := nfa_53
                  refine hx_iast hx hb hW hT (hx_S.rf (M := [(54, 0)])) (gqr.S hM) tt_54 rfl ?o88 rfl ⟨?o89, ?o90⟩ (List.mem_singleton.mpr rfl) dX10_clause_266 (fun H locs h_64 eh_64 hW hT hs => ?_)
                  case o88 => decide
                  case o89 => omega
                  case o90 => omega
                  replace f_x_14 := (hs.o (gx.S hM) trivial rfl).1.trans f_x_14
                  replace fw_7 := (hs.o (gx.S hM) trivial rfl).1.trans fw_7
                  replace fw_25 := (hs.o (gx.S hM) trivial rfl).1.trans fw_25
                  replace fw_60 := (hs.o (gx.S hM) trivial rfl).1.trans fw_60
                  replace fw_61 := (hs.o (gx.S hM) trivial rfl).1.trans fw_61
                  replace fw_62 := (hs.o (gx.S hM) trivial rfl).1.trans fw_62
                  replace af_qs : h_64.2.1 qs = sf := (funext fun j => (hs.a (gqs.S hM) rfl j).1).trans af_qs
                  replace af_qo : h_64.2.1 qo = of := (funext fun j => (hs.a (gqo.S hM) rfl j).1).trans af_qo
                  replace hM := hM.tr (hs.mono ?o91)
                  case o91 => decide
                  obtain ⟨fa_65, dfa_65⟩ : ∃ g : Nat → Int32, g = hx_up fa_53 (6 : Int32).toNatClampNeg w_61 := ⟨_, rfl⟩
                  have nfa_65 : h_64.2.1 qr = fa_65 := ?o92
                  case o92 =>
                    rw [eh_64, dfa_65, ← nfa_53O]
                    exact hx_pi_fun _ _ _ _
                  refine lv_iconst (v := 1) hx hb dX10_clause_267 ?o93 ?_
                  case o93 => decide
                  exact hx_retz hx hb hr rfl hlk hW ⟨⟨w_60, st0, w_62, w_25, sf, fa_65, fw_60, f_x_14, fw_62, fw_25, af_qs, nfa_65, ⟨by decide, by omega, fun _ => ⟨by omega, by omega, hrp, (hx_rd (hx_rd hrd dfa_53 (by omega) (by omega) (by omega)) dfa_65 (by omega) (by omega) (by omega))⟩, hv_CM_t (x := w_60.toInt.toNat) (by decide) (by omega) (by omega) (by rw [hr_24U, show x_18.toInt.toNat = 5 from hv_k5 (by first | with_reducible assumption | omega)]) (by rw [hv_rR_u (i := 6) (by decide) (by decide) dfa_65, hv_rR_u (by omega) (by omega) dfa_53, show x_18.toInt.toNat = 5 from hv_k5 (by first | with_reducible assumption | omega)] <;> rfl) hO ((hv_cl_k (k := x_18.toInt.toNat) (by rw [← ek_8]; exact ⟨by omega, by omega⟩) (by rw [← ek_8, hw1]; exact hkk)).trans (by rw [← ek_8]; exact (by have h5 := hr_24S; rw [show x_18.toInt.toNat = 5 from hv_k5 (by first | with_reducible assumption | omega)] at h5; have h6 := hr_47E; rw [ha1, hr_37.1, hr_42.1] at h6; rw [show x_18.toInt.toNat = 5 from hv_k5 (by first | with_reducible assumption | omega)] at h6; rw [show x_18.toInt.toNat = 5 from hv_k5 (by first | with_reducible assumption | omega)]; exact hv_cj_5 h5 h6 (by have h9 := hr_59E; rw [show (1 : Int32).toInt = 1 from by decide, show (30 : Int32).toInt = 30 from by decide] at h9; exact h9))))⟩⟩, hT, hM⟩ dX10_clause_268
                · skip
                  refine lv_iconst (v := 0) hx hb dX10_clause_254 ?o94 ?_
                  case o94 => decide
                  exact hx_retz hx hb hr rfl hlk hW ⟨⟨w_60, st0, w_62, w_25, sf, fa_53, fw_60, f_x_14, fw_62, fw_25, af_qs, nfa_53, ⟨by decide, by omega, (fun z9 => absurd z9 (by decide)), hv_CM_f (x := w_62.toInt.toNat) (by decide) (by have h8 := (hv_M_0 hr_59.1 (by omega)).1; omega) (by have h8 := (hv_M_0 hr_59.1 (by omega)).1; omega) ((hv_cl_k (k := x_18.toInt.toNat) (by rw [← ek_8]; exact ⟨by omega, by omega⟩) (by rw [← ek_8, hw1]; exact hkk)).trans (by rw [← ek_8]; exact (by have h5 := hr_24S; rw [show x_18.toInt.toNat = 5 from hv_k5 (by first | with_reducible assumption | omega)] at h5; have h6 := hr_47E; rw [ha1, hr_37.1, hr_42.1] at h6; rw [show x_18.toInt.toNat = 5 from hv_k5 (by first | with_reducible assumption | omega)] at h6; rw [show x_18.toInt.toNat = 5 from hv_k5 (by first | with_reducible assumption | omega)]; exact hv_cj_4 h5 h6 (by have h9 := (hv_M_0 hr_59.1 (by omega)).2; rw [show (1 : Int32).toInt = 1 from by decide, show (30 : Int32).toInt = 30 from by decide] at h9; exact h9))))⟩⟩, hT, hM⟩ dX10_clause_255
              · skip
                refine lv_iconst (v := 1) hx hb dX10_clause_242 ?o95 ?_
                case o95 => decide
                refine hx_retz hx hb hr rfl hlk hW ⟨⟨w_48, st0, w_50, w_25, sf, fa_53, fw_48, f_x_14, fw_50, fw_25, af_qs, nfa_53, ⟨?o96, ?o97, fun _ => ⟨?o98, ?o99, hrp, (hx_rd hrd dfa_53 ?o100 ?o101 ?o102)⟩, hv_CM_t (x := w_48.toInt.toNat) ?o103 ?o104 ?o105 hr_24U (hv_rR_u ?o106 ?o107 dfa_53) hO ((hv_cl_k (k := x_18.toInt.toNat) (by rw [← ek_8]; exact ⟨by omega, by omega⟩) (by rw [← ek_8, hw1]; exact hkk)).trans (by rw [← ek_8]; exact (hv_cj_3 hr_24S (by have h8 := hr_47E; rw [ha1, hr_37.1, hr_42.1] at h8; exact h8) (by omega))))⟩⟩, hT, hM⟩ dX10_clause_243
                case o96 => decide
                case o97 => omega
                case o98 => omega
                case o99 => omega
                case o100 => omega
                case o101 => omega
                case o102 => omega
                case o103 => decide
                case o104 => omega
                case o105 => omega
                case o106 => omega
                case o107 => omega
            · skip
              refine lv_iconst (v := 0) hx hb dX10_clause_225 ?o108 ?_
              case o108 => decide
              refine hx_retz hx hb hr rfl hlk hW ⟨⟨w_48, st0, w_50, w_25, sf, rd, fw_48, f_x_14, fw_50, fw_25, af_qs, af_qr, ⟨?o109, ?o110, (fun z9 => absurd z9 ?o111), hv_CM_f (x := w_50.toInt.toNat) ?o112 (by have h8 := (hv_M_0 hr_47.1 (by omega)).1; omega) (by have h8 := (hv_M_0 hr_47.1 (by omega)).1; omega) ((hv_cl_k (k := x_18.toInt.toNat) (by rw [← ek_8]; exact ⟨by omega, by omega⟩) (by rw [← ek_8, hw1]; exact hkk)).trans (by rw [← ek_8]; exact (hv_ck_2 hr_24S (by have h8 := (hv_M_0 hr_47.1 (by omega)).2; rw [ha1, hr_37.1, hr_42.1] at h8; exact h8))))⟩⟩, hT, hM⟩ dX10_clause_226
              case o109 => decide
              case o110 => omega
              case o111 => decide
              case o112 => decide
          · skip
            refine lv_iconst (v := 0) hx hb dX10_clause_195 ?o113 ?_
            case o113 => decide
            refine hx_retz hx hb hr rfl hlk hW ⟨⟨w_6, st0, w_26, w_25, sf, rd, fw_6, f_x_14, fw_26, fw_25, af_qs, af_qr, ⟨?o114, ?o115, (fun z9 => absurd z9 ?o116), hv_CM_f (x := 3 + 8 * w_6.toInt.toNat) ?o117 (by have h8 := (hv_IN_0 hr_24 (by omega)).2; omega) ?o118 ((hv_cl_k (k := x_18.toInt.toNat) (by rw [← ek_8]; exact ⟨by omega, by omega⟩) (by rw [← ek_8, hw1]; exact hkk)).trans (by rw [← ek_8]; exact (hv_ck_1 (hv_IN_0 hr_24 (by omega)).1)))⟩⟩, hT, hM⟩ dX10_clause_196
            case o114 => decide
            case o115 => omega
            case o116 => decide
            case o117 => decide
            case o118 => omega
        · skip
          refine lv_iload_n hx hb dX10_clause_178 rfl (lv_at hl 0 rfl) ?_
          refine lv_iconst (v := 1) hx hb dX10_clause_179 ?o119 ?_
          case o119 => decide
          refine lv_iadd hx hb dX10_clause_180 ?_
          have rg_66 := i32_r x_18
          refine lv_topi (fun x_67 ex_67 => ?_)
          have zx_67 : x_67.toInt = x_18.toInt + 1 := ?o120
          case o120 =>
            rw [ex_67]
            refine i32_add rfl ?o121 ?o122 ?o123
            case o121 => decide
            case o122 => omega
            case o123 => omega
          refine lv_goto (tgt := 185) hx hb dX10_clause_181 ?o124 ?_
          case o124 => decide
          refine lv_istore_n (lv' := [(3, .int x_67), (2, .int w_6), (1, .int r_3), (0, .ref x)]) hx hb dX10_clause_185 rfl hl ?o125 rfl (fun ls hl => ?_)
          case o125 => decide
          have hkk : x_67.toInt.toNat = hv_kk r_3.toInt := by unfold hv_kk; split <;> omega
          have hkb : 0 ≤ x_67.toInt ∧ x_67.toInt ≤ 8 := ?o126
          case o126 => omega
          have hlo2 : x_67.toInt = 2 → hv_lo x_67.toInt.toNat = 1 := fun z => by rw [z]; decide
          have zc6 : (6 : Int32).toInt = 6 := ?o127
          case o127 => decide
          refine lv_aload_n hx hb dX10_clause_186 rfl (lv_at hl 3 rfl) ?_
          refine lv_iload_n hx hb dX10_clause_187 rfl (lv_at hl 0 rfl) ?_
          refine lv_iload_n hx hb dX10_clause_188 rfl (lv_at hl 1 rfl) ?_
          refine hx_goi (hx_runV (As := [.int x_67, .int w_6]) (rest := []) ⟨hx, hb, hml, hown, hts⟩ hW (gx.S hM) tt_10 (T := TX10) (N := 98) rfl (t_X10_isNew_v l dC dI dA L_9 h_10 H.size x x_67 w_6 hT (gx.S hM) sn0 f_x_13 ft0 f_x_9 x_67.toInt.toNat ?o128 (hv_rx_i ?o129 ?o130) ⟨?o131, ?o132⟩ ?o133) (cwV 2 hts (hx_gV kw_1484 kw_1481 kw_1483 kw_57 kw_103) rfl rfl rfl (by decide +kernel) ⟨Nat.le_of_ble_eq_true rfl, Nat.le_of_ble_eq_true rfl⟩) rfl hl.1 rfl (Nat.le_of_ble_eq_true rfl) dX10_clause_189 ⟨Nat.le_of_ble_eq_true rfl, Nat.le_of_ble_eq_true rfl⟩) hW (fun r_70 L_68 h_69 H locs p_71 hW => ?_)
          case o128 => omega
          case o129 => omega
          case o130 => omega
          case o131 => omega
          case o132 => omega
          case o133 => omega
          obtain ⟨⟨w_73, w_74, fw_73, fw_74, hr_72⟩, hT, hs⟩ := p_71
          replace hT : hx_T T_tb L_68 h_69 := hT
          replace hs : hx_S T_tb [(10, 9), (10, 13)] L_9 h_10 L_68 h_69 := hs
          replace f_x_14 := (hs.o (gx.S hM) trivial rfl).1.trans f_x_14
          replace fw_6 := (hs.o (gx.S hM) trivial rfl).1.trans fw_6
          replace fw_7 := (hs.o (gx.S hM) trivial rfl).1.trans fw_7
          replace af_qs : h_69.2.1 qs = sf := (funext fun j => (hs.a (gqs.S hM) rfl j).1).trans af_qs
          replace af_qo : h_69.2.1 qo = of := (funext fun j => (hs.a (gqo.S hM) rfl j).1).trans af_qo
          replace af_qr : h_69.2.1 qr = rd := (funext fun j => (hs.a (gqr.S hM) rfl j).1).trans af_qr
          replace hM := hM.tr (hs.mono ?o134)
          case o134 => decide
          have fw_73 : h_69.2.1 x 13 = w_73 := fw_73
          have bw_73 := hT.gi (gx.S hM) tt_10 (k := 13) rfl
          rw [fw_73] at bw_73
          have bw_73 : -2147483648 ≤ w_73.toInt ∧ w_73.toInt ≤ 2147483647 := bw_73
          have fw_74 : h_69.2.1 x 9 = w_74 := fw_74
          have bw_74 := hT.gi (gx.S hM) tt_10 (k := 9) rfl
          rw [fw_74] at bw_74
          have bw_74 : -2147483648 ≤ w_74.toInt ∧ w_74.toInt ≤ 2147483647 := bw_74
          have hr_72b := hv_IN_b hr_72
          refine hb_if_ne (zx := r_70.toInt) (tgt := 197) hx hb rfl dX10_clause_192 ?o135 (fun c_75 => ?_) (fun c_75 => ?_)
          case o135 => decide
          · skip
            obtain ⟨hr_72F, hr_72S, hr_72U⟩ := hv_IN_1 hr_72 (by omega)
            refine lv_aload_n hx hb dX10_clause_197 rfl (lv_at hl 3 rfl) ?_
            refine lv_dup hx hb dX10_clause_198 rfl ?_
            refine hk_geti hx hb hts hC_10 hown hW (gx.S hM) tt_10 8 ?o136 rfl kw_1151 ⟨rfl, rfl, rfl⟩ fw_6 dX10_clause_199 ?_
            case o136 => decide
            refine lv_aload_n hx hb dX10_clause_202 rfl (lv_at hl 3 rfl) ?_
            refine hk_geti hx hb hts hC_10 hown hW (gx.S hM) tt_10 11 ?o137 rfl kw_1154 ⟨rfl, rfl, rfl⟩ fw_7 dX10_clause_203 ?_
            case o137 => decide
            refine lv_iadd hx hb dX10_clause_206 ?_
            have rg_76 := i32_r w_6
            have rg_77 := i32_r w_7
            refine lv_topi (fun x_78 ex_78 => ?_)
            have zx_78 : x_78.toInt = w_6.toInt + w_7.toInt := ?o138
            case o138 =>
              rw [ex_78]
              refine i32_add rfl rfl ?o139 ?o140
              case o139 => omega
              case o140 => omega
            refine hx_puti hx hb hts hC_10 hown hW hT (hx_S.rf (M := [(10, 8)])) (gx.S hM) tt_10 8 ?o141 rfl kw_1151 ⟨rfl, rfl, rfl⟩ rfl (x := x_78) ⟨?o142, ?o143⟩ rfl rfl rfl (List.mem_singleton.mpr rfl) dX10_clause_207 (fun H locs h_79 eh_79 hW hT hs => ?_)
            case o141 => decide
            case o142 => omega
            case o143 => omega
            replace f_x_14 := (hs.o (gx.S hM) trivial rfl).1.trans f_x_14
            replace fw_7 := (hs.o (gx.S hM) trivial rfl).1.trans fw_7
            replace fw_73 := (hs.o (gx.S hM) trivial rfl).1.trans fw_73
            replace fw_74 := (hs.o (gx.S hM) trivial rfl).1.trans fw_74
            replace af_qs : h_79.2.1 qs = sf := (funext fun j => (hs.a (gqs.S hM) rfl j).1).trans af_qs
            replace af_qo : h_79.2.1 qo = of := (funext fun j => (hs.a (gqo.S hM) rfl j).1).trans af_qo
            replace af_qr : h_79.2.1 qr = rd := (funext fun j => (hs.a (gqr.S hM) rfl j).1).trans af_qr
            replace hM := hM.tr (hs.mono ?o144)
            case o144 => decide
            have f_80 : h_79.2.1 x 8 = x_78 := ?o145
            case o145 =>
              rw [eh_79]
              exact hx_pi_at _ _ _ _
            have ha1 : x_78.toInt.toNat = hv_we tf tp0.toInt.toNat w_6.toInt.toNat := ?o146
            case o146 =>
              have h9 := hr_5E
              omega
            have hw3 := hv_wd_3 (T := tf) (n := tp0.toInt.toNat) (p := w_6.toInt.toNat) ?o147
            case o147 => omega
            refine lv_aload_n hx hb dX10_clause_210 rfl (lv_at hl 3 rfl) ?_
            refine lv_iload_n hx hb dX10_clause_211 rfl (lv_at hl 0 rfl) ?_
            refine hx_goi (hx_runS (As := [.int x_67]) (rest := [.ref x]) ⟨hx, hb, hml, hown, hts⟩ hW (t_X10_leastOf_v l dC dI dA L_68 h_79 H.size x_67 hT ⟨?o148, ?o149⟩) (va_cwS 1 hts (hx_gS kw_1518 kw_1516 kw_1517 kw_103) rfl rfl rfl (by decide +kernel) ⟨Nat.le_of_ble_eq_true rfl, Nat.le_of_ble_eq_true rfl⟩) rfl hl.1 rfl (Nat.le_of_ble_eq_true rfl) dX10_clause_212 ⟨Nat.le_of_ble_eq_true rfl, Nat.le_of_ble_eq_true rfl⟩) hW (fun r_83 L_81 h_82 H locs p_84 hW => ?_)
            case o148 => omega
            case o149 => omega
            obtain ⟨hr_85, hT, hs⟩ := p_84
            replace hT : hx_T T_tb L_81 h_82 := hT
            replace hs : hx_S T_tb [] L_68 h_79 L_81 h_82 := hs
            replace f_x_14 := (hs.o (gx.S hM) trivial rfl).1.trans f_x_14
            replace fw_7 := (hs.o (gx.S hM) trivial rfl).1.trans fw_7
            replace fw_73 := (hs.o (gx.S hM) trivial rfl).1.trans fw_73
            replace fw_74 := (hs.o (gx.S hM) trivial rfl).1.trans fw_74
            replace f_80 := (hs.o (gx.S hM) trivial rfl).1.trans f_80
            replace af_qs : h_82.2.1 qs = sf := (funext fun j => (hs.a (gqs.S hM) rfl j).1).trans af_qs
            replace af_qo : h_82.2.1 qo = of := (funext fun j => (hs.a (gqo.S hM) rfl j).1).trans af_qo
            replace af_qr : h_82.2.1 qr = rd := (funext fun j => (hs.a (gqr.S hM) rfl j).1).trans af_qr
            replace hM := hM.tr (hs.mono ?o150)
            case o150 => decide
            refine lv_iload_n hx hb dX10_clause_215 rfl (lv_at hl 0 rfl) ?_
            refine hx_goi (hx_runS (As := [.int x_67]) (rest := [.int r_83, .ref x]) ⟨hx, hb, hml, hown, hts⟩ hW (t_X10_mostOf_v l dC dI dA L_81 h_82 H.size x_67 hT ⟨?o151, ?o152⟩) (va_cwS 1 hts (hx_gS kw_1521 kw_1519 kw_1520 kw_103) rfl rfl rfl (by decide +kernel) ⟨Nat.le_of_ble_eq_true rfl, Nat.le_of_ble_eq_true rfl⟩) rfl hl.1 rfl (Nat.le_of_ble_eq_true rfl) dX10_clause_216 ⟨Nat.le_of_ble_eq_true rfl, Nat.le_of_ble_eq_true rfl⟩) hW (fun r_88 L_86 h_87 H locs p_89 hW => ?_)
            case o151 => omega
            case o152 => omega
            obtain ⟨hr_90, hT, hs⟩ := p_89
            replace hT : hx_T T_tb L_86 h_87 := hT
            replace hs : hx_S T_tb [] L_81 h_82 L_86 h_87 := hs
            replace f_x_14 := (hs.o (gx.S hM) trivial rfl).1.trans f_x_14
            replace fw_7 := (hs.o (gx.S hM) trivial rfl).1.trans fw_7
            replace fw_73 := (hs.o (gx.S hM) trivial rfl).1.trans fw_73
            replace fw_74 := (hs.o (gx.S hM) trivial rfl).1.trans fw_74
            replace f_80 := (hs.o (gx.S hM) trivial rfl).1.trans f_80
            replace af_qs : h_87.2.1 qs = sf := (funext fun j => (hs.a (gqs.S hM) rfl j).1).trans af_qs
            replace af_qo : h_87.2.1 qo = of := (funext fun j => (hs.a (gqo.S hM) rfl j).1).trans af_qo
            replace af_qr : h_87.2.1 qr = rd := (funext fun j => (hs.a (gqr.S hM) rfl j).1).trans af_qr
            replace hM := hM.tr (hs.mono ?o153)
            case o153 => decide
            refine hx_goi (hx_runV (As := [.int r_83, .int r_88]) (rest := []) ⟨hx, hb, hml, hown, hts⟩ hW (gx.S hM) tt_10 (T := TX10) (N := 98) rfl (t_X10_number_v l dC dI dA L_86 h_87 H.size x r_83 r_88 hT (gx.S hM) qt (gqt.S hM) ((hM.o gx trivial rfl).2.trans f_x_6) tf (hx_afS hM gqt rfl af_qt) x_78 f_80 tp0 ((hM.o gx trivial rfl).1.trans f_x_7) w_74 fw_74 ?o154 ?o155 ?o156) (cwV 2 hts (hx_gV kw_1503 kw_1500 kw_1502 kw_61 kw_103) rfl rfl rfl (by decide +kernel) ⟨Nat.le_of_ble_eq_true rfl, Nat.le_of_ble_eq_true rfl⟩) rfl hl.1 rfl (Nat.le_of_ble_eq_true rfl) dX10_clause_219 ⟨Nat.le_of_ble_eq_true rfl, Nat.le_of_ble_eq_true rfl⟩) hW (fun r_93 L_91 h_92 H locs p_94 hW => ?_)
            case o154 => omega
            case o155 => omega
            case o156 => omega
            obtain ⟨⟨w_96, w_97, w_98, fw_96, fw_97, fw_98, hr_95⟩, hT, hs⟩ := p_94
            replace hT : hx_T T_tb L_91 h_92 := hT
            replace hs : hx_S T_tb [(10, 8), (10, 9), (10, 10)] L_86 h_87 L_91 h_92 := hs
            replace f_x_14 := (hs.o (gx.S hM) trivial rfl).1.trans f_x_14
            replace fw_7 := (hs.o (gx.S hM) trivial rfl).1.trans fw_7
            replace fw_73 := (hs.o (gx.S hM) trivial rfl).1.trans fw_73
            replace af_qs : h_92.2.1 qs = sf := (funext fun j => (hs.a (gqs.S hM) rfl j).1).trans af_qs
            replace af_qo : h_92.2.1 qo = of := (funext fun j => (hs.a (gqo.S hM) rfl j).1).trans af_qo
            replace af_qr : h_92.2.1 qr = rd := (funext fun j => (hs.a (gqr.S hM) rfl j).1).trans af_qr
            replace hM := hM.tr (hs.mono ?o157)
            case o157 => decide
            have fw_96 : h_92.2.1 x 8 = w_96 := fw_96
            have bw_96 := hT.gi (gx.S hM) tt_10 (k := 8) rfl
            rw [fw_96] at bw_96
            have bw_96 : 0 ≤ w_96.toInt ∧ w_96.toInt ≤ 402 := bw_96
            have fw_97 : h_92.2.1 x 10 = w_97 := fw_97
            have bw_97 := hT.gi (gx.S hM) tt_10 (k := 10) rfl
            rw [fw_97] at bw_97
            have bw_97 : 0 ≤ w_97.toInt ∧ w_97.toInt ≤ 9999 := bw_97
            have fw_98 : h_92.2.1 x 9 = w_98 := fw_98
            have bw_98 := hT.gi (gx.S hM) tt_10 (k := 9) rfl
            rw [fw_98] at bw_98
            have bw_98 : -2147483648 ≤ w_98.toInt ∧ w_98.toInt ≤ 2147483647 := bw_98
            have hr_95b := hv_M_b hr_95.1
            refine hb_if_ne (zx := r_93.toInt) (tgt := 227) hx hb rfl dX10_clause_222 ?o158 (fun c_99 => ?_) (fun c_99 => ?_)
            case o158 => decide
            · skip
              obtain ⟨hr_95F, hr_95p, hr_95E⟩ := hv_M_1 hr_95.1 (by omega)
              have hr_95R := hr_95.2.1 ?o159
              case o159 => omega
              refine lv_aload_n hx hb dX10_clause_227 rfl (lv_at hl 3 rfl) ?_
              refine hk_getr hx hb hts hC_10 hown hW (gx.S hM) tt_10 12 ?o160 rfl kw_1155 ⟨rfl, rfl, rfl⟩ ((hM.o gx trivial rfl).2.trans f_x_12) dX10_clause_228 ?_
              case o160 => decide
              refine lv_iload_n hx hb dX10_clause_231 rfl (lv_at hl 0 rfl) ?_
              refine lv_aload_n hx hb dX10_clause_232 rfl (lv_at hl 3 rfl) ?_
              refine hk_geti hx hb hts hC_10 hown hW (gx.S hM) tt_10 10 ?o161 rfl kw_1153 ⟨rfl, rfl, rfl⟩ fw_97 dX10_clause_233 ?_
              case o161 => decide
              have af_qrO := af_qr
              refine hx_iast hx hb hW hT (hx_S.rf (M := [(54, 0)])) (gqr.S hM) tt_54 rfl ⟨?o162, ?o163⟩ rfl ⟨?o164, ?o165⟩ (List.mem_singleton.mpr rfl) dX10_clause_236 (fun H locs h_100 eh_100 hW hT hs => ?_)
              case o162 => omega
              case o163 => omega
              case o164 => omega
              case o165 => omega
              replace f_x_14 := (hs.o (gx.S hM) trivial rfl).1.trans f_x_14
              replace fw_7 := (hs.o (gx.S hM) trivial rfl).1.trans fw_7
              replace fw_73 := (hs.o (gx.S hM) trivial rfl).1.trans fw_73
              replace fw_96 := (hs.o (gx.S hM) trivial rfl).1.trans fw_96
              replace fw_97 := (hs.o (gx.S hM) trivial rfl).1.trans fw_97
              replace fw_98 := (hs.o (gx.S hM) trivial rfl).1.trans fw_98
              replace af_qs : h_100.2.1 qs = sf := (funext fun j => (hs.a (gqs.S hM) rfl j).1).trans af_qs
              replace af_qo : h_100.2.1 qo = of := (funext fun j => (hs.a (gqo.S hM) rfl j).1).trans af_qo
              replace hM := hM.tr (hs.mono ?o166)
              case o166 => decide
              obtain ⟨fa_101, dfa_101⟩ : ∃ g : Nat → Int32, g = hx_up rd x_67.toNatClampNeg w_97 := ⟨_, rfl⟩
              have nfa_101 : h_100.2.1 qr = fa_101 := ?o167
              case o167 =>
                rw [eh_100, dfa_101, ← af_qrO]
                exact hx_pi_fun _ _ _ _
              refine lv_iload_n hx hb dX10_clause_237 rfl (lv_at hl 0 rfl) ?_
              refine lv_iconst (v := 5) hx hb dX10_clause_238 ?o168 ?_
              case o168 => decide
              refine hb_icmp_eq (zx := x_67.toInt) (zy := 5) (tgt := 244) hx hb rfl ?o169 dX10_clause_239 ?o170 (fun c_102 => ?o171) (fun c_102 => ?_)
              case o169 => decide
              case o170 => decide
              case o171 =>
                exfalso
                omega
              refine lv_iconst (v := 1) hx hb dX10_clause_242 ?o172 ?_
              case o172 => decide
              refine hx_retz hx hb hr rfl hlk hW ⟨⟨w_96, st0, w_98, w_73, sf, fa_101, fw_96, f_x_14, fw_98, fw_73, af_qs, nfa_101, ⟨?o173, ?o174, fun _ => ⟨?o175, ?o176, hrp, (hx_rd hrd dfa_101 ?o177 ?o178 ?o179)⟩, hv_CM_t (x := w_96.toInt.toNat) ?o180 ?o181 ?o182 hr_72U (hv_rR_u ?o183 ?o184 dfa_101) hO ((hv_cl_k (k := x_67.toInt.toNat) (by rw [← ek_8]; exact ⟨by omega, by omega⟩) (by rw [← ek_8, hw1]; exact hkk)).trans (by rw [← ek_8]; exact (hv_cj_3 hr_72S (by have h8 := hr_95E; rw [ha1, hr_85.1, hr_90.1] at h8; exact h8) (by omega))))⟩⟩, hT, hM⟩ dX10_clause_243
              case o173 => decide
              case o174 => omega
              case o175 => omega
              case o176 => omega
              case o177 => omega
              case o178 => omega
              case o179 => omega
              case o180 => decide
              case o181 => omega
              case o182 => omega
              case o183 => omega
              case o184 => omega
            · skip
              refine lv_iconst (v := 0) hx hb dX10_clause_225 ?o185 ?_
              case o185 => decide
              refine hx_retz hx hb hr rfl hlk hW ⟨⟨w_96, st0, w_98, w_73, sf, rd, fw_96, f_x_14, fw_98, fw_73, af_qs, af_qr, ⟨?o186, ?o187, (fun z9 => absurd z9 ?o188), hv_CM_f (x := w_98.toInt.toNat) ?o189 (by have h8 := (hv_M_0 hr_95.1 (by omega)).1; omega) (by have h8 := (hv_M_0 hr_95.1 (by omega)).1; omega) ((hv_cl_k (k := x_67.toInt.toNat) (by rw [← ek_8]; exact ⟨by omega, by omega⟩) (by rw [← ek_8, hw1]; exact hkk)).trans (by rw [← ek_8]; exact (hv_ck_2 hr_72S (by have h8 := (hv_M_0 hr_95.1 (by omega)).2; rw [ha1, hr_85.1, hr_90.1] at h8; exact h8))))⟩⟩, hT, hM⟩ dX10_clause_226
              case o186 => decide
              case o187 => omega
              case o188 => decide
              case o189 => decide
          · skip
            refine lv_iconst (v := 0) hx hb dX10_clause_195 ?o190 ?_
            case o190 => decide
            refine hx_retz hx hb hr rfl hlk hW ⟨⟨w_6, st0, w_74, w_73, sf, rd, fw_6, f_x_14, fw_74, fw_73, af_qs, af_qr, ⟨?o191, ?o192, (fun z9 => absurd z9 ?o193), hv_CM_f (x := 3 + 8 * w_6.toInt.toNat) ?o194 (by have h8 := (hv_IN_0 hr_72 (by omega)).2; omega) ?o195 ((hv_cl_k (k := x_67.toInt.toNat) (by rw [← ek_8]; exact ⟨by omega, by omega⟩) (by rw [← ek_8, hw1]; exact hkk)).trans (by rw [← ek_8]; exact (hv_ck_1 (hv_IN_0 hr_72 (by omega)).1)))⟩⟩, hT, hM⟩ dX10_clause_196
            case o191 => decide
            case o192 => omega
            case o193 => decide
            case o194 => decide
            case o195 => omega
      · skip
        refine lv_aload_n hx hb dX10_clause_70 rfl (lv_at hl 2 rfl) ?_
        refine lv_dup hx hb dX10_clause_71 rfl ?_
        refine hk_geti hx hb hts hC_10 hown hW (gx.S hM) tt_10 8 ?o196 rfl kw_1151 ⟨rfl, rfl, rfl⟩ fw_6 dX10_clause_72 ?_
        case o196 => decide
        refine lv_aload_n hx hb dX10_clause_75 rfl (lv_at hl 2 rfl) ?_
        refine hk_geti hx hb hts hC_10 hown hW (gx.S hM) tt_10 11 ?o197 rfl kw_1154 ⟨rfl, rfl, rfl⟩ fw_7 dX10_clause_76 ?_
        case o197 => decide
        refine lv_iadd hx hb dX10_clause_79 ?_
        have rg_103 := i32_r w_6
        have rg_104 := i32_r w_7
        refine lv_topi (fun x_105 ex_105 => ?_)
        have zx_105 : x_105.toInt = w_6.toInt + w_7.toInt := ?o198
        case o198 =>
          rw [ex_105]
          refine i32_add rfl rfl ?o199 ?o200
          case o199 => omega
          case o200 => omega
        refine hx_puti hx hb hts hC_10 hown hW hT (hx_S.rf (M := [(10, 8)])) (gx.S hM) tt_10 8 ?o201 rfl kw_1151 ⟨rfl, rfl, rfl⟩ rfl (x := x_105) ⟨?o202, ?o203⟩ rfl rfl rfl (List.mem_singleton.mpr rfl) dX10_clause_80 (fun H locs h_106 eh_106 hW hT hs => ?_)
        case o201 => decide
        case o202 => omega
        case o203 => omega
        replace f_x_14 := (hs.o (gx.S hM) trivial rfl).1.trans f_x_14
        replace f_x_9 := (hs.o (gx.S hM) trivial rfl).1.trans f_x_9
        replace f_x_13 := (hs.o (gx.S hM) trivial rfl).1.trans f_x_13
        replace fw_7 := (hs.o (gx.S hM) trivial rfl).1.trans fw_7
        replace af_qs : h_106.2.1 qs = sf := (funext fun j => (hs.a (gqs.S hM) rfl j).1).trans af_qs
        replace af_qo : h_106.2.1 qo = of := (funext fun j => (hs.a (gqo.S hM) rfl j).1).trans af_qo
        replace af_qr : h_106.2.1 qr = rd := (funext fun j => (hs.a (gqr.S hM) rfl j).1).trans af_qr
        replace hM := hM.tr (hs.mono ?o204)
        case o204 => decide
        have f_107 : h_106.2.1 x 8 = x_105 := ?o205
        case o205 =>
          rw [eh_106]
          exact hx_pi_at _ _ _ _
        have ha1 : x_105.toInt.toNat = hv_we tf tp0.toInt.toNat w_6.toInt.toNat := ?o206
        case o206 =>
          have h9 := hr_5E
          omega
        have hw3 := hv_wd_3 (T := tf) (n := tp0.toInt.toNat) (p := w_6.toInt.toNat) ?o207
        case o207 => omega
        refine lv_aload_n hx hb dX10_clause_83 rfl (lv_at hl 2 rfl) ?_
        refine hx_goi (hx_runV (As := []) (rest := []) ⟨hx, hb, hml, hown, hts⟩ hW (gx.S hM) tt_10 (T := TX10) (N := 98) rfl (t_X10_wordHere_v l dC dI dA L_9 h_106 H.size x hT (gx.S hM) qt (gqt.S hM) ((hM.o gx trivial rfl).2.trans f_x_6) qw (gqw.S hM) ((hM.o gx trivial rfl).2.trans f_x_19) tf (hx_afS hM gqt rfl af_qt) wf (hx_afS hM gqw rfl af_qw) x_105 f_107 tp0 ((hM.o gx trivial rfl).1.trans f_x_7) hwd ?o208) (cwV 0 hts (hx_gV kw_1476 kw_1473 kw_1475 kw_55 kw_103) rfl rfl rfl (by decide +kernel) ⟨Nat.le_of_ble_eq_true rfl, Nat.le_of_ble_eq_true rfl⟩) rfl hl.1 rfl (Nat.le_of_ble_eq_true rfl) dX10_clause_84 ⟨Nat.le_of_ble_eq_true rfl, Nat.le_of_ble_eq_true rfl⟩) hW (fun r_110 L_108 h_109 H locs p_111 hW => ?_)
        case o208 => omega
        obtain ⟨⟨w_113, w_114, fw_113, fw_114, hr_112⟩, hT, hs⟩ := p_111
        replace hT : hx_T T_tb L_108 h_109 := hT
        replace hs : hx_S T_tb [(10, 8), (10, 11)] L_9 h_106 L_108 h_109 := hs
        replace f_x_14 := (hs.o (gx.S hM) trivial rfl).1.trans f_x_14
        replace f_x_9 := (hs.o (gx.S hM) trivial rfl).1.trans f_x_9
        replace f_x_13 := (hs.o (gx.S hM) trivial rfl).1.trans f_x_13
        replace af_qs : h_109.2.1 qs = sf := (funext fun j => (hs.a (gqs.S hM) rfl j).1).trans af_qs
        replace af_qo : h_109.2.1 qo = of := (funext fun j => (hs.a (gqo.S hM) rfl j).1).trans af_qo
        replace af_qr : h_109.2.1 qr = rd := (funext fun j => (hs.a (gqr.S hM) rfl j).1).trans af_qr
        replace hM := hM.tr (hs.mono ?o209)
        case o209 => decide
        have fw_113 : h_109.2.1 x 8 = w_113 := fw_113
        have bw_113 := hT.gi (gx.S hM) tt_10 (k := 8) rfl
        rw [fw_113] at bw_113
        have bw_113 : 0 ≤ w_113.toInt ∧ w_113.toInt ≤ 402 := bw_113
        have fw_114 : h_109.2.1 x 11 = w_114 := fw_114
        have bw_114 := hT.gi (gx.S hM) tt_10 (k := 11) rfl
        rw [fw_114] at bw_114
        have bw_114 : 0 ≤ w_114.toInt ∧ w_114.toInt ≤ 400 := bw_114
        have ek_115 : w_113.toInt.toNat = hv_sk tf tp0.toInt.toNat x_105.toInt.toNat := ?o210
        case o210 => omega
        have hr_112W : r_110.toInt = hv_wd tf tp0.toInt.toNat w_113.toInt.toNat := ?o211
        case o211 =>
          rw [ek_115]
          exact hr_112.2.2.2.2.1
        have hr_112E : ((hv_we tf tp0.toInt.toNat w_113.toInt.toNat : Nat) : Int) = w_113.toInt + w_114.toInt := ?o212
        case o212 =>
          rw [ek_115]
          exact hr_112.2.2.2.1.symm
        refine lv_bipush (v := 21) hx hb dX10_clause_87 ?o213 ?_
        case o213 => decide
        refine lv_isub hx hb dX10_clause_89 ?_
        have rg_116 := i32_r r_110
        refine lv_topi (fun x_117 ex_117 => ?_)
        have zx_117 : x_117.toInt = r_110.toInt - 21 := ?o214
        case o214 =>
          rw [ex_117]
          refine i32_sub rfl ?o215 ?o216 ?o217
          case o215 => decide
          case o216 => omega
          case o217 => omega
        refine lv_istore_n (lv' := [(3, .int x_117), (2, .int w_6), (1, .int r_3), (0, .ref x)]) hx hb dX10_clause_90 rfl hl ?o218 rfl (fun ls hl => ?_)
        case o218 => decide
        have hw2 : hv_wd tf tp0.toInt.toNat w_113.toInt.toNat = r_110.toInt := hr_112W.symm
        refine lv_iload_n hx hb dX10_clause_91 rfl (lv_at hl 0 rfl) ?_
        refine lv_iconst (v := 0) hx hb dX10_clause_92 ?o219 ?_
        case o219 => decide
        refine lv_iconst (v := 3) hx hb dX10_clause_93 ?o220 ?_
        case o220 => decide
        have zc_3 : (3 : Int32).toInt = 3 := ?o221
        case o221 => decide
        have zc_0 : (0 : Int32).toInt = 0 := ?o222
        case o222 => decide
        refine hx_goi (hx_runS (As := [.int x_117, .int (0 : Int32), .int (3 : Int32)]) (rest := []) ⟨hx, hb, hml, hown, hts⟩ hW (t_X10_in l dC dI dA L_108 h_109 H.size x_117 (0 : Int32) (3 : Int32) hT) (va_cwS 3 hts (hx_gS kw_1445 kw_1443 kw_1444 kw_103) rfl rfl rfl (by decide +kernel) ⟨Nat.le_of_ble_eq_true rfl, Nat.le_of_ble_eq_true rfl⟩) rfl hl.1 rfl (Nat.le_of_ble_eq_true rfl) dX10_clause_94 ⟨Nat.le_of_ble_eq_true rfl, Nat.le_of_ble_eq_true rfl⟩) hW (fun r_120 L_118 h_119 H locs p_121 hW => ?_)
        obtain ⟨hr_122, hT, hs⟩ := p_121
        replace hT : hx_T T_tb L_118 h_119 := hT
        replace hs : hx_S T_tb [] L_108 h_109 L_118 h_119 := hs
        replace f_x_14 := (hs.o (gx.S hM) trivial rfl).1.trans f_x_14
        replace f_x_9 := (hs.o (gx.S hM) trivial rfl).1.trans f_x_9
        replace f_x_13 := (hs.o (gx.S hM) trivial rfl).1.trans f_x_13
        replace fw_113 := (hs.o (gx.S hM) trivial rfl).1.trans fw_113
        replace fw_114 := (hs.o (gx.S hM) trivial rfl).1.trans fw_114
        replace af_qs : h_119.2.1 qs = sf := (funext fun j => (hs.a (gqs.S hM) rfl j).1).trans af_qs
        replace af_qo : h_119.2.1 qo = of := (funext fun j => (hs.a (gqo.S hM) rfl j).1).trans af_qo
        replace af_qr : h_119.2.1 qr = rd := (funext fun j => (hs.a (gqr.S hM) rfl j).1).trans af_qr
        replace hM := hM.tr (hs.mono ?o223)
        case o223 => decide
        refine hb_if_ne (zx := r_120.toInt) (tgt := 110) hx hb rfl dX10_clause_97 ?o224 (fun c_123 => ?_) (fun c_123 => ?_)
        case o224 => decide
        · skip
          replace hr_122 := hr_122.resolve_left (fun z9 => c_123 z9.1)
          replace c_123 := hr_122.1
          replace hr_122 := hr_122.2
          refine lv_aload_n hx hb dX10_clause_110 rfl (lv_at hl 3 rfl) ?_
          refine lv_bipush (v := 9) hx hb dX10_clause_111 ?o225 ?_
          case o225 => decide
          refine lv_iload_n hx hb dX10_clause_113 rfl (lv_at hl 0 rfl) ?_
          refine lv_iadd hx hb dX10_clause_114 ?_
          have rg_124 := i32_r x_117
          refine lv_topi (fun x_125 ex_125 => ?_)
          have zx_125 : x_125.toInt = 9 + x_117.toInt := ?o226
          case o226 =>
            rw [ex_125]
            refine i32_add ?o227 rfl ?o228 ?o229
            case o227 => decide
            case o228 => omega
            case o229 => omega
          refine lv_aload_n hx hb dX10_clause_115 rfl (lv_at hl 3 rfl) ?_
          refine hk_geti hx hb hts hC_10 hown hW (gx.S hM) tt_10 8 ?o230 rfl kw_1151 ⟨rfl, rfl, rfl⟩ fw_113 dX10_clause_116 ?_
          case o230 => decide
          refine hx_goi (hx_runV (As := [.int x_125, .int w_113]) (rest := []) ⟨hx, hb, hml, hown, hts⟩ hW (gx.S hM) tt_10 (T := TX10) (N := 98) rfl (t_X10_isNew_v l dC dI dA L_118 h_119 H.size x x_125 w_113 hT (gx.S hM) sn0 f_x_13 ft0 f_x_9 x_125.toInt.toNat ?o231 (hv_rx_i ?o232 ?o233) ⟨?o234, ?o235⟩ ?o236) (cwV 2 hts (hx_gV kw_1484 kw_1481 kw_1483 kw_57 kw_103) rfl rfl rfl (by decide +kernel) ⟨Nat.le_of_ble_eq_true rfl, Nat.le_of_ble_eq_true rfl⟩) rfl hl.1 rfl (Nat.le_of_ble_eq_true rfl) dX10_clause_119 ⟨Nat.le_of_ble_eq_true rfl, Nat.le_of_ble_eq_true rfl⟩) hW (fun r_128 L_126 h_127 H locs p_129 hW => ?_)
          case o231 => omega
          case o232 => omega
          case o233 => omega
          case o234 => omega
          case o235 => omega
          case o236 => omega
          obtain ⟨⟨w_131, w_132, fw_131, fw_132, hr_130⟩, hT, hs⟩ := p_129
          replace hT : hx_T T_tb L_126 h_127 := hT
          replace hs : hx_S T_tb [(10, 9), (10, 13)] L_118 h_119 L_126 h_127 := hs
          replace f_x_14 := (hs.o (gx.S hM) trivial rfl).1.trans f_x_14
          replace fw_113 := (hs.o (gx.S hM) trivial rfl).1.trans fw_113
          replace fw_114 := (hs.o (gx.S hM) trivial rfl).1.trans fw_114
          replace af_qs : h_127.2.1 qs = sf := (funext fun j => (hs.a (gqs.S hM) rfl j).1).trans af_qs
          replace af_qo : h_127.2.1 qo = of := (funext fun j => (hs.a (gqo.S hM) rfl j).1).trans af_qo
          replace af_qr : h_127.2.1 qr = rd := (funext fun j => (hs.a (gqr.S hM) rfl j).1).trans af_qr
          replace hM := hM.tr (hs.mono ?o237)
          case o237 => decide
          have fw_131 : h_127.2.1 x 13 = w_131 := fw_131
          have bw_131 := hT.gi (gx.S hM) tt_10 (k := 13) rfl
          rw [fw_131] at bw_131
          have bw_131 : -2147483648 ≤ w_131.toInt ∧ w_131.toInt ≤ 2147483647 := bw_131
          have fw_132 : h_127.2.1 x 9 = w_132 := fw_132
          have bw_132 := hT.gi (gx.S hM) tt_10 (k := 9) rfl
          rw [fw_132] at bw_132
          have bw_132 : -2147483648 ≤ w_132.toInt ∧ w_132.toInt ≤ 2147483647 := bw_132
          have hr_130b := hv_IN_b hr_130
          refine hb_if_ne (zx := r_128.toInt) (tgt := 127) hx hb rfl dX10_clause_122 ?o238 (fun c_133 => ?_) (fun c_133 => ?_)
          case o238 => decide
          · skip
            obtain ⟨hr_130F, hr_130S, hr_130U⟩ := hv_IN_1 hr_130 (by omega)
            refine lv_aload_n hx hb dX10_clause_127 rfl (lv_at hl 3 rfl) ?_
            refine lv_dup hx hb dX10_clause_128 rfl ?_
            refine hk_geti hx hb hts hC_10 hown hW (gx.S hM) tt_10 8 ?o239 rfl kw_1151 ⟨rfl, rfl, rfl⟩ fw_113 dX10_clause_129 ?_
            case o239 => decide
            refine lv_aload_n hx hb dX10_clause_132 rfl (lv_at hl 3 rfl) ?_
            refine hk_geti hx hb hts hC_10 hown hW (gx.S hM) tt_10 11 ?o240 rfl kw_1154 ⟨rfl, rfl, rfl⟩ fw_114 dX10_clause_133 ?_
            case o240 => decide
            refine lv_iadd hx hb dX10_clause_136 ?_
            have rg_134 := i32_r w_113
            have rg_135 := i32_r w_114
            refine lv_topi (fun x_136 ex_136 => ?_)
            have zx_136 : x_136.toInt = w_113.toInt + w_114.toInt := ?o241
            case o241 =>
              rw [ex_136]
              refine i32_add rfl rfl ?o242 ?o243
              case o242 => omega
              case o243 => omega
            refine hx_puti hx hb hts hC_10 hown hW hT (hx_S.rf (M := [(10, 8)])) (gx.S hM) tt_10 8 ?o244 rfl kw_1151 ⟨rfl, rfl, rfl⟩ rfl (x := x_136) ⟨?o245, ?o246⟩ rfl rfl rfl (List.mem_singleton.mpr rfl) dX10_clause_137 (fun H locs h_137 eh_137 hW hT hs => ?_)
            case o244 => decide
            case o245 => omega
            case o246 => omega
            replace f_x_14 := (hs.o (gx.S hM) trivial rfl).1.trans f_x_14
            replace fw_114 := (hs.o (gx.S hM) trivial rfl).1.trans fw_114
            replace fw_131 := (hs.o (gx.S hM) trivial rfl).1.trans fw_131
            replace fw_132 := (hs.o (gx.S hM) trivial rfl).1.trans fw_132
            replace af_qs : h_137.2.1 qs = sf := (funext fun j => (hs.a (gqs.S hM) rfl j).1).trans af_qs
            replace af_qo : h_137.2.1 qo = of := (funext fun j => (hs.a (gqo.S hM) rfl j).1).trans af_qo
            replace af_qr : h_137.2.1 qr = rd := (funext fun j => (hs.a (gqr.S hM) rfl j).1).trans af_qr
            replace hM := hM.tr (hs.mono ?o247)
            case o247 => decide
            have f_138 : h_137.2.1 x 8 = x_136 := ?o248
            case o248 =>
              rw [eh_137]
              exact hx_pi_at _ _ _ _
            have ha2 : x_136.toInt.toNat = hv_we tf tp0.toInt.toNat w_113.toInt.toNat := ?o249
            case o249 =>
              have h9 := hr_112E
              omega
            refine lv_aload_n hx hb dX10_clause_140 rfl (lv_at hl 3 rfl) ?_
            refine lv_iconst (v := 0) hx hb dX10_clause_141 ?o250 ?_
            case o250 => decide
            refine lv_sipush (v := 999) hx hb dX10_clause_142 ?o251 ?_
            case o251 => decide
            have zc_999 : (999 : Int32).toInt = 999 := ?o252
            case o252 => decide
            refine hx_goi (hx_runV (As := [.int (0 : Int32), .int (999 : Int32)]) (rest := []) ⟨hx, hb, hml, hown, hts⟩ hW (gx.S hM) tt_10 (T := TX10) (N := 98) rfl (t_X10_number_v l dC dI dA L_126 h_137 H.size x (0 : Int32) (999 : Int32) hT (gx.S hM) qt (gqt.S hM) ((hM.o gx trivial rfl).2.trans f_x_6) tf (hx_afS hM gqt rfl af_qt) x_136 f_138 tp0 ((hM.o gx trivial rfl).1.trans f_x_7) w_132 fw_132 ?o253 ?o254 ?o255) (cwV 2 hts (hx_gV kw_1503 kw_1500 kw_1502 kw_61 kw_103) rfl rfl rfl (by decide +kernel) ⟨Nat.le_of_ble_eq_true rfl, Nat.le_of_ble_eq_true rfl⟩) rfl hl.1 rfl (Nat.le_of_ble_eq_true rfl) dX10_clause_145 ⟨Nat.le_of_ble_eq_true rfl, Nat.le_of_ble_eq_true rfl⟩) hW (fun r_141 L_139 h_140 H locs p_142 hW => ?_)
            case o253 => omega
            case o254 => omega
            case o255 => decide
            obtain ⟨⟨w_144, w_145, w_146, fw_144, fw_145, fw_146, hr_143⟩, hT, hs⟩ := p_142
            replace hT : hx_T T_tb L_139 h_140 := hT
            replace hs : hx_S T_tb [(10, 8), (10, 9), (10, 10)] L_126 h_137 L_139 h_140 := hs
            replace f_x_14 := (hs.o (gx.S hM) trivial rfl).1.trans f_x_14
            replace fw_114 := (hs.o (gx.S hM) trivial rfl).1.trans fw_114
            replace fw_131 := (hs.o (gx.S hM) trivial rfl).1.trans fw_131
            replace af_qs : h_140.2.1 qs = sf := (funext fun j => (hs.a (gqs.S hM) rfl j).1).trans af_qs
            replace af_qo : h_140.2.1 qo = of := (funext fun j => (hs.a (gqo.S hM) rfl j).1).trans af_qo
            replace af_qr : h_140.2.1 qr = rd := (funext fun j => (hs.a (gqr.S hM) rfl j).1).trans af_qr
            replace hM := hM.tr (hs.mono ?o256)
            case o256 => decide
            have fw_144 : h_140.2.1 x 8 = w_144 := fw_144
            have bw_144 := hT.gi (gx.S hM) tt_10 (k := 8) rfl
            rw [fw_144] at bw_144
            have bw_144 : 0 ≤ w_144.toInt ∧ w_144.toInt ≤ 402 := bw_144
            have fw_145 : h_140.2.1 x 10 = w_145 := fw_145
            have bw_145 := hT.gi (gx.S hM) tt_10 (k := 10) rfl
            rw [fw_145] at bw_145
            have bw_145 : 0 ≤ w_145.toInt ∧ w_145.toInt ≤ 9999 := bw_145
            have fw_146 : h_140.2.1 x 9 = w_146 := fw_146
            have bw_146 := hT.gi (gx.S hM) tt_10 (k := 9) rfl
            rw [fw_146] at bw_146
            have bw_146 : -2147483648 ≤ w_146.toInt ∧ w_146.toInt ≤ 2147483647 := bw_146
            have hr_143b := hv_M_b hr_143.1
            refine hb_if_ne (zx := r_141.toInt) (tgt := 153) hx hb rfl dX10_clause_148 ?o257 (fun c_147 => ?_) (fun c_147 => ?_)
            case o257 => decide
            · skip
              obtain ⟨hr_143F, hr_143p, hr_143E⟩ := hv_M_1 hr_143.1 (by omega)
              have hr_143R := hr_143.2.1 ?o258
              case o258 => omega
              refine lv_aload_n hx hb dX10_clause_153 rfl (lv_at hl 3 rfl) ?_
              refine hk_getr hx hb hts hC_10 hown hW (gx.S hM) tt_10 12 ?o259 rfl kw_1155 ⟨rfl, rfl, rfl⟩ ((hM.o gx trivial rfl).2.trans f_x_12) dX10_clause_154 ?_
              case o259 => decide
              refine lv_bipush (v := 9) hx hb dX10_clause_157 ?o260 ?_
              case o260 => decide
              refine lv_iload_n hx hb dX10_clause_159 rfl (lv_at hl 0 rfl) ?_
              refine lv_iadd hx hb dX10_clause_160 ?_
              refine lv_topi (fun x_148 ex_148 => ?_)
              have zx_148 : x_148.toInt = 9 + x_117.toInt := ?o261
              case o261 =>
                rw [ex_148]
                refine i32_add ?o262 rfl ?o263 ?o264
                case o262 => decide
                case o263 => omega
                case o264 => omega
              obtain rfl : x_125 = x_148 := ex_125.trans ex_148.symm
              refine lv_aload_n hx hb dX10_clause_161 rfl (lv_at hl 3 rfl) ?_
              refine hk_geti hx hb hts hC_10 hown hW (gx.S hM) tt_10 10 ?o265 rfl kw_1153 ⟨rfl, rfl, rfl⟩ fw_145 dX10_clause_162 ?_
              case o265 => decide
              have af_qrO := af_qr
              refine hx_iast hx hb hW hT (hx_S.rf (M := [(54, 0)])) (gqr.S hM) tt_54 rfl ⟨?o266, ?o267⟩ rfl ⟨?o268, ?o269⟩ (List.mem_singleton.mpr rfl) dX10_clause_165 (fun H locs h_149 eh_149 hW hT hs => ?_)
              case o266 => omega
              case o267 => omega
              case o268 => omega
              case o269 => omega
              replace f_x_14 := (hs.o (gx.S hM) trivial rfl).1.trans f_x_14
              replace fw_114 := (hs.o (gx.S hM) trivial rfl).1.trans fw_114
              replace fw_131 := (hs.o (gx.S hM) trivial rfl).1.trans fw_131
              replace fw_144 := (hs.o (gx.S hM) trivial rfl).1.trans fw_144
              replace fw_145 := (hs.o (gx.S hM) trivial rfl).1.trans fw_145
              replace fw_146 := (hs.o (gx.S hM) trivial rfl).1.trans fw_146
              replace af_qs : h_149.2.1 qs = sf := (funext fun j => (hs.a (gqs.S hM) rfl j).1).trans af_qs
              replace af_qo : h_149.2.1 qo = of := (funext fun j => (hs.a (gqo.S hM) rfl j).1).trans af_qo
              replace hM := hM.tr (hs.mono ?o270)
              case o270 => decide
              obtain ⟨fa_150, dfa_150⟩ : ∃ g : Nat → Int32, g = hx_up rd x_125.toNatClampNeg w_145 := ⟨_, rfl⟩
              have nfa_150 : h_149.2.1 qr = fa_150 := ?o271
              case o271 =>
                rw [eh_149, dfa_150, ← af_qrO]
                exact hx_pi_fun _ _ _ _
              refine lv_iconst (v := 1) hx hb dX10_clause_166 ?o272 ?_
              case o272 => decide
              refine hx_retz hx hb hr rfl hlk hW ⟨⟨w_144, st0, w_146, w_131, sf, fa_150, fw_144, f_x_14, fw_146, fw_131, af_qs, nfa_150, ⟨?o273, ?o274, fun _ => ⟨?o275, ?o276, hrp, (hx_rd hrd dfa_150 ?o277 ?o278 ?o279)⟩, hv_CM_t (x := w_144.toInt.toNat) ?o280 ?o281 ?o282 hr_130U (hv_rR_u ?o283 ?o284 dfa_150) hO ((hv_cl_c (by rw [← ek_8]; omega)).trans (by rw [← ek_8, ← ha1, ← ek_115]; exact (by have h7 := hv_co_5 (T := tf) (n := tp0.toInt.toNat) (q := w_113.toInt.toNat) (sn := hv_sR sn0) (rd := hv_rR rd) (o := o) (by omega) (by rw [show (hv_wd tf tp0.toInt.toNat w_113.toInt.toNat - 12).toNat = x_125.toInt.toNat by omega]; exact hr_130S) (by rw [← ha2]; exact hr_143E); rw [show (hv_wd tf tp0.toInt.toNat w_113.toInt.toNat - 12).toNat = x_125.toInt.toNat by omega] at h7; exact h7)))⟩⟩, hT, hM⟩ dX10_clause_167
              case o273 => decide
              case o274 => omega
              case o275 => omega
              case o276 => omega
              case o277 => omega
              case o278 => omega
              case o279 => omega
              case o280 => decide
              case o281 => omega
              case o282 => omega
              case o283 => omega
              case o284 => omega
            · skip
              refine lv_iconst (v := 0) hx hb dX10_clause_151 ?o285 ?_
              case o285 => decide
              refine hx_retz hx hb hr rfl hlk hW ⟨⟨w_144, st0, w_146, w_131, sf, rd, fw_144, f_x_14, fw_146, fw_131, af_qs, af_qr, ⟨?o286, ?o287, (fun z9 => absurd z9 ?o288), hv_CM_f (x := w_146.toInt.toNat) ?o289 (by have h8 := (hv_M_0 hr_143.1 (by omega)).1; omega) (by have h8 := (hv_M_0 hr_143.1 (by omega)).1; omega) ((hv_cl_c (by rw [← ek_8]; omega)).trans (by rw [← ek_8, ← ha1, ← ek_115]; exact (hv_co_3 (by omega) (by rw [show (hv_wd tf tp0.toInt.toNat w_113.toInt.toNat - 12).toNat = x_125.toInt.toNat by omega]; exact hr_130S) (by rw [← ha2]; exact (hv_M_0 hr_143.1 (by omega)).2))))⟩⟩, hT, hM⟩ dX10_clause_152
              case o286 => decide
              case o287 => omega
              case o288 => decide
              case o289 => decide
          · skip
            refine lv_iconst (v := 0) hx hb dX10_clause_125 ?o290 ?_
            case o290 => decide
            refine hx_retz hx hb hr rfl hlk hW ⟨⟨w_113, st0, w_132, w_131, sf, rd, fw_113, f_x_14, fw_132, fw_131, af_qs, af_qr, ⟨?o291, ?o292, (fun z9 => absurd z9 ?o293), hv_CM_f (x := 3 + 8 * w_113.toInt.toNat) ?o294 (by have h8 := (hv_IN_0 hr_130 (by omega)).2; omega) ?o295 ((hv_cl_c (by rw [← ek_8]; omega)).trans (by rw [← ek_8, ← ha1, ← ek_115]; exact (hv_co_2 (by omega) (by rw [show (hv_wd tf tp0.toInt.toNat w_113.toInt.toNat - 12).toNat = x_125.toInt.toNat by omega]; exact (hv_IN_0 hr_130 (by omega)).1))))⟩⟩, hT, hM⟩ dX10_clause_126
            case o291 => decide
            case o292 => omega
            case o293 => decide
            case o294 => decide
            case o295 => omega
        · skip
          replace hr_122 := hr_122.resolve_right (fun z9 => absurd (c_123.symm.trans z9.1) ?o296)
          case o296 => decide
          replace hr_122 := hr_122.2
          refine lv_aload_n hx hb dX10_clause_100 rfl (lv_at hl 3 rfl) ?_
          refine lv_iconst (v := 0) hx hb dX10_clause_101 ?o297 ?_
          case o297 => decide
          refine lv_aload_n hx hb dX10_clause_102 rfl (lv_at hl 3 rfl) ?_
          refine hk_geti hx hb hts hC_10 hown hW (gx.S hM) tt_10 8 ?o298 rfl kw_1151 ⟨rfl, rfl, rfl⟩ fw_113 dX10_clause_103 ?_
          case o298 => decide
          refine hx_goi (hx_runV (As := [.int (0 : Int32), .int w_113]) (rest := []) ⟨hx, hb, hml, hown, hts⟩ hW (gx.S hM) tt_10 (T := TX10) (N := 98) rfl (t_X10_fails_v l dC dI dA L_118 h_119 H.size x (0 : Int32) w_113 hT (gx.S hM) ft0 f_x_9 ?o299 ?o300 ⟨?o301, ?o302⟩) (cwV 2 hts (hx_gV kw_1480 kw_1477 kw_1479 kw_56 kw_103) rfl rfl rfl (by decide +kernel) ⟨Nat.le_of_ble_eq_true rfl, Nat.le_of_ble_eq_true rfl⟩) rfl hl.1 rfl (Nat.le_of_ble_eq_true rfl) dX10_clause_106 ⟨Nat.le_of_ble_eq_true rfl, Nat.le_of_ble_eq_true rfl⟩) hW (fun r_153 L_151 h_152 H locs p_154 hW => ?_)
          case o299 => omega
          case o300 => decide
          case o301 => omega
          case o302 => omega
          obtain ⟨⟨w_156, fw_156, hr_155⟩, hT, hs⟩ := p_154
          replace hT : hx_T T_tb L_151 h_152 := hT
          replace hs : hx_S T_tb [(10, 9)] L_118 h_119 L_151 h_152 := hs
          replace f_x_14 := (hs.o (gx.S hM) trivial rfl).1.trans f_x_14
          replace f_x_13 := (hs.o (gx.S hM) trivial rfl).1.trans f_x_13
          replace fw_113 := (hs.o (gx.S hM) trivial rfl).1.trans fw_113
          replace fw_114 := (hs.o (gx.S hM) trivial rfl).1.trans fw_114
          replace af_qs : h_152.2.1 qs = sf := (funext fun j => (hs.a (gqs.S hM) rfl j).1).trans af_qs
          replace af_qo : h_152.2.1 qo = of := (funext fun j => (hs.a (gqo.S hM) rfl j).1).trans af_qo
          replace af_qr : h_152.2.1 qr = rd := (funext fun j => (hs.a (gqr.S hM) rfl j).1).trans af_qr
          replace hM := hM.tr (hs.mono ?o303)
          case o303 => decide
          have fw_156 : h_152.2.1 x 9 = w_156 := fw_156
          have bw_156 := hT.gi (gx.S hM) tt_10 (k := 9) rfl
          rw [fw_156] at bw_156
          have bw_156 : -2147483648 ≤ w_156.toInt ∧ w_156.toInt ≤ 2147483647 := bw_156
          refine hx_retz hx hb hr (hx_nar01 ?o304) hlk hW ⟨⟨w_113, st0, w_156, sn0, sf, rd, fw_113, f_x_14, fw_156, f_x_13, af_qs, af_qr, ⟨?o305, ?o306, (fun z9 => ?o307), hv_CM_f (x := 1 + 8 * w_113.toInt.toNat) ?o308 ?o309 ?o310 ((hv_cl_c (by rw [← ek_8]; omega)).trans (by rw [← ek_8, ← ha1, ← ek_115]; exact (hv_co_1 (by omega))))⟩⟩, hT, hM⟩ dX10_clause_109
          case o304 => omega
          case o305 => omega
          case o306 => omega
          case o307 =>
            exfalso
            omega
          case o308 => omega
          case o309 => omega
          case o310 => omega
    · skip
      refine lv_aload_n hx hb dX10_clause_34 rfl (lv_at hl 2 rfl) ?_
      refine lv_bipush (v := 20) hx hb dX10_clause_35 ?o311 ?_
      case o311 => decide
      refine lv_iload_n hx hb dX10_clause_37 rfl (lv_at hl 0 rfl) ?_
      refine hx_goi (hx_runV (As := [.int (20 : Int32), .int w_6]) (rest := []) ⟨hx, hb, hml, hown, hts⟩ hW (gx.S hM) tt_10 (T := TX10) (N := 98) rfl (t_X10_isNew_v l dC dI dA L_9 h_10 H.size x (20 : Int32) w_6 hT (gx.S hM) sn0 f_x_13 ft0 f_x_9 13 ?o312 ?o313 ⟨?o314, ?o315⟩ ?o316) (cwV 2 hts (hx_gV kw_1484 kw_1481 kw_1483 kw_57 kw_103) rfl rfl rfl (by decide +kernel) ⟨Nat.le_of_ble_eq_true rfl, Nat.le_of_ble_eq_true rfl⟩) rfl hl.1 rfl (Nat.le_of_ble_eq_true rfl) dX10_clause_38 ⟨Nat.le_of_ble_eq_true rfl, Nat.le_of_ble_eq_true rfl⟩) hW (fun r_159 L_157 h_158 H locs p_160 hW => ?_)
      case o312 => decide
      case o313 => decide
      case o314 => omega
      case o315 => omega
      case o316 => omega
      obtain ⟨⟨w_162, w_163, fw_162, fw_163, hr_161⟩, hT, hs⟩ := p_160
      replace hT : hx_T T_tb L_157 h_158 := hT
      replace hs : hx_S T_tb [(10, 9), (10, 13)] L_9 h_10 L_157 h_158 := hs
      replace f_x_14 := (hs.o (gx.S hM) trivial rfl).1.trans f_x_14
      replace fw_6 := (hs.o (gx.S hM) trivial rfl).1.trans fw_6
      replace fw_7 := (hs.o (gx.S hM) trivial rfl).1.trans fw_7
      replace af_qs : h_158.2.1 qs = sf := (funext fun j => (hs.a (gqs.S hM) rfl j).1).trans af_qs
      replace af_qo : h_158.2.1 qo = of := (funext fun j => (hs.a (gqo.S hM) rfl j).1).trans af_qo
      replace af_qr : h_158.2.1 qr = rd := (funext fun j => (hs.a (gqr.S hM) rfl j).1).trans af_qr
      replace hM := hM.tr (hs.mono ?o317)
      case o317 => decide
      have fw_162 : h_158.2.1 x 13 = w_162 := fw_162
      have bw_162 := hT.gi (gx.S hM) tt_10 (k := 13) rfl
      rw [fw_162] at bw_162
      have bw_162 : -2147483648 ≤ w_162.toInt ∧ w_162.toInt ≤ 2147483647 := bw_162
      have fw_163 : h_158.2.1 x 9 = w_163 := fw_163
      have bw_163 := hT.gi (gx.S hM) tt_10 (k := 9) rfl
      rw [fw_163] at bw_163
      have bw_163 : -2147483648 ≤ w_163.toInt ∧ w_163.toInt ≤ 2147483647 := bw_163
      have hr_161b := hv_IN_b hr_161
      refine hb_if_ne (zx := r_159.toInt) (tgt := 46) hx hb rfl dX10_clause_41 ?o318 (fun c_164 => ?_) (fun c_164 => ?_)
      case o318 => decide
      · skip
        obtain ⟨hr_161F, hr_161S, hr_161U⟩ := hv_IN_1 hr_161 (by omega)
        refine lv_aload_n hx hb dX10_clause_46 rfl (lv_at hl 2 rfl) ?_
        refine lv_dup hx hb dX10_clause_47 rfl ?_
        refine hk_geti hx hb hts hC_10 hown hW (gx.S hM) tt_10 8 ?o319 rfl kw_1151 ⟨rfl, rfl, rfl⟩ fw_6 dX10_clause_48 ?_
        case o319 => decide
        refine lv_aload_n hx hb dX10_clause_51 rfl (lv_at hl 2 rfl) ?_
        refine hk_geti hx hb hts hC_10 hown hW (gx.S hM) tt_10 11 ?o320 rfl kw_1154 ⟨rfl, rfl, rfl⟩ fw_7 dX10_clause_52 ?_
        case o320 => decide
        refine lv_iadd hx hb dX10_clause_55 ?_
        have rg_165 := i32_r w_6
        have rg_166 := i32_r w_7
        refine lv_topi (fun x_167 ex_167 => ?_)
        have zx_167 : x_167.toInt = w_6.toInt + w_7.toInt := ?o321
        case o321 =>
          rw [ex_167]
          refine i32_add rfl rfl ?o322 ?o323
          case o322 => omega
          case o323 => omega
        refine hx_puti hx hb hts hC_10 hown hW hT (hx_S.rf (M := [(10, 8)])) (gx.S hM) tt_10 8 ?o324 rfl kw_1151 ⟨rfl, rfl, rfl⟩ rfl (x := x_167) ⟨?o325, ?o326⟩ rfl rfl rfl (List.mem_singleton.mpr rfl) dX10_clause_56 (fun H locs h_168 eh_168 hW hT hs => ?_)
        case o324 => decide
        case o325 => omega
        case o326 => omega
        replace f_x_14 := (hs.o (gx.S hM) trivial rfl).1.trans f_x_14
        replace fw_7 := (hs.o (gx.S hM) trivial rfl).1.trans fw_7
        replace fw_162 := (hs.o (gx.S hM) trivial rfl).1.trans fw_162
        replace fw_163 := (hs.o (gx.S hM) trivial rfl).1.trans fw_163
        replace af_qs : h_168.2.1 qs = sf := (funext fun j => (hs.a (gqs.S hM) rfl j).1).trans af_qs
        replace af_qo : h_168.2.1 qo = of := (funext fun j => (hs.a (gqo.S hM) rfl j).1).trans af_qo
        replace af_qr : h_168.2.1 qr = rd := (funext fun j => (hs.a (gqr.S hM) rfl j).1).trans af_qr
        replace hM := hM.tr (hs.mono ?o327)
        case o327 => decide
        have f_169 : h_168.2.1 x 8 = x_167 := ?o328
        case o328 =>
          rw [eh_168]
          exact hx_pi_at _ _ _ _
        have ha1 : x_167.toInt.toNat = hv_we tf tp0.toInt.toNat w_6.toInt.toNat := ?o329
        case o329 =>
          have h9 := hr_5E
          omega
        have hw3 := hv_wd_3 (T := tf) (n := tp0.toInt.toNat) (p := w_6.toInt.toNat) ?o330
        case o330 => omega
        have hl5 := (hv_wd_k (w := 20) (T := tf) (n := tp0.toInt.toNat) (p := w_6.toInt.toNat) (by omega)).2.2.1; rw [show (hv_wl.getD 20 []).length = 5 from by decide] at hl5
        refine lv_aload_n hx hb dX10_clause_59 rfl (lv_at hl 2 rfl) ?_
        refine hx_goi (hx_runV (As := []) (rest := []) ⟨hx, hb, hml, hown, hts⟩ hW (gx.S hM) tt_10 (T := TX10) (N := 98) rfl (t_X10_either_v l dC dI dA L_157 h_168 H.size x hT (gx.S hM) qs (gqs.S hM) ((hM.o gx trivial rfl).2.trans f_x_15) qo (gqo.S hM) ((hM.o gx trivial rfl).2.trans f_x_17) qt (gqt.S hM) ((hM.o gx trivial rfl).2.trans f_x_6) qw (gqw.S hM) ((hM.o gx trivial rfl).2.trans f_x_19) sf af_qs of af_qo tf (hx_afS hM gqt rfl af_qt) wf (hx_afS hM gqw rfl af_qw) x_167 f_169 tp0 ((hM.o gx trivial rfl).1.trans f_x_7) w_163 fw_163 ?o331 hwd ?o332 ?o333) (cwV 0 hts (hx_gV kw_1488 kw_1485 kw_1487 kw_58 kw_103) rfl rfl rfl (by decide +kernel) ⟨Nat.le_of_ble_eq_true rfl, Nat.le_of_ble_eq_true rfl⟩) rfl hl.1 rfl (Nat.le_of_ble_eq_true rfl) dX10_clause_60 ⟨Nat.le_of_ble_eq_true rfl, Nat.le_of_ble_eq_true rfl⟩) hW (fun r_172 L_170 h_171 H locs p_173 hW => ?_)
        case o331 => omega
        case o332 => omega
        case o333 => omega
        obtain ⟨⟨w_175, w_176, w_177, w_178, w_179, fw_175, fw_176, fw_177, fw_178, fw_179, hr_174⟩, hT, hs⟩ := p_173
        replace hT : hx_T T_tb L_170 h_171 := hT
        replace hs : hx_S T_tb [(10, 8), (10, 9), (10, 10), (10, 11), (10, 14), (10, 16), (10, 18), (55, 0), (56, 0)] L_157 h_168 L_170 h_171 := hs
        replace fw_162 := (hs.o (gx.S hM) trivial rfl).1.trans fw_162
        replace af_qr : h_171.2.1 qr = rd := (funext fun j => (hs.a (gqr.S hM) rfl j).1).trans af_qr
        replace hM := hM.tr (hs.mono ?o334)
        case o334 => decide
        have fw_175 : h_171.2.1 x 8 = w_175 := fw_175
        have bw_175 := hT.gi (gx.S hM) tt_10 (k := 8) rfl
        rw [fw_175] at bw_175
        have bw_175 : 0 ≤ w_175.toInt ∧ w_175.toInt ≤ 402 := bw_175
        have fw_176 : h_171.2.1 x 14 = w_176 := fw_176
        have bw_176 := hT.gi (gx.S hM) tt_10 (k := 14) rfl
        rw [fw_176] at bw_176
        have bw_176 : 0 ≤ w_176.toInt ∧ w_176.toInt ≤ 128 := bw_176
        have fw_177 : h_171.2.1 x 16 = w_177 := fw_177
        have bw_177 := hT.gi (gx.S hM) tt_10 (k := 16) rfl
        rw [fw_177] at bw_177
        have bw_177 : 0 ≤ w_177.toInt ∧ w_177.toInt ≤ 20 := bw_177
        have fw_178 : h_171.2.1 x 9 = w_178 := fw_178
        have bw_178 := hT.gi (gx.S hM) tt_10 (k := 9) rfl
        rw [fw_178] at bw_178
        have bw_178 : -2147483648 ≤ w_178.toInt ∧ w_178.toInt ≤ 2147483647 := bw_178
        have fw_179 : h_171.2.1 qs = w_179 := fw_179
        have hr_174b := hv_K_b hr_174.2.2.2.1
        refine hx_retz hx hb hr (hx_nar01 ?o335) hlk hW ⟨⟨w_175, w_176, w_178, w_162, w_179, rd, fw_175, fw_176, fw_178, fw_162, fw_179, af_qr, ⟨?o336, ?o337, fun z => ⟨?o338, hr_174.2.2.2.2 z, hr_174.2.2.1 z, hrd⟩, hv_CM_p hr_174.2.2.2.1 ((hv_cl_p (by rw [← ek_8]; omega) hr_161S).trans (by rw [← ek_8, ← ha1, hr_161U]))⟩⟩, hT, hM⟩ dX10_clause_63
        case o335 => omega
        case o336 => omega
        case o337 => omega
        case o338 => omega
      · skip
        refine lv_iconst (v := 0) hx hb dX10_clause_44 ?o339 ?_
        case o339 => decide
        refine hx_retz hx hb hr rfl hlk hW ⟨⟨w_6, st0, w_163, w_162, sf, rd, fw_6, f_x_14, fw_163, fw_162, af_qs, af_qr, ⟨?o340, ?o341, (fun z9 => absurd z9 ?o342), hv_CM_f (x := 3 + 8 * w_6.toInt.toNat) ?o343 (by have h8 := (hv_IN_0 hr_161 (by omega)).2; omega) ?o344 ((hv_cl_p1 (by rw [← ek_8]; omega) (hv_IN_0 hr_161 ?o345).1).trans (by rw [← ek_8]))⟩⟩, hT, hM⟩ dX10_clause_45
        case o340 => decide
        case o341 => omega
        case o342 => decide
        case o343 => decide
        case o344 => omega
        case o345 => omega
  · skip
    replace hr_13 := hr_13.resolve_right (fun z9 => absurd (c_14.symm.trans z9.1) ?o346)
    case o346 => decide
    replace hr_13 := hr_13.2
    refine lv_aload_n hx hb dX10_clause_21 rfl (lv_at hl 2 rfl) ?_
    refine lv_iconst (v := 0) hx hb dX10_clause_22 ?o347 ?_
    case o347 => decide
    refine lv_iload_n hx hb dX10_clause_23 rfl (lv_at hl 0 rfl) ?_
    have zc_0 : (0 : Int32).toInt = 0 := ?o348
    case o348 => decide
    refine hx_goi (hx_runV (As := [.int (0 : Int32), .int w_6]) (rest := []) ⟨hx, hb, hml, hown, hts⟩ hW (gx.S hM) tt_10 (T := TX10) (N := 98) rfl (t_X10_fails_v l dC dI dA L_9 h_10 H.size x (0 : Int32) w_6 hT (gx.S hM) ft0 f_x_9 ?o349 ?o350 ⟨?o351, ?o352⟩) (cwV 2 hts (hx_gV kw_1480 kw_1477 kw_1479 kw_56 kw_103) rfl rfl rfl (by decide +kernel) ⟨Nat.le_of_ble_eq_true rfl, Nat.le_of_ble_eq_true rfl⟩) rfl hl.1 rfl (Nat.le_of_ble_eq_true rfl) dX10_clause_24 ⟨Nat.le_of_ble_eq_true rfl, Nat.le_of_ble_eq_true rfl⟩) hW (fun r_182 L_180 h_181 H locs p_183 hW => ?_)
    case o349 => omega
    case o350 => decide
    case o351 => omega
    case o352 => omega
    obtain ⟨⟨w_185, fw_185, hr_184⟩, hT, hs⟩ := p_183
    replace hT : hx_T T_tb L_180 h_181 := hT
    replace hs : hx_S T_tb [(10, 9)] L_9 h_10 L_180 h_181 := hs
    replace f_x_14 := (hs.o (gx.S hM) trivial rfl).1.trans f_x_14
    replace f_x_13 := (hs.o (gx.S hM) trivial rfl).1.trans f_x_13
    replace fw_6 := (hs.o (gx.S hM) trivial rfl).1.trans fw_6
    replace fw_7 := (hs.o (gx.S hM) trivial rfl).1.trans fw_7
    replace af_qs : h_181.2.1 qs = sf := (funext fun j => (hs.a (gqs.S hM) rfl j).1).trans af_qs
    replace af_qo : h_181.2.1 qo = of := (funext fun j => (hs.a (gqo.S hM) rfl j).1).trans af_qo
    replace af_qr : h_181.2.1 qr = rd := (funext fun j => (hs.a (gqr.S hM) rfl j).1).trans af_qr
    replace hM := hM.tr (hs.mono ?o353)
    case o353 => decide
    have fw_185 : h_181.2.1 x 9 = w_185 := fw_185
    have bw_185 := hT.gi (gx.S hM) tt_10 (k := 9) rfl
    rw [fw_185] at bw_185
    have bw_185 : -2147483648 ≤ w_185.toInt ∧ w_185.toInt ≤ 2147483647 := bw_185
    refine hx_retz hx hb hr (hx_nar01 ?o354) hlk hW ⟨⟨w_6, st0, w_185, sn0, sf, rd, fw_6, f_x_14, fw_185, f_x_13, af_qs, af_qr, ⟨?o355, ?o356, (fun z9 => ?o357), hv_CM_f (x := 1 + 8 * w_6.toInt.toNat) ?o358 ?o359 ?o360 ((hv_cl_1 (by rw [← ek_8]; omega)).trans (by rw [← ek_8]))⟩⟩, hT, hM⟩ dX10_clause_27
    case o354 => omega
    case o355 => omega
    case o356 => omega
    case o357 =>
      exfalso
      omega
    case o358 => omega
    case o359 => omega
    case o360 => omega


set_option maxHeartbeats 4000000 in
set_option maxRecDepth 100000 in
theorem t_X10_withoutProof_v (l : Launch) (dC : Nat → ClassId) (dI : Nat → Nat → Nat) (dA : Nat → ClassId) (L : List Nat) (h : hx_h) (sz : Nat) (x : Nat) (hT : hx_T T_tb L h) (gx : hx_g L h x 10) (qs : Nat) (gqs : hx_g L h qs 55) (f_x_15 : h.2.2 x 15 = some qs) (sf : Nat → Int32) (af_qs : h.2.1 qs = sf) (st0 : Int32) (f_x_14 : h.2.1 x 14 = st0) (hst : st0.toInt = 0) : Met l yX10_withoutProof (Cond.code yX10_withoutProof cX10_withoutProof 1 none :: hx_all) ({ frames := 1, cells := 0, slots := 0, locals := 22 }) (va_Pc [.ref x] (hx_B T_tb (P_ty dA) (dC, dI) vwCl L h sz)) (va_Qv (fun (u : List Nat × hx_h) => (∃ (st1 : Int32) (sf1 : Nat → Int32), u.2.2.1 x 14 = st1 ∧ u.2.2.1 qs = sf1 ∧ (hx_rp sf1 st1.toInt.toNat = some 1 ∧ hv_ls sf1 st1.toInt.toNat = hv_o0.map hv_rc)) ∧ hx_T T_tb u.1 u.2 ∧ hx_S T_tb [(10, 14), (55, 0)] L h u.1 u.2) (hx_E T_tb (P_ty dA) (dC, dI) vwCl (hx_A L sz)) (hx_A L sz)) 0 0 (hx_A L sz) := by
  refine hx_met (lv := [(0, .ref x)]) (by decide +kernel) rfl (Nat.le_of_ble_eq_true rfl) rfl ?_
  intro p e s m below meth c hx hb hml hr hlk hts0 hown hin hsz hW ls hl
  have hts : ∀ w ∈ hx_all, w.before _ s = true := fun w hw => hts0 w (List.mem_cons_of_mem _ hw)
  have hown : s.vm.findClass "SmallCourtModel" = some m.cls := hown
  have hM : hx_S T_tb [(10, 14), (55, 0)] L h L h := hx_S.rf
  have b_st0 := hT.gi gx tt_10 (k := 14) rfl
  rw [f_x_14] at b_st0
  have b_st0 : 0 ≤ st0.toInt ∧ st0.toInt ≤ 128 := b_st0
  refine lv_aload_n hx hb dX10_withoutProof_0 rfl (lv_at hl 0 rfl) ?_
  refine lv_iconst (v := 0) hx hb dX10_withoutProof_1 ?o0 ?_
  case o0 => decide
  refine lv_iconst (v := 2) hx hb dX10_withoutProof_2 ?o1 ?_
  case o1 => decide
  refine lv_iconst (v := 1) hx hb dX10_withoutProof_3 ?o2 ?_
  case o2 => decide
  have zc_1 : (1 : Int32).toInt = 1 := ?o3
  case o3 => decide
  have zc_2 : (2 : Int32).toInt = 2 := ?o4
  case o4 => decide
  have zc_0 : (0 : Int32).toInt = 0 := ?o5
  case o5 => decide
  refine hx_goi (hx_runS (As := [.int (0 : Int32), .int (2 : Int32), .int (1 : Int32)]) (rest := [.ref x]) ⟨hx, hb, hml, hown, hts⟩ hW (t_X10_compareOf_v l dC dI dA L h s.heap.size (0 : Int32) (2 : Int32) (1 : Int32) hT ?o6 ?o7 ?o8) (va_cwS 3 hts (hx_gS kw_1132 kw_1130 kw_1131 kw_103) rfl rfl rfl (by decide +kernel) ⟨Nat.le_of_ble_eq_true rfl, Nat.le_of_ble_eq_true rfl⟩) rfl hl.1 rfl (Nat.le_of_ble_eq_true rfl) dX10_withoutProof_4 ⟨Nat.le_of_ble_eq_true rfl, Nat.le_of_ble_eq_true rfl⟩) hW (fun r_3 L_1 h_2 H locs p_4 hW => ?_)
  case o6 => decide
  case o7 => decide
  case o8 => decide
  obtain ⟨hr_5, hT, hs⟩ := p_4
  replace hT : hx_T T_tb L_1 h_2 := hT
  replace hs : hx_S T_tb [] L h L_1 h_2 := hs
  replace f_x_14 := (hs.o (gx.S hM) trivial rfl).1.trans f_x_14
  replace af_qs : h_2.2.1 qs = sf := (funext fun j => (hs.a (gqs.S hM) rfl j).1).trans af_qs
  replace hM := hM.tr (hs.mono ?o9)
  case o9 => decide
  refine hx_gov (hx_runV (As := [.int r_3]) (rest := []) ⟨hx, hb, hml, hown, hts⟩ hW (gx.S hM) tt_10 (T := TX10) (N := 98) rfl (t_X10_writes l dC dI dA L_1 h_2 H.size x r_3 hT (gx.S hM) qs (gqs.S hM) ((hM.o gx trivial rfl).2.trans f_x_15) sf af_qs st0 f_x_14 ?o10) (cwV 1 hts (hx_gV kw_1138 kw_1135 kw_1137 kw_50 kw_103) rfl rfl rfl (by decide +kernel) ⟨Nat.le_of_ble_eq_true rfl, Nat.le_of_ble_eq_true rfl⟩) rfl hl.1 rfl (Nat.le_of_ble_eq_true rfl) dX10_withoutProof_7 ⟨Nat.le_of_ble_eq_true rfl, Nat.le_of_ble_eq_true rfl⟩) hW (fun L_6 h_7 H locs p_9 hW => ?_)
  case o10 => omega
  obtain ⟨⟨w_11, w_12, fw_11, fw_12, hr_10⟩, hT, hs⟩ := p_9
  replace hT : hx_T T_tb L_6 h_7 := hT
  replace hs : hx_S T_tb [(10, 14), (55, 0)] L_1 h_2 L_6 h_7 := hs
  replace hM := hM.tr (hs.mono ?o11)
  case o11 => decide
  have fw_11 : h_7.2.1 x 14 = w_11 := fw_11
  have bw_11 := hT.gi (gx.S hM) tt_10 (k := 14) rfl
  rw [fw_11] at bw_11
  have bw_11 : 0 ≤ w_11.toInt ∧ w_11.toInt ≤ 128 := bw_11
  have fw_12 : h_7.2.1 qs = w_12 := fw_12
  refine lv_aload_n hx hb dX10_withoutProof_10 rfl (lv_at hl 0 rfl) ?_
  refine lv_iconst (v := 1) hx hb dX10_withoutProof_11 ?o12 ?_
  case o12 => decide
  refine lv_iconst (v := 2) hx hb dX10_withoutProof_12 ?o13 ?_
  case o13 => decide
  refine lv_iconst (v := 0) hx hb dX10_withoutProof_13 ?o14 ?_
  case o14 => decide
  refine hx_goi (hx_runS (As := [.int (1 : Int32), .int (2 : Int32), .int (0 : Int32)]) (rest := [.ref x]) ⟨hx, hb, hml, hown, hts⟩ hW (t_X10_compareOf_v l dC dI dA L_6 h_7 H.size (1 : Int32) (2 : Int32) (0 : Int32) hT ?o15 ?o16 ?o17) (va_cwS 3 hts (hx_gS kw_1132 kw_1130 kw_1131 kw_103) rfl rfl rfl (by decide +kernel) ⟨Nat.le_of_ble_eq_true rfl, Nat.le_of_ble_eq_true rfl⟩) rfl hl.1 rfl (Nat.le_of_ble_eq_true rfl) dX10_withoutProof_14 ⟨Nat.le_of_ble_eq_true rfl, Nat.le_of_ble_eq_true rfl⟩) hW (fun r_15 L_13 h_14 H locs p_16 hW => ?_)
  case o15 => decide
  case o16 => decide
  case o17 => decide
  obtain ⟨hr_17, hT, hs⟩ := p_16
  replace hT : hx_T T_tb L_13 h_14 := hT
  replace hs : hx_S T_tb [] L_6 h_7 L_13 h_14 := hs
  replace fw_11 := (hs.o (gx.S hM) trivial rfl).1.trans fw_11
  replace fw_12 : h_14.2.1 qs = w_12 := (funext fun j => (hs.a (gqs.S hM) rfl j).1).trans fw_12
  replace hM := hM.tr (hs.mono ?o18)
  case o18 => decide
  refine hx_gov (hx_runV (As := [.int r_15]) (rest := []) ⟨hx, hb, hml, hown, hts⟩ hW (gx.S hM) tt_10 (T := TX10) (N := 98) rfl (t_X10_writes l dC dI dA L_13 h_14 H.size x r_15 hT (gx.S hM) qs (gqs.S hM) ((hM.o gx trivial rfl).2.trans f_x_15) w_12 fw_12 w_11 fw_11 ?o19) (cwV 1 hts (hx_gV kw_1138 kw_1135 kw_1137 kw_50 kw_103) rfl rfl rfl (by decide +kernel) ⟨Nat.le_of_ble_eq_true rfl, Nat.le_of_ble_eq_true rfl⟩) rfl hl.1 rfl (Nat.le_of_ble_eq_true rfl) dX10_withoutProof_17 ⟨Nat.le_of_ble_eq_true rfl, Nat.le_of_ble_eq_true rfl⟩) hW (fun L_18 h_19 H locs p_21 hW => ?_)
  case o19 => omega
  obtain ⟨⟨w_23, w_24, fw_23, fw_24, hr_22⟩, hT, hs⟩ := p_21
  replace hT : hx_T T_tb L_18 h_19 := hT
  replace hs : hx_S T_tb [(10, 14), (55, 0)] L_13 h_14 L_18 h_19 := hs
  replace hM := hM.tr (hs.mono ?o20)
  case o20 => decide
  have fw_23 : h_19.2.1 x 14 = w_23 := fw_23
  have bw_23 := hT.gi (gx.S hM) tt_10 (k := 14) rfl
  rw [fw_23] at bw_23
  have bw_23 : 0 ≤ w_23.toInt ∧ w_23.toInt ≤ 128 := bw_23
  have fw_24 : h_19.2.1 qs = w_24 := fw_24
  refine lv_aload_n hx hb dX10_withoutProof_20 rfl (lv_at hl 0 rfl) ?_
  refine lv_iconst (v := 1) hx hb dX10_withoutProof_21 ?o21 ?_
  case o21 => decide
  refine hx_gov (hx_runV (As := [.int (1 : Int32)]) (rest := []) ⟨hx, hb, hml, hown, hts⟩ hW (gx.S hM) tt_10 (T := TX10) (N := 98) rfl (t_X10_writes l dC dI dA L_18 h_19 H.size x (1 : Int32) hT (gx.S hM) qs (gqs.S hM) ((hM.o gx trivial rfl).2.trans f_x_15) w_24 fw_24 w_23 fw_23 ?o22) (cwV 1 hts (hx_gV kw_1138 kw_1135 kw_1137 kw_50 kw_103) rfl rfl rfl (by decide +kernel) ⟨Nat.le_of_ble_eq_true rfl, Nat.le_of_ble_eq_true rfl⟩) rfl hl.1 rfl (Nat.le_of_ble_eq_true rfl) dX10_withoutProof_22 ⟨Nat.le_of_ble_eq_true rfl, Nat.le_of_ble_eq_true rfl⟩) hW (fun L_25 h_26 H locs p_28 hW => ?_)
  case o22 => omega
  obtain ⟨⟨w_30, w_31, fw_30, fw_31, hr_29⟩, hT, hs⟩ := p_28
  replace hT : hx_T T_tb L_25 h_26 := hT
  replace hs : hx_S T_tb [(10, 14), (55, 0)] L_18 h_19 L_25 h_26 := hs
  replace hM := hM.tr (hs.mono ?o23)
  case o23 => decide
  have fw_30 : h_26.2.1 x 14 = w_30 := fw_30
  have bw_30 := hT.gi (gx.S hM) tt_10 (k := 14) rfl
  rw [fw_30] at bw_30
  have bw_30 : 0 ≤ w_30.toInt ∧ w_30.toInt ≤ 128 := bw_30
  have fw_31 : h_26.2.1 qs = w_31 := fw_31
  exact hx_retv hx hb hr hlk hW ⟨⟨w_30, w_31, fw_30, fw_31, (by have q0 : hv_ls sf st0.toInt.toNat = ([] : List hv_tok).map hv_rc := (by rw [show st0.toInt.toNat = 0 by omega]; rfl); have q1 := hv_ls_u (t := (1, 2, 1)) q0 (hr_5.2.trans (by decide)) (show w_11.toInt.toNat = st0.toInt.toNat + 1 by omega) hr_10.2; have q2 := hv_ls_u (t := (2, 2, 0)) q1 (hr_17.2.trans (by decide)) (show w_23.toInt.toNat = w_11.toInt.toNat + 1 by omega) hr_22.2; have q3 := hv_ls_u (t := (0, 1, 0)) q2 (show (1 : Int32).toInt = hv_rc (0, 1, 0) from by decide) (show w_30.toInt.toNat = w_23.toInt.toNat + 1 by omega) hr_29.2; exact ⟨hx_rp_wo hst hr_10 hr_22 hr_29 hr_5.1 hr_17.1 (by decide), q3⟩)⟩, hT, hM⟩ dX10_withoutProof_25


set_option maxHeartbeats 4000000 in
set_option maxRecDepth 100000 in
theorem t_X10_act_v (l : Launch) (dC : Nat → ClassId) (dI : Nat → Nat → Nat) (dA : Nat → ClassId) (L : List Nat) (h : hx_h) (sz : Nat) (x : Nat) (i1 : Int32) (hT : hx_T T_tb L h) (gx : hx_g L h x 10) (qs : Nat) (gqs : hx_g L h qs 55) (f_x_15 : h.2.2 x 15 = some qs) (qo : Nat) (gqo : hx_g L h qo 56) (f_x_17 : h.2.2 x 17 = some qo) (qt : Nat) (gqt : hx_g L h qt 53) (f_x_6 : h.2.2 x 6 = some qt) (qw : Nat) (gqw : hx_g L h qw 57) (f_x_19 : h.2.2 x 19 = some qw) (qr : Nat) (gqr : hx_g L h qr 54) (f_x_12 : h.2.2 x 12 = some qr) (ql : Nat) (gql : hx_g L h ql 50) (f_x_3 : h.2.2 x 3 = some ql) (qn : Nat) (gqn : hx_g L h qn 51) (f_x_4 : h.2.2 x 4 = some qn) (qp : Nat) (gqp : hx_g L h qp 52) (f_x_5 : h.2.2 x 5 = some qp) (qd : Nat) (gqd : hx_g L h qd 49) (f_x_2 : h.2.2 x 2 = some qd) (sf : Nat → Int32) (af_qs : h.2.1 qs = sf) (of : Nat → Int32) (af_qo : h.2.1 qo = of) (tf : Nat → Int32) (af_qt : h.2.1 qt = tf) (wf : Nat → Int32) (af_qw : h.2.1 qw = wf) (rd : Nat → Int32) (af_qr : h.2.1 qr = rd) (rf : Nat → Int32) (af_ql : h.2.1 ql = rf) (psf : Nat → Int32) (af_qn : h.2.1 qn = psf) (prf : Nat → Int32) (af_qp : h.2.1 qp = prf) (adf : Nat → Int32) (af_qd : h.2.1 qd = adf) (a0 : Int32) (f_x_1 : h.2.1 x 1 = a0) (tp0 : Int32) (f_x_7 : h.2.1 x 7 = tp0) (hWK : hx_WK rf a0.toInt) (hRP : hx_RP prf psf a0.toInt) (hwd : hx_wd wf) (A : Nat → hv_act) (hCA : hv_CA adf rf psf prf a0.toInt A) : Met l yX10_act (Cond.code yX10_act cX10_act 5 (some .int) :: hx_all) ({ frames := 6, cells := 0, slots := 0, locals := 141 }) (va_Pc [.ref x, .int i1] (hx_B T_tb (P_ty dA) (dC, dI) vwCl L h sz)) (va_Qi (fun (r : Int32) (u : List Nat × hx_h) => (∃ (a1 : Int32) (tp1 : Int32) (rf1 : Nat → Int32) (psf1 : Nat → Int32) (prf1 : Nat → Int32) (adf1 : Nat → Int32), u.2.2.1 x 1 = a1 ∧ u.2.2.1 x 7 = tp1 ∧ u.2.2.1 ql = rf1 ∧ u.2.2.1 qn = psf1 ∧ u.2.2.1 qp = prf1 ∧ u.2.2.1 qd = adf1 ∧ (a0.toInt ≤ a1.toInt ∧ hx_WK rf1 a1.toInt ∧ hx_RP prf1 psf1 a1.toInt ∧ hv_AN (8 ≤ a0.toInt ∨ i1.toInt < 0 ∨ 7999 < i1.toInt) (hv_ACT tf tp0.toInt.toNat hv_W0 hv_o0) r a0.toInt a1.toInt tp0.toInt tp1.toInt ∧ ∃ A1, hv_AU A a0.toInt a1.toInt i1.toInt (hv_ACT tf tp0.toInt.toNat hv_W0 hv_o0) A1 ∧ hv_CA adf1 rf1 psf1 prf1 a1.toInt A1)) ∧ hx_T T_tb u.1 u.2 ∧ hx_S T_tb [(10, 1), (10, 7), (10, 8), (10, 9), (10, 10), (10, 11), (10, 13), (10, 14), (10, 16), (10, 18), (49, 0), (50, 0), (51, 0), (52, 0), (54, 0), (55, 0), (56, 0)] L h u.1 u.2) (hx_E T_tb (P_ty dA) (dC, dI) vwCl (hx_A L sz)) (hx_A L sz)) 0 0 (hx_A L sz) := by
  refine hx_met (lv := [(0, .ref x), (1, .int i1)]) (by decide +kernel) rfl (Nat.le_of_ble_eq_true rfl) rfl ?_
  intro p e s m below meth c hx hb hml hr hlk hts0 hown hin hsz hW ls hl
  have hts : ∀ w ∈ hx_all, w.before _ s = true := fun w hw => hts0 w (List.mem_cons_of_mem _ hw)
  have hown : s.vm.findClass "SmallCourtModel" = some m.cls := hown
  have hM : hx_S T_tb [(10, 1), (10, 7), (10, 8), (10, 9), (10, 10), (10, 11), (10, 13), (10, 14), (10, 16), (10, 18), (49, 0), (50, 0), (51, 0), (52, 0), (54, 0), (55, 0), (56, 0)] L h L h := hx_S.rf
  have b_a0 := hT.gi gx tt_10 (k := 1) rfl
  rw [f_x_1] at b_a0
  have b_a0 : 0 ≤ a0.toInt ∧ a0.toInt ≤ 8 := b_a0
  have b_tp0 := hT.gi gx tt_10 (k := 7) rfl
  rw [f_x_7] at b_tp0
  have b_tp0 : 0 ≤ tp0.toInt ∧ tp0.toInt ≤ 400 := b_tp0
  refine lv_aload_n hx hb dX10_act_0 rfl (lv_at hl 0 rfl) ?_
  refine hk_geti hx hb hts hC_10 hown hW (gx.S hM) tt_10 1 ?o0 rfl kw_1144 ⟨rfl, rfl, rfl⟩ f_x_1 dX10_act_1 ?_
  case o0 => decide
  refine lv_bipush (v := 8) hx hb dX10_act_4 ?o1 ?_
  case o1 => decide
  refine hb_icmp_eq (zx := a0.toInt) (zy := 8) (tgt := 16) hx hb rfl ?o2 dX10_act_6 ?o3 (fun c_1 => ?_) (fun c_1 => ?_)
  case o2 => decide
  case o3 => decide
  · skip
    refine lv_iconst (v := -1) hx hb dX10_act_16 ?o4 ?_
    case o4 => decide
    refine hx_reti hx hb hr hlk hW ⟨⟨a0, tp0, rf, psf, prf, adf, f_x_1, f_x_7, af_ql, af_qn, af_qp, af_qd, ⟨?o5, hWK, hRP, Or.inl ⟨?o6, rfl, ?o7, ?o8⟩, A, Or.inl ⟨?o9, rfl⟩, hCA⟩⟩, hT, hM⟩ dX10_act_17
    case o5 => omega
    case o6 => omega
    case o7 => omega
    case o8 => omega
    case o9 => omega
  · skip
    refine lv_iload_n hx hb dX10_act_9 rfl (lv_at hl 1 rfl) ?_
    refine hx_goi (hx_runS (As := [.int i1]) (rest := []) ⟨hx, hb, hml, hown, hts⟩ hW (t_X10_isDay l dC dI dA L h s.heap.size i1 hT) (va_cwS 1 hts (hx_gS kw_1464 kw_1462 kw_1463 kw_103) rfl rfl rfl (by decide +kernel) ⟨Nat.le_of_ble_eq_true rfl, Nat.le_of_ble_eq_true rfl⟩) rfl hl.1 rfl (Nat.le_of_ble_eq_true rfl) dX10_act_10 ⟨Nat.le_of_ble_eq_true rfl, Nat.le_of_ble_eq_true rfl⟩) hW (fun r_4 L_2 h_3 H locs p_5 hW => ?_)
    obtain ⟨hr_6, hT, hs⟩ := p_5
    replace hT : hx_T T_tb L_2 h_3 := hT
    replace hs : hx_S T_tb [] L h L_2 h_3 := hs
    replace f_x_1 := (hs.o (gx.S hM) trivial rfl).1.trans f_x_1
    replace f_x_7 := (hs.o (gx.S hM) trivial rfl).1.trans f_x_7
    replace af_qs : h_3.2.1 qs = sf := (funext fun j => (hs.a (gqs.S hM) rfl j).1).trans af_qs
    replace af_qo : h_3.2.1 qo = of := (funext fun j => (hs.a (gqo.S hM) rfl j).1).trans af_qo
    replace af_qr : h_3.2.1 qr = rd := (funext fun j => (hs.a (gqr.S hM) rfl j).1).trans af_qr
    replace af_ql : h_3.2.1 ql = rf := (funext fun j => (hs.a (gql.S hM) rfl j).1).trans af_ql
    replace af_qn : h_3.2.1 qn = psf := (funext fun j => (hs.a (gqn.S hM) rfl j).1).trans af_qn
    replace af_qp : h_3.2.1 qp = prf := (funext fun j => (hs.a (gqp.S hM) rfl j).1).trans af_qp
    replace af_qd : h_3.2.1 qd = adf := (funext fun j => (hs.a (gqd.S hM) rfl j).1).trans af_qd
    replace hM := hM.tr (hs.mono ?o10)
    case o10 => decide
    refine hb_if_ne (zx := r_4.toInt) (tgt := 18) hx hb rfl dX10_act_13 ?o11 (fun c_7 => ?_) (fun c_7 => ?_)
    case o11 => decide
    · skip
      replace hr_6 := hr_6.resolve_left (fun z9 => c_7 z9.1)
      replace c_7 := hr_6.1
      replace hr_6 := hr_6.2
      refine lv_aload_n hx hb dX10_act_18 rfl (lv_at hl 0 rfl) ?_
      refine lv_iconst (v := 0) hx hb dX10_act_19 ?o12 ?_
      case o12 => decide
      refine hx_puti hx hb hts hC_10 hown hW hT (hx_S.rf (M := [(10, 8)])) (gx.S hM) tt_10 8 ?o13 rfl kw_1151 ⟨rfl, rfl, rfl⟩ rfl (x := (0 : Int32)) ?o14 rfl rfl rfl (List.mem_singleton.mpr rfl) dX10_act_20 (fun H locs h_8 eh_8 hW hT hs => ?_)
      case o13 => decide
      case o14 => decide
      replace f_x_1 := (hs.o (gx.S hM) trivial rfl).1.trans f_x_1
      replace f_x_7 := (hs.o (gx.S hM) trivial rfl).1.trans f_x_7
      replace af_qs : h_8.2.1 qs = sf := (funext fun j => (hs.a (gqs.S hM) rfl j).1).trans af_qs
      replace af_qo : h_8.2.1 qo = of := (funext fun j => (hs.a (gqo.S hM) rfl j).1).trans af_qo
      replace af_qr : h_8.2.1 qr = rd := (funext fun j => (hs.a (gqr.S hM) rfl j).1).trans af_qr
      replace af_ql : h_8.2.1 ql = rf := (funext fun j => (hs.a (gql.S hM) rfl j).1).trans af_ql
      replace af_qn : h_8.2.1 qn = psf := (funext fun j => (hs.a (gqn.S hM) rfl j).1).trans af_qn
      replace af_qp : h_8.2.1 qp = prf := (funext fun j => (hs.a (gqp.S hM) rfl j).1).trans af_qp
      replace af_qd : h_8.2.1 qd = adf := (funext fun j => (hs.a (gqd.S hM) rfl j).1).trans af_qd
      replace hM := hM.tr (hs.mono ?o15)
      case o15 => decide
      have f_9 : h_8.2.1 x 8 = (0 : Int32) := ?o16
      case o16 =>
        rw [eh_8]
        exact hx_pi_at _ _ _ _
      refine lv_aload_n hx hb dX10_act_23 rfl (lv_at hl 0 rfl) ?_
      refine lv_iconst (v := 0) hx hb dX10_act_24 ?o17 ?_
      case o17 => decide
      refine hx_puti hx hb hts hC_10 hown hW hT (hx_S.rf (M := [(10, 9)])) (gx.S hM) tt_10 9 ?o18 rfl kw_1152 ⟨rfl, rfl, rfl⟩ rfl (x := (0 : Int32)) ?o19 rfl rfl rfl (List.mem_singleton.mpr rfl) dX10_act_25 (fun H locs h_10 eh_10 hW hT hs => ?_)
      case o18 => decide
      case o19 => decide
      replace f_x_1 := (hs.o (gx.S hM) trivial rfl).1.trans f_x_1
      replace f_x_7 := (hs.o (gx.S hM) trivial rfl).1.trans f_x_7
      replace f_9 := (hs.o (gx.S hM) trivial rfl).1.trans f_9
      replace af_qs : h_10.2.1 qs = sf := (funext fun j => (hs.a (gqs.S hM) rfl j).1).trans af_qs
      replace af_qo : h_10.2.1 qo = of := (funext fun j => (hs.a (gqo.S hM) rfl j).1).trans af_qo
      replace af_qr : h_10.2.1 qr = rd := (funext fun j => (hs.a (gqr.S hM) rfl j).1).trans af_qr
      replace af_ql : h_10.2.1 ql = rf := (funext fun j => (hs.a (gql.S hM) rfl j).1).trans af_ql
      replace af_qn : h_10.2.1 qn = psf := (funext fun j => (hs.a (gqn.S hM) rfl j).1).trans af_qn
      replace af_qp : h_10.2.1 qp = prf := (funext fun j => (hs.a (gqp.S hM) rfl j).1).trans af_qp
      replace af_qd : h_10.2.1 qd = adf := (funext fun j => (hs.a (gqd.S hM) rfl j).1).trans af_qd
      replace hM := hM.tr (hs.mono ?o20)
      case o20 => decide
      have f_11 : h_10.2.1 x 9 = (0 : Int32) := ?o21
      case o21 =>
        rw [eh_10]
        exact hx_pi_at _ _ _ _
      refine lv_aload_n hx hb dX10_act_28 rfl (lv_at hl 0 rfl) ?_
      refine lv_iconst (v := 0) hx hb dX10_act_29 ?o22 ?_
      case o22 => decide
      refine hx_puti hx hb hts hC_10 hown hW hT (hx_S.rf (M := [(10, 13)])) (gx.S hM) tt_10 13 ?o23 rfl kw_1156 ⟨rfl, rfl, rfl⟩ rfl (x := (0 : Int32)) ?o24 rfl rfl rfl (List.mem_singleton.mpr rfl) dX10_act_30 (fun H locs h_12 eh_12 hW hT hs => ?_)
      case o23 => decide
      case o24 => decide
      replace f_x_1 := (hs.o (gx.S hM) trivial rfl).1.trans f_x_1
      replace f_x_7 := (hs.o (gx.S hM) trivial rfl).1.trans f_x_7
      replace f_9 := (hs.o (gx.S hM) trivial rfl).1.trans f_9
      replace f_11 := (hs.o (gx.S hM) trivial rfl).1.trans f_11
      replace af_qs : h_12.2.1 qs = sf := (funext fun j => (hs.a (gqs.S hM) rfl j).1).trans af_qs
      replace af_qo : h_12.2.1 qo = of := (funext fun j => (hs.a (gqo.S hM) rfl j).1).trans af_qo
      replace af_qr : h_12.2.1 qr = rd := (funext fun j => (hs.a (gqr.S hM) rfl j).1).trans af_qr
      replace af_ql : h_12.2.1 ql = rf := (funext fun j => (hs.a (gql.S hM) rfl j).1).trans af_ql
      replace af_qn : h_12.2.1 qn = psf := (funext fun j => (hs.a (gqn.S hM) rfl j).1).trans af_qn
      replace af_qp : h_12.2.1 qp = prf := (funext fun j => (hs.a (gqp.S hM) rfl j).1).trans af_qp
      replace af_qd : h_12.2.1 qd = adf := (funext fun j => (hs.a (gqd.S hM) rfl j).1).trans af_qd
      replace hM := hM.tr (hs.mono ?o25)
      case o25 => decide
      have f_13 : h_12.2.1 x 13 = (0 : Int32) := ?o26
      case o26 =>
        rw [eh_12]
        exact hx_pi_at _ _ _ _
      refine lv_iconst (v := 0) hx hb dX10_act_33 ?o27 ?_
      case o27 => decide
      refine lv_istore_n (lv' := [(2, .int (0 : Int32)), (0, .ref x), (1, .int i1)]) hx hb dX10_act_34 rfl hl ?o28 rfl (fun ls hl => ?_)
      case o28 => decide
      have loop35 : ∀ (n35 : Nat) (iv35_2 : Int32) (ia35_qr : Nat → Int32) (H : Heap) (locs : List Loc) (hL1 : List Nat) (hl1 : hx_h), 0 ≤ iv35_2.toInt → iv35_2.toInt ≤ 13 → (hx_rk1 ia35_qr iv35_2.toInt) → (hv_WI ia35_qr iv35_2.toInt) → ∀ (ls : Array Slot), 13 - iv35_2.toInt < (n35 : Int) → hx_W T_tb (P_ty dA) (dC, dI) vwCl (hx_A L sz) s.heap hL1 hl1 s H locs → hx_T T_tb hL1 hl1 → hx_S T_tb [(10, 1), (10, 7), (10, 8), (10, 9), (10, 10), (10, 11), (10, 13), (10, 14), (10, 16), (10, 18), (49, 0), (50, 0), (51, 0), (52, 0), (54, 0), (55, 0), (56, 0)] L h hL1 hl1 → hl1.2.1 x 1 = a0 → hl1.2.1 x 7 = tp0 → hl1.2.1 x 8 = (0 : Int32) → hl1.2.1 x 9 = (0 : Int32) → hl1.2.1 x 13 = (0 : Int32) → hl1.2.1 qr = ia35_qr → hl1.2.1 ql = rf → hl1.2.1 qn = psf → hl1.2.1 qp = prf → hl1.2.1 qd = adf → lv_has ls 5 [(2, .int iv35_2), (0, .ref x), (1, .int i1)] → W p l e ({ frames := 6, cells := 0, slots := 0, locals := 141 }) s m ([.ref x, .int i1] : List Value).toArray below meth c H locs 0 0 (MQ below (va_Qi (fun (r : Int32) (u : List Nat × hx_h) => (∃ (a1 : Int32) (tp1 : Int32) (rf1 : Nat → Int32) (psf1 : Nat → Int32) (prf1 : Nat → Int32) (adf1 : Nat → Int32), u.2.2.1 x 1 = a1 ∧ u.2.2.1 x 7 = tp1 ∧ u.2.2.1 ql = rf1 ∧ u.2.2.1 qn = psf1 ∧ u.2.2.1 qp = prf1 ∧ u.2.2.1 qd = adf1 ∧ (a0.toInt ≤ a1.toInt ∧ hx_WK rf1 a1.toInt ∧ hx_RP prf1 psf1 a1.toInt ∧ hv_AN (8 ≤ a0.toInt ∨ i1.toInt < 0 ∨ 7999 < i1.toInt) (hv_ACT tf tp0.toInt.toNat hv_W0 hv_o0) r a0.toInt a1.toInt tp0.toInt tp1.toInt ∧ ∃ A1, hv_AU A a0.toInt a1.toInt i1.toInt (hv_ACT tf tp0.toInt.toNat hv_W0 hv_o0) A1 ∧ hv_CA adf1 rf1 psf1 prf1 a1.toInt A1)) ∧ hx_T T_tb u.1 u.2 ∧ hx_S T_tb [(10, 1), (10, 7), (10, 8), (10, 9), (10, 10), (10, 11), (10, 13), (10, 14), (10, 16), (10, 18), (49, 0), (50, 0), (51, 0), (52, 0), (54, 0), (55, 0), (56, 0)] L h u.1 u.2) (hx_E T_tb (P_ty dA) (dC, dI) vwCl (hx_A L sz)) (hx_A L sz)) ([.ref x, .int i1] : List Value).toArray s 0 0 (hx_A L sz)) (F0 m 35 ls []) := by
        intro n35
        induction n35 with
        | zero => intro iv35_2 ia35_qr H locs hL1 hl1 bliv35_2 buiv35_2 vi35_0 vi35_1 ls hn35; exfalso; omega
        | succ n35 ih35 =>
          intro iv35_2 ia35_qr H locs hL1 hl1 bliv35_2 buiv35_2 vi35_0 vi35_1 ls hn35 hW hT hM f_x_1 f_x_7 f_9 f_11 f_13 nia35_qr af_ql af_qn af_qp af_qd hl
          refine lv_iload_n hx hb dX10_act_35 rfl (lv_at hl 0 rfl) ?_
          refine lv_bipush (v := 13) hx hb dX10_act_36 ?o29 ?_
          case o29 => decide
          refine hb_icmp_ge (zx := iv35_2.toInt) (zy := 13) (tgt := 57) hx hb rfl ?o30 dX10_act_38 ?o31 (fun c_14 => ?_) (fun c_14 => ?_)
          case o30 => decide
          case o31 => decide
          · skip
            have hrd0 : hx_rk ia35_qr := hx_rk1_e vi35_0 ?o32
            case o32 => omega
            have hrW0 : hv_rR ia35_qr = hv_W0 := hv_WI_e vi35_1 ?o33
            case o33 => omega
            refine lv_aload_n hx hb dX10_act_57 rfl (lv_at hl 1 rfl) ?_
            refine hx_gov (hx_runV (As := []) (rest := []) ⟨hx, hb, hml, hown, hts⟩ hW (gx.S hM) tt_10 (T := TX10) (N := 98) rfl (t_X10_clears_v l dC dI dA hL1 hl1 H.size x hT (gx.S hM)) (cwV 0 hts (hx_gV kw_1125 kw_1122 kw_1124 kw_48 kw_103) rfl rfl rfl (by decide +kernel) ⟨Nat.le_of_ble_eq_true rfl, Nat.le_of_ble_eq_true rfl⟩) rfl hl.1 rfl (Nat.le_of_ble_eq_true rfl) dX10_act_58 ⟨Nat.le_of_ble_eq_true rfl, Nat.le_of_ble_eq_true rfl⟩) hW (fun L_15 h_16 H locs p_18 hW => ?_)
            obtain ⟨⟨w_20, w_21, w_22, fw_20, fw_21, fw_22, hr_19⟩, hT, hs⟩ := p_18
            replace hT : hx_T T_tb L_15 h_16 := hT
            replace hs : hx_S T_tb [(10, 14), (10, 16), (10, 18)] hL1 hl1 L_15 h_16 := hs
            replace f_x_1 := (hs.o (gx.S hM) trivial rfl).1.trans f_x_1
            replace f_x_7 := (hs.o (gx.S hM) trivial rfl).1.trans f_x_7
            replace f_9 := (hs.o (gx.S hM) trivial rfl).1.trans f_9
            replace f_11 := (hs.o (gx.S hM) trivial rfl).1.trans f_11
            replace f_13 := (hs.o (gx.S hM) trivial rfl).1.trans f_13
            replace af_ql : h_16.2.1 ql = rf := (funext fun j => (hs.a (gql.S hM) rfl j).1).trans af_ql
            replace af_qn : h_16.2.1 qn = psf := (funext fun j => (hs.a (gqn.S hM) rfl j).1).trans af_qn
            replace af_qp : h_16.2.1 qp = prf := (funext fun j => (hs.a (gqp.S hM) rfl j).1).trans af_qp
            replace af_qd : h_16.2.1 qd = adf := (funext fun j => (hs.a (gqd.S hM) rfl j).1).trans af_qd
            replace nia35_qr : h_16.2.1 qr = ia35_qr := (funext fun j => (hs.a (gqr.S hM) rfl j).1).trans nia35_qr
            replace hM := hM.tr (hs.mono ?o34)
            case o34 => decide
            have fw_20 : h_16.2.1 x 14 = w_20 := fw_20
            have bw_20 := hT.gi (gx.S hM) tt_10 (k := 14) rfl
            rw [fw_20] at bw_20
            have bw_20 : 0 ≤ w_20.toInt ∧ w_20.toInt ≤ 128 := bw_20
            have fw_21 : h_16.2.1 x 16 = w_21 := fw_21
            have bw_21 := hT.gi (gx.S hM) tt_10 (k := 16) rfl
            rw [fw_21] at bw_21
            have bw_21 : 0 ≤ w_21.toInt ∧ w_21.toInt ≤ 20 := bw_21
            have fw_22 : h_16.2.1 x 18 = w_22 := fw_22
            have bw_22 := hT.gi (gx.S hM) tt_10 (k := 18) rfl
            rw [fw_22] at bw_22
            have bw_22 : 0 ≤ w_22.toInt ∧ w_22.toInt ≤ 128 := bw_22
            refine lv_aload_n hx hb dX10_act_61 rfl (lv_at hl 1 rfl) ?_
            obtain ⟨fa_23, nfa_23⟩ : ∃ g : Nat → Int32, h_16.2.1 qs = g := ⟨_, rfl⟩
            refine hx_gov (hx_runV (As := []) (rest := []) ⟨hx, hb, hml, hown, hts⟩ hW (gx.S hM) tt_10 (T := TX10) (N := 98) rfl (t_X10_withoutProof_v l dC dI dA L_15 h_16 H.size x hT (gx.S hM) qs (gqs.S hM) ((hM.o gx trivial rfl).2.trans f_x_15) fa_23 nfa_23 w_20 fw_20 ?o35) (cwV 0 hts (hx_gV kw_1129 kw_1126 kw_1128 kw_49 kw_103) rfl rfl rfl (by decide +kernel) ⟨Nat.le_of_ble_eq_true rfl, Nat.le_of_ble_eq_true rfl⟩) rfl hl.1 rfl (Nat.le_of_ble_eq_true rfl) dX10_act_62 ⟨Nat.le_of_ble_eq_true rfl, Nat.le_of_ble_eq_true rfl⟩) hW (fun L_24 h_25 H locs p_27 hW => ?_)
            case o35 => omega
            obtain ⟨⟨w_29, w_30, fw_29, fw_30, hr_28⟩, hT, hs⟩ := p_27
            replace hT : hx_T T_tb L_24 h_25 := hT
            replace hs : hx_S T_tb [(10, 14), (55, 0)] L_15 h_16 L_24 h_25 := hs
            replace f_x_1 := (hs.o (gx.S hM) trivial rfl).1.trans f_x_1
            replace f_x_7 := (hs.o (gx.S hM) trivial rfl).1.trans f_x_7
            replace f_9 := (hs.o (gx.S hM) trivial rfl).1.trans f_9
            replace f_11 := (hs.o (gx.S hM) trivial rfl).1.trans f_11
            replace f_13 := (hs.o (gx.S hM) trivial rfl).1.trans f_13
            replace fw_21 := (hs.o (gx.S hM) trivial rfl).1.trans fw_21
            replace fw_22 := (hs.o (gx.S hM) trivial rfl).1.trans fw_22
            replace af_ql : h_25.2.1 ql = rf := (funext fun j => (hs.a (gql.S hM) rfl j).1).trans af_ql
            replace af_qn : h_25.2.1 qn = psf := (funext fun j => (hs.a (gqn.S hM) rfl j).1).trans af_qn
            replace af_qp : h_25.2.1 qp = prf := (funext fun j => (hs.a (gqp.S hM) rfl j).1).trans af_qp
            replace af_qd : h_25.2.1 qd = adf := (funext fun j => (hs.a (gqd.S hM) rfl j).1).trans af_qd
            replace nia35_qr : h_25.2.1 qr = ia35_qr := (funext fun j => (hs.a (gqr.S hM) rfl j).1).trans nia35_qr
            replace hM := hM.tr (hs.mono ?o36)
            case o36 => decide
            have fw_29 : h_25.2.1 x 14 = w_29 := fw_29
            have bw_29 := hT.gi (gx.S hM) tt_10 (k := 14) rfl
            rw [fw_29] at bw_29
            have bw_29 : 0 ≤ w_29.toInt ∧ w_29.toInt ≤ 128 := bw_29
            have fw_30 : h_25.2.1 qs = w_30 := fw_30
            refine lv_iconst (v := 1) hx hb dX10_act_65 ?o37 ?_
            case o37 => decide
            refine lv_istore_n (lv' := [(2, .int (1 : Int32)), (0, .ref x), (1, .int i1)]) hx hb dX10_act_66 rfl hl ?o38 rfl (fun ls hl => ?_)
            case o38 => decide
            refine lv_aload_n hx hb dX10_act_67 rfl (lv_at hl 1 rfl) ?_
            have zq_0 : (0 : Int32).toInt = 0 := ?o39
            case o39 => decide
            refine hx_goi (hx_runV (As := []) (rest := []) ⟨hx, hb, hml, hown, hts⟩ hW (gx.S hM) tt_10 (T := TX10) (N := 98) rfl (t_X10_see_v l dC dI dA L_24 h_25 H.size x hT (gx.S hM) qt (gqt.S hM) ((hM.o gx trivial rfl).2.trans f_x_6) tf (hx_afS hM gqt rfl af_qt) (0 : Int32) f_9 tp0 f_x_7 ?o40) (cwV 0 hts (hx_gV kw_1468 kw_1465 kw_1467 kw_53 kw_103) rfl rfl rfl (by decide +kernel) ⟨Nat.le_of_ble_eq_true rfl, Nat.le_of_ble_eq_true rfl⟩) rfl hl.1 rfl (Nat.le_of_ble_eq_true rfl) dX10_act_68 ⟨Nat.le_of_ble_eq_true rfl, Nat.le_of_ble_eq_true rfl⟩) hW (fun r_33 L_31 h_32 H locs p_34 hW => ?_)
            case o40 => omega
            obtain ⟨⟨w_36, fw_36, hr_35⟩, hT, hs⟩ := p_34
            replace hT : hx_T T_tb L_31 h_32 := hT
            replace hs : hx_S T_tb [(10, 8)] L_24 h_25 L_31 h_32 := hs
            replace f_x_1 := (hs.o (gx.S hM) trivial rfl).1.trans f_x_1
            replace f_x_7 := (hs.o (gx.S hM) trivial rfl).1.trans f_x_7
            replace f_11 := (hs.o (gx.S hM) trivial rfl).1.trans f_11
            replace f_13 := (hs.o (gx.S hM) trivial rfl).1.trans f_13
            replace fw_21 := (hs.o (gx.S hM) trivial rfl).1.trans fw_21
            replace fw_22 := (hs.o (gx.S hM) trivial rfl).1.trans fw_22
            replace fw_29 := (hs.o (gx.S hM) trivial rfl).1.trans fw_29
            replace af_ql : h_32.2.1 ql = rf := (funext fun j => (hs.a (gql.S hM) rfl j).1).trans af_ql
            replace af_qn : h_32.2.1 qn = psf := (funext fun j => (hs.a (gqn.S hM) rfl j).1).trans af_qn
            replace af_qp : h_32.2.1 qp = prf := (funext fun j => (hs.a (gqp.S hM) rfl j).1).trans af_qp
            replace af_qd : h_32.2.1 qd = adf := (funext fun j => (hs.a (gqd.S hM) rfl j).1).trans af_qd
            replace nia35_qr : h_32.2.1 qr = ia35_qr := (funext fun j => (hs.a (gqr.S hM) rfl j).1).trans nia35_qr
            replace fw_30 : h_32.2.1 qs = w_30 := (funext fun j => (hs.a (gqs.S hM) rfl j).1).trans fw_30
            replace hM := hM.tr (hs.mono ?o41)
            case o41 => decide
            have fw_36 : h_32.2.1 x 8 = w_36 := fw_36
            have bw_36 := hT.gi (gx.S hM) tt_10 (k := 8) rfl
            rw [fw_36] at bw_36
            have bw_36 : 0 ≤ w_36.toInt ∧ w_36.toInt ≤ 402 := bw_36
            have ek_37 : w_36.toInt.toNat = hv_sk tf tp0.toInt.toNat (0 : Int32).toInt.toNat := ?o42
            case o42 => omega
            have hr_35S := hr_35.2.2.2.1
            refine lv_iconst (v := -1) hx hb dX10_act_71 ?o43 ?_
            case o43 => decide
            refine hb_icmp_eq (zx := r_33.toInt) (zy := (-1)) (tgt := 79) hx hb rfl ?o44 dX10_act_72 ?o45 (fun c_38 => ?_) (fun c_38 => ?_)
            case o44 => decide
            case o45 => decide
            · skip
              refine lv_iconst (v := 0) hx hb dX10_act_79 ?o46 ?_
              case o46 => decide
              refine lv_istore_n (lv' := [(3, .int (0 : Int32)), (2, .int (1 : Int32)), (0, .ref x), (1, .int i1)]) hx hb dX10_act_80 rfl hl ?o47 rfl (fun ls hl => ?_)
              case o47 => decide
              have loop81 : ∀ (n81 : Nat) (iv81_2 iv81_3 fw81_x_8 fw81_x_14 fw81_x_9 fw81_x_13 : Int32) (ia81_qs ia81_qr : Nat → Int32) (H : Heap) (locs : List Loc) (hL1 : List Nat) (hl1 : hx_h), 0 ≤ iv81_2.toInt → iv81_2.toInt ≤ 1 → 0 ≤ iv81_3.toInt → iv81_3.toInt ≤ 1 → 0 ≤ fw81_x_8.toInt → fw81_x_8.toInt ≤ 402 → 0 ≤ fw81_x_14.toInt → fw81_x_14.toInt ≤ 128 → -2147483648 ≤ fw81_x_9.toInt → fw81_x_9.toInt ≤ 2147483647 → -2147483648 ≤ fw81_x_13.toInt → fw81_x_13.toInt ≤ 2147483647 → (iv81_2.toInt = 1 → hx_rp ia81_qs (fw81_x_14.toInt).toNat = some 1 ∧ hx_rk ia81_qr) → (hv_MI tf tp0.toInt.toNat (hv_ACT tf tp0.toInt.toNat hv_W0 hv_o0) iv81_2.toInt iv81_3.toInt (fw81_x_9.toInt) (fw81_x_8.toInt) (hv_sR fw81_x_13) (hv_rR ia81_qr) (hv_ls ia81_qs (fw81_x_14.toInt).toNat)) → ∀ (ls : Array Slot), 402 - fw81_x_8.toInt + iv81_3.toInt < (n81 : Int) → hx_W T_tb (P_ty dA) (dC, dI) vwCl (hx_A L sz) s.heap hL1 hl1 s H locs → hx_T T_tb hL1 hl1 → hx_S T_tb [(10, 1), (10, 7), (10, 8), (10, 9), (10, 10), (10, 11), (10, 13), (10, 14), (10, 16), (10, 18), (49, 0), (50, 0), (51, 0), (52, 0), (54, 0), (55, 0), (56, 0)] L h hL1 hl1 → hl1.2.1 x 8 = fw81_x_8 → hl1.2.1 x 14 = fw81_x_14 → hl1.2.1 x 9 = fw81_x_9 → hl1.2.1 x 13 = fw81_x_13 → hl1.2.1 x 1 = a0 → hl1.2.1 x 7 = tp0 → hl1.2.1 qs = ia81_qs → hl1.2.1 qr = ia81_qr → hl1.2.1 ql = rf → hl1.2.1 qn = psf → hl1.2.1 qp = prf → hl1.2.1 qd = adf → lv_has ls 5 [(3, .int iv81_3), (2, .int iv81_2), (0, .ref x), (1, .int i1)] → W p l e ({ frames := 6, cells := 0, slots := 0, locals := 141 }) s m ([.ref x, .int i1] : List Value).toArray below meth c H locs 0 0 (MQ below (va_Qi (fun (r : Int32) (u : List Nat × hx_h) => (∃ (a1 : Int32) (tp1 : Int32) (rf1 : Nat → Int32) (psf1 : Nat → Int32) (prf1 : Nat → Int32) (adf1 : Nat → Int32), u.2.2.1 x 1 = a1 ∧ u.2.2.1 x 7 = tp1 ∧ u.2.2.1 ql = rf1 ∧ u.2.2.1 qn = psf1 ∧ u.2.2.1 qp = prf1 ∧ u.2.2.1 qd = adf1 ∧ (a0.toInt ≤ a1.toInt ∧ hx_WK rf1 a1.toInt ∧ hx_RP prf1 psf1 a1.toInt ∧ hv_AN (8 ≤ a0.toInt ∨ i1.toInt < 0 ∨ 7999 < i1.toInt) (hv_ACT tf tp0.toInt.toNat hv_W0 hv_o0) r a0.toInt a1.toInt tp0.toInt tp1.toInt ∧ ∃ A1, hv_AU A a0.toInt a1.toInt i1.toInt (hv_ACT tf tp0.toInt.toNat hv_W0 hv_o0) A1 ∧ hv_CA adf1 rf1 psf1 prf1 a1.toInt A1)) ∧ hx_T T_tb u.1 u.2 ∧ hx_S T_tb [(10, 1), (10, 7), (10, 8), (10, 9), (10, 10), (10, 11), (10, 13), (10, 14), (10, 16), (10, 18), (49, 0), (50, 0), (51, 0), (52, 0), (54, 0), (55, 0), (56, 0)] L h u.1 u.2) (hx_E T_tb (P_ty dA) (dC, dI) vwCl (hx_A L sz)) (hx_A L sz)) ([.ref x, .int i1] : List Value).toArray s 0 0 (hx_A L sz)) (F0 m 81 ls []) := by
                intro n81
                induction n81 with
                | zero => intro iv81_2 iv81_3 fw81_x_8 fw81_x_14 fw81_x_9 fw81_x_13 ia81_qs ia81_qr H locs hL1 hl1 bliv81_2 buiv81_2 bliv81_3 buiv81_3 blfw81_x_8 bufw81_x_8 blfw81_x_14 bufw81_x_14 blfw81_x_9 bufw81_x_9 blfw81_x_13 bufw81_x_13 vi81_0 vi81_1 ls hn81; exfalso; omega
                | succ n81 ih81 =>
                  intro iv81_2 iv81_3 fw81_x_8 fw81_x_14 fw81_x_9 fw81_x_13 ia81_qs ia81_qr H locs hL1 hl1 bliv81_2 buiv81_2 bliv81_3 buiv81_3 blfw81_x_8 bufw81_x_8 blfw81_x_14 bufw81_x_14 blfw81_x_9 bufw81_x_9 blfw81_x_13 bufw81_x_13 vi81_0 vi81_1 ls hn81 hW hT hM ffw81_x_8 ffw81_x_14 ffw81_x_9 ffw81_x_13 f_x_1 f_x_7 nia81_qs nia81_qr af_ql af_qn af_qp af_qd hl
                  refine lv_iload_n hx hb dX10_act_81 rfl (lv_at hl 1 rfl) ?_
                  refine hb_if_eq (zx := iv81_2.toInt) (tgt := 178) hx hb rfl dX10_act_82 ?o48 (fun c_39 => ?_) (fun c_39 => ?_)
                  case o48 => decide
                  · skip
                    refine lv_aload_n hx hb dX10_act_178 rfl (lv_at hl 2 rfl) ?_
                    refine lv_iconst (v := 0) hx hb dX10_act_179 ?o49 ?_
                    case o49 => decide
                    refine hx_puti hx hb hts hC_10 hown hW hT (hx_S.rf (M := [(10, 7)])) (gx.S hM) tt_10 7 ?o50 rfl kw_1150 ⟨rfl, rfl, rfl⟩ rfl (x := (0 : Int32)) ?o51 rfl rfl rfl (List.mem_singleton.mpr rfl) dX10_act_180 (fun H locs h_40 eh_40 hW hT hs => ?_)
                    case o50 => decide
                    case o51 => decide
                    replace f_x_1 := (hs.o (gx.S hM) trivial rfl).1.trans f_x_1
                    replace ffw81_x_8 := (hs.o (gx.S hM) trivial rfl).1.trans ffw81_x_8
                    replace ffw81_x_14 := (hs.o (gx.S hM) trivial rfl).1.trans ffw81_x_14
                    replace ffw81_x_9 := (hs.o (gx.S hM) trivial rfl).1.trans ffw81_x_9
                    replace ffw81_x_13 := (hs.o (gx.S hM) trivial rfl).1.trans ffw81_x_13
                    replace af_ql : h_40.2.1 ql = rf := (funext fun j => (hs.a (gql.S hM) rfl j).1).trans af_ql
                    replace af_qn : h_40.2.1 qn = psf := (funext fun j => (hs.a (gqn.S hM) rfl j).1).trans af_qn
                    replace af_qp : h_40.2.1 qp = prf := (funext fun j => (hs.a (gqp.S hM) rfl j).1).trans af_qp
                    replace af_qd : h_40.2.1 qd = adf := (funext fun j => (hs.a (gqd.S hM) rfl j).1).trans af_qd
                    replace nia81_qs : h_40.2.1 qs = ia81_qs := (funext fun j => (hs.a (gqs.S hM) rfl j).1).trans nia81_qs
                    replace nia81_qr : h_40.2.1 qr = ia81_qr := (funext fun j => (hs.a (gqr.S hM) rfl j).1).trans nia81_qr
                    replace hM := hM.tr (hs.mono ?o52)
                    case o52 => decide
                    have f_41 : h_40.2.1 x 7 = (0 : Int32) := ?o53
                    case o53 =>
                      rw [eh_40]
                      exact hx_pi_at _ _ _ _
                    refine lv_iload_n hx hb dX10_act_183 rfl (lv_at hl 1 rfl) ?_
                    refine hb_if_ne (zx := iv81_2.toInt) (tgt := 195) hx hb rfl dX10_act_184 ?o54 (fun c_42 => ?o55) (fun c_42 => ?_)
                    case o54 => decide
                    case o55 =>
                      exfalso
                      omega
                    have hm0 := hv_MI_0 vi81_1 ?o56
                    case o56 => omega
                    refine lv_bipush (v := -2) hx hb dX10_act_187 ?o57 ?_
                    case o57 => decide
                    refine lv_aload_n hx hb dX10_act_189 rfl (lv_at hl 2 rfl) ?_
                    refine hk_geti hx hb hts hC_10 hown hW (gx.S hM) tt_10 9 ?o58 rfl kw_1152 ⟨rfl, rfl, rfl⟩ ffw81_x_9 dX10_act_190 ?_
                    case o58 => decide
                    refine lv_isub hx hb dX10_act_193 ?_
                    have rg_43 := i32_r fw81_x_9
                    refine lv_topi (fun x_44 ex_44 => ?_)
                    have zo_0 : (0 : Int32).toInt = 0 := ?o59
                    case o59 => decide
                    refine hx_reti hx hb hr hlk hW ⟨⟨a0, (0 : Int32), rf, psf, prf, adf, f_x_1, f_41, af_ql, af_qn, af_qp, af_qd, ⟨?o60, hWK, hRP, Or.inr (Or.inl ⟨?o61, ?o62, ?o63, _, hm0.1, hm0.2, ex_44⟩), A, Or.inl ⟨?o64, rfl⟩, hCA⟩⟩, hT, hM⟩ dX10_act_194
                    case o60 => omega
                    case o61 => omega
                    case o62 => decide
                    case o63 => omega
                    case o64 => omega
                  · skip
                    refine lv_iload_n hx hb dX10_act_85 rfl (lv_at hl 0 rfl) ?_
                    refine hb_if_eq (zx := iv81_3.toInt) (tgt := 178) hx hb rfl dX10_act_86 ?o65 (fun c_45 => ?_) (fun c_45 => ?_)
                    case o65 => decide
                    · skip
                      refine lv_aload_n hx hb dX10_act_178 rfl (lv_at hl 2 rfl) ?_
                      refine lv_iconst (v := 0) hx hb dX10_act_179 ?o66 ?_
                      case o66 => decide
                      refine hx_puti hx hb hts hC_10 hown hW hT (hx_S.rf (M := [(10, 7)])) (gx.S hM) tt_10 7 ?o67 rfl kw_1150 ⟨rfl, rfl, rfl⟩ rfl (x := (0 : Int32)) ?o68 rfl rfl rfl (List.mem_singleton.mpr rfl) dX10_act_180 (fun H locs h_46 eh_46 hW hT hs => ?_)
                      case o67 => decide
                      case o68 => decide
                      replace f_x_1 := (hs.o (gx.S hM) trivial rfl).1.trans f_x_1
                      replace ffw81_x_8 := (hs.o (gx.S hM) trivial rfl).1.trans ffw81_x_8
                      replace ffw81_x_14 := (hs.o (gx.S hM) trivial rfl).1.trans ffw81_x_14
                      replace ffw81_x_9 := (hs.o (gx.S hM) trivial rfl).1.trans ffw81_x_9
                      replace ffw81_x_13 := (hs.o (gx.S hM) trivial rfl).1.trans ffw81_x_13
                      replace af_ql : h_46.2.1 ql = rf := (funext fun j => (hs.a (gql.S hM) rfl j).1).trans af_ql
                      replace af_qn : h_46.2.1 qn = psf := (funext fun j => (hs.a (gqn.S hM) rfl j).1).trans af_qn
                      replace af_qp : h_46.2.1 qp = prf := (funext fun j => (hs.a (gqp.S hM) rfl j).1).trans af_qp
                      replace af_qd : h_46.2.1 qd = adf := (funext fun j => (hs.a (gqd.S hM) rfl j).1).trans af_qd
                      replace nia81_qs : h_46.2.1 qs = ia81_qs := (funext fun j => (hs.a (gqs.S hM) rfl j).1).trans nia81_qs
                      replace nia81_qr : h_46.2.1 qr = ia81_qr := (funext fun j => (hs.a (gqr.S hM) rfl j).1).trans nia81_qr
                      replace hM := hM.tr (hs.mono ?o69)
                      case o69 => decide
                      have f_47 : h_46.2.1 x 7 = (0 : Int32) := ?o70
                      case o70 =>
                        rw [eh_46]
                        exact hx_pi_at _ _ _ _
                      refine lv_iload_n hx hb dX10_act_183 rfl (lv_at hl 1 rfl) ?_
                      refine hb_if_ne (zx := iv81_2.toInt) (tgt := 195) hx hb rfl dX10_act_184 ?o71 (fun c_48 => ?_) (fun c_48 => ?o72)
                      case o71 => decide
                      case o72 =>
                        exfalso
                        omega
                      have hrpE := (vi81_0 ?o73).1
                      case o73 => omega
                      have hrdE := (vi81_0 ?o74).2
                      case o74 => omega
                      obtain ⟨xm, snm, om, hmO, hmE⟩ := hv_MI_2 vi81_1 (by omega) (by omega)
                      refine lv_aload_n hx hb dX10_act_195 rfl (lv_at hl 2 rfl) ?_
                      refine lv_dup hx hb dX10_act_196 rfl ?_
                      refine hk_geti hx hb hts hC_10 hown hW (gx.S hM) tt_10 1 ?o75 rfl kw_1144 ⟨rfl, rfl, rfl⟩ f_x_1 dX10_act_197 ?_
                      case o75 => decide
                      refine lv_iconst (v := 1) hx hb dX10_act_200 ?o76 ?_
                      case o76 => decide
                      refine lv_iadd hx hb dX10_act_201 ?_
                      have rg_49 := i32_r a0
                      refine lv_topi (fun x_50 ex_50 => ?_)
                      have zx_50 : x_50.toInt = a0.toInt + 1 := ?o77
                      case o77 =>
                        rw [ex_50]
                        refine i32_add rfl ?o78 ?o79 ?o80
                        case o78 => decide
                        case o79 => omega
                        case o80 => omega
                      refine hx_puti hx hb hts hC_10 hown hW hT (hx_S.rf (M := [(10, 1)])) (gx.S hM) tt_10 1 ?o81 rfl kw_1144 ⟨rfl, rfl, rfl⟩ rfl (x := x_50) ⟨?o82, ?o83⟩ rfl rfl rfl (List.mem_singleton.mpr rfl) dX10_act_202 (fun H locs h_51 eh_51 hW hT hs => ?_)
                      case o81 => decide
                      case o82 => omega
                      case o83 => omega
                      replace ffw81_x_8 := (hs.o (gx.S hM) trivial rfl).1.trans ffw81_x_8
                      replace ffw81_x_14 := (hs.o (gx.S hM) trivial rfl).1.trans ffw81_x_14
                      replace ffw81_x_9 := (hs.o (gx.S hM) trivial rfl).1.trans ffw81_x_9
                      replace ffw81_x_13 := (hs.o (gx.S hM) trivial rfl).1.trans ffw81_x_13
                      replace f_47 := (hs.o (gx.S hM) trivial rfl).1.trans f_47
                      replace af_ql : h_51.2.1 ql = rf := (funext fun j => (hs.a (gql.S hM) rfl j).1).trans af_ql
                      replace af_qn : h_51.2.1 qn = psf := (funext fun j => (hs.a (gqn.S hM) rfl j).1).trans af_qn
                      replace af_qp : h_51.2.1 qp = prf := (funext fun j => (hs.a (gqp.S hM) rfl j).1).trans af_qp
                      replace af_qd : h_51.2.1 qd = adf := (funext fun j => (hs.a (gqd.S hM) rfl j).1).trans af_qd
                      replace nia81_qs : h_51.2.1 qs = ia81_qs := (funext fun j => (hs.a (gqs.S hM) rfl j).1).trans nia81_qs
                      replace nia81_qr : h_51.2.1 qr = ia81_qr := (funext fun j => (hs.a (gqr.S hM) rfl j).1).trans nia81_qr
                      replace hM := hM.tr (hs.mono ?o84)
                      case o84 => decide
                      have f_52 : h_51.2.1 x 1 = x_50 := ?o85
                      case o85 =>
                        rw [eh_51]
                        exact hx_pi_at _ _ _ _
                      refine lv_aload_n hx hb dX10_act_205 rfl (lv_at hl 2 rfl) ?_
                      refine hk_getr hx hb hts hC_10 hown hW (gx.S hM) tt_10 2 ?o86 rfl kw_1145 ⟨rfl, rfl, rfl⟩ ((hM.o gx trivial rfl).2.trans f_x_2) dX10_act_206 ?_
                      case o86 => decide
                      refine lv_aload_n hx hb dX10_act_209 rfl (lv_at hl 2 rfl) ?_
                      refine hk_geti hx hb hts hC_10 hown hW (gx.S hM) tt_10 1 ?o87 rfl kw_1144 ⟨rfl, rfl, rfl⟩ f_52 dX10_act_210 ?_
                      case o87 => decide
                      refine lv_iload_n hx hb dX10_act_213 rfl (lv_at hl 3 rfl) ?_
                      have af_qdO := af_qd
                      refine hx_iast hx hb hW hT (hx_S.rf (M := [(49, 0)])) (gqd.S hM) tt_49 rfl ⟨?o88, ?o89⟩ rfl (i32_r _) (List.mem_singleton.mpr rfl) dX10_act_214 (fun H locs h_53 eh_53 hW hT hs => ?_)
                      case o88 => omega
                      case o89 => omega
                      replace ffw81_x_8 := (hs.o (gx.S hM) trivial rfl).1.trans ffw81_x_8
                      replace ffw81_x_14 := (hs.o (gx.S hM) trivial rfl).1.trans ffw81_x_14
                      replace ffw81_x_9 := (hs.o (gx.S hM) trivial rfl).1.trans ffw81_x_9
                      replace ffw81_x_13 := (hs.o (gx.S hM) trivial rfl).1.trans ffw81_x_13
                      replace f_47 := (hs.o (gx.S hM) trivial rfl).1.trans f_47
                      replace f_52 := (hs.o (gx.S hM) trivial rfl).1.trans f_52
                      replace af_ql : h_53.2.1 ql = rf := (funext fun j => (hs.a (gql.S hM) rfl j).1).trans af_ql
                      replace af_qn : h_53.2.1 qn = psf := (funext fun j => (hs.a (gqn.S hM) rfl j).1).trans af_qn
                      replace af_qp : h_53.2.1 qp = prf := (funext fun j => (hs.a (gqp.S hM) rfl j).1).trans af_qp
                      replace nia81_qs : h_53.2.1 qs = ia81_qs := (funext fun j => (hs.a (gqs.S hM) rfl j).1).trans nia81_qs
                      replace nia81_qr : h_53.2.1 qr = ia81_qr := (funext fun j => (hs.a (gqr.S hM) rfl j).1).trans nia81_qr
                      replace hM := hM.tr (hs.mono ?o90)
                      case o90 => decide
                      obtain ⟨fa_54, dfa_54⟩ : ∃ g : Nat → Int32, g = hx_up adf x_50.toNatClampNeg i1 := ⟨_, rfl⟩
                      have nfa_54 : h_53.2.1 qd = fa_54 := ?o91
                      case o91 =>
                        rw [eh_53, dfa_54, ← af_qdO]
                        exact hx_pi_fun _ _ _ _
                      refine lv_iconst (v := 0) hx hb dX10_act_215 ?o92 ?_
                      case o92 => decide
                      refine lv_istore (lv' := [(4, .int (0 : Int32)), (3, .int iv81_3), (2, .int iv81_2), (0, .ref x), (1, .int i1)]) hx hb dX10_act_216 hl ?o93 rfl (fun ls hl => ?_)
                      case o93 => decide
                      have loop218 : ∀ (n218 : Nat) (iv218_4 : Int32) (ia218_ql : Nat → Int32) (H : Heap) (locs : List Loc) (hL1 : List Nat) (hl1 : hx_h), 0 ≤ iv218_4.toInt → iv218_4.toInt ≤ 13 → (hx_wk1 ia218_ql x_50.toInt iv218_4.toInt) → (hv_RL rf ia218_ql ia81_qr (x_50.toInt) iv218_4.toInt) → ∀ (ls : Array Slot), 13 - iv218_4.toInt < (n218 : Int) → hx_W T_tb (P_ty dA) (dC, dI) vwCl (hx_A L sz) s.heap hL1 hl1 s H locs → hx_T T_tb hL1 hl1 → hx_S T_tb [(10, 1), (10, 7), (10, 8), (10, 9), (10, 10), (10, 11), (10, 13), (10, 14), (10, 16), (10, 18), (49, 0), (50, 0), (51, 0), (52, 0), (54, 0), (55, 0), (56, 0)] L h hL1 hl1 → hl1.2.1 x 14 = fw81_x_14 → hl1.2.1 x 7 = (0 : Int32) → hl1.2.1 x 1 = x_50 → hl1.2.1 ql = ia218_ql → hl1.2.1 qn = psf → hl1.2.1 qp = prf → hl1.2.1 qs = ia81_qs → hl1.2.1 qr = ia81_qr → hl1.2.1 qd = fa_54 → lv_has ls 5 [(4, .int iv218_4), (3, .int iv81_3), (2, .int iv81_2), (0, .ref x), (1, .int i1)] → W p l e ({ frames := 6, cells := 0, slots := 0, locals := 141 }) s m ([.ref x, .int i1] : List Value).toArray below meth c H locs 0 0 (MQ below (va_Qi (fun (r : Int32) (u : List Nat × hx_h) => (∃ (a1 : Int32) (tp1 : Int32) (rf1 : Nat → Int32) (psf1 : Nat → Int32) (prf1 : Nat → Int32) (adf1 : Nat → Int32), u.2.2.1 x 1 = a1 ∧ u.2.2.1 x 7 = tp1 ∧ u.2.2.1 ql = rf1 ∧ u.2.2.1 qn = psf1 ∧ u.2.2.1 qp = prf1 ∧ u.2.2.1 qd = adf1 ∧ (a0.toInt ≤ a1.toInt ∧ hx_WK rf1 a1.toInt ∧ hx_RP prf1 psf1 a1.toInt ∧ hv_AN (8 ≤ a0.toInt ∨ i1.toInt < 0 ∨ 7999 < i1.toInt) (hv_ACT tf tp0.toInt.toNat hv_W0 hv_o0) r a0.toInt a1.toInt tp0.toInt tp1.toInt ∧ ∃ A1, hv_AU A a0.toInt a1.toInt i1.toInt (hv_ACT tf tp0.toInt.toNat hv_W0 hv_o0) A1 ∧ hv_CA adf1 rf1 psf1 prf1 a1.toInt A1)) ∧ hx_T T_tb u.1 u.2 ∧ hx_S T_tb [(10, 1), (10, 7), (10, 8), (10, 9), (10, 10), (10, 11), (10, 13), (10, 14), (10, 16), (10, 18), (49, 0), (50, 0), (51, 0), (52, 0), (54, 0), (55, 0), (56, 0)] L h u.1 u.2) (hx_E T_tb (P_ty dA) (dC, dI) vwCl (hx_A L sz)) (hx_A L sz)) ([.ref x, .int i1] : List Value).toArray s 0 0 (hx_A L sz)) (F0 m 218 ls []) := by
                        intro n218
                        induction n218 with
                        | zero => intro iv218_4 ia218_ql H locs hL1 hl1 bliv218_4 buiv218_4 vi218_0 vi218_1 ls hn218; exfalso; omega
                        | succ n218 ih218 =>
                          intro iv218_4 ia218_ql H locs hL1 hl1 bliv218_4 buiv218_4 vi218_0 vi218_1 ls hn218 hW hT hM ffw81_x_14 f_47 f_52 nia218_ql af_qn af_qp nia81_qs nia81_qr nfa_54 hl
                          refine lv_iload hx hb dX10_act_218 (lv_at hl 0 rfl) ?_
                          refine lv_bipush (v := 13) hx hb dX10_act_220 ?o94 ?_
                          case o94 => decide
                          refine hb_icmp_ge (zx := iv218_4.toInt) (zy := 13) (tgt := 253) hx hb rfl ?o95 dX10_act_222 ?o96 (fun c_55 => ?_) (fun c_55 => ?_)
                          case o95 => decide
                          case o96 => decide
                          · skip
                            refine lv_aload_n hx hb dX10_act_253 rfl (lv_at hl 3 rfl) ?_
                            refine lv_aload_n hx hb dX10_act_254 rfl (lv_at hl 3 rfl) ?_
                            refine hk_geti hx hb hts hC_10 hown hW (gx.S hM) tt_10 1 ?o97 rfl kw_1144 ⟨rfl, rfl, rfl⟩ f_52 dX10_act_255 ?_
                            case o97 => decide
                            refine hx_gov (hx_runV (As := [.int x_50]) (rest := []) ⟨hx, hb, hml, hown, hts⟩ hW (gx.S hM) tt_10 (T := TX10) (N := 98) rfl (t_X10_keepsProof l dC dI dA hL1 hl1 H.size x x_50 hT (gx.S hM) qs (gqs.S hM) ((hM.o gx trivial rfl).2.trans f_x_15) qn (gqn.S hM) ((hM.o gx trivial rfl).2.trans f_x_4) qp (gqp.S hM) ((hM.o gx trivial rfl).2.trans f_x_5) ia81_qs nia81_qs psf af_qn prf af_qp fw81_x_14 ffw81_x_14 ⟨?o98, ?o99⟩) (cwV 1 hts (hx_gV kw_1142 kw_1139 kw_1141 kw_51 kw_103) rfl rfl rfl (by decide +kernel) ⟨Nat.le_of_ble_eq_true rfl, Nat.le_of_ble_eq_true rfl⟩) rfl hl.1 rfl (Nat.le_of_ble_eq_true rfl) dX10_act_258 ⟨Nat.le_of_ble_eq_true rfl, Nat.le_of_ble_eq_true rfl⟩) hW (fun L_56 h_57 H locs p_59 hW => ?_)
                            case o98 => omega
                            case o99 => omega
                            obtain ⟨⟨w_61, w_62, fw_61, fw_62, hr_60⟩, hT, hs⟩ := p_59
                            replace hT : hx_T T_tb L_56 h_57 := hT
                            replace hs : hx_S T_tb [(51, 0), (52, 0)] hL1 hl1 L_56 h_57 := hs
                            replace ffw81_x_14 := (hs.o (gx.S hM) trivial rfl).1.trans ffw81_x_14
                            replace f_47 := (hs.o (gx.S hM) trivial rfl).1.trans f_47
                            replace f_52 := (hs.o (gx.S hM) trivial rfl).1.trans f_52
                            replace nia81_qs : h_57.2.1 qs = ia81_qs := (funext fun j => (hs.a (gqs.S hM) rfl j).1).trans nia81_qs
                            replace nia81_qr : h_57.2.1 qr = ia81_qr := (funext fun j => (hs.a (gqr.S hM) rfl j).1).trans nia81_qr
                            replace nfa_54 : h_57.2.1 qd = fa_54 := (funext fun j => (hs.a (gqd.S hM) rfl j).1).trans nfa_54
                            replace nia218_ql : h_57.2.1 ql = ia218_ql := (funext fun j => (hs.a (gql.S hM) rfl j).1).trans nia218_ql
                            replace hM := hM.tr (hs.mono ?o100)
                            case o100 => decide
                            have fw_61 : h_57.2.1 qn = w_61 := fw_61
                            have fw_62 : h_57.2.1 qp = w_62 := fw_62
                            refine lv_aload_n hx hb dX10_act_261 rfl (lv_at hl 3 rfl) ?_
                            refine hk_geti hx hb hts hC_10 hown hW (gx.S hM) tt_10 1 ?o101 rfl kw_1144 ⟨rfl, rfl, rfl⟩ f_52 dX10_act_262 ?_
                            case o101 => decide
                            refine lv_iconst (v := 1) hx hb dX10_act_265 ?o102 ?_
                            case o102 => decide
                            refine lv_isub hx hb dX10_act_266 ?_
                            have rg_63 := i32_r x_50
                            refine lv_topi (fun x_64 ex_64 => ?_)
                            have zx_64 : x_64.toInt = x_50.toInt - 1 := ?o103
                            case o103 =>
                              rw [ex_64]
                              refine i32_sub rfl ?o104 ?o105 ?o106
                              case o104 => decide
                              case o105 => omega
                              case o106 => omega
                            have zo_0 : (0 : Int32).toInt = 0 := ?o107
                            case o107 => decide
                            refine hx_reti hx hb hr hlk hW ⟨⟨x_50, (0 : Int32), ia218_ql, w_61, w_62, fa_54, f_52, f_47, nia218_ql, fw_61, fw_62, nfa_54, ⟨?o108, hx_wk1_e vi218_0 ?o109, hx_RP_new hRP rfl ?o110 ?o111 ?o112 ?o113 hrpE hr_60.1 hr_60.2, Or.inr (Or.inr ⟨?o114, ?o115, ?o116, ⟨_, hmE⟩, ?o117⟩), (fun k => if k = a0.toInt.toNat + 1 then (i1.toInt, hv_rR ia81_qr, om) else A k), Or.inr ⟨?o118, _, _, _, _, hmE, rfl⟩, (by have h9 := hv_CA_p (a := (i1.toInt, hv_rR ia81_qr, om)) (m := x_50.toInt) hCA (by omega) (by omega) rfl dfa_54 rfl (by omega) (by have h8 := vi218_1; rw [show iv218_4.toInt = 13 by omega] at h8; exact h8) rfl hr_60.1 hr_60.2 (by omega) hmO; exact h9)⟩⟩, hT, hM⟩ dX10_act_267
                            case o108 => omega
                            case o109 => omega
                            case o110 => omega
                            case o111 => omega
                            case o112 => omega
                            case o113 => omega
                            case o114 => omega
                            case o115 => decide
                            case o116 => omega
                            case o117 => omega
                            case o118 => omega
                          · skip
                            refine lv_aload_n hx hb dX10_act_225 rfl (lv_at hl 3 rfl) ?_
                            refine hk_getr hx hb hts hC_10 hown hW (gx.S hM) tt_10 3 ?o119 rfl kw_1146 ⟨rfl, rfl, rfl⟩ ((hM.o gx trivial rfl).2.trans f_x_3) dX10_act_226 ?_
                            case o119 => decide
                            refine lv_bipush (v := 13) hx hb dX10_act_229 ?o120 ?_
                            case o120 => decide
                            refine lv_aload_n hx hb dX10_act_231 rfl (lv_at hl 3 rfl) ?_
                            refine hk_geti hx hb hts hC_10 hown hW (gx.S hM) tt_10 1 ?o121 rfl kw_1144 ⟨rfl, rfl, rfl⟩ f_52 dX10_act_232 ?_
                            case o121 => decide
                            refine lv_imul hx hb dX10_act_235 ?_
                            refine lv_topi (fun x_65 ex_65 => ?_)
                            have zx_65 : x_65.toInt = 13 * x_50.toInt := ?o122
                            case o122 =>
                              rw [ex_65]
                              refine i32_mul ?o123 rfl rfl ?o124 ?o125
                              case o123 => decide
                              case o124 => omega
                              case o125 => omega
                            refine lv_iload hx hb dX10_act_236 (lv_at hl 0 rfl) ?_
                            refine lv_iadd hx hb dX10_act_238 ?_
                            have rg_66 := i32_r x_65
                            have rg_67 := i32_r iv218_4
                            refine lv_topi (fun x_68 ex_68 => ?_)
                            have zx_68 : x_68.toInt = x_65.toInt + iv218_4.toInt := ?o126
                            case o126 =>
                              rw [ex_68]
                              refine i32_add rfl rfl ?o127 ?o128
                              case o127 => omega
                              case o128 => omega
                            refine lv_aload_n hx hb dX10_act_239 rfl (lv_at hl 3 rfl) ?_
                            refine hk_getr hx hb hts hC_10 hown hW (gx.S hM) tt_10 12 ?o129 rfl kw_1155 ⟨rfl, rfl, rfl⟩ ((hM.o gx trivial rfl).2.trans f_x_12) dX10_act_240 ?_
                            case o129 => decide
                            refine lv_iload hx hb dX10_act_243 (lv_at hl 0 rfl) ?_
                            refine hx_iald hx hb hW hT (gqr.S hM) tt_54 rfl ⟨?o130, ?o131⟩ dX10_act_245 (fun x_69 ex_69 lx_69 ux_69 => ?_)
                            case o130 => omega
                            case o131 => omega
                            have ax_69 : x_69 = ia81_qr iv218_4.toNatClampNeg := ex_69.trans (congrFun nia81_qr _)
                            have nia218_qlO := nia218_ql
                            refine hx_iast hx hb hW hT (hx_S.rf (M := [(50, 0)])) (gql.S hM) tt_50 rfl ⟨?o132, ?o133⟩ rfl ⟨?o134, ?o135⟩ (List.mem_singleton.mpr rfl) dX10_act_246 (fun H locs h_70 eh_70 hW hT hs => ?_)
                            case o132 => omega
                            case o133 => omega
                            case o134 => omega
                            case o135 => omega
                            replace ffw81_x_14 := (hs.o (gx.S hM) trivial rfl).1.trans ffw81_x_14
                            replace f_47 := (hs.o (gx.S hM) trivial rfl).1.trans f_47
                            replace f_52 := (hs.o (gx.S hM) trivial rfl).1.trans f_52
                            replace af_qn : h_70.2.1 qn = psf := (funext fun j => (hs.a (gqn.S hM) rfl j).1).trans af_qn
                            replace af_qp : h_70.2.1 qp = prf := (funext fun j => (hs.a (gqp.S hM) rfl j).1).trans af_qp
                            replace nia81_qs : h_70.2.1 qs = ia81_qs := (funext fun j => (hs.a (gqs.S hM) rfl j).1).trans nia81_qs
                            replace nia81_qr : h_70.2.1 qr = ia81_qr := (funext fun j => (hs.a (gqr.S hM) rfl j).1).trans nia81_qr
                            replace nfa_54 : h_70.2.1 qd = fa_54 := (funext fun j => (hs.a (gqd.S hM) rfl j).1).trans nfa_54
                            replace ex_69 := ex_69.trans (hs.a (gqr.S hM) rfl _).1.symm
                            replace hM := hM.tr (hs.mono ?o136)
                            case o136 => decide
                            obtain ⟨fa_71, dfa_71⟩ : ∃ g : Nat → Int32, g = hx_up ia218_ql x_68.toNatClampNeg x_69 := ⟨_, rfl⟩
                            have nfa_71 : h_70.2.1 ql = fa_71 := ?o137
                            case o137 =>
                              rw [eh_70, dfa_71, ← nia218_qlO]
                              exact hx_pi_fun _ _ _ _
                            obtain ⟨x_72, ex_72⟩ : ∃ y : Int32, y = iv218_4 + Int32.ofInt 1 := ⟨_, rfl⟩
                            have zx_72 : x_72.toInt = iv218_4.toInt + (1) := ?o138
                            case o138 =>
                              rw [ex_72]
                              refine i32_add rfl ?o139 ?o140 ?o141
                              case o139 => decide
                              case o140 => omega
                              case o141 => omega
                            refine lv_iinc (v := x_72) (lv' := [(4, .int x_72), (3, .int iv81_3), (2, .int iv81_2), (0, .ref x), (1, .int i1)]) hx hb dX10_act_247 hl (k := 0) rfl ex_72.symm ?o142 rfl (fun ls hl => ?_)
                            case o142 => decide
                            refine lv_goto (tgt := 218) hx hb dX10_act_250 ?o143 ?_
                            case o143 => decide
                            refine ih218 x_72 fa_71 _ _ hL1 h_70 ?o144 ?o145 (hx_wk1_s vi218_0 ?o146 ?o147 ?o148 ?o149 ax_69 rfl hrdE dfa_71 zx_72) (hv_RL_s vi218_1 ?o150 ?o151 ?o152 ax_69 ?o153 dfa_71 zx_72) ls ?o154 hW hT hM ffw81_x_14 f_47 f_52 nfa_71 af_qn af_qp nia81_qs nia81_qr nfa_54 (lv_sub hl [0, 1, 2, 3, 4] rfl)
                            case o144 => omega
                            case o145 => omega
                            case o146 => omega
                            case o147 => omega
                            case o148 => omega
                            case o149 => omega
                            case o150 => omega
                            case o151 => omega
                            case o152 => omega
                            case o153 => omega
                            case o154 => omega
                      have zk_0 : (0 : Int32).toInt = 0 := ?o155
                      case o155 => decide
                      refine loop218 14 (0 : Int32) rf _ _ hL1 h_53 ?o156 ?o157 ⟨by rw [zx_50]; intro p h1 h2; exact hWK p h1 (by omega), hx_rk1_0⟩ (hv_RL_0 ?o158) ls ?o159 hW hT hM ffw81_x_14 f_47 f_52 af_ql af_qn af_qp nia81_qs nia81_qr nfa_54 hl
                      case o156 => decide
                      case o157 => decide
                      case o158 => decide
                      case o159 => omega
                    · skip
                      obtain ⟨hmF, hm0, hmn, om, hmO, hmE⟩ := hv_MI_1 vi81_1 (by omega) (by omega)
                      refine lv_aload_n hx hb dX10_act_89 rfl (lv_at hl 2 rfl) ?_
                      obtain ⟨fa_73, nfa_73⟩ : ∃ g : Nat → Int32, hl1.2.1 qo = g := ⟨_, rfl⟩
                      refine hx_goi (hx_runV (As := []) (rest := []) ⟨hx, hb, hml, hown, hts⟩ hW (gx.S hM) tt_10 (T := TX10) (N := 98) rfl (t_X10_clause_v l dC dI dA hL1 hl1 H.size x hT (gx.S hM) qs (gqs.S hM) ((hM.o gx trivial rfl).2.trans f_x_15) qo (gqo.S hM) ((hM.o gx trivial rfl).2.trans f_x_17) qt (gqt.S hM) ((hM.o gx trivial rfl).2.trans f_x_6) qw (gqw.S hM) ((hM.o gx trivial rfl).2.trans f_x_19) qr (gqr.S hM) ((hM.o gx trivial rfl).2.trans f_x_12) ia81_qs nia81_qs fa_73 nfa_73 tf (hx_afS hM gqt rfl af_qt) wf (hx_afS hM gqw rfl af_qw) ia81_qr nia81_qr fw81_x_8 ffw81_x_8 tp0 f_x_7 fw81_x_14 ffw81_x_14 fw81_x_9 ffw81_x_9 fw81_x_13 ffw81_x_13 (vi81_0 ?o160).1 (vi81_0 ?o161).2 hwd om hmO ?o162 ?o163) (cwV 0 hts (hx_gV kw_1472 kw_1469 kw_1471 kw_54 kw_103) rfl rfl rfl (by decide +kernel) ⟨Nat.le_of_ble_eq_true rfl, Nat.le_of_ble_eq_true rfl⟩) rfl hl.1 rfl (Nat.le_of_ble_eq_true rfl) dX10_act_90 ⟨Nat.le_of_ble_eq_true rfl, Nat.le_of_ble_eq_true rfl⟩) hW (fun r_76 L_74 h_75 H locs p_77 hW => ?_)
                      case o160 => omega
                      case o161 => omega
                      case o162 => omega
                      case o163 => omega
                      obtain ⟨⟨w_79, w_80, w_81, w_82, w_83, w_84, fw_79, fw_80, fw_81, fw_82, fw_83, fw_84, hr_78⟩, hT, hs⟩ := p_77
                      replace hT : hx_T T_tb L_74 h_75 := hT
                      replace hs : hx_S T_tb [(10, 8), (10, 9), (10, 10), (10, 11), (10, 13), (10, 14), (10, 16), (10, 18), (54, 0), (55, 0), (56, 0)] hL1 hl1 L_74 h_75 := hs
                      replace f_x_1 := (hs.o (gx.S hM) trivial rfl).1.trans f_x_1
                      replace f_x_7 := (hs.o (gx.S hM) trivial rfl).1.trans f_x_7
                      replace af_ql : h_75.2.1 ql = rf := (funext fun j => (hs.a (gql.S hM) rfl j).1).trans af_ql
                      replace af_qn : h_75.2.1 qn = psf := (funext fun j => (hs.a (gqn.S hM) rfl j).1).trans af_qn
                      replace af_qp : h_75.2.1 qp = prf := (funext fun j => (hs.a (gqp.S hM) rfl j).1).trans af_qp
                      replace af_qd : h_75.2.1 qd = adf := (funext fun j => (hs.a (gqd.S hM) rfl j).1).trans af_qd
                      replace hM := hM.tr (hs.mono ?o164)
                      case o164 => decide
                      have fw_79 : h_75.2.1 x 8 = w_79 := fw_79
                      have bw_79 := hT.gi (gx.S hM) tt_10 (k := 8) rfl
                      rw [fw_79] at bw_79
                      have bw_79 : 0 ≤ w_79.toInt ∧ w_79.toInt ≤ 402 := bw_79
                      have fw_80 : h_75.2.1 x 14 = w_80 := fw_80
                      have bw_80 := hT.gi (gx.S hM) tt_10 (k := 14) rfl
                      rw [fw_80] at bw_80
                      have bw_80 : 0 ≤ w_80.toInt ∧ w_80.toInt ≤ 128 := bw_80
                      have fw_81 : h_75.2.1 x 9 = w_81 := fw_81
                      have bw_81 := hT.gi (gx.S hM) tt_10 (k := 9) rfl
                      rw [fw_81] at bw_81
                      have bw_81 : -2147483648 ≤ w_81.toInt ∧ w_81.toInt ≤ 2147483647 := bw_81
                      have fw_82 : h_75.2.1 x 13 = w_82 := fw_82
                      have bw_82 := hT.gi (gx.S hM) tt_10 (k := 13) rfl
                      rw [fw_82] at bw_82
                      have bw_82 : -2147483648 ≤ w_82.toInt ∧ w_82.toInt ≤ 2147483647 := bw_82
                      have fw_83 : h_75.2.1 qs = w_83 := fw_83
                      have fw_84 : h_75.2.1 qr = w_84 := fw_84
                      have hr_78b := hv_CM_b hr_78.2.2.2
                      refine lv_istore_n (lv' := [(2, .int r_76), (3, .int iv81_3), (0, .ref x), (1, .int i1)]) hx hb dX10_act_93 rfl hl ?o165 rfl (fun ls hl => ?_)
                      case o165 => decide
                      refine lv_iload_n hx hb dX10_act_94 rfl (lv_at hl 0 rfl) ?_
                      refine hb_if_eq (zx := r_76.toInt) (tgt := 110) hx hb rfl dX10_act_95 ?o166 (fun c_85 => ?_) (fun c_85 => ?_)
                      case o166 => decide
                      · skip
                        refine lv_iconst (v := 0) hx hb dX10_act_110 ?o167 ?_
                        case o167 => decide
                        refine lv_istore_n (lv' := [(3, .int (0 : Int32)), (2, .int r_76), (0, .ref x), (1, .int i1)]) hx hb dX10_act_111 rfl hl ?o168 rfl (fun ls hl => ?_)
                        case o168 => decide
                        refine lv_iload_n hx hb dX10_act_112 rfl (lv_at hl 0 rfl) ?_
                        refine hb_if_eq (zx := 0) (tgt := 135) hx hb ?o169 dX10_act_113 ?o170 (fun c_86 => ?_) (fun c_86 => absurd c_86 ?o171)
                        case o169 => decide
                        case o170 => decide
                        case o171 => decide
                        refine lv_iload_n hx hb dX10_act_135 rfl (lv_at hl 0 rfl) ?_
                        refine hb_if_eq (zx := 0) (tgt := 149) hx hb ?o172 dX10_act_136 ?o173 (fun c_87 => ?_) (fun c_87 => absurd c_87 ?o174)
                        case o172 => decide
                        case o173 => decide
                        case o174 => decide
                        refine lv_iload_n hx hb dX10_act_149 rfl (lv_at hl 1 rfl) ?_
                        refine hb_if_eq (zx := r_76.toInt) (tgt := 81) hx hb rfl dX10_act_150 ?o175 (fun c_88 => ?_) (fun c_88 => ?o176)
                        case o175 => decide
                        case o176 =>
                          exfalso
                          omega
                        have zk_0 : (0 : Int32).toInt = 0 := ?o177
                        case o177 => decide
                        refine ih81 r_76 (0 : Int32) w_79 w_80 w_81 w_82 w_83 w_84 _ _ L_74 h_75 ?o178 ?o179 ?o180 ?o181 ?o182 ?o183 ?o184 ?o185 (i32_r _).1 (i32_r _).2 (i32_r _).1 (i32_r _).2 (fun z => (hr_78.2.2.1 ?o186).2.2) (have h8 := hv_CM_0 hr_78.2.2.2 ?o187; Or.inr (Or.inr ⟨?o188, h8.1, hv_AG_c hmE h8.2⟩)) ls ?o189 hW hT hM fw_79 fw_80 fw_81 fw_82 f_x_1 f_x_7 fw_83 fw_84 af_ql af_qn af_qp af_qd (lv_sub hl [0, 1, 2, 3] rfl)
                        case o178 => omega
                        case o179 => omega
                        case o180 => decide
                        case o181 => decide
                        case o182 => omega
                        case o183 => omega
                        case o184 => omega
                        case o185 => omega
                        case o186 => omega
                        case o187 => omega
                        case o188 => omega
                        case o189 => omega
                      · skip
                        obtain ⟨hcF, hc0, oc, hcO, hcE⟩ := hv_CM_1 hr_78.2.2.2 (by omega)
                        have hcR := hr_78.2.2.1 ?o190
                        case o190 => omega
                        refine lv_aload_n hx hb dX10_act_98 rfl (lv_at hl 2 rfl) ?_
                        refine hx_goi (hx_runV (As := []) (rest := []) ⟨hx, hb, hml, hown, hts⟩ hW (gx.S hM) tt_10 (T := TX10) (N := 98) rfl (t_X10_see_v l dC dI dA L_74 h_75 H.size x hT (gx.S hM) qt (gqt.S hM) ((hM.o gx trivial rfl).2.trans f_x_6) tf (hx_afS hM gqt rfl af_qt) w_79 fw_79 tp0 f_x_7 ?o191) (cwV 0 hts (hx_gV kw_1468 kw_1465 kw_1467 kw_53 kw_103) rfl rfl rfl (by decide +kernel) ⟨Nat.le_of_ble_eq_true rfl, Nat.le_of_ble_eq_true rfl⟩) rfl hl.1 rfl (Nat.le_of_ble_eq_true rfl) dX10_act_99 ⟨Nat.le_of_ble_eq_true rfl, Nat.le_of_ble_eq_true rfl⟩) hW (fun r_91 L_89 h_90 H locs p_92 hW => ?_)
                        case o191 => omega
                        obtain ⟨⟨w_94, fw_94, hr_93⟩, hT, hs⟩ := p_92
                        replace hT : hx_T T_tb L_89 h_90 := hT
                        replace hs : hx_S T_tb [(10, 8)] L_74 h_75 L_89 h_90 := hs
                        replace f_x_1 := (hs.o (gx.S hM) trivial rfl).1.trans f_x_1
                        replace f_x_7 := (hs.o (gx.S hM) trivial rfl).1.trans f_x_7
                        replace fw_80 := (hs.o (gx.S hM) trivial rfl).1.trans fw_80
                        replace fw_81 := (hs.o (gx.S hM) trivial rfl).1.trans fw_81
                        replace fw_82 := (hs.o (gx.S hM) trivial rfl).1.trans fw_82
                        replace af_ql : h_90.2.1 ql = rf := (funext fun j => (hs.a (gql.S hM) rfl j).1).trans af_ql
                        replace af_qn : h_90.2.1 qn = psf := (funext fun j => (hs.a (gqn.S hM) rfl j).1).trans af_qn
                        replace af_qp : h_90.2.1 qp = prf := (funext fun j => (hs.a (gqp.S hM) rfl j).1).trans af_qp
                        replace af_qd : h_90.2.1 qd = adf := (funext fun j => (hs.a (gqd.S hM) rfl j).1).trans af_qd
                        replace fw_83 : h_90.2.1 qs = w_83 := (funext fun j => (hs.a (gqs.S hM) rfl j).1).trans fw_83
                        replace fw_84 : h_90.2.1 qr = w_84 := (funext fun j => (hs.a (gqr.S hM) rfl j).1).trans fw_84
                        replace hM := hM.tr (hs.mono ?o192)
                        case o192 => decide
                        have fw_94 : h_90.2.1 x 8 = w_94 := fw_94
                        have bw_94 := hT.gi (gx.S hM) tt_10 (k := 8) rfl
                        rw [fw_94] at bw_94
                        have bw_94 : 0 ≤ w_94.toInt ∧ w_94.toInt ≤ 402 := bw_94
                        have ek_95 : w_94.toInt.toNat = hv_sk tf tp0.toInt.toNat w_79.toInt.toNat := ?o193
                        case o193 => omega
                        have hr_93S := hr_93.2.2.2.1
                        refine lv_iconst (v := -1) hx hb dX10_act_102 ?o194 ?_
                        case o194 => decide
                        refine hb_icmp_eq (zx := r_91.toInt) (zy := (-1)) (tgt := 110) hx hb rfl ?o195 dX10_act_103 ?o196 (fun c_96 => ?_) (fun c_96 => ?_)
                        case o195 => decide
                        case o196 => decide
                        · skip
                          refine lv_iconst (v := 0) hx hb dX10_act_110 ?o197 ?_
                          case o197 => decide
                          refine lv_istore_n (lv' := [(3, .int (0 : Int32)), (2, .int r_76), (0, .ref x), (1, .int i1)]) hx hb dX10_act_111 rfl hl ?o198 rfl (fun ls hl => ?_)
                          case o198 => decide
                          refine lv_iload_n hx hb dX10_act_112 rfl (lv_at hl 0 rfl) ?_
                          refine hb_if_eq (zx := 0) (tgt := 135) hx hb ?o199 dX10_act_113 ?o200 (fun c_97 => ?_) (fun c_97 => absurd c_97 ?o201)
                          case o199 => decide
                          case o200 => decide
                          case o201 => decide
                          refine lv_iload_n hx hb dX10_act_135 rfl (lv_at hl 0 rfl) ?_
                          refine hb_if_eq (zx := 0) (tgt := 149) hx hb ?o202 dX10_act_136 ?o203 (fun c_98 => ?_) (fun c_98 => absurd c_98 ?o204)
                          case o202 => decide
                          case o203 => decide
                          case o204 => decide
                          refine lv_iload_n hx hb dX10_act_149 rfl (lv_at hl 1 rfl) ?_
                          refine hb_if_eq (zx := r_76.toInt) (tgt := 81) hx hb rfl dX10_act_150 ?o205 (fun c_99 => ?o206) (fun c_99 => ?_)
                          case o205 => decide
                          case o206 =>
                            exfalso
                            omega
                          refine lv_iload_n hx hb dX10_act_153 rfl (lv_at hl 0 rfl) ?_
                          refine hb_if_eq (zx := 0) (tgt := 81) hx hb ?o207 dX10_act_154 ?o208 (fun c_100 => ?_) (fun c_100 => absurd c_100 ?o209)
                          case o207 => decide
                          case o208 => decide
                          case o209 => decide
                          have zk_0 : (0 : Int32).toInt = 0 := ?o210
                          case o210 => decide
                          refine ih81 r_76 (0 : Int32) w_94 w_80 w_81 w_82 w_83 w_84 _ _ L_89 h_90 ?o211 ?o212 ?o213 ?o214 ?o215 ?o216 ?o217 ?o218 (i32_r _).1 (i32_r _).2 (i32_r _).1 (i32_r _).2 (fun z => (hr_78.2.2.1 ?o219).2.2) (Or.inr (Or.inl ⟨?o220, ?o221, _, _, oc, hcO, hv_AG_2 hmE hcE (by rw [← ek_95]; have h7 := hv_SE_e hr_93S (by omega); omega)⟩)) ls ?o222 hW hT hM fw_94 fw_80 fw_81 fw_82 f_x_1 f_x_7 fw_83 fw_84 af_ql af_qn af_qp af_qd (lv_sub hl [0, 1, 2, 3] rfl)
                          case o211 => omega
                          case o212 => omega
                          case o213 => decide
                          case o214 => decide
                          case o215 => omega
                          case o216 => omega
                          case o217 => omega
                          case o218 => omega
                          case o219 => omega
                          case o220 => omega
                          case o221 => decide
                          case o222 => omega
                        · skip
                          refine lv_iconst (v := 1) hx hb dX10_act_106 ?o223 ?_
                          case o223 => decide
                          refine lv_goto (tgt := 111) hx hb dX10_act_107 ?o224 ?_
                          case o224 => decide
                          refine lv_istore_n (lv' := [(3, .int (1 : Int32)), (2, .int r_76), (0, .ref x), (1, .int i1)]) hx hb dX10_act_111 rfl hl ?o225 rfl (fun ls hl => ?_)
                          case o225 => decide
                          refine lv_iload_n hx hb dX10_act_112 rfl (lv_at hl 0 rfl) ?_
                          refine hb_if_eq (zx := 1) (tgt := 135) hx hb ?o226 dX10_act_113 ?o227 (fun c_101 => absurd c_101 ?o228) (fun c_101 => ?_)
                          case o226 => decide
                          case o227 => decide
                          case o228 => decide
                          refine lv_aload_n hx hb dX10_act_116 rfl (lv_at hl 2 rfl) ?_
                          refine hx_goi (hx_runV (As := []) (rest := []) ⟨hx, hb, hml, hown, hts⟩ hW (gx.S hM) tt_10 (T := TX10) (N := 98) rfl (t_X10_see_v l dC dI dA L_89 h_90 H.size x hT (gx.S hM) qt (gqt.S hM) ((hM.o gx trivial rfl).2.trans f_x_6) tf (hx_afS hM gqt rfl af_qt) w_94 fw_94 tp0 f_x_7 ?o229) (cwV 0 hts (hx_gV kw_1468 kw_1465 kw_1467 kw_53 kw_103) rfl rfl rfl (by decide +kernel) ⟨Nat.le_of_ble_eq_true rfl, Nat.le_of_ble_eq_true rfl⟩) rfl hl.1 rfl (Nat.le_of_ble_eq_true rfl) dX10_act_117 ⟨Nat.le_of_ble_eq_true rfl, Nat.le_of_ble_eq_true rfl⟩) hW (fun r_104 L_102 h_103 H locs p_105 hW => ?_)
                          case o229 => omega
                          obtain ⟨⟨w_107, fw_107, hr_106⟩, hT, hs⟩ := p_105
                          replace hT : hx_T T_tb L_102 h_103 := hT
                          replace hs : hx_S T_tb [(10, 8)] L_89 h_90 L_102 h_103 := hs
                          replace f_x_1 := (hs.o (gx.S hM) trivial rfl).1.trans f_x_1
                          replace f_x_7 := (hs.o (gx.S hM) trivial rfl).1.trans f_x_7
                          replace fw_80 := (hs.o (gx.S hM) trivial rfl).1.trans fw_80
                          replace fw_81 := (hs.o (gx.S hM) trivial rfl).1.trans fw_81
                          replace fw_82 := (hs.o (gx.S hM) trivial rfl).1.trans fw_82
                          replace af_ql : h_103.2.1 ql = rf := (funext fun j => (hs.a (gql.S hM) rfl j).1).trans af_ql
                          replace af_qn : h_103.2.1 qn = psf := (funext fun j => (hs.a (gqn.S hM) rfl j).1).trans af_qn
                          replace af_qp : h_103.2.1 qp = prf := (funext fun j => (hs.a (gqp.S hM) rfl j).1).trans af_qp
                          replace af_qd : h_103.2.1 qd = adf := (funext fun j => (hs.a (gqd.S hM) rfl j).1).trans af_qd
                          replace fw_83 : h_103.2.1 qs = w_83 := (funext fun j => (hs.a (gqs.S hM) rfl j).1).trans fw_83
                          replace fw_84 : h_103.2.1 qr = w_84 := (funext fun j => (hs.a (gqr.S hM) rfl j).1).trans fw_84
                          replace hM := hM.tr (hs.mono ?o230)
                          case o230 => decide
                          have fw_107 : h_103.2.1 x 8 = w_107 := fw_107
                          have bw_107 := hT.gi (gx.S hM) tt_10 (k := 8) rfl
                          rw [fw_107] at bw_107
                          have bw_107 : 0 ≤ w_107.toInt ∧ w_107.toInt ≤ 402 := bw_107
                          have ek_108 : w_107.toInt.toNat = hv_sk tf tp0.toInt.toNat w_94.toInt.toNat := ?o231
                          case o231 => omega
                          have hr_106S := hr_106.2.2.2.1
                          have e22 : w_107.toInt.toNat = w_94.toInt.toNat := ?o232
                          case o232 =>
                            rw [ek_108, ek_95]
                            exact hv_sk_id
                          have h1s9 := hv_SE_s hr_93S ?o233
                          case o233 => omega
                          refine lv_bipush (v := 59) hx hb dX10_act_120 ?o234 ?_
                          case o234 => decide
                          refine hb_icmp_eq (zx := r_104.toInt) (zy := 59) (tgt := 135) hx hb rfl ?o235 dX10_act_122 ?o236 (fun c_109 => ?_) (fun c_109 => ?_)
                          case o235 => decide
                          case o236 => decide
                          · skip
                            refine lv_iload_n hx hb dX10_act_135 rfl (lv_at hl 0 rfl) ?_
                            refine hb_if_eq (zx := 1) (tgt := 149) hx hb ?o237 dX10_act_136 ?o238 (fun c_110 => absurd c_110 ?o239) (fun c_110 => ?_)
                            case o237 => decide
                            case o238 => decide
                            case o239 => decide
                            refine lv_aload_n hx hb dX10_act_139 rfl (lv_at hl 2 rfl) ?_
                            refine lv_dup hx hb dX10_act_140 rfl ?_
                            refine hk_geti hx hb hts hC_10 hown hW (gx.S hM) tt_10 8 ?o240 rfl kw_1151 ⟨rfl, rfl, rfl⟩ fw_107 dX10_act_141 ?_
                            case o240 => decide
                            refine lv_iconst (v := 1) hx hb dX10_act_144 ?o241 ?_
                            case o241 => decide
                            refine lv_iadd hx hb dX10_act_145 ?_
                            have rg_111 := i32_r w_107
                            refine lv_topi (fun x_112 ex_112 => ?_)
                            have zx_112 : x_112.toInt = w_107.toInt + 1 := ?o242
                            case o242 =>
                              rw [ex_112]
                              refine i32_add rfl ?o243 ?o244 ?o245
                              case o243 => decide
                              case o244 => omega
                              case o245 => omega
                            refine hx_puti hx hb hts hC_10 hown hW hT (hx_S.rf (M := [(10, 8)])) (gx.S hM) tt_10 8 ?o246 rfl kw_1151 ⟨rfl, rfl, rfl⟩ rfl (x := x_112) ⟨?o247, ?o248⟩ rfl rfl rfl (List.mem_singleton.mpr rfl) dX10_act_146 (fun H locs h_113 eh_113 hW hT hs => ?_)
                            case o246 => decide
                            case o247 => omega
                            case o248 => omega
                            replace f_x_1 := (hs.o (gx.S hM) trivial rfl).1.trans f_x_1
                            replace f_x_7 := (hs.o (gx.S hM) trivial rfl).1.trans f_x_7
                            replace fw_80 := (hs.o (gx.S hM) trivial rfl).1.trans fw_80
                            replace fw_81 := (hs.o (gx.S hM) trivial rfl).1.trans fw_81
                            replace fw_82 := (hs.o (gx.S hM) trivial rfl).1.trans fw_82
                            replace af_ql : h_113.2.1 ql = rf := (funext fun j => (hs.a (gql.S hM) rfl j).1).trans af_ql
                            replace af_qn : h_113.2.1 qn = psf := (funext fun j => (hs.a (gqn.S hM) rfl j).1).trans af_qn
                            replace af_qp : h_113.2.1 qp = prf := (funext fun j => (hs.a (gqp.S hM) rfl j).1).trans af_qp
                            replace af_qd : h_113.2.1 qd = adf := (funext fun j => (hs.a (gqd.S hM) rfl j).1).trans af_qd
                            replace fw_83 : h_113.2.1 qs = w_83 := (funext fun j => (hs.a (gqs.S hM) rfl j).1).trans fw_83
                            replace fw_84 : h_113.2.1 qr = w_84 := (funext fun j => (hs.a (gqr.S hM) rfl j).1).trans fw_84
                            replace hM := hM.tr (hs.mono ?o249)
                            case o249 => decide
                            have f_114 : h_113.2.1 x 8 = x_112 := ?o250
                            case o250 =>
                              rw [eh_113]
                              exact hx_pi_at _ _ _ _
                            refine lv_iload_n hx hb dX10_act_149 rfl (lv_at hl 1 rfl) ?_
                            refine hb_if_eq (zx := r_76.toInt) (tgt := 81) hx hb rfl dX10_act_150 ?o251 (fun c_115 => ?o252) (fun c_115 => ?_)
                            case o251 => decide
                            case o252 =>
                              exfalso
                              omega
                            refine lv_iload_n hx hb dX10_act_153 rfl (lv_at hl 0 rfl) ?_
                            refine hb_if_eq (zx := 1) (tgt := 81) hx hb ?o253 dX10_act_154 ?o254 (fun c_116 => absurd c_116 ?o255) (fun c_116 => ?_)
                            case o253 => decide
                            case o254 => decide
                            case o255 => decide
                            refine lv_aload_n hx hb dX10_act_157 rfl (lv_at hl 2 rfl) ?_
                            refine hx_goi (hx_runV (As := []) (rest := []) ⟨hx, hb, hml, hown, hts⟩ hW (gx.S hM) tt_10 (T := TX10) (N := 98) rfl (t_X10_see_v l dC dI dA L_102 h_113 H.size x hT (gx.S hM) qt (gqt.S hM) ((hM.o gx trivial rfl).2.trans f_x_6) tf (hx_afS hM gqt rfl af_qt) x_112 f_114 tp0 f_x_7 ?o256) (cwV 0 hts (hx_gV kw_1468 kw_1465 kw_1467 kw_53 kw_103) rfl rfl rfl (by decide +kernel) ⟨Nat.le_of_ble_eq_true rfl, Nat.le_of_ble_eq_true rfl⟩) rfl hl.1 rfl (Nat.le_of_ble_eq_true rfl) dX10_act_158 ⟨Nat.le_of_ble_eq_true rfl, Nat.le_of_ble_eq_true rfl⟩) hW (fun r_119 L_117 h_118 H locs p_120 hW => ?_)
                            case o256 => omega
                            obtain ⟨⟨w_122, fw_122, hr_121⟩, hT, hs⟩ := p_120
                            replace hT : hx_T T_tb L_117 h_118 := hT
                            replace hs : hx_S T_tb [(10, 8)] L_102 h_113 L_117 h_118 := hs
                            replace f_x_1 := (hs.o (gx.S hM) trivial rfl).1.trans f_x_1
                            replace f_x_7 := (hs.o (gx.S hM) trivial rfl).1.trans f_x_7
                            replace fw_80 := (hs.o (gx.S hM) trivial rfl).1.trans fw_80
                            replace fw_81 := (hs.o (gx.S hM) trivial rfl).1.trans fw_81
                            replace fw_82 := (hs.o (gx.S hM) trivial rfl).1.trans fw_82
                            replace af_ql : h_118.2.1 ql = rf := (funext fun j => (hs.a (gql.S hM) rfl j).1).trans af_ql
                            replace af_qn : h_118.2.1 qn = psf := (funext fun j => (hs.a (gqn.S hM) rfl j).1).trans af_qn
                            replace af_qp : h_118.2.1 qp = prf := (funext fun j => (hs.a (gqp.S hM) rfl j).1).trans af_qp
                            replace af_qd : h_118.2.1 qd = adf := (funext fun j => (hs.a (gqd.S hM) rfl j).1).trans af_qd
                            replace fw_83 : h_118.2.1 qs = w_83 := (funext fun j => (hs.a (gqs.S hM) rfl j).1).trans fw_83
                            replace fw_84 : h_118.2.1 qr = w_84 := (funext fun j => (hs.a (gqr.S hM) rfl j).1).trans fw_84
                            replace hM := hM.tr (hs.mono ?o257)
                            case o257 => decide
                            have fw_122 : h_118.2.1 x 8 = w_122 := fw_122
                            have bw_122 := hT.gi (gx.S hM) tt_10 (k := 8) rfl
                            rw [fw_122] at bw_122
                            have bw_122 : 0 ≤ w_122.toInt ∧ w_122.toInt ≤ 402 := bw_122
                            have ek_123 : w_122.toInt.toNat = hv_sk tf tp0.toInt.toNat x_112.toInt.toNat := ?o258
                            case o258 => omega
                            have hr_121S := hr_121.2.2.2.1
                            refine lv_iconst (v := -1) hx hb dX10_act_161 ?o259 ?_
                            case o259 => decide
                            refine hb_icmp_ne (zx := r_119.toInt) (zy := (-1)) (tgt := 81) hx hb rfl ?o260 dX10_act_162 ?o261 (fun c_124 => ?_) (fun c_124 => ?_)
                            case o260 => decide
                            case o261 => decide
                            · skip
                              have zk_1 : (1 : Int32).toInt = 1 := ?o262
                              case o262 => decide
                              refine ih81 r_76 (1 : Int32) w_122 w_80 w_81 w_82 w_83 w_84 _ _ L_117 h_118 ?o263 ?o264 ?o265 ?o266 ?o267 ?o268 ?o269 ?o270 (i32_r _).1 (i32_r _).2 (i32_r _).1 (i32_r _).2 (fun z => (hr_78.2.2.1 ?o271).2.2) (hv_MI_t (x := w_122.toInt.toNat) ?o272 ?o273 ?o274 ?o275 ?o276 hcO ((hv_AG_4 hmE hcE (by rw [← ek_95]; have h7 := hv_SE_s hr_93S (by omega); omega) (by rw [← ek_95, ← e22]; exact (hv_SE_y (k := 59) hr_106S (by decide) (by decide) (by omega)).2)).trans (hv_AL_sk.symm.trans (by rw [← ek_95, show w_94.toInt.toNat + 1 = x_112.toInt.toNat by omega, ← ek_123])))) ls ?o277 hW hT hM fw_122 fw_80 fw_81 fw_82 f_x_1 f_x_7 fw_83 fw_84 af_ql af_qn af_qp af_qd (lv_sub hl [0, 1, 2, 3] rfl)
                              case o263 => omega
                              case o264 => omega
                              case o265 => decide
                              case o266 => decide
                              case o267 => omega
                              case o268 => omega
                              case o269 => omega
                              case o270 => omega
                              case o271 => omega
                              case o272 => omega
                              case o273 => decide
                              case o274 => omega
                              case o275 => omega
                              case o276 => omega
                              case o277 => omega
                            · skip
                              refine lv_aload_n hx hb dX10_act_165 rfl (lv_at hl 2 rfl) ?_
                              refine lv_iconst (v := 0) hx hb dX10_act_166 ?o278 ?_
                              case o278 => decide
                              refine lv_aload_n hx hb dX10_act_167 rfl (lv_at hl 2 rfl) ?_
                              refine hk_geti hx hb hts hC_10 hown hW (gx.S hM) tt_10 8 ?o279 rfl kw_1151 ⟨rfl, rfl, rfl⟩ fw_122 dX10_act_168 ?_
                              case o279 => decide
                              have zc_0 : (0 : Int32).toInt = 0 := ?o280
                              case o280 => decide
                              refine hx_goi (hx_runV (As := [.int (0 : Int32), .int w_122]) (rest := []) ⟨hx, hb, hml, hown, hts⟩ hW (gx.S hM) tt_10 (T := TX10) (N := 98) rfl (t_X10_fails_v l dC dI dA L_117 h_118 H.size x (0 : Int32) w_122 hT (gx.S hM) w_81 fw_81 ?o281 ?o282 ⟨?o283, ?o284⟩) (cwV 2 hts (hx_gV kw_1480 kw_1477 kw_1479 kw_56 kw_103) rfl rfl rfl (by decide +kernel) ⟨Nat.le_of_ble_eq_true rfl, Nat.le_of_ble_eq_true rfl⟩) rfl hl.1 rfl (Nat.le_of_ble_eq_true rfl) dX10_act_171 ⟨Nat.le_of_ble_eq_true rfl, Nat.le_of_ble_eq_true rfl⟩) hW (fun r_127 L_125 h_126 H locs p_128 hW => ?_)
                              case o281 => omega
                              case o282 => decide
                              case o283 => omega
                              case o284 => omega
                              obtain ⟨⟨w_130, fw_130, hr_129⟩, hT, hs⟩ := p_128
                              replace hT : hx_T T_tb L_125 h_126 := hT
                              replace hs : hx_S T_tb [(10, 9)] L_117 h_118 L_125 h_126 := hs
                              replace f_x_1 := (hs.o (gx.S hM) trivial rfl).1.trans f_x_1
                              replace f_x_7 := (hs.o (gx.S hM) trivial rfl).1.trans f_x_7
                              replace fw_80 := (hs.o (gx.S hM) trivial rfl).1.trans fw_80
                              replace fw_82 := (hs.o (gx.S hM) trivial rfl).1.trans fw_82
                              replace fw_122 := (hs.o (gx.S hM) trivial rfl).1.trans fw_122
                              replace af_ql : h_126.2.1 ql = rf := (funext fun j => (hs.a (gql.S hM) rfl j).1).trans af_ql
                              replace af_qn : h_126.2.1 qn = psf := (funext fun j => (hs.a (gqn.S hM) rfl j).1).trans af_qn
                              replace af_qp : h_126.2.1 qp = prf := (funext fun j => (hs.a (gqp.S hM) rfl j).1).trans af_qp
                              replace af_qd : h_126.2.1 qd = adf := (funext fun j => (hs.a (gqd.S hM) rfl j).1).trans af_qd
                              replace fw_83 : h_126.2.1 qs = w_83 := (funext fun j => (hs.a (gqs.S hM) rfl j).1).trans fw_83
                              replace fw_84 : h_126.2.1 qr = w_84 := (funext fun j => (hs.a (gqr.S hM) rfl j).1).trans fw_84
                              replace hM := hM.tr (hs.mono ?o285)
                              case o285 => decide
                              have fw_130 : h_126.2.1 x 9 = w_130 := fw_130
                              have bw_130 := hT.gi (gx.S hM) tt_10 (k := 9) rfl
                              rw [fw_130] at bw_130
                              have bw_130 : -2147483648 ≤ w_130.toInt ∧ w_130.toInt ≤ 2147483647 := bw_130
                              refine lv_istore_n (lv' := [(2, .int r_127), (3, .int (1 : Int32)), (0, .ref x), (1, .int i1)]) hx hb dX10_act_174 rfl hl ?o286 rfl (fun ls hl => ?_)
                              case o286 => decide
                              refine lv_goto (tgt := 81) hx hb dX10_act_175 ?o287 ?_
                              case o287 => decide
                              have zk_1 : (1 : Int32).toInt = 1 := ?o288
                              case o288 => decide
                              refine ih81 r_127 (1 : Int32) w_122 w_80 w_130 w_82 w_83 w_84 _ _ L_125 h_126 ?o289 ?o290 ?o291 ?o292 ?o293 ?o294 ?o295 ?o296 (i32_r _).1 (i32_r _).2 (i32_r _).1 (i32_r _).2 (fun z => (hr_78.2.2.1 ?o297).2.2) (hv_MI_f (x := 1 + 8 * w_122.toInt.toNat) ?o298 ?o299 ?o300 ((hv_AG_4 hmE hcE (by rw [← ek_95]; have h7 := hv_SE_s hr_93S (by omega); omega) (by rw [← ek_95, ← e22]; exact (hv_SE_y (k := 59) hr_106S (by decide) (by decide) (by omega)).2)).trans (hv_AL_sk.symm.trans ((hv_AL_n (by rw [← ek_95, show w_94.toInt.toNat + 1 = x_112.toInt.toNat by omega, ← ek_123]; have h7 := hv_SE_e hr_121S (by omega); omega)).trans (by rw [← ek_95, show w_94.toInt.toNat + 1 = x_112.toInt.toNat by omega, ← ek_123]))))) ls ?o301 hW hT hM fw_122 fw_80 fw_130 fw_82 f_x_1 f_x_7 fw_83 fw_84 af_ql af_qn af_qp af_qd (lv_sub hl [1, 0, 2, 3] rfl)
                              case o289 => omega
                              case o290 => omega
                              case o291 => decide
                              case o292 => decide
                              case o293 => omega
                              case o294 => omega
                              case o295 => omega
                              case o296 => omega
                              case o297 => omega
                              case o298 => omega
                              case o299 => omega
                              case o300 => omega
                              case o301 => omega
                          · skip
                            refine lv_aload_n hx hb dX10_act_125 rfl (lv_at hl 2 rfl) ?_
                            refine lv_iconst (v := 0) hx hb dX10_act_126 ?o302 ?_
                            case o302 => decide
                            refine lv_aload_n hx hb dX10_act_127 rfl (lv_at hl 2 rfl) ?_
                            refine hk_geti hx hb hts hC_10 hown hW (gx.S hM) tt_10 8 ?o303 rfl kw_1151 ⟨rfl, rfl, rfl⟩ fw_107 dX10_act_128 ?_
                            case o303 => decide
                            have zc_0 : (0 : Int32).toInt = 0 := ?o304
                            case o304 => decide
                            refine hx_goi (hx_runV (As := [.int (0 : Int32), .int w_107]) (rest := []) ⟨hx, hb, hml, hown, hts⟩ hW (gx.S hM) tt_10 (T := TX10) (N := 98) rfl (t_X10_fails_v l dC dI dA L_102 h_103 H.size x (0 : Int32) w_107 hT (gx.S hM) w_81 fw_81 ?o305 ?o306 ⟨?o307, ?o308⟩) (cwV 2 hts (hx_gV kw_1480 kw_1477 kw_1479 kw_56 kw_103) rfl rfl rfl (by decide +kernel) ⟨Nat.le_of_ble_eq_true rfl, Nat.le_of_ble_eq_true rfl⟩) rfl hl.1 rfl (Nat.le_of_ble_eq_true rfl) dX10_act_131 ⟨Nat.le_of_ble_eq_true rfl, Nat.le_of_ble_eq_true rfl⟩) hW (fun r_133 L_131 h_132 H locs p_134 hW => ?_)
                            case o305 => omega
                            case o306 => decide
                            case o307 => omega
                            case o308 => omega
                            obtain ⟨⟨w_136, fw_136, hr_135⟩, hT, hs⟩ := p_134
                            replace hT : hx_T T_tb L_131 h_132 := hT
                            replace hs : hx_S T_tb [(10, 9)] L_102 h_103 L_131 h_132 := hs
                            replace f_x_1 := (hs.o (gx.S hM) trivial rfl).1.trans f_x_1
                            replace f_x_7 := (hs.o (gx.S hM) trivial rfl).1.trans f_x_7
                            replace fw_80 := (hs.o (gx.S hM) trivial rfl).1.trans fw_80
                            replace fw_82 := (hs.o (gx.S hM) trivial rfl).1.trans fw_82
                            replace fw_107 := (hs.o (gx.S hM) trivial rfl).1.trans fw_107
                            replace af_ql : h_132.2.1 ql = rf := (funext fun j => (hs.a (gql.S hM) rfl j).1).trans af_ql
                            replace af_qn : h_132.2.1 qn = psf := (funext fun j => (hs.a (gqn.S hM) rfl j).1).trans af_qn
                            replace af_qp : h_132.2.1 qp = prf := (funext fun j => (hs.a (gqp.S hM) rfl j).1).trans af_qp
                            replace af_qd : h_132.2.1 qd = adf := (funext fun j => (hs.a (gqd.S hM) rfl j).1).trans af_qd
                            replace fw_83 : h_132.2.1 qs = w_83 := (funext fun j => (hs.a (gqs.S hM) rfl j).1).trans fw_83
                            replace fw_84 : h_132.2.1 qr = w_84 := (funext fun j => (hs.a (gqr.S hM) rfl j).1).trans fw_84
                            replace hM := hM.tr (hs.mono ?o309)
                            case o309 => decide
                            have fw_136 : h_132.2.1 x 9 = w_136 := fw_136
                            have bw_136 := hT.gi (gx.S hM) tt_10 (k := 9) rfl
                            rw [fw_136] at bw_136
                            have bw_136 : -2147483648 ≤ w_136.toInt ∧ w_136.toInt ≤ 2147483647 := bw_136
                            refine lv_istore_n (lv' := [(2, .int r_133), (3, .int (1 : Int32)), (0, .ref x), (1, .int i1)]) hx hb dX10_act_134 rfl hl ?o310 rfl (fun ls hl => ?_)
                            case o310 => decide
                            refine lv_iload_n hx hb dX10_act_135 rfl (lv_at hl 1 rfl) ?_
                            refine hb_if_eq (zx := 1) (tgt := 149) hx hb ?o311 dX10_act_136 ?o312 (fun c_137 => absurd c_137 ?o313) (fun c_137 => ?_)
                            case o311 => decide
                            case o312 => decide
                            case o313 => decide
                            refine lv_aload_n hx hb dX10_act_139 rfl (lv_at hl 2 rfl) ?_
                            refine lv_dup hx hb dX10_act_140 rfl ?_
                            refine hk_geti hx hb hts hC_10 hown hW (gx.S hM) tt_10 8 ?o314 rfl kw_1151 ⟨rfl, rfl, rfl⟩ fw_107 dX10_act_141 ?_
                            case o314 => decide
                            refine lv_iconst (v := 1) hx hb dX10_act_144 ?o315 ?_
                            case o315 => decide
                            refine lv_iadd hx hb dX10_act_145 ?_
                            have rg_138 := i32_r w_107
                            refine lv_topi (fun x_139 ex_139 => ?_)
                            have zx_139 : x_139.toInt = w_107.toInt + 1 := ?o316
                            case o316 =>
                              rw [ex_139]
                              refine i32_add rfl ?o317 ?o318 ?o319
                              case o317 => decide
                              case o318 => omega
                              case o319 => omega
                            refine hx_puti hx hb hts hC_10 hown hW hT (hx_S.rf (M := [(10, 8)])) (gx.S hM) tt_10 8 ?o320 rfl kw_1151 ⟨rfl, rfl, rfl⟩ rfl (x := x_139) ⟨?o321, ?o322⟩ rfl rfl rfl (List.mem_singleton.mpr rfl) dX10_act_146 (fun H locs h_140 eh_140 hW hT hs => ?_)
                            case o320 => decide
                            case o321 => omega
                            case o322 => omega
                            replace f_x_1 := (hs.o (gx.S hM) trivial rfl).1.trans f_x_1
                            replace f_x_7 := (hs.o (gx.S hM) trivial rfl).1.trans f_x_7
                            replace fw_80 := (hs.o (gx.S hM) trivial rfl).1.trans fw_80
                            replace fw_82 := (hs.o (gx.S hM) trivial rfl).1.trans fw_82
                            replace fw_136 := (hs.o (gx.S hM) trivial rfl).1.trans fw_136
                            replace af_ql : h_140.2.1 ql = rf := (funext fun j => (hs.a (gql.S hM) rfl j).1).trans af_ql
                            replace af_qn : h_140.2.1 qn = psf := (funext fun j => (hs.a (gqn.S hM) rfl j).1).trans af_qn
                            replace af_qp : h_140.2.1 qp = prf := (funext fun j => (hs.a (gqp.S hM) rfl j).1).trans af_qp
                            replace af_qd : h_140.2.1 qd = adf := (funext fun j => (hs.a (gqd.S hM) rfl j).1).trans af_qd
                            replace fw_83 : h_140.2.1 qs = w_83 := (funext fun j => (hs.a (gqs.S hM) rfl j).1).trans fw_83
                            replace fw_84 : h_140.2.1 qr = w_84 := (funext fun j => (hs.a (gqr.S hM) rfl j).1).trans fw_84
                            replace hM := hM.tr (hs.mono ?o323)
                            case o323 => decide
                            have f_141 : h_140.2.1 x 8 = x_139 := ?o324
                            case o324 =>
                              rw [eh_140]
                              exact hx_pi_at _ _ _ _
                            refine lv_iload_n hx hb dX10_act_149 rfl (lv_at hl 0 rfl) ?_
                            refine hb_if_eq (zx := r_133.toInt) (tgt := 81) hx hb rfl dX10_act_150 ?o325 (fun c_142 => ?_) (fun c_142 => ?o326)
                            case o325 => decide
                            case o326 =>
                              exfalso
                              omega
                            have zk_1 : (1 : Int32).toInt = 1 := ?o327
                            case o327 => decide
                            refine ih81 r_133 (1 : Int32) x_139 w_80 w_136 w_82 w_83 w_84 _ _ L_131 h_140 ?o328 ?o329 ?o330 ?o331 ?o332 ?o333 ?o334 ?o335 (i32_r _).1 (i32_r _).2 (i32_r _).1 (i32_r _).2 (fun z => (hr_78.2.2.1 ?o336).2.2) (hv_MI_f (x := 1 + 8 * w_107.toInt.toNat) ?o337 ?o338 ?o339 ((hv_AG_3 hmE hcE (by rw [← ek_95]; have h7 := hv_SE_s hr_93S (by omega); omega) (by rw [← ek_95, ← e22]; exact fun z9 => hv_SE_n (k := 59) hr_106S (by omega) ⟨by omega, z9, by decide⟩)).trans (by rw [← ek_95, ← e22]))) ls ?o340 hW hT hM f_141 fw_80 fw_136 fw_82 f_x_1 f_x_7 fw_83 fw_84 af_ql af_qn af_qp af_qd (lv_sub hl [1, 0, 2, 3] rfl)
                            case o328 => omega
                            case o329 => omega
                            case o330 => decide
                            case o331 => decide
                            case o332 => omega
                            case o333 => omega
                            case o334 => omega
                            case o335 => omega
                            case o336 => omega
                            case o337 => omega
                            case o338 => omega
                            case o339 => omega
                            case o340 => omega
              have zk_1 : (1 : Int32).toInt = 1 := ?o341
              case o341 => decide
              have zk_0 : (0 : Int32).toInt = 0 := ?o342
              case o342 => decide
              have zk_0 : (0 : Int32).toInt = 0 := ?o343
              case o343 => decide
              have zk_0 : (0 : Int32).toInt = 0 := ?o344
              case o344 => decide
              refine loop81 404 (1 : Int32) (0 : Int32) w_36 w_29 (0 : Int32) (0 : Int32) w_30 ia35_qr _ _ L_31 h_32 ?o345 ?o346 ?o347 ?o348 ?o349 ?o350 ?o351 ?o352 ?o353 ?o354 ?o355 ?o356 (fun _ => ⟨hr_28.1, hrd0⟩) (Or.inr (Or.inl ⟨?o357, ?o358, _, _, _, hr_28.2, (by have k9 := ek_37; rw [show (0 : Int32).toInt.toNat = 0 from by decide] at k9; have h7 := hv_SE_e hr_35S (by omega); rw [hrW0]; exact hv_ACT_0 (by rw [← k9]; omega))⟩)) ls ?o359 hW hT hM fw_36 fw_29 f_11 f_13 f_x_1 f_x_7 fw_30 nia35_qr af_ql af_qn af_qp af_qd hl
              case o345 => decide
              case o346 => decide
              case o347 => decide
              case o348 => decide
              case o349 => omega
              case o350 => omega
              case o351 => omega
              case o352 => omega
              case o353 => decide
              case o354 => decide
              case o355 => decide
              case o356 => decide
              case o357 => decide
              case o358 => decide
              case o359 => omega
            · skip
              refine lv_iconst (v := 1) hx hb dX10_act_75 ?o360 ?_
              case o360 => decide
              refine lv_goto (tgt := 80) hx hb dX10_act_76 ?o361 ?_
              case o361 => decide
              refine lv_istore_n (lv' := [(3, .int (1 : Int32)), (2, .int (1 : Int32)), (0, .ref x), (1, .int i1)]) hx hb dX10_act_80 rfl hl ?o362 rfl (fun ls hl => ?_)
              case o362 => decide
              have loop81 : ∀ (n81 : Nat) (iv81_2 iv81_3 fw81_x_8 fw81_x_14 fw81_x_9 fw81_x_13 : Int32) (ia81_qs ia81_qr : Nat → Int32) (H : Heap) (locs : List Loc) (hL1 : List Nat) (hl1 : hx_h), 0 ≤ iv81_2.toInt → iv81_2.toInt ≤ 1 → 0 ≤ iv81_3.toInt → iv81_3.toInt ≤ 1 → 0 ≤ fw81_x_8.toInt → fw81_x_8.toInt ≤ 402 → 0 ≤ fw81_x_14.toInt → fw81_x_14.toInt ≤ 128 → -2147483648 ≤ fw81_x_9.toInt → fw81_x_9.toInt ≤ 2147483647 → -2147483648 ≤ fw81_x_13.toInt → fw81_x_13.toInt ≤ 2147483647 → (iv81_2.toInt = 1 → hx_rp ia81_qs (fw81_x_14.toInt).toNat = some 1 ∧ hx_rk ia81_qr) → (hv_MI tf tp0.toInt.toNat (hv_ACT tf tp0.toInt.toNat hv_W0 hv_o0) iv81_2.toInt iv81_3.toInt (fw81_x_9.toInt) (fw81_x_8.toInt) (hv_sR fw81_x_13) (hv_rR ia81_qr) (hv_ls ia81_qs (fw81_x_14.toInt).toNat)) → ∀ (ls : Array Slot), 402 - fw81_x_8.toInt + iv81_3.toInt < (n81 : Int) → hx_W T_tb (P_ty dA) (dC, dI) vwCl (hx_A L sz) s.heap hL1 hl1 s H locs → hx_T T_tb hL1 hl1 → hx_S T_tb [(10, 1), (10, 7), (10, 8), (10, 9), (10, 10), (10, 11), (10, 13), (10, 14), (10, 16), (10, 18), (49, 0), (50, 0), (51, 0), (52, 0), (54, 0), (55, 0), (56, 0)] L h hL1 hl1 → hl1.2.1 x 8 = fw81_x_8 → hl1.2.1 x 14 = fw81_x_14 → hl1.2.1 x 9 = fw81_x_9 → hl1.2.1 x 13 = fw81_x_13 → hl1.2.1 x 1 = a0 → hl1.2.1 x 7 = tp0 → hl1.2.1 qs = ia81_qs → hl1.2.1 qr = ia81_qr → hl1.2.1 ql = rf → hl1.2.1 qn = psf → hl1.2.1 qp = prf → hl1.2.1 qd = adf → lv_has ls 5 [(3, .int iv81_3), (2, .int iv81_2), (0, .ref x), (1, .int i1)] → W p l e ({ frames := 6, cells := 0, slots := 0, locals := 141 }) s m ([.ref x, .int i1] : List Value).toArray below meth c H locs 0 0 (MQ below (va_Qi (fun (r : Int32) (u : List Nat × hx_h) => (∃ (a1 : Int32) (tp1 : Int32) (rf1 : Nat → Int32) (psf1 : Nat → Int32) (prf1 : Nat → Int32) (adf1 : Nat → Int32), u.2.2.1 x 1 = a1 ∧ u.2.2.1 x 7 = tp1 ∧ u.2.2.1 ql = rf1 ∧ u.2.2.1 qn = psf1 ∧ u.2.2.1 qp = prf1 ∧ u.2.2.1 qd = adf1 ∧ (a0.toInt ≤ a1.toInt ∧ hx_WK rf1 a1.toInt ∧ hx_RP prf1 psf1 a1.toInt ∧ hv_AN (8 ≤ a0.toInt ∨ i1.toInt < 0 ∨ 7999 < i1.toInt) (hv_ACT tf tp0.toInt.toNat hv_W0 hv_o0) r a0.toInt a1.toInt tp0.toInt tp1.toInt ∧ ∃ A1, hv_AU A a0.toInt a1.toInt i1.toInt (hv_ACT tf tp0.toInt.toNat hv_W0 hv_o0) A1 ∧ hv_CA adf1 rf1 psf1 prf1 a1.toInt A1)) ∧ hx_T T_tb u.1 u.2 ∧ hx_S T_tb [(10, 1), (10, 7), (10, 8), (10, 9), (10, 10), (10, 11), (10, 13), (10, 14), (10, 16), (10, 18), (49, 0), (50, 0), (51, 0), (52, 0), (54, 0), (55, 0), (56, 0)] L h u.1 u.2) (hx_E T_tb (P_ty dA) (dC, dI) vwCl (hx_A L sz)) (hx_A L sz)) ([.ref x, .int i1] : List Value).toArray s 0 0 (hx_A L sz)) (F0 m 81 ls []) := by
                intro n81
                induction n81 with
                | zero => intro iv81_2 iv81_3 fw81_x_8 fw81_x_14 fw81_x_9 fw81_x_13 ia81_qs ia81_qr H locs hL1 hl1 bliv81_2 buiv81_2 bliv81_3 buiv81_3 blfw81_x_8 bufw81_x_8 blfw81_x_14 bufw81_x_14 blfw81_x_9 bufw81_x_9 blfw81_x_13 bufw81_x_13 vi81_0 vi81_1 ls hn81; exfalso; omega
                | succ n81 ih81 =>
                  intro iv81_2 iv81_3 fw81_x_8 fw81_x_14 fw81_x_9 fw81_x_13 ia81_qs ia81_qr H locs hL1 hl1 bliv81_2 buiv81_2 bliv81_3 buiv81_3 blfw81_x_8 bufw81_x_8 blfw81_x_14 bufw81_x_14 blfw81_x_9 bufw81_x_9 blfw81_x_13 bufw81_x_13 vi81_0 vi81_1 ls hn81 hW hT hM ffw81_x_8 ffw81_x_14 ffw81_x_9 ffw81_x_13 f_x_1 f_x_7 nia81_qs nia81_qr af_ql af_qn af_qp af_qd hl
                  refine lv_iload_n hx hb dX10_act_81 rfl (lv_at hl 1 rfl) ?_
                  refine hb_if_eq (zx := iv81_2.toInt) (tgt := 178) hx hb rfl dX10_act_82 ?o363 (fun c_143 => ?_) (fun c_143 => ?_)
                  case o363 => decide
                  · skip
                    refine lv_aload_n hx hb dX10_act_178 rfl (lv_at hl 2 rfl) ?_
                    refine lv_iconst (v := 0) hx hb dX10_act_179 ?o364 ?_
                    case o364 => decide
                    refine hx_puti hx hb hts hC_10 hown hW hT (hx_S.rf (M := [(10, 7)])) (gx.S hM) tt_10 7 ?o365 rfl kw_1150 ⟨rfl, rfl, rfl⟩ rfl (x := (0 : Int32)) ?o366 rfl rfl rfl (List.mem_singleton.mpr rfl) dX10_act_180 (fun H locs h_144 eh_144 hW hT hs => ?_)
                    case o365 => decide
                    case o366 => decide
                    replace f_x_1 := (hs.o (gx.S hM) trivial rfl).1.trans f_x_1
                    replace ffw81_x_8 := (hs.o (gx.S hM) trivial rfl).1.trans ffw81_x_8
                    replace ffw81_x_14 := (hs.o (gx.S hM) trivial rfl).1.trans ffw81_x_14
                    replace ffw81_x_9 := (hs.o (gx.S hM) trivial rfl).1.trans ffw81_x_9
                    replace ffw81_x_13 := (hs.o (gx.S hM) trivial rfl).1.trans ffw81_x_13
                    replace af_ql : h_144.2.1 ql = rf := (funext fun j => (hs.a (gql.S hM) rfl j).1).trans af_ql
                    replace af_qn : h_144.2.1 qn = psf := (funext fun j => (hs.a (gqn.S hM) rfl j).1).trans af_qn
                    replace af_qp : h_144.2.1 qp = prf := (funext fun j => (hs.a (gqp.S hM) rfl j).1).trans af_qp
                    replace af_qd : h_144.2.1 qd = adf := (funext fun j => (hs.a (gqd.S hM) rfl j).1).trans af_qd
                    replace nia81_qs : h_144.2.1 qs = ia81_qs := (funext fun j => (hs.a (gqs.S hM) rfl j).1).trans nia81_qs
                    replace nia81_qr : h_144.2.1 qr = ia81_qr := (funext fun j => (hs.a (gqr.S hM) rfl j).1).trans nia81_qr
                    replace hM := hM.tr (hs.mono ?o367)
                    case o367 => decide
                    have f_145 : h_144.2.1 x 7 = (0 : Int32) := ?o368
                    case o368 =>
                      rw [eh_144]
                      exact hx_pi_at _ _ _ _
                    refine lv_iload_n hx hb dX10_act_183 rfl (lv_at hl 1 rfl) ?_
                    refine hb_if_ne (zx := iv81_2.toInt) (tgt := 195) hx hb rfl dX10_act_184 ?o369 (fun c_146 => ?o370) (fun c_146 => ?_)
                    case o369 => decide
                    case o370 =>
                      exfalso
                      omega
                    have hm0 := hv_MI_0 vi81_1 ?o371
                    case o371 => omega
                    refine lv_bipush (v := -2) hx hb dX10_act_187 ?o372 ?_
                    case o372 => decide
                    refine lv_aload_n hx hb dX10_act_189 rfl (lv_at hl 2 rfl) ?_
                    refine hk_geti hx hb hts hC_10 hown hW (gx.S hM) tt_10 9 ?o373 rfl kw_1152 ⟨rfl, rfl, rfl⟩ ffw81_x_9 dX10_act_190 ?_
                    case o373 => decide
                    refine lv_isub hx hb dX10_act_193 ?_
                    have rg_147 := i32_r fw81_x_9
                    refine lv_topi (fun x_148 ex_148 => ?_)
                    have zo_0 : (0 : Int32).toInt = 0 := ?o374
                    case o374 => decide
                    refine hx_reti hx hb hr hlk hW ⟨⟨a0, (0 : Int32), rf, psf, prf, adf, f_x_1, f_145, af_ql, af_qn, af_qp, af_qd, ⟨?o375, hWK, hRP, Or.inr (Or.inl ⟨?o376, ?o377, ?o378, _, hm0.1, hm0.2, ex_148⟩), A, Or.inl ⟨?o379, rfl⟩, hCA⟩⟩, hT, hM⟩ dX10_act_194
                    case o375 => omega
                    case o376 => omega
                    case o377 => decide
                    case o378 => omega
                    case o379 => omega
                  · skip
                    refine lv_iload_n hx hb dX10_act_85 rfl (lv_at hl 0 rfl) ?_
                    refine hb_if_eq (zx := iv81_3.toInt) (tgt := 178) hx hb rfl dX10_act_86 ?o380 (fun c_149 => ?_) (fun c_149 => ?_)
                    case o380 => decide
                    · skip
                      refine lv_aload_n hx hb dX10_act_178 rfl (lv_at hl 2 rfl) ?_
                      refine lv_iconst (v := 0) hx hb dX10_act_179 ?o381 ?_
                      case o381 => decide
                      refine hx_puti hx hb hts hC_10 hown hW hT (hx_S.rf (M := [(10, 7)])) (gx.S hM) tt_10 7 ?o382 rfl kw_1150 ⟨rfl, rfl, rfl⟩ rfl (x := (0 : Int32)) ?o383 rfl rfl rfl (List.mem_singleton.mpr rfl) dX10_act_180 (fun H locs h_150 eh_150 hW hT hs => ?_)
                      case o382 => decide
                      case o383 => decide
                      replace f_x_1 := (hs.o (gx.S hM) trivial rfl).1.trans f_x_1
                      replace ffw81_x_8 := (hs.o (gx.S hM) trivial rfl).1.trans ffw81_x_8
                      replace ffw81_x_14 := (hs.o (gx.S hM) trivial rfl).1.trans ffw81_x_14
                      replace ffw81_x_9 := (hs.o (gx.S hM) trivial rfl).1.trans ffw81_x_9
                      replace ffw81_x_13 := (hs.o (gx.S hM) trivial rfl).1.trans ffw81_x_13
                      replace af_ql : h_150.2.1 ql = rf := (funext fun j => (hs.a (gql.S hM) rfl j).1).trans af_ql
                      replace af_qn : h_150.2.1 qn = psf := (funext fun j => (hs.a (gqn.S hM) rfl j).1).trans af_qn
                      replace af_qp : h_150.2.1 qp = prf := (funext fun j => (hs.a (gqp.S hM) rfl j).1).trans af_qp
                      replace af_qd : h_150.2.1 qd = adf := (funext fun j => (hs.a (gqd.S hM) rfl j).1).trans af_qd
                      replace nia81_qs : h_150.2.1 qs = ia81_qs := (funext fun j => (hs.a (gqs.S hM) rfl j).1).trans nia81_qs
                      replace nia81_qr : h_150.2.1 qr = ia81_qr := (funext fun j => (hs.a (gqr.S hM) rfl j).1).trans nia81_qr
                      replace hM := hM.tr (hs.mono ?o384)
                      case o384 => decide
                      have f_151 : h_150.2.1 x 7 = (0 : Int32) := ?o385
                      case o385 =>
                        rw [eh_150]
                        exact hx_pi_at _ _ _ _
                      refine lv_iload_n hx hb dX10_act_183 rfl (lv_at hl 1 rfl) ?_
                      refine hb_if_ne (zx := iv81_2.toInt) (tgt := 195) hx hb rfl dX10_act_184 ?o386 (fun c_152 => ?_) (fun c_152 => ?o387)
                      case o386 => decide
                      case o387 =>
                        exfalso
                        omega
                      have hrpE := (vi81_0 ?o388).1
                      case o388 => omega
                      have hrdE := (vi81_0 ?o389).2
                      case o389 => omega
                      obtain ⟨xm, snm, om, hmO, hmE⟩ := hv_MI_2 vi81_1 (by omega) (by omega)
                      refine lv_aload_n hx hb dX10_act_195 rfl (lv_at hl 2 rfl) ?_
                      refine lv_dup hx hb dX10_act_196 rfl ?_
                      refine hk_geti hx hb hts hC_10 hown hW (gx.S hM) tt_10 1 ?o390 rfl kw_1144 ⟨rfl, rfl, rfl⟩ f_x_1 dX10_act_197 ?_
                      case o390 => decide
                      refine lv_iconst (v := 1) hx hb dX10_act_200 ?o391 ?_
                      case o391 => decide
                      refine lv_iadd hx hb dX10_act_201 ?_
                      have rg_153 := i32_r a0
                      refine lv_topi (fun x_154 ex_154 => ?_)
                      have zx_154 : x_154.toInt = a0.toInt + 1 := ?o392
                      case o392 =>
                        rw [ex_154]
                        refine i32_add rfl ?o393 ?o394 ?o395
                        case o393 => decide
                        case o394 => omega
                        case o395 => omega
                      refine hx_puti hx hb hts hC_10 hown hW hT (hx_S.rf (M := [(10, 1)])) (gx.S hM) tt_10 1 ?o396 rfl kw_1144 ⟨rfl, rfl, rfl⟩ rfl (x := x_154) ⟨?o397, ?o398⟩ rfl rfl rfl (List.mem_singleton.mpr rfl) dX10_act_202 (fun H locs h_155 eh_155 hW hT hs => ?_)
                      case o396 => decide
                      case o397 => omega
                      case o398 => omega
                      replace ffw81_x_8 := (hs.o (gx.S hM) trivial rfl).1.trans ffw81_x_8
                      replace ffw81_x_14 := (hs.o (gx.S hM) trivial rfl).1.trans ffw81_x_14
                      replace ffw81_x_9 := (hs.o (gx.S hM) trivial rfl).1.trans ffw81_x_9
                      replace ffw81_x_13 := (hs.o (gx.S hM) trivial rfl).1.trans ffw81_x_13
                      replace f_151 := (hs.o (gx.S hM) trivial rfl).1.trans f_151
                      replace af_ql : h_155.2.1 ql = rf := (funext fun j => (hs.a (gql.S hM) rfl j).1).trans af_ql
                      replace af_qn : h_155.2.1 qn = psf := (funext fun j => (hs.a (gqn.S hM) rfl j).1).trans af_qn
                      replace af_qp : h_155.2.1 qp = prf := (funext fun j => (hs.a (gqp.S hM) rfl j).1).trans af_qp
                      replace af_qd : h_155.2.1 qd = adf := (funext fun j => (hs.a (gqd.S hM) rfl j).1).trans af_qd
                      replace nia81_qs : h_155.2.1 qs = ia81_qs := (funext fun j => (hs.a (gqs.S hM) rfl j).1).trans nia81_qs
                      replace nia81_qr : h_155.2.1 qr = ia81_qr := (funext fun j => (hs.a (gqr.S hM) rfl j).1).trans nia81_qr
                      replace hM := hM.tr (hs.mono ?o399)
                      case o399 => decide
                      have f_156 : h_155.2.1 x 1 = x_154 := ?o400
                      case o400 =>
                        rw [eh_155]
                        exact hx_pi_at _ _ _ _
                      refine lv_aload_n hx hb dX10_act_205 rfl (lv_at hl 2 rfl) ?_
                      refine hk_getr hx hb hts hC_10 hown hW (gx.S hM) tt_10 2 ?o401 rfl kw_1145 ⟨rfl, rfl, rfl⟩ ((hM.o gx trivial rfl).2.trans f_x_2) dX10_act_206 ?_
                      case o401 => decide
                      refine lv_aload_n hx hb dX10_act_209 rfl (lv_at hl 2 rfl) ?_
                      refine hk_geti hx hb hts hC_10 hown hW (gx.S hM) tt_10 1 ?o402 rfl kw_1144 ⟨rfl, rfl, rfl⟩ f_156 dX10_act_210 ?_
                      case o402 => decide
                      refine lv_iload_n hx hb dX10_act_213 rfl (lv_at hl 3 rfl) ?_
                      have af_qdO := af_qd
                      refine hx_iast hx hb hW hT (hx_S.rf (M := [(49, 0)])) (gqd.S hM) tt_49 rfl ⟨?o403, ?o404⟩ rfl (i32_r _) (List.mem_singleton.mpr rfl) dX10_act_214 (fun H locs h_157 eh_157 hW hT hs => ?_)
                      case o403 => omega
                      case o404 => omega
                      replace ffw81_x_8 := (hs.o (gx.S hM) trivial rfl).1.trans ffw81_x_8
                      replace ffw81_x_14 := (hs.o (gx.S hM) trivial rfl).1.trans ffw81_x_14
                      replace ffw81_x_9 := (hs.o (gx.S hM) trivial rfl).1.trans ffw81_x_9
                      replace ffw81_x_13 := (hs.o (gx.S hM) trivial rfl).1.trans ffw81_x_13
                      replace f_151 := (hs.o (gx.S hM) trivial rfl).1.trans f_151
                      replace f_156 := (hs.o (gx.S hM) trivial rfl).1.trans f_156
                      replace af_ql : h_157.2.1 ql = rf := (funext fun j => (hs.a (gql.S hM) rfl j).1).trans af_ql
                      replace af_qn : h_157.2.1 qn = psf := (funext fun j => (hs.a (gqn.S hM) rfl j).1).trans af_qn
                      replace af_qp : h_157.2.1 qp = prf := (funext fun j => (hs.a (gqp.S hM) rfl j).1).trans af_qp
                      replace nia81_qs : h_157.2.1 qs = ia81_qs := (funext fun j => (hs.a (gqs.S hM) rfl j).1).trans nia81_qs
                      replace nia81_qr : h_157.2.1 qr = ia81_qr := (funext fun j => (hs.a (gqr.S hM) rfl j).1).trans nia81_qr
                      replace hM := hM.tr (hs.mono ?o405)
                      case o405 => decide
                      obtain ⟨fa_158, dfa_158⟩ : ∃ g : Nat → Int32, g = hx_up adf x_154.toNatClampNeg i1 := ⟨_, rfl⟩
                      have nfa_158 : h_157.2.1 qd = fa_158 := ?o406
                      case o406 =>
                        rw [eh_157, dfa_158, ← af_qdO]
                        exact hx_pi_fun _ _ _ _
                      refine lv_iconst (v := 0) hx hb dX10_act_215 ?o407 ?_
                      case o407 => decide
                      refine lv_istore (lv' := [(4, .int (0 : Int32)), (3, .int iv81_3), (2, .int iv81_2), (0, .ref x), (1, .int i1)]) hx hb dX10_act_216 hl ?o408 rfl (fun ls hl => ?_)
                      case o408 => decide
                      have loop218 : ∀ (n218 : Nat) (iv218_4 : Int32) (ia218_ql : Nat → Int32) (H : Heap) (locs : List Loc) (hL1 : List Nat) (hl1 : hx_h), 0 ≤ iv218_4.toInt → iv218_4.toInt ≤ 13 → (hx_wk1 ia218_ql x_154.toInt iv218_4.toInt) → (hv_RL rf ia218_ql ia81_qr (x_154.toInt) iv218_4.toInt) → ∀ (ls : Array Slot), 13 - iv218_4.toInt < (n218 : Int) → hx_W T_tb (P_ty dA) (dC, dI) vwCl (hx_A L sz) s.heap hL1 hl1 s H locs → hx_T T_tb hL1 hl1 → hx_S T_tb [(10, 1), (10, 7), (10, 8), (10, 9), (10, 10), (10, 11), (10, 13), (10, 14), (10, 16), (10, 18), (49, 0), (50, 0), (51, 0), (52, 0), (54, 0), (55, 0), (56, 0)] L h hL1 hl1 → hl1.2.1 x 14 = fw81_x_14 → hl1.2.1 x 7 = (0 : Int32) → hl1.2.1 x 1 = x_154 → hl1.2.1 ql = ia218_ql → hl1.2.1 qn = psf → hl1.2.1 qp = prf → hl1.2.1 qs = ia81_qs → hl1.2.1 qr = ia81_qr → hl1.2.1 qd = fa_158 → lv_has ls 5 [(4, .int iv218_4), (3, .int iv81_3), (2, .int iv81_2), (0, .ref x), (1, .int i1)] → W p l e ({ frames := 6, cells := 0, slots := 0, locals := 141 }) s m ([.ref x, .int i1] : List Value).toArray below meth c H locs 0 0 (MQ below (va_Qi (fun (r : Int32) (u : List Nat × hx_h) => (∃ (a1 : Int32) (tp1 : Int32) (rf1 : Nat → Int32) (psf1 : Nat → Int32) (prf1 : Nat → Int32) (adf1 : Nat → Int32), u.2.2.1 x 1 = a1 ∧ u.2.2.1 x 7 = tp1 ∧ u.2.2.1 ql = rf1 ∧ u.2.2.1 qn = psf1 ∧ u.2.2.1 qp = prf1 ∧ u.2.2.1 qd = adf1 ∧ (a0.toInt ≤ a1.toInt ∧ hx_WK rf1 a1.toInt ∧ hx_RP prf1 psf1 a1.toInt ∧ hv_AN (8 ≤ a0.toInt ∨ i1.toInt < 0 ∨ 7999 < i1.toInt) (hv_ACT tf tp0.toInt.toNat hv_W0 hv_o0) r a0.toInt a1.toInt tp0.toInt tp1.toInt ∧ ∃ A1, hv_AU A a0.toInt a1.toInt i1.toInt (hv_ACT tf tp0.toInt.toNat hv_W0 hv_o0) A1 ∧ hv_CA adf1 rf1 psf1 prf1 a1.toInt A1)) ∧ hx_T T_tb u.1 u.2 ∧ hx_S T_tb [(10, 1), (10, 7), (10, 8), (10, 9), (10, 10), (10, 11), (10, 13), (10, 14), (10, 16), (10, 18), (49, 0), (50, 0), (51, 0), (52, 0), (54, 0), (55, 0), (56, 0)] L h u.1 u.2) (hx_E T_tb (P_ty dA) (dC, dI) vwCl (hx_A L sz)) (hx_A L sz)) ([.ref x, .int i1] : List Value).toArray s 0 0 (hx_A L sz)) (F0 m 218 ls []) := by
                        intro n218
                        induction n218 with
                        | zero => intro iv218_4 ia218_ql H locs hL1 hl1 bliv218_4 buiv218_4 vi218_0 vi218_1 ls hn218; exfalso; omega
                        | succ n218 ih218 =>
                          intro iv218_4 ia218_ql H locs hL1 hl1 bliv218_4 buiv218_4 vi218_0 vi218_1 ls hn218 hW hT hM ffw81_x_14 f_151 f_156 nia218_ql af_qn af_qp nia81_qs nia81_qr nfa_158 hl
                          refine lv_iload hx hb dX10_act_218 (lv_at hl 0 rfl) ?_
                          refine lv_bipush (v := 13) hx hb dX10_act_220 ?o409 ?_
                          case o409 => decide
                          refine hb_icmp_ge (zx := iv218_4.toInt) (zy := 13) (tgt := 253) hx hb rfl ?o410 dX10_act_222 ?o411 (fun c_159 => ?_) (fun c_159 => ?_)
                          case o410 => decide
                          case o411 => decide
                          · skip
                            refine lv_aload_n hx hb dX10_act_253 rfl (lv_at hl 3 rfl) ?_
                            refine lv_aload_n hx hb dX10_act_254 rfl (lv_at hl 3 rfl) ?_
                            refine hk_geti hx hb hts hC_10 hown hW (gx.S hM) tt_10 1 ?o412 rfl kw_1144 ⟨rfl, rfl, rfl⟩ f_156 dX10_act_255 ?_
                            case o412 => decide
                            refine hx_gov (hx_runV (As := [.int x_154]) (rest := []) ⟨hx, hb, hml, hown, hts⟩ hW (gx.S hM) tt_10 (T := TX10) (N := 98) rfl (t_X10_keepsProof l dC dI dA hL1 hl1 H.size x x_154 hT (gx.S hM) qs (gqs.S hM) ((hM.o gx trivial rfl).2.trans f_x_15) qn (gqn.S hM) ((hM.o gx trivial rfl).2.trans f_x_4) qp (gqp.S hM) ((hM.o gx trivial rfl).2.trans f_x_5) ia81_qs nia81_qs psf af_qn prf af_qp fw81_x_14 ffw81_x_14 ⟨?o413, ?o414⟩) (cwV 1 hts (hx_gV kw_1142 kw_1139 kw_1141 kw_51 kw_103) rfl rfl rfl (by decide +kernel) ⟨Nat.le_of_ble_eq_true rfl, Nat.le_of_ble_eq_true rfl⟩) rfl hl.1 rfl (Nat.le_of_ble_eq_true rfl) dX10_act_258 ⟨Nat.le_of_ble_eq_true rfl, Nat.le_of_ble_eq_true rfl⟩) hW (fun L_160 h_161 H locs p_163 hW => ?_)
                            case o413 => omega
                            case o414 => omega
                            obtain ⟨⟨w_165, w_166, fw_165, fw_166, hr_164⟩, hT, hs⟩ := p_163
                            replace hT : hx_T T_tb L_160 h_161 := hT
                            replace hs : hx_S T_tb [(51, 0), (52, 0)] hL1 hl1 L_160 h_161 := hs
                            replace ffw81_x_14 := (hs.o (gx.S hM) trivial rfl).1.trans ffw81_x_14
                            replace f_151 := (hs.o (gx.S hM) trivial rfl).1.trans f_151
                            replace f_156 := (hs.o (gx.S hM) trivial rfl).1.trans f_156
                            replace nia81_qs : h_161.2.1 qs = ia81_qs := (funext fun j => (hs.a (gqs.S hM) rfl j).1).trans nia81_qs
                            replace nia81_qr : h_161.2.1 qr = ia81_qr := (funext fun j => (hs.a (gqr.S hM) rfl j).1).trans nia81_qr
                            replace nfa_158 : h_161.2.1 qd = fa_158 := (funext fun j => (hs.a (gqd.S hM) rfl j).1).trans nfa_158
                            replace nia218_ql : h_161.2.1 ql = ia218_ql := (funext fun j => (hs.a (gql.S hM) rfl j).1).trans nia218_ql
                            replace hM := hM.tr (hs.mono ?o415)
                            case o415 => decide
                            have fw_165 : h_161.2.1 qn = w_165 := fw_165
                            have fw_166 : h_161.2.1 qp = w_166 := fw_166
                            refine lv_aload_n hx hb dX10_act_261 rfl (lv_at hl 3 rfl) ?_
                            refine hk_geti hx hb hts hC_10 hown hW (gx.S hM) tt_10 1 ?o416 rfl kw_1144 ⟨rfl, rfl, rfl⟩ f_156 dX10_act_262 ?_
                            case o416 => decide
                            refine lv_iconst (v := 1) hx hb dX10_act_265 ?o417 ?_
                            case o417 => decide
                            refine lv_isub hx hb dX10_act_266 ?_
                            have rg_167 := i32_r x_154
                            refine lv_topi (fun x_168 ex_168 => ?_)
                            have zx_168 : x_168.toInt = x_154.toInt - 1 := ?o418
                            case o418 =>
                              rw [ex_168]
                              refine i32_sub rfl ?o419 ?o420 ?o421
                              case o419 => decide
                              case o420 => omega
                              case o421 => omega
                            have zo_0 : (0 : Int32).toInt = 0 := ?o422
                            case o422 => decide
                            refine hx_reti hx hb hr hlk hW ⟨⟨x_154, (0 : Int32), ia218_ql, w_165, w_166, fa_158, f_156, f_151, nia218_ql, fw_165, fw_166, nfa_158, ⟨?o423, hx_wk1_e vi218_0 ?o424, hx_RP_new hRP rfl ?o425 ?o426 ?o427 ?o428 hrpE hr_164.1 hr_164.2, Or.inr (Or.inr ⟨?o429, ?o430, ?o431, ⟨_, hmE⟩, ?o432⟩), (fun k => if k = a0.toInt.toNat + 1 then (i1.toInt, hv_rR ia81_qr, om) else A k), Or.inr ⟨?o433, _, _, _, _, hmE, rfl⟩, (by have h9 := hv_CA_p (a := (i1.toInt, hv_rR ia81_qr, om)) (m := x_154.toInt) hCA (by omega) (by omega) rfl dfa_158 rfl (by omega) (by have h8 := vi218_1; rw [show iv218_4.toInt = 13 by omega] at h8; exact h8) rfl hr_164.1 hr_164.2 (by omega) hmO; exact h9)⟩⟩, hT, hM⟩ dX10_act_267
                            case o423 => omega
                            case o424 => omega
                            case o425 => omega
                            case o426 => omega
                            case o427 => omega
                            case o428 => omega
                            case o429 => omega
                            case o430 => decide
                            case o431 => omega
                            case o432 => omega
                            case o433 => omega
                          · skip
                            refine lv_aload_n hx hb dX10_act_225 rfl (lv_at hl 3 rfl) ?_
                            refine hk_getr hx hb hts hC_10 hown hW (gx.S hM) tt_10 3 ?o434 rfl kw_1146 ⟨rfl, rfl, rfl⟩ ((hM.o gx trivial rfl).2.trans f_x_3) dX10_act_226 ?_
                            case o434 => decide
                            refine lv_bipush (v := 13) hx hb dX10_act_229 ?o435 ?_
                            case o435 => decide
                            refine lv_aload_n hx hb dX10_act_231 rfl (lv_at hl 3 rfl) ?_
                            refine hk_geti hx hb hts hC_10 hown hW (gx.S hM) tt_10 1 ?o436 rfl kw_1144 ⟨rfl, rfl, rfl⟩ f_156 dX10_act_232 ?_
                            case o436 => decide
                            refine lv_imul hx hb dX10_act_235 ?_
                            refine lv_topi (fun x_169 ex_169 => ?_)
                            have zx_169 : x_169.toInt = 13 * x_154.toInt := ?o437
                            case o437 =>
                              rw [ex_169]
                              refine i32_mul ?o438 rfl rfl ?o439 ?o440
                              case o438 => decide
                              case o439 => omega
                              case o440 => omega
                            refine lv_iload hx hb dX10_act_236 (lv_at hl 0 rfl) ?_
                            refine lv_iadd hx hb dX10_act_238 ?_
                            have rg_170 := i32_r x_169
                            have rg_171 := i32_r iv218_4
                            refine lv_topi (fun x_172 ex_172 => ?_)
                            have zx_172 : x_172.toInt = x_169.toInt + iv218_4.toInt := ?o441
                            case o441 =>
                              rw [ex_172]
                              refine i32_add rfl rfl ?o442 ?o443
                              case o442 => omega
                              case o443 => omega
                            refine lv_aload_n hx hb dX10_act_239 rfl (lv_at hl 3 rfl) ?_
                            refine hk_getr hx hb hts hC_10 hown hW (gx.S hM) tt_10 12 ?o444 rfl kw_1155 ⟨rfl, rfl, rfl⟩ ((hM.o gx trivial rfl).2.trans f_x_12) dX10_act_240 ?_
                            case o444 => decide
                            refine lv_iload hx hb dX10_act_243 (lv_at hl 0 rfl) ?_
                            refine hx_iald hx hb hW hT (gqr.S hM) tt_54 rfl ⟨?o445, ?o446⟩ dX10_act_245 (fun x_173 ex_173 lx_173 ux_173 => ?_)
                            case o445 => omega
                            case o446 => omega
                            have ax_173 : x_173 = ia81_qr iv218_4.toNatClampNeg := ex_173.trans (congrFun nia81_qr _)
                            have nia218_qlO := nia218_ql
                            refine hx_iast hx hb hW hT (hx_S.rf (M := [(50, 0)])) (gql.S hM) tt_50 rfl ⟨?o447, ?o448⟩ rfl ⟨?o449, ?o450⟩ (List.mem_singleton.mpr rfl) dX10_act_246 (fun H locs h_174 eh_174 hW hT hs => ?_)
                            case o447 => omega
                            case o448 => omega
                            case o449 => omega
                            case o450 => omega
                            replace ffw81_x_14 := (hs.o (gx.S hM) trivial rfl).1.trans ffw81_x_14
                            replace f_151 := (hs.o (gx.S hM) trivial rfl).1.trans f_151
                            replace f_156 := (hs.o (gx.S hM) trivial rfl).1.trans f_156
                            replace af_qn : h_174.2.1 qn = psf := (funext fun j => (hs.a (gqn.S hM) rfl j).1).trans af_qn
                            replace af_qp : h_174.2.1 qp = prf := (funext fun j => (hs.a (gqp.S hM) rfl j).1).trans af_qp
                            replace nia81_qs : h_174.2.1 qs = ia81_qs := (funext fun j => (hs.a (gqs.S hM) rfl j).1).trans nia81_qs
                            replace nia81_qr : h_174.2.1 qr = ia81_qr := (funext fun j => (hs.a (gqr.S hM) rfl j).1).trans nia81_qr
                            replace nfa_158 : h_174.2.1 qd = fa_158 := (funext fun j => (hs.a (gqd.S hM) rfl j).1).trans nfa_158
                            replace ex_173 := ex_173.trans (hs.a (gqr.S hM) rfl _).1.symm
                            replace hM := hM.tr (hs.mono ?o451)
                            case o451 => decide
                            obtain ⟨fa_175, dfa_175⟩ : ∃ g : Nat → Int32, g = hx_up ia218_ql x_172.toNatClampNeg x_173 := ⟨_, rfl⟩
                            have nfa_175 : h_174.2.1 ql = fa_175 := ?o452
                            case o452 =>
                              rw [eh_174, dfa_175, ← nia218_qlO]
                              exact hx_pi_fun _ _ _ _
                            obtain ⟨x_176, ex_176⟩ : ∃ y : Int32, y = iv218_4 + Int32.ofInt 1 := ⟨_, rfl⟩
                            have zx_176 : x_176.toInt = iv218_4.toInt + (1) := ?o453
                            case o453 =>
                              rw [ex_176]
                              refine i32_add rfl ?o454 ?o455 ?o456
                              case o454 => decide
                              case o455 => omega
                              case o456 => omega
                            refine lv_iinc (v := x_176) (lv' := [(4, .int x_176), (3, .int iv81_3), (2, .int iv81_2), (0, .ref x), (1, .int i1)]) hx hb dX10_act_247 hl (k := 0) rfl ex_176.symm ?o457 rfl (fun ls hl => ?_)
                            case o457 => decide
                            refine lv_goto (tgt := 218) hx hb dX10_act_250 ?o458 ?_
                            case o458 => decide
                            refine ih218 x_176 fa_175 _ _ hL1 h_174 ?o459 ?o460 (hx_wk1_s vi218_0 ?o461 ?o462 ?o463 ?o464 ax_173 rfl hrdE dfa_175 zx_176) (hv_RL_s vi218_1 ?o465 ?o466 ?o467 ax_173 ?o468 dfa_175 zx_176) ls ?o469 hW hT hM ffw81_x_14 f_151 f_156 nfa_175 af_qn af_qp nia81_qs nia81_qr nfa_158 (lv_sub hl [0, 1, 2, 3, 4] rfl)
                            case o459 => omega
                            case o460 => omega
                            case o461 => omega
                            case o462 => omega
                            case o463 => omega
                            case o464 => omega
                            case o465 => omega
                            case o466 => omega
                            case o467 => omega
                            case o468 => omega
                            case o469 => omega
                      have zk_0 : (0 : Int32).toInt = 0 := ?o470
                      case o470 => decide
                      refine loop218 14 (0 : Int32) rf _ _ hL1 h_157 ?o471 ?o472 ⟨by rw [zx_154]; intro p h1 h2; exact hWK p h1 (by omega), hx_rk1_0⟩ (hv_RL_0 ?o473) ls ?o474 hW hT hM ffw81_x_14 f_151 f_156 af_ql af_qn af_qp nia81_qs nia81_qr nfa_158 hl
                      case o471 => decide
                      case o472 => decide
                      case o473 => decide
                      case o474 => omega
                    · skip
                      obtain ⟨hmF, hm0, hmn, om, hmO, hmE⟩ := hv_MI_1 vi81_1 (by omega) (by omega)
                      refine lv_aload_n hx hb dX10_act_89 rfl (lv_at hl 2 rfl) ?_
                      obtain ⟨fa_177, nfa_177⟩ : ∃ g : Nat → Int32, hl1.2.1 qo = g := ⟨_, rfl⟩
                      refine hx_goi (hx_runV (As := []) (rest := []) ⟨hx, hb, hml, hown, hts⟩ hW (gx.S hM) tt_10 (T := TX10) (N := 98) rfl (t_X10_clause_v l dC dI dA hL1 hl1 H.size x hT (gx.S hM) qs (gqs.S hM) ((hM.o gx trivial rfl).2.trans f_x_15) qo (gqo.S hM) ((hM.o gx trivial rfl).2.trans f_x_17) qt (gqt.S hM) ((hM.o gx trivial rfl).2.trans f_x_6) qw (gqw.S hM) ((hM.o gx trivial rfl).2.trans f_x_19) qr (gqr.S hM) ((hM.o gx trivial rfl).2.trans f_x_12) ia81_qs nia81_qs fa_177 nfa_177 tf (hx_afS hM gqt rfl af_qt) wf (hx_afS hM gqw rfl af_qw) ia81_qr nia81_qr fw81_x_8 ffw81_x_8 tp0 f_x_7 fw81_x_14 ffw81_x_14 fw81_x_9 ffw81_x_9 fw81_x_13 ffw81_x_13 (vi81_0 ?o475).1 (vi81_0 ?o476).2 hwd om hmO ?o477 ?o478) (cwV 0 hts (hx_gV kw_1472 kw_1469 kw_1471 kw_54 kw_103) rfl rfl rfl (by decide +kernel) ⟨Nat.le_of_ble_eq_true rfl, Nat.le_of_ble_eq_true rfl⟩) rfl hl.1 rfl (Nat.le_of_ble_eq_true rfl) dX10_act_90 ⟨Nat.le_of_ble_eq_true rfl, Nat.le_of_ble_eq_true rfl⟩) hW (fun r_180 L_178 h_179 H locs p_181 hW => ?_)
                      case o475 => omega
                      case o476 => omega
                      case o477 => omega
                      case o478 => omega
                      obtain ⟨⟨w_183, w_184, w_185, w_186, w_187, w_188, fw_183, fw_184, fw_185, fw_186, fw_187, fw_188, hr_182⟩, hT, hs⟩ := p_181
                      replace hT : hx_T T_tb L_178 h_179 := hT
                      replace hs : hx_S T_tb [(10, 8), (10, 9), (10, 10), (10, 11), (10, 13), (10, 14), (10, 16), (10, 18), (54, 0), (55, 0), (56, 0)] hL1 hl1 L_178 h_179 := hs
                      replace f_x_1 := (hs.o (gx.S hM) trivial rfl).1.trans f_x_1
                      replace f_x_7 := (hs.o (gx.S hM) trivial rfl).1.trans f_x_7
                      replace af_ql : h_179.2.1 ql = rf := (funext fun j => (hs.a (gql.S hM) rfl j).1).trans af_ql
                      replace af_qn : h_179.2.1 qn = psf := (funext fun j => (hs.a (gqn.S hM) rfl j).1).trans af_qn
                      replace af_qp : h_179.2.1 qp = prf := (funext fun j => (hs.a (gqp.S hM) rfl j).1).trans af_qp
                      replace af_qd : h_179.2.1 qd = adf := (funext fun j => (hs.a (gqd.S hM) rfl j).1).trans af_qd
                      replace hM := hM.tr (hs.mono ?o479)
                      case o479 => decide
                      have fw_183 : h_179.2.1 x 8 = w_183 := fw_183
                      have bw_183 := hT.gi (gx.S hM) tt_10 (k := 8) rfl
                      rw [fw_183] at bw_183
                      have bw_183 : 0 ≤ w_183.toInt ∧ w_183.toInt ≤ 402 := bw_183
                      have fw_184 : h_179.2.1 x 14 = w_184 := fw_184
                      have bw_184 := hT.gi (gx.S hM) tt_10 (k := 14) rfl
                      rw [fw_184] at bw_184
                      have bw_184 : 0 ≤ w_184.toInt ∧ w_184.toInt ≤ 128 := bw_184
                      have fw_185 : h_179.2.1 x 9 = w_185 := fw_185
                      have bw_185 := hT.gi (gx.S hM) tt_10 (k := 9) rfl
                      rw [fw_185] at bw_185
                      have bw_185 : -2147483648 ≤ w_185.toInt ∧ w_185.toInt ≤ 2147483647 := bw_185
                      have fw_186 : h_179.2.1 x 13 = w_186 := fw_186
                      have bw_186 := hT.gi (gx.S hM) tt_10 (k := 13) rfl
                      rw [fw_186] at bw_186
                      have bw_186 : -2147483648 ≤ w_186.toInt ∧ w_186.toInt ≤ 2147483647 := bw_186
                      have fw_187 : h_179.2.1 qs = w_187 := fw_187
                      have fw_188 : h_179.2.1 qr = w_188 := fw_188
                      have hr_182b := hv_CM_b hr_182.2.2.2
                      refine lv_istore_n (lv' := [(2, .int r_180), (3, .int iv81_3), (0, .ref x), (1, .int i1)]) hx hb dX10_act_93 rfl hl ?o480 rfl (fun ls hl => ?_)
                      case o480 => decide
                      refine lv_iload_n hx hb dX10_act_94 rfl (lv_at hl 0 rfl) ?_
                      refine hb_if_eq (zx := r_180.toInt) (tgt := 110) hx hb rfl dX10_act_95 ?o481 (fun c_189 => ?_) (fun c_189 => ?_)
                      case o481 => decide
                      · skip
                        refine lv_iconst (v := 0) hx hb dX10_act_110 ?o482 ?_
                        case o482 => decide
                        refine lv_istore_n (lv' := [(3, .int (0 : Int32)), (2, .int r_180), (0, .ref x), (1, .int i1)]) hx hb dX10_act_111 rfl hl ?o483 rfl (fun ls hl => ?_)
                        case o483 => decide
                        refine lv_iload_n hx hb dX10_act_112 rfl (lv_at hl 0 rfl) ?_
                        refine hb_if_eq (zx := 0) (tgt := 135) hx hb ?o484 dX10_act_113 ?o485 (fun c_190 => ?_) (fun c_190 => absurd c_190 ?o486)
                        case o484 => decide
                        case o485 => decide
                        case o486 => decide
                        refine lv_iload_n hx hb dX10_act_135 rfl (lv_at hl 0 rfl) ?_
                        refine hb_if_eq (zx := 0) (tgt := 149) hx hb ?o487 dX10_act_136 ?o488 (fun c_191 => ?_) (fun c_191 => absurd c_191 ?o489)
                        case o487 => decide
                        case o488 => decide
                        case o489 => decide
                        refine lv_iload_n hx hb dX10_act_149 rfl (lv_at hl 1 rfl) ?_
                        refine hb_if_eq (zx := r_180.toInt) (tgt := 81) hx hb rfl dX10_act_150 ?o490 (fun c_192 => ?_) (fun c_192 => ?o491)
                        case o490 => decide
                        case o491 =>
                          exfalso
                          omega
                        have zk_0 : (0 : Int32).toInt = 0 := ?o492
                        case o492 => decide
                        refine ih81 r_180 (0 : Int32) w_183 w_184 w_185 w_186 w_187 w_188 _ _ L_178 h_179 ?o493 ?o494 ?o495 ?o496 ?o497 ?o498 ?o499 ?o500 (i32_r _).1 (i32_r _).2 (i32_r _).1 (i32_r _).2 (fun z => (hr_182.2.2.1 ?o501).2.2) (have h8 := hv_CM_0 hr_182.2.2.2 ?o502; Or.inr (Or.inr ⟨?o503, h8.1, hv_AG_c hmE h8.2⟩)) ls ?o504 hW hT hM fw_183 fw_184 fw_185 fw_186 f_x_1 f_x_7 fw_187 fw_188 af_ql af_qn af_qp af_qd (lv_sub hl [0, 1, 2, 3] rfl)
                        case o493 => omega
                        case o494 => omega
                        case o495 => decide
                        case o496 => decide
                        case o497 => omega
                        case o498 => omega
                        case o499 => omega
                        case o500 => omega
                        case o501 => omega
                        case o502 => omega
                        case o503 => omega
                        case o504 => omega
                      · skip
                        obtain ⟨hcF, hc0, oc, hcO, hcE⟩ := hv_CM_1 hr_182.2.2.2 (by omega)
                        have hcR := hr_182.2.2.1 ?o505
                        case o505 => omega
                        refine lv_aload_n hx hb dX10_act_98 rfl (lv_at hl 2 rfl) ?_
                        refine hx_goi (hx_runV (As := []) (rest := []) ⟨hx, hb, hml, hown, hts⟩ hW (gx.S hM) tt_10 (T := TX10) (N := 98) rfl (t_X10_see_v l dC dI dA L_178 h_179 H.size x hT (gx.S hM) qt (gqt.S hM) ((hM.o gx trivial rfl).2.trans f_x_6) tf (hx_afS hM gqt rfl af_qt) w_183 fw_183 tp0 f_x_7 ?o506) (cwV 0 hts (hx_gV kw_1468 kw_1465 kw_1467 kw_53 kw_103) rfl rfl rfl (by decide +kernel) ⟨Nat.le_of_ble_eq_true rfl, Nat.le_of_ble_eq_true rfl⟩) rfl hl.1 rfl (Nat.le_of_ble_eq_true rfl) dX10_act_99 ⟨Nat.le_of_ble_eq_true rfl, Nat.le_of_ble_eq_true rfl⟩) hW (fun r_195 L_193 h_194 H locs p_196 hW => ?_)
                        case o506 => omega
                        obtain ⟨⟨w_198, fw_198, hr_197⟩, hT, hs⟩ := p_196
                        replace hT : hx_T T_tb L_193 h_194 := hT
                        replace hs : hx_S T_tb [(10, 8)] L_178 h_179 L_193 h_194 := hs
                        replace f_x_1 := (hs.o (gx.S hM) trivial rfl).1.trans f_x_1
                        replace f_x_7 := (hs.o (gx.S hM) trivial rfl).1.trans f_x_7
                        replace fw_184 := (hs.o (gx.S hM) trivial rfl).1.trans fw_184
                        replace fw_185 := (hs.o (gx.S hM) trivial rfl).1.trans fw_185
                        replace fw_186 := (hs.o (gx.S hM) trivial rfl).1.trans fw_186
                        replace af_ql : h_194.2.1 ql = rf := (funext fun j => (hs.a (gql.S hM) rfl j).1).trans af_ql
                        replace af_qn : h_194.2.1 qn = psf := (funext fun j => (hs.a (gqn.S hM) rfl j).1).trans af_qn
                        replace af_qp : h_194.2.1 qp = prf := (funext fun j => (hs.a (gqp.S hM) rfl j).1).trans af_qp
                        replace af_qd : h_194.2.1 qd = adf := (funext fun j => (hs.a (gqd.S hM) rfl j).1).trans af_qd
                        replace fw_187 : h_194.2.1 qs = w_187 := (funext fun j => (hs.a (gqs.S hM) rfl j).1).trans fw_187
                        replace fw_188 : h_194.2.1 qr = w_188 := (funext fun j => (hs.a (gqr.S hM) rfl j).1).trans fw_188
                        replace hM := hM.tr (hs.mono ?o507)
                        case o507 => decide
                        have fw_198 : h_194.2.1 x 8 = w_198 := fw_198
                        have bw_198 := hT.gi (gx.S hM) tt_10 (k := 8) rfl
                        rw [fw_198] at bw_198
                        have bw_198 : 0 ≤ w_198.toInt ∧ w_198.toInt ≤ 402 := bw_198
                        have ek_199 : w_198.toInt.toNat = hv_sk tf tp0.toInt.toNat w_183.toInt.toNat := ?o508
                        case o508 => omega
                        have hr_197S := hr_197.2.2.2.1
                        refine lv_iconst (v := -1) hx hb dX10_act_102 ?o509 ?_
                        case o509 => decide
                        refine hb_icmp_eq (zx := r_195.toInt) (zy := (-1)) (tgt := 110) hx hb rfl ?o510 dX10_act_103 ?o511 (fun c_200 => ?_) (fun c_200 => ?_)
                        case o510 => decide
                        case o511 => decide
                        · skip
                          refine lv_iconst (v := 0) hx hb dX10_act_110 ?o512 ?_
                          case o512 => decide
                          refine lv_istore_n (lv' := [(3, .int (0 : Int32)), (2, .int r_180), (0, .ref x), (1, .int i1)]) hx hb dX10_act_111 rfl hl ?o513 rfl (fun ls hl => ?_)
                          case o513 => decide
                          refine lv_iload_n hx hb dX10_act_112 rfl (lv_at hl 0 rfl) ?_
                          refine hb_if_eq (zx := 0) (tgt := 135) hx hb ?o514 dX10_act_113 ?o515 (fun c_201 => ?_) (fun c_201 => absurd c_201 ?o516)
                          case o514 => decide
                          case o515 => decide
                          case o516 => decide
                          refine lv_iload_n hx hb dX10_act_135 rfl (lv_at hl 0 rfl) ?_
                          refine hb_if_eq (zx := 0) (tgt := 149) hx hb ?o517 dX10_act_136 ?o518 (fun c_202 => ?_) (fun c_202 => absurd c_202 ?o519)
                          case o517 => decide
                          case o518 => decide
                          case o519 => decide
                          refine lv_iload_n hx hb dX10_act_149 rfl (lv_at hl 1 rfl) ?_
                          refine hb_if_eq (zx := r_180.toInt) (tgt := 81) hx hb rfl dX10_act_150 ?o520 (fun c_203 => ?o521) (fun c_203 => ?_)
                          case o520 => decide
                          case o521 =>
                            exfalso
                            omega
                          refine lv_iload_n hx hb dX10_act_153 rfl (lv_at hl 0 rfl) ?_
                          refine hb_if_eq (zx := 0) (tgt := 81) hx hb ?o522 dX10_act_154 ?o523 (fun c_204 => ?_) (fun c_204 => absurd c_204 ?o524)
                          case o522 => decide
                          case o523 => decide
                          case o524 => decide
                          have zk_0 : (0 : Int32).toInt = 0 := ?o525
                          case o525 => decide
                          refine ih81 r_180 (0 : Int32) w_198 w_184 w_185 w_186 w_187 w_188 _ _ L_193 h_194 ?o526 ?o527 ?o528 ?o529 ?o530 ?o531 ?o532 ?o533 (i32_r _).1 (i32_r _).2 (i32_r _).1 (i32_r _).2 (fun z => (hr_182.2.2.1 ?o534).2.2) (Or.inr (Or.inl ⟨?o535, ?o536, _, _, oc, hcO, hv_AG_2 hmE hcE (by rw [← ek_199]; have h7 := hv_SE_e hr_197S (by omega); omega)⟩)) ls ?o537 hW hT hM fw_198 fw_184 fw_185 fw_186 f_x_1 f_x_7 fw_187 fw_188 af_ql af_qn af_qp af_qd (lv_sub hl [0, 1, 2, 3] rfl)
                          case o526 => omega
                          case o527 => omega
                          case o528 => decide
                          case o529 => decide
                          case o530 => omega
                          case o531 => omega
                          case o532 => omega
                          case o533 => omega
                          case o534 => omega
                          case o535 => omega
                          case o536 => decide
                          case o537 => omega
                        · skip
                          refine lv_iconst (v := 1) hx hb dX10_act_106 ?o538 ?_
                          case o538 => decide
                          refine lv_goto (tgt := 111) hx hb dX10_act_107 ?o539 ?_
                          case o539 => decide
                          refine lv_istore_n (lv' := [(3, .int (1 : Int32)), (2, .int r_180), (0, .ref x), (1, .int i1)]) hx hb dX10_act_111 rfl hl ?o540 rfl (fun ls hl => ?_)
                          case o540 => decide
                          refine lv_iload_n hx hb dX10_act_112 rfl (lv_at hl 0 rfl) ?_
                          refine hb_if_eq (zx := 1) (tgt := 135) hx hb ?o541 dX10_act_113 ?o542 (fun c_205 => absurd c_205 ?o543) (fun c_205 => ?_)
                          case o541 => decide
                          case o542 => decide
                          case o543 => decide
                          refine lv_aload_n hx hb dX10_act_116 rfl (lv_at hl 2 rfl) ?_
                          refine hx_goi (hx_runV (As := []) (rest := []) ⟨hx, hb, hml, hown, hts⟩ hW (gx.S hM) tt_10 (T := TX10) (N := 98) rfl (t_X10_see_v l dC dI dA L_193 h_194 H.size x hT (gx.S hM) qt (gqt.S hM) ((hM.o gx trivial rfl).2.trans f_x_6) tf (hx_afS hM gqt rfl af_qt) w_198 fw_198 tp0 f_x_7 ?o544) (cwV 0 hts (hx_gV kw_1468 kw_1465 kw_1467 kw_53 kw_103) rfl rfl rfl (by decide +kernel) ⟨Nat.le_of_ble_eq_true rfl, Nat.le_of_ble_eq_true rfl⟩) rfl hl.1 rfl (Nat.le_of_ble_eq_true rfl) dX10_act_117 ⟨Nat.le_of_ble_eq_true rfl, Nat.le_of_ble_eq_true rfl⟩) hW (fun r_208 L_206 h_207 H locs p_209 hW => ?_)
                          case o544 => omega
                          obtain ⟨⟨w_211, fw_211, hr_210⟩, hT, hs⟩ := p_209
                          replace hT : hx_T T_tb L_206 h_207 := hT
                          replace hs : hx_S T_tb [(10, 8)] L_193 h_194 L_206 h_207 := hs
                          replace f_x_1 := (hs.o (gx.S hM) trivial rfl).1.trans f_x_1
                          replace f_x_7 := (hs.o (gx.S hM) trivial rfl).1.trans f_x_7
                          replace fw_184 := (hs.o (gx.S hM) trivial rfl).1.trans fw_184
                          replace fw_185 := (hs.o (gx.S hM) trivial rfl).1.trans fw_185
                          replace fw_186 := (hs.o (gx.S hM) trivial rfl).1.trans fw_186
                          replace af_ql : h_207.2.1 ql = rf := (funext fun j => (hs.a (gql.S hM) rfl j).1).trans af_ql
                          replace af_qn : h_207.2.1 qn = psf := (funext fun j => (hs.a (gqn.S hM) rfl j).1).trans af_qn
                          replace af_qp : h_207.2.1 qp = prf := (funext fun j => (hs.a (gqp.S hM) rfl j).1).trans af_qp
                          replace af_qd : h_207.2.1 qd = adf := (funext fun j => (hs.a (gqd.S hM) rfl j).1).trans af_qd
                          replace fw_187 : h_207.2.1 qs = w_187 := (funext fun j => (hs.a (gqs.S hM) rfl j).1).trans fw_187
                          replace fw_188 : h_207.2.1 qr = w_188 := (funext fun j => (hs.a (gqr.S hM) rfl j).1).trans fw_188
                          replace hM := hM.tr (hs.mono ?o545)
                          case o545 => decide
                          have fw_211 : h_207.2.1 x 8 = w_211 := fw_211
                          have bw_211 := hT.gi (gx.S hM) tt_10 (k := 8) rfl
                          rw [fw_211] at bw_211
                          have bw_211 : 0 ≤ w_211.toInt ∧ w_211.toInt ≤ 402 := bw_211
                          have ek_212 : w_211.toInt.toNat = hv_sk tf tp0.toInt.toNat w_198.toInt.toNat := ?o546
                          case o546 => omega
                          have hr_210S := hr_210.2.2.2.1
                          have e22 : w_211.toInt.toNat = w_198.toInt.toNat := ?o547
                          case o547 =>
                            rw [ek_212, ek_199]
                            exact hv_sk_id
                          have h1s9 := hv_SE_s hr_197S ?o548
                          case o548 => omega
                          refine lv_bipush (v := 59) hx hb dX10_act_120 ?o549 ?_
                          case o549 => decide
                          refine hb_icmp_eq (zx := r_208.toInt) (zy := 59) (tgt := 135) hx hb rfl ?o550 dX10_act_122 ?o551 (fun c_213 => ?_) (fun c_213 => ?_)
                          case o550 => decide
                          case o551 => decide
                          · skip
                            refine lv_iload_n hx hb dX10_act_135 rfl (lv_at hl 0 rfl) ?_
                            refine hb_if_eq (zx := 1) (tgt := 149) hx hb ?o552 dX10_act_136 ?o553 (fun c_214 => absurd c_214 ?o554) (fun c_214 => ?_)
                            case o552 => decide
                            case o553 => decide
                            case o554 => decide
                            refine lv_aload_n hx hb dX10_act_139 rfl (lv_at hl 2 rfl) ?_
                            refine lv_dup hx hb dX10_act_140 rfl ?_
                            refine hk_geti hx hb hts hC_10 hown hW (gx.S hM) tt_10 8 ?o555 rfl kw_1151 ⟨rfl, rfl, rfl⟩ fw_211 dX10_act_141 ?_
                            case o555 => decide
                            refine lv_iconst (v := 1) hx hb dX10_act_144 ?o556 ?_
                            case o556 => decide
                            refine lv_iadd hx hb dX10_act_145 ?_
                            have rg_215 := i32_r w_211
                            refine lv_topi (fun x_216 ex_216 => ?_)
                            have zx_216 : x_216.toInt = w_211.toInt + 1 := ?o557
                            case o557 =>
                              rw [ex_216]
                              refine i32_add rfl ?o558 ?o559 ?o560
                              case o558 => decide
                              case o559 => omega
                              case o560 => omega
                            refine hx_puti hx hb hts hC_10 hown hW hT (hx_S.rf (M := [(10, 8)])) (gx.S hM) tt_10 8 ?o561 rfl kw_1151 ⟨rfl, rfl, rfl⟩ rfl (x := x_216) ⟨?o562, ?o563⟩ rfl rfl rfl (List.mem_singleton.mpr rfl) dX10_act_146 (fun H locs h_217 eh_217 hW hT hs => ?_)
                            case o561 => decide
                            case o562 => omega
                            case o563 => omega
                            replace f_x_1 := (hs.o (gx.S hM) trivial rfl).1.trans f_x_1
                            replace f_x_7 := (hs.o (gx.S hM) trivial rfl).1.trans f_x_7
                            replace fw_184 := (hs.o (gx.S hM) trivial rfl).1.trans fw_184
                            replace fw_185 := (hs.o (gx.S hM) trivial rfl).1.trans fw_185
                            replace fw_186 := (hs.o (gx.S hM) trivial rfl).1.trans fw_186
                            replace af_ql : h_217.2.1 ql = rf := (funext fun j => (hs.a (gql.S hM) rfl j).1).trans af_ql
                            replace af_qn : h_217.2.1 qn = psf := (funext fun j => (hs.a (gqn.S hM) rfl j).1).trans af_qn
                            replace af_qp : h_217.2.1 qp = prf := (funext fun j => (hs.a (gqp.S hM) rfl j).1).trans af_qp
                            replace af_qd : h_217.2.1 qd = adf := (funext fun j => (hs.a (gqd.S hM) rfl j).1).trans af_qd
                            replace fw_187 : h_217.2.1 qs = w_187 := (funext fun j => (hs.a (gqs.S hM) rfl j).1).trans fw_187
                            replace fw_188 : h_217.2.1 qr = w_188 := (funext fun j => (hs.a (gqr.S hM) rfl j).1).trans fw_188
                            replace hM := hM.tr (hs.mono ?o564)
                            case o564 => decide
                            have f_218 : h_217.2.1 x 8 = x_216 := ?o565
                            case o565 =>
                              rw [eh_217]
                              exact hx_pi_at _ _ _ _
                            refine lv_iload_n hx hb dX10_act_149 rfl (lv_at hl 1 rfl) ?_
                            refine hb_if_eq (zx := r_180.toInt) (tgt := 81) hx hb rfl dX10_act_150 ?o566 (fun c_219 => ?o567) (fun c_219 => ?_)
                            case o566 => decide
                            case o567 =>
                              exfalso
                              omega
                            refine lv_iload_n hx hb dX10_act_153 rfl (lv_at hl 0 rfl) ?_
                            refine hb_if_eq (zx := 1) (tgt := 81) hx hb ?o568 dX10_act_154 ?o569 (fun c_220 => absurd c_220 ?o570) (fun c_220 => ?_)
                            case o568 => decide
                            case o569 => decide
                            case o570 => decide
                            refine lv_aload_n hx hb dX10_act_157 rfl (lv_at hl 2 rfl) ?_
                            refine hx_goi (hx_runV (As := []) (rest := []) ⟨hx, hb, hml, hown, hts⟩ hW (gx.S hM) tt_10 (T := TX10) (N := 98) rfl (t_X10_see_v l dC dI dA L_206 h_217 H.size x hT (gx.S hM) qt (gqt.S hM) ((hM.o gx trivial rfl).2.trans f_x_6) tf (hx_afS hM gqt rfl af_qt) x_216 f_218 tp0 f_x_7 ?o571) (cwV 0 hts (hx_gV kw_1468 kw_1465 kw_1467 kw_53 kw_103) rfl rfl rfl (by decide +kernel) ⟨Nat.le_of_ble_eq_true rfl, Nat.le_of_ble_eq_true rfl⟩) rfl hl.1 rfl (Nat.le_of_ble_eq_true rfl) dX10_act_158 ⟨Nat.le_of_ble_eq_true rfl, Nat.le_of_ble_eq_true rfl⟩) hW (fun r_223 L_221 h_222 H locs p_224 hW => ?_)
                            case o571 => omega
                            obtain ⟨⟨w_226, fw_226, hr_225⟩, hT, hs⟩ := p_224
                            replace hT : hx_T T_tb L_221 h_222 := hT
                            replace hs : hx_S T_tb [(10, 8)] L_206 h_217 L_221 h_222 := hs
                            replace f_x_1 := (hs.o (gx.S hM) trivial rfl).1.trans f_x_1
                            replace f_x_7 := (hs.o (gx.S hM) trivial rfl).1.trans f_x_7
                            replace fw_184 := (hs.o (gx.S hM) trivial rfl).1.trans fw_184
                            replace fw_185 := (hs.o (gx.S hM) trivial rfl).1.trans fw_185
                            replace fw_186 := (hs.o (gx.S hM) trivial rfl).1.trans fw_186
                            replace af_ql : h_222.2.1 ql = rf := (funext fun j => (hs.a (gql.S hM) rfl j).1).trans af_ql
                            replace af_qn : h_222.2.1 qn = psf := (funext fun j => (hs.a (gqn.S hM) rfl j).1).trans af_qn
                            replace af_qp : h_222.2.1 qp = prf := (funext fun j => (hs.a (gqp.S hM) rfl j).1).trans af_qp
                            replace af_qd : h_222.2.1 qd = adf := (funext fun j => (hs.a (gqd.S hM) rfl j).1).trans af_qd
                            replace fw_187 : h_222.2.1 qs = w_187 := (funext fun j => (hs.a (gqs.S hM) rfl j).1).trans fw_187
                            replace fw_188 : h_222.2.1 qr = w_188 := (funext fun j => (hs.a (gqr.S hM) rfl j).1).trans fw_188
                            replace hM := hM.tr (hs.mono ?o572)
                            case o572 => decide
                            have fw_226 : h_222.2.1 x 8 = w_226 := fw_226
                            have bw_226 := hT.gi (gx.S hM) tt_10 (k := 8) rfl
                            rw [fw_226] at bw_226
                            have bw_226 : 0 ≤ w_226.toInt ∧ w_226.toInt ≤ 402 := bw_226
                            have ek_227 : w_226.toInt.toNat = hv_sk tf tp0.toInt.toNat x_216.toInt.toNat := ?o573
                            case o573 => omega
                            have hr_225S := hr_225.2.2.2.1
                            refine lv_iconst (v := -1) hx hb dX10_act_161 ?o574 ?_
                            case o574 => decide
                            refine hb_icmp_ne (zx := r_223.toInt) (zy := (-1)) (tgt := 81) hx hb rfl ?o575 dX10_act_162 ?o576 (fun c_228 => ?_) (fun c_228 => ?_)
                            case o575 => decide
                            case o576 => decide
                            · skip
                              have zk_1 : (1 : Int32).toInt = 1 := ?o577
                              case o577 => decide
                              refine ih81 r_180 (1 : Int32) w_226 w_184 w_185 w_186 w_187 w_188 _ _ L_221 h_222 ?o578 ?o579 ?o580 ?o581 ?o582 ?o583 ?o584 ?o585 (i32_r _).1 (i32_r _).2 (i32_r _).1 (i32_r _).2 (fun z => (hr_182.2.2.1 ?o586).2.2) (hv_MI_t (x := w_226.toInt.toNat) ?o587 ?o588 ?o589 ?o590 ?o591 hcO ((hv_AG_4 hmE hcE (by rw [← ek_199]; have h7 := hv_SE_s hr_197S (by omega); omega) (by rw [← ek_199, ← e22]; exact (hv_SE_y (k := 59) hr_210S (by decide) (by decide) (by omega)).2)).trans (hv_AL_sk.symm.trans (by rw [← ek_199, show w_198.toInt.toNat + 1 = x_216.toInt.toNat by omega, ← ek_227])))) ls ?o592 hW hT hM fw_226 fw_184 fw_185 fw_186 f_x_1 f_x_7 fw_187 fw_188 af_ql af_qn af_qp af_qd (lv_sub hl [0, 1, 2, 3] rfl)
                              case o578 => omega
                              case o579 => omega
                              case o580 => decide
                              case o581 => decide
                              case o582 => omega
                              case o583 => omega
                              case o584 => omega
                              case o585 => omega
                              case o586 => omega
                              case o587 => omega
                              case o588 => decide
                              case o589 => omega
                              case o590 => omega
                              case o591 => omega
                              case o592 => omega
                            · skip
                              refine lv_aload_n hx hb dX10_act_165 rfl (lv_at hl 2 rfl) ?_
                              refine lv_iconst (v := 0) hx hb dX10_act_166 ?o593 ?_
                              case o593 => decide
                              refine lv_aload_n hx hb dX10_act_167 rfl (lv_at hl 2 rfl) ?_
                              refine hk_geti hx hb hts hC_10 hown hW (gx.S hM) tt_10 8 ?o594 rfl kw_1151 ⟨rfl, rfl, rfl⟩ fw_226 dX10_act_168 ?_
                              case o594 => decide
                              have zc_0 : (0 : Int32).toInt = 0 := ?o595
                              case o595 => decide
                              refine hx_goi (hx_runV (As := [.int (0 : Int32), .int w_226]) (rest := []) ⟨hx, hb, hml, hown, hts⟩ hW (gx.S hM) tt_10 (T := TX10) (N := 98) rfl (t_X10_fails_v l dC dI dA L_221 h_222 H.size x (0 : Int32) w_226 hT (gx.S hM) w_185 fw_185 ?o596 ?o597 ⟨?o598, ?o599⟩) (cwV 2 hts (hx_gV kw_1480 kw_1477 kw_1479 kw_56 kw_103) rfl rfl rfl (by decide +kernel) ⟨Nat.le_of_ble_eq_true rfl, Nat.le_of_ble_eq_true rfl⟩) rfl hl.1 rfl (Nat.le_of_ble_eq_true rfl) dX10_act_171 ⟨Nat.le_of_ble_eq_true rfl, Nat.le_of_ble_eq_true rfl⟩) hW (fun r_231 L_229 h_230 H locs p_232 hW => ?_)
                              case o596 => omega
                              case o597 => decide
                              case o598 => omega
                              case o599 => omega
                              obtain ⟨⟨w_234, fw_234, hr_233⟩, hT, hs⟩ := p_232
                              replace hT : hx_T T_tb L_229 h_230 := hT
                              replace hs : hx_S T_tb [(10, 9)] L_221 h_222 L_229 h_230 := hs
                              replace f_x_1 := (hs.o (gx.S hM) trivial rfl).1.trans f_x_1
                              replace f_x_7 := (hs.o (gx.S hM) trivial rfl).1.trans f_x_7
                              replace fw_184 := (hs.o (gx.S hM) trivial rfl).1.trans fw_184
                              replace fw_186 := (hs.o (gx.S hM) trivial rfl).1.trans fw_186
                              replace fw_226 := (hs.o (gx.S hM) trivial rfl).1.trans fw_226
                              replace af_ql : h_230.2.1 ql = rf := (funext fun j => (hs.a (gql.S hM) rfl j).1).trans af_ql
                              replace af_qn : h_230.2.1 qn = psf := (funext fun j => (hs.a (gqn.S hM) rfl j).1).trans af_qn
                              replace af_qp : h_230.2.1 qp = prf := (funext fun j => (hs.a (gqp.S hM) rfl j).1).trans af_qp
                              replace af_qd : h_230.2.1 qd = adf := (funext fun j => (hs.a (gqd.S hM) rfl j).1).trans af_qd
                              replace fw_187 : h_230.2.1 qs = w_187 := (funext fun j => (hs.a (gqs.S hM) rfl j).1).trans fw_187
                              replace fw_188 : h_230.2.1 qr = w_188 := (funext fun j => (hs.a (gqr.S hM) rfl j).1).trans fw_188
                              replace hM := hM.tr (hs.mono ?o600)
                              case o600 => decide
                              have fw_234 : h_230.2.1 x 9 = w_234 := fw_234
                              have bw_234 := hT.gi (gx.S hM) tt_10 (k := 9) rfl
                              rw [fw_234] at bw_234
                              have bw_234 : -2147483648 ≤ w_234.toInt ∧ w_234.toInt ≤ 2147483647 := bw_234
                              refine lv_istore_n (lv' := [(2, .int r_231), (3, .int (1 : Int32)), (0, .ref x), (1, .int i1)]) hx hb dX10_act_174 rfl hl ?o601 rfl (fun ls hl => ?_)
                              case o601 => decide
                              refine lv_goto (tgt := 81) hx hb dX10_act_175 ?o602 ?_
                              case o602 => decide
                              have zk_1 : (1 : Int32).toInt = 1 := ?o603
                              case o603 => decide
                              refine ih81 r_231 (1 : Int32) w_226 w_184 w_234 w_186 w_187 w_188 _ _ L_229 h_230 ?o604 ?o605 ?o606 ?o607 ?o608 ?o609 ?o610 ?o611 (i32_r _).1 (i32_r _).2 (i32_r _).1 (i32_r _).2 (fun z => (hr_182.2.2.1 ?o612).2.2) (hv_MI_f (x := 1 + 8 * w_226.toInt.toNat) ?o613 ?o614 ?o615 ((hv_AG_4 hmE hcE (by rw [← ek_199]; have h7 := hv_SE_s hr_197S (by omega); omega) (by rw [← ek_199, ← e22]; exact (hv_SE_y (k := 59) hr_210S (by decide) (by decide) (by omega)).2)).trans (hv_AL_sk.symm.trans ((hv_AL_n (by rw [← ek_199, show w_198.toInt.toNat + 1 = x_216.toInt.toNat by omega, ← ek_227]; have h7 := hv_SE_e hr_225S (by omega); omega)).trans (by rw [← ek_199, show w_198.toInt.toNat + 1 = x_216.toInt.toNat by omega, ← ek_227]))))) ls ?o616 hW hT hM fw_226 fw_184 fw_234 fw_186 f_x_1 f_x_7 fw_187 fw_188 af_ql af_qn af_qp af_qd (lv_sub hl [1, 0, 2, 3] rfl)
                              case o604 => omega
                              case o605 => omega
                              case o606 => decide
                              case o607 => decide
                              case o608 => omega
                              case o609 => omega
                              case o610 => omega
                              case o611 => omega
                              case o612 => omega
                              case o613 => omega
                              case o614 => omega
                              case o615 => omega
                              case o616 => omega
                          · skip
                            refine lv_aload_n hx hb dX10_act_125 rfl (lv_at hl 2 rfl) ?_
                            refine lv_iconst (v := 0) hx hb dX10_act_126 ?o617 ?_
                            case o617 => decide
                            refine lv_aload_n hx hb dX10_act_127 rfl (lv_at hl 2 rfl) ?_
                            refine hk_geti hx hb hts hC_10 hown hW (gx.S hM) tt_10 8 ?o618 rfl kw_1151 ⟨rfl, rfl, rfl⟩ fw_211 dX10_act_128 ?_
                            case o618 => decide
                            have zc_0 : (0 : Int32).toInt = 0 := ?o619
                            case o619 => decide
                            refine hx_goi (hx_runV (As := [.int (0 : Int32), .int w_211]) (rest := []) ⟨hx, hb, hml, hown, hts⟩ hW (gx.S hM) tt_10 (T := TX10) (N := 98) rfl (t_X10_fails_v l dC dI dA L_206 h_207 H.size x (0 : Int32) w_211 hT (gx.S hM) w_185 fw_185 ?o620 ?o621 ⟨?o622, ?o623⟩) (cwV 2 hts (hx_gV kw_1480 kw_1477 kw_1479 kw_56 kw_103) rfl rfl rfl (by decide +kernel) ⟨Nat.le_of_ble_eq_true rfl, Nat.le_of_ble_eq_true rfl⟩) rfl hl.1 rfl (Nat.le_of_ble_eq_true rfl) dX10_act_131 ⟨Nat.le_of_ble_eq_true rfl, Nat.le_of_ble_eq_true rfl⟩) hW (fun r_237 L_235 h_236 H locs p_238 hW => ?_)
                            case o620 => omega
                            case o621 => decide
                            case o622 => omega
                            case o623 => omega
                            obtain ⟨⟨w_240, fw_240, hr_239⟩, hT, hs⟩ := p_238
                            replace hT : hx_T T_tb L_235 h_236 := hT
                            replace hs : hx_S T_tb [(10, 9)] L_206 h_207 L_235 h_236 := hs
                            replace f_x_1 := (hs.o (gx.S hM) trivial rfl).1.trans f_x_1
                            replace f_x_7 := (hs.o (gx.S hM) trivial rfl).1.trans f_x_7
                            replace fw_184 := (hs.o (gx.S hM) trivial rfl).1.trans fw_184
                            replace fw_186 := (hs.o (gx.S hM) trivial rfl).1.trans fw_186
                            replace fw_211 := (hs.o (gx.S hM) trivial rfl).1.trans fw_211
                            replace af_ql : h_236.2.1 ql = rf := (funext fun j => (hs.a (gql.S hM) rfl j).1).trans af_ql
                            replace af_qn : h_236.2.1 qn = psf := (funext fun j => (hs.a (gqn.S hM) rfl j).1).trans af_qn
                            replace af_qp : h_236.2.1 qp = prf := (funext fun j => (hs.a (gqp.S hM) rfl j).1).trans af_qp
                            replace af_qd : h_236.2.1 qd = adf := (funext fun j => (hs.a (gqd.S hM) rfl j).1).trans af_qd
                            replace fw_187 : h_236.2.1 qs = w_187 := (funext fun j => (hs.a (gqs.S hM) rfl j).1).trans fw_187
                            replace fw_188 : h_236.2.1 qr = w_188 := (funext fun j => (hs.a (gqr.S hM) rfl j).1).trans fw_188
                            replace hM := hM.tr (hs.mono ?o624)
                            case o624 => decide
                            have fw_240 : h_236.2.1 x 9 = w_240 := fw_240
                            have bw_240 := hT.gi (gx.S hM) tt_10 (k := 9) rfl
                            rw [fw_240] at bw_240
                            have bw_240 : -2147483648 ≤ w_240.toInt ∧ w_240.toInt ≤ 2147483647 := bw_240
                            refine lv_istore_n (lv' := [(2, .int r_237), (3, .int (1 : Int32)), (0, .ref x), (1, .int i1)]) hx hb dX10_act_134 rfl hl ?o625 rfl (fun ls hl => ?_)
                            case o625 => decide
                            refine lv_iload_n hx hb dX10_act_135 rfl (lv_at hl 1 rfl) ?_
                            refine hb_if_eq (zx := 1) (tgt := 149) hx hb ?o626 dX10_act_136 ?o627 (fun c_241 => absurd c_241 ?o628) (fun c_241 => ?_)
                            case o626 => decide
                            case o627 => decide
                            case o628 => decide
                            refine lv_aload_n hx hb dX10_act_139 rfl (lv_at hl 2 rfl) ?_
                            refine lv_dup hx hb dX10_act_140 rfl ?_
                            refine hk_geti hx hb hts hC_10 hown hW (gx.S hM) tt_10 8 ?o629 rfl kw_1151 ⟨rfl, rfl, rfl⟩ fw_211 dX10_act_141 ?_
                            case o629 => decide
                            refine lv_iconst (v := 1) hx hb dX10_act_144 ?o630 ?_
                            case o630 => decide
                            refine lv_iadd hx hb dX10_act_145 ?_
                            have rg_242 := i32_r w_211
                            refine lv_topi (fun x_243 ex_243 => ?_)
                            have zx_243 : x_243.toInt = w_211.toInt + 1 := ?o631
                            case o631 =>
                              rw [ex_243]
                              refine i32_add rfl ?o632 ?o633 ?o634
                              case o632 => decide
                              case o633 => omega
                              case o634 => omega
                            refine hx_puti hx hb hts hC_10 hown hW hT (hx_S.rf (M := [(10, 8)])) (gx.S hM) tt_10 8 ?o635 rfl kw_1151 ⟨rfl, rfl, rfl⟩ rfl (x := x_243) ⟨?o636, ?o637⟩ rfl rfl rfl (List.mem_singleton.mpr rfl) dX10_act_146 (fun H locs h_244 eh_244 hW hT hs => ?_)
                            case o635 => decide
                            case o636 => omega
                            case o637 => omega
                            replace f_x_1 := (hs.o (gx.S hM) trivial rfl).1.trans f_x_1
                            replace f_x_7 := (hs.o (gx.S hM) trivial rfl).1.trans f_x_7
                            replace fw_184 := (hs.o (gx.S hM) trivial rfl).1.trans fw_184
                            replace fw_186 := (hs.o (gx.S hM) trivial rfl).1.trans fw_186
                            replace fw_240 := (hs.o (gx.S hM) trivial rfl).1.trans fw_240
                            replace af_ql : h_244.2.1 ql = rf := (funext fun j => (hs.a (gql.S hM) rfl j).1).trans af_ql
                            replace af_qn : h_244.2.1 qn = psf := (funext fun j => (hs.a (gqn.S hM) rfl j).1).trans af_qn
                            replace af_qp : h_244.2.1 qp = prf := (funext fun j => (hs.a (gqp.S hM) rfl j).1).trans af_qp
                            replace af_qd : h_244.2.1 qd = adf := (funext fun j => (hs.a (gqd.S hM) rfl j).1).trans af_qd
                            replace fw_187 : h_244.2.1 qs = w_187 := (funext fun j => (hs.a (gqs.S hM) rfl j).1).trans fw_187
                            replace fw_188 : h_244.2.1 qr = w_188 := (funext fun j => (hs.a (gqr.S hM) rfl j).1).trans fw_188
                            replace hM := hM.tr (hs.mono ?o638)
                            case o638 => decide
                            have f_245 : h_244.2.1 x 8 = x_243 := ?o639
                            case o639 =>
                              rw [eh_244]
                              exact hx_pi_at _ _ _ _
                            refine lv_iload_n hx hb dX10_act_149 rfl (lv_at hl 0 rfl) ?_
                            refine hb_if_eq (zx := r_237.toInt) (tgt := 81) hx hb rfl dX10_act_150 ?o640 (fun c_246 => ?_) (fun c_246 => ?o641)
                            case o640 => decide
                            case o641 =>
                              exfalso
                              omega
                            have zk_1 : (1 : Int32).toInt = 1 := ?o642
                            case o642 => decide
                            refine ih81 r_237 (1 : Int32) x_243 w_184 w_240 w_186 w_187 w_188 _ _ L_235 h_244 ?o643 ?o644 ?o645 ?o646 ?o647 ?o648 ?o649 ?o650 (i32_r _).1 (i32_r _).2 (i32_r _).1 (i32_r _).2 (fun z => (hr_182.2.2.1 ?o651).2.2) (hv_MI_f (x := 1 + 8 * w_211.toInt.toNat) ?o652 ?o653 ?o654 ((hv_AG_3 hmE hcE (by rw [← ek_199]; have h7 := hv_SE_s hr_197S (by omega); omega) (by rw [← ek_199, ← e22]; exact fun z9 => hv_SE_n (k := 59) hr_210S (by omega) ⟨by omega, z9, by decide⟩)).trans (by rw [← ek_199, ← e22]))) ls ?o655 hW hT hM f_245 fw_184 fw_240 fw_186 f_x_1 f_x_7 fw_187 fw_188 af_ql af_qn af_qp af_qd (lv_sub hl [1, 0, 2, 3] rfl)
                            case o643 => omega
                            case o644 => omega
                            case o645 => decide
                            case o646 => decide
                            case o647 => omega
                            case o648 => omega
                            case o649 => omega
                            case o650 => omega
                            case o651 => omega
                            case o652 => omega
                            case o653 => omega
                            case o654 => omega
                            case o655 => omega
              have zk_1 : (1 : Int32).toInt = 1 := ?o656
              case o656 => decide
              have zk_1 : (1 : Int32).toInt = 1 := ?o657
              case o657 => decide
              have zk_0 : (0 : Int32).toInt = 0 := ?o658
              case o658 => decide
              have zk_0 : (0 : Int32).toInt = 0 := ?o659
              case o659 => decide
              refine loop81 404 (1 : Int32) (1 : Int32) w_36 w_29 (0 : Int32) (0 : Int32) w_30 ia35_qr _ _ L_31 h_32 ?o660 ?o661 ?o662 ?o663 ?o664 ?o665 ?o666 ?o667 ?o668 ?o669 ?o670 ?o671 (fun _ => ⟨hr_28.1, hrd0⟩) (hv_MI_t (x := w_36.toInt.toNat) ?o672 ?o673 ?o674 ?o675 ?o676 hr_28.2 (by have k9 := ek_37; rw [show (0 : Int32).toInt.toNat = 0 from by decide] at k9; have h7 := hv_SE_s hr_35S (by omega); rw [hv_sR_0, hrW0, k9]; exact hv_ACT_1 (by rw [← k9]; omega))) ls ?o677 hW hT hM fw_36 fw_29 f_11 f_13 f_x_1 f_x_7 fw_30 nia35_qr af_ql af_qn af_qp af_qd hl
              case o660 => decide
              case o661 => decide
              case o662 => decide
              case o663 => decide
              case o664 => omega
              case o665 => omega
              case o666 => omega
              case o667 => omega
              case o668 => decide
              case o669 => decide
              case o670 => decide
              case o671 => decide
              case o672 => decide
              case o673 => decide
              case o674 => decide
              case o675 => omega
              case o676 => omega
              case o677 => omega
          · skip
            refine lv_aload_n hx hb dX10_act_41 rfl (lv_at hl 1 rfl) ?_
            refine hk_getr hx hb hts hC_10 hown hW (gx.S hM) tt_10 12 ?o678 rfl kw_1155 ⟨rfl, rfl, rfl⟩ ((hM.o gx trivial rfl).2.trans f_x_12) dX10_act_42 ?_
            case o678 => decide
            refine lv_iload_n hx hb dX10_act_45 rfl (lv_at hl 0 rfl) ?_
            refine lv_iload_n hx hb dX10_act_46 rfl (lv_at hl 0 rfl) ?_
            refine hx_goi (hx_runS (As := [.int iv35_2]) (rest := [.int iv35_2, .ref qr]) ⟨hx, hb, hml, hown, hts⟩ hW (t_X10_without_v l dC dI dA hL1 hl1 H.size iv35_2 hT ⟨?o679, ?o680⟩) (va_cwS 1 hts (hx_gS kw_1121 kw_1119 kw_1120 kw_103) rfl rfl rfl (by decide +kernel) ⟨Nat.le_of_ble_eq_true rfl, Nat.le_of_ble_eq_true rfl⟩) rfl hl.1 rfl (Nat.le_of_ble_eq_true rfl) dX10_act_47 ⟨Nat.le_of_ble_eq_true rfl, Nat.le_of_ble_eq_true rfl⟩) hW (fun r_249 L_247 h_248 H locs p_250 hW => ?_)
            case o679 => omega
            case o680 => omega
            obtain ⟨hr_251, hT, hs⟩ := p_250
            replace hT : hx_T T_tb L_247 h_248 := hT
            replace hs : hx_S T_tb [] hL1 hl1 L_247 h_248 := hs
            replace f_x_1 := (hs.o (gx.S hM) trivial rfl).1.trans f_x_1
            replace f_x_7 := (hs.o (gx.S hM) trivial rfl).1.trans f_x_7
            replace f_9 := (hs.o (gx.S hM) trivial rfl).1.trans f_9
            replace f_11 := (hs.o (gx.S hM) trivial rfl).1.trans f_11
            replace f_13 := (hs.o (gx.S hM) trivial rfl).1.trans f_13
            replace af_ql : h_248.2.1 ql = rf := (funext fun j => (hs.a (gql.S hM) rfl j).1).trans af_ql
            replace af_qn : h_248.2.1 qn = psf := (funext fun j => (hs.a (gqn.S hM) rfl j).1).trans af_qn
            replace af_qp : h_248.2.1 qp = prf := (funext fun j => (hs.a (gqp.S hM) rfl j).1).trans af_qp
            replace af_qd : h_248.2.1 qd = adf := (funext fun j => (hs.a (gqd.S hM) rfl j).1).trans af_qd
            replace nia35_qr : h_248.2.1 qr = ia35_qr := (funext fun j => (hs.a (gqr.S hM) rfl j).1).trans nia35_qr
            replace hM := hM.tr (hs.mono ?o681)
            case o681 => decide
            have nia35_qrO := nia35_qr
            refine hx_iast hx hb hW hT (hx_S.rf (M := [(54, 0)])) (gqr.S hM) tt_54 rfl ⟨?o682, ?o683⟩ rfl ⟨?o684, ?o685⟩ (List.mem_singleton.mpr rfl) dX10_act_50 (fun H locs h_252 eh_252 hW hT hs => ?_)
            case o682 => omega
            case o683 => omega
            case o684 => omega
            case o685 => omega
            replace f_x_1 := (hs.o (gx.S hM) trivial rfl).1.trans f_x_1
            replace f_x_7 := (hs.o (gx.S hM) trivial rfl).1.trans f_x_7
            replace f_9 := (hs.o (gx.S hM) trivial rfl).1.trans f_9
            replace f_11 := (hs.o (gx.S hM) trivial rfl).1.trans f_11
            replace f_13 := (hs.o (gx.S hM) trivial rfl).1.trans f_13
            replace af_ql : h_252.2.1 ql = rf := (funext fun j => (hs.a (gql.S hM) rfl j).1).trans af_ql
            replace af_qn : h_252.2.1 qn = psf := (funext fun j => (hs.a (gqn.S hM) rfl j).1).trans af_qn
            replace af_qp : h_252.2.1 qp = prf := (funext fun j => (hs.a (gqp.S hM) rfl j).1).trans af_qp
            replace af_qd : h_252.2.1 qd = adf := (funext fun j => (hs.a (gqd.S hM) rfl j).1).trans af_qd
            replace hM := hM.tr (hs.mono ?o686)
            case o686 => decide
            obtain ⟨fa_253, dfa_253⟩ : ∃ g : Nat → Int32, g = hx_up ia35_qr iv35_2.toNatClampNeg r_249 := ⟨_, rfl⟩
            have nfa_253 : h_252.2.1 qr = fa_253 := ?o687
            case o687 =>
              rw [eh_252, dfa_253, ← nia35_qrO]
              exact hx_pi_fun _ _ _ _
            obtain ⟨x_254, ex_254⟩ : ∃ y : Int32, y = iv35_2 + Int32.ofInt 1 := ⟨_, rfl⟩
            have rg_255 := i32_r iv35_2
            have zx_254 : x_254.toInt = iv35_2.toInt + (1) := ?o688
            case o688 =>
              rw [ex_254]
              refine i32_add rfl ?o689 ?o690 ?o691
              case o689 => decide
              case o690 => omega
              case o691 => omega
            refine lv_iinc (v := x_254) (lv' := [(2, .int x_254), (0, .ref x), (1, .int i1)]) hx hb dX10_act_51 hl (k := 0) rfl ex_254.symm ?o692 rfl (fun ls hl => ?_)
            case o692 => decide
            refine lv_goto (tgt := 35) hx hb dX10_act_54 ?o693 ?_
            case o693 => decide
            refine ih35 x_254 fa_253 _ _ L_247 h_252 ?o694 ?o695 (hx_rd2 vi35_0 dfa_253 ?o696 ?o697 (fun z => ?o698) (fun z => ?o699) zx_254) (hv_WI_s vi35_1 dfa_253 ?o700 hr_251.1 zx_254) ls ?o701 hW hT hM f_x_1 f_x_7 f_9 f_11 f_13 nfa_253 af_ql af_qn af_qp af_qd (lv_sub hl [0, 1, 2] rfl)
            case o694 => omega
            case o695 => omega
            case o696 => omega
            case o697 => omega
            case o698 => omega
            case o699 => omega
            case o700 => omega
            case o701 => omega
      have zk_0 : (0 : Int32).toInt = 0 := ?o702
      case o702 => decide
      refine loop35 14 (0 : Int32) rd _ _ L_2 h_12 ?o703 ?o704 hx_rk1_0 (hv_WI_0 ?o705) ls ?o706 hW hT hM f_x_1 f_x_7 f_9 f_11 f_13 af_qr af_ql af_qn af_qp af_qd hl
      case o703 => decide
      case o704 => decide
      case o705 => decide
      case o706 => omega
    · skip
      replace hr_6 := hr_6.resolve_right (fun z9 => absurd (c_7.symm.trans z9.1) ?o707)
      case o707 => decide
      replace hr_6 := hr_6.2
      refine lv_iconst (v := -1) hx hb dX10_act_16 ?o708 ?_
      case o708 => decide
      refine hx_reti hx hb hr hlk hW ⟨⟨a0, tp0, rf, psf, prf, adf, f_x_1, f_x_7, af_ql, af_qn, af_qp, af_qd, ⟨?o709, hWK, hRP, Or.inl ⟨?o710, rfl, ?o711, ?o712⟩, A, Or.inl ⟨?o713, rfl⟩, hCA⟩⟩, hT, hM⟩ dX10_act_17
      case o709 => omega
      case o710 => omega
      case o711 => omega
      case o712 => omega
      case o713 => omega
end
section
/-! WHAT IS FED -/
theorem hv_nb8 {x s : Int32} (e : x = s.toInt8.toInt32) : vp_nar .byte x = x := by
  show x.toInt8.toInt32 = x
  rw [e, Int8.toInt8_toInt32]
theorem hv_nb9 {x s : Int32} (e : x = s.toInt8.toInt32) : -128 ≤ x.toInt ∧ x.toInt ≤ 127 := by
  have h := hx_nb x
  rw [hv_nb8 e] at h; exact h
def hv_BY (v : Int32) (k : Nat) : Int32 := (v >>> ((Int32.ofInt (24 - 8 * (k : Int))) &&& 31)).toInt8.toInt32
def hv_FD (f : Nat → Int32) (t : Nat) (v : Int32) : Nat → (Nat → Int32)
  | 0 => f
  | k + 1 => hx_up (hv_FD f t v k) (t + k) (hv_BY v k)
theorem hv_FD_s {f F f1 : Nat → Int32} {t v i l x s i1 : Int32} (h : F = hv_FD f t.toInt.toNat v (i.toInt - t.toInt).toNat) (e : f1 = hx_up F i.toNatClampNeg x) (es : s = v >>> (l &&& 31)) (ex : x = s.toInt8.toInt32) (h0 : 0 ≤ t.toInt) (h1 : t.toInt ≤ i.toInt) (hl : 8 * i.toInt = 8 * t.toInt + 24 - l.toInt) (l0 : 0 ≤ l.toInt) (ei : i1.toInt = i.toInt + 1) : f1 = hv_FD f t.toInt.toNat v (i1.toInt - t.toInt).toNat := by
  obtain ⟨k, hk⟩ : ∃ k : Nat, k = (i.toInt - t.toInt).toNat := ⟨_, rfl⟩
  have hl2 : l = Int32.ofInt (24 - 8 * (k : Int)) := Int32.toInt_inj.mp (by
    have h8 : ∀ k : Nat, k < 4 → (Int32.ofInt (24 - 8 * (k : Int))).toInt = 24 - 8 * (k : Int) := by decide +kernel
    rw [h8 k (by omega)]; omega)
  rw [show (i1.toInt - t.toInt).toNat = k + 1 by omega, e, h, ← hk, ex, es, hl2, show i.toNatClampNeg = t.toInt.toNat + k by unfold Int32.toNatClampNeg; omega]
  rfl
def hv_F5 (f : Nat → Int32) (n : Nat) (a b c d e : Int32) : Nat → Int32 := hv_FD (hv_FD (hv_FD (hv_FD (hv_FD f n a 4) (n + 4) b 4) (n + 8) c 4) (n + 12) d 4) (n + 16) e 4
theorem hv_F5_e {f0 f1 f2 f3 f4 f5 : Nat → Int32} {n n1 n2 n3 n4 : Nat} {a b c d e : Int32} (h1 : f1 = hv_FD f0 n a 4) (h2 : f2 = hv_FD f1 n1 b 4) (h3 : f3 = hv_FD f2 n2 c 4) (h4 : f4 = hv_FD f3 n3 d 4) (h5 : f5 = hv_FD f4 n4 e 4) (e1 : n1 = n + 4) (e2 : n2 = n + 8) (e3 : n3 = n + 12) (e4 : n4 = n + 16) : f5 = hv_F5 f0 n a b c d e := by
  rw [h5, h4, h3, h2, h1, e1, e2, e3, e4]; rfl
/-- what feed answers -/
def hv_FE (f : Nat → Int32) (t a b c d e r t1 : Int32) (f1 : Nat → Int32) : Prop := (380 < t.toInt ∧ r = -1 ∧ t1 = t ∧ f1 = f) ∨ (t.toInt ≤ 380 ∧ r = t1 ∧ t1.toInt = t.toInt + 20 ∧ f1 = hv_F5 f t.toInt.toNat a b c d e)
theorem hv_FE_eq {f : Nat → Int32} {t a b c d e r t1 r' t1' : Int32} {f1 f1' : Nat → Int32} (h : hv_FE f t a b c d e r t1 f1) (h' : hv_FE f t a b c d e r' t1' f1') : r = r' ∧ t1 = t1' ∧ f1 = f1' := by
  obtain ⟨z, h1, h2, h3⟩ | ⟨z, h1, h2, h3⟩ := h <;> obtain ⟨z', h1', h2', h3'⟩ | ⟨z', h1', h2', h3'⟩ := h'
  · exact ⟨h1.trans h1'.symm, h2.trans h2'.symm, h3.trans h3'.symm⟩
  · exfalso; omega
  · exfalso; omega
  · have ht : t1 = t1' := Int32.toInt_inj.mp (by omega)
    exact ⟨h1.trans (ht.trans h1'.symm), ht, h3.trans h3'.symm⟩
/-- what end answers -/
def hv_EN (i t r t1 : Int32) : Prop := ((i.toInt < 0 ∨ t.toInt < i.toInt) ∧ r = -1 ∧ t1 = t) ∨ (0 ≤ i.toInt ∧ i.toInt ≤ t.toInt ∧ r = i ∧ t1 = i)
theorem hv_EN_eq {i t r t1 r' t1' : Int32} (h : hv_EN i t r t1) (h' : hv_EN i t r' t1') : r = r' ∧ t1 = t1' := by
  obtain ⟨z, h1, h2⟩ | ⟨z, y, h1, h2⟩ := h <;> obtain ⟨z', h1', h2'⟩ | ⟨z', y', h1', h2'⟩ := h'
  · exact ⟨h1.trans h1'.symm, h2.trans h2'.symm⟩
  · exfalso; omega
  · exfalso; omega
  · exact ⟨h1.trans h1'.symm, h2.trans h2'.symm⟩
/-- what the class's new act holds -/
theorem hv_o0_c {f : Nat → Int32} (h : (f 0).toInt = 144 ∧ (f 1).toInt = 17 ∧ (f 2).toInt = -1) : hv_ls f 3 = hv_o0.map hv_cc := by
  show (f 2).toInt :: (f 1).toInt :: (f 0).toInt :: [] = _
  rw [h.1, h.2.1, h.2.2]; decide
theorem hv_pr0 {f : Nat → Int32} {a b c : Int32} (ha : a.toInt = 144) (hb : b.toInt = 17) (hc : c.toInt = -1) : ((hx_up (hx_up (hx_up f (0 : Int32).toNatClampNeg a) (1 : Int32).toNatClampNeg b) (2 : Int32).toNatClampNeg c) 0).toInt = 144 ∧ ((hx_up (hx_up (hx_up f (0 : Int32).toNatClampNeg a) (1 : Int32).toNatClampNeg b) (2 : Int32).toNatClampNeg c) 1).toInt = 17 ∧ ((hx_up (hx_up (hx_up f (0 : Int32).toNatClampNeg a) (1 : Int32).toNatClampNeg b) (2 : Int32).toNatClampNeg c) 2).toInt = -1 := by
  have e0 : (0 : Int32).toNatClampNeg = 0 := by decide
  have e1 : (1 : Int32).toNatClampNeg = 1 := by decide
  have e2 : (2 : Int32).toNatClampNeg = 2 := by decide
  rw [e0, e1, e2]
  refine ⟨?_, ?_, ?_⟩
  · rw [hx_up_ne (by decide), hx_up_ne (by decide)]; exact (congrArg Int32.toInt (hx_up_at (f := f) (k := 0) (v := a))).trans ha
  · rw [hx_up_ne (by decide)]; exact (congrArg Int32.toInt (hx_up_at (f := hx_up f 0 a) (k := 1) (v := b))).trans hb
  · exact (congrArg Int32.toInt (hx_up_at (f := hx_up (hx_up f 0 a) 1 b) (k := 2) (v := c))).trans hc
section HVAR
variable {e : hv_tok → Int} {sp : Nat ⊕ hv_st} {r : Int} {rd : Nat → Int} {ls : List Int}
theorem hv_AR_0 (h : hv_AR e sp r rd ls) (z : r ≤ 0) : ∃ q, sp = .inr q := by
  obtain ⟨_, x, sn, o, _, w⟩ | ⟨a, _⟩ := h
  · exact ⟨_, w⟩
  · exfalso; omega
theorem hv_AR_1 (h : hv_AR e sp r rd ls) (z : r ≠ 0) : 1 ≤ r ∧ sp = .inl r.toNat := by
  obtain ⟨a, _⟩ | w := h
  · exact absurd a z
  · exact w
end HVAR
end
