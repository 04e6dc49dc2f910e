section
set_option maxHeartbeats 4000000 in
set_option maxRecDepth 100000 in
theorem t_X6_refuse_v (l : Launch) (dC : Nat → ClassId) (dI : Nat → Nat → Nat) (dA : Nat → ClassId) (L : List Nat) (h : hx_h) (sz : Nat) (x : Nat) (i1 : Int32) (i2 : Int32) (hT : hx_T T_tb L h) (gx : hx_g L h x 6) (hi1 : 0 ≤ i1.toInt ∧ i1.toInt ≤ 402) (hi2 : 0 ≤ i2.toInt ∧ i2.toInt ≤ 4) : Met l yX6_refuse (Cond.code yX6_refuse cX6_refuse 3 (some .boolean) :: hx_all) ({ frames := 0, cells := 0, slots := 0, locals := 0 }) (va_Pc [.ref x, .int i1, .int i2] (hx_B T_tb (P_ty dA) (dC, dI) vwCl L h sz)) (va_Qi (fun (r : Int32) (u : List Nat × hx_h) => (∃ (ft1 : Int32), u.2.2.1 x 3 = ft1 ∧ (r.toInt = 0 ∧ ft1.toInt = 1 + 8 * i1.toInt + i2.toInt)) ∧ hx_T T_tb u.1 u.2 ∧ hx_S T_tb [(6, 3)] L h u.1 u.2) (hx_E T_tb (P_ty dA) (dC, dI) vwCl (hx_A L sz)) (hx_A L sz)) 0 0 (hx_A L sz) := by
  refine hx_met (lv := [(0, .ref x), (1, .int i1), (2, .int i2)]) (by decide +kernel) rfl (Nat.le_of_ble_eq_true rfl) rfl ?_
  intro p e s m below meth c hx hb hml hr hlk hts0 hown hin hsz hW ls hl
  have hts : ∀ w ∈ hx_all, w.before _ s = true := fun w hw => hts0 w (List.mem_cons_of_mem _ hw)
  have hown : s.vm.findClass "SmallCourt$Reader" = some m.cls := hown
  have hM : hx_S T_tb [(6, 3)] L h L h := hx_S.rf
  refine lv_aload_n hx hb dX6_refuse_0 rfl (lv_at hl 0 rfl) ?_
  refine lv_iconst (v := 1) hx hb dX6_refuse_1 ?o0 ?_
  case o0 => decide
  refine lv_bipush (v := 8) hx hb dX6_refuse_2 ?o1 ?_
  case o1 => decide
  refine lv_iload_n hx hb dX6_refuse_4 rfl (lv_at hl 1 rfl) ?_
  refine lv_imul hx hb dX6_refuse_5 ?_
  refine lv_topi (fun x_1 ex_1 => ?_)
  have zx_1 : x_1.toInt = 8 * i1.toInt := ?o2
  case o2 =>
    rw [ex_1]
    refine i32_mul ?o3 rfl rfl ?o4 ?o5
    case o3 => decide
    case o4 => omega
    case o5 => omega
  refine lv_iadd hx hb dX6_refuse_6 ?_
  have rg_2 := i32_r x_1
  refine lv_topi (fun x_3 ex_3 => ?_)
  have zx_3 : x_3.toInt = 1 + x_1.toInt := ?o6
  case o6 =>
    rw [ex_3]
    refine i32_add ?o7 rfl ?o8 ?o9
    case o7 => decide
    case o8 => omega
    case o9 => omega
  refine lv_iload_n hx hb dX6_refuse_7 rfl (lv_at hl 2 rfl) ?_
  refine lv_iadd hx hb dX6_refuse_8 ?_
  have rg_4 := i32_r x_3
  have rg_5 := i32_r i2
  refine lv_topi (fun x_6 ex_6 => ?_)
  have zx_6 : x_6.toInt = x_3.toInt + i2.toInt := ?o10
  case o10 =>
    rw [ex_6]
    refine i32_add rfl rfl ?o11 ?o12
    case o11 => omega
    case o12 => omega
  refine hx_puti hx hb hts hC_6 hown hW hT (hx_S.rf (M := [(6, 3)])) (gx.S hM) tt_6 3 ?o13 rfl kw_128 ⟨rfl, rfl, rfl⟩ rfl (x := x_6) (i32_r _) rfl rfl rfl (List.mem_singleton.mpr rfl) dX6_refuse_9 (fun H locs h_7 eh_7 hW hT hs => ?_)
  case o13 => decide
  replace hM := hM.tr (hs.mono ?o14)
  case o14 => decide
  have f_8 : h_7.2.1 x 3 = x_6 := ?o15
  case o15 =>
    rw [eh_7]
    exact hx_pi_at _ _ _ _
  refine lv_iconst (v := 0) hx hb dX6_refuse_12 ?o16 ?_
  case o16 => decide
  refine hx_retz hx hb hr rfl hlk hW ⟨⟨x_6, f_8, ⟨?o17, ?o18⟩⟩, hT, hM⟩ dX6_refuse_13
  case o17 => decide
  case o18 => omega


set_option maxHeartbeats 4000000 in
set_option maxRecDepth 100000 in
theorem t_X0_addProof_v (l : Launch) (dC : Nat → ClassId) (dI : Nat → Nat → Nat) (dA : Nat → ClassId) (L : List Nat) (h : hx_h) (sz : Nat) (x : Nat) (i1 : Int32) (hT : hx_T T_tb L h) (gx : hx_g L h x 129) (qp : Nat) (gqp : hx_g L h qp 128) (f_x_3 : h.2.2 x 3 = some qp) (pf : Nat → Int32) (af_qp : h.2.1 qp = pf) (pl0 : Int32) (f_x_4 : h.2.1 x 4 = pl0) (hpl : pl0.toInt < 160) : Met l yX0_addProof (Cond.code yX0_addProof cX0_addProof 2 none :: hx_all) ({ frames := 0, cells := 0, slots := 0, locals := 0 }) (va_Pc [.ref x, .int i1] (hx_B T_tb (P_ty dA) (dC, dI) vwCl L h sz)) (va_Qv (fun (u : List Nat × hx_h) => (∃ (pl1 : Int32) (pf1 : Nat → Int32), u.2.2.1 x 4 = pl1 ∧ u.2.2.1 qp = pf1 ∧ (pl1.toInt = pl0.toInt + 1 ∧ pf1 = hx_up pf pl0.toInt.toNat i1)) ∧ hx_T T_tb u.1 u.2 ∧ hx_S T_tb [(128, 0), (129, 4)] L h u.1 u.2) (hx_E T_tb (P_ty dA) (dC, dI) vwCl (hx_A L sz)) (hx_A L sz)) 0 0 (hx_A L sz) := by
  refine hx_met (lv := [(0, .ref x), (1, .int i1)]) (by decide +kernel) rfl (Nat.le_of_ble_eq_true rfl) rfl ?_
  intro p e s m below meth c hx hb hml hr hlk hts0 hown hin hsz hW ls hl
  have hts : ∀ w ∈ hx_all, w.before _ s = true := fun w hw => hts0 w (List.mem_cons_of_mem _ hw)
  have hown : s.vm.findClass "SmallCourt$Act" = some m.cls := hown
  have hM : hx_S T_tb [(128, 0), (129, 4)] L h L h := hx_S.rf
  have b_pl0 := hT.gi gx tt_129 (k := 4) rfl
  rw [f_x_4] at b_pl0
  have b_pl0 : 0 ≤ pl0.toInt ∧ pl0.toInt ≤ 160 := b_pl0
  refine lv_aload_n hx hb dX0_addProof_0 rfl (lv_at hl 0 rfl) ?_
  refine hk_geti hx hb hts hC_0 hown hW (gx.S hM) tt_129 4 ?o0 rfl kw_173 ⟨rfl, rfl, rfl⟩ f_x_4 dX0_addProof_1 ?_
  case o0 => decide
  refine lv_sipush (v := 160) hx hb dX0_addProof_4 ?o1 ?_
  case o1 => decide
  refine hb_icmp_ge (zx := pl0.toInt) (zy := 160) (tgt := 30) hx hb rfl ?o2 dX0_addProof_7 ?o3 (fun c_1 => ?_) (fun c_1 => ?_)
  case o2 => decide
  case o3 => decide
  · skip
    refine hx_retv hx hb hr hlk hW ⟨⟨pl0, pf, f_x_4, af_qp, ?o4⟩, hT, hM⟩ dX0_addProof_30
    case o4 =>
      exfalso
      omega
  · skip
    refine lv_aload_n hx hb dX0_addProof_10 rfl (lv_at hl 0 rfl) ?_
    refine hk_getr hx hb hts hC_0 hown hW (gx.S hM) tt_129 3 ?o5 rfl kw_172 ⟨rfl, rfl, rfl⟩ ((hM.o gx trivial rfl).2.trans f_x_3) dX0_addProof_11 ?_
    case o5 => decide
    refine lv_aload_n hx hb dX0_addProof_14 rfl (lv_at hl 0 rfl) ?_
    refine hk_geti hx hb hts hC_0 hown hW (gx.S hM) tt_129 4 ?o6 rfl kw_173 ⟨rfl, rfl, rfl⟩ f_x_4 dX0_addProof_15 ?_
    case o6 => decide
    refine lv_iload_n hx hb dX0_addProof_18 rfl (lv_at hl 1 rfl) ?_
    have af_qpO := af_qp
    refine hx_iast hx hb hW hT (hx_S.rf (M := [(128, 0)])) (gqp.S hM) tt_128 rfl ⟨?o7, ?o8⟩ rfl (i32_r _) (List.mem_singleton.mpr rfl) dX0_addProof_19 (fun H locs h_2 eh_2 hW hT hs => ?_)
    case o7 => omega
    case o8 => omega
    replace f_x_4 := (hs.o (gx.S hM) trivial rfl).1.trans f_x_4
    replace hM := hM.tr (hs.mono ?o9)
    case o9 => decide
    obtain ⟨fa_3, dfa_3⟩ : ∃ g : Nat → Int32, g = hx_up pf pl0.toNatClampNeg i1 := ⟨_, rfl⟩
    have nfa_3 : h_2.2.1 qp = fa_3 := ?o10
    case o10 =>
      rw [eh_2, dfa_3, ← af_qpO]
      exact hx_pi_fun _ _ _ _
    refine lv_aload_n hx hb dX0_addProof_20 rfl (lv_at hl 0 rfl) ?_
    refine lv_dup hx hb dX0_addProof_21 rfl ?_
    refine hk_geti hx hb hts hC_0 hown hW (gx.S hM) tt_129 4 ?o11 rfl kw_173 ⟨rfl, rfl, rfl⟩ f_x_4 dX0_addProof_22 ?_
    case o11 => decide
    refine lv_iconst (v := 1) hx hb dX0_addProof_25 ?o12 ?_
    case o12 => decide
    refine lv_iadd hx hb dX0_addProof_26 ?_
    have rg_4 := i32_r pl0
    refine lv_topi (fun x_5 ex_5 => ?_)
    have zx_5 : x_5.toInt = pl0.toInt + 1 := ?o13
    case o13 =>
      rw [ex_5]
      refine i32_add rfl ?o14 ?o15 ?o16
      case o14 => decide
      case o15 => omega
      case o16 => omega
    refine hx_puti hx hb hts hC_0 hown hW hT (hx_S.rf (M := [(129, 4)])) (gx.S hM) tt_129 4 ?o17 rfl kw_173 ⟨rfl, rfl, rfl⟩ rfl (x := x_5) ⟨?o18, ?o19⟩ rfl rfl rfl (List.mem_singleton.mpr rfl) dX0_addProof_27 (fun H locs h_6 eh_6 hW hT hs => ?_)
    case o17 => decide
    case o18 => omega
    case o19 => omega
    replace nfa_3 : h_6.2.1 qp = fa_3 := (funext fun j => (hs.a (gqp.S hM) rfl j).1).trans nfa_3
    replace hM := hM.tr (hs.mono ?o20)
    case o20 => decide
    have f_7 : h_6.2.1 x 4 = x_5 := ?o21
    case o21 =>
      rw [eh_6]
      exact hx_pi_at _ _ _ _
    refine hx_retv hx hb hr hlk hW ⟨⟨x_5, fa_3, f_7, nfa_3, ⟨?o22, dfa_3⟩⟩, hT, hM⟩ dX0_addProof_30
    case o22 => omega


set_option maxHeartbeats 4000000 in
set_option maxRecDepth 100000 in
theorem t_X0_term_v (l : Launch) (dC : Nat → ClassId) (dI : Nat → Nat → Nat) (dA : Nat → ClassId) (L : List Nat) (h : hx_h) (sz : Nat) (i1 : Int32) (i2 : Int32) (i3 : Int32) (i4 : Int32) (hT : hx_T T_tb L h)  (hi1 : 0 ≤ i1.toInt ∧ i1.toInt ≤ 7) (hi2 : 0 ≤ i2.toInt ∧ i2.toInt ≤ 7) (hi3 : 0 ≤ i3.toInt ∧ i3.toInt ≤ 1) (hi4 : 0 ≤ i4.toInt ∧ i4.toInt ≤ 9999) : Met l yX0_term (Cond.code yX0_term cX0_term 4 (some .int) :: hx_all) ({ frames := 0, cells := 0, slots := 0, locals := 0 }) (va_Pc [.int i1, .int i2, .int i3, .int i4] (hx_B T_tb (P_ty dA) (dC, dI) vwCl L h sz)) (va_Qi (fun (r : Int32) (u : List Nat × hx_h) => (r.toInt = i1.toInt + 8 * i2.toInt + 64 * i3.toInt + 128 * i4.toInt) ∧ hx_T T_tb u.1 u.2 ∧ hx_S T_tb [] L h u.1 u.2) (hx_E T_tb (P_ty dA) (dC, dI) vwCl (hx_A L sz)) (hx_A L sz)) 0 0 (hx_A L sz) := by
  refine hx_met (lv := [(0, .int i1), (1, .int i2), (2, .int i3), (3, .int i4)]) (by decide +kernel) rfl (Nat.le_of_ble_eq_true rfl) rfl ?_
  intro p e s m below meth c hx hb hml hr hlk hts0 hown hin hsz hW ls hl
  have hts : ∀ w ∈ hx_all, w.before _ s = true := fun w hw => hts0 w (List.mem_cons_of_mem _ hw)
  have hown : s.vm.findClass "SmallCourt$Act" = some m.cls := hown
  have hM : hx_S T_tb [] L h L h := hx_S.rf
  refine lv_iload_n hx hb dX0_term_0 rfl (lv_at hl 0 rfl) ?_
  refine lv_iload_n hx hb dX0_term_1 rfl (lv_at hl 1 rfl) ?_
  refine lv_iconst (v := 3) hx hb dX0_term_2 ?o0 ?_
  case o0 => decide
  refine lv_ishl hx hb dX0_term_3 ?_
  refine lv_topi (fun x_1 ex_1 => ?_)
  refine lv_ior hx hb dX0_term_4 ?_
  refine lv_topi (fun x_2 ex_2 => ?_)
  refine lv_iload_n hx hb dX0_term_5 rfl (lv_at hl 2 rfl) ?_
  refine hb_if_eq (zx := i3.toInt) (tgt := 13) hx hb rfl dX0_term_6 ?o1 (fun c_3 => ?_) (fun c_3 => ?_)
  case o1 => decide
  · skip
    refine lv_iconst (v := 0) hx hb dX0_term_13 ?o2 ?_
    case o2 => decide
    refine lv_bipush (v := 6) hx hb dX0_term_14 ?o3 ?_
    case o3 => decide
    refine lv_ishl hx hb dX0_term_16 ?_
    refine lv_topi (fun x_4 ex_4 => ?_)
    obtain rfl : x_4 = (0 : Int32) := ex_4.trans (by decide)
    refine lv_ior hx hb dX0_term_17 ?_
    refine lv_topi (fun x_5 ex_5 => ?_)
    refine lv_iload_n hx hb dX0_term_18 rfl (lv_at hl 3 rfl) ?_
    refine lv_bipush (v := 7) hx hb dX0_term_19 ?o4 ?_
    case o4 => decide
    refine lv_ishl hx hb dX0_term_21 ?_
    refine lv_topi (fun x_6 ex_6 => ?_)
    refine lv_ior hx hb dX0_term_22 ?_
    refine lv_topi (fun x_7 ex_7 => ?_)
    exact hx_reti hx hb hr hlk hW ⟨(by have h9 := hv_tm (a := i1) (b := i2) (d := i4) (c := (0 : Int32)) 0 (by decide) (by decide) hi1 hi2 hi4 ex_1 ex_2 ex_5 ex_6 ex_7; omega), hT, hM⟩ dX0_term_23
  · skip
    refine lv_iconst (v := 1) hx hb dX0_term_9 ?o5 ?_
    case o5 => decide
    refine lv_goto (tgt := 14) hx hb dX0_term_10 ?o6 ?_
    case o6 => decide
    refine lv_bipush (v := 6) hx hb dX0_term_14 ?o7 ?_
    case o7 => decide
    refine lv_ishl hx hb dX0_term_16 ?_
    refine lv_topi (fun x_8 ex_8 => ?_)
    obtain rfl : x_8 = (64 : Int32) := ex_8.trans (by decide)
    refine lv_ior hx hb dX0_term_17 ?_
    refine lv_topi (fun x_9 ex_9 => ?_)
    refine lv_iload_n hx hb dX0_term_18 rfl (lv_at hl 3 rfl) ?_
    refine lv_bipush (v := 7) hx hb dX0_term_19 ?o8 ?_
    case o8 => decide
    refine lv_ishl hx hb dX0_term_21 ?_
    refine lv_topi (fun x_10 ex_10 => ?_)
    refine lv_ior hx hb dX0_term_22 ?_
    refine lv_topi (fun x_11 ex_11 => ?_)
    exact hx_reti hx hb hr hlk hW ⟨(by have h9 := hv_tm (a := i1) (b := i2) (d := i4) (c := (64 : Int32)) 1 (by decide) (by decide) hi1 hi2 hi4 ex_1 ex_2 ex_9 ex_10 ex_11; omega), hT, hM⟩ dX0_term_23


set_option maxHeartbeats 4000000 in
set_option maxRecDepth 100000 in
theorem t_X6_readTerm_v (l : Launch) (dC : Nat → ClassId) (dI : Nat → Nat → Nat) (dA : Nat → ClassId) (L : List Nat) (h : hx_h) (sz : Nat) (b0 : hx_z) (x : Nat) (hT : hx_T T_tb L h) (gx : hx_g L h x 6) (qt : Nat) (gqt : hx_g L h qt 42) (f_x_0 : h.2.2 x 0 = some qt) (qi : Nat) (gqi : hx_g L h qi 129) (f_x_6 : h.2.2 x 6 = some qi) (qp : Nat) (gqp : hx_g L h qp 128) (f_qi_3 : h.2.2 qi 3 = some qp) (tf : Nat → Int32) (af_qt : h.2.1 qt = tf) (pf : Nat → Int32) (af_qp : h.2.1 qp = pf) (at0 : Int32) (f_x_2 : h.2.1 x 2 = at0) (ln0 : Int32) (f_x_1 : h.2.1 x 1 = ln0) (ft0 : Int32) (f_x_3 : h.2.1 x 3 = ft0) (tm0 : Int32) (f_x_5 : h.2.1 x 5 = tm0) (pl0 : Int32) (f_qi_4 : h.2.1 qi 4 = pl0) (o : List hv_tok) (hO : hv_ls pf pl0.toInt.toNat = o.map hv_cc) (hF : ft0.toInt = 0) (hB : 3 * pl0.toInt ≤ at0.toInt + tm0.toInt) (hA : at0.toInt ≤ ln0.toInt) (hT0 : 0 ≤ tm0.toInt ∧ tm0.toInt ≤ 20) : Met l yX6_readTerm (Cond.code yX6_readTerm cX6_readTerm 6 (some .boolean) :: hx_all) ({ frames := 6, cells := 0, slots := 0, locals := 133 }) (va_Pc [.ref x] (hx_BX T_tb (P_ty dA) (dC, dI) vwCl L h sz b0)) (va_Qi (fun (r : Int32) (u : List Nat × hx_h) => (∃ (at1 : Int32) (ft1 : Int32) (tm1 : Int32) (pl1 : Int32) (pf1 : Nat → Int32), u.2.2.1 x 2 = at1 ∧ u.2.2.1 x 3 = ft1 ∧ u.2.2.1 x 5 = tm1 ∧ u.2.2.1 qi 4 = pl1 ∧ u.2.2.1 qp = pf1 ∧ (hv_K hv_cc (hv_term tf ln0.toInt.toNat (hv_sk tf ln0.toInt.toNat at0.toInt.toNat) tm0.toInt.toNat o) r.toInt ft1.toInt at1.toInt tm1.toInt (hv_ls pf1 pl1.toInt.toNat))) ∧ hx_T T_tb u.1 u.2 ∧ hx_S T_tb [(6, 2), (6, 3), (6, 5), (128, 0), (129, 4)] L h u.1 u.2) (hx_E T_tb (P_ty dA) (dC, dI) vwCl (hx_A L sz)) (hx_A L sz)) 0 0 (hx_A L sz) := by
  refine hx_metX (lv := [(0, .ref x)]) (by decide +kernel) rfl (Nat.le_of_ble_eq_true rfl) rfl ?_
  intro p e s m below meth c hx hb hml hr hlk hts0 hown hin hsz hW hZ ls hl
  have hts : ∀ w ∈ hx_all, w.before _ s = true := fun w hw => hts0 w (List.mem_cons_of_mem _ hw)
  have hown : s.vm.findClass "SmallCourt$Reader" = some m.cls := hown
  have hM : hx_S T_tb [(6, 2), (6, 3), (6, 5), (128, 0), (129, 4)] L h L h := hx_S.rf
  obtain ⟨zLT, zLA, zMT, zMA, zCS, zSF, zVS, zVR⟩ := hZ.2.2.2.2.2.2
  have b_at0 := hT.gi gx tt_6 (k := 2) rfl
  rw [f_x_2] at b_at0
  have b_at0 : 0 ≤ at0.toInt ∧ at0.toInt ≤ 402 := b_at0
  have b_ln0 := hT.gi gx tt_6 (k := 1) rfl
  rw [f_x_1] at b_ln0
  have b_ln0 : 0 ≤ ln0.toInt ∧ ln0.toInt ≤ 400 := b_ln0
  have b_ft0 := hT.gi gx tt_6 (k := 3) rfl
  rw [f_x_3] at b_ft0
  have b_ft0 : -2147483648 ≤ ft0.toInt ∧ ft0.toInt ≤ 2147483647 := b_ft0
  have b_tm0 := hT.gi gx tt_6 (k := 5) rfl
  rw [f_x_5] at b_tm0
  have b_tm0 : -2147483648 ≤ tm0.toInt ∧ tm0.toInt ≤ 2147483647 := b_tm0
  have b_pl0 := hT.gi gqi tt_129 (k := 4) rfl
  rw [f_qi_4] at b_pl0
  have b_pl0 : 0 ≤ pl0.toInt ∧ pl0.toInt ≤ 160 := b_pl0
  refine lv_aload_n hx hb dX6_readTerm_0 rfl (lv_at hl 0 rfl) ?_
  refine hx_gov (hx_runV (As := []) (rest := []) ⟨hx, hb, hml, hown, hts⟩ hW (gx.S hM) tt_6 (T := TX6) (N := 7) rfl (t_X6_skipBlanks_v l dC dI dA L h s.heap.size x hT (gx.S hM) qt (gqt.S hM) ((hM.o gx trivial rfl).2.trans f_x_0) tf (hx_afS hM gqt rfl af_qt) at0 f_x_2 ln0 ((hM.o gx trivial rfl).1.trans f_x_1) ?o0) (cwV 0 hts (hx_gV kw_458 kw_455 kw_457 kw_1 kw_95) rfl rfl rfl (by decide +kernel) ⟨Nat.le_of_ble_eq_true rfl, Nat.le_of_ble_eq_true rfl⟩) rfl hl.1 rfl (Nat.le_of_ble_eq_true rfl) dX6_readTerm_1 ⟨Nat.le_of_ble_eq_true rfl, Nat.le_of_ble_eq_true rfl⟩) hW (fun L_1 h_2 H locs p_4 hW => ?_)
  case o0 => omega
  obtain ⟨⟨w_6, fw_6, hr_5⟩, hT, hs⟩ := p_4
  replace hT : hx_T T_tb L_1 h_2 := hT
  replace hs : hx_S T_tb [(6, 2)] L h L_1 h_2 := hs
  replace f_x_3 := (hs.o (gx.S hM) trivial rfl).1.trans f_x_3
  replace f_x_5 := (hs.o (gx.S hM) trivial rfl).1.trans f_x_5
  replace f_qi_4 := (hs.o (gqi.S hM) trivial rfl).1.trans f_qi_4
  replace af_qp : h_2.2.1 qp = pf := (funext fun j => (hs.a (gqp.S hM) rfl j).1).trans af_qp
  replace hM := hM.tr (hs.mono ?o1)
  case o1 => decide
  have fw_6 : h_2.2.1 x 2 = w_6 := fw_6
  have bw_6 := hT.gi (gx.S hM) tt_6 (k := 2) rfl
  rw [fw_6] at bw_6
  have bw_6 : 0 ≤ w_6.toInt ∧ w_6.toInt ≤ 402 := bw_6
  have ek_7 : w_6.toInt.toNat = hv_sk tf ln0.toInt.toNat at0.toInt.toNat := ?o2
  case o2 => omega
  refine lv_aload_n hx hb dX6_readTerm_4 rfl (lv_at hl 0 rfl) ?_
  refine hk_geti hx hb hts hC_6 hown hW (gx.S hM) tt_6 2 ?o3 rfl kw_127 ⟨rfl, rfl, rfl⟩ fw_6 dX6_readTerm_5 ?_
  case o3 => decide
  refine lv_istore_n (lv' := [(1, .int w_6), (0, .ref x)]) hx hb dX6_readTerm_8 rfl hl ?o4 rfl (fun ls hl => ?_)
  case o4 => decide
  refine lv_aload_n hx hb dX6_readTerm_9 rfl (lv_at hl 1 rfl) ?_
  refine va_ldcS (tx := P_st.getD 5 "") hx hb hown (zVR 5 ?o5) dX6_readTerm_10 ?_
  case o5 => decide
  refine hx_goi (hx_runVX (As := [.ref (b0.2.2.2.1 5)]) (rest := []) ⟨hx, hb, hml, hown, hts⟩ hW (gx.S hM) tt_6 (T := TX6) (N := 7) rfl (t_X6_readWord_v l dC dI dA L_1 h_2 H.size b0 x 5 hT (gx.S hM) ?o6 qt (gqt.S hM) ((hM.o gx trivial rfl).2.trans f_x_0) tf (hx_afS hM gqt rfl af_qt) w_6 fw_6 ln0 ((hM.o gx trivial rfl).1.trans f_x_1) ?o7) hZ (cwV 1 hts (hx_gV kw_467 kw_464 kw_466 kw_3 kw_95) rfl rfl rfl (by decide +kernel) ⟨Nat.le_of_ble_eq_true rfl, Nat.le_of_ble_eq_true rfl⟩) rfl hl.1 rfl (Nat.le_of_ble_eq_true rfl) dX6_readTerm_12 ⟨Nat.le_of_ble_eq_true rfl, Nat.le_of_ble_eq_true rfl⟩) hW (fun r_10 L_8 h_9 H locs p_11 hW => ?_)
  case o6 => decide
  case o7 => omega
  obtain ⟨⟨w_13, fw_13, hr_12⟩, hT, hs⟩ := p_11
  replace hT : hx_T T_tb L_8 h_9 := hT
  replace hs : hx_S T_tb [(6, 2)] L_1 h_2 L_8 h_9 := hs
  replace f_x_3 := (hs.o (gx.S hM) trivial rfl).1.trans f_x_3
  replace f_x_5 := (hs.o (gx.S hM) trivial rfl).1.trans f_x_5
  replace f_qi_4 := (hs.o (gqi.S hM) trivial rfl).1.trans f_qi_4
  replace af_qp : h_9.2.1 qp = pf := (funext fun j => (hs.a (gqp.S hM) rfl j).1).trans af_qp
  replace hM := hM.tr (hs.mono ?o8)
  case o8 => decide
  have fw_13 : h_9.2.1 x 2 = w_13 := fw_13
  have bw_13 := hT.gi (gx.S hM) tt_6 (k := 2) rfl
  rw [fw_13] at bw_13
  have bw_13 : 0 ≤ w_13.toInt ∧ w_13.toInt ≤ 402 := bw_13
  have eu_14 := hv_RW_5 hr_12.2.1
  refine lv_istore_n (lv' := [(2, .int r_10), (1, .int w_6), (0, .ref x)]) hx hb dX6_readTerm_15 rfl hl ?o9 rfl (fun ls hl => ?_)
  case o9 => decide
  have sid : hv_sk tf ln0.toInt.toNat w_6.toInt.toNat = w_6.toInt.toNat := ?o10
  case o10 =>
    rw [ek_7]
    exact hv_sk_id
  have hrw := hr_12.1; rw [sid] at hrw eu_14
  refine lv_iload_n hx hb dX6_readTerm_16 rfl (lv_at hl 0 rfl) ?_
  refine hb_if_ge (zx := r_10.toInt) (tgt := 27) hx hb rfl dX6_readTerm_17 ?o11 (fun c_15 => ?_) (fun c_15 => ?_)
  case o11 => decide
  · skip
    have hleft : 0 ≤ r_10.toInt ∧ r_10.toInt ≤ 7 ∧ hv_wd tf ln0.toInt.toNat w_6.toInt.toNat = 3 + r_10.toInt := ?o12
    case o12 => omega
    have ha1 : w_13.toInt.toNat = hv_we tf ln0.toInt.toNat w_6.toInt.toNat := ?o13
    case o13 => omega
    have hw3 := hv_wd_3 (T := tf) (n := ln0.toInt.toNat) (p := w_6.toInt.toNat) ?o14
    case o14 => omega
    refine lv_aload_n hx hb dX6_readTerm_27 rfl (lv_at hl 2 rfl) ?_
    refine hk_geti hx hb hts hC_6 hown hW (gx.S hM) tt_6 5 ?o15 rfl kw_130 ⟨rfl, rfl, rfl⟩ f_x_5 dX6_readTerm_28 ?_
    case o15 => decide
    refine lv_bipush (v := 20) hx hb dX6_readTerm_31 ?o16 ?_
    case o16 => decide
    refine hb_icmp_lt (zx := tm0.toInt) (zy := 20) (tgt := 43) hx hb rfl ?o17 dX6_readTerm_33 ?o18 (fun c_16 => ?_) (fun c_16 => ?_)
    case o17 => decide
    case o18 => decide
    · skip
      refine lv_aload_n hx hb dX6_readTerm_43 rfl (lv_at hl 2 rfl) ?_
      refine lv_dup hx hb dX6_readTerm_44 rfl ?_
      refine hk_geti hx hb hts hC_6 hown hW (gx.S hM) tt_6 5 ?o19 rfl kw_130 ⟨rfl, rfl, rfl⟩ f_x_5 dX6_readTerm_45 ?_
      case o19 => decide
      refine lv_iconst (v := 1) hx hb dX6_readTerm_48 ?o20 ?_
      case o20 => decide
      refine lv_iadd hx hb dX6_readTerm_49 ?_
      have rg_17 := i32_r tm0
      refine lv_topi (fun x_18 ex_18 => ?_)
      have zx_18 : x_18.toInt = tm0.toInt + 1 := ?o21
      case o21 =>
        rw [ex_18]
        refine i32_add rfl ?o22 ?o23 ?o24
        case o22 => decide
        case o23 => omega
        case o24 => omega
      refine hx_puti hx hb hts hC_6 hown hW hT (hx_S.rf (M := [(6, 5)])) (gx.S hM) tt_6 5 ?o25 rfl kw_130 ⟨rfl, rfl, rfl⟩ rfl (x := x_18) (i32_r _) rfl rfl rfl (List.mem_singleton.mpr rfl) dX6_readTerm_50 (fun H locs h_19 eh_19 hW hT hs => ?_)
      case o25 => decide
      replace f_x_3 := (hs.o (gx.S hM) trivial rfl).1.trans f_x_3
      replace f_qi_4 := (hs.o (gqi.S hM) trivial rfl).1.trans f_qi_4
      replace fw_13 := (hs.o (gx.S hM) trivial rfl).1.trans fw_13
      replace af_qp : h_19.2.1 qp = pf := (funext fun j => (hs.a (gqp.S hM) rfl j).1).trans af_qp
      replace hM := hM.tr (hs.mono ?o26)
      case o26 => decide
      have f_20 : h_19.2.1 x 5 = x_18 := ?o27
      case o27 =>
        rw [eh_19]
        exact hx_pi_at _ _ _ _
      refine lv_aload_n hx hb dX6_readTerm_53 rfl (lv_at hl 2 rfl) ?_
      refine hx_goi (hx_runV (As := []) (rest := []) ⟨hx, hb, hml, hown, hts⟩ hW (gx.S hM) tt_6 (T := TX6) (N := 7) rfl (t_X6_readSign_v l dC dI dA L_8 h_19 H.size x hT (gx.S hM) qt (gqt.S hM) ((hM.o gx trivial rfl).2.trans f_x_0) tf (hx_afS hM gqt rfl af_qt) w_13 fw_13 ln0 ((hM.o gx trivial rfl).1.trans f_x_1) ?o28) (cwV 0 hts (hx_gV kw_578 kw_575 kw_577 kw_17 kw_95) rfl rfl rfl (by decide +kernel) ⟨Nat.le_of_ble_eq_true rfl, Nat.le_of_ble_eq_true rfl⟩) rfl hl.1 rfl (Nat.le_of_ble_eq_true rfl) dX6_readTerm_54 ⟨Nat.le_of_ble_eq_true rfl, Nat.le_of_ble_eq_true rfl⟩) hW (fun r_23 L_21 h_22 H locs p_24 hW => ?_)
      case o28 => omega
      obtain ⟨⟨w_26, fw_26, hr_25⟩, hT, hs⟩ := p_24
      replace hT : hx_T T_tb L_21 h_22 := hT
      replace hs : hx_S T_tb [(6, 2)] L_8 h_19 L_21 h_22 := hs
      replace f_x_3 := (hs.o (gx.S hM) trivial rfl).1.trans f_x_3
      replace f_qi_4 := (hs.o (gqi.S hM) trivial rfl).1.trans f_qi_4
      replace f_20 := (hs.o (gx.S hM) trivial rfl).1.trans f_20
      replace af_qp : h_22.2.1 qp = pf := (funext fun j => (hs.a (gqp.S hM) rfl j).1).trans af_qp
      replace hM := hM.tr (hs.mono ?o29)
      case o29 => decide
      have fw_26 : h_22.2.1 x 2 = w_26 := fw_26
      have bw_26 := hT.gi (gx.S hM) tt_6 (k := 2) rfl
      rw [fw_26] at bw_26
      have bw_26 : 0 ≤ w_26.toInt ∧ w_26.toInt ≤ 402 := bw_26
      refine lv_istore_n (lv' := [(3, .int r_23), (2, .int r_10), (1, .int w_6), (0, .ref x)]) hx hb dX6_readTerm_57 rfl hl ?o30 rfl (fun ls hl => ?_)
      case o30 => decide
      have hsg := hr_25
      rw [ha1] at hsg
      have hsb := hv_sg_b (T := tf) (n := ln0.toInt.toNat) (hv_sk tf ln0.toInt.toNat (hv_we tf ln0.toInt.toNat w_6.toInt.toNat))
      have hsc := hv_scd_b (g := hv_sg tf ln0.toInt.toNat (hv_sk tf ln0.toInt.toNat (hv_we tf ln0.toInt.toNat w_6.toInt.toNat)))
      have hsk9 := hv_sk_ge (T := tf) (n := ln0.toInt.toNat) (p := hv_we tf ln0.toInt.toNat w_6.toInt.toNat)
      have hsl9 := hv_sk_le (T := tf) (n := ln0.toInt.toNat) (p := hv_we tf ln0.toInt.toNat w_6.toInt.toNat) ?o31
      case o31 => omega
      refine lv_iload_n hx hb dX6_readTerm_58 rfl (lv_at hl 0 rfl) ?_
      refine hb_if_ne (zx := r_23.toInt) (tgt := 72) hx hb rfl dX6_readTerm_59 ?o32 (fun c_27 => ?_) (fun c_27 => ?_)
      case o32 => decide
      · skip
        refine lv_aload_n hx hb dX6_readTerm_72 rfl (lv_at hl 3 rfl) ?_
        refine hx_gov (hx_runV (As := []) (rest := []) ⟨hx, hb, hml, hown, hts⟩ hW (gx.S hM) tt_6 (T := TX6) (N := 7) rfl (t_X6_skipBlanks_v l dC dI dA L_21 h_22 H.size x hT (gx.S hM) qt (gqt.S hM) ((hM.o gx trivial rfl).2.trans f_x_0) tf (hx_afS hM gqt rfl af_qt) w_26 fw_26 ln0 ((hM.o gx trivial rfl).1.trans f_x_1) ?o33) (cwV 0 hts (hx_gV kw_458 kw_455 kw_457 kw_1 kw_95) rfl rfl rfl (by decide +kernel) ⟨Nat.le_of_ble_eq_true rfl, Nat.le_of_ble_eq_true rfl⟩) rfl hl.1 rfl (Nat.le_of_ble_eq_true rfl) dX6_readTerm_73 ⟨Nat.le_of_ble_eq_true rfl, Nat.le_of_ble_eq_true rfl⟩) hW (fun L_28 h_29 H locs p_31 hW => ?_)
        case o33 => omega
        obtain ⟨⟨w_33, fw_33, hr_32⟩, hT, hs⟩ := p_31
        replace hT : hx_T T_tb L_28 h_29 := hT
        replace hs : hx_S T_tb [(6, 2)] L_21 h_22 L_28 h_29 := hs
        replace f_x_3 := (hs.o (gx.S hM) trivial rfl).1.trans f_x_3
        replace f_qi_4 := (hs.o (gqi.S hM) trivial rfl).1.trans f_qi_4
        replace f_20 := (hs.o (gx.S hM) trivial rfl).1.trans f_20
        replace af_qp : h_29.2.1 qp = pf := (funext fun j => (hs.a (gqp.S hM) rfl j).1).trans af_qp
        replace hM := hM.tr (hs.mono ?o34)
        case o34 => decide
        have fw_33 : h_29.2.1 x 2 = w_33 := fw_33
        have bw_33 := hT.gi (gx.S hM) tt_6 (k := 2) rfl
        rw [fw_33] at bw_33
        have bw_33 : 0 ≤ w_33.toInt ∧ w_33.toInt ≤ 402 := bw_33
        have ek_34 : w_33.toInt.toNat = hv_sk tf ln0.toInt.toNat w_26.toInt.toNat := ?o35
        case o35 => omega
        refine lv_aload_n hx hb dX6_readTerm_76 rfl (lv_at hl 3 rfl) ?_
        refine hk_geti hx hb hts hC_6 hown hW (gx.S hM) tt_6 2 ?o36 rfl kw_127 ⟨rfl, rfl, rfl⟩ fw_33 dX6_readTerm_77 ?_
        case o36 => decide
        refine lv_istore_n (lv' := [(1, .int w_33), (3, .int r_23), (2, .int r_10), (0, .ref x)]) hx hb dX6_readTerm_80 rfl hl ?o37 rfl (fun ls hl => ?_)
        case o37 => decide
        have hb9 : w_26.toInt.toNat = hv_sk tf ln0.toInt.toNat (hv_we tf ln0.toInt.toNat w_6.toInt.toNat) + (hv_sg tf ln0.toInt.toNat (hv_sk tf ln0.toInt.toNat (hv_we tf ln0.toInt.toNat w_6.toInt.toNat))).2 := ?o38
        case o38 => omega
        have ht9 := hv_term_o (T := tf) (n := ln0.toInt.toNat) (p := w_6.toInt.toNat) (t := tm0.toInt.toNat) (o := o) (u := w_33.toInt.toNat) ?o39 ?o40 ?o41 (by rw [ek_34, hb9])
        case o39 => omega
        case o40 => omega
        case o41 => omega
        have uid : hv_sk tf ln0.toInt.toNat w_33.toInt.toNat = w_33.toInt.toNat := ?o42
        case o42 =>
          rw [ek_34]
          exact hv_sk_id
        refine lv_aload_n hx hb dX6_readTerm_81 rfl (lv_at hl 3 rfl) ?_
        refine lv_aload_n hx hb dX6_readTerm_82 rfl (lv_at hl 3 rfl) ?_
        refine hk_geti hx hb hts hC_6 hown hW (gx.S hM) tt_6 2 ?o43 rfl kw_127 ⟨rfl, rfl, rfl⟩ fw_33 dX6_readTerm_83 ?_
        case o43 => decide
        refine hx_goi (hx_runV (As := [.int w_33]) (rest := []) ⟨hx, hb, hml, hown, hts⟩ hW (gx.S hM) tt_6 (T := TX6) (N := 7) rfl (t_X6_isDigit_v l dC dI dA L_28 h_29 H.size x w_33 hT (gx.S hM) qt (gqt.S hM) ((hM.o gx trivial rfl).2.trans f_x_0) tf (hx_afS hM gqt rfl af_qt) ln0 ((hM.o gx trivial rfl).1.trans f_x_1) ?o44) (cwV 1 hts (hx_gV kw_544 kw_541 kw_543 kw_10 kw_95) rfl rfl rfl (by decide +kernel) ⟨Nat.le_of_ble_eq_true rfl, Nat.le_of_ble_eq_true rfl⟩) rfl hl.1 rfl (Nat.le_of_ble_eq_true rfl) dX6_readTerm_86 ⟨Nat.le_of_ble_eq_true rfl, Nat.le_of_ble_eq_true rfl⟩) hW (fun r_37 L_35 h_36 H locs p_38 hW => ?_)
        case o44 => omega
        obtain ⟨hr_39, hT, hs⟩ := p_38
        replace hT : hx_T T_tb L_35 h_36 := hT
        replace hs : hx_S T_tb [] L_28 h_29 L_35 h_36 := hs
        replace f_x_3 := (hs.o (gx.S hM) trivial rfl).1.trans f_x_3
        replace f_qi_4 := (hs.o (gqi.S hM) trivial rfl).1.trans f_qi_4
        replace f_20 := (hs.o (gx.S hM) trivial rfl).1.trans f_20
        replace fw_33 := (hs.o (gx.S hM) trivial rfl).1.trans fw_33
        replace af_qp : h_36.2.1 qp = pf := (funext fun j => (hs.a (gqp.S hM) rfl j).1).trans af_qp
        replace hM := hM.tr (hs.mono ?o45)
        case o45 => decide
        refine hb_if_ne (zx := r_37.toInt) (tgt := 96) hx hb rfl dX6_readTerm_89 ?o46 (fun c_40 => ?_) (fun c_40 => ?_)
        case o46 => decide
        · skip
          refine lv_iconst (v := 0) hx hb dX6_readTerm_96 ?o47 ?_
          case o47 => decide
          refine lv_istore (lv' := [(4, .int (0 : Int32)), (1, .int w_33), (3, .int r_23), (2, .int r_10), (0, .ref x)]) hx hb dX6_readTerm_97 hl ?o48 rfl (fun ls hl => ?_)
          case o48 => decide
          refine lv_iload hx hb dX6_readTerm_99 (lv_at hl 0 rfl) ?_
          refine hb_if_eq (zx := 0) (tgt := 113) hx hb ?o49 dX6_readTerm_101 ?o50 (fun c_41 => ?_) (fun c_41 => absurd c_41 ?o51)
          case o49 => decide
          case o50 => decide
          case o51 => decide
          refine lv_aload_n hx hb dX6_readTerm_113 rfl (lv_at hl 4 rfl) ?_
          refine hx_goi (hx_runV (As := []) (rest := []) ⟨hx, hb, hml, hown, hts⟩ hW (gx.S hM) tt_6 (T := TX6) (N := 7) rfl (t_X6_readNumber_v l dC dI dA L_35 h_36 H.size x hT (gx.S hM) qt (gqt.S hM) ((hM.o gx trivial rfl).2.trans f_x_0) tf (hx_afS hM gqt rfl af_qt) w_33 fw_33 ln0 ((hM.o gx trivial rfl).1.trans f_x_1) ?o52) (cwV 0 hts (hx_gV kw_548 kw_545 kw_547 kw_11 kw_95) rfl rfl rfl (by decide +kernel) ⟨Nat.le_of_ble_eq_true rfl, Nat.le_of_ble_eq_true rfl⟩) rfl hl.1 rfl (Nat.le_of_ble_eq_true rfl) dX6_readTerm_114 ⟨Nat.le_of_ble_eq_true rfl, Nat.le_of_ble_eq_true rfl⟩) hW (fun r_44 L_42 h_43 H locs p_45 hW => ?_)
          case o52 => omega
          obtain ⟨⟨w_47, fw_47, hr_46⟩, hT, hs⟩ := p_45
          replace hT : hx_T T_tb L_42 h_43 := hT
          replace hs : hx_S T_tb [(6, 2)] L_35 h_36 L_42 h_43 := hs
          replace f_x_3 := (hs.o (gx.S hM) trivial rfl).1.trans f_x_3
          replace f_qi_4 := (hs.o (gqi.S hM) trivial rfl).1.trans f_qi_4
          replace f_20 := (hs.o (gx.S hM) trivial rfl).1.trans f_20
          replace af_qp : h_43.2.1 qp = pf := (funext fun j => (hs.a (gqp.S hM) rfl j).1).trans af_qp
          replace hM := hM.tr (hs.mono ?o53)
          case o53 => decide
          have fw_47 : h_43.2.1 x 2 = w_47 := fw_47
          have bw_47 := hT.gi (gx.S hM) tt_6 (k := 2) rfl
          rw [fw_47] at bw_47
          have bw_47 : 0 ≤ w_47.toInt ∧ w_47.toInt ≤ 402 := bw_47
          refine lv_istore (lv' := [(5, .int r_44), (4, .int (0 : Int32)), (1, .int w_33), (3, .int r_23), (2, .int r_10), (0, .ref x)]) hx hb dX6_readTerm_117 hl ?o54 rfl (fun ls hl => ?_)
          case o54 => decide
          refine lv_iload hx hb dX6_readTerm_119 (lv_at hl 0 rfl) ?_
          refine hb_if_ge (zx := r_44.toInt) (tgt := 140) hx hb rfl dX6_readTerm_121 ?o55 (fun c_48 => ?_) (fun c_48 => ?_)
          case o55 => decide
          · skip
            refine lv_aload_n hx hb dX6_readTerm_140 rfl (lv_at hl 5 rfl) ?_
            refine hk_getr hx hb hts hC_6 hown hW (gx.S hM) tt_6 6 ?o56 rfl kw_131 ⟨rfl, rfl, rfl⟩ ((hM.o gx trivial rfl).2.trans f_x_6) dX6_readTerm_141 ?_
            case o56 => decide
            refine lv_iload_n hx hb dX6_readTerm_144 rfl (lv_at hl 4 rfl) ?_
            refine lv_iload_n hx hb dX6_readTerm_145 rfl (lv_at hl 3 rfl) ?_
            refine lv_iload hx hb dX6_readTerm_146 (lv_at hl 1 rfl) ?_
            refine lv_iload hx hb dX6_readTerm_148 (lv_at hl 0 rfl) ?_
            have zc_0 : (0 : Int32).toInt = 0 := ?o57
            case o57 => decide
            refine hx_goi (hx_runS (As := [.int r_10, .int r_23, .int (0 : Int32), .int r_44]) (rest := [.ref qi]) ⟨hx, hb, hml, hown, hts⟩ hW (t_X0_term_v l dC dI dA L_42 h_43 H.size r_10 r_23 (0 : Int32) r_44 hT ⟨?o58, ?o59⟩ ⟨?o60, ?o61⟩ ⟨?o62, ?o63⟩ ⟨?o64, ?o65⟩) (va_cwS 4 hts (hx_gS kw_161 kw_579 kw_160 kw_96) rfl rfl rfl (by decide +kernel) ⟨Nat.le_of_ble_eq_true rfl, Nat.le_of_ble_eq_true rfl⟩) rfl hl.1 rfl (Nat.le_of_ble_eq_true rfl) dX6_readTerm_150 ⟨Nat.le_of_ble_eq_true rfl, Nat.le_of_ble_eq_true rfl⟩) hW (fun r_51 L_49 h_50 H locs p_52 hW => ?_)
            case o58 => omega
            case o59 => omega
            case o60 => omega
            case o61 => omega
            case o62 => omega
            case o63 => omega
            case o64 => omega
            case o65 => omega
            obtain ⟨hr_53, hT, hs⟩ := p_52
            replace hT : hx_T T_tb L_49 h_50 := hT
            replace hs : hx_S T_tb [] L_42 h_43 L_49 h_50 := hs
            replace f_x_3 := (hs.o (gx.S hM) trivial rfl).1.trans f_x_3
            replace f_qi_4 := (hs.o (gqi.S hM) trivial rfl).1.trans f_qi_4
            replace f_20 := (hs.o (gx.S hM) trivial rfl).1.trans f_20
            replace fw_47 := (hs.o (gx.S hM) trivial rfl).1.trans fw_47
            replace af_qp : h_50.2.1 qp = pf := (funext fun j => (hs.a (gqp.S hM) rfl j).1).trans af_qp
            replace hM := hM.tr (hs.mono ?o66)
            case o66 => decide
            refine hx_gov (hx_runV (As := [.int r_51]) (rest := []) ⟨hx, hb, hml, hown, hts⟩ hW (gqi.S hM) tt_129 (T := TX0) (N := 5) rfl (t_X0_addProof_v l dC dI dA L_49 h_50 H.size qi r_51 hT (gqi.S hM) qp (gqp.S hM) ((hM.o gqi trivial rfl).2.trans f_qi_3) pf af_qp pl0 f_qi_4 ?o67) (cwV 1 hts (hx_gV kw_583 kw_580 kw_581 kw_582 kw_96) rfl rfl rfl (by decide +kernel) ⟨Nat.le_of_ble_eq_true rfl, Nat.le_of_ble_eq_true rfl⟩) rfl hl.1 rfl (Nat.le_of_ble_eq_true rfl) dX6_readTerm_153 ⟨Nat.le_of_ble_eq_true rfl, Nat.le_of_ble_eq_true rfl⟩) hW (fun L_54 h_55 H locs p_57 hW => ?_)
            case o67 => omega
            obtain ⟨⟨w_59, w_60, fw_59, fw_60, hr_58⟩, hT, hs⟩ := p_57
            replace hT : hx_T T_tb L_54 h_55 := hT
            replace hs : hx_S T_tb [(128, 0), (129, 4)] L_49 h_50 L_54 h_55 := hs
            replace f_x_3 := (hs.o (gx.S hM) trivial rfl).1.trans f_x_3
            replace f_20 := (hs.o (gx.S hM) trivial rfl).1.trans f_20
            replace fw_47 := (hs.o (gx.S hM) trivial rfl).1.trans fw_47
            replace hM := hM.tr (hs.mono ?o68)
            case o68 => decide
            have fw_59 : h_55.2.1 qi 4 = w_59 := fw_59
            have bw_59 := hT.gi (gqi.S hM) tt_129 (k := 4) rfl
            rw [fw_59] at bw_59
            have bw_59 : 0 ≤ w_59.toInt ∧ w_59.toInt ≤ 160 := bw_59
            have fw_60 : h_55.2.1 qp = w_60 := fw_60
            refine lv_iconst (v := 1) hx hb dX6_readTerm_156 ?o69 ?_
            case o69 => decide
            refine hx_retz hx hb hr rfl hlk hW ⟨⟨w_47, ft0, x_18, w_59, w_60, fw_47, f_x_3, f_20, fw_59, fw_60, (hv_K_t (x := hv_de tf ln0.toInt.toNat w_33.toInt.toNat) (y := tm0.toInt.toNat + 1) (o := (hv_wd tf ln0.toInt.toNat w_6.toInt.toNat - 2, (hv_sg tf ln0.toInt.toNat (hv_sk tf ln0.toInt.toNat (hv_we tf ln0.toInt.toNat w_6.toInt.toNat))).1, hv_dv tf w_33.toInt.toNat (hv_de tf ln0.toInt.toNat w_33.toInt.toNat - w_33.toInt.toNat)) :: o) ?o70 ?o71 ?o72 ?o73 (hv_ls_u hO (by have h8 := hv_cc_n (w := hv_wd tf ln0.toInt.toNat w_6.toInt.toNat) (l := r_10.toInt) (r := r_44.toInt) (v := r_51.toInt) (g := hv_sg tf ln0.toInt.toNat (hv_sk tf ln0.toInt.toNat (hv_we tf ln0.toInt.toNat w_6.toInt.toNat))) (by omega) (by omega) (by omega) (by omega) (by omega); rw [show hv_dv tf w_33.toInt.toNat (hv_de tf ln0.toInt.toNat w_33.toInt.toNat - w_33.toInt.toNat) = r_44.toInt by omega]; exact h8) ?o74 hr_58.2) (by rw [← ek_7]; exact ht9.trans (hv_rt_4 (by omega) (by rcases hr_39 with z | z; exact z.2.2; exfalso; omega) (by omega))))⟩, hT, hM⟩ dX6_readTerm_157
            case o70 => decide
            case o71 => omega
            case o72 => omega
            case o73 => omega
            case o74 => omega
          · skip
            refine lv_aload_n hx hb dX6_readTerm_124 rfl (lv_at hl 5 rfl) ?_
            refine lv_iload_n hx hb dX6_readTerm_125 rfl (lv_at hl 2 rfl) ?_
            refine lv_iload hx hb dX6_readTerm_126 (lv_at hl 1 rfl) ?_
            refine hb_if_eq (zx := 0) (tgt := 135) hx hb ?o75 dX6_readTerm_128 ?o76 (fun c_61 => ?_) (fun c_61 => absurd c_61 ?o77)
            case o75 => decide
            case o76 => decide
            case o77 => decide
            refine lv_iconst (v := 1) hx hb dX6_readTerm_135 ?o78 ?_
            case o78 => decide
            have zc_1 : (1 : Int32).toInt = 1 := ?o79
            case o79 => decide
            refine hx_goi (hx_runV (As := [.int w_33, .int (1 : Int32)]) (rest := []) ⟨hx, hb, hml, hown, hts⟩ hW (gx.S hM) tt_6 (T := TX6) (N := 7) rfl (t_X6_refuse_v l dC dI dA L_42 h_43 H.size x w_33 (1 : Int32) hT (gx.S hM) ⟨?o80, ?o81⟩ ?o82) (cwV 2 hts (hx_gV kw_527 kw_524 kw_526 kw_6 kw_95) rfl rfl rfl (by decide +kernel) ⟨Nat.le_of_ble_eq_true rfl, Nat.le_of_ble_eq_true rfl⟩) rfl hl.1 rfl (Nat.le_of_ble_eq_true rfl) dX6_readTerm_136 ⟨Nat.le_of_ble_eq_true rfl, Nat.le_of_ble_eq_true rfl⟩) hW (fun r_64 L_62 h_63 H locs p_65 hW => ?_)
            case o80 => omega
            case o81 => omega
            case o82 => decide
            obtain ⟨⟨w_67, fw_67, hr_66⟩, hT, hs⟩ := p_65
            replace hT : hx_T T_tb L_62 h_63 := hT
            replace hs : hx_S T_tb [(6, 3)] L_42 h_43 L_62 h_63 := hs
            replace f_qi_4 := (hs.o (gqi.S hM) trivial rfl).1.trans f_qi_4
            replace f_20 := (hs.o (gx.S hM) trivial rfl).1.trans f_20
            replace fw_47 := (hs.o (gx.S hM) trivial rfl).1.trans fw_47
            replace af_qp : h_63.2.1 qp = pf := (funext fun j => (hs.a (gqp.S hM) rfl j).1).trans af_qp
            replace hM := hM.tr (hs.mono ?o83)
            case o83 => decide
            have fw_67 : h_63.2.1 x 3 = w_67 := fw_67
            have bw_67 := hT.gi (gx.S hM) tt_6 (k := 3) rfl
            rw [fw_67] at bw_67
            have bw_67 : -2147483648 ≤ w_67.toInt ∧ w_67.toInt ≤ 2147483647 := bw_67
            refine hx_retz hx hb hr (hx_nar01 ?o84) hlk hW ⟨⟨w_47, w_67, x_18, pl0, pf, fw_47, fw_67, f_20, f_qi_4, af_qp, (hv_K_f (x := 2 + 8 * w_33.toInt.toNat) ?o85 ?o86 ?o87 (by rw [← ek_7]; exact ht9.trans (hv_rt_3 (by omega) (by rcases hr_39 with z | z; exact z.2.2; exfalso; omega) (by omega))))⟩, hT, hM⟩ dX6_readTerm_139
            case o84 => omega
            case o85 => omega
            case o86 => omega
            case o87 => omega
        · skip
          refine lv_iconst (v := 1) hx hb dX6_readTerm_92 ?o88 ?_
          case o88 => decide
          refine lv_goto (tgt := 97) hx hb dX6_readTerm_93 ?o89 ?_
          case o89 => decide
          refine lv_istore (lv' := [(4, .int (1 : Int32)), (1, .int w_33), (3, .int r_23), (2, .int r_10), (0, .ref x)]) hx hb dX6_readTerm_97 hl ?o90 rfl (fun ls hl => ?_)
          case o90 => decide
          refine lv_iload hx hb dX6_readTerm_99 (lv_at hl 0 rfl) ?_
          refine hb_if_eq (zx := 1) (tgt := 113) hx hb ?o91 dX6_readTerm_101 ?o92 (fun c_68 => absurd c_68 ?o93) (fun c_68 => ?_)
          case o91 => decide
          case o92 => decide
          case o93 => decide
          refine lv_aload_n hx hb dX6_readTerm_104 rfl (lv_at hl 4 rfl) ?_
          refine va_ldcS (tx := P_st.getD 5 "") hx hb hown (zVR 5 ?o94) dX6_readTerm_105 ?_
          case o94 => decide
          refine hx_goi (hx_runVX (As := [.ref (b0.2.2.2.1 5)]) (rest := []) ⟨hx, hb, hml, hown, hts⟩ hW (gx.S hM) tt_6 (T := TX6) (N := 7) rfl (t_X6_readWord_v l dC dI dA L_35 h_36 H.size b0 x 5 hT (gx.S hM) ?o95 qt (gqt.S hM) ((hM.o gx trivial rfl).2.trans f_x_0) tf (hx_afS hM gqt rfl af_qt) w_33 fw_33 ln0 ((hM.o gx trivial rfl).1.trans f_x_1) ?o96) hZ (cwV 1 hts (hx_gV kw_467 kw_464 kw_466 kw_3 kw_95) rfl rfl rfl (by decide +kernel) ⟨Nat.le_of_ble_eq_true rfl, Nat.le_of_ble_eq_true rfl⟩) rfl hl.1 rfl (Nat.le_of_ble_eq_true rfl) dX6_readTerm_107 ⟨Nat.le_of_ble_eq_true rfl, Nat.le_of_ble_eq_true rfl⟩) hW (fun r_71 L_69 h_70 H locs p_72 hW => ?_)
          case o95 => decide
          case o96 => omega
          obtain ⟨⟨w_74, fw_74, hr_73⟩, hT, hs⟩ := p_72
          replace hT : hx_T T_tb L_69 h_70 := hT
          replace hs : hx_S T_tb [(6, 2)] L_35 h_36 L_69 h_70 := hs
          replace f_x_3 := (hs.o (gx.S hM) trivial rfl).1.trans f_x_3
          replace f_qi_4 := (hs.o (gqi.S hM) trivial rfl).1.trans f_qi_4
          replace f_20 := (hs.o (gx.S hM) trivial rfl).1.trans f_20
          replace af_qp : h_70.2.1 qp = pf := (funext fun j => (hs.a (gqp.S hM) rfl j).1).trans af_qp
          replace hM := hM.tr (hs.mono ?o97)
          case o97 => decide
          have fw_74 : h_70.2.1 x 2 = w_74 := fw_74
          have bw_74 := hT.gi (gx.S hM) tt_6 (k := 2) rfl
          rw [fw_74] at bw_74
          have bw_74 : 0 ≤ w_74.toInt ∧ w_74.toInt ≤ 402 := bw_74
          have eu_75 := hv_RW_5 hr_73.2.1
          have hr2 := hr_73.1; rw [uid] at hr2 eu_75
          refine lv_goto (tgt := 117) hx hb dX6_readTerm_110 ?o98 ?_
          case o98 => decide
          refine lv_istore (lv' := [(5, .int r_71), (4, .int (1 : Int32)), (1, .int w_33), (3, .int r_23), (2, .int r_10), (0, .ref x)]) hx hb dX6_readTerm_117 hl ?o99 rfl (fun ls hl => ?_)
          case o99 => decide
          refine lv_iload hx hb dX6_readTerm_119 (lv_at hl 0 rfl) ?_
          refine hb_if_ge (zx := r_71.toInt) (tgt := 140) hx hb rfl dX6_readTerm_121 ?o100 (fun c_76 => ?_) (fun c_76 => ?_)
          case o100 => decide
          · skip
            refine lv_aload_n hx hb dX6_readTerm_140 rfl (lv_at hl 5 rfl) ?_
            refine hk_getr hx hb hts hC_6 hown hW (gx.S hM) tt_6 6 ?o101 rfl kw_131 ⟨rfl, rfl, rfl⟩ ((hM.o gx trivial rfl).2.trans f_x_6) dX6_readTerm_141 ?_
            case o101 => decide
            refine lv_iload_n hx hb dX6_readTerm_144 rfl (lv_at hl 4 rfl) ?_
            refine lv_iload_n hx hb dX6_readTerm_145 rfl (lv_at hl 3 rfl) ?_
            refine lv_iload hx hb dX6_readTerm_146 (lv_at hl 1 rfl) ?_
            refine lv_iload hx hb dX6_readTerm_148 (lv_at hl 0 rfl) ?_
            have zc_1 : (1 : Int32).toInt = 1 := ?o102
            case o102 => decide
            refine hx_goi (hx_runS (As := [.int r_10, .int r_23, .int (1 : Int32), .int r_71]) (rest := [.ref qi]) ⟨hx, hb, hml, hown, hts⟩ hW (t_X0_term_v l dC dI dA L_69 h_70 H.size r_10 r_23 (1 : Int32) r_71 hT ⟨?o103, ?o104⟩ ⟨?o105, ?o106⟩ ⟨?o107, ?o108⟩ ⟨?o109, ?o110⟩) (va_cwS 4 hts (hx_gS kw_161 kw_579 kw_160 kw_96) rfl rfl rfl (by decide +kernel) ⟨Nat.le_of_ble_eq_true rfl, Nat.le_of_ble_eq_true rfl⟩) rfl hl.1 rfl (Nat.le_of_ble_eq_true rfl) dX6_readTerm_150 ⟨Nat.le_of_ble_eq_true rfl, Nat.le_of_ble_eq_true rfl⟩) hW (fun r_79 L_77 h_78 H locs p_80 hW => ?_)
            case o103 => omega
            case o104 => omega
            case o105 => omega
            case o106 => omega
            case o107 => omega
            case o108 => omega
            case o109 => omega
            case o110 => omega
            obtain ⟨hr_81, hT, hs⟩ := p_80
            replace hT : hx_T T_tb L_77 h_78 := hT
            replace hs : hx_S T_tb [] L_69 h_70 L_77 h_78 := hs
            replace f_x_3 := (hs.o (gx.S hM) trivial rfl).1.trans f_x_3
            replace f_qi_4 := (hs.o (gqi.S hM) trivial rfl).1.trans f_qi_4
            replace f_20 := (hs.o (gx.S hM) trivial rfl).1.trans f_20
            replace fw_74 := (hs.o (gx.S hM) trivial rfl).1.trans fw_74
            replace af_qp : h_78.2.1 qp = pf := (funext fun j => (hs.a (gqp.S hM) rfl j).1).trans af_qp
            replace hM := hM.tr (hs.mono ?o111)
            case o111 => decide
            refine hx_gov (hx_runV (As := [.int r_79]) (rest := []) ⟨hx, hb, hml, hown, hts⟩ hW (gqi.S hM) tt_129 (T := TX0) (N := 5) rfl (t_X0_addProof_v l dC dI dA L_77 h_78 H.size qi r_79 hT (gqi.S hM) qp (gqp.S hM) ((hM.o gqi trivial rfl).2.trans f_qi_3) pf af_qp pl0 f_qi_4 ?o112) (cwV 1 hts (hx_gV kw_583 kw_580 kw_581 kw_582 kw_96) rfl rfl rfl (by decide +kernel) ⟨Nat.le_of_ble_eq_true rfl, Nat.le_of_ble_eq_true rfl⟩) rfl hl.1 rfl (Nat.le_of_ble_eq_true rfl) dX6_readTerm_153 ⟨Nat.le_of_ble_eq_true rfl, Nat.le_of_ble_eq_true rfl⟩) hW (fun L_82 h_83 H locs p_85 hW => ?_)
            case o112 => omega
            obtain ⟨⟨w_87, w_88, fw_87, fw_88, hr_86⟩, hT, hs⟩ := p_85
            replace hT : hx_T T_tb L_82 h_83 := hT
            replace hs : hx_S T_tb [(128, 0), (129, 4)] L_77 h_78 L_82 h_83 := hs
            replace f_x_3 := (hs.o (gx.S hM) trivial rfl).1.trans f_x_3
            replace f_20 := (hs.o (gx.S hM) trivial rfl).1.trans f_20
            replace fw_74 := (hs.o (gx.S hM) trivial rfl).1.trans fw_74
            replace hM := hM.tr (hs.mono ?o113)
            case o113 => decide
            have fw_87 : h_83.2.1 qi 4 = w_87 := fw_87
            have bw_87 := hT.gi (gqi.S hM) tt_129 (k := 4) rfl
            rw [fw_87] at bw_87
            have bw_87 : 0 ≤ w_87.toInt ∧ w_87.toInt ≤ 160 := bw_87
            have fw_88 : h_83.2.1 qp = w_88 := fw_88
            refine lv_iconst (v := 1) hx hb dX6_readTerm_156 ?o114 ?_
            case o114 => decide
            refine hx_retz hx hb hr rfl hlk hW ⟨⟨w_74, ft0, x_18, w_87, w_88, fw_74, f_x_3, f_20, fw_87, fw_88, (hv_K_t (x := hv_we tf ln0.toInt.toNat w_33.toInt.toNat) (y := tm0.toInt.toNat + 1) (o := (hv_wd tf ln0.toInt.toNat w_6.toInt.toNat - 2, (hv_sg tf ln0.toInt.toNat (hv_sk tf ln0.toInt.toNat (hv_we tf ln0.toInt.toNat w_6.toInt.toNat))).1, 10000 + (hv_wd tf ln0.toInt.toNat w_33.toInt.toNat - 3)) :: o) ?o115 ?o116 ?o117 ?o118 (hv_ls_u hO (by have h8 := hv_cc_w (w := hv_wd tf ln0.toInt.toNat w_6.toInt.toNat) (l := r_10.toInt) (r := r_71.toInt) (v := r_79.toInt) (g := hv_sg tf ln0.toInt.toNat (hv_sk tf ln0.toInt.toNat (hv_we tf ln0.toInt.toNat w_6.toInt.toNat))) (by omega) (by omega) (by omega) (by omega) (by omega); rw [show hv_wd tf ln0.toInt.toNat w_33.toInt.toNat - 3 = r_71.toInt by omega]; exact h8) ?o119 hr_86.2) (by rw [← ek_7]; exact ht9.trans (hv_rt_2 (by omega))))⟩, hT, hM⟩ dX6_readTerm_157
            case o115 => decide
            case o116 => omega
            case o117 => omega
            case o118 => omega
            case o119 => omega
          · skip
            refine lv_aload_n hx hb dX6_readTerm_124 rfl (lv_at hl 5 rfl) ?_
            refine lv_iload_n hx hb dX6_readTerm_125 rfl (lv_at hl 2 rfl) ?_
            refine lv_iload hx hb dX6_readTerm_126 (lv_at hl 1 rfl) ?_
            refine hb_if_eq (zx := 1) (tgt := 135) hx hb ?o120 dX6_readTerm_128 ?o121 (fun c_89 => absurd c_89 ?o122) (fun c_89 => ?_)
            case o120 => decide
            case o121 => decide
            case o122 => decide
            refine lv_iconst (v := 0) hx hb dX6_readTerm_131 ?o123 ?_
            case o123 => decide
            refine lv_goto (tgt := 136) hx hb dX6_readTerm_132 ?o124 ?_
            case o124 => decide
            have zc_0 : (0 : Int32).toInt = 0 := ?o125
            case o125 => decide
            refine hx_goi (hx_runV (As := [.int w_33, .int (0 : Int32)]) (rest := []) ⟨hx, hb, hml, hown, hts⟩ hW (gx.S hM) tt_6 (T := TX6) (N := 7) rfl (t_X6_refuse_v l dC dI dA L_69 h_70 H.size x w_33 (0 : Int32) hT (gx.S hM) ⟨?o126, ?o127⟩ ?o128) (cwV 2 hts (hx_gV kw_527 kw_524 kw_526 kw_6 kw_95) rfl rfl rfl (by decide +kernel) ⟨Nat.le_of_ble_eq_true rfl, Nat.le_of_ble_eq_true rfl⟩) rfl hl.1 rfl (Nat.le_of_ble_eq_true rfl) dX6_readTerm_136 ⟨Nat.le_of_ble_eq_true rfl, Nat.le_of_ble_eq_true rfl⟩) hW (fun r_92 L_90 h_91 H locs p_93 hW => ?_)
            case o126 => omega
            case o127 => omega
            case o128 => decide
            obtain ⟨⟨w_95, fw_95, hr_94⟩, hT, hs⟩ := p_93
            replace hT : hx_T T_tb L_90 h_91 := hT
            replace hs : hx_S T_tb [(6, 3)] L_69 h_70 L_90 h_91 := hs
            replace f_qi_4 := (hs.o (gqi.S hM) trivial rfl).1.trans f_qi_4
            replace f_20 := (hs.o (gx.S hM) trivial rfl).1.trans f_20
            replace fw_74 := (hs.o (gx.S hM) trivial rfl).1.trans fw_74
            replace af_qp : h_91.2.1 qp = pf := (funext fun j => (hs.a (gqp.S hM) rfl j).1).trans af_qp
            replace hM := hM.tr (hs.mono ?o129)
            case o129 => decide
            have fw_95 : h_91.2.1 x 3 = w_95 := fw_95
            have bw_95 := hT.gi (gx.S hM) tt_6 (k := 3) rfl
            rw [fw_95] at bw_95
            have bw_95 : -2147483648 ≤ w_95.toInt ∧ w_95.toInt ≤ 2147483647 := bw_95
            refine hx_retz hx hb hr (hx_nar01 ?o130) hlk hW ⟨⟨w_74, w_95, x_18, pl0, pf, fw_74, fw_95, f_20, f_qi_4, af_qp, (hv_K_f (x := 1 + 8 * w_33.toInt.toNat) ?o131 ?o132 ?o133 (by rw [← ek_7]; exact ht9.trans (hv_rt_1 (by omega) (by rcases hr_39 with z | z; (exfalso; omega); exact fun z9 => z.2 (by omega)))))⟩, hT, hM⟩ dX6_readTerm_139
            case o130 => omega
            case o131 => omega
            case o132 => omega
            case o133 => omega
      · skip
        refine lv_aload_n hx hb dX6_readTerm_62 rfl (lv_at hl 3 rfl) ?_
        refine lv_aload_n hx hb dX6_readTerm_63 rfl (lv_at hl 3 rfl) ?_
        refine hk_geti hx hb hts hC_6 hown hW (gx.S hM) tt_6 2 ?o134 rfl kw_127 ⟨rfl, rfl, rfl⟩ fw_26 dX6_readTerm_64 ?_
        case o134 => decide
        refine lv_iconst (v := 0) hx hb dX6_readTerm_67 ?o135 ?_
        case o135 => decide
        have zc_0 : (0 : Int32).toInt = 0 := ?o136
        case o136 => decide
        refine hx_goi (hx_runV (As := [.int w_26, .int (0 : Int32)]) (rest := []) ⟨hx, hb, hml, hown, hts⟩ hW (gx.S hM) tt_6 (T := TX6) (N := 7) rfl (t_X6_refuse_v l dC dI dA L_21 h_22 H.size x w_26 (0 : Int32) hT (gx.S hM) ⟨?o137, ?o138⟩ ?o139) (cwV 2 hts (hx_gV kw_527 kw_524 kw_526 kw_6 kw_95) rfl rfl rfl (by decide +kernel) ⟨Nat.le_of_ble_eq_true rfl, Nat.le_of_ble_eq_true rfl⟩) rfl hl.1 rfl (Nat.le_of_ble_eq_true rfl) dX6_readTerm_68 ⟨Nat.le_of_ble_eq_true rfl, Nat.le_of_ble_eq_true rfl⟩) hW (fun r_98 L_96 h_97 H locs p_99 hW => ?_)
        case o137 => omega
        case o138 => omega
        case o139 => decide
        obtain ⟨⟨w_101, fw_101, hr_100⟩, hT, hs⟩ := p_99
        replace hT : hx_T T_tb L_96 h_97 := hT
        replace hs : hx_S T_tb [(6, 3)] L_21 h_22 L_96 h_97 := hs
        replace f_qi_4 := (hs.o (gqi.S hM) trivial rfl).1.trans f_qi_4
        replace f_20 := (hs.o (gx.S hM) trivial rfl).1.trans f_20
        replace fw_26 := (hs.o (gx.S hM) trivial rfl).1.trans fw_26
        replace af_qp : h_97.2.1 qp = pf := (funext fun j => (hs.a (gqp.S hM) rfl j).1).trans af_qp
        replace hM := hM.tr (hs.mono ?o140)
        case o140 => decide
        have fw_101 : h_97.2.1 x 3 = w_101 := fw_101
        have bw_101 := hT.gi (gx.S hM) tt_6 (k := 3) rfl
        rw [fw_101] at bw_101
        have bw_101 : -2147483648 ≤ w_101.toInt ∧ w_101.toInt ≤ 2147483647 := bw_101
        refine hx_retz hx hb hr (hx_nar01 ?o141) hlk hW ⟨⟨w_26, w_101, x_18, pl0, pf, fw_26, fw_101, f_20, f_qi_4, af_qp, (hv_K_f (x := 1 + 8 * hv_sk tf ln0.toInt.toNat (hv_we tf ln0.toInt.toNat w_6.toInt.toNat)) ?o142 ?o143 ?o144 (by rw [← ek_7]; exact hv_term_3 (by omega) (by omega) (by omega)))⟩, hT, hM⟩ dX6_readTerm_71
        case o141 => omega
        case o142 => omega
        case o143 => omega
        case o144 => omega
    · skip
      refine lv_aload_n hx hb dX6_readTerm_36 rfl (lv_at hl 2 rfl) ?_
      refine lv_iload_n hx hb dX6_readTerm_37 rfl (lv_at hl 1 rfl) ?_
      refine lv_iconst (v := 4) hx hb dX6_readTerm_38 ?o145 ?_
      case o145 => decide
      have zc_4 : (4 : Int32).toInt = 4 := ?o146
      case o146 => decide
      refine hx_goi (hx_runV (As := [.int w_6, .int (4 : Int32)]) (rest := []) ⟨hx, hb, hml, hown, hts⟩ hW (gx.S hM) tt_6 (T := TX6) (N := 7) rfl (t_X6_refuse_v l dC dI dA L_8 h_9 H.size x w_6 (4 : Int32) hT (gx.S hM) ⟨?o147, ?o148⟩ ?o149) (cwV 2 hts (hx_gV kw_527 kw_524 kw_526 kw_6 kw_95) rfl rfl rfl (by decide +kernel) ⟨Nat.le_of_ble_eq_true rfl, Nat.le_of_ble_eq_true rfl⟩) rfl hl.1 rfl (Nat.le_of_ble_eq_true rfl) dX6_readTerm_39 ⟨Nat.le_of_ble_eq_true rfl, Nat.le_of_ble_eq_true rfl⟩) hW (fun r_104 L_102 h_103 H locs p_105 hW => ?_)
      case o147 => omega
      case o148 => omega
      case o149 => decide
      obtain ⟨⟨w_107, fw_107, hr_106⟩, hT, hs⟩ := p_105
      replace hT : hx_T T_tb L_102 h_103 := hT
      replace hs : hx_S T_tb [(6, 3)] L_8 h_9 L_102 h_103 := hs
      replace f_x_5 := (hs.o (gx.S hM) trivial rfl).1.trans f_x_5
      replace f_qi_4 := (hs.o (gqi.S hM) trivial rfl).1.trans f_qi_4
      replace fw_13 := (hs.o (gx.S hM) trivial rfl).1.trans fw_13
      replace af_qp : h_103.2.1 qp = pf := (funext fun j => (hs.a (gqp.S hM) rfl j).1).trans af_qp
      replace hM := hM.tr (hs.mono ?o150)
      case o150 => decide
      have fw_107 : h_103.2.1 x 3 = w_107 := fw_107
      have bw_107 := hT.gi (gx.S hM) tt_6 (k := 3) rfl
      rw [fw_107] at bw_107
      have bw_107 : -2147483648 ≤ w_107.toInt ∧ w_107.toInt ≤ 2147483647 := bw_107
      refine hx_retz hx hb hr (hx_nar01 ?o151) hlk hW ⟨⟨w_13, w_107, tm0, pl0, pf, fw_13, fw_107, f_x_5, f_qi_4, af_qp, (hv_K_f (x := 5 + 8 * w_6.toInt.toNat) ?o152 ?o153 ?o154 (by rw [← ek_7]; exact hv_term_2 (by omega) (by omega)))⟩, hT, hM⟩ dX6_readTerm_42
      case o151 => omega
      case o152 => omega
      case o153 => omega
      case o154 => omega
  · skip
    refine lv_aload_n hx hb dX6_readTerm_20 rfl (lv_at hl 2 rfl) ?_
    refine lv_iload_n hx hb dX6_readTerm_21 rfl (lv_at hl 1 rfl) ?_
    refine lv_iconst (v := 0) hx hb dX6_readTerm_22 ?o155 ?_
    case o155 => decide
    have zc_0 : (0 : Int32).toInt = 0 := ?o156
    case o156 => decide
    refine hx_goi (hx_runV (As := [.int w_6, .int (0 : Int32)]) (rest := []) ⟨hx, hb, hml, hown, hts⟩ hW (gx.S hM) tt_6 (T := TX6) (N := 7) rfl (t_X6_refuse_v l dC dI dA L_8 h_9 H.size x w_6 (0 : Int32) hT (gx.S hM) ⟨?o157, ?o158⟩ ?o159) (cwV 2 hts (hx_gV kw_527 kw_524 kw_526 kw_6 kw_95) rfl rfl rfl (by decide +kernel) ⟨Nat.le_of_ble_eq_true rfl, Nat.le_of_ble_eq_true rfl⟩) rfl hl.1 rfl (Nat.le_of_ble_eq_true rfl) dX6_readTerm_23 ⟨Nat.le_of_ble_eq_true rfl, Nat.le_of_ble_eq_true rfl⟩) hW (fun r_110 L_108 h_109 H locs p_111 hW => ?_)
    case o157 => omega
    case o158 => omega
    case o159 => decide
    obtain ⟨⟨w_113, fw_113, hr_112⟩, hT, hs⟩ := p_111
    replace hT : hx_T T_tb L_108 h_109 := hT
    replace hs : hx_S T_tb [(6, 3)] L_8 h_9 L_108 h_109 := hs
    replace f_x_5 := (hs.o (gx.S hM) trivial rfl).1.trans f_x_5
    replace f_qi_4 := (hs.o (gqi.S hM) trivial rfl).1.trans f_qi_4
    replace fw_13 := (hs.o (gx.S hM) trivial rfl).1.trans fw_13
    replace af_qp : h_109.2.1 qp = pf := (funext fun j => (hs.a (gqp.S hM) rfl j).1).trans af_qp
    replace hM := hM.tr (hs.mono ?o160)
    case o160 => decide
    have fw_113 : h_109.2.1 x 3 = w_113 := fw_113
    have bw_113 := hT.gi (gx.S hM) tt_6 (k := 3) rfl
    rw [fw_113] at bw_113
    have bw_113 : -2147483648 ≤ w_113.toInt ∧ w_113.toInt ≤ 2147483647 := bw_113
    refine hx_retz hx hb hr (hx_nar01 ?o161) hlk hW ⟨⟨w_13, w_113, tm0, pl0, pf, fw_13, fw_113, f_x_5, f_qi_4, af_qp, (hv_K_f (x := 1 + 8 * w_6.toInt.toNat) ?o162 ?o163 ?o164 (by rw [← ek_7]; exact hv_term_1 (by omega)))⟩, hT, hM⟩ dX6_readTerm_26
    case o161 => omega
    case o162 => omega
    case o163 => omega
    case o164 => omega
end
section
def hv_MO (i1 : Int32) (D fr lo : Nat) : Prop := ∀ (l : Launch) (dC : Nat → ClassId) (dI : Nat → Nat → Nat) (dA : Nat → ClassId) (L : List Nat) (h : hx_h) (sz : Nat) (b0 : hx_z) (x : Nat) (hT : hx_T T_tb L h) (gx : hx_g L h x 6) (qt : Nat) (gqt : hx_g L h qt 42) (f_x_0 : h.2.2 x 0 = some qt) (qi : Nat) (gqi : hx_g L h qi 129) (f_x_6 : h.2.2 x 6 = some qi) (qp : Nat) (gqp : hx_g L h qp 128) (f_qi_3 : h.2.2 qi 3 = some qp) (tf : Nat → Int32) (af_qt : h.2.1 qt = tf) (pf : Nat → Int32) (af_qp : h.2.1 qp = pf) (at0 : Int32) (f_x_2 : h.2.1 x 2 = at0) (ln0 : Int32) (f_x_1 : h.2.1 x 1 = ln0) (ft0 : Int32) (f_x_3 : h.2.1 x 3 = ft0) (tm0 : Int32) (f_x_5 : h.2.1 x 5 = tm0) (pl0 : Int32) (f_qi_4 : h.2.1 qi 4 = pl0) (o : List hv_tok) (hO : hv_ls pf pl0.toInt.toNat = o.map hv_cc) (hF : ft0.toInt = 0) (hB : 3 * pl0.toInt ≤ at0.toInt + tm0.toInt) (hA : at0.toInt ≤ ln0.toInt) (hT0 : 0 ≤ tm0.toInt ∧ tm0.toInt ≤ 20), Met l yX6_readOne (Cond.code yX6_readOne cX6_readOne 3 (some .boolean) :: hx_all) ({ frames := fr, cells := 0, slots := 0, locals := lo }) (va_Pc [.ref x, .int i1] (hx_BX T_tb (P_ty dA) (dC, dI) vwCl L h sz b0)) (va_Qi (fun (r : Int32) (u : List Nat × hx_h) => (∃ (at1 : Int32) (ft1 : Int32) (tm1 : Int32) (pl1 : Int32) (pf1 : Nat → Int32), u.2.2.1 x 2 = at1 ∧ u.2.2.1 x 3 = ft1 ∧ u.2.2.1 x 5 = tm1 ∧ u.2.2.1 qi 4 = pl1 ∧ u.2.2.1 qp = pf1 ∧ (hv_K hv_cc (hv_one tf ln0.toInt.toNat D at0.toInt.toNat tm0.toInt.toNat o) r.toInt ft1.toInt at1.toInt tm1.toInt (hv_ls pf1 pl1.toInt.toNat))) ∧ hx_T T_tb u.1 u.2 ∧ hx_S T_tb [(6, 2), (6, 3), (6, 5), (128, 0), (129, 4)] L h u.1 u.2) (hx_E T_tb (P_ty dA) (dC, dI) vwCl (hx_A L sz)) (hx_A L sz)) 0 0 (hx_A L sz)

def hv_ME (i1 : Int32) (D fr lo : Nat) : Prop := ∀ (l : Launch) (dC : Nat → ClassId) (dI : Nat → Nat → Nat) (dA : Nat → ClassId) (L : List Nat) (h : hx_h) (sz : Nat) (b0 : hx_z) (x : Nat) (hT : hx_T T_tb L h) (gx : hx_g L h x 6) (qt : Nat) (gqt : hx_g L h qt 42) (f_x_0 : h.2.2 x 0 = some qt) (qi : Nat) (gqi : hx_g L h qi 129) (f_x_6 : h.2.2 x 6 = some qi) (qp : Nat) (gqp : hx_g L h qp 128) (f_qi_3 : h.2.2 qi 3 = some qp) (tf : Nat → Int32) (af_qt : h.2.1 qt = tf) (pf : Nat → Int32) (af_qp : h.2.1 qp = pf) (at0 : Int32) (f_x_2 : h.2.1 x 2 = at0) (ln0 : Int32) (f_x_1 : h.2.1 x 1 = ln0) (ft0 : Int32) (f_x_3 : h.2.1 x 3 = ft0) (tm0 : Int32) (f_x_5 : h.2.1 x 5 = tm0) (pl0 : Int32) (f_qi_4 : h.2.1 qi 4 = pl0) (o : List hv_tok) (hO : hv_ls pf pl0.toInt.toNat = o.map hv_cc) (hF : ft0.toInt = 0) (hB : 3 * pl0.toInt ≤ at0.toInt + tm0.toInt) (hA : at0.toInt ≤ ln0.toInt) (hT0 : 0 ≤ tm0.toInt ∧ tm0.toInt ≤ 20), Met l yX6_readEither (Cond.code yX6_readEither cX6_readEither 5 (some .boolean) :: hx_all) ({ frames := fr, cells := 0, slots := 0, locals := lo }) (va_Pc [.ref x, .int i1] (hx_BX T_tb (P_ty dA) (dC, dI) vwCl L h sz b0)) (va_Qi (fun (r : Int32) (u : List Nat × hx_h) => (∃ (at1 : Int32) (ft1 : Int32) (tm1 : Int32) (pl1 : Int32) (pf1 : Nat → Int32), u.2.2.1 x 2 = at1 ∧ u.2.2.1 x 3 = ft1 ∧ u.2.2.1 x 5 = tm1 ∧ u.2.2.1 qi 4 = pl1 ∧ u.2.2.1 qp = pf1 ∧ (hv_K hv_cc (hv_LE tf ln0.toInt.toNat D false false at0.toInt.toNat tm0.toInt.toNat o) r.toInt ft1.toInt at1.toInt tm1.toInt (hv_ls pf1 pl1.toInt.toNat))) ∧ hx_T T_tb u.1 u.2 ∧ hx_S T_tb [(6, 2), (6, 3), (6, 5), (128, 0), (129, 4)] L h u.1 u.2) (hx_E T_tb (P_ty dA) (dC, dI) vwCl (hx_A L sz)) (hx_A L sz)) 0 0 (hx_A L sz)


set_option maxHeartbeats 4000000 in
set_option maxRecDepth 100000 in
theorem t_X6_readOne_v8 (l : Launch) (dC : Nat → ClassId) (dI : Nat → Nat → Nat) (dA : Nat → ClassId) (L : List Nat) (h : hx_h) (sz : Nat) (b0 : hx_z) (x : Nat) (hT : hx_T T_tb L h) (gx : hx_g L h x 6) (qt : Nat) (gqt : hx_g L h qt 42) (f_x_0 : h.2.2 x 0 = some qt) (qi : Nat) (gqi : hx_g L h qi 129) (f_x_6 : h.2.2 x 6 = some qi) (qp : Nat) (gqp : hx_g L h qp 128) (f_qi_3 : h.2.2 qi 3 = some qp) (tf : Nat → Int32) (af_qt : h.2.1 qt = tf) (pf : Nat → Int32) (af_qp : h.2.1 qp = pf) (at0 : Int32) (f_x_2 : h.2.1 x 2 = at0) (ln0 : Int32) (f_x_1 : h.2.1 x 1 = ln0) (ft0 : Int32) (f_x_3 : h.2.1 x 3 = ft0) (tm0 : Int32) (f_x_5 : h.2.1 x 5 = tm0) (pl0 : Int32) (f_qi_4 : h.2.1 qi 4 = pl0) (o : List hv_tok) (hO : hv_ls pf pl0.toInt.toNat = o.map hv_cc) (hF : ft0.toInt = 0) (hB : 3 * pl0.toInt ≤ at0.toInt + tm0.toInt) (hA : at0.toInt ≤ ln0.toInt) (hT0 : 0 ≤ tm0.toInt ∧ tm0.toInt ≤ 20) : Met l yX6_readOne (Cond.code yX6_readOne cX6_readOne 3 (some .boolean) :: hx_all) ({ frames := 7, cells := 0, slots := 0, locals := 158 }) (va_Pc [.ref x, .int (8 : Int32)] (hx_BX T_tb (P_ty dA) (dC, dI) vwCl L h sz b0)) (va_Qi (fun (r : Int32) (u : List Nat × hx_h) => (∃ (at1 : Int32) (ft1 : Int32) (tm1 : Int32) (pl1 : Int32) (pf1 : Nat → Int32), u.2.2.1 x 2 = at1 ∧ u.2.2.1 x 3 = ft1 ∧ u.2.2.1 x 5 = tm1 ∧ u.2.2.1 qi 4 = pl1 ∧ u.2.2.1 qp = pf1 ∧ (hv_K hv_cc (hv_one tf ln0.toInt.toNat 0 at0.toInt.toNat tm0.toInt.toNat o) r.toInt ft1.toInt at1.toInt tm1.toInt (hv_ls pf1 pl1.toInt.toNat))) ∧ hx_T T_tb u.1 u.2 ∧ hx_S T_tb [(6, 2), (6, 3), (6, 5), (128, 0), (129, 4)] L h u.1 u.2) (hx_E T_tb (P_ty dA) (dC, dI) vwCl (hx_A L sz)) (hx_A L sz)) 0 0 (hx_A L sz) := by
  refine hx_metX (lv := [(0, .ref x), (1, .int (8 : Int32))]) (by decide +kernel) rfl (Nat.le_of_ble_eq_true rfl) rfl ?_
  intro p e s m below meth c hx hb hml hr hlk hts0 hown hin hsz hW hZ ls hl
  have hts : ∀ w ∈ hx_all, w.before _ s = true := fun w hw => hts0 w (List.mem_cons_of_mem _ hw)
  have hown : s.vm.findClass "SmallCourt$Reader" = some m.cls := hown
  have hM : hx_S T_tb [(6, 2), (6, 3), (6, 5), (128, 0), (129, 4)] L h L h := hx_S.rf
  obtain ⟨zLT, zLA, zMT, zMA, zCS, zSF, zVS, zVR⟩ := hZ.2.2.2.2.2.2
  have b_at0 := hT.gi gx tt_6 (k := 2) rfl
  rw [f_x_2] at b_at0
  have b_at0 : 0 ≤ at0.toInt ∧ at0.toInt ≤ 402 := b_at0
  have b_ln0 := hT.gi gx tt_6 (k := 1) rfl
  rw [f_x_1] at b_ln0
  have b_ln0 : 0 ≤ ln0.toInt ∧ ln0.toInt ≤ 400 := b_ln0
  have b_ft0 := hT.gi gx tt_6 (k := 3) rfl
  rw [f_x_3] at b_ft0
  have b_ft0 : -2147483648 ≤ ft0.toInt ∧ ft0.toInt ≤ 2147483647 := b_ft0
  have b_tm0 := hT.gi gx tt_6 (k := 5) rfl
  rw [f_x_5] at b_tm0
  have b_tm0 : -2147483648 ≤ tm0.toInt ∧ tm0.toInt ≤ 2147483647 := b_tm0
  have b_pl0 := hT.gi gqi tt_129 (k := 4) rfl
  rw [f_qi_4] at b_pl0
  have b_pl0 : 0 ≤ pl0.toInt ∧ pl0.toInt ≤ 160 := b_pl0
  refine lv_aload_n hx hb dX6_readOne_0 rfl (lv_at hl 0 rfl) ?_
  refine va_ldcS (tx := P_st.getD 4 "") hx hb hown (zVR 4 ?o0) dX6_readOne_1 ?_
  case o0 => decide
  refine hx_goi (hx_runVX (As := [.ref (b0.2.2.2.1 4)]) (rest := []) ⟨hx, hb, hml, hown, hts⟩ hW (gx.S hM) tt_6 (T := TX6) (N := 7) rfl (t_X6_isNextWord_v l dC dI dA L h s.heap.size b0 x 4 hT (gx.S hM) ?o1 qt (gqt.S hM) ((hM.o gx trivial rfl).2.trans f_x_0) tf (hx_afS hM gqt rfl af_qt) at0 f_x_2 ln0 ((hM.o gx trivial rfl).1.trans f_x_1) ?o2) hZ (cwV 1 hts (hx_gV kw_565 kw_562 kw_564 kw_14 kw_95) rfl rfl rfl (by decide +kernel) ⟨Nat.le_of_ble_eq_true rfl, Nat.le_of_ble_eq_true rfl⟩) rfl hl.1 rfl (Nat.le_of_ble_eq_true rfl) dX6_readOne_3 ⟨Nat.le_of_ble_eq_true rfl, Nat.le_of_ble_eq_true rfl⟩) hW (fun r_3 L_1 h_2 H locs p_4 hW => ?_)
  case o1 => decide
  case o2 => omega
  obtain ⟨⟨w_6, fw_6, hr_5⟩, hT, hs⟩ := p_4
  replace hT : hx_T T_tb L_1 h_2 := hT
  replace hs : hx_S T_tb [(6, 2)] L h L_1 h_2 := hs
  replace f_x_3 := (hs.o (gx.S hM) trivial rfl).1.trans f_x_3
  replace f_x_5 := (hs.o (gx.S hM) trivial rfl).1.trans f_x_5
  replace f_qi_4 := (hs.o (gqi.S hM) trivial rfl).1.trans f_qi_4
  replace af_qp : h_2.2.1 qp = pf := (funext fun j => (hs.a (gqp.S hM) rfl j).1).trans af_qp
  replace hM := hM.tr (hs.mono ?o3)
  case o3 => decide
  have fw_6 : h_2.2.1 x 2 = w_6 := fw_6
  have bw_6 := hT.gi (gx.S hM) tt_6 (k := 2) rfl
  rw [fw_6] at bw_6
  have bw_6 : 0 ≤ w_6.toInt ∧ w_6.toInt ≤ 402 := bw_6
  have eu_7 : (r_3.toInt = 1 ∧ hv_wd tf ln0.toInt.toNat (hv_sk tf ln0.toInt.toNat at0.toInt.toNat) = 2) ∨ (r_3.toInt = 0 ∧ hv_wd tf ln0.toInt.toNat (hv_sk tf ln0.toInt.toNat at0.toInt.toNat) ≠ 2) := hv_NW_u (js := 4) ?o4 hr_5.2.1
  case o4 => decide
  have ek_8 : w_6.toInt.toNat = hv_sk tf ln0.toInt.toNat at0.toInt.toNat := ?o5
  case o5 => omega
  rw [← ek_8] at eu_7
  refine lv_istore_n (lv' := [(2, .int r_3), (0, .ref x), (1, .int (8 : Int32))]) hx hb dX6_readOne_6 rfl hl ?o6 rfl (fun ls hl => ?_)
  case o6 => decide
  have sid : hv_sk tf ln0.toInt.toNat w_6.toInt.toNat = w_6.toInt.toNat := ?o7
  case o7 =>
    rw [ek_8]
    exact hv_sk_id
  have hl0 := hv_ls_l hO
  refine lv_iload_n hx hb dX6_readOne_7 rfl (lv_at hl 0 rfl) ?_
  refine hb_if_ne (zx := r_3.toInt) (tgt := 25) hx hb rfl dX6_readOne_8 ?o8 (fun c_9 => ?_) (fun c_9 => ?_)
  case o8 => decide
  · skip
    replace eu_7 : r_3.toInt = 1 ∧ hv_wd tf ln0.toInt.toNat w_6.toInt.toNat = 2 := ?o9
    case o9 =>
      rcases eu_7 with z | z
      exact z
      exfalso
      omega
    refine lv_iload_n hx hb dX6_readOne_25 rfl (lv_at hl 2 rfl) ?_
    refine lv_bipush (v := 8) hx hb dX6_readOne_26 ?o10 ?_
    case o10 => decide
    refine hb_icmp_lt (zx := 8) (zy := 8) (tgt := 41) hx hb ?o11 ?o12 dX6_readOne_28 ?o13 (fun c_10 => absurd c_10 ?o14) (fun c_10 => ?_)
    case o11 => decide
    case o12 => decide
    case o13 => decide
    case o14 => decide
    refine lv_aload_n hx hb dX6_readOne_31 rfl (lv_at hl 1 rfl) ?_
    refine lv_aload_n hx hb dX6_readOne_32 rfl (lv_at hl 1 rfl) ?_
    refine hk_geti hx hb hts hC_6 hown hW (gx.S hM) tt_6 2 ?o15 rfl kw_127 ⟨rfl, rfl, rfl⟩ fw_6 dX6_readOne_33 ?_
    case o15 => decide
    refine lv_iconst (v := 3) hx hb dX6_readOne_36 ?o16 ?_
    case o16 => decide
    have zc_3 : (3 : Int32).toInt = 3 := ?o17
    case o17 => decide
    refine hx_goi (hx_runV (As := [.int w_6, .int (3 : Int32)]) (rest := []) ⟨hx, hb, hml, hown, hts⟩ hW (gx.S hM) tt_6 (T := TX6) (N := 7) rfl (t_X6_refuse_v l dC dI dA L_1 h_2 H.size x w_6 (3 : Int32) hT (gx.S hM) ⟨?o18, ?o19⟩ ?o20) (cwV 2 hts (hx_gV kw_527 kw_524 kw_526 kw_6 kw_95) rfl rfl rfl (by decide +kernel) ⟨Nat.le_of_ble_eq_true rfl, Nat.le_of_ble_eq_true rfl⟩) rfl hl.1 rfl (Nat.le_of_ble_eq_true rfl) dX6_readOne_37 ⟨Nat.le_of_ble_eq_true rfl, Nat.le_of_ble_eq_true rfl⟩) hW (fun r_13 L_11 h_12 H locs p_14 hW => ?_)
    case o18 => omega
    case o19 => omega
    case o20 => decide
    obtain ⟨⟨w_16, fw_16, hr_15⟩, hT, hs⟩ := p_14
    replace hT : hx_T T_tb L_11 h_12 := hT
    replace hs : hx_S T_tb [(6, 3)] L_1 h_2 L_11 h_12 := hs
    replace f_x_5 := (hs.o (gx.S hM) trivial rfl).1.trans f_x_5
    replace f_qi_4 := (hs.o (gqi.S hM) trivial rfl).1.trans f_qi_4
    replace fw_6 := (hs.o (gx.S hM) trivial rfl).1.trans fw_6
    replace af_qp : h_12.2.1 qp = pf := (funext fun j => (hs.a (gqp.S hM) rfl j).1).trans af_qp
    replace hM := hM.tr (hs.mono ?o21)
    case o21 => decide
    have fw_16 : h_12.2.1 x 3 = w_16 := fw_16
    have bw_16 := hT.gi (gx.S hM) tt_6 (k := 3) rfl
    rw [fw_16] at bw_16
    have bw_16 : -2147483648 ≤ w_16.toInt ∧ w_16.toInt ≤ 2147483647 := bw_16
    refine hx_retz hx hb hr (hx_nar01 ?o22) hlk hW ⟨⟨w_6, w_16, tm0, pl0, pf, fw_6, fw_16, f_x_5, f_qi_4, af_qp, (hv_K_f (x := 4 + 8 * w_6.toInt.toNat) ?o23 ?o24 ?o25 ((hv_one_d (Or.inl (by rw [← ek_8]; exact eu_7.2))).trans (by rw [← ek_8])))⟩, hT, hM⟩ dX6_readOne_40
    case o22 => omega
    case o23 => omega
    case o24 => omega
    case o25 => omega
  · skip
    replace eu_7 : r_3.toInt = 0 ∧ hv_wd tf ln0.toInt.toNat w_6.toInt.toNat ≠ 2 := ?o26
    case o26 =>
      rcases eu_7 with z | z
      (exfalso; omega)
      exact z
    refine lv_aload_n hx hb dX6_readOne_11 rfl (lv_at hl 1 rfl) ?_
    refine lv_bipush (v := 40) hx hb dX6_readOne_12 ?o27 ?_
    case o27 => decide
    have zc_40 : (40 : Int32).toInt = 40 := ?o28
    case o28 => decide
    refine hx_goi (hx_runV (As := [.int (40 : Int32)]) (rest := []) ⟨hx, hb, hml, hown, hts⟩ hW (gx.S hM) tt_6 (T := TX6) (N := 7) rfl (t_X6_isByte_v l dC dI dA L_1 h_2 H.size x (40 : Int32) hT (gx.S hM) qt (gqt.S hM) ((hM.o gx trivial rfl).2.trans f_x_0) tf (hx_afS hM gqt rfl af_qt) w_6 fw_6 ln0 ((hM.o gx trivial rfl).1.trans f_x_1)) (cwV 1 hts (hx_gV kw_569 kw_566 kw_568 kw_15 kw_95) rfl rfl rfl (by decide +kernel) ⟨Nat.le_of_ble_eq_true rfl, Nat.le_of_ble_eq_true rfl⟩) rfl hl.1 rfl (Nat.le_of_ble_eq_true rfl) dX6_readOne_14 ⟨Nat.le_of_ble_eq_true rfl, Nat.le_of_ble_eq_true rfl⟩) hW (fun r_19 L_17 h_18 H locs p_20 hW => ?_)
    obtain ⟨hr_21, hT, hs⟩ := p_20
    replace hT : hx_T T_tb L_17 h_18 := hT
    replace hs : hx_S T_tb [] L_1 h_2 L_17 h_18 := hs
    replace f_x_3 := (hs.o (gx.S hM) trivial rfl).1.trans f_x_3
    replace f_x_5 := (hs.o (gx.S hM) trivial rfl).1.trans f_x_5
    replace f_qi_4 := (hs.o (gqi.S hM) trivial rfl).1.trans f_qi_4
    replace fw_6 := (hs.o (gx.S hM) trivial rfl).1.trans fw_6
    replace af_qp : h_18.2.1 qp = pf := (funext fun j => (hs.a (gqp.S hM) rfl j).1).trans af_qp
    replace hM := hM.tr (hs.mono ?o29)
    case o29 => decide
    refine hb_if_ne (zx := r_19.toInt) (tgt := 25) hx hb rfl dX6_readOne_17 ?o30 (fun c_22 => ?_) (fun c_22 => ?_)
    case o30 => decide
    · skip
      replace hr_21 : r_19.toInt = 1 ∧ (w_6.toInt < ln0.toInt ∧ (tf w_6.toInt.toNat).toInt = 40) := ?o31
      case o31 =>
        have z8 : (40 : Int32).toInt = 40 := ?o32
        case o32 => decide
        rcases hr_21 with z | z
        refine ⟨z.1, ?o33, ?o34⟩
        case o33 => omega
        case o34 => omega
        exfalso
        omega
      refine lv_iload_n hx hb dX6_readOne_25 rfl (lv_at hl 2 rfl) ?_
      refine lv_bipush (v := 8) hx hb dX6_readOne_26 ?o35 ?_
      case o35 => decide
      refine hb_icmp_lt (zx := 8) (zy := 8) (tgt := 41) hx hb ?o36 ?o37 dX6_readOne_28 ?o38 (fun c_23 => absurd c_23 ?o39) (fun c_23 => ?_)
      case o36 => decide
      case o37 => decide
      case o38 => decide
      case o39 => decide
      refine lv_aload_n hx hb dX6_readOne_31 rfl (lv_at hl 1 rfl) ?_
      refine lv_aload_n hx hb dX6_readOne_32 rfl (lv_at hl 1 rfl) ?_
      refine hk_geti hx hb hts hC_6 hown hW (gx.S hM) tt_6 2 ?o40 rfl kw_127 ⟨rfl, rfl, rfl⟩ fw_6 dX6_readOne_33 ?_
      case o40 => decide
      refine lv_iconst (v := 3) hx hb dX6_readOne_36 ?o41 ?_
      case o41 => decide
      have zc_3 : (3 : Int32).toInt = 3 := ?o42
      case o42 => decide
      refine hx_goi (hx_runV (As := [.int w_6, .int (3 : Int32)]) (rest := []) ⟨hx, hb, hml, hown, hts⟩ hW (gx.S hM) tt_6 (T := TX6) (N := 7) rfl (t_X6_refuse_v l dC dI dA L_17 h_18 H.size x w_6 (3 : Int32) hT (gx.S hM) ⟨?o43, ?o44⟩ ?o45) (cwV 2 hts (hx_gV kw_527 kw_524 kw_526 kw_6 kw_95) rfl rfl rfl (by decide +kernel) ⟨Nat.le_of_ble_eq_true rfl, Nat.le_of_ble_eq_true rfl⟩) rfl hl.1 rfl (Nat.le_of_ble_eq_true rfl) dX6_readOne_37 ⟨Nat.le_of_ble_eq_true rfl, Nat.le_of_ble_eq_true rfl⟩) hW (fun r_26 L_24 h_25 H locs p_27 hW => ?_)
      case o43 => omega
      case o44 => omega
      case o45 => decide
      obtain ⟨⟨w_29, fw_29, hr_28⟩, hT, hs⟩ := p_27
      replace hT : hx_T T_tb L_24 h_25 := hT
      replace hs : hx_S T_tb [(6, 3)] L_17 h_18 L_24 h_25 := hs
      replace f_x_5 := (hs.o (gx.S hM) trivial rfl).1.trans f_x_5
      replace f_qi_4 := (hs.o (gqi.S hM) trivial rfl).1.trans f_qi_4
      replace fw_6 := (hs.o (gx.S hM) trivial rfl).1.trans fw_6
      replace af_qp : h_25.2.1 qp = pf := (funext fun j => (hs.a (gqp.S hM) rfl j).1).trans af_qp
      replace hM := hM.tr (hs.mono ?o46)
      case o46 => decide
      have fw_29 : h_25.2.1 x 3 = w_29 := fw_29
      have bw_29 := hT.gi (gx.S hM) tt_6 (k := 3) rfl
      rw [fw_29] at bw_29
      have bw_29 : -2147483648 ≤ w_29.toInt ∧ w_29.toInt ≤ 2147483647 := bw_29
      refine hx_retz hx hb hr (hx_nar01 ?o47) hlk hW ⟨⟨w_6, w_29, tm0, pl0, pf, fw_6, fw_29, f_x_5, f_qi_4, af_qp, (hv_K_f (x := 4 + 8 * w_6.toInt.toNat) ?o48 ?o49 ?o50 ((hv_one_d (Or.inr (by rw [← ek_8]; exact ⟨by omega, hr_21.2.2⟩))).trans (by rw [← ek_8])))⟩, hT, hM⟩ dX6_readOne_40
      case o47 => omega
      case o48 => omega
      case o49 => omega
      case o50 => omega
    · skip
      replace hr_21 : r_19.toInt = 0 ∧ ¬ (w_6.toInt < ln0.toInt ∧ (tf w_6.toInt.toNat).toInt = 40) := ?o51
      case o51 =>
        have z8 : (40 : Int32).toInt = 40 := ?o52
        case o52 => decide
        rcases hr_21 with z | z
        (exfalso; omega)
        refine ⟨z.1, fun z9 => z.2 ⟨?o53, ?o54⟩⟩
        case o53 => omega
        case o54 => omega
      refine lv_aload_n hx hb dX6_readOne_20 rfl (lv_at hl 1 rfl) ?_
      refine hx_goi (hx_runVX (As := []) (rest := []) ⟨hx, hb, hml, hown, hts⟩ hW (gx.S hM) tt_6 (T := TX6) (N := 7) rfl (t_X6_readTerm_v l dC dI dA L_17 h_18 H.size b0 x hT (gx.S hM) qt (gqt.S hM) ((hM.o gx trivial rfl).2.trans f_x_0) qi (gqi.S hM) ((hM.o gx trivial rfl).2.trans f_x_6) qp (gqp.S hM) ((hM.o gqi trivial rfl).2.trans f_qi_3) tf (hx_afS hM gqt rfl af_qt) pf af_qp w_6 fw_6 ln0 ((hM.o gx trivial rfl).1.trans f_x_1) ft0 f_x_3 tm0 f_x_5 pl0 f_qi_4 o hO ?o55 ?o56 ?o57 ⟨?o58, ?o59⟩) hZ (cwV 0 hts (hx_gV kw_573 kw_570 kw_572 kw_16 kw_95) rfl rfl rfl (by decide +kernel) ⟨Nat.le_of_ble_eq_true rfl, Nat.le_of_ble_eq_true rfl⟩) rfl hl.1 rfl (Nat.le_of_ble_eq_true rfl) dX6_readOne_21 ⟨Nat.le_of_ble_eq_true rfl, Nat.le_of_ble_eq_true rfl⟩) hW (fun r_32 L_30 h_31 H locs p_33 hW => ?_)
      case o55 => omega
      case o56 => omega
      case o57 => omega
      case o58 => omega
      case o59 => omega
      obtain ⟨⟨w_35, w_36, w_37, w_38, w_39, fw_35, fw_36, fw_37, fw_38, fw_39, hr_34⟩, hT, hs⟩ := p_33
      replace hT : hx_T T_tb L_30 h_31 := hT
      replace hs : hx_S T_tb [(6, 2), (6, 3), (6, 5), (128, 0), (129, 4)] L_17 h_18 L_30 h_31 := hs
      replace hM := hM.tr (hs.mono ?o60)
      case o60 => decide
      have fw_35 : h_31.2.1 x 2 = w_35 := fw_35
      have bw_35 := hT.gi (gx.S hM) tt_6 (k := 2) rfl
      rw [fw_35] at bw_35
      have bw_35 : 0 ≤ w_35.toInt ∧ w_35.toInt ≤ 402 := bw_35
      have fw_36 : h_31.2.1 x 3 = w_36 := fw_36
      have bw_36 := hT.gi (gx.S hM) tt_6 (k := 3) rfl
      rw [fw_36] at bw_36
      have bw_36 : -2147483648 ≤ w_36.toInt ∧ w_36.toInt ≤ 2147483647 := bw_36
      have fw_37 : h_31.2.1 x 5 = w_37 := fw_37
      have bw_37 := hT.gi (gx.S hM) tt_6 (k := 5) rfl
      rw [fw_37] at bw_37
      have bw_37 : -2147483648 ≤ w_37.toInt ∧ w_37.toInt ≤ 2147483647 := bw_37
      have fw_38 : h_31.2.1 qi 4 = w_38 := fw_38
      have bw_38 := hT.gi (gqi.S hM) tt_129 (k := 4) rfl
      rw [fw_38] at bw_38
      have bw_38 : 0 ≤ w_38.toInt ∧ w_38.toInt ≤ 160 := bw_38
      have fw_39 : h_31.2.1 qp = w_39 := fw_39
      have hr_34b := hv_K_b hr_34
      refine hx_retz hx hb hr (hx_nar01 ?o61) hlk hW ⟨⟨w_35, w_36, w_37, w_38, w_39, fw_35, fw_36, fw_37, fw_38, fw_39, (hv_K_c hr_34 ((hv_one_t (by rw [← ek_8]; exact eu_7.2) (by rw [← ek_8]; exact fun z => hr_21.2 ⟨by omega, z.2⟩)).trans (by rw [sid, ← ek_8])))⟩, hT, hM⟩ dX6_readOne_24
      case o61 => omega


set_option maxHeartbeats 4000000 in
set_option maxRecDepth 100000 in
theorem t_X6_readEither_g (i1 : Int32) (D fr lo : Nat) (hfr : 7 ≤ fr) (hlo : 158 ≤ lo) (t_hRO : hv_MO i1 D fr lo) : hv_ME i1 D (fr + 1) (lo + 22) := by
  unfold hv_ME
  intro l dC dI dA L h sz b0 x hT gx qt gqt f_x_0 qi gqi f_x_6 qp gqp f_qi_3 tf af_qt pf af_qp at0 f_x_2 ln0 f_x_1 ft0 f_x_3 tm0 f_x_5 pl0 f_qi_4 o hO hF hB hA hT0
  refine hx_metX (lv := [(0, .ref x), (1, .int i1)]) (by decide +kernel) rfl (Nat.le_of_ble_eq_true rfl) rfl ?_
  intro p e s m below meth c hx hb hml hr hlk hts0 hown hin hsz hW hZ ls hl
  have hts : ∀ w ∈ hx_all, w.before _ s = true := fun w hw => hts0 w (List.mem_cons_of_mem _ hw)
  have hown : s.vm.findClass "SmallCourt$Reader" = some m.cls := hown
  have hM : hx_S T_tb [(6, 2), (6, 3), (6, 5), (128, 0), (129, 4)] L h L h := hx_S.rf
  obtain ⟨zLT, zLA, zMT, zMA, zCS, zSF, zVS, zVR⟩ := hZ.2.2.2.2.2.2
  have b_at0 := hT.gi gx tt_6 (k := 2) rfl
  rw [f_x_2] at b_at0
  have b_at0 : 0 ≤ at0.toInt ∧ at0.toInt ≤ 402 := b_at0
  have b_ln0 := hT.gi gx tt_6 (k := 1) rfl
  rw [f_x_1] at b_ln0
  have b_ln0 : 0 ≤ ln0.toInt ∧ ln0.toInt ≤ 400 := b_ln0
  have b_ft0 := hT.gi gx tt_6 (k := 3) rfl
  rw [f_x_3] at b_ft0
  have b_ft0 : -2147483648 ≤ ft0.toInt ∧ ft0.toInt ≤ 2147483647 := b_ft0
  have b_tm0 := hT.gi gx tt_6 (k := 5) rfl
  rw [f_x_5] at b_tm0
  have b_tm0 : -2147483648 ≤ tm0.toInt ∧ tm0.toInt ≤ 2147483647 := b_tm0
  have b_pl0 := hT.gi gqi tt_129 (k := 4) rfl
  rw [f_qi_4] at b_pl0
  have b_pl0 : 0 ≤ pl0.toInt ∧ pl0.toInt ≤ 160 := b_pl0
  refine lv_iconst (v := 0) hx hb dX6_readEither_0 ?o0 ?_
  case o0 => decide
  refine lv_istore_n (lv' := [(2, .int (0 : Int32)), (0, .ref x), (1, .int i1)]) hx hb dX6_readEither_1 rfl hl ?o1 rfl (fun ls hl => ?_)
  case o1 => decide
  refine lv_iconst (v := 0) hx hb dX6_readEither_2 ?o2 ?_
  case o2 => decide
  refine lv_istore_n (lv' := [(3, .int (0 : Int32)), (2, .int (0 : Int32)), (0, .ref x), (1, .int i1)]) hx hb dX6_readEither_3 rfl hl ?o3 rfl (fun ls hl => ?_)
  case o3 => decide
  refine lv_iconst (v := 0) hx hb dX6_readEither_4 ?o4 ?_
  case o4 => decide
  refine lv_istore (lv' := [(4, .int (0 : Int32)), (3, .int (0 : Int32)), (2, .int (0 : Int32)), (0, .ref x), (1, .int i1)]) hx hb dX6_readEither_5 hl ?o5 rfl (fun ls hl => ?_)
  case o5 => decide
  have loop7 : ∀ (n7 : Nat) (iv7_2 iv7_3 iv7_4 fw7_x_2 fw7_x_3 fw7_x_5 fw7_qi_4 : Int32) (ia7_qp : Nat → Int32) (H : Heap) (locs : List Loc) (hL1 : List Nat) (hl1 : hx_h), 0 ≤ iv7_2.toInt → iv7_2.toInt ≤ 1 → 0 ≤ iv7_3.toInt → iv7_3.toInt ≤ 1 → 0 ≤ iv7_4.toInt → iv7_4.toInt ≤ 401 → 0 ≤ fw7_x_2.toInt → fw7_x_2.toInt ≤ 402 → -2147483648 ≤ fw7_x_3.toInt → fw7_x_3.toInt ≤ 2147483647 → 0 ≤ fw7_x_5.toInt → fw7_x_5.toInt ≤ 20 → 0 ≤ fw7_qi_4.toInt → fw7_qi_4.toInt ≤ 160 → (∃ o9 : List hv_tok, hv_ls ia7_qp (fw7_qi_4.toInt).toNat = o9.map hv_cc ∧ hv_LE tf ln0.toInt.toNat D false false at0.toInt.toNat tm0.toInt.toNat o = hv_LE tf ln0.toInt.toNat D (decide (iv7_2.toInt = 1)) (decide (iv7_3.toInt = 1)) (fw7_x_2.toInt).toNat (fw7_x_5.toInt).toNat o9) → (3 * fw7_qi_4.toInt + 3 * iv7_2.toInt + 3 * iv7_3.toInt ≤ fw7_x_2.toInt + fw7_x_5.toInt) → (iv7_4.toInt ≤ fw7_x_2.toInt) → (fw7_x_2.toInt ≤ ln0.toInt) → (fw7_x_3.toInt = 0) → ∀ (ls : Array Slot), 401 - iv7_4.toInt < (n7 : Int) → hx_W T_tb (P_ty dA) (dC, dI) vwCl (hx_A L sz) s.heap hL1 hl1 s H locs → hx_T T_tb hL1 hl1 → hx_S T_tb [(6, 2), (6, 3), (6, 5), (128, 0), (129, 4)] L h hL1 hl1 → hl1.2.1 x 2 = fw7_x_2 → hl1.2.1 x 3 = fw7_x_3 → hl1.2.1 x 5 = fw7_x_5 → hl1.2.1 qi 4 = fw7_qi_4 → hl1.2.1 qp = ia7_qp → lv_has ls 5 [(4, .int iv7_4), (3, .int iv7_3), (2, .int iv7_2), (0, .ref x), (1, .int i1)] → W p l e ({ frames := fr + 1, cells := 0, slots := 0, locals := lo + 22 }) s m ([.ref x, .int i1] : List Value).toArray below meth c H locs 0 0 (MQ below (va_Qi (fun (r : Int32) (u : List Nat × hx_h) => (∃ (at1 : Int32) (ft1 : Int32) (tm1 : Int32) (pl1 : Int32) (pf1 : Nat → Int32), u.2.2.1 x 2 = at1 ∧ u.2.2.1 x 3 = ft1 ∧ u.2.2.1 x 5 = tm1 ∧ u.2.2.1 qi 4 = pl1 ∧ u.2.2.1 qp = pf1 ∧ (hv_K hv_cc (hv_LE tf ln0.toInt.toNat D false false at0.toInt.toNat tm0.toInt.toNat o) r.toInt ft1.toInt at1.toInt tm1.toInt (hv_ls pf1 pl1.toInt.toNat))) ∧ hx_T T_tb u.1 u.2 ∧ hx_S T_tb [(6, 2), (6, 3), (6, 5), (128, 0), (129, 4)] L h u.1 u.2) (hx_E T_tb (P_ty dA) (dC, dI) vwCl (hx_A L sz)) (hx_A L sz)) ([.ref x, .int i1] : List Value).toArray s 0 0 (hx_A L sz)) (F0 m 7 ls []) := by
    intro n7
    induction n7 with
    | zero => intro iv7_2 iv7_3 iv7_4 fw7_x_2 fw7_x_3 fw7_x_5 fw7_qi_4 ia7_qp H locs hL1 hl1 bliv7_2 buiv7_2 bliv7_3 buiv7_3 bliv7_4 buiv7_4 blfw7_x_2 bufw7_x_2 blfw7_x_3 bufw7_x_3 blfw7_x_5 bufw7_x_5 blfw7_qi_4 bufw7_qi_4 vi7_0 vi7_1 vi7_2 vi7_3 vi7_4 ls hn7; exfalso; omega
    | succ n7 ih7 =>
      intro iv7_2 iv7_3 iv7_4 fw7_x_2 fw7_x_3 fw7_x_5 fw7_qi_4 ia7_qp H locs hL1 hl1 bliv7_2 buiv7_2 bliv7_3 buiv7_3 bliv7_4 buiv7_4 blfw7_x_2 bufw7_x_2 blfw7_x_3 bufw7_x_3 blfw7_x_5 bufw7_x_5 blfw7_qi_4 bufw7_qi_4 vi7_0 vi7_1 vi7_2 vi7_3 vi7_4 ls hn7 hW hT hM ffw7_x_2 ffw7_x_3 ffw7_x_5 ffw7_qi_4 nia7_qp hl
      obtain ⟨oo, hO7, hE7⟩ := vi7_0
      have hl7 := hv_ls_l hO7
      refine lv_iload hx hb dX6_readEither_7 (lv_at hl 0 rfl) ?_
      refine lv_aload_n hx hb dX6_readEither_9 rfl (lv_at hl 3 rfl) ?_
      refine hk_geti hx hb hts hC_6 hown hW (gx.S hM) tt_6 1 ?o6 rfl kw_126 ⟨rfl, rfl, rfl⟩ ((hM.o gx trivial rfl).1.trans f_x_1) dX6_readEither_10 ?_
      case o6 => decide
      refine hb_icmp_gt (zx := iv7_4.toInt) (zy := ln0.toInt) (tgt := 102) hx hb rfl rfl dX6_readEither_13 ?o7 (fun c_1 => ?_) (fun c_1 => ?_)
      case o7 => decide
      · skip
        refine lv_iconst (v := 0) hx hb dX6_readEither_102 ?o8 ?_
        case o8 => decide
        refine hx_retz hx hb hr rfl hlk hW ⟨⟨fw7_x_2, fw7_x_3, fw7_x_5, fw7_qi_4, ia7_qp, ffw7_x_2, ffw7_x_3, ffw7_x_5, ffw7_qi_4, nia7_qp, ?o9⟩, hT, hM⟩ dX6_readEither_103
        case o9 =>
          exfalso
          omega
      · skip
        refine lv_aload_n hx hb dX6_readEither_16 rfl (lv_at hl 3 rfl) ?_
        refine lv_iload_n hx hb dX6_readEither_17 rfl (lv_at hl 4 rfl) ?_
        refine hx_goi (hx_runVX (As := [.int i1]) (rest := []) ⟨hx, hb, hml, hown, hts⟩ hW (gx.S hM) tt_6 (T := TX6) (N := 7) rfl (t_hRO l dC dI dA hL1 hl1 H.size b0 x hT (gx.S hM) qt (gqt.S hM) ((hM.o gx trivial rfl).2.trans f_x_0) qi (gqi.S hM) ((hM.o gx trivial rfl).2.trans f_x_6) qp (gqp.S hM) ((hM.o gqi trivial rfl).2.trans f_qi_3) tf (hx_afS hM gqt rfl af_qt) ia7_qp nia7_qp fw7_x_2 ffw7_x_2 ln0 ((hM.o gx trivial rfl).1.trans f_x_1) fw7_x_3 ffw7_x_3 fw7_x_5 ffw7_x_5 fw7_qi_4 ffw7_qi_4 oo hO7 (by omega) (by omega) (by omega) ⟨by omega, by omega⟩) hZ (cwV 1 hts (hx_gV kw_560 kw_557 kw_559 kw_13 kw_95) rfl rfl rfl (by decide +kernel) ⟨(by first | omega | (dsimp only; omega)), (by first | omega | (dsimp only; omega))⟩) rfl hl.1 rfl (Nat.le_of_ble_eq_true rfl) dX6_readEither_18 ⟨Nat.le_of_ble_eq_true rfl, Nat.le_of_ble_eq_true rfl⟩) hW (fun r_4 L_2 h_3 H locs p_5 hW => ?_)
        obtain ⟨⟨w_7, w_8, w_9, w_10, w_11, fw_7, fw_8, fw_9, fw_10, fw_11, hr_6⟩, hT, hs⟩ := p_5
        replace hT : hx_T T_tb L_2 h_3 := hT
        replace hs : hx_S T_tb [(6, 2), (6, 3), (6, 5), (128, 0), (129, 4)] hL1 hl1 L_2 h_3 := hs
        replace hM := hM.tr (hs.mono ?o10)
        case o10 => decide
        have fw_7 : h_3.2.1 x 2 = w_7 := fw_7
        have bw_7 := hT.gi (gx.S hM) tt_6 (k := 2) rfl
        rw [fw_7] at bw_7
        have bw_7 : 0 ≤ w_7.toInt ∧ w_7.toInt ≤ 402 := bw_7
        have fw_8 : h_3.2.1 x 3 = w_8 := fw_8
        have bw_8 := hT.gi (gx.S hM) tt_6 (k := 3) rfl
        rw [fw_8] at bw_8
        have bw_8 : -2147483648 ≤ w_8.toInt ∧ w_8.toInt ≤ 2147483647 := bw_8
        have fw_9 : h_3.2.1 x 5 = w_9 := fw_9
        have bw_9 := hT.gi (gx.S hM) tt_6 (k := 5) rfl
        rw [fw_9] at bw_9
        have bw_9 : -2147483648 ≤ w_9.toInt ∧ w_9.toInt ≤ 2147483647 := bw_9
        have fw_10 : h_3.2.1 qi 4 = w_10 := fw_10
        have bw_10 := hT.gi (gqi.S hM) tt_129 (k := 4) rfl
        rw [fw_10] at bw_10
        have bw_10 : 0 ≤ w_10.toInt ∧ w_10.toInt ≤ 160 := bw_10
        have fw_11 : h_3.2.1 qp = w_11 := fw_11
        have hr_6b := hv_K_b hr_6
        refine hb_if_eq (zx := r_4.toInt) (tgt := 102) hx hb rfl dX6_readEither_21 ?o11 (fun c_12 => ?_) (fun c_12 => ?_)
        case o11 => decide
        · skip
          refine lv_iconst (v := 0) hx hb dX6_readEither_102 ?o12 ?_
          case o12 => decide
          refine hx_retz hx hb hr rfl hlk hW ⟨⟨w_7, w_8, w_9, w_10, w_11, fw_7, fw_8, fw_9, fw_10, fw_11, (hv_K_f (x := w_8.toInt.toNat) ?o13 (by have h8 := (hv_K_0 hr_6 (by omega)).1; omega) (by have h8 := (hv_K_0 hr_6 (by omega)).1; omega) (hE7.trans (hv_LE_f (hv_K_0 hr_6 ?o14).2)))⟩, hT, hM⟩ dX6_readEither_103
          case o13 => decide
          case o14 => omega
        · skip
          obtain ⟨k1_13F, k1_13p, k1_13t, oo_14, k1_13O, k1_13E⟩ := hv_K_1 hr_6 (by omega)
          have k1_13l := hv_ls_l k1_13O
          replace hr_6b : r_4.toInt = 1 := ?o15
          case o15 => omega
          have k1_13g := hv_one_g k1_13E ?o16
          case o16 => omega
          refine lv_iload_n hx hb dX6_readEither_24 rfl (lv_at hl 2 rfl) ?_
          refine hb_if_eq (zx := iv7_2.toInt) (tgt := 36) hx hb rfl dX6_readEither_25 ?o17 (fun c_15 => ?_) (fun c_15 => ?_)
          case o17 => decide
          · skip
            have eA : decide (iv7_2.toInt = 1) = false := decide_eq_false ?o18
            case o18 => omega
            refine lv_aload_n hx hb dX6_readEither_36 rfl (lv_at hl 3 rfl) ?_
            refine va_ldcS (tx := P_st.getD 2 "") hx hb hown (zVR 2 ?o19) dX6_readEither_37 ?_
            case o19 => decide
            refine hx_goi (hx_runVX (As := [.ref (b0.2.2.2.1 2)]) (rest := []) ⟨hx, hb, hml, hown, hts⟩ hW (gx.S hM) tt_6 (T := TX6) (N := 7) rfl (t_X6_isNextWord_v l dC dI dA L_2 h_3 H.size b0 x 2 hT (gx.S hM) (by decide) qt (gqt.S hM) ((hM.o gx trivial rfl).2.trans f_x_0) tf (hx_afS hM gqt rfl af_qt) w_7 fw_7 ln0 ((hM.o gx trivial rfl).1.trans f_x_1) (by omega)) hZ (cwV 1 hts (hx_gV kw_565 kw_562 kw_564 kw_14 kw_95) rfl rfl rfl (by decide +kernel) ⟨(by first | omega | (dsimp only; omega)), (by first | omega | (dsimp only; omega))⟩) rfl hl.1 rfl (Nat.le_of_ble_eq_true rfl) dX6_readEither_39 ⟨Nat.le_of_ble_eq_true rfl, Nat.le_of_ble_eq_true rfl⟩) hW (fun r_18 L_16 h_17 H locs p_19 hW => ?_)
            obtain ⟨⟨w_21, fw_21, hr_20⟩, hT, hs⟩ := p_19
            replace hT : hx_T T_tb L_16 h_17 := hT
            replace hs : hx_S T_tb [(6, 2)] L_2 h_3 L_16 h_17 := hs
            replace fw_8 := (hs.o (gx.S hM) trivial rfl).1.trans fw_8
            replace fw_9 := (hs.o (gx.S hM) trivial rfl).1.trans fw_9
            replace fw_10 := (hs.o (gqi.S hM) trivial rfl).1.trans fw_10
            replace fw_11 : h_17.2.1 qp = w_11 := (funext fun j => (hs.a (gqp.S hM) rfl j).1).trans fw_11
            replace hM := hM.tr (hs.mono ?o20)
            case o20 => decide
            have fw_21 : h_17.2.1 x 2 = w_21 := fw_21
            have bw_21 := hT.gi (gx.S hM) tt_6 (k := 2) rfl
            rw [fw_21] at bw_21
            have bw_21 : 0 ≤ w_21.toInt ∧ w_21.toInt ≤ 402 := bw_21
            have eu_22 : (r_18.toInt = 1 ∧ hv_wd tf ln0.toInt.toNat (hv_sk tf ln0.toInt.toNat w_7.toInt.toNat) = 1) ∨ (r_18.toInt = 0 ∧ hv_wd tf ln0.toInt.toNat (hv_sk tf ln0.toInt.toNat w_7.toInt.toNat) ≠ 1) := hv_NW_u (js := 2) ?o21 hr_20.2.1
            case o21 => decide
            have ek_23 : w_21.toInt.toNat = hv_sk tf ln0.toInt.toNat w_7.toInt.toNat := ?o22
            case o22 => omega
            rw [← ek_23] at eu_22
            refine lv_istore_n (lv' := [(2, .int r_18), (4, .int iv7_4), (3, .int iv7_3), (0, .ref x), (1, .int i1)]) hx hb dX6_readEither_42 rfl hl ?o23 rfl (fun ls hl => ?_)
            case o23 => decide
            have sid : hv_sk tf ln0.toInt.toNat w_21.toInt.toNat = w_21.toInt.toNat := ?o24
            case o24 =>
              rw [ek_23]
              exact hv_sk_id
            refine lv_iload_n hx hb dX6_readEither_43 rfl (lv_at hl 0 rfl) ?_
            refine hb_if_eq (zx := r_18.toInt) (tgt := 60) hx hb rfl dX6_readEither_44 ?o25 (fun c_24 => ?_) (fun c_24 => ?_)
            case o25 => decide
            · skip
              replace eu_22 : r_18.toInt = 0 ∧ hv_wd tf ln0.toInt.toNat w_21.toInt.toNat ≠ 1 := ?o26
              case o26 =>
                rcases eu_22 with z | z
                (exfalso; omega)
                exact z
              refine lv_iload_n hx hb dX6_readEither_60 rfl (lv_at hl 2 rfl) ?_
              refine hb_if_eq (zx := iv7_3.toInt) (tgt := 73) hx hb rfl dX6_readEither_61 ?o27 (fun c_25 => ?_) (fun c_25 => ?_)
              case o27 => decide
              · skip
                have eB : decide (iv7_3.toInt = 1) = false := decide_eq_false ?o28
                case o28 => omega
                refine lv_aload_n hx hb dX6_readEither_73 rfl (lv_at hl 3 rfl) ?_
                refine va_ldcS (tx := P_st.getD 3 "") hx hb hown (zVR 3 ?o29) dX6_readEither_74 ?_
                case o29 => decide
                refine hx_goi (hx_runVX (As := [.ref (b0.2.2.2.1 3)]) (rest := []) ⟨hx, hb, hml, hown, hts⟩ hW (gx.S hM) tt_6 (T := TX6) (N := 7) rfl (t_X6_isNextWord_v l dC dI dA L_16 h_17 H.size b0 x 3 hT (gx.S hM) (by decide) qt (gqt.S hM) ((hM.o gx trivial rfl).2.trans f_x_0) tf (hx_afS hM gqt rfl af_qt) w_21 fw_21 ln0 ((hM.o gx trivial rfl).1.trans f_x_1) (by omega)) hZ (cwV 1 hts (hx_gV kw_565 kw_562 kw_564 kw_14 kw_95) rfl rfl rfl (by decide +kernel) ⟨(by first | omega | (dsimp only; omega)), (by first | omega | (dsimp only; omega))⟩) rfl hl.1 rfl (Nat.le_of_ble_eq_true rfl) dX6_readEither_76 ⟨Nat.le_of_ble_eq_true rfl, Nat.le_of_ble_eq_true rfl⟩) hW (fun r_28 L_26 h_27 H locs p_29 hW => ?_)
                obtain ⟨⟨w_31, fw_31, hr_30⟩, hT, hs⟩ := p_29
                replace hT : hx_T T_tb L_26 h_27 := hT
                replace hs : hx_S T_tb [(6, 2)] L_16 h_17 L_26 h_27 := hs
                replace fw_8 := (hs.o (gx.S hM) trivial rfl).1.trans fw_8
                replace fw_9 := (hs.o (gx.S hM) trivial rfl).1.trans fw_9
                replace fw_10 := (hs.o (gqi.S hM) trivial rfl).1.trans fw_10
                replace fw_11 : h_27.2.1 qp = w_11 := (funext fun j => (hs.a (gqp.S hM) rfl j).1).trans fw_11
                replace hM := hM.tr (hs.mono ?o30)
                case o30 => decide
                have fw_31 : h_27.2.1 x 2 = w_31 := fw_31
                have bw_31 := hT.gi (gx.S hM) tt_6 (k := 2) rfl
                rw [fw_31] at bw_31
                have bw_31 : 0 ≤ w_31.toInt ∧ w_31.toInt ≤ 402 := bw_31
                have eu_32 : (r_28.toInt = 1 ∧ hv_wd tf ln0.toInt.toNat (hv_sk tf ln0.toInt.toNat w_21.toInt.toNat) = 0) ∨ (r_28.toInt = 0 ∧ hv_wd tf ln0.toInt.toNat (hv_sk tf ln0.toInt.toNat w_21.toInt.toNat) ≠ 0) := hv_NW_u (js := 3) ?o31 hr_30.2.1
                case o31 => decide
                have ek_33 : w_31.toInt.toNat = hv_sk tf ln0.toInt.toNat w_21.toInt.toNat := ?o32
                case o32 => omega
                rw [← ek_33] at eu_32
                refine lv_istore_n (lv' := [(3, .int r_28), (2, .int r_18), (4, .int iv7_4), (0, .ref x), (1, .int i1)]) hx hb dX6_readEither_79 rfl hl ?o33 rfl (fun ls hl => ?_)
                case o33 => decide
                have e2w : w_31.toInt.toNat = w_21.toInt.toNat := ?o34
                case o34 => rw [ek_33, sid]
                rw [e2w] at eu_32
                refine lv_iload_n hx hb dX6_readEither_80 rfl (lv_at hl 0 rfl) ?_
                refine hb_if_ne (zx := r_28.toInt) (tgt := 86) hx hb rfl dX6_readEither_81 ?o35 (fun c_34 => ?_) (fun c_34 => ?_)
                case o35 => decide
                · skip
                  replace eu_32 : r_28.toInt = 1 ∧ hv_wd tf ln0.toInt.toNat w_21.toInt.toNat = 0 := ?o36
                  case o36 =>
                    rcases eu_32 with z | z
                    exact z
                    exfalso
                    omega
                  have hwo := hv_wd_0 (T := tf) (n := ln0.toInt.toNat) (p := w_21.toInt.toNat) eu_32.2
                  refine lv_aload_n hx hb dX6_readEither_86 rfl (lv_at hl 3 rfl) ?_
                  refine lv_dup hx hb dX6_readEither_87 rfl ?_
                  refine hk_geti hx hb hts hC_6 hown hW (gx.S hM) tt_6 2 ?o37 rfl kw_127 ⟨rfl, rfl, rfl⟩ fw_31 dX6_readEither_88 ?_
                  case o37 => decide
                  refine lv_iconst (v := 2) hx hb dX6_readEither_91 ?o38 ?_
                  case o38 => decide
                  refine lv_iadd hx hb dX6_readEither_92 ?_
                  have rg_35 := i32_r w_31
                  refine lv_topi (fun x_36 ex_36 => ?_)
                  have zx_36 : x_36.toInt = w_31.toInt + 2 := ?o39
                  case o39 =>
                    rw [ex_36]
                    refine i32_add rfl ?o40 ?o41 ?o42
                    case o40 => decide
                    case o41 => omega
                    case o42 => omega
                  refine hx_puti hx hb hts hC_6 hown hW hT (hx_S.rf (M := [(6, 2)])) (gx.S hM) tt_6 2 ?o43 rfl kw_127 ⟨rfl, rfl, rfl⟩ rfl (x := x_36) ⟨?o44, ?o45⟩ rfl rfl rfl (List.mem_singleton.mpr rfl) dX6_readEither_93 (fun H locs h_37 eh_37 hW hT hs => ?_)
                  case o43 => decide
                  case o44 => omega
                  case o45 => omega
                  replace fw_8 := (hs.o (gx.S hM) trivial rfl).1.trans fw_8
                  replace fw_9 := (hs.o (gx.S hM) trivial rfl).1.trans fw_9
                  replace fw_10 := (hs.o (gqi.S hM) trivial rfl).1.trans fw_10
                  replace fw_11 : h_37.2.1 qp = w_11 := (funext fun j => (hs.a (gqp.S hM) rfl j).1).trans fw_11
                  replace hM := hM.tr (hs.mono ?o46)
                  case o46 => decide
                  have f_38 : h_37.2.1 x 2 = x_36 := ?o47
                  case o47 =>
                    rw [eh_37]
                    exact hx_pi_at _ _ _ _
                  obtain ⟨x_39, ex_39⟩ : ∃ y : Int32, y = iv7_4 + Int32.ofInt 1 := ⟨_, rfl⟩
                  have rg_40 := i32_r iv7_4
                  have zx_39 : x_39.toInt = iv7_4.toInt + (1) := ?o48
                  case o48 =>
                    rw [ex_39]
                    refine i32_add rfl ?o49 ?o50 ?o51
                    case o49 => decide
                    case o50 => omega
                    case o51 => omega
                  refine lv_iinc (v := x_39) (lv' := [(4, .int x_39), (3, .int r_28), (2, .int r_18), (0, .ref x), (1, .int i1)]) hx hb dX6_readEither_96 hl (k := 2) rfl ex_39.symm ?o52 rfl (fun ls hl => ?_)
                  case o52 => decide
                  refine lv_goto (tgt := 7) hx hb dX6_readEither_99 ?o53 ?_
                  case o53 => decide
                  refine ih7 r_18 r_28 x_39 x_36 w_8 w_9 w_10 w_11 _ _ L_26 h_37 ?o54 ?o55 ?o56 ?o57 ?o58 ?o59 ?o60 ?o61 (i32_r _).1 (i32_r _).2 ?o62 ?o63 ?o64 ?o65 ⟨_, k1_13O, hE7.trans ((hv_LE_0 k1_13E (by rw [← ek_23]; exact eu_22.2) (by rw [← ek_23]; exact eu_32.2)).trans (by rw [eA, eB, ← ek_23, show w_21.toInt.toNat + 2 = x_36.toInt.toNat by omega, show decide (r_18.toInt = 1) = false from decide_eq_false (by omega), show decide (r_28.toInt = 1) = true from decide_eq_true (by omega)] <;> rfl))⟩ ?o66 ?o67 ?o68 ?o69 ls ?o70 hW hT hM f_38 fw_8 fw_9 fw_10 fw_11 (lv_sub hl [0, 1, 2, 3, 4] rfl)
                  case o54 => omega
                  case o55 => omega
                  case o56 => omega
                  case o57 => omega
                  case o58 => omega
                  case o59 => omega
                  case o60 => omega
                  case o61 => omega
                  case o62 => omega
                  case o63 => omega
                  case o64 => omega
                  case o65 => omega
                  case o66 => omega
                  case o67 => omega
                  case o68 => omega
                  case o69 => omega
                  case o70 => omega
                · skip
                  replace eu_32 : r_28.toInt = 0 ∧ hv_wd tf ln0.toInt.toNat w_21.toInt.toNat ≠ 0 := ?o71
                  case o71 =>
                    rcases eu_32 with z | z
                    (exfalso; omega)
                    exact z
                  refine lv_iconst (v := 1) hx hb dX6_readEither_84 ?o72 ?_
                  case o72 => decide
                  refine hx_retz hx hb hr rfl hlk hW ⟨⟨w_31, w_8, w_9, w_10, w_11, fw_31, fw_8, fw_9, fw_10, fw_11, (hv_K_t (x := w_31.toInt.toNat) (y := w_9.toInt.toNat) ?o73 ?o74 ?o75 ?o76 k1_13O (hE7.trans ((hv_LE_e k1_13E (by rw [← ek_23]; exact eu_22.2) (by rw [← ek_23]; exact eu_32.2)).trans (by rw [eA, eB, ← ek_23, ← e2w] <;> rfl))))⟩, hT, hM⟩ dX6_readEither_85
                  case o73 => decide
                  case o74 => omega
                  case o75 => omega
                  case o76 => omega
              · skip
                refine lv_aload_n hx hb dX6_readEither_64 rfl (lv_at hl 3 rfl) ?_
                refine hk_getr hx hb hts hC_6 hown hW (gx.S hM) tt_6 6 ?o77 rfl kw_131 ⟨rfl, rfl, rfl⟩ ((hM.o gx trivial rfl).2.trans f_x_6) dX6_readEither_65 ?_
                case o77 => decide
                refine lv_bipush (v := -2) hx hb dX6_readEither_68 ?o78 ?_
                case o78 => decide
                have zc_m2 : (-2 : Int32).toInt = -2 := ?o79
                case o79 => decide
                refine hx_gov (hx_runV (As := [.int (-2 : Int32)]) (rest := []) ⟨hx, hb, hml, hown, hts⟩ hW (gqi.S hM) tt_129 (T := TX0) (N := 5) rfl (t_X0_addProof_v l dC dI dA L_16 h_17 H.size qi (-2 : Int32) hT (gqi.S hM) qp (gqp.S hM) ((hM.o gqi trivial rfl).2.trans f_qi_3) w_11 fw_11 w_10 fw_10 (by omega)) (cwV 1 hts (hx_gV kw_583 kw_580 kw_581 kw_582 kw_96) rfl rfl rfl (by decide +kernel) ⟨(by first | omega | (dsimp only; omega)), (by first | omega | (dsimp only; omega))⟩) rfl hl.1 rfl (Nat.le_of_ble_eq_true rfl) dX6_readEither_70 ⟨Nat.le_of_ble_eq_true rfl, Nat.le_of_ble_eq_true rfl⟩) hW (fun L_41 h_42 H locs p_44 hW => ?_)
                obtain ⟨⟨w_46, w_47, fw_46, fw_47, hr_45⟩, hT, hs⟩ := p_44
                replace hT : hx_T T_tb L_41 h_42 := hT
                replace hs : hx_S T_tb [(128, 0), (129, 4)] L_16 h_17 L_41 h_42 := hs
                replace fw_8 := (hs.o (gx.S hM) trivial rfl).1.trans fw_8
                replace fw_9 := (hs.o (gx.S hM) trivial rfl).1.trans fw_9
                replace fw_21 := (hs.o (gx.S hM) trivial rfl).1.trans fw_21
                replace hM := hM.tr (hs.mono ?o80)
                case o80 => decide
                have fw_46 : h_42.2.1 qi 4 = w_46 := fw_46
                have bw_46 := hT.gi (gqi.S hM) tt_129 (k := 4) rfl
                rw [fw_46] at bw_46
                have bw_46 : 0 ≤ w_46.toInt ∧ w_46.toInt ≤ 160 := bw_46
                have fw_47 : h_42.2.1 qp = w_47 := fw_47
                have lo_48 := hv_ls_u (t := (0, 0, 0)) k1_13O ?o81 (show w_46.toInt.toNat = w_10.toInt.toNat + 1 from ?o82) hr_45.2
                case o81 => decide
                case o82 => omega
                have eB : decide (iv7_3.toInt = 1) = true := decide_eq_true ?o83
                case o83 => omega
                refine lv_aload_n hx hb dX6_readEither_73 rfl (lv_at hl 3 rfl) ?_
                refine va_ldcS (tx := P_st.getD 3 "") hx hb hown (zVR 3 ?o84) dX6_readEither_74 ?_
                case o84 => decide
                refine hx_goi (hx_runVX (As := [.ref (b0.2.2.2.1 3)]) (rest := []) ⟨hx, hb, hml, hown, hts⟩ hW (gx.S hM) tt_6 (T := TX6) (N := 7) rfl (t_X6_isNextWord_v l dC dI dA L_41 h_42 H.size b0 x 3 hT (gx.S hM) (by decide) qt (gqt.S hM) ((hM.o gx trivial rfl).2.trans f_x_0) tf (hx_afS hM gqt rfl af_qt) w_21 fw_21 ln0 ((hM.o gx trivial rfl).1.trans f_x_1) (by omega)) hZ (cwV 1 hts (hx_gV kw_565 kw_562 kw_564 kw_14 kw_95) rfl rfl rfl (by decide +kernel) ⟨(by first | omega | (dsimp only; omega)), (by first | omega | (dsimp only; omega))⟩) rfl hl.1 rfl (Nat.le_of_ble_eq_true rfl) dX6_readEither_76 ⟨Nat.le_of_ble_eq_true rfl, Nat.le_of_ble_eq_true rfl⟩) hW (fun r_51 L_49 h_50 H locs p_52 hW => ?_)
                obtain ⟨⟨w_54, fw_54, hr_53⟩, hT, hs⟩ := p_52
                replace hT : hx_T T_tb L_49 h_50 := hT
                replace hs : hx_S T_tb [(6, 2)] L_41 h_42 L_49 h_50 := hs
                replace fw_8 := (hs.o (gx.S hM) trivial rfl).1.trans fw_8
                replace fw_9 := (hs.o (gx.S hM) trivial rfl).1.trans fw_9
                replace fw_46 := (hs.o (gqi.S hM) trivial rfl).1.trans fw_46
                replace fw_47 : h_50.2.1 qp = w_47 := (funext fun j => (hs.a (gqp.S hM) rfl j).1).trans fw_47
                replace hM := hM.tr (hs.mono ?o85)
                case o85 => decide
                have fw_54 : h_50.2.1 x 2 = w_54 := fw_54
                have bw_54 := hT.gi (gx.S hM) tt_6 (k := 2) rfl
                rw [fw_54] at bw_54
                have bw_54 : 0 ≤ w_54.toInt ∧ w_54.toInt ≤ 402 := bw_54
                have eu_55 : (r_51.toInt = 1 ∧ hv_wd tf ln0.toInt.toNat (hv_sk tf ln0.toInt.toNat w_21.toInt.toNat) = 0) ∨ (r_51.toInt = 0 ∧ hv_wd tf ln0.toInt.toNat (hv_sk tf ln0.toInt.toNat w_21.toInt.toNat) ≠ 0) := hv_NW_u (js := 3) ?o86 hr_53.2.1
                case o86 => decide
                have ek_56 : w_54.toInt.toNat = hv_sk tf ln0.toInt.toNat w_21.toInt.toNat := ?o87
                case o87 => omega
                rw [← ek_56] at eu_55
                refine lv_istore_n (lv' := [(3, .int r_51), (2, .int r_18), (4, .int iv7_4), (0, .ref x), (1, .int i1)]) hx hb dX6_readEither_79 rfl hl ?o88 rfl (fun ls hl => ?_)
                case o88 => decide
                have e2w : w_54.toInt.toNat = w_21.toInt.toNat := ?o89
                case o89 => rw [ek_56, sid]
                rw [e2w] at eu_55
                refine lv_iload_n hx hb dX6_readEither_80 rfl (lv_at hl 0 rfl) ?_
                refine hb_if_ne (zx := r_51.toInt) (tgt := 86) hx hb rfl dX6_readEither_81 ?o90 (fun c_57 => ?_) (fun c_57 => ?_)
                case o90 => decide
                · skip
                  replace eu_55 : r_51.toInt = 1 ∧ hv_wd tf ln0.toInt.toNat w_21.toInt.toNat = 0 := ?o91
                  case o91 =>
                    rcases eu_55 with z | z
                    exact z
                    exfalso
                    omega
                  have hwo := hv_wd_0 (T := tf) (n := ln0.toInt.toNat) (p := w_21.toInt.toNat) eu_55.2
                  refine lv_aload_n hx hb dX6_readEither_86 rfl (lv_at hl 3 rfl) ?_
                  refine lv_dup hx hb dX6_readEither_87 rfl ?_
                  refine hk_geti hx hb hts hC_6 hown hW (gx.S hM) tt_6 2 ?o92 rfl kw_127 ⟨rfl, rfl, rfl⟩ fw_54 dX6_readEither_88 ?_
                  case o92 => decide
                  refine lv_iconst (v := 2) hx hb dX6_readEither_91 ?o93 ?_
                  case o93 => decide
                  refine lv_iadd hx hb dX6_readEither_92 ?_
                  have rg_58 := i32_r w_54
                  refine lv_topi (fun x_59 ex_59 => ?_)
                  have zx_59 : x_59.toInt = w_54.toInt + 2 := ?o94
                  case o94 =>
                    rw [ex_59]
                    refine i32_add rfl ?o95 ?o96 ?o97
                    case o95 => decide
                    case o96 => omega
                    case o97 => omega
                  refine hx_puti hx hb hts hC_6 hown hW hT (hx_S.rf (M := [(6, 2)])) (gx.S hM) tt_6 2 ?o98 rfl kw_127 ⟨rfl, rfl, rfl⟩ rfl (x := x_59) ⟨?o99, ?o100⟩ rfl rfl rfl (List.mem_singleton.mpr rfl) dX6_readEither_93 (fun H locs h_60 eh_60 hW hT hs => ?_)
                  case o98 => decide
                  case o99 => omega
                  case o100 => omega
                  replace fw_8 := (hs.o (gx.S hM) trivial rfl).1.trans fw_8
                  replace fw_9 := (hs.o (gx.S hM) trivial rfl).1.trans fw_9
                  replace fw_46 := (hs.o (gqi.S hM) trivial rfl).1.trans fw_46
                  replace fw_47 : h_60.2.1 qp = w_47 := (funext fun j => (hs.a (gqp.S hM) rfl j).1).trans fw_47
                  replace hM := hM.tr (hs.mono ?o101)
                  case o101 => decide
                  have f_61 : h_60.2.1 x 2 = x_59 := ?o102
                  case o102 =>
                    rw [eh_60]
                    exact hx_pi_at _ _ _ _
                  obtain ⟨x_62, ex_62⟩ : ∃ y : Int32, y = iv7_4 + Int32.ofInt 1 := ⟨_, rfl⟩
                  have rg_63 := i32_r iv7_4
                  have zx_62 : x_62.toInt = iv7_4.toInt + (1) := ?o103
                  case o103 =>
                    rw [ex_62]
                    refine i32_add rfl ?o104 ?o105 ?o106
                    case o104 => decide
                    case o105 => omega
                    case o106 => omega
                  refine lv_iinc (v := x_62) (lv' := [(4, .int x_62), (3, .int r_51), (2, .int r_18), (0, .ref x), (1, .int i1)]) hx hb dX6_readEither_96 hl (k := 2) rfl ex_62.symm ?o107 rfl (fun ls hl => ?_)
                  case o107 => decide
                  refine lv_goto (tgt := 7) hx hb dX6_readEither_99 ?o108 ?_
                  case o108 => decide
                  refine ih7 r_18 r_51 x_62 x_59 w_8 w_9 w_46 w_47 _ _ L_49 h_60 ?o109 ?o110 ?o111 ?o112 ?o113 ?o114 ?o115 ?o116 (i32_r _).1 (i32_r _).2 ?o117 ?o118 ?o119 ?o120 ⟨_, lo_48, hE7.trans ((hv_LE_0 k1_13E (by rw [← ek_23]; exact eu_22.2) (by rw [← ek_23]; exact eu_55.2)).trans (by rw [eA, eB, ← ek_23, show w_21.toInt.toNat + 2 = x_59.toInt.toNat by omega, show decide (r_18.toInt = 1) = false from decide_eq_false (by omega), show decide (r_51.toInt = 1) = true from decide_eq_true (by omega)] <;> rfl))⟩ ?o121 ?o122 ?o123 ?o124 ls ?o125 hW hT hM f_61 fw_8 fw_9 fw_46 fw_47 (lv_sub hl [0, 1, 2, 3, 4] rfl)
                  case o109 => omega
                  case o110 => omega
                  case o111 => omega
                  case o112 => omega
                  case o113 => omega
                  case o114 => omega
                  case o115 => omega
                  case o116 => omega
                  case o117 => omega
                  case o118 => omega
                  case o119 => omega
                  case o120 => omega
                  case o121 => omega
                  case o122 => omega
                  case o123 => omega
                  case o124 => omega
                  case o125 => omega
                · skip
                  replace eu_55 : r_51.toInt = 0 ∧ hv_wd tf ln0.toInt.toNat w_21.toInt.toNat ≠ 0 := ?o126
                  case o126 =>
                    rcases eu_55 with z | z
                    (exfalso; omega)
                    exact z
                  refine lv_iconst (v := 1) hx hb dX6_readEither_84 ?o127 ?_
                  case o127 => decide
                  refine hx_retz hx hb hr rfl hlk hW ⟨⟨w_54, w_8, w_9, w_46, w_47, fw_54, fw_8, fw_9, fw_46, fw_47, (hv_K_t (x := w_54.toInt.toNat) (y := w_9.toInt.toNat) ?o128 ?o129 ?o130 ?o131 lo_48 (hE7.trans ((hv_LE_e k1_13E (by rw [← ek_23]; exact eu_22.2) (by rw [← ek_23]; exact eu_55.2)).trans (by rw [eA, eB, ← ek_23, ← e2w] <;> rfl))))⟩, hT, hM⟩ dX6_readEither_85
                  case o128 => decide
                  case o129 => omega
                  case o130 => omega
                  case o131 => omega
            · skip
              replace eu_22 : r_18.toInt = 1 ∧ hv_wd tf ln0.toInt.toNat w_21.toInt.toNat = 1 := ?o132
              case o132 =>
                rcases eu_22 with z | z
                exact z
                exfalso
                omega
              have hwa := hv_wd_1 (T := tf) (n := ln0.toInt.toNat) (p := w_21.toInt.toNat) eu_22.2
              refine lv_aload_n hx hb dX6_readEither_47 rfl (lv_at hl 3 rfl) ?_
              refine lv_dup hx hb dX6_readEither_48 rfl ?_
              refine hk_geti hx hb hts hC_6 hown hW (gx.S hM) tt_6 2 ?o133 rfl kw_127 ⟨rfl, rfl, rfl⟩ fw_21 dX6_readEither_49 ?_
              case o133 => decide
              refine lv_iconst (v := 3) hx hb dX6_readEither_52 ?o134 ?_
              case o134 => decide
              refine lv_iadd hx hb dX6_readEither_53 ?_
              have rg_64 := i32_r w_21
              refine lv_topi (fun x_65 ex_65 => ?_)
              have zx_65 : x_65.toInt = w_21.toInt + 3 := ?o135
              case o135 =>
                rw [ex_65]
                refine i32_add rfl ?o136 ?o137 ?o138
                case o136 => decide
                case o137 => omega
                case o138 => omega
              refine hx_puti hx hb hts hC_6 hown hW hT (hx_S.rf (M := [(6, 2)])) (gx.S hM) tt_6 2 ?o139 rfl kw_127 ⟨rfl, rfl, rfl⟩ rfl (x := x_65) ⟨?o140, ?o141⟩ rfl rfl rfl (List.mem_singleton.mpr rfl) dX6_readEither_54 (fun H locs h_66 eh_66 hW hT hs => ?_)
              case o139 => decide
              case o140 => omega
              case o141 => omega
              replace fw_8 := (hs.o (gx.S hM) trivial rfl).1.trans fw_8
              replace fw_9 := (hs.o (gx.S hM) trivial rfl).1.trans fw_9
              replace fw_10 := (hs.o (gqi.S hM) trivial rfl).1.trans fw_10
              replace fw_11 : h_66.2.1 qp = w_11 := (funext fun j => (hs.a (gqp.S hM) rfl j).1).trans fw_11
              replace hM := hM.tr (hs.mono ?o142)
              case o142 => decide
              have f_67 : h_66.2.1 x 2 = x_65 := ?o143
              case o143 =>
                rw [eh_66]
                exact hx_pi_at _ _ _ _
              refine lv_goto (tgt := 96) hx hb dX6_readEither_57 ?o144 ?_
              case o144 => decide
              obtain ⟨x_68, ex_68⟩ : ∃ y : Int32, y = iv7_4 + Int32.ofInt 1 := ⟨_, rfl⟩
              have rg_69 := i32_r iv7_4
              have zx_68 : x_68.toInt = iv7_4.toInt + (1) := ?o145
              case o145 =>
                rw [ex_68]
                refine i32_add rfl ?o146 ?o147 ?o148
                case o146 => decide
                case o147 => omega
                case o148 => omega
              refine lv_iinc (v := x_68) (lv' := [(4, .int x_68), (2, .int r_18), (3, .int iv7_3), (0, .ref x), (1, .int i1)]) hx hb dX6_readEither_96 hl (k := 1) rfl ex_68.symm ?o149 rfl (fun ls hl => ?_)
              case o149 => decide
              refine lv_goto (tgt := 7) hx hb dX6_readEither_99 ?o150 ?_
              case o150 => decide
              refine ih7 r_18 iv7_3 x_68 x_65 w_8 w_9 w_10 w_11 _ _ L_16 h_66 ?o151 ?o152 ?o153 ?o154 ?o155 ?o156 ?o157 ?o158 (i32_r _).1 (i32_r _).2 ?o159 ?o160 ?o161 ?o162 ⟨_, k1_13O, hE7.trans ((hv_LE_1 k1_13E (by rw [← ek_23]; exact eu_22.2)).trans (by rw [eA, ← ek_23, show w_21.toInt.toNat + 3 = x_65.toInt.toNat by omega, show decide (r_18.toInt = 1) = true from decide_eq_true (by omega)] <;> rfl))⟩ ?o163 ?o164 ?o165 ?o166 ls ?o167 hW hT hM f_67 fw_8 fw_9 fw_10 fw_11 (lv_sub hl [0, 2, 1, 3, 4] rfl)
              case o151 => omega
              case o152 => omega
              case o153 => omega
              case o154 => omega
              case o155 => omega
              case o156 => omega
              case o157 => omega
              case o158 => omega
              case o159 => omega
              case o160 => omega
              case o161 => omega
              case o162 => omega
              case o163 => omega
              case o164 => omega
              case o165 => omega
              case o166 => omega
              case o167 => omega
          · skip
            refine lv_aload_n hx hb dX6_readEither_28 rfl (lv_at hl 3 rfl) ?_
            refine hk_getr hx hb hts hC_6 hown hW (gx.S hM) tt_6 6 ?o168 rfl kw_131 ⟨rfl, rfl, rfl⟩ ((hM.o gx trivial rfl).2.trans f_x_6) dX6_readEither_29 ?_
            case o168 => decide
            refine lv_iconst (v := -1) hx hb dX6_readEither_32 ?o169 ?_
            case o169 => decide
            have zc_m1 : (-1 : Int32).toInt = -1 := ?o170
            case o170 => decide
            refine hx_gov (hx_runV (As := [.int (-1 : Int32)]) (rest := []) ⟨hx, hb, hml, hown, hts⟩ hW (gqi.S hM) tt_129 (T := TX0) (N := 5) rfl (t_X0_addProof_v l dC dI dA L_2 h_3 H.size qi (-1 : Int32) hT (gqi.S hM) qp (gqp.S hM) ((hM.o gqi trivial rfl).2.trans f_qi_3) w_11 fw_11 w_10 fw_10 (by omega)) (cwV 1 hts (hx_gV kw_583 kw_580 kw_581 kw_582 kw_96) rfl rfl rfl (by decide +kernel) ⟨(by first | omega | (dsimp only; omega)), (by first | omega | (dsimp only; omega))⟩) rfl hl.1 rfl (Nat.le_of_ble_eq_true rfl) dX6_readEither_33 ⟨Nat.le_of_ble_eq_true rfl, Nat.le_of_ble_eq_true rfl⟩) hW (fun L_70 h_71 H locs p_73 hW => ?_)
            obtain ⟨⟨w_75, w_76, fw_75, fw_76, hr_74⟩, hT, hs⟩ := p_73
            replace hT : hx_T T_tb L_70 h_71 := hT
            replace hs : hx_S T_tb [(128, 0), (129, 4)] L_2 h_3 L_70 h_71 := hs
            replace fw_7 := (hs.o (gx.S hM) trivial rfl).1.trans fw_7
            replace fw_8 := (hs.o (gx.S hM) trivial rfl).1.trans fw_8
            replace fw_9 := (hs.o (gx.S hM) trivial rfl).1.trans fw_9
            replace hM := hM.tr (hs.mono ?o171)
            case o171 => decide
            have fw_75 : h_71.2.1 qi 4 = w_75 := fw_75
            have bw_75 := hT.gi (gqi.S hM) tt_129 (k := 4) rfl
            rw [fw_75] at bw_75
            have bw_75 : 0 ≤ w_75.toInt ∧ w_75.toInt ≤ 160 := bw_75
            have fw_76 : h_71.2.1 qp = w_76 := fw_76
            have lo_77 := hv_ls_u (t := (0, 1, 0)) k1_13O ?o172 (show w_75.toInt.toNat = w_10.toInt.toNat + 1 from ?o173) hr_74.2
            case o172 => decide
            case o173 => omega
            have eA : decide (iv7_2.toInt = 1) = true := decide_eq_true ?o174
            case o174 => omega
            refine lv_aload_n hx hb dX6_readEither_36 rfl (lv_at hl 3 rfl) ?_
            refine va_ldcS (tx := P_st.getD 2 "") hx hb hown (zVR 2 ?o175) dX6_readEither_37 ?_
            case o175 => decide
            refine hx_goi (hx_runVX (As := [.ref (b0.2.2.2.1 2)]) (rest := []) ⟨hx, hb, hml, hown, hts⟩ hW (gx.S hM) tt_6 (T := TX6) (N := 7) rfl (t_X6_isNextWord_v l dC dI dA L_70 h_71 H.size b0 x 2 hT (gx.S hM) (by decide) qt (gqt.S hM) ((hM.o gx trivial rfl).2.trans f_x_0) tf (hx_afS hM gqt rfl af_qt) w_7 fw_7 ln0 ((hM.o gx trivial rfl).1.trans f_x_1) (by omega)) hZ (cwV 1 hts (hx_gV kw_565 kw_562 kw_564 kw_14 kw_95) rfl rfl rfl (by decide +kernel) ⟨(by first | omega | (dsimp only; omega)), (by first | omega | (dsimp only; omega))⟩) rfl hl.1 rfl (Nat.le_of_ble_eq_true rfl) dX6_readEither_39 ⟨Nat.le_of_ble_eq_true rfl, Nat.le_of_ble_eq_true rfl⟩) hW (fun r_80 L_78 h_79 H locs p_81 hW => ?_)
            obtain ⟨⟨w_83, fw_83, hr_82⟩, hT, hs⟩ := p_81
            replace hT : hx_T T_tb L_78 h_79 := hT
            replace hs : hx_S T_tb [(6, 2)] L_70 h_71 L_78 h_79 := hs
            replace fw_8 := (hs.o (gx.S hM) trivial rfl).1.trans fw_8
            replace fw_9 := (hs.o (gx.S hM) trivial rfl).1.trans fw_9
            replace fw_75 := (hs.o (gqi.S hM) trivial rfl).1.trans fw_75
            replace fw_76 : h_79.2.1 qp = w_76 := (funext fun j => (hs.a (gqp.S hM) rfl j).1).trans fw_76
            replace hM := hM.tr (hs.mono ?o176)
            case o176 => decide
            have fw_83 : h_79.2.1 x 2 = w_83 := fw_83
            have bw_83 := hT.gi (gx.S hM) tt_6 (k := 2) rfl
            rw [fw_83] at bw_83
            have bw_83 : 0 ≤ w_83.toInt ∧ w_83.toInt ≤ 402 := bw_83
            have eu_84 : (r_80.toInt = 1 ∧ hv_wd tf ln0.toInt.toNat (hv_sk tf ln0.toInt.toNat w_7.toInt.toNat) = 1) ∨ (r_80.toInt = 0 ∧ hv_wd tf ln0.toInt.toNat (hv_sk tf ln0.toInt.toNat w_7.toInt.toNat) ≠ 1) := hv_NW_u (js := 2) ?o177 hr_82.2.1
            case o177 => decide
            have ek_85 : w_83.toInt.toNat = hv_sk tf ln0.toInt.toNat w_7.toInt.toNat := ?o178
            case o178 => omega
            rw [← ek_85] at eu_84
            refine lv_istore_n (lv' := [(2, .int r_80), (4, .int iv7_4), (3, .int iv7_3), (0, .ref x), (1, .int i1)]) hx hb dX6_readEither_42 rfl hl ?o179 rfl (fun ls hl => ?_)
            case o179 => decide
            have sid : hv_sk tf ln0.toInt.toNat w_83.toInt.toNat = w_83.toInt.toNat := ?o180
            case o180 =>
              rw [ek_85]
              exact hv_sk_id
            refine lv_iload_n hx hb dX6_readEither_43 rfl (lv_at hl 0 rfl) ?_
            refine hb_if_eq (zx := r_80.toInt) (tgt := 60) hx hb rfl dX6_readEither_44 ?o181 (fun c_86 => ?_) (fun c_86 => ?_)
            case o181 => decide
            · skip
              replace eu_84 : r_80.toInt = 0 ∧ hv_wd tf ln0.toInt.toNat w_83.toInt.toNat ≠ 1 := ?o182
              case o182 =>
                rcases eu_84 with z | z
                (exfalso; omega)
                exact z
              refine lv_iload_n hx hb dX6_readEither_60 rfl (lv_at hl 2 rfl) ?_
              refine hb_if_eq (zx := iv7_3.toInt) (tgt := 73) hx hb rfl dX6_readEither_61 ?o183 (fun c_87 => ?_) (fun c_87 => ?_)
              case o183 => decide
              · skip
                have eB : decide (iv7_3.toInt = 1) = false := decide_eq_false ?o184
                case o184 => omega
                refine lv_aload_n hx hb dX6_readEither_73 rfl (lv_at hl 3 rfl) ?_
                refine va_ldcS (tx := P_st.getD 3 "") hx hb hown (zVR 3 ?o185) dX6_readEither_74 ?_
                case o185 => decide
                refine hx_goi (hx_runVX (As := [.ref (b0.2.2.2.1 3)]) (rest := []) ⟨hx, hb, hml, hown, hts⟩ hW (gx.S hM) tt_6 (T := TX6) (N := 7) rfl (t_X6_isNextWord_v l dC dI dA L_78 h_79 H.size b0 x 3 hT (gx.S hM) (by decide) qt (gqt.S hM) ((hM.o gx trivial rfl).2.trans f_x_0) tf (hx_afS hM gqt rfl af_qt) w_83 fw_83 ln0 ((hM.o gx trivial rfl).1.trans f_x_1) (by omega)) hZ (cwV 1 hts (hx_gV kw_565 kw_562 kw_564 kw_14 kw_95) rfl rfl rfl (by decide +kernel) ⟨(by first | omega | (dsimp only; omega)), (by first | omega | (dsimp only; omega))⟩) rfl hl.1 rfl (Nat.le_of_ble_eq_true rfl) dX6_readEither_76 ⟨Nat.le_of_ble_eq_true rfl, Nat.le_of_ble_eq_true rfl⟩) hW (fun r_90 L_88 h_89 H locs p_91 hW => ?_)
                obtain ⟨⟨w_93, fw_93, hr_92⟩, hT, hs⟩ := p_91
                replace hT : hx_T T_tb L_88 h_89 := hT
                replace hs : hx_S T_tb [(6, 2)] L_78 h_79 L_88 h_89 := hs
                replace fw_8 := (hs.o (gx.S hM) trivial rfl).1.trans fw_8
                replace fw_9 := (hs.o (gx.S hM) trivial rfl).1.trans fw_9
                replace fw_75 := (hs.o (gqi.S hM) trivial rfl).1.trans fw_75
                replace fw_76 : h_89.2.1 qp = w_76 := (funext fun j => (hs.a (gqp.S hM) rfl j).1).trans fw_76
                replace hM := hM.tr (hs.mono ?o186)
                case o186 => decide
                have fw_93 : h_89.2.1 x 2 = w_93 := fw_93
                have bw_93 := hT.gi (gx.S hM) tt_6 (k := 2) rfl
                rw [fw_93] at bw_93
                have bw_93 : 0 ≤ w_93.toInt ∧ w_93.toInt ≤ 402 := bw_93
                have eu_94 : (r_90.toInt = 1 ∧ hv_wd tf ln0.toInt.toNat (hv_sk tf ln0.toInt.toNat w_83.toInt.toNat) = 0) ∨ (r_90.toInt = 0 ∧ hv_wd tf ln0.toInt.toNat (hv_sk tf ln0.toInt.toNat w_83.toInt.toNat) ≠ 0) := hv_NW_u (js := 3) ?o187 hr_92.2.1
                case o187 => decide
                have ek_95 : w_93.toInt.toNat = hv_sk tf ln0.toInt.toNat w_83.toInt.toNat := ?o188
                case o188 => omega
                rw [← ek_95] at eu_94
                refine lv_istore_n (lv' := [(3, .int r_90), (2, .int r_80), (4, .int iv7_4), (0, .ref x), (1, .int i1)]) hx hb dX6_readEither_79 rfl hl ?o189 rfl (fun ls hl => ?_)
                case o189 => decide
                have e2w : w_93.toInt.toNat = w_83.toInt.toNat := ?o190
                case o190 => rw [ek_95, sid]
                rw [e2w] at eu_94
                refine lv_iload_n hx hb dX6_readEither_80 rfl (lv_at hl 0 rfl) ?_
                refine hb_if_ne (zx := r_90.toInt) (tgt := 86) hx hb rfl dX6_readEither_81 ?o191 (fun c_96 => ?_) (fun c_96 => ?_)
                case o191 => decide
                · skip
                  replace eu_94 : r_90.toInt = 1 ∧ hv_wd tf ln0.toInt.toNat w_83.toInt.toNat = 0 := ?o192
                  case o192 =>
                    rcases eu_94 with z | z
                    exact z
                    exfalso
                    omega
                  have hwo := hv_wd_0 (T := tf) (n := ln0.toInt.toNat) (p := w_83.toInt.toNat) eu_94.2
                  refine lv_aload_n hx hb dX6_readEither_86 rfl (lv_at hl 3 rfl) ?_
                  refine lv_dup hx hb dX6_readEither_87 rfl ?_
                  refine hk_geti hx hb hts hC_6 hown hW (gx.S hM) tt_6 2 ?o193 rfl kw_127 ⟨rfl, rfl, rfl⟩ fw_93 dX6_readEither_88 ?_
                  case o193 => decide
                  refine lv_iconst (v := 2) hx hb dX6_readEither_91 ?o194 ?_
                  case o194 => decide
                  refine lv_iadd hx hb dX6_readEither_92 ?_
                  have rg_97 := i32_r w_93
                  refine lv_topi (fun x_98 ex_98 => ?_)
                  have zx_98 : x_98.toInt = w_93.toInt + 2 := ?o195
                  case o195 =>
                    rw [ex_98]
                    refine i32_add rfl ?o196 ?o197 ?o198
                    case o196 => decide
                    case o197 => omega
                    case o198 => omega
                  refine hx_puti hx hb hts hC_6 hown hW hT (hx_S.rf (M := [(6, 2)])) (gx.S hM) tt_6 2 ?o199 rfl kw_127 ⟨rfl, rfl, rfl⟩ rfl (x := x_98) ⟨?o200, ?o201⟩ rfl rfl rfl (List.mem_singleton.mpr rfl) dX6_readEither_93 (fun H locs h_99 eh_99 hW hT hs => ?_)
                  case o199 => decide
                  case o200 => omega
                  case o201 => omega
                  replace fw_8 := (hs.o (gx.S hM) trivial rfl).1.trans fw_8
                  replace fw_9 := (hs.o (gx.S hM) trivial rfl).1.trans fw_9
                  replace fw_75 := (hs.o (gqi.S hM) trivial rfl).1.trans fw_75
                  replace fw_76 : h_99.2.1 qp = w_76 := (funext fun j => (hs.a (gqp.S hM) rfl j).1).trans fw_76
                  replace hM := hM.tr (hs.mono ?o202)
                  case o202 => decide
                  have f_100 : h_99.2.1 x 2 = x_98 := ?o203
                  case o203 =>
                    rw [eh_99]
                    exact hx_pi_at _ _ _ _
                  obtain ⟨x_101, ex_101⟩ : ∃ y : Int32, y = iv7_4 + Int32.ofInt 1 := ⟨_, rfl⟩
                  have rg_102 := i32_r iv7_4
                  have zx_101 : x_101.toInt = iv7_4.toInt + (1) := ?o204
                  case o204 =>
                    rw [ex_101]
                    refine i32_add rfl ?o205 ?o206 ?o207
                    case o205 => decide
                    case o206 => omega
                    case o207 => omega
                  refine lv_iinc (v := x_101) (lv' := [(4, .int x_101), (3, .int r_90), (2, .int r_80), (0, .ref x), (1, .int i1)]) hx hb dX6_readEither_96 hl (k := 2) rfl ex_101.symm ?o208 rfl (fun ls hl => ?_)
                  case o208 => decide
                  refine lv_goto (tgt := 7) hx hb dX6_readEither_99 ?o209 ?_
                  case o209 => decide
                  refine ih7 r_80 r_90 x_101 x_98 w_8 w_9 w_75 w_76 _ _ L_88 h_99 ?o210 ?o211 ?o212 ?o213 ?o214 ?o215 ?o216 ?o217 (i32_r _).1 (i32_r _).2 ?o218 ?o219 ?o220 ?o221 ⟨_, lo_77, hE7.trans ((hv_LE_0 k1_13E (by rw [← ek_85]; exact eu_84.2) (by rw [← ek_85]; exact eu_94.2)).trans (by rw [eA, eB, ← ek_85, show w_83.toInt.toNat + 2 = x_98.toInt.toNat by omega, show decide (r_80.toInt = 1) = false from decide_eq_false (by omega), show decide (r_90.toInt = 1) = true from decide_eq_true (by omega)] <;> rfl))⟩ ?o222 ?o223 ?o224 ?o225 ls ?o226 hW hT hM f_100 fw_8 fw_9 fw_75 fw_76 (lv_sub hl [0, 1, 2, 3, 4] rfl)
                  case o210 => omega
                  case o211 => omega
                  case o212 => omega
                  case o213 => omega
                  case o214 => omega
                  case o215 => omega
                  case o216 => omega
                  case o217 => omega
                  case o218 => omega
                  case o219 => omega
                  case o220 => omega
                  case o221 => omega
                  case o222 => omega
                  case o223 => omega
                  case o224 => omega
                  case o225 => omega
                  case o226 => omega
                · skip
                  replace eu_94 : r_90.toInt = 0 ∧ hv_wd tf ln0.toInt.toNat w_83.toInt.toNat ≠ 0 := ?o227
                  case o227 =>
                    rcases eu_94 with z | z
                    (exfalso; omega)
                    exact z
                  refine lv_iconst (v := 1) hx hb dX6_readEither_84 ?o228 ?_
                  case o228 => decide
                  refine hx_retz hx hb hr rfl hlk hW ⟨⟨w_93, w_8, w_9, w_75, w_76, fw_93, fw_8, fw_9, fw_75, fw_76, (hv_K_t (x := w_93.toInt.toNat) (y := w_9.toInt.toNat) ?o229 ?o230 ?o231 ?o232 lo_77 (hE7.trans ((hv_LE_e k1_13E (by rw [← ek_85]; exact eu_84.2) (by rw [← ek_85]; exact eu_94.2)).trans (by rw [eA, eB, ← ek_85, ← e2w] <;> rfl))))⟩, hT, hM⟩ dX6_readEither_85
                  case o229 => decide
                  case o230 => omega
                  case o231 => omega
                  case o232 => omega
              · skip
                refine lv_aload_n hx hb dX6_readEither_64 rfl (lv_at hl 3 rfl) ?_
                refine hk_getr hx hb hts hC_6 hown hW (gx.S hM) tt_6 6 ?o233 rfl kw_131 ⟨rfl, rfl, rfl⟩ ((hM.o gx trivial rfl).2.trans f_x_6) dX6_readEither_65 ?_
                case o233 => decide
                refine lv_bipush (v := -2) hx hb dX6_readEither_68 ?o234 ?_
                case o234 => decide
                have zc_m2 : (-2 : Int32).toInt = -2 := ?o235
                case o235 => decide
                refine hx_gov (hx_runV (As := [.int (-2 : Int32)]) (rest := []) ⟨hx, hb, hml, hown, hts⟩ hW (gqi.S hM) tt_129 (T := TX0) (N := 5) rfl (t_X0_addProof_v l dC dI dA L_78 h_79 H.size qi (-2 : Int32) hT (gqi.S hM) qp (gqp.S hM) ((hM.o gqi trivial rfl).2.trans f_qi_3) w_76 fw_76 w_75 fw_75 (by omega)) (cwV 1 hts (hx_gV kw_583 kw_580 kw_581 kw_582 kw_96) rfl rfl rfl (by decide +kernel) ⟨(by first | omega | (dsimp only; omega)), (by first | omega | (dsimp only; omega))⟩) rfl hl.1 rfl (Nat.le_of_ble_eq_true rfl) dX6_readEither_70 ⟨Nat.le_of_ble_eq_true rfl, Nat.le_of_ble_eq_true rfl⟩) hW (fun L_103 h_104 H locs p_106 hW => ?_)
                obtain ⟨⟨w_108, w_109, fw_108, fw_109, hr_107⟩, hT, hs⟩ := p_106
                replace hT : hx_T T_tb L_103 h_104 := hT
                replace hs : hx_S T_tb [(128, 0), (129, 4)] L_78 h_79 L_103 h_104 := hs
                replace fw_8 := (hs.o (gx.S hM) trivial rfl).1.trans fw_8
                replace fw_9 := (hs.o (gx.S hM) trivial rfl).1.trans fw_9
                replace fw_83 := (hs.o (gx.S hM) trivial rfl).1.trans fw_83
                replace hM := hM.tr (hs.mono ?o236)
                case o236 => decide
                have fw_108 : h_104.2.1 qi 4 = w_108 := fw_108
                have bw_108 := hT.gi (gqi.S hM) tt_129 (k := 4) rfl
                rw [fw_108] at bw_108
                have bw_108 : 0 ≤ w_108.toInt ∧ w_108.toInt ≤ 160 := bw_108
                have fw_109 : h_104.2.1 qp = w_109 := fw_109
                have lo_110 := hv_ls_u (t := (0, 0, 0)) lo_77 ?o237 (show w_108.toInt.toNat = w_75.toInt.toNat + 1 from ?o238) hr_107.2
                case o237 => decide
                case o238 => omega
                have eB : decide (iv7_3.toInt = 1) = true := decide_eq_true ?o239
                case o239 => omega
                refine lv_aload_n hx hb dX6_readEither_73 rfl (lv_at hl 3 rfl) ?_
                refine va_ldcS (tx := P_st.getD 3 "") hx hb hown (zVR 3 ?o240) dX6_readEither_74 ?_
                case o240 => decide
                refine hx_goi (hx_runVX (As := [.ref (b0.2.2.2.1 3)]) (rest := []) ⟨hx, hb, hml, hown, hts⟩ hW (gx.S hM) tt_6 (T := TX6) (N := 7) rfl (t_X6_isNextWord_v l dC dI dA L_103 h_104 H.size b0 x 3 hT (gx.S hM) (by decide) qt (gqt.S hM) ((hM.o gx trivial rfl).2.trans f_x_0) tf (hx_afS hM gqt rfl af_qt) w_83 fw_83 ln0 ((hM.o gx trivial rfl).1.trans f_x_1) (by omega)) hZ (cwV 1 hts (hx_gV kw_565 kw_562 kw_564 kw_14 kw_95) rfl rfl rfl (by decide +kernel) ⟨(by first | omega | (dsimp only; omega)), (by first | omega | (dsimp only; omega))⟩) rfl hl.1 rfl (Nat.le_of_ble_eq_true rfl) dX6_readEither_76 ⟨Nat.le_of_ble_eq_true rfl, Nat.le_of_ble_eq_true rfl⟩) hW (fun r_113 L_111 h_112 H locs p_114 hW => ?_)
                obtain ⟨⟨w_116, fw_116, hr_115⟩, hT, hs⟩ := p_114
                replace hT : hx_T T_tb L_111 h_112 := hT
                replace hs : hx_S T_tb [(6, 2)] L_103 h_104 L_111 h_112 := hs
                replace fw_8 := (hs.o (gx.S hM) trivial rfl).1.trans fw_8
                replace fw_9 := (hs.o (gx.S hM) trivial rfl).1.trans fw_9
                replace fw_108 := (hs.o (gqi.S hM) trivial rfl).1.trans fw_108
                replace fw_109 : h_112.2.1 qp = w_109 := (funext fun j => (hs.a (gqp.S hM) rfl j).1).trans fw_109
                replace hM := hM.tr (hs.mono ?o241)
                case o241 => decide
                have fw_116 : h_112.2.1 x 2 = w_116 := fw_116
                have bw_116 := hT.gi (gx.S hM) tt_6 (k := 2) rfl
                rw [fw_116] at bw_116
                have bw_116 : 0 ≤ w_116.toInt ∧ w_116.toInt ≤ 402 := bw_116
                have eu_117 : (r_113.toInt = 1 ∧ hv_wd tf ln0.toInt.toNat (hv_sk tf ln0.toInt.toNat w_83.toInt.toNat) = 0) ∨ (r_113.toInt = 0 ∧ hv_wd tf ln0.toInt.toNat (hv_sk tf ln0.toInt.toNat w_83.toInt.toNat) ≠ 0) := hv_NW_u (js := 3) ?o242 hr_115.2.1
                case o242 => decide
                have ek_118 : w_116.toInt.toNat = hv_sk tf ln0.toInt.toNat w_83.toInt.toNat := ?o243
                case o243 => omega
                rw [← ek_118] at eu_117
                refine lv_istore_n (lv' := [(3, .int r_113), (2, .int r_80), (4, .int iv7_4), (0, .ref x), (1, .int i1)]) hx hb dX6_readEither_79 rfl hl ?o244 rfl (fun ls hl => ?_)
                case o244 => decide
                have e2w : w_116.toInt.toNat = w_83.toInt.toNat := ?o245
                case o245 => rw [ek_118, sid]
                rw [e2w] at eu_117
                refine lv_iload_n hx hb dX6_readEither_80 rfl (lv_at hl 0 rfl) ?_
                refine hb_if_ne (zx := r_113.toInt) (tgt := 86) hx hb rfl dX6_readEither_81 ?o246 (fun c_119 => ?_) (fun c_119 => ?_)
                case o246 => decide
                · skip
                  replace eu_117 : r_113.toInt = 1 ∧ hv_wd tf ln0.toInt.toNat w_83.toInt.toNat = 0 := ?o247
                  case o247 =>
                    rcases eu_117 with z | z
                    exact z
                    exfalso
                    omega
                  have hwo := hv_wd_0 (T := tf) (n := ln0.toInt.toNat) (p := w_83.toInt.toNat) eu_117.2
                  refine lv_aload_n hx hb dX6_readEither_86 rfl (lv_at hl 3 rfl) ?_
                  refine lv_dup hx hb dX6_readEither_87 rfl ?_
                  refine hk_geti hx hb hts hC_6 hown hW (gx.S hM) tt_6 2 ?o248 rfl kw_127 ⟨rfl, rfl, rfl⟩ fw_116 dX6_readEither_88 ?_
                  case o248 => decide
                  refine lv_iconst (v := 2) hx hb dX6_readEither_91 ?o249 ?_
                  case o249 => decide
                  refine lv_iadd hx hb dX6_readEither_92 ?_
                  have rg_120 := i32_r w_116
                  refine lv_topi (fun x_121 ex_121 => ?_)
                  have zx_121 : x_121.toInt = w_116.toInt + 2 := ?o250
                  case o250 =>
                    rw [ex_121]
                    refine i32_add rfl ?o251 ?o252 ?o253
                    case o251 => decide
                    case o252 => omega
                    case o253 => omega
                  refine hx_puti hx hb hts hC_6 hown hW hT (hx_S.rf (M := [(6, 2)])) (gx.S hM) tt_6 2 ?o254 rfl kw_127 ⟨rfl, rfl, rfl⟩ rfl (x := x_121) ⟨?o255, ?o256⟩ rfl rfl rfl (List.mem_singleton.mpr rfl) dX6_readEither_93 (fun H locs h_122 eh_122 hW hT hs => ?_)
                  case o254 => decide
                  case o255 => omega
                  case o256 => omega
                  replace fw_8 := (hs.o (gx.S hM) trivial rfl).1.trans fw_8
                  replace fw_9 := (hs.o (gx.S hM) trivial rfl).1.trans fw_9
                  replace fw_108 := (hs.o (gqi.S hM) trivial rfl).1.trans fw_108
                  replace fw_109 : h_122.2.1 qp = w_109 := (funext fun j => (hs.a (gqp.S hM) rfl j).1).trans fw_109
                  replace hM := hM.tr (hs.mono ?o257)
                  case o257 => decide
                  have f_123 : h_122.2.1 x 2 = x_121 := ?o258
                  case o258 =>
                    rw [eh_122]
                    exact hx_pi_at _ _ _ _
                  obtain ⟨x_124, ex_124⟩ : ∃ y : Int32, y = iv7_4 + Int32.ofInt 1 := ⟨_, rfl⟩
                  have rg_125 := i32_r iv7_4
                  have zx_124 : x_124.toInt = iv7_4.toInt + (1) := ?o259
                  case o259 =>
                    rw [ex_124]
                    refine i32_add rfl ?o260 ?o261 ?o262
                    case o260 => decide
                    case o261 => omega
                    case o262 => omega
                  refine lv_iinc (v := x_124) (lv' := [(4, .int x_124), (3, .int r_113), (2, .int r_80), (0, .ref x), (1, .int i1)]) hx hb dX6_readEither_96 hl (k := 2) rfl ex_124.symm ?o263 rfl (fun ls hl => ?_)
                  case o263 => decide
                  refine lv_goto (tgt := 7) hx hb dX6_readEither_99 ?o264 ?_
                  case o264 => decide
                  refine ih7 r_80 r_113 x_124 x_121 w_8 w_9 w_108 w_109 _ _ L_111 h_122 ?o265 ?o266 ?o267 ?o268 ?o269 ?o270 ?o271 ?o272 (i32_r _).1 (i32_r _).2 ?o273 ?o274 ?o275 ?o276 ⟨_, lo_110, hE7.trans ((hv_LE_0 k1_13E (by rw [← ek_85]; exact eu_84.2) (by rw [← ek_85]; exact eu_117.2)).trans (by rw [eA, eB, ← ek_85, show w_83.toInt.toNat + 2 = x_121.toInt.toNat by omega, show decide (r_80.toInt = 1) = false from decide_eq_false (by omega), show decide (r_113.toInt = 1) = true from decide_eq_true (by omega)] <;> rfl))⟩ ?o277 ?o278 ?o279 ?o280 ls ?o281 hW hT hM f_123 fw_8 fw_9 fw_108 fw_109 (lv_sub hl [0, 1, 2, 3, 4] rfl)
                  case o265 => omega
                  case o266 => omega
                  case o267 => omega
                  case o268 => omega
                  case o269 => omega
                  case o270 => omega
                  case o271 => omega
                  case o272 => omega
                  case o273 => omega
                  case o274 => omega
                  case o275 => omega
                  case o276 => omega
                  case o277 => omega
                  case o278 => omega
                  case o279 => omega
                  case o280 => omega
                  case o281 => omega
                · skip
                  replace eu_117 : r_113.toInt = 0 ∧ hv_wd tf ln0.toInt.toNat w_83.toInt.toNat ≠ 0 := ?o282
                  case o282 =>
                    rcases eu_117 with z | z
                    (exfalso; omega)
                    exact z
                  refine lv_iconst (v := 1) hx hb dX6_readEither_84 ?o283 ?_
                  case o283 => decide
                  refine hx_retz hx hb hr rfl hlk hW ⟨⟨w_116, w_8, w_9, w_108, w_109, fw_116, fw_8, fw_9, fw_108, fw_109, (hv_K_t (x := w_116.toInt.toNat) (y := w_9.toInt.toNat) ?o284 ?o285 ?o286 ?o287 lo_110 (hE7.trans ((hv_LE_e k1_13E (by rw [← ek_85]; exact eu_84.2) (by rw [← ek_85]; exact eu_117.2)).trans (by rw [eA, eB, ← ek_85, ← e2w] <;> rfl))))⟩, hT, hM⟩ dX6_readEither_85
                  case o284 => decide
                  case o285 => omega
                  case o286 => omega
                  case o287 => omega
            · skip
              replace eu_84 : r_80.toInt = 1 ∧ hv_wd tf ln0.toInt.toNat w_83.toInt.toNat = 1 := ?o288
              case o288 =>
                rcases eu_84 with z | z
                exact z
                exfalso
                omega
              have hwa := hv_wd_1 (T := tf) (n := ln0.toInt.toNat) (p := w_83.toInt.toNat) eu_84.2
              refine lv_aload_n hx hb dX6_readEither_47 rfl (lv_at hl 3 rfl) ?_
              refine lv_dup hx hb dX6_readEither_48 rfl ?_
              refine hk_geti hx hb hts hC_6 hown hW (gx.S hM) tt_6 2 ?o289 rfl kw_127 ⟨rfl, rfl, rfl⟩ fw_83 dX6_readEither_49 ?_
              case o289 => decide
              refine lv_iconst (v := 3) hx hb dX6_readEither_52 ?o290 ?_
              case o290 => decide
              refine lv_iadd hx hb dX6_readEither_53 ?_
              have rg_126 := i32_r w_83
              refine lv_topi (fun x_127 ex_127 => ?_)
              have zx_127 : x_127.toInt = w_83.toInt + 3 := ?o291
              case o291 =>
                rw [ex_127]
                refine i32_add rfl ?o292 ?o293 ?o294
                case o292 => decide
                case o293 => omega
                case o294 => omega
              refine hx_puti hx hb hts hC_6 hown hW hT (hx_S.rf (M := [(6, 2)])) (gx.S hM) tt_6 2 ?o295 rfl kw_127 ⟨rfl, rfl, rfl⟩ rfl (x := x_127) ⟨?o296, ?o297⟩ rfl rfl rfl (List.mem_singleton.mpr rfl) dX6_readEither_54 (fun H locs h_128 eh_128 hW hT hs => ?_)
              case o295 => decide
              case o296 => omega
              case o297 => omega
              replace fw_8 := (hs.o (gx.S hM) trivial rfl).1.trans fw_8
              replace fw_9 := (hs.o (gx.S hM) trivial rfl).1.trans fw_9
              replace fw_75 := (hs.o (gqi.S hM) trivial rfl).1.trans fw_75
              replace fw_76 : h_128.2.1 qp = w_76 := (funext fun j => (hs.a (gqp.S hM) rfl j).1).trans fw_76
              replace hM := hM.tr (hs.mono ?o298)
              case o298 => decide
              have f_129 : h_128.2.1 x 2 = x_127 := ?o299
              case o299 =>
                rw [eh_128]
                exact hx_pi_at _ _ _ _
              refine lv_goto (tgt := 96) hx hb dX6_readEither_57 ?o300 ?_
              case o300 => decide
              obtain ⟨x_130, ex_130⟩ : ∃ y : Int32, y = iv7_4 + Int32.ofInt 1 := ⟨_, rfl⟩
              have rg_131 := i32_r iv7_4
              have zx_130 : x_130.toInt = iv7_4.toInt + (1) := ?o301
              case o301 =>
                rw [ex_130]
                refine i32_add rfl ?o302 ?o303 ?o304
                case o302 => decide
                case o303 => omega
                case o304 => omega
              refine lv_iinc (v := x_130) (lv' := [(4, .int x_130), (2, .int r_80), (3, .int iv7_3), (0, .ref x), (1, .int i1)]) hx hb dX6_readEither_96 hl (k := 1) rfl ex_130.symm ?o305 rfl (fun ls hl => ?_)
              case o305 => decide
              refine lv_goto (tgt := 7) hx hb dX6_readEither_99 ?o306 ?_
              case o306 => decide
              refine ih7 r_80 iv7_3 x_130 x_127 w_8 w_9 w_75 w_76 _ _ L_78 h_128 ?o307 ?o308 ?o309 ?o310 ?o311 ?o312 ?o313 ?o314 (i32_r _).1 (i32_r _).2 ?o315 ?o316 ?o317 ?o318 ⟨_, lo_77, hE7.trans ((hv_LE_1 k1_13E (by rw [← ek_85]; exact eu_84.2)).trans (by rw [eA, ← ek_85, show w_83.toInt.toNat + 3 = x_127.toInt.toNat by omega, show decide (r_80.toInt = 1) = true from decide_eq_true (by omega)] <;> rfl))⟩ ?o319 ?o320 ?o321 ?o322 ls ?o323 hW hT hM f_129 fw_8 fw_9 fw_75 fw_76 (lv_sub hl [0, 2, 1, 3, 4] rfl)
              case o307 => omega
              case o308 => omega
              case o309 => omega
              case o310 => omega
              case o311 => omega
              case o312 => omega
              case o313 => omega
              case o314 => omega
              case o315 => omega
              case o316 => omega
              case o317 => omega
              case o318 => omega
              case o319 => omega
              case o320 => omega
              case o321 => omega
              case o322 => omega
              case o323 => omega
  have zk_0 : (0 : Int32).toInt = 0 := ?o324
  case o324 => decide
  have zk_0 : (0 : Int32).toInt = 0 := ?o325
  case o325 => decide
  have zk_0 : (0 : Int32).toInt = 0 := ?o326
  case o326 => decide
  refine loop7 402 (0 : Int32) (0 : Int32) (0 : Int32) at0 ft0 tm0 pl0 pf _ _ L h ?o327 ?o328 ?o329 ?o330 ?o331 ?o332 ?o333 ?o334 (i32_r _).1 (i32_r _).2 ?o335 ?o336 ?o337 ?o338 ⟨o, hO, (by have e0 : decide ((0 : Int32).toInt = 1) = false := (by decide); rw [e0])⟩ ?o339 ?o340 ?o341 ?o342 ls ?o343 hW hT hM f_x_2 f_x_3 f_x_5 f_qi_4 af_qp hl
  case o327 => decide
  case o328 => decide
  case o329 => decide
  case o330 => decide
  case o331 => decide
  case o332 => decide
  case o333 => omega
  case o334 => omega
  case o335 => omega
  case o336 => omega
  case o337 => omega
  case o338 => omega
  case o339 => omega
  case o340 => omega
  case o341 => omega
  case o342 => omega
  case o343 => omega


set_option maxHeartbeats 4000000 in
set_option maxRecDepth 100000 in
theorem t_X6_readOne_g (i1 : Int32) (hi1 : 0 ≤ i1.toInt ∧ i1.toInt ≤ 7) (D fr1 lo1 fr lo : Nat) (hfr1 : 7 ≤ fr1) (hlo1 : 158 ≤ lo1) (hfr : fr1 ≤ fr) (hlo : lo1 ≤ lo) (t_hRO : ∀ i2 : Int32, i2.toInt = i1.toInt + 1 → hv_MO i2 D fr1 lo1) (t_hRE : ∀ i2 : Int32, i2.toInt = i1.toInt + 1 → hv_ME i2 D fr lo) : hv_MO i1 (D + 1) (fr + 1) (lo + 24) := by
  unfold hv_MO
  intro l dC dI dA L h sz b0 x hT gx qt gqt f_x_0 qi gqi f_x_6 qp gqp f_qi_3 tf af_qt pf af_qp at0 f_x_2 ln0 f_x_1 ft0 f_x_3 tm0 f_x_5 pl0 f_qi_4 o hO hF hB hA hT0
  refine hx_metX (lv := [(0, .ref x), (1, .int i1)]) (by decide +kernel) rfl (Nat.le_of_ble_eq_true rfl) rfl ?_
  intro p e s m below meth c hx hb hml hr hlk hts0 hown hin hsz hW hZ ls hl
  have hts : ∀ w ∈ hx_all, w.before _ s = true := fun w hw => hts0 w (List.mem_cons_of_mem _ hw)
  have hown : s.vm.findClass "SmallCourt$Reader" = some m.cls := hown
  have hM : hx_S T_tb [(6, 2), (6, 3), (6, 5), (128, 0), (129, 4)] L h L h := hx_S.rf
  obtain ⟨zLT, zLA, zMT, zMA, zCS, zSF, zVS, zVR⟩ := hZ.2.2.2.2.2.2
  have b_at0 := hT.gi gx tt_6 (k := 2) rfl
  rw [f_x_2] at b_at0
  have b_at0 : 0 ≤ at0.toInt ∧ at0.toInt ≤ 402 := b_at0
  have b_ln0 := hT.gi gx tt_6 (k := 1) rfl
  rw [f_x_1] at b_ln0
  have b_ln0 : 0 ≤ ln0.toInt ∧ ln0.toInt ≤ 400 := b_ln0
  have b_ft0 := hT.gi gx tt_6 (k := 3) rfl
  rw [f_x_3] at b_ft0
  have b_ft0 : -2147483648 ≤ ft0.toInt ∧ ft0.toInt ≤ 2147483647 := b_ft0
  have b_tm0 := hT.gi gx tt_6 (k := 5) rfl
  rw [f_x_5] at b_tm0
  have b_tm0 : -2147483648 ≤ tm0.toInt ∧ tm0.toInt ≤ 2147483647 := b_tm0
  have b_pl0 := hT.gi gqi tt_129 (k := 4) rfl
  rw [f_qi_4] at b_pl0
  have b_pl0 : 0 ≤ pl0.toInt ∧ pl0.toInt ≤ 160 := b_pl0
  refine lv_aload_n hx hb dX6_readOne_0 rfl (lv_at hl 0 rfl) ?_
  refine va_ldcS (tx := P_st.getD 4 "") hx hb hown (zVR 4 ?o0) dX6_readOne_1 ?_
  case o0 => decide
  refine hx_goi (hx_runVX (As := [.ref (b0.2.2.2.1 4)]) (rest := []) ⟨hx, hb, hml, hown, hts⟩ hW (gx.S hM) tt_6 (T := TX6) (N := 7) rfl (t_X6_isNextWord_v l dC dI dA L h s.heap.size b0 x 4 hT (gx.S hM) (by decide) qt (gqt.S hM) ((hM.o gx trivial rfl).2.trans f_x_0) tf (hx_afS hM gqt rfl af_qt) at0 f_x_2 ln0 ((hM.o gx trivial rfl).1.trans f_x_1) (by omega)) hZ (cwV 1 hts (hx_gV kw_565 kw_562 kw_564 kw_14 kw_95) rfl rfl rfl (by decide +kernel) ⟨(by first | omega | (dsimp only; omega)), (by first | omega | (dsimp only; omega))⟩) rfl hl.1 rfl (Nat.le_of_ble_eq_true rfl) dX6_readOne_3 ⟨Nat.le_of_ble_eq_true rfl, Nat.le_of_ble_eq_true rfl⟩) hW (fun r_3 L_1 h_2 H locs p_4 hW => ?_)
  obtain ⟨⟨w_6, fw_6, hr_5⟩, hT, hs⟩ := p_4
  replace hT : hx_T T_tb L_1 h_2 := hT
  replace hs : hx_S T_tb [(6, 2)] L h L_1 h_2 := hs
  replace f_x_3 := (hs.o (gx.S hM) trivial rfl).1.trans f_x_3
  replace f_x_5 := (hs.o (gx.S hM) trivial rfl).1.trans f_x_5
  replace f_qi_4 := (hs.o (gqi.S hM) trivial rfl).1.trans f_qi_4
  replace af_qp : h_2.2.1 qp = pf := (funext fun j => (hs.a (gqp.S hM) rfl j).1).trans af_qp
  replace hM := hM.tr (hs.mono ?o1)
  case o1 => decide
  have fw_6 : h_2.2.1 x 2 = w_6 := fw_6
  have bw_6 := hT.gi (gx.S hM) tt_6 (k := 2) rfl
  rw [fw_6] at bw_6
  have bw_6 : 0 ≤ w_6.toInt ∧ w_6.toInt ≤ 402 := bw_6
  have eu_7 : (r_3.toInt = 1 ∧ hv_wd tf ln0.toInt.toNat (hv_sk tf ln0.toInt.toNat at0.toInt.toNat) = 2) ∨ (r_3.toInt = 0 ∧ hv_wd tf ln0.toInt.toNat (hv_sk tf ln0.toInt.toNat at0.toInt.toNat) ≠ 2) := hv_NW_u (js := 4) ?o2 hr_5.2.1
  case o2 => decide
  have ek_8 : w_6.toInt.toNat = hv_sk tf ln0.toInt.toNat at0.toInt.toNat := ?o3
  case o3 => omega
  rw [← ek_8] at eu_7
  refine lv_istore_n (lv' := [(2, .int r_3), (0, .ref x), (1, .int i1)]) hx hb dX6_readOne_6 rfl hl ?o4 rfl (fun ls hl => ?_)
  case o4 => decide
  have sid : hv_sk tf ln0.toInt.toNat w_6.toInt.toNat = w_6.toInt.toNat := ?o5
  case o5 =>
    rw [ek_8]
    exact hv_sk_id
  have hl0 := hv_ls_l hO
  refine lv_iload_n hx hb dX6_readOne_7 rfl (lv_at hl 0 rfl) ?_
  refine hb_if_ne (zx := r_3.toInt) (tgt := 25) hx hb rfl dX6_readOne_8 ?o6 (fun c_9 => ?_) (fun c_9 => ?_)
  case o6 => decide
  · skip
    replace eu_7 : r_3.toInt = 1 ∧ hv_wd tf ln0.toInt.toNat w_6.toInt.toNat = 2 := ?o7
    case o7 =>
      rcases eu_7 with z | z
      exact z
      exfalso
      omega
    refine lv_iload_n hx hb dX6_readOne_25 rfl (lv_at hl 2 rfl) ?_
    refine lv_bipush (v := 8) hx hb dX6_readOne_26 ?o8 ?_
    case o8 => decide
    refine hb_icmp_lt (zx := i1.toInt) (zy := 8) (tgt := 41) hx hb rfl ?o9 dX6_readOne_28 ?o10 (fun c_10 => ?_) (fun c_10 => ?o11)
    case o9 => decide
    case o10 => decide
    case o11 =>
      exfalso
      omega
    refine lv_iload_n hx hb dX6_readOne_41 rfl (lv_at hl 0 rfl) ?_
    refine hb_if_eq (zx := r_3.toInt) (tgt := 78) hx hb rfl dX6_readOne_42 ?o12 (fun c_11 => ?o13) (fun c_11 => ?_)
    case o12 => decide
    case o13 =>
      exfalso
      omega
    have hn2 := hv_wd_2 (T := tf) (n := ln0.toInt.toNat) (p := w_6.toInt.toNat) eu_7.2
    refine lv_aload_n hx hb dX6_readOne_45 rfl (lv_at hl 1 rfl) ?_
    refine lv_dup hx hb dX6_readOne_46 rfl ?_
    refine hk_geti hx hb hts hC_6 hown hW (gx.S hM) tt_6 2 ?o14 rfl kw_127 ⟨rfl, rfl, rfl⟩ fw_6 dX6_readOne_47 ?_
    case o14 => decide
    refine lv_iconst (v := 3) hx hb dX6_readOne_50 ?o15 ?_
    case o15 => decide
    refine lv_iadd hx hb dX6_readOne_51 ?_
    have rg_12 := i32_r w_6
    refine lv_topi (fun x_13 ex_13 => ?_)
    have zx_13 : x_13.toInt = w_6.toInt + 3 := ?o16
    case o16 =>
      rw [ex_13]
      refine i32_add rfl ?o17 ?o18 ?o19
      case o17 => decide
      case o18 => omega
      case o19 => omega
    refine hx_puti hx hb hts hC_6 hown hW hT (hx_S.rf (M := [(6, 2)])) (gx.S hM) tt_6 2 ?o20 rfl kw_127 ⟨rfl, rfl, rfl⟩ rfl (x := x_13) ⟨?o21, ?o22⟩ rfl rfl rfl (List.mem_singleton.mpr rfl) dX6_readOne_52 (fun H locs h_14 eh_14 hW hT hs => ?_)
    case o20 => decide
    case o21 => omega
    case o22 => omega
    replace f_x_3 := (hs.o (gx.S hM) trivial rfl).1.trans f_x_3
    replace f_x_5 := (hs.o (gx.S hM) trivial rfl).1.trans f_x_5
    replace f_qi_4 := (hs.o (gqi.S hM) trivial rfl).1.trans f_qi_4
    replace af_qp : h_14.2.1 qp = pf := (funext fun j => (hs.a (gqp.S hM) rfl j).1).trans af_qp
    replace hM := hM.tr (hs.mono ?o23)
    case o23 => decide
    have f_15 : h_14.2.1 x 2 = x_13 := ?o24
    case o24 =>
      rw [eh_14]
      exact hx_pi_at _ _ _ _
    refine lv_aload_n hx hb dX6_readOne_55 rfl (lv_at hl 1 rfl) ?_
    refine lv_iload_n hx hb dX6_readOne_56 rfl (lv_at hl 2 rfl) ?_
    refine lv_iconst (v := 1) hx hb dX6_readOne_57 ?o25 ?_
    case o25 => decide
    refine lv_iadd hx hb dX6_readOne_58 ?_
    have rg_16 := i32_r i1
    refine lv_topi (fun x_17 ex_17 => ?_)
    have zx_17 : x_17.toInt = i1.toInt + 1 := ?o26
    case o26 =>
      rw [ex_17]
      refine i32_add rfl ?o27 ?o28 ?o29
      case o27 => decide
      case o28 => omega
      case o29 => omega
    have t_hRO9 := t_hRO x_17 ?o30
    case o30 => omega
    refine hx_goi (hx_runVX (As := [.int x_17]) (rest := []) ⟨hx, hb, hml, hown, hts⟩ hW (gx.S hM) tt_6 (T := TX6) (N := 7) rfl (t_hRO9 l dC dI dA L_1 h_14 H.size b0 x hT (gx.S hM) qt (gqt.S hM) ((hM.o gx trivial rfl).2.trans f_x_0) qi (gqi.S hM) ((hM.o gx trivial rfl).2.trans f_x_6) qp (gqp.S hM) ((hM.o gqi trivial rfl).2.trans f_qi_3) tf (hx_afS hM gqt rfl af_qt) pf af_qp x_13 f_15 ln0 ((hM.o gx trivial rfl).1.trans f_x_1) ft0 f_x_3 tm0 f_x_5 pl0 f_qi_4 o hO (by omega) (by omega) (by omega) ⟨by omega, by omega⟩) hZ (cwV 1 hts (hx_gV kw_560 kw_557 kw_559 kw_13 kw_95) rfl rfl rfl (by decide +kernel) ⟨(by first | omega | (dsimp only; omega)), (by first | omega | (dsimp only; omega))⟩) rfl hl.1 rfl (Nat.le_of_ble_eq_true rfl) dX6_readOne_59 ⟨Nat.le_of_ble_eq_true rfl, Nat.le_of_ble_eq_true rfl⟩) hW (fun r_20 L_18 h_19 H locs p_21 hW => ?_)
    obtain ⟨⟨w_23, w_24, w_25, w_26, w_27, fw_23, fw_24, fw_25, fw_26, fw_27, hr_22⟩, hT, hs⟩ := p_21
    replace hT : hx_T T_tb L_18 h_19 := hT
    replace hs : hx_S T_tb [(6, 2), (6, 3), (6, 5), (128, 0), (129, 4)] L_1 h_14 L_18 h_19 := hs
    replace hM := hM.tr (hs.mono ?o31)
    case o31 => decide
    have fw_23 : h_19.2.1 x 2 = w_23 := fw_23
    have bw_23 := hT.gi (gx.S hM) tt_6 (k := 2) rfl
    rw [fw_23] at bw_23
    have bw_23 : 0 ≤ w_23.toInt ∧ w_23.toInt ≤ 402 := bw_23
    have fw_24 : h_19.2.1 x 3 = w_24 := fw_24
    have bw_24 := hT.gi (gx.S hM) tt_6 (k := 3) rfl
    rw [fw_24] at bw_24
    have bw_24 : -2147483648 ≤ w_24.toInt ∧ w_24.toInt ≤ 2147483647 := bw_24
    have fw_25 : h_19.2.1 x 5 = w_25 := fw_25
    have bw_25 := hT.gi (gx.S hM) tt_6 (k := 5) rfl
    rw [fw_25] at bw_25
    have bw_25 : -2147483648 ≤ w_25.toInt ∧ w_25.toInt ≤ 2147483647 := bw_25
    have fw_26 : h_19.2.1 qi 4 = w_26 := fw_26
    have bw_26 := hT.gi (gqi.S hM) tt_129 (k := 4) rfl
    rw [fw_26] at bw_26
    have bw_26 : 0 ≤ w_26.toInt ∧ w_26.toInt ≤ 160 := bw_26
    have fw_27 : h_19.2.1 qp = w_27 := fw_27
    have hr_22b := hv_K_b hr_22
    refine hb_if_ne (zx := r_20.toInt) (tgt := 67) hx hb rfl dX6_readOne_62 ?o32 (fun c_28 => ?_) (fun c_28 => ?_)
    case o32 => decide
    · skip
      obtain ⟨k1_29F, k1_29p, k1_29t, oo_30, k1_29O, k1_29E⟩ := hv_K_1 hr_22 (by omega)
      have k1_29l := hv_ls_l k1_29O
      replace hr_22b : r_20.toInt = 1 := ?o33
      case o33 => omega
      have k1_29g := hv_one_g k1_29E ?o34
      case o34 => omega
      refine lv_aload_n hx hb dX6_readOne_67 rfl (lv_at hl 1 rfl) ?_
      refine hk_getr hx hb hts hC_6 hown hW (gx.S hM) tt_6 6 ?o35 rfl kw_131 ⟨rfl, rfl, rfl⟩ ((hM.o gx trivial rfl).2.trans f_x_6) dX6_readOne_68 ?_
      case o35 => decide
      refine lv_bipush (v := -3) hx hb dX6_readOne_71 ?o36 ?_
      case o36 => decide
      have zc_m3 : (-3 : Int32).toInt = -3 := ?o37
      case o37 => decide
      refine hx_gov (hx_runV (As := [.int (-3 : Int32)]) (rest := []) ⟨hx, hb, hml, hown, hts⟩ hW (gqi.S hM) tt_129 (T := TX0) (N := 5) rfl (t_X0_addProof_v l dC dI dA L_18 h_19 H.size qi (-3 : Int32) hT (gqi.S hM) qp (gqp.S hM) ((hM.o gqi trivial rfl).2.trans f_qi_3) w_27 fw_27 w_26 fw_26 (by omega)) (cwV 1 hts (hx_gV kw_583 kw_580 kw_581 kw_582 kw_96) rfl rfl rfl (by decide +kernel) ⟨(by first | omega | (dsimp only; omega)), (by first | omega | (dsimp only; omega))⟩) rfl hl.1 rfl (Nat.le_of_ble_eq_true rfl) dX6_readOne_73 ⟨Nat.le_of_ble_eq_true rfl, Nat.le_of_ble_eq_true rfl⟩) hW (fun L_31 h_32 H locs p_34 hW => ?_)
      obtain ⟨⟨w_36, w_37, fw_36, fw_37, hr_35⟩, hT, hs⟩ := p_34
      replace hT : hx_T T_tb L_31 h_32 := hT
      replace hs : hx_S T_tb [(128, 0), (129, 4)] L_18 h_19 L_31 h_32 := hs
      replace fw_23 := (hs.o (gx.S hM) trivial rfl).1.trans fw_23
      replace fw_24 := (hs.o (gx.S hM) trivial rfl).1.trans fw_24
      replace fw_25 := (hs.o (gx.S hM) trivial rfl).1.trans fw_25
      replace hM := hM.tr (hs.mono ?o38)
      case o38 => decide
      have fw_36 : h_32.2.1 qi 4 = w_36 := fw_36
      have bw_36 := hT.gi (gqi.S hM) tt_129 (k := 4) rfl
      rw [fw_36] at bw_36
      have bw_36 : 0 ≤ w_36.toInt ∧ w_36.toInt ≤ 160 := bw_36
      have fw_37 : h_32.2.1 qp = w_37 := fw_37
      refine lv_iconst (v := 1) hx hb dX6_readOne_76 ?o39 ?_
      case o39 => decide
      refine hx_retz hx hb hr rfl hlk hW ⟨⟨w_23, w_24, w_25, w_36, w_37, fw_23, fw_24, fw_25, fw_36, fw_37, (hv_K_t (x := w_23.toInt.toNat) (y := w_25.toInt.toNat) (o := (0, 2, 0) :: oo_30) ?o40 ?o41 ?o42 ?o43 (hv_ls_u k1_29O ?o44 ?o45 hr_35.2) (hv_one_n1 (by rw [← ek_8]; exact eu_7.2) (by rw [← ek_8, show w_6.toInt.toNat + 3 = x_13.toInt.toNat by omega]; exact k1_29E)))⟩, hT, hM⟩ dX6_readOne_77
      case o40 => decide
      case o41 => omega
      case o42 => omega
      case o43 => omega
      case o44 => decide
      case o45 => omega
    · skip
      refine lv_iconst (v := 0) hx hb dX6_readOne_65 ?o46 ?_
      case o46 => decide
      refine hx_retz hx hb hr rfl hlk hW ⟨⟨w_23, w_24, w_25, w_26, w_27, fw_23, fw_24, fw_25, fw_26, fw_27, (hv_K_f (x := w_24.toInt.toNat) ?o47 (by have h8 := (hv_K_0 hr_22 (by omega)).1; omega) (by have h8 := (hv_K_0 hr_22 (by omega)).1; omega) (hv_one_n0 (by rw [← ek_8]; exact eu_7.2) (by rw [← ek_8, show w_6.toInt.toNat + 3 = x_13.toInt.toNat by omega]; exact (hv_K_0 hr_22 (by omega)).2)))⟩, hT, hM⟩ dX6_readOne_66
      case o47 => decide
  · skip
    replace eu_7 : r_3.toInt = 0 ∧ hv_wd tf ln0.toInt.toNat w_6.toInt.toNat ≠ 2 := ?o48
    case o48 =>
      rcases eu_7 with z | z
      (exfalso; omega)
      exact z
    refine lv_aload_n hx hb dX6_readOne_11 rfl (lv_at hl 1 rfl) ?_
    refine lv_bipush (v := 40) hx hb dX6_readOne_12 ?o49 ?_
    case o49 => decide
    have zc_40 : (40 : Int32).toInt = 40 := ?o50
    case o50 => decide
    refine hx_goi (hx_runV (As := [.int (40 : Int32)]) (rest := []) ⟨hx, hb, hml, hown, hts⟩ hW (gx.S hM) tt_6 (T := TX6) (N := 7) rfl (t_X6_isByte_v l dC dI dA L_1 h_2 H.size x (40 : Int32) hT (gx.S hM) qt (gqt.S hM) ((hM.o gx trivial rfl).2.trans f_x_0) tf (hx_afS hM gqt rfl af_qt) w_6 fw_6 ln0 ((hM.o gx trivial rfl).1.trans f_x_1)) (cwV 1 hts (hx_gV kw_569 kw_566 kw_568 kw_15 kw_95) rfl rfl rfl (by decide +kernel) ⟨(by first | omega | (dsimp only; omega)), (by first | omega | (dsimp only; omega))⟩) rfl hl.1 rfl (Nat.le_of_ble_eq_true rfl) dX6_readOne_14 ⟨Nat.le_of_ble_eq_true rfl, Nat.le_of_ble_eq_true rfl⟩) hW (fun r_40 L_38 h_39 H locs p_41 hW => ?_)
    obtain ⟨hr_42, hT, hs⟩ := p_41
    replace hT : hx_T T_tb L_38 h_39 := hT
    replace hs : hx_S T_tb [] L_1 h_2 L_38 h_39 := hs
    replace f_x_3 := (hs.o (gx.S hM) trivial rfl).1.trans f_x_3
    replace f_x_5 := (hs.o (gx.S hM) trivial rfl).1.trans f_x_5
    replace f_qi_4 := (hs.o (gqi.S hM) trivial rfl).1.trans f_qi_4
    replace fw_6 := (hs.o (gx.S hM) trivial rfl).1.trans fw_6
    replace af_qp : h_39.2.1 qp = pf := (funext fun j => (hs.a (gqp.S hM) rfl j).1).trans af_qp
    replace hM := hM.tr (hs.mono ?o51)
    case o51 => decide
    refine hb_if_ne (zx := r_40.toInt) (tgt := 25) hx hb rfl dX6_readOne_17 ?o52 (fun c_43 => ?_) (fun c_43 => ?_)
    case o52 => decide
    · skip
      replace hr_42 : r_40.toInt = 1 ∧ (w_6.toInt < ln0.toInt ∧ (tf w_6.toInt.toNat).toInt = 40) := ?o53
      case o53 =>
        have z8 : (40 : Int32).toInt = 40 := ?o54
        case o54 => decide
        rcases hr_42 with z | z
        refine ⟨z.1, ?o55, ?o56⟩
        case o55 => omega
        case o56 => omega
        exfalso
        omega
      refine lv_iload_n hx hb dX6_readOne_25 rfl (lv_at hl 2 rfl) ?_
      refine lv_bipush (v := 8) hx hb dX6_readOne_26 ?o57 ?_
      case o57 => decide
      refine hb_icmp_lt (zx := i1.toInt) (zy := 8) (tgt := 41) hx hb rfl ?o58 dX6_readOne_28 ?o59 (fun c_44 => ?_) (fun c_44 => ?o60)
      case o58 => decide
      case o59 => decide
      case o60 =>
        exfalso
        omega
      refine lv_iload_n hx hb dX6_readOne_41 rfl (lv_at hl 0 rfl) ?_
      refine hb_if_eq (zx := r_3.toInt) (tgt := 78) hx hb rfl dX6_readOne_42 ?o61 (fun c_45 => ?_) (fun c_45 => ?o62)
      case o61 => decide
      case o62 =>
        exfalso
        omega
      refine lv_aload_n hx hb dX6_readOne_78 rfl (lv_at hl 1 rfl) ?_
      refine lv_dup hx hb dX6_readOne_79 rfl ?_
      refine hk_geti hx hb hts hC_6 hown hW (gx.S hM) tt_6 2 ?o63 rfl kw_127 ⟨rfl, rfl, rfl⟩ fw_6 dX6_readOne_80 ?_
      case o63 => decide
      refine lv_iconst (v := 1) hx hb dX6_readOne_83 ?o64 ?_
      case o64 => decide
      refine lv_iadd hx hb dX6_readOne_84 ?_
      have rg_46 := i32_r w_6
      refine lv_topi (fun x_47 ex_47 => ?_)
      have zx_47 : x_47.toInt = w_6.toInt + 1 := ?o65
      case o65 =>
        rw [ex_47]
        refine i32_add rfl ?o66 ?o67 ?o68
        case o66 => decide
        case o67 => omega
        case o68 => omega
      refine hx_puti hx hb hts hC_6 hown hW hT (hx_S.rf (M := [(6, 2)])) (gx.S hM) tt_6 2 ?o69 rfl kw_127 ⟨rfl, rfl, rfl⟩ rfl (x := x_47) ⟨?o70, ?o71⟩ rfl rfl rfl (List.mem_singleton.mpr rfl) dX6_readOne_85 (fun H locs h_48 eh_48 hW hT hs => ?_)
      case o69 => decide
      case o70 => omega
      case o71 => omega
      replace f_x_3 := (hs.o (gx.S hM) trivial rfl).1.trans f_x_3
      replace f_x_5 := (hs.o (gx.S hM) trivial rfl).1.trans f_x_5
      replace f_qi_4 := (hs.o (gqi.S hM) trivial rfl).1.trans f_qi_4
      replace af_qp : h_48.2.1 qp = pf := (funext fun j => (hs.a (gqp.S hM) rfl j).1).trans af_qp
      replace hM := hM.tr (hs.mono ?o72)
      case o72 => decide
      have f_49 : h_48.2.1 x 2 = x_47 := ?o73
      case o73 =>
        rw [eh_48]
        exact hx_pi_at _ _ _ _
      refine lv_aload_n hx hb dX6_readOne_88 rfl (lv_at hl 1 rfl) ?_
      refine lv_iload_n hx hb dX6_readOne_89 rfl (lv_at hl 2 rfl) ?_
      refine lv_iconst (v := 1) hx hb dX6_readOne_90 ?o74 ?_
      case o74 => decide
      refine lv_iadd hx hb dX6_readOne_91 ?_
      have rg_50 := i32_r i1
      refine lv_topi (fun x_51 ex_51 => ?_)
      have zx_51 : x_51.toInt = i1.toInt + 1 := ?o75
      case o75 =>
        rw [ex_51]
        refine i32_add rfl ?o76 ?o77 ?o78
        case o76 => decide
        case o77 => omega
        case o78 => omega
      have t_hRE9 := t_hRE x_51 ?o79
      case o79 => omega
      refine hx_goi (hx_runVX (As := [.int x_51]) (rest := []) ⟨hx, hb, hml, hown, hts⟩ hW (gx.S hM) tt_6 (T := TX6) (N := 7) rfl (t_hRE9 l dC dI dA L_38 h_48 H.size b0 x hT (gx.S hM) qt (gqt.S hM) ((hM.o gx trivial rfl).2.trans f_x_0) qi (gqi.S hM) ((hM.o gx trivial rfl).2.trans f_x_6) qp (gqp.S hM) ((hM.o gqi trivial rfl).2.trans f_qi_3) tf (hx_afS hM gqt rfl af_qt) pf af_qp x_47 f_49 ln0 ((hM.o gx trivial rfl).1.trans f_x_1) ft0 f_x_3 tm0 f_x_5 pl0 f_qi_4 o hO (by omega) (by omega) (by omega) ⟨by omega, by omega⟩) hZ (cwV 1 hts (hx_gV kw_556 kw_553 kw_555 kw_12 kw_95) rfl rfl rfl (by decide +kernel) ⟨(by first | omega | (dsimp only; omega)), (by first | omega | (dsimp only; omega))⟩) rfl hl.1 rfl (Nat.le_of_ble_eq_true rfl) dX6_readOne_92 ⟨Nat.le_of_ble_eq_true rfl, Nat.le_of_ble_eq_true rfl⟩) hW (fun r_54 L_52 h_53 H locs p_55 hW => ?_)
      obtain ⟨⟨w_57, w_58, w_59, w_60, w_61, fw_57, fw_58, fw_59, fw_60, fw_61, hr_56⟩, hT, hs⟩ := p_55
      replace hT : hx_T T_tb L_52 h_53 := hT
      replace hs : hx_S T_tb [(6, 2), (6, 3), (6, 5), (128, 0), (129, 4)] L_38 h_48 L_52 h_53 := hs
      replace hM := hM.tr (hs.mono ?o80)
      case o80 => decide
      have fw_57 : h_53.2.1 x 2 = w_57 := fw_57
      have bw_57 := hT.gi (gx.S hM) tt_6 (k := 2) rfl
      rw [fw_57] at bw_57
      have bw_57 : 0 ≤ w_57.toInt ∧ w_57.toInt ≤ 402 := bw_57
      have fw_58 : h_53.2.1 x 3 = w_58 := fw_58
      have bw_58 := hT.gi (gx.S hM) tt_6 (k := 3) rfl
      rw [fw_58] at bw_58
      have bw_58 : -2147483648 ≤ w_58.toInt ∧ w_58.toInt ≤ 2147483647 := bw_58
      have fw_59 : h_53.2.1 x 5 = w_59 := fw_59
      have bw_59 := hT.gi (gx.S hM) tt_6 (k := 5) rfl
      rw [fw_59] at bw_59
      have bw_59 : -2147483648 ≤ w_59.toInt ∧ w_59.toInt ≤ 2147483647 := bw_59
      have fw_60 : h_53.2.1 qi 4 = w_60 := fw_60
      have bw_60 := hT.gi (gqi.S hM) tt_129 (k := 4) rfl
      rw [fw_60] at bw_60
      have bw_60 : 0 ≤ w_60.toInt ∧ w_60.toInt ≤ 160 := bw_60
      have fw_61 : h_53.2.1 qp = w_61 := fw_61
      have hr_56b := hv_K_b hr_56
      refine hb_if_ne (zx := r_54.toInt) (tgt := 100) hx hb rfl dX6_readOne_95 ?o81 (fun c_62 => ?_) (fun c_62 => ?_)
      case o81 => decide
      · skip
        obtain ⟨k1_63F, k1_63p, k1_63t, oo_64, k1_63O, k1_63E⟩ := hv_K_1 hr_56 (by omega)
        have k1_63l := hv_ls_l k1_63O
        replace hr_56b : r_54.toInt = 1 := ?o82
        case o82 => omega
        have k1_63g := hv_LE_g k1_63E ?o83
        case o83 => omega
        refine lv_aload_n hx hb dX6_readOne_100 rfl (lv_at hl 1 rfl) ?_
        refine hx_gov (hx_runV (As := []) (rest := []) ⟨hx, hb, hml, hown, hts⟩ hW (gx.S hM) tt_6 (T := TX6) (N := 7) rfl (t_X6_skipBlanks_v l dC dI dA L_52 h_53 H.size x hT (gx.S hM) qt (gqt.S hM) ((hM.o gx trivial rfl).2.trans f_x_0) tf (hx_afS hM gqt rfl af_qt) w_57 fw_57 ln0 ((hM.o gx trivial rfl).1.trans f_x_1) (by omega)) (cwV 0 hts (hx_gV kw_458 kw_455 kw_457 kw_1 kw_95) rfl rfl rfl (by decide +kernel) ⟨(by first | omega | (dsimp only; omega)), (by first | omega | (dsimp only; omega))⟩) rfl hl.1 rfl (Nat.le_of_ble_eq_true rfl) dX6_readOne_101 ⟨Nat.le_of_ble_eq_true rfl, Nat.le_of_ble_eq_true rfl⟩) hW (fun L_65 h_66 H locs p_68 hW => ?_)
        obtain ⟨⟨w_70, fw_70, hr_69⟩, hT, hs⟩ := p_68
        replace hT : hx_T T_tb L_65 h_66 := hT
        replace hs : hx_S T_tb [(6, 2)] L_52 h_53 L_65 h_66 := hs
        replace fw_58 := (hs.o (gx.S hM) trivial rfl).1.trans fw_58
        replace fw_59 := (hs.o (gx.S hM) trivial rfl).1.trans fw_59
        replace fw_60 := (hs.o (gqi.S hM) trivial rfl).1.trans fw_60
        replace fw_61 : h_66.2.1 qp = w_61 := (funext fun j => (hs.a (gqp.S hM) rfl j).1).trans fw_61
        replace hM := hM.tr (hs.mono ?o84)
        case o84 => decide
        have fw_70 : h_66.2.1 x 2 = w_70 := fw_70
        have bw_70 := hT.gi (gx.S hM) tt_6 (k := 2) rfl
        rw [fw_70] at bw_70
        have bw_70 : 0 ≤ w_70.toInt ∧ w_70.toInt ≤ 402 := bw_70
        have ek_71 : w_70.toInt.toNat = hv_sk tf ln0.toInt.toNat w_57.toInt.toNat := ?o85
        case o85 => omega
        refine lv_aload_n hx hb dX6_readOne_104 rfl (lv_at hl 1 rfl) ?_
        refine lv_bipush (v := 41) hx hb dX6_readOne_105 ?o86 ?_
        case o86 => decide
        have zc_41 : (41 : Int32).toInt = 41 := ?o87
        case o87 => decide
        refine hx_goi (hx_runV (As := [.int (41 : Int32)]) (rest := []) ⟨hx, hb, hml, hown, hts⟩ hW (gx.S hM) tt_6 (T := TX6) (N := 7) rfl (t_X6_isByte_v l dC dI dA L_65 h_66 H.size x (41 : Int32) hT (gx.S hM) qt (gqt.S hM) ((hM.o gx trivial rfl).2.trans f_x_0) tf (hx_afS hM gqt rfl af_qt) w_70 fw_70 ln0 ((hM.o gx trivial rfl).1.trans f_x_1)) (cwV 1 hts (hx_gV kw_569 kw_566 kw_568 kw_15 kw_95) rfl rfl rfl (by decide +kernel) ⟨(by first | omega | (dsimp only; omega)), (by first | omega | (dsimp only; omega))⟩) rfl hl.1 rfl (Nat.le_of_ble_eq_true rfl) dX6_readOne_107 ⟨Nat.le_of_ble_eq_true rfl, Nat.le_of_ble_eq_true rfl⟩) hW (fun r_74 L_72 h_73 H locs p_75 hW => ?_)
        obtain ⟨hr_76, hT, hs⟩ := p_75
        replace hT : hx_T T_tb L_72 h_73 := hT
        replace hs : hx_S T_tb [] L_65 h_66 L_72 h_73 := hs
        replace fw_58 := (hs.o (gx.S hM) trivial rfl).1.trans fw_58
        replace fw_59 := (hs.o (gx.S hM) trivial rfl).1.trans fw_59
        replace fw_60 := (hs.o (gqi.S hM) trivial rfl).1.trans fw_60
        replace fw_70 := (hs.o (gx.S hM) trivial rfl).1.trans fw_70
        replace fw_61 : h_73.2.1 qp = w_61 := (funext fun j => (hs.a (gqp.S hM) rfl j).1).trans fw_61
        replace hM := hM.tr (hs.mono ?o88)
        case o88 => decide
        refine hb_if_ne (zx := r_74.toInt) (tgt := 123) hx hb rfl dX6_readOne_110 ?o89 (fun c_77 => ?_) (fun c_77 => ?_)
        case o89 => decide
        · skip
          replace hr_76 : r_74.toInt = 1 ∧ (w_70.toInt < ln0.toInt ∧ (tf w_70.toInt.toNat).toInt = 41) := ?o90
          case o90 =>
            have z8 : (41 : Int32).toInt = 41 := ?o91
            case o91 => decide
            rcases hr_76 with z | z
            refine ⟨z.1, ?o92, ?o93⟩
            case o92 => omega
            case o93 => omega
            exfalso
            omega
          refine lv_aload_n hx hb dX6_readOne_123 rfl (lv_at hl 1 rfl) ?_
          refine lv_dup hx hb dX6_readOne_124 rfl ?_
          refine hk_geti hx hb hts hC_6 hown hW (gx.S hM) tt_6 2 ?o94 rfl kw_127 ⟨rfl, rfl, rfl⟩ fw_70 dX6_readOne_125 ?_
          case o94 => decide
          refine lv_iconst (v := 1) hx hb dX6_readOne_128 ?o95 ?_
          case o95 => decide
          refine lv_iadd hx hb dX6_readOne_129 ?_
          have rg_78 := i32_r w_70
          refine lv_topi (fun x_79 ex_79 => ?_)
          have zx_79 : x_79.toInt = w_70.toInt + 1 := ?o96
          case o96 =>
            rw [ex_79]
            refine i32_add rfl ?o97 ?o98 ?o99
            case o97 => decide
            case o98 => omega
            case o99 => omega
          refine hx_puti hx hb hts hC_6 hown hW hT (hx_S.rf (M := [(6, 2)])) (gx.S hM) tt_6 2 ?o100 rfl kw_127 ⟨rfl, rfl, rfl⟩ rfl (x := x_79) ⟨?o101, ?o102⟩ rfl rfl rfl (List.mem_singleton.mpr rfl) dX6_readOne_130 (fun H locs h_80 eh_80 hW hT hs => ?_)
          case o100 => decide
          case o101 => omega
          case o102 => omega
          replace fw_58 := (hs.o (gx.S hM) trivial rfl).1.trans fw_58
          replace fw_59 := (hs.o (gx.S hM) trivial rfl).1.trans fw_59
          replace fw_60 := (hs.o (gqi.S hM) trivial rfl).1.trans fw_60
          replace fw_61 : h_80.2.1 qp = w_61 := (funext fun j => (hs.a (gqp.S hM) rfl j).1).trans fw_61
          replace hM := hM.tr (hs.mono ?o103)
          case o103 => decide
          have f_81 : h_80.2.1 x 2 = x_79 := ?o104
          case o104 =>
            rw [eh_80]
            exact hx_pi_at _ _ _ _
          refine lv_iconst (v := 1) hx hb dX6_readOne_133 ?o105 ?_
          case o105 => decide
          refine hx_retz hx hb hr rfl hlk hW ⟨⟨x_79, w_58, w_59, w_60, w_61, f_81, fw_58, fw_59, fw_60, fw_61, (hv_K_t (x := w_70.toInt.toNat + 1) (y := w_59.toInt.toNat) (o := oo_64) ?o106 ?o107 ?o108 ?o109 k1_63O ((hv_one_p1 (by rw [← ek_8]; exact eu_7.2) (by rw [← ek_8]; exact ⟨by omega, hr_42.2.2⟩) (by rw [← ek_8, show w_6.toInt.toNat + 1 = x_47.toInt.toNat by omega]; exact k1_63E) (by rw [← ek_71]; exact ⟨by omega, hr_76.2.2⟩)).trans (by rw [← ek_71])))⟩, hT, hM⟩ dX6_readOne_134
          case o106 => decide
          case o107 => omega
          case o108 => omega
          case o109 => omega
        · skip
          replace hr_76 : r_74.toInt = 0 ∧ ¬ (w_70.toInt < ln0.toInt ∧ (tf w_70.toInt.toNat).toInt = 41) := ?o110
          case o110 =>
            have z8 : (41 : Int32).toInt = 41 := ?o111
            case o111 => decide
            rcases hr_76 with z | z
            (exfalso; omega)
            refine ⟨z.1, fun z9 => z.2 ⟨?o112, ?o113⟩⟩
            case o112 => omega
            case o113 => omega
          refine lv_aload_n hx hb dX6_readOne_113 rfl (lv_at hl 1 rfl) ?_
          refine lv_aload_n hx hb dX6_readOne_114 rfl (lv_at hl 1 rfl) ?_
          refine hk_geti hx hb hts hC_6 hown hW (gx.S hM) tt_6 2 ?o114 rfl kw_127 ⟨rfl, rfl, rfl⟩ fw_70 dX6_readOne_115 ?_
          case o114 => decide
          refine lv_iconst (v := 0) hx hb dX6_readOne_118 ?o115 ?_
          case o115 => decide
          have zc_0 : (0 : Int32).toInt = 0 := ?o116
          case o116 => decide
          refine hx_goi (hx_runV (As := [.int w_70, .int (0 : Int32)]) (rest := []) ⟨hx, hb, hml, hown, hts⟩ hW (gx.S hM) tt_6 (T := TX6) (N := 7) rfl (t_X6_refuse_v l dC dI dA L_72 h_73 H.size x w_70 (0 : Int32) hT (gx.S hM) ⟨by omega, by omega⟩ (by decide)) (cwV 2 hts (hx_gV kw_527 kw_524 kw_526 kw_6 kw_95) rfl rfl rfl (by decide +kernel) ⟨(by first | omega | (dsimp only; omega)), (by first | omega | (dsimp only; omega))⟩) rfl hl.1 rfl (Nat.le_of_ble_eq_true rfl) dX6_readOne_119 ⟨Nat.le_of_ble_eq_true rfl, Nat.le_of_ble_eq_true rfl⟩) hW (fun r_84 L_82 h_83 H locs p_85 hW => ?_)
          obtain ⟨⟨w_87, fw_87, hr_86⟩, hT, hs⟩ := p_85
          replace hT : hx_T T_tb L_82 h_83 := hT
          replace hs : hx_S T_tb [(6, 3)] L_72 h_73 L_82 h_83 := hs
          replace fw_59 := (hs.o (gx.S hM) trivial rfl).1.trans fw_59
          replace fw_60 := (hs.o (gqi.S hM) trivial rfl).1.trans fw_60
          replace fw_70 := (hs.o (gx.S hM) trivial rfl).1.trans fw_70
          replace fw_61 : h_83.2.1 qp = w_61 := (funext fun j => (hs.a (gqp.S hM) rfl j).1).trans fw_61
          replace hM := hM.tr (hs.mono ?o117)
          case o117 => decide
          have fw_87 : h_83.2.1 x 3 = w_87 := fw_87
          have bw_87 := hT.gi (gx.S hM) tt_6 (k := 3) rfl
          rw [fw_87] at bw_87
          have bw_87 : -2147483648 ≤ w_87.toInt ∧ w_87.toInt ≤ 2147483647 := bw_87
          refine hx_retz hx hb hr (hx_nar01 ?o118) hlk hW ⟨⟨w_70, w_87, w_59, w_60, w_61, fw_70, fw_87, fw_59, fw_60, fw_61, (hv_K_f (x := 1 + 8 * w_70.toInt.toNat) ?o119 ?o120 ?o121 ((hv_one_p2 (by rw [← ek_8]; exact eu_7.2) (by rw [← ek_8]; exact ⟨by omega, hr_42.2.2⟩) (by rw [← ek_8, show w_6.toInt.toNat + 1 = x_47.toInt.toNat by omega]; exact k1_63E) (by rw [← ek_71]; exact fun z => hr_76.2 ⟨by omega, z.2⟩)).trans (by rw [← ek_71])))⟩, hT, hM⟩ dX6_readOne_122
          case o118 => omega
          case o119 => omega
          case o120 => omega
          case o121 => omega
      · skip
        refine lv_iconst (v := 0) hx hb dX6_readOne_98 ?o122 ?_
        case o122 => decide
        refine hx_retz hx hb hr rfl hlk hW ⟨⟨w_57, w_58, w_59, w_60, w_61, fw_57, fw_58, fw_59, fw_60, fw_61, (hv_K_f (x := w_58.toInt.toNat) ?o123 (by have h8 := (hv_K_0 hr_56 (by omega)).1; omega) (by have h8 := (hv_K_0 hr_56 (by omega)).1; omega) (hv_one_p0 (by rw [← ek_8]; exact eu_7.2) (by rw [← ek_8]; exact ⟨by omega, hr_42.2.2⟩) (by rw [← ek_8, show w_6.toInt.toNat + 1 = x_47.toInt.toNat by omega]; exact (hv_K_0 hr_56 (by omega)).2)))⟩, hT, hM⟩ dX6_readOne_99
        case o123 => decide
    · skip
      replace hr_42 : r_40.toInt = 0 ∧ ¬ (w_6.toInt < ln0.toInt ∧ (tf w_6.toInt.toNat).toInt = 40) := ?o124
      case o124 =>
        have z8 : (40 : Int32).toInt = 40 := ?o125
        case o125 => decide
        rcases hr_42 with z | z
        (exfalso; omega)
        refine ⟨z.1, fun z9 => z.2 ⟨?o126, ?o127⟩⟩
        case o126 => omega
        case o127 => omega
      refine lv_aload_n hx hb dX6_readOne_20 rfl (lv_at hl 1 rfl) ?_
      refine hx_goi (hx_runVX (As := []) (rest := []) ⟨hx, hb, hml, hown, hts⟩ hW (gx.S hM) tt_6 (T := TX6) (N := 7) rfl (t_X6_readTerm_v l dC dI dA L_38 h_39 H.size b0 x hT (gx.S hM) qt (gqt.S hM) ((hM.o gx trivial rfl).2.trans f_x_0) qi (gqi.S hM) ((hM.o gx trivial rfl).2.trans f_x_6) qp (gqp.S hM) ((hM.o gqi trivial rfl).2.trans f_qi_3) tf (hx_afS hM gqt rfl af_qt) pf af_qp w_6 fw_6 ln0 ((hM.o gx trivial rfl).1.trans f_x_1) ft0 f_x_3 tm0 f_x_5 pl0 f_qi_4 o hO (by omega) (by omega) (by omega) ⟨by omega, by omega⟩) hZ (cwV 0 hts (hx_gV kw_573 kw_570 kw_572 kw_16 kw_95) rfl rfl rfl (by decide +kernel) ⟨(by first | omega | (dsimp only; omega)), (by first | omega | (dsimp only; omega))⟩) rfl hl.1 rfl (Nat.le_of_ble_eq_true rfl) dX6_readOne_21 ⟨Nat.le_of_ble_eq_true rfl, Nat.le_of_ble_eq_true rfl⟩) hW (fun r_90 L_88 h_89 H locs p_91 hW => ?_)
      obtain ⟨⟨w_93, w_94, w_95, w_96, w_97, fw_93, fw_94, fw_95, fw_96, fw_97, hr_92⟩, hT, hs⟩ := p_91
      replace hT : hx_T T_tb L_88 h_89 := hT
      replace hs : hx_S T_tb [(6, 2), (6, 3), (6, 5), (128, 0), (129, 4)] L_38 h_39 L_88 h_89 := hs
      replace hM := hM.tr (hs.mono ?o128)
      case o128 => decide
      have fw_93 : h_89.2.1 x 2 = w_93 := fw_93
      have bw_93 := hT.gi (gx.S hM) tt_6 (k := 2) rfl
      rw [fw_93] at bw_93
      have bw_93 : 0 ≤ w_93.toInt ∧ w_93.toInt ≤ 402 := bw_93
      have fw_94 : h_89.2.1 x 3 = w_94 := fw_94
      have bw_94 := hT.gi (gx.S hM) tt_6 (k := 3) rfl
      rw [fw_94] at bw_94
      have bw_94 : -2147483648 ≤ w_94.toInt ∧ w_94.toInt ≤ 2147483647 := bw_94
      have fw_95 : h_89.2.1 x 5 = w_95 := fw_95
      have bw_95 := hT.gi (gx.S hM) tt_6 (k := 5) rfl
      rw [fw_95] at bw_95
      have bw_95 : -2147483648 ≤ w_95.toInt ∧ w_95.toInt ≤ 2147483647 := bw_95
      have fw_96 : h_89.2.1 qi 4 = w_96 := fw_96
      have bw_96 := hT.gi (gqi.S hM) tt_129 (k := 4) rfl
      rw [fw_96] at bw_96
      have bw_96 : 0 ≤ w_96.toInt ∧ w_96.toInt ≤ 160 := bw_96
      have fw_97 : h_89.2.1 qp = w_97 := fw_97
      have hr_92b := hv_K_b hr_92
      refine hx_retz hx hb hr (hx_nar01 ?o129) hlk hW ⟨⟨w_93, w_94, w_95, w_96, w_97, fw_93, fw_94, fw_95, fw_96, fw_97, (hv_K_c hr_92 ((hv_one_t (by rw [← ek_8]; exact eu_7.2) (by rw [← ek_8]; exact fun z => hr_42.2 ⟨by omega, z.2⟩)).trans (by rw [sid, ← ek_8])))⟩, hT, hM⟩ dX6_readOne_24
      case o129 => omega

theorem hv_MO_8 : hv_MO (8 : Int32) 0 7 158 := t_X6_readOne_v8
theorem hv_ME_8 : hv_ME (8 : Int32) 0 8 180 := t_X6_readEither_g 8 0 7 158 (by decide) (by decide) hv_MO_8
theorem hv_MO_7 : hv_MO (7 : Int32) 1 9 204 := t_X6_readOne_g 7 (by decide) 0 7 158 8 180 (by decide) (by decide) (by decide) (by decide) (fun i2 h => by obtain rfl : i2 = 8 := Int32.toInt_inj.mp (h.trans (by decide)); exact hv_MO_8) (fun i2 h => by obtain rfl : i2 = 8 := Int32.toInt_inj.mp (h.trans (by decide)); exact hv_ME_8)
theorem hv_ME_7 : hv_ME (7 : Int32) 1 10 226 := t_X6_readEither_g 7 1 9 204 (by decide) (by decide) hv_MO_7
theorem hv_MO_6 : hv_MO (6 : Int32) 2 11 250 := t_X6_readOne_g 6 (by decide) 1 9 204 10 226 (by decide) (by decide) (by decide) (by decide) (fun i2 h => by obtain rfl : i2 = 7 := Int32.toInt_inj.mp (h.trans (by decide)); exact hv_MO_7) (fun i2 h => by obtain rfl : i2 = 7 := Int32.toInt_inj.mp (h.trans (by decide)); exact hv_ME_7)
theorem hv_ME_6 : hv_ME (6 : Int32) 2 12 272 := t_X6_readEither_g 6 2 11 250 (by decide) (by decide) hv_MO_6
theorem hv_MO_5 : hv_MO (5 : Int32) 3 13 296 := t_X6_readOne_g 5 (by decide) 2 11 250 12 272 (by decide) (by decide) (by decide) (by decide) (fun i2 h => by obtain rfl : i2 = 6 := Int32.toInt_inj.mp (h.trans (by decide)); exact hv_MO_6) (fun i2 h => by obtain rfl : i2 = 6 := Int32.toInt_inj.mp (h.trans (by decide)); exact hv_ME_6)
theorem hv_ME_5 : hv_ME (5 : Int32) 3 14 318 := t_X6_readEither_g 5 3 13 296 (by decide) (by decide) hv_MO_5
theorem hv_MO_4 : hv_MO (4 : Int32) 4 15 342 := t_X6_readOne_g 4 (by decide) 3 13 296 14 318 (by decide) (by decide) (by decide) (by decide) (fun i2 h => by obtain rfl : i2 = 5 := Int32.toInt_inj.mp (h.trans (by decide)); exact hv_MO_5) (fun i2 h => by obtain rfl : i2 = 5 := Int32.toInt_inj.mp (h.trans (by decide)); exact hv_ME_5)
theorem hv_ME_4 : hv_ME (4 : Int32) 4 16 364 := t_X6_readEither_g 4 4 15 342 (by decide) (by decide) hv_MO_4
theorem hv_MO_3 : hv_MO (3 : Int32) 5 17 388 := t_X6_readOne_g 3 (by decide) 4 15 342 16 364 (by decide) (by decide) (by decide) (by decide) (fun i2 h => by obtain rfl : i2 = 4 := Int32.toInt_inj.mp (h.trans (by decide)); exact hv_MO_4) (fun i2 h => by obtain rfl : i2 = 4 := Int32.toInt_inj.mp (h.trans (by decide)); exact hv_ME_4)
theorem hv_ME_3 : hv_ME (3 : Int32) 5 18 410 := t_X6_readEither_g 3 5 17 388 (by decide) (by decide) hv_MO_3
theorem hv_MO_2 : hv_MO (2 : Int32) 6 19 434 := t_X6_readOne_g 2 (by decide) 5 17 388 18 410 (by decide) (by decide) (by decide) (by decide) (fun i2 h => by obtain rfl : i2 = 3 := Int32.toInt_inj.mp (h.trans (by decide)); exact hv_MO_3) (fun i2 h => by obtain rfl : i2 = 3 := Int32.toInt_inj.mp (h.trans (by decide)); exact hv_ME_3)
theorem hv_ME_2 : hv_ME (2 : Int32) 6 20 456 := t_X6_readEither_g 2 6 19 434 (by decide) (by decide) hv_MO_2
theorem hv_MO_1 : hv_MO (1 : Int32) 7 21 480 := t_X6_readOne_g 1 (by decide) 6 19 434 20 456 (by decide) (by decide) (by decide) (by decide) (fun i2 h => by obtain rfl : i2 = 2 := Int32.toInt_inj.mp (h.trans (by decide)); exact hv_MO_2) (fun i2 h => by obtain rfl : i2 = 2 := Int32.toInt_inj.mp (h.trans (by decide)); exact hv_ME_2)
theorem hv_ME_1 : hv_ME (1 : Int32) 7 22 502 := t_X6_readEither_g 1 7 21 480 (by decide) (by decide) hv_MO_1
theorem hv_MO_0 : hv_MO (0 : Int32) 8 23 526 := t_X6_readOne_g 0 (by decide) 7 21 480 22 502 (by decide) (by decide) (by decide) (by decide) (fun i2 h => by obtain rfl : i2 = 1 := Int32.toInt_inj.mp (h.trans (by decide)); exact hv_MO_1) (fun i2 h => by obtain rfl : i2 = 1 := Int32.toInt_inj.mp (h.trans (by decide)); exact hv_ME_1)
theorem hv_ME_0 : hv_ME (0 : Int32) 8 24 548 := t_X6_readEither_g 0 8 23 526 (by decide) (by decide) hv_MO_0
theorem t_X6_readEither_v0 : hv_ME (0 : Int32) 8 24 548 := hv_ME_0
end
