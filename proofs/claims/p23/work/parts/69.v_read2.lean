
set_option maxHeartbeats 4000000 in
set_option maxRecDepth 100000 in
theorem t_X6_refuse_v (l : Launch) (dC : Nat → ClassId) (dI : Nat → Nat → Nat) (dA : Nat → ClassId) (L : List Nat) (h : hx_h) (sz : Nat) (x : Nat) (i1 : Int32) (i2 : Int32) (hT : hx_T T_tb L h) (gx : hx_g L h x 6) (hi1 : 0 ≤ i1.toInt ∧ i1.toInt ≤ 402) (hi2 : 0 ≤ i2.toInt ∧ i2.toInt ≤ 4) : Met l yX6_refuse (Cond.code yX6_refuse cX6_refuse 3 (some .boolean) :: hx_all) ({ frames := 0, cells := 0, slots := 0, locals := 0 }) (va_Pc [.ref x, .int i1, .int i2] (hx_B T_tb (P_ty dA) (dC, dI) vwCl L h sz)) (va_Qi (fun (r : Int32) (u : List Nat × hx_h) => (∃ (ft1 : Int32), u.2.2.1 x 3 = ft1 ∧ (r.toInt = 0 ∧ ft1.toInt = 1 + 8 * i1.toInt + i2.toInt)) ∧ hx_T T_tb u.1 u.2 ∧ hx_S T_tb [(6, 3)] L h u.1 u.2) (hx_E T_tb (P_ty dA) (dC, dI) vwCl (hx_A L sz)) (hx_A L sz)) 0 0 (hx_A L sz) := by
  refine hx_met (lv := [(0, .ref x), (1, .int i1), (2, .int i2)]) (by decide +kernel) rfl (Nat.le_of_ble_eq_true rfl) rfl ?_
  intro p e s m below meth c hx hb hml hr hlk hts0 hown hin hsz hW ls hl
  have hts : ∀ w ∈ hx_all, w.before _ s = true := fun w hw => hts0 w (List.mem_cons_of_mem _ hw)
  have hown : s.vm.findClass "SmallCourt$Reader" = some m.cls := hown
  have hM : hx_S T_tb [(6, 3)] L h L h := hx_S.rf
  refine lv_aload_n hx hb dX6_refuse_0 rfl (lv_at hl 0 rfl) ?_
  refine lv_iconst (v := 1) hx hb dX6_refuse_1 (by decide) ?_
  refine lv_bipush (v := 8) hx hb dX6_refuse_2 (by decide) ?_
  refine lv_iload_n hx hb dX6_refuse_4 rfl (lv_at hl 1 rfl) ?_
  refine lv_imul hx hb dX6_refuse_5 ?_
  refine lv_topi (fun x_1 ex_1 => ?_)
  have zx_1 : x_1.toInt = 8 * i1.toInt := by rw [ex_1]; exact i32_mul (by decide) rfl rfl (by omega) (by omega)
  refine lv_iadd hx hb dX6_refuse_6 ?_
  have rg_2 := i32_r x_1
  refine lv_topi (fun x_3 ex_3 => ?_)
  have zx_3 : x_3.toInt = 1 + x_1.toInt := by rw [ex_3]; exact i32_add (by decide) rfl (by omega) (by omega)
  refine lv_iload_n hx hb dX6_refuse_7 rfl (lv_at hl 2 rfl) ?_
  refine lv_iadd hx hb dX6_refuse_8 ?_
  have rg_4 := i32_r x_3
  have rg_5 := i32_r i2
  refine lv_topi (fun x_6 ex_6 => ?_)
  have zx_6 : x_6.toInt = x_3.toInt + i2.toInt := by rw [ex_6]; exact i32_add rfl rfl (by omega) (by omega)
  refine hx_puti hx hb hts hC_6 hown hW hT (hx_S.rf (M := [(6, 3)])) (gx.S hM) tt_6 3 (by decide) rfl kw_128 ⟨rfl, rfl, rfl⟩ rfl (x := x_6) (i32_r _) rfl rfl rfl (List.mem_singleton.mpr rfl) dX6_refuse_9 (fun H locs h_7 eh_7 hW hT hs => ?_)
  replace hM := hM.tr (hs.mono (by decide))
  have f_8 : h_7.2.1 x 3 = x_6 := by rw [eh_7]; exact hx_pi_at _ _ _ _
  refine lv_iconst (v := 0) hx hb dX6_refuse_12 (by decide) ?_
  exact hx_retz hx hb hr rfl hlk hW ⟨⟨x_6, f_8, ⟨by decide, by omega⟩⟩, hT, hM⟩ dX6_refuse_13


set_option maxHeartbeats 4000000 in
set_option maxRecDepth 100000 in
theorem t_X0_addProof_v (l : Launch) (dC : Nat → ClassId) (dI : Nat → Nat → Nat) (dA : Nat → ClassId) (L : List Nat) (h : hx_h) (sz : Nat) (x : Nat) (i1 : Int32) (hT : hx_T T_tb L h) (gx : hx_g L h x 129) (qp : Nat) (gqp : hx_g L h qp 128) (f_x_3 : h.2.2 x 3 = some qp) (pf : Nat → Int32) (af_qp : h.2.1 qp = pf) (pl0 : Int32) (f_x_4 : h.2.1 x 4 = pl0) (hpl : pl0.toInt < 160) : Met l yX0_addProof (Cond.code yX0_addProof cX0_addProof 2 none :: hx_all) ({ frames := 0, cells := 0, slots := 0, locals := 0 }) (va_Pc [.ref x, .int i1] (hx_B T_tb (P_ty dA) (dC, dI) vwCl L h sz)) (va_Qv (fun (u : List Nat × hx_h) => (∃ (pl1 : Int32) (pf1 : Nat → Int32), u.2.2.1 x 4 = pl1 ∧ u.2.2.1 qp = pf1 ∧ (pl1.toInt = pl0.toInt + 1 ∧ pf1 = hx_up pf pl0.toInt.toNat i1)) ∧ hx_T T_tb u.1 u.2 ∧ hx_S T_tb [(128, 0), (129, 4)] L h u.1 u.2) (hx_E T_tb (P_ty dA) (dC, dI) vwCl (hx_A L sz)) (hx_A L sz)) 0 0 (hx_A L sz) := by
  refine hx_met (lv := [(0, .ref x), (1, .int i1)]) (by decide +kernel) rfl (Nat.le_of_ble_eq_true rfl) rfl ?_
  intro p e s m below meth c hx hb hml hr hlk hts0 hown hin hsz hW ls hl
  have hts : ∀ w ∈ hx_all, w.before _ s = true := fun w hw => hts0 w (List.mem_cons_of_mem _ hw)
  have hown : s.vm.findClass "SmallCourt$Act" = some m.cls := hown
  have hM : hx_S T_tb [(128, 0), (129, 4)] L h L h := hx_S.rf
  have b_pl0 := hT.gi gx tt_129 (k := 4) rfl
  rw [f_x_4] at b_pl0
  have b_pl0 : 0 ≤ pl0.toInt ∧ pl0.toInt ≤ 160 := b_pl0
  refine lv_aload_n hx hb dX0_addProof_0 rfl (lv_at hl 0 rfl) ?_
  refine hk_geti hx hb hts hC_0 hown hW (gx.S hM) tt_129 4 (by decide) rfl kw_173 ⟨rfl, rfl, rfl⟩ f_x_4 dX0_addProof_1 ?_
  refine lv_sipush (v := 160) hx hb dX0_addProof_4 (by decide) ?_
  refine hb_icmp_ge (zx := pl0.toInt) (zy := 160) (tgt := 30) hx hb rfl (by decide) dX0_addProof_7 (by decide) (fun c_1 => ?_) (fun c_1 => ?_)
  · skip
    exact hx_retv hx hb hr hlk hW ⟨⟨pl0, pf, f_x_4, af_qp, (by exfalso; omega)⟩, hT, hM⟩ dX0_addProof_30
  · skip
    refine lv_aload_n hx hb dX0_addProof_10 rfl (lv_at hl 0 rfl) ?_
    refine hk_getr hx hb hts hC_0 hown hW (gx.S hM) tt_129 3 (by decide) rfl kw_172 ⟨rfl, rfl, rfl⟩ ((hM.o gx trivial rfl).2.trans f_x_3) dX0_addProof_11 ?_
    refine lv_aload_n hx hb dX0_addProof_14 rfl (lv_at hl 0 rfl) ?_
    refine hk_geti hx hb hts hC_0 hown hW (gx.S hM) tt_129 4 (by decide) rfl kw_173 ⟨rfl, rfl, rfl⟩ f_x_4 dX0_addProof_15 ?_
    refine lv_iload_n hx hb dX0_addProof_18 rfl (lv_at hl 1 rfl) ?_
    have af_qpO := af_qp
    refine hx_iast hx hb hW hT (hx_S.rf (M := [(128, 0)])) (gqp.S hM) tt_128 rfl ⟨by omega, by omega⟩ rfl (i32_r _) (List.mem_singleton.mpr rfl) dX0_addProof_19 (fun H locs h_2 eh_2 hW hT hs => ?_)
    replace f_x_4 := (hs.o (gx.S hM) trivial rfl).1.trans f_x_4
    replace hM := hM.tr (hs.mono (by decide))
    obtain ⟨fa_3, dfa_3⟩ : ∃ g : Nat → Int32, g = hx_up pf pl0.toNatClampNeg i1 := ⟨_, rfl⟩
    have nfa_3 : h_2.2.1 qp = fa_3 := by rw [eh_2, dfa_3, ← af_qpO]; exact hx_pi_fun _ _ _ _
    refine lv_aload_n hx hb dX0_addProof_20 rfl (lv_at hl 0 rfl) ?_
    refine lv_dup hx hb dX0_addProof_21 rfl ?_
    refine hk_geti hx hb hts hC_0 hown hW (gx.S hM) tt_129 4 (by decide) rfl kw_173 ⟨rfl, rfl, rfl⟩ f_x_4 dX0_addProof_22 ?_
    refine lv_iconst (v := 1) hx hb dX0_addProof_25 (by decide) ?_
    refine lv_iadd hx hb dX0_addProof_26 ?_
    have rg_4 := i32_r pl0
    refine lv_topi (fun x_5 ex_5 => ?_)
    have zx_5 : x_5.toInt = pl0.toInt + 1 := by rw [ex_5]; exact i32_add rfl (by decide) (by omega) (by omega)
    refine hx_puti hx hb hts hC_0 hown hW hT (hx_S.rf (M := [(129, 4)])) (gx.S hM) tt_129 4 (by decide) rfl kw_173 ⟨rfl, rfl, rfl⟩ rfl (x := x_5) ⟨by omega, by omega⟩ rfl rfl rfl (List.mem_singleton.mpr rfl) dX0_addProof_27 (fun H locs h_6 eh_6 hW hT hs => ?_)
    replace nfa_3 : h_6.2.1 qp = fa_3 := (funext fun j => (hs.a (gqp.S hM) rfl j).1).trans nfa_3
    replace hM := hM.tr (hs.mono (by decide))
    have f_7 : h_6.2.1 x 4 = x_5 := by rw [eh_6]; exact hx_pi_at _ _ _ _
    exact hx_retv hx hb hr hlk hW ⟨⟨x_5, fa_3, f_7, nfa_3, ⟨by omega, dfa_3⟩⟩, hT, hM⟩ dX0_addProof_30


set_option maxHeartbeats 4000000 in
set_option maxRecDepth 100000 in
theorem t_X0_term_v (l : Launch) (dC : Nat → ClassId) (dI : Nat → Nat → Nat) (dA : Nat → ClassId) (L : List Nat) (h : hx_h) (sz : Nat) (i1 : Int32) (i2 : Int32) (i3 : Int32) (i4 : Int32) (hT : hx_T T_tb L h)  (hi1 : 0 ≤ i1.toInt ∧ i1.toInt ≤ 7) (hi2 : 0 ≤ i2.toInt ∧ i2.toInt ≤ 7) (hi3 : 0 ≤ i3.toInt ∧ i3.toInt ≤ 1) (hi4 : 0 ≤ i4.toInt ∧ i4.toInt ≤ 9999) : Met l yX0_term (Cond.code yX0_term cX0_term 4 (some .int) :: hx_all) ({ frames := 0, cells := 0, slots := 0, locals := 0 }) (va_Pc [.int i1, .int i2, .int i3, .int i4] (hx_B T_tb (P_ty dA) (dC, dI) vwCl L h sz)) (va_Qi (fun (r : Int32) (u : List Nat × hx_h) => (r.toInt = i1.toInt + 8 * i2.toInt + 64 * i3.toInt + 128 * i4.toInt) ∧ hx_T T_tb u.1 u.2 ∧ hx_S T_tb [] L h u.1 u.2) (hx_E T_tb (P_ty dA) (dC, dI) vwCl (hx_A L sz)) (hx_A L sz)) 0 0 (hx_A L sz) := by
  refine hx_met (lv := [(0, .int i1), (1, .int i2), (2, .int i3), (3, .int i4)]) (by decide +kernel) rfl (Nat.le_of_ble_eq_true rfl) rfl ?_
  intro p e s m below meth c hx hb hml hr hlk hts0 hown hin hsz hW ls hl
  have hts : ∀ w ∈ hx_all, w.before _ s = true := fun w hw => hts0 w (List.mem_cons_of_mem _ hw)
  have hown : s.vm.findClass "SmallCourt$Act" = some m.cls := hown
  have hM : hx_S T_tb [] L h L h := hx_S.rf
  refine lv_iload_n hx hb dX0_term_0 rfl (lv_at hl 0 rfl) ?_
  refine lv_iload_n hx hb dX0_term_1 rfl (lv_at hl 1 rfl) ?_
  refine lv_iconst (v := 3) hx hb dX0_term_2 (by decide) ?_
  refine lv_ishl hx hb dX0_term_3 ?_
  refine lv_topi (fun x_1 ex_1 => ?_)
  refine lv_ior hx hb dX0_term_4 ?_
  refine lv_topi (fun x_2 ex_2 => ?_)
  refine lv_iload_n hx hb dX0_term_5 rfl (lv_at hl 2 rfl) ?_
  refine hb_if_eq (zx := i3.toInt) (tgt := 13) hx hb rfl dX0_term_6 (by decide) (fun c_3 => ?_) (fun c_3 => ?_)
  · skip
    refine lv_iconst (v := 0) hx hb dX0_term_13 (by decide) ?_
    refine lv_bipush (v := 6) hx hb dX0_term_14 (by decide) ?_
    refine lv_ishl hx hb dX0_term_16 ?_
    refine lv_topi (fun x_4 ex_4 => ?_)
    obtain rfl : x_4 = (0 : Int32) := ex_4.trans (by decide)
    refine lv_ior hx hb dX0_term_17 ?_
    refine lv_topi (fun x_5 ex_5 => ?_)
    refine lv_iload_n hx hb dX0_term_18 rfl (lv_at hl 3 rfl) ?_
    refine lv_bipush (v := 7) hx hb dX0_term_19 (by decide) ?_
    refine lv_ishl hx hb dX0_term_21 ?_
    refine lv_topi (fun x_6 ex_6 => ?_)
    refine lv_ior hx hb dX0_term_22 ?_
    refine lv_topi (fun x_7 ex_7 => ?_)
    exact hx_reti hx hb hr hlk hW ⟨(by have h9 := hv_tm (a := i1) (b := i2) (d := i4) (c := (0 : Int32)) 0 (by decide) (by decide) hi1 hi2 hi4 ex_1 ex_2 ex_5 ex_6 ex_7; omega), hT, hM⟩ dX0_term_23
  · skip
    refine lv_iconst (v := 1) hx hb dX0_term_9 (by decide) ?_
    refine lv_goto (tgt := 14) hx hb dX0_term_10 (by decide) ?_
    refine lv_bipush (v := 6) hx hb dX0_term_14 (by decide) ?_
    refine lv_ishl hx hb dX0_term_16 ?_
    refine lv_topi (fun x_8 ex_8 => ?_)
    obtain rfl : x_8 = (64 : Int32) := ex_8.trans (by decide)
    refine lv_ior hx hb dX0_term_17 ?_
    refine lv_topi (fun x_9 ex_9 => ?_)
    refine lv_iload_n hx hb dX0_term_18 rfl (lv_at hl 3 rfl) ?_
    refine lv_bipush (v := 7) hx hb dX0_term_19 (by decide) ?_
    refine lv_ishl hx hb dX0_term_21 ?_
    refine lv_topi (fun x_10 ex_10 => ?_)
    refine lv_ior hx hb dX0_term_22 ?_
    refine lv_topi (fun x_11 ex_11 => ?_)
    exact hx_reti hx hb hr hlk hW ⟨(by have h9 := hv_tm (a := i1) (b := i2) (d := i4) (c := (64 : Int32)) 1 (by decide) (by decide) hi1 hi2 hi4 ex_1 ex_2 ex_9 ex_10 ex_11; omega), hT, hM⟩ dX0_term_23


set_option maxHeartbeats 4000000 in
set_option maxRecDepth 100000 in
theorem t_X6_readTerm_v (l : Launch) (dC : Nat → ClassId) (dI : Nat → Nat → Nat) (dA : Nat → ClassId) (L : List Nat) (h : hx_h) (sz : Nat) (b0 : hx_z) (x : Nat) (hT : hx_T T_tb L h) (gx : hx_g L h x 6) (qt : Nat) (gqt : hx_g L h qt 42) (f_x_0 : h.2.2 x 0 = some qt) (qi : Nat) (gqi : hx_g L h qi 129) (f_x_6 : h.2.2 x 6 = some qi) (qp : Nat) (gqp : hx_g L h qp 128) (f_qi_3 : h.2.2 qi 3 = some qp) (tf : Nat → Int32) (af_qt : h.2.1 qt = tf) (pf : Nat → Int32) (af_qp : h.2.1 qp = pf) (at0 : Int32) (f_x_2 : h.2.1 x 2 = at0) (ln0 : Int32) (f_x_1 : h.2.1 x 1 = ln0) (ft0 : Int32) (f_x_3 : h.2.1 x 3 = ft0) (tm0 : Int32) (f_x_5 : h.2.1 x 5 = tm0) (pl0 : Int32) (f_qi_4 : h.2.1 qi 4 = pl0) (o : List hv_tok) (hO : hv_ls pf pl0.toInt.toNat = o.map hv_cc) (hF : ft0.toInt = 0) (hB : 3 * pl0.toInt ≤ at0.toInt + tm0.toInt) (hA : at0.toInt ≤ ln0.toInt) (hT0 : 0 ≤ tm0.toInt ∧ tm0.toInt ≤ 20) : Met l yX6_readTerm (Cond.code yX6_readTerm cX6_readTerm 6 (some .boolean) :: hx_all) ({ frames := 6, cells := 0, slots := 0, locals := 133 }) (va_Pc [.ref x] (hx_BX T_tb (P_ty dA) (dC, dI) vwCl L h sz b0)) (va_Qi (fun (r : Int32) (u : List Nat × hx_h) => (∃ (at1 : Int32) (ft1 : Int32) (tm1 : Int32) (pl1 : Int32) (pf1 : Nat → Int32), u.2.2.1 x 2 = at1 ∧ u.2.2.1 x 3 = ft1 ∧ u.2.2.1 x 5 = tm1 ∧ u.2.2.1 qi 4 = pl1 ∧ u.2.2.1 qp = pf1 ∧ (hv_K hv_cc (hv_term tf ln0.toInt.toNat (hv_sk tf ln0.toInt.toNat at0.toInt.toNat) tm0.toInt.toNat o) r.toInt ft1.toInt at1.toInt tm1.toInt (hv_ls pf1 pl1.toInt.toNat))) ∧ hx_T T_tb u.1 u.2 ∧ hx_S T_tb [(6, 2), (6, 3), (6, 5), (128, 0), (129, 4)] L h u.1 u.2) (hx_E T_tb (P_ty dA) (dC, dI) vwCl (hx_A L sz)) (hx_A L sz)) 0 0 (hx_A L sz) := by
  refine hx_metX (lv := [(0, .ref x)]) (by decide +kernel) rfl (Nat.le_of_ble_eq_true rfl) rfl ?_
  intro p e s m below meth c hx hb hml hr hlk hts0 hown hin hsz hW hZ ls hl
  have hts : ∀ w ∈ hx_all, w.before _ s = true := fun w hw => hts0 w (List.mem_cons_of_mem _ hw)
  have hown : s.vm.findClass "SmallCourt$Reader" = some m.cls := hown
  have hM : hx_S T_tb [(6, 2), (6, 3), (6, 5), (128, 0), (129, 4)] L h L h := hx_S.rf
  obtain ⟨zLT, zLA, zMT, zMA, zCS, zSF, zVS, zVR⟩ := hZ.2.2.2.2.2.2
  have b_at0 := hT.gi gx tt_6 (k := 2) rfl
  rw [f_x_2] at b_at0
  have b_at0 : 0 ≤ at0.toInt ∧ at0.toInt ≤ 402 := b_at0
  have b_ln0 := hT.gi gx tt_6 (k := 1) rfl
  rw [f_x_1] at b_ln0
  have b_ln0 : 0 ≤ ln0.toInt ∧ ln0.toInt ≤ 400 := b_ln0
  have b_ft0 := hT.gi gx tt_6 (k := 3) rfl
  rw [f_x_3] at b_ft0
  have b_ft0 : -2147483648 ≤ ft0.toInt ∧ ft0.toInt ≤ 2147483647 := b_ft0
  have b_tm0 := hT.gi gx tt_6 (k := 5) rfl
  rw [f_x_5] at b_tm0
  have b_tm0 : -2147483648 ≤ tm0.toInt ∧ tm0.toInt ≤ 2147483647 := b_tm0
  have b_pl0 := hT.gi gqi tt_129 (k := 4) rfl
  rw [f_qi_4] at b_pl0
  have b_pl0 : 0 ≤ pl0.toInt ∧ pl0.toInt ≤ 160 := b_pl0
  refine lv_aload_n hx hb dX6_readTerm_0 rfl (lv_at hl 0 rfl) ?_
  refine hx_gov (hx_runV (As := []) (rest := []) ⟨hx, hb, hml, hown, hts⟩ hW (gx.S hM) tt_6 (T := TX6) (N := 7) rfl (t_X6_skipBlanks_v l dC dI dA L h s.heap.size x hT (gx.S hM) qt (gqt.S hM) ((hM.o gx trivial rfl).2.trans f_x_0) tf (hx_afS hM gqt rfl af_qt) at0 f_x_2 ln0 ((hM.o gx trivial rfl).1.trans f_x_1) (by omega)) (cwV 0 hts (hx_gV kw_458 kw_455 kw_457 kw_1 kw_95) rfl rfl rfl (by decide +kernel) ⟨Nat.le_of_ble_eq_true rfl, Nat.le_of_ble_eq_true rfl⟩) rfl hl.1 rfl (Nat.le_of_ble_eq_true rfl) dX6_readTerm_1 ⟨Nat.le_of_ble_eq_true rfl, Nat.le_of_ble_eq_true rfl⟩) hW (fun L_1 h_2 H locs p_4 hW => ?_)
  obtain ⟨⟨w_6, fw_6, hr_5⟩, hT, hs⟩ := p_4
  replace hT : hx_T T_tb L_1 h_2 := hT
  replace hs : hx_S T_tb [(6, 2)] L h L_1 h_2 := hs
  replace f_x_3 := (hs.o (gx.S hM) trivial rfl).1.trans f_x_3
  replace f_x_5 := (hs.o (gx.S hM) trivial rfl).1.trans f_x_5
  replace f_qi_4 := (hs.o (gqi.S hM) trivial rfl).1.trans f_qi_4
  replace af_qp : h_2.2.1 qp = pf := (funext fun j => (hs.a (gqp.S hM) rfl j).1).trans af_qp
  replace hM := hM.tr (hs.mono (by decide))
  have fw_6 : h_2.2.1 x 2 = w_6 := fw_6
  have bw_6 := hT.gi (gx.S hM) tt_6 (k := 2) rfl
  rw [fw_6] at bw_6
  have bw_6 : 0 ≤ w_6.toInt ∧ w_6.toInt ≤ 402 := bw_6
  have ek_7 : w_6.toInt.toNat = hv_sk tf ln0.toInt.toNat at0.toInt.toNat := by omega
  refine lv_aload_n hx hb dX6_readTerm_4 rfl (lv_at hl 0 rfl) ?_
  refine hk_geti hx hb hts hC_6 hown hW (gx.S hM) tt_6 2 (by decide) rfl kw_127 ⟨rfl, rfl, rfl⟩ fw_6 dX6_readTerm_5 ?_
  refine lv_istore_n (lv' := [(1, .int w_6), (0, .ref x)]) hx hb dX6_readTerm_8 rfl hl (by decide) rfl (fun ls hl => ?_)
  refine lv_aload_n hx hb dX6_readTerm_9 rfl (lv_at hl 1 rfl) ?_
  refine va_ldcS (tx := P_st.getD 5 "") hx hb hown (zVR 5 (by decide)) dX6_readTerm_10 ?_
  refine hx_goi (hx_runVX (As := [.ref (b0.2.2.2.1 5)]) (rest := []) ⟨hx, hb, hml, hown, hts⟩ hW (gx.S hM) tt_6 (T := TX6) (N := 7) rfl (t_X6_readWord_v l dC dI dA L_1 h_2 H.size b0 x 5 hT (gx.S hM) (by decide) qt (gqt.S hM) ((hM.o gx trivial rfl).2.trans f_x_0) tf (hx_afS hM gqt rfl af_qt) w_6 fw_6 ln0 ((hM.o gx trivial rfl).1.trans f_x_1) (by omega)) hZ (cwV 1 hts (hx_gV kw_467 kw_464 kw_466 kw_3 kw_95) rfl rfl rfl (by decide +kernel) ⟨Nat.le_of_ble_eq_true rfl, Nat.le_of_ble_eq_true rfl⟩) rfl hl.1 rfl (Nat.le_of_ble_eq_true rfl) dX6_readTerm_12 ⟨Nat.le_of_ble_eq_true rfl, Nat.le_of_ble_eq_true rfl⟩) hW (fun r_10 L_8 h_9 H locs p_11 hW => ?_)
  obtain ⟨⟨w_13, fw_13, hr_12⟩, hT, hs⟩ := p_11
  replace hT : hx_T T_tb L_8 h_9 := hT
  replace hs : hx_S T_tb [(6, 2)] L_1 h_2 L_8 h_9 := hs
  replace f_x_3 := (hs.o (gx.S hM) trivial rfl).1.trans f_x_3
  replace f_x_5 := (hs.o (gx.S hM) trivial rfl).1.trans f_x_5
  replace f_qi_4 := (hs.o (gqi.S hM) trivial rfl).1.trans f_qi_4
  replace af_qp : h_9.2.1 qp = pf := (funext fun j => (hs.a (gqp.S hM) rfl j).1).trans af_qp
  replace hM := hM.tr (hs.mono (by decide))
  have fw_13 : h_9.2.1 x 2 = w_13 := fw_13
  have bw_13 := hT.gi (gx.S hM) tt_6 (k := 2) rfl
  rw [fw_13] at bw_13
  have bw_13 : 0 ≤ w_13.toInt ∧ w_13.toInt ≤ 402 := bw_13
  have eu_14 := hv_RW_5 hr_12.2.1
  refine lv_istore_n (lv' := [(2, .int r_10), (1, .int w_6), (0, .ref x)]) hx hb dX6_readTerm_15 rfl hl (by decide) rfl (fun ls hl => ?_)
  have sid : hv_sk tf ln0.toInt.toNat w_6.toInt.toNat = w_6.toInt.toNat := by rw [ek_7]; exact hv_sk_id
  have hrw := hr_12.1; rw [sid] at hrw eu_14
  refine lv_iload_n hx hb dX6_readTerm_16 rfl (lv_at hl 0 rfl) ?_
  refine hb_if_ge (zx := r_10.toInt) (tgt := 27) hx hb rfl dX6_readTerm_17 (by decide) (fun c_15 => ?_) (fun c_15 => ?_)
  · skip
    have hleft : 0 ≤ r_10.toInt ∧ r_10.toInt ≤ 7 ∧ hv_wd tf ln0.toInt.toNat w_6.toInt.toNat = 3 + r_10.toInt := by omega
    have ha1 : w_13.toInt.toNat = hv_we tf ln0.toInt.toNat w_6.toInt.toNat := by omega
    have hw3 := hv_wd_3 (T := tf) (n := ln0.toInt.toNat) (p := w_6.toInt.toNat) (by omega)
    refine lv_aload_n hx hb dX6_readTerm_27 rfl (lv_at hl 2 rfl) ?_
    refine hk_geti hx hb hts hC_6 hown hW (gx.S hM) tt_6 5 (by decide) rfl kw_130 ⟨rfl, rfl, rfl⟩ f_x_5 dX6_readTerm_28 ?_
    refine lv_bipush (v := 20) hx hb dX6_readTerm_31 (by decide) ?_
    refine hb_icmp_lt (zx := tm0.toInt) (zy := 20) (tgt := 43) hx hb rfl (by decide) dX6_readTerm_33 (by decide) (fun c_16 => ?_) (fun c_16 => ?_)
    · skip
      refine lv_aload_n hx hb dX6_readTerm_43 rfl (lv_at hl 2 rfl) ?_
      refine lv_dup hx hb dX6_readTerm_44 rfl ?_
      refine hk_geti hx hb hts hC_6 hown hW (gx.S hM) tt_6 5 (by decide) rfl kw_130 ⟨rfl, rfl, rfl⟩ f_x_5 dX6_readTerm_45 ?_
      refine lv_iconst (v := 1) hx hb dX6_readTerm_48 (by decide) ?_
      refine lv_iadd hx hb dX6_readTerm_49 ?_
      have rg_17 := i32_r tm0
      refine lv_topi (fun x_18 ex_18 => ?_)
      have zx_18 : x_18.toInt = tm0.toInt + 1 := by rw [ex_18]; exact i32_add rfl (by decide) (by omega) (by omega)
      refine hx_puti hx hb hts hC_6 hown hW hT (hx_S.rf (M := [(6, 5)])) (gx.S hM) tt_6 5 (by decide) rfl kw_130 ⟨rfl, rfl, rfl⟩ rfl (x := x_18) (i32_r _) rfl rfl rfl (List.mem_singleton.mpr rfl) dX6_readTerm_50 (fun H locs h_19 eh_19 hW hT hs => ?_)
      replace f_x_3 := (hs.o (gx.S hM) trivial rfl).1.trans f_x_3
      replace f_qi_4 := (hs.o (gqi.S hM) trivial rfl).1.trans f_qi_4
      replace fw_13 := (hs.o (gx.S hM) trivial rfl).1.trans fw_13
      replace af_qp : h_19.2.1 qp = pf := (funext fun j => (hs.a (gqp.S hM) rfl j).1).trans af_qp
      replace hM := hM.tr (hs.mono (by decide))
      have f_20 : h_19.2.1 x 5 = x_18 := by rw [eh_19]; exact hx_pi_at _ _ _ _
      refine lv_aload_n hx hb dX6_readTerm_53 rfl (lv_at hl 2 rfl) ?_
      refine hx_goi (hx_runV (As := []) (rest := []) ⟨hx, hb, hml, hown, hts⟩ hW (gx.S hM) tt_6 (T := TX6) (N := 7) rfl (t_X6_readSign_v l dC dI dA L_8 h_19 H.size x hT (gx.S hM) qt (gqt.S hM) ((hM.o gx trivial rfl).2.trans f_x_0) tf (hx_afS hM gqt rfl af_qt) w_13 fw_13 ln0 ((hM.o gx trivial rfl).1.trans f_x_1) (by omega)) (cwV 0 hts (hx_gV kw_578 kw_575 kw_577 kw_17 kw_95) rfl rfl rfl (by decide +kernel) ⟨Nat.le_of_ble_eq_true rfl, Nat.le_of_ble_eq_true rfl⟩) rfl hl.1 rfl (Nat.le_of_ble_eq_true rfl) dX6_readTerm_54 ⟨Nat.le_of_ble_eq_true rfl, Nat.le_of_ble_eq_true rfl⟩) hW (fun r_23 L_21 h_22 H locs p_24 hW => ?_)
      obtain ⟨⟨w_26, fw_26, hr_25⟩, hT, hs⟩ := p_24
      replace hT : hx_T T_tb L_21 h_22 := hT
      replace hs : hx_S T_tb [(6, 2)] L_8 h_19 L_21 h_22 := hs
      replace f_x_3 := (hs.o (gx.S hM) trivial rfl).1.trans f_x_3
      replace f_qi_4 := (hs.o (gqi.S hM) trivial rfl).1.trans f_qi_4
      replace f_20 := (hs.o (gx.S hM) trivial rfl).1.trans f_20
      replace af_qp : h_22.2.1 qp = pf := (funext fun j => (hs.a (gqp.S hM) rfl j).1).trans af_qp
      replace hM := hM.tr (hs.mono (by decide))
      have fw_26 : h_22.2.1 x 2 = w_26 := fw_26
      have bw_26 := hT.gi (gx.S hM) tt_6 (k := 2) rfl
      rw [fw_26] at bw_26
      have bw_26 : 0 ≤ w_26.toInt ∧ w_26.toInt ≤ 402 := bw_26
      refine lv_istore_n (lv' := [(3, .int r_23), (2, .int r_10), (1, .int w_6), (0, .ref x)]) hx hb dX6_readTerm_57 rfl hl (by decide) rfl (fun ls hl => ?_)
      have hsg := hr_25
      rw [ha1] at hsg
      have hsb := hv_sg_b (T := tf) (n := ln0.toInt.toNat) (hv_sk tf ln0.toInt.toNat (hv_we tf ln0.toInt.toNat w_6.toInt.toNat))
      have hsc := hv_scd_b (g := hv_sg tf ln0.toInt.toNat (hv_sk tf ln0.toInt.toNat (hv_we tf ln0.toInt.toNat w_6.toInt.toNat)))
      have hsk9 := hv_sk_ge (T := tf) (n := ln0.toInt.toNat) (p := hv_we tf ln0.toInt.toNat w_6.toInt.toNat)
      have hsl9 := hv_sk_le (T := tf) (n := ln0.toInt.toNat) (p := hv_we tf ln0.toInt.toNat w_6.toInt.toNat) (by omega)
      refine lv_iload_n hx hb dX6_readTerm_58 rfl (lv_at hl 0 rfl) ?_
      refine hb_if_ne (zx := r_23.toInt) (tgt := 72) hx hb rfl dX6_readTerm_59 (by decide) (fun c_27 => ?_) (fun c_27 => ?_)
      · skip
        refine lv_aload_n hx hb dX6_readTerm_72 rfl (lv_at hl 3 rfl) ?_
        refine hx_gov (hx_runV (As := []) (rest := []) ⟨hx, hb, hml, hown, hts⟩ hW (gx.S hM) tt_6 (T := TX6) (N := 7) rfl (t_X6_skipBlanks_v l dC dI dA L_21 h_22 H.size x hT (gx.S hM) qt (gqt.S hM) ((hM.o gx trivial rfl).2.trans f_x_0) tf (hx_afS hM gqt rfl af_qt) w_26 fw_26 ln0 ((hM.o gx trivial rfl).1.trans f_x_1) (by omega)) (cwV 0 hts (hx_gV kw_458 kw_455 kw_457 kw_1 kw_95) rfl rfl rfl (by decide +kernel) ⟨Nat.le_of_ble_eq_true rfl, Nat.le_of_ble_eq_true rfl⟩) rfl hl.1 rfl (Nat.le_of_ble_eq_true rfl) dX6_readTerm_73 ⟨Nat.le_of_ble_eq_true rfl, Nat.le_of_ble_eq_true rfl⟩) hW (fun L_28 h_29 H locs p_31 hW => ?_)
        obtain ⟨⟨w_33, fw_33, hr_32⟩, hT, hs⟩ := p_31
        replace hT : hx_T T_tb L_28 h_29 := hT
        replace hs : hx_S T_tb [(6, 2)] L_21 h_22 L_28 h_29 := hs
        replace f_x_3 := (hs.o (gx.S hM) trivial rfl).1.trans f_x_3
        replace f_qi_4 := (hs.o (gqi.S hM) trivial rfl).1.trans f_qi_4
        replace f_20 := (hs.o (gx.S hM) trivial rfl).1.trans f_20
        replace af_qp : h_29.2.1 qp = pf := (funext fun j => (hs.a (gqp.S hM) rfl j).1).trans af_qp
        replace hM := hM.tr (hs.mono (by decide))
        have fw_33 : h_29.2.1 x 2 = w_33 := fw_33
        have bw_33 := hT.gi (gx.S hM) tt_6 (k := 2) rfl
        rw [fw_33] at bw_33
        have bw_33 : 0 ≤ w_33.toInt ∧ w_33.toInt ≤ 402 := bw_33
        have ek_34 : w_33.toInt.toNat = hv_sk tf ln0.toInt.toNat w_26.toInt.toNat := by omega
        refine lv_aload_n hx hb dX6_readTerm_76 rfl (lv_at hl 3 rfl) ?_
        refine hk_geti hx hb hts hC_6 hown hW (gx.S hM) tt_6 2 (by decide) rfl kw_127 ⟨rfl, rfl, rfl⟩ fw_33 dX6_readTerm_77 ?_
        refine lv_istore_n (lv' := [(1, .int w_33), (3, .int r_23), (2, .int r_10), (0, .ref x)]) hx hb dX6_readTerm_80 rfl hl (by decide) rfl (fun ls hl => ?_)
        have hb9 : w_26.toInt.toNat = hv_sk tf ln0.toInt.toNat (hv_we tf ln0.toInt.toNat w_6.toInt.toNat) + (hv_sg tf ln0.toInt.toNat (hv_sk tf ln0.toInt.toNat (hv_we tf ln0.toInt.toNat w_6.toInt.toNat))).2 := by omega
        have ht9 := hv_term_o (T := tf) (n := ln0.toInt.toNat) (p := w_6.toInt.toNat) (t := tm0.toInt.toNat) (o := o) (u := w_33.toInt.toNat) (by omega) (by omega) (by omega) (by rw [ek_34, hb9])
        have uid : hv_sk tf ln0.toInt.toNat w_33.toInt.toNat = w_33.toInt.toNat := by rw [ek_34]; exact hv_sk_id
        refine lv_aload_n hx hb dX6_readTerm_81 rfl (lv_at hl 3 rfl) ?_
        refine lv_aload_n hx hb dX6_readTerm_82 rfl (lv_at hl 3 rfl) ?_
        refine hk_geti hx hb hts hC_6 hown hW (gx.S hM) tt_6 2 (by decide) rfl kw_127 ⟨rfl, rfl, rfl⟩ fw_33 dX6_readTerm_83 ?_
        refine hx_goi (hx_runV (As := [.int w_33]) (rest := []) ⟨hx, hb, hml, hown, hts⟩ hW (gx.S hM) tt_6 (T := TX6) (N := 7) rfl (t_X6_isDigit_v l dC dI dA L_28 h_29 H.size x w_33 hT (gx.S hM) qt (gqt.S hM) ((hM.o gx trivial rfl).2.trans f_x_0) tf (hx_afS hM gqt rfl af_qt) ln0 ((hM.o gx trivial rfl).1.trans f_x_1) (by omega)) (cwV 1 hts (hx_gV kw_544 kw_541 kw_543 kw_10 kw_95) rfl rfl rfl (by decide +kernel) ⟨Nat.le_of_ble_eq_true rfl, Nat.le_of_ble_eq_true rfl⟩) rfl hl.1 rfl (Nat.le_of_ble_eq_true rfl) dX6_readTerm_86 ⟨Nat.le_of_ble_eq_true rfl, Nat.le_of_ble_eq_true rfl⟩) hW (fun r_37 L_35 h_36 H locs p_38 hW => ?_)
        obtain ⟨hr_39, hT, hs⟩ := p_38
        replace hT : hx_T T_tb L_35 h_36 := hT
        replace hs : hx_S T_tb [] L_28 h_29 L_35 h_36 := hs
        replace f_x_3 := (hs.o (gx.S hM) trivial rfl).1.trans f_x_3
        replace f_qi_4 := (hs.o (gqi.S hM) trivial rfl).1.trans f_qi_4
        replace f_20 := (hs.o (gx.S hM) trivial rfl).1.trans f_20
        replace fw_33 := (hs.o (gx.S hM) trivial rfl).1.trans fw_33
        replace af_qp : h_36.2.1 qp = pf := (funext fun j => (hs.a (gqp.S hM) rfl j).1).trans af_qp
        replace hM := hM.tr (hs.mono (by decide))
        refine hb_if_ne (zx := r_37.toInt) (tgt := 96) hx hb rfl dX6_readTerm_89 (by decide) (fun c_40 => ?_) (fun c_40 => ?_)
        · skip
          refine lv_iconst (v := 0) hx hb dX6_readTerm_96 (by decide) ?_
          refine lv_istore (lv' := [(4, .int (0 : Int32)), (1, .int w_33), (3, .int r_23), (2, .int r_10), (0, .ref x)]) hx hb dX6_readTerm_97 hl (by decide) rfl (fun ls hl => ?_)
          refine lv_iload hx hb dX6_readTerm_99 (lv_at hl 0 rfl) ?_
          refine hb_if_eq (zx := 0) (tgt := 113) hx hb (by decide) dX6_readTerm_101 (by decide) (fun c_41 => ?_) (fun c_41 => absurd c_41 (by decide))
          refine lv_aload_n hx hb dX6_readTerm_113 rfl (lv_at hl 4 rfl) ?_
          refine hx_goi (hx_runV (As := []) (rest := []) ⟨hx, hb, hml, hown, hts⟩ hW (gx.S hM) tt_6 (T := TX6) (N := 7) rfl (t_X6_readNumber_v l dC dI dA L_35 h_36 H.size x hT (gx.S hM) qt (gqt.S hM) ((hM.o gx trivial rfl).2.trans f_x_0) tf (hx_afS hM gqt rfl af_qt) w_33 fw_33 ln0 ((hM.o gx trivial rfl).1.trans f_x_1) (by omega)) (cwV 0 hts (hx_gV kw_548 kw_545 kw_547 kw_11 kw_95) rfl rfl rfl (by decide +kernel) ⟨Nat.le_of_ble_eq_true rfl, Nat.le_of_ble_eq_true rfl⟩) rfl hl.1 rfl (Nat.le_of_ble_eq_true rfl) dX6_readTerm_114 ⟨Nat.le_of_ble_eq_true rfl, Nat.le_of_ble_eq_true rfl⟩) hW (fun r_44 L_42 h_43 H locs p_45 hW => ?_)
          obtain ⟨⟨w_47, fw_47, hr_46⟩, hT, hs⟩ := p_45
          replace hT : hx_T T_tb L_42 h_43 := hT
          replace hs : hx_S T_tb [(6, 2)] L_35 h_36 L_42 h_43 := hs
          replace f_x_3 := (hs.o (gx.S hM) trivial rfl).1.trans f_x_3
          replace f_qi_4 := (hs.o (gqi.S hM) trivial rfl).1.trans f_qi_4
          replace f_20 := (hs.o (gx.S hM) trivial rfl).1.trans f_20
          replace af_qp : h_43.2.1 qp = pf := (funext fun j => (hs.a (gqp.S hM) rfl j).1).trans af_qp
          replace hM := hM.tr (hs.mono (by decide))
          have fw_47 : h_43.2.1 x 2 = w_47 := fw_47
          have bw_47 := hT.gi (gx.S hM) tt_6 (k := 2) rfl
          rw [fw_47] at bw_47
          have bw_47 : 0 ≤ w_47.toInt ∧ w_47.toInt ≤ 402 := bw_47
          refine lv_istore (lv' := [(5, .int r_44), (4, .int (0 : Int32)), (1, .int w_33), (3, .int r_23), (2, .int r_10), (0, .ref x)]) hx hb dX6_readTerm_117 hl (by decide) rfl (fun ls hl => ?_)
          refine lv_iload hx hb dX6_readTerm_119 (lv_at hl 0 rfl) ?_
          refine hb_if_ge (zx := r_44.toInt) (tgt := 140) hx hb rfl dX6_readTerm_121 (by decide) (fun c_48 => ?_) (fun c_48 => ?_)
          · skip
            refine lv_aload_n hx hb dX6_readTerm_140 rfl (lv_at hl 5 rfl) ?_
            refine hk_getr hx hb hts hC_6 hown hW (gx.S hM) tt_6 6 (by decide) rfl kw_131 ⟨rfl, rfl, rfl⟩ ((hM.o gx trivial rfl).2.trans f_x_6) dX6_readTerm_141 ?_
            refine lv_iload_n hx hb dX6_readTerm_144 rfl (lv_at hl 4 rfl) ?_
            refine lv_iload_n hx hb dX6_readTerm_145 rfl (lv_at hl 3 rfl) ?_
            refine lv_iload hx hb dX6_readTerm_146 (lv_at hl 1 rfl) ?_
            refine lv_iload hx hb dX6_readTerm_148 (lv_at hl 0 rfl) ?_
            have zc_0 : (0 : Int32).toInt = 0 := by decide
            refine hx_goi (hx_runS (As := [.int r_10, .int r_23, .int (0 : Int32), .int r_44]) (rest := [.ref qi]) ⟨hx, hb, hml, hown, hts⟩ hW (t_X0_term_v l dC dI dA L_42 h_43 H.size r_10 r_23 (0 : Int32) r_44 hT ⟨by omega, by omega⟩ ⟨by omega, by omega⟩ ⟨by omega, by omega⟩ ⟨by omega, by omega⟩) (va_cwS 4 hts (hx_gS kw_161 kw_579 kw_160 kw_96) rfl rfl rfl (by decide +kernel) ⟨Nat.le_of_ble_eq_true rfl, Nat.le_of_ble_eq_true rfl⟩) rfl hl.1 rfl (Nat.le_of_ble_eq_true rfl) dX6_readTerm_150 ⟨Nat.le_of_ble_eq_true rfl, Nat.le_of_ble_eq_true rfl⟩) hW (fun r_51 L_49 h_50 H locs p_52 hW => ?_)
            obtain ⟨hr_53, hT, hs⟩ := p_52
            replace hT : hx_T T_tb L_49 h_50 := hT
            replace hs : hx_S T_tb [] L_42 h_43 L_49 h_50 := hs
            replace f_x_3 := (hs.o (gx.S hM) trivial rfl).1.trans f_x_3
            replace f_qi_4 := (hs.o (gqi.S hM) trivial rfl).1.trans f_qi_4
            replace f_20 := (hs.o (gx.S hM) trivial rfl).1.trans f_20
            replace fw_47 := (hs.o (gx.S hM) trivial rfl).1.trans fw_47
            replace af_qp : h_50.2.1 qp = pf := (funext fun j => (hs.a (gqp.S hM) rfl j).1).trans af_qp
            replace hM := hM.tr (hs.mono (by decide))
            refine hx_gov (hx_runV (As := [.int r_51]) (rest := []) ⟨hx, hb, hml, hown, hts⟩ hW (gqi.S hM) tt_129 (T := TX0) (N := 5) rfl (t_X0_addProof_v l dC dI dA L_49 h_50 H.size qi r_51 hT (gqi.S hM) qp (gqp.S hM) ((hM.o gqi trivial rfl).2.trans f_qi_3) pf af_qp pl0 f_qi_4 (by omega)) (cwV 1 hts (hx_gV kw_583 kw_580 kw_581 kw_582 kw_96) rfl rfl rfl (by decide +kernel) ⟨Nat.le_of_ble_eq_true rfl, Nat.le_of_ble_eq_true rfl⟩) rfl hl.1 rfl (Nat.le_of_ble_eq_true rfl) dX6_readTerm_153 ⟨Nat.le_of_ble_eq_true rfl, Nat.le_of_ble_eq_true rfl⟩) hW (fun L_54 h_55 H locs p_57 hW => ?_)
            obtain ⟨⟨w_59, w_60, fw_59, fw_60, hr_58⟩, hT, hs⟩ := p_57
            replace hT : hx_T T_tb L_54 h_55 := hT
            replace hs : hx_S T_tb [(128, 0), (129, 4)] L_49 h_50 L_54 h_55 := hs
            replace f_x_3 := (hs.o (gx.S hM) trivial rfl).1.trans f_x_3
            replace f_20 := (hs.o (gx.S hM) trivial rfl).1.trans f_20
            replace fw_47 := (hs.o (gx.S hM) trivial rfl).1.trans fw_47
            replace hM := hM.tr (hs.mono (by decide))
            have fw_59 : h_55.2.1 qi 4 = w_59 := fw_59
            have bw_59 := hT.gi (gqi.S hM) tt_129 (k := 4) rfl
            rw [fw_59] at bw_59
            have bw_59 : 0 ≤ w_59.toInt ∧ w_59.toInt ≤ 160 := bw_59
            have fw_60 : h_55.2.1 qp = w_60 := fw_60
            refine lv_iconst (v := 1) hx hb dX6_readTerm_156 (by decide) ?_
            exact hx_retz hx hb hr rfl hlk hW ⟨⟨w_47, ft0, x_18, w_59, w_60, fw_47, f_x_3, f_20, fw_59, fw_60, (hv_K_t (x := hv_de tf ln0.toInt.toNat w_33.toInt.toNat) (y := tm0.toInt.toNat + 1) (o := (hv_wd tf ln0.toInt.toNat w_6.toInt.toNat - 2, (hv_sg tf ln0.toInt.toNat (hv_sk tf ln0.toInt.toNat (hv_we tf ln0.toInt.toNat w_6.toInt.toNat))).1, hv_dv tf w_33.toInt.toNat (hv_de tf ln0.toInt.toNat w_33.toInt.toNat - w_33.toInt.toNat)) :: o) (by decide) (by omega) (by omega) (by omega) (hv_ls_u hO (by have h8 := hv_cc_n (w := hv_wd tf ln0.toInt.toNat w_6.toInt.toNat) (l := r_10.toInt) (r := r_44.toInt) (v := r_51.toInt) (g := hv_sg tf ln0.toInt.toNat (hv_sk tf ln0.toInt.toNat (hv_we tf ln0.toInt.toNat w_6.toInt.toNat))) (by omega) (by omega) (by omega) (by omega) (by omega); rw [show hv_dv tf w_33.toInt.toNat (hv_de tf ln0.toInt.toNat w_33.toInt.toNat - w_33.toInt.toNat) = r_44.toInt by omega]; exact h8) (by omega) hr_58.2) (by rw [← ek_7]; exact ht9.trans (hv_rt_4 (by omega) (by rcases hr_39 with z | z; exact z.2.2; exfalso; omega) (by omega))))⟩, hT, hM⟩ dX6_readTerm_157
          · skip
            refine lv_aload_n hx hb dX6_readTerm_124 rfl (lv_at hl 5 rfl) ?_
            refine lv_iload_n hx hb dX6_readTerm_125 rfl (lv_at hl 2 rfl) ?_
            refine lv_iload hx hb dX6_readTerm_126 (lv_at hl 1 rfl) ?_
            refine hb_if_eq (zx := 0) (tgt := 135) hx hb (by decide) dX6_readTerm_128 (by decide) (fun c_61 => ?_) (fun c_61 => absurd c_61 (by decide))
            refine lv_iconst (v := 1) hx hb dX6_readTerm_135 (by decide) ?_
            have zc_1 : (1 : Int32).toInt = 1 := by decide
            refine hx_goi (hx_runV (As := [.int w_33, .int (1 : Int32)]) (rest := []) ⟨hx, hb, hml, hown, hts⟩ hW (gx.S hM) tt_6 (T := TX6) (N := 7) rfl (t_X6_refuse_v l dC dI dA L_42 h_43 H.size x w_33 (1 : Int32) hT (gx.S hM) ⟨by omega, by omega⟩ (by decide)) (cwV 2 hts (hx_gV kw_527 kw_524 kw_526 kw_6 kw_95) rfl rfl rfl (by decide +kernel) ⟨Nat.le_of_ble_eq_true rfl, Nat.le_of_ble_eq_true rfl⟩) rfl hl.1 rfl (Nat.le_of_ble_eq_true rfl) dX6_readTerm_136 ⟨Nat.le_of_ble_eq_true rfl, Nat.le_of_ble_eq_true rfl⟩) hW (fun r_64 L_62 h_63 H locs p_65 hW => ?_)
            obtain ⟨⟨w_67, fw_67, hr_66⟩, hT, hs⟩ := p_65
            replace hT : hx_T T_tb L_62 h_63 := hT
            replace hs : hx_S T_tb [(6, 3)] L_42 h_43 L_62 h_63 := hs
            replace f_qi_4 := (hs.o (gqi.S hM) trivial rfl).1.trans f_qi_4
            replace f_20 := (hs.o (gx.S hM) trivial rfl).1.trans f_20
            replace fw_47 := (hs.o (gx.S hM) trivial rfl).1.trans fw_47
            replace af_qp : h_63.2.1 qp = pf := (funext fun j => (hs.a (gqp.S hM) rfl j).1).trans af_qp
            replace hM := hM.tr (hs.mono (by decide))
            have fw_67 : h_63.2.1 x 3 = w_67 := fw_67
            have bw_67 := hT.gi (gx.S hM) tt_6 (k := 3) rfl
            rw [fw_67] at bw_67
            have bw_67 : -2147483648 ≤ w_67.toInt ∧ w_67.toInt ≤ 2147483647 := bw_67
            exact hx_retz hx hb hr (hx_nar01 (by omega)) hlk hW ⟨⟨w_47, w_67, x_18, pl0, pf, fw_47, fw_67, f_20, f_qi_4, af_qp, (hv_K_f (x := 2 + 8 * w_33.toInt.toNat) (by omega) (by omega) (by omega) (by rw [← ek_7]; exact ht9.trans (hv_rt_3 (by omega) (by rcases hr_39 with z | z; exact z.2.2; exfalso; omega) (by omega))))⟩, hT, hM⟩ dX6_readTerm_139
        · skip
          refine lv_iconst (v := 1) hx hb dX6_readTerm_92 (by decide) ?_
          refine lv_goto (tgt := 97) hx hb dX6_readTerm_93 (by decide) ?_
          refine lv_istore (lv' := [(4, .int (1 : Int32)), (1, .int w_33), (3, .int r_23), (2, .int r_10), (0, .ref x)]) hx hb dX6_readTerm_97 hl (by decide) rfl (fun ls hl => ?_)
          refine lv_iload hx hb dX6_readTerm_99 (lv_at hl 0 rfl) ?_
          refine hb_if_eq (zx := 1) (tgt := 113) hx hb (by decide) dX6_readTerm_101 (by decide) (fun c_68 => absurd c_68 (by decide)) (fun c_68 => ?_)
          refine lv_aload_n hx hb dX6_readTerm_104 rfl (lv_at hl 4 rfl) ?_
          refine va_ldcS (tx := P_st.getD 5 "") hx hb hown (zVR 5 (by decide)) dX6_readTerm_105 ?_
          refine hx_goi (hx_runVX (As := [.ref (b0.2.2.2.1 5)]) (rest := []) ⟨hx, hb, hml, hown, hts⟩ hW (gx.S hM) tt_6 (T := TX6) (N := 7) rfl (t_X6_readWord_v l dC dI dA L_35 h_36 H.size b0 x 5 hT (gx.S hM) (by decide) qt (gqt.S hM) ((hM.o gx trivial rfl).2.trans f_x_0) tf (hx_afS hM gqt rfl af_qt) w_33 fw_33 ln0 ((hM.o gx trivial rfl).1.trans f_x_1) (by omega)) hZ (cwV 1 hts (hx_gV kw_467 kw_464 kw_466 kw_3 kw_95) rfl rfl rfl (by decide +kernel) ⟨Nat.le_of_ble_eq_true rfl, Nat.le_of_ble_eq_true rfl⟩) rfl hl.1 rfl (Nat.le_of_ble_eq_true rfl) dX6_readTerm_107 ⟨Nat.le_of_ble_eq_true rfl, Nat.le_of_ble_eq_true rfl⟩) hW (fun r_71 L_69 h_70 H locs p_72 hW => ?_)
          obtain ⟨⟨w_74, fw_74, hr_73⟩, hT, hs⟩ := p_72
          replace hT : hx_T T_tb L_69 h_70 := hT
          replace hs : hx_S T_tb [(6, 2)] L_35 h_36 L_69 h_70 := hs
          replace f_x_3 := (hs.o (gx.S hM) trivial rfl).1.trans f_x_3
          replace f_qi_4 := (hs.o (gqi.S hM) trivial rfl).1.trans f_qi_4
          replace f_20 := (hs.o (gx.S hM) trivial rfl).1.trans f_20
          replace af_qp : h_70.2.1 qp = pf := (funext fun j => (hs.a (gqp.S hM) rfl j).1).trans af_qp
          replace hM := hM.tr (hs.mono (by decide))
          have fw_74 : h_70.2.1 x 2 = w_74 := fw_74
          have bw_74 := hT.gi (gx.S hM) tt_6 (k := 2) rfl
          rw [fw_74] at bw_74
          have bw_74 : 0 ≤ w_74.toInt ∧ w_74.toInt ≤ 402 := bw_74
          have eu_75 := hv_RW_5 hr_73.2.1
          have hr2 := hr_73.1; rw [uid] at hr2 eu_75
          refine lv_goto (tgt := 117) hx hb dX6_readTerm_110 (by decide) ?_
          refine lv_istore (lv' := [(5, .int r_71), (4, .int (1 : Int32)), (1, .int w_33), (3, .int r_23), (2, .int r_10), (0, .ref x)]) hx hb dX6_readTerm_117 hl (by decide) rfl (fun ls hl => ?_)
          refine lv_iload hx hb dX6_readTerm_119 (lv_at hl 0 rfl) ?_
          refine hb_if_ge (zx := r_71.toInt) (tgt := 140) hx hb rfl dX6_readTerm_121 (by decide) (fun c_76 => ?_) (fun c_76 => ?_)
          · skip
            refine lv_aload_n hx hb dX6_readTerm_140 rfl (lv_at hl 5 rfl) ?_
            refine hk_getr hx hb hts hC_6 hown hW (gx.S hM) tt_6 6 (by decide) rfl kw_131 ⟨rfl, rfl, rfl⟩ ((hM.o gx trivial rfl).2.trans f_x_6) dX6_readTerm_141 ?_
            refine lv_iload_n hx hb dX6_readTerm_144 rfl (lv_at hl 4 rfl) ?_
            refine lv_iload_n hx hb dX6_readTerm_145 rfl (lv_at hl 3 rfl) ?_
            refine lv_iload hx hb dX6_readTerm_146 (lv_at hl 1 rfl) ?_
            refine lv_iload hx hb dX6_readTerm_148 (lv_at hl 0 rfl) ?_
            have zc_1 : (1 : Int32).toInt = 1 := by decide
            refine hx_goi (hx_runS (As := [.int r_10, .int r_23, .int (1 : Int32), .int r_71]) (rest := [.ref qi]) ⟨hx, hb, hml, hown, hts⟩ hW (t_X0_term_v l dC dI dA L_69 h_70 H.size r_10 r_23 (1 : Int32) r_71 hT ⟨by omega, by omega⟩ ⟨by omega, by omega⟩ ⟨by omega, by omega⟩ ⟨by omega, by omega⟩) (va_cwS 4 hts (hx_gS kw_161 kw_579 kw_160 kw_96) rfl rfl rfl (by decide +kernel) ⟨Nat.le_of_ble_eq_true rfl, Nat.le_of_ble_eq_true rfl⟩) rfl hl.1 rfl (Nat.le_of_ble_eq_true rfl) dX6_readTerm_150 ⟨Nat.le_of_ble_eq_true rfl, Nat.le_of_ble_eq_true rfl⟩) hW (fun r_79 L_77 h_78 H locs p_80 hW => ?_)
            obtain ⟨hr_81, hT, hs⟩ := p_80
            replace hT : hx_T T_tb L_77 h_78 := hT
            replace hs : hx_S T_tb [] L_69 h_70 L_77 h_78 := hs
            replace f_x_3 := (hs.o (gx.S hM) trivial rfl).1.trans f_x_3
            replace f_qi_4 := (hs.o (gqi.S hM) trivial rfl).1.trans f_qi_4
            replace f_20 := (hs.o (gx.S hM) trivial rfl).1.trans f_20
            replace fw_74 := (hs.o (gx.S hM) trivial rfl).1.trans fw_74
            replace af_qp : h_78.2.1 qp = pf := (funext fun j => (hs.a (gqp.S hM) rfl j).1).trans af_qp
            replace hM := hM.tr (hs.mono (by decide))
            refine hx_gov (hx_runV (As := [.int r_79]) (rest := []) ⟨hx, hb, hml, hown, hts⟩ hW (gqi.S hM) tt_129 (T := TX0) (N := 5) rfl (t_X0_addProof_v l dC dI dA L_77 h_78 H.size qi r_79 hT (gqi.S hM) qp (gqp.S hM) ((hM.o gqi trivial rfl).2.trans f_qi_3) pf af_qp pl0 f_qi_4 (by omega)) (cwV 1 hts (hx_gV kw_583 kw_580 kw_581 kw_582 kw_96) rfl rfl rfl (by decide +kernel) ⟨Nat.le_of_ble_eq_true rfl, Nat.le_of_ble_eq_true rfl⟩) rfl hl.1 rfl (Nat.le_of_ble_eq_true rfl) dX6_readTerm_153 ⟨Nat.le_of_ble_eq_true rfl, Nat.le_of_ble_eq_true rfl⟩) hW (fun L_82 h_83 H locs p_85 hW => ?_)
            obtain ⟨⟨w_87, w_88, fw_87, fw_88, hr_86⟩, hT, hs⟩ := p_85
            replace hT : hx_T T_tb L_82 h_83 := hT
            replace hs : hx_S T_tb [(128, 0), (129, 4)] L_77 h_78 L_82 h_83 := hs
            replace f_x_3 := (hs.o (gx.S hM) trivial rfl).1.trans f_x_3
            replace f_20 := (hs.o (gx.S hM) trivial rfl).1.trans f_20
            replace fw_74 := (hs.o (gx.S hM) trivial rfl).1.trans fw_74
            replace hM := hM.tr (hs.mono (by decide))
            have fw_87 : h_83.2.1 qi 4 = w_87 := fw_87
            have bw_87 := hT.gi (gqi.S hM) tt_129 (k := 4) rfl
            rw [fw_87] at bw_87
            have bw_87 : 0 ≤ w_87.toInt ∧ w_87.toInt ≤ 160 := bw_87
            have fw_88 : h_83.2.1 qp = w_88 := fw_88
            refine lv_iconst (v := 1) hx hb dX6_readTerm_156 (by decide) ?_
            exact hx_retz hx hb hr rfl hlk hW ⟨⟨w_74, ft0, x_18, w_87, w_88, fw_74, f_x_3, f_20, fw_87, fw_88, (hv_K_t (x := hv_we tf ln0.toInt.toNat w_33.toInt.toNat) (y := tm0.toInt.toNat + 1) (o := (hv_wd tf ln0.toInt.toNat w_6.toInt.toNat - 2, (hv_sg tf ln0.toInt.toNat (hv_sk tf ln0.toInt.toNat (hv_we tf ln0.toInt.toNat w_6.toInt.toNat))).1, 10000 + (hv_wd tf ln0.toInt.toNat w_33.toInt.toNat - 3)) :: o) (by decide) (by omega) (by omega) (by omega) (hv_ls_u hO (by have h8 := hv_cc_w (w := hv_wd tf ln0.toInt.toNat w_6.toInt.toNat) (l := r_10.toInt) (r := r_71.toInt) (v := r_79.toInt) (g := hv_sg tf ln0.toInt.toNat (hv_sk tf ln0.toInt.toNat (hv_we tf ln0.toInt.toNat w_6.toInt.toNat))) (by omega) (by omega) (by omega) (by omega) (by omega); rw [show hv_wd tf ln0.toInt.toNat w_33.toInt.toNat - 3 = r_71.toInt by omega]; exact h8) (by omega) hr_86.2) (by rw [← ek_7]; exact ht9.trans (hv_rt_2 (by omega))))⟩, hT, hM⟩ dX6_readTerm_157
          · skip
            refine lv_aload_n hx hb dX6_readTerm_124 rfl (lv_at hl 5 rfl) ?_
            refine lv_iload_n hx hb dX6_readTerm_125 rfl (lv_at hl 2 rfl) ?_
            refine lv_iload hx hb dX6_readTerm_126 (lv_at hl 1 rfl) ?_
            refine hb_if_eq (zx := 1) (tgt := 135) hx hb (by decide) dX6_readTerm_128 (by decide) (fun c_89 => absurd c_89 (by decide)) (fun c_89 => ?_)
            refine lv_iconst (v := 0) hx hb dX6_readTerm_131 (by decide) ?_
            refine lv_goto (tgt := 136) hx hb dX6_readTerm_132 (by decide) ?_
            have zc_0 : (0 : Int32).toInt = 0 := by decide
            refine hx_goi (hx_runV (As := [.int w_33, .int (0 : Int32)]) (rest := []) ⟨hx, hb, hml, hown, hts⟩ hW (gx.S hM) tt_6 (T := TX6) (N := 7) rfl (t_X6_refuse_v l dC dI dA L_69 h_70 H.size x w_33 (0 : Int32) hT (gx.S hM) ⟨by omega, by omega⟩ (by decide)) (cwV 2 hts (hx_gV kw_527 kw_524 kw_526 kw_6 kw_95) rfl rfl rfl (by decide +kernel) ⟨Nat.le_of_ble_eq_true rfl, Nat.le_of_ble_eq_true rfl⟩) rfl hl.1 rfl (Nat.le_of_ble_eq_true rfl) dX6_readTerm_136 ⟨Nat.le_of_ble_eq_true rfl, Nat.le_of_ble_eq_true rfl⟩) hW (fun r_92 L_90 h_91 H locs p_93 hW => ?_)
            obtain ⟨⟨w_95, fw_95, hr_94⟩, hT, hs⟩ := p_93
            replace hT : hx_T T_tb L_90 h_91 := hT
            replace hs : hx_S T_tb [(6, 3)] L_69 h_70 L_90 h_91 := hs
            replace f_qi_4 := (hs.o (gqi.S hM) trivial rfl).1.trans f_qi_4
            replace f_20 := (hs.o (gx.S hM) trivial rfl).1.trans f_20
            replace fw_74 := (hs.o (gx.S hM) trivial rfl).1.trans fw_74
            replace af_qp : h_91.2.1 qp = pf := (funext fun j => (hs.a (gqp.S hM) rfl j).1).trans af_qp
            replace hM := hM.tr (hs.mono (by decide))
            have fw_95 : h_91.2.1 x 3 = w_95 := fw_95
            have bw_95 := hT.gi (gx.S hM) tt_6 (k := 3) rfl
            rw [fw_95] at bw_95
            have bw_95 : -2147483648 ≤ w_95.toInt ∧ w_95.toInt ≤ 2147483647 := bw_95
            exact hx_retz hx hb hr (hx_nar01 (by omega)) hlk hW ⟨⟨w_74, w_95, x_18, pl0, pf, fw_74, fw_95, f_20, f_qi_4, af_qp, (hv_K_f (x := 1 + 8 * w_33.toInt.toNat) (by omega) (by omega) (by omega) (by rw [← ek_7]; exact ht9.trans (hv_rt_1 (by omega) (by rcases hr_39 with z | z; (exfalso; omega); exact fun z9 => z.2 (by omega)))))⟩, hT, hM⟩ dX6_readTerm_139
      · skip
        refine lv_aload_n hx hb dX6_readTerm_62 rfl (lv_at hl 3 rfl) ?_
        refine lv_aload_n hx hb dX6_readTerm_63 rfl (lv_at hl 3 rfl) ?_
        refine hk_geti hx hb hts hC_6 hown hW (gx.S hM) tt_6 2 (by decide) rfl kw_127 ⟨rfl, rfl, rfl⟩ fw_26 dX6_readTerm_64 ?_
        refine lv_iconst (v := 0) hx hb dX6_readTerm_67 (by decide) ?_
        have zc_0 : (0 : Int32).toInt = 0 := by decide
        refine hx_goi (hx_runV (As := [.int w_26, .int (0 : Int32)]) (rest := []) ⟨hx, hb, hml, hown, hts⟩ hW (gx.S hM) tt_6 (T := TX6) (N := 7) rfl (t_X6_refuse_v l dC dI dA L_21 h_22 H.size x w_26 (0 : Int32) hT (gx.S hM) ⟨by omega, by omega⟩ (by decide)) (cwV 2 hts (hx_gV kw_527 kw_524 kw_526 kw_6 kw_95) rfl rfl rfl (by decide +kernel) ⟨Nat.le_of_ble_eq_true rfl, Nat.le_of_ble_eq_true rfl⟩) rfl hl.1 rfl (Nat.le_of_ble_eq_true rfl) dX6_readTerm_68 ⟨Nat.le_of_ble_eq_true rfl, Nat.le_of_ble_eq_true rfl⟩) hW (fun r_98 L_96 h_97 H locs p_99 hW => ?_)
        obtain ⟨⟨w_101, fw_101, hr_100⟩, hT, hs⟩ := p_99
        replace hT : hx_T T_tb L_96 h_97 := hT
        replace hs : hx_S T_tb [(6, 3)] L_21 h_22 L_96 h_97 := hs
        replace f_qi_4 := (hs.o (gqi.S hM) trivial rfl).1.trans f_qi_4
        replace f_20 := (hs.o (gx.S hM) trivial rfl).1.trans f_20
        replace fw_26 := (hs.o (gx.S hM) trivial rfl).1.trans fw_26
        replace af_qp : h_97.2.1 qp = pf := (funext fun j => (hs.a (gqp.S hM) rfl j).1).trans af_qp
        replace hM := hM.tr (hs.mono (by decide))
        have fw_101 : h_97.2.1 x 3 = w_101 := fw_101
        have bw_101 := hT.gi (gx.S hM) tt_6 (k := 3) rfl
        rw [fw_101] at bw_101
        have bw_101 : -2147483648 ≤ w_101.toInt ∧ w_101.toInt ≤ 2147483647 := bw_101
        exact hx_retz hx hb hr (hx_nar01 (by omega)) hlk hW ⟨⟨w_26, w_101, x_18, pl0, pf, fw_26, fw_101, f_20, f_qi_4, af_qp, (hv_K_f (x := 1 + 8 * hv_sk tf ln0.toInt.toNat (hv_we tf ln0.toInt.toNat w_6.toInt.toNat)) (by omega) (by omega) (by omega) (by rw [← ek_7]; exact hv_term_3 (by omega) (by omega) (by omega)))⟩, hT, hM⟩ dX6_readTerm_71
    · skip
      refine lv_aload_n hx hb dX6_readTerm_36 rfl (lv_at hl 2 rfl) ?_
      refine lv_iload_n hx hb dX6_readTerm_37 rfl (lv_at hl 1 rfl) ?_
      refine lv_iconst (v := 4) hx hb dX6_readTerm_38 (by decide) ?_
      have zc_4 : (4 : Int32).toInt = 4 := by decide
      refine hx_goi (hx_runV (As := [.int w_6, .int (4 : Int32)]) (rest := []) ⟨hx, hb, hml, hown, hts⟩ hW (gx.S hM) tt_6 (T := TX6) (N := 7) rfl (t_X6_refuse_v l dC dI dA L_8 h_9 H.size x w_6 (4 : Int32) hT (gx.S hM) ⟨by omega, by omega⟩ (by decide)) (cwV 2 hts (hx_gV kw_527 kw_524 kw_526 kw_6 kw_95) rfl rfl rfl (by decide +kernel) ⟨Nat.le_of_ble_eq_true rfl, Nat.le_of_ble_eq_true rfl⟩) rfl hl.1 rfl (Nat.le_of_ble_eq_true rfl) dX6_readTerm_39 ⟨Nat.le_of_ble_eq_true rfl, Nat.le_of_ble_eq_true rfl⟩) hW (fun r_104 L_102 h_103 H locs p_105 hW => ?_)
      obtain ⟨⟨w_107, fw_107, hr_106⟩, hT, hs⟩ := p_105
      replace hT : hx_T T_tb L_102 h_103 := hT
      replace hs : hx_S T_tb [(6, 3)] L_8 h_9 L_102 h_103 := hs
      replace f_x_5 := (hs.o (gx.S hM) trivial rfl).1.trans f_x_5
      replace f_qi_4 := (hs.o (gqi.S hM) trivial rfl).1.trans f_qi_4
      replace fw_13 := (hs.o (gx.S hM) trivial rfl).1.trans fw_13
      replace af_qp : h_103.2.1 qp = pf := (funext fun j => (hs.a (gqp.S hM) rfl j).1).trans af_qp
      replace hM := hM.tr (hs.mono (by decide))
      have fw_107 : h_103.2.1 x 3 = w_107 := fw_107
      have bw_107 := hT.gi (gx.S hM) tt_6 (k := 3) rfl
      rw [fw_107] at bw_107
      have bw_107 : -2147483648 ≤ w_107.toInt ∧ w_107.toInt ≤ 2147483647 := bw_107
      exact hx_retz hx hb hr (hx_nar01 (by omega)) hlk hW ⟨⟨w_13, w_107, tm0, pl0, pf, fw_13, fw_107, f_x_5, f_qi_4, af_qp, (hv_K_f (x := 5 + 8 * w_6.toInt.toNat) (by omega) (by omega) (by omega) (by rw [← ek_7]; exact hv_term_2 (by omega) (by omega)))⟩, hT, hM⟩ dX6_readTerm_42
  · skip
    refine lv_aload_n hx hb dX6_readTerm_20 rfl (lv_at hl 2 rfl) ?_
    refine lv_iload_n hx hb dX6_readTerm_21 rfl (lv_at hl 1 rfl) ?_
    refine lv_iconst (v := 0) hx hb dX6_readTerm_22 (by decide) ?_
    have zc_0 : (0 : Int32).toInt = 0 := by decide
    refine hx_goi (hx_runV (As := [.int w_6, .int (0 : Int32)]) (rest := []) ⟨hx, hb, hml, hown, hts⟩ hW (gx.S hM) tt_6 (T := TX6) (N := 7) rfl (t_X6_refuse_v l dC dI dA L_8 h_9 H.size x w_6 (0 : Int32) hT (gx.S hM) ⟨by omega, by omega⟩ (by decide)) (cwV 2 hts (hx_gV kw_527 kw_524 kw_526 kw_6 kw_95) rfl rfl rfl (by decide +kernel) ⟨Nat.le_of_ble_eq_true rfl, Nat.le_of_ble_eq_true rfl⟩) rfl hl.1 rfl (Nat.le_of_ble_eq_true rfl) dX6_readTerm_23 ⟨Nat.le_of_ble_eq_true rfl, Nat.le_of_ble_eq_true rfl⟩) hW (fun r_110 L_108 h_109 H locs p_111 hW => ?_)
    obtain ⟨⟨w_113, fw_113, hr_112⟩, hT, hs⟩ := p_111
    replace hT : hx_T T_tb L_108 h_109 := hT
    replace hs : hx_S T_tb [(6, 3)] L_8 h_9 L_108 h_109 := hs
    replace f_x_5 := (hs.o (gx.S hM) trivial rfl).1.trans f_x_5
    replace f_qi_4 := (hs.o (gqi.S hM) trivial rfl).1.trans f_qi_4
    replace fw_13 := (hs.o (gx.S hM) trivial rfl).1.trans fw_13
    replace af_qp : h_109.2.1 qp = pf := (funext fun j => (hs.a (gqp.S hM) rfl j).1).trans af_qp
    replace hM := hM.tr (hs.mono (by decide))
    have fw_113 : h_109.2.1 x 3 = w_113 := fw_113
    have bw_113 := hT.gi (gx.S hM) tt_6 (k := 3) rfl
    rw [fw_113] at bw_113
    have bw_113 : -2147483648 ≤ w_113.toInt ∧ w_113.toInt ≤ 2147483647 := bw_113
    exact hx_retz hx hb hr (hx_nar01 (by omega)) hlk hW ⟨⟨w_13, w_113, tm0, pl0, pf, fw_13, fw_113, f_x_5, f_qi_4, af_qp, (hv_K_f (x := 1 + 8 * w_6.toInt.toNat) (by omega) (by omega) (by omega) (by rw [← ek_7]; exact hv_term_1 (by omega)))⟩, hT, hM⟩ dX6_readTerm_26
