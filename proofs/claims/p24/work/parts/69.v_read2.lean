section
set_option maxHeartbeats 4000000 in
set_option maxRecDepth 100000 in
theorem t_X6_refuse_v (l : Launch) (dC : Nat → ClassId) (dI : Nat → Nat → Nat) (dA : Nat → ClassId) (L : List Nat) (h : hx_h) (sz : Nat) (x : Nat) (i1 : Int32) (i2 : Int32) (hT : hx_T T_tb L h) (gx : hx_g L h x 6) (hi1 : 0 ≤ i1.toInt ∧ i1.toInt ≤ 402) (hi2 : 0 ≤ i2.toInt ∧ i2.toInt ≤ 4) : Met l yX6_refuse (Cond.code yX6_refuse cX6_refuse 3 (some .boolean) :: hx_all) ({ frames := 0, cells := 0, slots := 0, locals := 0 }) (va_Pc [.ref x, .int i1, .int i2] (hx_B T_tb (P_ty dA) (dC, dI) vwCl L h sz)) (va_Qi (fun (r : Int32) (u : List Nat × hx_h) => (∃ (ft1 : Int32), u.2.2.1 x 3 = ft1 ∧ (r.toInt = 0 ∧ ft1.toInt = 1 + 8 * i1.toInt + i2.toInt)) ∧ hx_T T_tb u.1 u.2 ∧ hx_S T_tb [(6, 3)] L h u.1 u.2) (hx_E T_tb (P_ty dA) (dC, dI) vwCl (hx_A L sz)) (hx_A L sz)) 0 0 (hx_A L sz) := by
  refine hx_met (lv := [(0, .ref x), (1, .int i1), (2, .int i2)]) (by decide +kernel) rfl (Nat.le_of_ble_eq_true rfl) rfl ?_
  intro p e s m below meth c hx hb hml hr hlk hts0 hown hin hsz hW ls hl
  have hts : ∀ w ∈ hx_all, w.before _ s = true := fun w hw => hts0 w (List.mem_cons_of_mem _ hw)
  have hown : s.vm.findClass "SmallCourt$Reader" = some m.cls := hown
  have hM : hx_S T_tb [(6, 3)] L h L h := hx_S.rf
  refine lv_aload_n hx hb dX6_refuse_0 rfl (lv_at hl 0 rfl) ?_
  refine lv_iconst (v := 1) hx hb dX6_refuse_1 (by decide) ?_
  refine lv_bipush (v := 8) hx hb dX6_refuse_2 (by decide) ?_
  refine lv_iload_n hx hb dX6_refuse_4 rfl (lv_at hl 1 rfl) ?_
  refine lv_imul hx hb dX6_refuse_5 ?_
  refine lv_topi (fun x_1 ex_1 => ?_)
  have zx_1 : x_1.toInt = 8 * i1.toInt := by rw [ex_1]; exact i32_mul (by decide) rfl rfl (by omega) (by omega)
  refine lv_iadd hx hb dX6_refuse_6 ?_
  have rg_2 := i32_r x_1
  refine lv_topi (fun x_3 ex_3 => ?_)
  have zx_3 : x_3.toInt = 1 + x_1.toInt := by rw [ex_3]; exact i32_add (by decide) rfl (by omega) (by omega)
  refine lv_iload_n hx hb dX6_refuse_7 rfl (lv_at hl 2 rfl) ?_
  refine lv_iadd hx hb dX6_refuse_8 ?_
  have rg_4 := i32_r x_3
  have rg_5 := i32_r i2
  refine lv_topi (fun x_6 ex_6 => ?_)
  have zx_6 : x_6.toInt = x_3.toInt + i2.toInt := by rw [ex_6]; exact i32_add rfl rfl (by omega) (by omega)
  refine hx_puti hx hb hts hC_6 hown hW hT (hx_S.rf (M := [(6, 3)])) (gx.S hM) tt_6 3 (by decide) rfl kw_128 ⟨rfl, rfl, rfl⟩ rfl (x := x_6) (i32_r _) rfl rfl rfl (List.mem_singleton.mpr rfl) dX6_refuse_9 (fun H locs h_7 eh_7 hW hT hs => ?_)
  replace hM := hM.tr (hs.mono (by decide))
  have f_8 : h_7.2.1 x 3 = x_6 := by rw [eh_7]; exact hx_pi_at _ _ _ _
  refine lv_iconst (v := 0) hx hb dX6_refuse_12 (by decide) ?_
  exact hx_retz hx hb hr rfl hlk hW ⟨⟨x_6, f_8, ⟨by decide, by omega⟩⟩, hT, hM⟩ dX6_refuse_13


set_option maxHeartbeats 4000000 in
set_option maxRecDepth 100000 in
theorem t_X0_addProof_v (l : Launch) (dC : Nat → ClassId) (dI : Nat → Nat → Nat) (dA : Nat → ClassId) (L : List Nat) (h : hx_h) (sz : Nat) (x : Nat) (i1 : Int32) (hT : hx_T T_tb L h) (gx : hx_g L h x 129) (qp : Nat) (gqp : hx_g L h qp 128) (f_x_3 : h.2.2 x 3 = some qp) (pf : Nat → Int32) (af_qp : h.2.1 qp = pf) (pl0 : Int32) (f_x_4 : h.2.1 x 4 = pl0) (hpl : pl0.toInt < 160) : Met l yX0_addProof (Cond.code yX0_addProof cX0_addProof 2 none :: hx_all) ({ frames := 0, cells := 0, slots := 0, locals := 0 }) (va_Pc [.ref x, .int i1] (hx_B T_tb (P_ty dA) (dC, dI) vwCl L h sz)) (va_Qv (fun (u : List Nat × hx_h) => (∃ (pl1 : Int32) (pf1 : Nat → Int32), u.2.2.1 x 4 = pl1 ∧ u.2.2.1 qp = pf1 ∧ (pl1.toInt = pl0.toInt + 1 ∧ pf1 = hx_up pf pl0.toInt.toNat i1)) ∧ hx_T T_tb u.1 u.2 ∧ hx_S T_tb [(128, 0), (129, 4)] L h u.1 u.2) (hx_E T_tb (P_ty dA) (dC, dI) vwCl (hx_A L sz)) (hx_A L sz)) 0 0 (hx_A L sz) := by
  refine hx_met (lv := [(0, .ref x), (1, .int i1)]) (by decide +kernel) rfl (Nat.le_of_ble_eq_true rfl) rfl ?_
  intro p e s m below meth c hx hb hml hr hlk hts0 hown hin hsz hW ls hl
  have hts : ∀ w ∈ hx_all, w.before _ s = true := fun w hw => hts0 w (List.mem_cons_of_mem _ hw)
  have hown : s.vm.findClass "SmallCourt$Act" = some m.cls := hown
  have hM : hx_S T_tb [(128, 0), (129, 4)] L h L h := hx_S.rf
  have b_pl0 := hT.gi gx tt_129 (k := 4) rfl
  rw [f_x_4] at b_pl0
  have b_pl0 : 0 ≤ pl0.toInt ∧ pl0.toInt ≤ 160 := b_pl0
  refine lv_aload_n hx hb dX0_addProof_0 rfl (lv_at hl 0 rfl) ?_
  refine hk_geti hx hb hts hC_0 hown hW (gx.S hM) tt_129 4 (by decide) rfl kw_173 ⟨rfl, rfl, rfl⟩ f_x_4 dX0_addProof_1 ?_
  refine lv_sipush (v := 160) hx hb dX0_addProof_4 (by decide) ?_
  refine hb_icmp_ge (zx := pl0.toInt) (zy := 160) (tgt := 30) hx hb rfl (by decide) dX0_addProof_7 (by decide) (fun c_1 => ?_) (fun c_1 => ?_)
  · skip
    exact hx_retv hx hb hr hlk hW ⟨⟨pl0, pf, f_x_4, af_qp, (by exfalso; omega)⟩, hT, hM⟩ dX0_addProof_30
  · skip
    refine lv_aload_n hx hb dX0_addProof_10 rfl (lv_at hl 0 rfl) ?_
    refine hk_getr hx hb hts hC_0 hown hW (gx.S hM) tt_129 3 (by decide) rfl kw_172 ⟨rfl, rfl, rfl⟩ ((hM.o gx trivial rfl).2.trans f_x_3) dX0_addProof_11 ?_
    refine lv_aload_n hx hb dX0_addProof_14 rfl (lv_at hl 0 rfl) ?_
    refine hk_geti hx hb hts hC_0 hown hW (gx.S hM) tt_129 4 (by decide) rfl kw_173 ⟨rfl, rfl, rfl⟩ f_x_4 dX0_addProof_15 ?_
    refine lv_iload_n hx hb dX0_addProof_18 rfl (lv_at hl 1 rfl) ?_
    have af_qpO := af_qp
    refine hx_iast hx hb hW hT (hx_S.rf (M := [(128, 0)])) (gqp.S hM) tt_128 rfl ⟨by omega, by omega⟩ rfl (i32_r _) (List.mem_singleton.mpr rfl) dX0_addProof_19 (fun H locs h_2 eh_2 hW hT hs => ?_)
    replace f_x_4 := (hs.o (gx.S hM) trivial rfl).1.trans f_x_4
    replace hM := hM.tr (hs.mono (by decide))
    obtain ⟨fa_3, dfa_3⟩ : ∃ g : Nat → Int32, g = hx_up pf pl0.toNatClampNeg i1 := ⟨_, rfl⟩
    have nfa_3 : h_2.2.1 qp = fa_3 := by rw [eh_2, dfa_3, ← af_qpO]; exact hx_pi_fun _ _ _ _
    refine lv_aload_n hx hb dX0_addProof_20 rfl (lv_at hl 0 rfl) ?_
    refine lv_dup hx hb dX0_addProof_21 rfl ?_
    refine hk_geti hx hb hts hC_0 hown hW (gx.S hM) tt_129 4 (by decide) rfl kw_173 ⟨rfl, rfl, rfl⟩ f_x_4 dX0_addProof_22 ?_
    refine lv_iconst (v := 1) hx hb dX0_addProof_25 (by decide) ?_
    refine lv_iadd hx hb dX0_addProof_26 ?_
    have rg_4 := i32_r pl0
    refine lv_topi (fun x_5 ex_5 => ?_)
    have zx_5 : x_5.toInt = pl0.toInt + 1 := by rw [ex_5]; exact i32_add rfl (by decide) (by omega) (by omega)
    refine hx_puti hx hb hts hC_0 hown hW hT (hx_S.rf (M := [(129, 4)])) (gx.S hM) tt_129 4 (by decide) rfl kw_173 ⟨rfl, rfl, rfl⟩ rfl (x := x_5) ⟨by omega, by omega⟩ rfl rfl rfl (List.mem_singleton.mpr rfl) dX0_addProof_27 (fun H locs h_6 eh_6 hW hT hs => ?_)
    replace nfa_3 : h_6.2.1 qp = fa_3 := (funext fun j => (hs.a (gqp.S hM) rfl j).1).trans nfa_3
    replace hM := hM.tr (hs.mono (by decide))
    have f_7 : h_6.2.1 x 4 = x_5 := by rw [eh_6]; exact hx_pi_at _ _ _ _
    exact hx_retv hx hb hr hlk hW ⟨⟨x_5, fa_3, f_7, nfa_3, ⟨by omega, dfa_3⟩⟩, hT, hM⟩ dX0_addProof_30


set_option maxHeartbeats 4000000 in
set_option maxRecDepth 100000 in
theorem t_X0_term_v (l : Launch) (dC : Nat → ClassId) (dI : Nat → Nat → Nat) (dA : Nat → ClassId) (L : List Nat) (h : hx_h) (sz : Nat) (i1 : Int32) (i2 : Int32) (i3 : Int32) (i4 : Int32) (hT : hx_T T_tb L h)  (hi1 : 0 ≤ i1.toInt ∧ i1.toInt ≤ 7) (hi2 : 0 ≤ i2.toInt ∧ i2.toInt ≤ 7) (hi3 : 0 ≤ i3.toInt ∧ i3.toInt ≤ 1) (hi4 : 0 ≤ i4.toInt ∧ i4.toInt ≤ 9999) : Met l yX0_term (Cond.code yX0_term cX0_term 4 (some .int) :: hx_all) ({ frames := 0, cells := 0, slots := 0, locals := 0 }) (va_Pc [.int i1, .int i2, .int i3, .int i4] (hx_B T_tb (P_ty dA) (dC, dI) vwCl L h sz)) (va_Qi (fun (r : Int32) (u : List Nat × hx_h) => (r.toInt = i1.toInt + 8 * i2.toInt + 64 * i3.toInt + 128 * i4.toInt) ∧ hx_T T_tb u.1 u.2 ∧ hx_S T_tb [] L h u.1 u.2) (hx_E T_tb (P_ty dA) (dC, dI) vwCl (hx_A L sz)) (hx_A L sz)) 0 0 (hx_A L sz) := by
  refine hx_met (lv := [(0, .int i1), (1, .int i2), (2, .int i3), (3, .int i4)]) (by decide +kernel) rfl (Nat.le_of_ble_eq_true rfl) rfl ?_
  intro p e s m below meth c hx hb hml hr hlk hts0 hown hin hsz hW ls hl
  have hts : ∀ w ∈ hx_all, w.before _ s = true := fun w hw => hts0 w (List.mem_cons_of_mem _ hw)
  have hown : s.vm.findClass "SmallCourt$Act" = some m.cls := hown
  have hM : hx_S T_tb [] L h L h := hx_S.rf
  refine lv_iload_n hx hb dX0_term_0 rfl (lv_at hl 0 rfl) ?_
  refine lv_iload_n hx hb dX0_term_1 rfl (lv_at hl 1 rfl) ?_
  refine lv_iconst (v := 3) hx hb dX0_term_2 (by decide) ?_
  refine lv_ishl hx hb dX0_term_3 ?_
  refine lv_topi (fun x_1 ex_1 => ?_)
  refine lv_ior hx hb dX0_term_4 ?_
  refine lv_topi (fun x_2 ex_2 => ?_)
  refine lv_iload_n hx hb dX0_term_5 rfl (lv_at hl 2 rfl) ?_
  refine hb_if_eq (zx := i3.toInt) (tgt := 13) hx hb rfl dX0_term_6 (by decide) (fun c_3 => ?_) (fun c_3 => ?_)
  · skip
    refine lv_iconst (v := 0) hx hb dX0_term_13 (by decide) ?_
    refine lv_bipush (v := 6) hx hb dX0_term_14 (by decide) ?_
    refine lv_ishl hx hb dX0_term_16 ?_
    refine lv_topi (fun x_4 ex_4 => ?_)
    obtain rfl : x_4 = (0 : Int32) := ex_4.trans (by decide)
    refine lv_ior hx hb dX0_term_17 ?_
    refine lv_topi (fun x_5 ex_5 => ?_)
    refine lv_iload_n hx hb dX0_term_18 rfl (lv_at hl 3 rfl) ?_
    refine lv_bipush (v := 7) hx hb dX0_term_19 (by decide) ?_
    refine lv_ishl hx hb dX0_term_21 ?_
    refine lv_topi (fun x_6 ex_6 => ?_)
    refine lv_ior hx hb dX0_term_22 ?_
    refine lv_topi (fun x_7 ex_7 => ?_)
    exact hx_reti hx hb hr hlk hW ⟨(by have h9 := hv_tm (a := i1) (b := i2) (d := i4) (c := (0 : Int32)) 0 (by decide) (by decide) hi1 hi2 hi4 ex_1 ex_2 ex_5 ex_6 ex_7; omega), hT, hM⟩ dX0_term_23
  · skip
    refine lv_iconst (v := 1) hx hb dX0_term_9 (by decide) ?_
    refine lv_goto (tgt := 14) hx hb dX0_term_10 (by decide) ?_
    refine lv_bipush (v := 6) hx hb dX0_term_14 (by decide) ?_
    refine lv_ishl hx hb dX0_term_16 ?_
    refine lv_topi (fun x_8 ex_8 => ?_)
    obtain rfl : x_8 = (64 : Int32) := ex_8.trans (by decide)
    refine lv_ior hx hb dX0_term_17 ?_
    refine lv_topi (fun x_9 ex_9 => ?_)
    refine lv_iload_n hx hb dX0_term_18 rfl (lv_at hl 3 rfl) ?_
    refine lv_bipush (v := 7) hx hb dX0_term_19 (by decide) ?_
    refine lv_ishl hx hb dX0_term_21 ?_
    refine lv_topi (fun x_10 ex_10 => ?_)
    refine lv_ior hx hb dX0_term_22 ?_
    refine lv_topi (fun x_11 ex_11 => ?_)
    exact hx_reti hx hb hr hlk hW ⟨(by have h9 := hv_tm (a := i1) (b := i2) (d := i4) (c := (64 : Int32)) 1 (by decide) (by decide) hi1 hi2 hi4 ex_1 ex_2 ex_9 ex_10 ex_11; omega), hT, hM⟩ dX0_term_23


set_option maxHeartbeats 4000000 in
set_option maxRecDepth 100000 in
theorem t_X6_readTerm_v (l : Launch) (dC : Nat → ClassId) (dI : Nat → Nat → Nat) (dA : Nat → ClassId) (L : List Nat) (h : hx_h) (sz : Nat) (b0 : hx_z) (x : Nat) (hT : hx_T T_tb L h) (gx : hx_g L h x 6) (qt : Nat) (gqt : hx_g L h qt 42) (f_x_0 : h.2.2 x 0 = some qt) (qi : Nat) (gqi : hx_g L h qi 129) (f_x_6 : h.2.2 x 6 = some qi) (qp : Nat) (gqp : hx_g L h qp 128) (f_qi_3 : h.2.2 qi 3 = some qp) (tf : Nat → Int32) (af_qt : h.2.1 qt = tf) (pf : Nat → Int32) (af_qp : h.2.1 qp = pf) (at0 : Int32) (f_x_2 : h.2.1 x 2 = at0) (ln0 : Int32) (f_x_1 : h.2.1 x 1 = ln0) (ft0 : Int32) (f_x_3 : h.2.1 x 3 = ft0) (tm0 : Int32) (f_x_5 : h.2.1 x 5 = tm0) (pl0 : Int32) (f_qi_4 : h.2.1 qi 4 = pl0) (o : List hv_tok) (hO : hv_ls pf pl0.toInt.toNat = o.map hv_cc) (hF : ft0.toInt = 0) (hB : 3 * pl0.toInt ≤ at0.toInt + tm0.toInt) (hA : at0.toInt ≤ ln0.toInt) (hT0 : 0 ≤ tm0.toInt ∧ tm0.toInt ≤ 20) : Met l yX6_readTerm (Cond.code yX6_readTerm cX6_readTerm 6 (some .boolean) :: hx_all) ({ frames := 6, cells := 0, slots := 0, locals := 133 }) (va_Pc [.ref x] (hx_BX T_tb (P_ty dA) (dC, dI) vwCl L h sz b0)) (va_Qi (fun (r : Int32) (u : List Nat × hx_h) => (∃ (at1 : Int32) (ft1 : Int32) (tm1 : Int32) (pl1 : Int32) (pf1 : Nat → Int32), u.2.2.1 x 2 = at1 ∧ u.2.2.1 x 3 = ft1 ∧ u.2.2.1 x 5 = tm1 ∧ u.2.2.1 qi 4 = pl1 ∧ u.2.2.1 qp = pf1 ∧ (hv_K hv_cc (hv_term tf ln0.toInt.toNat (hv_sk tf ln0.toInt.toNat at0.toInt.toNat) tm0.toInt.toNat o) r.toInt ft1.toInt at1.toInt tm1.toInt (hv_ls pf1 pl1.toInt.toNat))) ∧ hx_T T_tb u.1 u.2 ∧ hx_S T_tb [(6, 2), (6, 3), (6, 5), (128, 0), (129, 4)] L h u.1 u.2) (hx_E T_tb (P_ty dA) (dC, dI) vwCl (hx_A L sz)) (hx_A L sz)) 0 0 (hx_A L sz) := by
  refine hx_metX (lv := [(0, .ref x)]) (by decide +kernel) rfl (Nat.le_of_ble_eq_true rfl) rfl ?_
  intro p e s m below meth c hx hb hml hr hlk hts0 hown hin hsz hW hZ ls hl
  have hts : ∀ w ∈ hx_all, w.before _ s = true := fun w hw => hts0 w (List.mem_cons_of_mem _ hw)
  have hown : s.vm.findClass "SmallCourt$Reader" = some m.cls := hown
  have hM : hx_S T_tb [(6, 2), (6, 3), (6, 5), (128, 0), (129, 4)] L h L h := hx_S.rf
  obtain ⟨zLT, zLA, zMT, zMA, zCS, zSF, zVS, zVR⟩ := hZ.2.2.2.2.2.2
  have b_at0 := hT.gi gx tt_6 (k := 2) rfl
  rw [f_x_2] at b_at0
  have b_at0 : 0 ≤ at0.toInt ∧ at0.toInt ≤ 402 := b_at0
  have b_ln0 := hT.gi gx tt_6 (k := 1) rfl
  rw [f_x_1] at b_ln0
  have b_ln0 : 0 ≤ ln0.toInt ∧ ln0.toInt ≤ 400 := b_ln0
  have b_ft0 := hT.gi gx tt_6 (k := 3) rfl
  rw [f_x_3] at b_ft0
  have b_ft0 : -2147483648 ≤ ft0.toInt ∧ ft0.toInt ≤ 2147483647 := b_ft0
  have b_tm0 := hT.gi gx tt_6 (k := 5) rfl
  rw [f_x_5] at b_tm0
  have b_tm0 : -2147483648 ≤ tm0.toInt ∧ tm0.toInt ≤ 2147483647 := b_tm0
  have b_pl0 := hT.gi gqi tt_129 (k := 4) rfl
  rw [f_qi_4] at b_pl0
  have b_pl0 : 0 ≤ pl0.toInt ∧ pl0.toInt ≤ 160 := b_pl0
  refine lv_aload_n hx hb dX6_readTerm_0 rfl (lv_at hl 0 rfl) ?_
  refine hx_gov (hx_runV (As := []) (rest := []) ⟨hx, hb, hml, hown, hts⟩ hW (gx.S hM) tt_6 (T := TX6) (N := 7) rfl (t_X6_skipBlanks_v l dC dI dA L h s.heap.size x hT (gx.S hM) qt (gqt.S hM) ((hM.o gx trivial rfl).2.trans f_x_0) tf (hx_afS hM gqt rfl af_qt) at0 f_x_2 ln0 ((hM.o gx trivial rfl).1.trans f_x_1) (by omega)) (cwV 0 hts (hx_gV kw_458 kw_455 kw_457 kw_1 kw_95) rfl rfl rfl (by decide +kernel) ⟨Nat.le_of_ble_eq_true rfl, Nat.le_of_ble_eq_true rfl⟩) rfl hl.1 rfl (Nat.le_of_ble_eq_true rfl) dX6_readTerm_1 ⟨Nat.le_of_ble_eq_true rfl, Nat.le_of_ble_eq_true rfl⟩) hW (fun L_1 h_2 H locs p_4 hW => ?_)
  obtain ⟨⟨w_6, fw_6, hr_5⟩, hT, hs⟩ := p_4
  replace hT : hx_T T_tb L_1 h_2 := hT
  replace hs : hx_S T_tb [(6, 2)] L h L_1 h_2 := hs
  replace f_x_3 := (hs.o (gx.S hM) trivial rfl).1.trans f_x_3
  replace f_x_5 := (hs.o (gx.S hM) trivial rfl).1.trans f_x_5
  replace f_qi_4 := (hs.o (gqi.S hM) trivial rfl).1.trans f_qi_4
  replace af_qp : h_2.2.1 qp = pf := (funext fun j => (hs.a (gqp.S hM) rfl j).1).trans af_qp
  replace hM := hM.tr (hs.mono (by decide))
  have fw_6 : h_2.2.1 x 2 = w_6 := fw_6
  have bw_6 := hT.gi (gx.S hM) tt_6 (k := 2) rfl
  rw [fw_6] at bw_6
  have bw_6 : 0 ≤ w_6.toInt ∧ w_6.toInt ≤ 402 := bw_6
  have ek_7 : w_6.toInt.toNat = hv_sk tf ln0.toInt.toNat at0.toInt.toNat := by omega
  refine lv_aload_n hx hb dX6_readTerm_4 rfl (lv_at hl 0 rfl) ?_
  refine hk_geti hx hb hts hC_6 hown hW (gx.S hM) tt_6 2 (by decide) rfl kw_127 ⟨rfl, rfl, rfl⟩ fw_6 dX6_readTerm_5 ?_
  refine lv_istore_n (lv' := [(1, .int w_6), (0, .ref x)]) hx hb dX6_readTerm_8 rfl hl (by decide) rfl (fun ls hl => ?_)
  refine lv_aload_n hx hb dX6_readTerm_9 rfl (lv_at hl 1 rfl) ?_
  refine va_ldcS (tx := P_st.getD 5 "") hx hb hown (zVR 5 (by decide)) dX6_readTerm_10 ?_
  refine hx_goi (hx_runVX (As := [.ref (b0.2.2.2.1 5)]) (rest := []) ⟨hx, hb, hml, hown, hts⟩ hW (gx.S hM) tt_6 (T := TX6) (N := 7) rfl (t_X6_readWord_v l dC dI dA L_1 h_2 H.size b0 x 5 hT (gx.S hM) (by decide) qt (gqt.S hM) ((hM.o gx trivial rfl).2.trans f_x_0) tf (hx_afS hM gqt rfl af_qt) w_6 fw_6 ln0 ((hM.o gx trivial rfl).1.trans f_x_1) (by omega)) hZ (cwV 1 hts (hx_gV kw_467 kw_464 kw_466 kw_3 kw_95) rfl rfl rfl (by decide +kernel) ⟨Nat.le_of_ble_eq_true rfl, Nat.le_of_ble_eq_true rfl⟩) rfl hl.1 rfl (Nat.le_of_ble_eq_true rfl) dX6_readTerm_12 ⟨Nat.le_of_ble_eq_true rfl, Nat.le_of_ble_eq_true rfl⟩) hW (fun r_10 L_8 h_9 H locs p_11 hW => ?_)
  obtain ⟨⟨w_13, fw_13, hr_12⟩, hT, hs⟩ := p_11
  replace hT : hx_T T_tb L_8 h_9 := hT
  replace hs : hx_S T_tb [(6, 2)] L_1 h_2 L_8 h_9 := hs
  replace f_x_3 := (hs.o (gx.S hM) trivial rfl).1.trans f_x_3
  replace f_x_5 := (hs.o (gx.S hM) trivial rfl).1.trans f_x_5
  replace f_qi_4 := (hs.o (gqi.S hM) trivial rfl).1.trans f_qi_4
  replace af_qp : h_9.2.1 qp = pf := (funext fun j => (hs.a (gqp.S hM) rfl j).1).trans af_qp
  replace hM := hM.tr (hs.mono (by decide))
  have fw_13 : h_9.2.1 x 2 = w_13 := fw_13
  have bw_13 := hT.gi (gx.S hM) tt_6 (k := 2) rfl
  rw [fw_13] at bw_13
  have bw_13 : 0 ≤ w_13.toInt ∧ w_13.toInt ≤ 402 := bw_13
  have eu_14 := hv_RW_5 hr_12.2.1
  refine lv_istore_n (lv' := [(2, .int r_10), (1, .int w_6), (0, .ref x)]) hx hb dX6_readTerm_15 rfl hl (by decide) rfl (fun ls hl => ?_)
  have sid : hv_sk tf ln0.toInt.toNat w_6.toInt.toNat = w_6.toInt.toNat := by rw [ek_7]; exact hv_sk_id
  have hrw := hr_12.1; rw [sid] at hrw eu_14
  refine lv_iload_n hx hb dX6_readTerm_16 rfl (lv_at hl 0 rfl) ?_
  refine hb_if_ge (zx := r_10.toInt) (tgt := 27) hx hb rfl dX6_readTerm_17 (by decide) (fun c_15 => ?_) (fun c_15 => ?_)
  · skip
    have hleft : 0 ≤ r_10.toInt ∧ r_10.toInt ≤ 7 ∧ hv_wd tf ln0.toInt.toNat w_6.toInt.toNat = 3 + r_10.toInt := by omega
    have ha1 : w_13.toInt.toNat = hv_we tf ln0.toInt.toNat w_6.toInt.toNat := by omega
    have hw3 := hv_wd_3 (T := tf) (n := ln0.toInt.toNat) (p := w_6.toInt.toNat) (by omega)
    refine lv_aload_n hx hb dX6_readTerm_27 rfl (lv_at hl 2 rfl) ?_
    refine hk_geti hx hb hts hC_6 hown hW (gx.S hM) tt_6 5 (by decide) rfl kw_130 ⟨rfl, rfl, rfl⟩ f_x_5 dX6_readTerm_28 ?_
    refine lv_bipush (v := 20) hx hb dX6_readTerm_31 (by decide) ?_
    refine hb_icmp_lt (zx := tm0.toInt) (zy := 20) (tgt := 43) hx hb rfl (by decide) dX6_readTerm_33 (by decide) (fun c_16 => ?_) (fun c_16 => ?_)
    · skip
      refine lv_aload_n hx hb dX6_readTerm_43 rfl (lv_at hl 2 rfl) ?_
      refine lv_dup hx hb dX6_readTerm_44 rfl ?_
      refine hk_geti hx hb hts hC_6 hown hW (gx.S hM) tt_6 5 (by decide) rfl kw_130 ⟨rfl, rfl, rfl⟩ f_x_5 dX6_readTerm_45 ?_
      refine lv_iconst (v := 1) hx hb dX6_readTerm_48 (by decide) ?_
      refine lv_iadd hx hb dX6_readTerm_49 ?_
      have rg_17 := i32_r tm0
      refine lv_topi (fun x_18 ex_18 => ?_)
      have zx_18 : x_18.toInt = tm0.toInt + 1 := by rw [ex_18]; exact i32_add rfl (by decide) (by omega) (by omega)
      refine hx_puti hx hb hts hC_6 hown hW hT (hx_S.rf (M := [(6, 5)])) (gx.S hM) tt_6 5 (by decide) rfl kw_130 ⟨rfl, rfl, rfl⟩ rfl (x := x_18) (i32_r _) rfl rfl rfl (List.mem_singleton.mpr rfl) dX6_readTerm_50 (fun H locs h_19 eh_19 hW hT hs => ?_)
      replace f_x_3 := (hs.o (gx.S hM) trivial rfl).1.trans f_x_3
      replace f_qi_4 := (hs.o (gqi.S hM) trivial rfl).1.trans f_qi_4
      replace fw_13 := (hs.o (gx.S hM) trivial rfl).1.trans fw_13
      replace af_qp : h_19.2.1 qp = pf := (funext fun j => (hs.a (gqp.S hM) rfl j).1).trans af_qp
      replace hM := hM.tr (hs.mono (by decide))
      have f_20 : h_19.2.1 x 5 = x_18 := by rw [eh_19]; exact hx_pi_at _ _ _ _
      refine lv_aload_n hx hb dX6_readTerm_53 rfl (lv_at hl 2 rfl) ?_
      refine hx_goi (hx_runV (As := []) (rest := []) ⟨hx, hb, hml, hown, hts⟩ hW (gx.S hM) tt_6 (T := TX6) (N := 7) rfl (t_X6_readSign_v l dC dI dA L_8 h_19 H.size x hT (gx.S hM) qt (gqt.S hM) ((hM.o gx trivial rfl).2.trans f_x_0) tf (hx_afS hM gqt rfl af_qt) w_13 fw_13 ln0 ((hM.o gx trivial rfl).1.trans f_x_1) (by omega)) (cwV 0 hts (hx_gV kw_578 kw_575 kw_577 kw_17 kw_95) rfl rfl rfl (by decide +kernel) ⟨Nat.le_of_ble_eq_true rfl, Nat.le_of_ble_eq_true rfl⟩) rfl hl.1 rfl (Nat.le_of_ble_eq_true rfl) dX6_readTerm_54 ⟨Nat.le_of_ble_eq_true rfl, Nat.le_of_ble_eq_true rfl⟩) hW (fun r_23 L_21 h_22 H locs p_24 hW => ?_)
      obtain ⟨⟨w_26, fw_26, hr_25⟩, hT, hs⟩ := p_24
      replace hT : hx_T T_tb L_21 h_22 := hT
      replace hs : hx_S T_tb [(6, 2)] L_8 h_19 L_21 h_22 := hs
      replace f_x_3 := (hs.o (gx.S hM) trivial rfl).1.trans f_x_3
      replace f_qi_4 := (hs.o (gqi.S hM) trivial rfl).1.trans f_qi_4
      replace f_20 := (hs.o (gx.S hM) trivial rfl).1.trans f_20
      replace af_qp : h_22.2.1 qp = pf := (funext fun j => (hs.a (gqp.S hM) rfl j).1).trans af_qp
      replace hM := hM.tr (hs.mono (by decide))
      have fw_26 : h_22.2.1 x 2 = w_26 := fw_26
      have bw_26 := hT.gi (gx.S hM) tt_6 (k := 2) rfl
      rw [fw_26] at bw_26
      have bw_26 : 0 ≤ w_26.toInt ∧ w_26.toInt ≤ 402 := bw_26
      refine lv_istore_n (lv' := [(3, .int r_23), (2, .int r_10), (1, .int w_6), (0, .ref x)]) hx hb dX6_readTerm_57 rfl hl (by decide) rfl (fun ls hl => ?_)
      have hsg := hr_25
      rw [ha1] at hsg
      have hsb := hv_sg_b (T := tf) (n := ln0.toInt.toNat) (hv_sk tf ln0.toInt.toNat (hv_we tf ln0.toInt.toNat w_6.toInt.toNat))
      have hsc := hv_scd_b (g := hv_sg tf ln0.toInt.toNat (hv_sk tf ln0.toInt.toNat (hv_we tf ln0.toInt.toNat w_6.toInt.toNat)))
      have hsk9 := hv_sk_ge (T := tf) (n := ln0.toInt.toNat) (p := hv_we tf ln0.toInt.toNat w_6.toInt.toNat)
      have hsl9 := hv_sk_le (T := tf) (n := ln0.toInt.toNat) (p := hv_we tf ln0.toInt.toNat w_6.toInt.toNat) (by omega)
      refine lv_iload_n hx hb dX6_readTerm_58 rfl (lv_at hl 0 rfl) ?_
      refine hb_if_ne (zx := r_23.toInt) (tgt := 72) hx hb rfl dX6_readTerm_59 (by decide) (fun c_27 => ?_) (fun c_27 => ?_)
      · skip
        refine lv_aload_n hx hb dX6_readTerm_72 rfl (lv_at hl 3 rfl) ?_
        refine hx_gov (hx_runV (As := []) (rest := []) ⟨hx, hb, hml, hown, hts⟩ hW (gx.S hM) tt_6 (T := TX6) (N := 7) rfl (t_X6_skipBlanks_v l dC dI dA L_21 h_22 H.size x hT (gx.S hM) qt (gqt.S hM) ((hM.o gx trivial rfl).2.trans f_x_0) tf (hx_afS hM gqt rfl af_qt) w_26 fw_26 ln0 ((hM.o gx trivial rfl).1.trans f_x_1) (by omega)) (cwV 0 hts (hx_gV kw_458 kw_455 kw_457 kw_1 kw_95) rfl rfl rfl (by decide +kernel) ⟨Nat.le_of_ble_eq_true rfl, Nat.le_of_ble_eq_true rfl⟩) rfl hl.1 rfl (Nat.le_of_ble_eq_true rfl) dX6_readTerm_73 ⟨Nat.le_of_ble_eq_true rfl, Nat.le_of_ble_eq_true rfl⟩) hW (fun L_28 h_29 H locs p_31 hW => ?_)
        obtain ⟨⟨w_33, fw_33, hr_32⟩, hT, hs⟩ := p_31
        replace hT : hx_T T_tb L_28 h_29 := hT
        replace hs : hx_S T_tb [(6, 2)] L_21 h_22 L_28 h_29 := hs
        replace f_x_3 := (hs.o (gx.S hM) trivial rfl).1.trans f_x_3
        replace f_qi_4 := (hs.o (gqi.S hM) trivial rfl).1.trans f_qi_4
        replace f_20 := (hs.o (gx.S hM) trivial rfl).1.trans f_20
        replace af_qp : h_29.2.1 qp = pf := (funext fun j => (hs.a (gqp.S hM) rfl j).1).trans af_qp
        replace hM := hM.tr (hs.mono (by decide))
        have fw_33 : h_29.2.1 x 2 = w_33 := fw_33
        have bw_33 := hT.gi (gx.S hM) tt_6 (k := 2) rfl
        rw [fw_33] at bw_33
        have bw_33 : 0 ≤ w_33.toInt ∧ w_33.toInt ≤ 402 := bw_33
        have ek_34 : w_33.toInt.toNat = hv_sk tf ln0.toInt.toNat w_26.toInt.toNat := by omega
        refine lv_aload_n hx hb dX6_readTerm_76 rfl (lv_at hl 3 rfl) ?_
        refine hk_geti hx hb hts hC_6 hown hW (gx.S hM) tt_6 2 (by decide) rfl kw_127 ⟨rfl, rfl, rfl⟩ fw_33 dX6_readTerm_77 ?_
        refine lv_istore_n (lv' := [(1, .int w_33), (3, .int r_23), (2, .int r_10), (0, .ref x)]) hx hb dX6_readTerm_80 rfl hl (by decide) rfl (fun ls hl => ?_)
        have hb9 : w_26.toInt.toNat = hv_sk tf ln0.toInt.toNat (hv_we tf ln0.toInt.toNat w_6.toInt.toNat) + (hv_sg tf ln0.toInt.toNat (hv_sk tf ln0.toInt.toNat (hv_we tf ln0.toInt.toNat w_6.toInt.toNat))).2 := by omega
        have ht9 := hv_term_o (T := tf) (n := ln0.toInt.toNat) (p := w_6.toInt.toNat) (t := tm0.toInt.toNat) (o := o) (u := w_33.toInt.toNat) (by omega) (by omega) (by omega) (by rw [ek_34, hb9])
        have uid : hv_sk tf ln0.toInt.toNat w_33.toInt.toNat = w_33.toInt.toNat := by rw [ek_34]; exact hv_sk_id
        refine lv_aload_n hx hb dX6_readTerm_81 rfl (lv_at hl 3 rfl) ?_
        refine lv_aload_n hx hb dX6_readTerm_82 rfl (lv_at hl 3 rfl) ?_
        refine hk_geti hx hb hts hC_6 hown hW (gx.S hM) tt_6 2 (by decide) rfl kw_127 ⟨rfl, rfl, rfl⟩ fw_33 dX6_readTerm_83 ?_
        refine hx_goi (hx_runV (As := [.int w_33]) (rest := []) ⟨hx, hb, hml, hown, hts⟩ hW (gx.S hM) tt_6 (T := TX6) (N := 7) rfl (t_X6_isDigit_v l dC dI dA L_28 h_29 H.size x w_33 hT (gx.S hM) qt (gqt.S hM) ((hM.o gx trivial rfl).2.trans f_x_0) tf (hx_afS hM gqt rfl af_qt) ln0 ((hM.o gx trivial rfl).1.trans f_x_1) (by omega)) (cwV 1 hts (hx_gV kw_544 kw_541 kw_543 kw_10 kw_95) rfl rfl rfl (by decide +kernel) ⟨Nat.le_of_ble_eq_true rfl, Nat.le_of_ble_eq_true rfl⟩) rfl hl.1 rfl (Nat.le_of_ble_eq_true rfl) dX6_readTerm_86 ⟨Nat.le_of_ble_eq_true rfl, Nat.le_of_ble_eq_true rfl⟩) hW (fun r_37 L_35 h_36 H locs p_38 hW => ?_)
        obtain ⟨hr_39, hT, hs⟩ := p_38
        replace hT : hx_T T_tb L_35 h_36 := hT
        replace hs : hx_S T_tb [] L_28 h_29 L_35 h_36 := hs
        replace f_x_3 := (hs.o (gx.S hM) trivial rfl).1.trans f_x_3
        replace f_qi_4 := (hs.o (gqi.S hM) trivial rfl).1.trans f_qi_4
        replace f_20 := (hs.o (gx.S hM) trivial rfl).1.trans f_20
        replace fw_33 := (hs.o (gx.S hM) trivial rfl).1.trans fw_33
        replace af_qp : h_36.2.1 qp = pf := (funext fun j => (hs.a (gqp.S hM) rfl j).1).trans af_qp
        replace hM := hM.tr (hs.mono (by decide))
        refine hb_if_ne (zx := r_37.toInt) (tgt := 96) hx hb rfl dX6_readTerm_89 (by decide) (fun c_40 => ?_) (fun c_40 => ?_)
        · skip
          refine lv_iconst (v := 0) hx hb dX6_readTerm_96 (by decide) ?_
          refine lv_istore (lv' := [(4, .int (0 : Int32)), (1, .int w_33), (3, .int r_23), (2, .int r_10), (0, .ref x)]) hx hb dX6_readTerm_97 hl (by decide) rfl (fun ls hl => ?_)
          refine lv_iload hx hb dX6_readTerm_99 (lv_at hl 0 rfl) ?_
          refine hb_if_eq (zx := 0) (tgt := 113) hx hb (by decide) dX6_readTerm_101 (by decide) (fun c_41 => ?_) (fun c_41 => absurd c_41 (by decide))
          refine lv_aload_n hx hb dX6_readTerm_113 rfl (lv_at hl 4 rfl) ?_
          refine hx_goi (hx_runV (As := []) (rest := []) ⟨hx, hb, hml, hown, hts⟩ hW (gx.S hM) tt_6 (T := TX6) (N := 7) rfl (t_X6_readNumber_v l dC dI dA L_35 h_36 H.size x hT (gx.S hM) qt (gqt.S hM) ((hM.o gx trivial rfl).2.trans f_x_0) tf (hx_afS hM gqt rfl af_qt) w_33 fw_33 ln0 ((hM.o gx trivial rfl).1.trans f_x_1) (by omega)) (cwV 0 hts (hx_gV kw_548 kw_545 kw_547 kw_11 kw_95) rfl rfl rfl (by decide +kernel) ⟨Nat.le_of_ble_eq_true rfl, Nat.le_of_ble_eq_true rfl⟩) rfl hl.1 rfl (Nat.le_of_ble_eq_true rfl) dX6_readTerm_114 ⟨Nat.le_of_ble_eq_true rfl, Nat.le_of_ble_eq_true rfl⟩) hW (fun r_44 L_42 h_43 H locs p_45 hW => ?_)
          obtain ⟨⟨w_47, fw_47, hr_46⟩, hT, hs⟩ := p_45
          replace hT : hx_T T_tb L_42 h_43 := hT
          replace hs : hx_S T_tb [(6, 2)] L_35 h_36 L_42 h_43 := hs
          replace f_x_3 := (hs.o (gx.S hM) trivial rfl).1.trans f_x_3
          replace f_qi_4 := (hs.o (gqi.S hM) trivial rfl).1.trans f_qi_4
          replace f_20 := (hs.o (gx.S hM) trivial rfl).1.trans f_20
          replace af_qp : h_43.2.1 qp = pf := (funext fun j => (hs.a (gqp.S hM) rfl j).1).trans af_qp
          replace hM := hM.tr (hs.mono (by decide))
          have fw_47 : h_43.2.1 x 2 = w_47 := fw_47
          have bw_47 := hT.gi (gx.S hM) tt_6 (k := 2) rfl
          rw [fw_47] at bw_47
          have bw_47 : 0 ≤ w_47.toInt ∧ w_47.toInt ≤ 402 := bw_47
          refine lv_istore (lv' := [(5, .int r_44), (4, .int (0 : Int32)), (1, .int w_33), (3, .int r_23), (2, .int r_10), (0, .ref x)]) hx hb dX6_readTerm_117 hl (by decide) rfl (fun ls hl => ?_)
          refine lv_iload hx hb dX6_readTerm_119 (lv_at hl 0 rfl) ?_
          refine hb_if_ge (zx := r_44.toInt) (tgt := 140) hx hb rfl dX6_readTerm_121 (by decide) (fun c_48 => ?_) (fun c_48 => ?_)
          · skip
            refine lv_aload_n hx hb dX6_readTerm_140 rfl (lv_at hl 5 rfl) ?_
            refine hk_getr hx hb hts hC_6 hown hW (gx.S hM) tt_6 6 (by decide) rfl kw_131 ⟨rfl, rfl, rfl⟩ ((hM.o gx trivial rfl).2.trans f_x_6) dX6_readTerm_141 ?_
            refine lv_iload_n hx hb dX6_readTerm_144 rfl (lv_at hl 4 rfl) ?_
            refine lv_iload_n hx hb dX6_readTerm_145 rfl (lv_at hl 3 rfl) ?_
            refine lv_iload hx hb dX6_readTerm_146 (lv_at hl 1 rfl) ?_
            refine lv_iload hx hb dX6_readTerm_148 (lv_at hl 0 rfl) ?_
            have zc_0 : (0 : Int32).toInt = 0 := by decide
            refine hx_goi (hx_runS (As := [.int r_10, .int r_23, .int (0 : Int32), .int r_44]) (rest := [.ref qi]) ⟨hx, hb, hml, hown, hts⟩ hW (t_X0_term_v l dC dI dA L_42 h_43 H.size r_10 r_23 (0 : Int32) r_44 hT ⟨by omega, by omega⟩ ⟨by omega, by omega⟩ ⟨by omega, by omega⟩ ⟨by omega, by omega⟩) (va_cwS 4 hts (hx_gS kw_161 kw_579 kw_160 kw_96) rfl rfl rfl (by decide +kernel) ⟨Nat.le_of_ble_eq_true rfl, Nat.le_of_ble_eq_true rfl⟩) rfl hl.1 rfl (Nat.le_of_ble_eq_true rfl) dX6_readTerm_150 ⟨Nat.le_of_ble_eq_true rfl, Nat.le_of_ble_eq_true rfl⟩) hW (fun r_51 L_49 h_50 H locs p_52 hW => ?_)
            obtain ⟨hr_53, hT, hs⟩ := p_52
            replace hT : hx_T T_tb L_49 h_50 := hT
            replace hs : hx_S T_tb [] L_42 h_43 L_49 h_50 := hs
            replace f_x_3 := (hs.o (gx.S hM) trivial rfl).1.trans f_x_3
            replace f_qi_4 := (hs.o (gqi.S hM) trivial rfl).1.trans f_qi_4
            replace f_20 := (hs.o (gx.S hM) trivial rfl).1.trans f_20
            replace fw_47 := (hs.o (gx.S hM) trivial rfl).1.trans fw_47
            replace af_qp : h_50.2.1 qp = pf := (funext fun j => (hs.a (gqp.S hM) rfl j).1).trans af_qp
            replace hM := hM.tr (hs.mono (by decide))
            refine hx_gov (hx_runV (As := [.int r_51]) (rest := []) ⟨hx, hb, hml, hown, hts⟩ hW (gqi.S hM) tt_129 (T := TX0) (N := 5) rfl (t_X0_addProof_v l dC dI dA L_49 h_50 H.size qi r_51 hT (gqi.S hM) qp (gqp.S hM) ((hM.o gqi trivial rfl).2.trans f_qi_3) pf af_qp pl0 f_qi_4 (by omega)) (cwV 1 hts (hx_gV kw_583 kw_580 kw_581 kw_582 kw_96) rfl rfl rfl (by decide +kernel) ⟨Nat.le_of_ble_eq_true rfl, Nat.le_of_ble_eq_true rfl⟩) rfl hl.1 rfl (Nat.le_of_ble_eq_true rfl) dX6_readTerm_153 ⟨Nat.le_of_ble_eq_true rfl, Nat.le_of_ble_eq_true rfl⟩) hW (fun L_54 h_55 H locs p_57 hW => ?_)
            obtain ⟨⟨w_59, w_60, fw_59, fw_60, hr_58⟩, hT, hs⟩ := p_57
            replace hT : hx_T T_tb L_54 h_55 := hT
            replace hs : hx_S T_tb [(128, 0), (129, 4)] L_49 h_50 L_54 h_55 := hs
            replace f_x_3 := (hs.o (gx.S hM) trivial rfl).1.trans f_x_3
            replace f_20 := (hs.o (gx.S hM) trivial rfl).1.trans f_20
            replace fw_47 := (hs.o (gx.S hM) trivial rfl).1.trans fw_47
            replace hM := hM.tr (hs.mono (by decide))
            have fw_59 : h_55.2.1 qi 4 = w_59 := fw_59
            have bw_59 := hT.gi (gqi.S hM) tt_129 (k := 4) rfl
            rw [fw_59] at bw_59
            have bw_59 : 0 ≤ w_59.toInt ∧ w_59.toInt ≤ 160 := bw_59
            have fw_60 : h_55.2.1 qp = w_60 := fw_60
            refine lv_iconst (v := 1) hx hb dX6_readTerm_156 (by decide) ?_
            exact hx_retz hx hb hr rfl hlk hW ⟨⟨w_47, ft0, x_18, w_59, w_60, fw_47, f_x_3, f_20, fw_59, fw_60, (hv_K_t (x := hv_de tf ln0.toInt.toNat w_33.toInt.toNat) (y := tm0.toInt.toNat + 1) (o := (hv_wd tf ln0.toInt.toNat w_6.toInt.toNat - 2, (hv_sg tf ln0.toInt.toNat (hv_sk tf ln0.toInt.toNat (hv_we tf ln0.toInt.toNat w_6.toInt.toNat))).1, hv_dv tf w_33.toInt.toNat (hv_de tf ln0.toInt.toNat w_33.toInt.toNat - w_33.toInt.toNat)) :: o) (by decide) (by omega) (by omega) (by omega) (hv_ls_u hO (by have h8 := hv_cc_n (w := hv_wd tf ln0.toInt.toNat w_6.toInt.toNat) (l := r_10.toInt) (r := r_44.toInt) (v := r_51.toInt) (g := hv_sg tf ln0.toInt.toNat (hv_sk tf ln0.toInt.toNat (hv_we tf ln0.toInt.toNat w_6.toInt.toNat))) (by omega) (by omega) (by omega) (by omega) (by omega); rw [show hv_dv tf w_33.toInt.toNat (hv_de tf ln0.toInt.toNat w_33.toInt.toNat - w_33.toInt.toNat) = r_44.toInt by omega]; exact h8) (by omega) hr_58.2) (by rw [← ek_7]; exact ht9.trans (hv_rt_4 (by omega) (by rcases hr_39 with z | z; exact z.2.2; exfalso; omega) (by omega))))⟩, hT, hM⟩ dX6_readTerm_157
          · skip
            refine lv_aload_n hx hb dX6_readTerm_124 rfl (lv_at hl 5 rfl) ?_
            refine lv_iload_n hx hb dX6_readTerm_125 rfl (lv_at hl 2 rfl) ?_
            refine lv_iload hx hb dX6_readTerm_126 (lv_at hl 1 rfl) ?_
            refine hb_if_eq (zx := 0) (tgt := 135) hx hb (by decide) dX6_readTerm_128 (by decide) (fun c_61 => ?_) (fun c_61 => absurd c_61 (by decide))
            refine lv_iconst (v := 1) hx hb dX6_readTerm_135 (by decide) ?_
            have zc_1 : (1 : Int32).toInt = 1 := by decide
            refine hx_goi (hx_runV (As := [.int w_33, .int (1 : Int32)]) (rest := []) ⟨hx, hb, hml, hown, hts⟩ hW (gx.S hM) tt_6 (T := TX6) (N := 7) rfl (t_X6_refuse_v l dC dI dA L_42 h_43 H.size x w_33 (1 : Int32) hT (gx.S hM) ⟨by omega, by omega⟩ (by decide)) (cwV 2 hts (hx_gV kw_527 kw_524 kw_526 kw_6 kw_95) rfl rfl rfl (by decide +kernel) ⟨Nat.le_of_ble_eq_true rfl, Nat.le_of_ble_eq_true rfl⟩) rfl hl.1 rfl (Nat.le_of_ble_eq_true rfl) dX6_readTerm_136 ⟨Nat.le_of_ble_eq_true rfl, Nat.le_of_ble_eq_true rfl⟩) hW (fun r_64 L_62 h_63 H locs p_65 hW => ?_)
            obtain ⟨⟨w_67, fw_67, hr_66⟩, hT, hs⟩ := p_65
            replace hT : hx_T T_tb L_62 h_63 := hT
            replace hs : hx_S T_tb [(6, 3)] L_42 h_43 L_62 h_63 := hs
            replace f_qi_4 := (hs.o (gqi.S hM) trivial rfl).1.trans f_qi_4
            replace f_20 := (hs.o (gx.S hM) trivial rfl).1.trans f_20
            replace fw_47 := (hs.o (gx.S hM) trivial rfl).1.trans fw_47
            replace af_qp : h_63.2.1 qp = pf := (funext fun j => (hs.a (gqp.S hM) rfl j).1).trans af_qp
            replace hM := hM.tr (hs.mono (by decide))
            have fw_67 : h_63.2.1 x 3 = w_67 := fw_67
            have bw_67 := hT.gi (gx.S hM) tt_6 (k := 3) rfl
            rw [fw_67] at bw_67
            have bw_67 : -2147483648 ≤ w_67.toInt ∧ w_67.toInt ≤ 2147483647 := bw_67
            exact hx_retz hx hb hr (hx_nar01 (by omega)) hlk hW ⟨⟨w_47, w_67, x_18, pl0, pf, fw_47, fw_67, f_20, f_qi_4, af_qp, (hv_K_f (x := 2 + 8 * w_33.toInt.toNat) (by omega) (by omega) (by omega) (by rw [← ek_7]; exact ht9.trans (hv_rt_3 (by omega) (by rcases hr_39 with z | z; exact z.2.2; exfalso; omega) (by omega))))⟩, hT, hM⟩ dX6_readTerm_139
        · skip
          refine lv_iconst (v := 1) hx hb dX6_readTerm_92 (by decide) ?_
          refine lv_goto (tgt := 97) hx hb dX6_readTerm_93 (by decide) ?_
          refine lv_istore (lv' := [(4, .int (1 : Int32)), (1, .int w_33), (3, .int r_23), (2, .int r_10), (0, .ref x)]) hx hb dX6_readTerm_97 hl (by decide) rfl (fun ls hl => ?_)
          refine lv_iload hx hb dX6_readTerm_99 (lv_at hl 0 rfl) ?_
          refine hb_if_eq (zx := 1) (tgt := 113) hx hb (by decide) dX6_readTerm_101 (by decide) (fun c_68 => absurd c_68 (by decide)) (fun c_68 => ?_)
          refine lv_aload_n hx hb dX6_readTerm_104 rfl (lv_at hl 4 rfl) ?_
          refine va_ldcS (tx := P_st.getD 5 "") hx hb hown (zVR 5 (by decide)) dX6_readTerm_105 ?_
          refine hx_goi (hx_runVX (As := [.ref (b0.2.2.2.1 5)]) (rest := []) ⟨hx, hb, hml, hown, hts⟩ hW (gx.S hM) tt_6 (T := TX6) (N := 7) rfl (t_X6_readWord_v l dC dI dA L_35 h_36 H.size b0 x 5 hT (gx.S hM) (by decide) qt (gqt.S hM) ((hM.o gx trivial rfl).2.trans f_x_0) tf (hx_afS hM gqt rfl af_qt) w_33 fw_33 ln0 ((hM.o gx trivial rfl).1.trans f_x_1) (by omega)) hZ (cwV 1 hts (hx_gV kw_467 kw_464 kw_466 kw_3 kw_95) rfl rfl rfl (by decide +kernel) ⟨Nat.le_of_ble_eq_true rfl, Nat.le_of_ble_eq_true rfl⟩) rfl hl.1 rfl (Nat.le_of_ble_eq_true rfl) dX6_readTerm_107 ⟨Nat.le_of_ble_eq_true rfl, Nat.le_of_ble_eq_true rfl⟩) hW (fun r_71 L_69 h_70 H locs p_72 hW => ?_)
          obtain ⟨⟨w_74, fw_74, hr_73⟩, hT, hs⟩ := p_72
          replace hT : hx_T T_tb L_69 h_70 := hT
          replace hs : hx_S T_tb [(6, 2)] L_35 h_36 L_69 h_70 := hs
          replace f_x_3 := (hs.o (gx.S hM) trivial rfl).1.trans f_x_3
          replace f_qi_4 := (hs.o (gqi.S hM) trivial rfl).1.trans f_qi_4
          replace f_20 := (hs.o (gx.S hM) trivial rfl).1.trans f_20
          replace af_qp : h_70.2.1 qp = pf := (funext fun j => (hs.a (gqp.S hM) rfl j).1).trans af_qp
          replace hM := hM.tr (hs.mono (by decide))
          have fw_74 : h_70.2.1 x 2 = w_74 := fw_74
          have bw_74 := hT.gi (gx.S hM) tt_6 (k := 2) rfl
          rw [fw_74] at bw_74
          have bw_74 : 0 ≤ w_74.toInt ∧ w_74.toInt ≤ 402 := bw_74
          have eu_75 := hv_RW_5 hr_73.2.1
          have hr2 := hr_73.1; rw [uid] at hr2 eu_75
          refine lv_goto (tgt := 117) hx hb dX6_readTerm_110 (by decide) ?_
          refine lv_istore (lv' := [(5, .int r_71), (4, .int (1 : Int32)), (1, .int w_33), (3, .int r_23), (2, .int r_10), (0, .ref x)]) hx hb dX6_readTerm_117 hl (by decide) rfl (fun ls hl => ?_)
          refine lv_iload hx hb dX6_readTerm_119 (lv_at hl 0 rfl) ?_
          refine hb_if_ge (zx := r_71.toInt) (tgt := 140) hx hb rfl dX6_readTerm_121 (by decide) (fun c_76 => ?_) (fun c_76 => ?_)
          · skip
            refine lv_aload_n hx hb dX6_readTerm_140 rfl (lv_at hl 5 rfl) ?_
            refine hk_getr hx hb hts hC_6 hown hW (gx.S hM) tt_6 6 (by decide) rfl kw_131 ⟨rfl, rfl, rfl⟩ ((hM.o gx trivial rfl).2.trans f_x_6) dX6_readTerm_141 ?_
            refine lv_iload_n hx hb dX6_readTerm_144 rfl (lv_at hl 4 rfl) ?_
            refine lv_iload_n hx hb dX6_readTerm_145 rfl (lv_at hl 3 rfl) ?_
            refine lv_iload hx hb dX6_readTerm_146 (lv_at hl 1 rfl) ?_
            refine lv_iload hx hb dX6_readTerm_148 (lv_at hl 0 rfl) ?_
            have zc_1 : (1 : Int32).toInt = 1 := by decide
            refine hx_goi (hx_runS (As := [.int r_10, .int r_23, .int (1 : Int32), .int r_71]) (rest := [.ref qi]) ⟨hx, hb, hml, hown, hts⟩ hW (t_X0_term_v l dC dI dA L_69 h_70 H.size r_10 r_23 (1 : Int32) r_71 hT ⟨by omega, by omega⟩ ⟨by omega, by omega⟩ ⟨by omega, by omega⟩ ⟨by omega, by omega⟩) (va_cwS 4 hts (hx_gS kw_161 kw_579 kw_160 kw_96) rfl rfl rfl (by decide +kernel) ⟨Nat.le_of_ble_eq_true rfl, Nat.le_of_ble_eq_true rfl⟩) rfl hl.1 rfl (Nat.le_of_ble_eq_true rfl) dX6_readTerm_150 ⟨Nat.le_of_ble_eq_true rfl, Nat.le_of_ble_eq_true rfl⟩) hW (fun r_79 L_77 h_78 H locs p_80 hW => ?_)
            obtain ⟨hr_81, hT, hs⟩ := p_80
            replace hT : hx_T T_tb L_77 h_78 := hT
            replace hs : hx_S T_tb [] L_69 h_70 L_77 h_78 := hs
            replace f_x_3 := (hs.o (gx.S hM) trivial rfl).1.trans f_x_3
            replace f_qi_4 := (hs.o (gqi.S hM) trivial rfl).1.trans f_qi_4
            replace f_20 := (hs.o (gx.S hM) trivial rfl).1.trans f_20
            replace fw_74 := (hs.o (gx.S hM) trivial rfl).1.trans fw_74
            replace af_qp : h_78.2.1 qp = pf := (funext fun j => (hs.a (gqp.S hM) rfl j).1).trans af_qp
            replace hM := hM.tr (hs.mono (by decide))
            refine hx_gov (hx_runV (As := [.int r_79]) (rest := []) ⟨hx, hb, hml, hown, hts⟩ hW (gqi.S hM) tt_129 (T := TX0) (N := 5) rfl (t_X0_addProof_v l dC dI dA L_77 h_78 H.size qi r_79 hT (gqi.S hM) qp (gqp.S hM) ((hM.o gqi trivial rfl).2.trans f_qi_3) pf af_qp pl0 f_qi_4 (by omega)) (cwV 1 hts (hx_gV kw_583 kw_580 kw_581 kw_582 kw_96) rfl rfl rfl (by decide +kernel) ⟨Nat.le_of_ble_eq_true rfl, Nat.le_of_ble_eq_true rfl⟩) rfl hl.1 rfl (Nat.le_of_ble_eq_true rfl) dX6_readTerm_153 ⟨Nat.le_of_ble_eq_true rfl, Nat.le_of_ble_eq_true rfl⟩) hW (fun L_82 h_83 H locs p_85 hW => ?_)
            obtain ⟨⟨w_87, w_88, fw_87, fw_88, hr_86⟩, hT, hs⟩ := p_85
            replace hT : hx_T T_tb L_82 h_83 := hT
            replace hs : hx_S T_tb [(128, 0), (129, 4)] L_77 h_78 L_82 h_83 := hs
            replace f_x_3 := (hs.o (gx.S hM) trivial rfl).1.trans f_x_3
            replace f_20 := (hs.o (gx.S hM) trivial rfl).1.trans f_20
            replace fw_74 := (hs.o (gx.S hM) trivial rfl).1.trans fw_74
            replace hM := hM.tr (hs.mono (by decide))
            have fw_87 : h_83.2.1 qi 4 = w_87 := fw_87
            have bw_87 := hT.gi (gqi.S hM) tt_129 (k := 4) rfl
            rw [fw_87] at bw_87
            have bw_87 : 0 ≤ w_87.toInt ∧ w_87.toInt ≤ 160 := bw_87
            have fw_88 : h_83.2.1 qp = w_88 := fw_88
            refine lv_iconst (v := 1) hx hb dX6_readTerm_156 (by decide) ?_
            exact hx_retz hx hb hr rfl hlk hW ⟨⟨w_74, ft0, x_18, w_87, w_88, fw_74, f_x_3, f_20, fw_87, fw_88, (hv_K_t (x := hv_we tf ln0.toInt.toNat w_33.toInt.toNat) (y := tm0.toInt.toNat + 1) (o := (hv_wd tf ln0.toInt.toNat w_6.toInt.toNat - 2, (hv_sg tf ln0.toInt.toNat (hv_sk tf ln0.toInt.toNat (hv_we tf ln0.toInt.toNat w_6.toInt.toNat))).1, 10000 + (hv_wd tf ln0.toInt.toNat w_33.toInt.toNat - 3)) :: o) (by decide) (by omega) (by omega) (by omega) (hv_ls_u hO (by have h8 := hv_cc_w (w := hv_wd tf ln0.toInt.toNat w_6.toInt.toNat) (l := r_10.toInt) (r := r_71.toInt) (v := r_79.toInt) (g := hv_sg tf ln0.toInt.toNat (hv_sk tf ln0.toInt.toNat (hv_we tf ln0.toInt.toNat w_6.toInt.toNat))) (by omega) (by omega) (by omega) (by omega) (by omega); rw [show hv_wd tf ln0.toInt.toNat w_33.toInt.toNat - 3 = r_71.toInt by omega]; exact h8) (by omega) hr_86.2) (by rw [← ek_7]; exact ht9.trans (hv_rt_2 (by omega))))⟩, hT, hM⟩ dX6_readTerm_157
          · skip
            refine lv_aload_n hx hb dX6_readTerm_124 rfl (lv_at hl 5 rfl) ?_
            refine lv_iload_n hx hb dX6_readTerm_125 rfl (lv_at hl 2 rfl) ?_
            refine lv_iload hx hb dX6_readTerm_126 (lv_at hl 1 rfl) ?_
            refine hb_if_eq (zx := 1) (tgt := 135) hx hb (by decide) dX6_readTerm_128 (by decide) (fun c_89 => absurd c_89 (by decide)) (fun c_89 => ?_)
            refine lv_iconst (v := 0) hx hb dX6_readTerm_131 (by decide) ?_
            refine lv_goto (tgt := 136) hx hb dX6_readTerm_132 (by decide) ?_
            have zc_0 : (0 : Int32).toInt = 0 := by decide
            refine hx_goi (hx_runV (As := [.int w_33, .int (0 : Int32)]) (rest := []) ⟨hx, hb, hml, hown, hts⟩ hW (gx.S hM) tt_6 (T := TX6) (N := 7) rfl (t_X6_refuse_v l dC dI dA L_69 h_70 H.size x w_33 (0 : Int32) hT (gx.S hM) ⟨by omega, by omega⟩ (by decide)) (cwV 2 hts (hx_gV kw_527 kw_524 kw_526 kw_6 kw_95) rfl rfl rfl (by decide +kernel) ⟨Nat.le_of_ble_eq_true rfl, Nat.le_of_ble_eq_true rfl⟩) rfl hl.1 rfl (Nat.le_of_ble_eq_true rfl) dX6_readTerm_136 ⟨Nat.le_of_ble_eq_true rfl, Nat.le_of_ble_eq_true rfl⟩) hW (fun r_92 L_90 h_91 H locs p_93 hW => ?_)
            obtain ⟨⟨w_95, fw_95, hr_94⟩, hT, hs⟩ := p_93
            replace hT : hx_T T_tb L_90 h_91 := hT
            replace hs : hx_S T_tb [(6, 3)] L_69 h_70 L_90 h_91 := hs
            replace f_qi_4 := (hs.o (gqi.S hM) trivial rfl).1.trans f_qi_4
            replace f_20 := (hs.o (gx.S hM) trivial rfl).1.trans f_20
            replace fw_74 := (hs.o (gx.S hM) trivial rfl).1.trans fw_74
            replace af_qp : h_91.2.1 qp = pf := (funext fun j => (hs.a (gqp.S hM) rfl j).1).trans af_qp
            replace hM := hM.tr (hs.mono (by decide))
            have fw_95 : h_91.2.1 x 3 = w_95 := fw_95
            have bw_95 := hT.gi (gx.S hM) tt_6 (k := 3) rfl
            rw [fw_95] at bw_95
            have bw_95 : -2147483648 ≤ w_95.toInt ∧ w_95.toInt ≤ 2147483647 := bw_95
            exact hx_retz hx hb hr (hx_nar01 (by omega)) hlk hW ⟨⟨w_74, w_95, x_18, pl0, pf, fw_74, fw_95, f_20, f_qi_4, af_qp, (hv_K_f (x := 1 + 8 * w_33.toInt.toNat) (by omega) (by omega) (by omega) (by rw [← ek_7]; exact ht9.trans (hv_rt_1 (by omega) (by rcases hr_39 with z | z; (exfalso; omega); exact fun z9 => z.2 (by omega)))))⟩, hT, hM⟩ dX6_readTerm_139
      · skip
        refine lv_aload_n hx hb dX6_readTerm_62 rfl (lv_at hl 3 rfl) ?_
        refine lv_aload_n hx hb dX6_readTerm_63 rfl (lv_at hl 3 rfl) ?_
        refine hk_geti hx hb hts hC_6 hown hW (gx.S hM) tt_6 2 (by decide) rfl kw_127 ⟨rfl, rfl, rfl⟩ fw_26 dX6_readTerm_64 ?_
        refine lv_iconst (v := 0) hx hb dX6_readTerm_67 (by decide) ?_
        have zc_0 : (0 : Int32).toInt = 0 := by decide
        refine hx_goi (hx_runV (As := [.int w_26, .int (0 : Int32)]) (rest := []) ⟨hx, hb, hml, hown, hts⟩ hW (gx.S hM) tt_6 (T := TX6) (N := 7) rfl (t_X6_refuse_v l dC dI dA L_21 h_22 H.size x w_26 (0 : Int32) hT (gx.S hM) ⟨by omega, by omega⟩ (by decide)) (cwV 2 hts (hx_gV kw_527 kw_524 kw_526 kw_6 kw_95) rfl rfl rfl (by decide +kernel) ⟨Nat.le_of_ble_eq_true rfl, Nat.le_of_ble_eq_true rfl⟩) rfl hl.1 rfl (Nat.le_of_ble_eq_true rfl) dX6_readTerm_68 ⟨Nat.le_of_ble_eq_true rfl, Nat.le_of_ble_eq_true rfl⟩) hW (fun r_98 L_96 h_97 H locs p_99 hW => ?_)
        obtain ⟨⟨w_101, fw_101, hr_100⟩, hT, hs⟩ := p_99
        replace hT : hx_T T_tb L_96 h_97 := hT
        replace hs : hx_S T_tb [(6, 3)] L_21 h_22 L_96 h_97 := hs
        replace f_qi_4 := (hs.o (gqi.S hM) trivial rfl).1.trans f_qi_4
        replace f_20 := (hs.o (gx.S hM) trivial rfl).1.trans f_20
        replace fw_26 := (hs.o (gx.S hM) trivial rfl).1.trans fw_26
        replace af_qp : h_97.2.1 qp = pf := (funext fun j => (hs.a (gqp.S hM) rfl j).1).trans af_qp
        replace hM := hM.tr (hs.mono (by decide))
        have fw_101 : h_97.2.1 x 3 = w_101 := fw_101
        have bw_101 := hT.gi (gx.S hM) tt_6 (k := 3) rfl
        rw [fw_101] at bw_101
        have bw_101 : -2147483648 ≤ w_101.toInt ∧ w_101.toInt ≤ 2147483647 := bw_101
        exact hx_retz hx hb hr (hx_nar01 (by omega)) hlk hW ⟨⟨w_26, w_101, x_18, pl0, pf, fw_26, fw_101, f_20, f_qi_4, af_qp, (hv_K_f (x := 1 + 8 * hv_sk tf ln0.toInt.toNat (hv_we tf ln0.toInt.toNat w_6.toInt.toNat)) (by omega) (by omega) (by omega) (by rw [← ek_7]; exact hv_term_3 (by omega) (by omega) (by omega)))⟩, hT, hM⟩ dX6_readTerm_71
    · skip
      refine lv_aload_n hx hb dX6_readTerm_36 rfl (lv_at hl 2 rfl) ?_
      refine lv_iload_n hx hb dX6_readTerm_37 rfl (lv_at hl 1 rfl) ?_
      refine lv_iconst (v := 4) hx hb dX6_readTerm_38 (by decide) ?_
      have zc_4 : (4 : Int32).toInt = 4 := by decide
      refine hx_goi (hx_runV (As := [.int w_6, .int (4 : Int32)]) (rest := []) ⟨hx, hb, hml, hown, hts⟩ hW (gx.S hM) tt_6 (T := TX6) (N := 7) rfl (t_X6_refuse_v l dC dI dA L_8 h_9 H.size x w_6 (4 : Int32) hT (gx.S hM) ⟨by omega, by omega⟩ (by decide)) (cwV 2 hts (hx_gV kw_527 kw_524 kw_526 kw_6 kw_95) rfl rfl rfl (by decide +kernel) ⟨Nat.le_of_ble_eq_true rfl, Nat.le_of_ble_eq_true rfl⟩) rfl hl.1 rfl (Nat.le_of_ble_eq_true rfl) dX6_readTerm_39 ⟨Nat.le_of_ble_eq_true rfl, Nat.le_of_ble_eq_true rfl⟩) hW (fun r_104 L_102 h_103 H locs p_105 hW => ?_)
      obtain ⟨⟨w_107, fw_107, hr_106⟩, hT, hs⟩ := p_105
      replace hT : hx_T T_tb L_102 h_103 := hT
      replace hs : hx_S T_tb [(6, 3)] L_8 h_9 L_102 h_103 := hs
      replace f_x_5 := (hs.o (gx.S hM) trivial rfl).1.trans f_x_5
      replace f_qi_4 := (hs.o (gqi.S hM) trivial rfl).1.trans f_qi_4
      replace fw_13 := (hs.o (gx.S hM) trivial rfl).1.trans fw_13
      replace af_qp : h_103.2.1 qp = pf := (funext fun j => (hs.a (gqp.S hM) rfl j).1).trans af_qp
      replace hM := hM.tr (hs.mono (by decide))
      have fw_107 : h_103.2.1 x 3 = w_107 := fw_107
      have bw_107 := hT.gi (gx.S hM) tt_6 (k := 3) rfl
      rw [fw_107] at bw_107
      have bw_107 : -2147483648 ≤ w_107.toInt ∧ w_107.toInt ≤ 2147483647 := bw_107
      exact hx_retz hx hb hr (hx_nar01 (by omega)) hlk hW ⟨⟨w_13, w_107, tm0, pl0, pf, fw_13, fw_107, f_x_5, f_qi_4, af_qp, (hv_K_f (x := 5 + 8 * w_6.toInt.toNat) (by omega) (by omega) (by omega) (by rw [← ek_7]; exact hv_term_2 (by omega) (by omega)))⟩, hT, hM⟩ dX6_readTerm_42
  · skip
    refine lv_aload_n hx hb dX6_readTerm_20 rfl (lv_at hl 2 rfl) ?_
    refine lv_iload_n hx hb dX6_readTerm_21 rfl (lv_at hl 1 rfl) ?_
    refine lv_iconst (v := 0) hx hb dX6_readTerm_22 (by decide) ?_
    have zc_0 : (0 : Int32).toInt = 0 := by decide
    refine hx_goi (hx_runV (As := [.int w_6, .int (0 : Int32)]) (rest := []) ⟨hx, hb, hml, hown, hts⟩ hW (gx.S hM) tt_6 (T := TX6) (N := 7) rfl (t_X6_refuse_v l dC dI dA L_8 h_9 H.size x w_6 (0 : Int32) hT (gx.S hM) ⟨by omega, by omega⟩ (by decide)) (cwV 2 hts (hx_gV kw_527 kw_524 kw_526 kw_6 kw_95) rfl rfl rfl (by decide +kernel) ⟨Nat.le_of_ble_eq_true rfl, Nat.le_of_ble_eq_true rfl⟩) rfl hl.1 rfl (Nat.le_of_ble_eq_true rfl) dX6_readTerm_23 ⟨Nat.le_of_ble_eq_true rfl, Nat.le_of_ble_eq_true rfl⟩) hW (fun r_110 L_108 h_109 H locs p_111 hW => ?_)
    obtain ⟨⟨w_113, fw_113, hr_112⟩, hT, hs⟩ := p_111
    replace hT : hx_T T_tb L_108 h_109 := hT
    replace hs : hx_S T_tb [(6, 3)] L_8 h_9 L_108 h_109 := hs
    replace f_x_5 := (hs.o (gx.S hM) trivial rfl).1.trans f_x_5
    replace f_qi_4 := (hs.o (gqi.S hM) trivial rfl).1.trans f_qi_4
    replace fw_13 := (hs.o (gx.S hM) trivial rfl).1.trans fw_13
    replace af_qp : h_109.2.1 qp = pf := (funext fun j => (hs.a (gqp.S hM) rfl j).1).trans af_qp
    replace hM := hM.tr (hs.mono (by decide))
    have fw_113 : h_109.2.1 x 3 = w_113 := fw_113
    have bw_113 := hT.gi (gx.S hM) tt_6 (k := 3) rfl
    rw [fw_113] at bw_113
    have bw_113 : -2147483648 ≤ w_113.toInt ∧ w_113.toInt ≤ 2147483647 := bw_113
    exact hx_retz hx hb hr (hx_nar01 (by omega)) hlk hW ⟨⟨w_13, w_113, tm0, pl0, pf, fw_13, fw_113, f_x_5, f_qi_4, af_qp, (hv_K_f (x := 1 + 8 * w_6.toInt.toNat) (by omega) (by omega) (by omega) (by rw [← ek_7]; exact hv_term_1 (by omega)))⟩, hT, hM⟩ dX6_readTerm_26
end
section
def hv_MO (i1 : Int32) (D fr lo : Nat) : Prop := ∀ (l : Launch) (dC : Nat → ClassId) (dI : Nat → Nat → Nat) (dA : Nat → ClassId) (L : List Nat) (h : hx_h) (sz : Nat) (b0 : hx_z) (x : Nat) (hT : hx_T T_tb L h) (gx : hx_g L h x 6) (qt : Nat) (gqt : hx_g L h qt 42) (f_x_0 : h.2.2 x 0 = some qt) (qi : Nat) (gqi : hx_g L h qi 129) (f_x_6 : h.2.2 x 6 = some qi) (qp : Nat) (gqp : hx_g L h qp 128) (f_qi_3 : h.2.2 qi 3 = some qp) (tf : Nat → Int32) (af_qt : h.2.1 qt = tf) (pf : Nat → Int32) (af_qp : h.2.1 qp = pf) (at0 : Int32) (f_x_2 : h.2.1 x 2 = at0) (ln0 : Int32) (f_x_1 : h.2.1 x 1 = ln0) (ft0 : Int32) (f_x_3 : h.2.1 x 3 = ft0) (tm0 : Int32) (f_x_5 : h.2.1 x 5 = tm0) (pl0 : Int32) (f_qi_4 : h.2.1 qi 4 = pl0) (o : List hv_tok) (hO : hv_ls pf pl0.toInt.toNat = o.map hv_cc) (hF : ft0.toInt = 0) (hB : 3 * pl0.toInt ≤ at0.toInt + tm0.toInt) (hA : at0.toInt ≤ ln0.toInt) (hT0 : 0 ≤ tm0.toInt ∧ tm0.toInt ≤ 20), Met l yX6_readOne (Cond.code yX6_readOne cX6_readOne 3 (some .boolean) :: hx_all) ({ frames := fr, cells := 0, slots := 0, locals := lo }) (va_Pc [.ref x, .int i1] (hx_BX T_tb (P_ty dA) (dC, dI) vwCl L h sz b0)) (va_Qi (fun (r : Int32) (u : List Nat × hx_h) => (∃ (at1 : Int32) (ft1 : Int32) (tm1 : Int32) (pl1 : Int32) (pf1 : Nat → Int32), u.2.2.1 x 2 = at1 ∧ u.2.2.1 x 3 = ft1 ∧ u.2.2.1 x 5 = tm1 ∧ u.2.2.1 qi 4 = pl1 ∧ u.2.2.1 qp = pf1 ∧ (hv_K hv_cc (hv_one tf ln0.toInt.toNat D at0.toInt.toNat tm0.toInt.toNat o) r.toInt ft1.toInt at1.toInt tm1.toInt (hv_ls pf1 pl1.toInt.toNat))) ∧ hx_T T_tb u.1 u.2 ∧ hx_S T_tb [(6, 2), (6, 3), (6, 5), (128, 0), (129, 4)] L h u.1 u.2) (hx_E T_tb (P_ty dA) (dC, dI) vwCl (hx_A L sz)) (hx_A L sz)) 0 0 (hx_A L sz)

def hv_ME (i1 : Int32) (D fr lo : Nat) : Prop := ∀ (l : Launch) (dC : Nat → ClassId) (dI : Nat → Nat → Nat) (dA : Nat → ClassId) (L : List Nat) (h : hx_h) (sz : Nat) (b0 : hx_z) (x : Nat) (hT : hx_T T_tb L h) (gx : hx_g L h x 6) (qt : Nat) (gqt : hx_g L h qt 42) (f_x_0 : h.2.2 x 0 = some qt) (qi : Nat) (gqi : hx_g L h qi 129) (f_x_6 : h.2.2 x 6 = some qi) (qp : Nat) (gqp : hx_g L h qp 128) (f_qi_3 : h.2.2 qi 3 = some qp) (tf : Nat → Int32) (af_qt : h.2.1 qt = tf) (pf : Nat → Int32) (af_qp : h.2.1 qp = pf) (at0 : Int32) (f_x_2 : h.2.1 x 2 = at0) (ln0 : Int32) (f_x_1 : h.2.1 x 1 = ln0) (ft0 : Int32) (f_x_3 : h.2.1 x 3 = ft0) (tm0 : Int32) (f_x_5 : h.2.1 x 5 = tm0) (pl0 : Int32) (f_qi_4 : h.2.1 qi 4 = pl0) (o : List hv_tok) (hO : hv_ls pf pl0.toInt.toNat = o.map hv_cc) (hF : ft0.toInt = 0) (hB : 3 * pl0.toInt ≤ at0.toInt + tm0.toInt) (hA : at0.toInt ≤ ln0.toInt) (hT0 : 0 ≤ tm0.toInt ∧ tm0.toInt ≤ 20), Met l yX6_readEither (Cond.code yX6_readEither cX6_readEither 5 (some .boolean) :: hx_all) ({ frames := fr, cells := 0, slots := 0, locals := lo }) (va_Pc [.ref x, .int i1] (hx_BX T_tb (P_ty dA) (dC, dI) vwCl L h sz b0)) (va_Qi (fun (r : Int32) (u : List Nat × hx_h) => (∃ (at1 : Int32) (ft1 : Int32) (tm1 : Int32) (pl1 : Int32) (pf1 : Nat → Int32), u.2.2.1 x 2 = at1 ∧ u.2.2.1 x 3 = ft1 ∧ u.2.2.1 x 5 = tm1 ∧ u.2.2.1 qi 4 = pl1 ∧ u.2.2.1 qp = pf1 ∧ (hv_K hv_cc (hv_LE tf ln0.toInt.toNat D false false at0.toInt.toNat tm0.toInt.toNat o) r.toInt ft1.toInt at1.toInt tm1.toInt (hv_ls pf1 pl1.toInt.toNat))) ∧ hx_T T_tb u.1 u.2 ∧ hx_S T_tb [(6, 2), (6, 3), (6, 5), (128, 0), (129, 4)] L h u.1 u.2) (hx_E T_tb (P_ty dA) (dC, dI) vwCl (hx_A L sz)) (hx_A L sz)) 0 0 (hx_A L sz)


set_option maxHeartbeats 4000000 in
set_option maxRecDepth 100000 in
theorem t_X6_readOne_v8 (l : Launch) (dC : Nat → ClassId) (dI : Nat → Nat → Nat) (dA : Nat → ClassId) (L : List Nat) (h : hx_h) (sz : Nat) (b0 : hx_z) (x : Nat) (hT : hx_T T_tb L h) (gx : hx_g L h x 6) (qt : Nat) (gqt : hx_g L h qt 42) (f_x_0 : h.2.2 x 0 = some qt) (qi : Nat) (gqi : hx_g L h qi 129) (f_x_6 : h.2.2 x 6 = some qi) (qp : Nat) (gqp : hx_g L h qp 128) (f_qi_3 : h.2.2 qi 3 = some qp) (tf : Nat → Int32) (af_qt : h.2.1 qt = tf) (pf : Nat → Int32) (af_qp : h.2.1 qp = pf) (at0 : Int32) (f_x_2 : h.2.1 x 2 = at0) (ln0 : Int32) (f_x_1 : h.2.1 x 1 = ln0) (ft0 : Int32) (f_x_3 : h.2.1 x 3 = ft0) (tm0 : Int32) (f_x_5 : h.2.1 x 5 = tm0) (pl0 : Int32) (f_qi_4 : h.2.1 qi 4 = pl0) (o : List hv_tok) (hO : hv_ls pf pl0.toInt.toNat = o.map hv_cc) (hF : ft0.toInt = 0) (hB : 3 * pl0.toInt ≤ at0.toInt + tm0.toInt) (hA : at0.toInt ≤ ln0.toInt) (hT0 : 0 ≤ tm0.toInt ∧ tm0.toInt ≤ 20) : Met l yX6_readOne (Cond.code yX6_readOne cX6_readOne 3 (some .boolean) :: hx_all) ({ frames := 7, cells := 0, slots := 0, locals := 158 }) (va_Pc [.ref x, .int (8 : Int32)] (hx_BX T_tb (P_ty dA) (dC, dI) vwCl L h sz b0)) (va_Qi (fun (r : Int32) (u : List Nat × hx_h) => (∃ (at1 : Int32) (ft1 : Int32) (tm1 : Int32) (pl1 : Int32) (pf1 : Nat → Int32), u.2.2.1 x 2 = at1 ∧ u.2.2.1 x 3 = ft1 ∧ u.2.2.1 x 5 = tm1 ∧ u.2.2.1 qi 4 = pl1 ∧ u.2.2.1 qp = pf1 ∧ (hv_K hv_cc (hv_one tf ln0.toInt.toNat 0 at0.toInt.toNat tm0.toInt.toNat o) r.toInt ft1.toInt at1.toInt tm1.toInt (hv_ls pf1 pl1.toInt.toNat))) ∧ hx_T T_tb u.1 u.2 ∧ hx_S T_tb [(6, 2), (6, 3), (6, 5), (128, 0), (129, 4)] L h u.1 u.2) (hx_E T_tb (P_ty dA) (dC, dI) vwCl (hx_A L sz)) (hx_A L sz)) 0 0 (hx_A L sz) := by
  refine hx_metX (lv := [(0, .ref x), (1, .int (8 : Int32))]) (by decide +kernel) rfl (Nat.le_of_ble_eq_true rfl) rfl ?_
  intro p e s m below meth c hx hb hml hr hlk hts0 hown hin hsz hW hZ ls hl
  have hts : ∀ w ∈ hx_all, w.before _ s = true := fun w hw => hts0 w (List.mem_cons_of_mem _ hw)
  have hown : s.vm.findClass "SmallCourt$Reader" = some m.cls := hown
  have hM : hx_S T_tb [(6, 2), (6, 3), (6, 5), (128, 0), (129, 4)] L h L h := hx_S.rf
  obtain ⟨zLT, zLA, zMT, zMA, zCS, zSF, zVS, zVR⟩ := hZ.2.2.2.2.2.2
  have b_at0 := hT.gi gx tt_6 (k := 2) rfl
  rw [f_x_2] at b_at0
  have b_at0 : 0 ≤ at0.toInt ∧ at0.toInt ≤ 402 := b_at0
  have b_ln0 := hT.gi gx tt_6 (k := 1) rfl
  rw [f_x_1] at b_ln0
  have b_ln0 : 0 ≤ ln0.toInt ∧ ln0.toInt ≤ 400 := b_ln0
  have b_ft0 := hT.gi gx tt_6 (k := 3) rfl
  rw [f_x_3] at b_ft0
  have b_ft0 : -2147483648 ≤ ft0.toInt ∧ ft0.toInt ≤ 2147483647 := b_ft0
  have b_tm0 := hT.gi gx tt_6 (k := 5) rfl
  rw [f_x_5] at b_tm0
  have b_tm0 : -2147483648 ≤ tm0.toInt ∧ tm0.toInt ≤ 2147483647 := b_tm0
  have b_pl0 := hT.gi gqi tt_129 (k := 4) rfl
  rw [f_qi_4] at b_pl0
  have b_pl0 : 0 ≤ pl0.toInt ∧ pl0.toInt ≤ 160 := b_pl0
  refine lv_aload_n hx hb dX6_readOne_0 rfl (lv_at hl 0 rfl) ?_
  refine va_ldcS (tx := P_st.getD 4 "") hx hb hown (zVR 4 (by decide)) dX6_readOne_1 ?_
  refine hx_goi (hx_runVX (As := [.ref (b0.2.2.2.1 4)]) (rest := []) ⟨hx, hb, hml, hown, hts⟩ hW (gx.S hM) tt_6 (T := TX6) (N := 7) rfl (t_X6_isNextWord_v l dC dI dA L h s.heap.size b0 x 4 hT (gx.S hM) (by decide) qt (gqt.S hM) ((hM.o gx trivial rfl).2.trans f_x_0) tf (hx_afS hM gqt rfl af_qt) at0 f_x_2 ln0 ((hM.o gx trivial rfl).1.trans f_x_1) (by omega)) hZ (cwV 1 hts (hx_gV kw_565 kw_562 kw_564 kw_14 kw_95) rfl rfl rfl (by decide +kernel) ⟨Nat.le_of_ble_eq_true rfl, Nat.le_of_ble_eq_true rfl⟩) rfl hl.1 rfl (Nat.le_of_ble_eq_true rfl) dX6_readOne_3 ⟨Nat.le_of_ble_eq_true rfl, Nat.le_of_ble_eq_true rfl⟩) hW (fun r_3 L_1 h_2 H locs p_4 hW => ?_)
  obtain ⟨⟨w_6, fw_6, hr_5⟩, hT, hs⟩ := p_4
  replace hT : hx_T T_tb L_1 h_2 := hT
  replace hs : hx_S T_tb [(6, 2)] L h L_1 h_2 := hs
  replace f_x_3 := (hs.o (gx.S hM) trivial rfl).1.trans f_x_3
  replace f_x_5 := (hs.o (gx.S hM) trivial rfl).1.trans f_x_5
  replace f_qi_4 := (hs.o (gqi.S hM) trivial rfl).1.trans f_qi_4
  replace af_qp : h_2.2.1 qp = pf := (funext fun j => (hs.a (gqp.S hM) rfl j).1).trans af_qp
  replace hM := hM.tr (hs.mono (by decide))
  have fw_6 : h_2.2.1 x 2 = w_6 := fw_6
  have bw_6 := hT.gi (gx.S hM) tt_6 (k := 2) rfl
  rw [fw_6] at bw_6
  have bw_6 : 0 ≤ w_6.toInt ∧ w_6.toInt ≤ 402 := bw_6
  have eu_7 : (r_3.toInt = 1 ∧ hv_wd tf ln0.toInt.toNat (hv_sk tf ln0.toInt.toNat at0.toInt.toNat) = 2) ∨ (r_3.toInt = 0 ∧ hv_wd tf ln0.toInt.toNat (hv_sk tf ln0.toInt.toNat at0.toInt.toNat) ≠ 2) := hv_NW_u (js := 4) (by decide) hr_5.2.1
  have ek_8 : w_6.toInt.toNat = hv_sk tf ln0.toInt.toNat at0.toInt.toNat := by omega
  rw [← ek_8] at eu_7
  refine lv_istore_n (lv' := [(2, .int r_3), (0, .ref x), (1, .int (8 : Int32))]) hx hb dX6_readOne_6 rfl hl (by decide) rfl (fun ls hl => ?_)
  have sid : hv_sk tf ln0.toInt.toNat w_6.toInt.toNat = w_6.toInt.toNat := by rw [ek_8]; exact hv_sk_id
  have hl0 := hv_ls_l hO
  refine lv_iload_n hx hb dX6_readOne_7 rfl (lv_at hl 0 rfl) ?_
  refine hb_if_ne (zx := r_3.toInt) (tgt := 25) hx hb rfl dX6_readOne_8 (by decide) (fun c_9 => ?_) (fun c_9 => ?_)
  · skip
    replace eu_7 : r_3.toInt = 1 ∧ hv_wd tf ln0.toInt.toNat w_6.toInt.toNat = 2 := by rcases eu_7 with z | z; exact z; exfalso; omega
    refine lv_iload_n hx hb dX6_readOne_25 rfl (lv_at hl 2 rfl) ?_
    refine lv_bipush (v := 8) hx hb dX6_readOne_26 (by decide) ?_
    refine hb_icmp_lt (zx := 8) (zy := 8) (tgt := 41) hx hb (by decide) (by decide) dX6_readOne_28 (by decide) (fun c_10 => absurd c_10 (by decide)) (fun c_10 => ?_)
    refine lv_aload_n hx hb dX6_readOne_31 rfl (lv_at hl 1 rfl) ?_
    refine lv_aload_n hx hb dX6_readOne_32 rfl (lv_at hl 1 rfl) ?_
    refine hk_geti hx hb hts hC_6 hown hW (gx.S hM) tt_6 2 (by decide) rfl kw_127 ⟨rfl, rfl, rfl⟩ fw_6 dX6_readOne_33 ?_
    refine lv_iconst (v := 3) hx hb dX6_readOne_36 (by decide) ?_
    have zc_3 : (3 : Int32).toInt = 3 := by decide
    refine hx_goi (hx_runV (As := [.int w_6, .int (3 : Int32)]) (rest := []) ⟨hx, hb, hml, hown, hts⟩ hW (gx.S hM) tt_6 (T := TX6) (N := 7) rfl (t_X6_refuse_v l dC dI dA L_1 h_2 H.size x w_6 (3 : Int32) hT (gx.S hM) ⟨by omega, by omega⟩ (by decide)) (cwV 2 hts (hx_gV kw_527 kw_524 kw_526 kw_6 kw_95) rfl rfl rfl (by decide +kernel) ⟨Nat.le_of_ble_eq_true rfl, Nat.le_of_ble_eq_true rfl⟩) rfl hl.1 rfl (Nat.le_of_ble_eq_true rfl) dX6_readOne_37 ⟨Nat.le_of_ble_eq_true rfl, Nat.le_of_ble_eq_true rfl⟩) hW (fun r_13 L_11 h_12 H locs p_14 hW => ?_)
    obtain ⟨⟨w_16, fw_16, hr_15⟩, hT, hs⟩ := p_14
    replace hT : hx_T T_tb L_11 h_12 := hT
    replace hs : hx_S T_tb [(6, 3)] L_1 h_2 L_11 h_12 := hs
    replace f_x_5 := (hs.o (gx.S hM) trivial rfl).1.trans f_x_5
    replace f_qi_4 := (hs.o (gqi.S hM) trivial rfl).1.trans f_qi_4
    replace fw_6 := (hs.o (gx.S hM) trivial rfl).1.trans fw_6
    replace af_qp : h_12.2.1 qp = pf := (funext fun j => (hs.a (gqp.S hM) rfl j).1).trans af_qp
    replace hM := hM.tr (hs.mono (by decide))
    have fw_16 : h_12.2.1 x 3 = w_16 := fw_16
    have bw_16 := hT.gi (gx.S hM) tt_6 (k := 3) rfl
    rw [fw_16] at bw_16
    have bw_16 : -2147483648 ≤ w_16.toInt ∧ w_16.toInt ≤ 2147483647 := bw_16
    exact hx_retz hx hb hr (hx_nar01 (by omega)) hlk hW ⟨⟨w_6, w_16, tm0, pl0, pf, fw_6, fw_16, f_x_5, f_qi_4, af_qp, (hv_K_f (x := 4 + 8 * w_6.toInt.toNat) (by omega) (by omega) (by omega) ((hv_one_d (Or.inl (by rw [← ek_8]; exact eu_7.2))).trans (by rw [← ek_8])))⟩, hT, hM⟩ dX6_readOne_40
  · skip
    replace eu_7 : r_3.toInt = 0 ∧ hv_wd tf ln0.toInt.toNat w_6.toInt.toNat ≠ 2 := by rcases eu_7 with z | z; (exfalso; omega); exact z
    refine lv_aload_n hx hb dX6_readOne_11 rfl (lv_at hl 1 rfl) ?_
    refine lv_bipush (v := 40) hx hb dX6_readOne_12 (by decide) ?_
    have zc_40 : (40 : Int32).toInt = 40 := by decide
    refine hx_goi (hx_runV (As := [.int (40 : Int32)]) (rest := []) ⟨hx, hb, hml, hown, hts⟩ hW (gx.S hM) tt_6 (T := TX6) (N := 7) rfl (t_X6_isByte_v l dC dI dA L_1 h_2 H.size x (40 : Int32) hT (gx.S hM) qt (gqt.S hM) ((hM.o gx trivial rfl).2.trans f_x_0) tf (hx_afS hM gqt rfl af_qt) w_6 fw_6 ln0 ((hM.o gx trivial rfl).1.trans f_x_1)) (cwV 1 hts (hx_gV kw_569 kw_566 kw_568 kw_15 kw_95) rfl rfl rfl (by decide +kernel) ⟨Nat.le_of_ble_eq_true rfl, Nat.le_of_ble_eq_true rfl⟩) rfl hl.1 rfl (Nat.le_of_ble_eq_true rfl) dX6_readOne_14 ⟨Nat.le_of_ble_eq_true rfl, Nat.le_of_ble_eq_true rfl⟩) hW (fun r_19 L_17 h_18 H locs p_20 hW => ?_)
    obtain ⟨hr_21, hT, hs⟩ := p_20
    replace hT : hx_T T_tb L_17 h_18 := hT
    replace hs : hx_S T_tb [] L_1 h_2 L_17 h_18 := hs
    replace f_x_3 := (hs.o (gx.S hM) trivial rfl).1.trans f_x_3
    replace f_x_5 := (hs.o (gx.S hM) trivial rfl).1.trans f_x_5
    replace f_qi_4 := (hs.o (gqi.S hM) trivial rfl).1.trans f_qi_4
    replace fw_6 := (hs.o (gx.S hM) trivial rfl).1.trans fw_6
    replace af_qp : h_18.2.1 qp = pf := (funext fun j => (hs.a (gqp.S hM) rfl j).1).trans af_qp
    replace hM := hM.tr (hs.mono (by decide))
    refine hb_if_ne (zx := r_19.toInt) (tgt := 25) hx hb rfl dX6_readOne_17 (by decide) (fun c_22 => ?_) (fun c_22 => ?_)
    · skip
      replace hr_21 : r_19.toInt = 1 ∧ (w_6.toInt < ln0.toInt ∧ (tf w_6.toInt.toNat).toInt = 40) := by have z8 : (40 : Int32).toInt = 40 := (by decide); rcases hr_21 with z | z; exact ⟨z.1, by omega, by omega⟩; exfalso; omega
      refine lv_iload_n hx hb dX6_readOne_25 rfl (lv_at hl 2 rfl) ?_
      refine lv_bipush (v := 8) hx hb dX6_readOne_26 (by decide) ?_
      refine hb_icmp_lt (zx := 8) (zy := 8) (tgt := 41) hx hb (by decide) (by decide) dX6_readOne_28 (by decide) (fun c_23 => absurd c_23 (by decide)) (fun c_23 => ?_)
      refine lv_aload_n hx hb dX6_readOne_31 rfl (lv_at hl 1 rfl) ?_
      refine lv_aload_n hx hb dX6_readOne_32 rfl (lv_at hl 1 rfl) ?_
      refine hk_geti hx hb hts hC_6 hown hW (gx.S hM) tt_6 2 (by decide) rfl kw_127 ⟨rfl, rfl, rfl⟩ fw_6 dX6_readOne_33 ?_
      refine lv_iconst (v := 3) hx hb dX6_readOne_36 (by decide) ?_
      have zc_3 : (3 : Int32).toInt = 3 := by decide
      refine hx_goi (hx_runV (As := [.int w_6, .int (3 : Int32)]) (rest := []) ⟨hx, hb, hml, hown, hts⟩ hW (gx.S hM) tt_6 (T := TX6) (N := 7) rfl (t_X6_refuse_v l dC dI dA L_17 h_18 H.size x w_6 (3 : Int32) hT (gx.S hM) ⟨by omega, by omega⟩ (by decide)) (cwV 2 hts (hx_gV kw_527 kw_524 kw_526 kw_6 kw_95) rfl rfl rfl (by decide +kernel) ⟨Nat.le_of_ble_eq_true rfl, Nat.le_of_ble_eq_true rfl⟩) rfl hl.1 rfl (Nat.le_of_ble_eq_true rfl) dX6_readOne_37 ⟨Nat.le_of_ble_eq_true rfl, Nat.le_of_ble_eq_true rfl⟩) hW (fun r_26 L_24 h_25 H locs p_27 hW => ?_)
      obtain ⟨⟨w_29, fw_29, hr_28⟩, hT, hs⟩ := p_27
      replace hT : hx_T T_tb L_24 h_25 := hT
      replace hs : hx_S T_tb [(6, 3)] L_17 h_18 L_24 h_25 := hs
      replace f_x_5 := (hs.o (gx.S hM) trivial rfl).1.trans f_x_5
      replace f_qi_4 := (hs.o (gqi.S hM) trivial rfl).1.trans f_qi_4
      replace fw_6 := (hs.o (gx.S hM) trivial rfl).1.trans fw_6
      replace af_qp : h_25.2.1 qp = pf := (funext fun j => (hs.a (gqp.S hM) rfl j).1).trans af_qp
      replace hM := hM.tr (hs.mono (by decide))
      have fw_29 : h_25.2.1 x 3 = w_29 := fw_29
      have bw_29 := hT.gi (gx.S hM) tt_6 (k := 3) rfl
      rw [fw_29] at bw_29
      have bw_29 : -2147483648 ≤ w_29.toInt ∧ w_29.toInt ≤ 2147483647 := bw_29
      exact hx_retz hx hb hr (hx_nar01 (by omega)) hlk hW ⟨⟨w_6, w_29, tm0, pl0, pf, fw_6, fw_29, f_x_5, f_qi_4, af_qp, (hv_K_f (x := 4 + 8 * w_6.toInt.toNat) (by omega) (by omega) (by omega) ((hv_one_d (Or.inr (by rw [← ek_8]; exact ⟨by omega, hr_21.2.2⟩))).trans (by rw [← ek_8])))⟩, hT, hM⟩ dX6_readOne_40
    · skip
      replace hr_21 : r_19.toInt = 0 ∧ ¬ (w_6.toInt < ln0.toInt ∧ (tf w_6.toInt.toNat).toInt = 40) := by have z8 : (40 : Int32).toInt = 40 := (by decide); rcases hr_21 with z | z; (exfalso; omega); exact ⟨z.1, fun z9 => z.2 ⟨by omega, by omega⟩⟩
      refine lv_aload_n hx hb dX6_readOne_20 rfl (lv_at hl 1 rfl) ?_
      refine hx_goi (hx_runVX (As := []) (rest := []) ⟨hx, hb, hml, hown, hts⟩ hW (gx.S hM) tt_6 (T := TX6) (N := 7) rfl (t_X6_readTerm_v l dC dI dA L_17 h_18 H.size b0 x hT (gx.S hM) qt (gqt.S hM) ((hM.o gx trivial rfl).2.trans f_x_0) qi (gqi.S hM) ((hM.o gx trivial rfl).2.trans f_x_6) qp (gqp.S hM) ((hM.o gqi trivial rfl).2.trans f_qi_3) tf (hx_afS hM gqt rfl af_qt) pf af_qp w_6 fw_6 ln0 ((hM.o gx trivial rfl).1.trans f_x_1) ft0 f_x_3 tm0 f_x_5 pl0 f_qi_4 o hO (by omega) (by omega) (by omega) ⟨by omega, by omega⟩) hZ (cwV 0 hts (hx_gV kw_573 kw_570 kw_572 kw_16 kw_95) rfl rfl rfl (by decide +kernel) ⟨Nat.le_of_ble_eq_true rfl, Nat.le_of_ble_eq_true rfl⟩) rfl hl.1 rfl (Nat.le_of_ble_eq_true rfl) dX6_readOne_21 ⟨Nat.le_of_ble_eq_true rfl, Nat.le_of_ble_eq_true rfl⟩) hW (fun r_32 L_30 h_31 H locs p_33 hW => ?_)
      obtain ⟨⟨w_35, w_36, w_37, w_38, w_39, fw_35, fw_36, fw_37, fw_38, fw_39, hr_34⟩, hT, hs⟩ := p_33
      replace hT : hx_T T_tb L_30 h_31 := hT
      replace hs : hx_S T_tb [(6, 2), (6, 3), (6, 5), (128, 0), (129, 4)] L_17 h_18 L_30 h_31 := hs
      replace hM := hM.tr (hs.mono (by decide))
      have fw_35 : h_31.2.1 x 2 = w_35 := fw_35
      have bw_35 := hT.gi (gx.S hM) tt_6 (k := 2) rfl
      rw [fw_35] at bw_35
      have bw_35 : 0 ≤ w_35.toInt ∧ w_35.toInt ≤ 402 := bw_35
      have fw_36 : h_31.2.1 x 3 = w_36 := fw_36
      have bw_36 := hT.gi (gx.S hM) tt_6 (k := 3) rfl
      rw [fw_36] at bw_36
      have bw_36 : -2147483648 ≤ w_36.toInt ∧ w_36.toInt ≤ 2147483647 := bw_36
      have fw_37 : h_31.2.1 x 5 = w_37 := fw_37
      have bw_37 := hT.gi (gx.S hM) tt_6 (k := 5) rfl
      rw [fw_37] at bw_37
      have bw_37 : -2147483648 ≤ w_37.toInt ∧ w_37.toInt ≤ 2147483647 := bw_37
      have fw_38 : h_31.2.1 qi 4 = w_38 := fw_38
      have bw_38 := hT.gi (gqi.S hM) tt_129 (k := 4) rfl
      rw [fw_38] at bw_38
      have bw_38 : 0 ≤ w_38.toInt ∧ w_38.toInt ≤ 160 := bw_38
      have fw_39 : h_31.2.1 qp = w_39 := fw_39
      have hr_34b := hv_K_b hr_34
      exact hx_retz hx hb hr (hx_nar01 (by omega)) hlk hW ⟨⟨w_35, w_36, w_37, w_38, w_39, fw_35, fw_36, fw_37, fw_38, fw_39, (hv_K_c hr_34 ((hv_one_t (by rw [← ek_8]; exact eu_7.2) (by rw [← ek_8]; exact fun z => hr_21.2 ⟨by omega, z.2⟩)).trans (by rw [sid, ← ek_8])))⟩, hT, hM⟩ dX6_readOne_24


set_option maxHeartbeats 4000000 in
set_option maxRecDepth 100000 in
theorem t_X6_readEither_g (i1 : Int32) (D fr lo : Nat) (hfr : 7 ≤ fr) (hlo : 158 ≤ lo) (t_hRO : hv_MO i1 D fr lo) : hv_ME i1 D (fr + 1) (lo + 22) := by
  unfold hv_ME
  intro l dC dI dA L h sz b0 x hT gx qt gqt f_x_0 qi gqi f_x_6 qp gqp f_qi_3 tf af_qt pf af_qp at0 f_x_2 ln0 f_x_1 ft0 f_x_3 tm0 f_x_5 pl0 f_qi_4 o hO hF hB hA hT0
  refine hx_metX (lv := [(0, .ref x), (1, .int i1)]) (by decide +kernel) rfl (Nat.le_of_ble_eq_true rfl) rfl ?_
  intro p e s m below meth c hx hb hml hr hlk hts0 hown hin hsz hW hZ ls hl
  have hts : ∀ w ∈ hx_all, w.before _ s = true := fun w hw => hts0 w (List.mem_cons_of_mem _ hw)
  have hown : s.vm.findClass "SmallCourt$Reader" = some m.cls := hown
  have hM : hx_S T_tb [(6, 2), (6, 3), (6, 5), (128, 0), (129, 4)] L h L h := hx_S.rf
  obtain ⟨zLT, zLA, zMT, zMA, zCS, zSF, zVS, zVR⟩ := hZ.2.2.2.2.2.2
  have b_at0 := hT.gi gx tt_6 (k := 2) rfl
  rw [f_x_2] at b_at0
  have b_at0 : 0 ≤ at0.toInt ∧ at0.toInt ≤ 402 := b_at0
  have b_ln0 := hT.gi gx tt_6 (k := 1) rfl
  rw [f_x_1] at b_ln0
  have b_ln0 : 0 ≤ ln0.toInt ∧ ln0.toInt ≤ 400 := b_ln0
  have b_ft0 := hT.gi gx tt_6 (k := 3) rfl
  rw [f_x_3] at b_ft0
  have b_ft0 : -2147483648 ≤ ft0.toInt ∧ ft0.toInt ≤ 2147483647 := b_ft0
  have b_tm0 := hT.gi gx tt_6 (k := 5) rfl
  rw [f_x_5] at b_tm0
  have b_tm0 : -2147483648 ≤ tm0.toInt ∧ tm0.toInt ≤ 2147483647 := b_tm0
  have b_pl0 := hT.gi gqi tt_129 (k := 4) rfl
  rw [f_qi_4] at b_pl0
  have b_pl0 : 0 ≤ pl0.toInt ∧ pl0.toInt ≤ 160 := b_pl0
  refine lv_iconst (v := 0) hx hb dX6_readEither_0 (by decide) ?_
  refine lv_istore_n (lv' := [(2, .int (0 : Int32)), (0, .ref x), (1, .int i1)]) hx hb dX6_readEither_1 rfl hl (by decide) rfl (fun ls hl => ?_)
  refine lv_iconst (v := 0) hx hb dX6_readEither_2 (by decide) ?_
  refine lv_istore_n (lv' := [(3, .int (0 : Int32)), (2, .int (0 : Int32)), (0, .ref x), (1, .int i1)]) hx hb dX6_readEither_3 rfl hl (by decide) rfl (fun ls hl => ?_)
  refine lv_iconst (v := 0) hx hb dX6_readEither_4 (by decide) ?_
  refine lv_istore (lv' := [(4, .int (0 : Int32)), (3, .int (0 : Int32)), (2, .int (0 : Int32)), (0, .ref x), (1, .int i1)]) hx hb dX6_readEither_5 hl (by decide) rfl (fun ls hl => ?_)
  have loop7 : ∀ (n7 : Nat) (iv7_2 iv7_3 iv7_4 fw7_x_2 fw7_x_3 fw7_x_5 fw7_qi_4 : Int32) (ia7_qp : Nat → Int32) (H : Heap) (locs : List Loc) (hL1 : List Nat) (hl1 : hx_h), 0 ≤ iv7_2.toInt → iv7_2.toInt ≤ 1 → 0 ≤ iv7_3.toInt → iv7_3.toInt ≤ 1 → 0 ≤ iv7_4.toInt → iv7_4.toInt ≤ 401 → 0 ≤ fw7_x_2.toInt → fw7_x_2.toInt ≤ 402 → -2147483648 ≤ fw7_x_3.toInt → fw7_x_3.toInt ≤ 2147483647 → 0 ≤ fw7_x_5.toInt → fw7_x_5.toInt ≤ 20 → 0 ≤ fw7_qi_4.toInt → fw7_qi_4.toInt ≤ 160 → (∃ o9 : List hv_tok, hv_ls ia7_qp (fw7_qi_4.toInt).toNat = o9.map hv_cc ∧ hv_LE tf ln0.toInt.toNat D false false at0.toInt.toNat tm0.toInt.toNat o = hv_LE tf ln0.toInt.toNat D (decide (iv7_2.toInt = 1)) (decide (iv7_3.toInt = 1)) (fw7_x_2.toInt).toNat (fw7_x_5.toInt).toNat o9) → (3 * fw7_qi_4.toInt + 3 * iv7_2.toInt + 3 * iv7_3.toInt ≤ fw7_x_2.toInt + fw7_x_5.toInt) → (iv7_4.toInt ≤ fw7_x_2.toInt) → (fw7_x_2.toInt ≤ ln0.toInt) → (fw7_x_3.toInt = 0) → ∀ (ls : Array Slot), 401 - iv7_4.toInt < (n7 : Int) → hx_W T_tb (P_ty dA) (dC, dI) vwCl (hx_A L sz) s.heap hL1 hl1 s H locs → hx_T T_tb hL1 hl1 → hx_S T_tb [(6, 2), (6, 3), (6, 5), (128, 0), (129, 4)] L h hL1 hl1 → hl1.2.1 x 2 = fw7_x_2 → hl1.2.1 x 3 = fw7_x_3 → hl1.2.1 x 5 = fw7_x_5 → hl1.2.1 qi 4 = fw7_qi_4 → hl1.2.1 qp = ia7_qp → lv_has ls 5 [(4, .int iv7_4), (3, .int iv7_3), (2, .int iv7_2), (0, .ref x), (1, .int i1)] → W p l e ({ frames := fr + 1, cells := 0, slots := 0, locals := lo + 22 }) s m ([.ref x, .int i1] : List Value).toArray below meth c H locs 0 0 (MQ below (va_Qi (fun (r : Int32) (u : List Nat × hx_h) => (∃ (at1 : Int32) (ft1 : Int32) (tm1 : Int32) (pl1 : Int32) (pf1 : Nat → Int32), u.2.2.1 x 2 = at1 ∧ u.2.2.1 x 3 = ft1 ∧ u.2.2.1 x 5 = tm1 ∧ u.2.2.1 qi 4 = pl1 ∧ u.2.2.1 qp = pf1 ∧ (hv_K hv_cc (hv_LE tf ln0.toInt.toNat D false false at0.toInt.toNat tm0.toInt.toNat o) r.toInt ft1.toInt at1.toInt tm1.toInt (hv_ls pf1 pl1.toInt.toNat))) ∧ hx_T T_tb u.1 u.2 ∧ hx_S T_tb [(6, 2), (6, 3), (6, 5), (128, 0), (129, 4)] L h u.1 u.2) (hx_E T_tb (P_ty dA) (dC, dI) vwCl (hx_A L sz)) (hx_A L sz)) ([.ref x, .int i1] : List Value).toArray s 0 0 (hx_A L sz)) (F0 m 7 ls []) := by
    intro n7
    induction n7 with
    | zero => intro iv7_2 iv7_3 iv7_4 fw7_x_2 fw7_x_3 fw7_x_5 fw7_qi_4 ia7_qp H locs hL1 hl1 bliv7_2 buiv7_2 bliv7_3 buiv7_3 bliv7_4 buiv7_4 blfw7_x_2 bufw7_x_2 blfw7_x_3 bufw7_x_3 blfw7_x_5 bufw7_x_5 blfw7_qi_4 bufw7_qi_4 vi7_0 vi7_1 vi7_2 vi7_3 vi7_4 ls hn7; exfalso; omega
    | succ n7 ih7 =>
      intro iv7_2 iv7_3 iv7_4 fw7_x_2 fw7_x_3 fw7_x_5 fw7_qi_4 ia7_qp H locs hL1 hl1 bliv7_2 buiv7_2 bliv7_3 buiv7_3 bliv7_4 buiv7_4 blfw7_x_2 bufw7_x_2 blfw7_x_3 bufw7_x_3 blfw7_x_5 bufw7_x_5 blfw7_qi_4 bufw7_qi_4 vi7_0 vi7_1 vi7_2 vi7_3 vi7_4 ls hn7 hW hT hM ffw7_x_2 ffw7_x_3 ffw7_x_5 ffw7_qi_4 nia7_qp hl
      obtain ⟨oo, hO7, hE7⟩ := vi7_0
      have hl7 := hv_ls_l hO7
      refine lv_iload hx hb dX6_readEither_7 (lv_at hl 0 rfl) ?_
      refine lv_aload_n hx hb dX6_readEither_9 rfl (lv_at hl 3 rfl) ?_
      refine hk_geti hx hb hts hC_6 hown hW (gx.S hM) tt_6 1 (by decide) rfl kw_126 ⟨rfl, rfl, rfl⟩ ((hM.o gx trivial rfl).1.trans f_x_1) dX6_readEither_10 ?_
      refine hb_icmp_gt (zx := iv7_4.toInt) (zy := ln0.toInt) (tgt := 102) hx hb rfl rfl dX6_readEither_13 (by decide) (fun c_1 => ?_) (fun c_1 => ?_)
      · skip
        refine lv_iconst (v := 0) hx hb dX6_readEither_102 (by decide) ?_
        exact hx_retz hx hb hr rfl hlk hW ⟨⟨fw7_x_2, fw7_x_3, fw7_x_5, fw7_qi_4, ia7_qp, ffw7_x_2, ffw7_x_3, ffw7_x_5, ffw7_qi_4, nia7_qp, (by exfalso; omega)⟩, hT, hM⟩ dX6_readEither_103
      · skip
        refine lv_aload_n hx hb dX6_readEither_16 rfl (lv_at hl 3 rfl) ?_
        refine lv_iload_n hx hb dX6_readEither_17 rfl (lv_at hl 4 rfl) ?_
        refine hx_goi (hx_runVX (As := [.int i1]) (rest := []) ⟨hx, hb, hml, hown, hts⟩ hW (gx.S hM) tt_6 (T := TX6) (N := 7) rfl (t_hRO l dC dI dA hL1 hl1 H.size b0 x hT (gx.S hM) qt (gqt.S hM) ((hM.o gx trivial rfl).2.trans f_x_0) qi (gqi.S hM) ((hM.o gx trivial rfl).2.trans f_x_6) qp (gqp.S hM) ((hM.o gqi trivial rfl).2.trans f_qi_3) tf (hx_afS hM gqt rfl af_qt) ia7_qp nia7_qp fw7_x_2 ffw7_x_2 ln0 ((hM.o gx trivial rfl).1.trans f_x_1) fw7_x_3 ffw7_x_3 fw7_x_5 ffw7_x_5 fw7_qi_4 ffw7_qi_4 oo hO7 (by omega) (by omega) (by omega) ⟨by omega, by omega⟩) hZ (cwV 1 hts (hx_gV kw_560 kw_557 kw_559 kw_13 kw_95) rfl rfl rfl (by decide +kernel) ⟨(by first | omega | (dsimp only; omega)), (by first | omega | (dsimp only; omega))⟩) rfl hl.1 rfl (Nat.le_of_ble_eq_true rfl) dX6_readEither_18 ⟨Nat.le_of_ble_eq_true rfl, Nat.le_of_ble_eq_true rfl⟩) hW (fun r_4 L_2 h_3 H locs p_5 hW => ?_)
        obtain ⟨⟨w_7, w_8, w_9, w_10, w_11, fw_7, fw_8, fw_9, fw_10, fw_11, hr_6⟩, hT, hs⟩ := p_5
        replace hT : hx_T T_tb L_2 h_3 := hT
        replace hs : hx_S T_tb [(6, 2), (6, 3), (6, 5), (128, 0), (129, 4)] hL1 hl1 L_2 h_3 := hs
        replace hM := hM.tr (hs.mono (by decide))
        have fw_7 : h_3.2.1 x 2 = w_7 := fw_7
        have bw_7 := hT.gi (gx.S hM) tt_6 (k := 2) rfl
        rw [fw_7] at bw_7
        have bw_7 : 0 ≤ w_7.toInt ∧ w_7.toInt ≤ 402 := bw_7
        have fw_8 : h_3.2.1 x 3 = w_8 := fw_8
        have bw_8 := hT.gi (gx.S hM) tt_6 (k := 3) rfl
        rw [fw_8] at bw_8
        have bw_8 : -2147483648 ≤ w_8.toInt ∧ w_8.toInt ≤ 2147483647 := bw_8
        have fw_9 : h_3.2.1 x 5 = w_9 := fw_9
        have bw_9 := hT.gi (gx.S hM) tt_6 (k := 5) rfl
        rw [fw_9] at bw_9
        have bw_9 : -2147483648 ≤ w_9.toInt ∧ w_9.toInt ≤ 2147483647 := bw_9
        have fw_10 : h_3.2.1 qi 4 = w_10 := fw_10
        have bw_10 := hT.gi (gqi.S hM) tt_129 (k := 4) rfl
        rw [fw_10] at bw_10
        have bw_10 : 0 ≤ w_10.toInt ∧ w_10.toInt ≤ 160 := bw_10
        have fw_11 : h_3.2.1 qp = w_11 := fw_11
        have hr_6b := hv_K_b hr_6
        refine hb_if_eq (zx := r_4.toInt) (tgt := 102) hx hb rfl dX6_readEither_21 (by decide) (fun c_12 => ?_) (fun c_12 => ?_)
        · skip
          refine lv_iconst (v := 0) hx hb dX6_readEither_102 (by decide) ?_
          exact hx_retz hx hb hr rfl hlk hW ⟨⟨w_7, w_8, w_9, w_10, w_11, fw_7, fw_8, fw_9, fw_10, fw_11, (hv_K_f (x := w_8.toInt.toNat) (by decide) (by have h8 := (hv_K_0 hr_6 (by omega)).1; omega) (by have h8 := (hv_K_0 hr_6 (by omega)).1; omega) (hE7.trans (hv_LE_f (hv_K_0 hr_6 (by omega)).2)))⟩, hT, hM⟩ dX6_readEither_103
        · skip
          obtain ⟨k1_13F, k1_13p, k1_13t, oo_14, k1_13O, k1_13E⟩ := hv_K_1 hr_6 (by omega)
          have k1_13l := hv_ls_l k1_13O
          replace hr_6b : r_4.toInt = 1 := by omega
          have k1_13g := hv_one_g k1_13E (by omega)
          refine lv_iload_n hx hb dX6_readEither_24 rfl (lv_at hl 2 rfl) ?_
          refine hb_if_eq (zx := iv7_2.toInt) (tgt := 36) hx hb rfl dX6_readEither_25 (by decide) (fun c_15 => ?_) (fun c_15 => ?_)
          · skip
            have eA : decide (iv7_2.toInt = 1) = false := decide_eq_false (by omega)
            refine lv_aload_n hx hb dX6_readEither_36 rfl (lv_at hl 3 rfl) ?_
            refine va_ldcS (tx := P_st.getD 2 "") hx hb hown (zVR 2 (by decide)) dX6_readEither_37 ?_
            refine hx_goi (hx_runVX (As := [.ref (b0.2.2.2.1 2)]) (rest := []) ⟨hx, hb, hml, hown, hts⟩ hW (gx.S hM) tt_6 (T := TX6) (N := 7) rfl (t_X6_isNextWord_v l dC dI dA L_2 h_3 H.size b0 x 2 hT (gx.S hM) (by decide) qt (gqt.S hM) ((hM.o gx trivial rfl).2.trans f_x_0) tf (hx_afS hM gqt rfl af_qt) w_7 fw_7 ln0 ((hM.o gx trivial rfl).1.trans f_x_1) (by omega)) hZ (cwV 1 hts (hx_gV kw_565 kw_562 kw_564 kw_14 kw_95) rfl rfl rfl (by decide +kernel) ⟨(by first | omega | (dsimp only; omega)), (by first | omega | (dsimp only; omega))⟩) rfl hl.1 rfl (Nat.le_of_ble_eq_true rfl) dX6_readEither_39 ⟨Nat.le_of_ble_eq_true rfl, Nat.le_of_ble_eq_true rfl⟩) hW (fun r_18 L_16 h_17 H locs p_19 hW => ?_)
            obtain ⟨⟨w_21, fw_21, hr_20⟩, hT, hs⟩ := p_19
            replace hT : hx_T T_tb L_16 h_17 := hT
            replace hs : hx_S T_tb [(6, 2)] L_2 h_3 L_16 h_17 := hs
            replace fw_8 := (hs.o (gx.S hM) trivial rfl).1.trans fw_8
            replace fw_9 := (hs.o (gx.S hM) trivial rfl).1.trans fw_9
            replace fw_10 := (hs.o (gqi.S hM) trivial rfl).1.trans fw_10
            replace fw_11 : h_17.2.1 qp = w_11 := (funext fun j => (hs.a (gqp.S hM) rfl j).1).trans fw_11
            replace hM := hM.tr (hs.mono (by decide))
            have fw_21 : h_17.2.1 x 2 = w_21 := fw_21
            have bw_21 := hT.gi (gx.S hM) tt_6 (k := 2) rfl
            rw [fw_21] at bw_21
            have bw_21 : 0 ≤ w_21.toInt ∧ w_21.toInt ≤ 402 := bw_21
            have eu_22 : (r_18.toInt = 1 ∧ hv_wd tf ln0.toInt.toNat (hv_sk tf ln0.toInt.toNat w_7.toInt.toNat) = 1) ∨ (r_18.toInt = 0 ∧ hv_wd tf ln0.toInt.toNat (hv_sk tf ln0.toInt.toNat w_7.toInt.toNat) ≠ 1) := hv_NW_u (js := 2) (by decide) hr_20.2.1
            have ek_23 : w_21.toInt.toNat = hv_sk tf ln0.toInt.toNat w_7.toInt.toNat := by omega
            rw [← ek_23] at eu_22
            refine lv_istore_n (lv' := [(2, .int r_18), (4, .int iv7_4), (3, .int iv7_3), (0, .ref x), (1, .int i1)]) hx hb dX6_readEither_42 rfl hl (by decide) rfl (fun ls hl => ?_)
            have sid : hv_sk tf ln0.toInt.toNat w_21.toInt.toNat = w_21.toInt.toNat := by rw [ek_23]; exact hv_sk_id
            refine lv_iload_n hx hb dX6_readEither_43 rfl (lv_at hl 0 rfl) ?_
            refine hb_if_eq (zx := r_18.toInt) (tgt := 60) hx hb rfl dX6_readEither_44 (by decide) (fun c_24 => ?_) (fun c_24 => ?_)
            · skip
              replace eu_22 : r_18.toInt = 0 ∧ hv_wd tf ln0.toInt.toNat w_21.toInt.toNat ≠ 1 := by rcases eu_22 with z | z; (exfalso; omega); exact z
              refine lv_iload_n hx hb dX6_readEither_60 rfl (lv_at hl 2 rfl) ?_
              refine hb_if_eq (zx := iv7_3.toInt) (tgt := 73) hx hb rfl dX6_readEither_61 (by decide) (fun c_25 => ?_) (fun c_25 => ?_)
              · skip
                have eB : decide (iv7_3.toInt = 1) = false := decide_eq_false (by omega)
                refine lv_aload_n hx hb dX6_readEither_73 rfl (lv_at hl 3 rfl) ?_
                refine va_ldcS (tx := P_st.getD 3 "") hx hb hown (zVR 3 (by decide)) dX6_readEither_74 ?_
                refine hx_goi (hx_runVX (As := [.ref (b0.2.2.2.1 3)]) (rest := []) ⟨hx, hb, hml, hown, hts⟩ hW (gx.S hM) tt_6 (T := TX6) (N := 7) rfl (t_X6_isNextWord_v l dC dI dA L_16 h_17 H.size b0 x 3 hT (gx.S hM) (by decide) qt (gqt.S hM) ((hM.o gx trivial rfl).2.trans f_x_0) tf (hx_afS hM gqt rfl af_qt) w_21 fw_21 ln0 ((hM.o gx trivial rfl).1.trans f_x_1) (by omega)) hZ (cwV 1 hts (hx_gV kw_565 kw_562 kw_564 kw_14 kw_95) rfl rfl rfl (by decide +kernel) ⟨(by first | omega | (dsimp only; omega)), (by first | omega | (dsimp only; omega))⟩) rfl hl.1 rfl (Nat.le_of_ble_eq_true rfl) dX6_readEither_76 ⟨Nat.le_of_ble_eq_true rfl, Nat.le_of_ble_eq_true rfl⟩) hW (fun r_28 L_26 h_27 H locs p_29 hW => ?_)
                obtain ⟨⟨w_31, fw_31, hr_30⟩, hT, hs⟩ := p_29
                replace hT : hx_T T_tb L_26 h_27 := hT
                replace hs : hx_S T_tb [(6, 2)] L_16 h_17 L_26 h_27 := hs
                replace fw_8 := (hs.o (gx.S hM) trivial rfl).1.trans fw_8
                replace fw_9 := (hs.o (gx.S hM) trivial rfl).1.trans fw_9
                replace fw_10 := (hs.o (gqi.S hM) trivial rfl).1.trans fw_10
                replace fw_11 : h_27.2.1 qp = w_11 := (funext fun j => (hs.a (gqp.S hM) rfl j).1).trans fw_11
                replace hM := hM.tr (hs.mono (by decide))
                have fw_31 : h_27.2.1 x 2 = w_31 := fw_31
                have bw_31 := hT.gi (gx.S hM) tt_6 (k := 2) rfl
                rw [fw_31] at bw_31
                have bw_31 : 0 ≤ w_31.toInt ∧ w_31.toInt ≤ 402 := bw_31
                have eu_32 : (r_28.toInt = 1 ∧ hv_wd tf ln0.toInt.toNat (hv_sk tf ln0.toInt.toNat w_21.toInt.toNat) = 0) ∨ (r_28.toInt = 0 ∧ hv_wd tf ln0.toInt.toNat (hv_sk tf ln0.toInt.toNat w_21.toInt.toNat) ≠ 0) := hv_NW_u (js := 3) (by decide) hr_30.2.1
                have ek_33 : w_31.toInt.toNat = hv_sk tf ln0.toInt.toNat w_21.toInt.toNat := by omega
                rw [← ek_33] at eu_32
                refine lv_istore_n (lv' := [(3, .int r_28), (2, .int r_18), (4, .int iv7_4), (0, .ref x), (1, .int i1)]) hx hb dX6_readEither_79 rfl hl (by decide) rfl (fun ls hl => ?_)
                have e2w : w_31.toInt.toNat = w_21.toInt.toNat := by rw [ek_33, sid]
                rw [e2w] at eu_32
                refine lv_iload_n hx hb dX6_readEither_80 rfl (lv_at hl 0 rfl) ?_
                refine hb_if_ne (zx := r_28.toInt) (tgt := 86) hx hb rfl dX6_readEither_81 (by decide) (fun c_34 => ?_) (fun c_34 => ?_)
                · skip
                  replace eu_32 : r_28.toInt = 1 ∧ hv_wd tf ln0.toInt.toNat w_21.toInt.toNat = 0 := by rcases eu_32 with z | z; exact z; exfalso; omega
                  have hwo := hv_wd_0 (T := tf) (n := ln0.toInt.toNat) (p := w_21.toInt.toNat) eu_32.2
                  refine lv_aload_n hx hb dX6_readEither_86 rfl (lv_at hl 3 rfl) ?_
                  refine lv_dup hx hb dX6_readEither_87 rfl ?_
                  refine hk_geti hx hb hts hC_6 hown hW (gx.S hM) tt_6 2 (by decide) rfl kw_127 ⟨rfl, rfl, rfl⟩ fw_31 dX6_readEither_88 ?_
                  refine lv_iconst (v := 2) hx hb dX6_readEither_91 (by decide) ?_
                  refine lv_iadd hx hb dX6_readEither_92 ?_
                  have rg_35 := i32_r w_31
                  refine lv_topi (fun x_36 ex_36 => ?_)
                  have zx_36 : x_36.toInt = w_31.toInt + 2 := by rw [ex_36]; exact i32_add rfl (by decide) (by omega) (by omega)
                  refine hx_puti hx hb hts hC_6 hown hW hT (hx_S.rf (M := [(6, 2)])) (gx.S hM) tt_6 2 (by decide) rfl kw_127 ⟨rfl, rfl, rfl⟩ rfl (x := x_36) ⟨by omega, by omega⟩ rfl rfl rfl (List.mem_singleton.mpr rfl) dX6_readEither_93 (fun H locs h_37 eh_37 hW hT hs => ?_)
                  replace fw_8 := (hs.o (gx.S hM) trivial rfl).1.trans fw_8
                  replace fw_9 := (hs.o (gx.S hM) trivial rfl).1.trans fw_9
                  replace fw_10 := (hs.o (gqi.S hM) trivial rfl).1.trans fw_10
                  replace fw_11 : h_37.2.1 qp = w_11 := (funext fun j => (hs.a (gqp.S hM) rfl j).1).trans fw_11
                  replace hM := hM.tr (hs.mono (by decide))
                  have f_38 : h_37.2.1 x 2 = x_36 := by rw [eh_37]; exact hx_pi_at _ _ _ _
                  obtain ⟨x_39, ex_39⟩ : ∃ y : Int32, y = iv7_4 + Int32.ofInt 1 := ⟨_, rfl⟩
                  have rg_40 := i32_r iv7_4
                  have zx_39 : x_39.toInt = iv7_4.toInt + (1) := by rw [ex_39]; exact i32_add rfl (by decide) (by omega) (by omega)
                  refine lv_iinc (v := x_39) (lv' := [(4, .int x_39), (3, .int r_28), (2, .int r_18), (0, .ref x), (1, .int i1)]) hx hb dX6_readEither_96 hl (k := 2) rfl ex_39.symm (by decide) rfl (fun ls hl => ?_)
                  refine lv_goto (tgt := 7) hx hb dX6_readEither_99 (by decide) ?_
                  exact ih7 r_18 r_28 x_39 x_36 w_8 w_9 w_10 w_11 _ _ L_26 h_37 (by omega) (by omega) (by omega) (by omega) (by omega) (by omega) (by omega) (by omega) (i32_r _).1 (i32_r _).2 (by omega) (by omega) (by omega) (by omega) ⟨_, k1_13O, hE7.trans ((hv_LE_0 k1_13E (by rw [← ek_23]; exact eu_22.2) (by rw [← ek_23]; exact eu_32.2)).trans (by rw [eA, eB, ← ek_23, show w_21.toInt.toNat + 2 = x_36.toInt.toNat by omega, show decide (r_18.toInt = 1) = false from decide_eq_false (by omega), show decide (r_28.toInt = 1) = true from decide_eq_true (by omega)] <;> rfl))⟩ (by omega) (by omega) (by omega) (by omega) ls (by omega) hW hT hM f_38 fw_8 fw_9 fw_10 fw_11 (lv_sub hl [0, 1, 2, 3, 4] rfl)
                · skip
                  replace eu_32 : r_28.toInt = 0 ∧ hv_wd tf ln0.toInt.toNat w_21.toInt.toNat ≠ 0 := by rcases eu_32 with z | z; (exfalso; omega); exact z
                  refine lv_iconst (v := 1) hx hb dX6_readEither_84 (by decide) ?_
                  exact hx_retz hx hb hr rfl hlk hW ⟨⟨w_31, w_8, w_9, w_10, w_11, fw_31, fw_8, fw_9, fw_10, fw_11, (hv_K_t (x := w_31.toInt.toNat) (y := w_9.toInt.toNat) (by decide) (by omega) (by omega) (by omega) k1_13O (hE7.trans ((hv_LE_e k1_13E (by rw [← ek_23]; exact eu_22.2) (by rw [← ek_23]; exact eu_32.2)).trans (by rw [eA, eB, ← ek_23, ← e2w] <;> rfl))))⟩, hT, hM⟩ dX6_readEither_85
              · skip
                refine lv_aload_n hx hb dX6_readEither_64 rfl (lv_at hl 3 rfl) ?_
                refine hk_getr hx hb hts hC_6 hown hW (gx.S hM) tt_6 6 (by decide) rfl kw_131 ⟨rfl, rfl, rfl⟩ ((hM.o gx trivial rfl).2.trans f_x_6) dX6_readEither_65 ?_
                refine lv_bipush (v := -2) hx hb dX6_readEither_68 (by decide) ?_
                have zc_m2 : (-2 : Int32).toInt = -2 := by decide
                refine hx_gov (hx_runV (As := [.int (-2 : Int32)]) (rest := []) ⟨hx, hb, hml, hown, hts⟩ hW (gqi.S hM) tt_129 (T := TX0) (N := 5) rfl (t_X0_addProof_v l dC dI dA L_16 h_17 H.size qi (-2 : Int32) hT (gqi.S hM) qp (gqp.S hM) ((hM.o gqi trivial rfl).2.trans f_qi_3) w_11 fw_11 w_10 fw_10 (by omega)) (cwV 1 hts (hx_gV kw_583 kw_580 kw_581 kw_582 kw_96) rfl rfl rfl (by decide +kernel) ⟨(by first | omega | (dsimp only; omega)), (by first | omega | (dsimp only; omega))⟩) rfl hl.1 rfl (Nat.le_of_ble_eq_true rfl) dX6_readEither_70 ⟨Nat.le_of_ble_eq_true rfl, Nat.le_of_ble_eq_true rfl⟩) hW (fun L_41 h_42 H locs p_44 hW => ?_)
                obtain ⟨⟨w_46, w_47, fw_46, fw_47, hr_45⟩, hT, hs⟩ := p_44
                replace hT : hx_T T_tb L_41 h_42 := hT
                replace hs : hx_S T_tb [(128, 0), (129, 4)] L_16 h_17 L_41 h_42 := hs
                replace fw_8 := (hs.o (gx.S hM) trivial rfl).1.trans fw_8
                replace fw_9 := (hs.o (gx.S hM) trivial rfl).1.trans fw_9
                replace fw_21 := (hs.o (gx.S hM) trivial rfl).1.trans fw_21
                replace hM := hM.tr (hs.mono (by decide))
                have fw_46 : h_42.2.1 qi 4 = w_46 := fw_46
                have bw_46 := hT.gi (gqi.S hM) tt_129 (k := 4) rfl
                rw [fw_46] at bw_46
                have bw_46 : 0 ≤ w_46.toInt ∧ w_46.toInt ≤ 160 := bw_46
                have fw_47 : h_42.2.1 qp = w_47 := fw_47
                have lo_48 := hv_ls_u (t := (0, 0, 0)) k1_13O (by decide) (show w_46.toInt.toNat = w_10.toInt.toNat + 1 by omega) hr_45.2
                have eB : decide (iv7_3.toInt = 1) = true := decide_eq_true (by omega)
                refine lv_aload_n hx hb dX6_readEither_73 rfl (lv_at hl 3 rfl) ?_
                refine va_ldcS (tx := P_st.getD 3 "") hx hb hown (zVR 3 (by decide)) dX6_readEither_74 ?_
                refine hx_goi (hx_runVX (As := [.ref (b0.2.2.2.1 3)]) (rest := []) ⟨hx, hb, hml, hown, hts⟩ hW (gx.S hM) tt_6 (T := TX6) (N := 7) rfl (t_X6_isNextWord_v l dC dI dA L_41 h_42 H.size b0 x 3 hT (gx.S hM) (by decide) qt (gqt.S hM) ((hM.o gx trivial rfl).2.trans f_x_0) tf (hx_afS hM gqt rfl af_qt) w_21 fw_21 ln0 ((hM.o gx trivial rfl).1.trans f_x_1) (by omega)) hZ (cwV 1 hts (hx_gV kw_565 kw_562 kw_564 kw_14 kw_95) rfl rfl rfl (by decide +kernel) ⟨(by first | omega | (dsimp only; omega)), (by first | omega | (dsimp only; omega))⟩) rfl hl.1 rfl (Nat.le_of_ble_eq_true rfl) dX6_readEither_76 ⟨Nat.le_of_ble_eq_true rfl, Nat.le_of_ble_eq_true rfl⟩) hW (fun r_51 L_49 h_50 H locs p_52 hW => ?_)
                obtain ⟨⟨w_54, fw_54, hr_53⟩, hT, hs⟩ := p_52
                replace hT : hx_T T_tb L_49 h_50 := hT
                replace hs : hx_S T_tb [(6, 2)] L_41 h_42 L_49 h_50 := hs
                replace fw_8 := (hs.o (gx.S hM) trivial rfl).1.trans fw_8
                replace fw_9 := (hs.o (gx.S hM) trivial rfl).1.trans fw_9
                replace fw_46 := (hs.o (gqi.S hM) trivial rfl).1.trans fw_46
                replace fw_47 : h_50.2.1 qp = w_47 := (funext fun j => (hs.a (gqp.S hM) rfl j).1).trans fw_47
                replace hM := hM.tr (hs.mono (by decide))
                have fw_54 : h_50.2.1 x 2 = w_54 := fw_54
                have bw_54 := hT.gi (gx.S hM) tt_6 (k := 2) rfl
                rw [fw_54] at bw_54
                have bw_54 : 0 ≤ w_54.toInt ∧ w_54.toInt ≤ 402 := bw_54
                have eu_55 : (r_51.toInt = 1 ∧ hv_wd tf ln0.toInt.toNat (hv_sk tf ln0.toInt.toNat w_21.toInt.toNat) = 0) ∨ (r_51.toInt = 0 ∧ hv_wd tf ln0.toInt.toNat (hv_sk tf ln0.toInt.toNat w_21.toInt.toNat) ≠ 0) := hv_NW_u (js := 3) (by decide) hr_53.2.1
                have ek_56 : w_54.toInt.toNat = hv_sk tf ln0.toInt.toNat w_21.toInt.toNat := by omega
                rw [← ek_56] at eu_55
                refine lv_istore_n (lv' := [(3, .int r_51), (2, .int r_18), (4, .int iv7_4), (0, .ref x), (1, .int i1)]) hx hb dX6_readEither_79 rfl hl (by decide) rfl (fun ls hl => ?_)
                have e2w : w_54.toInt.toNat = w_21.toInt.toNat := by rw [ek_56, sid]
                rw [e2w] at eu_55
                refine lv_iload_n hx hb dX6_readEither_80 rfl (lv_at hl 0 rfl) ?_
                refine hb_if_ne (zx := r_51.toInt) (tgt := 86) hx hb rfl dX6_readEither_81 (by decide) (fun c_57 => ?_) (fun c_57 => ?_)
                · skip
                  replace eu_55 : r_51.toInt = 1 ∧ hv_wd tf ln0.toInt.toNat w_21.toInt.toNat = 0 := by rcases eu_55 with z | z; exact z; exfalso; omega
                  have hwo := hv_wd_0 (T := tf) (n := ln0.toInt.toNat) (p := w_21.toInt.toNat) eu_55.2
                  refine lv_aload_n hx hb dX6_readEither_86 rfl (lv_at hl 3 rfl) ?_
                  refine lv_dup hx hb dX6_readEither_87 rfl ?_
                  refine hk_geti hx hb hts hC_6 hown hW (gx.S hM) tt_6 2 (by decide) rfl kw_127 ⟨rfl, rfl, rfl⟩ fw_54 dX6_readEither_88 ?_
                  refine lv_iconst (v := 2) hx hb dX6_readEither_91 (by decide) ?_
                  refine lv_iadd hx hb dX6_readEither_92 ?_
                  have rg_58 := i32_r w_54
                  refine lv_topi (fun x_59 ex_59 => ?_)
                  have zx_59 : x_59.toInt = w_54.toInt + 2 := by rw [ex_59]; exact i32_add rfl (by decide) (by omega) (by omega)
                  refine hx_puti hx hb hts hC_6 hown hW hT (hx_S.rf (M := [(6, 2)])) (gx.S hM) tt_6 2 (by decide) rfl kw_127 ⟨rfl, rfl, rfl⟩ rfl (x := x_59) ⟨by omega, by omega⟩ rfl rfl rfl (List.mem_singleton.mpr rfl) dX6_readEither_93 (fun H locs h_60 eh_60 hW hT hs => ?_)
                  replace fw_8 := (hs.o (gx.S hM) trivial rfl).1.trans fw_8
                  replace fw_9 := (hs.o (gx.S hM) trivial rfl).1.trans fw_9
                  replace fw_46 := (hs.o (gqi.S hM) trivial rfl).1.trans fw_46
                  replace fw_47 : h_60.2.1 qp = w_47 := (funext fun j => (hs.a (gqp.S hM) rfl j).1).trans fw_47
                  replace hM := hM.tr (hs.mono (by decide))
                  have f_61 : h_60.2.1 x 2 = x_59 := by rw [eh_60]; exact hx_pi_at _ _ _ _
                  obtain ⟨x_62, ex_62⟩ : ∃ y : Int32, y = iv7_4 + Int32.ofInt 1 := ⟨_, rfl⟩
                  have rg_63 := i32_r iv7_4
                  have zx_62 : x_62.toInt = iv7_4.toInt + (1) := by rw [ex_62]; exact i32_add rfl (by decide) (by omega) (by omega)
                  refine lv_iinc (v := x_62) (lv' := [(4, .int x_62), (3, .int r_51), (2, .int r_18), (0, .ref x), (1, .int i1)]) hx hb dX6_readEither_96 hl (k := 2) rfl ex_62.symm (by decide) rfl (fun ls hl => ?_)
                  refine lv_goto (tgt := 7) hx hb dX6_readEither_99 (by decide) ?_
                  exact ih7 r_18 r_51 x_62 x_59 w_8 w_9 w_46 w_47 _ _ L_49 h_60 (by omega) (by omega) (by omega) (by omega) (by omega) (by omega) (by omega) (by omega) (i32_r _).1 (i32_r _).2 (by omega) (by omega) (by omega) (by omega) ⟨_, lo_48, hE7.trans ((hv_LE_0 k1_13E (by rw [← ek_23]; exact eu_22.2) (by rw [← ek_23]; exact eu_55.2)).trans (by rw [eA, eB, ← ek_23, show w_21.toInt.toNat + 2 = x_59.toInt.toNat by omega, show decide (r_18.toInt = 1) = false from decide_eq_false (by omega), show decide (r_51.toInt = 1) = true from decide_eq_true (by omega)] <;> rfl))⟩ (by omega) (by omega) (by omega) (by omega) ls (by omega) hW hT hM f_61 fw_8 fw_9 fw_46 fw_47 (lv_sub hl [0, 1, 2, 3, 4] rfl)
                · skip
                  replace eu_55 : r_51.toInt = 0 ∧ hv_wd tf ln0.toInt.toNat w_21.toInt.toNat ≠ 0 := by rcases eu_55 with z | z; (exfalso; omega); exact z
                  refine lv_iconst (v := 1) hx hb dX6_readEither_84 (by decide) ?_
                  exact hx_retz hx hb hr rfl hlk hW ⟨⟨w_54, w_8, w_9, w_46, w_47, fw_54, fw_8, fw_9, fw_46, fw_47, (hv_K_t (x := w_54.toInt.toNat) (y := w_9.toInt.toNat) (by decide) (by omega) (by omega) (by omega) lo_48 (hE7.trans ((hv_LE_e k1_13E (by rw [← ek_23]; exact eu_22.2) (by rw [← ek_23]; exact eu_55.2)).trans (by rw [eA, eB, ← ek_23, ← e2w] <;> rfl))))⟩, hT, hM⟩ dX6_readEither_85
            · skip
              replace eu_22 : r_18.toInt = 1 ∧ hv_wd tf ln0.toInt.toNat w_21.toInt.toNat = 1 := by rcases eu_22 with z | z; exact z; exfalso; omega
              have hwa := hv_wd_1 (T := tf) (n := ln0.toInt.toNat) (p := w_21.toInt.toNat) eu_22.2
              refine lv_aload_n hx hb dX6_readEither_47 rfl (lv_at hl 3 rfl) ?_
              refine lv_dup hx hb dX6_readEither_48 rfl ?_
              refine hk_geti hx hb hts hC_6 hown hW (gx.S hM) tt_6 2 (by decide) rfl kw_127 ⟨rfl, rfl, rfl⟩ fw_21 dX6_readEither_49 ?_
              refine lv_iconst (v := 3) hx hb dX6_readEither_52 (by decide) ?_
              refine lv_iadd hx hb dX6_readEither_53 ?_
              have rg_64 := i32_r w_21
              refine lv_topi (fun x_65 ex_65 => ?_)
              have zx_65 : x_65.toInt = w_21.toInt + 3 := by rw [ex_65]; exact i32_add rfl (by decide) (by omega) (by omega)
              refine hx_puti hx hb hts hC_6 hown hW hT (hx_S.rf (M := [(6, 2)])) (gx.S hM) tt_6 2 (by decide) rfl kw_127 ⟨rfl, rfl, rfl⟩ rfl (x := x_65) ⟨by omega, by omega⟩ rfl rfl rfl (List.mem_singleton.mpr rfl) dX6_readEither_54 (fun H locs h_66 eh_66 hW hT hs => ?_)
              replace fw_8 := (hs.o (gx.S hM) trivial rfl).1.trans fw_8
              replace fw_9 := (hs.o (gx.S hM) trivial rfl).1.trans fw_9
              replace fw_10 := (hs.o (gqi.S hM) trivial rfl).1.trans fw_10
              replace fw_11 : h_66.2.1 qp = w_11 := (funext fun j => (hs.a (gqp.S hM) rfl j).1).trans fw_11
              replace hM := hM.tr (hs.mono (by decide))
              have f_67 : h_66.2.1 x 2 = x_65 := by rw [eh_66]; exact hx_pi_at _ _ _ _
              refine lv_goto (tgt := 96) hx hb dX6_readEither_57 (by decide) ?_
              obtain ⟨x_68, ex_68⟩ : ∃ y : Int32, y = iv7_4 + Int32.ofInt 1 := ⟨_, rfl⟩
              have rg_69 := i32_r iv7_4
              have zx_68 : x_68.toInt = iv7_4.toInt + (1) := by rw [ex_68]; exact i32_add rfl (by decide) (by omega) (by omega)
              refine lv_iinc (v := x_68) (lv' := [(4, .int x_68), (2, .int r_18), (3, .int iv7_3), (0, .ref x), (1, .int i1)]) hx hb dX6_readEither_96 hl (k := 1) rfl ex_68.symm (by decide) rfl (fun ls hl => ?_)
              refine lv_goto (tgt := 7) hx hb dX6_readEither_99 (by decide) ?_
              exact ih7 r_18 iv7_3 x_68 x_65 w_8 w_9 w_10 w_11 _ _ L_16 h_66 (by omega) (by omega) (by omega) (by omega) (by omega) (by omega) (by omega) (by omega) (i32_r _).1 (i32_r _).2 (by omega) (by omega) (by omega) (by omega) ⟨_, k1_13O, hE7.trans ((hv_LE_1 k1_13E (by rw [← ek_23]; exact eu_22.2)).trans (by rw [eA, ← ek_23, show w_21.toInt.toNat + 3 = x_65.toInt.toNat by omega, show decide (r_18.toInt = 1) = true from decide_eq_true (by omega)] <;> rfl))⟩ (by omega) (by omega) (by omega) (by omega) ls (by omega) hW hT hM f_67 fw_8 fw_9 fw_10 fw_11 (lv_sub hl [0, 2, 1, 3, 4] rfl)
          · skip
            refine lv_aload_n hx hb dX6_readEither_28 rfl (lv_at hl 3 rfl) ?_
            refine hk_getr hx hb hts hC_6 hown hW (gx.S hM) tt_6 6 (by decide) rfl kw_131 ⟨rfl, rfl, rfl⟩ ((hM.o gx trivial rfl).2.trans f_x_6) dX6_readEither_29 ?_
            refine lv_iconst (v := -1) hx hb dX6_readEither_32 (by decide) ?_
            have zc_m1 : (-1 : Int32).toInt = -1 := by decide
            refine hx_gov (hx_runV (As := [.int (-1 : Int32)]) (rest := []) ⟨hx, hb, hml, hown, hts⟩ hW (gqi.S hM) tt_129 (T := TX0) (N := 5) rfl (t_X0_addProof_v l dC dI dA L_2 h_3 H.size qi (-1 : Int32) hT (gqi.S hM) qp (gqp.S hM) ((hM.o gqi trivial rfl).2.trans f_qi_3) w_11 fw_11 w_10 fw_10 (by omega)) (cwV 1 hts (hx_gV kw_583 kw_580 kw_581 kw_582 kw_96) rfl rfl rfl (by decide +kernel) ⟨(by first | omega | (dsimp only; omega)), (by first | omega | (dsimp only; omega))⟩) rfl hl.1 rfl (Nat.le_of_ble_eq_true rfl) dX6_readEither_33 ⟨Nat.le_of_ble_eq_true rfl, Nat.le_of_ble_eq_true rfl⟩) hW (fun L_70 h_71 H locs p_73 hW => ?_)
            obtain ⟨⟨w_75, w_76, fw_75, fw_76, hr_74⟩, hT, hs⟩ := p_73
            replace hT : hx_T T_tb L_70 h_71 := hT
            replace hs : hx_S T_tb [(128, 0), (129, 4)] L_2 h_3 L_70 h_71 := hs
            replace fw_7 := (hs.o (gx.S hM) trivial rfl).1.trans fw_7
            replace fw_8 := (hs.o (gx.S hM) trivial rfl).1.trans fw_8
            replace fw_9 := (hs.o (gx.S hM) trivial rfl).1.trans fw_9
            replace hM := hM.tr (hs.mono (by decide))
            have fw_75 : h_71.2.1 qi 4 = w_75 := fw_75
            have bw_75 := hT.gi (gqi.S hM) tt_129 (k := 4) rfl
            rw [fw_75] at bw_75
            have bw_75 : 0 ≤ w_75.toInt ∧ w_75.toInt ≤ 160 := bw_75
            have fw_76 : h_71.2.1 qp = w_76 := fw_76
            have lo_77 := hv_ls_u (t := (0, 1, 0)) k1_13O (by decide) (show w_75.toInt.toNat = w_10.toInt.toNat + 1 by omega) hr_74.2
            have eA : decide (iv7_2.toInt = 1) = true := decide_eq_true (by omega)
            refine lv_aload_n hx hb dX6_readEither_36 rfl (lv_at hl 3 rfl) ?_
            refine va_ldcS (tx := P_st.getD 2 "") hx hb hown (zVR 2 (by decide)) dX6_readEither_37 ?_
            refine hx_goi (hx_runVX (As := [.ref (b0.2.2.2.1 2)]) (rest := []) ⟨hx, hb, hml, hown, hts⟩ hW (gx.S hM) tt_6 (T := TX6) (N := 7) rfl (t_X6_isNextWord_v l dC dI dA L_70 h_71 H.size b0 x 2 hT (gx.S hM) (by decide) qt (gqt.S hM) ((hM.o gx trivial rfl).2.trans f_x_0) tf (hx_afS hM gqt rfl af_qt) w_7 fw_7 ln0 ((hM.o gx trivial rfl).1.trans f_x_1) (by omega)) hZ (cwV 1 hts (hx_gV kw_565 kw_562 kw_564 kw_14 kw_95) rfl rfl rfl (by decide +kernel) ⟨(by first | omega | (dsimp only; omega)), (by first | omega | (dsimp only; omega))⟩) rfl hl.1 rfl (Nat.le_of_ble_eq_true rfl) dX6_readEither_39 ⟨Nat.le_of_ble_eq_true rfl, Nat.le_of_ble_eq_true rfl⟩) hW (fun r_80 L_78 h_79 H locs p_81 hW => ?_)
            obtain ⟨⟨w_83, fw_83, hr_82⟩, hT, hs⟩ := p_81
            replace hT : hx_T T_tb L_78 h_79 := hT
            replace hs : hx_S T_tb [(6, 2)] L_70 h_71 L_78 h_79 := hs
            replace fw_8 := (hs.o (gx.S hM) trivial rfl).1.trans fw_8
            replace fw_9 := (hs.o (gx.S hM) trivial rfl).1.trans fw_9
            replace fw_75 := (hs.o (gqi.S hM) trivial rfl).1.trans fw_75
            replace fw_76 : h_79.2.1 qp = w_76 := (funext fun j => (hs.a (gqp.S hM) rfl j).1).trans fw_76
            replace hM := hM.tr (hs.mono (by decide))
            have fw_83 : h_79.2.1 x 2 = w_83 := fw_83
            have bw_83 := hT.gi (gx.S hM) tt_6 (k := 2) rfl
            rw [fw_83] at bw_83
            have bw_83 : 0 ≤ w_83.toInt ∧ w_83.toInt ≤ 402 := bw_83
            have eu_84 : (r_80.toInt = 1 ∧ hv_wd tf ln0.toInt.toNat (hv_sk tf ln0.toInt.toNat w_7.toInt.toNat) = 1) ∨ (r_80.toInt = 0 ∧ hv_wd tf ln0.toInt.toNat (hv_sk tf ln0.toInt.toNat w_7.toInt.toNat) ≠ 1) := hv_NW_u (js := 2) (by decide) hr_82.2.1
            have ek_85 : w_83.toInt.toNat = hv_sk tf ln0.toInt.toNat w_7.toInt.toNat := by omega
            rw [← ek_85] at eu_84
            refine lv_istore_n (lv' := [(2, .int r_80), (4, .int iv7_4), (3, .int iv7_3), (0, .ref x), (1, .int i1)]) hx hb dX6_readEither_42 rfl hl (by decide) rfl (fun ls hl => ?_)
            have sid : hv_sk tf ln0.toInt.toNat w_83.toInt.toNat = w_83.toInt.toNat := by rw [ek_85]; exact hv_sk_id
            refine lv_iload_n hx hb dX6_readEither_43 rfl (lv_at hl 0 rfl) ?_
            refine hb_if_eq (zx := r_80.toInt) (tgt := 60) hx hb rfl dX6_readEither_44 (by decide) (fun c_86 => ?_) (fun c_86 => ?_)
            · skip
              replace eu_84 : r_80.toInt = 0 ∧ hv_wd tf ln0.toInt.toNat w_83.toInt.toNat ≠ 1 := by rcases eu_84 with z | z; (exfalso; omega); exact z
              refine lv_iload_n hx hb dX6_readEither_60 rfl (lv_at hl 2 rfl) ?_
              refine hb_if_eq (zx := iv7_3.toInt) (tgt := 73) hx hb rfl dX6_readEither_61 (by decide) (fun c_87 => ?_) (fun c_87 => ?_)
              · skip
                have eB : decide (iv7_3.toInt = 1) = false := decide_eq_false (by omega)
                refine lv_aload_n hx hb dX6_readEither_73 rfl (lv_at hl 3 rfl) ?_
                refine va_ldcS (tx := P_st.getD 3 "") hx hb hown (zVR 3 (by decide)) dX6_readEither_74 ?_
                refine hx_goi (hx_runVX (As := [.ref (b0.2.2.2.1 3)]) (rest := []) ⟨hx, hb, hml, hown, hts⟩ hW (gx.S hM) tt_6 (T := TX6) (N := 7) rfl (t_X6_isNextWord_v l dC dI dA L_78 h_79 H.size b0 x 3 hT (gx.S hM) (by decide) qt (gqt.S hM) ((hM.o gx trivial rfl).2.trans f_x_0) tf (hx_afS hM gqt rfl af_qt) w_83 fw_83 ln0 ((hM.o gx trivial rfl).1.trans f_x_1) (by omega)) hZ (cwV 1 hts (hx_gV kw_565 kw_562 kw_564 kw_14 kw_95) rfl rfl rfl (by decide +kernel) ⟨(by first | omega | (dsimp only; omega)), (by first | omega | (dsimp only; omega))⟩) rfl hl.1 rfl (Nat.le_of_ble_eq_true rfl) dX6_readEither_76 ⟨Nat.le_of_ble_eq_true rfl, Nat.le_of_ble_eq_true rfl⟩) hW (fun r_90 L_88 h_89 H locs p_91 hW => ?_)
                obtain ⟨⟨w_93, fw_93, hr_92⟩, hT, hs⟩ := p_91
                replace hT : hx_T T_tb L_88 h_89 := hT
                replace hs : hx_S T_tb [(6, 2)] L_78 h_79 L_88 h_89 := hs
                replace fw_8 := (hs.o (gx.S hM) trivial rfl).1.trans fw_8
                replace fw_9 := (hs.o (gx.S hM) trivial rfl).1.trans fw_9
                replace fw_75 := (hs.o (gqi.S hM) trivial rfl).1.trans fw_75
                replace fw_76 : h_89.2.1 qp = w_76 := (funext fun j => (hs.a (gqp.S hM) rfl j).1).trans fw_76
                replace hM := hM.tr (hs.mono (by decide))
                have fw_93 : h_89.2.1 x 2 = w_93 := fw_93
                have bw_93 := hT.gi (gx.S hM) tt_6 (k := 2) rfl
                rw [fw_93] at bw_93
                have bw_93 : 0 ≤ w_93.toInt ∧ w_93.toInt ≤ 402 := bw_93
                have eu_94 : (r_90.toInt = 1 ∧ hv_wd tf ln0.toInt.toNat (hv_sk tf ln0.toInt.toNat w_83.toInt.toNat) = 0) ∨ (r_90.toInt = 0 ∧ hv_wd tf ln0.toInt.toNat (hv_sk tf ln0.toInt.toNat w_83.toInt.toNat) ≠ 0) := hv_NW_u (js := 3) (by decide) hr_92.2.1
                have ek_95 : w_93.toInt.toNat = hv_sk tf ln0.toInt.toNat w_83.toInt.toNat := by omega
                rw [← ek_95] at eu_94
                refine lv_istore_n (lv' := [(3, .int r_90), (2, .int r_80), (4, .int iv7_4), (0, .ref x), (1, .int i1)]) hx hb dX6_readEither_79 rfl hl (by decide) rfl (fun ls hl => ?_)
                have e2w : w_93.toInt.toNat = w_83.toInt.toNat := by rw [ek_95, sid]
                rw [e2w] at eu_94
                refine lv_iload_n hx hb dX6_readEither_80 rfl (lv_at hl 0 rfl) ?_
                refine hb_if_ne (zx := r_90.toInt) (tgt := 86) hx hb rfl dX6_readEither_81 (by decide) (fun c_96 => ?_) (fun c_96 => ?_)
                · skip
                  replace eu_94 : r_90.toInt = 1 ∧ hv_wd tf ln0.toInt.toNat w_83.toInt.toNat = 0 := by rcases eu_94 with z | z; exact z; exfalso; omega
                  have hwo := hv_wd_0 (T := tf) (n := ln0.toInt.toNat) (p := w_83.toInt.toNat) eu_94.2
                  refine lv_aload_n hx hb dX6_readEither_86 rfl (lv_at hl 3 rfl) ?_
                  refine lv_dup hx hb dX6_readEither_87 rfl ?_
                  refine hk_geti hx hb hts hC_6 hown hW (gx.S hM) tt_6 2 (by decide) rfl kw_127 ⟨rfl, rfl, rfl⟩ fw_93 dX6_readEither_88 ?_
                  refine lv_iconst (v := 2) hx hb dX6_readEither_91 (by decide) ?_
                  refine lv_iadd hx hb dX6_readEither_92 ?_
                  have rg_97 := i32_r w_93
                  refine lv_topi (fun x_98 ex_98 => ?_)
                  have zx_98 : x_98.toInt = w_93.toInt + 2 := by rw [ex_98]; exact i32_add rfl (by decide) (by omega) (by omega)
                  refine hx_puti hx hb hts hC_6 hown hW hT (hx_S.rf (M := [(6, 2)])) (gx.S hM) tt_6 2 (by decide) rfl kw_127 ⟨rfl, rfl, rfl⟩ rfl (x := x_98) ⟨by omega, by omega⟩ rfl rfl rfl (List.mem_singleton.mpr rfl) dX6_readEither_93 (fun H locs h_99 eh_99 hW hT hs => ?_)
                  replace fw_8 := (hs.o (gx.S hM) trivial rfl).1.trans fw_8
                  replace fw_9 := (hs.o (gx.S hM) trivial rfl).1.trans fw_9
                  replace fw_75 := (hs.o (gqi.S hM) trivial rfl).1.trans fw_75
                  replace fw_76 : h_99.2.1 qp = w_76 := (funext fun j => (hs.a (gqp.S hM) rfl j).1).trans fw_76
                  replace hM := hM.tr (hs.mono (by decide))
                  have f_100 : h_99.2.1 x 2 = x_98 := by rw [eh_99]; exact hx_pi_at _ _ _ _
                  obtain ⟨x_101, ex_101⟩ : ∃ y : Int32, y = iv7_4 + Int32.ofInt 1 := ⟨_, rfl⟩
                  have rg_102 := i32_r iv7_4
                  have zx_101 : x_101.toInt = iv7_4.toInt + (1) := by rw [ex_101]; exact i32_add rfl (by decide) (by omega) (by omega)
                  refine lv_iinc (v := x_101) (lv' := [(4, .int x_101), (3, .int r_90), (2, .int r_80), (0, .ref x), (1, .int i1)]) hx hb dX6_readEither_96 hl (k := 2) rfl ex_101.symm (by decide) rfl (fun ls hl => ?_)
                  refine lv_goto (tgt := 7) hx hb dX6_readEither_99 (by decide) ?_
                  exact ih7 r_80 r_90 x_101 x_98 w_8 w_9 w_75 w_76 _ _ L_88 h_99 (by omega) (by omega) (by omega) (by omega) (by omega) (by omega) (by omega) (by omega) (i32_r _).1 (i32_r _).2 (by omega) (by omega) (by omega) (by omega) ⟨_, lo_77, hE7.trans ((hv_LE_0 k1_13E (by rw [← ek_85]; exact eu_84.2) (by rw [← ek_85]; exact eu_94.2)).trans (by rw [eA, eB, ← ek_85, show w_83.toInt.toNat + 2 = x_98.toInt.toNat by omega, show decide (r_80.toInt = 1) = false from decide_eq_false (by omega), show decide (r_90.toInt = 1) = true from decide_eq_true (by omega)] <;> rfl))⟩ (by omega) (by omega) (by omega) (by omega) ls (by omega) hW hT hM f_100 fw_8 fw_9 fw_75 fw_76 (lv_sub hl [0, 1, 2, 3, 4] rfl)
                · skip
                  replace eu_94 : r_90.toInt = 0 ∧ hv_wd tf ln0.toInt.toNat w_83.toInt.toNat ≠ 0 := by rcases eu_94 with z | z; (exfalso; omega); exact z
                  refine lv_iconst (v := 1) hx hb dX6_readEither_84 (by decide) ?_
                  exact hx_retz hx hb hr rfl hlk hW ⟨⟨w_93, w_8, w_9, w_75, w_76, fw_93, fw_8, fw_9, fw_75, fw_76, (hv_K_t (x := w_93.toInt.toNat) (y := w_9.toInt.toNat) (by decide) (by omega) (by omega) (by omega) lo_77 (hE7.trans ((hv_LE_e k1_13E (by rw [← ek_85]; exact eu_84.2) (by rw [← ek_85]; exact eu_94.2)).trans (by rw [eA, eB, ← ek_85, ← e2w] <;> rfl))))⟩, hT, hM⟩ dX6_readEither_85
              · skip
                refine lv_aload_n hx hb dX6_readEither_64 rfl (lv_at hl 3 rfl) ?_
                refine hk_getr hx hb hts hC_6 hown hW (gx.S hM) tt_6 6 (by decide) rfl kw_131 ⟨rfl, rfl, rfl⟩ ((hM.o gx trivial rfl).2.trans f_x_6) dX6_readEither_65 ?_
                refine lv_bipush (v := -2) hx hb dX6_readEither_68 (by decide) ?_
                have zc_m2 : (-2 : Int32).toInt = -2 := by decide
                refine hx_gov (hx_runV (As := [.int (-2 : Int32)]) (rest := []) ⟨hx, hb, hml, hown, hts⟩ hW (gqi.S hM) tt_129 (T := TX0) (N := 5) rfl (t_X0_addProof_v l dC dI dA L_78 h_79 H.size qi (-2 : Int32) hT (gqi.S hM) qp (gqp.S hM) ((hM.o gqi trivial rfl).2.trans f_qi_3) w_76 fw_76 w_75 fw_75 (by omega)) (cwV 1 hts (hx_gV kw_583 kw_580 kw_581 kw_582 kw_96) rfl rfl rfl (by decide +kernel) ⟨(by first | omega | (dsimp only; omega)), (by first | omega | (dsimp only; omega))⟩) rfl hl.1 rfl (Nat.le_of_ble_eq_true rfl) dX6_readEither_70 ⟨Nat.le_of_ble_eq_true rfl, Nat.le_of_ble_eq_true rfl⟩) hW (fun L_103 h_104 H locs p_106 hW => ?_)
                obtain ⟨⟨w_108, w_109, fw_108, fw_109, hr_107⟩, hT, hs⟩ := p_106
                replace hT : hx_T T_tb L_103 h_104 := hT
                replace hs : hx_S T_tb [(128, 0), (129, 4)] L_78 h_79 L_103 h_104 := hs
                replace fw_8 := (hs.o (gx.S hM) trivial rfl).1.trans fw_8
                replace fw_9 := (hs.o (gx.S hM) trivial rfl).1.trans fw_9
                replace fw_83 := (hs.o (gx.S hM) trivial rfl).1.trans fw_83
                replace hM := hM.tr (hs.mono (by decide))
                have fw_108 : h_104.2.1 qi 4 = w_108 := fw_108
                have bw_108 := hT.gi (gqi.S hM) tt_129 (k := 4) rfl
                rw [fw_108] at bw_108
                have bw_108 : 0 ≤ w_108.toInt ∧ w_108.toInt ≤ 160 := bw_108
                have fw_109 : h_104.2.1 qp = w_109 := fw_109
                have lo_110 := hv_ls_u (t := (0, 0, 0)) lo_77 (by decide) (show w_108.toInt.toNat = w_75.toInt.toNat + 1 by omega) hr_107.2
                have eB : decide (iv7_3.toInt = 1) = true := decide_eq_true (by omega)
                refine lv_aload_n hx hb dX6_readEither_73 rfl (lv_at hl 3 rfl) ?_
                refine va_ldcS (tx := P_st.getD 3 "") hx hb hown (zVR 3 (by decide)) dX6_readEither_74 ?_
                refine hx_goi (hx_runVX (As := [.ref (b0.2.2.2.1 3)]) (rest := []) ⟨hx, hb, hml, hown, hts⟩ hW (gx.S hM) tt_6 (T := TX6) (N := 7) rfl (t_X6_isNextWord_v l dC dI dA L_103 h_104 H.size b0 x 3 hT (gx.S hM) (by decide) qt (gqt.S hM) ((hM.o gx trivial rfl).2.trans f_x_0) tf (hx_afS hM gqt rfl af_qt) w_83 fw_83 ln0 ((hM.o gx trivial rfl).1.trans f_x_1) (by omega)) hZ (cwV 1 hts (hx_gV kw_565 kw_562 kw_564 kw_14 kw_95) rfl rfl rfl (by decide +kernel) ⟨(by first | omega | (dsimp only; omega)), (by first | omega | (dsimp only; omega))⟩) rfl hl.1 rfl (Nat.le_of_ble_eq_true rfl) dX6_readEither_76 ⟨Nat.le_of_ble_eq_true rfl, Nat.le_of_ble_eq_true rfl⟩) hW (fun r_113 L_111 h_112 H locs p_114 hW => ?_)
                obtain ⟨⟨w_116, fw_116, hr_115⟩, hT, hs⟩ := p_114
                replace hT : hx_T T_tb L_111 h_112 := hT
                replace hs : hx_S T_tb [(6, 2)] L_103 h_104 L_111 h_112 := hs
                replace fw_8 := (hs.o (gx.S hM) trivial rfl).1.trans fw_8
                replace fw_9 := (hs.o (gx.S hM) trivial rfl).1.trans fw_9
                replace fw_108 := (hs.o (gqi.S hM) trivial rfl).1.trans fw_108
                replace fw_109 : h_112.2.1 qp = w_109 := (funext fun j => (hs.a (gqp.S hM) rfl j).1).trans fw_109
                replace hM := hM.tr (hs.mono (by decide))
                have fw_116 : h_112.2.1 x 2 = w_116 := fw_116
                have bw_116 := hT.gi (gx.S hM) tt_6 (k := 2) rfl
                rw [fw_116] at bw_116
                have bw_116 : 0 ≤ w_116.toInt ∧ w_116.toInt ≤ 402 := bw_116
                have eu_117 : (r_113.toInt = 1 ∧ hv_wd tf ln0.toInt.toNat (hv_sk tf ln0.toInt.toNat w_83.toInt.toNat) = 0) ∨ (r_113.toInt = 0 ∧ hv_wd tf ln0.toInt.toNat (hv_sk tf ln0.toInt.toNat w_83.toInt.toNat) ≠ 0) := hv_NW_u (js := 3) (by decide) hr_115.2.1
                have ek_118 : w_116.toInt.toNat = hv_sk tf ln0.toInt.toNat w_83.toInt.toNat := by omega
                rw [← ek_118] at eu_117
                refine lv_istore_n (lv' := [(3, .int r_113), (2, .int r_80), (4, .int iv7_4), (0, .ref x), (1, .int i1)]) hx hb dX6_readEither_79 rfl hl (by decide) rfl (fun ls hl => ?_)
                have e2w : w_116.toInt.toNat = w_83.toInt.toNat := by rw [ek_118, sid]
                rw [e2w] at eu_117
                refine lv_iload_n hx hb dX6_readEither_80 rfl (lv_at hl 0 rfl) ?_
                refine hb_if_ne (zx := r_113.toInt) (tgt := 86) hx hb rfl dX6_readEither_81 (by decide) (fun c_119 => ?_) (fun c_119 => ?_)
                · skip
                  replace eu_117 : r_113.toInt = 1 ∧ hv_wd tf ln0.toInt.toNat w_83.toInt.toNat = 0 := by rcases eu_117 with z | z; exact z; exfalso; omega
                  have hwo := hv_wd_0 (T := tf) (n := ln0.toInt.toNat) (p := w_83.toInt.toNat) eu_117.2
                  refine lv_aload_n hx hb dX6_readEither_86 rfl (lv_at hl 3 rfl) ?_
                  refine lv_dup hx hb dX6_readEither_87 rfl ?_
                  refine hk_geti hx hb hts hC_6 hown hW (gx.S hM) tt_6 2 (by decide) rfl kw_127 ⟨rfl, rfl, rfl⟩ fw_116 dX6_readEither_88 ?_
                  refine lv_iconst (v := 2) hx hb dX6_readEither_91 (by decide) ?_
                  refine lv_iadd hx hb dX6_readEither_92 ?_
                  have rg_120 := i32_r w_116
                  refine lv_topi (fun x_121 ex_121 => ?_)
                  have zx_121 : x_121.toInt = w_116.toInt + 2 := by rw [ex_121]; exact i32_add rfl (by decide) (by omega) (by omega)
                  refine hx_puti hx hb hts hC_6 hown hW hT (hx_S.rf (M := [(6, 2)])) (gx.S hM) tt_6 2 (by decide) rfl kw_127 ⟨rfl, rfl, rfl⟩ rfl (x := x_121) ⟨by omega, by omega⟩ rfl rfl rfl (List.mem_singleton.mpr rfl) dX6_readEither_93 (fun H locs h_122 eh_122 hW hT hs => ?_)
                  replace fw_8 := (hs.o (gx.S hM) trivial rfl).1.trans fw_8
                  replace fw_9 := (hs.o (gx.S hM) trivial rfl).1.trans fw_9
                  replace fw_108 := (hs.o (gqi.S hM) trivial rfl).1.trans fw_108
                  replace fw_109 : h_122.2.1 qp = w_109 := (funext fun j => (hs.a (gqp.S hM) rfl j).1).trans fw_109
                  replace hM := hM.tr (hs.mono (by decide))
                  have f_123 : h_122.2.1 x 2 = x_121 := by rw [eh_122]; exact hx_pi_at _ _ _ _
                  obtain ⟨x_124, ex_124⟩ : ∃ y : Int32, y = iv7_4 + Int32.ofInt 1 := ⟨_, rfl⟩
                  have rg_125 := i32_r iv7_4
                  have zx_124 : x_124.toInt = iv7_4.toInt + (1) := by rw [ex_124]; exact i32_add rfl (by decide) (by omega) (by omega)
                  refine lv_iinc (v := x_124) (lv' := [(4, .int x_124), (3, .int r_113), (2, .int r_80), (0, .ref x), (1, .int i1)]) hx hb dX6_readEither_96 hl (k := 2) rfl ex_124.symm (by decide) rfl (fun ls hl => ?_)
                  refine lv_goto (tgt := 7) hx hb dX6_readEither_99 (by decide) ?_
                  exact ih7 r_80 r_113 x_124 x_121 w_8 w_9 w_108 w_109 _ _ L_111 h_122 (by omega) (by omega) (by omega) (by omega) (by omega) (by omega) (by omega) (by omega) (i32_r _).1 (i32_r _).2 (by omega) (by omega) (by omega) (by omega) ⟨_, lo_110, hE7.trans ((hv_LE_0 k1_13E (by rw [← ek_85]; exact eu_84.2) (by rw [← ek_85]; exact eu_117.2)).trans (by rw [eA, eB, ← ek_85, show w_83.toInt.toNat + 2 = x_121.toInt.toNat by omega, show decide (r_80.toInt = 1) = false from decide_eq_false (by omega), show decide (r_113.toInt = 1) = true from decide_eq_true (by omega)] <;> rfl))⟩ (by omega) (by omega) (by omega) (by omega) ls (by omega) hW hT hM f_123 fw_8 fw_9 fw_108 fw_109 (lv_sub hl [0, 1, 2, 3, 4] rfl)
                · skip
                  replace eu_117 : r_113.toInt = 0 ∧ hv_wd tf ln0.toInt.toNat w_83.toInt.toNat ≠ 0 := by rcases eu_117 with z | z; (exfalso; omega); exact z
                  refine lv_iconst (v := 1) hx hb dX6_readEither_84 (by decide) ?_
                  exact hx_retz hx hb hr rfl hlk hW ⟨⟨w_116, w_8, w_9, w_108, w_109, fw_116, fw_8, fw_9, fw_108, fw_109, (hv_K_t (x := w_116.toInt.toNat) (y := w_9.toInt.toNat) (by decide) (by omega) (by omega) (by omega) lo_110 (hE7.trans ((hv_LE_e k1_13E (by rw [← ek_85]; exact eu_84.2) (by rw [← ek_85]; exact eu_117.2)).trans (by rw [eA, eB, ← ek_85, ← e2w] <;> rfl))))⟩, hT, hM⟩ dX6_readEither_85
            · skip
              replace eu_84 : r_80.toInt = 1 ∧ hv_wd tf ln0.toInt.toNat w_83.toInt.toNat = 1 := by rcases eu_84 with z | z; exact z; exfalso; omega
              have hwa := hv_wd_1 (T := tf) (n := ln0.toInt.toNat) (p := w_83.toInt.toNat) eu_84.2
              refine lv_aload_n hx hb dX6_readEither_47 rfl (lv_at hl 3 rfl) ?_
              refine lv_dup hx hb dX6_readEither_48 rfl ?_
              refine hk_geti hx hb hts hC_6 hown hW (gx.S hM) tt_6 2 (by decide) rfl kw_127 ⟨rfl, rfl, rfl⟩ fw_83 dX6_readEither_49 ?_
              refine lv_iconst (v := 3) hx hb dX6_readEither_52 (by decide) ?_
              refine lv_iadd hx hb dX6_readEither_53 ?_
              have rg_126 := i32_r w_83
              refine lv_topi (fun x_127 ex_127 => ?_)
              have zx_127 : x_127.toInt = w_83.toInt + 3 := by rw [ex_127]; exact i32_add rfl (by decide) (by omega) (by omega)
              refine hx_puti hx hb hts hC_6 hown hW hT (hx_S.rf (M := [(6, 2)])) (gx.S hM) tt_6 2 (by decide) rfl kw_127 ⟨rfl, rfl, rfl⟩ rfl (x := x_127) ⟨by omega, by omega⟩ rfl rfl rfl (List.mem_singleton.mpr rfl) dX6_readEither_54 (fun H locs h_128 eh_128 hW hT hs => ?_)
              replace fw_8 := (hs.o (gx.S hM) trivial rfl).1.trans fw_8
              replace fw_9 := (hs.o (gx.S hM) trivial rfl).1.trans fw_9
              replace fw_75 := (hs.o (gqi.S hM) trivial rfl).1.trans fw_75
              replace fw_76 : h_128.2.1 qp = w_76 := (funext fun j => (hs.a (gqp.S hM) rfl j).1).trans fw_76
              replace hM := hM.tr (hs.mono (by decide))
              have f_129 : h_128.2.1 x 2 = x_127 := by rw [eh_128]; exact hx_pi_at _ _ _ _
              refine lv_goto (tgt := 96) hx hb dX6_readEither_57 (by decide) ?_
              obtain ⟨x_130, ex_130⟩ : ∃ y : Int32, y = iv7_4 + Int32.ofInt 1 := ⟨_, rfl⟩
              have rg_131 := i32_r iv7_4
              have zx_130 : x_130.toInt = iv7_4.toInt + (1) := by rw [ex_130]; exact i32_add rfl (by decide) (by omega) (by omega)
              refine lv_iinc (v := x_130) (lv' := [(4, .int x_130), (2, .int r_80), (3, .int iv7_3), (0, .ref x), (1, .int i1)]) hx hb dX6_readEither_96 hl (k := 1) rfl ex_130.symm (by decide) rfl (fun ls hl => ?_)
              refine lv_goto (tgt := 7) hx hb dX6_readEither_99 (by decide) ?_
              exact ih7 r_80 iv7_3 x_130 x_127 w_8 w_9 w_75 w_76 _ _ L_78 h_128 (by omega) (by omega) (by omega) (by omega) (by omega) (by omega) (by omega) (by omega) (i32_r _).1 (i32_r _).2 (by omega) (by omega) (by omega) (by omega) ⟨_, lo_77, hE7.trans ((hv_LE_1 k1_13E (by rw [← ek_85]; exact eu_84.2)).trans (by rw [eA, ← ek_85, show w_83.toInt.toNat + 3 = x_127.toInt.toNat by omega, show decide (r_80.toInt = 1) = true from decide_eq_true (by omega)] <;> rfl))⟩ (by omega) (by omega) (by omega) (by omega) ls (by omega) hW hT hM f_129 fw_8 fw_9 fw_75 fw_76 (lv_sub hl [0, 2, 1, 3, 4] rfl)
  have zk_0 : (0 : Int32).toInt = 0 := by decide
  have zk_0 : (0 : Int32).toInt = 0 := by decide
  have zk_0 : (0 : Int32).toInt = 0 := by decide
  exact loop7 402 (0 : Int32) (0 : Int32) (0 : Int32) at0 ft0 tm0 pl0 pf _ _ L h (by decide) (by decide) (by decide) (by decide) (by decide) (by decide) (by omega) (by omega) (i32_r _).1 (i32_r _).2 (by omega) (by omega) (by omega) (by omega) ⟨o, hO, (by have e0 : decide ((0 : Int32).toInt = 1) = false := (by decide); rw [e0])⟩ (by omega) (by omega) (by omega) (by omega) ls (by omega) hW hT hM f_x_2 f_x_3 f_x_5 f_qi_4 af_qp hl


set_option maxHeartbeats 4000000 in
set_option maxRecDepth 100000 in
theorem t_X6_readOne_g (i1 : Int32) (hi1 : 0 ≤ i1.toInt ∧ i1.toInt ≤ 7) (D fr1 lo1 fr lo : Nat) (hfr1 : 7 ≤ fr1) (hlo1 : 158 ≤ lo1) (hfr : fr1 ≤ fr) (hlo : lo1 ≤ lo) (t_hRO : ∀ i2 : Int32, i2.toInt = i1.toInt + 1 → hv_MO i2 D fr1 lo1) (t_hRE : ∀ i2 : Int32, i2.toInt = i1.toInt + 1 → hv_ME i2 D fr lo) : hv_MO i1 (D + 1) (fr + 1) (lo + 24) := by
  unfold hv_MO
  intro l dC dI dA L h sz b0 x hT gx qt gqt f_x_0 qi gqi f_x_6 qp gqp f_qi_3 tf af_qt pf af_qp at0 f_x_2 ln0 f_x_1 ft0 f_x_3 tm0 f_x_5 pl0 f_qi_4 o hO hF hB hA hT0
  refine hx_metX (lv := [(0, .ref x), (1, .int i1)]) (by decide +kernel) rfl (Nat.le_of_ble_eq_true rfl) rfl ?_
  intro p e s m below meth c hx hb hml hr hlk hts0 hown hin hsz hW hZ ls hl
  have hts : ∀ w ∈ hx_all, w.before _ s = true := fun w hw => hts0 w (List.mem_cons_of_mem _ hw)
  have hown : s.vm.findClass "SmallCourt$Reader" = some m.cls := hown
  have hM : hx_S T_tb [(6, 2), (6, 3), (6, 5), (128, 0), (129, 4)] L h L h := hx_S.rf
  obtain ⟨zLT, zLA, zMT, zMA, zCS, zSF, zVS, zVR⟩ := hZ.2.2.2.2.2.2
  have b_at0 := hT.gi gx tt_6 (k := 2) rfl
  rw [f_x_2] at b_at0
  have b_at0 : 0 ≤ at0.toInt ∧ at0.toInt ≤ 402 := b_at0
  have b_ln0 := hT.gi gx tt_6 (k := 1) rfl
  rw [f_x_1] at b_ln0
  have b_ln0 : 0 ≤ ln0.toInt ∧ ln0.toInt ≤ 400 := b_ln0
  have b_ft0 := hT.gi gx tt_6 (k := 3) rfl
  rw [f_x_3] at b_ft0
  have b_ft0 : -2147483648 ≤ ft0.toInt ∧ ft0.toInt ≤ 2147483647 := b_ft0
  have b_tm0 := hT.gi gx tt_6 (k := 5) rfl
  rw [f_x_5] at b_tm0
  have b_tm0 : -2147483648 ≤ tm0.toInt ∧ tm0.toInt ≤ 2147483647 := b_tm0
  have b_pl0 := hT.gi gqi tt_129 (k := 4) rfl
  rw [f_qi_4] at b_pl0
  have b_pl0 : 0 ≤ pl0.toInt ∧ pl0.toInt ≤ 160 := b_pl0
  refine lv_aload_n hx hb dX6_readOne_0 rfl (lv_at hl 0 rfl) ?_
  refine va_ldcS (tx := P_st.getD 4 "") hx hb hown (zVR 4 (by decide)) dX6_readOne_1 ?_
  refine hx_goi (hx_runVX (As := [.ref (b0.2.2.2.1 4)]) (rest := []) ⟨hx, hb, hml, hown, hts⟩ hW (gx.S hM) tt_6 (T := TX6) (N := 7) rfl (t_X6_isNextWord_v l dC dI dA L h s.heap.size b0 x 4 hT (gx.S hM) (by decide) qt (gqt.S hM) ((hM.o gx trivial rfl).2.trans f_x_0) tf (hx_afS hM gqt rfl af_qt) at0 f_x_2 ln0 ((hM.o gx trivial rfl).1.trans f_x_1) (by omega)) hZ (cwV 1 hts (hx_gV kw_565 kw_562 kw_564 kw_14 kw_95) rfl rfl rfl (by decide +kernel) ⟨(by first | omega | (dsimp only; omega)), (by first | omega | (dsimp only; omega))⟩) rfl hl.1 rfl (Nat.le_of_ble_eq_true rfl) dX6_readOne_3 ⟨Nat.le_of_ble_eq_true rfl, Nat.le_of_ble_eq_true rfl⟩) hW (fun r_3 L_1 h_2 H locs p_4 hW => ?_)
  obtain ⟨⟨w_6, fw_6, hr_5⟩, hT, hs⟩ := p_4
  replace hT : hx_T T_tb L_1 h_2 := hT
  replace hs : hx_S T_tb [(6, 2)] L h L_1 h_2 := hs
  replace f_x_3 := (hs.o (gx.S hM) trivial rfl).1.trans f_x_3
  replace f_x_5 := (hs.o (gx.S hM) trivial rfl).1.trans f_x_5
  replace f_qi_4 := (hs.o (gqi.S hM) trivial rfl).1.trans f_qi_4
  replace af_qp : h_2.2.1 qp = pf := (funext fun j => (hs.a (gqp.S hM) rfl j).1).trans af_qp
  replace hM := hM.tr (hs.mono (by decide))
  have fw_6 : h_2.2.1 x 2 = w_6 := fw_6
  have bw_6 := hT.gi (gx.S hM) tt_6 (k := 2) rfl
  rw [fw_6] at bw_6
  have bw_6 : 0 ≤ w_6.toInt ∧ w_6.toInt ≤ 402 := bw_6
  have eu_7 : (r_3.toInt = 1 ∧ hv_wd tf ln0.toInt.toNat (hv_sk tf ln0.toInt.toNat at0.toInt.toNat) = 2) ∨ (r_3.toInt = 0 ∧ hv_wd tf ln0.toInt.toNat (hv_sk tf ln0.toInt.toNat at0.toInt.toNat) ≠ 2) := hv_NW_u (js := 4) (by decide) hr_5.2.1
  have ek_8 : w_6.toInt.toNat = hv_sk tf ln0.toInt.toNat at0.toInt.toNat := by omega
  rw [← ek_8] at eu_7
  refine lv_istore_n (lv' := [(2, .int r_3), (0, .ref x), (1, .int i1)]) hx hb dX6_readOne_6 rfl hl (by decide) rfl (fun ls hl => ?_)
  have sid : hv_sk tf ln0.toInt.toNat w_6.toInt.toNat = w_6.toInt.toNat := by rw [ek_8]; exact hv_sk_id
  have hl0 := hv_ls_l hO
  refine lv_iload_n hx hb dX6_readOne_7 rfl (lv_at hl 0 rfl) ?_
  refine hb_if_ne (zx := r_3.toInt) (tgt := 25) hx hb rfl dX6_readOne_8 (by decide) (fun c_9 => ?_) (fun c_9 => ?_)
  · skip
    replace eu_7 : r_3.toInt = 1 ∧ hv_wd tf ln0.toInt.toNat w_6.toInt.toNat = 2 := by rcases eu_7 with z | z; exact z; exfalso; omega
    refine lv_iload_n hx hb dX6_readOne_25 rfl (lv_at hl 2 rfl) ?_
    refine lv_bipush (v := 8) hx hb dX6_readOne_26 (by decide) ?_
    refine hb_icmp_lt (zx := i1.toInt) (zy := 8) (tgt := 41) hx hb rfl (by decide) dX6_readOne_28 (by decide) (fun c_10 => ?_) (fun c_10 => by exfalso; omega)
    refine lv_iload_n hx hb dX6_readOne_41 rfl (lv_at hl 0 rfl) ?_
    refine hb_if_eq (zx := r_3.toInt) (tgt := 78) hx hb rfl dX6_readOne_42 (by decide) (fun c_11 => by exfalso; omega) (fun c_11 => ?_)
    have hn2 := hv_wd_2 (T := tf) (n := ln0.toInt.toNat) (p := w_6.toInt.toNat) eu_7.2
    refine lv_aload_n hx hb dX6_readOne_45 rfl (lv_at hl 1 rfl) ?_
    refine lv_dup hx hb dX6_readOne_46 rfl ?_
    refine hk_geti hx hb hts hC_6 hown hW (gx.S hM) tt_6 2 (by decide) rfl kw_127 ⟨rfl, rfl, rfl⟩ fw_6 dX6_readOne_47 ?_
    refine lv_iconst (v := 3) hx hb dX6_readOne_50 (by decide) ?_
    refine lv_iadd hx hb dX6_readOne_51 ?_
    have rg_12 := i32_r w_6
    refine lv_topi (fun x_13 ex_13 => ?_)
    have zx_13 : x_13.toInt = w_6.toInt + 3 := by rw [ex_13]; exact i32_add rfl (by decide) (by omega) (by omega)
    refine hx_puti hx hb hts hC_6 hown hW hT (hx_S.rf (M := [(6, 2)])) (gx.S hM) tt_6 2 (by decide) rfl kw_127 ⟨rfl, rfl, rfl⟩ rfl (x := x_13) ⟨by omega, by omega⟩ rfl rfl rfl (List.mem_singleton.mpr rfl) dX6_readOne_52 (fun H locs h_14 eh_14 hW hT hs => ?_)
    replace f_x_3 := (hs.o (gx.S hM) trivial rfl).1.trans f_x_3
    replace f_x_5 := (hs.o (gx.S hM) trivial rfl).1.trans f_x_5
    replace f_qi_4 := (hs.o (gqi.S hM) trivial rfl).1.trans f_qi_4
    replace af_qp : h_14.2.1 qp = pf := (funext fun j => (hs.a (gqp.S hM) rfl j).1).trans af_qp
    replace hM := hM.tr (hs.mono (by decide))
    have f_15 : h_14.2.1 x 2 = x_13 := by rw [eh_14]; exact hx_pi_at _ _ _ _
    refine lv_aload_n hx hb dX6_readOne_55 rfl (lv_at hl 1 rfl) ?_
    refine lv_iload_n hx hb dX6_readOne_56 rfl (lv_at hl 2 rfl) ?_
    refine lv_iconst (v := 1) hx hb dX6_readOne_57 (by decide) ?_
    refine lv_iadd hx hb dX6_readOne_58 ?_
    have rg_16 := i32_r i1
    refine lv_topi (fun x_17 ex_17 => ?_)
    have zx_17 : x_17.toInt = i1.toInt + 1 := by rw [ex_17]; exact i32_add rfl (by decide) (by omega) (by omega)
    have t_hRO9 := t_hRO x_17 (by omega)
    refine hx_goi (hx_runVX (As := [.int x_17]) (rest := []) ⟨hx, hb, hml, hown, hts⟩ hW (gx.S hM) tt_6 (T := TX6) (N := 7) rfl (t_hRO9 l dC dI dA L_1 h_14 H.size b0 x hT (gx.S hM) qt (gqt.S hM) ((hM.o gx trivial rfl).2.trans f_x_0) qi (gqi.S hM) ((hM.o gx trivial rfl).2.trans f_x_6) qp (gqp.S hM) ((hM.o gqi trivial rfl).2.trans f_qi_3) tf (hx_afS hM gqt rfl af_qt) pf af_qp x_13 f_15 ln0 ((hM.o gx trivial rfl).1.trans f_x_1) ft0 f_x_3 tm0 f_x_5 pl0 f_qi_4 o hO (by omega) (by omega) (by omega) ⟨by omega, by omega⟩) hZ (cwV 1 hts (hx_gV kw_560 kw_557 kw_559 kw_13 kw_95) rfl rfl rfl (by decide +kernel) ⟨(by first | omega | (dsimp only; omega)), (by first | omega | (dsimp only; omega))⟩) rfl hl.1 rfl (Nat.le_of_ble_eq_true rfl) dX6_readOne_59 ⟨Nat.le_of_ble_eq_true rfl, Nat.le_of_ble_eq_true rfl⟩) hW (fun r_20 L_18 h_19 H locs p_21 hW => ?_)
    obtain ⟨⟨w_23, w_24, w_25, w_26, w_27, fw_23, fw_24, fw_25, fw_26, fw_27, hr_22⟩, hT, hs⟩ := p_21
    replace hT : hx_T T_tb L_18 h_19 := hT
    replace hs : hx_S T_tb [(6, 2), (6, 3), (6, 5), (128, 0), (129, 4)] L_1 h_14 L_18 h_19 := hs
    replace hM := hM.tr (hs.mono (by decide))
    have fw_23 : h_19.2.1 x 2 = w_23 := fw_23
    have bw_23 := hT.gi (gx.S hM) tt_6 (k := 2) rfl
    rw [fw_23] at bw_23
    have bw_23 : 0 ≤ w_23.toInt ∧ w_23.toInt ≤ 402 := bw_23
    have fw_24 : h_19.2.1 x 3 = w_24 := fw_24
    have bw_24 := hT.gi (gx.S hM) tt_6 (k := 3) rfl
    rw [fw_24] at bw_24
    have bw_24 : -2147483648 ≤ w_24.toInt ∧ w_24.toInt ≤ 2147483647 := bw_24
    have fw_25 : h_19.2.1 x 5 = w_25 := fw_25
    have bw_25 := hT.gi (gx.S hM) tt_6 (k := 5) rfl
    rw [fw_25] at bw_25
    have bw_25 : -2147483648 ≤ w_25.toInt ∧ w_25.toInt ≤ 2147483647 := bw_25
    have fw_26 : h_19.2.1 qi 4 = w_26 := fw_26
    have bw_26 := hT.gi (gqi.S hM) tt_129 (k := 4) rfl
    rw [fw_26] at bw_26
    have bw_26 : 0 ≤ w_26.toInt ∧ w_26.toInt ≤ 160 := bw_26
    have fw_27 : h_19.2.1 qp = w_27 := fw_27
    have hr_22b := hv_K_b hr_22
    refine hb_if_ne (zx := r_20.toInt) (tgt := 67) hx hb rfl dX6_readOne_62 (by decide) (fun c_28 => ?_) (fun c_28 => ?_)
    · skip
      obtain ⟨k1_29F, k1_29p, k1_29t, oo_30, k1_29O, k1_29E⟩ := hv_K_1 hr_22 (by omega)
      have k1_29l := hv_ls_l k1_29O
      replace hr_22b : r_20.toInt = 1 := by omega
      have k1_29g := hv_one_g k1_29E (by omega)
      refine lv_aload_n hx hb dX6_readOne_67 rfl (lv_at hl 1 rfl) ?_
      refine hk_getr hx hb hts hC_6 hown hW (gx.S hM) tt_6 6 (by decide) rfl kw_131 ⟨rfl, rfl, rfl⟩ ((hM.o gx trivial rfl).2.trans f_x_6) dX6_readOne_68 ?_
      refine lv_bipush (v := -3) hx hb dX6_readOne_71 (by decide) ?_
      have zc_m3 : (-3 : Int32).toInt = -3 := by decide
      refine hx_gov (hx_runV (As := [.int (-3 : Int32)]) (rest := []) ⟨hx, hb, hml, hown, hts⟩ hW (gqi.S hM) tt_129 (T := TX0) (N := 5) rfl (t_X0_addProof_v l dC dI dA L_18 h_19 H.size qi (-3 : Int32) hT (gqi.S hM) qp (gqp.S hM) ((hM.o gqi trivial rfl).2.trans f_qi_3) w_27 fw_27 w_26 fw_26 (by omega)) (cwV 1 hts (hx_gV kw_583 kw_580 kw_581 kw_582 kw_96) rfl rfl rfl (by decide +kernel) ⟨(by first | omega | (dsimp only; omega)), (by first | omega | (dsimp only; omega))⟩) rfl hl.1 rfl (Nat.le_of_ble_eq_true rfl) dX6_readOne_73 ⟨Nat.le_of_ble_eq_true rfl, Nat.le_of_ble_eq_true rfl⟩) hW (fun L_31 h_32 H locs p_34 hW => ?_)
      obtain ⟨⟨w_36, w_37, fw_36, fw_37, hr_35⟩, hT, hs⟩ := p_34
      replace hT : hx_T T_tb L_31 h_32 := hT
      replace hs : hx_S T_tb [(128, 0), (129, 4)] L_18 h_19 L_31 h_32 := hs
      replace fw_23 := (hs.o (gx.S hM) trivial rfl).1.trans fw_23
      replace fw_24 := (hs.o (gx.S hM) trivial rfl).1.trans fw_24
      replace fw_25 := (hs.o (gx.S hM) trivial rfl).1.trans fw_25
      replace hM := hM.tr (hs.mono (by decide))
      have fw_36 : h_32.2.1 qi 4 = w_36 := fw_36
      have bw_36 := hT.gi (gqi.S hM) tt_129 (k := 4) rfl
      rw [fw_36] at bw_36
      have bw_36 : 0 ≤ w_36.toInt ∧ w_36.toInt ≤ 160 := bw_36
      have fw_37 : h_32.2.1 qp = w_37 := fw_37
      refine lv_iconst (v := 1) hx hb dX6_readOne_76 (by decide) ?_
      exact hx_retz hx hb hr rfl hlk hW ⟨⟨w_23, w_24, w_25, w_36, w_37, fw_23, fw_24, fw_25, fw_36, fw_37, (hv_K_t (x := w_23.toInt.toNat) (y := w_25.toInt.toNat) (o := (0, 2, 0) :: oo_30) (by decide) (by omega) (by omega) (by omega) (hv_ls_u k1_29O (by decide) (by omega) hr_35.2) (hv_one_n1 (by rw [← ek_8]; exact eu_7.2) (by rw [← ek_8, show w_6.toInt.toNat + 3 = x_13.toInt.toNat by omega]; exact k1_29E)))⟩, hT, hM⟩ dX6_readOne_77
    · skip
      refine lv_iconst (v := 0) hx hb dX6_readOne_65 (by decide) ?_
      exact hx_retz hx hb hr rfl hlk hW ⟨⟨w_23, w_24, w_25, w_26, w_27, fw_23, fw_24, fw_25, fw_26, fw_27, (hv_K_f (x := w_24.toInt.toNat) (by decide) (by have h8 := (hv_K_0 hr_22 (by omega)).1; omega) (by have h8 := (hv_K_0 hr_22 (by omega)).1; omega) (hv_one_n0 (by rw [← ek_8]; exact eu_7.2) (by rw [← ek_8, show w_6.toInt.toNat + 3 = x_13.toInt.toNat by omega]; exact (hv_K_0 hr_22 (by omega)).2)))⟩, hT, hM⟩ dX6_readOne_66
  · skip
    replace eu_7 : r_3.toInt = 0 ∧ hv_wd tf ln0.toInt.toNat w_6.toInt.toNat ≠ 2 := by rcases eu_7 with z | z; (exfalso; omega); exact z
    refine lv_aload_n hx hb dX6_readOne_11 rfl (lv_at hl 1 rfl) ?_
    refine lv_bipush (v := 40) hx hb dX6_readOne_12 (by decide) ?_
    have zc_40 : (40 : Int32).toInt = 40 := by decide
    refine hx_goi (hx_runV (As := [.int (40 : Int32)]) (rest := []) ⟨hx, hb, hml, hown, hts⟩ hW (gx.S hM) tt_6 (T := TX6) (N := 7) rfl (t_X6_isByte_v l dC dI dA L_1 h_2 H.size x (40 : Int32) hT (gx.S hM) qt (gqt.S hM) ((hM.o gx trivial rfl).2.trans f_x_0) tf (hx_afS hM gqt rfl af_qt) w_6 fw_6 ln0 ((hM.o gx trivial rfl).1.trans f_x_1)) (cwV 1 hts (hx_gV kw_569 kw_566 kw_568 kw_15 kw_95) rfl rfl rfl (by decide +kernel) ⟨(by first | omega | (dsimp only; omega)), (by first | omega | (dsimp only; omega))⟩) rfl hl.1 rfl (Nat.le_of_ble_eq_true rfl) dX6_readOne_14 ⟨Nat.le_of_ble_eq_true rfl, Nat.le_of_ble_eq_true rfl⟩) hW (fun r_40 L_38 h_39 H locs p_41 hW => ?_)
    obtain ⟨hr_42, hT, hs⟩ := p_41
    replace hT : hx_T T_tb L_38 h_39 := hT
    replace hs : hx_S T_tb [] L_1 h_2 L_38 h_39 := hs
    replace f_x_3 := (hs.o (gx.S hM) trivial rfl).1.trans f_x_3
    replace f_x_5 := (hs.o (gx.S hM) trivial rfl).1.trans f_x_5
    replace f_qi_4 := (hs.o (gqi.S hM) trivial rfl).1.trans f_qi_4
    replace fw_6 := (hs.o (gx.S hM) trivial rfl).1.trans fw_6
    replace af_qp : h_39.2.1 qp = pf := (funext fun j => (hs.a (gqp.S hM) rfl j).1).trans af_qp
    replace hM := hM.tr (hs.mono (by decide))
    refine hb_if_ne (zx := r_40.toInt) (tgt := 25) hx hb rfl dX6_readOne_17 (by decide) (fun c_43 => ?_) (fun c_43 => ?_)
    · skip
      replace hr_42 : r_40.toInt = 1 ∧ (w_6.toInt < ln0.toInt ∧ (tf w_6.toInt.toNat).toInt = 40) := by have z8 : (40 : Int32).toInt = 40 := (by decide); rcases hr_42 with z | z; exact ⟨z.1, by omega, by omega⟩; exfalso; omega
      refine lv_iload_n hx hb dX6_readOne_25 rfl (lv_at hl 2 rfl) ?_
      refine lv_bipush (v := 8) hx hb dX6_readOne_26 (by decide) ?_
      refine hb_icmp_lt (zx := i1.toInt) (zy := 8) (tgt := 41) hx hb rfl (by decide) dX6_readOne_28 (by decide) (fun c_44 => ?_) (fun c_44 => by exfalso; omega)
      refine lv_iload_n hx hb dX6_readOne_41 rfl (lv_at hl 0 rfl) ?_
      refine hb_if_eq (zx := r_3.toInt) (tgt := 78) hx hb rfl dX6_readOne_42 (by decide) (fun c_45 => ?_) (fun c_45 => by exfalso; omega)
      refine lv_aload_n hx hb dX6_readOne_78 rfl (lv_at hl 1 rfl) ?_
      refine lv_dup hx hb dX6_readOne_79 rfl ?_
      refine hk_geti hx hb hts hC_6 hown hW (gx.S hM) tt_6 2 (by decide) rfl kw_127 ⟨rfl, rfl, rfl⟩ fw_6 dX6_readOne_80 ?_
      refine lv_iconst (v := 1) hx hb dX6_readOne_83 (by decide) ?_
      refine lv_iadd hx hb dX6_readOne_84 ?_
      have rg_46 := i32_r w_6
      refine lv_topi (fun x_47 ex_47 => ?_)
      have zx_47 : x_47.toInt = w_6.toInt + 1 := by rw [ex_47]; exact i32_add rfl (by decide) (by omega) (by omega)
      refine hx_puti hx hb hts hC_6 hown hW hT (hx_S.rf (M := [(6, 2)])) (gx.S hM) tt_6 2 (by decide) rfl kw_127 ⟨rfl, rfl, rfl⟩ rfl (x := x_47) ⟨by omega, by omega⟩ rfl rfl rfl (List.mem_singleton.mpr rfl) dX6_readOne_85 (fun H locs h_48 eh_48 hW hT hs => ?_)
      replace f_x_3 := (hs.o (gx.S hM) trivial rfl).1.trans f_x_3
      replace f_x_5 := (hs.o (gx.S hM) trivial rfl).1.trans f_x_5
      replace f_qi_4 := (hs.o (gqi.S hM) trivial rfl).1.trans f_qi_4
      replace af_qp : h_48.2.1 qp = pf := (funext fun j => (hs.a (gqp.S hM) rfl j).1).trans af_qp
      replace hM := hM.tr (hs.mono (by decide))
      have f_49 : h_48.2.1 x 2 = x_47 := by rw [eh_48]; exact hx_pi_at _ _ _ _
      refine lv_aload_n hx hb dX6_readOne_88 rfl (lv_at hl 1 rfl) ?_
      refine lv_iload_n hx hb dX6_readOne_89 rfl (lv_at hl 2 rfl) ?_
      refine lv_iconst (v := 1) hx hb dX6_readOne_90 (by decide) ?_
      refine lv_iadd hx hb dX6_readOne_91 ?_
      have rg_50 := i32_r i1
      refine lv_topi (fun x_51 ex_51 => ?_)
      have zx_51 : x_51.toInt = i1.toInt + 1 := by rw [ex_51]; exact i32_add rfl (by decide) (by omega) (by omega)
      have t_hRE9 := t_hRE x_51 (by omega)
      refine hx_goi (hx_runVX (As := [.int x_51]) (rest := []) ⟨hx, hb, hml, hown, hts⟩ hW (gx.S hM) tt_6 (T := TX6) (N := 7) rfl (t_hRE9 l dC dI dA L_38 h_48 H.size b0 x hT (gx.S hM) qt (gqt.S hM) ((hM.o gx trivial rfl).2.trans f_x_0) qi (gqi.S hM) ((hM.o gx trivial rfl).2.trans f_x_6) qp (gqp.S hM) ((hM.o gqi trivial rfl).2.trans f_qi_3) tf (hx_afS hM gqt rfl af_qt) pf af_qp x_47 f_49 ln0 ((hM.o gx trivial rfl).1.trans f_x_1) ft0 f_x_3 tm0 f_x_5 pl0 f_qi_4 o hO (by omega) (by omega) (by omega) ⟨by omega, by omega⟩) hZ (cwV 1 hts (hx_gV kw_556 kw_553 kw_555 kw_12 kw_95) rfl rfl rfl (by decide +kernel) ⟨(by first | omega | (dsimp only; omega)), (by first | omega | (dsimp only; omega))⟩) rfl hl.1 rfl (Nat.le_of_ble_eq_true rfl) dX6_readOne_92 ⟨Nat.le_of_ble_eq_true rfl, Nat.le_of_ble_eq_true rfl⟩) hW (fun r_54 L_52 h_53 H locs p_55 hW => ?_)
      obtain ⟨⟨w_57, w_58, w_59, w_60, w_61, fw_57, fw_58, fw_59, fw_60, fw_61, hr_56⟩, hT, hs⟩ := p_55
      replace hT : hx_T T_tb L_52 h_53 := hT
      replace hs : hx_S T_tb [(6, 2), (6, 3), (6, 5), (128, 0), (129, 4)] L_38 h_48 L_52 h_53 := hs
      replace hM := hM.tr (hs.mono (by decide))
      have fw_57 : h_53.2.1 x 2 = w_57 := fw_57
      have bw_57 := hT.gi (gx.S hM) tt_6 (k := 2) rfl
      rw [fw_57] at bw_57
      have bw_57 : 0 ≤ w_57.toInt ∧ w_57.toInt ≤ 402 := bw_57
      have fw_58 : h_53.2.1 x 3 = w_58 := fw_58
      have bw_58 := hT.gi (gx.S hM) tt_6 (k := 3) rfl
      rw [fw_58] at bw_58
      have bw_58 : -2147483648 ≤ w_58.toInt ∧ w_58.toInt ≤ 2147483647 := bw_58
      have fw_59 : h_53.2.1 x 5 = w_59 := fw_59
      have bw_59 := hT.gi (gx.S hM) tt_6 (k := 5) rfl
      rw [fw_59] at bw_59
      have bw_59 : -2147483648 ≤ w_59.toInt ∧ w_59.toInt ≤ 2147483647 := bw_59
      have fw_60 : h_53.2.1 qi 4 = w_60 := fw_60
      have bw_60 := hT.gi (gqi.S hM) tt_129 (k := 4) rfl
      rw [fw_60] at bw_60
      have bw_60 : 0 ≤ w_60.toInt ∧ w_60.toInt ≤ 160 := bw_60
      have fw_61 : h_53.2.1 qp = w_61 := fw_61
      have hr_56b := hv_K_b hr_56
      refine hb_if_ne (zx := r_54.toInt) (tgt := 100) hx hb rfl dX6_readOne_95 (by decide) (fun c_62 => ?_) (fun c_62 => ?_)
      · skip
        obtain ⟨k1_63F, k1_63p, k1_63t, oo_64, k1_63O, k1_63E⟩ := hv_K_1 hr_56 (by omega)
        have k1_63l := hv_ls_l k1_63O
        replace hr_56b : r_54.toInt = 1 := by omega
        have k1_63g := hv_LE_g k1_63E (by omega)
        refine lv_aload_n hx hb dX6_readOne_100 rfl (lv_at hl 1 rfl) ?_
        refine hx_gov (hx_runV (As := []) (rest := []) ⟨hx, hb, hml, hown, hts⟩ hW (gx.S hM) tt_6 (T := TX6) (N := 7) rfl (t_X6_skipBlanks_v l dC dI dA L_52 h_53 H.size x hT (gx.S hM) qt (gqt.S hM) ((hM.o gx trivial rfl).2.trans f_x_0) tf (hx_afS hM gqt rfl af_qt) w_57 fw_57 ln0 ((hM.o gx trivial rfl).1.trans f_x_1) (by omega)) (cwV 0 hts (hx_gV kw_458 kw_455 kw_457 kw_1 kw_95) rfl rfl rfl (by decide +kernel) ⟨(by first | omega | (dsimp only; omega)), (by first | omega | (dsimp only; omega))⟩) rfl hl.1 rfl (Nat.le_of_ble_eq_true rfl) dX6_readOne_101 ⟨Nat.le_of_ble_eq_true rfl, Nat.le_of_ble_eq_true rfl⟩) hW (fun L_65 h_66 H locs p_68 hW => ?_)
        obtain ⟨⟨w_70, fw_70, hr_69⟩, hT, hs⟩ := p_68
        replace hT : hx_T T_tb L_65 h_66 := hT
        replace hs : hx_S T_tb [(6, 2)] L_52 h_53 L_65 h_66 := hs
        replace fw_58 := (hs.o (gx.S hM) trivial rfl).1.trans fw_58
        replace fw_59 := (hs.o (gx.S hM) trivial rfl).1.trans fw_59
        replace fw_60 := (hs.o (gqi.S hM) trivial rfl).1.trans fw_60
        replace fw_61 : h_66.2.1 qp = w_61 := (funext fun j => (hs.a (gqp.S hM) rfl j).1).trans fw_61
        replace hM := hM.tr (hs.mono (by decide))
        have fw_70 : h_66.2.1 x 2 = w_70 := fw_70
        have bw_70 := hT.gi (gx.S hM) tt_6 (k := 2) rfl
        rw [fw_70] at bw_70
        have bw_70 : 0 ≤ w_70.toInt ∧ w_70.toInt ≤ 402 := bw_70
        have ek_71 : w_70.toInt.toNat = hv_sk tf ln0.toInt.toNat w_57.toInt.toNat := by omega
        refine lv_aload_n hx hb dX6_readOne_104 rfl (lv_at hl 1 rfl) ?_
        refine lv_bipush (v := 41) hx hb dX6_readOne_105 (by decide) ?_
        have zc_41 : (41 : Int32).toInt = 41 := by decide
        refine hx_goi (hx_runV (As := [.int (41 : Int32)]) (rest := []) ⟨hx, hb, hml, hown, hts⟩ hW (gx.S hM) tt_6 (T := TX6) (N := 7) rfl (t_X6_isByte_v l dC dI dA L_65 h_66 H.size x (41 : Int32) hT (gx.S hM) qt (gqt.S hM) ((hM.o gx trivial rfl).2.trans f_x_0) tf (hx_afS hM gqt rfl af_qt) w_70 fw_70 ln0 ((hM.o gx trivial rfl).1.trans f_x_1)) (cwV 1 hts (hx_gV kw_569 kw_566 kw_568 kw_15 kw_95) rfl rfl rfl (by decide +kernel) ⟨(by first | omega | (dsimp only; omega)), (by first | omega | (dsimp only; omega))⟩) rfl hl.1 rfl (Nat.le_of_ble_eq_true rfl) dX6_readOne_107 ⟨Nat.le_of_ble_eq_true rfl, Nat.le_of_ble_eq_true rfl⟩) hW (fun r_74 L_72 h_73 H locs p_75 hW => ?_)
        obtain ⟨hr_76, hT, hs⟩ := p_75
        replace hT : hx_T T_tb L_72 h_73 := hT
        replace hs : hx_S T_tb [] L_65 h_66 L_72 h_73 := hs
        replace fw_58 := (hs.o (gx.S hM) trivial rfl).1.trans fw_58
        replace fw_59 := (hs.o (gx.S hM) trivial rfl).1.trans fw_59
        replace fw_60 := (hs.o (gqi.S hM) trivial rfl).1.trans fw_60
        replace fw_70 := (hs.o (gx.S hM) trivial rfl).1.trans fw_70
        replace fw_61 : h_73.2.1 qp = w_61 := (funext fun j => (hs.a (gqp.S hM) rfl j).1).trans fw_61
        replace hM := hM.tr (hs.mono (by decide))
        refine hb_if_ne (zx := r_74.toInt) (tgt := 123) hx hb rfl dX6_readOne_110 (by decide) (fun c_77 => ?_) (fun c_77 => ?_)
        · skip
          replace hr_76 : r_74.toInt = 1 ∧ (w_70.toInt < ln0.toInt ∧ (tf w_70.toInt.toNat).toInt = 41) := by have z8 : (41 : Int32).toInt = 41 := (by decide); rcases hr_76 with z | z; exact ⟨z.1, by omega, by omega⟩; exfalso; omega
          refine lv_aload_n hx hb dX6_readOne_123 rfl (lv_at hl 1 rfl) ?_
          refine lv_dup hx hb dX6_readOne_124 rfl ?_
          refine hk_geti hx hb hts hC_6 hown hW (gx.S hM) tt_6 2 (by decide) rfl kw_127 ⟨rfl, rfl, rfl⟩ fw_70 dX6_readOne_125 ?_
          refine lv_iconst (v := 1) hx hb dX6_readOne_128 (by decide) ?_
          refine lv_iadd hx hb dX6_readOne_129 ?_
          have rg_78 := i32_r w_70
          refine lv_topi (fun x_79 ex_79 => ?_)
          have zx_79 : x_79.toInt = w_70.toInt + 1 := by rw [ex_79]; exact i32_add rfl (by decide) (by omega) (by omega)
          refine hx_puti hx hb hts hC_6 hown hW hT (hx_S.rf (M := [(6, 2)])) (gx.S hM) tt_6 2 (by decide) rfl kw_127 ⟨rfl, rfl, rfl⟩ rfl (x := x_79) ⟨by omega, by omega⟩ rfl rfl rfl (List.mem_singleton.mpr rfl) dX6_readOne_130 (fun H locs h_80 eh_80 hW hT hs => ?_)
          replace fw_58 := (hs.o (gx.S hM) trivial rfl).1.trans fw_58
          replace fw_59 := (hs.o (gx.S hM) trivial rfl).1.trans fw_59
          replace fw_60 := (hs.o (gqi.S hM) trivial rfl).1.trans fw_60
          replace fw_61 : h_80.2.1 qp = w_61 := (funext fun j => (hs.a (gqp.S hM) rfl j).1).trans fw_61
          replace hM := hM.tr (hs.mono (by decide))
          have f_81 : h_80.2.1 x 2 = x_79 := by rw [eh_80]; exact hx_pi_at _ _ _ _
          refine lv_iconst (v := 1) hx hb dX6_readOne_133 (by decide) ?_
          exact hx_retz hx hb hr rfl hlk hW ⟨⟨x_79, w_58, w_59, w_60, w_61, f_81, fw_58, fw_59, fw_60, fw_61, (hv_K_t (x := w_70.toInt.toNat + 1) (y := w_59.toInt.toNat) (o := oo_64) (by decide) (by omega) (by omega) (by omega) k1_63O ((hv_one_p1 (by rw [← ek_8]; exact eu_7.2) (by rw [← ek_8]; exact ⟨by omega, hr_42.2.2⟩) (by rw [← ek_8, show w_6.toInt.toNat + 1 = x_47.toInt.toNat by omega]; exact k1_63E) (by rw [← ek_71]; exact ⟨by omega, hr_76.2.2⟩)).trans (by rw [← ek_71])))⟩, hT, hM⟩ dX6_readOne_134
        · skip
          replace hr_76 : r_74.toInt = 0 ∧ ¬ (w_70.toInt < ln0.toInt ∧ (tf w_70.toInt.toNat).toInt = 41) := by have z8 : (41 : Int32).toInt = 41 := (by decide); rcases hr_76 with z | z; (exfalso; omega); exact ⟨z.1, fun z9 => z.2 ⟨by omega, by omega⟩⟩
          refine lv_aload_n hx hb dX6_readOne_113 rfl (lv_at hl 1 rfl) ?_
          refine lv_aload_n hx hb dX6_readOne_114 rfl (lv_at hl 1 rfl) ?_
          refine hk_geti hx hb hts hC_6 hown hW (gx.S hM) tt_6 2 (by decide) rfl kw_127 ⟨rfl, rfl, rfl⟩ fw_70 dX6_readOne_115 ?_
          refine lv_iconst (v := 0) hx hb dX6_readOne_118 (by decide) ?_
          have zc_0 : (0 : Int32).toInt = 0 := by decide
          refine hx_goi (hx_runV (As := [.int w_70, .int (0 : Int32)]) (rest := []) ⟨hx, hb, hml, hown, hts⟩ hW (gx.S hM) tt_6 (T := TX6) (N := 7) rfl (t_X6_refuse_v l dC dI dA L_72 h_73 H.size x w_70 (0 : Int32) hT (gx.S hM) ⟨by omega, by omega⟩ (by decide)) (cwV 2 hts (hx_gV kw_527 kw_524 kw_526 kw_6 kw_95) rfl rfl rfl (by decide +kernel) ⟨(by first | omega | (dsimp only; omega)), (by first | omega | (dsimp only; omega))⟩) rfl hl.1 rfl (Nat.le_of_ble_eq_true rfl) dX6_readOne_119 ⟨Nat.le_of_ble_eq_true rfl, Nat.le_of_ble_eq_true rfl⟩) hW (fun r_84 L_82 h_83 H locs p_85 hW => ?_)
          obtain ⟨⟨w_87, fw_87, hr_86⟩, hT, hs⟩ := p_85
          replace hT : hx_T T_tb L_82 h_83 := hT
          replace hs : hx_S T_tb [(6, 3)] L_72 h_73 L_82 h_83 := hs
          replace fw_59 := (hs.o (gx.S hM) trivial rfl).1.trans fw_59
          replace fw_60 := (hs.o (gqi.S hM) trivial rfl).1.trans fw_60
          replace fw_70 := (hs.o (gx.S hM) trivial rfl).1.trans fw_70
          replace fw_61 : h_83.2.1 qp = w_61 := (funext fun j => (hs.a (gqp.S hM) rfl j).1).trans fw_61
          replace hM := hM.tr (hs.mono (by decide))
          have fw_87 : h_83.2.1 x 3 = w_87 := fw_87
          have bw_87 := hT.gi (gx.S hM) tt_6 (k := 3) rfl
          rw [fw_87] at bw_87
          have bw_87 : -2147483648 ≤ w_87.toInt ∧ w_87.toInt ≤ 2147483647 := bw_87
          exact hx_retz hx hb hr (hx_nar01 (by omega)) hlk hW ⟨⟨w_70, w_87, w_59, w_60, w_61, fw_70, fw_87, fw_59, fw_60, fw_61, (hv_K_f (x := 1 + 8 * w_70.toInt.toNat) (by omega) (by omega) (by omega) ((hv_one_p2 (by rw [← ek_8]; exact eu_7.2) (by rw [← ek_8]; exact ⟨by omega, hr_42.2.2⟩) (by rw [← ek_8, show w_6.toInt.toNat + 1 = x_47.toInt.toNat by omega]; exact k1_63E) (by rw [← ek_71]; exact fun z => hr_76.2 ⟨by omega, z.2⟩)).trans (by rw [← ek_71])))⟩, hT, hM⟩ dX6_readOne_122
      · skip
        refine lv_iconst (v := 0) hx hb dX6_readOne_98 (by decide) ?_
        exact hx_retz hx hb hr rfl hlk hW ⟨⟨w_57, w_58, w_59, w_60, w_61, fw_57, fw_58, fw_59, fw_60, fw_61, (hv_K_f (x := w_58.toInt.toNat) (by decide) (by have h8 := (hv_K_0 hr_56 (by omega)).1; omega) (by have h8 := (hv_K_0 hr_56 (by omega)).1; omega) (hv_one_p0 (by rw [← ek_8]; exact eu_7.2) (by rw [← ek_8]; exact ⟨by omega, hr_42.2.2⟩) (by rw [← ek_8, show w_6.toInt.toNat + 1 = x_47.toInt.toNat by omega]; exact (hv_K_0 hr_56 (by omega)).2)))⟩, hT, hM⟩ dX6_readOne_99
    · skip
      replace hr_42 : r_40.toInt = 0 ∧ ¬ (w_6.toInt < ln0.toInt ∧ (tf w_6.toInt.toNat).toInt = 40) := by have z8 : (40 : Int32).toInt = 40 := (by decide); rcases hr_42 with z | z; (exfalso; omega); exact ⟨z.1, fun z9 => z.2 ⟨by omega, by omega⟩⟩
      refine lv_aload_n hx hb dX6_readOne_20 rfl (lv_at hl 1 rfl) ?_
      refine hx_goi (hx_runVX (As := []) (rest := []) ⟨hx, hb, hml, hown, hts⟩ hW (gx.S hM) tt_6 (T := TX6) (N := 7) rfl (t_X6_readTerm_v l dC dI dA L_38 h_39 H.size b0 x hT (gx.S hM) qt (gqt.S hM) ((hM.o gx trivial rfl).2.trans f_x_0) qi (gqi.S hM) ((hM.o gx trivial rfl).2.trans f_x_6) qp (gqp.S hM) ((hM.o gqi trivial rfl).2.trans f_qi_3) tf (hx_afS hM gqt rfl af_qt) pf af_qp w_6 fw_6 ln0 ((hM.o gx trivial rfl).1.trans f_x_1) ft0 f_x_3 tm0 f_x_5 pl0 f_qi_4 o hO (by omega) (by omega) (by omega) ⟨by omega, by omega⟩) hZ (cwV 0 hts (hx_gV kw_573 kw_570 kw_572 kw_16 kw_95) rfl rfl rfl (by decide +kernel) ⟨(by first | omega | (dsimp only; omega)), (by first | omega | (dsimp only; omega))⟩) rfl hl.1 rfl (Nat.le_of_ble_eq_true rfl) dX6_readOne_21 ⟨Nat.le_of_ble_eq_true rfl, Nat.le_of_ble_eq_true rfl⟩) hW (fun r_90 L_88 h_89 H locs p_91 hW => ?_)
      obtain ⟨⟨w_93, w_94, w_95, w_96, w_97, fw_93, fw_94, fw_95, fw_96, fw_97, hr_92⟩, hT, hs⟩ := p_91
      replace hT : hx_T T_tb L_88 h_89 := hT
      replace hs : hx_S T_tb [(6, 2), (6, 3), (6, 5), (128, 0), (129, 4)] L_38 h_39 L_88 h_89 := hs
      replace hM := hM.tr (hs.mono (by decide))
      have fw_93 : h_89.2.1 x 2 = w_93 := fw_93
      have bw_93 := hT.gi (gx.S hM) tt_6 (k := 2) rfl
      rw [fw_93] at bw_93
      have bw_93 : 0 ≤ w_93.toInt ∧ w_93.toInt ≤ 402 := bw_93
      have fw_94 : h_89.2.1 x 3 = w_94 := fw_94
      have bw_94 := hT.gi (gx.S hM) tt_6 (k := 3) rfl
      rw [fw_94] at bw_94
      have bw_94 : -2147483648 ≤ w_94.toInt ∧ w_94.toInt ≤ 2147483647 := bw_94
      have fw_95 : h_89.2.1 x 5 = w_95 := fw_95
      have bw_95 := hT.gi (gx.S hM) tt_6 (k := 5) rfl
      rw [fw_95] at bw_95
      have bw_95 : -2147483648 ≤ w_95.toInt ∧ w_95.toInt ≤ 2147483647 := bw_95
      have fw_96 : h_89.2.1 qi 4 = w_96 := fw_96
      have bw_96 := hT.gi (gqi.S hM) tt_129 (k := 4) rfl
      rw [fw_96] at bw_96
      have bw_96 : 0 ≤ w_96.toInt ∧ w_96.toInt ≤ 160 := bw_96
      have fw_97 : h_89.2.1 qp = w_97 := fw_97
      have hr_92b := hv_K_b hr_92
      exact hx_retz hx hb hr (hx_nar01 (by omega)) hlk hW ⟨⟨w_93, w_94, w_95, w_96, w_97, fw_93, fw_94, fw_95, fw_96, fw_97, (hv_K_c hr_92 ((hv_one_t (by rw [← ek_8]; exact eu_7.2) (by rw [← ek_8]; exact fun z => hr_42.2 ⟨by omega, z.2⟩)).trans (by rw [sid, ← ek_8])))⟩, hT, hM⟩ dX6_readOne_24

theorem hv_MO_8 : hv_MO (8 : Int32) 0 7 158 := t_X6_readOne_v8
theorem hv_ME_8 : hv_ME (8 : Int32) 0 8 180 := t_X6_readEither_g 8 0 7 158 (by decide) (by decide) hv_MO_8
theorem hv_MO_7 : hv_MO (7 : Int32) 1 9 204 := t_X6_readOne_g 7 (by decide) 0 7 158 8 180 (by decide) (by decide) (by decide) (by decide) (fun i2 h => by obtain rfl : i2 = 8 := Int32.toInt_inj.mp (h.trans (by decide)); exact hv_MO_8) (fun i2 h => by obtain rfl : i2 = 8 := Int32.toInt_inj.mp (h.trans (by decide)); exact hv_ME_8)
theorem hv_ME_7 : hv_ME (7 : Int32) 1 10 226 := t_X6_readEither_g 7 1 9 204 (by decide) (by decide) hv_MO_7
theorem hv_MO_6 : hv_MO (6 : Int32) 2 11 250 := t_X6_readOne_g 6 (by decide) 1 9 204 10 226 (by decide) (by decide) (by decide) (by decide) (fun i2 h => by obtain rfl : i2 = 7 := Int32.toInt_inj.mp (h.trans (by decide)); exact hv_MO_7) (fun i2 h => by obtain rfl : i2 = 7 := Int32.toInt_inj.mp (h.trans (by decide)); exact hv_ME_7)
theorem hv_ME_6 : hv_ME (6 : Int32) 2 12 272 := t_X6_readEither_g 6 2 11 250 (by decide) (by decide) hv_MO_6
theorem hv_MO_5 : hv_MO (5 : Int32) 3 13 296 := t_X6_readOne_g 5 (by decide) 2 11 250 12 272 (by decide) (by decide) (by decide) (by decide) (fun i2 h => by obtain rfl : i2 = 6 := Int32.toInt_inj.mp (h.trans (by decide)); exact hv_MO_6) (fun i2 h => by obtain rfl : i2 = 6 := Int32.toInt_inj.mp (h.trans (by decide)); exact hv_ME_6)
theorem hv_ME_5 : hv_ME (5 : Int32) 3 14 318 := t_X6_readEither_g 5 3 13 296 (by decide) (by decide) hv_MO_5
theorem hv_MO_4 : hv_MO (4 : Int32) 4 15 342 := t_X6_readOne_g 4 (by decide) 3 13 296 14 318 (by decide) (by decide) (by decide) (by decide) (fun i2 h => by obtain rfl : i2 = 5 := Int32.toInt_inj.mp (h.trans (by decide)); exact hv_MO_5) (fun i2 h => by obtain rfl : i2 = 5 := Int32.toInt_inj.mp (h.trans (by decide)); exact hv_ME_5)
theorem hv_ME_4 : hv_ME (4 : Int32) 4 16 364 := t_X6_readEither_g 4 4 15 342 (by decide) (by decide) hv_MO_4
theorem hv_MO_3 : hv_MO (3 : Int32) 5 17 388 := t_X6_readOne_g 3 (by decide) 4 15 342 16 364 (by decide) (by decide) (by decide) (by decide) (fun i2 h => by obtain rfl : i2 = 4 := Int32.toInt_inj.mp (h.trans (by decide)); exact hv_MO_4) (fun i2 h => by obtain rfl : i2 = 4 := Int32.toInt_inj.mp (h.trans (by decide)); exact hv_ME_4)
theorem hv_ME_3 : hv_ME (3 : Int32) 5 18 410 := t_X6_readEither_g 3 5 17 388 (by decide) (by decide) hv_MO_3
theorem hv_MO_2 : hv_MO (2 : Int32) 6 19 434 := t_X6_readOne_g 2 (by decide) 5 17 388 18 410 (by decide) (by decide) (by decide) (by decide) (fun i2 h => by obtain rfl : i2 = 3 := Int32.toInt_inj.mp (h.trans (by decide)); exact hv_MO_3) (fun i2 h => by obtain rfl : i2 = 3 := Int32.toInt_inj.mp (h.trans (by decide)); exact hv_ME_3)
theorem hv_ME_2 : hv_ME (2 : Int32) 6 20 456 := t_X6_readEither_g 2 6 19 434 (by decide) (by decide) hv_MO_2
theorem hv_MO_1 : hv_MO (1 : Int32) 7 21 480 := t_X6_readOne_g 1 (by decide) 6 19 434 20 456 (by decide) (by decide) (by decide) (by decide) (fun i2 h => by obtain rfl : i2 = 2 := Int32.toInt_inj.mp (h.trans (by decide)); exact hv_MO_2) (fun i2 h => by obtain rfl : i2 = 2 := Int32.toInt_inj.mp (h.trans (by decide)); exact hv_ME_2)
theorem hv_ME_1 : hv_ME (1 : Int32) 7 22 502 := t_X6_readEither_g 1 7 21 480 (by decide) (by decide) hv_MO_1
theorem hv_MO_0 : hv_MO (0 : Int32) 8 23 526 := t_X6_readOne_g 0 (by decide) 7 21 480 22 502 (by decide) (by decide) (by decide) (by decide) (fun i2 h => by obtain rfl : i2 = 1 := Int32.toInt_inj.mp (h.trans (by decide)); exact hv_MO_1) (fun i2 h => by obtain rfl : i2 = 1 := Int32.toInt_inj.mp (h.trans (by decide)); exact hv_ME_1)
theorem hv_ME_0 : hv_ME (0 : Int32) 8 24 548 := t_X6_readEither_g 0 8 23 526 (by decide) (by decide) hv_MO_0
theorem t_X6_readEither_v0 : hv_ME (0 : Int32) 8 24 548 := hv_ME_0
end
section
set_option maxHeartbeats 4000000 in
set_option maxRecDepth 100000 in
theorem t_X6_tellOnce_v (l : Launch) (dC : Nat → ClassId) (dI : Nat → Nat → Nat) (dA : Nat → ClassId) (L : List Nat) (h : hx_h) (sz : Nat) (x : Nat) (i1 : Int32) (i2 : Int32) (hT : hx_T T_tb L h) (gx : hx_g L h x 6) (to0 : Int32) (f_x_4 : h.2.1 x 4 = to0) (ft0 : Int32) (f_x_3 : h.2.1 x 3 = ft0) (hi1 : 1 ≤ i1.toInt ∧ i1.toInt ≤ 14) (hi2 : 0 ≤ i2.toInt ∧ i2.toInt ≤ 402) : Met l yX6_tellOnce (Cond.code yX6_tellOnce cX6_tellOnce 4 (some .boolean) :: hx_all) ({ frames := 1, cells := 0, slots := 0, locals := 22 }) (va_Pc [.ref x, .int i1, .int i2] (hx_B T_tb (P_ty dA) (dC, dI) vwCl L h sz)) (va_Qi (fun (r : Int32) (u : List Nat × hx_h) => (∃ (to1 : Int32) (ft1 : Int32), u.2.2.1 x 4 = to1 ∧ u.2.2.1 x 3 = ft1 ∧ ((r.toInt = 1 ∧ ft1.toInt = ft0.toInt ∧ hv_sC to0 (i1.toInt - 1).toNat = false ∧ hv_sC to1 = hv_ub (hv_sC to0) (i1.toInt - 1).toNat) ∨ (r.toInt = 0 ∧ hv_sC to0 (i1.toInt - 1).toNat = true ∧ ft1.toInt = 3 + 8 * i2.toInt))) ∧ hx_T T_tb u.1 u.2 ∧ hx_S T_tb [(6, 3), (6, 4)] L h u.1 u.2) (hx_E T_tb (P_ty dA) (dC, dI) vwCl (hx_A L sz)) (hx_A L sz)) 0 0 (hx_A L sz) := by
  refine hx_met (lv := [(0, .ref x), (1, .int i1), (2, .int i2)]) (by decide +kernel) rfl (Nat.le_of_ble_eq_true rfl) rfl ?_
  intro p e s m below meth c hx hb hml hr hlk hts0 hown hin hsz hW ls hl
  have hts : ∀ w ∈ hx_all, w.before _ s = true := fun w hw => hts0 w (List.mem_cons_of_mem _ hw)
  have hown : s.vm.findClass "SmallCourt$Reader" = some m.cls := hown
  have hM : hx_S T_tb [(6, 3), (6, 4)] L h L h := hx_S.rf
  have b_to0 := hT.gi gx tt_6 (k := 4) rfl
  rw [f_x_4] at b_to0
  have b_to0 : -2147483648 ≤ to0.toInt ∧ to0.toInt ≤ 2147483647 := b_to0
  have b_ft0 := hT.gi gx tt_6 (k := 3) rfl
  rw [f_x_3] at b_ft0
  have b_ft0 : -2147483648 ≤ ft0.toInt ∧ ft0.toInt ≤ 2147483647 := b_ft0
  refine lv_iconst (v := 1) hx hb dX6_tellOnce_0 (by decide) ?_
  refine lv_iload_n hx hb dX6_tellOnce_1 rfl (lv_at hl 1 rfl) ?_
  refine lv_ishl hx hb dX6_tellOnce_2 ?_
  refine lv_topi (fun x_1 ex_1 => ?_)
  refine lv_istore_n (lv' := [(3, .int x_1), (0, .ref x), (1, .int i1), (2, .int i2)]) hx hb dX6_tellOnce_3 rfl hl (by decide) rfl (fun ls hl => ?_)
  refine lv_aload_n hx hb dX6_tellOnce_4 rfl (lv_at hl 1 rfl) ?_
  refine hk_geti hx hb hts hC_6 hown hW (gx.S hM) tt_6 4 (by decide) rfl kw_129 ⟨rfl, rfl, rfl⟩ f_x_4 dX6_tellOnce_5 ?_
  refine lv_iload_n hx hb dX6_tellOnce_8 rfl (lv_at hl 0 rfl) ?_
  refine lv_iand hx hb dX6_tellOnce_9 ?_
  refine lv_topi (fun x_2 ex_2 => ?_)
  refine hb_if_eq (zx := x_2.toInt) (tgt := 20) hx hb rfl dX6_tellOnce_10 (by decide) (fun c_3 => ?_) (fun c_3 => ?_)
  · skip
    refine lv_aload_n hx hb dX6_tellOnce_20 rfl (lv_at hl 1 rfl) ?_
    refine lv_dup hx hb dX6_tellOnce_21 rfl ?_
    refine hk_geti hx hb hts hC_6 hown hW (gx.S hM) tt_6 4 (by decide) rfl kw_129 ⟨rfl, rfl, rfl⟩ f_x_4 dX6_tellOnce_22 ?_
    refine lv_iload_n hx hb dX6_tellOnce_25 rfl (lv_at hl 0 rfl) ?_
    refine lv_ior hx hb dX6_tellOnce_26 ?_
    refine lv_topi (fun x_4 ex_4 => ?_)
    refine hx_puti hx hb hts hC_6 hown hW hT (hx_S.rf (M := [(6, 4)])) (gx.S hM) tt_6 4 (by decide) rfl kw_129 ⟨rfl, rfl, rfl⟩ rfl (x := x_4) (i32_r _) rfl rfl rfl (List.mem_singleton.mpr rfl) dX6_tellOnce_27 (fun H locs h_5 eh_5 hW hT hs => ?_)
    replace f_x_3 := (hs.o (gx.S hM) trivial rfl).1.trans f_x_3
    replace hM := hM.tr (hs.mono (by decide))
    have f_6 : h_5.2.1 x 4 = x_4 := by rw [eh_5]; exact hx_pi_at _ _ _ _
    refine lv_iconst (v := 1) hx hb dX6_tellOnce_30 (by decide) ?_
    exact hx_retz hx hb hr rfl hlk hW ⟨⟨x_4, ft0, f_6, f_x_3, (Or.inl ⟨by decide, rfl, (by rw [hv_sC_a (by omega) (by omega)]; cases h9 : to0.toBitVec.getLsbD i1.toInt.toNat with | false => rfl | true => exact absurd (by omega) ((hv_b_and (by omega) (by omega) ex_1 ex_2).mpr h9)), hv_sC_u (by omega) (by omega) ex_1 ex_4⟩)⟩, hT, hM⟩ dX6_tellOnce_31
  · skip
    refine lv_aload_n hx hb dX6_tellOnce_13 rfl (lv_at hl 1 rfl) ?_
    refine lv_iload_n hx hb dX6_tellOnce_14 rfl (lv_at hl 3 rfl) ?_
    refine lv_iconst (v := 2) hx hb dX6_tellOnce_15 (by decide) ?_
    have zc_2 : (2 : Int32).toInt = 2 := by decide
    refine hx_goi (hx_runV (As := [.int i2, .int (2 : Int32)]) (rest := []) ⟨hx, hb, hml, hown, hts⟩ hW (gx.S hM) tt_6 (T := TX6) (N := 7) rfl (t_X6_refuse_v l dC dI dA L h s.heap.size x i2 (2 : Int32) hT (gx.S hM) ⟨by omega, by omega⟩ (by decide)) (cwV 2 hts (hx_gV kw_527 kw_524 kw_526 kw_6 kw_95) rfl rfl rfl (by decide +kernel) ⟨Nat.le_of_ble_eq_true rfl, Nat.le_of_ble_eq_true rfl⟩) rfl hl.1 rfl (Nat.le_of_ble_eq_true rfl) dX6_tellOnce_16 ⟨Nat.le_of_ble_eq_true rfl, Nat.le_of_ble_eq_true rfl⟩) hW (fun r_9 L_7 h_8 H locs p_10 hW => ?_)
    obtain ⟨⟨w_12, fw_12, hr_11⟩, hT, hs⟩ := p_10
    replace hT : hx_T T_tb L_7 h_8 := hT
    replace hs : hx_S T_tb [(6, 3)] L h L_7 h_8 := hs
    replace f_x_4 := (hs.o (gx.S hM) trivial rfl).1.trans f_x_4
    replace hM := hM.tr (hs.mono (by decide))
    have fw_12 : h_8.2.1 x 3 = w_12 := fw_12
    have bw_12 := hT.gi (gx.S hM) tt_6 (k := 3) rfl
    rw [fw_12] at bw_12
    have bw_12 : -2147483648 ≤ w_12.toInt ∧ w_12.toInt ≤ 2147483647 := bw_12
    exact hx_retz hx hb hr (hx_nar01 (by omega)) hlk hW ⟨⟨to0, w_12, f_x_4, fw_12, (Or.inr ⟨by omega, (by rw [hv_sC_a (by omega) (by omega)]; exact (hv_b_and (by omega) (by omega) ex_1 ex_2).mp (by omega)), by omega⟩)⟩, hT, hM⟩ dX6_tellOnce_19


set_option maxHeartbeats 4000000 in
set_option maxRecDepth 100000 in
theorem t_X6_readTold_v (l : Launch) (dC : Nat → ClassId) (dI : Nat → Nat → Nat) (dA : Nat → ClassId) (L : List Nat) (h : hx_h) (sz : Nat) (b0 : hx_z) (x : Nat) (i1 : Int32) (hT : hx_T T_tb L h) (gx : hx_g L h x 6) (qt : Nat) (gqt : hx_g L h qt 42) (f_x_0 : h.2.2 x 0 = some qt) (qi : Nat) (gqi : hx_g L h qi 129) (f_x_6 : h.2.2 x 6 = some qi) (qd : Nat) (gqd : hx_g L h qd 127) (f_qi_2 : h.2.2 qi 2 = some qd) (tf : Nat → Int32) (af_qt : h.2.1 qt = tf) (df : Nat → Int32) (af_qd : h.2.1 qd = df) (at0 : Int32) (f_x_2 : h.2.1 x 2 = at0) (ln0 : Int32) (f_x_1 : h.2.1 x 1 = ln0) (ft0 : Int32) (f_x_3 : h.2.1 x 3 = ft0) (hi1 : 1 ≤ i1.toInt ∧ i1.toInt ≤ 13) (hA : at0.toInt ≤ ln0.toInt) : Met l yX6_readTold (Cond.code yX6_readTold cX6_readTold 4 (some .boolean) :: hx_all) ({ frames := 2, cells := 0, slots := 0, locals := 43 }) (va_Pc [.ref x, .int i1] (hx_BX T_tb (P_ty dA) (dC, dI) vwCl L h sz b0)) (va_Qi (fun (r : Int32) (u : List Nat × hx_h) => (∃ (at1 : Int32) (ft1 : Int32) (df1 : Nat → Int32), u.2.2.1 x 2 = at1 ∧ u.2.2.1 x 3 = ft1 ∧ u.2.2.1 qd = df1 ∧ (hv_N (hv_num tf ln0.toInt.toNat at0.toInt.toNat (hv_lo (i1.toInt - 1).toNat) (hv_hi (i1.toInt - 1).toNat)) r.toInt ft1.toInt ft0.toInt at1.toInt df df1 i1.toNatClampNeg ∧ (r.toInt = 1 → at0.toInt < at1.toInt ∧ at1.toInt ≤ ln0.toInt))) ∧ hx_T T_tb u.1 u.2 ∧ hx_S T_tb [(6, 2), (6, 3), (127, 0)] L h u.1 u.2) (hx_E T_tb (P_ty dA) (dC, dI) vwCl (hx_A L sz)) (hx_A L sz)) 0 0 (hx_A L sz) := by
  refine hx_metX (lv := [(0, .ref x), (1, .int i1)]) (by decide +kernel) rfl (Nat.le_of_ble_eq_true rfl) rfl ?_
  intro p e s m below meth c hx hb hml hr hlk hts0 hown hin hsz hW hZ ls hl
  have hts : ∀ w ∈ hx_all, w.before _ s = true := fun w hw => hts0 w (List.mem_cons_of_mem _ hw)
  have hown : s.vm.findClass "SmallCourt$Reader" = some m.cls := hown
  have hM : hx_S T_tb [(6, 2), (6, 3), (127, 0)] L h L h := hx_S.rf
  obtain ⟨zLT, zLA, zMT, zMA, zCS, zSF, zVS, zVR⟩ := hZ.2.2.2.2.2.2
  have b_at0 := hT.gi gx tt_6 (k := 2) rfl
  rw [f_x_2] at b_at0
  have b_at0 : 0 ≤ at0.toInt ∧ at0.toInt ≤ 402 := b_at0
  have b_ln0 := hT.gi gx tt_6 (k := 1) rfl
  rw [f_x_1] at b_ln0
  have b_ln0 : 0 ≤ ln0.toInt ∧ ln0.toInt ≤ 400 := b_ln0
  have b_ft0 := hT.gi gx tt_6 (k := 3) rfl
  rw [f_x_3] at b_ft0
  have b_ft0 : -2147483648 ≤ ft0.toInt ∧ ft0.toInt ≤ 2147483647 := b_ft0
  refine lv_aload_n hx hb dX6_readTold_0 rfl (lv_at hl 0 rfl) ?_
  refine hx_gov (hx_runV (As := []) (rest := []) ⟨hx, hb, hml, hown, hts⟩ hW (gx.S hM) tt_6 (T := TX6) (N := 7) rfl (t_X6_skipBlanks_v l dC dI dA L h s.heap.size x hT (gx.S hM) qt (gqt.S hM) ((hM.o gx trivial rfl).2.trans f_x_0) tf (hx_afS hM gqt rfl af_qt) at0 f_x_2 ln0 ((hM.o gx trivial rfl).1.trans f_x_1) (by omega)) (cwV 0 hts (hx_gV kw_458 kw_455 kw_457 kw_1 kw_95) rfl rfl rfl (by decide +kernel) ⟨Nat.le_of_ble_eq_true rfl, Nat.le_of_ble_eq_true rfl⟩) rfl hl.1 rfl (Nat.le_of_ble_eq_true rfl) dX6_readTold_1 ⟨Nat.le_of_ble_eq_true rfl, Nat.le_of_ble_eq_true rfl⟩) hW (fun L_1 h_2 H locs p_4 hW => ?_)
  obtain ⟨⟨w_6, fw_6, hr_5⟩, hT, hs⟩ := p_4
  replace hT : hx_T T_tb L_1 h_2 := hT
  replace hs : hx_S T_tb [(6, 2)] L h L_1 h_2 := hs
  replace f_x_3 := (hs.o (gx.S hM) trivial rfl).1.trans f_x_3
  replace af_qd : h_2.2.1 qd = df := (funext fun j => (hs.a (gqd.S hM) rfl j).1).trans af_qd
  replace hM := hM.tr (hs.mono (by decide))
  have fw_6 : h_2.2.1 x 2 = w_6 := fw_6
  have bw_6 := hT.gi (gx.S hM) tt_6 (k := 2) rfl
  rw [fw_6] at bw_6
  have bw_6 : 0 ≤ w_6.toInt ∧ w_6.toInt ≤ 402 := bw_6
  have ek_7 : w_6.toInt.toNat = hv_sk tf ln0.toInt.toNat at0.toInt.toNat := by omega
  refine lv_aload_n hx hb dX6_readTold_4 rfl (lv_at hl 0 rfl) ?_
  refine hk_geti hx hb hts hC_6 hown hW (gx.S hM) tt_6 2 (by decide) rfl kw_127 ⟨rfl, rfl, rfl⟩ fw_6 dX6_readTold_5 ?_
  refine lv_istore_n (lv' := [(2, .int w_6), (0, .ref x), (1, .int i1)]) hx hb dX6_readTold_8 rfl hl (by decide) rfl (fun ls hl => ?_)
  refine lv_aload_n hx hb dX6_readTold_9 rfl (lv_at hl 1 rfl) ?_
  refine lv_aload_n hx hb dX6_readTold_10 rfl (lv_at hl 1 rfl) ?_
  refine hk_geti hx hb hts hC_6 hown hW (gx.S hM) tt_6 2 (by decide) rfl kw_127 ⟨rfl, rfl, rfl⟩ fw_6 dX6_readTold_11 ?_
  refine hx_goi (hx_runV (As := [.int w_6]) (rest := []) ⟨hx, hb, hml, hown, hts⟩ hW (gx.S hM) tt_6 (T := TX6) (N := 7) rfl (t_X6_isDigit_v l dC dI dA L_1 h_2 H.size x w_6 hT (gx.S hM) qt (gqt.S hM) ((hM.o gx trivial rfl).2.trans f_x_0) tf (hx_afS hM gqt rfl af_qt) ln0 ((hM.o gx trivial rfl).1.trans f_x_1) (by omega)) (cwV 1 hts (hx_gV kw_544 kw_541 kw_543 kw_10 kw_95) rfl rfl rfl (by decide +kernel) ⟨Nat.le_of_ble_eq_true rfl, Nat.le_of_ble_eq_true rfl⟩) rfl hl.1 rfl (Nat.le_of_ble_eq_true rfl) dX6_readTold_14 ⟨Nat.le_of_ble_eq_true rfl, Nat.le_of_ble_eq_true rfl⟩) hW (fun r_10 L_8 h_9 H locs p_11 hW => ?_)
  obtain ⟨hr_12, hT, hs⟩ := p_11
  replace hT : hx_T T_tb L_8 h_9 := hT
  replace hs : hx_S T_tb [] L_1 h_2 L_8 h_9 := hs
  replace f_x_3 := (hs.o (gx.S hM) trivial rfl).1.trans f_x_3
  replace fw_6 := (hs.o (gx.S hM) trivial rfl).1.trans fw_6
  replace af_qd : h_9.2.1 qd = df := (funext fun j => (hs.a (gqd.S hM) rfl j).1).trans af_qd
  replace hM := hM.tr (hs.mono (by decide))
  refine hb_if_ne (zx := r_10.toInt) (tgt := 27) hx hb rfl dX6_readTold_17 (by decide) (fun c_13 => ?_) (fun c_13 => ?_)
  · skip
    refine lv_aload_n hx hb dX6_readTold_27 rfl (lv_at hl 1 rfl) ?_
    refine hx_goi (hx_runV (As := []) (rest := []) ⟨hx, hb, hml, hown, hts⟩ hW (gx.S hM) tt_6 (T := TX6) (N := 7) rfl (t_X6_readNumber_v l dC dI dA L_8 h_9 H.size x hT (gx.S hM) qt (gqt.S hM) ((hM.o gx trivial rfl).2.trans f_x_0) tf (hx_afS hM gqt rfl af_qt) w_6 fw_6 ln0 ((hM.o gx trivial rfl).1.trans f_x_1) (by omega)) (cwV 0 hts (hx_gV kw_548 kw_545 kw_547 kw_11 kw_95) rfl rfl rfl (by decide +kernel) ⟨Nat.le_of_ble_eq_true rfl, Nat.le_of_ble_eq_true rfl⟩) rfl hl.1 rfl (Nat.le_of_ble_eq_true rfl) dX6_readTold_28 ⟨Nat.le_of_ble_eq_true rfl, Nat.le_of_ble_eq_true rfl⟩) hW (fun r_16 L_14 h_15 H locs p_17 hW => ?_)
    obtain ⟨⟨w_19, fw_19, hr_18⟩, hT, hs⟩ := p_17
    replace hT : hx_T T_tb L_14 h_15 := hT
    replace hs : hx_S T_tb [(6, 2)] L_8 h_9 L_14 h_15 := hs
    replace f_x_3 := (hs.o (gx.S hM) trivial rfl).1.trans f_x_3
    replace af_qd : h_15.2.1 qd = df := (funext fun j => (hs.a (gqd.S hM) rfl j).1).trans af_qd
    replace hM := hM.tr (hs.mono (by decide))
    have fw_19 : h_15.2.1 x 2 = w_19 := fw_19
    have bw_19 := hT.gi (gx.S hM) tt_6 (k := 2) rfl
    rw [fw_19] at bw_19
    have bw_19 : 0 ≤ w_19.toInt ∧ w_19.toInt ≤ 402 := bw_19
    refine lv_istore_n (lv' := [(3, .int r_16), (2, .int w_6), (0, .ref x), (1, .int i1)]) hx hb dX6_readTold_31 rfl hl (by decide) rfl (fun ls hl => ?_)
    refine lv_iload_n hx hb dX6_readTold_32 rfl (lv_at hl 0 rfl) ?_
    refine va_getsN hx hb zLT hW.2.2.2.1 hown (va_Nw.use rfl (hZ.1 _ (List.mem_of_getElem? (i := 7) rfl))) (fun _ h9 => h9) dX6_readTold_33 ?_
    refine lv_iload_n hx hb dX6_readTold_36 rfl (lv_at hl 3 rfl) ?_
    refine va_ti hx hb zLA hW.2.2.2.1 (vp_in_iff.mpr ⟨by omega, by omega⟩) rfl dX6_readTold_37 ?_
    refine lv_topi (fun x_20 ex_20 => ?_)
    have hlo : x_20.toInt = hv_lo (i1.toInt - 1).toNat := by have h9 := hv_ltv i1.toNatClampNeg (by unfold Int32.toNatClampNeg; omega) (by unfold Int32.toNatClampNeg; omega) x_20 (congrArg Value.int ex_20); rw [h9]; congr 1; unfold Int32.toNatClampNeg; omega
    refine hb_icmp_lt (zx := r_16.toInt) (zy := x_20.toInt) (tgt := 50) hx hb rfl rfl dX6_readTold_38 (by decide) (fun c_21 => ?_) (fun c_21 => ?_)
    · skip
      refine lv_aload_n hx hb dX6_readTold_50 rfl (lv_at hl 2 rfl) ?_
      refine lv_iload_n hx hb dX6_readTold_51 rfl (lv_at hl 1 rfl) ?_
      refine lv_iconst (v := 1) hx hb dX6_readTold_52 (by decide) ?_
      have zc_1 : (1 : Int32).toInt = 1 := by decide
      refine hx_goi (hx_runV (As := [.int w_6, .int (1 : Int32)]) (rest := []) ⟨hx, hb, hml, hown, hts⟩ hW (gx.S hM) tt_6 (T := TX6) (N := 7) rfl (t_X6_refuse_v l dC dI dA L_14 h_15 H.size x w_6 (1 : Int32) hT (gx.S hM) ⟨by omega, by omega⟩ (by decide)) (cwV 2 hts (hx_gV kw_527 kw_524 kw_526 kw_6 kw_95) rfl rfl rfl (by decide +kernel) ⟨Nat.le_of_ble_eq_true rfl, Nat.le_of_ble_eq_true rfl⟩) rfl hl.1 rfl (Nat.le_of_ble_eq_true rfl) dX6_readTold_53 ⟨Nat.le_of_ble_eq_true rfl, Nat.le_of_ble_eq_true rfl⟩) hW (fun r_24 L_22 h_23 H locs p_25 hW => ?_)
      obtain ⟨⟨w_27, fw_27, hr_26⟩, hT, hs⟩ := p_25
      replace hT : hx_T T_tb L_22 h_23 := hT
      replace hs : hx_S T_tb [(6, 3)] L_14 h_15 L_22 h_23 := hs
      replace fw_19 := (hs.o (gx.S hM) trivial rfl).1.trans fw_19
      replace af_qd : h_23.2.1 qd = df := (funext fun j => (hs.a (gqd.S hM) rfl j).1).trans af_qd
      replace hM := hM.tr (hs.mono (by decide))
      have fw_27 : h_23.2.1 x 3 = w_27 := fw_27
      have bw_27 := hT.gi (gx.S hM) tt_6 (k := 3) rfl
      rw [fw_27] at bw_27
      have bw_27 : -2147483648 ≤ w_27.toInt ∧ w_27.toInt ≤ 2147483647 := bw_27
      have hlb := hv_lo_b (i1.toInt - 1).toNat
      exact hx_retz hx hb hr (hx_nar01 (by omega)) hlk hW ⟨⟨w_19, w_27, df, fw_19, fw_27, af_qd, ⟨(Or.inr ⟨by omega, by omega, (hv_num_2 (by rw [← ek_7]; rcases hr_12 with z | z; exact ⟨by omega, z.2.2⟩; exfalso; omega) (by rw [← ek_7]; omega)).trans (by rw [← ek_7]; congr 1; omega)⟩), by omega⟩⟩, hT, hM⟩ dX6_readTold_56
    · skip
      refine lv_iload_n hx hb dX6_readTold_41 rfl (lv_at hl 0 rfl) ?_
      refine va_getsN hx hb zMT hW.2.2.2.1 hown (va_Nw.use rfl (hZ.1 _ (List.mem_of_getElem? (i := 8) rfl))) (fun _ h9 => h9) dX6_readTold_42 ?_
      refine lv_iload_n hx hb dX6_readTold_45 rfl (lv_at hl 3 rfl) ?_
      refine va_ti hx hb zMA hW.2.2.2.1 (vp_in_iff.mpr ⟨by omega, by omega⟩) rfl dX6_readTold_46 ?_
      refine lv_topi (fun x_28 ex_28 => ?_)
      have hhi : x_28.toInt = hv_hi (i1.toInt - 1).toNat := by have h9 := hv_mtv i1.toNatClampNeg (by unfold Int32.toNatClampNeg; omega) (by unfold Int32.toNatClampNeg; omega) x_28 (congrArg Value.int ex_28); rw [h9]; congr 1; unfold Int32.toNatClampNeg; omega
      refine hb_icmp_le (zx := r_16.toInt) (zy := x_28.toInt) (tgt := 57) hx hb rfl rfl dX6_readTold_47 (by decide) (fun c_29 => ?_) (fun c_29 => ?_)
      · skip
        refine lv_aload_n hx hb dX6_readTold_57 rfl (lv_at hl 2 rfl) ?_
        refine hk_getr hx hb hts hC_6 hown hW (gx.S hM) tt_6 6 (by decide) rfl kw_131 ⟨rfl, rfl, rfl⟩ ((hM.o gx trivial rfl).2.trans f_x_6) dX6_readTold_58 ?_
        refine hk_getr hx hb hts hC_0 hown hW (gqi.S hM) tt_129 2 (by decide) rfl kw_171 ⟨rfl, rfl, rfl⟩ ((hM.o gqi trivial rfl).2.trans f_qi_2) dX6_readTold_61 ?_
        refine lv_iload_n hx hb dX6_readTold_64 rfl (lv_at hl 3 rfl) ?_
        refine lv_iload_n hx hb dX6_readTold_65 rfl (lv_at hl 0 rfl) ?_
        have af_qdO := af_qd
        refine hx_iast hx hb hW hT (hx_S.rf (M := [(127, 0)])) (gqd.S hM) tt_127 rfl ⟨by omega, by omega⟩ rfl (i32_r _) (List.mem_singleton.mpr rfl) dX6_readTold_66 (fun H locs h_30 eh_30 hW hT hs => ?_)
        replace f_x_3 := (hs.o (gx.S hM) trivial rfl).1.trans f_x_3
        replace fw_19 := (hs.o (gx.S hM) trivial rfl).1.trans fw_19
        replace hM := hM.tr (hs.mono (by decide))
        obtain ⟨fa_31, dfa_31⟩ : ∃ g : Nat → Int32, g = hx_up df i1.toNatClampNeg r_16 := ⟨_, rfl⟩
        have nfa_31 : h_30.2.1 qd = fa_31 := by rw [eh_30, dfa_31, ← af_qdO]; exact hx_pi_fun _ _ _ _
        refine lv_iconst (v := 1) hx hb dX6_readTold_67 (by decide) ?_
        have hlb := hv_lo_b (i1.toInt - 1).toNat
        have hdg9 : w_6.toInt.toNat < hv_de tf ln0.toInt.toNat w_6.toInt.toNat ∧ hv_de tf ln0.toInt.toNat w_6.toInt.toNat ≤ ln0.toInt.toNat := hv_de_gt (by omega) (by rcases hr_12 with z | z; exact z.2.2; exfalso; omega)
        exact hx_retz hx hb hr rfl hlk hW ⟨⟨w_19, ft0, fa_31, fw_19, f_x_3, nfa_31, ⟨(Or.inl ⟨by decide, rfl, r_16, (hv_num_3 (by rw [← ek_7]; rcases hr_12 with z | z; exact ⟨by omega, z.2.2⟩; exfalso; omega) (by rw [← ek_7]; omega) (by rw [← ek_7]; omega) (by rw [← ek_7]; omega)).trans (by rw [← ek_7, show hv_dv tf w_6.toInt.toNat (hv_de tf ln0.toInt.toNat w_6.toInt.toNat - w_6.toInt.toNat) = r_16.toInt by omega, show hv_de tf ln0.toInt.toNat w_6.toInt.toNat = w_19.toInt.toNat by omega]), dfa_31⟩), by omega⟩⟩, hT, hM⟩ dX6_readTold_68
      · skip
        refine lv_aload_n hx hb dX6_readTold_50 rfl (lv_at hl 2 rfl) ?_
        refine lv_iload_n hx hb dX6_readTold_51 rfl (lv_at hl 1 rfl) ?_
        refine lv_iconst (v := 1) hx hb dX6_readTold_52 (by decide) ?_
        have zc_1 : (1 : Int32).toInt = 1 := by decide
        refine hx_goi (hx_runV (As := [.int w_6, .int (1 : Int32)]) (rest := []) ⟨hx, hb, hml, hown, hts⟩ hW (gx.S hM) tt_6 (T := TX6) (N := 7) rfl (t_X6_refuse_v l dC dI dA L_14 h_15 H.size x w_6 (1 : Int32) hT (gx.S hM) ⟨by omega, by omega⟩ (by decide)) (cwV 2 hts (hx_gV kw_527 kw_524 kw_526 kw_6 kw_95) rfl rfl rfl (by decide +kernel) ⟨Nat.le_of_ble_eq_true rfl, Nat.le_of_ble_eq_true rfl⟩) rfl hl.1 rfl (Nat.le_of_ble_eq_true rfl) dX6_readTold_53 ⟨Nat.le_of_ble_eq_true rfl, Nat.le_of_ble_eq_true rfl⟩) hW (fun r_34 L_32 h_33 H locs p_35 hW => ?_)
        obtain ⟨⟨w_37, fw_37, hr_36⟩, hT, hs⟩ := p_35
        replace hT : hx_T T_tb L_32 h_33 := hT
        replace hs : hx_S T_tb [(6, 3)] L_14 h_15 L_32 h_33 := hs
        replace fw_19 := (hs.o (gx.S hM) trivial rfl).1.trans fw_19
        replace af_qd : h_33.2.1 qd = df := (funext fun j => (hs.a (gqd.S hM) rfl j).1).trans af_qd
        replace hM := hM.tr (hs.mono (by decide))
        have fw_37 : h_33.2.1 x 3 = w_37 := fw_37
        have bw_37 := hT.gi (gx.S hM) tt_6 (k := 3) rfl
        rw [fw_37] at bw_37
        have bw_37 : -2147483648 ≤ w_37.toInt ∧ w_37.toInt ≤ 2147483647 := bw_37
        have hlb := hv_lo_b (i1.toInt - 1).toNat
        exact hx_retz hx hb hr (hx_nar01 (by omega)) hlk hW ⟨⟨w_19, w_37, df, fw_19, fw_37, af_qd, ⟨(Or.inr ⟨by omega, by omega, (hv_num_2 (by rw [← ek_7]; rcases hr_12 with z | z; exact ⟨by omega, z.2.2⟩; exfalso; omega) (by rw [← ek_7]; omega)).trans (by rw [← ek_7]; congr 1; omega)⟩), by omega⟩⟩, hT, hM⟩ dX6_readTold_56
  · skip
    refine lv_aload_n hx hb dX6_readTold_20 rfl (lv_at hl 1 rfl) ?_
    refine lv_iload_n hx hb dX6_readTold_21 rfl (lv_at hl 0 rfl) ?_
    refine lv_iconst (v := 0) hx hb dX6_readTold_22 (by decide) ?_
    have zc_0 : (0 : Int32).toInt = 0 := by decide
    refine hx_goi (hx_runV (As := [.int w_6, .int (0 : Int32)]) (rest := []) ⟨hx, hb, hml, hown, hts⟩ hW (gx.S hM) tt_6 (T := TX6) (N := 7) rfl (t_X6_refuse_v l dC dI dA L_8 h_9 H.size x w_6 (0 : Int32) hT (gx.S hM) ⟨by omega, by omega⟩ (by decide)) (cwV 2 hts (hx_gV kw_527 kw_524 kw_526 kw_6 kw_95) rfl rfl rfl (by decide +kernel) ⟨Nat.le_of_ble_eq_true rfl, Nat.le_of_ble_eq_true rfl⟩) rfl hl.1 rfl (Nat.le_of_ble_eq_true rfl) dX6_readTold_23 ⟨Nat.le_of_ble_eq_true rfl, Nat.le_of_ble_eq_true rfl⟩) hW (fun r_40 L_38 h_39 H locs p_41 hW => ?_)
    obtain ⟨⟨w_43, fw_43, hr_42⟩, hT, hs⟩ := p_41
    replace hT : hx_T T_tb L_38 h_39 := hT
    replace hs : hx_S T_tb [(6, 3)] L_8 h_9 L_38 h_39 := hs
    replace fw_6 := (hs.o (gx.S hM) trivial rfl).1.trans fw_6
    replace af_qd : h_39.2.1 qd = df := (funext fun j => (hs.a (gqd.S hM) rfl j).1).trans af_qd
    replace hM := hM.tr (hs.mono (by decide))
    have fw_43 : h_39.2.1 x 3 = w_43 := fw_43
    have bw_43 := hT.gi (gx.S hM) tt_6 (k := 3) rfl
    rw [fw_43] at bw_43
    have bw_43 : -2147483648 ≤ w_43.toInt ∧ w_43.toInt ≤ 2147483647 := bw_43
    exact hx_retz hx hb hr (hx_nar01 (by omega)) hlk hW ⟨⟨w_6, w_43, df, fw_6, fw_43, af_qd, ⟨(Or.inr ⟨by omega, by omega, (hv_num_1 (by rw [← ek_7]; rcases hr_12 with z | z; (exfalso; omega); exact fun z9 => z.2 (by omega))).trans (by rw [← ek_7]; congr 1; omega)⟩), by omega⟩⟩, hT, hM⟩ dX6_readTold_26


set_option maxHeartbeats 4000000 in
set_option maxRecDepth 100000 in
theorem t_X6_readCost_v (l : Launch) (dC : Nat → ClassId) (dI : Nat → Nat → Nat) (dA : Nat → ClassId) (L : List Nat) (h : hx_h) (sz : Nat) (b0 : hx_z) (x : Nat) (hT : hx_T T_tb L h) (gx : hx_g L h x 6) (qt : Nat) (gqt : hx_g L h qt 42) (f_x_0 : h.2.2 x 0 = some qt) (qi : Nat) (gqi : hx_g L h qi 129) (f_x_6 : h.2.2 x 6 = some qi) (qd : Nat) (gqd : hx_g L h qd 127) (f_qi_2 : h.2.2 qi 2 = some qd) (tf : Nat → Int32) (af_qt : h.2.1 qt = tf) (df : Nat → Int32) (af_qd : h.2.1 qd = df) (at0 : Int32) (f_x_2 : h.2.1 x 2 = at0) (ln0 : Int32) (f_x_1 : h.2.1 x 1 = ln0) (ft0 : Int32) (f_x_3 : h.2.1 x 3 = ft0) (to0 : Int32) (f_x_4 : h.2.1 x 4 = to0) (ls9 : List Int) (o : List hv_tok) (hO : ls9 = o.map hv_cc) (hF : ft0.toInt = 0) (hA : at0.toInt ≤ ln0.toInt) : Met l yX6_readCost (Cond.code yX6_readCost cX6_readCost 3 (some .boolean) :: hx_all) ({ frames := 6, cells := 0, slots := 0, locals := 133 }) (va_Pc [.ref x] (hx_BX T_tb (P_ty dA) (dC, dI) vwCl L h sz b0)) (va_Qi (fun (r : Int32) (u : List Nat × hx_h) => (∃ (at1 : Int32) (ft1 : Int32) (to1 : Int32) (df1 : Nat → Int32), u.2.2.1 x 2 = at1 ∧ u.2.2.1 x 3 = ft1 ∧ u.2.2.1 x 4 = to1 ∧ u.2.2.1 qd = df1 ∧ (hv_CK hv_cc (hv_co tf ln0.toInt.toNat (hv_sk tf ln0.toInt.toNat at0.toInt.toNat) (hv_sC to0) (hv_rC df) o) r.toInt ft1.toInt at1.toInt (hv_sC to1) (hv_rC df1) ls9 ∧ (r.toInt = 1 → at0.toInt < at1.toInt ∧ at1.toInt ≤ ln0.toInt ∧ hv_sC to1 13 = hv_sC to0 13))) ∧ hx_T T_tb u.1 u.2 ∧ hx_S T_tb [(6, 2), (6, 3), (6, 4), (127, 0)] L h u.1 u.2) (hx_E T_tb (P_ty dA) (dC, dI) vwCl (hx_A L sz)) (hx_A L sz)) 0 0 (hx_A L sz) := by
  refine hx_metX (lv := [(0, .ref x)]) (by decide +kernel) rfl (Nat.le_of_ble_eq_true rfl) rfl ?_
  intro p e s m below meth c hx hb hml hr hlk hts0 hown hin hsz hW hZ ls hl
  have hts : ∀ w ∈ hx_all, w.before _ s = true := fun w hw => hts0 w (List.mem_cons_of_mem _ hw)
  have hown : s.vm.findClass "SmallCourt$Reader" = some m.cls := hown
  have hM : hx_S T_tb [(6, 2), (6, 3), (6, 4), (127, 0)] L h L h := hx_S.rf
  obtain ⟨zLT, zLA, zMT, zMA, zCS, zSF, zVS, zVR⟩ := hZ.2.2.2.2.2.2
  have b_at0 := hT.gi gx tt_6 (k := 2) rfl
  rw [f_x_2] at b_at0
  have b_at0 : 0 ≤ at0.toInt ∧ at0.toInt ≤ 402 := b_at0
  have b_ln0 := hT.gi gx tt_6 (k := 1) rfl
  rw [f_x_1] at b_ln0
  have b_ln0 : 0 ≤ ln0.toInt ∧ ln0.toInt ≤ 400 := b_ln0
  have b_ft0 := hT.gi gx tt_6 (k := 3) rfl
  rw [f_x_3] at b_ft0
  have b_ft0 : -2147483648 ≤ ft0.toInt ∧ ft0.toInt ≤ 2147483647 := b_ft0
  have b_to0 := hT.gi gx tt_6 (k := 4) rfl
  rw [f_x_4] at b_to0
  have b_to0 : -2147483648 ≤ to0.toInt ∧ to0.toInt ≤ 2147483647 := b_to0
  refine lv_aload_n hx hb dX6_readCost_0 rfl (lv_at hl 0 rfl) ?_
  refine hx_gov (hx_runV (As := []) (rest := []) ⟨hx, hb, hml, hown, hts⟩ hW (gx.S hM) tt_6 (T := TX6) (N := 7) rfl (t_X6_skipBlanks_v l dC dI dA L h s.heap.size x hT (gx.S hM) qt (gqt.S hM) ((hM.o gx trivial rfl).2.trans f_x_0) tf (hx_afS hM gqt rfl af_qt) at0 f_x_2 ln0 ((hM.o gx trivial rfl).1.trans f_x_1) (by omega)) (cwV 0 hts (hx_gV kw_458 kw_455 kw_457 kw_1 kw_95) rfl rfl rfl (by decide +kernel) ⟨Nat.le_of_ble_eq_true rfl, Nat.le_of_ble_eq_true rfl⟩) rfl hl.1 rfl (Nat.le_of_ble_eq_true rfl) dX6_readCost_1 ⟨Nat.le_of_ble_eq_true rfl, Nat.le_of_ble_eq_true rfl⟩) hW (fun L_1 h_2 H locs p_4 hW => ?_)
  obtain ⟨⟨w_6, fw_6, hr_5⟩, hT, hs⟩ := p_4
  replace hT : hx_T T_tb L_1 h_2 := hT
  replace hs : hx_S T_tb [(6, 2)] L h L_1 h_2 := hs
  replace f_x_3 := (hs.o (gx.S hM) trivial rfl).1.trans f_x_3
  replace f_x_4 := (hs.o (gx.S hM) trivial rfl).1.trans f_x_4
  replace af_qd : h_2.2.1 qd = df := (funext fun j => (hs.a (gqd.S hM) rfl j).1).trans af_qd
  replace hM := hM.tr (hs.mono (by decide))
  have fw_6 : h_2.2.1 x 2 = w_6 := fw_6
  have bw_6 := hT.gi (gx.S hM) tt_6 (k := 2) rfl
  rw [fw_6] at bw_6
  have bw_6 : 0 ≤ w_6.toInt ∧ w_6.toInt ≤ 402 := bw_6
  have ek_7 : w_6.toInt.toNat = hv_sk tf ln0.toInt.toNat at0.toInt.toNat := by omega
  refine lv_aload_n hx hb dX6_readCost_4 rfl (lv_at hl 0 rfl) ?_
  refine hk_geti hx hb hts hC_6 hown hW (gx.S hM) tt_6 2 (by decide) rfl kw_127 ⟨rfl, rfl, rfl⟩ fw_6 dX6_readCost_5 ?_
  refine lv_istore_n (lv' := [(1, .int w_6), (0, .ref x)]) hx hb dX6_readCost_8 rfl hl (by decide) rfl (fun ls hl => ?_)
  refine lv_aload_n hx hb dX6_readCost_9 rfl (lv_at hl 1 rfl) ?_
  refine va_ldcS (tx := P_st.getD 1 "") hx hb hown (zVR 1 (by decide)) dX6_readCost_10 ?_
  refine hx_goi (hx_runVX (As := [.ref (b0.2.2.2.1 1)]) (rest := []) ⟨hx, hb, hml, hown, hts⟩ hW (gx.S hM) tt_6 (T := TX6) (N := 7) rfl (t_X6_readWord_v l dC dI dA L_1 h_2 H.size b0 x 1 hT (gx.S hM) (by decide) qt (gqt.S hM) ((hM.o gx trivial rfl).2.trans f_x_0) tf (hx_afS hM gqt rfl af_qt) w_6 fw_6 ln0 ((hM.o gx trivial rfl).1.trans f_x_1) (by omega)) hZ (cwV 1 hts (hx_gV kw_467 kw_464 kw_466 kw_3 kw_95) rfl rfl rfl (by decide +kernel) ⟨Nat.le_of_ble_eq_true rfl, Nat.le_of_ble_eq_true rfl⟩) rfl hl.1 rfl (Nat.le_of_ble_eq_true rfl) dX6_readCost_12 ⟨Nat.le_of_ble_eq_true rfl, Nat.le_of_ble_eq_true rfl⟩) hW (fun r_10 L_8 h_9 H locs p_11 hW => ?_)
  obtain ⟨⟨w_13, fw_13, hr_12⟩, hT, hs⟩ := p_11
  replace hT : hx_T T_tb L_8 h_9 := hT
  replace hs : hx_S T_tb [(6, 2)] L_1 h_2 L_8 h_9 := hs
  replace f_x_3 := (hs.o (gx.S hM) trivial rfl).1.trans f_x_3
  replace f_x_4 := (hs.o (gx.S hM) trivial rfl).1.trans f_x_4
  replace af_qd : h_9.2.1 qd = df := (funext fun j => (hs.a (gqd.S hM) rfl j).1).trans af_qd
  replace hM := hM.tr (hs.mono (by decide))
  have fw_13 : h_9.2.1 x 2 = w_13 := fw_13
  have bw_13 := hT.gi (gx.S hM) tt_6 (k := 2) rfl
  rw [fw_13] at bw_13
  have bw_13 : 0 ≤ w_13.toInt ∧ w_13.toInt ≤ 402 := bw_13
  have eu_14 := hv_RW_1 hr_12.2.1
  refine lv_istore_n (lv' := [(2, .int r_10), (1, .int w_6), (0, .ref x)]) hx hb dX6_readCost_15 rfl hl (by decide) rfl (fun ls hl => ?_)
  have sid : hv_sk tf ln0.toInt.toNat w_6.toInt.toNat = w_6.toInt.toNat := by rw [ek_7]; exact hv_sk_id
  have hrw := hr_12.1; rw [sid] at hrw eu_14
  refine lv_iload_n hx hb dX6_readCost_16 rfl (lv_at hl 0 rfl) ?_
  refine hb_if_ge (zx := r_10.toInt) (tgt := 27) hx hb rfl dX6_readCost_17 (by decide) (fun c_15 => ?_) (fun c_15 => ?_)
  · skip
    have hst : 0 ≤ r_10.toInt ∧ r_10.toInt ≤ 3 ∧ hv_wd tf ln0.toInt.toNat w_6.toInt.toNat = 21 + r_10.toInt := by omega
    have ha1 : w_13.toInt.toNat = hv_we tf ln0.toInt.toNat w_6.toInt.toNat := by omega
    have hw3 := hv_wd_3 (T := tf) (n := ln0.toInt.toNat) (p := w_6.toInt.toNat) (by omega)
    refine lv_aload_n hx hb dX6_readCost_27 rfl (lv_at hl 2 rfl) ?_
    refine lv_bipush (v := 10) hx hb dX6_readCost_28 (by decide) ?_
    refine lv_iload_n hx hb dX6_readCost_30 rfl (lv_at hl 0 rfl) ?_
    refine lv_iadd hx hb dX6_readCost_31 ?_
    have rg_16 := i32_r r_10
    refine lv_topi (fun x_17 ex_17 => ?_)
    have zx_17 : x_17.toInt = 10 + r_10.toInt := by rw [ex_17]; exact i32_add (by decide) rfl (by omega) (by omega)
    refine lv_iload_n hx hb dX6_readCost_32 rfl (lv_at hl 1 rfl) ?_
    refine hx_goi (hx_runV (As := [.int x_17, .int w_6]) (rest := []) ⟨hx, hb, hml, hown, hts⟩ hW (gx.S hM) tt_6 (T := TX6) (N := 7) rfl (t_X6_tellOnce_v l dC dI dA L_8 h_9 H.size x x_17 w_6 hT (gx.S hM) to0 f_x_4 ft0 f_x_3 ⟨by omega, by omega⟩ ⟨by omega, by omega⟩) (cwV 2 hts (hx_gV kw_536 kw_533 kw_535 kw_8 kw_95) rfl rfl rfl (by decide +kernel) ⟨Nat.le_of_ble_eq_true rfl, Nat.le_of_ble_eq_true rfl⟩) rfl hl.1 rfl (Nat.le_of_ble_eq_true rfl) dX6_readCost_33 ⟨Nat.le_of_ble_eq_true rfl, Nat.le_of_ble_eq_true rfl⟩) hW (fun r_20 L_18 h_19 H locs p_21 hW => ?_)
    obtain ⟨⟨w_23, w_24, fw_23, fw_24, hr_22⟩, hT, hs⟩ := p_21
    replace hT : hx_T T_tb L_18 h_19 := hT
    replace hs : hx_S T_tb [(6, 3), (6, 4)] L_8 h_9 L_18 h_19 := hs
    replace fw_13 := (hs.o (gx.S hM) trivial rfl).1.trans fw_13
    replace af_qd : h_19.2.1 qd = df := (funext fun j => (hs.a (gqd.S hM) rfl j).1).trans af_qd
    replace hM := hM.tr (hs.mono (by decide))
    have fw_23 : h_19.2.1 x 4 = w_23 := fw_23
    have bw_23 := hT.gi (gx.S hM) tt_6 (k := 4) rfl
    rw [fw_23] at bw_23
    have bw_23 : -2147483648 ≤ w_23.toInt ∧ w_23.toInt ≤ 2147483647 := bw_23
    have fw_24 : h_19.2.1 x 3 = w_24 := fw_24
    have bw_24 := hT.gi (gx.S hM) tt_6 (k := 3) rfl
    rw [fw_24] at bw_24
    have bw_24 : -2147483648 ≤ w_24.toInt ∧ w_24.toInt ≤ 2147483647 := bw_24
    refine hb_if_eq (zx := r_20.toInt) (tgt := 54) hx hb rfl dX6_readCost_36 (by decide) (fun c_25 => ?_) (fun c_25 => ?_)
    · skip
      refine lv_iconst (v := 0) hx hb dX6_readCost_54 (by decide) ?_
      exact hx_retz hx hb hr rfl hlk hW ⟨⟨w_13, w_24, w_23, df, fw_13, fw_24, fw_23, af_qd, ⟨(hv_CK_f (x := 3 + 8 * w_6.toInt.toNat) (by decide) (by omega) (by omega) (by rw [← ek_7]; exact hv_co_2 (by omega) (by rw [show (hv_wd tf ln0.toInt.toNat w_6.toInt.toNat - 12).toNat = (x_17.toInt - 1).toNat by omega]; rcases hr_22 with z | z; (exfalso; omega); exact z.2.1))), (fun z9 => absurd z9 (by decide))⟩⟩, hT, hM⟩ dX6_readCost_55
    · skip
      refine lv_aload_n hx hb dX6_readCost_39 rfl (lv_at hl 2 rfl) ?_
      refine lv_bipush (v := 10) hx hb dX6_readCost_40 (by decide) ?_
      refine lv_iload_n hx hb dX6_readCost_42 rfl (lv_at hl 0 rfl) ?_
      refine lv_iadd hx hb dX6_readCost_43 ?_
      refine lv_topi (fun x_26 ex_26 => ?_)
      have zx_26 : x_26.toInt = 10 + r_10.toInt := by rw [ex_26]; exact i32_add (by decide) rfl (by omega) (by omega)
      obtain rfl : x_17 = x_26 := ex_17.trans ex_26.symm
      refine hx_goi (hx_runVX (As := [.int x_17]) (rest := []) ⟨hx, hb, hml, hown, hts⟩ hW (gx.S hM) tt_6 (T := TX6) (N := 7) rfl (t_X6_readTold_v l dC dI dA L_18 h_19 H.size b0 x x_17 hT (gx.S hM) qt (gqt.S hM) ((hM.o gx trivial rfl).2.trans f_x_0) qi (gqi.S hM) ((hM.o gx trivial rfl).2.trans f_x_6) qd (gqd.S hM) ((hM.o gqi trivial rfl).2.trans f_qi_2) tf (hx_afS hM gqt rfl af_qt) df af_qd w_13 fw_13 ln0 ((hM.o gx trivial rfl).1.trans f_x_1) w_24 fw_24 ⟨by omega, by omega⟩ (by omega)) hZ (cwV 1 hts (hx_gV kw_540 kw_537 kw_539 kw_9 kw_95) rfl rfl rfl (by decide +kernel) ⟨Nat.le_of_ble_eq_true rfl, Nat.le_of_ble_eq_true rfl⟩) rfl hl.1 rfl (Nat.le_of_ble_eq_true rfl) dX6_readCost_44 ⟨Nat.le_of_ble_eq_true rfl, Nat.le_of_ble_eq_true rfl⟩) hW (fun r_29 L_27 h_28 H locs p_30 hW => ?_)
      obtain ⟨⟨w_32, w_33, w_34, fw_32, fw_33, fw_34, hr_31⟩, hT, hs⟩ := p_30
      replace hT : hx_T T_tb L_27 h_28 := hT
      replace hs : hx_S T_tb [(6, 2), (6, 3), (127, 0)] L_18 h_19 L_27 h_28 := hs
      replace fw_23 := (hs.o (gx.S hM) trivial rfl).1.trans fw_23
      replace hM := hM.tr (hs.mono (by decide))
      have fw_32 : h_28.2.1 x 2 = w_32 := fw_32
      have bw_32 := hT.gi (gx.S hM) tt_6 (k := 2) rfl
      rw [fw_32] at bw_32
      have bw_32 : 0 ≤ w_32.toInt ∧ w_32.toInt ≤ 402 := bw_32
      have fw_33 : h_28.2.1 x 3 = w_33 := fw_33
      have bw_33 := hT.gi (gx.S hM) tt_6 (k := 3) rfl
      rw [fw_33] at bw_33
      have bw_33 : -2147483648 ≤ w_33.toInt ∧ w_33.toInt ≤ 2147483647 := bw_33
      have fw_34 : h_28.2.1 qd = w_34 := fw_34
      have hr_31B := hr_31.2
      have hr_31b := hv_N_b hr_31.1
      refine hb_if_eq (zx := r_29.toInt) (tgt := 54) hx hb rfl dX6_readCost_47 (by decide) (fun c_35 => ?_) (fun c_35 => ?_)
      · skip
        refine lv_iconst (v := 0) hx hb dX6_readCost_54 (by decide) ?_
        exact hx_retz hx hb hr rfl hlk hW ⟨⟨w_32, w_33, w_23, w_34, fw_32, fw_33, fw_23, fw_34, ⟨(hv_CK_f (x := w_33.toInt.toNat) (by decide) (by have h8 := (hv_N_0 hr_31.1 (by omega)).1; omega) (by have h8 := (hv_N_0 hr_31.1 (by omega)).1; omega) (by rw [← ek_7]; exact hv_co_3 (by omega) (by rw [show (hv_wd tf ln0.toInt.toNat w_6.toInt.toNat - 12).toNat = (x_17.toInt - 1).toNat by omega]; rcases hr_22 with z | z; exact z.2.2.1; exfalso; omega) (by have h8 := (hv_N_0 hr_31.1 (by omega)).2; rw [ha1, hv_lo9 (by omega), hv_hi9 (by omega)] at h8; exact h8))), (fun z9 => absurd z9 (by decide))⟩⟩, hT, hM⟩ dX6_readCost_55
      · skip
        obtain ⟨n1_36F, nv_37, n1_36N, n1_36D⟩ := hv_N_1 hr_31.1 (by omega)
        refine lv_iconst (v := 1) hx hb dX6_readCost_50 (by decide) ?_
        refine lv_goto (tgt := 55) hx hb dX6_readCost_51 (by decide) ?_
        exact hx_retz hx hb hr rfl hlk hW ⟨⟨w_32, w_33, w_23, w_34, fw_32, fw_33, fw_23, fw_34, ⟨(hv_CK_t (x := w_32.toInt.toNat) (by decide) (by omega) (by omega) (by rcases hr_22 with z | z; exact z.2.2.2; exfalso; omega) (hv_rC_u (by omega) (by omega) n1_36D) hO (by rw [← ek_7]; have h7 := hv_co_4 (T := tf) (n := ln0.toInt.toNat) (q := w_6.toInt.toNat) (sn := hv_sC to0) (rd := hv_rC df) (o := o) (by omega) (by rw [show (hv_wd tf ln0.toInt.toNat w_6.toInt.toNat - 12).toNat = (x_17.toInt - 1).toNat by omega]; rcases hr_22 with z | z; exact z.2.2.1; exfalso; omega) (by have h8 := n1_36N; rw [ha1, hv_lo9 (by omega), hv_hi9 (by omega)] at h8; exact h8); rw [show (hv_wd tf ln0.toInt.toNat w_6.toInt.toNat - 12).toNat = (x_17.toInt - 1).toNat by omega] at h7; exact h7)), fun _ => ⟨by omega, by omega, by rcases hr_22 with z | z; (rw [z.2.2.2, hv_ub_ne (by omega)]); exfalso; omega⟩⟩⟩, hT, hM⟩ dX6_readCost_55
  · skip
    refine lv_aload_n hx hb dX6_readCost_20 rfl (lv_at hl 2 rfl) ?_
    refine lv_iload_n hx hb dX6_readCost_21 rfl (lv_at hl 1 rfl) ?_
    refine lv_iconst (v := 0) hx hb dX6_readCost_22 (by decide) ?_
    have zc_0 : (0 : Int32).toInt = 0 := by decide
    refine hx_goi (hx_runV (As := [.int w_6, .int (0 : Int32)]) (rest := []) ⟨hx, hb, hml, hown, hts⟩ hW (gx.S hM) tt_6 (T := TX6) (N := 7) rfl (t_X6_refuse_v l dC dI dA L_8 h_9 H.size x w_6 (0 : Int32) hT (gx.S hM) ⟨by omega, by omega⟩ (by decide)) (cwV 2 hts (hx_gV kw_527 kw_524 kw_526 kw_6 kw_95) rfl rfl rfl (by decide +kernel) ⟨Nat.le_of_ble_eq_true rfl, Nat.le_of_ble_eq_true rfl⟩) rfl hl.1 rfl (Nat.le_of_ble_eq_true rfl) dX6_readCost_23 ⟨Nat.le_of_ble_eq_true rfl, Nat.le_of_ble_eq_true rfl⟩) hW (fun r_40 L_38 h_39 H locs p_41 hW => ?_)
    obtain ⟨⟨w_43, fw_43, hr_42⟩, hT, hs⟩ := p_41
    replace hT : hx_T T_tb L_38 h_39 := hT
    replace hs : hx_S T_tb [(6, 3)] L_8 h_9 L_38 h_39 := hs
    replace f_x_4 := (hs.o (gx.S hM) trivial rfl).1.trans f_x_4
    replace fw_13 := (hs.o (gx.S hM) trivial rfl).1.trans fw_13
    replace af_qd : h_39.2.1 qd = df := (funext fun j => (hs.a (gqd.S hM) rfl j).1).trans af_qd
    replace hM := hM.tr (hs.mono (by decide))
    have fw_43 : h_39.2.1 x 3 = w_43 := fw_43
    have bw_43 := hT.gi (gx.S hM) tt_6 (k := 3) rfl
    rw [fw_43] at bw_43
    have bw_43 : -2147483648 ≤ w_43.toInt ∧ w_43.toInt ≤ 2147483647 := bw_43
    exact hx_retz hx hb hr (hx_nar01 (by omega)) hlk hW ⟨⟨w_13, w_43, to0, df, fw_13, fw_43, f_x_4, af_qd, ⟨(hv_CK_f (x := 1 + 8 * w_6.toInt.toNat) (by omega) (by omega) (by omega) (by rw [← ek_7]; exact hv_co_1 (by omega))), (fun z9 => by exfalso; omega)⟩⟩, hT, hM⟩ dX6_readCost_26


set_option maxHeartbeats 4000000 in
set_option maxRecDepth 100000 in
theorem t_X6_readClause_v (l : Launch) (dC : Nat → ClassId) (dI : Nat → Nat → Nat) (dA : Nat → ClassId) (L : List Nat) (h : hx_h) (sz : Nat) (b0 : hx_z) (x : Nat) (hT : hx_T T_tb L h) (gx : hx_g L h x 6) (qt : Nat) (gqt : hx_g L h qt 42) (f_x_0 : h.2.2 x 0 = some qt) (qi : Nat) (gqi : hx_g L h qi 129) (f_x_6 : h.2.2 x 6 = some qi) (qp : Nat) (gqp : hx_g L h qp 128) (f_qi_3 : h.2.2 qi 3 = some qp) (qd : Nat) (gqd : hx_g L h qd 127) (f_qi_2 : h.2.2 qi 2 = some qd) (tf : Nat → Int32) (af_qt : h.2.1 qt = tf) (pf : Nat → Int32) (af_qp : h.2.1 qp = pf) (df : Nat → Int32) (af_qd : h.2.1 qd = df) (at0 : Int32) (f_x_2 : h.2.1 x 2 = at0) (ln0 : Int32) (f_x_1 : h.2.1 x 1 = ln0) (ft0 : Int32) (f_x_3 : h.2.1 x 3 = ft0) (tm0 : Int32) (f_x_5 : h.2.1 x 5 = tm0) (pl0 : Int32) (f_qi_4 : h.2.1 qi 4 = pl0) (to0 : Int32) (f_x_4 : h.2.1 x 4 = to0) (o : List hv_tok) (hO : hv_ls pf pl0.toInt.toNat = o.map hv_cc) (hF : ft0.toInt = 0) (hA : at0.toInt ≤ ln0.toInt) (hT0 : 0 ≤ tm0.toInt ∧ tm0.toInt ≤ 20) (hTM : hv_sC to0 13 = false → tm0.toInt = 0) : Met l yX6_readClause (Cond.code yX6_readClause cX6_readClause 3 (some .boolean) :: hx_all) ({ frames := 25, cells := 0, slots := 0, locals := 572 }) (va_Pc [.ref x] (hx_BX T_tb (P_ty dA) (dC, dI) vwCl L h sz b0)) (va_Qi (fun (r : Int32) (u : List Nat × hx_h) => (∃ (at1 : Int32) (ft1 : Int32) (tm1 : Int32) (pl1 : Int32) (pf1 : Nat → Int32) (to1 : Int32) (df1 : Nat → Int32), u.2.2.1 x 2 = at1 ∧ u.2.2.1 x 3 = ft1 ∧ u.2.2.1 x 5 = tm1 ∧ u.2.2.1 qi 4 = pl1 ∧ u.2.2.1 qp = pf1 ∧ u.2.2.1 x 4 = to1 ∧ u.2.2.1 qd = df1 ∧ (hv_CK hv_cc (hv_cl tf ln0.toInt.toNat at0.toInt.toNat (hv_sC to0) (hv_rC df) o) r.toInt ft1.toInt at1.toInt (hv_sC to1) (hv_rC df1) (hv_ls pf1 pl1.toInt.toNat) ∧ (r.toInt = 1 → at0.toInt < at1.toInt ∧ at1.toInt ≤ ln0.toInt ∧ 0 ≤ tm1.toInt ∧ tm1.toInt ≤ 20 ∧ (hv_sC to1 13 = false → tm1.toInt = 0)))) ∧ hx_T T_tb u.1 u.2 ∧ hx_S T_tb [(6, 2), (6, 3), (6, 4), (6, 5), (127, 0), (128, 0), (129, 4)] L h u.1 u.2) (hx_E T_tb (P_ty dA) (dC, dI) vwCl (hx_A L sz)) (hx_A L sz)) 0 0 (hx_A L sz) := by
  refine hx_metX (lv := [(0, .ref x)]) (by decide +kernel) rfl (Nat.le_of_ble_eq_true rfl) rfl ?_
  intro p e s m below meth c hx hb hml hr hlk hts0 hown hin hsz hW hZ ls hl
  have hts : ∀ w ∈ hx_all, w.before _ s = true := fun w hw => hts0 w (List.mem_cons_of_mem _ hw)
  have hown : s.vm.findClass "SmallCourt$Reader" = some m.cls := hown
  have hM : hx_S T_tb [(6, 2), (6, 3), (6, 4), (6, 5), (127, 0), (128, 0), (129, 4)] L h L h := hx_S.rf
  obtain ⟨zLT, zLA, zMT, zMA, zCS, zSF, zVS, zVR⟩ := hZ.2.2.2.2.2.2
  have b_at0 := hT.gi gx tt_6 (k := 2) rfl
  rw [f_x_2] at b_at0
  have b_at0 : 0 ≤ at0.toInt ∧ at0.toInt ≤ 402 := b_at0
  have b_ln0 := hT.gi gx tt_6 (k := 1) rfl
  rw [f_x_1] at b_ln0
  have b_ln0 : 0 ≤ ln0.toInt ∧ ln0.toInt ≤ 400 := b_ln0
  have b_ft0 := hT.gi gx tt_6 (k := 3) rfl
  rw [f_x_3] at b_ft0
  have b_ft0 : -2147483648 ≤ ft0.toInt ∧ ft0.toInt ≤ 2147483647 := b_ft0
  have b_tm0 := hT.gi gx tt_6 (k := 5) rfl
  rw [f_x_5] at b_tm0
  have b_tm0 : -2147483648 ≤ tm0.toInt ∧ tm0.toInt ≤ 2147483647 := b_tm0
  have b_pl0 := hT.gi gqi tt_129 (k := 4) rfl
  rw [f_qi_4] at b_pl0
  have b_pl0 : 0 ≤ pl0.toInt ∧ pl0.toInt ≤ 160 := b_pl0
  have b_to0 := hT.gi gx tt_6 (k := 4) rfl
  rw [f_x_4] at b_to0
  have b_to0 : -2147483648 ≤ to0.toInt ∧ to0.toInt ≤ 2147483647 := b_to0
  refine lv_aload_n hx hb dX6_readClause_0 rfl (lv_at hl 0 rfl) ?_
  refine hx_gov (hx_runV (As := []) (rest := []) ⟨hx, hb, hml, hown, hts⟩ hW (gx.S hM) tt_6 (T := TX6) (N := 7) rfl (t_X6_skipBlanks_v l dC dI dA L h s.heap.size x hT (gx.S hM) qt (gqt.S hM) ((hM.o gx trivial rfl).2.trans f_x_0) tf (hx_afS hM gqt rfl af_qt) at0 f_x_2 ln0 ((hM.o gx trivial rfl).1.trans f_x_1) (by omega)) (cwV 0 hts (hx_gV kw_458 kw_455 kw_457 kw_1 kw_95) rfl rfl rfl (by decide +kernel) ⟨Nat.le_of_ble_eq_true rfl, Nat.le_of_ble_eq_true rfl⟩) rfl hl.1 rfl (Nat.le_of_ble_eq_true rfl) dX6_readClause_1 ⟨Nat.le_of_ble_eq_true rfl, Nat.le_of_ble_eq_true rfl⟩) hW (fun L_1 h_2 H locs p_4 hW => ?_)
  obtain ⟨⟨w_6, fw_6, hr_5⟩, hT, hs⟩ := p_4
  replace hT : hx_T T_tb L_1 h_2 := hT
  replace hs : hx_S T_tb [(6, 2)] L h L_1 h_2 := hs
  replace f_x_3 := (hs.o (gx.S hM) trivial rfl).1.trans f_x_3
  replace f_x_5 := (hs.o (gx.S hM) trivial rfl).1.trans f_x_5
  replace f_qi_4 := (hs.o (gqi.S hM) trivial rfl).1.trans f_qi_4
  replace f_x_4 := (hs.o (gx.S hM) trivial rfl).1.trans f_x_4
  replace af_qp : h_2.2.1 qp = pf := (funext fun j => (hs.a (gqp.S hM) rfl j).1).trans af_qp
  replace af_qd : h_2.2.1 qd = df := (funext fun j => (hs.a (gqd.S hM) rfl j).1).trans af_qd
  replace hM := hM.tr (hs.mono (by decide))
  have fw_6 : h_2.2.1 x 2 = w_6 := fw_6
  have bw_6 := hT.gi (gx.S hM) tt_6 (k := 2) rfl
  rw [fw_6] at bw_6
  have bw_6 : 0 ≤ w_6.toInt ∧ w_6.toInt ≤ 402 := bw_6
  have ek_7 : w_6.toInt.toNat = hv_sk tf ln0.toInt.toNat at0.toInt.toNat := by omega
  refine lv_aload_n hx hb dX6_readClause_4 rfl (lv_at hl 0 rfl) ?_
  refine hk_geti hx hb hts hC_6 hown hW (gx.S hM) tt_6 2 (by decide) rfl kw_127 ⟨rfl, rfl, rfl⟩ fw_6 dX6_readClause_5 ?_
  refine lv_istore_n (lv' := [(1, .int w_6), (0, .ref x)]) hx hb dX6_readClause_8 rfl hl (by decide) rfl (fun ls hl => ?_)
  refine lv_aload_n hx hb dX6_readClause_9 rfl (lv_at hl 1 rfl) ?_
  refine va_ldcS (tx := P_st.getD 0 "") hx hb hown (zVR 0 (by decide)) dX6_readClause_10 ?_
  refine hx_goi (hx_runVX (As := [.ref (b0.2.2.2.1 0)]) (rest := []) ⟨hx, hb, hml, hown, hts⟩ hW (gx.S hM) tt_6 (T := TX6) (N := 7) rfl (t_X6_readWord_v l dC dI dA L_1 h_2 H.size b0 x 0 hT (gx.S hM) (by decide) qt (gqt.S hM) ((hM.o gx trivial rfl).2.trans f_x_0) tf (hx_afS hM gqt rfl af_qt) w_6 fw_6 ln0 ((hM.o gx trivial rfl).1.trans f_x_1) (by omega)) hZ (cwV 1 hts (hx_gV kw_467 kw_464 kw_466 kw_3 kw_95) rfl rfl rfl (by decide +kernel) ⟨Nat.le_of_ble_eq_true rfl, Nat.le_of_ble_eq_true rfl⟩) rfl hl.1 rfl (Nat.le_of_ble_eq_true rfl) dX6_readClause_12 ⟨Nat.le_of_ble_eq_true rfl, Nat.le_of_ble_eq_true rfl⟩) hW (fun r_10 L_8 h_9 H locs p_11 hW => ?_)
  obtain ⟨⟨w_13, fw_13, hr_12⟩, hT, hs⟩ := p_11
  replace hT : hx_T T_tb L_8 h_9 := hT
  replace hs : hx_S T_tb [(6, 2)] L_1 h_2 L_8 h_9 := hs
  replace f_x_3 := (hs.o (gx.S hM) trivial rfl).1.trans f_x_3
  replace f_x_5 := (hs.o (gx.S hM) trivial rfl).1.trans f_x_5
  replace f_qi_4 := (hs.o (gqi.S hM) trivial rfl).1.trans f_qi_4
  replace f_x_4 := (hs.o (gx.S hM) trivial rfl).1.trans f_x_4
  replace af_qp : h_9.2.1 qp = pf := (funext fun j => (hs.a (gqp.S hM) rfl j).1).trans af_qp
  replace af_qd : h_9.2.1 qd = df := (funext fun j => (hs.a (gqd.S hM) rfl j).1).trans af_qd
  replace hM := hM.tr (hs.mono (by decide))
  have fw_13 : h_9.2.1 x 2 = w_13 := fw_13
  have bw_13 := hT.gi (gx.S hM) tt_6 (k := 2) rfl
  rw [fw_13] at bw_13
  have bw_13 : 0 ≤ w_13.toInt ∧ w_13.toInt ≤ 402 := bw_13
  have eu_14 := hv_RW_0 hr_12.2.1
  refine lv_istore_n (lv' := [(2, .int r_10), (1, .int w_6), (0, .ref x)]) hx hb dX6_readClause_15 rfl hl (by decide) rfl (fun ls hl => ?_)
  have sid : hv_sk tf ln0.toInt.toNat w_6.toInt.toNat = w_6.toInt.toNat := by rw [ek_7]; exact hv_sk_id
  have hrw := hr_12.1; rw [sid] at hrw eu_14
  refine lv_iload_n hx hb dX6_readClause_16 rfl (lv_at hl 0 rfl) ?_
  refine hb_if_ge (zx := r_10.toInt) (tgt := 27) hx hb rfl dX6_readClause_17 (by decide) (fun c_15 => ?_) (fun c_15 => ?_)
  · skip
    have hcl : 1 ≤ r_10.toInt ∧ r_10.toInt ≤ 11 ∧ r_10.toInt ≠ 7 ∧ hv_wd tf ln0.toInt.toNat w_6.toInt.toNat = (if r_10.toInt ≤ 6 then 10 + r_10.toInt else 9 + r_10.toInt) := by rcases eu_14 with z | z; (exfalso; omega); exact z
    have hwr : 11 ≤ hv_wd tf ln0.toInt.toNat w_6.toInt.toNat ∧ hv_wd tf ln0.toInt.toNat w_6.toInt.toNat ≤ 20 := by have h8 := hcl.2.2.2; split at h8 <;> omega
    have ha1 : w_13.toInt.toNat = hv_we tf ln0.toInt.toNat w_6.toInt.toNat := by omega
    have hw3 := hv_wd_3 (T := tf) (n := ln0.toInt.toNat) (p := w_6.toInt.toNat) (by omega)
    refine lv_iload_n hx hb dX6_readClause_27 rfl (lv_at hl 0 rfl) ?_
    refine lv_bipush (v := 10) hx hb dX6_readClause_28 (by decide) ?_
    refine hb_icmp_ne (zx := r_10.toInt) (zy := 10) (tgt := 38) hx hb rfl (by decide) dX6_readClause_30 (by decide) (fun c_16 => ?_) (fun c_16 => ?_)
    · skip
      refine lv_iload_n hx hb dX6_readClause_38 rfl (lv_at hl 0 rfl) ?_
      refine lv_bipush (v := 11) hx hb dX6_readClause_39 (by decide) ?_
      refine hb_icmp_ne (zx := r_10.toInt) (zy := 11) (tgt := 76) hx hb rfl (by decide) dX6_readClause_41 (by decide) (fun c_17 => ?_) (fun c_17 => ?_)
      · skip
        have hkk := hv_kk_r (by omega) (by omega) hcl.2.2.1 hcl.2.2.2
        refine lv_aload_n hx hb dX6_readClause_76 rfl (lv_at hl 2 rfl) ?_
        refine lv_iload_n hx hb dX6_readClause_77 rfl (lv_at hl 0 rfl) ?_
        refine lv_iload_n hx hb dX6_readClause_78 rfl (lv_at hl 1 rfl) ?_
        refine hx_goi (hx_runV (As := [.int r_10, .int w_6]) (rest := []) ⟨hx, hb, hml, hown, hts⟩ hW (gx.S hM) tt_6 (T := TX6) (N := 7) rfl (t_X6_tellOnce_v l dC dI dA L_8 h_9 H.size x r_10 w_6 hT (gx.S hM) to0 f_x_4 ft0 f_x_3 ⟨by omega, by omega⟩ ⟨by omega, by omega⟩) (cwV 2 hts (hx_gV kw_536 kw_533 kw_535 kw_8 kw_95) rfl rfl rfl (by decide +kernel) ⟨Nat.le_of_ble_eq_true rfl, Nat.le_of_ble_eq_true rfl⟩) rfl hl.1 rfl (Nat.le_of_ble_eq_true rfl) dX6_readClause_79 ⟨Nat.le_of_ble_eq_true rfl, Nat.le_of_ble_eq_true rfl⟩) hW (fun r_20 L_18 h_19 H locs p_21 hW => ?_)
        obtain ⟨⟨w_23, w_24, fw_23, fw_24, hr_22⟩, hT, hs⟩ := p_21
        replace hT : hx_T T_tb L_18 h_19 := hT
        replace hs : hx_S T_tb [(6, 3), (6, 4)] L_8 h_9 L_18 h_19 := hs
        replace f_x_5 := (hs.o (gx.S hM) trivial rfl).1.trans f_x_5
        replace f_qi_4 := (hs.o (gqi.S hM) trivial rfl).1.trans f_qi_4
        replace fw_13 := (hs.o (gx.S hM) trivial rfl).1.trans fw_13
        replace af_qp : h_19.2.1 qp = pf := (funext fun j => (hs.a (gqp.S hM) rfl j).1).trans af_qp
        replace af_qd : h_19.2.1 qd = df := (funext fun j => (hs.a (gqd.S hM) rfl j).1).trans af_qd
        replace hM := hM.tr (hs.mono (by decide))
        have fw_23 : h_19.2.1 x 4 = w_23 := fw_23
        have bw_23 := hT.gi (gx.S hM) tt_6 (k := 4) rfl
        rw [fw_23] at bw_23
        have bw_23 : -2147483648 ≤ w_23.toInt ∧ w_23.toInt ≤ 2147483647 := bw_23
        have fw_24 : h_19.2.1 x 3 = w_24 := fw_24
        have bw_24 := hT.gi (gx.S hM) tt_6 (k := 3) rfl
        rw [fw_24] at bw_24
        have bw_24 : -2147483648 ≤ w_24.toInt ∧ w_24.toInt ≤ 2147483647 := bw_24
        refine hb_if_eq (zx := r_20.toInt) (tgt := 112) hx hb rfl dX6_readClause_82 (by decide) (fun c_25 => ?_) (fun c_25 => ?_)
        · skip
          refine lv_iconst (v := 0) hx hb dX6_readClause_112 (by decide) ?_
          exact hx_retz hx hb hr rfl hlk hW ⟨⟨w_13, w_24, tm0, pl0, pf, w_23, df, fw_13, fw_24, f_x_5, f_qi_4, af_qp, fw_23, af_qd, ⟨(hv_CK_f (x := 3 + 8 * w_6.toInt.toNat) (by first | decide | omega) (by omega) (by omega) ((hv_cl_k (k := (r_10.toInt - 1).toNat) (by rw [← ek_7]; exact ⟨by omega, by have h8 := hcl.2.2.2; split at h8 <;> omega⟩) (by rw [← ek_7]; exact hkk.symm)).trans (by rw [← ek_7]; exact hv_ck_1 (by rcases hr_22 with z | z; (exfalso; omega); exact z.2.1)))), (fun z9 => absurd z9 (by decide))⟩⟩, hT, hM⟩ dX6_readClause_113
        · skip
          refine lv_aload_n hx hb dX6_readClause_85 rfl (lv_at hl 2 rfl) ?_
          refine lv_iload_n hx hb dX6_readClause_86 rfl (lv_at hl 0 rfl) ?_
          refine hx_goi (hx_runVX (As := [.int r_10]) (rest := []) ⟨hx, hb, hml, hown, hts⟩ hW (gx.S hM) tt_6 (T := TX6) (N := 7) rfl (t_X6_readTold_v l dC dI dA L_18 h_19 H.size b0 x r_10 hT (gx.S hM) qt (gqt.S hM) ((hM.o gx trivial rfl).2.trans f_x_0) qi (gqi.S hM) ((hM.o gx trivial rfl).2.trans f_x_6) qd (gqd.S hM) ((hM.o gqi trivial rfl).2.trans f_qi_2) tf (hx_afS hM gqt rfl af_qt) df af_qd w_13 fw_13 ln0 ((hM.o gx trivial rfl).1.trans f_x_1) w_24 fw_24 ⟨by omega, by omega⟩ (by omega)) hZ (cwV 1 hts (hx_gV kw_540 kw_537 kw_539 kw_9 kw_95) rfl rfl rfl (by decide +kernel) ⟨Nat.le_of_ble_eq_true rfl, Nat.le_of_ble_eq_true rfl⟩) rfl hl.1 rfl (Nat.le_of_ble_eq_true rfl) dX6_readClause_87 ⟨Nat.le_of_ble_eq_true rfl, Nat.le_of_ble_eq_true rfl⟩) hW (fun r_28 L_26 h_27 H locs p_29 hW => ?_)
          obtain ⟨⟨w_31, w_32, w_33, fw_31, fw_32, fw_33, hr_30⟩, hT, hs⟩ := p_29
          replace hT : hx_T T_tb L_26 h_27 := hT
          replace hs : hx_S T_tb [(6, 2), (6, 3), (127, 0)] L_18 h_19 L_26 h_27 := hs
          replace f_x_5 := (hs.o (gx.S hM) trivial rfl).1.trans f_x_5
          replace f_qi_4 := (hs.o (gqi.S hM) trivial rfl).1.trans f_qi_4
          replace fw_23 := (hs.o (gx.S hM) trivial rfl).1.trans fw_23
          replace af_qp : h_27.2.1 qp = pf := (funext fun j => (hs.a (gqp.S hM) rfl j).1).trans af_qp
          replace hM := hM.tr (hs.mono (by decide))
          have fw_31 : h_27.2.1 x 2 = w_31 := fw_31
          have bw_31 := hT.gi (gx.S hM) tt_6 (k := 2) rfl
          rw [fw_31] at bw_31
          have bw_31 : 0 ≤ w_31.toInt ∧ w_31.toInt ≤ 402 := bw_31
          have fw_32 : h_27.2.1 x 3 = w_32 := fw_32
          have bw_32 := hT.gi (gx.S hM) tt_6 (k := 3) rfl
          rw [fw_32] at bw_32
          have bw_32 : -2147483648 ≤ w_32.toInt ∧ w_32.toInt ≤ 2147483647 := bw_32
          have fw_33 : h_27.2.1 qd = w_33 := fw_33
          have hr_30B := hr_30.2
          have hr_30b := hv_N_b hr_30.1
          refine hb_if_eq (zx := r_28.toInt) (tgt := 112) hx hb rfl dX6_readClause_90 (by decide) (fun c_34 => ?_) (fun c_34 => ?_)
          · skip
            refine lv_iconst (v := 0) hx hb dX6_readClause_112 (by decide) ?_
            exact hx_retz hx hb hr rfl hlk hW ⟨⟨w_31, w_32, tm0, pl0, pf, w_23, w_33, fw_31, fw_32, f_x_5, f_qi_4, af_qp, fw_23, fw_33, ⟨(hv_CK_f (x := w_32.toInt.toNat) (by decide) (by have h8 := (hv_N_0 hr_30.1 (by omega)).1; omega) (by have h8 := (hv_N_0 hr_30.1 (by omega)).1; omega) ((hv_cl_k (k := (r_10.toInt - 1).toNat) (by rw [← ek_7]; exact ⟨by omega, by have h8 := hcl.2.2.2; split at h8 <;> omega⟩) (by rw [← ek_7]; exact hkk.symm)).trans (by rw [← ek_7]; exact (hv_ck_2 (by rcases hr_22 with z | z; exact z.2.2.1; exfalso; omega) (by have h8 := (hv_N_0 hr_30.1 (by omega)).2; rw [ha1] at h8; exact h8))))), (fun z9 => absurd z9 (by decide))⟩⟩, hT, hM⟩ dX6_readClause_113
          · skip
            obtain ⟨n1_35F, nv_36, n1_35N, n1_35D⟩ := hv_N_1 hr_30.1 (by omega)
            refine lv_iload_n hx hb dX6_readClause_93 rfl (lv_at hl 0 rfl) ?_
            refine lv_bipush (v := 6) hx hb dX6_readClause_94 (by decide) ?_
            refine hb_icmp_ne (zx := r_10.toInt) (zy := 6) (tgt := 108) hx hb rfl (by decide) dX6_readClause_96 (by decide) (fun c_37 => ?_) (fun c_37 => ?_)
            · skip
              refine lv_iconst (v := 1) hx hb dX6_readClause_108 (by decide) ?_
              refine lv_goto (tgt := 113) hx hb dX6_readClause_109 (by decide) ?_
              exact hx_retz hx hb hr rfl hlk hW ⟨⟨w_31, w_32, tm0, pl0, pf, w_23, w_33, fw_31, fw_32, f_x_5, f_qi_4, af_qp, fw_23, fw_33, ⟨(hv_CK_t (x := w_31.toInt.toNat) (by decide) (by omega) (by omega) (by rcases hr_22 with z | z; exact z.2.2.2; exfalso; omega) (hv_rC_u (by omega) (by omega) n1_35D) hO ((hv_cl_k (k := (r_10.toInt - 1).toNat) (by rw [← ek_7]; exact ⟨by omega, by have h8 := hcl.2.2.2; split at h8 <;> omega⟩) (by rw [← ek_7]; exact hkk.symm)).trans (by rw [← ek_7]; exact (hv_ck_3 (by rcases hr_22 with z | z; exact z.2.2.1; exfalso; omega) (by have h8 := n1_35N; rw [ha1] at h8; exact h8) (by omega))))), fun _ => ⟨by omega, by omega, by omega, by omega, fun z8 => by rcases hr_22 with z | z; (rw [z.2.2.2, hv_ub_ne (by omega)] at z8; exact hTM z8); exfalso; omega⟩⟩⟩, hT, hM⟩ dX6_readClause_113
            · skip
              refine lv_aload_n hx hb dX6_readClause_99 rfl (lv_at hl 2 rfl) ?_
              refine lv_bipush (v := 7) hx hb dX6_readClause_100 (by decide) ?_
              have zc_7 : (7 : Int32).toInt = 7 := by decide
              refine hx_goi (hx_runVX (As := [.int (7 : Int32)]) (rest := []) ⟨hx, hb, hml, hown, hts⟩ hW (gx.S hM) tt_6 (T := TX6) (N := 7) rfl (t_X6_readTold_v l dC dI dA L_26 h_27 H.size b0 x (7 : Int32) hT (gx.S hM) qt (gqt.S hM) ((hM.o gx trivial rfl).2.trans f_x_0) qi (gqi.S hM) ((hM.o gx trivial rfl).2.trans f_x_6) qd (gqd.S hM) ((hM.o gqi trivial rfl).2.trans f_qi_2) tf (hx_afS hM gqt rfl af_qt) w_33 fw_33 w_31 fw_31 ln0 ((hM.o gx trivial rfl).1.trans f_x_1) w_32 fw_32 (by decide) (by omega)) hZ (cwV 1 hts (hx_gV kw_540 kw_537 kw_539 kw_9 kw_95) rfl rfl rfl (by decide +kernel) ⟨Nat.le_of_ble_eq_true rfl, Nat.le_of_ble_eq_true rfl⟩) rfl hl.1 rfl (Nat.le_of_ble_eq_true rfl) dX6_readClause_102 ⟨Nat.le_of_ble_eq_true rfl, Nat.le_of_ble_eq_true rfl⟩) hW (fun r_40 L_38 h_39 H locs p_41 hW => ?_)
              obtain ⟨⟨w_43, w_44, w_45, fw_43, fw_44, fw_45, hr_42⟩, hT, hs⟩ := p_41
              replace hT : hx_T T_tb L_38 h_39 := hT
              replace hs : hx_S T_tb [(6, 2), (6, 3), (127, 0)] L_26 h_27 L_38 h_39 := hs
              replace f_x_5 := (hs.o (gx.S hM) trivial rfl).1.trans f_x_5
              replace f_qi_4 := (hs.o (gqi.S hM) trivial rfl).1.trans f_qi_4
              replace fw_23 := (hs.o (gx.S hM) trivial rfl).1.trans fw_23
              replace af_qp : h_39.2.1 qp = pf := (funext fun j => (hs.a (gqp.S hM) rfl j).1).trans af_qp
              replace hM := hM.tr (hs.mono (by decide))
              have fw_43 : h_39.2.1 x 2 = w_43 := fw_43
              have bw_43 := hT.gi (gx.S hM) tt_6 (k := 2) rfl
              rw [fw_43] at bw_43
              have bw_43 : 0 ≤ w_43.toInt ∧ w_43.toInt ≤ 402 := bw_43
              have fw_44 : h_39.2.1 x 3 = w_44 := fw_44
              have bw_44 := hT.gi (gx.S hM) tt_6 (k := 3) rfl
              rw [fw_44] at bw_44
              have bw_44 : -2147483648 ≤ w_44.toInt ∧ w_44.toInt ≤ 2147483647 := bw_44
              have fw_45 : h_39.2.1 qd = w_45 := fw_45
              have hr_42B := hr_42.2
              have hr_42b := hv_N_b hr_42.1
              refine hb_if_eq (zx := r_40.toInt) (tgt := 112) hx hb rfl dX6_readClause_105 (by decide) (fun c_46 => ?_) (fun c_46 => ?_)
              · skip
                refine lv_iconst (v := 0) hx hb dX6_readClause_112 (by decide) ?_
                exact hx_retz hx hb hr rfl hlk hW ⟨⟨w_43, w_44, tm0, pl0, pf, w_23, w_45, fw_43, fw_44, f_x_5, f_qi_4, af_qp, fw_23, fw_45, ⟨(hv_CK_f (x := w_44.toInt.toNat) (by decide) (by have h8 := (hv_N_0 hr_42.1 (by omega)).1; omega) (by have h8 := (hv_N_0 hr_42.1 (by omega)).1; omega) ((hv_cl_k (k := (r_10.toInt - 1).toNat) (by rw [← ek_7]; exact ⟨by omega, by have h8 := hcl.2.2.2; split at h8 <;> omega⟩) (by rw [← ek_7]; exact hkk.symm)).trans (by rw [← ek_7]; exact (by have h5 : hv_sC to0 (r_10.toInt - 1).toNat = false := (by rcases hr_22 with z | z; exact z.2.2.1; exfalso; omega); rw [show (r_10.toInt - 1).toNat = 5 by omega] at h5; have h6 := (by have h8 := n1_35N; rw [ha1] at h8; exact h8); rw [show (r_10.toInt - 1).toNat = 5 by omega] at h6; rw [show (r_10.toInt - 1).toNat = 5 by omega]; exact hv_ck_4 h5 h6 (by have h8 := (hv_N_0 hr_42.1 (by omega)).2; rw [show ((7 : Int32).toInt - 1).toNat = 6 by decide] at h8; exact h8))))), (fun z9 => absurd z9 (by decide))⟩⟩, hT, hM⟩ dX6_readClause_113
              · skip
                obtain ⟨n1_47F, nv_48, n1_47N, n1_47D⟩ := hv_N_1 hr_42.1 (by omega)
                refine lv_iconst (v := 1) hx hb dX6_readClause_108 (by decide) ?_
                refine lv_goto (tgt := 113) hx hb dX6_readClause_109 (by decide) ?_
                exact hx_retz hx hb hr rfl hlk hW ⟨⟨w_43, w_44, tm0, pl0, pf, w_23, w_45, fw_43, fw_44, f_x_5, f_qi_4, af_qp, fw_23, fw_45, ⟨(hv_CK_t (x := w_43.toInt.toNat) (by decide) (by omega) (by omega) (by rcases hr_22 with z | z; exact z.2.2.2.trans (congrArg (hv_ub (hv_sC to0)) (show (r_10.toInt - 1).toNat = 5 by omega)); exfalso; omega) (by rw [hv_rC_u (i := 7) (by decide) (by decide) n1_47D, hv_rC_u (by omega) (by omega) n1_35D, show (r_10.toInt - 1).toNat = 5 by omega] <;> rfl) hO ((hv_cl_k (k := (r_10.toInt - 1).toNat) (by rw [← ek_7]; exact ⟨by omega, by have h8 := hcl.2.2.2; split at h8 <;> omega⟩) (by rw [← ek_7]; exact hkk.symm)).trans (by rw [← ek_7]; exact (by have h5 : hv_sC to0 (r_10.toInt - 1).toNat = false := (by rcases hr_22 with z | z; exact z.2.2.1; exfalso; omega); rw [show (r_10.toInt - 1).toNat = 5 by omega] at h5; have h6 := (by have h8 := n1_35N; rw [ha1] at h8; exact h8); rw [show (r_10.toInt - 1).toNat = 5 by omega] at h6; rw [show (r_10.toInt - 1).toNat = 5 by omega]; exact hv_ck_5 h5 h6 (by have h8 := n1_47N; rw [show ((7 : Int32).toInt - 1).toNat = 6 by decide] at h8; exact h8))))), fun _ => ⟨by omega, by omega, by omega, by omega, fun z8 => by rcases hr_22 with z | z; (rw [z.2.2.2, hv_ub_ne (by omega)] at z8; exact hTM z8); exfalso; omega⟩⟩⟩, hT, hM⟩ dX6_readClause_113
      · skip
        have hw20 : hv_wd tf ln0.toInt.toNat w_6.toInt.toNat = 20 := by have h8 := hcl.2.2.2; rw [if_neg (by omega)] at h8; omega
        refine lv_aload_n hx hb dX6_readClause_44 rfl (lv_at hl 2 rfl) ?_
        refine hk_getr hx hb hts hC_6 hown hW (gx.S hM) tt_6 6 (by decide) rfl kw_131 ⟨rfl, rfl, rfl⟩ ((hM.o gx trivial rfl).2.trans f_x_6) dX6_readClause_45 ?_
        refine lv_iconst (v := 0) hx hb dX6_readClause_48 (by decide) ?_
        refine hx_puti hx hb hts hC_0 hown hW hT (hx_S.rf (M := [(129, 4)])) (gqi.S hM) tt_129 4 (by decide) rfl kw_174 ⟨rfl, rfl, rfl⟩ rfl (x := (0 : Int32)) (by decide) rfl rfl rfl (List.mem_singleton.mpr rfl) dX6_readClause_49 (fun H locs h_49 eh_49 hW hT hs => ?_)
        replace f_x_3 := (hs.o (gx.S hM) trivial rfl).1.trans f_x_3
        replace f_x_5 := (hs.o (gx.S hM) trivial rfl).1.trans f_x_5
        replace f_x_4 := (hs.o (gx.S hM) trivial rfl).1.trans f_x_4
        replace fw_13 := (hs.o (gx.S hM) trivial rfl).1.trans fw_13
        replace af_qp : h_49.2.1 qp = pf := (funext fun j => (hs.a (gqp.S hM) rfl j).1).trans af_qp
        replace af_qd : h_49.2.1 qd = df := (funext fun j => (hs.a (gqd.S hM) rfl j).1).trans af_qd
        replace hM := hM.tr (hs.mono (by decide))
        have f_50 : h_49.2.1 qi 4 = (0 : Int32) := by rw [eh_49]; exact hx_pi_at _ _ _ _
        refine lv_aload_n hx hb dX6_readClause_52 rfl (lv_at hl 2 rfl) ?_
        refine lv_bipush (v := 14) hx hb dX6_readClause_53 (by decide) ?_
        refine lv_iload_n hx hb dX6_readClause_55 rfl (lv_at hl 1 rfl) ?_
        have zc_14 : (14 : Int32).toInt = 14 := by decide
        refine hx_goi (hx_runV (As := [.int (14 : Int32), .int w_6]) (rest := []) ⟨hx, hb, hml, hown, hts⟩ hW (gx.S hM) tt_6 (T := TX6) (N := 7) rfl (t_X6_tellOnce_v l dC dI dA L_8 h_49 H.size x (14 : Int32) w_6 hT (gx.S hM) to0 f_x_4 ft0 f_x_3 (by decide) ⟨by omega, by omega⟩) (cwV 2 hts (hx_gV kw_536 kw_533 kw_535 kw_8 kw_95) rfl rfl rfl (by decide +kernel) ⟨Nat.le_of_ble_eq_true rfl, Nat.le_of_ble_eq_true rfl⟩) rfl hl.1 rfl (Nat.le_of_ble_eq_true rfl) dX6_readClause_56 ⟨Nat.le_of_ble_eq_true rfl, Nat.le_of_ble_eq_true rfl⟩) hW (fun r_53 L_51 h_52 H locs p_54 hW => ?_)
        obtain ⟨⟨w_56, w_57, fw_56, fw_57, hr_55⟩, hT, hs⟩ := p_54
        replace hT : hx_T T_tb L_51 h_52 := hT
        replace hs : hx_S T_tb [(6, 3), (6, 4)] L_8 h_49 L_51 h_52 := hs
        replace f_x_5 := (hs.o (gx.S hM) trivial rfl).1.trans f_x_5
        replace fw_13 := (hs.o (gx.S hM) trivial rfl).1.trans fw_13
        replace f_50 := (hs.o (gqi.S hM) trivial rfl).1.trans f_50
        replace af_qp : h_52.2.1 qp = pf := (funext fun j => (hs.a (gqp.S hM) rfl j).1).trans af_qp
        replace af_qd : h_52.2.1 qd = df := (funext fun j => (hs.a (gqd.S hM) rfl j).1).trans af_qd
        replace hM := hM.tr (hs.mono (by decide))
        have fw_56 : h_52.2.1 x 4 = w_56 := fw_56
        have bw_56 := hT.gi (gx.S hM) tt_6 (k := 4) rfl
        rw [fw_56] at bw_56
        have bw_56 : -2147483648 ≤ w_56.toInt ∧ w_56.toInt ≤ 2147483647 := bw_56
        have fw_57 : h_52.2.1 x 3 = w_57 := fw_57
        have bw_57 := hT.gi (gx.S hM) tt_6 (k := 3) rfl
        rw [fw_57] at bw_57
        have bw_57 : -2147483648 ≤ w_57.toInt ∧ w_57.toInt ≤ 2147483647 := bw_57
        refine hb_if_eq (zx := r_53.toInt) (tgt := 74) hx hb rfl dX6_readClause_59 (by decide) (fun c_58 => ?_) (fun c_58 => ?_)
        · skip
          refine lv_iconst (v := 0) hx hb dX6_readClause_74 (by decide) ?_
          have zo_0 : (0 : Int32).toInt = 0 := by decide
          exact hx_retz hx hb hr rfl hlk hW ⟨⟨w_13, w_57, tm0, (0 : Int32), pf, w_56, df, fw_13, fw_57, f_x_5, f_50, af_qp, fw_56, af_qd, ⟨(hv_CK_f (x := 3 + 8 * w_6.toInt.toNat) (by first | decide | omega) (by omega) (by omega) ((hv_cl_p1 (by rw [← ek_7]; exact hw20) (by rcases hr_55 with z | z; (exfalso; omega); exact z.2.1)).trans (by rw [← ek_7]))), (fun z9 => absurd z9 (by decide))⟩⟩, hT, hM⟩ dX6_readClause_75
        · skip
          have hs13 : hv_sC to0 13 = false := by rcases hr_55 with z | z; exact z.2.2.1; exfalso; omega
          have htz := hTM hs13
          refine lv_aload_n hx hb dX6_readClause_62 rfl (lv_at hl 2 rfl) ?_
          refine lv_iconst (v := 0) hx hb dX6_readClause_63 (by decide) ?_
          have zc_0 : (0 : Int32).toInt = 0 := by decide
          have zq_0 : (0 : Int32).toInt = 0 := by decide
          refine hx_goi (hx_runVX (As := [.int (0 : Int32)]) (rest := []) ⟨hx, hb, hml, hown, hts⟩ hW (gx.S hM) tt_6 (T := TX6) (N := 7) rfl (t_X6_readEither_v0 l dC dI dA L_51 h_52 H.size b0 x hT (gx.S hM) qt (gqt.S hM) ((hM.o gx trivial rfl).2.trans f_x_0) qi (gqi.S hM) ((hM.o gx trivial rfl).2.trans f_x_6) qp (gqp.S hM) ((hM.o gqi trivial rfl).2.trans f_qi_3) tf (hx_afS hM gqt rfl af_qt) pf af_qp w_13 fw_13 ln0 ((hM.o gx trivial rfl).1.trans f_x_1) w_57 fw_57 tm0 f_x_5 (0 : Int32) f_50 [] (show hv_ls pf 0 = [] from rfl) (by omega) (by omega) (by omega) ⟨by omega, by omega⟩) hZ (cwV 1 hts (hx_gV kw_556 kw_553 kw_555 kw_12 kw_95) rfl rfl rfl (by decide +kernel) ⟨Nat.le_of_ble_eq_true rfl, Nat.le_of_ble_eq_true rfl⟩) rfl hl.1 rfl (Nat.le_of_ble_eq_true rfl) dX6_readClause_64 ⟨Nat.le_of_ble_eq_true rfl, Nat.le_of_ble_eq_true rfl⟩) hW (fun r_61 L_59 h_60 H locs p_62 hW => ?_)
          obtain ⟨⟨w_64, w_65, w_66, w_67, w_68, fw_64, fw_65, fw_66, fw_67, fw_68, hr_63⟩, hT, hs⟩ := p_62
          replace hT : hx_T T_tb L_59 h_60 := hT
          replace hs : hx_S T_tb [(6, 2), (6, 3), (6, 5), (128, 0), (129, 4)] L_51 h_52 L_59 h_60 := hs
          replace fw_56 := (hs.o (gx.S hM) trivial rfl).1.trans fw_56
          replace af_qd : h_60.2.1 qd = df := (funext fun j => (hs.a (gqd.S hM) rfl j).1).trans af_qd
          replace hM := hM.tr (hs.mono (by decide))
          have fw_64 : h_60.2.1 x 2 = w_64 := fw_64
          have bw_64 := hT.gi (gx.S hM) tt_6 (k := 2) rfl
          rw [fw_64] at bw_64
          have bw_64 : 0 ≤ w_64.toInt ∧ w_64.toInt ≤ 402 := bw_64
          have fw_65 : h_60.2.1 x 3 = w_65 := fw_65
          have bw_65 := hT.gi (gx.S hM) tt_6 (k := 3) rfl
          rw [fw_65] at bw_65
          have bw_65 : -2147483648 ≤ w_65.toInt ∧ w_65.toInt ≤ 2147483647 := bw_65
          have fw_66 : h_60.2.1 x 5 = w_66 := fw_66
          have bw_66 := hT.gi (gx.S hM) tt_6 (k := 5) rfl
          rw [fw_66] at bw_66
          have bw_66 : -2147483648 ≤ w_66.toInt ∧ w_66.toInt ≤ 2147483647 := bw_66
          have fw_67 : h_60.2.1 qi 4 = w_67 := fw_67
          have bw_67 := hT.gi (gqi.S hM) tt_129 (k := 4) rfl
          rw [fw_67] at bw_67
          have bw_67 : 0 ≤ w_67.toInt ∧ w_67.toInt ≤ 160 := bw_67
          have fw_68 : h_60.2.1 qp = w_68 := fw_68
          have hr_63b := hv_K_b hr_63
          refine hb_if_eq (zx := r_61.toInt) (tgt := 74) hx hb rfl dX6_readClause_67 (by decide) (fun c_69 => ?_) (fun c_69 => ?_)
          · skip
            refine lv_iconst (v := 0) hx hb dX6_readClause_74 (by decide) ?_
            exact hx_retz hx hb hr rfl hlk hW ⟨⟨w_64, w_65, w_66, w_67, w_68, w_56, df, fw_64, fw_65, fw_66, fw_67, fw_68, fw_56, af_qd, ⟨(hv_CK_f (x := w_65.toInt.toNat) (by decide) (by have h8 := (hv_K_0 hr_63 (by omega)).1; omega) (by have h8 := (hv_K_0 hr_63 (by omega)).1; omega) (hv_cl_p2 (by rw [← ek_7]; exact hw20) hs13 (by have h8 := (hv_K_0 hr_63 (by omega)).2; rw [ha1, show tm0.toInt.toNat = 0 by omega] at h8; rw [← ek_7]; exact h8))), (fun z9 => absurd z9 (by decide))⟩⟩, hT, hM⟩ dX6_readClause_75
          · skip
            obtain ⟨k1_70F, k1_70p, k1_70t, oo_71, k1_70O, k1_70E⟩ := hv_K_1 hr_63 (by omega)
            have k1_70l := hv_ls_l k1_70O
            replace hr_63b : r_61.toInt = 1 := by omega
            have k1_70g := hv_LE_g k1_70E (by omega)
            refine lv_iconst (v := 1) hx hb dX6_readClause_70 (by decide) ?_
            refine lv_goto (tgt := 75) hx hb dX6_readClause_71 (by decide) ?_
            exact hx_retz hx hb hr rfl hlk hW ⟨⟨w_64, w_65, w_66, w_67, w_68, w_56, df, fw_64, fw_65, fw_66, fw_67, fw_68, fw_56, af_qd, ⟨(hv_CK_t (x := w_64.toInt.toNat) (by decide) (by omega) (by omega) (by rcases hr_55 with z | z; exact z.2.2.2; exfalso; omega) rfl k1_70O (hv_cl_p3 (by rw [← ek_7]; exact hw20) hs13 (by have h8 := k1_70E; rw [ha1, show tm0.toInt.toNat = 0 by omega] at h8; rw [← ek_7]; exact h8))), fun _ => ⟨by omega, by omega, by omega, by omega, fun z8 => by exfalso; rcases hr_55 with z | z; (rw [z.2.2.2] at z8; exact absurd (hv_ub_at.symm.trans z8) (by decide)); omega⟩⟩⟩, hT, hM⟩ dX6_readClause_75
    · skip
      have hw19 : hv_wd tf ln0.toInt.toNat w_6.toInt.toNat = 19 := by have h8 := hcl.2.2.2; rw [if_neg (by omega)] at h8; omega
      refine lv_aload_n hx hb dX6_readClause_33 rfl (lv_at hl 2 rfl) ?_
      refine hx_goi (hx_runVX (As := []) (rest := []) ⟨hx, hb, hml, hown, hts⟩ hW (gx.S hM) tt_6 (T := TX6) (N := 7) rfl (t_X6_readCost_v l dC dI dA L_8 h_9 H.size b0 x hT (gx.S hM) qt (gqt.S hM) ((hM.o gx trivial rfl).2.trans f_x_0) qi (gqi.S hM) ((hM.o gx trivial rfl).2.trans f_x_6) qd (gqd.S hM) ((hM.o gqi trivial rfl).2.trans f_qi_2) tf (hx_afS hM gqt rfl af_qt) df af_qd w_13 fw_13 ln0 ((hM.o gx trivial rfl).1.trans f_x_1) ft0 f_x_3 to0 f_x_4 _ o hO (by omega) (by omega)) hZ (cwV 0 hts (hx_gV kw_531 kw_528 kw_530 kw_7 kw_95) rfl rfl rfl (by decide +kernel) ⟨Nat.le_of_ble_eq_true rfl, Nat.le_of_ble_eq_true rfl⟩) rfl hl.1 rfl (Nat.le_of_ble_eq_true rfl) dX6_readClause_34 ⟨Nat.le_of_ble_eq_true rfl, Nat.le_of_ble_eq_true rfl⟩) hW (fun r_74 L_72 h_73 H locs p_75 hW => ?_)
      obtain ⟨⟨w_77, w_78, w_79, w_80, fw_77, fw_78, fw_79, fw_80, hr_76⟩, hT, hs⟩ := p_75
      replace hT : hx_T T_tb L_72 h_73 := hT
      replace hs : hx_S T_tb [(6, 2), (6, 3), (6, 4), (127, 0)] L_8 h_9 L_72 h_73 := hs
      replace f_x_5 := (hs.o (gx.S hM) trivial rfl).1.trans f_x_5
      replace f_qi_4 := (hs.o (gqi.S hM) trivial rfl).1.trans f_qi_4
      replace af_qp : h_73.2.1 qp = pf := (funext fun j => (hs.a (gqp.S hM) rfl j).1).trans af_qp
      replace hM := hM.tr (hs.mono (by decide))
      have fw_77 : h_73.2.1 x 2 = w_77 := fw_77
      have bw_77 := hT.gi (gx.S hM) tt_6 (k := 2) rfl
      rw [fw_77] at bw_77
      have bw_77 : 0 ≤ w_77.toInt ∧ w_77.toInt ≤ 402 := bw_77
      have fw_78 : h_73.2.1 x 3 = w_78 := fw_78
      have bw_78 := hT.gi (gx.S hM) tt_6 (k := 3) rfl
      rw [fw_78] at bw_78
      have bw_78 : -2147483648 ≤ w_78.toInt ∧ w_78.toInt ≤ 2147483647 := bw_78
      have fw_79 : h_73.2.1 x 4 = w_79 := fw_79
      have bw_79 := hT.gi (gx.S hM) tt_6 (k := 4) rfl
      rw [fw_79] at bw_79
      have bw_79 : -2147483648 ≤ w_79.toInt ∧ w_79.toInt ≤ 2147483647 := bw_79
      have fw_80 : h_73.2.1 qd = w_80 := fw_80
      have hr_76b := hv_CK_b hr_76.1
      exact hx_retz hx hb hr (hx_nar01 (by omega)) hlk hW ⟨⟨w_77, w_78, tm0, pl0, pf, w_79, w_80, fw_77, fw_78, f_x_5, f_qi_4, af_qp, fw_79, fw_80, ⟨hv_CK_c hr_76.1 ((hv_cl_c (by rw [← ek_7]; exact hw19)).trans (by rw [← ek_7, ha1])), fun z9 => by have h8 := hr_76.2 z9; exact ⟨by omega, by omega, by omega, by omega, fun z8 => hTM (h8.2.2.symm.trans z8)⟩⟩⟩, hT, hM⟩ dX6_readClause_37
  · skip
    refine lv_aload_n hx hb dX6_readClause_20 rfl (lv_at hl 2 rfl) ?_
    refine lv_iload_n hx hb dX6_readClause_21 rfl (lv_at hl 1 rfl) ?_
    refine lv_iconst (v := 0) hx hb dX6_readClause_22 (by decide) ?_
    have zc_0 : (0 : Int32).toInt = 0 := by decide
    refine hx_goi (hx_runV (As := [.int w_6, .int (0 : Int32)]) (rest := []) ⟨hx, hb, hml, hown, hts⟩ hW (gx.S hM) tt_6 (T := TX6) (N := 7) rfl (t_X6_refuse_v l dC dI dA L_8 h_9 H.size x w_6 (0 : Int32) hT (gx.S hM) ⟨by omega, by omega⟩ (by decide)) (cwV 2 hts (hx_gV kw_527 kw_524 kw_526 kw_6 kw_95) rfl rfl rfl (by decide +kernel) ⟨Nat.le_of_ble_eq_true rfl, Nat.le_of_ble_eq_true rfl⟩) rfl hl.1 rfl (Nat.le_of_ble_eq_true rfl) dX6_readClause_23 ⟨Nat.le_of_ble_eq_true rfl, Nat.le_of_ble_eq_true rfl⟩) hW (fun r_83 L_81 h_82 H locs p_84 hW => ?_)
    obtain ⟨⟨w_86, fw_86, hr_85⟩, hT, hs⟩ := p_84
    replace hT : hx_T T_tb L_81 h_82 := hT
    replace hs : hx_S T_tb [(6, 3)] L_8 h_9 L_81 h_82 := hs
    replace f_x_5 := (hs.o (gx.S hM) trivial rfl).1.trans f_x_5
    replace f_qi_4 := (hs.o (gqi.S hM) trivial rfl).1.trans f_qi_4
    replace f_x_4 := (hs.o (gx.S hM) trivial rfl).1.trans f_x_4
    replace fw_13 := (hs.o (gx.S hM) trivial rfl).1.trans fw_13
    replace af_qp : h_82.2.1 qp = pf := (funext fun j => (hs.a (gqp.S hM) rfl j).1).trans af_qp
    replace af_qd : h_82.2.1 qd = df := (funext fun j => (hs.a (gqd.S hM) rfl j).1).trans af_qd
    replace hM := hM.tr (hs.mono (by decide))
    have fw_86 : h_82.2.1 x 3 = w_86 := fw_86
    have bw_86 := hT.gi (gx.S hM) tt_6 (k := 3) rfl
    rw [fw_86] at bw_86
    have bw_86 : -2147483648 ≤ w_86.toInt ∧ w_86.toInt ≤ 2147483647 := bw_86
    exact hx_retz hx hb hr (hx_nar01 (by omega)) hlk hW ⟨⟨w_13, w_86, tm0, pl0, pf, to0, df, fw_13, fw_86, f_x_5, f_qi_4, af_qp, f_x_4, af_qd, ⟨(hv_CK_f (x := 1 + 8 * w_6.toInt.toNat) (by first | decide | omega) (by omega) (by omega) ((hv_cl_1 (by rw [← ek_7]; omega)).trans (by rw [← ek_7]))), (fun z9 => by exfalso; omega)⟩⟩, hT, hM⟩ dX6_readClause_26


set_option maxHeartbeats 4000000 in
set_option maxRecDepth 100000 in
theorem t_X6_isAnotherClause_v (l : Launch) (dC : Nat → ClassId) (dI : Nat → Nat → Nat) (dA : Nat → ClassId) (L : List Nat) (h : hx_h) (sz : Nat) (x : Nat) (hT : hx_T T_tb L h) (gx : hx_g L h x 6) (qt : Nat) (gqt : hx_g L h qt 42) (f_x_0 : h.2.2 x 0 = some qt) (tf : Nat → Int32) (af_qt : h.2.1 qt = tf) (at0 : Int32) (f_x_2 : h.2.1 x 2 = at0) (ln0 : Int32) (f_x_1 : h.2.1 x 1 = ln0) (ft0 : Int32) (f_x_3 : h.2.1 x 3 = ft0) (hA : at0.toInt ≤ ln0.toInt) : Met l yX6_isAnotherClause (Cond.code yX6_isAnotherClause cX6_isAnotherClause 1 (some .boolean) :: hx_all) ({ frames := 1, cells := 0, slots := 0, locals := 22 }) (va_Pc [.ref x] (hx_B T_tb (P_ty dA) (dC, dI) vwCl L h sz)) (va_Qi (fun (r : Int32) (u : List Nat × hx_h) => (∃ (at1 : Int32) (ft1 : Int32), u.2.2.1 x 2 = at1 ∧ u.2.2.1 x 3 = ft1 ∧ ((r.toInt = 1 ∧ ft1 = ft0 ∧ hv_sk tf ln0.toInt.toNat at0.toInt.toNat < ln0.toInt.toNat ∧ (tf (hv_sk tf ln0.toInt.toNat at0.toInt.toNat)).toInt = 59 ∧ at1.toInt = ((hv_sk tf ln0.toInt.toNat at0.toInt.toNat + 1 : Nat) : Int)) ∨ (r.toInt = 0 ∧ ((ln0.toInt.toNat ≤ hv_sk tf ln0.toInt.toNat at0.toInt.toNat ∧ ft1 = ft0) ∨ (hv_sk tf ln0.toInt.toNat at0.toInt.toNat < ln0.toInt.toNat ∧ (tf (hv_sk tf ln0.toInt.toNat at0.toInt.toNat)).toInt ≠ 59 ∧ ft1.toInt = ((1 + 8 * hv_sk tf ln0.toInt.toNat at0.toInt.toNat : Nat) : Int)))))) ∧ hx_T T_tb u.1 u.2 ∧ hx_S T_tb [(6, 2), (6, 3)] L h u.1 u.2) (hx_E T_tb (P_ty dA) (dC, dI) vwCl (hx_A L sz)) (hx_A L sz)) 0 0 (hx_A L sz) := by
  refine hx_met (lv := [(0, .ref x)]) (by decide +kernel) rfl (Nat.le_of_ble_eq_true rfl) rfl ?_
  intro p e s m below meth c hx hb hml hr hlk hts0 hown hin hsz hW ls hl
  have hts : ∀ w ∈ hx_all, w.before _ s = true := fun w hw => hts0 w (List.mem_cons_of_mem _ hw)
  have hown : s.vm.findClass "SmallCourt$Reader" = some m.cls := hown
  have hM : hx_S T_tb [(6, 2), (6, 3)] L h L h := hx_S.rf
  have b_at0 := hT.gi gx tt_6 (k := 2) rfl
  rw [f_x_2] at b_at0
  have b_at0 : 0 ≤ at0.toInt ∧ at0.toInt ≤ 402 := b_at0
  have b_ln0 := hT.gi gx tt_6 (k := 1) rfl
  rw [f_x_1] at b_ln0
  have b_ln0 : 0 ≤ ln0.toInt ∧ ln0.toInt ≤ 400 := b_ln0
  have b_ft0 := hT.gi gx tt_6 (k := 3) rfl
  rw [f_x_3] at b_ft0
  have b_ft0 : -2147483648 ≤ ft0.toInt ∧ ft0.toInt ≤ 2147483647 := b_ft0
  refine lv_aload_n hx hb dX6_isAnotherClause_0 rfl (lv_at hl 0 rfl) ?_
  refine hx_gov (hx_runV (As := []) (rest := []) ⟨hx, hb, hml, hown, hts⟩ hW (gx.S hM) tt_6 (T := TX6) (N := 7) rfl (t_X6_skipBlanks_v l dC dI dA L h s.heap.size x hT (gx.S hM) qt (gqt.S hM) ((hM.o gx trivial rfl).2.trans f_x_0) tf (hx_afS hM gqt rfl af_qt) at0 f_x_2 ln0 ((hM.o gx trivial rfl).1.trans f_x_1) (by omega)) (cwV 0 hts (hx_gV kw_458 kw_455 kw_457 kw_1 kw_95) rfl rfl rfl (by decide +kernel) ⟨Nat.le_of_ble_eq_true rfl, Nat.le_of_ble_eq_true rfl⟩) rfl hl.1 rfl (Nat.le_of_ble_eq_true rfl) dX6_isAnotherClause_1 ⟨Nat.le_of_ble_eq_true rfl, Nat.le_of_ble_eq_true rfl⟩) hW (fun L_1 h_2 H locs p_4 hW => ?_)
  obtain ⟨⟨w_6, fw_6, hr_5⟩, hT, hs⟩ := p_4
  replace hT : hx_T T_tb L_1 h_2 := hT
  replace hs : hx_S T_tb [(6, 2)] L h L_1 h_2 := hs
  replace f_x_3 := (hs.o (gx.S hM) trivial rfl).1.trans f_x_3
  replace hM := hM.tr (hs.mono (by decide))
  have fw_6 : h_2.2.1 x 2 = w_6 := fw_6
  have bw_6 := hT.gi (gx.S hM) tt_6 (k := 2) rfl
  rw [fw_6] at bw_6
  have bw_6 : 0 ≤ w_6.toInt ∧ w_6.toInt ≤ 402 := bw_6
  have ek_7 : w_6.toInt.toNat = hv_sk tf ln0.toInt.toNat at0.toInt.toNat := by omega
  refine lv_aload_n hx hb dX6_isAnotherClause_4 rfl (lv_at hl 0 rfl) ?_
  refine hk_geti hx hb hts hC_6 hown hW (gx.S hM) tt_6 2 (by decide) rfl kw_127 ⟨rfl, rfl, rfl⟩ fw_6 dX6_isAnotherClause_5 ?_
  refine lv_aload_n hx hb dX6_isAnotherClause_8 rfl (lv_at hl 0 rfl) ?_
  refine hk_geti hx hb hts hC_6 hown hW (gx.S hM) tt_6 1 (by decide) rfl kw_126 ⟨rfl, rfl, rfl⟩ ((hM.o gx trivial rfl).1.trans f_x_1) dX6_isAnotherClause_9 ?_
  refine hb_icmp_lt (zx := w_6.toInt) (zy := ln0.toInt) (tgt := 17) hx hb rfl rfl dX6_isAnotherClause_12 (by decide) (fun c_8 => ?_) (fun c_8 => ?_)
  · skip
    refine lv_aload_n hx hb dX6_isAnotherClause_17 rfl (lv_at hl 0 rfl) ?_
    refine hk_getr hx hb hts hC_6 hown hW (gx.S hM) tt_6 0 (by decide) rfl kw_125 ⟨rfl, rfl, rfl⟩ ((hM.o gx trivial rfl).2.trans f_x_0) dX6_isAnotherClause_18 ?_
    refine lv_aload_n hx hb dX6_isAnotherClause_21 rfl (lv_at hl 0 rfl) ?_
    refine hk_geti hx hb hts hC_6 hown hW (gx.S hM) tt_6 2 (by decide) rfl kw_127 ⟨rfl, rfl, rfl⟩ fw_6 dX6_isAnotherClause_22 ?_
    refine hx_bald hx hb hW hT (gqt.S hM) tt_42 rfl ⟨by omega, by omega⟩ dX6_isAnotherClause_25 (fun x_9 ex_9 lx_9 ux_9 => ?_)
    have ax_9 : x_9 = tf w_6.toNatClampNeg := ex_9.trans (congrFun (hx_afS hM gqt rfl af_qt) _)
    refine lv_bipush (v := 59) hx hb dX6_isAnotherClause_26 (by decide) ?_
    refine hb_icmp_eq (zx := x_9.toInt) (zy := 59) (tgt := 41) hx hb rfl (by decide) dX6_isAnotherClause_28 (by decide) (fun c_10 => ?_) (fun c_10 => ?_)
    · skip
      refine lv_aload_n hx hb dX6_isAnotherClause_41 rfl (lv_at hl 0 rfl) ?_
      refine lv_dup hx hb dX6_isAnotherClause_42 rfl ?_
      refine hk_geti hx hb hts hC_6 hown hW (gx.S hM) tt_6 2 (by decide) rfl kw_127 ⟨rfl, rfl, rfl⟩ fw_6 dX6_isAnotherClause_43 ?_
      refine lv_iconst (v := 1) hx hb dX6_isAnotherClause_46 (by decide) ?_
      refine lv_iadd hx hb dX6_isAnotherClause_47 ?_
      have rg_11 := i32_r w_6
      refine lv_topi (fun x_12 ex_12 => ?_)
      have zx_12 : x_12.toInt = w_6.toInt + 1 := by rw [ex_12]; exact i32_add rfl (by decide) (by omega) (by omega)
      refine hx_puti hx hb hts hC_6 hown hW hT (hx_S.rf (M := [(6, 2)])) (gx.S hM) tt_6 2 (by decide) rfl kw_127 ⟨rfl, rfl, rfl⟩ rfl (x := x_12) ⟨by omega, by omega⟩ rfl rfl rfl (List.mem_singleton.mpr rfl) dX6_isAnotherClause_48 (fun H locs h_13 eh_13 hW hT hs => ?_)
      replace f_x_3 := (hs.o (gx.S hM) trivial rfl).1.trans f_x_3
      replace ex_9 := ex_9.trans (hs.a (gqt.S hM) rfl _).1.symm
      replace hM := hM.tr (hs.mono (by decide))
      have f_14 : h_13.2.1 x 2 = x_12 := by rw [eh_13]; exact hx_pi_at _ _ _ _
      refine lv_iconst (v := 1) hx hb dX6_isAnotherClause_51 (by decide) ?_
      exact hx_retz hx hb hr rfl hlk hW ⟨⟨x_12, ft0, f_14, f_x_3, (Or.inl ⟨by decide, rfl, (by rw [← ek_7]; omega), (by rw [← ek_7]; show (tf w_6.toNatClampNeg).toInt = 59; rw [← ax_9]; omega), (by rw [← ek_7]; omega)⟩)⟩, hT, hM⟩ dX6_isAnotherClause_52
    · skip
      refine lv_aload_n hx hb dX6_isAnotherClause_31 rfl (lv_at hl 0 rfl) ?_
      refine lv_aload_n hx hb dX6_isAnotherClause_32 rfl (lv_at hl 0 rfl) ?_
      refine hk_geti hx hb hts hC_6 hown hW (gx.S hM) tt_6 2 (by decide) rfl kw_127 ⟨rfl, rfl, rfl⟩ fw_6 dX6_isAnotherClause_33 ?_
      refine lv_iconst (v := 0) hx hb dX6_isAnotherClause_36 (by decide) ?_
      have zc_0 : (0 : Int32).toInt = 0 := by decide
      refine hx_goi (hx_runV (As := [.int w_6, .int (0 : Int32)]) (rest := []) ⟨hx, hb, hml, hown, hts⟩ hW (gx.S hM) tt_6 (T := TX6) (N := 7) rfl (t_X6_refuse_v l dC dI dA L_1 h_2 H.size x w_6 (0 : Int32) hT (gx.S hM) ⟨by omega, by omega⟩ (by decide)) (cwV 2 hts (hx_gV kw_527 kw_524 kw_526 kw_6 kw_95) rfl rfl rfl (by decide +kernel) ⟨Nat.le_of_ble_eq_true rfl, Nat.le_of_ble_eq_true rfl⟩) rfl hl.1 rfl (Nat.le_of_ble_eq_true rfl) dX6_isAnotherClause_37 ⟨Nat.le_of_ble_eq_true rfl, Nat.le_of_ble_eq_true rfl⟩) hW (fun r_17 L_15 h_16 H locs p_18 hW => ?_)
      obtain ⟨⟨w_20, fw_20, hr_19⟩, hT, hs⟩ := p_18
      replace hT : hx_T T_tb L_15 h_16 := hT
      replace hs : hx_S T_tb [(6, 3)] L_1 h_2 L_15 h_16 := hs
      replace fw_6 := (hs.o (gx.S hM) trivial rfl).1.trans fw_6
      replace ex_9 := ex_9.trans (hs.a (gqt.S hM) rfl _).1.symm
      replace hM := hM.tr (hs.mono (by decide))
      have fw_20 : h_16.2.1 x 3 = w_20 := fw_20
      have bw_20 := hT.gi (gx.S hM) tt_6 (k := 3) rfl
      rw [fw_20] at bw_20
      have bw_20 : -2147483648 ≤ w_20.toInt ∧ w_20.toInt ≤ 2147483647 := bw_20
      exact hx_retz hx hb hr (hx_nar01 (by omega)) hlk hW ⟨⟨w_6, w_20, fw_6, fw_20, (Or.inr ⟨by omega, Or.inr ⟨(by rw [← ek_7]; omega), (by rw [← ek_7]; show (tf w_6.toNatClampNeg).toInt ≠ 59; rw [← ax_9]; omega), (by rw [← ek_7]; omega)⟩⟩)⟩, hT, hM⟩ dX6_isAnotherClause_40
  · skip
    refine lv_iconst (v := 0) hx hb dX6_isAnotherClause_15 (by decide) ?_
    exact hx_retz hx hb hr rfl hlk hW ⟨⟨w_6, ft0, fw_6, f_x_3, (Or.inr ⟨by decide, Or.inl ⟨(by rw [← ek_7]; omega), rfl⟩⟩)⟩, hT, hM⟩ dX6_isAnotherClause_16


set_option maxHeartbeats 4000000 in
set_option maxRecDepth 100000 in
theorem t_X6_readAct_v (l : Launch) (dC : Nat → ClassId) (dI : Nat → Nat → Nat) (dA : Nat → ClassId) (L : List Nat) (h : hx_h) (sz : Nat) (b0 : hx_z) (x : Nat) (v1 : Nat) (i2 : Int32) (v3 : Nat) (hT : hx_T T_tb L h) (gx : hx_g L h x 6) (gv1 : hx_g L h v1 42) (gv3 : hx_g L h v3 129) (qp : Nat) (gqp : hx_g L h qp 128) (f_v3_3 : h.2.2 v3 3 = some qp) (qd : Nat) (gqd : hx_g L h qd 127) (f_v3_2 : h.2.2 v3 2 = some qd) (tf : Nat → Int32) (af_v1 : h.2.1 v1 = tf) (pf : Nat → Int32) (af_qp : h.2.1 qp = pf) (df : Nat → Int32) (af_qd : h.2.1 qd = df) (pl0 : Int32) (f_v3_4 : h.2.1 v3 4 = pl0) (hi2 : 0 ≤ i2.toInt ∧ i2.toInt ≤ 400) (o : List hv_tok) (hO : hv_ls pf pl0.toInt.toNat = o.map hv_cc) : Met l yX6_readAct (Cond.code yX6_readAct cX6_readAct 6 (some .int) :: hx_all) ({ frames := 26, cells := 0, slots := 0, locals := 594 }) (va_Pc [.ref x, .ref v1, .int i2, .ref v3] (hx_BX T_tb (P_ty dA) (dC, dI) vwCl L h sz b0)) (va_Qi (fun (r : Int32) (u : List Nat × hx_h) => (∃ (pl1 : Int32) (pf1 : Nat → Int32) (df1 : Nat → Int32), u.2.2.1 v3 4 = pl1 ∧ u.2.2.1 qp = pf1 ∧ u.2.2.1 qd = df1 ∧ (hv_AR hv_cc (hv_ACT tf i2.toInt.toNat (hv_rC df) o) r.toInt (hv_rC df1) (hv_ls pf1 pl1.toInt.toNat))) ∧ hx_T T_tb u.1 u.2 ∧ hx_S T_tb [(6, 0), (6, 1), (6, 2), (6, 3), (6, 4), (6, 5), (6, 6), (127, 0), (128, 0), (129, 4)] L h u.1 u.2) (hx_E T_tb (P_ty dA) (dC, dI) vwCl (hx_A L sz)) (hx_A L sz)) 0 0 (hx_A L sz) := by
  refine hx_metX (lv := [(0, .ref x), (1, .ref v1), (2, .int i2), (3, .ref v3)]) (by decide +kernel) rfl (Nat.le_of_ble_eq_true rfl) rfl ?_
  intro p e s m below meth c hx hb hml hr hlk hts0 hown hin hsz hW hZ ls hl
  have hts : ∀ w ∈ hx_all, w.before _ s = true := fun w hw => hts0 w (List.mem_cons_of_mem _ hw)
  have hown : s.vm.findClass "SmallCourt$Reader" = some m.cls := hown
  have hM : hx_S T_tb [(6, 0), (6, 1), (6, 2), (6, 3), (6, 4), (6, 5), (6, 6), (127, 0), (128, 0), (129, 4)] L h L h := hx_S.rf
  obtain ⟨zLT, zLA, zMT, zMA, zCS, zSF, zVS, zVR⟩ := hZ.2.2.2.2.2.2
  have b_pl0 := hT.gi gv3 tt_129 (k := 4) rfl
  rw [f_v3_4] at b_pl0
  have b_pl0 : 0 ≤ pl0.toInt ∧ pl0.toInt ≤ 160 := b_pl0
  refine lv_aload_n hx hb dX6_readAct_0 rfl (lv_at hl 0 rfl) ?_
  refine lv_aload_n hx hb dX6_readAct_1 rfl (lv_at hl 1 rfl) ?_
  refine hx_putr hx hb hts hC_6 hown hW hT (hx_S.rf (M := [(6, 0)])) (gx.S hM) tt_6 0 (by decide) rfl kw_125 ⟨rfl, rfl, rfl⟩ rfl (x := (some v1)) ⟨fun _ z => (by cases z), fun q hq => (by cases hq; exact ⟨(gv1.S hM).1, by rw [(gv1.S hM).2]; decide⟩)⟩ rfl rfl rfl (List.mem_singleton.mpr rfl) dX6_readAct_2 (fun H locs h_1 eh_1 hW hT hs => ?_)
  replace f_v3_4 := (hs.o (gv3.S hM) trivial rfl).1.trans f_v3_4
  replace af_qp : h_1.2.1 qp = pf := (funext fun j => (hs.a (gqp.S hM) rfl j).1).trans af_qp
  replace af_qd : h_1.2.1 qd = df := (funext fun j => (hs.a (gqd.S hM) rfl j).1).trans af_qd
  replace hM := hM.tr (hs.mono (by decide))
  have f_2 : h_1.2.2 x 0 = (some v1) := by rw [eh_1]; exact hx_pr_at _ _ _ _
  refine lv_aload_n hx hb dX6_readAct_5 rfl (lv_at hl 0 rfl) ?_
  refine lv_iload_n hx hb dX6_readAct_6 rfl (lv_at hl 2 rfl) ?_
  refine hb_if_lt (zx := i2.toInt) (tgt := 16) hx hb rfl dX6_readAct_7 (by decide) (fun c_3 => by exfalso; omega) (fun c_3 => ?_)
  refine lv_iload_n hx hb dX6_readAct_10 rfl (lv_at hl 2 rfl) ?_
  refine lv_aload_n hx hb dX6_readAct_11 rfl (lv_at hl 1 rfl) ?_
  refine hx_alen hx hb hW (gv1.S hM) tt_42 rfl dX6_readAct_12 ?_
  refine lv_topi (fun x_4 ex_4 => ?_)
  obtain rfl : x_4 = (400 : Int32) := ex_4.trans (by decide)
  refine hb_icmp_le (zx := i2.toInt) (zy := 400) (tgt := 20) hx hb rfl (by decide) dX6_readAct_13 (by decide) (fun c_5 => ?_) (fun c_5 => by exfalso; omega)
  refine lv_iload_n hx hb dX6_readAct_20 rfl (lv_at hl 2 rfl) ?_
  refine hx_puti hx hb hts hC_6 hown hW hT (hx_S.rf (M := [(6, 1)])) (gx.S hM) tt_6 1 (by decide) rfl kw_126 ⟨rfl, rfl, rfl⟩ rfl (x := i2) ⟨by omega, by omega⟩ rfl rfl rfl (List.mem_singleton.mpr rfl) dX6_readAct_21 (fun H locs h_6 eh_6 hW hT hs => ?_)
  replace f_v3_4 := (hs.o (gv3.S hM) trivial rfl).1.trans f_v3_4
  replace f_2 := (hs.o (gx.S hM) trivial rfl).2.trans f_2
  replace af_qp : h_6.2.1 qp = pf := (funext fun j => (hs.a (gqp.S hM) rfl j).1).trans af_qp
  replace af_qd : h_6.2.1 qd = df := (funext fun j => (hs.a (gqd.S hM) rfl j).1).trans af_qd
  replace hM := hM.tr (hs.mono (by decide))
  have f_7 : h_6.2.1 x 1 = i2 := by rw [eh_6]; exact hx_pi_at _ _ _ _
  refine lv_aload_n hx hb dX6_readAct_24 rfl (lv_at hl 0 rfl) ?_
  refine lv_iconst (v := 0) hx hb dX6_readAct_25 (by decide) ?_
  refine hx_puti hx hb hts hC_6 hown hW hT (hx_S.rf (M := [(6, 2)])) (gx.S hM) tt_6 2 (by decide) rfl kw_127 ⟨rfl, rfl, rfl⟩ rfl (x := (0 : Int32)) (by decide) rfl rfl rfl (List.mem_singleton.mpr rfl) dX6_readAct_26 (fun H locs h_8 eh_8 hW hT hs => ?_)
  replace f_v3_4 := (hs.o (gv3.S hM) trivial rfl).1.trans f_v3_4
  replace f_2 := (hs.o (gx.S hM) trivial rfl).2.trans f_2
  replace f_7 := (hs.o (gx.S hM) trivial rfl).1.trans f_7
  replace af_qp : h_8.2.1 qp = pf := (funext fun j => (hs.a (gqp.S hM) rfl j).1).trans af_qp
  replace af_qd : h_8.2.1 qd = df := (funext fun j => (hs.a (gqd.S hM) rfl j).1).trans af_qd
  replace hM := hM.tr (hs.mono (by decide))
  have f_9 : h_8.2.1 x 2 = (0 : Int32) := by rw [eh_8]; exact hx_pi_at _ _ _ _
  refine lv_aload_n hx hb dX6_readAct_29 rfl (lv_at hl 0 rfl) ?_
  refine lv_iconst (v := 0) hx hb dX6_readAct_30 (by decide) ?_
  refine hx_puti hx hb hts hC_6 hown hW hT (hx_S.rf (M := [(6, 3)])) (gx.S hM) tt_6 3 (by decide) rfl kw_128 ⟨rfl, rfl, rfl⟩ rfl (x := (0 : Int32)) (by decide) rfl rfl rfl (List.mem_singleton.mpr rfl) dX6_readAct_31 (fun H locs h_10 eh_10 hW hT hs => ?_)
  replace f_v3_4 := (hs.o (gv3.S hM) trivial rfl).1.trans f_v3_4
  replace f_2 := (hs.o (gx.S hM) trivial rfl).2.trans f_2
  replace f_7 := (hs.o (gx.S hM) trivial rfl).1.trans f_7
  replace f_9 := (hs.o (gx.S hM) trivial rfl).1.trans f_9
  replace af_qp : h_10.2.1 qp = pf := (funext fun j => (hs.a (gqp.S hM) rfl j).1).trans af_qp
  replace af_qd : h_10.2.1 qd = df := (funext fun j => (hs.a (gqd.S hM) rfl j).1).trans af_qd
  replace hM := hM.tr (hs.mono (by decide))
  have f_11 : h_10.2.1 x 3 = (0 : Int32) := by rw [eh_10]; exact hx_pi_at _ _ _ _
  refine lv_aload_n hx hb dX6_readAct_34 rfl (lv_at hl 0 rfl) ?_
  refine lv_iconst (v := 0) hx hb dX6_readAct_35 (by decide) ?_
  refine hx_puti hx hb hts hC_6 hown hW hT (hx_S.rf (M := [(6, 4)])) (gx.S hM) tt_6 4 (by decide) rfl kw_129 ⟨rfl, rfl, rfl⟩ rfl (x := (0 : Int32)) (by decide) rfl rfl rfl (List.mem_singleton.mpr rfl) dX6_readAct_36 (fun H locs h_12 eh_12 hW hT hs => ?_)
  replace f_v3_4 := (hs.o (gv3.S hM) trivial rfl).1.trans f_v3_4
  replace f_2 := (hs.o (gx.S hM) trivial rfl).2.trans f_2
  replace f_7 := (hs.o (gx.S hM) trivial rfl).1.trans f_7
  replace f_9 := (hs.o (gx.S hM) trivial rfl).1.trans f_9
  replace f_11 := (hs.o (gx.S hM) trivial rfl).1.trans f_11
  replace af_qp : h_12.2.1 qp = pf := (funext fun j => (hs.a (gqp.S hM) rfl j).1).trans af_qp
  replace af_qd : h_12.2.1 qd = df := (funext fun j => (hs.a (gqd.S hM) rfl j).1).trans af_qd
  replace hM := hM.tr (hs.mono (by decide))
  have f_13 : h_12.2.1 x 4 = (0 : Int32) := by rw [eh_12]; exact hx_pi_at _ _ _ _
  refine lv_aload_n hx hb dX6_readAct_39 rfl (lv_at hl 0 rfl) ?_
  refine lv_iconst (v := 0) hx hb dX6_readAct_40 (by decide) ?_
  refine hx_puti hx hb hts hC_6 hown hW hT (hx_S.rf (M := [(6, 5)])) (gx.S hM) tt_6 5 (by decide) rfl kw_130 ⟨rfl, rfl, rfl⟩ rfl (x := (0 : Int32)) (by decide) rfl rfl rfl (List.mem_singleton.mpr rfl) dX6_readAct_41 (fun H locs h_14 eh_14 hW hT hs => ?_)
  replace f_v3_4 := (hs.o (gv3.S hM) trivial rfl).1.trans f_v3_4
  replace f_2 := (hs.o (gx.S hM) trivial rfl).2.trans f_2
  replace f_7 := (hs.o (gx.S hM) trivial rfl).1.trans f_7
  replace f_9 := (hs.o (gx.S hM) trivial rfl).1.trans f_9
  replace f_11 := (hs.o (gx.S hM) trivial rfl).1.trans f_11
  replace f_13 := (hs.o (gx.S hM) trivial rfl).1.trans f_13
  replace af_qp : h_14.2.1 qp = pf := (funext fun j => (hs.a (gqp.S hM) rfl j).1).trans af_qp
  replace af_qd : h_14.2.1 qd = df := (funext fun j => (hs.a (gqd.S hM) rfl j).1).trans af_qd
  replace hM := hM.tr (hs.mono (by decide))
  have f_15 : h_14.2.1 x 5 = (0 : Int32) := by rw [eh_14]; exact hx_pi_at _ _ _ _
  refine lv_aload_n hx hb dX6_readAct_44 rfl (lv_at hl 0 rfl) ?_
  refine lv_aload_n hx hb dX6_readAct_45 rfl (lv_at hl 3 rfl) ?_
  refine hx_putr hx hb hts hC_6 hown hW hT (hx_S.rf (M := [(6, 6)])) (gx.S hM) tt_6 6 (by decide) rfl kw_131 ⟨rfl, rfl, rfl⟩ rfl (x := (some v3)) ⟨fun _ z => (by cases z), fun q hq => (by cases hq; exact ⟨(gv3.S hM).1, by rw [(gv3.S hM).2]; decide⟩)⟩ rfl rfl rfl (List.mem_singleton.mpr rfl) dX6_readAct_46 (fun H locs h_16 eh_16 hW hT hs => ?_)
  replace f_v3_4 := (hs.o (gv3.S hM) trivial rfl).1.trans f_v3_4
  replace f_2 := (hs.o (gx.S hM) trivial rfl).2.trans f_2
  replace f_7 := (hs.o (gx.S hM) trivial rfl).1.trans f_7
  replace f_9 := (hs.o (gx.S hM) trivial rfl).1.trans f_9
  replace f_11 := (hs.o (gx.S hM) trivial rfl).1.trans f_11
  replace f_13 := (hs.o (gx.S hM) trivial rfl).1.trans f_13
  replace f_15 := (hs.o (gx.S hM) trivial rfl).1.trans f_15
  replace af_qp : h_16.2.1 qp = pf := (funext fun j => (hs.a (gqp.S hM) rfl j).1).trans af_qp
  replace af_qd : h_16.2.1 qd = df := (funext fun j => (hs.a (gqd.S hM) rfl j).1).trans af_qd
  replace hM := hM.tr (hs.mono (by decide))
  have f_17 : h_16.2.2 x 6 = (some v3) := by rw [eh_16]; exact hx_pr_at _ _ _ _
  refine lv_aload_n hx hb dX6_readAct_49 rfl (lv_at hl 0 rfl) ?_
  have zq_0 : (0 : Int32).toInt = 0 := by decide
  refine hx_gov (hx_runV (As := []) (rest := []) ⟨hx, hb, hml, hown, hts⟩ hW (gx.S hM) tt_6 (T := TX6) (N := 7) rfl (t_X6_skipBlanks_v l dC dI dA L h_16 H.size x hT (gx.S hM) v1 (gv1.S hM) f_2 tf (hx_afS hM gv1 rfl af_v1) (0 : Int32) f_9 i2 f_7 (by omega)) (cwV 0 hts (hx_gV kw_458 kw_455 kw_457 kw_1 kw_95) rfl rfl rfl (by decide +kernel) ⟨Nat.le_of_ble_eq_true rfl, Nat.le_of_ble_eq_true rfl⟩) rfl hl.1 rfl (Nat.le_of_ble_eq_true rfl) dX6_readAct_50 ⟨Nat.le_of_ble_eq_true rfl, Nat.le_of_ble_eq_true rfl⟩) hW (fun L_18 h_19 H locs p_21 hW => ?_)
  obtain ⟨⟨w_23, fw_23, hr_22⟩, hT, hs⟩ := p_21
  replace hT : hx_T T_tb L_18 h_19 := hT
  replace hs : hx_S T_tb [(6, 2)] L h_16 L_18 h_19 := hs
  replace f_v3_4 := (hs.o (gv3.S hM) trivial rfl).1.trans f_v3_4
  replace f_2 := (hs.o (gx.S hM) trivial rfl).2.trans f_2
  replace f_7 := (hs.o (gx.S hM) trivial rfl).1.trans f_7
  replace f_11 := (hs.o (gx.S hM) trivial rfl).1.trans f_11
  replace f_13 := (hs.o (gx.S hM) trivial rfl).1.trans f_13
  replace f_15 := (hs.o (gx.S hM) trivial rfl).1.trans f_15
  replace f_17 := (hs.o (gx.S hM) trivial rfl).2.trans f_17
  replace af_qp : h_19.2.1 qp = pf := (funext fun j => (hs.a (gqp.S hM) rfl j).1).trans af_qp
  replace af_qd : h_19.2.1 qd = df := (funext fun j => (hs.a (gqd.S hM) rfl j).1).trans af_qd
  replace hM := hM.tr (hs.mono (by decide))
  have fw_23 : h_19.2.1 x 2 = w_23 := fw_23
  have bw_23 := hT.gi (gx.S hM) tt_6 (k := 2) rfl
  rw [fw_23] at bw_23
  have bw_23 : 0 ≤ w_23.toInt ∧ w_23.toInt ≤ 402 := bw_23
  have ek_24 : w_23.toInt.toNat = hv_sk tf i2.toInt.toNat (0 : Int32).toInt.toNat := by omega
  have ez : (0 : Int32).toInt.toNat = 0 := by decide
  rw [ez] at ek_24
  refine lv_aload_n hx hb dX6_readAct_53 rfl (lv_at hl 0 rfl) ?_
  refine hk_geti hx hb hts hC_6 hown hW (gx.S hM) tt_6 2 (by decide) rfl kw_127 ⟨rfl, rfl, rfl⟩ fw_23 dX6_readAct_54 ?_
  refine lv_aload_n hx hb dX6_readAct_57 rfl (lv_at hl 0 rfl) ?_
  refine hk_geti hx hb hts hC_6 hown hW (gx.S hM) tt_6 1 (by decide) rfl kw_126 ⟨rfl, rfl, rfl⟩ f_7 dX6_readAct_58 ?_
  refine hb_icmp_ge (zx := w_23.toInt) (zy := i2.toInt) (tgt := 68) hx hb rfl rfl dX6_readAct_61 (by decide) (fun c_25 => ?_) (fun c_25 => ?_)
  · skip
    refine lv_iconst (v := 0) hx hb dX6_readAct_68 (by decide) ?_
    refine lv_istore (lv' := [(4, .int (0 : Int32)), (0, .ref x), (1, .ref v1), (2, .int i2), (3, .ref v3)]) hx hb dX6_readAct_69 hl (by decide) rfl (fun ls hl => ?_)
    refine lv_iconst (v := 0) hx hb dX6_readAct_71 (by decide) ?_
    refine lv_istore (lv' := [(5, .int (0 : Int32)), (4, .int (0 : Int32)), (0, .ref x), (1, .ref v1), (2, .int i2), (3, .ref v3)]) hx hb dX6_readAct_72 hl (by decide) rfl (fun ls hl => ?_)
    have loop74 : ∀ (n74 : Nat) (iv74_4 iv74_5 fw74_x_2 fw74_x_3 fw74_x_4 fw74_x_5 fw74_v3_4 : Int32) (ia74_qp ia74_qd : Nat → Int32) (H : Heap) (locs : List Loc) (hL1 : List Nat) (hl1 : hx_h), 0 ≤ iv74_4.toInt → iv74_4.toInt ≤ 1 → 0 ≤ iv74_5.toInt → iv74_5.toInt ≤ 401 → 0 ≤ fw74_x_2.toInt → fw74_x_2.toInt ≤ 402 → -2147483648 ≤ fw74_x_3.toInt → fw74_x_3.toInt ≤ 2147483647 → -2147483648 ≤ fw74_x_4.toInt → fw74_x_4.toInt ≤ 2147483647 → -2147483648 ≤ fw74_x_5.toInt → fw74_x_5.toInt ≤ 2147483647 → 0 ≤ fw74_v3_4.toInt → fw74_v3_4.toInt ≤ 160 → (hv_AI hv_cc tf i2.toInt.toNat (hv_ACT tf i2.toInt.toNat (hv_rC df) o) iv74_4.toInt (fw74_x_3.toInt) (fw74_x_2.toInt) (fw74_x_5.toInt) iv74_5.toInt (hv_sC fw74_x_4) (hv_rC ia74_qd) (hv_ls ia74_qp (fw74_v3_4.toInt).toNat)) → ∀ (ls : Array Slot), 401 - iv74_5.toInt < (n74 : Int) → hx_W T_tb (P_ty dA) (dC, dI) vwCl (hx_A L sz) s.heap hL1 hl1 s H locs → hx_T T_tb hL1 hl1 → hx_S T_tb [(6, 0), (6, 1), (6, 2), (6, 3), (6, 4), (6, 5), (6, 6), (127, 0), (128, 0), (129, 4)] L h hL1 hl1 → hl1.2.1 x 2 = fw74_x_2 → hl1.2.1 x 3 = fw74_x_3 → hl1.2.1 x 4 = fw74_x_4 → hl1.2.1 x 5 = fw74_x_5 → hl1.2.1 v3 4 = fw74_v3_4 → hl1.2.2 x 0 = some v1 → hl1.2.1 x 1 = i2 → hl1.2.2 x 6 = some v3 → hl1.2.1 qp = ia74_qp → hl1.2.1 qd = ia74_qd → lv_has ls 6 [(5, .int iv74_5), (4, .int iv74_4), (0, .ref x), (1, .ref v1), (2, .int i2), (3, .ref v3)] → W p l e ({ frames := 26, cells := 0, slots := 0, locals := 594 }) s m ([.ref x, .ref v1, .int i2, .ref v3] : List Value).toArray below meth c H locs 0 0 (MQ below (va_Qi (fun (r : Int32) (u : List Nat × hx_h) => (∃ (pl1 : Int32) (pf1 : Nat → Int32) (df1 : Nat → Int32), u.2.2.1 v3 4 = pl1 ∧ u.2.2.1 qp = pf1 ∧ u.2.2.1 qd = df1 ∧ (hv_AR hv_cc (hv_ACT tf i2.toInt.toNat (hv_rC df) o) r.toInt (hv_rC df1) (hv_ls pf1 pl1.toInt.toNat))) ∧ hx_T T_tb u.1 u.2 ∧ hx_S T_tb [(6, 0), (6, 1), (6, 2), (6, 3), (6, 4), (6, 5), (6, 6), (127, 0), (128, 0), (129, 4)] L h u.1 u.2) (hx_E T_tb (P_ty dA) (dC, dI) vwCl (hx_A L sz)) (hx_A L sz)) ([.ref x, .ref v1, .int i2, .ref v3] : List Value).toArray s 0 0 (hx_A L sz)) (F0 m 74 ls []) := by
      intro n74
      induction n74 with
      | zero => intro iv74_4 iv74_5 fw74_x_2 fw74_x_3 fw74_x_4 fw74_x_5 fw74_v3_4 ia74_qp ia74_qd H locs hL1 hl1 bliv74_4 buiv74_4 bliv74_5 buiv74_5 blfw74_x_2 bufw74_x_2 blfw74_x_3 bufw74_x_3 blfw74_x_4 bufw74_x_4 blfw74_x_5 bufw74_x_5 blfw74_v3_4 bufw74_v3_4 vi74_0 ls hn74; exfalso; omega
      | succ n74 ih74 =>
        intro iv74_4 iv74_5 fw74_x_2 fw74_x_3 fw74_x_4 fw74_x_5 fw74_v3_4 ia74_qp ia74_qd H locs hL1 hl1 bliv74_4 buiv74_4 bliv74_5 buiv74_5 blfw74_x_2 bufw74_x_2 blfw74_x_3 bufw74_x_3 blfw74_x_4 bufw74_x_4 blfw74_x_5 bufw74_x_5 blfw74_v3_4 bufw74_v3_4 vi74_0 ls hn74 hW hT hM ffw74_x_2 ffw74_x_3 ffw74_x_4 ffw74_x_5 ffw74_v3_4 f_2 f_7 f_17 nia74_qp nia74_qd hl
        refine lv_iload hx hb dX6_readAct_74 (lv_at hl 0 rfl) ?_
        refine lv_aload_n hx hb dX6_readAct_76 rfl (lv_at hl 2 rfl) ?_
        refine hk_geti hx hb hts hC_6 hown hW (gx.S hM) tt_6 1 (by decide) rfl kw_126 ⟨rfl, rfl, rfl⟩ f_7 dX6_readAct_77 ?_
        refine hb_icmp_gt (zx := iv74_5.toInt) (zy := i2.toInt) (tgt := 115) hx hb rfl rfl dX6_readAct_80 (by decide) (fun c_26 => ?_) (fun c_26 => ?_)
        · skip
          refine lv_aload_n hx hb dX6_readAct_115 rfl (lv_at hl 2 rfl) ?_
          refine hk_geti hx hb hts hC_6 hown hW (gx.S hM) tt_6 3 (by decide) rfl kw_128 ⟨rfl, rfl, rfl⟩ ffw74_x_3 dX6_readAct_116 ?_
          exact hx_reti hx hb hr hlk hW ⟨⟨fw74_v3_4, ia74_qp, ia74_qd, ffw74_v3_4, nia74_qp, nia74_qd, (hv_AI_e vi74_0 (by omega))⟩, hT, hM⟩ dX6_readAct_119
        · skip
          refine lv_iload hx hb dX6_readAct_83 (lv_at hl 1 rfl) ?_
          refine hb_if_eq (zx := iv74_4.toInt) (tgt := 115) hx hb rfl dX6_readAct_85 (by decide) (fun c_27 => ?_) (fun c_27 => ?_)
          · skip
            refine lv_aload_n hx hb dX6_readAct_115 rfl (lv_at hl 2 rfl) ?_
            refine hk_geti hx hb hts hC_6 hown hW (gx.S hM) tt_6 3 (by decide) rfl kw_128 ⟨rfl, rfl, rfl⟩ ffw74_x_3 dX6_readAct_116 ?_
            exact hx_reti hx hb hr hlk hW ⟨⟨fw74_v3_4, ia74_qp, ia74_qd, ffw74_v3_4, nia74_qp, nia74_qd, (hv_AI_e vi74_0 (by omega))⟩, hT, hM⟩ dX6_readAct_119
          · skip
            obtain ⟨hF7, hp7, hpn7, hi7, ht7, hTM7, o7, hO7, hg7⟩ := hv_AI_g vi74_0 (by omega)
            refine lv_aload_n hx hb dX6_readAct_88 rfl (lv_at hl 2 rfl) ?_
            refine hx_goi (hx_runVX (As := []) (rest := []) ⟨hx, hb, hml, hown, hts⟩ hW (gx.S hM) tt_6 (T := TX6) (N := 7) rfl (t_X6_readClause_v l dC dI dA hL1 hl1 H.size b0 x hT (gx.S hM) v1 (gv1.S hM) f_2 v3 (gv3.S hM) f_17 qp (gqp.S hM) ((hM.o gv3 trivial rfl).2.trans f_v3_3) qd (gqd.S hM) ((hM.o gv3 trivial rfl).2.trans f_v3_2) tf (hx_afS hM gv1 rfl af_v1) ia74_qp nia74_qp ia74_qd nia74_qd fw74_x_2 ffw74_x_2 i2 f_7 fw74_x_3 ffw74_x_3 fw74_x_5 ffw74_x_5 fw74_v3_4 ffw74_v3_4 fw74_x_4 ffw74_x_4 o7 hO7 (by omega) (by omega) ⟨by omega, by omega⟩ hTM7) hZ (cwV 0 hts (hx_gV kw_462 kw_459 kw_461 kw_2 kw_95) rfl rfl rfl (by decide +kernel) ⟨Nat.le_of_ble_eq_true rfl, Nat.le_of_ble_eq_true rfl⟩) rfl hl.1 rfl (Nat.le_of_ble_eq_true rfl) dX6_readAct_89 ⟨Nat.le_of_ble_eq_true rfl, Nat.le_of_ble_eq_true rfl⟩) hW (fun r_30 L_28 h_29 H locs p_31 hW => ?_)
            obtain ⟨⟨w_33, w_34, w_35, w_36, w_37, w_38, w_39, fw_33, fw_34, fw_35, fw_36, fw_37, fw_38, fw_39, hr_32⟩, hT, hs⟩ := p_31
            replace hT : hx_T T_tb L_28 h_29 := hT
            replace hs : hx_S T_tb [(6, 2), (6, 3), (6, 4), (6, 5), (127, 0), (128, 0), (129, 4)] hL1 hl1 L_28 h_29 := hs
            replace f_2 := (hs.o (gx.S hM) trivial rfl).2.trans f_2
            replace f_7 := (hs.o (gx.S hM) trivial rfl).1.trans f_7
            replace f_17 := (hs.o (gx.S hM) trivial rfl).2.trans f_17
            replace hM := hM.tr (hs.mono (by decide))
            have fw_33 : h_29.2.1 x 2 = w_33 := fw_33
            have bw_33 := hT.gi (gx.S hM) tt_6 (k := 2) rfl
            rw [fw_33] at bw_33
            have bw_33 : 0 ≤ w_33.toInt ∧ w_33.toInt ≤ 402 := bw_33
            have fw_34 : h_29.2.1 x 3 = w_34 := fw_34
            have bw_34 := hT.gi (gx.S hM) tt_6 (k := 3) rfl
            rw [fw_34] at bw_34
            have bw_34 : -2147483648 ≤ w_34.toInt ∧ w_34.toInt ≤ 2147483647 := bw_34
            have fw_35 : h_29.2.1 x 5 = w_35 := fw_35
            have bw_35 := hT.gi (gx.S hM) tt_6 (k := 5) rfl
            rw [fw_35] at bw_35
            have bw_35 : -2147483648 ≤ w_35.toInt ∧ w_35.toInt ≤ 2147483647 := bw_35
            have fw_36 : h_29.2.1 v3 4 = w_36 := fw_36
            have bw_36 := hT.gi (gv3.S hM) tt_129 (k := 4) rfl
            rw [fw_36] at bw_36
            have bw_36 : 0 ≤ w_36.toInt ∧ w_36.toInt ≤ 160 := bw_36
            have fw_37 : h_29.2.1 qp = w_37 := fw_37
            have fw_38 : h_29.2.1 x 4 = w_38 := fw_38
            have bw_38 := hT.gi (gx.S hM) tt_6 (k := 4) rfl
            rw [fw_38] at bw_38
            have bw_38 : -2147483648 ≤ w_38.toInt ∧ w_38.toInt ≤ 2147483647 := bw_38
            have fw_39 : h_29.2.1 qd = w_39 := fw_39
            have hr_32b := hv_CK_b hr_32.1
            refine hb_if_eq (zx := r_30.toInt) (tgt := 106) hx hb rfl dX6_readAct_92 (by decide) (fun c_40 => ?_) (fun c_40 => ?_)
            · skip
              refine lv_iconst (v := 0) hx hb dX6_readAct_106 (by decide) ?_
              refine lv_istore (lv' := [(4, .int (0 : Int32)), (5, .int iv74_5), (0, .ref x), (1, .ref v1), (2, .int i2), (3, .ref v3)]) hx hb dX6_readAct_107 hl (by decide) rfl (fun ls hl => ?_)
              obtain ⟨x_41, ex_41⟩ : ∃ y : Int32, y = iv74_5 + Int32.ofInt 1 := ⟨_, rfl⟩
              have rg_42 := i32_r iv74_5
              have zx_41 : x_41.toInt = iv74_5.toInt + (1) := by rw [ex_41]; exact i32_add rfl (by decide) (by omega) (by omega)
              refine lv_iinc (v := x_41) (lv' := [(5, .int x_41), (4, .int (0 : Int32)), (0, .ref x), (1, .ref v1), (2, .int i2), (3, .ref v3)]) hx hb dX6_readAct_109 hl (k := 1) rfl ex_41.symm (by decide) rfl (fun ls hl => ?_)
              refine lv_goto (tgt := 74) hx hb dX6_readAct_112 (by decide) ?_
              have zk_0 : (0 : Int32).toInt = 0 := by decide
              exact ih74 (0 : Int32) x_41 w_33 w_34 w_38 w_35 w_36 w_37 w_39 _ _ L_28 h_29 (by decide) (by decide) (by omega) (by omega) (by omega) (by omega) (i32_r _).1 (i32_r _).2 (i32_r _).1 (i32_r _).2 (i32_r _).1 (i32_r _).2 (by omega) (by omega) (have h8 := hv_CK_0 hr_32.1 (by omega); Or.inr (Or.inr ⟨by decide, h8.1, hg7.trans (hv_AL_1 h8.2)⟩)) ls (by omega) hW hT hM fw_33 fw_34 fw_38 fw_35 fw_36 f_2 f_7 f_17 fw_37 fw_39 (lv_sub hl [0, 1, 2, 3, 4, 5] rfl)
            · skip
              have hc8 := hr_32.2 (by omega)
              obtain ⟨hF8, hp8, o8, hO8, hE8⟩ := hv_CK_1 hr_32.1 (by omega)
              refine lv_aload_n hx hb dX6_readAct_95 rfl (lv_at hl 2 rfl) ?_
              refine hx_goi (hx_runV (As := []) (rest := []) ⟨hx, hb, hml, hown, hts⟩ hW (gx.S hM) tt_6 (T := TX6) (N := 7) rfl (t_X6_isAnotherClause_v l dC dI dA L_28 h_29 H.size x hT (gx.S hM) v1 (gv1.S hM) f_2 tf (hx_afS hM gv1 rfl af_v1) w_33 fw_33 i2 f_7 w_34 fw_34 (by omega)) (cwV 0 hts (hx_gV kw_589 kw_586 kw_588 kw_18 kw_95) rfl rfl rfl (by decide +kernel) ⟨Nat.le_of_ble_eq_true rfl, Nat.le_of_ble_eq_true rfl⟩) rfl hl.1 rfl (Nat.le_of_ble_eq_true rfl) dX6_readAct_96 ⟨Nat.le_of_ble_eq_true rfl, Nat.le_of_ble_eq_true rfl⟩) hW (fun r_45 L_43 h_44 H locs p_46 hW => ?_)
              obtain ⟨⟨w_48, w_49, fw_48, fw_49, hr_47⟩, hT, hs⟩ := p_46
              replace hT : hx_T T_tb L_43 h_44 := hT
              replace hs : hx_S T_tb [(6, 2), (6, 3)] L_28 h_29 L_43 h_44 := hs
              replace f_2 := (hs.o (gx.S hM) trivial rfl).2.trans f_2
              replace f_7 := (hs.o (gx.S hM) trivial rfl).1.trans f_7
              replace f_17 := (hs.o (gx.S hM) trivial rfl).2.trans f_17
              replace fw_35 := (hs.o (gx.S hM) trivial rfl).1.trans fw_35
              replace fw_36 := (hs.o (gv3.S hM) trivial rfl).1.trans fw_36
              replace fw_38 := (hs.o (gx.S hM) trivial rfl).1.trans fw_38
              replace fw_37 : h_44.2.1 qp = w_37 := (funext fun j => (hs.a (gqp.S hM) rfl j).1).trans fw_37
              replace fw_39 : h_44.2.1 qd = w_39 := (funext fun j => (hs.a (gqd.S hM) rfl j).1).trans fw_39
              replace hM := hM.tr (hs.mono (by decide))
              have fw_48 : h_44.2.1 x 2 = w_48 := fw_48
              have bw_48 := hT.gi (gx.S hM) tt_6 (k := 2) rfl
              rw [fw_48] at bw_48
              have bw_48 : 0 ≤ w_48.toInt ∧ w_48.toInt ≤ 402 := bw_48
              have fw_49 : h_44.2.1 x 3 = w_49 := fw_49
              have bw_49 := hT.gi (gx.S hM) tt_6 (k := 3) rfl
              rw [fw_49] at bw_49
              have bw_49 : -2147483648 ≤ w_49.toInt ∧ w_49.toInt ≤ 2147483647 := bw_49
              have hr_47g := hv_sk_ge (T := tf) (n := i2.toInt.toNat) (p := w_33.toInt.toNat)
              refine hb_if_eq (zx := r_45.toInt) (tgt := 106) hx hb rfl dX6_readAct_99 (by decide) (fun c_50 => ?_) (fun c_50 => ?_)
              · skip
                refine lv_iconst (v := 0) hx hb dX6_readAct_106 (by decide) ?_
                refine lv_istore (lv' := [(4, .int (0 : Int32)), (5, .int iv74_5), (0, .ref x), (1, .ref v1), (2, .int i2), (3, .ref v3)]) hx hb dX6_readAct_107 hl (by decide) rfl (fun ls hl => ?_)
                obtain ⟨x_51, ex_51⟩ : ∃ y : Int32, y = iv74_5 + Int32.ofInt 1 := ⟨_, rfl⟩
                have rg_52 := i32_r iv74_5
                have zx_51 : x_51.toInt = iv74_5.toInt + (1) := by rw [ex_51]; exact i32_add rfl (by decide) (by omega) (by omega)
                refine lv_iinc (v := x_51) (lv' := [(5, .int x_51), (4, .int (0 : Int32)), (0, .ref x), (1, .ref v1), (2, .int i2), (3, .ref v3)]) hx hb dX6_readAct_109 hl (k := 1) rfl ex_51.symm (by decide) rfl (fun ls hl => ?_)
                refine lv_goto (tgt := 74) hx hb dX6_readAct_112 (by decide) ?_
                have zk_0 : (0 : Int32).toInt = 0 := by decide
                exact ih74 (0 : Int32) x_51 w_48 w_49 w_38 w_35 w_36 w_37 w_39 _ _ L_43 h_44 (by decide) (by decide) (by omega) (by omega) (by omega) (by omega) (i32_r _).1 (i32_r _).2 (i32_r _).1 (i32_r _).2 (i32_r _).1 (i32_r _).2 (by omega) (by omega) (by rcases hr_47 with z | ⟨_, ⟨z1, z2⟩ | ⟨z1, z2, z3⟩⟩; (exfalso; omega); exact Or.inr (Or.inl ⟨by decide, (by rw [z2]; exact hF8), _, _, o8, hO8, hg7.trans (Eq.trans (hv_AL_2 hE8 z1) rfl)⟩); exact Or.inr (Or.inr ⟨by decide, by omega, hg7.trans ((hv_AL_3 hE8 z1 z2).trans (by rw [z3, Int.toNat_natCast]))⟩)) ls (by omega) hW hT hM fw_48 fw_49 fw_38 fw_35 fw_36 f_2 f_7 f_17 fw_37 fw_39 (lv_sub hl [0, 1, 2, 3, 4, 5] rfl)
              · skip
                refine lv_iconst (v := 1) hx hb dX6_readAct_102 (by decide) ?_
                refine lv_goto (tgt := 107) hx hb dX6_readAct_103 (by decide) ?_
                refine lv_istore (lv' := [(4, .int (1 : Int32)), (5, .int iv74_5), (0, .ref x), (1, .ref v1), (2, .int i2), (3, .ref v3)]) hx hb dX6_readAct_107 hl (by decide) rfl (fun ls hl => ?_)
                obtain ⟨x_53, ex_53⟩ : ∃ y : Int32, y = iv74_5 + Int32.ofInt 1 := ⟨_, rfl⟩
                have rg_54 := i32_r iv74_5
                have zx_53 : x_53.toInt = iv74_5.toInt + (1) := by rw [ex_53]; exact i32_add rfl (by decide) (by omega) (by omega)
                refine lv_iinc (v := x_53) (lv' := [(5, .int x_53), (4, .int (1 : Int32)), (0, .ref x), (1, .ref v1), (2, .int i2), (3, .ref v3)]) hx hb dX6_readAct_109 hl (k := 1) rfl ex_53.symm (by decide) rfl (fun ls hl => ?_)
                refine lv_goto (tgt := 74) hx hb dX6_readAct_112 (by decide) ?_
                have zk_1 : (1 : Int32).toInt = 1 := by decide
                exact ih74 (1 : Int32) x_53 w_48 w_49 w_38 w_35 w_36 w_37 w_39 _ _ L_43 h_44 (by decide) (by decide) (by omega) (by omega) (by omega) (by omega) (i32_r _).1 (i32_r _).2 (i32_r _).1 (i32_r _).2 (i32_r _).1 (i32_r _).2 (by omega) (by omega) (Or.inl ⟨by decide, (by rcases hr_47 with z | z; (rw [z.2.1]; exact hF8); exfalso; omega), by omega, by omega, by omega, ⟨by omega, by omega⟩, hc8.2.2.2.2, o8, hO8, hg7.trans ((hv_AL_4 hE8 (by rcases hr_47 with z | z; exact z.2.2.1; exfalso; omega) (by rcases hr_47 with z | z; exact z.2.2.2.1; exfalso; omega)).trans (by rw [show w_48.toInt.toNat = hv_sk tf i2.toInt.toNat w_33.toInt.toNat + 1 by omega]))⟩) ls (by omega) hW hT hM fw_48 fw_49 fw_38 fw_35 fw_36 f_2 f_7 f_17 fw_37 fw_39 (lv_sub hl [0, 1, 2, 3, 4, 5] rfl)
    have zk_0 : (0 : Int32).toInt = 0 := by decide
    have zk_0 : (0 : Int32).toInt = 0 := by decide
    have zk_0 : (0 : Int32).toInt = 0 := by decide
    have zk_0 : (0 : Int32).toInt = 0 := by decide
    have zk_0 : (0 : Int32).toInt = 0 := by decide
    exact loop74 402 (0 : Int32) (0 : Int32) w_23 (0 : Int32) (0 : Int32) (0 : Int32) pl0 pf df _ _ L_18 h_19 (by decide) (by decide) (by decide) (by decide) (by omega) (by omega) (by decide) (by decide) (by decide) (by decide) (by decide) (by decide) (by omega) (by omega) (Or.inr (Or.inl ⟨by decide, by decide, _, _, o, hO, if_neg (by rw [← ek_24]; omega)⟩)) ls (by omega) hW hT hM fw_23 f_11 f_13 f_15 f_v3_4 f_2 f_7 f_17 af_qp af_qd hl
  · skip
    refine lv_iconst (v := 1) hx hb dX6_readAct_64 (by decide) ?_
    refine lv_goto (tgt := 69) hx hb dX6_readAct_65 (by decide) ?_
    refine lv_istore (lv' := [(4, .int (1 : Int32)), (0, .ref x), (1, .ref v1), (2, .int i2), (3, .ref v3)]) hx hb dX6_readAct_69 hl (by decide) rfl (fun ls hl => ?_)
    refine lv_iconst (v := 0) hx hb dX6_readAct_71 (by decide) ?_
    refine lv_istore (lv' := [(5, .int (0 : Int32)), (4, .int (1 : Int32)), (0, .ref x), (1, .ref v1), (2, .int i2), (3, .ref v3)]) hx hb dX6_readAct_72 hl (by decide) rfl (fun ls hl => ?_)
    have loop74 : ∀ (n74 : Nat) (iv74_4 iv74_5 fw74_x_2 fw74_x_3 fw74_x_4 fw74_x_5 fw74_v3_4 : Int32) (ia74_qp ia74_qd : Nat → Int32) (H : Heap) (locs : List Loc) (hL1 : List Nat) (hl1 : hx_h), 0 ≤ iv74_4.toInt → iv74_4.toInt ≤ 1 → 0 ≤ iv74_5.toInt → iv74_5.toInt ≤ 401 → 0 ≤ fw74_x_2.toInt → fw74_x_2.toInt ≤ 402 → -2147483648 ≤ fw74_x_3.toInt → fw74_x_3.toInt ≤ 2147483647 → -2147483648 ≤ fw74_x_4.toInt → fw74_x_4.toInt ≤ 2147483647 → -2147483648 ≤ fw74_x_5.toInt → fw74_x_5.toInt ≤ 2147483647 → 0 ≤ fw74_v3_4.toInt → fw74_v3_4.toInt ≤ 160 → (hv_AI hv_cc tf i2.toInt.toNat (hv_ACT tf i2.toInt.toNat (hv_rC df) o) iv74_4.toInt (fw74_x_3.toInt) (fw74_x_2.toInt) (fw74_x_5.toInt) iv74_5.toInt (hv_sC fw74_x_4) (hv_rC ia74_qd) (hv_ls ia74_qp (fw74_v3_4.toInt).toNat)) → ∀ (ls : Array Slot), 401 - iv74_5.toInt < (n74 : Int) → hx_W T_tb (P_ty dA) (dC, dI) vwCl (hx_A L sz) s.heap hL1 hl1 s H locs → hx_T T_tb hL1 hl1 → hx_S T_tb [(6, 0), (6, 1), (6, 2), (6, 3), (6, 4), (6, 5), (6, 6), (127, 0), (128, 0), (129, 4)] L h hL1 hl1 → hl1.2.1 x 2 = fw74_x_2 → hl1.2.1 x 3 = fw74_x_3 → hl1.2.1 x 4 = fw74_x_4 → hl1.2.1 x 5 = fw74_x_5 → hl1.2.1 v3 4 = fw74_v3_4 → hl1.2.2 x 0 = some v1 → hl1.2.1 x 1 = i2 → hl1.2.2 x 6 = some v3 → hl1.2.1 qp = ia74_qp → hl1.2.1 qd = ia74_qd → lv_has ls 6 [(5, .int iv74_5), (4, .int iv74_4), (0, .ref x), (1, .ref v1), (2, .int i2), (3, .ref v3)] → W p l e ({ frames := 26, cells := 0, slots := 0, locals := 594 }) s m ([.ref x, .ref v1, .int i2, .ref v3] : List Value).toArray below meth c H locs 0 0 (MQ below (va_Qi (fun (r : Int32) (u : List Nat × hx_h) => (∃ (pl1 : Int32) (pf1 : Nat → Int32) (df1 : Nat → Int32), u.2.2.1 v3 4 = pl1 ∧ u.2.2.1 qp = pf1 ∧ u.2.2.1 qd = df1 ∧ (hv_AR hv_cc (hv_ACT tf i2.toInt.toNat (hv_rC df) o) r.toInt (hv_rC df1) (hv_ls pf1 pl1.toInt.toNat))) ∧ hx_T T_tb u.1 u.2 ∧ hx_S T_tb [(6, 0), (6, 1), (6, 2), (6, 3), (6, 4), (6, 5), (6, 6), (127, 0), (128, 0), (129, 4)] L h u.1 u.2) (hx_E T_tb (P_ty dA) (dC, dI) vwCl (hx_A L sz)) (hx_A L sz)) ([.ref x, .ref v1, .int i2, .ref v3] : List Value).toArray s 0 0 (hx_A L sz)) (F0 m 74 ls []) := by
      intro n74
      induction n74 with
      | zero => intro iv74_4 iv74_5 fw74_x_2 fw74_x_3 fw74_x_4 fw74_x_5 fw74_v3_4 ia74_qp ia74_qd H locs hL1 hl1 bliv74_4 buiv74_4 bliv74_5 buiv74_5 blfw74_x_2 bufw74_x_2 blfw74_x_3 bufw74_x_3 blfw74_x_4 bufw74_x_4 blfw74_x_5 bufw74_x_5 blfw74_v3_4 bufw74_v3_4 vi74_0 ls hn74; exfalso; omega
      | succ n74 ih74 =>
        intro iv74_4 iv74_5 fw74_x_2 fw74_x_3 fw74_x_4 fw74_x_5 fw74_v3_4 ia74_qp ia74_qd H locs hL1 hl1 bliv74_4 buiv74_4 bliv74_5 buiv74_5 blfw74_x_2 bufw74_x_2 blfw74_x_3 bufw74_x_3 blfw74_x_4 bufw74_x_4 blfw74_x_5 bufw74_x_5 blfw74_v3_4 bufw74_v3_4 vi74_0 ls hn74 hW hT hM ffw74_x_2 ffw74_x_3 ffw74_x_4 ffw74_x_5 ffw74_v3_4 f_2 f_7 f_17 nia74_qp nia74_qd hl
        refine lv_iload hx hb dX6_readAct_74 (lv_at hl 0 rfl) ?_
        refine lv_aload_n hx hb dX6_readAct_76 rfl (lv_at hl 2 rfl) ?_
        refine hk_geti hx hb hts hC_6 hown hW (gx.S hM) tt_6 1 (by decide) rfl kw_126 ⟨rfl, rfl, rfl⟩ f_7 dX6_readAct_77 ?_
        refine hb_icmp_gt (zx := iv74_5.toInt) (zy := i2.toInt) (tgt := 115) hx hb rfl rfl dX6_readAct_80 (by decide) (fun c_55 => ?_) (fun c_55 => ?_)
        · skip
          refine lv_aload_n hx hb dX6_readAct_115 rfl (lv_at hl 2 rfl) ?_
          refine hk_geti hx hb hts hC_6 hown hW (gx.S hM) tt_6 3 (by decide) rfl kw_128 ⟨rfl, rfl, rfl⟩ ffw74_x_3 dX6_readAct_116 ?_
          exact hx_reti hx hb hr hlk hW ⟨⟨fw74_v3_4, ia74_qp, ia74_qd, ffw74_v3_4, nia74_qp, nia74_qd, (hv_AI_e vi74_0 (by omega))⟩, hT, hM⟩ dX6_readAct_119
        · skip
          refine lv_iload hx hb dX6_readAct_83 (lv_at hl 1 rfl) ?_
          refine hb_if_eq (zx := iv74_4.toInt) (tgt := 115) hx hb rfl dX6_readAct_85 (by decide) (fun c_56 => ?_) (fun c_56 => ?_)
          · skip
            refine lv_aload_n hx hb dX6_readAct_115 rfl (lv_at hl 2 rfl) ?_
            refine hk_geti hx hb hts hC_6 hown hW (gx.S hM) tt_6 3 (by decide) rfl kw_128 ⟨rfl, rfl, rfl⟩ ffw74_x_3 dX6_readAct_116 ?_
            exact hx_reti hx hb hr hlk hW ⟨⟨fw74_v3_4, ia74_qp, ia74_qd, ffw74_v3_4, nia74_qp, nia74_qd, (hv_AI_e vi74_0 (by omega))⟩, hT, hM⟩ dX6_readAct_119
          · skip
            obtain ⟨hF7, hp7, hpn7, hi7, ht7, hTM7, o7, hO7, hg7⟩ := hv_AI_g vi74_0 (by omega)
            refine lv_aload_n hx hb dX6_readAct_88 rfl (lv_at hl 2 rfl) ?_
            refine hx_goi (hx_runVX (As := []) (rest := []) ⟨hx, hb, hml, hown, hts⟩ hW (gx.S hM) tt_6 (T := TX6) (N := 7) rfl (t_X6_readClause_v l dC dI dA hL1 hl1 H.size b0 x hT (gx.S hM) v1 (gv1.S hM) f_2 v3 (gv3.S hM) f_17 qp (gqp.S hM) ((hM.o gv3 trivial rfl).2.trans f_v3_3) qd (gqd.S hM) ((hM.o gv3 trivial rfl).2.trans f_v3_2) tf (hx_afS hM gv1 rfl af_v1) ia74_qp nia74_qp ia74_qd nia74_qd fw74_x_2 ffw74_x_2 i2 f_7 fw74_x_3 ffw74_x_3 fw74_x_5 ffw74_x_5 fw74_v3_4 ffw74_v3_4 fw74_x_4 ffw74_x_4 o7 hO7 (by omega) (by omega) ⟨by omega, by omega⟩ hTM7) hZ (cwV 0 hts (hx_gV kw_462 kw_459 kw_461 kw_2 kw_95) rfl rfl rfl (by decide +kernel) ⟨Nat.le_of_ble_eq_true rfl, Nat.le_of_ble_eq_true rfl⟩) rfl hl.1 rfl (Nat.le_of_ble_eq_true rfl) dX6_readAct_89 ⟨Nat.le_of_ble_eq_true rfl, Nat.le_of_ble_eq_true rfl⟩) hW (fun r_59 L_57 h_58 H locs p_60 hW => ?_)
            obtain ⟨⟨w_62, w_63, w_64, w_65, w_66, w_67, w_68, fw_62, fw_63, fw_64, fw_65, fw_66, fw_67, fw_68, hr_61⟩, hT, hs⟩ := p_60
            replace hT : hx_T T_tb L_57 h_58 := hT
            replace hs : hx_S T_tb [(6, 2), (6, 3), (6, 4), (6, 5), (127, 0), (128, 0), (129, 4)] hL1 hl1 L_57 h_58 := hs
            replace f_2 := (hs.o (gx.S hM) trivial rfl).2.trans f_2
            replace f_7 := (hs.o (gx.S hM) trivial rfl).1.trans f_7
            replace f_17 := (hs.o (gx.S hM) trivial rfl).2.trans f_17
            replace hM := hM.tr (hs.mono (by decide))
            have fw_62 : h_58.2.1 x 2 = w_62 := fw_62
            have bw_62 := hT.gi (gx.S hM) tt_6 (k := 2) rfl
            rw [fw_62] at bw_62
            have bw_62 : 0 ≤ w_62.toInt ∧ w_62.toInt ≤ 402 := bw_62
            have fw_63 : h_58.2.1 x 3 = w_63 := fw_63
            have bw_63 := hT.gi (gx.S hM) tt_6 (k := 3) rfl
            rw [fw_63] at bw_63
            have bw_63 : -2147483648 ≤ w_63.toInt ∧ w_63.toInt ≤ 2147483647 := bw_63
            have fw_64 : h_58.2.1 x 5 = w_64 := fw_64
            have bw_64 := hT.gi (gx.S hM) tt_6 (k := 5) rfl
            rw [fw_64] at bw_64
            have bw_64 : -2147483648 ≤ w_64.toInt ∧ w_64.toInt ≤ 2147483647 := bw_64
            have fw_65 : h_58.2.1 v3 4 = w_65 := fw_65
            have bw_65 := hT.gi (gv3.S hM) tt_129 (k := 4) rfl
            rw [fw_65] at bw_65
            have bw_65 : 0 ≤ w_65.toInt ∧ w_65.toInt ≤ 160 := bw_65
            have fw_66 : h_58.2.1 qp = w_66 := fw_66
            have fw_67 : h_58.2.1 x 4 = w_67 := fw_67
            have bw_67 := hT.gi (gx.S hM) tt_6 (k := 4) rfl
            rw [fw_67] at bw_67
            have bw_67 : -2147483648 ≤ w_67.toInt ∧ w_67.toInt ≤ 2147483647 := bw_67
            have fw_68 : h_58.2.1 qd = w_68 := fw_68
            have hr_61b := hv_CK_b hr_61.1
            refine hb_if_eq (zx := r_59.toInt) (tgt := 106) hx hb rfl dX6_readAct_92 (by decide) (fun c_69 => ?_) (fun c_69 => ?_)
            · skip
              refine lv_iconst (v := 0) hx hb dX6_readAct_106 (by decide) ?_
              refine lv_istore (lv' := [(4, .int (0 : Int32)), (5, .int iv74_5), (0, .ref x), (1, .ref v1), (2, .int i2), (3, .ref v3)]) hx hb dX6_readAct_107 hl (by decide) rfl (fun ls hl => ?_)
              obtain ⟨x_70, ex_70⟩ : ∃ y : Int32, y = iv74_5 + Int32.ofInt 1 := ⟨_, rfl⟩
              have rg_71 := i32_r iv74_5
              have zx_70 : x_70.toInt = iv74_5.toInt + (1) := by rw [ex_70]; exact i32_add rfl (by decide) (by omega) (by omega)
              refine lv_iinc (v := x_70) (lv' := [(5, .int x_70), (4, .int (0 : Int32)), (0, .ref x), (1, .ref v1), (2, .int i2), (3, .ref v3)]) hx hb dX6_readAct_109 hl (k := 1) rfl ex_70.symm (by decide) rfl (fun ls hl => ?_)
              refine lv_goto (tgt := 74) hx hb dX6_readAct_112 (by decide) ?_
              have zk_0 : (0 : Int32).toInt = 0 := by decide
              exact ih74 (0 : Int32) x_70 w_62 w_63 w_67 w_64 w_65 w_66 w_68 _ _ L_57 h_58 (by decide) (by decide) (by omega) (by omega) (by omega) (by omega) (i32_r _).1 (i32_r _).2 (i32_r _).1 (i32_r _).2 (i32_r _).1 (i32_r _).2 (by omega) (by omega) (have h8 := hv_CK_0 hr_61.1 (by omega); Or.inr (Or.inr ⟨by decide, h8.1, hg7.trans (hv_AL_1 h8.2)⟩)) ls (by omega) hW hT hM fw_62 fw_63 fw_67 fw_64 fw_65 f_2 f_7 f_17 fw_66 fw_68 (lv_sub hl [0, 1, 2, 3, 4, 5] rfl)
            · skip
              have hc8 := hr_61.2 (by omega)
              obtain ⟨hF8, hp8, o8, hO8, hE8⟩ := hv_CK_1 hr_61.1 (by omega)
              refine lv_aload_n hx hb dX6_readAct_95 rfl (lv_at hl 2 rfl) ?_
              refine hx_goi (hx_runV (As := []) (rest := []) ⟨hx, hb, hml, hown, hts⟩ hW (gx.S hM) tt_6 (T := TX6) (N := 7) rfl (t_X6_isAnotherClause_v l dC dI dA L_57 h_58 H.size x hT (gx.S hM) v1 (gv1.S hM) f_2 tf (hx_afS hM gv1 rfl af_v1) w_62 fw_62 i2 f_7 w_63 fw_63 (by omega)) (cwV 0 hts (hx_gV kw_589 kw_586 kw_588 kw_18 kw_95) rfl rfl rfl (by decide +kernel) ⟨Nat.le_of_ble_eq_true rfl, Nat.le_of_ble_eq_true rfl⟩) rfl hl.1 rfl (Nat.le_of_ble_eq_true rfl) dX6_readAct_96 ⟨Nat.le_of_ble_eq_true rfl, Nat.le_of_ble_eq_true rfl⟩) hW (fun r_74 L_72 h_73 H locs p_75 hW => ?_)
              obtain ⟨⟨w_77, w_78, fw_77, fw_78, hr_76⟩, hT, hs⟩ := p_75
              replace hT : hx_T T_tb L_72 h_73 := hT
              replace hs : hx_S T_tb [(6, 2), (6, 3)] L_57 h_58 L_72 h_73 := hs
              replace f_2 := (hs.o (gx.S hM) trivial rfl).2.trans f_2
              replace f_7 := (hs.o (gx.S hM) trivial rfl).1.trans f_7
              replace f_17 := (hs.o (gx.S hM) trivial rfl).2.trans f_17
              replace fw_64 := (hs.o (gx.S hM) trivial rfl).1.trans fw_64
              replace fw_65 := (hs.o (gv3.S hM) trivial rfl).1.trans fw_65
              replace fw_67 := (hs.o (gx.S hM) trivial rfl).1.trans fw_67
              replace fw_66 : h_73.2.1 qp = w_66 := (funext fun j => (hs.a (gqp.S hM) rfl j).1).trans fw_66
              replace fw_68 : h_73.2.1 qd = w_68 := (funext fun j => (hs.a (gqd.S hM) rfl j).1).trans fw_68
              replace hM := hM.tr (hs.mono (by decide))
              have fw_77 : h_73.2.1 x 2 = w_77 := fw_77
              have bw_77 := hT.gi (gx.S hM) tt_6 (k := 2) rfl
              rw [fw_77] at bw_77
              have bw_77 : 0 ≤ w_77.toInt ∧ w_77.toInt ≤ 402 := bw_77
              have fw_78 : h_73.2.1 x 3 = w_78 := fw_78
              have bw_78 := hT.gi (gx.S hM) tt_6 (k := 3) rfl
              rw [fw_78] at bw_78
              have bw_78 : -2147483648 ≤ w_78.toInt ∧ w_78.toInt ≤ 2147483647 := bw_78
              have hr_76g := hv_sk_ge (T := tf) (n := i2.toInt.toNat) (p := w_62.toInt.toNat)
              refine hb_if_eq (zx := r_74.toInt) (tgt := 106) hx hb rfl dX6_readAct_99 (by decide) (fun c_79 => ?_) (fun c_79 => ?_)
              · skip
                refine lv_iconst (v := 0) hx hb dX6_readAct_106 (by decide) ?_
                refine lv_istore (lv' := [(4, .int (0 : Int32)), (5, .int iv74_5), (0, .ref x), (1, .ref v1), (2, .int i2), (3, .ref v3)]) hx hb dX6_readAct_107 hl (by decide) rfl (fun ls hl => ?_)
                obtain ⟨x_80, ex_80⟩ : ∃ y : Int32, y = iv74_5 + Int32.ofInt 1 := ⟨_, rfl⟩
                have rg_81 := i32_r iv74_5
                have zx_80 : x_80.toInt = iv74_5.toInt + (1) := by rw [ex_80]; exact i32_add rfl (by decide) (by omega) (by omega)
                refine lv_iinc (v := x_80) (lv' := [(5, .int x_80), (4, .int (0 : Int32)), (0, .ref x), (1, .ref v1), (2, .int i2), (3, .ref v3)]) hx hb dX6_readAct_109 hl (k := 1) rfl ex_80.symm (by decide) rfl (fun ls hl => ?_)
                refine lv_goto (tgt := 74) hx hb dX6_readAct_112 (by decide) ?_
                have zk_0 : (0 : Int32).toInt = 0 := by decide
                exact ih74 (0 : Int32) x_80 w_77 w_78 w_67 w_64 w_65 w_66 w_68 _ _ L_72 h_73 (by decide) (by decide) (by omega) (by omega) (by omega) (by omega) (i32_r _).1 (i32_r _).2 (i32_r _).1 (i32_r _).2 (i32_r _).1 (i32_r _).2 (by omega) (by omega) (by rcases hr_76 with z | ⟨_, ⟨z1, z2⟩ | ⟨z1, z2, z3⟩⟩; (exfalso; omega); exact Or.inr (Or.inl ⟨by decide, (by rw [z2]; exact hF8), _, _, o8, hO8, hg7.trans (Eq.trans (hv_AL_2 hE8 z1) rfl)⟩); exact Or.inr (Or.inr ⟨by decide, by omega, hg7.trans ((hv_AL_3 hE8 z1 z2).trans (by rw [z3, Int.toNat_natCast]))⟩)) ls (by omega) hW hT hM fw_77 fw_78 fw_67 fw_64 fw_65 f_2 f_7 f_17 fw_66 fw_68 (lv_sub hl [0, 1, 2, 3, 4, 5] rfl)
              · skip
                refine lv_iconst (v := 1) hx hb dX6_readAct_102 (by decide) ?_
                refine lv_goto (tgt := 107) hx hb dX6_readAct_103 (by decide) ?_
                refine lv_istore (lv' := [(4, .int (1 : Int32)), (5, .int iv74_5), (0, .ref x), (1, .ref v1), (2, .int i2), (3, .ref v3)]) hx hb dX6_readAct_107 hl (by decide) rfl (fun ls hl => ?_)
                obtain ⟨x_82, ex_82⟩ : ∃ y : Int32, y = iv74_5 + Int32.ofInt 1 := ⟨_, rfl⟩
                have rg_83 := i32_r iv74_5
                have zx_82 : x_82.toInt = iv74_5.toInt + (1) := by rw [ex_82]; exact i32_add rfl (by decide) (by omega) (by omega)
                refine lv_iinc (v := x_82) (lv' := [(5, .int x_82), (4, .int (1 : Int32)), (0, .ref x), (1, .ref v1), (2, .int i2), (3, .ref v3)]) hx hb dX6_readAct_109 hl (k := 1) rfl ex_82.symm (by decide) rfl (fun ls hl => ?_)
                refine lv_goto (tgt := 74) hx hb dX6_readAct_112 (by decide) ?_
                have zk_1 : (1 : Int32).toInt = 1 := by decide
                exact ih74 (1 : Int32) x_82 w_77 w_78 w_67 w_64 w_65 w_66 w_68 _ _ L_72 h_73 (by decide) (by decide) (by omega) (by omega) (by omega) (by omega) (i32_r _).1 (i32_r _).2 (i32_r _).1 (i32_r _).2 (i32_r _).1 (i32_r _).2 (by omega) (by omega) (Or.inl ⟨by decide, (by rcases hr_76 with z | z; (rw [z.2.1]; exact hF8); exfalso; omega), by omega, by omega, by omega, ⟨by omega, by omega⟩, hc8.2.2.2.2, o8, hO8, hg7.trans ((hv_AL_4 hE8 (by rcases hr_76 with z | z; exact z.2.2.1; exfalso; omega) (by rcases hr_76 with z | z; exact z.2.2.2.1; exfalso; omega)).trans (by rw [show w_77.toInt.toNat = hv_sk tf i2.toInt.toNat w_62.toInt.toNat + 1 by omega]))⟩) ls (by omega) hW hT hM fw_77 fw_78 fw_67 fw_64 fw_65 f_2 f_7 f_17 fw_66 fw_68 (lv_sub hl [0, 1, 2, 3, 4, 5] rfl)
    have zk_1 : (1 : Int32).toInt = 1 := by decide
    have zk_0 : (0 : Int32).toInt = 0 := by decide
    have zk_0 : (0 : Int32).toInt = 0 := by decide
    have zk_0 : (0 : Int32).toInt = 0 := by decide
    have zk_0 : (0 : Int32).toInt = 0 := by decide
    exact loop74 402 (1 : Int32) (0 : Int32) w_23 (0 : Int32) (0 : Int32) (0 : Int32) pl0 pf df _ _ L_18 h_19 (by decide) (by decide) (by decide) (by decide) (by omega) (by omega) (by decide) (by decide) (by decide) (by decide) (by decide) (by decide) (by omega) (by omega) (Or.inl ⟨by decide, by decide, by omega, by omega, by omega, ⟨by decide, by decide⟩, fun _ => by decide, o, hO, (by rw [hv_sC_0, ek_24]; exact if_pos (by rw [← ek_24]; omega))⟩) ls (by omega) hW hT hM fw_23 f_11 f_13 f_15 f_v3_4 f_2 f_7 f_17 af_qp af_qd hl
end
section
/-! THE REFERENCE'S READER: what its answers say -/
/-- the byte seen: none, or as it is where it is a sign -/
def hv_SE (T : Nat → Int32) (n r p : Int) : Prop := (r = -1 ∧ n ≤ p) ∨ (p < n ∧ ((0 ≤ (T p.toNat).toInt ∧ r = (T p.toNat).toInt) ∨ ((T p.toNat).toInt < 0 ∧ 128 ≤ r)))
theorem hv_a255t : ∀ k : Nat, k < 256 → (Int32.ofInt ((k : Int) - 128)).toInt = (k : Int) - 128 ∧ ((128 ≤ k ∧ ((Int32.ofInt ((k : Int) - 128)) &&& 255).toInt = (k : Int) - 128) ∨ (k < 128 ∧ 128 ≤ ((Int32.ofInt ((k : Int) - 128)) &&& 255).toInt)) := by decide +kernel
theorem hv_a255 {T : Nat → Int32} {y e i : Int32} (h : e = y &&& 255) (ay : y = T i.toNatClampNeg) (l : -128 ≤ y.toInt) (u : y.toInt ≤ 127) : (0 ≤ (T i.toInt.toNat).toInt ∧ e.toInt = (T i.toInt.toNat).toInt) ∨ ((T i.toInt.toNat).toInt < 0 ∧ 128 ≤ e.toInt) := by
  show (0 ≤ (T i.toNatClampNeg).toInt ∧ e.toInt = (T i.toNatClampNeg).toInt) ∨ ((T i.toNatClampNeg).toInt < 0 ∧ 128 ≤ e.toInt)
  rw [← ay]
  obtain ⟨h1, h2⟩ := hv_a255t (y.toInt + 128).toNat (by omega)
  have e1 : (((y.toInt + 128).toNat : Nat) : Int) - 128 = y.toInt := by omega
  rw [e1] at h1 h2
  have ey : y = Int32.ofInt y.toInt := Int32.toInt_inj.mp h1.symm
  rw [← ey, ← h] at h2
  rcases h2 with ⟨a, b⟩ | ⟨a, b⟩
  · exact Or.inl ⟨by omega, b⟩
  · exact Or.inr ⟨by omega, b⟩
section HVSE
variable {T : Nat → Int32} {n r p k : Int}
theorem hv_SE_y (h : hv_SE T n r p) (h0 : 0 ≤ k) (h1 : k < 128) (e : r = k) : p < n ∧ (T p.toNat).toInt = k := by
  rcases h with ⟨a, b⟩ | ⟨a, ⟨b, c⟩ | ⟨b, c⟩⟩
  · exfalso; omega
  · exact ⟨a, by omega⟩
  · exfalso; omega
theorem hv_SE_n (h : hv_SE T n r p) (e : r ≠ k) : ¬ (p < n ∧ (T p.toNat).toInt = k ∧ 0 ≤ k) := by
  rcases h with ⟨a, b⟩ | ⟨a, ⟨b, c⟩ | ⟨b, c⟩⟩
  · intro z; omega
  · intro z; omega
  · intro z; omega
theorem hv_SE_e (h : hv_SE T n r p) (e : r = -1) : n ≤ p := by
  rcases h with ⟨a, b⟩ | ⟨a, ⟨b, c⟩ | ⟨b, c⟩⟩
  · exact b
  · exfalso; omega
  · exfalso; omega
theorem hv_SE_s (h : hv_SE T n r p) (e : r ≠ -1) : p < n := by
  rcases h with ⟨a, b⟩ | ⟨a, _⟩
  · exfalso; omega
  · exact a
theorem hv_SE_d (h : hv_SE T n r p) (e : 48 ≤ r ∧ r ≤ 57) : p < n ∧ hv_dg T p.toNat = true := by
  rcases h with ⟨a, b⟩ | ⟨a, ⟨b, c⟩ | ⟨b, c⟩⟩
  · exfalso; omega
  · exact ⟨a, decide_eq_true (by omega)⟩
  · exfalso; omega
theorem hv_SE_nd (h : hv_SE T n r p) (e : r < 48 ∨ 57 < r) : p < n → hv_dg T p.toNat = false := by
  rcases h with ⟨a, b⟩ | ⟨a, ⟨b, c⟩ | ⟨b, c⟩⟩
  · intro z; exfalso; omega
  · intro z; exact decide_eq_false (by omega)
  · intro z; exact decide_eq_false (by omega)
end HVSE
theorem hv_sn_z {P : Nat → Bool} {i m : Int32} {a b : Int} (h0 : 0 ≤ i.toInt) (hn : i.toInt < m.toInt) (e : P i.toInt.toNat = true) (ha : a = i.toInt) (hb : b = a + 1) : hv_sn P m.toInt.toNat a.toNat = hv_sn P m.toInt.toNat b.toNat := by
  subst ha; subst hb
  rw [show (i.toInt + 1).toNat = i.toInt.toNat + 1 by omega]; exact hv_sn_s (by omega) e
theorem hv_sn_y {P : Nat → Bool} {i m : Int32} {a : Int} (h0 : 0 ≤ i.toInt) (ha : a = i.toInt) (h : i.toInt < m.toInt → P i.toInt.toNat = false) : ((hv_sn P m.toInt.toNat a.toNat : Nat) : Int) = a := by
  subst ha
  rw [hv_sn_e (fun z => h (by omega))]; omega
theorem hv_wlu : ∀ w, w < 25 → ∀ n, n < 8 → (∀ j, j < n → (P_words (7 * w + j)).toInt ≠ 0) → (n = 7 ∨ (P_words (7 * w + n)).toInt = 0) → n = (hv_wl.getD w []).length := by decide +kernel
theorem hv_wlv : ∀ w, w < 25 → ∀ i, i < (hv_wl.getD w []).length → (P_words (7 * w + i)).toInt = (hv_wl.getD w []).getD i 0 := by decide +kernel
theorem hv_wln {f : Nat → Int32} {w n : Int} (hf : hx_wd f) (h0 : 0 ≤ w) (h1 : w ≤ 24) (h2 : 0 ≤ n) (h3 : n ≤ 7) (hp : hx_wp f w n) (he : n = 7 ∨ (f (7 * w.toNat + n.toNat)).toInt = 0) : n = ((hv_wl.getD w.toNat []).length : Nat) := by
  have a := hv_wlu w.toNat (by omega) n.toNat (by omega) (fun j hj => by rw [← hf _ (by omega)]; exact hp j (by omega)) (by
    by_cases z : n = 7
    · exact Or.inl (by omega)
    · rcases he with he | he
      · exact absurd he z
      · rw [hf _ (by omega)] at he; exact Or.inr he)
  omega
/-- a word, compared letter by letter -/
def hv_SM (T W : Nat → Int32) (p ws w n k s : Int) : Prop := (s = 1 ∧ n = ws ∧ ∀ i : Nat, (i : Int) < k → (W (7 * w.toNat + i)).toInt = (T (p.toNat + i)).toInt) ∨ (s = 0 ∧ hv_tx T p.toNat ws.toNat ≠ hv_wl.getD w.toNat [])
section HVSM
variable {T W : Nat → Int32} {p ws w n k k1 s : Int}
theorem hv_SM_y (h : n = ws) (hk : k = 0) (hs : s = 1) : hv_SM T W p ws w n k s := Or.inl ⟨hs, h, fun i hi => by exfalso; omega⟩
theorem hv_SM_w (h : hv_SM T W p ws w n k s) (hs : s ≠ 0) : n = ws := by
  rcases h with ⟨_, a, _⟩ | ⟨a, _⟩
  · exact a
  · exfalso; omega
theorem hv_SM_l (hn : n = ((hv_wl.getD w.toNat []).length : Nat)) (h0 : 0 ≤ ws) (h : n ≠ ws) (hs : s = 0) : hv_SM T W p ws w n k s := Or.inr ⟨hs, fun e => by
  have h2 := congrArg List.length e
  rw [hv_tx_len] at h2
  omega⟩
theorem hv_SM_s (h : hv_SM T W p ws w n k 1) (h0 : 0 ≤ k) (e : (W (7 * w.toNat + k.toNat)).toInt = (T (p.toNat + k.toNat)).toInt) (hk : k1 = k + 1) (hs : s = 1) : hv_SM T W p ws w n k1 s := by
  rcases h with ⟨_, a, b⟩ | ⟨a, _⟩
  · refine Or.inl ⟨hs, a, fun i hi => ?_⟩
    rcases (show (i : Int) < k ∨ i = k.toNat by omega) with z | z
    · exact b i z
    · rw [z]; exact e
  · exfalso; omega
theorem hv_SM_x (hf : hx_wd W) (h0 : 0 ≤ w) (h1 : w ≤ 24) (hn : n = ((hv_wl.getD w.toNat []).length : Nat)) (h : hv_SM T W p ws w n k 1) (k0 : 0 ≤ k) (kn : k < n) (e : (W (7 * w.toNat + k.toNat)).toInt ≠ (T (p.toNat + k.toNat)).toInt) (hs : s = 0) : hv_SM T W p ws w n k1 s := by
  rcases h with ⟨_, a, _⟩ | ⟨a, _⟩
  · refine Or.inr ⟨hs, fun c => e ?_⟩
    have hl := hv_ix_l w.toNat (by omega)
    have h2 := hv_wlv w.toNat (by omega) k.toNat (by omega)
    rw [hf _ (by omega), h2, ← c, hv_tx_get _ _ _ (by omega)]
  · exfalso; omega
theorem hv_SM_e (hf : hx_wd W) (h0 : 0 ≤ w) (h1 : w ≤ 24) (hn : n = ((hv_wl.getD w.toNat []).length : Nat)) (h : hv_SM T W p ws w n k s) (hs : s ≠ 0) (kn : n ≤ k) : hv_tx T p.toNat ws.toNat = hv_wl.getD w.toNat [] := by
  rcases h with ⟨_, a, b⟩ | ⟨a, _⟩
  · have hl := hv_ix_l w.toNat (by omega)
    have e : ws.toNat = (hv_wl.getD w.toNat []).length := by omega
    rw [e]
    refine hv_tx_eq _ _ (fun i hi => ?_)
    rw [← b i (by omega), hf _ (by omega), hv_wlv w.toNat (by omega) i hi]
  · exact absurd a hs
theorem hv_SM_n (h : hv_SM T W p ws w n k s) (hs : s = 0) : hv_tx T p.toNat ws.toNat ≠ hv_wl.getD w.toNat [] := by
  rcases h with ⟨a, _⟩ | ⟨_, b⟩
  · exfalso; omega
  · exact b
end HVSM
theorem hv_wd_i {T : Nat → Int32} {n p : Nat} {ws w : Int} (hw : hv_we T n p - p = ws.toNat) (h0 : 0 ≤ w) (h1 : w ≤ 24) (e : hv_tx T p ws.toNat = hv_wl.getD w.toNat []) : w = hv_wd T n p := by
  unfold hv_wd
  rw [hw, e, hv_ix_w _ (by omega)]
  omega
theorem hv_wd_o {T : Nat → Int32} {n p : Nat} {ws : Int} (hw : hv_we T n p - p = ws.toNat) (h : (∀ k : Nat, (k : Int) < 25 → hv_tx T p ws.toNat ≠ hv_wl.getD k []) ∨ 7 < ws) : hv_wd T n p = -1 := by
  unfold hv_wd
  rw [hw]
  rcases hv_ix_c (hv_tx T p ws.toNat) with ⟨a, _⟩ | ⟨k, a, b, c⟩
  · exact a
  · rcases h with h | h
    · exact absurd c (h k (by omega))
    · have h2 := congrArg List.length c
      rw [hv_tx_len] at h2
      have h3 := hv_ix_l k a
      exfalso; omega
/-- one more word that it isn't -/
theorem hv_wd_s {T : Nat → Int32} {p : Nat} {ws w w1 : Int} (h : ∀ k : Nat, (k : Int) < w → hv_tx T p ws.toNat ≠ hv_wl.getD k []) (h0 : 0 ≤ w) (hn : hv_tx T p ws.toNat ≠ hv_wl.getD w.toNat []) (e : w1 = w + 1) : ∀ k : Nat, (k : Int) < w1 → hv_tx T p ws.toNat ≠ hv_wl.getD k [] := fun k hk => by
  rcases (show (k : Int) < w ∨ k = w.toNat by omega) with z | z
  · exact h k z
  · rw [z]; exact hn
/-- what the reference answers of a NUMBER -/
def hv_M (sp : Nat ⊕ (Nat × Int)) (r ft p sd : Int) : Prop := (r = 1 ∧ ft = 0 ∧ 0 ≤ p ∧ sp = .inr (p.toNat, sd)) ∨ (r = 0 ∧ 1 ≤ ft ∧ sp = .inl ft.toNat)
section HVM
variable {sp : Nat ⊕ (Nat × Int)} {r ft p sd : Int}
theorem hv_M_1 (h : hv_M sp r ft p sd) (z : 1 ≤ r) : ft = 0 ∧ 0 ≤ p ∧ sp = .inr (p.toNat, sd) := by
  rcases h with ⟨_, w⟩ | ⟨a, _⟩
  · exact w
  · exfalso; omega
theorem hv_M_0 (h : hv_M sp r ft p sd) (z : r ≤ 0) : 1 ≤ ft ∧ sp = .inl ft.toNat := by
  rcases h with ⟨a, _⟩ | ⟨_, w⟩
  · exfalso; omega
  · exact w
theorem hv_M_b (h : hv_M sp r ft p sd) : r = 0 ∨ r = 1 := by
  rcases h with ⟨a, _⟩ | ⟨a, _⟩
  · exact Or.inr a
  · exact Or.inl a
end HVM
theorem hv_dvm_s {T : Nat → Int32} {a f : Int} {i x l v y k : Int32} (h : l.toInt = hv_dv T a.toNat (min k.toInt.toNat 4)) (h0 : 0 ≤ a) (h1 : 0 ≤ k.toInt) (hf : i.toInt = a + k.toInt) (h2 : k.toInt < 4) (hy : y = T i.toNatClampNeg) (hv : v.toInt = 10 * l.toInt + y.toInt - 48) (ex : x.toInt = k.toInt + 1) : v.toInt = hv_dv T a.toNat (min x.toInt.toNat 4) := by
  rw [show min k.toInt.toNat 4 = k.toInt.toNat by omega] at h
  rw [show min x.toInt.toNat 4 = k.toInt.toNat + 1 by omega]
  show v.toInt = 10 * hv_dv T a.toNat k.toInt.toNat + ((T (a.toNat + k.toInt.toNat)).toInt - 48)
  rw [← h, show a.toNat + k.toInt.toNat = i.toNatClampNeg by unfold Int32.toNatClampNeg; omega, ← hy]
  omega
theorem hv_dvm_k {T : Nat → Int32} {a : Nat} {l k x : Int32} (h : l.toInt = hv_dv T a (min k.toInt.toNat 4)) (h2 : 4 ≤ k.toInt) (ex : x.toInt = k.toInt + 1) : l.toInt = hv_dv T a (min x.toInt.toNat 4) := by
  rw [h]; congr 1; omega
end
section
/-! THE REFERENCE'S STACK -/
def hv_rc (t : hv_tok) : Int := if t.1 = 0 then (t.2.1 : Int) else 1000000 * t.1 + 100000 * (t.2.1 : Int) + t.2.2
theorem hv_dp_ls {f : Nat → Int32} : ∀ n, hv_dp (hv_ls f n) = hx_dp f n := by
  intro n
  induction n with
  | zero => rfl
  | succ n ih => show hv_dp (hv_ls f n) + _ = hx_dp f n + _; rw [ih]
theorem hv_ls_p {f f1 : Nat → Int32} {n n1 k : Nat} {v : Int32} {z : Int} (hk : k = n) (h1 : n1 = n + 1) (hv : v.toInt = z) (h2 : f1 = hx_up f k v) : hv_ls f1 n1 = z :: hv_ls f n := by
  subst hk; subst h1; subst h2; subst hv
  show (hx_up f k v k).toInt :: hv_ls (hx_up f k v) k = _
  rw [hx_up_at, hv_ls_c k (fun j hj => hx_up_ne (by omega))]
theorem hv_ls_t {f : Nat → Int32} {op : Int} {x i j : Int32} (h : 0 < op) (ex : x = f i.toNatClampNeg) (hi : i.toInt = op - 1) (hj : j.toInt = op - 1) : hv_ls f op.toNat = x.toInt :: hv_ls f j.toInt.toNat := by
  have e : op.toNat = i.toNatClampNeg + 1 := by unfold Int32.toNatClampNeg; omega
  have e2 : j.toInt.toNat = i.toNatClampNeg := by unfold Int32.toNatClampNeg; omega
  rw [e, e2, ex]; rfl
theorem hv_ls_0 {f : Nat → Int32} {op : Int} (h : op ≤ 0) : hv_ls f op.toNat = [] := by
  rw [show op.toNat = 0 by omega]; rfl
theorem hv_ls_n {f : Nat → Int32} {op : Int} (h : 0 < op) : hv_ls f op.toNat ≠ [] := by
  rw [show op.toNat = (op.toNat - 1) + 1 by omega]; intro z; cases z
section HVRN
variable {T : Nat → Int32} {n p t u : Nat} {o o1 : List hv_tok} {s s1 : List Int} {p1 t1 : Nat} {x : Nat} {w : Int} {a : Int} {low : Int}
theorem hv_rt_n (h : ¬ (3 ≤ hv_wd T n u ∧ hv_wd T n u ≤ 10)) (hu : hv_sk T n u = u) {g : Nat} : hv_rt T n w g u t o = hv_bd (hv_num T n u 0 9999) (fun q => .inr (q.1, t + 1, (w - 2, g, q.2) :: o)) := by
  unfold hv_rt hv_num
  rw [if_neg h, hu]
  by_cases d : u < n ∧ hv_dg T u = true
  · rw [if_pos d, if_pos d]
    by_cases c : hv_de T n u - u ≤ 4
    · have hb := hv_dv_b (T := T) (p := u) (hv_de T n u - u) (fun j h1 h2 => hv_sn_in (P := hv_dg T) (n := n) h1 (by show j < hv_de T n u; omega))
      have h4 : hv_dv T u (hv_de T n u - u) ≤ 9999 := by
        rcases (show hv_de T n u - u = 0 ∨ hv_de T n u - u = 1 ∨ hv_de T n u - u = 2 ∨ hv_de T n u - u = 3 ∨ hv_de T n u - u = 4 by omega) with z | z | z | z | z <;> (rw [z] at hb ⊢; have h5 := hb.2; simp at h5; omega)
      rw [if_pos c, if_pos ⟨c, hb.1, h4⟩]; rfl
    · rw [if_neg c, if_neg (fun z => c z.1)]; rfl
  · rw [if_neg d, if_neg d]; rfl
theorem hv_RN_t0 (h1 : hv_wd T n (hv_sk T n p) ≠ 2) (h2 : ¬ (hv_sk T n p < n ∧ (T (hv_sk T n p)).toInt = 40)) (hr : hv_term T n (hv_sk T n p) t o = .inl x) : hv_RN T n true p t o s = .inl x := by
  rw [hv_RN_1, if_neg h1, if_neg h2, hr]; rfl
theorem hv_RN_t1 (h1 : hv_wd T n (hv_sk T n p) ≠ 2) (h2 : ¬ (hv_sk T n p < n ∧ (T (hv_sk T n p)).toInt = 40)) (hr : hv_term T n (hv_sk T n p) t o = .inr (p1, t1, o1)) : hv_RN T n true p t o s = hv_RN T n false p1 t1 (hv_cn o1 s).1 (hv_cn o1 s).2 := by
  rw [hv_RN_1, if_neg h1, if_neg h2, hr]; rfl
theorem hv_RN_d (h : hv_wd T n (hv_sk T n p) = 2 ∨ (hv_sk T n p < n ∧ (T (hv_sk T n p)).toInt = 40)) (hd : hv_dp s = 8) : hv_RN T n true p t o s = .inl (4 + 8 * hv_sk T n p) := by
  rw [hv_RN_1]
  rcases h with h | h
  · rw [if_pos h, if_pos hd]
  · rw [if_pos h, if_pos hd]
    split <;> rfl
theorem hv_RN_n (h : hv_wd T n (hv_sk T n p) = 2) (hd : hv_dp s ≠ 8) : hv_RN T n true p t o s = hv_RN T n true (hv_sk T n p + 3) t o (2 :: s) := by
  rw [hv_RN_1 (p := p), if_pos h, if_neg hd]
theorem hv_RN_p (h : hv_wd T n (hv_sk T n p) ≠ 2) (h2 : hv_sk T n p < n ∧ (T (hv_sk T n p)).toInt = 40) (hd : hv_dp s ≠ 8) : hv_RN T n true p t o s = hv_RN T n true (hv_sk T n p + 1) t o (100 :: s) := by
  rw [hv_RN_1 (p := p), if_neg h, if_pos h2, if_neg hd]
theorem hv_wd_40 (h : (T p).toInt = 40) : hv_wd T n p = -1 := hv_wd_n (fun _ => by
  show decide _ = false
  exact decide_eq_false (fun z => by omega))
theorem hv_RN_a (h : hv_wd T n (hv_sk T n p) = w) (hw : w = 1 ∨ w = 0) (hc : hv_cd w o s = (o1, s1)) : hv_RN T n false p t o s = hv_RN T n true (hv_we T n (hv_sk T n p)) t o1 (w :: s1) := by
  subst h
  rw [hv_RN_0, if_pos hw, hc]
theorem hv_RN_c0 (h : hv_wd T n (hv_sk T n p) ≠ 1 ∧ hv_wd T n (hv_sk T n p) ≠ 0) (h2 : hv_sk T n p < n ∧ (T (hv_sk T n p)).toInt = 41) (hc : hv_cd 0 o s = (o1, [])) : hv_RN T n false p t o s = .inl (1 + 8 * hv_sk T n p) := by
  rw [hv_RN_0, if_neg (fun z => z.elim h.1 h.2), hc]
  unfold hv_shut
  rw [if_pos h2]
theorem hv_RN_c1 (h : hv_wd T n (hv_sk T n p) ≠ 1 ∧ hv_wd T n (hv_sk T n p) ≠ 0) (h2 : hv_sk T n p < n ∧ (T (hv_sk T n p)).toInt = 41) (hc : hv_cd 0 o s = (o1, a :: s1)) {q : List hv_tok × List Int} (hq : hv_cn o1 s1 = q) : hv_RN T n false p t o s = hv_RN T n false (hv_sk T n p + 1) t q.1 q.2 := by
  subst hq
  rw [hv_RN_0 (p := p), if_neg (fun z => z.elim h.1 h.2), hc]
  unfold hv_shut
  rw [if_pos h2]
theorem hv_RN_e0 (h : hv_wd T n (hv_sk T n p) ≠ 1 ∧ hv_wd T n (hv_sk T n p) ≠ 0) (h2 : ¬ (hv_sk T n p < n ∧ (T (hv_sk T n p)).toInt = 41)) (hc : hv_cd 0 o s = (o1, [])) : hv_RN T n false p t o s = .inr (hv_sk T n p, t, o1) := by
  rw [hv_RN_0, if_neg (fun z => z.elim h.1 h.2), hc]
  unfold hv_shut
  rw [if_neg h2, if_pos rfl]
theorem hv_RN_e1 (h : hv_wd T n (hv_sk T n p) ≠ 1 ∧ hv_wd T n (hv_sk T n p) ≠ 0) (h2 : ¬ (hv_sk T n p < n ∧ (T (hv_sk T n p)).toInt = 41)) (hc : hv_cd 0 o s = (o1, s1)) (hs : s1 ≠ []) : hv_RN T n false p t o s = .inl (1 + 8 * hv_sk T n p) := by
  rw [hv_RN_0, if_neg (fun z => z.elim h.1 h.2), hc]
  unfold hv_shut
  rw [if_neg h2, if_neg hs]
theorem hv_cn_2 (h : a = 2) : hv_cn o (a :: s) = hv_cn ((0, 2, 0) :: o) s := if_pos h
theorem hv_cn_n (h : a ≠ 2) : hv_cn o (a :: s) = (o, a :: s) := if_neg h
theorem hv_cd_y (h : a ≠ 100) (h2 : low ≤ a) : hv_cd low o (a :: s) = hv_cd low ((0, a.toNat, 0) :: o) s := if_pos ⟨h, h2⟩
theorem hv_cd_n (h : a = 100 ∨ a < low) : hv_cd low o (a :: s) = (o, a :: s) := if_neg (fun z => by omega)
end HVRN
/-- what begins() answers -/
def hv_BG (run : hv_R) (T : Nat → Int32) (n : Nat) (r ft p t : Int) (ls st : List Int) : Prop := (r = 1 ∧ ft = 0 ∧ 0 ≤ p ∧ 0 ≤ t ∧ ∃ o1, ls = o1.map hv_rc ∧ run = hv_RN T n false p.toNat t.toNat (hv_cn o1 st).1 (hv_cn o1 st).2) ∨ (r = 0 ∧ 1 ≤ ft ∧ run = .inl ft.toNat)
section HVBG
variable {run : hv_R} {T : Nat → Int32} {n : Nat} {r ft p t : Int} {ls st : List Int}
theorem hv_BG_1 (h : hv_BG run T n r ft p t ls st) (z : 1 ≤ r) : ft = 0 ∧ 0 ≤ p ∧ 0 ≤ t ∧ ∃ o1, ls = o1.map hv_rc ∧ run = hv_RN T n false p.toNat t.toNat (hv_cn o1 st).1 (hv_cn o1 st).2 := by
  rcases h with ⟨_, w⟩ | ⟨a, _⟩
  · exact w
  · exfalso; omega
theorem hv_BG_0 (h : hv_BG run T n r ft p t ls st) (z : r ≤ 0) : 1 ≤ ft ∧ run = .inl ft.toNat := by
  rcases h with ⟨a, _⟩ | ⟨_, w⟩
  · exfalso; omega
  · exact w
theorem hv_BG_K {sp : hv_R} (k : hv_K hv_rc sp r ft p t ls) (h0 : ∀ x, sp = .inl x → run = .inl x) (h1 : ∀ p1 t1 o1, sp = .inr (p1, t1, o1) → run = hv_RN T n false p1 t1 (hv_cn o1 st).1 (hv_cn o1 st).2) : hv_BG run T n r ft p t ls st := by
  rcases k with ⟨a, b, c, d, o1, e, f⟩ | ⟨a, b, c⟩
  · exact Or.inl ⟨a, b, c, d, o1, e, h1 _ _ _ f⟩
  · exact Or.inr ⟨a, b, h0 _ c⟩
theorem hv_BG_f {x : Nat} (hr : r = 0) (hf : ft = (x : Int)) (hx : 1 ≤ x) (h : run = .inl x) : hv_BG run T n r ft p t ls st := Or.inr ⟨hr, by omega, by rw [h, hf, Int.toNat_natCast]⟩
end HVBG
end
