section
set_option maxHeartbeats 4000000 in
set_option maxRecDepth 100000 in
theorem t_X5_clear_v (l : Launch) (dC : Nat → ClassId) (dI : Nat → Nat → Nat) (dA : Nat → ClassId) (L : List Nat) (h : hx_h) (sz : Nat) (x : Nat) (i1 : Int32) (i2 : Int32) (hT : hx_T T_tb L h) (gx : hx_g L h x 5)  : Met l yX5_clear (Cond.code yX5_clear cX5_clear 3 none :: hx_all) ({ frames := 0, cells := 0, slots := 0, locals := 0 }) (va_Pc [.ref x, .int i1, .int i2] (hx_B T_tb (P_ty dA) (dC, dI) vwCl L h sz)) (va_Qv (fun (u : List Nat × hx_h) => (∃ (o1 : Int32) (un1 : Int32) (me1 : Int32), u.2.2.1 x 0 = o1 ∧ u.2.2.1 x 9 = un1 ∧ u.2.2.1 x 10 = me1 ∧ (o1.toInt = 0 ∧ un1 = i1 ∧ me1 = i2)) ∧ hx_T T_tb u.1 u.2 ∧ hx_S T_tb [(5, 0), (5, 9), (5, 10)] L h u.1 u.2) (hx_E T_tb (P_ty dA) (dC, dI) vwCl (hx_A L sz)) (hx_A L sz)) 0 0 (hx_A L sz) := by
  refine hx_met (lv := [(0, .ref x), (1, .int i1), (2, .int i2)]) (by decide +kernel) rfl (Nat.le_of_ble_eq_true rfl) rfl ?_
  intro p e s m below meth c hx hb hml hr hlk hts0 hown hin hsz hW ls hl
  have hts : ∀ w ∈ hx_all, w.before _ s = true := fun w hw => hts0 w (List.mem_cons_of_mem _ hw)
  have hown : s.vm.findClass "SmallCourt$Plan" = some m.cls := hown
  have hM : hx_S T_tb [(5, 0), (5, 9), (5, 10)] L h L h := hx_S.rf
  refine lv_aload_n hx hb dX5_clear_0 rfl (lv_at hl 0 rfl) ?_
  refine lv_iconst (v := 0) hx hb dX5_clear_1 ?o0 ?_
  case o0 => decide
  refine hx_puti hx hb hts hC_5 hown hW hT (hx_S.rf (M := [(5, 0)])) (gx.S hM) tt_5 0 ?o1 rfl kw_258 ⟨rfl, rfl, rfl⟩ rfl (x := (0 : Int32)) ?o2 rfl rfl rfl (List.mem_singleton.mpr rfl) dX5_clear_2 (fun H locs h_1 eh_1 hW hT hs => ?_)
  case o1 => decide
  case o2 => decide
  replace hM := hM.tr (hs.mono ?o3)
  case o3 => decide
  have f_2 : h_1.2.1 x 0 = (0 : Int32) := ?o4
  case o4 =>
    rw [eh_1]
    exact hx_pi_at _ _ _ _
  refine lv_aload_n hx hb dX5_clear_5 rfl (lv_at hl 0 rfl) ?_
  refine lv_iload_n hx hb dX5_clear_6 rfl (lv_at hl 1 rfl) ?_
  refine hx_puti hx hb hts hC_5 hown hW hT (hx_S.rf (M := [(5, 9)])) (gx.S hM) tt_5 9 ?o5 rfl kw_272 ⟨rfl, rfl, rfl⟩ rfl (x := i1) (i32_r _) rfl rfl rfl (List.mem_singleton.mpr rfl) dX5_clear_7 (fun H locs h_3 eh_3 hW hT hs => ?_)
  case o5 => decide
  replace f_2 := (hs.o (gx.S hM) trivial rfl).1.trans f_2
  replace hM := hM.tr (hs.mono ?o6)
  case o6 => decide
  have f_4 : h_3.2.1 x 9 = i1 := ?o7
  case o7 =>
    rw [eh_3]
    exact hx_pi_at _ _ _ _
  refine lv_aload_n hx hb dX5_clear_10 rfl (lv_at hl 0 rfl) ?_
  refine lv_iload_n hx hb dX5_clear_11 rfl (lv_at hl 2 rfl) ?_
  refine hx_puti hx hb hts hC_5 hown hW hT (hx_S.rf (M := [(5, 10)])) (gx.S hM) tt_5 10 ?o8 rfl kw_273 ⟨rfl, rfl, rfl⟩ rfl (x := i2) (i32_r _) rfl rfl rfl (List.mem_singleton.mpr rfl) dX5_clear_12 (fun H locs h_5 eh_5 hW hT hs => ?_)
  case o8 => decide
  replace f_2 := (hs.o (gx.S hM) trivial rfl).1.trans f_2
  replace f_4 := (hs.o (gx.S hM) trivial rfl).1.trans f_4
  replace hM := hM.tr (hs.mono ?o9)
  case o9 => decide
  have f_6 : h_5.2.1 x 10 = i2 := ?o10
  case o10 =>
    rw [eh_5]
    exact hx_pi_at _ _ _ _
  have zo_0 : (0 : Int32).toInt = 0 := ?o11
  case o11 => decide
  refine hx_retv hx hb hr hlk hW ⟨⟨(0 : Int32), i1, i2, f_2, f_4, f_6, ⟨?o12, rfl, rfl⟩⟩, hT, hM⟩ dX5_clear_15
  case o12 => decide


set_option maxHeartbeats 4000000 in
set_option maxRecDepth 100000 in
theorem t_X5_addOpen_v (l : Launch) (dC : Nat → ClassId) (dI : Nat → Nat → Nat) (dA : Nat → ClassId) (L : List Nat) (h : hx_h) (sz : Nat) (x : Nat) (v1 : Nat) (i1 : Int32) (hT : hx_T T_tb L h) (gx : hx_g L h x 5) (gv1 : hx_g L h v1 2) (qop : Nat) (gqop : hx_g L h qop 30) (f_x_5 : h.2.2 x 5 = some qop) (qre : Nat) (gqre : hx_g L h qre 31) (f_x_6 : h.2.2 x 6 = some qre) (qle : Nat) (gqle : hx_g L h qle 32) (f_x_7 : h.2.2 x 7 = some qle) (qac : Nat) (gqac : hx_g L h qac 0) (f_v1_3 : h.2.2 v1 3 = some qac) (qt : Nat) (gqt : hx_g L h qt 11) (f_qac_2 : h.2.2 qac 2 = some qt) (opf : Nat → Int32) (af_qop : h.2.1 qop = opf) (rsf : Nat → Int32) (af_qre : h.2.1 qre = rsf) (lef : Nat → Int32) (af_qle : h.2.1 qle = lef) (tf : Nat → Int32) (af_qt : h.2.1 qt = tf) (o0 : Int32) (f_x_0 : h.2.1 x 0 = o0) (nm : Int32) (f_v1_0 : h.2.1 v1 0 = nm) (ho : o0.toInt < 4) (hi1 : 0 ≤ i1.toInt ∧ i1.toInt ≤ 609999) (R : Nat → Int) (hR : hv_rC tf = R) (hRb : ∀ k, 0 ≤ R k ∧ R k ≤ 9999) : Met l yX5_addOpen (Cond.code yX5_addOpen cX5_addOpen 3 none :: hx_all) ({ frames := 1, cells := 0, slots := 0, locals := 21 }) (va_Pc [.ref x, .ref v1, .int i1] (hx_B T_tb (P_ty dA) (dC, dI) vwCl L h sz)) (va_Qv (fun (u : List Nat × hx_h) => (∃ (o1 : Int32) (opf1 : Nat → Int32) (rsf1 : Nat → Int32) (lef1 : Nat → Int32), u.2.2.1 x 0 = o1 ∧ u.2.2.1 qop = opf1 ∧ u.2.2.1 qre = rsf1 ∧ u.2.2.1 qle = lef1 ∧ (o1.toInt = o0.toInt + 1 ∧ opf1 = hx_up opf o0.toInt.toNat nm ∧ rsf1 = hx_up rsf o0.toInt.toNat i1 ∧ ∃ v : Int32, v.toInt = hz_mi (R 2) i1.toInt ∧ lef1 = hx_up lef o0.toInt.toNat v)) ∧ hx_T T_tb u.1 u.2 ∧ hx_S T_tb [(5, 0), (30, 0), (31, 0), (32, 0)] L h u.1 u.2) (hx_E T_tb (P_ty dA) (dC, dI) vwCl (hx_A L sz)) (hx_A L sz)) 0 0 (hx_A L sz) := by
  refine hx_met (lv := [(0, .ref x), (1, .ref v1), (2, .int i1)]) (by decide +kernel) rfl (Nat.le_of_ble_eq_true rfl) rfl ?_
  intro p e s m below meth c hx hb hml hr hlk hts0 hown hin hsz hW ls hl
  have hts : ∀ w ∈ hx_all, w.before _ s = true := fun w hw => hts0 w (List.mem_cons_of_mem _ hw)
  have hown : s.vm.findClass "SmallCourt$Plan" = some m.cls := hown
  have hM : hx_S T_tb [(5, 0), (30, 0), (31, 0), (32, 0)] L h L h := hx_S.rf
  have b_o0 := hT.gi gx tt_5 (k := 0) rfl
  rw [f_x_0] at b_o0
  have b_o0 : 0 ≤ o0.toInt ∧ o0.toInt ≤ 4 := b_o0
  have b_nm := hT.gi gv1 tt_2 (k := 0) rfl
  rw [f_v1_0] at b_nm
  have b_nm : 0 ≤ nm.toInt ∧ nm.toInt ≤ 99 := b_nm
  refine lv_aload_n hx hb dX5_addOpen_0 rfl (lv_at hl 0 rfl) ?_
  refine hk_geti hx hb hts hC_5 hown hW (gx.S hM) tt_5 0 ?o0 rfl kw_258 ⟨rfl, rfl, rfl⟩ f_x_0 dX5_addOpen_1 ?_
  case o0 => decide
  refine lv_iconst (v := 4) hx hb dX5_addOpen_4 ?o1 ?_
  case o1 => decide
  refine hb_icmp_ge (zx := o0.toInt) (zy := 4) (tgt := 63) hx hb rfl ?o2 dX5_addOpen_5 ?o3 (fun c_1 => ?o4) (fun c_1 => ?_)
  case o2 => decide
  case o3 => decide
  case o4 =>
    exfalso
    omega
  refine lv_aload_n hx hb dX5_addOpen_8 rfl (lv_at hl 0 rfl) ?_
  refine hk_getr hx hb hts hC_5 hown hW (gx.S hM) tt_5 5 ?o5 rfl kw_268 ⟨rfl, rfl, rfl⟩ ((hM.o gx trivial rfl).2.trans f_x_5) dX5_addOpen_9 ?_
  case o5 => decide
  refine lv_aload_n hx hb dX5_addOpen_12 rfl (lv_at hl 0 rfl) ?_
  refine hk_geti hx hb hts hC_5 hown hW (gx.S hM) tt_5 0 ?o6 rfl kw_258 ⟨rfl, rfl, rfl⟩ f_x_0 dX5_addOpen_13 ?_
  case o6 => decide
  refine lv_aload_n hx hb dX5_addOpen_16 rfl (lv_at hl 1 rfl) ?_
  refine hk_geti hx hb hts hC_2 hown hW (gv1.S hM) tt_2 0 ?o7 rfl kw_722 ⟨rfl, rfl, rfl⟩ ((hM.o gv1 trivial rfl).1.trans f_v1_0) dX5_addOpen_17 ?_
  case o7 => decide
  have af_qopO := af_qop
  refine hx_iast hx hb hW hT (hx_S.rf (M := [(30, 0)])) (gqop.S hM) tt_30 rfl ⟨?o8, ?o9⟩ rfl (i32_r _) (List.mem_singleton.mpr rfl) dX5_addOpen_20 (fun H locs h_2 eh_2 hW hT hs => ?_)
  case o8 => omega
  case o9 => omega
  replace f_x_0 := (hs.o (gx.S hM) trivial rfl).1.trans f_x_0
  replace af_qre : h_2.2.1 qre = rsf := (funext fun j => (hs.a (gqre.S hM) rfl j).1).trans af_qre
  replace af_qle : h_2.2.1 qle = lef := (funext fun j => (hs.a (gqle.S hM) rfl j).1).trans af_qle
  replace hM := hM.tr (hs.mono ?o10)
  case o10 => decide
  obtain ⟨fa_3, dfa_3⟩ : ∃ g : Nat → Int32, g = hx_up opf o0.toNatClampNeg nm := ⟨_, rfl⟩
  have nfa_3 : h_2.2.1 qop = fa_3 := ?o11
  case o11 =>
    rw [eh_2, dfa_3, ← af_qopO]
    exact hx_pi_fun _ _ _ _
  refine lv_aload_n hx hb dX5_addOpen_21 rfl (lv_at hl 0 rfl) ?_
  refine hk_getr hx hb hts hC_5 hown hW (gx.S hM) tt_5 6 ?o12 rfl kw_269 ⟨rfl, rfl, rfl⟩ ((hM.o gx trivial rfl).2.trans f_x_6) dX5_addOpen_22 ?_
  case o12 => decide
  refine lv_aload_n hx hb dX5_addOpen_25 rfl (lv_at hl 0 rfl) ?_
  refine hk_geti hx hb hts hC_5 hown hW (gx.S hM) tt_5 0 ?o13 rfl kw_258 ⟨rfl, rfl, rfl⟩ f_x_0 dX5_addOpen_26 ?_
  case o13 => decide
  refine lv_iload_n hx hb dX5_addOpen_29 rfl (lv_at hl 2 rfl) ?_
  have af_qreO := af_qre
  refine hx_iast hx hb hW hT (hx_S.rf (M := [(31, 0)])) (gqre.S hM) tt_31 rfl ⟨?o14, ?o15⟩ rfl (i32_r _) (List.mem_singleton.mpr rfl) dX5_addOpen_30 (fun H locs h_4 eh_4 hW hT hs => ?_)
  case o14 => omega
  case o15 => omega
  replace f_x_0 := (hs.o (gx.S hM) trivial rfl).1.trans f_x_0
  replace af_qle : h_4.2.1 qle = lef := (funext fun j => (hs.a (gqle.S hM) rfl j).1).trans af_qle
  replace nfa_3 : h_4.2.1 qop = fa_3 := (funext fun j => (hs.a (gqop.S hM) rfl j).1).trans nfa_3
  replace hM := hM.tr (hs.mono ?o16)
  case o16 => decide
  obtain ⟨fa_5, dfa_5⟩ : ∃ g : Nat → Int32, g = hx_up rsf o0.toNatClampNeg i1 := ⟨_, rfl⟩
  have nfa_5 : h_4.2.1 qre = fa_5 := ?o17
  case o17 =>
    rw [eh_4, dfa_5, ← af_qreO]
    exact hx_pi_fun _ _ _ _
  refine lv_aload_n hx hb dX5_addOpen_31 rfl (lv_at hl 0 rfl) ?_
  refine hk_getr hx hb hts hC_5 hown hW (gx.S hM) tt_5 7 ?o18 rfl kw_270 ⟨rfl, rfl, rfl⟩ ((hM.o gx trivial rfl).2.trans f_x_7) dX5_addOpen_32 ?_
  case o18 => decide
  refine lv_aload_n hx hb dX5_addOpen_35 rfl (lv_at hl 0 rfl) ?_
  refine hk_geti hx hb hts hC_5 hown hW (gx.S hM) tt_5 0 ?o19 rfl kw_258 ⟨rfl, rfl, rfl⟩ f_x_0 dX5_addOpen_36 ?_
  case o19 => decide
  refine lv_aload_n hx hb dX5_addOpen_39 rfl (lv_at hl 1 rfl) ?_
  refine hk_getr hx hb hts hC_2 hown hW (gv1.S hM) tt_2 3 ?o20 rfl kw_735 ⟨rfl, rfl, rfl⟩ ((hM.o gv1 trivial rfl).2.trans f_v1_3) dX5_addOpen_40 ?_
  case o20 => decide
  refine hk_getr hx hb hts hC_0 hown hW (gqac.S hM) tt_0 2 ?o21 rfl kw_169 ⟨rfl, rfl, rfl⟩ ((hM.o gqac trivial rfl).2.trans f_qac_2) dX5_addOpen_43 ?_
  case o21 => decide
  refine lv_iconst (v := 3) hx hb dX5_addOpen_46 ?o22 ?_
  case o22 => decide
  refine hx_iald hx hb hW hT (gqt.S hM) tt_11 rfl ?o23 dX5_addOpen_47 (fun x_6 ex_6 lx_6 ux_6 => ?_)
  case o23 => decide
  have ax_6 : x_6 = tf (3 : Int32).toNatClampNeg := ex_6.trans (congrFun (hx_afS hM gqt rfl af_qt) _)
  have hR_7 : x_6.toInt = R 2 := ?o24
  case o24 =>
    rw [← hR, ax_6, show (3 : Int32).toNatClampNeg = 3 from by decide]
    rfl
  have hR_7b := hRb 2
  rw [← hR_7] at hR_7b
  refine lv_iload_n hx hb dX5_addOpen_48 rfl (lv_at hl 2 rfl) ?_
  refine va_mmin hx hb (hml.trans hl.1.symm) hown (hts _ kw_956) (hts _ kw_917) (hts _ kw_109) (hts _ kw_918) (Nat.le_of_ble_eq_true rfl) (Nat.le_of_ble_eq_true rfl) (Nat.le_of_ble_eq_true rfl) (Nat.le_of_ble_eq_true rfl) dX5_addOpen_49 ?_
  refine lv_topi (fun x_8 ex_8 => ?_)
  have hmi9 := hz_mi_e ex_8; rw [hR_7] at hmi9
  have af_qleO := af_qle
  refine hx_iast hx hb hW hT (hx_S.rf (M := [(32, 0)])) (gqle.S hM) tt_32 rfl ⟨?o25, ?o26⟩ rfl (i32_r _) (List.mem_singleton.mpr rfl) dX5_addOpen_52 (fun H locs h_9 eh_9 hW hT hs => ?_)
  case o25 => omega
  case o26 => omega
  replace f_x_0 := (hs.o (gx.S hM) trivial rfl).1.trans f_x_0
  replace nfa_3 : h_9.2.1 qop = fa_3 := (funext fun j => (hs.a (gqop.S hM) rfl j).1).trans nfa_3
  replace nfa_5 : h_9.2.1 qre = fa_5 := (funext fun j => (hs.a (gqre.S hM) rfl j).1).trans nfa_5
  replace ex_6 := ex_6.trans (hs.a (gqt.S hM) rfl _).1.symm
  replace hM := hM.tr (hs.mono ?o27)
  case o27 => decide
  obtain ⟨fa_10, dfa_10⟩ : ∃ g : Nat → Int32, g = hx_up lef o0.toNatClampNeg x_8 := ⟨_, rfl⟩
  have nfa_10 : h_9.2.1 qle = fa_10 := ?o28
  case o28 =>
    rw [eh_9, dfa_10, ← af_qleO]
    exact hx_pi_fun _ _ _ _
  refine lv_aload_n hx hb dX5_addOpen_53 rfl (lv_at hl 0 rfl) ?_
  refine lv_dup hx hb dX5_addOpen_54 rfl ?_
  refine hk_geti hx hb hts hC_5 hown hW (gx.S hM) tt_5 0 ?o29 rfl kw_258 ⟨rfl, rfl, rfl⟩ f_x_0 dX5_addOpen_55 ?_
  case o29 => decide
  refine lv_iconst (v := 1) hx hb dX5_addOpen_58 ?o30 ?_
  case o30 => decide
  refine lv_iadd hx hb dX5_addOpen_59 ?_
  have rg_11 := i32_r o0
  refine lv_topi (fun x_12 ex_12 => ?_)
  have zx_12 : x_12.toInt = o0.toInt + 1 := ?o31
  case o31 =>
    rw [ex_12]
    refine i32_add rfl ?o32 ?o33 ?o34
    case o32 => decide
    case o33 => omega
    case o34 => omega
  refine hx_puti hx hb hts hC_5 hown hW hT (hx_S.rf (M := [(5, 0)])) (gx.S hM) tt_5 0 ?o35 rfl kw_258 ⟨rfl, rfl, rfl⟩ rfl (x := x_12) ⟨?o36, ?o37⟩ rfl rfl rfl (List.mem_singleton.mpr rfl) dX5_addOpen_60 (fun H locs h_13 eh_13 hW hT hs => ?_)
  case o35 => decide
  case o36 => omega
  case o37 => omega
  replace nfa_3 : h_13.2.1 qop = fa_3 := (funext fun j => (hs.a (gqop.S hM) rfl j).1).trans nfa_3
  replace nfa_5 : h_13.2.1 qre = fa_5 := (funext fun j => (hs.a (gqre.S hM) rfl j).1).trans nfa_5
  replace nfa_10 : h_13.2.1 qle = fa_10 := (funext fun j => (hs.a (gqle.S hM) rfl j).1).trans nfa_10
  replace ex_6 := ex_6.trans (hs.a (gqt.S hM) rfl _).1.symm
  replace hM := hM.tr (hs.mono ?o38)
  case o38 => decide
  have f_14 : h_13.2.1 x 0 = x_12 := ?o39
  case o39 =>
    rw [eh_13]
    exact hx_pi_at _ _ _ _
  refine hx_retv hx hb hr hlk hW ⟨⟨x_12, fa_3, fa_5, fa_10, f_14, nfa_3, nfa_5, nfa_10, ⟨?o40, dfa_3, dfa_5, ⟨x_8, hmi9, dfa_10⟩⟩⟩, hT, hM⟩ dX5_addOpen_63
  case o40 => omega


set_option maxHeartbeats 4000000 in
set_option maxRecDepth 100000 in
theorem t_X5_leastFrom_v (l : Launch) (dC : Nat → ClassId) (dI : Nat → Nat → Nat) (dA : Nat → ClassId) (L : List Nat) (h : hx_h) (sz : Nat) (x : Nat) (i1 : Int32) (hT : hx_T T_tb L h) (gx : hx_g L h x 5) (qle : Nat) (gqle : hx_g L h qle 32) (f_x_7 : h.2.2 x 7 = some qle) (lef : Nat → Int32) (af_qle : h.2.1 qle = lef) (o0 : Int32) (f_x_0 : h.2.1 x 0 = o0) (a : Nat → Int) (ha : ∀ i : Nat, (i : Int) < o0.toInt → (lef i).toInt = a i) (hab : ∀ i : Nat, (i : Int) < o0.toInt → 1 ≤ a i ∧ a i ≤ 9999) (hi1 : 0 ≤ i1.toInt ∧ i1.toInt ≤ o0.toInt) : Met l yX5_leastFrom (Cond.code yX5_leastFrom cX5_leastFrom 4 (some .int) :: hx_all) ({ frames := 0, cells := 0, slots := 0, locals := 0 }) (va_Pc [.ref x, .int i1] (hx_B T_tb (P_ty dA) (dC, dI) vwCl L h sz)) (va_Qi (fun (r : Int32) (u : List Nat × hx_h) => (r.toInt = hp_s a o0.toInt.toNat - hp_s a i1.toInt.toNat ∧ (0 ≤ r.toInt ∧ r.toInt ≤ 39996)) ∧ hx_T T_tb u.1 u.2 ∧ hx_S T_tb [] L h u.1 u.2) (hx_E T_tb (P_ty dA) (dC, dI) vwCl (hx_A L sz)) (hx_A L sz)) 0 0 (hx_A L sz) := by
  refine hx_met (lv := [(0, .ref x), (1, .int i1)]) (by decide +kernel) rfl (Nat.le_of_ble_eq_true rfl) rfl ?_
  intro p e s m below meth c hx hb hml hr hlk hts0 hown hin hsz hW ls hl
  have hts : ∀ w ∈ hx_all, w.before _ s = true := fun w hw => hts0 w (List.mem_cons_of_mem _ hw)
  have hown : s.vm.findClass "SmallCourt$Plan" = some m.cls := hown
  have hM : hx_S T_tb [] L h L h := hx_S.rf
  have b_o0 := hT.gi gx tt_5 (k := 0) rfl
  rw [f_x_0] at b_o0
  have b_o0 : 0 ≤ o0.toInt ∧ o0.toInt ≤ 4 := b_o0
  refine lv_iconst (v := 0) hx hb dX5_leastFrom_0 ?o0 ?_
  case o0 => decide
  refine lv_istore_n (lv' := [(2, .int (0 : Int32)), (0, .ref x), (1, .int i1)]) hx hb dX5_leastFrom_1 rfl hl ?o1 rfl (fun ls hl => ?_)
  case o1 => decide
  refine lv_iload_n hx hb dX5_leastFrom_2 rfl (lv_at hl 2 rfl) ?_
  refine lv_istore_n (lv' := [(3, .int i1), (2, .int (0 : Int32)), (0, .ref x), (1, .int i1)]) hx hb dX5_leastFrom_3 rfl hl ?o2 rfl (fun ls hl => ?_)
  case o2 => decide
  have loop4 : ∀ (n4 : Nat) (iv4_2 iv4_3 : Int32) (H : Heap) (locs : List Loc) (hL1 : List Nat) (hl1 : hx_h), 0 ≤ iv4_2.toInt → iv4_2.toInt ≤ 39996 → 0 ≤ iv4_3.toInt → iv4_3.toInt ≤ 5 → (iv4_2.toInt = hp_s a (iv4_3.toInt).toNat - hp_s a i1.toInt.toNat) → (iv4_2.toInt ≤ 9999 * (iv4_3.toInt - i1.toInt)) → (i1.toInt ≤ iv4_3.toInt) → (iv4_3.toInt ≤ o0.toInt) → ∀ (ls : Array Slot), 5 - iv4_3.toInt < (n4 : Int) → hx_W T_tb (P_ty dA) (dC, dI) vwCl (hx_A L sz) s.heap hL1 hl1 s H locs → hx_T T_tb hL1 hl1 → hx_S T_tb [] L h hL1 hl1 → lv_has ls 4 [(3, .int iv4_3), (2, .int iv4_2), (0, .ref x), (1, .int i1)] → W p l e ({ frames := 0, cells := 0, slots := 0, locals := 0 }) s m ([.ref x, .int i1] : List Value).toArray below meth c H locs 0 0 (MQ below (va_Qi (fun (r : Int32) (u : List Nat × hx_h) => (r.toInt = hp_s a o0.toInt.toNat - hp_s a i1.toInt.toNat ∧ (0 ≤ r.toInt ∧ r.toInt ≤ 39996)) ∧ hx_T T_tb u.1 u.2 ∧ hx_S T_tb [] L h u.1 u.2) (hx_E T_tb (P_ty dA) (dC, dI) vwCl (hx_A L sz)) (hx_A L sz)) ([.ref x, .int i1] : List Value).toArray s 0 0 (hx_A L sz)) (F0 m 4 ls []) := by
    intro n4
    induction n4 with
    | zero => intro iv4_2 iv4_3 H locs hL1 hl1 bliv4_2 buiv4_2 bliv4_3 buiv4_3 vi4_0 vi4_1 vi4_2 vi4_3 ls hn4; exfalso; omega
    | succ n4 ih4 =>
      intro iv4_2 iv4_3 H locs hL1 hl1 bliv4_2 buiv4_2 bliv4_3 buiv4_3 vi4_0 vi4_1 vi4_2 vi4_3 ls hn4 hW hT hM   hl
      refine lv_iload_n hx hb dX5_leastFrom_4 rfl (lv_at hl 0 rfl) ?_
      refine lv_aload_n hx hb dX5_leastFrom_5 rfl (lv_at hl 2 rfl) ?_
      refine hk_geti hx hb hts hC_5 hown hW (gx.S hM) tt_5 0 ?o3 rfl kw_258 ⟨rfl, rfl, rfl⟩ ((hM.o gx trivial rfl).1.trans f_x_0) dX5_leastFrom_6 ?_
      case o3 => decide
      refine hb_icmp_ge (zx := iv4_3.toInt) (zy := o0.toInt) (tgt := 27) hx hb rfl rfl dX5_leastFrom_9 ?o4 (fun c_1 => ?_) (fun c_1 => ?_)
      case o4 => decide
      · skip
        refine lv_iload_n hx hb dX5_leastFrom_27 rfl (lv_at hl 1 rfl) ?_
        refine hx_reti hx hb hr hlk hW ⟨⟨(by have h9 := vi4_0; rw [show iv4_3.toInt = o0.toInt by omega] at h9; exact h9), ?o5, ?o6⟩, hT, hM⟩ dX5_leastFrom_28
        case o5 => omega
        case o6 => omega
      · skip
        refine lv_iload_n hx hb dX5_leastFrom_12 rfl (lv_at hl 1 rfl) ?_
        refine lv_aload_n hx hb dX5_leastFrom_13 rfl (lv_at hl 2 rfl) ?_
        refine hk_getr hx hb hts hC_5 hown hW (gx.S hM) tt_5 7 ?o7 rfl kw_270 ⟨rfl, rfl, rfl⟩ ((hM.o gx trivial rfl).2.trans f_x_7) dX5_leastFrom_14 ?_
        case o7 => decide
        refine lv_iload_n hx hb dX5_leastFrom_17 rfl (lv_at hl 0 rfl) ?_
        refine hx_iald hx hb hW hT (gqle.S hM) tt_32 rfl ⟨?o8, ?o9⟩ dX5_leastFrom_18 (fun x_2 ex_2 lx_2 ux_2 => ?_)
        case o8 => omega
        case o9 => omega
        have ax_2 : x_2 = lef iv4_3.toNatClampNeg := ex_2.trans (congrFun (hx_afS hM gqle rfl af_qle) _)
        have hv9 : x_2.toInt = a iv4_3.toInt.toNat := ?o10
        case o10 =>
          rw [ax_2]
          exact ha _ (by unfold Int32.toNatClampNeg; omega)
        have hb9 := hab iv4_3.toInt.toNat (by omega); rw [← hv9] at hb9
        refine lv_iadd hx hb dX5_leastFrom_19 ?_
        have rg_3 := i32_r iv4_2
        have rg_4 := i32_r x_2
        refine lv_topi (fun x_5 ex_5 => ?_)
        have zx_5 : x_5.toInt = iv4_2.toInt + x_2.toInt := ?o11
        case o11 =>
          rw [ex_5]
          refine i32_add rfl rfl ?o12 ?o13
          case o12 => omega
          case o13 => omega
        refine lv_istore_n (lv' := [(2, .int x_5), (3, .int iv4_3), (0, .ref x), (1, .int i1)]) hx hb dX5_leastFrom_20 rfl hl ?o14 rfl (fun ls hl => ?_)
        case o14 => decide
        obtain ⟨x_6, ex_6⟩ : ∃ y : Int32, y = iv4_3 + Int32.ofInt 1 := ⟨_, rfl⟩
        have rg_7 := i32_r iv4_3
        have zx_6 : x_6.toInt = iv4_3.toInt + (1) := ?o15
        case o15 =>
          rw [ex_6]
          refine i32_add rfl ?o16 ?o17 ?o18
          case o16 => decide
          case o17 => omega
          case o18 => omega
        refine lv_iinc (v := x_6) (lv' := [(3, .int x_6), (2, .int x_5), (0, .ref x), (1, .int i1)]) hx hb dX5_leastFrom_21 hl (k := 1) rfl ex_6.symm ?o19 rfl (fun ls hl => ?_)
        case o19 => decide
        refine lv_goto (tgt := 4) hx hb dX5_leastFrom_24 ?o20 ?_
        case o20 => decide
        refine ih4 x_5 x_6 _ _ hL1 hl1 ?o21 ?o22 ?o23 ?o24 (hp_s_s vi4_0 ?o25 hv9 zx_5 zx_6) ?o26 ?o27 ?o28 ls ?o29 hW hT hM   (lv_sub hl [0, 1, 2, 3] rfl)
        case o21 => omega
        case o22 => omega
        case o23 => omega
        case o24 => omega
        case o25 => omega
        case o26 => omega
        case o27 => omega
        case o28 => omega
        case o29 => omega
  have zk_0 : (0 : Int32).toInt = 0 := ?o30
  case o30 => decide
  refine loop4 6 (0 : Int32) i1 _ _ L h ?o31 ?o32 ?o33 ?o34 ?o35 ?o36 ?o37 ?o38 ls ?o39 hW hT hM   hl
  case o31 => decide
  case o32 => decide
  case o33 => omega
  case o34 => omega
  case o35 => omega
  case o36 => omega
  case o37 => omega
  case o38 => omega
  case o39 => omega


set_option maxHeartbeats 4000000 in
set_option maxRecDepth 100000 in
theorem t_X5_keepIfBetter_v (l : Launch) (dC : Nat → ClassId) (dI : Nat → Nat → Nat) (dA : Nat → ClassId) (L : List Nat) (h : hx_h) (sz : Nat) (x : Nat) (i1 : Int32) (i2 : Int32) (hT : hx_T T_tb L h) (gx : hx_g L h x 5) (qtd : Nat) (gqtd : hx_g L h qtd 33) (f_x_8 : h.2.2 x 8 = some qtd) (qwl : Nat) (gqwl : hx_g L h qwl 28) (f_x_3 : h.2.2 x 3 = some qwl) (trf : Nat → Int32) (af_qtd : h.2.1 qtd = trf) (wkf : Nat → Int32) (af_qwl : h.2.1 qwl = wkf) (o0 : Int32) (f_x_0 : h.2.1 x 0 = o0) (bl0 : Int32) (f_x_11 : h.2.1 x 11 = bl0) (ba0 : Int32) (f_x_12 : h.2.1 x 12 = ba0) (a : Nat → Int) (uu : Int) (m5 : Nat → Int) (ht : ∀ i : Nat, (i : Int) < o0.toInt → (trf i).toInt = hp_w a uu m5 i) (s5 : hp_S) (hSR : hp_SR s5 bl0.toInt ba0.toInt wkf a uu o0.toInt) : Met l yX5_keepIfBetter (Cond.code yX5_keepIfBetter cX5_keepIfBetter 3 none :: hx_all) ({ frames := 1, cells := 0, slots := 0, locals := 40 }) (va_Pc [.ref x, .int i1, .int i2] (hx_B T_tb (P_ty dA) (dC, dI) vwCl L h sz)) (va_Qv (fun (u : List Nat × hx_h) => (∃ (bl1 : Int32) (ba1 : Int32) (wkf1 : Nat → Int32), u.2.2.1 x 11 = bl1 ∧ u.2.2.1 x 12 = ba1 ∧ u.2.2.1 qwl = wkf1 ∧ (hp_SR (if i1.toInt < s5.1 ∨ (i1.toInt = s5.1 ∧ i2.toInt < s5.2.1) then (i1.toInt, i2.toInt, m5) else s5) bl1.toInt ba1.toInt wkf1 a uu o0.toInt)) ∧ hx_T T_tb u.1 u.2 ∧ hx_S T_tb [(5, 11), (5, 12), (28, 0)] L h u.1 u.2) (hx_E T_tb (P_ty dA) (dC, dI) vwCl (hx_A L sz)) (hx_A L sz)) 0 0 (hx_A L sz) := by
  refine hx_met (lv := [(0, .ref x), (1, .int i1), (2, .int i2)]) (by decide +kernel) rfl (Nat.le_of_ble_eq_true rfl) rfl ?_
  intro p e s m below meth c hx hb hml hr hlk hts0 hown hin hsz hW ls hl
  have hts : ∀ w ∈ hx_all, w.before _ s = true := fun w hw => hts0 w (List.mem_cons_of_mem _ hw)
  have hown : s.vm.findClass "SmallCourt$Plan" = some m.cls := hown
  have hM : hx_S T_tb [(5, 11), (5, 12), (28, 0)] L h L h := hx_S.rf
  have b_o0 := hT.gi gx tt_5 (k := 0) rfl
  rw [f_x_0] at b_o0
  have b_o0 : 0 ≤ o0.toInt ∧ o0.toInt ≤ 4 := b_o0
  have b_bl0 := hT.gi gx tt_5 (k := 11) rfl
  rw [f_x_11] at b_bl0
  have b_bl0 : -2147483648 ≤ bl0.toInt ∧ bl0.toInt ≤ 2147483647 := b_bl0
  have b_ba0 := hT.gi gx tt_5 (k := 12) rfl
  rw [f_x_12] at b_ba0
  have b_ba0 : -2147483648 ≤ ba0.toInt ∧ ba0.toInt ≤ 2147483647 := b_ba0
  refine lv_iload_n hx hb dX5_keepIfBetter_0 rfl (lv_at hl 1 rfl) ?_
  refine lv_aload_n hx hb dX5_keepIfBetter_1 rfl (lv_at hl 0 rfl) ?_
  refine hk_geti hx hb hts hC_5 hown hW gx tt_5 11 ?o0 rfl kw_274 ⟨rfl, rfl, rfl⟩ f_x_11 dX5_keepIfBetter_2 ?_
  case o0 => decide
  refine hb_icmp_lt (zx := i1.toInt) (zy := bl0.toInt) (tgt := 24) hx hb rfl rfl dX5_keepIfBetter_5 ?o1 (fun c_1 => ?_) (fun c_1 => ?_)
  case o1 => decide
  · skip
    refine lv_aload_n hx hb dX5_keepIfBetter_24 rfl (lv_at hl 0 rfl) ?_
    refine lv_iload_n hx hb dX5_keepIfBetter_25 rfl (lv_at hl 1 rfl) ?_
    refine hx_puti hx hb hts hC_5 hown hW hT (hx_S.rf (M := [(5, 11)])) gx tt_5 11 ?o2 rfl kw_274 ⟨rfl, rfl, rfl⟩ rfl (x := i1) (i32_r _) rfl rfl rfl (List.mem_singleton.mpr rfl) dX5_keepIfBetter_26 (fun H locs h_2 eh_2 hW hT hs => ?_)
    case o2 => decide
    replace f_x_8 := (hs.o gx trivial rfl).2.trans f_x_8
    replace f_x_3 := (hs.o gx trivial rfl).2.trans f_x_3
    replace f_x_0 := (hs.o gx trivial rfl).1.trans f_x_0
    replace f_x_12 := (hs.o gx trivial rfl).1.trans f_x_12
    replace af_qtd : h_2.2.1 qtd = trf := (funext fun j => (hs.a gqtd rfl j).1).trans af_qtd
    replace af_qwl : h_2.2.1 qwl = wkf := (funext fun j => (hs.a gqwl rfl j).1).trans af_qwl
    replace hM := hM.tr (hs.mono ?o3)
    case o3 => decide
    replace gx := gx.S hs
    replace gqtd := gqtd.S hs
    replace gqwl := gqwl.S hs
    have f_3 : h_2.2.1 x 11 = i1 := ?o4
    case o4 =>
      rw [eh_2]
      exact hx_pi_at _ _ _ _
    refine lv_aload_n hx hb dX5_keepIfBetter_29 rfl (lv_at hl 0 rfl) ?_
    refine lv_iload_n hx hb dX5_keepIfBetter_30 rfl (lv_at hl 2 rfl) ?_
    refine hx_puti hx hb hts hC_5 hown hW hT (hx_S.rf (M := [(5, 12)])) gx tt_5 12 ?o5 rfl kw_275 ⟨rfl, rfl, rfl⟩ rfl (x := i2) (i32_r _) rfl rfl rfl (List.mem_singleton.mpr rfl) dX5_keepIfBetter_31 (fun H locs h_4 eh_4 hW hT hs => ?_)
    case o5 => decide
    replace f_x_8 := (hs.o gx trivial rfl).2.trans f_x_8
    replace f_x_3 := (hs.o gx trivial rfl).2.trans f_x_3
    replace f_x_0 := (hs.o gx trivial rfl).1.trans f_x_0
    replace f_3 := (hs.o gx trivial rfl).1.trans f_3
    replace af_qtd : h_4.2.1 qtd = trf := (funext fun j => (hs.a gqtd rfl j).1).trans af_qtd
    replace af_qwl : h_4.2.1 qwl = wkf := (funext fun j => (hs.a gqwl rfl j).1).trans af_qwl
    replace hM := hM.tr (hs.mono ?o6)
    case o6 => decide
    replace gx := gx.S hs
    replace gqtd := gqtd.S hs
    replace gqwl := gqwl.S hs
    have f_5 : h_4.2.1 x 12 = i2 := ?o7
    case o7 =>
      rw [eh_4]
      exact hx_pi_at _ _ _ _
    refine lv_aload_n hx hb dX5_keepIfBetter_34 rfl (lv_at hl 0 rfl) ?_
    refine hk_getr hx hb hts hC_5 hown hW gx tt_5 8 ?o8 rfl kw_271 ⟨rfl, rfl, rfl⟩ f_x_8 dX5_keepIfBetter_35 ?_
    case o8 => decide
    refine lv_iconst (v := 0) hx hb dX5_keepIfBetter_38 ?o9 ?_
    case o9 => decide
    refine lv_aload_n hx hb dX5_keepIfBetter_39 rfl (lv_at hl 0 rfl) ?_
    refine hk_getr hx hb hts hC_5 hown hW gx tt_5 3 ?o10 rfl kw_264 ⟨rfl, rfl, rfl⟩ f_x_3 dX5_keepIfBetter_40 ?_
    case o10 => decide
    refine lv_iconst (v := 0) hx hb dX5_keepIfBetter_43 ?o11 ?_
    case o11 => decide
    refine lv_aload_n hx hb dX5_keepIfBetter_44 rfl (lv_at hl 0 rfl) ?_
    refine hk_geti hx hb hts hC_5 hown hW gx tt_5 0 ?o12 rfl kw_258 ⟨rfl, rfl, rfl⟩ f_x_0 dX5_keepIfBetter_45 ?_
    case o12 => decide
    have af_qtdO := af_qtd; have af_qwlO := af_qwl
    refine hz_copyi hx hb (hml.trans hl.1.symm) hown (hts _ kw_974) (hts _ kw_158) (hts _ kw_157) (hts _ kw_97) hW hT gqtd gqwl tt_33 tt_28 rfl ?o13 rfl rfl ?o14 ?o15 ?o16 (Nat.le_of_ble_eq_true rfl) (Nat.le_of_ble_eq_true rfl) dX5_keepIfBetter_48 (fun H locs h_6 eh_6 hW hT hs => ?_)
    case o13 => decide
    case o14 => omega
    case o15 => omega
    case o16 => omega
    replace f_x_8 := (hs.o gx trivial rfl).2.trans f_x_8
    replace f_x_3 := (hs.o gx trivial rfl).2.trans f_x_3
    replace f_x_0 := (hs.o gx trivial rfl).1.trans f_x_0
    replace f_3 := (hs.o gx trivial rfl).1.trans f_3
    replace f_5 := (hs.o gx trivial rfl).1.trans f_5
    replace af_qtd : h_6.2.1 qtd = trf := (funext fun j => (hs.a gqtd rfl j).1).trans af_qtd
    replace hM := hM.tr (hs.mono ?o17)
    case o17 => decide
    replace gx := gx.S hs
    replace gqtd := gqtd.S hs
    replace gqwl := gqwl.S hs
    obtain ⟨fa_7, dfa_7⟩ : ∃ g : Nat → Int32, g = va_cpy trf wkf 0 0 o0.toNatClampNeg := ⟨_, rfl⟩
    have nfa_7 : h_6.2.1 qwl = fa_7 := ?o18
    case o18 => rw [eh_6, dfa_7, af_qtdO, af_qwlO]
    refine hx_retv hx hb hr hlk hW ⟨⟨i1, i2, fa_7, f_3, f_5, nfa_7, (hp_SR_y hSR ?o19 (fun i hi => by rw [dfa_7]; unfold va_cpy; rw [if_pos ⟨Nat.zero_le _, by unfold Int32.toNatClampNeg; omega⟩]; rw [show 0 + (i - 0) = i by omega]; exact ht i hi))⟩, hT, hM⟩ dX5_keepIfBetter_51
    case o19 => omega
  · skip
    refine lv_iload_n hx hb dX5_keepIfBetter_8 rfl (lv_at hl 1 rfl) ?_
    refine lv_aload_n hx hb dX5_keepIfBetter_9 rfl (lv_at hl 0 rfl) ?_
    refine hk_geti hx hb hts hC_5 hown hW gx tt_5 11 ?o20 rfl kw_274 ⟨rfl, rfl, rfl⟩ f_x_11 dX5_keepIfBetter_10 ?_
    case o20 => decide
    refine hb_icmp_ne (zx := i1.toInt) (zy := bl0.toInt) (tgt := 51) hx hb rfl rfl dX5_keepIfBetter_13 ?o21 (fun c_8 => ?_) (fun c_8 => ?_)
    case o21 => decide
    · skip
      refine hx_retv hx hb hr hlk hW ⟨⟨bl0, ba0, wkf, f_x_11, f_x_12, af_qwl, (hp_SR_n hSR ?o22)⟩, hT, hM⟩ dX5_keepIfBetter_51
      case o22 => omega
    · skip
      refine lv_iload_n hx hb dX5_keepIfBetter_16 rfl (lv_at hl 2 rfl) ?_
      refine lv_aload_n hx hb dX5_keepIfBetter_17 rfl (lv_at hl 0 rfl) ?_
      refine hk_geti hx hb hts hC_5 hown hW gx tt_5 12 ?o23 rfl kw_275 ⟨rfl, rfl, rfl⟩ f_x_12 dX5_keepIfBetter_18 ?_
      case o23 => decide
      refine hb_icmp_ge (zx := i2.toInt) (zy := ba0.toInt) (tgt := 51) hx hb rfl rfl dX5_keepIfBetter_21 ?o24 (fun c_9 => ?_) (fun c_9 => ?_)
      case o24 => decide
      · skip
        refine hx_retv hx hb hr hlk hW ⟨⟨bl0, ba0, wkf, f_x_11, f_x_12, af_qwl, (hp_SR_n hSR ?o25)⟩, hT, hM⟩ dX5_keepIfBetter_51
        case o25 => omega
      · skip
        refine lv_aload_n hx hb dX5_keepIfBetter_24 rfl (lv_at hl 0 rfl) ?_
        refine lv_iload_n hx hb dX5_keepIfBetter_25 rfl (lv_at hl 1 rfl) ?_
        refine hx_puti hx hb hts hC_5 hown hW hT (hx_S.rf (M := [(5, 11)])) gx tt_5 11 ?o26 rfl kw_274 ⟨rfl, rfl, rfl⟩ rfl (x := i1) (i32_r _) rfl rfl rfl (List.mem_singleton.mpr rfl) dX5_keepIfBetter_26 (fun H locs h_10 eh_10 hW hT hs => ?_)
        case o26 => decide
        replace f_x_8 := (hs.o gx trivial rfl).2.trans f_x_8
        replace f_x_3 := (hs.o gx trivial rfl).2.trans f_x_3
        replace f_x_0 := (hs.o gx trivial rfl).1.trans f_x_0
        replace f_x_12 := (hs.o gx trivial rfl).1.trans f_x_12
        replace af_qtd : h_10.2.1 qtd = trf := (funext fun j => (hs.a gqtd rfl j).1).trans af_qtd
        replace af_qwl : h_10.2.1 qwl = wkf := (funext fun j => (hs.a gqwl rfl j).1).trans af_qwl
        replace hM := hM.tr (hs.mono ?o27)
        case o27 => decide
        replace gx := gx.S hs
        replace gqtd := gqtd.S hs
        replace gqwl := gqwl.S hs
        have f_11 : h_10.2.1 x 11 = i1 := ?o28
        case o28 =>
          rw [eh_10]
          exact hx_pi_at _ _ _ _
        refine lv_aload_n hx hb dX5_keepIfBetter_29 rfl (lv_at hl 0 rfl) ?_
        refine lv_iload_n hx hb dX5_keepIfBetter_30 rfl (lv_at hl 2 rfl) ?_
        refine hx_puti hx hb hts hC_5 hown hW hT (hx_S.rf (M := [(5, 12)])) gx tt_5 12 ?o29 rfl kw_275 ⟨rfl, rfl, rfl⟩ rfl (x := i2) (i32_r _) rfl rfl rfl (List.mem_singleton.mpr rfl) dX5_keepIfBetter_31 (fun H locs h_12 eh_12 hW hT hs => ?_)
        case o29 => decide
        replace f_x_8 := (hs.o gx trivial rfl).2.trans f_x_8
        replace f_x_3 := (hs.o gx trivial rfl).2.trans f_x_3
        replace f_x_0 := (hs.o gx trivial rfl).1.trans f_x_0
        replace f_11 := (hs.o gx trivial rfl).1.trans f_11
        replace af_qtd : h_12.2.1 qtd = trf := (funext fun j => (hs.a gqtd rfl j).1).trans af_qtd
        replace af_qwl : h_12.2.1 qwl = wkf := (funext fun j => (hs.a gqwl rfl j).1).trans af_qwl
        replace hM := hM.tr (hs.mono ?o30)
        case o30 => decide
        replace gx := gx.S hs
        replace gqtd := gqtd.S hs
        replace gqwl := gqwl.S hs
        have f_13 : h_12.2.1 x 12 = i2 := ?o31
        case o31 =>
          rw [eh_12]
          exact hx_pi_at _ _ _ _
        refine lv_aload_n hx hb dX5_keepIfBetter_34 rfl (lv_at hl 0 rfl) ?_
        refine hk_getr hx hb hts hC_5 hown hW gx tt_5 8 ?o32 rfl kw_271 ⟨rfl, rfl, rfl⟩ f_x_8 dX5_keepIfBetter_35 ?_
        case o32 => decide
        refine lv_iconst (v := 0) hx hb dX5_keepIfBetter_38 ?o33 ?_
        case o33 => decide
        refine lv_aload_n hx hb dX5_keepIfBetter_39 rfl (lv_at hl 0 rfl) ?_
        refine hk_getr hx hb hts hC_5 hown hW gx tt_5 3 ?o34 rfl kw_264 ⟨rfl, rfl, rfl⟩ f_x_3 dX5_keepIfBetter_40 ?_
        case o34 => decide
        refine lv_iconst (v := 0) hx hb dX5_keepIfBetter_43 ?o35 ?_
        case o35 => decide
        refine lv_aload_n hx hb dX5_keepIfBetter_44 rfl (lv_at hl 0 rfl) ?_
        refine hk_geti hx hb hts hC_5 hown hW gx tt_5 0 ?o36 rfl kw_258 ⟨rfl, rfl, rfl⟩ f_x_0 dX5_keepIfBetter_45 ?_
        case o36 => decide
        have af_qtdO := af_qtd; have af_qwlO := af_qwl
        refine hz_copyi hx hb (hml.trans hl.1.symm) hown (hts _ kw_974) (hts _ kw_158) (hts _ kw_157) (hts _ kw_97) hW hT gqtd gqwl tt_33 tt_28 rfl ?o37 rfl rfl ?o38 ?o39 ?o40 (Nat.le_of_ble_eq_true rfl) (Nat.le_of_ble_eq_true rfl) dX5_keepIfBetter_48 (fun H locs h_14 eh_14 hW hT hs => ?_)
        case o37 => decide
        case o38 => omega
        case o39 => omega
        case o40 => omega
        replace f_x_8 := (hs.o gx trivial rfl).2.trans f_x_8
        replace f_x_3 := (hs.o gx trivial rfl).2.trans f_x_3
        replace f_x_0 := (hs.o gx trivial rfl).1.trans f_x_0
        replace f_11 := (hs.o gx trivial rfl).1.trans f_11
        replace f_13 := (hs.o gx trivial rfl).1.trans f_13
        replace af_qtd : h_14.2.1 qtd = trf := (funext fun j => (hs.a gqtd rfl j).1).trans af_qtd
        replace hM := hM.tr (hs.mono ?o41)
        case o41 => decide
        replace gx := gx.S hs
        replace gqtd := gqtd.S hs
        replace gqwl := gqwl.S hs
        obtain ⟨fa_15, dfa_15⟩ : ∃ g : Nat → Int32, g = va_cpy trf wkf 0 0 o0.toNatClampNeg := ⟨_, rfl⟩
        have nfa_15 : h_14.2.1 qwl = fa_15 := ?o42
        case o42 => rw [eh_14, dfa_15, af_qtdO, af_qwlO]
        refine hx_retv hx hb hr hlk hW ⟨⟨i1, i2, fa_15, f_11, f_13, nfa_15, (hp_SR_y hSR ?o43 (fun i hi => by rw [dfa_15]; unfold va_cpy; rw [if_pos ⟨Nat.zero_le _, by unfold Int32.toNatClampNeg; omega⟩]; rw [show 0 + (i - 0) = i by omega]; exact ht i hi))⟩, hT, hM⟩ dX5_keepIfBetter_51
        case o43 => omega


set_option maxHeartbeats 4000000 in
set_option maxRecDepth 100000 in
theorem t_X5_tryFrom_4v (l : Launch) (dC : Nat → ClassId) (dI : Nat → Nat → Nat) (dA : Nat → ClassId) (L : List Nat) (h : hx_h) (sz : Nat) (b0 : hx_z) (x : Nat) (i2 : Int32) (i3 : Int32) (i4 : Int32) (hT : hx_T T_tb L h) (gx : hx_g L h x 5) (qle : Nat) (gqle : hx_g L h qle 32) (f_x_7 : h.2.2 x 7 = some qle) (qre : Nat) (gqre : hx_g L h qre 31) (f_x_6 : h.2.2 x 6 = some qre) (qtd : Nat) (gqtd : hx_g L h qtd 33) (f_x_8 : h.2.2 x 8 = some qtd) (qwl : Nat) (gqwl : hx_g L h qwl 28) (f_x_3 : h.2.2 x 3 = some qwl) (lef : Nat → Int32) (af_qle : h.2.1 qle = lef) (rsf : Nat → Int32) (af_qre : h.2.1 qre = rsf) (trf : Nat → Int32) (af_qtd : h.2.1 qtd = trf) (wkf : Nat → Int32) (af_qwl : h.2.1 qwl = wkf) (o0 : Int32) (f_x_0 : h.2.1 x 0 = o0) (un0 : Int32) (f_x_9 : h.2.1 x 9 = un0) (me0 : Int32) (f_x_10 : h.2.1 x 10 = me0) (bl0 : Int32) (f_x_11 : h.2.1 x 11 = bl0) (ba0 : Int32) (f_x_12 : h.2.1 x 12 = ba0) (a : Nat → Int) (ha : ∀ i : Nat, (i : Int) < o0.toInt → (lef i).toInt = a i) (hab : ∀ i : Nat, (i : Int) < o0.toInt → 1 ≤ a i ∧ a i ≤ 9999) (r : Nat → Int) (hr5 : ∀ i : Nat, (i : Int) < o0.toInt → (rsf i).toInt = r i) (hrb : ∀ i : Nat, (i : Int) < o0.toInt → 1 ≤ r i ∧ r i ≤ 609999) (hun : 1 ≤ un0.toInt ∧ un0.toInt ≤ 99) (M : Int) (hMe : 1 ≤ o0.toInt → M = me0.toInt) (hMb : M ≤ 9999) (hpn : 4 ≤ o0.toInt) (K : Nat) (m5 : Nat → Int) (hB : hp_B o0.toInt.toNat 4 K m5) (hsp : i2.toInt = hp_s (hp_w a un0.toInt m5) 4) (hla : i3.toInt = hp_m (hp_k a r un0.toInt m5) 4) (hal : i4.toInt = hp_s (hp_k a r un0.toInt m5) 4) (htr : ∀ i : Nat, i < 4 → (trf i).toInt = hp_w a un0.toInt m5 i) (hfe : i2.toInt + (hp_s a o0.toInt.toNat - hp_s a 4) ≤ M) (hi2 : 0 ≤ i2.toInt ∧ i2.toInt ≤ 9999) (hi3 : 0 ≤ i3.toInt ∧ i3.toInt ≤ 609999) (hi4 : 0 ≤ i4.toInt ∧ i4.toInt ≤ 2439996) (s5 : hp_S) (hSR : hp_SR s5 bl0.toInt ba0.toInt wkf a un0.toInt o0.toInt) : Met l yX5_tryFrom (Cond.code yX5_tryFrom cX5_tryFrom 9 none :: hx_all) ({ frames := 2, cells := 0, slots := 0, locals := 62 }) (va_Pc [.ref x, .int (4 : Int32), .int i2, .int i3, .int i4] (hx_BX T_tb (P_ty dA) (dC, dI) vwCl L h sz b0)) (va_Qv (fun (u : List Nat × hx_h) => (∃ (bl1 : Int32) (ba1 : Int32) (wkf1 : Nat → Int32) (trf1 : Nat → Int32), u.2.2.1 x 11 = bl1 ∧ u.2.2.1 x 12 = ba1 ∧ u.2.2.1 qwl = wkf1 ∧ u.2.2.1 qtd = trf1 ∧ (hp_SR (hp_F (hp_f a r un0.toInt M o0.toInt.toNat) (K * 13 ^ (o0.toInt.toNat - 4)) (13 ^ (o0.toInt.toNat - 4)) s5) bl1.toInt ba1.toInt wkf1 a un0.toInt o0.toInt ∧ ∀ i : Nat, i < 4 → trf1 i = trf i)) ∧ hx_T T_tb u.1 u.2 ∧ hx_S T_tb [(5, 11), (5, 12), (28, 0)] L h u.1 u.2) (hx_E T_tb (P_ty dA) (dC, dI) vwCl (hx_A L sz)) (hx_A L sz)) 0 0 (hx_A L sz) := by
  refine hx_metX (lv := [(0, .ref x), (1, .int (4 : Int32)), (2, .int i2), (3, .int i3), (4, .int i4)]) (by decide +kernel) rfl (Nat.le_of_ble_eq_true rfl) rfl ?_
  intro p e s m below meth c hx hb hml hr hlk hts0 hown hin hsz hW hZ ls hl
  have hts : ∀ w ∈ hx_all, w.before _ s = true := fun w hw => hts0 w (List.mem_cons_of_mem _ hw)
  have hown : s.vm.findClass "SmallCourt$Plan" = some m.cls := hown
  have hM : hx_S T_tb [(5, 11), (5, 12), (28, 0)] L h L h := hx_S.rf
  have b_o0 := hT.gi gx tt_5 (k := 0) rfl
  rw [f_x_0] at b_o0
  have b_o0 : 0 ≤ o0.toInt ∧ o0.toInt ≤ 4 := b_o0
  have b_un0 := hT.gi gx tt_5 (k := 9) rfl
  rw [f_x_9] at b_un0
  have b_un0 : -2147483648 ≤ un0.toInt ∧ un0.toInt ≤ 2147483647 := b_un0
  have b_me0 := hT.gi gx tt_5 (k := 10) rfl
  rw [f_x_10] at b_me0
  have b_me0 : -2147483648 ≤ me0.toInt ∧ me0.toInt ≤ 2147483647 := b_me0
  have b_bl0 := hT.gi gx tt_5 (k := 11) rfl
  rw [f_x_11] at b_bl0
  have b_bl0 : -2147483648 ≤ bl0.toInt ∧ bl0.toInt ≤ 2147483647 := b_bl0
  have b_ba0 := hT.gi gx tt_5 (k := 12) rfl
  rw [f_x_12] at b_ba0
  have b_ba0 : -2147483648 ≤ ba0.toInt ∧ ba0.toInt ≤ 2147483647 := b_ba0
  refine lv_iload_n hx hb dX5_tryFrom_0 rfl (lv_at hl 1 rfl) ?_
  refine lv_aload_n hx hb dX5_tryFrom_1 rfl (lv_at hl 0 rfl) ?_
  refine hk_geti hx hb hts hC_5 hown hW (gx.S hM) tt_5 0 ?o0 rfl kw_258 ⟨rfl, rfl, rfl⟩ ((hM.o gx trivial rfl).1.trans f_x_0) dX5_tryFrom_2 ?_
  case o0 => decide
  refine hb_icmp_lt (zx := 4) (zy := o0.toInt) (tgt := 16) hx hb ?o1 rfl dX5_tryFrom_5 ?o2 (fun c_1 => ?o3) (fun c_1 => ?_)
  case o1 => decide
  case o2 => decide
  case o3 =>
    exfalso
    omega
  have hdg9 := hp_B_e hB (show o0.toInt.toNat = 4 from ?o4)
  case o4 => omega
  refine lv_aload_n hx hb dX5_tryFrom_8 rfl (lv_at hl 0 rfl) ?_
  refine lv_iload_n hx hb dX5_tryFrom_9 rfl (lv_at hl 3 rfl) ?_
  refine lv_iload hx hb dX5_tryFrom_10 (lv_at hl 4 rfl) ?_
  refine hx_gov (hx_runV (As := [.int i3, .int i4]) (rest := []) ⟨hx, hb, hml, hown, hts⟩ hW (gx.S hM) tt_5 (T := TX5) (N := 13) rfl (t_X5_keepIfBetter_v l dC dI dA L h s.heap.size x i3 i4 hT (gx.S hM) qtd (gqtd.S hM) ((hM.o gx trivial rfl).2.trans f_x_8) qwl (gqwl.S hM) ((hM.o gx trivial rfl).2.trans f_x_3) trf (hx_afS hM gqtd rfl af_qtd) wkf af_qwl o0 ((hM.o gx trivial rfl).1.trans f_x_0) bl0 f_x_11 ba0 f_x_12 a un0.toInt (hp_dg o0.toInt.toNat K) (fun i hi => by unfold hp_w; rw [hdg9 i (by omega)]; exact htr i (by omega)) s5 hSR) (cwV 2 hts (hx_gV kw_973 kw_970 kw_972 kw_35 kw_100) rfl rfl rfl (by decide +kernel) ⟨Nat.le_of_ble_eq_true rfl, Nat.le_of_ble_eq_true rfl⟩) rfl hl.1 rfl (Nat.le_of_ble_eq_true rfl) dX5_tryFrom_12 ⟨Nat.le_of_ble_eq_true rfl, Nat.le_of_ble_eq_true rfl⟩) hW (fun L_2 h_3 H locs p_5 hW => ?_)
  obtain ⟨⟨w_7, w_8, w_9, fw_7, fw_8, fw_9, hr_6⟩, hT, hs⟩ := p_5
  replace hT : hx_T T_tb L_2 h_3 := hT
  replace hs : hx_S T_tb [(5, 11), (5, 12), (28, 0)] L h L_2 h_3 := hs
  replace hM := hM.tr (hs.mono ?o5)
  case o5 => decide
  have fw_7 : h_3.2.1 x 11 = w_7 := fw_7
  have bw_7 := hT.gi (gx.S hM) tt_5 (k := 11) rfl
  rw [fw_7] at bw_7
  have bw_7 : -2147483648 ≤ w_7.toInt ∧ w_7.toInt ≤ 2147483647 := bw_7
  have fw_8 : h_3.2.1 x 12 = w_8 := fw_8
  have bw_8 := hT.gi (gx.S hM) tt_5 (k := 12) rfl
  rw [fw_8] at bw_8
  have bw_8 : -2147483648 ≤ w_8.toInt ∧ w_8.toInt ≤ 2147483647 := bw_8
  have fw_9 : h_3.2.1 qwl = w_9 := fw_9
  exact hx_retv hx hb hr hlk hW ⟨⟨w_7, w_8, w_9, trf, fw_7, fw_8, fw_9, (hx_afS hM gqtd rfl af_qtd), ⟨(by rw [hp_leaf (show o0.toInt.toNat = 4 by omega) hdg9 hla hal (by have h9 := hfe; rw [show o0.toInt.toNat = 4 by omega] at h9; omega)]; exact hr_6), (fun i hi => rfl)⟩⟩, hT, hM⟩ dX5_tryFrom_15


set_option maxHeartbeats 4000000 in
set_option maxRecDepth 100000 in
theorem t_X5_tryFrom_3v (l : Launch) (dC : Nat → ClassId) (dI : Nat → Nat → Nat) (dA : Nat → ClassId) (L : List Nat) (h : hx_h) (sz : Nat) (b0 : hx_z) (x : Nat) (i2 : Int32) (i3 : Int32) (i4 : Int32) (hT : hx_T T_tb L h) (gx : hx_g L h x 5) (qle : Nat) (gqle : hx_g L h qle 32) (f_x_7 : h.2.2 x 7 = some qle) (qre : Nat) (gqre : hx_g L h qre 31) (f_x_6 : h.2.2 x 6 = some qre) (qtd : Nat) (gqtd : hx_g L h qtd 33) (f_x_8 : h.2.2 x 8 = some qtd) (qwl : Nat) (gqwl : hx_g L h qwl 28) (f_x_3 : h.2.2 x 3 = some qwl) (lef : Nat → Int32) (af_qle : h.2.1 qle = lef) (rsf : Nat → Int32) (af_qre : h.2.1 qre = rsf) (trf : Nat → Int32) (af_qtd : h.2.1 qtd = trf) (wkf : Nat → Int32) (af_qwl : h.2.1 qwl = wkf) (o0 : Int32) (f_x_0 : h.2.1 x 0 = o0) (un0 : Int32) (f_x_9 : h.2.1 x 9 = un0) (me0 : Int32) (f_x_10 : h.2.1 x 10 = me0) (bl0 : Int32) (f_x_11 : h.2.1 x 11 = bl0) (ba0 : Int32) (f_x_12 : h.2.1 x 12 = ba0) (a : Nat → Int) (ha : ∀ i : Nat, (i : Int) < o0.toInt → (lef i).toInt = a i) (hab : ∀ i : Nat, (i : Int) < o0.toInt → 1 ≤ a i ∧ a i ≤ 9999) (r : Nat → Int) (hr5 : ∀ i : Nat, (i : Int) < o0.toInt → (rsf i).toInt = r i) (hrb : ∀ i : Nat, (i : Int) < o0.toInt → 1 ≤ r i ∧ r i ≤ 609999) (hun : 1 ≤ un0.toInt ∧ un0.toInt ≤ 99) (M : Int) (hMe : 1 ≤ o0.toInt → M = me0.toInt) (hMb : M ≤ 9999) (hpn : 3 ≤ o0.toInt) (K : Nat) (m5 : Nat → Int) (hB : hp_B o0.toInt.toNat 3 K m5) (hsp : i2.toInt = hp_s (hp_w a un0.toInt m5) 3) (hla : i3.toInt = hp_m (hp_k a r un0.toInt m5) 3) (hal : i4.toInt = hp_s (hp_k a r un0.toInt m5) 3) (htr : ∀ i : Nat, i < 3 → (trf i).toInt = hp_w a un0.toInt m5 i) (hfe : i2.toInt + (hp_s a o0.toInt.toNat - hp_s a 3) ≤ M) (hi2 : 0 ≤ i2.toInt ∧ i2.toInt ≤ 9999) (hi3 : 0 ≤ i3.toInt ∧ i3.toInt ≤ 609999) (hi4 : 0 ≤ i4.toInt ∧ i4.toInt ≤ 1829997) (s5 : hp_S) (hSR : hp_SR s5 bl0.toInt ba0.toInt wkf a un0.toInt o0.toInt) : Met l yX5_tryFrom (Cond.code yX5_tryFrom cX5_tryFrom 9 none :: hx_all) ({ frames := 3, cells := 0, slots := 0, locals := 90 }) (va_Pc [.ref x, .int (3 : Int32), .int i2, .int i3, .int i4] (hx_BX T_tb (P_ty dA) (dC, dI) vwCl L h sz b0)) (va_Qv (fun (u : List Nat × hx_h) => (∃ (bl1 : Int32) (ba1 : Int32) (wkf1 : Nat → Int32) (trf1 : Nat → Int32), u.2.2.1 x 11 = bl1 ∧ u.2.2.1 x 12 = ba1 ∧ u.2.2.1 qwl = wkf1 ∧ u.2.2.1 qtd = trf1 ∧ (hp_SR (hp_F (hp_f a r un0.toInt M o0.toInt.toNat) (K * 13 ^ (o0.toInt.toNat - 3)) (13 ^ (o0.toInt.toNat - 3)) s5) bl1.toInt ba1.toInt wkf1 a un0.toInt o0.toInt ∧ ∀ i : Nat, i < 3 → trf1 i = trf i)) ∧ hx_T T_tb u.1 u.2 ∧ hx_S T_tb [(5, 11), (5, 12), (28, 0), (33, 0)] L h u.1 u.2) (hx_E T_tb (P_ty dA) (dC, dI) vwCl (hx_A L sz)) (hx_A L sz)) 0 0 (hx_A L sz) := by
  refine hx_metX (lv := [(0, .ref x), (1, .int (3 : Int32)), (2, .int i2), (3, .int i3), (4, .int i4)]) (by decide +kernel) rfl (Nat.le_of_ble_eq_true rfl) rfl ?_
  intro p e s m below meth c hx hb hml hr hlk hts0 hown hin hsz hW hZ ls hl
  have hts : ∀ w ∈ hx_all, w.before _ s = true := fun w hw => hts0 w (List.mem_cons_of_mem _ hw)
  have hown : s.vm.findClass "SmallCourt$Plan" = some m.cls := hown
  have hM : hx_S T_tb [(5, 11), (5, 12), (28, 0), (33, 0)] L h L h := hx_S.rf
  have b_o0 := hT.gi gx tt_5 (k := 0) rfl
  rw [f_x_0] at b_o0
  have b_o0 : 0 ≤ o0.toInt ∧ o0.toInt ≤ 4 := b_o0
  have b_un0 := hT.gi gx tt_5 (k := 9) rfl
  rw [f_x_9] at b_un0
  have b_un0 : -2147483648 ≤ un0.toInt ∧ un0.toInt ≤ 2147483647 := b_un0
  have b_me0 := hT.gi gx tt_5 (k := 10) rfl
  rw [f_x_10] at b_me0
  have b_me0 : -2147483648 ≤ me0.toInt ∧ me0.toInt ≤ 2147483647 := b_me0
  have b_bl0 := hT.gi gx tt_5 (k := 11) rfl
  rw [f_x_11] at b_bl0
  have b_bl0 : -2147483648 ≤ bl0.toInt ∧ bl0.toInt ≤ 2147483647 := b_bl0
  have b_ba0 := hT.gi gx tt_5 (k := 12) rfl
  rw [f_x_12] at b_ba0
  have b_ba0 : -2147483648 ≤ ba0.toInt ∧ ba0.toInt ≤ 2147483647 := b_ba0
  refine lv_iload_n hx hb dX5_tryFrom_0 rfl (lv_at hl 1 rfl) ?_
  refine lv_aload_n hx hb dX5_tryFrom_1 rfl (lv_at hl 0 rfl) ?_
  refine hk_geti hx hb hts hC_5 hown hW (gx.S hM) tt_5 0 ?o0 rfl kw_258 ⟨rfl, rfl, rfl⟩ ((hM.o gx trivial rfl).1.trans f_x_0) dX5_tryFrom_2 ?_
  case o0 => decide
  refine hb_icmp_lt (zx := 3) (zy := o0.toInt) (tgt := 16) hx hb ?o1 rfl dX5_tryFrom_5 ?o2 (fun c_1 => ?_) (fun c_1 => ?_)
  case o1 => decide
  case o2 => decide
  · skip
    have hD9 := hp_pw (n := o0.toInt.toNat) (p := 3) ?o3
    case o3 => omega
    refine lv_aload_n hx hb dX5_tryFrom_16 rfl (lv_at hl 0 rfl) ?_
    refine lv_iload_n hx hb dX5_tryFrom_17 rfl (lv_at hl 1 rfl) ?_
    refine lv_iconst (v := 1) hx hb dX5_tryFrom_18 ?o4 ?_
    case o4 => decide
    refine lv_iadd hx hb dX5_tryFrom_19 ?_
    refine lv_topi (fun x_2 ex_2 => ?_)
    obtain rfl : x_2 = (4 : Int32) := ex_2.trans (by decide)
    have zc_4 : (4 : Int32).toInt = 4 := ?o5
    case o5 => decide
    refine hx_goi (hx_runV (As := [.int (4 : Int32)]) (rest := []) ⟨hx, hb, hml, hown, hts⟩ hW (gx.S hM) tt_5 (T := TX5) (N := 13) rfl (t_X5_leastFrom_v l dC dI dA L h s.heap.size x (4 : Int32) hT (gx.S hM) qle (gqle.S hM) ((hM.o gx trivial rfl).2.trans f_x_7) lef (hx_afS hM gqle rfl af_qle) o0 ((hM.o gx trivial rfl).1.trans f_x_0) a ha hab ⟨?o6, ?o7⟩) (cwV 1 hts (hx_gV kw_964 kw_961 kw_963 kw_33 kw_100) rfl rfl rfl (by decide +kernel) ⟨Nat.le_of_ble_eq_true rfl, Nat.le_of_ble_eq_true rfl⟩) rfl hl.1 rfl (Nat.le_of_ble_eq_true rfl) dX5_tryFrom_20 ⟨Nat.le_of_ble_eq_true rfl, Nat.le_of_ble_eq_true rfl⟩) hW (fun r_5 L_3 h_4 H locs p_6 hW => ?_)
    case o6 => omega
    case o7 => omega
    obtain ⟨hr_7, hT, hs⟩ := p_6
    replace hT : hx_T T_tb L_3 h_4 := hT
    replace hs : hx_S T_tb [] L h L_3 h_4 := hs
    replace f_x_11 := (hs.o (gx.S hM) trivial rfl).1.trans f_x_11
    replace f_x_12 := (hs.o (gx.S hM) trivial rfl).1.trans f_x_12
    replace af_qtd : h_4.2.1 qtd = trf := (funext fun j => (hs.a (gqtd.S hM) rfl j).1).trans af_qtd
    replace af_qwl : h_4.2.1 qwl = wkf := (funext fun j => (hs.a (gqwl.S hM) rfl j).1).trans af_qwl
    replace hM := hM.tr (hs.mono ?o8)
    case o8 => decide
    have hlf9 := hr_7.1; rw [zc_4, show (4 : Int).toNat = 4 from rfl] at hlf9
    refine lv_istore (lv' := [(5, .int r_5), (0, .ref x), (1, .int (3 : Int32)), (2, .int i2), (3, .int i3), (4, .int i4)]) hx hb dX5_tryFrom_23 hl ?o9 rfl (fun ls hl => ?_)
    case o9 => decide
    refine lv_iconst (v := 0) hx hb dX5_tryFrom_25 ?o10 ?_
    case o10 => decide
    refine lv_istore (lv' := [(6, .int (0 : Int32)), (5, .int r_5), (0, .ref x), (1, .int (3 : Int32)), (2, .int i2), (3, .int i3), (4, .int i4)]) hx hb dX5_tryFrom_26 hl ?o11 rfl (fun ls hl => ?_)
    case o11 => decide
    have loop28 : ∀ (n28 : Nat) (iv28_6 fw28_x_11 fw28_x_12 : Int32) (ia28_qtd ia28_qwl : Nat → Int32) (H : Heap) (locs : List Loc) (hL1 : List Nat) (hl1 : hx_h), 0 ≤ iv28_6.toInt → iv28_6.toInt ≤ 13 → -2147483648 ≤ fw28_x_11.toInt → fw28_x_11.toInt ≤ 2147483647 → -2147483648 ≤ fw28_x_12.toInt → fw28_x_12.toInt ≤ 2147483647 → (hp_SR (hp_F (hp_f a r un0.toInt M o0.toInt.toNat) (K * (13 * 13 ^ (o0.toInt.toNat - 4))) ((iv28_6.toInt).toNat * 13 ^ (o0.toInt.toNat - 4)) s5) fw28_x_11.toInt fw28_x_12.toInt ia28_qwl a un0.toInt o0.toInt) → (∀ i : Nat, i < 3 → ia28_qtd i = trf i) → ∀ (ls : Array Slot), 13 - iv28_6.toInt < (n28 : Int) → hx_W T_tb (P_ty dA) (dC, dI) vwCl (hx_A L sz) s.heap hL1 hl1 s H locs → hx_T T_tb hL1 hl1 → hx_S T_tb [(5, 11), (5, 12), (28, 0), (33, 0)] L h hL1 hl1 → hl1.2.1 x 11 = fw28_x_11 → hl1.2.1 x 12 = fw28_x_12 → hl1.2.1 qtd = ia28_qtd → hl1.2.1 qwl = ia28_qwl → lv_has ls 9 [(6, .int iv28_6), (5, .int r_5), (0, .ref x), (1, .int (3 : Int32)), (2, .int i2), (3, .int i3), (4, .int i4)] → W p l e ({ frames := 3, cells := 0, slots := 0, locals := 90 }) s m ([.ref x, .int (3 : Int32), .int i2, .int i3, .int i4] : List Value).toArray below meth c H locs 0 0 (MQ below (va_Qv (fun (u : List Nat × hx_h) => (∃ (bl1 : Int32) (ba1 : Int32) (wkf1 : Nat → Int32) (trf1 : Nat → Int32), u.2.2.1 x 11 = bl1 ∧ u.2.2.1 x 12 = ba1 ∧ u.2.2.1 qwl = wkf1 ∧ u.2.2.1 qtd = trf1 ∧ (hp_SR (hp_F (hp_f a r un0.toInt M o0.toInt.toNat) (K * 13 ^ (o0.toInt.toNat - 3)) (13 ^ (o0.toInt.toNat - 3)) s5) bl1.toInt ba1.toInt wkf1 a un0.toInt o0.toInt ∧ ∀ i : Nat, i < 3 → trf1 i = trf i)) ∧ hx_T T_tb u.1 u.2 ∧ hx_S T_tb [(5, 11), (5, 12), (28, 0), (33, 0)] L h u.1 u.2) (hx_E T_tb (P_ty dA) (dC, dI) vwCl (hx_A L sz)) (hx_A L sz)) ([.ref x, .int (3 : Int32), .int i2, .int i3, .int i4] : List Value).toArray s 0 0 (hx_A L sz)) (F0 m 28 ls []) := by
      intro n28
      induction n28 with
      | zero => intro iv28_6 fw28_x_11 fw28_x_12 ia28_qtd ia28_qwl H locs hL1 hl1 bliv28_6 buiv28_6 blfw28_x_11 bufw28_x_11 blfw28_x_12 bufw28_x_12 vi28_0 vi28_1 ls hn28; exfalso; omega
      | succ n28 ih28 =>
        intro iv28_6 fw28_x_11 fw28_x_12 ia28_qtd ia28_qwl H locs hL1 hl1 bliv28_6 buiv28_6 blfw28_x_11 bufw28_x_11 blfw28_x_12 bufw28_x_12 vi28_0 vi28_1 ls hn28 hW hT hM ffw28_x_11 ffw28_x_12 nia28_qtd nia28_qwl hl
        refine lv_iload hx hb dX5_tryFrom_28 (lv_at hl 0 rfl) ?_
        refine lv_bipush (v := 12) hx hb dX5_tryFrom_30 ?o12 ?_
        case o12 => decide
        refine hb_icmp_gt (zx := iv28_6.toInt) (zy := 12) (tgt := 124) hx hb rfl ?o13 dX5_tryFrom_32 ?o14 (fun c_8 => ?_) (fun c_8 => ?_)
        case o13 => decide
        case o14 => decide
        · skip
          exact hx_retv hx hb hr hlk hW ⟨⟨fw28_x_11, fw28_x_12, ia28_qwl, ia28_qtd, ffw28_x_11, ffw28_x_12, nia28_qwl, nia28_qtd, ⟨(by rw [hD9]; have h9 := vi28_0; rw [show iv28_6.toInt.toNat = 13 by omega] at h9; exact h9), vi28_1⟩⟩, hT, hM⟩ dX5_tryFrom_124
        · skip
          refine lv_aload_n hx hb dX5_tryFrom_35 rfl (lv_at hl 2 rfl) ?_
          refine hk_getr hx hb hts hC_5 hown hW (gx.S hM) tt_5 7 ?o15 rfl kw_270 ⟨rfl, rfl, rfl⟩ ((hM.o gx trivial rfl).2.trans f_x_7) dX5_tryFrom_36 ?_
          case o15 => decide
          refine lv_iload_n hx hb dX5_tryFrom_39 rfl (lv_at hl 3 rfl) ?_
          refine hx_iald hx hb hW hT (gqle.S hM) tt_32 rfl ?o16 dX5_tryFrom_40 (fun x_9 ex_9 lx_9 ux_9 => ?_)
          case o16 => decide
          have ax_9 : x_9 = lef (3 : Int32).toNatClampNeg := ex_9.trans (congrFun (hx_afS hM gqle rfl af_qle) _)
          have hav9 : x_9.toInt = a 3 := ?o17
          case o17 =>
            rw [ax_9, show (3 : Int32).toNatClampNeg = 3 from by decide]
            refine ha 3 ?o18
            case o18 => omega
          have hab9 := hab 3 (by omega); rw [← hav9] at hab9
          refine lv_iload hx hb dX5_tryFrom_41 (lv_at hl 0 rfl) ?_
          refine lv_aload_n hx hb dX5_tryFrom_43 rfl (lv_at hl 2 rfl) ?_
          refine hk_geti hx hb hts hC_5 hown hW (gx.S hM) tt_5 9 ?o19 rfl kw_272 ⟨rfl, rfl, rfl⟩ ((hM.o gx trivial rfl).1.trans f_x_9) dX5_tryFrom_44 ?_
          case o19 => decide
          refine lv_imul hx hb dX5_tryFrom_47 ?_
          refine lv_topi (fun x_10 ex_10 => ?_)
          have mx_10 : iv28_6.toInt = 0 → x_10.toInt = 0 := fun z => by rw [ex_10]; exact hx_mul0 z
          obtain ⟨m9, m9l, m9h⟩ := hp_mul ⟨by omega, by omega⟩ ⟨by omega, by omega⟩ ex_10
          refine lv_iadd hx hb dX5_tryFrom_48 ?_
          have rg_11 := i32_r x_9
          have rg_12 := i32_r x_10
          refine lv_topi (fun x_13 ex_13 => ?_)
          have zx_13 : x_13.toInt = x_9.toInt + x_10.toInt := ?o20
          case o20 =>
            rw [ex_13]
            refine i32_add rfl rfl ?o21 ?o22
            case o21 => omega
            case o22 => omega
          refine lv_istore (lv' := [(7, .int x_13), (6, .int iv28_6), (5, .int r_5), (0, .ref x), (1, .int (3 : Int32)), (2, .int i2), (3, .int i3), (4, .int i4)]) hx hb dX5_tryFrom_49 hl ?o23 rfl (fun ls hl => ?_)
          case o23 => decide
          have hw9 : x_13.toInt = hp_w a un0.toInt (fun i => if i = 3 then iv28_6.toInt else m5 i) 3 := ?o24
          case o24 =>
            show x_13.toInt = a 3 + (if 3 = 3 then iv28_6.toInt else m5 3) * un0.toInt
            rw [if_pos rfl, ← m9, ← hav9]
            omega
          have hj9 : ((iv28_6.toInt.toNat : Nat) : Int) = iv28_6.toInt := ?o25
          case o25 => omega
          refine lv_iload_n hx hb dX5_tryFrom_51 rfl (lv_at hl 5 rfl) ?_
          refine lv_iload hx hb dX5_tryFrom_52 (lv_at hl 0 rfl) ?_
          refine lv_iadd hx hb dX5_tryFrom_54 ?_
          have rg_14 := i32_r i2
          have rg_15 := i32_r x_13
          refine lv_topi (fun x_16 ex_16 => ?_)
          have zx_16 : x_16.toInt = i2.toInt + x_13.toInt := ?o26
          case o26 =>
            rw [ex_16]
            refine i32_add rfl rfl ?o27 ?o28
            case o27 => omega
            case o28 => omega
          refine lv_iload hx hb dX5_tryFrom_55 (lv_at hl 2 rfl) ?_
          refine lv_iadd hx hb dX5_tryFrom_57 ?_
          have rg_17 := i32_r x_16
          have rg_18 := i32_r r_5
          refine lv_topi (fun x_19 ex_19 => ?_)
          have zx_19 : x_19.toInt = x_16.toInt + r_5.toInt := ?o29
          case o29 =>
            rw [ex_19]
            refine i32_add rfl rfl ?o30 ?o31
            case o30 => omega
            case o31 => omega
          refine lv_aload_n hx hb dX5_tryFrom_58 rfl (lv_at hl 3 rfl) ?_
          refine hk_geti hx hb hts hC_5 hown hW (gx.S hM) tt_5 10 ?o32 rfl kw_273 ⟨rfl, rfl, rfl⟩ ((hM.o gx trivial rfl).1.trans f_x_10) dX5_tryFrom_59 ?_
          case o32 => decide
          refine hb_icmp_le (zx := x_19.toInt) (zy := me0.toInt) (tgt := 66) hx hb rfl rfl dX5_tryFrom_62 ?o33 (fun c_20 => ?_) (fun c_20 => ?_)
          case o33 => decide
          · skip
            refine lv_aload_n hx hb dX5_tryFrom_66 rfl (lv_at hl 3 rfl) ?_
            refine hk_getr hx hb hts hC_5 hown hW (gx.S hM) tt_5 6 ?o34 rfl kw_269 ⟨rfl, rfl, rfl⟩ ((hM.o gx trivial rfl).2.trans f_x_6) dX5_tryFrom_67 ?_
            case o34 => decide
            refine lv_iload_n hx hb dX5_tryFrom_70 rfl (lv_at hl 4 rfl) ?_
            refine hx_iald hx hb hW hT (gqre.S hM) tt_31 rfl ?o35 dX5_tryFrom_71 (fun x_21 ex_21 lx_21 ux_21 => ?_)
            case o35 => decide
            have ax_21 : x_21 = rsf (3 : Int32).toNatClampNeg := ex_21.trans (congrFun (hx_afS hM gqre rfl af_qre) _)
            have hrv9 : x_21.toInt = r 3 := ?o36
            case o36 =>
              rw [ax_21, show (3 : Int32).toNatClampNeg = 3 from by decide]
              refine hr5 3 ?o37
              case o37 => omega
            have hrb9 := hrb 3 (by omega); rw [← hrv9] at hrb9
            refine lv_iload hx hb dX5_tryFrom_72 (lv_at hl 0 rfl) ?_
            refine hx_goi (hx_runSN (As := [.int x_21, .int x_13]) (rest := []) ⟨hx, hb, hml, hown, hts⟩ hW (t_X9_roundUp_v l dC dI dA hL1 hl1 H.size x_21 x_13 hT) ⟨va_cnB 2 hts (hx_gC kw_921) rfl rfl rfl (hZ.1 _ (List.mem_of_getElem? (i := 10) rfl)) (hts _ kw_94) (by decide +kernel) ⟨Nat.le_of_ble_eq_true rfl, Nat.le_of_ble_eq_true rfl⟩, hts _ kw_920, trivial⟩ rfl hl.1 rfl (Nat.le_of_ble_eq_true rfl) dX5_tryFrom_74 ⟨Nat.le_of_ble_eq_true rfl, Nat.le_of_ble_eq_true rfl⟩) hW (fun r_24 L_22 h_23 H locs p_25 hW => ?_)
            obtain ⟨hr_26, hT, hs⟩ := p_25
            replace hT : hx_T T_tb L_22 h_23 := hT
            replace hs : hx_S T_tb [] hL1 hl1 L_22 h_23 := hs
            replace ffw28_x_11 := (hs.o (gx.S hM) trivial rfl).1.trans ffw28_x_11
            replace ffw28_x_12 := (hs.o (gx.S hM) trivial rfl).1.trans ffw28_x_12
            replace nia28_qtd : h_23.2.1 qtd = ia28_qtd := (funext fun j => (hs.a (gqtd.S hM) rfl j).1).trans nia28_qtd
            replace nia28_qwl : h_23.2.1 qwl = ia28_qwl := (funext fun j => (hs.a (gqwl.S hM) rfl j).1).trans nia28_qwl
            replace ex_9 := ex_9.trans (hs.a (gqle.S hM) rfl _).1.symm
            replace ex_21 := ex_21.trans (hs.a (gqre.S hM) rfl _).1.symm
            replace hM := hM.tr (hs.mono ?o38)
            case o38 => decide
            have hk9 : r_24.toInt = hp_k a r un0.toInt (fun i => if i = 3 then iv28_6.toInt else m5 i) 3 := ?o39
            case o39 =>
              unfold hp_k
              rw [← hw9, ← hrv9]
              exact hr_26
            have hkb9 : 0 ≤ r_24.toInt ∧ r_24.toInt ≤ 609999 := ?o40
            case o40 =>
              have h9 := hz_ru_b (s := x_21.toInt) (b := x_13.toInt)
              rw [← hr_26] at h9
              omega
            refine lv_istore (lv' := [(8, .int r_24), (7, .int x_13), (6, .int iv28_6), (5, .int r_5), (0, .ref x), (1, .int (3 : Int32)), (2, .int i2), (3, .int i3), (4, .int i4)]) hx hb dX5_tryFrom_77 hl ?o41 rfl (fun ls hl => ?_)
            case o41 => decide
            refine lv_aload_n hx hb dX5_tryFrom_79 rfl (lv_at hl 4 rfl) ?_
            refine hk_getr hx hb hts hC_5 hown hW (gx.S hM) tt_5 8 ?o42 rfl kw_271 ⟨rfl, rfl, rfl⟩ ((hM.o gx trivial rfl).2.trans f_x_8) dX5_tryFrom_80 ?_
            case o42 => decide
            refine lv_iload_n hx hb dX5_tryFrom_83 rfl (lv_at hl 5 rfl) ?_
            refine lv_iload hx hb dX5_tryFrom_84 (lv_at hl 1 rfl) ?_
            have nia28_qtdO := nia28_qtd
            refine hx_iast hx hb hW hT (hx_S.rf (M := [(33, 0)])) (gqtd.S hM) tt_33 rfl ?o43 rfl (i32_r _) (List.mem_singleton.mpr rfl) dX5_tryFrom_86 (fun H locs h_27 eh_27 hW hT hs => ?_)
            case o43 => decide
            replace ffw28_x_11 := (hs.o (gx.S hM) trivial rfl).1.trans ffw28_x_11
            replace ffw28_x_12 := (hs.o (gx.S hM) trivial rfl).1.trans ffw28_x_12
            replace nia28_qwl : h_27.2.1 qwl = ia28_qwl := (funext fun j => (hs.a (gqwl.S hM) rfl j).1).trans nia28_qwl
            replace ex_9 := ex_9.trans (hs.a (gqle.S hM) rfl _).1.symm
            replace ex_21 := ex_21.trans (hs.a (gqre.S hM) rfl _).1.symm
            replace hM := hM.tr (hs.mono ?o44)
            case o44 => decide
            obtain ⟨fa_28, dfa_28⟩ : ∃ g : Nat → Int32, g = hx_up ia28_qtd (3 : Int32).toNatClampNeg x_13 := ⟨_, rfl⟩
            have nfa_28 : h_27.2.1 qtd = fa_28 := ?o45
            case o45 =>
              rw [eh_27, dfa_28, ← nia28_qtdO]
              exact hx_pi_fun _ _ _ _
            have htr9 : ∀ i : Nat, i < 4 → (fa_28 i).toInt = hp_w a un0.toInt (fun i => if i = 3 then iv28_6.toInt else m5 i) i := fun i hi => by by_cases z : i = 3; (subst z; rw [dfa_28, show (3 : Int32).toNatClampNeg = 3 from by decide, hx_up_at]; exact hw9); (rw [dfa_28, hx_up_ne (by rw [show (3 : Int32).toNatClampNeg = 3 from by decide]; exact z), vi28_1 i (by omega)]; show _ = a i + (if i = 3 then iv28_6.toInt else m5 i) * un0.toInt; rw [if_neg z]; exact htr i (by omega))
            have htc9 : ∀ i : Nat, i < 3 → fa_28 i = trf i := fun i hi => by rw [dfa_28, hx_up_ne (by rw [show (3 : Int32).toNatClampNeg = 3 from by decide]; omega)]; exact vi28_1 i hi
            refine lv_iload hx hb dX5_tryFrom_87 (lv_at hl 0 rfl) ?_
            refine lv_aload_n hx hb dX5_tryFrom_89 rfl (lv_at hl 4 rfl) ?_
            refine hk_geti hx hb hts hC_5 hown hW (gx.S hM) tt_5 11 ?o46 rfl kw_274 ⟨rfl, rfl, rfl⟩ ffw28_x_11 dX5_tryFrom_90 ?_
            case o46 => decide
            refine hb_icmp_gt (zx := r_24.toInt) (zy := fw28_x_11.toInt) (tgt := 118) hx hb rfl rfl dX5_tryFrom_93 ?o47 (fun c_29 => ?_) (fun c_29 => ?_)
            case o47 => decide
            · skip
              obtain ⟨x_30, ex_30⟩ : ∃ y : Int32, y = iv28_6 + Int32.ofInt 1 := ⟨_, rfl⟩
              have rg_31 := i32_r iv28_6
              have zx_30 : x_30.toInt = iv28_6.toInt + (1) := ?o48
              case o48 =>
                rw [ex_30]
                refine i32_add rfl ?o49 ?o50 ?o51
                case o49 => decide
                case o50 => omega
                case o51 => omega
              refine lv_iinc (v := x_30) (lv' := [(6, .int x_30), (8, .int r_24), (7, .int x_13), (5, .int r_5), (0, .ref x), (1, .int (3 : Int32)), (2, .int i2), (3, .int i3), (4, .int i4)]) hx hb dX5_tryFrom_118 hl (k := 2) rfl ex_30.symm ?o52 rfl (fun ls hl => ?_)
              case o52 => decide
              refine lv_goto (tgt := 28) hx hb dX5_tryFrom_121 ?o53 ?_
              case o53 => decide
              refine ih28 x_30 fw28_x_11 fw28_x_12 fa_28 ia28_qwl _ _ L_22 h_27 ?o54 ?o55 (i32_r _).1 (i32_r _).2 (i32_r _).1 (i32_r _).2 (by rw [show x_30.toInt.toNat = iv28_6.toInt.toNat + 1 by omega, hp_skip (by omega) (by omega) rfl (y := r_24.toInt) (by rw [hj9, ← hrv9, ← hav9, ← m9, show x_9.toInt + x_10.toInt = x_13.toInt by omega]; exact hr_26) (by rw [vi28_0.1]; omega)]; exact vi28_0) htc9 ls ?o56 hW hT hM ffw28_x_11 ffw28_x_12 nfa_28 nia28_qwl (lv_sub hl [0, 3, 4, 5, 6, 7, 8] rfl)
              case o54 => omega
              case o55 => omega
              case o56 => omega
            · skip
              refine lv_aload_n hx hb dX5_tryFrom_96 rfl (lv_at hl 4 rfl) ?_
              refine lv_iload_n hx hb dX5_tryFrom_97 rfl (lv_at hl 5 rfl) ?_
              refine lv_iconst (v := 1) hx hb dX5_tryFrom_98 ?o57 ?_
              case o57 => decide
              refine lv_iadd hx hb dX5_tryFrom_99 ?_
              refine lv_topi (fun x_32 ex_32 => ?_)
              obtain rfl : x_32 = (4 : Int32) := ex_32.trans (by decide)
              refine lv_iload_n hx hb dX5_tryFrom_100 rfl (lv_at hl 6 rfl) ?_
              refine lv_iload hx hb dX5_tryFrom_101 (lv_at hl 1 rfl) ?_
              refine lv_iadd hx hb dX5_tryFrom_103 ?_
              refine lv_topi (fun x_33 ex_33 => ?_)
              have zx_33 : x_33.toInt = i2.toInt + x_13.toInt := ?o58
              case o58 =>
                rw [ex_33]
                refine i32_add rfl rfl ?o59 ?o60
                case o59 => omega
                case o60 => omega
              refine lv_iload_n hx hb dX5_tryFrom_104 rfl (lv_at hl 7 rfl) ?_
              refine lv_iload hx hb dX5_tryFrom_105 (lv_at hl 0 rfl) ?_
              refine va_mmax hx hb (hml.trans hl.1.symm) hown (hts _ kw_976) (hts _ kw_882) (hts _ kw_109) (hts _ kw_883) (Nat.le_of_ble_eq_true rfl) (Nat.le_of_ble_eq_true rfl) (Nat.le_of_ble_eq_true rfl) (Nat.le_of_ble_eq_true rfl) dX5_tryFrom_107 ?_
              refine lv_topi (fun x_34 ex_34 => ?_)
              have hmx9 := hz_mx_e ex_34
              refine lv_iload hx hb dX5_tryFrom_110 (lv_at hl 8 rfl) ?_
              refine lv_iload hx hb dX5_tryFrom_112 (lv_at hl 0 rfl) ?_
              refine lv_iadd hx hb dX5_tryFrom_114 ?_
              have rg_35 := i32_r i4
              have rg_36 := i32_r r_24
              refine lv_topi (fun x_37 ex_37 => ?_)
              have zx_37 : x_37.toInt = i4.toInt + r_24.toInt := ?o61
              case o61 =>
                rw [ex_37]
                refine i32_add rfl rfl ?o62 ?o63
                case o62 => omega
                case o63 => omega
              refine hx_gov (hx_runVX (As := [.int (4 : Int32), .int x_33, .int x_34, .int x_37]) (rest := []) ⟨hx, hb, hml, hown, hts⟩ hW (gx.S hM) tt_5 (T := TX5) (N := 13) rfl (t_X5_tryFrom_4v l dC dI dA L_22 h_27 H.size b0 x x_33 x_34 x_37 hT (gx.S hM) qle (gqle.S hM) ((hM.o gx trivial rfl).2.trans f_x_7) qre (gqre.S hM) ((hM.o gx trivial rfl).2.trans f_x_6) qtd (gqtd.S hM) ((hM.o gx trivial rfl).2.trans f_x_8) qwl (gqwl.S hM) ((hM.o gx trivial rfl).2.trans f_x_3) lef (hx_afS hM gqle rfl af_qle) rsf (hx_afS hM gqre rfl af_qre) fa_28 nfa_28 ia28_qwl nia28_qwl o0 ((hM.o gx trivial rfl).1.trans f_x_0) un0 ((hM.o gx trivial rfl).1.trans f_x_9) me0 ((hM.o gx trivial rfl).1.trans f_x_10) fw28_x_11 ffw28_x_11 fw28_x_12 ffw28_x_12 a ha hab r hr5 hrb hun M hMe hMb ?o64 (13 * K + iv28_6.toInt.toNat) (fun i => if i = 3 then iv28_6.toInt else m5 i) (hp_B_s hB ?o65 ?o66 (fun i hi => if_neg ?o67) (by show (if 3 = 3 then iv28_6.toInt else m5 3) = _; rw [if_pos rfl]; omega)) (hp_ss hsp (fun i hi => by show a i + (if i = 3 then iv28_6.toInt else m5 i) * un0.toInt = _; rw [if_neg (by omega)]; rfl) (by rw [← hw9]; omega)) (hp_mm hla (fun i hi => by show hz_ru (r i) (a i + (if i = 3 then iv28_6.toInt else m5 i) * un0.toInt) = _; rw [if_neg (by omega)]; rfl) (by rw [← hk9]; omega)) (hp_ss hal (fun i hi => by show hz_ru (r i) (a i + (if i = 3 then iv28_6.toInt else m5 i) * un0.toInt) = _; rw [if_neg (by omega)]; rfl) (by rw [← hk9]; omega)) htr9 (by have h9 := hMe (by omega); rw [← hlf9]; omega) ⟨?o68, ?o69⟩ ⟨?o70, ?o71⟩ ⟨?o72, ?o73⟩ _ vi28_0) hZ (cwV 4 hts (hx_gV kw_969 kw_966 kw_968 kw_34 kw_100) rfl rfl rfl (by decide +kernel) ⟨Nat.le_of_ble_eq_true rfl, Nat.le_of_ble_eq_true rfl⟩) rfl hl.1 rfl (Nat.le_of_ble_eq_true rfl) dX5_tryFrom_115 ⟨Nat.le_of_ble_eq_true rfl, Nat.le_of_ble_eq_true rfl⟩) hW (fun L_38 h_39 H locs p_41 hW => ?_)
              case o64 => omega
              case o65 => omega
              case o66 => omega
              case o67 => omega
              case o68 => omega
              case o69 => omega
              case o70 => omega
              case o71 => omega
              case o72 => omega
              case o73 => omega
              obtain ⟨⟨w_43, w_44, w_45, w_46, fw_43, fw_44, fw_45, fw_46, hr_42⟩, hT, hs⟩ := p_41
              replace hT : hx_T T_tb L_38 h_39 := hT
              replace hs : hx_S T_tb [(5, 11), (5, 12), (28, 0)] L_22 h_27 L_38 h_39 := hs
              replace nfa_28 : h_39.2.1 qtd = fa_28 := (funext fun j => (hs.a (gqtd.S hM) rfl j).1).trans nfa_28
              replace ex_9 := ex_9.trans (hs.a (gqle.S hM) rfl _).1.symm
              replace ex_21 := ex_21.trans (hs.a (gqre.S hM) rfl _).1.symm
              replace hM := hM.tr (hs.mono ?o74)
              case o74 => decide
              have fw_43 : h_39.2.1 x 11 = w_43 := fw_43
              have bw_43 := hT.gi (gx.S hM) tt_5 (k := 11) rfl
              rw [fw_43] at bw_43
              have bw_43 : -2147483648 ≤ w_43.toInt ∧ w_43.toInt ≤ 2147483647 := bw_43
              have fw_44 : h_39.2.1 x 12 = w_44 := fw_44
              have bw_44 := hT.gi (gx.S hM) tt_5 (k := 12) rfl
              rw [fw_44] at bw_44
              have bw_44 : -2147483648 ≤ w_44.toInt ∧ w_44.toInt ≤ 2147483647 := bw_44
              have fw_45 : h_39.2.1 qwl = w_45 := fw_45
              have fw_46 : h_39.2.1 qtd = w_46 := fw_46
              obtain ⟨x_47, ex_47⟩ : ∃ y : Int32, y = iv28_6 + Int32.ofInt 1 := ⟨_, rfl⟩
              have rg_48 := i32_r iv28_6
              have zx_47 : x_47.toInt = iv28_6.toInt + (1) := ?o75
              case o75 =>
                rw [ex_47]
                refine i32_add rfl ?o76 ?o77 ?o78
                case o76 => decide
                case o77 => omega
                case o78 => omega
              refine lv_iinc (v := x_47) (lv' := [(6, .int x_47), (8, .int r_24), (7, .int x_13), (5, .int r_5), (0, .ref x), (1, .int (3 : Int32)), (2, .int i2), (3, .int i3), (4, .int i4)]) hx hb dX5_tryFrom_118 hl (k := 2) rfl ex_47.symm ?o79 rfl (fun ls hl => ?_)
              case o79 => decide
              refine lv_goto (tgt := 28) hx hb dX5_tryFrom_121 ?o80 ?_
              case o80 => decide
              refine ih28 x_47 w_43 w_44 w_46 w_45 _ _ L_38 h_39 ?o81 ?o82 (i32_r _).1 (i32_r _).2 (i32_r _).1 (i32_r _).2 (by rw [show x_47.toInt.toNat = iv28_6.toInt.toNat + 1 by omega, hp_F_blk]; exact hr_42.1) (fun i hi => (hr_42.2 i ?o83).trans (htc9 i hi)) ls ?o84 hW hT hM fw_43 fw_44 fw_46 fw_45 (lv_sub hl [0, 3, 4, 5, 6, 7, 8] rfl)
              case o81 => omega
              case o82 => omega
              case o83 => omega
              case o84 => omega
          · skip
            exact hx_retv hx hb hr hlk hW ⟨⟨fw28_x_11, fw28_x_12, ia28_qwl, ia28_qtd, ffw28_x_11, ffw28_x_12, nia28_qwl, nia28_qtd, ⟨(by rw [hD9, hp_F_end (j := iv28_6.toInt.toNat) (by omega) rfl (fun k9 h0 h1 => hp_inf hB (by omega) (by omega) (by omega) hsp (by have h9 := hMe (by omega); rw [hj9, ← m9, ← hav9, ← hlf9]; omega) h0 h1)]; exact vi28_0), vi28_1⟩⟩, hT, hM⟩ dX5_tryFrom_65
    have zk_0 : (0 : Int32).toInt = 0 := ?o85
    case o85 => decide
    refine loop28 14 (0 : Int32) bl0 ba0 trf wkf _ _ L_3 h_4 ?o86 ?o87 (i32_r _).1 (i32_r _).2 (i32_r _).1 (i32_r _).2 (by rw [zk_0, Int.toNat_zero, Nat.zero_mul]; exact hSR) (fun i hi => rfl) ls ?o88 hW hT hM f_x_11 f_x_12 af_qtd af_qwl hl
    case o86 => decide
    case o87 => decide
    case o88 => omega
  · skip
    have hdg9 := hp_B_e hB (show o0.toInt.toNat = 3 from ?o89)
    case o89 => omega
    refine lv_aload_n hx hb dX5_tryFrom_8 rfl (lv_at hl 0 rfl) ?_
    refine lv_iload_n hx hb dX5_tryFrom_9 rfl (lv_at hl 3 rfl) ?_
    refine lv_iload hx hb dX5_tryFrom_10 (lv_at hl 4 rfl) ?_
    refine hx_gov (hx_runV (As := [.int i3, .int i4]) (rest := []) ⟨hx, hb, hml, hown, hts⟩ hW (gx.S hM) tt_5 (T := TX5) (N := 13) rfl (t_X5_keepIfBetter_v l dC dI dA L h s.heap.size x i3 i4 hT (gx.S hM) qtd (gqtd.S hM) ((hM.o gx trivial rfl).2.trans f_x_8) qwl (gqwl.S hM) ((hM.o gx trivial rfl).2.trans f_x_3) trf af_qtd wkf af_qwl o0 ((hM.o gx trivial rfl).1.trans f_x_0) bl0 f_x_11 ba0 f_x_12 a un0.toInt (hp_dg o0.toInt.toNat K) (fun i hi => by unfold hp_w; rw [hdg9 i (by omega)]; exact htr i (by omega)) s5 hSR) (cwV 2 hts (hx_gV kw_973 kw_970 kw_972 kw_35 kw_100) rfl rfl rfl (by decide +kernel) ⟨Nat.le_of_ble_eq_true rfl, Nat.le_of_ble_eq_true rfl⟩) rfl hl.1 rfl (Nat.le_of_ble_eq_true rfl) dX5_tryFrom_12 ⟨Nat.le_of_ble_eq_true rfl, Nat.le_of_ble_eq_true rfl⟩) hW (fun L_49 h_50 H locs p_52 hW => ?_)
    obtain ⟨⟨w_54, w_55, w_56, fw_54, fw_55, fw_56, hr_53⟩, hT, hs⟩ := p_52
    replace hT : hx_T T_tb L_49 h_50 := hT
    replace hs : hx_S T_tb [(5, 11), (5, 12), (28, 0)] L h L_49 h_50 := hs
    replace af_qtd : h_50.2.1 qtd = trf := (funext fun j => (hs.a (gqtd.S hM) rfl j).1).trans af_qtd
    replace hM := hM.tr (hs.mono ?o90)
    case o90 => decide
    have fw_54 : h_50.2.1 x 11 = w_54 := fw_54
    have bw_54 := hT.gi (gx.S hM) tt_5 (k := 11) rfl
    rw [fw_54] at bw_54
    have bw_54 : -2147483648 ≤ w_54.toInt ∧ w_54.toInt ≤ 2147483647 := bw_54
    have fw_55 : h_50.2.1 x 12 = w_55 := fw_55
    have bw_55 := hT.gi (gx.S hM) tt_5 (k := 12) rfl
    rw [fw_55] at bw_55
    have bw_55 : -2147483648 ≤ w_55.toInt ∧ w_55.toInt ≤ 2147483647 := bw_55
    have fw_56 : h_50.2.1 qwl = w_56 := fw_56
    exact hx_retv hx hb hr hlk hW ⟨⟨w_54, w_55, w_56, trf, fw_54, fw_55, fw_56, af_qtd, ⟨(by rw [hp_leaf (show o0.toInt.toNat = 3 by omega) hdg9 hla hal (by have h9 := hfe; rw [show o0.toInt.toNat = 3 by omega] at h9; omega)]; exact hr_53), (fun i hi => rfl)⟩⟩, hT, hM⟩ dX5_tryFrom_15


set_option maxHeartbeats 4000000 in
set_option maxRecDepth 100000 in
theorem t_X5_tryFrom_2v (l : Launch) (dC : Nat → ClassId) (dI : Nat → Nat → Nat) (dA : Nat → ClassId) (L : List Nat) (h : hx_h) (sz : Nat) (b0 : hx_z) (x : Nat) (i2 : Int32) (i3 : Int32) (i4 : Int32) (hT : hx_T T_tb L h) (gx : hx_g L h x 5) (qle : Nat) (gqle : hx_g L h qle 32) (f_x_7 : h.2.2 x 7 = some qle) (qre : Nat) (gqre : hx_g L h qre 31) (f_x_6 : h.2.2 x 6 = some qre) (qtd : Nat) (gqtd : hx_g L h qtd 33) (f_x_8 : h.2.2 x 8 = some qtd) (qwl : Nat) (gqwl : hx_g L h qwl 28) (f_x_3 : h.2.2 x 3 = some qwl) (lef : Nat → Int32) (af_qle : h.2.1 qle = lef) (rsf : Nat → Int32) (af_qre : h.2.1 qre = rsf) (trf : Nat → Int32) (af_qtd : h.2.1 qtd = trf) (wkf : Nat → Int32) (af_qwl : h.2.1 qwl = wkf) (o0 : Int32) (f_x_0 : h.2.1 x 0 = o0) (un0 : Int32) (f_x_9 : h.2.1 x 9 = un0) (me0 : Int32) (f_x_10 : h.2.1 x 10 = me0) (bl0 : Int32) (f_x_11 : h.2.1 x 11 = bl0) (ba0 : Int32) (f_x_12 : h.2.1 x 12 = ba0) (a : Nat → Int) (ha : ∀ i : Nat, (i : Int) < o0.toInt → (lef i).toInt = a i) (hab : ∀ i : Nat, (i : Int) < o0.toInt → 1 ≤ a i ∧ a i ≤ 9999) (r : Nat → Int) (hr5 : ∀ i : Nat, (i : Int) < o0.toInt → (rsf i).toInt = r i) (hrb : ∀ i : Nat, (i : Int) < o0.toInt → 1 ≤ r i ∧ r i ≤ 609999) (hun : 1 ≤ un0.toInt ∧ un0.toInt ≤ 99) (M : Int) (hMe : 1 ≤ o0.toInt → M = me0.toInt) (hMb : M ≤ 9999) (hpn : 2 ≤ o0.toInt) (K : Nat) (m5 : Nat → Int) (hB : hp_B o0.toInt.toNat 2 K m5) (hsp : i2.toInt = hp_s (hp_w a un0.toInt m5) 2) (hla : i3.toInt = hp_m (hp_k a r un0.toInt m5) 2) (hal : i4.toInt = hp_s (hp_k a r un0.toInt m5) 2) (htr : ∀ i : Nat, i < 2 → (trf i).toInt = hp_w a un0.toInt m5 i) (hfe : i2.toInt + (hp_s a o0.toInt.toNat - hp_s a 2) ≤ M) (hi2 : 0 ≤ i2.toInt ∧ i2.toInt ≤ 9999) (hi3 : 0 ≤ i3.toInt ∧ i3.toInt ≤ 609999) (hi4 : 0 ≤ i4.toInt ∧ i4.toInt ≤ 1219998) (s5 : hp_S) (hSR : hp_SR s5 bl0.toInt ba0.toInt wkf a un0.toInt o0.toInt) : Met l yX5_tryFrom (Cond.code yX5_tryFrom cX5_tryFrom 9 none :: hx_all) ({ frames := 4, cells := 0, slots := 0, locals := 118 }) (va_Pc [.ref x, .int (2 : Int32), .int i2, .int i3, .int i4] (hx_BX T_tb (P_ty dA) (dC, dI) vwCl L h sz b0)) (va_Qv (fun (u : List Nat × hx_h) => (∃ (bl1 : Int32) (ba1 : Int32) (wkf1 : Nat → Int32) (trf1 : Nat → Int32), u.2.2.1 x 11 = bl1 ∧ u.2.2.1 x 12 = ba1 ∧ u.2.2.1 qwl = wkf1 ∧ u.2.2.1 qtd = trf1 ∧ (hp_SR (hp_F (hp_f a r un0.toInt M o0.toInt.toNat) (K * 13 ^ (o0.toInt.toNat - 2)) (13 ^ (o0.toInt.toNat - 2)) s5) bl1.toInt ba1.toInt wkf1 a un0.toInt o0.toInt ∧ ∀ i : Nat, i < 2 → trf1 i = trf i)) ∧ hx_T T_tb u.1 u.2 ∧ hx_S T_tb [(5, 11), (5, 12), (28, 0), (33, 0)] L h u.1 u.2) (hx_E T_tb (P_ty dA) (dC, dI) vwCl (hx_A L sz)) (hx_A L sz)) 0 0 (hx_A L sz) := by
  refine hx_metX (lv := [(0, .ref x), (1, .int (2 : Int32)), (2, .int i2), (3, .int i3), (4, .int i4)]) (by decide +kernel) rfl (Nat.le_of_ble_eq_true rfl) rfl ?_
  intro p e s m below meth c hx hb hml hr hlk hts0 hown hin hsz hW hZ ls hl
  have hts : ∀ w ∈ hx_all, w.before _ s = true := fun w hw => hts0 w (List.mem_cons_of_mem _ hw)
  have hown : s.vm.findClass "SmallCourt$Plan" = some m.cls := hown
  have hM : hx_S T_tb [(5, 11), (5, 12), (28, 0), (33, 0)] L h L h := hx_S.rf
  have b_o0 := hT.gi gx tt_5 (k := 0) rfl
  rw [f_x_0] at b_o0
  have b_o0 : 0 ≤ o0.toInt ∧ o0.toInt ≤ 4 := b_o0
  have b_un0 := hT.gi gx tt_5 (k := 9) rfl
  rw [f_x_9] at b_un0
  have b_un0 : -2147483648 ≤ un0.toInt ∧ un0.toInt ≤ 2147483647 := b_un0
  have b_me0 := hT.gi gx tt_5 (k := 10) rfl
  rw [f_x_10] at b_me0
  have b_me0 : -2147483648 ≤ me0.toInt ∧ me0.toInt ≤ 2147483647 := b_me0
  have b_bl0 := hT.gi gx tt_5 (k := 11) rfl
  rw [f_x_11] at b_bl0
  have b_bl0 : -2147483648 ≤ bl0.toInt ∧ bl0.toInt ≤ 2147483647 := b_bl0
  have b_ba0 := hT.gi gx tt_5 (k := 12) rfl
  rw [f_x_12] at b_ba0
  have b_ba0 : -2147483648 ≤ ba0.toInt ∧ ba0.toInt ≤ 2147483647 := b_ba0
  refine lv_iload_n hx hb dX5_tryFrom_0 rfl (lv_at hl 1 rfl) ?_
  refine lv_aload_n hx hb dX5_tryFrom_1 rfl (lv_at hl 0 rfl) ?_
  refine hk_geti hx hb hts hC_5 hown hW (gx.S hM) tt_5 0 ?o0 rfl kw_258 ⟨rfl, rfl, rfl⟩ ((hM.o gx trivial rfl).1.trans f_x_0) dX5_tryFrom_2 ?_
  case o0 => decide
  refine hb_icmp_lt (zx := 2) (zy := o0.toInt) (tgt := 16) hx hb ?o1 rfl dX5_tryFrom_5 ?o2 (fun c_1 => ?_) (fun c_1 => ?_)
  case o1 => decide
  case o2 => decide
  · skip
    have hD9 := hp_pw (n := o0.toInt.toNat) (p := 2) ?o3
    case o3 => omega
    refine lv_aload_n hx hb dX5_tryFrom_16 rfl (lv_at hl 0 rfl) ?_
    refine lv_iload_n hx hb dX5_tryFrom_17 rfl (lv_at hl 1 rfl) ?_
    refine lv_iconst (v := 1) hx hb dX5_tryFrom_18 ?o4 ?_
    case o4 => decide
    refine lv_iadd hx hb dX5_tryFrom_19 ?_
    refine lv_topi (fun x_2 ex_2 => ?_)
    obtain rfl : x_2 = (3 : Int32) := ex_2.trans (by decide)
    have zc_3 : (3 : Int32).toInt = 3 := ?o5
    case o5 => decide
    refine hx_goi (hx_runV (As := [.int (3 : Int32)]) (rest := []) ⟨hx, hb, hml, hown, hts⟩ hW (gx.S hM) tt_5 (T := TX5) (N := 13) rfl (t_X5_leastFrom_v l dC dI dA L h s.heap.size x (3 : Int32) hT (gx.S hM) qle (gqle.S hM) ((hM.o gx trivial rfl).2.trans f_x_7) lef (hx_afS hM gqle rfl af_qle) o0 ((hM.o gx trivial rfl).1.trans f_x_0) a ha hab ⟨?o6, ?o7⟩) (cwV 1 hts (hx_gV kw_964 kw_961 kw_963 kw_33 kw_100) rfl rfl rfl (by decide +kernel) ⟨Nat.le_of_ble_eq_true rfl, Nat.le_of_ble_eq_true rfl⟩) rfl hl.1 rfl (Nat.le_of_ble_eq_true rfl) dX5_tryFrom_20 ⟨Nat.le_of_ble_eq_true rfl, Nat.le_of_ble_eq_true rfl⟩) hW (fun r_5 L_3 h_4 H locs p_6 hW => ?_)
    case o6 => omega
    case o7 => omega
    obtain ⟨hr_7, hT, hs⟩ := p_6
    replace hT : hx_T T_tb L_3 h_4 := hT
    replace hs : hx_S T_tb [] L h L_3 h_4 := hs
    replace f_x_11 := (hs.o (gx.S hM) trivial rfl).1.trans f_x_11
    replace f_x_12 := (hs.o (gx.S hM) trivial rfl).1.trans f_x_12
    replace af_qtd : h_4.2.1 qtd = trf := (funext fun j => (hs.a (gqtd.S hM) rfl j).1).trans af_qtd
    replace af_qwl : h_4.2.1 qwl = wkf := (funext fun j => (hs.a (gqwl.S hM) rfl j).1).trans af_qwl
    replace hM := hM.tr (hs.mono ?o8)
    case o8 => decide
    have hlf9 := hr_7.1; rw [zc_3, show (3 : Int).toNat = 3 from rfl] at hlf9
    refine lv_istore (lv' := [(5, .int r_5), (0, .ref x), (1, .int (2 : Int32)), (2, .int i2), (3, .int i3), (4, .int i4)]) hx hb dX5_tryFrom_23 hl ?o9 rfl (fun ls hl => ?_)
    case o9 => decide
    refine lv_iconst (v := 0) hx hb dX5_tryFrom_25 ?o10 ?_
    case o10 => decide
    refine lv_istore (lv' := [(6, .int (0 : Int32)), (5, .int r_5), (0, .ref x), (1, .int (2 : Int32)), (2, .int i2), (3, .int i3), (4, .int i4)]) hx hb dX5_tryFrom_26 hl ?o11 rfl (fun ls hl => ?_)
    case o11 => decide
    have loop28 : ∀ (n28 : Nat) (iv28_6 fw28_x_11 fw28_x_12 : Int32) (ia28_qtd ia28_qwl : Nat → Int32) (H : Heap) (locs : List Loc) (hL1 : List Nat) (hl1 : hx_h), 0 ≤ iv28_6.toInt → iv28_6.toInt ≤ 13 → -2147483648 ≤ fw28_x_11.toInt → fw28_x_11.toInt ≤ 2147483647 → -2147483648 ≤ fw28_x_12.toInt → fw28_x_12.toInt ≤ 2147483647 → (hp_SR (hp_F (hp_f a r un0.toInt M o0.toInt.toNat) (K * (13 * 13 ^ (o0.toInt.toNat - 3))) ((iv28_6.toInt).toNat * 13 ^ (o0.toInt.toNat - 3)) s5) fw28_x_11.toInt fw28_x_12.toInt ia28_qwl a un0.toInt o0.toInt) → (∀ i : Nat, i < 2 → ia28_qtd i = trf i) → ∀ (ls : Array Slot), 13 - iv28_6.toInt < (n28 : Int) → hx_W T_tb (P_ty dA) (dC, dI) vwCl (hx_A L sz) s.heap hL1 hl1 s H locs → hx_T T_tb hL1 hl1 → hx_S T_tb [(5, 11), (5, 12), (28, 0), (33, 0)] L h hL1 hl1 → hl1.2.1 x 11 = fw28_x_11 → hl1.2.1 x 12 = fw28_x_12 → hl1.2.1 qtd = ia28_qtd → hl1.2.1 qwl = ia28_qwl → lv_has ls 9 [(6, .int iv28_6), (5, .int r_5), (0, .ref x), (1, .int (2 : Int32)), (2, .int i2), (3, .int i3), (4, .int i4)] → W p l e ({ frames := 4, cells := 0, slots := 0, locals := 118 }) s m ([.ref x, .int (2 : Int32), .int i2, .int i3, .int i4] : List Value).toArray below meth c H locs 0 0 (MQ below (va_Qv (fun (u : List Nat × hx_h) => (∃ (bl1 : Int32) (ba1 : Int32) (wkf1 : Nat → Int32) (trf1 : Nat → Int32), u.2.2.1 x 11 = bl1 ∧ u.2.2.1 x 12 = ba1 ∧ u.2.2.1 qwl = wkf1 ∧ u.2.2.1 qtd = trf1 ∧ (hp_SR (hp_F (hp_f a r un0.toInt M o0.toInt.toNat) (K * 13 ^ (o0.toInt.toNat - 2)) (13 ^ (o0.toInt.toNat - 2)) s5) bl1.toInt ba1.toInt wkf1 a un0.toInt o0.toInt ∧ ∀ i : Nat, i < 2 → trf1 i = trf i)) ∧ hx_T T_tb u.1 u.2 ∧ hx_S T_tb [(5, 11), (5, 12), (28, 0), (33, 0)] L h u.1 u.2) (hx_E T_tb (P_ty dA) (dC, dI) vwCl (hx_A L sz)) (hx_A L sz)) ([.ref x, .int (2 : Int32), .int i2, .int i3, .int i4] : List Value).toArray s 0 0 (hx_A L sz)) (F0 m 28 ls []) := by
      intro n28
      induction n28 with
      | zero => intro iv28_6 fw28_x_11 fw28_x_12 ia28_qtd ia28_qwl H locs hL1 hl1 bliv28_6 buiv28_6 blfw28_x_11 bufw28_x_11 blfw28_x_12 bufw28_x_12 vi28_0 vi28_1 ls hn28; exfalso; omega
      | succ n28 ih28 =>
        intro iv28_6 fw28_x_11 fw28_x_12 ia28_qtd ia28_qwl H locs hL1 hl1 bliv28_6 buiv28_6 blfw28_x_11 bufw28_x_11 blfw28_x_12 bufw28_x_12 vi28_0 vi28_1 ls hn28 hW hT hM ffw28_x_11 ffw28_x_12 nia28_qtd nia28_qwl hl
        refine lv_iload hx hb dX5_tryFrom_28 (lv_at hl 0 rfl) ?_
        refine lv_bipush (v := 12) hx hb dX5_tryFrom_30 ?o12 ?_
        case o12 => decide
        refine hb_icmp_gt (zx := iv28_6.toInt) (zy := 12) (tgt := 124) hx hb rfl ?o13 dX5_tryFrom_32 ?o14 (fun c_8 => ?_) (fun c_8 => ?_)
        case o13 => decide
        case o14 => decide
        · skip
          exact hx_retv hx hb hr hlk hW ⟨⟨fw28_x_11, fw28_x_12, ia28_qwl, ia28_qtd, ffw28_x_11, ffw28_x_12, nia28_qwl, nia28_qtd, ⟨(by rw [hD9]; have h9 := vi28_0; rw [show iv28_6.toInt.toNat = 13 by omega] at h9; exact h9), vi28_1⟩⟩, hT, hM⟩ dX5_tryFrom_124
        · skip
          refine lv_aload_n hx hb dX5_tryFrom_35 rfl (lv_at hl 2 rfl) ?_
          refine hk_getr hx hb hts hC_5 hown hW (gx.S hM) tt_5 7 ?o15 rfl kw_270 ⟨rfl, rfl, rfl⟩ ((hM.o gx trivial rfl).2.trans f_x_7) dX5_tryFrom_36 ?_
          case o15 => decide
          refine lv_iload_n hx hb dX5_tryFrom_39 rfl (lv_at hl 3 rfl) ?_
          refine hx_iald hx hb hW hT (gqle.S hM) tt_32 rfl ?o16 dX5_tryFrom_40 (fun x_9 ex_9 lx_9 ux_9 => ?_)
          case o16 => decide
          have ax_9 : x_9 = lef (2 : Int32).toNatClampNeg := ex_9.trans (congrFun (hx_afS hM gqle rfl af_qle) _)
          have hav9 : x_9.toInt = a 2 := ?o17
          case o17 =>
            rw [ax_9, show (2 : Int32).toNatClampNeg = 2 from by decide]
            refine ha 2 ?o18
            case o18 => omega
          have hab9 := hab 2 (by omega); rw [← hav9] at hab9
          refine lv_iload hx hb dX5_tryFrom_41 (lv_at hl 0 rfl) ?_
          refine lv_aload_n hx hb dX5_tryFrom_43 rfl (lv_at hl 2 rfl) ?_
          refine hk_geti hx hb hts hC_5 hown hW (gx.S hM) tt_5 9 ?o19 rfl kw_272 ⟨rfl, rfl, rfl⟩ ((hM.o gx trivial rfl).1.trans f_x_9) dX5_tryFrom_44 ?_
          case o19 => decide
          refine lv_imul hx hb dX5_tryFrom_47 ?_
          refine lv_topi (fun x_10 ex_10 => ?_)
          have mx_10 : iv28_6.toInt = 0 → x_10.toInt = 0 := fun z => by rw [ex_10]; exact hx_mul0 z
          obtain ⟨m9, m9l, m9h⟩ := hp_mul ⟨by omega, by omega⟩ ⟨by omega, by omega⟩ ex_10
          refine lv_iadd hx hb dX5_tryFrom_48 ?_
          have rg_11 := i32_r x_9
          have rg_12 := i32_r x_10
          refine lv_topi (fun x_13 ex_13 => ?_)
          have zx_13 : x_13.toInt = x_9.toInt + x_10.toInt := ?o20
          case o20 =>
            rw [ex_13]
            refine i32_add rfl rfl ?o21 ?o22
            case o21 => omega
            case o22 => omega
          refine lv_istore (lv' := [(7, .int x_13), (6, .int iv28_6), (5, .int r_5), (0, .ref x), (1, .int (2 : Int32)), (2, .int i2), (3, .int i3), (4, .int i4)]) hx hb dX5_tryFrom_49 hl ?o23 rfl (fun ls hl => ?_)
          case o23 => decide
          have hw9 : x_13.toInt = hp_w a un0.toInt (fun i => if i = 2 then iv28_6.toInt else m5 i) 2 := ?o24
          case o24 =>
            show x_13.toInt = a 2 + (if 2 = 2 then iv28_6.toInt else m5 2) * un0.toInt
            rw [if_pos rfl, ← m9, ← hav9]
            omega
          have hj9 : ((iv28_6.toInt.toNat : Nat) : Int) = iv28_6.toInt := ?o25
          case o25 => omega
          refine lv_iload_n hx hb dX5_tryFrom_51 rfl (lv_at hl 5 rfl) ?_
          refine lv_iload hx hb dX5_tryFrom_52 (lv_at hl 0 rfl) ?_
          refine lv_iadd hx hb dX5_tryFrom_54 ?_
          have rg_14 := i32_r i2
          have rg_15 := i32_r x_13
          refine lv_topi (fun x_16 ex_16 => ?_)
          have zx_16 : x_16.toInt = i2.toInt + x_13.toInt := ?o26
          case o26 =>
            rw [ex_16]
            refine i32_add rfl rfl ?o27 ?o28
            case o27 => omega
            case o28 => omega
          refine lv_iload hx hb dX5_tryFrom_55 (lv_at hl 2 rfl) ?_
          refine lv_iadd hx hb dX5_tryFrom_57 ?_
          have rg_17 := i32_r x_16
          have rg_18 := i32_r r_5
          refine lv_topi (fun x_19 ex_19 => ?_)
          have zx_19 : x_19.toInt = x_16.toInt + r_5.toInt := ?o29
          case o29 =>
            rw [ex_19]
            refine i32_add rfl rfl ?o30 ?o31
            case o30 => omega
            case o31 => omega
          refine lv_aload_n hx hb dX5_tryFrom_58 rfl (lv_at hl 3 rfl) ?_
          refine hk_geti hx hb hts hC_5 hown hW (gx.S hM) tt_5 10 ?o32 rfl kw_273 ⟨rfl, rfl, rfl⟩ ((hM.o gx trivial rfl).1.trans f_x_10) dX5_tryFrom_59 ?_
          case o32 => decide
          refine hb_icmp_le (zx := x_19.toInt) (zy := me0.toInt) (tgt := 66) hx hb rfl rfl dX5_tryFrom_62 ?o33 (fun c_20 => ?_) (fun c_20 => ?_)
          case o33 => decide
          · skip
            refine lv_aload_n hx hb dX5_tryFrom_66 rfl (lv_at hl 3 rfl) ?_
            refine hk_getr hx hb hts hC_5 hown hW (gx.S hM) tt_5 6 ?o34 rfl kw_269 ⟨rfl, rfl, rfl⟩ ((hM.o gx trivial rfl).2.trans f_x_6) dX5_tryFrom_67 ?_
            case o34 => decide
            refine lv_iload_n hx hb dX5_tryFrom_70 rfl (lv_at hl 4 rfl) ?_
            refine hx_iald hx hb hW hT (gqre.S hM) tt_31 rfl ?o35 dX5_tryFrom_71 (fun x_21 ex_21 lx_21 ux_21 => ?_)
            case o35 => decide
            have ax_21 : x_21 = rsf (2 : Int32).toNatClampNeg := ex_21.trans (congrFun (hx_afS hM gqre rfl af_qre) _)
            have hrv9 : x_21.toInt = r 2 := ?o36
            case o36 =>
              rw [ax_21, show (2 : Int32).toNatClampNeg = 2 from by decide]
              refine hr5 2 ?o37
              case o37 => omega
            have hrb9 := hrb 2 (by omega); rw [← hrv9] at hrb9
            refine lv_iload hx hb dX5_tryFrom_72 (lv_at hl 0 rfl) ?_
            refine hx_goi (hx_runSN (As := [.int x_21, .int x_13]) (rest := []) ⟨hx, hb, hml, hown, hts⟩ hW (t_X9_roundUp_v l dC dI dA hL1 hl1 H.size x_21 x_13 hT) ⟨va_cnB 2 hts (hx_gC kw_921) rfl rfl rfl (hZ.1 _ (List.mem_of_getElem? (i := 10) rfl)) (hts _ kw_94) (by decide +kernel) ⟨Nat.le_of_ble_eq_true rfl, Nat.le_of_ble_eq_true rfl⟩, hts _ kw_920, trivial⟩ rfl hl.1 rfl (Nat.le_of_ble_eq_true rfl) dX5_tryFrom_74 ⟨Nat.le_of_ble_eq_true rfl, Nat.le_of_ble_eq_true rfl⟩) hW (fun r_24 L_22 h_23 H locs p_25 hW => ?_)
            obtain ⟨hr_26, hT, hs⟩ := p_25
            replace hT : hx_T T_tb L_22 h_23 := hT
            replace hs : hx_S T_tb [] hL1 hl1 L_22 h_23 := hs
            replace ffw28_x_11 := (hs.o (gx.S hM) trivial rfl).1.trans ffw28_x_11
            replace ffw28_x_12 := (hs.o (gx.S hM) trivial rfl).1.trans ffw28_x_12
            replace nia28_qtd : h_23.2.1 qtd = ia28_qtd := (funext fun j => (hs.a (gqtd.S hM) rfl j).1).trans nia28_qtd
            replace nia28_qwl : h_23.2.1 qwl = ia28_qwl := (funext fun j => (hs.a (gqwl.S hM) rfl j).1).trans nia28_qwl
            replace ex_9 := ex_9.trans (hs.a (gqle.S hM) rfl _).1.symm
            replace ex_21 := ex_21.trans (hs.a (gqre.S hM) rfl _).1.symm
            replace hM := hM.tr (hs.mono ?o38)
            case o38 => decide
            have hk9 : r_24.toInt = hp_k a r un0.toInt (fun i => if i = 2 then iv28_6.toInt else m5 i) 2 := ?o39
            case o39 =>
              unfold hp_k
              rw [← hw9, ← hrv9]
              exact hr_26
            have hkb9 : 0 ≤ r_24.toInt ∧ r_24.toInt ≤ 609999 := ?o40
            case o40 =>
              have h9 := hz_ru_b (s := x_21.toInt) (b := x_13.toInt)
              rw [← hr_26] at h9
              omega
            refine lv_istore (lv' := [(8, .int r_24), (7, .int x_13), (6, .int iv28_6), (5, .int r_5), (0, .ref x), (1, .int (2 : Int32)), (2, .int i2), (3, .int i3), (4, .int i4)]) hx hb dX5_tryFrom_77 hl ?o41 rfl (fun ls hl => ?_)
            case o41 => decide
            refine lv_aload_n hx hb dX5_tryFrom_79 rfl (lv_at hl 4 rfl) ?_
            refine hk_getr hx hb hts hC_5 hown hW (gx.S hM) tt_5 8 ?o42 rfl kw_271 ⟨rfl, rfl, rfl⟩ ((hM.o gx trivial rfl).2.trans f_x_8) dX5_tryFrom_80 ?_
            case o42 => decide
            refine lv_iload_n hx hb dX5_tryFrom_83 rfl (lv_at hl 5 rfl) ?_
            refine lv_iload hx hb dX5_tryFrom_84 (lv_at hl 1 rfl) ?_
            have nia28_qtdO := nia28_qtd
            refine hx_iast hx hb hW hT (hx_S.rf (M := [(33, 0)])) (gqtd.S hM) tt_33 rfl ?o43 rfl (i32_r _) (List.mem_singleton.mpr rfl) dX5_tryFrom_86 (fun H locs h_27 eh_27 hW hT hs => ?_)
            case o43 => decide
            replace ffw28_x_11 := (hs.o (gx.S hM) trivial rfl).1.trans ffw28_x_11
            replace ffw28_x_12 := (hs.o (gx.S hM) trivial rfl).1.trans ffw28_x_12
            replace nia28_qwl : h_27.2.1 qwl = ia28_qwl := (funext fun j => (hs.a (gqwl.S hM) rfl j).1).trans nia28_qwl
            replace ex_9 := ex_9.trans (hs.a (gqle.S hM) rfl _).1.symm
            replace ex_21 := ex_21.trans (hs.a (gqre.S hM) rfl _).1.symm
            replace hM := hM.tr (hs.mono ?o44)
            case o44 => decide
            obtain ⟨fa_28, dfa_28⟩ : ∃ g : Nat → Int32, g = hx_up ia28_qtd (2 : Int32).toNatClampNeg x_13 := ⟨_, rfl⟩
            have nfa_28 : h_27.2.1 qtd = fa_28 := ?o45
            case o45 =>
              rw [eh_27, dfa_28, ← nia28_qtdO]
              exact hx_pi_fun _ _ _ _
            have htr9 : ∀ i : Nat, i < 3 → (fa_28 i).toInt = hp_w a un0.toInt (fun i => if i = 2 then iv28_6.toInt else m5 i) i := fun i hi => by by_cases z : i = 2; (subst z; rw [dfa_28, show (2 : Int32).toNatClampNeg = 2 from by decide, hx_up_at]; exact hw9); (rw [dfa_28, hx_up_ne (by rw [show (2 : Int32).toNatClampNeg = 2 from by decide]; exact z), vi28_1 i (by omega)]; show _ = a i + (if i = 2 then iv28_6.toInt else m5 i) * un0.toInt; rw [if_neg z]; exact htr i (by omega))
            have htc9 : ∀ i : Nat, i < 2 → fa_28 i = trf i := fun i hi => by rw [dfa_28, hx_up_ne (by rw [show (2 : Int32).toNatClampNeg = 2 from by decide]; omega)]; exact vi28_1 i hi
            refine lv_iload hx hb dX5_tryFrom_87 (lv_at hl 0 rfl) ?_
            refine lv_aload_n hx hb dX5_tryFrom_89 rfl (lv_at hl 4 rfl) ?_
            refine hk_geti hx hb hts hC_5 hown hW (gx.S hM) tt_5 11 ?o46 rfl kw_274 ⟨rfl, rfl, rfl⟩ ffw28_x_11 dX5_tryFrom_90 ?_
            case o46 => decide
            refine hb_icmp_gt (zx := r_24.toInt) (zy := fw28_x_11.toInt) (tgt := 118) hx hb rfl rfl dX5_tryFrom_93 ?o47 (fun c_29 => ?_) (fun c_29 => ?_)
            case o47 => decide
            · skip
              obtain ⟨x_30, ex_30⟩ : ∃ y : Int32, y = iv28_6 + Int32.ofInt 1 := ⟨_, rfl⟩
              have rg_31 := i32_r iv28_6
              have zx_30 : x_30.toInt = iv28_6.toInt + (1) := ?o48
              case o48 =>
                rw [ex_30]
                refine i32_add rfl ?o49 ?o50 ?o51
                case o49 => decide
                case o50 => omega
                case o51 => omega
              refine lv_iinc (v := x_30) (lv' := [(6, .int x_30), (8, .int r_24), (7, .int x_13), (5, .int r_5), (0, .ref x), (1, .int (2 : Int32)), (2, .int i2), (3, .int i3), (4, .int i4)]) hx hb dX5_tryFrom_118 hl (k := 2) rfl ex_30.symm ?o52 rfl (fun ls hl => ?_)
              case o52 => decide
              refine lv_goto (tgt := 28) hx hb dX5_tryFrom_121 ?o53 ?_
              case o53 => decide
              refine ih28 x_30 fw28_x_11 fw28_x_12 fa_28 ia28_qwl _ _ L_22 h_27 ?o54 ?o55 (i32_r _).1 (i32_r _).2 (i32_r _).1 (i32_r _).2 (by rw [show x_30.toInt.toNat = iv28_6.toInt.toNat + 1 by omega, hp_skip (by omega) (by omega) rfl (y := r_24.toInt) (by rw [hj9, ← hrv9, ← hav9, ← m9, show x_9.toInt + x_10.toInt = x_13.toInt by omega]; exact hr_26) (by rw [vi28_0.1]; omega)]; exact vi28_0) htc9 ls ?o56 hW hT hM ffw28_x_11 ffw28_x_12 nfa_28 nia28_qwl (lv_sub hl [0, 3, 4, 5, 6, 7, 8] rfl)
              case o54 => omega
              case o55 => omega
              case o56 => omega
            · skip
              refine lv_aload_n hx hb dX5_tryFrom_96 rfl (lv_at hl 4 rfl) ?_
              refine lv_iload_n hx hb dX5_tryFrom_97 rfl (lv_at hl 5 rfl) ?_
              refine lv_iconst (v := 1) hx hb dX5_tryFrom_98 ?o57 ?_
              case o57 => decide
              refine lv_iadd hx hb dX5_tryFrom_99 ?_
              refine lv_topi (fun x_32 ex_32 => ?_)
              obtain rfl : x_32 = (3 : Int32) := ex_32.trans (by decide)
              refine lv_iload_n hx hb dX5_tryFrom_100 rfl (lv_at hl 6 rfl) ?_
              refine lv_iload hx hb dX5_tryFrom_101 (lv_at hl 1 rfl) ?_
              refine lv_iadd hx hb dX5_tryFrom_103 ?_
              refine lv_topi (fun x_33 ex_33 => ?_)
              have zx_33 : x_33.toInt = i2.toInt + x_13.toInt := ?o58
              case o58 =>
                rw [ex_33]
                refine i32_add rfl rfl ?o59 ?o60
                case o59 => omega
                case o60 => omega
              refine lv_iload_n hx hb dX5_tryFrom_104 rfl (lv_at hl 7 rfl) ?_
              refine lv_iload hx hb dX5_tryFrom_105 (lv_at hl 0 rfl) ?_
              refine va_mmax hx hb (hml.trans hl.1.symm) hown (hts _ kw_976) (hts _ kw_882) (hts _ kw_109) (hts _ kw_883) (Nat.le_of_ble_eq_true rfl) (Nat.le_of_ble_eq_true rfl) (Nat.le_of_ble_eq_true rfl) (Nat.le_of_ble_eq_true rfl) dX5_tryFrom_107 ?_
              refine lv_topi (fun x_34 ex_34 => ?_)
              have hmx9 := hz_mx_e ex_34
              refine lv_iload hx hb dX5_tryFrom_110 (lv_at hl 8 rfl) ?_
              refine lv_iload hx hb dX5_tryFrom_112 (lv_at hl 0 rfl) ?_
              refine lv_iadd hx hb dX5_tryFrom_114 ?_
              have rg_35 := i32_r i4
              have rg_36 := i32_r r_24
              refine lv_topi (fun x_37 ex_37 => ?_)
              have zx_37 : x_37.toInt = i4.toInt + r_24.toInt := ?o61
              case o61 =>
                rw [ex_37]
                refine i32_add rfl rfl ?o62 ?o63
                case o62 => omega
                case o63 => omega
              refine hx_gov (hx_runVX (As := [.int (3 : Int32), .int x_33, .int x_34, .int x_37]) (rest := []) ⟨hx, hb, hml, hown, hts⟩ hW (gx.S hM) tt_5 (T := TX5) (N := 13) rfl (t_X5_tryFrom_3v l dC dI dA L_22 h_27 H.size b0 x x_33 x_34 x_37 hT (gx.S hM) qle (gqle.S hM) ((hM.o gx trivial rfl).2.trans f_x_7) qre (gqre.S hM) ((hM.o gx trivial rfl).2.trans f_x_6) qtd (gqtd.S hM) ((hM.o gx trivial rfl).2.trans f_x_8) qwl (gqwl.S hM) ((hM.o gx trivial rfl).2.trans f_x_3) lef (hx_afS hM gqle rfl af_qle) rsf (hx_afS hM gqre rfl af_qre) fa_28 nfa_28 ia28_qwl nia28_qwl o0 ((hM.o gx trivial rfl).1.trans f_x_0) un0 ((hM.o gx trivial rfl).1.trans f_x_9) me0 ((hM.o gx trivial rfl).1.trans f_x_10) fw28_x_11 ffw28_x_11 fw28_x_12 ffw28_x_12 a ha hab r hr5 hrb hun M hMe hMb ?o64 (13 * K + iv28_6.toInt.toNat) (fun i => if i = 2 then iv28_6.toInt else m5 i) (hp_B_s hB ?o65 ?o66 (fun i hi => if_neg ?o67) (by show (if 2 = 2 then iv28_6.toInt else m5 2) = _; rw [if_pos rfl]; omega)) (hp_ss hsp (fun i hi => by show a i + (if i = 2 then iv28_6.toInt else m5 i) * un0.toInt = _; rw [if_neg (by omega)]; rfl) (by rw [← hw9]; omega)) (hp_mm hla (fun i hi => by show hz_ru (r i) (a i + (if i = 2 then iv28_6.toInt else m5 i) * un0.toInt) = _; rw [if_neg (by omega)]; rfl) (by rw [← hk9]; omega)) (hp_ss hal (fun i hi => by show hz_ru (r i) (a i + (if i = 2 then iv28_6.toInt else m5 i) * un0.toInt) = _; rw [if_neg (by omega)]; rfl) (by rw [← hk9]; omega)) htr9 (by have h9 := hMe (by omega); rw [← hlf9]; omega) ⟨?o68, ?o69⟩ ⟨?o70, ?o71⟩ ⟨?o72, ?o73⟩ _ vi28_0) hZ (cwV 4 hts (hx_gV kw_969 kw_966 kw_968 kw_34 kw_100) rfl rfl rfl (by decide +kernel) ⟨Nat.le_of_ble_eq_true rfl, Nat.le_of_ble_eq_true rfl⟩) rfl hl.1 rfl (Nat.le_of_ble_eq_true rfl) dX5_tryFrom_115 ⟨Nat.le_of_ble_eq_true rfl, Nat.le_of_ble_eq_true rfl⟩) hW (fun L_38 h_39 H locs p_41 hW => ?_)
              case o64 => omega
              case o65 => omega
              case o66 => omega
              case o67 => omega
              case o68 => omega
              case o69 => omega
              case o70 => omega
              case o71 => omega
              case o72 => omega
              case o73 => omega
              obtain ⟨⟨w_43, w_44, w_45, w_46, fw_43, fw_44, fw_45, fw_46, hr_42⟩, hT, hs⟩ := p_41
              replace hT : hx_T T_tb L_38 h_39 := hT
              replace hs : hx_S T_tb [(5, 11), (5, 12), (28, 0), (33, 0)] L_22 h_27 L_38 h_39 := hs
              replace ex_9 := ex_9.trans (hs.a (gqle.S hM) rfl _).1.symm
              replace ex_21 := ex_21.trans (hs.a (gqre.S hM) rfl _).1.symm
              replace hM := hM.tr (hs.mono ?o74)
              case o74 => decide
              have fw_43 : h_39.2.1 x 11 = w_43 := fw_43
              have bw_43 := hT.gi (gx.S hM) tt_5 (k := 11) rfl
              rw [fw_43] at bw_43
              have bw_43 : -2147483648 ≤ w_43.toInt ∧ w_43.toInt ≤ 2147483647 := bw_43
              have fw_44 : h_39.2.1 x 12 = w_44 := fw_44
              have bw_44 := hT.gi (gx.S hM) tt_5 (k := 12) rfl
              rw [fw_44] at bw_44
              have bw_44 : -2147483648 ≤ w_44.toInt ∧ w_44.toInt ≤ 2147483647 := bw_44
              have fw_45 : h_39.2.1 qwl = w_45 := fw_45
              have fw_46 : h_39.2.1 qtd = w_46 := fw_46
              obtain ⟨x_47, ex_47⟩ : ∃ y : Int32, y = iv28_6 + Int32.ofInt 1 := ⟨_, rfl⟩
              have rg_48 := i32_r iv28_6
              have zx_47 : x_47.toInt = iv28_6.toInt + (1) := ?o75
              case o75 =>
                rw [ex_47]
                refine i32_add rfl ?o76 ?o77 ?o78
                case o76 => decide
                case o77 => omega
                case o78 => omega
              refine lv_iinc (v := x_47) (lv' := [(6, .int x_47), (8, .int r_24), (7, .int x_13), (5, .int r_5), (0, .ref x), (1, .int (2 : Int32)), (2, .int i2), (3, .int i3), (4, .int i4)]) hx hb dX5_tryFrom_118 hl (k := 2) rfl ex_47.symm ?o79 rfl (fun ls hl => ?_)
              case o79 => decide
              refine lv_goto (tgt := 28) hx hb dX5_tryFrom_121 ?o80 ?_
              case o80 => decide
              refine ih28 x_47 w_43 w_44 w_46 w_45 _ _ L_38 h_39 ?o81 ?o82 (i32_r _).1 (i32_r _).2 (i32_r _).1 (i32_r _).2 (by rw [show x_47.toInt.toNat = iv28_6.toInt.toNat + 1 by omega, hp_F_blk]; exact hr_42.1) (fun i hi => (hr_42.2 i ?o83).trans (htc9 i hi)) ls ?o84 hW hT hM fw_43 fw_44 fw_46 fw_45 (lv_sub hl [0, 3, 4, 5, 6, 7, 8] rfl)
              case o81 => omega
              case o82 => omega
              case o83 => omega
              case o84 => omega
          · skip
            exact hx_retv hx hb hr hlk hW ⟨⟨fw28_x_11, fw28_x_12, ia28_qwl, ia28_qtd, ffw28_x_11, ffw28_x_12, nia28_qwl, nia28_qtd, ⟨(by rw [hD9, hp_F_end (j := iv28_6.toInt.toNat) (by omega) rfl (fun k9 h0 h1 => hp_inf hB (by omega) (by omega) (by omega) hsp (by have h9 := hMe (by omega); rw [hj9, ← m9, ← hav9, ← hlf9]; omega) h0 h1)]; exact vi28_0), vi28_1⟩⟩, hT, hM⟩ dX5_tryFrom_65
    have zk_0 : (0 : Int32).toInt = 0 := ?o85
    case o85 => decide
    refine loop28 14 (0 : Int32) bl0 ba0 trf wkf _ _ L_3 h_4 ?o86 ?o87 (i32_r _).1 (i32_r _).2 (i32_r _).1 (i32_r _).2 (by rw [zk_0, Int.toNat_zero, Nat.zero_mul]; exact hSR) (fun i hi => rfl) ls ?o88 hW hT hM f_x_11 f_x_12 af_qtd af_qwl hl
    case o86 => decide
    case o87 => decide
    case o88 => omega
  · skip
    have hdg9 := hp_B_e hB (show o0.toInt.toNat = 2 from ?o89)
    case o89 => omega
    refine lv_aload_n hx hb dX5_tryFrom_8 rfl (lv_at hl 0 rfl) ?_
    refine lv_iload_n hx hb dX5_tryFrom_9 rfl (lv_at hl 3 rfl) ?_
    refine lv_iload hx hb dX5_tryFrom_10 (lv_at hl 4 rfl) ?_
    refine hx_gov (hx_runV (As := [.int i3, .int i4]) (rest := []) ⟨hx, hb, hml, hown, hts⟩ hW (gx.S hM) tt_5 (T := TX5) (N := 13) rfl (t_X5_keepIfBetter_v l dC dI dA L h s.heap.size x i3 i4 hT (gx.S hM) qtd (gqtd.S hM) ((hM.o gx trivial rfl).2.trans f_x_8) qwl (gqwl.S hM) ((hM.o gx trivial rfl).2.trans f_x_3) trf af_qtd wkf af_qwl o0 ((hM.o gx trivial rfl).1.trans f_x_0) bl0 f_x_11 ba0 f_x_12 a un0.toInt (hp_dg o0.toInt.toNat K) (fun i hi => by unfold hp_w; rw [hdg9 i (by omega)]; exact htr i (by omega)) s5 hSR) (cwV 2 hts (hx_gV kw_973 kw_970 kw_972 kw_35 kw_100) rfl rfl rfl (by decide +kernel) ⟨Nat.le_of_ble_eq_true rfl, Nat.le_of_ble_eq_true rfl⟩) rfl hl.1 rfl (Nat.le_of_ble_eq_true rfl) dX5_tryFrom_12 ⟨Nat.le_of_ble_eq_true rfl, Nat.le_of_ble_eq_true rfl⟩) hW (fun L_49 h_50 H locs p_52 hW => ?_)
    obtain ⟨⟨w_54, w_55, w_56, fw_54, fw_55, fw_56, hr_53⟩, hT, hs⟩ := p_52
    replace hT : hx_T T_tb L_49 h_50 := hT
    replace hs : hx_S T_tb [(5, 11), (5, 12), (28, 0)] L h L_49 h_50 := hs
    replace af_qtd : h_50.2.1 qtd = trf := (funext fun j => (hs.a (gqtd.S hM) rfl j).1).trans af_qtd
    replace hM := hM.tr (hs.mono ?o90)
    case o90 => decide
    have fw_54 : h_50.2.1 x 11 = w_54 := fw_54
    have bw_54 := hT.gi (gx.S hM) tt_5 (k := 11) rfl
    rw [fw_54] at bw_54
    have bw_54 : -2147483648 ≤ w_54.toInt ∧ w_54.toInt ≤ 2147483647 := bw_54
    have fw_55 : h_50.2.1 x 12 = w_55 := fw_55
    have bw_55 := hT.gi (gx.S hM) tt_5 (k := 12) rfl
    rw [fw_55] at bw_55
    have bw_55 : -2147483648 ≤ w_55.toInt ∧ w_55.toInt ≤ 2147483647 := bw_55
    have fw_56 : h_50.2.1 qwl = w_56 := fw_56
    exact hx_retv hx hb hr hlk hW ⟨⟨w_54, w_55, w_56, trf, fw_54, fw_55, fw_56, af_qtd, ⟨(by rw [hp_leaf (show o0.toInt.toNat = 2 by omega) hdg9 hla hal (by have h9 := hfe; rw [show o0.toInt.toNat = 2 by omega] at h9; omega)]; exact hr_53), (fun i hi => rfl)⟩⟩, hT, hM⟩ dX5_tryFrom_15


set_option maxHeartbeats 4000000 in
set_option maxRecDepth 100000 in
theorem t_X5_tryFrom_1v (l : Launch) (dC : Nat → ClassId) (dI : Nat → Nat → Nat) (dA : Nat → ClassId) (L : List Nat) (h : hx_h) (sz : Nat) (b0 : hx_z) (x : Nat) (i2 : Int32) (i3 : Int32) (i4 : Int32) (hT : hx_T T_tb L h) (gx : hx_g L h x 5) (qle : Nat) (gqle : hx_g L h qle 32) (f_x_7 : h.2.2 x 7 = some qle) (qre : Nat) (gqre : hx_g L h qre 31) (f_x_6 : h.2.2 x 6 = some qre) (qtd : Nat) (gqtd : hx_g L h qtd 33) (f_x_8 : h.2.2 x 8 = some qtd) (qwl : Nat) (gqwl : hx_g L h qwl 28) (f_x_3 : h.2.2 x 3 = some qwl) (lef : Nat → Int32) (af_qle : h.2.1 qle = lef) (rsf : Nat → Int32) (af_qre : h.2.1 qre = rsf) (trf : Nat → Int32) (af_qtd : h.2.1 qtd = trf) (wkf : Nat → Int32) (af_qwl : h.2.1 qwl = wkf) (o0 : Int32) (f_x_0 : h.2.1 x 0 = o0) (un0 : Int32) (f_x_9 : h.2.1 x 9 = un0) (me0 : Int32) (f_x_10 : h.2.1 x 10 = me0) (bl0 : Int32) (f_x_11 : h.2.1 x 11 = bl0) (ba0 : Int32) (f_x_12 : h.2.1 x 12 = ba0) (a : Nat → Int) (ha : ∀ i : Nat, (i : Int) < o0.toInt → (lef i).toInt = a i) (hab : ∀ i : Nat, (i : Int) < o0.toInt → 1 ≤ a i ∧ a i ≤ 9999) (r : Nat → Int) (hr5 : ∀ i : Nat, (i : Int) < o0.toInt → (rsf i).toInt = r i) (hrb : ∀ i : Nat, (i : Int) < o0.toInt → 1 ≤ r i ∧ r i ≤ 609999) (hun : 1 ≤ un0.toInt ∧ un0.toInt ≤ 99) (M : Int) (hMe : 1 ≤ o0.toInt → M = me0.toInt) (hMb : M ≤ 9999) (hpn : 1 ≤ o0.toInt) (K : Nat) (m5 : Nat → Int) (hB : hp_B o0.toInt.toNat 1 K m5) (hsp : i2.toInt = hp_s (hp_w a un0.toInt m5) 1) (hla : i3.toInt = hp_m (hp_k a r un0.toInt m5) 1) (hal : i4.toInt = hp_s (hp_k a r un0.toInt m5) 1) (htr : ∀ i : Nat, i < 1 → (trf i).toInt = hp_w a un0.toInt m5 i) (hfe : i2.toInt + (hp_s a o0.toInt.toNat - hp_s a 1) ≤ M) (hi2 : 0 ≤ i2.toInt ∧ i2.toInt ≤ 9999) (hi3 : 0 ≤ i3.toInt ∧ i3.toInt ≤ 609999) (hi4 : 0 ≤ i4.toInt ∧ i4.toInt ≤ 609999) (s5 : hp_S) (hSR : hp_SR s5 bl0.toInt ba0.toInt wkf a un0.toInt o0.toInt) : Met l yX5_tryFrom (Cond.code yX5_tryFrom cX5_tryFrom 9 none :: hx_all) ({ frames := 5, cells := 0, slots := 0, locals := 146 }) (va_Pc [.ref x, .int (1 : Int32), .int i2, .int i3, .int i4] (hx_BX T_tb (P_ty dA) (dC, dI) vwCl L h sz b0)) (va_Qv (fun (u : List Nat × hx_h) => (∃ (bl1 : Int32) (ba1 : Int32) (wkf1 : Nat → Int32) (trf1 : Nat → Int32), u.2.2.1 x 11 = bl1 ∧ u.2.2.1 x 12 = ba1 ∧ u.2.2.1 qwl = wkf1 ∧ u.2.2.1 qtd = trf1 ∧ (hp_SR (hp_F (hp_f a r un0.toInt M o0.toInt.toNat) (K * 13 ^ (o0.toInt.toNat - 1)) (13 ^ (o0.toInt.toNat - 1)) s5) bl1.toInt ba1.toInt wkf1 a un0.toInt o0.toInt ∧ ∀ i : Nat, i < 1 → trf1 i = trf i)) ∧ hx_T T_tb u.1 u.2 ∧ hx_S T_tb [(5, 11), (5, 12), (28, 0), (33, 0)] L h u.1 u.2) (hx_E T_tb (P_ty dA) (dC, dI) vwCl (hx_A L sz)) (hx_A L sz)) 0 0 (hx_A L sz) := by
  refine hx_metX (lv := [(0, .ref x), (1, .int (1 : Int32)), (2, .int i2), (3, .int i3), (4, .int i4)]) (by decide +kernel) rfl (Nat.le_of_ble_eq_true rfl) rfl ?_
  intro p e s m below meth c hx hb hml hr hlk hts0 hown hin hsz hW hZ ls hl
  have hts : ∀ w ∈ hx_all, w.before _ s = true := fun w hw => hts0 w (List.mem_cons_of_mem _ hw)
  have hown : s.vm.findClass "SmallCourt$Plan" = some m.cls := hown
  have hM : hx_S T_tb [(5, 11), (5, 12), (28, 0), (33, 0)] L h L h := hx_S.rf
  have b_o0 := hT.gi gx tt_5 (k := 0) rfl
  rw [f_x_0] at b_o0
  have b_o0 : 0 ≤ o0.toInt ∧ o0.toInt ≤ 4 := b_o0
  have b_un0 := hT.gi gx tt_5 (k := 9) rfl
  rw [f_x_9] at b_un0
  have b_un0 : -2147483648 ≤ un0.toInt ∧ un0.toInt ≤ 2147483647 := b_un0
  have b_me0 := hT.gi gx tt_5 (k := 10) rfl
  rw [f_x_10] at b_me0
  have b_me0 : -2147483648 ≤ me0.toInt ∧ me0.toInt ≤ 2147483647 := b_me0
  have b_bl0 := hT.gi gx tt_5 (k := 11) rfl
  rw [f_x_11] at b_bl0
  have b_bl0 : -2147483648 ≤ bl0.toInt ∧ bl0.toInt ≤ 2147483647 := b_bl0
  have b_ba0 := hT.gi gx tt_5 (k := 12) rfl
  rw [f_x_12] at b_ba0
  have b_ba0 : -2147483648 ≤ ba0.toInt ∧ ba0.toInt ≤ 2147483647 := b_ba0
  refine lv_iload_n hx hb dX5_tryFrom_0 rfl (lv_at hl 1 rfl) ?_
  refine lv_aload_n hx hb dX5_tryFrom_1 rfl (lv_at hl 0 rfl) ?_
  refine hk_geti hx hb hts hC_5 hown hW (gx.S hM) tt_5 0 ?o0 rfl kw_258 ⟨rfl, rfl, rfl⟩ ((hM.o gx trivial rfl).1.trans f_x_0) dX5_tryFrom_2 ?_
  case o0 => decide
  refine hb_icmp_lt (zx := 1) (zy := o0.toInt) (tgt := 16) hx hb ?o1 rfl dX5_tryFrom_5 ?o2 (fun c_1 => ?_) (fun c_1 => ?_)
  case o1 => decide
  case o2 => decide
  · skip
    have hD9 := hp_pw (n := o0.toInt.toNat) (p := 1) ?o3
    case o3 => omega
    refine lv_aload_n hx hb dX5_tryFrom_16 rfl (lv_at hl 0 rfl) ?_
    refine lv_iload_n hx hb dX5_tryFrom_17 rfl (lv_at hl 1 rfl) ?_
    refine lv_iconst (v := 1) hx hb dX5_tryFrom_18 ?o4 ?_
    case o4 => decide
    refine lv_iadd hx hb dX5_tryFrom_19 ?_
    refine lv_topi (fun x_2 ex_2 => ?_)
    obtain rfl : x_2 = (2 : Int32) := ex_2.trans (by decide)
    have zc_2 : (2 : Int32).toInt = 2 := ?o5
    case o5 => decide
    refine hx_goi (hx_runV (As := [.int (2 : Int32)]) (rest := []) ⟨hx, hb, hml, hown, hts⟩ hW (gx.S hM) tt_5 (T := TX5) (N := 13) rfl (t_X5_leastFrom_v l dC dI dA L h s.heap.size x (2 : Int32) hT (gx.S hM) qle (gqle.S hM) ((hM.o gx trivial rfl).2.trans f_x_7) lef (hx_afS hM gqle rfl af_qle) o0 ((hM.o gx trivial rfl).1.trans f_x_0) a ha hab ⟨?o6, ?o7⟩) (cwV 1 hts (hx_gV kw_964 kw_961 kw_963 kw_33 kw_100) rfl rfl rfl (by decide +kernel) ⟨Nat.le_of_ble_eq_true rfl, Nat.le_of_ble_eq_true rfl⟩) rfl hl.1 rfl (Nat.le_of_ble_eq_true rfl) dX5_tryFrom_20 ⟨Nat.le_of_ble_eq_true rfl, Nat.le_of_ble_eq_true rfl⟩) hW (fun r_5 L_3 h_4 H locs p_6 hW => ?_)
    case o6 => omega
    case o7 => omega
    obtain ⟨hr_7, hT, hs⟩ := p_6
    replace hT : hx_T T_tb L_3 h_4 := hT
    replace hs : hx_S T_tb [] L h L_3 h_4 := hs
    replace f_x_11 := (hs.o (gx.S hM) trivial rfl).1.trans f_x_11
    replace f_x_12 := (hs.o (gx.S hM) trivial rfl).1.trans f_x_12
    replace af_qtd : h_4.2.1 qtd = trf := (funext fun j => (hs.a (gqtd.S hM) rfl j).1).trans af_qtd
    replace af_qwl : h_4.2.1 qwl = wkf := (funext fun j => (hs.a (gqwl.S hM) rfl j).1).trans af_qwl
    replace hM := hM.tr (hs.mono ?o8)
    case o8 => decide
    have hlf9 := hr_7.1; rw [zc_2, show (2 : Int).toNat = 2 from rfl] at hlf9
    refine lv_istore (lv' := [(5, .int r_5), (0, .ref x), (1, .int (1 : Int32)), (2, .int i2), (3, .int i3), (4, .int i4)]) hx hb dX5_tryFrom_23 hl ?o9 rfl (fun ls hl => ?_)
    case o9 => decide
    refine lv_iconst (v := 0) hx hb dX5_tryFrom_25 ?o10 ?_
    case o10 => decide
    refine lv_istore (lv' := [(6, .int (0 : Int32)), (5, .int r_5), (0, .ref x), (1, .int (1 : Int32)), (2, .int i2), (3, .int i3), (4, .int i4)]) hx hb dX5_tryFrom_26 hl ?o11 rfl (fun ls hl => ?_)
    case o11 => decide
    have loop28 : ∀ (n28 : Nat) (iv28_6 fw28_x_11 fw28_x_12 : Int32) (ia28_qtd ia28_qwl : Nat → Int32) (H : Heap) (locs : List Loc) (hL1 : List Nat) (hl1 : hx_h), 0 ≤ iv28_6.toInt → iv28_6.toInt ≤ 13 → -2147483648 ≤ fw28_x_11.toInt → fw28_x_11.toInt ≤ 2147483647 → -2147483648 ≤ fw28_x_12.toInt → fw28_x_12.toInt ≤ 2147483647 → (hp_SR (hp_F (hp_f a r un0.toInt M o0.toInt.toNat) (K * (13 * 13 ^ (o0.toInt.toNat - 2))) ((iv28_6.toInt).toNat * 13 ^ (o0.toInt.toNat - 2)) s5) fw28_x_11.toInt fw28_x_12.toInt ia28_qwl a un0.toInt o0.toInt) → (∀ i : Nat, i < 1 → ia28_qtd i = trf i) → ∀ (ls : Array Slot), 13 - iv28_6.toInt < (n28 : Int) → hx_W T_tb (P_ty dA) (dC, dI) vwCl (hx_A L sz) s.heap hL1 hl1 s H locs → hx_T T_tb hL1 hl1 → hx_S T_tb [(5, 11), (5, 12), (28, 0), (33, 0)] L h hL1 hl1 → hl1.2.1 x 11 = fw28_x_11 → hl1.2.1 x 12 = fw28_x_12 → hl1.2.1 qtd = ia28_qtd → hl1.2.1 qwl = ia28_qwl → lv_has ls 9 [(6, .int iv28_6), (5, .int r_5), (0, .ref x), (1, .int (1 : Int32)), (2, .int i2), (3, .int i3), (4, .int i4)] → W p l e ({ frames := 5, cells := 0, slots := 0, locals := 146 }) s m ([.ref x, .int (1 : Int32), .int i2, .int i3, .int i4] : List Value).toArray below meth c H locs 0 0 (MQ below (va_Qv (fun (u : List Nat × hx_h) => (∃ (bl1 : Int32) (ba1 : Int32) (wkf1 : Nat → Int32) (trf1 : Nat → Int32), u.2.2.1 x 11 = bl1 ∧ u.2.2.1 x 12 = ba1 ∧ u.2.2.1 qwl = wkf1 ∧ u.2.2.1 qtd = trf1 ∧ (hp_SR (hp_F (hp_f a r un0.toInt M o0.toInt.toNat) (K * 13 ^ (o0.toInt.toNat - 1)) (13 ^ (o0.toInt.toNat - 1)) s5) bl1.toInt ba1.toInt wkf1 a un0.toInt o0.toInt ∧ ∀ i : Nat, i < 1 → trf1 i = trf i)) ∧ hx_T T_tb u.1 u.2 ∧ hx_S T_tb [(5, 11), (5, 12), (28, 0), (33, 0)] L h u.1 u.2) (hx_E T_tb (P_ty dA) (dC, dI) vwCl (hx_A L sz)) (hx_A L sz)) ([.ref x, .int (1 : Int32), .int i2, .int i3, .int i4] : List Value).toArray s 0 0 (hx_A L sz)) (F0 m 28 ls []) := by
      intro n28
      induction n28 with
      | zero => intro iv28_6 fw28_x_11 fw28_x_12 ia28_qtd ia28_qwl H locs hL1 hl1 bliv28_6 buiv28_6 blfw28_x_11 bufw28_x_11 blfw28_x_12 bufw28_x_12 vi28_0 vi28_1 ls hn28; exfalso; omega
      | succ n28 ih28 =>
        intro iv28_6 fw28_x_11 fw28_x_12 ia28_qtd ia28_qwl H locs hL1 hl1 bliv28_6 buiv28_6 blfw28_x_11 bufw28_x_11 blfw28_x_12 bufw28_x_12 vi28_0 vi28_1 ls hn28 hW hT hM ffw28_x_11 ffw28_x_12 nia28_qtd nia28_qwl hl
        refine lv_iload hx hb dX5_tryFrom_28 (lv_at hl 0 rfl) ?_
        refine lv_bipush (v := 12) hx hb dX5_tryFrom_30 ?o12 ?_
        case o12 => decide
        refine hb_icmp_gt (zx := iv28_6.toInt) (zy := 12) (tgt := 124) hx hb rfl ?o13 dX5_tryFrom_32 ?o14 (fun c_8 => ?_) (fun c_8 => ?_)
        case o13 => decide
        case o14 => decide
        · skip
          exact hx_retv hx hb hr hlk hW ⟨⟨fw28_x_11, fw28_x_12, ia28_qwl, ia28_qtd, ffw28_x_11, ffw28_x_12, nia28_qwl, nia28_qtd, ⟨(by rw [hD9]; have h9 := vi28_0; rw [show iv28_6.toInt.toNat = 13 by omega] at h9; exact h9), vi28_1⟩⟩, hT, hM⟩ dX5_tryFrom_124
        · skip
          refine lv_aload_n hx hb dX5_tryFrom_35 rfl (lv_at hl 2 rfl) ?_
          refine hk_getr hx hb hts hC_5 hown hW (gx.S hM) tt_5 7 ?o15 rfl kw_270 ⟨rfl, rfl, rfl⟩ ((hM.o gx trivial rfl).2.trans f_x_7) dX5_tryFrom_36 ?_
          case o15 => decide
          refine lv_iload_n hx hb dX5_tryFrom_39 rfl (lv_at hl 3 rfl) ?_
          refine hx_iald hx hb hW hT (gqle.S hM) tt_32 rfl ?o16 dX5_tryFrom_40 (fun x_9 ex_9 lx_9 ux_9 => ?_)
          case o16 => decide
          have ax_9 : x_9 = lef (1 : Int32).toNatClampNeg := ex_9.trans (congrFun (hx_afS hM gqle rfl af_qle) _)
          have hav9 : x_9.toInt = a 1 := ?o17
          case o17 =>
            rw [ax_9, show (1 : Int32).toNatClampNeg = 1 from by decide]
            refine ha 1 ?o18
            case o18 => omega
          have hab9 := hab 1 (by omega); rw [← hav9] at hab9
          refine lv_iload hx hb dX5_tryFrom_41 (lv_at hl 0 rfl) ?_
          refine lv_aload_n hx hb dX5_tryFrom_43 rfl (lv_at hl 2 rfl) ?_
          refine hk_geti hx hb hts hC_5 hown hW (gx.S hM) tt_5 9 ?o19 rfl kw_272 ⟨rfl, rfl, rfl⟩ ((hM.o gx trivial rfl).1.trans f_x_9) dX5_tryFrom_44 ?_
          case o19 => decide
          refine lv_imul hx hb dX5_tryFrom_47 ?_
          refine lv_topi (fun x_10 ex_10 => ?_)
          have mx_10 : iv28_6.toInt = 0 → x_10.toInt = 0 := fun z => by rw [ex_10]; exact hx_mul0 z
          obtain ⟨m9, m9l, m9h⟩ := hp_mul ⟨by omega, by omega⟩ ⟨by omega, by omega⟩ ex_10
          refine lv_iadd hx hb dX5_tryFrom_48 ?_
          have rg_11 := i32_r x_9
          have rg_12 := i32_r x_10
          refine lv_topi (fun x_13 ex_13 => ?_)
          have zx_13 : x_13.toInt = x_9.toInt + x_10.toInt := ?o20
          case o20 =>
            rw [ex_13]
            refine i32_add rfl rfl ?o21 ?o22
            case o21 => omega
            case o22 => omega
          refine lv_istore (lv' := [(7, .int x_13), (6, .int iv28_6), (5, .int r_5), (0, .ref x), (1, .int (1 : Int32)), (2, .int i2), (3, .int i3), (4, .int i4)]) hx hb dX5_tryFrom_49 hl ?o23 rfl (fun ls hl => ?_)
          case o23 => decide
          have hw9 : x_13.toInt = hp_w a un0.toInt (fun i => if i = 1 then iv28_6.toInt else m5 i) 1 := ?o24
          case o24 =>
            show x_13.toInt = a 1 + (if 1 = 1 then iv28_6.toInt else m5 1) * un0.toInt
            rw [if_pos rfl, ← m9, ← hav9]
            omega
          have hj9 : ((iv28_6.toInt.toNat : Nat) : Int) = iv28_6.toInt := ?o25
          case o25 => omega
          refine lv_iload_n hx hb dX5_tryFrom_51 rfl (lv_at hl 5 rfl) ?_
          refine lv_iload hx hb dX5_tryFrom_52 (lv_at hl 0 rfl) ?_
          refine lv_iadd hx hb dX5_tryFrom_54 ?_
          have rg_14 := i32_r i2
          have rg_15 := i32_r x_13
          refine lv_topi (fun x_16 ex_16 => ?_)
          have zx_16 : x_16.toInt = i2.toInt + x_13.toInt := ?o26
          case o26 =>
            rw [ex_16]
            refine i32_add rfl rfl ?o27 ?o28
            case o27 => omega
            case o28 => omega
          refine lv_iload hx hb dX5_tryFrom_55 (lv_at hl 2 rfl) ?_
          refine lv_iadd hx hb dX5_tryFrom_57 ?_
          have rg_17 := i32_r x_16
          have rg_18 := i32_r r_5
          refine lv_topi (fun x_19 ex_19 => ?_)
          have zx_19 : x_19.toInt = x_16.toInt + r_5.toInt := ?o29
          case o29 =>
            rw [ex_19]
            refine i32_add rfl rfl ?o30 ?o31
            case o30 => omega
            case o31 => omega
          refine lv_aload_n hx hb dX5_tryFrom_58 rfl (lv_at hl 3 rfl) ?_
          refine hk_geti hx hb hts hC_5 hown hW (gx.S hM) tt_5 10 ?o32 rfl kw_273 ⟨rfl, rfl, rfl⟩ ((hM.o gx trivial rfl).1.trans f_x_10) dX5_tryFrom_59 ?_
          case o32 => decide
          refine hb_icmp_le (zx := x_19.toInt) (zy := me0.toInt) (tgt := 66) hx hb rfl rfl dX5_tryFrom_62 ?o33 (fun c_20 => ?_) (fun c_20 => ?_)
          case o33 => decide
          · skip
            refine lv_aload_n hx hb dX5_tryFrom_66 rfl (lv_at hl 3 rfl) ?_
            refine hk_getr hx hb hts hC_5 hown hW (gx.S hM) tt_5 6 ?o34 rfl kw_269 ⟨rfl, rfl, rfl⟩ ((hM.o gx trivial rfl).2.trans f_x_6) dX5_tryFrom_67 ?_
            case o34 => decide
            refine lv_iload_n hx hb dX5_tryFrom_70 rfl (lv_at hl 4 rfl) ?_
            refine hx_iald hx hb hW hT (gqre.S hM) tt_31 rfl ?o35 dX5_tryFrom_71 (fun x_21 ex_21 lx_21 ux_21 => ?_)
            case o35 => decide
            have ax_21 : x_21 = rsf (1 : Int32).toNatClampNeg := ex_21.trans (congrFun (hx_afS hM gqre rfl af_qre) _)
            have hrv9 : x_21.toInt = r 1 := ?o36
            case o36 =>
              rw [ax_21, show (1 : Int32).toNatClampNeg = 1 from by decide]
              refine hr5 1 ?o37
              case o37 => omega
            have hrb9 := hrb 1 (by omega); rw [← hrv9] at hrb9
            refine lv_iload hx hb dX5_tryFrom_72 (lv_at hl 0 rfl) ?_
            refine hx_goi (hx_runSN (As := [.int x_21, .int x_13]) (rest := []) ⟨hx, hb, hml, hown, hts⟩ hW (t_X9_roundUp_v l dC dI dA hL1 hl1 H.size x_21 x_13 hT) ⟨va_cnB 2 hts (hx_gC kw_921) rfl rfl rfl (hZ.1 _ (List.mem_of_getElem? (i := 10) rfl)) (hts _ kw_94) (by decide +kernel) ⟨Nat.le_of_ble_eq_true rfl, Nat.le_of_ble_eq_true rfl⟩, hts _ kw_920, trivial⟩ rfl hl.1 rfl (Nat.le_of_ble_eq_true rfl) dX5_tryFrom_74 ⟨Nat.le_of_ble_eq_true rfl, Nat.le_of_ble_eq_true rfl⟩) hW (fun r_24 L_22 h_23 H locs p_25 hW => ?_)
            obtain ⟨hr_26, hT, hs⟩ := p_25
            replace hT : hx_T T_tb L_22 h_23 := hT
            replace hs : hx_S T_tb [] hL1 hl1 L_22 h_23 := hs
            replace ffw28_x_11 := (hs.o (gx.S hM) trivial rfl).1.trans ffw28_x_11
            replace ffw28_x_12 := (hs.o (gx.S hM) trivial rfl).1.trans ffw28_x_12
            replace nia28_qtd : h_23.2.1 qtd = ia28_qtd := (funext fun j => (hs.a (gqtd.S hM) rfl j).1).trans nia28_qtd
            replace nia28_qwl : h_23.2.1 qwl = ia28_qwl := (funext fun j => (hs.a (gqwl.S hM) rfl j).1).trans nia28_qwl
            replace ex_9 := ex_9.trans (hs.a (gqle.S hM) rfl _).1.symm
            replace ex_21 := ex_21.trans (hs.a (gqre.S hM) rfl _).1.symm
            replace hM := hM.tr (hs.mono ?o38)
            case o38 => decide
            have hk9 : r_24.toInt = hp_k a r un0.toInt (fun i => if i = 1 then iv28_6.toInt else m5 i) 1 := ?o39
            case o39 =>
              unfold hp_k
              rw [← hw9, ← hrv9]
              exact hr_26
            have hkb9 : 0 ≤ r_24.toInt ∧ r_24.toInt ≤ 609999 := ?o40
            case o40 =>
              have h9 := hz_ru_b (s := x_21.toInt) (b := x_13.toInt)
              rw [← hr_26] at h9
              omega
            refine lv_istore (lv' := [(8, .int r_24), (7, .int x_13), (6, .int iv28_6), (5, .int r_5), (0, .ref x), (1, .int (1 : Int32)), (2, .int i2), (3, .int i3), (4, .int i4)]) hx hb dX5_tryFrom_77 hl ?o41 rfl (fun ls hl => ?_)
            case o41 => decide
            refine lv_aload_n hx hb dX5_tryFrom_79 rfl (lv_at hl 4 rfl) ?_
            refine hk_getr hx hb hts hC_5 hown hW (gx.S hM) tt_5 8 ?o42 rfl kw_271 ⟨rfl, rfl, rfl⟩ ((hM.o gx trivial rfl).2.trans f_x_8) dX5_tryFrom_80 ?_
            case o42 => decide
            refine lv_iload_n hx hb dX5_tryFrom_83 rfl (lv_at hl 5 rfl) ?_
            refine lv_iload hx hb dX5_tryFrom_84 (lv_at hl 1 rfl) ?_
            have nia28_qtdO := nia28_qtd
            refine hx_iast hx hb hW hT (hx_S.rf (M := [(33, 0)])) (gqtd.S hM) tt_33 rfl ?o43 rfl (i32_r _) (List.mem_singleton.mpr rfl) dX5_tryFrom_86 (fun H locs h_27 eh_27 hW hT hs => ?_)
            case o43 => decide
            replace ffw28_x_11 := (hs.o (gx.S hM) trivial rfl).1.trans ffw28_x_11
            replace ffw28_x_12 := (hs.o (gx.S hM) trivial rfl).1.trans ffw28_x_12
            replace nia28_qwl : h_27.2.1 qwl = ia28_qwl := (funext fun j => (hs.a (gqwl.S hM) rfl j).1).trans nia28_qwl
            replace ex_9 := ex_9.trans (hs.a (gqle.S hM) rfl _).1.symm
            replace ex_21 := ex_21.trans (hs.a (gqre.S hM) rfl _).1.symm
            replace hM := hM.tr (hs.mono ?o44)
            case o44 => decide
            obtain ⟨fa_28, dfa_28⟩ : ∃ g : Nat → Int32, g = hx_up ia28_qtd (1 : Int32).toNatClampNeg x_13 := ⟨_, rfl⟩
            have nfa_28 : h_27.2.1 qtd = fa_28 := ?o45
            case o45 =>
              rw [eh_27, dfa_28, ← nia28_qtdO]
              exact hx_pi_fun _ _ _ _
            have htr9 : ∀ i : Nat, i < 2 → (fa_28 i).toInt = hp_w a un0.toInt (fun i => if i = 1 then iv28_6.toInt else m5 i) i := fun i hi => by by_cases z : i = 1; (subst z; rw [dfa_28, show (1 : Int32).toNatClampNeg = 1 from by decide, hx_up_at]; exact hw9); (rw [dfa_28, hx_up_ne (by rw [show (1 : Int32).toNatClampNeg = 1 from by decide]; exact z), vi28_1 i (by omega)]; show _ = a i + (if i = 1 then iv28_6.toInt else m5 i) * un0.toInt; rw [if_neg z]; exact htr i (by omega))
            have htc9 : ∀ i : Nat, i < 1 → fa_28 i = trf i := fun i hi => by rw [dfa_28, hx_up_ne (by rw [show (1 : Int32).toNatClampNeg = 1 from by decide]; omega)]; exact vi28_1 i hi
            refine lv_iload hx hb dX5_tryFrom_87 (lv_at hl 0 rfl) ?_
            refine lv_aload_n hx hb dX5_tryFrom_89 rfl (lv_at hl 4 rfl) ?_
            refine hk_geti hx hb hts hC_5 hown hW (gx.S hM) tt_5 11 ?o46 rfl kw_274 ⟨rfl, rfl, rfl⟩ ffw28_x_11 dX5_tryFrom_90 ?_
            case o46 => decide
            refine hb_icmp_gt (zx := r_24.toInt) (zy := fw28_x_11.toInt) (tgt := 118) hx hb rfl rfl dX5_tryFrom_93 ?o47 (fun c_29 => ?_) (fun c_29 => ?_)
            case o47 => decide
            · skip
              obtain ⟨x_30, ex_30⟩ : ∃ y : Int32, y = iv28_6 + Int32.ofInt 1 := ⟨_, rfl⟩
              have rg_31 := i32_r iv28_6
              have zx_30 : x_30.toInt = iv28_6.toInt + (1) := ?o48
              case o48 =>
                rw [ex_30]
                refine i32_add rfl ?o49 ?o50 ?o51
                case o49 => decide
                case o50 => omega
                case o51 => omega
              refine lv_iinc (v := x_30) (lv' := [(6, .int x_30), (8, .int r_24), (7, .int x_13), (5, .int r_5), (0, .ref x), (1, .int (1 : Int32)), (2, .int i2), (3, .int i3), (4, .int i4)]) hx hb dX5_tryFrom_118 hl (k := 2) rfl ex_30.symm ?o52 rfl (fun ls hl => ?_)
              case o52 => decide
              refine lv_goto (tgt := 28) hx hb dX5_tryFrom_121 ?o53 ?_
              case o53 => decide
              refine ih28 x_30 fw28_x_11 fw28_x_12 fa_28 ia28_qwl _ _ L_22 h_27 ?o54 ?o55 (i32_r _).1 (i32_r _).2 (i32_r _).1 (i32_r _).2 (by rw [show x_30.toInt.toNat = iv28_6.toInt.toNat + 1 by omega, hp_skip (by omega) (by omega) rfl (y := r_24.toInt) (by rw [hj9, ← hrv9, ← hav9, ← m9, show x_9.toInt + x_10.toInt = x_13.toInt by omega]; exact hr_26) (by rw [vi28_0.1]; omega)]; exact vi28_0) htc9 ls ?o56 hW hT hM ffw28_x_11 ffw28_x_12 nfa_28 nia28_qwl (lv_sub hl [0, 3, 4, 5, 6, 7, 8] rfl)
              case o54 => omega
              case o55 => omega
              case o56 => omega
            · skip
              refine lv_aload_n hx hb dX5_tryFrom_96 rfl (lv_at hl 4 rfl) ?_
              refine lv_iload_n hx hb dX5_tryFrom_97 rfl (lv_at hl 5 rfl) ?_
              refine lv_iconst (v := 1) hx hb dX5_tryFrom_98 ?o57 ?_
              case o57 => decide
              refine lv_iadd hx hb dX5_tryFrom_99 ?_
              refine lv_topi (fun x_32 ex_32 => ?_)
              obtain rfl : x_32 = (2 : Int32) := ex_32.trans (by decide)
              refine lv_iload_n hx hb dX5_tryFrom_100 rfl (lv_at hl 6 rfl) ?_
              refine lv_iload hx hb dX5_tryFrom_101 (lv_at hl 1 rfl) ?_
              refine lv_iadd hx hb dX5_tryFrom_103 ?_
              refine lv_topi (fun x_33 ex_33 => ?_)
              have zx_33 : x_33.toInt = i2.toInt + x_13.toInt := ?o58
              case o58 =>
                rw [ex_33]
                refine i32_add rfl rfl ?o59 ?o60
                case o59 => omega
                case o60 => omega
              refine lv_iload_n hx hb dX5_tryFrom_104 rfl (lv_at hl 7 rfl) ?_
              refine lv_iload hx hb dX5_tryFrom_105 (lv_at hl 0 rfl) ?_
              refine va_mmax hx hb (hml.trans hl.1.symm) hown (hts _ kw_976) (hts _ kw_882) (hts _ kw_109) (hts _ kw_883) (Nat.le_of_ble_eq_true rfl) (Nat.le_of_ble_eq_true rfl) (Nat.le_of_ble_eq_true rfl) (Nat.le_of_ble_eq_true rfl) dX5_tryFrom_107 ?_
              refine lv_topi (fun x_34 ex_34 => ?_)
              have hmx9 := hz_mx_e ex_34
              refine lv_iload hx hb dX5_tryFrom_110 (lv_at hl 8 rfl) ?_
              refine lv_iload hx hb dX5_tryFrom_112 (lv_at hl 0 rfl) ?_
              refine lv_iadd hx hb dX5_tryFrom_114 ?_
              have rg_35 := i32_r i4
              have rg_36 := i32_r r_24
              refine lv_topi (fun x_37 ex_37 => ?_)
              have zx_37 : x_37.toInt = i4.toInt + r_24.toInt := ?o61
              case o61 =>
                rw [ex_37]
                refine i32_add rfl rfl ?o62 ?o63
                case o62 => omega
                case o63 => omega
              refine hx_gov (hx_runVX (As := [.int (2 : Int32), .int x_33, .int x_34, .int x_37]) (rest := []) ⟨hx, hb, hml, hown, hts⟩ hW (gx.S hM) tt_5 (T := TX5) (N := 13) rfl (t_X5_tryFrom_2v l dC dI dA L_22 h_27 H.size b0 x x_33 x_34 x_37 hT (gx.S hM) qle (gqle.S hM) ((hM.o gx trivial rfl).2.trans f_x_7) qre (gqre.S hM) ((hM.o gx trivial rfl).2.trans f_x_6) qtd (gqtd.S hM) ((hM.o gx trivial rfl).2.trans f_x_8) qwl (gqwl.S hM) ((hM.o gx trivial rfl).2.trans f_x_3) lef (hx_afS hM gqle rfl af_qle) rsf (hx_afS hM gqre rfl af_qre) fa_28 nfa_28 ia28_qwl nia28_qwl o0 ((hM.o gx trivial rfl).1.trans f_x_0) un0 ((hM.o gx trivial rfl).1.trans f_x_9) me0 ((hM.o gx trivial rfl).1.trans f_x_10) fw28_x_11 ffw28_x_11 fw28_x_12 ffw28_x_12 a ha hab r hr5 hrb hun M hMe hMb ?o64 (13 * K + iv28_6.toInt.toNat) (fun i => if i = 1 then iv28_6.toInt else m5 i) (hp_B_s hB ?o65 ?o66 (fun i hi => if_neg ?o67) (by show (if 1 = 1 then iv28_6.toInt else m5 1) = _; rw [if_pos rfl]; omega)) (hp_ss hsp (fun i hi => by show a i + (if i = 1 then iv28_6.toInt else m5 i) * un0.toInt = _; rw [if_neg (by omega)]; rfl) (by rw [← hw9]; omega)) (hp_mm hla (fun i hi => by show hz_ru (r i) (a i + (if i = 1 then iv28_6.toInt else m5 i) * un0.toInt) = _; rw [if_neg (by omega)]; rfl) (by rw [← hk9]; omega)) (hp_ss hal (fun i hi => by show hz_ru (r i) (a i + (if i = 1 then iv28_6.toInt else m5 i) * un0.toInt) = _; rw [if_neg (by omega)]; rfl) (by rw [← hk9]; omega)) htr9 (by have h9 := hMe (by omega); rw [← hlf9]; omega) ⟨?o68, ?o69⟩ ⟨?o70, ?o71⟩ ⟨?o72, ?o73⟩ _ vi28_0) hZ (cwV 4 hts (hx_gV kw_969 kw_966 kw_968 kw_34 kw_100) rfl rfl rfl (by decide +kernel) ⟨Nat.le_of_ble_eq_true rfl, Nat.le_of_ble_eq_true rfl⟩) rfl hl.1 rfl (Nat.le_of_ble_eq_true rfl) dX5_tryFrom_115 ⟨Nat.le_of_ble_eq_true rfl, Nat.le_of_ble_eq_true rfl⟩) hW (fun L_38 h_39 H locs p_41 hW => ?_)
              case o64 => omega
              case o65 => omega
              case o66 => omega
              case o67 => omega
              case o68 => omega
              case o69 => omega
              case o70 => omega
              case o71 => omega
              case o72 => omega
              case o73 => omega
              obtain ⟨⟨w_43, w_44, w_45, w_46, fw_43, fw_44, fw_45, fw_46, hr_42⟩, hT, hs⟩ := p_41
              replace hT : hx_T T_tb L_38 h_39 := hT
              replace hs : hx_S T_tb [(5, 11), (5, 12), (28, 0), (33, 0)] L_22 h_27 L_38 h_39 := hs
              replace ex_9 := ex_9.trans (hs.a (gqle.S hM) rfl _).1.symm
              replace ex_21 := ex_21.trans (hs.a (gqre.S hM) rfl _).1.symm
              replace hM := hM.tr (hs.mono ?o74)
              case o74 => decide
              have fw_43 : h_39.2.1 x 11 = w_43 := fw_43
              have bw_43 := hT.gi (gx.S hM) tt_5 (k := 11) rfl
              rw [fw_43] at bw_43
              have bw_43 : -2147483648 ≤ w_43.toInt ∧ w_43.toInt ≤ 2147483647 := bw_43
              have fw_44 : h_39.2.1 x 12 = w_44 := fw_44
              have bw_44 := hT.gi (gx.S hM) tt_5 (k := 12) rfl
              rw [fw_44] at bw_44
              have bw_44 : -2147483648 ≤ w_44.toInt ∧ w_44.toInt ≤ 2147483647 := bw_44
              have fw_45 : h_39.2.1 qwl = w_45 := fw_45
              have fw_46 : h_39.2.1 qtd = w_46 := fw_46
              obtain ⟨x_47, ex_47⟩ : ∃ y : Int32, y = iv28_6 + Int32.ofInt 1 := ⟨_, rfl⟩
              have rg_48 := i32_r iv28_6
              have zx_47 : x_47.toInt = iv28_6.toInt + (1) := ?o75
              case o75 =>
                rw [ex_47]
                refine i32_add rfl ?o76 ?o77 ?o78
                case o76 => decide
                case o77 => omega
                case o78 => omega
              refine lv_iinc (v := x_47) (lv' := [(6, .int x_47), (8, .int r_24), (7, .int x_13), (5, .int r_5), (0, .ref x), (1, .int (1 : Int32)), (2, .int i2), (3, .int i3), (4, .int i4)]) hx hb dX5_tryFrom_118 hl (k := 2) rfl ex_47.symm ?o79 rfl (fun ls hl => ?_)
              case o79 => decide
              refine lv_goto (tgt := 28) hx hb dX5_tryFrom_121 ?o80 ?_
              case o80 => decide
              refine ih28 x_47 w_43 w_44 w_46 w_45 _ _ L_38 h_39 ?o81 ?o82 (i32_r _).1 (i32_r _).2 (i32_r _).1 (i32_r _).2 (by rw [show x_47.toInt.toNat = iv28_6.toInt.toNat + 1 by omega, hp_F_blk]; exact hr_42.1) (fun i hi => (hr_42.2 i ?o83).trans (htc9 i hi)) ls ?o84 hW hT hM fw_43 fw_44 fw_46 fw_45 (lv_sub hl [0, 3, 4, 5, 6, 7, 8] rfl)
              case o81 => omega
              case o82 => omega
              case o83 => omega
              case o84 => omega
          · skip
            exact hx_retv hx hb hr hlk hW ⟨⟨fw28_x_11, fw28_x_12, ia28_qwl, ia28_qtd, ffw28_x_11, ffw28_x_12, nia28_qwl, nia28_qtd, ⟨(by rw [hD9, hp_F_end (j := iv28_6.toInt.toNat) (by omega) rfl (fun k9 h0 h1 => hp_inf hB (by omega) (by omega) (by omega) hsp (by have h9 := hMe (by omega); rw [hj9, ← m9, ← hav9, ← hlf9]; omega) h0 h1)]; exact vi28_0), vi28_1⟩⟩, hT, hM⟩ dX5_tryFrom_65
    have zk_0 : (0 : Int32).toInt = 0 := ?o85
    case o85 => decide
    refine loop28 14 (0 : Int32) bl0 ba0 trf wkf _ _ L_3 h_4 ?o86 ?o87 (i32_r _).1 (i32_r _).2 (i32_r _).1 (i32_r _).2 (by rw [zk_0, Int.toNat_zero, Nat.zero_mul]; exact hSR) (fun i hi => rfl) ls ?o88 hW hT hM f_x_11 f_x_12 af_qtd af_qwl hl
    case o86 => decide
    case o87 => decide
    case o88 => omega
  · skip
    have hdg9 := hp_B_e hB (show o0.toInt.toNat = 1 from ?o89)
    case o89 => omega
    refine lv_aload_n hx hb dX5_tryFrom_8 rfl (lv_at hl 0 rfl) ?_
    refine lv_iload_n hx hb dX5_tryFrom_9 rfl (lv_at hl 3 rfl) ?_
    refine lv_iload hx hb dX5_tryFrom_10 (lv_at hl 4 rfl) ?_
    refine hx_gov (hx_runV (As := [.int i3, .int i4]) (rest := []) ⟨hx, hb, hml, hown, hts⟩ hW (gx.S hM) tt_5 (T := TX5) (N := 13) rfl (t_X5_keepIfBetter_v l dC dI dA L h s.heap.size x i3 i4 hT (gx.S hM) qtd (gqtd.S hM) ((hM.o gx trivial rfl).2.trans f_x_8) qwl (gqwl.S hM) ((hM.o gx trivial rfl).2.trans f_x_3) trf af_qtd wkf af_qwl o0 ((hM.o gx trivial rfl).1.trans f_x_0) bl0 f_x_11 ba0 f_x_12 a un0.toInt (hp_dg o0.toInt.toNat K) (fun i hi => by unfold hp_w; rw [hdg9 i (by omega)]; exact htr i (by omega)) s5 hSR) (cwV 2 hts (hx_gV kw_973 kw_970 kw_972 kw_35 kw_100) rfl rfl rfl (by decide +kernel) ⟨Nat.le_of_ble_eq_true rfl, Nat.le_of_ble_eq_true rfl⟩) rfl hl.1 rfl (Nat.le_of_ble_eq_true rfl) dX5_tryFrom_12 ⟨Nat.le_of_ble_eq_true rfl, Nat.le_of_ble_eq_true rfl⟩) hW (fun L_49 h_50 H locs p_52 hW => ?_)
    obtain ⟨⟨w_54, w_55, w_56, fw_54, fw_55, fw_56, hr_53⟩, hT, hs⟩ := p_52
    replace hT : hx_T T_tb L_49 h_50 := hT
    replace hs : hx_S T_tb [(5, 11), (5, 12), (28, 0)] L h L_49 h_50 := hs
    replace af_qtd : h_50.2.1 qtd = trf := (funext fun j => (hs.a (gqtd.S hM) rfl j).1).trans af_qtd
    replace hM := hM.tr (hs.mono ?o90)
    case o90 => decide
    have fw_54 : h_50.2.1 x 11 = w_54 := fw_54
    have bw_54 := hT.gi (gx.S hM) tt_5 (k := 11) rfl
    rw [fw_54] at bw_54
    have bw_54 : -2147483648 ≤ w_54.toInt ∧ w_54.toInt ≤ 2147483647 := bw_54
    have fw_55 : h_50.2.1 x 12 = w_55 := fw_55
    have bw_55 := hT.gi (gx.S hM) tt_5 (k := 12) rfl
    rw [fw_55] at bw_55
    have bw_55 : -2147483648 ≤ w_55.toInt ∧ w_55.toInt ≤ 2147483647 := bw_55
    have fw_56 : h_50.2.1 qwl = w_56 := fw_56
    exact hx_retv hx hb hr hlk hW ⟨⟨w_54, w_55, w_56, trf, fw_54, fw_55, fw_56, af_qtd, ⟨(by rw [hp_leaf (show o0.toInt.toNat = 1 by omega) hdg9 hla hal (by have h9 := hfe; rw [show o0.toInt.toNat = 1 by omega] at h9; omega)]; exact hr_53), (fun i hi => rfl)⟩⟩, hT, hM⟩ dX5_tryFrom_15


set_option maxHeartbeats 4000000 in
set_option maxRecDepth 100000 in
theorem t_X5_tryFrom_0v (l : Launch) (dC : Nat → ClassId) (dI : Nat → Nat → Nat) (dA : Nat → ClassId) (L : List Nat) (h : hx_h) (sz : Nat) (b0 : hx_z) (x : Nat) (i2 : Int32) (i3 : Int32) (i4 : Int32) (hT : hx_T T_tb L h) (gx : hx_g L h x 5) (qle : Nat) (gqle : hx_g L h qle 32) (f_x_7 : h.2.2 x 7 = some qle) (qre : Nat) (gqre : hx_g L h qre 31) (f_x_6 : h.2.2 x 6 = some qre) (qtd : Nat) (gqtd : hx_g L h qtd 33) (f_x_8 : h.2.2 x 8 = some qtd) (qwl : Nat) (gqwl : hx_g L h qwl 28) (f_x_3 : h.2.2 x 3 = some qwl) (lef : Nat → Int32) (af_qle : h.2.1 qle = lef) (rsf : Nat → Int32) (af_qre : h.2.1 qre = rsf) (trf : Nat → Int32) (af_qtd : h.2.1 qtd = trf) (wkf : Nat → Int32) (af_qwl : h.2.1 qwl = wkf) (o0 : Int32) (f_x_0 : h.2.1 x 0 = o0) (un0 : Int32) (f_x_9 : h.2.1 x 9 = un0) (me0 : Int32) (f_x_10 : h.2.1 x 10 = me0) (bl0 : Int32) (f_x_11 : h.2.1 x 11 = bl0) (ba0 : Int32) (f_x_12 : h.2.1 x 12 = ba0) (a : Nat → Int) (ha : ∀ i : Nat, (i : Int) < o0.toInt → (lef i).toInt = a i) (hab : ∀ i : Nat, (i : Int) < o0.toInt → 1 ≤ a i ∧ a i ≤ 9999) (r : Nat → Int) (hr5 : ∀ i : Nat, (i : Int) < o0.toInt → (rsf i).toInt = r i) (hrb : ∀ i : Nat, (i : Int) < o0.toInt → 1 ≤ r i ∧ r i ≤ 609999) (hun : 1 ≤ un0.toInt ∧ un0.toInt ≤ 99) (M : Int) (hMe : 1 ≤ o0.toInt → M = me0.toInt) (hMb : M ≤ 9999) (hpn : 0 ≤ o0.toInt) (K : Nat) (m5 : Nat → Int) (hB : hp_B o0.toInt.toNat 0 K m5) (hsp : i2.toInt = hp_s (hp_w a un0.toInt m5) 0) (hla : i3.toInt = hp_m (hp_k a r un0.toInt m5) 0) (hal : i4.toInt = hp_s (hp_k a r un0.toInt m5) 0) (htr : ∀ i : Nat, i < 0 → (trf i).toInt = hp_w a un0.toInt m5 i) (hfe : i2.toInt + (hp_s a o0.toInt.toNat - hp_s a 0) ≤ M) (hi2 : 0 ≤ i2.toInt ∧ i2.toInt ≤ 9999) (hi3 : 0 ≤ i3.toInt ∧ i3.toInt ≤ 609999) (hi4 : 0 ≤ i4.toInt ∧ i4.toInt ≤ 0) (s5 : hp_S) (hSR : hp_SR s5 bl0.toInt ba0.toInt wkf a un0.toInt o0.toInt) : Met l yX5_tryFrom (Cond.code yX5_tryFrom cX5_tryFrom 9 none :: hx_all) ({ frames := 6, cells := 0, slots := 0, locals := 174 }) (va_Pc [.ref x, .int (0 : Int32), .int i2, .int i3, .int i4] (hx_BX T_tb (P_ty dA) (dC, dI) vwCl L h sz b0)) (va_Qv (fun (u : List Nat × hx_h) => (∃ (bl1 : Int32) (ba1 : Int32) (wkf1 : Nat → Int32), u.2.2.1 x 11 = bl1 ∧ u.2.2.1 x 12 = ba1 ∧ u.2.2.1 qwl = wkf1 ∧ (hp_SR (hp_F (hp_f a r un0.toInt M o0.toInt.toNat) (K * 13 ^ (o0.toInt.toNat - 0)) (13 ^ (o0.toInt.toNat - 0)) s5) bl1.toInt ba1.toInt wkf1 a un0.toInt o0.toInt)) ∧ hx_T T_tb u.1 u.2 ∧ hx_S T_tb [(5, 11), (5, 12), (28, 0), (33, 0)] L h u.1 u.2) (hx_E T_tb (P_ty dA) (dC, dI) vwCl (hx_A L sz)) (hx_A L sz)) 0 0 (hx_A L sz) := by
  refine hx_metX (lv := [(0, .ref x), (1, .int (0 : Int32)), (2, .int i2), (3, .int i3), (4, .int i4)]) (by decide +kernel) rfl (Nat.le_of_ble_eq_true rfl) rfl ?_
  intro p e s m below meth c hx hb hml hr hlk hts0 hown hin hsz hW hZ ls hl
  have hts : ∀ w ∈ hx_all, w.before _ s = true := fun w hw => hts0 w (List.mem_cons_of_mem _ hw)
  have hown : s.vm.findClass "SmallCourt$Plan" = some m.cls := hown
  have hM : hx_S T_tb [(5, 11), (5, 12), (28, 0), (33, 0)] L h L h := hx_S.rf
  have b_o0 := hT.gi gx tt_5 (k := 0) rfl
  rw [f_x_0] at b_o0
  have b_o0 : 0 ≤ o0.toInt ∧ o0.toInt ≤ 4 := b_o0
  have b_un0 := hT.gi gx tt_5 (k := 9) rfl
  rw [f_x_9] at b_un0
  have b_un0 : -2147483648 ≤ un0.toInt ∧ un0.toInt ≤ 2147483647 := b_un0
  have b_me0 := hT.gi gx tt_5 (k := 10) rfl
  rw [f_x_10] at b_me0
  have b_me0 : -2147483648 ≤ me0.toInt ∧ me0.toInt ≤ 2147483647 := b_me0
  have b_bl0 := hT.gi gx tt_5 (k := 11) rfl
  rw [f_x_11] at b_bl0
  have b_bl0 : -2147483648 ≤ bl0.toInt ∧ bl0.toInt ≤ 2147483647 := b_bl0
  have b_ba0 := hT.gi gx tt_5 (k := 12) rfl
  rw [f_x_12] at b_ba0
  have b_ba0 : -2147483648 ≤ ba0.toInt ∧ ba0.toInt ≤ 2147483647 := b_ba0
  refine lv_iload_n hx hb dX5_tryFrom_0 rfl (lv_at hl 1 rfl) ?_
  refine lv_aload_n hx hb dX5_tryFrom_1 rfl (lv_at hl 0 rfl) ?_
  refine hk_geti hx hb hts hC_5 hown hW (gx.S hM) tt_5 0 ?o0 rfl kw_258 ⟨rfl, rfl, rfl⟩ ((hM.o gx trivial rfl).1.trans f_x_0) dX5_tryFrom_2 ?_
  case o0 => decide
  refine hb_icmp_lt (zx := 0) (zy := o0.toInt) (tgt := 16) hx hb ?o1 rfl dX5_tryFrom_5 ?o2 (fun c_1 => ?_) (fun c_1 => ?_)
  case o1 => decide
  case o2 => decide
  · skip
    have hD9 := hp_pw (n := o0.toInt.toNat) (p := 0) ?o3
    case o3 => omega
    refine lv_aload_n hx hb dX5_tryFrom_16 rfl (lv_at hl 0 rfl) ?_
    refine lv_iload_n hx hb dX5_tryFrom_17 rfl (lv_at hl 1 rfl) ?_
    refine lv_iconst (v := 1) hx hb dX5_tryFrom_18 ?o4 ?_
    case o4 => decide
    refine lv_iadd hx hb dX5_tryFrom_19 ?_
    refine lv_topi (fun x_2 ex_2 => ?_)
    obtain rfl : x_2 = (1 : Int32) := ex_2.trans (by decide)
    have zc_1 : (1 : Int32).toInt = 1 := ?o5
    case o5 => decide
    refine hx_goi (hx_runV (As := [.int (1 : Int32)]) (rest := []) ⟨hx, hb, hml, hown, hts⟩ hW (gx.S hM) tt_5 (T := TX5) (N := 13) rfl (t_X5_leastFrom_v l dC dI dA L h s.heap.size x (1 : Int32) hT (gx.S hM) qle (gqle.S hM) ((hM.o gx trivial rfl).2.trans f_x_7) lef (hx_afS hM gqle rfl af_qle) o0 ((hM.o gx trivial rfl).1.trans f_x_0) a ha hab ⟨?o6, ?o7⟩) (cwV 1 hts (hx_gV kw_964 kw_961 kw_963 kw_33 kw_100) rfl rfl rfl (by decide +kernel) ⟨Nat.le_of_ble_eq_true rfl, Nat.le_of_ble_eq_true rfl⟩) rfl hl.1 rfl (Nat.le_of_ble_eq_true rfl) dX5_tryFrom_20 ⟨Nat.le_of_ble_eq_true rfl, Nat.le_of_ble_eq_true rfl⟩) hW (fun r_5 L_3 h_4 H locs p_6 hW => ?_)
    case o6 => omega
    case o7 => omega
    obtain ⟨hr_7, hT, hs⟩ := p_6
    replace hT : hx_T T_tb L_3 h_4 := hT
    replace hs : hx_S T_tb [] L h L_3 h_4 := hs
    replace f_x_11 := (hs.o (gx.S hM) trivial rfl).1.trans f_x_11
    replace f_x_12 := (hs.o (gx.S hM) trivial rfl).1.trans f_x_12
    replace af_qtd : h_4.2.1 qtd = trf := (funext fun j => (hs.a (gqtd.S hM) rfl j).1).trans af_qtd
    replace af_qwl : h_4.2.1 qwl = wkf := (funext fun j => (hs.a (gqwl.S hM) rfl j).1).trans af_qwl
    replace hM := hM.tr (hs.mono ?o8)
    case o8 => decide
    have hlf9 := hr_7.1; rw [zc_1, show (1 : Int).toNat = 1 from rfl] at hlf9
    refine lv_istore (lv' := [(5, .int r_5), (0, .ref x), (1, .int (0 : Int32)), (2, .int i2), (3, .int i3), (4, .int i4)]) hx hb dX5_tryFrom_23 hl ?o9 rfl (fun ls hl => ?_)
    case o9 => decide
    refine lv_iconst (v := 0) hx hb dX5_tryFrom_25 ?o10 ?_
    case o10 => decide
    refine lv_istore (lv' := [(6, .int (0 : Int32)), (5, .int r_5), (0, .ref x), (1, .int (0 : Int32)), (2, .int i2), (3, .int i3), (4, .int i4)]) hx hb dX5_tryFrom_26 hl ?o11 rfl (fun ls hl => ?_)
    case o11 => decide
    have loop28 : ∀ (n28 : Nat) (iv28_6 fw28_x_11 fw28_x_12 : Int32) (ia28_qtd ia28_qwl : Nat → Int32) (H : Heap) (locs : List Loc) (hL1 : List Nat) (hl1 : hx_h), 0 ≤ iv28_6.toInt → iv28_6.toInt ≤ 13 → -2147483648 ≤ fw28_x_11.toInt → fw28_x_11.toInt ≤ 2147483647 → -2147483648 ≤ fw28_x_12.toInt → fw28_x_12.toInt ≤ 2147483647 → (hp_SR (hp_F (hp_f a r un0.toInt M o0.toInt.toNat) (K * (13 * 13 ^ (o0.toInt.toNat - 1))) ((iv28_6.toInt).toNat * 13 ^ (o0.toInt.toNat - 1)) s5) fw28_x_11.toInt fw28_x_12.toInt ia28_qwl a un0.toInt o0.toInt) → (∀ i : Nat, i < 0 → ia28_qtd i = trf i) → ∀ (ls : Array Slot), 13 - iv28_6.toInt < (n28 : Int) → hx_W T_tb (P_ty dA) (dC, dI) vwCl (hx_A L sz) s.heap hL1 hl1 s H locs → hx_T T_tb hL1 hl1 → hx_S T_tb [(5, 11), (5, 12), (28, 0), (33, 0)] L h hL1 hl1 → hl1.2.1 x 11 = fw28_x_11 → hl1.2.1 x 12 = fw28_x_12 → hl1.2.1 qtd = ia28_qtd → hl1.2.1 qwl = ia28_qwl → lv_has ls 9 [(6, .int iv28_6), (5, .int r_5), (0, .ref x), (1, .int (0 : Int32)), (2, .int i2), (3, .int i3), (4, .int i4)] → W p l e ({ frames := 6, cells := 0, slots := 0, locals := 174 }) s m ([.ref x, .int (0 : Int32), .int i2, .int i3, .int i4] : List Value).toArray below meth c H locs 0 0 (MQ below (va_Qv (fun (u : List Nat × hx_h) => (∃ (bl1 : Int32) (ba1 : Int32) (wkf1 : Nat → Int32), u.2.2.1 x 11 = bl1 ∧ u.2.2.1 x 12 = ba1 ∧ u.2.2.1 qwl = wkf1 ∧ (hp_SR (hp_F (hp_f a r un0.toInt M o0.toInt.toNat) (K * 13 ^ (o0.toInt.toNat - 0)) (13 ^ (o0.toInt.toNat - 0)) s5) bl1.toInt ba1.toInt wkf1 a un0.toInt o0.toInt)) ∧ hx_T T_tb u.1 u.2 ∧ hx_S T_tb [(5, 11), (5, 12), (28, 0), (33, 0)] L h u.1 u.2) (hx_E T_tb (P_ty dA) (dC, dI) vwCl (hx_A L sz)) (hx_A L sz)) ([.ref x, .int (0 : Int32), .int i2, .int i3, .int i4] : List Value).toArray s 0 0 (hx_A L sz)) (F0 m 28 ls []) := by
      intro n28
      induction n28 with
      | zero => intro iv28_6 fw28_x_11 fw28_x_12 ia28_qtd ia28_qwl H locs hL1 hl1 bliv28_6 buiv28_6 blfw28_x_11 bufw28_x_11 blfw28_x_12 bufw28_x_12 vi28_0 vi28_1 ls hn28; exfalso; omega
      | succ n28 ih28 =>
        intro iv28_6 fw28_x_11 fw28_x_12 ia28_qtd ia28_qwl H locs hL1 hl1 bliv28_6 buiv28_6 blfw28_x_11 bufw28_x_11 blfw28_x_12 bufw28_x_12 vi28_0 vi28_1 ls hn28 hW hT hM ffw28_x_11 ffw28_x_12 nia28_qtd nia28_qwl hl
        refine lv_iload hx hb dX5_tryFrom_28 (lv_at hl 0 rfl) ?_
        refine lv_bipush (v := 12) hx hb dX5_tryFrom_30 ?o12 ?_
        case o12 => decide
        refine hb_icmp_gt (zx := iv28_6.toInt) (zy := 12) (tgt := 124) hx hb rfl ?o13 dX5_tryFrom_32 ?o14 (fun c_8 => ?_) (fun c_8 => ?_)
        case o13 => decide
        case o14 => decide
        · skip
          exact hx_retv hx hb hr hlk hW ⟨⟨fw28_x_11, fw28_x_12, ia28_qwl, ffw28_x_11, ffw28_x_12, nia28_qwl, (by rw [hD9]; have h9 := vi28_0; rw [show iv28_6.toInt.toNat = 13 by omega] at h9; exact h9)⟩, hT, hM⟩ dX5_tryFrom_124
        · skip
          refine lv_aload_n hx hb dX5_tryFrom_35 rfl (lv_at hl 2 rfl) ?_
          refine hk_getr hx hb hts hC_5 hown hW (gx.S hM) tt_5 7 ?o15 rfl kw_270 ⟨rfl, rfl, rfl⟩ ((hM.o gx trivial rfl).2.trans f_x_7) dX5_tryFrom_36 ?_
          case o15 => decide
          refine lv_iload_n hx hb dX5_tryFrom_39 rfl (lv_at hl 3 rfl) ?_
          refine hx_iald hx hb hW hT (gqle.S hM) tt_32 rfl ?o16 dX5_tryFrom_40 (fun x_9 ex_9 lx_9 ux_9 => ?_)
          case o16 => decide
          have ax_9 : x_9 = lef (0 : Int32).toNatClampNeg := ex_9.trans (congrFun (hx_afS hM gqle rfl af_qle) _)
          have hav9 : x_9.toInt = a 0 := ?o17
          case o17 =>
            rw [ax_9, show (0 : Int32).toNatClampNeg = 0 from by decide]
            refine ha 0 ?o18
            case o18 => omega
          have hab9 := hab 0 (by omega); rw [← hav9] at hab9
          refine lv_iload hx hb dX5_tryFrom_41 (lv_at hl 0 rfl) ?_
          refine lv_aload_n hx hb dX5_tryFrom_43 rfl (lv_at hl 2 rfl) ?_
          refine hk_geti hx hb hts hC_5 hown hW (gx.S hM) tt_5 9 ?o19 rfl kw_272 ⟨rfl, rfl, rfl⟩ ((hM.o gx trivial rfl).1.trans f_x_9) dX5_tryFrom_44 ?_
          case o19 => decide
          refine lv_imul hx hb dX5_tryFrom_47 ?_
          refine lv_topi (fun x_10 ex_10 => ?_)
          have mx_10 : iv28_6.toInt = 0 → x_10.toInt = 0 := fun z => by rw [ex_10]; exact hx_mul0 z
          obtain ⟨m9, m9l, m9h⟩ := hp_mul ⟨by omega, by omega⟩ ⟨by omega, by omega⟩ ex_10
          refine lv_iadd hx hb dX5_tryFrom_48 ?_
          have rg_11 := i32_r x_9
          have rg_12 := i32_r x_10
          refine lv_topi (fun x_13 ex_13 => ?_)
          have zx_13 : x_13.toInt = x_9.toInt + x_10.toInt := ?o20
          case o20 =>
            rw [ex_13]
            refine i32_add rfl rfl ?o21 ?o22
            case o21 => omega
            case o22 => omega
          refine lv_istore (lv' := [(7, .int x_13), (6, .int iv28_6), (5, .int r_5), (0, .ref x), (1, .int (0 : Int32)), (2, .int i2), (3, .int i3), (4, .int i4)]) hx hb dX5_tryFrom_49 hl ?o23 rfl (fun ls hl => ?_)
          case o23 => decide
          have hw9 : x_13.toInt = hp_w a un0.toInt (fun i => if i = 0 then iv28_6.toInt else m5 i) 0 := ?o24
          case o24 =>
            show x_13.toInt = a 0 + (if 0 = 0 then iv28_6.toInt else m5 0) * un0.toInt
            rw [if_pos rfl, ← m9, ← hav9]
            omega
          have hj9 : ((iv28_6.toInt.toNat : Nat) : Int) = iv28_6.toInt := ?o25
          case o25 => omega
          refine lv_iload_n hx hb dX5_tryFrom_51 rfl (lv_at hl 5 rfl) ?_
          refine lv_iload hx hb dX5_tryFrom_52 (lv_at hl 0 rfl) ?_
          refine lv_iadd hx hb dX5_tryFrom_54 ?_
          have rg_14 := i32_r i2
          have rg_15 := i32_r x_13
          refine lv_topi (fun x_16 ex_16 => ?_)
          have zx_16 : x_16.toInt = i2.toInt + x_13.toInt := ?o26
          case o26 =>
            rw [ex_16]
            refine i32_add rfl rfl ?o27 ?o28
            case o27 => omega
            case o28 => omega
          refine lv_iload hx hb dX5_tryFrom_55 (lv_at hl 2 rfl) ?_
          refine lv_iadd hx hb dX5_tryFrom_57 ?_
          have rg_17 := i32_r x_16
          have rg_18 := i32_r r_5
          refine lv_topi (fun x_19 ex_19 => ?_)
          have zx_19 : x_19.toInt = x_16.toInt + r_5.toInt := ?o29
          case o29 =>
            rw [ex_19]
            refine i32_add rfl rfl ?o30 ?o31
            case o30 => omega
            case o31 => omega
          refine lv_aload_n hx hb dX5_tryFrom_58 rfl (lv_at hl 3 rfl) ?_
          refine hk_geti hx hb hts hC_5 hown hW (gx.S hM) tt_5 10 ?o32 rfl kw_273 ⟨rfl, rfl, rfl⟩ ((hM.o gx trivial rfl).1.trans f_x_10) dX5_tryFrom_59 ?_
          case o32 => decide
          refine hb_icmp_le (zx := x_19.toInt) (zy := me0.toInt) (tgt := 66) hx hb rfl rfl dX5_tryFrom_62 ?o33 (fun c_20 => ?_) (fun c_20 => ?_)
          case o33 => decide
          · skip
            refine lv_aload_n hx hb dX5_tryFrom_66 rfl (lv_at hl 3 rfl) ?_
            refine hk_getr hx hb hts hC_5 hown hW (gx.S hM) tt_5 6 ?o34 rfl kw_269 ⟨rfl, rfl, rfl⟩ ((hM.o gx trivial rfl).2.trans f_x_6) dX5_tryFrom_67 ?_
            case o34 => decide
            refine lv_iload_n hx hb dX5_tryFrom_70 rfl (lv_at hl 4 rfl) ?_
            refine hx_iald hx hb hW hT (gqre.S hM) tt_31 rfl ?o35 dX5_tryFrom_71 (fun x_21 ex_21 lx_21 ux_21 => ?_)
            case o35 => decide
            have ax_21 : x_21 = rsf (0 : Int32).toNatClampNeg := ex_21.trans (congrFun (hx_afS hM gqre rfl af_qre) _)
            have hrv9 : x_21.toInt = r 0 := ?o36
            case o36 =>
              rw [ax_21, show (0 : Int32).toNatClampNeg = 0 from by decide]
              refine hr5 0 ?o37
              case o37 => omega
            have hrb9 := hrb 0 (by omega); rw [← hrv9] at hrb9
            refine lv_iload hx hb dX5_tryFrom_72 (lv_at hl 0 rfl) ?_
            refine hx_goi (hx_runSN (As := [.int x_21, .int x_13]) (rest := []) ⟨hx, hb, hml, hown, hts⟩ hW (t_X9_roundUp_v l dC dI dA hL1 hl1 H.size x_21 x_13 hT) ⟨va_cnB 2 hts (hx_gC kw_921) rfl rfl rfl (hZ.1 _ (List.mem_of_getElem? (i := 10) rfl)) (hts _ kw_94) (by decide +kernel) ⟨Nat.le_of_ble_eq_true rfl, Nat.le_of_ble_eq_true rfl⟩, hts _ kw_920, trivial⟩ rfl hl.1 rfl (Nat.le_of_ble_eq_true rfl) dX5_tryFrom_74 ⟨Nat.le_of_ble_eq_true rfl, Nat.le_of_ble_eq_true rfl⟩) hW (fun r_24 L_22 h_23 H locs p_25 hW => ?_)
            obtain ⟨hr_26, hT, hs⟩ := p_25
            replace hT : hx_T T_tb L_22 h_23 := hT
            replace hs : hx_S T_tb [] hL1 hl1 L_22 h_23 := hs
            replace ffw28_x_11 := (hs.o (gx.S hM) trivial rfl).1.trans ffw28_x_11
            replace ffw28_x_12 := (hs.o (gx.S hM) trivial rfl).1.trans ffw28_x_12
            replace nia28_qtd : h_23.2.1 qtd = ia28_qtd := (funext fun j => (hs.a (gqtd.S hM) rfl j).1).trans nia28_qtd
            replace nia28_qwl : h_23.2.1 qwl = ia28_qwl := (funext fun j => (hs.a (gqwl.S hM) rfl j).1).trans nia28_qwl
            replace ex_9 := ex_9.trans (hs.a (gqle.S hM) rfl _).1.symm
            replace ex_21 := ex_21.trans (hs.a (gqre.S hM) rfl _).1.symm
            replace hM := hM.tr (hs.mono ?o38)
            case o38 => decide
            have hk9 : r_24.toInt = hp_k a r un0.toInt (fun i => if i = 0 then iv28_6.toInt else m5 i) 0 := ?o39
            case o39 =>
              unfold hp_k
              rw [← hw9, ← hrv9]
              exact hr_26
            have hkb9 : 0 ≤ r_24.toInt ∧ r_24.toInt ≤ 609999 := ?o40
            case o40 =>
              have h9 := hz_ru_b (s := x_21.toInt) (b := x_13.toInt)
              rw [← hr_26] at h9
              omega
            refine lv_istore (lv' := [(8, .int r_24), (7, .int x_13), (6, .int iv28_6), (5, .int r_5), (0, .ref x), (1, .int (0 : Int32)), (2, .int i2), (3, .int i3), (4, .int i4)]) hx hb dX5_tryFrom_77 hl ?o41 rfl (fun ls hl => ?_)
            case o41 => decide
            refine lv_aload_n hx hb dX5_tryFrom_79 rfl (lv_at hl 4 rfl) ?_
            refine hk_getr hx hb hts hC_5 hown hW (gx.S hM) tt_5 8 ?o42 rfl kw_271 ⟨rfl, rfl, rfl⟩ ((hM.o gx trivial rfl).2.trans f_x_8) dX5_tryFrom_80 ?_
            case o42 => decide
            refine lv_iload_n hx hb dX5_tryFrom_83 rfl (lv_at hl 5 rfl) ?_
            refine lv_iload hx hb dX5_tryFrom_84 (lv_at hl 1 rfl) ?_
            have nia28_qtdO := nia28_qtd
            refine hx_iast hx hb hW hT (hx_S.rf (M := [(33, 0)])) (gqtd.S hM) tt_33 rfl ?o43 rfl (i32_r _) (List.mem_singleton.mpr rfl) dX5_tryFrom_86 (fun H locs h_27 eh_27 hW hT hs => ?_)
            case o43 => decide
            replace ffw28_x_11 := (hs.o (gx.S hM) trivial rfl).1.trans ffw28_x_11
            replace ffw28_x_12 := (hs.o (gx.S hM) trivial rfl).1.trans ffw28_x_12
            replace nia28_qwl : h_27.2.1 qwl = ia28_qwl := (funext fun j => (hs.a (gqwl.S hM) rfl j).1).trans nia28_qwl
            replace ex_9 := ex_9.trans (hs.a (gqle.S hM) rfl _).1.symm
            replace ex_21 := ex_21.trans (hs.a (gqre.S hM) rfl _).1.symm
            replace hM := hM.tr (hs.mono ?o44)
            case o44 => decide
            obtain ⟨fa_28, dfa_28⟩ : ∃ g : Nat → Int32, g = hx_up ia28_qtd (0 : Int32).toNatClampNeg x_13 := ⟨_, rfl⟩
            have nfa_28 : h_27.2.1 qtd = fa_28 := ?o45
            case o45 =>
              rw [eh_27, dfa_28, ← nia28_qtdO]
              exact hx_pi_fun _ _ _ _
            have htr9 : ∀ i : Nat, i < 1 → (fa_28 i).toInt = hp_w a un0.toInt (fun i => if i = 0 then iv28_6.toInt else m5 i) i := fun i hi => by by_cases z : i = 0; (subst z; rw [dfa_28, show (0 : Int32).toNatClampNeg = 0 from by decide, hx_up_at]; exact hw9); (rw [dfa_28, hx_up_ne (by rw [show (0 : Int32).toNatClampNeg = 0 from by decide]; exact z), vi28_1 i (by omega)]; show _ = a i + (if i = 0 then iv28_6.toInt else m5 i) * un0.toInt; rw [if_neg z]; exact htr i (by omega))
            have htc9 : ∀ i : Nat, i < 0 → fa_28 i = trf i := fun i hi => by rw [dfa_28, hx_up_ne (by rw [show (0 : Int32).toNatClampNeg = 0 from by decide]; omega)]; exact vi28_1 i hi
            refine lv_iload hx hb dX5_tryFrom_87 (lv_at hl 0 rfl) ?_
            refine lv_aload_n hx hb dX5_tryFrom_89 rfl (lv_at hl 4 rfl) ?_
            refine hk_geti hx hb hts hC_5 hown hW (gx.S hM) tt_5 11 ?o46 rfl kw_274 ⟨rfl, rfl, rfl⟩ ffw28_x_11 dX5_tryFrom_90 ?_
            case o46 => decide
            refine hb_icmp_gt (zx := r_24.toInt) (zy := fw28_x_11.toInt) (tgt := 118) hx hb rfl rfl dX5_tryFrom_93 ?o47 (fun c_29 => ?_) (fun c_29 => ?_)
            case o47 => decide
            · skip
              obtain ⟨x_30, ex_30⟩ : ∃ y : Int32, y = iv28_6 + Int32.ofInt 1 := ⟨_, rfl⟩
              have rg_31 := i32_r iv28_6
              have zx_30 : x_30.toInt = iv28_6.toInt + (1) := ?o48
              case o48 =>
                rw [ex_30]
                refine i32_add rfl ?o49 ?o50 ?o51
                case o49 => decide
                case o50 => omega
                case o51 => omega
              refine lv_iinc (v := x_30) (lv' := [(6, .int x_30), (8, .int r_24), (7, .int x_13), (5, .int r_5), (0, .ref x), (1, .int (0 : Int32)), (2, .int i2), (3, .int i3), (4, .int i4)]) hx hb dX5_tryFrom_118 hl (k := 2) rfl ex_30.symm ?o52 rfl (fun ls hl => ?_)
              case o52 => decide
              refine lv_goto (tgt := 28) hx hb dX5_tryFrom_121 ?o53 ?_
              case o53 => decide
              refine ih28 x_30 fw28_x_11 fw28_x_12 fa_28 ia28_qwl _ _ L_22 h_27 ?o54 ?o55 (i32_r _).1 (i32_r _).2 (i32_r _).1 (i32_r _).2 (by rw [show x_30.toInt.toNat = iv28_6.toInt.toNat + 1 by omega, hp_skip (by omega) (by omega) rfl (y := r_24.toInt) (by rw [hj9, ← hrv9, ← hav9, ← m9, show x_9.toInt + x_10.toInt = x_13.toInt by omega]; exact hr_26) (by rw [vi28_0.1]; omega)]; exact vi28_0) htc9 ls ?o56 hW hT hM ffw28_x_11 ffw28_x_12 nfa_28 nia28_qwl (lv_sub hl [0, 3, 4, 5, 6, 7, 8] rfl)
              case o54 => omega
              case o55 => omega
              case o56 => omega
            · skip
              refine lv_aload_n hx hb dX5_tryFrom_96 rfl (lv_at hl 4 rfl) ?_
              refine lv_iload_n hx hb dX5_tryFrom_97 rfl (lv_at hl 5 rfl) ?_
              refine lv_iconst (v := 1) hx hb dX5_tryFrom_98 ?o57 ?_
              case o57 => decide
              refine lv_iadd hx hb dX5_tryFrom_99 ?_
              refine lv_topi (fun x_32 ex_32 => ?_)
              obtain rfl : x_32 = (1 : Int32) := ex_32.trans (by decide)
              refine lv_iload_n hx hb dX5_tryFrom_100 rfl (lv_at hl 6 rfl) ?_
              refine lv_iload hx hb dX5_tryFrom_101 (lv_at hl 1 rfl) ?_
              refine lv_iadd hx hb dX5_tryFrom_103 ?_
              refine lv_topi (fun x_33 ex_33 => ?_)
              have zx_33 : x_33.toInt = i2.toInt + x_13.toInt := ?o58
              case o58 =>
                rw [ex_33]
                refine i32_add rfl rfl ?o59 ?o60
                case o59 => omega
                case o60 => omega
              refine lv_iload_n hx hb dX5_tryFrom_104 rfl (lv_at hl 7 rfl) ?_
              refine lv_iload hx hb dX5_tryFrom_105 (lv_at hl 0 rfl) ?_
              refine va_mmax hx hb (hml.trans hl.1.symm) hown (hts _ kw_976) (hts _ kw_882) (hts _ kw_109) (hts _ kw_883) (Nat.le_of_ble_eq_true rfl) (Nat.le_of_ble_eq_true rfl) (Nat.le_of_ble_eq_true rfl) (Nat.le_of_ble_eq_true rfl) dX5_tryFrom_107 ?_
              refine lv_topi (fun x_34 ex_34 => ?_)
              have hmx9 := hz_mx_e ex_34
              refine lv_iload hx hb dX5_tryFrom_110 (lv_at hl 8 rfl) ?_
              refine lv_iload hx hb dX5_tryFrom_112 (lv_at hl 0 rfl) ?_
              refine lv_iadd hx hb dX5_tryFrom_114 ?_
              have rg_35 := i32_r i4
              have rg_36 := i32_r r_24
              refine lv_topi (fun x_37 ex_37 => ?_)
              have zx_37 : x_37.toInt = i4.toInt + r_24.toInt := ?o61
              case o61 =>
                rw [ex_37]
                refine i32_add rfl rfl ?o62 ?o63
                case o62 => omega
                case o63 => omega
              refine hx_gov (hx_runVX (As := [.int (1 : Int32), .int x_33, .int x_34, .int x_37]) (rest := []) ⟨hx, hb, hml, hown, hts⟩ hW (gx.S hM) tt_5 (T := TX5) (N := 13) rfl (t_X5_tryFrom_1v l dC dI dA L_22 h_27 H.size b0 x x_33 x_34 x_37 hT (gx.S hM) qle (gqle.S hM) ((hM.o gx trivial rfl).2.trans f_x_7) qre (gqre.S hM) ((hM.o gx trivial rfl).2.trans f_x_6) qtd (gqtd.S hM) ((hM.o gx trivial rfl).2.trans f_x_8) qwl (gqwl.S hM) ((hM.o gx trivial rfl).2.trans f_x_3) lef (hx_afS hM gqle rfl af_qle) rsf (hx_afS hM gqre rfl af_qre) fa_28 nfa_28 ia28_qwl nia28_qwl o0 ((hM.o gx trivial rfl).1.trans f_x_0) un0 ((hM.o gx trivial rfl).1.trans f_x_9) me0 ((hM.o gx trivial rfl).1.trans f_x_10) fw28_x_11 ffw28_x_11 fw28_x_12 ffw28_x_12 a ha hab r hr5 hrb hun M hMe hMb ?o64 (13 * K + iv28_6.toInt.toNat) (fun i => if i = 0 then iv28_6.toInt else m5 i) (hp_B_s hB ?o65 ?o66 (fun i hi => if_neg ?o67) (by show (if 0 = 0 then iv28_6.toInt else m5 0) = _; rw [if_pos rfl]; omega)) (hp_ss hsp (fun i hi => by show a i + (if i = 0 then iv28_6.toInt else m5 i) * un0.toInt = _; rw [if_neg (by omega)]; rfl) (by rw [← hw9]; omega)) (hp_mm hla (fun i hi => by show hz_ru (r i) (a i + (if i = 0 then iv28_6.toInt else m5 i) * un0.toInt) = _; rw [if_neg (by omega)]; rfl) (by rw [← hk9]; omega)) (hp_ss hal (fun i hi => by show hz_ru (r i) (a i + (if i = 0 then iv28_6.toInt else m5 i) * un0.toInt) = _; rw [if_neg (by omega)]; rfl) (by rw [← hk9]; omega)) htr9 (by have h9 := hMe (by omega); rw [← hlf9]; omega) ⟨?o68, ?o69⟩ ⟨?o70, ?o71⟩ ⟨?o72, ?o73⟩ _ vi28_0) hZ (cwV 4 hts (hx_gV kw_969 kw_966 kw_968 kw_34 kw_100) rfl rfl rfl (by decide +kernel) ⟨Nat.le_of_ble_eq_true rfl, Nat.le_of_ble_eq_true rfl⟩) rfl hl.1 rfl (Nat.le_of_ble_eq_true rfl) dX5_tryFrom_115 ⟨Nat.le_of_ble_eq_true rfl, Nat.le_of_ble_eq_true rfl⟩) hW (fun L_38 h_39 H locs p_41 hW => ?_)
              case o64 => omega
              case o65 => omega
              case o66 => omega
              case o67 => omega
              case o68 => omega
              case o69 => omega
              case o70 => omega
              case o71 => omega
              case o72 => omega
              case o73 => omega
              obtain ⟨⟨w_43, w_44, w_45, w_46, fw_43, fw_44, fw_45, fw_46, hr_42⟩, hT, hs⟩ := p_41
              replace hT : hx_T T_tb L_38 h_39 := hT
              replace hs : hx_S T_tb [(5, 11), (5, 12), (28, 0), (33, 0)] L_22 h_27 L_38 h_39 := hs
              replace ex_9 := ex_9.trans (hs.a (gqle.S hM) rfl _).1.symm
              replace ex_21 := ex_21.trans (hs.a (gqre.S hM) rfl _).1.symm
              replace hM := hM.tr (hs.mono ?o74)
              case o74 => decide
              have fw_43 : h_39.2.1 x 11 = w_43 := fw_43
              have bw_43 := hT.gi (gx.S hM) tt_5 (k := 11) rfl
              rw [fw_43] at bw_43
              have bw_43 : -2147483648 ≤ w_43.toInt ∧ w_43.toInt ≤ 2147483647 := bw_43
              have fw_44 : h_39.2.1 x 12 = w_44 := fw_44
              have bw_44 := hT.gi (gx.S hM) tt_5 (k := 12) rfl
              rw [fw_44] at bw_44
              have bw_44 : -2147483648 ≤ w_44.toInt ∧ w_44.toInt ≤ 2147483647 := bw_44
              have fw_45 : h_39.2.1 qwl = w_45 := fw_45
              have fw_46 : h_39.2.1 qtd = w_46 := fw_46
              obtain ⟨x_47, ex_47⟩ : ∃ y : Int32, y = iv28_6 + Int32.ofInt 1 := ⟨_, rfl⟩
              have rg_48 := i32_r iv28_6
              have zx_47 : x_47.toInt = iv28_6.toInt + (1) := ?o75
              case o75 =>
                rw [ex_47]
                refine i32_add rfl ?o76 ?o77 ?o78
                case o76 => decide
                case o77 => omega
                case o78 => omega
              refine lv_iinc (v := x_47) (lv' := [(6, .int x_47), (8, .int r_24), (7, .int x_13), (5, .int r_5), (0, .ref x), (1, .int (0 : Int32)), (2, .int i2), (3, .int i3), (4, .int i4)]) hx hb dX5_tryFrom_118 hl (k := 2) rfl ex_47.symm ?o79 rfl (fun ls hl => ?_)
              case o79 => decide
              refine lv_goto (tgt := 28) hx hb dX5_tryFrom_121 ?o80 ?_
              case o80 => decide
              refine ih28 x_47 w_43 w_44 w_46 w_45 _ _ L_38 h_39 ?o81 ?o82 (i32_r _).1 (i32_r _).2 (i32_r _).1 (i32_r _).2 (by rw [show x_47.toInt.toNat = iv28_6.toInt.toNat + 1 by omega, hp_F_blk]; exact hr_42.1) (fun i hi => (hr_42.2 i ?o83).trans (htc9 i hi)) ls ?o84 hW hT hM fw_43 fw_44 fw_46 fw_45 (lv_sub hl [0, 3, 4, 5, 6, 7, 8] rfl)
              case o81 => omega
              case o82 => omega
              case o83 => omega
              case o84 => omega
          · skip
            exact hx_retv hx hb hr hlk hW ⟨⟨fw28_x_11, fw28_x_12, ia28_qwl, ffw28_x_11, ffw28_x_12, nia28_qwl, (by rw [hD9, hp_F_end (j := iv28_6.toInt.toNat) (by omega) rfl (fun k9 h0 h1 => hp_inf hB (by omega) (by omega) (by omega) hsp (by have h9 := hMe (by omega); rw [hj9, ← m9, ← hav9, ← hlf9]; omega) h0 h1)]; exact vi28_0)⟩, hT, hM⟩ dX5_tryFrom_65
    have zk_0 : (0 : Int32).toInt = 0 := ?o85
    case o85 => decide
    refine loop28 14 (0 : Int32) bl0 ba0 trf wkf _ _ L_3 h_4 ?o86 ?o87 (i32_r _).1 (i32_r _).2 (i32_r _).1 (i32_r _).2 (by rw [zk_0, Int.toNat_zero, Nat.zero_mul]; exact hSR) (fun i hi => rfl) ls ?o88 hW hT hM f_x_11 f_x_12 af_qtd af_qwl hl
    case o86 => decide
    case o87 => decide
    case o88 => omega
  · skip
    have hdg9 := hp_B_e hB (show o0.toInt.toNat = 0 from ?o89)
    case o89 => omega
    refine lv_aload_n hx hb dX5_tryFrom_8 rfl (lv_at hl 0 rfl) ?_
    refine lv_iload_n hx hb dX5_tryFrom_9 rfl (lv_at hl 3 rfl) ?_
    refine lv_iload hx hb dX5_tryFrom_10 (lv_at hl 4 rfl) ?_
    refine hx_gov (hx_runV (As := [.int i3, .int i4]) (rest := []) ⟨hx, hb, hml, hown, hts⟩ hW (gx.S hM) tt_5 (T := TX5) (N := 13) rfl (t_X5_keepIfBetter_v l dC dI dA L h s.heap.size x i3 i4 hT (gx.S hM) qtd (gqtd.S hM) ((hM.o gx trivial rfl).2.trans f_x_8) qwl (gqwl.S hM) ((hM.o gx trivial rfl).2.trans f_x_3) trf af_qtd wkf af_qwl o0 ((hM.o gx trivial rfl).1.trans f_x_0) bl0 f_x_11 ba0 f_x_12 a un0.toInt (hp_dg o0.toInt.toNat K) (fun i hi => by unfold hp_w; rw [hdg9 i (by omega)]; exact htr i (by omega)) s5 hSR) (cwV 2 hts (hx_gV kw_973 kw_970 kw_972 kw_35 kw_100) rfl rfl rfl (by decide +kernel) ⟨Nat.le_of_ble_eq_true rfl, Nat.le_of_ble_eq_true rfl⟩) rfl hl.1 rfl (Nat.le_of_ble_eq_true rfl) dX5_tryFrom_12 ⟨Nat.le_of_ble_eq_true rfl, Nat.le_of_ble_eq_true rfl⟩) hW (fun L_49 h_50 H locs p_52 hW => ?_)
    obtain ⟨⟨w_54, w_55, w_56, fw_54, fw_55, fw_56, hr_53⟩, hT, hs⟩ := p_52
    replace hT : hx_T T_tb L_49 h_50 := hT
    replace hs : hx_S T_tb [(5, 11), (5, 12), (28, 0)] L h L_49 h_50 := hs
    replace af_qtd : h_50.2.1 qtd = trf := (funext fun j => (hs.a (gqtd.S hM) rfl j).1).trans af_qtd
    replace hM := hM.tr (hs.mono ?o90)
    case o90 => decide
    have fw_54 : h_50.2.1 x 11 = w_54 := fw_54
    have bw_54 := hT.gi (gx.S hM) tt_5 (k := 11) rfl
    rw [fw_54] at bw_54
    have bw_54 : -2147483648 ≤ w_54.toInt ∧ w_54.toInt ≤ 2147483647 := bw_54
    have fw_55 : h_50.2.1 x 12 = w_55 := fw_55
    have bw_55 := hT.gi (gx.S hM) tt_5 (k := 12) rfl
    rw [fw_55] at bw_55
    have bw_55 : -2147483648 ≤ w_55.toInt ∧ w_55.toInt ≤ 2147483647 := bw_55
    have fw_56 : h_50.2.1 qwl = w_56 := fw_56
    exact hx_retv hx hb hr hlk hW ⟨⟨w_54, w_55, w_56, fw_54, fw_55, fw_56, (by rw [hp_leaf (show o0.toInt.toNat = 0 by omega) hdg9 hla hal (by have h9 := hfe; rw [show o0.toInt.toNat = 0 by omega] at h9; omega)]; exact hr_53)⟩, hT, hM⟩ dX5_tryFrom_15


set_option maxHeartbeats 4000000 in
set_option maxRecDepth 100000 in
theorem t_X5_settle_v (l : Launch) (dC : Nat → ClassId) (dI : Nat → Nat → Nat) (dA : Nat → ClassId) (L : List Nat) (h : hx_h) (sz : Nat) (b0 : hx_z) (x : Nat) (hT : hx_T T_tb L h) (gx : hx_g L h x 5) (qle : Nat) (gqle : hx_g L h qle 32) (f_x_7 : h.2.2 x 7 = some qle) (qre : Nat) (gqre : hx_g L h qre 31) (f_x_6 : h.2.2 x 6 = some qre) (qtd : Nat) (gqtd : hx_g L h qtd 33) (f_x_8 : h.2.2 x 8 = some qtd) (qwl : Nat) (gqwl : hx_g L h qwl 28) (f_x_3 : h.2.2 x 3 = some qwl) (qop : Nat) (gqop : hx_g L h qop 30) (f_x_5 : h.2.2 x 5 = some qop) (qws : Nat) (gqws : hx_g L h qws 29) (f_x_4 : h.2.2 x 4 = some qws) (qcl : Nat) (gqcl : hx_g L h qcl 27) (f_x_2 : h.2.2 x 2 = some qcl) (lef : Nat → Int32) (af_qle : h.2.1 qle = lef) (rsf : Nat → Int32) (af_qre : h.2.1 qre = rsf) (trf : Nat → Int32) (af_qtd : h.2.1 qtd = trf) (wkf : Nat → Int32) (af_qwl : h.2.1 qwl = wkf) (opf : Nat → Int32) (af_qop : h.2.1 qop = opf) (wsf : Nat → Int32) (af_qws : h.2.1 qws = wsf) (clf : Nat → Int32) (af_qcl : h.2.1 qcl = clf) (o0 : Int32) (f_x_0 : h.2.1 x 0 = o0) (un0 : Int32) (f_x_9 : h.2.1 x 9 = un0) (me0 : Int32) (f_x_10 : h.2.1 x 10 = me0) (td0 : Int32) (f_x_1 : h.2.1 x 1 = td0) (a : Nat → Int) (ha : ∀ i : Nat, (i : Int) < o0.toInt → (lef i).toInt = a i) (hab : ∀ i : Nat, (i : Int) < o0.toInt → 1 ≤ a i ∧ a i ≤ 9999) (rr : Nat → Int) (hr5 : ∀ i : Nat, (i : Int) < o0.toInt → (rsf i).toInt = rr i) (hrb : ∀ i : Nat, (i : Int) < o0.toInt → 1 ≤ rr i ∧ rr i ≤ 609999) (hun : 1 ≤ un0.toInt ∧ un0.toInt ≤ 99) (hmb : me0.toInt ≤ 9999) (c5 : Nat → Nat) (hc : ∀ i : Nat, (i : Int) < o0.toInt → (opf i).toInt = c5 i) : Met l yX5_settle (Cond.code yX5_settle cX5_settle 2 (some .int) :: hx_all) ({ frames := 7, cells := 0, slots := 0, locals := 202 }) (va_Pc [.ref x] (hx_BX T_tb (P_ty dA) (dC, dI) vwCl L h sz b0)) (va_Qi (fun (r : Int32) (u : List Nat × hx_h) => (∃ (td1 : Int32) (clf1 : Nat → Int32) (wkf1 : Nat → Int32) (wsf1 : Nat → Int32), u.2.2.1 x 1 = td1 ∧ u.2.2.1 qcl = clf1 ∧ u.2.2.1 qwl = wkf1 ∧ u.2.2.1 qws = wsf1 ∧ ((r.toInt = -2 ∧ (1 ≤ o0.toInt ∧ me0.toInt < hp_s a o0.toInt.toNat) ∧ td1.toInt = td0.toInt ∧ clf1 = clf ∧ wkf1 = wkf ∧ wsf1 = wsf) ∨ (¬ (1 ≤ o0.toInt ∧ me0.toInt < hp_s a o0.toInt.toNat) ∧ r.toInt = (hp_B9 a rr un0.toInt (if o0.toInt.toNat = 0 then 0 else me0.toInt) o0.toInt.toNat).1 ∧ td1.toInt = o0.toInt ∧ ∀ i : Nat, (i : Int) < o0.toInt → (clf1 i).toInt = c5 i ∧ (wkf1 i).toInt = hp_w a un0.toInt (hp_B9 a rr un0.toInt (if o0.toInt.toNat = 0 then 0 else me0.toInt) o0.toInt.toNat).2.2 i ∧ (wsf1 i).toInt = hz_ru (rr i) (hp_w a un0.toInt (hp_B9 a rr un0.toInt (if o0.toInt.toNat = 0 then 0 else me0.toInt) o0.toInt.toNat).2.2 i)))) ∧ hx_T T_tb u.1 u.2 ∧ hx_S T_tb [(5, 1), (5, 11), (5, 12), (27, 0), (28, 0), (29, 0), (33, 0)] L h u.1 u.2) (hx_E T_tb (P_ty dA) (dC, dI) vwCl (hx_A L sz)) (hx_A L sz)) 0 0 (hx_A L sz) := by
  refine hx_metX (lv := [(0, .ref x)]) (by decide +kernel) rfl (Nat.le_of_ble_eq_true rfl) rfl ?_
  intro p e s m below meth c hx hb hml hr hlk hts0 hown hin hsz hW hZ ls hl
  have hts : ∀ w ∈ hx_all, w.before _ s = true := fun w hw => hts0 w (List.mem_cons_of_mem _ hw)
  have hown : s.vm.findClass "SmallCourt$Plan" = some m.cls := hown
  have hM : hx_S T_tb [(5, 1), (5, 11), (5, 12), (27, 0), (28, 0), (29, 0), (33, 0)] L h L h := hx_S.rf
  have b_o0 := hT.gi gx tt_5 (k := 0) rfl
  rw [f_x_0] at b_o0
  have b_o0 : 0 ≤ o0.toInt ∧ o0.toInt ≤ 4 := b_o0
  have b_un0 := hT.gi gx tt_5 (k := 9) rfl
  rw [f_x_9] at b_un0
  have b_un0 : -2147483648 ≤ un0.toInt ∧ un0.toInt ≤ 2147483647 := b_un0
  have b_me0 := hT.gi gx tt_5 (k := 10) rfl
  rw [f_x_10] at b_me0
  have b_me0 : -2147483648 ≤ me0.toInt ∧ me0.toInt ≤ 2147483647 := b_me0
  have b_td0 := hT.gi gx tt_5 (k := 1) rfl
  rw [f_x_1] at b_td0
  have b_td0 : 0 ≤ td0.toInt ∧ td0.toInt ≤ 4 := b_td0
  refine lv_aload_n hx hb dX5_settle_0 rfl (lv_at hl 0 rfl) ?_
  refine hk_geti hx hb hts hC_5 hown hW (gx.S hM) tt_5 0 ?o0 rfl kw_258 ⟨rfl, rfl, rfl⟩ ((hM.o gx trivial rfl).1.trans f_x_0) dX5_settle_1 ?_
  case o0 => decide
  refine hb_if_le (zx := o0.toInt) (tgt := 22) hx hb rfl dX5_settle_4 ?o1 (fun c_1 => ?_) (fun c_1 => ?_)
  case o1 => decide
  · skip
    refine lv_aload_n hx hb dX5_settle_22 rfl (lv_at hl 0 rfl) ?_
    refine lv_ldc (v := 1000000000) hx hb hown (hts _ kw_965) dX5_settle_23 ?_
    refine hx_puti hx hb hts hC_5 hown hW hT (hx_S.rf (M := [(5, 11)])) (gx.S hM) tt_5 11 ?o2 rfl kw_274 ⟨rfl, rfl, rfl⟩ rfl (x := (1000000000 : Int32)) ?o3 rfl rfl rfl (List.mem_singleton.mpr rfl) dX5_settle_25 (fun H locs h_2 eh_2 hW hT hs => ?_)
    case o2 => decide
    case o3 => decide
    replace f_x_1 := (hs.o (gx.S hM) trivial rfl).1.trans f_x_1
    replace af_qtd : h_2.2.1 qtd = trf := (funext fun j => (hs.a (gqtd.S hM) rfl j).1).trans af_qtd
    replace af_qwl : h_2.2.1 qwl = wkf := (funext fun j => (hs.a (gqwl.S hM) rfl j).1).trans af_qwl
    replace af_qws : h_2.2.1 qws = wsf := (funext fun j => (hs.a (gqws.S hM) rfl j).1).trans af_qws
    replace af_qcl : h_2.2.1 qcl = clf := (funext fun j => (hs.a (gqcl.S hM) rfl j).1).trans af_qcl
    replace hM := hM.tr (hs.mono ?o4)
    case o4 => decide
    have f_3 : h_2.2.1 x 11 = (1000000000 : Int32) := ?o5
    case o5 =>
      rw [eh_2]
      exact hx_pi_at _ _ _ _
    refine lv_aload_n hx hb dX5_settle_28 rfl (lv_at hl 0 rfl) ?_
    refine lv_ldc (v := 1000000000) hx hb hown (hts _ kw_965) dX5_settle_29 ?_
    refine hx_puti hx hb hts hC_5 hown hW hT (hx_S.rf (M := [(5, 12)])) (gx.S hM) tt_5 12 ?o6 rfl kw_275 ⟨rfl, rfl, rfl⟩ rfl (x := (1000000000 : Int32)) ?o7 rfl rfl rfl (List.mem_singleton.mpr rfl) dX5_settle_31 (fun H locs h_4 eh_4 hW hT hs => ?_)
    case o6 => decide
    case o7 => decide
    replace f_x_1 := (hs.o (gx.S hM) trivial rfl).1.trans f_x_1
    replace f_3 := (hs.o (gx.S hM) trivial rfl).1.trans f_3
    replace af_qtd : h_4.2.1 qtd = trf := (funext fun j => (hs.a (gqtd.S hM) rfl j).1).trans af_qtd
    replace af_qwl : h_4.2.1 qwl = wkf := (funext fun j => (hs.a (gqwl.S hM) rfl j).1).trans af_qwl
    replace af_qws : h_4.2.1 qws = wsf := (funext fun j => (hs.a (gqws.S hM) rfl j).1).trans af_qws
    replace af_qcl : h_4.2.1 qcl = clf := (funext fun j => (hs.a (gqcl.S hM) rfl j).1).trans af_qcl
    replace hM := hM.tr (hs.mono ?o8)
    case o8 => decide
    have f_5 : h_4.2.1 x 12 = (1000000000 : Int32) := ?o9
    case o9 =>
      rw [eh_4]
      exact hx_pi_at _ _ _ _
    obtain ⟨M9, eM9⟩ : ∃ z : Int, z = (if o0.toInt.toNat = 0 then 0 else me0.toInt) := ⟨_, rfl⟩
    have hMe9 : 1 ≤ o0.toInt → M9 = me0.toInt := fun h9 => by rw [eM9, if_neg (by omega)]
    have hMb9 : M9 ≤ 9999 := by rw [eM9]; split <;> omega
    have hM09 : hp_s a o0.toInt.toNat ≤ M9 := ?o10
    case o10 =>
      by_cases z : o0.toInt.toNat = 0
      (rw [eM9, if_pos z, z]; exact Int.le_refl _)
      (have h9 := hMe9 (by omega); omega)
    refine lv_aload_n hx hb dX5_settle_34 rfl (lv_at hl 0 rfl) ?_
    refine lv_iconst (v := 0) hx hb dX5_settle_35 ?o11 ?_
    case o11 => decide
    refine lv_iconst (v := 0) hx hb dX5_settle_36 ?o12 ?_
    case o12 => decide
    refine lv_iconst (v := 0) hx hb dX5_settle_37 ?o13 ?_
    case o13 => decide
    refine lv_iconst (v := 0) hx hb dX5_settle_38 ?o14 ?_
    case o14 => decide
    have zc_0 : (0 : Int32).toInt = 0 := ?o15
    case o15 => decide
    have zq_1000000000 : (1000000000 : Int32).toInt = 1000000000 := ?o16
    case o16 => decide
    have zq_1000000000 : (1000000000 : Int32).toInt = 1000000000 := ?o17
    case o17 => decide
    refine hx_gov (hx_runVX (As := [.int (0 : Int32), .int (0 : Int32), .int (0 : Int32), .int (0 : Int32)]) (rest := []) ⟨hx, hb, hml, hown, hts⟩ hW (gx.S hM) tt_5 (T := TX5) (N := 13) rfl (t_X5_tryFrom_0v l dC dI dA L h_4 H.size b0 x (0 : Int32) (0 : Int32) (0 : Int32) hT (gx.S hM) qle (gqle.S hM) ((hM.o gx trivial rfl).2.trans f_x_7) qre (gqre.S hM) ((hM.o gx trivial rfl).2.trans f_x_6) qtd (gqtd.S hM) ((hM.o gx trivial rfl).2.trans f_x_8) qwl (gqwl.S hM) ((hM.o gx trivial rfl).2.trans f_x_3) lef (hx_afS hM gqle rfl af_qle) rsf (hx_afS hM gqre rfl af_qre) trf af_qtd wkf af_qwl o0 ((hM.o gx trivial rfl).1.trans f_x_0) un0 ((hM.o gx trivial rfl).1.trans f_x_9) me0 ((hM.o gx trivial rfl).1.trans f_x_10) (1000000000 : Int32) f_3 (1000000000 : Int32) f_5 a ha hab rr hr5 hrb hun M9 hMe9 hMb9 ?o18 0 (fun _ => 0) hp_B_0 (by rw [zc_0]; rfl) (by rw [zc_0]; rfl) (by rw [zc_0]; rfl) (fun i hi => absurd hi (Nat.not_lt_zero i)) (by rw [zc_0]; show 0 + (hp_s a o0.toInt.toNat - 0) ≤ M9; omega) (by rw [zc_0]; decide) (by rw [zc_0]; decide) (by rw [zc_0]; decide) hp_s0 ⟨?o19, ?o20, fun h9 => absurd h9 ?o21⟩) hZ (cwV 4 hts (hx_gV kw_969 kw_966 kw_968 kw_34 kw_100) rfl rfl rfl (by decide +kernel) ⟨Nat.le_of_ble_eq_true rfl, Nat.le_of_ble_eq_true rfl⟩) rfl hl.1 rfl (Nat.le_of_ble_eq_true rfl) dX5_settle_39 ⟨Nat.le_of_ble_eq_true rfl, Nat.le_of_ble_eq_true rfl⟩) hW (fun L_6 h_7 H locs p_9 hW => ?_)
    case o18 => omega
    case o19 => decide
    case o20 => decide
    case o21 => decide
    obtain ⟨⟨w_11, w_12, w_13, fw_11, fw_12, fw_13, hr_10⟩, hT, hs⟩ := p_9
    replace hT : hx_T T_tb L_6 h_7 := hT
    replace hs : hx_S T_tb [(5, 11), (5, 12), (28, 0), (33, 0)] L h_4 L_6 h_7 := hs
    replace f_x_1 := (hs.o (gx.S hM) trivial rfl).1.trans f_x_1
    replace af_qws : h_7.2.1 qws = wsf := (funext fun j => (hs.a (gqws.S hM) rfl j).1).trans af_qws
    replace af_qcl : h_7.2.1 qcl = clf := (funext fun j => (hs.a (gqcl.S hM) rfl j).1).trans af_qcl
    replace hM := hM.tr (hs.mono ?o22)
    case o22 => decide
    have fw_11 : h_7.2.1 x 11 = w_11 := fw_11
    have bw_11 := hT.gi (gx.S hM) tt_5 (k := 11) rfl
    rw [fw_11] at bw_11
    have bw_11 : -2147483648 ≤ w_11.toInt ∧ w_11.toInt ≤ 2147483647 := bw_11
    have fw_12 : h_7.2.1 x 12 = w_12 := fw_12
    have bw_12 := hT.gi (gx.S hM) tt_5 (k := 12) rfl
    rw [fw_12] at bw_12
    have bw_12 : -2147483648 ≤ w_12.toInt ∧ w_12.toInt ≤ 2147483647 := bw_12
    have fw_13 : h_7.2.1 qwl = w_13 := fw_13
    have hT9 : hp_SR (hp_B9 a rr un0.toInt M9 o0.toInt.toNat) w_11.toInt w_12.toInt w_13 a un0.toInt o0.toInt := ?o23
    case o23 =>
      have h9 := hr_10
      rw [Nat.zero_mul, Nat.sub_zero] at h9
      exact h9
    have hbl9 : w_11.toInt ≤ 609999 := ?o24
    case o24 =>
      rw [← hT9.1]
      refine hp_some hM09 (fun i hi => (hrb i ?o25).2)
      case o25 => omega
    have hwk9 := hT9.2.2 ?o26
    case o26 => omega
    refine lv_iconst (v := 0) hx hb dX5_settle_42 ?o27 ?_
    case o27 => decide
    refine lv_istore_n (lv' := [(1, .int (0 : Int32)), (0, .ref x)]) hx hb dX5_settle_43 rfl hl ?o28 rfl (fun ls hl => ?_)
    case o28 => decide
    have loop44 : ∀ (n44 : Nat) (iv44_1 : Int32) (ia44_qcl ia44_qws : Nat → Int32) (H : Heap) (locs : List Loc) (hL1 : List Nat) (hl1 : hx_h), 0 ≤ iv44_1.toInt → iv44_1.toInt ≤ 4 → (∀ c9 : Nat, (c9 : Int) < iv44_1.toInt → (ia44_qcl c9).toInt = c5 c9) → (∀ c9 : Nat, (c9 : Int) < iv44_1.toInt → (ia44_qws c9).toInt = hz_ru (rr c9) (hp_w a un0.toInt (hp_B9 a rr un0.toInt M9 o0.toInt.toNat).2.2 c9)) → (iv44_1.toInt ≤ o0.toInt) → ∀ (ls : Array Slot), 4 - iv44_1.toInt < (n44 : Int) → hx_W T_tb (P_ty dA) (dC, dI) vwCl (hx_A L sz) s.heap hL1 hl1 s H locs → hx_T T_tb hL1 hl1 → hx_S T_tb [(5, 1), (5, 11), (5, 12), (27, 0), (28, 0), (29, 0), (33, 0)] L h hL1 hl1 → hl1.2.1 x 1 = td0 → hl1.2.1 x 11 = w_11 → hl1.2.1 x 12 = w_12 → hl1.2.1 qcl = ia44_qcl → hl1.2.1 qws = ia44_qws → hl1.2.1 qwl = w_13 → lv_has ls 2 [(1, .int iv44_1), (0, .ref x)] → W p l e ({ frames := 7, cells := 0, slots := 0, locals := 202 }) s m ([.ref x] : List Value).toArray below meth c H locs 0 0 (MQ below (va_Qi (fun (r : Int32) (u : List Nat × hx_h) => (∃ (td1 : Int32) (clf1 : Nat → Int32) (wkf1 : Nat → Int32) (wsf1 : Nat → Int32), u.2.2.1 x 1 = td1 ∧ u.2.2.1 qcl = clf1 ∧ u.2.2.1 qwl = wkf1 ∧ u.2.2.1 qws = wsf1 ∧ ((r.toInt = -2 ∧ (1 ≤ o0.toInt ∧ me0.toInt < hp_s a o0.toInt.toNat) ∧ td1.toInt = td0.toInt ∧ clf1 = clf ∧ wkf1 = wkf ∧ wsf1 = wsf) ∨ (¬ (1 ≤ o0.toInt ∧ me0.toInt < hp_s a o0.toInt.toNat) ∧ r.toInt = (hp_B9 a rr un0.toInt (if o0.toInt.toNat = 0 then 0 else me0.toInt) o0.toInt.toNat).1 ∧ td1.toInt = o0.toInt ∧ ∀ i : Nat, (i : Int) < o0.toInt → (clf1 i).toInt = c5 i ∧ (wkf1 i).toInt = hp_w a un0.toInt (hp_B9 a rr un0.toInt (if o0.toInt.toNat = 0 then 0 else me0.toInt) o0.toInt.toNat).2.2 i ∧ (wsf1 i).toInt = hz_ru (rr i) (hp_w a un0.toInt (hp_B9 a rr un0.toInt (if o0.toInt.toNat = 0 then 0 else me0.toInt) o0.toInt.toNat).2.2 i)))) ∧ hx_T T_tb u.1 u.2 ∧ hx_S T_tb [(5, 1), (5, 11), (5, 12), (27, 0), (28, 0), (29, 0), (33, 0)] L h u.1 u.2) (hx_E T_tb (P_ty dA) (dC, dI) vwCl (hx_A L sz)) (hx_A L sz)) ([.ref x] : List Value).toArray s 0 0 (hx_A L sz)) (F0 m 44 ls []) := by
      intro n44
      induction n44 with
      | zero => intro iv44_1 ia44_qcl ia44_qws H locs hL1 hl1 bliv44_1 buiv44_1 vi44_0 vi44_1 vi44_2 ls hn44; exfalso; omega
      | succ n44 ih44 =>
        intro iv44_1 ia44_qcl ia44_qws H locs hL1 hl1 bliv44_1 buiv44_1 vi44_0 vi44_1 vi44_2 ls hn44 hW hT hM f_x_1 fw_11 fw_12 nia44_qcl nia44_qws fw_13 hl
        refine lv_iload_n hx hb dX5_settle_44 rfl (lv_at hl 0 rfl) ?_
        refine lv_aload_n hx hb dX5_settle_45 rfl (lv_at hl 1 rfl) ?_
        refine hk_geti hx hb hts hC_5 hown hW (gx.S hM) tt_5 0 ?o29 rfl kw_258 ⟨rfl, rfl, rfl⟩ ((hM.o gx trivial rfl).1.trans f_x_0) dX5_settle_46 ?_
        case o29 => decide
        refine hb_icmp_ge (zx := iv44_1.toInt) (zy := o0.toInt) (tgt := 91) hx hb rfl rfl dX5_settle_49 ?o30 (fun c_14 => ?_) (fun c_14 => ?o31)
        case o30 => decide
        case o31 =>
          exfalso
          omega
        refine lv_aload_n hx hb dX5_settle_91 rfl (lv_at hl 1 rfl) ?_
        refine lv_aload_n hx hb dX5_settle_92 rfl (lv_at hl 1 rfl) ?_
        refine hk_geti hx hb hts hC_5 hown hW (gx.S hM) tt_5 0 ?o32 rfl kw_258 ⟨rfl, rfl, rfl⟩ ((hM.o gx trivial rfl).1.trans f_x_0) dX5_settle_93 ?_
        case o32 => decide
        refine hx_puti hx hb hts hC_5 hown hW hT (hx_S.rf (M := [(5, 1)])) (gx.S hM) tt_5 1 ?o33 rfl kw_260 ⟨rfl, rfl, rfl⟩ rfl (x := o0) ⟨?o34, ?o35⟩ rfl rfl rfl (List.mem_singleton.mpr rfl) dX5_settle_96 (fun H locs h_15 eh_15 hW hT hs => ?_)
        case o33 => decide
        case o34 => omega
        case o35 => omega
        replace fw_11 := (hs.o (gx.S hM) trivial rfl).1.trans fw_11
        replace fw_12 := (hs.o (gx.S hM) trivial rfl).1.trans fw_12
        replace fw_13 : h_15.2.1 qwl = w_13 := (funext fun j => (hs.a (gqwl.S hM) rfl j).1).trans fw_13
        replace nia44_qcl : h_15.2.1 qcl = ia44_qcl := (funext fun j => (hs.a (gqcl.S hM) rfl j).1).trans nia44_qcl
        replace nia44_qws : h_15.2.1 qws = ia44_qws := (funext fun j => (hs.a (gqws.S hM) rfl j).1).trans nia44_qws
        replace hM := hM.tr (hs.mono ?o36)
        case o36 => decide
        have f_16 : h_15.2.1 x 1 = o0 := ?o37
        case o37 =>
          rw [eh_15]
          exact hx_pi_at _ _ _ _
        refine lv_aload_n hx hb dX5_settle_99 rfl (lv_at hl 1 rfl) ?_
        refine hk_geti hx hb hts hC_5 hown hW (gx.S hM) tt_5 11 ?o38 rfl kw_274 ⟨rfl, rfl, rfl⟩ fw_11 dX5_settle_100 ?_
        case o38 => decide
        refine hx_reti hx hb hr hlk hW ⟨⟨o0, ia44_qcl, w_13, ia44_qws, f_16, nia44_qcl, fw_13, nia44_qws, (Or.inr ⟨(fun z9 => ?o39), (by rw [← eM9]; exact hT9.1.symm), ?o40, fun i hi => (by rw [← eM9]; exact ⟨vi44_0 i (by omega), hwk9 i (by omega), vi44_1 i (by omega)⟩)⟩)⟩, hT, hM⟩ dX5_settle_103
        case o39 => omega
        case o40 => omega
    have zk_0 : (0 : Int32).toInt = 0 := ?o41
    case o41 => decide
    refine loop44 5 (0 : Int32) clf wsf _ _ L_6 h_7 ?o42 ?o43 (fun c9 hc9 => ?o44) (fun c9 hc9 => ?o45) ?o46 ls ?o47 hW hT hM f_x_1 fw_11 fw_12 af_qcl af_qws fw_13 hl
    case o42 => decide
    case o43 => decide
    case o44 =>
      exfalso
      omega
    case o45 =>
      exfalso
      omega
    case o46 => omega
    case o47 => omega
  · skip
    refine lv_aload_n hx hb dX5_settle_7 rfl (lv_at hl 0 rfl) ?_
    refine lv_iconst (v := 0) hx hb dX5_settle_8 ?o48 ?_
    case o48 => decide
    have zc_0 : (0 : Int32).toInt = 0 := ?o49
    case o49 => decide
    refine hx_goi (hx_runV (As := [.int (0 : Int32)]) (rest := []) ⟨hx, hb, hml, hown, hts⟩ hW (gx.S hM) tt_5 (T := TX5) (N := 13) rfl (t_X5_leastFrom_v l dC dI dA L h s.heap.size x (0 : Int32) hT (gx.S hM) qle (gqle.S hM) ((hM.o gx trivial rfl).2.trans f_x_7) lef (hx_afS hM gqle rfl af_qle) o0 ((hM.o gx trivial rfl).1.trans f_x_0) a ha hab ⟨?o50, ?o51⟩) (cwV 1 hts (hx_gV kw_964 kw_961 kw_963 kw_33 kw_100) rfl rfl rfl (by decide +kernel) ⟨Nat.le_of_ble_eq_true rfl, Nat.le_of_ble_eq_true rfl⟩) rfl hl.1 rfl (Nat.le_of_ble_eq_true rfl) dX5_settle_9 ⟨Nat.le_of_ble_eq_true rfl, Nat.le_of_ble_eq_true rfl⟩) hW (fun r_19 L_17 h_18 H locs p_20 hW => ?_)
    case o50 => omega
    case o51 => omega
    obtain ⟨hr_21, hT, hs⟩ := p_20
    replace hT : hx_T T_tb L_17 h_18 := hT
    replace hs : hx_S T_tb [] L h L_17 h_18 := hs
    replace f_x_1 := (hs.o (gx.S hM) trivial rfl).1.trans f_x_1
    replace af_qtd : h_18.2.1 qtd = trf := (funext fun j => (hs.a (gqtd.S hM) rfl j).1).trans af_qtd
    replace af_qwl : h_18.2.1 qwl = wkf := (funext fun j => (hs.a (gqwl.S hM) rfl j).1).trans af_qwl
    replace af_qws : h_18.2.1 qws = wsf := (funext fun j => (hs.a (gqws.S hM) rfl j).1).trans af_qws
    replace af_qcl : h_18.2.1 qcl = clf := (funext fun j => (hs.a (gqcl.S hM) rfl j).1).trans af_qcl
    replace hM := hM.tr (hs.mono ?o52)
    case o52 => decide
    have hlf9 := hr_21.1; rw [zc_0, show (0 : Int).toNat = 0 from rfl] at hlf9; have hs09 : hp_s a 0 = 0 := rfl
    refine lv_aload_n hx hb dX5_settle_12 rfl (lv_at hl 0 rfl) ?_
    refine hk_geti hx hb hts hC_5 hown hW (gx.S hM) tt_5 10 ?o53 rfl kw_273 ⟨rfl, rfl, rfl⟩ ((hM.o gx trivial rfl).1.trans f_x_10) dX5_settle_13 ?_
    case o53 => decide
    refine hb_icmp_le (zx := r_19.toInt) (zy := me0.toInt) (tgt := 22) hx hb rfl rfl dX5_settle_16 ?o54 (fun c_22 => ?_) (fun c_22 => ?_)
    case o54 => decide
    · skip
      refine lv_aload_n hx hb dX5_settle_22 rfl (lv_at hl 0 rfl) ?_
      refine lv_ldc (v := 1000000000) hx hb hown (hts _ kw_965) dX5_settle_23 ?_
      refine hx_puti hx hb hts hC_5 hown hW hT (hx_S.rf (M := [(5, 11)])) (gx.S hM) tt_5 11 ?o55 rfl kw_274 ⟨rfl, rfl, rfl⟩ rfl (x := (1000000000 : Int32)) ?o56 rfl rfl rfl (List.mem_singleton.mpr rfl) dX5_settle_25 (fun H locs h_23 eh_23 hW hT hs => ?_)
      case o55 => decide
      case o56 => decide
      replace f_x_1 := (hs.o (gx.S hM) trivial rfl).1.trans f_x_1
      replace af_qtd : h_23.2.1 qtd = trf := (funext fun j => (hs.a (gqtd.S hM) rfl j).1).trans af_qtd
      replace af_qwl : h_23.2.1 qwl = wkf := (funext fun j => (hs.a (gqwl.S hM) rfl j).1).trans af_qwl
      replace af_qws : h_23.2.1 qws = wsf := (funext fun j => (hs.a (gqws.S hM) rfl j).1).trans af_qws
      replace af_qcl : h_23.2.1 qcl = clf := (funext fun j => (hs.a (gqcl.S hM) rfl j).1).trans af_qcl
      replace hM := hM.tr (hs.mono ?o57)
      case o57 => decide
      have f_24 : h_23.2.1 x 11 = (1000000000 : Int32) := ?o58
      case o58 =>
        rw [eh_23]
        exact hx_pi_at _ _ _ _
      refine lv_aload_n hx hb dX5_settle_28 rfl (lv_at hl 0 rfl) ?_
      refine lv_ldc (v := 1000000000) hx hb hown (hts _ kw_965) dX5_settle_29 ?_
      refine hx_puti hx hb hts hC_5 hown hW hT (hx_S.rf (M := [(5, 12)])) (gx.S hM) tt_5 12 ?o59 rfl kw_275 ⟨rfl, rfl, rfl⟩ rfl (x := (1000000000 : Int32)) ?o60 rfl rfl rfl (List.mem_singleton.mpr rfl) dX5_settle_31 (fun H locs h_25 eh_25 hW hT hs => ?_)
      case o59 => decide
      case o60 => decide
      replace f_x_1 := (hs.o (gx.S hM) trivial rfl).1.trans f_x_1
      replace f_24 := (hs.o (gx.S hM) trivial rfl).1.trans f_24
      replace af_qtd : h_25.2.1 qtd = trf := (funext fun j => (hs.a (gqtd.S hM) rfl j).1).trans af_qtd
      replace af_qwl : h_25.2.1 qwl = wkf := (funext fun j => (hs.a (gqwl.S hM) rfl j).1).trans af_qwl
      replace af_qws : h_25.2.1 qws = wsf := (funext fun j => (hs.a (gqws.S hM) rfl j).1).trans af_qws
      replace af_qcl : h_25.2.1 qcl = clf := (funext fun j => (hs.a (gqcl.S hM) rfl j).1).trans af_qcl
      replace hM := hM.tr (hs.mono ?o61)
      case o61 => decide
      have f_26 : h_25.2.1 x 12 = (1000000000 : Int32) := ?o62
      case o62 =>
        rw [eh_25]
        exact hx_pi_at _ _ _ _
      obtain ⟨M9, eM9⟩ : ∃ z : Int, z = (if o0.toInt.toNat = 0 then 0 else me0.toInt) := ⟨_, rfl⟩
      have hMe9 : 1 ≤ o0.toInt → M9 = me0.toInt := fun h9 => by rw [eM9, if_neg (by omega)]
      have hMb9 : M9 ≤ 9999 := by rw [eM9]; split <;> omega
      have hM09 : hp_s a o0.toInt.toNat ≤ M9 := ?o63
      case o63 =>
        by_cases z : o0.toInt.toNat = 0
        (rw [eM9, if_pos z, z]; exact Int.le_refl _)
        (have h9 := hMe9 (by omega); omega)
      refine lv_aload_n hx hb dX5_settle_34 rfl (lv_at hl 0 rfl) ?_
      refine lv_iconst (v := 0) hx hb dX5_settle_35 ?o64 ?_
      case o64 => decide
      refine lv_iconst (v := 0) hx hb dX5_settle_36 ?o65 ?_
      case o65 => decide
      refine lv_iconst (v := 0) hx hb dX5_settle_37 ?o66 ?_
      case o66 => decide
      refine lv_iconst (v := 0) hx hb dX5_settle_38 ?o67 ?_
      case o67 => decide
      have zq_1000000000 : (1000000000 : Int32).toInt = 1000000000 := ?o68
      case o68 => decide
      have zq_1000000000 : (1000000000 : Int32).toInt = 1000000000 := ?o69
      case o69 => decide
      refine hx_gov (hx_runVX (As := [.int (0 : Int32), .int (0 : Int32), .int (0 : Int32), .int (0 : Int32)]) (rest := []) ⟨hx, hb, hml, hown, hts⟩ hW (gx.S hM) tt_5 (T := TX5) (N := 13) rfl (t_X5_tryFrom_0v l dC dI dA L_17 h_25 H.size b0 x (0 : Int32) (0 : Int32) (0 : Int32) hT (gx.S hM) qle (gqle.S hM) ((hM.o gx trivial rfl).2.trans f_x_7) qre (gqre.S hM) ((hM.o gx trivial rfl).2.trans f_x_6) qtd (gqtd.S hM) ((hM.o gx trivial rfl).2.trans f_x_8) qwl (gqwl.S hM) ((hM.o gx trivial rfl).2.trans f_x_3) lef (hx_afS hM gqle rfl af_qle) rsf (hx_afS hM gqre rfl af_qre) trf af_qtd wkf af_qwl o0 ((hM.o gx trivial rfl).1.trans f_x_0) un0 ((hM.o gx trivial rfl).1.trans f_x_9) me0 ((hM.o gx trivial rfl).1.trans f_x_10) (1000000000 : Int32) f_24 (1000000000 : Int32) f_26 a ha hab rr hr5 hrb hun M9 hMe9 hMb9 ?o70 0 (fun _ => 0) hp_B_0 (by rw [zc_0]; rfl) (by rw [zc_0]; rfl) (by rw [zc_0]; rfl) (fun i hi => absurd hi (Nat.not_lt_zero i)) (by rw [zc_0]; show 0 + (hp_s a o0.toInt.toNat - 0) ≤ M9; omega) (by rw [zc_0]; decide) (by rw [zc_0]; decide) (by rw [zc_0]; decide) hp_s0 ⟨?o71, ?o72, fun h9 => absurd h9 ?o73⟩) hZ (cwV 4 hts (hx_gV kw_969 kw_966 kw_968 kw_34 kw_100) rfl rfl rfl (by decide +kernel) ⟨Nat.le_of_ble_eq_true rfl, Nat.le_of_ble_eq_true rfl⟩) rfl hl.1 rfl (Nat.le_of_ble_eq_true rfl) dX5_settle_39 ⟨Nat.le_of_ble_eq_true rfl, Nat.le_of_ble_eq_true rfl⟩) hW (fun L_27 h_28 H locs p_30 hW => ?_)
      case o70 => omega
      case o71 => decide
      case o72 => decide
      case o73 => decide
      obtain ⟨⟨w_32, w_33, w_34, fw_32, fw_33, fw_34, hr_31⟩, hT, hs⟩ := p_30
      replace hT : hx_T T_tb L_27 h_28 := hT
      replace hs : hx_S T_tb [(5, 11), (5, 12), (28, 0), (33, 0)] L_17 h_25 L_27 h_28 := hs
      replace f_x_1 := (hs.o (gx.S hM) trivial rfl).1.trans f_x_1
      replace af_qws : h_28.2.1 qws = wsf := (funext fun j => (hs.a (gqws.S hM) rfl j).1).trans af_qws
      replace af_qcl : h_28.2.1 qcl = clf := (funext fun j => (hs.a (gqcl.S hM) rfl j).1).trans af_qcl
      replace hM := hM.tr (hs.mono ?o74)
      case o74 => decide
      have fw_32 : h_28.2.1 x 11 = w_32 := fw_32
      have bw_32 := hT.gi (gx.S hM) tt_5 (k := 11) rfl
      rw [fw_32] at bw_32
      have bw_32 : -2147483648 ≤ w_32.toInt ∧ w_32.toInt ≤ 2147483647 := bw_32
      have fw_33 : h_28.2.1 x 12 = w_33 := fw_33
      have bw_33 := hT.gi (gx.S hM) tt_5 (k := 12) rfl
      rw [fw_33] at bw_33
      have bw_33 : -2147483648 ≤ w_33.toInt ∧ w_33.toInt ≤ 2147483647 := bw_33
      have fw_34 : h_28.2.1 qwl = w_34 := fw_34
      have hT9 : hp_SR (hp_B9 a rr un0.toInt M9 o0.toInt.toNat) w_32.toInt w_33.toInt w_34 a un0.toInt o0.toInt := ?o75
      case o75 =>
        have h9 := hr_31
        rw [Nat.zero_mul, Nat.sub_zero] at h9
        exact h9
      have hbl9 : w_32.toInt ≤ 609999 := ?o76
      case o76 =>
        rw [← hT9.1]
        refine hp_some hM09 (fun i hi => (hrb i ?o77).2)
        case o77 => omega
      have hwk9 := hT9.2.2 ?o78
      case o78 => omega
      refine lv_iconst (v := 0) hx hb dX5_settle_42 ?o79 ?_
      case o79 => decide
      refine lv_istore_n (lv' := [(1, .int (0 : Int32)), (0, .ref x)]) hx hb dX5_settle_43 rfl hl ?o80 rfl (fun ls hl => ?_)
      case o80 => decide
      have loop44 : ∀ (n44 : Nat) (iv44_1 : Int32) (ia44_qcl ia44_qws : Nat → Int32) (H : Heap) (locs : List Loc) (hL1 : List Nat) (hl1 : hx_h), 0 ≤ iv44_1.toInt → iv44_1.toInt ≤ 4 → (∀ c9 : Nat, (c9 : Int) < iv44_1.toInt → (ia44_qcl c9).toInt = c5 c9) → (∀ c9 : Nat, (c9 : Int) < iv44_1.toInt → (ia44_qws c9).toInt = hz_ru (rr c9) (hp_w a un0.toInt (hp_B9 a rr un0.toInt M9 o0.toInt.toNat).2.2 c9)) → (iv44_1.toInt ≤ o0.toInt) → ∀ (ls : Array Slot), 4 - iv44_1.toInt < (n44 : Int) → hx_W T_tb (P_ty dA) (dC, dI) vwCl (hx_A L sz) s.heap hL1 hl1 s H locs → hx_T T_tb hL1 hl1 → hx_S T_tb [(5, 1), (5, 11), (5, 12), (27, 0), (28, 0), (29, 0), (33, 0)] L h hL1 hl1 → hl1.2.1 x 1 = td0 → hl1.2.1 x 11 = w_32 → hl1.2.1 x 12 = w_33 → hl1.2.1 qcl = ia44_qcl → hl1.2.1 qws = ia44_qws → hl1.2.1 qwl = w_34 → lv_has ls 2 [(1, .int iv44_1), (0, .ref x)] → W p l e ({ frames := 7, cells := 0, slots := 0, locals := 202 }) s m ([.ref x] : List Value).toArray below meth c H locs 0 0 (MQ below (va_Qi (fun (r : Int32) (u : List Nat × hx_h) => (∃ (td1 : Int32) (clf1 : Nat → Int32) (wkf1 : Nat → Int32) (wsf1 : Nat → Int32), u.2.2.1 x 1 = td1 ∧ u.2.2.1 qcl = clf1 ∧ u.2.2.1 qwl = wkf1 ∧ u.2.2.1 qws = wsf1 ∧ ((r.toInt = -2 ∧ (1 ≤ o0.toInt ∧ me0.toInt < hp_s a o0.toInt.toNat) ∧ td1.toInt = td0.toInt ∧ clf1 = clf ∧ wkf1 = wkf ∧ wsf1 = wsf) ∨ (¬ (1 ≤ o0.toInt ∧ me0.toInt < hp_s a o0.toInt.toNat) ∧ r.toInt = (hp_B9 a rr un0.toInt (if o0.toInt.toNat = 0 then 0 else me0.toInt) o0.toInt.toNat).1 ∧ td1.toInt = o0.toInt ∧ ∀ i : Nat, (i : Int) < o0.toInt → (clf1 i).toInt = c5 i ∧ (wkf1 i).toInt = hp_w a un0.toInt (hp_B9 a rr un0.toInt (if o0.toInt.toNat = 0 then 0 else me0.toInt) o0.toInt.toNat).2.2 i ∧ (wsf1 i).toInt = hz_ru (rr i) (hp_w a un0.toInt (hp_B9 a rr un0.toInt (if o0.toInt.toNat = 0 then 0 else me0.toInt) o0.toInt.toNat).2.2 i)))) ∧ hx_T T_tb u.1 u.2 ∧ hx_S T_tb [(5, 1), (5, 11), (5, 12), (27, 0), (28, 0), (29, 0), (33, 0)] L h u.1 u.2) (hx_E T_tb (P_ty dA) (dC, dI) vwCl (hx_A L sz)) (hx_A L sz)) ([.ref x] : List Value).toArray s 0 0 (hx_A L sz)) (F0 m 44 ls []) := by
        intro n44
        induction n44 with
        | zero => intro iv44_1 ia44_qcl ia44_qws H locs hL1 hl1 bliv44_1 buiv44_1 vi44_0 vi44_1 vi44_2 ls hn44; exfalso; omega
        | succ n44 ih44 =>
          intro iv44_1 ia44_qcl ia44_qws H locs hL1 hl1 bliv44_1 buiv44_1 vi44_0 vi44_1 vi44_2 ls hn44 hW hT hM f_x_1 fw_32 fw_33 nia44_qcl nia44_qws fw_34 hl
          refine lv_iload_n hx hb dX5_settle_44 rfl (lv_at hl 0 rfl) ?_
          refine lv_aload_n hx hb dX5_settle_45 rfl (lv_at hl 1 rfl) ?_
          refine hk_geti hx hb hts hC_5 hown hW (gx.S hM) tt_5 0 ?o81 rfl kw_258 ⟨rfl, rfl, rfl⟩ ((hM.o gx trivial rfl).1.trans f_x_0) dX5_settle_46 ?_
          case o81 => decide
          refine hb_icmp_ge (zx := iv44_1.toInt) (zy := o0.toInt) (tgt := 91) hx hb rfl rfl dX5_settle_49 ?o82 (fun c_35 => ?_) (fun c_35 => ?_)
          case o82 => decide
          · skip
            refine lv_aload_n hx hb dX5_settle_91 rfl (lv_at hl 1 rfl) ?_
            refine lv_aload_n hx hb dX5_settle_92 rfl (lv_at hl 1 rfl) ?_
            refine hk_geti hx hb hts hC_5 hown hW (gx.S hM) tt_5 0 ?o83 rfl kw_258 ⟨rfl, rfl, rfl⟩ ((hM.o gx trivial rfl).1.trans f_x_0) dX5_settle_93 ?_
            case o83 => decide
            refine hx_puti hx hb hts hC_5 hown hW hT (hx_S.rf (M := [(5, 1)])) (gx.S hM) tt_5 1 ?o84 rfl kw_260 ⟨rfl, rfl, rfl⟩ rfl (x := o0) ⟨?o85, ?o86⟩ rfl rfl rfl (List.mem_singleton.mpr rfl) dX5_settle_96 (fun H locs h_36 eh_36 hW hT hs => ?_)
            case o84 => decide
            case o85 => omega
            case o86 => omega
            replace fw_32 := (hs.o (gx.S hM) trivial rfl).1.trans fw_32
            replace fw_33 := (hs.o (gx.S hM) trivial rfl).1.trans fw_33
            replace fw_34 : h_36.2.1 qwl = w_34 := (funext fun j => (hs.a (gqwl.S hM) rfl j).1).trans fw_34
            replace nia44_qcl : h_36.2.1 qcl = ia44_qcl := (funext fun j => (hs.a (gqcl.S hM) rfl j).1).trans nia44_qcl
            replace nia44_qws : h_36.2.1 qws = ia44_qws := (funext fun j => (hs.a (gqws.S hM) rfl j).1).trans nia44_qws
            replace hM := hM.tr (hs.mono ?o87)
            case o87 => decide
            have f_37 : h_36.2.1 x 1 = o0 := ?o88
            case o88 =>
              rw [eh_36]
              exact hx_pi_at _ _ _ _
            refine lv_aload_n hx hb dX5_settle_99 rfl (lv_at hl 1 rfl) ?_
            refine hk_geti hx hb hts hC_5 hown hW (gx.S hM) tt_5 11 ?o89 rfl kw_274 ⟨rfl, rfl, rfl⟩ fw_32 dX5_settle_100 ?_
            case o89 => decide
            refine hx_reti hx hb hr hlk hW ⟨⟨o0, ia44_qcl, w_34, ia44_qws, f_37, nia44_qcl, fw_34, nia44_qws, (Or.inr ⟨(fun z9 => ?o90), (by rw [← eM9]; exact hT9.1.symm), ?o91, fun i hi => (by rw [← eM9]; exact ⟨vi44_0 i (by omega), hwk9 i (by omega), vi44_1 i (by omega)⟩)⟩)⟩, hT, hM⟩ dX5_settle_103
            case o90 => omega
            case o91 => omega
          · skip
            refine lv_aload_n hx hb dX5_settle_52 rfl (lv_at hl 1 rfl) ?_
            refine hk_getr hx hb hts hC_5 hown hW (gx.S hM) tt_5 2 ?o92 rfl kw_262 ⟨rfl, rfl, rfl⟩ ((hM.o gx trivial rfl).2.trans f_x_2) dX5_settle_53 ?_
            case o92 => decide
            refine lv_iload_n hx hb dX5_settle_56 rfl (lv_at hl 0 rfl) ?_
            refine lv_aload_n hx hb dX5_settle_57 rfl (lv_at hl 1 rfl) ?_
            refine hk_getr hx hb hts hC_5 hown hW (gx.S hM) tt_5 5 ?o93 rfl kw_268 ⟨rfl, rfl, rfl⟩ ((hM.o gx trivial rfl).2.trans f_x_5) dX5_settle_58 ?_
            case o93 => decide
            refine lv_iload_n hx hb dX5_settle_61 rfl (lv_at hl 0 rfl) ?_
            refine hx_iald hx hb hW hT (gqop.S hM) tt_30 rfl ⟨?o94, ?o95⟩ dX5_settle_62 (fun x_38 ex_38 lx_38 ux_38 => ?_)
            case o94 => omega
            case o95 => omega
            have ax_38 : x_38 = opf iv44_1.toNatClampNeg := ex_38.trans (congrFun (hx_afS hM gqop rfl af_qop) _)
            have hcv9 : x_38.toInt = c5 iv44_1.toInt.toNat := ?o96
            case o96 =>
              rw [ax_38]
              exact hc _ (by unfold Int32.toNatClampNeg; omega)
            have nia44_qclO := nia44_qcl
            refine hx_iast hx hb hW hT (hx_S.rf (M := [(27, 0)])) (gqcl.S hM) tt_27 rfl ⟨?o97, ?o98⟩ rfl (i32_r _) (List.mem_singleton.mpr rfl) dX5_settle_63 (fun H locs h_39 eh_39 hW hT hs => ?_)
            case o97 => omega
            case o98 => omega
            replace f_x_1 := (hs.o (gx.S hM) trivial rfl).1.trans f_x_1
            replace fw_32 := (hs.o (gx.S hM) trivial rfl).1.trans fw_32
            replace fw_33 := (hs.o (gx.S hM) trivial rfl).1.trans fw_33
            replace fw_34 : h_39.2.1 qwl = w_34 := (funext fun j => (hs.a (gqwl.S hM) rfl j).1).trans fw_34
            replace nia44_qws : h_39.2.1 qws = ia44_qws := (funext fun j => (hs.a (gqws.S hM) rfl j).1).trans nia44_qws
            replace ex_38 := ex_38.trans (hs.a (gqop.S hM) rfl _).1.symm
            replace hM := hM.tr (hs.mono ?o99)
            case o99 => decide
            obtain ⟨fa_40, dfa_40⟩ : ∃ g : Nat → Int32, g = hx_up ia44_qcl iv44_1.toNatClampNeg x_38 := ⟨_, rfl⟩
            have nfa_40 : h_39.2.1 qcl = fa_40 := ?o100
            case o100 =>
              rw [eh_39, dfa_40, ← nia44_qclO]
              exact hx_pi_fun _ _ _ _
            refine lv_aload_n hx hb dX5_settle_64 rfl (lv_at hl 1 rfl) ?_
            refine hk_getr hx hb hts hC_5 hown hW (gx.S hM) tt_5 4 ?o101 rfl kw_266 ⟨rfl, rfl, rfl⟩ ((hM.o gx trivial rfl).2.trans f_x_4) dX5_settle_65 ?_
            case o101 => decide
            refine lv_iload_n hx hb dX5_settle_68 rfl (lv_at hl 0 rfl) ?_
            refine lv_aload_n hx hb dX5_settle_69 rfl (lv_at hl 1 rfl) ?_
            refine hk_getr hx hb hts hC_5 hown hW (gx.S hM) tt_5 6 ?o102 rfl kw_269 ⟨rfl, rfl, rfl⟩ ((hM.o gx trivial rfl).2.trans f_x_6) dX5_settle_70 ?_
            case o102 => decide
            refine lv_iload_n hx hb dX5_settle_73 rfl (lv_at hl 0 rfl) ?_
            refine hx_iald hx hb hW hT (gqre.S hM) tt_31 rfl ⟨?o103, ?o104⟩ dX5_settle_74 (fun x_41 ex_41 lx_41 ux_41 => ?_)
            case o103 => omega
            case o104 => omega
            have ax_41 : x_41 = rsf iv44_1.toNatClampNeg := ex_41.trans (congrFun (hx_afS hM gqre rfl af_qre) _)
            have hrv9 : x_41.toInt = rr iv44_1.toInt.toNat := ?o105
            case o105 =>
              rw [ax_41]
              exact hr5 _ (by unfold Int32.toNatClampNeg; omega)
            refine lv_aload_n hx hb dX5_settle_75 rfl (lv_at hl 1 rfl) ?_
            refine hk_getr hx hb hts hC_5 hown hW (gx.S hM) tt_5 3 ?o106 rfl kw_264 ⟨rfl, rfl, rfl⟩ ((hM.o gx trivial rfl).2.trans f_x_3) dX5_settle_76 ?_
            case o106 => decide
            refine lv_iload_n hx hb dX5_settle_79 rfl (lv_at hl 0 rfl) ?_
            refine hx_iald hx hb hW hT (gqwl.S hM) tt_28 rfl ⟨?o107, ?o108⟩ dX5_settle_80 (fun x_42 ex_42 lx_42 ux_42 => ?_)
            case o107 => omega
            case o108 => omega
            have ax_42 : x_42 = w_34 iv44_1.toNatClampNeg := ex_42.trans (congrFun fw_34 _)
            have hwv9 : x_42.toInt = hp_w a un0.toInt (hp_B9 a rr un0.toInt M9 o0.toInt.toNat).2.2 iv44_1.toInt.toNat := ?o109
            case o109 =>
              rw [ax_42]
              exact hwk9 _ (by unfold Int32.toNatClampNeg; omega)
            refine hx_goi (hx_runSN (As := [.int x_41, .int x_42]) (rest := [.int iv44_1, .ref qws]) ⟨hx, hb, hml, hown, hts⟩ hW (t_X9_roundUp_v l dC dI dA hL1 h_39 H.size x_41 x_42 hT) ⟨va_cnB 2 hts (hx_gC kw_921) rfl rfl rfl (hZ.1 _ (List.mem_of_getElem? (i := 10) rfl)) (hts _ kw_94) (by decide +kernel) ⟨Nat.le_of_ble_eq_true rfl, Nat.le_of_ble_eq_true rfl⟩, hts _ kw_920, trivial⟩ rfl hl.1 rfl (Nat.le_of_ble_eq_true rfl) dX5_settle_81 ⟨Nat.le_of_ble_eq_true rfl, Nat.le_of_ble_eq_true rfl⟩) hW (fun r_45 L_43 h_44 H locs p_46 hW => ?_)
            obtain ⟨hr_47, hT, hs⟩ := p_46
            replace hT : hx_T T_tb L_43 h_44 := hT
            replace hs : hx_S T_tb [] hL1 h_39 L_43 h_44 := hs
            replace f_x_1 := (hs.o (gx.S hM) trivial rfl).1.trans f_x_1
            replace fw_32 := (hs.o (gx.S hM) trivial rfl).1.trans fw_32
            replace fw_33 := (hs.o (gx.S hM) trivial rfl).1.trans fw_33
            replace fw_34 : h_44.2.1 qwl = w_34 := (funext fun j => (hs.a (gqwl.S hM) rfl j).1).trans fw_34
            replace nia44_qws : h_44.2.1 qws = ia44_qws := (funext fun j => (hs.a (gqws.S hM) rfl j).1).trans nia44_qws
            replace nfa_40 : h_44.2.1 qcl = fa_40 := (funext fun j => (hs.a (gqcl.S hM) rfl j).1).trans nfa_40
            replace ex_38 := ex_38.trans (hs.a (gqop.S hM) rfl _).1.symm
            replace ex_41 := ex_41.trans (hs.a (gqre.S hM) rfl _).1.symm
            replace ex_42 := ex_42.trans (hs.a (gqwl.S hM) rfl _).1.symm
            replace hM := hM.tr (hs.mono ?o110)
            case o110 => decide
            have hrw9 : r_45.toInt = hz_ru (rr iv44_1.toInt.toNat) (hp_w a un0.toInt (hp_B9 a rr un0.toInt M9 o0.toInt.toNat).2.2 iv44_1.toInt.toNat) := ?o111
            case o111 =>
              rw [← hrv9, ← hwv9]
              exact hr_47
            have nia44_qwsO := nia44_qws
            refine hx_iast hx hb hW hT (hx_S.rf (M := [(29, 0)])) (gqws.S hM) tt_29 rfl ⟨?o112, ?o113⟩ rfl (i32_r _) (List.mem_singleton.mpr rfl) dX5_settle_84 (fun H locs h_48 eh_48 hW hT hs => ?_)
            case o112 => omega
            case o113 => omega
            replace f_x_1 := (hs.o (gx.S hM) trivial rfl).1.trans f_x_1
            replace fw_32 := (hs.o (gx.S hM) trivial rfl).1.trans fw_32
            replace fw_33 := (hs.o (gx.S hM) trivial rfl).1.trans fw_33
            replace fw_34 : h_48.2.1 qwl = w_34 := (funext fun j => (hs.a (gqwl.S hM) rfl j).1).trans fw_34
            replace nfa_40 : h_48.2.1 qcl = fa_40 := (funext fun j => (hs.a (gqcl.S hM) rfl j).1).trans nfa_40
            replace ex_38 := ex_38.trans (hs.a (gqop.S hM) rfl _).1.symm
            replace ex_41 := ex_41.trans (hs.a (gqre.S hM) rfl _).1.symm
            replace ex_42 := ex_42.trans (hs.a (gqwl.S hM) rfl _).1.symm
            replace hM := hM.tr (hs.mono ?o114)
            case o114 => decide
            obtain ⟨fa_49, dfa_49⟩ : ∃ g : Nat → Int32, g = hx_up ia44_qws iv44_1.toNatClampNeg r_45 := ⟨_, rfl⟩
            have nfa_49 : h_48.2.1 qws = fa_49 := ?o115
            case o115 =>
              rw [eh_48, dfa_49, ← nia44_qwsO]
              exact hx_pi_fun _ _ _ _
            obtain ⟨x_50, ex_50⟩ : ∃ y : Int32, y = iv44_1 + Int32.ofInt 1 := ⟨_, rfl⟩
            have rg_51 := i32_r iv44_1
            have zx_50 : x_50.toInt = iv44_1.toInt + (1) := ?o116
            case o116 =>
              rw [ex_50]
              refine i32_add rfl ?o117 ?o118 ?o119
              case o117 => decide
              case o118 => omega
              case o119 => omega
            refine lv_iinc (v := x_50) (lv' := [(1, .int x_50), (0, .ref x)]) hx hb dX5_settle_85 hl (k := 0) rfl ex_50.symm ?o120 rfl (fun ls hl => ?_)
            case o120 => decide
            refine lv_goto (tgt := 44) hx hb dX5_settle_88 ?o121 ?_
            case o121 => decide
            refine ih44 x_50 fa_40 fa_49 _ _ L_43 h_48 ?o122 ?o123 (hz_rs_s vi44_0 ?o124 (by unfold Int32.toNatClampNeg; omega) hcv9 dfa_40 zx_50) (hz_rs_s vi44_1 ?o125 (by unfold Int32.toNatClampNeg; omega) hrw9 dfa_49 zx_50) ?o126 ls ?o127 hW hT hM f_x_1 fw_32 fw_33 nfa_40 nfa_49 fw_34 (lv_sub hl [0, 1] rfl)
            case o122 => omega
            case o123 => omega
            case o124 => omega
            case o125 => omega
            case o126 => omega
            case o127 => omega
      have zk_0 : (0 : Int32).toInt = 0 := ?o128
      case o128 => decide
      refine loop44 5 (0 : Int32) clf wsf _ _ L_27 h_28 ?o129 ?o130 (fun c9 hc9 => ?o131) (fun c9 hc9 => ?o132) ?o133 ls ?o134 hW hT hM f_x_1 fw_32 fw_33 af_qcl af_qws fw_34 hl
      case o129 => decide
      case o130 => decide
      case o131 =>
        exfalso
        omega
      case o132 =>
        exfalso
        omega
      case o133 => omega
      case o134 => omega
    · skip
      refine lv_bipush (v := -2) hx hb dX5_settle_19 ?o135 ?_
      case o135 => decide
      refine hx_reti hx hb hr hlk hW ⟨⟨td0, clf, wkf, wsf, f_x_1, af_qcl, af_qwl, af_qws, (Or.inl ⟨?o136, ⟨?o137, ?o138⟩, rfl, rfl, rfl, rfl⟩)⟩, hT, hM⟩ dX5_settle_21
      case o136 => decide
      case o137 => omega
      case o138 => omega
end
section
set_option maxHeartbeats 4000000 in
set_option maxRecDepth 100000 in
theorem t_X9_plan_v (l : Launch) (dC : Nat → ClassId) (dI : Nat → Nat → Nat) (dA : Nat → ClassId) (L : List Nat) (h : hx_h) (sz : Nat) (b0 : hx_z) (x : Nat) (i1 : Int32) (i2 : Int32) (hT : hx_T T_tb L h) (gx : hx_g L h x 9) (qp : Nat) (gqp : hx_g L h qp 44) (f_x_7 : h.2.2 x 7 = some qp) (qc : Nat) (gqc : hx_g L h qc 45) (f_x_10 : h.2.2 x 10 = some qc) (qy : Nat) (gqy : hx_g L h qy 3) (f_x_14 : h.2.2 x 14 = some qy) (pqo : Nat) (gpqo : hx_g L h pqo 23) (f_qy_2 : h.2.2 qy 2 = some pqo) (pqd : Nat) (gpqd : hx_g L h pqd 24) (f_qy_3 : h.2.2 qy 3 = some pqd) (pqs : Nat) (gpqs : hx_g L h pqs 26) (f_qy_5 : h.2.2 qy 5 = some pqs) (pqk : Nat) (gpqk : hx_g L h pqk 25) (f_qy_4 : h.2.2 qy 4 = some pqk) (pqt : Nat) (gpqt : hx_g L h pqt 22) (f_qy_1 : h.2.2 qy 1 = some pqt) (qa : Nat) (gqa : hx_g L h qa 43) (f_x_5 : h.2.2 x 5 = some qa) (w : Nat) (gw : hx_g L h w 0) (f_x_4 : h.2.2 x 4 = some w) (qpg : Nat) (gqpg : hx_g L h qpg 5) (f_x_17 : h.2.2 x 17 = some qpg) (qle : Nat) (gqle : hx_g L h qle 32) (f_qpg_7 : h.2.2 qpg 7 = some qle) (qre : Nat) (gqre : hx_g L h qre 31) (f_qpg_6 : h.2.2 qpg 6 = some qre) (qtd : Nat) (gqtd : hx_g L h qtd 33) (f_qpg_8 : h.2.2 qpg 8 = some qtd) (qwl : Nat) (gqwl : hx_g L h qwl 28) (f_qpg_3 : h.2.2 qpg 3 = some qwl) (qop : Nat) (gqop : hx_g L h qop 30) (f_qpg_5 : h.2.2 qpg 5 = some qop) (qws : Nat) (gqws : hx_g L h qws 29) (f_qpg_4 : h.2.2 qpg 4 = some qws) (qcl : Nat) (gqcl : hx_g L h qcl 27) (f_qpg_2 : h.2.2 qpg 2 = some qcl) (pof : Nat → Int32) (af_pqo : h.2.1 pqo = pof) (pdf : Nat → Int32) (af_pqd : h.2.1 pqd = pdf) (psm : Nat → Int32) (af_pqs : h.2.1 pqs = psm) (pkf : Nat → Int32) (af_pqk : h.2.1 pqk = pkf) (pst : Nat → Int32) (af_pqt : h.2.1 pqt = pst) (clf : Nat → Int32) (af_qcl : h.2.1 qcl = clf) (wlf : Nat → Int32) (af_qwl : h.2.1 qwl = wlf) (wsf : Nat → Int32) (af_qws : h.2.1 qws = wsf) (cn0 : Int32) (f_x_11 : h.2.1 x 11 = cn0) (nw0 : Int32) (f_x_2 : h.2.1 x 2 = nw0) (n0 : Int32) (f_qy_0 : h.2.1 qy 0 = n0) (pn0 : Int32) (f_x_8 : h.2.1 x 8 = pn0) (a0 : Int32) (f_x_6 : h.2.1 x 6 = a0) (td0 : Int32) (f_qpg_1 : h.2.1 qpg 1 = td0) (odf : Nat → Int32) (cl_qc_13 : hx_col 100 h qc 13 = odf) (wkf : Nat → Int32) (cl_qc_14 : hx_col 100 h qc 14 = wkf) (owf : Nat → Int32) (cl_qc_15 : hx_col 100 h qc 15 = owf) (szf : Nat → Int32) (cl_qc_16 : hx_col 100 h qc 16 = szf) (gdf : Nat → Int32) (cl_qc_17 : hx_col 100 h qc 17 = gdf) (svf : Nat → Int32) (cl_qc_18 : hx_col 100 h qc 18 = svf) (eaf : Nat → Int32) (cl_qp_3 : hx_col 40 h qp 3 = eaf) (hdf : Nat → Int32) (cl_qp_4 : hx_col 40 h qp 4 = hdf) (nu_qp : hx_num 40 h qp 0 (pn0.toInt)) (nu_qc : hx_num 100 h qc 0 (cn0.toInt)) (agf plf : Nat → Int32) (A : Nat → hv_act) (hDF : hw_DF h qc qp 2 agf cn0.toInt) (hAC : hv_AC h qc plf cn0.toInt A) (hAB : ∀ j : Nat, (∀ k, 0 ≤ (A j).2.1 k ∧ (A j).2.1 k ≤ 9999) ∧ hv_OK (A j).2.2) (hCB : hz_CB odf wkf owf szf gdf svf) (hps : ∀ j, j < 600 → 0 ≤ (psm j).toInt ∧ (psm j).toInt ≤ 610000) (hRA : hv_RA h qa w a0.toInt A) (hee : ∀ c : Nat, c < 40 → (0 ≤ (eaf c).toInt ∧ (eaf c).toInt ≤ 9999) ∧ (0 ≤ (hdf c).toInt ∧ (hdf c).toInt ≤ 20)) (hwk9 : ∀ c : Nat, c < cn0.toInt.toNat → 1 ≤ (A (plf c).toInt.toNat).2.1 2) (hrn : ∀ c : Nat, c < cn0.toInt.toNat → 0 ≤ (hz_Rn odf szf gdf owf svf (hz_rc A plf) pof pdf psm pkf pst nw0.toInt n0.toInt.toNat) c ∧ (hz_Rn odf szf gdf owf svf (hz_rc A plf) pof pdf psm pkf pst nw0.toInt n0.toInt.toNat) c ≤ 609999) (pf_x_8 : ∀ j : Nat, (j : Int) < (h.2.1 x 8).toInt → h.2.2 qp j ≠ none) (pf_x_11 : ∀ j : Nat, (j : Int) < (h.2.1 x 11).toInt → h.2.2 qc j ≠ none) (pf_x_6 : ∀ j : Nat, (j : Int) < (h.2.1 x 6).toInt → h.2.2 qa j ≠ none) : Met l yX9_plan (Cond.code yX9_plan cX9_plan 6 (some .int) :: hx_all) ({ frames := 8, cells := 0, slots := 0, locals := 223 }) (va_Pc [.ref x, .int i1, .int i2] (hx_BX T_tb (P_ty dA) (dC, dI) vwCl L h sz b0)) (va_Qi (fun (r : Int32) (u : List Nat × hx_h) => (∃ (td1 : Int32) (clf1 : Nat → Int32) (wlf1 : Nat → Int32) (wsf1 : Nat → Int32), u.2.2.1 qpg 1 = td1 ∧ u.2.2.1 qcl = clf1 ∧ u.2.2.1 qwl = wlf1 ∧ u.2.2.1 qws = wsf1 ∧ (hp_PS ((0 ≤ i1.toInt ∧ i1.toInt < pn0.toInt) ∧ 1 ≤ i2.toInt ∧ i2.toInt ≤ 99) (hp_ol agf (hz_Rn odf szf gdf owf svf (hz_rc A plf) pof pdf psm pkf pst nw0.toInt n0.toInt.toNat) i1.toInt cn0.toInt.toNat).length (hp_ge (hp_ol agf (hz_Rn odf szf gdf owf svf (hz_rc A plf) pof pdf psm pkf pst nw0.toInt n0.toInt.toNat) i1.toInt cn0.toInt.toNat)) (fun c9 => hz_mi ((fun c9 => (A (plf c9).toInt.toNat).2.1 2) (hp_ge (hp_ol agf (hz_Rn odf szf gdf owf svf (hz_rc A plf) pof pdf psm pkf pst nw0.toInt n0.toInt.toNat) i1.toInt cn0.toInt.toNat) c9)) ((hz_Rn odf szf gdf owf svf (hz_rc A plf) pof pdf psm pkf pst nw0.toInt n0.toInt.toNat) (hp_ge (hp_ol agf (hz_Rn odf szf gdf owf svf (hz_rc A plf) pof pdf psm pkf pst nw0.toInt n0.toInt.toNat) i1.toInt cn0.toInt.toNat) c9))) (fun c9 => (hz_Rn odf szf gdf owf svf (hz_rc A plf) pof pdf psm pkf pst nw0.toInt n0.toInt.toNat) (hp_ge (hp_ol agf (hz_Rn odf szf gdf owf svf (hz_rc A plf) pof pdf psm pkf pst nw0.toInt n0.toInt.toNat) i1.toInt cn0.toInt.toNat) c9)) i2.toInt ((eaf i1.toInt.toNat).toInt - (A (hv_IF A nw0.toInt a0.toInt.toNat)).2.1 3 * (hdf i1.toInt.toNat).toInt) r.toInt td0.toInt td1.toInt clf clf1 wlf wlf1 wsf wsf1)) ∧ hx_T T_tb u.1 u.2 ∧ hx_S T_tb [(5, 0), (5, 1), (5, 9), (5, 10), (5, 11), (5, 12), (27, 0), (28, 0), (29, 0), (30, 0), (31, 0), (32, 0), (33, 0)] L h u.1 u.2) (hx_E T_tb (P_ty dA) (dC, dI) vwCl (hx_A L sz)) (hx_A L sz)) 0 0 (hx_A L sz) := by
  refine hx_metX (lv := [(0, .ref x), (1, .int i1), (2, .int i2)]) (by decide +kernel) rfl (Nat.le_of_ble_eq_true rfl) rfl ?_
  intro p e s m below meth c hx hb hml hr hlk hts0 hown hin hsz hW hZ ls hl
  have hts : ∀ w ∈ hx_all, w.before _ s = true := fun w hw => hts0 w (List.mem_cons_of_mem _ hw)
  have hown : s.vm.findClass "SmallCourt" = some m.cls := hown
  have hM : hx_S T_tb [(5, 0), (5, 1), (5, 9), (5, 10), (5, 11), (5, 12), (27, 0), (28, 0), (29, 0), (30, 0), (31, 0), (32, 0), (33, 0)] L h L h := hx_S.rf
  have b_cn0 := hT.gi gx tt_9 (k := 11) rfl
  rw [f_x_11] at b_cn0
  have b_cn0 : 0 ≤ cn0.toInt ∧ cn0.toInt ≤ 100 := b_cn0
  have b_nw0 := hT.gi gx tt_9 (k := 2) rfl
  rw [f_x_2] at b_nw0
  have b_nw0 : 0 ≤ nw0.toInt ∧ nw0.toInt ≤ 7999 := b_nw0
  have b_n0 := hT.gi gqy tt_3 (k := 0) rfl
  rw [f_qy_0] at b_n0
  have b_n0 : 0 ≤ n0.toInt ∧ n0.toInt ≤ 600 := b_n0
  have b_pn0 := hT.gi gx tt_9 (k := 8) rfl
  rw [f_x_8] at b_pn0
  have b_pn0 : 0 ≤ pn0.toInt ∧ pn0.toInt ≤ 40 := b_pn0
  have b_a0 := hT.gi gx tt_9 (k := 6) rfl
  rw [f_x_6] at b_a0
  have b_a0 : 0 ≤ a0.toInt ∧ a0.toInt ≤ 8 := b_a0
  have b_td0 := hT.gi gqpg tt_5 (k := 1) rfl
  rw [f_qpg_1] at b_td0
  have b_td0 : 0 ≤ td0.toInt ∧ td0.toInt ≤ 4 := b_td0
  refine lv_aload_n hx hb dX9_plan_0 rfl (lv_at hl 0 rfl) ?_
  refine lv_iload_n hx hb dX9_plan_1 rfl (lv_at hl 1 rfl) ?_
  have hTo := hT
  refine hx_goq (hx_runV (As := [.int i1]) (rest := []) ⟨hx, hb, hml, hown, hts⟩ hW gx tt_9 (T := TX9) (N := 20) rfl (t_X9_personAt_2 l dC dI dA L h s.heap.size x i1 hT gx pn0 f_x_8 qp gqp f_x_7 pf_x_8) (cwV 1 hts (hx_gV kw_659 kw_656 kw_658 kw_20 kw_94) rfl rfl rfl (by decide +kernel) ⟨Nat.le_of_ble_eq_true rfl, Nat.le_of_ble_eq_true rfl⟩) rfl hl.1 rfl (Nat.le_of_ble_eq_true rfl) dX9_plan_2 ⟨Nat.le_of_ble_eq_true rfl, Nat.le_of_ble_eq_true rfl⟩) hW (fun r_3 L_1 h_2 H locs p_4 hW => ?_)
  obtain ⟨hr_5, hT, hs⟩ := p_4
  replace hT : hx_T T_tb L_1 h_2 := hT
  replace hs : hx_S T_tb [] L h L_1 h_2 := hs
  replace f_x_7 := (hs.o gx trivial rfl).2.trans f_x_7
  replace f_x_10 := (hs.o gx trivial rfl).2.trans f_x_10
  replace f_x_14 := (hs.o gx trivial rfl).2.trans f_x_14
  replace f_x_5 := (hs.o gx trivial rfl).2.trans f_x_5
  replace f_x_4 := (hs.o gx trivial rfl).2.trans f_x_4
  replace f_x_17 := (hs.o gx trivial rfl).2.trans f_x_17
  replace f_x_11 := (hs.o gx trivial rfl).1.trans f_x_11
  replace f_x_2 := (hs.o gx trivial rfl).1.trans f_x_2
  replace f_x_8 := (hs.o gx trivial rfl).1.trans f_x_8
  replace f_x_6 := (hs.o gx trivial rfl).1.trans f_x_6
  replace f_qpg_1 := (hs.o (gqpg.S hM) trivial rfl).1.trans f_qpg_1
  replace pf_x_8 : ∀ j : Nat, (j : Int) < (h_2.2.1 x 8).toInt → h_2.2.2 qp j ≠ none := by
    intro j hj; rw [(hs.o gx trivial rfl).1] at hj; rw [(hs.a gqp rfl j).2]; exact pf_x_8 j hj
  replace pf_x_11 : ∀ j : Nat, (j : Int) < (h_2.2.1 x 11).toInt → h_2.2.2 qc j ≠ none := by
    intro j hj; rw [(hs.o gx trivial rfl).1] at hj; rw [(hs.a gqc rfl j).2]; exact pf_x_11 j hj
  replace pf_x_6 : ∀ j : Nat, (j : Int) < (h_2.2.1 x 6).toInt → h_2.2.2 qa j ≠ none := by
    intro j hj; rw [(hs.o gx trivial rfl).1] at hj; rw [(hs.a gqa rfl j).2]; exact pf_x_6 j hj
  replace cl_qc_13 : hx_col 100 h_2 qc 13 = odf := (hx_col_S hs hTo gqc tt_45 tt_2 rfl rfl).trans cl_qc_13
  replace cl_qc_14 : hx_col 100 h_2 qc 14 = wkf := (hx_col_S hs hTo gqc tt_45 tt_2 rfl rfl).trans cl_qc_14
  replace cl_qc_15 : hx_col 100 h_2 qc 15 = owf := (hx_col_S hs hTo gqc tt_45 tt_2 rfl rfl).trans cl_qc_15
  replace cl_qc_16 : hx_col 100 h_2 qc 16 = szf := (hx_col_S hs hTo gqc tt_45 tt_2 rfl rfl).trans cl_qc_16
  replace cl_qc_17 : hx_col 100 h_2 qc 17 = gdf := (hx_col_S hs hTo gqc tt_45 tt_2 rfl rfl).trans cl_qc_17
  replace cl_qc_18 : hx_col 100 h_2 qc 18 = svf := (hx_col_S hs hTo gqc tt_45 tt_2 rfl rfl).trans cl_qc_18
  replace cl_qp_3 : hx_col 40 h_2 qp 3 = eaf := (hx_col_S hs hTo gqp tt_44 tt_4 rfl rfl).trans cl_qp_3
  replace cl_qp_4 : hx_col 40 h_2 qp 4 = hdf := (hx_col_S hs hTo gqp tt_44 tt_4 rfl rfl).trans cl_qp_4
  replace nu_qp : hx_num 40 h_2 qp 0 (pn0.toInt) := hx_num_S hs hTo gqp tt_44 tt_4 rfl rfl nu_qp
  replace nu_qc : hx_num 100 h_2 qc 0 (cn0.toInt) := hx_num_S hs hTo gqc tt_45 tt_2 rfl rfl nu_qc
  replace hDF : hw_DF h_2 qc qp 2 agf cn0.toInt := hw_DF_S hs hTo gqc gqp tt_45 tt_2 rfl rfl rfl hDF
  replace hAC : hv_AC h_2 qc plf cn0.toInt A := hv_AC_S hs hTo gqc tt_45 tt_2 rfl tt_0 rfl rfl rfl rfl rfl rfl rfl hAC
  replace hRA : hv_RA h_2 qa w a0.toInt A := hv_RA_S hs hTo gqa gw tt_43 tt_0 rfl rfl rfl rfl rfl rfl ?o0 hRA
  case o0 => omega
  replace af_qcl : h_2.2.1 qcl = clf := (funext fun j => (hs.a (gqcl.S hM) rfl j).1).trans af_qcl
  replace af_qwl : h_2.2.1 qwl = wlf := (funext fun j => (hs.a (gqwl.S hM) rfl j).1).trans af_qwl
  replace af_qws : h_2.2.1 qws = wsf := (funext fun j => (hs.a (gqws.S hM) rfl j).1).trans af_qws
  replace hM := hM.tr (hs.mono ?o1)
  case o1 => decide
  replace gx := gx.S hs
  replace gqp := gqp.S hs
  replace gqc := gqc.S hs
  replace gqa := gqa.S hs
  replace gw := gw.S hs
  obtain ⟨hr_5, hr_5B⟩ := hr_5
  have hr_5 : ∀ q, r_3 = some q → hx_g L_1 h_2 q 4 := hr_5
  rcases r_3 with _ | q_6
  · skip
    have k_7 : i1.toInt < 0 ∨ pn0.toInt ≤ i1.toInt := by
      rcases hr_5B with ⟨_, z⟩ | ⟨_, _, q, z, _⟩
      · exact z
      · cases z
    refine lv_astore_nN (lv' := [(3, .null), (0, .ref x), (1, .int i1), (2, .int i2)]) hx hb dX9_plan_5 rfl hl ?o2 rfl (fun ls hl => ?_)
    case o2 => decide
    refine lv_aload_nN hx hb dX9_plan_6 rfl (lv_at hl 0 rfl) ?_
    refine lv_ifnullN (tgt := 20) hx hb dX9_plan_7 ?o3 ?_
    case o3 => decide
    refine lv_iconst (v := -1) hx hb dX9_plan_20 ?o4 ?_
    case o4 => decide
    refine hx_reti hx hb hr hlk hW ⟨⟨td0, clf, wlf, wsf, f_qpg_1, af_qcl, af_qwl, af_qws, (Or.inl ⟨Or.inl ⟨(fun hc => by have h1 := hc.1; have h2 := hc.2; omega), ?o5⟩, rfl, rfl, rfl, rfl⟩)⟩, hT, hM⟩ dX9_plan_21
    case o5 => decide
  · have gq_6 := hr_5 _ rfl
    have k_8 : 0 ≤ i1.toInt ∧ i1.toInt < pn0.toInt ∧ h_2.2.2 qp i1.toNatClampNeg = some q_6 := by
      rcases hr_5B with ⟨z, _⟩ | ⟨z1, z2, q, z3, z4⟩
      · cases z
      · cases z3; exact ⟨z1, z2, z4⟩
    have fo_9 := k_8.2.2
    have k_8 : 0 ≤ i1.toInt ∧ i1.toInt < pn0.toInt := ⟨k_8.1, k_8.2.1⟩
    refine lv_astore_n (lv' := [(3, .ref q_6), (0, .ref x), (1, .int i1), (2, .int i2)]) hx hb dX9_plan_5 rfl hl ?o6 rfl (fun ls hl => ?_)
    case o6 => decide
    refine lv_aload_n hx hb dX9_plan_6 rfl (lv_at hl 0 rfl) ?_
    refine lv_ifnull hx hb dX9_plan_7 ?_
    refine lv_iload_n hx hb dX9_plan_10 rfl (lv_at hl 3 rfl) ?_
    refine lv_iconst (v := 1) hx hb dX9_plan_11 ?o7 ?_
    case o7 => decide
    refine lv_bipush (v := 99) hx hb dX9_plan_12 ?o8 ?_
    case o8 => decide
    have hTo := hT
    have zc_99 : (99 : Int32).toInt = 99 := ?o9
    case o9 => decide
    have zc_1 : (1 : Int32).toInt = 1 := ?o10
    case o10 => decide
    refine hx_goi (hx_runS (As := [.int i2, .int (1 : Int32), .int (99 : Int32)]) (rest := []) ⟨hx, hb, hml, hown, hts⟩ hW (t_X9_isWithin_2 l dC dI dA L_1 h_2 H.size i2 (1 : Int32) (99 : Int32) hT) (va_cwS 3 hts (hx_gS kw_434 kw_432 kw_433 kw_94) rfl rfl rfl (by decide +kernel) ⟨Nat.le_of_ble_eq_true rfl, Nat.le_of_ble_eq_true rfl⟩) rfl hl.1 rfl (Nat.le_of_ble_eq_true rfl) dX9_plan_14 ⟨Nat.le_of_ble_eq_true rfl, Nat.le_of_ble_eq_true rfl⟩) hW (fun r_12 L_10 h_11 H locs p_13 hW => ?_)
    obtain ⟨hr_14, hT, hs⟩ := p_13
    replace hT : hx_T T_tb L_10 h_11 := hT
    replace hs : hx_S T_tb [] L_1 h_2 L_10 h_11 := hs
    replace f_x_7 := (hs.o gx trivial rfl).2.trans f_x_7
    replace f_x_10 := (hs.o gx trivial rfl).2.trans f_x_10
    replace f_x_14 := (hs.o gx trivial rfl).2.trans f_x_14
    replace f_x_5 := (hs.o gx trivial rfl).2.trans f_x_5
    replace f_x_4 := (hs.o gx trivial rfl).2.trans f_x_4
    replace f_x_17 := (hs.o gx trivial rfl).2.trans f_x_17
    replace f_x_11 := (hs.o gx trivial rfl).1.trans f_x_11
    replace f_x_2 := (hs.o gx trivial rfl).1.trans f_x_2
    replace f_x_8 := (hs.o gx trivial rfl).1.trans f_x_8
    replace f_x_6 := (hs.o gx trivial rfl).1.trans f_x_6
    replace f_qpg_1 := (hs.o (gqpg.S hM) trivial rfl).1.trans f_qpg_1
    replace pf_x_8 : ∀ j : Nat, (j : Int) < (h_11.2.1 x 8).toInt → h_11.2.2 qp j ≠ none := by
      intro j hj; rw [(hs.o gx trivial rfl).1] at hj; rw [(hs.a gqp rfl j).2]; exact pf_x_8 j hj
    replace pf_x_11 : ∀ j : Nat, (j : Int) < (h_11.2.1 x 11).toInt → h_11.2.2 qc j ≠ none := by
      intro j hj; rw [(hs.o gx trivial rfl).1] at hj; rw [(hs.a gqc rfl j).2]; exact pf_x_11 j hj
    replace pf_x_6 : ∀ j : Nat, (j : Int) < (h_11.2.1 x 6).toInt → h_11.2.2 qa j ≠ none := by
      intro j hj; rw [(hs.o gx trivial rfl).1] at hj; rw [(hs.a gqa rfl j).2]; exact pf_x_6 j hj
    replace cl_qc_13 : hx_col 100 h_11 qc 13 = odf := (hx_col_S hs hTo gqc tt_45 tt_2 rfl rfl).trans cl_qc_13
    replace cl_qc_14 : hx_col 100 h_11 qc 14 = wkf := (hx_col_S hs hTo gqc tt_45 tt_2 rfl rfl).trans cl_qc_14
    replace cl_qc_15 : hx_col 100 h_11 qc 15 = owf := (hx_col_S hs hTo gqc tt_45 tt_2 rfl rfl).trans cl_qc_15
    replace cl_qc_16 : hx_col 100 h_11 qc 16 = szf := (hx_col_S hs hTo gqc tt_45 tt_2 rfl rfl).trans cl_qc_16
    replace cl_qc_17 : hx_col 100 h_11 qc 17 = gdf := (hx_col_S hs hTo gqc tt_45 tt_2 rfl rfl).trans cl_qc_17
    replace cl_qc_18 : hx_col 100 h_11 qc 18 = svf := (hx_col_S hs hTo gqc tt_45 tt_2 rfl rfl).trans cl_qc_18
    replace cl_qp_3 : hx_col 40 h_11 qp 3 = eaf := (hx_col_S hs hTo gqp tt_44 tt_4 rfl rfl).trans cl_qp_3
    replace cl_qp_4 : hx_col 40 h_11 qp 4 = hdf := (hx_col_S hs hTo gqp tt_44 tt_4 rfl rfl).trans cl_qp_4
    replace nu_qp : hx_num 40 h_11 qp 0 (pn0.toInt) := hx_num_S hs hTo gqp tt_44 tt_4 rfl rfl nu_qp
    replace nu_qc : hx_num 100 h_11 qc 0 (cn0.toInt) := hx_num_S hs hTo gqc tt_45 tt_2 rfl rfl nu_qc
    replace hDF : hw_DF h_11 qc qp 2 agf cn0.toInt := hw_DF_S hs hTo gqc gqp tt_45 tt_2 rfl rfl rfl hDF
    replace hAC : hv_AC h_11 qc plf cn0.toInt A := hv_AC_S hs hTo gqc tt_45 tt_2 rfl tt_0 rfl rfl rfl rfl rfl rfl rfl hAC
    replace hRA : hv_RA h_11 qa w a0.toInt A := hv_RA_S hs hTo gqa gw tt_43 tt_0 rfl rfl rfl rfl rfl rfl ?o11 hRA
    case o11 => omega
    replace fo_9 := (hs.a gqp rfl _).2.trans fo_9
    replace af_qcl : h_11.2.1 qcl = clf := (funext fun j => (hs.a (gqcl.S hM) rfl j).1).trans af_qcl
    replace af_qwl : h_11.2.1 qwl = wlf := (funext fun j => (hs.a (gqwl.S hM) rfl j).1).trans af_qwl
    replace af_qws : h_11.2.1 qws = wsf := (funext fun j => (hs.a (gqws.S hM) rfl j).1).trans af_qws
    replace hM := hM.tr (hs.mono ?o12)
    case o12 => decide
    replace gx := gx.S hs
    replace gqp := gqp.S hs
    replace gqc := gqc.S hs
    replace gqa := gqa.S hs
    replace gw := gw.S hs
    replace gq_6 := gq_6.S hs
    refine hb_if_ne (zx := r_12.toInt) (tgt := 22) hx hb rfl dX9_plan_17 ?o13 (fun c_15 => ?_) (fun c_15 => ?_)
    case o13 => decide
    · skip
      replace hr_14 := hr_14.resolve_left (fun z9 => c_15 z9.1)
      replace c_15 := hr_14.1
      replace hr_14 := hr_14.2
      refine lv_aload_n hx hb dX9_plan_22 rfl (lv_at hl 1 rfl) ?_
      refine hk_getr hx hb hts hC_9 hown hW gx tt_9 17 ?o14 rfl kw_381 ⟨rfl, rfl, rfl⟩ f_x_17 dX9_plan_23 ?_
      case o14 => decide
      refine lv_iload_n hx hb dX9_plan_26 rfl (lv_at hl 3 rfl) ?_
      refine lv_aload_n hx hb dX9_plan_27 rfl (lv_at hl 0 rfl) ?_
      refine lv_aload_n hx hb dX9_plan_28 rfl (lv_at hl 1 rfl) ?_
      refine lv_aload_n hx hb dX9_plan_29 rfl (lv_at hl 1 rfl) ?_
      refine hk_geti hx hb hts hC_9 hown hW gx tt_9 2 ?o15 rfl kw_366 ⟨rfl, rfl, rfl⟩ f_x_2 dX9_plan_30 ?_
      case o15 => decide
      have hTo := hT
      refine hx_goq (hx_runV (As := [.int nw0]) (rest := [.ref q_6, .int i2, .ref qpg]) ⟨hx, hb, hml, hown, hts⟩ hW gx tt_9 (T := TX9) (N := 20) rfl (t_X9_inForce_v l dC dI dA L_10 h_11 H.size x nw0 hT gx qa gqa f_x_5 w gw f_x_4 a0 f_x_6 A hRA pf_x_6) (cwV 1 hts (hx_gV kw_597 kw_594 kw_596 kw_19 kw_94) rfl rfl rfl (by decide +kernel) ⟨Nat.le_of_ble_eq_true rfl, Nat.le_of_ble_eq_true rfl⟩) rfl hl.1 rfl (Nat.le_of_ble_eq_true rfl) dX9_plan_33 ⟨Nat.le_of_ble_eq_true rfl, Nat.le_of_ble_eq_true rfl⟩) hW (fun r_18 L_16 h_17 H locs p_19 hW => ?_)
      obtain ⟨hr_20, hT, hs⟩ := p_19
      replace hT : hx_T T_tb L_16 h_17 := hT
      replace hs : hx_S T_tb [] L_10 h_11 L_16 h_17 := hs
      replace f_x_7 := (hs.o gx trivial rfl).2.trans f_x_7
      replace f_x_10 := (hs.o gx trivial rfl).2.trans f_x_10
      replace f_x_14 := (hs.o gx trivial rfl).2.trans f_x_14
      replace f_x_5 := (hs.o gx trivial rfl).2.trans f_x_5
      replace f_x_4 := (hs.o gx trivial rfl).2.trans f_x_4
      replace f_x_17 := (hs.o gx trivial rfl).2.trans f_x_17
      replace f_x_11 := (hs.o gx trivial rfl).1.trans f_x_11
      replace f_x_2 := (hs.o gx trivial rfl).1.trans f_x_2
      replace f_x_8 := (hs.o gx trivial rfl).1.trans f_x_8
      replace f_x_6 := (hs.o gx trivial rfl).1.trans f_x_6
      replace f_qpg_1 := (hs.o (gqpg.S hM) trivial rfl).1.trans f_qpg_1
      replace pf_x_8 : ∀ j : Nat, (j : Int) < (h_17.2.1 x 8).toInt → h_17.2.2 qp j ≠ none := by
        intro j hj; rw [(hs.o gx trivial rfl).1] at hj; rw [(hs.a gqp rfl j).2]; exact pf_x_8 j hj
      replace pf_x_11 : ∀ j : Nat, (j : Int) < (h_17.2.1 x 11).toInt → h_17.2.2 qc j ≠ none := by
        intro j hj; rw [(hs.o gx trivial rfl).1] at hj; rw [(hs.a gqc rfl j).2]; exact pf_x_11 j hj
      replace pf_x_6 : ∀ j : Nat, (j : Int) < (h_17.2.1 x 6).toInt → h_17.2.2 qa j ≠ none := by
        intro j hj; rw [(hs.o gx trivial rfl).1] at hj; rw [(hs.a gqa rfl j).2]; exact pf_x_6 j hj
      replace cl_qc_13 : hx_col 100 h_17 qc 13 = odf := (hx_col_S hs hTo gqc tt_45 tt_2 rfl rfl).trans cl_qc_13
      replace cl_qc_14 : hx_col 100 h_17 qc 14 = wkf := (hx_col_S hs hTo gqc tt_45 tt_2 rfl rfl).trans cl_qc_14
      replace cl_qc_15 : hx_col 100 h_17 qc 15 = owf := (hx_col_S hs hTo gqc tt_45 tt_2 rfl rfl).trans cl_qc_15
      replace cl_qc_16 : hx_col 100 h_17 qc 16 = szf := (hx_col_S hs hTo gqc tt_45 tt_2 rfl rfl).trans cl_qc_16
      replace cl_qc_17 : hx_col 100 h_17 qc 17 = gdf := (hx_col_S hs hTo gqc tt_45 tt_2 rfl rfl).trans cl_qc_17
      replace cl_qc_18 : hx_col 100 h_17 qc 18 = svf := (hx_col_S hs hTo gqc tt_45 tt_2 rfl rfl).trans cl_qc_18
      replace cl_qp_3 : hx_col 40 h_17 qp 3 = eaf := (hx_col_S hs hTo gqp tt_44 tt_4 rfl rfl).trans cl_qp_3
      replace cl_qp_4 : hx_col 40 h_17 qp 4 = hdf := (hx_col_S hs hTo gqp tt_44 tt_4 rfl rfl).trans cl_qp_4
      replace nu_qp : hx_num 40 h_17 qp 0 (pn0.toInt) := hx_num_S hs hTo gqp tt_44 tt_4 rfl rfl nu_qp
      replace nu_qc : hx_num 100 h_17 qc 0 (cn0.toInt) := hx_num_S hs hTo gqc tt_45 tt_2 rfl rfl nu_qc
      replace hDF : hw_DF h_17 qc qp 2 agf cn0.toInt := hw_DF_S hs hTo gqc gqp tt_45 tt_2 rfl rfl rfl hDF
      replace hAC : hv_AC h_17 qc plf cn0.toInt A := hv_AC_S hs hTo gqc tt_45 tt_2 rfl tt_0 rfl rfl rfl rfl rfl rfl rfl hAC
      replace hRA : hv_RA h_17 qa w a0.toInt A := hv_RA_S hs hTo gqa gw tt_43 tt_0 rfl rfl rfl rfl rfl rfl ?o16 hRA
      case o16 => omega
      replace fo_9 := (hs.a gqp rfl _).2.trans fo_9
      replace af_qcl : h_17.2.1 qcl = clf := (funext fun j => (hs.a (gqcl.S hM) rfl j).1).trans af_qcl
      replace af_qwl : h_17.2.1 qwl = wlf := (funext fun j => (hs.a (gqwl.S hM) rfl j).1).trans af_qwl
      replace af_qws : h_17.2.1 qws = wsf := (funext fun j => (hs.a (gqws.S hM) rfl j).1).trans af_qws
      replace hM := hM.tr (hs.mono ?o17)
      case o17 => decide
      replace gx := gx.S hs
      replace gqp := gqp.S hs
      replace gqc := gqc.S hs
      replace gqa := gqa.S hs
      replace gw := gw.S hs
      replace gq_6 := gq_6.S hs
      obtain ⟨q_21, rfl, gq_21, hr_20B⟩ := hr_20
      have gq_21 : hx_g L_16 h_17 q_21 0 := gq_21
      obtain ⟨kk_22, kk_22E, kk_22Q⟩ := hr_20B
      have kk_22Q : hv_AQ h_17 q_21 (((kk_22 : Nat) : Int) - 1) (A kk_22) := kk_22Q
      obtain ⟨fv_23, efv_23⟩ : ∃ y : Int32, y = h_17.2.1 q_6 3 := ⟨_, rfl⟩
      have bfv_23 := hT.gi gq_6 tt_4 (k := 3) rfl
      rw [← efv_23] at bfv_23
      have bfv_23 : -2147483648 ≤ fv_23.toInt ∧ fv_23.toInt ≤ 2147483647 := bfv_23
      have ffv_23 := efv_23.symm
      have cea9 : fv_23 = eaf i1.toInt.toNat := ?o18
      case o18 =>
        rw [← ffv_23, ← cl_qp_3]
        exact (hx_col_at fo_9 (by unfold Int32.toNatClampNeg; omega)).symm
      obtain ⟨fv_24, efv_24⟩ : ∃ y : Int32, y = h_17.2.1 q_6 4 := ⟨_, rfl⟩
      have bfv_24 := hT.gi gq_6 tt_4 (k := 4) rfl
      rw [← efv_24] at bfv_24
      have bfv_24 : -2147483648 ≤ fv_24.toInt ∧ fv_24.toInt ≤ 2147483647 := bfv_24
      have ffv_24 := efv_24.symm
      have chd9 : fv_24 = hdf i1.toInt.toNat := ?o19
      case o19 =>
        rw [← ffv_24, ← cl_qp_4]
        exact (hx_col_at fo_9 (by unfold Int32.toNatClampNeg; omega)).symm
      have heb9 := hee i1.toInt.toNat (by omega); rw [← cea9, ← chd9] at heb9; obtain ⟨⟨he1, he2⟩, ⟨he3, he4⟩⟩ := heb9
      have hTo := hT
      obtain ⟨q_25, fq_25, gq_25⟩ := hv_rf hT gq_21 tt_0 (k := 2) (u := 11) rfl
      obtain ⟨fa_26, nfa_26⟩ : ∃ g : Nat → Int32, h_17.2.1 q_25 = g := ⟨_, rfl⟩
      refine hx_goi (hx_runV (As := [.ref q_21]) (rest := [.int i2, .ref qpg]) ⟨hx, hb, hml, hown, hts⟩ hW gq_6 tt_4 (T := TX4) (N := 10) rfl (t_X4_meansBy_v l dC dI dA L_16 h_17 H.size q_6 q_21 hT gq_6 gq_21 q_25 gq_25 fq_25 fa_26 nfa_26 fv_23 ffv_23 fv_24 ffv_24 (A kk_22).2.1 (by rw [← nfa_26]; exact kk_22Q.2.2.1 _ fq_25) (hAB _).1 ⟨?o20, ?o21⟩ ⟨?o22, ?o23⟩) (cwV 1 hts (hx_gV kw_887 kw_884 kw_885 kw_886 kw_108) rfl rfl rfl (by decide +kernel) ⟨Nat.le_of_ble_eq_true rfl, Nat.le_of_ble_eq_true rfl⟩) rfl hl.1 rfl (Nat.le_of_ble_eq_true rfl) dX9_plan_36 ⟨Nat.le_of_ble_eq_true rfl, Nat.le_of_ble_eq_true rfl⟩) hW (fun r_29 L_27 h_28 H locs p_30 hW => ?_)
      case o20 => omega
      case o21 => omega
      case o22 => omega
      case o23 => omega
      obtain ⟨hr_31, hT, hs⟩ := p_30
      replace hT : hx_T T_tb L_27 h_28 := hT
      replace hs : hx_S T_tb [] L_16 h_17 L_27 h_28 := hs
      replace f_x_7 := (hs.o gx trivial rfl).2.trans f_x_7
      replace f_x_10 := (hs.o gx trivial rfl).2.trans f_x_10
      replace f_x_14 := (hs.o gx trivial rfl).2.trans f_x_14
      replace f_x_5 := (hs.o gx trivial rfl).2.trans f_x_5
      replace f_x_4 := (hs.o gx trivial rfl).2.trans f_x_4
      replace f_x_17 := (hs.o gx trivial rfl).2.trans f_x_17
      replace f_x_11 := (hs.o gx trivial rfl).1.trans f_x_11
      replace f_x_2 := (hs.o gx trivial rfl).1.trans f_x_2
      replace f_x_8 := (hs.o gx trivial rfl).1.trans f_x_8
      replace f_x_6 := (hs.o gx trivial rfl).1.trans f_x_6
      replace f_qpg_1 := (hs.o (gqpg.S hM) trivial rfl).1.trans f_qpg_1
      replace ffv_23 := (hs.o gq_6 trivial rfl).1.trans ffv_23
      replace ffv_24 := (hs.o gq_6 trivial rfl).1.trans ffv_24
      replace fq_25 := (hs.o gq_21 trivial rfl).2.trans fq_25
      replace pf_x_8 : ∀ j : Nat, (j : Int) < (h_28.2.1 x 8).toInt → h_28.2.2 qp j ≠ none := by
        intro j hj; rw [(hs.o gx trivial rfl).1] at hj; rw [(hs.a gqp rfl j).2]; exact pf_x_8 j hj
      replace pf_x_11 : ∀ j : Nat, (j : Int) < (h_28.2.1 x 11).toInt → h_28.2.2 qc j ≠ none := by
        intro j hj; rw [(hs.o gx trivial rfl).1] at hj; rw [(hs.a gqc rfl j).2]; exact pf_x_11 j hj
      replace pf_x_6 : ∀ j : Nat, (j : Int) < (h_28.2.1 x 6).toInt → h_28.2.2 qa j ≠ none := by
        intro j hj; rw [(hs.o gx trivial rfl).1] at hj; rw [(hs.a gqa rfl j).2]; exact pf_x_6 j hj
      replace cl_qc_13 : hx_col 100 h_28 qc 13 = odf := (hx_col_S hs hTo gqc tt_45 tt_2 rfl rfl).trans cl_qc_13
      replace cl_qc_14 : hx_col 100 h_28 qc 14 = wkf := (hx_col_S hs hTo gqc tt_45 tt_2 rfl rfl).trans cl_qc_14
      replace cl_qc_15 : hx_col 100 h_28 qc 15 = owf := (hx_col_S hs hTo gqc tt_45 tt_2 rfl rfl).trans cl_qc_15
      replace cl_qc_16 : hx_col 100 h_28 qc 16 = szf := (hx_col_S hs hTo gqc tt_45 tt_2 rfl rfl).trans cl_qc_16
      replace cl_qc_17 : hx_col 100 h_28 qc 17 = gdf := (hx_col_S hs hTo gqc tt_45 tt_2 rfl rfl).trans cl_qc_17
      replace cl_qc_18 : hx_col 100 h_28 qc 18 = svf := (hx_col_S hs hTo gqc tt_45 tt_2 rfl rfl).trans cl_qc_18
      replace cl_qp_3 : hx_col 40 h_28 qp 3 = eaf := (hx_col_S hs hTo gqp tt_44 tt_4 rfl rfl).trans cl_qp_3
      replace cl_qp_4 : hx_col 40 h_28 qp 4 = hdf := (hx_col_S hs hTo gqp tt_44 tt_4 rfl rfl).trans cl_qp_4
      replace nu_qp : hx_num 40 h_28 qp 0 (pn0.toInt) := hx_num_S hs hTo gqp tt_44 tt_4 rfl rfl nu_qp
      replace nu_qc : hx_num 100 h_28 qc 0 (cn0.toInt) := hx_num_S hs hTo gqc tt_45 tt_2 rfl rfl nu_qc
      replace hDF : hw_DF h_28 qc qp 2 agf cn0.toInt := hw_DF_S hs hTo gqc gqp tt_45 tt_2 rfl rfl rfl hDF
      replace hAC : hv_AC h_28 qc plf cn0.toInt A := hv_AC_S hs hTo gqc tt_45 tt_2 rfl tt_0 rfl rfl rfl rfl rfl rfl rfl hAC
      replace hRA : hv_RA h_28 qa w a0.toInt A := hv_RA_S hs hTo gqa gw tt_43 tt_0 rfl rfl rfl rfl rfl rfl ?o24 hRA
      case o24 => omega
      replace kk_22Q : hv_AQ h_28 q_21 (((kk_22 : Nat) : Int) - 1) (A kk_22) := hv_AQ_S hs hTo gq_21 tt_0 rfl rfl rfl rfl rfl kk_22Q
      replace fo_9 := (hs.a gqp rfl _).2.trans fo_9
      replace af_qcl : h_28.2.1 qcl = clf := (funext fun j => (hs.a (gqcl.S hM) rfl j).1).trans af_qcl
      replace af_qwl : h_28.2.1 qwl = wlf := (funext fun j => (hs.a (gqwl.S hM) rfl j).1).trans af_qwl
      replace af_qws : h_28.2.1 qws = wsf := (funext fun j => (hs.a (gqws.S hM) rfl j).1).trans af_qws
      replace nfa_26 : h_28.2.1 q_25 = fa_26 := (funext fun j => (hs.a gq_25 rfl j).1).trans nfa_26
      replace hM := hM.tr (hs.mono ?o25)
      case o25 => decide
      replace gx := gx.S hs
      replace gqp := gqp.S hs
      replace gqc := gqc.S hs
      replace gqa := gqa.S hs
      replace gw := gw.S hs
      replace gq_6 := gq_6.S hs
      replace gq_21 := gq_21.S hs
      replace gq_25 := gq_25.S hs
      have hme9 : r_29.toInt = ((eaf i1.toInt.toNat).toInt - (A (hv_IF A nw0.toInt a0.toInt.toNat)).2.1 3 * (hdf i1.toInt.toNat).toInt) := ?o26
      case o26 => rw [hr_31.1, cea9, chd9, kk_22E]
      have hTo := hT
      refine hx_gov (hx_runV (As := [.int i2, .int r_29]) (rest := []) ⟨hx, hb, hml, hown, hts⟩ hW (gqpg.S hM) tt_5 (T := TX5) (N := 13) rfl (t_X5_clear_v l dC dI dA L_27 h_28 H.size qpg i2 r_29 hT (gqpg.S hM)) (cwV 2 hts (hx_gV kw_951 kw_948 kw_949 kw_950 kw_100) rfl rfl rfl (by decide +kernel) ⟨Nat.le_of_ble_eq_true rfl, Nat.le_of_ble_eq_true rfl⟩) rfl hl.1 rfl (Nat.le_of_ble_eq_true rfl) dX9_plan_39 ⟨Nat.le_of_ble_eq_true rfl, Nat.le_of_ble_eq_true rfl⟩) hW (fun L_32 h_33 H locs p_35 hW => ?_)
      obtain ⟨⟨w_37, w_38, w_39, fw_37, fw_38, fw_39, hr_36⟩, hT, hs⟩ := p_35
      replace hT : hx_T T_tb L_32 h_33 := hT
      replace hs : hx_S T_tb [(5, 0), (5, 9), (5, 10)] L_27 h_28 L_32 h_33 := hs
      replace f_x_7 := (hs.o gx trivial rfl).2.trans f_x_7
      replace f_x_10 := (hs.o gx trivial rfl).2.trans f_x_10
      replace f_x_14 := (hs.o gx trivial rfl).2.trans f_x_14
      replace f_x_5 := (hs.o gx trivial rfl).2.trans f_x_5
      replace f_x_4 := (hs.o gx trivial rfl).2.trans f_x_4
      replace f_x_17 := (hs.o gx trivial rfl).2.trans f_x_17
      replace f_x_11 := (hs.o gx trivial rfl).1.trans f_x_11
      replace f_x_2 := (hs.o gx trivial rfl).1.trans f_x_2
      replace f_x_8 := (hs.o gx trivial rfl).1.trans f_x_8
      replace f_x_6 := (hs.o gx trivial rfl).1.trans f_x_6
      replace f_qpg_1 := (hs.o (gqpg.S hM) trivial rfl).1.trans f_qpg_1
      replace ffv_23 := (hs.o gq_6 trivial rfl).1.trans ffv_23
      replace ffv_24 := (hs.o gq_6 trivial rfl).1.trans ffv_24
      replace fq_25 := (hs.o gq_21 trivial rfl).2.trans fq_25
      replace pf_x_8 : ∀ j : Nat, (j : Int) < (h_33.2.1 x 8).toInt → h_33.2.2 qp j ≠ none := by
        intro j hj; rw [(hs.o gx trivial rfl).1] at hj; rw [(hs.a gqp rfl j).2]; exact pf_x_8 j hj
      replace pf_x_11 : ∀ j : Nat, (j : Int) < (h_33.2.1 x 11).toInt → h_33.2.2 qc j ≠ none := by
        intro j hj; rw [(hs.o gx trivial rfl).1] at hj; rw [(hs.a gqc rfl j).2]; exact pf_x_11 j hj
      replace pf_x_6 : ∀ j : Nat, (j : Int) < (h_33.2.1 x 6).toInt → h_33.2.2 qa j ≠ none := by
        intro j hj; rw [(hs.o gx trivial rfl).1] at hj; rw [(hs.a gqa rfl j).2]; exact pf_x_6 j hj
      replace cl_qc_13 : hx_col 100 h_33 qc 13 = odf := (hx_col_S hs hTo gqc tt_45 tt_2 rfl rfl).trans cl_qc_13
      replace cl_qc_14 : hx_col 100 h_33 qc 14 = wkf := (hx_col_S hs hTo gqc tt_45 tt_2 rfl rfl).trans cl_qc_14
      replace cl_qc_15 : hx_col 100 h_33 qc 15 = owf := (hx_col_S hs hTo gqc tt_45 tt_2 rfl rfl).trans cl_qc_15
      replace cl_qc_16 : hx_col 100 h_33 qc 16 = szf := (hx_col_S hs hTo gqc tt_45 tt_2 rfl rfl).trans cl_qc_16
      replace cl_qc_17 : hx_col 100 h_33 qc 17 = gdf := (hx_col_S hs hTo gqc tt_45 tt_2 rfl rfl).trans cl_qc_17
      replace cl_qc_18 : hx_col 100 h_33 qc 18 = svf := (hx_col_S hs hTo gqc tt_45 tt_2 rfl rfl).trans cl_qc_18
      replace cl_qp_3 : hx_col 40 h_33 qp 3 = eaf := (hx_col_S hs hTo gqp tt_44 tt_4 rfl rfl).trans cl_qp_3
      replace cl_qp_4 : hx_col 40 h_33 qp 4 = hdf := (hx_col_S hs hTo gqp tt_44 tt_4 rfl rfl).trans cl_qp_4
      replace nu_qp : hx_num 40 h_33 qp 0 (pn0.toInt) := hx_num_S hs hTo gqp tt_44 tt_4 rfl rfl nu_qp
      replace nu_qc : hx_num 100 h_33 qc 0 (cn0.toInt) := hx_num_S hs hTo gqc tt_45 tt_2 rfl rfl nu_qc
      replace hDF : hw_DF h_33 qc qp 2 agf cn0.toInt := hw_DF_S hs hTo gqc gqp tt_45 tt_2 rfl rfl rfl hDF
      replace hAC : hv_AC h_33 qc plf cn0.toInt A := hv_AC_S hs hTo gqc tt_45 tt_2 rfl tt_0 rfl rfl rfl rfl rfl rfl rfl hAC
      replace hRA : hv_RA h_33 qa w a0.toInt A := hv_RA_S hs hTo gqa gw tt_43 tt_0 rfl rfl rfl rfl rfl rfl ?o27 hRA
      case o27 => omega
      replace kk_22Q : hv_AQ h_33 q_21 (((kk_22 : Nat) : Int) - 1) (A kk_22) := hv_AQ_S hs hTo gq_21 tt_0 rfl rfl rfl rfl rfl kk_22Q
      replace fo_9 := (hs.a gqp rfl _).2.trans fo_9
      replace af_qcl : h_33.2.1 qcl = clf := (funext fun j => (hs.a (gqcl.S hM) rfl j).1).trans af_qcl
      replace af_qwl : h_33.2.1 qwl = wlf := (funext fun j => (hs.a (gqwl.S hM) rfl j).1).trans af_qwl
      replace af_qws : h_33.2.1 qws = wsf := (funext fun j => (hs.a (gqws.S hM) rfl j).1).trans af_qws
      replace nfa_26 : h_33.2.1 q_25 = fa_26 := (funext fun j => (hs.a gq_25 rfl j).1).trans nfa_26
      replace hM := hM.tr (hs.mono ?o28)
      case o28 => decide
      replace gx := gx.S hs
      replace gqp := gqp.S hs
      replace gqc := gqc.S hs
      replace gqa := gqa.S hs
      replace gw := gw.S hs
      replace gq_6 := gq_6.S hs
      replace gq_21 := gq_21.S hs
      replace gq_25 := gq_25.S hs
      have fw_37 : h_33.2.1 qpg 0 = w_37 := fw_37
      have bw_37 := hT.gi (gqpg.S hM) tt_5 (k := 0) rfl
      rw [fw_37] at bw_37
      have bw_37 : 0 ≤ w_37.toInt ∧ w_37.toInt ≤ 4 := bw_37
      have fw_38 : h_33.2.1 qpg 9 = w_38 := fw_38
      have bw_38 := hT.gi (gqpg.S hM) tt_5 (k := 9) rfl
      rw [fw_38] at bw_38
      have bw_38 : -2147483648 ≤ w_38.toInt ∧ w_38.toInt ≤ 2147483647 := bw_38
      have fw_39 : h_33.2.1 qpg 10 = w_39 := fw_39
      have bw_39 := hT.gi (gqpg.S hM) tt_5 (k := 10) rfl
      rw [fw_39] at bw_39
      have bw_39 : -2147483648 ≤ w_39.toInt ∧ w_39.toInt ≤ 2147483647 := bw_39
      refine lv_iconst (v := 0) hx hb dX9_plan_42 ?o29 ?_
      case o29 => decide
      refine lv_istore (lv' := [(4, .int (0 : Int32)), (3, .ref q_6), (0, .ref x), (1, .int i1), (2, .int i2)]) hx hb dX9_plan_43 hl ?o30 rfl (fun ls hl => ?_)
      case o30 => decide
      obtain ⟨fa_40, nfa_40⟩ : ∃ g : Nat → Int32, h_33.2.1 qop = g := ⟨_, rfl⟩
      obtain ⟨fa_41, nfa_41⟩ : ∃ g : Nat → Int32, h_33.2.1 qre = g := ⟨_, rfl⟩
      obtain ⟨fa_42, nfa_42⟩ : ∃ g : Nat → Int32, h_33.2.1 qle = g := ⟨_, rfl⟩
      have loop45 : ∀ (n45 : Nat) (iv45_4 fw45_qpg_0 : Int32) (ia45_qop ia45_qre ia45_qle : Nat → Int32) (H : Heap) (locs : List Loc) (hL1 : List Nat) (hl1 : hx_h), 0 ≤ iv45_4.toInt → iv45_4.toInt ≤ 100 → 0 ≤ fw45_qpg_0.toInt → fw45_qpg_0.toInt ≤ 4 → (hp_OQ agf (hz_Rn odf szf gdf owf svf (hz_rc A plf) pof pdf psm pkf pst nw0.toInt n0.toInt.toNat) (fun c9 => (A (plf c9).toInt.toNat).2.1 2) i1.toInt (iv45_4.toInt).toNat ia45_qop ia45_qre ia45_qle ∧ fw45_qpg_0.toInt = ((hp_ol agf (hz_Rn odf szf gdf owf svf (hz_rc A plf) pof pdf psm pkf pst nw0.toInt n0.toInt.toNat) i1.toInt (iv45_4.toInt).toNat).length : Int)) → (iv45_4.toInt ≤ cn0.toInt) → ∀ (ls : Array Slot), 100 - iv45_4.toInt < (n45 : Int) → hx_W T_tb (P_ty dA) (dC, dI) vwCl (hx_A L sz) s.heap hL1 hl1 s H locs → hx_T T_tb hL1 hl1 → hx_S T_tb [(5, 0), (5, 1), (5, 9), (5, 10), (5, 11), (5, 12), (27, 0), (28, 0), (29, 0), (30, 0), (31, 0), (32, 0), (33, 0)] L h hL1 hl1 → hl1.2.1 qpg 0 = fw45_qpg_0 → hl1.2.2 x 7 = some qp → hl1.2.2 x 10 = some qc → hl1.2.2 x 14 = some qy → hl1.2.2 x 5 = some qa → hl1.2.2 x 4 = some w → hl1.2.2 x 17 = some qpg → hl1.2.1 x 11 = cn0 → hl1.2.1 x 2 = nw0 → hl1.2.1 x 8 = pn0 → hl1.2.1 x 6 = a0 → hl1.2.1 qpg 1 = td0 → hl1.2.1 q_6 3 = fv_23 → hl1.2.1 q_6 4 = fv_24 → hl1.2.2 q_21 2 = some q_25 → hl1.2.1 qpg 9 = w_38 → hl1.2.1 qpg 10 = w_39 → hx_g hL1 hl1 x 9 → hx_g hL1 hl1 qp 44 → hx_g hL1 hl1 qc 45 → hx_g hL1 hl1 qa 43 → hx_g hL1 hl1 w 0 → hx_g hL1 hl1 q_6 4 → hx_g hL1 hl1 q_21 0 → hx_g hL1 hl1 q_25 11 → (∀ j : Nat, (j : Int) < (hl1.2.1 x 8).toInt → hl1.2.2 qp j ≠ none) → (∀ j : Nat, (j : Int) < (hl1.2.1 x 11).toInt → hl1.2.2 qc j ≠ none) → (∀ j : Nat, (j : Int) < (hl1.2.1 x 6).toInt → hl1.2.2 qa j ≠ none) → hl1.2.1 qop = ia45_qop → hl1.2.1 qre = ia45_qre → hl1.2.1 qle = ia45_qle → hl1.2.1 qcl = clf → hl1.2.1 qwl = wlf → hl1.2.1 qws = wsf → hl1.2.1 q_25 = fa_26 → hx_col 100 hl1 qc 13 = odf → hx_col 100 hl1 qc 14 = wkf → hx_col 100 hl1 qc 15 = owf → hx_col 100 hl1 qc 16 = szf → hx_col 100 hl1 qc 17 = gdf → hx_col 100 hl1 qc 18 = svf → hx_col 40 hl1 qp 3 = eaf → hx_col 40 hl1 qp 4 = hdf → hx_num 40 hl1 qp 0 (pn0.toInt) → hx_num 100 hl1 qc 0 (cn0.toInt) → hl1.2.2 qp i1.toNatClampNeg = some q_6 → hw_DF hl1 qc qp 2 agf cn0.toInt → hv_AC hl1 qc plf cn0.toInt A → hv_RA hl1 qa w a0.toInt A → hv_AQ hl1 q_21 (((kk_22 : Nat) : Int) - 1) (A kk_22) → lv_has ls 6 [(4, .int iv45_4), (3, .ref q_6), (0, .ref x), (1, .int i1), (2, .int i2)] → W p l e ({ frames := 8, cells := 0, slots := 0, locals := 223 }) s m ([.ref x, .int i1, .int i2] : List Value).toArray below meth c H locs 0 0 (MQ below (va_Qi (fun (r : Int32) (u : List Nat × hx_h) => (∃ (td1 : Int32) (clf1 : Nat → Int32) (wlf1 : Nat → Int32) (wsf1 : Nat → Int32), u.2.2.1 qpg 1 = td1 ∧ u.2.2.1 qcl = clf1 ∧ u.2.2.1 qwl = wlf1 ∧ u.2.2.1 qws = wsf1 ∧ (hp_PS ((0 ≤ i1.toInt ∧ i1.toInt < pn0.toInt) ∧ 1 ≤ i2.toInt ∧ i2.toInt ≤ 99) (hp_ol agf (hz_Rn odf szf gdf owf svf (hz_rc A plf) pof pdf psm pkf pst nw0.toInt n0.toInt.toNat) i1.toInt cn0.toInt.toNat).length (hp_ge (hp_ol agf (hz_Rn odf szf gdf owf svf (hz_rc A plf) pof pdf psm pkf pst nw0.toInt n0.toInt.toNat) i1.toInt cn0.toInt.toNat)) (fun c9 => hz_mi ((fun c9 => (A (plf c9).toInt.toNat).2.1 2) (hp_ge (hp_ol agf (hz_Rn odf szf gdf owf svf (hz_rc A plf) pof pdf psm pkf pst nw0.toInt n0.toInt.toNat) i1.toInt cn0.toInt.toNat) c9)) ((hz_Rn odf szf gdf owf svf (hz_rc A plf) pof pdf psm pkf pst nw0.toInt n0.toInt.toNat) (hp_ge (hp_ol agf (hz_Rn odf szf gdf owf svf (hz_rc A plf) pof pdf psm pkf pst nw0.toInt n0.toInt.toNat) i1.toInt cn0.toInt.toNat) c9))) (fun c9 => (hz_Rn odf szf gdf owf svf (hz_rc A plf) pof pdf psm pkf pst nw0.toInt n0.toInt.toNat) (hp_ge (hp_ol agf (hz_Rn odf szf gdf owf svf (hz_rc A plf) pof pdf psm pkf pst nw0.toInt n0.toInt.toNat) i1.toInt cn0.toInt.toNat) c9)) i2.toInt ((eaf i1.toInt.toNat).toInt - (A (hv_IF A nw0.toInt a0.toInt.toNat)).2.1 3 * (hdf i1.toInt.toNat).toInt) r.toInt td0.toInt td1.toInt clf clf1 wlf wlf1 wsf wsf1)) ∧ hx_T T_tb u.1 u.2 ∧ hx_S T_tb [(5, 0), (5, 1), (5, 9), (5, 10), (5, 11), (5, 12), (27, 0), (28, 0), (29, 0), (30, 0), (31, 0), (32, 0), (33, 0)] L h u.1 u.2) (hx_E T_tb (P_ty dA) (dC, dI) vwCl (hx_A L sz)) (hx_A L sz)) ([.ref x, .int i1, .int i2] : List Value).toArray s 0 0 (hx_A L sz)) (F0 m 45 ls []) := by
        intro n45
        induction n45 with
        | zero => intro iv45_4 fw45_qpg_0 ia45_qop ia45_qre ia45_qle H locs hL1 hl1 bliv45_4 buiv45_4 blfw45_qpg_0 bufw45_qpg_0 vi45_0 vi45_1 ls hn45; exfalso; omega
        | succ n45 ih45 =>
          intro iv45_4 fw45_qpg_0 ia45_qop ia45_qre ia45_qle H locs hL1 hl1 bliv45_4 buiv45_4 blfw45_qpg_0 bufw45_qpg_0 vi45_0 vi45_1 ls hn45 hW hT hM ffw45_qpg_0 f_x_7 f_x_10 f_x_14 f_x_5 f_x_4 f_x_17 f_x_11 f_x_2 f_x_8 f_x_6 f_qpg_1 ffv_23 ffv_24 fq_25 fw_38 fw_39 gx gqp gqc gqa gw gq_6 gq_21 gq_25 pf_x_8 pf_x_11 pf_x_6 nia45_qop nia45_qre nia45_qle af_qcl af_qwl af_qws nfa_26 cl_qc_13 cl_qc_14 cl_qc_15 cl_qc_16 cl_qc_17 cl_qc_18 cl_qp_3 cl_qp_4 nu_qp nu_qc fo_9 hDF hAC hRA kk_22Q hl
          refine lv_iload hx hb dX9_plan_45 (lv_at hl 0 rfl) ?_
          refine lv_aload_n hx hb dX9_plan_47 rfl (lv_at hl 2 rfl) ?_
          refine hk_geti hx hb hts hC_9 hown hW gx tt_9 11 ?o31 rfl kw_375 ⟨rfl, rfl, rfl⟩ f_x_11 dX9_plan_48 ?_
          case o31 => decide
          refine hb_icmp_ge (zx := iv45_4.toInt) (zy := cn0.toInt) (tgt := 133) hx hb rfl rfl dX9_plan_51 ?o32 (fun c_43 => ?_) (fun c_43 => ?_)
          case o32 => decide
          · skip
            obtain ⟨hOQ9, hol9⟩ := vi45_0; rw [show iv45_4.toInt.toNat = cn0.toInt.toNat by omega] at hOQ9 hol9
            have hme8 : w_39.toInt = ((eaf i1.toInt.toNat).toInt - (A (hv_IF A nw0.toInt a0.toInt.toNat)).2.1 3 * (hdf i1.toInt.toNat).toInt) := ?o33
            case o33 =>
              rw [hr_36.2.2]
              exact hme9
            have hun8 : w_38.toInt = i2.toInt := congrArg Int32.toInt hr_36.2.1
            have hob9 : ∀ i : Nat, (i : Int) < fw45_qpg_0.toInt → hp_ge (hp_ol agf (hz_Rn odf szf gdf owf svf (hz_rc A plf) pof pdf psm pkf pst nw0.toInt n0.toInt.toNat) i1.toInt cn0.toInt.toNat) i < cn0.toInt.toNat ∧ 0 < (hz_Rn odf szf gdf owf svf (hz_rc A plf) pof pdf psm pkf pst nw0.toInt n0.toInt.toNat) (hp_ge (hp_ol agf (hz_Rn odf szf gdf owf svf (hz_rc A plf) pof pdf psm pkf pst nw0.toInt n0.toInt.toNat) i1.toInt cn0.toInt.toNat) i) := fun i hi => hp_ol_b _ i ?o34
            case o34 => omega
            refine lv_aload_n hx hb dX9_plan_133 rfl (lv_at hl 2 rfl) ?_
            refine hk_getr hx hb hts hC_9 hown hW gx tt_9 17 ?o35 rfl kw_381 ⟨rfl, rfl, rfl⟩ f_x_17 dX9_plan_134 ?_
            case o35 => decide
            have hTo := hT
            obtain ⟨fa_44, nfa_44⟩ : ∃ g : Nat → Int32, hl1.2.1 qtd = g := ⟨_, rfl⟩
            refine hx_goi (hx_runVX (As := []) (rest := []) ⟨hx, hb, hml, hown, hts⟩ hW (gqpg.S hM) tt_5 (T := TX5) (N := 13) rfl (t_X5_settle_v l dC dI dA hL1 hl1 H.size b0 qpg hT (gqpg.S hM) qle (gqle.S hM) ((hM.o gqpg trivial rfl).2.trans f_qpg_7) qre (gqre.S hM) ((hM.o gqpg trivial rfl).2.trans f_qpg_6) qtd (gqtd.S hM) ((hM.o gqpg trivial rfl).2.trans f_qpg_8) qwl (gqwl.S hM) ((hM.o gqpg trivial rfl).2.trans f_qpg_3) qop (gqop.S hM) ((hM.o gqpg trivial rfl).2.trans f_qpg_5) qws (gqws.S hM) ((hM.o gqpg trivial rfl).2.trans f_qpg_4) qcl (gqcl.S hM) ((hM.o gqpg trivial rfl).2.trans f_qpg_2) ia45_qle nia45_qle ia45_qre nia45_qre fa_44 nfa_44 wlf af_qwl ia45_qop nia45_qop wsf af_qws clf af_qcl fw45_qpg_0 ffw45_qpg_0 w_38 fw_38 w_39 fw_39 td0 f_qpg_1 (fun c9 => hz_mi ((fun c9 => (A (plf c9).toInt.toNat).2.1 2) (hp_ge (hp_ol agf (hz_Rn odf szf gdf owf svf (hz_rc A plf) pof pdf psm pkf pst nw0.toInt n0.toInt.toNat) i1.toInt cn0.toInt.toNat) c9)) ((hz_Rn odf szf gdf owf svf (hz_rc A plf) pof pdf psm pkf pst nw0.toInt n0.toInt.toNat) (hp_ge (hp_ol agf (hz_Rn odf szf gdf owf svf (hz_rc A plf) pof pdf psm pkf pst nw0.toInt n0.toInt.toNat) i1.toInt cn0.toInt.toNat) c9))) (fun i hi => (hOQ9 i ?o36).2.2) (fun i hi => by have h8 := hob9 i hi; have h7 := hwk9 _ h8.1; have h6 := (hAB (plf (hp_ge (hp_ol agf (hz_Rn odf szf gdf owf svf (hz_rc A plf) pof pdf psm pkf pst nw0.toInt n0.toInt.toNat) i1.toInt cn0.toInt.toNat) i)).toInt.toNat).1 2; show 1 ≤ hz_mi _ _ ∧ hz_mi _ _ ≤ 9999; unfold hz_mi; dsimp only; split <;> omega) (fun c9 => (hz_Rn odf szf gdf owf svf (hz_rc A plf) pof pdf psm pkf pst nw0.toInt n0.toInt.toNat) (hp_ge (hp_ol agf (hz_Rn odf szf gdf owf svf (hz_rc A plf) pof pdf psm pkf pst nw0.toInt n0.toInt.toNat) i1.toInt cn0.toInt.toNat) c9)) (fun i hi => (hOQ9 i ?o37).2.1) (fun i hi => ⟨(hob9 i hi).2, (hrn _ (hob9 i hi).1).2⟩) ⟨?o38, ?o39⟩ ?o40 (hp_ge (hp_ol agf (hz_Rn odf szf gdf owf svf (hz_rc A plf) pof pdf psm pkf pst nw0.toInt n0.toInt.toNat) i1.toInt cn0.toInt.toNat)) (fun i hi => (hOQ9 i ?o41).1)) hZ (cwV 0 hts (hx_gV kw_960 kw_957 kw_958 kw_959 kw_100) rfl rfl rfl (by decide +kernel) ⟨Nat.le_of_ble_eq_true rfl, Nat.le_of_ble_eq_true rfl⟩) rfl hl.1 rfl (Nat.le_of_ble_eq_true rfl) dX9_plan_137 ⟨Nat.le_of_ble_eq_true rfl, Nat.le_of_ble_eq_true rfl⟩) hW (fun r_47 L_45 h_46 H locs p_48 hW => ?_)
            case o36 => omega
            case o37 => omega
            case o38 => omega
            case o39 => omega
            case o40 => omega
            case o41 => omega
            obtain ⟨⟨w_50, w_51, w_52, w_53, fw_50, fw_51, fw_52, fw_53, hr_49⟩, hT, hs⟩ := p_48
            replace hT : hx_T T_tb L_45 h_46 := hT
            replace hs : hx_S T_tb [(5, 1), (5, 11), (5, 12), (27, 0), (28, 0), (29, 0), (33, 0)] hL1 hl1 L_45 h_46 := hs
            replace f_x_7 := (hs.o gx trivial rfl).2.trans f_x_7
            replace f_x_10 := (hs.o gx trivial rfl).2.trans f_x_10
            replace f_x_14 := (hs.o gx trivial rfl).2.trans f_x_14
            replace f_x_5 := (hs.o gx trivial rfl).2.trans f_x_5
            replace f_x_4 := (hs.o gx trivial rfl).2.trans f_x_4
            replace f_x_17 := (hs.o gx trivial rfl).2.trans f_x_17
            replace f_x_11 := (hs.o gx trivial rfl).1.trans f_x_11
            replace f_x_2 := (hs.o gx trivial rfl).1.trans f_x_2
            replace f_x_8 := (hs.o gx trivial rfl).1.trans f_x_8
            replace f_x_6 := (hs.o gx trivial rfl).1.trans f_x_6
            replace ffv_23 := (hs.o gq_6 trivial rfl).1.trans ffv_23
            replace ffv_24 := (hs.o gq_6 trivial rfl).1.trans ffv_24
            replace fq_25 := (hs.o gq_21 trivial rfl).2.trans fq_25
            replace fw_38 := (hs.o (gqpg.S hM) trivial rfl).1.trans fw_38
            replace fw_39 := (hs.o (gqpg.S hM) trivial rfl).1.trans fw_39
            replace ffw45_qpg_0 := (hs.o (gqpg.S hM) trivial rfl).1.trans ffw45_qpg_0
            replace pf_x_8 : ∀ j : Nat, (j : Int) < (h_46.2.1 x 8).toInt → h_46.2.2 qp j ≠ none := by
              intro j hj; rw [(hs.o gx trivial rfl).1] at hj; rw [(hs.a gqp rfl j).2]; exact pf_x_8 j hj
            replace pf_x_11 : ∀ j : Nat, (j : Int) < (h_46.2.1 x 11).toInt → h_46.2.2 qc j ≠ none := by
              intro j hj; rw [(hs.o gx trivial rfl).1] at hj; rw [(hs.a gqc rfl j).2]; exact pf_x_11 j hj
            replace pf_x_6 : ∀ j : Nat, (j : Int) < (h_46.2.1 x 6).toInt → h_46.2.2 qa j ≠ none := by
              intro j hj; rw [(hs.o gx trivial rfl).1] at hj; rw [(hs.a gqa rfl j).2]; exact pf_x_6 j hj
            replace cl_qc_13 : hx_col 100 h_46 qc 13 = odf := (hx_col_S hs hTo gqc tt_45 tt_2 rfl rfl).trans cl_qc_13
            replace cl_qc_14 : hx_col 100 h_46 qc 14 = wkf := (hx_col_S hs hTo gqc tt_45 tt_2 rfl rfl).trans cl_qc_14
            replace cl_qc_15 : hx_col 100 h_46 qc 15 = owf := (hx_col_S hs hTo gqc tt_45 tt_2 rfl rfl).trans cl_qc_15
            replace cl_qc_16 : hx_col 100 h_46 qc 16 = szf := (hx_col_S hs hTo gqc tt_45 tt_2 rfl rfl).trans cl_qc_16
            replace cl_qc_17 : hx_col 100 h_46 qc 17 = gdf := (hx_col_S hs hTo gqc tt_45 tt_2 rfl rfl).trans cl_qc_17
            replace cl_qc_18 : hx_col 100 h_46 qc 18 = svf := (hx_col_S hs hTo gqc tt_45 tt_2 rfl rfl).trans cl_qc_18
            replace cl_qp_3 : hx_col 40 h_46 qp 3 = eaf := (hx_col_S hs hTo gqp tt_44 tt_4 rfl rfl).trans cl_qp_3
            replace cl_qp_4 : hx_col 40 h_46 qp 4 = hdf := (hx_col_S hs hTo gqp tt_44 tt_4 rfl rfl).trans cl_qp_4
            replace nu_qp : hx_num 40 h_46 qp 0 (pn0.toInt) := hx_num_S hs hTo gqp tt_44 tt_4 rfl rfl nu_qp
            replace nu_qc : hx_num 100 h_46 qc 0 (cn0.toInt) := hx_num_S hs hTo gqc tt_45 tt_2 rfl rfl nu_qc
            replace hDF : hw_DF h_46 qc qp 2 agf cn0.toInt := hw_DF_S hs hTo gqc gqp tt_45 tt_2 rfl rfl rfl hDF
            replace hAC : hv_AC h_46 qc plf cn0.toInt A := hv_AC_S hs hTo gqc tt_45 tt_2 rfl tt_0 rfl rfl rfl rfl rfl rfl rfl hAC
            replace hRA : hv_RA h_46 qa w a0.toInt A := hv_RA_S hs hTo gqa gw tt_43 tt_0 rfl rfl rfl rfl rfl rfl ?o42 hRA
            case o42 => omega
            replace kk_22Q : hv_AQ h_46 q_21 (((kk_22 : Nat) : Int) - 1) (A kk_22) := hv_AQ_S hs hTo gq_21 tt_0 rfl rfl rfl rfl rfl kk_22Q
            replace fo_9 := (hs.a gqp rfl _).2.trans fo_9
            replace nfa_26 : h_46.2.1 q_25 = fa_26 := (funext fun j => (hs.a gq_25 rfl j).1).trans nfa_26
            replace nia45_qop : h_46.2.1 qop = ia45_qop := (funext fun j => (hs.a (gqop.S hM) rfl j).1).trans nia45_qop
            replace nia45_qre : h_46.2.1 qre = ia45_qre := (funext fun j => (hs.a (gqre.S hM) rfl j).1).trans nia45_qre
            replace nia45_qle : h_46.2.1 qle = ia45_qle := (funext fun j => (hs.a (gqle.S hM) rfl j).1).trans nia45_qle
            replace hM := hM.tr (hs.mono ?o43)
            case o43 => decide
            replace gx := gx.S hs
            replace gqp := gqp.S hs
            replace gqc := gqc.S hs
            replace gqa := gqa.S hs
            replace gw := gw.S hs
            replace gq_6 := gq_6.S hs
            replace gq_21 := gq_21.S hs
            replace gq_25 := gq_25.S hs
            have fw_50 : h_46.2.1 qpg 1 = w_50 := fw_50
            have bw_50 := hT.gi (gqpg.S hM) tt_5 (k := 1) rfl
            rw [fw_50] at bw_50
            have bw_50 : 0 ≤ w_50.toInt ∧ w_50.toInt ≤ 4 := bw_50
            have fw_51 : h_46.2.1 qcl = w_51 := fw_51
            have fw_52 : h_46.2.1 qwl = w_52 := fw_52
            have fw_53 : h_46.2.1 qws = w_53 := fw_53
            exact hx_reti hx hb hr hlk hW ⟨⟨w_50, w_51, w_52, w_53, fw_50, fw_51, fw_52, fw_53, (by have h9 := hr_49; rw [hme8, hun8] at h9; exact hp_PS_s ⟨⟨by omega, by omega⟩, by omega, by omega⟩ (by omega) hol9 h9)⟩, hT, hM⟩ dX9_plan_140
          · skip
            refine lv_aload_n hx hb dX9_plan_54 rfl (lv_at hl 2 rfl) ?_
            refine hk_getr hx hb hts hC_9 hown hW gx tt_9 10 ?o44 rfl kw_374 ⟨rfl, rfl, rfl⟩ f_x_10 dX9_plan_55 ?_
            case o44 => decide
            refine lv_iload hx hb dX9_plan_58 (lv_at hl 0 rfl) ?_
            refine hx_aaldN hx hb hW hT gqc tt_45 (t1 := 2) rfl ⟨?o45, ?o46⟩ (pf_x_11 _ (by rw [f_x_11]; exact hx_tnI (by omega) (by omega))) dX9_plan_60 (fun q_54 fq_54 gq_54 => ?_)
            case o45 => omega
            case o46 => omega
            refine lv_astore (lv' := [(5, .ref q_54), (4, .int iv45_4), (3, .ref q_6), (0, .ref x), (1, .int i1), (2, .int i2)]) hx hb dX9_plan_61 hl ?o47 rfl (fun ls hl => ?_)
            case o47 => decide
            refine lv_aload hx hb dX9_plan_63 (lv_at hl 0 rfl) ?_
            refine hx_getn hx hb hts hC_2 hown hW hT gq_54 tt_2 2 ?o48 rfl kw_733 ⟨rfl, rfl, rfl⟩ dX9_plan_65 (fun q_55 fq_55 gq_55 => ?_)
            case o48 => decide
            obtain ⟨dAq_55, dBq_55, dCq_55⟩ := hDF iv45_4.toNatClampNeg (by unfold Int32.toNatClampNeg; omega) (by unfold Int32.toNatClampNeg; omega) _ _ fq_54 fq_55
            have dAq_55 : 0 ≤ (agf iv45_4.toNatClampNeg).toInt := dAq_55
            have dBq_55 : (agf iv45_4.toNatClampNeg).toInt < 40 := dBq_55
            have dUq_55 : 0 ≤ (agf iv45_4.toInt.toNat).toInt ∧ (agf iv45_4.toInt.toNat).toInt < 40 := ⟨dAq_55, dBq_55⟩
            have eoq_55 : hl1.2.2 qp (agf iv45_4.toNatClampNeg).toNatClampNeg = some q_55 := dCq_55
            have hpe9 := hz_pe nu_qp ⟨?o49, ?o50⟩ ⟨?o51, ?o52⟩ eoq_55 fo_9
            case o49 => omega
            case o50 => omega
            case o51 => omega
            case o52 => omega
            refine lv_aload_n hx hb dX9_plan_68 rfl (lv_at hl 2 rfl) ?_
            refine lv_acmp_ne (rx := (some q_55)) (ry := (some q_6)) (tgt := 127) hx hb dX9_plan_69 ?o53 (fun c_56 => ?_) (fun c_56 => ?_)
            case o53 => decide
            · skip
              obtain ⟨x_57, ex_57⟩ : ∃ y : Int32, y = iv45_4 + Int32.ofInt 1 := ⟨_, rfl⟩
              have rg_58 := i32_r iv45_4
              have zx_57 : x_57.toInt = iv45_4.toInt + (1) := ?o54
              case o54 =>
                rw [ex_57]
                refine i32_add rfl ?o55 ?o56 ?o57
                case o55 => decide
                case o56 => omega
                case o57 => omega
              refine lv_iinc (v := x_57) (lv' := [(4, .int x_57), (5, .ref q_54), (3, .ref q_6), (0, .ref x), (1, .int i1), (2, .int i2)]) hx hb dX9_plan_127 hl (k := 1) rfl ex_57.symm ?o58 rfl (fun ls hl => ?_)
              case o58 => decide
              refine lv_goto (tgt := 45) hx hb dX9_plan_130 ?o59 ?_
              case o59 => decide
              refine ih45 x_57 fw45_qpg_0 ia45_qop ia45_qre ia45_qle _ _ hL1 hl1 ?o60 ?o61 ?o62 ?o63 (hp_OQ_n vi45_0.1 vi45_0.2 ?o64 (fun z => c_56 (congrArg some (hpe9.mpr z.1))) zx_57) ?o65 ls ?o66 hW hT hM ffw45_qpg_0 f_x_7 f_x_10 f_x_14 f_x_5 f_x_4 f_x_17 f_x_11 f_x_2 f_x_8 f_x_6 f_qpg_1 ffv_23 ffv_24 fq_25 fw_38 fw_39 gx gqp gqc gqa gw gq_6 gq_21 gq_25 pf_x_8 pf_x_11 pf_x_6 nia45_qop nia45_qre nia45_qle af_qcl af_qwl af_qws nfa_26 cl_qc_13 cl_qc_14 cl_qc_15 cl_qc_16 cl_qc_17 cl_qc_18 cl_qp_3 cl_qp_4 nu_qp nu_qc fo_9 hDF hAC hRA kk_22Q (lv_sub hl [0, 2, 3, 4, 5] rfl)
              case o60 => omega
              case o61 => omega
              case o62 => omega
              case o63 => omega
              case o64 => omega
              case o65 => omega
              case o66 => omega
            · skip
              have hag9 := hpe9.mp (Option.some.inj c_56)
              refine lv_aload hx hb dX9_plan_72 (lv_at hl 0 rfl) ?_
              refine lv_aload_n hx hb dX9_plan_74 rfl (lv_at hl 3 rfl) ?_
              refine hk_getr hx hb hts hC_9 hown hW gx tt_9 14 ?o67 rfl kw_378 ⟨rfl, rfl, rfl⟩ f_x_14 dX9_plan_75 ?_
              case o67 => decide
              refine lv_aload_n hx hb dX9_plan_78 rfl (lv_at hl 3 rfl) ?_
              refine hk_geti hx hb hts hC_9 hown hW gx tt_9 2 ?o68 rfl kw_366 ⟨rfl, rfl, rfl⟩ f_x_2 dX9_plan_79 ?_
              case o68 => decide
              obtain ⟨fv_59, efv_59⟩ : ∃ y : Int32, y = hl1.2.1 q_54 13 := ⟨_, rfl⟩
              have bfv_59 := hT.gi gq_54 tt_2 (k := 13) rfl
              rw [← efv_59] at bfv_59
              have bfv_59 : -2147483648 ≤ fv_59.toInt ∧ fv_59.toInt ≤ 2147483647 := bfv_59
              have ffv_59 := efv_59.symm
              have cq_60 : fv_59 = odf iv45_4.toInt.toNat := ?o69
              case o69 =>
                rw [← ffv_59, ← cl_qc_13]
                exact (hx_col_at fq_54 (by unfold Int32.toNatClampNeg; omega)).symm
              obtain ⟨fv_61, efv_61⟩ : ∃ y : Int32, y = hl1.2.1 q_54 14 := ⟨_, rfl⟩
              have bfv_61 := hT.gi gq_54 tt_2 (k := 14) rfl
              rw [← efv_61] at bfv_61
              have bfv_61 : -2147483648 ≤ fv_61.toInt ∧ fv_61.toInt ≤ 2147483647 := bfv_61
              have ffv_61 := efv_61.symm
              have cq_62 : fv_61 = wkf iv45_4.toInt.toNat := ?o70
              case o70 =>
                rw [← ffv_61, ← cl_qc_14]
                exact (hx_col_at fq_54 (by unfold Int32.toNatClampNeg; omega)).symm
              obtain ⟨fv_63, efv_63⟩ : ∃ y : Int32, y = hl1.2.1 q_54 15 := ⟨_, rfl⟩
              have bfv_63 := hT.gi gq_54 tt_2 (k := 15) rfl
              rw [← efv_63] at bfv_63
              have bfv_63 : -2147483648 ≤ fv_63.toInt ∧ fv_63.toInt ≤ 2147483647 := bfv_63
              have ffv_63 := efv_63.symm
              have cq_64 : fv_63 = owf iv45_4.toInt.toNat := ?o71
              case o71 =>
                rw [← ffv_63, ← cl_qc_15]
                exact (hx_col_at fq_54 (by unfold Int32.toNatClampNeg; omega)).symm
              obtain ⟨fv_65, efv_65⟩ : ∃ y : Int32, y = hl1.2.1 q_54 16 := ⟨_, rfl⟩
              have bfv_65 := hT.gi gq_54 tt_2 (k := 16) rfl
              rw [← efv_65] at bfv_65
              have bfv_65 : -2147483648 ≤ fv_65.toInt ∧ fv_65.toInt ≤ 2147483647 := bfv_65
              have ffv_65 := efv_65.symm
              have cq_66 : fv_65 = szf iv45_4.toInt.toNat := ?o72
              case o72 =>
                rw [← ffv_65, ← cl_qc_16]
                exact (hx_col_at fq_54 (by unfold Int32.toNatClampNeg; omega)).symm
              obtain ⟨fv_67, efv_67⟩ : ∃ y : Int32, y = hl1.2.1 q_54 17 := ⟨_, rfl⟩
              have bfv_67 := hT.gi gq_54 tt_2 (k := 17) rfl
              rw [← efv_67] at bfv_67
              have bfv_67 : -2147483648 ≤ fv_67.toInt ∧ fv_67.toInt ≤ 2147483647 := bfv_67
              have ffv_67 := efv_67.symm
              have cq_68 : fv_67 = gdf iv45_4.toInt.toNat := ?o73
              case o73 =>
                rw [← ffv_67, ← cl_qc_17]
                exact (hx_col_at fq_54 (by unfold Int32.toNatClampNeg; omega)).symm
              obtain ⟨fv_69, efv_69⟩ : ∃ y : Int32, y = hl1.2.1 q_54 18 := ⟨_, rfl⟩
              have bfv_69 := hT.gi gq_54 tt_2 (k := 18) rfl
              rw [← efv_69] at bfv_69
              have bfv_69 : -2147483648 ≤ fv_69.toInt ∧ fv_69.toInt ≤ 2147483647 := bfv_69
              have ffv_69 := efv_69.symm
              have cq_70 : fv_69 = svf iv45_4.toInt.toNat := ?o74
              case o74 =>
                rw [← ffv_69, ← cl_qc_18]
                exact (hx_col_at fq_54 (by unfold Int32.toNatClampNeg; omega)).symm
              have cb_71 := hCB iv45_4.toInt.toNat (by omega); rw [← cq_60, ← cq_62, ← cq_64, ← cq_66, ← cq_68, ← cq_70] at cb_71
              obtain ⟨⟨cb_71al, cb_71ah⟩, ⟨cb_71bl, cb_71bh⟩, ⟨cb_71cl, cb_71ch⟩, ⟨cb_71dl, cb_71dh⟩, ⟨cb_71el, cb_71eh⟩, ⟨cb_71fl, cb_71fh⟩⟩ := cb_71
              obtain ⟨fv_72, efv_72⟩ : ∃ y : Int32, y = hl1.2.1 q_54 0 := ⟨_, rfl⟩
              have bfv_72 := hT.gi gq_54 tt_2 (k := 0) rfl
              rw [← efv_72] at bfv_72
              have bfv_72 : 0 ≤ fv_72.toInt ∧ fv_72.toInt ≤ 99 := bfv_72
              have ffv_72 := efv_72.symm
              have cq_73 : fv_72 = iv45_4 := ?o75
              case o75 =>
                rw [← ffv_72]
                refine hx_num_at nu_qc fq_54 ?o76 ?o77
                case o76 => omega
                case o77 => omega
              have hTo := hT
              obtain ⟨q_74, fq_74, gq_74⟩ := hv_rf hT gq_54 tt_2 (k := 3) (u := 0) rfl
              obtain ⟨q_75, fq_75, gq_75⟩ := hv_rf hT gq_74 tt_0 (k := 2) (u := 11) rfl
              obtain ⟨fa_76, nfa_76⟩ : ∃ g : Nat → Int32, hl1.2.1 q_75 = g := ⟨_, rfl⟩
              refine hx_goi (hx_runV (As := [.ref qy, .int nw0]) (rest := []) ⟨hx, hb, hml, hown, hts⟩ hW gq_54 tt_2 (T := TX2) (N := 19) rfl (t_X2_isOpen_v l dC dI dA hL1 hl1 H.size q_54 qy nw0 hT gq_54 (gqy.S hM) pqo (gpqo.S hM) ((hM.o gqy trivial rfl).2.trans f_qy_2) pqd (gpqd.S hM) ((hM.o gqy trivial rfl).2.trans f_qy_3) pqs (gpqs.S hM) ((hM.o gqy trivial rfl).2.trans f_qy_5) pqk (gpqk.S hM) ((hM.o gqy trivial rfl).2.trans f_qy_4) pqt (gpqt.S hM) ((hM.o gqy trivial rfl).2.trans f_qy_1) q_74 gq_74 fq_74 q_75 gq_75 fq_75 pof (hx_afS hM gpqo rfl af_pqo) pdf (hx_afS hM gpqd rfl af_pqd) psm (hx_afS hM gpqs rfl af_pqs) pkf (hx_afS hM gpqk rfl af_pqk) pst (hx_afS hM gpqt rfl af_pqt) fa_76 nfa_76 fv_59 ffv_59 fv_65 ffv_65 fv_67 ffv_67 fv_63 ffv_63 fv_69 ffv_69 fv_72 ffv_72 n0 ((hM.o gqy trivial rfl).1.trans f_qy_0) (A (plf iv45_4.toInt.toNat).toInt.toNat).2.1 (by rw [← nfa_76]; exact (hAC iv45_4.toNatClampNeg (by unfold Int32.toNatClampNeg; omega) (by unfold Int32.toNatClampNeg; omega) _ _ fq_54 fq_74).2.2.2.1 _ fq_75) (hAB _).1 ⟨?o78, ?o79⟩ ⟨?o80, ?o81⟩ hps) (cwV 2 hts (hx_gV kw_857 kw_854 kw_855 kw_856 kw_110) rfl rfl rfl (by decide +kernel) ⟨Nat.le_of_ble_eq_true rfl, Nat.le_of_ble_eq_true rfl⟩) rfl hl.1 rfl (Nat.le_of_ble_eq_true rfl) dX9_plan_82 ⟨Nat.le_of_ble_eq_true rfl, Nat.le_of_ble_eq_true rfl⟩) hW (fun r_79 L_77 h_78 H locs p_80 hW => ?_)
              case o78 => omega
              case o79 => omega
              case o80 => omega
              case o81 => omega
              obtain ⟨hr_81, hT, hs⟩ := p_80
              replace hT : hx_T T_tb L_77 h_78 := hT
              replace hs : hx_S T_tb [] hL1 hl1 L_77 h_78 := hs
              replace f_x_7 := (hs.o gx trivial rfl).2.trans f_x_7
              replace f_x_10 := (hs.o gx trivial rfl).2.trans f_x_10
              replace f_x_14 := (hs.o gx trivial rfl).2.trans f_x_14
              replace f_x_5 := (hs.o gx trivial rfl).2.trans f_x_5
              replace f_x_4 := (hs.o gx trivial rfl).2.trans f_x_4
              replace f_x_17 := (hs.o gx trivial rfl).2.trans f_x_17
              replace f_x_11 := (hs.o gx trivial rfl).1.trans f_x_11
              replace f_x_2 := (hs.o gx trivial rfl).1.trans f_x_2
              replace f_x_8 := (hs.o gx trivial rfl).1.trans f_x_8
              replace f_x_6 := (hs.o gx trivial rfl).1.trans f_x_6
              replace f_qpg_1 := (hs.o (gqpg.S hM) trivial rfl).1.trans f_qpg_1
              replace ffv_23 := (hs.o gq_6 trivial rfl).1.trans ffv_23
              replace ffv_24 := (hs.o gq_6 trivial rfl).1.trans ffv_24
              replace fq_25 := (hs.o gq_21 trivial rfl).2.trans fq_25
              replace fw_38 := (hs.o (gqpg.S hM) trivial rfl).1.trans fw_38
              replace fw_39 := (hs.o (gqpg.S hM) trivial rfl).1.trans fw_39
              replace ffw45_qpg_0 := (hs.o (gqpg.S hM) trivial rfl).1.trans ffw45_qpg_0
              replace fq_55 := (hs.o gq_54 trivial rfl).2.trans fq_55
              replace ffv_59 := (hs.o gq_54 trivial rfl).1.trans ffv_59
              replace ffv_61 := (hs.o gq_54 trivial rfl).1.trans ffv_61
              replace ffv_63 := (hs.o gq_54 trivial rfl).1.trans ffv_63
              replace ffv_65 := (hs.o gq_54 trivial rfl).1.trans ffv_65
              replace ffv_67 := (hs.o gq_54 trivial rfl).1.trans ffv_67
              replace ffv_69 := (hs.o gq_54 trivial rfl).1.trans ffv_69
              replace ffv_72 := (hs.o gq_54 trivial rfl).1.trans ffv_72
              replace fq_74 := (hs.o gq_54 trivial rfl).2.trans fq_74
              replace fq_75 := (hs.o gq_74 trivial rfl).2.trans fq_75
              replace pf_x_8 : ∀ j : Nat, (j : Int) < (h_78.2.1 x 8).toInt → h_78.2.2 qp j ≠ none := by
                intro j hj; rw [(hs.o gx trivial rfl).1] at hj; rw [(hs.a gqp rfl j).2]; exact pf_x_8 j hj
              replace pf_x_11 : ∀ j : Nat, (j : Int) < (h_78.2.1 x 11).toInt → h_78.2.2 qc j ≠ none := by
                intro j hj; rw [(hs.o gx trivial rfl).1] at hj; rw [(hs.a gqc rfl j).2]; exact pf_x_11 j hj
              replace pf_x_6 : ∀ j : Nat, (j : Int) < (h_78.2.1 x 6).toInt → h_78.2.2 qa j ≠ none := by
                intro j hj; rw [(hs.o gx trivial rfl).1] at hj; rw [(hs.a gqa rfl j).2]; exact pf_x_6 j hj
              replace cl_qc_13 : hx_col 100 h_78 qc 13 = odf := (hx_col_S hs hTo gqc tt_45 tt_2 rfl rfl).trans cl_qc_13
              replace cl_qc_14 : hx_col 100 h_78 qc 14 = wkf := (hx_col_S hs hTo gqc tt_45 tt_2 rfl rfl).trans cl_qc_14
              replace cl_qc_15 : hx_col 100 h_78 qc 15 = owf := (hx_col_S hs hTo gqc tt_45 tt_2 rfl rfl).trans cl_qc_15
              replace cl_qc_16 : hx_col 100 h_78 qc 16 = szf := (hx_col_S hs hTo gqc tt_45 tt_2 rfl rfl).trans cl_qc_16
              replace cl_qc_17 : hx_col 100 h_78 qc 17 = gdf := (hx_col_S hs hTo gqc tt_45 tt_2 rfl rfl).trans cl_qc_17
              replace cl_qc_18 : hx_col 100 h_78 qc 18 = svf := (hx_col_S hs hTo gqc tt_45 tt_2 rfl rfl).trans cl_qc_18
              replace cl_qp_3 : hx_col 40 h_78 qp 3 = eaf := (hx_col_S hs hTo gqp tt_44 tt_4 rfl rfl).trans cl_qp_3
              replace cl_qp_4 : hx_col 40 h_78 qp 4 = hdf := (hx_col_S hs hTo gqp tt_44 tt_4 rfl rfl).trans cl_qp_4
              replace nu_qp : hx_num 40 h_78 qp 0 (pn0.toInt) := hx_num_S hs hTo gqp tt_44 tt_4 rfl rfl nu_qp
              replace nu_qc : hx_num 100 h_78 qc 0 (cn0.toInt) := hx_num_S hs hTo gqc tt_45 tt_2 rfl rfl nu_qc
              replace hDF : hw_DF h_78 qc qp 2 agf cn0.toInt := hw_DF_S hs hTo gqc gqp tt_45 tt_2 rfl rfl rfl hDF
              replace hAC : hv_AC h_78 qc plf cn0.toInt A := hv_AC_S hs hTo gqc tt_45 tt_2 rfl tt_0 rfl rfl rfl rfl rfl rfl rfl hAC
              replace hRA : hv_RA h_78 qa w a0.toInt A := hv_RA_S hs hTo gqa gw tt_43 tt_0 rfl rfl rfl rfl rfl rfl ?o82 hRA
              case o82 => omega
              replace kk_22Q : hv_AQ h_78 q_21 (((kk_22 : Nat) : Int) - 1) (A kk_22) := hv_AQ_S hs hTo gq_21 tt_0 rfl rfl rfl rfl rfl kk_22Q
              replace fo_9 := (hs.a gqp rfl _).2.trans fo_9
              replace fq_54 := (hs.a gqc rfl _).2.trans fq_54
              replace eoq_55 := (hs.a gqp rfl _).2.trans eoq_55
              replace af_qcl : h_78.2.1 qcl = clf := (funext fun j => (hs.a (gqcl.S hM) rfl j).1).trans af_qcl
              replace af_qwl : h_78.2.1 qwl = wlf := (funext fun j => (hs.a (gqwl.S hM) rfl j).1).trans af_qwl
              replace af_qws : h_78.2.1 qws = wsf := (funext fun j => (hs.a (gqws.S hM) rfl j).1).trans af_qws
              replace nfa_26 : h_78.2.1 q_25 = fa_26 := (funext fun j => (hs.a gq_25 rfl j).1).trans nfa_26
              replace nia45_qop : h_78.2.1 qop = ia45_qop := (funext fun j => (hs.a (gqop.S hM) rfl j).1).trans nia45_qop
              replace nia45_qre : h_78.2.1 qre = ia45_qre := (funext fun j => (hs.a (gqre.S hM) rfl j).1).trans nia45_qre
              replace nia45_qle : h_78.2.1 qle = ia45_qle := (funext fun j => (hs.a (gqle.S hM) rfl j).1).trans nia45_qle
              replace nfa_76 : h_78.2.1 q_75 = fa_76 := (funext fun j => (hs.a gq_75 rfl j).1).trans nfa_76
              replace hM := hM.tr (hs.mono ?o83)
              case o83 => decide
              replace gx := gx.S hs
              replace gqp := gqp.S hs
              replace gqc := gqc.S hs
              replace gqa := gqa.S hs
              replace gw := gw.S hs
              replace gq_6 := gq_6.S hs
              replace gq_21 := gq_21.S hs
              replace gq_25 := gq_25.S hs
              replace gq_54 := gq_54.S hs
              replace gq_55 := gq_55.S hs
              replace gq_74 := gq_74.S hs
              replace gq_75 := gq_75.S hs
              have hio9 : (r_79.toInt = 1 ∧ 0 < ((hz_Rn odf szf gdf owf svf (hz_rc A plf) pof pdf psm pkf pst nw0.toInt n0.toInt.toNat) iv45_4.toInt.toNat)) ∨ (r_79.toInt = 0 ∧ ¬ 0 < ((hz_Rn odf szf gdf owf svf (hz_rc A plf) pof pdf psm pkf pst nw0.toInt n0.toInt.toNat) iv45_4.toInt.toNat)) := ?o84
              case o84 =>
                unfold hz_Rn
                rw [show ((iv45_4.toInt.toNat : Nat) : Int) = fv_72.toInt from by rw [cq_73]; omega, ← cq_70, ← cq_60, ← cq_66, ← cq_68, ← cq_64]
                exact hr_81
              clear hr_81
              refine hb_if_eq (zx := r_79.toInt) (tgt := 127) hx hb rfl dX9_plan_85 ?o85 (fun c_82 => ?_) (fun c_82 => ?_)
              case o85 => decide
              · skip
                obtain ⟨x_83, ex_83⟩ : ∃ y : Int32, y = iv45_4 + Int32.ofInt 1 := ⟨_, rfl⟩
                have rg_84 := i32_r iv45_4
                have zx_83 : x_83.toInt = iv45_4.toInt + (1) := ?o86
                case o86 =>
                  rw [ex_83]
                  refine i32_add rfl ?o87 ?o88 ?o89
                  case o87 => decide
                  case o88 => omega
                  case o89 => omega
                refine lv_iinc (v := x_83) (lv' := [(4, .int x_83), (5, .ref q_54), (3, .ref q_6), (0, .ref x), (1, .int i1), (2, .int i2)]) hx hb dX9_plan_127 hl (k := 1) rfl ex_83.symm ?o90 rfl (fun ls hl => ?_)
                case o90 => decide
                refine lv_goto (tgt := 45) hx hb dX9_plan_130 ?o91 ?_
                case o91 => decide
                refine ih45 x_83 fw45_qpg_0 ia45_qop ia45_qre ia45_qle _ _ L_77 h_78 ?o92 ?o93 ?o94 ?o95 (hp_OQ_n vi45_0.1 vi45_0.2 ?o96 (fun z => by have z9 := z.2; omega) zx_83) ?o97 ls ?o98 hW hT hM ffw45_qpg_0 f_x_7 f_x_10 f_x_14 f_x_5 f_x_4 f_x_17 f_x_11 f_x_2 f_x_8 f_x_6 f_qpg_1 ffv_23 ffv_24 fq_25 fw_38 fw_39 gx gqp gqc gqa gw gq_6 gq_21 gq_25 pf_x_8 pf_x_11 pf_x_6 nia45_qop nia45_qre nia45_qle af_qcl af_qwl af_qws nfa_26 cl_qc_13 cl_qc_14 cl_qc_15 cl_qc_16 cl_qc_17 cl_qc_18 cl_qp_3 cl_qp_4 nu_qp nu_qc fo_9 hDF hAC hRA kk_22Q (lv_sub hl [0, 2, 3, 4, 5] rfl)
                case o92 => omega
                case o93 => omega
                case o94 => omega
                case o95 => omega
                case o96 => omega
                case o97 => omega
                case o98 => omega
              · skip
                have hpo9 : 0 < (hz_Rn odf szf gdf owf svf (hz_rc A plf) pof pdf psm pkf pst nw0.toInt n0.toInt.toNat) iv45_4.toInt.toNat := ?o99
                case o99 => omega
                refine lv_aload_n hx hb dX9_plan_88 rfl (lv_at hl 3 rfl) ?_
                refine hk_getr hx hb hts hC_9 hown hW gx tt_9 17 ?o100 rfl kw_381 ⟨rfl, rfl, rfl⟩ f_x_17 dX9_plan_89 ?_
                case o100 => decide
                refine hk_geti hx hb hts hC_5 hown hW (gqpg.S hM) tt_5 0 ?o101 rfl kw_259 ⟨rfl, rfl, rfl⟩ ffw45_qpg_0 dX9_plan_92 ?_
                case o101 => decide
                refine lv_iconst (v := 4) hx hb dX9_plan_95 ?o102 ?_
                case o102 => decide
                refine hb_icmp_lt (zx := fw45_qpg_0.toInt) (zy := 4) (tgt := 101) hx hb rfl ?o103 dX9_plan_96 ?o104 (fun c_85 => ?_) (fun c_85 => ?_)
                case o103 => decide
                case o104 => decide
                · skip
                  refine lv_aload_n hx hb dX9_plan_101 rfl (lv_at hl 3 rfl) ?_
                  refine hk_getr hx hb hts hC_9 hown hW gx tt_9 17 ?o105 rfl kw_381 ⟨rfl, rfl, rfl⟩ f_x_17 dX9_plan_102 ?_
                  case o105 => decide
                  refine lv_aload hx hb dX9_plan_105 (lv_at hl 0 rfl) ?_
                  refine lv_aload hx hb dX9_plan_107 (lv_at hl 0 rfl) ?_
                  refine lv_aload_n hx hb dX9_plan_109 rfl (lv_at hl 3 rfl) ?_
                  refine hk_getr hx hb hts hC_9 hown hW gx tt_9 14 ?o106 rfl kw_378 ⟨rfl, rfl, rfl⟩ f_x_14 dX9_plan_110 ?_
                  case o106 => decide
                  refine lv_aload_n hx hb dX9_plan_113 rfl (lv_at hl 3 rfl) ?_
                  refine hk_geti hx hb hts hC_9 hown hW gx tt_9 2 ?o107 rfl kw_366 ⟨rfl, rfl, rfl⟩ f_x_2 dX9_plan_114 ?_
                  case o107 => decide
                  refine lv_aload_n hx hb dX9_plan_117 rfl (lv_at hl 3 rfl) ?_
                  refine hk_geti hx hb hts hC_9 hown hW gx tt_9 2 ?o108 rfl kw_366 ⟨rfl, rfl, rfl⟩ f_x_2 dX9_plan_118 ?_
                  case o108 => decide
                  have hTo := hT
                  refine hx_goi (hx_runV (As := [.ref qy, .int nw0, .int nw0]) (rest := [.ref q_54, .ref qpg]) ⟨hx, hb, hml, hown, hts⟩ hW gq_54 tt_2 (T := TX2) (N := 19) rfl (t_X2_restOn_v l dC dI dA L_77 h_78 H.size q_54 qy nw0 nw0 hT gq_54 (gqy.S hM) pqo (gpqo.S hM) ((hM.o gqy trivial rfl).2.trans f_qy_2) pqd (gpqd.S hM) ((hM.o gqy trivial rfl).2.trans f_qy_3) pqs (gpqs.S hM) ((hM.o gqy trivial rfl).2.trans f_qy_5) pqk (gpqk.S hM) ((hM.o gqy trivial rfl).2.trans f_qy_4) pqt (gpqt.S hM) ((hM.o gqy trivial rfl).2.trans f_qy_1) q_74 gq_74 fq_74 q_75 gq_75 fq_75 pof (hx_afS hM gpqo rfl af_pqo) pdf (hx_afS hM gpqd rfl af_pqd) psm (hx_afS hM gpqs rfl af_pqs) pkf (hx_afS hM gpqk rfl af_pqk) pst (hx_afS hM gpqt rfl af_pqt) fa_76 nfa_76 fv_59 ffv_59 fv_65 ffv_65 fv_67 ffv_67 fv_63 ffv_63 fv_69 ffv_69 fv_72 ffv_72 n0 ((hM.o gqy trivial rfl).1.trans f_qy_0) (A (plf iv45_4.toInt.toNat).toInt.toNat).2.1 (by rw [← nfa_76]; exact (hAC iv45_4.toNatClampNeg (by unfold Int32.toNatClampNeg; omega) (by unfold Int32.toNatClampNeg; omega) _ _ fq_54 fq_74).2.2.2.1 _ fq_75) (hAB _).1 ⟨?o109, ?o110⟩ ⟨?o111, ?o112⟩ hps) (cwV 3 hts (hx_gV kw_861 kw_927 kw_859 kw_860 kw_110) rfl rfl rfl (by decide +kernel) ⟨Nat.le_of_ble_eq_true rfl, Nat.le_of_ble_eq_true rfl⟩) rfl hl.1 rfl (Nat.le_of_ble_eq_true rfl) dX9_plan_121 ⟨Nat.le_of_ble_eq_true rfl, Nat.le_of_ble_eq_true rfl⟩) hW (fun r_88 L_86 h_87 H locs p_89 hW => ?_)
                  case o109 => omega
                  case o110 => omega
                  case o111 => omega
                  case o112 => omega
                  obtain ⟨hr_90, hT, hs⟩ := p_89
                  replace hT : hx_T T_tb L_86 h_87 := hT
                  replace hs : hx_S T_tb [] L_77 h_78 L_86 h_87 := hs
                  replace f_x_7 := (hs.o gx trivial rfl).2.trans f_x_7
                  replace f_x_10 := (hs.o gx trivial rfl).2.trans f_x_10
                  replace f_x_14 := (hs.o gx trivial rfl).2.trans f_x_14
                  replace f_x_5 := (hs.o gx trivial rfl).2.trans f_x_5
                  replace f_x_4 := (hs.o gx trivial rfl).2.trans f_x_4
                  replace f_x_17 := (hs.o gx trivial rfl).2.trans f_x_17
                  replace f_x_11 := (hs.o gx trivial rfl).1.trans f_x_11
                  replace f_x_2 := (hs.o gx trivial rfl).1.trans f_x_2
                  replace f_x_8 := (hs.o gx trivial rfl).1.trans f_x_8
                  replace f_x_6 := (hs.o gx trivial rfl).1.trans f_x_6
                  replace f_qpg_1 := (hs.o (gqpg.S hM) trivial rfl).1.trans f_qpg_1
                  replace ffv_23 := (hs.o gq_6 trivial rfl).1.trans ffv_23
                  replace ffv_24 := (hs.o gq_6 trivial rfl).1.trans ffv_24
                  replace fq_25 := (hs.o gq_21 trivial rfl).2.trans fq_25
                  replace fw_38 := (hs.o (gqpg.S hM) trivial rfl).1.trans fw_38
                  replace fw_39 := (hs.o (gqpg.S hM) trivial rfl).1.trans fw_39
                  replace ffw45_qpg_0 := (hs.o (gqpg.S hM) trivial rfl).1.trans ffw45_qpg_0
                  replace fq_55 := (hs.o gq_54 trivial rfl).2.trans fq_55
                  replace ffv_59 := (hs.o gq_54 trivial rfl).1.trans ffv_59
                  replace ffv_61 := (hs.o gq_54 trivial rfl).1.trans ffv_61
                  replace ffv_63 := (hs.o gq_54 trivial rfl).1.trans ffv_63
                  replace ffv_65 := (hs.o gq_54 trivial rfl).1.trans ffv_65
                  replace ffv_67 := (hs.o gq_54 trivial rfl).1.trans ffv_67
                  replace ffv_69 := (hs.o gq_54 trivial rfl).1.trans ffv_69
                  replace ffv_72 := (hs.o gq_54 trivial rfl).1.trans ffv_72
                  replace fq_74 := (hs.o gq_54 trivial rfl).2.trans fq_74
                  replace fq_75 := (hs.o gq_74 trivial rfl).2.trans fq_75
                  replace pf_x_8 : ∀ j : Nat, (j : Int) < (h_87.2.1 x 8).toInt → h_87.2.2 qp j ≠ none := by
                    intro j hj; rw [(hs.o gx trivial rfl).1] at hj; rw [(hs.a gqp rfl j).2]; exact pf_x_8 j hj
                  replace pf_x_11 : ∀ j : Nat, (j : Int) < (h_87.2.1 x 11).toInt → h_87.2.2 qc j ≠ none := by
                    intro j hj; rw [(hs.o gx trivial rfl).1] at hj; rw [(hs.a gqc rfl j).2]; exact pf_x_11 j hj
                  replace pf_x_6 : ∀ j : Nat, (j : Int) < (h_87.2.1 x 6).toInt → h_87.2.2 qa j ≠ none := by
                    intro j hj; rw [(hs.o gx trivial rfl).1] at hj; rw [(hs.a gqa rfl j).2]; exact pf_x_6 j hj
                  replace cl_qc_13 : hx_col 100 h_87 qc 13 = odf := (hx_col_S hs hTo gqc tt_45 tt_2 rfl rfl).trans cl_qc_13
                  replace cl_qc_14 : hx_col 100 h_87 qc 14 = wkf := (hx_col_S hs hTo gqc tt_45 tt_2 rfl rfl).trans cl_qc_14
                  replace cl_qc_15 : hx_col 100 h_87 qc 15 = owf := (hx_col_S hs hTo gqc tt_45 tt_2 rfl rfl).trans cl_qc_15
                  replace cl_qc_16 : hx_col 100 h_87 qc 16 = szf := (hx_col_S hs hTo gqc tt_45 tt_2 rfl rfl).trans cl_qc_16
                  replace cl_qc_17 : hx_col 100 h_87 qc 17 = gdf := (hx_col_S hs hTo gqc tt_45 tt_2 rfl rfl).trans cl_qc_17
                  replace cl_qc_18 : hx_col 100 h_87 qc 18 = svf := (hx_col_S hs hTo gqc tt_45 tt_2 rfl rfl).trans cl_qc_18
                  replace cl_qp_3 : hx_col 40 h_87 qp 3 = eaf := (hx_col_S hs hTo gqp tt_44 tt_4 rfl rfl).trans cl_qp_3
                  replace cl_qp_4 : hx_col 40 h_87 qp 4 = hdf := (hx_col_S hs hTo gqp tt_44 tt_4 rfl rfl).trans cl_qp_4
                  replace nu_qp : hx_num 40 h_87 qp 0 (pn0.toInt) := hx_num_S hs hTo gqp tt_44 tt_4 rfl rfl nu_qp
                  replace nu_qc : hx_num 100 h_87 qc 0 (cn0.toInt) := hx_num_S hs hTo gqc tt_45 tt_2 rfl rfl nu_qc
                  replace hDF : hw_DF h_87 qc qp 2 agf cn0.toInt := hw_DF_S hs hTo gqc gqp tt_45 tt_2 rfl rfl rfl hDF
                  replace hAC : hv_AC h_87 qc plf cn0.toInt A := hv_AC_S hs hTo gqc tt_45 tt_2 rfl tt_0 rfl rfl rfl rfl rfl rfl rfl hAC
                  replace hRA : hv_RA h_87 qa w a0.toInt A := hv_RA_S hs hTo gqa gw tt_43 tt_0 rfl rfl rfl rfl rfl rfl ?o113 hRA
                  case o113 => omega
                  replace kk_22Q : hv_AQ h_87 q_21 (((kk_22 : Nat) : Int) - 1) (A kk_22) := hv_AQ_S hs hTo gq_21 tt_0 rfl rfl rfl rfl rfl kk_22Q
                  replace fo_9 := (hs.a gqp rfl _).2.trans fo_9
                  replace fq_54 := (hs.a gqc rfl _).2.trans fq_54
                  replace eoq_55 := (hs.a gqp rfl _).2.trans eoq_55
                  replace af_qcl : h_87.2.1 qcl = clf := (funext fun j => (hs.a (gqcl.S hM) rfl j).1).trans af_qcl
                  replace af_qwl : h_87.2.1 qwl = wlf := (funext fun j => (hs.a (gqwl.S hM) rfl j).1).trans af_qwl
                  replace af_qws : h_87.2.1 qws = wsf := (funext fun j => (hs.a (gqws.S hM) rfl j).1).trans af_qws
                  replace nfa_26 : h_87.2.1 q_25 = fa_26 := (funext fun j => (hs.a gq_25 rfl j).1).trans nfa_26
                  replace nia45_qop : h_87.2.1 qop = ia45_qop := (funext fun j => (hs.a (gqop.S hM) rfl j).1).trans nia45_qop
                  replace nia45_qre : h_87.2.1 qre = ia45_qre := (funext fun j => (hs.a (gqre.S hM) rfl j).1).trans nia45_qre
                  replace nia45_qle : h_87.2.1 qle = ia45_qle := (funext fun j => (hs.a (gqle.S hM) rfl j).1).trans nia45_qle
                  replace nfa_76 : h_87.2.1 q_75 = fa_76 := (funext fun j => (hs.a gq_75 rfl j).1).trans nfa_76
                  replace hM := hM.tr (hs.mono ?o114)
                  case o114 => decide
                  replace gx := gx.S hs
                  replace gqp := gqp.S hs
                  replace gqc := gqc.S hs
                  replace gqa := gqa.S hs
                  replace gw := gw.S hs
                  replace gq_6 := gq_6.S hs
                  replace gq_21 := gq_21.S hs
                  replace gq_25 := gq_25.S hs
                  replace gq_54 := gq_54.S hs
                  replace gq_55 := gq_55.S hs
                  replace gq_74 := gq_74.S hs
                  replace gq_75 := gq_75.S hs
                  have hrs9 : r_88.toInt = ((hz_Rn odf szf gdf owf svf (hz_rc A plf) pof pdf psm pkf pst nw0.toInt n0.toInt.toNat) iv45_4.toInt.toNat) ∧ (0 ≤ r_88.toInt ∧ r_88.toInt ≤ 609999) := ?o115
                  case o115 =>
                    unfold hz_Rn
                    rw [show ((iv45_4.toInt.toNat : Nat) : Int) = fv_72.toInt from by rw [cq_73]; omega, ← cq_70, ← cq_60, ← cq_66, ← cq_68, ← cq_64]
                    exact hr_90
                  clear hr_90
                  have hTo := hT
                  refine hx_gov (hx_runV (As := [.ref q_54, .int r_88]) (rest := []) ⟨hx, hb, hml, hown, hts⟩ hW (gqpg.S hM) tt_5 (T := TX5) (N := 13) rfl (t_X5_addOpen_v l dC dI dA L_86 h_87 H.size qpg q_54 r_88 hT (gqpg.S hM) gq_54 qop (gqop.S hM) ((hM.o gqpg trivial rfl).2.trans f_qpg_5) qre (gqre.S hM) ((hM.o gqpg trivial rfl).2.trans f_qpg_6) qle (gqle.S hM) ((hM.o gqpg trivial rfl).2.trans f_qpg_7) q_74 gq_74 fq_74 q_75 gq_75 fq_75 ia45_qop nia45_qop ia45_qre nia45_qre ia45_qle nia45_qle fa_76 nfa_76 fw45_qpg_0 ffw45_qpg_0 fv_72 ffv_72 ?o116 ⟨?o117, ?o118⟩ (A (plf iv45_4.toInt.toNat).toInt.toNat).2.1 (by rw [← nfa_76]; exact (hAC iv45_4.toNatClampNeg (by unfold Int32.toNatClampNeg; omega) (by unfold Int32.toNatClampNeg; omega) _ _ fq_54 fq_74).2.2.2.1 _ fq_75) (hAB _).1) (cwV 2 hts (hx_gV kw_955 kw_952 kw_953 kw_954 kw_100) rfl rfl rfl (by decide +kernel) ⟨Nat.le_of_ble_eq_true rfl, Nat.le_of_ble_eq_true rfl⟩) rfl hl.1 rfl (Nat.le_of_ble_eq_true rfl) dX9_plan_124 ⟨Nat.le_of_ble_eq_true rfl, Nat.le_of_ble_eq_true rfl⟩) hW (fun L_91 h_92 H locs p_94 hW => ?_)
                  case o116 => omega
                  case o117 => omega
                  case o118 => omega
                  obtain ⟨⟨w_96, w_97, w_98, w_99, fw_96, fw_97, fw_98, fw_99, hr_95⟩, hT, hs⟩ := p_94
                  replace hT : hx_T T_tb L_91 h_92 := hT
                  replace hs : hx_S T_tb [(5, 0), (30, 0), (31, 0), (32, 0)] L_86 h_87 L_91 h_92 := hs
                  replace f_x_7 := (hs.o gx trivial rfl).2.trans f_x_7
                  replace f_x_10 := (hs.o gx trivial rfl).2.trans f_x_10
                  replace f_x_14 := (hs.o gx trivial rfl).2.trans f_x_14
                  replace f_x_5 := (hs.o gx trivial rfl).2.trans f_x_5
                  replace f_x_4 := (hs.o gx trivial rfl).2.trans f_x_4
                  replace f_x_17 := (hs.o gx trivial rfl).2.trans f_x_17
                  replace f_x_11 := (hs.o gx trivial rfl).1.trans f_x_11
                  replace f_x_2 := (hs.o gx trivial rfl).1.trans f_x_2
                  replace f_x_8 := (hs.o gx trivial rfl).1.trans f_x_8
                  replace f_x_6 := (hs.o gx trivial rfl).1.trans f_x_6
                  replace f_qpg_1 := (hs.o (gqpg.S hM) trivial rfl).1.trans f_qpg_1
                  replace ffv_23 := (hs.o gq_6 trivial rfl).1.trans ffv_23
                  replace ffv_24 := (hs.o gq_6 trivial rfl).1.trans ffv_24
                  replace fq_25 := (hs.o gq_21 trivial rfl).2.trans fq_25
                  replace fw_38 := (hs.o (gqpg.S hM) trivial rfl).1.trans fw_38
                  replace fw_39 := (hs.o (gqpg.S hM) trivial rfl).1.trans fw_39
                  replace fq_55 := (hs.o gq_54 trivial rfl).2.trans fq_55
                  replace ffv_59 := (hs.o gq_54 trivial rfl).1.trans ffv_59
                  replace ffv_61 := (hs.o gq_54 trivial rfl).1.trans ffv_61
                  replace ffv_63 := (hs.o gq_54 trivial rfl).1.trans ffv_63
                  replace ffv_65 := (hs.o gq_54 trivial rfl).1.trans ffv_65
                  replace ffv_67 := (hs.o gq_54 trivial rfl).1.trans ffv_67
                  replace ffv_69 := (hs.o gq_54 trivial rfl).1.trans ffv_69
                  replace ffv_72 := (hs.o gq_54 trivial rfl).1.trans ffv_72
                  replace fq_74 := (hs.o gq_54 trivial rfl).2.trans fq_74
                  replace fq_75 := (hs.o gq_74 trivial rfl).2.trans fq_75
                  replace pf_x_8 : ∀ j : Nat, (j : Int) < (h_92.2.1 x 8).toInt → h_92.2.2 qp j ≠ none := by
                    intro j hj; rw [(hs.o gx trivial rfl).1] at hj; rw [(hs.a gqp rfl j).2]; exact pf_x_8 j hj
                  replace pf_x_11 : ∀ j : Nat, (j : Int) < (h_92.2.1 x 11).toInt → h_92.2.2 qc j ≠ none := by
                    intro j hj; rw [(hs.o gx trivial rfl).1] at hj; rw [(hs.a gqc rfl j).2]; exact pf_x_11 j hj
                  replace pf_x_6 : ∀ j : Nat, (j : Int) < (h_92.2.1 x 6).toInt → h_92.2.2 qa j ≠ none := by
                    intro j hj; rw [(hs.o gx trivial rfl).1] at hj; rw [(hs.a gqa rfl j).2]; exact pf_x_6 j hj
                  replace cl_qc_13 : hx_col 100 h_92 qc 13 = odf := (hx_col_S hs hTo gqc tt_45 tt_2 rfl rfl).trans cl_qc_13
                  replace cl_qc_14 : hx_col 100 h_92 qc 14 = wkf := (hx_col_S hs hTo gqc tt_45 tt_2 rfl rfl).trans cl_qc_14
                  replace cl_qc_15 : hx_col 100 h_92 qc 15 = owf := (hx_col_S hs hTo gqc tt_45 tt_2 rfl rfl).trans cl_qc_15
                  replace cl_qc_16 : hx_col 100 h_92 qc 16 = szf := (hx_col_S hs hTo gqc tt_45 tt_2 rfl rfl).trans cl_qc_16
                  replace cl_qc_17 : hx_col 100 h_92 qc 17 = gdf := (hx_col_S hs hTo gqc tt_45 tt_2 rfl rfl).trans cl_qc_17
                  replace cl_qc_18 : hx_col 100 h_92 qc 18 = svf := (hx_col_S hs hTo gqc tt_45 tt_2 rfl rfl).trans cl_qc_18
                  replace cl_qp_3 : hx_col 40 h_92 qp 3 = eaf := (hx_col_S hs hTo gqp tt_44 tt_4 rfl rfl).trans cl_qp_3
                  replace cl_qp_4 : hx_col 40 h_92 qp 4 = hdf := (hx_col_S hs hTo gqp tt_44 tt_4 rfl rfl).trans cl_qp_4
                  replace nu_qp : hx_num 40 h_92 qp 0 (pn0.toInt) := hx_num_S hs hTo gqp tt_44 tt_4 rfl rfl nu_qp
                  replace nu_qc : hx_num 100 h_92 qc 0 (cn0.toInt) := hx_num_S hs hTo gqc tt_45 tt_2 rfl rfl nu_qc
                  replace hDF : hw_DF h_92 qc qp 2 agf cn0.toInt := hw_DF_S hs hTo gqc gqp tt_45 tt_2 rfl rfl rfl hDF
                  replace hAC : hv_AC h_92 qc plf cn0.toInt A := hv_AC_S hs hTo gqc tt_45 tt_2 rfl tt_0 rfl rfl rfl rfl rfl rfl rfl hAC
                  replace hRA : hv_RA h_92 qa w a0.toInt A := hv_RA_S hs hTo gqa gw tt_43 tt_0 rfl rfl rfl rfl rfl rfl ?o119 hRA
                  case o119 => omega
                  replace kk_22Q : hv_AQ h_92 q_21 (((kk_22 : Nat) : Int) - 1) (A kk_22) := hv_AQ_S hs hTo gq_21 tt_0 rfl rfl rfl rfl rfl kk_22Q
                  replace fo_9 := (hs.a gqp rfl _).2.trans fo_9
                  replace fq_54 := (hs.a gqc rfl _).2.trans fq_54
                  replace eoq_55 := (hs.a gqp rfl _).2.trans eoq_55
                  replace af_qcl : h_92.2.1 qcl = clf := (funext fun j => (hs.a (gqcl.S hM) rfl j).1).trans af_qcl
                  replace af_qwl : h_92.2.1 qwl = wlf := (funext fun j => (hs.a (gqwl.S hM) rfl j).1).trans af_qwl
                  replace af_qws : h_92.2.1 qws = wsf := (funext fun j => (hs.a (gqws.S hM) rfl j).1).trans af_qws
                  replace nfa_26 : h_92.2.1 q_25 = fa_26 := (funext fun j => (hs.a gq_25 rfl j).1).trans nfa_26
                  replace nfa_76 : h_92.2.1 q_75 = fa_76 := (funext fun j => (hs.a gq_75 rfl j).1).trans nfa_76
                  replace hM := hM.tr (hs.mono ?o120)
                  case o120 => decide
                  replace gx := gx.S hs
                  replace gqp := gqp.S hs
                  replace gqc := gqc.S hs
                  replace gqa := gqa.S hs
                  replace gw := gw.S hs
                  replace gq_6 := gq_6.S hs
                  replace gq_21 := gq_21.S hs
                  replace gq_25 := gq_25.S hs
                  replace gq_54 := gq_54.S hs
                  replace gq_55 := gq_55.S hs
                  replace gq_74 := gq_74.S hs
                  replace gq_75 := gq_75.S hs
                  have fw_96 : h_92.2.1 qpg 0 = w_96 := fw_96
                  have bw_96 := hT.gi (gqpg.S hM) tt_5 (k := 0) rfl
                  rw [fw_96] at bw_96
                  have bw_96 : 0 ≤ w_96.toInt ∧ w_96.toInt ≤ 4 := bw_96
                  have fw_97 : h_92.2.1 qop = w_97 := fw_97
                  have fw_98 : h_92.2.1 qre = w_98 := fw_98
                  have fw_99 : h_92.2.1 qle = w_99 := fw_99
                  obtain ⟨ao1, ao2, ao3, av9, ao4, ao5⟩ := hr_95
                  obtain ⟨x_100, ex_100⟩ : ∃ y : Int32, y = iv45_4 + Int32.ofInt 1 := ⟨_, rfl⟩
                  have rg_101 := i32_r iv45_4
                  have zx_100 : x_100.toInt = iv45_4.toInt + (1) := ?o121
                  case o121 =>
                    rw [ex_100]
                    refine i32_add rfl ?o122 ?o123 ?o124
                    case o122 => decide
                    case o123 => omega
                    case o124 => omega
                  refine lv_iinc (v := x_100) (lv' := [(4, .int x_100), (5, .ref q_54), (3, .ref q_6), (0, .ref x), (1, .int i1), (2, .int i2)]) hx hb dX9_plan_127 hl (k := 1) rfl ex_100.symm ?o125 rfl (fun ls hl => ?_)
                  case o125 => decide
                  refine lv_goto (tgt := 45) hx hb dX9_plan_130 ?o126 ?_
                  case o126 => decide
                  refine ih45 x_100 w_96 w_97 w_98 w_99 _ _ L_91 h_92 ?o127 ?o128 ?o129 ?o130 (hp_OQ_y vi45_0.1 vi45_0.2 ?o131 hag9 hpo9 ?o132 ao2 ao3 ao5 (by rw [cq_73]) (by rw [← hrs9.1]) (by rw [ao4, ← hrs9.1]) ao1 zx_100) ?o133 ls ?o134 hW hT hM fw_96 f_x_7 f_x_10 f_x_14 f_x_5 f_x_4 f_x_17 f_x_11 f_x_2 f_x_8 f_x_6 f_qpg_1 ffv_23 ffv_24 fq_25 fw_38 fw_39 gx gqp gqc gqa gw gq_6 gq_21 gq_25 pf_x_8 pf_x_11 pf_x_6 fw_97 fw_98 fw_99 af_qcl af_qwl af_qws nfa_26 cl_qc_13 cl_qc_14 cl_qc_15 cl_qc_16 cl_qc_17 cl_qc_18 cl_qp_3 cl_qp_4 nu_qp nu_qc fo_9 hDF hAC hRA kk_22Q (lv_sub hl [0, 2, 3, 4, 5] rfl)
                  case o127 => omega
                  case o128 => omega
                  case o129 => omega
                  case o130 => omega
                  case o131 => omega
                  case o132 => omega
                  case o133 => omega
                  case o134 => omega
                · skip
                  have hlm9 := hp_ol_m (ag := agf) (Rn := (hz_Rn odf szf gdf owf svf (hz_rc A plf) pof pdf psm pkf pst nw0.toInt n0.toInt.toNat)) (q := i1.toInt) (a := iv45_4.toInt.toNat + 1) cn0.toInt.toNat ?o135
                  case o135 => omega
                  have hlg9 : (hp_ol agf (hz_Rn odf szf gdf owf svf (hz_rc A plf) pof pdf psm pkf pst nw0.toInt n0.toInt.toNat) i1.toInt (iv45_4.toInt.toNat + 1)).length = (hp_ol agf (hz_Rn odf szf gdf owf svf (hz_rc A plf) pof pdf psm pkf pst nw0.toInt n0.toInt.toNat) i1.toInt iv45_4.toInt.toNat).length + 1 := ?o136
                  case o136 =>
                    simp only [hp_ol]
                    rw [if_pos ⟨hag9, hpo9⟩, List.length_append]
                    rfl
                  have hgt9 : 4 < (hp_ol agf (hz_Rn odf szf gdf owf svf (hz_rc A plf) pof pdf psm pkf pst nw0.toInt n0.toInt.toNat) i1.toInt cn0.toInt.toNat).length := ?o137
                  case o137 =>
                    have h9 := vi45_0.2
                    omega
                  refine lv_iconst (v := -1) hx hb dX9_plan_99 ?o138 ?_
                  case o138 => decide
                  refine hx_reti hx hb hr hlk hW ⟨⟨td0, clf, wlf, wsf, f_qpg_1, af_qcl, af_qwl, af_qws, (Or.inl ⟨Or.inr (Or.inl ⟨⟨⟨?o139, ?o140⟩, ?o141, ?o142⟩, hgt9, ?o143⟩), rfl, rfl, rfl, rfl⟩)⟩, hT, hM⟩ dX9_plan_100
                  case o139 => omega
                  case o140 => omega
                  case o141 => omega
                  case o142 => omega
                  case o143 => decide
      have zk_0 : (0 : Int32).toInt = 0 := ?o144
      case o144 => decide
      refine loop45 101 (0 : Int32) w_37 fa_40 fa_41 fa_42 _ _ L_32 h_33 ?o145 ?o146 ?o147 ?o148 (by rw [zk_0]; exact ⟨hp_OQ_0, (by have h9 := hr_36.1; show _ = ((0 : Nat) : Int); omega)⟩) ?o149 ls ?o150 hW hT hM fw_37 f_x_7 f_x_10 f_x_14 f_x_5 f_x_4 f_x_17 f_x_11 f_x_2 f_x_8 f_x_6 f_qpg_1 ffv_23 ffv_24 fq_25 fw_38 fw_39 gx gqp gqc gqa gw gq_6 gq_21 gq_25 pf_x_8 pf_x_11 pf_x_6 nfa_40 nfa_41 nfa_42 af_qcl af_qwl af_qws nfa_26 cl_qc_13 cl_qc_14 cl_qc_15 cl_qc_16 cl_qc_17 cl_qc_18 cl_qp_3 cl_qp_4 nu_qp nu_qc fo_9 hDF hAC hRA kk_22Q hl
      case o145 => decide
      case o146 => decide
      case o147 => omega
      case o148 => omega
      case o149 => omega
      case o150 => omega
    · skip
      replace hr_14 := hr_14.resolve_right (fun z9 => absurd (c_15.symm.trans z9.1) ?o151)
      case o151 => decide
      replace hr_14 := hr_14.2
      refine lv_iconst (v := -1) hx hb dX9_plan_20 ?o152 ?_
      case o152 => decide
      refine hx_reti hx hb hr hlk hW ⟨⟨td0, clf, wlf, wsf, f_qpg_1, af_qcl, af_qwl, af_qws, (Or.inl ⟨Or.inl ⟨(fun hc => by have h1 := hc.1; have h2 := hc.2; omega), ?o153⟩, rfl, rfl, rfl, rfl⟩)⟩, hT, hM⟩ dX9_plan_21
      case o153 => decide


set_option maxHeartbeats 4000000 in
set_option maxRecDepth 100000 in
theorem t_X9_planned_v (l : Launch) (dC : Nat → ClassId) (dI : Nat → Nat → Nat) (dA : Nat → ClassId) (L : List Nat) (h : hx_h) (sz : Nat) (x : Nat) (i1 : Int32) (i2 : Int32) (hT : hx_T T_tb L h) (gx : hx_g L h x 9) (qpg : Nat) (gqpg : hx_g L h qpg 5) (f_x_17 : h.2.2 x 17 = some qpg) (qwl : Nat) (gqwl : hx_g L h qwl 28) (f_qpg_3 : h.2.2 qpg 3 = some qwl) (qws : Nat) (gqws : hx_g L h qws 29) (f_qpg_4 : h.2.2 qpg 4 = some qws) (qcl : Nat) (gqcl : hx_g L h qcl 27) (f_qpg_2 : h.2.2 qpg 2 = some qcl) (clf : Nat → Int32) (af_qcl : h.2.1 qcl = clf) (wlf : Nat → Int32) (af_qwl : h.2.1 qwl = wlf) (wsf : Nat → Int32) (af_qws : h.2.1 qws = wsf) (td0 : Int32) (f_qpg_1 : h.2.1 qpg 1 = td0) : Met l yX9_planned (Cond.code yX9_planned cX9_planned 3 (some .int) :: hx_all) ({ frames := 0, cells := 0, slots := 0, locals := 0 }) (va_Pc [.ref x, .int i1, .int i2] (hx_B T_tb (P_ty dA) (dC, dI) vwCl L h sz)) (va_Qi (fun (r : Int32) (u : List Nat × hx_h) => (hp_PD i1.toInt i2.toInt td0.toInt clf wlf wsf r.toInt) ∧ hx_T T_tb u.1 u.2 ∧ hx_S T_tb [] L h u.1 u.2) (hx_E T_tb (P_ty dA) (dC, dI) vwCl (hx_A L sz)) (hx_A L sz)) 0 0 (hx_A L sz) := by
  refine hx_met (lv := [(0, .ref x), (1, .int i1), (2, .int i2)]) (by decide +kernel) rfl (Nat.le_of_ble_eq_true rfl) rfl ?_
  intro p e s m below meth c hx hb hml hr hlk hts0 hown hin hsz hW ls hl
  have hts : ∀ w ∈ hx_all, w.before _ s = true := fun w hw => hts0 w (List.mem_cons_of_mem _ hw)
  have hown : s.vm.findClass "SmallCourt" = some m.cls := hown
  have hM : hx_S T_tb [] L h L h := hx_S.rf
  have b_td0 := hT.gi gqpg tt_5 (k := 1) rfl
  rw [f_qpg_1] at b_td0
  have b_td0 : 0 ≤ td0.toInt ∧ td0.toInt ≤ 4 := b_td0
  refine lv_iload_n hx hb dX9_planned_0 rfl (lv_at hl 1 rfl) ?_
  refine hb_if_lt (zx := i1.toInt) (tgt := 15) hx hb rfl dX9_planned_1 ?o0 (fun c_1 => ?_) (fun c_1 => ?_)
  case o0 => decide
  · skip
    refine lv_iconst (v := -1) hx hb dX9_planned_15 ?o1 ?_
    case o1 => decide
    refine hx_reti hx hb hr hlk hW ⟨(Or.inl ⟨?o2, ?o3⟩), hT, hM⟩ dX9_planned_16
    case o2 => omega
    case o3 => decide
  · skip
    refine lv_iload_n hx hb dX9_planned_4 rfl (lv_at hl 1 rfl) ?_
    refine lv_aload_n hx hb dX9_planned_5 rfl (lv_at hl 0 rfl) ?_
    refine hk_getr hx hb hts hC_9 hown hW (gx.S hM) tt_9 17 ?o4 rfl kw_381 ⟨rfl, rfl, rfl⟩ ((hM.o gx trivial rfl).2.trans f_x_17) dX9_planned_6 ?_
    case o4 => decide
    refine hk_geti hx hb hts hC_5 hown hW (gqpg.S hM) tt_5 1 ?o5 rfl kw_261 ⟨rfl, rfl, rfl⟩ ((hM.o gqpg trivial rfl).1.trans f_qpg_1) dX9_planned_9 ?_
    case o5 => decide
    refine hb_icmp_lt (zx := i1.toInt) (zy := td0.toInt) (tgt := 17) hx hb rfl rfl dX9_planned_12 ?o6 (fun c_2 => ?_) (fun c_2 => ?_)
    case o6 => decide
    · skip
      refine lv_iload_n hx hb dX9_planned_17 rfl (lv_at hl 2 rfl) ?_
      rcases (show (i2.toInt < 0 ∨ 2 < i2.toInt) ∨ i2.toInt = 0 ∨ i2.toInt = 1 ∨ i2.toInt = 2 from by omega) with c_3 | c_3 | c_3 | c_3
      · refine lv_tableOut (tgt := 74) hx hb dX9_planned_18 c_3 ?o7 ?_
        case o7 => decide
        refine lv_iconst (v := -1) hx hb dX9_planned_74 ?o8 ?_
        case o8 => decide
        refine hx_reti hx hb hr hlk hW ⟨(Or.inr ⟨⟨?o9, ?o10⟩, Or.inr (Or.inr (Or.inr ⟨?o11, ?o12⟩))⟩), hT, hM⟩ dX9_planned_75
        case o9 => omega
        case o10 => omega
        case o11 => omega
        case o12 => decide
      · refine lv_tableIn (off := 26) (tgt := 44) hx hb dX9_planned_18 ?o13 ?o14 (by rw [c_3]; rfl) ?o15 ?_
        case o13 => omega
        case o14 => omega
        case o15 => decide
        refine lv_aload_n hx hb dX9_planned_44 rfl (lv_at hl 0 rfl) ?_
        refine hk_getr hx hb hts hC_9 hown hW (gx.S hM) tt_9 17 ?o16 rfl kw_381 ⟨rfl, rfl, rfl⟩ ((hM.o gx trivial rfl).2.trans f_x_17) dX9_planned_45 ?_
        case o16 => decide
        refine hk_getr hx hb hts hC_5 hown hW (gqpg.S hM) tt_5 2 ?o17 rfl kw_263 ⟨rfl, rfl, rfl⟩ ((hM.o gqpg trivial rfl).2.trans f_qpg_2) dX9_planned_48 ?_
        case o17 => decide
        refine lv_iload_n hx hb dX9_planned_51 rfl (lv_at hl 1 rfl) ?_
        refine hx_iald hx hb hW hT (gqcl.S hM) tt_27 rfl ⟨?o18, ?o19⟩ dX9_planned_52 (fun x_4 ex_4 lx_4 ux_4 => ?_)
        case o18 => omega
        case o19 => omega
        have ax_4 : x_4 = clf i1.toNatClampNeg := ex_4.trans (congrFun (hx_afS hM gqcl rfl af_qcl) _)
        refine hx_reti hx hb hr hlk hW ⟨(Or.inr ⟨⟨?o20, ?o21⟩, Or.inl ⟨?o22, congrArg Int32.toInt ax_4⟩⟩), hT, hM⟩ dX9_planned_53
        case o20 => omega
        case o21 => omega
        case o22 => omega
      · refine lv_tableIn (off := 36) (tgt := 54) hx hb dX9_planned_18 ?o23 ?o24 (by rw [c_3]; rfl) ?o25 ?_
        case o23 => omega
        case o24 => omega
        case o25 => decide
        refine lv_aload_n hx hb dX9_planned_54 rfl (lv_at hl 0 rfl) ?_
        refine hk_getr hx hb hts hC_9 hown hW (gx.S hM) tt_9 17 ?o26 rfl kw_381 ⟨rfl, rfl, rfl⟩ ((hM.o gx trivial rfl).2.trans f_x_17) dX9_planned_55 ?_
        case o26 => decide
        refine hk_getr hx hb hts hC_5 hown hW (gqpg.S hM) tt_5 3 ?o27 rfl kw_265 ⟨rfl, rfl, rfl⟩ ((hM.o gqpg trivial rfl).2.trans f_qpg_3) dX9_planned_58 ?_
        case o27 => decide
        refine lv_iload_n hx hb dX9_planned_61 rfl (lv_at hl 1 rfl) ?_
        refine hx_iald hx hb hW hT (gqwl.S hM) tt_28 rfl ⟨?o28, ?o29⟩ dX9_planned_62 (fun x_5 ex_5 lx_5 ux_5 => ?_)
        case o28 => omega
        case o29 => omega
        have ax_5 : x_5 = wlf i1.toNatClampNeg := ex_5.trans (congrFun (hx_afS hM gqwl rfl af_qwl) _)
        refine hx_reti hx hb hr hlk hW ⟨(Or.inr ⟨⟨?o30, ?o31⟩, Or.inr (Or.inl ⟨?o32, congrArg Int32.toInt ax_5⟩)⟩), hT, hM⟩ dX9_planned_63
        case o30 => omega
        case o31 => omega
        case o32 => omega
      · refine lv_tableIn (off := 46) (tgt := 64) hx hb dX9_planned_18 ?o33 ?o34 (by rw [c_3]; rfl) ?o35 ?_
        case o33 => omega
        case o34 => omega
        case o35 => decide
        refine lv_aload_n hx hb dX9_planned_64 rfl (lv_at hl 0 rfl) ?_
        refine hk_getr hx hb hts hC_9 hown hW (gx.S hM) tt_9 17 ?o36 rfl kw_381 ⟨rfl, rfl, rfl⟩ ((hM.o gx trivial rfl).2.trans f_x_17) dX9_planned_65 ?_
        case o36 => decide
        refine hk_getr hx hb hts hC_5 hown hW (gqpg.S hM) tt_5 4 ?o37 rfl kw_267 ⟨rfl, rfl, rfl⟩ ((hM.o gqpg trivial rfl).2.trans f_qpg_4) dX9_planned_68 ?_
        case o37 => decide
        refine lv_iload_n hx hb dX9_planned_71 rfl (lv_at hl 1 rfl) ?_
        refine hx_iald hx hb hW hT (gqws.S hM) tt_29 rfl ⟨?o38, ?o39⟩ dX9_planned_72 (fun x_6 ex_6 lx_6 ux_6 => ?_)
        case o38 => omega
        case o39 => omega
        have ax_6 : x_6 = wsf i1.toNatClampNeg := ex_6.trans (congrFun (hx_afS hM gqws rfl af_qws) _)
        refine hx_reti hx hb hr hlk hW ⟨(Or.inr ⟨⟨?o40, ?o41⟩, Or.inr (Or.inr (Or.inl ⟨?o42, congrArg Int32.toInt ax_6⟩))⟩), hT, hM⟩ dX9_planned_73
        case o40 => omega
        case o41 => omega
        case o42 => omega
    · skip
      refine lv_iconst (v := -1) hx hb dX9_planned_15 ?o43 ?_
      case o43 => decide
      refine hx_reti hx hb hr hlk hW ⟨(Or.inl ⟨?o44, ?o45⟩), hT, hM⟩ dX9_planned_16
      case o44 => omega
      case o45 => decide
end
