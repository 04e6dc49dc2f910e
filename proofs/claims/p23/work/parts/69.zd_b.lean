
set_option maxHeartbeats 4000000 in
set_option maxRecDepth 100000 in
theorem t_X5_clear_v (l : Launch) (dC : Nat → ClassId) (dI : Nat → Nat → Nat) (dA : Nat → ClassId) (L : List Nat) (h : hx_h) (sz : Nat) (x : Nat) (i1 : Int32) (i2 : Int32) (hT : hx_T T_tb L h) (gx : hx_g L h x 5)  : Met l yX5_clear (Cond.code yX5_clear cX5_clear 3 none :: hx_all) ({ frames := 0, cells := 0, slots := 0, locals := 0 }) (va_Pc [.ref x, .int i1, .int i2] (hx_B T_tb (P_ty dA) (dC, dI) vwCl L h sz)) (va_Qv (fun (u : List Nat × hx_h) => (∃ (o1 : Int32) (un1 : Int32) (me1 : Int32), u.2.2.1 x 0 = o1 ∧ u.2.2.1 x 9 = un1 ∧ u.2.2.1 x 10 = me1 ∧ (o1.toInt = 0 ∧ un1 = i1 ∧ me1 = i2)) ∧ hx_T T_tb u.1 u.2 ∧ hx_S T_tb [(5, 0), (5, 9), (5, 10)] L h u.1 u.2) (hx_E T_tb (P_ty dA) (dC, dI) vwCl (hx_A L sz)) (hx_A L sz)) 0 0 (hx_A L sz) := by
  refine hx_met (lv := [(0, .ref x), (1, .int i1), (2, .int i2)]) (by decide +kernel) rfl (Nat.le_of_ble_eq_true rfl) rfl ?_
  intro p e s m below meth c hx hb hml hr hlk hts0 hown hin hsz hW ls hl
  have hts : ∀ w ∈ hx_all, w.before _ s = true := fun w hw => hts0 w (List.mem_cons_of_mem _ hw)
  have hown : s.vm.findClass "SmallCourt$Plan" = some m.cls := hown
  have hM : hx_S T_tb [(5, 0), (5, 9), (5, 10)] L h L h := hx_S.rf
  refine lv_aload_n hx hb dX5_clear_0 rfl (lv_at hl 0 rfl) ?_
  refine lv_iconst (v := 0) hx hb dX5_clear_1 (by decide) ?_
  refine hx_puti hx hb hts hC_5 hown hW hT (hx_S.rf (M := [(5, 0)])) (gx.S hM) tt_5 0 (by decide) rfl kw_258 ⟨rfl, rfl, rfl⟩ rfl (x := (0 : Int32)) (by decide) rfl rfl rfl (List.mem_singleton.mpr rfl) dX5_clear_2 (fun H locs h_1 eh_1 hW hT hs => ?_)
  replace hM := hM.tr (hs.mono (by decide))
  have f_2 : h_1.2.1 x 0 = (0 : Int32) := by rw [eh_1]; exact hx_pi_at _ _ _ _
  refine lv_aload_n hx hb dX5_clear_5 rfl (lv_at hl 0 rfl) ?_
  refine lv_iload_n hx hb dX5_clear_6 rfl (lv_at hl 1 rfl) ?_
  refine hx_puti hx hb hts hC_5 hown hW hT (hx_S.rf (M := [(5, 9)])) (gx.S hM) tt_5 9 (by decide) rfl kw_272 ⟨rfl, rfl, rfl⟩ rfl (x := i1) (i32_r _) rfl rfl rfl (List.mem_singleton.mpr rfl) dX5_clear_7 (fun H locs h_3 eh_3 hW hT hs => ?_)
  replace f_2 := (hs.o (gx.S hM) trivial rfl).1.trans f_2
  replace hM := hM.tr (hs.mono (by decide))
  have f_4 : h_3.2.1 x 9 = i1 := by rw [eh_3]; exact hx_pi_at _ _ _ _
  refine lv_aload_n hx hb dX5_clear_10 rfl (lv_at hl 0 rfl) ?_
  refine lv_iload_n hx hb dX5_clear_11 rfl (lv_at hl 2 rfl) ?_
  refine hx_puti hx hb hts hC_5 hown hW hT (hx_S.rf (M := [(5, 10)])) (gx.S hM) tt_5 10 (by decide) rfl kw_273 ⟨rfl, rfl, rfl⟩ rfl (x := i2) (i32_r _) rfl rfl rfl (List.mem_singleton.mpr rfl) dX5_clear_12 (fun H locs h_5 eh_5 hW hT hs => ?_)
  replace f_2 := (hs.o (gx.S hM) trivial rfl).1.trans f_2
  replace f_4 := (hs.o (gx.S hM) trivial rfl).1.trans f_4
  replace hM := hM.tr (hs.mono (by decide))
  have f_6 : h_5.2.1 x 10 = i2 := by rw [eh_5]; exact hx_pi_at _ _ _ _
  have zo_0 : (0 : Int32).toInt = 0 := by decide
  exact hx_retv hx hb hr hlk hW ⟨⟨(0 : Int32), i1, i2, f_2, f_4, f_6, ⟨by decide, rfl, rfl⟩⟩, hT, hM⟩ dX5_clear_15


set_option maxHeartbeats 4000000 in
set_option maxRecDepth 100000 in
theorem t_X5_addOpen_v (l : Launch) (dC : Nat → ClassId) (dI : Nat → Nat → Nat) (dA : Nat → ClassId) (L : List Nat) (h : hx_h) (sz : Nat) (x : Nat) (v1 : Nat) (i1 : Int32) (hT : hx_T T_tb L h) (gx : hx_g L h x 5) (gv1 : hx_g L h v1 2) (qop : Nat) (gqop : hx_g L h qop 30) (f_x_5 : h.2.2 x 5 = some qop) (qre : Nat) (gqre : hx_g L h qre 31) (f_x_6 : h.2.2 x 6 = some qre) (qle : Nat) (gqle : hx_g L h qle 32) (f_x_7 : h.2.2 x 7 = some qle) (qac : Nat) (gqac : hx_g L h qac 0) (f_v1_3 : h.2.2 v1 3 = some qac) (qt : Nat) (gqt : hx_g L h qt 11) (f_qac_2 : h.2.2 qac 2 = some qt) (opf : Nat → Int32) (af_qop : h.2.1 qop = opf) (rsf : Nat → Int32) (af_qre : h.2.1 qre = rsf) (lef : Nat → Int32) (af_qle : h.2.1 qle = lef) (tf : Nat → Int32) (af_qt : h.2.1 qt = tf) (o0 : Int32) (f_x_0 : h.2.1 x 0 = o0) (nm : Int32) (f_v1_0 : h.2.1 v1 0 = nm) (ho : o0.toInt < 4) (hi1 : 0 ≤ i1.toInt ∧ i1.toInt ≤ 609999) (R : Nat → Int) (hR : hv_rC tf = R) (hRb : ∀ k, 0 ≤ R k ∧ R k ≤ 9999) : Met l yX5_addOpen (Cond.code yX5_addOpen cX5_addOpen 3 none :: hx_all) ({ frames := 1, cells := 0, slots := 0, locals := 21 }) (va_Pc [.ref x, .ref v1, .int i1] (hx_B T_tb (P_ty dA) (dC, dI) vwCl L h sz)) (va_Qv (fun (u : List Nat × hx_h) => (∃ (o1 : Int32) (opf1 : Nat → Int32) (rsf1 : Nat → Int32) (lef1 : Nat → Int32), u.2.2.1 x 0 = o1 ∧ u.2.2.1 qop = opf1 ∧ u.2.2.1 qre = rsf1 ∧ u.2.2.1 qle = lef1 ∧ (o1.toInt = o0.toInt + 1 ∧ opf1 = hx_up opf o0.toInt.toNat nm ∧ rsf1 = hx_up rsf o0.toInt.toNat i1 ∧ ∃ v : Int32, v.toInt = hz_mi (R 2) i1.toInt ∧ lef1 = hx_up lef o0.toInt.toNat v)) ∧ hx_T T_tb u.1 u.2 ∧ hx_S T_tb [(5, 0), (30, 0), (31, 0), (32, 0)] L h u.1 u.2) (hx_E T_tb (P_ty dA) (dC, dI) vwCl (hx_A L sz)) (hx_A L sz)) 0 0 (hx_A L sz) := by
  refine hx_met (lv := [(0, .ref x), (1, .ref v1), (2, .int i1)]) (by decide +kernel) rfl (Nat.le_of_ble_eq_true rfl) rfl ?_
  intro p e s m below meth c hx hb hml hr hlk hts0 hown hin hsz hW ls hl
  have hts : ∀ w ∈ hx_all, w.before _ s = true := fun w hw => hts0 w (List.mem_cons_of_mem _ hw)
  have hown : s.vm.findClass "SmallCourt$Plan" = some m.cls := hown
  have hM : hx_S T_tb [(5, 0), (30, 0), (31, 0), (32, 0)] L h L h := hx_S.rf
  have b_o0 := hT.gi gx tt_5 (k := 0) rfl
  rw [f_x_0] at b_o0
  have b_o0 : 0 ≤ o0.toInt ∧ o0.toInt ≤ 4 := b_o0
  have b_nm := hT.gi gv1 tt_2 (k := 0) rfl
  rw [f_v1_0] at b_nm
  have b_nm : 0 ≤ nm.toInt ∧ nm.toInt ≤ 99 := b_nm
  refine lv_aload_n hx hb dX5_addOpen_0 rfl (lv_at hl 0 rfl) ?_
  refine hk_geti hx hb hts hC_5 hown hW (gx.S hM) tt_5 0 (by decide) rfl kw_258 ⟨rfl, rfl, rfl⟩ f_x_0 dX5_addOpen_1 ?_
  refine lv_iconst (v := 4) hx hb dX5_addOpen_4 (by decide) ?_
  refine hb_icmp_ge (zx := o0.toInt) (zy := 4) (tgt := 63) hx hb rfl (by decide) dX5_addOpen_5 (by decide) (fun c_1 => by exfalso; omega) (fun c_1 => ?_)
  refine lv_aload_n hx hb dX5_addOpen_8 rfl (lv_at hl 0 rfl) ?_
  refine hk_getr hx hb hts hC_5 hown hW (gx.S hM) tt_5 5 (by decide) rfl kw_268 ⟨rfl, rfl, rfl⟩ ((hM.o gx trivial rfl).2.trans f_x_5) dX5_addOpen_9 ?_
  refine lv_aload_n hx hb dX5_addOpen_12 rfl (lv_at hl 0 rfl) ?_
  refine hk_geti hx hb hts hC_5 hown hW (gx.S hM) tt_5 0 (by decide) rfl kw_258 ⟨rfl, rfl, rfl⟩ f_x_0 dX5_addOpen_13 ?_
  refine lv_aload_n hx hb dX5_addOpen_16 rfl (lv_at hl 1 rfl) ?_
  refine hk_geti hx hb hts hC_2 hown hW (gv1.S hM) tt_2 0 (by decide) rfl kw_722 ⟨rfl, rfl, rfl⟩ ((hM.o gv1 trivial rfl).1.trans f_v1_0) dX5_addOpen_17 ?_
  have af_qopO := af_qop
  refine hx_iast hx hb hW hT (hx_S.rf (M := [(30, 0)])) (gqop.S hM) tt_30 rfl ⟨by omega, by omega⟩ rfl (i32_r _) (List.mem_singleton.mpr rfl) dX5_addOpen_20 (fun H locs h_2 eh_2 hW hT hs => ?_)
  replace f_x_0 := (hs.o (gx.S hM) trivial rfl).1.trans f_x_0
  replace af_qre : h_2.2.1 qre = rsf := (funext fun j => (hs.a (gqre.S hM) rfl j).1).trans af_qre
  replace af_qle : h_2.2.1 qle = lef := (funext fun j => (hs.a (gqle.S hM) rfl j).1).trans af_qle
  replace hM := hM.tr (hs.mono (by decide))
  obtain ⟨fa_3, dfa_3⟩ : ∃ g : Nat → Int32, g = hx_up opf o0.toNatClampNeg nm := ⟨_, rfl⟩
  have nfa_3 : h_2.2.1 qop = fa_3 := by rw [eh_2, dfa_3, ← af_qopO]; exact hx_pi_fun _ _ _ _
  refine lv_aload_n hx hb dX5_addOpen_21 rfl (lv_at hl 0 rfl) ?_
  refine hk_getr hx hb hts hC_5 hown hW (gx.S hM) tt_5 6 (by decide) rfl kw_269 ⟨rfl, rfl, rfl⟩ ((hM.o gx trivial rfl).2.trans f_x_6) dX5_addOpen_22 ?_
  refine lv_aload_n hx hb dX5_addOpen_25 rfl (lv_at hl 0 rfl) ?_
  refine hk_geti hx hb hts hC_5 hown hW (gx.S hM) tt_5 0 (by decide) rfl kw_258 ⟨rfl, rfl, rfl⟩ f_x_0 dX5_addOpen_26 ?_
  refine lv_iload_n hx hb dX5_addOpen_29 rfl (lv_at hl 2 rfl) ?_
  have af_qreO := af_qre
  refine hx_iast hx hb hW hT (hx_S.rf (M := [(31, 0)])) (gqre.S hM) tt_31 rfl ⟨by omega, by omega⟩ rfl (i32_r _) (List.mem_singleton.mpr rfl) dX5_addOpen_30 (fun H locs h_4 eh_4 hW hT hs => ?_)
  replace f_x_0 := (hs.o (gx.S hM) trivial rfl).1.trans f_x_0
  replace af_qle : h_4.2.1 qle = lef := (funext fun j => (hs.a (gqle.S hM) rfl j).1).trans af_qle
  replace nfa_3 : h_4.2.1 qop = fa_3 := (funext fun j => (hs.a (gqop.S hM) rfl j).1).trans nfa_3
  replace hM := hM.tr (hs.mono (by decide))
  obtain ⟨fa_5, dfa_5⟩ : ∃ g : Nat → Int32, g = hx_up rsf o0.toNatClampNeg i1 := ⟨_, rfl⟩
  have nfa_5 : h_4.2.1 qre = fa_5 := by rw [eh_4, dfa_5, ← af_qreO]; exact hx_pi_fun _ _ _ _
  refine lv_aload_n hx hb dX5_addOpen_31 rfl (lv_at hl 0 rfl) ?_
  refine hk_getr hx hb hts hC_5 hown hW (gx.S hM) tt_5 7 (by decide) rfl kw_270 ⟨rfl, rfl, rfl⟩ ((hM.o gx trivial rfl).2.trans f_x_7) dX5_addOpen_32 ?_
  refine lv_aload_n hx hb dX5_addOpen_35 rfl (lv_at hl 0 rfl) ?_
  refine hk_geti hx hb hts hC_5 hown hW (gx.S hM) tt_5 0 (by decide) rfl kw_258 ⟨rfl, rfl, rfl⟩ f_x_0 dX5_addOpen_36 ?_
  refine lv_aload_n hx hb dX5_addOpen_39 rfl (lv_at hl 1 rfl) ?_
  refine hk_getr hx hb hts hC_2 hown hW (gv1.S hM) tt_2 3 (by decide) rfl kw_735 ⟨rfl, rfl, rfl⟩ ((hM.o gv1 trivial rfl).2.trans f_v1_3) dX5_addOpen_40 ?_
  refine hk_getr hx hb hts hC_0 hown hW (gqac.S hM) tt_0 2 (by decide) rfl kw_169 ⟨rfl, rfl, rfl⟩ ((hM.o gqac trivial rfl).2.trans f_qac_2) dX5_addOpen_43 ?_
  refine lv_iconst (v := 3) hx hb dX5_addOpen_46 (by decide) ?_
  refine hx_iald hx hb hW hT (gqt.S hM) tt_11 rfl (by decide) dX5_addOpen_47 (fun x_6 ex_6 lx_6 ux_6 => ?_)
  have ax_6 : x_6 = tf (3 : Int32).toNatClampNeg := ex_6.trans (congrFun (hx_afS hM gqt rfl af_qt) _)
  have hR_7 : x_6.toInt = R 2 := by rw [← hR, ax_6, show (3 : Int32).toNatClampNeg = 3 from by decide]; rfl
  have hR_7b := hRb 2
  rw [← hR_7] at hR_7b
  refine lv_iload_n hx hb dX5_addOpen_48 rfl (lv_at hl 2 rfl) ?_
  refine va_mmin hx hb (hml.trans hl.1.symm) hown (hts _ kw_956) (hts _ kw_917) (hts _ kw_109) (hts _ kw_918) (Nat.le_of_ble_eq_true rfl) (Nat.le_of_ble_eq_true rfl) (Nat.le_of_ble_eq_true rfl) (Nat.le_of_ble_eq_true rfl) dX5_addOpen_49 ?_
  refine lv_topi (fun x_8 ex_8 => ?_)
  have hmi9 := hz_mi_e ex_8; rw [hR_7] at hmi9
  have af_qleO := af_qle
  refine hx_iast hx hb hW hT (hx_S.rf (M := [(32, 0)])) (gqle.S hM) tt_32 rfl ⟨by omega, by omega⟩ rfl (i32_r _) (List.mem_singleton.mpr rfl) dX5_addOpen_52 (fun H locs h_9 eh_9 hW hT hs => ?_)
  replace f_x_0 := (hs.o (gx.S hM) trivial rfl).1.trans f_x_0
  replace nfa_3 : h_9.2.1 qop = fa_3 := (funext fun j => (hs.a (gqop.S hM) rfl j).1).trans nfa_3
  replace nfa_5 : h_9.2.1 qre = fa_5 := (funext fun j => (hs.a (gqre.S hM) rfl j).1).trans nfa_5
  replace ex_6 := ex_6.trans (hs.a (gqt.S hM) rfl _).1.symm
  replace hM := hM.tr (hs.mono (by decide))
  obtain ⟨fa_10, dfa_10⟩ : ∃ g : Nat → Int32, g = hx_up lef o0.toNatClampNeg x_8 := ⟨_, rfl⟩
  have nfa_10 : h_9.2.1 qle = fa_10 := by rw [eh_9, dfa_10, ← af_qleO]; exact hx_pi_fun _ _ _ _
  refine lv_aload_n hx hb dX5_addOpen_53 rfl (lv_at hl 0 rfl) ?_
  refine lv_dup hx hb dX5_addOpen_54 rfl ?_
  refine hk_geti hx hb hts hC_5 hown hW (gx.S hM) tt_5 0 (by decide) rfl kw_258 ⟨rfl, rfl, rfl⟩ f_x_0 dX5_addOpen_55 ?_
  refine lv_iconst (v := 1) hx hb dX5_addOpen_58 (by decide) ?_
  refine lv_iadd hx hb dX5_addOpen_59 ?_
  have rg_11 := i32_r o0
  refine lv_topi (fun x_12 ex_12 => ?_)
  have zx_12 : x_12.toInt = o0.toInt + 1 := by rw [ex_12]; exact i32_add rfl (by decide) (by omega) (by omega)
  refine hx_puti hx hb hts hC_5 hown hW hT (hx_S.rf (M := [(5, 0)])) (gx.S hM) tt_5 0 (by decide) rfl kw_258 ⟨rfl, rfl, rfl⟩ rfl (x := x_12) ⟨by omega, by omega⟩ rfl rfl rfl (List.mem_singleton.mpr rfl) dX5_addOpen_60 (fun H locs h_13 eh_13 hW hT hs => ?_)
  replace nfa_3 : h_13.2.1 qop = fa_3 := (funext fun j => (hs.a (gqop.S hM) rfl j).1).trans nfa_3
  replace nfa_5 : h_13.2.1 qre = fa_5 := (funext fun j => (hs.a (gqre.S hM) rfl j).1).trans nfa_5
  replace nfa_10 : h_13.2.1 qle = fa_10 := (funext fun j => (hs.a (gqle.S hM) rfl j).1).trans nfa_10
  replace ex_6 := ex_6.trans (hs.a (gqt.S hM) rfl _).1.symm
  replace hM := hM.tr (hs.mono (by decide))
  have f_14 : h_13.2.1 x 0 = x_12 := by rw [eh_13]; exact hx_pi_at _ _ _ _
  exact hx_retv hx hb hr hlk hW ⟨⟨x_12, fa_3, fa_5, fa_10, f_14, nfa_3, nfa_5, nfa_10, ⟨by omega, dfa_3, dfa_5, ⟨x_8, hmi9, dfa_10⟩⟩⟩, hT, hM⟩ dX5_addOpen_63


set_option maxHeartbeats 4000000 in
set_option maxRecDepth 100000 in
theorem t_X5_leastFrom_v (l : Launch) (dC : Nat → ClassId) (dI : Nat → Nat → Nat) (dA : Nat → ClassId) (L : List Nat) (h : hx_h) (sz : Nat) (x : Nat) (i1 : Int32) (hT : hx_T T_tb L h) (gx : hx_g L h x 5) (qle : Nat) (gqle : hx_g L h qle 32) (f_x_7 : h.2.2 x 7 = some qle) (lef : Nat → Int32) (af_qle : h.2.1 qle = lef) (o0 : Int32) (f_x_0 : h.2.1 x 0 = o0) (a : Nat → Int) (ha : ∀ i : Nat, (i : Int) < o0.toInt → (lef i).toInt = a i) (hab : ∀ i : Nat, (i : Int) < o0.toInt → 1 ≤ a i ∧ a i ≤ 9999) (hi1 : 0 ≤ i1.toInt ∧ i1.toInt ≤ o0.toInt) : Met l yX5_leastFrom (Cond.code yX5_leastFrom cX5_leastFrom 4 (some .int) :: hx_all) ({ frames := 0, cells := 0, slots := 0, locals := 0 }) (va_Pc [.ref x, .int i1] (hx_B T_tb (P_ty dA) (dC, dI) vwCl L h sz)) (va_Qi (fun (r : Int32) (u : List Nat × hx_h) => (r.toInt = hp_s a o0.toInt.toNat - hp_s a i1.toInt.toNat ∧ (0 ≤ r.toInt ∧ r.toInt ≤ 39996)) ∧ hx_T T_tb u.1 u.2 ∧ hx_S T_tb [] L h u.1 u.2) (hx_E T_tb (P_ty dA) (dC, dI) vwCl (hx_A L sz)) (hx_A L sz)) 0 0 (hx_A L sz) := by
  refine hx_met (lv := [(0, .ref x), (1, .int i1)]) (by decide +kernel) rfl (Nat.le_of_ble_eq_true rfl) rfl ?_
  intro p e s m below meth c hx hb hml hr hlk hts0 hown hin hsz hW ls hl
  have hts : ∀ w ∈ hx_all, w.before _ s = true := fun w hw => hts0 w (List.mem_cons_of_mem _ hw)
  have hown : s.vm.findClass "SmallCourt$Plan" = some m.cls := hown
  have hM : hx_S T_tb [] L h L h := hx_S.rf
  have b_o0 := hT.gi gx tt_5 (k := 0) rfl
  rw [f_x_0] at b_o0
  have b_o0 : 0 ≤ o0.toInt ∧ o0.toInt ≤ 4 := b_o0
  refine lv_iconst (v := 0) hx hb dX5_leastFrom_0 (by decide) ?_
  refine lv_istore_n (lv' := [(2, .int (0 : Int32)), (0, .ref x), (1, .int i1)]) hx hb dX5_leastFrom_1 rfl hl (by decide) rfl (fun ls hl => ?_)
  refine lv_iload_n hx hb dX5_leastFrom_2 rfl (lv_at hl 2 rfl) ?_
  refine lv_istore_n (lv' := [(3, .int i1), (2, .int (0 : Int32)), (0, .ref x), (1, .int i1)]) hx hb dX5_leastFrom_3 rfl hl (by decide) rfl (fun ls hl => ?_)
  have loop4 : ∀ (n4 : Nat) (iv4_2 iv4_3 : Int32) (H : Heap) (locs : List Loc) (hL1 : List Nat) (hl1 : hx_h), 0 ≤ iv4_2.toInt → iv4_2.toInt ≤ 39996 → 0 ≤ iv4_3.toInt → iv4_3.toInt ≤ 5 → (iv4_2.toInt = hp_s a (iv4_3.toInt).toNat - hp_s a i1.toInt.toNat) → (iv4_2.toInt ≤ 9999 * (iv4_3.toInt - i1.toInt)) → (i1.toInt ≤ iv4_3.toInt) → (iv4_3.toInt ≤ o0.toInt) → ∀ (ls : Array Slot), 5 - iv4_3.toInt < (n4 : Int) → hx_W T_tb (P_ty dA) (dC, dI) vwCl (hx_A L sz) s.heap hL1 hl1 s H locs → hx_T T_tb hL1 hl1 → hx_S T_tb [] L h hL1 hl1 → lv_has ls 4 [(3, .int iv4_3), (2, .int iv4_2), (0, .ref x), (1, .int i1)] → W p l e ({ frames := 0, cells := 0, slots := 0, locals := 0 }) s m ([.ref x, .int i1] : List Value).toArray below meth c H locs 0 0 (MQ below (va_Qi (fun (r : Int32) (u : List Nat × hx_h) => (r.toInt = hp_s a o0.toInt.toNat - hp_s a i1.toInt.toNat ∧ (0 ≤ r.toInt ∧ r.toInt ≤ 39996)) ∧ hx_T T_tb u.1 u.2 ∧ hx_S T_tb [] L h u.1 u.2) (hx_E T_tb (P_ty dA) (dC, dI) vwCl (hx_A L sz)) (hx_A L sz)) ([.ref x, .int i1] : List Value).toArray s 0 0 (hx_A L sz)) (F0 m 4 ls []) := by
    intro n4
    induction n4 with
    | zero => intro iv4_2 iv4_3 H locs hL1 hl1 bliv4_2 buiv4_2 bliv4_3 buiv4_3 vi4_0 vi4_1 vi4_2 vi4_3 ls hn4; exfalso; omega
    | succ n4 ih4 =>
      intro iv4_2 iv4_3 H locs hL1 hl1 bliv4_2 buiv4_2 bliv4_3 buiv4_3 vi4_0 vi4_1 vi4_2 vi4_3 ls hn4 hW hT hM   hl
      refine lv_iload_n hx hb dX5_leastFrom_4 rfl (lv_at hl 0 rfl) ?_
      refine lv_aload_n hx hb dX5_leastFrom_5 rfl (lv_at hl 2 rfl) ?_
      refine hk_geti hx hb hts hC_5 hown hW (gx.S hM) tt_5 0 (by decide) rfl kw_258 ⟨rfl, rfl, rfl⟩ ((hM.o gx trivial rfl).1.trans f_x_0) dX5_leastFrom_6 ?_
      refine hb_icmp_ge (zx := iv4_3.toInt) (zy := o0.toInt) (tgt := 27) hx hb rfl rfl dX5_leastFrom_9 (by decide) (fun c_1 => ?_) (fun c_1 => ?_)
      · skip
        refine lv_iload_n hx hb dX5_leastFrom_27 rfl (lv_at hl 1 rfl) ?_
        exact hx_reti hx hb hr hlk hW ⟨⟨(by have h9 := vi4_0; rw [show iv4_3.toInt = o0.toInt by omega] at h9; exact h9), by omega, by omega⟩, hT, hM⟩ dX5_leastFrom_28
      · skip
        refine lv_iload_n hx hb dX5_leastFrom_12 rfl (lv_at hl 1 rfl) ?_
        refine lv_aload_n hx hb dX5_leastFrom_13 rfl (lv_at hl 2 rfl) ?_
        refine hk_getr hx hb hts hC_5 hown hW (gx.S hM) tt_5 7 (by decide) rfl kw_270 ⟨rfl, rfl, rfl⟩ ((hM.o gx trivial rfl).2.trans f_x_7) dX5_leastFrom_14 ?_
        refine lv_iload_n hx hb dX5_leastFrom_17 rfl (lv_at hl 0 rfl) ?_
        refine hx_iald hx hb hW hT (gqle.S hM) tt_32 rfl ⟨by omega, by omega⟩ dX5_leastFrom_18 (fun x_2 ex_2 lx_2 ux_2 => ?_)
        have ax_2 : x_2 = lef iv4_3.toNatClampNeg := ex_2.trans (congrFun (hx_afS hM gqle rfl af_qle) _)
        have hv9 : x_2.toInt = a iv4_3.toInt.toNat := by rw [ax_2]; exact ha _ (by unfold Int32.toNatClampNeg; omega)
        have hb9 := hab iv4_3.toInt.toNat (by omega); rw [← hv9] at hb9
        refine lv_iadd hx hb dX5_leastFrom_19 ?_
        have rg_3 := i32_r iv4_2
        have rg_4 := i32_r x_2
        refine lv_topi (fun x_5 ex_5 => ?_)
        have zx_5 : x_5.toInt = iv4_2.toInt + x_2.toInt := by rw [ex_5]; exact i32_add rfl rfl (by omega) (by omega)
        refine lv_istore_n (lv' := [(2, .int x_5), (3, .int iv4_3), (0, .ref x), (1, .int i1)]) hx hb dX5_leastFrom_20 rfl hl (by decide) rfl (fun ls hl => ?_)
        obtain ⟨x_6, ex_6⟩ : ∃ y : Int32, y = iv4_3 + Int32.ofInt 1 := ⟨_, rfl⟩
        have rg_7 := i32_r iv4_3
        have zx_6 : x_6.toInt = iv4_3.toInt + (1) := by rw [ex_6]; exact i32_add rfl (by decide) (by omega) (by omega)
        refine lv_iinc (v := x_6) (lv' := [(3, .int x_6), (2, .int x_5), (0, .ref x), (1, .int i1)]) hx hb dX5_leastFrom_21 hl (k := 1) rfl ex_6.symm (by decide) rfl (fun ls hl => ?_)
        refine lv_goto (tgt := 4) hx hb dX5_leastFrom_24 (by decide) ?_
        exact ih4 x_5 x_6 _ _ hL1 hl1 (by omega) (by omega) (by omega) (by omega) (hp_s_s vi4_0 (by omega) hv9 zx_5 zx_6) (by omega) (by omega) (by omega) ls (by omega) hW hT hM   (lv_sub hl [0, 1, 2, 3] rfl)
  have zk_0 : (0 : Int32).toInt = 0 := by decide
  exact loop4 6 (0 : Int32) i1 _ _ L h (by decide) (by decide) (by omega) (by omega) (by omega) (by omega) (by omega) (by omega) ls (by omega) hW hT hM   hl


set_option maxHeartbeats 4000000 in
set_option maxRecDepth 100000 in
theorem t_X5_keepIfBetter_v (l : Launch) (dC : Nat → ClassId) (dI : Nat → Nat → Nat) (dA : Nat → ClassId) (L : List Nat) (h : hx_h) (sz : Nat) (x : Nat) (i1 : Int32) (i2 : Int32) (hT : hx_T T_tb L h) (gx : hx_g L h x 5) (qtd : Nat) (gqtd : hx_g L h qtd 33) (f_x_8 : h.2.2 x 8 = some qtd) (qwl : Nat) (gqwl : hx_g L h qwl 28) (f_x_3 : h.2.2 x 3 = some qwl) (trf : Nat → Int32) (af_qtd : h.2.1 qtd = trf) (wkf : Nat → Int32) (af_qwl : h.2.1 qwl = wkf) (o0 : Int32) (f_x_0 : h.2.1 x 0 = o0) (bl0 : Int32) (f_x_11 : h.2.1 x 11 = bl0) (ba0 : Int32) (f_x_12 : h.2.1 x 12 = ba0) (a : Nat → Int) (uu : Int) (m5 : Nat → Int) (ht : ∀ i : Nat, (i : Int) < o0.toInt → (trf i).toInt = hp_w a uu m5 i) (s5 : hp_S) (hSR : hp_SR s5 bl0.toInt ba0.toInt wkf a uu o0.toInt) : Met l yX5_keepIfBetter (Cond.code yX5_keepIfBetter cX5_keepIfBetter 3 none :: hx_all) ({ frames := 1, cells := 0, slots := 0, locals := 40 }) (va_Pc [.ref x, .int i1, .int i2] (hx_B T_tb (P_ty dA) (dC, dI) vwCl L h sz)) (va_Qv (fun (u : List Nat × hx_h) => (∃ (bl1 : Int32) (ba1 : Int32) (wkf1 : Nat → Int32), u.2.2.1 x 11 = bl1 ∧ u.2.2.1 x 12 = ba1 ∧ u.2.2.1 qwl = wkf1 ∧ (hp_SR (if i1.toInt < s5.1 ∨ (i1.toInt = s5.1 ∧ i2.toInt < s5.2.1) then (i1.toInt, i2.toInt, m5) else s5) bl1.toInt ba1.toInt wkf1 a uu o0.toInt)) ∧ hx_T T_tb u.1 u.2 ∧ hx_S T_tb [(5, 11), (5, 12), (28, 0)] L h u.1 u.2) (hx_E T_tb (P_ty dA) (dC, dI) vwCl (hx_A L sz)) (hx_A L sz)) 0 0 (hx_A L sz) := by
  refine hx_met (lv := [(0, .ref x), (1, .int i1), (2, .int i2)]) (by decide +kernel) rfl (Nat.le_of_ble_eq_true rfl) rfl ?_
  intro p e s m below meth c hx hb hml hr hlk hts0 hown hin hsz hW ls hl
  have hts : ∀ w ∈ hx_all, w.before _ s = true := fun w hw => hts0 w (List.mem_cons_of_mem _ hw)
  have hown : s.vm.findClass "SmallCourt$Plan" = some m.cls := hown
  have hM : hx_S T_tb [(5, 11), (5, 12), (28, 0)] L h L h := hx_S.rf
  have b_o0 := hT.gi gx tt_5 (k := 0) rfl
  rw [f_x_0] at b_o0
  have b_o0 : 0 ≤ o0.toInt ∧ o0.toInt ≤ 4 := b_o0
  have b_bl0 := hT.gi gx tt_5 (k := 11) rfl
  rw [f_x_11] at b_bl0
  have b_bl0 : -2147483648 ≤ bl0.toInt ∧ bl0.toInt ≤ 2147483647 := b_bl0
  have b_ba0 := hT.gi gx tt_5 (k := 12) rfl
  rw [f_x_12] at b_ba0
  have b_ba0 : -2147483648 ≤ ba0.toInt ∧ ba0.toInt ≤ 2147483647 := b_ba0
  refine lv_iload_n hx hb dX5_keepIfBetter_0 rfl (lv_at hl 1 rfl) ?_
  refine lv_aload_n hx hb dX5_keepIfBetter_1 rfl (lv_at hl 0 rfl) ?_
  refine hk_geti hx hb hts hC_5 hown hW gx tt_5 11 (by decide) rfl kw_274 ⟨rfl, rfl, rfl⟩ f_x_11 dX5_keepIfBetter_2 ?_
  refine hb_icmp_lt (zx := i1.toInt) (zy := bl0.toInt) (tgt := 24) hx hb rfl rfl dX5_keepIfBetter_5 (by decide) (fun c_1 => ?_) (fun c_1 => ?_)
  · skip
    refine lv_aload_n hx hb dX5_keepIfBetter_24 rfl (lv_at hl 0 rfl) ?_
    refine lv_iload_n hx hb dX5_keepIfBetter_25 rfl (lv_at hl 1 rfl) ?_
    refine hx_puti hx hb hts hC_5 hown hW hT (hx_S.rf (M := [(5, 11)])) gx tt_5 11 (by decide) rfl kw_274 ⟨rfl, rfl, rfl⟩ rfl (x := i1) (i32_r _) rfl rfl rfl (List.mem_singleton.mpr rfl) dX5_keepIfBetter_26 (fun H locs h_2 eh_2 hW hT hs => ?_)
    replace f_x_8 := (hs.o gx trivial rfl).2.trans f_x_8
    replace f_x_3 := (hs.o gx trivial rfl).2.trans f_x_3
    replace f_x_0 := (hs.o gx trivial rfl).1.trans f_x_0
    replace f_x_12 := (hs.o gx trivial rfl).1.trans f_x_12
    replace af_qtd : h_2.2.1 qtd = trf := (funext fun j => (hs.a gqtd rfl j).1).trans af_qtd
    replace af_qwl : h_2.2.1 qwl = wkf := (funext fun j => (hs.a gqwl rfl j).1).trans af_qwl
    replace hM := hM.tr (hs.mono (by decide))
    replace gx := gx.S hs
    replace gqtd := gqtd.S hs
    replace gqwl := gqwl.S hs
    have f_3 : h_2.2.1 x 11 = i1 := by rw [eh_2]; exact hx_pi_at _ _ _ _
    refine lv_aload_n hx hb dX5_keepIfBetter_29 rfl (lv_at hl 0 rfl) ?_
    refine lv_iload_n hx hb dX5_keepIfBetter_30 rfl (lv_at hl 2 rfl) ?_
    refine hx_puti hx hb hts hC_5 hown hW hT (hx_S.rf (M := [(5, 12)])) gx tt_5 12 (by decide) rfl kw_275 ⟨rfl, rfl, rfl⟩ rfl (x := i2) (i32_r _) rfl rfl rfl (List.mem_singleton.mpr rfl) dX5_keepIfBetter_31 (fun H locs h_4 eh_4 hW hT hs => ?_)
    replace f_x_8 := (hs.o gx trivial rfl).2.trans f_x_8
    replace f_x_3 := (hs.o gx trivial rfl).2.trans f_x_3
    replace f_x_0 := (hs.o gx trivial rfl).1.trans f_x_0
    replace f_3 := (hs.o gx trivial rfl).1.trans f_3
    replace af_qtd : h_4.2.1 qtd = trf := (funext fun j => (hs.a gqtd rfl j).1).trans af_qtd
    replace af_qwl : h_4.2.1 qwl = wkf := (funext fun j => (hs.a gqwl rfl j).1).trans af_qwl
    replace hM := hM.tr (hs.mono (by decide))
    replace gx := gx.S hs
    replace gqtd := gqtd.S hs
    replace gqwl := gqwl.S hs
    have f_5 : h_4.2.1 x 12 = i2 := by rw [eh_4]; exact hx_pi_at _ _ _ _
    refine lv_aload_n hx hb dX5_keepIfBetter_34 rfl (lv_at hl 0 rfl) ?_
    refine hk_getr hx hb hts hC_5 hown hW gx tt_5 8 (by decide) rfl kw_271 ⟨rfl, rfl, rfl⟩ f_x_8 dX5_keepIfBetter_35 ?_
    refine lv_iconst (v := 0) hx hb dX5_keepIfBetter_38 (by decide) ?_
    refine lv_aload_n hx hb dX5_keepIfBetter_39 rfl (lv_at hl 0 rfl) ?_
    refine hk_getr hx hb hts hC_5 hown hW gx tt_5 3 (by decide) rfl kw_264 ⟨rfl, rfl, rfl⟩ f_x_3 dX5_keepIfBetter_40 ?_
    refine lv_iconst (v := 0) hx hb dX5_keepIfBetter_43 (by decide) ?_
    refine lv_aload_n hx hb dX5_keepIfBetter_44 rfl (lv_at hl 0 rfl) ?_
    refine hk_geti hx hb hts hC_5 hown hW gx tt_5 0 (by decide) rfl kw_258 ⟨rfl, rfl, rfl⟩ f_x_0 dX5_keepIfBetter_45 ?_
    have af_qtdO := af_qtd; have af_qwlO := af_qwl
    refine hz_copyi hx hb (hml.trans hl.1.symm) hown (hts _ kw_974) (hts _ kw_158) (hts _ kw_157) (hts _ kw_97) hW hT gqtd gqwl tt_33 tt_28 rfl (by decide) rfl rfl (by omega) (by omega) (by omega) (Nat.le_of_ble_eq_true rfl) (Nat.le_of_ble_eq_true rfl) dX5_keepIfBetter_48 (fun H locs h_6 eh_6 hW hT hs => ?_)
    replace f_x_8 := (hs.o gx trivial rfl).2.trans f_x_8
    replace f_x_3 := (hs.o gx trivial rfl).2.trans f_x_3
    replace f_x_0 := (hs.o gx trivial rfl).1.trans f_x_0
    replace f_3 := (hs.o gx trivial rfl).1.trans f_3
    replace f_5 := (hs.o gx trivial rfl).1.trans f_5
    replace af_qtd : h_6.2.1 qtd = trf := (funext fun j => (hs.a gqtd rfl j).1).trans af_qtd
    replace hM := hM.tr (hs.mono (by decide))
    replace gx := gx.S hs
    replace gqtd := gqtd.S hs
    replace gqwl := gqwl.S hs
    obtain ⟨fa_7, dfa_7⟩ : ∃ g : Nat → Int32, g = va_cpy trf wkf 0 0 o0.toNatClampNeg := ⟨_, rfl⟩
    have nfa_7 : h_6.2.1 qwl = fa_7 := by rw [eh_6, dfa_7, af_qtdO, af_qwlO]
    exact hx_retv hx hb hr hlk hW ⟨⟨i1, i2, fa_7, f_3, f_5, nfa_7, (hp_SR_y hSR (by omega) (fun i hi => by rw [dfa_7]; unfold va_cpy; rw [if_pos ⟨Nat.zero_le _, by unfold Int32.toNatClampNeg; omega⟩]; rw [show 0 + (i - 0) = i by omega]; exact ht i hi))⟩, hT, hM⟩ dX5_keepIfBetter_51
  · skip
    refine lv_iload_n hx hb dX5_keepIfBetter_8 rfl (lv_at hl 1 rfl) ?_
    refine lv_aload_n hx hb dX5_keepIfBetter_9 rfl (lv_at hl 0 rfl) ?_
    refine hk_geti hx hb hts hC_5 hown hW gx tt_5 11 (by decide) rfl kw_274 ⟨rfl, rfl, rfl⟩ f_x_11 dX5_keepIfBetter_10 ?_
    refine hb_icmp_ne (zx := i1.toInt) (zy := bl0.toInt) (tgt := 51) hx hb rfl rfl dX5_keepIfBetter_13 (by decide) (fun c_8 => ?_) (fun c_8 => ?_)
    · skip
      exact hx_retv hx hb hr hlk hW ⟨⟨bl0, ba0, wkf, f_x_11, f_x_12, af_qwl, (hp_SR_n hSR (by omega))⟩, hT, hM⟩ dX5_keepIfBetter_51
    · skip
      refine lv_iload_n hx hb dX5_keepIfBetter_16 rfl (lv_at hl 2 rfl) ?_
      refine lv_aload_n hx hb dX5_keepIfBetter_17 rfl (lv_at hl 0 rfl) ?_
      refine hk_geti hx hb hts hC_5 hown hW gx tt_5 12 (by decide) rfl kw_275 ⟨rfl, rfl, rfl⟩ f_x_12 dX5_keepIfBetter_18 ?_
      refine hb_icmp_ge (zx := i2.toInt) (zy := ba0.toInt) (tgt := 51) hx hb rfl rfl dX5_keepIfBetter_21 (by decide) (fun c_9 => ?_) (fun c_9 => ?_)
      · skip
        exact hx_retv hx hb hr hlk hW ⟨⟨bl0, ba0, wkf, f_x_11, f_x_12, af_qwl, (hp_SR_n hSR (by omega))⟩, hT, hM⟩ dX5_keepIfBetter_51
      · skip
        refine lv_aload_n hx hb dX5_keepIfBetter_24 rfl (lv_at hl 0 rfl) ?_
        refine lv_iload_n hx hb dX5_keepIfBetter_25 rfl (lv_at hl 1 rfl) ?_
        refine hx_puti hx hb hts hC_5 hown hW hT (hx_S.rf (M := [(5, 11)])) gx tt_5 11 (by decide) rfl kw_274 ⟨rfl, rfl, rfl⟩ rfl (x := i1) (i32_r _) rfl rfl rfl (List.mem_singleton.mpr rfl) dX5_keepIfBetter_26 (fun H locs h_10 eh_10 hW hT hs => ?_)
        replace f_x_8 := (hs.o gx trivial rfl).2.trans f_x_8
        replace f_x_3 := (hs.o gx trivial rfl).2.trans f_x_3
        replace f_x_0 := (hs.o gx trivial rfl).1.trans f_x_0
        replace f_x_12 := (hs.o gx trivial rfl).1.trans f_x_12
        replace af_qtd : h_10.2.1 qtd = trf := (funext fun j => (hs.a gqtd rfl j).1).trans af_qtd
        replace af_qwl : h_10.2.1 qwl = wkf := (funext fun j => (hs.a gqwl rfl j).1).trans af_qwl
        replace hM := hM.tr (hs.mono (by decide))
        replace gx := gx.S hs
        replace gqtd := gqtd.S hs
        replace gqwl := gqwl.S hs
        have f_11 : h_10.2.1 x 11 = i1 := by rw [eh_10]; exact hx_pi_at _ _ _ _
        refine lv_aload_n hx hb dX5_keepIfBetter_29 rfl (lv_at hl 0 rfl) ?_
        refine lv_iload_n hx hb dX5_keepIfBetter_30 rfl (lv_at hl 2 rfl) ?_
        refine hx_puti hx hb hts hC_5 hown hW hT (hx_S.rf (M := [(5, 12)])) gx tt_5 12 (by decide) rfl kw_275 ⟨rfl, rfl, rfl⟩ rfl (x := i2) (i32_r _) rfl rfl rfl (List.mem_singleton.mpr rfl) dX5_keepIfBetter_31 (fun H locs h_12 eh_12 hW hT hs => ?_)
        replace f_x_8 := (hs.o gx trivial rfl).2.trans f_x_8
        replace f_x_3 := (hs.o gx trivial rfl).2.trans f_x_3
        replace f_x_0 := (hs.o gx trivial rfl).1.trans f_x_0
        replace f_11 := (hs.o gx trivial rfl).1.trans f_11
        replace af_qtd : h_12.2.1 qtd = trf := (funext fun j => (hs.a gqtd rfl j).1).trans af_qtd
        replace af_qwl : h_12.2.1 qwl = wkf := (funext fun j => (hs.a gqwl rfl j).1).trans af_qwl
        replace hM := hM.tr (hs.mono (by decide))
        replace gx := gx.S hs
        replace gqtd := gqtd.S hs
        replace gqwl := gqwl.S hs
        have f_13 : h_12.2.1 x 12 = i2 := by rw [eh_12]; exact hx_pi_at _ _ _ _
        refine lv_aload_n hx hb dX5_keepIfBetter_34 rfl (lv_at hl 0 rfl) ?_
        refine hk_getr hx hb hts hC_5 hown hW gx tt_5 8 (by decide) rfl kw_271 ⟨rfl, rfl, rfl⟩ f_x_8 dX5_keepIfBetter_35 ?_
        refine lv_iconst (v := 0) hx hb dX5_keepIfBetter_38 (by decide) ?_
        refine lv_aload_n hx hb dX5_keepIfBetter_39 rfl (lv_at hl 0 rfl) ?_
        refine hk_getr hx hb hts hC_5 hown hW gx tt_5 3 (by decide) rfl kw_264 ⟨rfl, rfl, rfl⟩ f_x_3 dX5_keepIfBetter_40 ?_
        refine lv_iconst (v := 0) hx hb dX5_keepIfBetter_43 (by decide) ?_
        refine lv_aload_n hx hb dX5_keepIfBetter_44 rfl (lv_at hl 0 rfl) ?_
        refine hk_geti hx hb hts hC_5 hown hW gx tt_5 0 (by decide) rfl kw_258 ⟨rfl, rfl, rfl⟩ f_x_0 dX5_keepIfBetter_45 ?_
        have af_qtdO := af_qtd; have af_qwlO := af_qwl
        refine hz_copyi hx hb (hml.trans hl.1.symm) hown (hts _ kw_974) (hts _ kw_158) (hts _ kw_157) (hts _ kw_97) hW hT gqtd gqwl tt_33 tt_28 rfl (by decide) rfl rfl (by omega) (by omega) (by omega) (Nat.le_of_ble_eq_true rfl) (Nat.le_of_ble_eq_true rfl) dX5_keepIfBetter_48 (fun H locs h_14 eh_14 hW hT hs => ?_)
        replace f_x_8 := (hs.o gx trivial rfl).2.trans f_x_8
        replace f_x_3 := (hs.o gx trivial rfl).2.trans f_x_3
        replace f_x_0 := (hs.o gx trivial rfl).1.trans f_x_0
        replace f_11 := (hs.o gx trivial rfl).1.trans f_11
        replace f_13 := (hs.o gx trivial rfl).1.trans f_13
        replace af_qtd : h_14.2.1 qtd = trf := (funext fun j => (hs.a gqtd rfl j).1).trans af_qtd
        replace hM := hM.tr (hs.mono (by decide))
        replace gx := gx.S hs
        replace gqtd := gqtd.S hs
        replace gqwl := gqwl.S hs
        obtain ⟨fa_15, dfa_15⟩ : ∃ g : Nat → Int32, g = va_cpy trf wkf 0 0 o0.toNatClampNeg := ⟨_, rfl⟩
        have nfa_15 : h_14.2.1 qwl = fa_15 := by rw [eh_14, dfa_15, af_qtdO, af_qwlO]
        exact hx_retv hx hb hr hlk hW ⟨⟨i1, i2, fa_15, f_11, f_13, nfa_15, (hp_SR_y hSR (by omega) (fun i hi => by rw [dfa_15]; unfold va_cpy; rw [if_pos ⟨Nat.zero_le _, by unfold Int32.toNatClampNeg; omega⟩]; rw [show 0 + (i - 0) = i by omega]; exact ht i hi))⟩, hT, hM⟩ dX5_keepIfBetter_51


set_option maxHeartbeats 4000000 in
set_option maxRecDepth 100000 in
theorem t_X5_tryFrom_4v (l : Launch) (dC : Nat → ClassId) (dI : Nat → Nat → Nat) (dA : Nat → ClassId) (L : List Nat) (h : hx_h) (sz : Nat) (b0 : hx_z) (x : Nat) (i2 : Int32) (i3 : Int32) (i4 : Int32) (hT : hx_T T_tb L h) (gx : hx_g L h x 5) (qle : Nat) (gqle : hx_g L h qle 32) (f_x_7 : h.2.2 x 7 = some qle) (qre : Nat) (gqre : hx_g L h qre 31) (f_x_6 : h.2.2 x 6 = some qre) (qtd : Nat) (gqtd : hx_g L h qtd 33) (f_x_8 : h.2.2 x 8 = some qtd) (qwl : Nat) (gqwl : hx_g L h qwl 28) (f_x_3 : h.2.2 x 3 = some qwl) (lef : Nat → Int32) (af_qle : h.2.1 qle = lef) (rsf : Nat → Int32) (af_qre : h.2.1 qre = rsf) (trf : Nat → Int32) (af_qtd : h.2.1 qtd = trf) (wkf : Nat → Int32) (af_qwl : h.2.1 qwl = wkf) (o0 : Int32) (f_x_0 : h.2.1 x 0 = o0) (un0 : Int32) (f_x_9 : h.2.1 x 9 = un0) (me0 : Int32) (f_x_10 : h.2.1 x 10 = me0) (bl0 : Int32) (f_x_11 : h.2.1 x 11 = bl0) (ba0 : Int32) (f_x_12 : h.2.1 x 12 = ba0) (a : Nat → Int) (ha : ∀ i : Nat, (i : Int) < o0.toInt → (lef i).toInt = a i) (hab : ∀ i : Nat, (i : Int) < o0.toInt → 1 ≤ a i ∧ a i ≤ 9999) (r : Nat → Int) (hr5 : ∀ i : Nat, (i : Int) < o0.toInt → (rsf i).toInt = r i) (hrb : ∀ i : Nat, (i : Int) < o0.toInt → 1 ≤ r i ∧ r i ≤ 609999) (hun : 1 ≤ un0.toInt ∧ un0.toInt ≤ 99) (M : Int) (hMe : 1 ≤ o0.toInt → M = me0.toInt) (hMb : M ≤ 9999) (hpn : 4 ≤ o0.toInt) (K : Nat) (m5 : Nat → Int) (hB : hp_B o0.toInt.toNat 4 K m5) (hsp : i2.toInt = hp_s (hp_w a un0.toInt m5) 4) (hla : i3.toInt = hp_m (hp_k a r un0.toInt m5) 4) (hal : i4.toInt = hp_s (hp_k a r un0.toInt m5) 4) (htr : ∀ i : Nat, i < 4 → (trf i).toInt = hp_w a un0.toInt m5 i) (hfe : i2.toInt + (hp_s a o0.toInt.toNat - hp_s a 4) ≤ M) (hi2 : 0 ≤ i2.toInt ∧ i2.toInt ≤ 9999) (hi3 : 0 ≤ i3.toInt ∧ i3.toInt ≤ 609999) (hi4 : 0 ≤ i4.toInt ∧ i4.toInt ≤ 2439996) (s5 : hp_S) (hSR : hp_SR s5 bl0.toInt ba0.toInt wkf a un0.toInt o0.toInt) : Met l yX5_tryFrom (Cond.code yX5_tryFrom cX5_tryFrom 9 none :: hx_all) ({ frames := 2, cells := 0, slots := 0, locals := 62 }) (va_Pc [.ref x, .int (4 : Int32), .int i2, .int i3, .int i4] (hx_BX T_tb (P_ty dA) (dC, dI) vwCl L h sz b0)) (va_Qv (fun (u : List Nat × hx_h) => (∃ (bl1 : Int32) (ba1 : Int32) (wkf1 : Nat → Int32) (trf1 : Nat → Int32), u.2.2.1 x 11 = bl1 ∧ u.2.2.1 x 12 = ba1 ∧ u.2.2.1 qwl = wkf1 ∧ u.2.2.1 qtd = trf1 ∧ (hp_SR (hp_F (hp_f a r un0.toInt M o0.toInt.toNat) (K * 13 ^ (o0.toInt.toNat - 4)) (13 ^ (o0.toInt.toNat - 4)) s5) bl1.toInt ba1.toInt wkf1 a un0.toInt o0.toInt ∧ ∀ i : Nat, i < 4 → trf1 i = trf i)) ∧ hx_T T_tb u.1 u.2 ∧ hx_S T_tb [(5, 11), (5, 12), (28, 0)] L h u.1 u.2) (hx_E T_tb (P_ty dA) (dC, dI) vwCl (hx_A L sz)) (hx_A L sz)) 0 0 (hx_A L sz) := by
  refine hx_metX (lv := [(0, .ref x), (1, .int (4 : Int32)), (2, .int i2), (3, .int i3), (4, .int i4)]) (by decide +kernel) rfl (Nat.le_of_ble_eq_true rfl) rfl ?_
  intro p e s m below meth c hx hb hml hr hlk hts0 hown hin hsz hW hZ ls hl
  have hts : ∀ w ∈ hx_all, w.before _ s = true := fun w hw => hts0 w (List.mem_cons_of_mem _ hw)
  have hown : s.vm.findClass "SmallCourt$Plan" = some m.cls := hown
  have hM : hx_S T_tb [(5, 11), (5, 12), (28, 0)] L h L h := hx_S.rf
  have b_o0 := hT.gi gx tt_5 (k := 0) rfl
  rw [f_x_0] at b_o0
  have b_o0 : 0 ≤ o0.toInt ∧ o0.toInt ≤ 4 := b_o0
  have b_un0 := hT.gi gx tt_5 (k := 9) rfl
  rw [f_x_9] at b_un0
  have b_un0 : -2147483648 ≤ un0.toInt ∧ un0.toInt ≤ 2147483647 := b_un0
  have b_me0 := hT.gi gx tt_5 (k := 10) rfl
  rw [f_x_10] at b_me0
  have b_me0 : -2147483648 ≤ me0.toInt ∧ me0.toInt ≤ 2147483647 := b_me0
  have b_bl0 := hT.gi gx tt_5 (k := 11) rfl
  rw [f_x_11] at b_bl0
  have b_bl0 : -2147483648 ≤ bl0.toInt ∧ bl0.toInt ≤ 2147483647 := b_bl0
  have b_ba0 := hT.gi gx tt_5 (k := 12) rfl
  rw [f_x_12] at b_ba0
  have b_ba0 : -2147483648 ≤ ba0.toInt ∧ ba0.toInt ≤ 2147483647 := b_ba0
  refine lv_iload_n hx hb dX5_tryFrom_0 rfl (lv_at hl 1 rfl) ?_
  refine lv_aload_n hx hb dX5_tryFrom_1 rfl (lv_at hl 0 rfl) ?_
  refine hk_geti hx hb hts hC_5 hown hW (gx.S hM) tt_5 0 (by decide) rfl kw_258 ⟨rfl, rfl, rfl⟩ ((hM.o gx trivial rfl).1.trans f_x_0) dX5_tryFrom_2 ?_
  refine hb_icmp_lt (zx := 4) (zy := o0.toInt) (tgt := 16) hx hb (by decide) rfl dX5_tryFrom_5 (by decide) (fun c_1 => by exfalso; omega) (fun c_1 => ?_)
  have hdg9 := hp_B_e hB (show o0.toInt.toNat = 4 by omega)
  refine lv_aload_n hx hb dX5_tryFrom_8 rfl (lv_at hl 0 rfl) ?_
  refine lv_iload_n hx hb dX5_tryFrom_9 rfl (lv_at hl 3 rfl) ?_
  refine lv_iload hx hb dX5_tryFrom_10 (lv_at hl 4 rfl) ?_
  refine hx_gov (hx_runV (As := [.int i3, .int i4]) (rest := []) ⟨hx, hb, hml, hown, hts⟩ hW (gx.S hM) tt_5 (T := TX5) (N := 13) rfl (t_X5_keepIfBetter_v l dC dI dA L h s.heap.size x i3 i4 hT (gx.S hM) qtd (gqtd.S hM) ((hM.o gx trivial rfl).2.trans f_x_8) qwl (gqwl.S hM) ((hM.o gx trivial rfl).2.trans f_x_3) trf (hx_afS hM gqtd rfl af_qtd) wkf af_qwl o0 ((hM.o gx trivial rfl).1.trans f_x_0) bl0 f_x_11 ba0 f_x_12 a un0.toInt (hp_dg o0.toInt.toNat K) (fun i hi => by unfold hp_w; rw [hdg9 i (by omega)]; exact htr i (by omega)) s5 hSR) (cwV 2 hts (hx_gV kw_973 kw_970 kw_972 kw_35 kw_100) rfl rfl rfl (by decide +kernel) ⟨Nat.le_of_ble_eq_true rfl, Nat.le_of_ble_eq_true rfl⟩) rfl hl.1 rfl (Nat.le_of_ble_eq_true rfl) dX5_tryFrom_12 ⟨Nat.le_of_ble_eq_true rfl, Nat.le_of_ble_eq_true rfl⟩) hW (fun L_2 h_3 H locs p_5 hW => ?_)
  obtain ⟨⟨w_7, w_8, w_9, fw_7, fw_8, fw_9, hr_6⟩, hT, hs⟩ := p_5
  replace hT : hx_T T_tb L_2 h_3 := hT
  replace hs : hx_S T_tb [(5, 11), (5, 12), (28, 0)] L h L_2 h_3 := hs
  replace hM := hM.tr (hs.mono (by decide))
  have fw_7 : h_3.2.1 x 11 = w_7 := fw_7
  have bw_7 := hT.gi (gx.S hM) tt_5 (k := 11) rfl
  rw [fw_7] at bw_7
  have bw_7 : -2147483648 ≤ w_7.toInt ∧ w_7.toInt ≤ 2147483647 := bw_7
  have fw_8 : h_3.2.1 x 12 = w_8 := fw_8
  have bw_8 := hT.gi (gx.S hM) tt_5 (k := 12) rfl
  rw [fw_8] at bw_8
  have bw_8 : -2147483648 ≤ w_8.toInt ∧ w_8.toInt ≤ 2147483647 := bw_8
  have fw_9 : h_3.2.1 qwl = w_9 := fw_9
  exact hx_retv hx hb hr hlk hW ⟨⟨w_7, w_8, w_9, trf, fw_7, fw_8, fw_9, (hx_afS hM gqtd rfl af_qtd), ⟨(by rw [hp_leaf (show o0.toInt.toNat = 4 by omega) hdg9 hla hal (by have h9 := hfe; rw [show o0.toInt.toNat = 4 by omega] at h9; omega)]; exact hr_6), (fun i hi => rfl)⟩⟩, hT, hM⟩ dX5_tryFrom_15


set_option maxHeartbeats 4000000 in
set_option maxRecDepth 100000 in
theorem t_X5_tryFrom_3v (l : Launch) (dC : Nat → ClassId) (dI : Nat → Nat → Nat) (dA : Nat → ClassId) (L : List Nat) (h : hx_h) (sz : Nat) (b0 : hx_z) (x : Nat) (i2 : Int32) (i3 : Int32) (i4 : Int32) (hT : hx_T T_tb L h) (gx : hx_g L h x 5) (qle : Nat) (gqle : hx_g L h qle 32) (f_x_7 : h.2.2 x 7 = some qle) (qre : Nat) (gqre : hx_g L h qre 31) (f_x_6 : h.2.2 x 6 = some qre) (qtd : Nat) (gqtd : hx_g L h qtd 33) (f_x_8 : h.2.2 x 8 = some qtd) (qwl : Nat) (gqwl : hx_g L h qwl 28) (f_x_3 : h.2.2 x 3 = some qwl) (lef : Nat → Int32) (af_qle : h.2.1 qle = lef) (rsf : Nat → Int32) (af_qre : h.2.1 qre = rsf) (trf : Nat → Int32) (af_qtd : h.2.1 qtd = trf) (wkf : Nat → Int32) (af_qwl : h.2.1 qwl = wkf) (o0 : Int32) (f_x_0 : h.2.1 x 0 = o0) (un0 : Int32) (f_x_9 : h.2.1 x 9 = un0) (me0 : Int32) (f_x_10 : h.2.1 x 10 = me0) (bl0 : Int32) (f_x_11 : h.2.1 x 11 = bl0) (ba0 : Int32) (f_x_12 : h.2.1 x 12 = ba0) (a : Nat → Int) (ha : ∀ i : Nat, (i : Int) < o0.toInt → (lef i).toInt = a i) (hab : ∀ i : Nat, (i : Int) < o0.toInt → 1 ≤ a i ∧ a i ≤ 9999) (r : Nat → Int) (hr5 : ∀ i : Nat, (i : Int) < o0.toInt → (rsf i).toInt = r i) (hrb : ∀ i : Nat, (i : Int) < o0.toInt → 1 ≤ r i ∧ r i ≤ 609999) (hun : 1 ≤ un0.toInt ∧ un0.toInt ≤ 99) (M : Int) (hMe : 1 ≤ o0.toInt → M = me0.toInt) (hMb : M ≤ 9999) (hpn : 3 ≤ o0.toInt) (K : Nat) (m5 : Nat → Int) (hB : hp_B o0.toInt.toNat 3 K m5) (hsp : i2.toInt = hp_s (hp_w a un0.toInt m5) 3) (hla : i3.toInt = hp_m (hp_k a r un0.toInt m5) 3) (hal : i4.toInt = hp_s (hp_k a r un0.toInt m5) 3) (htr : ∀ i : Nat, i < 3 → (trf i).toInt = hp_w a un0.toInt m5 i) (hfe : i2.toInt + (hp_s a o0.toInt.toNat - hp_s a 3) ≤ M) (hi2 : 0 ≤ i2.toInt ∧ i2.toInt ≤ 9999) (hi3 : 0 ≤ i3.toInt ∧ i3.toInt ≤ 609999) (hi4 : 0 ≤ i4.toInt ∧ i4.toInt ≤ 1829997) (s5 : hp_S) (hSR : hp_SR s5 bl0.toInt ba0.toInt wkf a un0.toInt o0.toInt) : Met l yX5_tryFrom (Cond.code yX5_tryFrom cX5_tryFrom 9 none :: hx_all) ({ frames := 3, cells := 0, slots := 0, locals := 90 }) (va_Pc [.ref x, .int (3 : Int32), .int i2, .int i3, .int i4] (hx_BX T_tb (P_ty dA) (dC, dI) vwCl L h sz b0)) (va_Qv (fun (u : List Nat × hx_h) => (∃ (bl1 : Int32) (ba1 : Int32) (wkf1 : Nat → Int32) (trf1 : Nat → Int32), u.2.2.1 x 11 = bl1 ∧ u.2.2.1 x 12 = ba1 ∧ u.2.2.1 qwl = wkf1 ∧ u.2.2.1 qtd = trf1 ∧ (hp_SR (hp_F (hp_f a r un0.toInt M o0.toInt.toNat) (K * 13 ^ (o0.toInt.toNat - 3)) (13 ^ (o0.toInt.toNat - 3)) s5) bl1.toInt ba1.toInt wkf1 a un0.toInt o0.toInt ∧ ∀ i : Nat, i < 3 → trf1 i = trf i)) ∧ hx_T T_tb u.1 u.2 ∧ hx_S T_tb [(5, 11), (5, 12), (28, 0), (33, 0)] L h u.1 u.2) (hx_E T_tb (P_ty dA) (dC, dI) vwCl (hx_A L sz)) (hx_A L sz)) 0 0 (hx_A L sz) := by
  refine hx_metX (lv := [(0, .ref x), (1, .int (3 : Int32)), (2, .int i2), (3, .int i3), (4, .int i4)]) (by decide +kernel) rfl (Nat.le_of_ble_eq_true rfl) rfl ?_
  intro p e s m below meth c hx hb hml hr hlk hts0 hown hin hsz hW hZ ls hl
  have hts : ∀ w ∈ hx_all, w.before _ s = true := fun w hw => hts0 w (List.mem_cons_of_mem _ hw)
  have hown : s.vm.findClass "SmallCourt$Plan" = some m.cls := hown
  have hM : hx_S T_tb [(5, 11), (5, 12), (28, 0), (33, 0)] L h L h := hx_S.rf
  have b_o0 := hT.gi gx tt_5 (k := 0) rfl
  rw [f_x_0] at b_o0
  have b_o0 : 0 ≤ o0.toInt ∧ o0.toInt ≤ 4 := b_o0
  have b_un0 := hT.gi gx tt_5 (k := 9) rfl
  rw [f_x_9] at b_un0
  have b_un0 : -2147483648 ≤ un0.toInt ∧ un0.toInt ≤ 2147483647 := b_un0
  have b_me0 := hT.gi gx tt_5 (k := 10) rfl
  rw [f_x_10] at b_me0
  have b_me0 : -2147483648 ≤ me0.toInt ∧ me0.toInt ≤ 2147483647 := b_me0
  have b_bl0 := hT.gi gx tt_5 (k := 11) rfl
  rw [f_x_11] at b_bl0
  have b_bl0 : -2147483648 ≤ bl0.toInt ∧ bl0.toInt ≤ 2147483647 := b_bl0
  have b_ba0 := hT.gi gx tt_5 (k := 12) rfl
  rw [f_x_12] at b_ba0
  have b_ba0 : -2147483648 ≤ ba0.toInt ∧ ba0.toInt ≤ 2147483647 := b_ba0
  refine lv_iload_n hx hb dX5_tryFrom_0 rfl (lv_at hl 1 rfl) ?_
  refine lv_aload_n hx hb dX5_tryFrom_1 rfl (lv_at hl 0 rfl) ?_
  refine hk_geti hx hb hts hC_5 hown hW (gx.S hM) tt_5 0 (by decide) rfl kw_258 ⟨rfl, rfl, rfl⟩ ((hM.o gx trivial rfl).1.trans f_x_0) dX5_tryFrom_2 ?_
  refine hb_icmp_lt (zx := 3) (zy := o0.toInt) (tgt := 16) hx hb (by decide) rfl dX5_tryFrom_5 (by decide) (fun c_1 => ?_) (fun c_1 => ?_)
  · skip
    have hD9 := hp_pw (n := o0.toInt.toNat) (p := 3) (by omega)
    refine lv_aload_n hx hb dX5_tryFrom_16 rfl (lv_at hl 0 rfl) ?_
    refine lv_iload_n hx hb dX5_tryFrom_17 rfl (lv_at hl 1 rfl) ?_
    refine lv_iconst (v := 1) hx hb dX5_tryFrom_18 (by decide) ?_
    refine lv_iadd hx hb dX5_tryFrom_19 ?_
    refine lv_topi (fun x_2 ex_2 => ?_)
    obtain rfl : x_2 = (4 : Int32) := ex_2.trans (by decide)
    have zc_4 : (4 : Int32).toInt = 4 := by decide
    refine hx_goi (hx_runV (As := [.int (4 : Int32)]) (rest := []) ⟨hx, hb, hml, hown, hts⟩ hW (gx.S hM) tt_5 (T := TX5) (N := 13) rfl (t_X5_leastFrom_v l dC dI dA L h s.heap.size x (4 : Int32) hT (gx.S hM) qle (gqle.S hM) ((hM.o gx trivial rfl).2.trans f_x_7) lef (hx_afS hM gqle rfl af_qle) o0 ((hM.o gx trivial rfl).1.trans f_x_0) a ha hab ⟨by omega, by omega⟩) (cwV 1 hts (hx_gV kw_964 kw_961 kw_963 kw_33 kw_100) rfl rfl rfl (by decide +kernel) ⟨Nat.le_of_ble_eq_true rfl, Nat.le_of_ble_eq_true rfl⟩) rfl hl.1 rfl (Nat.le_of_ble_eq_true rfl) dX5_tryFrom_20 ⟨Nat.le_of_ble_eq_true rfl, Nat.le_of_ble_eq_true rfl⟩) hW (fun r_5 L_3 h_4 H locs p_6 hW => ?_)
    obtain ⟨hr_7, hT, hs⟩ := p_6
    replace hT : hx_T T_tb L_3 h_4 := hT
    replace hs : hx_S T_tb [] L h L_3 h_4 := hs
    replace f_x_11 := (hs.o (gx.S hM) trivial rfl).1.trans f_x_11
    replace f_x_12 := (hs.o (gx.S hM) trivial rfl).1.trans f_x_12
    replace af_qtd : h_4.2.1 qtd = trf := (funext fun j => (hs.a (gqtd.S hM) rfl j).1).trans af_qtd
    replace af_qwl : h_4.2.1 qwl = wkf := (funext fun j => (hs.a (gqwl.S hM) rfl j).1).trans af_qwl
    replace hM := hM.tr (hs.mono (by decide))
    have hlf9 := hr_7.1; rw [zc_4, show (4 : Int).toNat = 4 from rfl] at hlf9
    refine lv_istore (lv' := [(5, .int r_5), (0, .ref x), (1, .int (3 : Int32)), (2, .int i2), (3, .int i3), (4, .int i4)]) hx hb dX5_tryFrom_23 hl (by decide) rfl (fun ls hl => ?_)
    refine lv_iconst (v := 0) hx hb dX5_tryFrom_25 (by decide) ?_
    refine lv_istore (lv' := [(6, .int (0 : Int32)), (5, .int r_5), (0, .ref x), (1, .int (3 : Int32)), (2, .int i2), (3, .int i3), (4, .int i4)]) hx hb dX5_tryFrom_26 hl (by decide) rfl (fun ls hl => ?_)
    have loop28 : ∀ (n28 : Nat) (iv28_6 fw28_x_11 fw28_x_12 : Int32) (ia28_qtd ia28_qwl : Nat → Int32) (H : Heap) (locs : List Loc) (hL1 : List Nat) (hl1 : hx_h), 0 ≤ iv28_6.toInt → iv28_6.toInt ≤ 13 → -2147483648 ≤ fw28_x_11.toInt → fw28_x_11.toInt ≤ 2147483647 → -2147483648 ≤ fw28_x_12.toInt → fw28_x_12.toInt ≤ 2147483647 → (hp_SR (hp_F (hp_f a r un0.toInt M o0.toInt.toNat) (K * (13 * 13 ^ (o0.toInt.toNat - 4))) ((iv28_6.toInt).toNat * 13 ^ (o0.toInt.toNat - 4)) s5) fw28_x_11.toInt fw28_x_12.toInt ia28_qwl a un0.toInt o0.toInt) → (∀ i : Nat, i < 3 → ia28_qtd i = trf i) → ∀ (ls : Array Slot), 13 - iv28_6.toInt < (n28 : Int) → hx_W T_tb (P_ty dA) (dC, dI) vwCl (hx_A L sz) s.heap hL1 hl1 s H locs → hx_T T_tb hL1 hl1 → hx_S T_tb [(5, 11), (5, 12), (28, 0), (33, 0)] L h hL1 hl1 → hl1.2.1 x 11 = fw28_x_11 → hl1.2.1 x 12 = fw28_x_12 → hl1.2.1 qtd = ia28_qtd → hl1.2.1 qwl = ia28_qwl → lv_has ls 9 [(6, .int iv28_6), (5, .int r_5), (0, .ref x), (1, .int (3 : Int32)), (2, .int i2), (3, .int i3), (4, .int i4)] → W p l e ({ frames := 3, cells := 0, slots := 0, locals := 90 }) s m ([.ref x, .int (3 : Int32), .int i2, .int i3, .int i4] : List Value).toArray below meth c H locs 0 0 (MQ below (va_Qv (fun (u : List Nat × hx_h) => (∃ (bl1 : Int32) (ba1 : Int32) (wkf1 : Nat → Int32) (trf1 : Nat → Int32), u.2.2.1 x 11 = bl1 ∧ u.2.2.1 x 12 = ba1 ∧ u.2.2.1 qwl = wkf1 ∧ u.2.2.1 qtd = trf1 ∧ (hp_SR (hp_F (hp_f a r un0.toInt M o0.toInt.toNat) (K * 13 ^ (o0.toInt.toNat - 3)) (13 ^ (o0.toInt.toNat - 3)) s5) bl1.toInt ba1.toInt wkf1 a un0.toInt o0.toInt ∧ ∀ i : Nat, i < 3 → trf1 i = trf i)) ∧ hx_T T_tb u.1 u.2 ∧ hx_S T_tb [(5, 11), (5, 12), (28, 0), (33, 0)] L h u.1 u.2) (hx_E T_tb (P_ty dA) (dC, dI) vwCl (hx_A L sz)) (hx_A L sz)) ([.ref x, .int (3 : Int32), .int i2, .int i3, .int i4] : List Value).toArray s 0 0 (hx_A L sz)) (F0 m 28 ls []) := by
      intro n28
      induction n28 with
      | zero => intro iv28_6 fw28_x_11 fw28_x_12 ia28_qtd ia28_qwl H locs hL1 hl1 bliv28_6 buiv28_6 blfw28_x_11 bufw28_x_11 blfw28_x_12 bufw28_x_12 vi28_0 vi28_1 ls hn28; exfalso; omega
      | succ n28 ih28 =>
        intro iv28_6 fw28_x_11 fw28_x_12 ia28_qtd ia28_qwl H locs hL1 hl1 bliv28_6 buiv28_6 blfw28_x_11 bufw28_x_11 blfw28_x_12 bufw28_x_12 vi28_0 vi28_1 ls hn28 hW hT hM ffw28_x_11 ffw28_x_12 nia28_qtd nia28_qwl hl
        refine lv_iload hx hb dX5_tryFrom_28 (lv_at hl 0 rfl) ?_
        refine lv_bipush (v := 12) hx hb dX5_tryFrom_30 (by decide) ?_
        refine hb_icmp_gt (zx := iv28_6.toInt) (zy := 12) (tgt := 124) hx hb rfl (by decide) dX5_tryFrom_32 (by decide) (fun c_8 => ?_) (fun c_8 => ?_)
        · skip
          exact hx_retv hx hb hr hlk hW ⟨⟨fw28_x_11, fw28_x_12, ia28_qwl, ia28_qtd, ffw28_x_11, ffw28_x_12, nia28_qwl, nia28_qtd, ⟨(by rw [hD9]; have h9 := vi28_0; rw [show iv28_6.toInt.toNat = 13 by omega] at h9; exact h9), vi28_1⟩⟩, hT, hM⟩ dX5_tryFrom_124
        · skip
          refine lv_aload_n hx hb dX5_tryFrom_35 rfl (lv_at hl 2 rfl) ?_
          refine hk_getr hx hb hts hC_5 hown hW (gx.S hM) tt_5 7 (by decide) rfl kw_270 ⟨rfl, rfl, rfl⟩ ((hM.o gx trivial rfl).2.trans f_x_7) dX5_tryFrom_36 ?_
          refine lv_iload_n hx hb dX5_tryFrom_39 rfl (lv_at hl 3 rfl) ?_
          refine hx_iald hx hb hW hT (gqle.S hM) tt_32 rfl (by decide) dX5_tryFrom_40 (fun x_9 ex_9 lx_9 ux_9 => ?_)
          have ax_9 : x_9 = lef (3 : Int32).toNatClampNeg := ex_9.trans (congrFun (hx_afS hM gqle rfl af_qle) _)
          have hav9 : x_9.toInt = a 3 := by rw [ax_9, show (3 : Int32).toNatClampNeg = 3 from by decide]; exact ha 3 (by omega)
          have hab9 := hab 3 (by omega); rw [← hav9] at hab9
          refine lv_iload hx hb dX5_tryFrom_41 (lv_at hl 0 rfl) ?_
          refine lv_aload_n hx hb dX5_tryFrom_43 rfl (lv_at hl 2 rfl) ?_
          refine hk_geti hx hb hts hC_5 hown hW (gx.S hM) tt_5 9 (by decide) rfl kw_272 ⟨rfl, rfl, rfl⟩ ((hM.o gx trivial rfl).1.trans f_x_9) dX5_tryFrom_44 ?_
          refine lv_imul hx hb dX5_tryFrom_47 ?_
          refine lv_topi (fun x_10 ex_10 => ?_)
          have mx_10 : iv28_6.toInt = 0 → x_10.toInt = 0 := fun z => by rw [ex_10]; exact hx_mul0 z
          obtain ⟨m9, m9l, m9h⟩ := hp_mul ⟨by omega, by omega⟩ ⟨by omega, by omega⟩ ex_10
          refine lv_iadd hx hb dX5_tryFrom_48 ?_
          have rg_11 := i32_r x_9
          have rg_12 := i32_r x_10
          refine lv_topi (fun x_13 ex_13 => ?_)
          have zx_13 : x_13.toInt = x_9.toInt + x_10.toInt := by rw [ex_13]; exact i32_add rfl rfl (by omega) (by omega)
          refine lv_istore (lv' := [(7, .int x_13), (6, .int iv28_6), (5, .int r_5), (0, .ref x), (1, .int (3 : Int32)), (2, .int i2), (3, .int i3), (4, .int i4)]) hx hb dX5_tryFrom_49 hl (by decide) rfl (fun ls hl => ?_)
          have hw9 : x_13.toInt = hp_w a un0.toInt (fun i => if i = 3 then iv28_6.toInt else m5 i) 3 := by show x_13.toInt = a 3 + (if 3 = 3 then iv28_6.toInt else m5 3) * un0.toInt; rw [if_pos rfl, ← m9, ← hav9]; omega
          have hj9 : ((iv28_6.toInt.toNat : Nat) : Int) = iv28_6.toInt := by omega
          refine lv_iload_n hx hb dX5_tryFrom_51 rfl (lv_at hl 5 rfl) ?_
          refine lv_iload hx hb dX5_tryFrom_52 (lv_at hl 0 rfl) ?_
          refine lv_iadd hx hb dX5_tryFrom_54 ?_
          have rg_14 := i32_r i2
          have rg_15 := i32_r x_13
          refine lv_topi (fun x_16 ex_16 => ?_)
          have zx_16 : x_16.toInt = i2.toInt + x_13.toInt := by rw [ex_16]; exact i32_add rfl rfl (by omega) (by omega)
          refine lv_iload hx hb dX5_tryFrom_55 (lv_at hl 2 rfl) ?_
          refine lv_iadd hx hb dX5_tryFrom_57 ?_
          have rg_17 := i32_r x_16
          have rg_18 := i32_r r_5
          refine lv_topi (fun x_19 ex_19 => ?_)
          have zx_19 : x_19.toInt = x_16.toInt + r_5.toInt := by rw [ex_19]; exact i32_add rfl rfl (by omega) (by omega)
          refine lv_aload_n hx hb dX5_tryFrom_58 rfl (lv_at hl 3 rfl) ?_
          refine hk_geti hx hb hts hC_5 hown hW (gx.S hM) tt_5 10 (by decide) rfl kw_273 ⟨rfl, rfl, rfl⟩ ((hM.o gx trivial rfl).1.trans f_x_10) dX5_tryFrom_59 ?_
          refine hb_icmp_le (zx := x_19.toInt) (zy := me0.toInt) (tgt := 66) hx hb rfl rfl dX5_tryFrom_62 (by decide) (fun c_20 => ?_) (fun c_20 => ?_)
          · skip
            refine lv_aload_n hx hb dX5_tryFrom_66 rfl (lv_at hl 3 rfl) ?_
            refine hk_getr hx hb hts hC_5 hown hW (gx.S hM) tt_5 6 (by decide) rfl kw_269 ⟨rfl, rfl, rfl⟩ ((hM.o gx trivial rfl).2.trans f_x_6) dX5_tryFrom_67 ?_
            refine lv_iload_n hx hb dX5_tryFrom_70 rfl (lv_at hl 4 rfl) ?_
            refine hx_iald hx hb hW hT (gqre.S hM) tt_31 rfl (by decide) dX5_tryFrom_71 (fun x_21 ex_21 lx_21 ux_21 => ?_)
            have ax_21 : x_21 = rsf (3 : Int32).toNatClampNeg := ex_21.trans (congrFun (hx_afS hM gqre rfl af_qre) _)
            have hrv9 : x_21.toInt = r 3 := by rw [ax_21, show (3 : Int32).toNatClampNeg = 3 from by decide]; exact hr5 3 (by omega)
            have hrb9 := hrb 3 (by omega); rw [← hrv9] at hrb9
            refine lv_iload hx hb dX5_tryFrom_72 (lv_at hl 0 rfl) ?_
            refine hx_goi (hx_runSN (As := [.int x_21, .int x_13]) (rest := []) ⟨hx, hb, hml, hown, hts⟩ hW (t_X9_roundUp_v l dC dI dA hL1 hl1 H.size x_21 x_13 hT) ⟨va_cnB 2 hts (hx_gC kw_921) rfl rfl rfl (hZ.1 _ (List.mem_of_getElem? (i := 10) rfl)) (hts _ kw_94) (by decide +kernel) ⟨Nat.le_of_ble_eq_true rfl, Nat.le_of_ble_eq_true rfl⟩, hts _ kw_920, trivial⟩ rfl hl.1 rfl (Nat.le_of_ble_eq_true rfl) dX5_tryFrom_74 ⟨Nat.le_of_ble_eq_true rfl, Nat.le_of_ble_eq_true rfl⟩) hW (fun r_24 L_22 h_23 H locs p_25 hW => ?_)
            obtain ⟨hr_26, hT, hs⟩ := p_25
            replace hT : hx_T T_tb L_22 h_23 := hT
            replace hs : hx_S T_tb [] hL1 hl1 L_22 h_23 := hs
            replace ffw28_x_11 := (hs.o (gx.S hM) trivial rfl).1.trans ffw28_x_11
            replace ffw28_x_12 := (hs.o (gx.S hM) trivial rfl).1.trans ffw28_x_12
            replace nia28_qtd : h_23.2.1 qtd = ia28_qtd := (funext fun j => (hs.a (gqtd.S hM) rfl j).1).trans nia28_qtd
            replace nia28_qwl : h_23.2.1 qwl = ia28_qwl := (funext fun j => (hs.a (gqwl.S hM) rfl j).1).trans nia28_qwl
            replace ex_9 := ex_9.trans (hs.a (gqle.S hM) rfl _).1.symm
            replace ex_21 := ex_21.trans (hs.a (gqre.S hM) rfl _).1.symm
            replace hM := hM.tr (hs.mono (by decide))
            have hk9 : r_24.toInt = hp_k a r un0.toInt (fun i => if i = 3 then iv28_6.toInt else m5 i) 3 := by unfold hp_k; rw [← hw9, ← hrv9]; exact hr_26
            have hkb9 : 0 ≤ r_24.toInt ∧ r_24.toInt ≤ 609999 := by have h9 := hz_ru_b (s := x_21.toInt) (b := x_13.toInt); rw [← hr_26] at h9; omega
            refine lv_istore (lv' := [(8, .int r_24), (7, .int x_13), (6, .int iv28_6), (5, .int r_5), (0, .ref x), (1, .int (3 : Int32)), (2, .int i2), (3, .int i3), (4, .int i4)]) hx hb dX5_tryFrom_77 hl (by decide) rfl (fun ls hl => ?_)
            refine lv_aload_n hx hb dX5_tryFrom_79 rfl (lv_at hl 4 rfl) ?_
            refine hk_getr hx hb hts hC_5 hown hW (gx.S hM) tt_5 8 (by decide) rfl kw_271 ⟨rfl, rfl, rfl⟩ ((hM.o gx trivial rfl).2.trans f_x_8) dX5_tryFrom_80 ?_
            refine lv_iload_n hx hb dX5_tryFrom_83 rfl (lv_at hl 5 rfl) ?_
            refine lv_iload hx hb dX5_tryFrom_84 (lv_at hl 1 rfl) ?_
            have nia28_qtdO := nia28_qtd
            refine hx_iast hx hb hW hT (hx_S.rf (M := [(33, 0)])) (gqtd.S hM) tt_33 rfl (by decide) rfl (i32_r _) (List.mem_singleton.mpr rfl) dX5_tryFrom_86 (fun H locs h_27 eh_27 hW hT hs => ?_)
            replace ffw28_x_11 := (hs.o (gx.S hM) trivial rfl).1.trans ffw28_x_11
            replace ffw28_x_12 := (hs.o (gx.S hM) trivial rfl).1.trans ffw28_x_12
            replace nia28_qwl : h_27.2.1 qwl = ia28_qwl := (funext fun j => (hs.a (gqwl.S hM) rfl j).1).trans nia28_qwl
            replace ex_9 := ex_9.trans (hs.a (gqle.S hM) rfl _).1.symm
            replace ex_21 := ex_21.trans (hs.a (gqre.S hM) rfl _).1.symm
            replace hM := hM.tr (hs.mono (by decide))
            obtain ⟨fa_28, dfa_28⟩ : ∃ g : Nat → Int32, g = hx_up ia28_qtd (3 : Int32).toNatClampNeg x_13 := ⟨_, rfl⟩
            have nfa_28 : h_27.2.1 qtd = fa_28 := by rw [eh_27, dfa_28, ← nia28_qtdO]; exact hx_pi_fun _ _ _ _
            have htr9 : ∀ i : Nat, i < 4 → (fa_28 i).toInt = hp_w a un0.toInt (fun i => if i = 3 then iv28_6.toInt else m5 i) i := fun i hi => by by_cases z : i = 3; (subst z; rw [dfa_28, show (3 : Int32).toNatClampNeg = 3 from by decide, hx_up_at]; exact hw9); (rw [dfa_28, hx_up_ne (by rw [show (3 : Int32).toNatClampNeg = 3 from by decide]; exact z), vi28_1 i (by omega)]; show _ = a i + (if i = 3 then iv28_6.toInt else m5 i) * un0.toInt; rw [if_neg z]; exact htr i (by omega))
            have htc9 : ∀ i : Nat, i < 3 → fa_28 i = trf i := fun i hi => by rw [dfa_28, hx_up_ne (by rw [show (3 : Int32).toNatClampNeg = 3 from by decide]; omega)]; exact vi28_1 i hi
            refine lv_iload hx hb dX5_tryFrom_87 (lv_at hl 0 rfl) ?_
            refine lv_aload_n hx hb dX5_tryFrom_89 rfl (lv_at hl 4 rfl) ?_
            refine hk_geti hx hb hts hC_5 hown hW (gx.S hM) tt_5 11 (by decide) rfl kw_274 ⟨rfl, rfl, rfl⟩ ffw28_x_11 dX5_tryFrom_90 ?_
            refine hb_icmp_gt (zx := r_24.toInt) (zy := fw28_x_11.toInt) (tgt := 118) hx hb rfl rfl dX5_tryFrom_93 (by decide) (fun c_29 => ?_) (fun c_29 => ?_)
            · skip
              obtain ⟨x_30, ex_30⟩ : ∃ y : Int32, y = iv28_6 + Int32.ofInt 1 := ⟨_, rfl⟩
              have rg_31 := i32_r iv28_6
              have zx_30 : x_30.toInt = iv28_6.toInt + (1) := by rw [ex_30]; exact i32_add rfl (by decide) (by omega) (by omega)
              refine lv_iinc (v := x_30) (lv' := [(6, .int x_30), (8, .int r_24), (7, .int x_13), (5, .int r_5), (0, .ref x), (1, .int (3 : Int32)), (2, .int i2), (3, .int i3), (4, .int i4)]) hx hb dX5_tryFrom_118 hl (k := 2) rfl ex_30.symm (by decide) rfl (fun ls hl => ?_)
              refine lv_goto (tgt := 28) hx hb dX5_tryFrom_121 (by decide) ?_
              exact ih28 x_30 fw28_x_11 fw28_x_12 fa_28 ia28_qwl _ _ L_22 h_27 (by omega) (by omega) (i32_r _).1 (i32_r _).2 (i32_r _).1 (i32_r _).2 (by rw [show x_30.toInt.toNat = iv28_6.toInt.toNat + 1 by omega, hp_skip (by omega) (by omega) rfl (y := r_24.toInt) (by rw [hj9, ← hrv9, ← hav9, ← m9, show x_9.toInt + x_10.toInt = x_13.toInt by omega]; exact hr_26) (by rw [vi28_0.1]; omega)]; exact vi28_0) htc9 ls (by omega) hW hT hM ffw28_x_11 ffw28_x_12 nfa_28 nia28_qwl (lv_sub hl [0, 3, 4, 5, 6, 7, 8] rfl)
            · skip
              refine lv_aload_n hx hb dX5_tryFrom_96 rfl (lv_at hl 4 rfl) ?_
              refine lv_iload_n hx hb dX5_tryFrom_97 rfl (lv_at hl 5 rfl) ?_
              refine lv_iconst (v := 1) hx hb dX5_tryFrom_98 (by decide) ?_
              refine lv_iadd hx hb dX5_tryFrom_99 ?_
              refine lv_topi (fun x_32 ex_32 => ?_)
              obtain rfl : x_32 = (4 : Int32) := ex_32.trans (by decide)
              refine lv_iload_n hx hb dX5_tryFrom_100 rfl (lv_at hl 6 rfl) ?_
              refine lv_iload hx hb dX5_tryFrom_101 (lv_at hl 1 rfl) ?_
              refine lv_iadd hx hb dX5_tryFrom_103 ?_
              refine lv_topi (fun x_33 ex_33 => ?_)
              have zx_33 : x_33.toInt = i2.toInt + x_13.toInt := by rw [ex_33]; exact i32_add rfl rfl (by omega) (by omega)
              refine lv_iload_n hx hb dX5_tryFrom_104 rfl (lv_at hl 7 rfl) ?_
              refine lv_iload hx hb dX5_tryFrom_105 (lv_at hl 0 rfl) ?_
              refine va_mmax hx hb (hml.trans hl.1.symm) hown (hts _ kw_976) (hts _ kw_882) (hts _ kw_109) (hts _ kw_883) (Nat.le_of_ble_eq_true rfl) (Nat.le_of_ble_eq_true rfl) (Nat.le_of_ble_eq_true rfl) (Nat.le_of_ble_eq_true rfl) dX5_tryFrom_107 ?_
              refine lv_topi (fun x_34 ex_34 => ?_)
              have hmx9 := hz_mx_e ex_34
              refine lv_iload hx hb dX5_tryFrom_110 (lv_at hl 8 rfl) ?_
              refine lv_iload hx hb dX5_tryFrom_112 (lv_at hl 0 rfl) ?_
              refine lv_iadd hx hb dX5_tryFrom_114 ?_
              have rg_35 := i32_r i4
              have rg_36 := i32_r r_24
              refine lv_topi (fun x_37 ex_37 => ?_)
              have zx_37 : x_37.toInt = i4.toInt + r_24.toInt := by rw [ex_37]; exact i32_add rfl rfl (by omega) (by omega)
              refine hx_gov (hx_runVX (As := [.int (4 : Int32), .int x_33, .int x_34, .int x_37]) (rest := []) ⟨hx, hb, hml, hown, hts⟩ hW (gx.S hM) tt_5 (T := TX5) (N := 13) rfl (t_X5_tryFrom_4v l dC dI dA L_22 h_27 H.size b0 x x_33 x_34 x_37 hT (gx.S hM) qle (gqle.S hM) ((hM.o gx trivial rfl).2.trans f_x_7) qre (gqre.S hM) ((hM.o gx trivial rfl).2.trans f_x_6) qtd (gqtd.S hM) ((hM.o gx trivial rfl).2.trans f_x_8) qwl (gqwl.S hM) ((hM.o gx trivial rfl).2.trans f_x_3) lef (hx_afS hM gqle rfl af_qle) rsf (hx_afS hM gqre rfl af_qre) fa_28 nfa_28 ia28_qwl nia28_qwl o0 ((hM.o gx trivial rfl).1.trans f_x_0) un0 ((hM.o gx trivial rfl).1.trans f_x_9) me0 ((hM.o gx trivial rfl).1.trans f_x_10) fw28_x_11 ffw28_x_11 fw28_x_12 ffw28_x_12 a ha hab r hr5 hrb hun M hMe hMb (by omega) (13 * K + iv28_6.toInt.toNat) (fun i => if i = 3 then iv28_6.toInt else m5 i) (hp_B_s hB (by omega) (by omega) (fun i hi => if_neg (by omega)) (by show (if 3 = 3 then iv28_6.toInt else m5 3) = _; rw [if_pos rfl]; omega)) (hp_ss hsp (fun i hi => by show a i + (if i = 3 then iv28_6.toInt else m5 i) * un0.toInt = _; rw [if_neg (by omega)]; rfl) (by rw [← hw9]; omega)) (hp_mm hla (fun i hi => by show hz_ru (r i) (a i + (if i = 3 then iv28_6.toInt else m5 i) * un0.toInt) = _; rw [if_neg (by omega)]; rfl) (by rw [← hk9]; omega)) (hp_ss hal (fun i hi => by show hz_ru (r i) (a i + (if i = 3 then iv28_6.toInt else m5 i) * un0.toInt) = _; rw [if_neg (by omega)]; rfl) (by rw [← hk9]; omega)) htr9 (by have h9 := hMe (by omega); rw [← hlf9]; omega) ⟨by omega, by omega⟩ ⟨by omega, by omega⟩ ⟨by omega, by omega⟩ _ vi28_0) hZ (cwV 4 hts (hx_gV kw_969 kw_966 kw_968 kw_34 kw_100) rfl rfl rfl (by decide +kernel) ⟨Nat.le_of_ble_eq_true rfl, Nat.le_of_ble_eq_true rfl⟩) rfl hl.1 rfl (Nat.le_of_ble_eq_true rfl) dX5_tryFrom_115 ⟨Nat.le_of_ble_eq_true rfl, Nat.le_of_ble_eq_true rfl⟩) hW (fun L_38 h_39 H locs p_41 hW => ?_)
              obtain ⟨⟨w_43, w_44, w_45, w_46, fw_43, fw_44, fw_45, fw_46, hr_42⟩, hT, hs⟩ := p_41
              replace hT : hx_T T_tb L_38 h_39 := hT
              replace hs : hx_S T_tb [(5, 11), (5, 12), (28, 0)] L_22 h_27 L_38 h_39 := hs
              replace nfa_28 : h_39.2.1 qtd = fa_28 := (funext fun j => (hs.a (gqtd.S hM) rfl j).1).trans nfa_28
              replace ex_9 := ex_9.trans (hs.a (gqle.S hM) rfl _).1.symm
              replace ex_21 := ex_21.trans (hs.a (gqre.S hM) rfl _).1.symm
              replace hM := hM.tr (hs.mono (by decide))
              have fw_43 : h_39.2.1 x 11 = w_43 := fw_43
              have bw_43 := hT.gi (gx.S hM) tt_5 (k := 11) rfl
              rw [fw_43] at bw_43
              have bw_43 : -2147483648 ≤ w_43.toInt ∧ w_43.toInt ≤ 2147483647 := bw_43
              have fw_44 : h_39.2.1 x 12 = w_44 := fw_44
              have bw_44 := hT.gi (gx.S hM) tt_5 (k := 12) rfl
              rw [fw_44] at bw_44
              have bw_44 : -2147483648 ≤ w_44.toInt ∧ w_44.toInt ≤ 2147483647 := bw_44
              have fw_45 : h_39.2.1 qwl = w_45 := fw_45
              have fw_46 : h_39.2.1 qtd = w_46 := fw_46
              obtain ⟨x_47, ex_47⟩ : ∃ y : Int32, y = iv28_6 + Int32.ofInt 1 := ⟨_, rfl⟩
              have rg_48 := i32_r iv28_6
              have zx_47 : x_47.toInt = iv28_6.toInt + (1) := by rw [ex_47]; exact i32_add rfl (by decide) (by omega) (by omega)
              refine lv_iinc (v := x_47) (lv' := [(6, .int x_47), (8, .int r_24), (7, .int x_13), (5, .int r_5), (0, .ref x), (1, .int (3 : Int32)), (2, .int i2), (3, .int i3), (4, .int i4)]) hx hb dX5_tryFrom_118 hl (k := 2) rfl ex_47.symm (by decide) rfl (fun ls hl => ?_)
              refine lv_goto (tgt := 28) hx hb dX5_tryFrom_121 (by decide) ?_
              exact ih28 x_47 w_43 w_44 w_46 w_45 _ _ L_38 h_39 (by omega) (by omega) (i32_r _).1 (i32_r _).2 (i32_r _).1 (i32_r _).2 (by rw [show x_47.toInt.toNat = iv28_6.toInt.toNat + 1 by omega, hp_F_blk]; exact hr_42.1) (fun i hi => (hr_42.2 i (by omega)).trans (htc9 i hi)) ls (by omega) hW hT hM fw_43 fw_44 fw_46 fw_45 (lv_sub hl [0, 3, 4, 5, 6, 7, 8] rfl)
          · skip
            exact hx_retv hx hb hr hlk hW ⟨⟨fw28_x_11, fw28_x_12, ia28_qwl, ia28_qtd, ffw28_x_11, ffw28_x_12, nia28_qwl, nia28_qtd, ⟨(by rw [hD9, hp_F_end (j := iv28_6.toInt.toNat) (by omega) rfl (fun k9 h0 h1 => hp_inf hB (by omega) (by omega) (by omega) hsp (by have h9 := hMe (by omega); rw [hj9, ← m9, ← hav9, ← hlf9]; omega) h0 h1)]; exact vi28_0), vi28_1⟩⟩, hT, hM⟩ dX5_tryFrom_65
    have zk_0 : (0 : Int32).toInt = 0 := by decide
    exact loop28 14 (0 : Int32) bl0 ba0 trf wkf _ _ L_3 h_4 (by decide) (by decide) (i32_r _).1 (i32_r _).2 (i32_r _).1 (i32_r _).2 (by rw [zk_0, Int.toNat_zero, Nat.zero_mul]; exact hSR) (fun i hi => rfl) ls (by omega) hW hT hM f_x_11 f_x_12 af_qtd af_qwl hl
  · skip
    have hdg9 := hp_B_e hB (show o0.toInt.toNat = 3 by omega)
    refine lv_aload_n hx hb dX5_tryFrom_8 rfl (lv_at hl 0 rfl) ?_
    refine lv_iload_n hx hb dX5_tryFrom_9 rfl (lv_at hl 3 rfl) ?_
    refine lv_iload hx hb dX5_tryFrom_10 (lv_at hl 4 rfl) ?_
    refine hx_gov (hx_runV (As := [.int i3, .int i4]) (rest := []) ⟨hx, hb, hml, hown, hts⟩ hW (gx.S hM) tt_5 (T := TX5) (N := 13) rfl (t_X5_keepIfBetter_v l dC dI dA L h s.heap.size x i3 i4 hT (gx.S hM) qtd (gqtd.S hM) ((hM.o gx trivial rfl).2.trans f_x_8) qwl (gqwl.S hM) ((hM.o gx trivial rfl).2.trans f_x_3) trf af_qtd wkf af_qwl o0 ((hM.o gx trivial rfl).1.trans f_x_0) bl0 f_x_11 ba0 f_x_12 a un0.toInt (hp_dg o0.toInt.toNat K) (fun i hi => by unfold hp_w; rw [hdg9 i (by omega)]; exact htr i (by omega)) s5 hSR) (cwV 2 hts (hx_gV kw_973 kw_970 kw_972 kw_35 kw_100) rfl rfl rfl (by decide +kernel) ⟨Nat.le_of_ble_eq_true rfl, Nat.le_of_ble_eq_true rfl⟩) rfl hl.1 rfl (Nat.le_of_ble_eq_true rfl) dX5_tryFrom_12 ⟨Nat.le_of_ble_eq_true rfl, Nat.le_of_ble_eq_true rfl⟩) hW (fun L_49 h_50 H locs p_52 hW => ?_)
    obtain ⟨⟨w_54, w_55, w_56, fw_54, fw_55, fw_56, hr_53⟩, hT, hs⟩ := p_52
    replace hT : hx_T T_tb L_49 h_50 := hT
    replace hs : hx_S T_tb [(5, 11), (5, 12), (28, 0)] L h L_49 h_50 := hs
    replace af_qtd : h_50.2.1 qtd = trf := (funext fun j => (hs.a (gqtd.S hM) rfl j).1).trans af_qtd
    replace hM := hM.tr (hs.mono (by decide))
    have fw_54 : h_50.2.1 x 11 = w_54 := fw_54
    have bw_54 := hT.gi (gx.S hM) tt_5 (k := 11) rfl
    rw [fw_54] at bw_54
    have bw_54 : -2147483648 ≤ w_54.toInt ∧ w_54.toInt ≤ 2147483647 := bw_54
    have fw_55 : h_50.2.1 x 12 = w_55 := fw_55
    have bw_55 := hT.gi (gx.S hM) tt_5 (k := 12) rfl
    rw [fw_55] at bw_55
    have bw_55 : -2147483648 ≤ w_55.toInt ∧ w_55.toInt ≤ 2147483647 := bw_55
    have fw_56 : h_50.2.1 qwl = w_56 := fw_56
    exact hx_retv hx hb hr hlk hW ⟨⟨w_54, w_55, w_56, trf, fw_54, fw_55, fw_56, af_qtd, ⟨(by rw [hp_leaf (show o0.toInt.toNat = 3 by omega) hdg9 hla hal (by have h9 := hfe; rw [show o0.toInt.toNat = 3 by omega] at h9; omega)]; exact hr_53), (fun i hi => rfl)⟩⟩, hT, hM⟩ dX5_tryFrom_15


set_option maxHeartbeats 4000000 in
set_option maxRecDepth 100000 in
theorem t_X5_tryFrom_2v (l : Launch) (dC : Nat → ClassId) (dI : Nat → Nat → Nat) (dA : Nat → ClassId) (L : List Nat) (h : hx_h) (sz : Nat) (b0 : hx_z) (x : Nat) (i2 : Int32) (i3 : Int32) (i4 : Int32) (hT : hx_T T_tb L h) (gx : hx_g L h x 5) (qle : Nat) (gqle : hx_g L h qle 32) (f_x_7 : h.2.2 x 7 = some qle) (qre : Nat) (gqre : hx_g L h qre 31) (f_x_6 : h.2.2 x 6 = some qre) (qtd : Nat) (gqtd : hx_g L h qtd 33) (f_x_8 : h.2.2 x 8 = some qtd) (qwl : Nat) (gqwl : hx_g L h qwl 28) (f_x_3 : h.2.2 x 3 = some qwl) (lef : Nat → Int32) (af_qle : h.2.1 qle = lef) (rsf : Nat → Int32) (af_qre : h.2.1 qre = rsf) (trf : Nat → Int32) (af_qtd : h.2.1 qtd = trf) (wkf : Nat → Int32) (af_qwl : h.2.1 qwl = wkf) (o0 : Int32) (f_x_0 : h.2.1 x 0 = o0) (un0 : Int32) (f_x_9 : h.2.1 x 9 = un0) (me0 : Int32) (f_x_10 : h.2.1 x 10 = me0) (bl0 : Int32) (f_x_11 : h.2.1 x 11 = bl0) (ba0 : Int32) (f_x_12 : h.2.1 x 12 = ba0) (a : Nat → Int) (ha : ∀ i : Nat, (i : Int) < o0.toInt → (lef i).toInt = a i) (hab : ∀ i : Nat, (i : Int) < o0.toInt → 1 ≤ a i ∧ a i ≤ 9999) (r : Nat → Int) (hr5 : ∀ i : Nat, (i : Int) < o0.toInt → (rsf i).toInt = r i) (hrb : ∀ i : Nat, (i : Int) < o0.toInt → 1 ≤ r i ∧ r i ≤ 609999) (hun : 1 ≤ un0.toInt ∧ un0.toInt ≤ 99) (M : Int) (hMe : 1 ≤ o0.toInt → M = me0.toInt) (hMb : M ≤ 9999) (hpn : 2 ≤ o0.toInt) (K : Nat) (m5 : Nat → Int) (hB : hp_B o0.toInt.toNat 2 K m5) (hsp : i2.toInt = hp_s (hp_w a un0.toInt m5) 2) (hla : i3.toInt = hp_m (hp_k a r un0.toInt m5) 2) (hal : i4.toInt = hp_s (hp_k a r un0.toInt m5) 2) (htr : ∀ i : Nat, i < 2 → (trf i).toInt = hp_w a un0.toInt m5 i) (hfe : i2.toInt + (hp_s a o0.toInt.toNat - hp_s a 2) ≤ M) (hi2 : 0 ≤ i2.toInt ∧ i2.toInt ≤ 9999) (hi3 : 0 ≤ i3.toInt ∧ i3.toInt ≤ 609999) (hi4 : 0 ≤ i4.toInt ∧ i4.toInt ≤ 1219998) (s5 : hp_S) (hSR : hp_SR s5 bl0.toInt ba0.toInt wkf a un0.toInt o0.toInt) : Met l yX5_tryFrom (Cond.code yX5_tryFrom cX5_tryFrom 9 none :: hx_all) ({ frames := 4, cells := 0, slots := 0, locals := 118 }) (va_Pc [.ref x, .int (2 : Int32), .int i2, .int i3, .int i4] (hx_BX T_tb (P_ty dA) (dC, dI) vwCl L h sz b0)) (va_Qv (fun (u : List Nat × hx_h) => (∃ (bl1 : Int32) (ba1 : Int32) (wkf1 : Nat → Int32) (trf1 : Nat → Int32), u.2.2.1 x 11 = bl1 ∧ u.2.2.1 x 12 = ba1 ∧ u.2.2.1 qwl = wkf1 ∧ u.2.2.1 qtd = trf1 ∧ (hp_SR (hp_F (hp_f a r un0.toInt M o0.toInt.toNat) (K * 13 ^ (o0.toInt.toNat - 2)) (13 ^ (o0.toInt.toNat - 2)) s5) bl1.toInt ba1.toInt wkf1 a un0.toInt o0.toInt ∧ ∀ i : Nat, i < 2 → trf1 i = trf i)) ∧ hx_T T_tb u.1 u.2 ∧ hx_S T_tb [(5, 11), (5, 12), (28, 0), (33, 0)] L h u.1 u.2) (hx_E T_tb (P_ty dA) (dC, dI) vwCl (hx_A L sz)) (hx_A L sz)) 0 0 (hx_A L sz) := by
  refine hx_metX (lv := [(0, .ref x), (1, .int (2 : Int32)), (2, .int i2), (3, .int i3), (4, .int i4)]) (by decide +kernel) rfl (Nat.le_of_ble_eq_true rfl) rfl ?_
  intro p e s m below meth c hx hb hml hr hlk hts0 hown hin hsz hW hZ ls hl
  have hts : ∀ w ∈ hx_all, w.before _ s = true := fun w hw => hts0 w (List.mem_cons_of_mem _ hw)
  have hown : s.vm.findClass "SmallCourt$Plan" = some m.cls := hown
  have hM : hx_S T_tb [(5, 11), (5, 12), (28, 0), (33, 0)] L h L h := hx_S.rf
  have b_o0 := hT.gi gx tt_5 (k := 0) rfl
  rw [f_x_0] at b_o0
  have b_o0 : 0 ≤ o0.toInt ∧ o0.toInt ≤ 4 := b_o0
  have b_un0 := hT.gi gx tt_5 (k := 9) rfl
  rw [f_x_9] at b_un0
  have b_un0 : -2147483648 ≤ un0.toInt ∧ un0.toInt ≤ 2147483647 := b_un0
  have b_me0 := hT.gi gx tt_5 (k := 10) rfl
  rw [f_x_10] at b_me0
  have b_me0 : -2147483648 ≤ me0.toInt ∧ me0.toInt ≤ 2147483647 := b_me0
  have b_bl0 := hT.gi gx tt_5 (k := 11) rfl
  rw [f_x_11] at b_bl0
  have b_bl0 : -2147483648 ≤ bl0.toInt ∧ bl0.toInt ≤ 2147483647 := b_bl0
  have b_ba0 := hT.gi gx tt_5 (k := 12) rfl
  rw [f_x_12] at b_ba0
  have b_ba0 : -2147483648 ≤ ba0.toInt ∧ ba0.toInt ≤ 2147483647 := b_ba0
  refine lv_iload_n hx hb dX5_tryFrom_0 rfl (lv_at hl 1 rfl) ?_
  refine lv_aload_n hx hb dX5_tryFrom_1 rfl (lv_at hl 0 rfl) ?_
  refine hk_geti hx hb hts hC_5 hown hW (gx.S hM) tt_5 0 (by decide) rfl kw_258 ⟨rfl, rfl, rfl⟩ ((hM.o gx trivial rfl).1.trans f_x_0) dX5_tryFrom_2 ?_
  refine hb_icmp_lt (zx := 2) (zy := o0.toInt) (tgt := 16) hx hb (by decide) rfl dX5_tryFrom_5 (by decide) (fun c_1 => ?_) (fun c_1 => ?_)
  · skip
    have hD9 := hp_pw (n := o0.toInt.toNat) (p := 2) (by omega)
    refine lv_aload_n hx hb dX5_tryFrom_16 rfl (lv_at hl 0 rfl) ?_
    refine lv_iload_n hx hb dX5_tryFrom_17 rfl (lv_at hl 1 rfl) ?_
    refine lv_iconst (v := 1) hx hb dX5_tryFrom_18 (by decide) ?_
    refine lv_iadd hx hb dX5_tryFrom_19 ?_
    refine lv_topi (fun x_2 ex_2 => ?_)
    obtain rfl : x_2 = (3 : Int32) := ex_2.trans (by decide)
    have zc_3 : (3 : Int32).toInt = 3 := by decide
    refine hx_goi (hx_runV (As := [.int (3 : Int32)]) (rest := []) ⟨hx, hb, hml, hown, hts⟩ hW (gx.S hM) tt_5 (T := TX5) (N := 13) rfl (t_X5_leastFrom_v l dC dI dA L h s.heap.size x (3 : Int32) hT (gx.S hM) qle (gqle.S hM) ((hM.o gx trivial rfl).2.trans f_x_7) lef (hx_afS hM gqle rfl af_qle) o0 ((hM.o gx trivial rfl).1.trans f_x_0) a ha hab ⟨by omega, by omega⟩) (cwV 1 hts (hx_gV kw_964 kw_961 kw_963 kw_33 kw_100) rfl rfl rfl (by decide +kernel) ⟨Nat.le_of_ble_eq_true rfl, Nat.le_of_ble_eq_true rfl⟩) rfl hl.1 rfl (Nat.le_of_ble_eq_true rfl) dX5_tryFrom_20 ⟨Nat.le_of_ble_eq_true rfl, Nat.le_of_ble_eq_true rfl⟩) hW (fun r_5 L_3 h_4 H locs p_6 hW => ?_)
    obtain ⟨hr_7, hT, hs⟩ := p_6
    replace hT : hx_T T_tb L_3 h_4 := hT
    replace hs : hx_S T_tb [] L h L_3 h_4 := hs
    replace f_x_11 := (hs.o (gx.S hM) trivial rfl).1.trans f_x_11
    replace f_x_12 := (hs.o (gx.S hM) trivial rfl).1.trans f_x_12
    replace af_qtd : h_4.2.1 qtd = trf := (funext fun j => (hs.a (gqtd.S hM) rfl j).1).trans af_qtd
    replace af_qwl : h_4.2.1 qwl = wkf := (funext fun j => (hs.a (gqwl.S hM) rfl j).1).trans af_qwl
    replace hM := hM.tr (hs.mono (by decide))
    have hlf9 := hr_7.1; rw [zc_3, show (3 : Int).toNat = 3 from rfl] at hlf9
    refine lv_istore (lv' := [(5, .int r_5), (0, .ref x), (1, .int (2 : Int32)), (2, .int i2), (3, .int i3), (4, .int i4)]) hx hb dX5_tryFrom_23 hl (by decide) rfl (fun ls hl => ?_)
    refine lv_iconst (v := 0) hx hb dX5_tryFrom_25 (by decide) ?_
    refine lv_istore (lv' := [(6, .int (0 : Int32)), (5, .int r_5), (0, .ref x), (1, .int (2 : Int32)), (2, .int i2), (3, .int i3), (4, .int i4)]) hx hb dX5_tryFrom_26 hl (by decide) rfl (fun ls hl => ?_)
    have loop28 : ∀ (n28 : Nat) (iv28_6 fw28_x_11 fw28_x_12 : Int32) (ia28_qtd ia28_qwl : Nat → Int32) (H : Heap) (locs : List Loc) (hL1 : List Nat) (hl1 : hx_h), 0 ≤ iv28_6.toInt → iv28_6.toInt ≤ 13 → -2147483648 ≤ fw28_x_11.toInt → fw28_x_11.toInt ≤ 2147483647 → -2147483648 ≤ fw28_x_12.toInt → fw28_x_12.toInt ≤ 2147483647 → (hp_SR (hp_F (hp_f a r un0.toInt M o0.toInt.toNat) (K * (13 * 13 ^ (o0.toInt.toNat - 3))) ((iv28_6.toInt).toNat * 13 ^ (o0.toInt.toNat - 3)) s5) fw28_x_11.toInt fw28_x_12.toInt ia28_qwl a un0.toInt o0.toInt) → (∀ i : Nat, i < 2 → ia28_qtd i = trf i) → ∀ (ls : Array Slot), 13 - iv28_6.toInt < (n28 : Int) → hx_W T_tb (P_ty dA) (dC, dI) vwCl (hx_A L sz) s.heap hL1 hl1 s H locs → hx_T T_tb hL1 hl1 → hx_S T_tb [(5, 11), (5, 12), (28, 0), (33, 0)] L h hL1 hl1 → hl1.2.1 x 11 = fw28_x_11 → hl1.2.1 x 12 = fw28_x_12 → hl1.2.1 qtd = ia28_qtd → hl1.2.1 qwl = ia28_qwl → lv_has ls 9 [(6, .int iv28_6), (5, .int r_5), (0, .ref x), (1, .int (2 : Int32)), (2, .int i2), (3, .int i3), (4, .int i4)] → W p l e ({ frames := 4, cells := 0, slots := 0, locals := 118 }) s m ([.ref x, .int (2 : Int32), .int i2, .int i3, .int i4] : List Value).toArray below meth c H locs 0 0 (MQ below (va_Qv (fun (u : List Nat × hx_h) => (∃ (bl1 : Int32) (ba1 : Int32) (wkf1 : Nat → Int32) (trf1 : Nat → Int32), u.2.2.1 x 11 = bl1 ∧ u.2.2.1 x 12 = ba1 ∧ u.2.2.1 qwl = wkf1 ∧ u.2.2.1 qtd = trf1 ∧ (hp_SR (hp_F (hp_f a r un0.toInt M o0.toInt.toNat) (K * 13 ^ (o0.toInt.toNat - 2)) (13 ^ (o0.toInt.toNat - 2)) s5) bl1.toInt ba1.toInt wkf1 a un0.toInt o0.toInt ∧ ∀ i : Nat, i < 2 → trf1 i = trf i)) ∧ hx_T T_tb u.1 u.2 ∧ hx_S T_tb [(5, 11), (5, 12), (28, 0), (33, 0)] L h u.1 u.2) (hx_E T_tb (P_ty dA) (dC, dI) vwCl (hx_A L sz)) (hx_A L sz)) ([.ref x, .int (2 : Int32), .int i2, .int i3, .int i4] : List Value).toArray s 0 0 (hx_A L sz)) (F0 m 28 ls []) := by
      intro n28
      induction n28 with
      | zero => intro iv28_6 fw28_x_11 fw28_x_12 ia28_qtd ia28_qwl H locs hL1 hl1 bliv28_6 buiv28_6 blfw28_x_11 bufw28_x_11 blfw28_x_12 bufw28_x_12 vi28_0 vi28_1 ls hn28; exfalso; omega
      | succ n28 ih28 =>
        intro iv28_6 fw28_x_11 fw28_x_12 ia28_qtd ia28_qwl H locs hL1 hl1 bliv28_6 buiv28_6 blfw28_x_11 bufw28_x_11 blfw28_x_12 bufw28_x_12 vi28_0 vi28_1 ls hn28 hW hT hM ffw28_x_11 ffw28_x_12 nia28_qtd nia28_qwl hl
        refine lv_iload hx hb dX5_tryFrom_28 (lv_at hl 0 rfl) ?_
        refine lv_bipush (v := 12) hx hb dX5_tryFrom_30 (by decide) ?_
        refine hb_icmp_gt (zx := iv28_6.toInt) (zy := 12) (tgt := 124) hx hb rfl (by decide) dX5_tryFrom_32 (by decide) (fun c_8 => ?_) (fun c_8 => ?_)
        · skip
          exact hx_retv hx hb hr hlk hW ⟨⟨fw28_x_11, fw28_x_12, ia28_qwl, ia28_qtd, ffw28_x_11, ffw28_x_12, nia28_qwl, nia28_qtd, ⟨(by rw [hD9]; have h9 := vi28_0; rw [show iv28_6.toInt.toNat = 13 by omega] at h9; exact h9), vi28_1⟩⟩, hT, hM⟩ dX5_tryFrom_124
        · skip
          refine lv_aload_n hx hb dX5_tryFrom_35 rfl (lv_at hl 2 rfl) ?_
          refine hk_getr hx hb hts hC_5 hown hW (gx.S hM) tt_5 7 (by decide) rfl kw_270 ⟨rfl, rfl, rfl⟩ ((hM.o gx trivial rfl).2.trans f_x_7) dX5_tryFrom_36 ?_
          refine lv_iload_n hx hb dX5_tryFrom_39 rfl (lv_at hl 3 rfl) ?_
          refine hx_iald hx hb hW hT (gqle.S hM) tt_32 rfl (by decide) dX5_tryFrom_40 (fun x_9 ex_9 lx_9 ux_9 => ?_)
          have ax_9 : x_9 = lef (2 : Int32).toNatClampNeg := ex_9.trans (congrFun (hx_afS hM gqle rfl af_qle) _)
          have hav9 : x_9.toInt = a 2 := by rw [ax_9, show (2 : Int32).toNatClampNeg = 2 from by decide]; exact ha 2 (by omega)
          have hab9 := hab 2 (by omega); rw [← hav9] at hab9
          refine lv_iload hx hb dX5_tryFrom_41 (lv_at hl 0 rfl) ?_
          refine lv_aload_n hx hb dX5_tryFrom_43 rfl (lv_at hl 2 rfl) ?_
          refine hk_geti hx hb hts hC_5 hown hW (gx.S hM) tt_5 9 (by decide) rfl kw_272 ⟨rfl, rfl, rfl⟩ ((hM.o gx trivial rfl).1.trans f_x_9) dX5_tryFrom_44 ?_
          refine lv_imul hx hb dX5_tryFrom_47 ?_
          refine lv_topi (fun x_10 ex_10 => ?_)
          have mx_10 : iv28_6.toInt = 0 → x_10.toInt = 0 := fun z => by rw [ex_10]; exact hx_mul0 z
          obtain ⟨m9, m9l, m9h⟩ := hp_mul ⟨by omega, by omega⟩ ⟨by omega, by omega⟩ ex_10
          refine lv_iadd hx hb dX5_tryFrom_48 ?_
          have rg_11 := i32_r x_9
          have rg_12 := i32_r x_10
          refine lv_topi (fun x_13 ex_13 => ?_)
          have zx_13 : x_13.toInt = x_9.toInt + x_10.toInt := by rw [ex_13]; exact i32_add rfl rfl (by omega) (by omega)
          refine lv_istore (lv' := [(7, .int x_13), (6, .int iv28_6), (5, .int r_5), (0, .ref x), (1, .int (2 : Int32)), (2, .int i2), (3, .int i3), (4, .int i4)]) hx hb dX5_tryFrom_49 hl (by decide) rfl (fun ls hl => ?_)
          have hw9 : x_13.toInt = hp_w a un0.toInt (fun i => if i = 2 then iv28_6.toInt else m5 i) 2 := by show x_13.toInt = a 2 + (if 2 = 2 then iv28_6.toInt else m5 2) * un0.toInt; rw [if_pos rfl, ← m9, ← hav9]; omega
          have hj9 : ((iv28_6.toInt.toNat : Nat) : Int) = iv28_6.toInt := by omega
          refine lv_iload_n hx hb dX5_tryFrom_51 rfl (lv_at hl 5 rfl) ?_
          refine lv_iload hx hb dX5_tryFrom_52 (lv_at hl 0 rfl) ?_
          refine lv_iadd hx hb dX5_tryFrom_54 ?_
          have rg_14 := i32_r i2
          have rg_15 := i32_r x_13
          refine lv_topi (fun x_16 ex_16 => ?_)
          have zx_16 : x_16.toInt = i2.toInt + x_13.toInt := by rw [ex_16]; exact i32_add rfl rfl (by omega) (by omega)
          refine lv_iload hx hb dX5_tryFrom_55 (lv_at hl 2 rfl) ?_
          refine lv_iadd hx hb dX5_tryFrom_57 ?_
          have rg_17 := i32_r x_16
          have rg_18 := i32_r r_5
          refine lv_topi (fun x_19 ex_19 => ?_)
          have zx_19 : x_19.toInt = x_16.toInt + r_5.toInt := by rw [ex_19]; exact i32_add rfl rfl (by omega) (by omega)
          refine lv_aload_n hx hb dX5_tryFrom_58 rfl (lv_at hl 3 rfl) ?_
          refine hk_geti hx hb hts hC_5 hown hW (gx.S hM) tt_5 10 (by decide) rfl kw_273 ⟨rfl, rfl, rfl⟩ ((hM.o gx trivial rfl).1.trans f_x_10) dX5_tryFrom_59 ?_
          refine hb_icmp_le (zx := x_19.toInt) (zy := me0.toInt) (tgt := 66) hx hb rfl rfl dX5_tryFrom_62 (by decide) (fun c_20 => ?_) (fun c_20 => ?_)
          · skip
            refine lv_aload_n hx hb dX5_tryFrom_66 rfl (lv_at hl 3 rfl) ?_
            refine hk_getr hx hb hts hC_5 hown hW (gx.S hM) tt_5 6 (by decide) rfl kw_269 ⟨rfl, rfl, rfl⟩ ((hM.o gx trivial rfl).2.trans f_x_6) dX5_tryFrom_67 ?_
            refine lv_iload_n hx hb dX5_tryFrom_70 rfl (lv_at hl 4 rfl) ?_
            refine hx_iald hx hb hW hT (gqre.S hM) tt_31 rfl (by decide) dX5_tryFrom_71 (fun x_21 ex_21 lx_21 ux_21 => ?_)
            have ax_21 : x_21 = rsf (2 : Int32).toNatClampNeg := ex_21.trans (congrFun (hx_afS hM gqre rfl af_qre) _)
            have hrv9 : x_21.toInt = r 2 := by rw [ax_21, show (2 : Int32).toNatClampNeg = 2 from by decide]; exact hr5 2 (by omega)
            have hrb9 := hrb 2 (by omega); rw [← hrv9] at hrb9
            refine lv_iload hx hb dX5_tryFrom_72 (lv_at hl 0 rfl) ?_
            refine hx_goi (hx_runSN (As := [.int x_21, .int x_13]) (rest := []) ⟨hx, hb, hml, hown, hts⟩ hW (t_X9_roundUp_v l dC dI dA hL1 hl1 H.size x_21 x_13 hT) ⟨va_cnB 2 hts (hx_gC kw_921) rfl rfl rfl (hZ.1 _ (List.mem_of_getElem? (i := 10) rfl)) (hts _ kw_94) (by decide +kernel) ⟨Nat.le_of_ble_eq_true rfl, Nat.le_of_ble_eq_true rfl⟩, hts _ kw_920, trivial⟩ rfl hl.1 rfl (Nat.le_of_ble_eq_true rfl) dX5_tryFrom_74 ⟨Nat.le_of_ble_eq_true rfl, Nat.le_of_ble_eq_true rfl⟩) hW (fun r_24 L_22 h_23 H locs p_25 hW => ?_)
            obtain ⟨hr_26, hT, hs⟩ := p_25
            replace hT : hx_T T_tb L_22 h_23 := hT
            replace hs : hx_S T_tb [] hL1 hl1 L_22 h_23 := hs
            replace ffw28_x_11 := (hs.o (gx.S hM) trivial rfl).1.trans ffw28_x_11
            replace ffw28_x_12 := (hs.o (gx.S hM) trivial rfl).1.trans ffw28_x_12
            replace nia28_qtd : h_23.2.1 qtd = ia28_qtd := (funext fun j => (hs.a (gqtd.S hM) rfl j).1).trans nia28_qtd
            replace nia28_qwl : h_23.2.1 qwl = ia28_qwl := (funext fun j => (hs.a (gqwl.S hM) rfl j).1).trans nia28_qwl
            replace ex_9 := ex_9.trans (hs.a (gqle.S hM) rfl _).1.symm
            replace ex_21 := ex_21.trans (hs.a (gqre.S hM) rfl _).1.symm
            replace hM := hM.tr (hs.mono (by decide))
            have hk9 : r_24.toInt = hp_k a r un0.toInt (fun i => if i = 2 then iv28_6.toInt else m5 i) 2 := by unfold hp_k; rw [← hw9, ← hrv9]; exact hr_26
            have hkb9 : 0 ≤ r_24.toInt ∧ r_24.toInt ≤ 609999 := by have h9 := hz_ru_b (s := x_21.toInt) (b := x_13.toInt); rw [← hr_26] at h9; omega
            refine lv_istore (lv' := [(8, .int r_24), (7, .int x_13), (6, .int iv28_6), (5, .int r_5), (0, .ref x), (1, .int (2 : Int32)), (2, .int i2), (3, .int i3), (4, .int i4)]) hx hb dX5_tryFrom_77 hl (by decide) rfl (fun ls hl => ?_)
            refine lv_aload_n hx hb dX5_tryFrom_79 rfl (lv_at hl 4 rfl) ?_
            refine hk_getr hx hb hts hC_5 hown hW (gx.S hM) tt_5 8 (by decide) rfl kw_271 ⟨rfl, rfl, rfl⟩ ((hM.o gx trivial rfl).2.trans f_x_8) dX5_tryFrom_80 ?_
            refine lv_iload_n hx hb dX5_tryFrom_83 rfl (lv_at hl 5 rfl) ?_
            refine lv_iload hx hb dX5_tryFrom_84 (lv_at hl 1 rfl) ?_
            have nia28_qtdO := nia28_qtd
            refine hx_iast hx hb hW hT (hx_S.rf (M := [(33, 0)])) (gqtd.S hM) tt_33 rfl (by decide) rfl (i32_r _) (List.mem_singleton.mpr rfl) dX5_tryFrom_86 (fun H locs h_27 eh_27 hW hT hs => ?_)
            replace ffw28_x_11 := (hs.o (gx.S hM) trivial rfl).1.trans ffw28_x_11
            replace ffw28_x_12 := (hs.o (gx.S hM) trivial rfl).1.trans ffw28_x_12
            replace nia28_qwl : h_27.2.1 qwl = ia28_qwl := (funext fun j => (hs.a (gqwl.S hM) rfl j).1).trans nia28_qwl
            replace ex_9 := ex_9.trans (hs.a (gqle.S hM) rfl _).1.symm
            replace ex_21 := ex_21.trans (hs.a (gqre.S hM) rfl _).1.symm
            replace hM := hM.tr (hs.mono (by decide))
            obtain ⟨fa_28, dfa_28⟩ : ∃ g : Nat → Int32, g = hx_up ia28_qtd (2 : Int32).toNatClampNeg x_13 := ⟨_, rfl⟩
            have nfa_28 : h_27.2.1 qtd = fa_28 := by rw [eh_27, dfa_28, ← nia28_qtdO]; exact hx_pi_fun _ _ _ _
            have htr9 : ∀ i : Nat, i < 3 → (fa_28 i).toInt = hp_w a un0.toInt (fun i => if i = 2 then iv28_6.toInt else m5 i) i := fun i hi => by by_cases z : i = 2; (subst z; rw [dfa_28, show (2 : Int32).toNatClampNeg = 2 from by decide, hx_up_at]; exact hw9); (rw [dfa_28, hx_up_ne (by rw [show (2 : Int32).toNatClampNeg = 2 from by decide]; exact z), vi28_1 i (by omega)]; show _ = a i + (if i = 2 then iv28_6.toInt else m5 i) * un0.toInt; rw [if_neg z]; exact htr i (by omega))
            have htc9 : ∀ i : Nat, i < 2 → fa_28 i = trf i := fun i hi => by rw [dfa_28, hx_up_ne (by rw [show (2 : Int32).toNatClampNeg = 2 from by decide]; omega)]; exact vi28_1 i hi
            refine lv_iload hx hb dX5_tryFrom_87 (lv_at hl 0 rfl) ?_
            refine lv_aload_n hx hb dX5_tryFrom_89 rfl (lv_at hl 4 rfl) ?_
            refine hk_geti hx hb hts hC_5 hown hW (gx.S hM) tt_5 11 (by decide) rfl kw_274 ⟨rfl, rfl, rfl⟩ ffw28_x_11 dX5_tryFrom_90 ?_
            refine hb_icmp_gt (zx := r_24.toInt) (zy := fw28_x_11.toInt) (tgt := 118) hx hb rfl rfl dX5_tryFrom_93 (by decide) (fun c_29 => ?_) (fun c_29 => ?_)
            · skip
              obtain ⟨x_30, ex_30⟩ : ∃ y : Int32, y = iv28_6 + Int32.ofInt 1 := ⟨_, rfl⟩
              have rg_31 := i32_r iv28_6
              have zx_30 : x_30.toInt = iv28_6.toInt + (1) := by rw [ex_30]; exact i32_add rfl (by decide) (by omega) (by omega)
              refine lv_iinc (v := x_30) (lv' := [(6, .int x_30), (8, .int r_24), (7, .int x_13), (5, .int r_5), (0, .ref x), (1, .int (2 : Int32)), (2, .int i2), (3, .int i3), (4, .int i4)]) hx hb dX5_tryFrom_118 hl (k := 2) rfl ex_30.symm (by decide) rfl (fun ls hl => ?_)
              refine lv_goto (tgt := 28) hx hb dX5_tryFrom_121 (by decide) ?_
              exact ih28 x_30 fw28_x_11 fw28_x_12 fa_28 ia28_qwl _ _ L_22 h_27 (by omega) (by omega) (i32_r _).1 (i32_r _).2 (i32_r _).1 (i32_r _).2 (by rw [show x_30.toInt.toNat = iv28_6.toInt.toNat + 1 by omega, hp_skip (by omega) (by omega) rfl (y := r_24.toInt) (by rw [hj9, ← hrv9, ← hav9, ← m9, show x_9.toInt + x_10.toInt = x_13.toInt by omega]; exact hr_26) (by rw [vi28_0.1]; omega)]; exact vi28_0) htc9 ls (by omega) hW hT hM ffw28_x_11 ffw28_x_12 nfa_28 nia28_qwl (lv_sub hl [0, 3, 4, 5, 6, 7, 8] rfl)
            · skip
              refine lv_aload_n hx hb dX5_tryFrom_96 rfl (lv_at hl 4 rfl) ?_
              refine lv_iload_n hx hb dX5_tryFrom_97 rfl (lv_at hl 5 rfl) ?_
              refine lv_iconst (v := 1) hx hb dX5_tryFrom_98 (by decide) ?_
              refine lv_iadd hx hb dX5_tryFrom_99 ?_
              refine lv_topi (fun x_32 ex_32 => ?_)
              obtain rfl : x_32 = (3 : Int32) := ex_32.trans (by decide)
              refine lv_iload_n hx hb dX5_tryFrom_100 rfl (lv_at hl 6 rfl) ?_
              refine lv_iload hx hb dX5_tryFrom_101 (lv_at hl 1 rfl) ?_
              refine lv_iadd hx hb dX5_tryFrom_103 ?_
              refine lv_topi (fun x_33 ex_33 => ?_)
              have zx_33 : x_33.toInt = i2.toInt + x_13.toInt := by rw [ex_33]; exact i32_add rfl rfl (by omega) (by omega)
              refine lv_iload_n hx hb dX5_tryFrom_104 rfl (lv_at hl 7 rfl) ?_
              refine lv_iload hx hb dX5_tryFrom_105 (lv_at hl 0 rfl) ?_
              refine va_mmax hx hb (hml.trans hl.1.symm) hown (hts _ kw_976) (hts _ kw_882) (hts _ kw_109) (hts _ kw_883) (Nat.le_of_ble_eq_true rfl) (Nat.le_of_ble_eq_true rfl) (Nat.le_of_ble_eq_true rfl) (Nat.le_of_ble_eq_true rfl) dX5_tryFrom_107 ?_
              refine lv_topi (fun x_34 ex_34 => ?_)
              have hmx9 := hz_mx_e ex_34
              refine lv_iload hx hb dX5_tryFrom_110 (lv_at hl 8 rfl) ?_
              refine lv_iload hx hb dX5_tryFrom_112 (lv_at hl 0 rfl) ?_
              refine lv_iadd hx hb dX5_tryFrom_114 ?_
              have rg_35 := i32_r i4
              have rg_36 := i32_r r_24
              refine lv_topi (fun x_37 ex_37 => ?_)
              have zx_37 : x_37.toInt = i4.toInt + r_24.toInt := by rw [ex_37]; exact i32_add rfl rfl (by omega) (by omega)
              refine hx_gov (hx_runVX (As := [.int (3 : Int32), .int x_33, .int x_34, .int x_37]) (rest := []) ⟨hx, hb, hml, hown, hts⟩ hW (gx.S hM) tt_5 (T := TX5) (N := 13) rfl (t_X5_tryFrom_3v l dC dI dA L_22 h_27 H.size b0 x x_33 x_34 x_37 hT (gx.S hM) qle (gqle.S hM) ((hM.o gx trivial rfl).2.trans f_x_7) qre (gqre.S hM) ((hM.o gx trivial rfl).2.trans f_x_6) qtd (gqtd.S hM) ((hM.o gx trivial rfl).2.trans f_x_8) qwl (gqwl.S hM) ((hM.o gx trivial rfl).2.trans f_x_3) lef (hx_afS hM gqle rfl af_qle) rsf (hx_afS hM gqre rfl af_qre) fa_28 nfa_28 ia28_qwl nia28_qwl o0 ((hM.o gx trivial rfl).1.trans f_x_0) un0 ((hM.o gx trivial rfl).1.trans f_x_9) me0 ((hM.o gx trivial rfl).1.trans f_x_10) fw28_x_11 ffw28_x_11 fw28_x_12 ffw28_x_12 a ha hab r hr5 hrb hun M hMe hMb (by omega) (13 * K + iv28_6.toInt.toNat) (fun i => if i = 2 then iv28_6.toInt else m5 i) (hp_B_s hB (by omega) (by omega) (fun i hi => if_neg (by omega)) (by show (if 2 = 2 then iv28_6.toInt else m5 2) = _; rw [if_pos rfl]; omega)) (hp_ss hsp (fun i hi => by show a i + (if i = 2 then iv28_6.toInt else m5 i) * un0.toInt = _; rw [if_neg (by omega)]; rfl) (by rw [← hw9]; omega)) (hp_mm hla (fun i hi => by show hz_ru (r i) (a i + (if i = 2 then iv28_6.toInt else m5 i) * un0.toInt) = _; rw [if_neg (by omega)]; rfl) (by rw [← hk9]; omega)) (hp_ss hal (fun i hi => by show hz_ru (r i) (a i + (if i = 2 then iv28_6.toInt else m5 i) * un0.toInt) = _; rw [if_neg (by omega)]; rfl) (by rw [← hk9]; omega)) htr9 (by have h9 := hMe (by omega); rw [← hlf9]; omega) ⟨by omega, by omega⟩ ⟨by omega, by omega⟩ ⟨by omega, by omega⟩ _ vi28_0) hZ (cwV 4 hts (hx_gV kw_969 kw_966 kw_968 kw_34 kw_100) rfl rfl rfl (by decide +kernel) ⟨Nat.le_of_ble_eq_true rfl, Nat.le_of_ble_eq_true rfl⟩) rfl hl.1 rfl (Nat.le_of_ble_eq_true rfl) dX5_tryFrom_115 ⟨Nat.le_of_ble_eq_true rfl, Nat.le_of_ble_eq_true rfl⟩) hW (fun L_38 h_39 H locs p_41 hW => ?_)
              obtain ⟨⟨w_43, w_44, w_45, w_46, fw_43, fw_44, fw_45, fw_46, hr_42⟩, hT, hs⟩ := p_41
              replace hT : hx_T T_tb L_38 h_39 := hT
              replace hs : hx_S T_tb [(5, 11), (5, 12), (28, 0), (33, 0)] L_22 h_27 L_38 h_39 := hs
              replace ex_9 := ex_9.trans (hs.a (gqle.S hM) rfl _).1.symm
              replace ex_21 := ex_21.trans (hs.a (gqre.S hM) rfl _).1.symm
              replace hM := hM.tr (hs.mono (by decide))
              have fw_43 : h_39.2.1 x 11 = w_43 := fw_43
              have bw_43 := hT.gi (gx.S hM) tt_5 (k := 11) rfl
              rw [fw_43] at bw_43
              have bw_43 : -2147483648 ≤ w_43.toInt ∧ w_43.toInt ≤ 2147483647 := bw_43
              have fw_44 : h_39.2.1 x 12 = w_44 := fw_44
              have bw_44 := hT.gi (gx.S hM) tt_5 (k := 12) rfl
              rw [fw_44] at bw_44
              have bw_44 : -2147483648 ≤ w_44.toInt ∧ w_44.toInt ≤ 2147483647 := bw_44
              have fw_45 : h_39.2.1 qwl = w_45 := fw_45
              have fw_46 : h_39.2.1 qtd = w_46 := fw_46
              obtain ⟨x_47, ex_47⟩ : ∃ y : Int32, y = iv28_6 + Int32.ofInt 1 := ⟨_, rfl⟩
              have rg_48 := i32_r iv28_6
              have zx_47 : x_47.toInt = iv28_6.toInt + (1) := by rw [ex_47]; exact i32_add rfl (by decide) (by omega) (by omega)
              refine lv_iinc (v := x_47) (lv' := [(6, .int x_47), (8, .int r_24), (7, .int x_13), (5, .int r_5), (0, .ref x), (1, .int (2 : Int32)), (2, .int i2), (3, .int i3), (4, .int i4)]) hx hb dX5_tryFrom_118 hl (k := 2) rfl ex_47.symm (by decide) rfl (fun ls hl => ?_)
              refine lv_goto (tgt := 28) hx hb dX5_tryFrom_121 (by decide) ?_
              exact ih28 x_47 w_43 w_44 w_46 w_45 _ _ L_38 h_39 (by omega) (by omega) (i32_r _).1 (i32_r _).2 (i32_r _).1 (i32_r _).2 (by rw [show x_47.toInt.toNat = iv28_6.toInt.toNat + 1 by omega, hp_F_blk]; exact hr_42.1) (fun i hi => (hr_42.2 i (by omega)).trans (htc9 i hi)) ls (by omega) hW hT hM fw_43 fw_44 fw_46 fw_45 (lv_sub hl [0, 3, 4, 5, 6, 7, 8] rfl)
          · skip
            exact hx_retv hx hb hr hlk hW ⟨⟨fw28_x_11, fw28_x_12, ia28_qwl, ia28_qtd, ffw28_x_11, ffw28_x_12, nia28_qwl, nia28_qtd, ⟨(by rw [hD9, hp_F_end (j := iv28_6.toInt.toNat) (by omega) rfl (fun k9 h0 h1 => hp_inf hB (by omega) (by omega) (by omega) hsp (by have h9 := hMe (by omega); rw [hj9, ← m9, ← hav9, ← hlf9]; omega) h0 h1)]; exact vi28_0), vi28_1⟩⟩, hT, hM⟩ dX5_tryFrom_65
    have zk_0 : (0 : Int32).toInt = 0 := by decide
    exact loop28 14 (0 : Int32) bl0 ba0 trf wkf _ _ L_3 h_4 (by decide) (by decide) (i32_r _).1 (i32_r _).2 (i32_r _).1 (i32_r _).2 (by rw [zk_0, Int.toNat_zero, Nat.zero_mul]; exact hSR) (fun i hi => rfl) ls (by omega) hW hT hM f_x_11 f_x_12 af_qtd af_qwl hl
  · skip
    have hdg9 := hp_B_e hB (show o0.toInt.toNat = 2 by omega)
    refine lv_aload_n hx hb dX5_tryFrom_8 rfl (lv_at hl 0 rfl) ?_
    refine lv_iload_n hx hb dX5_tryFrom_9 rfl (lv_at hl 3 rfl) ?_
    refine lv_iload hx hb dX5_tryFrom_10 (lv_at hl 4 rfl) ?_
    refine hx_gov (hx_runV (As := [.int i3, .int i4]) (rest := []) ⟨hx, hb, hml, hown, hts⟩ hW (gx.S hM) tt_5 (T := TX5) (N := 13) rfl (t_X5_keepIfBetter_v l dC dI dA L h s.heap.size x i3 i4 hT (gx.S hM) qtd (gqtd.S hM) ((hM.o gx trivial rfl).2.trans f_x_8) qwl (gqwl.S hM) ((hM.o gx trivial rfl).2.trans f_x_3) trf af_qtd wkf af_qwl o0 ((hM.o gx trivial rfl).1.trans f_x_0) bl0 f_x_11 ba0 f_x_12 a un0.toInt (hp_dg o0.toInt.toNat K) (fun i hi => by unfold hp_w; rw [hdg9 i (by omega)]; exact htr i (by omega)) s5 hSR) (cwV 2 hts (hx_gV kw_973 kw_970 kw_972 kw_35 kw_100) rfl rfl rfl (by decide +kernel) ⟨Nat.le_of_ble_eq_true rfl, Nat.le_of_ble_eq_true rfl⟩) rfl hl.1 rfl (Nat.le_of_ble_eq_true rfl) dX5_tryFrom_12 ⟨Nat.le_of_ble_eq_true rfl, Nat.le_of_ble_eq_true rfl⟩) hW (fun L_49 h_50 H locs p_52 hW => ?_)
    obtain ⟨⟨w_54, w_55, w_56, fw_54, fw_55, fw_56, hr_53⟩, hT, hs⟩ := p_52
    replace hT : hx_T T_tb L_49 h_50 := hT
    replace hs : hx_S T_tb [(5, 11), (5, 12), (28, 0)] L h L_49 h_50 := hs
    replace af_qtd : h_50.2.1 qtd = trf := (funext fun j => (hs.a (gqtd.S hM) rfl j).1).trans af_qtd
    replace hM := hM.tr (hs.mono (by decide))
    have fw_54 : h_50.2.1 x 11 = w_54 := fw_54
    have bw_54 := hT.gi (gx.S hM) tt_5 (k := 11) rfl
    rw [fw_54] at bw_54
    have bw_54 : -2147483648 ≤ w_54.toInt ∧ w_54.toInt ≤ 2147483647 := bw_54
    have fw_55 : h_50.2.1 x 12 = w_55 := fw_55
    have bw_55 := hT.gi (gx.S hM) tt_5 (k := 12) rfl
    rw [fw_55] at bw_55
    have bw_55 : -2147483648 ≤ w_55.toInt ∧ w_55.toInt ≤ 2147483647 := bw_55
    have fw_56 : h_50.2.1 qwl = w_56 := fw_56
    exact hx_retv hx hb hr hlk hW ⟨⟨w_54, w_55, w_56, trf, fw_54, fw_55, fw_56, af_qtd, ⟨(by rw [hp_leaf (show o0.toInt.toNat = 2 by omega) hdg9 hla hal (by have h9 := hfe; rw [show o0.toInt.toNat = 2 by omega] at h9; omega)]; exact hr_53), (fun i hi => rfl)⟩⟩, hT, hM⟩ dX5_tryFrom_15


set_option maxHeartbeats 4000000 in
set_option maxRecDepth 100000 in
theorem t_X5_tryFrom_1v (l : Launch) (dC : Nat → ClassId) (dI : Nat → Nat → Nat) (dA : Nat → ClassId) (L : List Nat) (h : hx_h) (sz : Nat) (b0 : hx_z) (x : Nat) (i2 : Int32) (i3 : Int32) (i4 : Int32) (hT : hx_T T_tb L h) (gx : hx_g L h x 5) (qle : Nat) (gqle : hx_g L h qle 32) (f_x_7 : h.2.2 x 7 = some qle) (qre : Nat) (gqre : hx_g L h qre 31) (f_x_6 : h.2.2 x 6 = some qre) (qtd : Nat) (gqtd : hx_g L h qtd 33) (f_x_8 : h.2.2 x 8 = some qtd) (qwl : Nat) (gqwl : hx_g L h qwl 28) (f_x_3 : h.2.2 x 3 = some qwl) (lef : Nat → Int32) (af_qle : h.2.1 qle = lef) (rsf : Nat → Int32) (af_qre : h.2.1 qre = rsf) (trf : Nat → Int32) (af_qtd : h.2.1 qtd = trf) (wkf : Nat → Int32) (af_qwl : h.2.1 qwl = wkf) (o0 : Int32) (f_x_0 : h.2.1 x 0 = o0) (un0 : Int32) (f_x_9 : h.2.1 x 9 = un0) (me0 : Int32) (f_x_10 : h.2.1 x 10 = me0) (bl0 : Int32) (f_x_11 : h.2.1 x 11 = bl0) (ba0 : Int32) (f_x_12 : h.2.1 x 12 = ba0) (a : Nat → Int) (ha : ∀ i : Nat, (i : Int) < o0.toInt → (lef i).toInt = a i) (hab : ∀ i : Nat, (i : Int) < o0.toInt → 1 ≤ a i ∧ a i ≤ 9999) (r : Nat → Int) (hr5 : ∀ i : Nat, (i : Int) < o0.toInt → (rsf i).toInt = r i) (hrb : ∀ i : Nat, (i : Int) < o0.toInt → 1 ≤ r i ∧ r i ≤ 609999) (hun : 1 ≤ un0.toInt ∧ un0.toInt ≤ 99) (M : Int) (hMe : 1 ≤ o0.toInt → M = me0.toInt) (hMb : M ≤ 9999) (hpn : 1 ≤ o0.toInt) (K : Nat) (m5 : Nat → Int) (hB : hp_B o0.toInt.toNat 1 K m5) (hsp : i2.toInt = hp_s (hp_w a un0.toInt m5) 1) (hla : i3.toInt = hp_m (hp_k a r un0.toInt m5) 1) (hal : i4.toInt = hp_s (hp_k a r un0.toInt m5) 1) (htr : ∀ i : Nat, i < 1 → (trf i).toInt = hp_w a un0.toInt m5 i) (hfe : i2.toInt + (hp_s a o0.toInt.toNat - hp_s a 1) ≤ M) (hi2 : 0 ≤ i2.toInt ∧ i2.toInt ≤ 9999) (hi3 : 0 ≤ i3.toInt ∧ i3.toInt ≤ 609999) (hi4 : 0 ≤ i4.toInt ∧ i4.toInt ≤ 609999) (s5 : hp_S) (hSR : hp_SR s5 bl0.toInt ba0.toInt wkf a un0.toInt o0.toInt) : Met l yX5_tryFrom (Cond.code yX5_tryFrom cX5_tryFrom 9 none :: hx_all) ({ frames := 5, cells := 0, slots := 0, locals := 146 }) (va_Pc [.ref x, .int (1 : Int32), .int i2, .int i3, .int i4] (hx_BX T_tb (P_ty dA) (dC, dI) vwCl L h sz b0)) (va_Qv (fun (u : List Nat × hx_h) => (∃ (bl1 : Int32) (ba1 : Int32) (wkf1 : Nat → Int32) (trf1 : Nat → Int32), u.2.2.1 x 11 = bl1 ∧ u.2.2.1 x 12 = ba1 ∧ u.2.2.1 qwl = wkf1 ∧ u.2.2.1 qtd = trf1 ∧ (hp_SR (hp_F (hp_f a r un0.toInt M o0.toInt.toNat) (K * 13 ^ (o0.toInt.toNat - 1)) (13 ^ (o0.toInt.toNat - 1)) s5) bl1.toInt ba1.toInt wkf1 a un0.toInt o0.toInt ∧ ∀ i : Nat, i < 1 → trf1 i = trf i)) ∧ hx_T T_tb u.1 u.2 ∧ hx_S T_tb [(5, 11), (5, 12), (28, 0), (33, 0)] L h u.1 u.2) (hx_E T_tb (P_ty dA) (dC, dI) vwCl (hx_A L sz)) (hx_A L sz)) 0 0 (hx_A L sz) := by
  refine hx_metX (lv := [(0, .ref x), (1, .int (1 : Int32)), (2, .int i2), (3, .int i3), (4, .int i4)]) (by decide +kernel) rfl (Nat.le_of_ble_eq_true rfl) rfl ?_
  intro p e s m below meth c hx hb hml hr hlk hts0 hown hin hsz hW hZ ls hl
  have hts : ∀ w ∈ hx_all, w.before _ s = true := fun w hw => hts0 w (List.mem_cons_of_mem _ hw)
  have hown : s.vm.findClass "SmallCourt$Plan" = some m.cls := hown
  have hM : hx_S T_tb [(5, 11), (5, 12), (28, 0), (33, 0)] L h L h := hx_S.rf
  have b_o0 := hT.gi gx tt_5 (k := 0) rfl
  rw [f_x_0] at b_o0
  have b_o0 : 0 ≤ o0.toInt ∧ o0.toInt ≤ 4 := b_o0
  have b_un0 := hT.gi gx tt_5 (k := 9) rfl
  rw [f_x_9] at b_un0
  have b_un0 : -2147483648 ≤ un0.toInt ∧ un0.toInt ≤ 2147483647 := b_un0
  have b_me0 := hT.gi gx tt_5 (k := 10) rfl
  rw [f_x_10] at b_me0
  have b_me0 : -2147483648 ≤ me0.toInt ∧ me0.toInt ≤ 2147483647 := b_me0
  have b_bl0 := hT.gi gx tt_5 (k := 11) rfl
  rw [f_x_11] at b_bl0
  have b_bl0 : -2147483648 ≤ bl0.toInt ∧ bl0.toInt ≤ 2147483647 := b_bl0
  have b_ba0 := hT.gi gx tt_5 (k := 12) rfl
  rw [f_x_12] at b_ba0
  have b_ba0 : -2147483648 ≤ ba0.toInt ∧ ba0.toInt ≤ 2147483647 := b_ba0
  refine lv_iload_n hx hb dX5_tryFrom_0 rfl (lv_at hl 1 rfl) ?_
  refine lv_aload_n hx hb dX5_tryFrom_1 rfl (lv_at hl 0 rfl) ?_
  refine hk_geti hx hb hts hC_5 hown hW (gx.S hM) tt_5 0 (by decide) rfl kw_258 ⟨rfl, rfl, rfl⟩ ((hM.o gx trivial rfl).1.trans f_x_0) dX5_tryFrom_2 ?_
  refine hb_icmp_lt (zx := 1) (zy := o0.toInt) (tgt := 16) hx hb (by decide) rfl dX5_tryFrom_5 (by decide) (fun c_1 => ?_) (fun c_1 => ?_)
  · skip
    have hD9 := hp_pw (n := o0.toInt.toNat) (p := 1) (by omega)
    refine lv_aload_n hx hb dX5_tryFrom_16 rfl (lv_at hl 0 rfl) ?_
    refine lv_iload_n hx hb dX5_tryFrom_17 rfl (lv_at hl 1 rfl) ?_
    refine lv_iconst (v := 1) hx hb dX5_tryFrom_18 (by decide) ?_
    refine lv_iadd hx hb dX5_tryFrom_19 ?_
    refine lv_topi (fun x_2 ex_2 => ?_)
    obtain rfl : x_2 = (2 : Int32) := ex_2.trans (by decide)
    have zc_2 : (2 : Int32).toInt = 2 := by decide
    refine hx_goi (hx_runV (As := [.int (2 : Int32)]) (rest := []) ⟨hx, hb, hml, hown, hts⟩ hW (gx.S hM) tt_5 (T := TX5) (N := 13) rfl (t_X5_leastFrom_v l dC dI dA L h s.heap.size x (2 : Int32) hT (gx.S hM) qle (gqle.S hM) ((hM.o gx trivial rfl).2.trans f_x_7) lef (hx_afS hM gqle rfl af_qle) o0 ((hM.o gx trivial rfl).1.trans f_x_0) a ha hab ⟨by omega, by omega⟩) (cwV 1 hts (hx_gV kw_964 kw_961 kw_963 kw_33 kw_100) rfl rfl rfl (by decide +kernel) ⟨Nat.le_of_ble_eq_true rfl, Nat.le_of_ble_eq_true rfl⟩) rfl hl.1 rfl (Nat.le_of_ble_eq_true rfl) dX5_tryFrom_20 ⟨Nat.le_of_ble_eq_true rfl, Nat.le_of_ble_eq_true rfl⟩) hW (fun r_5 L_3 h_4 H locs p_6 hW => ?_)
    obtain ⟨hr_7, hT, hs⟩ := p_6
    replace hT : hx_T T_tb L_3 h_4 := hT
    replace hs : hx_S T_tb [] L h L_3 h_4 := hs
    replace f_x_11 := (hs.o (gx.S hM) trivial rfl).1.trans f_x_11
    replace f_x_12 := (hs.o (gx.S hM) trivial rfl).1.trans f_x_12
    replace af_qtd : h_4.2.1 qtd = trf := (funext fun j => (hs.a (gqtd.S hM) rfl j).1).trans af_qtd
    replace af_qwl : h_4.2.1 qwl = wkf := (funext fun j => (hs.a (gqwl.S hM) rfl j).1).trans af_qwl
    replace hM := hM.tr (hs.mono (by decide))
    have hlf9 := hr_7.1; rw [zc_2, show (2 : Int).toNat = 2 from rfl] at hlf9
    refine lv_istore (lv' := [(5, .int r_5), (0, .ref x), (1, .int (1 : Int32)), (2, .int i2), (3, .int i3), (4, .int i4)]) hx hb dX5_tryFrom_23 hl (by decide) rfl (fun ls hl => ?_)
    refine lv_iconst (v := 0) hx hb dX5_tryFrom_25 (by decide) ?_
    refine lv_istore (lv' := [(6, .int (0 : Int32)), (5, .int r_5), (0, .ref x), (1, .int (1 : Int32)), (2, .int i2), (3, .int i3), (4, .int i4)]) hx hb dX5_tryFrom_26 hl (by decide) rfl (fun ls hl => ?_)
    have loop28 : ∀ (n28 : Nat) (iv28_6 fw28_x_11 fw28_x_12 : Int32) (ia28_qtd ia28_qwl : Nat → Int32) (H : Heap) (locs : List Loc) (hL1 : List Nat) (hl1 : hx_h), 0 ≤ iv28_6.toInt → iv28_6.toInt ≤ 13 → -2147483648 ≤ fw28_x_11.toInt → fw28_x_11.toInt ≤ 2147483647 → -2147483648 ≤ fw28_x_12.toInt → fw28_x_12.toInt ≤ 2147483647 → (hp_SR (hp_F (hp_f a r un0.toInt M o0.toInt.toNat) (K * (13 * 13 ^ (o0.toInt.toNat - 2))) ((iv28_6.toInt).toNat * 13 ^ (o0.toInt.toNat - 2)) s5) fw28_x_11.toInt fw28_x_12.toInt ia28_qwl a un0.toInt o0.toInt) → (∀ i : Nat, i < 1 → ia28_qtd i = trf i) → ∀ (ls : Array Slot), 13 - iv28_6.toInt < (n28 : Int) → hx_W T_tb (P_ty dA) (dC, dI) vwCl (hx_A L sz) s.heap hL1 hl1 s H locs → hx_T T_tb hL1 hl1 → hx_S T_tb [(5, 11), (5, 12), (28, 0), (33, 0)] L h hL1 hl1 → hl1.2.1 x 11 = fw28_x_11 → hl1.2.1 x 12 = fw28_x_12 → hl1.2.1 qtd = ia28_qtd → hl1.2.1 qwl = ia28_qwl → lv_has ls 9 [(6, .int iv28_6), (5, .int r_5), (0, .ref x), (1, .int (1 : Int32)), (2, .int i2), (3, .int i3), (4, .int i4)] → W p l e ({ frames := 5, cells := 0, slots := 0, locals := 146 }) s m ([.ref x, .int (1 : Int32), .int i2, .int i3, .int i4] : List Value).toArray below meth c H locs 0 0 (MQ below (va_Qv (fun (u : List Nat × hx_h) => (∃ (bl1 : Int32) (ba1 : Int32) (wkf1 : Nat → Int32) (trf1 : Nat → Int32), u.2.2.1 x 11 = bl1 ∧ u.2.2.1 x 12 = ba1 ∧ u.2.2.1 qwl = wkf1 ∧ u.2.2.1 qtd = trf1 ∧ (hp_SR (hp_F (hp_f a r un0.toInt M o0.toInt.toNat) (K * 13 ^ (o0.toInt.toNat - 1)) (13 ^ (o0.toInt.toNat - 1)) s5) bl1.toInt ba1.toInt wkf1 a un0.toInt o0.toInt ∧ ∀ i : Nat, i < 1 → trf1 i = trf i)) ∧ hx_T T_tb u.1 u.2 ∧ hx_S T_tb [(5, 11), (5, 12), (28, 0), (33, 0)] L h u.1 u.2) (hx_E T_tb (P_ty dA) (dC, dI) vwCl (hx_A L sz)) (hx_A L sz)) ([.ref x, .int (1 : Int32), .int i2, .int i3, .int i4] : List Value).toArray s 0 0 (hx_A L sz)) (F0 m 28 ls []) := by
      intro n28
      induction n28 with
      | zero => intro iv28_6 fw28_x_11 fw28_x_12 ia28_qtd ia28_qwl H locs hL1 hl1 bliv28_6 buiv28_6 blfw28_x_11 bufw28_x_11 blfw28_x_12 bufw28_x_12 vi28_0 vi28_1 ls hn28; exfalso; omega
      | succ n28 ih28 =>
        intro iv28_6 fw28_x_11 fw28_x_12 ia28_qtd ia28_qwl H locs hL1 hl1 bliv28_6 buiv28_6 blfw28_x_11 bufw28_x_11 blfw28_x_12 bufw28_x_12 vi28_0 vi28_1 ls hn28 hW hT hM ffw28_x_11 ffw28_x_12 nia28_qtd nia28_qwl hl
        refine lv_iload hx hb dX5_tryFrom_28 (lv_at hl 0 rfl) ?_
        refine lv_bipush (v := 12) hx hb dX5_tryFrom_30 (by decide) ?_
        refine hb_icmp_gt (zx := iv28_6.toInt) (zy := 12) (tgt := 124) hx hb rfl (by decide) dX5_tryFrom_32 (by decide) (fun c_8 => ?_) (fun c_8 => ?_)
        · skip
          exact hx_retv hx hb hr hlk hW ⟨⟨fw28_x_11, fw28_x_12, ia28_qwl, ia28_qtd, ffw28_x_11, ffw28_x_12, nia28_qwl, nia28_qtd, ⟨(by rw [hD9]; have h9 := vi28_0; rw [show iv28_6.toInt.toNat = 13 by omega] at h9; exact h9), vi28_1⟩⟩, hT, hM⟩ dX5_tryFrom_124
        · skip
          refine lv_aload_n hx hb dX5_tryFrom_35 rfl (lv_at hl 2 rfl) ?_
          refine hk_getr hx hb hts hC_5 hown hW (gx.S hM) tt_5 7 (by decide) rfl kw_270 ⟨rfl, rfl, rfl⟩ ((hM.o gx trivial rfl).2.trans f_x_7) dX5_tryFrom_36 ?_
          refine lv_iload_n hx hb dX5_tryFrom_39 rfl (lv_at hl 3 rfl) ?_
          refine hx_iald hx hb hW hT (gqle.S hM) tt_32 rfl (by decide) dX5_tryFrom_40 (fun x_9 ex_9 lx_9 ux_9 => ?_)
          have ax_9 : x_9 = lef (1 : Int32).toNatClampNeg := ex_9.trans (congrFun (hx_afS hM gqle rfl af_qle) _)
          have hav9 : x_9.toInt = a 1 := by rw [ax_9, show (1 : Int32).toNatClampNeg = 1 from by decide]; exact ha 1 (by omega)
          have hab9 := hab 1 (by omega); rw [← hav9] at hab9
          refine lv_iload hx hb dX5_tryFrom_41 (lv_at hl 0 rfl) ?_
          refine lv_aload_n hx hb dX5_tryFrom_43 rfl (lv_at hl 2 rfl) ?_
          refine hk_geti hx hb hts hC_5 hown hW (gx.S hM) tt_5 9 (by decide) rfl kw_272 ⟨rfl, rfl, rfl⟩ ((hM.o gx trivial rfl).1.trans f_x_9) dX5_tryFrom_44 ?_
          refine lv_imul hx hb dX5_tryFrom_47 ?_
          refine lv_topi (fun x_10 ex_10 => ?_)
          have mx_10 : iv28_6.toInt = 0 → x_10.toInt = 0 := fun z => by rw [ex_10]; exact hx_mul0 z
          obtain ⟨m9, m9l, m9h⟩ := hp_mul ⟨by omega, by omega⟩ ⟨by omega, by omega⟩ ex_10
          refine lv_iadd hx hb dX5_tryFrom_48 ?_
          have rg_11 := i32_r x_9
          have rg_12 := i32_r x_10
          refine lv_topi (fun x_13 ex_13 => ?_)
          have zx_13 : x_13.toInt = x_9.toInt + x_10.toInt := by rw [ex_13]; exact i32_add rfl rfl (by omega) (by omega)
          refine lv_istore (lv' := [(7, .int x_13), (6, .int iv28_6), (5, .int r_5), (0, .ref x), (1, .int (1 : Int32)), (2, .int i2), (3, .int i3), (4, .int i4)]) hx hb dX5_tryFrom_49 hl (by decide) rfl (fun ls hl => ?_)
          have hw9 : x_13.toInt = hp_w a un0.toInt (fun i => if i = 1 then iv28_6.toInt else m5 i) 1 := by show x_13.toInt = a 1 + (if 1 = 1 then iv28_6.toInt else m5 1) * un0.toInt; rw [if_pos rfl, ← m9, ← hav9]; omega
          have hj9 : ((iv28_6.toInt.toNat : Nat) : Int) = iv28_6.toInt := by omega
          refine lv_iload_n hx hb dX5_tryFrom_51 rfl (lv_at hl 5 rfl) ?_
          refine lv_iload hx hb dX5_tryFrom_52 (lv_at hl 0 rfl) ?_
          refine lv_iadd hx hb dX5_tryFrom_54 ?_
          have rg_14 := i32_r i2
          have rg_15 := i32_r x_13
          refine lv_topi (fun x_16 ex_16 => ?_)
          have zx_16 : x_16.toInt = i2.toInt + x_13.toInt := by rw [ex_16]; exact i32_add rfl rfl (by omega) (by omega)
          refine lv_iload hx hb dX5_tryFrom_55 (lv_at hl 2 rfl) ?_
          refine lv_iadd hx hb dX5_tryFrom_57 ?_
          have rg_17 := i32_r x_16
          have rg_18 := i32_r r_5
          refine lv_topi (fun x_19 ex_19 => ?_)
          have zx_19 : x_19.toInt = x_16.toInt + r_5.toInt := by rw [ex_19]; exact i32_add rfl rfl (by omega) (by omega)
          refine lv_aload_n hx hb dX5_tryFrom_58 rfl (lv_at hl 3 rfl) ?_
          refine hk_geti hx hb hts hC_5 hown hW (gx.S hM) tt_5 10 (by decide) rfl kw_273 ⟨rfl, rfl, rfl⟩ ((hM.o gx trivial rfl).1.trans f_x_10) dX5_tryFrom_59 ?_
          refine hb_icmp_le (zx := x_19.toInt) (zy := me0.toInt) (tgt := 66) hx hb rfl rfl dX5_tryFrom_62 (by decide) (fun c_20 => ?_) (fun c_20 => ?_)
          · skip
            refine lv_aload_n hx hb dX5_tryFrom_66 rfl (lv_at hl 3 rfl) ?_
            refine hk_getr hx hb hts hC_5 hown hW (gx.S hM) tt_5 6 (by decide) rfl kw_269 ⟨rfl, rfl, rfl⟩ ((hM.o gx trivial rfl).2.trans f_x_6) dX5_tryFrom_67 ?_
            refine lv_iload_n hx hb dX5_tryFrom_70 rfl (lv_at hl 4 rfl) ?_
            refine hx_iald hx hb hW hT (gqre.S hM) tt_31 rfl (by decide) dX5_tryFrom_71 (fun x_21 ex_21 lx_21 ux_21 => ?_)
            have ax_21 : x_21 = rsf (1 : Int32).toNatClampNeg := ex_21.trans (congrFun (hx_afS hM gqre rfl af_qre) _)
            have hrv9 : x_21.toInt = r 1 := by rw [ax_21, show (1 : Int32).toNatClampNeg = 1 from by decide]; exact hr5 1 (by omega)
            have hrb9 := hrb 1 (by omega); rw [← hrv9] at hrb9
            refine lv_iload hx hb dX5_tryFrom_72 (lv_at hl 0 rfl) ?_
            refine hx_goi (hx_runSN (As := [.int x_21, .int x_13]) (rest := []) ⟨hx, hb, hml, hown, hts⟩ hW (t_X9_roundUp_v l dC dI dA hL1 hl1 H.size x_21 x_13 hT) ⟨va_cnB 2 hts (hx_gC kw_921) rfl rfl rfl (hZ.1 _ (List.mem_of_getElem? (i := 10) rfl)) (hts _ kw_94) (by decide +kernel) ⟨Nat.le_of_ble_eq_true rfl, Nat.le_of_ble_eq_true rfl⟩, hts _ kw_920, trivial⟩ rfl hl.1 rfl (Nat.le_of_ble_eq_true rfl) dX5_tryFrom_74 ⟨Nat.le_of_ble_eq_true rfl, Nat.le_of_ble_eq_true rfl⟩) hW (fun r_24 L_22 h_23 H locs p_25 hW => ?_)
            obtain ⟨hr_26, hT, hs⟩ := p_25
            replace hT : hx_T T_tb L_22 h_23 := hT
            replace hs : hx_S T_tb [] hL1 hl1 L_22 h_23 := hs
            replace ffw28_x_11 := (hs.o (gx.S hM) trivial rfl).1.trans ffw28_x_11
            replace ffw28_x_12 := (hs.o (gx.S hM) trivial rfl).1.trans ffw28_x_12
            replace nia28_qtd : h_23.2.1 qtd = ia28_qtd := (funext fun j => (hs.a (gqtd.S hM) rfl j).1).trans nia28_qtd
            replace nia28_qwl : h_23.2.1 qwl = ia28_qwl := (funext fun j => (hs.a (gqwl.S hM) rfl j).1).trans nia28_qwl
            replace ex_9 := ex_9.trans (hs.a (gqle.S hM) rfl _).1.symm
            replace ex_21 := ex_21.trans (hs.a (gqre.S hM) rfl _).1.symm
            replace hM := hM.tr (hs.mono (by decide))
            have hk9 : r_24.toInt = hp_k a r un0.toInt (fun i => if i = 1 then iv28_6.toInt else m5 i) 1 := by unfold hp_k; rw [← hw9, ← hrv9]; exact hr_26
            have hkb9 : 0 ≤ r_24.toInt ∧ r_24.toInt ≤ 609999 := by have h9 := hz_ru_b (s := x_21.toInt) (b := x_13.toInt); rw [← hr_26] at h9; omega
            refine lv_istore (lv' := [(8, .int r_24), (7, .int x_13), (6, .int iv28_6), (5, .int r_5), (0, .ref x), (1, .int (1 : Int32)), (2, .int i2), (3, .int i3), (4, .int i4)]) hx hb dX5_tryFrom_77 hl (by decide) rfl (fun ls hl => ?_)
            refine lv_aload_n hx hb dX5_tryFrom_79 rfl (lv_at hl 4 rfl) ?_
            refine hk_getr hx hb hts hC_5 hown hW (gx.S hM) tt_5 8 (by decide) rfl kw_271 ⟨rfl, rfl, rfl⟩ ((hM.o gx trivial rfl).2.trans f_x_8) dX5_tryFrom_80 ?_
            refine lv_iload_n hx hb dX5_tryFrom_83 rfl (lv_at hl 5 rfl) ?_
            refine lv_iload hx hb dX5_tryFrom_84 (lv_at hl 1 rfl) ?_
            have nia28_qtdO := nia28_qtd
            refine hx_iast hx hb hW hT (hx_S.rf (M := [(33, 0)])) (gqtd.S hM) tt_33 rfl (by decide) rfl (i32_r _) (List.mem_singleton.mpr rfl) dX5_tryFrom_86 (fun H locs h_27 eh_27 hW hT hs => ?_)
            replace ffw28_x_11 := (hs.o (gx.S hM) trivial rfl).1.trans ffw28_x_11
            replace ffw28_x_12 := (hs.o (gx.S hM) trivial rfl).1.trans ffw28_x_12
            replace nia28_qwl : h_27.2.1 qwl = ia28_qwl := (funext fun j => (hs.a (gqwl.S hM) rfl j).1).trans nia28_qwl
            replace ex_9 := ex_9.trans (hs.a (gqle.S hM) rfl _).1.symm
            replace ex_21 := ex_21.trans (hs.a (gqre.S hM) rfl _).1.symm
            replace hM := hM.tr (hs.mono (by decide))
            obtain ⟨fa_28, dfa_28⟩ : ∃ g : Nat → Int32, g = hx_up ia28_qtd (1 : Int32).toNatClampNeg x_13 := ⟨_, rfl⟩
            have nfa_28 : h_27.2.1 qtd = fa_28 := by rw [eh_27, dfa_28, ← nia28_qtdO]; exact hx_pi_fun _ _ _ _
            have htr9 : ∀ i : Nat, i < 2 → (fa_28 i).toInt = hp_w a un0.toInt (fun i => if i = 1 then iv28_6.toInt else m5 i) i := fun i hi => by by_cases z : i = 1; (subst z; rw [dfa_28, show (1 : Int32).toNatClampNeg = 1 from by decide, hx_up_at]; exact hw9); (rw [dfa_28, hx_up_ne (by rw [show (1 : Int32).toNatClampNeg = 1 from by decide]; exact z), vi28_1 i (by omega)]; show _ = a i + (if i = 1 then iv28_6.toInt else m5 i) * un0.toInt; rw [if_neg z]; exact htr i (by omega))
            have htc9 : ∀ i : Nat, i < 1 → fa_28 i = trf i := fun i hi => by rw [dfa_28, hx_up_ne (by rw [show (1 : Int32).toNatClampNeg = 1 from by decide]; omega)]; exact vi28_1 i hi
            refine lv_iload hx hb dX5_tryFrom_87 (lv_at hl 0 rfl) ?_
            refine lv_aload_n hx hb dX5_tryFrom_89 rfl (lv_at hl 4 rfl) ?_
            refine hk_geti hx hb hts hC_5 hown hW (gx.S hM) tt_5 11 (by decide) rfl kw_274 ⟨rfl, rfl, rfl⟩ ffw28_x_11 dX5_tryFrom_90 ?_
            refine hb_icmp_gt (zx := r_24.toInt) (zy := fw28_x_11.toInt) (tgt := 118) hx hb rfl rfl dX5_tryFrom_93 (by decide) (fun c_29 => ?_) (fun c_29 => ?_)
            · skip
              obtain ⟨x_30, ex_30⟩ : ∃ y : Int32, y = iv28_6 + Int32.ofInt 1 := ⟨_, rfl⟩
              have rg_31 := i32_r iv28_6
              have zx_30 : x_30.toInt = iv28_6.toInt + (1) := by rw [ex_30]; exact i32_add rfl (by decide) (by omega) (by omega)
              refine lv_iinc (v := x_30) (lv' := [(6, .int x_30), (8, .int r_24), (7, .int x_13), (5, .int r_5), (0, .ref x), (1, .int (1 : Int32)), (2, .int i2), (3, .int i3), (4, .int i4)]) hx hb dX5_tryFrom_118 hl (k := 2) rfl ex_30.symm (by decide) rfl (fun ls hl => ?_)
              refine lv_goto (tgt := 28) hx hb dX5_tryFrom_121 (by decide) ?_
              exact ih28 x_30 fw28_x_11 fw28_x_12 fa_28 ia28_qwl _ _ L_22 h_27 (by omega) (by omega) (i32_r _).1 (i32_r _).2 (i32_r _).1 (i32_r _).2 (by rw [show x_30.toInt.toNat = iv28_6.toInt.toNat + 1 by omega, hp_skip (by omega) (by omega) rfl (y := r_24.toInt) (by rw [hj9, ← hrv9, ← hav9, ← m9, show x_9.toInt + x_10.toInt = x_13.toInt by omega]; exact hr_26) (by rw [vi28_0.1]; omega)]; exact vi28_0) htc9 ls (by omega) hW hT hM ffw28_x_11 ffw28_x_12 nfa_28 nia28_qwl (lv_sub hl [0, 3, 4, 5, 6, 7, 8] rfl)
            · skip
              refine lv_aload_n hx hb dX5_tryFrom_96 rfl (lv_at hl 4 rfl) ?_
              refine lv_iload_n hx hb dX5_tryFrom_97 rfl (lv_at hl 5 rfl) ?_
              refine lv_iconst (v := 1) hx hb dX5_tryFrom_98 (by decide) ?_
              refine lv_iadd hx hb dX5_tryFrom_99 ?_
              refine lv_topi (fun x_32 ex_32 => ?_)
              obtain rfl : x_32 = (2 : Int32) := ex_32.trans (by decide)
              refine lv_iload_n hx hb dX5_tryFrom_100 rfl (lv_at hl 6 rfl) ?_
              refine lv_iload hx hb dX5_tryFrom_101 (lv_at hl 1 rfl) ?_
              refine lv_iadd hx hb dX5_tryFrom_103 ?_
              refine lv_topi (fun x_33 ex_33 => ?_)
              have zx_33 : x_33.toInt = i2.toInt + x_13.toInt := by rw [ex_33]; exact i32_add rfl rfl (by omega) (by omega)
              refine lv_iload_n hx hb dX5_tryFrom_104 rfl (lv_at hl 7 rfl) ?_
              refine lv_iload hx hb dX5_tryFrom_105 (lv_at hl 0 rfl) ?_
              refine va_mmax hx hb (hml.trans hl.1.symm) hown (hts _ kw_976) (hts _ kw_882) (hts _ kw_109) (hts _ kw_883) (Nat.le_of_ble_eq_true rfl) (Nat.le_of_ble_eq_true rfl) (Nat.le_of_ble_eq_true rfl) (Nat.le_of_ble_eq_true rfl) dX5_tryFrom_107 ?_
              refine lv_topi (fun x_34 ex_34 => ?_)
              have hmx9 := hz_mx_e ex_34
              refine lv_iload hx hb dX5_tryFrom_110 (lv_at hl 8 rfl) ?_
              refine lv_iload hx hb dX5_tryFrom_112 (lv_at hl 0 rfl) ?_
              refine lv_iadd hx hb dX5_tryFrom_114 ?_
              have rg_35 := i32_r i4
              have rg_36 := i32_r r_24
              refine lv_topi (fun x_37 ex_37 => ?_)
              have zx_37 : x_37.toInt = i4.toInt + r_24.toInt := by rw [ex_37]; exact i32_add rfl rfl (by omega) (by omega)
              refine hx_gov (hx_runVX (As := [.int (2 : Int32), .int x_33, .int x_34, .int x_37]) (rest := []) ⟨hx, hb, hml, hown, hts⟩ hW (gx.S hM) tt_5 (T := TX5) (N := 13) rfl (t_X5_tryFrom_2v l dC dI dA L_22 h_27 H.size b0 x x_33 x_34 x_37 hT (gx.S hM) qle (gqle.S hM) ((hM.o gx trivial rfl).2.trans f_x_7) qre (gqre.S hM) ((hM.o gx trivial rfl).2.trans f_x_6) qtd (gqtd.S hM) ((hM.o gx trivial rfl).2.trans f_x_8) qwl (gqwl.S hM) ((hM.o gx trivial rfl).2.trans f_x_3) lef (hx_afS hM gqle rfl af_qle) rsf (hx_afS hM gqre rfl af_qre) fa_28 nfa_28 ia28_qwl nia28_qwl o0 ((hM.o gx trivial rfl).1.trans f_x_0) un0 ((hM.o gx trivial rfl).1.trans f_x_9) me0 ((hM.o gx trivial rfl).1.trans f_x_10) fw28_x_11 ffw28_x_11 fw28_x_12 ffw28_x_12 a ha hab r hr5 hrb hun M hMe hMb (by omega) (13 * K + iv28_6.toInt.toNat) (fun i => if i = 1 then iv28_6.toInt else m5 i) (hp_B_s hB (by omega) (by omega) (fun i hi => if_neg (by omega)) (by show (if 1 = 1 then iv28_6.toInt else m5 1) = _; rw [if_pos rfl]; omega)) (hp_ss hsp (fun i hi => by show a i + (if i = 1 then iv28_6.toInt else m5 i) * un0.toInt = _; rw [if_neg (by omega)]; rfl) (by rw [← hw9]; omega)) (hp_mm hla (fun i hi => by show hz_ru (r i) (a i + (if i = 1 then iv28_6.toInt else m5 i) * un0.toInt) = _; rw [if_neg (by omega)]; rfl) (by rw [← hk9]; omega)) (hp_ss hal (fun i hi => by show hz_ru (r i) (a i + (if i = 1 then iv28_6.toInt else m5 i) * un0.toInt) = _; rw [if_neg (by omega)]; rfl) (by rw [← hk9]; omega)) htr9 (by have h9 := hMe (by omega); rw [← hlf9]; omega) ⟨by omega, by omega⟩ ⟨by omega, by omega⟩ ⟨by omega, by omega⟩ _ vi28_0) hZ (cwV 4 hts (hx_gV kw_969 kw_966 kw_968 kw_34 kw_100) rfl rfl rfl (by decide +kernel) ⟨Nat.le_of_ble_eq_true rfl, Nat.le_of_ble_eq_true rfl⟩) rfl hl.1 rfl (Nat.le_of_ble_eq_true rfl) dX5_tryFrom_115 ⟨Nat.le_of_ble_eq_true rfl, Nat.le_of_ble_eq_true rfl⟩) hW (fun L_38 h_39 H locs p_41 hW => ?_)
              obtain ⟨⟨w_43, w_44, w_45, w_46, fw_43, fw_44, fw_45, fw_46, hr_42⟩, hT, hs⟩ := p_41
              replace hT : hx_T T_tb L_38 h_39 := hT
              replace hs : hx_S T_tb [(5, 11), (5, 12), (28, 0), (33, 0)] L_22 h_27 L_38 h_39 := hs
              replace ex_9 := ex_9.trans (hs.a (gqle.S hM) rfl _).1.symm
              replace ex_21 := ex_21.trans (hs.a (gqre.S hM) rfl _).1.symm
              replace hM := hM.tr (hs.mono (by decide))
              have fw_43 : h_39.2.1 x 11 = w_43 := fw_43
              have bw_43 := hT.gi (gx.S hM) tt_5 (k := 11) rfl
              rw [fw_43] at bw_43
              have bw_43 : -2147483648 ≤ w_43.toInt ∧ w_43.toInt ≤ 2147483647 := bw_43
              have fw_44 : h_39.2.1 x 12 = w_44 := fw_44
              have bw_44 := hT.gi (gx.S hM) tt_5 (k := 12) rfl
              rw [fw_44] at bw_44
              have bw_44 : -2147483648 ≤ w_44.toInt ∧ w_44.toInt ≤ 2147483647 := bw_44
              have fw_45 : h_39.2.1 qwl = w_45 := fw_45
              have fw_46 : h_39.2.1 qtd = w_46 := fw_46
              obtain ⟨x_47, ex_47⟩ : ∃ y : Int32, y = iv28_6 + Int32.ofInt 1 := ⟨_, rfl⟩
              have rg_48 := i32_r iv28_6
              have zx_47 : x_47.toInt = iv28_6.toInt + (1) := by rw [ex_47]; exact i32_add rfl (by decide) (by omega) (by omega)
              refine lv_iinc (v := x_47) (lv' := [(6, .int x_47), (8, .int r_24), (7, .int x_13), (5, .int r_5), (0, .ref x), (1, .int (1 : Int32)), (2, .int i2), (3, .int i3), (4, .int i4)]) hx hb dX5_tryFrom_118 hl (k := 2) rfl ex_47.symm (by decide) rfl (fun ls hl => ?_)
              refine lv_goto (tgt := 28) hx hb dX5_tryFrom_121 (by decide) ?_
              exact ih28 x_47 w_43 w_44 w_46 w_45 _ _ L_38 h_39 (by omega) (by omega) (i32_r _).1 (i32_r _).2 (i32_r _).1 (i32_r _).2 (by rw [show x_47.toInt.toNat = iv28_6.toInt.toNat + 1 by omega, hp_F_blk]; exact hr_42.1) (fun i hi => (hr_42.2 i (by omega)).trans (htc9 i hi)) ls (by omega) hW hT hM fw_43 fw_44 fw_46 fw_45 (lv_sub hl [0, 3, 4, 5, 6, 7, 8] rfl)
          · skip
            exact hx_retv hx hb hr hlk hW ⟨⟨fw28_x_11, fw28_x_12, ia28_qwl, ia28_qtd, ffw28_x_11, ffw28_x_12, nia28_qwl, nia28_qtd, ⟨(by rw [hD9, hp_F_end (j := iv28_6.toInt.toNat) (by omega) rfl (fun k9 h0 h1 => hp_inf hB (by omega) (by omega) (by omega) hsp (by have h9 := hMe (by omega); rw [hj9, ← m9, ← hav9, ← hlf9]; omega) h0 h1)]; exact vi28_0), vi28_1⟩⟩, hT, hM⟩ dX5_tryFrom_65
    have zk_0 : (0 : Int32).toInt = 0 := by decide
    exact loop28 14 (0 : Int32) bl0 ba0 trf wkf _ _ L_3 h_4 (by decide) (by decide) (i32_r _).1 (i32_r _).2 (i32_r _).1 (i32_r _).2 (by rw [zk_0, Int.toNat_zero, Nat.zero_mul]; exact hSR) (fun i hi => rfl) ls (by omega) hW hT hM f_x_11 f_x_12 af_qtd af_qwl hl
  · skip
    have hdg9 := hp_B_e hB (show o0.toInt.toNat = 1 by omega)
    refine lv_aload_n hx hb dX5_tryFrom_8 rfl (lv_at hl 0 rfl) ?_
    refine lv_iload_n hx hb dX5_tryFrom_9 rfl (lv_at hl 3 rfl) ?_
    refine lv_iload hx hb dX5_tryFrom_10 (lv_at hl 4 rfl) ?_
    refine hx_gov (hx_runV (As := [.int i3, .int i4]) (rest := []) ⟨hx, hb, hml, hown, hts⟩ hW (gx.S hM) tt_5 (T := TX5) (N := 13) rfl (t_X5_keepIfBetter_v l dC dI dA L h s.heap.size x i3 i4 hT (gx.S hM) qtd (gqtd.S hM) ((hM.o gx trivial rfl).2.trans f_x_8) qwl (gqwl.S hM) ((hM.o gx trivial rfl).2.trans f_x_3) trf af_qtd wkf af_qwl o0 ((hM.o gx trivial rfl).1.trans f_x_0) bl0 f_x_11 ba0 f_x_12 a un0.toInt (hp_dg o0.toInt.toNat K) (fun i hi => by unfold hp_w; rw [hdg9 i (by omega)]; exact htr i (by omega)) s5 hSR) (cwV 2 hts (hx_gV kw_973 kw_970 kw_972 kw_35 kw_100) rfl rfl rfl (by decide +kernel) ⟨Nat.le_of_ble_eq_true rfl, Nat.le_of_ble_eq_true rfl⟩) rfl hl.1 rfl (Nat.le_of_ble_eq_true rfl) dX5_tryFrom_12 ⟨Nat.le_of_ble_eq_true rfl, Nat.le_of_ble_eq_true rfl⟩) hW (fun L_49 h_50 H locs p_52 hW => ?_)
    obtain ⟨⟨w_54, w_55, w_56, fw_54, fw_55, fw_56, hr_53⟩, hT, hs⟩ := p_52
    replace hT : hx_T T_tb L_49 h_50 := hT
    replace hs : hx_S T_tb [(5, 11), (5, 12), (28, 0)] L h L_49 h_50 := hs
    replace af_qtd : h_50.2.1 qtd = trf := (funext fun j => (hs.a (gqtd.S hM) rfl j).1).trans af_qtd
    replace hM := hM.tr (hs.mono (by decide))
    have fw_54 : h_50.2.1 x 11 = w_54 := fw_54
    have bw_54 := hT.gi (gx.S hM) tt_5 (k := 11) rfl
    rw [fw_54] at bw_54
    have bw_54 : -2147483648 ≤ w_54.toInt ∧ w_54.toInt ≤ 2147483647 := bw_54
    have fw_55 : h_50.2.1 x 12 = w_55 := fw_55
    have bw_55 := hT.gi (gx.S hM) tt_5 (k := 12) rfl
    rw [fw_55] at bw_55
    have bw_55 : -2147483648 ≤ w_55.toInt ∧ w_55.toInt ≤ 2147483647 := bw_55
    have fw_56 : h_50.2.1 qwl = w_56 := fw_56
    exact hx_retv hx hb hr hlk hW ⟨⟨w_54, w_55, w_56, trf, fw_54, fw_55, fw_56, af_qtd, ⟨(by rw [hp_leaf (show o0.toInt.toNat = 1 by omega) hdg9 hla hal (by have h9 := hfe; rw [show o0.toInt.toNat = 1 by omega] at h9; omega)]; exact hr_53), (fun i hi => rfl)⟩⟩, hT, hM⟩ dX5_tryFrom_15


set_option maxHeartbeats 4000000 in
set_option maxRecDepth 100000 in
theorem t_X5_tryFrom_0v (l : Launch) (dC : Nat → ClassId) (dI : Nat → Nat → Nat) (dA : Nat → ClassId) (L : List Nat) (h : hx_h) (sz : Nat) (b0 : hx_z) (x : Nat) (i2 : Int32) (i3 : Int32) (i4 : Int32) (hT : hx_T T_tb L h) (gx : hx_g L h x 5) (qle : Nat) (gqle : hx_g L h qle 32) (f_x_7 : h.2.2 x 7 = some qle) (qre : Nat) (gqre : hx_g L h qre 31) (f_x_6 : h.2.2 x 6 = some qre) (qtd : Nat) (gqtd : hx_g L h qtd 33) (f_x_8 : h.2.2 x 8 = some qtd) (qwl : Nat) (gqwl : hx_g L h qwl 28) (f_x_3 : h.2.2 x 3 = some qwl) (lef : Nat → Int32) (af_qle : h.2.1 qle = lef) (rsf : Nat → Int32) (af_qre : h.2.1 qre = rsf) (trf : Nat → Int32) (af_qtd : h.2.1 qtd = trf) (wkf : Nat → Int32) (af_qwl : h.2.1 qwl = wkf) (o0 : Int32) (f_x_0 : h.2.1 x 0 = o0) (un0 : Int32) (f_x_9 : h.2.1 x 9 = un0) (me0 : Int32) (f_x_10 : h.2.1 x 10 = me0) (bl0 : Int32) (f_x_11 : h.2.1 x 11 = bl0) (ba0 : Int32) (f_x_12 : h.2.1 x 12 = ba0) (a : Nat → Int) (ha : ∀ i : Nat, (i : Int) < o0.toInt → (lef i).toInt = a i) (hab : ∀ i : Nat, (i : Int) < o0.toInt → 1 ≤ a i ∧ a i ≤ 9999) (r : Nat → Int) (hr5 : ∀ i : Nat, (i : Int) < o0.toInt → (rsf i).toInt = r i) (hrb : ∀ i : Nat, (i : Int) < o0.toInt → 1 ≤ r i ∧ r i ≤ 609999) (hun : 1 ≤ un0.toInt ∧ un0.toInt ≤ 99) (M : Int) (hMe : 1 ≤ o0.toInt → M = me0.toInt) (hMb : M ≤ 9999) (hpn : 0 ≤ o0.toInt) (K : Nat) (m5 : Nat → Int) (hB : hp_B o0.toInt.toNat 0 K m5) (hsp : i2.toInt = hp_s (hp_w a un0.toInt m5) 0) (hla : i3.toInt = hp_m (hp_k a r un0.toInt m5) 0) (hal : i4.toInt = hp_s (hp_k a r un0.toInt m5) 0) (htr : ∀ i : Nat, i < 0 → (trf i).toInt = hp_w a un0.toInt m5 i) (hfe : i2.toInt + (hp_s a o0.toInt.toNat - hp_s a 0) ≤ M) (hi2 : 0 ≤ i2.toInt ∧ i2.toInt ≤ 9999) (hi3 : 0 ≤ i3.toInt ∧ i3.toInt ≤ 609999) (hi4 : 0 ≤ i4.toInt ∧ i4.toInt ≤ 0) (s5 : hp_S) (hSR : hp_SR s5 bl0.toInt ba0.toInt wkf a un0.toInt o0.toInt) : Met l yX5_tryFrom (Cond.code yX5_tryFrom cX5_tryFrom 9 none :: hx_all) ({ frames := 6, cells := 0, slots := 0, locals := 174 }) (va_Pc [.ref x, .int (0 : Int32), .int i2, .int i3, .int i4] (hx_BX T_tb (P_ty dA) (dC, dI) vwCl L h sz b0)) (va_Qv (fun (u : List Nat × hx_h) => (∃ (bl1 : Int32) (ba1 : Int32) (wkf1 : Nat → Int32), u.2.2.1 x 11 = bl1 ∧ u.2.2.1 x 12 = ba1 ∧ u.2.2.1 qwl = wkf1 ∧ (hp_SR (hp_F (hp_f a r un0.toInt M o0.toInt.toNat) (K * 13 ^ (o0.toInt.toNat - 0)) (13 ^ (o0.toInt.toNat - 0)) s5) bl1.toInt ba1.toInt wkf1 a un0.toInt o0.toInt)) ∧ hx_T T_tb u.1 u.2 ∧ hx_S T_tb [(5, 11), (5, 12), (28, 0), (33, 0)] L h u.1 u.2) (hx_E T_tb (P_ty dA) (dC, dI) vwCl (hx_A L sz)) (hx_A L sz)) 0 0 (hx_A L sz) := by
  refine hx_metX (lv := [(0, .ref x), (1, .int (0 : Int32)), (2, .int i2), (3, .int i3), (4, .int i4)]) (by decide +kernel) rfl (Nat.le_of_ble_eq_true rfl) rfl ?_
  intro p e s m below meth c hx hb hml hr hlk hts0 hown hin hsz hW hZ ls hl
  have hts : ∀ w ∈ hx_all, w.before _ s = true := fun w hw => hts0 w (List.mem_cons_of_mem _ hw)
  have hown : s.vm.findClass "SmallCourt$Plan" = some m.cls := hown
  have hM : hx_S T_tb [(5, 11), (5, 12), (28, 0), (33, 0)] L h L h := hx_S.rf
  have b_o0 := hT.gi gx tt_5 (k := 0) rfl
  rw [f_x_0] at b_o0
  have b_o0 : 0 ≤ o0.toInt ∧ o0.toInt ≤ 4 := b_o0
  have b_un0 := hT.gi gx tt_5 (k := 9) rfl
  rw [f_x_9] at b_un0
  have b_un0 : -2147483648 ≤ un0.toInt ∧ un0.toInt ≤ 2147483647 := b_un0
  have b_me0 := hT.gi gx tt_5 (k := 10) rfl
  rw [f_x_10] at b_me0
  have b_me0 : -2147483648 ≤ me0.toInt ∧ me0.toInt ≤ 2147483647 := b_me0
  have b_bl0 := hT.gi gx tt_5 (k := 11) rfl
  rw [f_x_11] at b_bl0
  have b_bl0 : -2147483648 ≤ bl0.toInt ∧ bl0.toInt ≤ 2147483647 := b_bl0
  have b_ba0 := hT.gi gx tt_5 (k := 12) rfl
  rw [f_x_12] at b_ba0
  have b_ba0 : -2147483648 ≤ ba0.toInt ∧ ba0.toInt ≤ 2147483647 := b_ba0
  refine lv_iload_n hx hb dX5_tryFrom_0 rfl (lv_at hl 1 rfl) ?_
  refine lv_aload_n hx hb dX5_tryFrom_1 rfl (lv_at hl 0 rfl) ?_
  refine hk_geti hx hb hts hC_5 hown hW (gx.S hM) tt_5 0 (by decide) rfl kw_258 ⟨rfl, rfl, rfl⟩ ((hM.o gx trivial rfl).1.trans f_x_0) dX5_tryFrom_2 ?_
  refine hb_icmp_lt (zx := 0) (zy := o0.toInt) (tgt := 16) hx hb (by decide) rfl dX5_tryFrom_5 (by decide) (fun c_1 => ?_) (fun c_1 => ?_)
  · skip
    have hD9 := hp_pw (n := o0.toInt.toNat) (p := 0) (by omega)
    refine lv_aload_n hx hb dX5_tryFrom_16 rfl (lv_at hl 0 rfl) ?_
    refine lv_iload_n hx hb dX5_tryFrom_17 rfl (lv_at hl 1 rfl) ?_
    refine lv_iconst (v := 1) hx hb dX5_tryFrom_18 (by decide) ?_
    refine lv_iadd hx hb dX5_tryFrom_19 ?_
    refine lv_topi (fun x_2 ex_2 => ?_)
    obtain rfl : x_2 = (1 : Int32) := ex_2.trans (by decide)
    have zc_1 : (1 : Int32).toInt = 1 := by decide
    refine hx_goi (hx_runV (As := [.int (1 : Int32)]) (rest := []) ⟨hx, hb, hml, hown, hts⟩ hW (gx.S hM) tt_5 (T := TX5) (N := 13) rfl (t_X5_leastFrom_v l dC dI dA L h s.heap.size x (1 : Int32) hT (gx.S hM) qle (gqle.S hM) ((hM.o gx trivial rfl).2.trans f_x_7) lef (hx_afS hM gqle rfl af_qle) o0 ((hM.o gx trivial rfl).1.trans f_x_0) a ha hab ⟨by omega, by omega⟩) (cwV 1 hts (hx_gV kw_964 kw_961 kw_963 kw_33 kw_100) rfl rfl rfl (by decide +kernel) ⟨Nat.le_of_ble_eq_true rfl, Nat.le_of_ble_eq_true rfl⟩) rfl hl.1 rfl (Nat.le_of_ble_eq_true rfl) dX5_tryFrom_20 ⟨Nat.le_of_ble_eq_true rfl, Nat.le_of_ble_eq_true rfl⟩) hW (fun r_5 L_3 h_4 H locs p_6 hW => ?_)
    obtain ⟨hr_7, hT, hs⟩ := p_6
    replace hT : hx_T T_tb L_3 h_4 := hT
    replace hs : hx_S T_tb [] L h L_3 h_4 := hs
    replace f_x_11 := (hs.o (gx.S hM) trivial rfl).1.trans f_x_11
    replace f_x_12 := (hs.o (gx.S hM) trivial rfl).1.trans f_x_12
    replace af_qtd : h_4.2.1 qtd = trf := (funext fun j => (hs.a (gqtd.S hM) rfl j).1).trans af_qtd
    replace af_qwl : h_4.2.1 qwl = wkf := (funext fun j => (hs.a (gqwl.S hM) rfl j).1).trans af_qwl
    replace hM := hM.tr (hs.mono (by decide))
    have hlf9 := hr_7.1; rw [zc_1, show (1 : Int).toNat = 1 from rfl] at hlf9
    refine lv_istore (lv' := [(5, .int r_5), (0, .ref x), (1, .int (0 : Int32)), (2, .int i2), (3, .int i3), (4, .int i4)]) hx hb dX5_tryFrom_23 hl (by decide) rfl (fun ls hl => ?_)
    refine lv_iconst (v := 0) hx hb dX5_tryFrom_25 (by decide) ?_
    refine lv_istore (lv' := [(6, .int (0 : Int32)), (5, .int r_5), (0, .ref x), (1, .int (0 : Int32)), (2, .int i2), (3, .int i3), (4, .int i4)]) hx hb dX5_tryFrom_26 hl (by decide) rfl (fun ls hl => ?_)
    have loop28 : ∀ (n28 : Nat) (iv28_6 fw28_x_11 fw28_x_12 : Int32) (ia28_qtd ia28_qwl : Nat → Int32) (H : Heap) (locs : List Loc) (hL1 : List Nat) (hl1 : hx_h), 0 ≤ iv28_6.toInt → iv28_6.toInt ≤ 13 → -2147483648 ≤ fw28_x_11.toInt → fw28_x_11.toInt ≤ 2147483647 → -2147483648 ≤ fw28_x_12.toInt → fw28_x_12.toInt ≤ 2147483647 → (hp_SR (hp_F (hp_f a r un0.toInt M o0.toInt.toNat) (K * (13 * 13 ^ (o0.toInt.toNat - 1))) ((iv28_6.toInt).toNat * 13 ^ (o0.toInt.toNat - 1)) s5) fw28_x_11.toInt fw28_x_12.toInt ia28_qwl a un0.toInt o0.toInt) → (∀ i : Nat, i < 0 → ia28_qtd i = trf i) → ∀ (ls : Array Slot), 13 - iv28_6.toInt < (n28 : Int) → hx_W T_tb (P_ty dA) (dC, dI) vwCl (hx_A L sz) s.heap hL1 hl1 s H locs → hx_T T_tb hL1 hl1 → hx_S T_tb [(5, 11), (5, 12), (28, 0), (33, 0)] L h hL1 hl1 → hl1.2.1 x 11 = fw28_x_11 → hl1.2.1 x 12 = fw28_x_12 → hl1.2.1 qtd = ia28_qtd → hl1.2.1 qwl = ia28_qwl → lv_has ls 9 [(6, .int iv28_6), (5, .int r_5), (0, .ref x), (1, .int (0 : Int32)), (2, .int i2), (3, .int i3), (4, .int i4)] → W p l e ({ frames := 6, cells := 0, slots := 0, locals := 174 }) s m ([.ref x, .int (0 : Int32), .int i2, .int i3, .int i4] : List Value).toArray below meth c H locs 0 0 (MQ below (va_Qv (fun (u : List Nat × hx_h) => (∃ (bl1 : Int32) (ba1 : Int32) (wkf1 : Nat → Int32), u.2.2.1 x 11 = bl1 ∧ u.2.2.1 x 12 = ba1 ∧ u.2.2.1 qwl = wkf1 ∧ (hp_SR (hp_F (hp_f a r un0.toInt M o0.toInt.toNat) (K * 13 ^ (o0.toInt.toNat - 0)) (13 ^ (o0.toInt.toNat - 0)) s5) bl1.toInt ba1.toInt wkf1 a un0.toInt o0.toInt)) ∧ hx_T T_tb u.1 u.2 ∧ hx_S T_tb [(5, 11), (5, 12), (28, 0), (33, 0)] L h u.1 u.2) (hx_E T_tb (P_ty dA) (dC, dI) vwCl (hx_A L sz)) (hx_A L sz)) ([.ref x, .int (0 : Int32), .int i2, .int i3, .int i4] : List Value).toArray s 0 0 (hx_A L sz)) (F0 m 28 ls []) := by
      intro n28
      induction n28 with
      | zero => intro iv28_6 fw28_x_11 fw28_x_12 ia28_qtd ia28_qwl H locs hL1 hl1 bliv28_6 buiv28_6 blfw28_x_11 bufw28_x_11 blfw28_x_12 bufw28_x_12 vi28_0 vi28_1 ls hn28; exfalso; omega
      | succ n28 ih28 =>
        intro iv28_6 fw28_x_11 fw28_x_12 ia28_qtd ia28_qwl H locs hL1 hl1 bliv28_6 buiv28_6 blfw28_x_11 bufw28_x_11 blfw28_x_12 bufw28_x_12 vi28_0 vi28_1 ls hn28 hW hT hM ffw28_x_11 ffw28_x_12 nia28_qtd nia28_qwl hl
        refine lv_iload hx hb dX5_tryFrom_28 (lv_at hl 0 rfl) ?_
        refine lv_bipush (v := 12) hx hb dX5_tryFrom_30 (by decide) ?_
        refine hb_icmp_gt (zx := iv28_6.toInt) (zy := 12) (tgt := 124) hx hb rfl (by decide) dX5_tryFrom_32 (by decide) (fun c_8 => ?_) (fun c_8 => ?_)
        · skip
          exact hx_retv hx hb hr hlk hW ⟨⟨fw28_x_11, fw28_x_12, ia28_qwl, ffw28_x_11, ffw28_x_12, nia28_qwl, (by rw [hD9]; have h9 := vi28_0; rw [show iv28_6.toInt.toNat = 13 by omega] at h9; exact h9)⟩, hT, hM⟩ dX5_tryFrom_124
        · skip
          refine lv_aload_n hx hb dX5_tryFrom_35 rfl (lv_at hl 2 rfl) ?_
          refine hk_getr hx hb hts hC_5 hown hW (gx.S hM) tt_5 7 (by decide) rfl kw_270 ⟨rfl, rfl, rfl⟩ ((hM.o gx trivial rfl).2.trans f_x_7) dX5_tryFrom_36 ?_
          refine lv_iload_n hx hb dX5_tryFrom_39 rfl (lv_at hl 3 rfl) ?_
          refine hx_iald hx hb hW hT (gqle.S hM) tt_32 rfl (by decide) dX5_tryFrom_40 (fun x_9 ex_9 lx_9 ux_9 => ?_)
          have ax_9 : x_9 = lef (0 : Int32).toNatClampNeg := ex_9.trans (congrFun (hx_afS hM gqle rfl af_qle) _)
          have hav9 : x_9.toInt = a 0 := by rw [ax_9, show (0 : Int32).toNatClampNeg = 0 from by decide]; exact ha 0 (by omega)
          have hab9 := hab 0 (by omega); rw [← hav9] at hab9
          refine lv_iload hx hb dX5_tryFrom_41 (lv_at hl 0 rfl) ?_
          refine lv_aload_n hx hb dX5_tryFrom_43 rfl (lv_at hl 2 rfl) ?_
          refine hk_geti hx hb hts hC_5 hown hW (gx.S hM) tt_5 9 (by decide) rfl kw_272 ⟨rfl, rfl, rfl⟩ ((hM.o gx trivial rfl).1.trans f_x_9) dX5_tryFrom_44 ?_
          refine lv_imul hx hb dX5_tryFrom_47 ?_
          refine lv_topi (fun x_10 ex_10 => ?_)
          have mx_10 : iv28_6.toInt = 0 → x_10.toInt = 0 := fun z => by rw [ex_10]; exact hx_mul0 z
          obtain ⟨m9, m9l, m9h⟩ := hp_mul ⟨by omega, by omega⟩ ⟨by omega, by omega⟩ ex_10
          refine lv_iadd hx hb dX5_tryFrom_48 ?_
          have rg_11 := i32_r x_9
          have rg_12 := i32_r x_10
          refine lv_topi (fun x_13 ex_13 => ?_)
          have zx_13 : x_13.toInt = x_9.toInt + x_10.toInt := by rw [ex_13]; exact i32_add rfl rfl (by omega) (by omega)
          refine lv_istore (lv' := [(7, .int x_13), (6, .int iv28_6), (5, .int r_5), (0, .ref x), (1, .int (0 : Int32)), (2, .int i2), (3, .int i3), (4, .int i4)]) hx hb dX5_tryFrom_49 hl (by decide) rfl (fun ls hl => ?_)
          have hw9 : x_13.toInt = hp_w a un0.toInt (fun i => if i = 0 then iv28_6.toInt else m5 i) 0 := by show x_13.toInt = a 0 + (if 0 = 0 then iv28_6.toInt else m5 0) * un0.toInt; rw [if_pos rfl, ← m9, ← hav9]; omega
          have hj9 : ((iv28_6.toInt.toNat : Nat) : Int) = iv28_6.toInt := by omega
          refine lv_iload_n hx hb dX5_tryFrom_51 rfl (lv_at hl 5 rfl) ?_
          refine lv_iload hx hb dX5_tryFrom_52 (lv_at hl 0 rfl) ?_
          refine lv_iadd hx hb dX5_tryFrom_54 ?_
          have rg_14 := i32_r i2
          have rg_15 := i32_r x_13
          refine lv_topi (fun x_16 ex_16 => ?_)
          have zx_16 : x_16.toInt = i2.toInt + x_13.toInt := by rw [ex_16]; exact i32_add rfl rfl (by omega) (by omega)
          refine lv_iload hx hb dX5_tryFrom_55 (lv_at hl 2 rfl) ?_
          refine lv_iadd hx hb dX5_tryFrom_57 ?_
          have rg_17 := i32_r x_16
          have rg_18 := i32_r r_5
          refine lv_topi (fun x_19 ex_19 => ?_)
          have zx_19 : x_19.toInt = x_16.toInt + r_5.toInt := by rw [ex_19]; exact i32_add rfl rfl (by omega) (by omega)
          refine lv_aload_n hx hb dX5_tryFrom_58 rfl (lv_at hl 3 rfl) ?_
          refine hk_geti hx hb hts hC_5 hown hW (gx.S hM) tt_5 10 (by decide) rfl kw_273 ⟨rfl, rfl, rfl⟩ ((hM.o gx trivial rfl).1.trans f_x_10) dX5_tryFrom_59 ?_
          refine hb_icmp_le (zx := x_19.toInt) (zy := me0.toInt) (tgt := 66) hx hb rfl rfl dX5_tryFrom_62 (by decide) (fun c_20 => ?_) (fun c_20 => ?_)
          · skip
            refine lv_aload_n hx hb dX5_tryFrom_66 rfl (lv_at hl 3 rfl) ?_
            refine hk_getr hx hb hts hC_5 hown hW (gx.S hM) tt_5 6 (by decide) rfl kw_269 ⟨rfl, rfl, rfl⟩ ((hM.o gx trivial rfl).2.trans f_x_6) dX5_tryFrom_67 ?_
            refine lv_iload_n hx hb dX5_tryFrom_70 rfl (lv_at hl 4 rfl) ?_
            refine hx_iald hx hb hW hT (gqre.S hM) tt_31 rfl (by decide) dX5_tryFrom_71 (fun x_21 ex_21 lx_21 ux_21 => ?_)
            have ax_21 : x_21 = rsf (0 : Int32).toNatClampNeg := ex_21.trans (congrFun (hx_afS hM gqre rfl af_qre) _)
            have hrv9 : x_21.toInt = r 0 := by rw [ax_21, show (0 : Int32).toNatClampNeg = 0 from by decide]; exact hr5 0 (by omega)
            have hrb9 := hrb 0 (by omega); rw [← hrv9] at hrb9
            refine lv_iload hx hb dX5_tryFrom_72 (lv_at hl 0 rfl) ?_
            refine hx_goi (hx_runSN (As := [.int x_21, .int x_13]) (rest := []) ⟨hx, hb, hml, hown, hts⟩ hW (t_X9_roundUp_v l dC dI dA hL1 hl1 H.size x_21 x_13 hT) ⟨va_cnB 2 hts (hx_gC kw_921) rfl rfl rfl (hZ.1 _ (List.mem_of_getElem? (i := 10) rfl)) (hts _ kw_94) (by decide +kernel) ⟨Nat.le_of_ble_eq_true rfl, Nat.le_of_ble_eq_true rfl⟩, hts _ kw_920, trivial⟩ rfl hl.1 rfl (Nat.le_of_ble_eq_true rfl) dX5_tryFrom_74 ⟨Nat.le_of_ble_eq_true rfl, Nat.le_of_ble_eq_true rfl⟩) hW (fun r_24 L_22 h_23 H locs p_25 hW => ?_)
            obtain ⟨hr_26, hT, hs⟩ := p_25
            replace hT : hx_T T_tb L_22 h_23 := hT
            replace hs : hx_S T_tb [] hL1 hl1 L_22 h_23 := hs
            replace ffw28_x_11 := (hs.o (gx.S hM) trivial rfl).1.trans ffw28_x_11
            replace ffw28_x_12 := (hs.o (gx.S hM) trivial rfl).1.trans ffw28_x_12
            replace nia28_qtd : h_23.2.1 qtd = ia28_qtd := (funext fun j => (hs.a (gqtd.S hM) rfl j).1).trans nia28_qtd
            replace nia28_qwl : h_23.2.1 qwl = ia28_qwl := (funext fun j => (hs.a (gqwl.S hM) rfl j).1).trans nia28_qwl
            replace ex_9 := ex_9.trans (hs.a (gqle.S hM) rfl _).1.symm
            replace ex_21 := ex_21.trans (hs.a (gqre.S hM) rfl _).1.symm
            replace hM := hM.tr (hs.mono (by decide))
            have hk9 : r_24.toInt = hp_k a r un0.toInt (fun i => if i = 0 then iv28_6.toInt else m5 i) 0 := by unfold hp_k; rw [← hw9, ← hrv9]; exact hr_26
            have hkb9 : 0 ≤ r_24.toInt ∧ r_24.toInt ≤ 609999 := by have h9 := hz_ru_b (s := x_21.toInt) (b := x_13.toInt); rw [← hr_26] at h9; omega
            refine lv_istore (lv' := [(8, .int r_24), (7, .int x_13), (6, .int iv28_6), (5, .int r_5), (0, .ref x), (1, .int (0 : Int32)), (2, .int i2), (3, .int i3), (4, .int i4)]) hx hb dX5_tryFrom_77 hl (by decide) rfl (fun ls hl => ?_)
            refine lv_aload_n hx hb dX5_tryFrom_79 rfl (lv_at hl 4 rfl) ?_
            refine hk_getr hx hb hts hC_5 hown hW (gx.S hM) tt_5 8 (by decide) rfl kw_271 ⟨rfl, rfl, rfl⟩ ((hM.o gx trivial rfl).2.trans f_x_8) dX5_tryFrom_80 ?_
            refine lv_iload_n hx hb dX5_tryFrom_83 rfl (lv_at hl 5 rfl) ?_
            refine lv_iload hx hb dX5_tryFrom_84 (lv_at hl 1 rfl) ?_
            have nia28_qtdO := nia28_qtd
            refine hx_iast hx hb hW hT (hx_S.rf (M := [(33, 0)])) (gqtd.S hM) tt_33 rfl (by decide) rfl (i32_r _) (List.mem_singleton.mpr rfl) dX5_tryFrom_86 (fun H locs h_27 eh_27 hW hT hs => ?_)
            replace ffw28_x_11 := (hs.o (gx.S hM) trivial rfl).1.trans ffw28_x_11
            replace ffw28_x_12 := (hs.o (gx.S hM) trivial rfl).1.trans ffw28_x_12
            replace nia28_qwl : h_27.2.1 qwl = ia28_qwl := (funext fun j => (hs.a (gqwl.S hM) rfl j).1).trans nia28_qwl
            replace ex_9 := ex_9.trans (hs.a (gqle.S hM) rfl _).1.symm
            replace ex_21 := ex_21.trans (hs.a (gqre.S hM) rfl _).1.symm
            replace hM := hM.tr (hs.mono (by decide))
            obtain ⟨fa_28, dfa_28⟩ : ∃ g : Nat → Int32, g = hx_up ia28_qtd (0 : Int32).toNatClampNeg x_13 := ⟨_, rfl⟩
            have nfa_28 : h_27.2.1 qtd = fa_28 := by rw [eh_27, dfa_28, ← nia28_qtdO]; exact hx_pi_fun _ _ _ _
            have htr9 : ∀ i : Nat, i < 1 → (fa_28 i).toInt = hp_w a un0.toInt (fun i => if i = 0 then iv28_6.toInt else m5 i) i := fun i hi => by by_cases z : i = 0; (subst z; rw [dfa_28, show (0 : Int32).toNatClampNeg = 0 from by decide, hx_up_at]; exact hw9); (rw [dfa_28, hx_up_ne (by rw [show (0 : Int32).toNatClampNeg = 0 from by decide]; exact z), vi28_1 i (by omega)]; show _ = a i + (if i = 0 then iv28_6.toInt else m5 i) * un0.toInt; rw [if_neg z]; exact htr i (by omega))
            have htc9 : ∀ i : Nat, i < 0 → fa_28 i = trf i := fun i hi => by rw [dfa_28, hx_up_ne (by rw [show (0 : Int32).toNatClampNeg = 0 from by decide]; omega)]; exact vi28_1 i hi
            refine lv_iload hx hb dX5_tryFrom_87 (lv_at hl 0 rfl) ?_
            refine lv_aload_n hx hb dX5_tryFrom_89 rfl (lv_at hl 4 rfl) ?_
            refine hk_geti hx hb hts hC_5 hown hW (gx.S hM) tt_5 11 (by decide) rfl kw_274 ⟨rfl, rfl, rfl⟩ ffw28_x_11 dX5_tryFrom_90 ?_
            refine hb_icmp_gt (zx := r_24.toInt) (zy := fw28_x_11.toInt) (tgt := 118) hx hb rfl rfl dX5_tryFrom_93 (by decide) (fun c_29 => ?_) (fun c_29 => ?_)
            · skip
              obtain ⟨x_30, ex_30⟩ : ∃ y : Int32, y = iv28_6 + Int32.ofInt 1 := ⟨_, rfl⟩
              have rg_31 := i32_r iv28_6
              have zx_30 : x_30.toInt = iv28_6.toInt + (1) := by rw [ex_30]; exact i32_add rfl (by decide) (by omega) (by omega)
              refine lv_iinc (v := x_30) (lv' := [(6, .int x_30), (8, .int r_24), (7, .int x_13), (5, .int r_5), (0, .ref x), (1, .int (0 : Int32)), (2, .int i2), (3, .int i3), (4, .int i4)]) hx hb dX5_tryFrom_118 hl (k := 2) rfl ex_30.symm (by decide) rfl (fun ls hl => ?_)
              refine lv_goto (tgt := 28) hx hb dX5_tryFrom_121 (by decide) ?_
              exact ih28 x_30 fw28_x_11 fw28_x_12 fa_28 ia28_qwl _ _ L_22 h_27 (by omega) (by omega) (i32_r _).1 (i32_r _).2 (i32_r _).1 (i32_r _).2 (by rw [show x_30.toInt.toNat = iv28_6.toInt.toNat + 1 by omega, hp_skip (by omega) (by omega) rfl (y := r_24.toInt) (by rw [hj9, ← hrv9, ← hav9, ← m9, show x_9.toInt + x_10.toInt = x_13.toInt by omega]; exact hr_26) (by rw [vi28_0.1]; omega)]; exact vi28_0) htc9 ls (by omega) hW hT hM ffw28_x_11 ffw28_x_12 nfa_28 nia28_qwl (lv_sub hl [0, 3, 4, 5, 6, 7, 8] rfl)
            · skip
              refine lv_aload_n hx hb dX5_tryFrom_96 rfl (lv_at hl 4 rfl) ?_
              refine lv_iload_n hx hb dX5_tryFrom_97 rfl (lv_at hl 5 rfl) ?_
              refine lv_iconst (v := 1) hx hb dX5_tryFrom_98 (by decide) ?_
              refine lv_iadd hx hb dX5_tryFrom_99 ?_
              refine lv_topi (fun x_32 ex_32 => ?_)
              obtain rfl : x_32 = (1 : Int32) := ex_32.trans (by decide)
              refine lv_iload_n hx hb dX5_tryFrom_100 rfl (lv_at hl 6 rfl) ?_
              refine lv_iload hx hb dX5_tryFrom_101 (lv_at hl 1 rfl) ?_
              refine lv_iadd hx hb dX5_tryFrom_103 ?_
              refine lv_topi (fun x_33 ex_33 => ?_)
              have zx_33 : x_33.toInt = i2.toInt + x_13.toInt := by rw [ex_33]; exact i32_add rfl rfl (by omega) (by omega)
              refine lv_iload_n hx hb dX5_tryFrom_104 rfl (lv_at hl 7 rfl) ?_
              refine lv_iload hx hb dX5_tryFrom_105 (lv_at hl 0 rfl) ?_
              refine va_mmax hx hb (hml.trans hl.1.symm) hown (hts _ kw_976) (hts _ kw_882) (hts _ kw_109) (hts _ kw_883) (Nat.le_of_ble_eq_true rfl) (Nat.le_of_ble_eq_true rfl) (Nat.le_of_ble_eq_true rfl) (Nat.le_of_ble_eq_true rfl) dX5_tryFrom_107 ?_
              refine lv_topi (fun x_34 ex_34 => ?_)
              have hmx9 := hz_mx_e ex_34
              refine lv_iload hx hb dX5_tryFrom_110 (lv_at hl 8 rfl) ?_
              refine lv_iload hx hb dX5_tryFrom_112 (lv_at hl 0 rfl) ?_
              refine lv_iadd hx hb dX5_tryFrom_114 ?_
              have rg_35 := i32_r i4
              have rg_36 := i32_r r_24
              refine lv_topi (fun x_37 ex_37 => ?_)
              have zx_37 : x_37.toInt = i4.toInt + r_24.toInt := by rw [ex_37]; exact i32_add rfl rfl (by omega) (by omega)
              refine hx_gov (hx_runVX (As := [.int (1 : Int32), .int x_33, .int x_34, .int x_37]) (rest := []) ⟨hx, hb, hml, hown, hts⟩ hW (gx.S hM) tt_5 (T := TX5) (N := 13) rfl (t_X5_tryFrom_1v l dC dI dA L_22 h_27 H.size b0 x x_33 x_34 x_37 hT (gx.S hM) qle (gqle.S hM) ((hM.o gx trivial rfl).2.trans f_x_7) qre (gqre.S hM) ((hM.o gx trivial rfl).2.trans f_x_6) qtd (gqtd.S hM) ((hM.o gx trivial rfl).2.trans f_x_8) qwl (gqwl.S hM) ((hM.o gx trivial rfl).2.trans f_x_3) lef (hx_afS hM gqle rfl af_qle) rsf (hx_afS hM gqre rfl af_qre) fa_28 nfa_28 ia28_qwl nia28_qwl o0 ((hM.o gx trivial rfl).1.trans f_x_0) un0 ((hM.o gx trivial rfl).1.trans f_x_9) me0 ((hM.o gx trivial rfl).1.trans f_x_10) fw28_x_11 ffw28_x_11 fw28_x_12 ffw28_x_12 a ha hab r hr5 hrb hun M hMe hMb (by omega) (13 * K + iv28_6.toInt.toNat) (fun i => if i = 0 then iv28_6.toInt else m5 i) (hp_B_s hB (by omega) (by omega) (fun i hi => if_neg (by omega)) (by show (if 0 = 0 then iv28_6.toInt else m5 0) = _; rw [if_pos rfl]; omega)) (hp_ss hsp (fun i hi => by show a i + (if i = 0 then iv28_6.toInt else m5 i) * un0.toInt = _; rw [if_neg (by omega)]; rfl) (by rw [← hw9]; omega)) (hp_mm hla (fun i hi => by show hz_ru (r i) (a i + (if i = 0 then iv28_6.toInt else m5 i) * un0.toInt) = _; rw [if_neg (by omega)]; rfl) (by rw [← hk9]; omega)) (hp_ss hal (fun i hi => by show hz_ru (r i) (a i + (if i = 0 then iv28_6.toInt else m5 i) * un0.toInt) = _; rw [if_neg (by omega)]; rfl) (by rw [← hk9]; omega)) htr9 (by have h9 := hMe (by omega); rw [← hlf9]; omega) ⟨by omega, by omega⟩ ⟨by omega, by omega⟩ ⟨by omega, by omega⟩ _ vi28_0) hZ (cwV 4 hts (hx_gV kw_969 kw_966 kw_968 kw_34 kw_100) rfl rfl rfl (by decide +kernel) ⟨Nat.le_of_ble_eq_true rfl, Nat.le_of_ble_eq_true rfl⟩) rfl hl.1 rfl (Nat.le_of_ble_eq_true rfl) dX5_tryFrom_115 ⟨Nat.le_of_ble_eq_true rfl, Nat.le_of_ble_eq_true rfl⟩) hW (fun L_38 h_39 H locs p_41 hW => ?_)
              obtain ⟨⟨w_43, w_44, w_45, w_46, fw_43, fw_44, fw_45, fw_46, hr_42⟩, hT, hs⟩ := p_41
              replace hT : hx_T T_tb L_38 h_39 := hT
              replace hs : hx_S T_tb [(5, 11), (5, 12), (28, 0), (33, 0)] L_22 h_27 L_38 h_39 := hs
              replace ex_9 := ex_9.trans (hs.a (gqle.S hM) rfl _).1.symm
              replace ex_21 := ex_21.trans (hs.a (gqre.S hM) rfl _).1.symm
              replace hM := hM.tr (hs.mono (by decide))
              have fw_43 : h_39.2.1 x 11 = w_43 := fw_43
              have bw_43 := hT.gi (gx.S hM) tt_5 (k := 11) rfl
              rw [fw_43] at bw_43
              have bw_43 : -2147483648 ≤ w_43.toInt ∧ w_43.toInt ≤ 2147483647 := bw_43
              have fw_44 : h_39.2.1 x 12 = w_44 := fw_44
              have bw_44 := hT.gi (gx.S hM) tt_5 (k := 12) rfl
              rw [fw_44] at bw_44
              have bw_44 : -2147483648 ≤ w_44.toInt ∧ w_44.toInt ≤ 2147483647 := bw_44
              have fw_45 : h_39.2.1 qwl = w_45 := fw_45
              have fw_46 : h_39.2.1 qtd = w_46 := fw_46
              obtain ⟨x_47, ex_47⟩ : ∃ y : Int32, y = iv28_6 + Int32.ofInt 1 := ⟨_, rfl⟩
              have rg_48 := i32_r iv28_6
              have zx_47 : x_47.toInt = iv28_6.toInt + (1) := by rw [ex_47]; exact i32_add rfl (by decide) (by omega) (by omega)
              refine lv_iinc (v := x_47) (lv' := [(6, .int x_47), (8, .int r_24), (7, .int x_13), (5, .int r_5), (0, .ref x), (1, .int (0 : Int32)), (2, .int i2), (3, .int i3), (4, .int i4)]) hx hb dX5_tryFrom_118 hl (k := 2) rfl ex_47.symm (by decide) rfl (fun ls hl => ?_)
              refine lv_goto (tgt := 28) hx hb dX5_tryFrom_121 (by decide) ?_
              exact ih28 x_47 w_43 w_44 w_46 w_45 _ _ L_38 h_39 (by omega) (by omega) (i32_r _).1 (i32_r _).2 (i32_r _).1 (i32_r _).2 (by rw [show x_47.toInt.toNat = iv28_6.toInt.toNat + 1 by omega, hp_F_blk]; exact hr_42.1) (fun i hi => (hr_42.2 i (by omega)).trans (htc9 i hi)) ls (by omega) hW hT hM fw_43 fw_44 fw_46 fw_45 (lv_sub hl [0, 3, 4, 5, 6, 7, 8] rfl)
          · skip
            exact hx_retv hx hb hr hlk hW ⟨⟨fw28_x_11, fw28_x_12, ia28_qwl, ffw28_x_11, ffw28_x_12, nia28_qwl, (by rw [hD9, hp_F_end (j := iv28_6.toInt.toNat) (by omega) rfl (fun k9 h0 h1 => hp_inf hB (by omega) (by omega) (by omega) hsp (by have h9 := hMe (by omega); rw [hj9, ← m9, ← hav9, ← hlf9]; omega) h0 h1)]; exact vi28_0)⟩, hT, hM⟩ dX5_tryFrom_65
    have zk_0 : (0 : Int32).toInt = 0 := by decide
    exact loop28 14 (0 : Int32) bl0 ba0 trf wkf _ _ L_3 h_4 (by decide) (by decide) (i32_r _).1 (i32_r _).2 (i32_r _).1 (i32_r _).2 (by rw [zk_0, Int.toNat_zero, Nat.zero_mul]; exact hSR) (fun i hi => rfl) ls (by omega) hW hT hM f_x_11 f_x_12 af_qtd af_qwl hl
  · skip
    have hdg9 := hp_B_e hB (show o0.toInt.toNat = 0 by omega)
    refine lv_aload_n hx hb dX5_tryFrom_8 rfl (lv_at hl 0 rfl) ?_
    refine lv_iload_n hx hb dX5_tryFrom_9 rfl (lv_at hl 3 rfl) ?_
    refine lv_iload hx hb dX5_tryFrom_10 (lv_at hl 4 rfl) ?_
    refine hx_gov (hx_runV (As := [.int i3, .int i4]) (rest := []) ⟨hx, hb, hml, hown, hts⟩ hW (gx.S hM) tt_5 (T := TX5) (N := 13) rfl (t_X5_keepIfBetter_v l dC dI dA L h s.heap.size x i3 i4 hT (gx.S hM) qtd (gqtd.S hM) ((hM.o gx trivial rfl).2.trans f_x_8) qwl (gqwl.S hM) ((hM.o gx trivial rfl).2.trans f_x_3) trf af_qtd wkf af_qwl o0 ((hM.o gx trivial rfl).1.trans f_x_0) bl0 f_x_11 ba0 f_x_12 a un0.toInt (hp_dg o0.toInt.toNat K) (fun i hi => by unfold hp_w; rw [hdg9 i (by omega)]; exact htr i (by omega)) s5 hSR) (cwV 2 hts (hx_gV kw_973 kw_970 kw_972 kw_35 kw_100) rfl rfl rfl (by decide +kernel) ⟨Nat.le_of_ble_eq_true rfl, Nat.le_of_ble_eq_true rfl⟩) rfl hl.1 rfl (Nat.le_of_ble_eq_true rfl) dX5_tryFrom_12 ⟨Nat.le_of_ble_eq_true rfl, Nat.le_of_ble_eq_true rfl⟩) hW (fun L_49 h_50 H locs p_52 hW => ?_)
    obtain ⟨⟨w_54, w_55, w_56, fw_54, fw_55, fw_56, hr_53⟩, hT, hs⟩ := p_52
    replace hT : hx_T T_tb L_49 h_50 := hT
    replace hs : hx_S T_tb [(5, 11), (5, 12), (28, 0)] L h L_49 h_50 := hs
    replace af_qtd : h_50.2.1 qtd = trf := (funext fun j => (hs.a (gqtd.S hM) rfl j).1).trans af_qtd
    replace hM := hM.tr (hs.mono (by decide))
    have fw_54 : h_50.2.1 x 11 = w_54 := fw_54
    have bw_54 := hT.gi (gx.S hM) tt_5 (k := 11) rfl
    rw [fw_54] at bw_54
    have bw_54 : -2147483648 ≤ w_54.toInt ∧ w_54.toInt ≤ 2147483647 := bw_54
    have fw_55 : h_50.2.1 x 12 = w_55 := fw_55
    have bw_55 := hT.gi (gx.S hM) tt_5 (k := 12) rfl
    rw [fw_55] at bw_55
    have bw_55 : -2147483648 ≤ w_55.toInt ∧ w_55.toInt ≤ 2147483647 := bw_55
    have fw_56 : h_50.2.1 qwl = w_56 := fw_56
    exact hx_retv hx hb hr hlk hW ⟨⟨w_54, w_55, w_56, fw_54, fw_55, fw_56, (by rw [hp_leaf (show o0.toInt.toNat = 0 by omega) hdg9 hla hal (by have h9 := hfe; rw [show o0.toInt.toNat = 0 by omega] at h9; omega)]; exact hr_53)⟩, hT, hM⟩ dX5_tryFrom_15


set_option maxHeartbeats 4000000 in
set_option maxRecDepth 100000 in
theorem t_X5_settle_v (l : Launch) (dC : Nat → ClassId) (dI : Nat → Nat → Nat) (dA : Nat → ClassId) (L : List Nat) (h : hx_h) (sz : Nat) (b0 : hx_z) (x : Nat) (hT : hx_T T_tb L h) (gx : hx_g L h x 5) (qle : Nat) (gqle : hx_g L h qle 32) (f_x_7 : h.2.2 x 7 = some qle) (qre : Nat) (gqre : hx_g L h qre 31) (f_x_6 : h.2.2 x 6 = some qre) (qtd : Nat) (gqtd : hx_g L h qtd 33) (f_x_8 : h.2.2 x 8 = some qtd) (qwl : Nat) (gqwl : hx_g L h qwl 28) (f_x_3 : h.2.2 x 3 = some qwl) (qop : Nat) (gqop : hx_g L h qop 30) (f_x_5 : h.2.2 x 5 = some qop) (qws : Nat) (gqws : hx_g L h qws 29) (f_x_4 : h.2.2 x 4 = some qws) (qcl : Nat) (gqcl : hx_g L h qcl 27) (f_x_2 : h.2.2 x 2 = some qcl) (lef : Nat → Int32) (af_qle : h.2.1 qle = lef) (rsf : Nat → Int32) (af_qre : h.2.1 qre = rsf) (trf : Nat → Int32) (af_qtd : h.2.1 qtd = trf) (wkf : Nat → Int32) (af_qwl : h.2.1 qwl = wkf) (opf : Nat → Int32) (af_qop : h.2.1 qop = opf) (wsf : Nat → Int32) (af_qws : h.2.1 qws = wsf) (clf : Nat → Int32) (af_qcl : h.2.1 qcl = clf) (o0 : Int32) (f_x_0 : h.2.1 x 0 = o0) (un0 : Int32) (f_x_9 : h.2.1 x 9 = un0) (me0 : Int32) (f_x_10 : h.2.1 x 10 = me0) (td0 : Int32) (f_x_1 : h.2.1 x 1 = td0) (a : Nat → Int) (ha : ∀ i : Nat, (i : Int) < o0.toInt → (lef i).toInt = a i) (hab : ∀ i : Nat, (i : Int) < o0.toInt → 1 ≤ a i ∧ a i ≤ 9999) (rr : Nat → Int) (hr5 : ∀ i : Nat, (i : Int) < o0.toInt → (rsf i).toInt = rr i) (hrb : ∀ i : Nat, (i : Int) < o0.toInt → 1 ≤ rr i ∧ rr i ≤ 609999) (hun : 1 ≤ un0.toInt ∧ un0.toInt ≤ 99) (hmb : me0.toInt ≤ 9999) (c5 : Nat → Nat) (hc : ∀ i : Nat, (i : Int) < o0.toInt → (opf i).toInt = c5 i) : Met l yX5_settle (Cond.code yX5_settle cX5_settle 2 (some .int) :: hx_all) ({ frames := 7, cells := 0, slots := 0, locals := 202 }) (va_Pc [.ref x] (hx_BX T_tb (P_ty dA) (dC, dI) vwCl L h sz b0)) (va_Qi (fun (r : Int32) (u : List Nat × hx_h) => (∃ (td1 : Int32) (clf1 : Nat → Int32) (wkf1 : Nat → Int32) (wsf1 : Nat → Int32), u.2.2.1 x 1 = td1 ∧ u.2.2.1 qcl = clf1 ∧ u.2.2.1 qwl = wkf1 ∧ u.2.2.1 qws = wsf1 ∧ ((r.toInt = -2 ∧ (1 ≤ o0.toInt ∧ me0.toInt < hp_s a o0.toInt.toNat) ∧ td1.toInt = td0.toInt ∧ clf1 = clf ∧ wkf1 = wkf ∧ wsf1 = wsf) ∨ (¬ (1 ≤ o0.toInt ∧ me0.toInt < hp_s a o0.toInt.toNat) ∧ r.toInt = (hp_B9 a rr un0.toInt (if o0.toInt.toNat = 0 then 0 else me0.toInt) o0.toInt.toNat).1 ∧ td1.toInt = o0.toInt ∧ ∀ i : Nat, (i : Int) < o0.toInt → (clf1 i).toInt = c5 i ∧ (wkf1 i).toInt = hp_w a un0.toInt (hp_B9 a rr un0.toInt (if o0.toInt.toNat = 0 then 0 else me0.toInt) o0.toInt.toNat).2.2 i ∧ (wsf1 i).toInt = hz_ru (rr i) (hp_w a un0.toInt (hp_B9 a rr un0.toInt (if o0.toInt.toNat = 0 then 0 else me0.toInt) o0.toInt.toNat).2.2 i)))) ∧ hx_T T_tb u.1 u.2 ∧ hx_S T_tb [(5, 1), (5, 11), (5, 12), (27, 0), (28, 0), (29, 0), (33, 0)] L h u.1 u.2) (hx_E T_tb (P_ty dA) (dC, dI) vwCl (hx_A L sz)) (hx_A L sz)) 0 0 (hx_A L sz) := by
  refine hx_metX (lv := [(0, .ref x)]) (by decide +kernel) rfl (Nat.le_of_ble_eq_true rfl) rfl ?_
  intro p e s m below meth c hx hb hml hr hlk hts0 hown hin hsz hW hZ ls hl
  have hts : ∀ w ∈ hx_all, w.before _ s = true := fun w hw => hts0 w (List.mem_cons_of_mem _ hw)
  have hown : s.vm.findClass "SmallCourt$Plan" = some m.cls := hown
  have hM : hx_S T_tb [(5, 1), (5, 11), (5, 12), (27, 0), (28, 0), (29, 0), (33, 0)] L h L h := hx_S.rf
  have b_o0 := hT.gi gx tt_5 (k := 0) rfl
  rw [f_x_0] at b_o0
  have b_o0 : 0 ≤ o0.toInt ∧ o0.toInt ≤ 4 := b_o0
  have b_un0 := hT.gi gx tt_5 (k := 9) rfl
  rw [f_x_9] at b_un0
  have b_un0 : -2147483648 ≤ un0.toInt ∧ un0.toInt ≤ 2147483647 := b_un0
  have b_me0 := hT.gi gx tt_5 (k := 10) rfl
  rw [f_x_10] at b_me0
  have b_me0 : -2147483648 ≤ me0.toInt ∧ me0.toInt ≤ 2147483647 := b_me0
  have b_td0 := hT.gi gx tt_5 (k := 1) rfl
  rw [f_x_1] at b_td0
  have b_td0 : 0 ≤ td0.toInt ∧ td0.toInt ≤ 4 := b_td0
  refine lv_aload_n hx hb dX5_settle_0 rfl (lv_at hl 0 rfl) ?_
  refine hk_geti hx hb hts hC_5 hown hW (gx.S hM) tt_5 0 (by decide) rfl kw_258 ⟨rfl, rfl, rfl⟩ ((hM.o gx trivial rfl).1.trans f_x_0) dX5_settle_1 ?_
  refine hb_if_le (zx := o0.toInt) (tgt := 22) hx hb rfl dX5_settle_4 (by decide) (fun c_1 => ?_) (fun c_1 => ?_)
  · skip
    refine lv_aload_n hx hb dX5_settle_22 rfl (lv_at hl 0 rfl) ?_
    refine lv_ldc (v := 1000000000) hx hb hown (hts _ kw_965) dX5_settle_23 ?_
    refine hx_puti hx hb hts hC_5 hown hW hT (hx_S.rf (M := [(5, 11)])) (gx.S hM) tt_5 11 (by decide) rfl kw_274 ⟨rfl, rfl, rfl⟩ rfl (x := (1000000000 : Int32)) (by decide) rfl rfl rfl (List.mem_singleton.mpr rfl) dX5_settle_25 (fun H locs h_2 eh_2 hW hT hs => ?_)
    replace f_x_1 := (hs.o (gx.S hM) trivial rfl).1.trans f_x_1
    replace af_qtd : h_2.2.1 qtd = trf := (funext fun j => (hs.a (gqtd.S hM) rfl j).1).trans af_qtd
    replace af_qwl : h_2.2.1 qwl = wkf := (funext fun j => (hs.a (gqwl.S hM) rfl j).1).trans af_qwl
    replace af_qws : h_2.2.1 qws = wsf := (funext fun j => (hs.a (gqws.S hM) rfl j).1).trans af_qws
    replace af_qcl : h_2.2.1 qcl = clf := (funext fun j => (hs.a (gqcl.S hM) rfl j).1).trans af_qcl
    replace hM := hM.tr (hs.mono (by decide))
    have f_3 : h_2.2.1 x 11 = (1000000000 : Int32) := by rw [eh_2]; exact hx_pi_at _ _ _ _
    refine lv_aload_n hx hb dX5_settle_28 rfl (lv_at hl 0 rfl) ?_
    refine lv_ldc (v := 1000000000) hx hb hown (hts _ kw_965) dX5_settle_29 ?_
    refine hx_puti hx hb hts hC_5 hown hW hT (hx_S.rf (M := [(5, 12)])) (gx.S hM) tt_5 12 (by decide) rfl kw_275 ⟨rfl, rfl, rfl⟩ rfl (x := (1000000000 : Int32)) (by decide) rfl rfl rfl (List.mem_singleton.mpr rfl) dX5_settle_31 (fun H locs h_4 eh_4 hW hT hs => ?_)
    replace f_x_1 := (hs.o (gx.S hM) trivial rfl).1.trans f_x_1
    replace f_3 := (hs.o (gx.S hM) trivial rfl).1.trans f_3
    replace af_qtd : h_4.2.1 qtd = trf := (funext fun j => (hs.a (gqtd.S hM) rfl j).1).trans af_qtd
    replace af_qwl : h_4.2.1 qwl = wkf := (funext fun j => (hs.a (gqwl.S hM) rfl j).1).trans af_qwl
    replace af_qws : h_4.2.1 qws = wsf := (funext fun j => (hs.a (gqws.S hM) rfl j).1).trans af_qws
    replace af_qcl : h_4.2.1 qcl = clf := (funext fun j => (hs.a (gqcl.S hM) rfl j).1).trans af_qcl
    replace hM := hM.tr (hs.mono (by decide))
    have f_5 : h_4.2.1 x 12 = (1000000000 : Int32) := by rw [eh_4]; exact hx_pi_at _ _ _ _
    obtain ⟨M9, eM9⟩ : ∃ z : Int, z = (if o0.toInt.toNat = 0 then 0 else me0.toInt) := ⟨_, rfl⟩
    have hMe9 : 1 ≤ o0.toInt → M9 = me0.toInt := fun h9 => by rw [eM9, if_neg (by omega)]
    have hMb9 : M9 ≤ 9999 := by rw [eM9]; split <;> omega
    have hM09 : hp_s a o0.toInt.toNat ≤ M9 := by by_cases z : o0.toInt.toNat = 0; (rw [eM9, if_pos z, z]; exact Int.le_refl _); (have h9 := hMe9 (by omega); omega)
    refine lv_aload_n hx hb dX5_settle_34 rfl (lv_at hl 0 rfl) ?_
    refine lv_iconst (v := 0) hx hb dX5_settle_35 (by decide) ?_
    refine lv_iconst (v := 0) hx hb dX5_settle_36 (by decide) ?_
    refine lv_iconst (v := 0) hx hb dX5_settle_37 (by decide) ?_
    refine lv_iconst (v := 0) hx hb dX5_settle_38 (by decide) ?_
    have zc_0 : (0 : Int32).toInt = 0 := by decide
    have zq_1000000000 : (1000000000 : Int32).toInt = 1000000000 := by decide
    have zq_1000000000 : (1000000000 : Int32).toInt = 1000000000 := by decide
    refine hx_gov (hx_runVX (As := [.int (0 : Int32), .int (0 : Int32), .int (0 : Int32), .int (0 : Int32)]) (rest := []) ⟨hx, hb, hml, hown, hts⟩ hW (gx.S hM) tt_5 (T := TX5) (N := 13) rfl (t_X5_tryFrom_0v l dC dI dA L h_4 H.size b0 x (0 : Int32) (0 : Int32) (0 : Int32) hT (gx.S hM) qle (gqle.S hM) ((hM.o gx trivial rfl).2.trans f_x_7) qre (gqre.S hM) ((hM.o gx trivial rfl).2.trans f_x_6) qtd (gqtd.S hM) ((hM.o gx trivial rfl).2.trans f_x_8) qwl (gqwl.S hM) ((hM.o gx trivial rfl).2.trans f_x_3) lef (hx_afS hM gqle rfl af_qle) rsf (hx_afS hM gqre rfl af_qre) trf af_qtd wkf af_qwl o0 ((hM.o gx trivial rfl).1.trans f_x_0) un0 ((hM.o gx trivial rfl).1.trans f_x_9) me0 ((hM.o gx trivial rfl).1.trans f_x_10) (1000000000 : Int32) f_3 (1000000000 : Int32) f_5 a ha hab rr hr5 hrb hun M9 hMe9 hMb9 (by omega) 0 (fun _ => 0) hp_B_0 (by rw [zc_0]; rfl) (by rw [zc_0]; rfl) (by rw [zc_0]; rfl) (fun i hi => absurd hi (Nat.not_lt_zero i)) (by rw [zc_0]; show 0 + (hp_s a o0.toInt.toNat - 0) ≤ M9; omega) (by rw [zc_0]; decide) (by rw [zc_0]; decide) (by rw [zc_0]; decide) hp_s0 ⟨by decide, by decide, fun h9 => absurd h9 (by decide)⟩) hZ (cwV 4 hts (hx_gV kw_969 kw_966 kw_968 kw_34 kw_100) rfl rfl rfl (by decide +kernel) ⟨Nat.le_of_ble_eq_true rfl, Nat.le_of_ble_eq_true rfl⟩) rfl hl.1 rfl (Nat.le_of_ble_eq_true rfl) dX5_settle_39 ⟨Nat.le_of_ble_eq_true rfl, Nat.le_of_ble_eq_true rfl⟩) hW (fun L_6 h_7 H locs p_9 hW => ?_)
    obtain ⟨⟨w_11, w_12, w_13, fw_11, fw_12, fw_13, hr_10⟩, hT, hs⟩ := p_9
    replace hT : hx_T T_tb L_6 h_7 := hT
    replace hs : hx_S T_tb [(5, 11), (5, 12), (28, 0), (33, 0)] L h_4 L_6 h_7 := hs
    replace f_x_1 := (hs.o (gx.S hM) trivial rfl).1.trans f_x_1
    replace af_qws : h_7.2.1 qws = wsf := (funext fun j => (hs.a (gqws.S hM) rfl j).1).trans af_qws
    replace af_qcl : h_7.2.1 qcl = clf := (funext fun j => (hs.a (gqcl.S hM) rfl j).1).trans af_qcl
    replace hM := hM.tr (hs.mono (by decide))
    have fw_11 : h_7.2.1 x 11 = w_11 := fw_11
    have bw_11 := hT.gi (gx.S hM) tt_5 (k := 11) rfl
    rw [fw_11] at bw_11
    have bw_11 : -2147483648 ≤ w_11.toInt ∧ w_11.toInt ≤ 2147483647 := bw_11
    have fw_12 : h_7.2.1 x 12 = w_12 := fw_12
    have bw_12 := hT.gi (gx.S hM) tt_5 (k := 12) rfl
    rw [fw_12] at bw_12
    have bw_12 : -2147483648 ≤ w_12.toInt ∧ w_12.toInt ≤ 2147483647 := bw_12
    have fw_13 : h_7.2.1 qwl = w_13 := fw_13
    have hT9 : hp_SR (hp_B9 a rr un0.toInt M9 o0.toInt.toNat) w_11.toInt w_12.toInt w_13 a un0.toInt o0.toInt := by have h9 := hr_10; rw [Nat.zero_mul, Nat.sub_zero] at h9; exact h9
    have hbl9 : w_11.toInt ≤ 609999 := by rw [← hT9.1]; exact hp_some hM09 (fun i hi => (hrb i (by omega)).2)
    have hwk9 := hT9.2.2 (by omega)
    refine lv_iconst (v := 0) hx hb dX5_settle_42 (by decide) ?_
    refine lv_istore_n (lv' := [(1, .int (0 : Int32)), (0, .ref x)]) hx hb dX5_settle_43 rfl hl (by decide) rfl (fun ls hl => ?_)
    have loop44 : ∀ (n44 : Nat) (iv44_1 : Int32) (ia44_qcl ia44_qws : Nat → Int32) (H : Heap) (locs : List Loc) (hL1 : List Nat) (hl1 : hx_h), 0 ≤ iv44_1.toInt → iv44_1.toInt ≤ 4 → (∀ c9 : Nat, (c9 : Int) < iv44_1.toInt → (ia44_qcl c9).toInt = c5 c9) → (∀ c9 : Nat, (c9 : Int) < iv44_1.toInt → (ia44_qws c9).toInt = hz_ru (rr c9) (hp_w a un0.toInt (hp_B9 a rr un0.toInt M9 o0.toInt.toNat).2.2 c9)) → (iv44_1.toInt ≤ o0.toInt) → ∀ (ls : Array Slot), 4 - iv44_1.toInt < (n44 : Int) → hx_W T_tb (P_ty dA) (dC, dI) vwCl (hx_A L sz) s.heap hL1 hl1 s H locs → hx_T T_tb hL1 hl1 → hx_S T_tb [(5, 1), (5, 11), (5, 12), (27, 0), (28, 0), (29, 0), (33, 0)] L h hL1 hl1 → hl1.2.1 x 1 = td0 → hl1.2.1 x 11 = w_11 → hl1.2.1 x 12 = w_12 → hl1.2.1 qcl = ia44_qcl → hl1.2.1 qws = ia44_qws → hl1.2.1 qwl = w_13 → lv_has ls 2 [(1, .int iv44_1), (0, .ref x)] → W p l e ({ frames := 7, cells := 0, slots := 0, locals := 202 }) s m ([.ref x] : List Value).toArray below meth c H locs 0 0 (MQ below (va_Qi (fun (r : Int32) (u : List Nat × hx_h) => (∃ (td1 : Int32) (clf1 : Nat → Int32) (wkf1 : Nat → Int32) (wsf1 : Nat → Int32), u.2.2.1 x 1 = td1 ∧ u.2.2.1 qcl = clf1 ∧ u.2.2.1 qwl = wkf1 ∧ u.2.2.1 qws = wsf1 ∧ ((r.toInt = -2 ∧ (1 ≤ o0.toInt ∧ me0.toInt < hp_s a o0.toInt.toNat) ∧ td1.toInt = td0.toInt ∧ clf1 = clf ∧ wkf1 = wkf ∧ wsf1 = wsf) ∨ (¬ (1 ≤ o0.toInt ∧ me0.toInt < hp_s a o0.toInt.toNat) ∧ r.toInt = (hp_B9 a rr un0.toInt (if o0.toInt.toNat = 0 then 0 else me0.toInt) o0.toInt.toNat).1 ∧ td1.toInt = o0.toInt ∧ ∀ i : Nat, (i : Int) < o0.toInt → (clf1 i).toInt = c5 i ∧ (wkf1 i).toInt = hp_w a un0.toInt (hp_B9 a rr un0.toInt (if o0.toInt.toNat = 0 then 0 else me0.toInt) o0.toInt.toNat).2.2 i ∧ (wsf1 i).toInt = hz_ru (rr i) (hp_w a un0.toInt (hp_B9 a rr un0.toInt (if o0.toInt.toNat = 0 then 0 else me0.toInt) o0.toInt.toNat).2.2 i)))) ∧ hx_T T_tb u.1 u.2 ∧ hx_S T_tb [(5, 1), (5, 11), (5, 12), (27, 0), (28, 0), (29, 0), (33, 0)] L h u.1 u.2) (hx_E T_tb (P_ty dA) (dC, dI) vwCl (hx_A L sz)) (hx_A L sz)) ([.ref x] : List Value).toArray s 0 0 (hx_A L sz)) (F0 m 44 ls []) := by
      intro n44
      induction n44 with
      | zero => intro iv44_1 ia44_qcl ia44_qws H locs hL1 hl1 bliv44_1 buiv44_1 vi44_0 vi44_1 vi44_2 ls hn44; exfalso; omega
      | succ n44 ih44 =>
        intro iv44_1 ia44_qcl ia44_qws H locs hL1 hl1 bliv44_1 buiv44_1 vi44_0 vi44_1 vi44_2 ls hn44 hW hT hM f_x_1 fw_11 fw_12 nia44_qcl nia44_qws fw_13 hl
        refine lv_iload_n hx hb dX5_settle_44 rfl (lv_at hl 0 rfl) ?_
        refine lv_aload_n hx hb dX5_settle_45 rfl (lv_at hl 1 rfl) ?_
        refine hk_geti hx hb hts hC_5 hown hW (gx.S hM) tt_5 0 (by decide) rfl kw_258 ⟨rfl, rfl, rfl⟩ ((hM.o gx trivial rfl).1.trans f_x_0) dX5_settle_46 ?_
        refine hb_icmp_ge (zx := iv44_1.toInt) (zy := o0.toInt) (tgt := 91) hx hb rfl rfl dX5_settle_49 (by decide) (fun c_14 => ?_) (fun c_14 => by exfalso; omega)
        refine lv_aload_n hx hb dX5_settle_91 rfl (lv_at hl 1 rfl) ?_
        refine lv_aload_n hx hb dX5_settle_92 rfl (lv_at hl 1 rfl) ?_
        refine hk_geti hx hb hts hC_5 hown hW (gx.S hM) tt_5 0 (by decide) rfl kw_258 ⟨rfl, rfl, rfl⟩ ((hM.o gx trivial rfl).1.trans f_x_0) dX5_settle_93 ?_
        refine hx_puti hx hb hts hC_5 hown hW hT (hx_S.rf (M := [(5, 1)])) (gx.S hM) tt_5 1 (by decide) rfl kw_260 ⟨rfl, rfl, rfl⟩ rfl (x := o0) ⟨by omega, by omega⟩ rfl rfl rfl (List.mem_singleton.mpr rfl) dX5_settle_96 (fun H locs h_15 eh_15 hW hT hs => ?_)
        replace fw_11 := (hs.o (gx.S hM) trivial rfl).1.trans fw_11
        replace fw_12 := (hs.o (gx.S hM) trivial rfl).1.trans fw_12
        replace fw_13 : h_15.2.1 qwl = w_13 := (funext fun j => (hs.a (gqwl.S hM) rfl j).1).trans fw_13
        replace nia44_qcl : h_15.2.1 qcl = ia44_qcl := (funext fun j => (hs.a (gqcl.S hM) rfl j).1).trans nia44_qcl
        replace nia44_qws : h_15.2.1 qws = ia44_qws := (funext fun j => (hs.a (gqws.S hM) rfl j).1).trans nia44_qws
        replace hM := hM.tr (hs.mono (by decide))
        have f_16 : h_15.2.1 x 1 = o0 := by rw [eh_15]; exact hx_pi_at _ _ _ _
        refine lv_aload_n hx hb dX5_settle_99 rfl (lv_at hl 1 rfl) ?_
        refine hk_geti hx hb hts hC_5 hown hW (gx.S hM) tt_5 11 (by decide) rfl kw_274 ⟨rfl, rfl, rfl⟩ fw_11 dX5_settle_100 ?_
        exact hx_reti hx hb hr hlk hW ⟨⟨o0, ia44_qcl, w_13, ia44_qws, f_16, nia44_qcl, fw_13, nia44_qws, (Or.inr ⟨(fun z9 => by omega), (by rw [← eM9]; exact hT9.1.symm), (by omega), fun i hi => (by rw [← eM9]; exact ⟨vi44_0 i (by omega), hwk9 i (by omega), vi44_1 i (by omega)⟩)⟩)⟩, hT, hM⟩ dX5_settle_103
    have zk_0 : (0 : Int32).toInt = 0 := by decide
    exact loop44 5 (0 : Int32) clf wsf _ _ L_6 h_7 (by decide) (by decide) (fun c9 hc9 => by exfalso; omega) (fun c9 hc9 => by exfalso; omega) (by omega) ls (by omega) hW hT hM f_x_1 fw_11 fw_12 af_qcl af_qws fw_13 hl
  · skip
    refine lv_aload_n hx hb dX5_settle_7 rfl (lv_at hl 0 rfl) ?_
    refine lv_iconst (v := 0) hx hb dX5_settle_8 (by decide) ?_
    have zc_0 : (0 : Int32).toInt = 0 := by decide
    refine hx_goi (hx_runV (As := [.int (0 : Int32)]) (rest := []) ⟨hx, hb, hml, hown, hts⟩ hW (gx.S hM) tt_5 (T := TX5) (N := 13) rfl (t_X5_leastFrom_v l dC dI dA L h s.heap.size x (0 : Int32) hT (gx.S hM) qle (gqle.S hM) ((hM.o gx trivial rfl).2.trans f_x_7) lef (hx_afS hM gqle rfl af_qle) o0 ((hM.o gx trivial rfl).1.trans f_x_0) a ha hab ⟨by omega, by omega⟩) (cwV 1 hts (hx_gV kw_964 kw_961 kw_963 kw_33 kw_100) rfl rfl rfl (by decide +kernel) ⟨Nat.le_of_ble_eq_true rfl, Nat.le_of_ble_eq_true rfl⟩) rfl hl.1 rfl (Nat.le_of_ble_eq_true rfl) dX5_settle_9 ⟨Nat.le_of_ble_eq_true rfl, Nat.le_of_ble_eq_true rfl⟩) hW (fun r_19 L_17 h_18 H locs p_20 hW => ?_)
    obtain ⟨hr_21, hT, hs⟩ := p_20
    replace hT : hx_T T_tb L_17 h_18 := hT
    replace hs : hx_S T_tb [] L h L_17 h_18 := hs
    replace f_x_1 := (hs.o (gx.S hM) trivial rfl).1.trans f_x_1
    replace af_qtd : h_18.2.1 qtd = trf := (funext fun j => (hs.a (gqtd.S hM) rfl j).1).trans af_qtd
    replace af_qwl : h_18.2.1 qwl = wkf := (funext fun j => (hs.a (gqwl.S hM) rfl j).1).trans af_qwl
    replace af_qws : h_18.2.1 qws = wsf := (funext fun j => (hs.a (gqws.S hM) rfl j).1).trans af_qws
    replace af_qcl : h_18.2.1 qcl = clf := (funext fun j => (hs.a (gqcl.S hM) rfl j).1).trans af_qcl
    replace hM := hM.tr (hs.mono (by decide))
    have hlf9 := hr_21.1; rw [zc_0, show (0 : Int).toNat = 0 from rfl] at hlf9; have hs09 : hp_s a 0 = 0 := rfl
    refine lv_aload_n hx hb dX5_settle_12 rfl (lv_at hl 0 rfl) ?_
    refine hk_geti hx hb hts hC_5 hown hW (gx.S hM) tt_5 10 (by decide) rfl kw_273 ⟨rfl, rfl, rfl⟩ ((hM.o gx trivial rfl).1.trans f_x_10) dX5_settle_13 ?_
    refine hb_icmp_le (zx := r_19.toInt) (zy := me0.toInt) (tgt := 22) hx hb rfl rfl dX5_settle_16 (by decide) (fun c_22 => ?_) (fun c_22 => ?_)
    · skip
      refine lv_aload_n hx hb dX5_settle_22 rfl (lv_at hl 0 rfl) ?_
      refine lv_ldc (v := 1000000000) hx hb hown (hts _ kw_965) dX5_settle_23 ?_
      refine hx_puti hx hb hts hC_5 hown hW hT (hx_S.rf (M := [(5, 11)])) (gx.S hM) tt_5 11 (by decide) rfl kw_274 ⟨rfl, rfl, rfl⟩ rfl (x := (1000000000 : Int32)) (by decide) rfl rfl rfl (List.mem_singleton.mpr rfl) dX5_settle_25 (fun H locs h_23 eh_23 hW hT hs => ?_)
      replace f_x_1 := (hs.o (gx.S hM) trivial rfl).1.trans f_x_1
      replace af_qtd : h_23.2.1 qtd = trf := (funext fun j => (hs.a (gqtd.S hM) rfl j).1).trans af_qtd
      replace af_qwl : h_23.2.1 qwl = wkf := (funext fun j => (hs.a (gqwl.S hM) rfl j).1).trans af_qwl
      replace af_qws : h_23.2.1 qws = wsf := (funext fun j => (hs.a (gqws.S hM) rfl j).1).trans af_qws
      replace af_qcl : h_23.2.1 qcl = clf := (funext fun j => (hs.a (gqcl.S hM) rfl j).1).trans af_qcl
      replace hM := hM.tr (hs.mono (by decide))
      have f_24 : h_23.2.1 x 11 = (1000000000 : Int32) := by rw [eh_23]; exact hx_pi_at _ _ _ _
      refine lv_aload_n hx hb dX5_settle_28 rfl (lv_at hl 0 rfl) ?_
      refine lv_ldc (v := 1000000000) hx hb hown (hts _ kw_965) dX5_settle_29 ?_
      refine hx_puti hx hb hts hC_5 hown hW hT (hx_S.rf (M := [(5, 12)])) (gx.S hM) tt_5 12 (by decide) rfl kw_275 ⟨rfl, rfl, rfl⟩ rfl (x := (1000000000 : Int32)) (by decide) rfl rfl rfl (List.mem_singleton.mpr rfl) dX5_settle_31 (fun H locs h_25 eh_25 hW hT hs => ?_)
      replace f_x_1 := (hs.o (gx.S hM) trivial rfl).1.trans f_x_1
      replace f_24 := (hs.o (gx.S hM) trivial rfl).1.trans f_24
      replace af_qtd : h_25.2.1 qtd = trf := (funext fun j => (hs.a (gqtd.S hM) rfl j).1).trans af_qtd
      replace af_qwl : h_25.2.1 qwl = wkf := (funext fun j => (hs.a (gqwl.S hM) rfl j).1).trans af_qwl
      replace af_qws : h_25.2.1 qws = wsf := (funext fun j => (hs.a (gqws.S hM) rfl j).1).trans af_qws
      replace af_qcl : h_25.2.1 qcl = clf := (funext fun j => (hs.a (gqcl.S hM) rfl j).1).trans af_qcl
      replace hM := hM.tr (hs.mono (by decide))
      have f_26 : h_25.2.1 x 12 = (1000000000 : Int32) := by rw [eh_25]; exact hx_pi_at _ _ _ _
      obtain ⟨M9, eM9⟩ : ∃ z : Int, z = (if o0.toInt.toNat = 0 then 0 else me0.toInt) := ⟨_, rfl⟩
      have hMe9 : 1 ≤ o0.toInt → M9 = me0.toInt := fun h9 => by rw [eM9, if_neg (by omega)]
      have hMb9 : M9 ≤ 9999 := by rw [eM9]; split <;> omega
      have hM09 : hp_s a o0.toInt.toNat ≤ M9 := by by_cases z : o0.toInt.toNat = 0; (rw [eM9, if_pos z, z]; exact Int.le_refl _); (have h9 := hMe9 (by omega); omega)
      refine lv_aload_n hx hb dX5_settle_34 rfl (lv_at hl 0 rfl) ?_
      refine lv_iconst (v := 0) hx hb dX5_settle_35 (by decide) ?_
      refine lv_iconst (v := 0) hx hb dX5_settle_36 (by decide) ?_
      refine lv_iconst (v := 0) hx hb dX5_settle_37 (by decide) ?_
      refine lv_iconst (v := 0) hx hb dX5_settle_38 (by decide) ?_
      have zq_1000000000 : (1000000000 : Int32).toInt = 1000000000 := by decide
      have zq_1000000000 : (1000000000 : Int32).toInt = 1000000000 := by decide
      refine hx_gov (hx_runVX (As := [.int (0 : Int32), .int (0 : Int32), .int (0 : Int32), .int (0 : Int32)]) (rest := []) ⟨hx, hb, hml, hown, hts⟩ hW (gx.S hM) tt_5 (T := TX5) (N := 13) rfl (t_X5_tryFrom_0v l dC dI dA L_17 h_25 H.size b0 x (0 : Int32) (0 : Int32) (0 : Int32) hT (gx.S hM) qle (gqle.S hM) ((hM.o gx trivial rfl).2.trans f_x_7) qre (gqre.S hM) ((hM.o gx trivial rfl).2.trans f_x_6) qtd (gqtd.S hM) ((hM.o gx trivial rfl).2.trans f_x_8) qwl (gqwl.S hM) ((hM.o gx trivial rfl).2.trans f_x_3) lef (hx_afS hM gqle rfl af_qle) rsf (hx_afS hM gqre rfl af_qre) trf af_qtd wkf af_qwl o0 ((hM.o gx trivial rfl).1.trans f_x_0) un0 ((hM.o gx trivial rfl).1.trans f_x_9) me0 ((hM.o gx trivial rfl).1.trans f_x_10) (1000000000 : Int32) f_24 (1000000000 : Int32) f_26 a ha hab rr hr5 hrb hun M9 hMe9 hMb9 (by omega) 0 (fun _ => 0) hp_B_0 (by rw [zc_0]; rfl) (by rw [zc_0]; rfl) (by rw [zc_0]; rfl) (fun i hi => absurd hi (Nat.not_lt_zero i)) (by rw [zc_0]; show 0 + (hp_s a o0.toInt.toNat - 0) ≤ M9; omega) (by rw [zc_0]; decide) (by rw [zc_0]; decide) (by rw [zc_0]; decide) hp_s0 ⟨by decide, by decide, fun h9 => absurd h9 (by decide)⟩) hZ (cwV 4 hts (hx_gV kw_969 kw_966 kw_968 kw_34 kw_100) rfl rfl rfl (by decide +kernel) ⟨Nat.le_of_ble_eq_true rfl, Nat.le_of_ble_eq_true rfl⟩) rfl hl.1 rfl (Nat.le_of_ble_eq_true rfl) dX5_settle_39 ⟨Nat.le_of_ble_eq_true rfl, Nat.le_of_ble_eq_true rfl⟩) hW (fun L_27 h_28 H locs p_30 hW => ?_)
      obtain ⟨⟨w_32, w_33, w_34, fw_32, fw_33, fw_34, hr_31⟩, hT, hs⟩ := p_30
      replace hT : hx_T T_tb L_27 h_28 := hT
      replace hs : hx_S T_tb [(5, 11), (5, 12), (28, 0), (33, 0)] L_17 h_25 L_27 h_28 := hs
      replace f_x_1 := (hs.o (gx.S hM) trivial rfl).1.trans f_x_1
      replace af_qws : h_28.2.1 qws = wsf := (funext fun j => (hs.a (gqws.S hM) rfl j).1).trans af_qws
      replace af_qcl : h_28.2.1 qcl = clf := (funext fun j => (hs.a (gqcl.S hM) rfl j).1).trans af_qcl
      replace hM := hM.tr (hs.mono (by decide))
      have fw_32 : h_28.2.1 x 11 = w_32 := fw_32
      have bw_32 := hT.gi (gx.S hM) tt_5 (k := 11) rfl
      rw [fw_32] at bw_32
      have bw_32 : -2147483648 ≤ w_32.toInt ∧ w_32.toInt ≤ 2147483647 := bw_32
      have fw_33 : h_28.2.1 x 12 = w_33 := fw_33
      have bw_33 := hT.gi (gx.S hM) tt_5 (k := 12) rfl
      rw [fw_33] at bw_33
      have bw_33 : -2147483648 ≤ w_33.toInt ∧ w_33.toInt ≤ 2147483647 := bw_33
      have fw_34 : h_28.2.1 qwl = w_34 := fw_34
      have hT9 : hp_SR (hp_B9 a rr un0.toInt M9 o0.toInt.toNat) w_32.toInt w_33.toInt w_34 a un0.toInt o0.toInt := by have h9 := hr_31; rw [Nat.zero_mul, Nat.sub_zero] at h9; exact h9
      have hbl9 : w_32.toInt ≤ 609999 := by rw [← hT9.1]; exact hp_some hM09 (fun i hi => (hrb i (by omega)).2)
      have hwk9 := hT9.2.2 (by omega)
      refine lv_iconst (v := 0) hx hb dX5_settle_42 (by decide) ?_
      refine lv_istore_n (lv' := [(1, .int (0 : Int32)), (0, .ref x)]) hx hb dX5_settle_43 rfl hl (by decide) rfl (fun ls hl => ?_)
      have loop44 : ∀ (n44 : Nat) (iv44_1 : Int32) (ia44_qcl ia44_qws : Nat → Int32) (H : Heap) (locs : List Loc) (hL1 : List Nat) (hl1 : hx_h), 0 ≤ iv44_1.toInt → iv44_1.toInt ≤ 4 → (∀ c9 : Nat, (c9 : Int) < iv44_1.toInt → (ia44_qcl c9).toInt = c5 c9) → (∀ c9 : Nat, (c9 : Int) < iv44_1.toInt → (ia44_qws c9).toInt = hz_ru (rr c9) (hp_w a un0.toInt (hp_B9 a rr un0.toInt M9 o0.toInt.toNat).2.2 c9)) → (iv44_1.toInt ≤ o0.toInt) → ∀ (ls : Array Slot), 4 - iv44_1.toInt < (n44 : Int) → hx_W T_tb (P_ty dA) (dC, dI) vwCl (hx_A L sz) s.heap hL1 hl1 s H locs → hx_T T_tb hL1 hl1 → hx_S T_tb [(5, 1), (5, 11), (5, 12), (27, 0), (28, 0), (29, 0), (33, 0)] L h hL1 hl1 → hl1.2.1 x 1 = td0 → hl1.2.1 x 11 = w_32 → hl1.2.1 x 12 = w_33 → hl1.2.1 qcl = ia44_qcl → hl1.2.1 qws = ia44_qws → hl1.2.1 qwl = w_34 → lv_has ls 2 [(1, .int iv44_1), (0, .ref x)] → W p l e ({ frames := 7, cells := 0, slots := 0, locals := 202 }) s m ([.ref x] : List Value).toArray below meth c H locs 0 0 (MQ below (va_Qi (fun (r : Int32) (u : List Nat × hx_h) => (∃ (td1 : Int32) (clf1 : Nat → Int32) (wkf1 : Nat → Int32) (wsf1 : Nat → Int32), u.2.2.1 x 1 = td1 ∧ u.2.2.1 qcl = clf1 ∧ u.2.2.1 qwl = wkf1 ∧ u.2.2.1 qws = wsf1 ∧ ((r.toInt = -2 ∧ (1 ≤ o0.toInt ∧ me0.toInt < hp_s a o0.toInt.toNat) ∧ td1.toInt = td0.toInt ∧ clf1 = clf ∧ wkf1 = wkf ∧ wsf1 = wsf) ∨ (¬ (1 ≤ o0.toInt ∧ me0.toInt < hp_s a o0.toInt.toNat) ∧ r.toInt = (hp_B9 a rr un0.toInt (if o0.toInt.toNat = 0 then 0 else me0.toInt) o0.toInt.toNat).1 ∧ td1.toInt = o0.toInt ∧ ∀ i : Nat, (i : Int) < o0.toInt → (clf1 i).toInt = c5 i ∧ (wkf1 i).toInt = hp_w a un0.toInt (hp_B9 a rr un0.toInt (if o0.toInt.toNat = 0 then 0 else me0.toInt) o0.toInt.toNat).2.2 i ∧ (wsf1 i).toInt = hz_ru (rr i) (hp_w a un0.toInt (hp_B9 a rr un0.toInt (if o0.toInt.toNat = 0 then 0 else me0.toInt) o0.toInt.toNat).2.2 i)))) ∧ hx_T T_tb u.1 u.2 ∧ hx_S T_tb [(5, 1), (5, 11), (5, 12), (27, 0), (28, 0), (29, 0), (33, 0)] L h u.1 u.2) (hx_E T_tb (P_ty dA) (dC, dI) vwCl (hx_A L sz)) (hx_A L sz)) ([.ref x] : List Value).toArray s 0 0 (hx_A L sz)) (F0 m 44 ls []) := by
        intro n44
        induction n44 with
        | zero => intro iv44_1 ia44_qcl ia44_qws H locs hL1 hl1 bliv44_1 buiv44_1 vi44_0 vi44_1 vi44_2 ls hn44; exfalso; omega
        | succ n44 ih44 =>
          intro iv44_1 ia44_qcl ia44_qws H locs hL1 hl1 bliv44_1 buiv44_1 vi44_0 vi44_1 vi44_2 ls hn44 hW hT hM f_x_1 fw_32 fw_33 nia44_qcl nia44_qws fw_34 hl
          refine lv_iload_n hx hb dX5_settle_44 rfl (lv_at hl 0 rfl) ?_
          refine lv_aload_n hx hb dX5_settle_45 rfl (lv_at hl 1 rfl) ?_
          refine hk_geti hx hb hts hC_5 hown hW (gx.S hM) tt_5 0 (by decide) rfl kw_258 ⟨rfl, rfl, rfl⟩ ((hM.o gx trivial rfl).1.trans f_x_0) dX5_settle_46 ?_
          refine hb_icmp_ge (zx := iv44_1.toInt) (zy := o0.toInt) (tgt := 91) hx hb rfl rfl dX5_settle_49 (by decide) (fun c_35 => ?_) (fun c_35 => ?_)
          · skip
            refine lv_aload_n hx hb dX5_settle_91 rfl (lv_at hl 1 rfl) ?_
            refine lv_aload_n hx hb dX5_settle_92 rfl (lv_at hl 1 rfl) ?_
            refine hk_geti hx hb hts hC_5 hown hW (gx.S hM) tt_5 0 (by decide) rfl kw_258 ⟨rfl, rfl, rfl⟩ ((hM.o gx trivial rfl).1.trans f_x_0) dX5_settle_93 ?_
            refine hx_puti hx hb hts hC_5 hown hW hT (hx_S.rf (M := [(5, 1)])) (gx.S hM) tt_5 1 (by decide) rfl kw_260 ⟨rfl, rfl, rfl⟩ rfl (x := o0) ⟨by omega, by omega⟩ rfl rfl rfl (List.mem_singleton.mpr rfl) dX5_settle_96 (fun H locs h_36 eh_36 hW hT hs => ?_)
            replace fw_32 := (hs.o (gx.S hM) trivial rfl).1.trans fw_32
            replace fw_33 := (hs.o (gx.S hM) trivial rfl).1.trans fw_33
            replace fw_34 : h_36.2.1 qwl = w_34 := (funext fun j => (hs.a (gqwl.S hM) rfl j).1).trans fw_34
            replace nia44_qcl : h_36.2.1 qcl = ia44_qcl := (funext fun j => (hs.a (gqcl.S hM) rfl j).1).trans nia44_qcl
            replace nia44_qws : h_36.2.1 qws = ia44_qws := (funext fun j => (hs.a (gqws.S hM) rfl j).1).trans nia44_qws
            replace hM := hM.tr (hs.mono (by decide))
            have f_37 : h_36.2.1 x 1 = o0 := by rw [eh_36]; exact hx_pi_at _ _ _ _
            refine lv_aload_n hx hb dX5_settle_99 rfl (lv_at hl 1 rfl) ?_
            refine hk_geti hx hb hts hC_5 hown hW (gx.S hM) tt_5 11 (by decide) rfl kw_274 ⟨rfl, rfl, rfl⟩ fw_32 dX5_settle_100 ?_
            exact hx_reti hx hb hr hlk hW ⟨⟨o0, ia44_qcl, w_34, ia44_qws, f_37, nia44_qcl, fw_34, nia44_qws, (Or.inr ⟨(fun z9 => by omega), (by rw [← eM9]; exact hT9.1.symm), (by omega), fun i hi => (by rw [← eM9]; exact ⟨vi44_0 i (by omega), hwk9 i (by omega), vi44_1 i (by omega)⟩)⟩)⟩, hT, hM⟩ dX5_settle_103
          · skip
            refine lv_aload_n hx hb dX5_settle_52 rfl (lv_at hl 1 rfl) ?_
            refine hk_getr hx hb hts hC_5 hown hW (gx.S hM) tt_5 2 (by decide) rfl kw_262 ⟨rfl, rfl, rfl⟩ ((hM.o gx trivial rfl).2.trans f_x_2) dX5_settle_53 ?_
            refine lv_iload_n hx hb dX5_settle_56 rfl (lv_at hl 0 rfl) ?_
            refine lv_aload_n hx hb dX5_settle_57 rfl (lv_at hl 1 rfl) ?_
            refine hk_getr hx hb hts hC_5 hown hW (gx.S hM) tt_5 5 (by decide) rfl kw_268 ⟨rfl, rfl, rfl⟩ ((hM.o gx trivial rfl).2.trans f_x_5) dX5_settle_58 ?_
            refine lv_iload_n hx hb dX5_settle_61 rfl (lv_at hl 0 rfl) ?_
            refine hx_iald hx hb hW hT (gqop.S hM) tt_30 rfl ⟨by omega, by omega⟩ dX5_settle_62 (fun x_38 ex_38 lx_38 ux_38 => ?_)
            have ax_38 : x_38 = opf iv44_1.toNatClampNeg := ex_38.trans (congrFun (hx_afS hM gqop rfl af_qop) _)
            have hcv9 : x_38.toInt = c5 iv44_1.toInt.toNat := by rw [ax_38]; exact hc _ (by unfold Int32.toNatClampNeg; omega)
            have nia44_qclO := nia44_qcl
            refine hx_iast hx hb hW hT (hx_S.rf (M := [(27, 0)])) (gqcl.S hM) tt_27 rfl ⟨by omega, by omega⟩ rfl (i32_r _) (List.mem_singleton.mpr rfl) dX5_settle_63 (fun H locs h_39 eh_39 hW hT hs => ?_)
            replace f_x_1 := (hs.o (gx.S hM) trivial rfl).1.trans f_x_1
            replace fw_32 := (hs.o (gx.S hM) trivial rfl).1.trans fw_32
            replace fw_33 := (hs.o (gx.S hM) trivial rfl).1.trans fw_33
            replace fw_34 : h_39.2.1 qwl = w_34 := (funext fun j => (hs.a (gqwl.S hM) rfl j).1).trans fw_34
            replace nia44_qws : h_39.2.1 qws = ia44_qws := (funext fun j => (hs.a (gqws.S hM) rfl j).1).trans nia44_qws
            replace ex_38 := ex_38.trans (hs.a (gqop.S hM) rfl _).1.symm
            replace hM := hM.tr (hs.mono (by decide))
            obtain ⟨fa_40, dfa_40⟩ : ∃ g : Nat → Int32, g = hx_up ia44_qcl iv44_1.toNatClampNeg x_38 := ⟨_, rfl⟩
            have nfa_40 : h_39.2.1 qcl = fa_40 := by rw [eh_39, dfa_40, ← nia44_qclO]; exact hx_pi_fun _ _ _ _
            refine lv_aload_n hx hb dX5_settle_64 rfl (lv_at hl 1 rfl) ?_
            refine hk_getr hx hb hts hC_5 hown hW (gx.S hM) tt_5 4 (by decide) rfl kw_266 ⟨rfl, rfl, rfl⟩ ((hM.o gx trivial rfl).2.trans f_x_4) dX5_settle_65 ?_
            refine lv_iload_n hx hb dX5_settle_68 rfl (lv_at hl 0 rfl) ?_
            refine lv_aload_n hx hb dX5_settle_69 rfl (lv_at hl 1 rfl) ?_
            refine hk_getr hx hb hts hC_5 hown hW (gx.S hM) tt_5 6 (by decide) rfl kw_269 ⟨rfl, rfl, rfl⟩ ((hM.o gx trivial rfl).2.trans f_x_6) dX5_settle_70 ?_
            refine lv_iload_n hx hb dX5_settle_73 rfl (lv_at hl 0 rfl) ?_
            refine hx_iald hx hb hW hT (gqre.S hM) tt_31 rfl ⟨by omega, by omega⟩ dX5_settle_74 (fun x_41 ex_41 lx_41 ux_41 => ?_)
            have ax_41 : x_41 = rsf iv44_1.toNatClampNeg := ex_41.trans (congrFun (hx_afS hM gqre rfl af_qre) _)
            have hrv9 : x_41.toInt = rr iv44_1.toInt.toNat := by rw [ax_41]; exact hr5 _ (by unfold Int32.toNatClampNeg; omega)
            refine lv_aload_n hx hb dX5_settle_75 rfl (lv_at hl 1 rfl) ?_
            refine hk_getr hx hb hts hC_5 hown hW (gx.S hM) tt_5 3 (by decide) rfl kw_264 ⟨rfl, rfl, rfl⟩ ((hM.o gx trivial rfl).2.trans f_x_3) dX5_settle_76 ?_
            refine lv_iload_n hx hb dX5_settle_79 rfl (lv_at hl 0 rfl) ?_
            refine hx_iald hx hb hW hT (gqwl.S hM) tt_28 rfl ⟨by omega, by omega⟩ dX5_settle_80 (fun x_42 ex_42 lx_42 ux_42 => ?_)
            have ax_42 : x_42 = w_34 iv44_1.toNatClampNeg := ex_42.trans (congrFun fw_34 _)
            have hwv9 : x_42.toInt = hp_w a un0.toInt (hp_B9 a rr un0.toInt M9 o0.toInt.toNat).2.2 iv44_1.toInt.toNat := by rw [ax_42]; exact hwk9 _ (by unfold Int32.toNatClampNeg; omega)
            refine hx_goi (hx_runSN (As := [.int x_41, .int x_42]) (rest := [.int iv44_1, .ref qws]) ⟨hx, hb, hml, hown, hts⟩ hW (t_X9_roundUp_v l dC dI dA hL1 h_39 H.size x_41 x_42 hT) ⟨va_cnB 2 hts (hx_gC kw_921) rfl rfl rfl (hZ.1 _ (List.mem_of_getElem? (i := 10) rfl)) (hts _ kw_94) (by decide +kernel) ⟨Nat.le_of_ble_eq_true rfl, Nat.le_of_ble_eq_true rfl⟩, hts _ kw_920, trivial⟩ rfl hl.1 rfl (Nat.le_of_ble_eq_true rfl) dX5_settle_81 ⟨Nat.le_of_ble_eq_true rfl, Nat.le_of_ble_eq_true rfl⟩) hW (fun r_45 L_43 h_44 H locs p_46 hW => ?_)
            obtain ⟨hr_47, hT, hs⟩ := p_46
            replace hT : hx_T T_tb L_43 h_44 := hT
            replace hs : hx_S T_tb [] hL1 h_39 L_43 h_44 := hs
            replace f_x_1 := (hs.o (gx.S hM) trivial rfl).1.trans f_x_1
            replace fw_32 := (hs.o (gx.S hM) trivial rfl).1.trans fw_32
            replace fw_33 := (hs.o (gx.S hM) trivial rfl).1.trans fw_33
            replace fw_34 : h_44.2.1 qwl = w_34 := (funext fun j => (hs.a (gqwl.S hM) rfl j).1).trans fw_34
            replace nia44_qws : h_44.2.1 qws = ia44_qws := (funext fun j => (hs.a (gqws.S hM) rfl j).1).trans nia44_qws
            replace nfa_40 : h_44.2.1 qcl = fa_40 := (funext fun j => (hs.a (gqcl.S hM) rfl j).1).trans nfa_40
            replace ex_38 := ex_38.trans (hs.a (gqop.S hM) rfl _).1.symm
            replace ex_41 := ex_41.trans (hs.a (gqre.S hM) rfl _).1.symm
            replace ex_42 := ex_42.trans (hs.a (gqwl.S hM) rfl _).1.symm
            replace hM := hM.tr (hs.mono (by decide))
            have hrw9 : r_45.toInt = hz_ru (rr iv44_1.toInt.toNat) (hp_w a un0.toInt (hp_B9 a rr un0.toInt M9 o0.toInt.toNat).2.2 iv44_1.toInt.toNat) := by rw [← hrv9, ← hwv9]; exact hr_47
            have nia44_qwsO := nia44_qws
            refine hx_iast hx hb hW hT (hx_S.rf (M := [(29, 0)])) (gqws.S hM) tt_29 rfl ⟨by omega, by omega⟩ rfl (i32_r _) (List.mem_singleton.mpr rfl) dX5_settle_84 (fun H locs h_48 eh_48 hW hT hs => ?_)
            replace f_x_1 := (hs.o (gx.S hM) trivial rfl).1.trans f_x_1
            replace fw_32 := (hs.o (gx.S hM) trivial rfl).1.trans fw_32
            replace fw_33 := (hs.o (gx.S hM) trivial rfl).1.trans fw_33
            replace fw_34 : h_48.2.1 qwl = w_34 := (funext fun j => (hs.a (gqwl.S hM) rfl j).1).trans fw_34
            replace nfa_40 : h_48.2.1 qcl = fa_40 := (funext fun j => (hs.a (gqcl.S hM) rfl j).1).trans nfa_40
            replace ex_38 := ex_38.trans (hs.a (gqop.S hM) rfl _).1.symm
            replace ex_41 := ex_41.trans (hs.a (gqre.S hM) rfl _).1.symm
            replace ex_42 := ex_42.trans (hs.a (gqwl.S hM) rfl _).1.symm
            replace hM := hM.tr (hs.mono (by decide))
            obtain ⟨fa_49, dfa_49⟩ : ∃ g : Nat → Int32, g = hx_up ia44_qws iv44_1.toNatClampNeg r_45 := ⟨_, rfl⟩
            have nfa_49 : h_48.2.1 qws = fa_49 := by rw [eh_48, dfa_49, ← nia44_qwsO]; exact hx_pi_fun _ _ _ _
            obtain ⟨x_50, ex_50⟩ : ∃ y : Int32, y = iv44_1 + Int32.ofInt 1 := ⟨_, rfl⟩
            have rg_51 := i32_r iv44_1
            have zx_50 : x_50.toInt = iv44_1.toInt + (1) := by rw [ex_50]; exact i32_add rfl (by decide) (by omega) (by omega)
            refine lv_iinc (v := x_50) (lv' := [(1, .int x_50), (0, .ref x)]) hx hb dX5_settle_85 hl (k := 0) rfl ex_50.symm (by decide) rfl (fun ls hl => ?_)
            refine lv_goto (tgt := 44) hx hb dX5_settle_88 (by decide) ?_
            exact ih44 x_50 fa_40 fa_49 _ _ L_43 h_48 (by omega) (by omega) (hz_rs_s vi44_0 (by omega) (by unfold Int32.toNatClampNeg; omega) hcv9 dfa_40 zx_50) (hz_rs_s vi44_1 (by omega) (by unfold Int32.toNatClampNeg; omega) hrw9 dfa_49 zx_50) (by omega) ls (by omega) hW hT hM f_x_1 fw_32 fw_33 nfa_40 nfa_49 fw_34 (lv_sub hl [0, 1] rfl)
      have zk_0 : (0 : Int32).toInt = 0 := by decide
      exact loop44 5 (0 : Int32) clf wsf _ _ L_27 h_28 (by decide) (by decide) (fun c9 hc9 => by exfalso; omega) (fun c9 hc9 => by exfalso; omega) (by omega) ls (by omega) hW hT hM f_x_1 fw_32 fw_33 af_qcl af_qws fw_34 hl
    · skip
      refine lv_bipush (v := -2) hx hb dX5_settle_19 (by decide) ?_
      exact hx_reti hx hb hr hlk hW ⟨⟨td0, clf, wkf, wsf, f_x_1, af_qcl, af_qwl, af_qws, (Or.inl ⟨by decide, ⟨by omega, by omega⟩, rfl, rfl, rfl, rfl⟩)⟩, hT, hM⟩ dX5_settle_21
