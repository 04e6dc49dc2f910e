
set_option maxHeartbeats 4000000 in
set_option maxRecDepth 100000 in
theorem t_X4_isKinOf_v (l : Launch) (dC : Nat → ClassId) (dI : Nat → Nat → Nat) (dA : Nat → ClassId) (L : List Nat) (h : hx_h) (sz : Nat) (x : Nat) (v1 : Nat) (hT : hx_T T_tb L h) (gx : hx_g L h x 4) (gv1 : hx_g L h v1 4) (qp : Nat) (gqp : hx_g L h qp 44) (np : Int)  (jx : Int32) (eo_x : h.2.2 qp jx.toNatClampNeg = some x) (ob_jx : 0 ≤ jx.toInt ∧ jx.toInt ≤ 39) (iv : Int32) (eo_v1 : h.2.2 qp iv.toNatClampNeg = some v1) (ob_iv : 0 ≤ iv.toInt ∧ iv.toInt ≤ 39)  (kf : Nat → Int32) (cl_qp_2 : hx_col 40 h qp 2 = kf) (nu_qp : hx_num 40 h qp 0 (np)) : Met l yX4_isKinOf (Cond.code yX4_isKinOf cX4_isKinOf 2 (some .boolean) :: hx_all) ({ frames := 0, cells := 0, slots := 0, locals := 0 }) (va_Pc [.ref x, .ref v1] (hx_B T_tb (P_ty dA) (dC, dI) vwCl L h sz)) (va_Qi (fun (r : Int32) (u : List Nat × hx_h) => ((r.toInt = 1 ∧ hv_ki kf jx.toNatClampNeg iv.toNatClampNeg = true) ∨ (r.toInt = 0 ∧ hv_ki kf jx.toNatClampNeg iv.toNatClampNeg = false)) ∧ hx_T T_tb u.1 u.2 ∧ hx_S T_tb [] L h u.1 u.2) (hx_E T_tb (P_ty dA) (dC, dI) vwCl (hx_A L sz)) (hx_A L sz)) 0 0 (hx_A L sz) := by
  refine hx_met (lv := [(0, .ref x), (1, .ref v1)]) (by decide +kernel) rfl (Nat.le_of_ble_eq_true rfl) rfl ?_
  intro p e s m below meth c hx hb hml hr hlk hts0 hown hin hsz hW ls hl
  have hts : ∀ w ∈ hx_all, w.before _ s = true := fun w hw => hts0 w (List.mem_cons_of_mem _ hw)
  have hown : s.vm.findClass "SmallCourt$Person" = some m.cls := hown
  have hM : hx_S T_tb [] L h L h := hx_S.rf
  refine lv_aload_n hx hb dX4_isKinOf_0 rfl (lv_at hl 0 rfl) ?_
  refine lv_aload_n hx hb dX4_isKinOf_1 rfl (lv_at hl 1 rfl) ?_
  refine lv_acmp_eq (rx := (some x)) (ry := (some v1)) (tgt := 24) hx hb dX4_isKinOf_2 (by decide) (fun c_1 => ?_) (fun c_1 => ?_)
  · skip
    refine lv_iconst (v := 1) hx hb dX4_isKinOf_24 (by decide) ?_
    refine lv_goto (tgt := 29) hx hb dX4_isKinOf_25 (by decide) ?_
    exact hx_retz hx hb hr rfl hlk hW ⟨(Or.inl ⟨by decide, hv_ki_t.mpr (Or.inl (by have h9 : x = v1 := Option.some.inj c_1; have h8 : h.2.2 qp iv.toNatClampNeg = some x := (by rw [h9]; exact eo_v1); exact hx_num_eq nu_qp (by unfold Int32.toNatClampNeg; omega) (by unfold Int32.toNatClampNeg; omega) eo_x h8))⟩), hT, hM⟩ dX4_isKinOf_29
  · skip
    refine lv_aload_n hx hb dX4_isKinOf_5 rfl (lv_at hl 0 rfl) ?_
    refine hx_geti hx hb hts hC_4 hown hW hT (gx.S hM) tt_4 2 (by decide) rfl kw_615 ⟨rfl, rfl, rfl⟩ dX4_isKinOf_6 (fun x_2 ex_2 lx_2 ux_2 => ?_)
    have fx_2 := ex_2.symm
    have cx_2 : x_2 = kf jx.toNatClampNeg := by rw [ex_2, ← cl_qp_2]; exact (hx_col_at eo_x (by unfold Int32.toNatClampNeg; omega)).symm
    refine lv_iconst (v := -1) hx hb dX4_isKinOf_9 (by decide) ?_
    refine hb_icmp_eq (zx := x_2.toInt) (zy := (-1)) (tgt := 28) hx hb rfl (by decide) dX4_isKinOf_10 (by decide) (fun c_3 => ?_) (fun c_3 => ?_)
    · skip
      refine lv_iconst (v := 0) hx hb dX4_isKinOf_28 (by decide) ?_
      exact hx_retz hx hb hr rfl hlk hW ⟨(Or.inr ⟨by decide, hv_ki_f (fun z => by rcases z with z | ⟨z1, z2⟩; (have h9 : h.2.2 qp iv.toNatClampNeg = some x := by rw [← z]; exact eo_x); (exact absurd (h9.symm.trans eo_v1) c_1); rw [← cx_2] at z1; omega)⟩), hT, hM⟩ dX4_isKinOf_29
    · skip
      refine lv_aload_n hx hb dX4_isKinOf_13 rfl (lv_at hl 0 rfl) ?_
      refine hk_geti hx hb hts hC_4 hown hW (gx.S hM) tt_4 2 (by decide) rfl kw_615 ⟨rfl, rfl, rfl⟩ fx_2 dX4_isKinOf_14 ?_
      refine lv_aload_n hx hb dX4_isKinOf_17 rfl (lv_at hl 1 rfl) ?_
      refine hx_geti hx hb hts hC_4 hown hW hT (gv1.S hM) tt_4 2 (by decide) rfl kw_615 ⟨rfl, rfl, rfl⟩ dX4_isKinOf_18 (fun x_4 ex_4 lx_4 ux_4 => ?_)
      have fx_4 := ex_4.symm
      have cx_4 : x_4 = kf iv.toNatClampNeg := by rw [ex_4, ← cl_qp_2]; exact (hx_col_at eo_v1 (by unfold Int32.toNatClampNeg; omega)).symm
      refine hb_icmp_ne (zx := x_2.toInt) (zy := x_4.toInt) (tgt := 28) hx hb rfl rfl dX4_isKinOf_21 (by decide) (fun c_5 => ?_) (fun c_5 => ?_)
      · skip
        refine lv_iconst (v := 0) hx hb dX4_isKinOf_28 (by decide) ?_
        exact hx_retz hx hb hr rfl hlk hW ⟨(Or.inr ⟨by decide, hv_ki_f (fun z => by rcases z with z | ⟨z1, z2⟩; (have h9 : h.2.2 qp iv.toNatClampNeg = some x := by rw [← z]; exact eo_x); (exact absurd (h9.symm.trans eo_v1) c_1); rw [← cx_2, ← cx_4] at z2; omega)⟩), hT, hM⟩ dX4_isKinOf_29
      · skip
        refine lv_iconst (v := 1) hx hb dX4_isKinOf_24 (by decide) ?_
        refine lv_goto (tgt := 29) hx hb dX4_isKinOf_25 (by decide) ?_
        exact hx_retz hx hb hr rfl hlk hW ⟨(Or.inl ⟨by decide, hv_ki_t.mpr (Or.inr ⟨by rw [← cx_2]; omega, by rw [← cx_2, ← cx_4]; omega⟩)⟩), hT, hM⟩ dX4_isKinOf_29


set_option maxHeartbeats 4000000 in
set_option maxRecDepth 100000 in
theorem t_X4_maySit_v (l : Launch) (dC : Nat → ClassId) (dI : Nat → Nat → Nat) (dA : Nat → ClassId) (L : List Nat) (h : hx_h) (sz : Nat) (x : Nat) (v1 : Nat) (hT : hx_T T_tb L h) (gx : hx_g L h x 4) (gv1 : hx_g L h v1 2) (qp : Nat) (gqp : hx_g L h qp 44) (qc : Nat) (gqc : hx_g L h qc 45) (np cn : Int)  (jx : Int32) (eo_x : h.2.2 qp jx.toNatClampNeg = some x) (ob_jx : 0 ≤ jx.toInt ∧ jx.toInt ≤ 39) (ic : Int32) (eo_v1 : h.2.2 qc ic.toNatClampNeg = some v1) (ob_ic : 0 ≤ ic.toInt ∧ ic.toInt ≤ 99)  (df : Nat → Int32) (cl_qp_7 : hx_col 40 h qp 7 = df) (jf : Nat → Int32) (cl_qp_8 : hx_col 40 h qp 8 = jf) (kf : Nat → Int32) (cl_qp_2 : hx_col 40 h qp 2 = kf) (nu_qp : hx_num 40 h qp 0 (np)) (agf byf : Nat → Int32) (hDF : hw_DF h qc qp 2 agf cn) (hDP : hw_DF h qc qp 1 byf cn) (hcn : ic.toInt < cn) : Met l yX4_maySit (Cond.code yX4_maySit cX4_maySit 2 (some .boolean) :: hx_all) ({ frames := 1, cells := 0, slots := 0, locals := 21 }) (va_Pc [.ref x, .ref v1] (hx_B T_tb (P_ty dA) (dC, dI) vwCl L h sz)) (va_Qi (fun (r : Int32) (u : List Nat × hx_h) => ((r.toInt = 1 ∧ hv_ft jf df kf (byf ic.toNatClampNeg).toNatClampNeg (agf ic.toNatClampNeg).toNatClampNeg jx.toNatClampNeg = true) ∨ (r.toInt = 0 ∧ hv_ft jf df kf (byf ic.toNatClampNeg).toNatClampNeg (agf ic.toNatClampNeg).toNatClampNeg jx.toNatClampNeg = false)) ∧ hx_T T_tb u.1 u.2 ∧ hx_S T_tb [] L h u.1 u.2) (hx_E T_tb (P_ty dA) (dC, dI) vwCl (hx_A L sz)) (hx_A L sz)) 0 0 (hx_A L sz) := by
  refine hx_met (lv := [(0, .ref x), (1, .ref v1)]) (by decide +kernel) rfl (Nat.le_of_ble_eq_true rfl) rfl ?_
  intro p e s m below meth c hx hb hml hr hlk hts0 hown hin hsz hW ls hl
  have hts : ∀ w ∈ hx_all, w.before _ s = true := fun w hw => hts0 w (List.mem_cons_of_mem _ hw)
  have hown : s.vm.findClass "SmallCourt$Person" = some m.cls := hown
  have hM : hx_S T_tb [] L h L h := hx_S.rf
  refine lv_aload_n hx hb dX4_maySit_0 rfl (lv_at hl 0 rfl) ?_
  refine hx_geti hx hb hts hC_4 hown hW hT gx tt_4 8 (by decide) rfl kw_624 ⟨rfl, rfl, rfl⟩ dX4_maySit_1 (fun x_1 ex_1 lx_1 ux_1 => ?_)
  have fx_1 := ex_1.symm
  have cx_1 : x_1 = jf jx.toNatClampNeg := by rw [ex_1, ← cl_qp_8]; exact (hx_col_at eo_x (by unfold Int32.toNatClampNeg; omega)).symm
  refine hb_if_eq (zx := x_1.toInt) (tgt := 40) hx hb rfl dX4_maySit_4 (by decide) (fun c_2 => ?_) (fun c_2 => ?_)
  · skip
    refine lv_iconst (v := 0) hx hb dX4_maySit_40 (by decide) ?_
    exact hx_retz hx hb hr rfl hlk hW ⟨(Or.inr ⟨by decide, hv_ft_f (fun z => by exact z.1 ((congrArg Int32.toInt cx_1).symm.trans (by omega)))⟩), hT, hM⟩ dX4_maySit_41
  · skip
    refine lv_aload_n hx hb dX4_maySit_7 rfl (lv_at hl 0 rfl) ?_
    refine hx_geti hx hb hts hC_4 hown hW hT gx tt_4 7 (by decide) rfl kw_622 ⟨rfl, rfl, rfl⟩ dX4_maySit_8 (fun x_3 ex_3 lx_3 ux_3 => ?_)
    have fx_3 := ex_3.symm
    have cx_3 : x_3 = df jx.toNatClampNeg := by rw [ex_3, ← cl_qp_7]; exact (hx_col_at eo_x (by unfold Int32.toNatClampNeg; omega)).symm
    refine hb_if_ne (zx := x_3.toInt) (tgt := 40) hx hb rfl dX4_maySit_11 (by decide) (fun c_4 => ?_) (fun c_4 => ?_)
    · skip
      refine lv_iconst (v := 0) hx hb dX4_maySit_40 (by decide) ?_
      exact hx_retz hx hb hr rfl hlk hW ⟨(Or.inr ⟨by decide, hv_ft_f (fun z => by have h9 : x_3.toInt = 0 := (congrArg Int32.toInt cx_3).trans z.2.1; omega)⟩), hT, hM⟩ dX4_maySit_41
    · skip
      refine lv_aload_n hx hb dX4_maySit_14 rfl (lv_at hl 0 rfl) ?_
      refine lv_aload_n hx hb dX4_maySit_15 rfl (lv_at hl 1 rfl) ?_
      refine hx_getn hx hb hts hC_2 hown hW hT (gv1.S hM) tt_2 1 (by decide) rfl kw_726 ⟨rfl, rfl, rfl⟩ dX4_maySit_16 (fun q_5 fq_5 gq_5 => ?_)
      obtain ⟨dAq_5, dBq_5, dCq_5⟩ := hDP ic.toNatClampNeg (by unfold Int32.toNatClampNeg; omega) (by unfold Int32.toNatClampNeg; omega) _ _ eo_v1 fq_5
      have dAq_5 : 0 ≤ (byf ic.toNatClampNeg).toInt := dAq_5
      have dBq_5 : (byf ic.toNatClampNeg).toInt < 40 := dBq_5
      have dUq_5 : 0 ≤ (byf ic.toInt.toNat).toInt ∧ (byf ic.toInt.toNat).toInt < 40 := ⟨dAq_5, dBq_5⟩
      have eoq_5 : h.2.2 qp (byf ic.toNatClampNeg).toNatClampNeg = some q_5 := dCq_5
      have hTo := hT
      refine hx_goi (hx_runV (As := [.ref q_5]) (rest := []) ⟨hx, hb, hml, hown, hts⟩ hW gx tt_4 (T := TX4) (N := 10) rfl (t_X4_isKinOf_v l dC dI dA L h s.heap.size x q_5 hT gx gq_5 qp gqp (np) jx eo_x ⟨by omega, by omega⟩ (byf ic.toNatClampNeg) eoq_5 ⟨by omega, by omega⟩ kf cl_qp_2 nu_qp) (cwV 1 hts (hx_gV kw_826 kw_823 kw_825 kw_27 kw_108) rfl rfl rfl (by decide +kernel) ⟨Nat.le_of_ble_eq_true rfl, Nat.le_of_ble_eq_true rfl⟩) rfl hl.1 rfl (Nat.le_of_ble_eq_true rfl) dX4_maySit_19 ⟨Nat.le_of_ble_eq_true rfl, Nat.le_of_ble_eq_true rfl⟩) hW (fun r_8 L_6 h_7 H locs p_9 hW => ?_)
      obtain ⟨hr_10, hT, hs⟩ := p_9
      replace hT : hx_T T_tb L_6 h_7 := hT
      replace hs : hx_S T_tb [] L h L_6 h_7 := hs
      replace fx_1 := (hs.o gx trivial rfl).1.trans fx_1
      replace fx_3 := (hs.o gx trivial rfl).1.trans fx_3
      replace fq_5 := (hs.o (gv1.S hM) trivial rfl).2.trans fq_5
      replace cl_qp_7 : hx_col 40 h_7 qp 7 = df := (hx_col_S hs hTo gqp tt_44 tt_4 rfl rfl).trans cl_qp_7
      replace cl_qp_8 : hx_col 40 h_7 qp 8 = jf := (hx_col_S hs hTo gqp tt_44 tt_4 rfl rfl).trans cl_qp_8
      replace cl_qp_2 : hx_col 40 h_7 qp 2 = kf := (hx_col_S hs hTo gqp tt_44 tt_4 rfl rfl).trans cl_qp_2
      replace nu_qp : hx_num 40 h_7 qp 0 (np) := hx_num_S hs hTo gqp tt_44 tt_4 rfl rfl nu_qp
      replace hDF : hw_DF h_7 qc qp 2 agf cn := hw_DF_S hs hTo gqc gqp tt_45 tt_2 rfl rfl rfl hDF
      replace hDP : hw_DF h_7 qc qp 1 byf cn := hw_DF_S hs hTo gqc gqp tt_45 tt_2 rfl rfl rfl hDP
      replace eo_x := (hs.a gqp rfl _).2.trans eo_x
      replace eo_v1 := (hs.a gqc rfl _).2.trans eo_v1
      replace eoq_5 := (hs.a gqp rfl _).2.trans eoq_5
      replace hM := hM.tr (hs.mono (by decide))
      replace gx := gx.S hs
      replace gqp := gqp.S hs
      replace gqc := gqc.S hs
      replace gq_5 := gq_5.S hs
      refine hb_if_ne (zx := r_8.toInt) (tgt := 40) hx hb rfl dX4_maySit_22 (by decide) (fun c_11 => ?_) (fun c_11 => ?_)
      · skip
        refine lv_iconst (v := 0) hx hb dX4_maySit_40 (by decide) ?_
        exact hx_retz hx hb hr rfl hlk hW ⟨(Or.inr ⟨by decide, hv_ft_f (fun z => by exact absurd (z.2.2.1.symm.trans (by rcases hr_10 with z | z; exact z.2; exfalso; omega)) (by decide))⟩), hT, hM⟩ dX4_maySit_41
      · skip
        refine lv_aload_n hx hb dX4_maySit_25 rfl (lv_at hl 0 rfl) ?_
        refine lv_aload_n hx hb dX4_maySit_26 rfl (lv_at hl 1 rfl) ?_
        refine hx_getn hx hb hts hC_2 hown hW hT (gv1.S hM) tt_2 2 (by decide) rfl kw_730 ⟨rfl, rfl, rfl⟩ dX4_maySit_27 (fun q_12 fq_12 gq_12 => ?_)
        obtain ⟨dAq_12, dBq_12, dCq_12⟩ := hDF ic.toNatClampNeg (by unfold Int32.toNatClampNeg; omega) (by unfold Int32.toNatClampNeg; omega) _ _ eo_v1 fq_12
        have dAq_12 : 0 ≤ (agf ic.toNatClampNeg).toInt := dAq_12
        have dBq_12 : (agf ic.toNatClampNeg).toInt < 40 := dBq_12
        have dUq_12 : 0 ≤ (agf ic.toInt.toNat).toInt ∧ (agf ic.toInt.toNat).toInt < 40 := ⟨dAq_12, dBq_12⟩
        have eoq_12 : h_7.2.2 qp (agf ic.toNatClampNeg).toNatClampNeg = some q_12 := dCq_12
        have hTo := hT
        refine hx_goi (hx_runV (As := [.ref q_12]) (rest := []) ⟨hx, hb, hml, hown, hts⟩ hW gx tt_4 (T := TX4) (N := 10) rfl (t_X4_isKinOf_v l dC dI dA L_6 h_7 H.size x q_12 hT gx gq_12 qp gqp (np) jx eo_x ⟨by omega, by omega⟩ (agf ic.toNatClampNeg) eoq_12 ⟨by omega, by omega⟩ kf cl_qp_2 nu_qp) (cwV 1 hts (hx_gV kw_826 kw_823 kw_825 kw_27 kw_108) rfl rfl rfl (by decide +kernel) ⟨Nat.le_of_ble_eq_true rfl, Nat.le_of_ble_eq_true rfl⟩) rfl hl.1 rfl (Nat.le_of_ble_eq_true rfl) dX4_maySit_30 ⟨Nat.le_of_ble_eq_true rfl, Nat.le_of_ble_eq_true rfl⟩) hW (fun r_15 L_13 h_14 H locs p_16 hW => ?_)
        obtain ⟨hr_17, hT, hs⟩ := p_16
        replace hT : hx_T T_tb L_13 h_14 := hT
        replace hs : hx_S T_tb [] L_6 h_7 L_13 h_14 := hs
        replace fx_1 := (hs.o gx trivial rfl).1.trans fx_1
        replace fx_3 := (hs.o gx trivial rfl).1.trans fx_3
        replace fq_5 := (hs.o (gv1.S hM) trivial rfl).2.trans fq_5
        replace fq_12 := (hs.o (gv1.S hM) trivial rfl).2.trans fq_12
        replace cl_qp_7 : hx_col 40 h_14 qp 7 = df := (hx_col_S hs hTo gqp tt_44 tt_4 rfl rfl).trans cl_qp_7
        replace cl_qp_8 : hx_col 40 h_14 qp 8 = jf := (hx_col_S hs hTo gqp tt_44 tt_4 rfl rfl).trans cl_qp_8
        replace cl_qp_2 : hx_col 40 h_14 qp 2 = kf := (hx_col_S hs hTo gqp tt_44 tt_4 rfl rfl).trans cl_qp_2
        replace nu_qp : hx_num 40 h_14 qp 0 (np) := hx_num_S hs hTo gqp tt_44 tt_4 rfl rfl nu_qp
        replace hDF : hw_DF h_14 qc qp 2 agf cn := hw_DF_S hs hTo gqc gqp tt_45 tt_2 rfl rfl rfl hDF
        replace hDP : hw_DF h_14 qc qp 1 byf cn := hw_DF_S hs hTo gqc gqp tt_45 tt_2 rfl rfl rfl hDP
        replace eo_x := (hs.a gqp rfl _).2.trans eo_x
        replace eo_v1 := (hs.a gqc rfl _).2.trans eo_v1
        replace eoq_5 := (hs.a gqp rfl _).2.trans eoq_5
        replace eoq_12 := (hs.a gqp rfl _).2.trans eoq_12
        replace hM := hM.tr (hs.mono (by decide))
        replace gx := gx.S hs
        replace gqp := gqp.S hs
        replace gqc := gqc.S hs
        replace gq_5 := gq_5.S hs
        replace gq_12 := gq_12.S hs
        refine hb_if_ne (zx := r_15.toInt) (tgt := 40) hx hb rfl dX4_maySit_33 (by decide) (fun c_18 => ?_) (fun c_18 => ?_)
        · skip
          refine lv_iconst (v := 0) hx hb dX4_maySit_40 (by decide) ?_
          exact hx_retz hx hb hr rfl hlk hW ⟨(Or.inr ⟨by decide, hv_ft_f (fun z => by exact absurd (z.2.2.2.symm.trans (by rcases hr_17 with z | z; exact z.2; exfalso; omega)) (by decide))⟩), hT, hM⟩ dX4_maySit_41
        · skip
          refine lv_iconst (v := 1) hx hb dX4_maySit_36 (by decide) ?_
          refine lv_goto (tgt := 41) hx hb dX4_maySit_37 (by decide) ?_
          exact hx_retz hx hb hr rfl hlk hW ⟨(Or.inl ⟨by decide, hv_ft_t.mpr ⟨(fun z9 => by have h9 : x_1.toInt = 0 := (congrArg Int32.toInt cx_1).trans z9; omega), ((congrArg Int32.toInt cx_3).symm.trans (by omega)), (by rcases hr_10 with z | z; (exfalso; omega); exact z.2), (by rcases hr_17 with z | z; (exfalso; omega); exact z.2)⟩⟩), hT, hM⟩ dX4_maySit_41


set_option maxHeartbeats 4000000 in
set_option maxRecDepth 100000 in
theorem t_X10_isKinOf_v (l : Launch) (dC : Nat → ClassId) (dI : Nat → Nat → Nat) (dA : Nat → ClassId) (L : List Nat) (h : hx_h) (sz : Nat) (x : Nat) (i1 : Int32) (i2 : Int32) (hT : hx_T T_tb L h) (gx : hx_g L h x 10) (qk : Nat) (gqk : hx_g L h qk 63) (f_x_26 : h.2.2 x 26 = some qk) (kf : Nat → Int32) (af_qk : h.2.1 qk = kf) (hi1 : 0 ≤ i1.toInt ∧ i1.toInt ≤ 39) (hi2 : 0 ≤ i2.toInt ∧ i2.toInt ≤ 39) : Met l yX10_isKinOf (Cond.code yX10_isKinOf cX10_isKinOf 3 (some .boolean) :: hx_all) ({ frames := 0, cells := 0, slots := 0, locals := 0 }) (va_Pc [.ref x, .int i1, .int i2] (hx_B T_tb (P_ty dA) (dC, dI) vwCl L h sz)) (va_Qi (fun (r : Int32) (u : List Nat × hx_h) => ((r.toInt = 1 ∧ hv_ki kf i1.toNatClampNeg i2.toNatClampNeg = true) ∨ (r.toInt = 0 ∧ hv_ki kf i1.toNatClampNeg i2.toNatClampNeg = false)) ∧ hx_T T_tb u.1 u.2 ∧ hx_S T_tb [] L h u.1 u.2) (hx_E T_tb (P_ty dA) (dC, dI) vwCl (hx_A L sz)) (hx_A L sz)) 0 0 (hx_A L sz) := by
  refine hx_met (lv := [(0, .ref x), (1, .int i1), (2, .int i2)]) (by decide +kernel) rfl (Nat.le_of_ble_eq_true rfl) rfl ?_
  intro p e s m below meth c hx hb hml hr hlk hts0 hown hin hsz hW ls hl
  have hts : ∀ w ∈ hx_all, w.before _ s = true := fun w hw => hts0 w (List.mem_cons_of_mem _ hw)
  have hown : s.vm.findClass "SmallCourtModel" = some m.cls := hown
  have hM : hx_S T_tb [] L h L h := hx_S.rf
  refine lv_iload_n hx hb dX10_isKinOf_0 rfl (lv_at hl 1 rfl) ?_
  refine lv_iload_n hx hb dX10_isKinOf_1 rfl (lv_at hl 2 rfl) ?_
  refine hb_icmp_eq (zx := i1.toInt) (zy := i2.toInt) (tgt := 29) hx hb rfl rfl dX10_isKinOf_2 (by decide) (fun c_1 => ?_) (fun c_1 => ?_)
  · skip
    refine lv_iconst (v := 1) hx hb dX10_isKinOf_29 (by decide) ?_
    refine lv_goto (tgt := 34) hx hb dX10_isKinOf_30 (by decide) ?_
    exact hx_retz hx hb hr rfl hlk hW ⟨(Or.inl ⟨by decide, hv_ki_t.mpr (Or.inl (by unfold Int32.toNatClampNeg; omega))⟩), hT, hM⟩ dX10_isKinOf_34
  · skip
    refine lv_aload_n hx hb dX10_isKinOf_5 rfl (lv_at hl 0 rfl) ?_
    refine hk_getr hx hb hts hC_10 hown hW (gx.S hM) tt_10 26 (by decide) rfl kw_1169 ⟨rfl, rfl, rfl⟩ ((hM.o gx trivial rfl).2.trans f_x_26) dX10_isKinOf_6 ?_
    refine lv_iload_n hx hb dX10_isKinOf_9 rfl (lv_at hl 1 rfl) ?_
    refine hx_iald hx hb hW hT (gqk.S hM) tt_63 rfl ⟨by omega, by omega⟩ dX10_isKinOf_10 (fun x_2 ex_2 lx_2 ux_2 => ?_)
    have ax_2 : x_2 = kf i1.toNatClampNeg := ex_2.trans (congrFun (hx_afS hM gqk rfl af_qk) _)
    refine hb_if_lt (zx := x_2.toInt) (tgt := 33) hx hb rfl dX10_isKinOf_11 (by decide) (fun c_3 => ?_) (fun c_3 => ?_)
    · skip
      refine lv_iconst (v := 0) hx hb dX10_isKinOf_33 (by decide) ?_
      exact hx_retz hx hb hr rfl hlk hW ⟨(Or.inr ⟨by decide, hv_ki_f (fun z => by rcases z with z | ⟨z1, z2⟩; (unfold Int32.toNatClampNeg at z; omega); rw [← ax_2] at z1; omega)⟩), hT, hM⟩ dX10_isKinOf_34
    · skip
      refine lv_aload_n hx hb dX10_isKinOf_14 rfl (lv_at hl 0 rfl) ?_
      refine hk_getr hx hb hts hC_10 hown hW (gx.S hM) tt_10 26 (by decide) rfl kw_1169 ⟨rfl, rfl, rfl⟩ ((hM.o gx trivial rfl).2.trans f_x_26) dX10_isKinOf_15 ?_
      refine lv_iload_n hx hb dX10_isKinOf_18 rfl (lv_at hl 1 rfl) ?_
      refine hx_iald hx hb hW hT (gqk.S hM) tt_63 rfl ⟨by omega, by omega⟩ dX10_isKinOf_19 (fun x_4 ex_4 lx_4 ux_4 => ?_)
      have ax_4 : x_4 = kf i1.toNatClampNeg := ex_4.trans (congrFun (hx_afS hM gqk rfl af_qk) _)
      obtain rfl : x_2 = x_4 := ex_2.trans ex_4.symm
      refine lv_aload_n hx hb dX10_isKinOf_20 rfl (lv_at hl 0 rfl) ?_
      refine hk_getr hx hb hts hC_10 hown hW (gx.S hM) tt_10 26 (by decide) rfl kw_1169 ⟨rfl, rfl, rfl⟩ ((hM.o gx trivial rfl).2.trans f_x_26) dX10_isKinOf_21 ?_
      refine lv_iload_n hx hb dX10_isKinOf_24 rfl (lv_at hl 2 rfl) ?_
      refine hx_iald hx hb hW hT (gqk.S hM) tt_63 rfl ⟨by omega, by omega⟩ dX10_isKinOf_25 (fun x_5 ex_5 lx_5 ux_5 => ?_)
      have ax_5 : x_5 = kf i2.toNatClampNeg := ex_5.trans (congrFun (hx_afS hM gqk rfl af_qk) _)
      refine hb_icmp_ne (zx := x_2.toInt) (zy := x_5.toInt) (tgt := 33) hx hb rfl rfl dX10_isKinOf_26 (by decide) (fun c_6 => ?_) (fun c_6 => ?_)
      · skip
        refine lv_iconst (v := 0) hx hb dX10_isKinOf_33 (by decide) ?_
        exact hx_retz hx hb hr rfl hlk hW ⟨(Or.inr ⟨by decide, hv_ki_f (fun z => by rcases z with z | ⟨z1, z2⟩; (unfold Int32.toNatClampNeg at z; omega); rw [← ax_2, ← ax_5] at z2; omega)⟩), hT, hM⟩ dX10_isKinOf_34
      · skip
        refine lv_iconst (v := 1) hx hb dX10_isKinOf_29 (by decide) ?_
        refine lv_goto (tgt := 34) hx hb dX10_isKinOf_30 (by decide) ?_
        exact hx_retz hx hb hr rfl hlk hW ⟨(Or.inl ⟨by decide, hv_ki_t.mpr (Or.inr ⟨by rw [← ax_2]; omega, by rw [← ax_2, ← ax_5]; omega⟩)⟩), hT, hM⟩ dX10_isKinOf_34


set_option maxHeartbeats 4000000 in
set_option maxRecDepth 100000 in
theorem t_X10_sits_v (l : Launch) (dC : Nat → ClassId) (dI : Nat → Nat → Nat) (dA : Nat → ClassId) (L : List Nat) (h : hx_h) (sz : Nat) (x : Nat) (i1 : Int32) (hT : hx_T T_tb L h) (gx : hx_g L h x 10) (qj : Nat) (gqj : hx_g L h qj 65) (f_x_28 : h.2.2 x 28 = some qj) (qd : Nat) (gqd : hx_g L h qd 64) (f_x_27 : h.2.2 x 27 = some qd) (qk : Nat) (gqk : hx_g L h qk 63) (f_x_26 : h.2.2 x 26 = some qk) (qb : Nat) (gqb : hx_g L h qb 72) (f_x_37 : h.2.2 x 37 = some qb) (qa : Nat) (gqa : hx_g L h qa 73) (f_x_38 : h.2.2 x 38 = some qa) (qs : Nat) (gqs : hx_g L h qs 98) (f_x_65 : h.2.2 x 65 = some qs) (jf : Nat → Int32) (af_qj : h.2.1 qj = jf) (df : Nat → Int32) (af_qd : h.2.1 qd = df) (kf : Nat → Int32) (af_qk : h.2.1 qk = kf) (bf : Nat → Int32) (af_qb : h.2.1 qb = bf) (agf : Nat → Int32) (af_qa : h.2.1 qa = agf) (sf : Nat → Int32) (af_qs : h.2.1 qs = sf) (pn0 : Int32) (f_x_20 : h.2.1 x 20 = pn0) (hi1 : 0 ≤ i1.toInt ∧ i1.toInt ≤ 99) : Met l yX10_sits (Cond.code yX10_sits cX10_sits 4 (some .int) :: hx_all) ({ frames := 1, cells := 0, slots := 0, locals := 22 }) (va_Pc [.ref x, .int i1] (hx_B T_tb (P_ty dA) (dC, dI) vwCl L h sz)) (va_Qi (fun (r : Int32) (u : List Nat × hx_h) => (∃ (sf1 : Nat → Int32), u.2.2.1 qs = sf1 ∧ (r.toInt = ((hv_fs jf df kf (bf i1.toNatClampNeg).toNatClampNeg (agf i1.toNatClampNeg).toNatClampNeg pn0.toInt.toNat).length : Int) ∧ hv_fl sf1 (hv_fs jf df kf (bf i1.toNatClampNeg).toNatClampNeg (agf i1.toNatClampNeg).toNatClampNeg pn0.toInt.toNat))) ∧ hx_T T_tb u.1 u.2 ∧ hx_S T_tb [(98, 0)] L h u.1 u.2) (hx_E T_tb (P_ty dA) (dC, dI) vwCl (hx_A L sz)) (hx_A L sz)) 0 0 (hx_A L sz) := by
  refine hx_met (lv := [(0, .ref x), (1, .int i1)]) (by decide +kernel) rfl (Nat.le_of_ble_eq_true rfl) rfl ?_
  intro p e s m below meth c hx hb hml hr hlk hts0 hown hin hsz hW ls hl
  have hts : ∀ w ∈ hx_all, w.before _ s = true := fun w hw => hts0 w (List.mem_cons_of_mem _ hw)
  have hown : s.vm.findClass "SmallCourtModel" = some m.cls := hown
  have hM : hx_S T_tb [(98, 0)] L h L h := hx_S.rf
  have b_pn0 := hT.gi gx tt_10 (k := 20) rfl
  rw [f_x_20] at b_pn0
  have b_pn0 : 0 ≤ pn0.toInt ∧ pn0.toInt ≤ 40 := b_pn0
  refine lv_iconst (v := 0) hx hb dX10_sits_0 (by decide) ?_
  refine lv_istore_n (lv' := [(2, .int (0 : Int32)), (0, .ref x), (1, .int i1)]) hx hb dX10_sits_1 rfl hl (by decide) rfl (fun ls hl => ?_)
  refine lv_iconst (v := 0) hx hb dX10_sits_2 (by decide) ?_
  refine lv_istore_n (lv' := [(3, .int (0 : Int32)), (2, .int (0 : Int32)), (0, .ref x), (1, .int i1)]) hx hb dX10_sits_3 rfl hl (by decide) rfl (fun ls hl => ?_)
  have loop4 : ∀ (n4 : Nat) (iv4_2 iv4_3 : Int32) (ia4_qs : Nat → Int32) (H : Heap) (locs : List Loc) (hL1 : List Nat) (hl1 : hx_h), 0 ≤ iv4_2.toInt → iv4_2.toInt ≤ 40 → 0 ≤ iv4_3.toInt → iv4_3.toInt ≤ 40 → (hv_fl ia4_qs (hv_fs jf df kf (bf i1.toNatClampNeg).toNatClampNeg (agf i1.toNatClampNeg).toNatClampNeg (iv4_3.toInt).toNat) ∧ iv4_2.toInt = ((hv_fs jf df kf (bf i1.toNatClampNeg).toNatClampNeg (agf i1.toNatClampNeg).toNatClampNeg (iv4_3.toInt).toNat).length : Int)) → (iv4_2.toInt ≤ iv4_3.toInt) → (iv4_3.toInt ≤ pn0.toInt) → ∀ (ls : Array Slot), 40 - iv4_3.toInt < (n4 : Int) → hx_W T_tb (P_ty dA) (dC, dI) vwCl (hx_A L sz) s.heap hL1 hl1 s H locs → hx_T T_tb hL1 hl1 → hx_S T_tb [(98, 0)] L h hL1 hl1 → hl1.2.1 qs = ia4_qs → lv_has ls 4 [(3, .int iv4_3), (2, .int iv4_2), (0, .ref x), (1, .int i1)] → W p l e ({ frames := 1, cells := 0, slots := 0, locals := 22 }) s m ([.ref x, .int i1] : List Value).toArray below meth c H locs 0 0 (MQ below (va_Qi (fun (r : Int32) (u : List Nat × hx_h) => (∃ (sf1 : Nat → Int32), u.2.2.1 qs = sf1 ∧ (r.toInt = ((hv_fs jf df kf (bf i1.toNatClampNeg).toNatClampNeg (agf i1.toNatClampNeg).toNatClampNeg pn0.toInt.toNat).length : Int) ∧ hv_fl sf1 (hv_fs jf df kf (bf i1.toNatClampNeg).toNatClampNeg (agf i1.toNatClampNeg).toNatClampNeg pn0.toInt.toNat))) ∧ hx_T T_tb u.1 u.2 ∧ hx_S T_tb [(98, 0)] L h u.1 u.2) (hx_E T_tb (P_ty dA) (dC, dI) vwCl (hx_A L sz)) (hx_A L sz)) ([.ref x, .int i1] : List Value).toArray s 0 0 (hx_A L sz)) (F0 m 4 ls []) := by
    intro n4
    induction n4 with
    | zero => intro iv4_2 iv4_3 ia4_qs H locs hL1 hl1 bliv4_2 buiv4_2 bliv4_3 buiv4_3 vi4_0 vi4_1 vi4_2 ls hn4; exfalso; omega
    | succ n4 ih4 =>
      intro iv4_2 iv4_3 ia4_qs H locs hL1 hl1 bliv4_2 buiv4_2 bliv4_3 buiv4_3 vi4_0 vi4_1 vi4_2 ls hn4 hW hT hM  nia4_qs hl
      refine lv_iload_n hx hb dX10_sits_4 rfl (lv_at hl 0 rfl) ?_
      refine lv_aload_n hx hb dX10_sits_5 rfl (lv_at hl 2 rfl) ?_
      refine hk_geti hx hb hts hC_10 hown hW (gx.S hM) tt_10 20 (by decide) rfl kw_1163 ⟨rfl, rfl, rfl⟩ ((hM.o gx trivial rfl).1.trans f_x_20) dX10_sits_6 ?_
      refine hb_icmp_ge (zx := iv4_3.toInt) (zy := pn0.toInt) (tgt := 77) hx hb rfl rfl dX10_sits_9 (by decide) (fun c_1 => ?_) (fun c_1 => ?_)
      · skip
        refine lv_iload_n hx hb dX10_sits_77 rfl (lv_at hl 1 rfl) ?_
        exact hx_reti hx hb hr hlk hW ⟨⟨ia4_qs, nia4_qs, (by have h8 := vi4_0; rw [show iv4_3.toInt.toNat = pn0.toInt.toNat by omega] at h8; exact ⟨h8.2, h8.1⟩)⟩, hT, hM⟩ dX10_sits_78
      · skip
        refine lv_aload_n hx hb dX10_sits_12 rfl (lv_at hl 2 rfl) ?_
        refine hk_getr hx hb hts hC_10 hown hW (gx.S hM) tt_10 28 (by decide) rfl kw_1171 ⟨rfl, rfl, rfl⟩ ((hM.o gx trivial rfl).2.trans f_x_28) dX10_sits_13 ?_
        refine lv_iload_n hx hb dX10_sits_16 rfl (lv_at hl 0 rfl) ?_
        refine hx_zald hx hb hW hT (gqj.S hM) tt_65 rfl ⟨by omega, by omega⟩ dX10_sits_17 (fun x_2 ex_2 lx_2 ux_2 => ?_)
        have ax_2 : x_2 = jf iv4_3.toNatClampNeg := ex_2.trans (congrFun (hx_afS hM gqj rfl af_qj) _)
        refine hb_if_eq (zx := x_2.toInt) (tgt := 71) hx hb rfl dX10_sits_18 (by decide) (fun c_3 => ?_) (fun c_3 => ?_)
        · skip
          obtain ⟨x_4, ex_4⟩ : ∃ y : Int32, y = iv4_3 + Int32.ofInt 1 := ⟨_, rfl⟩
          have rg_5 := i32_r iv4_3
          have zx_4 : x_4.toInt = iv4_3.toInt + (1) := by rw [ex_4]; exact i32_add rfl (by decide) (by omega) (by omega)
          refine lv_iinc (v := x_4) (lv' := [(3, .int x_4), (2, .int iv4_2), (0, .ref x), (1, .int i1)]) hx hb dX10_sits_71 hl (k := 0) rfl ex_4.symm (by decide) rfl (fun ls hl => ?_)
          refine lv_goto (tgt := 4) hx hb dX10_sits_74 (by decide) ?_
          exact ih4 iv4_2 x_4 ia4_qs _ _ hL1 hl1 (by omega) (by omega) (by omega) (by omega) (hv_fs_n vi4_0 (hv_ft_f (fun z => by exact z.1 ((congrArg Int32.toInt ax_2).symm.trans (by omega)))) (by omega) zx_4) (by omega) (by omega) ls (by omega) hW hT hM  nia4_qs (lv_sub hl [0, 1, 2, 3] rfl)
        · skip
          refine lv_aload_n hx hb dX10_sits_21 rfl (lv_at hl 2 rfl) ?_
          refine hk_getr hx hb hts hC_10 hown hW (gx.S hM) tt_10 27 (by decide) rfl kw_1170 ⟨rfl, rfl, rfl⟩ ((hM.o gx trivial rfl).2.trans f_x_27) dX10_sits_22 ?_
          refine lv_iload_n hx hb dX10_sits_25 rfl (lv_at hl 0 rfl) ?_
          refine hx_zald hx hb hW hT (gqd.S hM) tt_64 rfl ⟨by omega, by omega⟩ dX10_sits_26 (fun x_6 ex_6 lx_6 ux_6 => ?_)
          have ax_6 : x_6 = df iv4_3.toNatClampNeg := ex_6.trans (congrFun (hx_afS hM gqd rfl af_qd) _)
          refine hb_if_ne (zx := x_6.toInt) (tgt := 71) hx hb rfl dX10_sits_27 (by decide) (fun c_7 => ?_) (fun c_7 => ?_)
          · skip
            obtain ⟨x_8, ex_8⟩ : ∃ y : Int32, y = iv4_3 + Int32.ofInt 1 := ⟨_, rfl⟩
            have rg_9 := i32_r iv4_3
            have zx_8 : x_8.toInt = iv4_3.toInt + (1) := by rw [ex_8]; exact i32_add rfl (by decide) (by omega) (by omega)
            refine lv_iinc (v := x_8) (lv' := [(3, .int x_8), (2, .int iv4_2), (0, .ref x), (1, .int i1)]) hx hb dX10_sits_71 hl (k := 0) rfl ex_8.symm (by decide) rfl (fun ls hl => ?_)
            refine lv_goto (tgt := 4) hx hb dX10_sits_74 (by decide) ?_
            exact ih4 iv4_2 x_8 ia4_qs _ _ hL1 hl1 (by omega) (by omega) (by omega) (by omega) (hv_fs_n vi4_0 (hv_ft_f (fun z => by have h9 : x_6.toInt = 0 := (congrArg Int32.toInt ax_6).trans z.2.1; omega)) (by omega) zx_8) (by omega) (by omega) ls (by omega) hW hT hM  nia4_qs (lv_sub hl [0, 1, 2, 3] rfl)
          · skip
            refine lv_aload_n hx hb dX10_sits_30 rfl (lv_at hl 2 rfl) ?_
            refine lv_iload_n hx hb dX10_sits_31 rfl (lv_at hl 0 rfl) ?_
            refine lv_aload_n hx hb dX10_sits_32 rfl (lv_at hl 2 rfl) ?_
            refine hk_getr hx hb hts hC_10 hown hW (gx.S hM) tt_10 37 (by decide) rfl kw_1180 ⟨rfl, rfl, rfl⟩ ((hM.o gx trivial rfl).2.trans f_x_37) dX10_sits_33 ?_
            refine lv_iload_n hx hb dX10_sits_36 rfl (lv_at hl 3 rfl) ?_
            refine hx_iald hx hb hW hT (gqb.S hM) tt_72 rfl ⟨by omega, by omega⟩ dX10_sits_37 (fun x_10 ex_10 lx_10 ux_10 => ?_)
            have ax_10 : x_10 = bf i1.toNatClampNeg := ex_10.trans (congrFun (hx_afS hM gqb rfl af_qb) _)
            refine hx_goi (hx_runV (As := [.int iv4_3, .int x_10]) (rest := []) ⟨hx, hb, hml, hown, hts⟩ hW (gx.S hM) tt_10 (T := TX10) (N := 98) rfl (t_X10_isKinOf_v l dC dI dA hL1 hl1 H.size x iv4_3 x_10 hT (gx.S hM) qk (gqk.S hM) ((hM.o gx trivial rfl).2.trans f_x_26) kf (hx_afS hM gqk rfl af_qk) ⟨by omega, by omega⟩ ⟨by omega, by omega⟩) (cwV 2 hts (hx_gV kw_1609 kw_1606 kw_1608 kw_75 kw_103) rfl rfl rfl (by decide +kernel) ⟨Nat.le_of_ble_eq_true rfl, Nat.le_of_ble_eq_true rfl⟩) rfl hl.1 rfl (Nat.le_of_ble_eq_true rfl) dX10_sits_38 ⟨Nat.le_of_ble_eq_true rfl, Nat.le_of_ble_eq_true rfl⟩) hW (fun r_13 L_11 h_12 H locs p_14 hW => ?_)
            obtain ⟨hr_15, hT, hs⟩ := p_14
            replace hT : hx_T T_tb L_11 h_12 := hT
            replace hs : hx_S T_tb [] hL1 hl1 L_11 h_12 := hs
            replace nia4_qs : h_12.2.1 qs = ia4_qs := (funext fun j => (hs.a (gqs.S hM) rfl j).1).trans nia4_qs
            replace ex_2 := ex_2.trans (hs.a (gqj.S hM) rfl _).1.symm
            replace ex_6 := ex_6.trans (hs.a (gqd.S hM) rfl _).1.symm
            replace ex_10 := ex_10.trans (hs.a (gqb.S hM) rfl _).1.symm
            replace hM := hM.tr (hs.mono (by decide))
            have kk_16 := hr_15; rw [ax_10] at kk_16
            refine hb_if_ne (zx := r_13.toInt) (tgt := 71) hx hb rfl dX10_sits_41 (by decide) (fun c_17 => ?_) (fun c_17 => ?_)
            · skip
              obtain ⟨x_18, ex_18⟩ : ∃ y : Int32, y = iv4_3 + Int32.ofInt 1 := ⟨_, rfl⟩
              have rg_19 := i32_r iv4_3
              have zx_18 : x_18.toInt = iv4_3.toInt + (1) := by rw [ex_18]; exact i32_add rfl (by decide) (by omega) (by omega)
              refine lv_iinc (v := x_18) (lv' := [(3, .int x_18), (2, .int iv4_2), (0, .ref x), (1, .int i1)]) hx hb dX10_sits_71 hl (k := 0) rfl ex_18.symm (by decide) rfl (fun ls hl => ?_)
              refine lv_goto (tgt := 4) hx hb dX10_sits_74 (by decide) ?_
              exact ih4 iv4_2 x_18 ia4_qs _ _ L_11 h_12 (by omega) (by omega) (by omega) (by omega) (hv_fs_n vi4_0 (hv_ft_f (fun z => by exact absurd (z.2.2.1.symm.trans (by rcases kk_16 with z | z; exact z.2; exfalso; omega)) (by decide))) (by omega) zx_18) (by omega) (by omega) ls (by omega) hW hT hM  nia4_qs (lv_sub hl [0, 1, 2, 3] rfl)
            · skip
              refine lv_aload_n hx hb dX10_sits_44 rfl (lv_at hl 2 rfl) ?_
              refine lv_iload_n hx hb dX10_sits_45 rfl (lv_at hl 0 rfl) ?_
              refine lv_aload_n hx hb dX10_sits_46 rfl (lv_at hl 2 rfl) ?_
              refine hk_getr hx hb hts hC_10 hown hW (gx.S hM) tt_10 38 (by decide) rfl kw_1181 ⟨rfl, rfl, rfl⟩ ((hM.o gx trivial rfl).2.trans f_x_38) dX10_sits_47 ?_
              refine lv_iload_n hx hb dX10_sits_50 rfl (lv_at hl 3 rfl) ?_
              refine hx_iald hx hb hW hT (gqa.S hM) tt_73 rfl ⟨by omega, by omega⟩ dX10_sits_51 (fun x_20 ex_20 lx_20 ux_20 => ?_)
              have ax_20 : x_20 = agf i1.toNatClampNeg := ex_20.trans (congrFun (hx_afS hM gqa rfl af_qa) _)
              refine hx_goi (hx_runV (As := [.int iv4_3, .int x_20]) (rest := []) ⟨hx, hb, hml, hown, hts⟩ hW (gx.S hM) tt_10 (T := TX10) (N := 98) rfl (t_X10_isKinOf_v l dC dI dA L_11 h_12 H.size x iv4_3 x_20 hT (gx.S hM) qk (gqk.S hM) ((hM.o gx trivial rfl).2.trans f_x_26) kf (hx_afS hM gqk rfl af_qk) ⟨by omega, by omega⟩ ⟨by omega, by omega⟩) (cwV 2 hts (hx_gV kw_1609 kw_1606 kw_1608 kw_75 kw_103) rfl rfl rfl (by decide +kernel) ⟨Nat.le_of_ble_eq_true rfl, Nat.le_of_ble_eq_true rfl⟩) rfl hl.1 rfl (Nat.le_of_ble_eq_true rfl) dX10_sits_52 ⟨Nat.le_of_ble_eq_true rfl, Nat.le_of_ble_eq_true rfl⟩) hW (fun r_23 L_21 h_22 H locs p_24 hW => ?_)
              obtain ⟨hr_25, hT, hs⟩ := p_24
              replace hT : hx_T T_tb L_21 h_22 := hT
              replace hs : hx_S T_tb [] L_11 h_12 L_21 h_22 := hs
              replace nia4_qs : h_22.2.1 qs = ia4_qs := (funext fun j => (hs.a (gqs.S hM) rfl j).1).trans nia4_qs
              replace ex_2 := ex_2.trans (hs.a (gqj.S hM) rfl _).1.symm
              replace ex_6 := ex_6.trans (hs.a (gqd.S hM) rfl _).1.symm
              replace ex_10 := ex_10.trans (hs.a (gqb.S hM) rfl _).1.symm
              replace ex_20 := ex_20.trans (hs.a (gqa.S hM) rfl _).1.symm
              replace hM := hM.tr (hs.mono (by decide))
              have kk_26 := hr_25; rw [ax_20] at kk_26
              refine hb_if_eq (zx := r_23.toInt) (tgt := 61) hx hb rfl dX10_sits_55 (by decide) (fun c_27 => ?_) (fun c_27 => ?_)
              · skip
                refine lv_aload_n hx hb dX10_sits_61 rfl (lv_at hl 2 rfl) ?_
                refine hk_getr hx hb hts hC_10 hown hW (gx.S hM) tt_10 65 (by decide) rfl kw_1208 ⟨rfl, rfl, rfl⟩ ((hM.o gx trivial rfl).2.trans f_x_65) dX10_sits_62 ?_
                refine lv_iload_n hx hb dX10_sits_65 rfl (lv_at hl 1 rfl) ?_
                refine lv_iload_n hx hb dX10_sits_66 rfl (lv_at hl 0 rfl) ?_
                have nia4_qsO := nia4_qs
                refine hx_iast hx hb hW hT (hx_S.rf (M := [(98, 0)])) (gqs.S hM) tt_98 rfl ⟨by omega, by omega⟩ rfl ⟨by omega, by omega⟩ (List.mem_singleton.mpr rfl) dX10_sits_67 (fun H locs h_28 eh_28 hW hT hs => ?_)
                replace ex_2 := ex_2.trans (hs.a (gqj.S hM) rfl _).1.symm
                replace ex_6 := ex_6.trans (hs.a (gqd.S hM) rfl _).1.symm
                replace ex_10 := ex_10.trans (hs.a (gqb.S hM) rfl _).1.symm
                replace ex_20 := ex_20.trans (hs.a (gqa.S hM) rfl _).1.symm
                replace hM := hM.tr (hs.mono (by decide))
                obtain ⟨fa_29, dfa_29⟩ : ∃ g : Nat → Int32, g = hx_up ia4_qs iv4_2.toNatClampNeg iv4_3 := ⟨_, rfl⟩
                have nfa_29 : h_28.2.1 qs = fa_29 := by rw [eh_28, dfa_29, ← nia4_qsO]; exact hx_pi_fun _ _ _ _
                obtain ⟨x_30, ex_30⟩ : ∃ y : Int32, y = iv4_2 + Int32.ofInt 1 := ⟨_, rfl⟩
                have rg_31 := i32_r iv4_2
                have zx_30 : x_30.toInt = iv4_2.toInt + (1) := by rw [ex_30]; exact i32_add rfl (by decide) (by omega) (by omega)
                refine lv_iinc (v := x_30) (lv' := [(2, .int x_30), (3, .int iv4_3), (0, .ref x), (1, .int i1)]) hx hb dX10_sits_68 hl (k := 1) rfl ex_30.symm (by decide) rfl (fun ls hl => ?_)
                obtain ⟨x_32, ex_32⟩ : ∃ y : Int32, y = iv4_3 + Int32.ofInt 1 := ⟨_, rfl⟩
                have rg_33 := i32_r iv4_3
                have zx_32 : x_32.toInt = iv4_3.toInt + (1) := by rw [ex_32]; exact i32_add rfl (by decide) (by omega) (by omega)
                refine lv_iinc (v := x_32) (lv' := [(3, .int x_32), (2, .int x_30), (0, .ref x), (1, .int i1)]) hx hb dX10_sits_71 hl (k := 1) rfl ex_32.symm (by decide) rfl (fun ls hl => ?_)
                refine lv_goto (tgt := 4) hx hb dX10_sits_74 (by decide) ?_
                exact ih4 x_30 x_32 fa_29 _ _ L_21 h_28 (by omega) (by omega) (by omega) (by omega) (hv_fs_y vi4_0 (hv_ft_t.mpr ⟨(fun z9 => by have h9 : x_2.toInt = 0 := (congrArg Int32.toInt ax_2).trans z9; omega), ((congrArg Int32.toInt ax_6).symm.trans (by omega)), (by rcases kk_16 with z | z; (exfalso; omega); exact z.2), (by rcases kk_26 with z | z; (exfalso; omega); exact z.2)⟩) (by omega) (by unfold Int32.toNatClampNeg; omega) (by omega) dfa_29 zx_32 (by omega)) (by omega) (by omega) ls (by omega) hW hT hM  nfa_29 (lv_sub hl [0, 1, 2, 3] rfl)
              · skip
                refine lv_goto (tgt := 71) hx hb dX10_sits_58 (by decide) ?_
                obtain ⟨x_34, ex_34⟩ : ∃ y : Int32, y = iv4_3 + Int32.ofInt 1 := ⟨_, rfl⟩
                have rg_35 := i32_r iv4_3
                have zx_34 : x_34.toInt = iv4_3.toInt + (1) := by rw [ex_34]; exact i32_add rfl (by decide) (by omega) (by omega)
                refine lv_iinc (v := x_34) (lv' := [(3, .int x_34), (2, .int iv4_2), (0, .ref x), (1, .int i1)]) hx hb dX10_sits_71 hl (k := 0) rfl ex_34.symm (by decide) rfl (fun ls hl => ?_)
                refine lv_goto (tgt := 4) hx hb dX10_sits_74 (by decide) ?_
                exact ih4 iv4_2 x_34 ia4_qs _ _ L_21 h_22 (by omega) (by omega) (by omega) (by omega) (hv_fs_n vi4_0 (hv_ft_f (fun z => by exact absurd (z.2.2.2.symm.trans (by rcases kk_26 with z | z; exact z.2; exfalso; omega)) (by decide))) (by omega) zx_34) (by omega) (by omega) ls (by omega) hW hT hM  nia4_qs (lv_sub hl [0, 1, 2, 3] rfl)
  have zk_0 : (0 : Int32).toInt = 0 := by decide
  have zk_0 : (0 : Int32).toInt = 0 := by decide
  exact loop4 41 (0 : Int32) (0 : Int32) sf _ _ L h (by decide) (by decide) (by decide) (by decide) (by rw [zk_0]; exact ⟨hv_fl_0, rfl⟩) (by omega) (by omega) ls (by omega) hW hT hM  af_qs hl
