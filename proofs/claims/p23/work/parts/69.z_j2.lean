
set_option maxHeartbeats 4000000 in
set_option maxRecDepth 100000 in
theorem t_X10_isSo_v (l : Launch) (dC : Nat → ClassId) (dI : Nat → Nat → Nat) (dA : Nat → ClassId) (L : List Nat) (h : hx_h) (sz : Nat) (x : Nat) (i1 : Int32) (i2 : Int32) (hT : hx_T T_tb L h) (gx : hx_g L h x 10) (qf : Nat) (gqf : hx_g L h qf 88) (f_x_53 : h.2.2 x 53 = some qf) (rf : Nat → Int32) (af_qf : h.2.1 qf = rf) (hi1 : 0 ≤ i1.toInt ∧ i1.toInt ≤ 99) (t : hv_tok) (hvt : hv_vt t) (ht1 : 1 ≤ t.1) (hi2 : i2.toInt = hv_rc t) : Met l yX10_isSo (Cond.code yX10_isSo cX10_isSo 6 (some .boolean) :: hx_all) ({ frames := 0, cells := 0, slots := 0, locals := 0 }) (va_Pc [.ref x, .int i1, .int i2] (hx_B T_tb (P_ty dA) (dC, dI) vwCl L h sz)) (va_Qi (fun (r : Int32) (u : List Nat × hx_h) => ((r.toInt = 1 ∧ hv_hd (hv_F0 rf (8 * i1.toInt.toNat)) t = true) ∨ (r.toInt = 0 ∧ hv_hd (hv_F0 rf (8 * i1.toInt.toNat)) t = false)) ∧ hx_T T_tb u.1 u.2 ∧ hx_S T_tb [] L h u.1 u.2) (hx_E T_tb (P_ty dA) (dC, dI) vwCl (hx_A L sz)) (hx_A L sz)) 0 0 (hx_A L sz) := by
  refine hx_met (lv := [(0, .ref x), (1, .int i1), (2, .int i2)]) (by decide +kernel) rfl (Nat.le_of_ble_eq_true rfl) rfl ?_
  intro p e s m below meth c hx hb hml hr hlk hts0 hown hin hsz hW ls hl
  have hts : ∀ w ∈ hx_all, w.before _ s = true := fun w hw => hts0 w (List.mem_cons_of_mem _ hw)
  have hown : s.vm.findClass "SmallCourtModel" = some m.cls := hown
  have hM : hx_S T_tb [] L h L h := hx_S.rf
  have hrd := hv_rc_d hvt ht1
  have hvb : (1 ≤ t.1 ∧ t.1 ≤ 8) ∧ t.2.1 ≤ 4 ∧ 0 ≤ t.2.2 ∧ t.2.2 ≤ 10007 := by rcases hvt with ⟨a, _⟩ | ⟨a, b, c, d, e⟩; (exfalso; omega); exact ⟨⟨a, b⟩, c, d, e⟩
  refine lv_aload_n hx hb dX10_isSo_0 rfl (lv_at hl 0 rfl) ?_
  refine hk_getr hx hb hts hC_10 hown hW (gx.S hM) tt_10 53 (by decide) rfl kw_1196 ⟨rfl, rfl, rfl⟩ ((hM.o gx trivial rfl).2.trans f_x_53) dX10_isSo_1 ?_
  refine lv_bipush (v := 8) hx hb dX10_isSo_4 (by decide) ?_
  refine lv_iload_n hx hb dX10_isSo_6 rfl (lv_at hl 1 rfl) ?_
  refine lv_imul hx hb dX10_isSo_7 ?_
  refine lv_topi (fun x_1 ex_1 => ?_)
  have zx_1 : x_1.toInt = 8 * i1.toInt := by rw [ex_1]; exact i32_mul (by decide) rfl rfl (by omega) (by omega)
  refine lv_iload_n hx hb dX10_isSo_8 rfl (lv_at hl 2 rfl) ?_
  refine lv_ldcw (v := 1000000) hx hb hown (hts _ kw_1133) dX10_isSo_9 ?_
  refine lv_idiv hx hb dX10_isSo_12 (by decide) ?_
  refine lv_topi (fun x_2 ex_2 => ?_)
  have zx_2 : x_2.toInt = i2.toInt / 1000000 := by rw [ex_2, hx_dv (by omega) (by decide)]; rfl
  refine lv_iadd hx hb dX10_isSo_13 ?_
  have rg_3 := i32_r x_1
  have rg_4 := i32_r x_2
  refine lv_topi (fun x_5 ex_5 => ?_)
  have zx_5 : x_5.toInt = x_1.toInt + x_2.toInt := by rw [ex_5]; exact i32_add rfl rfl (by omega) (by omega)
  refine lv_iconst (v := 1) hx hb dX10_isSo_14 (by decide) ?_
  refine lv_isub hx hb dX10_isSo_15 ?_
  have rg_6 := i32_r x_5
  refine lv_topi (fun x_7 ex_7 => ?_)
  have zx_7 : x_7.toInt = x_5.toInt - 1 := by rw [ex_7]; exact i32_sub rfl (by decide) (by omega) (by omega)
  refine hx_iald hx hb hW hT (gqf.S hM) tt_88 rfl ⟨by omega, by omega⟩ dX10_isSo_16 (fun x_8 ex_8 lx_8 ux_8 => ?_)
  have ax_8 : x_8 = rf x_7.toNatClampNeg := ex_8.trans (congrFun (hx_afS hM gqf rfl af_qf) _)
  refine lv_istore_n (lv' := [(3, .int x_8), (0, .ref x), (1, .int i1), (2, .int i2)]) hx hb dX10_isSo_17 rfl hl (by decide) rfl (fun ls hl => ?_)
  refine lv_iload_n hx hb dX10_isSo_18 rfl (lv_at hl 3 rfl) ?_
  refine lv_ldcw (v := 100000) hx hb hown (hts _ kw_1134) dX10_isSo_19 ?_
  refine lv_irem hx hb dX10_isSo_22 (by decide) ?_
  refine lv_topi (fun x_9 ex_9 => ?_)
  have zx_9 : x_9.toInt = i2.toInt % 100000 := by rw [ex_9, hx_remz (by omega) (by decide)]; rfl
  refine lv_istore (lv' := [(4, .int x_9), (3, .int x_8), (0, .ref x), (1, .int i1), (2, .int i2)]) hx hb dX10_isSo_23 hl (by decide) rfl (fun ls hl => ?_)
  refine lv_iload hx hb dX10_isSo_25 (lv_at hl 0 rfl) ?_
  refine lv_sipush (v := 10000) hx hb dX10_isSo_27 (by decide) ?_
  refine hb_icmp_lt (zx := x_9.toInt) (zy := 10000) (tgt := 52) hx hb rfl (by decide) dX10_isSo_30 (by decide) (fun c_10 => ?_) (fun c_10 => ?_)
  · skip
    refine lv_iload hx hb dX10_isSo_52 (lv_at hl 0 rfl) ?_
    refine lv_istore (lv' := [(5, .int x_9), (4, .int x_9), (3, .int x_8), (0, .ref x), (1, .int i1), (2, .int i2)]) hx hb dX10_isSo_54 hl (by decide) rfl (fun ls hl => ?_)
    refine lv_iload_n hx hb dX10_isSo_56 rfl (lv_at hl 5 rfl) ?_
    refine lv_ldcw (v := 100000) hx hb hown (hts _ kw_1134) dX10_isSo_57 ?_
    refine lv_idiv hx hb dX10_isSo_60 (by decide) ?_
    refine lv_topi (fun x_11 ex_11 => ?_)
    have zx_11 : x_11.toInt = i2.toInt / 100000 := by rw [ex_11, hx_dv (by omega) (by decide)]; rfl
    refine lv_bipush (v := 10) hx hb dX10_isSo_61 (by decide) ?_
    refine lv_irem hx hb dX10_isSo_63 (by decide) ?_
    refine lv_topi (fun x_12 ex_12 => ?_)
    have zx_12 : x_12.toInt = x_11.toInt % 10 := by rw [ex_12, hx_remz (by omega) (by decide)]; rfl
    have harm9 : x_12.toInt = (t.2.1 : Int) := by rw [zx_12, zx_11, hi2]; exact hrd.2.2.2
    rcases (show (x_12.toInt < 0 ∨ 3 < x_12.toInt) ∨ x_12.toInt = 0 ∨ x_12.toInt = 1 ∨ x_12.toInt = 2 ∨ x_12.toInt = 3 from by omega) with c_13 | c_13 | c_13 | c_13 | c_13
    · refine lv_tableOut (tgt := 144) hx hb dX10_isSo_64 c_13 (by decide) ?_
      refine lv_iload_n hx hb dX10_isSo_144 rfl (lv_at hl 2 rfl) ?_
      refine lv_iload hx hb dX10_isSo_145 (lv_at hl 0 rfl) ?_
      refine hb_icmp_le (zx := x_8.toInt) (zy := x_9.toInt) (tgt := 154) hx hb rfl rfl dX10_isSo_147 (by decide) (fun c_14 => ?_) (fun c_14 => ?_)
      · skip
        refine lv_iconst (v := 0) hx hb dX10_isSo_154 (by decide) ?_
        exact hx_retz hx hb hr rfl hlk hW ⟨(Or.inr ⟨by decide, hv_nb ((hv_hd_m (F := (hv_F0 rf (8 * i1.toInt.toNat))) (l := x_8.toInt) (r := x_9.toInt) (by rw [ax_8]; exact congrArg (fun z => (rf z).toInt) (show x_7.toNatClampNeg = (t.1 - 1).toNat + 8 * i1.toInt.toNat by unfold Int32.toNatClampNeg; omega)) (by rw [if_neg (by omega)]; omega)).2.2.2.2 (by omega)) (by omega)⟩), hT, hM⟩ dX10_isSo_155
      · skip
        refine lv_iconst (v := 1) hx hb dX10_isSo_150 (by decide) ?_
        refine lv_goto (tgt := 155) hx hb dX10_isSo_151 (by decide) ?_
        exact hx_retz hx hb hr rfl hlk hW ⟨(Or.inl ⟨by decide, ((hv_hd_m (F := (hv_F0 rf (8 * i1.toInt.toNat))) (l := x_8.toInt) (r := x_9.toInt) (by rw [ax_8]; exact congrArg (fun z => (rf z).toInt) (show x_7.toNatClampNeg = (t.1 - 1).toNat + 8 * i1.toInt.toNat by unfold Int32.toNatClampNeg; omega)) (by rw [if_neg (by omega)]; omega)).2.2.2.2 (by omega)).mpr (by omega)⟩), hT, hM⟩ dX10_isSo_155
    · refine lv_tableIn (off := 32) (tgt := 96) hx hb dX10_isSo_64 (by omega) (by omega) (by rw [c_13]; rfl) (by decide) ?_
      refine lv_iload_n hx hb dX10_isSo_96 rfl (lv_at hl 2 rfl) ?_
      refine lv_iload hx hb dX10_isSo_97 (lv_at hl 0 rfl) ?_
      refine hb_icmp_ge (zx := x_8.toInt) (zy := x_9.toInt) (tgt := 106) hx hb rfl rfl dX10_isSo_99 (by decide) (fun c_15 => ?_) (fun c_15 => ?_)
      · skip
        refine lv_iconst (v := 0) hx hb dX10_isSo_106 (by decide) ?_
        exact hx_retz hx hb hr rfl hlk hW ⟨(Or.inr ⟨by decide, hv_nb ((hv_hd_m (F := (hv_F0 rf (8 * i1.toInt.toNat))) (l := x_8.toInt) (r := x_9.toInt) (by rw [ax_8]; exact congrArg (fun z => (rf z).toInt) (show x_7.toNatClampNeg = (t.1 - 1).toNat + 8 * i1.toInt.toNat by unfold Int32.toNatClampNeg; omega)) (by rw [if_neg (by omega)]; omega)).1 (by omega)) (by omega)⟩), hT, hM⟩ dX10_isSo_107
      · skip
        refine lv_iconst (v := 1) hx hb dX10_isSo_102 (by decide) ?_
        refine lv_goto (tgt := 107) hx hb dX10_isSo_103 (by decide) ?_
        exact hx_retz hx hb hr rfl hlk hW ⟨(Or.inl ⟨by decide, ((hv_hd_m (F := (hv_F0 rf (8 * i1.toInt.toNat))) (l := x_8.toInt) (r := x_9.toInt) (by rw [ax_8]; exact congrArg (fun z => (rf z).toInt) (show x_7.toNatClampNeg = (t.1 - 1).toNat + 8 * i1.toInt.toNat by unfold Int32.toNatClampNeg; omega)) (by rw [if_neg (by omega)]; omega)).1 (by omega)).mpr (by omega)⟩), hT, hM⟩ dX10_isSo_107
    · refine lv_tableIn (off := 44) (tgt := 108) hx hb dX10_isSo_64 (by omega) (by omega) (by rw [c_13]; rfl) (by decide) ?_
      refine lv_iload_n hx hb dX10_isSo_108 rfl (lv_at hl 2 rfl) ?_
      refine lv_iload hx hb dX10_isSo_109 (lv_at hl 0 rfl) ?_
      refine hb_icmp_gt (zx := x_8.toInt) (zy := x_9.toInt) (tgt := 118) hx hb rfl rfl dX10_isSo_111 (by decide) (fun c_16 => ?_) (fun c_16 => ?_)
      · skip
        refine lv_iconst (v := 0) hx hb dX10_isSo_118 (by decide) ?_
        exact hx_retz hx hb hr rfl hlk hW ⟨(Or.inr ⟨by decide, hv_nb ((hv_hd_m (F := (hv_F0 rf (8 * i1.toInt.toNat))) (l := x_8.toInt) (r := x_9.toInt) (by rw [ax_8]; exact congrArg (fun z => (rf z).toInt) (show x_7.toNatClampNeg = (t.1 - 1).toNat + 8 * i1.toInt.toNat by unfold Int32.toNatClampNeg; omega)) (by rw [if_neg (by omega)]; omega)).2.1 (by omega)) (by omega)⟩), hT, hM⟩ dX10_isSo_119
      · skip
        refine lv_iconst (v := 1) hx hb dX10_isSo_114 (by decide) ?_
        refine lv_goto (tgt := 119) hx hb dX10_isSo_115 (by decide) ?_
        exact hx_retz hx hb hr rfl hlk hW ⟨(Or.inl ⟨by decide, ((hv_hd_m (F := (hv_F0 rf (8 * i1.toInt.toNat))) (l := x_8.toInt) (r := x_9.toInt) (by rw [ax_8]; exact congrArg (fun z => (rf z).toInt) (show x_7.toNatClampNeg = (t.1 - 1).toNat + 8 * i1.toInt.toNat by unfold Int32.toNatClampNeg; omega)) (by rw [if_neg (by omega)]; omega)).2.1 (by omega)).mpr (by omega)⟩), hT, hM⟩ dX10_isSo_119
    · refine lv_tableIn (off := 56) (tgt := 120) hx hb dX10_isSo_64 (by omega) (by omega) (by rw [c_13]; rfl) (by decide) ?_
      refine lv_iload_n hx hb dX10_isSo_120 rfl (lv_at hl 2 rfl) ?_
      refine lv_iload hx hb dX10_isSo_121 (lv_at hl 0 rfl) ?_
      refine hb_icmp_ne (zx := x_8.toInt) (zy := x_9.toInt) (tgt := 130) hx hb rfl rfl dX10_isSo_123 (by decide) (fun c_17 => ?_) (fun c_17 => ?_)
      · skip
        refine lv_iconst (v := 0) hx hb dX10_isSo_130 (by decide) ?_
        exact hx_retz hx hb hr rfl hlk hW ⟨(Or.inr ⟨by decide, hv_nb ((hv_hd_m (F := (hv_F0 rf (8 * i1.toInt.toNat))) (l := x_8.toInt) (r := x_9.toInt) (by rw [ax_8]; exact congrArg (fun z => (rf z).toInt) (show x_7.toNatClampNeg = (t.1 - 1).toNat + 8 * i1.toInt.toNat by unfold Int32.toNatClampNeg; omega)) (by rw [if_neg (by omega)]; omega)).2.2.1 (by omega)) (by omega)⟩), hT, hM⟩ dX10_isSo_131
      · skip
        refine lv_iconst (v := 1) hx hb dX10_isSo_126 (by decide) ?_
        refine lv_goto (tgt := 131) hx hb dX10_isSo_127 (by decide) ?_
        exact hx_retz hx hb hr rfl hlk hW ⟨(Or.inl ⟨by decide, ((hv_hd_m (F := (hv_F0 rf (8 * i1.toInt.toNat))) (l := x_8.toInt) (r := x_9.toInt) (by rw [ax_8]; exact congrArg (fun z => (rf z).toInt) (show x_7.toNatClampNeg = (t.1 - 1).toNat + 8 * i1.toInt.toNat by unfold Int32.toNatClampNeg; omega)) (by rw [if_neg (by omega)]; omega)).2.2.1 (by omega)).mpr (by omega)⟩), hT, hM⟩ dX10_isSo_131
    · refine lv_tableIn (off := 68) (tgt := 132) hx hb dX10_isSo_64 (by omega) (by omega) (by rw [c_13]; rfl) (by decide) ?_
      refine lv_iload_n hx hb dX10_isSo_132 rfl (lv_at hl 2 rfl) ?_
      refine lv_iload hx hb dX10_isSo_133 (lv_at hl 0 rfl) ?_
      refine hb_icmp_lt (zx := x_8.toInt) (zy := x_9.toInt) (tgt := 142) hx hb rfl rfl dX10_isSo_135 (by decide) (fun c_18 => ?_) (fun c_18 => ?_)
      · skip
        refine lv_iconst (v := 0) hx hb dX10_isSo_142 (by decide) ?_
        exact hx_retz hx hb hr rfl hlk hW ⟨(Or.inr ⟨by decide, hv_nb ((hv_hd_m (F := (hv_F0 rf (8 * i1.toInt.toNat))) (l := x_8.toInt) (r := x_9.toInt) (by rw [ax_8]; exact congrArg (fun z => (rf z).toInt) (show x_7.toNatClampNeg = (t.1 - 1).toNat + 8 * i1.toInt.toNat by unfold Int32.toNatClampNeg; omega)) (by rw [if_neg (by omega)]; omega)).2.2.2.1 (by omega)) (by omega)⟩), hT, hM⟩ dX10_isSo_143
      · skip
        refine lv_iconst (v := 1) hx hb dX10_isSo_138 (by decide) ?_
        refine lv_goto (tgt := 143) hx hb dX10_isSo_139 (by decide) ?_
        exact hx_retz hx hb hr rfl hlk hW ⟨(Or.inl ⟨by decide, ((hv_hd_m (F := (hv_F0 rf (8 * i1.toInt.toNat))) (l := x_8.toInt) (r := x_9.toInt) (by rw [ax_8]; exact congrArg (fun z => (rf z).toInt) (show x_7.toNatClampNeg = (t.1 - 1).toNat + 8 * i1.toInt.toNat by unfold Int32.toNatClampNeg; omega)) (by rw [if_neg (by omega)]; omega)).2.2.2.1 (by omega)).mpr (by omega)⟩), hT, hM⟩ dX10_isSo_143
  · skip
    refine lv_aload_n hx hb dX10_isSo_33 rfl (lv_at hl 2 rfl) ?_
    refine hk_getr hx hb hts hC_10 hown hW (gx.S hM) tt_10 53 (by decide) rfl kw_1196 ⟨rfl, rfl, rfl⟩ ((hM.o gx trivial rfl).2.trans f_x_53) dX10_isSo_34 ?_
    refine lv_bipush (v := 8) hx hb dX10_isSo_37 (by decide) ?_
    refine lv_iload_n hx hb dX10_isSo_39 rfl (lv_at hl 3 rfl) ?_
    refine lv_imul hx hb dX10_isSo_40 ?_
    refine lv_topi (fun x_19 ex_19 => ?_)
    have zx_19 : x_19.toInt = 8 * i1.toInt := by rw [ex_19]; exact i32_mul (by decide) rfl rfl (by omega) (by omega)
    refine lv_iload hx hb dX10_isSo_41 (lv_at hl 0 rfl) ?_
    refine lv_iadd hx hb dX10_isSo_43 ?_
    have rg_20 := i32_r x_19
    have rg_21 := i32_r x_9
    refine lv_topi (fun x_22 ex_22 => ?_)
    have zx_22 : x_22.toInt = x_19.toInt + x_9.toInt := by rw [ex_22]; exact i32_add rfl rfl (by omega) (by omega)
    refine lv_sipush (v := 10000) hx hb dX10_isSo_44 (by decide) ?_
    refine lv_isub hx hb dX10_isSo_47 ?_
    have rg_23 := i32_r x_22
    refine lv_topi (fun x_24 ex_24 => ?_)
    have zx_24 : x_24.toInt = x_22.toInt - 10000 := by rw [ex_24]; exact i32_sub rfl (by decide) (by omega) (by omega)
    refine hx_iald hx hb hW hT (gqf.S hM) tt_88 rfl ⟨by omega, by omega⟩ dX10_isSo_48 (fun x_25 ex_25 lx_25 ux_25 => ?_)
    have ax_25 : x_25 = rf x_24.toNatClampNeg := ex_25.trans (congrFun (hx_afS hM gqf rfl af_qf) _)
    refine lv_goto (tgt := 54) hx hb dX10_isSo_49 (by decide) ?_
    refine lv_istore (lv' := [(5, .int x_25), (4, .int x_9), (3, .int x_8), (0, .ref x), (1, .int i1), (2, .int i2)]) hx hb dX10_isSo_54 hl (by decide) rfl (fun ls hl => ?_)
    refine lv_iload_n hx hb dX10_isSo_56 rfl (lv_at hl 5 rfl) ?_
    refine lv_ldcw (v := 100000) hx hb hown (hts _ kw_1134) dX10_isSo_57 ?_
    refine lv_idiv hx hb dX10_isSo_60 (by decide) ?_
    refine lv_topi (fun x_26 ex_26 => ?_)
    have zx_26 : x_26.toInt = i2.toInt / 100000 := by rw [ex_26, hx_dv (by omega) (by decide)]; rfl
    refine lv_bipush (v := 10) hx hb dX10_isSo_61 (by decide) ?_
    refine lv_irem hx hb dX10_isSo_63 (by decide) ?_
    refine lv_topi (fun x_27 ex_27 => ?_)
    have zx_27 : x_27.toInt = x_26.toInt % 10 := by rw [ex_27, hx_remz (by omega) (by decide)]; rfl
    have harm9 : x_27.toInt = (t.2.1 : Int) := by rw [zx_27, zx_26, hi2]; exact hrd.2.2.2
    rcases (show (x_27.toInt < 0 ∨ 3 < x_27.toInt) ∨ x_27.toInt = 0 ∨ x_27.toInt = 1 ∨ x_27.toInt = 2 ∨ x_27.toInt = 3 from by omega) with c_28 | c_28 | c_28 | c_28 | c_28
    · refine lv_tableOut (tgt := 144) hx hb dX10_isSo_64 c_28 (by decide) ?_
      refine lv_iload_n hx hb dX10_isSo_144 rfl (lv_at hl 2 rfl) ?_
      refine lv_iload hx hb dX10_isSo_145 (lv_at hl 0 rfl) ?_
      refine hb_icmp_le (zx := x_8.toInt) (zy := x_25.toInt) (tgt := 154) hx hb rfl rfl dX10_isSo_147 (by decide) (fun c_29 => ?_) (fun c_29 => ?_)
      · skip
        refine lv_iconst (v := 0) hx hb dX10_isSo_154 (by decide) ?_
        exact hx_retz hx hb hr rfl hlk hW ⟨(Or.inr ⟨by decide, hv_nb ((hv_hd_m (F := (hv_F0 rf (8 * i1.toInt.toNat))) (l := x_8.toInt) (r := x_25.toInt) (by rw [ax_8]; exact congrArg (fun z => (rf z).toInt) (show x_7.toNatClampNeg = (t.1 - 1).toNat + 8 * i1.toInt.toNat by unfold Int32.toNatClampNeg; omega)) (by rw [if_pos (by omega)]; exact (by rw [ax_25]; exact congrArg (fun z => (rf z).toInt) (show x_24.toNatClampNeg = (t.2.2 - 10000).toNat + 8 * i1.toInt.toNat by unfold Int32.toNatClampNeg; omega)))).2.2.2.2 (by omega)) (by omega)⟩), hT, hM⟩ dX10_isSo_155
      · skip
        refine lv_iconst (v := 1) hx hb dX10_isSo_150 (by decide) ?_
        refine lv_goto (tgt := 155) hx hb dX10_isSo_151 (by decide) ?_
        exact hx_retz hx hb hr rfl hlk hW ⟨(Or.inl ⟨by decide, ((hv_hd_m (F := (hv_F0 rf (8 * i1.toInt.toNat))) (l := x_8.toInt) (r := x_25.toInt) (by rw [ax_8]; exact congrArg (fun z => (rf z).toInt) (show x_7.toNatClampNeg = (t.1 - 1).toNat + 8 * i1.toInt.toNat by unfold Int32.toNatClampNeg; omega)) (by rw [if_pos (by omega)]; exact (by rw [ax_25]; exact congrArg (fun z => (rf z).toInt) (show x_24.toNatClampNeg = (t.2.2 - 10000).toNat + 8 * i1.toInt.toNat by unfold Int32.toNatClampNeg; omega)))).2.2.2.2 (by omega)).mpr (by omega)⟩), hT, hM⟩ dX10_isSo_155
    · refine lv_tableIn (off := 32) (tgt := 96) hx hb dX10_isSo_64 (by omega) (by omega) (by rw [c_28]; rfl) (by decide) ?_
      refine lv_iload_n hx hb dX10_isSo_96 rfl (lv_at hl 2 rfl) ?_
      refine lv_iload hx hb dX10_isSo_97 (lv_at hl 0 rfl) ?_
      refine hb_icmp_ge (zx := x_8.toInt) (zy := x_25.toInt) (tgt := 106) hx hb rfl rfl dX10_isSo_99 (by decide) (fun c_30 => ?_) (fun c_30 => ?_)
      · skip
        refine lv_iconst (v := 0) hx hb dX10_isSo_106 (by decide) ?_
        exact hx_retz hx hb hr rfl hlk hW ⟨(Or.inr ⟨by decide, hv_nb ((hv_hd_m (F := (hv_F0 rf (8 * i1.toInt.toNat))) (l := x_8.toInt) (r := x_25.toInt) (by rw [ax_8]; exact congrArg (fun z => (rf z).toInt) (show x_7.toNatClampNeg = (t.1 - 1).toNat + 8 * i1.toInt.toNat by unfold Int32.toNatClampNeg; omega)) (by rw [if_pos (by omega)]; exact (by rw [ax_25]; exact congrArg (fun z => (rf z).toInt) (show x_24.toNatClampNeg = (t.2.2 - 10000).toNat + 8 * i1.toInt.toNat by unfold Int32.toNatClampNeg; omega)))).1 (by omega)) (by omega)⟩), hT, hM⟩ dX10_isSo_107
      · skip
        refine lv_iconst (v := 1) hx hb dX10_isSo_102 (by decide) ?_
        refine lv_goto (tgt := 107) hx hb dX10_isSo_103 (by decide) ?_
        exact hx_retz hx hb hr rfl hlk hW ⟨(Or.inl ⟨by decide, ((hv_hd_m (F := (hv_F0 rf (8 * i1.toInt.toNat))) (l := x_8.toInt) (r := x_25.toInt) (by rw [ax_8]; exact congrArg (fun z => (rf z).toInt) (show x_7.toNatClampNeg = (t.1 - 1).toNat + 8 * i1.toInt.toNat by unfold Int32.toNatClampNeg; omega)) (by rw [if_pos (by omega)]; exact (by rw [ax_25]; exact congrArg (fun z => (rf z).toInt) (show x_24.toNatClampNeg = (t.2.2 - 10000).toNat + 8 * i1.toInt.toNat by unfold Int32.toNatClampNeg; omega)))).1 (by omega)).mpr (by omega)⟩), hT, hM⟩ dX10_isSo_107
    · refine lv_tableIn (off := 44) (tgt := 108) hx hb dX10_isSo_64 (by omega) (by omega) (by rw [c_28]; rfl) (by decide) ?_
      refine lv_iload_n hx hb dX10_isSo_108 rfl (lv_at hl 2 rfl) ?_
      refine lv_iload hx hb dX10_isSo_109 (lv_at hl 0 rfl) ?_
      refine hb_icmp_gt (zx := x_8.toInt) (zy := x_25.toInt) (tgt := 118) hx hb rfl rfl dX10_isSo_111 (by decide) (fun c_31 => ?_) (fun c_31 => ?_)
      · skip
        refine lv_iconst (v := 0) hx hb dX10_isSo_118 (by decide) ?_
        exact hx_retz hx hb hr rfl hlk hW ⟨(Or.inr ⟨by decide, hv_nb ((hv_hd_m (F := (hv_F0 rf (8 * i1.toInt.toNat))) (l := x_8.toInt) (r := x_25.toInt) (by rw [ax_8]; exact congrArg (fun z => (rf z).toInt) (show x_7.toNatClampNeg = (t.1 - 1).toNat + 8 * i1.toInt.toNat by unfold Int32.toNatClampNeg; omega)) (by rw [if_pos (by omega)]; exact (by rw [ax_25]; exact congrArg (fun z => (rf z).toInt) (show x_24.toNatClampNeg = (t.2.2 - 10000).toNat + 8 * i1.toInt.toNat by unfold Int32.toNatClampNeg; omega)))).2.1 (by omega)) (by omega)⟩), hT, hM⟩ dX10_isSo_119
      · skip
        refine lv_iconst (v := 1) hx hb dX10_isSo_114 (by decide) ?_
        refine lv_goto (tgt := 119) hx hb dX10_isSo_115 (by decide) ?_
        exact hx_retz hx hb hr rfl hlk hW ⟨(Or.inl ⟨by decide, ((hv_hd_m (F := (hv_F0 rf (8 * i1.toInt.toNat))) (l := x_8.toInt) (r := x_25.toInt) (by rw [ax_8]; exact congrArg (fun z => (rf z).toInt) (show x_7.toNatClampNeg = (t.1 - 1).toNat + 8 * i1.toInt.toNat by unfold Int32.toNatClampNeg; omega)) (by rw [if_pos (by omega)]; exact (by rw [ax_25]; exact congrArg (fun z => (rf z).toInt) (show x_24.toNatClampNeg = (t.2.2 - 10000).toNat + 8 * i1.toInt.toNat by unfold Int32.toNatClampNeg; omega)))).2.1 (by omega)).mpr (by omega)⟩), hT, hM⟩ dX10_isSo_119
    · refine lv_tableIn (off := 56) (tgt := 120) hx hb dX10_isSo_64 (by omega) (by omega) (by rw [c_28]; rfl) (by decide) ?_
      refine lv_iload_n hx hb dX10_isSo_120 rfl (lv_at hl 2 rfl) ?_
      refine lv_iload hx hb dX10_isSo_121 (lv_at hl 0 rfl) ?_
      refine hb_icmp_ne (zx := x_8.toInt) (zy := x_25.toInt) (tgt := 130) hx hb rfl rfl dX10_isSo_123 (by decide) (fun c_32 => ?_) (fun c_32 => ?_)
      · skip
        refine lv_iconst (v := 0) hx hb dX10_isSo_130 (by decide) ?_
        exact hx_retz hx hb hr rfl hlk hW ⟨(Or.inr ⟨by decide, hv_nb ((hv_hd_m (F := (hv_F0 rf (8 * i1.toInt.toNat))) (l := x_8.toInt) (r := x_25.toInt) (by rw [ax_8]; exact congrArg (fun z => (rf z).toInt) (show x_7.toNatClampNeg = (t.1 - 1).toNat + 8 * i1.toInt.toNat by unfold Int32.toNatClampNeg; omega)) (by rw [if_pos (by omega)]; exact (by rw [ax_25]; exact congrArg (fun z => (rf z).toInt) (show x_24.toNatClampNeg = (t.2.2 - 10000).toNat + 8 * i1.toInt.toNat by unfold Int32.toNatClampNeg; omega)))).2.2.1 (by omega)) (by omega)⟩), hT, hM⟩ dX10_isSo_131
      · skip
        refine lv_iconst (v := 1) hx hb dX10_isSo_126 (by decide) ?_
        refine lv_goto (tgt := 131) hx hb dX10_isSo_127 (by decide) ?_
        exact hx_retz hx hb hr rfl hlk hW ⟨(Or.inl ⟨by decide, ((hv_hd_m (F := (hv_F0 rf (8 * i1.toInt.toNat))) (l := x_8.toInt) (r := x_25.toInt) (by rw [ax_8]; exact congrArg (fun z => (rf z).toInt) (show x_7.toNatClampNeg = (t.1 - 1).toNat + 8 * i1.toInt.toNat by unfold Int32.toNatClampNeg; omega)) (by rw [if_pos (by omega)]; exact (by rw [ax_25]; exact congrArg (fun z => (rf z).toInt) (show x_24.toNatClampNeg = (t.2.2 - 10000).toNat + 8 * i1.toInt.toNat by unfold Int32.toNatClampNeg; omega)))).2.2.1 (by omega)).mpr (by omega)⟩), hT, hM⟩ dX10_isSo_131
    · refine lv_tableIn (off := 68) (tgt := 132) hx hb dX10_isSo_64 (by omega) (by omega) (by rw [c_28]; rfl) (by decide) ?_
      refine lv_iload_n hx hb dX10_isSo_132 rfl (lv_at hl 2 rfl) ?_
      refine lv_iload hx hb dX10_isSo_133 (lv_at hl 0 rfl) ?_
      refine hb_icmp_lt (zx := x_8.toInt) (zy := x_25.toInt) (tgt := 142) hx hb rfl rfl dX10_isSo_135 (by decide) (fun c_33 => ?_) (fun c_33 => ?_)
      · skip
        refine lv_iconst (v := 0) hx hb dX10_isSo_142 (by decide) ?_
        exact hx_retz hx hb hr rfl hlk hW ⟨(Or.inr ⟨by decide, hv_nb ((hv_hd_m (F := (hv_F0 rf (8 * i1.toInt.toNat))) (l := x_8.toInt) (r := x_25.toInt) (by rw [ax_8]; exact congrArg (fun z => (rf z).toInt) (show x_7.toNatClampNeg = (t.1 - 1).toNat + 8 * i1.toInt.toNat by unfold Int32.toNatClampNeg; omega)) (by rw [if_pos (by omega)]; exact (by rw [ax_25]; exact congrArg (fun z => (rf z).toInt) (show x_24.toNatClampNeg = (t.2.2 - 10000).toNat + 8 * i1.toInt.toNat by unfold Int32.toNatClampNeg; omega)))).2.2.2.1 (by omega)) (by omega)⟩), hT, hM⟩ dX10_isSo_143
      · skip
        refine lv_iconst (v := 1) hx hb dX10_isSo_138 (by decide) ?_
        refine lv_goto (tgt := 143) hx hb dX10_isSo_139 (by decide) ?_
        exact hx_retz hx hb hr rfl hlk hW ⟨(Or.inl ⟨by decide, ((hv_hd_m (F := (hv_F0 rf (8 * i1.toInt.toNat))) (l := x_8.toInt) (r := x_25.toInt) (by rw [ax_8]; exact congrArg (fun z => (rf z).toInt) (show x_7.toNatClampNeg = (t.1 - 1).toNat + 8 * i1.toInt.toNat by unfold Int32.toNatClampNeg; omega)) (by rw [if_pos (by omega)]; exact (by rw [ax_25]; exact congrArg (fun z => (rf z).toInt) (show x_24.toNatClampNeg = (t.2.2 - 10000).toNat + 8 * i1.toInt.toNat by unfold Int32.toNatClampNeg; omega)))).2.2.2.1 (by omega)).mpr (by omega)⟩), hT, hM⟩ dX10_isSo_143


set_option maxHeartbeats 4000000 in
set_option maxRecDepth 100000 in
theorem t_X10_isProved_v (l : Launch) (dC : Nat → ClassId) (dI : Nat → Nat → Nat) (dA : Nat → ClassId) (L : List Nat) (h : hx_h) (sz : Nat) (x : Nat) (i1 : Int32) (i2 : Int32) (hT : hx_T T_tb L h) (gx : hx_g L h x 10) (qn : Nat) (gqn : hx_g L h qn 51) (f_x_4 : h.2.2 x 4 = some qn) (qp : Nat) (gqp : hx_g L h qp 52) (f_x_5 : h.2.2 x 5 = some qp) (qs : Nat) (gqs : hx_g L h qs 99) (f_x_66 : h.2.2 x 66 = some qs) (qf : Nat) (gqf : hx_g L h qf 88) (f_x_53 : h.2.2 x 53 = some qf) (psf : Nat → Int32) (af_qn : h.2.1 qn = psf) (prf : Nat → Int32) (af_qp : h.2.1 qp = prf) (sf : Nat → Int32) (af_qs : h.2.1 qs = sf) (rf : Nat → Int32) (af_qf : h.2.1 qf = rf) (hi1 : 0 ≤ i1.toInt ∧ i1.toInt ≤ 99) (hi2 : 0 ≤ i2.toInt ∧ i2.toInt ≤ 8) (o : List hv_tok) (hO : hv_OK o) (hls : hv_ls (fun i => prf (128 * i2.toInt.toNat + i)) (psf i2.toInt.toNat).toInt.toNat = o.map hv_rc) (hps : (psf i2.toInt.toNat).toInt ≤ 128) : Met l yX10_isProved (Cond.code yX10_isProved cX10_isProved 6 (some .boolean) :: hx_all) ({ frames := 1, cells := 0, slots := 0, locals := 25 }) (va_Pc [.ref x, .int i1, .int i2] (hx_B T_tb (P_ty dA) (dC, dI) vwCl L h sz)) (va_Qi (fun (r : Int32) (u : List Nat × hx_h) => ((r.toInt = 1 ∧ hv_pr (hv_F0 rf (8 * i1.toInt.toNat)) o = true) ∨ (r.toInt = 0 ∧ hv_pr (hv_F0 rf (8 * i1.toInt.toNat)) o = false)) ∧ hx_T T_tb u.1 u.2 ∧ hx_S T_tb [(99, 0)] L h u.1 u.2) (hx_E T_tb (P_ty dA) (dC, dI) vwCl (hx_A L sz)) (hx_A L sz)) 0 0 (hx_A L sz) := by
  refine hx_met (lv := [(0, .ref x), (1, .int i1), (2, .int i2)]) (by decide +kernel) rfl (Nat.le_of_ble_eq_true rfl) rfl ?_
  intro p e s m below meth c hx hb hml hr hlk hts0 hown hin hsz hW ls hl
  have hts : ∀ w ∈ hx_all, w.before _ s = true := fun w hw => hts0 w (List.mem_cons_of_mem _ hw)
  have hown : s.vm.findClass "SmallCourtModel" = some m.cls := hown
  have hM : hx_S T_tb [(99, 0)] L h L h := hx_S.rf
  refine lv_iconst (v := 0) hx hb dX10_isProved_0 (by decide) ?_
  refine lv_istore_n (lv' := [(3, .int (0 : Int32)), (0, .ref x), (1, .int i1), (2, .int i2)]) hx hb dX10_isProved_1 rfl hl (by decide) rfl (fun ls hl => ?_)
  refine lv_iconst (v := 0) hx hb dX10_isProved_2 (by decide) ?_
  refine lv_istore (lv' := [(4, .int (0 : Int32)), (3, .int (0 : Int32)), (0, .ref x), (1, .int i1), (2, .int i2)]) hx hb dX10_isProved_3 hl (by decide) rfl (fun ls hl => ?_)
  have loop5 : ∀ (n5 : Nat) (iv5_3 iv5_4 : Int32) (ia5_qs : Nat → Int32) (H : Heap) (locs : List Loc) (hL1 : List Nat) (hl1 : hx_h), 0 ≤ iv5_3.toInt → iv5_3.toInt ≤ 128 → 0 ≤ iv5_4.toInt → iv5_4.toInt ≤ 128 → (hv_BS ia5_qs (iv5_3.toInt).toNat (hv_ev (hv_F0 rf (8 * i1.toInt.toNat)) (o.drop ((psf i2.toInt.toNat).toInt - iv5_4.toInt).toNat))) → (iv5_4.toInt = 0 ∨ iv5_4.toInt ≤ (psf i2.toInt.toNat).toInt) → ∀ (ls : Array Slot), 128 - iv5_4.toInt < (n5 : Int) → hx_W T_tb (P_ty dA) (dC, dI) vwCl (hx_A L sz) s.heap hL1 hl1 s H locs → hx_T T_tb hL1 hl1 → hx_S T_tb [(99, 0)] L h hL1 hl1 → hl1.2.1 qs = ia5_qs → lv_has ls 6 [(4, .int iv5_4), (3, .int iv5_3), (0, .ref x), (1, .int i1), (2, .int i2)] → W p l e ({ frames := 1, cells := 0, slots := 0, locals := 25 }) s m ([.ref x, .int i1, .int i2] : List Value).toArray below meth c H locs 0 0 (MQ below (va_Qi (fun (r : Int32) (u : List Nat × hx_h) => ((r.toInt = 1 ∧ hv_pr (hv_F0 rf (8 * i1.toInt.toNat)) o = true) ∨ (r.toInt = 0 ∧ hv_pr (hv_F0 rf (8 * i1.toInt.toNat)) o = false)) ∧ hx_T T_tb u.1 u.2 ∧ hx_S T_tb [(99, 0)] L h u.1 u.2) (hx_E T_tb (P_ty dA) (dC, dI) vwCl (hx_A L sz)) (hx_A L sz)) ([.ref x, .int i1, .int i2] : List Value).toArray s 0 0 (hx_A L sz)) (F0 m 5 ls []) := by
    intro n5
    induction n5 with
    | zero => intro iv5_3 iv5_4 ia5_qs H locs hL1 hl1 bliv5_3 buiv5_3 bliv5_4 buiv5_4 vi5_0 vi5_1 ls hn5; exfalso; omega
    | succ n5 ih5 =>
      intro iv5_3 iv5_4 ia5_qs H locs hL1 hl1 bliv5_3 buiv5_3 bliv5_4 buiv5_4 vi5_0 vi5_1 ls hn5 hW hT hM  nia5_qs hl
      refine lv_iload hx hb dX10_isProved_5 (lv_at hl 0 rfl) ?_
      refine lv_aload_n hx hb dX10_isProved_7 rfl (lv_at hl 2 rfl) ?_
      refine hk_getr hx hb hts hC_10 hown hW (gx.S hM) tt_10 4 (by decide) rfl kw_1147 ⟨rfl, rfl, rfl⟩ ((hM.o gx trivial rfl).2.trans f_x_4) dX10_isProved_8 ?_
      refine lv_iload_n hx hb dX10_isProved_11 rfl (lv_at hl 4 rfl) ?_
      refine hx_iald hx hb hW hT (gqn.S hM) tt_51 rfl ⟨by omega, by omega⟩ dX10_isProved_12 (fun x_1 ex_1 lx_1 ux_1 => ?_)
      have ax_1 : x_1 = psf i2.toNatClampNeg := ex_1.trans (congrFun (hx_afS hM gqn rfl af_qn) _)
      have hn9 : x_1.toInt = (psf i2.toInt.toNat).toInt := congrArg Int32.toInt ax_1
      refine hb_icmp_ge (zx := iv5_4.toInt) (zy := x_1.toInt) (tgt := 167) hx hb rfl rfl dX10_isProved_13 (by decide) (fun c_2 => ?_) (fun c_2 => ?_)
      · skip
        refine lv_aload_n hx hb dX10_isProved_167 rfl (lv_at hl 2 rfl) ?_
        refine hk_getr hx hb hts hC_10 hown hW (gx.S hM) tt_10 66 (by decide) rfl kw_1209 ⟨rfl, rfl, rfl⟩ ((hM.o gx trivial rfl).2.trans f_x_66) dX10_isProved_168 ?_
        refine lv_iconst (v := 0) hx hb dX10_isProved_171 (by decide) ?_
        refine hx_zald hx hb hW hT (gqs.S hM) tt_99 rfl (by decide) dX10_isProved_172 (fun x_3 ex_3 lx_3 ux_3 => ?_)
        have ax_3 : x_3 = ia5_qs (0 : Int32).toNatClampNeg := ex_3.trans (congrFun nia5_qs _)
        exact hx_retz hx hb hr (hx_nar01 (by omega)) hlk hW ⟨(by have h8 := vi5_0; rw [show ((psf i2.toInt.toNat).toInt - iv5_4.toInt).toNat = 0 by omega] at h8; exact hv_rE hO h8 (by decide) ax_3), hT, hM⟩ dX10_isProved_173
      · skip
        refine lv_aload_n hx hb dX10_isProved_16 rfl (lv_at hl 2 rfl) ?_
        refine hk_getr hx hb hts hC_10 hown hW (gx.S hM) tt_10 5 (by decide) rfl kw_1148 ⟨rfl, rfl, rfl⟩ ((hM.o gx trivial rfl).2.trans f_x_5) dX10_isProved_17 ?_
        refine lv_sipush (v := 128) hx hb dX10_isProved_20 (by decide) ?_
        refine lv_iload_n hx hb dX10_isProved_23 rfl (lv_at hl 4 rfl) ?_
        refine lv_imul hx hb dX10_isProved_24 ?_
        refine lv_topi (fun x_4 ex_4 => ?_)
        have zx_4 : x_4.toInt = 128 * i2.toInt := by rw [ex_4]; exact i32_mul (by decide) rfl rfl (by omega) (by omega)
        refine lv_iload hx hb dX10_isProved_25 (lv_at hl 0 rfl) ?_
        refine lv_iadd hx hb dX10_isProved_27 ?_
        have rg_5 := i32_r x_4
        have rg_6 := i32_r iv5_4
        refine lv_topi (fun x_7 ex_7 => ?_)
        have zx_7 : x_7.toInt = x_4.toInt + iv5_4.toInt := by rw [ex_7]; exact i32_add rfl rfl (by omega) (by omega)
        refine hx_iald hx hb hW hT (gqp.S hM) tt_52 rfl ⟨by omega, by omega⟩ dX10_isProved_28 (fun x_8 ex_8 lx_8 ux_8 => ?_)
        have ax_8 : x_8 = prf x_7.toNatClampNeg := ex_8.trans (congrFun (hx_afS hM gqp rfl af_qp) _)
        obtain ⟨t9, s9, hs9, hvt9, hv9, hev9, hl9, hh9⟩ := hv_pg (F := (hv_F0 rf (8 * i1.toInt.toNat))) (f := fun i => prf (128 * i2.toInt.toNat + i)) (n := (psf i2.toInt.toNat).toInt) (k := iv5_4.toInt) (ix := iv5_4.toInt.toNat) hls hO (by omega) (by omega) (by omega) (ax_8.trans (congrArg prf (by unfold Int32.toNatClampNeg; omega)))
        have hb9 := vi5_0; rw [← hs9] at hb9
        have hk9 := hv_rc_k hvt9
        have hbl9 := hv_BS_l hb9
        have hro9 : t9.1 = 0 → hv_rc t9 = (t9.2.1 : Int) := fun z => (hv_rc_o hvt9 z).1
        refine lv_istore (lv' := [(5, .int x_8), (4, .int iv5_4), (3, .int iv5_3), (0, .ref x), (1, .int i1), (2, .int i2)]) hx hb dX10_isProved_29 hl (by decide) rfl (fun ls hl => ?_)
        refine lv_iload hx hb dX10_isProved_31 (lv_at hl 0 rfl) ?_
        refine lv_ldcw (v := 1000000) hx hb hown (hts _ kw_1133) dX10_isProved_33 ?_
        refine hb_icmp_lt (zx := x_8.toInt) (zy := 1000000) (tgt := 58) hx hb rfl (by decide) dX10_isProved_36 (by decide) (fun c_9 => ?_) (fun c_9 => ?_)
        · skip
          refine lv_iload hx hb dX10_isProved_58 (lv_at hl 0 rfl) ?_
          refine lv_iconst (v := 2) hx hb dX10_isProved_60 (by decide) ?_
          refine hb_icmp_ne (zx := x_8.toInt) (zy := 2) (tgt := 91) hx hb rfl (by decide) dX10_isProved_61 (by decide) (fun c_10 => ?_) (fun c_10 => ?_)
          · skip
            have hh8 := hh9 (by omega)
            obtain ⟨x_11, ex_11⟩ : ∃ y : Int32, y = iv5_3 + Int32.ofInt (-1) := ⟨_, rfl⟩
            have rg_12 := i32_r iv5_3
            have zx_11 : x_11.toInt = iv5_3.toInt + (-1) := by rw [ex_11]; exact i32_add rfl (by decide) (by omega) (by omega)
            refine lv_iinc (v := x_11) (lv' := [(3, .int x_11), (5, .int x_8), (4, .int iv5_4), (0, .ref x), (1, .int i1), (2, .int i2)]) hx hb dX10_isProved_91 hl (k := 2) rfl ex_11.symm (by decide) rfl (fun ls hl => ?_)
            refine lv_aload_n hx hb dX10_isProved_94 rfl (lv_at hl 3 rfl) ?_
            refine hk_getr hx hb hts hC_10 hown hW (gx.S hM) tt_10 66 (by decide) rfl kw_1209 ⟨rfl, rfl, rfl⟩ ((hM.o gx trivial rfl).2.trans f_x_66) dX10_isProved_95 ?_
            refine lv_iload_n hx hb dX10_isProved_98 rfl (lv_at hl 0 rfl) ?_
            refine lv_iconst (v := 1) hx hb dX10_isProved_99 (by decide) ?_
            refine lv_isub hx hb dX10_isProved_100 ?_
            have rg_13 := i32_r x_11
            refine lv_topi (fun x_14 ex_14 => ?_)
            have zx_14 : x_14.toInt = x_11.toInt - 1 := by rw [ex_14]; exact i32_sub rfl (by decide) (by omega) (by omega)
            refine lv_iload hx hb dX10_isProved_101 (lv_at hl 1 rfl) ?_
            refine lv_iconst (v := 1) hx hb dX10_isProved_103 (by decide) ?_
            refine hb_icmp_ne (zx := x_8.toInt) (zy := 1) (tgt := 135) hx hb rfl (by decide) dX10_isProved_104 (by decide) (fun c_15 => ?_) (fun c_15 => ?_)
            · skip
              refine lv_aload_n hx hb dX10_isProved_135 rfl (lv_at hl 3 rfl) ?_
              refine hk_getr hx hb hts hC_10 hown hW (gx.S hM) tt_10 66 (by decide) rfl kw_1209 ⟨rfl, rfl, rfl⟩ ((hM.o gx trivial rfl).2.trans f_x_66) dX10_isProved_136 ?_
              refine lv_iload_n hx hb dX10_isProved_139 rfl (lv_at hl 0 rfl) ?_
              refine lv_iconst (v := 1) hx hb dX10_isProved_140 (by decide) ?_
              refine lv_isub hx hb dX10_isProved_141 ?_
              refine lv_topi (fun x_16 ex_16 => ?_)
              have zx_16 : x_16.toInt = x_11.toInt - 1 := by rw [ex_16]; exact i32_sub rfl (by decide) (by omega) (by omega)
              obtain rfl : x_14 = x_16 := ex_14.trans ex_16.symm
              refine hx_zald hx hb hW hT (gqs.S hM) tt_99 rfl ⟨by omega, by omega⟩ dX10_isProved_142 (fun x_17 ex_17 lx_17 ux_17 => ?_)
              have ax_17 : x_17 = ia5_qs x_14.toNatClampNeg := ex_17.trans (congrFun nia5_qs _)
              refine hb_if_ne (zx := x_17.toInt) (tgt := 155) hx hb rfl dX10_isProved_143 (by decide) (fun c_18 => ?_) (fun c_18 => ?_)
              · skip
                refine lv_iconst (v := 1) hx hb dX10_isProved_155 (by decide) ?_
                refine lv_goto (tgt := 160) hx hb dX10_isProved_156 (by decide) ?_
                have nia5_qsO := nia5_qs
                refine hx_zast hx hb hW hT (hx_S.rf (M := [(99, 0)])) (gqs.S hM) tt_99 rfl ⟨by omega, by omega⟩ (y := 1) (by decide) (by decide) (List.mem_singleton.mpr rfl) dX10_isProved_160 (fun H locs h_19 eh_19 hW hT hs => ?_)
                replace ex_1 := ex_1.trans (hs.a (gqn.S hM) rfl _).1.symm
                replace ex_8 := ex_8.trans (hs.a (gqp.S hM) rfl _).1.symm
                replace hM := hM.tr (hs.mono (by decide))
                obtain ⟨fa_20, dfa_20⟩ : ∃ g : Nat → Int32, g = hx_up ia5_qs x_14.toNatClampNeg (1 : Int32) := ⟨_, rfl⟩
                have nfa_20 : h_19.2.1 qs = fa_20 := by rw [eh_19, dfa_20, ← nia5_qsO]; exact hx_pi_fun _ _ _ _
                obtain ⟨x_21, ex_21⟩ : ∃ y : Int32, y = iv5_4 + Int32.ofInt 1 := ⟨_, rfl⟩
                have zx_21 : x_21.toInt = iv5_4.toInt + (1) := by rw [ex_21]; exact i32_add rfl (by decide) (by omega) (by omega)
                refine lv_iinc (v := x_21) (lv' := [(4, .int x_21), (3, .int x_11), (5, .int x_8), (0, .ref x), (1, .int i1), (2, .int i2)]) hx hb dX10_isProved_161 hl (k := 2) rfl ex_21.symm (by decide) rfl (fun ls hl => ?_)
                refine lv_goto (tgt := 5) hx hb dX10_isProved_164 (by decide) ?_
                exact ih5 x_11 x_21 fa_20 _ _ hL1 h_19 (by omega) (by omega) (by omega) (by omega) (by rw [zx_21, hev9]; exact hv_rB hb9 (by omega) (by omega) (by unfold Int32.toNatClampNeg; omega) (iy := x_11.toNatClampNeg) (by unfold Int32.toNatClampNeg; omega) ax_17 rfl (by have zv : (1 : Int32).toInt = 1 := (by decide); omega) dfa_20 (by omega)) (by omega) ls (by omega) hW hT hM  nfa_20 (lv_sub hl [0, 1, 3, 4, 5] rfl)
              · skip
                refine lv_aload_n hx hb dX10_isProved_146 rfl (lv_at hl 3 rfl) ?_
                refine hk_getr hx hb hts hC_10 hown hW (gx.S hM) tt_10 66 (by decide) rfl kw_1209 ⟨rfl, rfl, rfl⟩ ((hM.o gx trivial rfl).2.trans f_x_66) dX10_isProved_147 ?_
                refine lv_iload_n hx hb dX10_isProved_150 rfl (lv_at hl 0 rfl) ?_
                refine hx_zald hx hb hW hT (gqs.S hM) tt_99 rfl ⟨by omega, by omega⟩ dX10_isProved_151 (fun x_22 ex_22 lx_22 ux_22 => ?_)
                have ax_22 : x_22 = ia5_qs x_11.toNatClampNeg := ex_22.trans (congrFun nia5_qs _)
                refine hb_if_eq (zx := x_22.toInt) (tgt := 159) hx hb rfl dX10_isProved_152 (by decide) (fun c_23 => ?_) (fun c_23 => ?_)
                · skip
                  refine lv_iconst (v := 0) hx hb dX10_isProved_159 (by decide) ?_
                  have nia5_qsO := nia5_qs
                  refine hx_zast hx hb hW hT (hx_S.rf (M := [(99, 0)])) (gqs.S hM) tt_99 rfl ⟨by omega, by omega⟩ (y := 0) (by decide) (by decide) (List.mem_singleton.mpr rfl) dX10_isProved_160 (fun H locs h_24 eh_24 hW hT hs => ?_)
                  replace ex_1 := ex_1.trans (hs.a (gqn.S hM) rfl _).1.symm
                  replace ex_8 := ex_8.trans (hs.a (gqp.S hM) rfl _).1.symm
                  replace hM := hM.tr (hs.mono (by decide))
                  obtain ⟨fa_25, dfa_25⟩ : ∃ g : Nat → Int32, g = hx_up ia5_qs x_14.toNatClampNeg (0 : Int32) := ⟨_, rfl⟩
                  have nfa_25 : h_24.2.1 qs = fa_25 := by rw [eh_24, dfa_25, ← nia5_qsO]; exact hx_pi_fun _ _ _ _
                  obtain ⟨x_26, ex_26⟩ : ∃ y : Int32, y = iv5_4 + Int32.ofInt 1 := ⟨_, rfl⟩
                  have zx_26 : x_26.toInt = iv5_4.toInt + (1) := by rw [ex_26]; exact i32_add rfl (by decide) (by omega) (by omega)
                  refine lv_iinc (v := x_26) (lv' := [(4, .int x_26), (3, .int x_11), (5, .int x_8), (0, .ref x), (1, .int i1), (2, .int i2)]) hx hb dX10_isProved_161 hl (k := 2) rfl ex_26.symm (by decide) rfl (fun ls hl => ?_)
                  refine lv_goto (tgt := 5) hx hb dX10_isProved_164 (by decide) ?_
                  exact ih5 x_11 x_26 fa_25 _ _ hL1 h_24 (by omega) (by omega) (by omega) (by omega) (by rw [zx_26, hev9]; exact hv_rB hb9 (by omega) (by omega) (by unfold Int32.toNatClampNeg; omega) (iy := x_11.toNatClampNeg) (by unfold Int32.toNatClampNeg; omega) ax_17 ax_22 (by have zv : (0 : Int32).toInt = 0 := (by decide); omega) dfa_25 (by omega)) (by omega) ls (by omega) hW hT hM  nfa_25 (lv_sub hl [0, 1, 3, 4, 5] rfl)
                · skip
                  refine lv_iconst (v := 1) hx hb dX10_isProved_155 (by decide) ?_
                  refine lv_goto (tgt := 160) hx hb dX10_isProved_156 (by decide) ?_
                  have nia5_qsO := nia5_qs
                  refine hx_zast hx hb hW hT (hx_S.rf (M := [(99, 0)])) (gqs.S hM) tt_99 rfl ⟨by omega, by omega⟩ (y := 1) (by decide) (by decide) (List.mem_singleton.mpr rfl) dX10_isProved_160 (fun H locs h_27 eh_27 hW hT hs => ?_)
                  replace ex_1 := ex_1.trans (hs.a (gqn.S hM) rfl _).1.symm
                  replace ex_8 := ex_8.trans (hs.a (gqp.S hM) rfl _).1.symm
                  replace hM := hM.tr (hs.mono (by decide))
                  obtain ⟨fa_28, dfa_28⟩ : ∃ g : Nat → Int32, g = hx_up ia5_qs x_14.toNatClampNeg (1 : Int32) := ⟨_, rfl⟩
                  have nfa_28 : h_27.2.1 qs = fa_28 := by rw [eh_27, dfa_28, ← nia5_qsO]; exact hx_pi_fun _ _ _ _
                  obtain ⟨x_29, ex_29⟩ : ∃ y : Int32, y = iv5_4 + Int32.ofInt 1 := ⟨_, rfl⟩
                  have zx_29 : x_29.toInt = iv5_4.toInt + (1) := by rw [ex_29]; exact i32_add rfl (by decide) (by omega) (by omega)
                  refine lv_iinc (v := x_29) (lv' := [(4, .int x_29), (3, .int x_11), (5, .int x_8), (0, .ref x), (1, .int i1), (2, .int i2)]) hx hb dX10_isProved_161 hl (k := 2) rfl ex_29.symm (by decide) rfl (fun ls hl => ?_)
                  refine lv_goto (tgt := 5) hx hb dX10_isProved_164 (by decide) ?_
                  exact ih5 x_11 x_29 fa_28 _ _ hL1 h_27 (by omega) (by omega) (by omega) (by omega) (by rw [zx_29, hev9]; exact hv_rB hb9 (by omega) (by omega) (by unfold Int32.toNatClampNeg; omega) (iy := x_11.toNatClampNeg) (by unfold Int32.toNatClampNeg; omega) ax_17 ax_22 (by have zv : (1 : Int32).toInt = 1 := (by decide); omega) dfa_28 (by omega)) (by omega) ls (by omega) hW hT hM  nfa_28 (lv_sub hl [0, 1, 3, 4, 5] rfl)
            · skip
              refine lv_aload_n hx hb dX10_isProved_107 rfl (lv_at hl 3 rfl) ?_
              refine hk_getr hx hb hts hC_10 hown hW (gx.S hM) tt_10 66 (by decide) rfl kw_1209 ⟨rfl, rfl, rfl⟩ ((hM.o gx trivial rfl).2.trans f_x_66) dX10_isProved_108 ?_
              refine lv_iload_n hx hb dX10_isProved_111 rfl (lv_at hl 0 rfl) ?_
              refine lv_iconst (v := 1) hx hb dX10_isProved_112 (by decide) ?_
              refine lv_isub hx hb dX10_isProved_113 ?_
              refine lv_topi (fun x_30 ex_30 => ?_)
              have zx_30 : x_30.toInt = x_11.toInt - 1 := by rw [ex_30]; exact i32_sub rfl (by decide) (by omega) (by omega)
              obtain rfl : x_14 = x_30 := ex_14.trans ex_30.symm
              refine hx_zald hx hb hW hT (gqs.S hM) tt_99 rfl ⟨by omega, by omega⟩ dX10_isProved_114 (fun x_31 ex_31 lx_31 ux_31 => ?_)
              have ax_31 : x_31 = ia5_qs x_14.toNatClampNeg := ex_31.trans (congrFun nia5_qs _)
              refine hb_if_eq (zx := x_31.toInt) (tgt := 131) hx hb rfl dX10_isProved_115 (by decide) (fun c_32 => ?_) (fun c_32 => ?_)
              · skip
                refine lv_iconst (v := 0) hx hb dX10_isProved_131 (by decide) ?_
                refine lv_goto (tgt := 160) hx hb dX10_isProved_132 (by decide) ?_
                have nia5_qsO := nia5_qs
                refine hx_zast hx hb hW hT (hx_S.rf (M := [(99, 0)])) (gqs.S hM) tt_99 rfl ⟨by omega, by omega⟩ (y := 0) (by decide) (by decide) (List.mem_singleton.mpr rfl) dX10_isProved_160 (fun H locs h_33 eh_33 hW hT hs => ?_)
                replace ex_1 := ex_1.trans (hs.a (gqn.S hM) rfl _).1.symm
                replace ex_8 := ex_8.trans (hs.a (gqp.S hM) rfl _).1.symm
                replace hM := hM.tr (hs.mono (by decide))
                obtain ⟨fa_34, dfa_34⟩ : ∃ g : Nat → Int32, g = hx_up ia5_qs x_14.toNatClampNeg (0 : Int32) := ⟨_, rfl⟩
                have nfa_34 : h_33.2.1 qs = fa_34 := by rw [eh_33, dfa_34, ← nia5_qsO]; exact hx_pi_fun _ _ _ _
                obtain ⟨x_35, ex_35⟩ : ∃ y : Int32, y = iv5_4 + Int32.ofInt 1 := ⟨_, rfl⟩
                have zx_35 : x_35.toInt = iv5_4.toInt + (1) := by rw [ex_35]; exact i32_add rfl (by decide) (by omega) (by omega)
                refine lv_iinc (v := x_35) (lv' := [(4, .int x_35), (3, .int x_11), (5, .int x_8), (0, .ref x), (1, .int i1), (2, .int i2)]) hx hb dX10_isProved_161 hl (k := 2) rfl ex_35.symm (by decide) rfl (fun ls hl => ?_)
                refine lv_goto (tgt := 5) hx hb dX10_isProved_164 (by decide) ?_
                exact ih5 x_11 x_35 fa_34 _ _ hL1 h_33 (by omega) (by omega) (by omega) (by omega) (by rw [zx_35, hev9]; exact hv_rB hb9 (by omega) (by omega) (by unfold Int32.toNatClampNeg; omega) (iy := x_11.toNatClampNeg) (by unfold Int32.toNatClampNeg; omega) ax_31 rfl (by have zv : (0 : Int32).toInt = 0 := (by decide); omega) dfa_34 (by omega)) (by omega) ls (by omega) hW hT hM  nfa_34 (lv_sub hl [0, 1, 3, 4, 5] rfl)
              · skip
                refine lv_aload_n hx hb dX10_isProved_118 rfl (lv_at hl 3 rfl) ?_
                refine hk_getr hx hb hts hC_10 hown hW (gx.S hM) tt_10 66 (by decide) rfl kw_1209 ⟨rfl, rfl, rfl⟩ ((hM.o gx trivial rfl).2.trans f_x_66) dX10_isProved_119 ?_
                refine lv_iload_n hx hb dX10_isProved_122 rfl (lv_at hl 0 rfl) ?_
                refine hx_zald hx hb hW hT (gqs.S hM) tt_99 rfl ⟨by omega, by omega⟩ dX10_isProved_123 (fun x_36 ex_36 lx_36 ux_36 => ?_)
                have ax_36 : x_36 = ia5_qs x_11.toNatClampNeg := ex_36.trans (congrFun nia5_qs _)
                refine hb_if_eq (zx := x_36.toInt) (tgt := 131) hx hb rfl dX10_isProved_124 (by decide) (fun c_37 => ?_) (fun c_37 => ?_)
                · skip
                  refine lv_iconst (v := 0) hx hb dX10_isProved_131 (by decide) ?_
                  refine lv_goto (tgt := 160) hx hb dX10_isProved_132 (by decide) ?_
                  have nia5_qsO := nia5_qs
                  refine hx_zast hx hb hW hT (hx_S.rf (M := [(99, 0)])) (gqs.S hM) tt_99 rfl ⟨by omega, by omega⟩ (y := 0) (by decide) (by decide) (List.mem_singleton.mpr rfl) dX10_isProved_160 (fun H locs h_38 eh_38 hW hT hs => ?_)
                  replace ex_1 := ex_1.trans (hs.a (gqn.S hM) rfl _).1.symm
                  replace ex_8 := ex_8.trans (hs.a (gqp.S hM) rfl _).1.symm
                  replace hM := hM.tr (hs.mono (by decide))
                  obtain ⟨fa_39, dfa_39⟩ : ∃ g : Nat → Int32, g = hx_up ia5_qs x_14.toNatClampNeg (0 : Int32) := ⟨_, rfl⟩
                  have nfa_39 : h_38.2.1 qs = fa_39 := by rw [eh_38, dfa_39, ← nia5_qsO]; exact hx_pi_fun _ _ _ _
                  obtain ⟨x_40, ex_40⟩ : ∃ y : Int32, y = iv5_4 + Int32.ofInt 1 := ⟨_, rfl⟩
                  have zx_40 : x_40.toInt = iv5_4.toInt + (1) := by rw [ex_40]; exact i32_add rfl (by decide) (by omega) (by omega)
                  refine lv_iinc (v := x_40) (lv' := [(4, .int x_40), (3, .int x_11), (5, .int x_8), (0, .ref x), (1, .int i1), (2, .int i2)]) hx hb dX10_isProved_161 hl (k := 2) rfl ex_40.symm (by decide) rfl (fun ls hl => ?_)
                  refine lv_goto (tgt := 5) hx hb dX10_isProved_164 (by decide) ?_
                  exact ih5 x_11 x_40 fa_39 _ _ hL1 h_38 (by omega) (by omega) (by omega) (by omega) (by rw [zx_40, hev9]; exact hv_rB hb9 (by omega) (by omega) (by unfold Int32.toNatClampNeg; omega) (iy := x_11.toNatClampNeg) (by unfold Int32.toNatClampNeg; omega) ax_31 ax_36 (by have zv : (0 : Int32).toInt = 0 := (by decide); omega) dfa_39 (by omega)) (by omega) ls (by omega) hW hT hM  nfa_39 (lv_sub hl [0, 1, 3, 4, 5] rfl)
                · skip
                  refine lv_iconst (v := 1) hx hb dX10_isProved_127 (by decide) ?_
                  refine lv_goto (tgt := 160) hx hb dX10_isProved_128 (by decide) ?_
                  have nia5_qsO := nia5_qs
                  refine hx_zast hx hb hW hT (hx_S.rf (M := [(99, 0)])) (gqs.S hM) tt_99 rfl ⟨by omega, by omega⟩ (y := 1) (by decide) (by decide) (List.mem_singleton.mpr rfl) dX10_isProved_160 (fun H locs h_41 eh_41 hW hT hs => ?_)
                  replace ex_1 := ex_1.trans (hs.a (gqn.S hM) rfl _).1.symm
                  replace ex_8 := ex_8.trans (hs.a (gqp.S hM) rfl _).1.symm
                  replace hM := hM.tr (hs.mono (by decide))
                  obtain ⟨fa_42, dfa_42⟩ : ∃ g : Nat → Int32, g = hx_up ia5_qs x_14.toNatClampNeg (1 : Int32) := ⟨_, rfl⟩
                  have nfa_42 : h_41.2.1 qs = fa_42 := by rw [eh_41, dfa_42, ← nia5_qsO]; exact hx_pi_fun _ _ _ _
                  obtain ⟨x_43, ex_43⟩ : ∃ y : Int32, y = iv5_4 + Int32.ofInt 1 := ⟨_, rfl⟩
                  have zx_43 : x_43.toInt = iv5_4.toInt + (1) := by rw [ex_43]; exact i32_add rfl (by decide) (by omega) (by omega)
                  refine lv_iinc (v := x_43) (lv' := [(4, .int x_43), (3, .int x_11), (5, .int x_8), (0, .ref x), (1, .int i1), (2, .int i2)]) hx hb dX10_isProved_161 hl (k := 2) rfl ex_43.symm (by decide) rfl (fun ls hl => ?_)
                  refine lv_goto (tgt := 5) hx hb dX10_isProved_164 (by decide) ?_
                  exact ih5 x_11 x_43 fa_42 _ _ hL1 h_41 (by omega) (by omega) (by omega) (by omega) (by rw [zx_43, hev9]; exact hv_rB hb9 (by omega) (by omega) (by unfold Int32.toNatClampNeg; omega) (iy := x_11.toNatClampNeg) (by unfold Int32.toNatClampNeg; omega) ax_31 ax_36 (by have zv : (1 : Int32).toInt = 1 := (by decide); omega) dfa_42 (by omega)) (by omega) ls (by omega) hW hT hM  nfa_42 (lv_sub hl [0, 1, 3, 4, 5] rfl)
          · skip
            refine lv_aload_n hx hb dX10_isProved_64 rfl (lv_at hl 3 rfl) ?_
            refine hk_getr hx hb hts hC_10 hown hW (gx.S hM) tt_10 66 (by decide) rfl kw_1209 ⟨rfl, rfl, rfl⟩ ((hM.o gx trivial rfl).2.trans f_x_66) dX10_isProved_65 ?_
            refine lv_iload_n hx hb dX10_isProved_68 rfl (lv_at hl 2 rfl) ?_
            refine lv_iconst (v := 1) hx hb dX10_isProved_69 (by decide) ?_
            refine lv_isub hx hb dX10_isProved_70 ?_
            have rg_44 := i32_r iv5_3
            refine lv_topi (fun x_45 ex_45 => ?_)
            have zx_45 : x_45.toInt = iv5_3.toInt - 1 := by rw [ex_45]; exact i32_sub rfl (by decide) (by omega) (by omega)
            refine lv_aload_n hx hb dX10_isProved_71 rfl (lv_at hl 3 rfl) ?_
            refine hk_getr hx hb hts hC_10 hown hW (gx.S hM) tt_10 66 (by decide) rfl kw_1209 ⟨rfl, rfl, rfl⟩ ((hM.o gx trivial rfl).2.trans f_x_66) dX10_isProved_72 ?_
            refine lv_iload_n hx hb dX10_isProved_75 rfl (lv_at hl 2 rfl) ?_
            refine lv_iconst (v := 1) hx hb dX10_isProved_76 (by decide) ?_
            refine lv_isub hx hb dX10_isProved_77 ?_
            refine lv_topi (fun x_46 ex_46 => ?_)
            have zx_46 : x_46.toInt = iv5_3.toInt - 1 := by rw [ex_46]; exact i32_sub rfl (by decide) (by omega) (by omega)
            obtain rfl : x_45 = x_46 := ex_45.trans ex_46.symm
            refine hx_zald hx hb hW hT (gqs.S hM) tt_99 rfl ⟨by omega, by omega⟩ dX10_isProved_78 (fun x_47 ex_47 lx_47 ux_47 => ?_)
            have ax_47 : x_47 = ia5_qs x_45.toNatClampNeg := ex_47.trans (congrFun nia5_qs _)
            refine hb_if_ne (zx := x_47.toInt) (tgt := 86) hx hb rfl dX10_isProved_79 (by decide) (fun c_48 => ?_) (fun c_48 => ?_)
            · skip
              refine lv_iconst (v := 0) hx hb dX10_isProved_86 (by decide) ?_
              have nia5_qsO := nia5_qs
              refine hx_zast hx hb hW hT (hx_S.rf (M := [(99, 0)])) (gqs.S hM) tt_99 rfl ⟨by omega, by omega⟩ (y := 0) (by decide) (by decide) (List.mem_singleton.mpr rfl) dX10_isProved_87 (fun H locs h_49 eh_49 hW hT hs => ?_)
              replace ex_1 := ex_1.trans (hs.a (gqn.S hM) rfl _).1.symm
              replace ex_8 := ex_8.trans (hs.a (gqp.S hM) rfl _).1.symm
              replace hM := hM.tr (hs.mono (by decide))
              obtain ⟨fa_50, dfa_50⟩ : ∃ g : Nat → Int32, g = hx_up ia5_qs x_45.toNatClampNeg (0 : Int32) := ⟨_, rfl⟩
              have nfa_50 : h_49.2.1 qs = fa_50 := by rw [eh_49, dfa_50, ← nia5_qsO]; exact hx_pi_fun _ _ _ _
              refine lv_goto (tgt := 161) hx hb dX10_isProved_88 (by decide) ?_
              obtain ⟨x_51, ex_51⟩ : ∃ y : Int32, y = iv5_4 + Int32.ofInt 1 := ⟨_, rfl⟩
              have zx_51 : x_51.toInt = iv5_4.toInt + (1) := by rw [ex_51]; exact i32_add rfl (by decide) (by omega) (by omega)
              refine lv_iinc (v := x_51) (lv' := [(4, .int x_51), (5, .int x_8), (3, .int iv5_3), (0, .ref x), (1, .int i1), (2, .int i2)]) hx hb dX10_isProved_161 hl (k := 1) rfl ex_51.symm (by decide) rfl (fun ls hl => ?_)
              refine lv_goto (tgt := 5) hx hb dX10_isProved_164 (by decide) ?_
              exact ih5 iv5_3 x_51 fa_50 _ _ hL1 h_49 (by omega) (by omega) (by omega) (by omega) (by rw [zx_51, hev9]; exact hv_rN hb9 (by omega) (by omega) (by have := hh9 (by omega); omega) (by unfold Int32.toNatClampNeg; omega) ax_47 (by have zv : (0 : Int32).toInt = 0 := (by decide); omega) dfa_50) (by omega) ls (by omega) hW hT hM  nfa_50 (lv_sub hl [0, 2, 3, 4, 5] rfl)
            · skip
              refine lv_iconst (v := 1) hx hb dX10_isProved_82 (by decide) ?_
              refine lv_goto (tgt := 87) hx hb dX10_isProved_83 (by decide) ?_
              have nia5_qsO := nia5_qs
              refine hx_zast hx hb hW hT (hx_S.rf (M := [(99, 0)])) (gqs.S hM) tt_99 rfl ⟨by omega, by omega⟩ (y := 1) (by decide) (by decide) (List.mem_singleton.mpr rfl) dX10_isProved_87 (fun H locs h_52 eh_52 hW hT hs => ?_)
              replace ex_1 := ex_1.trans (hs.a (gqn.S hM) rfl _).1.symm
              replace ex_8 := ex_8.trans (hs.a (gqp.S hM) rfl _).1.symm
              replace hM := hM.tr (hs.mono (by decide))
              obtain ⟨fa_53, dfa_53⟩ : ∃ g : Nat → Int32, g = hx_up ia5_qs x_45.toNatClampNeg (1 : Int32) := ⟨_, rfl⟩
              have nfa_53 : h_52.2.1 qs = fa_53 := by rw [eh_52, dfa_53, ← nia5_qsO]; exact hx_pi_fun _ _ _ _
              refine lv_goto (tgt := 161) hx hb dX10_isProved_88 (by decide) ?_
              obtain ⟨x_54, ex_54⟩ : ∃ y : Int32, y = iv5_4 + Int32.ofInt 1 := ⟨_, rfl⟩
              have zx_54 : x_54.toInt = iv5_4.toInt + (1) := by rw [ex_54]; exact i32_add rfl (by decide) (by omega) (by omega)
              refine lv_iinc (v := x_54) (lv' := [(4, .int x_54), (5, .int x_8), (3, .int iv5_3), (0, .ref x), (1, .int i1), (2, .int i2)]) hx hb dX10_isProved_161 hl (k := 1) rfl ex_54.symm (by decide) rfl (fun ls hl => ?_)
              refine lv_goto (tgt := 5) hx hb dX10_isProved_164 (by decide) ?_
              exact ih5 iv5_3 x_54 fa_53 _ _ hL1 h_52 (by omega) (by omega) (by omega) (by omega) (by rw [zx_54, hev9]; exact hv_rN hb9 (by omega) (by omega) (by have := hh9 (by omega); omega) (by unfold Int32.toNatClampNeg; omega) ax_47 (by have zv : (1 : Int32).toInt = 1 := (by decide); omega) dfa_53) (by omega) ls (by omega) hW hT hM  nfa_53 (lv_sub hl [0, 2, 3, 4, 5] rfl)
        · skip
          refine lv_aload_n hx hb dX10_isProved_39 rfl (lv_at hl 3 rfl) ?_
          refine hk_getr hx hb hts hC_10 hown hW (gx.S hM) tt_10 66 (by decide) rfl kw_1209 ⟨rfl, rfl, rfl⟩ ((hM.o gx trivial rfl).2.trans f_x_66) dX10_isProved_40 ?_
          refine lv_iload_n hx hb dX10_isProved_43 rfl (lv_at hl 2 rfl) ?_
          refine lv_aload_n hx hb dX10_isProved_44 rfl (lv_at hl 3 rfl) ?_
          refine lv_iload_n hx hb dX10_isProved_45 rfl (lv_at hl 4 rfl) ?_
          refine lv_iload hx hb dX10_isProved_46 (lv_at hl 0 rfl) ?_
          refine hx_goi (hx_runV (As := [.int i1, .int x_8]) (rest := [.int iv5_3, .ref qs]) ⟨hx, hb, hml, hown, hts⟩ hW (gx.S hM) tt_10 (T := TX10) (N := 98) rfl (t_X10_isSo_v l dC dI dA hL1 hl1 H.size x i1 x_8 hT (gx.S hM) qf (gqf.S hM) ((hM.o gx trivial rfl).2.trans f_x_53) rf (hx_afS hM gqf rfl af_qf) ⟨by omega, by omega⟩ t9 hvt9 (by omega) hv9) (cwV 2 hts (hx_gV kw_1629 kw_1626 kw_1628 kw_80 kw_103) rfl rfl rfl (by decide +kernel) ⟨Nat.le_of_ble_eq_true rfl, Nat.le_of_ble_eq_true rfl⟩) rfl hl.1 rfl (Nat.le_of_ble_eq_true rfl) dX10_isProved_48 ⟨Nat.le_of_ble_eq_true rfl, Nat.le_of_ble_eq_true rfl⟩) hW (fun r_57 L_55 h_56 H locs p_58 hW => ?_)
          obtain ⟨hr_59, hT, hs⟩ := p_58
          replace hT : hx_T T_tb L_55 h_56 := hT
          replace hs : hx_S T_tb [] hL1 hl1 L_55 h_56 := hs
          replace nia5_qs : h_56.2.1 qs = ia5_qs := (funext fun j => (hs.a (gqs.S hM) rfl j).1).trans nia5_qs
          replace ex_1 := ex_1.trans (hs.a (gqn.S hM) rfl _).1.symm
          replace ex_8 := ex_8.trans (hs.a (gqp.S hM) rfl _).1.symm
          replace hM := hM.tr (hs.mono (by decide))
          have nia5_qsO := nia5_qs
          refine hx_zast hx hb hW hT (hx_S.rf (M := [(99, 0)])) (gqs.S hM) tt_99 rfl ⟨by omega, by omega⟩ (y := r_57) (hx_nz01 (by omega)) ⟨by omega, by omega⟩ (List.mem_singleton.mpr rfl) dX10_isProved_51 (fun H locs h_60 eh_60 hW hT hs => ?_)
          replace ex_1 := ex_1.trans (hs.a (gqn.S hM) rfl _).1.symm
          replace ex_8 := ex_8.trans (hs.a (gqp.S hM) rfl _).1.symm
          replace hM := hM.tr (hs.mono (by decide))
          obtain ⟨fa_61, dfa_61⟩ : ∃ g : Nat → Int32, g = hx_up ia5_qs iv5_3.toNatClampNeg r_57 := ⟨_, rfl⟩
          have nfa_61 : h_60.2.1 qs = fa_61 := by rw [eh_60, dfa_61, ← nia5_qsO]; exact hx_pi_fun _ _ _ _
          obtain ⟨x_62, ex_62⟩ : ∃ y : Int32, y = iv5_3 + Int32.ofInt 1 := ⟨_, rfl⟩
          have rg_63 := i32_r iv5_3
          have zx_62 : x_62.toInt = iv5_3.toInt + (1) := by rw [ex_62]; exact i32_add rfl (by decide) (by omega) (by omega)
          refine lv_iinc (v := x_62) (lv' := [(3, .int x_62), (5, .int x_8), (4, .int iv5_4), (0, .ref x), (1, .int i1), (2, .int i2)]) hx hb dX10_isProved_52 hl (k := 2) rfl ex_62.symm (by decide) rfl (fun ls hl => ?_)
          refine lv_goto (tgt := 161) hx hb dX10_isProved_55 (by decide) ?_
          obtain ⟨x_64, ex_64⟩ : ∃ y : Int32, y = iv5_4 + Int32.ofInt 1 := ⟨_, rfl⟩
          have zx_64 : x_64.toInt = iv5_4.toInt + (1) := by rw [ex_64]; exact i32_add rfl (by decide) (by omega) (by omega)
          refine lv_iinc (v := x_64) (lv' := [(4, .int x_64), (3, .int x_62), (5, .int x_8), (0, .ref x), (1, .int i1), (2, .int i2)]) hx hb dX10_isProved_161 hl (k := 2) rfl ex_64.symm (by decide) rfl (fun ls hl => ?_)
          refine lv_goto (tgt := 5) hx hb dX10_isProved_164 (by decide) ?_
          exact ih5 x_62 x_64 fa_61 _ _ L_55 h_60 (by omega) (by omega) (by omega) (by omega) (by rw [zx_64, hev9]; exact hv_rP hb9 (by omega) (by omega) hr_59 (by unfold Int32.toNatClampNeg; omega) dfa_61 (by omega)) (by omega) ls (by omega) hW hT hM  nfa_61 (lv_sub hl [0, 1, 3, 4, 5] rfl)
  have zk_0 : (0 : Int32).toInt = 0 := by decide
  have zk_0 : (0 : Int32).toInt = 0 := by decide
  exact loop5 129 (0 : Int32) (0 : Int32) sf _ _ L h (by decide) (by decide) (by decide) (by decide) (by rw [hv_d0 hls zk_0]; exact hv_BS_0) (by omega) ls (by omega) hW hT hM  af_qs hl
