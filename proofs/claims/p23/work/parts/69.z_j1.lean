
set_option maxHeartbeats 4000000 in
set_option maxRecDepth 100000 in
theorem t_X0_holds_v (l : Launch) (dC : Nat → ClassId) (dI : Nat → Nat → Nat) (dA : Nat → ClassId) (L : List Nat) (h : hx_h) (sz : Nat) (i1 : Int32) (v1 : Nat) (hT : hx_T T_tb L h) (gv1 : hx_g L h v1 20) (ff : Nat → Int32) (af_v1 : h.2.1 v1 = ff) (t : hv_tok) (hvt : hv_vt t) (ht1 : 1 ≤ t.1) (hi1 : i1.toInt = hv_cc t) : Met l yX0_holds (Cond.code yX0_holds cX0_holds 5 (some .boolean) :: hx_all) ({ frames := 0, cells := 0, slots := 0, locals := 0 }) (va_Pc [.int i1, .ref v1] (hx_B T_tb (P_ty dA) (dC, dI) vwCl L h sz)) (va_Qi (fun (r : Int32) (u : List Nat × hx_h) => ((r.toInt = 1 ∧ hv_hd (hv_F0 ff 0) t = true) ∨ (r.toInt = 0 ∧ hv_hd (hv_F0 ff 0) t = false)) ∧ hx_T T_tb u.1 u.2 ∧ hx_S T_tb [] L h u.1 u.2) (hx_E T_tb (P_ty dA) (dC, dI) vwCl (hx_A L sz)) (hx_A L sz)) 0 0 (hx_A L sz) := by
  refine hx_met (lv := [(0, .int i1), (1, .ref v1)]) (by decide +kernel) rfl (Nat.le_of_ble_eq_true rfl) rfl ?_
  intro p e s m below meth c hx hb hml hr hlk hts0 hown hin hsz hW ls hl
  have hts : ∀ w ∈ hx_all, w.before _ s = true := fun w hw => hts0 w (List.mem_cons_of_mem _ hw)
  have hown : s.vm.findClass "SmallCourt$Act" = some m.cls := hown
  have hM : hx_S T_tb [] L h L h := hx_S.rf
  have hcd := hv_cc_d hvt ht1
  have hvb : 0 ≤ t.2.2 ∧ t.2.2 ≤ 10007 := by rcases hvt with ⟨a, _⟩ | ⟨a, b, c, d, e⟩; (exfalso; omega); exact ⟨d, e⟩
  refine lv_aload_n hx hb dX0_holds_0 rfl (lv_at hl 1 rfl) ?_
  refine lv_iload_n hx hb dX0_holds_1 rfl (lv_at hl 0 rfl) ?_
  refine lv_bipush (v := 7) hx hb dX0_holds_2 (by decide) ?_
  refine lv_iand hx hb dX0_holds_4 ?_
  refine lv_topi (fun x_1 ex_1 => ?_)
  have zx_1 : 0 ≤ x_1.toInt ∧ x_1.toInt ≤ 7 := by rw [ex_1]; exact hx_andR (by decide) (by decide)
  have hixa9 := hv_and7 (by omega) ex_1
  refine hx_iald hx hb hW hT (gv1.S hM) tt_20 rfl ⟨by omega, by omega⟩ dX0_holds_5 (fun x_2 ex_2 lx_2 ux_2 => ?_)
  have ax_2 : x_2 = ff x_1.toNatClampNeg := ex_2.trans (congrFun (hx_afS hM gv1 rfl af_v1) _)
  refine lv_istore_n (lv' := [(2, .int x_2), (0, .int i1), (1, .ref v1)]) hx hb dX0_holds_6 rfl hl (by decide) rfl (fun ls hl => ?_)
  refine lv_iload_n hx hb dX0_holds_7 rfl (lv_at hl 1 rfl) ?_
  refine lv_bipush (v := 7) hx hb dX0_holds_8 (by decide) ?_
  refine lv_ishr hx hb dX0_holds_10 ?_
  refine lv_topi (fun x_3 ex_3 => ?_)
  have hhr79 := hv_shr7 (by omega) ex_3
  refine lv_istore_n (lv' := [(3, .int x_3), (2, .int x_2), (0, .int i1), (1, .ref v1)]) hx hb dX0_holds_11 rfl hl (by decide) rfl (fun ls hl => ?_)
  refine lv_iload_n hx hb dX0_holds_12 rfl (lv_at hl 2 rfl) ?_
  refine lv_bipush (v := 6) hx hb dX0_holds_13 (by decide) ?_
  refine lv_ishr hx hb dX0_holds_15 ?_
  refine lv_topi (fun x_4 ex_4 => ?_)
  have hh69 := hv_shr6 (by omega) ex_4
  refine lv_iconst (v := 1) hx hb dX0_holds_16 (by decide) ?_
  refine lv_iand hx hb dX0_holds_17 ?_
  refine lv_topi (fun x_5 ex_5 => ?_)
  have zx_5 : 0 ≤ x_5.toInt ∧ x_5.toInt ≤ 1 := by rw [ex_5]; exact hx_andR (by decide) (by decide)
  have hhb69 := hv_and1 (by omega) ex_5
  refine lv_iconst (v := 1) hx hb dX0_holds_18 (by decide) ?_
  refine hb_icmp_ne (zx := x_5.toInt) (zy := 1) (tgt := 29) hx hb rfl (by decide) dX0_holds_19 (by decide) (fun c_6 => ?_) (fun c_6 => ?_)
  · skip
    refine lv_iload_n hx hb dX0_holds_29 rfl (lv_at hl 1 rfl) ?_
    refine lv_iload_n hx hb dX0_holds_30 rfl (lv_at hl 0 rfl) ?_
    refine hb_icmp_ge (zx := x_2.toInt) (zy := x_3.toInt) (tgt := 38) hx hb rfl rfl dX0_holds_31 (by decide) (fun c_7 => ?_) (fun c_7 => ?_)
    · skip
      refine lv_iload_n hx hb dX0_holds_38 rfl (lv_at hl 1 rfl) ?_
      refine lv_iload_n hx hb dX0_holds_39 rfl (lv_at hl 0 rfl) ?_
      refine hb_icmp_ne (zx := x_2.toInt) (zy := x_3.toInt) (tgt := 47) hx hb rfl rfl dX0_holds_40 (by decide) (fun c_8 => ?_) (fun c_8 => ?_)
      · skip
        refine lv_iconst (v := 4) hx hb dX0_holds_47 (by decide) ?_
        refine lv_istore (lv' := [(4, .int (4 : Int32)), (3, .int x_3), (2, .int x_2), (0, .int i1), (1, .ref v1)]) hx hb dX0_holds_48 hl (by decide) rfl (fun ls hl => ?_)
        refine lv_iload_n hx hb dX0_holds_50 rfl (lv_at hl 3 rfl) ?_
        refine lv_iconst (v := 3) hx hb dX0_holds_51 (by decide) ?_
        refine lv_ishr hx hb dX0_holds_52 ?_
        refine lv_topi (fun x_9 ex_9 => ?_)
        have hh39 := hv_shr3 (by omega) ex_9
        refine lv_iload hx hb dX0_holds_53 (lv_at hl 0 rfl) ?_
        refine lv_iand hx hb dX0_holds_55 ?_
        refine lv_topi (fun x_10 ex_10 => ?_)
        have zx_10 : 0 ≤ x_10.toInt ∧ x_10.toInt ≤ 4 := by rw [ex_10]; exact hx_andR (by decide) (by decide)
        have hbt9 := hv_bitC (by omega) ex_10
        have hS9 := hv_bitS (s := hv_scd (t.2.1, 1)) (x := x_9.toInt) (by rw [hh39, hi1]; exact hcd.2.2.1)
        refine hb_if_eq (zx := x_10.toInt) (tgt := 63) hx hb rfl dX0_holds_56 (by decide) (fun c_11 => ?_) (fun c_11 => ?_)
        · skip
          refine lv_iconst (v := 0) hx hb dX0_holds_63 (by decide) ?_
          exact hx_retz hx hb hr rfl hlk hW ⟨(Or.inr ⟨by decide, hv_nb (hv_hdC (hv_hd_c (F := hv_F0 ff 0) (l := x_2.toInt) (r := x_3.toInt) hvt ht1 (by rw [ax_2]; exact congrArg (fun z => (ff z).toInt) (show x_1.toNatClampNeg = (t.1 - 1).toNat + 0 by unfold Int32.toNatClampNeg; omega)) (by rw [if_neg (by omega)]; omega) rfl) (by omega) hS9 hbt9) (by omega)⟩), hT, hM⟩ dX0_holds_64
        · skip
          refine lv_iconst (v := 1) hx hb dX0_holds_59 (by decide) ?_
          refine lv_goto (tgt := 64) hx hb dX0_holds_60 (by decide) ?_
          exact hx_retz hx hb hr rfl hlk hW ⟨(Or.inl ⟨by decide, (hv_hdC (hv_hd_c (F := hv_F0 ff 0) (l := x_2.toInt) (r := x_3.toInt) hvt ht1 (by rw [ax_2]; exact congrArg (fun z => (ff z).toInt) (show x_1.toNatClampNeg = (t.1 - 1).toNat + 0 by unfold Int32.toNatClampNeg; omega)) (by rw [if_neg (by omega)]; omega) rfl) (by omega) hS9 hbt9).mpr (by omega)⟩), hT, hM⟩ dX0_holds_64
      · skip
        refine lv_iconst (v := 2) hx hb dX0_holds_43 (by decide) ?_
        refine lv_goto (tgt := 48) hx hb dX0_holds_44 (by decide) ?_
        refine lv_istore (lv' := [(4, .int (2 : Int32)), (3, .int x_3), (2, .int x_2), (0, .int i1), (1, .ref v1)]) hx hb dX0_holds_48 hl (by decide) rfl (fun ls hl => ?_)
        refine lv_iload_n hx hb dX0_holds_50 rfl (lv_at hl 3 rfl) ?_
        refine lv_iconst (v := 3) hx hb dX0_holds_51 (by decide) ?_
        refine lv_ishr hx hb dX0_holds_52 ?_
        refine lv_topi (fun x_12 ex_12 => ?_)
        have hh39 := hv_shr3 (by omega) ex_12
        refine lv_iload hx hb dX0_holds_53 (lv_at hl 0 rfl) ?_
        refine lv_iand hx hb dX0_holds_55 ?_
        refine lv_topi (fun x_13 ex_13 => ?_)
        have zx_13 : 0 ≤ x_13.toInt ∧ x_13.toInt ≤ 2 := by rw [ex_13]; exact hx_andR (by decide) (by decide)
        have hbt9 := hv_bitB (by omega) ex_13
        have hS9 := hv_bitS (s := hv_scd (t.2.1, 1)) (x := x_12.toInt) (by rw [hh39, hi1]; exact hcd.2.2.1)
        refine hb_if_eq (zx := x_13.toInt) (tgt := 63) hx hb rfl dX0_holds_56 (by decide) (fun c_14 => ?_) (fun c_14 => ?_)
        · skip
          refine lv_iconst (v := 0) hx hb dX0_holds_63 (by decide) ?_
          exact hx_retz hx hb hr rfl hlk hW ⟨(Or.inr ⟨by decide, hv_nb (hv_hdB (hv_hd_c (F := hv_F0 ff 0) (l := x_2.toInt) (r := x_3.toInt) hvt ht1 (by rw [ax_2]; exact congrArg (fun z => (ff z).toInt) (show x_1.toNatClampNeg = (t.1 - 1).toNat + 0 by unfold Int32.toNatClampNeg; omega)) (by rw [if_neg (by omega)]; omega) rfl) (by omega) hS9 hbt9) (by omega)⟩), hT, hM⟩ dX0_holds_64
        · skip
          refine lv_iconst (v := 1) hx hb dX0_holds_59 (by decide) ?_
          refine lv_goto (tgt := 64) hx hb dX0_holds_60 (by decide) ?_
          exact hx_retz hx hb hr rfl hlk hW ⟨(Or.inl ⟨by decide, (hv_hdB (hv_hd_c (F := hv_F0 ff 0) (l := x_2.toInt) (r := x_3.toInt) hvt ht1 (by rw [ax_2]; exact congrArg (fun z => (ff z).toInt) (show x_1.toNatClampNeg = (t.1 - 1).toNat + 0 by unfold Int32.toNatClampNeg; omega)) (by rw [if_neg (by omega)]; omega) rfl) (by omega) hS9 hbt9).mpr (by omega)⟩), hT, hM⟩ dX0_holds_64
    · skip
      refine lv_iconst (v := 1) hx hb dX0_holds_34 (by decide) ?_
      refine lv_goto (tgt := 48) hx hb dX0_holds_35 (by decide) ?_
      refine lv_istore (lv' := [(4, .int (1 : Int32)), (3, .int x_3), (2, .int x_2), (0, .int i1), (1, .ref v1)]) hx hb dX0_holds_48 hl (by decide) rfl (fun ls hl => ?_)
      refine lv_iload_n hx hb dX0_holds_50 rfl (lv_at hl 3 rfl) ?_
      refine lv_iconst (v := 3) hx hb dX0_holds_51 (by decide) ?_
      refine lv_ishr hx hb dX0_holds_52 ?_
      refine lv_topi (fun x_15 ex_15 => ?_)
      have hh39 := hv_shr3 (by omega) ex_15
      refine lv_iload hx hb dX0_holds_53 (lv_at hl 0 rfl) ?_
      refine lv_iand hx hb dX0_holds_55 ?_
      refine lv_topi (fun x_16 ex_16 => ?_)
      have zx_16 : 0 ≤ x_16.toInt ∧ x_16.toInt ≤ 1 := by rw [ex_16]; exact hx_andR (by decide) (by decide)
      have hbt9 := hv_bitA (by omega) ex_16
      have hS9 := hv_bitS (s := hv_scd (t.2.1, 1)) (x := x_15.toInt) (by rw [hh39, hi1]; exact hcd.2.2.1)
      refine hb_if_eq (zx := x_16.toInt) (tgt := 63) hx hb rfl dX0_holds_56 (by decide) (fun c_17 => ?_) (fun c_17 => ?_)
      · skip
        refine lv_iconst (v := 0) hx hb dX0_holds_63 (by decide) ?_
        exact hx_retz hx hb hr rfl hlk hW ⟨(Or.inr ⟨by decide, hv_nb (hv_hdA (hv_hd_c (F := hv_F0 ff 0) (l := x_2.toInt) (r := x_3.toInt) hvt ht1 (by rw [ax_2]; exact congrArg (fun z => (ff z).toInt) (show x_1.toNatClampNeg = (t.1 - 1).toNat + 0 by unfold Int32.toNatClampNeg; omega)) (by rw [if_neg (by omega)]; omega) rfl) (by omega) hS9 hbt9) (by omega)⟩), hT, hM⟩ dX0_holds_64
      · skip
        refine lv_iconst (v := 1) hx hb dX0_holds_59 (by decide) ?_
        refine lv_goto (tgt := 64) hx hb dX0_holds_60 (by decide) ?_
        exact hx_retz hx hb hr rfl hlk hW ⟨(Or.inl ⟨by decide, (hv_hdA (hv_hd_c (F := hv_F0 ff 0) (l := x_2.toInt) (r := x_3.toInt) hvt ht1 (by rw [ax_2]; exact congrArg (fun z => (ff z).toInt) (show x_1.toNatClampNeg = (t.1 - 1).toNat + 0 by unfold Int32.toNatClampNeg; omega)) (by rw [if_neg (by omega)]; omega) rfl) (by omega) hS9 hbt9).mpr (by omega)⟩), hT, hM⟩ dX0_holds_64
  · skip
    refine lv_aload_n hx hb dX0_holds_22 rfl (lv_at hl 3 rfl) ?_
    refine lv_iload_n hx hb dX0_holds_23 rfl (lv_at hl 0 rfl) ?_
    refine lv_bipush (v := 7) hx hb dX0_holds_24 (by decide) ?_
    refine lv_iand hx hb dX0_holds_26 ?_
    refine lv_topi (fun x_18 ex_18 => ?_)
    have zx_18 : 0 ≤ x_18.toInt ∧ x_18.toInt ≤ 7 := by rw [ex_18]; exact hx_andR (by decide) (by decide)
    have hixb9 := hv_and7 (by omega) ex_18
    refine hx_iald hx hb hW hT (gv1.S hM) tt_20 rfl ⟨by omega, by omega⟩ dX0_holds_27 (fun x_19 ex_19 lx_19 ux_19 => ?_)
    have ax_19 : x_19 = ff x_18.toNatClampNeg := ex_19.trans (congrFun (hx_afS hM gv1 rfl af_v1) _)
    refine lv_istore_n (lv' := [(3, .int x_19), (2, .int x_2), (0, .int i1), (1, .ref v1)]) hx hb dX0_holds_28 rfl hl (by decide) rfl (fun ls hl => ?_)
    refine lv_iload_n hx hb dX0_holds_29 rfl (lv_at hl 1 rfl) ?_
    refine lv_iload_n hx hb dX0_holds_30 rfl (lv_at hl 0 rfl) ?_
    refine hb_icmp_ge (zx := x_2.toInt) (zy := x_19.toInt) (tgt := 38) hx hb rfl rfl dX0_holds_31 (by decide) (fun c_20 => ?_) (fun c_20 => ?_)
    · skip
      refine lv_iload_n hx hb dX0_holds_38 rfl (lv_at hl 1 rfl) ?_
      refine lv_iload_n hx hb dX0_holds_39 rfl (lv_at hl 0 rfl) ?_
      refine hb_icmp_ne (zx := x_2.toInt) (zy := x_19.toInt) (tgt := 47) hx hb rfl rfl dX0_holds_40 (by decide) (fun c_21 => ?_) (fun c_21 => ?_)
      · skip
        refine lv_iconst (v := 4) hx hb dX0_holds_47 (by decide) ?_
        refine lv_istore (lv' := [(4, .int (4 : Int32)), (3, .int x_19), (2, .int x_2), (0, .int i1), (1, .ref v1)]) hx hb dX0_holds_48 hl (by decide) rfl (fun ls hl => ?_)
        refine lv_iload_n hx hb dX0_holds_50 rfl (lv_at hl 3 rfl) ?_
        refine lv_iconst (v := 3) hx hb dX0_holds_51 (by decide) ?_
        refine lv_ishr hx hb dX0_holds_52 ?_
        refine lv_topi (fun x_22 ex_22 => ?_)
        have hh39 := hv_shr3 (by omega) ex_22
        refine lv_iload hx hb dX0_holds_53 (lv_at hl 0 rfl) ?_
        refine lv_iand hx hb dX0_holds_55 ?_
        refine lv_topi (fun x_23 ex_23 => ?_)
        have zx_23 : 0 ≤ x_23.toInt ∧ x_23.toInt ≤ 4 := by rw [ex_23]; exact hx_andR (by decide) (by decide)
        have hbt9 := hv_bitC (by omega) ex_23
        have hS9 := hv_bitS (s := hv_scd (t.2.1, 1)) (x := x_22.toInt) (by rw [hh39, hi1]; exact hcd.2.2.1)
        refine hb_if_eq (zx := x_23.toInt) (tgt := 63) hx hb rfl dX0_holds_56 (by decide) (fun c_24 => ?_) (fun c_24 => ?_)
        · skip
          refine lv_iconst (v := 0) hx hb dX0_holds_63 (by decide) ?_
          exact hx_retz hx hb hr rfl hlk hW ⟨(Or.inr ⟨by decide, hv_nb (hv_hdC (hv_hd_c (F := hv_F0 ff 0) (l := x_2.toInt) (r := x_19.toInt) hvt ht1 (by rw [ax_2]; exact congrArg (fun z => (ff z).toInt) (show x_1.toNatClampNeg = (t.1 - 1).toNat + 0 by unfold Int32.toNatClampNeg; omega)) (by rw [if_pos (by omega)]; exact (by rw [ax_19]; exact congrArg (fun z => (ff z).toInt) (show x_18.toNatClampNeg = (t.2.2 - 10000).toNat + 0 by unfold Int32.toNatClampNeg; omega))) rfl) (by omega) hS9 hbt9) (by omega)⟩), hT, hM⟩ dX0_holds_64
        · skip
          refine lv_iconst (v := 1) hx hb dX0_holds_59 (by decide) ?_
          refine lv_goto (tgt := 64) hx hb dX0_holds_60 (by decide) ?_
          exact hx_retz hx hb hr rfl hlk hW ⟨(Or.inl ⟨by decide, (hv_hdC (hv_hd_c (F := hv_F0 ff 0) (l := x_2.toInt) (r := x_19.toInt) hvt ht1 (by rw [ax_2]; exact congrArg (fun z => (ff z).toInt) (show x_1.toNatClampNeg = (t.1 - 1).toNat + 0 by unfold Int32.toNatClampNeg; omega)) (by rw [if_pos (by omega)]; exact (by rw [ax_19]; exact congrArg (fun z => (ff z).toInt) (show x_18.toNatClampNeg = (t.2.2 - 10000).toNat + 0 by unfold Int32.toNatClampNeg; omega))) rfl) (by omega) hS9 hbt9).mpr (by omega)⟩), hT, hM⟩ dX0_holds_64
      · skip
        refine lv_iconst (v := 2) hx hb dX0_holds_43 (by decide) ?_
        refine lv_goto (tgt := 48) hx hb dX0_holds_44 (by decide) ?_
        refine lv_istore (lv' := [(4, .int (2 : Int32)), (3, .int x_19), (2, .int x_2), (0, .int i1), (1, .ref v1)]) hx hb dX0_holds_48 hl (by decide) rfl (fun ls hl => ?_)
        refine lv_iload_n hx hb dX0_holds_50 rfl (lv_at hl 3 rfl) ?_
        refine lv_iconst (v := 3) hx hb dX0_holds_51 (by decide) ?_
        refine lv_ishr hx hb dX0_holds_52 ?_
        refine lv_topi (fun x_25 ex_25 => ?_)
        have hh39 := hv_shr3 (by omega) ex_25
        refine lv_iload hx hb dX0_holds_53 (lv_at hl 0 rfl) ?_
        refine lv_iand hx hb dX0_holds_55 ?_
        refine lv_topi (fun x_26 ex_26 => ?_)
        have zx_26 : 0 ≤ x_26.toInt ∧ x_26.toInt ≤ 2 := by rw [ex_26]; exact hx_andR (by decide) (by decide)
        have hbt9 := hv_bitB (by omega) ex_26
        have hS9 := hv_bitS (s := hv_scd (t.2.1, 1)) (x := x_25.toInt) (by rw [hh39, hi1]; exact hcd.2.2.1)
        refine hb_if_eq (zx := x_26.toInt) (tgt := 63) hx hb rfl dX0_holds_56 (by decide) (fun c_27 => ?_) (fun c_27 => ?_)
        · skip
          refine lv_iconst (v := 0) hx hb dX0_holds_63 (by decide) ?_
          exact hx_retz hx hb hr rfl hlk hW ⟨(Or.inr ⟨by decide, hv_nb (hv_hdB (hv_hd_c (F := hv_F0 ff 0) (l := x_2.toInt) (r := x_19.toInt) hvt ht1 (by rw [ax_2]; exact congrArg (fun z => (ff z).toInt) (show x_1.toNatClampNeg = (t.1 - 1).toNat + 0 by unfold Int32.toNatClampNeg; omega)) (by rw [if_pos (by omega)]; exact (by rw [ax_19]; exact congrArg (fun z => (ff z).toInt) (show x_18.toNatClampNeg = (t.2.2 - 10000).toNat + 0 by unfold Int32.toNatClampNeg; omega))) rfl) (by omega) hS9 hbt9) (by omega)⟩), hT, hM⟩ dX0_holds_64
        · skip
          refine lv_iconst (v := 1) hx hb dX0_holds_59 (by decide) ?_
          refine lv_goto (tgt := 64) hx hb dX0_holds_60 (by decide) ?_
          exact hx_retz hx hb hr rfl hlk hW ⟨(Or.inl ⟨by decide, (hv_hdB (hv_hd_c (F := hv_F0 ff 0) (l := x_2.toInt) (r := x_19.toInt) hvt ht1 (by rw [ax_2]; exact congrArg (fun z => (ff z).toInt) (show x_1.toNatClampNeg = (t.1 - 1).toNat + 0 by unfold Int32.toNatClampNeg; omega)) (by rw [if_pos (by omega)]; exact (by rw [ax_19]; exact congrArg (fun z => (ff z).toInt) (show x_18.toNatClampNeg = (t.2.2 - 10000).toNat + 0 by unfold Int32.toNatClampNeg; omega))) rfl) (by omega) hS9 hbt9).mpr (by omega)⟩), hT, hM⟩ dX0_holds_64
    · skip
      refine lv_iconst (v := 1) hx hb dX0_holds_34 (by decide) ?_
      refine lv_goto (tgt := 48) hx hb dX0_holds_35 (by decide) ?_
      refine lv_istore (lv' := [(4, .int (1 : Int32)), (3, .int x_19), (2, .int x_2), (0, .int i1), (1, .ref v1)]) hx hb dX0_holds_48 hl (by decide) rfl (fun ls hl => ?_)
      refine lv_iload_n hx hb dX0_holds_50 rfl (lv_at hl 3 rfl) ?_
      refine lv_iconst (v := 3) hx hb dX0_holds_51 (by decide) ?_
      refine lv_ishr hx hb dX0_holds_52 ?_
      refine lv_topi (fun x_28 ex_28 => ?_)
      have hh39 := hv_shr3 (by omega) ex_28
      refine lv_iload hx hb dX0_holds_53 (lv_at hl 0 rfl) ?_
      refine lv_iand hx hb dX0_holds_55 ?_
      refine lv_topi (fun x_29 ex_29 => ?_)
      have zx_29 : 0 ≤ x_29.toInt ∧ x_29.toInt ≤ 1 := by rw [ex_29]; exact hx_andR (by decide) (by decide)
      have hbt9 := hv_bitA (by omega) ex_29
      have hS9 := hv_bitS (s := hv_scd (t.2.1, 1)) (x := x_28.toInt) (by rw [hh39, hi1]; exact hcd.2.2.1)
      refine hb_if_eq (zx := x_29.toInt) (tgt := 63) hx hb rfl dX0_holds_56 (by decide) (fun c_30 => ?_) (fun c_30 => ?_)
      · skip
        refine lv_iconst (v := 0) hx hb dX0_holds_63 (by decide) ?_
        exact hx_retz hx hb hr rfl hlk hW ⟨(Or.inr ⟨by decide, hv_nb (hv_hdA (hv_hd_c (F := hv_F0 ff 0) (l := x_2.toInt) (r := x_19.toInt) hvt ht1 (by rw [ax_2]; exact congrArg (fun z => (ff z).toInt) (show x_1.toNatClampNeg = (t.1 - 1).toNat + 0 by unfold Int32.toNatClampNeg; omega)) (by rw [if_pos (by omega)]; exact (by rw [ax_19]; exact congrArg (fun z => (ff z).toInt) (show x_18.toNatClampNeg = (t.2.2 - 10000).toNat + 0 by unfold Int32.toNatClampNeg; omega))) rfl) (by omega) hS9 hbt9) (by omega)⟩), hT, hM⟩ dX0_holds_64
      · skip
        refine lv_iconst (v := 1) hx hb dX0_holds_59 (by decide) ?_
        refine lv_goto (tgt := 64) hx hb dX0_holds_60 (by decide) ?_
        exact hx_retz hx hb hr rfl hlk hW ⟨(Or.inl ⟨by decide, (hv_hdA (hv_hd_c (F := hv_F0 ff 0) (l := x_2.toInt) (r := x_19.toInt) hvt ht1 (by rw [ax_2]; exact congrArg (fun z => (ff z).toInt) (show x_1.toNatClampNeg = (t.1 - 1).toNat + 0 by unfold Int32.toNatClampNeg; omega)) (by rw [if_pos (by omega)]; exact (by rw [ax_19]; exact congrArg (fun z => (ff z).toInt) (show x_18.toNatClampNeg = (t.2.2 - 10000).toNat + 0 by unfold Int32.toNatClampNeg; omega))) rfl) (by omega) hS9 hbt9).mpr (by omega)⟩), hT, hM⟩ dX0_holds_64


set_option maxHeartbeats 4000000 in
set_option maxRecDepth 100000 in
theorem t_X0_proves_v (l : Launch) (dC : Nat → ClassId) (dI : Nat → Nat → Nat) (dA : Nat → ClassId) (L : List Nat) (h : hx_h) (sz : Nat) (x : Nat) (v1 : Nat) (hT : hx_T T_tb L h) (gx : hx_g L h x 0) (gv1 : hx_g L h v1 20) (qp : Nat) (gqp : hx_g L h qp 12) (f_x_3 : h.2.2 x 3 = some qp) (ff : Nat → Int32) (af_v1 : h.2.1 v1 = ff) (pf : Nat → Int32) (af_qp : h.2.1 qp = pf) (pl0 : Int32) (f_x_4 : h.2.1 x 4 = pl0) (o : List hv_tok) (hO : hv_OK o) (hls : hv_ls pf pl0.toInt.toNat = o.map hv_cc) : Met l yX0_proves (Cond.code yX0_proves cX0_proves 6 (some .boolean) :: hx_all) ({ frames := 1, cells := 0, slots := 0, locals := 24 }) (va_Pc [.ref x, .ref v1] (hx_B T_tb (P_ty dA) (dC, dI) vwCl L h sz)) (va_Qi (fun (r : Int32) (u : List Nat × hx_h) => ((r.toInt = 1 ∧ hv_pr (hv_F0 ff 0) o = true) ∨ (r.toInt = 0 ∧ hv_pr (hv_F0 ff 0) o = false)) ∧ hx_T T_tb u.1 u.2 ∧ hx_S T_tb [] L h u.1 u.2) (hx_E T_tb (P_ty dA) (dC, dI) vwCl (hx_A L sz)) (hx_A L sz)) 0 0 (hx_A L sz) := by
  refine hx_met (lv := [(0, .ref x), (1, .ref v1)]) (by decide +kernel) rfl (Nat.le_of_ble_eq_true rfl) rfl ?_
  intro p e s m below meth c hx hb hml hr hlk hts0 hown hin hsz hW ls hl
  have hts : ∀ w ∈ hx_all, w.before _ s = true := fun w hw => hts0 w (List.mem_cons_of_mem _ hw)
  have hown : s.vm.findClass "SmallCourt$Act" = some m.cls := hown
  have hM : hx_S T_tb [] L h L h := hx_S.rf
  have b_pl0 := hT.gi gx tt_0 (k := 4) rfl
  rw [f_x_4] at b_pl0
  have b_pl0 : 0 ≤ pl0.toInt ∧ pl0.toInt ≤ 160 := b_pl0
  refine lv_iconst (v := 0) hx hb dX0_proves_0 (by decide) ?_
  refine lv_istore_n (lv' := [(2, .int (0 : Int32)), (0, .ref x), (1, .ref v1)]) hx hb dX0_proves_1 rfl hl (by decide) rfl (fun ls hl => ?_)
  refine lv_iconst (v := 0) hx hb dX0_proves_2 (by decide) ?_
  refine lv_istore_n (lv' := [(3, .int (0 : Int32)), (2, .int (0 : Int32)), (0, .ref x), (1, .ref v1)]) hx hb dX0_proves_3 rfl hl (by decide) rfl (fun ls hl => ?_)
  have loop4 : ∀ (n4 : Nat) (iv4_2 iv4_3 : Int32) (H : Heap) (locs : List Loc) (hL1 : List Nat) (hl1 : hx_h), -2147483648 ≤ iv4_2.toInt → iv4_2.toInt ≤ 2147483647 → 0 ≤ iv4_3.toInt → iv4_3.toInt ≤ 160 → (hv_bt iv4_2 (hv_ev (hv_F0 ff 0) (o.drop (pl0.toInt - iv4_3.toInt).toNat))) → (iv4_3.toInt ≤ pl0.toInt) → ∀ (ls : Array Slot), 160 - iv4_3.toInt < (n4 : Int) → hx_W T_tb (P_ty dA) (dC, dI) vwCl (hx_A L sz) s.heap hL1 hl1 s H locs → hx_T T_tb hL1 hl1 → hx_S T_tb [] L h hL1 hl1 → lv_has ls 6 [(3, .int iv4_3), (2, .int iv4_2), (0, .ref x), (1, .ref v1)] → W p l e ({ frames := 1, cells := 0, slots := 0, locals := 24 }) s m ([.ref x, .ref v1] : List Value).toArray below meth c H locs 0 0 (MQ below (va_Qi (fun (r : Int32) (u : List Nat × hx_h) => ((r.toInt = 1 ∧ hv_pr (hv_F0 ff 0) o = true) ∨ (r.toInt = 0 ∧ hv_pr (hv_F0 ff 0) o = false)) ∧ hx_T T_tb u.1 u.2 ∧ hx_S T_tb [] L h u.1 u.2) (hx_E T_tb (P_ty dA) (dC, dI) vwCl (hx_A L sz)) (hx_A L sz)) ([.ref x, .ref v1] : List Value).toArray s 0 0 (hx_A L sz)) (F0 m 4 ls []) := by
    intro n4
    induction n4 with
    | zero => intro iv4_2 iv4_3 H locs hL1 hl1 bliv4_2 buiv4_2 bliv4_3 buiv4_3 vi4_0 vi4_1 ls hn4; exfalso; omega
    | succ n4 ih4 =>
      intro iv4_2 iv4_3 H locs hL1 hl1 bliv4_2 buiv4_2 bliv4_3 buiv4_3 vi4_0 vi4_1 ls hn4 hW hT hM   hl
      refine lv_iload_n hx hb dX0_proves_4 rfl (lv_at hl 0 rfl) ?_
      refine lv_aload_n hx hb dX0_proves_5 rfl (lv_at hl 2 rfl) ?_
      refine hk_geti hx hb hts hC_0 hown hW (gx.S hM) tt_0 4 (by decide) rfl kw_173 ⟨rfl, rfl, rfl⟩ ((hM.o gx trivial rfl).1.trans f_x_4) dX0_proves_6 ?_
      refine hb_icmp_ge (zx := iv4_3.toInt) (zy := pl0.toInt) (tgt := 122) hx hb rfl rfl dX0_proves_9 (by decide) (fun c_1 => ?_) (fun c_1 => ?_)
      · skip
        refine lv_iload_n hx hb dX0_proves_122 rfl (lv_at hl 1 rfl) ?_
        refine lv_iconst (v := 1) hx hb dX0_proves_123 (by decide) ?_
        refine lv_iand hx hb dX0_proves_124 ?_
        refine lv_topi (fun x_2 ex_2 => ?_)
        have zx_2 : 0 ≤ x_2.toInt ∧ x_2.toInt ≤ 1 := by rw [ex_2]; exact hx_andR (by decide) (by decide)
        refine lv_iconst (v := 1) hx hb dX0_proves_125 (by decide) ?_
        refine hb_icmp_ne (zx := x_2.toInt) (zy := 1) (tgt := 133) hx hb rfl (by decide) dX0_proves_126 (by decide) (fun c_3 => ?_) (fun c_3 => ?_)
        · skip
          refine lv_iconst (v := 0) hx hb dX0_proves_133 (by decide) ?_
          exact hx_retz hx hb hr rfl hlk hW ⟨(by have h8 := vi4_0; rw [show (pl0.toInt - iv4_3.toInt).toNat = 0 by omega] at h8; have h7 := hv_cE hO h8 ex_2; rcases h7 with z | z; (exfalso; omega); exact Or.inr ⟨by decide, z.2⟩), hT, hM⟩ dX0_proves_134
        · skip
          refine lv_iconst (v := 1) hx hb dX0_proves_129 (by decide) ?_
          refine lv_goto (tgt := 134) hx hb dX0_proves_130 (by decide) ?_
          exact hx_retz hx hb hr rfl hlk hW ⟨(by have h8 := vi4_0; rw [show (pl0.toInt - iv4_3.toInt).toNat = 0 by omega] at h8; have h7 := hv_cE hO h8 ex_2; rcases h7 with z | z; exact Or.inl ⟨by decide, z.2⟩; exfalso; omega), hT, hM⟩ dX0_proves_134
      · skip
        refine lv_iload_n hx hb dX0_proves_12 rfl (lv_at hl 1 rfl) ?_
        refine lv_iconst (v := 1) hx hb dX0_proves_13 (by decide) ?_
        refine lv_iand hx hb dX0_proves_14 ?_
        refine lv_topi (fun x_4 ex_4 => ?_)
        have zx_4 : 0 ≤ x_4.toInt ∧ x_4.toInt ≤ 1 := by rw [ex_4]; exact hx_andR (by decide) (by decide)
        refine lv_istore (lv' := [(4, .int x_4), (3, .int iv4_3), (2, .int iv4_2), (0, .ref x), (1, .ref v1)]) hx hb dX0_proves_15 hl (by decide) rfl (fun ls hl => ?_)
        refine lv_iload_n hx hb dX0_proves_17 rfl (lv_at hl 2 rfl) ?_
        refine lv_iconst (v := 1) hx hb dX0_proves_18 (by decide) ?_
        refine lv_ishr hx hb dX0_proves_19 ?_
        refine lv_topi (fun x_5 ex_5 => ?_)
        refine lv_iconst (v := 1) hx hb dX0_proves_20 (by decide) ?_
        refine lv_iand hx hb dX0_proves_21 ?_
        refine lv_topi (fun x_6 ex_6 => ?_)
        have zx_6 : 0 ≤ x_6.toInt ∧ x_6.toInt ≤ 1 := by rw [ex_6]; exact hx_andR (by decide) (by decide)
        refine lv_istore (lv' := [(5, .int x_6), (4, .int x_4), (3, .int iv4_3), (2, .int iv4_2), (0, .ref x), (1, .ref v1)]) hx hb dX0_proves_22 hl (by decide) rfl (fun ls hl => ?_)
        refine lv_aload_n hx hb dX0_proves_24 rfl (lv_at hl 4 rfl) ?_
        refine hk_getr hx hb hts hC_0 hown hW (gx.S hM) tt_0 3 (by decide) rfl kw_172 ⟨rfl, rfl, rfl⟩ ((hM.o gx trivial rfl).2.trans f_x_3) dX0_proves_25 ?_
        refine lv_iload_n hx hb dX0_proves_28 rfl (lv_at hl 2 rfl) ?_
        refine hx_iald hx hb hW hT (gqp.S hM) tt_12 rfl ⟨by omega, by omega⟩ dX0_proves_29 (fun x_7 ex_7 lx_7 ux_7 => ?_)
        have ax_7 : x_7 = pf iv4_3.toNatClampNeg := ex_7.trans (congrFun (hx_afS hM gqp rfl af_qp) _)
        obtain ⟨t9, s9, hs9, hvt9, hv9, hev9, hl9, hh9⟩ := hv_pg (F := hv_F0 ff 0) (n := pl0.toInt) (k := iv4_3.toInt) (ix := iv4_3.toNatClampNeg) hls hO (by omega) (by omega) (by unfold Int32.toNatClampNeg; omega) ax_7
        have hb9 := vi4_0; rw [← hs9] at hb9
        have hk9 := hv_cc_k hvt9
        rcases (show (x_7.toInt < -3 ∨ -1 < x_7.toInt) ∨ x_7.toInt = -3 ∨ x_7.toInt = -2 ∨ x_7.toInt = -1 from by omega) with c_8 | c_8 | c_8 | c_8
        · refine lv_tableOut (tgt := 93) hx hb dX0_proves_30 c_8 (by decide) ?_
          refine lv_iload_n hx hb dX0_proves_93 rfl (lv_at hl 3 rfl) ?_
          refine lv_iconst (v := 1) hx hb dX0_proves_94 (by decide) ?_
          refine lv_ishl hx hb dX0_proves_95 ?_
          refine lv_topi (fun x_9 ex_9 => ?_)
          refine lv_aload_n hx hb dX0_proves_96 rfl (lv_at hl 4 rfl) ?_
          refine hk_getr hx hb hts hC_0 hown hW (gx.S hM) tt_0 3 (by decide) rfl kw_172 ⟨rfl, rfl, rfl⟩ ((hM.o gx trivial rfl).2.trans f_x_3) dX0_proves_97 ?_
          refine lv_iload_n hx hb dX0_proves_100 rfl (lv_at hl 2 rfl) ?_
          refine hx_iald hx hb hW hT (gqp.S hM) tt_12 rfl ⟨by omega, by omega⟩ dX0_proves_101 (fun x_10 ex_10 lx_10 ux_10 => ?_)
          have ax_10 : x_10 = pf iv4_3.toNatClampNeg := ex_10.trans (congrFun (hx_afS hM gqp rfl af_qp) _)
          obtain rfl : x_7 = x_10 := ex_7.trans ex_10.symm
          refine lv_aload_n hx hb dX0_proves_102 rfl (lv_at hl 5 rfl) ?_
          refine hx_goi (hx_runS (As := [.int x_7, .ref v1]) (rest := [.int x_9]) ⟨hx, hb, hml, hown, hts⟩ hW (t_X0_holds_v l dC dI dA hL1 hl1 H.size x_7 v1 hT (gv1.S hM) ff (hx_afS hM gv1 rfl af_v1) t9 hvt9 (by omega) hv9) (va_cwS 2 hts (hx_gS kw_841 kw_839 kw_840 kw_96) rfl rfl rfl (by decide +kernel) ⟨Nat.le_of_ble_eq_true rfl, Nat.le_of_ble_eq_true rfl⟩) rfl hl.1 rfl (Nat.le_of_ble_eq_true rfl) dX0_proves_103 ⟨Nat.le_of_ble_eq_true rfl, Nat.le_of_ble_eq_true rfl⟩) hW (fun r_13 L_11 h_12 H locs p_14 hW => ?_)
          obtain ⟨hr_15, hT, hs⟩ := p_14
          replace hT : hx_T T_tb L_11 h_12 := hT
          replace hs : hx_S T_tb [] hL1 hl1 L_11 h_12 := hs
          replace ex_7 := ex_7.trans (hs.a (gqp.S hM) rfl _).1.symm
          replace hM := hM.tr (hs.mono (by decide))
          refine hb_if_eq (zx := r_13.toInt) (tgt := 113) hx hb rfl dX0_proves_106 (by decide) (fun c_16 => ?_) (fun c_16 => ?_)
          · skip
            refine lv_iconst (v := 0) hx hb dX0_proves_113 (by decide) ?_
            refine lv_ior hx hb dX0_proves_114 ?_
            refine lv_topi (fun x_17 ex_17 => ?_)
            refine lv_istore_n (lv' := [(2, .int x_17), (5, .int x_6), (4, .int x_4), (3, .int iv4_3), (0, .ref x), (1, .ref v1)]) hx hb dX0_proves_115 rfl hl (by decide) rfl (fun ls hl => ?_)
            obtain ⟨x_18, ex_18⟩ : ∃ y : Int32, y = iv4_3 + Int32.ofInt 1 := ⟨_, rfl⟩
            have rg_19 := i32_r iv4_3
            have zx_18 : x_18.toInt = iv4_3.toInt + (1) := by rw [ex_18]; exact i32_add rfl (by decide) (by omega) (by omega)
            refine lv_iinc (v := x_18) (lv' := [(3, .int x_18), (2, .int x_17), (5, .int x_6), (4, .int x_4), (0, .ref x), (1, .ref v1)]) hx hb dX0_proves_116 hl (k := 3) rfl ex_18.symm (by decide) rfl (fun ls hl => ?_)
            refine lv_goto (tgt := 4) hx hb dX0_proves_119 (by decide) ?_
            exact ih4 x_17 x_18 _ _ L_11 h_12 (i32_r _).1 (i32_r _).2 (by omega) (by omega) (by rw [zx_18, hev9]; exact hv_cP hb9 (by omega) (by omega) (Or.inr ⟨by decide, by rcases hr_15 with z | z; (exfalso; omega); exact z.2⟩) ex_9 ex_17) (by omega) ls (by omega) hW hT hM   (lv_sub hl [0, 1, 4, 5] rfl)
          · skip
            refine lv_iconst (v := 1) hx hb dX0_proves_109 (by decide) ?_
            refine lv_goto (tgt := 114) hx hb dX0_proves_110 (by decide) ?_
            refine lv_ior hx hb dX0_proves_114 ?_
            refine lv_topi (fun x_20 ex_20 => ?_)
            refine lv_istore_n (lv' := [(2, .int x_20), (5, .int x_6), (4, .int x_4), (3, .int iv4_3), (0, .ref x), (1, .ref v1)]) hx hb dX0_proves_115 rfl hl (by decide) rfl (fun ls hl => ?_)
            obtain ⟨x_21, ex_21⟩ : ∃ y : Int32, y = iv4_3 + Int32.ofInt 1 := ⟨_, rfl⟩
            have rg_22 := i32_r iv4_3
            have zx_21 : x_21.toInt = iv4_3.toInt + (1) := by rw [ex_21]; exact i32_add rfl (by decide) (by omega) (by omega)
            refine lv_iinc (v := x_21) (lv' := [(3, .int x_21), (2, .int x_20), (5, .int x_6), (4, .int x_4), (0, .ref x), (1, .ref v1)]) hx hb dX0_proves_116 hl (k := 3) rfl ex_21.symm (by decide) rfl (fun ls hl => ?_)
            refine lv_goto (tgt := 4) hx hb dX0_proves_119 (by decide) ?_
            exact ih4 x_20 x_21 _ _ L_11 h_12 (i32_r _).1 (i32_r _).2 (by omega) (by omega) (by rw [zx_21, hev9]; exact hv_cP hb9 (by omega) (by omega) (Or.inl ⟨by decide, by rcases hr_15 with z | z; exact z.2; exfalso; omega⟩) ex_9 ex_20) (by omega) ls (by omega) hW hT hM   (lv_sub hl [0, 1, 4, 5] rfl)
        · refine lv_tableIn (off := 26) (tgt := 56) hx hb dX0_proves_30 (by omega) (by omega) (by rw [c_8]; rfl) (by decide) ?_
          refine lv_iload_n hx hb dX0_proves_56 rfl (lv_at hl 3 rfl) ?_
          refine lv_iconst (v := 1) hx hb dX0_proves_57 (by decide) ?_
          refine lv_ixor hx hb dX0_proves_58 ?_
          refine lv_topi (fun x_23 ex_23 => ?_)
          refine lv_istore_n (lv' := [(2, .int x_23), (5, .int x_6), (4, .int x_4), (3, .int iv4_3), (0, .ref x), (1, .ref v1)]) hx hb dX0_proves_59 rfl hl (by decide) rfl (fun ls hl => ?_)
          refine lv_goto (tgt := 116) hx hb dX0_proves_60 (by decide) ?_
          obtain ⟨x_24, ex_24⟩ : ∃ y : Int32, y = iv4_3 + Int32.ofInt 1 := ⟨_, rfl⟩
          have rg_25 := i32_r iv4_3
          have zx_24 : x_24.toInt = iv4_3.toInt + (1) := by rw [ex_24]; exact i32_add rfl (by decide) (by omega) (by omega)
          refine lv_iinc (v := x_24) (lv' := [(3, .int x_24), (2, .int x_23), (5, .int x_6), (4, .int x_4), (0, .ref x), (1, .ref v1)]) hx hb dX0_proves_116 hl (k := 3) rfl ex_24.symm (by decide) rfl (fun ls hl => ?_)
          refine lv_goto (tgt := 4) hx hb dX0_proves_119 (by decide) ?_
          exact ih4 x_23 x_24 _ _ hL1 hl1 (i32_r _).1 (i32_r _).2 (by omega) (by omega) (by rw [zx_24, hev9]; exact hv_cN hb9 (by omega) (by omega) (by have := hh9 (by omega); omega) ex_23) (by omega) ls (by omega) hW hT hM   (lv_sub hl [0, 1, 4, 5] rfl)
        · refine lv_tableIn (off := 48) (tgt := 78) hx hb dX0_proves_30 (by omega) (by omega) (by rw [c_8]; rfl) (by decide) ?_
          refine lv_iload_n hx hb dX0_proves_78 rfl (lv_at hl 3 rfl) ?_
          refine lv_iconst (v := 2) hx hb dX0_proves_79 (by decide) ?_
          refine lv_ishr hx hb dX0_proves_80 ?_
          refine lv_topi (fun x_26 ex_26 => ?_)
          refine lv_iconst (v := 1) hx hb dX0_proves_81 (by decide) ?_
          refine lv_ishl hx hb dX0_proves_82 ?_
          refine lv_topi (fun x_27 ex_27 => ?_)
          refine lv_iload hx hb dX0_proves_83 (lv_at hl 1 rfl) ?_
          refine lv_ior hx hb dX0_proves_85 ?_
          refine lv_topi (fun x_28 ex_28 => ?_)
          refine lv_iload hx hb dX0_proves_86 (lv_at hl 0 rfl) ?_
          refine lv_ior hx hb dX0_proves_88 ?_
          refine lv_topi (fun x_29 ex_29 => ?_)
          refine lv_istore_n (lv' := [(2, .int x_29), (5, .int x_6), (4, .int x_4), (3, .int iv4_3), (0, .ref x), (1, .ref v1)]) hx hb dX0_proves_89 rfl hl (by decide) rfl (fun ls hl => ?_)
          refine lv_goto (tgt := 116) hx hb dX0_proves_90 (by decide) ?_
          obtain ⟨x_30, ex_30⟩ : ∃ y : Int32, y = iv4_3 + Int32.ofInt 1 := ⟨_, rfl⟩
          have rg_31 := i32_r iv4_3
          have zx_30 : x_30.toInt = iv4_3.toInt + (1) := by rw [ex_30]; exact i32_add rfl (by decide) (by omega) (by omega)
          refine lv_iinc (v := x_30) (lv' := [(3, .int x_30), (2, .int x_29), (5, .int x_6), (4, .int x_4), (0, .ref x), (1, .ref v1)]) hx hb dX0_proves_116 hl (k := 3) rfl ex_30.symm (by decide) rfl (fun ls hl => ?_)
          refine lv_goto (tgt := 4) hx hb dX0_proves_119 (by decide) ?_
          exact ih4 x_29 x_30 _ _ hL1 hl1 (i32_r _).1 (i32_r _).2 (by omega) (by omega) (by rw [zx_30, hev9]; exact hv_cO hb9 (by omega) (by omega) (by have := hh9 (by omega); omega) (by omega) ex_4 ex_5 ex_6 ex_26 ex_27 ex_28 ex_29) (by omega) ls (by omega) hW hT hM   (lv_sub hl [0, 1, 4, 5] rfl)
        · refine lv_tableIn (off := 33) (tgt := 63) hx hb dX0_proves_30 (by omega) (by omega) (by rw [c_8]; rfl) (by decide) ?_
          refine lv_iload_n hx hb dX0_proves_63 rfl (lv_at hl 3 rfl) ?_
          refine lv_iconst (v := 2) hx hb dX0_proves_64 (by decide) ?_
          refine lv_ishr hx hb dX0_proves_65 ?_
          refine lv_topi (fun x_32 ex_32 => ?_)
          refine lv_iconst (v := 1) hx hb dX0_proves_66 (by decide) ?_
          refine lv_ishl hx hb dX0_proves_67 ?_
          refine lv_topi (fun x_33 ex_33 => ?_)
          refine lv_iload hx hb dX0_proves_68 (lv_at hl 1 rfl) ?_
          refine lv_iload hx hb dX0_proves_70 (lv_at hl 0 rfl) ?_
          refine lv_iand hx hb dX0_proves_72 ?_
          refine lv_topi (fun x_34 ex_34 => ?_)
          refine lv_ior hx hb dX0_proves_73 ?_
          refine lv_topi (fun x_35 ex_35 => ?_)
          refine lv_istore_n (lv' := [(2, .int x_35), (5, .int x_6), (4, .int x_4), (3, .int iv4_3), (0, .ref x), (1, .ref v1)]) hx hb dX0_proves_74 rfl hl (by decide) rfl (fun ls hl => ?_)
          refine lv_goto (tgt := 116) hx hb dX0_proves_75 (by decide) ?_
          obtain ⟨x_36, ex_36⟩ : ∃ y : Int32, y = iv4_3 + Int32.ofInt 1 := ⟨_, rfl⟩
          have rg_37 := i32_r iv4_3
          have zx_36 : x_36.toInt = iv4_3.toInt + (1) := by rw [ex_36]; exact i32_add rfl (by decide) (by omega) (by omega)
          refine lv_iinc (v := x_36) (lv' := [(3, .int x_36), (2, .int x_35), (5, .int x_6), (4, .int x_4), (0, .ref x), (1, .ref v1)]) hx hb dX0_proves_116 hl (k := 3) rfl ex_36.symm (by decide) rfl (fun ls hl => ?_)
          refine lv_goto (tgt := 4) hx hb dX0_proves_119 (by decide) ?_
          exact ih4 x_35 x_36 _ _ hL1 hl1 (i32_r _).1 (i32_r _).2 (by omega) (by omega) (by rw [zx_36, hev9]; exact hv_cA hb9 (by omega) (by omega) (by have := hh9 (by omega); omega) (by omega) ex_4 ex_5 ex_6 ex_32 ex_33 ex_34 ex_35) (by omega) ls (by omega) hW hT hM   (lv_sub hl [0, 1, 4, 5] rfl)
  have zk_0 : (0 : Int32).toInt = 0 := by decide
  have zk_0 : (0 : Int32).toInt = 0 := by decide
  exact loop4 161 (0 : Int32) (0 : Int32) _ _ L h (by decide) (by decide) (by decide) (by decide) (by rw [hv_d0 hls zk_0]; exact hv_bt_0) (by omega) ls (by omega) hW hT hM   hl
