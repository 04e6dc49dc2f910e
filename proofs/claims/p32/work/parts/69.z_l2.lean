
set_option maxHeartbeats 4000000 in
set_option maxRecDepth 100000 in
theorem t_X9_person_v (l : Launch) (dC : Nat → ClassId) (dI : Nat → Nat → Nat) (dA : Nat → ClassId) (L : List Nat) (h : hx_h) (sz : Nat) (x : Nat) (i1 : Int32) (i2 : Int32) (i3 : Int32) (i4 : Int32) (i5 : Int32) (i6 : Int32) (hT : hx_T T_tb L h) (gx : hx_g L h x 9) (qp : Nat) (gqp : hx_g L h qp 44) (f_x_7 : h.2.2 x 7 = some qp) (qc : Nat) (gqc : hx_g L h qc 45) (f_x_10 : h.2.2 x 10 = some qc)  (pn0 : Int32) (f_x_8 : h.2.1 x 8 = pn0) (cn0 : Int32) (f_x_11 : h.2.1 x 11 = cn0) (df : Nat → Int32) (cl_qp_7 : hx_col 40 h qp 7 = df) (jf : Nat → Int32) (cl_qp_8 : hx_col 40 h qp 8 = jf) (dxf : Nat → Int32) (cl_qp_5 : hx_col 40 h qp 5 = dxf) (dyf : Nat → Int32) (cl_qp_6 : hx_col 40 h qp 6 = dyf) (bnf : Nat → Int32) (cl_qp_1 : hx_col 40 h qp 1 = bnf) (kkf : Nat → Int32) (cl_qp_2 : hx_col 40 h qp 2 = kkf) (eaf : Nat → Int32) (cl_qp_3 : hx_col 40 h qp 3 = eaf) (hdf : Nat → Int32) (cl_qp_4 : hx_col 40 h qp 4 = hdf) (nu_qp : hx_num 40 h qp 0 (pn0.toInt)) (agf byf : Nat → Int32) (hDF : hw_DF h qc qp 2 agf cn0.toInt) (hDP : hw_DF h qc qp 1 byf cn0.toInt) (pf_x_8 : ∀ j : Nat, (j : Int) < (h.2.1 x 8).toInt → h.2.2 qp j ≠ none) : Met l yX9_person (Cond.code yX9_person cX9_person 8 (some .int) :: hx_all) ({ frames := 2, cells := 1, slots := 10, locals := 45 }) (va_Pc [.ref x, .int i1, .int i2, .int i3, .int i4, .int i5, .int i6] (hx_B T_tb (P_ty dA) (dC, dI) vwCl L h sz)) (va_Qi (fun (r : Int32) (u : List Nat × hx_h) => (∃ (pn1 : Int32) (df1 : Nat → Int32) (jf1 : Nat → Int32) (dxf1 : Nat → Int32) (dyf1 : Nat → Int32) (bnf1 : Nat → Int32) (kkf1 : Nat → Int32) (eaf1 : Nat → Int32) (hdf1 : Nat → Int32), u.2.2.1 x 8 = pn1 ∧ hx_col 40 u.2 qp 7 = df1 ∧ hx_col 40 u.2 qp 8 = jf1 ∧ hx_col 40 u.2 qp 5 = dxf1 ∧ hx_col 40 u.2 qp 6 = dyf1 ∧ hx_col 40 u.2 qp 1 = bnf1 ∧ hx_col 40 u.2 qp 2 = kkf1 ∧ hx_col 40 u.2 qp 3 = eaf1 ∧ hx_col 40 u.2 qp 4 = hdf1 ∧ ((hx_num 40 u.2 qp 0 (pn1.toInt)) ∧ (((hx_PS pn0.toInt i1.toInt i2.toInt i3.toInt i4.toInt i5.toInt i6.toInt r.toInt pn1.toInt) ∧ hx_PD pn0.toInt r.toInt df df1 ∧ hx_PD pn0.toInt r.toInt jf jf1 ∧ hx_CD pn0.toInt r.toInt i4 dxf dxf1 ∧ hx_CD pn0.toInt r.toInt i5 dyf dyf1 ∧ hx_CD pn0.toInt r.toInt i1 bnf bnf1 ∧ hx_CD pn0.toInt r.toInt i6 kkf kkf1 ∧ hw_DF u.2 qc qp 2 agf cn0.toInt ∧ hw_DF u.2 qc qp 1 byf cn0.toInt) ∧ (hx_CD pn0.toInt r.toInt i2 eaf eaf1 ∧ hx_CD pn0.toInt r.toInt i3 hdf hdf1)))) ∧ hx_T T_tb u.1 u.2 ∧ hx_S T_tb [(4, 3), (4, 4), (4, 5), (4, 6), (9, 8), (44, 0), (120, 0), (120, 1), (120, 2)] L h u.1 u.2 ∧ (∀ j : Nat, (j : Int) < (u.2.2.1 x 8).toInt → u.2.2.2 qp j ≠ none)) (hx_E T_tb (P_ty dA) (dC, dI) vwCl (hx_A L sz)) (hx_A L sz)) 1 10 (hx_A L sz) := by
  refine hx_met (lv := [(0, .ref x), (1, .int i1), (2, .int i2), (3, .int i3), (4, .int i4), (5, .int i5), (6, .int i6)]) (by decide +kernel) rfl (Nat.le_of_ble_eq_true rfl) rfl ?_
  intro p e s m below meth c hx hb hml hr hlk hts0 hown hin hsz hW ls hl
  have hts : ∀ w ∈ hx_all, w.before _ s = true := fun w hw => hts0 w (List.mem_cons_of_mem _ hw)
  have hown : s.vm.findClass "SmallCourt" = some m.cls := hown
  have hM : hx_S T_tb [(4, 3), (4, 4), (4, 5), (4, 6), (9, 8), (44, 0), (120, 0), (120, 1), (120, 2)] L h L h := hx_S.rf
  have b_pn0 := hT.gi gx tt_9 (k := 8) rfl
  rw [f_x_8] at b_pn0
  have b_pn0 : 0 ≤ pn0.toInt ∧ pn0.toInt ≤ 40 := b_pn0
  have b_cn0 := hT.gi gx tt_9 (k := 11) rfl
  rw [f_x_11] at b_cn0
  have b_cn0 : 0 ≤ cn0.toInt ∧ cn0.toInt ≤ 100 := b_cn0
  refine lv_aload_n hx hb dX9_person_0 rfl (lv_at hl 0 rfl) ?_
  refine hk_geti hx hb hts hC_9 hown hW gx tt_9 8 ?o0 rfl kw_372 ⟨rfl, rfl, rfl⟩ f_x_8 dX9_person_1 ?_
  case o0 => decide
  refine lv_bipush (v := 40) hx hb dX9_person_4 ?o1 ?_
  case o1 => decide
  refine hb_icmp_ge (zx := pn0.toInt) (zy := 40) (tgt := 45) hx hb rfl ?o2 dX9_person_6 ?o3 (fun c_1 => ?_) (fun c_1 => ?_)
  case o2 => decide
  case o3 => decide
  · skip
    refine lv_iconst (v := -1) hx hb dX9_person_45 ?o4 ?_
    case o4 => decide
    refine W.widen (k := 1) (n := 10) (Nat.le_of_ble_eq_true rfl) (Nat.le_of_ble_eq_true rfl) ?_
    refine hx_reti hx hb hr hlk hW ⟨⟨pn0, df, jf, dxf, dyf, bnf, kkf, eaf, hdf, f_x_8, cl_qp_7, cl_qp_8, cl_qp_5, cl_qp_6, cl_qp_1, cl_qp_2, cl_qp_3, cl_qp_4, ⟨(hx_num_c nu_qp ?o5), ⟨⟨(Or.inl ⟨?o6, ?o7, by unfold hx_pcn; omega⟩), (Or.inl ⟨?o8, rfl⟩), (Or.inl ⟨?o9, rfl⟩), (Or.inl ⟨?o10, rfl⟩), (Or.inl ⟨?o11, rfl⟩), (Or.inl ⟨?o12, rfl⟩), (Or.inl ⟨?o13, rfl⟩), hDF, hDP⟩, ⟨(Or.inl ⟨?o14, rfl⟩), (Or.inl ⟨?o15, rfl⟩)⟩⟩⟩⟩, hT, hM, pf_x_8⟩ dX9_person_46
    case o5 => omega
    case o6 => decide
    case o7 => omega
    case o8 => decide
    case o9 => decide
    case o10 => decide
    case o11 => decide
    case o12 => decide
    case o13 => decide
    case o14 => decide
    case o15 => decide
  · skip
    refine lv_iload_n hx hb dX9_person_9 rfl (lv_at hl 1 rfl) ?_
    refine lv_sipush (v := -30000) hx hb dX9_person_10 ?o16 ?_
    case o16 => decide
    refine lv_sipush (v := 7999) hx hb dX9_person_13 ?o17 ?_
    case o17 => decide
    have hTo := hT
    have zc_7999 : (7999 : Int32).toInt = 7999 := ?o18
    case o18 => decide
    have zc_m30000 : (-30000 : Int32).toInt = -30000 := ?o19
    case o19 => decide
    refine hx_goi (hx_runS (As := [.int i1, .int (-30000 : Int32), .int (7999 : Int32)]) (rest := []) ⟨hx, hb, hml, hown, hts⟩ hW (t_X9_isWithin_2 l dC dI dA L h s.heap.size i1 (-30000 : Int32) (7999 : Int32) hT) (va_cwS 3 hts (hx_gS kw_434 kw_432 kw_433 kw_94) rfl rfl rfl (by decide +kernel) ⟨Nat.le_of_ble_eq_true rfl, Nat.le_of_ble_eq_true rfl⟩) rfl hl.1 rfl (Nat.le_of_ble_eq_true rfl) dX9_person_16 ⟨Nat.le_of_ble_eq_true rfl, Nat.le_of_ble_eq_true rfl⟩) hW (fun r_4 L_2 h_3 H locs p_5 hW => ?_)
    obtain ⟨hr_6, hT, hs⟩ := p_5
    replace hT : hx_T T_tb L_2 h_3 := hT
    replace hs : hx_S T_tb [] L h L_2 h_3 := hs
    replace f_x_7 := (hs.o gx trivial rfl).2.trans f_x_7
    replace f_x_10 := (hs.o gx trivial rfl).2.trans f_x_10
    replace f_x_8 := (hs.o gx trivial rfl).1.trans f_x_8
    replace f_x_11 := (hs.o gx trivial rfl).1.trans f_x_11
    replace pf_x_8 : ∀ j : Nat, (j : Int) < (h_3.2.1 x 8).toInt → h_3.2.2 qp j ≠ none := by
      intro j hj; rw [(hs.o gx trivial rfl).1] at hj; rw [(hs.a gqp rfl j).2]; exact pf_x_8 j hj
    replace cl_qp_7 : hx_col 40 h_3 qp 7 = df := (hx_col_S hs hTo gqp tt_44 tt_4 rfl rfl).trans cl_qp_7
    replace cl_qp_8 : hx_col 40 h_3 qp 8 = jf := (hx_col_S hs hTo gqp tt_44 tt_4 rfl rfl).trans cl_qp_8
    replace cl_qp_5 : hx_col 40 h_3 qp 5 = dxf := (hx_col_S hs hTo gqp tt_44 tt_4 rfl rfl).trans cl_qp_5
    replace cl_qp_6 : hx_col 40 h_3 qp 6 = dyf := (hx_col_S hs hTo gqp tt_44 tt_4 rfl rfl).trans cl_qp_6
    replace cl_qp_1 : hx_col 40 h_3 qp 1 = bnf := (hx_col_S hs hTo gqp tt_44 tt_4 rfl rfl).trans cl_qp_1
    replace cl_qp_2 : hx_col 40 h_3 qp 2 = kkf := (hx_col_S hs hTo gqp tt_44 tt_4 rfl rfl).trans cl_qp_2
    replace cl_qp_3 : hx_col 40 h_3 qp 3 = eaf := (hx_col_S hs hTo gqp tt_44 tt_4 rfl rfl).trans cl_qp_3
    replace cl_qp_4 : hx_col 40 h_3 qp 4 = hdf := (hx_col_S hs hTo gqp tt_44 tt_4 rfl rfl).trans cl_qp_4
    replace nu_qp : hx_num 40 h_3 qp 0 (pn0.toInt) := hx_num_S hs hTo gqp tt_44 tt_4 rfl rfl nu_qp
    replace hDF : hw_DF h_3 qc qp 2 agf cn0.toInt := hw_DF_S hs hTo gqc gqp tt_45 tt_2 rfl rfl rfl hDF
    replace hDP : hw_DF h_3 qc qp 1 byf cn0.toInt := hw_DF_S hs hTo gqc gqp tt_45 tt_2 rfl rfl rfl hDP
    replace hM := hM.tr (hs.mono ?o20)
    case o20 => decide
    replace gx := gx.S hs
    replace gqp := gqp.S hs
    replace gqc := gqc.S hs
    refine hb_if_eq (zx := r_4.toInt) (tgt := 45) hx hb rfl dX9_person_19 ?o21 (fun c_7 => ?_) (fun c_7 => ?_)
    case o21 => decide
    · skip
      replace hr_6 := hr_6.resolve_right (fun z9 => absurd (c_7.symm.trans z9.1) ?o22)
      case o22 => decide
      replace hr_6 := hr_6.2
      refine lv_iconst (v := -1) hx hb dX9_person_45 ?o23 ?_
      case o23 => decide
      refine W.widen (k := 1) (n := 10) (Nat.le_of_ble_eq_true rfl) (Nat.le_of_ble_eq_true rfl) ?_
      refine hx_reti hx hb hr hlk hW ⟨⟨pn0, df, jf, dxf, dyf, bnf, kkf, eaf, hdf, f_x_8, cl_qp_7, cl_qp_8, cl_qp_5, cl_qp_6, cl_qp_1, cl_qp_2, cl_qp_3, cl_qp_4, ⟨(hx_num_c nu_qp ?o24), ⟨⟨(Or.inl ⟨?o25, ?o26, by unfold hx_pcn; omega⟩), (Or.inl ⟨?o27, rfl⟩), (Or.inl ⟨?o28, rfl⟩), (Or.inl ⟨?o29, rfl⟩), (Or.inl ⟨?o30, rfl⟩), (Or.inl ⟨?o31, rfl⟩), (Or.inl ⟨?o32, rfl⟩), hDF, hDP⟩, ⟨(Or.inl ⟨?o33, rfl⟩), (Or.inl ⟨?o34, rfl⟩)⟩⟩⟩⟩, hT, hM, pf_x_8⟩ dX9_person_46
      case o24 => omega
      case o25 => decide
      case o26 => omega
      case o27 => decide
      case o28 => decide
      case o29 => decide
      case o30 => decide
      case o31 => decide
      case o32 => decide
      case o33 => decide
      case o34 => decide
    · skip
      replace hr_6 := hr_6.resolve_left (fun z9 => c_7 z9.1)
      replace c_7 := hr_6.1
      replace hr_6 := hr_6.2
      refine lv_iload_n hx hb dX9_person_22 rfl (lv_at hl 2 rfl) ?_
      refine lv_iload_n hx hb dX9_person_23 rfl (lv_at hl 3 rfl) ?_
      refine lv_iload hx hb dX9_person_24 (lv_at hl 4 rfl) ?_
      refine lv_iload hx hb dX9_person_26 (lv_at hl 5 rfl) ?_
      have hTo := hT
      refine hx_goi (hx_runS (As := [.int i2, .int i3, .int i4, .int i5]) (rest := []) ⟨hx, hb, hml, hown, hts⟩ hW (t_X9_isHousehold_2 l dC dI dA L_2 h_3 H.size i2 i3 i4 i5 hT) (va_cwS 4 hts (hx_gS kw_604 kw_602 kw_603 kw_94) rfl rfl rfl (by decide +kernel) ⟨Nat.le_of_ble_eq_true rfl, Nat.le_of_ble_eq_true rfl⟩) rfl hl.1 rfl (Nat.le_of_ble_eq_true rfl) dX9_person_28 ⟨Nat.le_of_ble_eq_true rfl, Nat.le_of_ble_eq_true rfl⟩) hW (fun r_10 L_8 h_9 H locs p_11 hW => ?_)
      obtain ⟨hr_12, hT, hs⟩ := p_11
      replace hT : hx_T T_tb L_8 h_9 := hT
      replace hs : hx_S T_tb [] L_2 h_3 L_8 h_9 := hs
      replace f_x_7 := (hs.o gx trivial rfl).2.trans f_x_7
      replace f_x_10 := (hs.o gx trivial rfl).2.trans f_x_10
      replace f_x_8 := (hs.o gx trivial rfl).1.trans f_x_8
      replace f_x_11 := (hs.o gx trivial rfl).1.trans f_x_11
      replace pf_x_8 : ∀ j : Nat, (j : Int) < (h_9.2.1 x 8).toInt → h_9.2.2 qp j ≠ none := by
        intro j hj; rw [(hs.o gx trivial rfl).1] at hj; rw [(hs.a gqp rfl j).2]; exact pf_x_8 j hj
      replace cl_qp_7 : hx_col 40 h_9 qp 7 = df := (hx_col_S hs hTo gqp tt_44 tt_4 rfl rfl).trans cl_qp_7
      replace cl_qp_8 : hx_col 40 h_9 qp 8 = jf := (hx_col_S hs hTo gqp tt_44 tt_4 rfl rfl).trans cl_qp_8
      replace cl_qp_5 : hx_col 40 h_9 qp 5 = dxf := (hx_col_S hs hTo gqp tt_44 tt_4 rfl rfl).trans cl_qp_5
      replace cl_qp_6 : hx_col 40 h_9 qp 6 = dyf := (hx_col_S hs hTo gqp tt_44 tt_4 rfl rfl).trans cl_qp_6
      replace cl_qp_1 : hx_col 40 h_9 qp 1 = bnf := (hx_col_S hs hTo gqp tt_44 tt_4 rfl rfl).trans cl_qp_1
      replace cl_qp_2 : hx_col 40 h_9 qp 2 = kkf := (hx_col_S hs hTo gqp tt_44 tt_4 rfl rfl).trans cl_qp_2
      replace cl_qp_3 : hx_col 40 h_9 qp 3 = eaf := (hx_col_S hs hTo gqp tt_44 tt_4 rfl rfl).trans cl_qp_3
      replace cl_qp_4 : hx_col 40 h_9 qp 4 = hdf := (hx_col_S hs hTo gqp tt_44 tt_4 rfl rfl).trans cl_qp_4
      replace nu_qp : hx_num 40 h_9 qp 0 (pn0.toInt) := hx_num_S hs hTo gqp tt_44 tt_4 rfl rfl nu_qp
      replace hDF : hw_DF h_9 qc qp 2 agf cn0.toInt := hw_DF_S hs hTo gqc gqp tt_45 tt_2 rfl rfl rfl hDF
      replace hDP : hw_DF h_9 qc qp 1 byf cn0.toInt := hw_DF_S hs hTo gqc gqp tt_45 tt_2 rfl rfl rfl hDP
      replace hM := hM.tr (hs.mono ?o35)
      case o35 => decide
      replace gx := gx.S hs
      replace gqp := gqp.S hs
      replace gqc := gqc.S hs
      refine hb_if_eq (zx := r_10.toInt) (tgt := 45) hx hb rfl dX9_person_31 ?o36 (fun c_13 => ?_) (fun c_13 => ?_)
      case o36 => decide
      · skip
        refine lv_iconst (v := -1) hx hb dX9_person_45 ?o37 ?_
        case o37 => decide
        refine W.widen (k := 1) (n := 10) (Nat.le_of_ble_eq_true rfl) (Nat.le_of_ble_eq_true rfl) ?_
        refine hx_reti hx hb hr hlk hW ⟨⟨pn0, df, jf, dxf, dyf, bnf, kkf, eaf, hdf, f_x_8, cl_qp_7, cl_qp_8, cl_qp_5, cl_qp_6, cl_qp_1, cl_qp_2, cl_qp_3, cl_qp_4, ⟨(hx_num_c nu_qp ?o38), ⟨⟨(Or.inl ⟨?o39, ?o40, by unfold hx_pcn; omega⟩), (Or.inl ⟨?o41, rfl⟩), (Or.inl ⟨?o42, rfl⟩), (Or.inl ⟨?o43, rfl⟩), (Or.inl ⟨?o44, rfl⟩), (Or.inl ⟨?o45, rfl⟩), (Or.inl ⟨?o46, rfl⟩), hDF, hDP⟩, ⟨(Or.inl ⟨?o47, rfl⟩), (Or.inl ⟨?o48, rfl⟩)⟩⟩⟩⟩, hT, hM, pf_x_8⟩ dX9_person_46
        case o38 => omega
        case o39 => decide
        case o40 => omega
        case o41 => decide
        case o42 => decide
        case o43 => decide
        case o44 => decide
        case o45 => decide
        case o46 => decide
        case o47 => decide
        case o48 => decide
      · skip
        refine lv_iload hx hb dX9_person_34 (lv_at hl 6 rfl) ?_
        refine lv_iconst (v := -1) hx hb dX9_person_36 ?o49 ?_
        case o49 => decide
        refine lv_bipush (v := 19) hx hb dX9_person_37 ?o50 ?_
        case o50 => decide
        have hTo := hT
        have zc_19 : (19 : Int32).toInt = 19 := ?o51
        case o51 => decide
        have zc_m1 : (-1 : Int32).toInt = -1 := ?o52
        case o52 => decide
        refine hx_goi (hx_runS (As := [.int i6, .int (-1 : Int32), .int (19 : Int32)]) (rest := []) ⟨hx, hb, hml, hown, hts⟩ hW (t_X9_isWithin_2 l dC dI dA L_8 h_9 H.size i6 (-1 : Int32) (19 : Int32) hT) (va_cwS 3 hts (hx_gS kw_434 kw_432 kw_433 kw_94) rfl rfl rfl (by decide +kernel) ⟨Nat.le_of_ble_eq_true rfl, Nat.le_of_ble_eq_true rfl⟩) rfl hl.1 rfl (Nat.le_of_ble_eq_true rfl) dX9_person_39 ⟨Nat.le_of_ble_eq_true rfl, Nat.le_of_ble_eq_true rfl⟩) hW (fun r_16 L_14 h_15 H locs p_17 hW => ?_)
        obtain ⟨hr_18, hT, hs⟩ := p_17
        replace hT : hx_T T_tb L_14 h_15 := hT
        replace hs : hx_S T_tb [] L_8 h_9 L_14 h_15 := hs
        replace f_x_7 := (hs.o gx trivial rfl).2.trans f_x_7
        replace f_x_10 := (hs.o gx trivial rfl).2.trans f_x_10
        replace f_x_8 := (hs.o gx trivial rfl).1.trans f_x_8
        replace f_x_11 := (hs.o gx trivial rfl).1.trans f_x_11
        replace pf_x_8 : ∀ j : Nat, (j : Int) < (h_15.2.1 x 8).toInt → h_15.2.2 qp j ≠ none := by
          intro j hj; rw [(hs.o gx trivial rfl).1] at hj; rw [(hs.a gqp rfl j).2]; exact pf_x_8 j hj
        replace cl_qp_7 : hx_col 40 h_15 qp 7 = df := (hx_col_S hs hTo gqp tt_44 tt_4 rfl rfl).trans cl_qp_7
        replace cl_qp_8 : hx_col 40 h_15 qp 8 = jf := (hx_col_S hs hTo gqp tt_44 tt_4 rfl rfl).trans cl_qp_8
        replace cl_qp_5 : hx_col 40 h_15 qp 5 = dxf := (hx_col_S hs hTo gqp tt_44 tt_4 rfl rfl).trans cl_qp_5
        replace cl_qp_6 : hx_col 40 h_15 qp 6 = dyf := (hx_col_S hs hTo gqp tt_44 tt_4 rfl rfl).trans cl_qp_6
        replace cl_qp_1 : hx_col 40 h_15 qp 1 = bnf := (hx_col_S hs hTo gqp tt_44 tt_4 rfl rfl).trans cl_qp_1
        replace cl_qp_2 : hx_col 40 h_15 qp 2 = kkf := (hx_col_S hs hTo gqp tt_44 tt_4 rfl rfl).trans cl_qp_2
        replace cl_qp_3 : hx_col 40 h_15 qp 3 = eaf := (hx_col_S hs hTo gqp tt_44 tt_4 rfl rfl).trans cl_qp_3
        replace cl_qp_4 : hx_col 40 h_15 qp 4 = hdf := (hx_col_S hs hTo gqp tt_44 tt_4 rfl rfl).trans cl_qp_4
        replace nu_qp : hx_num 40 h_15 qp 0 (pn0.toInt) := hx_num_S hs hTo gqp tt_44 tt_4 rfl rfl nu_qp
        replace hDF : hw_DF h_15 qc qp 2 agf cn0.toInt := hw_DF_S hs hTo gqc gqp tt_45 tt_2 rfl rfl rfl hDF
        replace hDP : hw_DF h_15 qc qp 1 byf cn0.toInt := hw_DF_S hs hTo gqc gqp tt_45 tt_2 rfl rfl rfl hDP
        replace hM := hM.tr (hs.mono ?o53)
        case o53 => decide
        replace gx := gx.S hs
        replace gqp := gqp.S hs
        replace gqc := gqc.S hs
        refine hb_if_ne (zx := r_16.toInt) (tgt := 47) hx hb rfl dX9_person_42 ?o54 (fun c_19 => ?_) (fun c_19 => ?_)
        case o54 => decide
        · skip
          replace hr_18 := hr_18.resolve_left (fun z9 => c_19 z9.1)
          replace c_19 := hr_18.1
          replace hr_18 := hr_18.2
          have hTo := hT
          refine hk_new hx hb hts hC_4 hown hW 120 tt_120 rfl ?o55 kw_188 kw_605 kw_108 (Nat.le_of_ble_eq_true rfl) (Nat.le_of_ble_eq_true rfl) dX9_person_47 (fun q_21 H h_20 eh_20 hqq_21 hW hs gq_21 => ?_)
          case o55 => decide
          have nq_q_21 : ∀ a ∈ L, a ≠ q_21 := fun a ha z => hqq_21 (z ▸ (hM.1 a ha).1)
          have hT : hx_T T_tb (L_14 ++ [q_21]) h_20 := ?o56
          case o56 =>
            rw [eh_20]
            exact hx_T_nw hT hqq_21 tt_120 rfl
          replace f_x_7 := (hs.o gx trivial rfl).2.trans f_x_7
          replace f_x_10 := (hs.o gx trivial rfl).2.trans f_x_10
          replace f_x_8 := (hs.o gx trivial rfl).1.trans f_x_8
          replace f_x_11 := (hs.o gx trivial rfl).1.trans f_x_11
          replace pf_x_8 : ∀ j : Nat, (j : Int) < (h_20.2.1 x 8).toInt → h_20.2.2 qp j ≠ none := by
            intro j hj; rw [(hs.o gx trivial rfl).1] at hj; rw [(hs.a gqp rfl j).2]; exact pf_x_8 j hj
          replace cl_qp_7 : hx_col 40 h_20 qp 7 = df := (hx_col_S hs hTo gqp tt_44 tt_4 rfl rfl).trans cl_qp_7
          replace cl_qp_8 : hx_col 40 h_20 qp 8 = jf := (hx_col_S hs hTo gqp tt_44 tt_4 rfl rfl).trans cl_qp_8
          replace cl_qp_5 : hx_col 40 h_20 qp 5 = dxf := (hx_col_S hs hTo gqp tt_44 tt_4 rfl rfl).trans cl_qp_5
          replace cl_qp_6 : hx_col 40 h_20 qp 6 = dyf := (hx_col_S hs hTo gqp tt_44 tt_4 rfl rfl).trans cl_qp_6
          replace cl_qp_1 : hx_col 40 h_20 qp 1 = bnf := (hx_col_S hs hTo gqp tt_44 tt_4 rfl rfl).trans cl_qp_1
          replace cl_qp_2 : hx_col 40 h_20 qp 2 = kkf := (hx_col_S hs hTo gqp tt_44 tt_4 rfl rfl).trans cl_qp_2
          replace cl_qp_3 : hx_col 40 h_20 qp 3 = eaf := (hx_col_S hs hTo gqp tt_44 tt_4 rfl rfl).trans cl_qp_3
          replace cl_qp_4 : hx_col 40 h_20 qp 4 = hdf := (hx_col_S hs hTo gqp tt_44 tt_4 rfl rfl).trans cl_qp_4
          replace nu_qp : hx_num 40 h_20 qp 0 (pn0.toInt) := hx_num_S hs hTo gqp tt_44 tt_4 rfl rfl nu_qp
          replace hDF : hw_DF h_20 qc qp 2 agf cn0.toInt := hw_DF_S hs hTo gqc gqp tt_45 tt_2 rfl rfl rfl hDF
          replace hDP : hw_DF h_20 qc qp 1 byf cn0.toInt := hw_DF_S hs hTo gqc gqp tt_45 tt_2 rfl rfl rfl hDP
          replace hM := hM.tr (hs.mono ?o57)
          case o57 => decide
          replace gx := gx.S hs
          replace gqp := gqp.S hs
          replace gqc := gqc.S hs
          have fz_22 : ∀ j, ([] : List Nat).contains j = false → h_20.2.1 q_21 j = 0 ∧ h_20.2.2 q_21 j = none := ?o58
          case o58 =>
            rw [eh_20]
            exact fun _ _ => ⟨hx_nw_i, hx_nw_r⟩
          refine lv_dup hx hb dX9_person_50 rfl ?_
          refine lv_aload_n hx hb dX9_person_51 rfl (lv_at hl 0 rfl) ?_
          refine hk_geti hx hb hts hC_9 hown hW gx tt_9 8 ?o59 rfl kw_372 ⟨rfl, rfl, rfl⟩ f_x_8 dX9_person_52 ?_
          case o59 => decide
          refine lv_iload_n hx hb dX9_person_55 rfl (lv_at hl 1 rfl) ?_
          refine lv_iload hx hb dX9_person_56 (lv_at hl 6 rfl) ?_
          have hTo := hT
          refine hx_gov (hx_runI (As := [.int pn0, .int i1, .int i6]) (rest := [.ref q_21]) ⟨hx, hb, hml, hown, hts⟩ hW (t_X4_init l dC dI dA (L_14 ++ [q_21]) h_20 H.size q_21 pn0 i1 i6 hT gq_21 (fun j => fz_22 j rfl) ⟨?o60, ?o61⟩ ⟨?o62, ?o63⟩ ⟨?o64, ?o65⟩) (cwI 3 hts (hx_gC kw_608) rfl rfl rfl (hts _ kw_108) (hts _ kw_606) (hts _ kw_607) rfl (by decide +kernel) ⟨Nat.le_of_ble_eq_true rfl, Nat.le_of_ble_eq_true rfl⟩) rfl hl.1 rfl (Nat.le_of_ble_eq_true rfl) dX9_person_58 ⟨Nat.le_of_ble_eq_true rfl, Nat.le_of_ble_eq_true rfl⟩) hW (fun L_23 h_24 H locs p_26 hW => ?_)
          case o60 => omega
          case o61 => omega
          case o62 => omega
          case o63 => omega
          case o64 => omega
          case o65 => omega
          have hTo := hT
          obtain ⟨hT, hs, gNq_21, po_27, po_28, po_29, po_30, po_31⟩ := p_26
          replace hT : hx_T T_tb L_23 h_24 := hT
          replace hs : hx_S T_tb [(120, 0), (120, 1), (120, 2)] (hx_X (L_14 ++ [q_21]) q_21) h_20 L_23 h_24 := hs
          have gx := hx_gX gx (gx.ne gq_21 ?o66)
          case o66 => decide
          have gqp := hx_gX gqp (gqp.ne gq_21 ?o67)
          case o67 => decide
          have gqc := hx_gX gqc (gqc.ne gq_21 ?o68)
          case o68 => decide
          replace f_x_7 := (hs.o gx trivial rfl).2.trans f_x_7
          replace f_x_10 := (hs.o gx trivial rfl).2.trans f_x_10
          replace f_x_8 := (hs.o gx trivial rfl).1.trans f_x_8
          replace f_x_11 := (hs.o gx trivial rfl).1.trans f_x_11
          replace pf_x_8 : ∀ j : Nat, (j : Int) < (h_24.2.1 x 8).toInt → h_24.2.2 qp j ≠ none := by
            intro j hj; rw [(hs.o gx trivial rfl).1] at hj; rw [(hs.a gqp rfl j).2]; exact pf_x_8 j hj
          replace cl_qp_7 : hx_col 40 h_24 qp 7 = df := (hx_col_X hs hTo gqp gq_21 tt_44 tt_4 rfl rfl ?o69).trans cl_qp_7
          case o69 => decide
          replace cl_qp_8 : hx_col 40 h_24 qp 8 = jf := (hx_col_X hs hTo gqp gq_21 tt_44 tt_4 rfl rfl ?o70).trans cl_qp_8
          case o70 => decide
          replace cl_qp_5 : hx_col 40 h_24 qp 5 = dxf := (hx_col_X hs hTo gqp gq_21 tt_44 tt_4 rfl rfl ?o71).trans cl_qp_5
          case o71 => decide
          replace cl_qp_6 : hx_col 40 h_24 qp 6 = dyf := (hx_col_X hs hTo gqp gq_21 tt_44 tt_4 rfl rfl ?o72).trans cl_qp_6
          case o72 => decide
          replace cl_qp_1 : hx_col 40 h_24 qp 1 = bnf := (hx_col_X hs hTo gqp gq_21 tt_44 tt_4 rfl rfl ?o73).trans cl_qp_1
          case o73 => decide
          replace cl_qp_2 : hx_col 40 h_24 qp 2 = kkf := (hx_col_X hs hTo gqp gq_21 tt_44 tt_4 rfl rfl ?o74).trans cl_qp_2
          case o74 => decide
          replace cl_qp_3 : hx_col 40 h_24 qp 3 = eaf := (hx_col_X hs hTo gqp gq_21 tt_44 tt_4 rfl rfl ?o75).trans cl_qp_3
          case o75 => decide
          replace cl_qp_4 : hx_col 40 h_24 qp 4 = hdf := (hx_col_X hs hTo gqp gq_21 tt_44 tt_4 rfl rfl ?o76).trans cl_qp_4
          case o76 => decide
          replace nu_qp : hx_num 40 h_24 qp 0 (pn0.toInt) := hx_num_X hs hTo gqp gq_21 tt_44 tt_4 rfl rfl ?o77 nu_qp
          case o77 => decide
          replace hDF : hw_DF h_24 qc qp 2 agf cn0.toInt := hw_DF_X hs hTo gqc gqp gq_21 tt_45 tt_2 rfl rfl rfl ?o78 hDF
          case o78 => decide
          replace hDP : hw_DF h_24 qc qp 1 byf cn0.toInt := hw_DF_X hs hTo gqc gqp gq_21 tt_45 tt_2 rfl rfl rfl ?o79 hDP
          case o79 => decide
          replace hM := hM.trX (hs.mono ?o80) nq_q_21
          case o80 => decide
          replace gx := gx.S hs
          replace gqp := gqp.S hs
          replace gqc := gqc.S hs
          have gq_21 : hx_g L_23 h_24 q_21 4 := gNq_21
          have po_27 : h_24.2.1 q_21 0 = pn0 := po_27
          have po_28 : h_24.2.1 q_21 7 = 0 := po_28
          have po_29 : h_24.2.1 q_21 8 = 0 := po_29
          have po_30 : h_24.2.1 q_21 1 = i1 := po_30
          have po_31 : h_24.2.1 q_21 2 = i6 := po_31
          refine lv_astore (lv' := [(7, .ref q_21), (0, .ref x), (1, .int i1), (2, .int i2), (3, .int i3), (4, .int i4), (5, .int i5), (6, .int i6)]) hx hb dX9_person_61 hl ?o81 rfl (fun ls hl => ?_)
          case o81 => decide
          refine lv_aload hx hb dX9_person_63 (lv_at hl 0 rfl) ?_
          refine lv_iload_n hx hb dX9_person_65 rfl (lv_at hl 3 rfl) ?_
          refine lv_iload_n hx hb dX9_person_66 rfl (lv_at hl 4 rfl) ?_
          refine lv_iload hx hb dX9_person_67 (lv_at hl 5 rfl) ?_
          refine lv_iload hx hb dX9_person_69 (lv_at hl 6 rfl) ?_
          have numO9 : (h_24.2.1 q_21 0).toInt = pn0.toInt := ?o82
          case o82 => rw [po_27]
          have nu_qpO9 := nu_qp
          have gqpO9 := gqp
          have cl_qp_5O9 := cl_qp_5
          have cl_qp_6O9 := cl_qp_6
          have cl_qp_3O9 := cl_qp_3
          have cl_qp_4O9 := cl_qp_4
          have hTo := hT
          refine hx_gov (hx_runV (As := [.int i2, .int i3, .int i4, .int i5]) (rest := []) ⟨hx, hb, hml, hown, hts⟩ hW gq_21 tt_4 (T := TX4) (N := 10) rfl (t_X4_tell_2 l dC dI dA L_23 h_24 H.size q_21 i2 i3 i4 i5 hT gq_21) (cwV 4 hts (hx_gV kw_651 kw_648 kw_649 kw_650 kw_108) rfl rfl rfl (by decide +kernel) ⟨Nat.le_of_ble_eq_true rfl, Nat.le_of_ble_eq_true rfl⟩) rfl hl.1 rfl (Nat.le_of_ble_eq_true rfl) dX9_person_71 ⟨Nat.le_of_ble_eq_true rfl, Nat.le_of_ble_eq_true rfl⟩) hW (fun L_32 h_33 H locs p_35 hW => ?_)
          obtain ⟨⟨w_37, w_38, w_39, w_40, fw_37, fw_38, fw_39, fw_40, hr_36⟩, hT, hs⟩ := p_35
          replace hT : hx_T T_tb L_32 h_33 := hT
          replace hs : hx_S T_tb [(4, 3), (4, 4), (4, 5), (4, 6)] L_23 h_24 L_32 h_33 := hs
          replace f_x_7 := (hs.o gx trivial rfl).2.trans f_x_7
          replace f_x_10 := (hs.o gx trivial rfl).2.trans f_x_10
          replace f_x_8 := (hs.o gx trivial rfl).1.trans f_x_8
          replace f_x_11 := (hs.o gx trivial rfl).1.trans f_x_11
          replace po_27 := (hs.o gq_21 trivial rfl).1.trans po_27
          replace po_28 := (hs.o gq_21 trivial rfl).1.trans po_28
          replace po_29 := (hs.o gq_21 trivial rfl).1.trans po_29
          replace po_30 := (hs.o gq_21 trivial rfl).1.trans po_30
          replace po_31 := (hs.o gq_21 trivial rfl).1.trans po_31
          replace pf_x_8 : ∀ j : Nat, (j : Int) < (h_33.2.1 x 8).toInt → h_33.2.2 qp j ≠ none := by
            intro j hj; rw [(hs.o gx trivial rfl).1] at hj; rw [(hs.a gqp rfl j).2]; exact pf_x_8 j hj
          replace cl_qp_7 : hx_col 40 h_33 qp 7 = df := (hx_col_S hs hTo gqp tt_44 tt_4 rfl rfl).trans cl_qp_7
          replace cl_qp_8 : hx_col 40 h_33 qp 8 = jf := (hx_col_S hs hTo gqp tt_44 tt_4 rfl rfl).trans cl_qp_8
          replace cl_qp_1 : hx_col 40 h_33 qp 1 = bnf := (hx_col_S hs hTo gqp tt_44 tt_4 rfl rfl).trans cl_qp_1
          replace cl_qp_2 : hx_col 40 h_33 qp 2 = kkf := (hx_col_S hs hTo gqp tt_44 tt_4 rfl rfl).trans cl_qp_2
          replace nu_qp : hx_num 40 h_33 qp 0 (pn0.toInt) := hx_num_S hs hTo gqp tt_44 tt_4 rfl rfl nu_qp
          replace hDF : hw_DF h_33 qc qp 2 agf cn0.toInt := hw_DF_S hs hTo gqc gqp tt_45 tt_2 rfl rfl rfl hDF
          replace hDP : hw_DF h_33 qc qp 1 byf cn0.toInt := hw_DF_S hs hTo gqc gqp tt_45 tt_2 rfl rfl rfl hDP
          replace hM := hM.tr (hs.mono ?o83)
          case o83 => decide
          replace gx := gx.S hs
          replace gqp := gqp.S hs
          replace gqc := gqc.S hs
          replace gq_21 := gq_21.S hs
          have fw_37 : h_33.2.1 q_21 5 = w_37 := fw_37
          have bw_37 := hT.gi gq_21 tt_4 (k := 5) rfl
          rw [fw_37] at bw_37
          have bw_37 : -2147483648 ≤ w_37.toInt ∧ w_37.toInt ≤ 2147483647 := bw_37
          have fw_38 : h_33.2.1 q_21 6 = w_38 := fw_38
          have bw_38 := hT.gi gq_21 tt_4 (k := 6) rfl
          rw [fw_38] at bw_38
          have bw_38 : -2147483648 ≤ w_38.toInt ∧ w_38.toInt ≤ 2147483647 := bw_38
          have fw_39 : h_33.2.1 q_21 3 = w_39 := fw_39
          have bw_39 := hT.gi gq_21 tt_4 (k := 3) rfl
          rw [fw_39] at bw_39
          have bw_39 : -2147483648 ≤ w_39.toInt ∧ w_39.toInt ≤ 2147483647 := bw_39
          have fw_40 : h_33.2.1 q_21 4 = w_40 := fw_40
          have bw_40 := hT.gi gq_21 tt_4 (k := 4) rfl
          rw [fw_40] at bw_40
          have bw_40 : -2147483648 ≤ w_40.toInt ∧ w_40.toInt ≤ 2147483647 := bw_40
          obtain ⟨hr_36a, hr_36b⟩ := hr_36
          have tlr := fun j => (hs.a gqpO9 rfl j).2
          have nc_41 : hx_col 40 h_33 qp 5 = dxf := hw_col_k hr_36a.2.2 tlr (hw_num_no nu_qpO9 numO9) cl_qp_5O9
          have nc_42 : hx_col 40 h_33 qp 6 = dyf := hw_col_k hr_36a.2.2 tlr (hw_num_no nu_qpO9 numO9) cl_qp_6O9
          have nc_43 : hx_col 40 h_33 qp 3 = eaf := hw_col_k hr_36a.2.2 tlr (hw_num_no nu_qpO9 numO9) cl_qp_3O9
          have nc_44 : hx_col 40 h_33 qp 4 = hdf := hw_col_k hr_36a.2.2 tlr (hw_num_no nu_qpO9 numO9) cl_qp_4O9
          have tlx := hr_36a.1; have tly := hr_36a.2.1; have tle := hr_36b.1; have tlh := hr_36b.2
          rw [tlx] at fw_37
          rw [tly] at fw_38
          rw [tle] at fw_39
          rw [tlh] at fw_40
          refine lv_aload_n hx hb dX9_person_74 rfl (lv_at hl 1 rfl) ?_
          refine hk_getr hx hb hts hC_9 hown hW gx tt_9 7 ?o84 rfl kw_371 ⟨rfl, rfl, rfl⟩ f_x_7 dX9_person_75 ?_
          case o84 => decide
          refine lv_aload_n hx hb dX9_person_78 rfl (lv_at hl 1 rfl) ?_
          refine hk_geti hx hb hts hC_9 hown hW gx tt_9 8 ?o85 rfl kw_372 ⟨rfl, rfl, rfl⟩ f_x_8 dX9_person_79 ?_
          case o85 => decide
          refine lv_aload hx hb dX9_person_82 (lv_at hl 0 rfl) ?_
          have hDFO9 := hDF
          have hDPO9 := hDP
          have nuP9 := nu_qp
          have hTO9 := hT
          have gqcO9 := gqc
          have gqpO8 := gqp
          have hTo := hT
          have cl_qp_7O := cl_qp_7
          have po_28O := po_28
          have cl_qp_8O := cl_qp_8
          have po_29O := po_29
          have cl_qp_1O := cl_qp_1
          have po_30O := po_30
          have cl_qp_2O := cl_qp_2
          have po_31O := po_31
          have nc_41O := nc_41
          have fw_37O := fw_37
          have nc_42O := nc_42
          have fw_38O := fw_38
          have nc_43O := nc_43
          have fw_39O := fw_39
          have nc_44O := nc_44
          have fw_40O := fw_40
          have nu_qpO := nu_qp
          have po_27O := po_27
          have pf_x_8O := pf_x_8
          refine hx_aast hx hb hW hT (hx_S.rf (M := [(44, 0)])) gqp tt_44 rfl gq_21 tt_4 rfl ?o86 ⟨?o87, ?o88⟩ (List.mem_singleton.mpr rfl) dX9_person_84 (fun H locs h_45 eh_45 hW hT hs => ?_)
          case o86 => decide
          case o87 => omega
          case o88 => omega
          replace f_x_7 := (hs.o gx trivial rfl).2.trans f_x_7
          replace f_x_10 := (hs.o gx trivial rfl).2.trans f_x_10
          replace f_x_8 := (hs.o gx trivial rfl).1.trans f_x_8
          replace f_x_11 := (hs.o gx trivial rfl).1.trans f_x_11
          replace po_27 := (hs.o gq_21 trivial rfl).1.trans po_27
          replace po_28 := (hs.o gq_21 trivial rfl).1.trans po_28
          replace po_29 := (hs.o gq_21 trivial rfl).1.trans po_29
          replace po_30 := (hs.o gq_21 trivial rfl).1.trans po_30
          replace po_31 := (hs.o gq_21 trivial rfl).1.trans po_31
          replace fw_37 := (hs.o gq_21 trivial rfl).1.trans fw_37
          replace fw_38 := (hs.o gq_21 trivial rfl).1.trans fw_38
          replace fw_39 := (hs.o gq_21 trivial rfl).1.trans fw_39
          replace fw_40 := (hs.o gq_21 trivial rfl).1.trans fw_40
          replace hM := hM.tr (hs.mono ?o89)
          case o89 => decide
          replace gx := gx.S hs
          replace gqp := gqp.S hs
          replace gqc := gqc.S hs
          replace gq_21 := gq_21.S hs
          have pf_x_8 : ∀ j : Nat, (j : Int) < (h_45.2.1 x 8).toInt → h_45.2.2 qp j ≠ none := hx_pfk pf_x_8O eh_45
          have px_46 : ∀ j : Nat, (j : Int) < pn0.toInt + 1 → h_45.2.2 qp j ≠ none := hx_pfx pf_x_8O (by first | exact f_x_8 | exact ((hs.o gx trivial rfl).1.symm.trans f_x_8)) (by omega) eh_45
          obtain ⟨fc_47, dfc_47⟩ : ∃ g : Nat → Int32, g = hx_up df pn0.toNatClampNeg (0 : Int32) := ⟨_, rfl⟩
          have nfc_47 : hx_col 40 h_45 qp 7 = fc_47 := ?o90
          case o90 =>
            rw [dfc_47]
            exact (hx_col_pr eh_45 (by unfold Int32.toNatClampNeg; omega)).trans (by rw [cl_qp_7O, po_28O])
          obtain ⟨fc_48, dfc_48⟩ : ∃ g : Nat → Int32, g = hx_up jf pn0.toNatClampNeg (0 : Int32) := ⟨_, rfl⟩
          have nfc_48 : hx_col 40 h_45 qp 8 = fc_48 := ?o91
          case o91 =>
            rw [dfc_48]
            exact (hx_col_pr eh_45 (by unfold Int32.toNatClampNeg; omega)).trans (by rw [cl_qp_8O, po_29O])
          obtain ⟨fc_49, dfc_49⟩ : ∃ g : Nat → Int32, g = hx_up bnf pn0.toNatClampNeg i1 := ⟨_, rfl⟩
          have nfc_49 : hx_col 40 h_45 qp 1 = fc_49 := ?o92
          case o92 =>
            rw [dfc_49]
            exact (hx_col_pr eh_45 (by unfold Int32.toNatClampNeg; omega)).trans (by rw [cl_qp_1O, po_30O])
          obtain ⟨fc_50, dfc_50⟩ : ∃ g : Nat → Int32, g = hx_up kkf pn0.toNatClampNeg i6 := ⟨_, rfl⟩
          have nfc_50 : hx_col 40 h_45 qp 2 = fc_50 := ?o93
          case o93 =>
            rw [dfc_50]
            exact (hx_col_pr eh_45 (by unfold Int32.toNatClampNeg; omega)).trans (by rw [cl_qp_2O, po_31O])
          obtain ⟨fc_51, dfc_51⟩ : ∃ g : Nat → Int32, g = hx_up dxf pn0.toNatClampNeg i4 := ⟨_, rfl⟩
          have nfc_51 : hx_col 40 h_45 qp 5 = fc_51 := ?o94
          case o94 =>
            rw [dfc_51]
            exact (hx_col_pr eh_45 (by unfold Int32.toNatClampNeg; omega)).trans (by rw [nc_41O, fw_37O])
          obtain ⟨fc_52, dfc_52⟩ : ∃ g : Nat → Int32, g = hx_up dyf pn0.toNatClampNeg i5 := ⟨_, rfl⟩
          have nfc_52 : hx_col 40 h_45 qp 6 = fc_52 := ?o95
          case o95 =>
            rw [dfc_52]
            exact (hx_col_pr eh_45 (by unfold Int32.toNatClampNeg; omega)).trans (by rw [nc_42O, fw_38O])
          obtain ⟨fc_53, dfc_53⟩ : ∃ g : Nat → Int32, g = hx_up eaf pn0.toNatClampNeg i2 := ⟨_, rfl⟩
          have nfc_53 : hx_col 40 h_45 qp 3 = fc_53 := ?o96
          case o96 =>
            rw [dfc_53]
            exact (hx_col_pr eh_45 (by unfold Int32.toNatClampNeg; omega)).trans (by rw [nc_43O, fw_39O])
          obtain ⟨fc_54, dfc_54⟩ : ∃ g : Nat → Int32, g = hx_up hdf pn0.toNatClampNeg i3 := ⟨_, rfl⟩
          have nfc_54 : hx_col 40 h_45 qp 4 = fc_54 := ?o97
          case o97 =>
            rw [dfc_54]
            exact (hx_col_pr eh_45 (by unfold Int32.toNatClampNeg; omega)).trans (by rw [nc_44O, fw_40O])
          have nu_55 : hx_num 40 h_45 qp 0 (pn0.toInt + 1) := hx_num_pr nu_qpO eh_45 ?o98 ?o99 (by rw [po_27O])
          case o98 => omega
          case o99 => omega
          have hDF : hw_DF h_45 qc qp 2 agf cn0.toInt := hw_DF_p hDFO9 hTO9 gqcO9 gqpO8 tt_45 ?o100 ?o101 nuP9 eh_45 ?o102 ?o103
          case o100 => decide
          case o101 => decide
          case o102 => omega
          case o103 => omega
          have hDP : hw_DF h_45 qc qp 1 byf cn0.toInt := hw_DF_p hDPO9 hTO9 gqcO9 gqpO8 tt_45 ?o104 ?o105 nuP9 eh_45 ?o106 ?o107
          case o104 => decide
          case o105 => decide
          case o106 => omega
          case o107 => omega
          refine lv_aload_n hx hb dX9_person_85 rfl (lv_at hl 1 rfl) ?_
          refine lv_dup hx hb dX9_person_86 rfl ?_
          refine hk_geti hx hb hts hC_9 hown hW gx tt_9 8 ?o108 rfl kw_372 ⟨rfl, rfl, rfl⟩ f_x_8 dX9_person_87 ?_
          case o108 => decide
          refine lv_iconst (v := 1) hx hb dX9_person_90 ?o109 ?_
          case o109 => decide
          refine lv_iadd hx hb dX9_person_91 ?_
          have rg_56 := i32_r pn0
          refine lv_topi (fun x_57 ex_57 => ?_)
          have zx_57 : x_57.toInt = pn0.toInt + 1 := ?o110
          case o110 =>
            rw [ex_57]
            refine i32_add rfl ?o111 ?o112 ?o113
            case o111 => decide
            case o112 => omega
            case o113 => omega
          have hTo := hT
          refine hx_puti hx hb hts hC_9 hown hW hT (hx_S.rf (M := [(9, 8)])) gx tt_9 8 ?o114 rfl kw_372 ⟨rfl, rfl, rfl⟩ rfl (x := x_57) ⟨?o115, ?o116⟩ rfl rfl rfl (List.mem_singleton.mpr rfl) dX9_person_92 (fun H locs h_58 eh_58 hW hT hs => ?_)
          case o114 => decide
          case o115 => omega
          case o116 => omega
          replace px_46 : ∀ j : Nat, (j : Int) < pn0.toInt + 1 → h_58.2.2 qp j ≠ none := fun j hj => by rw [(hs.a gqp rfl j).2]; exact px_46 j hj
          replace f_x_7 := (hs.o gx trivial rfl).2.trans f_x_7
          replace f_x_10 := (hs.o gx trivial rfl).2.trans f_x_10
          replace f_x_11 := (hs.o gx trivial rfl).1.trans f_x_11
          replace po_27 := (hs.o gq_21 trivial rfl).1.trans po_27
          replace po_28 := (hs.o gq_21 trivial rfl).1.trans po_28
          replace po_29 := (hs.o gq_21 trivial rfl).1.trans po_29
          replace po_30 := (hs.o gq_21 trivial rfl).1.trans po_30
          replace po_31 := (hs.o gq_21 trivial rfl).1.trans po_31
          replace fw_37 := (hs.o gq_21 trivial rfl).1.trans fw_37
          replace fw_38 := (hs.o gq_21 trivial rfl).1.trans fw_38
          replace fw_39 := (hs.o gq_21 trivial rfl).1.trans fw_39
          replace fw_40 := (hs.o gq_21 trivial rfl).1.trans fw_40
          replace nfc_47 : hx_col 40 h_58 qp 7 = fc_47 := (hx_col_S hs hTo gqp tt_44 tt_4 rfl rfl).trans nfc_47
          replace nfc_48 : hx_col 40 h_58 qp 8 = fc_48 := (hx_col_S hs hTo gqp tt_44 tt_4 rfl rfl).trans nfc_48
          replace nfc_49 : hx_col 40 h_58 qp 1 = fc_49 := (hx_col_S hs hTo gqp tt_44 tt_4 rfl rfl).trans nfc_49
          replace nfc_50 : hx_col 40 h_58 qp 2 = fc_50 := (hx_col_S hs hTo gqp tt_44 tt_4 rfl rfl).trans nfc_50
          replace nfc_51 : hx_col 40 h_58 qp 5 = fc_51 := (hx_col_S hs hTo gqp tt_44 tt_4 rfl rfl).trans nfc_51
          replace nfc_52 : hx_col 40 h_58 qp 6 = fc_52 := (hx_col_S hs hTo gqp tt_44 tt_4 rfl rfl).trans nfc_52
          replace nfc_53 : hx_col 40 h_58 qp 3 = fc_53 := (hx_col_S hs hTo gqp tt_44 tt_4 rfl rfl).trans nfc_53
          replace nfc_54 : hx_col 40 h_58 qp 4 = fc_54 := (hx_col_S hs hTo gqp tt_44 tt_4 rfl rfl).trans nfc_54
          replace nu_55 : hx_num 40 h_58 qp 0 (pn0.toInt + 1) := hx_num_S hs hTo gqp tt_44 tt_4 rfl rfl nu_55
          replace hDF : hw_DF h_58 qc qp 2 agf cn0.toInt := hw_DF_S hs hTo gqc gqp tt_45 tt_2 rfl rfl rfl hDF
          replace hDP : hw_DF h_58 qc qp 1 byf cn0.toInt := hw_DF_S hs hTo gqc gqp tt_45 tt_2 rfl rfl rfl hDP
          replace hM := hM.tr (hs.mono ?o117)
          case o117 => decide
          replace gx := gx.S hs
          replace gqp := gqp.S hs
          replace gqc := gqc.S hs
          replace gq_21 := gq_21.S hs
          have f_59 : h_58.2.1 x 8 = x_57 := ?o118
          case o118 =>
            rw [eh_58]
            exact hx_pi_at _ _ _ _
          have pf_60 : ∀ j : Nat, (j : Int) < (h_58.2.1 x 8).toInt → h_58.2.2 qp j ≠ none := fun j hj => px_46 j (by rw [f_59] at hj; omega)
          refine lv_aload hx hb dX9_person_95 (lv_at hl 0 rfl) ?_
          refine hk_geti hx hb hts hC_4 hown hW gq_21 tt_4 0 ?o119 rfl kw_612 ⟨rfl, rfl, rfl⟩ po_27 dX9_person_97 ?_
          case o119 => decide
          refine W.widen (k := 1) (n := 10) (Nat.le_of_ble_eq_true rfl) (Nat.le_of_ble_eq_true rfl) ?_
          refine hx_reti hx hb hr hlk hW ⟨⟨x_57, fc_47, fc_48, fc_51, fc_52, fc_49, fc_50, fc_53, fc_54, f_59, nfc_47, nfc_48, nfc_51, nfc_52, nfc_49, nfc_50, nfc_53, nfc_54, ⟨(hx_num_c nu_55 ?o120), ⟨⟨(Or.inr ⟨?o121, ?o122, by unfold hx_pcn; omega⟩), (Or.inr ⟨?o123, ?o124, dfc_47⟩), (Or.inr ⟨?o125, ?o126, dfc_48⟩), (Or.inr ⟨?o127, ?o128, dfc_51⟩), (Or.inr ⟨?o129, ?o130, dfc_52⟩), (Or.inr ⟨?o131, ?o132, dfc_49⟩), (Or.inr ⟨?o133, ?o134, dfc_50⟩), hDF, hDP⟩, ⟨(Or.inr ⟨?o135, ?o136, dfc_53⟩), (Or.inr ⟨?o137, ?o138, dfc_54⟩)⟩⟩⟩⟩, hT, hM, pf_60⟩ dX9_person_100
          case o120 => omega
          case o121 => omega
          case o122 => omega
          case o123 => omega
          case o124 => omega
          case o125 => omega
          case o126 => omega
          case o127 => omega
          case o128 => omega
          case o129 => omega
          case o130 => omega
          case o131 => omega
          case o132 => omega
          case o133 => omega
          case o134 => omega
          case o135 => omega
          case o136 => omega
          case o137 => omega
          case o138 => omega
        · skip
          replace hr_18 := hr_18.resolve_right (fun z9 => absurd (c_19.symm.trans z9.1) ?o139)
          case o139 => decide
          replace hr_18 := hr_18.2
          refine lv_iconst (v := -1) hx hb dX9_person_45 ?o140 ?_
          case o140 => decide
          refine W.widen (k := 1) (n := 10) (Nat.le_of_ble_eq_true rfl) (Nat.le_of_ble_eq_true rfl) ?_
          refine hx_reti hx hb hr hlk hW ⟨⟨pn0, df, jf, dxf, dyf, bnf, kkf, eaf, hdf, f_x_8, cl_qp_7, cl_qp_8, cl_qp_5, cl_qp_6, cl_qp_1, cl_qp_2, cl_qp_3, cl_qp_4, ⟨(hx_num_c nu_qp ?o141), ⟨⟨(Or.inl ⟨?o142, ?o143, by unfold hx_pcn; omega⟩), (Or.inl ⟨?o144, rfl⟩), (Or.inl ⟨?o145, rfl⟩), (Or.inl ⟨?o146, rfl⟩), (Or.inl ⟨?o147, rfl⟩), (Or.inl ⟨?o148, rfl⟩), (Or.inl ⟨?o149, rfl⟩), hDF, hDP⟩, ⟨(Or.inl ⟨?o150, rfl⟩), (Or.inl ⟨?o151, rfl⟩)⟩⟩⟩⟩, hT, hM, pf_x_8⟩ dX9_person_46
          case o141 => omega
          case o142 => decide
          case o143 => omega
          case o144 => decide
          case o145 => decide
          case o146 => decide
          case o147 => decide
          case o148 => decide
          case o149 => decide
          case o150 => decide
          case o151 => decide


set_option maxHeartbeats 4000000 in
set_option maxRecDepth 100000 in
theorem t_X9_file_v (l : Launch) (dC : Nat → ClassId) (dI : Nat → Nat → Nat) (dA : Nat → ClassId) (L : List Nat) (h : hx_h) (sz : Nat) (x : Nat) (i1 : Int32) (i2 : Int32) (i3 : Int32) (i4 : Int32) (i5 : Int32) (i6 : Int32) (hT : hx_T T_tb L h) (gx : hx_g L h x 9) (qp : Nat) (gqp : hx_g L h qp 44) (f_x_7 : h.2.2 x 7 = some qp) (qc : Nat) (gqc : hx_g L h qc 45) (f_x_10 : h.2.2 x 10 = some qc) (qa : Nat) (gqa : hx_g L h qa 43) (f_x_5 : h.2.2 x 5 = some qa) (w : Nat) (gw : hx_g L h w 0) (f_x_4 : h.2.2 x 4 = some w) (qw : Nat) (gqw : hx_g L h qw 8) (f_x_19 : h.2.2 x 19 = some qw) (ql : Nat) (gql : hx_g L h ql 40) (f_qw_3 : h.2.2 qw 3 = some ql) (qh : Nat) (gqh : hx_g L h qh 46) (f_x_12 : h.2.2 x 12 = some qh)  (cn0 : Int32) (f_x_11 : h.2.1 x 11 = cn0) (pn0 : Int32) (f_x_8 : h.2.1 x 8 = pn0) (nw0 : Int32) (f_x_2 : h.2.1 x 2 = nw0) (a0 : Int32) (f_x_6 : h.2.1 x 6 = a0) (m0 : Int32) (f_x_13 : h.2.1 x 13 = m0) (df : Nat → Int32) (cl_qp_7 : hx_col 40 h qp 7 = df) (ff : Nat → Int32) (cl_qc_10 : hx_col 100 h qc 10 = ff) (tf : Nat → Int32) (cl_qc_9 : hx_col 100 h qc 9 = tf) (smf : Nat → Int32) (cl_qc_6 : hx_col 100 h qc 6 = smf) (frf : Nat → Int32) (cl_qc_7 : hx_col 100 h qc 7 = frf) (flf : Nat → Int32) (cl_qc_8 : hx_col 100 h qc 8 = flf) (hrf : Nat → Int32) (cl_qc_11 : hx_col 100 h qc 11 = hrf) (udf : Nat → Int32) (cl_qc_12 : hx_col 100 h qc 12 = udf) (odf : Nat → Int32) (cl_qc_13 : hx_col 100 h qc 13 = odf) (wkf : Nat → Int32) (cl_qc_14 : hx_col 100 h qc 14 = wkf) (owf : Nat → Int32) (cl_qc_15 : hx_col 100 h qc 15 = owf) (szf : Nat → Int32) (cl_qc_16 : hx_col 100 h qc 16 = szf) (gdf : Nat → Int32) (cl_qc_17 : hx_col 100 h qc 17 = gdf) (svf : Nat → Int32) (cl_qc_18 : hx_col 100 h qc 18 = svf) (nu_qc : hx_num 100 h qc 0 (cn0.toInt)) (sb_ql_qc : hx_LQ 8 100 h ql qc) (agf byf : Nat → Int32) (hDF : hw_DF h qc qp 2 agf cn0.toInt) (hDP : hw_DF h qc qp 1 byf cn0.toInt) (plf hof cF bF : Nat → Int32) (A : Nat → hv_act) (hRA : hv_RA h qa w a0.toInt A) (hAC : hv_AC h qc plf cn0.toInt A) (hFX : hv_FX 8 4 h qc cF cn0.toInt) (hBX : hv_FX 3 5 h qc bF cn0.toInt) (hHL : hv_HL h qh qc hof m0.toInt cn0.toInt) (hi5 : 0 ≤ i5.toInt ∧ i5.toInt ≤ 1) (pf_x_8 : ∀ j : Nat, (j : Int) < (h.2.1 x 8).toInt → h.2.2 qp j ≠ none) (pf_x_11 : ∀ j : Nat, (j : Int) < (h.2.1 x 11).toInt → h.2.2 qc j ≠ none) (pf_x_6 : ∀ j : Nat, (j : Int) < (h.2.1 x 6).toInt → h.2.2 qa j ≠ none) : Met l yX9_file (Cond.code yX9_file cX9_file 10 (some .int) :: hx_all) ({ frames := 2, cells := 3, slots := 30, locals := 36 }) (va_Pc [.ref x, .int i1, .int i2, .int i3, .int i4, .int i5, .int i6] (hx_B T_tb (P_ty dA) (dC, dI) vwCl L h sz)) (va_Qi (fun (r : Int32) (u : List Nat × hx_h) => (∃ (cn1 : Int32) (ff1 : Nat → Int32) (tf1 : Nat → Int32) (smf1 : Nat → Int32) (frf1 : Nat → Int32) (flf1 : Nat → Int32) (hrf1 : Nat → Int32) (udf1 : Nat → Int32) (odf1 : Nat → Int32) (wkf1 : Nat → Int32) (owf1 : Nat → Int32) (szf1 : Nat → Int32) (gdf1 : Nat → Int32) (svf1 : Nat → Int32), u.2.2.1 x 11 = cn1 ∧ hx_col 100 u.2 qc 10 = ff1 ∧ hx_col 100 u.2 qc 9 = tf1 ∧ hx_col 100 u.2 qc 6 = smf1 ∧ hx_col 100 u.2 qc 7 = frf1 ∧ hx_col 100 u.2 qc 8 = flf1 ∧ hx_col 100 u.2 qc 11 = hrf1 ∧ hx_col 100 u.2 qc 12 = udf1 ∧ hx_col 100 u.2 qc 13 = odf1 ∧ hx_col 100 u.2 qc 14 = wkf1 ∧ hx_col 100 u.2 qc 15 = owf1 ∧ hx_col 100 u.2 qc 16 = szf1 ∧ hx_col 100 u.2 qc 17 = gdf1 ∧ hx_col 100 u.2 qc 18 = svf1 ∧ ((hx_num 100 u.2 qc 0 (cn1.toInt)) ∧ ((hx_LQ 8 100 u.2 ql qc) ∧ (((hx_FS cn0.toInt pn0.toInt nw0.toInt i1.toInt i2.toInt i3.toInt i4.toInt i6.toInt df r.toInt cn1.toInt) ∧ hx_CD cn0.toInt r.toInt (-1) ff ff1 ∧ hx_CD cn0.toInt r.toInt 0 tf tf1 ∧ hx_CD cn0.toInt r.toInt i3 smf smf1 ∧ hx_CD cn0.toInt r.toInt i4 frf frf1 ∧ hx_CD cn0.toInt r.toInt nw0 flf flf1 ∧ hx_CD cn0.toInt r.toInt (-1) hrf hrf1 ∧ hx_CD cn0.toInt r.toInt 0 udf udf1 ∧ (∃ agf1 byf1 plf1 cF1 bF1 : Nat → Int32, ∃ pv : Int32, hw_UP r.toInt cn0.toInt i2 agf agf1 ∧ hw_UP r.toInt cn0.toInt i1 byf byf1 ∧ (pv.toInt = ((hv_IF A nw0.toInt a0.toInt.toNat : Nat) : Int) ∧ hw_UP r.toInt cn0.toInt pv plf plf1) ∧ hv_FU r.toInt cn0.toInt i5 i6 i3 cF cF1 ∧ hv_BU r.toInt cn0.toInt bF bF1 ∧ hw_DF u.2 qc qp 2 agf1 cn1.toInt ∧ hw_DF u.2 qc qp 1 byf1 cn1.toInt ∧ hv_AC u.2 qc plf1 cn1.toInt A ∧ hv_FX 8 4 u.2 qc cF1 cn1.toInt ∧ hv_FX 3 5 u.2 qc bF1 cn1.toInt ∧ hv_HL u.2 qh qc hof m0.toInt cn1.toInt)) ∧ (hx_CD cn0.toInt r.toInt (-1) odf odf1 ∧ hx_CD cn0.toInt r.toInt 0 wkf wkf1 ∧ hx_CD cn0.toInt r.toInt 0 owf owf1 ∧ hx_CD cn0.toInt r.toInt (-1) szf szf1 ∧ hx_CD cn0.toInt r.toInt 0 gdf gdf1 ∧ hx_CD cn0.toInt r.toInt (-1) svf svf1))))) ∧ hx_T T_tb u.1 u.2 ∧ hx_S T_tb [(2, 6), (2, 7), (2, 8), (9, 11), (20, 0), (45, 0), (118, 0), (118, 1), (118, 2), (118, 3), (118, 4), (118, 5), (118, 10), (118, 11), (118, 13), (118, 16), (118, 18)] L h u.1 u.2 ∧ (∀ j : Nat, (j : Int) < (u.2.2.1 x 11).toInt → u.2.2.2 qc j ≠ none)) (hx_E T_tb (P_ty dA) (dC, dI) vwCl (hx_A L sz)) (hx_A L sz)) 3 30 (hx_A L sz) := by
  refine hx_met (lv := [(0, .ref x), (1, .int i1), (2, .int i2), (3, .int i3), (4, .int i4), (5, .int i5), (6, .int i6)]) (by decide +kernel) rfl (Nat.le_of_ble_eq_true rfl) rfl ?_
  intro p e s m below meth c hx hb hml hr hlk hts0 hown hin hsz hW ls hl
  have hts : ∀ w ∈ hx_all, w.before _ s = true := fun w hw => hts0 w (List.mem_cons_of_mem _ hw)
  have hown : s.vm.findClass "SmallCourt" = some m.cls := hown
  have hM : hx_S T_tb [(2, 6), (2, 7), (2, 8), (9, 11), (20, 0), (45, 0), (118, 0), (118, 1), (118, 2), (118, 3), (118, 4), (118, 5), (118, 10), (118, 11), (118, 13), (118, 16), (118, 18)] L h L h := hx_S.rf
  have b_cn0 := hT.gi gx tt_9 (k := 11) rfl
  rw [f_x_11] at b_cn0
  have b_cn0 : 0 ≤ cn0.toInt ∧ cn0.toInt ≤ 100 := b_cn0
  have b_pn0 := hT.gi gx tt_9 (k := 8) rfl
  rw [f_x_8] at b_pn0
  have b_pn0 : 0 ≤ pn0.toInt ∧ pn0.toInt ≤ 40 := b_pn0
  have b_nw0 := hT.gi gx tt_9 (k := 2) rfl
  rw [f_x_2] at b_nw0
  have b_nw0 : 0 ≤ nw0.toInt ∧ nw0.toInt ≤ 7999 := b_nw0
  have b_a0 := hT.gi gx tt_9 (k := 6) rfl
  rw [f_x_6] at b_a0
  have b_a0 : 0 ≤ a0.toInt ∧ a0.toInt ≤ 8 := b_a0
  have b_m0 := hT.gi gx tt_9 (k := 13) rfl
  rw [f_x_13] at b_m0
  have b_m0 : 0 ≤ m0.toInt ∧ m0.toInt ≤ 100 := b_m0
  have hkb9 := hv_IF_b (A := A) (d := nw0.toInt) a0.toInt.toNat
  obtain ⟨pv9, hpv9⟩ : ∃ v : Int32, v.toInt = ((hv_IF A nw0.toInt a0.toInt.toNat : Nat) : Int) := ⟨Int32.ofNat (hv_IF A nw0.toInt a0.toInt.toNat), by rw [Int32.toInt_ofNat_of_lt (by omega)]⟩
  refine lv_aload_n hx hb dX9_file_0 rfl (lv_at hl 0 rfl) ?_
  refine lv_iload_n hx hb dX9_file_1 rfl (lv_at hl 1 rfl) ?_
  have hTo := hT
  refine hx_goq (hx_runV (As := [.int i1]) (rest := []) ⟨hx, hb, hml, hown, hts⟩ hW gx tt_9 (T := TX9) (N := 20) rfl (t_X9_personAt_2 l dC dI dA L h s.heap.size x i1 hT gx pn0 f_x_8 qp gqp f_x_7 pf_x_8) (cwV 1 hts (hx_gV kw_659 kw_656 kw_658 kw_20 kw_94) rfl rfl rfl (by decide +kernel) ⟨Nat.le_of_ble_eq_true rfl, Nat.le_of_ble_eq_true rfl⟩) rfl hl.1 rfl (Nat.le_of_ble_eq_true rfl) dX9_file_2 ⟨Nat.le_of_ble_eq_true rfl, Nat.le_of_ble_eq_true rfl⟩) hW (fun r_3 L_1 h_2 H locs p_4 hW => ?_)
  obtain ⟨hr_5, hT, hs⟩ := p_4
  replace hT : hx_T T_tb L_1 h_2 := hT
  replace hs : hx_S T_tb [] L h L_1 h_2 := hs
  replace f_x_7 := (hs.o gx trivial rfl).2.trans f_x_7
  replace f_x_10 := (hs.o gx trivial rfl).2.trans f_x_10
  replace f_x_5 := (hs.o gx trivial rfl).2.trans f_x_5
  replace f_x_4 := (hs.o gx trivial rfl).2.trans f_x_4
  replace f_x_19 := (hs.o gx trivial rfl).2.trans f_x_19
  replace f_x_12 := (hs.o gx trivial rfl).2.trans f_x_12
  replace f_x_11 := (hs.o gx trivial rfl).1.trans f_x_11
  replace f_x_8 := (hs.o gx trivial rfl).1.trans f_x_8
  replace f_x_2 := (hs.o gx trivial rfl).1.trans f_x_2
  replace f_x_6 := (hs.o gx trivial rfl).1.trans f_x_6
  replace f_x_13 := (hs.o gx trivial rfl).1.trans f_x_13
  replace pf_x_8 : ∀ j : Nat, (j : Int) < (h_2.2.1 x 8).toInt → h_2.2.2 qp j ≠ none := by
    intro j hj; rw [(hs.o gx trivial rfl).1] at hj; rw [(hs.a gqp rfl j).2]; exact pf_x_8 j hj
  replace pf_x_11 : ∀ j : Nat, (j : Int) < (h_2.2.1 x 11).toInt → h_2.2.2 qc j ≠ none := by
    intro j hj; rw [(hs.o gx trivial rfl).1] at hj; rw [(hs.a gqc rfl j).2]; exact pf_x_11 j hj
  replace pf_x_6 : ∀ j : Nat, (j : Int) < (h_2.2.1 x 6).toInt → h_2.2.2 qa j ≠ none := by
    intro j hj; rw [(hs.o gx trivial rfl).1] at hj; rw [(hs.a gqa rfl j).2]; exact pf_x_6 j hj
  replace cl_qp_7 : hx_col 40 h_2 qp 7 = df := (hx_col_S hs hTo gqp tt_44 tt_4 rfl rfl).trans cl_qp_7
  replace cl_qc_10 : hx_col 100 h_2 qc 10 = ff := (hx_col_S hs hTo gqc tt_45 tt_2 rfl rfl).trans cl_qc_10
  replace cl_qc_9 : hx_col 100 h_2 qc 9 = tf := (hx_col_S hs hTo gqc tt_45 tt_2 rfl rfl).trans cl_qc_9
  replace cl_qc_6 : hx_col 100 h_2 qc 6 = smf := (hx_col_S hs hTo gqc tt_45 tt_2 rfl rfl).trans cl_qc_6
  replace cl_qc_7 : hx_col 100 h_2 qc 7 = frf := (hx_col_S hs hTo gqc tt_45 tt_2 rfl rfl).trans cl_qc_7
  replace cl_qc_8 : hx_col 100 h_2 qc 8 = flf := (hx_col_S hs hTo gqc tt_45 tt_2 rfl rfl).trans cl_qc_8
  replace cl_qc_11 : hx_col 100 h_2 qc 11 = hrf := (hx_col_S hs hTo gqc tt_45 tt_2 rfl rfl).trans cl_qc_11
  replace cl_qc_12 : hx_col 100 h_2 qc 12 = udf := (hx_col_S hs hTo gqc tt_45 tt_2 rfl rfl).trans cl_qc_12
  replace cl_qc_13 : hx_col 100 h_2 qc 13 = odf := (hx_col_S hs hTo gqc tt_45 tt_2 rfl rfl).trans cl_qc_13
  replace cl_qc_14 : hx_col 100 h_2 qc 14 = wkf := (hx_col_S hs hTo gqc tt_45 tt_2 rfl rfl).trans cl_qc_14
  replace cl_qc_15 : hx_col 100 h_2 qc 15 = owf := (hx_col_S hs hTo gqc tt_45 tt_2 rfl rfl).trans cl_qc_15
  replace cl_qc_16 : hx_col 100 h_2 qc 16 = szf := (hx_col_S hs hTo gqc tt_45 tt_2 rfl rfl).trans cl_qc_16
  replace cl_qc_17 : hx_col 100 h_2 qc 17 = gdf := (hx_col_S hs hTo gqc tt_45 tt_2 rfl rfl).trans cl_qc_17
  replace cl_qc_18 : hx_col 100 h_2 qc 18 = svf := (hx_col_S hs hTo gqc tt_45 tt_2 rfl rfl).trans cl_qc_18
  replace nu_qc : hx_num 100 h_2 qc 0 (cn0.toInt) := hx_num_S hs hTo gqc tt_45 tt_2 rfl rfl nu_qc
  replace sb_ql_qc : hx_LQ 8 100 h_2 ql qc := hx_LQ_S hs (gql.S hM) gqc rfl rfl sb_ql_qc
  replace hDF : hw_DF h_2 qc qp 2 agf cn0.toInt := hw_DF_S hs hTo gqc gqp tt_45 tt_2 rfl rfl rfl hDF
  replace hDP : hw_DF h_2 qc qp 1 byf cn0.toInt := hw_DF_S hs hTo gqc gqp tt_45 tt_2 rfl rfl rfl hDP
  replace hRA : hv_RA h_2 qa w a0.toInt A := hv_RA_S hs hTo gqa gw tt_43 tt_0 rfl rfl rfl rfl rfl rfl ?o0 hRA
  case o0 => omega
  replace hAC : hv_AC h_2 qc plf cn0.toInt A := hv_AC_S hs hTo gqc tt_45 tt_2 rfl tt_0 rfl rfl rfl rfl rfl rfl rfl hAC
  replace hFX : hv_FX 8 4 h_2 qc cF cn0.toInt := hv_FX_S hs hTo gqc tt_45 tt_2 rfl rfl rfl rfl hFX
  replace hBX : hv_FX 3 5 h_2 qc bF cn0.toInt := hv_FX_S hs hTo gqc tt_45 tt_2 rfl rfl rfl rfl hBX
  replace hHL : hv_HL h_2 qh qc hof m0.toInt cn0.toInt := hv_HL_S hs gqh gqc rfl rfl hHL
  replace hM := hM.tr (hs.mono ?o1)
  case o1 => decide
  replace gx := gx.S hs
  replace gqp := gqp.S hs
  replace gqc := gqc.S hs
  replace gqa := gqa.S hs
  replace gw := gw.S hs
  replace gqh := gqh.S hs
  obtain ⟨hr_5, hr_5B⟩ := hr_5
  have hr_5 : ∀ q, r_3 = some q → hx_g L_1 h_2 q 4 := hr_5
  rcases r_3 with _ | q_6
  · skip
    have k_7 : i1.toInt < 0 ∨ pn0.toInt ≤ i1.toInt := by
      rcases hr_5B with ⟨_, z⟩ | ⟨_, _, q, z, _⟩
      · exact z
      · cases z
    refine lv_astoreN (lv' := [(7, .null), (0, .ref x), (1, .int i1), (2, .int i2), (3, .int i3), (4, .int i4), (5, .int i5), (6, .int i6)]) hx hb dX9_file_5 hl ?o2 rfl (fun ls hl => ?_)
    case o2 => decide
    refine lv_aload_n hx hb dX9_file_7 rfl (lv_at hl 1 rfl) ?_
    refine lv_iload_n hx hb dX9_file_8 rfl (lv_at hl 3 rfl) ?_
    have hTo := hT
    refine hx_goq (hx_runV (As := [.int i2]) (rest := []) ⟨hx, hb, hml, hown, hts⟩ hW gx tt_9 (T := TX9) (N := 20) rfl (t_X9_personAt_2 l dC dI dA L_1 h_2 H.size x i2 hT gx pn0 f_x_8 qp gqp f_x_7 pf_x_8) (cwV 1 hts (hx_gV kw_659 kw_656 kw_658 kw_20 kw_94) rfl rfl rfl (by decide +kernel) ⟨Nat.le_of_ble_eq_true rfl, Nat.le_of_ble_eq_true rfl⟩) rfl hl.1 rfl (Nat.le_of_ble_eq_true rfl) dX9_file_9 ⟨Nat.le_of_ble_eq_true rfl, Nat.le_of_ble_eq_true rfl⟩) hW (fun r_10 L_8 h_9 H locs p_11 hW => ?_)
    obtain ⟨hr_12, hT, hs⟩ := p_11
    replace hT : hx_T T_tb L_8 h_9 := hT
    replace hs : hx_S T_tb [] L_1 h_2 L_8 h_9 := hs
    replace f_x_7 := (hs.o gx trivial rfl).2.trans f_x_7
    replace f_x_10 := (hs.o gx trivial rfl).2.trans f_x_10
    replace f_x_5 := (hs.o gx trivial rfl).2.trans f_x_5
    replace f_x_4 := (hs.o gx trivial rfl).2.trans f_x_4
    replace f_x_19 := (hs.o gx trivial rfl).2.trans f_x_19
    replace f_x_12 := (hs.o gx trivial rfl).2.trans f_x_12
    replace f_x_11 := (hs.o gx trivial rfl).1.trans f_x_11
    replace f_x_8 := (hs.o gx trivial rfl).1.trans f_x_8
    replace f_x_2 := (hs.o gx trivial rfl).1.trans f_x_2
    replace f_x_6 := (hs.o gx trivial rfl).1.trans f_x_6
    replace f_x_13 := (hs.o gx trivial rfl).1.trans f_x_13
    replace pf_x_8 : ∀ j : Nat, (j : Int) < (h_9.2.1 x 8).toInt → h_9.2.2 qp j ≠ none := by
      intro j hj; rw [(hs.o gx trivial rfl).1] at hj; rw [(hs.a gqp rfl j).2]; exact pf_x_8 j hj
    replace pf_x_11 : ∀ j : Nat, (j : Int) < (h_9.2.1 x 11).toInt → h_9.2.2 qc j ≠ none := by
      intro j hj; rw [(hs.o gx trivial rfl).1] at hj; rw [(hs.a gqc rfl j).2]; exact pf_x_11 j hj
    replace pf_x_6 : ∀ j : Nat, (j : Int) < (h_9.2.1 x 6).toInt → h_9.2.2 qa j ≠ none := by
      intro j hj; rw [(hs.o gx trivial rfl).1] at hj; rw [(hs.a gqa rfl j).2]; exact pf_x_6 j hj
    replace cl_qp_7 : hx_col 40 h_9 qp 7 = df := (hx_col_S hs hTo gqp tt_44 tt_4 rfl rfl).trans cl_qp_7
    replace cl_qc_10 : hx_col 100 h_9 qc 10 = ff := (hx_col_S hs hTo gqc tt_45 tt_2 rfl rfl).trans cl_qc_10
    replace cl_qc_9 : hx_col 100 h_9 qc 9 = tf := (hx_col_S hs hTo gqc tt_45 tt_2 rfl rfl).trans cl_qc_9
    replace cl_qc_6 : hx_col 100 h_9 qc 6 = smf := (hx_col_S hs hTo gqc tt_45 tt_2 rfl rfl).trans cl_qc_6
    replace cl_qc_7 : hx_col 100 h_9 qc 7 = frf := (hx_col_S hs hTo gqc tt_45 tt_2 rfl rfl).trans cl_qc_7
    replace cl_qc_8 : hx_col 100 h_9 qc 8 = flf := (hx_col_S hs hTo gqc tt_45 tt_2 rfl rfl).trans cl_qc_8
    replace cl_qc_11 : hx_col 100 h_9 qc 11 = hrf := (hx_col_S hs hTo gqc tt_45 tt_2 rfl rfl).trans cl_qc_11
    replace cl_qc_12 : hx_col 100 h_9 qc 12 = udf := (hx_col_S hs hTo gqc tt_45 tt_2 rfl rfl).trans cl_qc_12
    replace cl_qc_13 : hx_col 100 h_9 qc 13 = odf := (hx_col_S hs hTo gqc tt_45 tt_2 rfl rfl).trans cl_qc_13
    replace cl_qc_14 : hx_col 100 h_9 qc 14 = wkf := (hx_col_S hs hTo gqc tt_45 tt_2 rfl rfl).trans cl_qc_14
    replace cl_qc_15 : hx_col 100 h_9 qc 15 = owf := (hx_col_S hs hTo gqc tt_45 tt_2 rfl rfl).trans cl_qc_15
    replace cl_qc_16 : hx_col 100 h_9 qc 16 = szf := (hx_col_S hs hTo gqc tt_45 tt_2 rfl rfl).trans cl_qc_16
    replace cl_qc_17 : hx_col 100 h_9 qc 17 = gdf := (hx_col_S hs hTo gqc tt_45 tt_2 rfl rfl).trans cl_qc_17
    replace cl_qc_18 : hx_col 100 h_9 qc 18 = svf := (hx_col_S hs hTo gqc tt_45 tt_2 rfl rfl).trans cl_qc_18
    replace nu_qc : hx_num 100 h_9 qc 0 (cn0.toInt) := hx_num_S hs hTo gqc tt_45 tt_2 rfl rfl nu_qc
    replace sb_ql_qc : hx_LQ 8 100 h_9 ql qc := hx_LQ_S hs (gql.S hM) gqc rfl rfl sb_ql_qc
    replace hDF : hw_DF h_9 qc qp 2 agf cn0.toInt := hw_DF_S hs hTo gqc gqp tt_45 tt_2 rfl rfl rfl hDF
    replace hDP : hw_DF h_9 qc qp 1 byf cn0.toInt := hw_DF_S hs hTo gqc gqp tt_45 tt_2 rfl rfl rfl hDP
    replace hRA : hv_RA h_9 qa w a0.toInt A := hv_RA_S hs hTo gqa gw tt_43 tt_0 rfl rfl rfl rfl rfl rfl ?o3 hRA
    case o3 => omega
    replace hAC : hv_AC h_9 qc plf cn0.toInt A := hv_AC_S hs hTo gqc tt_45 tt_2 rfl tt_0 rfl rfl rfl rfl rfl rfl rfl hAC
    replace hFX : hv_FX 8 4 h_9 qc cF cn0.toInt := hv_FX_S hs hTo gqc tt_45 tt_2 rfl rfl rfl rfl hFX
    replace hBX : hv_FX 3 5 h_9 qc bF cn0.toInt := hv_FX_S hs hTo gqc tt_45 tt_2 rfl rfl rfl rfl hBX
    replace hHL : hv_HL h_9 qh qc hof m0.toInt cn0.toInt := hv_HL_S hs gqh gqc rfl rfl hHL
    replace hM := hM.tr (hs.mono ?o4)
    case o4 => decide
    replace gx := gx.S hs
    replace gqp := gqp.S hs
    replace gqc := gqc.S hs
    replace gqa := gqa.S hs
    replace gw := gw.S hs
    replace gqh := gqh.S hs
    obtain ⟨hr_12, hr_12B⟩ := hr_12
    have hr_12 : ∀ q, r_10 = some q → hx_g L_8 h_9 q 4 := hr_12
    rcases r_10 with _ | q_13
    · skip
      have k_14 : i2.toInt < 0 ∨ pn0.toInt ≤ i2.toInt := by
        rcases hr_12B with ⟨_, z⟩ | ⟨_, _, q, z, _⟩
        · exact z
        · cases z
      refine lv_astoreN (lv' := [(8, .null), (7, .null), (0, .ref x), (1, .int i1), (2, .int i2), (3, .int i3), (4, .int i4), (5, .int i5), (6, .int i6)]) hx hb dX9_file_12 hl ?o5 rfl (fun ls hl => ?_)
      case o5 => decide
      refine lv_aload_n hx hb dX9_file_14 rfl (lv_at hl 2 rfl) ?_
      refine hk_geti hx hb hts hC_9 hown hW gx tt_9 11 ?o6 rfl kw_375 ⟨rfl, rfl, rfl⟩ f_x_11 dX9_file_15 ?_
      case o6 => decide
      refine lv_bipush (v := 100) hx hb dX9_file_18 ?o7 ?_
      case o7 => decide
      refine hb_icmp_ge (zx := cn0.toInt) (zy := 100) (tgt := 81) hx hb rfl ?o8 dX9_file_20 ?o9 (fun c_15 => ?_) (fun c_15 => ?_)
      case o8 => decide
      case o9 => decide
      · skip
        refine lv_iconst (v := -1) hx hb dX9_file_81 ?o10 ?_
        case o10 => decide
        refine W.widen (k := 3) (n := 30) (Nat.le_of_ble_eq_true rfl) (Nat.le_of_ble_eq_true rfl) ?_
        refine hx_reti hx hb hr hlk hW ⟨⟨cn0, ff, tf, smf, frf, flf, hrf, udf, odf, wkf, owf, szf, gdf, svf, f_x_11, cl_qc_10, cl_qc_9, cl_qc_6, cl_qc_7, cl_qc_8, cl_qc_11, cl_qc_12, cl_qc_13, cl_qc_14, cl_qc_15, cl_qc_16, cl_qc_17, cl_qc_18, ⟨(hx_num_c nu_qc ?o11), ⟨sb_ql_qc, ⟨⟨(Or.inl ⟨?o12, ?o13, fun hc => by unfold hx_FC at hc; omega⟩), (Or.inl ⟨?o14, rfl⟩), (Or.inl ⟨?o15, rfl⟩), (Or.inl ⟨?o16, rfl⟩), (Or.inl ⟨?o17, rfl⟩), (Or.inl ⟨?o18, rfl⟩), (Or.inl ⟨?o19, rfl⟩), (Or.inl ⟨?o20, rfl⟩), ⟨agf, byf, plf, cF, bF, pv9, (Or.inl ⟨?o21, rfl⟩), (Or.inl ⟨?o22, rfl⟩), ⟨hpv9, (Or.inl ⟨?o23, rfl⟩)⟩, (Or.inl ⟨?o24, rfl⟩), (Or.inl ⟨?o25, rfl⟩), hw_DF_e hDF rfl ?o26, hw_DF_e hDP rfl ?o27, hv_AC_e hAC rfl ?o28 rfl, hv_FX_e hFX rfl ?o29, hv_FX_e hBX rfl ?o30, hv_HL_e hHL rfl rfl ?o31⟩⟩, ⟨(Or.inl ⟨?o32, rfl⟩), (Or.inl ⟨?o33, rfl⟩), (Or.inl ⟨?o34, rfl⟩), (Or.inl ⟨?o35, rfl⟩), (Or.inl ⟨?o36, rfl⟩), (Or.inl ⟨?o37, rfl⟩)⟩⟩⟩⟩⟩, hT, hM, pf_x_11⟩ dX9_file_82
        case o11 => omega
        case o12 => decide
        case o13 => omega
        case o14 => decide
        case o15 => decide
        case o16 => decide
        case o17 => decide
        case o18 => decide
        case o19 => decide
        case o20 => decide
        case o21 => decide
        case o22 => decide
        case o23 => decide
        case o24 => decide
        case o25 => decide
        case o26 => omega
        case o27 => omega
        case o28 => omega
        case o29 => omega
        case o30 => omega
        case o31 => omega
        case o32 => decide
        case o33 => decide
        case o34 => decide
        case o35 => decide
        case o36 => decide
        case o37 => decide
      · skip
        refine lv_aloadN hx hb dX9_file_23 (lv_at hl 1 rfl) ?_
        refine lv_ifnullN (tgt := 81) hx hb dX9_file_25 ?o38 ?_
        case o38 => decide
        refine lv_iconst (v := -1) hx hb dX9_file_81 ?o39 ?_
        case o39 => decide
        refine W.widen (k := 3) (n := 30) (Nat.le_of_ble_eq_true rfl) (Nat.le_of_ble_eq_true rfl) ?_
        refine hx_reti hx hb hr hlk hW ⟨⟨cn0, ff, tf, smf, frf, flf, hrf, udf, odf, wkf, owf, szf, gdf, svf, f_x_11, cl_qc_10, cl_qc_9, cl_qc_6, cl_qc_7, cl_qc_8, cl_qc_11, cl_qc_12, cl_qc_13, cl_qc_14, cl_qc_15, cl_qc_16, cl_qc_17, cl_qc_18, ⟨(hx_num_c nu_qc ?o40), ⟨sb_ql_qc, ⟨⟨(Or.inl ⟨?o41, ?o42, fun hc => by unfold hx_FC at hc; omega⟩), (Or.inl ⟨?o43, rfl⟩), (Or.inl ⟨?o44, rfl⟩), (Or.inl ⟨?o45, rfl⟩), (Or.inl ⟨?o46, rfl⟩), (Or.inl ⟨?o47, rfl⟩), (Or.inl ⟨?o48, rfl⟩), (Or.inl ⟨?o49, rfl⟩), ⟨agf, byf, plf, cF, bF, pv9, (Or.inl ⟨?o50, rfl⟩), (Or.inl ⟨?o51, rfl⟩), ⟨hpv9, (Or.inl ⟨?o52, rfl⟩)⟩, (Or.inl ⟨?o53, rfl⟩), (Or.inl ⟨?o54, rfl⟩), hw_DF_e hDF rfl ?o55, hw_DF_e hDP rfl ?o56, hv_AC_e hAC rfl ?o57 rfl, hv_FX_e hFX rfl ?o58, hv_FX_e hBX rfl ?o59, hv_HL_e hHL rfl rfl ?o60⟩⟩, ⟨(Or.inl ⟨?o61, rfl⟩), (Or.inl ⟨?o62, rfl⟩), (Or.inl ⟨?o63, rfl⟩), (Or.inl ⟨?o64, rfl⟩), (Or.inl ⟨?o65, rfl⟩), (Or.inl ⟨?o66, rfl⟩)⟩⟩⟩⟩⟩, hT, hM, pf_x_11⟩ dX9_file_82
        case o40 => omega
        case o41 => decide
        case o42 => omega
        case o43 => decide
        case o44 => decide
        case o45 => decide
        case o46 => decide
        case o47 => decide
        case o48 => decide
        case o49 => decide
        case o50 => decide
        case o51 => decide
        case o52 => decide
        case o53 => decide
        case o54 => decide
        case o55 => omega
        case o56 => omega
        case o57 => omega
        case o58 => omega
        case o59 => omega
        case o60 => omega
        case o61 => decide
        case o62 => decide
        case o63 => decide
        case o64 => decide
        case o65 => decide
        case o66 => decide
    · have gq_13 := hr_12 _ rfl
      have k_16 : 0 ≤ i2.toInt ∧ i2.toInt < pn0.toInt ∧ h_9.2.2 qp i2.toNatClampNeg = some q_13 := by
        rcases hr_12B with ⟨z, _⟩ | ⟨z1, z2, q, z3, z4⟩
        · cases z
        · cases z3; exact ⟨z1, z2, z4⟩
      have fo_17 := k_16.2.2
      have k_16 : 0 ≤ i2.toInt ∧ i2.toInt < pn0.toInt := ⟨k_16.1, k_16.2.1⟩
      refine lv_astore (lv' := [(8, .ref q_13), (7, .null), (0, .ref x), (1, .int i1), (2, .int i2), (3, .int i3), (4, .int i4), (5, .int i5), (6, .int i6)]) hx hb dX9_file_12 hl ?o67 rfl (fun ls hl => ?_)
      case o67 => decide
      refine lv_aload_n hx hb dX9_file_14 rfl (lv_at hl 2 rfl) ?_
      refine hk_geti hx hb hts hC_9 hown hW gx tt_9 11 ?o68 rfl kw_375 ⟨rfl, rfl, rfl⟩ f_x_11 dX9_file_15 ?_
      case o68 => decide
      refine lv_bipush (v := 100) hx hb dX9_file_18 ?o69 ?_
      case o69 => decide
      refine hb_icmp_ge (zx := cn0.toInt) (zy := 100) (tgt := 81) hx hb rfl ?o70 dX9_file_20 ?o71 (fun c_18 => ?_) (fun c_18 => ?_)
      case o70 => decide
      case o71 => decide
      · skip
        refine lv_iconst (v := -1) hx hb dX9_file_81 ?o72 ?_
        case o72 => decide
        refine W.widen (k := 3) (n := 30) (Nat.le_of_ble_eq_true rfl) (Nat.le_of_ble_eq_true rfl) ?_
        refine hx_reti hx hb hr hlk hW ⟨⟨cn0, ff, tf, smf, frf, flf, hrf, udf, odf, wkf, owf, szf, gdf, svf, f_x_11, cl_qc_10, cl_qc_9, cl_qc_6, cl_qc_7, cl_qc_8, cl_qc_11, cl_qc_12, cl_qc_13, cl_qc_14, cl_qc_15, cl_qc_16, cl_qc_17, cl_qc_18, ⟨(hx_num_c nu_qc ?o73), ⟨sb_ql_qc, ⟨⟨(Or.inl ⟨?o74, ?o75, fun hc => by unfold hx_FC at hc; omega⟩), (Or.inl ⟨?o76, rfl⟩), (Or.inl ⟨?o77, rfl⟩), (Or.inl ⟨?o78, rfl⟩), (Or.inl ⟨?o79, rfl⟩), (Or.inl ⟨?o80, rfl⟩), (Or.inl ⟨?o81, rfl⟩), (Or.inl ⟨?o82, rfl⟩), ⟨agf, byf, plf, cF, bF, pv9, (Or.inl ⟨?o83, rfl⟩), (Or.inl ⟨?o84, rfl⟩), ⟨hpv9, (Or.inl ⟨?o85, rfl⟩)⟩, (Or.inl ⟨?o86, rfl⟩), (Or.inl ⟨?o87, rfl⟩), hw_DF_e hDF rfl ?o88, hw_DF_e hDP rfl ?o89, hv_AC_e hAC rfl ?o90 rfl, hv_FX_e hFX rfl ?o91, hv_FX_e hBX rfl ?o92, hv_HL_e hHL rfl rfl ?o93⟩⟩, ⟨(Or.inl ⟨?o94, rfl⟩), (Or.inl ⟨?o95, rfl⟩), (Or.inl ⟨?o96, rfl⟩), (Or.inl ⟨?o97, rfl⟩), (Or.inl ⟨?o98, rfl⟩), (Or.inl ⟨?o99, rfl⟩)⟩⟩⟩⟩⟩, hT, hM, pf_x_11⟩ dX9_file_82
        case o73 => omega
        case o74 => decide
        case o75 => omega
        case o76 => decide
        case o77 => decide
        case o78 => decide
        case o79 => decide
        case o80 => decide
        case o81 => decide
        case o82 => decide
        case o83 => decide
        case o84 => decide
        case o85 => decide
        case o86 => decide
        case o87 => decide
        case o88 => omega
        case o89 => omega
        case o90 => omega
        case o91 => omega
        case o92 => omega
        case o93 => omega
        case o94 => decide
        case o95 => decide
        case o96 => decide
        case o97 => decide
        case o98 => decide
        case o99 => decide
      · skip
        refine lv_aloadN hx hb dX9_file_23 (lv_at hl 1 rfl) ?_
        refine lv_ifnullN (tgt := 81) hx hb dX9_file_25 ?o100 ?_
        case o100 => decide
        refine lv_iconst (v := -1) hx hb dX9_file_81 ?o101 ?_
        case o101 => decide
        refine W.widen (k := 3) (n := 30) (Nat.le_of_ble_eq_true rfl) (Nat.le_of_ble_eq_true rfl) ?_
        refine hx_reti hx hb hr hlk hW ⟨⟨cn0, ff, tf, smf, frf, flf, hrf, udf, odf, wkf, owf, szf, gdf, svf, f_x_11, cl_qc_10, cl_qc_9, cl_qc_6, cl_qc_7, cl_qc_8, cl_qc_11, cl_qc_12, cl_qc_13, cl_qc_14, cl_qc_15, cl_qc_16, cl_qc_17, cl_qc_18, ⟨(hx_num_c nu_qc ?o102), ⟨sb_ql_qc, ⟨⟨(Or.inl ⟨?o103, ?o104, fun hc => by unfold hx_FC at hc; omega⟩), (Or.inl ⟨?o105, rfl⟩), (Or.inl ⟨?o106, rfl⟩), (Or.inl ⟨?o107, rfl⟩), (Or.inl ⟨?o108, rfl⟩), (Or.inl ⟨?o109, rfl⟩), (Or.inl ⟨?o110, rfl⟩), (Or.inl ⟨?o111, rfl⟩), ⟨agf, byf, plf, cF, bF, pv9, (Or.inl ⟨?o112, rfl⟩), (Or.inl ⟨?o113, rfl⟩), ⟨hpv9, (Or.inl ⟨?o114, rfl⟩)⟩, (Or.inl ⟨?o115, rfl⟩), (Or.inl ⟨?o116, rfl⟩), hw_DF_e hDF rfl ?o117, hw_DF_e hDP rfl ?o118, hv_AC_e hAC rfl ?o119 rfl, hv_FX_e hFX rfl ?o120, hv_FX_e hBX rfl ?o121, hv_HL_e hHL rfl rfl ?o122⟩⟩, ⟨(Or.inl ⟨?o123, rfl⟩), (Or.inl ⟨?o124, rfl⟩), (Or.inl ⟨?o125, rfl⟩), (Or.inl ⟨?o126, rfl⟩), (Or.inl ⟨?o127, rfl⟩), (Or.inl ⟨?o128, rfl⟩)⟩⟩⟩⟩⟩, hT, hM, pf_x_11⟩ dX9_file_82
        case o102 => omega
        case o103 => decide
        case o104 => omega
        case o105 => decide
        case o106 => decide
        case o107 => decide
        case o108 => decide
        case o109 => decide
        case o110 => decide
        case o111 => decide
        case o112 => decide
        case o113 => decide
        case o114 => decide
        case o115 => decide
        case o116 => decide
        case o117 => omega
        case o118 => omega
        case o119 => omega
        case o120 => omega
        case o121 => omega
        case o122 => omega
        case o123 => decide
        case o124 => decide
        case o125 => decide
        case o126 => decide
        case o127 => decide
        case o128 => decide
  · have gq_6 := hr_5 _ rfl
    have k_19 : 0 ≤ i1.toInt ∧ i1.toInt < pn0.toInt ∧ h_2.2.2 qp i1.toNatClampNeg = some q_6 := by
      rcases hr_5B with ⟨z, _⟩ | ⟨z1, z2, q, z3, z4⟩
      · cases z
      · cases z3; exact ⟨z1, z2, z4⟩
    have fo_20 := k_19.2.2
    have k_19 : 0 ≤ i1.toInt ∧ i1.toInt < pn0.toInt := ⟨k_19.1, k_19.2.1⟩
    refine lv_astore (lv' := [(7, .ref q_6), (0, .ref x), (1, .int i1), (2, .int i2), (3, .int i3), (4, .int i4), (5, .int i5), (6, .int i6)]) hx hb dX9_file_5 hl ?o129 rfl (fun ls hl => ?_)
    case o129 => decide
    refine lv_aload_n hx hb dX9_file_7 rfl (lv_at hl 1 rfl) ?_
    refine lv_iload_n hx hb dX9_file_8 rfl (lv_at hl 3 rfl) ?_
    have hTo := hT
    refine hx_goq (hx_runV (As := [.int i2]) (rest := []) ⟨hx, hb, hml, hown, hts⟩ hW gx tt_9 (T := TX9) (N := 20) rfl (t_X9_personAt_2 l dC dI dA L_1 h_2 H.size x i2 hT gx pn0 f_x_8 qp gqp f_x_7 pf_x_8) (cwV 1 hts (hx_gV kw_659 kw_656 kw_658 kw_20 kw_94) rfl rfl rfl (by decide +kernel) ⟨Nat.le_of_ble_eq_true rfl, Nat.le_of_ble_eq_true rfl⟩) rfl hl.1 rfl (Nat.le_of_ble_eq_true rfl) dX9_file_9 ⟨Nat.le_of_ble_eq_true rfl, Nat.le_of_ble_eq_true rfl⟩) hW (fun r_23 L_21 h_22 H locs p_24 hW => ?_)
    obtain ⟨hr_25, hT, hs⟩ := p_24
    replace hT : hx_T T_tb L_21 h_22 := hT
    replace hs : hx_S T_tb [] L_1 h_2 L_21 h_22 := hs
    replace f_x_7 := (hs.o gx trivial rfl).2.trans f_x_7
    replace f_x_10 := (hs.o gx trivial rfl).2.trans f_x_10
    replace f_x_5 := (hs.o gx trivial rfl).2.trans f_x_5
    replace f_x_4 := (hs.o gx trivial rfl).2.trans f_x_4
    replace f_x_19 := (hs.o gx trivial rfl).2.trans f_x_19
    replace f_x_12 := (hs.o gx trivial rfl).2.trans f_x_12
    replace f_x_11 := (hs.o gx trivial rfl).1.trans f_x_11
    replace f_x_8 := (hs.o gx trivial rfl).1.trans f_x_8
    replace f_x_2 := (hs.o gx trivial rfl).1.trans f_x_2
    replace f_x_6 := (hs.o gx trivial rfl).1.trans f_x_6
    replace f_x_13 := (hs.o gx trivial rfl).1.trans f_x_13
    replace pf_x_8 : ∀ j : Nat, (j : Int) < (h_22.2.1 x 8).toInt → h_22.2.2 qp j ≠ none := by
      intro j hj; rw [(hs.o gx trivial rfl).1] at hj; rw [(hs.a gqp rfl j).2]; exact pf_x_8 j hj
    replace pf_x_11 : ∀ j : Nat, (j : Int) < (h_22.2.1 x 11).toInt → h_22.2.2 qc j ≠ none := by
      intro j hj; rw [(hs.o gx trivial rfl).1] at hj; rw [(hs.a gqc rfl j).2]; exact pf_x_11 j hj
    replace pf_x_6 : ∀ j : Nat, (j : Int) < (h_22.2.1 x 6).toInt → h_22.2.2 qa j ≠ none := by
      intro j hj; rw [(hs.o gx trivial rfl).1] at hj; rw [(hs.a gqa rfl j).2]; exact pf_x_6 j hj
    replace cl_qp_7 : hx_col 40 h_22 qp 7 = df := (hx_col_S hs hTo gqp tt_44 tt_4 rfl rfl).trans cl_qp_7
    replace cl_qc_10 : hx_col 100 h_22 qc 10 = ff := (hx_col_S hs hTo gqc tt_45 tt_2 rfl rfl).trans cl_qc_10
    replace cl_qc_9 : hx_col 100 h_22 qc 9 = tf := (hx_col_S hs hTo gqc tt_45 tt_2 rfl rfl).trans cl_qc_9
    replace cl_qc_6 : hx_col 100 h_22 qc 6 = smf := (hx_col_S hs hTo gqc tt_45 tt_2 rfl rfl).trans cl_qc_6
    replace cl_qc_7 : hx_col 100 h_22 qc 7 = frf := (hx_col_S hs hTo gqc tt_45 tt_2 rfl rfl).trans cl_qc_7
    replace cl_qc_8 : hx_col 100 h_22 qc 8 = flf := (hx_col_S hs hTo gqc tt_45 tt_2 rfl rfl).trans cl_qc_8
    replace cl_qc_11 : hx_col 100 h_22 qc 11 = hrf := (hx_col_S hs hTo gqc tt_45 tt_2 rfl rfl).trans cl_qc_11
    replace cl_qc_12 : hx_col 100 h_22 qc 12 = udf := (hx_col_S hs hTo gqc tt_45 tt_2 rfl rfl).trans cl_qc_12
    replace cl_qc_13 : hx_col 100 h_22 qc 13 = odf := (hx_col_S hs hTo gqc tt_45 tt_2 rfl rfl).trans cl_qc_13
    replace cl_qc_14 : hx_col 100 h_22 qc 14 = wkf := (hx_col_S hs hTo gqc tt_45 tt_2 rfl rfl).trans cl_qc_14
    replace cl_qc_15 : hx_col 100 h_22 qc 15 = owf := (hx_col_S hs hTo gqc tt_45 tt_2 rfl rfl).trans cl_qc_15
    replace cl_qc_16 : hx_col 100 h_22 qc 16 = szf := (hx_col_S hs hTo gqc tt_45 tt_2 rfl rfl).trans cl_qc_16
    replace cl_qc_17 : hx_col 100 h_22 qc 17 = gdf := (hx_col_S hs hTo gqc tt_45 tt_2 rfl rfl).trans cl_qc_17
    replace cl_qc_18 : hx_col 100 h_22 qc 18 = svf := (hx_col_S hs hTo gqc tt_45 tt_2 rfl rfl).trans cl_qc_18
    replace nu_qc : hx_num 100 h_22 qc 0 (cn0.toInt) := hx_num_S hs hTo gqc tt_45 tt_2 rfl rfl nu_qc
    replace sb_ql_qc : hx_LQ 8 100 h_22 ql qc := hx_LQ_S hs (gql.S hM) gqc rfl rfl sb_ql_qc
    replace hDF : hw_DF h_22 qc qp 2 agf cn0.toInt := hw_DF_S hs hTo gqc gqp tt_45 tt_2 rfl rfl rfl hDF
    replace hDP : hw_DF h_22 qc qp 1 byf cn0.toInt := hw_DF_S hs hTo gqc gqp tt_45 tt_2 rfl rfl rfl hDP
    replace hRA : hv_RA h_22 qa w a0.toInt A := hv_RA_S hs hTo gqa gw tt_43 tt_0 rfl rfl rfl rfl rfl rfl ?o130 hRA
    case o130 => omega
    replace hAC : hv_AC h_22 qc plf cn0.toInt A := hv_AC_S hs hTo gqc tt_45 tt_2 rfl tt_0 rfl rfl rfl rfl rfl rfl rfl hAC
    replace hFX : hv_FX 8 4 h_22 qc cF cn0.toInt := hv_FX_S hs hTo gqc tt_45 tt_2 rfl rfl rfl rfl hFX
    replace hBX : hv_FX 3 5 h_22 qc bF cn0.toInt := hv_FX_S hs hTo gqc tt_45 tt_2 rfl rfl rfl rfl hBX
    replace hHL : hv_HL h_22 qh qc hof m0.toInt cn0.toInt := hv_HL_S hs gqh gqc rfl rfl hHL
    replace fo_20 := (hs.a gqp rfl _).2.trans fo_20
    replace hM := hM.tr (hs.mono ?o131)
    case o131 => decide
    replace gx := gx.S hs
    replace gqp := gqp.S hs
    replace gqc := gqc.S hs
    replace gqa := gqa.S hs
    replace gw := gw.S hs
    replace gqh := gqh.S hs
    replace gq_6 := gq_6.S hs
    obtain ⟨hr_25, hr_25B⟩ := hr_25
    have hr_25 : ∀ q, r_23 = some q → hx_g L_21 h_22 q 4 := hr_25
    rcases r_23 with _ | q_26
    · skip
      have k_27 : i2.toInt < 0 ∨ pn0.toInt ≤ i2.toInt := by
        rcases hr_25B with ⟨_, z⟩ | ⟨_, _, q, z, _⟩
        · exact z
        · cases z
      refine lv_astoreN (lv' := [(8, .null), (7, .ref q_6), (0, .ref x), (1, .int i1), (2, .int i2), (3, .int i3), (4, .int i4), (5, .int i5), (6, .int i6)]) hx hb dX9_file_12 hl ?o132 rfl (fun ls hl => ?_)
      case o132 => decide
      refine lv_aload_n hx hb dX9_file_14 rfl (lv_at hl 2 rfl) ?_
      refine hk_geti hx hb hts hC_9 hown hW gx tt_9 11 ?o133 rfl kw_375 ⟨rfl, rfl, rfl⟩ f_x_11 dX9_file_15 ?_
      case o133 => decide
      refine lv_bipush (v := 100) hx hb dX9_file_18 ?o134 ?_
      case o134 => decide
      refine hb_icmp_ge (zx := cn0.toInt) (zy := 100) (tgt := 81) hx hb rfl ?o135 dX9_file_20 ?o136 (fun c_28 => ?_) (fun c_28 => ?_)
      case o135 => decide
      case o136 => decide
      · skip
        refine lv_iconst (v := -1) hx hb dX9_file_81 ?o137 ?_
        case o137 => decide
        refine W.widen (k := 3) (n := 30) (Nat.le_of_ble_eq_true rfl) (Nat.le_of_ble_eq_true rfl) ?_
        refine hx_reti hx hb hr hlk hW ⟨⟨cn0, ff, tf, smf, frf, flf, hrf, udf, odf, wkf, owf, szf, gdf, svf, f_x_11, cl_qc_10, cl_qc_9, cl_qc_6, cl_qc_7, cl_qc_8, cl_qc_11, cl_qc_12, cl_qc_13, cl_qc_14, cl_qc_15, cl_qc_16, cl_qc_17, cl_qc_18, ⟨(hx_num_c nu_qc ?o138), ⟨sb_ql_qc, ⟨⟨(Or.inl ⟨?o139, ?o140, fun hc => by unfold hx_FC at hc; omega⟩), (Or.inl ⟨?o141, rfl⟩), (Or.inl ⟨?o142, rfl⟩), (Or.inl ⟨?o143, rfl⟩), (Or.inl ⟨?o144, rfl⟩), (Or.inl ⟨?o145, rfl⟩), (Or.inl ⟨?o146, rfl⟩), (Or.inl ⟨?o147, rfl⟩), ⟨agf, byf, plf, cF, bF, pv9, (Or.inl ⟨?o148, rfl⟩), (Or.inl ⟨?o149, rfl⟩), ⟨hpv9, (Or.inl ⟨?o150, rfl⟩)⟩, (Or.inl ⟨?o151, rfl⟩), (Or.inl ⟨?o152, rfl⟩), hw_DF_e hDF rfl ?o153, hw_DF_e hDP rfl ?o154, hv_AC_e hAC rfl ?o155 rfl, hv_FX_e hFX rfl ?o156, hv_FX_e hBX rfl ?o157, hv_HL_e hHL rfl rfl ?o158⟩⟩, ⟨(Or.inl ⟨?o159, rfl⟩), (Or.inl ⟨?o160, rfl⟩), (Or.inl ⟨?o161, rfl⟩), (Or.inl ⟨?o162, rfl⟩), (Or.inl ⟨?o163, rfl⟩), (Or.inl ⟨?o164, rfl⟩)⟩⟩⟩⟩⟩, hT, hM, pf_x_11⟩ dX9_file_82
        case o138 => omega
        case o139 => decide
        case o140 => omega
        case o141 => decide
        case o142 => decide
        case o143 => decide
        case o144 => decide
        case o145 => decide
        case o146 => decide
        case o147 => decide
        case o148 => decide
        case o149 => decide
        case o150 => decide
        case o151 => decide
        case o152 => decide
        case o153 => omega
        case o154 => omega
        case o155 => omega
        case o156 => omega
        case o157 => omega
        case o158 => omega
        case o159 => decide
        case o160 => decide
        case o161 => decide
        case o162 => decide
        case o163 => decide
        case o164 => decide
      · skip
        refine lv_aload hx hb dX9_file_23 (lv_at hl 1 rfl) ?_
        refine lv_ifnull hx hb dX9_file_25 ?_
        refine lv_aloadN hx hb dX9_file_28 (lv_at hl 0 rfl) ?_
        refine lv_ifnullN (tgt := 81) hx hb dX9_file_30 ?o165 ?_
        case o165 => decide
        refine lv_iconst (v := -1) hx hb dX9_file_81 ?o166 ?_
        case o166 => decide
        refine W.widen (k := 3) (n := 30) (Nat.le_of_ble_eq_true rfl) (Nat.le_of_ble_eq_true rfl) ?_
        refine hx_reti hx hb hr hlk hW ⟨⟨cn0, ff, tf, smf, frf, flf, hrf, udf, odf, wkf, owf, szf, gdf, svf, f_x_11, cl_qc_10, cl_qc_9, cl_qc_6, cl_qc_7, cl_qc_8, cl_qc_11, cl_qc_12, cl_qc_13, cl_qc_14, cl_qc_15, cl_qc_16, cl_qc_17, cl_qc_18, ⟨(hx_num_c nu_qc ?o167), ⟨sb_ql_qc, ⟨⟨(Or.inl ⟨?o168, ?o169, fun hc => by unfold hx_FC at hc; omega⟩), (Or.inl ⟨?o170, rfl⟩), (Or.inl ⟨?o171, rfl⟩), (Or.inl ⟨?o172, rfl⟩), (Or.inl ⟨?o173, rfl⟩), (Or.inl ⟨?o174, rfl⟩), (Or.inl ⟨?o175, rfl⟩), (Or.inl ⟨?o176, rfl⟩), ⟨agf, byf, plf, cF, bF, pv9, (Or.inl ⟨?o177, rfl⟩), (Or.inl ⟨?o178, rfl⟩), ⟨hpv9, (Or.inl ⟨?o179, rfl⟩)⟩, (Or.inl ⟨?o180, rfl⟩), (Or.inl ⟨?o181, rfl⟩), hw_DF_e hDF rfl ?o182, hw_DF_e hDP rfl ?o183, hv_AC_e hAC rfl ?o184 rfl, hv_FX_e hFX rfl ?o185, hv_FX_e hBX rfl ?o186, hv_HL_e hHL rfl rfl ?o187⟩⟩, ⟨(Or.inl ⟨?o188, rfl⟩), (Or.inl ⟨?o189, rfl⟩), (Or.inl ⟨?o190, rfl⟩), (Or.inl ⟨?o191, rfl⟩), (Or.inl ⟨?o192, rfl⟩), (Or.inl ⟨?o193, rfl⟩)⟩⟩⟩⟩⟩, hT, hM, pf_x_11⟩ dX9_file_82
        case o167 => omega
        case o168 => decide
        case o169 => omega
        case o170 => decide
        case o171 => decide
        case o172 => decide
        case o173 => decide
        case o174 => decide
        case o175 => decide
        case o176 => decide
        case o177 => decide
        case o178 => decide
        case o179 => decide
        case o180 => decide
        case o181 => decide
        case o182 => omega
        case o183 => omega
        case o184 => omega
        case o185 => omega
        case o186 => omega
        case o187 => omega
        case o188 => decide
        case o189 => decide
        case o190 => decide
        case o191 => decide
        case o192 => decide
        case o193 => decide
    · have gq_26 := hr_25 _ rfl
      have k_29 : 0 ≤ i2.toInt ∧ i2.toInt < pn0.toInt ∧ h_22.2.2 qp i2.toNatClampNeg = some q_26 := by
        rcases hr_25B with ⟨z, _⟩ | ⟨z1, z2, q, z3, z4⟩
        · cases z
        · cases z3; exact ⟨z1, z2, z4⟩
      have fo_30 := k_29.2.2
      have k_29 : 0 ≤ i2.toInt ∧ i2.toInt < pn0.toInt := ⟨k_29.1, k_29.2.1⟩
      refine lv_astore (lv' := [(8, .ref q_26), (7, .ref q_6), (0, .ref x), (1, .int i1), (2, .int i2), (3, .int i3), (4, .int i4), (5, .int i5), (6, .int i6)]) hx hb dX9_file_12 hl ?o194 rfl (fun ls hl => ?_)
      case o194 => decide
      refine lv_aload_n hx hb dX9_file_14 rfl (lv_at hl 2 rfl) ?_
      refine hk_geti hx hb hts hC_9 hown hW gx tt_9 11 ?o195 rfl kw_375 ⟨rfl, rfl, rfl⟩ f_x_11 dX9_file_15 ?_
      case o195 => decide
      refine lv_bipush (v := 100) hx hb dX9_file_18 ?o196 ?_
      case o196 => decide
      refine hb_icmp_ge (zx := cn0.toInt) (zy := 100) (tgt := 81) hx hb rfl ?o197 dX9_file_20 ?o198 (fun c_31 => ?_) (fun c_31 => ?_)
      case o197 => decide
      case o198 => decide
      · skip
        refine lv_iconst (v := -1) hx hb dX9_file_81 ?o199 ?_
        case o199 => decide
        refine W.widen (k := 3) (n := 30) (Nat.le_of_ble_eq_true rfl) (Nat.le_of_ble_eq_true rfl) ?_
        refine hx_reti hx hb hr hlk hW ⟨⟨cn0, ff, tf, smf, frf, flf, hrf, udf, odf, wkf, owf, szf, gdf, svf, f_x_11, cl_qc_10, cl_qc_9, cl_qc_6, cl_qc_7, cl_qc_8, cl_qc_11, cl_qc_12, cl_qc_13, cl_qc_14, cl_qc_15, cl_qc_16, cl_qc_17, cl_qc_18, ⟨(hx_num_c nu_qc ?o200), ⟨sb_ql_qc, ⟨⟨(Or.inl ⟨?o201, ?o202, fun hc => by unfold hx_FC at hc; omega⟩), (Or.inl ⟨?o203, rfl⟩), (Or.inl ⟨?o204, rfl⟩), (Or.inl ⟨?o205, rfl⟩), (Or.inl ⟨?o206, rfl⟩), (Or.inl ⟨?o207, rfl⟩), (Or.inl ⟨?o208, rfl⟩), (Or.inl ⟨?o209, rfl⟩), ⟨agf, byf, plf, cF, bF, pv9, (Or.inl ⟨?o210, rfl⟩), (Or.inl ⟨?o211, rfl⟩), ⟨hpv9, (Or.inl ⟨?o212, rfl⟩)⟩, (Or.inl ⟨?o213, rfl⟩), (Or.inl ⟨?o214, rfl⟩), hw_DF_e hDF rfl ?o215, hw_DF_e hDP rfl ?o216, hv_AC_e hAC rfl ?o217 rfl, hv_FX_e hFX rfl ?o218, hv_FX_e hBX rfl ?o219, hv_HL_e hHL rfl rfl ?o220⟩⟩, ⟨(Or.inl ⟨?o221, rfl⟩), (Or.inl ⟨?o222, rfl⟩), (Or.inl ⟨?o223, rfl⟩), (Or.inl ⟨?o224, rfl⟩), (Or.inl ⟨?o225, rfl⟩), (Or.inl ⟨?o226, rfl⟩)⟩⟩⟩⟩⟩, hT, hM, pf_x_11⟩ dX9_file_82
        case o200 => omega
        case o201 => decide
        case o202 => omega
        case o203 => decide
        case o204 => decide
        case o205 => decide
        case o206 => decide
        case o207 => decide
        case o208 => decide
        case o209 => decide
        case o210 => decide
        case o211 => decide
        case o212 => decide
        case o213 => decide
        case o214 => decide
        case o215 => omega
        case o216 => omega
        case o217 => omega
        case o218 => omega
        case o219 => omega
        case o220 => omega
        case o221 => decide
        case o222 => decide
        case o223 => decide
        case o224 => decide
        case o225 => decide
        case o226 => decide
      · skip
        refine lv_aload hx hb dX9_file_23 (lv_at hl 1 rfl) ?_
        refine lv_ifnull hx hb dX9_file_25 ?_
        refine lv_aload hx hb dX9_file_28 (lv_at hl 0 rfl) ?_
        refine lv_ifnull hx hb dX9_file_30 ?_
        refine lv_iload_n hx hb dX9_file_33 rfl (lv_at hl 3 rfl) ?_
        refine lv_iload_n hx hb dX9_file_34 rfl (lv_at hl 4 rfl) ?_
        refine hb_icmp_eq (zx := i1.toInt) (zy := i2.toInt) (tgt := 81) hx hb rfl rfl dX9_file_35 ?o227 (fun c_32 => ?_) (fun c_32 => ?_)
        case o227 => decide
        · skip
          refine lv_iconst (v := -1) hx hb dX9_file_81 ?o228 ?_
          case o228 => decide
          refine W.widen (k := 3) (n := 30) (Nat.le_of_ble_eq_true rfl) (Nat.le_of_ble_eq_true rfl) ?_
          refine hx_reti hx hb hr hlk hW ⟨⟨cn0, ff, tf, smf, frf, flf, hrf, udf, odf, wkf, owf, szf, gdf, svf, f_x_11, cl_qc_10, cl_qc_9, cl_qc_6, cl_qc_7, cl_qc_8, cl_qc_11, cl_qc_12, cl_qc_13, cl_qc_14, cl_qc_15, cl_qc_16, cl_qc_17, cl_qc_18, ⟨(hx_num_c nu_qc ?o229), ⟨sb_ql_qc, ⟨⟨(Or.inl ⟨?o230, ?o231, fun hc => by unfold hx_FC at hc; omega⟩), (Or.inl ⟨?o232, rfl⟩), (Or.inl ⟨?o233, rfl⟩), (Or.inl ⟨?o234, rfl⟩), (Or.inl ⟨?o235, rfl⟩), (Or.inl ⟨?o236, rfl⟩), (Or.inl ⟨?o237, rfl⟩), (Or.inl ⟨?o238, rfl⟩), ⟨agf, byf, plf, cF, bF, pv9, (Or.inl ⟨?o239, rfl⟩), (Or.inl ⟨?o240, rfl⟩), ⟨hpv9, (Or.inl ⟨?o241, rfl⟩)⟩, (Or.inl ⟨?o242, rfl⟩), (Or.inl ⟨?o243, rfl⟩), hw_DF_e hDF rfl ?o244, hw_DF_e hDP rfl ?o245, hv_AC_e hAC rfl ?o246 rfl, hv_FX_e hFX rfl ?o247, hv_FX_e hBX rfl ?o248, hv_HL_e hHL rfl rfl ?o249⟩⟩, ⟨(Or.inl ⟨?o250, rfl⟩), (Or.inl ⟨?o251, rfl⟩), (Or.inl ⟨?o252, rfl⟩), (Or.inl ⟨?o253, rfl⟩), (Or.inl ⟨?o254, rfl⟩), (Or.inl ⟨?o255, rfl⟩)⟩⟩⟩⟩⟩, hT, hM, pf_x_11⟩ dX9_file_82
          case o229 => omega
          case o230 => decide
          case o231 => omega
          case o232 => decide
          case o233 => decide
          case o234 => decide
          case o235 => decide
          case o236 => decide
          case o237 => decide
          case o238 => decide
          case o239 => decide
          case o240 => decide
          case o241 => decide
          case o242 => decide
          case o243 => decide
          case o244 => omega
          case o245 => omega
          case o246 => omega
          case o247 => omega
          case o248 => omega
          case o249 => omega
          case o250 => decide
          case o251 => decide
          case o252 => decide
          case o253 => decide
          case o254 => decide
          case o255 => decide
        · skip
          refine lv_aload hx hb dX9_file_38 (lv_at hl 0 rfl) ?_
          refine hx_geti hx hb hts hC_4 hown hW hT gq_26 tt_4 7 ?o256 rfl kw_623 ⟨rfl, rfl, rfl⟩ dX9_file_40 (fun x_33 ex_33 lx_33 ux_33 => ?_)
          case o256 => decide
          have fx_33 := ex_33.symm
          have cx_33 : x_33 = df i2.toNatClampNeg := ?o257
          case o257 =>
            rw [ex_33, ← cl_qp_7]
            exact (hx_col_at fo_30 (by unfold Int32.toNatClampNeg; omega)).symm
          refine hb_if_ne (zx := x_33.toInt) (tgt := 81) hx hb rfl dX9_file_43 ?o258 (fun c_34 => ?_) (fun c_34 => ?_)
          case o258 => decide
          · skip
            refine lv_iconst (v := -1) hx hb dX9_file_81 ?o259 ?_
            case o259 => decide
            refine W.widen (k := 3) (n := 30) (Nat.le_of_ble_eq_true rfl) (Nat.le_of_ble_eq_true rfl) ?_
            refine hx_reti hx hb hr hlk hW ⟨⟨cn0, ff, tf, smf, frf, flf, hrf, udf, odf, wkf, owf, szf, gdf, svf, f_x_11, cl_qc_10, cl_qc_9, cl_qc_6, cl_qc_7, cl_qc_8, cl_qc_11, cl_qc_12, cl_qc_13, cl_qc_14, cl_qc_15, cl_qc_16, cl_qc_17, cl_qc_18, ⟨(hx_num_c nu_qc ?o260), ⟨sb_ql_qc, ⟨⟨(Or.inl ⟨?o261, ?o262, fun hc => by unfold hx_FC at hc; have h1 : (df i2.toNatClampNeg).toInt = 0 := hc.2.2.2.2.1; rw [← cx_33] at h1; omega⟩), (Or.inl ⟨?o263, rfl⟩), (Or.inl ⟨?o264, rfl⟩), (Or.inl ⟨?o265, rfl⟩), (Or.inl ⟨?o266, rfl⟩), (Or.inl ⟨?o267, rfl⟩), (Or.inl ⟨?o268, rfl⟩), (Or.inl ⟨?o269, rfl⟩), ⟨agf, byf, plf, cF, bF, pv9, (Or.inl ⟨?o270, rfl⟩), (Or.inl ⟨?o271, rfl⟩), ⟨hpv9, (Or.inl ⟨?o272, rfl⟩)⟩, (Or.inl ⟨?o273, rfl⟩), (Or.inl ⟨?o274, rfl⟩), hw_DF_e hDF rfl ?o275, hw_DF_e hDP rfl ?o276, hv_AC_e hAC rfl ?o277 rfl, hv_FX_e hFX rfl ?o278, hv_FX_e hBX rfl ?o279, hv_HL_e hHL rfl rfl ?o280⟩⟩, ⟨(Or.inl ⟨?o281, rfl⟩), (Or.inl ⟨?o282, rfl⟩), (Or.inl ⟨?o283, rfl⟩), (Or.inl ⟨?o284, rfl⟩), (Or.inl ⟨?o285, rfl⟩), (Or.inl ⟨?o286, rfl⟩)⟩⟩⟩⟩⟩, hT, hM, pf_x_11⟩ dX9_file_82
            case o260 => omega
            case o261 => decide
            case o262 => omega
            case o263 => decide
            case o264 => decide
            case o265 => decide
            case o266 => decide
            case o267 => decide
            case o268 => decide
            case o269 => decide
            case o270 => decide
            case o271 => decide
            case o272 => decide
            case o273 => decide
            case o274 => decide
            case o275 => omega
            case o276 => omega
            case o277 => omega
            case o278 => omega
            case o279 => omega
            case o280 => omega
            case o281 => decide
            case o282 => decide
            case o283 => decide
            case o284 => decide
            case o285 => decide
            case o286 => decide
          · skip
            refine lv_iload_n hx hb dX9_file_46 rfl (lv_at hl 5 rfl) ?_
            refine lv_iconst (v := 1) hx hb dX9_file_47 ?o287 ?_
            case o287 => decide
            refine lv_sipush (v := 9999) hx hb dX9_file_48 ?o288 ?_
            case o288 => decide
            have hTo := hT
            have zc_9999 : (9999 : Int32).toInt = 9999 := ?o289
            case o289 => decide
            have zc_1 : (1 : Int32).toInt = 1 := ?o290
            case o290 => decide
            refine hx_goi (hx_runS (As := [.int i3, .int (1 : Int32), .int (9999 : Int32)]) (rest := []) ⟨hx, hb, hml, hown, hts⟩ hW (t_X9_isWithin_2 l dC dI dA L_21 h_22 H.size i3 (1 : Int32) (9999 : Int32) hT) (va_cwS 3 hts (hx_gS kw_434 kw_432 kw_433 kw_94) rfl rfl rfl (by decide +kernel) ⟨Nat.le_of_ble_eq_true rfl, Nat.le_of_ble_eq_true rfl⟩) rfl hl.1 rfl (Nat.le_of_ble_eq_true rfl) dX9_file_51 ⟨Nat.le_of_ble_eq_true rfl, Nat.le_of_ble_eq_true rfl⟩) hW (fun r_37 L_35 h_36 H locs p_38 hW => ?_)
            obtain ⟨hr_39, hT, hs⟩ := p_38
            replace hT : hx_T T_tb L_35 h_36 := hT
            replace hs : hx_S T_tb [] L_21 h_22 L_35 h_36 := hs
            replace f_x_7 := (hs.o gx trivial rfl).2.trans f_x_7
            replace f_x_10 := (hs.o gx trivial rfl).2.trans f_x_10
            replace f_x_5 := (hs.o gx trivial rfl).2.trans f_x_5
            replace f_x_4 := (hs.o gx trivial rfl).2.trans f_x_4
            replace f_x_19 := (hs.o gx trivial rfl).2.trans f_x_19
            replace f_x_12 := (hs.o gx trivial rfl).2.trans f_x_12
            replace f_x_11 := (hs.o gx trivial rfl).1.trans f_x_11
            replace f_x_8 := (hs.o gx trivial rfl).1.trans f_x_8
            replace f_x_2 := (hs.o gx trivial rfl).1.trans f_x_2
            replace f_x_6 := (hs.o gx trivial rfl).1.trans f_x_6
            replace f_x_13 := (hs.o gx trivial rfl).1.trans f_x_13
            replace fx_33 := (hs.o gq_26 trivial rfl).1.trans fx_33
            replace pf_x_8 : ∀ j : Nat, (j : Int) < (h_36.2.1 x 8).toInt → h_36.2.2 qp j ≠ none := by
              intro j hj; rw [(hs.o gx trivial rfl).1] at hj; rw [(hs.a gqp rfl j).2]; exact pf_x_8 j hj
            replace pf_x_11 : ∀ j : Nat, (j : Int) < (h_36.2.1 x 11).toInt → h_36.2.2 qc j ≠ none := by
              intro j hj; rw [(hs.o gx trivial rfl).1] at hj; rw [(hs.a gqc rfl j).2]; exact pf_x_11 j hj
            replace pf_x_6 : ∀ j : Nat, (j : Int) < (h_36.2.1 x 6).toInt → h_36.2.2 qa j ≠ none := by
              intro j hj; rw [(hs.o gx trivial rfl).1] at hj; rw [(hs.a gqa rfl j).2]; exact pf_x_6 j hj
            replace cl_qp_7 : hx_col 40 h_36 qp 7 = df := (hx_col_S hs hTo gqp tt_44 tt_4 rfl rfl).trans cl_qp_7
            replace cl_qc_10 : hx_col 100 h_36 qc 10 = ff := (hx_col_S hs hTo gqc tt_45 tt_2 rfl rfl).trans cl_qc_10
            replace cl_qc_9 : hx_col 100 h_36 qc 9 = tf := (hx_col_S hs hTo gqc tt_45 tt_2 rfl rfl).trans cl_qc_9
            replace cl_qc_6 : hx_col 100 h_36 qc 6 = smf := (hx_col_S hs hTo gqc tt_45 tt_2 rfl rfl).trans cl_qc_6
            replace cl_qc_7 : hx_col 100 h_36 qc 7 = frf := (hx_col_S hs hTo gqc tt_45 tt_2 rfl rfl).trans cl_qc_7
            replace cl_qc_8 : hx_col 100 h_36 qc 8 = flf := (hx_col_S hs hTo gqc tt_45 tt_2 rfl rfl).trans cl_qc_8
            replace cl_qc_11 : hx_col 100 h_36 qc 11 = hrf := (hx_col_S hs hTo gqc tt_45 tt_2 rfl rfl).trans cl_qc_11
            replace cl_qc_12 : hx_col 100 h_36 qc 12 = udf := (hx_col_S hs hTo gqc tt_45 tt_2 rfl rfl).trans cl_qc_12
            replace cl_qc_13 : hx_col 100 h_36 qc 13 = odf := (hx_col_S hs hTo gqc tt_45 tt_2 rfl rfl).trans cl_qc_13
            replace cl_qc_14 : hx_col 100 h_36 qc 14 = wkf := (hx_col_S hs hTo gqc tt_45 tt_2 rfl rfl).trans cl_qc_14
            replace cl_qc_15 : hx_col 100 h_36 qc 15 = owf := (hx_col_S hs hTo gqc tt_45 tt_2 rfl rfl).trans cl_qc_15
            replace cl_qc_16 : hx_col 100 h_36 qc 16 = szf := (hx_col_S hs hTo gqc tt_45 tt_2 rfl rfl).trans cl_qc_16
            replace cl_qc_17 : hx_col 100 h_36 qc 17 = gdf := (hx_col_S hs hTo gqc tt_45 tt_2 rfl rfl).trans cl_qc_17
            replace cl_qc_18 : hx_col 100 h_36 qc 18 = svf := (hx_col_S hs hTo gqc tt_45 tt_2 rfl rfl).trans cl_qc_18
            replace nu_qc : hx_num 100 h_36 qc 0 (cn0.toInt) := hx_num_S hs hTo gqc tt_45 tt_2 rfl rfl nu_qc
            replace sb_ql_qc : hx_LQ 8 100 h_36 ql qc := hx_LQ_S hs (gql.S hM) gqc rfl rfl sb_ql_qc
            replace hDF : hw_DF h_36 qc qp 2 agf cn0.toInt := hw_DF_S hs hTo gqc gqp tt_45 tt_2 rfl rfl rfl hDF
            replace hDP : hw_DF h_36 qc qp 1 byf cn0.toInt := hw_DF_S hs hTo gqc gqp tt_45 tt_2 rfl rfl rfl hDP
            replace hRA : hv_RA h_36 qa w a0.toInt A := hv_RA_S hs hTo gqa gw tt_43 tt_0 rfl rfl rfl rfl rfl rfl ?o291 hRA
            case o291 => omega
            replace hAC : hv_AC h_36 qc plf cn0.toInt A := hv_AC_S hs hTo gqc tt_45 tt_2 rfl tt_0 rfl rfl rfl rfl rfl rfl rfl hAC
            replace hFX : hv_FX 8 4 h_36 qc cF cn0.toInt := hv_FX_S hs hTo gqc tt_45 tt_2 rfl rfl rfl rfl hFX
            replace hBX : hv_FX 3 5 h_36 qc bF cn0.toInt := hv_FX_S hs hTo gqc tt_45 tt_2 rfl rfl rfl rfl hBX
            replace hHL : hv_HL h_36 qh qc hof m0.toInt cn0.toInt := hv_HL_S hs gqh gqc rfl rfl hHL
            replace fo_20 := (hs.a gqp rfl _).2.trans fo_20
            replace fo_30 := (hs.a gqp rfl _).2.trans fo_30
            replace hM := hM.tr (hs.mono ?o292)
            case o292 => decide
            replace gx := gx.S hs
            replace gqp := gqp.S hs
            replace gqc := gqc.S hs
            replace gqa := gqa.S hs
            replace gw := gw.S hs
            replace gqh := gqh.S hs
            replace gq_6 := gq_6.S hs
            replace gq_26 := gq_26.S hs
            refine hb_if_eq (zx := r_37.toInt) (tgt := 81) hx hb rfl dX9_file_54 ?o293 (fun c_40 => ?_) (fun c_40 => ?_)
            case o293 => decide
            · skip
              replace hr_39 := hr_39.resolve_right (fun z9 => absurd (c_40.symm.trans z9.1) ?o294)
              case o294 => decide
              replace hr_39 := hr_39.2
              refine lv_iconst (v := -1) hx hb dX9_file_81 ?o295 ?_
              case o295 => decide
              refine W.widen (k := 3) (n := 30) (Nat.le_of_ble_eq_true rfl) (Nat.le_of_ble_eq_true rfl) ?_
              refine hx_reti hx hb hr hlk hW ⟨⟨cn0, ff, tf, smf, frf, flf, hrf, udf, odf, wkf, owf, szf, gdf, svf, f_x_11, cl_qc_10, cl_qc_9, cl_qc_6, cl_qc_7, cl_qc_8, cl_qc_11, cl_qc_12, cl_qc_13, cl_qc_14, cl_qc_15, cl_qc_16, cl_qc_17, cl_qc_18, ⟨(hx_num_c nu_qc ?o296), ⟨sb_ql_qc, ⟨⟨(Or.inl ⟨?o297, ?o298, fun hc => by unfold hx_FC at hc; have h1 : (df i2.toNatClampNeg).toInt = 0 := hc.2.2.2.2.1; rw [← cx_33] at h1; omega⟩), (Or.inl ⟨?o299, rfl⟩), (Or.inl ⟨?o300, rfl⟩), (Or.inl ⟨?o301, rfl⟩), (Or.inl ⟨?o302, rfl⟩), (Or.inl ⟨?o303, rfl⟩), (Or.inl ⟨?o304, rfl⟩), (Or.inl ⟨?o305, rfl⟩), ⟨agf, byf, plf, cF, bF, pv9, (Or.inl ⟨?o306, rfl⟩), (Or.inl ⟨?o307, rfl⟩), ⟨hpv9, (Or.inl ⟨?o308, rfl⟩)⟩, (Or.inl ⟨?o309, rfl⟩), (Or.inl ⟨?o310, rfl⟩), hw_DF_e hDF rfl ?o311, hw_DF_e hDP rfl ?o312, hv_AC_e hAC rfl ?o313 rfl, hv_FX_e hFX rfl ?o314, hv_FX_e hBX rfl ?o315, hv_HL_e hHL rfl rfl ?o316⟩⟩, ⟨(Or.inl ⟨?o317, rfl⟩), (Or.inl ⟨?o318, rfl⟩), (Or.inl ⟨?o319, rfl⟩), (Or.inl ⟨?o320, rfl⟩), (Or.inl ⟨?o321, rfl⟩), (Or.inl ⟨?o322, rfl⟩)⟩⟩⟩⟩⟩, hT, hM, pf_x_11⟩ dX9_file_82
              case o296 => omega
              case o297 => decide
              case o298 => omega
              case o299 => decide
              case o300 => decide
              case o301 => decide
              case o302 => decide
              case o303 => decide
              case o304 => decide
              case o305 => decide
              case o306 => decide
              case o307 => decide
              case o308 => decide
              case o309 => decide
              case o310 => decide
              case o311 => omega
              case o312 => omega
              case o313 => omega
              case o314 => omega
              case o315 => omega
              case o316 => omega
              case o317 => decide
              case o318 => decide
              case o319 => decide
              case o320 => decide
              case o321 => decide
              case o322 => decide
            · skip
              replace hr_39 := hr_39.resolve_left (fun z9 => c_40 z9.1)
              replace c_40 := hr_39.1
              replace hr_39 := hr_39.2
              refine lv_iload hx hb dX9_file_57 (lv_at hl 6 rfl) ?_
              refine lv_iconst (v := 0) hx hb dX9_file_59 ?o323 ?_
              case o323 => decide
              refine lv_aload_n hx hb dX9_file_60 rfl (lv_at hl 2 rfl) ?_
              refine hk_geti hx hb hts hC_9 hown hW gx tt_9 2 ?o324 rfl kw_366 ⟨rfl, rfl, rfl⟩ f_x_2 dX9_file_61 ?_
              case o324 => decide
              have hTo := hT
              have zc_0 : (0 : Int32).toInt = 0 := ?o325
              case o325 => decide
              refine hx_goi (hx_runS (As := [.int i4, .int (0 : Int32), .int nw0]) (rest := []) ⟨hx, hb, hml, hown, hts⟩ hW (t_X9_isWithin_2 l dC dI dA L_35 h_36 H.size i4 (0 : Int32) nw0 hT) (va_cwS 3 hts (hx_gS kw_434 kw_432 kw_433 kw_94) rfl rfl rfl (by decide +kernel) ⟨Nat.le_of_ble_eq_true rfl, Nat.le_of_ble_eq_true rfl⟩) rfl hl.1 rfl (Nat.le_of_ble_eq_true rfl) dX9_file_64 ⟨Nat.le_of_ble_eq_true rfl, Nat.le_of_ble_eq_true rfl⟩) hW (fun r_43 L_41 h_42 H locs p_44 hW => ?_)
              obtain ⟨hr_45, hT, hs⟩ := p_44
              replace hT : hx_T T_tb L_41 h_42 := hT
              replace hs : hx_S T_tb [] L_35 h_36 L_41 h_42 := hs
              replace f_x_7 := (hs.o gx trivial rfl).2.trans f_x_7
              replace f_x_10 := (hs.o gx trivial rfl).2.trans f_x_10
              replace f_x_5 := (hs.o gx trivial rfl).2.trans f_x_5
              replace f_x_4 := (hs.o gx trivial rfl).2.trans f_x_4
              replace f_x_19 := (hs.o gx trivial rfl).2.trans f_x_19
              replace f_x_12 := (hs.o gx trivial rfl).2.trans f_x_12
              replace f_x_11 := (hs.o gx trivial rfl).1.trans f_x_11
              replace f_x_8 := (hs.o gx trivial rfl).1.trans f_x_8
              replace f_x_2 := (hs.o gx trivial rfl).1.trans f_x_2
              replace f_x_6 := (hs.o gx trivial rfl).1.trans f_x_6
              replace f_x_13 := (hs.o gx trivial rfl).1.trans f_x_13
              replace fx_33 := (hs.o gq_26 trivial rfl).1.trans fx_33
              replace pf_x_8 : ∀ j : Nat, (j : Int) < (h_42.2.1 x 8).toInt → h_42.2.2 qp j ≠ none := by
                intro j hj; rw [(hs.o gx trivial rfl).1] at hj; rw [(hs.a gqp rfl j).2]; exact pf_x_8 j hj
              replace pf_x_11 : ∀ j : Nat, (j : Int) < (h_42.2.1 x 11).toInt → h_42.2.2 qc j ≠ none := by
                intro j hj; rw [(hs.o gx trivial rfl).1] at hj; rw [(hs.a gqc rfl j).2]; exact pf_x_11 j hj
              replace pf_x_6 : ∀ j : Nat, (j : Int) < (h_42.2.1 x 6).toInt → h_42.2.2 qa j ≠ none := by
                intro j hj; rw [(hs.o gx trivial rfl).1] at hj; rw [(hs.a gqa rfl j).2]; exact pf_x_6 j hj
              replace cl_qp_7 : hx_col 40 h_42 qp 7 = df := (hx_col_S hs hTo gqp tt_44 tt_4 rfl rfl).trans cl_qp_7
              replace cl_qc_10 : hx_col 100 h_42 qc 10 = ff := (hx_col_S hs hTo gqc tt_45 tt_2 rfl rfl).trans cl_qc_10
              replace cl_qc_9 : hx_col 100 h_42 qc 9 = tf := (hx_col_S hs hTo gqc tt_45 tt_2 rfl rfl).trans cl_qc_9
              replace cl_qc_6 : hx_col 100 h_42 qc 6 = smf := (hx_col_S hs hTo gqc tt_45 tt_2 rfl rfl).trans cl_qc_6
              replace cl_qc_7 : hx_col 100 h_42 qc 7 = frf := (hx_col_S hs hTo gqc tt_45 tt_2 rfl rfl).trans cl_qc_7
              replace cl_qc_8 : hx_col 100 h_42 qc 8 = flf := (hx_col_S hs hTo gqc tt_45 tt_2 rfl rfl).trans cl_qc_8
              replace cl_qc_11 : hx_col 100 h_42 qc 11 = hrf := (hx_col_S hs hTo gqc tt_45 tt_2 rfl rfl).trans cl_qc_11
              replace cl_qc_12 : hx_col 100 h_42 qc 12 = udf := (hx_col_S hs hTo gqc tt_45 tt_2 rfl rfl).trans cl_qc_12
              replace cl_qc_13 : hx_col 100 h_42 qc 13 = odf := (hx_col_S hs hTo gqc tt_45 tt_2 rfl rfl).trans cl_qc_13
              replace cl_qc_14 : hx_col 100 h_42 qc 14 = wkf := (hx_col_S hs hTo gqc tt_45 tt_2 rfl rfl).trans cl_qc_14
              replace cl_qc_15 : hx_col 100 h_42 qc 15 = owf := (hx_col_S hs hTo gqc tt_45 tt_2 rfl rfl).trans cl_qc_15
              replace cl_qc_16 : hx_col 100 h_42 qc 16 = szf := (hx_col_S hs hTo gqc tt_45 tt_2 rfl rfl).trans cl_qc_16
              replace cl_qc_17 : hx_col 100 h_42 qc 17 = gdf := (hx_col_S hs hTo gqc tt_45 tt_2 rfl rfl).trans cl_qc_17
              replace cl_qc_18 : hx_col 100 h_42 qc 18 = svf := (hx_col_S hs hTo gqc tt_45 tt_2 rfl rfl).trans cl_qc_18
              replace nu_qc : hx_num 100 h_42 qc 0 (cn0.toInt) := hx_num_S hs hTo gqc tt_45 tt_2 rfl rfl nu_qc
              replace sb_ql_qc : hx_LQ 8 100 h_42 ql qc := hx_LQ_S hs (gql.S hM) gqc rfl rfl sb_ql_qc
              replace hDF : hw_DF h_42 qc qp 2 agf cn0.toInt := hw_DF_S hs hTo gqc gqp tt_45 tt_2 rfl rfl rfl hDF
              replace hDP : hw_DF h_42 qc qp 1 byf cn0.toInt := hw_DF_S hs hTo gqc gqp tt_45 tt_2 rfl rfl rfl hDP
              replace hRA : hv_RA h_42 qa w a0.toInt A := hv_RA_S hs hTo gqa gw tt_43 tt_0 rfl rfl rfl rfl rfl rfl ?o326 hRA
              case o326 => omega
              replace hAC : hv_AC h_42 qc plf cn0.toInt A := hv_AC_S hs hTo gqc tt_45 tt_2 rfl tt_0 rfl rfl rfl rfl rfl rfl rfl hAC
              replace hFX : hv_FX 8 4 h_42 qc cF cn0.toInt := hv_FX_S hs hTo gqc tt_45 tt_2 rfl rfl rfl rfl hFX
              replace hBX : hv_FX 3 5 h_42 qc bF cn0.toInt := hv_FX_S hs hTo gqc tt_45 tt_2 rfl rfl rfl rfl hBX
              replace hHL : hv_HL h_42 qh qc hof m0.toInt cn0.toInt := hv_HL_S hs gqh gqc rfl rfl hHL
              replace fo_20 := (hs.a gqp rfl _).2.trans fo_20
              replace fo_30 := (hs.a gqp rfl _).2.trans fo_30
              replace hM := hM.tr (hs.mono ?o327)
              case o327 => decide
              replace gx := gx.S hs
              replace gqp := gqp.S hs
              replace gqc := gqc.S hs
              replace gqa := gqa.S hs
              replace gw := gw.S hs
              replace gqh := gqh.S hs
              replace gq_6 := gq_6.S hs
              replace gq_26 := gq_26.S hs
              refine hb_if_eq (zx := r_43.toInt) (tgt := 81) hx hb rfl dX9_file_67 ?o328 (fun c_46 => ?_) (fun c_46 => ?_)
              case o328 => decide
              · skip
                replace hr_45 := hr_45.resolve_right (fun z9 => absurd (c_46.symm.trans z9.1) ?o329)
                case o329 => decide
                replace hr_45 := hr_45.2
                refine lv_iconst (v := -1) hx hb dX9_file_81 ?o330 ?_
                case o330 => decide
                refine W.widen (k := 3) (n := 30) (Nat.le_of_ble_eq_true rfl) (Nat.le_of_ble_eq_true rfl) ?_
                refine hx_reti hx hb hr hlk hW ⟨⟨cn0, ff, tf, smf, frf, flf, hrf, udf, odf, wkf, owf, szf, gdf, svf, f_x_11, cl_qc_10, cl_qc_9, cl_qc_6, cl_qc_7, cl_qc_8, cl_qc_11, cl_qc_12, cl_qc_13, cl_qc_14, cl_qc_15, cl_qc_16, cl_qc_17, cl_qc_18, ⟨(hx_num_c nu_qc ?o331), ⟨sb_ql_qc, ⟨⟨(Or.inl ⟨?o332, ?o333, fun hc => by unfold hx_FC at hc; have h1 : (df i2.toNatClampNeg).toInt = 0 := hc.2.2.2.2.1; rw [← cx_33] at h1; omega⟩), (Or.inl ⟨?o334, rfl⟩), (Or.inl ⟨?o335, rfl⟩), (Or.inl ⟨?o336, rfl⟩), (Or.inl ⟨?o337, rfl⟩), (Or.inl ⟨?o338, rfl⟩), (Or.inl ⟨?o339, rfl⟩), (Or.inl ⟨?o340, rfl⟩), ⟨agf, byf, plf, cF, bF, pv9, (Or.inl ⟨?o341, rfl⟩), (Or.inl ⟨?o342, rfl⟩), ⟨hpv9, (Or.inl ⟨?o343, rfl⟩)⟩, (Or.inl ⟨?o344, rfl⟩), (Or.inl ⟨?o345, rfl⟩), hw_DF_e hDF rfl ?o346, hw_DF_e hDP rfl ?o347, hv_AC_e hAC rfl ?o348 rfl, hv_FX_e hFX rfl ?o349, hv_FX_e hBX rfl ?o350, hv_HL_e hHL rfl rfl ?o351⟩⟩, ⟨(Or.inl ⟨?o352, rfl⟩), (Or.inl ⟨?o353, rfl⟩), (Or.inl ⟨?o354, rfl⟩), (Or.inl ⟨?o355, rfl⟩), (Or.inl ⟨?o356, rfl⟩), (Or.inl ⟨?o357, rfl⟩)⟩⟩⟩⟩⟩, hT, hM, pf_x_11⟩ dX9_file_82
                case o331 => omega
                case o332 => decide
                case o333 => omega
                case o334 => decide
                case o335 => decide
                case o336 => decide
                case o337 => decide
                case o338 => decide
                case o339 => decide
                case o340 => decide
                case o341 => decide
                case o342 => decide
                case o343 => decide
                case o344 => decide
                case o345 => decide
                case o346 => omega
                case o347 => omega
                case o348 => omega
                case o349 => omega
                case o350 => omega
                case o351 => omega
                case o352 => decide
                case o353 => decide
                case o354 => decide
                case o355 => decide
                case o356 => decide
                case o357 => decide
              · skip
                replace hr_45 := hr_45.resolve_left (fun z9 => c_46 z9.1)
                replace c_46 := hr_45.1
                replace hr_45 := hr_45.2
                refine lv_iload hx hb dX9_file_70 (lv_at hl 8 rfl) ?_
                refine lv_iconst (v := 0) hx hb dX9_file_72 ?o358 ?_
                case o358 => decide
                refine lv_bipush (v := 9) hx hb dX9_file_73 ?o359 ?_
                case o359 => decide
                have hTo := hT
                have zc_9 : (9 : Int32).toInt = 9 := ?o360
                case o360 => decide
                refine hx_goi (hx_runS (As := [.int i6, .int (0 : Int32), .int (9 : Int32)]) (rest := []) ⟨hx, hb, hml, hown, hts⟩ hW (t_X9_isWithin_2 l dC dI dA L_41 h_42 H.size i6 (0 : Int32) (9 : Int32) hT) (va_cwS 3 hts (hx_gS kw_434 kw_432 kw_433 kw_94) rfl rfl rfl (by decide +kernel) ⟨Nat.le_of_ble_eq_true rfl, Nat.le_of_ble_eq_true rfl⟩) rfl hl.1 rfl (Nat.le_of_ble_eq_true rfl) dX9_file_75 ⟨Nat.le_of_ble_eq_true rfl, Nat.le_of_ble_eq_true rfl⟩) hW (fun r_49 L_47 h_48 H locs p_50 hW => ?_)
                obtain ⟨hr_51, hT, hs⟩ := p_50
                replace hT : hx_T T_tb L_47 h_48 := hT
                replace hs : hx_S T_tb [] L_41 h_42 L_47 h_48 := hs
                replace f_x_7 := (hs.o gx trivial rfl).2.trans f_x_7
                replace f_x_10 := (hs.o gx trivial rfl).2.trans f_x_10
                replace f_x_5 := (hs.o gx trivial rfl).2.trans f_x_5
                replace f_x_4 := (hs.o gx trivial rfl).2.trans f_x_4
                replace f_x_19 := (hs.o gx trivial rfl).2.trans f_x_19
                replace f_x_12 := (hs.o gx trivial rfl).2.trans f_x_12
                replace f_x_11 := (hs.o gx trivial rfl).1.trans f_x_11
                replace f_x_8 := (hs.o gx trivial rfl).1.trans f_x_8
                replace f_x_2 := (hs.o gx trivial rfl).1.trans f_x_2
                replace f_x_6 := (hs.o gx trivial rfl).1.trans f_x_6
                replace f_x_13 := (hs.o gx trivial rfl).1.trans f_x_13
                replace fx_33 := (hs.o gq_26 trivial rfl).1.trans fx_33
                replace pf_x_8 : ∀ j : Nat, (j : Int) < (h_48.2.1 x 8).toInt → h_48.2.2 qp j ≠ none := by
                  intro j hj; rw [(hs.o gx trivial rfl).1] at hj; rw [(hs.a gqp rfl j).2]; exact pf_x_8 j hj
                replace pf_x_11 : ∀ j : Nat, (j : Int) < (h_48.2.1 x 11).toInt → h_48.2.2 qc j ≠ none := by
                  intro j hj; rw [(hs.o gx trivial rfl).1] at hj; rw [(hs.a gqc rfl j).2]; exact pf_x_11 j hj
                replace pf_x_6 : ∀ j : Nat, (j : Int) < (h_48.2.1 x 6).toInt → h_48.2.2 qa j ≠ none := by
                  intro j hj; rw [(hs.o gx trivial rfl).1] at hj; rw [(hs.a gqa rfl j).2]; exact pf_x_6 j hj
                replace cl_qp_7 : hx_col 40 h_48 qp 7 = df := (hx_col_S hs hTo gqp tt_44 tt_4 rfl rfl).trans cl_qp_7
                replace cl_qc_10 : hx_col 100 h_48 qc 10 = ff := (hx_col_S hs hTo gqc tt_45 tt_2 rfl rfl).trans cl_qc_10
                replace cl_qc_9 : hx_col 100 h_48 qc 9 = tf := (hx_col_S hs hTo gqc tt_45 tt_2 rfl rfl).trans cl_qc_9
                replace cl_qc_6 : hx_col 100 h_48 qc 6 = smf := (hx_col_S hs hTo gqc tt_45 tt_2 rfl rfl).trans cl_qc_6
                replace cl_qc_7 : hx_col 100 h_48 qc 7 = frf := (hx_col_S hs hTo gqc tt_45 tt_2 rfl rfl).trans cl_qc_7
                replace cl_qc_8 : hx_col 100 h_48 qc 8 = flf := (hx_col_S hs hTo gqc tt_45 tt_2 rfl rfl).trans cl_qc_8
                replace cl_qc_11 : hx_col 100 h_48 qc 11 = hrf := (hx_col_S hs hTo gqc tt_45 tt_2 rfl rfl).trans cl_qc_11
                replace cl_qc_12 : hx_col 100 h_48 qc 12 = udf := (hx_col_S hs hTo gqc tt_45 tt_2 rfl rfl).trans cl_qc_12
                replace cl_qc_13 : hx_col 100 h_48 qc 13 = odf := (hx_col_S hs hTo gqc tt_45 tt_2 rfl rfl).trans cl_qc_13
                replace cl_qc_14 : hx_col 100 h_48 qc 14 = wkf := (hx_col_S hs hTo gqc tt_45 tt_2 rfl rfl).trans cl_qc_14
                replace cl_qc_15 : hx_col 100 h_48 qc 15 = owf := (hx_col_S hs hTo gqc tt_45 tt_2 rfl rfl).trans cl_qc_15
                replace cl_qc_16 : hx_col 100 h_48 qc 16 = szf := (hx_col_S hs hTo gqc tt_45 tt_2 rfl rfl).trans cl_qc_16
                replace cl_qc_17 : hx_col 100 h_48 qc 17 = gdf := (hx_col_S hs hTo gqc tt_45 tt_2 rfl rfl).trans cl_qc_17
                replace cl_qc_18 : hx_col 100 h_48 qc 18 = svf := (hx_col_S hs hTo gqc tt_45 tt_2 rfl rfl).trans cl_qc_18
                replace nu_qc : hx_num 100 h_48 qc 0 (cn0.toInt) := hx_num_S hs hTo gqc tt_45 tt_2 rfl rfl nu_qc
                replace sb_ql_qc : hx_LQ 8 100 h_48 ql qc := hx_LQ_S hs (gql.S hM) gqc rfl rfl sb_ql_qc
                replace hDF : hw_DF h_48 qc qp 2 agf cn0.toInt := hw_DF_S hs hTo gqc gqp tt_45 tt_2 rfl rfl rfl hDF
                replace hDP : hw_DF h_48 qc qp 1 byf cn0.toInt := hw_DF_S hs hTo gqc gqp tt_45 tt_2 rfl rfl rfl hDP
                replace hRA : hv_RA h_48 qa w a0.toInt A := hv_RA_S hs hTo gqa gw tt_43 tt_0 rfl rfl rfl rfl rfl rfl ?o361 hRA
                case o361 => omega
                replace hAC : hv_AC h_48 qc plf cn0.toInt A := hv_AC_S hs hTo gqc tt_45 tt_2 rfl tt_0 rfl rfl rfl rfl rfl rfl rfl hAC
                replace hFX : hv_FX 8 4 h_48 qc cF cn0.toInt := hv_FX_S hs hTo gqc tt_45 tt_2 rfl rfl rfl rfl hFX
                replace hBX : hv_FX 3 5 h_48 qc bF cn0.toInt := hv_FX_S hs hTo gqc tt_45 tt_2 rfl rfl rfl rfl hBX
                replace hHL : hv_HL h_48 qh qc hof m0.toInt cn0.toInt := hv_HL_S hs gqh gqc rfl rfl hHL
                replace fo_20 := (hs.a gqp rfl _).2.trans fo_20
                replace fo_30 := (hs.a gqp rfl _).2.trans fo_30
                replace hM := hM.tr (hs.mono ?o362)
                case o362 => decide
                replace gx := gx.S hs
                replace gqp := gqp.S hs
                replace gqc := gqc.S hs
                replace gqa := gqa.S hs
                replace gw := gw.S hs
                replace gqh := gqh.S hs
                replace gq_6 := gq_6.S hs
                replace gq_26 := gq_26.S hs
                refine hb_if_ne (zx := r_49.toInt) (tgt := 83) hx hb rfl dX9_file_78 ?o363 (fun c_52 => ?_) (fun c_52 => ?_)
                case o363 => decide
                · skip
                  replace hr_51 := hr_51.resolve_left (fun z9 => c_52 z9.1)
                  replace c_52 := hr_51.1
                  replace hr_51 := hr_51.2
                  have hTo := hT
                  refine hk_new hx hb hts hC_2 hown hW 118 tt_118 rfl ?o364 kw_223 kw_716 kw_110 (Nat.le_of_ble_eq_true rfl) (Nat.le_of_ble_eq_true rfl) dX9_file_83 (fun q_54 H h_53 eh_53 hqq_54 hW hs gq_54 => ?_)
                  case o364 => decide
                  have nq_q_54 : ∀ a ∈ L, a ≠ q_54 := fun a ha z => hqq_54 (z ▸ (hM.1 a ha).1)
                  have hT : hx_T T_tb (L_47 ++ [q_54]) h_53 := ?o365
                  case o365 =>
                    rw [eh_53]
                    exact hx_T_nw hT hqq_54 tt_118 rfl
                  replace f_x_7 := (hs.o gx trivial rfl).2.trans f_x_7
                  replace f_x_10 := (hs.o gx trivial rfl).2.trans f_x_10
                  replace f_x_5 := (hs.o gx trivial rfl).2.trans f_x_5
                  replace f_x_4 := (hs.o gx trivial rfl).2.trans f_x_4
                  replace f_x_19 := (hs.o gx trivial rfl).2.trans f_x_19
                  replace f_x_12 := (hs.o gx trivial rfl).2.trans f_x_12
                  replace f_x_11 := (hs.o gx trivial rfl).1.trans f_x_11
                  replace f_x_8 := (hs.o gx trivial rfl).1.trans f_x_8
                  replace f_x_2 := (hs.o gx trivial rfl).1.trans f_x_2
                  replace f_x_6 := (hs.o gx trivial rfl).1.trans f_x_6
                  replace f_x_13 := (hs.o gx trivial rfl).1.trans f_x_13
                  replace fx_33 := (hs.o gq_26 trivial rfl).1.trans fx_33
                  replace pf_x_8 : ∀ j : Nat, (j : Int) < (h_53.2.1 x 8).toInt → h_53.2.2 qp j ≠ none := by
                    intro j hj; rw [(hs.o gx trivial rfl).1] at hj; rw [(hs.a gqp rfl j).2]; exact pf_x_8 j hj
                  replace pf_x_11 : ∀ j : Nat, (j : Int) < (h_53.2.1 x 11).toInt → h_53.2.2 qc j ≠ none := by
                    intro j hj; rw [(hs.o gx trivial rfl).1] at hj; rw [(hs.a gqc rfl j).2]; exact pf_x_11 j hj
                  replace pf_x_6 : ∀ j : Nat, (j : Int) < (h_53.2.1 x 6).toInt → h_53.2.2 qa j ≠ none := by
                    intro j hj; rw [(hs.o gx trivial rfl).1] at hj; rw [(hs.a gqa rfl j).2]; exact pf_x_6 j hj
                  replace cl_qp_7 : hx_col 40 h_53 qp 7 = df := (hx_col_S hs hTo gqp tt_44 tt_4 rfl rfl).trans cl_qp_7
                  replace cl_qc_10 : hx_col 100 h_53 qc 10 = ff := (hx_col_S hs hTo gqc tt_45 tt_2 rfl rfl).trans cl_qc_10
                  replace cl_qc_9 : hx_col 100 h_53 qc 9 = tf := (hx_col_S hs hTo gqc tt_45 tt_2 rfl rfl).trans cl_qc_9
                  replace cl_qc_6 : hx_col 100 h_53 qc 6 = smf := (hx_col_S hs hTo gqc tt_45 tt_2 rfl rfl).trans cl_qc_6
                  replace cl_qc_7 : hx_col 100 h_53 qc 7 = frf := (hx_col_S hs hTo gqc tt_45 tt_2 rfl rfl).trans cl_qc_7
                  replace cl_qc_8 : hx_col 100 h_53 qc 8 = flf := (hx_col_S hs hTo gqc tt_45 tt_2 rfl rfl).trans cl_qc_8
                  replace cl_qc_11 : hx_col 100 h_53 qc 11 = hrf := (hx_col_S hs hTo gqc tt_45 tt_2 rfl rfl).trans cl_qc_11
                  replace cl_qc_12 : hx_col 100 h_53 qc 12 = udf := (hx_col_S hs hTo gqc tt_45 tt_2 rfl rfl).trans cl_qc_12
                  replace cl_qc_13 : hx_col 100 h_53 qc 13 = odf := (hx_col_S hs hTo gqc tt_45 tt_2 rfl rfl).trans cl_qc_13
                  replace cl_qc_14 : hx_col 100 h_53 qc 14 = wkf := (hx_col_S hs hTo gqc tt_45 tt_2 rfl rfl).trans cl_qc_14
                  replace cl_qc_15 : hx_col 100 h_53 qc 15 = owf := (hx_col_S hs hTo gqc tt_45 tt_2 rfl rfl).trans cl_qc_15
                  replace cl_qc_16 : hx_col 100 h_53 qc 16 = szf := (hx_col_S hs hTo gqc tt_45 tt_2 rfl rfl).trans cl_qc_16
                  replace cl_qc_17 : hx_col 100 h_53 qc 17 = gdf := (hx_col_S hs hTo gqc tt_45 tt_2 rfl rfl).trans cl_qc_17
                  replace cl_qc_18 : hx_col 100 h_53 qc 18 = svf := (hx_col_S hs hTo gqc tt_45 tt_2 rfl rfl).trans cl_qc_18
                  replace nu_qc : hx_num 100 h_53 qc 0 (cn0.toInt) := hx_num_S hs hTo gqc tt_45 tt_2 rfl rfl nu_qc
                  replace sb_ql_qc : hx_LQ 8 100 h_53 ql qc := hx_LQ_S hs (gql.S hM) gqc rfl rfl sb_ql_qc
                  replace hDF : hw_DF h_53 qc qp 2 agf cn0.toInt := hw_DF_S hs hTo gqc gqp tt_45 tt_2 rfl rfl rfl hDF
                  replace hDP : hw_DF h_53 qc qp 1 byf cn0.toInt := hw_DF_S hs hTo gqc gqp tt_45 tt_2 rfl rfl rfl hDP
                  replace hRA : hv_RA h_53 qa w a0.toInt A := hv_RA_S hs hTo gqa gw tt_43 tt_0 rfl rfl rfl rfl rfl rfl ?o366 hRA
                  case o366 => omega
                  replace hAC : hv_AC h_53 qc plf cn0.toInt A := hv_AC_S hs hTo gqc tt_45 tt_2 rfl tt_0 rfl rfl rfl rfl rfl rfl rfl hAC
                  replace hFX : hv_FX 8 4 h_53 qc cF cn0.toInt := hv_FX_S hs hTo gqc tt_45 tt_2 rfl rfl rfl rfl hFX
                  replace hBX : hv_FX 3 5 h_53 qc bF cn0.toInt := hv_FX_S hs hTo gqc tt_45 tt_2 rfl rfl rfl rfl hBX
                  replace hHL : hv_HL h_53 qh qc hof m0.toInt cn0.toInt := hv_HL_S hs gqh gqc rfl rfl hHL
                  replace fo_20 := (hs.a gqp rfl _).2.trans fo_20
                  replace fo_30 := (hs.a gqp rfl _).2.trans fo_30
                  replace hM := hM.tr (hs.mono ?o367)
                  case o367 => decide
                  replace gx := gx.S hs
                  replace gqp := gqp.S hs
                  replace gqc := gqc.S hs
                  replace gqa := gqa.S hs
                  replace gw := gw.S hs
                  replace gqh := gqh.S hs
                  replace gq_6 := gq_6.S hs
                  replace gq_26 := gq_26.S hs
                  have fz_55 : ∀ j, ([] : List Nat).contains j = false → h_53.2.1 q_54 j = 0 ∧ h_53.2.2 q_54 j = none := ?o368
                  case o368 =>
                    rw [eh_53]
                    exact fun _ _ => ⟨hx_nw_i, hx_nw_r⟩
                  refine lv_dup hx hb dX9_file_86 rfl ?_
                  refine lv_aload_n hx hb dX9_file_87 rfl (lv_at hl 2 rfl) ?_
                  refine hk_geti hx hb hts hC_9 hown hW gx tt_9 11 ?o369 rfl kw_375 ⟨rfl, rfl, rfl⟩ f_x_11 dX9_file_88 ?_
                  case o369 => decide
                  refine lv_aload hx hb dX9_file_91 (lv_at hl 1 rfl) ?_
                  refine lv_aload hx hb dX9_file_93 (lv_at hl 0 rfl) ?_
                  refine lv_aload_n hx hb dX9_file_95 rfl (lv_at hl 2 rfl) ?_
                  refine lv_aload_n hx hb dX9_file_96 rfl (lv_at hl 2 rfl) ?_
                  refine hk_geti hx hb hts hC_9 hown hW gx tt_9 2 ?o370 rfl kw_366 ⟨rfl, rfl, rfl⟩ f_x_2 dX9_file_97 ?_
                  case o370 => decide
                  have hTo := hT
                  refine hx_goq (hx_runV (As := [.int nw0]) (rest := [.ref q_26, .ref q_6, .int cn0, .ref q_54, .ref q_54]) ⟨hx, hb, hml, hown, hts⟩ hW gx tt_9 (T := TX9) (N := 20) rfl (t_X9_inForce_v l dC dI dA (L_47 ++ [q_54]) h_53 H.size x nw0 hT gx qa gqa f_x_5 w gw f_x_4 a0 f_x_6 A hRA pf_x_6) (cwV 1 hts (hx_gV kw_597 kw_594 kw_596 kw_19 kw_94) rfl rfl rfl (by decide +kernel) ⟨Nat.le_of_ble_eq_true rfl, Nat.le_of_ble_eq_true rfl⟩) rfl hl.1 rfl (Nat.le_of_ble_eq_true rfl) dX9_file_100 ⟨Nat.le_of_ble_eq_true rfl, Nat.le_of_ble_eq_true rfl⟩) hW (fun r_58 L_56 h_57 H locs p_59 hW => ?_)
                  obtain ⟨hr_60, hT, hs⟩ := p_59
                  replace hT : hx_T T_tb L_56 h_57 := hT
                  replace hs : hx_S T_tb [] (L_47 ++ [q_54]) h_53 L_56 h_57 := hs
                  replace f_x_7 := (hs.o gx trivial rfl).2.trans f_x_7
                  replace f_x_10 := (hs.o gx trivial rfl).2.trans f_x_10
                  replace f_x_5 := (hs.o gx trivial rfl).2.trans f_x_5
                  replace f_x_4 := (hs.o gx trivial rfl).2.trans f_x_4
                  replace f_x_19 := (hs.o gx trivial rfl).2.trans f_x_19
                  replace f_x_12 := (hs.o gx trivial rfl).2.trans f_x_12
                  replace f_x_11 := (hs.o gx trivial rfl).1.trans f_x_11
                  replace f_x_8 := (hs.o gx trivial rfl).1.trans f_x_8
                  replace f_x_2 := (hs.o gx trivial rfl).1.trans f_x_2
                  replace f_x_6 := (hs.o gx trivial rfl).1.trans f_x_6
                  replace f_x_13 := (hs.o gx trivial rfl).1.trans f_x_13
                  replace fx_33 := (hs.o gq_26 trivial rfl).1.trans fx_33
                  replace pf_x_8 : ∀ j : Nat, (j : Int) < (h_57.2.1 x 8).toInt → h_57.2.2 qp j ≠ none := by
                    intro j hj; rw [(hs.o gx trivial rfl).1] at hj; rw [(hs.a gqp rfl j).2]; exact pf_x_8 j hj
                  replace pf_x_11 : ∀ j : Nat, (j : Int) < (h_57.2.1 x 11).toInt → h_57.2.2 qc j ≠ none := by
                    intro j hj; rw [(hs.o gx trivial rfl).1] at hj; rw [(hs.a gqc rfl j).2]; exact pf_x_11 j hj
                  replace pf_x_6 : ∀ j : Nat, (j : Int) < (h_57.2.1 x 6).toInt → h_57.2.2 qa j ≠ none := by
                    intro j hj; rw [(hs.o gx trivial rfl).1] at hj; rw [(hs.a gqa rfl j).2]; exact pf_x_6 j hj
                  replace fz_55 := hx_zr [] fz_55 hs gq_54 trivial rfl
                  replace cl_qp_7 : hx_col 40 h_57 qp 7 = df := (hx_col_S hs hTo gqp tt_44 tt_4 rfl rfl).trans cl_qp_7
                  replace cl_qc_10 : hx_col 100 h_57 qc 10 = ff := (hx_col_S hs hTo gqc tt_45 tt_2 rfl rfl).trans cl_qc_10
                  replace cl_qc_9 : hx_col 100 h_57 qc 9 = tf := (hx_col_S hs hTo gqc tt_45 tt_2 rfl rfl).trans cl_qc_9
                  replace cl_qc_6 : hx_col 100 h_57 qc 6 = smf := (hx_col_S hs hTo gqc tt_45 tt_2 rfl rfl).trans cl_qc_6
                  replace cl_qc_7 : hx_col 100 h_57 qc 7 = frf := (hx_col_S hs hTo gqc tt_45 tt_2 rfl rfl).trans cl_qc_7
                  replace cl_qc_8 : hx_col 100 h_57 qc 8 = flf := (hx_col_S hs hTo gqc tt_45 tt_2 rfl rfl).trans cl_qc_8
                  replace cl_qc_11 : hx_col 100 h_57 qc 11 = hrf := (hx_col_S hs hTo gqc tt_45 tt_2 rfl rfl).trans cl_qc_11
                  replace cl_qc_12 : hx_col 100 h_57 qc 12 = udf := (hx_col_S hs hTo gqc tt_45 tt_2 rfl rfl).trans cl_qc_12
                  replace cl_qc_13 : hx_col 100 h_57 qc 13 = odf := (hx_col_S hs hTo gqc tt_45 tt_2 rfl rfl).trans cl_qc_13
                  replace cl_qc_14 : hx_col 100 h_57 qc 14 = wkf := (hx_col_S hs hTo gqc tt_45 tt_2 rfl rfl).trans cl_qc_14
                  replace cl_qc_15 : hx_col 100 h_57 qc 15 = owf := (hx_col_S hs hTo gqc tt_45 tt_2 rfl rfl).trans cl_qc_15
                  replace cl_qc_16 : hx_col 100 h_57 qc 16 = szf := (hx_col_S hs hTo gqc tt_45 tt_2 rfl rfl).trans cl_qc_16
                  replace cl_qc_17 : hx_col 100 h_57 qc 17 = gdf := (hx_col_S hs hTo gqc tt_45 tt_2 rfl rfl).trans cl_qc_17
                  replace cl_qc_18 : hx_col 100 h_57 qc 18 = svf := (hx_col_S hs hTo gqc tt_45 tt_2 rfl rfl).trans cl_qc_18
                  replace nu_qc : hx_num 100 h_57 qc 0 (cn0.toInt) := hx_num_S hs hTo gqc tt_45 tt_2 rfl rfl nu_qc
                  replace sb_ql_qc : hx_LQ 8 100 h_57 ql qc := hx_LQ_S hs (gql.S hM) gqc rfl rfl sb_ql_qc
                  replace hDF : hw_DF h_57 qc qp 2 agf cn0.toInt := hw_DF_S hs hTo gqc gqp tt_45 tt_2 rfl rfl rfl hDF
                  replace hDP : hw_DF h_57 qc qp 1 byf cn0.toInt := hw_DF_S hs hTo gqc gqp tt_45 tt_2 rfl rfl rfl hDP
                  replace hRA : hv_RA h_57 qa w a0.toInt A := hv_RA_S hs hTo gqa gw tt_43 tt_0 rfl rfl rfl rfl rfl rfl ?o371 hRA
                  case o371 => omega
                  replace hAC : hv_AC h_57 qc plf cn0.toInt A := hv_AC_S hs hTo gqc tt_45 tt_2 rfl tt_0 rfl rfl rfl rfl rfl rfl rfl hAC
                  replace hFX : hv_FX 8 4 h_57 qc cF cn0.toInt := hv_FX_S hs hTo gqc tt_45 tt_2 rfl rfl rfl rfl hFX
                  replace hBX : hv_FX 3 5 h_57 qc bF cn0.toInt := hv_FX_S hs hTo gqc tt_45 tt_2 rfl rfl rfl rfl hBX
                  replace hHL : hv_HL h_57 qh qc hof m0.toInt cn0.toInt := hv_HL_S hs gqh gqc rfl rfl hHL
                  replace fo_20 := (hs.a gqp rfl _).2.trans fo_20
                  replace fo_30 := (hs.a gqp rfl _).2.trans fo_30
                  replace hM := hM.tr (hs.mono ?o372)
                  case o372 => decide
                  replace gx := gx.S hs
                  replace gqp := gqp.S hs
                  replace gqc := gqc.S hs
                  replace gqa := gqa.S hs
                  replace gw := gw.S hs
                  replace gqh := gqh.S hs
                  replace gq_6 := gq_6.S hs
                  replace gq_26 := gq_26.S hs
                  replace gq_54 := gq_54.S hs
                  obtain ⟨q_61, rfl, gq_61, hr_60B⟩ := hr_60
                  have gq_61 : hx_g L_56 h_57 q_61 0 := gq_61
                  obtain ⟨kk_62, kk_62E, kk_62Q⟩ := hr_60B
                  have kk_62Q : hv_AQ h_57 q_61 (((kk_62 : Nat) : Int) - 1) (A kk_62) := kk_62Q
                  have hTo := hT
                  refine hx_gov (hx_runI (As := [.int cn0, .ref q_6, .ref q_26, .ref q_61]) (rest := [.ref q_54]) ⟨hx, hb, hml, hown, hts⟩ hW (t_X2_init_v l dC dI dA L_56 h_57 H.size q_54 cn0 q_6 q_26 q_61 hT gq_54 gq_6 gq_26 gq_61 (fun j => fz_55 j rfl) ⟨?o373, ?o374⟩) (cwI 4 hts (hx_gC kw_719) rfl rfl rfl (hts _ kw_110) (hts _ kw_717) (hts _ kw_718) rfl (by decide +kernel) ⟨Nat.le_of_ble_eq_true rfl, Nat.le_of_ble_eq_true rfl⟩) rfl hl.1 rfl (Nat.le_of_ble_eq_true rfl) dX9_file_103 ⟨Nat.le_of_ble_eq_true rfl, Nat.le_of_ble_eq_true rfl⟩) hW (fun L_63 h_64 H locs p_66 hW => ?_)
                  case o373 => omega
                  case o374 => omega
                  have hTo := hT
                  obtain ⟨hT, hs, gNq_54, po_67, po_68, po_69, po_70, po_71, po_72, po_73, po_74, po_75, po_76, po_77, po_78, po_79, po_80, po_81, po_82⟩ := p_66
                  replace hT : hx_T T_tb L_63 h_64 := hT
                  replace hs : hx_S T_tb [(118, 0), (118, 1), (118, 2), (118, 3), (118, 4), (118, 5), (118, 10), (118, 11), (118, 13), (118, 16), (118, 18)] (hx_X L_56 q_54) h_57 L_63 h_64 := hs
                  have gx := hx_gX gx (gx.ne gq_54 ?o375)
                  case o375 => decide
                  have gqp := hx_gX gqp (gqp.ne gq_54 ?o376)
                  case o376 => decide
                  have gqc := hx_gX gqc (gqc.ne gq_54 ?o377)
                  case o377 => decide
                  have gqa := hx_gX gqa (gqa.ne gq_54 ?o378)
                  case o378 => decide
                  have gw := hx_gX gw (gw.ne gq_54 ?o379)
                  case o379 => decide
                  have gqh := hx_gX gqh (gqh.ne gq_54 ?o380)
                  case o380 => decide
                  have gq_6 := hx_gX gq_6 (gq_6.ne gq_54 ?o381)
                  case o381 => decide
                  have gq_26 := hx_gX gq_26 (gq_26.ne gq_54 ?o382)
                  case o382 => decide
                  have gq_61 := hx_gX gq_61 (gq_61.ne gq_54 ?o383)
                  case o383 => decide
                  have gcX9 := gqc
                  have gxO9 := gq_54
                  replace f_x_7 := (hs.o gx trivial rfl).2.trans f_x_7
                  replace f_x_10 := (hs.o gx trivial rfl).2.trans f_x_10
                  replace f_x_5 := (hs.o gx trivial rfl).2.trans f_x_5
                  replace f_x_4 := (hs.o gx trivial rfl).2.trans f_x_4
                  replace f_x_19 := (hs.o gx trivial rfl).2.trans f_x_19
                  replace f_x_12 := (hs.o gx trivial rfl).2.trans f_x_12
                  replace f_x_11 := (hs.o gx trivial rfl).1.trans f_x_11
                  replace f_x_8 := (hs.o gx trivial rfl).1.trans f_x_8
                  replace f_x_2 := (hs.o gx trivial rfl).1.trans f_x_2
                  replace f_x_6 := (hs.o gx trivial rfl).1.trans f_x_6
                  replace f_x_13 := (hs.o gx trivial rfl).1.trans f_x_13
                  replace fx_33 := (hs.o gq_26 trivial rfl).1.trans fx_33
                  replace pf_x_8 : ∀ j : Nat, (j : Int) < (h_64.2.1 x 8).toInt → h_64.2.2 qp j ≠ none := by
                    intro j hj; rw [(hs.o gx trivial rfl).1] at hj; rw [(hs.a gqp rfl j).2]; exact pf_x_8 j hj
                  replace pf_x_11 : ∀ j : Nat, (j : Int) < (h_64.2.1 x 11).toInt → h_64.2.2 qc j ≠ none := by
                    intro j hj; rw [(hs.o gx trivial rfl).1] at hj; rw [(hs.a gqc rfl j).2]; exact pf_x_11 j hj
                  replace pf_x_6 : ∀ j : Nat, (j : Int) < (h_64.2.1 x 6).toInt → h_64.2.2 qa j ≠ none := by
                    intro j hj; rw [(hs.o gx trivial rfl).1] at hj; rw [(hs.a gqa rfl j).2]; exact pf_x_6 j hj
                  replace cl_qp_7 : hx_col 40 h_64 qp 7 = df := (hx_col_X hs hTo gqp gq_54 tt_44 tt_4 rfl rfl ?o384).trans cl_qp_7
                  case o384 => decide
                  replace cl_qc_10 : hx_col 100 h_64 qc 10 = ff := (hx_col_X hs hTo gqc gq_54 tt_45 tt_2 rfl rfl ?o385).trans cl_qc_10
                  case o385 => decide
                  replace cl_qc_9 : hx_col 100 h_64 qc 9 = tf := (hx_col_X hs hTo gqc gq_54 tt_45 tt_2 rfl rfl ?o386).trans cl_qc_9
                  case o386 => decide
                  replace cl_qc_6 : hx_col 100 h_64 qc 6 = smf := (hx_col_X hs hTo gqc gq_54 tt_45 tt_2 rfl rfl ?o387).trans cl_qc_6
                  case o387 => decide
                  replace cl_qc_7 : hx_col 100 h_64 qc 7 = frf := (hx_col_X hs hTo gqc gq_54 tt_45 tt_2 rfl rfl ?o388).trans cl_qc_7
                  case o388 => decide
                  replace cl_qc_8 : hx_col 100 h_64 qc 8 = flf := (hx_col_X hs hTo gqc gq_54 tt_45 tt_2 rfl rfl ?o389).trans cl_qc_8
                  case o389 => decide
                  replace cl_qc_11 : hx_col 100 h_64 qc 11 = hrf := (hx_col_X hs hTo gqc gq_54 tt_45 tt_2 rfl rfl ?o390).trans cl_qc_11
                  case o390 => decide
                  replace cl_qc_12 : hx_col 100 h_64 qc 12 = udf := (hx_col_X hs hTo gqc gq_54 tt_45 tt_2 rfl rfl ?o391).trans cl_qc_12
                  case o391 => decide
                  replace cl_qc_13 : hx_col 100 h_64 qc 13 = odf := (hx_col_X hs hTo gqc gq_54 tt_45 tt_2 rfl rfl ?o392).trans cl_qc_13
                  case o392 => decide
                  replace cl_qc_14 : hx_col 100 h_64 qc 14 = wkf := (hx_col_X hs hTo gqc gq_54 tt_45 tt_2 rfl rfl ?o393).trans cl_qc_14
                  case o393 => decide
                  replace cl_qc_15 : hx_col 100 h_64 qc 15 = owf := (hx_col_X hs hTo gqc gq_54 tt_45 tt_2 rfl rfl ?o394).trans cl_qc_15
                  case o394 => decide
                  replace cl_qc_16 : hx_col 100 h_64 qc 16 = szf := (hx_col_X hs hTo gqc gq_54 tt_45 tt_2 rfl rfl ?o395).trans cl_qc_16
                  case o395 => decide
                  replace cl_qc_17 : hx_col 100 h_64 qc 17 = gdf := (hx_col_X hs hTo gqc gq_54 tt_45 tt_2 rfl rfl ?o396).trans cl_qc_17
                  case o396 => decide
                  replace cl_qc_18 : hx_col 100 h_64 qc 18 = svf := (hx_col_X hs hTo gqc gq_54 tt_45 tt_2 rfl rfl ?o397).trans cl_qc_18
                  case o397 => decide
                  replace nu_qc : hx_num 100 h_64 qc 0 (cn0.toInt) := hx_num_X hs hTo gqc gq_54 tt_45 tt_2 rfl rfl ?o398 nu_qc
                  case o398 => decide
                  replace sb_ql_qc : hx_LQ 8 100 h_64 ql qc := hx_LQ_S hs (hx_gX (gql.S hM) ((gql.S hM).ne gq_54 ?o399)) gqc rfl rfl sb_ql_qc
                  case o399 => decide
                  replace hDF : hw_DF h_64 qc qp 2 agf cn0.toInt := hw_DF_X hs hTo gqc gqp gq_54 tt_45 tt_2 rfl rfl rfl ?o400 hDF
                  case o400 => decide
                  replace hDP : hw_DF h_64 qc qp 1 byf cn0.toInt := hw_DF_X hs hTo gqc gqp gq_54 tt_45 tt_2 rfl rfl rfl ?o401 hDP
                  case o401 => decide
                  replace hRA : hv_RA h_64 qa w a0.toInt A := hv_RA_X hs hTo gqa gw gq_54 tt_43 tt_0 rfl rfl rfl rfl rfl rfl ?o402 ?o403 hRA
                  case o402 => decide
                  case o403 => omega
                  replace hAC : hv_AC h_64 qc plf cn0.toInt A := hv_AC_X hs hTo gqc gq_54 tt_45 tt_2 rfl tt_0 rfl rfl rfl rfl rfl rfl rfl ?o404 ?o405 hAC
                  case o404 => decide
                  case o405 => decide
                  replace hFX : hv_FX 8 4 h_64 qc cF cn0.toInt := hv_FX_X hs hTo gqc gq_54 tt_45 tt_2 rfl rfl rfl rfl ?o406 hFX
                  case o406 => decide
                  replace hBX : hv_FX 3 5 h_64 qc bF cn0.toInt := hv_FX_X hs hTo gqc gq_54 tt_45 tt_2 rfl rfl rfl rfl ?o407 hBX
                  case o407 => decide
                  replace hHL : hv_HL h_64 qh qc hof m0.toInt cn0.toInt := hv_HL_X hs gqh gqc rfl rfl hHL
                  replace kk_62Q : hv_AQ h_64 q_61 (((kk_62 : Nat) : Int) - 1) (A kk_62) := hv_AQ_X hs hTo gq_61 gq_54 tt_0 rfl rfl rfl rfl rfl ?o408 kk_62Q
                  case o408 => decide
                  replace fo_20 := (hs.a gqp rfl _).2.trans fo_20
                  replace fo_30 := (hs.a gqp rfl _).2.trans fo_30
                  replace hM := hM.trX (hs.mono ?o409) nq_q_54
                  case o409 => decide
                  replace gx := gx.S hs
                  replace gqp := gqp.S hs
                  replace gqc := gqc.S hs
                  replace gqa := gqa.S hs
                  replace gw := gw.S hs
                  replace gqh := gqh.S hs
                  replace gq_6 := gq_6.S hs
                  replace gq_26 := gq_26.S hs
                  replace gq_61 := gq_61.S hs
                  have gq_54 : hx_g L_63 h_64 q_54 2 := gNq_54
                  have po_67 : h_64.2.1 q_54 0 = cn0 := po_67
                  have po_68 : h_64.2.1 q_54 10 = -1 := po_68
                  have po_69 : h_64.2.1 q_54 11 = -1 := po_69
                  have po_70 : h_64.2.1 q_54 9 = 0 := po_70
                  have po_71 : h_64.2.1 q_54 12 = 0 := po_71
                  have po_72 : h_64.2.1 q_54 13 = -1 := po_72
                  have po_73 : h_64.2.1 q_54 16 = -1 := po_73
                  have po_74 : h_64.2.1 q_54 18 = -1 := po_74
                  have po_75 : h_64.2.1 q_54 14 = 0 := po_75
                  have po_76 : h_64.2.1 q_54 15 = 0 := po_76
                  have po_77 : h_64.2.1 q_54 17 = 0 := po_77
                  have po_78 : h_64.2.2 q_54 1 = some q_6 := po_78
                  have po_79 : h_64.2.2 q_54 2 = some q_26 := po_79
                  have po_80 : h_64.2.2 q_54 3 = some q_61 := po_80
                  obtain ⟨q_83, fq_83, gq_83, po_81⟩ := po_81
                  have fq_83 : h_64.2.2 q_54 4 = some q_83 := fq_83
                  have gq_83 : hx_g L_63 h_64 q_83 20 := gq_83
                  obtain ⟨po_81, po_81N⟩ := po_81
                  have po_81 : True := po_81
                  have po_81N : ∀ a ∈ hx_X L_56 q_54, a ≠ q_83 := po_81N
                  obtain ⟨fw_84, nfw_84⟩ : ∃ g : Nat → Int32, h_64.2.1 q_83 = g := ⟨_, rfl⟩
                  have hNF4 : hv_NF 4 h_64 qc q_83 cn0.toInt := hv_NF_i hs hTo gcX9 gxO9 tt_45 tt_2 rfl rfl rfl ?o410 po_81N
                  case o410 => decide
                  obtain ⟨q_85, fq_85, gq_85, po_82⟩ := po_82
                  have fq_85 : h_64.2.2 q_54 5 = some q_85 := fq_85
                  have gq_85 : hx_g L_63 h_64 q_85 21 := gq_85
                  obtain ⟨po_82, po_82N⟩ := po_82
                  have po_82 : (h_64.2.1 q_85 0 = -1 ∧ h_64.2.1 q_85 1 = -1 ∧ h_64.2.1 q_85 2 = -1) := po_82
                  have po_82N : ∀ a ∈ hx_X L_56 q_54, a ≠ q_85 := po_82N
                  obtain ⟨fw_86, nfw_86⟩ : ∃ g : Nat → Int32, h_64.2.1 q_85 = g := ⟨_, rfl⟩
                  rw [nfw_86] at po_82
                  have hNF5 : hv_NF 5 h_64 qc q_85 cn0.toInt := hv_NF_i hs hTo gcX9 gxO9 tt_45 tt_2 rfl rfl rfl ?o411 po_82N
                  case o411 => decide
                  refine lv_astore (lv' := [(9, .ref q_54), (8, .ref q_26), (7, .ref q_6), (0, .ref x), (1, .int i1), (2, .int i2), (3, .int i3), (4, .int i4), (5, .int i5), (6, .int i6)]) hx hb dX9_file_106 hl ?o412 rfl (fun ls hl => ?_)
                  case o412 => decide
                  refine lv_aload hx hb dX9_file_108 (lv_at hl 0 rfl) ?_
                  refine lv_iload_n hx hb dX9_file_110 rfl (lv_at hl 6 rfl) ?_
                  have hTo := hT
                  have numO9 : (h_64.2.1 q_54 0).toInt = cn0.toInt := ?o413
                  case o413 => rw [po_67]
                  have noO9 := hw_num_no nu_qc numO9
                  have cl_qc_6O9 := cl_qc_6
                  refine hx_puti hx hb hts hC_2 hown hW hT (hx_S.rf (M := [(2, 6)])) gq_54 tt_2 6 ?o414 rfl kw_741 ⟨rfl, rfl, rfl⟩ rfl (x := i3) ⟨?o415, ?o416⟩ rfl rfl rfl (List.mem_singleton.mpr rfl) dX9_file_111 (fun H locs h_87 eh_87 hW hT hs => ?_)
                  case o414 => decide
                  case o415 => omega
                  case o416 => omega
                  replace f_x_7 := (hs.o gx trivial rfl).2.trans f_x_7
                  replace f_x_10 := (hs.o gx trivial rfl).2.trans f_x_10
                  replace f_x_5 := (hs.o gx trivial rfl).2.trans f_x_5
                  replace f_x_4 := (hs.o gx trivial rfl).2.trans f_x_4
                  replace f_x_19 := (hs.o gx trivial rfl).2.trans f_x_19
                  replace f_x_12 := (hs.o gx trivial rfl).2.trans f_x_12
                  replace f_x_11 := (hs.o gx trivial rfl).1.trans f_x_11
                  replace f_x_8 := (hs.o gx trivial rfl).1.trans f_x_8
                  replace f_x_2 := (hs.o gx trivial rfl).1.trans f_x_2
                  replace f_x_6 := (hs.o gx trivial rfl).1.trans f_x_6
                  replace f_x_13 := (hs.o gx trivial rfl).1.trans f_x_13
                  replace fx_33 := (hs.o gq_26 trivial rfl).1.trans fx_33
                  replace po_67 := (hs.o gq_54 trivial rfl).1.trans po_67
                  replace po_68 := (hs.o gq_54 trivial rfl).1.trans po_68
                  replace po_69 := (hs.o gq_54 trivial rfl).1.trans po_69
                  replace po_70 := (hs.o gq_54 trivial rfl).1.trans po_70
                  replace po_71 := (hs.o gq_54 trivial rfl).1.trans po_71
                  replace po_72 := (hs.o gq_54 trivial rfl).1.trans po_72
                  replace po_73 := (hs.o gq_54 trivial rfl).1.trans po_73
                  replace po_74 := (hs.o gq_54 trivial rfl).1.trans po_74
                  replace po_75 := (hs.o gq_54 trivial rfl).1.trans po_75
                  replace po_76 := (hs.o gq_54 trivial rfl).1.trans po_76
                  replace po_77 := (hs.o gq_54 trivial rfl).1.trans po_77
                  replace po_78 := (hs.o gq_54 trivial rfl).2.trans po_78
                  replace po_79 := (hs.o gq_54 trivial rfl).2.trans po_79
                  replace po_80 := (hs.o gq_54 trivial rfl).2.trans po_80
                  replace fq_83 := (hs.o gq_54 trivial rfl).2.trans fq_83
                  replace fq_85 := (hs.o gq_54 trivial rfl).2.trans fq_85
                  replace pf_x_8 : ∀ j : Nat, (j : Int) < (h_87.2.1 x 8).toInt → h_87.2.2 qp j ≠ none := by
                    intro j hj; rw [(hs.o gx trivial rfl).1] at hj; rw [(hs.a gqp rfl j).2]; exact pf_x_8 j hj
                  replace pf_x_11 : ∀ j : Nat, (j : Int) < (h_87.2.1 x 11).toInt → h_87.2.2 qc j ≠ none := by
                    intro j hj; rw [(hs.o gx trivial rfl).1] at hj; rw [(hs.a gqc rfl j).2]; exact pf_x_11 j hj
                  replace pf_x_6 : ∀ j : Nat, (j : Int) < (h_87.2.1 x 6).toInt → h_87.2.2 qa j ≠ none := by
                    intro j hj; rw [(hs.o gx trivial rfl).1] at hj; rw [(hs.a gqa rfl j).2]; exact pf_x_6 j hj
                  replace cl_qp_7 : hx_col 40 h_87 qp 7 = df := (hx_col_S hs hTo gqp tt_44 tt_4 rfl rfl).trans cl_qp_7
                  replace cl_qc_10 : hx_col 100 h_87 qc 10 = ff := (hx_col_S hs hTo gqc tt_45 tt_2 rfl rfl).trans cl_qc_10
                  replace cl_qc_9 : hx_col 100 h_87 qc 9 = tf := (hx_col_S hs hTo gqc tt_45 tt_2 rfl rfl).trans cl_qc_9
                  replace cl_qc_7 : hx_col 100 h_87 qc 7 = frf := (hx_col_S hs hTo gqc tt_45 tt_2 rfl rfl).trans cl_qc_7
                  replace cl_qc_8 : hx_col 100 h_87 qc 8 = flf := (hx_col_S hs hTo gqc tt_45 tt_2 rfl rfl).trans cl_qc_8
                  replace cl_qc_11 : hx_col 100 h_87 qc 11 = hrf := (hx_col_S hs hTo gqc tt_45 tt_2 rfl rfl).trans cl_qc_11
                  replace cl_qc_12 : hx_col 100 h_87 qc 12 = udf := (hx_col_S hs hTo gqc tt_45 tt_2 rfl rfl).trans cl_qc_12
                  replace cl_qc_13 : hx_col 100 h_87 qc 13 = odf := (hx_col_S hs hTo gqc tt_45 tt_2 rfl rfl).trans cl_qc_13
                  replace cl_qc_14 : hx_col 100 h_87 qc 14 = wkf := (hx_col_S hs hTo gqc tt_45 tt_2 rfl rfl).trans cl_qc_14
                  replace cl_qc_15 : hx_col 100 h_87 qc 15 = owf := (hx_col_S hs hTo gqc tt_45 tt_2 rfl rfl).trans cl_qc_15
                  replace cl_qc_16 : hx_col 100 h_87 qc 16 = szf := (hx_col_S hs hTo gqc tt_45 tt_2 rfl rfl).trans cl_qc_16
                  replace cl_qc_17 : hx_col 100 h_87 qc 17 = gdf := (hx_col_S hs hTo gqc tt_45 tt_2 rfl rfl).trans cl_qc_17
                  replace cl_qc_18 : hx_col 100 h_87 qc 18 = svf := (hx_col_S hs hTo gqc tt_45 tt_2 rfl rfl).trans cl_qc_18
                  replace nu_qc : hx_num 100 h_87 qc 0 (cn0.toInt) := hx_num_S hs hTo gqc tt_45 tt_2 rfl rfl nu_qc
                  replace sb_ql_qc : hx_LQ 8 100 h_87 ql qc := hx_LQ_S hs (gql.S hM) gqc rfl rfl sb_ql_qc
                  replace hDF : hw_DF h_87 qc qp 2 agf cn0.toInt := hw_DF_S hs hTo gqc gqp tt_45 tt_2 rfl rfl rfl hDF
                  replace hDP : hw_DF h_87 qc qp 1 byf cn0.toInt := hw_DF_S hs hTo gqc gqp tt_45 tt_2 rfl rfl rfl hDP
                  replace hRA : hv_RA h_87 qa w a0.toInt A := hv_RA_S hs hTo gqa gw tt_43 tt_0 rfl rfl rfl rfl rfl rfl ?o417 hRA
                  case o417 => omega
                  replace hAC : hv_AC h_87 qc plf cn0.toInt A := hv_AC_S hs hTo gqc tt_45 tt_2 rfl tt_0 rfl rfl rfl rfl rfl rfl rfl hAC
                  replace hFX : hv_FX 8 4 h_87 qc cF cn0.toInt := hv_FX_S hs hTo gqc tt_45 tt_2 rfl rfl rfl rfl hFX
                  replace hBX : hv_FX 3 5 h_87 qc bF cn0.toInt := hv_FX_S hs hTo gqc tt_45 tt_2 rfl rfl rfl rfl hBX
                  replace hHL : hv_HL h_87 qh qc hof m0.toInt cn0.toInt := hv_HL_S hs gqh gqc rfl rfl hHL
                  replace kk_62Q : hv_AQ h_87 q_61 (((kk_62 : Nat) : Int) - 1) (A kk_62) := hv_AQ_S hs hTo gq_61 tt_0 rfl rfl rfl rfl rfl kk_62Q
                  replace hNF4 : hv_NF 4 h_87 qc q_83 cn0.toInt := hv_NF_S hs hTo gqc tt_45 tt_2 rfl rfl hNF4
                  replace hNF5 : hv_NF 5 h_87 qc q_85 cn0.toInt := hv_NF_S hs hTo gqc tt_45 tt_2 rfl rfl hNF5
                  replace fo_20 := (hs.a gqp rfl _).2.trans fo_20
                  replace fo_30 := (hs.a gqp rfl _).2.trans fo_30
                  replace nfw_84 : h_87.2.1 q_83 = fw_84 := (funext fun j => (hs.a gq_83 rfl j).1).trans nfw_84
                  replace nfw_86 : h_87.2.1 q_85 = fw_86 := (funext fun j => (hs.a gq_85 rfl j).1).trans nfw_86
                  replace hM := hM.tr (hs.mono ?o418)
                  case o418 => decide
                  replace gx := gx.S hs
                  replace gqp := gqp.S hs
                  replace gqc := gqc.S hs
                  replace gqa := gqa.S hs
                  replace gw := gw.S hs
                  replace gqh := gqh.S hs
                  replace gq_6 := gq_6.S hs
                  replace gq_26 := gq_26.S hs
                  replace gq_61 := gq_61.S hs
                  replace gq_54 := gq_54.S hs
                  replace gq_83 := gq_83.S hs
                  replace gq_85 := gq_85.S hs
                  have f_88 : h_87.2.1 q_54 6 = i3 := ?o419
                  case o419 =>
                    rw [eh_87]
                    exact hx_pi_at _ _ _ _
                  have nc_89 : hx_col 100 h_87 qc 6 = smf := hw_col_k (h := h_64) (fun a9 k9 ne => by rw [eh_87]; exact hx_pi_ne _ _ (fun z => ne z.1)) (fun j => (congrArg (fun z : hx_h => z.2.2 qc j) eh_87).trans rfl) noO9 cl_qc_6O9
                  refine lv_aload hx hb dX9_file_114 (lv_at hl 0 rfl) ?_
                  refine lv_iload hx hb dX9_file_116 (lv_at hl 7 rfl) ?_
                  have hTo := hT
                  have numO9 : (h_87.2.1 q_54 0).toInt = cn0.toInt := ?o420
                  case o420 => rw [po_67]
                  have noO9 := hw_num_no nu_qc numO9
                  have cl_qc_7O9 := cl_qc_7
                  refine hx_puti hx hb hts hC_2 hown hW hT (hx_S.rf (M := [(2, 7)])) gq_54 tt_2 7 ?o421 rfl kw_742 ⟨rfl, rfl, rfl⟩ rfl (x := i4) ⟨?o422, ?o423⟩ rfl rfl rfl (List.mem_singleton.mpr rfl) dX9_file_118 (fun H locs h_90 eh_90 hW hT hs => ?_)
                  case o421 => decide
                  case o422 => omega
                  case o423 => omega
                  replace f_x_7 := (hs.o gx trivial rfl).2.trans f_x_7
                  replace f_x_10 := (hs.o gx trivial rfl).2.trans f_x_10
                  replace f_x_5 := (hs.o gx trivial rfl).2.trans f_x_5
                  replace f_x_4 := (hs.o gx trivial rfl).2.trans f_x_4
                  replace f_x_19 := (hs.o gx trivial rfl).2.trans f_x_19
                  replace f_x_12 := (hs.o gx trivial rfl).2.trans f_x_12
                  replace f_x_11 := (hs.o gx trivial rfl).1.trans f_x_11
                  replace f_x_8 := (hs.o gx trivial rfl).1.trans f_x_8
                  replace f_x_2 := (hs.o gx trivial rfl).1.trans f_x_2
                  replace f_x_6 := (hs.o gx trivial rfl).1.trans f_x_6
                  replace f_x_13 := (hs.o gx trivial rfl).1.trans f_x_13
                  replace fx_33 := (hs.o gq_26 trivial rfl).1.trans fx_33
                  replace po_67 := (hs.o gq_54 trivial rfl).1.trans po_67
                  replace po_68 := (hs.o gq_54 trivial rfl).1.trans po_68
                  replace po_69 := (hs.o gq_54 trivial rfl).1.trans po_69
                  replace po_70 := (hs.o gq_54 trivial rfl).1.trans po_70
                  replace po_71 := (hs.o gq_54 trivial rfl).1.trans po_71
                  replace po_72 := (hs.o gq_54 trivial rfl).1.trans po_72
                  replace po_73 := (hs.o gq_54 trivial rfl).1.trans po_73
                  replace po_74 := (hs.o gq_54 trivial rfl).1.trans po_74
                  replace po_75 := (hs.o gq_54 trivial rfl).1.trans po_75
                  replace po_76 := (hs.o gq_54 trivial rfl).1.trans po_76
                  replace po_77 := (hs.o gq_54 trivial rfl).1.trans po_77
                  replace po_78 := (hs.o gq_54 trivial rfl).2.trans po_78
                  replace po_79 := (hs.o gq_54 trivial rfl).2.trans po_79
                  replace po_80 := (hs.o gq_54 trivial rfl).2.trans po_80
                  replace fq_83 := (hs.o gq_54 trivial rfl).2.trans fq_83
                  replace fq_85 := (hs.o gq_54 trivial rfl).2.trans fq_85
                  replace f_88 := (hs.o gq_54 trivial rfl).1.trans f_88
                  replace pf_x_8 : ∀ j : Nat, (j : Int) < (h_90.2.1 x 8).toInt → h_90.2.2 qp j ≠ none := by
                    intro j hj; rw [(hs.o gx trivial rfl).1] at hj; rw [(hs.a gqp rfl j).2]; exact pf_x_8 j hj
                  replace pf_x_11 : ∀ j : Nat, (j : Int) < (h_90.2.1 x 11).toInt → h_90.2.2 qc j ≠ none := by
                    intro j hj; rw [(hs.o gx trivial rfl).1] at hj; rw [(hs.a gqc rfl j).2]; exact pf_x_11 j hj
                  replace pf_x_6 : ∀ j : Nat, (j : Int) < (h_90.2.1 x 6).toInt → h_90.2.2 qa j ≠ none := by
                    intro j hj; rw [(hs.o gx trivial rfl).1] at hj; rw [(hs.a gqa rfl j).2]; exact pf_x_6 j hj
                  replace cl_qp_7 : hx_col 40 h_90 qp 7 = df := (hx_col_S hs hTo gqp tt_44 tt_4 rfl rfl).trans cl_qp_7
                  replace cl_qc_10 : hx_col 100 h_90 qc 10 = ff := (hx_col_S hs hTo gqc tt_45 tt_2 rfl rfl).trans cl_qc_10
                  replace cl_qc_9 : hx_col 100 h_90 qc 9 = tf := (hx_col_S hs hTo gqc tt_45 tt_2 rfl rfl).trans cl_qc_9
                  replace cl_qc_8 : hx_col 100 h_90 qc 8 = flf := (hx_col_S hs hTo gqc tt_45 tt_2 rfl rfl).trans cl_qc_8
                  replace cl_qc_11 : hx_col 100 h_90 qc 11 = hrf := (hx_col_S hs hTo gqc tt_45 tt_2 rfl rfl).trans cl_qc_11
                  replace cl_qc_12 : hx_col 100 h_90 qc 12 = udf := (hx_col_S hs hTo gqc tt_45 tt_2 rfl rfl).trans cl_qc_12
                  replace cl_qc_13 : hx_col 100 h_90 qc 13 = odf := (hx_col_S hs hTo gqc tt_45 tt_2 rfl rfl).trans cl_qc_13
                  replace cl_qc_14 : hx_col 100 h_90 qc 14 = wkf := (hx_col_S hs hTo gqc tt_45 tt_2 rfl rfl).trans cl_qc_14
                  replace cl_qc_15 : hx_col 100 h_90 qc 15 = owf := (hx_col_S hs hTo gqc tt_45 tt_2 rfl rfl).trans cl_qc_15
                  replace cl_qc_16 : hx_col 100 h_90 qc 16 = szf := (hx_col_S hs hTo gqc tt_45 tt_2 rfl rfl).trans cl_qc_16
                  replace cl_qc_17 : hx_col 100 h_90 qc 17 = gdf := (hx_col_S hs hTo gqc tt_45 tt_2 rfl rfl).trans cl_qc_17
                  replace cl_qc_18 : hx_col 100 h_90 qc 18 = svf := (hx_col_S hs hTo gqc tt_45 tt_2 rfl rfl).trans cl_qc_18
                  replace nc_89 : hx_col 100 h_90 qc 6 = smf := (hx_col_S hs hTo gqc tt_45 tt_2 rfl rfl).trans nc_89
                  replace nu_qc : hx_num 100 h_90 qc 0 (cn0.toInt) := hx_num_S hs hTo gqc tt_45 tt_2 rfl rfl nu_qc
                  replace sb_ql_qc : hx_LQ 8 100 h_90 ql qc := hx_LQ_S hs (gql.S hM) gqc rfl rfl sb_ql_qc
                  replace hDF : hw_DF h_90 qc qp 2 agf cn0.toInt := hw_DF_S hs hTo gqc gqp tt_45 tt_2 rfl rfl rfl hDF
                  replace hDP : hw_DF h_90 qc qp 1 byf cn0.toInt := hw_DF_S hs hTo gqc gqp tt_45 tt_2 rfl rfl rfl hDP
                  replace hRA : hv_RA h_90 qa w a0.toInt A := hv_RA_S hs hTo gqa gw tt_43 tt_0 rfl rfl rfl rfl rfl rfl ?o424 hRA
                  case o424 => omega
                  replace hAC : hv_AC h_90 qc plf cn0.toInt A := hv_AC_S hs hTo gqc tt_45 tt_2 rfl tt_0 rfl rfl rfl rfl rfl rfl rfl hAC
                  replace hFX : hv_FX 8 4 h_90 qc cF cn0.toInt := hv_FX_S hs hTo gqc tt_45 tt_2 rfl rfl rfl rfl hFX
                  replace hBX : hv_FX 3 5 h_90 qc bF cn0.toInt := hv_FX_S hs hTo gqc tt_45 tt_2 rfl rfl rfl rfl hBX
                  replace hHL : hv_HL h_90 qh qc hof m0.toInt cn0.toInt := hv_HL_S hs gqh gqc rfl rfl hHL
                  replace kk_62Q : hv_AQ h_90 q_61 (((kk_62 : Nat) : Int) - 1) (A kk_62) := hv_AQ_S hs hTo gq_61 tt_0 rfl rfl rfl rfl rfl kk_62Q
                  replace hNF4 : hv_NF 4 h_90 qc q_83 cn0.toInt := hv_NF_S hs hTo gqc tt_45 tt_2 rfl rfl hNF4
                  replace hNF5 : hv_NF 5 h_90 qc q_85 cn0.toInt := hv_NF_S hs hTo gqc tt_45 tt_2 rfl rfl hNF5
                  replace fo_20 := (hs.a gqp rfl _).2.trans fo_20
                  replace fo_30 := (hs.a gqp rfl _).2.trans fo_30
                  replace nfw_84 : h_90.2.1 q_83 = fw_84 := (funext fun j => (hs.a gq_83 rfl j).1).trans nfw_84
                  replace nfw_86 : h_90.2.1 q_85 = fw_86 := (funext fun j => (hs.a gq_85 rfl j).1).trans nfw_86
                  replace hM := hM.tr (hs.mono ?o425)
                  case o425 => decide
                  replace gx := gx.S hs
                  replace gqp := gqp.S hs
                  replace gqc := gqc.S hs
                  replace gqa := gqa.S hs
                  replace gw := gw.S hs
                  replace gqh := gqh.S hs
                  replace gq_6 := gq_6.S hs
                  replace gq_26 := gq_26.S hs
                  replace gq_61 := gq_61.S hs
                  replace gq_54 := gq_54.S hs
                  replace gq_83 := gq_83.S hs
                  replace gq_85 := gq_85.S hs
                  have f_91 : h_90.2.1 q_54 7 = i4 := ?o426
                  case o426 =>
                    rw [eh_90]
                    exact hx_pi_at _ _ _ _
                  have nc_92 : hx_col 100 h_90 qc 7 = frf := hw_col_k (h := h_87) (fun a9 k9 ne => by rw [eh_90]; exact hx_pi_ne _ _ (fun z => ne z.1)) (fun j => (congrArg (fun z : hx_h => z.2.2 qc j) eh_90).trans rfl) noO9 cl_qc_7O9
                  refine lv_aload hx hb dX9_file_121 (lv_at hl 0 rfl) ?_
                  refine lv_aload_n hx hb dX9_file_123 rfl (lv_at hl 3 rfl) ?_
                  refine hk_geti hx hb hts hC_9 hown hW gx tt_9 2 ?o427 rfl kw_366 ⟨rfl, rfl, rfl⟩ f_x_2 dX9_file_124 ?_
                  case o427 => decide
                  have hTo := hT
                  have numO9 : (h_90.2.1 q_54 0).toInt = cn0.toInt := ?o428
                  case o428 => rw [po_67]
                  have noO9 := hw_num_no nu_qc numO9
                  have cl_qc_8O9 := cl_qc_8
                  refine hx_puti hx hb hts hC_2 hown hW hT (hx_S.rf (M := [(2, 8)])) gq_54 tt_2 8 ?o429 rfl kw_743 ⟨rfl, rfl, rfl⟩ rfl (x := nw0) ⟨?o430, ?o431⟩ rfl rfl rfl (List.mem_singleton.mpr rfl) dX9_file_127 (fun H locs h_93 eh_93 hW hT hs => ?_)
                  case o429 => decide
                  case o430 => omega
                  case o431 => omega
                  replace f_x_7 := (hs.o gx trivial rfl).2.trans f_x_7
                  replace f_x_10 := (hs.o gx trivial rfl).2.trans f_x_10
                  replace f_x_5 := (hs.o gx trivial rfl).2.trans f_x_5
                  replace f_x_4 := (hs.o gx trivial rfl).2.trans f_x_4
                  replace f_x_19 := (hs.o gx trivial rfl).2.trans f_x_19
                  replace f_x_12 := (hs.o gx trivial rfl).2.trans f_x_12
                  replace f_x_11 := (hs.o gx trivial rfl).1.trans f_x_11
                  replace f_x_8 := (hs.o gx trivial rfl).1.trans f_x_8
                  replace f_x_2 := (hs.o gx trivial rfl).1.trans f_x_2
                  replace f_x_6 := (hs.o gx trivial rfl).1.trans f_x_6
                  replace f_x_13 := (hs.o gx trivial rfl).1.trans f_x_13
                  replace fx_33 := (hs.o gq_26 trivial rfl).1.trans fx_33
                  replace po_67 := (hs.o gq_54 trivial rfl).1.trans po_67
                  replace po_68 := (hs.o gq_54 trivial rfl).1.trans po_68
                  replace po_69 := (hs.o gq_54 trivial rfl).1.trans po_69
                  replace po_70 := (hs.o gq_54 trivial rfl).1.trans po_70
                  replace po_71 := (hs.o gq_54 trivial rfl).1.trans po_71
                  replace po_72 := (hs.o gq_54 trivial rfl).1.trans po_72
                  replace po_73 := (hs.o gq_54 trivial rfl).1.trans po_73
                  replace po_74 := (hs.o gq_54 trivial rfl).1.trans po_74
                  replace po_75 := (hs.o gq_54 trivial rfl).1.trans po_75
                  replace po_76 := (hs.o gq_54 trivial rfl).1.trans po_76
                  replace po_77 := (hs.o gq_54 trivial rfl).1.trans po_77
                  replace po_78 := (hs.o gq_54 trivial rfl).2.trans po_78
                  replace po_79 := (hs.o gq_54 trivial rfl).2.trans po_79
                  replace po_80 := (hs.o gq_54 trivial rfl).2.trans po_80
                  replace fq_83 := (hs.o gq_54 trivial rfl).2.trans fq_83
                  replace fq_85 := (hs.o gq_54 trivial rfl).2.trans fq_85
                  replace f_88 := (hs.o gq_54 trivial rfl).1.trans f_88
                  replace f_91 := (hs.o gq_54 trivial rfl).1.trans f_91
                  replace pf_x_8 : ∀ j : Nat, (j : Int) < (h_93.2.1 x 8).toInt → h_93.2.2 qp j ≠ none := by
                    intro j hj; rw [(hs.o gx trivial rfl).1] at hj; rw [(hs.a gqp rfl j).2]; exact pf_x_8 j hj
                  replace pf_x_11 : ∀ j : Nat, (j : Int) < (h_93.2.1 x 11).toInt → h_93.2.2 qc j ≠ none := by
                    intro j hj; rw [(hs.o gx trivial rfl).1] at hj; rw [(hs.a gqc rfl j).2]; exact pf_x_11 j hj
                  replace pf_x_6 : ∀ j : Nat, (j : Int) < (h_93.2.1 x 6).toInt → h_93.2.2 qa j ≠ none := by
                    intro j hj; rw [(hs.o gx trivial rfl).1] at hj; rw [(hs.a gqa rfl j).2]; exact pf_x_6 j hj
                  replace cl_qp_7 : hx_col 40 h_93 qp 7 = df := (hx_col_S hs hTo gqp tt_44 tt_4 rfl rfl).trans cl_qp_7
                  replace cl_qc_10 : hx_col 100 h_93 qc 10 = ff := (hx_col_S hs hTo gqc tt_45 tt_2 rfl rfl).trans cl_qc_10
                  replace cl_qc_9 : hx_col 100 h_93 qc 9 = tf := (hx_col_S hs hTo gqc tt_45 tt_2 rfl rfl).trans cl_qc_9
                  replace cl_qc_11 : hx_col 100 h_93 qc 11 = hrf := (hx_col_S hs hTo gqc tt_45 tt_2 rfl rfl).trans cl_qc_11
                  replace cl_qc_12 : hx_col 100 h_93 qc 12 = udf := (hx_col_S hs hTo gqc tt_45 tt_2 rfl rfl).trans cl_qc_12
                  replace cl_qc_13 : hx_col 100 h_93 qc 13 = odf := (hx_col_S hs hTo gqc tt_45 tt_2 rfl rfl).trans cl_qc_13
                  replace cl_qc_14 : hx_col 100 h_93 qc 14 = wkf := (hx_col_S hs hTo gqc tt_45 tt_2 rfl rfl).trans cl_qc_14
                  replace cl_qc_15 : hx_col 100 h_93 qc 15 = owf := (hx_col_S hs hTo gqc tt_45 tt_2 rfl rfl).trans cl_qc_15
                  replace cl_qc_16 : hx_col 100 h_93 qc 16 = szf := (hx_col_S hs hTo gqc tt_45 tt_2 rfl rfl).trans cl_qc_16
                  replace cl_qc_17 : hx_col 100 h_93 qc 17 = gdf := (hx_col_S hs hTo gqc tt_45 tt_2 rfl rfl).trans cl_qc_17
                  replace cl_qc_18 : hx_col 100 h_93 qc 18 = svf := (hx_col_S hs hTo gqc tt_45 tt_2 rfl rfl).trans cl_qc_18
                  replace nc_89 : hx_col 100 h_93 qc 6 = smf := (hx_col_S hs hTo gqc tt_45 tt_2 rfl rfl).trans nc_89
                  replace nc_92 : hx_col 100 h_93 qc 7 = frf := (hx_col_S hs hTo gqc tt_45 tt_2 rfl rfl).trans nc_92
                  replace nu_qc : hx_num 100 h_93 qc 0 (cn0.toInt) := hx_num_S hs hTo gqc tt_45 tt_2 rfl rfl nu_qc
                  replace sb_ql_qc : hx_LQ 8 100 h_93 ql qc := hx_LQ_S hs (gql.S hM) gqc rfl rfl sb_ql_qc
                  replace hDF : hw_DF h_93 qc qp 2 agf cn0.toInt := hw_DF_S hs hTo gqc gqp tt_45 tt_2 rfl rfl rfl hDF
                  replace hDP : hw_DF h_93 qc qp 1 byf cn0.toInt := hw_DF_S hs hTo gqc gqp tt_45 tt_2 rfl rfl rfl hDP
                  replace hRA : hv_RA h_93 qa w a0.toInt A := hv_RA_S hs hTo gqa gw tt_43 tt_0 rfl rfl rfl rfl rfl rfl ?o432 hRA
                  case o432 => omega
                  replace hAC : hv_AC h_93 qc plf cn0.toInt A := hv_AC_S hs hTo gqc tt_45 tt_2 rfl tt_0 rfl rfl rfl rfl rfl rfl rfl hAC
                  replace hFX : hv_FX 8 4 h_93 qc cF cn0.toInt := hv_FX_S hs hTo gqc tt_45 tt_2 rfl rfl rfl rfl hFX
                  replace hBX : hv_FX 3 5 h_93 qc bF cn0.toInt := hv_FX_S hs hTo gqc tt_45 tt_2 rfl rfl rfl rfl hBX
                  replace hHL : hv_HL h_93 qh qc hof m0.toInt cn0.toInt := hv_HL_S hs gqh gqc rfl rfl hHL
                  replace kk_62Q : hv_AQ h_93 q_61 (((kk_62 : Nat) : Int) - 1) (A kk_62) := hv_AQ_S hs hTo gq_61 tt_0 rfl rfl rfl rfl rfl kk_62Q
                  replace hNF4 : hv_NF 4 h_93 qc q_83 cn0.toInt := hv_NF_S hs hTo gqc tt_45 tt_2 rfl rfl hNF4
                  replace hNF5 : hv_NF 5 h_93 qc q_85 cn0.toInt := hv_NF_S hs hTo gqc tt_45 tt_2 rfl rfl hNF5
                  replace fo_20 := (hs.a gqp rfl _).2.trans fo_20
                  replace fo_30 := (hs.a gqp rfl _).2.trans fo_30
                  replace nfw_84 : h_93.2.1 q_83 = fw_84 := (funext fun j => (hs.a gq_83 rfl j).1).trans nfw_84
                  replace nfw_86 : h_93.2.1 q_85 = fw_86 := (funext fun j => (hs.a gq_85 rfl j).1).trans nfw_86
                  replace hM := hM.tr (hs.mono ?o433)
                  case o433 => decide
                  replace gx := gx.S hs
                  replace gqp := gqp.S hs
                  replace gqc := gqc.S hs
                  replace gqa := gqa.S hs
                  replace gw := gw.S hs
                  replace gqh := gqh.S hs
                  replace gq_6 := gq_6.S hs
                  replace gq_26 := gq_26.S hs
                  replace gq_61 := gq_61.S hs
                  replace gq_54 := gq_54.S hs
                  replace gq_83 := gq_83.S hs
                  replace gq_85 := gq_85.S hs
                  have f_94 : h_93.2.1 q_54 8 = nw0 := ?o434
                  case o434 =>
                    rw [eh_93]
                    exact hx_pi_at _ _ _ _
                  have nc_95 : hx_col 100 h_93 qc 8 = flf := hw_col_k (h := h_90) (fun a9 k9 ne => by rw [eh_93]; exact hx_pi_ne _ _ (fun z => ne z.1)) (fun j => (congrArg (fun z : hx_h => z.2.2 qc j) eh_93).trans rfl) noO9 cl_qc_8O9
                  refine lv_aload hx hb dX9_file_130 (lv_at hl 0 rfl) ?_
                  refine hk_getr hx hb hts hC_2 hown hW gq_54 tt_2 4 ?o435 rfl kw_738 ⟨rfl, rfl, rfl⟩ fq_83 dX9_file_132 ?_
                  case o435 => decide
                  refine lv_iconst (v := 2) hx hb dX9_file_135 ?o436 ?_
                  case o436 => decide
                  refine lv_iload hx hb dX9_file_136 (lv_at hl 8 rfl) ?_
                  have jn_146 : ∀ (xj_96 : Int32) (ls : Array Slot), 0 ≤ xj_96.toInt → xj_96.toInt ≤ 1 → xj_96.toInt = i5.toInt → lv_has ls 10 [(9, .ref q_54), (8, .ref q_26), (7, .ref q_6), (0, .ref x), (1, .int i1), (2, .int i2), (3, .int i3), (4, .int i4), (5, .int i5), (6, .int i6)] → W p l e ({ frames := 2, cells := 3, slots := 30, locals := 36 }) s m ([.ref x, .int i1, .int i2, .int i3, .int i4, .int i5, .int i6] : List Value).toArray below meth c H locs 3 30 (MQ below (va_Qi (fun (r : Int32) (u : List Nat × hx_h) => (∃ (cn1 : Int32) (ff1 : Nat → Int32) (tf1 : Nat → Int32) (smf1 : Nat → Int32) (frf1 : Nat → Int32) (flf1 : Nat → Int32) (hrf1 : Nat → Int32) (udf1 : Nat → Int32) (odf1 : Nat → Int32) (wkf1 : Nat → Int32) (owf1 : Nat → Int32) (szf1 : Nat → Int32) (gdf1 : Nat → Int32) (svf1 : Nat → Int32), u.2.2.1 x 11 = cn1 ∧ hx_col 100 u.2 qc 10 = ff1 ∧ hx_col 100 u.2 qc 9 = tf1 ∧ hx_col 100 u.2 qc 6 = smf1 ∧ hx_col 100 u.2 qc 7 = frf1 ∧ hx_col 100 u.2 qc 8 = flf1 ∧ hx_col 100 u.2 qc 11 = hrf1 ∧ hx_col 100 u.2 qc 12 = udf1 ∧ hx_col 100 u.2 qc 13 = odf1 ∧ hx_col 100 u.2 qc 14 = wkf1 ∧ hx_col 100 u.2 qc 15 = owf1 ∧ hx_col 100 u.2 qc 16 = szf1 ∧ hx_col 100 u.2 qc 17 = gdf1 ∧ hx_col 100 u.2 qc 18 = svf1 ∧ ((hx_num 100 u.2 qc 0 (cn1.toInt)) ∧ ((hx_LQ 8 100 u.2 ql qc) ∧ (((hx_FS cn0.toInt pn0.toInt nw0.toInt i1.toInt i2.toInt i3.toInt i4.toInt i6.toInt df r.toInt cn1.toInt) ∧ hx_CD cn0.toInt r.toInt (-1) ff ff1 ∧ hx_CD cn0.toInt r.toInt 0 tf tf1 ∧ hx_CD cn0.toInt r.toInt i3 smf smf1 ∧ hx_CD cn0.toInt r.toInt i4 frf frf1 ∧ hx_CD cn0.toInt r.toInt nw0 flf flf1 ∧ hx_CD cn0.toInt r.toInt (-1) hrf hrf1 ∧ hx_CD cn0.toInt r.toInt 0 udf udf1 ∧ (∃ agf1 byf1 plf1 cF1 bF1 : Nat → Int32, ∃ pv : Int32, hw_UP r.toInt cn0.toInt i2 agf agf1 ∧ hw_UP r.toInt cn0.toInt i1 byf byf1 ∧ (pv.toInt = ((hv_IF A nw0.toInt a0.toInt.toNat : Nat) : Int) ∧ hw_UP r.toInt cn0.toInt pv plf plf1) ∧ hv_FU r.toInt cn0.toInt i5 i6 i3 cF cF1 ∧ hv_BU r.toInt cn0.toInt bF bF1 ∧ hw_DF u.2 qc qp 2 agf1 cn1.toInt ∧ hw_DF u.2 qc qp 1 byf1 cn1.toInt ∧ hv_AC u.2 qc plf1 cn1.toInt A ∧ hv_FX 8 4 u.2 qc cF1 cn1.toInt ∧ hv_FX 3 5 u.2 qc bF1 cn1.toInt ∧ hv_HL u.2 qh qc hof m0.toInt cn1.toInt)) ∧ (hx_CD cn0.toInt r.toInt (-1) odf odf1 ∧ hx_CD cn0.toInt r.toInt 0 wkf wkf1 ∧ hx_CD cn0.toInt r.toInt 0 owf owf1 ∧ hx_CD cn0.toInt r.toInt (-1) szf szf1 ∧ hx_CD cn0.toInt r.toInt 0 gdf gdf1 ∧ hx_CD cn0.toInt r.toInt (-1) svf svf1))))) ∧ hx_T T_tb u.1 u.2 ∧ hx_S T_tb [(2, 6), (2, 7), (2, 8), (9, 11), (20, 0), (45, 0), (118, 0), (118, 1), (118, 2), (118, 3), (118, 4), (118, 5), (118, 10), (118, 11), (118, 13), (118, 16), (118, 18)] L h u.1 u.2 ∧ (∀ j : Nat, (j : Int) < (u.2.2.1 x 11).toInt → u.2.2.2 qc j ≠ none)) (hx_E T_tb (P_ty dA) (dC, dI) vwCl (hx_A L sz)) (hx_A L sz)) ([.ref x, .int i1, .int i2, .int i3, .int i4, .int i5, .int i6] : List Value).toArray s 3 30 (hx_A L sz)) (F0 m 146 ls [.int xj_96, .int (2 : Int32), .ref q_83]) := by
                    intro xj_96 ls blxj_96 buxj_96 jcxj_96 hl
                    obtain rfl : i5 = xj_96 := Int32.toInt_inj.mp (by omega)
                    have hFXO9 := hFX
                    have hNFO9 := hNF4
                    have hTo := hT
                    have nfw_84O := nfw_84
                    have hTo := hT
                    refine hx_iast hx hb hW hT (hx_S.rf (M := [(20, 0)])) gq_83 tt_20 rfl ?o437 rfl (i32_r _) (List.mem_singleton.mpr rfl) dX9_file_146 (fun H locs h_97 eh_97 hW hT hs => ?_)
                    case o437 => decide
                    replace f_x_7 := (hs.o gx trivial rfl).2.trans f_x_7
                    replace f_x_10 := (hs.o gx trivial rfl).2.trans f_x_10
                    replace f_x_5 := (hs.o gx trivial rfl).2.trans f_x_5
                    replace f_x_4 := (hs.o gx trivial rfl).2.trans f_x_4
                    replace f_x_19 := (hs.o gx trivial rfl).2.trans f_x_19
                    replace f_x_12 := (hs.o gx trivial rfl).2.trans f_x_12
                    replace f_x_11 := (hs.o gx trivial rfl).1.trans f_x_11
                    replace f_x_8 := (hs.o gx trivial rfl).1.trans f_x_8
                    replace f_x_2 := (hs.o gx trivial rfl).1.trans f_x_2
                    replace f_x_6 := (hs.o gx trivial rfl).1.trans f_x_6
                    replace f_x_13 := (hs.o gx trivial rfl).1.trans f_x_13
                    replace fx_33 := (hs.o gq_26 trivial rfl).1.trans fx_33
                    replace po_67 := (hs.o gq_54 trivial rfl).1.trans po_67
                    replace po_68 := (hs.o gq_54 trivial rfl).1.trans po_68
                    replace po_69 := (hs.o gq_54 trivial rfl).1.trans po_69
                    replace po_70 := (hs.o gq_54 trivial rfl).1.trans po_70
                    replace po_71 := (hs.o gq_54 trivial rfl).1.trans po_71
                    replace po_72 := (hs.o gq_54 trivial rfl).1.trans po_72
                    replace po_73 := (hs.o gq_54 trivial rfl).1.trans po_73
                    replace po_74 := (hs.o gq_54 trivial rfl).1.trans po_74
                    replace po_75 := (hs.o gq_54 trivial rfl).1.trans po_75
                    replace po_76 := (hs.o gq_54 trivial rfl).1.trans po_76
                    replace po_77 := (hs.o gq_54 trivial rfl).1.trans po_77
                    replace po_78 := (hs.o gq_54 trivial rfl).2.trans po_78
                    replace po_79 := (hs.o gq_54 trivial rfl).2.trans po_79
                    replace po_80 := (hs.o gq_54 trivial rfl).2.trans po_80
                    replace fq_83 := (hs.o gq_54 trivial rfl).2.trans fq_83
                    replace fq_85 := (hs.o gq_54 trivial rfl).2.trans fq_85
                    replace f_88 := (hs.o gq_54 trivial rfl).1.trans f_88
                    replace f_91 := (hs.o gq_54 trivial rfl).1.trans f_91
                    replace f_94 := (hs.o gq_54 trivial rfl).1.trans f_94
                    replace pf_x_8 : ∀ j : Nat, (j : Int) < (h_97.2.1 x 8).toInt → h_97.2.2 qp j ≠ none := by
                      intro j hj; rw [(hs.o gx trivial rfl).1] at hj; rw [(hs.a gqp rfl j).2]; exact pf_x_8 j hj
                    replace pf_x_11 : ∀ j : Nat, (j : Int) < (h_97.2.1 x 11).toInt → h_97.2.2 qc j ≠ none := by
                      intro j hj; rw [(hs.o gx trivial rfl).1] at hj; rw [(hs.a gqc rfl j).2]; exact pf_x_11 j hj
                    replace pf_x_6 : ∀ j : Nat, (j : Int) < (h_97.2.1 x 6).toInt → h_97.2.2 qa j ≠ none := by
                      intro j hj; rw [(hs.o gx trivial rfl).1] at hj; rw [(hs.a gqa rfl j).2]; exact pf_x_6 j hj
                    replace cl_qp_7 : hx_col 40 h_97 qp 7 = df := (hx_col_S hs hTo gqp tt_44 tt_4 rfl rfl).trans cl_qp_7
                    replace cl_qc_10 : hx_col 100 h_97 qc 10 = ff := (hx_col_S hs hTo gqc tt_45 tt_2 rfl rfl).trans cl_qc_10
                    replace cl_qc_9 : hx_col 100 h_97 qc 9 = tf := (hx_col_S hs hTo gqc tt_45 tt_2 rfl rfl).trans cl_qc_9
                    replace cl_qc_11 : hx_col 100 h_97 qc 11 = hrf := (hx_col_S hs hTo gqc tt_45 tt_2 rfl rfl).trans cl_qc_11
                    replace cl_qc_12 : hx_col 100 h_97 qc 12 = udf := (hx_col_S hs hTo gqc tt_45 tt_2 rfl rfl).trans cl_qc_12
                    replace cl_qc_13 : hx_col 100 h_97 qc 13 = odf := (hx_col_S hs hTo gqc tt_45 tt_2 rfl rfl).trans cl_qc_13
                    replace cl_qc_14 : hx_col 100 h_97 qc 14 = wkf := (hx_col_S hs hTo gqc tt_45 tt_2 rfl rfl).trans cl_qc_14
                    replace cl_qc_15 : hx_col 100 h_97 qc 15 = owf := (hx_col_S hs hTo gqc tt_45 tt_2 rfl rfl).trans cl_qc_15
                    replace cl_qc_16 : hx_col 100 h_97 qc 16 = szf := (hx_col_S hs hTo gqc tt_45 tt_2 rfl rfl).trans cl_qc_16
                    replace cl_qc_17 : hx_col 100 h_97 qc 17 = gdf := (hx_col_S hs hTo gqc tt_45 tt_2 rfl rfl).trans cl_qc_17
                    replace cl_qc_18 : hx_col 100 h_97 qc 18 = svf := (hx_col_S hs hTo gqc tt_45 tt_2 rfl rfl).trans cl_qc_18
                    replace nc_89 : hx_col 100 h_97 qc 6 = smf := (hx_col_S hs hTo gqc tt_45 tt_2 rfl rfl).trans nc_89
                    replace nc_92 : hx_col 100 h_97 qc 7 = frf := (hx_col_S hs hTo gqc tt_45 tt_2 rfl rfl).trans nc_92
                    replace nc_95 : hx_col 100 h_97 qc 8 = flf := (hx_col_S hs hTo gqc tt_45 tt_2 rfl rfl).trans nc_95
                    replace nu_qc : hx_num 100 h_97 qc 0 (cn0.toInt) := hx_num_S hs hTo gqc tt_45 tt_2 rfl rfl nu_qc
                    replace sb_ql_qc : hx_LQ 8 100 h_97 ql qc := hx_LQ_S hs (gql.S hM) gqc rfl rfl sb_ql_qc
                    replace hDF : hw_DF h_97 qc qp 2 agf cn0.toInt := hw_DF_S hs hTo gqc gqp tt_45 tt_2 rfl rfl rfl hDF
                    replace hDP : hw_DF h_97 qc qp 1 byf cn0.toInt := hw_DF_S hs hTo gqc gqp tt_45 tt_2 rfl rfl rfl hDP
                    replace hRA : hv_RA h_97 qa w a0.toInt A := hv_RA_S hs hTo gqa gw tt_43 tt_0 rfl rfl rfl rfl rfl rfl ?o438 hRA
                    case o438 => omega
                    replace hAC : hv_AC h_97 qc plf cn0.toInt A := hv_AC_S hs hTo gqc tt_45 tt_2 rfl tt_0 rfl rfl rfl rfl rfl rfl rfl hAC
                    replace hBX : hv_FX 3 5 h_97 qc bF cn0.toInt := hv_FX_S hs hTo gqc tt_45 tt_2 rfl rfl rfl rfl hBX
                    replace hHL : hv_HL h_97 qh qc hof m0.toInt cn0.toInt := hv_HL_S hs gqh gqc rfl rfl hHL
                    replace kk_62Q : hv_AQ h_97 q_61 (((kk_62 : Nat) : Int) - 1) (A kk_62) := hv_AQ_S hs hTo gq_61 tt_0 rfl rfl rfl rfl rfl kk_62Q
                    replace hNF4 : hv_NF 4 h_97 qc q_83 cn0.toInt := hv_NF_S hs hTo gqc tt_45 tt_2 rfl rfl hNF4
                    replace hNF5 : hv_NF 5 h_97 qc q_85 cn0.toInt := hv_NF_S hs hTo gqc tt_45 tt_2 rfl rfl hNF5
                    replace fo_20 := (hs.a gqp rfl _).2.trans fo_20
                    replace fo_30 := (hs.a gqp rfl _).2.trans fo_30
                    replace nfw_86 : h_97.2.1 q_85 = fw_86 := (funext fun j => (hs.a gq_85 rfl j).1).trans nfw_86
                    replace hM := hM.tr (hs.mono ?o439)
                    case o439 => decide
                    replace gx := gx.S hs
                    replace gqp := gqp.S hs
                    replace gqc := gqc.S hs
                    replace gqa := gqa.S hs
                    replace gw := gw.S hs
                    replace gqh := gqh.S hs
                    replace gq_6 := gq_6.S hs
                    replace gq_26 := gq_26.S hs
                    replace gq_61 := gq_61.S hs
                    replace gq_54 := gq_54.S hs
                    replace gq_83 := gq_83.S hs
                    replace gq_85 := gq_85.S hs
                    obtain ⟨fa_98, dfa_98⟩ : ∃ g : Nat → Int32, g = hx_up fw_84 (2 : Int32).toNatClampNeg i5 := ⟨_, rfl⟩
                    have nfa_98 : h_97.2.1 q_83 = fa_98 := ?o440
                    case o440 =>
                      rw [eh_97, dfa_98, ← nfw_84O]
                      exact hx_pi_fun _ _ _ _
                    have hFX_99 : hv_FX 8 4 h_97 qc cF cn0.toInt := hv_FX_o hFXO9 hNFO9 eh_97
                    refine lv_aload hx hb dX9_file_147 (lv_at hl 0 rfl) ?_
                    refine hk_getr hx hb hts hC_2 hown hW gq_54 tt_2 4 ?o441 rfl kw_738 ⟨rfl, rfl, rfl⟩ fq_83 dX9_file_149 ?_
                    case o441 => decide
                    refine lv_iconst (v := 3) hx hb dX9_file_152 ?o442 ?_
                    case o442 => decide
                    refine lv_iload hx hb dX9_file_153 (lv_at hl 9 rfl) ?_
                    have hFXO9 := hFX_99
                    have hNFO9 := hNF4
                    have hTo := hT
                    have nfa_98O := nfa_98
                    have hTo := hT
                    refine hx_iast hx hb hW hT (hx_S.rf (M := [(20, 0)])) gq_83 tt_20 rfl ?o443 rfl (i32_r _) (List.mem_singleton.mpr rfl) dX9_file_155 (fun H locs h_100 eh_100 hW hT hs => ?_)
                    case o443 => decide
                    replace f_x_7 := (hs.o gx trivial rfl).2.trans f_x_7
                    replace f_x_10 := (hs.o gx trivial rfl).2.trans f_x_10
                    replace f_x_5 := (hs.o gx trivial rfl).2.trans f_x_5
                    replace f_x_4 := (hs.o gx trivial rfl).2.trans f_x_4
                    replace f_x_19 := (hs.o gx trivial rfl).2.trans f_x_19
                    replace f_x_12 := (hs.o gx trivial rfl).2.trans f_x_12
                    replace f_x_11 := (hs.o gx trivial rfl).1.trans f_x_11
                    replace f_x_8 := (hs.o gx trivial rfl).1.trans f_x_8
                    replace f_x_2 := (hs.o gx trivial rfl).1.trans f_x_2
                    replace f_x_6 := (hs.o gx trivial rfl).1.trans f_x_6
                    replace f_x_13 := (hs.o gx trivial rfl).1.trans f_x_13
                    replace fx_33 := (hs.o gq_26 trivial rfl).1.trans fx_33
                    replace po_67 := (hs.o gq_54 trivial rfl).1.trans po_67
                    replace po_68 := (hs.o gq_54 trivial rfl).1.trans po_68
                    replace po_69 := (hs.o gq_54 trivial rfl).1.trans po_69
                    replace po_70 := (hs.o gq_54 trivial rfl).1.trans po_70
                    replace po_71 := (hs.o gq_54 trivial rfl).1.trans po_71
                    replace po_72 := (hs.o gq_54 trivial rfl).1.trans po_72
                    replace po_73 := (hs.o gq_54 trivial rfl).1.trans po_73
                    replace po_74 := (hs.o gq_54 trivial rfl).1.trans po_74
                    replace po_75 := (hs.o gq_54 trivial rfl).1.trans po_75
                    replace po_76 := (hs.o gq_54 trivial rfl).1.trans po_76
                    replace po_77 := (hs.o gq_54 trivial rfl).1.trans po_77
                    replace po_78 := (hs.o gq_54 trivial rfl).2.trans po_78
                    replace po_79 := (hs.o gq_54 trivial rfl).2.trans po_79
                    replace po_80 := (hs.o gq_54 trivial rfl).2.trans po_80
                    replace fq_83 := (hs.o gq_54 trivial rfl).2.trans fq_83
                    replace fq_85 := (hs.o gq_54 trivial rfl).2.trans fq_85
                    replace f_88 := (hs.o gq_54 trivial rfl).1.trans f_88
                    replace f_91 := (hs.o gq_54 trivial rfl).1.trans f_91
                    replace f_94 := (hs.o gq_54 trivial rfl).1.trans f_94
                    replace pf_x_8 : ∀ j : Nat, (j : Int) < (h_100.2.1 x 8).toInt → h_100.2.2 qp j ≠ none := by
                      intro j hj; rw [(hs.o gx trivial rfl).1] at hj; rw [(hs.a gqp rfl j).2]; exact pf_x_8 j hj
                    replace pf_x_11 : ∀ j : Nat, (j : Int) < (h_100.2.1 x 11).toInt → h_100.2.2 qc j ≠ none := by
                      intro j hj; rw [(hs.o gx trivial rfl).1] at hj; rw [(hs.a gqc rfl j).2]; exact pf_x_11 j hj
                    replace pf_x_6 : ∀ j : Nat, (j : Int) < (h_100.2.1 x 6).toInt → h_100.2.2 qa j ≠ none := by
                      intro j hj; rw [(hs.o gx trivial rfl).1] at hj; rw [(hs.a gqa rfl j).2]; exact pf_x_6 j hj
                    replace cl_qp_7 : hx_col 40 h_100 qp 7 = df := (hx_col_S hs hTo gqp tt_44 tt_4 rfl rfl).trans cl_qp_7
                    replace cl_qc_10 : hx_col 100 h_100 qc 10 = ff := (hx_col_S hs hTo gqc tt_45 tt_2 rfl rfl).trans cl_qc_10
                    replace cl_qc_9 : hx_col 100 h_100 qc 9 = tf := (hx_col_S hs hTo gqc tt_45 tt_2 rfl rfl).trans cl_qc_9
                    replace cl_qc_11 : hx_col 100 h_100 qc 11 = hrf := (hx_col_S hs hTo gqc tt_45 tt_2 rfl rfl).trans cl_qc_11
                    replace cl_qc_12 : hx_col 100 h_100 qc 12 = udf := (hx_col_S hs hTo gqc tt_45 tt_2 rfl rfl).trans cl_qc_12
                    replace cl_qc_13 : hx_col 100 h_100 qc 13 = odf := (hx_col_S hs hTo gqc tt_45 tt_2 rfl rfl).trans cl_qc_13
                    replace cl_qc_14 : hx_col 100 h_100 qc 14 = wkf := (hx_col_S hs hTo gqc tt_45 tt_2 rfl rfl).trans cl_qc_14
                    replace cl_qc_15 : hx_col 100 h_100 qc 15 = owf := (hx_col_S hs hTo gqc tt_45 tt_2 rfl rfl).trans cl_qc_15
                    replace cl_qc_16 : hx_col 100 h_100 qc 16 = szf := (hx_col_S hs hTo gqc tt_45 tt_2 rfl rfl).trans cl_qc_16
                    replace cl_qc_17 : hx_col 100 h_100 qc 17 = gdf := (hx_col_S hs hTo gqc tt_45 tt_2 rfl rfl).trans cl_qc_17
                    replace cl_qc_18 : hx_col 100 h_100 qc 18 = svf := (hx_col_S hs hTo gqc tt_45 tt_2 rfl rfl).trans cl_qc_18
                    replace nc_89 : hx_col 100 h_100 qc 6 = smf := (hx_col_S hs hTo gqc tt_45 tt_2 rfl rfl).trans nc_89
                    replace nc_92 : hx_col 100 h_100 qc 7 = frf := (hx_col_S hs hTo gqc tt_45 tt_2 rfl rfl).trans nc_92
                    replace nc_95 : hx_col 100 h_100 qc 8 = flf := (hx_col_S hs hTo gqc tt_45 tt_2 rfl rfl).trans nc_95
                    replace nu_qc : hx_num 100 h_100 qc 0 (cn0.toInt) := hx_num_S hs hTo gqc tt_45 tt_2 rfl rfl nu_qc
                    replace sb_ql_qc : hx_LQ 8 100 h_100 ql qc := hx_LQ_S hs (gql.S hM) gqc rfl rfl sb_ql_qc
                    replace hDF : hw_DF h_100 qc qp 2 agf cn0.toInt := hw_DF_S hs hTo gqc gqp tt_45 tt_2 rfl rfl rfl hDF
                    replace hDP : hw_DF h_100 qc qp 1 byf cn0.toInt := hw_DF_S hs hTo gqc gqp tt_45 tt_2 rfl rfl rfl hDP
                    replace hRA : hv_RA h_100 qa w a0.toInt A := hv_RA_S hs hTo gqa gw tt_43 tt_0 rfl rfl rfl rfl rfl rfl ?o444 hRA
                    case o444 => omega
                    replace hAC : hv_AC h_100 qc plf cn0.toInt A := hv_AC_S hs hTo gqc tt_45 tt_2 rfl tt_0 rfl rfl rfl rfl rfl rfl rfl hAC
                    replace hBX : hv_FX 3 5 h_100 qc bF cn0.toInt := hv_FX_S hs hTo gqc tt_45 tt_2 rfl rfl rfl rfl hBX
                    replace hHL : hv_HL h_100 qh qc hof m0.toInt cn0.toInt := hv_HL_S hs gqh gqc rfl rfl hHL
                    replace kk_62Q : hv_AQ h_100 q_61 (((kk_62 : Nat) : Int) - 1) (A kk_62) := hv_AQ_S hs hTo gq_61 tt_0 rfl rfl rfl rfl rfl kk_62Q
                    replace hNF4 : hv_NF 4 h_100 qc q_83 cn0.toInt := hv_NF_S hs hTo gqc tt_45 tt_2 rfl rfl hNF4
                    replace hNF5 : hv_NF 5 h_100 qc q_85 cn0.toInt := hv_NF_S hs hTo gqc tt_45 tt_2 rfl rfl hNF5
                    replace fo_20 := (hs.a gqp rfl _).2.trans fo_20
                    replace fo_30 := (hs.a gqp rfl _).2.trans fo_30
                    replace nfw_86 : h_100.2.1 q_85 = fw_86 := (funext fun j => (hs.a gq_85 rfl j).1).trans nfw_86
                    replace hM := hM.tr (hs.mono ?o445)
                    case o445 => decide
                    replace gx := gx.S hs
                    replace gqp := gqp.S hs
                    replace gqc := gqc.S hs
                    replace gqa := gqa.S hs
                    replace gw := gw.S hs
                    replace gqh := gqh.S hs
                    replace gq_6 := gq_6.S hs
                    replace gq_26 := gq_26.S hs
                    replace gq_61 := gq_61.S hs
                    replace gq_54 := gq_54.S hs
                    replace gq_83 := gq_83.S hs
                    replace gq_85 := gq_85.S hs
                    obtain ⟨fa_101, dfa_101⟩ : ∃ g : Nat → Int32, g = hx_up fa_98 (3 : Int32).toNatClampNeg i6 := ⟨_, rfl⟩
                    have nfa_101 : h_100.2.1 q_83 = fa_101 := ?o446
                    case o446 =>
                      rw [eh_100, dfa_101, ← nfa_98O]
                      exact hx_pi_fun _ _ _ _
                    have hFX_102 : hv_FX 8 4 h_100 qc cF cn0.toInt := hv_FX_o hFXO9 hNFO9 eh_100
                    refine lv_aload hx hb dX9_file_156 (lv_at hl 0 rfl) ?_
                    refine hk_getr hx hb hts hC_2 hown hW gq_54 tt_2 4 ?o447 rfl kw_738 ⟨rfl, rfl, rfl⟩ fq_83 dX9_file_158 ?_
                    case o447 => decide
                    refine lv_bipush (v := 7) hx hb dX9_file_161 ?o448 ?_
                    case o448 => decide
                    refine lv_iload_n hx hb dX9_file_163 rfl (lv_at hl 6 rfl) ?_
                    have hFXO9 := hFX_102
                    have hNFO9 := hNF4
                    have hTo := hT
                    have nfa_101O := nfa_101
                    have hTo := hT
                    refine hx_iast hx hb hW hT (hx_S.rf (M := [(20, 0)])) gq_83 tt_20 rfl ?o449 rfl (i32_r _) (List.mem_singleton.mpr rfl) dX9_file_164 (fun H locs h_103 eh_103 hW hT hs => ?_)
                    case o449 => decide
                    replace f_x_7 := (hs.o gx trivial rfl).2.trans f_x_7
                    replace f_x_10 := (hs.o gx trivial rfl).2.trans f_x_10
                    replace f_x_5 := (hs.o gx trivial rfl).2.trans f_x_5
                    replace f_x_4 := (hs.o gx trivial rfl).2.trans f_x_4
                    replace f_x_19 := (hs.o gx trivial rfl).2.trans f_x_19
                    replace f_x_12 := (hs.o gx trivial rfl).2.trans f_x_12
                    replace f_x_11 := (hs.o gx trivial rfl).1.trans f_x_11
                    replace f_x_8 := (hs.o gx trivial rfl).1.trans f_x_8
                    replace f_x_2 := (hs.o gx trivial rfl).1.trans f_x_2
                    replace f_x_6 := (hs.o gx trivial rfl).1.trans f_x_6
                    replace f_x_13 := (hs.o gx trivial rfl).1.trans f_x_13
                    replace fx_33 := (hs.o gq_26 trivial rfl).1.trans fx_33
                    replace po_67 := (hs.o gq_54 trivial rfl).1.trans po_67
                    replace po_68 := (hs.o gq_54 trivial rfl).1.trans po_68
                    replace po_69 := (hs.o gq_54 trivial rfl).1.trans po_69
                    replace po_70 := (hs.o gq_54 trivial rfl).1.trans po_70
                    replace po_71 := (hs.o gq_54 trivial rfl).1.trans po_71
                    replace po_72 := (hs.o gq_54 trivial rfl).1.trans po_72
                    replace po_73 := (hs.o gq_54 trivial rfl).1.trans po_73
                    replace po_74 := (hs.o gq_54 trivial rfl).1.trans po_74
                    replace po_75 := (hs.o gq_54 trivial rfl).1.trans po_75
                    replace po_76 := (hs.o gq_54 trivial rfl).1.trans po_76
                    replace po_77 := (hs.o gq_54 trivial rfl).1.trans po_77
                    replace po_78 := (hs.o gq_54 trivial rfl).2.trans po_78
                    replace po_79 := (hs.o gq_54 trivial rfl).2.trans po_79
                    replace po_80 := (hs.o gq_54 trivial rfl).2.trans po_80
                    replace fq_83 := (hs.o gq_54 trivial rfl).2.trans fq_83
                    replace fq_85 := (hs.o gq_54 trivial rfl).2.trans fq_85
                    replace f_88 := (hs.o gq_54 trivial rfl).1.trans f_88
                    replace f_91 := (hs.o gq_54 trivial rfl).1.trans f_91
                    replace f_94 := (hs.o gq_54 trivial rfl).1.trans f_94
                    replace pf_x_8 : ∀ j : Nat, (j : Int) < (h_103.2.1 x 8).toInt → h_103.2.2 qp j ≠ none := by
                      intro j hj; rw [(hs.o gx trivial rfl).1] at hj; rw [(hs.a gqp rfl j).2]; exact pf_x_8 j hj
                    replace pf_x_11 : ∀ j : Nat, (j : Int) < (h_103.2.1 x 11).toInt → h_103.2.2 qc j ≠ none := by
                      intro j hj; rw [(hs.o gx trivial rfl).1] at hj; rw [(hs.a gqc rfl j).2]; exact pf_x_11 j hj
                    replace pf_x_6 : ∀ j : Nat, (j : Int) < (h_103.2.1 x 6).toInt → h_103.2.2 qa j ≠ none := by
                      intro j hj; rw [(hs.o gx trivial rfl).1] at hj; rw [(hs.a gqa rfl j).2]; exact pf_x_6 j hj
                    replace cl_qp_7 : hx_col 40 h_103 qp 7 = df := (hx_col_S hs hTo gqp tt_44 tt_4 rfl rfl).trans cl_qp_7
                    replace cl_qc_10 : hx_col 100 h_103 qc 10 = ff := (hx_col_S hs hTo gqc tt_45 tt_2 rfl rfl).trans cl_qc_10
                    replace cl_qc_9 : hx_col 100 h_103 qc 9 = tf := (hx_col_S hs hTo gqc tt_45 tt_2 rfl rfl).trans cl_qc_9
                    replace cl_qc_11 : hx_col 100 h_103 qc 11 = hrf := (hx_col_S hs hTo gqc tt_45 tt_2 rfl rfl).trans cl_qc_11
                    replace cl_qc_12 : hx_col 100 h_103 qc 12 = udf := (hx_col_S hs hTo gqc tt_45 tt_2 rfl rfl).trans cl_qc_12
                    replace cl_qc_13 : hx_col 100 h_103 qc 13 = odf := (hx_col_S hs hTo gqc tt_45 tt_2 rfl rfl).trans cl_qc_13
                    replace cl_qc_14 : hx_col 100 h_103 qc 14 = wkf := (hx_col_S hs hTo gqc tt_45 tt_2 rfl rfl).trans cl_qc_14
                    replace cl_qc_15 : hx_col 100 h_103 qc 15 = owf := (hx_col_S hs hTo gqc tt_45 tt_2 rfl rfl).trans cl_qc_15
                    replace cl_qc_16 : hx_col 100 h_103 qc 16 = szf := (hx_col_S hs hTo gqc tt_45 tt_2 rfl rfl).trans cl_qc_16
                    replace cl_qc_17 : hx_col 100 h_103 qc 17 = gdf := (hx_col_S hs hTo gqc tt_45 tt_2 rfl rfl).trans cl_qc_17
                    replace cl_qc_18 : hx_col 100 h_103 qc 18 = svf := (hx_col_S hs hTo gqc tt_45 tt_2 rfl rfl).trans cl_qc_18
                    replace nc_89 : hx_col 100 h_103 qc 6 = smf := (hx_col_S hs hTo gqc tt_45 tt_2 rfl rfl).trans nc_89
                    replace nc_92 : hx_col 100 h_103 qc 7 = frf := (hx_col_S hs hTo gqc tt_45 tt_2 rfl rfl).trans nc_92
                    replace nc_95 : hx_col 100 h_103 qc 8 = flf := (hx_col_S hs hTo gqc tt_45 tt_2 rfl rfl).trans nc_95
                    replace nu_qc : hx_num 100 h_103 qc 0 (cn0.toInt) := hx_num_S hs hTo gqc tt_45 tt_2 rfl rfl nu_qc
                    replace sb_ql_qc : hx_LQ 8 100 h_103 ql qc := hx_LQ_S hs (gql.S hM) gqc rfl rfl sb_ql_qc
                    replace hDF : hw_DF h_103 qc qp 2 agf cn0.toInt := hw_DF_S hs hTo gqc gqp tt_45 tt_2 rfl rfl rfl hDF
                    replace hDP : hw_DF h_103 qc qp 1 byf cn0.toInt := hw_DF_S hs hTo gqc gqp tt_45 tt_2 rfl rfl rfl hDP
                    replace hRA : hv_RA h_103 qa w a0.toInt A := hv_RA_S hs hTo gqa gw tt_43 tt_0 rfl rfl rfl rfl rfl rfl ?o450 hRA
                    case o450 => omega
                    replace hAC : hv_AC h_103 qc plf cn0.toInt A := hv_AC_S hs hTo gqc tt_45 tt_2 rfl tt_0 rfl rfl rfl rfl rfl rfl rfl hAC
                    replace hBX : hv_FX 3 5 h_103 qc bF cn0.toInt := hv_FX_S hs hTo gqc tt_45 tt_2 rfl rfl rfl rfl hBX
                    replace hHL : hv_HL h_103 qh qc hof m0.toInt cn0.toInt := hv_HL_S hs gqh gqc rfl rfl hHL
                    replace kk_62Q : hv_AQ h_103 q_61 (((kk_62 : Nat) : Int) - 1) (A kk_62) := hv_AQ_S hs hTo gq_61 tt_0 rfl rfl rfl rfl rfl kk_62Q
                    replace hNF4 : hv_NF 4 h_103 qc q_83 cn0.toInt := hv_NF_S hs hTo gqc tt_45 tt_2 rfl rfl hNF4
                    replace hNF5 : hv_NF 5 h_103 qc q_85 cn0.toInt := hv_NF_S hs hTo gqc tt_45 tt_2 rfl rfl hNF5
                    replace fo_20 := (hs.a gqp rfl _).2.trans fo_20
                    replace fo_30 := (hs.a gqp rfl _).2.trans fo_30
                    replace nfw_86 : h_103.2.1 q_85 = fw_86 := (funext fun j => (hs.a gq_85 rfl j).1).trans nfw_86
                    replace hM := hM.tr (hs.mono ?o451)
                    case o451 => decide
                    replace gx := gx.S hs
                    replace gqp := gqp.S hs
                    replace gqc := gqc.S hs
                    replace gqa := gqa.S hs
                    replace gw := gw.S hs
                    replace gqh := gqh.S hs
                    replace gq_6 := gq_6.S hs
                    replace gq_26 := gq_26.S hs
                    replace gq_61 := gq_61.S hs
                    replace gq_54 := gq_54.S hs
                    replace gq_83 := gq_83.S hs
                    replace gq_85 := gq_85.S hs
                    obtain ⟨fa_104, dfa_104⟩ : ∃ g : Nat → Int32, g = hx_up fa_101 (7 : Int32).toNatClampNeg i3 := ⟨_, rfl⟩
                    have nfa_104 : h_103.2.1 q_83 = fa_104 := ?o452
                    case o452 =>
                      rw [eh_103, dfa_104, ← nfa_101O]
                      exact hx_pi_fun _ _ _ _
                    have hFX_105 : hv_FX 8 4 h_103 qc cF cn0.toInt := hv_FX_o hFXO9 hNFO9 eh_103
                    refine lv_aload_n hx hb dX9_file_165 rfl (lv_at hl 3 rfl) ?_
                    refine hk_getr hx hb hts hC_9 hown hW gx tt_9 10 ?o453 rfl kw_374 ⟨rfl, rfl, rfl⟩ f_x_10 dX9_file_166 ?_
                    case o453 => decide
                    refine lv_aload_n hx hb dX9_file_169 rfl (lv_at hl 3 rfl) ?_
                    refine hk_geti hx hb hts hC_9 hown hW gx tt_9 11 ?o454 rfl kw_375 ⟨rfl, rfl, rfl⟩ f_x_11 dX9_file_170 ?_
                    case o454 => decide
                    refine lv_aload hx hb dX9_file_173 (lv_at hl 0 rfl) ?_
                    have hDFO9 := hDF
                    have hDPO9 := hDP
                    have hACO9 := hAC
                    have hFXO9 := hFX_105
                    have hBXO9 := hBX
                    have hHLO9 := hHL
                    have hNFO9 := hNF4
                    have hNBO9 := hNF5
                    have hAQO9 := kk_62Q
                    have hTO9 := hT
                    have gqcO9 := gqc
                    have gqpO8 := gqp
                    have gqhO9 := gqh
                    have gqNO9 := gq_54
                    have fdO9 := po_79
                    have fpO9 := po_78
                    have faO9 := po_80
                    have ffO9 := fq_83
                    have fbO9 := fq_85
                    have foDO9 := fo_30
                    have foPO9 := fo_20
                    have nfO9 := nfa_104
                    have nbO9 := nfw_86
                    have hTo := hT
                    have cl_qc_10O := cl_qc_10
                    have po_68O := po_68
                    have cl_qc_9O := cl_qc_9
                    have po_70O := po_70
                    have cl_qc_11O := cl_qc_11
                    have po_69O := po_69
                    have cl_qc_12O := cl_qc_12
                    have po_71O := po_71
                    have cl_qc_13O := cl_qc_13
                    have po_72O := po_72
                    have cl_qc_14O := cl_qc_14
                    have po_75O := po_75
                    have cl_qc_15O := cl_qc_15
                    have po_76O := po_76
                    have cl_qc_16O := cl_qc_16
                    have po_73O := po_73
                    have cl_qc_17O := cl_qc_17
                    have po_77O := po_77
                    have cl_qc_18O := cl_qc_18
                    have po_74O := po_74
                    have nc_89O := nc_89
                    have f_88O := f_88
                    have nc_92O := nc_92
                    have f_91O := f_91
                    have nc_95O := nc_95
                    have f_94O := f_94
                    have nu_qcO := nu_qc
                    have po_67O := po_67
                    have sb_ql_qcO := sb_ql_qc
                    have gsO_ql := (gql.S hM)
                    have pf_x_11O := pf_x_11
                    refine hx_aast hx hb hW hT (hx_S.rf (M := [(45, 0)])) gqc tt_45 rfl gq_54 tt_2 rfl ?o455 ⟨?o456, ?o457⟩ (List.mem_singleton.mpr rfl) dX9_file_175 (fun H locs h_106 eh_106 hW hT hs => ?_)
                    case o455 => decide
                    case o456 => omega
                    case o457 => omega
                    replace f_x_7 := (hs.o gx trivial rfl).2.trans f_x_7
                    replace f_x_10 := (hs.o gx trivial rfl).2.trans f_x_10
                    replace f_x_5 := (hs.o gx trivial rfl).2.trans f_x_5
                    replace f_x_4 := (hs.o gx trivial rfl).2.trans f_x_4
                    replace f_x_19 := (hs.o gx trivial rfl).2.trans f_x_19
                    replace f_x_12 := (hs.o gx trivial rfl).2.trans f_x_12
                    replace f_x_11 := (hs.o gx trivial rfl).1.trans f_x_11
                    replace f_x_8 := (hs.o gx trivial rfl).1.trans f_x_8
                    replace f_x_2 := (hs.o gx trivial rfl).1.trans f_x_2
                    replace f_x_6 := (hs.o gx trivial rfl).1.trans f_x_6
                    replace f_x_13 := (hs.o gx trivial rfl).1.trans f_x_13
                    replace fx_33 := (hs.o gq_26 trivial rfl).1.trans fx_33
                    replace po_67 := (hs.o gq_54 trivial rfl).1.trans po_67
                    replace po_68 := (hs.o gq_54 trivial rfl).1.trans po_68
                    replace po_69 := (hs.o gq_54 trivial rfl).1.trans po_69
                    replace po_70 := (hs.o gq_54 trivial rfl).1.trans po_70
                    replace po_71 := (hs.o gq_54 trivial rfl).1.trans po_71
                    replace po_72 := (hs.o gq_54 trivial rfl).1.trans po_72
                    replace po_73 := (hs.o gq_54 trivial rfl).1.trans po_73
                    replace po_74 := (hs.o gq_54 trivial rfl).1.trans po_74
                    replace po_75 := (hs.o gq_54 trivial rfl).1.trans po_75
                    replace po_76 := (hs.o gq_54 trivial rfl).1.trans po_76
                    replace po_77 := (hs.o gq_54 trivial rfl).1.trans po_77
                    replace po_78 := (hs.o gq_54 trivial rfl).2.trans po_78
                    replace po_79 := (hs.o gq_54 trivial rfl).2.trans po_79
                    replace po_80 := (hs.o gq_54 trivial rfl).2.trans po_80
                    replace fq_83 := (hs.o gq_54 trivial rfl).2.trans fq_83
                    replace fq_85 := (hs.o gq_54 trivial rfl).2.trans fq_85
                    replace f_88 := (hs.o gq_54 trivial rfl).1.trans f_88
                    replace f_91 := (hs.o gq_54 trivial rfl).1.trans f_91
                    replace f_94 := (hs.o gq_54 trivial rfl).1.trans f_94
                    replace pf_x_8 : ∀ j : Nat, (j : Int) < (h_106.2.1 x 8).toInt → h_106.2.2 qp j ≠ none := by
                      intro j hj; rw [(hs.o gx trivial rfl).1] at hj; rw [(hs.a gqp rfl j).2]; exact pf_x_8 j hj
                    replace pf_x_6 : ∀ j : Nat, (j : Int) < (h_106.2.1 x 6).toInt → h_106.2.2 qa j ≠ none := by
                      intro j hj; rw [(hs.o gx trivial rfl).1] at hj; rw [(hs.a gqa rfl j).2]; exact pf_x_6 j hj
                    replace cl_qp_7 : hx_col 40 h_106 qp 7 = df := (hx_col_S hs hTo gqp tt_44 tt_4 rfl rfl).trans cl_qp_7
                    replace hRA : hv_RA h_106 qa w a0.toInt A := hv_RA_S hs hTo gqa gw tt_43 tt_0 rfl rfl rfl rfl rfl rfl ?o458 hRA
                    case o458 => omega
                    replace kk_62Q : hv_AQ h_106 q_61 (((kk_62 : Nat) : Int) - 1) (A kk_62) := hv_AQ_S hs hTo gq_61 tt_0 rfl rfl rfl rfl rfl kk_62Q
                    replace fo_20 := (hs.a gqp rfl _).2.trans fo_20
                    replace fo_30 := (hs.a gqp rfl _).2.trans fo_30
                    replace nfw_86 : h_106.2.1 q_85 = fw_86 := (funext fun j => (hs.a gq_85 rfl j).1).trans nfw_86
                    replace nfa_104 : h_106.2.1 q_83 = fa_104 := (funext fun j => (hs.a gq_83 rfl j).1).trans nfa_104
                    replace hM := hM.tr (hs.mono ?o459)
                    case o459 => decide
                    replace gx := gx.S hs
                    replace gqp := gqp.S hs
                    replace gqc := gqc.S hs
                    replace gqa := gqa.S hs
                    replace gw := gw.S hs
                    replace gqh := gqh.S hs
                    replace gq_6 := gq_6.S hs
                    replace gq_26 := gq_26.S hs
                    replace gq_61 := gq_61.S hs
                    replace gq_54 := gq_54.S hs
                    replace gq_83 := gq_83.S hs
                    replace gq_85 := gq_85.S hs
                    have pf_x_11 : ∀ j : Nat, (j : Int) < (h_106.2.1 x 11).toInt → h_106.2.2 qc j ≠ none := hx_pfk pf_x_11O eh_106
                    have px_107 : ∀ j : Nat, (j : Int) < cn0.toInt + 1 → h_106.2.2 qc j ≠ none := hx_pfx pf_x_11O (by first | exact f_x_11 | exact ((hs.o gx trivial rfl).1.symm.trans f_x_11)) (by omega) eh_106
                    have sb_108 : hx_LQ 8 100 h_106 ql qc := hx_LQ_pr2 sb_ql_qcO nu_qcO eh_106 ?o460 ?o461 (gqc.ne (gql.S hM) ?o462)
                    case o460 => omega
                    case o461 => omega
                    case o462 => decide
                    obtain ⟨fc_109, dfc_109⟩ : ∃ g : Nat → Int32, g = hx_up ff cn0.toNatClampNeg (-1 : Int32) := ⟨_, rfl⟩
                    have nfc_109 : hx_col 100 h_106 qc 10 = fc_109 := ?o463
                    case o463 =>
                      rw [dfc_109]
                      exact (hx_col_pr eh_106 (by unfold Int32.toNatClampNeg; omega)).trans (by rw [cl_qc_10O, po_68O])
                    obtain ⟨fc_110, dfc_110⟩ : ∃ g : Nat → Int32, g = hx_up tf cn0.toNatClampNeg (0 : Int32) := ⟨_, rfl⟩
                    have nfc_110 : hx_col 100 h_106 qc 9 = fc_110 := ?o464
                    case o464 =>
                      rw [dfc_110]
                      exact (hx_col_pr eh_106 (by unfold Int32.toNatClampNeg; omega)).trans (by rw [cl_qc_9O, po_70O])
                    obtain ⟨fc_111, dfc_111⟩ : ∃ g : Nat → Int32, g = hx_up hrf cn0.toNatClampNeg (-1 : Int32) := ⟨_, rfl⟩
                    have nfc_111 : hx_col 100 h_106 qc 11 = fc_111 := ?o465
                    case o465 =>
                      rw [dfc_111]
                      exact (hx_col_pr eh_106 (by unfold Int32.toNatClampNeg; omega)).trans (by rw [cl_qc_11O, po_69O])
                    obtain ⟨fc_112, dfc_112⟩ : ∃ g : Nat → Int32, g = hx_up udf cn0.toNatClampNeg (0 : Int32) := ⟨_, rfl⟩
                    have nfc_112 : hx_col 100 h_106 qc 12 = fc_112 := ?o466
                    case o466 =>
                      rw [dfc_112]
                      exact (hx_col_pr eh_106 (by unfold Int32.toNatClampNeg; omega)).trans (by rw [cl_qc_12O, po_71O])
                    obtain ⟨fc_113, dfc_113⟩ : ∃ g : Nat → Int32, g = hx_up odf cn0.toNatClampNeg (-1 : Int32) := ⟨_, rfl⟩
                    have nfc_113 : hx_col 100 h_106 qc 13 = fc_113 := ?o467
                    case o467 =>
                      rw [dfc_113]
                      exact (hx_col_pr eh_106 (by unfold Int32.toNatClampNeg; omega)).trans (by rw [cl_qc_13O, po_72O])
                    obtain ⟨fc_114, dfc_114⟩ : ∃ g : Nat → Int32, g = hx_up wkf cn0.toNatClampNeg (0 : Int32) := ⟨_, rfl⟩
                    have nfc_114 : hx_col 100 h_106 qc 14 = fc_114 := ?o468
                    case o468 =>
                      rw [dfc_114]
                      exact (hx_col_pr eh_106 (by unfold Int32.toNatClampNeg; omega)).trans (by rw [cl_qc_14O, po_75O])
                    obtain ⟨fc_115, dfc_115⟩ : ∃ g : Nat → Int32, g = hx_up owf cn0.toNatClampNeg (0 : Int32) := ⟨_, rfl⟩
                    have nfc_115 : hx_col 100 h_106 qc 15 = fc_115 := ?o469
                    case o469 =>
                      rw [dfc_115]
                      exact (hx_col_pr eh_106 (by unfold Int32.toNatClampNeg; omega)).trans (by rw [cl_qc_15O, po_76O])
                    obtain ⟨fc_116, dfc_116⟩ : ∃ g : Nat → Int32, g = hx_up szf cn0.toNatClampNeg (-1 : Int32) := ⟨_, rfl⟩
                    have nfc_116 : hx_col 100 h_106 qc 16 = fc_116 := ?o470
                    case o470 =>
                      rw [dfc_116]
                      exact (hx_col_pr eh_106 (by unfold Int32.toNatClampNeg; omega)).trans (by rw [cl_qc_16O, po_73O])
                    obtain ⟨fc_117, dfc_117⟩ : ∃ g : Nat → Int32, g = hx_up gdf cn0.toNatClampNeg (0 : Int32) := ⟨_, rfl⟩
                    have nfc_117 : hx_col 100 h_106 qc 17 = fc_117 := ?o471
                    case o471 =>
                      rw [dfc_117]
                      exact (hx_col_pr eh_106 (by unfold Int32.toNatClampNeg; omega)).trans (by rw [cl_qc_17O, po_77O])
                    obtain ⟨fc_118, dfc_118⟩ : ∃ g : Nat → Int32, g = hx_up svf cn0.toNatClampNeg (-1 : Int32) := ⟨_, rfl⟩
                    have nfc_118 : hx_col 100 h_106 qc 18 = fc_118 := ?o472
                    case o472 =>
                      rw [dfc_118]
                      exact (hx_col_pr eh_106 (by unfold Int32.toNatClampNeg; omega)).trans (by rw [cl_qc_18O, po_74O])
                    obtain ⟨fc_119, dfc_119⟩ : ∃ g : Nat → Int32, g = hx_up smf cn0.toNatClampNeg i3 := ⟨_, rfl⟩
                    have nfc_119 : hx_col 100 h_106 qc 6 = fc_119 := ?o473
                    case o473 =>
                      rw [dfc_119]
                      exact (hx_col_pr eh_106 (by unfold Int32.toNatClampNeg; omega)).trans (by rw [nc_89O, f_88O])
                    obtain ⟨fc_120, dfc_120⟩ : ∃ g : Nat → Int32, g = hx_up frf cn0.toNatClampNeg i4 := ⟨_, rfl⟩
                    have nfc_120 : hx_col 100 h_106 qc 7 = fc_120 := ?o474
                    case o474 =>
                      rw [dfc_120]
                      exact (hx_col_pr eh_106 (by unfold Int32.toNatClampNeg; omega)).trans (by rw [nc_92O, f_91O])
                    obtain ⟨fc_121, dfc_121⟩ : ∃ g : Nat → Int32, g = hx_up flf cn0.toNatClampNeg nw0 := ⟨_, rfl⟩
                    have nfc_121 : hx_col 100 h_106 qc 8 = fc_121 := ?o475
                    case o475 =>
                      rw [dfc_121]
                      exact (hx_col_pr eh_106 (by unfold Int32.toNatClampNeg; omega)).trans (by rw [nc_95O, f_94O])
                    have nu_122 : hx_num 100 h_106 qc 0 (cn0.toInt + 1) := hx_num_pr nu_qcO eh_106 ?o476 ?o477 (by rw [po_67O])
                    case o476 => omega
                    case o477 => omega
                    have hDFn : hw_DF h_106 qc qp 2 (hx_up agf cn0.toInt.toNat i2) (cn0.toInt + 1) := hw_DF_c hDFO9 hTO9 gqcO9 gqpO8 gqNO9 tt_45 ?o478 ?o479 eh_106 ?o480 ?o481 fdO9 foDO9 ?o482 ?o483 rfl
                    case o478 => decide
                    case o479 => decide
                    case o480 => omega
                    case o481 => omega
                    case o482 => omega
                    case o483 => omega
                    have hDPn : hw_DF h_106 qc qp 1 (hx_up byf cn0.toInt.toNat i1) (cn0.toInt + 1) := hw_DF_c hDPO9 hTO9 gqcO9 gqpO8 gqNO9 tt_45 ?o484 ?o485 eh_106 ?o486 ?o487 fpO9 foPO9 ?o488 ?o489 rfl
                    case o484 => decide
                    case o485 => decide
                    case o486 => omega
                    case o487 => omega
                    case o488 => omega
                    case o489 => omega
                    have hACn : hv_AC h_106 qc (hx_up plf cn0.toInt.toNat pv9) (cn0.toInt + 1) A := hv_AC_c hACO9 hTO9 gqcO9 gqNO9 tt_45 tt_2 rfl ?o490 eh_106 ?o491 ?o492 faO9 ?o493 (by rw [hpv9, ← kk_62E, Int.toNat_natCast]; exact hAQO9) rfl
                    case o490 => decide
                    case o491 => omega
                    case o492 => omega
                    case o493 => omega
                    have hFXn : hv_FX 8 4 h_106 qc (hv_u8 cF cn0.toInt.toNat fa_104) (cn0.toInt + 1) := hv_FX_c hFXO9 hNFO9 hTO9 gqcO9 gqNO9 tt_45 ?o494 eh_106 ?o495 ?o496 ffO9 (fun k hk => by rw [nfO9]; exact (hv_u8_at hk).symm) (fun c k hc hk => hv_u8_ne hk ?o497) rfl
                    case o494 => decide
                    case o495 => omega
                    case o496 => omega
                    case o497 => omega
                    have hBXn : hv_FX 3 5 h_106 qc (hv_b3 bF cn0.toInt.toNat) (cn0.toInt + 1) := hv_FX_c hBXO9 hNBO9 hTO9 gqcO9 gqNO9 tt_45 ?o498 eh_106 ?o499 ?o500 fbO9 (fun k hk => by rw [nbO9, hv_b3_at hk]; exact hv_k3 po_82 hk) (fun c k hc hk => hv_b3_ne hk ?o501) rfl
                    case o498 => decide
                    case o499 => omega
                    case o500 => omega
                    case o501 => omega
                    have hHLn : hv_HL h_106 qh qc hof m0.toInt (cn0.toInt + 1) := hv_HL_c hHLO9 (gqhO9.ne gqcO9 ?o502) eh_106 ?o503 ?o504 rfl
                    case o502 => decide
                    case o503 => omega
                    case o504 => omega
                    refine lv_aload_n hx hb dX9_file_176 rfl (lv_at hl 3 rfl) ?_
                    refine lv_dup hx hb dX9_file_177 rfl ?_
                    refine hk_geti hx hb hts hC_9 hown hW gx tt_9 11 ?o505 rfl kw_375 ⟨rfl, rfl, rfl⟩ f_x_11 dX9_file_178 ?_
                    case o505 => decide
                    refine lv_iconst (v := 1) hx hb dX9_file_181 ?o506 ?_
                    case o506 => decide
                    refine lv_iadd hx hb dX9_file_182 ?_
                    have rg_123 := i32_r cn0
                    refine lv_topi (fun x_124 ex_124 => ?_)
                    have zx_124 : x_124.toInt = cn0.toInt + 1 := ?o507
                    case o507 =>
                      rw [ex_124]
                      refine i32_add rfl ?o508 ?o509 ?o510
                      case o508 => decide
                      case o509 => omega
                      case o510 => omega
                    have hTo := hT
                    refine hx_puti hx hb hts hC_9 hown hW hT (hx_S.rf (M := [(9, 11)])) gx tt_9 11 ?o511 rfl kw_375 ⟨rfl, rfl, rfl⟩ rfl (x := x_124) ⟨?o512, ?o513⟩ rfl rfl rfl (List.mem_singleton.mpr rfl) dX9_file_183 (fun H locs h_125 eh_125 hW hT hs => ?_)
                    case o511 => decide
                    case o512 => omega
                    case o513 => omega
                    replace px_107 : ∀ j : Nat, (j : Int) < cn0.toInt + 1 → h_125.2.2 qc j ≠ none := fun j hj => by rw [(hs.a gqc rfl j).2]; exact px_107 j hj
                    replace f_x_7 := (hs.o gx trivial rfl).2.trans f_x_7
                    replace f_x_10 := (hs.o gx trivial rfl).2.trans f_x_10
                    replace f_x_5 := (hs.o gx trivial rfl).2.trans f_x_5
                    replace f_x_4 := (hs.o gx trivial rfl).2.trans f_x_4
                    replace f_x_19 := (hs.o gx trivial rfl).2.trans f_x_19
                    replace f_x_12 := (hs.o gx trivial rfl).2.trans f_x_12
                    replace f_x_8 := (hs.o gx trivial rfl).1.trans f_x_8
                    replace f_x_2 := (hs.o gx trivial rfl).1.trans f_x_2
                    replace f_x_6 := (hs.o gx trivial rfl).1.trans f_x_6
                    replace f_x_13 := (hs.o gx trivial rfl).1.trans f_x_13
                    replace fx_33 := (hs.o gq_26 trivial rfl).1.trans fx_33
                    replace po_67 := (hs.o gq_54 trivial rfl).1.trans po_67
                    replace po_68 := (hs.o gq_54 trivial rfl).1.trans po_68
                    replace po_69 := (hs.o gq_54 trivial rfl).1.trans po_69
                    replace po_70 := (hs.o gq_54 trivial rfl).1.trans po_70
                    replace po_71 := (hs.o gq_54 trivial rfl).1.trans po_71
                    replace po_72 := (hs.o gq_54 trivial rfl).1.trans po_72
                    replace po_73 := (hs.o gq_54 trivial rfl).1.trans po_73
                    replace po_74 := (hs.o gq_54 trivial rfl).1.trans po_74
                    replace po_75 := (hs.o gq_54 trivial rfl).1.trans po_75
                    replace po_76 := (hs.o gq_54 trivial rfl).1.trans po_76
                    replace po_77 := (hs.o gq_54 trivial rfl).1.trans po_77
                    replace po_78 := (hs.o gq_54 trivial rfl).2.trans po_78
                    replace po_79 := (hs.o gq_54 trivial rfl).2.trans po_79
                    replace po_80 := (hs.o gq_54 trivial rfl).2.trans po_80
                    replace fq_83 := (hs.o gq_54 trivial rfl).2.trans fq_83
                    replace fq_85 := (hs.o gq_54 trivial rfl).2.trans fq_85
                    replace f_88 := (hs.o gq_54 trivial rfl).1.trans f_88
                    replace f_91 := (hs.o gq_54 trivial rfl).1.trans f_91
                    replace f_94 := (hs.o gq_54 trivial rfl).1.trans f_94
                    replace pf_x_8 : ∀ j : Nat, (j : Int) < (h_125.2.1 x 8).toInt → h_125.2.2 qp j ≠ none := by
                      intro j hj; rw [(hs.o gx trivial rfl).1] at hj; rw [(hs.a gqp rfl j).2]; exact pf_x_8 j hj
                    replace pf_x_6 : ∀ j : Nat, (j : Int) < (h_125.2.1 x 6).toInt → h_125.2.2 qa j ≠ none := by
                      intro j hj; rw [(hs.o gx trivial rfl).1] at hj; rw [(hs.a gqa rfl j).2]; exact pf_x_6 j hj
                    replace cl_qp_7 : hx_col 40 h_125 qp 7 = df := (hx_col_S hs hTo gqp tt_44 tt_4 rfl rfl).trans cl_qp_7
                    replace nfc_109 : hx_col 100 h_125 qc 10 = fc_109 := (hx_col_S hs hTo gqc tt_45 tt_2 rfl rfl).trans nfc_109
                    replace nfc_110 : hx_col 100 h_125 qc 9 = fc_110 := (hx_col_S hs hTo gqc tt_45 tt_2 rfl rfl).trans nfc_110
                    replace nfc_111 : hx_col 100 h_125 qc 11 = fc_111 := (hx_col_S hs hTo gqc tt_45 tt_2 rfl rfl).trans nfc_111
                    replace nfc_112 : hx_col 100 h_125 qc 12 = fc_112 := (hx_col_S hs hTo gqc tt_45 tt_2 rfl rfl).trans nfc_112
                    replace nfc_113 : hx_col 100 h_125 qc 13 = fc_113 := (hx_col_S hs hTo gqc tt_45 tt_2 rfl rfl).trans nfc_113
                    replace nfc_114 : hx_col 100 h_125 qc 14 = fc_114 := (hx_col_S hs hTo gqc tt_45 tt_2 rfl rfl).trans nfc_114
                    replace nfc_115 : hx_col 100 h_125 qc 15 = fc_115 := (hx_col_S hs hTo gqc tt_45 tt_2 rfl rfl).trans nfc_115
                    replace nfc_116 : hx_col 100 h_125 qc 16 = fc_116 := (hx_col_S hs hTo gqc tt_45 tt_2 rfl rfl).trans nfc_116
                    replace nfc_117 : hx_col 100 h_125 qc 17 = fc_117 := (hx_col_S hs hTo gqc tt_45 tt_2 rfl rfl).trans nfc_117
                    replace nfc_118 : hx_col 100 h_125 qc 18 = fc_118 := (hx_col_S hs hTo gqc tt_45 tt_2 rfl rfl).trans nfc_118
                    replace nfc_119 : hx_col 100 h_125 qc 6 = fc_119 := (hx_col_S hs hTo gqc tt_45 tt_2 rfl rfl).trans nfc_119
                    replace nfc_120 : hx_col 100 h_125 qc 7 = fc_120 := (hx_col_S hs hTo gqc tt_45 tt_2 rfl rfl).trans nfc_120
                    replace nfc_121 : hx_col 100 h_125 qc 8 = fc_121 := (hx_col_S hs hTo gqc tt_45 tt_2 rfl rfl).trans nfc_121
                    replace nu_122 : hx_num 100 h_125 qc 0 (cn0.toInt + 1) := hx_num_S hs hTo gqc tt_45 tt_2 rfl rfl nu_122
                    replace sb_108 : hx_LQ 8 100 h_125 ql qc := hx_LQ_S hs (gql.S hM) gqc rfl rfl sb_108
                    replace hRA : hv_RA h_125 qa w a0.toInt A := hv_RA_S hs hTo gqa gw tt_43 tt_0 rfl rfl rfl rfl rfl rfl ?o514 hRA
                    case o514 => omega
                    replace kk_62Q : hv_AQ h_125 q_61 (((kk_62 : Nat) : Int) - 1) (A kk_62) := hv_AQ_S hs hTo gq_61 tt_0 rfl rfl rfl rfl rfl kk_62Q
                    replace hDFn : hw_DF h_125 qc qp 2 (hx_up agf cn0.toInt.toNat i2) (cn0.toInt + 1) := hw_DF_S hs hTo gqc gqp tt_45 tt_2 rfl rfl rfl hDFn
                    replace hDPn : hw_DF h_125 qc qp 1 (hx_up byf cn0.toInt.toNat i1) (cn0.toInt + 1) := hw_DF_S hs hTo gqc gqp tt_45 tt_2 rfl rfl rfl hDPn
                    replace hACn : hv_AC h_125 qc (hx_up plf cn0.toInt.toNat pv9) (cn0.toInt + 1) A := hv_AC_S hs hTo gqc tt_45 tt_2 rfl tt_0 rfl rfl rfl rfl rfl rfl rfl hACn
                    replace hFXn : hv_FX 8 4 h_125 qc (hv_u8 cF cn0.toInt.toNat fa_104) (cn0.toInt + 1) := hv_FX_S hs hTo gqc tt_45 tt_2 rfl rfl rfl rfl hFXn
                    replace hBXn : hv_FX 3 5 h_125 qc (hv_b3 bF cn0.toInt.toNat) (cn0.toInt + 1) := hv_FX_S hs hTo gqc tt_45 tt_2 rfl rfl rfl rfl hBXn
                    replace hHLn : hv_HL h_125 qh qc hof m0.toInt (cn0.toInt + 1) := hv_HL_S hs gqh gqc rfl rfl hHLn
                    replace fo_20 := (hs.a gqp rfl _).2.trans fo_20
                    replace fo_30 := (hs.a gqp rfl _).2.trans fo_30
                    replace nfw_86 : h_125.2.1 q_85 = fw_86 := (funext fun j => (hs.a gq_85 rfl j).1).trans nfw_86
                    replace nfa_104 : h_125.2.1 q_83 = fa_104 := (funext fun j => (hs.a gq_83 rfl j).1).trans nfa_104
                    replace hM := hM.tr (hs.mono ?o515)
                    case o515 => decide
                    replace gx := gx.S hs
                    replace gqp := gqp.S hs
                    replace gqc := gqc.S hs
                    replace gqa := gqa.S hs
                    replace gw := gw.S hs
                    replace gqh := gqh.S hs
                    replace gq_6 := gq_6.S hs
                    replace gq_26 := gq_26.S hs
                    replace gq_61 := gq_61.S hs
                    replace gq_54 := gq_54.S hs
                    replace gq_83 := gq_83.S hs
                    replace gq_85 := gq_85.S hs
                    have f_126 : h_125.2.1 x 11 = x_124 := ?o516
                    case o516 =>
                      rw [eh_125]
                      exact hx_pi_at _ _ _ _
                    have pf_127 : ∀ j : Nat, (j : Int) < (h_125.2.1 x 11).toInt → h_125.2.2 qc j ≠ none := fun j hj => px_107 j (by rw [f_126] at hj; omega)
                    refine lv_aload hx hb dX9_file_186 (lv_at hl 0 rfl) ?_
                    refine hk_geti hx hb hts hC_2 hown hW gq_54 tt_2 0 ?o517 rfl kw_724 ⟨rfl, rfl, rfl⟩ po_67 dX9_file_188 ?_
                    case o517 => decide
                    refine W.widen (k := 3) (n := 30) (Nat.le_of_ble_eq_true rfl) (Nat.le_of_ble_eq_true rfl) ?_
                    refine hx_reti hx hb hr hlk hW ⟨⟨x_124, fc_109, fc_110, fc_119, fc_120, fc_121, fc_111, fc_112, fc_113, fc_114, fc_115, fc_116, fc_117, fc_118, f_126, nfc_109, nfc_110, nfc_119, nfc_120, nfc_121, nfc_111, nfc_112, nfc_113, nfc_114, nfc_115, nfc_116, nfc_117, nfc_118, ⟨(hx_num_c nu_122 ?o518), ⟨sb_108, ⟨⟨(Or.inr ⟨?o519, ?o520, by unfold hx_FC; exact ⟨by omega, by omega, by omega, by omega, (by show (df i2.toNatClampNeg).toInt = 0; rw [← cx_33]; omega), by omega, by omega, by omega⟩⟩), (Or.inr ⟨?o521, ?o522, dfc_109⟩), (Or.inr ⟨?o523, ?o524, dfc_110⟩), (Or.inr ⟨?o525, ?o526, dfc_119⟩), (Or.inr ⟨?o527, ?o528, dfc_120⟩), (Or.inr ⟨?o529, ?o530, dfc_121⟩), (Or.inr ⟨?o531, ?o532, dfc_111⟩), (Or.inr ⟨?o533, ?o534, dfc_112⟩), ⟨hx_up agf cn0.toInt.toNat i2, hx_up byf cn0.toInt.toNat i1, hx_up plf cn0.toInt.toNat pv9, hv_u8 cF cn0.toInt.toNat fa_104, hv_b3 bF cn0.toInt.toNat, pv9, (Or.inr ⟨?o535, rfl⟩), (Or.inr ⟨?o536, rfl⟩), ⟨hpv9, (Or.inr ⟨?o537, rfl⟩)⟩, hv_FU_i ?o538 ?o539 dfa_98 dfa_101 dfa_104, (Or.inr ⟨?o540, rfl⟩), hw_DF_e hDFn rfl ?o541, hw_DF_e hDPn rfl ?o542, hv_AC_e hACn rfl ?o543 rfl, hv_FX_e hFXn rfl ?o544, hv_FX_e hBXn rfl ?o545, hv_HL_e hHLn rfl rfl ?o546⟩⟩, ⟨(Or.inr ⟨?o547, ?o548, dfc_113⟩), (Or.inr ⟨?o549, ?o550, dfc_114⟩), (Or.inr ⟨?o551, ?o552, dfc_115⟩), (Or.inr ⟨?o553, ?o554, dfc_116⟩), (Or.inr ⟨?o555, ?o556, dfc_117⟩), (Or.inr ⟨?o557, ?o558, dfc_118⟩)⟩⟩⟩⟩⟩, hT, hM, pf_127⟩ dX9_file_191
                    case o518 => omega
                    case o519 => omega
                    case o520 => omega
                    case o521 => omega
                    case o522 => omega
                    case o523 => omega
                    case o524 => omega
                    case o525 => omega
                    case o526 => omega
                    case o527 => omega
                    case o528 => omega
                    case o529 => omega
                    case o530 => omega
                    case o531 => omega
                    case o532 => omega
                    case o533 => omega
                    case o534 => omega
                    case o535 => omega
                    case o536 => omega
                    case o537 => omega
                    case o538 => omega
                    case o539 => omega
                    case o540 => omega
                    case o541 => omega
                    case o542 => omega
                    case o543 => omega
                    case o544 => omega
                    case o545 => omega
                    case o546 => omega
                    case o547 => omega
                    case o548 => omega
                    case o549 => omega
                    case o550 => omega
                    case o551 => omega
                    case o552 => omega
                    case o553 => omega
                    case o554 => omega
                    case o555 => omega
                    case o556 => omega
                    case o557 => omega
                    case o558 => omega
                  refine hb_if_eq (zx := i5.toInt) (tgt := 145) hx hb rfl dX9_file_138 ?o559 (fun c_128 => ?_) (fun c_128 => ?_)
                  case o559 => decide
                  · skip
                    refine lv_iconst (v := 0) hx hb dX9_file_145 ?o560 ?_
                    case o560 => decide
                    have zj_146 : (0 : Int32).toInt = 0 := ?o561
                    case o561 => decide
                    refine jn_146 (0 : Int32) ls ?o562 ?o563 ?o564 hl
                    case o562 => decide
                    case o563 => decide
                    case o564 => omega
                  · skip
                    refine lv_iconst (v := 1) hx hb dX9_file_141 ?o565 ?_
                    case o565 => decide
                    refine lv_goto (tgt := 146) hx hb dX9_file_142 ?o566 ?_
                    case o566 => decide
                    have zj_146 : (1 : Int32).toInt = 1 := ?o567
                    case o567 => decide
                    refine jn_146 (1 : Int32) ls ?o568 ?o569 ?o570 hl
                    case o568 => decide
                    case o569 => decide
                    case o570 => omega
                · skip
                  replace hr_51 := hr_51.resolve_right (fun z9 => absurd (c_52.symm.trans z9.1) ?o571)
                  case o571 => decide
                  replace hr_51 := hr_51.2
                  refine lv_iconst (v := -1) hx hb dX9_file_81 ?o572 ?_
                  case o572 => decide
                  refine W.widen (k := 3) (n := 30) (Nat.le_of_ble_eq_true rfl) (Nat.le_of_ble_eq_true rfl) ?_
                  refine hx_reti hx hb hr hlk hW ⟨⟨cn0, ff, tf, smf, frf, flf, hrf, udf, odf, wkf, owf, szf, gdf, svf, f_x_11, cl_qc_10, cl_qc_9, cl_qc_6, cl_qc_7, cl_qc_8, cl_qc_11, cl_qc_12, cl_qc_13, cl_qc_14, cl_qc_15, cl_qc_16, cl_qc_17, cl_qc_18, ⟨(hx_num_c nu_qc ?o573), ⟨sb_ql_qc, ⟨⟨(Or.inl ⟨?o574, ?o575, fun hc => by unfold hx_FC at hc; have h1 : (df i2.toNatClampNeg).toInt = 0 := hc.2.2.2.2.1; rw [← cx_33] at h1; omega⟩), (Or.inl ⟨?o576, rfl⟩), (Or.inl ⟨?o577, rfl⟩), (Or.inl ⟨?o578, rfl⟩), (Or.inl ⟨?o579, rfl⟩), (Or.inl ⟨?o580, rfl⟩), (Or.inl ⟨?o581, rfl⟩), (Or.inl ⟨?o582, rfl⟩), ⟨agf, byf, plf, cF, bF, pv9, (Or.inl ⟨?o583, rfl⟩), (Or.inl ⟨?o584, rfl⟩), ⟨hpv9, (Or.inl ⟨?o585, rfl⟩)⟩, (Or.inl ⟨?o586, rfl⟩), (Or.inl ⟨?o587, rfl⟩), hw_DF_e hDF rfl ?o588, hw_DF_e hDP rfl ?o589, hv_AC_e hAC rfl ?o590 rfl, hv_FX_e hFX rfl ?o591, hv_FX_e hBX rfl ?o592, hv_HL_e hHL rfl rfl ?o593⟩⟩, ⟨(Or.inl ⟨?o594, rfl⟩), (Or.inl ⟨?o595, rfl⟩), (Or.inl ⟨?o596, rfl⟩), (Or.inl ⟨?o597, rfl⟩), (Or.inl ⟨?o598, rfl⟩), (Or.inl ⟨?o599, rfl⟩)⟩⟩⟩⟩⟩, hT, hM, pf_x_11⟩ dX9_file_82
                  case o573 => omega
                  case o574 => decide
                  case o575 => omega
                  case o576 => decide
                  case o577 => decide
                  case o578 => decide
                  case o579 => decide
                  case o580 => decide
                  case o581 => decide
                  case o582 => decide
                  case o583 => decide
                  case o584 => decide
                  case o585 => decide
                  case o586 => decide
                  case o587 => decide
                  case o588 => omega
                  case o589 => omega
                  case o590 => omega
                  case o591 => omega
                  case o592 => omega
                  case o593 => omega
                  case o594 => decide
                  case o595 => decide
                  case o596 => decide
                  case o597 => decide
                  case o598 => decide
                  case o599 => decide
