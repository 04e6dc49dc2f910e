section
set_option maxHeartbeats 4000000 in
set_option maxRecDepth 100000 in
theorem t_X10_person_v (l : Launch) (dC : Nat → ClassId) (dI : Nat → Nat → Nat) (dA : Nat → ClassId) (L : List Nat) (h : hx_h) (sz : Nat) (x : Nat) (i1 : Int32) (i2 : Int32) (i3 : Int32) (i4 : Int32) (i5 : Int32) (i6 : Int32) (hT : hx_T T_tb L h) (gx : hx_g L h x 10) (qdx : Nat) (gqdx : hx_g L h qdx 61) (f_x_24 : h.2.2 x 24 = some qdx) (qdy : Nat) (gqdy : hx_g L h qdy 62) (f_x_25 : h.2.2 x 25 = some qdy) (qbn : Nat) (gqbn : hx_g L h qbn 58) (f_x_21 : h.2.2 x 21 = some qbn) (qki : Nat) (gqki : hx_g L h qki 63) (f_x_26 : h.2.2 x 26 = some qki) (qea : Nat) (gqea : hx_g L h qea 59) (f_x_22 : h.2.2 x 22 = some qea) (qhd : Nat) (gqhd : hx_g L h qhd 60) (f_x_23 : h.2.2 x 23 = some qhd) (dxf : Nat → Int32) (af_qdx : h.2.1 qdx = dxf) (dyf : Nat → Int32) (af_qdy : h.2.1 qdy = dyf) (bnf : Nat → Int32) (af_qbn : h.2.1 qbn = bnf) (kkf : Nat → Int32) (af_qki : h.2.1 qki = kkf) (eaf : Nat → Int32) (af_qea : h.2.1 qea = eaf) (hdf : Nat → Int32) (af_qhd : h.2.1 qhd = hdf) (pn0 : Int32) (f_x_20 : h.2.1 x 20 = pn0) : Met l yX10_person (Cond.code yX10_person cX10_person 7 (some .int) :: hx_all) ({ frames := 2, cells := 0, slots := 0, locals := 45 }) (va_Pc [.ref x, .int i1, .int i2, .int i3, .int i4, .int i5, .int i6] (hx_B T_tb (P_ty dA) (dC, dI) vwCl L h sz)) (va_Qi (fun (r : Int32) (u : List Nat × hx_h) => (∃ (pn1 : Int32) (dxf1 : Nat → Int32) (dyf1 : Nat → Int32) (bnf1 : Nat → Int32) (kkf1 : Nat → Int32) (eaf1 : Nat → Int32) (hdf1 : Nat → Int32), u.2.2.1 x 20 = pn1 ∧ u.2.2.1 qdx = dxf1 ∧ u.2.2.1 qdy = dyf1 ∧ u.2.2.1 qbn = bnf1 ∧ u.2.2.1 qki = kkf1 ∧ u.2.2.1 qea = eaf1 ∧ u.2.2.1 qhd = hdf1 ∧ (((hx_PS pn0.toInt i1.toInt i2.toInt i3.toInt i4.toInt i5.toInt i6.toInt r.toInt pn1.toInt) ∧ hx_CD pn0.toInt r.toInt i4 dxf dxf1 ∧ hx_CD pn0.toInt r.toInt i5 dyf dyf1 ∧ hx_CD pn0.toInt r.toInt i1 bnf bnf1 ∧ hx_CD pn0.toInt r.toInt i6 kkf kkf1) ∧ (hx_CD pn0.toInt r.toInt i2 eaf eaf1 ∧ hx_CD pn0.toInt r.toInt i3 hdf hdf1))) ∧ hx_T T_tb u.1 u.2 ∧ hx_S T_tb [(10, 20), (58, 0), (59, 0), (60, 0), (61, 0), (62, 0), (63, 0)] L h u.1 u.2) (hx_E T_tb (P_ty dA) (dC, dI) vwCl (hx_A L sz)) (hx_A L sz)) 0 0 (hx_A L sz) := by
  refine hx_met (lv := [(0, .ref x), (1, .int i1), (2, .int i2), (3, .int i3), (4, .int i4), (5, .int i5), (6, .int i6)]) (by decide +kernel) rfl (Nat.le_of_ble_eq_true rfl) rfl ?_
  intro p e s m below meth c hx hb hml hr hlk hts0 hown hin hsz hW ls hl
  have hts : ∀ w ∈ hx_all, w.before _ s = true := fun w hw => hts0 w (List.mem_cons_of_mem _ hw)
  have hown : s.vm.findClass "SmallCourtModel" = some m.cls := hown
  have hM : hx_S T_tb [(10, 20), (58, 0), (59, 0), (60, 0), (61, 0), (62, 0), (63, 0)] L h L h := hx_S.rf
  have b_pn0 := hT.gi gx tt_10 (k := 20) rfl
  rw [f_x_20] at b_pn0
  have b_pn0 : 0 ≤ pn0.toInt ∧ pn0.toInt ≤ 40 := b_pn0
  refine lv_aload_n hx hb dX10_person_0 rfl (lv_at hl 0 rfl) ?_
  refine hk_geti hx hb hts hC_10 hown hW (gx.S hM) tt_10 20 ?o0 rfl kw_1163 ⟨rfl, rfl, rfl⟩ f_x_20 dX10_person_1 ?_
  case o0 => decide
  refine lv_bipush (v := 40) hx hb dX10_person_4 ?o1 ?_
  case o1 => decide
  refine hb_icmp_eq (zx := pn0.toInt) (zy := 40) (tgt := 45) hx hb rfl ?o2 dX10_person_6 ?o3 (fun c_1 => ?_) (fun c_1 => ?_)
  case o2 => decide
  case o3 => decide
  · skip
    refine lv_iconst (v := -1) hx hb dX10_person_45 ?o4 ?_
    case o4 => decide
    refine hx_reti hx hb hr hlk hW ⟨⟨pn0, dxf, dyf, bnf, kkf, eaf, hdf, f_x_20, af_qdx, af_qdy, af_qbn, af_qki, af_qea, af_qhd, ⟨⟨(Or.inl ⟨?o5, ?o6, by unfold hx_pcn; omega⟩), (Or.inl ⟨?o7, rfl⟩), (Or.inl ⟨?o8, rfl⟩), (Or.inl ⟨?o9, rfl⟩), (Or.inl ⟨?o10, rfl⟩)⟩, ⟨(Or.inl ⟨?o11, rfl⟩), (Or.inl ⟨?o12, rfl⟩)⟩⟩⟩, hT, hM⟩ dX10_person_46
    case o5 => decide
    case o6 => omega
    case o7 => decide
    case o8 => decide
    case o9 => decide
    case o10 => decide
    case o11 => decide
    case o12 => decide
  · skip
    refine lv_iload_n hx hb dX10_person_9 rfl (lv_at hl 1 rfl) ?_
    refine lv_sipush (v := -30000) hx hb dX10_person_10 ?o13 ?_
    case o13 => decide
    refine lv_sipush (v := 7999) hx hb dX10_person_13 ?o14 ?_
    case o14 => decide
    have zc_7999 : (7999 : Int32).toInt = 7999 := ?o15
    case o15 => decide
    have zc_m30000 : (-30000 : Int32).toInt = -30000 := ?o16
    case o16 => decide
    refine hx_goi (hx_runS (As := [.int i1, .int (-30000 : Int32), .int (7999 : Int32)]) (rest := []) ⟨hx, hb, hml, hown, hts⟩ hW (t_X10_in l dC dI dA L h s.heap.size i1 (-30000 : Int32) (7999 : Int32) hT) (va_cwS 3 hts (hx_gS kw_1445 kw_1443 kw_1444 kw_103) rfl rfl rfl (by decide +kernel) ⟨Nat.le_of_ble_eq_true rfl, Nat.le_of_ble_eq_true rfl⟩) rfl hl.1 rfl (Nat.le_of_ble_eq_true rfl) dX10_person_16 ⟨Nat.le_of_ble_eq_true rfl, Nat.le_of_ble_eq_true rfl⟩) hW (fun r_4 L_2 h_3 H locs p_5 hW => ?_)
    obtain ⟨hr_6, hT, hs⟩ := p_5
    replace hT : hx_T T_tb L_2 h_3 := hT
    replace hs : hx_S T_tb [] L h L_2 h_3 := hs
    replace f_x_20 := (hs.o (gx.S hM) trivial rfl).1.trans f_x_20
    replace af_qdx : h_3.2.1 qdx = dxf := (funext fun j => (hs.a (gqdx.S hM) rfl j).1).trans af_qdx
    replace af_qdy : h_3.2.1 qdy = dyf := (funext fun j => (hs.a (gqdy.S hM) rfl j).1).trans af_qdy
    replace af_qbn : h_3.2.1 qbn = bnf := (funext fun j => (hs.a (gqbn.S hM) rfl j).1).trans af_qbn
    replace af_qki : h_3.2.1 qki = kkf := (funext fun j => (hs.a (gqki.S hM) rfl j).1).trans af_qki
    replace af_qea : h_3.2.1 qea = eaf := (funext fun j => (hs.a (gqea.S hM) rfl j).1).trans af_qea
    replace af_qhd : h_3.2.1 qhd = hdf := (funext fun j => (hs.a (gqhd.S hM) rfl j).1).trans af_qhd
    replace hM := hM.tr (hs.mono ?o17)
    case o17 => decide
    refine hb_if_eq (zx := r_4.toInt) (tgt := 45) hx hb rfl dX10_person_19 ?o18 (fun c_7 => ?_) (fun c_7 => ?_)
    case o18 => decide
    · skip
      replace hr_6 := hr_6.resolve_right (fun z9 => absurd (c_7.symm.trans z9.1) ?o19)
      case o19 => decide
      replace hr_6 := hr_6.2
      refine lv_iconst (v := -1) hx hb dX10_person_45 ?o20 ?_
      case o20 => decide
      refine hx_reti hx hb hr hlk hW ⟨⟨pn0, dxf, dyf, bnf, kkf, eaf, hdf, f_x_20, af_qdx, af_qdy, af_qbn, af_qki, af_qea, af_qhd, ⟨⟨(Or.inl ⟨?o21, ?o22, by unfold hx_pcn; omega⟩), (Or.inl ⟨?o23, rfl⟩), (Or.inl ⟨?o24, rfl⟩), (Or.inl ⟨?o25, rfl⟩), (Or.inl ⟨?o26, rfl⟩)⟩, ⟨(Or.inl ⟨?o27, rfl⟩), (Or.inl ⟨?o28, rfl⟩)⟩⟩⟩, hT, hM⟩ dX10_person_46
      case o21 => decide
      case o22 => omega
      case o23 => decide
      case o24 => decide
      case o25 => decide
      case o26 => decide
      case o27 => decide
      case o28 => decide
    · skip
      replace hr_6 := hr_6.resolve_left (fun z9 => c_7 z9.1)
      replace c_7 := hr_6.1
      replace hr_6 := hr_6.2
      refine lv_iload_n hx hb dX10_person_22 rfl (lv_at hl 2 rfl) ?_
      refine lv_iload_n hx hb dX10_person_23 rfl (lv_at hl 3 rfl) ?_
      refine lv_iload hx hb dX10_person_24 (lv_at hl 4 rfl) ?_
      refine lv_iload hx hb dX10_person_26 (lv_at hl 5 rfl) ?_
      refine hx_goi (hx_runS (As := [.int i2, .int i3, .int i4, .int i5]) (rest := []) ⟨hx, hb, hml, hown, hts⟩ hW (t_X10_areLives_2 l dC dI dA L_2 h_3 H.size i2 i3 i4 i5 hT) (va_cwS 4 hts (hx_gS kw_1540 kw_1538 kw_1539 kw_103) rfl rfl rfl (by decide +kernel) ⟨Nat.le_of_ble_eq_true rfl, Nat.le_of_ble_eq_true rfl⟩) rfl hl.1 rfl (Nat.le_of_ble_eq_true rfl) dX10_person_28 ⟨Nat.le_of_ble_eq_true rfl, Nat.le_of_ble_eq_true rfl⟩) hW (fun r_10 L_8 h_9 H locs p_11 hW => ?_)
      obtain ⟨hr_12, hT, hs⟩ := p_11
      replace hT : hx_T T_tb L_8 h_9 := hT
      replace hs : hx_S T_tb [] L_2 h_3 L_8 h_9 := hs
      replace f_x_20 := (hs.o (gx.S hM) trivial rfl).1.trans f_x_20
      replace af_qdx : h_9.2.1 qdx = dxf := (funext fun j => (hs.a (gqdx.S hM) rfl j).1).trans af_qdx
      replace af_qdy : h_9.2.1 qdy = dyf := (funext fun j => (hs.a (gqdy.S hM) rfl j).1).trans af_qdy
      replace af_qbn : h_9.2.1 qbn = bnf := (funext fun j => (hs.a (gqbn.S hM) rfl j).1).trans af_qbn
      replace af_qki : h_9.2.1 qki = kkf := (funext fun j => (hs.a (gqki.S hM) rfl j).1).trans af_qki
      replace af_qea : h_9.2.1 qea = eaf := (funext fun j => (hs.a (gqea.S hM) rfl j).1).trans af_qea
      replace af_qhd : h_9.2.1 qhd = hdf := (funext fun j => (hs.a (gqhd.S hM) rfl j).1).trans af_qhd
      replace hM := hM.tr (hs.mono ?o29)
      case o29 => decide
      refine hb_if_eq (zx := r_10.toInt) (tgt := 45) hx hb rfl dX10_person_31 ?o30 (fun c_13 => ?_) (fun c_13 => ?_)
      case o30 => decide
      · skip
        refine lv_iconst (v := -1) hx hb dX10_person_45 ?o31 ?_
        case o31 => decide
        refine hx_reti hx hb hr hlk hW ⟨⟨pn0, dxf, dyf, bnf, kkf, eaf, hdf, f_x_20, af_qdx, af_qdy, af_qbn, af_qki, af_qea, af_qhd, ⟨⟨(Or.inl ⟨?o32, ?o33, by unfold hx_pcn; omega⟩), (Or.inl ⟨?o34, rfl⟩), (Or.inl ⟨?o35, rfl⟩), (Or.inl ⟨?o36, rfl⟩), (Or.inl ⟨?o37, rfl⟩)⟩, ⟨(Or.inl ⟨?o38, rfl⟩), (Or.inl ⟨?o39, rfl⟩)⟩⟩⟩, hT, hM⟩ dX10_person_46
        case o32 => decide
        case o33 => omega
        case o34 => decide
        case o35 => decide
        case o36 => decide
        case o37 => decide
        case o38 => decide
        case o39 => decide
      · skip
        refine lv_iload hx hb dX10_person_34 (lv_at hl 6 rfl) ?_
        refine lv_iconst (v := -1) hx hb dX10_person_36 ?o40 ?_
        case o40 => decide
        refine lv_bipush (v := 19) hx hb dX10_person_37 ?o41 ?_
        case o41 => decide
        have zc_19 : (19 : Int32).toInt = 19 := ?o42
        case o42 => decide
        have zc_m1 : (-1 : Int32).toInt = -1 := ?o43
        case o43 => decide
        refine hx_goi (hx_runS (As := [.int i6, .int (-1 : Int32), .int (19 : Int32)]) (rest := []) ⟨hx, hb, hml, hown, hts⟩ hW (t_X10_in l dC dI dA L_8 h_9 H.size i6 (-1 : Int32) (19 : Int32) hT) (va_cwS 3 hts (hx_gS kw_1445 kw_1443 kw_1444 kw_103) rfl rfl rfl (by decide +kernel) ⟨Nat.le_of_ble_eq_true rfl, Nat.le_of_ble_eq_true rfl⟩) rfl hl.1 rfl (Nat.le_of_ble_eq_true rfl) dX10_person_39 ⟨Nat.le_of_ble_eq_true rfl, Nat.le_of_ble_eq_true rfl⟩) hW (fun r_16 L_14 h_15 H locs p_17 hW => ?_)
        obtain ⟨hr_18, hT, hs⟩ := p_17
        replace hT : hx_T T_tb L_14 h_15 := hT
        replace hs : hx_S T_tb [] L_8 h_9 L_14 h_15 := hs
        replace f_x_20 := (hs.o (gx.S hM) trivial rfl).1.trans f_x_20
        replace af_qdx : h_15.2.1 qdx = dxf := (funext fun j => (hs.a (gqdx.S hM) rfl j).1).trans af_qdx
        replace af_qdy : h_15.2.1 qdy = dyf := (funext fun j => (hs.a (gqdy.S hM) rfl j).1).trans af_qdy
        replace af_qbn : h_15.2.1 qbn = bnf := (funext fun j => (hs.a (gqbn.S hM) rfl j).1).trans af_qbn
        replace af_qki : h_15.2.1 qki = kkf := (funext fun j => (hs.a (gqki.S hM) rfl j).1).trans af_qki
        replace af_qea : h_15.2.1 qea = eaf := (funext fun j => (hs.a (gqea.S hM) rfl j).1).trans af_qea
        replace af_qhd : h_15.2.1 qhd = hdf := (funext fun j => (hs.a (gqhd.S hM) rfl j).1).trans af_qhd
        replace hM := hM.tr (hs.mono ?o44)
        case o44 => decide
        refine hb_if_ne (zx := r_16.toInt) (tgt := 47) hx hb rfl dX10_person_42 ?o45 (fun c_19 => ?_) (fun c_19 => ?_)
        case o45 => decide
        · skip
          replace hr_18 := hr_18.resolve_left (fun z9 => c_19 z9.1)
          replace c_19 := hr_18.1
          replace hr_18 := hr_18.2
          refine lv_aload_n hx hb dX10_person_47 rfl (lv_at hl 0 rfl) ?_
          refine hk_getr hx hb hts hC_10 hown hW (gx.S hM) tt_10 21 ?o46 rfl kw_1164 ⟨rfl, rfl, rfl⟩ ((hM.o gx trivial rfl).2.trans f_x_21) dX10_person_48 ?_
          case o46 => decide
          refine lv_aload_n hx hb dX10_person_51 rfl (lv_at hl 0 rfl) ?_
          refine hk_geti hx hb hts hC_10 hown hW (gx.S hM) tt_10 20 ?o47 rfl kw_1163 ⟨rfl, rfl, rfl⟩ f_x_20 dX10_person_52 ?_
          case o47 => decide
          refine lv_iload_n hx hb dX10_person_55 rfl (lv_at hl 1 rfl) ?_
          have af_qbnO := af_qbn
          refine hx_iast hx hb hW hT (hx_S.rf (M := [(58, 0)])) (gqbn.S hM) tt_58 rfl ⟨?o48, ?o49⟩ rfl ⟨?o50, ?o51⟩ (List.mem_singleton.mpr rfl) dX10_person_56 (fun H locs h_20 eh_20 hW hT hs => ?_)
          case o48 => omega
          case o49 => omega
          case o50 => omega
          case o51 => omega
          replace f_x_20 := (hs.o (gx.S hM) trivial rfl).1.trans f_x_20
          replace af_qdx : h_20.2.1 qdx = dxf := (funext fun j => (hs.a (gqdx.S hM) rfl j).1).trans af_qdx
          replace af_qdy : h_20.2.1 qdy = dyf := (funext fun j => (hs.a (gqdy.S hM) rfl j).1).trans af_qdy
          replace af_qki : h_20.2.1 qki = kkf := (funext fun j => (hs.a (gqki.S hM) rfl j).1).trans af_qki
          replace af_qea : h_20.2.1 qea = eaf := (funext fun j => (hs.a (gqea.S hM) rfl j).1).trans af_qea
          replace af_qhd : h_20.2.1 qhd = hdf := (funext fun j => (hs.a (gqhd.S hM) rfl j).1).trans af_qhd
          replace hM := hM.tr (hs.mono ?o52)
          case o52 => decide
          obtain ⟨fa_21, dfa_21⟩ : ∃ g : Nat → Int32, g = hx_up bnf pn0.toNatClampNeg i1 := ⟨_, rfl⟩
          have nfa_21 : h_20.2.1 qbn = fa_21 := ?o53
          case o53 =>
            rw [eh_20, dfa_21, ← af_qbnO]
            exact hx_pi_fun _ _ _ _
          refine lv_aload_n hx hb dX10_person_57 rfl (lv_at hl 0 rfl) ?_
          refine hk_getr hx hb hts hC_10 hown hW (gx.S hM) tt_10 26 ?o54 rfl kw_1169 ⟨rfl, rfl, rfl⟩ ((hM.o gx trivial rfl).2.trans f_x_26) dX10_person_58 ?_
          case o54 => decide
          refine lv_aload_n hx hb dX10_person_61 rfl (lv_at hl 0 rfl) ?_
          refine hk_geti hx hb hts hC_10 hown hW (gx.S hM) tt_10 20 ?o55 rfl kw_1163 ⟨rfl, rfl, rfl⟩ f_x_20 dX10_person_62 ?_
          case o55 => decide
          refine lv_iload hx hb dX10_person_65 (lv_at hl 6 rfl) ?_
          have af_qkiO := af_qki
          refine hx_iast hx hb hW hT (hx_S.rf (M := [(63, 0)])) (gqki.S hM) tt_63 rfl ⟨?o56, ?o57⟩ rfl ⟨?o58, ?o59⟩ (List.mem_singleton.mpr rfl) dX10_person_67 (fun H locs h_22 eh_22 hW hT hs => ?_)
          case o56 => omega
          case o57 => omega
          case o58 => omega
          case o59 => omega
          replace f_x_20 := (hs.o (gx.S hM) trivial rfl).1.trans f_x_20
          replace af_qdx : h_22.2.1 qdx = dxf := (funext fun j => (hs.a (gqdx.S hM) rfl j).1).trans af_qdx
          replace af_qdy : h_22.2.1 qdy = dyf := (funext fun j => (hs.a (gqdy.S hM) rfl j).1).trans af_qdy
          replace af_qea : h_22.2.1 qea = eaf := (funext fun j => (hs.a (gqea.S hM) rfl j).1).trans af_qea
          replace af_qhd : h_22.2.1 qhd = hdf := (funext fun j => (hs.a (gqhd.S hM) rfl j).1).trans af_qhd
          replace nfa_21 : h_22.2.1 qbn = fa_21 := (funext fun j => (hs.a (gqbn.S hM) rfl j).1).trans nfa_21
          replace hM := hM.tr (hs.mono ?o60)
          case o60 => decide
          obtain ⟨fa_23, dfa_23⟩ : ∃ g : Nat → Int32, g = hx_up kkf pn0.toNatClampNeg i6 := ⟨_, rfl⟩
          have nfa_23 : h_22.2.1 qki = fa_23 := ?o61
          case o61 =>
            rw [eh_22, dfa_23, ← af_qkiO]
            exact hx_pi_fun _ _ _ _
          refine lv_aload_n hx hb dX10_person_68 rfl (lv_at hl 0 rfl) ?_
          refine lv_dup hx hb dX10_person_69 rfl ?_
          refine hk_geti hx hb hts hC_10 hown hW (gx.S hM) tt_10 20 ?o62 rfl kw_1163 ⟨rfl, rfl, rfl⟩ f_x_20 dX10_person_70 ?_
          case o62 => decide
          refine lv_iconst (v := 1) hx hb dX10_person_73 ?o63 ?_
          case o63 => decide
          refine lv_iadd hx hb dX10_person_74 ?_
          have rg_24 := i32_r pn0
          refine lv_topi (fun x_25 ex_25 => ?_)
          have zx_25 : x_25.toInt = pn0.toInt + 1 := ?o64
          case o64 =>
            rw [ex_25]
            refine i32_add rfl ?o65 ?o66 ?o67
            case o65 => decide
            case o66 => omega
            case o67 => omega
          refine hx_puti hx hb hts hC_10 hown hW hT (hx_S.rf (M := [(10, 20)])) (gx.S hM) tt_10 20 ?o68 rfl kw_1163 ⟨rfl, rfl, rfl⟩ rfl (x := x_25) ⟨?o69, ?o70⟩ rfl rfl rfl (List.mem_singleton.mpr rfl) dX10_person_75 (fun H locs h_26 eh_26 hW hT hs => ?_)
          case o68 => decide
          case o69 => omega
          case o70 => omega
          replace af_qdx : h_26.2.1 qdx = dxf := (funext fun j => (hs.a (gqdx.S hM) rfl j).1).trans af_qdx
          replace af_qdy : h_26.2.1 qdy = dyf := (funext fun j => (hs.a (gqdy.S hM) rfl j).1).trans af_qdy
          replace af_qea : h_26.2.1 qea = eaf := (funext fun j => (hs.a (gqea.S hM) rfl j).1).trans af_qea
          replace af_qhd : h_26.2.1 qhd = hdf := (funext fun j => (hs.a (gqhd.S hM) rfl j).1).trans af_qhd
          replace nfa_21 : h_26.2.1 qbn = fa_21 := (funext fun j => (hs.a (gqbn.S hM) rfl j).1).trans nfa_21
          replace nfa_23 : h_26.2.1 qki = fa_23 := (funext fun j => (hs.a (gqki.S hM) rfl j).1).trans nfa_23
          replace hM := hM.tr (hs.mono ?o71)
          case o71 => decide
          have f_27 : h_26.2.1 x 20 = x_25 := ?o72
          case o72 =>
            rw [eh_26]
            exact hx_pi_at _ _ _ _
          refine lv_aload_n hx hb dX10_person_78 rfl (lv_at hl 0 rfl) ?_
          refine lv_aload_n hx hb dX10_person_79 rfl (lv_at hl 0 rfl) ?_
          refine hk_geti hx hb hts hC_10 hown hW (gx.S hM) tt_10 20 ?o73 rfl kw_1163 ⟨rfl, rfl, rfl⟩ f_27 dX10_person_80 ?_
          case o73 => decide
          refine lv_iconst (v := 1) hx hb dX10_person_83 ?o74 ?_
          case o74 => decide
          refine lv_isub hx hb dX10_person_84 ?_
          have rg_28 := i32_r x_25
          refine lv_topi (fun x_29 ex_29 => ?_)
          have zx_29 : x_29.toInt = x_25.toInt - 1 := ?o75
          case o75 =>
            rw [ex_29]
            refine i32_sub rfl ?o76 ?o77 ?o78
            case o76 => decide
            case o77 => omega
            case o78 => omega
          refine lv_iload_n hx hb dX10_person_85 rfl (lv_at hl 2 rfl) ?_
          refine lv_iload_n hx hb dX10_person_86 rfl (lv_at hl 3 rfl) ?_
          refine lv_iload hx hb dX10_person_87 (lv_at hl 4 rfl) ?_
          refine lv_iload hx hb dX10_person_89 (lv_at hl 5 rfl) ?_
          refine hx_gov (hx_runV (As := [.int x_29, .int i2, .int i3, .int i4, .int i5]) (rest := []) ⟨hx, hb, hml, hown, hts⟩ hW (gx.S hM) tt_10 (T := TX10) (N := 98) rfl (t_X10_lives_2 l dC dI dA L_14 h_26 H.size x x_29 i2 i3 i4 i5 hT (gx.S hM) qdx (gqdx.S hM) ((hM.o gx trivial rfl).2.trans f_x_24) qdy (gqdy.S hM) ((hM.o gx trivial rfl).2.trans f_x_25) qea (gqea.S hM) ((hM.o gx trivial rfl).2.trans f_x_22) qhd (gqhd.S hM) ((hM.o gx trivial rfl).2.trans f_x_23) dxf af_qdx dyf af_qdy eaf af_qea hdf af_qhd ⟨?o79, ?o80⟩ ⟨?o81, ?o82⟩ ⟨?o83, ?o84⟩ ⟨?o85, ?o86⟩ ⟨?o87, ?o88⟩) (cwV 5 hts (hx_gV kw_1544 kw_1541 kw_1543 kw_67 kw_103) rfl rfl rfl (by decide +kernel) ⟨Nat.le_of_ble_eq_true rfl, Nat.le_of_ble_eq_true rfl⟩) rfl hl.1 rfl (Nat.le_of_ble_eq_true rfl) dX10_person_91 ⟨Nat.le_of_ble_eq_true rfl, Nat.le_of_ble_eq_true rfl⟩) hW (fun L_30 h_31 H locs p_33 hW => ?_)
          case o79 => omega
          case o80 => omega
          case o81 => omega
          case o82 => omega
          case o83 => omega
          case o84 => omega
          case o85 => omega
          case o86 => omega
          case o87 => omega
          case o88 => omega
          obtain ⟨⟨w_35, w_36, w_37, w_38, fw_35, fw_36, fw_37, fw_38, hr_34⟩, hT, hs⟩ := p_33
          replace hT : hx_T T_tb L_30 h_31 := hT
          replace hs : hx_S T_tb [(59, 0), (60, 0), (61, 0), (62, 0)] L_14 h_26 L_30 h_31 := hs
          replace f_27 := (hs.o (gx.S hM) trivial rfl).1.trans f_27
          replace nfa_21 : h_31.2.1 qbn = fa_21 := (funext fun j => (hs.a (gqbn.S hM) rfl j).1).trans nfa_21
          replace nfa_23 : h_31.2.1 qki = fa_23 := (funext fun j => (hs.a (gqki.S hM) rfl j).1).trans nfa_23
          replace hM := hM.tr (hs.mono ?o89)
          case o89 => decide
          have fw_35 : h_31.2.1 qdx = w_35 := fw_35
          have fw_36 : h_31.2.1 qdy = w_36 := fw_36
          have fw_37 : h_31.2.1 qea = w_37 := fw_37
          have fw_38 : h_31.2.1 qhd = w_38 := fw_38
          obtain ⟨hr_34a, hr_34b⟩ := hr_34
          refine lv_aload_n hx hb dX10_person_94 rfl (lv_at hl 0 rfl) ?_
          refine hk_geti hx hb hts hC_10 hown hW (gx.S hM) tt_10 20 ?o90 rfl kw_1163 ⟨rfl, rfl, rfl⟩ f_27 dX10_person_95 ?_
          case o90 => decide
          refine lv_iconst (v := 1) hx hb dX10_person_98 ?o91 ?_
          case o91 => decide
          refine lv_isub hx hb dX10_person_99 ?_
          refine lv_topi (fun x_39 ex_39 => ?_)
          have zx_39 : x_39.toInt = x_25.toInt - 1 := ?o92
          case o92 =>
            rw [ex_39]
            refine i32_sub rfl ?o93 ?o94 ?o95
            case o93 => decide
            case o94 => omega
            case o95 => omega
          refine hx_reti hx hb hr hlk hW ⟨⟨x_25, w_35, w_36, fa_21, fa_23, w_37, w_38, f_27, fw_35, fw_36, nfa_21, nfa_23, fw_37, fw_38, ⟨⟨(Or.inr ⟨?o96, ?o97, by unfold hx_pcn; omega⟩), (Or.inr ⟨?o98, ?o99, (hr_34a.1.trans (congrArg (fun z => hx_up dxf z i4) ?o100))⟩), (Or.inr ⟨?o101, ?o102, (hr_34a.2.trans (congrArg (fun z => hx_up dyf z i5) ?o103))⟩), (Or.inr ⟨?o104, ?o105, dfa_21⟩), (Or.inr ⟨?o106, ?o107, dfa_23⟩)⟩, ⟨(Or.inr ⟨?o108, ?o109, (hr_34b.1.trans (congrArg (fun z => hx_up eaf z i2) ?o110))⟩), (Or.inr ⟨?o111, ?o112, (hr_34b.2.trans (congrArg (fun z => hx_up hdf z i3) ?o113))⟩)⟩⟩⟩, hT, hM⟩ dX10_person_100
          case o96 => omega
          case o97 => omega
          case o98 => omega
          case o99 => omega
          case o100 => omega
          case o101 => omega
          case o102 => omega
          case o103 => omega
          case o104 => omega
          case o105 => omega
          case o106 => omega
          case o107 => omega
          case o108 => omega
          case o109 => omega
          case o110 => omega
          case o111 => omega
          case o112 => omega
          case o113 => omega
        · skip
          replace hr_18 := hr_18.resolve_right (fun z9 => absurd (c_19.symm.trans z9.1) ?o114)
          case o114 => decide
          replace hr_18 := hr_18.2
          refine lv_iconst (v := -1) hx hb dX10_person_45 ?o115 ?_
          case o115 => decide
          refine hx_reti hx hb hr hlk hW ⟨⟨pn0, dxf, dyf, bnf, kkf, eaf, hdf, f_x_20, af_qdx, af_qdy, af_qbn, af_qki, af_qea, af_qhd, ⟨⟨(Or.inl ⟨?o116, ?o117, by unfold hx_pcn; omega⟩), (Or.inl ⟨?o118, rfl⟩), (Or.inl ⟨?o119, rfl⟩), (Or.inl ⟨?o120, rfl⟩), (Or.inl ⟨?o121, rfl⟩)⟩, ⟨(Or.inl ⟨?o122, rfl⟩), (Or.inl ⟨?o123, rfl⟩)⟩⟩⟩, hT, hM⟩ dX10_person_46
          case o116 => decide
          case o117 => omega
          case o118 => decide
          case o119 => decide
          case o120 => decide
          case o121 => decide
          case o122 => decide
          case o123 => decide


set_option maxHeartbeats 4000000 in
set_option maxRecDepth 100000 in
theorem t_X10_file_v (l : Launch) (dC : Nat → ClassId) (dI : Nat → Nat → Nat) (dA : Nat → ClassId) (L : List Nat) (h : hx_h) (sz : Nat) (x : Nat) (i1 : Int32) (i2 : Int32) (i3 : Int32) (i4 : Int32) (i5 : Int32) (i6 : Int32) (hT : hx_T T_tb L h) (gx : hx_g L h x 10) (qh : Nat) (gqh : hx_g L h qh 82) (f_x_47 : h.2.2 x 47 = some qh) (qc : Nat) (gqc : hx_g L h qc 79) (f_x_44 : h.2.2 x 44 = some qc) (qd : Nat) (gqd : hx_g L h qd 64) (f_x_27 : h.2.2 x 27 = some qd) (qf : Nat) (gqf : hx_g L h qf 81) (f_x_46 : h.2.2 x 46 = some qf) (qag : Nat) (gqag : hx_g L h qag 73) (f_x_38 : h.2.2 x 38 = some qag) (qby : Nat) (gqby : hx_g L h qby 72) (f_x_37 : h.2.2 x 37 = some qby) (qsu : Nat) (gqsu : hx_g L h qsu 74) (f_x_39 : h.2.2 x 39 = some qsu) (qow : Nat) (gqow : hx_g L h qow 75) (f_x_40 : h.2.2 x 40 = some qow) (qfl : Nat) (gqfl : hx_g L h qfl 78) (f_x_43 : h.2.2 x 43 = some qfl) (qnt : Nat) (gqnt : hx_g L h qnt 76) (f_x_41 : h.2.2 x 41 = some qnt) (qwt : Nat) (gqwt : hx_g L h qwt 77) (f_x_42 : h.2.2 x 42 = some qwt) (qbe : Nat) (gqbe : hx_g L h qbe 87) (f_x_52 : h.2.2 x 52 = some qbe) (qad : Nat) (gqad : hx_g L h qad 49) (f_x_2 : h.2.2 x 2 = some qad) (qrl : Nat) (gqrl : hx_g L h qrl 50) (f_x_3 : h.2.2 x 3 = some qrl) (qps : Nat) (gqps : hx_g L h qps 51) (f_x_4 : h.2.2 x 4 = some qps) (qpr : Nat) (gqpr : hx_g L h qpr 52) (f_x_5 : h.2.2 x 5 = some qpr) (qod : Nat) (gqod : hx_g L h qod 83) (f_x_48 : h.2.2 x 48 = some qod) (qsz : Nat) (gqsz : hx_g L h qsz 84) (f_x_49 : h.2.2 x 49 = some qsz) (qsv : Nat) (gqsv : hx_g L h qsv 85) (f_x_50 : h.2.2 x 50 = some qsv) (hf : Nat → Int32) (af_qh : h.2.1 qh = hf) (plf : Nat → Int32) (af_qc : h.2.1 qc = plf) (df : Nat → Int32) (af_qd : h.2.1 qd = df) (ff : Nat → Int32) (af_qf : h.2.1 qf = ff) (agf : Nat → Int32) (af_qag : h.2.1 qag = agf) (byf : Nat → Int32) (af_qby : h.2.1 qby = byf) (smf : Nat → Int32) (af_qsu : h.2.1 qsu = smf) (frf : Nat → Int32) (af_qow : h.2.1 qow = frf) (flf : Nat → Int32) (af_qfl : h.2.1 qfl = flf) (ntf : Nat → Int32) (af_qnt : h.2.1 qnt = ntf) (wtf : Nat → Int32) (af_qwt : h.2.1 qwt = wtf) (bnh : Nat → Int32) (af_qbe : h.2.1 qbe = bnh) (adf : Nat → Int32) (af_qad : h.2.1 qad = adf) (rlf : Nat → Int32) (af_qrl : h.2.1 qrl = rlf) (psf : Nat → Int32) (af_qps : h.2.1 qps = psf) (prf : Nat → Int32) (af_qpr : h.2.1 qpr = prf) (odf : Nat → Int32) (af_qod : h.2.1 qod = odf) (szf : Nat → Int32) (af_qsz : h.2.1 qsz = szf) (svf : Nat → Int32) (af_qsv : h.2.1 qsv = svf) (a0 : Int32) (f_x_1 : h.2.1 x 1 = a0) (c0 : Int32) (f_x_36 : h.2.1 x 36 = c0) (m0 : Int32) (f_x_57 : h.2.1 x 57 = m0) (pn0 : Int32) (f_x_20 : h.2.1 x 20 = pn0) (nw0 : Int32) (f_x_0 : h.2.1 x 0 = nw0) (A : Nat → hv_act) (hCA : hv_CA adf rlf psf prf a0.toInt A) (hPL : hx_PL plf c0.toInt a0.toInt) (hHC : m0.toInt = hx_hc hf c0.toInt.toNat) (hi5 : 0 ≤ i5.toInt ∧ i5.toInt ≤ 1) : Met l yX10_file (Cond.code yX10_file cX10_file 9 (some .int) :: hx_all) ({ frames := 2, cells := 0, slots := 0, locals := 43 }) (va_Pc [.ref x, .int i1, .int i2, .int i3, .int i4, .int i5, .int i6] (hx_B T_tb (P_ty dA) (dC, dI) vwCl L h sz)) (va_Qi (fun (r : Int32) (u : List Nat × hx_h) => (∃ (cn1 : Int32) (hf1 : Nat → Int32) (plf1 : Nat → Int32) (ff1 : Nat → Int32) (agf1 : Nat → Int32) (byf1 : Nat → Int32) (smf1 : Nat → Int32) (frf1 : Nat → Int32) (flf1 : Nat → Int32) (ntf1 : Nat → Int32) (wtf1 : Nat → Int32) (bnh1 : Nat → Int32) (odf1 : Nat → Int32) (szf1 : Nat → Int32) (svf1 : Nat → Int32), u.2.2.1 x 36 = cn1 ∧ u.2.2.1 qh = hf1 ∧ u.2.2.1 qc = plf1 ∧ u.2.2.1 qf = ff1 ∧ u.2.2.1 qag = agf1 ∧ u.2.2.1 qby = byf1 ∧ u.2.2.1 qsu = smf1 ∧ u.2.2.1 qow = frf1 ∧ u.2.2.1 qfl = flf1 ∧ u.2.2.1 qnt = ntf1 ∧ u.2.2.1 qwt = wtf1 ∧ u.2.2.1 qbe = bnh1 ∧ u.2.2.1 qod = odf1 ∧ u.2.2.1 qsz = szf1 ∧ u.2.2.1 qsv = svf1 ∧ ((m0.toInt = hx_hc hf1 cn1.toInt.toNat ∧ hx_PL plf1 cn1.toInt a0.toInt ∧ (hx_FS c0.toInt pn0.toInt nw0.toInt i1.toInt i2.toInt i3.toInt i4.toInt i6.toInt df r.toInt cn1.toInt) ∧ hx_CD c0.toInt r.toInt (-1) ff ff1 ∧ ((cn1.toInt = c0.toInt ∧ hf1 = hf ∧ ff1 = ff) ∨ (cn1.toInt = c0.toInt + 1 ∧ hf1 = hx_up hf c0.toInt.toNat (-1) ∧ ff1 = hx_up ff c0.toInt.toNat (-1))) ∧ hw_UP r.toInt c0.toInt i2 agf agf1 ∧ hx_CD c0.toInt r.toInt (-1) hf hf1 ∧ hw_UP r.toInt c0.toInt i1 byf byf1 ∧ hx_CD c0.toInt r.toInt i3 smf smf1 ∧ hx_CD c0.toInt r.toInt i4 frf frf1 ∧ hx_CD c0.toInt r.toInt nw0 flf flf1 ∧ hw_UP r.toInt c0.toInt i5 ntf ntf1 ∧ hw_UP r.toInt c0.toInt i6 wtf wtf1 ∧ (∃ pv : Int32, pv.toInt = ((hv_IF A nw0.toInt a0.toInt.toNat : Nat) : Int) ∧ hw_UP r.toInt c0.toInt pv plf plf1) ∧ hv_BU r.toInt c0.toInt bnh bnh1) ∧ (hx_CD c0.toInt r.toInt (-1) odf odf1 ∧ hx_CD c0.toInt r.toInt (-1) szf szf1 ∧ hx_CD c0.toInt r.toInt (-1) svf svf1))) ∧ hx_T T_tb u.1 u.2 ∧ hx_S T_tb [(10, 36), (72, 0), (73, 0), (74, 0), (75, 0), (76, 0), (77, 0), (78, 0), (79, 0), (81, 0), (82, 0), (83, 0), (84, 0), (85, 0), (87, 0)] L h u.1 u.2) (hx_E T_tb (P_ty dA) (dC, dI) vwCl (hx_A L sz)) (hx_A L sz)) 0 0 (hx_A L sz) := by
  refine hx_met (lv := [(0, .ref x), (1, .int i1), (2, .int i2), (3, .int i3), (4, .int i4), (5, .int i5), (6, .int i6)]) (by decide +kernel) rfl (Nat.le_of_ble_eq_true rfl) rfl ?_
  intro p e s m below meth c hx hb hml hr hlk hts0 hown hin hsz hW ls hl
  have hts : ∀ w ∈ hx_all, w.before _ s = true := fun w hw => hts0 w (List.mem_cons_of_mem _ hw)
  have hown : s.vm.findClass "SmallCourtModel" = some m.cls := hown
  have hM : hx_S T_tb [(10, 36), (72, 0), (73, 0), (74, 0), (75, 0), (76, 0), (77, 0), (78, 0), (79, 0), (81, 0), (82, 0), (83, 0), (84, 0), (85, 0), (87, 0)] L h L h := hx_S.rf
  have b_a0 := hT.gi gx tt_10 (k := 1) rfl
  rw [f_x_1] at b_a0
  have b_a0 : 0 ≤ a0.toInt ∧ a0.toInt ≤ 8 := b_a0
  have b_c0 := hT.gi gx tt_10 (k := 36) rfl
  rw [f_x_36] at b_c0
  have b_c0 : 0 ≤ c0.toInt ∧ c0.toInt ≤ 100 := b_c0
  have b_m0 := hT.gi gx tt_10 (k := 57) rfl
  rw [f_x_57] at b_m0
  have b_m0 : 0 ≤ m0.toInt ∧ m0.toInt ≤ 100 := b_m0
  have b_pn0 := hT.gi gx tt_10 (k := 20) rfl
  rw [f_x_20] at b_pn0
  have b_pn0 : 0 ≤ pn0.toInt ∧ pn0.toInt ≤ 40 := b_pn0
  have b_nw0 := hT.gi gx tt_10 (k := 0) rfl
  rw [f_x_0] at b_nw0
  have b_nw0 : 0 ≤ nw0.toInt ∧ nw0.toInt ≤ 7999 := b_nw0
  have hkb9 := hv_IF_b (A := A) (d := nw0.toInt) a0.toInt.toNat
  obtain ⟨pv9, hpv9⟩ : ∃ v : Int32, v.toInt = ((hv_IF A nw0.toInt a0.toInt.toNat : Nat) : Int) := ⟨Int32.ofNat (hv_IF A nw0.toInt a0.toInt.toNat), by rw [Int32.toInt_ofNat_of_lt (by omega)]⟩
  refine lv_aload_n hx hb dX10_file_0 rfl (lv_at hl 0 rfl) ?_
  refine hk_geti hx hb hts hC_10 hown hW (gx.S hM) tt_10 36 ?o0 rfl kw_1179 ⟨rfl, rfl, rfl⟩ f_x_36 dX10_file_1 ?_
  case o0 => decide
  refine lv_bipush (v := 100) hx hb dX10_file_4 ?o1 ?_
  case o1 => decide
  refine hb_icmp_eq (zx := c0.toInt) (zy := 100) (tgt := 74) hx hb rfl ?o2 dX10_file_6 ?o3 (fun c_1 => ?_) (fun c_1 => ?_)
  case o2 => decide
  case o3 => decide
  · skip
    refine lv_iconst (v := -1) hx hb dX10_file_74 ?o4 ?_
    case o4 => decide
    refine hx_reti hx hb hr hlk hW ⟨⟨c0, hf, plf, ff, agf, byf, smf, frf, flf, ntf, wtf, bnh, odf, szf, svf, f_x_36, af_qh, af_qc, af_qf, af_qag, af_qby, af_qsu, af_qow, af_qfl, af_qnt, af_qwt, af_qbe, af_qod, af_qsz, af_qsv, ⟨⟨hHC, hPL, (Or.inl ⟨?o5, ?o6, fun hc => by unfold hx_FC at hc; omega⟩), (Or.inl ⟨?o7, rfl⟩), (Or.inl ⟨?o8, rfl, rfl⟩), (Or.inl ⟨?o9, rfl⟩), (Or.inl ⟨?o10, rfl⟩), (Or.inl ⟨?o11, rfl⟩), (Or.inl ⟨?o12, rfl⟩), (Or.inl ⟨?o13, rfl⟩), (Or.inl ⟨?o14, rfl⟩), (Or.inl ⟨?o15, rfl⟩), (Or.inl ⟨?o16, rfl⟩), ⟨pv9, hpv9, (Or.inl ⟨?o17, rfl⟩)⟩, (Or.inl ⟨?o18, rfl⟩)⟩, ⟨(Or.inl ⟨?o19, rfl⟩), (Or.inl ⟨?o20, rfl⟩), (Or.inl ⟨?o21, rfl⟩)⟩⟩⟩, hT, hM⟩ dX10_file_75
    case o5 => decide
    case o6 => omega
    case o7 => decide
    case o8 => omega
    case o9 => decide
    case o10 => decide
    case o11 => decide
    case o12 => decide
    case o13 => decide
    case o14 => decide
    case o15 => decide
    case o16 => decide
    case o17 => decide
    case o18 => decide
    case o19 => decide
    case o20 => decide
    case o21 => decide
  · skip
    refine lv_aload_n hx hb dX10_file_9 rfl (lv_at hl 0 rfl) ?_
    refine lv_iload_n hx hb dX10_file_10 rfl (lv_at hl 1 rfl) ?_
    refine hx_goi (hx_runV (As := [.int i1]) (rest := []) ⟨hx, hb, hml, hown, hts⟩ hW (gx.S hM) tt_10 (T := TX10) (N := 98) rfl (t_X10_isPerson l dC dI dA L h s.heap.size x i1 hT (gx.S hM) pn0 ((hM.o gx trivial rfl).1.trans f_x_20)) (cwV 1 hts (hx_gV kw_1552 kw_1549 kw_1551 kw_68 kw_103) rfl rfl rfl (by decide +kernel) ⟨Nat.le_of_ble_eq_true rfl, Nat.le_of_ble_eq_true rfl⟩) rfl hl.1 rfl (Nat.le_of_ble_eq_true rfl) dX10_file_11 ⟨Nat.le_of_ble_eq_true rfl, Nat.le_of_ble_eq_true rfl⟩) hW (fun r_4 L_2 h_3 H locs p_5 hW => ?_)
    obtain ⟨hr_6, hT, hs⟩ := p_5
    replace hT : hx_T T_tb L_2 h_3 := hT
    replace hs : hx_S T_tb [] L h L_2 h_3 := hs
    replace f_x_36 := (hs.o (gx.S hM) trivial rfl).1.trans f_x_36
    replace af_qh : h_3.2.1 qh = hf := (funext fun j => (hs.a (gqh.S hM) rfl j).1).trans af_qh
    replace af_qc : h_3.2.1 qc = plf := (funext fun j => (hs.a (gqc.S hM) rfl j).1).trans af_qc
    replace af_qf : h_3.2.1 qf = ff := (funext fun j => (hs.a (gqf.S hM) rfl j).1).trans af_qf
    replace af_qag : h_3.2.1 qag = agf := (funext fun j => (hs.a (gqag.S hM) rfl j).1).trans af_qag
    replace af_qby : h_3.2.1 qby = byf := (funext fun j => (hs.a (gqby.S hM) rfl j).1).trans af_qby
    replace af_qsu : h_3.2.1 qsu = smf := (funext fun j => (hs.a (gqsu.S hM) rfl j).1).trans af_qsu
    replace af_qow : h_3.2.1 qow = frf := (funext fun j => (hs.a (gqow.S hM) rfl j).1).trans af_qow
    replace af_qfl : h_3.2.1 qfl = flf := (funext fun j => (hs.a (gqfl.S hM) rfl j).1).trans af_qfl
    replace af_qnt : h_3.2.1 qnt = ntf := (funext fun j => (hs.a (gqnt.S hM) rfl j).1).trans af_qnt
    replace af_qwt : h_3.2.1 qwt = wtf := (funext fun j => (hs.a (gqwt.S hM) rfl j).1).trans af_qwt
    replace af_qbe : h_3.2.1 qbe = bnh := (funext fun j => (hs.a (gqbe.S hM) rfl j).1).trans af_qbe
    replace af_qod : h_3.2.1 qod = odf := (funext fun j => (hs.a (gqod.S hM) rfl j).1).trans af_qod
    replace af_qsz : h_3.2.1 qsz = szf := (funext fun j => (hs.a (gqsz.S hM) rfl j).1).trans af_qsz
    replace af_qsv : h_3.2.1 qsv = svf := (funext fun j => (hs.a (gqsv.S hM) rfl j).1).trans af_qsv
    replace hM := hM.tr (hs.mono ?o22)
    case o22 => decide
    refine hb_if_eq (zx := r_4.toInt) (tgt := 74) hx hb rfl dX10_file_14 ?o23 (fun c_7 => ?_) (fun c_7 => ?_)
    case o23 => decide
    · skip
      replace hr_6 := hr_6.resolve_right (fun z9 => absurd (c_7.symm.trans z9.1) ?o24)
      case o24 => decide
      replace hr_6 := hr_6.2
      refine lv_iconst (v := -1) hx hb dX10_file_74 ?o25 ?_
      case o25 => decide
      refine hx_reti hx hb hr hlk hW ⟨⟨c0, hf, plf, ff, agf, byf, smf, frf, flf, ntf, wtf, bnh, odf, szf, svf, f_x_36, af_qh, af_qc, af_qf, af_qag, af_qby, af_qsu, af_qow, af_qfl, af_qnt, af_qwt, af_qbe, af_qod, af_qsz, af_qsv, ⟨⟨hHC, hPL, (Or.inl ⟨?o26, ?o27, fun hc => by unfold hx_FC at hc; omega⟩), (Or.inl ⟨?o28, rfl⟩), (Or.inl ⟨?o29, rfl, rfl⟩), (Or.inl ⟨?o30, rfl⟩), (Or.inl ⟨?o31, rfl⟩), (Or.inl ⟨?o32, rfl⟩), (Or.inl ⟨?o33, rfl⟩), (Or.inl ⟨?o34, rfl⟩), (Or.inl ⟨?o35, rfl⟩), (Or.inl ⟨?o36, rfl⟩), (Or.inl ⟨?o37, rfl⟩), ⟨pv9, hpv9, (Or.inl ⟨?o38, rfl⟩)⟩, (Or.inl ⟨?o39, rfl⟩)⟩, ⟨(Or.inl ⟨?o40, rfl⟩), (Or.inl ⟨?o41, rfl⟩), (Or.inl ⟨?o42, rfl⟩)⟩⟩⟩, hT, hM⟩ dX10_file_75
      case o26 => decide
      case o27 => omega
      case o28 => decide
      case o29 => omega
      case o30 => decide
      case o31 => decide
      case o32 => decide
      case o33 => decide
      case o34 => decide
      case o35 => decide
      case o36 => decide
      case o37 => decide
      case o38 => decide
      case o39 => decide
      case o40 => decide
      case o41 => decide
      case o42 => decide
    · skip
      replace hr_6 := hr_6.resolve_left (fun z9 => c_7 z9.1)
      replace c_7 := hr_6.1
      replace hr_6 := hr_6.2
      refine lv_aload_n hx hb dX10_file_17 rfl (lv_at hl 0 rfl) ?_
      refine lv_iload_n hx hb dX10_file_18 rfl (lv_at hl 2 rfl) ?_
      refine hx_goi (hx_runV (As := [.int i2]) (rest := []) ⟨hx, hb, hml, hown, hts⟩ hW (gx.S hM) tt_10 (T := TX10) (N := 98) rfl (t_X10_isPerson l dC dI dA L_2 h_3 H.size x i2 hT (gx.S hM) pn0 ((hM.o gx trivial rfl).1.trans f_x_20)) (cwV 1 hts (hx_gV kw_1552 kw_1549 kw_1551 kw_68 kw_103) rfl rfl rfl (by decide +kernel) ⟨Nat.le_of_ble_eq_true rfl, Nat.le_of_ble_eq_true rfl⟩) rfl hl.1 rfl (Nat.le_of_ble_eq_true rfl) dX10_file_19 ⟨Nat.le_of_ble_eq_true rfl, Nat.le_of_ble_eq_true rfl⟩) hW (fun r_10 L_8 h_9 H locs p_11 hW => ?_)
      obtain ⟨hr_12, hT, hs⟩ := p_11
      replace hT : hx_T T_tb L_8 h_9 := hT
      replace hs : hx_S T_tb [] L_2 h_3 L_8 h_9 := hs
      replace f_x_36 := (hs.o (gx.S hM) trivial rfl).1.trans f_x_36
      replace af_qh : h_9.2.1 qh = hf := (funext fun j => (hs.a (gqh.S hM) rfl j).1).trans af_qh
      replace af_qc : h_9.2.1 qc = plf := (funext fun j => (hs.a (gqc.S hM) rfl j).1).trans af_qc
      replace af_qf : h_9.2.1 qf = ff := (funext fun j => (hs.a (gqf.S hM) rfl j).1).trans af_qf
      replace af_qag : h_9.2.1 qag = agf := (funext fun j => (hs.a (gqag.S hM) rfl j).1).trans af_qag
      replace af_qby : h_9.2.1 qby = byf := (funext fun j => (hs.a (gqby.S hM) rfl j).1).trans af_qby
      replace af_qsu : h_9.2.1 qsu = smf := (funext fun j => (hs.a (gqsu.S hM) rfl j).1).trans af_qsu
      replace af_qow : h_9.2.1 qow = frf := (funext fun j => (hs.a (gqow.S hM) rfl j).1).trans af_qow
      replace af_qfl : h_9.2.1 qfl = flf := (funext fun j => (hs.a (gqfl.S hM) rfl j).1).trans af_qfl
      replace af_qnt : h_9.2.1 qnt = ntf := (funext fun j => (hs.a (gqnt.S hM) rfl j).1).trans af_qnt
      replace af_qwt : h_9.2.1 qwt = wtf := (funext fun j => (hs.a (gqwt.S hM) rfl j).1).trans af_qwt
      replace af_qbe : h_9.2.1 qbe = bnh := (funext fun j => (hs.a (gqbe.S hM) rfl j).1).trans af_qbe
      replace af_qod : h_9.2.1 qod = odf := (funext fun j => (hs.a (gqod.S hM) rfl j).1).trans af_qod
      replace af_qsz : h_9.2.1 qsz = szf := (funext fun j => (hs.a (gqsz.S hM) rfl j).1).trans af_qsz
      replace af_qsv : h_9.2.1 qsv = svf := (funext fun j => (hs.a (gqsv.S hM) rfl j).1).trans af_qsv
      replace hM := hM.tr (hs.mono ?o43)
      case o43 => decide
      refine hb_if_eq (zx := r_10.toInt) (tgt := 74) hx hb rfl dX10_file_22 ?o44 (fun c_13 => ?_) (fun c_13 => ?_)
      case o44 => decide
      · skip
        replace hr_12 := hr_12.resolve_right (fun z9 => absurd (c_13.symm.trans z9.1) ?o45)
        case o45 => decide
        replace hr_12 := hr_12.2
        refine lv_iconst (v := -1) hx hb dX10_file_74 ?o46 ?_
        case o46 => decide
        refine hx_reti hx hb hr hlk hW ⟨⟨c0, hf, plf, ff, agf, byf, smf, frf, flf, ntf, wtf, bnh, odf, szf, svf, f_x_36, af_qh, af_qc, af_qf, af_qag, af_qby, af_qsu, af_qow, af_qfl, af_qnt, af_qwt, af_qbe, af_qod, af_qsz, af_qsv, ⟨⟨hHC, hPL, (Or.inl ⟨?o47, ?o48, fun hc => by unfold hx_FC at hc; omega⟩), (Or.inl ⟨?o49, rfl⟩), (Or.inl ⟨?o50, rfl, rfl⟩), (Or.inl ⟨?o51, rfl⟩), (Or.inl ⟨?o52, rfl⟩), (Or.inl ⟨?o53, rfl⟩), (Or.inl ⟨?o54, rfl⟩), (Or.inl ⟨?o55, rfl⟩), (Or.inl ⟨?o56, rfl⟩), (Or.inl ⟨?o57, rfl⟩), (Or.inl ⟨?o58, rfl⟩), ⟨pv9, hpv9, (Or.inl ⟨?o59, rfl⟩)⟩, (Or.inl ⟨?o60, rfl⟩)⟩, ⟨(Or.inl ⟨?o61, rfl⟩), (Or.inl ⟨?o62, rfl⟩), (Or.inl ⟨?o63, rfl⟩)⟩⟩⟩, hT, hM⟩ dX10_file_75
        case o47 => decide
        case o48 => omega
        case o49 => decide
        case o50 => omega
        case o51 => decide
        case o52 => decide
        case o53 => decide
        case o54 => decide
        case o55 => decide
        case o56 => decide
        case o57 => decide
        case o58 => decide
        case o59 => decide
        case o60 => decide
        case o61 => decide
        case o62 => decide
        case o63 => decide
      · skip
        replace hr_12 := hr_12.resolve_left (fun z9 => c_13 z9.1)
        replace c_13 := hr_12.1
        replace hr_12 := hr_12.2
        refine lv_iload_n hx hb dX10_file_25 rfl (lv_at hl 1 rfl) ?_
        refine lv_iload_n hx hb dX10_file_26 rfl (lv_at hl 2 rfl) ?_
        refine hb_icmp_eq (zx := i1.toInt) (zy := i2.toInt) (tgt := 74) hx hb rfl rfl dX10_file_27 ?o64 (fun c_14 => ?_) (fun c_14 => ?_)
        case o64 => decide
        · skip
          refine lv_iconst (v := -1) hx hb dX10_file_74 ?o65 ?_
          case o65 => decide
          refine hx_reti hx hb hr hlk hW ⟨⟨c0, hf, plf, ff, agf, byf, smf, frf, flf, ntf, wtf, bnh, odf, szf, svf, f_x_36, af_qh, af_qc, af_qf, af_qag, af_qby, af_qsu, af_qow, af_qfl, af_qnt, af_qwt, af_qbe, af_qod, af_qsz, af_qsv, ⟨⟨hHC, hPL, (Or.inl ⟨?o66, ?o67, fun hc => by unfold hx_FC at hc; omega⟩), (Or.inl ⟨?o68, rfl⟩), (Or.inl ⟨?o69, rfl, rfl⟩), (Or.inl ⟨?o70, rfl⟩), (Or.inl ⟨?o71, rfl⟩), (Or.inl ⟨?o72, rfl⟩), (Or.inl ⟨?o73, rfl⟩), (Or.inl ⟨?o74, rfl⟩), (Or.inl ⟨?o75, rfl⟩), (Or.inl ⟨?o76, rfl⟩), (Or.inl ⟨?o77, rfl⟩), ⟨pv9, hpv9, (Or.inl ⟨?o78, rfl⟩)⟩, (Or.inl ⟨?o79, rfl⟩)⟩, ⟨(Or.inl ⟨?o80, rfl⟩), (Or.inl ⟨?o81, rfl⟩), (Or.inl ⟨?o82, rfl⟩)⟩⟩⟩, hT, hM⟩ dX10_file_75
          case o66 => decide
          case o67 => omega
          case o68 => decide
          case o69 => omega
          case o70 => decide
          case o71 => decide
          case o72 => decide
          case o73 => decide
          case o74 => decide
          case o75 => decide
          case o76 => decide
          case o77 => decide
          case o78 => decide
          case o79 => decide
          case o80 => decide
          case o81 => decide
          case o82 => decide
        · skip
          refine lv_aload_n hx hb dX10_file_30 rfl (lv_at hl 0 rfl) ?_
          refine hk_getr hx hb hts hC_10 hown hW (gx.S hM) tt_10 27 ?o83 rfl kw_1170 ⟨rfl, rfl, rfl⟩ ((hM.o gx trivial rfl).2.trans f_x_27) dX10_file_31 ?_
          case o83 => decide
          refine lv_iload_n hx hb dX10_file_34 rfl (lv_at hl 2 rfl) ?_
          refine hx_zald hx hb hW hT (gqd.S hM) tt_64 rfl ⟨?o84, ?o85⟩ dX10_file_35 (fun x_15 ex_15 lx_15 ux_15 => ?_)
          case o84 => omega
          case o85 => omega
          have ax_15 : x_15 = df i2.toNatClampNeg := ex_15.trans (congrFun (hx_afS hM gqd rfl af_qd) _)
          refine hb_if_ne (zx := x_15.toInt) (tgt := 74) hx hb rfl dX10_file_36 ?o86 (fun c_16 => ?_) (fun c_16 => ?_)
          case o86 => decide
          · skip
            refine lv_iconst (v := -1) hx hb dX10_file_74 ?o87 ?_
            case o87 => decide
            refine hx_reti hx hb hr hlk hW ⟨⟨c0, hf, plf, ff, agf, byf, smf, frf, flf, ntf, wtf, bnh, odf, szf, svf, f_x_36, af_qh, af_qc, af_qf, af_qag, af_qby, af_qsu, af_qow, af_qfl, af_qnt, af_qwt, af_qbe, af_qod, af_qsz, af_qsv, ⟨⟨hHC, hPL, (Or.inl ⟨?o88, ?o89, fun hc => by unfold hx_FC at hc; have h1 : (df i2.toNatClampNeg).toInt = 0 := hc.2.2.2.2.1; rw [← ax_15] at h1; omega⟩), (Or.inl ⟨?o90, rfl⟩), (Or.inl ⟨?o91, rfl, rfl⟩), (Or.inl ⟨?o92, rfl⟩), (Or.inl ⟨?o93, rfl⟩), (Or.inl ⟨?o94, rfl⟩), (Or.inl ⟨?o95, rfl⟩), (Or.inl ⟨?o96, rfl⟩), (Or.inl ⟨?o97, rfl⟩), (Or.inl ⟨?o98, rfl⟩), (Or.inl ⟨?o99, rfl⟩), ⟨pv9, hpv9, (Or.inl ⟨?o100, rfl⟩)⟩, (Or.inl ⟨?o101, rfl⟩)⟩, ⟨(Or.inl ⟨?o102, rfl⟩), (Or.inl ⟨?o103, rfl⟩), (Or.inl ⟨?o104, rfl⟩)⟩⟩⟩, hT, hM⟩ dX10_file_75
            case o88 => decide
            case o89 => omega
            case o90 => decide
            case o91 => omega
            case o92 => decide
            case o93 => decide
            case o94 => decide
            case o95 => decide
            case o96 => decide
            case o97 => decide
            case o98 => decide
            case o99 => decide
            case o100 => decide
            case o101 => decide
            case o102 => decide
            case o103 => decide
            case o104 => decide
          · skip
            refine lv_iload_n hx hb dX10_file_39 rfl (lv_at hl 3 rfl) ?_
            refine lv_iconst (v := 1) hx hb dX10_file_40 ?o105 ?_
            case o105 => decide
            refine lv_sipush (v := 9999) hx hb dX10_file_41 ?o106 ?_
            case o106 => decide
            have zc_9999 : (9999 : Int32).toInt = 9999 := ?o107
            case o107 => decide
            have zc_1 : (1 : Int32).toInt = 1 := ?o108
            case o108 => decide
            refine hx_goi (hx_runS (As := [.int i3, .int (1 : Int32), .int (9999 : Int32)]) (rest := []) ⟨hx, hb, hml, hown, hts⟩ hW (t_X10_in l dC dI dA L_8 h_9 H.size i3 (1 : Int32) (9999 : Int32) hT) (va_cwS 3 hts (hx_gS kw_1445 kw_1443 kw_1444 kw_103) rfl rfl rfl (by decide +kernel) ⟨Nat.le_of_ble_eq_true rfl, Nat.le_of_ble_eq_true rfl⟩) rfl hl.1 rfl (Nat.le_of_ble_eq_true rfl) dX10_file_44 ⟨Nat.le_of_ble_eq_true rfl, Nat.le_of_ble_eq_true rfl⟩) hW (fun r_19 L_17 h_18 H locs p_20 hW => ?_)
            obtain ⟨hr_21, hT, hs⟩ := p_20
            replace hT : hx_T T_tb L_17 h_18 := hT
            replace hs : hx_S T_tb [] L_8 h_9 L_17 h_18 := hs
            replace f_x_36 := (hs.o (gx.S hM) trivial rfl).1.trans f_x_36
            replace af_qh : h_18.2.1 qh = hf := (funext fun j => (hs.a (gqh.S hM) rfl j).1).trans af_qh
            replace af_qc : h_18.2.1 qc = plf := (funext fun j => (hs.a (gqc.S hM) rfl j).1).trans af_qc
            replace af_qf : h_18.2.1 qf = ff := (funext fun j => (hs.a (gqf.S hM) rfl j).1).trans af_qf
            replace af_qag : h_18.2.1 qag = agf := (funext fun j => (hs.a (gqag.S hM) rfl j).1).trans af_qag
            replace af_qby : h_18.2.1 qby = byf := (funext fun j => (hs.a (gqby.S hM) rfl j).1).trans af_qby
            replace af_qsu : h_18.2.1 qsu = smf := (funext fun j => (hs.a (gqsu.S hM) rfl j).1).trans af_qsu
            replace af_qow : h_18.2.1 qow = frf := (funext fun j => (hs.a (gqow.S hM) rfl j).1).trans af_qow
            replace af_qfl : h_18.2.1 qfl = flf := (funext fun j => (hs.a (gqfl.S hM) rfl j).1).trans af_qfl
            replace af_qnt : h_18.2.1 qnt = ntf := (funext fun j => (hs.a (gqnt.S hM) rfl j).1).trans af_qnt
            replace af_qwt : h_18.2.1 qwt = wtf := (funext fun j => (hs.a (gqwt.S hM) rfl j).1).trans af_qwt
            replace af_qbe : h_18.2.1 qbe = bnh := (funext fun j => (hs.a (gqbe.S hM) rfl j).1).trans af_qbe
            replace af_qod : h_18.2.1 qod = odf := (funext fun j => (hs.a (gqod.S hM) rfl j).1).trans af_qod
            replace af_qsz : h_18.2.1 qsz = szf := (funext fun j => (hs.a (gqsz.S hM) rfl j).1).trans af_qsz
            replace af_qsv : h_18.2.1 qsv = svf := (funext fun j => (hs.a (gqsv.S hM) rfl j).1).trans af_qsv
            replace ex_15 := ex_15.trans (hs.a (gqd.S hM) rfl _).1.symm
            replace hM := hM.tr (hs.mono ?o109)
            case o109 => decide
            refine hb_if_eq (zx := r_19.toInt) (tgt := 74) hx hb rfl dX10_file_47 ?o110 (fun c_22 => ?_) (fun c_22 => ?_)
            case o110 => decide
            · skip
              replace hr_21 := hr_21.resolve_right (fun z9 => absurd (c_22.symm.trans z9.1) ?o111)
              case o111 => decide
              replace hr_21 := hr_21.2
              refine lv_iconst (v := -1) hx hb dX10_file_74 ?o112 ?_
              case o112 => decide
              refine hx_reti hx hb hr hlk hW ⟨⟨c0, hf, plf, ff, agf, byf, smf, frf, flf, ntf, wtf, bnh, odf, szf, svf, f_x_36, af_qh, af_qc, af_qf, af_qag, af_qby, af_qsu, af_qow, af_qfl, af_qnt, af_qwt, af_qbe, af_qod, af_qsz, af_qsv, ⟨⟨hHC, hPL, (Or.inl ⟨?o113, ?o114, fun hc => by unfold hx_FC at hc; have h1 : (df i2.toNatClampNeg).toInt = 0 := hc.2.2.2.2.1; rw [← ax_15] at h1; omega⟩), (Or.inl ⟨?o115, rfl⟩), (Or.inl ⟨?o116, rfl, rfl⟩), (Or.inl ⟨?o117, rfl⟩), (Or.inl ⟨?o118, rfl⟩), (Or.inl ⟨?o119, rfl⟩), (Or.inl ⟨?o120, rfl⟩), (Or.inl ⟨?o121, rfl⟩), (Or.inl ⟨?o122, rfl⟩), (Or.inl ⟨?o123, rfl⟩), (Or.inl ⟨?o124, rfl⟩), ⟨pv9, hpv9, (Or.inl ⟨?o125, rfl⟩)⟩, (Or.inl ⟨?o126, rfl⟩)⟩, ⟨(Or.inl ⟨?o127, rfl⟩), (Or.inl ⟨?o128, rfl⟩), (Or.inl ⟨?o129, rfl⟩)⟩⟩⟩, hT, hM⟩ dX10_file_75
              case o113 => decide
              case o114 => omega
              case o115 => decide
              case o116 => omega
              case o117 => decide
              case o118 => decide
              case o119 => decide
              case o120 => decide
              case o121 => decide
              case o122 => decide
              case o123 => decide
              case o124 => decide
              case o125 => decide
              case o126 => decide
              case o127 => decide
              case o128 => decide
              case o129 => decide
            · skip
              replace hr_21 := hr_21.resolve_left (fun z9 => c_22 z9.1)
              replace c_22 := hr_21.1
              replace hr_21 := hr_21.2
              refine lv_iload hx hb dX10_file_50 (lv_at hl 4 rfl) ?_
              refine lv_iconst (v := 0) hx hb dX10_file_52 ?o130 ?_
              case o130 => decide
              refine lv_aload_n hx hb dX10_file_53 rfl (lv_at hl 0 rfl) ?_
              refine hk_geti hx hb hts hC_10 hown hW (gx.S hM) tt_10 0 ?o131 rfl kw_1143 ⟨rfl, rfl, rfl⟩ ((hM.o gx trivial rfl).1.trans f_x_0) dX10_file_54 ?_
              case o131 => decide
              have zc_0 : (0 : Int32).toInt = 0 := ?o132
              case o132 => decide
              refine hx_goi (hx_runS (As := [.int i4, .int (0 : Int32), .int nw0]) (rest := []) ⟨hx, hb, hml, hown, hts⟩ hW (t_X10_in l dC dI dA L_17 h_18 H.size i4 (0 : Int32) nw0 hT) (va_cwS 3 hts (hx_gS kw_1445 kw_1443 kw_1444 kw_103) rfl rfl rfl (by decide +kernel) ⟨Nat.le_of_ble_eq_true rfl, Nat.le_of_ble_eq_true rfl⟩) rfl hl.1 rfl (Nat.le_of_ble_eq_true rfl) dX10_file_57 ⟨Nat.le_of_ble_eq_true rfl, Nat.le_of_ble_eq_true rfl⟩) hW (fun r_25 L_23 h_24 H locs p_26 hW => ?_)
              obtain ⟨hr_27, hT, hs⟩ := p_26
              replace hT : hx_T T_tb L_23 h_24 := hT
              replace hs : hx_S T_tb [] L_17 h_18 L_23 h_24 := hs
              replace f_x_36 := (hs.o (gx.S hM) trivial rfl).1.trans f_x_36
              replace af_qh : h_24.2.1 qh = hf := (funext fun j => (hs.a (gqh.S hM) rfl j).1).trans af_qh
              replace af_qc : h_24.2.1 qc = plf := (funext fun j => (hs.a (gqc.S hM) rfl j).1).trans af_qc
              replace af_qf : h_24.2.1 qf = ff := (funext fun j => (hs.a (gqf.S hM) rfl j).1).trans af_qf
              replace af_qag : h_24.2.1 qag = agf := (funext fun j => (hs.a (gqag.S hM) rfl j).1).trans af_qag
              replace af_qby : h_24.2.1 qby = byf := (funext fun j => (hs.a (gqby.S hM) rfl j).1).trans af_qby
              replace af_qsu : h_24.2.1 qsu = smf := (funext fun j => (hs.a (gqsu.S hM) rfl j).1).trans af_qsu
              replace af_qow : h_24.2.1 qow = frf := (funext fun j => (hs.a (gqow.S hM) rfl j).1).trans af_qow
              replace af_qfl : h_24.2.1 qfl = flf := (funext fun j => (hs.a (gqfl.S hM) rfl j).1).trans af_qfl
              replace af_qnt : h_24.2.1 qnt = ntf := (funext fun j => (hs.a (gqnt.S hM) rfl j).1).trans af_qnt
              replace af_qwt : h_24.2.1 qwt = wtf := (funext fun j => (hs.a (gqwt.S hM) rfl j).1).trans af_qwt
              replace af_qbe : h_24.2.1 qbe = bnh := (funext fun j => (hs.a (gqbe.S hM) rfl j).1).trans af_qbe
              replace af_qod : h_24.2.1 qod = odf := (funext fun j => (hs.a (gqod.S hM) rfl j).1).trans af_qod
              replace af_qsz : h_24.2.1 qsz = szf := (funext fun j => (hs.a (gqsz.S hM) rfl j).1).trans af_qsz
              replace af_qsv : h_24.2.1 qsv = svf := (funext fun j => (hs.a (gqsv.S hM) rfl j).1).trans af_qsv
              replace ex_15 := ex_15.trans (hs.a (gqd.S hM) rfl _).1.symm
              replace hM := hM.tr (hs.mono ?o133)
              case o133 => decide
              refine hb_if_eq (zx := r_25.toInt) (tgt := 74) hx hb rfl dX10_file_60 ?o134 (fun c_28 => ?_) (fun c_28 => ?_)
              case o134 => decide
              · skip
                replace hr_27 := hr_27.resolve_right (fun z9 => absurd (c_28.symm.trans z9.1) ?o135)
                case o135 => decide
                replace hr_27 := hr_27.2
                refine lv_iconst (v := -1) hx hb dX10_file_74 ?o136 ?_
                case o136 => decide
                refine hx_reti hx hb hr hlk hW ⟨⟨c0, hf, plf, ff, agf, byf, smf, frf, flf, ntf, wtf, bnh, odf, szf, svf, f_x_36, af_qh, af_qc, af_qf, af_qag, af_qby, af_qsu, af_qow, af_qfl, af_qnt, af_qwt, af_qbe, af_qod, af_qsz, af_qsv, ⟨⟨hHC, hPL, (Or.inl ⟨?o137, ?o138, fun hc => by unfold hx_FC at hc; have h1 : (df i2.toNatClampNeg).toInt = 0 := hc.2.2.2.2.1; rw [← ax_15] at h1; omega⟩), (Or.inl ⟨?o139, rfl⟩), (Or.inl ⟨?o140, rfl, rfl⟩), (Or.inl ⟨?o141, rfl⟩), (Or.inl ⟨?o142, rfl⟩), (Or.inl ⟨?o143, rfl⟩), (Or.inl ⟨?o144, rfl⟩), (Or.inl ⟨?o145, rfl⟩), (Or.inl ⟨?o146, rfl⟩), (Or.inl ⟨?o147, rfl⟩), (Or.inl ⟨?o148, rfl⟩), ⟨pv9, hpv9, (Or.inl ⟨?o149, rfl⟩)⟩, (Or.inl ⟨?o150, rfl⟩)⟩, ⟨(Or.inl ⟨?o151, rfl⟩), (Or.inl ⟨?o152, rfl⟩), (Or.inl ⟨?o153, rfl⟩)⟩⟩⟩, hT, hM⟩ dX10_file_75
                case o137 => decide
                case o138 => omega
                case o139 => decide
                case o140 => omega
                case o141 => decide
                case o142 => decide
                case o143 => decide
                case o144 => decide
                case o145 => decide
                case o146 => decide
                case o147 => decide
                case o148 => decide
                case o149 => decide
                case o150 => decide
                case o151 => decide
                case o152 => decide
                case o153 => decide
              · skip
                replace hr_27 := hr_27.resolve_left (fun z9 => c_28 z9.1)
                replace c_28 := hr_27.1
                replace hr_27 := hr_27.2
                refine lv_iload hx hb dX10_file_63 (lv_at hl 6 rfl) ?_
                refine lv_iconst (v := 0) hx hb dX10_file_65 ?o154 ?_
                case o154 => decide
                refine lv_bipush (v := 9) hx hb dX10_file_66 ?o155 ?_
                case o155 => decide
                have zc_9 : (9 : Int32).toInt = 9 := ?o156
                case o156 => decide
                refine hx_goi (hx_runS (As := [.int i6, .int (0 : Int32), .int (9 : Int32)]) (rest := []) ⟨hx, hb, hml, hown, hts⟩ hW (t_X10_in l dC dI dA L_23 h_24 H.size i6 (0 : Int32) (9 : Int32) hT) (va_cwS 3 hts (hx_gS kw_1445 kw_1443 kw_1444 kw_103) rfl rfl rfl (by decide +kernel) ⟨Nat.le_of_ble_eq_true rfl, Nat.le_of_ble_eq_true rfl⟩) rfl hl.1 rfl (Nat.le_of_ble_eq_true rfl) dX10_file_68 ⟨Nat.le_of_ble_eq_true rfl, Nat.le_of_ble_eq_true rfl⟩) hW (fun r_31 L_29 h_30 H locs p_32 hW => ?_)
                obtain ⟨hr_33, hT, hs⟩ := p_32
                replace hT : hx_T T_tb L_29 h_30 := hT
                replace hs : hx_S T_tb [] L_23 h_24 L_29 h_30 := hs
                replace f_x_36 := (hs.o (gx.S hM) trivial rfl).1.trans f_x_36
                replace af_qh : h_30.2.1 qh = hf := (funext fun j => (hs.a (gqh.S hM) rfl j).1).trans af_qh
                replace af_qc : h_30.2.1 qc = plf := (funext fun j => (hs.a (gqc.S hM) rfl j).1).trans af_qc
                replace af_qf : h_30.2.1 qf = ff := (funext fun j => (hs.a (gqf.S hM) rfl j).1).trans af_qf
                replace af_qag : h_30.2.1 qag = agf := (funext fun j => (hs.a (gqag.S hM) rfl j).1).trans af_qag
                replace af_qby : h_30.2.1 qby = byf := (funext fun j => (hs.a (gqby.S hM) rfl j).1).trans af_qby
                replace af_qsu : h_30.2.1 qsu = smf := (funext fun j => (hs.a (gqsu.S hM) rfl j).1).trans af_qsu
                replace af_qow : h_30.2.1 qow = frf := (funext fun j => (hs.a (gqow.S hM) rfl j).1).trans af_qow
                replace af_qfl : h_30.2.1 qfl = flf := (funext fun j => (hs.a (gqfl.S hM) rfl j).1).trans af_qfl
                replace af_qnt : h_30.2.1 qnt = ntf := (funext fun j => (hs.a (gqnt.S hM) rfl j).1).trans af_qnt
                replace af_qwt : h_30.2.1 qwt = wtf := (funext fun j => (hs.a (gqwt.S hM) rfl j).1).trans af_qwt
                replace af_qbe : h_30.2.1 qbe = bnh := (funext fun j => (hs.a (gqbe.S hM) rfl j).1).trans af_qbe
                replace af_qod : h_30.2.1 qod = odf := (funext fun j => (hs.a (gqod.S hM) rfl j).1).trans af_qod
                replace af_qsz : h_30.2.1 qsz = szf := (funext fun j => (hs.a (gqsz.S hM) rfl j).1).trans af_qsz
                replace af_qsv : h_30.2.1 qsv = svf := (funext fun j => (hs.a (gqsv.S hM) rfl j).1).trans af_qsv
                replace ex_15 := ex_15.trans (hs.a (gqd.S hM) rfl _).1.symm
                replace hM := hM.tr (hs.mono ?o157)
                case o157 => decide
                refine hb_if_ne (zx := r_31.toInt) (tgt := 76) hx hb rfl dX10_file_71 ?o158 (fun c_34 => ?_) (fun c_34 => ?_)
                case o158 => decide
                · skip
                  replace hr_33 := hr_33.resolve_left (fun z9 => c_34 z9.1)
                  replace c_34 := hr_33.1
                  replace hr_33 := hr_33.2
                  refine lv_aload_n hx hb dX10_file_76 rfl (lv_at hl 0 rfl) ?_
                  refine hk_geti hx hb hts hC_10 hown hW (gx.S hM) tt_10 36 ?o159 rfl kw_1179 ⟨rfl, rfl, rfl⟩ f_x_36 dX10_file_77 ?_
                  case o159 => decide
                  refine lv_istore (lv' := [(7, .int c0), (0, .ref x), (1, .int i1), (2, .int i2), (3, .int i3), (4, .int i4), (5, .int i5), (6, .int i6)]) hx hb dX10_file_80 hl ?o160 rfl (fun ls hl => ?_)
                  case o160 => decide
                  refine lv_aload_n hx hb dX10_file_82 rfl (lv_at hl 1 rfl) ?_
                  refine hk_getr hx hb hts hC_10 hown hW (gx.S hM) tt_10 37 ?o161 rfl kw_1180 ⟨rfl, rfl, rfl⟩ ((hM.o gx trivial rfl).2.trans f_x_37) dX10_file_83 ?_
                  case o161 => decide
                  refine lv_iload hx hb dX10_file_86 (lv_at hl 0 rfl) ?_
                  refine lv_iload_n hx hb dX10_file_88 rfl (lv_at hl 2 rfl) ?_
                  have af_qbyO := af_qby
                  refine hx_iast hx hb hW hT (hx_S.rf (M := [(72, 0)])) (gqby.S hM) tt_72 rfl ⟨?o162, ?o163⟩ rfl ⟨?o164, ?o165⟩ (List.mem_singleton.mpr rfl) dX10_file_89 (fun H locs h_35 eh_35 hW hT hs => ?_)
                  case o162 => omega
                  case o163 => omega
                  case o164 => omega
                  case o165 => omega
                  replace f_x_36 := (hs.o (gx.S hM) trivial rfl).1.trans f_x_36
                  replace af_qh : h_35.2.1 qh = hf := (funext fun j => (hs.a (gqh.S hM) rfl j).1).trans af_qh
                  replace af_qc : h_35.2.1 qc = plf := (funext fun j => (hs.a (gqc.S hM) rfl j).1).trans af_qc
                  replace af_qf : h_35.2.1 qf = ff := (funext fun j => (hs.a (gqf.S hM) rfl j).1).trans af_qf
                  replace af_qag : h_35.2.1 qag = agf := (funext fun j => (hs.a (gqag.S hM) rfl j).1).trans af_qag
                  replace af_qsu : h_35.2.1 qsu = smf := (funext fun j => (hs.a (gqsu.S hM) rfl j).1).trans af_qsu
                  replace af_qow : h_35.2.1 qow = frf := (funext fun j => (hs.a (gqow.S hM) rfl j).1).trans af_qow
                  replace af_qfl : h_35.2.1 qfl = flf := (funext fun j => (hs.a (gqfl.S hM) rfl j).1).trans af_qfl
                  replace af_qnt : h_35.2.1 qnt = ntf := (funext fun j => (hs.a (gqnt.S hM) rfl j).1).trans af_qnt
                  replace af_qwt : h_35.2.1 qwt = wtf := (funext fun j => (hs.a (gqwt.S hM) rfl j).1).trans af_qwt
                  replace af_qbe : h_35.2.1 qbe = bnh := (funext fun j => (hs.a (gqbe.S hM) rfl j).1).trans af_qbe
                  replace af_qod : h_35.2.1 qod = odf := (funext fun j => (hs.a (gqod.S hM) rfl j).1).trans af_qod
                  replace af_qsz : h_35.2.1 qsz = szf := (funext fun j => (hs.a (gqsz.S hM) rfl j).1).trans af_qsz
                  replace af_qsv : h_35.2.1 qsv = svf := (funext fun j => (hs.a (gqsv.S hM) rfl j).1).trans af_qsv
                  replace ex_15 := ex_15.trans (hs.a (gqd.S hM) rfl _).1.symm
                  replace hM := hM.tr (hs.mono ?o166)
                  case o166 => decide
                  obtain ⟨fa_36, dfa_36⟩ : ∃ g : Nat → Int32, g = hx_up byf c0.toNatClampNeg i1 := ⟨_, rfl⟩
                  have nfa_36 : h_35.2.1 qby = fa_36 := ?o167
                  case o167 =>
                    rw [eh_35, dfa_36, ← af_qbyO]
                    exact hx_pi_fun _ _ _ _
                  refine lv_aload_n hx hb dX10_file_90 rfl (lv_at hl 1 rfl) ?_
                  refine hk_getr hx hb hts hC_10 hown hW (gx.S hM) tt_10 38 ?o168 rfl kw_1181 ⟨rfl, rfl, rfl⟩ ((hM.o gx trivial rfl).2.trans f_x_38) dX10_file_91 ?_
                  case o168 => decide
                  refine lv_iload hx hb dX10_file_94 (lv_at hl 0 rfl) ?_
                  refine lv_iload_n hx hb dX10_file_96 rfl (lv_at hl 3 rfl) ?_
                  have af_qagO := af_qag
                  refine hx_iast hx hb hW hT (hx_S.rf (M := [(73, 0)])) (gqag.S hM) tt_73 rfl ⟨?o169, ?o170⟩ rfl ⟨?o171, ?o172⟩ (List.mem_singleton.mpr rfl) dX10_file_97 (fun H locs h_37 eh_37 hW hT hs => ?_)
                  case o169 => omega
                  case o170 => omega
                  case o171 => omega
                  case o172 => omega
                  replace f_x_36 := (hs.o (gx.S hM) trivial rfl).1.trans f_x_36
                  replace af_qh : h_37.2.1 qh = hf := (funext fun j => (hs.a (gqh.S hM) rfl j).1).trans af_qh
                  replace af_qc : h_37.2.1 qc = plf := (funext fun j => (hs.a (gqc.S hM) rfl j).1).trans af_qc
                  replace af_qf : h_37.2.1 qf = ff := (funext fun j => (hs.a (gqf.S hM) rfl j).1).trans af_qf
                  replace af_qsu : h_37.2.1 qsu = smf := (funext fun j => (hs.a (gqsu.S hM) rfl j).1).trans af_qsu
                  replace af_qow : h_37.2.1 qow = frf := (funext fun j => (hs.a (gqow.S hM) rfl j).1).trans af_qow
                  replace af_qfl : h_37.2.1 qfl = flf := (funext fun j => (hs.a (gqfl.S hM) rfl j).1).trans af_qfl
                  replace af_qnt : h_37.2.1 qnt = ntf := (funext fun j => (hs.a (gqnt.S hM) rfl j).1).trans af_qnt
                  replace af_qwt : h_37.2.1 qwt = wtf := (funext fun j => (hs.a (gqwt.S hM) rfl j).1).trans af_qwt
                  replace af_qbe : h_37.2.1 qbe = bnh := (funext fun j => (hs.a (gqbe.S hM) rfl j).1).trans af_qbe
                  replace af_qod : h_37.2.1 qod = odf := (funext fun j => (hs.a (gqod.S hM) rfl j).1).trans af_qod
                  replace af_qsz : h_37.2.1 qsz = szf := (funext fun j => (hs.a (gqsz.S hM) rfl j).1).trans af_qsz
                  replace af_qsv : h_37.2.1 qsv = svf := (funext fun j => (hs.a (gqsv.S hM) rfl j).1).trans af_qsv
                  replace nfa_36 : h_37.2.1 qby = fa_36 := (funext fun j => (hs.a (gqby.S hM) rfl j).1).trans nfa_36
                  replace ex_15 := ex_15.trans (hs.a (gqd.S hM) rfl _).1.symm
                  replace hM := hM.tr (hs.mono ?o173)
                  case o173 => decide
                  obtain ⟨fa_38, dfa_38⟩ : ∃ g : Nat → Int32, g = hx_up agf c0.toNatClampNeg i2 := ⟨_, rfl⟩
                  have nfa_38 : h_37.2.1 qag = fa_38 := ?o174
                  case o174 =>
                    rw [eh_37, dfa_38, ← af_qagO]
                    exact hx_pi_fun _ _ _ _
                  refine lv_aload_n hx hb dX10_file_98 rfl (lv_at hl 1 rfl) ?_
                  refine hk_getr hx hb hts hC_10 hown hW (gx.S hM) tt_10 39 ?o175 rfl kw_1182 ⟨rfl, rfl, rfl⟩ ((hM.o gx trivial rfl).2.trans f_x_39) dX10_file_99 ?_
                  case o175 => decide
                  refine lv_iload hx hb dX10_file_102 (lv_at hl 0 rfl) ?_
                  refine lv_iload_n hx hb dX10_file_104 rfl (lv_at hl 4 rfl) ?_
                  have af_qsuO := af_qsu
                  refine hx_iast hx hb hW hT (hx_S.rf (M := [(74, 0)])) (gqsu.S hM) tt_74 rfl ⟨?o176, ?o177⟩ rfl ⟨?o178, ?o179⟩ (List.mem_singleton.mpr rfl) dX10_file_105 (fun H locs h_39 eh_39 hW hT hs => ?_)
                  case o176 => omega
                  case o177 => omega
                  case o178 => omega
                  case o179 => omega
                  replace f_x_36 := (hs.o (gx.S hM) trivial rfl).1.trans f_x_36
                  replace af_qh : h_39.2.1 qh = hf := (funext fun j => (hs.a (gqh.S hM) rfl j).1).trans af_qh
                  replace af_qc : h_39.2.1 qc = plf := (funext fun j => (hs.a (gqc.S hM) rfl j).1).trans af_qc
                  replace af_qf : h_39.2.1 qf = ff := (funext fun j => (hs.a (gqf.S hM) rfl j).1).trans af_qf
                  replace af_qow : h_39.2.1 qow = frf := (funext fun j => (hs.a (gqow.S hM) rfl j).1).trans af_qow
                  replace af_qfl : h_39.2.1 qfl = flf := (funext fun j => (hs.a (gqfl.S hM) rfl j).1).trans af_qfl
                  replace af_qnt : h_39.2.1 qnt = ntf := (funext fun j => (hs.a (gqnt.S hM) rfl j).1).trans af_qnt
                  replace af_qwt : h_39.2.1 qwt = wtf := (funext fun j => (hs.a (gqwt.S hM) rfl j).1).trans af_qwt
                  replace af_qbe : h_39.2.1 qbe = bnh := (funext fun j => (hs.a (gqbe.S hM) rfl j).1).trans af_qbe
                  replace af_qod : h_39.2.1 qod = odf := (funext fun j => (hs.a (gqod.S hM) rfl j).1).trans af_qod
                  replace af_qsz : h_39.2.1 qsz = szf := (funext fun j => (hs.a (gqsz.S hM) rfl j).1).trans af_qsz
                  replace af_qsv : h_39.2.1 qsv = svf := (funext fun j => (hs.a (gqsv.S hM) rfl j).1).trans af_qsv
                  replace nfa_36 : h_39.2.1 qby = fa_36 := (funext fun j => (hs.a (gqby.S hM) rfl j).1).trans nfa_36
                  replace nfa_38 : h_39.2.1 qag = fa_38 := (funext fun j => (hs.a (gqag.S hM) rfl j).1).trans nfa_38
                  replace ex_15 := ex_15.trans (hs.a (gqd.S hM) rfl _).1.symm
                  replace hM := hM.tr (hs.mono ?o180)
                  case o180 => decide
                  obtain ⟨fa_40, dfa_40⟩ : ∃ g : Nat → Int32, g = hx_up smf c0.toNatClampNeg i3 := ⟨_, rfl⟩
                  have nfa_40 : h_39.2.1 qsu = fa_40 := ?o181
                  case o181 =>
                    rw [eh_39, dfa_40, ← af_qsuO]
                    exact hx_pi_fun _ _ _ _
                  refine lv_aload_n hx hb dX10_file_106 rfl (lv_at hl 1 rfl) ?_
                  refine hk_getr hx hb hts hC_10 hown hW (gx.S hM) tt_10 40 ?o182 rfl kw_1183 ⟨rfl, rfl, rfl⟩ ((hM.o gx trivial rfl).2.trans f_x_40) dX10_file_107 ?_
                  case o182 => decide
                  refine lv_iload hx hb dX10_file_110 (lv_at hl 0 rfl) ?_
                  refine lv_iload hx hb dX10_file_112 (lv_at hl 5 rfl) ?_
                  have af_qowO := af_qow
                  refine hx_iast hx hb hW hT (hx_S.rf (M := [(75, 0)])) (gqow.S hM) tt_75 rfl ⟨?o183, ?o184⟩ rfl ⟨?o185, ?o186⟩ (List.mem_singleton.mpr rfl) dX10_file_114 (fun H locs h_41 eh_41 hW hT hs => ?_)
                  case o183 => omega
                  case o184 => omega
                  case o185 => omega
                  case o186 => omega
                  replace f_x_36 := (hs.o (gx.S hM) trivial rfl).1.trans f_x_36
                  replace af_qh : h_41.2.1 qh = hf := (funext fun j => (hs.a (gqh.S hM) rfl j).1).trans af_qh
                  replace af_qc : h_41.2.1 qc = plf := (funext fun j => (hs.a (gqc.S hM) rfl j).1).trans af_qc
                  replace af_qf : h_41.2.1 qf = ff := (funext fun j => (hs.a (gqf.S hM) rfl j).1).trans af_qf
                  replace af_qfl : h_41.2.1 qfl = flf := (funext fun j => (hs.a (gqfl.S hM) rfl j).1).trans af_qfl
                  replace af_qnt : h_41.2.1 qnt = ntf := (funext fun j => (hs.a (gqnt.S hM) rfl j).1).trans af_qnt
                  replace af_qwt : h_41.2.1 qwt = wtf := (funext fun j => (hs.a (gqwt.S hM) rfl j).1).trans af_qwt
                  replace af_qbe : h_41.2.1 qbe = bnh := (funext fun j => (hs.a (gqbe.S hM) rfl j).1).trans af_qbe
                  replace af_qod : h_41.2.1 qod = odf := (funext fun j => (hs.a (gqod.S hM) rfl j).1).trans af_qod
                  replace af_qsz : h_41.2.1 qsz = szf := (funext fun j => (hs.a (gqsz.S hM) rfl j).1).trans af_qsz
                  replace af_qsv : h_41.2.1 qsv = svf := (funext fun j => (hs.a (gqsv.S hM) rfl j).1).trans af_qsv
                  replace nfa_36 : h_41.2.1 qby = fa_36 := (funext fun j => (hs.a (gqby.S hM) rfl j).1).trans nfa_36
                  replace nfa_38 : h_41.2.1 qag = fa_38 := (funext fun j => (hs.a (gqag.S hM) rfl j).1).trans nfa_38
                  replace nfa_40 : h_41.2.1 qsu = fa_40 := (funext fun j => (hs.a (gqsu.S hM) rfl j).1).trans nfa_40
                  replace ex_15 := ex_15.trans (hs.a (gqd.S hM) rfl _).1.symm
                  replace hM := hM.tr (hs.mono ?o187)
                  case o187 => decide
                  obtain ⟨fa_42, dfa_42⟩ : ∃ g : Nat → Int32, g = hx_up frf c0.toNatClampNeg i4 := ⟨_, rfl⟩
                  have nfa_42 : h_41.2.1 qow = fa_42 := ?o188
                  case o188 =>
                    rw [eh_41, dfa_42, ← af_qowO]
                    exact hx_pi_fun _ _ _ _
                  refine lv_aload_n hx hb dX10_file_115 rfl (lv_at hl 1 rfl) ?_
                  refine hk_getr hx hb hts hC_10 hown hW (gx.S hM) tt_10 41 ?o189 rfl kw_1184 ⟨rfl, rfl, rfl⟩ ((hM.o gx trivial rfl).2.trans f_x_41) dX10_file_116 ?_
                  case o189 => decide
                  refine lv_iload hx hb dX10_file_119 (lv_at hl 0 rfl) ?_
                  refine lv_iload hx hb dX10_file_121 (lv_at hl 6 rfl) ?_
                  have af_qntO := af_qnt
                  refine hx_zast hx hb hW hT (hx_S.rf (M := [(76, 0)])) (gqnt.S hM) tt_76 rfl ⟨?o190, ?o191⟩ (y := i5) (hx_nz01 ?o192) ⟨?o193, ?o194⟩ (List.mem_singleton.mpr rfl) dX10_file_123 (fun H locs h_43 eh_43 hW hT hs => ?_)
                  case o190 => omega
                  case o191 => omega
                  case o192 => omega
                  case o193 => omega
                  case o194 => omega
                  replace f_x_36 := (hs.o (gx.S hM) trivial rfl).1.trans f_x_36
                  replace af_qh : h_43.2.1 qh = hf := (funext fun j => (hs.a (gqh.S hM) rfl j).1).trans af_qh
                  replace af_qc : h_43.2.1 qc = plf := (funext fun j => (hs.a (gqc.S hM) rfl j).1).trans af_qc
                  replace af_qf : h_43.2.1 qf = ff := (funext fun j => (hs.a (gqf.S hM) rfl j).1).trans af_qf
                  replace af_qfl : h_43.2.1 qfl = flf := (funext fun j => (hs.a (gqfl.S hM) rfl j).1).trans af_qfl
                  replace af_qwt : h_43.2.1 qwt = wtf := (funext fun j => (hs.a (gqwt.S hM) rfl j).1).trans af_qwt
                  replace af_qbe : h_43.2.1 qbe = bnh := (funext fun j => (hs.a (gqbe.S hM) rfl j).1).trans af_qbe
                  replace af_qod : h_43.2.1 qod = odf := (funext fun j => (hs.a (gqod.S hM) rfl j).1).trans af_qod
                  replace af_qsz : h_43.2.1 qsz = szf := (funext fun j => (hs.a (gqsz.S hM) rfl j).1).trans af_qsz
                  replace af_qsv : h_43.2.1 qsv = svf := (funext fun j => (hs.a (gqsv.S hM) rfl j).1).trans af_qsv
                  replace nfa_36 : h_43.2.1 qby = fa_36 := (funext fun j => (hs.a (gqby.S hM) rfl j).1).trans nfa_36
                  replace nfa_38 : h_43.2.1 qag = fa_38 := (funext fun j => (hs.a (gqag.S hM) rfl j).1).trans nfa_38
                  replace nfa_40 : h_43.2.1 qsu = fa_40 := (funext fun j => (hs.a (gqsu.S hM) rfl j).1).trans nfa_40
                  replace nfa_42 : h_43.2.1 qow = fa_42 := (funext fun j => (hs.a (gqow.S hM) rfl j).1).trans nfa_42
                  replace ex_15 := ex_15.trans (hs.a (gqd.S hM) rfl _).1.symm
                  replace hM := hM.tr (hs.mono ?o195)
                  case o195 => decide
                  obtain ⟨fa_44, dfa_44⟩ : ∃ g : Nat → Int32, g = hx_up ntf c0.toNatClampNeg i5 := ⟨_, rfl⟩
                  have nfa_44 : h_43.2.1 qnt = fa_44 := ?o196
                  case o196 =>
                    rw [eh_43, dfa_44, ← af_qntO]
                    exact hx_pi_fun _ _ _ _
                  refine lv_aload_n hx hb dX10_file_124 rfl (lv_at hl 1 rfl) ?_
                  refine hk_getr hx hb hts hC_10 hown hW (gx.S hM) tt_10 42 ?o197 rfl kw_1185 ⟨rfl, rfl, rfl⟩ ((hM.o gx trivial rfl).2.trans f_x_42) dX10_file_125 ?_
                  case o197 => decide
                  refine lv_iload hx hb dX10_file_128 (lv_at hl 0 rfl) ?_
                  refine lv_iload hx hb dX10_file_130 (lv_at hl 7 rfl) ?_
                  have af_qwtO := af_qwt
                  refine hx_iast hx hb hW hT (hx_S.rf (M := [(77, 0)])) (gqwt.S hM) tt_77 rfl ⟨?o198, ?o199⟩ rfl ⟨?o200, ?o201⟩ (List.mem_singleton.mpr rfl) dX10_file_132 (fun H locs h_45 eh_45 hW hT hs => ?_)
                  case o198 => omega
                  case o199 => omega
                  case o200 => omega
                  case o201 => omega
                  replace f_x_36 := (hs.o (gx.S hM) trivial rfl).1.trans f_x_36
                  replace af_qh : h_45.2.1 qh = hf := (funext fun j => (hs.a (gqh.S hM) rfl j).1).trans af_qh
                  replace af_qc : h_45.2.1 qc = plf := (funext fun j => (hs.a (gqc.S hM) rfl j).1).trans af_qc
                  replace af_qf : h_45.2.1 qf = ff := (funext fun j => (hs.a (gqf.S hM) rfl j).1).trans af_qf
                  replace af_qfl : h_45.2.1 qfl = flf := (funext fun j => (hs.a (gqfl.S hM) rfl j).1).trans af_qfl
                  replace af_qbe : h_45.2.1 qbe = bnh := (funext fun j => (hs.a (gqbe.S hM) rfl j).1).trans af_qbe
                  replace af_qod : h_45.2.1 qod = odf := (funext fun j => (hs.a (gqod.S hM) rfl j).1).trans af_qod
                  replace af_qsz : h_45.2.1 qsz = szf := (funext fun j => (hs.a (gqsz.S hM) rfl j).1).trans af_qsz
                  replace af_qsv : h_45.2.1 qsv = svf := (funext fun j => (hs.a (gqsv.S hM) rfl j).1).trans af_qsv
                  replace nfa_36 : h_45.2.1 qby = fa_36 := (funext fun j => (hs.a (gqby.S hM) rfl j).1).trans nfa_36
                  replace nfa_38 : h_45.2.1 qag = fa_38 := (funext fun j => (hs.a (gqag.S hM) rfl j).1).trans nfa_38
                  replace nfa_40 : h_45.2.1 qsu = fa_40 := (funext fun j => (hs.a (gqsu.S hM) rfl j).1).trans nfa_40
                  replace nfa_42 : h_45.2.1 qow = fa_42 := (funext fun j => (hs.a (gqow.S hM) rfl j).1).trans nfa_42
                  replace nfa_44 : h_45.2.1 qnt = fa_44 := (funext fun j => (hs.a (gqnt.S hM) rfl j).1).trans nfa_44
                  replace ex_15 := ex_15.trans (hs.a (gqd.S hM) rfl _).1.symm
                  replace hM := hM.tr (hs.mono ?o202)
                  case o202 => decide
                  obtain ⟨fa_46, dfa_46⟩ : ∃ g : Nat → Int32, g = hx_up wtf c0.toNatClampNeg i6 := ⟨_, rfl⟩
                  have nfa_46 : h_45.2.1 qwt = fa_46 := ?o203
                  case o203 =>
                    rw [eh_45, dfa_46, ← af_qwtO]
                    exact hx_pi_fun _ _ _ _
                  refine lv_aload_n hx hb dX10_file_133 rfl (lv_at hl 1 rfl) ?_
                  refine hk_getr hx hb hts hC_10 hown hW (gx.S hM) tt_10 43 ?o204 rfl kw_1186 ⟨rfl, rfl, rfl⟩ ((hM.o gx trivial rfl).2.trans f_x_43) dX10_file_134 ?_
                  case o204 => decide
                  refine lv_iload hx hb dX10_file_137 (lv_at hl 0 rfl) ?_
                  refine lv_aload_n hx hb dX10_file_139 rfl (lv_at hl 1 rfl) ?_
                  refine hk_geti hx hb hts hC_10 hown hW (gx.S hM) tt_10 0 ?o205 rfl kw_1143 ⟨rfl, rfl, rfl⟩ ((hM.o gx trivial rfl).1.trans f_x_0) dX10_file_140 ?_
                  case o205 => decide
                  have af_qflO := af_qfl
                  refine hx_iast hx hb hW hT (hx_S.rf (M := [(78, 0)])) (gqfl.S hM) tt_78 rfl ⟨?o206, ?o207⟩ rfl ⟨?o208, ?o209⟩ (List.mem_singleton.mpr rfl) dX10_file_143 (fun H locs h_47 eh_47 hW hT hs => ?_)
                  case o206 => omega
                  case o207 => omega
                  case o208 => omega
                  case o209 => omega
                  replace f_x_36 := (hs.o (gx.S hM) trivial rfl).1.trans f_x_36
                  replace af_qh : h_47.2.1 qh = hf := (funext fun j => (hs.a (gqh.S hM) rfl j).1).trans af_qh
                  replace af_qc : h_47.2.1 qc = plf := (funext fun j => (hs.a (gqc.S hM) rfl j).1).trans af_qc
                  replace af_qf : h_47.2.1 qf = ff := (funext fun j => (hs.a (gqf.S hM) rfl j).1).trans af_qf
                  replace af_qbe : h_47.2.1 qbe = bnh := (funext fun j => (hs.a (gqbe.S hM) rfl j).1).trans af_qbe
                  replace af_qod : h_47.2.1 qod = odf := (funext fun j => (hs.a (gqod.S hM) rfl j).1).trans af_qod
                  replace af_qsz : h_47.2.1 qsz = szf := (funext fun j => (hs.a (gqsz.S hM) rfl j).1).trans af_qsz
                  replace af_qsv : h_47.2.1 qsv = svf := (funext fun j => (hs.a (gqsv.S hM) rfl j).1).trans af_qsv
                  replace nfa_36 : h_47.2.1 qby = fa_36 := (funext fun j => (hs.a (gqby.S hM) rfl j).1).trans nfa_36
                  replace nfa_38 : h_47.2.1 qag = fa_38 := (funext fun j => (hs.a (gqag.S hM) rfl j).1).trans nfa_38
                  replace nfa_40 : h_47.2.1 qsu = fa_40 := (funext fun j => (hs.a (gqsu.S hM) rfl j).1).trans nfa_40
                  replace nfa_42 : h_47.2.1 qow = fa_42 := (funext fun j => (hs.a (gqow.S hM) rfl j).1).trans nfa_42
                  replace nfa_44 : h_47.2.1 qnt = fa_44 := (funext fun j => (hs.a (gqnt.S hM) rfl j).1).trans nfa_44
                  replace nfa_46 : h_47.2.1 qwt = fa_46 := (funext fun j => (hs.a (gqwt.S hM) rfl j).1).trans nfa_46
                  replace ex_15 := ex_15.trans (hs.a (gqd.S hM) rfl _).1.symm
                  replace hM := hM.tr (hs.mono ?o210)
                  case o210 => decide
                  obtain ⟨fa_48, dfa_48⟩ : ∃ g : Nat → Int32, g = hx_up flf c0.toNatClampNeg nw0 := ⟨_, rfl⟩
                  have nfa_48 : h_47.2.1 qfl = fa_48 := ?o211
                  case o211 =>
                    rw [eh_47, dfa_48, ← af_qflO]
                    exact hx_pi_fun _ _ _ _
                  refine lv_aload_n hx hb dX10_file_144 rfl (lv_at hl 1 rfl) ?_
                  refine hk_getr hx hb hts hC_10 hown hW (gx.S hM) tt_10 44 ?o212 rfl kw_1187 ⟨rfl, rfl, rfl⟩ ((hM.o gx trivial rfl).2.trans f_x_44) dX10_file_145 ?_
                  case o212 => decide
                  refine lv_iload hx hb dX10_file_148 (lv_at hl 0 rfl) ?_
                  refine lv_aload_n hx hb dX10_file_150 rfl (lv_at hl 1 rfl) ?_
                  refine lv_aload_n hx hb dX10_file_151 rfl (lv_at hl 1 rfl) ?_
                  refine hk_geti hx hb hts hC_10 hown hW (gx.S hM) tt_10 0 ?o213 rfl kw_1143 ⟨rfl, rfl, rfl⟩ ((hM.o gx trivial rfl).1.trans f_x_0) dX10_file_152 ?_
                  case o213 => decide
                  refine hx_goi (hx_runV (As := [.int nw0]) (rest := [.int c0, .ref qc]) ⟨hx, hb, hml, hown, hts⟩ hW (gx.S hM) tt_10 (T := TX10) (N := 98) rfl (t_X10_inForce_v l dC dI dA L_29 h_47 H.size x nw0 hT (gx.S hM) qad (gqad.S hM) ((hM.o gx trivial rfl).2.trans f_x_2) qrl (gqrl.S hM) ((hM.o gx trivial rfl).2.trans f_x_3) qps (gqps.S hM) ((hM.o gx trivial rfl).2.trans f_x_4) qpr (gqpr.S hM) ((hM.o gx trivial rfl).2.trans f_x_5) adf (hx_afS hM gqad rfl af_qad) rlf (hx_afS hM gqrl rfl af_qrl) psf (hx_afS hM gqps rfl af_qps) prf (hx_afS hM gqpr rfl af_qpr) a0 ((hM.o gx trivial rfl).1.trans f_x_1) A hCA) (cwV 1 hts (hx_gV kw_1529 kw_1526 kw_1528 kw_65 kw_103) rfl rfl rfl (by decide +kernel) ⟨Nat.le_of_ble_eq_true rfl, Nat.le_of_ble_eq_true rfl⟩) rfl hl.1 rfl (Nat.le_of_ble_eq_true rfl) dX10_file_155 ⟨Nat.le_of_ble_eq_true rfl, Nat.le_of_ble_eq_true rfl⟩) hW (fun r_51 L_49 h_50 H locs p_52 hW => ?_)
                  obtain ⟨hr_53, hT, hs⟩ := p_52
                  replace hT : hx_T T_tb L_49 h_50 := hT
                  replace hs : hx_S T_tb [] L_29 h_47 L_49 h_50 := hs
                  replace f_x_36 := (hs.o (gx.S hM) trivial rfl).1.trans f_x_36
                  replace af_qh : h_50.2.1 qh = hf := (funext fun j => (hs.a (gqh.S hM) rfl j).1).trans af_qh
                  replace af_qc : h_50.2.1 qc = plf := (funext fun j => (hs.a (gqc.S hM) rfl j).1).trans af_qc
                  replace af_qf : h_50.2.1 qf = ff := (funext fun j => (hs.a (gqf.S hM) rfl j).1).trans af_qf
                  replace af_qbe : h_50.2.1 qbe = bnh := (funext fun j => (hs.a (gqbe.S hM) rfl j).1).trans af_qbe
                  replace af_qod : h_50.2.1 qod = odf := (funext fun j => (hs.a (gqod.S hM) rfl j).1).trans af_qod
                  replace af_qsz : h_50.2.1 qsz = szf := (funext fun j => (hs.a (gqsz.S hM) rfl j).1).trans af_qsz
                  replace af_qsv : h_50.2.1 qsv = svf := (funext fun j => (hs.a (gqsv.S hM) rfl j).1).trans af_qsv
                  replace nfa_36 : h_50.2.1 qby = fa_36 := (funext fun j => (hs.a (gqby.S hM) rfl j).1).trans nfa_36
                  replace nfa_38 : h_50.2.1 qag = fa_38 := (funext fun j => (hs.a (gqag.S hM) rfl j).1).trans nfa_38
                  replace nfa_40 : h_50.2.1 qsu = fa_40 := (funext fun j => (hs.a (gqsu.S hM) rfl j).1).trans nfa_40
                  replace nfa_42 : h_50.2.1 qow = fa_42 := (funext fun j => (hs.a (gqow.S hM) rfl j).1).trans nfa_42
                  replace nfa_44 : h_50.2.1 qnt = fa_44 := (funext fun j => (hs.a (gqnt.S hM) rfl j).1).trans nfa_44
                  replace nfa_46 : h_50.2.1 qwt = fa_46 := (funext fun j => (hs.a (gqwt.S hM) rfl j).1).trans nfa_46
                  replace nfa_48 : h_50.2.1 qfl = fa_48 := (funext fun j => (hs.a (gqfl.S hM) rfl j).1).trans nfa_48
                  replace ex_15 := ex_15.trans (hs.a (gqd.S hM) rfl _).1.symm
                  replace hM := hM.tr (hs.mono ?o214)
                  case o214 => decide
                  have af_qcO := af_qc
                  refine hx_iast hx hb hW hT (hx_S.rf (M := [(79, 0)])) (gqc.S hM) tt_79 rfl ⟨?o215, ?o216⟩ rfl ⟨?o217, ?o218⟩ (List.mem_singleton.mpr rfl) dX10_file_158 (fun H locs h_54 eh_54 hW hT hs => ?_)
                  case o215 => omega
                  case o216 => omega
                  case o217 => omega
                  case o218 => omega
                  replace f_x_36 := (hs.o (gx.S hM) trivial rfl).1.trans f_x_36
                  replace af_qh : h_54.2.1 qh = hf := (funext fun j => (hs.a (gqh.S hM) rfl j).1).trans af_qh
                  replace af_qf : h_54.2.1 qf = ff := (funext fun j => (hs.a (gqf.S hM) rfl j).1).trans af_qf
                  replace af_qbe : h_54.2.1 qbe = bnh := (funext fun j => (hs.a (gqbe.S hM) rfl j).1).trans af_qbe
                  replace af_qod : h_54.2.1 qod = odf := (funext fun j => (hs.a (gqod.S hM) rfl j).1).trans af_qod
                  replace af_qsz : h_54.2.1 qsz = szf := (funext fun j => (hs.a (gqsz.S hM) rfl j).1).trans af_qsz
                  replace af_qsv : h_54.2.1 qsv = svf := (funext fun j => (hs.a (gqsv.S hM) rfl j).1).trans af_qsv
                  replace nfa_36 : h_54.2.1 qby = fa_36 := (funext fun j => (hs.a (gqby.S hM) rfl j).1).trans nfa_36
                  replace nfa_38 : h_54.2.1 qag = fa_38 := (funext fun j => (hs.a (gqag.S hM) rfl j).1).trans nfa_38
                  replace nfa_40 : h_54.2.1 qsu = fa_40 := (funext fun j => (hs.a (gqsu.S hM) rfl j).1).trans nfa_40
                  replace nfa_42 : h_54.2.1 qow = fa_42 := (funext fun j => (hs.a (gqow.S hM) rfl j).1).trans nfa_42
                  replace nfa_44 : h_54.2.1 qnt = fa_44 := (funext fun j => (hs.a (gqnt.S hM) rfl j).1).trans nfa_44
                  replace nfa_46 : h_54.2.1 qwt = fa_46 := (funext fun j => (hs.a (gqwt.S hM) rfl j).1).trans nfa_46
                  replace nfa_48 : h_54.2.1 qfl = fa_48 := (funext fun j => (hs.a (gqfl.S hM) rfl j).1).trans nfa_48
                  replace ex_15 := ex_15.trans (hs.a (gqd.S hM) rfl _).1.symm
                  replace hM := hM.tr (hs.mono ?o219)
                  case o219 => decide
                  obtain ⟨fa_55, dfa_55⟩ : ∃ g : Nat → Int32, g = hx_up plf c0.toNatClampNeg r_51 := ⟨_, rfl⟩
                  have nfa_55 : h_54.2.1 qc = fa_55 := ?o220
                  case o220 =>
                    rw [eh_54, dfa_55, ← af_qcO]
                    exact hx_pi_fun _ _ _ _
                  refine lv_aload_n hx hb dX10_file_159 rfl (lv_at hl 1 rfl) ?_
                  refine hk_getr hx hb hts hC_10 hown hW (gx.S hM) tt_10 46 ?o221 rfl kw_1189 ⟨rfl, rfl, rfl⟩ ((hM.o gx trivial rfl).2.trans f_x_46) dX10_file_160 ?_
                  case o221 => decide
                  refine lv_iload hx hb dX10_file_163 (lv_at hl 0 rfl) ?_
                  refine lv_iconst (v := -1) hx hb dX10_file_165 ?o222 ?_
                  case o222 => decide
                  have af_qfO := af_qf
                  refine hx_iast hx hb hW hT (hx_S.rf (M := [(81, 0)])) (gqf.S hM) tt_81 rfl ⟨?o223, ?o224⟩ rfl ?o225 (List.mem_singleton.mpr rfl) dX10_file_166 (fun H locs h_56 eh_56 hW hT hs => ?_)
                  case o223 => omega
                  case o224 => omega
                  case o225 => decide
                  replace f_x_36 := (hs.o (gx.S hM) trivial rfl).1.trans f_x_36
                  replace af_qh : h_56.2.1 qh = hf := (funext fun j => (hs.a (gqh.S hM) rfl j).1).trans af_qh
                  replace af_qbe : h_56.2.1 qbe = bnh := (funext fun j => (hs.a (gqbe.S hM) rfl j).1).trans af_qbe
                  replace af_qod : h_56.2.1 qod = odf := (funext fun j => (hs.a (gqod.S hM) rfl j).1).trans af_qod
                  replace af_qsz : h_56.2.1 qsz = szf := (funext fun j => (hs.a (gqsz.S hM) rfl j).1).trans af_qsz
                  replace af_qsv : h_56.2.1 qsv = svf := (funext fun j => (hs.a (gqsv.S hM) rfl j).1).trans af_qsv
                  replace nfa_36 : h_56.2.1 qby = fa_36 := (funext fun j => (hs.a (gqby.S hM) rfl j).1).trans nfa_36
                  replace nfa_38 : h_56.2.1 qag = fa_38 := (funext fun j => (hs.a (gqag.S hM) rfl j).1).trans nfa_38
                  replace nfa_40 : h_56.2.1 qsu = fa_40 := (funext fun j => (hs.a (gqsu.S hM) rfl j).1).trans nfa_40
                  replace nfa_42 : h_56.2.1 qow = fa_42 := (funext fun j => (hs.a (gqow.S hM) rfl j).1).trans nfa_42
                  replace nfa_44 : h_56.2.1 qnt = fa_44 := (funext fun j => (hs.a (gqnt.S hM) rfl j).1).trans nfa_44
                  replace nfa_46 : h_56.2.1 qwt = fa_46 := (funext fun j => (hs.a (gqwt.S hM) rfl j).1).trans nfa_46
                  replace nfa_48 : h_56.2.1 qfl = fa_48 := (funext fun j => (hs.a (gqfl.S hM) rfl j).1).trans nfa_48
                  replace nfa_55 : h_56.2.1 qc = fa_55 := (funext fun j => (hs.a (gqc.S hM) rfl j).1).trans nfa_55
                  replace ex_15 := ex_15.trans (hs.a (gqd.S hM) rfl _).1.symm
                  replace hM := hM.tr (hs.mono ?o226)
                  case o226 => decide
                  obtain ⟨fa_57, dfa_57⟩ : ∃ g : Nat → Int32, g = hx_up ff c0.toNatClampNeg (-1 : Int32) := ⟨_, rfl⟩
                  have nfa_57 : h_56.2.1 qf = fa_57 := ?o227
                  case o227 =>
                    rw [eh_56, dfa_57, ← af_qfO]
                    exact hx_pi_fun _ _ _ _
                  refine lv_aload_n hx hb dX10_file_167 rfl (lv_at hl 1 rfl) ?_
                  refine hk_getr hx hb hts hC_10 hown hW (gx.S hM) tt_10 47 ?o228 rfl kw_1190 ⟨rfl, rfl, rfl⟩ ((hM.o gx trivial rfl).2.trans f_x_47) dX10_file_168 ?_
                  case o228 => decide
                  refine lv_iload hx hb dX10_file_171 (lv_at hl 0 rfl) ?_
                  refine lv_iconst (v := -1) hx hb dX10_file_173 ?o229 ?_
                  case o229 => decide
                  have af_qhO := af_qh
                  refine hx_iast hx hb hW hT (hx_S.rf (M := [(82, 0)])) (gqh.S hM) tt_82 rfl ⟨?o230, ?o231⟩ rfl ?o232 (List.mem_singleton.mpr rfl) dX10_file_174 (fun H locs h_58 eh_58 hW hT hs => ?_)
                  case o230 => omega
                  case o231 => omega
                  case o232 => decide
                  replace f_x_36 := (hs.o (gx.S hM) trivial rfl).1.trans f_x_36
                  replace af_qbe : h_58.2.1 qbe = bnh := (funext fun j => (hs.a (gqbe.S hM) rfl j).1).trans af_qbe
                  replace af_qod : h_58.2.1 qod = odf := (funext fun j => (hs.a (gqod.S hM) rfl j).1).trans af_qod
                  replace af_qsz : h_58.2.1 qsz = szf := (funext fun j => (hs.a (gqsz.S hM) rfl j).1).trans af_qsz
                  replace af_qsv : h_58.2.1 qsv = svf := (funext fun j => (hs.a (gqsv.S hM) rfl j).1).trans af_qsv
                  replace nfa_36 : h_58.2.1 qby = fa_36 := (funext fun j => (hs.a (gqby.S hM) rfl j).1).trans nfa_36
                  replace nfa_38 : h_58.2.1 qag = fa_38 := (funext fun j => (hs.a (gqag.S hM) rfl j).1).trans nfa_38
                  replace nfa_40 : h_58.2.1 qsu = fa_40 := (funext fun j => (hs.a (gqsu.S hM) rfl j).1).trans nfa_40
                  replace nfa_42 : h_58.2.1 qow = fa_42 := (funext fun j => (hs.a (gqow.S hM) rfl j).1).trans nfa_42
                  replace nfa_44 : h_58.2.1 qnt = fa_44 := (funext fun j => (hs.a (gqnt.S hM) rfl j).1).trans nfa_44
                  replace nfa_46 : h_58.2.1 qwt = fa_46 := (funext fun j => (hs.a (gqwt.S hM) rfl j).1).trans nfa_46
                  replace nfa_48 : h_58.2.1 qfl = fa_48 := (funext fun j => (hs.a (gqfl.S hM) rfl j).1).trans nfa_48
                  replace nfa_55 : h_58.2.1 qc = fa_55 := (funext fun j => (hs.a (gqc.S hM) rfl j).1).trans nfa_55
                  replace nfa_57 : h_58.2.1 qf = fa_57 := (funext fun j => (hs.a (gqf.S hM) rfl j).1).trans nfa_57
                  replace ex_15 := ex_15.trans (hs.a (gqd.S hM) rfl _).1.symm
                  replace hM := hM.tr (hs.mono ?o233)
                  case o233 => decide
                  obtain ⟨fa_59, dfa_59⟩ : ∃ g : Nat → Int32, g = hx_up hf c0.toNatClampNeg (-1 : Int32) := ⟨_, rfl⟩
                  have nfa_59 : h_58.2.1 qh = fa_59 := ?o234
                  case o234 =>
                    rw [eh_58, dfa_59, ← af_qhO]
                    exact hx_pi_fun _ _ _ _
                  refine lv_aload_n hx hb dX10_file_175 rfl (lv_at hl 1 rfl) ?_
                  refine hk_getr hx hb hts hC_10 hown hW (gx.S hM) tt_10 48 ?o235 rfl kw_1191 ⟨rfl, rfl, rfl⟩ ((hM.o gx trivial rfl).2.trans f_x_48) dX10_file_176 ?_
                  case o235 => decide
                  refine lv_iload hx hb dX10_file_179 (lv_at hl 0 rfl) ?_
                  refine lv_iconst (v := -1) hx hb dX10_file_181 ?o236 ?_
                  case o236 => decide
                  have af_qodO := af_qod
                  refine hx_iast hx hb hW hT (hx_S.rf (M := [(83, 0)])) (gqod.S hM) tt_83 rfl ⟨?o237, ?o238⟩ rfl ?o239 (List.mem_singleton.mpr rfl) dX10_file_182 (fun H locs h_60 eh_60 hW hT hs => ?_)
                  case o237 => omega
                  case o238 => omega
                  case o239 => decide
                  replace f_x_36 := (hs.o (gx.S hM) trivial rfl).1.trans f_x_36
                  replace af_qbe : h_60.2.1 qbe = bnh := (funext fun j => (hs.a (gqbe.S hM) rfl j).1).trans af_qbe
                  replace af_qsz : h_60.2.1 qsz = szf := (funext fun j => (hs.a (gqsz.S hM) rfl j).1).trans af_qsz
                  replace af_qsv : h_60.2.1 qsv = svf := (funext fun j => (hs.a (gqsv.S hM) rfl j).1).trans af_qsv
                  replace nfa_36 : h_60.2.1 qby = fa_36 := (funext fun j => (hs.a (gqby.S hM) rfl j).1).trans nfa_36
                  replace nfa_38 : h_60.2.1 qag = fa_38 := (funext fun j => (hs.a (gqag.S hM) rfl j).1).trans nfa_38
                  replace nfa_40 : h_60.2.1 qsu = fa_40 := (funext fun j => (hs.a (gqsu.S hM) rfl j).1).trans nfa_40
                  replace nfa_42 : h_60.2.1 qow = fa_42 := (funext fun j => (hs.a (gqow.S hM) rfl j).1).trans nfa_42
                  replace nfa_44 : h_60.2.1 qnt = fa_44 := (funext fun j => (hs.a (gqnt.S hM) rfl j).1).trans nfa_44
                  replace nfa_46 : h_60.2.1 qwt = fa_46 := (funext fun j => (hs.a (gqwt.S hM) rfl j).1).trans nfa_46
                  replace nfa_48 : h_60.2.1 qfl = fa_48 := (funext fun j => (hs.a (gqfl.S hM) rfl j).1).trans nfa_48
                  replace nfa_55 : h_60.2.1 qc = fa_55 := (funext fun j => (hs.a (gqc.S hM) rfl j).1).trans nfa_55
                  replace nfa_57 : h_60.2.1 qf = fa_57 := (funext fun j => (hs.a (gqf.S hM) rfl j).1).trans nfa_57
                  replace nfa_59 : h_60.2.1 qh = fa_59 := (funext fun j => (hs.a (gqh.S hM) rfl j).1).trans nfa_59
                  replace ex_15 := ex_15.trans (hs.a (gqd.S hM) rfl _).1.symm
                  replace hM := hM.tr (hs.mono ?o240)
                  case o240 => decide
                  obtain ⟨fa_61, dfa_61⟩ : ∃ g : Nat → Int32, g = hx_up odf c0.toNatClampNeg (-1 : Int32) := ⟨_, rfl⟩
                  have nfa_61 : h_60.2.1 qod = fa_61 := ?o241
                  case o241 =>
                    rw [eh_60, dfa_61, ← af_qodO]
                    exact hx_pi_fun _ _ _ _
                  refine lv_aload_n hx hb dX10_file_183 rfl (lv_at hl 1 rfl) ?_
                  refine hk_getr hx hb hts hC_10 hown hW (gx.S hM) tt_10 49 ?o242 rfl kw_1192 ⟨rfl, rfl, rfl⟩ ((hM.o gx trivial rfl).2.trans f_x_49) dX10_file_184 ?_
                  case o242 => decide
                  refine lv_iload hx hb dX10_file_187 (lv_at hl 0 rfl) ?_
                  refine lv_iconst (v := -1) hx hb dX10_file_189 ?o243 ?_
                  case o243 => decide
                  have af_qszO := af_qsz
                  refine hx_iast hx hb hW hT (hx_S.rf (M := [(84, 0)])) (gqsz.S hM) tt_84 rfl ⟨?o244, ?o245⟩ rfl ?o246 (List.mem_singleton.mpr rfl) dX10_file_190 (fun H locs h_62 eh_62 hW hT hs => ?_)
                  case o244 => omega
                  case o245 => omega
                  case o246 => decide
                  replace f_x_36 := (hs.o (gx.S hM) trivial rfl).1.trans f_x_36
                  replace af_qbe : h_62.2.1 qbe = bnh := (funext fun j => (hs.a (gqbe.S hM) rfl j).1).trans af_qbe
                  replace af_qsv : h_62.2.1 qsv = svf := (funext fun j => (hs.a (gqsv.S hM) rfl j).1).trans af_qsv
                  replace nfa_36 : h_62.2.1 qby = fa_36 := (funext fun j => (hs.a (gqby.S hM) rfl j).1).trans nfa_36
                  replace nfa_38 : h_62.2.1 qag = fa_38 := (funext fun j => (hs.a (gqag.S hM) rfl j).1).trans nfa_38
                  replace nfa_40 : h_62.2.1 qsu = fa_40 := (funext fun j => (hs.a (gqsu.S hM) rfl j).1).trans nfa_40
                  replace nfa_42 : h_62.2.1 qow = fa_42 := (funext fun j => (hs.a (gqow.S hM) rfl j).1).trans nfa_42
                  replace nfa_44 : h_62.2.1 qnt = fa_44 := (funext fun j => (hs.a (gqnt.S hM) rfl j).1).trans nfa_44
                  replace nfa_46 : h_62.2.1 qwt = fa_46 := (funext fun j => (hs.a (gqwt.S hM) rfl j).1).trans nfa_46
                  replace nfa_48 : h_62.2.1 qfl = fa_48 := (funext fun j => (hs.a (gqfl.S hM) rfl j).1).trans nfa_48
                  replace nfa_55 : h_62.2.1 qc = fa_55 := (funext fun j => (hs.a (gqc.S hM) rfl j).1).trans nfa_55
                  replace nfa_57 : h_62.2.1 qf = fa_57 := (funext fun j => (hs.a (gqf.S hM) rfl j).1).trans nfa_57
                  replace nfa_59 : h_62.2.1 qh = fa_59 := (funext fun j => (hs.a (gqh.S hM) rfl j).1).trans nfa_59
                  replace nfa_61 : h_62.2.1 qod = fa_61 := (funext fun j => (hs.a (gqod.S hM) rfl j).1).trans nfa_61
                  replace ex_15 := ex_15.trans (hs.a (gqd.S hM) rfl _).1.symm
                  replace hM := hM.tr (hs.mono ?o247)
                  case o247 => decide
                  obtain ⟨fa_63, dfa_63⟩ : ∃ g : Nat → Int32, g = hx_up szf c0.toNatClampNeg (-1 : Int32) := ⟨_, rfl⟩
                  have nfa_63 : h_62.2.1 qsz = fa_63 := ?o248
                  case o248 =>
                    rw [eh_62, dfa_63, ← af_qszO]
                    exact hx_pi_fun _ _ _ _
                  refine lv_aload_n hx hb dX10_file_191 rfl (lv_at hl 1 rfl) ?_
                  refine hk_getr hx hb hts hC_10 hown hW (gx.S hM) tt_10 50 ?o249 rfl kw_1193 ⟨rfl, rfl, rfl⟩ ((hM.o gx trivial rfl).2.trans f_x_50) dX10_file_192 ?_
                  case o249 => decide
                  refine lv_iload hx hb dX10_file_195 (lv_at hl 0 rfl) ?_
                  refine lv_iconst (v := -1) hx hb dX10_file_197 ?o250 ?_
                  case o250 => decide
                  have af_qsvO := af_qsv
                  refine hx_iast hx hb hW hT (hx_S.rf (M := [(85, 0)])) (gqsv.S hM) tt_85 rfl ⟨?o251, ?o252⟩ rfl ?o253 (List.mem_singleton.mpr rfl) dX10_file_198 (fun H locs h_64 eh_64 hW hT hs => ?_)
                  case o251 => omega
                  case o252 => omega
                  case o253 => decide
                  replace f_x_36 := (hs.o (gx.S hM) trivial rfl).1.trans f_x_36
                  replace af_qbe : h_64.2.1 qbe = bnh := (funext fun j => (hs.a (gqbe.S hM) rfl j).1).trans af_qbe
                  replace nfa_36 : h_64.2.1 qby = fa_36 := (funext fun j => (hs.a (gqby.S hM) rfl j).1).trans nfa_36
                  replace nfa_38 : h_64.2.1 qag = fa_38 := (funext fun j => (hs.a (gqag.S hM) rfl j).1).trans nfa_38
                  replace nfa_40 : h_64.2.1 qsu = fa_40 := (funext fun j => (hs.a (gqsu.S hM) rfl j).1).trans nfa_40
                  replace nfa_42 : h_64.2.1 qow = fa_42 := (funext fun j => (hs.a (gqow.S hM) rfl j).1).trans nfa_42
                  replace nfa_44 : h_64.2.1 qnt = fa_44 := (funext fun j => (hs.a (gqnt.S hM) rfl j).1).trans nfa_44
                  replace nfa_46 : h_64.2.1 qwt = fa_46 := (funext fun j => (hs.a (gqwt.S hM) rfl j).1).trans nfa_46
                  replace nfa_48 : h_64.2.1 qfl = fa_48 := (funext fun j => (hs.a (gqfl.S hM) rfl j).1).trans nfa_48
                  replace nfa_55 : h_64.2.1 qc = fa_55 := (funext fun j => (hs.a (gqc.S hM) rfl j).1).trans nfa_55
                  replace nfa_57 : h_64.2.1 qf = fa_57 := (funext fun j => (hs.a (gqf.S hM) rfl j).1).trans nfa_57
                  replace nfa_59 : h_64.2.1 qh = fa_59 := (funext fun j => (hs.a (gqh.S hM) rfl j).1).trans nfa_59
                  replace nfa_61 : h_64.2.1 qod = fa_61 := (funext fun j => (hs.a (gqod.S hM) rfl j).1).trans nfa_61
                  replace nfa_63 : h_64.2.1 qsz = fa_63 := (funext fun j => (hs.a (gqsz.S hM) rfl j).1).trans nfa_63
                  replace ex_15 := ex_15.trans (hs.a (gqd.S hM) rfl _).1.symm
                  replace hM := hM.tr (hs.mono ?o254)
                  case o254 => decide
                  obtain ⟨fa_65, dfa_65⟩ : ∃ g : Nat → Int32, g = hx_up svf c0.toNatClampNeg (-1 : Int32) := ⟨_, rfl⟩
                  have nfa_65 : h_64.2.1 qsv = fa_65 := ?o255
                  case o255 =>
                    rw [eh_64, dfa_65, ← af_qsvO]
                    exact hx_pi_fun _ _ _ _
                  refine lv_iconst (v := 0) hx hb dX10_file_199 ?o256 ?_
                  case o256 => decide
                  refine lv_istore (lv' := [(8, .int (0 : Int32)), (7, .int c0), (0, .ref x), (1, .int i1), (2, .int i2), (3, .int i3), (4, .int i4), (5, .int i5), (6, .int i6)]) hx hb dX10_file_200 hl ?o257 rfl (fun ls hl => ?_)
                  case o257 => decide
                  have loop202 : ∀ (n202 : Nat) (iv202_8 : Int32) (ia202_qbe : Nat → Int32) (H : Heap) (locs : List Loc) (hL1 : List Nat) (hl1 : hx_h), 0 ≤ iv202_8.toInt → iv202_8.toInt ≤ 3 → (ia202_qbe = hv_b3k bnh c0.toInt.toNat (iv202_8.toInt).toNat) → ∀ (ls : Array Slot), 3 - iv202_8.toInt < (n202 : Int) → hx_W T_tb (P_ty dA) (dC, dI) vwCl (hx_A L sz) s.heap hL1 hl1 s H locs → hx_T T_tb hL1 hl1 → hx_S T_tb [(10, 36), (72, 0), (73, 0), (74, 0), (75, 0), (76, 0), (77, 0), (78, 0), (79, 0), (81, 0), (82, 0), (83, 0), (84, 0), (85, 0), (87, 0)] L h hL1 hl1 → hl1.2.1 x 36 = c0 → hl1.2.1 qbe = ia202_qbe → hl1.2.1 qby = fa_36 → hl1.2.1 qag = fa_38 → hl1.2.1 qsu = fa_40 → hl1.2.1 qow = fa_42 → hl1.2.1 qnt = fa_44 → hl1.2.1 qwt = fa_46 → hl1.2.1 qfl = fa_48 → hl1.2.1 qc = fa_55 → hl1.2.1 qf = fa_57 → hl1.2.1 qh = fa_59 → hl1.2.1 qod = fa_61 → hl1.2.1 qsz = fa_63 → hl1.2.1 qsv = fa_65 → lv_has ls 9 [(8, .int iv202_8), (7, .int c0), (0, .ref x), (1, .int i1), (2, .int i2), (3, .int i3), (4, .int i4), (5, .int i5), (6, .int i6)] → W p l e ({ frames := 2, cells := 0, slots := 0, locals := 43 }) s m ([.ref x, .int i1, .int i2, .int i3, .int i4, .int i5, .int i6] : List Value).toArray below meth c H locs 0 0 (MQ below (va_Qi (fun (r : Int32) (u : List Nat × hx_h) => (∃ (cn1 : Int32) (hf1 : Nat → Int32) (plf1 : Nat → Int32) (ff1 : Nat → Int32) (agf1 : Nat → Int32) (byf1 : Nat → Int32) (smf1 : Nat → Int32) (frf1 : Nat → Int32) (flf1 : Nat → Int32) (ntf1 : Nat → Int32) (wtf1 : Nat → Int32) (bnh1 : Nat → Int32) (odf1 : Nat → Int32) (szf1 : Nat → Int32) (svf1 : Nat → Int32), u.2.2.1 x 36 = cn1 ∧ u.2.2.1 qh = hf1 ∧ u.2.2.1 qc = plf1 ∧ u.2.2.1 qf = ff1 ∧ u.2.2.1 qag = agf1 ∧ u.2.2.1 qby = byf1 ∧ u.2.2.1 qsu = smf1 ∧ u.2.2.1 qow = frf1 ∧ u.2.2.1 qfl = flf1 ∧ u.2.2.1 qnt = ntf1 ∧ u.2.2.1 qwt = wtf1 ∧ u.2.2.1 qbe = bnh1 ∧ u.2.2.1 qod = odf1 ∧ u.2.2.1 qsz = szf1 ∧ u.2.2.1 qsv = svf1 ∧ ((m0.toInt = hx_hc hf1 cn1.toInt.toNat ∧ hx_PL plf1 cn1.toInt a0.toInt ∧ (hx_FS c0.toInt pn0.toInt nw0.toInt i1.toInt i2.toInt i3.toInt i4.toInt i6.toInt df r.toInt cn1.toInt) ∧ hx_CD c0.toInt r.toInt (-1) ff ff1 ∧ ((cn1.toInt = c0.toInt ∧ hf1 = hf ∧ ff1 = ff) ∨ (cn1.toInt = c0.toInt + 1 ∧ hf1 = hx_up hf c0.toInt.toNat (-1) ∧ ff1 = hx_up ff c0.toInt.toNat (-1))) ∧ hw_UP r.toInt c0.toInt i2 agf agf1 ∧ hx_CD c0.toInt r.toInt (-1) hf hf1 ∧ hw_UP r.toInt c0.toInt i1 byf byf1 ∧ hx_CD c0.toInt r.toInt i3 smf smf1 ∧ hx_CD c0.toInt r.toInt i4 frf frf1 ∧ hx_CD c0.toInt r.toInt nw0 flf flf1 ∧ hw_UP r.toInt c0.toInt i5 ntf ntf1 ∧ hw_UP r.toInt c0.toInt i6 wtf wtf1 ∧ (∃ pv : Int32, pv.toInt = ((hv_IF A nw0.toInt a0.toInt.toNat : Nat) : Int) ∧ hw_UP r.toInt c0.toInt pv plf plf1) ∧ hv_BU r.toInt c0.toInt bnh bnh1) ∧ (hx_CD c0.toInt r.toInt (-1) odf odf1 ∧ hx_CD c0.toInt r.toInt (-1) szf szf1 ∧ hx_CD c0.toInt r.toInt (-1) svf svf1))) ∧ hx_T T_tb u.1 u.2 ∧ hx_S T_tb [(10, 36), (72, 0), (73, 0), (74, 0), (75, 0), (76, 0), (77, 0), (78, 0), (79, 0), (81, 0), (82, 0), (83, 0), (84, 0), (85, 0), (87, 0)] L h u.1 u.2) (hx_E T_tb (P_ty dA) (dC, dI) vwCl (hx_A L sz)) (hx_A L sz)) ([.ref x, .int i1, .int i2, .int i3, .int i4, .int i5, .int i6] : List Value).toArray s 0 0 (hx_A L sz)) (F0 m 202 ls []) := by
                    intro n202
                    induction n202 with
                    | zero => intro iv202_8 ia202_qbe H locs hL1 hl1 bliv202_8 buiv202_8 vi202_0 ls hn202; exfalso; omega
                    | succ n202 ih202 =>
                      intro iv202_8 ia202_qbe H locs hL1 hl1 bliv202_8 buiv202_8 vi202_0 ls hn202 hW hT hM f_x_36 nia202_qbe nfa_36 nfa_38 nfa_40 nfa_42 nfa_44 nfa_46 nfa_48 nfa_55 nfa_57 nfa_59 nfa_61 nfa_63 nfa_65 hl
                      refine lv_iload hx hb dX10_file_202 (lv_at hl 0 rfl) ?_
                      refine lv_iconst (v := 3) hx hb dX10_file_204 ?o258 ?_
                      case o258 => decide
                      refine hb_icmp_ge (zx := iv202_8.toInt) (zy := 3) (tgt := 227) hx hb rfl ?o259 dX10_file_205 ?o260 (fun c_66 => ?_) (fun c_66 => ?_)
                      case o259 => decide
                      case o260 => decide
                      · skip
                        refine lv_aload_n hx hb dX10_file_227 rfl (lv_at hl 2 rfl) ?_
                        refine lv_dup hx hb dX10_file_228 rfl ?_
                        refine hk_geti hx hb hts hC_10 hown hW (gx.S hM) tt_10 36 ?o261 rfl kw_1179 ⟨rfl, rfl, rfl⟩ f_x_36 dX10_file_229 ?_
                        case o261 => decide
                        refine lv_iconst (v := 1) hx hb dX10_file_232 ?o262 ?_
                        case o262 => decide
                        refine lv_iadd hx hb dX10_file_233 ?_
                        have rg_67 := i32_r c0
                        refine lv_topi (fun x_68 ex_68 => ?_)
                        have zx_68 : x_68.toInt = c0.toInt + 1 := ?o263
                        case o263 =>
                          rw [ex_68]
                          refine i32_add rfl ?o264 ?o265 ?o266
                          case o264 => decide
                          case o265 => omega
                          case o266 => omega
                        refine hx_puti hx hb hts hC_10 hown hW hT (hx_S.rf (M := [(10, 36)])) (gx.S hM) tt_10 36 ?o267 rfl kw_1179 ⟨rfl, rfl, rfl⟩ rfl (x := x_68) ⟨?o268, ?o269⟩ rfl rfl rfl (List.mem_singleton.mpr rfl) dX10_file_234 (fun H locs h_69 eh_69 hW hT hs => ?_)
                        case o267 => decide
                        case o268 => omega
                        case o269 => omega
                        replace nfa_36 : h_69.2.1 qby = fa_36 := (funext fun j => (hs.a (gqby.S hM) rfl j).1).trans nfa_36
                        replace nfa_38 : h_69.2.1 qag = fa_38 := (funext fun j => (hs.a (gqag.S hM) rfl j).1).trans nfa_38
                        replace nfa_40 : h_69.2.1 qsu = fa_40 := (funext fun j => (hs.a (gqsu.S hM) rfl j).1).trans nfa_40
                        replace nfa_42 : h_69.2.1 qow = fa_42 := (funext fun j => (hs.a (gqow.S hM) rfl j).1).trans nfa_42
                        replace nfa_44 : h_69.2.1 qnt = fa_44 := (funext fun j => (hs.a (gqnt.S hM) rfl j).1).trans nfa_44
                        replace nfa_46 : h_69.2.1 qwt = fa_46 := (funext fun j => (hs.a (gqwt.S hM) rfl j).1).trans nfa_46
                        replace nfa_48 : h_69.2.1 qfl = fa_48 := (funext fun j => (hs.a (gqfl.S hM) rfl j).1).trans nfa_48
                        replace nfa_55 : h_69.2.1 qc = fa_55 := (funext fun j => (hs.a (gqc.S hM) rfl j).1).trans nfa_55
                        replace nfa_57 : h_69.2.1 qf = fa_57 := (funext fun j => (hs.a (gqf.S hM) rfl j).1).trans nfa_57
                        replace nfa_59 : h_69.2.1 qh = fa_59 := (funext fun j => (hs.a (gqh.S hM) rfl j).1).trans nfa_59
                        replace nfa_61 : h_69.2.1 qod = fa_61 := (funext fun j => (hs.a (gqod.S hM) rfl j).1).trans nfa_61
                        replace nfa_63 : h_69.2.1 qsz = fa_63 := (funext fun j => (hs.a (gqsz.S hM) rfl j).1).trans nfa_63
                        replace nfa_65 : h_69.2.1 qsv = fa_65 := (funext fun j => (hs.a (gqsv.S hM) rfl j).1).trans nfa_65
                        replace nia202_qbe : h_69.2.1 qbe = ia202_qbe := (funext fun j => (hs.a (gqbe.S hM) rfl j).1).trans nia202_qbe
                        replace hM := hM.tr (hs.mono ?o270)
                        case o270 => decide
                        have f_70 : h_69.2.1 x 36 = x_68 := ?o271
                        case o271 =>
                          rw [eh_69]
                          exact hx_pi_at _ _ _ _
                        refine lv_iload hx hb dX10_file_237 (lv_at hl 1 rfl) ?_
                        refine hx_reti hx hb hr hlk hW ⟨⟨x_68, fa_59, fa_55, fa_57, fa_38, fa_36, fa_40, fa_42, fa_48, fa_44, fa_46, ia202_qbe, fa_61, fa_63, fa_65, f_70, nfa_59, nfa_55, nfa_57, nfa_38, nfa_36, nfa_40, nfa_42, nfa_48, nfa_44, nfa_46, nia202_qbe, nfa_61, nfa_63, nfa_65, ⟨⟨hx_filed hHC ?o272 rfl ?o273 dfa_59 ?o274, hx_PL_up hPL rfl ?o275 ⟨?o276, ?o277⟩ dfa_55 ?o278, (Or.inr ⟨?o279, ?o280, by unfold hx_FC; exact ⟨by omega, by omega, by omega, by omega, (by show (df i2.toNatClampNeg).toInt = 0; rw [← ax_15]; omega), by omega, by omega, by omega⟩⟩), (Or.inr ⟨?o281, ?o282, dfa_57⟩), (Or.inr ⟨?o283, dfa_59, dfa_57⟩), (Or.inr ⟨?o284, dfa_38⟩), (Or.inr ⟨?o285, ?o286, dfa_59⟩), (Or.inr ⟨?o287, dfa_36⟩), (Or.inr ⟨?o288, ?o289, dfa_40⟩), (Or.inr ⟨?o290, ?o291, dfa_42⟩), (Or.inr ⟨?o292, ?o293, dfa_48⟩), (Or.inr ⟨?o294, dfa_44⟩), (Or.inr ⟨?o295, dfa_46⟩), ⟨_, hr_53.1, (Or.inr ⟨?o296, dfa_55⟩)⟩, (Or.inr ⟨?o297, (by have h8 := vi202_0; rw [show iv202_8.toInt.toNat = 3 by omega] at h8; exact h8)⟩)⟩, ⟨(Or.inr ⟨?o298, ?o299, dfa_61⟩), (Or.inr ⟨?o300, ?o301, dfa_63⟩), (Or.inr ⟨?o302, ?o303, dfa_65⟩)⟩⟩⟩, hT, hM⟩ dX10_file_239
                        case o272 => omega
                        case o273 => decide
                        case o274 => omega
                        case o275 => omega
                        case o276 => omega
                        case o277 => omega
                        case o278 => omega
                        case o279 => omega
                        case o280 => omega
                        case o281 => omega
                        case o282 => omega
                        case o283 => omega
                        case o284 => omega
                        case o285 => omega
                        case o286 => omega
                        case o287 => omega
                        case o288 => omega
                        case o289 => omega
                        case o290 => omega
                        case o291 => omega
                        case o292 => omega
                        case o293 => omega
                        case o294 => omega
                        case o295 => omega
                        case o296 => omega
                        case o297 => omega
                        case o298 => omega
                        case o299 => omega
                        case o300 => omega
                        case o301 => omega
                        case o302 => omega
                        case o303 => omega
                      · skip
                        refine lv_aload_n hx hb dX10_file_208 rfl (lv_at hl 2 rfl) ?_
                        refine hk_getr hx hb hts hC_10 hown hW (gx.S hM) tt_10 52 ?o304 rfl kw_1195 ⟨rfl, rfl, rfl⟩ ((hM.o gx trivial rfl).2.trans f_x_52) dX10_file_209 ?_
                        case o304 => decide
                        refine lv_iconst (v := 3) hx hb dX10_file_212 ?o305 ?_
                        case o305 => decide
                        refine lv_iload hx hb dX10_file_213 (lv_at hl 1 rfl) ?_
                        refine lv_imul hx hb dX10_file_215 ?_
                        refine lv_topi (fun x_71 ex_71 => ?_)
                        have zx_71 : x_71.toInt = 3 * c0.toInt := ?o306
                        case o306 =>
                          rw [ex_71]
                          refine i32_mul ?o307 rfl rfl ?o308 ?o309
                          case o307 => decide
                          case o308 => omega
                          case o309 => omega
                        refine lv_iload hx hb dX10_file_216 (lv_at hl 0 rfl) ?_
                        refine lv_iadd hx hb dX10_file_218 ?_
                        have rg_72 := i32_r x_71
                        have rg_73 := i32_r iv202_8
                        refine lv_topi (fun x_74 ex_74 => ?_)
                        have zx_74 : x_74.toInt = x_71.toInt + iv202_8.toInt := ?o310
                        case o310 =>
                          rw [ex_74]
                          refine i32_add rfl rfl ?o311 ?o312
                          case o311 => omega
                          case o312 => omega
                        refine lv_iconst (v := -1) hx hb dX10_file_219 ?o313 ?_
                        case o313 => decide
                        have nia202_qbeO := nia202_qbe
                        refine hx_iast hx hb hW hT (hx_S.rf (M := [(87, 0)])) (gqbe.S hM) tt_87 rfl ⟨?o314, ?o315⟩ rfl ?o316 (List.mem_singleton.mpr rfl) dX10_file_220 (fun H locs h_75 eh_75 hW hT hs => ?_)
                        case o314 => omega
                        case o315 => omega
                        case o316 => decide
                        replace f_x_36 := (hs.o (gx.S hM) trivial rfl).1.trans f_x_36
                        replace nfa_36 : h_75.2.1 qby = fa_36 := (funext fun j => (hs.a (gqby.S hM) rfl j).1).trans nfa_36
                        replace nfa_38 : h_75.2.1 qag = fa_38 := (funext fun j => (hs.a (gqag.S hM) rfl j).1).trans nfa_38
                        replace nfa_40 : h_75.2.1 qsu = fa_40 := (funext fun j => (hs.a (gqsu.S hM) rfl j).1).trans nfa_40
                        replace nfa_42 : h_75.2.1 qow = fa_42 := (funext fun j => (hs.a (gqow.S hM) rfl j).1).trans nfa_42
                        replace nfa_44 : h_75.2.1 qnt = fa_44 := (funext fun j => (hs.a (gqnt.S hM) rfl j).1).trans nfa_44
                        replace nfa_46 : h_75.2.1 qwt = fa_46 := (funext fun j => (hs.a (gqwt.S hM) rfl j).1).trans nfa_46
                        replace nfa_48 : h_75.2.1 qfl = fa_48 := (funext fun j => (hs.a (gqfl.S hM) rfl j).1).trans nfa_48
                        replace nfa_55 : h_75.2.1 qc = fa_55 := (funext fun j => (hs.a (gqc.S hM) rfl j).1).trans nfa_55
                        replace nfa_57 : h_75.2.1 qf = fa_57 := (funext fun j => (hs.a (gqf.S hM) rfl j).1).trans nfa_57
                        replace nfa_59 : h_75.2.1 qh = fa_59 := (funext fun j => (hs.a (gqh.S hM) rfl j).1).trans nfa_59
                        replace nfa_61 : h_75.2.1 qod = fa_61 := (funext fun j => (hs.a (gqod.S hM) rfl j).1).trans nfa_61
                        replace nfa_63 : h_75.2.1 qsz = fa_63 := (funext fun j => (hs.a (gqsz.S hM) rfl j).1).trans nfa_63
                        replace nfa_65 : h_75.2.1 qsv = fa_65 := (funext fun j => (hs.a (gqsv.S hM) rfl j).1).trans nfa_65
                        replace hM := hM.tr (hs.mono ?o317)
                        case o317 => decide
                        obtain ⟨fa_76, dfa_76⟩ : ∃ g : Nat → Int32, g = hx_up ia202_qbe x_74.toNatClampNeg (-1 : Int32) := ⟨_, rfl⟩
                        have nfa_76 : h_75.2.1 qbe = fa_76 := ?o318
                        case o318 =>
                          rw [eh_75, dfa_76, ← nia202_qbeO]
                          exact hx_pi_fun _ _ _ _
                        obtain ⟨x_77, ex_77⟩ : ∃ y : Int32, y = iv202_8 + Int32.ofInt 1 := ⟨_, rfl⟩
                        have zx_77 : x_77.toInt = iv202_8.toInt + (1) := ?o319
                        case o319 =>
                          rw [ex_77]
                          refine i32_add rfl ?o320 ?o321 ?o322
                          case o320 => decide
                          case o321 => omega
                          case o322 => omega
                        refine lv_iinc (v := x_77) (lv' := [(8, .int x_77), (7, .int c0), (0, .ref x), (1, .int i1), (2, .int i2), (3, .int i3), (4, .int i4), (5, .int i5), (6, .int i6)]) hx hb dX10_file_221 hl (k := 0) rfl ex_77.symm ?o323 rfl (fun ls hl => ?_)
                        case o323 => decide
                        refine lv_goto (tgt := 202) hx hb dX10_file_224 ?o324 ?_
                        case o324 => decide
                        refine ih202 x_77 fa_76 _ _ hL1 h_75 ?o325 ?o326 (hv_b3k_s vi202_0 ?o327 (by unfold Int32.toNatClampNeg; omega) dfa_76 zx_77) ls ?o328 hW hT hM f_x_36 nfa_76 nfa_36 nfa_38 nfa_40 nfa_42 nfa_44 nfa_46 nfa_48 nfa_55 nfa_57 nfa_59 nfa_61 nfa_63 nfa_65 (lv_sub hl [0, 1, 2, 3, 4, 5, 6, 7, 8] rfl)
                        case o325 => omega
                        case o326 => omega
                        case o327 => omega
                        case o328 => omega
                  have zk_0 : (0 : Int32).toInt = 0 := ?o329
                  case o329 => decide
                  refine loop202 4 (0 : Int32) bnh _ _ L_49 h_64 ?o330 ?o331 (by rw [zk_0]; rfl) ls ?o332 hW hT hM f_x_36 af_qbe nfa_36 nfa_38 nfa_40 nfa_42 nfa_44 nfa_46 nfa_48 nfa_55 nfa_57 nfa_59 nfa_61 nfa_63 nfa_65 hl
                  case o330 => decide
                  case o331 => decide
                  case o332 => omega
                · skip
                  replace hr_33 := hr_33.resolve_right (fun z9 => absurd (c_34.symm.trans z9.1) ?o333)
                  case o333 => decide
                  replace hr_33 := hr_33.2
                  refine lv_iconst (v := -1) hx hb dX10_file_74 ?o334 ?_
                  case o334 => decide
                  refine hx_reti hx hb hr hlk hW ⟨⟨c0, hf, plf, ff, agf, byf, smf, frf, flf, ntf, wtf, bnh, odf, szf, svf, f_x_36, af_qh, af_qc, af_qf, af_qag, af_qby, af_qsu, af_qow, af_qfl, af_qnt, af_qwt, af_qbe, af_qod, af_qsz, af_qsv, ⟨⟨hHC, hPL, (Or.inl ⟨?o335, ?o336, fun hc => by unfold hx_FC at hc; have h1 : (df i2.toNatClampNeg).toInt = 0 := hc.2.2.2.2.1; rw [← ax_15] at h1; omega⟩), (Or.inl ⟨?o337, rfl⟩), (Or.inl ⟨?o338, rfl, rfl⟩), (Or.inl ⟨?o339, rfl⟩), (Or.inl ⟨?o340, rfl⟩), (Or.inl ⟨?o341, rfl⟩), (Or.inl ⟨?o342, rfl⟩), (Or.inl ⟨?o343, rfl⟩), (Or.inl ⟨?o344, rfl⟩), (Or.inl ⟨?o345, rfl⟩), (Or.inl ⟨?o346, rfl⟩), ⟨pv9, hpv9, (Or.inl ⟨?o347, rfl⟩)⟩, (Or.inl ⟨?o348, rfl⟩)⟩, ⟨(Or.inl ⟨?o349, rfl⟩), (Or.inl ⟨?o350, rfl⟩), (Or.inl ⟨?o351, rfl⟩)⟩⟩⟩, hT, hM⟩ dX10_file_75
                  case o335 => decide
                  case o336 => omega
                  case o337 => decide
                  case o338 => omega
                  case o339 => decide
                  case o340 => decide
                  case o341 => decide
                  case o342 => decide
                  case o343 => decide
                  case o344 => decide
                  case o345 => decide
                  case o346 => decide
                  case o347 => decide
                  case o348 => decide
                  case o349 => decide
                  case o350 => decide
                  case o351 => decide
end
section
/-! JUDGED BY ANOTHER ACT -/
theorem hv_mul9 {a b x : Int32} (ha : 0 ≤ a.toInt ∧ a.toInt ≤ 512) (hb : 0 ≤ b.toInt ∧ b.toInt ≤ 9999) (e : x = a * b) : x.toInt = a.toInt * b.toInt ∧ 0 ≤ x.toInt ∧ x.toInt ≤ 5119488 := by
  have h1 : 0 ≤ a.toInt * b.toInt := Int.mul_nonneg ha.1 hb.1
  have h2 : a.toInt * b.toInt ≤ 512 * 9999 := Int.mul_le_mul ha.2 hb.2 hb.1 (by decide)
  have h3 : x.toInt = a.toInt * b.toInt := by rw [e]; exact i32_mul rfl rfl rfl (by omega) (by omega)
  exact ⟨h3, by omega, by omega⟩
def hv_oJ (cF hof frf bnf agf smf byf flf : Nat → Int32) (a : hv_act) (n : Nat) (j : Nat) : Int := hv_jg (hv_F0 cF (8 * (hof j).toNatClampNeg)) a.2.1 a.2.2 (frf (hof j).toNatClampNeg).toInt (bnf (agf (hof j).toNatClampNeg).toNatClampNeg).toInt (smf (hof j).toNatClampNeg).toInt (hv_sm byf agf flf smf (byf (hof j).toNatClampNeg).toInt (agf (hof j).toNatClampNeg).toInt ((flf (hof j).toNatClampNeg).toInt - a.2.1 1) n)
theorem hv_oJ_e {cF rf nf wf sf hf hof frf bnf agf smf byf flf : Nat → Int32} {m n : Int} {a : hv_act} {N : Nat} (H : hv_FR cF rf nf wf sf hf n) (HO : hv_HO hof hf m n) (hO : hv_OK a.2.2) : ∀ j : Nat, (j : Int) < m → hv_oJ cF hof frf bnf agf smf byf flf a N j = hv_oJ rf hof frf bnf agf smf byf flf a N j := by
  intro j hj
  obtain ⟨x, y, w⟩ := HO j hj
  have k := (H (hof j).toInt.toNat (by omega)).1 w
  exact hv_jg_e hO (fun q hq => congrArg Int32.toInt (k q hq))
def hv_oc (J : Nat → Int) (k : Int) : Nat → Int
  | 0 => 0
  | j + 1 => if J j = k then hv_oc J k j + 1 else hv_oc J k j
def hv_os (J T R : Nat → Int) : Nat → Int
  | 0 => 0
  | j + 1 => hv_os J T R j + (T j * R 9 + R 10 + (if J j = 5 then R 11 else 0))
theorem hv_oc_y {J : Nat → Int} {k l l1 s s1 : Int} (h : s = hv_oc J k l.toNat) (hj : J l.toNat = k) (h0 : 0 ≤ l) (es : s1 = s + 1) (e1 : l1 = l + 1) : s1 = hv_oc J k l1.toNat := by
  rw [show l1.toNat = l.toNat + 1 by omega]
  show s1 = (if J l.toNat = k then hv_oc J k l.toNat + 1 else hv_oc J k l.toNat)
  rw [if_pos hj, ← h]; exact es
theorem hv_oc_n {J : Nat → Int} {k l l1 s s1 : Int} (h : s = hv_oc J k l.toNat) (hj : J l.toNat ≠ k) (h0 : 0 ≤ l) (es : s1 = s) (e1 : l1 = l + 1) : s1 = hv_oc J k l1.toNat := by
  rw [show l1.toNat = l.toNat + 1 by omega]
  show s1 = (if J l.toNat = k then hv_oc J k l.toNat + 1 else hv_oc J k l.toNat)
  rw [if_neg hj, ← h]; exact es
theorem hv_os_s {J T R : Nat → Int} {l l1 s s1 c : Int} (h : s = hv_os J T R l.toNat) (hc : c = T l.toNat * R 9 + R 10 + (if J l.toNat = 5 then R 11 else 0)) (h0 : 0 ≤ l) (es : s1 = s + c) (e1 : l1 = l + 1) : s1 = hv_os J T R l1.toNat := by
  rw [show l1.toNat = l.toNat + 1 by omega, es, hc, h]; rfl
theorem hv_oc_e {J J' : Nat → Int} {k : Int} : ∀ m : Nat, (∀ j, j < m → J j = J' j) → hv_oc J k m = hv_oc J' k m
  | 0, _ => rfl
  | m + 1, h => by
    have ih := hv_oc_e (k := k) m (fun j hj => h j (by omega))
    show (if J m = k then hv_oc J k m + 1 else hv_oc J k m) = (if J' m = k then hv_oc J' k m + 1 else hv_oc J' k m)
    rw [h m (by omega), ih]
theorem hv_os_e {J J' T T' R : Nat → Int} : ∀ m : Nat, (∀ j, j < m → J j = J' j) → (∀ j, j < m → T j = T' j) → hv_os J T R m = hv_os J' T' R m
  | 0, _, _ => rfl
  | m + 1, h, h' => by
    have ih := hv_os_e (R := R) m (fun j hj => h j (by omega)) (fun j hj => h' j (by omega))
    show hv_os J T R m + (T m * R 9 + R 10 + (if J m = 5 then R 11 else 0)) = hv_os J' T' R m + (T' m * R 9 + R 10 + (if J' m = 5 then R 11 else 0))
    rw [h m (by omega), h' m (by omega), ih]
def hv_OT (J T R : Nat → Int) (a n i m r : Int) : Prop := ((a < -1 ∨ n ≤ a ∨ i < 1 ∨ 6 < i) ∧ r = -1) ∨ (¬ (a < -1 ∨ n ≤ a ∨ i < 1 ∨ 6 < i) ∧ ((i = 6 ∧ r = hv_os J T R m.toNat) ∨ (i ≠ 6 ∧ r = hv_oc J i m.toNat)))
theorem hv_OT_eq {J J' T T' R : Nat → Int} {a n i m r r' : Int} (h : hv_OT J T R a n i m r) (h' : hv_OT J' T' R a n i m r') (eJ : ∀ j : Nat, (j : Int) < m → J j = J' j) (eT : ∀ j : Nat, (j : Int) < m → T j = T' j) : r = r' := by
  rcases h with ⟨z, e⟩ | ⟨z, h⟩ <;> rcases h' with ⟨z', e'⟩ | ⟨z', h'⟩
  · exact e.trans e'.symm
  · exact absurd z z'
  · exact absurd z' z
  · rcases h with ⟨y, e⟩ | ⟨y, e⟩ <;> rcases h' with ⟨y', e'⟩ | ⟨y', e'⟩
    · rw [e, e']; exact hv_os_e _ (fun j hj => eJ j (by omega)) (fun j hj => eT j (by omega))
    · exact absurd y y'
    · exact absurd y' y
    · rw [e, e']; exact hv_oc_e _ (fun j hj => eJ j (by omega))
end
section
set_option maxHeartbeats 4000000 in
set_option maxRecDepth 100000 in
theorem t_X2_costsBy_v (l : Launch) (dC : Nat → ClassId) (dI : Nat → Nat → Nat) (dA : Nat → ClassId) (L : List Nat) (h : hx_h) (sz : Nat) (x : Nat) (v1 : Nat) (i2 : Int32) (hT : hx_T T_tb L h) (gx : hx_g L h x 2) (gv1 : hx_g L h v1 0) (qt : Nat) (gqt : hx_g L h qt 11) (f_v1_2 : h.2.2 v1 2 = some qt) (tf : Nat → Int32) (af_qt : h.2.1 qt = tf) (t0 : Int32) (f_x_9 : h.2.1 x 9 = t0) (R : Nat → Int) (hR : hv_rC tf = R) (hRb : ∀ k, 0 ≤ R k ∧ R k ≤ 9999) (ht0 : 0 ≤ t0.toInt ∧ t0.toInt ≤ 512) : Met l yX2_costsBy (Cond.code yX2_costsBy cX2_costsBy 4 (some .int) :: hx_all) ({ frames := 0, cells := 0, slots := 0, locals := 0 }) (va_Pc [.ref x, .ref v1, .int i2] (hx_B T_tb (P_ty dA) (dC, dI) vwCl L h sz)) (va_Qi (fun (r : Int32) (u : List Nat × hx_h) => (((i2.toInt ≠ 0 → r.toInt = t0.toInt * R 9 + R 10 + R 11) ∧ (i2.toInt = 0 → r.toInt = t0.toInt * R 9 + R 10)) ∧ (0 ≤ r.toInt ∧ r.toInt ≤ 5139486)) ∧ hx_T T_tb u.1 u.2 ∧ hx_S T_tb [] L h u.1 u.2) (hx_E T_tb (P_ty dA) (dC, dI) vwCl (hx_A L sz)) (hx_A L sz)) 0 0 (hx_A L sz) := by
  refine hx_met (lv := [(0, .ref x), (1, .ref v1), (2, .int i2)]) (by decide +kernel) rfl (Nat.le_of_ble_eq_true rfl) rfl ?_
  intro p e s m below meth c hx hb hml hr hlk hts0 hown hin hsz hW ls hl
  have hts : ∀ w ∈ hx_all, w.before _ s = true := fun w hw => hts0 w (List.mem_cons_of_mem _ hw)
  have hown : s.vm.findClass "SmallCourt$Claim" = some m.cls := hown
  have hM : hx_S T_tb [] L h L h := hx_S.rf
  have b_t0 := hT.gi gx tt_2 (k := 9) rfl
  rw [f_x_9] at b_t0
  have b_t0 : -2147483648 ≤ t0.toInt ∧ t0.toInt ≤ 2147483647 := b_t0
  refine lv_aload_n hx hb dX2_costsBy_0 rfl (lv_at hl 0 rfl) ?_
  refine hk_geti hx hb hts hC_2 hown hW (gx.S hM) tt_2 9 ?o0 rfl kw_744 ⟨rfl, rfl, rfl⟩ ((hM.o gx trivial rfl).1.trans f_x_9) dX2_costsBy_1 ?_
  case o0 => decide
  refine lv_aload_n hx hb dX2_costsBy_4 rfl (lv_at hl 1 rfl) ?_
  refine hk_getr hx hb hts hC_0 hown hW (gv1.S hM) tt_0 2 ?o1 rfl kw_167 ⟨rfl, rfl, rfl⟩ ((hM.o gv1 trivial rfl).2.trans f_v1_2) dX2_costsBy_5 ?_
  case o1 => decide
  refine lv_bipush (v := 10) hx hb dX2_costsBy_8 ?o2 ?_
  case o2 => decide
  refine hx_iald hx hb hW hT (gqt.S hM) tt_11 rfl ?o3 dX2_costsBy_10 (fun x_1 ex_1 lx_1 ux_1 => ?_)
  case o3 => decide
  have ax_1 : x_1 = tf (10 : Int32).toNatClampNeg := ex_1.trans (congrFun (hx_afS hM gqt rfl af_qt) _)
  have hR_2 : x_1.toInt = R 9 := ?o4
  case o4 =>
    rw [← hR, ax_1, show (10 : Int32).toNatClampNeg = 10 from by decide]
    rfl
  have hR_2b := hRb 9
  rw [← hR_2] at hR_2b
  refine lv_imul hx hb dX2_costsBy_11 ?_
  refine lv_topi (fun x_3 ex_3 => ?_)
  have mx_3 : t0.toInt = 0 → x_3.toInt = 0 := fun z => by rw [ex_3]; exact hx_mul0 z
  obtain ⟨zm_4, zm_4l, zm_4h⟩ := hv_mul9 ⟨by omega, by omega⟩ ⟨by omega, by omega⟩ ex_3
  refine lv_aload_n hx hb dX2_costsBy_12 rfl (lv_at hl 1 rfl) ?_
  refine hk_getr hx hb hts hC_0 hown hW (gv1.S hM) tt_0 2 ?o5 rfl kw_167 ⟨rfl, rfl, rfl⟩ ((hM.o gv1 trivial rfl).2.trans f_v1_2) dX2_costsBy_13 ?_
  case o5 => decide
  refine lv_bipush (v := 11) hx hb dX2_costsBy_16 ?o6 ?_
  case o6 => decide
  refine hx_iald hx hb hW hT (gqt.S hM) tt_11 rfl ?o7 dX2_costsBy_18 (fun x_5 ex_5 lx_5 ux_5 => ?_)
  case o7 => decide
  have ax_5 : x_5 = tf (11 : Int32).toNatClampNeg := ex_5.trans (congrFun (hx_afS hM gqt rfl af_qt) _)
  have hR_6 : x_5.toInt = R 10 := ?o8
  case o8 =>
    rw [← hR, ax_5, show (11 : Int32).toNatClampNeg = 11 from by decide]
    rfl
  have hR_6b := hRb 10
  rw [← hR_6] at hR_6b
  refine lv_iadd hx hb dX2_costsBy_19 ?_
  have rg_7 := i32_r x_3
  have rg_8 := i32_r x_5
  refine lv_topi (fun x_9 ex_9 => ?_)
  have zx_9 : x_9.toInt = x_3.toInt + x_5.toInt := ?o9
  case o9 =>
    rw [ex_9]
    refine i32_add rfl rfl ?o10 ?o11
    case o10 => omega
    case o11 => omega
  refine lv_istore_n (lv' := [(3, .int x_9), (0, .ref x), (1, .ref v1), (2, .int i2)]) hx hb dX2_costsBy_20 rfl hl ?o12 rfl (fun ls hl => ?_)
  case o12 => decide
  refine lv_iload_n hx hb dX2_costsBy_21 rfl (lv_at hl 3 rfl) ?_
  refine hb_if_eq (zx := i2.toInt) (tgt := 37) hx hb rfl dX2_costsBy_22 ?o13 (fun c_10 => ?_) (fun c_10 => ?_)
  case o13 => decide
  · skip
    refine lv_iload_n hx hb dX2_costsBy_37 rfl (lv_at hl 0 rfl) ?_
    refine hx_reti hx hb hr hlk hW ⟨⟨⟨fun z => ?o14, fun _ => by rw [← hR_2, ← hR_6]; omega⟩, ?o15, ?o16⟩, hT, hM⟩ dX2_costsBy_38
    case o14 =>
      exfalso
      omega
    case o15 => omega
    case o16 => omega
  · skip
    refine lv_iload_n hx hb dX2_costsBy_25 rfl (lv_at hl 0 rfl) ?_
    refine lv_aload_n hx hb dX2_costsBy_26 rfl (lv_at hl 2 rfl) ?_
    refine hk_getr hx hb hts hC_0 hown hW (gv1.S hM) tt_0 2 ?o17 rfl kw_167 ⟨rfl, rfl, rfl⟩ ((hM.o gv1 trivial rfl).2.trans f_v1_2) dX2_costsBy_27 ?_
    case o17 => decide
    refine lv_bipush (v := 12) hx hb dX2_costsBy_30 ?o18 ?_
    case o18 => decide
    refine hx_iald hx hb hW hT (gqt.S hM) tt_11 rfl ?o19 dX2_costsBy_32 (fun x_11 ex_11 lx_11 ux_11 => ?_)
    case o19 => decide
    have ax_11 : x_11 = tf (12 : Int32).toNatClampNeg := ex_11.trans (congrFun (hx_afS hM gqt rfl af_qt) _)
    have hR_12 : x_11.toInt = R 11 := ?o20
    case o20 =>
      rw [← hR, ax_11, show (12 : Int32).toNatClampNeg = 12 from by decide]
      rfl
    have hR_12b := hRb 11
    rw [← hR_12] at hR_12b
    refine lv_iadd hx hb dX2_costsBy_33 ?_
    have rg_13 := i32_r x_9
    have rg_14 := i32_r x_11
    refine lv_topi (fun x_15 ex_15 => ?_)
    have zx_15 : x_15.toInt = x_9.toInt + x_11.toInt := ?o21
    case o21 =>
      rw [ex_15]
      refine i32_add rfl rfl ?o22 ?o23
      case o22 => omega
      case o23 => omega
    refine lv_goto (tgt := 38) hx hb dX2_costsBy_34 ?o24 ?_
    case o24 => decide
    refine hx_reti hx hb hr hlk hW ⟨⟨⟨fun _ => by rw [← hR_2, ← hR_6, ← hR_12]; omega, fun z => ?o25⟩, ?o26, ?o27⟩, hT, hM⟩ dX2_costsBy_38
    case o25 =>
      exfalso
      omega
    case o26 => omega
    case o27 => omega


set_option maxHeartbeats 4000000 in
set_option maxRecDepth 100000 in
theorem t_X9_other_v (l : Launch) (dC : Nat → ClassId) (dI : Nat → Nat → Nat) (dA : Nat → ClassId) (L : List Nat) (h : hx_h) (sz : Nat) (x : Nat) (i1 : Int32) (i2 : Int32) (hT : hx_T T_tb L h) (gx : hx_g L h x 9) (qa : Nat) (gqa : hx_g L h qa 43) (f_x_5 : h.2.2 x 5 = some qa) (w : Nat) (gw : hx_g L h w 0) (f_x_4 : h.2.2 x 4 = some w) (qh : Nat) (gqh : hx_g L h qh 46) (f_x_12 : h.2.2 x 12 = some qh) (qc : Nat) (gqc : hx_g L h qc 45) (f_x_10 : h.2.2 x 10 = some qc) (qp : Nat) (gqp : hx_g L h qp 44) (f_x_7 : h.2.2 x 7 = some qp)  (cn0 : Int32) (f_x_11 : h.2.1 x 11 = cn0) (pn0 : Int32) (f_x_8 : h.2.1 x 8 = pn0) (m0 : Int32) (f_x_13 : h.2.1 x 13 = m0) (a0 : Int32) (f_x_6 : h.2.1 x 6 = a0) (bnf : Nat → Int32) (cl_qp_1 : hx_col 40 h qp 1 = bnf) (smf : Nat → Int32) (cl_qc_6 : hx_col 100 h qc 6 = smf) (frf : Nat → Int32) (cl_qc_7 : hx_col 100 h qc 7 = frf) (flf : Nat → Int32) (cl_qc_8 : hx_col 100 h qc 8 = flf) (tf : Nat → Int32) (cl_qc_9 : hx_col 100 h qc 9 = tf) (nu_qp : hx_num 40 h qp 0 (pn0.toInt)) (nu_qc : hx_num 100 h qc 0 (cn0.toInt)) (agf byf : Nat → Int32) (hDF : hw_DF h qc qp 2 agf cn0.toInt) (hDP : hw_DF h qc qp 1 byf cn0.toInt) (hof cF : Nat → Int32) (A : Nat → hv_act) (hRA : hv_RA h qa w a0.toInt A) (hFX : hv_FX 8 4 h qc cF cn0.toInt) (hHL : hv_HL h qh qc hof m0.toInt cn0.toInt) (hAB : ∀ j : Nat, (∀ k, 0 ≤ (A j).2.1 k ∧ (A j).2.1 k ≤ 9999) ∧ hv_OK (A j).2.2) (htb : ∀ c, c < 100 → 0 ≤ (tf c).toInt ∧ (tf c).toInt ≤ 512) (pf_x_6 : ∀ j : Nat, (j : Int) < (h.2.1 x 6).toInt → h.2.2 qa j ≠ none) (pf_x_13 : ∀ j : Nat, (j : Int) < (h.2.1 x 13).toInt → h.2.2 qh j ≠ none) (pf_x_11 : ∀ j : Nat, (j : Int) < (h.2.1 x 11).toInt → h.2.2 qc j ≠ none) (pf_x_8 : ∀ j : Nat, (j : Int) < (h.2.1 x 8).toInt → h.2.2 qp j ≠ none) : Met l yX9_other (Cond.code yX9_other cX9_other 8 (some .int) :: hx_all) ({ frames := 3, cells := 0, slots := 0, locals := 71 }) (va_Pc [.ref x, .int i1, .int i2] (hx_B T_tb (P_ty dA) (dC, dI) vwCl L h sz)) (va_Qi (fun (r : Int32) (u : List Nat × hx_h) => (hv_OT (hv_oJ cF hof frf bnf agf smf byf flf (A (i1.toInt + 1).toNat) cn0.toInt.toNat) (fun j => (tf (hof j).toNatClampNeg).toInt) (A (i1.toInt + 1).toNat).2.1 i1.toInt a0.toInt i2.toInt m0.toInt r.toInt) ∧ hx_T T_tb u.1 u.2 ∧ hx_S T_tb [] L h u.1 u.2) (hx_E T_tb (P_ty dA) (dC, dI) vwCl (hx_A L sz)) (hx_A L sz)) 0 0 (hx_A L sz) := by
  refine hx_met (lv := [(0, .ref x), (1, .int i1), (2, .int i2)]) (by decide +kernel) rfl (Nat.le_of_ble_eq_true rfl) rfl ?_
  intro p e s m below meth c hx hb hml hr hlk hts0 hown hin hsz hW ls hl
  have hts : ∀ w ∈ hx_all, w.before _ s = true := fun w hw => hts0 w (List.mem_cons_of_mem _ hw)
  have hown : s.vm.findClass "SmallCourt" = some m.cls := hown
  have hM : hx_S T_tb [] L h L h := hx_S.rf
  have b_cn0 := hT.gi gx tt_9 (k := 11) rfl
  rw [f_x_11] at b_cn0
  have b_cn0 : 0 ≤ cn0.toInt ∧ cn0.toInt ≤ 100 := b_cn0
  have b_pn0 := hT.gi gx tt_9 (k := 8) rfl
  rw [f_x_8] at b_pn0
  have b_pn0 : 0 ≤ pn0.toInt ∧ pn0.toInt ≤ 40 := b_pn0
  have b_m0 := hT.gi gx tt_9 (k := 13) rfl
  rw [f_x_13] at b_m0
  have b_m0 : 0 ≤ m0.toInt ∧ m0.toInt ≤ 100 := b_m0
  have b_a0 := hT.gi gx tt_9 (k := 6) rfl
  rw [f_x_6] at b_a0
  have b_a0 : 0 ≤ a0.toInt ∧ a0.toInt ≤ 8 := b_a0
  refine lv_iload_n hx hb dX9_other_0 rfl (lv_at hl 1 rfl) ?_
  refine lv_iconst (v := -1) hx hb dX9_other_1 ?o0 ?_
  case o0 => decide
  refine hb_icmp_lt (zx := i1.toInt) (zy := (-1)) (tgt := 24) hx hb rfl ?o1 dX9_other_2 ?o2 (fun c_1 => ?_) (fun c_1 => ?_)
  case o1 => decide
  case o2 => decide
  · skip
    refine lv_iconst (v := -1) hx hb dX9_other_24 ?o3 ?_
    case o3 => decide
    refine hx_reti hx hb hr hlk hW ⟨(Or.inl ⟨?o4, ?o5⟩), hT, hM⟩ dX9_other_25
    case o4 => omega
    case o5 => decide
  · skip
    refine lv_iload_n hx hb dX9_other_5 rfl (lv_at hl 1 rfl) ?_
    refine lv_aload_n hx hb dX9_other_6 rfl (lv_at hl 0 rfl) ?_
    refine hk_geti hx hb hts hC_9 hown hW gx tt_9 6 ?o6 rfl kw_370 ⟨rfl, rfl, rfl⟩ f_x_6 dX9_other_7 ?_
    case o6 => decide
    refine hb_icmp_ge (zx := i1.toInt) (zy := a0.toInt) (tgt := 24) hx hb rfl rfl dX9_other_10 ?o7 (fun c_2 => ?_) (fun c_2 => ?_)
    case o7 => decide
    · skip
      refine lv_iconst (v := -1) hx hb dX9_other_24 ?o8 ?_
      case o8 => decide
      refine hx_reti hx hb hr hlk hW ⟨(Or.inl ⟨?o9, ?o10⟩), hT, hM⟩ dX9_other_25
      case o9 => omega
      case o10 => decide
    · skip
      refine lv_iload_n hx hb dX9_other_13 rfl (lv_at hl 2 rfl) ?_
      refine lv_iconst (v := 1) hx hb dX9_other_14 ?o11 ?_
      case o11 => decide
      refine hb_icmp_lt (zx := i2.toInt) (zy := 1) (tgt := 24) hx hb rfl ?o12 dX9_other_15 ?o13 (fun c_3 => ?_) (fun c_3 => ?_)
      case o12 => decide
      case o13 => decide
      · skip
        refine lv_iconst (v := -1) hx hb dX9_other_24 ?o14 ?_
        case o14 => decide
        refine hx_reti hx hb hr hlk hW ⟨(Or.inl ⟨?o15, ?o16⟩), hT, hM⟩ dX9_other_25
        case o15 => omega
        case o16 => decide
      · skip
        refine lv_iload_n hx hb dX9_other_18 rfl (lv_at hl 2 rfl) ?_
        refine lv_bipush (v := 6) hx hb dX9_other_19 ?o17 ?_
        case o17 => decide
        refine hb_icmp_le (zx := i2.toInt) (zy := 6) (tgt := 26) hx hb rfl ?o18 dX9_other_21 ?o19 (fun c_4 => ?_) (fun c_4 => ?_)
        case o18 => decide
        case o19 => decide
        · skip
          refine lv_iload_n hx hb dX9_other_26 rfl (lv_at hl 1 rfl) ?_
          refine lv_iconst (v := -1) hx hb dX9_other_27 ?o20 ?_
          case o20 => decide
          refine hb_icmp_ne (zx := i1.toInt) (zy := (-1)) (tgt := 38) hx hb rfl ?o21 dX9_other_28 ?o22 (fun c_5 => ?_) (fun c_5 => ?_)
          case o21 => decide
          case o22 => decide
          · skip
            refine lv_aload_n hx hb dX9_other_38 rfl (lv_at hl 0 rfl) ?_
            refine hk_getr hx hb hts hC_9 hown hW gx tt_9 5 ?o23 rfl kw_369 ⟨rfl, rfl, rfl⟩ f_x_5 dX9_other_39 ?_
            case o23 => decide
            refine lv_iload_n hx hb dX9_other_42 rfl (lv_at hl 1 rfl) ?_
            refine hx_aaldN hx hb hW hT gqa tt_43 (t1 := 0) rfl ⟨?o24, ?o25⟩ (pf_x_6 _ (by rw [f_x_6]; exact hx_tnI (by omega) (by omega))) dX9_other_43 (fun q_6 fq_6 gq_6 => ?_)
            case o24 => omega
            case o25 => omega
            have hAQo : hv_AQ h q_6 i1.toInt (A (i1.toInt + 1).toNat) := ?o26
            case o26 =>
              have h8 := hRA.2 i1.toNatClampNeg (by unfold Int32.toNatClampNeg; omega) q_6 fq_6
              rw [show (i1.toInt + 1).toNat = i1.toNatClampNeg + 1 by unfold Int32.toNatClampNeg; omega, show i1.toInt = ((i1.toNatClampNeg : Nat) : Int) by unfold Int32.toNatClampNeg; omega]
              exact h8
            refine lv_astore_n (lv' := [(3, .ref q_6), (0, .ref x), (1, .int i1), (2, .int i2)]) hx hb dX9_other_44 rfl hl ?o27 rfl (fun ls hl => ?_)
            case o27 => decide
            refine lv_iconst (v := 0) hx hb dX9_other_45 ?o28 ?_
            case o28 => decide
            refine lv_istore (lv' := [(4, .int (0 : Int32)), (3, .ref q_6), (0, .ref x), (1, .int i1), (2, .int i2)]) hx hb dX9_other_46 hl ?o29 rfl (fun ls hl => ?_)
            case o29 => decide
            refine lv_iconst (v := 0) hx hb dX9_other_48 ?o30 ?_
            case o30 => decide
            refine lv_istore (lv' := [(5, .int (0 : Int32)), (4, .int (0 : Int32)), (3, .ref q_6), (0, .ref x), (1, .int i1), (2, .int i2)]) hx hb dX9_other_49 hl ?o31 rfl (fun ls hl => ?_)
            case o31 => decide
            refine lv_iconst (v := 0) hx hb dX9_other_51 ?o32 ?_
            case o32 => decide
            refine lv_istore (lv' := [(6, .int (0 : Int32)), (5, .int (0 : Int32)), (4, .int (0 : Int32)), (3, .ref q_6), (0, .ref x), (1, .int i1), (2, .int i2)]) hx hb dX9_other_52 hl ?o33 rfl (fun ls hl => ?_)
            case o33 => decide
            have loop54 : ∀ (n54 : Nat) (iv54_4 iv54_5 iv54_6 : Int32) (H : Heap) (locs : List Loc) (hL1 : List Nat) (hl1 : hx_h), 0 ≤ iv54_4.toInt → iv54_4.toInt ≤ 100 → 0 ≤ iv54_5.toInt → iv54_5.toInt ≤ 513948600 → 0 ≤ iv54_6.toInt → iv54_6.toInt ≤ 100 → (iv54_4.toInt = hv_oc (hv_oJ cF hof frf bnf agf smf byf flf (A (i1.toInt + 1).toNat) cn0.toInt.toNat) i2.toInt (iv54_6.toInt).toNat) → (iv54_5.toInt = hv_os (hv_oJ cF hof frf bnf agf smf byf flf (A (i1.toInt + 1).toNat) cn0.toInt.toNat) (fun j => (tf (hof j).toNatClampNeg).toInt) (A (i1.toInt + 1).toNat).2.1 (iv54_6.toInt).toNat) → (iv54_4.toInt ≤ iv54_6.toInt) → (iv54_5.toInt ≤ 5139486 * iv54_6.toInt) → (iv54_6.toInt ≤ m0.toInt) → ∀ (ls : Array Slot), 100 - iv54_6.toInt < (n54 : Int) → hx_W T_tb (P_ty dA) (dC, dI) vwCl (hx_A L sz) s.heap hL1 hl1 s H locs → hx_T T_tb hL1 hl1 → hx_S T_tb [] L h hL1 hl1 → hl1.2.2 x 5 = some qa → hl1.2.2 x 4 = some w → hl1.2.2 x 12 = some qh → hl1.2.2 x 10 = some qc → hl1.2.2 x 7 = some qp → hl1.2.1 x 11 = cn0 → hl1.2.1 x 8 = pn0 → hl1.2.1 x 13 = m0 → hl1.2.1 x 6 = a0 → hx_g hL1 hl1 x 9 → hx_g hL1 hl1 qa 43 → hx_g hL1 hl1 w 0 → hx_g hL1 hl1 qh 46 → hx_g hL1 hl1 qc 45 → hx_g hL1 hl1 qp 44 → hx_g hL1 hl1 q_6 0 → (∀ j : Nat, (j : Int) < (hl1.2.1 x 6).toInt → hl1.2.2 qa j ≠ none) → (∀ j : Nat, (j : Int) < (hl1.2.1 x 13).toInt → hl1.2.2 qh j ≠ none) → (∀ j : Nat, (j : Int) < (hl1.2.1 x 11).toInt → hl1.2.2 qc j ≠ none) → (∀ j : Nat, (j : Int) < (hl1.2.1 x 8).toInt → hl1.2.2 qp j ≠ none) → hx_col 40 hl1 qp 1 = bnf → hx_col 100 hl1 qc 6 = smf → hx_col 100 hl1 qc 7 = frf → hx_col 100 hl1 qc 8 = flf → hx_col 100 hl1 qc 9 = tf → hx_num 40 hl1 qp 0 (pn0.toInt) → hx_num 100 hl1 qc 0 (cn0.toInt) → hl1.2.2 qa i1.toNatClampNeg = some q_6 → hw_DF hl1 qc qp 2 agf cn0.toInt → hw_DF hl1 qc qp 1 byf cn0.toInt → hv_RA hl1 qa w a0.toInt A → hv_FX 8 4 hl1 qc cF cn0.toInt → hv_HL hl1 qh qc hof m0.toInt cn0.toInt → hv_AQ hl1 q_6 i1.toInt (A (i1.toInt + 1).toNat) → lv_has ls 8 [(6, .int iv54_6), (5, .int iv54_5), (4, .int iv54_4), (3, .ref q_6), (0, .ref x), (1, .int i1), (2, .int i2)] → W p l e ({ frames := 3, cells := 0, slots := 0, locals := 71 }) s m ([.ref x, .int i1, .int i2] : List Value).toArray below meth c H locs 0 0 (MQ below (va_Qi (fun (r : Int32) (u : List Nat × hx_h) => (hv_OT (hv_oJ cF hof frf bnf agf smf byf flf (A (i1.toInt + 1).toNat) cn0.toInt.toNat) (fun j => (tf (hof j).toNatClampNeg).toInt) (A (i1.toInt + 1).toNat).2.1 i1.toInt a0.toInt i2.toInt m0.toInt r.toInt) ∧ hx_T T_tb u.1 u.2 ∧ hx_S T_tb [] L h u.1 u.2) (hx_E T_tb (P_ty dA) (dC, dI) vwCl (hx_A L sz)) (hx_A L sz)) ([.ref x, .int i1, .int i2] : List Value).toArray s 0 0 (hx_A L sz)) (F0 m 54 ls []) := by
              intro n54
              induction n54 with
              | zero => intro iv54_4 iv54_5 iv54_6 H locs hL1 hl1 bliv54_4 buiv54_4 bliv54_5 buiv54_5 bliv54_6 buiv54_6 vi54_0 vi54_1 vi54_2 vi54_3 vi54_4 ls hn54; exfalso; omega
              | succ n54 ih54 =>
                intro iv54_4 iv54_5 iv54_6 H locs hL1 hl1 bliv54_4 buiv54_4 bliv54_5 buiv54_5 bliv54_6 buiv54_6 vi54_0 vi54_1 vi54_2 vi54_3 vi54_4 ls hn54 hW hT hM f_x_5 f_x_4 f_x_12 f_x_10 f_x_7 f_x_11 f_x_8 f_x_13 f_x_6 gx gqa gw gqh gqc gqp gq_6 pf_x_6 pf_x_13 pf_x_11 pf_x_8 cl_qp_1 cl_qc_6 cl_qc_7 cl_qc_8 cl_qc_9 nu_qp nu_qc fq_6 hDF hDP hRA hFX hHL hAQo hl
                refine lv_iload hx hb dX9_other_54 (lv_at hl 0 rfl) ?_
                refine lv_aload_n hx hb dX9_other_56 rfl (lv_at hl 4 rfl) ?_
                refine hk_geti hx hb hts hC_9 hown hW gx tt_9 13 ?o34 rfl kw_377 ⟨rfl, rfl, rfl⟩ f_x_13 dX9_other_57 ?_
                case o34 => decide
                refine hb_icmp_ge (zx := iv54_6.toInt) (zy := m0.toInt) (tgt := 126) hx hb rfl rfl dX9_other_60 ?o35 (fun c_7 => ?_) (fun c_7 => ?_)
                case o35 => decide
                · skip
                  refine lv_iload_n hx hb dX9_other_126 rfl (lv_at hl 6 rfl) ?_
                  refine lv_iconst (v := 5) hx hb dX9_other_127 ?o36 ?_
                  case o36 => decide
                  refine hb_icmp_le (zx := i2.toInt) (zy := 5) (tgt := 136) hx hb rfl ?o37 dX9_other_128 ?o38 (fun c_8 => ?_) (fun c_8 => ?_)
                  case o37 => decide
                  case o38 => decide
                  · skip
                    refine lv_iload hx hb dX9_other_136 (lv_at hl 2 rfl) ?_
                    refine hx_reti hx hb hr hlk hW ⟨(Or.inr ⟨?o39, Or.inr ⟨?o40, (by have h8 := vi54_0; rw [show iv54_6.toInt.toNat = m0.toInt.toNat by omega] at h8; exact h8)⟩⟩), hT, hM⟩ dX9_other_138
                    case o39 => omega
                    case o40 => omega
                  · skip
                    refine lv_iload hx hb dX9_other_131 (lv_at hl 1 rfl) ?_
                    refine lv_goto (tgt := 138) hx hb dX9_other_133 ?o41 ?_
                    case o41 => decide
                    refine hx_reti hx hb hr hlk hW ⟨(Or.inr ⟨?o42, Or.inl ⟨?o43, (by have h8 := vi54_1; rw [show iv54_6.toInt.toNat = m0.toInt.toNat by omega] at h8; exact h8)⟩⟩), hT, hM⟩ dX9_other_138
                    case o42 => omega
                    case o43 => omega
                · skip
                  refine lv_aload_n hx hb dX9_other_63 rfl (lv_at hl 4 rfl) ?_
                  refine lv_aload_n hx hb dX9_other_64 rfl (lv_at hl 4 rfl) ?_
                  refine hk_getr hx hb hts hC_9 hown hW gx tt_9 12 ?o44 rfl kw_376 ⟨rfl, rfl, rfl⟩ f_x_12 dX9_other_65 ?_
                  case o44 => decide
                  refine lv_iload hx hb dX9_other_68 (lv_at hl 0 rfl) ?_
                  refine hx_aaldN hx hb hW hT gqh tt_46 (t1 := 2) rfl ⟨?o45, ?o46⟩ (pf_x_13 _ (by rw [f_x_13]; exact hx_tnI (by omega) (by omega))) dX9_other_70 (fun q_9 fq_9 gq_9 => ?_)
                  case o45 => omega
                  case o46 => omega
                  obtain ⟨ho_10o, ho_10a, ho_10b, ho_10c, ho_10d⟩ := hHL iv54_6.toNatClampNeg (by unfold Int32.toNatClampNeg; omega) (by unfold Int32.toNatClampNeg; omega)
                  have ho_10e : ho_10o = q_9 := Option.some.inj (ho_10a.symm.trans fq_9)
                  rw [ho_10e] at ho_10d
                  have ho_10b : 0 ≤ (hof iv54_6.toNatClampNeg).toInt := ho_10b
                  have ho_10c : (hof iv54_6.toNatClampNeg).toInt < cn0.toInt := ho_10c
                  have ho_10d : hl1.2.2 qc (hof iv54_6.toNatClampNeg).toNatClampNeg = some q_9 := ho_10d
                  have ho_10u : 0 ≤ (hof iv54_6.toInt.toNat).toInt ∧ (hof iv54_6.toInt.toNat).toInt < cn0.toInt := ⟨ho_10b, ho_10c⟩
                  refine lv_aload_n hx hb dX9_other_71 rfl (lv_at hl 3 rfl) ?_
                  have hTo := hT
                  obtain ⟨q_11, fq_11, gq_11⟩ := hv_rf hT gq_6 tt_0 (k := 2) (u := 11) rfl
                  obtain ⟨q_12, fq_12, gq_12⟩ := hv_rf hT gq_6 tt_0 (k := 3) (u := 12) rfl
                  obtain ⟨q_13, fq_13, gq_13⟩ := hv_rf hT gq_9 tt_2 (k := 4) (u := 20) rfl
                  obtain ⟨fv_14, efv_14⟩ : ∃ y : Int32, y = hl1.2.1 q_6 4 := ⟨_, rfl⟩
                  have bfv_14 := hT.gi gq_6 tt_0 (k := 4) rfl
                  rw [← efv_14] at bfv_14
                  have bfv_14 : 0 ≤ fv_14.toInt ∧ fv_14.toInt ≤ 160 := bfv_14
                  have ffv_14 := efv_14.symm
                  obtain ⟨fa_15, nfa_15⟩ : ∃ g : Nat → Int32, hl1.2.1 q_11 = g := ⟨_, rfl⟩
                  obtain ⟨fa_16, nfa_16⟩ : ∃ g : Nat → Int32, hl1.2.1 q_12 = g := ⟨_, rfl⟩
                  obtain ⟨fa_17, nfa_17⟩ : ∃ g : Nat → Int32, hl1.2.1 q_13 = g := ⟨_, rfl⟩
                  refine hx_goi (hx_runV (As := [.ref q_9, .ref q_6]) (rest := []) ⟨hx, hb, hml, hown, hts⟩ hW gx tt_9 (T := TX9) (N := 20) rfl (t_X9_judgement_v l dC dI dA hL1 hl1 H.size x q_9 q_6 hT gx gq_9 gq_6 qp gqp f_x_7 qc gqc f_x_10 q_11 gq_11 fq_11 q_12 gq_12 fq_12 q_13 gq_13 fq_13 (hof iv54_6.toNatClampNeg) ho_10d ⟨?o47, ?o48⟩ fa_15 nfa_15 fa_16 nfa_16 fa_17 nfa_17 cn0 f_x_11 pn0 f_x_8 fv_14 ffv_14 frf cl_qc_7 smf cl_qc_6 flf cl_qc_8 bnf cl_qp_1 nu_qp agf byf hDF hDP (A (i1.toInt + 1).toNat).2.1 (by rw [← nfa_15]; exact hAQo.2.2.1 _ fq_11) (hAB _).1 (A (i1.toInt + 1).toNat).2.2 (hAB _).2 (by have h8 := hAQo.2.2.2 _ fq_12; rw [nfa_16, ffv_14] at h8; exact h8) ?o49 pf_x_8 pf_x_11) (cwV 2 hts (hx_gV kw_830 kw_827 kw_829 kw_28 kw_94) rfl rfl rfl (by decide +kernel) ⟨Nat.le_of_ble_eq_true rfl, Nat.le_of_ble_eq_true rfl⟩) rfl hl.1 rfl (Nat.le_of_ble_eq_true rfl) dX9_other_72 ⟨Nat.le_of_ble_eq_true rfl, Nat.le_of_ble_eq_true rfl⟩) hW (fun r_20 L_18 h_19 H locs p_21 hW => ?_)
                  case o47 => omega
                  case o48 => omega
                  case o49 => omega
                  obtain ⟨hr_22, hT, hs⟩ := p_21
                  replace hT : hx_T T_tb L_18 h_19 := hT
                  replace hs : hx_S T_tb [] hL1 hl1 L_18 h_19 := hs
                  replace f_x_5 := (hs.o gx trivial rfl).2.trans f_x_5
                  replace f_x_4 := (hs.o gx trivial rfl).2.trans f_x_4
                  replace f_x_12 := (hs.o gx trivial rfl).2.trans f_x_12
                  replace f_x_10 := (hs.o gx trivial rfl).2.trans f_x_10
                  replace f_x_7 := (hs.o gx trivial rfl).2.trans f_x_7
                  replace f_x_11 := (hs.o gx trivial rfl).1.trans f_x_11
                  replace f_x_8 := (hs.o gx trivial rfl).1.trans f_x_8
                  replace f_x_13 := (hs.o gx trivial rfl).1.trans f_x_13
                  replace f_x_6 := (hs.o gx trivial rfl).1.trans f_x_6
                  replace fq_11 := (hs.o gq_6 trivial rfl).2.trans fq_11
                  replace fq_12 := (hs.o gq_6 trivial rfl).2.trans fq_12
                  replace fq_13 := (hs.o gq_9 trivial rfl).2.trans fq_13
                  replace ffv_14 := (hs.o gq_6 trivial rfl).1.trans ffv_14
                  replace pf_x_6 : ∀ j : Nat, (j : Int) < (h_19.2.1 x 6).toInt → h_19.2.2 qa j ≠ none := by
                    intro j hj; rw [(hs.o gx trivial rfl).1] at hj; rw [(hs.a gqa rfl j).2]; exact pf_x_6 j hj
                  replace pf_x_13 : ∀ j : Nat, (j : Int) < (h_19.2.1 x 13).toInt → h_19.2.2 qh j ≠ none := by
                    intro j hj; rw [(hs.o gx trivial rfl).1] at hj; rw [(hs.a gqh rfl j).2]; exact pf_x_13 j hj
                  replace pf_x_11 : ∀ j : Nat, (j : Int) < (h_19.2.1 x 11).toInt → h_19.2.2 qc j ≠ none := by
                    intro j hj; rw [(hs.o gx trivial rfl).1] at hj; rw [(hs.a gqc rfl j).2]; exact pf_x_11 j hj
                  replace pf_x_8 : ∀ j : Nat, (j : Int) < (h_19.2.1 x 8).toInt → h_19.2.2 qp j ≠ none := by
                    intro j hj; rw [(hs.o gx trivial rfl).1] at hj; rw [(hs.a gqp rfl j).2]; exact pf_x_8 j hj
                  replace cl_qp_1 : hx_col 40 h_19 qp 1 = bnf := (hx_col_S hs hTo gqp tt_44 tt_4 rfl rfl).trans cl_qp_1
                  replace cl_qc_6 : hx_col 100 h_19 qc 6 = smf := (hx_col_S hs hTo gqc tt_45 tt_2 rfl rfl).trans cl_qc_6
                  replace cl_qc_7 : hx_col 100 h_19 qc 7 = frf := (hx_col_S hs hTo gqc tt_45 tt_2 rfl rfl).trans cl_qc_7
                  replace cl_qc_8 : hx_col 100 h_19 qc 8 = flf := (hx_col_S hs hTo gqc tt_45 tt_2 rfl rfl).trans cl_qc_8
                  replace cl_qc_9 : hx_col 100 h_19 qc 9 = tf := (hx_col_S hs hTo gqc tt_45 tt_2 rfl rfl).trans cl_qc_9
                  replace nu_qp : hx_num 40 h_19 qp 0 (pn0.toInt) := hx_num_S hs hTo gqp tt_44 tt_4 rfl rfl nu_qp
                  replace nu_qc : hx_num 100 h_19 qc 0 (cn0.toInt) := hx_num_S hs hTo gqc tt_45 tt_2 rfl rfl nu_qc
                  replace hDF : hw_DF h_19 qc qp 2 agf cn0.toInt := hw_DF_S hs hTo gqc gqp tt_45 tt_2 rfl rfl rfl hDF
                  replace hDP : hw_DF h_19 qc qp 1 byf cn0.toInt := hw_DF_S hs hTo gqc gqp tt_45 tt_2 rfl rfl rfl hDP
                  replace hRA : hv_RA h_19 qa w a0.toInt A := hv_RA_S hs hTo gqa gw tt_43 tt_0 rfl rfl rfl rfl rfl rfl ?o50 hRA
                  case o50 => omega
                  replace hFX : hv_FX 8 4 h_19 qc cF cn0.toInt := hv_FX_S hs hTo gqc tt_45 tt_2 rfl rfl rfl rfl hFX
                  replace hHL : hv_HL h_19 qh qc hof m0.toInt cn0.toInt := hv_HL_S hs gqh gqc rfl rfl hHL
                  replace hAQo : hv_AQ h_19 q_6 i1.toInt (A (i1.toInt + 1).toNat) := hv_AQ_S hs hTo gq_6 tt_0 rfl rfl rfl rfl rfl hAQo
                  replace fq_6 := (hs.a gqa rfl _).2.trans fq_6
                  replace ho_10d := (hs.a gqc rfl _).2.trans ho_10d
                  replace nfa_15 : h_19.2.1 q_11 = fa_15 := (funext fun j => (hs.a gq_11 rfl j).1).trans nfa_15
                  replace nfa_16 : h_19.2.1 q_12 = fa_16 := (funext fun j => (hs.a gq_12 rfl j).1).trans nfa_16
                  replace nfa_17 : h_19.2.1 q_13 = fa_17 := (funext fun j => (hs.a gq_13 rfl j).1).trans nfa_17
                  replace hM := hM.tr (hs.mono ?o51)
                  case o51 => decide
                  replace gx := gx.S hs
                  replace gqa := gqa.S hs
                  replace gw := gw.S hs
                  replace gqh := gqh.S hs
                  replace gqc := gqc.S hs
                  replace gqp := gqp.S hs
                  replace gq_6 := gq_6.S hs
                  replace gq_9 := gq_9.S hs
                  replace gq_11 := gq_11.S hs
                  replace gq_12 := gq_12.S hs
                  replace gq_13 := gq_13.S hs
                  have hJ_23 : r_20.toInt = (hv_oJ cF hof frf bnf agf smf byf flf (A (i1.toInt + 1).toNat) cn0.toInt.toNat) iv54_6.toInt.toNat := ?o52
                  case o52 =>
                    rw [hr_22.1]
                    exact hv_jg_e (hAB _).2 (fun k hk => by have h8 := (hFX).1 (hof iv54_6.toNatClampNeg).toNatClampNeg (by unfold Int32.toNatClampNeg; omega) (by unfold Int32.toNatClampNeg; omega) _ _ ho_10d fq_13 k hk; rw [nfa_17] at h8; exact congrArg Int32.toInt h8)
                  refine lv_istore (lv' := [(7, .int r_20), (6, .int iv54_6), (5, .int iv54_5), (4, .int iv54_4), (3, .ref q_6), (0, .ref x), (1, .int i1), (2, .int i2)]) hx hb dX9_other_75 hl ?o53 rfl (fun ls hl => ?_)
                  case o53 => decide
                  refine lv_iload hx hb dX9_other_77 (lv_at hl 3 rfl) ?_
                  refine lv_iload hx hb dX9_other_79 (lv_at hl 0 rfl) ?_
                  refine lv_iload_n hx hb dX9_other_81 rfl (lv_at hl 7 rfl) ?_
                  refine hb_icmp_ne (zx := r_20.toInt) (zy := i2.toInt) (tgt := 89) hx hb rfl rfl dX9_other_82 ?o54 (fun c_24 => ?_) (fun c_24 => ?_)
                  case o54 => decide
                  · skip
                    refine lv_iconst (v := 0) hx hb dX9_other_89 ?o55 ?_
                    case o55 => decide
                    refine lv_iadd hx hb dX9_other_90 ?_
                    have rg_25 := i32_r iv54_4
                    refine lv_topi (fun x_26 ex_26 => ?_)
                    have zx_26 : x_26.toInt = iv54_4.toInt + 0 := ?o56
                    case o56 =>
                      rw [ex_26]
                      refine i32_add rfl ?o57 ?o58 ?o59
                      case o57 => decide
                      case o58 => omega
                      case o59 => omega
                    refine lv_istore (lv' := [(4, .int x_26), (7, .int r_20), (6, .int iv54_6), (5, .int iv54_5), (3, .ref q_6), (0, .ref x), (1, .int i1), (2, .int i2)]) hx hb dX9_other_91 hl ?o60 rfl (fun ls hl => ?_)
                    case o60 => decide
                    refine lv_iload hx hb dX9_other_93 (lv_at hl 3 rfl) ?_
                    refine lv_aload_n hx hb dX9_other_95 rfl (lv_at hl 5 rfl) ?_
                    refine hk_getr hx hb hts hC_9 hown hW gx tt_9 12 ?o61 rfl kw_376 ⟨rfl, rfl, rfl⟩ f_x_12 dX9_other_96 ?_
                    case o61 => decide
                    refine lv_iload hx hb dX9_other_99 (lv_at hl 2 rfl) ?_
                    refine hx_aaldN hx hb hW hT gqh tt_46 (t1 := 2) rfl ⟨?o62, ?o63⟩ (pf_x_13 _ (by rw [f_x_13]; exact hx_tnI (by omega) (by omega))) dX9_other_101 (fun q_27 fq_27 gq_27 => ?_)
                    case o62 => omega
                    case o63 => omega
                    obtain ⟨ho_28o, ho_28a, ho_28b, ho_28c, ho_28d⟩ := hHL iv54_6.toNatClampNeg (by unfold Int32.toNatClampNeg; omega) (by unfold Int32.toNatClampNeg; omega)
                    have ho_28e : ho_28o = q_27 := Option.some.inj (ho_28a.symm.trans fq_27)
                    rw [ho_28e] at ho_28d
                    have ho_28b : 0 ≤ (hof iv54_6.toNatClampNeg).toInt := ho_28b
                    have ho_28c : (hof iv54_6.toNatClampNeg).toInt < cn0.toInt := ho_28c
                    have ho_28d : h_19.2.2 qc (hof iv54_6.toNatClampNeg).toNatClampNeg = some q_27 := ho_28d
                    have ho_28u : 0 ≤ (hof iv54_6.toInt.toNat).toInt ∧ (hof iv54_6.toInt.toNat).toInt < cn0.toInt := ⟨ho_28b, ho_28c⟩
                    obtain ⟨fv_29, efv_29⟩ : ∃ y : Int32, y = h_19.2.1 q_27 9 := ⟨_, rfl⟩
                    have bfv_29 := hT.gi gq_27 tt_2 (k := 9) rfl
                    rw [← efv_29] at bfv_29
                    have bfv_29 : -2147483648 ≤ fv_29.toInt ∧ fv_29.toInt ≤ 2147483647 := bfv_29
                    have ffv_29 := efv_29.symm
                    have ct_30 : fv_29 = tf (hof iv54_6.toNatClampNeg).toNatClampNeg := ?o64
                    case o64 =>
                      rw [← ffv_29, ← cl_qc_9]
                      exact (hx_col_at ho_28d (by unfold Int32.toNatClampNeg; omega)).symm
                    have ct_30b := htb (hof iv54_6.toNatClampNeg).toNatClampNeg (by unfold Int32.toNatClampNeg; omega); rw [← ct_30] at ct_30b
                    refine lv_aload_n hx hb dX9_other_102 rfl (lv_at hl 4 rfl) ?_
                    refine lv_iload hx hb dX9_other_103 (lv_at hl 1 rfl) ?_
                    refine lv_iconst (v := 5) hx hb dX9_other_105 ?o65 ?_
                    case o65 => decide
                    refine hb_icmp_ne (zx := r_20.toInt) (zy := 5) (tgt := 113) hx hb rfl ?o66 dX9_other_106 ?o67 (fun c_31 => ?_) (fun c_31 => ?_)
                    case o66 => decide
                    case o67 => decide
                    · skip
                      refine lv_iconst (v := 0) hx hb dX9_other_113 ?o68 ?_
                      case o68 => decide
                      have hTo := hT
                      have zc_0 : (0 : Int32).toInt = 0 := ?o69
                      case o69 => decide
                      refine hx_goi (hx_runV (As := [.ref q_6, .int (0 : Int32)]) (rest := [.int iv54_5]) ⟨hx, hb, hml, hown, hts⟩ hW gq_27 tt_2 (T := TX2) (N := 19) rfl (t_X2_costsBy_v l dC dI dA L_18 h_19 H.size q_27 q_6 (0 : Int32) hT gq_27 gq_6 q_11 gq_11 fq_11 fa_15 nfa_15 fv_29 ffv_29 (A (i1.toInt + 1).toNat).2.1 (by rw [← nfa_15]; exact hAQo.2.2.1 _ fq_11) (hAB _).1 ⟨?o70, ?o71⟩) (cwV 2 hts (hx_gV kw_849 kw_846 kw_847 kw_848 kw_110) rfl rfl rfl (by decide +kernel) ⟨Nat.le_of_ble_eq_true rfl, Nat.le_of_ble_eq_true rfl⟩) rfl hl.1 rfl (Nat.le_of_ble_eq_true rfl) dX9_other_114 ⟨Nat.le_of_ble_eq_true rfl, Nat.le_of_ble_eq_true rfl⟩) hW (fun r_34 L_32 h_33 H locs p_35 hW => ?_)
                      case o70 => omega
                      case o71 => omega
                      obtain ⟨hr_36, hT, hs⟩ := p_35
                      replace hT : hx_T T_tb L_32 h_33 := hT
                      replace hs : hx_S T_tb [] L_18 h_19 L_32 h_33 := hs
                      replace f_x_5 := (hs.o gx trivial rfl).2.trans f_x_5
                      replace f_x_4 := (hs.o gx trivial rfl).2.trans f_x_4
                      replace f_x_12 := (hs.o gx trivial rfl).2.trans f_x_12
                      replace f_x_10 := (hs.o gx trivial rfl).2.trans f_x_10
                      replace f_x_7 := (hs.o gx trivial rfl).2.trans f_x_7
                      replace f_x_11 := (hs.o gx trivial rfl).1.trans f_x_11
                      replace f_x_8 := (hs.o gx trivial rfl).1.trans f_x_8
                      replace f_x_13 := (hs.o gx trivial rfl).1.trans f_x_13
                      replace f_x_6 := (hs.o gx trivial rfl).1.trans f_x_6
                      replace fq_11 := (hs.o gq_6 trivial rfl).2.trans fq_11
                      replace fq_12 := (hs.o gq_6 trivial rfl).2.trans fq_12
                      replace fq_13 := (hs.o gq_9 trivial rfl).2.trans fq_13
                      replace ffv_14 := (hs.o gq_6 trivial rfl).1.trans ffv_14
                      replace ffv_29 := (hs.o gq_27 trivial rfl).1.trans ffv_29
                      replace pf_x_6 : ∀ j : Nat, (j : Int) < (h_33.2.1 x 6).toInt → h_33.2.2 qa j ≠ none := by
                        intro j hj; rw [(hs.o gx trivial rfl).1] at hj; rw [(hs.a gqa rfl j).2]; exact pf_x_6 j hj
                      replace pf_x_13 : ∀ j : Nat, (j : Int) < (h_33.2.1 x 13).toInt → h_33.2.2 qh j ≠ none := by
                        intro j hj; rw [(hs.o gx trivial rfl).1] at hj; rw [(hs.a gqh rfl j).2]; exact pf_x_13 j hj
                      replace pf_x_11 : ∀ j : Nat, (j : Int) < (h_33.2.1 x 11).toInt → h_33.2.2 qc j ≠ none := by
                        intro j hj; rw [(hs.o gx trivial rfl).1] at hj; rw [(hs.a gqc rfl j).2]; exact pf_x_11 j hj
                      replace pf_x_8 : ∀ j : Nat, (j : Int) < (h_33.2.1 x 8).toInt → h_33.2.2 qp j ≠ none := by
                        intro j hj; rw [(hs.o gx trivial rfl).1] at hj; rw [(hs.a gqp rfl j).2]; exact pf_x_8 j hj
                      replace cl_qp_1 : hx_col 40 h_33 qp 1 = bnf := (hx_col_S hs hTo gqp tt_44 tt_4 rfl rfl).trans cl_qp_1
                      replace cl_qc_6 : hx_col 100 h_33 qc 6 = smf := (hx_col_S hs hTo gqc tt_45 tt_2 rfl rfl).trans cl_qc_6
                      replace cl_qc_7 : hx_col 100 h_33 qc 7 = frf := (hx_col_S hs hTo gqc tt_45 tt_2 rfl rfl).trans cl_qc_7
                      replace cl_qc_8 : hx_col 100 h_33 qc 8 = flf := (hx_col_S hs hTo gqc tt_45 tt_2 rfl rfl).trans cl_qc_8
                      replace cl_qc_9 : hx_col 100 h_33 qc 9 = tf := (hx_col_S hs hTo gqc tt_45 tt_2 rfl rfl).trans cl_qc_9
                      replace nu_qp : hx_num 40 h_33 qp 0 (pn0.toInt) := hx_num_S hs hTo gqp tt_44 tt_4 rfl rfl nu_qp
                      replace nu_qc : hx_num 100 h_33 qc 0 (cn0.toInt) := hx_num_S hs hTo gqc tt_45 tt_2 rfl rfl nu_qc
                      replace hDF : hw_DF h_33 qc qp 2 agf cn0.toInt := hw_DF_S hs hTo gqc gqp tt_45 tt_2 rfl rfl rfl hDF
                      replace hDP : hw_DF h_33 qc qp 1 byf cn0.toInt := hw_DF_S hs hTo gqc gqp tt_45 tt_2 rfl rfl rfl hDP
                      replace hRA : hv_RA h_33 qa w a0.toInt A := hv_RA_S hs hTo gqa gw tt_43 tt_0 rfl rfl rfl rfl rfl rfl ?o72 hRA
                      case o72 => omega
                      replace hFX : hv_FX 8 4 h_33 qc cF cn0.toInt := hv_FX_S hs hTo gqc tt_45 tt_2 rfl rfl rfl rfl hFX
                      replace hHL : hv_HL h_33 qh qc hof m0.toInt cn0.toInt := hv_HL_S hs gqh gqc rfl rfl hHL
                      replace hAQo : hv_AQ h_33 q_6 i1.toInt (A (i1.toInt + 1).toNat) := hv_AQ_S hs hTo gq_6 tt_0 rfl rfl rfl rfl rfl hAQo
                      replace fq_6 := (hs.a gqa rfl _).2.trans fq_6
                      replace ho_10d := (hs.a gqc rfl _).2.trans ho_10d
                      replace ho_28d := (hs.a gqc rfl _).2.trans ho_28d
                      replace nfa_15 : h_33.2.1 q_11 = fa_15 := (funext fun j => (hs.a gq_11 rfl j).1).trans nfa_15
                      replace nfa_16 : h_33.2.1 q_12 = fa_16 := (funext fun j => (hs.a gq_12 rfl j).1).trans nfa_16
                      replace nfa_17 : h_33.2.1 q_13 = fa_17 := (funext fun j => (hs.a gq_13 rfl j).1).trans nfa_17
                      replace hM := hM.tr (hs.mono ?o73)
                      case o73 => decide
                      replace gx := gx.S hs
                      replace gqa := gqa.S hs
                      replace gw := gw.S hs
                      replace gqh := gqh.S hs
                      replace gqc := gqc.S hs
                      replace gqp := gqp.S hs
                      replace gq_6 := gq_6.S hs
                      replace gq_9 := gq_9.S hs
                      replace gq_11 := gq_11.S hs
                      replace gq_12 := gq_12.S hs
                      replace gq_13 := gq_13.S hs
                      replace gq_27 := gq_27.S hs
                      refine lv_iadd hx hb dX9_other_117 ?_
                      have rg_37 := i32_r iv54_5
                      have rg_38 := i32_r r_34
                      refine lv_topi (fun x_39 ex_39 => ?_)
                      have zx_39 : x_39.toInt = iv54_5.toInt + r_34.toInt := ?o74
                      case o74 =>
                        rw [ex_39]
                        refine i32_add rfl rfl ?o75 ?o76
                        case o75 => omega
                        case o76 => omega
                      refine lv_istore (lv' := [(5, .int x_39), (4, .int x_26), (7, .int r_20), (6, .int iv54_6), (3, .ref q_6), (0, .ref x), (1, .int i1), (2, .int i2)]) hx hb dX9_other_118 hl ?o77 rfl (fun ls hl => ?_)
                      case o77 => decide
                      obtain ⟨x_40, ex_40⟩ : ∃ y : Int32, y = iv54_6 + Int32.ofInt 1 := ⟨_, rfl⟩
                      have rg_41 := i32_r iv54_6
                      have zx_40 : x_40.toInt = iv54_6.toInt + (1) := ?o78
                      case o78 =>
                        rw [ex_40]
                        refine i32_add rfl ?o79 ?o80 ?o81
                        case o79 => decide
                        case o80 => omega
                        case o81 => omega
                      refine lv_iinc (v := x_40) (lv' := [(6, .int x_40), (5, .int x_39), (4, .int x_26), (7, .int r_20), (3, .ref q_6), (0, .ref x), (1, .int i1), (2, .int i2)]) hx hb dX9_other_120 hl (k := 3) rfl ex_40.symm ?o82 rfl (fun ls hl => ?_)
                      case o82 => decide
                      refine lv_goto (tgt := 54) hx hb dX9_other_123 ?o83 ?_
                      case o83 => decide
                      refine ih54 x_26 x_39 x_40 _ _ L_32 h_33 ?o84 ?o85 ?o86 ?o87 ?o88 ?o89 (by by_cases z9 : r_20.toInt = i2.toInt; exact hv_oc_y vi54_0 (by rw [← hJ_23]; exact z9) (by omega) (by omega) zx_40; exact hv_oc_n vi54_0 (by rw [← hJ_23]; exact z9) (by omega) (by omega) zx_40) (hv_os_s vi54_1 (c := r_34.toInt) (by show _ = (tf (hof iv54_6.toNatClampNeg).toNatClampNeg).toInt * _ + _ + _; rw [← ct_30, ← hJ_23]; by_cases z9 : r_20.toInt = 5; (rw [if_pos z9]; exact hr_36.1.1 (by omega)); (rw [if_neg z9, Int.add_zero]; exact hr_36.1.2 (by omega))) ?o90 zx_39 zx_40) ?o91 ?o92 ?o93 ls ?o94 hW hT hM f_x_5 f_x_4 f_x_12 f_x_10 f_x_7 f_x_11 f_x_8 f_x_13 f_x_6 gx gqa gw gqh gqc gqp gq_6 pf_x_6 pf_x_13 pf_x_11 pf_x_8 cl_qp_1 cl_qc_6 cl_qc_7 cl_qc_8 cl_qc_9 nu_qp nu_qc fq_6 hDF hDP hRA hFX hHL hAQo (lv_sub hl [0, 1, 2, 4, 5, 6, 7] rfl)
                      case o84 => omega
                      case o85 => omega
                      case o86 => omega
                      case o87 => omega
                      case o88 => omega
                      case o89 => omega
                      case o90 => omega
                      case o91 => omega
                      case o92 => omega
                      case o93 => omega
                      case o94 => omega
                    · skip
                      refine lv_iconst (v := 1) hx hb dX9_other_109 ?o95 ?_
                      case o95 => decide
                      refine lv_goto (tgt := 114) hx hb dX9_other_110 ?o96 ?_
                      case o96 => decide
                      have hTo := hT
                      have zc_1 : (1 : Int32).toInt = 1 := ?o97
                      case o97 => decide
                      refine hx_goi (hx_runV (As := [.ref q_6, .int (1 : Int32)]) (rest := [.int iv54_5]) ⟨hx, hb, hml, hown, hts⟩ hW gq_27 tt_2 (T := TX2) (N := 19) rfl (t_X2_costsBy_v l dC dI dA L_18 h_19 H.size q_27 q_6 (1 : Int32) hT gq_27 gq_6 q_11 gq_11 fq_11 fa_15 nfa_15 fv_29 ffv_29 (A (i1.toInt + 1).toNat).2.1 (by rw [← nfa_15]; exact hAQo.2.2.1 _ fq_11) (hAB _).1 ⟨?o98, ?o99⟩) (cwV 2 hts (hx_gV kw_849 kw_846 kw_847 kw_848 kw_110) rfl rfl rfl (by decide +kernel) ⟨Nat.le_of_ble_eq_true rfl, Nat.le_of_ble_eq_true rfl⟩) rfl hl.1 rfl (Nat.le_of_ble_eq_true rfl) dX9_other_114 ⟨Nat.le_of_ble_eq_true rfl, Nat.le_of_ble_eq_true rfl⟩) hW (fun r_44 L_42 h_43 H locs p_45 hW => ?_)
                      case o98 => omega
                      case o99 => omega
                      obtain ⟨hr_46, hT, hs⟩ := p_45
                      replace hT : hx_T T_tb L_42 h_43 := hT
                      replace hs : hx_S T_tb [] L_18 h_19 L_42 h_43 := hs
                      replace f_x_5 := (hs.o gx trivial rfl).2.trans f_x_5
                      replace f_x_4 := (hs.o gx trivial rfl).2.trans f_x_4
                      replace f_x_12 := (hs.o gx trivial rfl).2.trans f_x_12
                      replace f_x_10 := (hs.o gx trivial rfl).2.trans f_x_10
                      replace f_x_7 := (hs.o gx trivial rfl).2.trans f_x_7
                      replace f_x_11 := (hs.o gx trivial rfl).1.trans f_x_11
                      replace f_x_8 := (hs.o gx trivial rfl).1.trans f_x_8
                      replace f_x_13 := (hs.o gx trivial rfl).1.trans f_x_13
                      replace f_x_6 := (hs.o gx trivial rfl).1.trans f_x_6
                      replace fq_11 := (hs.o gq_6 trivial rfl).2.trans fq_11
                      replace fq_12 := (hs.o gq_6 trivial rfl).2.trans fq_12
                      replace fq_13 := (hs.o gq_9 trivial rfl).2.trans fq_13
                      replace ffv_14 := (hs.o gq_6 trivial rfl).1.trans ffv_14
                      replace ffv_29 := (hs.o gq_27 trivial rfl).1.trans ffv_29
                      replace pf_x_6 : ∀ j : Nat, (j : Int) < (h_43.2.1 x 6).toInt → h_43.2.2 qa j ≠ none := by
                        intro j hj; rw [(hs.o gx trivial rfl).1] at hj; rw [(hs.a gqa rfl j).2]; exact pf_x_6 j hj
                      replace pf_x_13 : ∀ j : Nat, (j : Int) < (h_43.2.1 x 13).toInt → h_43.2.2 qh j ≠ none := by
                        intro j hj; rw [(hs.o gx trivial rfl).1] at hj; rw [(hs.a gqh rfl j).2]; exact pf_x_13 j hj
                      replace pf_x_11 : ∀ j : Nat, (j : Int) < (h_43.2.1 x 11).toInt → h_43.2.2 qc j ≠ none := by
                        intro j hj; rw [(hs.o gx trivial rfl).1] at hj; rw [(hs.a gqc rfl j).2]; exact pf_x_11 j hj
                      replace pf_x_8 : ∀ j : Nat, (j : Int) < (h_43.2.1 x 8).toInt → h_43.2.2 qp j ≠ none := by
                        intro j hj; rw [(hs.o gx trivial rfl).1] at hj; rw [(hs.a gqp rfl j).2]; exact pf_x_8 j hj
                      replace cl_qp_1 : hx_col 40 h_43 qp 1 = bnf := (hx_col_S hs hTo gqp tt_44 tt_4 rfl rfl).trans cl_qp_1
                      replace cl_qc_6 : hx_col 100 h_43 qc 6 = smf := (hx_col_S hs hTo gqc tt_45 tt_2 rfl rfl).trans cl_qc_6
                      replace cl_qc_7 : hx_col 100 h_43 qc 7 = frf := (hx_col_S hs hTo gqc tt_45 tt_2 rfl rfl).trans cl_qc_7
                      replace cl_qc_8 : hx_col 100 h_43 qc 8 = flf := (hx_col_S hs hTo gqc tt_45 tt_2 rfl rfl).trans cl_qc_8
                      replace cl_qc_9 : hx_col 100 h_43 qc 9 = tf := (hx_col_S hs hTo gqc tt_45 tt_2 rfl rfl).trans cl_qc_9
                      replace nu_qp : hx_num 40 h_43 qp 0 (pn0.toInt) := hx_num_S hs hTo gqp tt_44 tt_4 rfl rfl nu_qp
                      replace nu_qc : hx_num 100 h_43 qc 0 (cn0.toInt) := hx_num_S hs hTo gqc tt_45 tt_2 rfl rfl nu_qc
                      replace hDF : hw_DF h_43 qc qp 2 agf cn0.toInt := hw_DF_S hs hTo gqc gqp tt_45 tt_2 rfl rfl rfl hDF
                      replace hDP : hw_DF h_43 qc qp 1 byf cn0.toInt := hw_DF_S hs hTo gqc gqp tt_45 tt_2 rfl rfl rfl hDP
                      replace hRA : hv_RA h_43 qa w a0.toInt A := hv_RA_S hs hTo gqa gw tt_43 tt_0 rfl rfl rfl rfl rfl rfl ?o100 hRA
                      case o100 => omega
                      replace hFX : hv_FX 8 4 h_43 qc cF cn0.toInt := hv_FX_S hs hTo gqc tt_45 tt_2 rfl rfl rfl rfl hFX
                      replace hHL : hv_HL h_43 qh qc hof m0.toInt cn0.toInt := hv_HL_S hs gqh gqc rfl rfl hHL
                      replace hAQo : hv_AQ h_43 q_6 i1.toInt (A (i1.toInt + 1).toNat) := hv_AQ_S hs hTo gq_6 tt_0 rfl rfl rfl rfl rfl hAQo
                      replace fq_6 := (hs.a gqa rfl _).2.trans fq_6
                      replace ho_10d := (hs.a gqc rfl _).2.trans ho_10d
                      replace ho_28d := (hs.a gqc rfl _).2.trans ho_28d
                      replace nfa_15 : h_43.2.1 q_11 = fa_15 := (funext fun j => (hs.a gq_11 rfl j).1).trans nfa_15
                      replace nfa_16 : h_43.2.1 q_12 = fa_16 := (funext fun j => (hs.a gq_12 rfl j).1).trans nfa_16
                      replace nfa_17 : h_43.2.1 q_13 = fa_17 := (funext fun j => (hs.a gq_13 rfl j).1).trans nfa_17
                      replace hM := hM.tr (hs.mono ?o101)
                      case o101 => decide
                      replace gx := gx.S hs
                      replace gqa := gqa.S hs
                      replace gw := gw.S hs
                      replace gqh := gqh.S hs
                      replace gqc := gqc.S hs
                      replace gqp := gqp.S hs
                      replace gq_6 := gq_6.S hs
                      replace gq_9 := gq_9.S hs
                      replace gq_11 := gq_11.S hs
                      replace gq_12 := gq_12.S hs
                      replace gq_13 := gq_13.S hs
                      replace gq_27 := gq_27.S hs
                      refine lv_iadd hx hb dX9_other_117 ?_
                      have rg_47 := i32_r iv54_5
                      have rg_48 := i32_r r_44
                      refine lv_topi (fun x_49 ex_49 => ?_)
                      have zx_49 : x_49.toInt = iv54_5.toInt + r_44.toInt := ?o102
                      case o102 =>
                        rw [ex_49]
                        refine i32_add rfl rfl ?o103 ?o104
                        case o103 => omega
                        case o104 => omega
                      refine lv_istore (lv' := [(5, .int x_49), (4, .int x_26), (7, .int r_20), (6, .int iv54_6), (3, .ref q_6), (0, .ref x), (1, .int i1), (2, .int i2)]) hx hb dX9_other_118 hl ?o105 rfl (fun ls hl => ?_)
                      case o105 => decide
                      obtain ⟨x_50, ex_50⟩ : ∃ y : Int32, y = iv54_6 + Int32.ofInt 1 := ⟨_, rfl⟩
                      have rg_51 := i32_r iv54_6
                      have zx_50 : x_50.toInt = iv54_6.toInt + (1) := ?o106
                      case o106 =>
                        rw [ex_50]
                        refine i32_add rfl ?o107 ?o108 ?o109
                        case o107 => decide
                        case o108 => omega
                        case o109 => omega
                      refine lv_iinc (v := x_50) (lv' := [(6, .int x_50), (5, .int x_49), (4, .int x_26), (7, .int r_20), (3, .ref q_6), (0, .ref x), (1, .int i1), (2, .int i2)]) hx hb dX9_other_120 hl (k := 3) rfl ex_50.symm ?o110 rfl (fun ls hl => ?_)
                      case o110 => decide
                      refine lv_goto (tgt := 54) hx hb dX9_other_123 ?o111 ?_
                      case o111 => decide
                      refine ih54 x_26 x_49 x_50 _ _ L_42 h_43 ?o112 ?o113 ?o114 ?o115 ?o116 ?o117 (by by_cases z9 : r_20.toInt = i2.toInt; exact hv_oc_y vi54_0 (by rw [← hJ_23]; exact z9) (by omega) (by omega) zx_50; exact hv_oc_n vi54_0 (by rw [← hJ_23]; exact z9) (by omega) (by omega) zx_50) (hv_os_s vi54_1 (c := r_44.toInt) (by show _ = (tf (hof iv54_6.toNatClampNeg).toNatClampNeg).toInt * _ + _ + _; rw [← ct_30, ← hJ_23]; by_cases z9 : r_20.toInt = 5; (rw [if_pos z9]; exact hr_46.1.1 (by omega)); (rw [if_neg z9, Int.add_zero]; exact hr_46.1.2 (by omega))) ?o118 zx_49 zx_50) ?o119 ?o120 ?o121 ls ?o122 hW hT hM f_x_5 f_x_4 f_x_12 f_x_10 f_x_7 f_x_11 f_x_8 f_x_13 f_x_6 gx gqa gw gqh gqc gqp gq_6 pf_x_6 pf_x_13 pf_x_11 pf_x_8 cl_qp_1 cl_qc_6 cl_qc_7 cl_qc_8 cl_qc_9 nu_qp nu_qc fq_6 hDF hDP hRA hFX hHL hAQo (lv_sub hl [0, 1, 2, 4, 5, 6, 7] rfl)
                      case o112 => omega
                      case o113 => omega
                      case o114 => omega
                      case o115 => omega
                      case o116 => omega
                      case o117 => omega
                      case o118 => omega
                      case o119 => omega
                      case o120 => omega
                      case o121 => omega
                      case o122 => omega
                  · skip
                    refine lv_iconst (v := 1) hx hb dX9_other_85 ?o123 ?_
                    case o123 => decide
                    refine lv_goto (tgt := 90) hx hb dX9_other_86 ?o124 ?_
                    case o124 => decide
                    refine lv_iadd hx hb dX9_other_90 ?_
                    have rg_52 := i32_r iv54_4
                    refine lv_topi (fun x_53 ex_53 => ?_)
                    have zx_53 : x_53.toInt = iv54_4.toInt + 1 := ?o125
                    case o125 =>
                      rw [ex_53]
                      refine i32_add rfl ?o126 ?o127 ?o128
                      case o126 => decide
                      case o127 => omega
                      case o128 => omega
                    refine lv_istore (lv' := [(4, .int x_53), (7, .int r_20), (6, .int iv54_6), (5, .int iv54_5), (3, .ref q_6), (0, .ref x), (1, .int i1), (2, .int i2)]) hx hb dX9_other_91 hl ?o129 rfl (fun ls hl => ?_)
                    case o129 => decide
                    refine lv_iload hx hb dX9_other_93 (lv_at hl 3 rfl) ?_
                    refine lv_aload_n hx hb dX9_other_95 rfl (lv_at hl 5 rfl) ?_
                    refine hk_getr hx hb hts hC_9 hown hW gx tt_9 12 ?o130 rfl kw_376 ⟨rfl, rfl, rfl⟩ f_x_12 dX9_other_96 ?_
                    case o130 => decide
                    refine lv_iload hx hb dX9_other_99 (lv_at hl 2 rfl) ?_
                    refine hx_aaldN hx hb hW hT gqh tt_46 (t1 := 2) rfl ⟨?o131, ?o132⟩ (pf_x_13 _ (by rw [f_x_13]; exact hx_tnI (by omega) (by omega))) dX9_other_101 (fun q_54 fq_54 gq_54 => ?_)
                    case o131 => omega
                    case o132 => omega
                    obtain ⟨ho_55o, ho_55a, ho_55b, ho_55c, ho_55d⟩ := hHL iv54_6.toNatClampNeg (by unfold Int32.toNatClampNeg; omega) (by unfold Int32.toNatClampNeg; omega)
                    have ho_55e : ho_55o = q_54 := Option.some.inj (ho_55a.symm.trans fq_54)
                    rw [ho_55e] at ho_55d
                    have ho_55b : 0 ≤ (hof iv54_6.toNatClampNeg).toInt := ho_55b
                    have ho_55c : (hof iv54_6.toNatClampNeg).toInt < cn0.toInt := ho_55c
                    have ho_55d : h_19.2.2 qc (hof iv54_6.toNatClampNeg).toNatClampNeg = some q_54 := ho_55d
                    have ho_55u : 0 ≤ (hof iv54_6.toInt.toNat).toInt ∧ (hof iv54_6.toInt.toNat).toInt < cn0.toInt := ⟨ho_55b, ho_55c⟩
                    obtain ⟨fv_56, efv_56⟩ : ∃ y : Int32, y = h_19.2.1 q_54 9 := ⟨_, rfl⟩
                    have bfv_56 := hT.gi gq_54 tt_2 (k := 9) rfl
                    rw [← efv_56] at bfv_56
                    have bfv_56 : -2147483648 ≤ fv_56.toInt ∧ fv_56.toInt ≤ 2147483647 := bfv_56
                    have ffv_56 := efv_56.symm
                    have ct_57 : fv_56 = tf (hof iv54_6.toNatClampNeg).toNatClampNeg := ?o133
                    case o133 =>
                      rw [← ffv_56, ← cl_qc_9]
                      exact (hx_col_at ho_55d (by unfold Int32.toNatClampNeg; omega)).symm
                    have ct_57b := htb (hof iv54_6.toNatClampNeg).toNatClampNeg (by unfold Int32.toNatClampNeg; omega); rw [← ct_57] at ct_57b
                    refine lv_aload_n hx hb dX9_other_102 rfl (lv_at hl 4 rfl) ?_
                    refine lv_iload hx hb dX9_other_103 (lv_at hl 1 rfl) ?_
                    refine lv_iconst (v := 5) hx hb dX9_other_105 ?o134 ?_
                    case o134 => decide
                    refine hb_icmp_ne (zx := r_20.toInt) (zy := 5) (tgt := 113) hx hb rfl ?o135 dX9_other_106 ?o136 (fun c_58 => ?_) (fun c_58 => ?_)
                    case o135 => decide
                    case o136 => decide
                    · skip
                      refine lv_iconst (v := 0) hx hb dX9_other_113 ?o137 ?_
                      case o137 => decide
                      have hTo := hT
                      have zc_0 : (0 : Int32).toInt = 0 := ?o138
                      case o138 => decide
                      refine hx_goi (hx_runV (As := [.ref q_6, .int (0 : Int32)]) (rest := [.int iv54_5]) ⟨hx, hb, hml, hown, hts⟩ hW gq_54 tt_2 (T := TX2) (N := 19) rfl (t_X2_costsBy_v l dC dI dA L_18 h_19 H.size q_54 q_6 (0 : Int32) hT gq_54 gq_6 q_11 gq_11 fq_11 fa_15 nfa_15 fv_56 ffv_56 (A (i1.toInt + 1).toNat).2.1 (by rw [← nfa_15]; exact hAQo.2.2.1 _ fq_11) (hAB _).1 ⟨?o139, ?o140⟩) (cwV 2 hts (hx_gV kw_849 kw_846 kw_847 kw_848 kw_110) rfl rfl rfl (by decide +kernel) ⟨Nat.le_of_ble_eq_true rfl, Nat.le_of_ble_eq_true rfl⟩) rfl hl.1 rfl (Nat.le_of_ble_eq_true rfl) dX9_other_114 ⟨Nat.le_of_ble_eq_true rfl, Nat.le_of_ble_eq_true rfl⟩) hW (fun r_61 L_59 h_60 H locs p_62 hW => ?_)
                      case o139 => omega
                      case o140 => omega
                      obtain ⟨hr_63, hT, hs⟩ := p_62
                      replace hT : hx_T T_tb L_59 h_60 := hT
                      replace hs : hx_S T_tb [] L_18 h_19 L_59 h_60 := hs
                      replace f_x_5 := (hs.o gx trivial rfl).2.trans f_x_5
                      replace f_x_4 := (hs.o gx trivial rfl).2.trans f_x_4
                      replace f_x_12 := (hs.o gx trivial rfl).2.trans f_x_12
                      replace f_x_10 := (hs.o gx trivial rfl).2.trans f_x_10
                      replace f_x_7 := (hs.o gx trivial rfl).2.trans f_x_7
                      replace f_x_11 := (hs.o gx trivial rfl).1.trans f_x_11
                      replace f_x_8 := (hs.o gx trivial rfl).1.trans f_x_8
                      replace f_x_13 := (hs.o gx trivial rfl).1.trans f_x_13
                      replace f_x_6 := (hs.o gx trivial rfl).1.trans f_x_6
                      replace fq_11 := (hs.o gq_6 trivial rfl).2.trans fq_11
                      replace fq_12 := (hs.o gq_6 trivial rfl).2.trans fq_12
                      replace fq_13 := (hs.o gq_9 trivial rfl).2.trans fq_13
                      replace ffv_14 := (hs.o gq_6 trivial rfl).1.trans ffv_14
                      replace ffv_56 := (hs.o gq_54 trivial rfl).1.trans ffv_56
                      replace pf_x_6 : ∀ j : Nat, (j : Int) < (h_60.2.1 x 6).toInt → h_60.2.2 qa j ≠ none := by
                        intro j hj; rw [(hs.o gx trivial rfl).1] at hj; rw [(hs.a gqa rfl j).2]; exact pf_x_6 j hj
                      replace pf_x_13 : ∀ j : Nat, (j : Int) < (h_60.2.1 x 13).toInt → h_60.2.2 qh j ≠ none := by
                        intro j hj; rw [(hs.o gx trivial rfl).1] at hj; rw [(hs.a gqh rfl j).2]; exact pf_x_13 j hj
                      replace pf_x_11 : ∀ j : Nat, (j : Int) < (h_60.2.1 x 11).toInt → h_60.2.2 qc j ≠ none := by
                        intro j hj; rw [(hs.o gx trivial rfl).1] at hj; rw [(hs.a gqc rfl j).2]; exact pf_x_11 j hj
                      replace pf_x_8 : ∀ j : Nat, (j : Int) < (h_60.2.1 x 8).toInt → h_60.2.2 qp j ≠ none := by
                        intro j hj; rw [(hs.o gx trivial rfl).1] at hj; rw [(hs.a gqp rfl j).2]; exact pf_x_8 j hj
                      replace cl_qp_1 : hx_col 40 h_60 qp 1 = bnf := (hx_col_S hs hTo gqp tt_44 tt_4 rfl rfl).trans cl_qp_1
                      replace cl_qc_6 : hx_col 100 h_60 qc 6 = smf := (hx_col_S hs hTo gqc tt_45 tt_2 rfl rfl).trans cl_qc_6
                      replace cl_qc_7 : hx_col 100 h_60 qc 7 = frf := (hx_col_S hs hTo gqc tt_45 tt_2 rfl rfl).trans cl_qc_7
                      replace cl_qc_8 : hx_col 100 h_60 qc 8 = flf := (hx_col_S hs hTo gqc tt_45 tt_2 rfl rfl).trans cl_qc_8
                      replace cl_qc_9 : hx_col 100 h_60 qc 9 = tf := (hx_col_S hs hTo gqc tt_45 tt_2 rfl rfl).trans cl_qc_9
                      replace nu_qp : hx_num 40 h_60 qp 0 (pn0.toInt) := hx_num_S hs hTo gqp tt_44 tt_4 rfl rfl nu_qp
                      replace nu_qc : hx_num 100 h_60 qc 0 (cn0.toInt) := hx_num_S hs hTo gqc tt_45 tt_2 rfl rfl nu_qc
                      replace hDF : hw_DF h_60 qc qp 2 agf cn0.toInt := hw_DF_S hs hTo gqc gqp tt_45 tt_2 rfl rfl rfl hDF
                      replace hDP : hw_DF h_60 qc qp 1 byf cn0.toInt := hw_DF_S hs hTo gqc gqp tt_45 tt_2 rfl rfl rfl hDP
                      replace hRA : hv_RA h_60 qa w a0.toInt A := hv_RA_S hs hTo gqa gw tt_43 tt_0 rfl rfl rfl rfl rfl rfl ?o141 hRA
                      case o141 => omega
                      replace hFX : hv_FX 8 4 h_60 qc cF cn0.toInt := hv_FX_S hs hTo gqc tt_45 tt_2 rfl rfl rfl rfl hFX
                      replace hHL : hv_HL h_60 qh qc hof m0.toInt cn0.toInt := hv_HL_S hs gqh gqc rfl rfl hHL
                      replace hAQo : hv_AQ h_60 q_6 i1.toInt (A (i1.toInt + 1).toNat) := hv_AQ_S hs hTo gq_6 tt_0 rfl rfl rfl rfl rfl hAQo
                      replace fq_6 := (hs.a gqa rfl _).2.trans fq_6
                      replace ho_10d := (hs.a gqc rfl _).2.trans ho_10d
                      replace ho_55d := (hs.a gqc rfl _).2.trans ho_55d
                      replace nfa_15 : h_60.2.1 q_11 = fa_15 := (funext fun j => (hs.a gq_11 rfl j).1).trans nfa_15
                      replace nfa_16 : h_60.2.1 q_12 = fa_16 := (funext fun j => (hs.a gq_12 rfl j).1).trans nfa_16
                      replace nfa_17 : h_60.2.1 q_13 = fa_17 := (funext fun j => (hs.a gq_13 rfl j).1).trans nfa_17
                      replace hM := hM.tr (hs.mono ?o142)
                      case o142 => decide
                      replace gx := gx.S hs
                      replace gqa := gqa.S hs
                      replace gw := gw.S hs
                      replace gqh := gqh.S hs
                      replace gqc := gqc.S hs
                      replace gqp := gqp.S hs
                      replace gq_6 := gq_6.S hs
                      replace gq_9 := gq_9.S hs
                      replace gq_11 := gq_11.S hs
                      replace gq_12 := gq_12.S hs
                      replace gq_13 := gq_13.S hs
                      replace gq_54 := gq_54.S hs
                      refine lv_iadd hx hb dX9_other_117 ?_
                      have rg_64 := i32_r iv54_5
                      have rg_65 := i32_r r_61
                      refine lv_topi (fun x_66 ex_66 => ?_)
                      have zx_66 : x_66.toInt = iv54_5.toInt + r_61.toInt := ?o143
                      case o143 =>
                        rw [ex_66]
                        refine i32_add rfl rfl ?o144 ?o145
                        case o144 => omega
                        case o145 => omega
                      refine lv_istore (lv' := [(5, .int x_66), (4, .int x_53), (7, .int r_20), (6, .int iv54_6), (3, .ref q_6), (0, .ref x), (1, .int i1), (2, .int i2)]) hx hb dX9_other_118 hl ?o146 rfl (fun ls hl => ?_)
                      case o146 => decide
                      obtain ⟨x_67, ex_67⟩ : ∃ y : Int32, y = iv54_6 + Int32.ofInt 1 := ⟨_, rfl⟩
                      have rg_68 := i32_r iv54_6
                      have zx_67 : x_67.toInt = iv54_6.toInt + (1) := ?o147
                      case o147 =>
                        rw [ex_67]
                        refine i32_add rfl ?o148 ?o149 ?o150
                        case o148 => decide
                        case o149 => omega
                        case o150 => omega
                      refine lv_iinc (v := x_67) (lv' := [(6, .int x_67), (5, .int x_66), (4, .int x_53), (7, .int r_20), (3, .ref q_6), (0, .ref x), (1, .int i1), (2, .int i2)]) hx hb dX9_other_120 hl (k := 3) rfl ex_67.symm ?o151 rfl (fun ls hl => ?_)
                      case o151 => decide
                      refine lv_goto (tgt := 54) hx hb dX9_other_123 ?o152 ?_
                      case o152 => decide
                      refine ih54 x_53 x_66 x_67 _ _ L_59 h_60 ?o153 ?o154 ?o155 ?o156 ?o157 ?o158 (by by_cases z9 : r_20.toInt = i2.toInt; exact hv_oc_y vi54_0 (by rw [← hJ_23]; exact z9) (by omega) (by omega) zx_67; exact hv_oc_n vi54_0 (by rw [← hJ_23]; exact z9) (by omega) (by omega) zx_67) (hv_os_s vi54_1 (c := r_61.toInt) (by show _ = (tf (hof iv54_6.toNatClampNeg).toNatClampNeg).toInt * _ + _ + _; rw [← ct_57, ← hJ_23]; by_cases z9 : r_20.toInt = 5; (rw [if_pos z9]; exact hr_63.1.1 (by omega)); (rw [if_neg z9, Int.add_zero]; exact hr_63.1.2 (by omega))) ?o159 zx_66 zx_67) ?o160 ?o161 ?o162 ls ?o163 hW hT hM f_x_5 f_x_4 f_x_12 f_x_10 f_x_7 f_x_11 f_x_8 f_x_13 f_x_6 gx gqa gw gqh gqc gqp gq_6 pf_x_6 pf_x_13 pf_x_11 pf_x_8 cl_qp_1 cl_qc_6 cl_qc_7 cl_qc_8 cl_qc_9 nu_qp nu_qc fq_6 hDF hDP hRA hFX hHL hAQo (lv_sub hl [0, 1, 2, 4, 5, 6, 7] rfl)
                      case o153 => omega
                      case o154 => omega
                      case o155 => omega
                      case o156 => omega
                      case o157 => omega
                      case o158 => omega
                      case o159 => omega
                      case o160 => omega
                      case o161 => omega
                      case o162 => omega
                      case o163 => omega
                    · skip
                      refine lv_iconst (v := 1) hx hb dX9_other_109 ?o164 ?_
                      case o164 => decide
                      refine lv_goto (tgt := 114) hx hb dX9_other_110 ?o165 ?_
                      case o165 => decide
                      have hTo := hT
                      have zc_1 : (1 : Int32).toInt = 1 := ?o166
                      case o166 => decide
                      refine hx_goi (hx_runV (As := [.ref q_6, .int (1 : Int32)]) (rest := [.int iv54_5]) ⟨hx, hb, hml, hown, hts⟩ hW gq_54 tt_2 (T := TX2) (N := 19) rfl (t_X2_costsBy_v l dC dI dA L_18 h_19 H.size q_54 q_6 (1 : Int32) hT gq_54 gq_6 q_11 gq_11 fq_11 fa_15 nfa_15 fv_56 ffv_56 (A (i1.toInt + 1).toNat).2.1 (by rw [← nfa_15]; exact hAQo.2.2.1 _ fq_11) (hAB _).1 ⟨?o167, ?o168⟩) (cwV 2 hts (hx_gV kw_849 kw_846 kw_847 kw_848 kw_110) rfl rfl rfl (by decide +kernel) ⟨Nat.le_of_ble_eq_true rfl, Nat.le_of_ble_eq_true rfl⟩) rfl hl.1 rfl (Nat.le_of_ble_eq_true rfl) dX9_other_114 ⟨Nat.le_of_ble_eq_true rfl, Nat.le_of_ble_eq_true rfl⟩) hW (fun r_71 L_69 h_70 H locs p_72 hW => ?_)
                      case o167 => omega
                      case o168 => omega
                      obtain ⟨hr_73, hT, hs⟩ := p_72
                      replace hT : hx_T T_tb L_69 h_70 := hT
                      replace hs : hx_S T_tb [] L_18 h_19 L_69 h_70 := hs
                      replace f_x_5 := (hs.o gx trivial rfl).2.trans f_x_5
                      replace f_x_4 := (hs.o gx trivial rfl).2.trans f_x_4
                      replace f_x_12 := (hs.o gx trivial rfl).2.trans f_x_12
                      replace f_x_10 := (hs.o gx trivial rfl).2.trans f_x_10
                      replace f_x_7 := (hs.o gx trivial rfl).2.trans f_x_7
                      replace f_x_11 := (hs.o gx trivial rfl).1.trans f_x_11
                      replace f_x_8 := (hs.o gx trivial rfl).1.trans f_x_8
                      replace f_x_13 := (hs.o gx trivial rfl).1.trans f_x_13
                      replace f_x_6 := (hs.o gx trivial rfl).1.trans f_x_6
                      replace fq_11 := (hs.o gq_6 trivial rfl).2.trans fq_11
                      replace fq_12 := (hs.o gq_6 trivial rfl).2.trans fq_12
                      replace fq_13 := (hs.o gq_9 trivial rfl).2.trans fq_13
                      replace ffv_14 := (hs.o gq_6 trivial rfl).1.trans ffv_14
                      replace ffv_56 := (hs.o gq_54 trivial rfl).1.trans ffv_56
                      replace pf_x_6 : ∀ j : Nat, (j : Int) < (h_70.2.1 x 6).toInt → h_70.2.2 qa j ≠ none := by
                        intro j hj; rw [(hs.o gx trivial rfl).1] at hj; rw [(hs.a gqa rfl j).2]; exact pf_x_6 j hj
                      replace pf_x_13 : ∀ j : Nat, (j : Int) < (h_70.2.1 x 13).toInt → h_70.2.2 qh j ≠ none := by
                        intro j hj; rw [(hs.o gx trivial rfl).1] at hj; rw [(hs.a gqh rfl j).2]; exact pf_x_13 j hj
                      replace pf_x_11 : ∀ j : Nat, (j : Int) < (h_70.2.1 x 11).toInt → h_70.2.2 qc j ≠ none := by
                        intro j hj; rw [(hs.o gx trivial rfl).1] at hj; rw [(hs.a gqc rfl j).2]; exact pf_x_11 j hj
                      replace pf_x_8 : ∀ j : Nat, (j : Int) < (h_70.2.1 x 8).toInt → h_70.2.2 qp j ≠ none := by
                        intro j hj; rw [(hs.o gx trivial rfl).1] at hj; rw [(hs.a gqp rfl j).2]; exact pf_x_8 j hj
                      replace cl_qp_1 : hx_col 40 h_70 qp 1 = bnf := (hx_col_S hs hTo gqp tt_44 tt_4 rfl rfl).trans cl_qp_1
                      replace cl_qc_6 : hx_col 100 h_70 qc 6 = smf := (hx_col_S hs hTo gqc tt_45 tt_2 rfl rfl).trans cl_qc_6
                      replace cl_qc_7 : hx_col 100 h_70 qc 7 = frf := (hx_col_S hs hTo gqc tt_45 tt_2 rfl rfl).trans cl_qc_7
                      replace cl_qc_8 : hx_col 100 h_70 qc 8 = flf := (hx_col_S hs hTo gqc tt_45 tt_2 rfl rfl).trans cl_qc_8
                      replace cl_qc_9 : hx_col 100 h_70 qc 9 = tf := (hx_col_S hs hTo gqc tt_45 tt_2 rfl rfl).trans cl_qc_9
                      replace nu_qp : hx_num 40 h_70 qp 0 (pn0.toInt) := hx_num_S hs hTo gqp tt_44 tt_4 rfl rfl nu_qp
                      replace nu_qc : hx_num 100 h_70 qc 0 (cn0.toInt) := hx_num_S hs hTo gqc tt_45 tt_2 rfl rfl nu_qc
                      replace hDF : hw_DF h_70 qc qp 2 agf cn0.toInt := hw_DF_S hs hTo gqc gqp tt_45 tt_2 rfl rfl rfl hDF
                      replace hDP : hw_DF h_70 qc qp 1 byf cn0.toInt := hw_DF_S hs hTo gqc gqp tt_45 tt_2 rfl rfl rfl hDP
                      replace hRA : hv_RA h_70 qa w a0.toInt A := hv_RA_S hs hTo gqa gw tt_43 tt_0 rfl rfl rfl rfl rfl rfl ?o169 hRA
                      case o169 => omega
                      replace hFX : hv_FX 8 4 h_70 qc cF cn0.toInt := hv_FX_S hs hTo gqc tt_45 tt_2 rfl rfl rfl rfl hFX
                      replace hHL : hv_HL h_70 qh qc hof m0.toInt cn0.toInt := hv_HL_S hs gqh gqc rfl rfl hHL
                      replace hAQo : hv_AQ h_70 q_6 i1.toInt (A (i1.toInt + 1).toNat) := hv_AQ_S hs hTo gq_6 tt_0 rfl rfl rfl rfl rfl hAQo
                      replace fq_6 := (hs.a gqa rfl _).2.trans fq_6
                      replace ho_10d := (hs.a gqc rfl _).2.trans ho_10d
                      replace ho_55d := (hs.a gqc rfl _).2.trans ho_55d
                      replace nfa_15 : h_70.2.1 q_11 = fa_15 := (funext fun j => (hs.a gq_11 rfl j).1).trans nfa_15
                      replace nfa_16 : h_70.2.1 q_12 = fa_16 := (funext fun j => (hs.a gq_12 rfl j).1).trans nfa_16
                      replace nfa_17 : h_70.2.1 q_13 = fa_17 := (funext fun j => (hs.a gq_13 rfl j).1).trans nfa_17
                      replace hM := hM.tr (hs.mono ?o170)
                      case o170 => decide
                      replace gx := gx.S hs
                      replace gqa := gqa.S hs
                      replace gw := gw.S hs
                      replace gqh := gqh.S hs
                      replace gqc := gqc.S hs
                      replace gqp := gqp.S hs
                      replace gq_6 := gq_6.S hs
                      replace gq_9 := gq_9.S hs
                      replace gq_11 := gq_11.S hs
                      replace gq_12 := gq_12.S hs
                      replace gq_13 := gq_13.S hs
                      replace gq_54 := gq_54.S hs
                      refine lv_iadd hx hb dX9_other_117 ?_
                      have rg_74 := i32_r iv54_5
                      have rg_75 := i32_r r_71
                      refine lv_topi (fun x_76 ex_76 => ?_)
                      have zx_76 : x_76.toInt = iv54_5.toInt + r_71.toInt := ?o171
                      case o171 =>
                        rw [ex_76]
                        refine i32_add rfl rfl ?o172 ?o173
                        case o172 => omega
                        case o173 => omega
                      refine lv_istore (lv' := [(5, .int x_76), (4, .int x_53), (7, .int r_20), (6, .int iv54_6), (3, .ref q_6), (0, .ref x), (1, .int i1), (2, .int i2)]) hx hb dX9_other_118 hl ?o174 rfl (fun ls hl => ?_)
                      case o174 => decide
                      obtain ⟨x_77, ex_77⟩ : ∃ y : Int32, y = iv54_6 + Int32.ofInt 1 := ⟨_, rfl⟩
                      have rg_78 := i32_r iv54_6
                      have zx_77 : x_77.toInt = iv54_6.toInt + (1) := ?o175
                      case o175 =>
                        rw [ex_77]
                        refine i32_add rfl ?o176 ?o177 ?o178
                        case o176 => decide
                        case o177 => omega
                        case o178 => omega
                      refine lv_iinc (v := x_77) (lv' := [(6, .int x_77), (5, .int x_76), (4, .int x_53), (7, .int r_20), (3, .ref q_6), (0, .ref x), (1, .int i1), (2, .int i2)]) hx hb dX9_other_120 hl (k := 3) rfl ex_77.symm ?o179 rfl (fun ls hl => ?_)
                      case o179 => decide
                      refine lv_goto (tgt := 54) hx hb dX9_other_123 ?o180 ?_
                      case o180 => decide
                      refine ih54 x_53 x_76 x_77 _ _ L_69 h_70 ?o181 ?o182 ?o183 ?o184 ?o185 ?o186 (by by_cases z9 : r_20.toInt = i2.toInt; exact hv_oc_y vi54_0 (by rw [← hJ_23]; exact z9) (by omega) (by omega) zx_77; exact hv_oc_n vi54_0 (by rw [← hJ_23]; exact z9) (by omega) (by omega) zx_77) (hv_os_s vi54_1 (c := r_71.toInt) (by show _ = (tf (hof iv54_6.toNatClampNeg).toNatClampNeg).toInt * _ + _ + _; rw [← ct_57, ← hJ_23]; by_cases z9 : r_20.toInt = 5; (rw [if_pos z9]; exact hr_73.1.1 (by omega)); (rw [if_neg z9, Int.add_zero]; exact hr_73.1.2 (by omega))) ?o187 zx_76 zx_77) ?o188 ?o189 ?o190 ls ?o191 hW hT hM f_x_5 f_x_4 f_x_12 f_x_10 f_x_7 f_x_11 f_x_8 f_x_13 f_x_6 gx gqa gw gqh gqc gqp gq_6 pf_x_6 pf_x_13 pf_x_11 pf_x_8 cl_qp_1 cl_qc_6 cl_qc_7 cl_qc_8 cl_qc_9 nu_qp nu_qc fq_6 hDF hDP hRA hFX hHL hAQo (lv_sub hl [0, 1, 2, 4, 5, 6, 7] rfl)
                      case o181 => omega
                      case o182 => omega
                      case o183 => omega
                      case o184 => omega
                      case o185 => omega
                      case o186 => omega
                      case o187 => omega
                      case o188 => omega
                      case o189 => omega
                      case o190 => omega
                      case o191 => omega
            have zk_0 : (0 : Int32).toInt = 0 := ?o192
            case o192 => decide
            have zk_0 : (0 : Int32).toInt = 0 := ?o193
            case o193 => decide
            have zk_0 : (0 : Int32).toInt = 0 := ?o194
            case o194 => decide
            refine loop54 101 (0 : Int32) (0 : Int32) (0 : Int32) _ _ L h ?o195 ?o196 ?o197 ?o198 ?o199 ?o200 (by rw [zk_0]; rfl) (by rw [zk_0]; rfl) ?o201 ?o202 ?o203 ls ?o204 hW hT hM f_x_5 f_x_4 f_x_12 f_x_10 f_x_7 f_x_11 f_x_8 f_x_13 f_x_6 gx gqa gw gqh gqc gqp gq_6 pf_x_6 pf_x_13 pf_x_11 pf_x_8 cl_qp_1 cl_qc_6 cl_qc_7 cl_qc_8 cl_qc_9 nu_qp nu_qc fq_6 hDF hDP hRA hFX hHL hAQo hl
            case o195 => decide
            case o196 => decide
            case o197 => decide
            case o198 => decide
            case o199 => decide
            case o200 => decide
            case o201 => omega
            case o202 => omega
            case o203 => omega
            case o204 => omega
          · skip
            refine lv_aload_n hx hb dX9_other_31 rfl (lv_at hl 0 rfl) ?_
            refine hk_getr hx hb hts hC_9 hown hW gx tt_9 4 ?o205 rfl kw_368 ⟨rfl, rfl, rfl⟩ f_x_4 dX9_other_32 ?_
            case o205 => decide
            refine lv_goto (tgt := 44) hx hb dX9_other_35 ?o206 ?_
            case o206 => decide
            have hAQo : hv_AQ h w i1.toInt (A (i1.toInt + 1).toNat) := ?o207
            case o207 =>
              have h8 := hRA.1
              rw [show i1.toInt = -1 by omega]
              exact h8
            refine lv_astore_n (lv' := [(3, .ref w), (0, .ref x), (1, .int i1), (2, .int i2)]) hx hb dX9_other_44 rfl hl ?o208 rfl (fun ls hl => ?_)
            case o208 => decide
            refine lv_iconst (v := 0) hx hb dX9_other_45 ?o209 ?_
            case o209 => decide
            refine lv_istore (lv' := [(4, .int (0 : Int32)), (3, .ref w), (0, .ref x), (1, .int i1), (2, .int i2)]) hx hb dX9_other_46 hl ?o210 rfl (fun ls hl => ?_)
            case o210 => decide
            refine lv_iconst (v := 0) hx hb dX9_other_48 ?o211 ?_
            case o211 => decide
            refine lv_istore (lv' := [(5, .int (0 : Int32)), (4, .int (0 : Int32)), (3, .ref w), (0, .ref x), (1, .int i1), (2, .int i2)]) hx hb dX9_other_49 hl ?o212 rfl (fun ls hl => ?_)
            case o212 => decide
            refine lv_iconst (v := 0) hx hb dX9_other_51 ?o213 ?_
            case o213 => decide
            refine lv_istore (lv' := [(6, .int (0 : Int32)), (5, .int (0 : Int32)), (4, .int (0 : Int32)), (3, .ref w), (0, .ref x), (1, .int i1), (2, .int i2)]) hx hb dX9_other_52 hl ?o214 rfl (fun ls hl => ?_)
            case o214 => decide
            have loop54 : ∀ (n54 : Nat) (iv54_4 iv54_5 iv54_6 : Int32) (H : Heap) (locs : List Loc) (hL1 : List Nat) (hl1 : hx_h), 0 ≤ iv54_4.toInt → iv54_4.toInt ≤ 100 → 0 ≤ iv54_5.toInt → iv54_5.toInt ≤ 513948600 → 0 ≤ iv54_6.toInt → iv54_6.toInt ≤ 100 → (iv54_4.toInt = hv_oc (hv_oJ cF hof frf bnf agf smf byf flf (A (i1.toInt + 1).toNat) cn0.toInt.toNat) i2.toInt (iv54_6.toInt).toNat) → (iv54_5.toInt = hv_os (hv_oJ cF hof frf bnf agf smf byf flf (A (i1.toInt + 1).toNat) cn0.toInt.toNat) (fun j => (tf (hof j).toNatClampNeg).toInt) (A (i1.toInt + 1).toNat).2.1 (iv54_6.toInt).toNat) → (iv54_4.toInt ≤ iv54_6.toInt) → (iv54_5.toInt ≤ 5139486 * iv54_6.toInt) → (iv54_6.toInt ≤ m0.toInt) → ∀ (ls : Array Slot), 100 - iv54_6.toInt < (n54 : Int) → hx_W T_tb (P_ty dA) (dC, dI) vwCl (hx_A L sz) s.heap hL1 hl1 s H locs → hx_T T_tb hL1 hl1 → hx_S T_tb [] L h hL1 hl1 → hl1.2.2 x 5 = some qa → hl1.2.2 x 4 = some w → hl1.2.2 x 12 = some qh → hl1.2.2 x 10 = some qc → hl1.2.2 x 7 = some qp → hl1.2.1 x 11 = cn0 → hl1.2.1 x 8 = pn0 → hl1.2.1 x 13 = m0 → hl1.2.1 x 6 = a0 → hx_g hL1 hl1 x 9 → hx_g hL1 hl1 qa 43 → hx_g hL1 hl1 w 0 → hx_g hL1 hl1 qh 46 → hx_g hL1 hl1 qc 45 → hx_g hL1 hl1 qp 44 → (∀ j : Nat, (j : Int) < (hl1.2.1 x 6).toInt → hl1.2.2 qa j ≠ none) → (∀ j : Nat, (j : Int) < (hl1.2.1 x 13).toInt → hl1.2.2 qh j ≠ none) → (∀ j : Nat, (j : Int) < (hl1.2.1 x 11).toInt → hl1.2.2 qc j ≠ none) → (∀ j : Nat, (j : Int) < (hl1.2.1 x 8).toInt → hl1.2.2 qp j ≠ none) → hx_col 40 hl1 qp 1 = bnf → hx_col 100 hl1 qc 6 = smf → hx_col 100 hl1 qc 7 = frf → hx_col 100 hl1 qc 8 = flf → hx_col 100 hl1 qc 9 = tf → hx_num 40 hl1 qp 0 (pn0.toInt) → hx_num 100 hl1 qc 0 (cn0.toInt) → hw_DF hl1 qc qp 2 agf cn0.toInt → hw_DF hl1 qc qp 1 byf cn0.toInt → hv_RA hl1 qa w a0.toInt A → hv_FX 8 4 hl1 qc cF cn0.toInt → hv_HL hl1 qh qc hof m0.toInt cn0.toInt → hv_AQ hl1 w i1.toInt (A (i1.toInt + 1).toNat) → lv_has ls 8 [(6, .int iv54_6), (5, .int iv54_5), (4, .int iv54_4), (3, .ref w), (0, .ref x), (1, .int i1), (2, .int i2)] → W p l e ({ frames := 3, cells := 0, slots := 0, locals := 71 }) s m ([.ref x, .int i1, .int i2] : List Value).toArray below meth c H locs 0 0 (MQ below (va_Qi (fun (r : Int32) (u : List Nat × hx_h) => (hv_OT (hv_oJ cF hof frf bnf agf smf byf flf (A (i1.toInt + 1).toNat) cn0.toInt.toNat) (fun j => (tf (hof j).toNatClampNeg).toInt) (A (i1.toInt + 1).toNat).2.1 i1.toInt a0.toInt i2.toInt m0.toInt r.toInt) ∧ hx_T T_tb u.1 u.2 ∧ hx_S T_tb [] L h u.1 u.2) (hx_E T_tb (P_ty dA) (dC, dI) vwCl (hx_A L sz)) (hx_A L sz)) ([.ref x, .int i1, .int i2] : List Value).toArray s 0 0 (hx_A L sz)) (F0 m 54 ls []) := by
              intro n54
              induction n54 with
              | zero => intro iv54_4 iv54_5 iv54_6 H locs hL1 hl1 bliv54_4 buiv54_4 bliv54_5 buiv54_5 bliv54_6 buiv54_6 vi54_0 vi54_1 vi54_2 vi54_3 vi54_4 ls hn54; exfalso; omega
              | succ n54 ih54 =>
                intro iv54_4 iv54_5 iv54_6 H locs hL1 hl1 bliv54_4 buiv54_4 bliv54_5 buiv54_5 bliv54_6 buiv54_6 vi54_0 vi54_1 vi54_2 vi54_3 vi54_4 ls hn54 hW hT hM f_x_5 f_x_4 f_x_12 f_x_10 f_x_7 f_x_11 f_x_8 f_x_13 f_x_6 gx gqa gw gqh gqc gqp pf_x_6 pf_x_13 pf_x_11 pf_x_8 cl_qp_1 cl_qc_6 cl_qc_7 cl_qc_8 cl_qc_9 nu_qp nu_qc hDF hDP hRA hFX hHL hAQo hl
                refine lv_iload hx hb dX9_other_54 (lv_at hl 0 rfl) ?_
                refine lv_aload_n hx hb dX9_other_56 rfl (lv_at hl 4 rfl) ?_
                refine hk_geti hx hb hts hC_9 hown hW gx tt_9 13 ?o215 rfl kw_377 ⟨rfl, rfl, rfl⟩ f_x_13 dX9_other_57 ?_
                case o215 => decide
                refine hb_icmp_ge (zx := iv54_6.toInt) (zy := m0.toInt) (tgt := 126) hx hb rfl rfl dX9_other_60 ?o216 (fun c_79 => ?_) (fun c_79 => ?_)
                case o216 => decide
                · skip
                  refine lv_iload_n hx hb dX9_other_126 rfl (lv_at hl 6 rfl) ?_
                  refine lv_iconst (v := 5) hx hb dX9_other_127 ?o217 ?_
                  case o217 => decide
                  refine hb_icmp_le (zx := i2.toInt) (zy := 5) (tgt := 136) hx hb rfl ?o218 dX9_other_128 ?o219 (fun c_80 => ?_) (fun c_80 => ?_)
                  case o218 => decide
                  case o219 => decide
                  · skip
                    refine lv_iload hx hb dX9_other_136 (lv_at hl 2 rfl) ?_
                    refine hx_reti hx hb hr hlk hW ⟨(Or.inr ⟨?o220, Or.inr ⟨?o221, (by have h8 := vi54_0; rw [show iv54_6.toInt.toNat = m0.toInt.toNat by omega] at h8; exact h8)⟩⟩), hT, hM⟩ dX9_other_138
                    case o220 => omega
                    case o221 => omega
                  · skip
                    refine lv_iload hx hb dX9_other_131 (lv_at hl 1 rfl) ?_
                    refine lv_goto (tgt := 138) hx hb dX9_other_133 ?o222 ?_
                    case o222 => decide
                    refine hx_reti hx hb hr hlk hW ⟨(Or.inr ⟨?o223, Or.inl ⟨?o224, (by have h8 := vi54_1; rw [show iv54_6.toInt.toNat = m0.toInt.toNat by omega] at h8; exact h8)⟩⟩), hT, hM⟩ dX9_other_138
                    case o223 => omega
                    case o224 => omega
                · skip
                  refine lv_aload_n hx hb dX9_other_63 rfl (lv_at hl 4 rfl) ?_
                  refine lv_aload_n hx hb dX9_other_64 rfl (lv_at hl 4 rfl) ?_
                  refine hk_getr hx hb hts hC_9 hown hW gx tt_9 12 ?o225 rfl kw_376 ⟨rfl, rfl, rfl⟩ f_x_12 dX9_other_65 ?_
                  case o225 => decide
                  refine lv_iload hx hb dX9_other_68 (lv_at hl 0 rfl) ?_
                  refine hx_aaldN hx hb hW hT gqh tt_46 (t1 := 2) rfl ⟨?o226, ?o227⟩ (pf_x_13 _ (by rw [f_x_13]; exact hx_tnI (by omega) (by omega))) dX9_other_70 (fun q_81 fq_81 gq_81 => ?_)
                  case o226 => omega
                  case o227 => omega
                  obtain ⟨ho_82o, ho_82a, ho_82b, ho_82c, ho_82d⟩ := hHL iv54_6.toNatClampNeg (by unfold Int32.toNatClampNeg; omega) (by unfold Int32.toNatClampNeg; omega)
                  have ho_82e : ho_82o = q_81 := Option.some.inj (ho_82a.symm.trans fq_81)
                  rw [ho_82e] at ho_82d
                  have ho_82b : 0 ≤ (hof iv54_6.toNatClampNeg).toInt := ho_82b
                  have ho_82c : (hof iv54_6.toNatClampNeg).toInt < cn0.toInt := ho_82c
                  have ho_82d : hl1.2.2 qc (hof iv54_6.toNatClampNeg).toNatClampNeg = some q_81 := ho_82d
                  have ho_82u : 0 ≤ (hof iv54_6.toInt.toNat).toInt ∧ (hof iv54_6.toInt.toNat).toInt < cn0.toInt := ⟨ho_82b, ho_82c⟩
                  refine lv_aload_n hx hb dX9_other_71 rfl (lv_at hl 3 rfl) ?_
                  have hTo := hT
                  obtain ⟨q_83, fq_83, gq_83⟩ := hv_rf hT gw tt_0 (k := 2) (u := 11) rfl
                  obtain ⟨q_84, fq_84, gq_84⟩ := hv_rf hT gw tt_0 (k := 3) (u := 12) rfl
                  obtain ⟨q_85, fq_85, gq_85⟩ := hv_rf hT gq_81 tt_2 (k := 4) (u := 20) rfl
                  obtain ⟨fv_86, efv_86⟩ : ∃ y : Int32, y = hl1.2.1 w 4 := ⟨_, rfl⟩
                  have bfv_86 := hT.gi gw tt_0 (k := 4) rfl
                  rw [← efv_86] at bfv_86
                  have bfv_86 : 0 ≤ fv_86.toInt ∧ fv_86.toInt ≤ 160 := bfv_86
                  have ffv_86 := efv_86.symm
                  obtain ⟨fa_87, nfa_87⟩ : ∃ g : Nat → Int32, hl1.2.1 q_83 = g := ⟨_, rfl⟩
                  obtain ⟨fa_88, nfa_88⟩ : ∃ g : Nat → Int32, hl1.2.1 q_84 = g := ⟨_, rfl⟩
                  obtain ⟨fa_89, nfa_89⟩ : ∃ g : Nat → Int32, hl1.2.1 q_85 = g := ⟨_, rfl⟩
                  refine hx_goi (hx_runV (As := [.ref q_81, .ref w]) (rest := []) ⟨hx, hb, hml, hown, hts⟩ hW gx tt_9 (T := TX9) (N := 20) rfl (t_X9_judgement_v l dC dI dA hL1 hl1 H.size x q_81 w hT gx gq_81 gw qp gqp f_x_7 qc gqc f_x_10 q_83 gq_83 fq_83 q_84 gq_84 fq_84 q_85 gq_85 fq_85 (hof iv54_6.toNatClampNeg) ho_82d ⟨?o228, ?o229⟩ fa_87 nfa_87 fa_88 nfa_88 fa_89 nfa_89 cn0 f_x_11 pn0 f_x_8 fv_86 ffv_86 frf cl_qc_7 smf cl_qc_6 flf cl_qc_8 bnf cl_qp_1 nu_qp agf byf hDF hDP (A (i1.toInt + 1).toNat).2.1 (by rw [← nfa_87]; exact hAQo.2.2.1 _ fq_83) (hAB _).1 (A (i1.toInt + 1).toNat).2.2 (hAB _).2 (by have h8 := hAQo.2.2.2 _ fq_84; rw [nfa_88, ffv_86] at h8; exact h8) ?o230 pf_x_8 pf_x_11) (cwV 2 hts (hx_gV kw_830 kw_827 kw_829 kw_28 kw_94) rfl rfl rfl (by decide +kernel) ⟨Nat.le_of_ble_eq_true rfl, Nat.le_of_ble_eq_true rfl⟩) rfl hl.1 rfl (Nat.le_of_ble_eq_true rfl) dX9_other_72 ⟨Nat.le_of_ble_eq_true rfl, Nat.le_of_ble_eq_true rfl⟩) hW (fun r_92 L_90 h_91 H locs p_93 hW => ?_)
                  case o228 => omega
                  case o229 => omega
                  case o230 => omega
                  obtain ⟨hr_94, hT, hs⟩ := p_93
                  replace hT : hx_T T_tb L_90 h_91 := hT
                  replace hs : hx_S T_tb [] hL1 hl1 L_90 h_91 := hs
                  replace f_x_5 := (hs.o gx trivial rfl).2.trans f_x_5
                  replace f_x_4 := (hs.o gx trivial rfl).2.trans f_x_4
                  replace f_x_12 := (hs.o gx trivial rfl).2.trans f_x_12
                  replace f_x_10 := (hs.o gx trivial rfl).2.trans f_x_10
                  replace f_x_7 := (hs.o gx trivial rfl).2.trans f_x_7
                  replace f_x_11 := (hs.o gx trivial rfl).1.trans f_x_11
                  replace f_x_8 := (hs.o gx trivial rfl).1.trans f_x_8
                  replace f_x_13 := (hs.o gx trivial rfl).1.trans f_x_13
                  replace f_x_6 := (hs.o gx trivial rfl).1.trans f_x_6
                  replace fq_83 := (hs.o gw trivial rfl).2.trans fq_83
                  replace fq_84 := (hs.o gw trivial rfl).2.trans fq_84
                  replace fq_85 := (hs.o gq_81 trivial rfl).2.trans fq_85
                  replace ffv_86 := (hs.o gw trivial rfl).1.trans ffv_86
                  replace pf_x_6 : ∀ j : Nat, (j : Int) < (h_91.2.1 x 6).toInt → h_91.2.2 qa j ≠ none := by
                    intro j hj; rw [(hs.o gx trivial rfl).1] at hj; rw [(hs.a gqa rfl j).2]; exact pf_x_6 j hj
                  replace pf_x_13 : ∀ j : Nat, (j : Int) < (h_91.2.1 x 13).toInt → h_91.2.2 qh j ≠ none := by
                    intro j hj; rw [(hs.o gx trivial rfl).1] at hj; rw [(hs.a gqh rfl j).2]; exact pf_x_13 j hj
                  replace pf_x_11 : ∀ j : Nat, (j : Int) < (h_91.2.1 x 11).toInt → h_91.2.2 qc j ≠ none := by
                    intro j hj; rw [(hs.o gx trivial rfl).1] at hj; rw [(hs.a gqc rfl j).2]; exact pf_x_11 j hj
                  replace pf_x_8 : ∀ j : Nat, (j : Int) < (h_91.2.1 x 8).toInt → h_91.2.2 qp j ≠ none := by
                    intro j hj; rw [(hs.o gx trivial rfl).1] at hj; rw [(hs.a gqp rfl j).2]; exact pf_x_8 j hj
                  replace cl_qp_1 : hx_col 40 h_91 qp 1 = bnf := (hx_col_S hs hTo gqp tt_44 tt_4 rfl rfl).trans cl_qp_1
                  replace cl_qc_6 : hx_col 100 h_91 qc 6 = smf := (hx_col_S hs hTo gqc tt_45 tt_2 rfl rfl).trans cl_qc_6
                  replace cl_qc_7 : hx_col 100 h_91 qc 7 = frf := (hx_col_S hs hTo gqc tt_45 tt_2 rfl rfl).trans cl_qc_7
                  replace cl_qc_8 : hx_col 100 h_91 qc 8 = flf := (hx_col_S hs hTo gqc tt_45 tt_2 rfl rfl).trans cl_qc_8
                  replace cl_qc_9 : hx_col 100 h_91 qc 9 = tf := (hx_col_S hs hTo gqc tt_45 tt_2 rfl rfl).trans cl_qc_9
                  replace nu_qp : hx_num 40 h_91 qp 0 (pn0.toInt) := hx_num_S hs hTo gqp tt_44 tt_4 rfl rfl nu_qp
                  replace nu_qc : hx_num 100 h_91 qc 0 (cn0.toInt) := hx_num_S hs hTo gqc tt_45 tt_2 rfl rfl nu_qc
                  replace hDF : hw_DF h_91 qc qp 2 agf cn0.toInt := hw_DF_S hs hTo gqc gqp tt_45 tt_2 rfl rfl rfl hDF
                  replace hDP : hw_DF h_91 qc qp 1 byf cn0.toInt := hw_DF_S hs hTo gqc gqp tt_45 tt_2 rfl rfl rfl hDP
                  replace hRA : hv_RA h_91 qa w a0.toInt A := hv_RA_S hs hTo gqa gw tt_43 tt_0 rfl rfl rfl rfl rfl rfl ?o231 hRA
                  case o231 => omega
                  replace hFX : hv_FX 8 4 h_91 qc cF cn0.toInt := hv_FX_S hs hTo gqc tt_45 tt_2 rfl rfl rfl rfl hFX
                  replace hHL : hv_HL h_91 qh qc hof m0.toInt cn0.toInt := hv_HL_S hs gqh gqc rfl rfl hHL
                  replace hAQo : hv_AQ h_91 w i1.toInt (A (i1.toInt + 1).toNat) := hv_AQ_S hs hTo gw tt_0 rfl rfl rfl rfl rfl hAQo
                  replace ho_82d := (hs.a gqc rfl _).2.trans ho_82d
                  replace nfa_87 : h_91.2.1 q_83 = fa_87 := (funext fun j => (hs.a gq_83 rfl j).1).trans nfa_87
                  replace nfa_88 : h_91.2.1 q_84 = fa_88 := (funext fun j => (hs.a gq_84 rfl j).1).trans nfa_88
                  replace nfa_89 : h_91.2.1 q_85 = fa_89 := (funext fun j => (hs.a gq_85 rfl j).1).trans nfa_89
                  replace hM := hM.tr (hs.mono ?o232)
                  case o232 => decide
                  replace gx := gx.S hs
                  replace gqa := gqa.S hs
                  replace gw := gw.S hs
                  replace gqh := gqh.S hs
                  replace gqc := gqc.S hs
                  replace gqp := gqp.S hs
                  replace gq_81 := gq_81.S hs
                  replace gq_83 := gq_83.S hs
                  replace gq_84 := gq_84.S hs
                  replace gq_85 := gq_85.S hs
                  have hJ_95 : r_92.toInt = (hv_oJ cF hof frf bnf agf smf byf flf (A (i1.toInt + 1).toNat) cn0.toInt.toNat) iv54_6.toInt.toNat := ?o233
                  case o233 =>
                    rw [hr_94.1]
                    exact hv_jg_e (hAB _).2 (fun k hk => by have h8 := (hFX).1 (hof iv54_6.toNatClampNeg).toNatClampNeg (by unfold Int32.toNatClampNeg; omega) (by unfold Int32.toNatClampNeg; omega) _ _ ho_82d fq_85 k hk; rw [nfa_89] at h8; exact congrArg Int32.toInt h8)
                  refine lv_istore (lv' := [(7, .int r_92), (6, .int iv54_6), (5, .int iv54_5), (4, .int iv54_4), (3, .ref w), (0, .ref x), (1, .int i1), (2, .int i2)]) hx hb dX9_other_75 hl ?o234 rfl (fun ls hl => ?_)
                  case o234 => decide
                  refine lv_iload hx hb dX9_other_77 (lv_at hl 3 rfl) ?_
                  refine lv_iload hx hb dX9_other_79 (lv_at hl 0 rfl) ?_
                  refine lv_iload_n hx hb dX9_other_81 rfl (lv_at hl 7 rfl) ?_
                  refine hb_icmp_ne (zx := r_92.toInt) (zy := i2.toInt) (tgt := 89) hx hb rfl rfl dX9_other_82 ?o235 (fun c_96 => ?_) (fun c_96 => ?_)
                  case o235 => decide
                  · skip
                    refine lv_iconst (v := 0) hx hb dX9_other_89 ?o236 ?_
                    case o236 => decide
                    refine lv_iadd hx hb dX9_other_90 ?_
                    have rg_97 := i32_r iv54_4
                    refine lv_topi (fun x_98 ex_98 => ?_)
                    have zx_98 : x_98.toInt = iv54_4.toInt + 0 := ?o237
                    case o237 =>
                      rw [ex_98]
                      refine i32_add rfl ?o238 ?o239 ?o240
                      case o238 => decide
                      case o239 => omega
                      case o240 => omega
                    refine lv_istore (lv' := [(4, .int x_98), (7, .int r_92), (6, .int iv54_6), (5, .int iv54_5), (3, .ref w), (0, .ref x), (1, .int i1), (2, .int i2)]) hx hb dX9_other_91 hl ?o241 rfl (fun ls hl => ?_)
                    case o241 => decide
                    refine lv_iload hx hb dX9_other_93 (lv_at hl 3 rfl) ?_
                    refine lv_aload_n hx hb dX9_other_95 rfl (lv_at hl 5 rfl) ?_
                    refine hk_getr hx hb hts hC_9 hown hW gx tt_9 12 ?o242 rfl kw_376 ⟨rfl, rfl, rfl⟩ f_x_12 dX9_other_96 ?_
                    case o242 => decide
                    refine lv_iload hx hb dX9_other_99 (lv_at hl 2 rfl) ?_
                    refine hx_aaldN hx hb hW hT gqh tt_46 (t1 := 2) rfl ⟨?o243, ?o244⟩ (pf_x_13 _ (by rw [f_x_13]; exact hx_tnI (by omega) (by omega))) dX9_other_101 (fun q_99 fq_99 gq_99 => ?_)
                    case o243 => omega
                    case o244 => omega
                    obtain ⟨ho_100o, ho_100a, ho_100b, ho_100c, ho_100d⟩ := hHL iv54_6.toNatClampNeg (by unfold Int32.toNatClampNeg; omega) (by unfold Int32.toNatClampNeg; omega)
                    have ho_100e : ho_100o = q_99 := Option.some.inj (ho_100a.symm.trans fq_99)
                    rw [ho_100e] at ho_100d
                    have ho_100b : 0 ≤ (hof iv54_6.toNatClampNeg).toInt := ho_100b
                    have ho_100c : (hof iv54_6.toNatClampNeg).toInt < cn0.toInt := ho_100c
                    have ho_100d : h_91.2.2 qc (hof iv54_6.toNatClampNeg).toNatClampNeg = some q_99 := ho_100d
                    have ho_100u : 0 ≤ (hof iv54_6.toInt.toNat).toInt ∧ (hof iv54_6.toInt.toNat).toInt < cn0.toInt := ⟨ho_100b, ho_100c⟩
                    obtain ⟨fv_101, efv_101⟩ : ∃ y : Int32, y = h_91.2.1 q_99 9 := ⟨_, rfl⟩
                    have bfv_101 := hT.gi gq_99 tt_2 (k := 9) rfl
                    rw [← efv_101] at bfv_101
                    have bfv_101 : -2147483648 ≤ fv_101.toInt ∧ fv_101.toInt ≤ 2147483647 := bfv_101
                    have ffv_101 := efv_101.symm
                    have ct_102 : fv_101 = tf (hof iv54_6.toNatClampNeg).toNatClampNeg := ?o245
                    case o245 =>
                      rw [← ffv_101, ← cl_qc_9]
                      exact (hx_col_at ho_100d (by unfold Int32.toNatClampNeg; omega)).symm
                    have ct_102b := htb (hof iv54_6.toNatClampNeg).toNatClampNeg (by unfold Int32.toNatClampNeg; omega); rw [← ct_102] at ct_102b
                    refine lv_aload_n hx hb dX9_other_102 rfl (lv_at hl 4 rfl) ?_
                    refine lv_iload hx hb dX9_other_103 (lv_at hl 1 rfl) ?_
                    refine lv_iconst (v := 5) hx hb dX9_other_105 ?o246 ?_
                    case o246 => decide
                    refine hb_icmp_ne (zx := r_92.toInt) (zy := 5) (tgt := 113) hx hb rfl ?o247 dX9_other_106 ?o248 (fun c_103 => ?_) (fun c_103 => ?_)
                    case o247 => decide
                    case o248 => decide
                    · skip
                      refine lv_iconst (v := 0) hx hb dX9_other_113 ?o249 ?_
                      case o249 => decide
                      have hTo := hT
                      have zc_0 : (0 : Int32).toInt = 0 := ?o250
                      case o250 => decide
                      refine hx_goi (hx_runV (As := [.ref w, .int (0 : Int32)]) (rest := [.int iv54_5]) ⟨hx, hb, hml, hown, hts⟩ hW gq_99 tt_2 (T := TX2) (N := 19) rfl (t_X2_costsBy_v l dC dI dA L_90 h_91 H.size q_99 w (0 : Int32) hT gq_99 gw q_83 gq_83 fq_83 fa_87 nfa_87 fv_101 ffv_101 (A (i1.toInt + 1).toNat).2.1 (by rw [← nfa_87]; exact hAQo.2.2.1 _ fq_83) (hAB _).1 ⟨?o251, ?o252⟩) (cwV 2 hts (hx_gV kw_849 kw_846 kw_847 kw_848 kw_110) rfl rfl rfl (by decide +kernel) ⟨Nat.le_of_ble_eq_true rfl, Nat.le_of_ble_eq_true rfl⟩) rfl hl.1 rfl (Nat.le_of_ble_eq_true rfl) dX9_other_114 ⟨Nat.le_of_ble_eq_true rfl, Nat.le_of_ble_eq_true rfl⟩) hW (fun r_106 L_104 h_105 H locs p_107 hW => ?_)
                      case o251 => omega
                      case o252 => omega
                      obtain ⟨hr_108, hT, hs⟩ := p_107
                      replace hT : hx_T T_tb L_104 h_105 := hT
                      replace hs : hx_S T_tb [] L_90 h_91 L_104 h_105 := hs
                      replace f_x_5 := (hs.o gx trivial rfl).2.trans f_x_5
                      replace f_x_4 := (hs.o gx trivial rfl).2.trans f_x_4
                      replace f_x_12 := (hs.o gx trivial rfl).2.trans f_x_12
                      replace f_x_10 := (hs.o gx trivial rfl).2.trans f_x_10
                      replace f_x_7 := (hs.o gx trivial rfl).2.trans f_x_7
                      replace f_x_11 := (hs.o gx trivial rfl).1.trans f_x_11
                      replace f_x_8 := (hs.o gx trivial rfl).1.trans f_x_8
                      replace f_x_13 := (hs.o gx trivial rfl).1.trans f_x_13
                      replace f_x_6 := (hs.o gx trivial rfl).1.trans f_x_6
                      replace fq_83 := (hs.o gw trivial rfl).2.trans fq_83
                      replace fq_84 := (hs.o gw trivial rfl).2.trans fq_84
                      replace fq_85 := (hs.o gq_81 trivial rfl).2.trans fq_85
                      replace ffv_86 := (hs.o gw trivial rfl).1.trans ffv_86
                      replace ffv_101 := (hs.o gq_99 trivial rfl).1.trans ffv_101
                      replace pf_x_6 : ∀ j : Nat, (j : Int) < (h_105.2.1 x 6).toInt → h_105.2.2 qa j ≠ none := by
                        intro j hj; rw [(hs.o gx trivial rfl).1] at hj; rw [(hs.a gqa rfl j).2]; exact pf_x_6 j hj
                      replace pf_x_13 : ∀ j : Nat, (j : Int) < (h_105.2.1 x 13).toInt → h_105.2.2 qh j ≠ none := by
                        intro j hj; rw [(hs.o gx trivial rfl).1] at hj; rw [(hs.a gqh rfl j).2]; exact pf_x_13 j hj
                      replace pf_x_11 : ∀ j : Nat, (j : Int) < (h_105.2.1 x 11).toInt → h_105.2.2 qc j ≠ none := by
                        intro j hj; rw [(hs.o gx trivial rfl).1] at hj; rw [(hs.a gqc rfl j).2]; exact pf_x_11 j hj
                      replace pf_x_8 : ∀ j : Nat, (j : Int) < (h_105.2.1 x 8).toInt → h_105.2.2 qp j ≠ none := by
                        intro j hj; rw [(hs.o gx trivial rfl).1] at hj; rw [(hs.a gqp rfl j).2]; exact pf_x_8 j hj
                      replace cl_qp_1 : hx_col 40 h_105 qp 1 = bnf := (hx_col_S hs hTo gqp tt_44 tt_4 rfl rfl).trans cl_qp_1
                      replace cl_qc_6 : hx_col 100 h_105 qc 6 = smf := (hx_col_S hs hTo gqc tt_45 tt_2 rfl rfl).trans cl_qc_6
                      replace cl_qc_7 : hx_col 100 h_105 qc 7 = frf := (hx_col_S hs hTo gqc tt_45 tt_2 rfl rfl).trans cl_qc_7
                      replace cl_qc_8 : hx_col 100 h_105 qc 8 = flf := (hx_col_S hs hTo gqc tt_45 tt_2 rfl rfl).trans cl_qc_8
                      replace cl_qc_9 : hx_col 100 h_105 qc 9 = tf := (hx_col_S hs hTo gqc tt_45 tt_2 rfl rfl).trans cl_qc_9
                      replace nu_qp : hx_num 40 h_105 qp 0 (pn0.toInt) := hx_num_S hs hTo gqp tt_44 tt_4 rfl rfl nu_qp
                      replace nu_qc : hx_num 100 h_105 qc 0 (cn0.toInt) := hx_num_S hs hTo gqc tt_45 tt_2 rfl rfl nu_qc
                      replace hDF : hw_DF h_105 qc qp 2 agf cn0.toInt := hw_DF_S hs hTo gqc gqp tt_45 tt_2 rfl rfl rfl hDF
                      replace hDP : hw_DF h_105 qc qp 1 byf cn0.toInt := hw_DF_S hs hTo gqc gqp tt_45 tt_2 rfl rfl rfl hDP
                      replace hRA : hv_RA h_105 qa w a0.toInt A := hv_RA_S hs hTo gqa gw tt_43 tt_0 rfl rfl rfl rfl rfl rfl ?o253 hRA
                      case o253 => omega
                      replace hFX : hv_FX 8 4 h_105 qc cF cn0.toInt := hv_FX_S hs hTo gqc tt_45 tt_2 rfl rfl rfl rfl hFX
                      replace hHL : hv_HL h_105 qh qc hof m0.toInt cn0.toInt := hv_HL_S hs gqh gqc rfl rfl hHL
                      replace hAQo : hv_AQ h_105 w i1.toInt (A (i1.toInt + 1).toNat) := hv_AQ_S hs hTo gw tt_0 rfl rfl rfl rfl rfl hAQo
                      replace ho_82d := (hs.a gqc rfl _).2.trans ho_82d
                      replace ho_100d := (hs.a gqc rfl _).2.trans ho_100d
                      replace nfa_87 : h_105.2.1 q_83 = fa_87 := (funext fun j => (hs.a gq_83 rfl j).1).trans nfa_87
                      replace nfa_88 : h_105.2.1 q_84 = fa_88 := (funext fun j => (hs.a gq_84 rfl j).1).trans nfa_88
                      replace nfa_89 : h_105.2.1 q_85 = fa_89 := (funext fun j => (hs.a gq_85 rfl j).1).trans nfa_89
                      replace hM := hM.tr (hs.mono ?o254)
                      case o254 => decide
                      replace gx := gx.S hs
                      replace gqa := gqa.S hs
                      replace gw := gw.S hs
                      replace gqh := gqh.S hs
                      replace gqc := gqc.S hs
                      replace gqp := gqp.S hs
                      replace gq_81 := gq_81.S hs
                      replace gq_83 := gq_83.S hs
                      replace gq_84 := gq_84.S hs
                      replace gq_85 := gq_85.S hs
                      replace gq_99 := gq_99.S hs
                      refine lv_iadd hx hb dX9_other_117 ?_
                      have rg_109 := i32_r iv54_5
                      have rg_110 := i32_r r_106
                      refine lv_topi (fun x_111 ex_111 => ?_)
                      have zx_111 : x_111.toInt = iv54_5.toInt + r_106.toInt := ?o255
                      case o255 =>
                        rw [ex_111]
                        refine i32_add rfl rfl ?o256 ?o257
                        case o256 => omega
                        case o257 => omega
                      refine lv_istore (lv' := [(5, .int x_111), (4, .int x_98), (7, .int r_92), (6, .int iv54_6), (3, .ref w), (0, .ref x), (1, .int i1), (2, .int i2)]) hx hb dX9_other_118 hl ?o258 rfl (fun ls hl => ?_)
                      case o258 => decide
                      obtain ⟨x_112, ex_112⟩ : ∃ y : Int32, y = iv54_6 + Int32.ofInt 1 := ⟨_, rfl⟩
                      have rg_113 := i32_r iv54_6
                      have zx_112 : x_112.toInt = iv54_6.toInt + (1) := ?o259
                      case o259 =>
                        rw [ex_112]
                        refine i32_add rfl ?o260 ?o261 ?o262
                        case o260 => decide
                        case o261 => omega
                        case o262 => omega
                      refine lv_iinc (v := x_112) (lv' := [(6, .int x_112), (5, .int x_111), (4, .int x_98), (7, .int r_92), (3, .ref w), (0, .ref x), (1, .int i1), (2, .int i2)]) hx hb dX9_other_120 hl (k := 3) rfl ex_112.symm ?o263 rfl (fun ls hl => ?_)
                      case o263 => decide
                      refine lv_goto (tgt := 54) hx hb dX9_other_123 ?o264 ?_
                      case o264 => decide
                      refine ih54 x_98 x_111 x_112 _ _ L_104 h_105 ?o265 ?o266 ?o267 ?o268 ?o269 ?o270 (by by_cases z9 : r_92.toInt = i2.toInt; exact hv_oc_y vi54_0 (by rw [← hJ_95]; exact z9) (by omega) (by omega) zx_112; exact hv_oc_n vi54_0 (by rw [← hJ_95]; exact z9) (by omega) (by omega) zx_112) (hv_os_s vi54_1 (c := r_106.toInt) (by show _ = (tf (hof iv54_6.toNatClampNeg).toNatClampNeg).toInt * _ + _ + _; rw [← ct_102, ← hJ_95]; by_cases z9 : r_92.toInt = 5; (rw [if_pos z9]; exact hr_108.1.1 (by omega)); (rw [if_neg z9, Int.add_zero]; exact hr_108.1.2 (by omega))) ?o271 zx_111 zx_112) ?o272 ?o273 ?o274 ls ?o275 hW hT hM f_x_5 f_x_4 f_x_12 f_x_10 f_x_7 f_x_11 f_x_8 f_x_13 f_x_6 gx gqa gw gqh gqc gqp pf_x_6 pf_x_13 pf_x_11 pf_x_8 cl_qp_1 cl_qc_6 cl_qc_7 cl_qc_8 cl_qc_9 nu_qp nu_qc hDF hDP hRA hFX hHL hAQo (lv_sub hl [0, 1, 2, 4, 5, 6, 7] rfl)
                      case o265 => omega
                      case o266 => omega
                      case o267 => omega
                      case o268 => omega
                      case o269 => omega
                      case o270 => omega
                      case o271 => omega
                      case o272 => omega
                      case o273 => omega
                      case o274 => omega
                      case o275 => omega
                    · skip
                      refine lv_iconst (v := 1) hx hb dX9_other_109 ?o276 ?_
                      case o276 => decide
                      refine lv_goto (tgt := 114) hx hb dX9_other_110 ?o277 ?_
                      case o277 => decide
                      have hTo := hT
                      have zc_1 : (1 : Int32).toInt = 1 := ?o278
                      case o278 => decide
                      refine hx_goi (hx_runV (As := [.ref w, .int (1 : Int32)]) (rest := [.int iv54_5]) ⟨hx, hb, hml, hown, hts⟩ hW gq_99 tt_2 (T := TX2) (N := 19) rfl (t_X2_costsBy_v l dC dI dA L_90 h_91 H.size q_99 w (1 : Int32) hT gq_99 gw q_83 gq_83 fq_83 fa_87 nfa_87 fv_101 ffv_101 (A (i1.toInt + 1).toNat).2.1 (by rw [← nfa_87]; exact hAQo.2.2.1 _ fq_83) (hAB _).1 ⟨?o279, ?o280⟩) (cwV 2 hts (hx_gV kw_849 kw_846 kw_847 kw_848 kw_110) rfl rfl rfl (by decide +kernel) ⟨Nat.le_of_ble_eq_true rfl, Nat.le_of_ble_eq_true rfl⟩) rfl hl.1 rfl (Nat.le_of_ble_eq_true rfl) dX9_other_114 ⟨Nat.le_of_ble_eq_true rfl, Nat.le_of_ble_eq_true rfl⟩) hW (fun r_116 L_114 h_115 H locs p_117 hW => ?_)
                      case o279 => omega
                      case o280 => omega
                      obtain ⟨hr_118, hT, hs⟩ := p_117
                      replace hT : hx_T T_tb L_114 h_115 := hT
                      replace hs : hx_S T_tb [] L_90 h_91 L_114 h_115 := hs
                      replace f_x_5 := (hs.o gx trivial rfl).2.trans f_x_5
                      replace f_x_4 := (hs.o gx trivial rfl).2.trans f_x_4
                      replace f_x_12 := (hs.o gx trivial rfl).2.trans f_x_12
                      replace f_x_10 := (hs.o gx trivial rfl).2.trans f_x_10
                      replace f_x_7 := (hs.o gx trivial rfl).2.trans f_x_7
                      replace f_x_11 := (hs.o gx trivial rfl).1.trans f_x_11
                      replace f_x_8 := (hs.o gx trivial rfl).1.trans f_x_8
                      replace f_x_13 := (hs.o gx trivial rfl).1.trans f_x_13
                      replace f_x_6 := (hs.o gx trivial rfl).1.trans f_x_6
                      replace fq_83 := (hs.o gw trivial rfl).2.trans fq_83
                      replace fq_84 := (hs.o gw trivial rfl).2.trans fq_84
                      replace fq_85 := (hs.o gq_81 trivial rfl).2.trans fq_85
                      replace ffv_86 := (hs.o gw trivial rfl).1.trans ffv_86
                      replace ffv_101 := (hs.o gq_99 trivial rfl).1.trans ffv_101
                      replace pf_x_6 : ∀ j : Nat, (j : Int) < (h_115.2.1 x 6).toInt → h_115.2.2 qa j ≠ none := by
                        intro j hj; rw [(hs.o gx trivial rfl).1] at hj; rw [(hs.a gqa rfl j).2]; exact pf_x_6 j hj
                      replace pf_x_13 : ∀ j : Nat, (j : Int) < (h_115.2.1 x 13).toInt → h_115.2.2 qh j ≠ none := by
                        intro j hj; rw [(hs.o gx trivial rfl).1] at hj; rw [(hs.a gqh rfl j).2]; exact pf_x_13 j hj
                      replace pf_x_11 : ∀ j : Nat, (j : Int) < (h_115.2.1 x 11).toInt → h_115.2.2 qc j ≠ none := by
                        intro j hj; rw [(hs.o gx trivial rfl).1] at hj; rw [(hs.a gqc rfl j).2]; exact pf_x_11 j hj
                      replace pf_x_8 : ∀ j : Nat, (j : Int) < (h_115.2.1 x 8).toInt → h_115.2.2 qp j ≠ none := by
                        intro j hj; rw [(hs.o gx trivial rfl).1] at hj; rw [(hs.a gqp rfl j).2]; exact pf_x_8 j hj
                      replace cl_qp_1 : hx_col 40 h_115 qp 1 = bnf := (hx_col_S hs hTo gqp tt_44 tt_4 rfl rfl).trans cl_qp_1
                      replace cl_qc_6 : hx_col 100 h_115 qc 6 = smf := (hx_col_S hs hTo gqc tt_45 tt_2 rfl rfl).trans cl_qc_6
                      replace cl_qc_7 : hx_col 100 h_115 qc 7 = frf := (hx_col_S hs hTo gqc tt_45 tt_2 rfl rfl).trans cl_qc_7
                      replace cl_qc_8 : hx_col 100 h_115 qc 8 = flf := (hx_col_S hs hTo gqc tt_45 tt_2 rfl rfl).trans cl_qc_8
                      replace cl_qc_9 : hx_col 100 h_115 qc 9 = tf := (hx_col_S hs hTo gqc tt_45 tt_2 rfl rfl).trans cl_qc_9
                      replace nu_qp : hx_num 40 h_115 qp 0 (pn0.toInt) := hx_num_S hs hTo gqp tt_44 tt_4 rfl rfl nu_qp
                      replace nu_qc : hx_num 100 h_115 qc 0 (cn0.toInt) := hx_num_S hs hTo gqc tt_45 tt_2 rfl rfl nu_qc
                      replace hDF : hw_DF h_115 qc qp 2 agf cn0.toInt := hw_DF_S hs hTo gqc gqp tt_45 tt_2 rfl rfl rfl hDF
                      replace hDP : hw_DF h_115 qc qp 1 byf cn0.toInt := hw_DF_S hs hTo gqc gqp tt_45 tt_2 rfl rfl rfl hDP
                      replace hRA : hv_RA h_115 qa w a0.toInt A := hv_RA_S hs hTo gqa gw tt_43 tt_0 rfl rfl rfl rfl rfl rfl ?o281 hRA
                      case o281 => omega
                      replace hFX : hv_FX 8 4 h_115 qc cF cn0.toInt := hv_FX_S hs hTo gqc tt_45 tt_2 rfl rfl rfl rfl hFX
                      replace hHL : hv_HL h_115 qh qc hof m0.toInt cn0.toInt := hv_HL_S hs gqh gqc rfl rfl hHL
                      replace hAQo : hv_AQ h_115 w i1.toInt (A (i1.toInt + 1).toNat) := hv_AQ_S hs hTo gw tt_0 rfl rfl rfl rfl rfl hAQo
                      replace ho_82d := (hs.a gqc rfl _).2.trans ho_82d
                      replace ho_100d := (hs.a gqc rfl _).2.trans ho_100d
                      replace nfa_87 : h_115.2.1 q_83 = fa_87 := (funext fun j => (hs.a gq_83 rfl j).1).trans nfa_87
                      replace nfa_88 : h_115.2.1 q_84 = fa_88 := (funext fun j => (hs.a gq_84 rfl j).1).trans nfa_88
                      replace nfa_89 : h_115.2.1 q_85 = fa_89 := (funext fun j => (hs.a gq_85 rfl j).1).trans nfa_89
                      replace hM := hM.tr (hs.mono ?o282)
                      case o282 => decide
                      replace gx := gx.S hs
                      replace gqa := gqa.S hs
                      replace gw := gw.S hs
                      replace gqh := gqh.S hs
                      replace gqc := gqc.S hs
                      replace gqp := gqp.S hs
                      replace gq_81 := gq_81.S hs
                      replace gq_83 := gq_83.S hs
                      replace gq_84 := gq_84.S hs
                      replace gq_85 := gq_85.S hs
                      replace gq_99 := gq_99.S hs
                      refine lv_iadd hx hb dX9_other_117 ?_
                      have rg_119 := i32_r iv54_5
                      have rg_120 := i32_r r_116
                      refine lv_topi (fun x_121 ex_121 => ?_)
                      have zx_121 : x_121.toInt = iv54_5.toInt + r_116.toInt := ?o283
                      case o283 =>
                        rw [ex_121]
                        refine i32_add rfl rfl ?o284 ?o285
                        case o284 => omega
                        case o285 => omega
                      refine lv_istore (lv' := [(5, .int x_121), (4, .int x_98), (7, .int r_92), (6, .int iv54_6), (3, .ref w), (0, .ref x), (1, .int i1), (2, .int i2)]) hx hb dX9_other_118 hl ?o286 rfl (fun ls hl => ?_)
                      case o286 => decide
                      obtain ⟨x_122, ex_122⟩ : ∃ y : Int32, y = iv54_6 + Int32.ofInt 1 := ⟨_, rfl⟩
                      have rg_123 := i32_r iv54_6
                      have zx_122 : x_122.toInt = iv54_6.toInt + (1) := ?o287
                      case o287 =>
                        rw [ex_122]
                        refine i32_add rfl ?o288 ?o289 ?o290
                        case o288 => decide
                        case o289 => omega
                        case o290 => omega
                      refine lv_iinc (v := x_122) (lv' := [(6, .int x_122), (5, .int x_121), (4, .int x_98), (7, .int r_92), (3, .ref w), (0, .ref x), (1, .int i1), (2, .int i2)]) hx hb dX9_other_120 hl (k := 3) rfl ex_122.symm ?o291 rfl (fun ls hl => ?_)
                      case o291 => decide
                      refine lv_goto (tgt := 54) hx hb dX9_other_123 ?o292 ?_
                      case o292 => decide
                      refine ih54 x_98 x_121 x_122 _ _ L_114 h_115 ?o293 ?o294 ?o295 ?o296 ?o297 ?o298 (by by_cases z9 : r_92.toInt = i2.toInt; exact hv_oc_y vi54_0 (by rw [← hJ_95]; exact z9) (by omega) (by omega) zx_122; exact hv_oc_n vi54_0 (by rw [← hJ_95]; exact z9) (by omega) (by omega) zx_122) (hv_os_s vi54_1 (c := r_116.toInt) (by show _ = (tf (hof iv54_6.toNatClampNeg).toNatClampNeg).toInt * _ + _ + _; rw [← ct_102, ← hJ_95]; by_cases z9 : r_92.toInt = 5; (rw [if_pos z9]; exact hr_118.1.1 (by omega)); (rw [if_neg z9, Int.add_zero]; exact hr_118.1.2 (by omega))) ?o299 zx_121 zx_122) ?o300 ?o301 ?o302 ls ?o303 hW hT hM f_x_5 f_x_4 f_x_12 f_x_10 f_x_7 f_x_11 f_x_8 f_x_13 f_x_6 gx gqa gw gqh gqc gqp pf_x_6 pf_x_13 pf_x_11 pf_x_8 cl_qp_1 cl_qc_6 cl_qc_7 cl_qc_8 cl_qc_9 nu_qp nu_qc hDF hDP hRA hFX hHL hAQo (lv_sub hl [0, 1, 2, 4, 5, 6, 7] rfl)
                      case o293 => omega
                      case o294 => omega
                      case o295 => omega
                      case o296 => omega
                      case o297 => omega
                      case o298 => omega
                      case o299 => omega
                      case o300 => omega
                      case o301 => omega
                      case o302 => omega
                      case o303 => omega
                  · skip
                    refine lv_iconst (v := 1) hx hb dX9_other_85 ?o304 ?_
                    case o304 => decide
                    refine lv_goto (tgt := 90) hx hb dX9_other_86 ?o305 ?_
                    case o305 => decide
                    refine lv_iadd hx hb dX9_other_90 ?_
                    have rg_124 := i32_r iv54_4
                    refine lv_topi (fun x_125 ex_125 => ?_)
                    have zx_125 : x_125.toInt = iv54_4.toInt + 1 := ?o306
                    case o306 =>
                      rw [ex_125]
                      refine i32_add rfl ?o307 ?o308 ?o309
                      case o307 => decide
                      case o308 => omega
                      case o309 => omega
                    refine lv_istore (lv' := [(4, .int x_125), (7, .int r_92), (6, .int iv54_6), (5, .int iv54_5), (3, .ref w), (0, .ref x), (1, .int i1), (2, .int i2)]) hx hb dX9_other_91 hl ?o310 rfl (fun ls hl => ?_)
                    case o310 => decide
                    refine lv_iload hx hb dX9_other_93 (lv_at hl 3 rfl) ?_
                    refine lv_aload_n hx hb dX9_other_95 rfl (lv_at hl 5 rfl) ?_
                    refine hk_getr hx hb hts hC_9 hown hW gx tt_9 12 ?o311 rfl kw_376 ⟨rfl, rfl, rfl⟩ f_x_12 dX9_other_96 ?_
                    case o311 => decide
                    refine lv_iload hx hb dX9_other_99 (lv_at hl 2 rfl) ?_
                    refine hx_aaldN hx hb hW hT gqh tt_46 (t1 := 2) rfl ⟨?o312, ?o313⟩ (pf_x_13 _ (by rw [f_x_13]; exact hx_tnI (by omega) (by omega))) dX9_other_101 (fun q_126 fq_126 gq_126 => ?_)
                    case o312 => omega
                    case o313 => omega
                    obtain ⟨ho_127o, ho_127a, ho_127b, ho_127c, ho_127d⟩ := hHL iv54_6.toNatClampNeg (by unfold Int32.toNatClampNeg; omega) (by unfold Int32.toNatClampNeg; omega)
                    have ho_127e : ho_127o = q_126 := Option.some.inj (ho_127a.symm.trans fq_126)
                    rw [ho_127e] at ho_127d
                    have ho_127b : 0 ≤ (hof iv54_6.toNatClampNeg).toInt := ho_127b
                    have ho_127c : (hof iv54_6.toNatClampNeg).toInt < cn0.toInt := ho_127c
                    have ho_127d : h_91.2.2 qc (hof iv54_6.toNatClampNeg).toNatClampNeg = some q_126 := ho_127d
                    have ho_127u : 0 ≤ (hof iv54_6.toInt.toNat).toInt ∧ (hof iv54_6.toInt.toNat).toInt < cn0.toInt := ⟨ho_127b, ho_127c⟩
                    obtain ⟨fv_128, efv_128⟩ : ∃ y : Int32, y = h_91.2.1 q_126 9 := ⟨_, rfl⟩
                    have bfv_128 := hT.gi gq_126 tt_2 (k := 9) rfl
                    rw [← efv_128] at bfv_128
                    have bfv_128 : -2147483648 ≤ fv_128.toInt ∧ fv_128.toInt ≤ 2147483647 := bfv_128
                    have ffv_128 := efv_128.symm
                    have ct_129 : fv_128 = tf (hof iv54_6.toNatClampNeg).toNatClampNeg := ?o314
                    case o314 =>
                      rw [← ffv_128, ← cl_qc_9]
                      exact (hx_col_at ho_127d (by unfold Int32.toNatClampNeg; omega)).symm
                    have ct_129b := htb (hof iv54_6.toNatClampNeg).toNatClampNeg (by unfold Int32.toNatClampNeg; omega); rw [← ct_129] at ct_129b
                    refine lv_aload_n hx hb dX9_other_102 rfl (lv_at hl 4 rfl) ?_
                    refine lv_iload hx hb dX9_other_103 (lv_at hl 1 rfl) ?_
                    refine lv_iconst (v := 5) hx hb dX9_other_105 ?o315 ?_
                    case o315 => decide
                    refine hb_icmp_ne (zx := r_92.toInt) (zy := 5) (tgt := 113) hx hb rfl ?o316 dX9_other_106 ?o317 (fun c_130 => ?_) (fun c_130 => ?_)
                    case o316 => decide
                    case o317 => decide
                    · skip
                      refine lv_iconst (v := 0) hx hb dX9_other_113 ?o318 ?_
                      case o318 => decide
                      have hTo := hT
                      have zc_0 : (0 : Int32).toInt = 0 := ?o319
                      case o319 => decide
                      refine hx_goi (hx_runV (As := [.ref w, .int (0 : Int32)]) (rest := [.int iv54_5]) ⟨hx, hb, hml, hown, hts⟩ hW gq_126 tt_2 (T := TX2) (N := 19) rfl (t_X2_costsBy_v l dC dI dA L_90 h_91 H.size q_126 w (0 : Int32) hT gq_126 gw q_83 gq_83 fq_83 fa_87 nfa_87 fv_128 ffv_128 (A (i1.toInt + 1).toNat).2.1 (by rw [← nfa_87]; exact hAQo.2.2.1 _ fq_83) (hAB _).1 ⟨?o320, ?o321⟩) (cwV 2 hts (hx_gV kw_849 kw_846 kw_847 kw_848 kw_110) rfl rfl rfl (by decide +kernel) ⟨Nat.le_of_ble_eq_true rfl, Nat.le_of_ble_eq_true rfl⟩) rfl hl.1 rfl (Nat.le_of_ble_eq_true rfl) dX9_other_114 ⟨Nat.le_of_ble_eq_true rfl, Nat.le_of_ble_eq_true rfl⟩) hW (fun r_133 L_131 h_132 H locs p_134 hW => ?_)
                      case o320 => omega
                      case o321 => omega
                      obtain ⟨hr_135, hT, hs⟩ := p_134
                      replace hT : hx_T T_tb L_131 h_132 := hT
                      replace hs : hx_S T_tb [] L_90 h_91 L_131 h_132 := hs
                      replace f_x_5 := (hs.o gx trivial rfl).2.trans f_x_5
                      replace f_x_4 := (hs.o gx trivial rfl).2.trans f_x_4
                      replace f_x_12 := (hs.o gx trivial rfl).2.trans f_x_12
                      replace f_x_10 := (hs.o gx trivial rfl).2.trans f_x_10
                      replace f_x_7 := (hs.o gx trivial rfl).2.trans f_x_7
                      replace f_x_11 := (hs.o gx trivial rfl).1.trans f_x_11
                      replace f_x_8 := (hs.o gx trivial rfl).1.trans f_x_8
                      replace f_x_13 := (hs.o gx trivial rfl).1.trans f_x_13
                      replace f_x_6 := (hs.o gx trivial rfl).1.trans f_x_6
                      replace fq_83 := (hs.o gw trivial rfl).2.trans fq_83
                      replace fq_84 := (hs.o gw trivial rfl).2.trans fq_84
                      replace fq_85 := (hs.o gq_81 trivial rfl).2.trans fq_85
                      replace ffv_86 := (hs.o gw trivial rfl).1.trans ffv_86
                      replace ffv_128 := (hs.o gq_126 trivial rfl).1.trans ffv_128
                      replace pf_x_6 : ∀ j : Nat, (j : Int) < (h_132.2.1 x 6).toInt → h_132.2.2 qa j ≠ none := by
                        intro j hj; rw [(hs.o gx trivial rfl).1] at hj; rw [(hs.a gqa rfl j).2]; exact pf_x_6 j hj
                      replace pf_x_13 : ∀ j : Nat, (j : Int) < (h_132.2.1 x 13).toInt → h_132.2.2 qh j ≠ none := by
                        intro j hj; rw [(hs.o gx trivial rfl).1] at hj; rw [(hs.a gqh rfl j).2]; exact pf_x_13 j hj
                      replace pf_x_11 : ∀ j : Nat, (j : Int) < (h_132.2.1 x 11).toInt → h_132.2.2 qc j ≠ none := by
                        intro j hj; rw [(hs.o gx trivial rfl).1] at hj; rw [(hs.a gqc rfl j).2]; exact pf_x_11 j hj
                      replace pf_x_8 : ∀ j : Nat, (j : Int) < (h_132.2.1 x 8).toInt → h_132.2.2 qp j ≠ none := by
                        intro j hj; rw [(hs.o gx trivial rfl).1] at hj; rw [(hs.a gqp rfl j).2]; exact pf_x_8 j hj
                      replace cl_qp_1 : hx_col 40 h_132 qp 1 = bnf := (hx_col_S hs hTo gqp tt_44 tt_4 rfl rfl).trans cl_qp_1
                      replace cl_qc_6 : hx_col 100 h_132 qc 6 = smf := (hx_col_S hs hTo gqc tt_45 tt_2 rfl rfl).trans cl_qc_6
                      replace cl_qc_7 : hx_col 100 h_132 qc 7 = frf := (hx_col_S hs hTo gqc tt_45 tt_2 rfl rfl).trans cl_qc_7
                      replace cl_qc_8 : hx_col 100 h_132 qc 8 = flf := (hx_col_S hs hTo gqc tt_45 tt_2 rfl rfl).trans cl_qc_8
                      replace cl_qc_9 : hx_col 100 h_132 qc 9 = tf := (hx_col_S hs hTo gqc tt_45 tt_2 rfl rfl).trans cl_qc_9
                      replace nu_qp : hx_num 40 h_132 qp 0 (pn0.toInt) := hx_num_S hs hTo gqp tt_44 tt_4 rfl rfl nu_qp
                      replace nu_qc : hx_num 100 h_132 qc 0 (cn0.toInt) := hx_num_S hs hTo gqc tt_45 tt_2 rfl rfl nu_qc
                      replace hDF : hw_DF h_132 qc qp 2 agf cn0.toInt := hw_DF_S hs hTo gqc gqp tt_45 tt_2 rfl rfl rfl hDF
                      replace hDP : hw_DF h_132 qc qp 1 byf cn0.toInt := hw_DF_S hs hTo gqc gqp tt_45 tt_2 rfl rfl rfl hDP
                      replace hRA : hv_RA h_132 qa w a0.toInt A := hv_RA_S hs hTo gqa gw tt_43 tt_0 rfl rfl rfl rfl rfl rfl ?o322 hRA
                      case o322 => omega
                      replace hFX : hv_FX 8 4 h_132 qc cF cn0.toInt := hv_FX_S hs hTo gqc tt_45 tt_2 rfl rfl rfl rfl hFX
                      replace hHL : hv_HL h_132 qh qc hof m0.toInt cn0.toInt := hv_HL_S hs gqh gqc rfl rfl hHL
                      replace hAQo : hv_AQ h_132 w i1.toInt (A (i1.toInt + 1).toNat) := hv_AQ_S hs hTo gw tt_0 rfl rfl rfl rfl rfl hAQo
                      replace ho_82d := (hs.a gqc rfl _).2.trans ho_82d
                      replace ho_127d := (hs.a gqc rfl _).2.trans ho_127d
                      replace nfa_87 : h_132.2.1 q_83 = fa_87 := (funext fun j => (hs.a gq_83 rfl j).1).trans nfa_87
                      replace nfa_88 : h_132.2.1 q_84 = fa_88 := (funext fun j => (hs.a gq_84 rfl j).1).trans nfa_88
                      replace nfa_89 : h_132.2.1 q_85 = fa_89 := (funext fun j => (hs.a gq_85 rfl j).1).trans nfa_89
                      replace hM := hM.tr (hs.mono ?o323)
                      case o323 => decide
                      replace gx := gx.S hs
                      replace gqa := gqa.S hs
                      replace gw := gw.S hs
                      replace gqh := gqh.S hs
                      replace gqc := gqc.S hs
                      replace gqp := gqp.S hs
                      replace gq_81 := gq_81.S hs
                      replace gq_83 := gq_83.S hs
                      replace gq_84 := gq_84.S hs
                      replace gq_85 := gq_85.S hs
                      replace gq_126 := gq_126.S hs
                      refine lv_iadd hx hb dX9_other_117 ?_
                      have rg_136 := i32_r iv54_5
                      have rg_137 := i32_r r_133
                      refine lv_topi (fun x_138 ex_138 => ?_)
                      have zx_138 : x_138.toInt = iv54_5.toInt + r_133.toInt := ?o324
                      case o324 =>
                        rw [ex_138]
                        refine i32_add rfl rfl ?o325 ?o326
                        case o325 => omega
                        case o326 => omega
                      refine lv_istore (lv' := [(5, .int x_138), (4, .int x_125), (7, .int r_92), (6, .int iv54_6), (3, .ref w), (0, .ref x), (1, .int i1), (2, .int i2)]) hx hb dX9_other_118 hl ?o327 rfl (fun ls hl => ?_)
                      case o327 => decide
                      obtain ⟨x_139, ex_139⟩ : ∃ y : Int32, y = iv54_6 + Int32.ofInt 1 := ⟨_, rfl⟩
                      have rg_140 := i32_r iv54_6
                      have zx_139 : x_139.toInt = iv54_6.toInt + (1) := ?o328
                      case o328 =>
                        rw [ex_139]
                        refine i32_add rfl ?o329 ?o330 ?o331
                        case o329 => decide
                        case o330 => omega
                        case o331 => omega
                      refine lv_iinc (v := x_139) (lv' := [(6, .int x_139), (5, .int x_138), (4, .int x_125), (7, .int r_92), (3, .ref w), (0, .ref x), (1, .int i1), (2, .int i2)]) hx hb dX9_other_120 hl (k := 3) rfl ex_139.symm ?o332 rfl (fun ls hl => ?_)
                      case o332 => decide
                      refine lv_goto (tgt := 54) hx hb dX9_other_123 ?o333 ?_
                      case o333 => decide
                      refine ih54 x_125 x_138 x_139 _ _ L_131 h_132 ?o334 ?o335 ?o336 ?o337 ?o338 ?o339 (by by_cases z9 : r_92.toInt = i2.toInt; exact hv_oc_y vi54_0 (by rw [← hJ_95]; exact z9) (by omega) (by omega) zx_139; exact hv_oc_n vi54_0 (by rw [← hJ_95]; exact z9) (by omega) (by omega) zx_139) (hv_os_s vi54_1 (c := r_133.toInt) (by show _ = (tf (hof iv54_6.toNatClampNeg).toNatClampNeg).toInt * _ + _ + _; rw [← ct_129, ← hJ_95]; by_cases z9 : r_92.toInt = 5; (rw [if_pos z9]; exact hr_135.1.1 (by omega)); (rw [if_neg z9, Int.add_zero]; exact hr_135.1.2 (by omega))) ?o340 zx_138 zx_139) ?o341 ?o342 ?o343 ls ?o344 hW hT hM f_x_5 f_x_4 f_x_12 f_x_10 f_x_7 f_x_11 f_x_8 f_x_13 f_x_6 gx gqa gw gqh gqc gqp pf_x_6 pf_x_13 pf_x_11 pf_x_8 cl_qp_1 cl_qc_6 cl_qc_7 cl_qc_8 cl_qc_9 nu_qp nu_qc hDF hDP hRA hFX hHL hAQo (lv_sub hl [0, 1, 2, 4, 5, 6, 7] rfl)
                      case o334 => omega
                      case o335 => omega
                      case o336 => omega
                      case o337 => omega
                      case o338 => omega
                      case o339 => omega
                      case o340 => omega
                      case o341 => omega
                      case o342 => omega
                      case o343 => omega
                      case o344 => omega
                    · skip
                      refine lv_iconst (v := 1) hx hb dX9_other_109 ?o345 ?_
                      case o345 => decide
                      refine lv_goto (tgt := 114) hx hb dX9_other_110 ?o346 ?_
                      case o346 => decide
                      have hTo := hT
                      have zc_1 : (1 : Int32).toInt = 1 := ?o347
                      case o347 => decide
                      refine hx_goi (hx_runV (As := [.ref w, .int (1 : Int32)]) (rest := [.int iv54_5]) ⟨hx, hb, hml, hown, hts⟩ hW gq_126 tt_2 (T := TX2) (N := 19) rfl (t_X2_costsBy_v l dC dI dA L_90 h_91 H.size q_126 w (1 : Int32) hT gq_126 gw q_83 gq_83 fq_83 fa_87 nfa_87 fv_128 ffv_128 (A (i1.toInt + 1).toNat).2.1 (by rw [← nfa_87]; exact hAQo.2.2.1 _ fq_83) (hAB _).1 ⟨?o348, ?o349⟩) (cwV 2 hts (hx_gV kw_849 kw_846 kw_847 kw_848 kw_110) rfl rfl rfl (by decide +kernel) ⟨Nat.le_of_ble_eq_true rfl, Nat.le_of_ble_eq_true rfl⟩) rfl hl.1 rfl (Nat.le_of_ble_eq_true rfl) dX9_other_114 ⟨Nat.le_of_ble_eq_true rfl, Nat.le_of_ble_eq_true rfl⟩) hW (fun r_143 L_141 h_142 H locs p_144 hW => ?_)
                      case o348 => omega
                      case o349 => omega
                      obtain ⟨hr_145, hT, hs⟩ := p_144
                      replace hT : hx_T T_tb L_141 h_142 := hT
                      replace hs : hx_S T_tb [] L_90 h_91 L_141 h_142 := hs
                      replace f_x_5 := (hs.o gx trivial rfl).2.trans f_x_5
                      replace f_x_4 := (hs.o gx trivial rfl).2.trans f_x_4
                      replace f_x_12 := (hs.o gx trivial rfl).2.trans f_x_12
                      replace f_x_10 := (hs.o gx trivial rfl).2.trans f_x_10
                      replace f_x_7 := (hs.o gx trivial rfl).2.trans f_x_7
                      replace f_x_11 := (hs.o gx trivial rfl).1.trans f_x_11
                      replace f_x_8 := (hs.o gx trivial rfl).1.trans f_x_8
                      replace f_x_13 := (hs.o gx trivial rfl).1.trans f_x_13
                      replace f_x_6 := (hs.o gx trivial rfl).1.trans f_x_6
                      replace fq_83 := (hs.o gw trivial rfl).2.trans fq_83
                      replace fq_84 := (hs.o gw trivial rfl).2.trans fq_84
                      replace fq_85 := (hs.o gq_81 trivial rfl).2.trans fq_85
                      replace ffv_86 := (hs.o gw trivial rfl).1.trans ffv_86
                      replace ffv_128 := (hs.o gq_126 trivial rfl).1.trans ffv_128
                      replace pf_x_6 : ∀ j : Nat, (j : Int) < (h_142.2.1 x 6).toInt → h_142.2.2 qa j ≠ none := by
                        intro j hj; rw [(hs.o gx trivial rfl).1] at hj; rw [(hs.a gqa rfl j).2]; exact pf_x_6 j hj
                      replace pf_x_13 : ∀ j : Nat, (j : Int) < (h_142.2.1 x 13).toInt → h_142.2.2 qh j ≠ none := by
                        intro j hj; rw [(hs.o gx trivial rfl).1] at hj; rw [(hs.a gqh rfl j).2]; exact pf_x_13 j hj
                      replace pf_x_11 : ∀ j : Nat, (j : Int) < (h_142.2.1 x 11).toInt → h_142.2.2 qc j ≠ none := by
                        intro j hj; rw [(hs.o gx trivial rfl).1] at hj; rw [(hs.a gqc rfl j).2]; exact pf_x_11 j hj
                      replace pf_x_8 : ∀ j : Nat, (j : Int) < (h_142.2.1 x 8).toInt → h_142.2.2 qp j ≠ none := by
                        intro j hj; rw [(hs.o gx trivial rfl).1] at hj; rw [(hs.a gqp rfl j).2]; exact pf_x_8 j hj
                      replace cl_qp_1 : hx_col 40 h_142 qp 1 = bnf := (hx_col_S hs hTo gqp tt_44 tt_4 rfl rfl).trans cl_qp_1
                      replace cl_qc_6 : hx_col 100 h_142 qc 6 = smf := (hx_col_S hs hTo gqc tt_45 tt_2 rfl rfl).trans cl_qc_6
                      replace cl_qc_7 : hx_col 100 h_142 qc 7 = frf := (hx_col_S hs hTo gqc tt_45 tt_2 rfl rfl).trans cl_qc_7
                      replace cl_qc_8 : hx_col 100 h_142 qc 8 = flf := (hx_col_S hs hTo gqc tt_45 tt_2 rfl rfl).trans cl_qc_8
                      replace cl_qc_9 : hx_col 100 h_142 qc 9 = tf := (hx_col_S hs hTo gqc tt_45 tt_2 rfl rfl).trans cl_qc_9
                      replace nu_qp : hx_num 40 h_142 qp 0 (pn0.toInt) := hx_num_S hs hTo gqp tt_44 tt_4 rfl rfl nu_qp
                      replace nu_qc : hx_num 100 h_142 qc 0 (cn0.toInt) := hx_num_S hs hTo gqc tt_45 tt_2 rfl rfl nu_qc
                      replace hDF : hw_DF h_142 qc qp 2 agf cn0.toInt := hw_DF_S hs hTo gqc gqp tt_45 tt_2 rfl rfl rfl hDF
                      replace hDP : hw_DF h_142 qc qp 1 byf cn0.toInt := hw_DF_S hs hTo gqc gqp tt_45 tt_2 rfl rfl rfl hDP
                      replace hRA : hv_RA h_142 qa w a0.toInt A := hv_RA_S hs hTo gqa gw tt_43 tt_0 rfl rfl rfl rfl rfl rfl ?o350 hRA
                      case o350 => omega
                      replace hFX : hv_FX 8 4 h_142 qc cF cn0.toInt := hv_FX_S hs hTo gqc tt_45 tt_2 rfl rfl rfl rfl hFX
                      replace hHL : hv_HL h_142 qh qc hof m0.toInt cn0.toInt := hv_HL_S hs gqh gqc rfl rfl hHL
                      replace hAQo : hv_AQ h_142 w i1.toInt (A (i1.toInt + 1).toNat) := hv_AQ_S hs hTo gw tt_0 rfl rfl rfl rfl rfl hAQo
                      replace ho_82d := (hs.a gqc rfl _).2.trans ho_82d
                      replace ho_127d := (hs.a gqc rfl _).2.trans ho_127d
                      replace nfa_87 : h_142.2.1 q_83 = fa_87 := (funext fun j => (hs.a gq_83 rfl j).1).trans nfa_87
                      replace nfa_88 : h_142.2.1 q_84 = fa_88 := (funext fun j => (hs.a gq_84 rfl j).1).trans nfa_88
                      replace nfa_89 : h_142.2.1 q_85 = fa_89 := (funext fun j => (hs.a gq_85 rfl j).1).trans nfa_89
                      replace hM := hM.tr (hs.mono ?o351)
                      case o351 => decide
                      replace gx := gx.S hs
                      replace gqa := gqa.S hs
                      replace gw := gw.S hs
                      replace gqh := gqh.S hs
                      replace gqc := gqc.S hs
                      replace gqp := gqp.S hs
                      replace gq_81 := gq_81.S hs
                      replace gq_83 := gq_83.S hs
                      replace gq_84 := gq_84.S hs
                      replace gq_85 := gq_85.S hs
                      replace gq_126 := gq_126.S hs
                      refine lv_iadd hx hb dX9_other_117 ?_
                      have rg_146 := i32_r iv54_5
                      have rg_147 := i32_r r_143
                      refine lv_topi (fun x_148 ex_148 => ?_)
                      have zx_148 : x_148.toInt = iv54_5.toInt + r_143.toInt := ?o352
                      case o352 =>
                        rw [ex_148]
                        refine i32_add rfl rfl ?o353 ?o354
                        case o353 => omega
                        case o354 => omega
                      refine lv_istore (lv' := [(5, .int x_148), (4, .int x_125), (7, .int r_92), (6, .int iv54_6), (3, .ref w), (0, .ref x), (1, .int i1), (2, .int i2)]) hx hb dX9_other_118 hl ?o355 rfl (fun ls hl => ?_)
                      case o355 => decide
                      obtain ⟨x_149, ex_149⟩ : ∃ y : Int32, y = iv54_6 + Int32.ofInt 1 := ⟨_, rfl⟩
                      have rg_150 := i32_r iv54_6
                      have zx_149 : x_149.toInt = iv54_6.toInt + (1) := ?o356
                      case o356 =>
                        rw [ex_149]
                        refine i32_add rfl ?o357 ?o358 ?o359
                        case o357 => decide
                        case o358 => omega
                        case o359 => omega
                      refine lv_iinc (v := x_149) (lv' := [(6, .int x_149), (5, .int x_148), (4, .int x_125), (7, .int r_92), (3, .ref w), (0, .ref x), (1, .int i1), (2, .int i2)]) hx hb dX9_other_120 hl (k := 3) rfl ex_149.symm ?o360 rfl (fun ls hl => ?_)
                      case o360 => decide
                      refine lv_goto (tgt := 54) hx hb dX9_other_123 ?o361 ?_
                      case o361 => decide
                      refine ih54 x_125 x_148 x_149 _ _ L_141 h_142 ?o362 ?o363 ?o364 ?o365 ?o366 ?o367 (by by_cases z9 : r_92.toInt = i2.toInt; exact hv_oc_y vi54_0 (by rw [← hJ_95]; exact z9) (by omega) (by omega) zx_149; exact hv_oc_n vi54_0 (by rw [← hJ_95]; exact z9) (by omega) (by omega) zx_149) (hv_os_s vi54_1 (c := r_143.toInt) (by show _ = (tf (hof iv54_6.toNatClampNeg).toNatClampNeg).toInt * _ + _ + _; rw [← ct_129, ← hJ_95]; by_cases z9 : r_92.toInt = 5; (rw [if_pos z9]; exact hr_145.1.1 (by omega)); (rw [if_neg z9, Int.add_zero]; exact hr_145.1.2 (by omega))) ?o368 zx_148 zx_149) ?o369 ?o370 ?o371 ls ?o372 hW hT hM f_x_5 f_x_4 f_x_12 f_x_10 f_x_7 f_x_11 f_x_8 f_x_13 f_x_6 gx gqa gw gqh gqc gqp pf_x_6 pf_x_13 pf_x_11 pf_x_8 cl_qp_1 cl_qc_6 cl_qc_7 cl_qc_8 cl_qc_9 nu_qp nu_qc hDF hDP hRA hFX hHL hAQo (lv_sub hl [0, 1, 2, 4, 5, 6, 7] rfl)
                      case o362 => omega
                      case o363 => omega
                      case o364 => omega
                      case o365 => omega
                      case o366 => omega
                      case o367 => omega
                      case o368 => omega
                      case o369 => omega
                      case o370 => omega
                      case o371 => omega
                      case o372 => omega
            have zk_0 : (0 : Int32).toInt = 0 := ?o373
            case o373 => decide
            have zk_0 : (0 : Int32).toInt = 0 := ?o374
            case o374 => decide
            have zk_0 : (0 : Int32).toInt = 0 := ?o375
            case o375 => decide
            refine loop54 101 (0 : Int32) (0 : Int32) (0 : Int32) _ _ L h ?o376 ?o377 ?o378 ?o379 ?o380 ?o381 (by rw [zk_0]; rfl) (by rw [zk_0]; rfl) ?o382 ?o383 ?o384 ls ?o385 hW hT hM f_x_5 f_x_4 f_x_12 f_x_10 f_x_7 f_x_11 f_x_8 f_x_13 f_x_6 gx gqa gw gqh gqc gqp pf_x_6 pf_x_13 pf_x_11 pf_x_8 cl_qp_1 cl_qc_6 cl_qc_7 cl_qc_8 cl_qc_9 nu_qp nu_qc hDF hDP hRA hFX hHL hAQo hl
            case o376 => decide
            case o377 => decide
            case o378 => decide
            case o379 => decide
            case o380 => decide
            case o381 => decide
            case o382 => omega
            case o383 => omega
            case o384 => omega
            case o385 => omega
        · skip
          refine lv_iconst (v := -1) hx hb dX9_other_24 ?o386 ?_
          case o386 => decide
          refine hx_reti hx hb hr hlk hW ⟨(Or.inl ⟨?o387, ?o388⟩), hT, hM⟩ dX9_other_25
          case o387 => omega
          case o388 => decide
end
