
set_option maxHeartbeats 4000000 in
set_option maxRecDepth 100000 in
theorem t_X10_person_v (l : Launch) (dC : Nat → ClassId) (dI : Nat → Nat → Nat) (dA : Nat → ClassId) (L : List Nat) (h : hx_h) (sz : Nat) (x : Nat) (i1 : Int32) (i2 : Int32) (i3 : Int32) (i4 : Int32) (i5 : Int32) (i6 : Int32) (hT : hx_T T_tb L h) (gx : hx_g L h x 10) (qdx : Nat) (gqdx : hx_g L h qdx 61) (f_x_24 : h.2.2 x 24 = some qdx) (qdy : Nat) (gqdy : hx_g L h qdy 62) (f_x_25 : h.2.2 x 25 = some qdy) (qbn : Nat) (gqbn : hx_g L h qbn 58) (f_x_21 : h.2.2 x 21 = some qbn) (qki : Nat) (gqki : hx_g L h qki 63) (f_x_26 : h.2.2 x 26 = some qki) (qea : Nat) (gqea : hx_g L h qea 59) (f_x_22 : h.2.2 x 22 = some qea) (qhd : Nat) (gqhd : hx_g L h qhd 60) (f_x_23 : h.2.2 x 23 = some qhd) (dxf : Nat → Int32) (af_qdx : h.2.1 qdx = dxf) (dyf : Nat → Int32) (af_qdy : h.2.1 qdy = dyf) (bnf : Nat → Int32) (af_qbn : h.2.1 qbn = bnf) (kkf : Nat → Int32) (af_qki : h.2.1 qki = kkf) (eaf : Nat → Int32) (af_qea : h.2.1 qea = eaf) (hdf : Nat → Int32) (af_qhd : h.2.1 qhd = hdf) (pn0 : Int32) (f_x_20 : h.2.1 x 20 = pn0) : Met l yX10_person (Cond.code yX10_person cX10_person 7 (some .int) :: hx_all) ({ frames := 2, cells := 0, slots := 0, locals := 45 }) (va_Pc [.ref x, .int i1, .int i2, .int i3, .int i4, .int i5, .int i6] (hx_B T_tb (P_ty dA) (dC, dI) vwCl L h sz)) (va_Qi (fun (r : Int32) (u : List Nat × hx_h) => (∃ (pn1 : Int32) (dxf1 : Nat → Int32) (dyf1 : Nat → Int32) (bnf1 : Nat → Int32) (kkf1 : Nat → Int32) (eaf1 : Nat → Int32) (hdf1 : Nat → Int32), u.2.2.1 x 20 = pn1 ∧ u.2.2.1 qdx = dxf1 ∧ u.2.2.1 qdy = dyf1 ∧ u.2.2.1 qbn = bnf1 ∧ u.2.2.1 qki = kkf1 ∧ u.2.2.1 qea = eaf1 ∧ u.2.2.1 qhd = hdf1 ∧ (((hx_PS pn0.toInt i1.toInt i2.toInt i3.toInt i4.toInt i5.toInt i6.toInt r.toInt pn1.toInt) ∧ hx_CD pn0.toInt r.toInt i4 dxf dxf1 ∧ hx_CD pn0.toInt r.toInt i5 dyf dyf1 ∧ hx_CD pn0.toInt r.toInt i1 bnf bnf1 ∧ hx_CD pn0.toInt r.toInt i6 kkf kkf1) ∧ (hx_CD pn0.toInt r.toInt i2 eaf eaf1 ∧ hx_CD pn0.toInt r.toInt i3 hdf hdf1))) ∧ hx_T T_tb u.1 u.2 ∧ hx_S T_tb [(10, 20), (58, 0), (59, 0), (60, 0), (61, 0), (62, 0), (63, 0)] L h u.1 u.2) (hx_E T_tb (P_ty dA) (dC, dI) vwCl (hx_A L sz)) (hx_A L sz)) 0 0 (hx_A L sz) := by
  refine hx_met (lv := [(0, .ref x), (1, .int i1), (2, .int i2), (3, .int i3), (4, .int i4), (5, .int i5), (6, .int i6)]) (by decide +kernel) rfl (Nat.le_of_ble_eq_true rfl) rfl ?_
  intro p e s m below meth c hx hb hml hr hlk hts0 hown hin hsz hW ls hl
  have hts : ∀ w ∈ hx_all, w.before _ s = true := fun w hw => hts0 w (List.mem_cons_of_mem _ hw)
  have hown : s.vm.findClass "SmallCourtModel" = some m.cls := hown
  have hM : hx_S T_tb [(10, 20), (58, 0), (59, 0), (60, 0), (61, 0), (62, 0), (63, 0)] L h L h := hx_S.rf
  have b_pn0 := hT.gi gx tt_10 (k := 20) rfl
  rw [f_x_20] at b_pn0
  have b_pn0 : 0 ≤ pn0.toInt ∧ pn0.toInt ≤ 40 := b_pn0
  refine lv_aload_n hx hb dX10_person_0 rfl (lv_at hl 0 rfl) ?_
  refine hk_geti hx hb hts hC_10 hown hW (gx.S hM) tt_10 20 (by decide) rfl kw_1163 ⟨rfl, rfl, rfl⟩ f_x_20 dX10_person_1 ?_
  refine lv_bipush (v := 40) hx hb dX10_person_4 (by decide) ?_
  refine hb_icmp_eq (zx := pn0.toInt) (zy := 40) (tgt := 45) hx hb rfl (by decide) dX10_person_6 (by decide) (fun c_1 => ?_) (fun c_1 => ?_)
  · skip
    refine lv_iconst (v := -1) hx hb dX10_person_45 (by decide) ?_
    exact hx_reti hx hb hr hlk hW ⟨⟨pn0, dxf, dyf, bnf, kkf, eaf, hdf, f_x_20, af_qdx, af_qdy, af_qbn, af_qki, af_qea, af_qhd, ⟨⟨(Or.inl ⟨by decide, by omega, by unfold hx_pcn; omega⟩), (Or.inl ⟨by decide, rfl⟩), (Or.inl ⟨by decide, rfl⟩), (Or.inl ⟨by decide, rfl⟩), (Or.inl ⟨by decide, rfl⟩)⟩, ⟨(Or.inl ⟨by decide, rfl⟩), (Or.inl ⟨by decide, rfl⟩)⟩⟩⟩, hT, hM⟩ dX10_person_46
  · skip
    refine lv_iload_n hx hb dX10_person_9 rfl (lv_at hl 1 rfl) ?_
    refine lv_sipush (v := -30000) hx hb dX10_person_10 (by decide) ?_
    refine lv_sipush (v := 7999) hx hb dX10_person_13 (by decide) ?_
    have zc_7999 : (7999 : Int32).toInt = 7999 := by decide
    have zc_m30000 : (-30000 : Int32).toInt = -30000 := by decide
    refine hx_goi (hx_runS (As := [.int i1, .int (-30000 : Int32), .int (7999 : Int32)]) (rest := []) ⟨hx, hb, hml, hown, hts⟩ hW (t_X10_in l dC dI dA L h s.heap.size i1 (-30000 : Int32) (7999 : Int32) hT) (va_cwS 3 hts (hx_gS kw_1445 kw_1443 kw_1444 kw_103) rfl rfl rfl (by decide +kernel) ⟨Nat.le_of_ble_eq_true rfl, Nat.le_of_ble_eq_true rfl⟩) rfl hl.1 rfl (Nat.le_of_ble_eq_true rfl) dX10_person_16 ⟨Nat.le_of_ble_eq_true rfl, Nat.le_of_ble_eq_true rfl⟩) hW (fun r_4 L_2 h_3 H locs p_5 hW => ?_)
    obtain ⟨hr_6, hT, hs⟩ := p_5
    replace hT : hx_T T_tb L_2 h_3 := hT
    replace hs : hx_S T_tb [] L h L_2 h_3 := hs
    replace f_x_20 := (hs.o (gx.S hM) trivial rfl).1.trans f_x_20
    replace af_qdx : h_3.2.1 qdx = dxf := (funext fun j => (hs.a (gqdx.S hM) rfl j).1).trans af_qdx
    replace af_qdy : h_3.2.1 qdy = dyf := (funext fun j => (hs.a (gqdy.S hM) rfl j).1).trans af_qdy
    replace af_qbn : h_3.2.1 qbn = bnf := (funext fun j => (hs.a (gqbn.S hM) rfl j).1).trans af_qbn
    replace af_qki : h_3.2.1 qki = kkf := (funext fun j => (hs.a (gqki.S hM) rfl j).1).trans af_qki
    replace af_qea : h_3.2.1 qea = eaf := (funext fun j => (hs.a (gqea.S hM) rfl j).1).trans af_qea
    replace af_qhd : h_3.2.1 qhd = hdf := (funext fun j => (hs.a (gqhd.S hM) rfl j).1).trans af_qhd
    replace hM := hM.tr (hs.mono (by decide))
    refine hb_if_eq (zx := r_4.toInt) (tgt := 45) hx hb rfl dX10_person_19 (by decide) (fun c_7 => ?_) (fun c_7 => ?_)
    · skip
      replace hr_6 := hr_6.resolve_right (fun z9 => absurd (c_7.symm.trans z9.1) (by decide))
      replace hr_6 := hr_6.2
      refine lv_iconst (v := -1) hx hb dX10_person_45 (by decide) ?_
      exact hx_reti hx hb hr hlk hW ⟨⟨pn0, dxf, dyf, bnf, kkf, eaf, hdf, f_x_20, af_qdx, af_qdy, af_qbn, af_qki, af_qea, af_qhd, ⟨⟨(Or.inl ⟨by decide, by omega, by unfold hx_pcn; omega⟩), (Or.inl ⟨by decide, rfl⟩), (Or.inl ⟨by decide, rfl⟩), (Or.inl ⟨by decide, rfl⟩), (Or.inl ⟨by decide, rfl⟩)⟩, ⟨(Or.inl ⟨by decide, rfl⟩), (Or.inl ⟨by decide, rfl⟩)⟩⟩⟩, hT, hM⟩ dX10_person_46
    · skip
      replace hr_6 := hr_6.resolve_left (fun z9 => c_7 z9.1)
      replace c_7 := hr_6.1
      replace hr_6 := hr_6.2
      refine lv_iload_n hx hb dX10_person_22 rfl (lv_at hl 2 rfl) ?_
      refine lv_iload_n hx hb dX10_person_23 rfl (lv_at hl 3 rfl) ?_
      refine lv_iload hx hb dX10_person_24 (lv_at hl 4 rfl) ?_
      refine lv_iload hx hb dX10_person_26 (lv_at hl 5 rfl) ?_
      refine hx_goi (hx_runS (As := [.int i2, .int i3, .int i4, .int i5]) (rest := []) ⟨hx, hb, hml, hown, hts⟩ hW (t_X10_areLives_2 l dC dI dA L_2 h_3 H.size i2 i3 i4 i5 hT) (va_cwS 4 hts (hx_gS kw_1540 kw_1538 kw_1539 kw_103) rfl rfl rfl (by decide +kernel) ⟨Nat.le_of_ble_eq_true rfl, Nat.le_of_ble_eq_true rfl⟩) rfl hl.1 rfl (Nat.le_of_ble_eq_true rfl) dX10_person_28 ⟨Nat.le_of_ble_eq_true rfl, Nat.le_of_ble_eq_true rfl⟩) hW (fun r_10 L_8 h_9 H locs p_11 hW => ?_)
      obtain ⟨hr_12, hT, hs⟩ := p_11
      replace hT : hx_T T_tb L_8 h_9 := hT
      replace hs : hx_S T_tb [] L_2 h_3 L_8 h_9 := hs
      replace f_x_20 := (hs.o (gx.S hM) trivial rfl).1.trans f_x_20
      replace af_qdx : h_9.2.1 qdx = dxf := (funext fun j => (hs.a (gqdx.S hM) rfl j).1).trans af_qdx
      replace af_qdy : h_9.2.1 qdy = dyf := (funext fun j => (hs.a (gqdy.S hM) rfl j).1).trans af_qdy
      replace af_qbn : h_9.2.1 qbn = bnf := (funext fun j => (hs.a (gqbn.S hM) rfl j).1).trans af_qbn
      replace af_qki : h_9.2.1 qki = kkf := (funext fun j => (hs.a (gqki.S hM) rfl j).1).trans af_qki
      replace af_qea : h_9.2.1 qea = eaf := (funext fun j => (hs.a (gqea.S hM) rfl j).1).trans af_qea
      replace af_qhd : h_9.2.1 qhd = hdf := (funext fun j => (hs.a (gqhd.S hM) rfl j).1).trans af_qhd
      replace hM := hM.tr (hs.mono (by decide))
      refine hb_if_eq (zx := r_10.toInt) (tgt := 45) hx hb rfl dX10_person_31 (by decide) (fun c_13 => ?_) (fun c_13 => ?_)
      · skip
        refine lv_iconst (v := -1) hx hb dX10_person_45 (by decide) ?_
        exact hx_reti hx hb hr hlk hW ⟨⟨pn0, dxf, dyf, bnf, kkf, eaf, hdf, f_x_20, af_qdx, af_qdy, af_qbn, af_qki, af_qea, af_qhd, ⟨⟨(Or.inl ⟨by decide, by omega, by unfold hx_pcn; omega⟩), (Or.inl ⟨by decide, rfl⟩), (Or.inl ⟨by decide, rfl⟩), (Or.inl ⟨by decide, rfl⟩), (Or.inl ⟨by decide, rfl⟩)⟩, ⟨(Or.inl ⟨by decide, rfl⟩), (Or.inl ⟨by decide, rfl⟩)⟩⟩⟩, hT, hM⟩ dX10_person_46
      · skip
        refine lv_iload hx hb dX10_person_34 (lv_at hl 6 rfl) ?_
        refine lv_iconst (v := -1) hx hb dX10_person_36 (by decide) ?_
        refine lv_bipush (v := 19) hx hb dX10_person_37 (by decide) ?_
        have zc_19 : (19 : Int32).toInt = 19 := by decide
        have zc_m1 : (-1 : Int32).toInt = -1 := by decide
        refine hx_goi (hx_runS (As := [.int i6, .int (-1 : Int32), .int (19 : Int32)]) (rest := []) ⟨hx, hb, hml, hown, hts⟩ hW (t_X10_in l dC dI dA L_8 h_9 H.size i6 (-1 : Int32) (19 : Int32) hT) (va_cwS 3 hts (hx_gS kw_1445 kw_1443 kw_1444 kw_103) rfl rfl rfl (by decide +kernel) ⟨Nat.le_of_ble_eq_true rfl, Nat.le_of_ble_eq_true rfl⟩) rfl hl.1 rfl (Nat.le_of_ble_eq_true rfl) dX10_person_39 ⟨Nat.le_of_ble_eq_true rfl, Nat.le_of_ble_eq_true rfl⟩) hW (fun r_16 L_14 h_15 H locs p_17 hW => ?_)
        obtain ⟨hr_18, hT, hs⟩ := p_17
        replace hT : hx_T T_tb L_14 h_15 := hT
        replace hs : hx_S T_tb [] L_8 h_9 L_14 h_15 := hs
        replace f_x_20 := (hs.o (gx.S hM) trivial rfl).1.trans f_x_20
        replace af_qdx : h_15.2.1 qdx = dxf := (funext fun j => (hs.a (gqdx.S hM) rfl j).1).trans af_qdx
        replace af_qdy : h_15.2.1 qdy = dyf := (funext fun j => (hs.a (gqdy.S hM) rfl j).1).trans af_qdy
        replace af_qbn : h_15.2.1 qbn = bnf := (funext fun j => (hs.a (gqbn.S hM) rfl j).1).trans af_qbn
        replace af_qki : h_15.2.1 qki = kkf := (funext fun j => (hs.a (gqki.S hM) rfl j).1).trans af_qki
        replace af_qea : h_15.2.1 qea = eaf := (funext fun j => (hs.a (gqea.S hM) rfl j).1).trans af_qea
        replace af_qhd : h_15.2.1 qhd = hdf := (funext fun j => (hs.a (gqhd.S hM) rfl j).1).trans af_qhd
        replace hM := hM.tr (hs.mono (by decide))
        refine hb_if_ne (zx := r_16.toInt) (tgt := 47) hx hb rfl dX10_person_42 (by decide) (fun c_19 => ?_) (fun c_19 => ?_)
        · skip
          replace hr_18 := hr_18.resolve_left (fun z9 => c_19 z9.1)
          replace c_19 := hr_18.1
          replace hr_18 := hr_18.2
          refine lv_aload_n hx hb dX10_person_47 rfl (lv_at hl 0 rfl) ?_
          refine hk_getr hx hb hts hC_10 hown hW (gx.S hM) tt_10 21 (by decide) rfl kw_1164 ⟨rfl, rfl, rfl⟩ ((hM.o gx trivial rfl).2.trans f_x_21) dX10_person_48 ?_
          refine lv_aload_n hx hb dX10_person_51 rfl (lv_at hl 0 rfl) ?_
          refine hk_geti hx hb hts hC_10 hown hW (gx.S hM) tt_10 20 (by decide) rfl kw_1163 ⟨rfl, rfl, rfl⟩ f_x_20 dX10_person_52 ?_
          refine lv_iload_n hx hb dX10_person_55 rfl (lv_at hl 1 rfl) ?_
          have af_qbnO := af_qbn
          refine hx_iast hx hb hW hT (hx_S.rf (M := [(58, 0)])) (gqbn.S hM) tt_58 rfl ⟨by omega, by omega⟩ rfl ⟨by omega, by omega⟩ (List.mem_singleton.mpr rfl) dX10_person_56 (fun H locs h_20 eh_20 hW hT hs => ?_)
          replace f_x_20 := (hs.o (gx.S hM) trivial rfl).1.trans f_x_20
          replace af_qdx : h_20.2.1 qdx = dxf := (funext fun j => (hs.a (gqdx.S hM) rfl j).1).trans af_qdx
          replace af_qdy : h_20.2.1 qdy = dyf := (funext fun j => (hs.a (gqdy.S hM) rfl j).1).trans af_qdy
          replace af_qki : h_20.2.1 qki = kkf := (funext fun j => (hs.a (gqki.S hM) rfl j).1).trans af_qki
          replace af_qea : h_20.2.1 qea = eaf := (funext fun j => (hs.a (gqea.S hM) rfl j).1).trans af_qea
          replace af_qhd : h_20.2.1 qhd = hdf := (funext fun j => (hs.a (gqhd.S hM) rfl j).1).trans af_qhd
          replace hM := hM.tr (hs.mono (by decide))
          obtain ⟨fa_21, dfa_21⟩ : ∃ g : Nat → Int32, g = hx_up bnf pn0.toNatClampNeg i1 := ⟨_, rfl⟩
          have nfa_21 : h_20.2.1 qbn = fa_21 := by rw [eh_20, dfa_21, ← af_qbnO]; exact hx_pi_fun _ _ _ _
          refine lv_aload_n hx hb dX10_person_57 rfl (lv_at hl 0 rfl) ?_
          refine hk_getr hx hb hts hC_10 hown hW (gx.S hM) tt_10 26 (by decide) rfl kw_1169 ⟨rfl, rfl, rfl⟩ ((hM.o gx trivial rfl).2.trans f_x_26) dX10_person_58 ?_
          refine lv_aload_n hx hb dX10_person_61 rfl (lv_at hl 0 rfl) ?_
          refine hk_geti hx hb hts hC_10 hown hW (gx.S hM) tt_10 20 (by decide) rfl kw_1163 ⟨rfl, rfl, rfl⟩ f_x_20 dX10_person_62 ?_
          refine lv_iload hx hb dX10_person_65 (lv_at hl 6 rfl) ?_
          have af_qkiO := af_qki
          refine hx_iast hx hb hW hT (hx_S.rf (M := [(63, 0)])) (gqki.S hM) tt_63 rfl ⟨by omega, by omega⟩ rfl ⟨by omega, by omega⟩ (List.mem_singleton.mpr rfl) dX10_person_67 (fun H locs h_22 eh_22 hW hT hs => ?_)
          replace f_x_20 := (hs.o (gx.S hM) trivial rfl).1.trans f_x_20
          replace af_qdx : h_22.2.1 qdx = dxf := (funext fun j => (hs.a (gqdx.S hM) rfl j).1).trans af_qdx
          replace af_qdy : h_22.2.1 qdy = dyf := (funext fun j => (hs.a (gqdy.S hM) rfl j).1).trans af_qdy
          replace af_qea : h_22.2.1 qea = eaf := (funext fun j => (hs.a (gqea.S hM) rfl j).1).trans af_qea
          replace af_qhd : h_22.2.1 qhd = hdf := (funext fun j => (hs.a (gqhd.S hM) rfl j).1).trans af_qhd
          replace nfa_21 : h_22.2.1 qbn = fa_21 := (funext fun j => (hs.a (gqbn.S hM) rfl j).1).trans nfa_21
          replace hM := hM.tr (hs.mono (by decide))
          obtain ⟨fa_23, dfa_23⟩ : ∃ g : Nat → Int32, g = hx_up kkf pn0.toNatClampNeg i6 := ⟨_, rfl⟩
          have nfa_23 : h_22.2.1 qki = fa_23 := by rw [eh_22, dfa_23, ← af_qkiO]; exact hx_pi_fun _ _ _ _
          refine lv_aload_n hx hb dX10_person_68 rfl (lv_at hl 0 rfl) ?_
          refine lv_dup hx hb dX10_person_69 rfl ?_
          refine hk_geti hx hb hts hC_10 hown hW (gx.S hM) tt_10 20 (by decide) rfl kw_1163 ⟨rfl, rfl, rfl⟩ f_x_20 dX10_person_70 ?_
          refine lv_iconst (v := 1) hx hb dX10_person_73 (by decide) ?_
          refine lv_iadd hx hb dX10_person_74 ?_
          have rg_24 := i32_r pn0
          refine lv_topi (fun x_25 ex_25 => ?_)
          have zx_25 : x_25.toInt = pn0.toInt + 1 := by rw [ex_25]; exact i32_add rfl (by decide) (by omega) (by omega)
          refine hx_puti hx hb hts hC_10 hown hW hT (hx_S.rf (M := [(10, 20)])) (gx.S hM) tt_10 20 (by decide) rfl kw_1163 ⟨rfl, rfl, rfl⟩ rfl (x := x_25) ⟨by omega, by omega⟩ rfl rfl rfl (List.mem_singleton.mpr rfl) dX10_person_75 (fun H locs h_26 eh_26 hW hT hs => ?_)
          replace af_qdx : h_26.2.1 qdx = dxf := (funext fun j => (hs.a (gqdx.S hM) rfl j).1).trans af_qdx
          replace af_qdy : h_26.2.1 qdy = dyf := (funext fun j => (hs.a (gqdy.S hM) rfl j).1).trans af_qdy
          replace af_qea : h_26.2.1 qea = eaf := (funext fun j => (hs.a (gqea.S hM) rfl j).1).trans af_qea
          replace af_qhd : h_26.2.1 qhd = hdf := (funext fun j => (hs.a (gqhd.S hM) rfl j).1).trans af_qhd
          replace nfa_21 : h_26.2.1 qbn = fa_21 := (funext fun j => (hs.a (gqbn.S hM) rfl j).1).trans nfa_21
          replace nfa_23 : h_26.2.1 qki = fa_23 := (funext fun j => (hs.a (gqki.S hM) rfl j).1).trans nfa_23
          replace hM := hM.tr (hs.mono (by decide))
          have f_27 : h_26.2.1 x 20 = x_25 := by rw [eh_26]; exact hx_pi_at _ _ _ _
          refine lv_aload_n hx hb dX10_person_78 rfl (lv_at hl 0 rfl) ?_
          refine lv_aload_n hx hb dX10_person_79 rfl (lv_at hl 0 rfl) ?_
          refine hk_geti hx hb hts hC_10 hown hW (gx.S hM) tt_10 20 (by decide) rfl kw_1163 ⟨rfl, rfl, rfl⟩ f_27 dX10_person_80 ?_
          refine lv_iconst (v := 1) hx hb dX10_person_83 (by decide) ?_
          refine lv_isub hx hb dX10_person_84 ?_
          have rg_28 := i32_r x_25
          refine lv_topi (fun x_29 ex_29 => ?_)
          have zx_29 : x_29.toInt = x_25.toInt - 1 := by rw [ex_29]; exact i32_sub rfl (by decide) (by omega) (by omega)
          refine lv_iload_n hx hb dX10_person_85 rfl (lv_at hl 2 rfl) ?_
          refine lv_iload_n hx hb dX10_person_86 rfl (lv_at hl 3 rfl) ?_
          refine lv_iload hx hb dX10_person_87 (lv_at hl 4 rfl) ?_
          refine lv_iload hx hb dX10_person_89 (lv_at hl 5 rfl) ?_
          refine hx_gov (hx_runV (As := [.int x_29, .int i2, .int i3, .int i4, .int i5]) (rest := []) ⟨hx, hb, hml, hown, hts⟩ hW (gx.S hM) tt_10 (T := TX10) (N := 98) rfl (t_X10_lives_2 l dC dI dA L_14 h_26 H.size x x_29 i2 i3 i4 i5 hT (gx.S hM) qdx (gqdx.S hM) ((hM.o gx trivial rfl).2.trans f_x_24) qdy (gqdy.S hM) ((hM.o gx trivial rfl).2.trans f_x_25) qea (gqea.S hM) ((hM.o gx trivial rfl).2.trans f_x_22) qhd (gqhd.S hM) ((hM.o gx trivial rfl).2.trans f_x_23) dxf af_qdx dyf af_qdy eaf af_qea hdf af_qhd ⟨by omega, by omega⟩ ⟨by omega, by omega⟩ ⟨by omega, by omega⟩ ⟨by omega, by omega⟩ ⟨by omega, by omega⟩) (cwV 5 hts (hx_gV kw_1544 kw_1541 kw_1543 kw_67 kw_103) rfl rfl rfl (by decide +kernel) ⟨Nat.le_of_ble_eq_true rfl, Nat.le_of_ble_eq_true rfl⟩) rfl hl.1 rfl (Nat.le_of_ble_eq_true rfl) dX10_person_91 ⟨Nat.le_of_ble_eq_true rfl, Nat.le_of_ble_eq_true rfl⟩) hW (fun L_30 h_31 H locs p_33 hW => ?_)
          obtain ⟨⟨w_35, w_36, w_37, w_38, fw_35, fw_36, fw_37, fw_38, hr_34⟩, hT, hs⟩ := p_33
          replace hT : hx_T T_tb L_30 h_31 := hT
          replace hs : hx_S T_tb [(59, 0), (60, 0), (61, 0), (62, 0)] L_14 h_26 L_30 h_31 := hs
          replace f_27 := (hs.o (gx.S hM) trivial rfl).1.trans f_27
          replace nfa_21 : h_31.2.1 qbn = fa_21 := (funext fun j => (hs.a (gqbn.S hM) rfl j).1).trans nfa_21
          replace nfa_23 : h_31.2.1 qki = fa_23 := (funext fun j => (hs.a (gqki.S hM) rfl j).1).trans nfa_23
          replace hM := hM.tr (hs.mono (by decide))
          have fw_35 : h_31.2.1 qdx = w_35 := fw_35
          have fw_36 : h_31.2.1 qdy = w_36 := fw_36
          have fw_37 : h_31.2.1 qea = w_37 := fw_37
          have fw_38 : h_31.2.1 qhd = w_38 := fw_38
          obtain ⟨hr_34a, hr_34b⟩ := hr_34
          refine lv_aload_n hx hb dX10_person_94 rfl (lv_at hl 0 rfl) ?_
          refine hk_geti hx hb hts hC_10 hown hW (gx.S hM) tt_10 20 (by decide) rfl kw_1163 ⟨rfl, rfl, rfl⟩ f_27 dX10_person_95 ?_
          refine lv_iconst (v := 1) hx hb dX10_person_98 (by decide) ?_
          refine lv_isub hx hb dX10_person_99 ?_
          refine lv_topi (fun x_39 ex_39 => ?_)
          have zx_39 : x_39.toInt = x_25.toInt - 1 := by rw [ex_39]; exact i32_sub rfl (by decide) (by omega) (by omega)
          exact hx_reti hx hb hr hlk hW ⟨⟨x_25, w_35, w_36, fa_21, fa_23, w_37, w_38, f_27, fw_35, fw_36, nfa_21, nfa_23, fw_37, fw_38, ⟨⟨(Or.inr ⟨by omega, by omega, by unfold hx_pcn; omega⟩), (Or.inr ⟨by omega, by omega, (hr_34a.1.trans (congrArg (fun z => hx_up dxf z i4) (by omega)))⟩), (Or.inr ⟨by omega, by omega, (hr_34a.2.trans (congrArg (fun z => hx_up dyf z i5) (by omega)))⟩), (Or.inr ⟨by omega, by omega, dfa_21⟩), (Or.inr ⟨by omega, by omega, dfa_23⟩)⟩, ⟨(Or.inr ⟨by omega, by omega, (hr_34b.1.trans (congrArg (fun z => hx_up eaf z i2) (by omega)))⟩), (Or.inr ⟨by omega, by omega, (hr_34b.2.trans (congrArg (fun z => hx_up hdf z i3) (by omega)))⟩)⟩⟩⟩, hT, hM⟩ dX10_person_100
        · skip
          replace hr_18 := hr_18.resolve_right (fun z9 => absurd (c_19.symm.trans z9.1) (by decide))
          replace hr_18 := hr_18.2
          refine lv_iconst (v := -1) hx hb dX10_person_45 (by decide) ?_
          exact hx_reti hx hb hr hlk hW ⟨⟨pn0, dxf, dyf, bnf, kkf, eaf, hdf, f_x_20, af_qdx, af_qdy, af_qbn, af_qki, af_qea, af_qhd, ⟨⟨(Or.inl ⟨by decide, by omega, by unfold hx_pcn; omega⟩), (Or.inl ⟨by decide, rfl⟩), (Or.inl ⟨by decide, rfl⟩), (Or.inl ⟨by decide, rfl⟩), (Or.inl ⟨by decide, rfl⟩)⟩, ⟨(Or.inl ⟨by decide, rfl⟩), (Or.inl ⟨by decide, rfl⟩)⟩⟩⟩, hT, hM⟩ dX10_person_46


set_option maxHeartbeats 4000000 in
set_option maxRecDepth 100000 in
theorem t_X10_file_v (l : Launch) (dC : Nat → ClassId) (dI : Nat → Nat → Nat) (dA : Nat → ClassId) (L : List Nat) (h : hx_h) (sz : Nat) (x : Nat) (i1 : Int32) (i2 : Int32) (i3 : Int32) (i4 : Int32) (i5 : Int32) (i6 : Int32) (hT : hx_T T_tb L h) (gx : hx_g L h x 10) (qh : Nat) (gqh : hx_g L h qh 82) (f_x_47 : h.2.2 x 47 = some qh) (qc : Nat) (gqc : hx_g L h qc 79) (f_x_44 : h.2.2 x 44 = some qc) (qd : Nat) (gqd : hx_g L h qd 64) (f_x_27 : h.2.2 x 27 = some qd) (qf : Nat) (gqf : hx_g L h qf 81) (f_x_46 : h.2.2 x 46 = some qf) (qag : Nat) (gqag : hx_g L h qag 73) (f_x_38 : h.2.2 x 38 = some qag) (qby : Nat) (gqby : hx_g L h qby 72) (f_x_37 : h.2.2 x 37 = some qby) (qsu : Nat) (gqsu : hx_g L h qsu 74) (f_x_39 : h.2.2 x 39 = some qsu) (qow : Nat) (gqow : hx_g L h qow 75) (f_x_40 : h.2.2 x 40 = some qow) (qfl : Nat) (gqfl : hx_g L h qfl 78) (f_x_43 : h.2.2 x 43 = some qfl) (qnt : Nat) (gqnt : hx_g L h qnt 76) (f_x_41 : h.2.2 x 41 = some qnt) (qwt : Nat) (gqwt : hx_g L h qwt 77) (f_x_42 : h.2.2 x 42 = some qwt) (qbe : Nat) (gqbe : hx_g L h qbe 87) (f_x_52 : h.2.2 x 52 = some qbe) (qad : Nat) (gqad : hx_g L h qad 49) (f_x_2 : h.2.2 x 2 = some qad) (qrl : Nat) (gqrl : hx_g L h qrl 50) (f_x_3 : h.2.2 x 3 = some qrl) (qps : Nat) (gqps : hx_g L h qps 51) (f_x_4 : h.2.2 x 4 = some qps) (qpr : Nat) (gqpr : hx_g L h qpr 52) (f_x_5 : h.2.2 x 5 = some qpr) (qod : Nat) (gqod : hx_g L h qod 83) (f_x_48 : h.2.2 x 48 = some qod) (qsz : Nat) (gqsz : hx_g L h qsz 84) (f_x_49 : h.2.2 x 49 = some qsz) (qsv : Nat) (gqsv : hx_g L h qsv 85) (f_x_50 : h.2.2 x 50 = some qsv) (hf : Nat → Int32) (af_qh : h.2.1 qh = hf) (plf : Nat → Int32) (af_qc : h.2.1 qc = plf) (df : Nat → Int32) (af_qd : h.2.1 qd = df) (ff : Nat → Int32) (af_qf : h.2.1 qf = ff) (agf : Nat → Int32) (af_qag : h.2.1 qag = agf) (byf : Nat → Int32) (af_qby : h.2.1 qby = byf) (smf : Nat → Int32) (af_qsu : h.2.1 qsu = smf) (frf : Nat → Int32) (af_qow : h.2.1 qow = frf) (flf : Nat → Int32) (af_qfl : h.2.1 qfl = flf) (ntf : Nat → Int32) (af_qnt : h.2.1 qnt = ntf) (wtf : Nat → Int32) (af_qwt : h.2.1 qwt = wtf) (bnh : Nat → Int32) (af_qbe : h.2.1 qbe = bnh) (adf : Nat → Int32) (af_qad : h.2.1 qad = adf) (rlf : Nat → Int32) (af_qrl : h.2.1 qrl = rlf) (psf : Nat → Int32) (af_qps : h.2.1 qps = psf) (prf : Nat → Int32) (af_qpr : h.2.1 qpr = prf) (odf : Nat → Int32) (af_qod : h.2.1 qod = odf) (szf : Nat → Int32) (af_qsz : h.2.1 qsz = szf) (svf : Nat → Int32) (af_qsv : h.2.1 qsv = svf) (a0 : Int32) (f_x_1 : h.2.1 x 1 = a0) (c0 : Int32) (f_x_36 : h.2.1 x 36 = c0) (m0 : Int32) (f_x_57 : h.2.1 x 57 = m0) (pn0 : Int32) (f_x_20 : h.2.1 x 20 = pn0) (nw0 : Int32) (f_x_0 : h.2.1 x 0 = nw0) (A : Nat → hv_act) (hCA : hv_CA adf rlf psf prf a0.toInt A) (hPL : hx_PL plf c0.toInt a0.toInt) (hHC : m0.toInt = hx_hc hf c0.toInt.toNat) (hi5 : 0 ≤ i5.toInt ∧ i5.toInt ≤ 1) : Met l yX10_file (Cond.code yX10_file cX10_file 9 (some .int) :: hx_all) ({ frames := 2, cells := 0, slots := 0, locals := 43 }) (va_Pc [.ref x, .int i1, .int i2, .int i3, .int i4, .int i5, .int i6] (hx_B T_tb (P_ty dA) (dC, dI) vwCl L h sz)) (va_Qi (fun (r : Int32) (u : List Nat × hx_h) => (∃ (cn1 : Int32) (hf1 : Nat → Int32) (plf1 : Nat → Int32) (ff1 : Nat → Int32) (agf1 : Nat → Int32) (byf1 : Nat → Int32) (smf1 : Nat → Int32) (frf1 : Nat → Int32) (flf1 : Nat → Int32) (ntf1 : Nat → Int32) (wtf1 : Nat → Int32) (bnh1 : Nat → Int32) (odf1 : Nat → Int32) (szf1 : Nat → Int32) (svf1 : Nat → Int32), u.2.2.1 x 36 = cn1 ∧ u.2.2.1 qh = hf1 ∧ u.2.2.1 qc = plf1 ∧ u.2.2.1 qf = ff1 ∧ u.2.2.1 qag = agf1 ∧ u.2.2.1 qby = byf1 ∧ u.2.2.1 qsu = smf1 ∧ u.2.2.1 qow = frf1 ∧ u.2.2.1 qfl = flf1 ∧ u.2.2.1 qnt = ntf1 ∧ u.2.2.1 qwt = wtf1 ∧ u.2.2.1 qbe = bnh1 ∧ u.2.2.1 qod = odf1 ∧ u.2.2.1 qsz = szf1 ∧ u.2.2.1 qsv = svf1 ∧ ((m0.toInt = hx_hc hf1 cn1.toInt.toNat ∧ hx_PL plf1 cn1.toInt a0.toInt ∧ (hx_FS c0.toInt pn0.toInt nw0.toInt i1.toInt i2.toInt i3.toInt i4.toInt i6.toInt df r.toInt cn1.toInt) ∧ hx_CD c0.toInt r.toInt (-1) ff ff1 ∧ ((cn1.toInt = c0.toInt ∧ hf1 = hf ∧ ff1 = ff) ∨ (cn1.toInt = c0.toInt + 1 ∧ hf1 = hx_up hf c0.toInt.toNat (-1) ∧ ff1 = hx_up ff c0.toInt.toNat (-1))) ∧ hw_UP r.toInt c0.toInt i2 agf agf1 ∧ hx_CD c0.toInt r.toInt (-1) hf hf1 ∧ hw_UP r.toInt c0.toInt i1 byf byf1 ∧ hx_CD c0.toInt r.toInt i3 smf smf1 ∧ hx_CD c0.toInt r.toInt i4 frf frf1 ∧ hx_CD c0.toInt r.toInt nw0 flf flf1 ∧ hw_UP r.toInt c0.toInt i5 ntf ntf1 ∧ hw_UP r.toInt c0.toInt i6 wtf wtf1 ∧ (∃ pv : Int32, pv.toInt = ((hv_IF A nw0.toInt a0.toInt.toNat : Nat) : Int) ∧ hw_UP r.toInt c0.toInt pv plf plf1) ∧ hv_BU r.toInt c0.toInt bnh bnh1) ∧ (hx_CD c0.toInt r.toInt (-1) odf odf1 ∧ hx_CD c0.toInt r.toInt (-1) szf szf1 ∧ hx_CD c0.toInt r.toInt (-1) svf svf1))) ∧ hx_T T_tb u.1 u.2 ∧ hx_S T_tb [(10, 36), (72, 0), (73, 0), (74, 0), (75, 0), (76, 0), (77, 0), (78, 0), (79, 0), (81, 0), (82, 0), (83, 0), (84, 0), (85, 0), (87, 0)] L h u.1 u.2) (hx_E T_tb (P_ty dA) (dC, dI) vwCl (hx_A L sz)) (hx_A L sz)) 0 0 (hx_A L sz) := by
  refine hx_met (lv := [(0, .ref x), (1, .int i1), (2, .int i2), (3, .int i3), (4, .int i4), (5, .int i5), (6, .int i6)]) (by decide +kernel) rfl (Nat.le_of_ble_eq_true rfl) rfl ?_
  intro p e s m below meth c hx hb hml hr hlk hts0 hown hin hsz hW ls hl
  have hts : ∀ w ∈ hx_all, w.before _ s = true := fun w hw => hts0 w (List.mem_cons_of_mem _ hw)
  have hown : s.vm.findClass "SmallCourtModel" = some m.cls := hown
  have hM : hx_S T_tb [(10, 36), (72, 0), (73, 0), (74, 0), (75, 0), (76, 0), (77, 0), (78, 0), (79, 0), (81, 0), (82, 0), (83, 0), (84, 0), (85, 0), (87, 0)] L h L h := hx_S.rf
  have b_a0 := hT.gi gx tt_10 (k := 1) rfl
  rw [f_x_1] at b_a0
  have b_a0 : 0 ≤ a0.toInt ∧ a0.toInt ≤ 8 := b_a0
  have b_c0 := hT.gi gx tt_10 (k := 36) rfl
  rw [f_x_36] at b_c0
  have b_c0 : 0 ≤ c0.toInt ∧ c0.toInt ≤ 100 := b_c0
  have b_m0 := hT.gi gx tt_10 (k := 57) rfl
  rw [f_x_57] at b_m0
  have b_m0 : 0 ≤ m0.toInt ∧ m0.toInt ≤ 100 := b_m0
  have b_pn0 := hT.gi gx tt_10 (k := 20) rfl
  rw [f_x_20] at b_pn0
  have b_pn0 : 0 ≤ pn0.toInt ∧ pn0.toInt ≤ 40 := b_pn0
  have b_nw0 := hT.gi gx tt_10 (k := 0) rfl
  rw [f_x_0] at b_nw0
  have b_nw0 : 0 ≤ nw0.toInt ∧ nw0.toInt ≤ 7999 := b_nw0
  have hkb9 := hv_IF_b (A := A) (d := nw0.toInt) a0.toInt.toNat
  obtain ⟨pv9, hpv9⟩ : ∃ v : Int32, v.toInt = ((hv_IF A nw0.toInt a0.toInt.toNat : Nat) : Int) := ⟨Int32.ofNat (hv_IF A nw0.toInt a0.toInt.toNat), by rw [Int32.toInt_ofNat_of_lt (by omega)]⟩
  refine lv_aload_n hx hb dX10_file_0 rfl (lv_at hl 0 rfl) ?_
  refine hk_geti hx hb hts hC_10 hown hW (gx.S hM) tt_10 36 (by decide) rfl kw_1179 ⟨rfl, rfl, rfl⟩ f_x_36 dX10_file_1 ?_
  refine lv_bipush (v := 100) hx hb dX10_file_4 (by decide) ?_
  refine hb_icmp_eq (zx := c0.toInt) (zy := 100) (tgt := 74) hx hb rfl (by decide) dX10_file_6 (by decide) (fun c_1 => ?_) (fun c_1 => ?_)
  · skip
    refine lv_iconst (v := -1) hx hb dX10_file_74 (by decide) ?_
    exact hx_reti hx hb hr hlk hW ⟨⟨c0, hf, plf, ff, agf, byf, smf, frf, flf, ntf, wtf, bnh, odf, szf, svf, f_x_36, af_qh, af_qc, af_qf, af_qag, af_qby, af_qsu, af_qow, af_qfl, af_qnt, af_qwt, af_qbe, af_qod, af_qsz, af_qsv, ⟨⟨hHC, hPL, (Or.inl ⟨by decide, by omega, fun hc => by unfold hx_FC at hc; omega⟩), (Or.inl ⟨by decide, rfl⟩), (Or.inl ⟨by omega, rfl, rfl⟩), (Or.inl ⟨by decide, rfl⟩), (Or.inl ⟨by decide, rfl⟩), (Or.inl ⟨by decide, rfl⟩), (Or.inl ⟨by decide, rfl⟩), (Or.inl ⟨by decide, rfl⟩), (Or.inl ⟨by decide, rfl⟩), (Or.inl ⟨by decide, rfl⟩), (Or.inl ⟨by decide, rfl⟩), ⟨pv9, hpv9, (Or.inl ⟨by decide, rfl⟩)⟩, (Or.inl ⟨by decide, rfl⟩)⟩, ⟨(Or.inl ⟨by decide, rfl⟩), (Or.inl ⟨by decide, rfl⟩), (Or.inl ⟨by decide, rfl⟩)⟩⟩⟩, hT, hM⟩ dX10_file_75
  · skip
    refine lv_aload_n hx hb dX10_file_9 rfl (lv_at hl 0 rfl) ?_
    refine lv_iload_n hx hb dX10_file_10 rfl (lv_at hl 1 rfl) ?_
    refine hx_goi (hx_runV (As := [.int i1]) (rest := []) ⟨hx, hb, hml, hown, hts⟩ hW (gx.S hM) tt_10 (T := TX10) (N := 98) rfl (t_X10_isPerson l dC dI dA L h s.heap.size x i1 hT (gx.S hM) pn0 ((hM.o gx trivial rfl).1.trans f_x_20)) (cwV 1 hts (hx_gV kw_1552 kw_1549 kw_1551 kw_68 kw_103) rfl rfl rfl (by decide +kernel) ⟨Nat.le_of_ble_eq_true rfl, Nat.le_of_ble_eq_true rfl⟩) rfl hl.1 rfl (Nat.le_of_ble_eq_true rfl) dX10_file_11 ⟨Nat.le_of_ble_eq_true rfl, Nat.le_of_ble_eq_true rfl⟩) hW (fun r_4 L_2 h_3 H locs p_5 hW => ?_)
    obtain ⟨hr_6, hT, hs⟩ := p_5
    replace hT : hx_T T_tb L_2 h_3 := hT
    replace hs : hx_S T_tb [] L h L_2 h_3 := hs
    replace f_x_36 := (hs.o (gx.S hM) trivial rfl).1.trans f_x_36
    replace af_qh : h_3.2.1 qh = hf := (funext fun j => (hs.a (gqh.S hM) rfl j).1).trans af_qh
    replace af_qc : h_3.2.1 qc = plf := (funext fun j => (hs.a (gqc.S hM) rfl j).1).trans af_qc
    replace af_qf : h_3.2.1 qf = ff := (funext fun j => (hs.a (gqf.S hM) rfl j).1).trans af_qf
    replace af_qag : h_3.2.1 qag = agf := (funext fun j => (hs.a (gqag.S hM) rfl j).1).trans af_qag
    replace af_qby : h_3.2.1 qby = byf := (funext fun j => (hs.a (gqby.S hM) rfl j).1).trans af_qby
    replace af_qsu : h_3.2.1 qsu = smf := (funext fun j => (hs.a (gqsu.S hM) rfl j).1).trans af_qsu
    replace af_qow : h_3.2.1 qow = frf := (funext fun j => (hs.a (gqow.S hM) rfl j).1).trans af_qow
    replace af_qfl : h_3.2.1 qfl = flf := (funext fun j => (hs.a (gqfl.S hM) rfl j).1).trans af_qfl
    replace af_qnt : h_3.2.1 qnt = ntf := (funext fun j => (hs.a (gqnt.S hM) rfl j).1).trans af_qnt
    replace af_qwt : h_3.2.1 qwt = wtf := (funext fun j => (hs.a (gqwt.S hM) rfl j).1).trans af_qwt
    replace af_qbe : h_3.2.1 qbe = bnh := (funext fun j => (hs.a (gqbe.S hM) rfl j).1).trans af_qbe
    replace af_qod : h_3.2.1 qod = odf := (funext fun j => (hs.a (gqod.S hM) rfl j).1).trans af_qod
    replace af_qsz : h_3.2.1 qsz = szf := (funext fun j => (hs.a (gqsz.S hM) rfl j).1).trans af_qsz
    replace af_qsv : h_3.2.1 qsv = svf := (funext fun j => (hs.a (gqsv.S hM) rfl j).1).trans af_qsv
    replace hM := hM.tr (hs.mono (by decide))
    refine hb_if_eq (zx := r_4.toInt) (tgt := 74) hx hb rfl dX10_file_14 (by decide) (fun c_7 => ?_) (fun c_7 => ?_)
    · skip
      replace hr_6 := hr_6.resolve_right (fun z9 => absurd (c_7.symm.trans z9.1) (by decide))
      replace hr_6 := hr_6.2
      refine lv_iconst (v := -1) hx hb dX10_file_74 (by decide) ?_
      exact hx_reti hx hb hr hlk hW ⟨⟨c0, hf, plf, ff, agf, byf, smf, frf, flf, ntf, wtf, bnh, odf, szf, svf, f_x_36, af_qh, af_qc, af_qf, af_qag, af_qby, af_qsu, af_qow, af_qfl, af_qnt, af_qwt, af_qbe, af_qod, af_qsz, af_qsv, ⟨⟨hHC, hPL, (Or.inl ⟨by decide, by omega, fun hc => by unfold hx_FC at hc; omega⟩), (Or.inl ⟨by decide, rfl⟩), (Or.inl ⟨by omega, rfl, rfl⟩), (Or.inl ⟨by decide, rfl⟩), (Or.inl ⟨by decide, rfl⟩), (Or.inl ⟨by decide, rfl⟩), (Or.inl ⟨by decide, rfl⟩), (Or.inl ⟨by decide, rfl⟩), (Or.inl ⟨by decide, rfl⟩), (Or.inl ⟨by decide, rfl⟩), (Or.inl ⟨by decide, rfl⟩), ⟨pv9, hpv9, (Or.inl ⟨by decide, rfl⟩)⟩, (Or.inl ⟨by decide, rfl⟩)⟩, ⟨(Or.inl ⟨by decide, rfl⟩), (Or.inl ⟨by decide, rfl⟩), (Or.inl ⟨by decide, rfl⟩)⟩⟩⟩, hT, hM⟩ dX10_file_75
    · skip
      replace hr_6 := hr_6.resolve_left (fun z9 => c_7 z9.1)
      replace c_7 := hr_6.1
      replace hr_6 := hr_6.2
      refine lv_aload_n hx hb dX10_file_17 rfl (lv_at hl 0 rfl) ?_
      refine lv_iload_n hx hb dX10_file_18 rfl (lv_at hl 2 rfl) ?_
      refine hx_goi (hx_runV (As := [.int i2]) (rest := []) ⟨hx, hb, hml, hown, hts⟩ hW (gx.S hM) tt_10 (T := TX10) (N := 98) rfl (t_X10_isPerson l dC dI dA L_2 h_3 H.size x i2 hT (gx.S hM) pn0 ((hM.o gx trivial rfl).1.trans f_x_20)) (cwV 1 hts (hx_gV kw_1552 kw_1549 kw_1551 kw_68 kw_103) rfl rfl rfl (by decide +kernel) ⟨Nat.le_of_ble_eq_true rfl, Nat.le_of_ble_eq_true rfl⟩) rfl hl.1 rfl (Nat.le_of_ble_eq_true rfl) dX10_file_19 ⟨Nat.le_of_ble_eq_true rfl, Nat.le_of_ble_eq_true rfl⟩) hW (fun r_10 L_8 h_9 H locs p_11 hW => ?_)
      obtain ⟨hr_12, hT, hs⟩ := p_11
      replace hT : hx_T T_tb L_8 h_9 := hT
      replace hs : hx_S T_tb [] L_2 h_3 L_8 h_9 := hs
      replace f_x_36 := (hs.o (gx.S hM) trivial rfl).1.trans f_x_36
      replace af_qh : h_9.2.1 qh = hf := (funext fun j => (hs.a (gqh.S hM) rfl j).1).trans af_qh
      replace af_qc : h_9.2.1 qc = plf := (funext fun j => (hs.a (gqc.S hM) rfl j).1).trans af_qc
      replace af_qf : h_9.2.1 qf = ff := (funext fun j => (hs.a (gqf.S hM) rfl j).1).trans af_qf
      replace af_qag : h_9.2.1 qag = agf := (funext fun j => (hs.a (gqag.S hM) rfl j).1).trans af_qag
      replace af_qby : h_9.2.1 qby = byf := (funext fun j => (hs.a (gqby.S hM) rfl j).1).trans af_qby
      replace af_qsu : h_9.2.1 qsu = smf := (funext fun j => (hs.a (gqsu.S hM) rfl j).1).trans af_qsu
      replace af_qow : h_9.2.1 qow = frf := (funext fun j => (hs.a (gqow.S hM) rfl j).1).trans af_qow
      replace af_qfl : h_9.2.1 qfl = flf := (funext fun j => (hs.a (gqfl.S hM) rfl j).1).trans af_qfl
      replace af_qnt : h_9.2.1 qnt = ntf := (funext fun j => (hs.a (gqnt.S hM) rfl j).1).trans af_qnt
      replace af_qwt : h_9.2.1 qwt = wtf := (funext fun j => (hs.a (gqwt.S hM) rfl j).1).trans af_qwt
      replace af_qbe : h_9.2.1 qbe = bnh := (funext fun j => (hs.a (gqbe.S hM) rfl j).1).trans af_qbe
      replace af_qod : h_9.2.1 qod = odf := (funext fun j => (hs.a (gqod.S hM) rfl j).1).trans af_qod
      replace af_qsz : h_9.2.1 qsz = szf := (funext fun j => (hs.a (gqsz.S hM) rfl j).1).trans af_qsz
      replace af_qsv : h_9.2.1 qsv = svf := (funext fun j => (hs.a (gqsv.S hM) rfl j).1).trans af_qsv
      replace hM := hM.tr (hs.mono (by decide))
      refine hb_if_eq (zx := r_10.toInt) (tgt := 74) hx hb rfl dX10_file_22 (by decide) (fun c_13 => ?_) (fun c_13 => ?_)
      · skip
        replace hr_12 := hr_12.resolve_right (fun z9 => absurd (c_13.symm.trans z9.1) (by decide))
        replace hr_12 := hr_12.2
        refine lv_iconst (v := -1) hx hb dX10_file_74 (by decide) ?_
        exact hx_reti hx hb hr hlk hW ⟨⟨c0, hf, plf, ff, agf, byf, smf, frf, flf, ntf, wtf, bnh, odf, szf, svf, f_x_36, af_qh, af_qc, af_qf, af_qag, af_qby, af_qsu, af_qow, af_qfl, af_qnt, af_qwt, af_qbe, af_qod, af_qsz, af_qsv, ⟨⟨hHC, hPL, (Or.inl ⟨by decide, by omega, fun hc => by unfold hx_FC at hc; omega⟩), (Or.inl ⟨by decide, rfl⟩), (Or.inl ⟨by omega, rfl, rfl⟩), (Or.inl ⟨by decide, rfl⟩), (Or.inl ⟨by decide, rfl⟩), (Or.inl ⟨by decide, rfl⟩), (Or.inl ⟨by decide, rfl⟩), (Or.inl ⟨by decide, rfl⟩), (Or.inl ⟨by decide, rfl⟩), (Or.inl ⟨by decide, rfl⟩), (Or.inl ⟨by decide, rfl⟩), ⟨pv9, hpv9, (Or.inl ⟨by decide, rfl⟩)⟩, (Or.inl ⟨by decide, rfl⟩)⟩, ⟨(Or.inl ⟨by decide, rfl⟩), (Or.inl ⟨by decide, rfl⟩), (Or.inl ⟨by decide, rfl⟩)⟩⟩⟩, hT, hM⟩ dX10_file_75
      · skip
        replace hr_12 := hr_12.resolve_left (fun z9 => c_13 z9.1)
        replace c_13 := hr_12.1
        replace hr_12 := hr_12.2
        refine lv_iload_n hx hb dX10_file_25 rfl (lv_at hl 1 rfl) ?_
        refine lv_iload_n hx hb dX10_file_26 rfl (lv_at hl 2 rfl) ?_
        refine hb_icmp_eq (zx := i1.toInt) (zy := i2.toInt) (tgt := 74) hx hb rfl rfl dX10_file_27 (by decide) (fun c_14 => ?_) (fun c_14 => ?_)
        · skip
          refine lv_iconst (v := -1) hx hb dX10_file_74 (by decide) ?_
          exact hx_reti hx hb hr hlk hW ⟨⟨c0, hf, plf, ff, agf, byf, smf, frf, flf, ntf, wtf, bnh, odf, szf, svf, f_x_36, af_qh, af_qc, af_qf, af_qag, af_qby, af_qsu, af_qow, af_qfl, af_qnt, af_qwt, af_qbe, af_qod, af_qsz, af_qsv, ⟨⟨hHC, hPL, (Or.inl ⟨by decide, by omega, fun hc => by unfold hx_FC at hc; omega⟩), (Or.inl ⟨by decide, rfl⟩), (Or.inl ⟨by omega, rfl, rfl⟩), (Or.inl ⟨by decide, rfl⟩), (Or.inl ⟨by decide, rfl⟩), (Or.inl ⟨by decide, rfl⟩), (Or.inl ⟨by decide, rfl⟩), (Or.inl ⟨by decide, rfl⟩), (Or.inl ⟨by decide, rfl⟩), (Or.inl ⟨by decide, rfl⟩), (Or.inl ⟨by decide, rfl⟩), ⟨pv9, hpv9, (Or.inl ⟨by decide, rfl⟩)⟩, (Or.inl ⟨by decide, rfl⟩)⟩, ⟨(Or.inl ⟨by decide, rfl⟩), (Or.inl ⟨by decide, rfl⟩), (Or.inl ⟨by decide, rfl⟩)⟩⟩⟩, hT, hM⟩ dX10_file_75
        · skip
          refine lv_aload_n hx hb dX10_file_30 rfl (lv_at hl 0 rfl) ?_
          refine hk_getr hx hb hts hC_10 hown hW (gx.S hM) tt_10 27 (by decide) rfl kw_1170 ⟨rfl, rfl, rfl⟩ ((hM.o gx trivial rfl).2.trans f_x_27) dX10_file_31 ?_
          refine lv_iload_n hx hb dX10_file_34 rfl (lv_at hl 2 rfl) ?_
          refine hx_zald hx hb hW hT (gqd.S hM) tt_64 rfl ⟨by omega, by omega⟩ dX10_file_35 (fun x_15 ex_15 lx_15 ux_15 => ?_)
          have ax_15 : x_15 = df i2.toNatClampNeg := ex_15.trans (congrFun (hx_afS hM gqd rfl af_qd) _)
          refine hb_if_ne (zx := x_15.toInt) (tgt := 74) hx hb rfl dX10_file_36 (by decide) (fun c_16 => ?_) (fun c_16 => ?_)
          · skip
            refine lv_iconst (v := -1) hx hb dX10_file_74 (by decide) ?_
            exact hx_reti hx hb hr hlk hW ⟨⟨c0, hf, plf, ff, agf, byf, smf, frf, flf, ntf, wtf, bnh, odf, szf, svf, f_x_36, af_qh, af_qc, af_qf, af_qag, af_qby, af_qsu, af_qow, af_qfl, af_qnt, af_qwt, af_qbe, af_qod, af_qsz, af_qsv, ⟨⟨hHC, hPL, (Or.inl ⟨by decide, by omega, fun hc => by unfold hx_FC at hc; have h1 : (df i2.toNatClampNeg).toInt = 0 := hc.2.2.2.2.1; rw [← ax_15] at h1; omega⟩), (Or.inl ⟨by decide, rfl⟩), (Or.inl ⟨by omega, rfl, rfl⟩), (Or.inl ⟨by decide, rfl⟩), (Or.inl ⟨by decide, rfl⟩), (Or.inl ⟨by decide, rfl⟩), (Or.inl ⟨by decide, rfl⟩), (Or.inl ⟨by decide, rfl⟩), (Or.inl ⟨by decide, rfl⟩), (Or.inl ⟨by decide, rfl⟩), (Or.inl ⟨by decide, rfl⟩), ⟨pv9, hpv9, (Or.inl ⟨by decide, rfl⟩)⟩, (Or.inl ⟨by decide, rfl⟩)⟩, ⟨(Or.inl ⟨by decide, rfl⟩), (Or.inl ⟨by decide, rfl⟩), (Or.inl ⟨by decide, rfl⟩)⟩⟩⟩, hT, hM⟩ dX10_file_75
          · skip
            refine lv_iload_n hx hb dX10_file_39 rfl (lv_at hl 3 rfl) ?_
            refine lv_iconst (v := 1) hx hb dX10_file_40 (by decide) ?_
            refine lv_sipush (v := 9999) hx hb dX10_file_41 (by decide) ?_
            have zc_9999 : (9999 : Int32).toInt = 9999 := by decide
            have zc_1 : (1 : Int32).toInt = 1 := by decide
            refine hx_goi (hx_runS (As := [.int i3, .int (1 : Int32), .int (9999 : Int32)]) (rest := []) ⟨hx, hb, hml, hown, hts⟩ hW (t_X10_in l dC dI dA L_8 h_9 H.size i3 (1 : Int32) (9999 : Int32) hT) (va_cwS 3 hts (hx_gS kw_1445 kw_1443 kw_1444 kw_103) rfl rfl rfl (by decide +kernel) ⟨Nat.le_of_ble_eq_true rfl, Nat.le_of_ble_eq_true rfl⟩) rfl hl.1 rfl (Nat.le_of_ble_eq_true rfl) dX10_file_44 ⟨Nat.le_of_ble_eq_true rfl, Nat.le_of_ble_eq_true rfl⟩) hW (fun r_19 L_17 h_18 H locs p_20 hW => ?_)
            obtain ⟨hr_21, hT, hs⟩ := p_20
            replace hT : hx_T T_tb L_17 h_18 := hT
            replace hs : hx_S T_tb [] L_8 h_9 L_17 h_18 := hs
            replace f_x_36 := (hs.o (gx.S hM) trivial rfl).1.trans f_x_36
            replace af_qh : h_18.2.1 qh = hf := (funext fun j => (hs.a (gqh.S hM) rfl j).1).trans af_qh
            replace af_qc : h_18.2.1 qc = plf := (funext fun j => (hs.a (gqc.S hM) rfl j).1).trans af_qc
            replace af_qf : h_18.2.1 qf = ff := (funext fun j => (hs.a (gqf.S hM) rfl j).1).trans af_qf
            replace af_qag : h_18.2.1 qag = agf := (funext fun j => (hs.a (gqag.S hM) rfl j).1).trans af_qag
            replace af_qby : h_18.2.1 qby = byf := (funext fun j => (hs.a (gqby.S hM) rfl j).1).trans af_qby
            replace af_qsu : h_18.2.1 qsu = smf := (funext fun j => (hs.a (gqsu.S hM) rfl j).1).trans af_qsu
            replace af_qow : h_18.2.1 qow = frf := (funext fun j => (hs.a (gqow.S hM) rfl j).1).trans af_qow
            replace af_qfl : h_18.2.1 qfl = flf := (funext fun j => (hs.a (gqfl.S hM) rfl j).1).trans af_qfl
            replace af_qnt : h_18.2.1 qnt = ntf := (funext fun j => (hs.a (gqnt.S hM) rfl j).1).trans af_qnt
            replace af_qwt : h_18.2.1 qwt = wtf := (funext fun j => (hs.a (gqwt.S hM) rfl j).1).trans af_qwt
            replace af_qbe : h_18.2.1 qbe = bnh := (funext fun j => (hs.a (gqbe.S hM) rfl j).1).trans af_qbe
            replace af_qod : h_18.2.1 qod = odf := (funext fun j => (hs.a (gqod.S hM) rfl j).1).trans af_qod
            replace af_qsz : h_18.2.1 qsz = szf := (funext fun j => (hs.a (gqsz.S hM) rfl j).1).trans af_qsz
            replace af_qsv : h_18.2.1 qsv = svf := (funext fun j => (hs.a (gqsv.S hM) rfl j).1).trans af_qsv
            replace ex_15 := ex_15.trans (hs.a (gqd.S hM) rfl _).1.symm
            replace hM := hM.tr (hs.mono (by decide))
            refine hb_if_eq (zx := r_19.toInt) (tgt := 74) hx hb rfl dX10_file_47 (by decide) (fun c_22 => ?_) (fun c_22 => ?_)
            · skip
              replace hr_21 := hr_21.resolve_right (fun z9 => absurd (c_22.symm.trans z9.1) (by decide))
              replace hr_21 := hr_21.2
              refine lv_iconst (v := -1) hx hb dX10_file_74 (by decide) ?_
              exact hx_reti hx hb hr hlk hW ⟨⟨c0, hf, plf, ff, agf, byf, smf, frf, flf, ntf, wtf, bnh, odf, szf, svf, f_x_36, af_qh, af_qc, af_qf, af_qag, af_qby, af_qsu, af_qow, af_qfl, af_qnt, af_qwt, af_qbe, af_qod, af_qsz, af_qsv, ⟨⟨hHC, hPL, (Or.inl ⟨by decide, by omega, fun hc => by unfold hx_FC at hc; have h1 : (df i2.toNatClampNeg).toInt = 0 := hc.2.2.2.2.1; rw [← ax_15] at h1; omega⟩), (Or.inl ⟨by decide, rfl⟩), (Or.inl ⟨by omega, rfl, rfl⟩), (Or.inl ⟨by decide, rfl⟩), (Or.inl ⟨by decide, rfl⟩), (Or.inl ⟨by decide, rfl⟩), (Or.inl ⟨by decide, rfl⟩), (Or.inl ⟨by decide, rfl⟩), (Or.inl ⟨by decide, rfl⟩), (Or.inl ⟨by decide, rfl⟩), (Or.inl ⟨by decide, rfl⟩), ⟨pv9, hpv9, (Or.inl ⟨by decide, rfl⟩)⟩, (Or.inl ⟨by decide, rfl⟩)⟩, ⟨(Or.inl ⟨by decide, rfl⟩), (Or.inl ⟨by decide, rfl⟩), (Or.inl ⟨by decide, rfl⟩)⟩⟩⟩, hT, hM⟩ dX10_file_75
            · skip
              replace hr_21 := hr_21.resolve_left (fun z9 => c_22 z9.1)
              replace c_22 := hr_21.1
              replace hr_21 := hr_21.2
              refine lv_iload hx hb dX10_file_50 (lv_at hl 4 rfl) ?_
              refine lv_iconst (v := 0) hx hb dX10_file_52 (by decide) ?_
              refine lv_aload_n hx hb dX10_file_53 rfl (lv_at hl 0 rfl) ?_
              refine hk_geti hx hb hts hC_10 hown hW (gx.S hM) tt_10 0 (by decide) rfl kw_1143 ⟨rfl, rfl, rfl⟩ ((hM.o gx trivial rfl).1.trans f_x_0) dX10_file_54 ?_
              have zc_0 : (0 : Int32).toInt = 0 := by decide
              refine hx_goi (hx_runS (As := [.int i4, .int (0 : Int32), .int nw0]) (rest := []) ⟨hx, hb, hml, hown, hts⟩ hW (t_X10_in l dC dI dA L_17 h_18 H.size i4 (0 : Int32) nw0 hT) (va_cwS 3 hts (hx_gS kw_1445 kw_1443 kw_1444 kw_103) rfl rfl rfl (by decide +kernel) ⟨Nat.le_of_ble_eq_true rfl, Nat.le_of_ble_eq_true rfl⟩) rfl hl.1 rfl (Nat.le_of_ble_eq_true rfl) dX10_file_57 ⟨Nat.le_of_ble_eq_true rfl, Nat.le_of_ble_eq_true rfl⟩) hW (fun r_25 L_23 h_24 H locs p_26 hW => ?_)
              obtain ⟨hr_27, hT, hs⟩ := p_26
              replace hT : hx_T T_tb L_23 h_24 := hT
              replace hs : hx_S T_tb [] L_17 h_18 L_23 h_24 := hs
              replace f_x_36 := (hs.o (gx.S hM) trivial rfl).1.trans f_x_36
              replace af_qh : h_24.2.1 qh = hf := (funext fun j => (hs.a (gqh.S hM) rfl j).1).trans af_qh
              replace af_qc : h_24.2.1 qc = plf := (funext fun j => (hs.a (gqc.S hM) rfl j).1).trans af_qc
              replace af_qf : h_24.2.1 qf = ff := (funext fun j => (hs.a (gqf.S hM) rfl j).1).trans af_qf
              replace af_qag : h_24.2.1 qag = agf := (funext fun j => (hs.a (gqag.S hM) rfl j).1).trans af_qag
              replace af_qby : h_24.2.1 qby = byf := (funext fun j => (hs.a (gqby.S hM) rfl j).1).trans af_qby
              replace af_qsu : h_24.2.1 qsu = smf := (funext fun j => (hs.a (gqsu.S hM) rfl j).1).trans af_qsu
              replace af_qow : h_24.2.1 qow = frf := (funext fun j => (hs.a (gqow.S hM) rfl j).1).trans af_qow
              replace af_qfl : h_24.2.1 qfl = flf := (funext fun j => (hs.a (gqfl.S hM) rfl j).1).trans af_qfl
              replace af_qnt : h_24.2.1 qnt = ntf := (funext fun j => (hs.a (gqnt.S hM) rfl j).1).trans af_qnt
              replace af_qwt : h_24.2.1 qwt = wtf := (funext fun j => (hs.a (gqwt.S hM) rfl j).1).trans af_qwt
              replace af_qbe : h_24.2.1 qbe = bnh := (funext fun j => (hs.a (gqbe.S hM) rfl j).1).trans af_qbe
              replace af_qod : h_24.2.1 qod = odf := (funext fun j => (hs.a (gqod.S hM) rfl j).1).trans af_qod
              replace af_qsz : h_24.2.1 qsz = szf := (funext fun j => (hs.a (gqsz.S hM) rfl j).1).trans af_qsz
              replace af_qsv : h_24.2.1 qsv = svf := (funext fun j => (hs.a (gqsv.S hM) rfl j).1).trans af_qsv
              replace ex_15 := ex_15.trans (hs.a (gqd.S hM) rfl _).1.symm
              replace hM := hM.tr (hs.mono (by decide))
              refine hb_if_eq (zx := r_25.toInt) (tgt := 74) hx hb rfl dX10_file_60 (by decide) (fun c_28 => ?_) (fun c_28 => ?_)
              · skip
                replace hr_27 := hr_27.resolve_right (fun z9 => absurd (c_28.symm.trans z9.1) (by decide))
                replace hr_27 := hr_27.2
                refine lv_iconst (v := -1) hx hb dX10_file_74 (by decide) ?_
                exact hx_reti hx hb hr hlk hW ⟨⟨c0, hf, plf, ff, agf, byf, smf, frf, flf, ntf, wtf, bnh, odf, szf, svf, f_x_36, af_qh, af_qc, af_qf, af_qag, af_qby, af_qsu, af_qow, af_qfl, af_qnt, af_qwt, af_qbe, af_qod, af_qsz, af_qsv, ⟨⟨hHC, hPL, (Or.inl ⟨by decide, by omega, fun hc => by unfold hx_FC at hc; have h1 : (df i2.toNatClampNeg).toInt = 0 := hc.2.2.2.2.1; rw [← ax_15] at h1; omega⟩), (Or.inl ⟨by decide, rfl⟩), (Or.inl ⟨by omega, rfl, rfl⟩), (Or.inl ⟨by decide, rfl⟩), (Or.inl ⟨by decide, rfl⟩), (Or.inl ⟨by decide, rfl⟩), (Or.inl ⟨by decide, rfl⟩), (Or.inl ⟨by decide, rfl⟩), (Or.inl ⟨by decide, rfl⟩), (Or.inl ⟨by decide, rfl⟩), (Or.inl ⟨by decide, rfl⟩), ⟨pv9, hpv9, (Or.inl ⟨by decide, rfl⟩)⟩, (Or.inl ⟨by decide, rfl⟩)⟩, ⟨(Or.inl ⟨by decide, rfl⟩), (Or.inl ⟨by decide, rfl⟩), (Or.inl ⟨by decide, rfl⟩)⟩⟩⟩, hT, hM⟩ dX10_file_75
              · skip
                replace hr_27 := hr_27.resolve_left (fun z9 => c_28 z9.1)
                replace c_28 := hr_27.1
                replace hr_27 := hr_27.2
                refine lv_iload hx hb dX10_file_63 (lv_at hl 6 rfl) ?_
                refine lv_iconst (v := 0) hx hb dX10_file_65 (by decide) ?_
                refine lv_bipush (v := 9) hx hb dX10_file_66 (by decide) ?_
                have zc_9 : (9 : Int32).toInt = 9 := by decide
                refine hx_goi (hx_runS (As := [.int i6, .int (0 : Int32), .int (9 : Int32)]) (rest := []) ⟨hx, hb, hml, hown, hts⟩ hW (t_X10_in l dC dI dA L_23 h_24 H.size i6 (0 : Int32) (9 : Int32) hT) (va_cwS 3 hts (hx_gS kw_1445 kw_1443 kw_1444 kw_103) rfl rfl rfl (by decide +kernel) ⟨Nat.le_of_ble_eq_true rfl, Nat.le_of_ble_eq_true rfl⟩) rfl hl.1 rfl (Nat.le_of_ble_eq_true rfl) dX10_file_68 ⟨Nat.le_of_ble_eq_true rfl, Nat.le_of_ble_eq_true rfl⟩) hW (fun r_31 L_29 h_30 H locs p_32 hW => ?_)
                obtain ⟨hr_33, hT, hs⟩ := p_32
                replace hT : hx_T T_tb L_29 h_30 := hT
                replace hs : hx_S T_tb [] L_23 h_24 L_29 h_30 := hs
                replace f_x_36 := (hs.o (gx.S hM) trivial rfl).1.trans f_x_36
                replace af_qh : h_30.2.1 qh = hf := (funext fun j => (hs.a (gqh.S hM) rfl j).1).trans af_qh
                replace af_qc : h_30.2.1 qc = plf := (funext fun j => (hs.a (gqc.S hM) rfl j).1).trans af_qc
                replace af_qf : h_30.2.1 qf = ff := (funext fun j => (hs.a (gqf.S hM) rfl j).1).trans af_qf
                replace af_qag : h_30.2.1 qag = agf := (funext fun j => (hs.a (gqag.S hM) rfl j).1).trans af_qag
                replace af_qby : h_30.2.1 qby = byf := (funext fun j => (hs.a (gqby.S hM) rfl j).1).trans af_qby
                replace af_qsu : h_30.2.1 qsu = smf := (funext fun j => (hs.a (gqsu.S hM) rfl j).1).trans af_qsu
                replace af_qow : h_30.2.1 qow = frf := (funext fun j => (hs.a (gqow.S hM) rfl j).1).trans af_qow
                replace af_qfl : h_30.2.1 qfl = flf := (funext fun j => (hs.a (gqfl.S hM) rfl j).1).trans af_qfl
                replace af_qnt : h_30.2.1 qnt = ntf := (funext fun j => (hs.a (gqnt.S hM) rfl j).1).trans af_qnt
                replace af_qwt : h_30.2.1 qwt = wtf := (funext fun j => (hs.a (gqwt.S hM) rfl j).1).trans af_qwt
                replace af_qbe : h_30.2.1 qbe = bnh := (funext fun j => (hs.a (gqbe.S hM) rfl j).1).trans af_qbe
                replace af_qod : h_30.2.1 qod = odf := (funext fun j => (hs.a (gqod.S hM) rfl j).1).trans af_qod
                replace af_qsz : h_30.2.1 qsz = szf := (funext fun j => (hs.a (gqsz.S hM) rfl j).1).trans af_qsz
                replace af_qsv : h_30.2.1 qsv = svf := (funext fun j => (hs.a (gqsv.S hM) rfl j).1).trans af_qsv
                replace ex_15 := ex_15.trans (hs.a (gqd.S hM) rfl _).1.symm
                replace hM := hM.tr (hs.mono (by decide))
                refine hb_if_ne (zx := r_31.toInt) (tgt := 76) hx hb rfl dX10_file_71 (by decide) (fun c_34 => ?_) (fun c_34 => ?_)
                · skip
                  replace hr_33 := hr_33.resolve_left (fun z9 => c_34 z9.1)
                  replace c_34 := hr_33.1
                  replace hr_33 := hr_33.2
                  refine lv_aload_n hx hb dX10_file_76 rfl (lv_at hl 0 rfl) ?_
                  refine hk_geti hx hb hts hC_10 hown hW (gx.S hM) tt_10 36 (by decide) rfl kw_1179 ⟨rfl, rfl, rfl⟩ f_x_36 dX10_file_77 ?_
                  refine lv_istore (lv' := [(7, .int c0), (0, .ref x), (1, .int i1), (2, .int i2), (3, .int i3), (4, .int i4), (5, .int i5), (6, .int i6)]) hx hb dX10_file_80 hl (by decide) rfl (fun ls hl => ?_)
                  refine lv_aload_n hx hb dX10_file_82 rfl (lv_at hl 1 rfl) ?_
                  refine hk_getr hx hb hts hC_10 hown hW (gx.S hM) tt_10 37 (by decide) rfl kw_1180 ⟨rfl, rfl, rfl⟩ ((hM.o gx trivial rfl).2.trans f_x_37) dX10_file_83 ?_
                  refine lv_iload hx hb dX10_file_86 (lv_at hl 0 rfl) ?_
                  refine lv_iload_n hx hb dX10_file_88 rfl (lv_at hl 2 rfl) ?_
                  have af_qbyO := af_qby
                  refine hx_iast hx hb hW hT (hx_S.rf (M := [(72, 0)])) (gqby.S hM) tt_72 rfl ⟨by omega, by omega⟩ rfl ⟨by omega, by omega⟩ (List.mem_singleton.mpr rfl) dX10_file_89 (fun H locs h_35 eh_35 hW hT hs => ?_)
                  replace f_x_36 := (hs.o (gx.S hM) trivial rfl).1.trans f_x_36
                  replace af_qh : h_35.2.1 qh = hf := (funext fun j => (hs.a (gqh.S hM) rfl j).1).trans af_qh
                  replace af_qc : h_35.2.1 qc = plf := (funext fun j => (hs.a (gqc.S hM) rfl j).1).trans af_qc
                  replace af_qf : h_35.2.1 qf = ff := (funext fun j => (hs.a (gqf.S hM) rfl j).1).trans af_qf
                  replace af_qag : h_35.2.1 qag = agf := (funext fun j => (hs.a (gqag.S hM) rfl j).1).trans af_qag
                  replace af_qsu : h_35.2.1 qsu = smf := (funext fun j => (hs.a (gqsu.S hM) rfl j).1).trans af_qsu
                  replace af_qow : h_35.2.1 qow = frf := (funext fun j => (hs.a (gqow.S hM) rfl j).1).trans af_qow
                  replace af_qfl : h_35.2.1 qfl = flf := (funext fun j => (hs.a (gqfl.S hM) rfl j).1).trans af_qfl
                  replace af_qnt : h_35.2.1 qnt = ntf := (funext fun j => (hs.a (gqnt.S hM) rfl j).1).trans af_qnt
                  replace af_qwt : h_35.2.1 qwt = wtf := (funext fun j => (hs.a (gqwt.S hM) rfl j).1).trans af_qwt
                  replace af_qbe : h_35.2.1 qbe = bnh := (funext fun j => (hs.a (gqbe.S hM) rfl j).1).trans af_qbe
                  replace af_qod : h_35.2.1 qod = odf := (funext fun j => (hs.a (gqod.S hM) rfl j).1).trans af_qod
                  replace af_qsz : h_35.2.1 qsz = szf := (funext fun j => (hs.a (gqsz.S hM) rfl j).1).trans af_qsz
                  replace af_qsv : h_35.2.1 qsv = svf := (funext fun j => (hs.a (gqsv.S hM) rfl j).1).trans af_qsv
                  replace ex_15 := ex_15.trans (hs.a (gqd.S hM) rfl _).1.symm
                  replace hM := hM.tr (hs.mono (by decide))
                  obtain ⟨fa_36, dfa_36⟩ : ∃ g : Nat → Int32, g = hx_up byf c0.toNatClampNeg i1 := ⟨_, rfl⟩
                  have nfa_36 : h_35.2.1 qby = fa_36 := by rw [eh_35, dfa_36, ← af_qbyO]; exact hx_pi_fun _ _ _ _
                  refine lv_aload_n hx hb dX10_file_90 rfl (lv_at hl 1 rfl) ?_
                  refine hk_getr hx hb hts hC_10 hown hW (gx.S hM) tt_10 38 (by decide) rfl kw_1181 ⟨rfl, rfl, rfl⟩ ((hM.o gx trivial rfl).2.trans f_x_38) dX10_file_91 ?_
                  refine lv_iload hx hb dX10_file_94 (lv_at hl 0 rfl) ?_
                  refine lv_iload_n hx hb dX10_file_96 rfl (lv_at hl 3 rfl) ?_
                  have af_qagO := af_qag
                  refine hx_iast hx hb hW hT (hx_S.rf (M := [(73, 0)])) (gqag.S hM) tt_73 rfl ⟨by omega, by omega⟩ rfl ⟨by omega, by omega⟩ (List.mem_singleton.mpr rfl) dX10_file_97 (fun H locs h_37 eh_37 hW hT hs => ?_)
                  replace f_x_36 := (hs.o (gx.S hM) trivial rfl).1.trans f_x_36
                  replace af_qh : h_37.2.1 qh = hf := (funext fun j => (hs.a (gqh.S hM) rfl j).1).trans af_qh
                  replace af_qc : h_37.2.1 qc = plf := (funext fun j => (hs.a (gqc.S hM) rfl j).1).trans af_qc
                  replace af_qf : h_37.2.1 qf = ff := (funext fun j => (hs.a (gqf.S hM) rfl j).1).trans af_qf
                  replace af_qsu : h_37.2.1 qsu = smf := (funext fun j => (hs.a (gqsu.S hM) rfl j).1).trans af_qsu
                  replace af_qow : h_37.2.1 qow = frf := (funext fun j => (hs.a (gqow.S hM) rfl j).1).trans af_qow
                  replace af_qfl : h_37.2.1 qfl = flf := (funext fun j => (hs.a (gqfl.S hM) rfl j).1).trans af_qfl
                  replace af_qnt : h_37.2.1 qnt = ntf := (funext fun j => (hs.a (gqnt.S hM) rfl j).1).trans af_qnt
                  replace af_qwt : h_37.2.1 qwt = wtf := (funext fun j => (hs.a (gqwt.S hM) rfl j).1).trans af_qwt
                  replace af_qbe : h_37.2.1 qbe = bnh := (funext fun j => (hs.a (gqbe.S hM) rfl j).1).trans af_qbe
                  replace af_qod : h_37.2.1 qod = odf := (funext fun j => (hs.a (gqod.S hM) rfl j).1).trans af_qod
                  replace af_qsz : h_37.2.1 qsz = szf := (funext fun j => (hs.a (gqsz.S hM) rfl j).1).trans af_qsz
                  replace af_qsv : h_37.2.1 qsv = svf := (funext fun j => (hs.a (gqsv.S hM) rfl j).1).trans af_qsv
                  replace nfa_36 : h_37.2.1 qby = fa_36 := (funext fun j => (hs.a (gqby.S hM) rfl j).1).trans nfa_36
                  replace ex_15 := ex_15.trans (hs.a (gqd.S hM) rfl _).1.symm
                  replace hM := hM.tr (hs.mono (by decide))
                  obtain ⟨fa_38, dfa_38⟩ : ∃ g : Nat → Int32, g = hx_up agf c0.toNatClampNeg i2 := ⟨_, rfl⟩
                  have nfa_38 : h_37.2.1 qag = fa_38 := by rw [eh_37, dfa_38, ← af_qagO]; exact hx_pi_fun _ _ _ _
                  refine lv_aload_n hx hb dX10_file_98 rfl (lv_at hl 1 rfl) ?_
                  refine hk_getr hx hb hts hC_10 hown hW (gx.S hM) tt_10 39 (by decide) rfl kw_1182 ⟨rfl, rfl, rfl⟩ ((hM.o gx trivial rfl).2.trans f_x_39) dX10_file_99 ?_
                  refine lv_iload hx hb dX10_file_102 (lv_at hl 0 rfl) ?_
                  refine lv_iload_n hx hb dX10_file_104 rfl (lv_at hl 4 rfl) ?_
                  have af_qsuO := af_qsu
                  refine hx_iast hx hb hW hT (hx_S.rf (M := [(74, 0)])) (gqsu.S hM) tt_74 rfl ⟨by omega, by omega⟩ rfl ⟨by omega, by omega⟩ (List.mem_singleton.mpr rfl) dX10_file_105 (fun H locs h_39 eh_39 hW hT hs => ?_)
                  replace f_x_36 := (hs.o (gx.S hM) trivial rfl).1.trans f_x_36
                  replace af_qh : h_39.2.1 qh = hf := (funext fun j => (hs.a (gqh.S hM) rfl j).1).trans af_qh
                  replace af_qc : h_39.2.1 qc = plf := (funext fun j => (hs.a (gqc.S hM) rfl j).1).trans af_qc
                  replace af_qf : h_39.2.1 qf = ff := (funext fun j => (hs.a (gqf.S hM) rfl j).1).trans af_qf
                  replace af_qow : h_39.2.1 qow = frf := (funext fun j => (hs.a (gqow.S hM) rfl j).1).trans af_qow
                  replace af_qfl : h_39.2.1 qfl = flf := (funext fun j => (hs.a (gqfl.S hM) rfl j).1).trans af_qfl
                  replace af_qnt : h_39.2.1 qnt = ntf := (funext fun j => (hs.a (gqnt.S hM) rfl j).1).trans af_qnt
                  replace af_qwt : h_39.2.1 qwt = wtf := (funext fun j => (hs.a (gqwt.S hM) rfl j).1).trans af_qwt
                  replace af_qbe : h_39.2.1 qbe = bnh := (funext fun j => (hs.a (gqbe.S hM) rfl j).1).trans af_qbe
                  replace af_qod : h_39.2.1 qod = odf := (funext fun j => (hs.a (gqod.S hM) rfl j).1).trans af_qod
                  replace af_qsz : h_39.2.1 qsz = szf := (funext fun j => (hs.a (gqsz.S hM) rfl j).1).trans af_qsz
                  replace af_qsv : h_39.2.1 qsv = svf := (funext fun j => (hs.a (gqsv.S hM) rfl j).1).trans af_qsv
                  replace nfa_36 : h_39.2.1 qby = fa_36 := (funext fun j => (hs.a (gqby.S hM) rfl j).1).trans nfa_36
                  replace nfa_38 : h_39.2.1 qag = fa_38 := (funext fun j => (hs.a (gqag.S hM) rfl j).1).trans nfa_38
                  replace ex_15 := ex_15.trans (hs.a (gqd.S hM) rfl _).1.symm
                  replace hM := hM.tr (hs.mono (by decide))
                  obtain ⟨fa_40, dfa_40⟩ : ∃ g : Nat → Int32, g = hx_up smf c0.toNatClampNeg i3 := ⟨_, rfl⟩
                  have nfa_40 : h_39.2.1 qsu = fa_40 := by rw [eh_39, dfa_40, ← af_qsuO]; exact hx_pi_fun _ _ _ _
                  refine lv_aload_n hx hb dX10_file_106 rfl (lv_at hl 1 rfl) ?_
                  refine hk_getr hx hb hts hC_10 hown hW (gx.S hM) tt_10 40 (by decide) rfl kw_1183 ⟨rfl, rfl, rfl⟩ ((hM.o gx trivial rfl).2.trans f_x_40) dX10_file_107 ?_
                  refine lv_iload hx hb dX10_file_110 (lv_at hl 0 rfl) ?_
                  refine lv_iload hx hb dX10_file_112 (lv_at hl 5 rfl) ?_
                  have af_qowO := af_qow
                  refine hx_iast hx hb hW hT (hx_S.rf (M := [(75, 0)])) (gqow.S hM) tt_75 rfl ⟨by omega, by omega⟩ rfl ⟨by omega, by omega⟩ (List.mem_singleton.mpr rfl) dX10_file_114 (fun H locs h_41 eh_41 hW hT hs => ?_)
                  replace f_x_36 := (hs.o (gx.S hM) trivial rfl).1.trans f_x_36
                  replace af_qh : h_41.2.1 qh = hf := (funext fun j => (hs.a (gqh.S hM) rfl j).1).trans af_qh
                  replace af_qc : h_41.2.1 qc = plf := (funext fun j => (hs.a (gqc.S hM) rfl j).1).trans af_qc
                  replace af_qf : h_41.2.1 qf = ff := (funext fun j => (hs.a (gqf.S hM) rfl j).1).trans af_qf
                  replace af_qfl : h_41.2.1 qfl = flf := (funext fun j => (hs.a (gqfl.S hM) rfl j).1).trans af_qfl
                  replace af_qnt : h_41.2.1 qnt = ntf := (funext fun j => (hs.a (gqnt.S hM) rfl j).1).trans af_qnt
                  replace af_qwt : h_41.2.1 qwt = wtf := (funext fun j => (hs.a (gqwt.S hM) rfl j).1).trans af_qwt
                  replace af_qbe : h_41.2.1 qbe = bnh := (funext fun j => (hs.a (gqbe.S hM) rfl j).1).trans af_qbe
                  replace af_qod : h_41.2.1 qod = odf := (funext fun j => (hs.a (gqod.S hM) rfl j).1).trans af_qod
                  replace af_qsz : h_41.2.1 qsz = szf := (funext fun j => (hs.a (gqsz.S hM) rfl j).1).trans af_qsz
                  replace af_qsv : h_41.2.1 qsv = svf := (funext fun j => (hs.a (gqsv.S hM) rfl j).1).trans af_qsv
                  replace nfa_36 : h_41.2.1 qby = fa_36 := (funext fun j => (hs.a (gqby.S hM) rfl j).1).trans nfa_36
                  replace nfa_38 : h_41.2.1 qag = fa_38 := (funext fun j => (hs.a (gqag.S hM) rfl j).1).trans nfa_38
                  replace nfa_40 : h_41.2.1 qsu = fa_40 := (funext fun j => (hs.a (gqsu.S hM) rfl j).1).trans nfa_40
                  replace ex_15 := ex_15.trans (hs.a (gqd.S hM) rfl _).1.symm
                  replace hM := hM.tr (hs.mono (by decide))
                  obtain ⟨fa_42, dfa_42⟩ : ∃ g : Nat → Int32, g = hx_up frf c0.toNatClampNeg i4 := ⟨_, rfl⟩
                  have nfa_42 : h_41.2.1 qow = fa_42 := by rw [eh_41, dfa_42, ← af_qowO]; exact hx_pi_fun _ _ _ _
                  refine lv_aload_n hx hb dX10_file_115 rfl (lv_at hl 1 rfl) ?_
                  refine hk_getr hx hb hts hC_10 hown hW (gx.S hM) tt_10 41 (by decide) rfl kw_1184 ⟨rfl, rfl, rfl⟩ ((hM.o gx trivial rfl).2.trans f_x_41) dX10_file_116 ?_
                  refine lv_iload hx hb dX10_file_119 (lv_at hl 0 rfl) ?_
                  refine lv_iload hx hb dX10_file_121 (lv_at hl 6 rfl) ?_
                  have af_qntO := af_qnt
                  refine hx_zast hx hb hW hT (hx_S.rf (M := [(76, 0)])) (gqnt.S hM) tt_76 rfl ⟨by omega, by omega⟩ (y := i5) (hx_nz01 (by omega)) ⟨by omega, by omega⟩ (List.mem_singleton.mpr rfl) dX10_file_123 (fun H locs h_43 eh_43 hW hT hs => ?_)
                  replace f_x_36 := (hs.o (gx.S hM) trivial rfl).1.trans f_x_36
                  replace af_qh : h_43.2.1 qh = hf := (funext fun j => (hs.a (gqh.S hM) rfl j).1).trans af_qh
                  replace af_qc : h_43.2.1 qc = plf := (funext fun j => (hs.a (gqc.S hM) rfl j).1).trans af_qc
                  replace af_qf : h_43.2.1 qf = ff := (funext fun j => (hs.a (gqf.S hM) rfl j).1).trans af_qf
                  replace af_qfl : h_43.2.1 qfl = flf := (funext fun j => (hs.a (gqfl.S hM) rfl j).1).trans af_qfl
                  replace af_qwt : h_43.2.1 qwt = wtf := (funext fun j => (hs.a (gqwt.S hM) rfl j).1).trans af_qwt
                  replace af_qbe : h_43.2.1 qbe = bnh := (funext fun j => (hs.a (gqbe.S hM) rfl j).1).trans af_qbe
                  replace af_qod : h_43.2.1 qod = odf := (funext fun j => (hs.a (gqod.S hM) rfl j).1).trans af_qod
                  replace af_qsz : h_43.2.1 qsz = szf := (funext fun j => (hs.a (gqsz.S hM) rfl j).1).trans af_qsz
                  replace af_qsv : h_43.2.1 qsv = svf := (funext fun j => (hs.a (gqsv.S hM) rfl j).1).trans af_qsv
                  replace nfa_36 : h_43.2.1 qby = fa_36 := (funext fun j => (hs.a (gqby.S hM) rfl j).1).trans nfa_36
                  replace nfa_38 : h_43.2.1 qag = fa_38 := (funext fun j => (hs.a (gqag.S hM) rfl j).1).trans nfa_38
                  replace nfa_40 : h_43.2.1 qsu = fa_40 := (funext fun j => (hs.a (gqsu.S hM) rfl j).1).trans nfa_40
                  replace nfa_42 : h_43.2.1 qow = fa_42 := (funext fun j => (hs.a (gqow.S hM) rfl j).1).trans nfa_42
                  replace ex_15 := ex_15.trans (hs.a (gqd.S hM) rfl _).1.symm
                  replace hM := hM.tr (hs.mono (by decide))
                  obtain ⟨fa_44, dfa_44⟩ : ∃ g : Nat → Int32, g = hx_up ntf c0.toNatClampNeg i5 := ⟨_, rfl⟩
                  have nfa_44 : h_43.2.1 qnt = fa_44 := by rw [eh_43, dfa_44, ← af_qntO]; exact hx_pi_fun _ _ _ _
                  refine lv_aload_n hx hb dX10_file_124 rfl (lv_at hl 1 rfl) ?_
                  refine hk_getr hx hb hts hC_10 hown hW (gx.S hM) tt_10 42 (by decide) rfl kw_1185 ⟨rfl, rfl, rfl⟩ ((hM.o gx trivial rfl).2.trans f_x_42) dX10_file_125 ?_
                  refine lv_iload hx hb dX10_file_128 (lv_at hl 0 rfl) ?_
                  refine lv_iload hx hb dX10_file_130 (lv_at hl 7 rfl) ?_
                  have af_qwtO := af_qwt
                  refine hx_iast hx hb hW hT (hx_S.rf (M := [(77, 0)])) (gqwt.S hM) tt_77 rfl ⟨by omega, by omega⟩ rfl ⟨by omega, by omega⟩ (List.mem_singleton.mpr rfl) dX10_file_132 (fun H locs h_45 eh_45 hW hT hs => ?_)
                  replace f_x_36 := (hs.o (gx.S hM) trivial rfl).1.trans f_x_36
                  replace af_qh : h_45.2.1 qh = hf := (funext fun j => (hs.a (gqh.S hM) rfl j).1).trans af_qh
                  replace af_qc : h_45.2.1 qc = plf := (funext fun j => (hs.a (gqc.S hM) rfl j).1).trans af_qc
                  replace af_qf : h_45.2.1 qf = ff := (funext fun j => (hs.a (gqf.S hM) rfl j).1).trans af_qf
                  replace af_qfl : h_45.2.1 qfl = flf := (funext fun j => (hs.a (gqfl.S hM) rfl j).1).trans af_qfl
                  replace af_qbe : h_45.2.1 qbe = bnh := (funext fun j => (hs.a (gqbe.S hM) rfl j).1).trans af_qbe
                  replace af_qod : h_45.2.1 qod = odf := (funext fun j => (hs.a (gqod.S hM) rfl j).1).trans af_qod
                  replace af_qsz : h_45.2.1 qsz = szf := (funext fun j => (hs.a (gqsz.S hM) rfl j).1).trans af_qsz
                  replace af_qsv : h_45.2.1 qsv = svf := (funext fun j => (hs.a (gqsv.S hM) rfl j).1).trans af_qsv
                  replace nfa_36 : h_45.2.1 qby = fa_36 := (funext fun j => (hs.a (gqby.S hM) rfl j).1).trans nfa_36
                  replace nfa_38 : h_45.2.1 qag = fa_38 := (funext fun j => (hs.a (gqag.S hM) rfl j).1).trans nfa_38
                  replace nfa_40 : h_45.2.1 qsu = fa_40 := (funext fun j => (hs.a (gqsu.S hM) rfl j).1).trans nfa_40
                  replace nfa_42 : h_45.2.1 qow = fa_42 := (funext fun j => (hs.a (gqow.S hM) rfl j).1).trans nfa_42
                  replace nfa_44 : h_45.2.1 qnt = fa_44 := (funext fun j => (hs.a (gqnt.S hM) rfl j).1).trans nfa_44
                  replace ex_15 := ex_15.trans (hs.a (gqd.S hM) rfl _).1.symm
                  replace hM := hM.tr (hs.mono (by decide))
                  obtain ⟨fa_46, dfa_46⟩ : ∃ g : Nat → Int32, g = hx_up wtf c0.toNatClampNeg i6 := ⟨_, rfl⟩
                  have nfa_46 : h_45.2.1 qwt = fa_46 := by rw [eh_45, dfa_46, ← af_qwtO]; exact hx_pi_fun _ _ _ _
                  refine lv_aload_n hx hb dX10_file_133 rfl (lv_at hl 1 rfl) ?_
                  refine hk_getr hx hb hts hC_10 hown hW (gx.S hM) tt_10 43 (by decide) rfl kw_1186 ⟨rfl, rfl, rfl⟩ ((hM.o gx trivial rfl).2.trans f_x_43) dX10_file_134 ?_
                  refine lv_iload hx hb dX10_file_137 (lv_at hl 0 rfl) ?_
                  refine lv_aload_n hx hb dX10_file_139 rfl (lv_at hl 1 rfl) ?_
                  refine hk_geti hx hb hts hC_10 hown hW (gx.S hM) tt_10 0 (by decide) rfl kw_1143 ⟨rfl, rfl, rfl⟩ ((hM.o gx trivial rfl).1.trans f_x_0) dX10_file_140 ?_
                  have af_qflO := af_qfl
                  refine hx_iast hx hb hW hT (hx_S.rf (M := [(78, 0)])) (gqfl.S hM) tt_78 rfl ⟨by omega, by omega⟩ rfl ⟨by omega, by omega⟩ (List.mem_singleton.mpr rfl) dX10_file_143 (fun H locs h_47 eh_47 hW hT hs => ?_)
                  replace f_x_36 := (hs.o (gx.S hM) trivial rfl).1.trans f_x_36
                  replace af_qh : h_47.2.1 qh = hf := (funext fun j => (hs.a (gqh.S hM) rfl j).1).trans af_qh
                  replace af_qc : h_47.2.1 qc = plf := (funext fun j => (hs.a (gqc.S hM) rfl j).1).trans af_qc
                  replace af_qf : h_47.2.1 qf = ff := (funext fun j => (hs.a (gqf.S hM) rfl j).1).trans af_qf
                  replace af_qbe : h_47.2.1 qbe = bnh := (funext fun j => (hs.a (gqbe.S hM) rfl j).1).trans af_qbe
                  replace af_qod : h_47.2.1 qod = odf := (funext fun j => (hs.a (gqod.S hM) rfl j).1).trans af_qod
                  replace af_qsz : h_47.2.1 qsz = szf := (funext fun j => (hs.a (gqsz.S hM) rfl j).1).trans af_qsz
                  replace af_qsv : h_47.2.1 qsv = svf := (funext fun j => (hs.a (gqsv.S hM) rfl j).1).trans af_qsv
                  replace nfa_36 : h_47.2.1 qby = fa_36 := (funext fun j => (hs.a (gqby.S hM) rfl j).1).trans nfa_36
                  replace nfa_38 : h_47.2.1 qag = fa_38 := (funext fun j => (hs.a (gqag.S hM) rfl j).1).trans nfa_38
                  replace nfa_40 : h_47.2.1 qsu = fa_40 := (funext fun j => (hs.a (gqsu.S hM) rfl j).1).trans nfa_40
                  replace nfa_42 : h_47.2.1 qow = fa_42 := (funext fun j => (hs.a (gqow.S hM) rfl j).1).trans nfa_42
                  replace nfa_44 : h_47.2.1 qnt = fa_44 := (funext fun j => (hs.a (gqnt.S hM) rfl j).1).trans nfa_44
                  replace nfa_46 : h_47.2.1 qwt = fa_46 := (funext fun j => (hs.a (gqwt.S hM) rfl j).1).trans nfa_46
                  replace ex_15 := ex_15.trans (hs.a (gqd.S hM) rfl _).1.symm
                  replace hM := hM.tr (hs.mono (by decide))
                  obtain ⟨fa_48, dfa_48⟩ : ∃ g : Nat → Int32, g = hx_up flf c0.toNatClampNeg nw0 := ⟨_, rfl⟩
                  have nfa_48 : h_47.2.1 qfl = fa_48 := by rw [eh_47, dfa_48, ← af_qflO]; exact hx_pi_fun _ _ _ _
                  refine lv_aload_n hx hb dX10_file_144 rfl (lv_at hl 1 rfl) ?_
                  refine hk_getr hx hb hts hC_10 hown hW (gx.S hM) tt_10 44 (by decide) rfl kw_1187 ⟨rfl, rfl, rfl⟩ ((hM.o gx trivial rfl).2.trans f_x_44) dX10_file_145 ?_
                  refine lv_iload hx hb dX10_file_148 (lv_at hl 0 rfl) ?_
                  refine lv_aload_n hx hb dX10_file_150 rfl (lv_at hl 1 rfl) ?_
                  refine lv_aload_n hx hb dX10_file_151 rfl (lv_at hl 1 rfl) ?_
                  refine hk_geti hx hb hts hC_10 hown hW (gx.S hM) tt_10 0 (by decide) rfl kw_1143 ⟨rfl, rfl, rfl⟩ ((hM.o gx trivial rfl).1.trans f_x_0) dX10_file_152 ?_
                  refine hx_goi (hx_runV (As := [.int nw0]) (rest := [.int c0, .ref qc]) ⟨hx, hb, hml, hown, hts⟩ hW (gx.S hM) tt_10 (T := TX10) (N := 98) rfl (t_X10_inForce_v l dC dI dA L_29 h_47 H.size x nw0 hT (gx.S hM) qad (gqad.S hM) ((hM.o gx trivial rfl).2.trans f_x_2) qrl (gqrl.S hM) ((hM.o gx trivial rfl).2.trans f_x_3) qps (gqps.S hM) ((hM.o gx trivial rfl).2.trans f_x_4) qpr (gqpr.S hM) ((hM.o gx trivial rfl).2.trans f_x_5) adf (hx_afS hM gqad rfl af_qad) rlf (hx_afS hM gqrl rfl af_qrl) psf (hx_afS hM gqps rfl af_qps) prf (hx_afS hM gqpr rfl af_qpr) a0 ((hM.o gx trivial rfl).1.trans f_x_1) A hCA) (cwV 1 hts (hx_gV kw_1529 kw_1526 kw_1528 kw_65 kw_103) rfl rfl rfl (by decide +kernel) ⟨Nat.le_of_ble_eq_true rfl, Nat.le_of_ble_eq_true rfl⟩) rfl hl.1 rfl (Nat.le_of_ble_eq_true rfl) dX10_file_155 ⟨Nat.le_of_ble_eq_true rfl, Nat.le_of_ble_eq_true rfl⟩) hW (fun r_51 L_49 h_50 H locs p_52 hW => ?_)
                  obtain ⟨hr_53, hT, hs⟩ := p_52
                  replace hT : hx_T T_tb L_49 h_50 := hT
                  replace hs : hx_S T_tb [] L_29 h_47 L_49 h_50 := hs
                  replace f_x_36 := (hs.o (gx.S hM) trivial rfl).1.trans f_x_36
                  replace af_qh : h_50.2.1 qh = hf := (funext fun j => (hs.a (gqh.S hM) rfl j).1).trans af_qh
                  replace af_qc : h_50.2.1 qc = plf := (funext fun j => (hs.a (gqc.S hM) rfl j).1).trans af_qc
                  replace af_qf : h_50.2.1 qf = ff := (funext fun j => (hs.a (gqf.S hM) rfl j).1).trans af_qf
                  replace af_qbe : h_50.2.1 qbe = bnh := (funext fun j => (hs.a (gqbe.S hM) rfl j).1).trans af_qbe
                  replace af_qod : h_50.2.1 qod = odf := (funext fun j => (hs.a (gqod.S hM) rfl j).1).trans af_qod
                  replace af_qsz : h_50.2.1 qsz = szf := (funext fun j => (hs.a (gqsz.S hM) rfl j).1).trans af_qsz
                  replace af_qsv : h_50.2.1 qsv = svf := (funext fun j => (hs.a (gqsv.S hM) rfl j).1).trans af_qsv
                  replace nfa_36 : h_50.2.1 qby = fa_36 := (funext fun j => (hs.a (gqby.S hM) rfl j).1).trans nfa_36
                  replace nfa_38 : h_50.2.1 qag = fa_38 := (funext fun j => (hs.a (gqag.S hM) rfl j).1).trans nfa_38
                  replace nfa_40 : h_50.2.1 qsu = fa_40 := (funext fun j => (hs.a (gqsu.S hM) rfl j).1).trans nfa_40
                  replace nfa_42 : h_50.2.1 qow = fa_42 := (funext fun j => (hs.a (gqow.S hM) rfl j).1).trans nfa_42
                  replace nfa_44 : h_50.2.1 qnt = fa_44 := (funext fun j => (hs.a (gqnt.S hM) rfl j).1).trans nfa_44
                  replace nfa_46 : h_50.2.1 qwt = fa_46 := (funext fun j => (hs.a (gqwt.S hM) rfl j).1).trans nfa_46
                  replace nfa_48 : h_50.2.1 qfl = fa_48 := (funext fun j => (hs.a (gqfl.S hM) rfl j).1).trans nfa_48
                  replace ex_15 := ex_15.trans (hs.a (gqd.S hM) rfl _).1.symm
                  replace hM := hM.tr (hs.mono (by decide))
                  have af_qcO := af_qc
                  refine hx_iast hx hb hW hT (hx_S.rf (M := [(79, 0)])) (gqc.S hM) tt_79 rfl ⟨by omega, by omega⟩ rfl ⟨by omega, by omega⟩ (List.mem_singleton.mpr rfl) dX10_file_158 (fun H locs h_54 eh_54 hW hT hs => ?_)
                  replace f_x_36 := (hs.o (gx.S hM) trivial rfl).1.trans f_x_36
                  replace af_qh : h_54.2.1 qh = hf := (funext fun j => (hs.a (gqh.S hM) rfl j).1).trans af_qh
                  replace af_qf : h_54.2.1 qf = ff := (funext fun j => (hs.a (gqf.S hM) rfl j).1).trans af_qf
                  replace af_qbe : h_54.2.1 qbe = bnh := (funext fun j => (hs.a (gqbe.S hM) rfl j).1).trans af_qbe
                  replace af_qod : h_54.2.1 qod = odf := (funext fun j => (hs.a (gqod.S hM) rfl j).1).trans af_qod
                  replace af_qsz : h_54.2.1 qsz = szf := (funext fun j => (hs.a (gqsz.S hM) rfl j).1).trans af_qsz
                  replace af_qsv : h_54.2.1 qsv = svf := (funext fun j => (hs.a (gqsv.S hM) rfl j).1).trans af_qsv
                  replace nfa_36 : h_54.2.1 qby = fa_36 := (funext fun j => (hs.a (gqby.S hM) rfl j).1).trans nfa_36
                  replace nfa_38 : h_54.2.1 qag = fa_38 := (funext fun j => (hs.a (gqag.S hM) rfl j).1).trans nfa_38
                  replace nfa_40 : h_54.2.1 qsu = fa_40 := (funext fun j => (hs.a (gqsu.S hM) rfl j).1).trans nfa_40
                  replace nfa_42 : h_54.2.1 qow = fa_42 := (funext fun j => (hs.a (gqow.S hM) rfl j).1).trans nfa_42
                  replace nfa_44 : h_54.2.1 qnt = fa_44 := (funext fun j => (hs.a (gqnt.S hM) rfl j).1).trans nfa_44
                  replace nfa_46 : h_54.2.1 qwt = fa_46 := (funext fun j => (hs.a (gqwt.S hM) rfl j).1).trans nfa_46
                  replace nfa_48 : h_54.2.1 qfl = fa_48 := (funext fun j => (hs.a (gqfl.S hM) rfl j).1).trans nfa_48
                  replace ex_15 := ex_15.trans (hs.a (gqd.S hM) rfl _).1.symm
                  replace hM := hM.tr (hs.mono (by decide))
                  obtain ⟨fa_55, dfa_55⟩ : ∃ g : Nat → Int32, g = hx_up plf c0.toNatClampNeg r_51 := ⟨_, rfl⟩
                  have nfa_55 : h_54.2.1 qc = fa_55 := by rw [eh_54, dfa_55, ← af_qcO]; exact hx_pi_fun _ _ _ _
                  refine lv_aload_n hx hb dX10_file_159 rfl (lv_at hl 1 rfl) ?_
                  refine hk_getr hx hb hts hC_10 hown hW (gx.S hM) tt_10 46 (by decide) rfl kw_1189 ⟨rfl, rfl, rfl⟩ ((hM.o gx trivial rfl).2.trans f_x_46) dX10_file_160 ?_
                  refine lv_iload hx hb dX10_file_163 (lv_at hl 0 rfl) ?_
                  refine lv_iconst (v := -1) hx hb dX10_file_165 (by decide) ?_
                  have af_qfO := af_qf
                  refine hx_iast hx hb hW hT (hx_S.rf (M := [(81, 0)])) (gqf.S hM) tt_81 rfl ⟨by omega, by omega⟩ rfl (by decide) (List.mem_singleton.mpr rfl) dX10_file_166 (fun H locs h_56 eh_56 hW hT hs => ?_)
                  replace f_x_36 := (hs.o (gx.S hM) trivial rfl).1.trans f_x_36
                  replace af_qh : h_56.2.1 qh = hf := (funext fun j => (hs.a (gqh.S hM) rfl j).1).trans af_qh
                  replace af_qbe : h_56.2.1 qbe = bnh := (funext fun j => (hs.a (gqbe.S hM) rfl j).1).trans af_qbe
                  replace af_qod : h_56.2.1 qod = odf := (funext fun j => (hs.a (gqod.S hM) rfl j).1).trans af_qod
                  replace af_qsz : h_56.2.1 qsz = szf := (funext fun j => (hs.a (gqsz.S hM) rfl j).1).trans af_qsz
                  replace af_qsv : h_56.2.1 qsv = svf := (funext fun j => (hs.a (gqsv.S hM) rfl j).1).trans af_qsv
                  replace nfa_36 : h_56.2.1 qby = fa_36 := (funext fun j => (hs.a (gqby.S hM) rfl j).1).trans nfa_36
                  replace nfa_38 : h_56.2.1 qag = fa_38 := (funext fun j => (hs.a (gqag.S hM) rfl j).1).trans nfa_38
                  replace nfa_40 : h_56.2.1 qsu = fa_40 := (funext fun j => (hs.a (gqsu.S hM) rfl j).1).trans nfa_40
                  replace nfa_42 : h_56.2.1 qow = fa_42 := (funext fun j => (hs.a (gqow.S hM) rfl j).1).trans nfa_42
                  replace nfa_44 : h_56.2.1 qnt = fa_44 := (funext fun j => (hs.a (gqnt.S hM) rfl j).1).trans nfa_44
                  replace nfa_46 : h_56.2.1 qwt = fa_46 := (funext fun j => (hs.a (gqwt.S hM) rfl j).1).trans nfa_46
                  replace nfa_48 : h_56.2.1 qfl = fa_48 := (funext fun j => (hs.a (gqfl.S hM) rfl j).1).trans nfa_48
                  replace nfa_55 : h_56.2.1 qc = fa_55 := (funext fun j => (hs.a (gqc.S hM) rfl j).1).trans nfa_55
                  replace ex_15 := ex_15.trans (hs.a (gqd.S hM) rfl _).1.symm
                  replace hM := hM.tr (hs.mono (by decide))
                  obtain ⟨fa_57, dfa_57⟩ : ∃ g : Nat → Int32, g = hx_up ff c0.toNatClampNeg (-1 : Int32) := ⟨_, rfl⟩
                  have nfa_57 : h_56.2.1 qf = fa_57 := by rw [eh_56, dfa_57, ← af_qfO]; exact hx_pi_fun _ _ _ _
                  refine lv_aload_n hx hb dX10_file_167 rfl (lv_at hl 1 rfl) ?_
                  refine hk_getr hx hb hts hC_10 hown hW (gx.S hM) tt_10 47 (by decide) rfl kw_1190 ⟨rfl, rfl, rfl⟩ ((hM.o gx trivial rfl).2.trans f_x_47) dX10_file_168 ?_
                  refine lv_iload hx hb dX10_file_171 (lv_at hl 0 rfl) ?_
                  refine lv_iconst (v := -1) hx hb dX10_file_173 (by decide) ?_
                  have af_qhO := af_qh
                  refine hx_iast hx hb hW hT (hx_S.rf (M := [(82, 0)])) (gqh.S hM) tt_82 rfl ⟨by omega, by omega⟩ rfl (by decide) (List.mem_singleton.mpr rfl) dX10_file_174 (fun H locs h_58 eh_58 hW hT hs => ?_)
                  replace f_x_36 := (hs.o (gx.S hM) trivial rfl).1.trans f_x_36
                  replace af_qbe : h_58.2.1 qbe = bnh := (funext fun j => (hs.a (gqbe.S hM) rfl j).1).trans af_qbe
                  replace af_qod : h_58.2.1 qod = odf := (funext fun j => (hs.a (gqod.S hM) rfl j).1).trans af_qod
                  replace af_qsz : h_58.2.1 qsz = szf := (funext fun j => (hs.a (gqsz.S hM) rfl j).1).trans af_qsz
                  replace af_qsv : h_58.2.1 qsv = svf := (funext fun j => (hs.a (gqsv.S hM) rfl j).1).trans af_qsv
                  replace nfa_36 : h_58.2.1 qby = fa_36 := (funext fun j => (hs.a (gqby.S hM) rfl j).1).trans nfa_36
                  replace nfa_38 : h_58.2.1 qag = fa_38 := (funext fun j => (hs.a (gqag.S hM) rfl j).1).trans nfa_38
                  replace nfa_40 : h_58.2.1 qsu = fa_40 := (funext fun j => (hs.a (gqsu.S hM) rfl j).1).trans nfa_40
                  replace nfa_42 : h_58.2.1 qow = fa_42 := (funext fun j => (hs.a (gqow.S hM) rfl j).1).trans nfa_42
                  replace nfa_44 : h_58.2.1 qnt = fa_44 := (funext fun j => (hs.a (gqnt.S hM) rfl j).1).trans nfa_44
                  replace nfa_46 : h_58.2.1 qwt = fa_46 := (funext fun j => (hs.a (gqwt.S hM) rfl j).1).trans nfa_46
                  replace nfa_48 : h_58.2.1 qfl = fa_48 := (funext fun j => (hs.a (gqfl.S hM) rfl j).1).trans nfa_48
                  replace nfa_55 : h_58.2.1 qc = fa_55 := (funext fun j => (hs.a (gqc.S hM) rfl j).1).trans nfa_55
                  replace nfa_57 : h_58.2.1 qf = fa_57 := (funext fun j => (hs.a (gqf.S hM) rfl j).1).trans nfa_57
                  replace ex_15 := ex_15.trans (hs.a (gqd.S hM) rfl _).1.symm
                  replace hM := hM.tr (hs.mono (by decide))
                  obtain ⟨fa_59, dfa_59⟩ : ∃ g : Nat → Int32, g = hx_up hf c0.toNatClampNeg (-1 : Int32) := ⟨_, rfl⟩
                  have nfa_59 : h_58.2.1 qh = fa_59 := by rw [eh_58, dfa_59, ← af_qhO]; exact hx_pi_fun _ _ _ _
                  refine lv_aload_n hx hb dX10_file_175 rfl (lv_at hl 1 rfl) ?_
                  refine hk_getr hx hb hts hC_10 hown hW (gx.S hM) tt_10 48 (by decide) rfl kw_1191 ⟨rfl, rfl, rfl⟩ ((hM.o gx trivial rfl).2.trans f_x_48) dX10_file_176 ?_
                  refine lv_iload hx hb dX10_file_179 (lv_at hl 0 rfl) ?_
                  refine lv_iconst (v := -1) hx hb dX10_file_181 (by decide) ?_
                  have af_qodO := af_qod
                  refine hx_iast hx hb hW hT (hx_S.rf (M := [(83, 0)])) (gqod.S hM) tt_83 rfl ⟨by omega, by omega⟩ rfl (by decide) (List.mem_singleton.mpr rfl) dX10_file_182 (fun H locs h_60 eh_60 hW hT hs => ?_)
                  replace f_x_36 := (hs.o (gx.S hM) trivial rfl).1.trans f_x_36
                  replace af_qbe : h_60.2.1 qbe = bnh := (funext fun j => (hs.a (gqbe.S hM) rfl j).1).trans af_qbe
                  replace af_qsz : h_60.2.1 qsz = szf := (funext fun j => (hs.a (gqsz.S hM) rfl j).1).trans af_qsz
                  replace af_qsv : h_60.2.1 qsv = svf := (funext fun j => (hs.a (gqsv.S hM) rfl j).1).trans af_qsv
                  replace nfa_36 : h_60.2.1 qby = fa_36 := (funext fun j => (hs.a (gqby.S hM) rfl j).1).trans nfa_36
                  replace nfa_38 : h_60.2.1 qag = fa_38 := (funext fun j => (hs.a (gqag.S hM) rfl j).1).trans nfa_38
                  replace nfa_40 : h_60.2.1 qsu = fa_40 := (funext fun j => (hs.a (gqsu.S hM) rfl j).1).trans nfa_40
                  replace nfa_42 : h_60.2.1 qow = fa_42 := (funext fun j => (hs.a (gqow.S hM) rfl j).1).trans nfa_42
                  replace nfa_44 : h_60.2.1 qnt = fa_44 := (funext fun j => (hs.a (gqnt.S hM) rfl j).1).trans nfa_44
                  replace nfa_46 : h_60.2.1 qwt = fa_46 := (funext fun j => (hs.a (gqwt.S hM) rfl j).1).trans nfa_46
                  replace nfa_48 : h_60.2.1 qfl = fa_48 := (funext fun j => (hs.a (gqfl.S hM) rfl j).1).trans nfa_48
                  replace nfa_55 : h_60.2.1 qc = fa_55 := (funext fun j => (hs.a (gqc.S hM) rfl j).1).trans nfa_55
                  replace nfa_57 : h_60.2.1 qf = fa_57 := (funext fun j => (hs.a (gqf.S hM) rfl j).1).trans nfa_57
                  replace nfa_59 : h_60.2.1 qh = fa_59 := (funext fun j => (hs.a (gqh.S hM) rfl j).1).trans nfa_59
                  replace ex_15 := ex_15.trans (hs.a (gqd.S hM) rfl _).1.symm
                  replace hM := hM.tr (hs.mono (by decide))
                  obtain ⟨fa_61, dfa_61⟩ : ∃ g : Nat → Int32, g = hx_up odf c0.toNatClampNeg (-1 : Int32) := ⟨_, rfl⟩
                  have nfa_61 : h_60.2.1 qod = fa_61 := by rw [eh_60, dfa_61, ← af_qodO]; exact hx_pi_fun _ _ _ _
                  refine lv_aload_n hx hb dX10_file_183 rfl (lv_at hl 1 rfl) ?_
                  refine hk_getr hx hb hts hC_10 hown hW (gx.S hM) tt_10 49 (by decide) rfl kw_1192 ⟨rfl, rfl, rfl⟩ ((hM.o gx trivial rfl).2.trans f_x_49) dX10_file_184 ?_
                  refine lv_iload hx hb dX10_file_187 (lv_at hl 0 rfl) ?_
                  refine lv_iconst (v := -1) hx hb dX10_file_189 (by decide) ?_
                  have af_qszO := af_qsz
                  refine hx_iast hx hb hW hT (hx_S.rf (M := [(84, 0)])) (gqsz.S hM) tt_84 rfl ⟨by omega, by omega⟩ rfl (by decide) (List.mem_singleton.mpr rfl) dX10_file_190 (fun H locs h_62 eh_62 hW hT hs => ?_)
                  replace f_x_36 := (hs.o (gx.S hM) trivial rfl).1.trans f_x_36
                  replace af_qbe : h_62.2.1 qbe = bnh := (funext fun j => (hs.a (gqbe.S hM) rfl j).1).trans af_qbe
                  replace af_qsv : h_62.2.1 qsv = svf := (funext fun j => (hs.a (gqsv.S hM) rfl j).1).trans af_qsv
                  replace nfa_36 : h_62.2.1 qby = fa_36 := (funext fun j => (hs.a (gqby.S hM) rfl j).1).trans nfa_36
                  replace nfa_38 : h_62.2.1 qag = fa_38 := (funext fun j => (hs.a (gqag.S hM) rfl j).1).trans nfa_38
                  replace nfa_40 : h_62.2.1 qsu = fa_40 := (funext fun j => (hs.a (gqsu.S hM) rfl j).1).trans nfa_40
                  replace nfa_42 : h_62.2.1 qow = fa_42 := (funext fun j => (hs.a (gqow.S hM) rfl j).1).trans nfa_42
                  replace nfa_44 : h_62.2.1 qnt = fa_44 := (funext fun j => (hs.a (gqnt.S hM) rfl j).1).trans nfa_44
                  replace nfa_46 : h_62.2.1 qwt = fa_46 := (funext fun j => (hs.a (gqwt.S hM) rfl j).1).trans nfa_46
                  replace nfa_48 : h_62.2.1 qfl = fa_48 := (funext fun j => (hs.a (gqfl.S hM) rfl j).1).trans nfa_48
                  replace nfa_55 : h_62.2.1 qc = fa_55 := (funext fun j => (hs.a (gqc.S hM) rfl j).1).trans nfa_55
                  replace nfa_57 : h_62.2.1 qf = fa_57 := (funext fun j => (hs.a (gqf.S hM) rfl j).1).trans nfa_57
                  replace nfa_59 : h_62.2.1 qh = fa_59 := (funext fun j => (hs.a (gqh.S hM) rfl j).1).trans nfa_59
                  replace nfa_61 : h_62.2.1 qod = fa_61 := (funext fun j => (hs.a (gqod.S hM) rfl j).1).trans nfa_61
                  replace ex_15 := ex_15.trans (hs.a (gqd.S hM) rfl _).1.symm
                  replace hM := hM.tr (hs.mono (by decide))
                  obtain ⟨fa_63, dfa_63⟩ : ∃ g : Nat → Int32, g = hx_up szf c0.toNatClampNeg (-1 : Int32) := ⟨_, rfl⟩
                  have nfa_63 : h_62.2.1 qsz = fa_63 := by rw [eh_62, dfa_63, ← af_qszO]; exact hx_pi_fun _ _ _ _
                  refine lv_aload_n hx hb dX10_file_191 rfl (lv_at hl 1 rfl) ?_
                  refine hk_getr hx hb hts hC_10 hown hW (gx.S hM) tt_10 50 (by decide) rfl kw_1193 ⟨rfl, rfl, rfl⟩ ((hM.o gx trivial rfl).2.trans f_x_50) dX10_file_192 ?_
                  refine lv_iload hx hb dX10_file_195 (lv_at hl 0 rfl) ?_
                  refine lv_iconst (v := -1) hx hb dX10_file_197 (by decide) ?_
                  have af_qsvO := af_qsv
                  refine hx_iast hx hb hW hT (hx_S.rf (M := [(85, 0)])) (gqsv.S hM) tt_85 rfl ⟨by omega, by omega⟩ rfl (by decide) (List.mem_singleton.mpr rfl) dX10_file_198 (fun H locs h_64 eh_64 hW hT hs => ?_)
                  replace f_x_36 := (hs.o (gx.S hM) trivial rfl).1.trans f_x_36
                  replace af_qbe : h_64.2.1 qbe = bnh := (funext fun j => (hs.a (gqbe.S hM) rfl j).1).trans af_qbe
                  replace nfa_36 : h_64.2.1 qby = fa_36 := (funext fun j => (hs.a (gqby.S hM) rfl j).1).trans nfa_36
                  replace nfa_38 : h_64.2.1 qag = fa_38 := (funext fun j => (hs.a (gqag.S hM) rfl j).1).trans nfa_38
                  replace nfa_40 : h_64.2.1 qsu = fa_40 := (funext fun j => (hs.a (gqsu.S hM) rfl j).1).trans nfa_40
                  replace nfa_42 : h_64.2.1 qow = fa_42 := (funext fun j => (hs.a (gqow.S hM) rfl j).1).trans nfa_42
                  replace nfa_44 : h_64.2.1 qnt = fa_44 := (funext fun j => (hs.a (gqnt.S hM) rfl j).1).trans nfa_44
                  replace nfa_46 : h_64.2.1 qwt = fa_46 := (funext fun j => (hs.a (gqwt.S hM) rfl j).1).trans nfa_46
                  replace nfa_48 : h_64.2.1 qfl = fa_48 := (funext fun j => (hs.a (gqfl.S hM) rfl j).1).trans nfa_48
                  replace nfa_55 : h_64.2.1 qc = fa_55 := (funext fun j => (hs.a (gqc.S hM) rfl j).1).trans nfa_55
                  replace nfa_57 : h_64.2.1 qf = fa_57 := (funext fun j => (hs.a (gqf.S hM) rfl j).1).trans nfa_57
                  replace nfa_59 : h_64.2.1 qh = fa_59 := (funext fun j => (hs.a (gqh.S hM) rfl j).1).trans nfa_59
                  replace nfa_61 : h_64.2.1 qod = fa_61 := (funext fun j => (hs.a (gqod.S hM) rfl j).1).trans nfa_61
                  replace nfa_63 : h_64.2.1 qsz = fa_63 := (funext fun j => (hs.a (gqsz.S hM) rfl j).1).trans nfa_63
                  replace ex_15 := ex_15.trans (hs.a (gqd.S hM) rfl _).1.symm
                  replace hM := hM.tr (hs.mono (by decide))
                  obtain ⟨fa_65, dfa_65⟩ : ∃ g : Nat → Int32, g = hx_up svf c0.toNatClampNeg (-1 : Int32) := ⟨_, rfl⟩
                  have nfa_65 : h_64.2.1 qsv = fa_65 := by rw [eh_64, dfa_65, ← af_qsvO]; exact hx_pi_fun _ _ _ _
                  refine lv_iconst (v := 0) hx hb dX10_file_199 (by decide) ?_
                  refine lv_istore (lv' := [(8, .int (0 : Int32)), (7, .int c0), (0, .ref x), (1, .int i1), (2, .int i2), (3, .int i3), (4, .int i4), (5, .int i5), (6, .int i6)]) hx hb dX10_file_200 hl (by decide) rfl (fun ls hl => ?_)
                  have loop202 : ∀ (n202 : Nat) (iv202_8 : Int32) (ia202_qbe : Nat → Int32) (H : Heap) (locs : List Loc) (hL1 : List Nat) (hl1 : hx_h), 0 ≤ iv202_8.toInt → iv202_8.toInt ≤ 3 → (ia202_qbe = hv_b3k bnh c0.toInt.toNat (iv202_8.toInt).toNat) → ∀ (ls : Array Slot), 3 - iv202_8.toInt < (n202 : Int) → hx_W T_tb (P_ty dA) (dC, dI) vwCl (hx_A L sz) s.heap hL1 hl1 s H locs → hx_T T_tb hL1 hl1 → hx_S T_tb [(10, 36), (72, 0), (73, 0), (74, 0), (75, 0), (76, 0), (77, 0), (78, 0), (79, 0), (81, 0), (82, 0), (83, 0), (84, 0), (85, 0), (87, 0)] L h hL1 hl1 → hl1.2.1 x 36 = c0 → hl1.2.1 qbe = ia202_qbe → hl1.2.1 qby = fa_36 → hl1.2.1 qag = fa_38 → hl1.2.1 qsu = fa_40 → hl1.2.1 qow = fa_42 → hl1.2.1 qnt = fa_44 → hl1.2.1 qwt = fa_46 → hl1.2.1 qfl = fa_48 → hl1.2.1 qc = fa_55 → hl1.2.1 qf = fa_57 → hl1.2.1 qh = fa_59 → hl1.2.1 qod = fa_61 → hl1.2.1 qsz = fa_63 → hl1.2.1 qsv = fa_65 → lv_has ls 9 [(8, .int iv202_8), (7, .int c0), (0, .ref x), (1, .int i1), (2, .int i2), (3, .int i3), (4, .int i4), (5, .int i5), (6, .int i6)] → W p l e ({ frames := 2, cells := 0, slots := 0, locals := 43 }) s m ([.ref x, .int i1, .int i2, .int i3, .int i4, .int i5, .int i6] : List Value).toArray below meth c H locs 0 0 (MQ below (va_Qi (fun (r : Int32) (u : List Nat × hx_h) => (∃ (cn1 : Int32) (hf1 : Nat → Int32) (plf1 : Nat → Int32) (ff1 : Nat → Int32) (agf1 : Nat → Int32) (byf1 : Nat → Int32) (smf1 : Nat → Int32) (frf1 : Nat → Int32) (flf1 : Nat → Int32) (ntf1 : Nat → Int32) (wtf1 : Nat → Int32) (bnh1 : Nat → Int32) (odf1 : Nat → Int32) (szf1 : Nat → Int32) (svf1 : Nat → Int32), u.2.2.1 x 36 = cn1 ∧ u.2.2.1 qh = hf1 ∧ u.2.2.1 qc = plf1 ∧ u.2.2.1 qf = ff1 ∧ u.2.2.1 qag = agf1 ∧ u.2.2.1 qby = byf1 ∧ u.2.2.1 qsu = smf1 ∧ u.2.2.1 qow = frf1 ∧ u.2.2.1 qfl = flf1 ∧ u.2.2.1 qnt = ntf1 ∧ u.2.2.1 qwt = wtf1 ∧ u.2.2.1 qbe = bnh1 ∧ u.2.2.1 qod = odf1 ∧ u.2.2.1 qsz = szf1 ∧ u.2.2.1 qsv = svf1 ∧ ((m0.toInt = hx_hc hf1 cn1.toInt.toNat ∧ hx_PL plf1 cn1.toInt a0.toInt ∧ (hx_FS c0.toInt pn0.toInt nw0.toInt i1.toInt i2.toInt i3.toInt i4.toInt i6.toInt df r.toInt cn1.toInt) ∧ hx_CD c0.toInt r.toInt (-1) ff ff1 ∧ ((cn1.toInt = c0.toInt ∧ hf1 = hf ∧ ff1 = ff) ∨ (cn1.toInt = c0.toInt + 1 ∧ hf1 = hx_up hf c0.toInt.toNat (-1) ∧ ff1 = hx_up ff c0.toInt.toNat (-1))) ∧ hw_UP r.toInt c0.toInt i2 agf agf1 ∧ hx_CD c0.toInt r.toInt (-1) hf hf1 ∧ hw_UP r.toInt c0.toInt i1 byf byf1 ∧ hx_CD c0.toInt r.toInt i3 smf smf1 ∧ hx_CD c0.toInt r.toInt i4 frf frf1 ∧ hx_CD c0.toInt r.toInt nw0 flf flf1 ∧ hw_UP r.toInt c0.toInt i5 ntf ntf1 ∧ hw_UP r.toInt c0.toInt i6 wtf wtf1 ∧ (∃ pv : Int32, pv.toInt = ((hv_IF A nw0.toInt a0.toInt.toNat : Nat) : Int) ∧ hw_UP r.toInt c0.toInt pv plf plf1) ∧ hv_BU r.toInt c0.toInt bnh bnh1) ∧ (hx_CD c0.toInt r.toInt (-1) odf odf1 ∧ hx_CD c0.toInt r.toInt (-1) szf szf1 ∧ hx_CD c0.toInt r.toInt (-1) svf svf1))) ∧ hx_T T_tb u.1 u.2 ∧ hx_S T_tb [(10, 36), (72, 0), (73, 0), (74, 0), (75, 0), (76, 0), (77, 0), (78, 0), (79, 0), (81, 0), (82, 0), (83, 0), (84, 0), (85, 0), (87, 0)] L h u.1 u.2) (hx_E T_tb (P_ty dA) (dC, dI) vwCl (hx_A L sz)) (hx_A L sz)) ([.ref x, .int i1, .int i2, .int i3, .int i4, .int i5, .int i6] : List Value).toArray s 0 0 (hx_A L sz)) (F0 m 202 ls []) := by
                    intro n202
                    induction n202 with
                    | zero => intro iv202_8 ia202_qbe H locs hL1 hl1 bliv202_8 buiv202_8 vi202_0 ls hn202; exfalso; omega
                    | succ n202 ih202 =>
                      intro iv202_8 ia202_qbe H locs hL1 hl1 bliv202_8 buiv202_8 vi202_0 ls hn202 hW hT hM f_x_36 nia202_qbe nfa_36 nfa_38 nfa_40 nfa_42 nfa_44 nfa_46 nfa_48 nfa_55 nfa_57 nfa_59 nfa_61 nfa_63 nfa_65 hl
                      refine lv_iload hx hb dX10_file_202 (lv_at hl 0 rfl) ?_
                      refine lv_iconst (v := 3) hx hb dX10_file_204 (by decide) ?_
                      refine hb_icmp_ge (zx := iv202_8.toInt) (zy := 3) (tgt := 227) hx hb rfl (by decide) dX10_file_205 (by decide) (fun c_66 => ?_) (fun c_66 => ?_)
                      · skip
                        refine lv_aload_n hx hb dX10_file_227 rfl (lv_at hl 2 rfl) ?_
                        refine lv_dup hx hb dX10_file_228 rfl ?_
                        refine hk_geti hx hb hts hC_10 hown hW (gx.S hM) tt_10 36 (by decide) rfl kw_1179 ⟨rfl, rfl, rfl⟩ f_x_36 dX10_file_229 ?_
                        refine lv_iconst (v := 1) hx hb dX10_file_232 (by decide) ?_
                        refine lv_iadd hx hb dX10_file_233 ?_
                        have rg_67 := i32_r c0
                        refine lv_topi (fun x_68 ex_68 => ?_)
                        have zx_68 : x_68.toInt = c0.toInt + 1 := by rw [ex_68]; exact i32_add rfl (by decide) (by omega) (by omega)
                        refine hx_puti hx hb hts hC_10 hown hW hT (hx_S.rf (M := [(10, 36)])) (gx.S hM) tt_10 36 (by decide) rfl kw_1179 ⟨rfl, rfl, rfl⟩ rfl (x := x_68) ⟨by omega, by omega⟩ rfl rfl rfl (List.mem_singleton.mpr rfl) dX10_file_234 (fun H locs h_69 eh_69 hW hT hs => ?_)
                        replace nfa_36 : h_69.2.1 qby = fa_36 := (funext fun j => (hs.a (gqby.S hM) rfl j).1).trans nfa_36
                        replace nfa_38 : h_69.2.1 qag = fa_38 := (funext fun j => (hs.a (gqag.S hM) rfl j).1).trans nfa_38
                        replace nfa_40 : h_69.2.1 qsu = fa_40 := (funext fun j => (hs.a (gqsu.S hM) rfl j).1).trans nfa_40
                        replace nfa_42 : h_69.2.1 qow = fa_42 := (funext fun j => (hs.a (gqow.S hM) rfl j).1).trans nfa_42
                        replace nfa_44 : h_69.2.1 qnt = fa_44 := (funext fun j => (hs.a (gqnt.S hM) rfl j).1).trans nfa_44
                        replace nfa_46 : h_69.2.1 qwt = fa_46 := (funext fun j => (hs.a (gqwt.S hM) rfl j).1).trans nfa_46
                        replace nfa_48 : h_69.2.1 qfl = fa_48 := (funext fun j => (hs.a (gqfl.S hM) rfl j).1).trans nfa_48
                        replace nfa_55 : h_69.2.1 qc = fa_55 := (funext fun j => (hs.a (gqc.S hM) rfl j).1).trans nfa_55
                        replace nfa_57 : h_69.2.1 qf = fa_57 := (funext fun j => (hs.a (gqf.S hM) rfl j).1).trans nfa_57
                        replace nfa_59 : h_69.2.1 qh = fa_59 := (funext fun j => (hs.a (gqh.S hM) rfl j).1).trans nfa_59
                        replace nfa_61 : h_69.2.1 qod = fa_61 := (funext fun j => (hs.a (gqod.S hM) rfl j).1).trans nfa_61
                        replace nfa_63 : h_69.2.1 qsz = fa_63 := (funext fun j => (hs.a (gqsz.S hM) rfl j).1).trans nfa_63
                        replace nfa_65 : h_69.2.1 qsv = fa_65 := (funext fun j => (hs.a (gqsv.S hM) rfl j).1).trans nfa_65
                        replace nia202_qbe : h_69.2.1 qbe = ia202_qbe := (funext fun j => (hs.a (gqbe.S hM) rfl j).1).trans nia202_qbe
                        replace hM := hM.tr (hs.mono (by decide))
                        have f_70 : h_69.2.1 x 36 = x_68 := by rw [eh_69]; exact hx_pi_at _ _ _ _
                        refine lv_iload hx hb dX10_file_237 (lv_at hl 1 rfl) ?_
                        exact hx_reti hx hb hr hlk hW ⟨⟨x_68, fa_59, fa_55, fa_57, fa_38, fa_36, fa_40, fa_42, fa_48, fa_44, fa_46, ia202_qbe, fa_61, fa_63, fa_65, f_70, nfa_59, nfa_55, nfa_57, nfa_38, nfa_36, nfa_40, nfa_42, nfa_48, nfa_44, nfa_46, nia202_qbe, nfa_61, nfa_63, nfa_65, ⟨⟨hx_filed hHC (by omega) rfl (by decide) dfa_59 (by omega), hx_PL_up hPL rfl (by omega) ⟨by omega, by omega⟩ dfa_55 (by omega), (Or.inr ⟨by omega, by omega, by unfold hx_FC; exact ⟨by omega, by omega, by omega, by omega, (by show (df i2.toNatClampNeg).toInt = 0; rw [← ax_15]; omega), by omega, by omega, by omega⟩⟩), (Or.inr ⟨by omega, by omega, dfa_57⟩), (Or.inr ⟨by omega, dfa_59, dfa_57⟩), (Or.inr ⟨by omega, dfa_38⟩), (Or.inr ⟨by omega, by omega, dfa_59⟩), (Or.inr ⟨by omega, dfa_36⟩), (Or.inr ⟨by omega, by omega, dfa_40⟩), (Or.inr ⟨by omega, by omega, dfa_42⟩), (Or.inr ⟨by omega, by omega, dfa_48⟩), (Or.inr ⟨by omega, dfa_44⟩), (Or.inr ⟨by omega, dfa_46⟩), ⟨_, hr_53.1, (Or.inr ⟨by omega, dfa_55⟩)⟩, (Or.inr ⟨by omega, (by have h8 := vi202_0; rw [show iv202_8.toInt.toNat = 3 by omega] at h8; exact h8)⟩)⟩, ⟨(Or.inr ⟨by omega, by omega, dfa_61⟩), (Or.inr ⟨by omega, by omega, dfa_63⟩), (Or.inr ⟨by omega, by omega, dfa_65⟩)⟩⟩⟩, hT, hM⟩ dX10_file_239
                      · skip
                        refine lv_aload_n hx hb dX10_file_208 rfl (lv_at hl 2 rfl) ?_
                        refine hk_getr hx hb hts hC_10 hown hW (gx.S hM) tt_10 52 (by decide) rfl kw_1195 ⟨rfl, rfl, rfl⟩ ((hM.o gx trivial rfl).2.trans f_x_52) dX10_file_209 ?_
                        refine lv_iconst (v := 3) hx hb dX10_file_212 (by decide) ?_
                        refine lv_iload hx hb dX10_file_213 (lv_at hl 1 rfl) ?_
                        refine lv_imul hx hb dX10_file_215 ?_
                        refine lv_topi (fun x_71 ex_71 => ?_)
                        have zx_71 : x_71.toInt = 3 * c0.toInt := by rw [ex_71]; exact i32_mul (by decide) rfl rfl (by omega) (by omega)
                        refine lv_iload hx hb dX10_file_216 (lv_at hl 0 rfl) ?_
                        refine lv_iadd hx hb dX10_file_218 ?_
                        have rg_72 := i32_r x_71
                        have rg_73 := i32_r iv202_8
                        refine lv_topi (fun x_74 ex_74 => ?_)
                        have zx_74 : x_74.toInt = x_71.toInt + iv202_8.toInt := by rw [ex_74]; exact i32_add rfl rfl (by omega) (by omega)
                        refine lv_iconst (v := -1) hx hb dX10_file_219 (by decide) ?_
                        have nia202_qbeO := nia202_qbe
                        refine hx_iast hx hb hW hT (hx_S.rf (M := [(87, 0)])) (gqbe.S hM) tt_87 rfl ⟨by omega, by omega⟩ rfl (by decide) (List.mem_singleton.mpr rfl) dX10_file_220 (fun H locs h_75 eh_75 hW hT hs => ?_)
                        replace f_x_36 := (hs.o (gx.S hM) trivial rfl).1.trans f_x_36
                        replace nfa_36 : h_75.2.1 qby = fa_36 := (funext fun j => (hs.a (gqby.S hM) rfl j).1).trans nfa_36
                        replace nfa_38 : h_75.2.1 qag = fa_38 := (funext fun j => (hs.a (gqag.S hM) rfl j).1).trans nfa_38
                        replace nfa_40 : h_75.2.1 qsu = fa_40 := (funext fun j => (hs.a (gqsu.S hM) rfl j).1).trans nfa_40
                        replace nfa_42 : h_75.2.1 qow = fa_42 := (funext fun j => (hs.a (gqow.S hM) rfl j).1).trans nfa_42
                        replace nfa_44 : h_75.2.1 qnt = fa_44 := (funext fun j => (hs.a (gqnt.S hM) rfl j).1).trans nfa_44
                        replace nfa_46 : h_75.2.1 qwt = fa_46 := (funext fun j => (hs.a (gqwt.S hM) rfl j).1).trans nfa_46
                        replace nfa_48 : h_75.2.1 qfl = fa_48 := (funext fun j => (hs.a (gqfl.S hM) rfl j).1).trans nfa_48
                        replace nfa_55 : h_75.2.1 qc = fa_55 := (funext fun j => (hs.a (gqc.S hM) rfl j).1).trans nfa_55
                        replace nfa_57 : h_75.2.1 qf = fa_57 := (funext fun j => (hs.a (gqf.S hM) rfl j).1).trans nfa_57
                        replace nfa_59 : h_75.2.1 qh = fa_59 := (funext fun j => (hs.a (gqh.S hM) rfl j).1).trans nfa_59
                        replace nfa_61 : h_75.2.1 qod = fa_61 := (funext fun j => (hs.a (gqod.S hM) rfl j).1).trans nfa_61
                        replace nfa_63 : h_75.2.1 qsz = fa_63 := (funext fun j => (hs.a (gqsz.S hM) rfl j).1).trans nfa_63
                        replace nfa_65 : h_75.2.1 qsv = fa_65 := (funext fun j => (hs.a (gqsv.S hM) rfl j).1).trans nfa_65
                        replace hM := hM.tr (hs.mono (by decide))
                        obtain ⟨fa_76, dfa_76⟩ : ∃ g : Nat → Int32, g = hx_up ia202_qbe x_74.toNatClampNeg (-1 : Int32) := ⟨_, rfl⟩
                        have nfa_76 : h_75.2.1 qbe = fa_76 := by rw [eh_75, dfa_76, ← nia202_qbeO]; exact hx_pi_fun _ _ _ _
                        obtain ⟨x_77, ex_77⟩ : ∃ y : Int32, y = iv202_8 + Int32.ofInt 1 := ⟨_, rfl⟩
                        have zx_77 : x_77.toInt = iv202_8.toInt + (1) := by rw [ex_77]; exact i32_add rfl (by decide) (by omega) (by omega)
                        refine lv_iinc (v := x_77) (lv' := [(8, .int x_77), (7, .int c0), (0, .ref x), (1, .int i1), (2, .int i2), (3, .int i3), (4, .int i4), (5, .int i5), (6, .int i6)]) hx hb dX10_file_221 hl (k := 0) rfl ex_77.symm (by decide) rfl (fun ls hl => ?_)
                        refine lv_goto (tgt := 202) hx hb dX10_file_224 (by decide) ?_
                        exact ih202 x_77 fa_76 _ _ hL1 h_75 (by omega) (by omega) (hv_b3k_s vi202_0 (by omega) (by unfold Int32.toNatClampNeg; omega) dfa_76 zx_77) ls (by omega) hW hT hM f_x_36 nfa_76 nfa_36 nfa_38 nfa_40 nfa_42 nfa_44 nfa_46 nfa_48 nfa_55 nfa_57 nfa_59 nfa_61 nfa_63 nfa_65 (lv_sub hl [0, 1, 2, 3, 4, 5, 6, 7, 8] rfl)
                  have zk_0 : (0 : Int32).toInt = 0 := by decide
                  exact loop202 4 (0 : Int32) bnh _ _ L_49 h_64 (by decide) (by decide) (by rw [zk_0]; rfl) ls (by omega) hW hT hM f_x_36 af_qbe nfa_36 nfa_38 nfa_40 nfa_42 nfa_44 nfa_46 nfa_48 nfa_55 nfa_57 nfa_59 nfa_61 nfa_63 nfa_65 hl
                · skip
                  replace hr_33 := hr_33.resolve_right (fun z9 => absurd (c_34.symm.trans z9.1) (by decide))
                  replace hr_33 := hr_33.2
                  refine lv_iconst (v := -1) hx hb dX10_file_74 (by decide) ?_
                  exact hx_reti hx hb hr hlk hW ⟨⟨c0, hf, plf, ff, agf, byf, smf, frf, flf, ntf, wtf, bnh, odf, szf, svf, f_x_36, af_qh, af_qc, af_qf, af_qag, af_qby, af_qsu, af_qow, af_qfl, af_qnt, af_qwt, af_qbe, af_qod, af_qsz, af_qsv, ⟨⟨hHC, hPL, (Or.inl ⟨by decide, by omega, fun hc => by unfold hx_FC at hc; have h1 : (df i2.toNatClampNeg).toInt = 0 := hc.2.2.2.2.1; rw [← ax_15] at h1; omega⟩), (Or.inl ⟨by decide, rfl⟩), (Or.inl ⟨by omega, rfl, rfl⟩), (Or.inl ⟨by decide, rfl⟩), (Or.inl ⟨by decide, rfl⟩), (Or.inl ⟨by decide, rfl⟩), (Or.inl ⟨by decide, rfl⟩), (Or.inl ⟨by decide, rfl⟩), (Or.inl ⟨by decide, rfl⟩), (Or.inl ⟨by decide, rfl⟩), (Or.inl ⟨by decide, rfl⟩), ⟨pv9, hpv9, (Or.inl ⟨by decide, rfl⟩)⟩, (Or.inl ⟨by decide, rfl⟩)⟩, ⟨(Or.inl ⟨by decide, rfl⟩), (Or.inl ⟨by decide, rfl⟩), (Or.inl ⟨by decide, rfl⟩)⟩⟩⟩, hT, hM⟩ dX10_file_75
