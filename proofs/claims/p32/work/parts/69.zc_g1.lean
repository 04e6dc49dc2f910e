theorem hz_mi_0 {a b : Int} (ha : 0 ≤ a) (hb : 0 ≤ b) : 0 ≤ hz_mi a b := by unfold hz_mi; split <;> omega


set_option maxHeartbeats 4000000 in
set_option maxRecDepth 100000 in
theorem t_X10_finds_v (l : Launch) (dC : Nat → ClassId) (dI : Nat → Nat → Nat) (dA : Nat → ClassId) (L : List Nat) (h : hx_h) (sz : Nat) (x : Nat) (hT : hx_T T_tb L h) (gx : hx_g L h x 10) (qdb : Nat) (gqdb : hx_g L h qdb 108) (f_x_82 : h.2.2 x 82 = some qdb) (qrg : Nat) (gqrg : hx_g L h qrg 111) (f_x_89 : h.2.2 x 89 = some qrg) (qbr : Nat) (gqbr : hx_g L h qbr 110) (f_x_88 : h.2.2 x 88 = some qbr) (dbf : Nat → Int32) (af_qdb : h.2.1 qdb = dbf) (pn0 : Int32) (f_x_20 : h.2.1 x 20 = pn0) (V : Int → Int) (hV : ∀ x : Nat, x < 1600 → (dbf x).toInt = V (x : Int)) (hVb : ∀ x : Int, 0 ≤ V x ∧ V x ≤ 61000000) : Met l yX10_finds (Cond.code yX10_finds cX10_finds 8 none :: hx_all) ({ frames := 1, cells := 0, slots := 0, locals := 25 }) (va_Pc [.ref x] (hx_B T_tb (P_ty dA) (dC, dI) vwCl L h sz)) (va_Qv (fun (u : List Nat × hx_h) => (∃ (bl1 : Int32) (bs1 : Int32) (brf1 : Nat → Int32), u.2.2.1 x 86 = bl1 ∧ u.2.2.1 x 87 = bs1 ∧ u.2.2.1 qbr = brf1 ∧ (hz_SR (hz_F1 V pn0.toInt pn0.toInt.toNat) bl1.toInt bs1.toInt brf1)) ∧ hx_T T_tb u.1 u.2 ∧ hx_S T_tb [(10, 86), (10, 87), (110, 0), (111, 0)] L h u.1 u.2) (hx_E T_tb (P_ty dA) (dC, dI) vwCl (hx_A L sz)) (hx_A L sz)) 0 0 (hx_A L sz) := by
  refine hx_met (lv := [(0, .ref x)]) (by decide +kernel) rfl (Nat.le_of_ble_eq_true rfl) rfl ?_
  intro p e s m below meth c hx hb hml hr hlk hts0 hown hin hsz hW ls hl
  have hts : ∀ w ∈ hx_all, w.before _ s = true := fun w hw => hts0 w (List.mem_cons_of_mem _ hw)
  have hown : s.vm.findClass "SmallCourtModel" = some m.cls := hown
  have hM : hx_S T_tb [(10, 86), (10, 87), (110, 0), (111, 0)] L h L h := hx_S.rf
  have b_pn0 := hT.gi gx tt_10 (k := 20) rfl
  rw [f_x_20] at b_pn0
  have b_pn0 : 0 ≤ pn0.toInt ∧ pn0.toInt ≤ 40 := b_pn0
  refine lv_aload_n hx hb dX10_finds_0 rfl (lv_at hl 0 rfl) ?_
  refine lv_iconst (v := 0) hx hb dX10_finds_1 ?o0 ?_
  case o0 => decide
  refine hx_puti hx hb hts hC_10 hown hW hT (hx_S.rf (M := [(10, 86)])) (gx.S hM) tt_10 86 ?o1 rfl kw_1229 ⟨rfl, rfl, rfl⟩ rfl (x := (0 : Int32)) ?o2 rfl rfl rfl (List.mem_singleton.mpr rfl) dX10_finds_2 (fun H locs h_1 eh_1 hW hT hs => ?_)
  case o1 => decide
  case o2 => decide
  replace hM := hM.tr (hs.mono ?o3)
  case o3 => decide
  have f_2 : h_1.2.1 x 86 = (0 : Int32) := ?o4
  case o4 =>
    rw [eh_1]
    exact hx_pi_at _ _ _ _
  refine lv_aload_n hx hb dX10_finds_5 rfl (lv_at hl 0 rfl) ?_
  refine lv_iconst (v := 0) hx hb dX10_finds_6 ?o5 ?_
  case o5 => decide
  refine hx_puti hx hb hts hC_10 hown hW hT (hx_S.rf (M := [(10, 87)])) (gx.S hM) tt_10 87 ?o6 rfl kw_1230 ⟨rfl, rfl, rfl⟩ rfl (x := (0 : Int32)) ?o7 rfl rfl rfl (List.mem_singleton.mpr rfl) dX10_finds_7 (fun H locs h_3 eh_3 hW hT hs => ?_)
  case o6 => decide
  case o7 => decide
  replace f_2 := (hs.o (gx.S hM) trivial rfl).1.trans f_2
  replace hM := hM.tr (hs.mono ?o8)
  case o8 => decide
  have f_4 : h_3.2.1 x 87 = (0 : Int32) := ?o9
  case o9 =>
    rw [eh_3]
    exact hx_pi_at _ _ _ _
  refine lv_iconst (v := 0) hx hb dX10_finds_10 ?o10 ?_
  case o10 => decide
  refine lv_istore_n (lv' := [(1, .int (0 : Int32)), (0, .ref x)]) hx hb dX10_finds_11 rfl hl ?o11 rfl (fun ls hl => ?_)
  case o11 => decide
  obtain ⟨fa_5, nfa_5⟩ : ∃ g : Nat → Int32, h_3.2.1 qrg = g := ⟨_, rfl⟩
  obtain ⟨fa_6, nfa_6⟩ : ∃ g : Nat → Int32, h_3.2.1 qbr = g := ⟨_, rfl⟩
  have loop12 : ∀ (n12 : Nat) (iv12_1 fw12_x_86 fw12_x_87 : Int32) (ia12_qrg ia12_qbr : Nat → Int32) (H : Heap) (locs : List Loc) (hL1 : List Nat) (hl1 : hx_h), 0 ≤ iv12_1.toInt → iv12_1.toInt ≤ 40 → -2147483648 ≤ fw12_x_86.toInt → fw12_x_86.toInt ≤ 2147483647 → 0 ≤ fw12_x_87.toInt → fw12_x_87.toInt ≤ 4 → (hz_SR (hz_F1 V pn0.toInt (iv12_1.toInt).toNat) fw12_x_86.toInt fw12_x_87.toInt ia12_qbr) → (iv12_1.toInt ≤ pn0.toInt) → ∀ (ls : Array Slot), 40 - iv12_1.toInt < (n12 : Int) → hx_W T_tb (P_ty dA) (dC, dI) vwCl (hx_A L sz) s.heap hL1 hl1 s H locs → hx_T T_tb hL1 hl1 → hx_S T_tb [(10, 86), (10, 87), (110, 0), (111, 0)] L h hL1 hl1 → hl1.2.1 x 86 = fw12_x_86 → hl1.2.1 x 87 = fw12_x_87 → hl1.2.1 qrg = ia12_qrg → hl1.2.1 qbr = ia12_qbr → lv_has ls 8 [(1, .int iv12_1), (0, .ref x)] → W p l e ({ frames := 1, cells := 0, slots := 0, locals := 25 }) s m ([.ref x] : List Value).toArray below meth c H locs 0 0 (MQ below (va_Qv (fun (u : List Nat × hx_h) => (∃ (bl1 : Int32) (bs1 : Int32) (brf1 : Nat → Int32), u.2.2.1 x 86 = bl1 ∧ u.2.2.1 x 87 = bs1 ∧ u.2.2.1 qbr = brf1 ∧ (hz_SR (hz_F1 V pn0.toInt pn0.toInt.toNat) bl1.toInt bs1.toInt brf1)) ∧ hx_T T_tb u.1 u.2 ∧ hx_S T_tb [(10, 86), (10, 87), (110, 0), (111, 0)] L h u.1 u.2) (hx_E T_tb (P_ty dA) (dC, dI) vwCl (hx_A L sz)) (hx_A L sz)) ([.ref x] : List Value).toArray s 0 0 (hx_A L sz)) (F0 m 12 ls []) := by
    intro n12
    induction n12 with
    | zero => intro iv12_1 fw12_x_86 fw12_x_87 ia12_qrg ia12_qbr H locs hL1 hl1 bliv12_1 buiv12_1 blfw12_x_86 bufw12_x_86 blfw12_x_87 bufw12_x_87 vi12_0 vi12_1 ls hn12; exfalso; omega
    | succ n12 ih12 =>
      intro iv12_1 fw12_x_86 fw12_x_87 ia12_qrg ia12_qbr H locs hL1 hl1 bliv12_1 buiv12_1 blfw12_x_86 bufw12_x_86 blfw12_x_87 bufw12_x_87 vi12_0 vi12_1 ls hn12 hW hT hM ffw12_x_86 ffw12_x_87 nia12_qrg nia12_qbr hl
      refine lv_iload_n hx hb dX10_finds_12 rfl (lv_at hl 0 rfl) ?_
      refine lv_aload_n hx hb dX10_finds_13 rfl (lv_at hl 1 rfl) ?_
      refine hk_geti hx hb hts hC_10 hown hW (gx.S hM) tt_10 20 ?o12 rfl kw_1163 ⟨rfl, rfl, rfl⟩ ((hM.o gx trivial rfl).1.trans f_x_20) dX10_finds_14 ?_
      case o12 => decide
      refine hb_icmp_ge (zx := iv12_1.toInt) (zy := pn0.toInt) (tgt := 226) hx hb rfl rfl dX10_finds_17 ?o13 (fun c_7 => ?_) (fun c_7 => ?_)
      case o13 => decide
      · skip
        exact hx_retv hx hb hr hlk hW ⟨⟨fw12_x_86, fw12_x_87, ia12_qbr, ffw12_x_86, ffw12_x_87, nia12_qbr, (by have h9 := vi12_0; rw [show iv12_1.toInt.toNat = pn0.toInt.toNat by omega] at h9; exact h9)⟩, hT, hM⟩ dX10_finds_226
      · skip
        refine lv_aload_n hx hb dX10_finds_20 rfl (lv_at hl 1 rfl) ?_
        refine hk_getr hx hb hts hC_10 hown hW (gx.S hM) tt_10 89 ?o14 rfl kw_1232 ⟨rfl, rfl, rfl⟩ ((hM.o gx trivial rfl).2.trans f_x_89) dX10_finds_21 ?_
        case o14 => decide
        refine lv_iconst (v := 0) hx hb dX10_finds_24 ?o15 ?_
        case o15 => decide
        refine lv_iload_n hx hb dX10_finds_25 rfl (lv_at hl 0 rfl) ?_
        have nia12_qrgO := nia12_qrg
        refine hx_iast hx hb hW hT (hx_S.rf (M := [(111, 0)])) (gqrg.S hM) tt_111 rfl ?o16 rfl ⟨?o17, ?o18⟩ (List.mem_singleton.mpr rfl) dX10_finds_26 (fun H locs h_8 eh_8 hW hT hs => ?_)
        case o16 => decide
        case o17 => omega
        case o18 => omega
        replace ffw12_x_86 := (hs.o (gx.S hM) trivial rfl).1.trans ffw12_x_86
        replace ffw12_x_87 := (hs.o (gx.S hM) trivial rfl).1.trans ffw12_x_87
        replace nia12_qbr : h_8.2.1 qbr = ia12_qbr := (funext fun j => (hs.a (gqbr.S hM) rfl j).1).trans nia12_qbr
        replace hM := hM.tr (hs.mono ?o19)
        case o19 => decide
        obtain ⟨fa_9, dfa_9⟩ : ∃ g : Nat → Int32, g = hx_up ia12_qrg (0 : Int32).toNatClampNeg iv12_1 := ⟨_, rfl⟩
        have nfa_9 : h_8.2.1 qrg = fa_9 := ?o20
        case o20 =>
          rw [eh_8, dfa_9, ← nia12_qrgO]
          exact hx_pi_fun _ _ _ _
        have rg27_0 := hx_up_c (k := 0) dfa_9 ?o21
        case o21 => decide
        refine lv_iload_n hx hb dX10_finds_27 rfl (lv_at hl 0 rfl) ?_
        refine lv_iconst (v := 1) hx hb dX10_finds_28 ?o22 ?_
        case o22 => decide
        refine lv_iadd hx hb dX10_finds_29 ?_
        have rg_10 := i32_r iv12_1
        refine lv_topi (fun x_11 ex_11 => ?_)
        have zx_11 : x_11.toInt = iv12_1.toInt + 1 := ?o23
        case o23 =>
          rw [ex_11]
          refine i32_add rfl ?o24 ?o25 ?o26
          case o24 => decide
          case o25 => omega
          case o26 => omega
        refine lv_istore_n (lv' := [(2, .int x_11), (1, .int iv12_1), (0, .ref x)]) hx hb dX10_finds_30 rfl hl ?o27 rfl (fun ls hl => ?_)
        case o27 => decide
        have loop31 : ∀ (n31 : Nat) (iv31_2 fw31_x_86 fw31_x_87 : Int32) (ia31_qrg ia31_qbr : Nat → Int32) (H : Heap) (locs : List Loc) (hL1 : List Nat) (hl1 : hx_h), 0 ≤ iv31_2.toInt → iv31_2.toInt ≤ 40 → -2147483648 ≤ fw31_x_86.toInt → fw31_x_86.toInt ≤ 2147483647 → 0 ≤ fw31_x_87.toInt → fw31_x_87.toInt ≤ 4 → (hz_SR (hz_F2 V pn0.toInt iv12_1.toInt (hz_F1 V pn0.toInt iv12_1.toInt.toNat) (iv31_2.toInt - iv12_1.toInt - 1).toNat) fw31_x_86.toInt fw31_x_87.toInt ia31_qbr) → ((ia31_qrg 0).toInt = iv12_1.toInt) → (iv12_1.toInt + 1 ≤ iv31_2.toInt) → (iv31_2.toInt ≤ pn0.toInt) → ∀ (ls : Array Slot), 40 - iv31_2.toInt < (n31 : Int) → hx_W T_tb (P_ty dA) (dC, dI) vwCl (hx_A L sz) s.heap hL1 hl1 s H locs → hx_T T_tb hL1 hl1 → hx_S T_tb [(10, 86), (10, 87), (110, 0), (111, 0)] L h hL1 hl1 → hl1.2.1 x 86 = fw31_x_86 → hl1.2.1 x 87 = fw31_x_87 → hl1.2.1 qrg = ia31_qrg → hl1.2.1 qbr = ia31_qbr → lv_has ls 8 [(2, .int iv31_2), (1, .int iv12_1), (0, .ref x)] → W p l e ({ frames := 1, cells := 0, slots := 0, locals := 25 }) s m ([.ref x] : List Value).toArray below meth c H locs 0 0 (MQ below (va_Qv (fun (u : List Nat × hx_h) => (∃ (bl1 : Int32) (bs1 : Int32) (brf1 : Nat → Int32), u.2.2.1 x 86 = bl1 ∧ u.2.2.1 x 87 = bs1 ∧ u.2.2.1 qbr = brf1 ∧ (hz_SR (hz_F1 V pn0.toInt pn0.toInt.toNat) bl1.toInt bs1.toInt brf1)) ∧ hx_T T_tb u.1 u.2 ∧ hx_S T_tb [(10, 86), (10, 87), (110, 0), (111, 0)] L h u.1 u.2) (hx_E T_tb (P_ty dA) (dC, dI) vwCl (hx_A L sz)) (hx_A L sz)) ([.ref x] : List Value).toArray s 0 0 (hx_A L sz)) (F0 m 31 ls []) := by
          intro n31
          induction n31 with
          | zero => intro iv31_2 fw31_x_86 fw31_x_87 ia31_qrg ia31_qbr H locs hL1 hl1 bliv31_2 buiv31_2 blfw31_x_86 bufw31_x_86 blfw31_x_87 bufw31_x_87 vi31_0 vi31_1 vi31_2 vi31_3 ls hn31; exfalso; omega
          | succ n31 ih31 =>
            intro iv31_2 fw31_x_86 fw31_x_87 ia31_qrg ia31_qbr H locs hL1 hl1 bliv31_2 buiv31_2 blfw31_x_86 bufw31_x_86 blfw31_x_87 bufw31_x_87 vi31_0 vi31_1 vi31_2 vi31_3 ls hn31 hW hT hM ffw31_x_86 ffw31_x_87 nia31_qrg nia31_qbr hl
            refine lv_iload_n hx hb dX10_finds_31 rfl (lv_at hl 0 rfl) ?_
            refine lv_aload_n hx hb dX10_finds_32 rfl (lv_at hl 2 rfl) ?_
            refine hk_geti hx hb hts hC_10 hown hW (gx.S hM) tt_10 20 ?o28 rfl kw_1163 ⟨rfl, rfl, rfl⟩ ((hM.o gx trivial rfl).1.trans f_x_20) dX10_finds_33 ?_
            case o28 => decide
            refine hb_icmp_ge (zx := iv31_2.toInt) (zy := pn0.toInt) (tgt := 220) hx hb rfl rfl dX10_finds_36 ?o29 (fun c_12 => ?_) (fun c_12 => ?_)
            case o29 => decide
            · skip
              obtain ⟨x_13, ex_13⟩ : ∃ y : Int32, y = iv12_1 + Int32.ofInt 1 := ⟨_, rfl⟩
              have zx_13 : x_13.toInt = iv12_1.toInt + (1) := ?o30
              case o30 =>
                rw [ex_13]
                refine i32_add rfl ?o31 ?o32 ?o33
                case o31 => decide
                case o32 => omega
                case o33 => omega
              refine lv_iinc (v := x_13) (lv' := [(1, .int x_13), (2, .int iv31_2), (0, .ref x)]) hx hb dX10_finds_220 hl (k := 1) rfl ex_13.symm ?o34 rfl (fun ls hl => ?_)
              case o34 => decide
              refine lv_goto (tgt := 12) hx hb dX10_finds_223 ?o35 ?_
              case o35 => decide
              refine ih12 x_13 fw31_x_86 fw31_x_87 ia31_qrg ia31_qbr _ _ hL1 hl1 ?o36 ?o37 (i32_r _).1 (i32_r _).2 ?o38 ?o39 (hz_F1_s (by have h9 := vi31_0; rw [show iv31_2.toInt = pn0.toInt by omega] at h9; exact h9) ?o40 zx_13) ?o41 ls ?o42 hW hT hM ffw31_x_86 ffw31_x_87 nia31_qrg nia31_qbr (lv_sub hl [0, 2] rfl)
              case o36 => omega
              case o37 => omega
              case o38 => omega
              case o39 => omega
              case o40 => omega
              case o41 => omega
              case o42 => omega
            · skip
              refine lv_aload_n hx hb dX10_finds_39 rfl (lv_at hl 2 rfl) ?_
              refine hk_getr hx hb hts hC_10 hown hW (gx.S hM) tt_10 82 ?o43 rfl kw_1225 ⟨rfl, rfl, rfl⟩ ((hM.o gx trivial rfl).2.trans f_x_82) dX10_finds_40 ?_
              case o43 => decide
              refine lv_bipush (v := 40) hx hb dX10_finds_43 ?o44 ?_
              case o44 => decide
              refine lv_iload_n hx hb dX10_finds_45 rfl (lv_at hl 1 rfl) ?_
              refine lv_imul hx hb dX10_finds_46 ?_
              refine lv_topi (fun x_14 ex_14 => ?_)
              have zx_14 : x_14.toInt = 40 * iv12_1.toInt := ?o45
              case o45 =>
                rw [ex_14]
                refine i32_mul ?o46 rfl rfl ?o47 ?o48
                case o46 => decide
                case o47 => omega
                case o48 => omega
              refine lv_iload_n hx hb dX10_finds_47 rfl (lv_at hl 0 rfl) ?_
              refine lv_iadd hx hb dX10_finds_48 ?_
              have rg_15 := i32_r x_14
              have rg_16 := i32_r iv31_2
              refine lv_topi (fun x_17 ex_17 => ?_)
              have zx_17 : x_17.toInt = x_14.toInt + iv31_2.toInt := ?o49
              case o49 =>
                rw [ex_17]
                refine i32_add rfl rfl ?o50 ?o51
                case o50 => omega
                case o51 => omega
              refine hx_iald hx hb hW hT (gqdb.S hM) tt_108 rfl ⟨?o52, ?o53⟩ dX10_finds_49 (fun x_18 ex_18 lx_18 ux_18 => ?_)
              case o52 => omega
              case o53 => omega
              have ax_18 : x_18 = dbf x_17.toNatClampNeg := ex_18.trans (congrFun (hx_afS hM gqdb rfl af_qdb) _)
              have hv50 : x_18.toInt = V (40 * iv12_1.toInt + iv31_2.toInt) := ?o54
              case o54 =>
                have h9 := hV x_17.toNatClampNeg (by unfold Int32.toNatClampNeg; omega)
                rw [← ax_18, show ((x_17.toNatClampNeg : Nat) : Int) = 40 * iv12_1.toInt + iv31_2.toInt by unfold Int32.toNatClampNeg; omega] at h9
                exact h9
              have hv50b := hVb (40 * iv12_1.toInt + iv31_2.toInt); rw [← hv50] at hv50b
              replace hv50 := congrArg some hv50
              refine lv_istore_n (lv' := [(3, .int x_18), (2, .int iv31_2), (1, .int iv12_1), (0, .ref x)]) hx hb dX10_finds_50 rfl hl ?o55 rfl (fun ls hl => ?_)
              case o55 => decide
              refine lv_iload_n hx hb dX10_finds_51 rfl (lv_at hl 0 rfl) ?_
              refine hb_if_ne (zx := x_18.toInt) (tgt := 58) hx hb rfl dX10_finds_52 ?o56 (fun c_19 => ?_) (fun c_19 => ?_)
              case o56 => decide
              · skip
                refine lv_aload_n hx hb dX10_finds_58 rfl (lv_at hl 3 rfl) ?_
                refine hk_getr hx hb hts hC_10 hown hW (gx.S hM) tt_10 89 ?o57 rfl kw_1232 ⟨rfl, rfl, rfl⟩ ((hM.o gx trivial rfl).2.trans f_x_89) dX10_finds_59 ?_
                case o57 => decide
                refine lv_iconst (v := 1) hx hb dX10_finds_62 ?o58 ?_
                case o58 => decide
                refine lv_iload_n hx hb dX10_finds_63 rfl (lv_at hl 1 rfl) ?_
                have nia31_qrgO := nia31_qrg
                refine hx_iast hx hb hW hT (hx_S.rf (M := [(111, 0)])) (gqrg.S hM) tt_111 rfl ?o59 rfl ⟨?o60, ?o61⟩ (List.mem_singleton.mpr rfl) dX10_finds_64 (fun H locs h_20 eh_20 hW hT hs => ?_)
                case o59 => decide
                case o60 => omega
                case o61 => omega
                replace ffw31_x_86 := (hs.o (gx.S hM) trivial rfl).1.trans ffw31_x_86
                replace ffw31_x_87 := (hs.o (gx.S hM) trivial rfl).1.trans ffw31_x_87
                replace nia31_qbr : h_20.2.1 qbr = ia31_qbr := (funext fun j => (hs.a (gqbr.S hM) rfl j).1).trans nia31_qbr
                replace ex_18 := ex_18.trans (hs.a (gqdb.S hM) rfl _).1.symm
                replace hM := hM.tr (hs.mono ?o62)
                case o62 => decide
                obtain ⟨fa_21, dfa_21⟩ : ∃ g : Nat → Int32, g = hx_up ia31_qrg (1 : Int32).toNatClampNeg iv31_2 := ⟨_, rfl⟩
                have nfa_21 : h_20.2.1 qrg = fa_21 := ?o63
                case o63 =>
                  rw [eh_20, dfa_21, ← nia31_qrgO]
                  exact hx_pi_fun _ _ _ _
                have rg65_0 := hx_up_o (k := 0) dfa_21 ?o64 vi31_1
                case o64 => decide
                have rg65_1 := hx_up_c (k := 1) dfa_21 ?o65
                case o65 => decide
                refine lv_aload_n hx hb dX10_finds_65 rfl (lv_at hl 3 rfl) ?_
                refine lv_iconst (v := 2) hx hb dX10_finds_66 ?o66 ?_
                case o66 => decide
                refine lv_iload_n hx hb dX10_finds_67 rfl (lv_at hl 0 rfl) ?_
                have zc_2 : (2 : Int32).toInt = 2 := ?o67
                case o67 => decide
                refine hx_gov (hx_runV (As := [.int (2 : Int32), .int x_18]) (rest := []) ⟨hx, hb, hml, hown, hts⟩ hW (gx.S hM) tt_10 (T := TX10) (N := 98) rfl (t_X10_offers_v l dC dI dA hL1 h_20 H.size x (2 : Int32) x_18 hT (gx.S hM) qdb (gqdb.S hM) ((hM.o gx trivial rfl).2.trans f_x_82) qrg (gqrg.S hM) ((hM.o gx trivial rfl).2.trans f_x_89) qbr (gqbr.S hM) ((hM.o gx trivial rfl).2.trans f_x_88) dbf (hx_afS hM gqdb rfl af_qdb) fa_21 nfa_21 ia31_qbr nia31_qbr fw31_x_86 ffw31_x_86 fw31_x_87 ffw31_x_87 (by decide) (by omega) (hz_g iv12_1.toInt iv31_2.toInt 0 0) (fun i hi => by rcases (show i = 0 ∨ i = 1 by omega) with z9 | z9 <;> subst z9 <;> first | exact rg65_0 | exact rg65_1) V hV hVb (hz_F2 V pn0.toInt iv12_1.toInt (hz_F1 V pn0.toInt iv12_1.toInt.toNat) (iv31_2.toInt - iv12_1.toInt - 1).toNat) vi31_0) (cwV 2 hts (hx_gV kw_1702 kw_1699 kw_1701 kw_88 kw_103) rfl rfl rfl (by decide +kernel) ⟨Nat.le_of_ble_eq_true rfl, Nat.le_of_ble_eq_true rfl⟩) rfl hl.1 rfl (Nat.le_of_ble_eq_true rfl) dX10_finds_68 ⟨Nat.le_of_ble_eq_true rfl, Nat.le_of_ble_eq_true rfl⟩) hW (fun L_22 h_23 H locs p_25 hW => ?_)
                obtain ⟨⟨w_27, w_28, w_29, fw_27, fw_28, fw_29, hr_26⟩, hT, hs⟩ := p_25
                replace hT : hx_T T_tb L_22 h_23 := hT
                replace hs : hx_S T_tb [(10, 86), (10, 87), (110, 0)] hL1 h_20 L_22 h_23 := hs
                replace nfa_21 : h_23.2.1 qrg = fa_21 := (funext fun j => (hs.a (gqrg.S hM) rfl j).1).trans nfa_21
                replace ex_18 := ex_18.trans (hs.a (gqdb.S hM) rfl _).1.symm
                replace hM := hM.tr (hs.mono ?o68)
                case o68 => decide
                have fw_27 : h_23.2.1 x 86 = w_27 := fw_27
                have bw_27 := hT.gi (gx.S hM) tt_10 (k := 86) rfl
                rw [fw_27] at bw_27
                have bw_27 : -2147483648 ≤ w_27.toInt ∧ w_27.toInt ≤ 2147483647 := bw_27
                have fw_28 : h_23.2.1 x 87 = w_28 := fw_28
                have bw_28 := hT.gi (gx.S hM) tt_10 (k := 87) rfl
                rw [fw_28] at bw_28
                have bw_28 : 0 ≤ w_28.toInt ∧ w_28.toInt ≤ 4 := bw_28
                have fw_29 : h_23.2.1 qbr = w_29 := fw_29
                have hS2 : hz_SR (hz_of 2 (hz_mi (V (40 * iv12_1.toInt + iv31_2.toInt)) (V (40 * iv31_2.toInt + iv12_1.toInt))) (hz_g iv12_1.toInt iv31_2.toInt 0 0) (hz_F2 V pn0.toInt iv12_1.toInt (hz_F1 V pn0.toInt iv12_1.toInt.toNat) (iv31_2.toInt - iv12_1.toInt - 1).toNat)) w_27.toInt w_28.toInt w_29 := ?o69
                case o69 =>
                  have h9 := hr_26
                  rw [Option.some.inj hv50, zc_2, show ((2 : Int) - 1).toNat = 1 from by decide, hz_g_1, hz_g_0] at h9
                  exact h9
                refine lv_iload_n hx hb dX10_finds_71 rfl (lv_at hl 2 rfl) ?_
                refine lv_iconst (v := 1) hx hb dX10_finds_72 ?o70 ?_
                case o70 => decide
                refine lv_iadd hx hb dX10_finds_73 ?_
                refine lv_topi (fun x_30 ex_30 => ?_)
                have zx_30 : x_30.toInt = iv12_1.toInt + 1 := ?o71
                case o71 =>
                  rw [ex_30]
                  refine i32_add rfl ?o72 ?o73 ?o74
                  case o72 => decide
                  case o73 => omega
                  case o74 => omega
                refine lv_istore (lv' := [(4, .int x_30), (3, .int x_18), (2, .int iv31_2), (1, .int iv12_1), (0, .ref x)]) hx hb dX10_finds_74 hl ?o75 rfl (fun ls hl => ?_)
                case o75 => decide
                have loop76 : ∀ (n76 : Nat) (iv76_4 fw76_x_86 fw76_x_87 : Int32) (ia76_qrg ia76_qbr : Nat → Int32) (H : Heap) (locs : List Loc) (hL1 : List Nat) (hl1 : hx_h), 0 ≤ iv76_4.toInt → iv76_4.toInt ≤ 40 → -2147483648 ≤ fw76_x_86.toInt → fw76_x_86.toInt ≤ 2147483647 → 0 ≤ fw76_x_87.toInt → fw76_x_87.toInt ≤ 4 → (hz_SR (hz_F3 V pn0.toInt iv12_1.toInt iv31_2.toInt (V (40 * iv12_1.toInt + iv31_2.toInt)) (hz_of 2 (hz_mi (V (40 * iv12_1.toInt + iv31_2.toInt)) (V (40 * iv31_2.toInt + iv12_1.toInt))) (hz_g iv12_1.toInt iv31_2.toInt 0 0) (hz_F2 V pn0.toInt iv12_1.toInt (hz_F1 V pn0.toInt iv12_1.toInt.toNat) (iv31_2.toInt - iv12_1.toInt - 1).toNat)) (iv76_4.toInt - iv12_1.toInt - 1).toNat) fw76_x_86.toInt fw76_x_87.toInt ia76_qbr) → ((ia76_qrg 0).toInt = iv12_1.toInt) → ((ia76_qrg 1).toInt = iv31_2.toInt) → (iv12_1.toInt + 1 ≤ iv76_4.toInt) → (iv76_4.toInt ≤ pn0.toInt) → ∀ (ls : Array Slot), 40 - iv76_4.toInt < (n76 : Int) → hx_W T_tb (P_ty dA) (dC, dI) vwCl (hx_A L sz) s.heap hL1 hl1 s H locs → hx_T T_tb hL1 hl1 → hx_S T_tb [(10, 86), (10, 87), (110, 0), (111, 0)] L h hL1 hl1 → hl1.2.1 x 86 = fw76_x_86 → hl1.2.1 x 87 = fw76_x_87 → hl1.2.1 qrg = ia76_qrg → hl1.2.1 qbr = ia76_qbr → lv_has ls 8 [(4, .int iv76_4), (3, .int x_18), (2, .int iv31_2), (1, .int iv12_1), (0, .ref x)] → W p l e ({ frames := 1, cells := 0, slots := 0, locals := 25 }) s m ([.ref x] : List Value).toArray below meth c H locs 0 0 (MQ below (va_Qv (fun (u : List Nat × hx_h) => (∃ (bl1 : Int32) (bs1 : Int32) (brf1 : Nat → Int32), u.2.2.1 x 86 = bl1 ∧ u.2.2.1 x 87 = bs1 ∧ u.2.2.1 qbr = brf1 ∧ (hz_SR (hz_F1 V pn0.toInt pn0.toInt.toNat) bl1.toInt bs1.toInt brf1)) ∧ hx_T T_tb u.1 u.2 ∧ hx_S T_tb [(10, 86), (10, 87), (110, 0), (111, 0)] L h u.1 u.2) (hx_E T_tb (P_ty dA) (dC, dI) vwCl (hx_A L sz)) (hx_A L sz)) ([.ref x] : List Value).toArray s 0 0 (hx_A L sz)) (F0 m 76 ls []) := by
                  intro n76
                  induction n76 with
                  | zero => intro iv76_4 fw76_x_86 fw76_x_87 ia76_qrg ia76_qbr H locs hL1 hl1 bliv76_4 buiv76_4 blfw76_x_86 bufw76_x_86 blfw76_x_87 bufw76_x_87 vi76_0 vi76_1 vi76_2 vi76_3 vi76_4 ls hn76; exfalso; omega
                  | succ n76 ih76 =>
                    intro iv76_4 fw76_x_86 fw76_x_87 ia76_qrg ia76_qbr H locs hL1 hl1 bliv76_4 buiv76_4 blfw76_x_86 bufw76_x_86 blfw76_x_87 bufw76_x_87 vi76_0 vi76_1 vi76_2 vi76_3 vi76_4 ls hn76 hW hT hM ffw76_x_86 ffw76_x_87 nia76_qrg nia76_qbr hl
                    refine lv_iload hx hb dX10_finds_76 (lv_at hl 0 rfl) ?_
                    refine lv_aload_n hx hb dX10_finds_78 rfl (lv_at hl 4 rfl) ?_
                    refine hk_geti hx hb hts hC_10 hown hW (gx.S hM) tt_10 20 ?o76 rfl kw_1163 ⟨rfl, rfl, rfl⟩ ((hM.o gx trivial rfl).1.trans f_x_20) dX10_finds_79 ?_
                    case o76 => decide
                    refine hb_icmp_ge (zx := iv76_4.toInt) (zy := pn0.toInt) (tgt := 214) hx hb rfl rfl dX10_finds_82 ?o77 (fun c_31 => ?_) (fun c_31 => ?_)
                    case o77 => decide
                    · skip
                      obtain ⟨x_32, ex_32⟩ : ∃ y : Int32, y = iv31_2 + Int32.ofInt 1 := ⟨_, rfl⟩
                      have zx_32 : x_32.toInt = iv31_2.toInt + (1) := ?o78
                      case o78 =>
                        rw [ex_32]
                        refine i32_add rfl ?o79 ?o80 ?o81
                        case o79 => decide
                        case o80 => omega
                        case o81 => omega
                      refine lv_iinc (v := x_32) (lv' := [(2, .int x_32), (4, .int iv76_4), (3, .int x_18), (1, .int iv12_1), (0, .ref x)]) hx hb dX10_finds_214 hl (k := 2) rfl ex_32.symm ?o82 rfl (fun ls hl => ?_)
                      case o82 => decide
                      refine lv_goto (tgt := 31) hx hb dX10_finds_217 ?o83 ?_
                      case o83 => decide
                      exact ih31 x_32 fw76_x_86 fw76_x_87 ia76_qrg ia76_qbr _ _ hL1 hl1 (by omega) (by omega) (i32_r _).1 (i32_r _).2 (by omega) (by omega) (hz_F2_y (by have h9 := vi76_0; rw [show iv76_4.toInt = pn0.toInt by omega] at h9; exact h9) (by omega) (fun z9 => by rw [← Option.some.inj hv50] at z9; exact absurd z9 (by first | with_reducible assumption | assumption)) zx_32) vi76_1 (by omega) (by omega) ls (by omega) hW hT hM ffw76_x_86 ffw76_x_87 nia76_qrg nia76_qbr (lv_sub hl [0, 3, 4] rfl)
                    · skip
                      refine lv_iload_n hx hb dX10_finds_85 rfl (lv_at hl 1 rfl) ?_
                      refine lv_aload_n hx hb dX10_finds_86 rfl (lv_at hl 4 rfl) ?_
                      refine hk_getr hx hb hts hC_10 hown hW (gx.S hM) tt_10 82 ?o84 rfl kw_1225 ⟨rfl, rfl, rfl⟩ ((hM.o gx trivial rfl).2.trans f_x_82) dX10_finds_87 ?_
                      case o84 => decide
                      refine lv_bipush (v := 40) hx hb dX10_finds_90 ?o85 ?_
                      case o85 => decide
                      refine lv_iload_n hx hb dX10_finds_92 rfl (lv_at hl 2 rfl) ?_
                      refine lv_imul hx hb dX10_finds_93 ?_
                      refine lv_topi (fun x_33 ex_33 => ?_)
                      have zx_33 : x_33.toInt = 40 * iv31_2.toInt := ?o86
                      case o86 =>
                        rw [ex_33]
                        refine i32_mul ?o87 rfl rfl ?o88 ?o89
                        case o87 => decide
                        case o88 => omega
                        case o89 => omega
                      refine lv_iload hx hb dX10_finds_94 (lv_at hl 0 rfl) ?_
                      refine lv_iadd hx hb dX10_finds_96 ?_
                      have rg_34 := i32_r x_33
                      have rg_35 := i32_r iv76_4
                      refine lv_topi (fun x_36 ex_36 => ?_)
                      have zx_36 : x_36.toInt = x_33.toInt + iv76_4.toInt := ?o90
                      case o90 =>
                        rw [ex_36]
                        refine i32_add rfl rfl ?o91 ?o92
                        case o91 => omega
                        case o92 => omega
                      refine hx_iald hx hb hW hT (gqdb.S hM) tt_108 rfl ⟨?o93, ?o94⟩ dX10_finds_97 (fun x_37 ex_37 lx_37 ux_37 => ?_)
                      case o93 => omega
                      case o94 => omega
                      have ax_37 : x_37 = dbf x_36.toNatClampNeg := ex_37.trans (congrFun (hx_afS hM gqdb rfl af_qdb) _)
                      have hv98 : x_37.toInt = V (40 * iv31_2.toInt + iv76_4.toInt) := ?o95
                      case o95 =>
                        have h9 := hV x_36.toNatClampNeg (by unfold Int32.toNatClampNeg; omega)
                        rw [← ax_37, show ((x_36.toNatClampNeg : Nat) : Int) = 40 * iv31_2.toInt + iv76_4.toInt by unfold Int32.toNatClampNeg; omega] at h9
                        exact h9
                      have hv98b := hVb (40 * iv31_2.toInt + iv76_4.toInt); rw [← hv98] at hv98b
                      replace hv98 := congrArg some hv98
                      refine hx_goi (hx_runS (As := [.int x_18, .int x_37]) (rest := []) ⟨hx, hb, hml, hown, hts⟩ hW (t_X10_lesser_3 l dC dI dA hL1 hl1 H.size x_18 x_37 hT) (va_cwS 2 hts (hx_gS kw_1705 kw_1703 kw_1704 kw_103) rfl rfl rfl (by decide +kernel) ⟨Nat.le_of_ble_eq_true rfl, Nat.le_of_ble_eq_true rfl⟩) rfl hl.1 rfl (Nat.le_of_ble_eq_true rfl) dX10_finds_98 ⟨Nat.le_of_ble_eq_true rfl, Nat.le_of_ble_eq_true rfl⟩) hW (fun r_40 L_38 h_39 H locs p_41 hW => ?_)
                      obtain ⟨hr_42, hT, hs⟩ := p_41
                      replace hT : hx_T T_tb L_38 h_39 := hT
                      replace hs : hx_S T_tb [] hL1 hl1 L_38 h_39 := hs
                      replace ffw76_x_86 := (hs.o (gx.S hM) trivial rfl).1.trans ffw76_x_86
                      replace ffw76_x_87 := (hs.o (gx.S hM) trivial rfl).1.trans ffw76_x_87
                      replace nia76_qrg : h_39.2.1 qrg = ia76_qrg := (funext fun j => (hs.a (gqrg.S hM) rfl j).1).trans nia76_qrg
                      replace nia76_qbr : h_39.2.1 qbr = ia76_qbr := (funext fun j => (hs.a (gqbr.S hM) rfl j).1).trans nia76_qbr
                      replace ex_37 := ex_37.trans (hs.a (gqdb.S hM) rfl _).1.symm
                      replace hM := hM.tr (hs.mono ?o96)
                      case o96 => decide
                      have hm101 := hz_mi_2 hr_42; have hm101b := hz_mi_l (a := x_18.toInt) (b := x_37.toInt); have hm101c := hz_mi_0 (a := x_18.toInt) (b := x_37.toInt) (by omega) (by omega); rw [← hm101] at hm101b hm101c; rw [Option.some.inj hv50, Option.some.inj hv98] at hm101; replace hm101 := congrArg some hm101
                      clear hr_42
                      refine lv_istore (lv' := [(5, .int r_40), (4, .int iv76_4), (3, .int x_18), (2, .int iv31_2), (1, .int iv12_1), (0, .ref x)]) hx hb dX10_finds_101 hl ?o97 rfl (fun ls hl => ?_)
                      case o97 => decide
                      refine lv_iload hx hb dX10_finds_103 (lv_at hl 1 rfl) ?_
                      refine lv_iload_n hx hb dX10_finds_105 rfl (lv_at hl 3 rfl) ?_
                      refine hb_icmp_eq (zx := iv76_4.toInt) (zy := iv31_2.toInt) (tgt := 208) hx hb rfl rfl dX10_finds_106 ?o98 (fun c_43 => ?_) (fun c_43 => ?_)
                      case o98 => decide
                      · skip
                        obtain ⟨x_44, ex_44⟩ : ∃ y : Int32, y = iv76_4 + Int32.ofInt 1 := ⟨_, rfl⟩
                        have zx_44 : x_44.toInt = iv76_4.toInt + (1) := ?o99
                        case o99 =>
                          rw [ex_44]
                          refine i32_add rfl ?o100 ?o101 ?o102
                          case o100 => decide
                          case o101 => omega
                          case o102 => omega
                        refine lv_iinc (v := x_44) (lv' := [(4, .int x_44), (5, .int r_40), (3, .int x_18), (2, .int iv31_2), (1, .int iv12_1), (0, .ref x)]) hx hb dX10_finds_208 hl (k := 1) rfl ex_44.symm ?o103 rfl (fun ls hl => ?_)
                        case o103 => decide
                        refine lv_goto (tgt := 76) hx hb dX10_finds_211 ?o104 ?_
                        case o104 => decide
                        refine ih76 x_44 fw76_x_86 fw76_x_87 ia76_qrg ia76_qbr _ _ L_38 h_39 ?o105 ?o106 (i32_r _).1 (i32_r _).2 ?o107 ?o108 (hz_F3_n vi76_0 ?o109 (Or.inl ?o110) zx_44) vi76_1 vi76_2 ?o111 ?o112 ls ?o113 hW hT hM ffw76_x_86 ffw76_x_87 nia76_qrg nia76_qbr (lv_sub hl [0, 2, 3, 4, 5] rfl)
                        case o105 => omega
                        case o106 => omega
                        case o107 => omega
                        case o108 => omega
                        case o109 => omega
                        case o110 => omega
                        case o111 => omega
                        case o112 => omega
                        case o113 => omega
                      · skip
                        refine lv_iload hx hb dX10_finds_109 (lv_at hl 0 rfl) ?_
                        refine hb_if_ne (zx := r_40.toInt) (tgt := 117) hx hb rfl dX10_finds_111 ?o114 (fun c_45 => ?_) (fun c_45 => ?_)
                        case o114 => decide
                        · skip
                          refine lv_aload_n hx hb dX10_finds_117 rfl (lv_at hl 5 rfl) ?_
                          refine hk_getr hx hb hts hC_10 hown hW (gx.S hM) tt_10 89 ?o115 rfl kw_1232 ⟨rfl, rfl, rfl⟩ ((hM.o gx trivial rfl).2.trans f_x_89) dX10_finds_118 ?_
                          case o115 => decide
                          refine lv_iconst (v := 2) hx hb dX10_finds_121 ?o116 ?_
                          case o116 => decide
                          refine lv_iload hx hb dX10_finds_122 (lv_at hl 1 rfl) ?_
                          have nia76_qrgO := nia76_qrg
                          refine hx_iast hx hb hW hT (hx_S.rf (M := [(111, 0)])) (gqrg.S hM) tt_111 rfl ?o117 rfl ⟨?o118, ?o119⟩ (List.mem_singleton.mpr rfl) dX10_finds_124 (fun H locs h_46 eh_46 hW hT hs => ?_)
                          case o117 => decide
                          case o118 => omega
                          case o119 => omega
                          replace ffw76_x_86 := (hs.o (gx.S hM) trivial rfl).1.trans ffw76_x_86
                          replace ffw76_x_87 := (hs.o (gx.S hM) trivial rfl).1.trans ffw76_x_87
                          replace nia76_qbr : h_46.2.1 qbr = ia76_qbr := (funext fun j => (hs.a (gqbr.S hM) rfl j).1).trans nia76_qbr
                          replace ex_37 := ex_37.trans (hs.a (gqdb.S hM) rfl _).1.symm
                          replace hM := hM.tr (hs.mono ?o120)
                          case o120 => decide
                          obtain ⟨fa_47, dfa_47⟩ : ∃ g : Nat → Int32, g = hx_up ia76_qrg (2 : Int32).toNatClampNeg iv76_4 := ⟨_, rfl⟩
                          have nfa_47 : h_46.2.1 qrg = fa_47 := ?o121
                          case o121 =>
                            rw [eh_46, dfa_47, ← nia76_qrgO]
                            exact hx_pi_fun _ _ _ _
                          have rg125_0 := hx_up_o (k := 0) dfa_47 ?o122 vi76_1
                          case o122 => decide
                          have rg125_1 := hx_up_o (k := 1) dfa_47 ?o123 vi76_2
                          case o123 => decide
                          have rg125_2 := hx_up_c (k := 2) dfa_47 ?o124
                          case o124 => decide
                          refine lv_aload_n hx hb dX10_finds_125 rfl (lv_at hl 5 rfl) ?_
                          refine lv_iconst (v := 3) hx hb dX10_finds_126 ?o125 ?_
                          case o125 => decide
                          refine lv_iload hx hb dX10_finds_127 (lv_at hl 0 rfl) ?_
                          have zc_3 : (3 : Int32).toInt = 3 := ?o126
                          case o126 => decide
                          refine hx_gov (hx_runV (As := [.int (3 : Int32), .int r_40]) (rest := []) ⟨hx, hb, hml, hown, hts⟩ hW (gx.S hM) tt_10 (T := TX10) (N := 98) rfl (t_X10_offers_v l dC dI dA L_38 h_46 H.size x (3 : Int32) r_40 hT (gx.S hM) qdb (gqdb.S hM) ((hM.o gx trivial rfl).2.trans f_x_82) qrg (gqrg.S hM) ((hM.o gx trivial rfl).2.trans f_x_89) qbr (gqbr.S hM) ((hM.o gx trivial rfl).2.trans f_x_88) dbf (hx_afS hM gqdb rfl af_qdb) fa_47 nfa_47 ia76_qbr nia76_qbr fw76_x_86 ffw76_x_86 fw76_x_87 ffw76_x_87 (by decide) (by omega) (hz_g iv12_1.toInt iv31_2.toInt iv76_4.toInt 0) (fun i hi => by rcases (show i = 0 ∨ i = 1 ∨ i = 2 by omega) with z9 | z9 | z9 <;> subst z9 <;> first | exact rg125_0 | exact rg125_1 | exact rg125_2) V hV hVb (hz_F3 V pn0.toInt iv12_1.toInt iv31_2.toInt (V (40 * iv12_1.toInt + iv31_2.toInt)) (hz_of 2 (hz_mi (V (40 * iv12_1.toInt + iv31_2.toInt)) (V (40 * iv31_2.toInt + iv12_1.toInt))) (hz_g iv12_1.toInt iv31_2.toInt 0 0) (hz_F2 V pn0.toInt iv12_1.toInt (hz_F1 V pn0.toInt iv12_1.toInt.toNat) (iv31_2.toInt - iv12_1.toInt - 1).toNat)) (iv76_4.toInt - iv12_1.toInt - 1).toNat) vi76_0) (cwV 2 hts (hx_gV kw_1702 kw_1699 kw_1701 kw_88 kw_103) rfl rfl rfl (by decide +kernel) ⟨Nat.le_of_ble_eq_true rfl, Nat.le_of_ble_eq_true rfl⟩) rfl hl.1 rfl (Nat.le_of_ble_eq_true rfl) dX10_finds_129 ⟨Nat.le_of_ble_eq_true rfl, Nat.le_of_ble_eq_true rfl⟩) hW (fun L_48 h_49 H locs p_51 hW => ?_)
                          obtain ⟨⟨w_53, w_54, w_55, fw_53, fw_54, fw_55, hr_52⟩, hT, hs⟩ := p_51
                          replace hT : hx_T T_tb L_48 h_49 := hT
                          replace hs : hx_S T_tb [(10, 86), (10, 87), (110, 0)] L_38 h_46 L_48 h_49 := hs
                          replace nfa_47 : h_49.2.1 qrg = fa_47 := (funext fun j => (hs.a (gqrg.S hM) rfl j).1).trans nfa_47
                          replace ex_37 := ex_37.trans (hs.a (gqdb.S hM) rfl _).1.symm
                          replace hM := hM.tr (hs.mono ?o127)
                          case o127 => decide
                          have fw_53 : h_49.2.1 x 86 = w_53 := fw_53
                          have bw_53 := hT.gi (gx.S hM) tt_10 (k := 86) rfl
                          rw [fw_53] at bw_53
                          have bw_53 : -2147483648 ≤ w_53.toInt ∧ w_53.toInt ≤ 2147483647 := bw_53
                          have fw_54 : h_49.2.1 x 87 = w_54 := fw_54
                          have bw_54 := hT.gi (gx.S hM) tt_10 (k := 87) rfl
                          rw [fw_54] at bw_54
                          have bw_54 : 0 ≤ w_54.toInt ∧ w_54.toInt ≤ 4 := bw_54
                          have fw_55 : h_49.2.1 qbr = w_55 := fw_55
                          have hS3 : hz_SR (hz_of 3 (hz_mi (hz_mi (V (40 * iv12_1.toInt + iv31_2.toInt)) (V (40 * iv31_2.toInt + iv76_4.toInt))) (V (40 * iv76_4.toInt + iv12_1.toInt))) (hz_g iv12_1.toInt iv31_2.toInt iv76_4.toInt 0) (hz_F3 V pn0.toInt iv12_1.toInt iv31_2.toInt (V (40 * iv12_1.toInt + iv31_2.toInt)) (hz_of 2 (hz_mi (V (40 * iv12_1.toInt + iv31_2.toInt)) (V (40 * iv31_2.toInt + iv12_1.toInt))) (hz_g iv12_1.toInt iv31_2.toInt 0 0) (hz_F2 V pn0.toInt iv12_1.toInt (hz_F1 V pn0.toInt iv12_1.toInt.toNat) (iv31_2.toInt - iv12_1.toInt - 1).toNat)) (iv76_4.toInt - iv12_1.toInt - 1).toNat)) w_53.toInt w_54.toInt w_55 := ?o128
                          case o128 =>
                            have h9 := hr_52
                            rw [Option.some.inj hm101, zc_3, show ((3 : Int) - 1).toNat = 2 from by decide, hz_g_2, hz_g_0] at h9
                            exact h9
                          refine lv_iload_n hx hb dX10_finds_132 rfl (lv_at hl 4 rfl) ?_
                          refine lv_iconst (v := 1) hx hb dX10_finds_133 ?o129 ?_
                          case o129 => decide
                          refine lv_iadd hx hb dX10_finds_134 ?_
                          refine lv_topi (fun x_56 ex_56 => ?_)
                          have zx_56 : x_56.toInt = iv12_1.toInt + 1 := ?o130
                          case o130 =>
                            rw [ex_56]
                            refine i32_add rfl ?o131 ?o132 ?o133
                            case o131 => decide
                            case o132 => omega
                            case o133 => omega
                          refine lv_istore (lv' := [(6, .int x_56), (5, .int r_40), (4, .int iv76_4), (3, .int x_18), (2, .int iv31_2), (1, .int iv12_1), (0, .ref x)]) hx hb dX10_finds_135 hl ?o134 rfl (fun ls hl => ?_)
                          case o134 => decide
                          have loop137 : ∀ (n137 : Nat) (iv137_6 fw137_x_86 fw137_x_87 : Int32) (ia137_qrg ia137_qbr : Nat → Int32) (H : Heap) (locs : List Loc) (hL1 : List Nat) (hl1 : hx_h), 0 ≤ iv137_6.toInt → iv137_6.toInt ≤ 40 → -2147483648 ≤ fw137_x_86.toInt → fw137_x_86.toInt ≤ 2147483647 → 0 ≤ fw137_x_87.toInt → fw137_x_87.toInt ≤ 4 → (hz_SR (hz_F4 V iv12_1.toInt iv31_2.toInt iv76_4.toInt (hz_mi (V (40 * iv12_1.toInt + iv31_2.toInt)) (V (40 * iv31_2.toInt + iv76_4.toInt))) (hz_of 3 (hz_mi (hz_mi (V (40 * iv12_1.toInt + iv31_2.toInt)) (V (40 * iv31_2.toInt + iv76_4.toInt))) (V (40 * iv76_4.toInt + iv12_1.toInt))) (hz_g iv12_1.toInt iv31_2.toInt iv76_4.toInt 0) (hz_F3 V pn0.toInt iv12_1.toInt iv31_2.toInt (V (40 * iv12_1.toInt + iv31_2.toInt)) (hz_of 2 (hz_mi (V (40 * iv12_1.toInt + iv31_2.toInt)) (V (40 * iv31_2.toInt + iv12_1.toInt))) (hz_g iv12_1.toInt iv31_2.toInt 0 0) (hz_F2 V pn0.toInt iv12_1.toInt (hz_F1 V pn0.toInt iv12_1.toInt.toNat) (iv31_2.toInt - iv12_1.toInt - 1).toNat)) (iv76_4.toInt - iv12_1.toInt - 1).toNat)) (iv137_6.toInt - iv12_1.toInt - 1).toNat) fw137_x_86.toInt fw137_x_87.toInt ia137_qbr) → ((ia137_qrg 0).toInt = iv12_1.toInt) → ((ia137_qrg 1).toInt = iv31_2.toInt) → ((ia137_qrg 2).toInt = iv76_4.toInt) → (iv12_1.toInt + 1 ≤ iv137_6.toInt) → (iv137_6.toInt ≤ pn0.toInt) → ∀ (ls : Array Slot), 40 - iv137_6.toInt < (n137 : Int) → hx_W T_tb (P_ty dA) (dC, dI) vwCl (hx_A L sz) s.heap hL1 hl1 s H locs → hx_T T_tb hL1 hl1 → hx_S T_tb [(10, 86), (10, 87), (110, 0), (111, 0)] L h hL1 hl1 → hl1.2.1 x 86 = fw137_x_86 → hl1.2.1 x 87 = fw137_x_87 → hl1.2.1 qrg = ia137_qrg → hl1.2.1 qbr = ia137_qbr → lv_has ls 8 [(6, .int iv137_6), (5, .int r_40), (4, .int iv76_4), (3, .int x_18), (2, .int iv31_2), (1, .int iv12_1), (0, .ref x)] → W p l e ({ frames := 1, cells := 0, slots := 0, locals := 25 }) s m ([.ref x] : List Value).toArray below meth c H locs 0 0 (MQ below (va_Qv (fun (u : List Nat × hx_h) => (∃ (bl1 : Int32) (bs1 : Int32) (brf1 : Nat → Int32), u.2.2.1 x 86 = bl1 ∧ u.2.2.1 x 87 = bs1 ∧ u.2.2.1 qbr = brf1 ∧ (hz_SR (hz_F1 V pn0.toInt pn0.toInt.toNat) bl1.toInt bs1.toInt brf1)) ∧ hx_T T_tb u.1 u.2 ∧ hx_S T_tb [(10, 86), (10, 87), (110, 0), (111, 0)] L h u.1 u.2) (hx_E T_tb (P_ty dA) (dC, dI) vwCl (hx_A L sz)) (hx_A L sz)) ([.ref x] : List Value).toArray s 0 0 (hx_A L sz)) (F0 m 137 ls []) := by
                            intro n137
                            induction n137 with
                            | zero => intro iv137_6 fw137_x_86 fw137_x_87 ia137_qrg ia137_qbr H locs hL1 hl1 bliv137_6 buiv137_6 blfw137_x_86 bufw137_x_86 blfw137_x_87 bufw137_x_87 vi137_0 vi137_1 vi137_2 vi137_3 vi137_4 vi137_5 ls hn137; exfalso; omega
                            | succ n137 ih137 =>
                              intro iv137_6 fw137_x_86 fw137_x_87 ia137_qrg ia137_qbr H locs hL1 hl1 bliv137_6 buiv137_6 blfw137_x_86 bufw137_x_86 blfw137_x_87 bufw137_x_87 vi137_0 vi137_1 vi137_2 vi137_3 vi137_4 vi137_5 ls hn137 hW hT hM ffw137_x_86 ffw137_x_87 nia137_qrg nia137_qbr hl
                              refine lv_iload hx hb dX10_finds_137 (lv_at hl 0 rfl) ?_
                              refine lv_aload_n hx hb dX10_finds_139 rfl (lv_at hl 6 rfl) ?_
                              refine hk_geti hx hb hts hC_10 hown hW (gx.S hM) tt_10 20 ?o135 rfl kw_1163 ⟨rfl, rfl, rfl⟩ ((hM.o gx trivial rfl).1.trans f_x_20) dX10_finds_140 ?_
                              case o135 => decide
                              refine hb_icmp_ge (zx := iv137_6.toInt) (zy := pn0.toInt) (tgt := 208) hx hb rfl rfl dX10_finds_143 ?o136 (fun c_57 => ?_) (fun c_57 => ?_)
                              case o136 => decide
                              · skip
                                obtain ⟨x_58, ex_58⟩ : ∃ y : Int32, y = iv76_4 + Int32.ofInt 1 := ⟨_, rfl⟩
                                have zx_58 : x_58.toInt = iv76_4.toInt + (1) := ?o137
                                case o137 =>
                                  rw [ex_58]
                                  refine i32_add rfl ?o138 ?o139 ?o140
                                  case o138 => decide
                                  case o139 => omega
                                  case o140 => omega
                                refine lv_iinc (v := x_58) (lv' := [(4, .int x_58), (6, .int iv137_6), (5, .int r_40), (3, .int x_18), (2, .int iv31_2), (1, .int iv12_1), (0, .ref x)]) hx hb dX10_finds_208 hl (k := 2) rfl ex_58.symm ?o141 rfl (fun ls hl => ?_)
                                case o141 => decide
                                refine lv_goto (tgt := 76) hx hb dX10_finds_211 ?o142 ?_
                                case o142 => decide
                                exact ih76 x_58 fw137_x_86 fw137_x_87 ia137_qrg ia137_qbr _ _ hL1 hl1 (by omega) (by omega) (i32_r _).1 (i32_r _).2 (by omega) (by omega) (hz_F3_y (by have h9 := vi137_0; rw [show iv137_6.toInt = pn0.toInt by omega] at h9; exact h9) (by omega) (fun z9 => by rcases z9 with z9 | z9; exact absurd z9 (by first | with_reducible assumption | assumption); rw [← Option.some.inj hm101] at z9; exact absurd z9 (by first | with_reducible assumption | assumption)) zx_58) vi137_1 vi137_2 (by omega) (by omega) ls (by omega) hW hT hM ffw137_x_86 ffw137_x_87 nia137_qrg nia137_qbr (lv_sub hl [0, 3, 4, 5, 6] rfl)
                              · skip
                                refine lv_iload hx hb dX10_finds_146 (lv_at hl 1 rfl) ?_
                                refine lv_aload_n hx hb dX10_finds_148 rfl (lv_at hl 6 rfl) ?_
                                refine hk_getr hx hb hts hC_10 hown hW (gx.S hM) tt_10 82 ?o143 rfl kw_1225 ⟨rfl, rfl, rfl⟩ ((hM.o gx trivial rfl).2.trans f_x_82) dX10_finds_149 ?_
                                case o143 => decide
                                refine lv_bipush (v := 40) hx hb dX10_finds_152 ?o144 ?_
                                case o144 => decide
                                refine lv_iload hx hb dX10_finds_154 (lv_at hl 2 rfl) ?_
                                refine lv_imul hx hb dX10_finds_156 ?_
                                refine lv_topi (fun x_59 ex_59 => ?_)
                                have zx_59 : x_59.toInt = 40 * iv76_4.toInt := ?o145
                                case o145 =>
                                  rw [ex_59]
                                  refine i32_mul ?o146 rfl rfl ?o147 ?o148
                                  case o146 => decide
                                  case o147 => omega
                                  case o148 => omega
                                refine lv_iload hx hb dX10_finds_157 (lv_at hl 0 rfl) ?_
                                refine lv_iadd hx hb dX10_finds_159 ?_
                                have rg_60 := i32_r x_59
                                have rg_61 := i32_r iv137_6
                                refine lv_topi (fun x_62 ex_62 => ?_)
                                have zx_62 : x_62.toInt = x_59.toInt + iv137_6.toInt := ?o149
                                case o149 =>
                                  rw [ex_62]
                                  refine i32_add rfl rfl ?o150 ?o151
                                  case o150 => omega
                                  case o151 => omega
                                refine hx_iald hx hb hW hT (gqdb.S hM) tt_108 rfl ⟨?o152, ?o153⟩ dX10_finds_160 (fun x_63 ex_63 lx_63 ux_63 => ?_)
                                case o152 => omega
                                case o153 => omega
                                have ax_63 : x_63 = dbf x_62.toNatClampNeg := ex_63.trans (congrFun (hx_afS hM gqdb rfl af_qdb) _)
                                have hv161 : x_63.toInt = V (40 * iv76_4.toInt + iv137_6.toInt) := ?o154
                                case o154 =>
                                  have h9 := hV x_62.toNatClampNeg (by unfold Int32.toNatClampNeg; omega)
                                  rw [← ax_63, show ((x_62.toNatClampNeg : Nat) : Int) = 40 * iv76_4.toInt + iv137_6.toInt by unfold Int32.toNatClampNeg; omega] at h9
                                  exact h9
                                have hv161b := hVb (40 * iv76_4.toInt + iv137_6.toInt); rw [← hv161] at hv161b
                                replace hv161 := congrArg some hv161
                                refine hx_goi (hx_runS (As := [.int r_40, .int x_63]) (rest := []) ⟨hx, hb, hml, hown, hts⟩ hW (t_X10_lesser_3 l dC dI dA hL1 hl1 H.size r_40 x_63 hT) (va_cwS 2 hts (hx_gS kw_1705 kw_1703 kw_1704 kw_103) rfl rfl rfl (by decide +kernel) ⟨Nat.le_of_ble_eq_true rfl, Nat.le_of_ble_eq_true rfl⟩) rfl hl.1 rfl (Nat.le_of_ble_eq_true rfl) dX10_finds_161 ⟨Nat.le_of_ble_eq_true rfl, Nat.le_of_ble_eq_true rfl⟩) hW (fun r_66 L_64 h_65 H locs p_67 hW => ?_)
                                obtain ⟨hr_68, hT, hs⟩ := p_67
                                replace hT : hx_T T_tb L_64 h_65 := hT
                                replace hs : hx_S T_tb [] hL1 hl1 L_64 h_65 := hs
                                replace ffw137_x_86 := (hs.o (gx.S hM) trivial rfl).1.trans ffw137_x_86
                                replace ffw137_x_87 := (hs.o (gx.S hM) trivial rfl).1.trans ffw137_x_87
                                replace nia137_qrg : h_65.2.1 qrg = ia137_qrg := (funext fun j => (hs.a (gqrg.S hM) rfl j).1).trans nia137_qrg
                                replace nia137_qbr : h_65.2.1 qbr = ia137_qbr := (funext fun j => (hs.a (gqbr.S hM) rfl j).1).trans nia137_qbr
                                replace ex_63 := ex_63.trans (hs.a (gqdb.S hM) rfl _).1.symm
                                replace hM := hM.tr (hs.mono ?o155)
                                case o155 => decide
                                have hm164 := hz_mi_2 hr_68; have hm164b := hz_mi_l (a := r_40.toInt) (b := x_63.toInt); have hm164c := hz_mi_0 (a := r_40.toInt) (b := x_63.toInt) (by omega) (by omega); rw [← hm164] at hm164b hm164c; rw [Option.some.inj hm101, Option.some.inj hv161] at hm164; replace hm164 := congrArg some hm164
                                clear hr_68
                                refine lv_istore (lv' := [(7, .int r_66), (6, .int iv137_6), (5, .int r_40), (4, .int iv76_4), (3, .int x_18), (2, .int iv31_2), (1, .int iv12_1), (0, .ref x)]) hx hb dX10_finds_164 hl ?o156 rfl (fun ls hl => ?_)
                                case o156 => decide
                                refine lv_iload hx hb dX10_finds_166 (lv_at hl 1 rfl) ?_
                                refine lv_iload_n hx hb dX10_finds_168 rfl (lv_at hl 5 rfl) ?_
                                refine hb_icmp_eq (zx := iv137_6.toInt) (zy := iv31_2.toInt) (tgt := 202) hx hb rfl rfl dX10_finds_169 ?o157 (fun c_69 => ?_) (fun c_69 => ?_)
                                case o157 => decide
                                · skip
                                  obtain ⟨x_70, ex_70⟩ : ∃ y : Int32, y = iv137_6 + Int32.ofInt 1 := ⟨_, rfl⟩
                                  have zx_70 : x_70.toInt = iv137_6.toInt + (1) := ?o158
                                  case o158 =>
                                    rw [ex_70]
                                    refine i32_add rfl ?o159 ?o160 ?o161
                                    case o159 => decide
                                    case o160 => omega
                                    case o161 => omega
                                  refine lv_iinc (v := x_70) (lv' := [(6, .int x_70), (7, .int r_66), (5, .int r_40), (4, .int iv76_4), (3, .int x_18), (2, .int iv31_2), (1, .int iv12_1), (0, .ref x)]) hx hb dX10_finds_202 hl (k := 1) rfl ex_70.symm ?o162 rfl (fun ls hl => ?_)
                                  case o162 => decide
                                  refine lv_goto (tgt := 137) hx hb dX10_finds_205 ?o163 ?_
                                  case o163 => decide
                                  refine ih137 x_70 fw137_x_86 fw137_x_87 ia137_qrg ia137_qbr _ _ L_64 h_65 ?o164 ?o165 (i32_r _).1 (i32_r _).2 ?o166 ?o167 (hz_F4_n vi137_0 ?o168 (Or.inl ?o169) zx_70) vi137_1 vi137_2 vi137_3 ?o170 ?o171 ls ?o172 hW hT hM ffw137_x_86 ffw137_x_87 nia137_qrg nia137_qbr (lv_sub hl [0, 2, 3, 4, 5, 6, 7] rfl)
                                  case o164 => omega
                                  case o165 => omega
                                  case o166 => omega
                                  case o167 => omega
                                  case o168 => omega
                                  case o169 => omega
                                  case o170 => omega
                                  case o171 => omega
                                  case o172 => omega
                                · skip
                                  refine lv_iload hx hb dX10_finds_172 (lv_at hl 1 rfl) ?_
                                  refine lv_iload hx hb dX10_finds_174 (lv_at hl 3 rfl) ?_
                                  refine hb_icmp_eq (zx := iv137_6.toInt) (zy := iv76_4.toInt) (tgt := 202) hx hb rfl rfl dX10_finds_176 ?o173 (fun c_71 => ?_) (fun c_71 => ?_)
                                  case o173 => decide
                                  · skip
                                    obtain ⟨x_72, ex_72⟩ : ∃ y : Int32, y = iv137_6 + Int32.ofInt 1 := ⟨_, rfl⟩
                                    have zx_72 : x_72.toInt = iv137_6.toInt + (1) := ?o174
                                    case o174 =>
                                      rw [ex_72]
                                      refine i32_add rfl ?o175 ?o176 ?o177
                                      case o175 => decide
                                      case o176 => omega
                                      case o177 => omega
                                    refine lv_iinc (v := x_72) (lv' := [(6, .int x_72), (7, .int r_66), (5, .int r_40), (4, .int iv76_4), (3, .int x_18), (2, .int iv31_2), (1, .int iv12_1), (0, .ref x)]) hx hb dX10_finds_202 hl (k := 1) rfl ex_72.symm ?o178 rfl (fun ls hl => ?_)
                                    case o178 => decide
                                    refine lv_goto (tgt := 137) hx hb dX10_finds_205 ?o179 ?_
                                    case o179 => decide
                                    refine ih137 x_72 fw137_x_86 fw137_x_87 ia137_qrg ia137_qbr _ _ L_64 h_65 ?o180 ?o181 (i32_r _).1 (i32_r _).2 ?o182 ?o183 (hz_F4_n vi137_0 ?o184 (Or.inr (Or.inl ?o185)) zx_72) vi137_1 vi137_2 vi137_3 ?o186 ?o187 ls ?o188 hW hT hM ffw137_x_86 ffw137_x_87 nia137_qrg nia137_qbr (lv_sub hl [0, 2, 3, 4, 5, 6, 7] rfl)
                                    case o180 => omega
                                    case o181 => omega
                                    case o182 => omega
                                    case o183 => omega
                                    case o184 => omega
                                    case o185 => omega
                                    case o186 => omega
                                    case o187 => omega
                                    case o188 => omega
                                  · skip
                                    refine lv_iload hx hb dX10_finds_179 (lv_at hl 0 rfl) ?_
                                    refine hb_if_ne (zx := r_66.toInt) (tgt := 187) hx hb rfl dX10_finds_181 ?o189 (fun c_73 => ?_) (fun c_73 => ?_)
                                    case o189 => decide
                                    · skip
                                      refine lv_aload_n hx hb dX10_finds_187 rfl (lv_at hl 7 rfl) ?_
                                      refine hk_getr hx hb hts hC_10 hown hW (gx.S hM) tt_10 89 ?o190 rfl kw_1232 ⟨rfl, rfl, rfl⟩ ((hM.o gx trivial rfl).2.trans f_x_89) dX10_finds_188 ?_
                                      case o190 => decide
                                      refine lv_iconst (v := 3) hx hb dX10_finds_191 ?o191 ?_
                                      case o191 => decide
                                      refine lv_iload hx hb dX10_finds_192 (lv_at hl 1 rfl) ?_
                                      have nia137_qrgO := nia137_qrg
                                      refine hx_iast hx hb hW hT (hx_S.rf (M := [(111, 0)])) (gqrg.S hM) tt_111 rfl ?o192 rfl ⟨?o193, ?o194⟩ (List.mem_singleton.mpr rfl) dX10_finds_194 (fun H locs h_74 eh_74 hW hT hs => ?_)
                                      case o192 => decide
                                      case o193 => omega
                                      case o194 => omega
                                      replace ffw137_x_86 := (hs.o (gx.S hM) trivial rfl).1.trans ffw137_x_86
                                      replace ffw137_x_87 := (hs.o (gx.S hM) trivial rfl).1.trans ffw137_x_87
                                      replace nia137_qbr : h_74.2.1 qbr = ia137_qbr := (funext fun j => (hs.a (gqbr.S hM) rfl j).1).trans nia137_qbr
                                      replace ex_63 := ex_63.trans (hs.a (gqdb.S hM) rfl _).1.symm
                                      replace hM := hM.tr (hs.mono ?o195)
                                      case o195 => decide
                                      obtain ⟨fa_75, dfa_75⟩ : ∃ g : Nat → Int32, g = hx_up ia137_qrg (3 : Int32).toNatClampNeg iv137_6 := ⟨_, rfl⟩
                                      have nfa_75 : h_74.2.1 qrg = fa_75 := ?o196
                                      case o196 =>
                                        rw [eh_74, dfa_75, ← nia137_qrgO]
                                        exact hx_pi_fun _ _ _ _
                                      have rg195_0 := hx_up_o (k := 0) dfa_75 ?o197 vi137_1
                                      case o197 => decide
                                      have rg195_1 := hx_up_o (k := 1) dfa_75 ?o198 vi137_2
                                      case o198 => decide
                                      have rg195_2 := hx_up_o (k := 2) dfa_75 ?o199 vi137_3
                                      case o199 => decide
                                      have rg195_3 := hx_up_c (k := 3) dfa_75 ?o200
                                      case o200 => decide
                                      refine lv_aload_n hx hb dX10_finds_195 rfl (lv_at hl 7 rfl) ?_
                                      refine lv_iconst (v := 4) hx hb dX10_finds_196 ?o201 ?_
                                      case o201 => decide
                                      refine lv_iload hx hb dX10_finds_197 (lv_at hl 0 rfl) ?_
                                      have zc_4 : (4 : Int32).toInt = 4 := ?o202
                                      case o202 => decide
                                      refine hx_gov (hx_runV (As := [.int (4 : Int32), .int r_66]) (rest := []) ⟨hx, hb, hml, hown, hts⟩ hW (gx.S hM) tt_10 (T := TX10) (N := 98) rfl (t_X10_offers_v l dC dI dA L_64 h_74 H.size x (4 : Int32) r_66 hT (gx.S hM) qdb (gqdb.S hM) ((hM.o gx trivial rfl).2.trans f_x_82) qrg (gqrg.S hM) ((hM.o gx trivial rfl).2.trans f_x_89) qbr (gqbr.S hM) ((hM.o gx trivial rfl).2.trans f_x_88) dbf (hx_afS hM gqdb rfl af_qdb) fa_75 nfa_75 ia137_qbr nia137_qbr fw137_x_86 ffw137_x_86 fw137_x_87 ffw137_x_87 (by decide) (by omega) (hz_g iv12_1.toInt iv31_2.toInt iv76_4.toInt iv137_6.toInt) (fun i hi => by rcases (show i = 0 ∨ i = 1 ∨ i = 2 ∨ i = 3 by omega) with z9 | z9 | z9 | z9 <;> subst z9 <;> first | exact rg195_0 | exact rg195_1 | exact rg195_2 | exact rg195_3) V hV hVb (hz_F4 V iv12_1.toInt iv31_2.toInt iv76_4.toInt (hz_mi (V (40 * iv12_1.toInt + iv31_2.toInt)) (V (40 * iv31_2.toInt + iv76_4.toInt))) (hz_of 3 (hz_mi (hz_mi (V (40 * iv12_1.toInt + iv31_2.toInt)) (V (40 * iv31_2.toInt + iv76_4.toInt))) (V (40 * iv76_4.toInt + iv12_1.toInt))) (hz_g iv12_1.toInt iv31_2.toInt iv76_4.toInt 0) (hz_F3 V pn0.toInt iv12_1.toInt iv31_2.toInt (V (40 * iv12_1.toInt + iv31_2.toInt)) (hz_of 2 (hz_mi (V (40 * iv12_1.toInt + iv31_2.toInt)) (V (40 * iv31_2.toInt + iv12_1.toInt))) (hz_g iv12_1.toInt iv31_2.toInt 0 0) (hz_F2 V pn0.toInt iv12_1.toInt (hz_F1 V pn0.toInt iv12_1.toInt.toNat) (iv31_2.toInt - iv12_1.toInt - 1).toNat)) (iv76_4.toInt - iv12_1.toInt - 1).toNat)) (iv137_6.toInt - iv12_1.toInt - 1).toNat) vi137_0) (cwV 2 hts (hx_gV kw_1702 kw_1699 kw_1701 kw_88 kw_103) rfl rfl rfl (by decide +kernel) ⟨Nat.le_of_ble_eq_true rfl, Nat.le_of_ble_eq_true rfl⟩) rfl hl.1 rfl (Nat.le_of_ble_eq_true rfl) dX10_finds_199 ⟨Nat.le_of_ble_eq_true rfl, Nat.le_of_ble_eq_true rfl⟩) hW (fun L_76 h_77 H locs p_79 hW => ?_)
                                      obtain ⟨⟨w_81, w_82, w_83, fw_81, fw_82, fw_83, hr_80⟩, hT, hs⟩ := p_79
                                      replace hT : hx_T T_tb L_76 h_77 := hT
                                      replace hs : hx_S T_tb [(10, 86), (10, 87), (110, 0)] L_64 h_74 L_76 h_77 := hs
                                      replace nfa_75 : h_77.2.1 qrg = fa_75 := (funext fun j => (hs.a (gqrg.S hM) rfl j).1).trans nfa_75
                                      replace ex_63 := ex_63.trans (hs.a (gqdb.S hM) rfl _).1.symm
                                      replace hM := hM.tr (hs.mono ?o203)
                                      case o203 => decide
                                      have fw_81 : h_77.2.1 x 86 = w_81 := fw_81
                                      have bw_81 := hT.gi (gx.S hM) tt_10 (k := 86) rfl
                                      rw [fw_81] at bw_81
                                      have bw_81 : -2147483648 ≤ w_81.toInt ∧ w_81.toInt ≤ 2147483647 := bw_81
                                      have fw_82 : h_77.2.1 x 87 = w_82 := fw_82
                                      have bw_82 := hT.gi (gx.S hM) tt_10 (k := 87) rfl
                                      rw [fw_82] at bw_82
                                      have bw_82 : 0 ≤ w_82.toInt ∧ w_82.toInt ≤ 4 := bw_82
                                      have fw_83 : h_77.2.1 qbr = w_83 := fw_83
                                      have hS4 : hz_SR (hz_of 4 (hz_mi (hz_mi (hz_mi (V (40 * iv12_1.toInt + iv31_2.toInt)) (V (40 * iv31_2.toInt + iv76_4.toInt))) (V (40 * iv76_4.toInt + iv137_6.toInt))) (V (40 * iv137_6.toInt + iv12_1.toInt))) (hz_g iv12_1.toInt iv31_2.toInt iv76_4.toInt iv137_6.toInt) (hz_F4 V iv12_1.toInt iv31_2.toInt iv76_4.toInt (hz_mi (V (40 * iv12_1.toInt + iv31_2.toInt)) (V (40 * iv31_2.toInt + iv76_4.toInt))) (hz_of 3 (hz_mi (hz_mi (V (40 * iv12_1.toInt + iv31_2.toInt)) (V (40 * iv31_2.toInt + iv76_4.toInt))) (V (40 * iv76_4.toInt + iv12_1.toInt))) (hz_g iv12_1.toInt iv31_2.toInt iv76_4.toInt 0) (hz_F3 V pn0.toInt iv12_1.toInt iv31_2.toInt (V (40 * iv12_1.toInt + iv31_2.toInt)) (hz_of 2 (hz_mi (V (40 * iv12_1.toInt + iv31_2.toInt)) (V (40 * iv31_2.toInt + iv12_1.toInt))) (hz_g iv12_1.toInt iv31_2.toInt 0 0) (hz_F2 V pn0.toInt iv12_1.toInt (hz_F1 V pn0.toInt iv12_1.toInt.toNat) (iv31_2.toInt - iv12_1.toInt - 1).toNat)) (iv76_4.toInt - iv12_1.toInt - 1).toNat)) (iv137_6.toInt - iv12_1.toInt - 1).toNat)) w_81.toInt w_82.toInt w_83 := ?o204
                                      case o204 =>
                                        have h9 := hr_80
                                        rw [Option.some.inj hm164, zc_4, show ((4 : Int) - 1).toNat = 3 from by decide, hz_g_3, hz_g_0] at h9
                                        exact h9
                                      obtain ⟨x_84, ex_84⟩ : ∃ y : Int32, y = iv137_6 + Int32.ofInt 1 := ⟨_, rfl⟩
                                      have zx_84 : x_84.toInt = iv137_6.toInt + (1) := ?o205
                                      case o205 =>
                                        rw [ex_84]
                                        refine i32_add rfl ?o206 ?o207 ?o208
                                        case o206 => decide
                                        case o207 => omega
                                        case o208 => omega
                                      refine lv_iinc (v := x_84) (lv' := [(6, .int x_84), (7, .int r_66), (5, .int r_40), (4, .int iv76_4), (3, .int x_18), (2, .int iv31_2), (1, .int iv12_1), (0, .ref x)]) hx hb dX10_finds_202 hl (k := 1) rfl ex_84.symm ?o209 rfl (fun ls hl => ?_)
                                      case o209 => decide
                                      refine lv_goto (tgt := 137) hx hb dX10_finds_205 ?o210 ?_
                                      case o210 => decide
                                      exact ih137 x_84 w_81 w_82 fa_75 w_83 _ _ L_76 h_77 (by omega) (by omega) (i32_r _).1 (i32_r _).2 (by omega) (by omega) (hz_F4_y hS4 (by omega) (fun z9 => by rcases z9 with z9 | z9 | z9; exact absurd z9 (by first | with_reducible assumption | assumption); exact absurd z9 (by first | with_reducible assumption | assumption); rw [← Option.some.inj hm164] at z9; exact absurd z9 (by first | with_reducible assumption | assumption)) zx_84) rg195_0 rg195_1 rg195_2 (by omega) (by omega) ls (by omega) hW hT hM fw_81 fw_82 nfa_75 fw_83 (lv_sub hl [0, 2, 3, 4, 5, 6, 7] rfl)
                                    · skip
                                      refine lv_goto (tgt := 202) hx hb dX10_finds_184 ?o211 ?_
                                      case o211 => decide
                                      obtain ⟨x_85, ex_85⟩ : ∃ y : Int32, y = iv137_6 + Int32.ofInt 1 := ⟨_, rfl⟩
                                      have zx_85 : x_85.toInt = iv137_6.toInt + (1) := ?o212
                                      case o212 =>
                                        rw [ex_85]
                                        refine i32_add rfl ?o213 ?o214 ?o215
                                        case o213 => decide
                                        case o214 => omega
                                        case o215 => omega
                                      refine lv_iinc (v := x_85) (lv' := [(6, .int x_85), (7, .int r_66), (5, .int r_40), (4, .int iv76_4), (3, .int x_18), (2, .int iv31_2), (1, .int iv12_1), (0, .ref x)]) hx hb dX10_finds_202 hl (k := 1) rfl ex_85.symm ?o216 rfl (fun ls hl => ?_)
                                      case o216 => decide
                                      refine lv_goto (tgt := 137) hx hb dX10_finds_205 ?o217 ?_
                                      case o217 => decide
                                      refine ih137 x_85 fw137_x_86 fw137_x_87 ia137_qrg ia137_qbr _ _ L_64 h_65 ?o218 ?o219 (i32_r _).1 (i32_r _).2 ?o220 ?o221 (hz_F4_n vi137_0 ?o222 (Or.inr (Or.inr (by rw [← Option.some.inj hm164]; omega))) zx_85) vi137_1 vi137_2 vi137_3 ?o223 ?o224 ls ?o225 hW hT hM ffw137_x_86 ffw137_x_87 nia137_qrg nia137_qbr (lv_sub hl [0, 2, 3, 4, 5, 6, 7] rfl)
                                      case o218 => omega
                                      case o219 => omega
                                      case o220 => omega
                                      case o221 => omega
                                      case o222 => omega
                                      case o223 => omega
                                      case o224 => omega
                                      case o225 => omega
                          refine loop137 41 x_56 w_53 w_54 fa_47 w_55 _ _ L_48 h_49 ?o226 ?o227 (i32_r _).1 (i32_r _).2 ?o228 ?o229 (by rw [show (x_56.toInt - iv12_1.toInt - 1).toNat = 0 by omega]; exact hS3) rg125_0 rg125_1 rg125_2 ?o230 ?o231 ls ?o232 hW hT hM fw_53 fw_54 nfa_47 fw_55 hl
                          case o226 => omega
                          case o227 => omega
                          case o228 => omega
                          case o229 => omega
                          case o230 => omega
                          case o231 => omega
                          case o232 => omega
                        · skip
                          refine lv_goto (tgt := 208) hx hb dX10_finds_114 ?o233 ?_
                          case o233 => decide
                          obtain ⟨x_86, ex_86⟩ : ∃ y : Int32, y = iv76_4 + Int32.ofInt 1 := ⟨_, rfl⟩
                          have zx_86 : x_86.toInt = iv76_4.toInt + (1) := ?o234
                          case o234 =>
                            rw [ex_86]
                            refine i32_add rfl ?o235 ?o236 ?o237
                            case o235 => decide
                            case o236 => omega
                            case o237 => omega
                          refine lv_iinc (v := x_86) (lv' := [(4, .int x_86), (5, .int r_40), (3, .int x_18), (2, .int iv31_2), (1, .int iv12_1), (0, .ref x)]) hx hb dX10_finds_208 hl (k := 1) rfl ex_86.symm ?o238 rfl (fun ls hl => ?_)
                          case o238 => decide
                          refine lv_goto (tgt := 76) hx hb dX10_finds_211 ?o239 ?_
                          case o239 => decide
                          refine ih76 x_86 fw76_x_86 fw76_x_87 ia76_qrg ia76_qbr _ _ L_38 h_39 ?o240 ?o241 (i32_r _).1 (i32_r _).2 ?o242 ?o243 (hz_F3_n vi76_0 ?o244 (Or.inr (by rw [← Option.some.inj hm101]; omega)) zx_86) vi76_1 vi76_2 ?o245 ?o246 ls ?o247 hW hT hM ffw76_x_86 ffw76_x_87 nia76_qrg nia76_qbr (lv_sub hl [0, 2, 3, 4, 5] rfl)
                          case o240 => omega
                          case o241 => omega
                          case o242 => omega
                          case o243 => omega
                          case o244 => omega
                          case o245 => omega
                          case o246 => omega
                          case o247 => omega
                refine loop76 41 x_30 w_27 w_28 fa_21 w_29 _ _ L_22 h_23 ?o248 ?o249 (i32_r _).1 (i32_r _).2 ?o250 ?o251 (by rw [show (x_30.toInt - iv12_1.toInt - 1).toNat = 0 by omega]; exact hS2) rg65_0 rg65_1 ?o252 ?o253 ls ?o254 hW hT hM fw_27 fw_28 nfa_21 fw_29 hl
                case o248 => omega
                case o249 => omega
                case o250 => omega
                case o251 => omega
                case o252 => omega
                case o253 => omega
                case o254 => omega
              · skip
                refine lv_goto (tgt := 214) hx hb dX10_finds_55 ?o255 ?_
                case o255 => decide
                obtain ⟨x_87, ex_87⟩ : ∃ y : Int32, y = iv31_2 + Int32.ofInt 1 := ⟨_, rfl⟩
                have zx_87 : x_87.toInt = iv31_2.toInt + (1) := ?o256
                case o256 =>
                  rw [ex_87]
                  refine i32_add rfl ?o257 ?o258 ?o259
                  case o257 => decide
                  case o258 => omega
                  case o259 => omega
                refine lv_iinc (v := x_87) (lv' := [(2, .int x_87), (3, .int x_18), (1, .int iv12_1), (0, .ref x)]) hx hb dX10_finds_214 hl (k := 1) rfl ex_87.symm ?o260 rfl (fun ls hl => ?_)
                case o260 => decide
                refine lv_goto (tgt := 31) hx hb dX10_finds_217 ?o261 ?_
                case o261 => decide
                refine ih31 x_87 fw31_x_86 fw31_x_87 ia31_qrg ia31_qbr _ _ hL1 hl1 ?o262 ?o263 (i32_r _).1 (i32_r _).2 ?o264 ?o265 (hz_F2_n vi31_0 ?o266 (by rw [← Option.some.inj hv50]; omega) zx_87) vi31_1 ?o267 ?o268 ls ?o269 hW hT hM ffw31_x_86 ffw31_x_87 nia31_qrg nia31_qbr (lv_sub hl [0, 2, 3] rfl)
                case o262 => omega
                case o263 => omega
                case o264 => omega
                case o265 => omega
                case o266 => omega
                case o267 => omega
                case o268 => omega
                case o269 => omega
        refine loop31 41 x_11 fw12_x_86 fw12_x_87 fa_9 ia12_qbr _ _ hL1 h_8 ?o270 ?o271 (i32_r _).1 (i32_r _).2 ?o272 ?o273 (by rw [show (x_11.toInt - iv12_1.toInt - 1).toNat = 0 by omega]; exact vi12_0) rg27_0 ?o274 ?o275 ls ?o276 hW hT hM ffw12_x_86 ffw12_x_87 nfa_9 nia12_qbr hl
        case o270 => omega
        case o271 => omega
        case o272 => omega
        case o273 => omega
        case o274 => omega
        case o275 => omega
        case o276 => omega
  have zk_0 : (0 : Int32).toInt = 0 := ?o277
  case o277 => decide
  have zk_0 : (0 : Int32).toInt = 0 := ?o278
  case o278 => decide
  have zk_0 : (0 : Int32).toInt = 0 := ?o279
  case o279 => decide
  refine loop12 41 (0 : Int32) (0 : Int32) (0 : Int32) fa_5 fa_6 _ _ L h_3 ?o280 ?o281 ?o282 ?o283 ?o284 ?o285 (by rw [zk_0]; exact hz_SR_0 rfl rfl) ?o286 ls ?o287 hW hT hM f_2 f_4 nfa_5 nfa_6 hl
  case o280 => decide
  case o281 => decide
  case o282 => decide
  case o283 => decide
  case o284 => decide
  case o285 => decide
  case o286 => omega
  case o287 => omega
