section
set_option maxHeartbeats 4000000 in
set_option maxRecDepth 100000 in
theorem t_X10_other_v (l : Launch) (dC : Nat → ClassId) (dI : Nat → Nat → Nat) (dA : Nat → ClassId) (L : List Nat) (h : hx_h) (sz : Nat) (x : Nat) (i1 : Int32) (i2 : Int32) (hT : hx_T T_tb L h) (gx : hx_g L h x 10) (rby : Nat) (grby : hx_g L h rby 72) (f_x_37 : h.2.2 x 37 = some rby) (rag : Nat) (grag : hx_g L h rag 73) (f_x_38 : h.2.2 x 38 = some rag) (rfi : Nat) (grfi : hx_g L h rfi 78) (f_x_43 : h.2.2 x 43 = some rfi) (rsm : Nat) (grsm : hx_g L h rsm 74) (f_x_39 : h.2.2 x 39 = some rsm) (rrl : Nat) (grrl : hx_g L h rrl 50) (f_x_3 : h.2.2 x 3 = some rrl) (rfr : Nat) (grfr : hx_g L h rfr 75) (f_x_40 : h.2.2 x 40 = some rfr) (rbn : Nat) (grbn : hx_g L h rbn 58) (f_x_21 : h.2.2 x 21 = some rbn) (rpn : Nat) (grpn : hx_g L h rpn 51) (f_x_4 : h.2.2 x 4 = some rpn) (rpr : Nat) (grpr : hx_g L h rpr 52) (f_x_5 : h.2.2 x 5 = some rpr) (rst : Nat) (grst : hx_g L h rst 99) (f_x_66 : h.2.2 x 66 = some rst) (rfc : Nat) (grfc : hx_g L h rfc 88) (f_x_53 : h.2.2 x 53 = some rfc) (rho : Nat) (grho : hx_g L h rho 92) (f_x_58 : h.2.2 x 58 = some rho) (rtr : Nat) (grtr : hx_g L h rtr 80) (f_x_45 : h.2.2 x 45 = some rtr) (byf : Nat → Int32) (af_rby : h.2.1 rby = byf) (agf : Nat → Int32) (af_rag : h.2.1 rag = agf) (flf : Nat → Int32) (af_rfi : h.2.1 rfi = flf) (smf : Nat → Int32) (af_rsm : h.2.1 rsm = smf) (rlf : Nat → Int32) (af_rrl : h.2.1 rrl = rlf) (frf : Nat → Int32) (af_rfr : h.2.1 rfr = frf) (bnf : Nat → Int32) (af_rbn : h.2.1 rbn = bnf) (psf : Nat → Int32) (af_rpn : h.2.1 rpn = psf) (prf : Nat → Int32) (af_rpr : h.2.1 rpr = prf) (skf : Nat → Int32) (af_rst : h.2.1 rst = skf) (rf : Nat → Int32) (af_rfc : h.2.1 rfc = rf) (hof : Nat → Int32) (af_rho : h.2.1 rho = hof) (tf : Nat → Int32) (af_rtr : h.2.1 rtr = tf) (c0 : Int32) (f_x_36 : h.2.1 x 36 = c0) (m0 : Int32) (f_x_57 : h.2.1 x 57 = m0) (a0 : Int32) (f_x_1 : h.2.1 x 1 = a0) (adf hf : Nat → Int32) (A : Nat → hv_act) (hCA : hv_CA adf rlf psf prf a0.toInt A) (hAB : ∀ j : Nat, (∀ k, 0 ≤ (A j).2.1 k ∧ (A j).2.1 k ≤ 9999) ∧ hv_OK (A j).2.2) (hHO : hv_HO hof hf m0.toInt c0.toInt) : Met l yX10_other (Cond.code yX10_other cX10_other 9 (some .int) :: hx_all) ({ frames := 3, cells := 0, slots := 0, locals := 72 }) (va_Pc [.ref x, .int i1, .int i2] (hx_B T_tb (P_ty dA) (dC, dI) vwCl L h sz)) (va_Qi (fun (r : Int32) (u : List Nat × hx_h) => (hv_OT (hv_oJ rf hof frf bnf agf smf byf flf (A (i1.toInt + 1).toNat) c0.toInt.toNat) (fun j => (tf (hof j).toNatClampNeg).toInt) (A (i1.toInt + 1).toNat).2.1 i1.toInt a0.toInt i2.toInt m0.toInt r.toInt) ∧ hx_T T_tb u.1 u.2 ∧ hx_S T_tb [(99, 0)] L h u.1 u.2) (hx_E T_tb (P_ty dA) (dC, dI) vwCl (hx_A L sz)) (hx_A L sz)) 0 0 (hx_A L sz) := by
  refine hx_met (lv := [(0, .ref x), (1, .int i1), (2, .int i2)]) (by decide +kernel) rfl (Nat.le_of_ble_eq_true rfl) rfl ?_
  intro p e s m below meth c hx hb hml hr hlk hts0 hown hin hsz hW ls hl
  have hts : ∀ w ∈ hx_all, w.before _ s = true := fun w hw => hts0 w (List.mem_cons_of_mem _ hw)
  have hown : s.vm.findClass "SmallCourtModel" = some m.cls := hown
  have hM : hx_S T_tb [(99, 0)] L h L h := hx_S.rf
  have b_c0 := hT.gi gx tt_10 (k := 36) rfl
  rw [f_x_36] at b_c0
  have b_c0 : 0 ≤ c0.toInt ∧ c0.toInt ≤ 100 := b_c0
  have b_m0 := hT.gi gx tt_10 (k := 57) rfl
  rw [f_x_57] at b_m0
  have b_m0 : 0 ≤ m0.toInt ∧ m0.toInt ≤ 100 := b_m0
  have b_a0 := hT.gi gx tt_10 (k := 1) rfl
  rw [f_x_1] at b_a0
  have b_a0 : 0 ≤ a0.toInt ∧ a0.toInt ≤ 8 := b_a0
  refine lv_iload_n hx hb dX10_other_0 rfl (lv_at hl 1 rfl) ?_
  refine lv_iconst (v := -1) hx hb dX10_other_1 ?o0 ?_
  case o0 => decide
  refine lv_aload_n hx hb dX10_other_2 rfl (lv_at hl 0 rfl) ?_
  refine hk_geti hx hb hts hC_10 hown hW (gx.S hM) tt_10 1 ?o1 rfl kw_1144 ⟨rfl, rfl, rfl⟩ ((hM.o gx trivial rfl).1.trans f_x_1) dX10_other_3 ?_
  case o1 => decide
  refine lv_iconst (v := 1) hx hb dX10_other_6 ?o2 ?_
  case o2 => decide
  refine lv_isub hx hb dX10_other_7 ?_
  have rg_1 := i32_r a0
  refine lv_topi (fun x_2 ex_2 => ?_)
  have zx_2 : x_2.toInt = a0.toInt - 1 := ?o3
  case o3 =>
    rw [ex_2]
    refine i32_sub rfl ?o4 ?o5 ?o6
    case o4 => decide
    case o5 => omega
    case o6 => omega
  have zc_m1 : (-1 : Int32).toInt = -1 := ?o7
  case o7 => decide
  refine hx_goi (hx_runS (As := [.int i1, .int (-1 : Int32), .int x_2]) (rest := []) ⟨hx, hb, hml, hown, hts⟩ hW (t_X10_in l dC dI dA L h s.heap.size i1 (-1 : Int32) x_2 hT) (va_cwS 3 hts (hx_gS kw_1445 kw_1443 kw_1444 kw_103) rfl rfl rfl (by decide +kernel) ⟨Nat.le_of_ble_eq_true rfl, Nat.le_of_ble_eq_true rfl⟩) rfl hl.1 rfl (Nat.le_of_ble_eq_true rfl) dX10_other_8 ⟨Nat.le_of_ble_eq_true rfl, Nat.le_of_ble_eq_true rfl⟩) hW (fun r_5 L_3 h_4 H locs p_6 hW => ?_)
  obtain ⟨hr_7, hT, hs⟩ := p_6
  replace hT : hx_T T_tb L_3 h_4 := hT
  replace hs : hx_S T_tb [] L h L_3 h_4 := hs
  replace af_rst : h_4.2.1 rst = skf := (funext fun j => (hs.a (grst.S hM) rfl j).1).trans af_rst
  replace hM := hM.tr (hs.mono ?o8)
  case o8 => decide
  refine hb_if_eq (zx := r_5.toInt) (tgt := 24) hx hb rfl dX10_other_11 ?o9 (fun c_8 => ?_) (fun c_8 => ?_)
  case o9 => decide
  · skip
    replace hr_7 := hr_7.resolve_right (fun z9 => absurd (c_8.symm.trans z9.1) ?o10)
    case o10 => decide
    replace hr_7 := hr_7.2
    refine lv_iconst (v := -1) hx hb dX10_other_24 ?o11 ?_
    case o11 => decide
    refine hx_reti hx hb hr hlk hW ⟨(Or.inl ⟨?o12, ?o13⟩), hT, hM⟩ dX10_other_25
    case o12 => omega
    case o13 => decide
  · skip
    replace hr_7 := hr_7.resolve_left (fun z9 => c_8 z9.1)
    replace c_8 := hr_7.1
    replace hr_7 := hr_7.2
    refine lv_iload_n hx hb dX10_other_14 rfl (lv_at hl 2 rfl) ?_
    refine lv_iconst (v := 1) hx hb dX10_other_15 ?o14 ?_
    case o14 => decide
    refine lv_bipush (v := 6) hx hb dX10_other_16 ?o15 ?_
    case o15 => decide
    have zc_6 : (6 : Int32).toInt = 6 := ?o16
    case o16 => decide
    have zc_1 : (1 : Int32).toInt = 1 := ?o17
    case o17 => decide
    refine hx_goi (hx_runS (As := [.int i2, .int (1 : Int32), .int (6 : Int32)]) (rest := []) ⟨hx, hb, hml, hown, hts⟩ hW (t_X10_in l dC dI dA L_3 h_4 H.size i2 (1 : Int32) (6 : Int32) hT) (va_cwS 3 hts (hx_gS kw_1445 kw_1443 kw_1444 kw_103) rfl rfl rfl (by decide +kernel) ⟨Nat.le_of_ble_eq_true rfl, Nat.le_of_ble_eq_true rfl⟩) rfl hl.1 rfl (Nat.le_of_ble_eq_true rfl) dX10_other_18 ⟨Nat.le_of_ble_eq_true rfl, Nat.le_of_ble_eq_true rfl⟩) hW (fun r_11 L_9 h_10 H locs p_12 hW => ?_)
    obtain ⟨hr_13, hT, hs⟩ := p_12
    replace hT : hx_T T_tb L_9 h_10 := hT
    replace hs : hx_S T_tb [] L_3 h_4 L_9 h_10 := hs
    replace af_rst : h_10.2.1 rst = skf := (funext fun j => (hs.a (grst.S hM) rfl j).1).trans af_rst
    replace hM := hM.tr (hs.mono ?o18)
    case o18 => decide
    refine hb_if_ne (zx := r_11.toInt) (tgt := 26) hx hb rfl dX10_other_21 ?o19 (fun c_14 => ?_) (fun c_14 => ?_)
    case o19 => decide
    · skip
      replace hr_13 := hr_13.resolve_left (fun z9 => c_14 z9.1)
      replace c_14 := hr_13.1
      replace hr_13 := hr_13.2
      refine lv_iload_n hx hb dX10_other_26 rfl (lv_at hl 1 rfl) ?_
      refine lv_iconst (v := 1) hx hb dX10_other_27 ?o20 ?_
      case o20 => decide
      refine lv_iadd hx hb dX10_other_28 ?_
      have rg_15 := i32_r i1
      refine lv_topi (fun x_16 ex_16 => ?_)
      have zx_16 : x_16.toInt = i1.toInt + 1 := ?o21
      case o21 =>
        rw [ex_16]
        refine i32_add rfl ?o22 ?o23 ?o24
        case o22 => decide
        case o23 => omega
        case o24 => omega
      refine lv_istore_n (lv' := [(3, .int x_16), (0, .ref x), (1, .int i1), (2, .int i2)]) hx hb dX10_other_29 rfl hl ?o25 rfl (fun ls hl => ?_)
      case o25 => decide
      refine lv_iconst (v := 0) hx hb dX10_other_30 ?o26 ?_
      case o26 => decide
      refine lv_istore (lv' := [(4, .int (0 : Int32)), (3, .int x_16), (0, .ref x), (1, .int i1), (2, .int i2)]) hx hb dX10_other_31 hl ?o27 rfl (fun ls hl => ?_)
      case o27 => decide
      refine lv_iconst (v := 0) hx hb dX10_other_33 ?o28 ?_
      case o28 => decide
      refine lv_istore (lv' := [(5, .int (0 : Int32)), (4, .int (0 : Int32)), (3, .int x_16), (0, .ref x), (1, .int i1), (2, .int i2)]) hx hb dX10_other_34 hl ?o29 rfl (fun ls hl => ?_)
      case o29 => decide
      refine lv_iconst (v := 0) hx hb dX10_other_36 ?o30 ?_
      case o30 => decide
      refine lv_istore (lv' := [(6, .int (0 : Int32)), (5, .int (0 : Int32)), (4, .int (0 : Int32)), (3, .int x_16), (0, .ref x), (1, .int i1), (2, .int i2)]) hx hb dX10_other_37 hl ?o31 rfl (fun ls hl => ?_)
      case o31 => decide
      have loop39 : ∀ (n39 : Nat) (iv39_4 iv39_5 iv39_6 : Int32) (ia39_rst : Nat → Int32) (H : Heap) (locs : List Loc) (hL1 : List Nat) (hl1 : hx_h), 0 ≤ iv39_4.toInt → iv39_4.toInt ≤ 100 → 0 ≤ iv39_5.toInt → iv39_5.toInt ≤ 513948600 → 0 ≤ iv39_6.toInt → iv39_6.toInt ≤ 100 → (iv39_4.toInt = hv_oc (hv_oJ rf hof frf bnf agf smf byf flf (A (i1.toInt + 1).toNat) c0.toInt.toNat) i2.toInt (iv39_6.toInt).toNat) → (iv39_5.toInt = hv_os (hv_oJ rf hof frf bnf agf smf byf flf (A (i1.toInt + 1).toNat) c0.toInt.toNat) (fun j => (tf (hof j).toNatClampNeg).toInt) (A (i1.toInt + 1).toNat).2.1 (iv39_6.toInt).toNat) → (iv39_4.toInt ≤ iv39_6.toInt) → (iv39_5.toInt ≤ 5139486 * iv39_6.toInt) → (iv39_6.toInt ≤ m0.toInt) → ∀ (ls : Array Slot), 100 - iv39_6.toInt < (n39 : Int) → hx_W T_tb (P_ty dA) (dC, dI) vwCl (hx_A L sz) s.heap hL1 hl1 s H locs → hx_T T_tb hL1 hl1 → hx_S T_tb [(99, 0)] L h hL1 hl1 → hl1.2.1 rst = ia39_rst → lv_has ls 9 [(6, .int iv39_6), (5, .int iv39_5), (4, .int iv39_4), (3, .int x_16), (0, .ref x), (1, .int i1), (2, .int i2)] → W p l e ({ frames := 3, cells := 0, slots := 0, locals := 72 }) s m ([.ref x, .int i1, .int i2] : List Value).toArray below meth c H locs 0 0 (MQ below (va_Qi (fun (r : Int32) (u : List Nat × hx_h) => (hv_OT (hv_oJ rf hof frf bnf agf smf byf flf (A (i1.toInt + 1).toNat) c0.toInt.toNat) (fun j => (tf (hof j).toNatClampNeg).toInt) (A (i1.toInt + 1).toNat).2.1 i1.toInt a0.toInt i2.toInt m0.toInt r.toInt) ∧ hx_T T_tb u.1 u.2 ∧ hx_S T_tb [(99, 0)] L h u.1 u.2) (hx_E T_tb (P_ty dA) (dC, dI) vwCl (hx_A L sz)) (hx_A L sz)) ([.ref x, .int i1, .int i2] : List Value).toArray s 0 0 (hx_A L sz)) (F0 m 39 ls []) := by
        intro n39
        induction n39 with
        | zero => intro iv39_4 iv39_5 iv39_6 ia39_rst H locs hL1 hl1 bliv39_4 buiv39_4 bliv39_5 buiv39_5 bliv39_6 buiv39_6 vi39_0 vi39_1 vi39_2 vi39_3 vi39_4 ls hn39; exfalso; omega
        | succ n39 ih39 =>
          intro iv39_4 iv39_5 iv39_6 ia39_rst H locs hL1 hl1 bliv39_4 buiv39_4 bliv39_5 buiv39_5 bliv39_6 buiv39_6 vi39_0 vi39_1 vi39_2 vi39_3 vi39_4 ls hn39 hW hT hM  nia39_rst hl
          refine lv_iload hx hb dX10_other_39 (lv_at hl 0 rfl) ?_
          refine lv_aload_n hx hb dX10_other_41 rfl (lv_at hl 4 rfl) ?_
          refine hk_geti hx hb hts hC_10 hown hW (gx.S hM) tt_10 57 ?o32 rfl kw_1200 ⟨rfl, rfl, rfl⟩ ((hM.o gx trivial rfl).1.trans f_x_57) dX10_other_42 ?_
          case o32 => decide
          refine hb_icmp_ge (zx := iv39_6.toInt) (zy := m0.toInt) (tgt := 134) hx hb rfl rfl dX10_other_45 ?o33 (fun c_17 => ?_) (fun c_17 => ?_)
          case o33 => decide
          · skip
            refine lv_iload_n hx hb dX10_other_134 rfl (lv_at hl 6 rfl) ?_
            refine lv_bipush (v := 6) hx hb dX10_other_135 ?o34 ?_
            case o34 => decide
            refine hb_icmp_ne (zx := i2.toInt) (zy := 6) (tgt := 145) hx hb rfl ?o35 dX10_other_137 ?o36 (fun c_18 => ?_) (fun c_18 => ?_)
            case o35 => decide
            case o36 => decide
            · skip
              refine lv_iload hx hb dX10_other_145 (lv_at hl 2 rfl) ?_
              refine hx_reti hx hb hr hlk hW ⟨(Or.inr ⟨?o37, Or.inr ⟨?o38, (by have h8 := vi39_0; rw [show iv39_6.toInt.toNat = m0.toInt.toNat by omega] at h8; exact h8)⟩⟩), hT, hM⟩ dX10_other_147
              case o37 => omega
              case o38 => omega
            · skip
              refine lv_iload hx hb dX10_other_140 (lv_at hl 1 rfl) ?_
              refine lv_goto (tgt := 147) hx hb dX10_other_142 ?o39 ?_
              case o39 => decide
              refine hx_reti hx hb hr hlk hW ⟨(Or.inr ⟨?o40, Or.inl ⟨?o41, (by have h8 := vi39_1; rw [show iv39_6.toInt.toNat = m0.toInt.toNat by omega] at h8; exact h8)⟩⟩), hT, hM⟩ dX10_other_147
              case o40 => omega
              case o41 => omega
          · skip
            refine lv_aload_n hx hb dX10_other_48 rfl (lv_at hl 4 rfl) ?_
            refine hk_getr hx hb hts hC_10 hown hW (gx.S hM) tt_10 58 ?o42 rfl kw_1201 ⟨rfl, rfl, rfl⟩ ((hM.o gx trivial rfl).2.trans f_x_58) dX10_other_49 ?_
            case o42 => decide
            refine lv_iload hx hb dX10_other_52 (lv_at hl 0 rfl) ?_
            refine hx_iald hx hb hW hT (grho.S hM) tt_92 rfl ⟨?o43, ?o44⟩ dX10_other_54 (fun x_19 ex_19 lx_19 ux_19 => ?_)
            case o43 => omega
            case o44 => omega
            have ax_19 : x_19 = hof iv39_6.toNatClampNeg := ex_19.trans (congrFun (hx_afS hM grho rfl af_rho) _)
            refine lv_istore (lv' := [(7, .int x_19), (6, .int iv39_6), (5, .int iv39_5), (4, .int iv39_4), (3, .int x_16), (0, .ref x), (1, .int i1), (2, .int i2)]) hx hb dX10_other_55 hl ?o45 rfl (fun ls hl => ?_)
            case o45 => decide
            obtain ⟨ho_20b, ho_20c, _⟩ := hHO iv39_6.toNatClampNeg (by unfold Int32.toNatClampNeg; omega); rw [← ax_19] at ho_20b ho_20c
            obtain ⟨⟨hq_211, _⟩, hq_212, hq_213⟩ := hCA.2 x_16.toInt.toNat (by omega)
            have hq_21e : (A (i1.toInt + 1).toNat) = (A x_16.toInt.toNat) := ?o46
            case o46 => rw [show x_16.toInt.toNat = (i1.toInt + 1).toNat by omega]
            rw [← hq_21e] at hq_212 hq_213
            refine lv_aload_n hx hb dX10_other_57 rfl (lv_at hl 5 rfl) ?_
            refine lv_iload hx hb dX10_other_58 (lv_at hl 0 rfl) ?_
            refine lv_iload_n hx hb dX10_other_60 rfl (lv_at hl 4 rfl) ?_
            refine hx_goi (hx_runV (As := [.int x_19, .int x_16]) (rest := []) ⟨hx, hb, hml, hown, hts⟩ hW (gx.S hM) tt_10 (T := TX10) (N := 98) rfl (t_X10_judges_v l dC dI dA hL1 hl1 H.size x x_19 x_16 hT (gx.S hM) rby (grby.S hM) ((hM.o gx trivial rfl).2.trans f_x_37) rag (grag.S hM) ((hM.o gx trivial rfl).2.trans f_x_38) rfi (grfi.S hM) ((hM.o gx trivial rfl).2.trans f_x_43) rsm (grsm.S hM) ((hM.o gx trivial rfl).2.trans f_x_39) rrl (grrl.S hM) ((hM.o gx trivial rfl).2.trans f_x_3) rfr (grfr.S hM) ((hM.o gx trivial rfl).2.trans f_x_40) rbn (grbn.S hM) ((hM.o gx trivial rfl).2.trans f_x_21) rpn (grpn.S hM) ((hM.o gx trivial rfl).2.trans f_x_4) rpr (grpr.S hM) ((hM.o gx trivial rfl).2.trans f_x_5) rst (grst.S hM) ((hM.o gx trivial rfl).2.trans f_x_66) rfc (grfc.S hM) ((hM.o gx trivial rfl).2.trans f_x_53) byf (hx_afS hM grby rfl af_rby) agf (hx_afS hM grag rfl af_rag) flf (hx_afS hM grfi rfl af_rfi) smf (hx_afS hM grsm rfl af_rsm) rlf (hx_afS hM grrl rfl af_rrl) frf (hx_afS hM grfr rfl af_rfr) bnf (hx_afS hM grbn rfl af_rbn) psf (hx_afS hM grpn rfl af_rpn) prf (hx_afS hM grpr rfl af_rpr) ia39_rst nia39_rst rf (hx_afS hM grfc rfl af_rfc) c0 ((hM.o gx trivial rfl).1.trans f_x_36) ⟨?o47, ?o48⟩ ⟨?o49, ?o50⟩ (A (i1.toInt + 1).toNat).2.1 (fun k hk => by rw [← hq_212]; show _ = (if k < 13 then _ else 0); rw [if_pos (by omega)]) (hAB _).1 (A (i1.toInt + 1).toNat).2.2 (hAB _).2 hq_213 hq_211) (cwV 2 hts (hx_gV kw_1617 kw_1614 kw_1616 kw_77 kw_103) rfl rfl rfl (by decide +kernel) ⟨Nat.le_of_ble_eq_true rfl, Nat.le_of_ble_eq_true rfl⟩) rfl hl.1 rfl (Nat.le_of_ble_eq_true rfl) dX10_other_61 ⟨Nat.le_of_ble_eq_true rfl, Nat.le_of_ble_eq_true rfl⟩) hW (fun r_24 L_22 h_23 H locs p_25 hW => ?_)
            case o47 => omega
            case o48 => omega
            case o49 => omega
            case o50 => omega
            obtain ⟨hr_26, hT, hs⟩ := p_25
            replace hT : hx_T T_tb L_22 h_23 := hT
            replace hs : hx_S T_tb [(99, 0)] hL1 hl1 L_22 h_23 := hs
            replace ex_19 := ex_19.trans (hs.a (grho.S hM) rfl _).1.symm
            replace hM := hM.tr (hs.mono ?o51)
            case o51 => decide
            refine lv_istore (lv' := [(8, .int r_24), (7, .int x_19), (6, .int iv39_6), (5, .int iv39_5), (4, .int iv39_4), (3, .int x_16), (0, .ref x), (1, .int i1), (2, .int i2)]) hx hb dX10_other_64 hl ?o52 rfl (fun ls hl => ?_)
            case o52 => decide
            have hJ_27 : r_24.toInt = (hv_oJ rf hof frf bnf agf smf byf flf (A (i1.toInt + 1).toNat) c0.toInt.toNat) iv39_6.toInt.toNat := ?o53
            case o53 =>
              rw [hr_26.1, ax_19]
              rfl
            refine lv_iload hx hb dX10_other_66 (lv_at hl 4 rfl) ?_
            refine lv_iload hx hb dX10_other_68 (lv_at hl 0 rfl) ?_
            refine lv_iload_n hx hb dX10_other_70 rfl (lv_at hl 8 rfl) ?_
            refine hb_icmp_ne (zx := r_24.toInt) (zy := i2.toInt) (tgt := 78) hx hb rfl rfl dX10_other_71 ?o54 (fun c_28 => ?_) (fun c_28 => ?_)
            case o54 => decide
            · skip
              refine lv_iconst (v := 0) hx hb dX10_other_78 ?o55 ?_
              case o55 => decide
              refine lv_iadd hx hb dX10_other_79 ?_
              have rg_29 := i32_r iv39_4
              refine lv_topi (fun x_30 ex_30 => ?_)
              have zx_30 : x_30.toInt = iv39_4.toInt + 0 := ?o56
              case o56 =>
                rw [ex_30]
                refine i32_add rfl ?o57 ?o58 ?o59
                case o57 => decide
                case o58 => omega
                case o59 => omega
              refine lv_istore (lv' := [(4, .int x_30), (8, .int r_24), (7, .int x_19), (6, .int iv39_6), (5, .int iv39_5), (3, .int x_16), (0, .ref x), (1, .int i1), (2, .int i2)]) hx hb dX10_other_80 hl ?o60 rfl (fun ls hl => ?_)
              case o60 => decide
              refine lv_iload hx hb dX10_other_82 (lv_at hl 4 rfl) ?_
              refine lv_aload_n hx hb dX10_other_84 rfl (lv_at hl 6 rfl) ?_
              refine hk_getr hx hb hts hC_10 hown hW (gx.S hM) tt_10 45 ?o61 rfl kw_1188 ⟨rfl, rfl, rfl⟩ ((hM.o gx trivial rfl).2.trans f_x_45) dX10_other_85 ?_
              case o61 => decide
              refine lv_iload hx hb dX10_other_88 (lv_at hl 2 rfl) ?_
              refine hx_iald hx hb hW hT (grtr.S hM) tt_80 rfl ⟨?o62, ?o63⟩ dX10_other_90 (fun x_31 ex_31 lx_31 ux_31 => ?_)
              case o62 => omega
              case o63 => omega
              have ax_31 : x_31 = tf x_19.toNatClampNeg := ex_31.trans (congrFun (hx_afS hM grtr rfl af_rtr) _)
              have ct8 : x_31 = tf (hof iv39_6.toNatClampNeg).toNatClampNeg := ?o64
              case o64 => rw [ax_31, ← ax_19]
              have ct9 : x_31 = tf (hof iv39_6.toInt.toNat).toNatClampNeg := ct8
              refine lv_aload_n hx hb dX10_other_91 rfl (lv_at hl 6 rfl) ?_
              refine lv_iload_n hx hb dX10_other_92 rfl (lv_at hl 5 rfl) ?_
              refine lv_bipush (v := 9) hx hb dX10_other_93 ?o65 ?_
              case o65 => decide
              have zc_9 : (9 : Int32).toInt = 9 := ?o66
              case o66 => decide
              refine hx_goi (hx_runV (As := [.int x_16, .int (9 : Int32)]) (rest := [.int x_31, .int iv39_5]) ⟨hx, hb, hml, hown, hts⟩ hW (gx.S hM) tt_10 (T := TX10) (N := 98) rfl (t_X10_ruleOf_v l dC dI dA L_22 h_23 H.size x x_16 (9 : Int32) hT (gx.S hM) rrl (grrl.S hM) ((hM.o gx trivial rfl).2.trans f_x_3) rlf (hx_afS hM grrl rfl af_rrl) ⟨?o67, ?o68⟩ ?o69) (cwV 2 hts (hx_gV kw_1533 kw_1530 kw_1532 kw_66 kw_103) rfl rfl rfl (by decide +kernel) ⟨Nat.le_of_ble_eq_true rfl, Nat.le_of_ble_eq_true rfl⟩) rfl hl.1 rfl (Nat.le_of_ble_eq_true rfl) dX10_other_95 ⟨Nat.le_of_ble_eq_true rfl, Nat.le_of_ble_eq_true rfl⟩) hW (fun r_34 L_32 h_33 H locs p_35 hW => ?_)
              case o67 => omega
              case o68 => omega
              case o69 => decide
              obtain ⟨hr_36, hT, hs⟩ := p_35
              replace hT : hx_T T_tb L_32 h_33 := hT
              replace hs : hx_S T_tb [] L_22 h_23 L_32 h_33 := hs
              replace ex_19 := ex_19.trans (hs.a (grho.S hM) rfl _).1.symm
              replace ex_31 := ex_31.trans (hs.a (grtr.S hM) rfl _).1.symm
              replace hM := hM.tr (hs.mono ?o70)
              case o70 => decide
              have hR_37 : r_34.toInt = (A (i1.toInt + 1).toNat).2.1 9 := ?o71
              case o71 =>
                rw [hr_36.1, ← hq_212]
                show _ = (if 9 < 13 then _ else 0)
                rw [if_pos (by decide)]
                congr 2
              refine lv_imul hx hb dX10_other_98 ?_
              refine lv_topi (fun x_38 ex_38 => ?_)
              have mx_38 : x_31.toInt = 0 → x_38.toInt = 0 := fun z => by rw [ex_38]; exact hx_mul0 z
              obtain ⟨zm_39, zm_39l, zm_39h⟩ := hv_mul9 ⟨by omega, by omega⟩ ⟨by omega, by omega⟩ ex_38
              refine lv_aload_n hx hb dX10_other_99 rfl (lv_at hl 6 rfl) ?_
              refine lv_iload_n hx hb dX10_other_100 rfl (lv_at hl 5 rfl) ?_
              refine lv_bipush (v := 10) hx hb dX10_other_101 ?o72 ?_
              case o72 => decide
              have zc_10 : (10 : Int32).toInt = 10 := ?o73
              case o73 => decide
              refine hx_goi (hx_runV (As := [.int x_16, .int (10 : Int32)]) (rest := [.int x_38, .int iv39_5]) ⟨hx, hb, hml, hown, hts⟩ hW (gx.S hM) tt_10 (T := TX10) (N := 98) rfl (t_X10_ruleOf_v l dC dI dA L_32 h_33 H.size x x_16 (10 : Int32) hT (gx.S hM) rrl (grrl.S hM) ((hM.o gx trivial rfl).2.trans f_x_3) rlf (hx_afS hM grrl rfl af_rrl) ⟨?o74, ?o75⟩ ?o76) (cwV 2 hts (hx_gV kw_1533 kw_1530 kw_1532 kw_66 kw_103) rfl rfl rfl (by decide +kernel) ⟨Nat.le_of_ble_eq_true rfl, Nat.le_of_ble_eq_true rfl⟩) rfl hl.1 rfl (Nat.le_of_ble_eq_true rfl) dX10_other_103 ⟨Nat.le_of_ble_eq_true rfl, Nat.le_of_ble_eq_true rfl⟩) hW (fun r_42 L_40 h_41 H locs p_43 hW => ?_)
              case o74 => omega
              case o75 => omega
              case o76 => decide
              obtain ⟨hr_44, hT, hs⟩ := p_43
              replace hT : hx_T T_tb L_40 h_41 := hT
              replace hs : hx_S T_tb [] L_32 h_33 L_40 h_41 := hs
              replace ex_19 := ex_19.trans (hs.a (grho.S hM) rfl _).1.symm
              replace ex_31 := ex_31.trans (hs.a (grtr.S hM) rfl _).1.symm
              replace hM := hM.tr (hs.mono ?o77)
              case o77 => decide
              have hR_45 : r_42.toInt = (A (i1.toInt + 1).toNat).2.1 10 := ?o78
              case o78 =>
                rw [hr_44.1, ← hq_212]
                show _ = (if 10 < 13 then _ else 0)
                rw [if_pos (by decide)]
                congr 2
              refine lv_iadd hx hb dX10_other_106 ?_
              have rg_46 := i32_r x_38
              have rg_47 := i32_r r_42
              refine lv_topi (fun x_48 ex_48 => ?_)
              have zx_48 : x_48.toInt = x_38.toInt + r_42.toInt := ?o79
              case o79 =>
                rw [ex_48]
                refine i32_add rfl rfl ?o80 ?o81
                case o80 => omega
                case o81 => omega
              refine lv_iload hx hb dX10_other_107 (lv_at hl 1 rfl) ?_
              refine lv_iconst (v := 5) hx hb dX10_other_109 ?o82 ?_
              case o82 => decide
              refine hb_icmp_ne (zx := r_24.toInt) (zy := 5) (tgt := 123) hx hb rfl ?o83 dX10_other_110 ?o84 (fun c_49 => ?_) (fun c_49 => ?_)
              case o83 => decide
              case o84 => decide
              · skip
                refine lv_iconst (v := 0) hx hb dX10_other_123 ?o85 ?_
                case o85 => decide
                refine lv_iadd hx hb dX10_other_124 ?_
                have rg_50 := i32_r x_48
                refine lv_topi (fun x_51 ex_51 => ?_)
                have zx_51 : x_51.toInt = x_48.toInt + 0 := ?o86
                case o86 =>
                  rw [ex_51]
                  refine i32_add rfl ?o87 ?o88 ?o89
                  case o87 => decide
                  case o88 => omega
                  case o89 => omega
                refine lv_iadd hx hb dX10_other_125 ?_
                have rg_52 := i32_r iv39_5
                have rg_53 := i32_r x_51
                refine lv_topi (fun x_54 ex_54 => ?_)
                have zx_54 : x_54.toInt = iv39_5.toInt + x_51.toInt := ?o90
                case o90 =>
                  rw [ex_54]
                  refine i32_add rfl rfl ?o91 ?o92
                  case o91 => omega
                  case o92 => omega
                refine lv_istore (lv' := [(5, .int x_54), (4, .int x_30), (8, .int r_24), (7, .int x_19), (6, .int iv39_6), (3, .int x_16), (0, .ref x), (1, .int i1), (2, .int i2)]) hx hb dX10_other_126 hl ?o93 rfl (fun ls hl => ?_)
                case o93 => decide
                obtain ⟨x_55, ex_55⟩ : ∃ y : Int32, y = iv39_6 + Int32.ofInt 1 := ⟨_, rfl⟩
                have rg_56 := i32_r iv39_6
                have zx_55 : x_55.toInt = iv39_6.toInt + (1) := ?o94
                case o94 =>
                  rw [ex_55]
                  refine i32_add rfl ?o95 ?o96 ?o97
                  case o95 => decide
                  case o96 => omega
                  case o97 => omega
                refine lv_iinc (v := x_55) (lv' := [(6, .int x_55), (5, .int x_54), (4, .int x_30), (8, .int r_24), (7, .int x_19), (3, .int x_16), (0, .ref x), (1, .int i1), (2, .int i2)]) hx hb dX10_other_128 hl (k := 4) rfl ex_55.symm ?o98 rfl (fun ls hl => ?_)
                case o98 => decide
                refine lv_goto (tgt := 39) hx hb dX10_other_131 ?o99 ?_
                case o99 => decide
                obtain ⟨fa_57, nfa_57⟩ : ∃ g : Nat → Int32, h_41.2.1 rst = g := ⟨_, rfl⟩
                refine ih39 x_30 x_54 x_55 fa_57 _ _ L_40 h_41 ?o100 ?o101 ?o102 ?o103 ?o104 ?o105 (by by_cases z9 : r_24.toInt = i2.toInt; exact hv_oc_y vi39_0 (by rw [← hJ_27]; exact z9) (by omega) (by omega) zx_55; exact hv_oc_n vi39_0 (by rw [← hJ_27]; exact z9) (by omega) (by omega) zx_55) (hv_os_s vi39_1 (c := x_51.toInt) (by show _ = (tf (hof _).toNatClampNeg).toInt * _ + _ + _; rw [← ct9, ← hJ_27, ← hR_37, ← hR_45]; rw [if_neg (show ¬ r_24.toInt = 5 by omega)]; omega) ?o106 zx_54 zx_55) ?o107 ?o108 ?o109 ls ?o110 hW hT hM  nfa_57 (lv_sub hl [0, 1, 2, 5, 6, 7, 8] rfl)
                case o100 => omega
                case o101 => omega
                case o102 => omega
                case o103 => omega
                case o104 => omega
                case o105 => omega
                case o106 => omega
                case o107 => omega
                case o108 => omega
                case o109 => omega
                case o110 => omega
              · skip
                refine lv_aload_n hx hb dX10_other_113 rfl (lv_at hl 6 rfl) ?_
                refine lv_iload_n hx hb dX10_other_114 rfl (lv_at hl 5 rfl) ?_
                refine lv_bipush (v := 11) hx hb dX10_other_115 ?o111 ?_
                case o111 => decide
                have zc_11 : (11 : Int32).toInt = 11 := ?o112
                case o112 => decide
                refine hx_goi (hx_runV (As := [.int x_16, .int (11 : Int32)]) (rest := [.int x_48, .int iv39_5]) ⟨hx, hb, hml, hown, hts⟩ hW (gx.S hM) tt_10 (T := TX10) (N := 98) rfl (t_X10_ruleOf_v l dC dI dA L_40 h_41 H.size x x_16 (11 : Int32) hT (gx.S hM) rrl (grrl.S hM) ((hM.o gx trivial rfl).2.trans f_x_3) rlf (hx_afS hM grrl rfl af_rrl) ⟨?o113, ?o114⟩ ?o115) (cwV 2 hts (hx_gV kw_1533 kw_1530 kw_1532 kw_66 kw_103) rfl rfl rfl (by decide +kernel) ⟨Nat.le_of_ble_eq_true rfl, Nat.le_of_ble_eq_true rfl⟩) rfl hl.1 rfl (Nat.le_of_ble_eq_true rfl) dX10_other_117 ⟨Nat.le_of_ble_eq_true rfl, Nat.le_of_ble_eq_true rfl⟩) hW (fun r_60 L_58 h_59 H locs p_61 hW => ?_)
                case o113 => omega
                case o114 => omega
                case o115 => decide
                obtain ⟨hr_62, hT, hs⟩ := p_61
                replace hT : hx_T T_tb L_58 h_59 := hT
                replace hs : hx_S T_tb [] L_40 h_41 L_58 h_59 := hs
                replace ex_19 := ex_19.trans (hs.a (grho.S hM) rfl _).1.symm
                replace ex_31 := ex_31.trans (hs.a (grtr.S hM) rfl _).1.symm
                replace hM := hM.tr (hs.mono ?o116)
                case o116 => decide
                have hR_63 : r_60.toInt = (A (i1.toInt + 1).toNat).2.1 11 := ?o117
                case o117 =>
                  rw [hr_62.1, ← hq_212]
                  show _ = (if 11 < 13 then _ else 0)
                  rw [if_pos (by decide)]
                  congr 2
                refine lv_goto (tgt := 124) hx hb dX10_other_120 ?o118 ?_
                case o118 => decide
                refine lv_iadd hx hb dX10_other_124 ?_
                have rg_64 := i32_r x_48
                have rg_65 := i32_r r_60
                refine lv_topi (fun x_66 ex_66 => ?_)
                have zx_66 : x_66.toInt = x_48.toInt + r_60.toInt := ?o119
                case o119 =>
                  rw [ex_66]
                  refine i32_add rfl rfl ?o120 ?o121
                  case o120 => omega
                  case o121 => omega
                refine lv_iadd hx hb dX10_other_125 ?_
                have rg_67 := i32_r iv39_5
                have rg_68 := i32_r x_66
                refine lv_topi (fun x_69 ex_69 => ?_)
                have zx_69 : x_69.toInt = iv39_5.toInt + x_66.toInt := ?o122
                case o122 =>
                  rw [ex_69]
                  refine i32_add rfl rfl ?o123 ?o124
                  case o123 => omega
                  case o124 => omega
                refine lv_istore (lv' := [(5, .int x_69), (4, .int x_30), (8, .int r_24), (7, .int x_19), (6, .int iv39_6), (3, .int x_16), (0, .ref x), (1, .int i1), (2, .int i2)]) hx hb dX10_other_126 hl ?o125 rfl (fun ls hl => ?_)
                case o125 => decide
                obtain ⟨x_70, ex_70⟩ : ∃ y : Int32, y = iv39_6 + Int32.ofInt 1 := ⟨_, rfl⟩
                have rg_71 := i32_r iv39_6
                have zx_70 : x_70.toInt = iv39_6.toInt + (1) := ?o126
                case o126 =>
                  rw [ex_70]
                  refine i32_add rfl ?o127 ?o128 ?o129
                  case o127 => decide
                  case o128 => omega
                  case o129 => omega
                refine lv_iinc (v := x_70) (lv' := [(6, .int x_70), (5, .int x_69), (4, .int x_30), (8, .int r_24), (7, .int x_19), (3, .int x_16), (0, .ref x), (1, .int i1), (2, .int i2)]) hx hb dX10_other_128 hl (k := 4) rfl ex_70.symm ?o130 rfl (fun ls hl => ?_)
                case o130 => decide
                refine lv_goto (tgt := 39) hx hb dX10_other_131 ?o131 ?_
                case o131 => decide
                obtain ⟨fa_72, nfa_72⟩ : ∃ g : Nat → Int32, h_59.2.1 rst = g := ⟨_, rfl⟩
                refine ih39 x_30 x_69 x_70 fa_72 _ _ L_58 h_59 ?o132 ?o133 ?o134 ?o135 ?o136 ?o137 (by by_cases z9 : r_24.toInt = i2.toInt; exact hv_oc_y vi39_0 (by rw [← hJ_27]; exact z9) (by omega) (by omega) zx_70; exact hv_oc_n vi39_0 (by rw [← hJ_27]; exact z9) (by omega) (by omega) zx_70) (hv_os_s vi39_1 (c := x_66.toInt) (by show _ = (tf (hof _).toNatClampNeg).toInt * _ + _ + _; rw [← ct9, ← hJ_27, ← hR_37, ← hR_45]; rw [if_pos (show r_24.toInt = 5 by omega), ← hR_63]; omega) ?o138 zx_69 zx_70) ?o139 ?o140 ?o141 ls ?o142 hW hT hM  nfa_72 (lv_sub hl [0, 1, 2, 5, 6, 7, 8] rfl)
                case o132 => omega
                case o133 => omega
                case o134 => omega
                case o135 => omega
                case o136 => omega
                case o137 => omega
                case o138 => omega
                case o139 => omega
                case o140 => omega
                case o141 => omega
                case o142 => omega
            · skip
              refine lv_iconst (v := 1) hx hb dX10_other_74 ?o143 ?_
              case o143 => decide
              refine lv_goto (tgt := 79) hx hb dX10_other_75 ?o144 ?_
              case o144 => decide
              refine lv_iadd hx hb dX10_other_79 ?_
              have rg_73 := i32_r iv39_4
              refine lv_topi (fun x_74 ex_74 => ?_)
              have zx_74 : x_74.toInt = iv39_4.toInt + 1 := ?o145
              case o145 =>
                rw [ex_74]
                refine i32_add rfl ?o146 ?o147 ?o148
                case o146 => decide
                case o147 => omega
                case o148 => omega
              refine lv_istore (lv' := [(4, .int x_74), (8, .int r_24), (7, .int x_19), (6, .int iv39_6), (5, .int iv39_5), (3, .int x_16), (0, .ref x), (1, .int i1), (2, .int i2)]) hx hb dX10_other_80 hl ?o149 rfl (fun ls hl => ?_)
              case o149 => decide
              refine lv_iload hx hb dX10_other_82 (lv_at hl 4 rfl) ?_
              refine lv_aload_n hx hb dX10_other_84 rfl (lv_at hl 6 rfl) ?_
              refine hk_getr hx hb hts hC_10 hown hW (gx.S hM) tt_10 45 ?o150 rfl kw_1188 ⟨rfl, rfl, rfl⟩ ((hM.o gx trivial rfl).2.trans f_x_45) dX10_other_85 ?_
              case o150 => decide
              refine lv_iload hx hb dX10_other_88 (lv_at hl 2 rfl) ?_
              refine hx_iald hx hb hW hT (grtr.S hM) tt_80 rfl ⟨?o151, ?o152⟩ dX10_other_90 (fun x_75 ex_75 lx_75 ux_75 => ?_)
              case o151 => omega
              case o152 => omega
              have ax_75 : x_75 = tf x_19.toNatClampNeg := ex_75.trans (congrFun (hx_afS hM grtr rfl af_rtr) _)
              have ct8 : x_75 = tf (hof iv39_6.toNatClampNeg).toNatClampNeg := ?o153
              case o153 => rw [ax_75, ← ax_19]
              have ct9 : x_75 = tf (hof iv39_6.toInt.toNat).toNatClampNeg := ct8
              refine lv_aload_n hx hb dX10_other_91 rfl (lv_at hl 6 rfl) ?_
              refine lv_iload_n hx hb dX10_other_92 rfl (lv_at hl 5 rfl) ?_
              refine lv_bipush (v := 9) hx hb dX10_other_93 ?o154 ?_
              case o154 => decide
              have zc_9 : (9 : Int32).toInt = 9 := ?o155
              case o155 => decide
              refine hx_goi (hx_runV (As := [.int x_16, .int (9 : Int32)]) (rest := [.int x_75, .int iv39_5]) ⟨hx, hb, hml, hown, hts⟩ hW (gx.S hM) tt_10 (T := TX10) (N := 98) rfl (t_X10_ruleOf_v l dC dI dA L_22 h_23 H.size x x_16 (9 : Int32) hT (gx.S hM) rrl (grrl.S hM) ((hM.o gx trivial rfl).2.trans f_x_3) rlf (hx_afS hM grrl rfl af_rrl) ⟨?o156, ?o157⟩ ?o158) (cwV 2 hts (hx_gV kw_1533 kw_1530 kw_1532 kw_66 kw_103) rfl rfl rfl (by decide +kernel) ⟨Nat.le_of_ble_eq_true rfl, Nat.le_of_ble_eq_true rfl⟩) rfl hl.1 rfl (Nat.le_of_ble_eq_true rfl) dX10_other_95 ⟨Nat.le_of_ble_eq_true rfl, Nat.le_of_ble_eq_true rfl⟩) hW (fun r_78 L_76 h_77 H locs p_79 hW => ?_)
              case o156 => omega
              case o157 => omega
              case o158 => decide
              obtain ⟨hr_80, hT, hs⟩ := p_79
              replace hT : hx_T T_tb L_76 h_77 := hT
              replace hs : hx_S T_tb [] L_22 h_23 L_76 h_77 := hs
              replace ex_19 := ex_19.trans (hs.a (grho.S hM) rfl _).1.symm
              replace ex_75 := ex_75.trans (hs.a (grtr.S hM) rfl _).1.symm
              replace hM := hM.tr (hs.mono ?o159)
              case o159 => decide
              have hR_81 : r_78.toInt = (A (i1.toInt + 1).toNat).2.1 9 := ?o160
              case o160 =>
                rw [hr_80.1, ← hq_212]
                show _ = (if 9 < 13 then _ else 0)
                rw [if_pos (by decide)]
                congr 2
              refine lv_imul hx hb dX10_other_98 ?_
              refine lv_topi (fun x_82 ex_82 => ?_)
              have mx_82 : x_75.toInt = 0 → x_82.toInt = 0 := fun z => by rw [ex_82]; exact hx_mul0 z
              obtain ⟨zm_83, zm_83l, zm_83h⟩ := hv_mul9 ⟨by omega, by omega⟩ ⟨by omega, by omega⟩ ex_82
              refine lv_aload_n hx hb dX10_other_99 rfl (lv_at hl 6 rfl) ?_
              refine lv_iload_n hx hb dX10_other_100 rfl (lv_at hl 5 rfl) ?_
              refine lv_bipush (v := 10) hx hb dX10_other_101 ?o161 ?_
              case o161 => decide
              have zc_10 : (10 : Int32).toInt = 10 := ?o162
              case o162 => decide
              refine hx_goi (hx_runV (As := [.int x_16, .int (10 : Int32)]) (rest := [.int x_82, .int iv39_5]) ⟨hx, hb, hml, hown, hts⟩ hW (gx.S hM) tt_10 (T := TX10) (N := 98) rfl (t_X10_ruleOf_v l dC dI dA L_76 h_77 H.size x x_16 (10 : Int32) hT (gx.S hM) rrl (grrl.S hM) ((hM.o gx trivial rfl).2.trans f_x_3) rlf (hx_afS hM grrl rfl af_rrl) ⟨?o163, ?o164⟩ ?o165) (cwV 2 hts (hx_gV kw_1533 kw_1530 kw_1532 kw_66 kw_103) rfl rfl rfl (by decide +kernel) ⟨Nat.le_of_ble_eq_true rfl, Nat.le_of_ble_eq_true rfl⟩) rfl hl.1 rfl (Nat.le_of_ble_eq_true rfl) dX10_other_103 ⟨Nat.le_of_ble_eq_true rfl, Nat.le_of_ble_eq_true rfl⟩) hW (fun r_86 L_84 h_85 H locs p_87 hW => ?_)
              case o163 => omega
              case o164 => omega
              case o165 => decide
              obtain ⟨hr_88, hT, hs⟩ := p_87
              replace hT : hx_T T_tb L_84 h_85 := hT
              replace hs : hx_S T_tb [] L_76 h_77 L_84 h_85 := hs
              replace ex_19 := ex_19.trans (hs.a (grho.S hM) rfl _).1.symm
              replace ex_75 := ex_75.trans (hs.a (grtr.S hM) rfl _).1.symm
              replace hM := hM.tr (hs.mono ?o166)
              case o166 => decide
              have hR_89 : r_86.toInt = (A (i1.toInt + 1).toNat).2.1 10 := ?o167
              case o167 =>
                rw [hr_88.1, ← hq_212]
                show _ = (if 10 < 13 then _ else 0)
                rw [if_pos (by decide)]
                congr 2
              refine lv_iadd hx hb dX10_other_106 ?_
              have rg_90 := i32_r x_82
              have rg_91 := i32_r r_86
              refine lv_topi (fun x_92 ex_92 => ?_)
              have zx_92 : x_92.toInt = x_82.toInt + r_86.toInt := ?o168
              case o168 =>
                rw [ex_92]
                refine i32_add rfl rfl ?o169 ?o170
                case o169 => omega
                case o170 => omega
              refine lv_iload hx hb dX10_other_107 (lv_at hl 1 rfl) ?_
              refine lv_iconst (v := 5) hx hb dX10_other_109 ?o171 ?_
              case o171 => decide
              refine hb_icmp_ne (zx := r_24.toInt) (zy := 5) (tgt := 123) hx hb rfl ?o172 dX10_other_110 ?o173 (fun c_93 => ?_) (fun c_93 => ?_)
              case o172 => decide
              case o173 => decide
              · skip
                refine lv_iconst (v := 0) hx hb dX10_other_123 ?o174 ?_
                case o174 => decide
                refine lv_iadd hx hb dX10_other_124 ?_
                have rg_94 := i32_r x_92
                refine lv_topi (fun x_95 ex_95 => ?_)
                have zx_95 : x_95.toInt = x_92.toInt + 0 := ?o175
                case o175 =>
                  rw [ex_95]
                  refine i32_add rfl ?o176 ?o177 ?o178
                  case o176 => decide
                  case o177 => omega
                  case o178 => omega
                refine lv_iadd hx hb dX10_other_125 ?_
                have rg_96 := i32_r iv39_5
                have rg_97 := i32_r x_95
                refine lv_topi (fun x_98 ex_98 => ?_)
                have zx_98 : x_98.toInt = iv39_5.toInt + x_95.toInt := ?o179
                case o179 =>
                  rw [ex_98]
                  refine i32_add rfl rfl ?o180 ?o181
                  case o180 => omega
                  case o181 => omega
                refine lv_istore (lv' := [(5, .int x_98), (4, .int x_74), (8, .int r_24), (7, .int x_19), (6, .int iv39_6), (3, .int x_16), (0, .ref x), (1, .int i1), (2, .int i2)]) hx hb dX10_other_126 hl ?o182 rfl (fun ls hl => ?_)
                case o182 => decide
                obtain ⟨x_99, ex_99⟩ : ∃ y : Int32, y = iv39_6 + Int32.ofInt 1 := ⟨_, rfl⟩
                have rg_100 := i32_r iv39_6
                have zx_99 : x_99.toInt = iv39_6.toInt + (1) := ?o183
                case o183 =>
                  rw [ex_99]
                  refine i32_add rfl ?o184 ?o185 ?o186
                  case o184 => decide
                  case o185 => omega
                  case o186 => omega
                refine lv_iinc (v := x_99) (lv' := [(6, .int x_99), (5, .int x_98), (4, .int x_74), (8, .int r_24), (7, .int x_19), (3, .int x_16), (0, .ref x), (1, .int i1), (2, .int i2)]) hx hb dX10_other_128 hl (k := 4) rfl ex_99.symm ?o187 rfl (fun ls hl => ?_)
                case o187 => decide
                refine lv_goto (tgt := 39) hx hb dX10_other_131 ?o188 ?_
                case o188 => decide
                obtain ⟨fa_101, nfa_101⟩ : ∃ g : Nat → Int32, h_85.2.1 rst = g := ⟨_, rfl⟩
                refine ih39 x_74 x_98 x_99 fa_101 _ _ L_84 h_85 ?o189 ?o190 ?o191 ?o192 ?o193 ?o194 (by by_cases z9 : r_24.toInt = i2.toInt; exact hv_oc_y vi39_0 (by rw [← hJ_27]; exact z9) (by omega) (by omega) zx_99; exact hv_oc_n vi39_0 (by rw [← hJ_27]; exact z9) (by omega) (by omega) zx_99) (hv_os_s vi39_1 (c := x_95.toInt) (by show _ = (tf (hof _).toNatClampNeg).toInt * _ + _ + _; rw [← ct9, ← hJ_27, ← hR_81, ← hR_89]; rw [if_neg (show ¬ r_24.toInt = 5 by omega)]; omega) ?o195 zx_98 zx_99) ?o196 ?o197 ?o198 ls ?o199 hW hT hM  nfa_101 (lv_sub hl [0, 1, 2, 5, 6, 7, 8] rfl)
                case o189 => omega
                case o190 => omega
                case o191 => omega
                case o192 => omega
                case o193 => omega
                case o194 => omega
                case o195 => omega
                case o196 => omega
                case o197 => omega
                case o198 => omega
                case o199 => omega
              · skip
                refine lv_aload_n hx hb dX10_other_113 rfl (lv_at hl 6 rfl) ?_
                refine lv_iload_n hx hb dX10_other_114 rfl (lv_at hl 5 rfl) ?_
                refine lv_bipush (v := 11) hx hb dX10_other_115 ?o200 ?_
                case o200 => decide
                have zc_11 : (11 : Int32).toInt = 11 := ?o201
                case o201 => decide
                refine hx_goi (hx_runV (As := [.int x_16, .int (11 : Int32)]) (rest := [.int x_92, .int iv39_5]) ⟨hx, hb, hml, hown, hts⟩ hW (gx.S hM) tt_10 (T := TX10) (N := 98) rfl (t_X10_ruleOf_v l dC dI dA L_84 h_85 H.size x x_16 (11 : Int32) hT (gx.S hM) rrl (grrl.S hM) ((hM.o gx trivial rfl).2.trans f_x_3) rlf (hx_afS hM grrl rfl af_rrl) ⟨?o202, ?o203⟩ ?o204) (cwV 2 hts (hx_gV kw_1533 kw_1530 kw_1532 kw_66 kw_103) rfl rfl rfl (by decide +kernel) ⟨Nat.le_of_ble_eq_true rfl, Nat.le_of_ble_eq_true rfl⟩) rfl hl.1 rfl (Nat.le_of_ble_eq_true rfl) dX10_other_117 ⟨Nat.le_of_ble_eq_true rfl, Nat.le_of_ble_eq_true rfl⟩) hW (fun r_104 L_102 h_103 H locs p_105 hW => ?_)
                case o202 => omega
                case o203 => omega
                case o204 => decide
                obtain ⟨hr_106, hT, hs⟩ := p_105
                replace hT : hx_T T_tb L_102 h_103 := hT
                replace hs : hx_S T_tb [] L_84 h_85 L_102 h_103 := hs
                replace ex_19 := ex_19.trans (hs.a (grho.S hM) rfl _).1.symm
                replace ex_75 := ex_75.trans (hs.a (grtr.S hM) rfl _).1.symm
                replace hM := hM.tr (hs.mono ?o205)
                case o205 => decide
                have hR_107 : r_104.toInt = (A (i1.toInt + 1).toNat).2.1 11 := ?o206
                case o206 =>
                  rw [hr_106.1, ← hq_212]
                  show _ = (if 11 < 13 then _ else 0)
                  rw [if_pos (by decide)]
                  congr 2
                refine lv_goto (tgt := 124) hx hb dX10_other_120 ?o207 ?_
                case o207 => decide
                refine lv_iadd hx hb dX10_other_124 ?_
                have rg_108 := i32_r x_92
                have rg_109 := i32_r r_104
                refine lv_topi (fun x_110 ex_110 => ?_)
                have zx_110 : x_110.toInt = x_92.toInt + r_104.toInt := ?o208
                case o208 =>
                  rw [ex_110]
                  refine i32_add rfl rfl ?o209 ?o210
                  case o209 => omega
                  case o210 => omega
                refine lv_iadd hx hb dX10_other_125 ?_
                have rg_111 := i32_r iv39_5
                have rg_112 := i32_r x_110
                refine lv_topi (fun x_113 ex_113 => ?_)
                have zx_113 : x_113.toInt = iv39_5.toInt + x_110.toInt := ?o211
                case o211 =>
                  rw [ex_113]
                  refine i32_add rfl rfl ?o212 ?o213
                  case o212 => omega
                  case o213 => omega
                refine lv_istore (lv' := [(5, .int x_113), (4, .int x_74), (8, .int r_24), (7, .int x_19), (6, .int iv39_6), (3, .int x_16), (0, .ref x), (1, .int i1), (2, .int i2)]) hx hb dX10_other_126 hl ?o214 rfl (fun ls hl => ?_)
                case o214 => decide
                obtain ⟨x_114, ex_114⟩ : ∃ y : Int32, y = iv39_6 + Int32.ofInt 1 := ⟨_, rfl⟩
                have rg_115 := i32_r iv39_6
                have zx_114 : x_114.toInt = iv39_6.toInt + (1) := ?o215
                case o215 =>
                  rw [ex_114]
                  refine i32_add rfl ?o216 ?o217 ?o218
                  case o216 => decide
                  case o217 => omega
                  case o218 => omega
                refine lv_iinc (v := x_114) (lv' := [(6, .int x_114), (5, .int x_113), (4, .int x_74), (8, .int r_24), (7, .int x_19), (3, .int x_16), (0, .ref x), (1, .int i1), (2, .int i2)]) hx hb dX10_other_128 hl (k := 4) rfl ex_114.symm ?o219 rfl (fun ls hl => ?_)
                case o219 => decide
                refine lv_goto (tgt := 39) hx hb dX10_other_131 ?o220 ?_
                case o220 => decide
                obtain ⟨fa_116, nfa_116⟩ : ∃ g : Nat → Int32, h_103.2.1 rst = g := ⟨_, rfl⟩
                refine ih39 x_74 x_113 x_114 fa_116 _ _ L_102 h_103 ?o221 ?o222 ?o223 ?o224 ?o225 ?o226 (by by_cases z9 : r_24.toInt = i2.toInt; exact hv_oc_y vi39_0 (by rw [← hJ_27]; exact z9) (by omega) (by omega) zx_114; exact hv_oc_n vi39_0 (by rw [← hJ_27]; exact z9) (by omega) (by omega) zx_114) (hv_os_s vi39_1 (c := x_110.toInt) (by show _ = (tf (hof _).toNatClampNeg).toInt * _ + _ + _; rw [← ct9, ← hJ_27, ← hR_81, ← hR_89]; rw [if_pos (show r_24.toInt = 5 by omega), ← hR_107]; omega) ?o227 zx_113 zx_114) ?o228 ?o229 ?o230 ls ?o231 hW hT hM  nfa_116 (lv_sub hl [0, 1, 2, 5, 6, 7, 8] rfl)
                case o221 => omega
                case o222 => omega
                case o223 => omega
                case o224 => omega
                case o225 => omega
                case o226 => omega
                case o227 => omega
                case o228 => omega
                case o229 => omega
                case o230 => omega
                case o231 => omega
      have zk_0 : (0 : Int32).toInt = 0 := ?o232
      case o232 => decide
      have zk_0 : (0 : Int32).toInt = 0 := ?o233
      case o233 => decide
      have zk_0 : (0 : Int32).toInt = 0 := ?o234
      case o234 => decide
      refine loop39 101 (0 : Int32) (0 : Int32) (0 : Int32) skf _ _ L_9 h_10 ?o235 ?o236 ?o237 ?o238 ?o239 ?o240 (by rw [zk_0]; rfl) (by rw [zk_0]; rfl) ?o241 ?o242 ?o243 ls ?o244 hW hT hM  af_rst hl
      case o235 => decide
      case o236 => decide
      case o237 => decide
      case o238 => decide
      case o239 => decide
      case o240 => decide
      case o241 => omega
      case o242 => omega
      case o243 => omega
      case o244 => omega
    · skip
      replace hr_13 := hr_13.resolve_right (fun z9 => absurd (c_14.symm.trans z9.1) ?o245)
      case o245 => decide
      replace hr_13 := hr_13.2
      refine lv_iconst (v := -1) hx hb dX10_other_24 ?o246 ?_
      case o246 => decide
      refine hx_reti hx hb hr hlk hW ⟨(Or.inl ⟨?o247, ?o248⟩), hT, hM⟩ dX10_other_25
      case o247 => omega
      case o248 => decide
end
section
/-! LOOKS: what a CLAIM shows on a day as known on one (whole numbers alone) -/
def hz_pdy (od sz gd d ps : Int) : Int := if od ≠ -1 ∧ od ≤ d then ps + (if sz ≠ -1 ∧ sz ≤ d then gd else 0) else 0
def hz_al (ow sz rc d : Int) : Int := ow + (if sz ≠ -1 ∧ sz ≤ d then rc else 0)
def hz_bl (od sz gd ow rc d ps : Int) : Int := if od ≠ -1 ∧ od ≤ d then hz_al ow sz rc d - hz_pdy od sz gd d ps else 0
def hz_rs (sv bl d : Int) : Int := if sv ≠ -1 ∧ sv ≤ d then 0 else if 0 < bl then bl else 0
def hz_ov (sv bl d : Int) : Int := if sv ≠ -1 ∧ sv ≤ d then 0 else if bl < 0 then -bl else 0
def hz_ru (s b : Int) : Int := if s ≤ 0 ∨ b < 1 then 0 else (s - 1) / b + 1
def hz_mi (a b : Int) : Int := if a ≤ b then a else b
def hz_ms (od sv wk al pd d : Int) : Int := if (od = -1 ∨ d < od) ∨ (sv ≠ -1 ∧ sv ≤ d) then 0 else hz_ru (hz_mi al (wk * ((d - od) / 7)) - pd) wk
def hz_sa (fo he ju d : Int) : Int := if he ≠ -1 ∧ he ≤ d then (if ju = 5 then 3 else 2) else if fo ≠ -1 ∧ fo ≤ d then 1 else 0
def hz_st (fo he ju od sv rs ms la ga d : Int) : Int := if od = -1 ∨ d < od then hz_sa fo he ju d else if sv ≠ -1 ∧ sv ≤ d then 8 else if rs = 0 then 7 else if ms < la then 4 else if ms < la + ga then 5 else 6
theorem hz_mi_e {x a b : Int32} (e : x = if b < a then b else a) : x.toInt = hz_mi a.toInt b.toInt := by
  unfold hz_mi
  by_cases h : b < a
  · rw [if_pos h] at e; have := Int32.lt_iff_toInt_lt.mp h; rw [e, if_neg (by omega)]
  · rw [if_neg h] at e
    have h9 : ¬ b.toInt < a.toInt := fun z => h (Int32.lt_iff_toInt_lt.mpr z)
    rw [e, if_pos (by omega)]
theorem hz_mx_e {x a b : Int32} (e : x = if a < b then b else a) : (a.toInt < b.toInt ∧ x.toInt = b.toInt) ∨ (b.toInt ≤ a.toInt ∧ x.toInt = a.toInt) := by
  by_cases h : a < b
  · rw [if_pos h] at e; have := Int32.lt_iff_toInt_lt.mp h; exact Or.inl ⟨this, by rw [e]⟩
  · rw [if_neg h] at e
    have h9 : ¬ a.toInt < b.toInt := fun z => h (Int32.lt_iff_toInt_lt.mpr z)
    exact Or.inr ⟨by omega, by rw [e]⟩
/-- both ways of rounding up -/
theorem hz_ru_m {s b : Int} (h1 : 0 < s) (h2 : 1 ≤ b) : (s + b - 1) / b = hz_ru s b := by
  unfold hz_ru
  rw [if_neg (by omega), show s + b - 1 = (s - 1) + 1 * b by omega, Int.add_mul_ediv_right _ _ (by omega)]
theorem hz_ru_b {s b : Int} : 0 ≤ hz_ru s b ∧ (hz_ru s b ≤ s ∨ hz_ru s b = 0) := by
  unfold hz_ru
  split
  · exact ⟨Int.le_refl _, Or.inr rfl⟩
  · have h0 : 0 ≤ (s - 1) / b := Int.ediv_nonneg (by omega) (by omega)
    have h1 : (s - 1) / b ≤ s - 1 := Int.ediv_le_self _ (by omega)
    exact ⟨by omega, Or.inl (by omega)⟩
/-- the sum of payments has its bounds -/
theorem hz_ps_b {pof pdf psm pkf pst : Nat → Int32} {d k c : Int} {N : Nat} (hb : ∀ j, j < N → 0 ≤ (psm j).toInt ∧ (psm j).toInt ≤ 610000) : ∀ n : Nat, n ≤ N → 0 ≤ hx_ps pof pdf psm pkf pst d k c n ∧ hx_ps pof pdf psm pkf pst d k c n ≤ 610000 * (n : Int) := by
  intro n
  induction n with
  | zero => intro _; exact ⟨Int.le_refl _, by simp [hx_ps]⟩
  | succ n ih =>
    intro hn
    have h := ih (by omega)
    have g := hb n (by omega)
    simp only [hx_ps]
    split <;> omega
theorem hz_mul {a b x : Int32} (ha : 0 ≤ a.toInt ∧ a.toInt ≤ 9999) (hb : 0 ≤ b.toInt ∧ b.toInt ≤ 1142) (e : x = a * b) : x.toInt = a.toInt * b.toInt ∧ 0 ≤ x.toInt ∧ x.toInt ≤ 11418858 := by
  have h1 : 0 ≤ a.toInt * b.toInt := Int.mul_nonneg ha.1 hb.1
  have h2 : a.toInt * b.toInt ≤ 9999 * 1142 := Int.mul_le_mul ha.2 hb.2 hb.1 (by decide)
  have h3 : x.toInt = a.toInt * b.toInt := by rw [e]; exact i32_mul rfl rfl rfl (by omega) (by omega)
  exact ⟨h3, by omega, by omega⟩
theorem hz_neg {b x : Int32} (e : x = -b) (h : -2147483648 < b.toInt) : x.toInt = -b.toInt := by
  have h2 := Int32.toInt_lt b
  rw [e, Int32.toInt_neg, Int.bmod_def]
  split <;> omega
end
section
set_option maxHeartbeats 4000000 in
set_option maxRecDepth 100000 in
theorem t_X2_isDone_v (l : Launch) (dC : Nat → ClassId) (dI : Nat → Nat → Nat) (dA : Nat → ClassId) (L : List Nat) (h : hx_h) (sz : Nat) (i1 : Int32) (i2 : Int32) (hT : hx_T T_tb L h)   : Met l yX2_isDone (Cond.code yX2_isDone cX2_isDone 2 (some .boolean) :: hx_all) ({ frames := 0, cells := 0, slots := 0, locals := 0 }) (va_Pc [.int i1, .int i2] (hx_B T_tb (P_ty dA) (dC, dI) vwCl L h sz)) (va_Qi (fun (r : Int32) (u : List Nat × hx_h) => ((r.toInt = 1 ∧ i1.toInt ≠ -1 ∧ i1.toInt ≤ i2.toInt) ∨ (r.toInt = 0 ∧ (i1.toInt = -1 ∨ i2.toInt < i1.toInt))) ∧ hx_T T_tb u.1 u.2 ∧ hx_S T_tb [] L h u.1 u.2) (hx_E T_tb (P_ty dA) (dC, dI) vwCl (hx_A L sz)) (hx_A L sz)) 0 0 (hx_A L sz) := by
  refine hx_met (lv := [(0, .int i1), (1, .int i2)]) (by decide +kernel) rfl (Nat.le_of_ble_eq_true rfl) rfl ?_
  intro p e s m below meth c hx hb hml hr hlk hts0 hown hin hsz hW ls hl
  have hts : ∀ w ∈ hx_all, w.before _ s = true := fun w hw => hts0 w (List.mem_cons_of_mem _ hw)
  have hown : s.vm.findClass "SmallCourt$Claim" = some m.cls := hown
  have hM : hx_S T_tb [] L h L h := hx_S.rf
  refine lv_iload_n hx hb dX2_isDone_0 rfl (lv_at hl 0 rfl) ?_
  refine lv_iconst (v := -1) hx hb dX2_isDone_1 ?o0 ?_
  case o0 => decide
  refine hb_icmp_eq (zx := i1.toInt) (zy := (-1)) (tgt := 14) hx hb rfl ?o1 dX2_isDone_2 ?o2 (fun c_1 => ?_) (fun c_1 => ?_)
  case o1 => decide
  case o2 => decide
  · skip
    refine lv_iconst (v := 0) hx hb dX2_isDone_14 ?o3 ?_
    case o3 => decide
    exact hx_retz hx hb hr rfl hlk hW ⟨(by have zr : (0 : Int32).toInt = 0 := (by decide); (first | omega | (refine ⟨?_, ?_⟩ <;> omega))), hT, hM⟩ dX2_isDone_15
  · skip
    refine lv_iload_n hx hb dX2_isDone_5 rfl (lv_at hl 0 rfl) ?_
    refine lv_iload_n hx hb dX2_isDone_6 rfl (lv_at hl 1 rfl) ?_
    refine hb_icmp_gt (zx := i1.toInt) (zy := i2.toInt) (tgt := 14) hx hb rfl rfl dX2_isDone_7 ?o4 (fun c_2 => ?_) (fun c_2 => ?_)
    case o4 => decide
    · skip
      refine lv_iconst (v := 0) hx hb dX2_isDone_14 ?o5 ?_
      case o5 => decide
      exact hx_retz hx hb hr rfl hlk hW ⟨(by have zr : (0 : Int32).toInt = 0 := (by decide); (first | omega | (refine ⟨?_, ?_⟩ <;> omega))), hT, hM⟩ dX2_isDone_15
    · skip
      refine lv_iconst (v := 1) hx hb dX2_isDone_10 ?o6 ?_
      case o6 => decide
      refine lv_goto (tgt := 15) hx hb dX2_isDone_11 ?o7 ?_
      case o7 => decide
      exact hx_retz hx hb hr rfl hlk hW ⟨(by have zr : (1 : Int32).toInt = 1 := (by decide); (first | omega | (refine ⟨?_, ?_⟩ <;> omega))), hT, hM⟩ dX2_isDone_15


set_option maxHeartbeats 4000000 in
set_option maxRecDepth 100000 in
theorem t_X9_roundUp_v (l : Launch) (dC : Nat → ClassId) (dI : Nat → Nat → Nat) (dA : Nat → ClassId) (L : List Nat) (h : hx_h) (sz : Nat) (i1 : Int32) (i2 : Int32) (hT : hx_T T_tb L h)   : Met l yX9_roundUp (Cond.code yX9_roundUp cX9_roundUp 2 (some .int) :: hx_all) ({ frames := 0, cells := 0, slots := 0, locals := 0 }) (va_Pc [.int i1, .int i2] (hx_B T_tb (P_ty dA) (dC, dI) vwCl L h sz)) (va_Qi (fun (r : Int32) (u : List Nat × hx_h) => (r.toInt = hz_ru i1.toInt i2.toInt) ∧ hx_T T_tb u.1 u.2 ∧ hx_S T_tb [] L h u.1 u.2) (hx_E T_tb (P_ty dA) (dC, dI) vwCl (hx_A L sz)) (hx_A L sz)) 0 0 (hx_A L sz) := by
  refine hx_met (lv := [(0, .int i1), (1, .int i2)]) (by decide +kernel) rfl (Nat.le_of_ble_eq_true rfl) rfl ?_
  intro p e s m below meth c hx hb hml hr hlk hts0 hown hin hsz hW ls hl
  have hts : ∀ w ∈ hx_all, w.before _ s = true := fun w hw => hts0 w (List.mem_cons_of_mem _ hw)
  have hown : s.vm.findClass "SmallCourt" = some m.cls := hown
  have hM : hx_S T_tb [] L h L h := hx_S.rf
  refine lv_iload_n hx hb dX9_roundUp_0 rfl (lv_at hl 0 rfl) ?_
  refine hb_if_le (zx := i1.toInt) (tgt := 9) hx hb rfl dX9_roundUp_1 ?o0 (fun c_1 => ?_) (fun c_1 => ?_)
  case o0 => decide
  · skip
    refine lv_iconst (v := 0) hx hb dX9_roundUp_9 ?o1 ?_
    case o1 => decide
    refine lv_goto (tgt := 20) hx hb dX9_roundUp_10 ?o2 ?_
    case o2 => decide
    exact hx_reti hx hb hr hlk hW ⟨(by have zr : (0 : Int32).toInt = 0 := (by decide); unfold hz_ru; rw [if_pos (by omega)]; omega), hT, hM⟩ dX9_roundUp_20
  · skip
    refine lv_iload_n hx hb dX9_roundUp_4 rfl (lv_at hl 1 rfl) ?_
    refine lv_iconst (v := 1) hx hb dX9_roundUp_5 ?o3 ?_
    case o3 => decide
    refine hb_icmp_ge (zx := i2.toInt) (zy := 1) (tgt := 13) hx hb rfl ?o4 dX9_roundUp_6 ?o5 (fun c_2 => ?_) (fun c_2 => ?_)
    case o4 => decide
    case o5 => decide
    · skip
      refine lv_iload_n hx hb dX9_roundUp_13 rfl (lv_at hl 0 rfl) ?_
      refine lv_iconst (v := 1) hx hb dX9_roundUp_14 ?o6 ?_
      case o6 => decide
      refine lv_isub hx hb dX9_roundUp_15 ?_
      have rg_3 := i32_r i1
      refine lv_topi (fun x_4 ex_4 => ?_)
      have zx_4 : x_4.toInt = i1.toInt - 1 := ?o7
      case o7 =>
        rw [ex_4]
        refine i32_sub rfl ?o8 ?o9 ?o10
        case o8 => decide
        case o9 => omega
        case o10 => omega
      refine lv_iload_n hx hb dX9_roundUp_16 rfl (lv_at hl 1 rfl) ?_
      refine lv_idiv hx hb dX9_roundUp_17 (hx_ne0 ?o11) ?_
      case o11 => omega
      refine lv_topi (fun x_5 ex_5 => ?_)
      have zq9 : x_5.toInt = x_4.toInt / i2.toInt := ?o12
      case o12 =>
        rw [ex_5]
        refine hx_dv ?o13 ?o14
        case o13 => omega
        case o14 => omega
      have zl9 : 0 ≤ x_5.toInt ∧ x_5.toInt ≤ x_4.toInt := ?o15
      case o15 =>
        rw [zq9]
        refine ⟨Int.ediv_nonneg ?o16 ?o17, Int.ediv_le_self _ ?o18⟩
        case o16 => omega
        case o17 => omega
        case o18 => omega
      refine lv_iconst (v := 1) hx hb dX9_roundUp_18 ?o19 ?_
      case o19 => decide
      refine lv_iadd hx hb dX9_roundUp_19 ?_
      have rg_6 := i32_r x_5
      refine lv_topi (fun x_7 ex_7 => ?_)
      have zx_7 : x_7.toInt = x_5.toInt + 1 := ?o20
      case o20 =>
        rw [ex_7]
        refine i32_add rfl ?o21 ?o22 ?o23
        case o21 => decide
        case o22 => omega
        case o23 => omega
      exact hx_reti hx hb hr hlk hW ⟨(by unfold hz_ru; rw [if_neg (by omega), zx_7, zq9, zx_4]), hT, hM⟩ dX9_roundUp_20
    · skip
      refine lv_iconst (v := 0) hx hb dX9_roundUp_9 ?o24 ?_
      case o24 => decide
      refine lv_goto (tgt := 20) hx hb dX9_roundUp_10 ?o25 ?_
      case o25 => decide
      exact hx_reti hx hb hr hlk hW ⟨(by have zr : (0 : Int32).toInt = 0 := (by decide); unfold hz_ru; rw [if_pos (by omega)]; omega), hT, hM⟩ dX9_roundUp_20


set_option maxHeartbeats 4000000 in
set_option maxRecDepth 100000 in
theorem t_X3_sumFor_v (l : Launch) (dC : Nat → ClassId) (dI : Nat → Nat → Nat) (dA : Nat → ClassId) (L : List Nat) (h : hx_h) (sz : Nat) (x : Nat) (i1 : Int32) (i2 : Int32) (i3 : Int32) (hT : hx_T T_tb L h) (gx : hx_g L h x 3) (pqo : Nat) (gpqo : hx_g L h pqo 23) (f_x_2 : h.2.2 x 2 = some pqo) (pqd : Nat) (gpqd : hx_g L h pqd 24) (f_x_3 : h.2.2 x 3 = some pqd) (pqs : Nat) (gpqs : hx_g L h pqs 26) (f_x_5 : h.2.2 x 5 = some pqs) (pqk : Nat) (gpqk : hx_g L h pqk 25) (f_x_4 : h.2.2 x 4 = some pqk) (pqt : Nat) (gpqt : hx_g L h pqt 22) (f_x_1 : h.2.2 x 1 = some pqt) (pof : Nat → Int32) (af_pqo : h.2.1 pqo = pof) (pdf : Nat → Int32) (af_pqd : h.2.1 pqd = pdf) (psm : Nat → Int32) (af_pqs : h.2.1 pqs = psm) (pkf : Nat → Int32) (af_pqk : h.2.1 pqk = pkf) (pst : Nat → Int32) (af_pqt : h.2.1 pqt = pst) (n0 : Int32) (f_x_0 : h.2.1 x 0 = n0) (hps : ∀ j, j < 600 → 0 ≤ (psm j).toInt ∧ (psm j).toInt ≤ 610000) : Met l yX3_sumFor (Cond.code yX3_sumFor cX3_sumFor 7 (some .int) :: hx_all) ({ frames := 0, cells := 0, slots := 0, locals := 0 }) (va_Pc [.ref x, .int i1, .int i2, .int i3] (hx_B T_tb (P_ty dA) (dC, dI) vwCl L h sz)) (va_Qi (fun (r : Int32) (u : List Nat × hx_h) => (r.toInt = hx_ps pof pdf psm pkf pst i2.toInt i3.toInt i1.toInt n0.toInt.toNat ∧ (0 ≤ r.toInt ∧ r.toInt ≤ 366000000)) ∧ hx_T T_tb u.1 u.2 ∧ hx_S T_tb [] L h u.1 u.2) (hx_E T_tb (P_ty dA) (dC, dI) vwCl (hx_A L sz)) (hx_A L sz)) 0 0 (hx_A L sz) := by
  refine hx_met (lv := [(0, .ref x), (1, .int i1), (2, .int i2), (3, .int i3)]) (by decide +kernel) rfl (Nat.le_of_ble_eq_true rfl) rfl ?_
  intro p e s m below meth c hx hb hml hr hlk hts0 hown hin hsz hW ls hl
  have hts : ∀ w ∈ hx_all, w.before _ s = true := fun w hw => hts0 w (List.mem_cons_of_mem _ hw)
  have hown : s.vm.findClass "SmallCourt$Payments" = some m.cls := hown
  have hM : hx_S T_tb [] L h L h := hx_S.rf
  have b_n0 := hT.gi gx tt_3 (k := 0) rfl
  rw [f_x_0] at b_n0
  have b_n0 : 0 ≤ n0.toInt ∧ n0.toInt ≤ 600 := b_n0
  refine lv_iconst (v := 0) hx hb dX3_sumFor_0 ?o0 ?_
  case o0 => decide
  refine lv_istore (lv' := [(4, .int (0 : Int32)), (0, .ref x), (1, .int i1), (2, .int i2), (3, .int i3)]) hx hb dX3_sumFor_1 hl ?o1 rfl (fun ls hl => ?_)
  case o1 => decide
  refine lv_iconst (v := 0) hx hb dX3_sumFor_3 ?o2 ?_
  case o2 => decide
  refine lv_istore (lv' := [(5, .int (0 : Int32)), (4, .int (0 : Int32)), (0, .ref x), (1, .int i1), (2, .int i2), (3, .int i3)]) hx hb dX3_sumFor_4 hl ?o3 rfl (fun ls hl => ?_)
  case o3 => decide
  have loop6 : ∀ (n6 : Nat) (iv6_4 iv6_5 : Int32) (H : Heap) (locs : List Loc) (hL1 : List Nat) (hl1 : hx_h), 0 ≤ iv6_4.toInt → iv6_4.toInt ≤ 366000000 → 0 ≤ iv6_5.toInt → iv6_5.toInt ≤ 600 → (iv6_4.toInt = hx_ps pof pdf psm pkf pst i2.toInt i3.toInt i1.toInt (iv6_5.toInt).toNat) → (iv6_4.toInt ≤ 610000 * iv6_5.toInt) → (iv6_5.toInt ≤ n0.toInt) → ∀ (ls : Array Slot), 600 - iv6_5.toInt < (n6 : Int) → hx_W T_tb (P_ty dA) (dC, dI) vwCl (hx_A L sz) s.heap hL1 hl1 s H locs → hx_T T_tb hL1 hl1 → hx_S T_tb [] L h hL1 hl1 → lv_has ls 7 [(5, .int iv6_5), (4, .int iv6_4), (0, .ref x), (1, .int i1), (2, .int i2), (3, .int i3)] → W p l e ({ frames := 0, cells := 0, slots := 0, locals := 0 }) s m ([.ref x, .int i1, .int i2, .int i3] : List Value).toArray below meth c H locs 0 0 (MQ below (va_Qi (fun (r : Int32) (u : List Nat × hx_h) => (r.toInt = hx_ps pof pdf psm pkf pst i2.toInt i3.toInt i1.toInt n0.toInt.toNat ∧ (0 ≤ r.toInt ∧ r.toInt ≤ 366000000)) ∧ hx_T T_tb u.1 u.2 ∧ hx_S T_tb [] L h u.1 u.2) (hx_E T_tb (P_ty dA) (dC, dI) vwCl (hx_A L sz)) (hx_A L sz)) ([.ref x, .int i1, .int i2, .int i3] : List Value).toArray s 0 0 (hx_A L sz)) (F0 m 6 ls []) := by
    intro n6
    induction n6 with
    | zero => intro iv6_4 iv6_5 H locs hL1 hl1 bliv6_4 buiv6_4 bliv6_5 buiv6_5 vi6_0 vi6_1 vi6_2 ls hn6; exfalso; omega
    | succ n6 ih6 =>
      intro iv6_4 iv6_5 H locs hL1 hl1 bliv6_4 buiv6_4 bliv6_5 buiv6_5 vi6_0 vi6_1 vi6_2 ls hn6 hW hT hM   hl
      refine lv_iload hx hb dX3_sumFor_6 (lv_at hl 0 rfl) ?_
      refine lv_aload_n hx hb dX3_sumFor_8 rfl (lv_at hl 2 rfl) ?_
      refine hk_geti hx hb hts hC_3 hown hW (gx.S hM) tt_3 0 ?o4 rfl kw_231 ⟨rfl, rfl, rfl⟩ ((hM.o gx trivial rfl).1.trans f_x_0) dX3_sumFor_9 ?_
      case o4 => decide
      refine hb_icmp_ge (zx := iv6_5.toInt) (zy := n0.toInt) (tgt := 100) hx hb rfl rfl dX3_sumFor_12 ?o5 (fun c_1 => ?_) (fun c_1 => ?_)
      case o5 => decide
      · skip
        refine lv_iload hx hb dX3_sumFor_100 (lv_at hl 1 rfl) ?_
        refine hx_reti hx hb hr hlk hW ⟨⟨(by have e9 : iv6_5.toInt = n0.toInt := (by omega); have h9 := vi6_0; rw [e9] at h9; exact h9), ?o6, ?o7⟩, hT, hM⟩ dX3_sumFor_102
        case o6 => omega
        case o7 => omega
      · skip
        refine lv_aload_n hx hb dX3_sumFor_15 rfl (lv_at hl 2 rfl) ?_
        refine hk_getr hx hb hts hC_3 hown hW (gx.S hM) tt_3 1 ?o8 rfl kw_233 ⟨rfl, rfl, rfl⟩ ((hM.o gx trivial rfl).2.trans f_x_1) dX3_sumFor_16 ?_
        case o8 => decide
        refine lv_iload hx hb dX3_sumFor_19 (lv_at hl 0 rfl) ?_
        refine hx_iald hx hb hW hT (gpqt.S hM) tt_22 rfl ⟨?o9, ?o10⟩ dX3_sumFor_21 (fun x_2 ex_2 lx_2 ux_2 => ?_)
        case o9 => omega
        case o10 => omega
        have ax_2 : x_2 = pst iv6_5.toNatClampNeg := ex_2.trans (congrFun (hx_afS hM gpqt rfl af_pqt) _)
        refine lv_iconst (v := -1) hx hb dX3_sumFor_22 ?o11 ?_
        case o11 => decide
        refine hb_icmp_eq (zx := x_2.toInt) (zy := (-1)) (tgt := 41) hx hb rfl ?o12 dX3_sumFor_23 ?o13 (fun c_3 => ?_) (fun c_3 => ?_)
        case o12 => decide
        case o13 => decide
        · skip
          refine lv_iconst (v := 0) hx hb dX3_sumFor_41 ?o14 ?_
          case o14 => decide
          refine lv_istore (lv' := [(6, .int (0 : Int32)), (5, .int iv6_5), (4, .int iv6_4), (0, .ref x), (1, .int i1), (2, .int i2), (3, .int i3)]) hx hb dX3_sumFor_42 hl ?o15 rfl (fun ls hl => ?_)
          case o15 => decide
          refine lv_aload_n hx hb dX3_sumFor_44 rfl (lv_at hl 3 rfl) ?_
          refine hk_getr hx hb hts hC_3 hown hW (gx.S hM) tt_3 2 ?o16 rfl kw_235 ⟨rfl, rfl, rfl⟩ ((hM.o gx trivial rfl).2.trans f_x_2) dX3_sumFor_45 ?_
          case o16 => decide
          refine lv_iload hx hb dX3_sumFor_48 (lv_at hl 1 rfl) ?_
          refine hx_iald hx hb hW hT (gpqo.S hM) tt_23 rfl ⟨?o17, ?o18⟩ dX3_sumFor_50 (fun x_4 ex_4 lx_4 ux_4 => ?_)
          case o17 => omega
          case o18 => omega
          have ax_4 : x_4 = pof iv6_5.toNatClampNeg := ex_4.trans (congrFun (hx_afS hM gpqo rfl af_pqo) _)
          refine lv_iload_n hx hb dX3_sumFor_51 rfl (lv_at hl 4 rfl) ?_
          refine hb_icmp_ne (zx := x_4.toInt) (zy := i1.toInt) (tgt := 94) hx hb rfl rfl dX3_sumFor_52 ?o19 (fun c_5 => ?_) (fun c_5 => ?_)
          case o19 => decide
          · skip
            obtain ⟨x_6, ex_6⟩ : ∃ y : Int32, y = iv6_5 + Int32.ofInt 1 := ⟨_, rfl⟩
            have rg_7 := i32_r iv6_5
            have zx_6 : x_6.toInt = iv6_5.toInt + (1) := ?o20
            case o20 =>
              rw [ex_6]
              refine i32_add rfl ?o21 ?o22 ?o23
              case o21 => decide
              case o22 => omega
              case o23 => omega
            refine lv_iinc (v := x_6) (lv' := [(5, .int x_6), (6, .int (0 : Int32)), (4, .int iv6_4), (0, .ref x), (1, .int i1), (2, .int i2), (3, .int i3)]) hx hb dX3_sumFor_94 hl (k := 1) rfl ex_6.symm ?o24 rfl (fun ls hl => ?_)
            case o24 => decide
            refine lv_goto (tgt := 6) hx hb dX3_sumFor_97 ?o25 ?_
            case o25 => decide
            refine ih6 iv6_4 x_6 _ _ hL1 hl1 ?o26 ?o27 ?o28 ?o29 (hx_ps_no1 vi6_0 ?o30 zx_6 ax_4 rfl ?o31) ?o32 ?o33 ls ?o34 hW hT hM   (lv_sub hl [0, 2, 3, 4, 5, 6] rfl)
            case o26 => omega
            case o27 => omega
            case o28 => omega
            case o29 => omega
            case o30 => omega
            case o31 => omega
            case o32 => omega
            case o33 => omega
            case o34 => omega
          · skip
            refine lv_aload_n hx hb dX3_sumFor_55 rfl (lv_at hl 3 rfl) ?_
            refine hk_getr hx hb hts hC_3 hown hW (gx.S hM) tt_3 3 ?o35 rfl kw_236 ⟨rfl, rfl, rfl⟩ ((hM.o gx trivial rfl).2.trans f_x_3) dX3_sumFor_56 ?_
            case o35 => decide
            refine lv_iload hx hb dX3_sumFor_59 (lv_at hl 1 rfl) ?_
            refine hx_iald hx hb hW hT (gpqd.S hM) tt_24 rfl ⟨?o36, ?o37⟩ dX3_sumFor_61 (fun x_8 ex_8 lx_8 ux_8 => ?_)
            case o36 => omega
            case o37 => omega
            have ax_8 : x_8 = pdf iv6_5.toNatClampNeg := ex_8.trans (congrFun (hx_afS hM gpqd rfl af_pqd) _)
            refine lv_iload_n hx hb dX3_sumFor_62 rfl (lv_at hl 5 rfl) ?_
            refine hb_icmp_gt (zx := x_8.toInt) (zy := i2.toInt) (tgt := 94) hx hb rfl rfl dX3_sumFor_63 ?o38 (fun c_9 => ?_) (fun c_9 => ?_)
            case o38 => decide
            · skip
              obtain ⟨x_10, ex_10⟩ : ∃ y : Int32, y = iv6_5 + Int32.ofInt 1 := ⟨_, rfl⟩
              have rg_11 := i32_r iv6_5
              have zx_10 : x_10.toInt = iv6_5.toInt + (1) := ?o39
              case o39 =>
                rw [ex_10]
                refine i32_add rfl ?o40 ?o41 ?o42
                case o40 => decide
                case o41 => omega
                case o42 => omega
              refine lv_iinc (v := x_10) (lv' := [(5, .int x_10), (6, .int (0 : Int32)), (4, .int iv6_4), (0, .ref x), (1, .int i1), (2, .int i2), (3, .int i3)]) hx hb dX3_sumFor_94 hl (k := 1) rfl ex_10.symm ?o43 rfl (fun ls hl => ?_)
              case o43 => decide
              refine lv_goto (tgt := 6) hx hb dX3_sumFor_97 ?o44 ?_
              case o44 => decide
              refine ih6 iv6_4 x_10 _ _ hL1 hl1 ?o45 ?o46 ?o47 ?o48 (hx_ps_no2 vi6_0 ?o49 zx_10 ax_8 rfl ?o50) ?o51 ?o52 ls ?o53 hW hT hM   (lv_sub hl [0, 2, 3, 4, 5, 6] rfl)
              case o45 => omega
              case o46 => omega
              case o47 => omega
              case o48 => omega
              case o49 => omega
              case o50 => omega
              case o51 => omega
              case o52 => omega
              case o53 => omega
            · skip
              refine lv_aload_n hx hb dX3_sumFor_66 rfl (lv_at hl 3 rfl) ?_
              refine hk_getr hx hb hts hC_3 hown hW (gx.S hM) tt_3 4 ?o54 rfl kw_237 ⟨rfl, rfl, rfl⟩ ((hM.o gx trivial rfl).2.trans f_x_4) dX3_sumFor_67 ?_
              case o54 => decide
              refine lv_iload hx hb dX3_sumFor_70 (lv_at hl 1 rfl) ?_
              refine hx_iald hx hb hW hT (gpqk.S hM) tt_25 rfl ⟨?o55, ?o56⟩ dX3_sumFor_72 (fun x_12 ex_12 lx_12 ux_12 => ?_)
              case o55 => omega
              case o56 => omega
              have ax_12 : x_12 = pkf iv6_5.toNatClampNeg := ex_12.trans (congrFun (hx_afS hM gpqk rfl af_pqk) _)
              refine lv_iload_n hx hb dX3_sumFor_73 rfl (lv_at hl 6 rfl) ?_
              refine hb_icmp_gt (zx := x_12.toInt) (zy := i3.toInt) (tgt := 94) hx hb rfl rfl dX3_sumFor_74 ?o57 (fun c_13 => ?_) (fun c_13 => ?_)
              case o57 => decide
              · skip
                obtain ⟨x_14, ex_14⟩ : ∃ y : Int32, y = iv6_5 + Int32.ofInt 1 := ⟨_, rfl⟩
                have rg_15 := i32_r iv6_5
                have zx_14 : x_14.toInt = iv6_5.toInt + (1) := ?o58
                case o58 =>
                  rw [ex_14]
                  refine i32_add rfl ?o59 ?o60 ?o61
                  case o59 => decide
                  case o60 => omega
                  case o61 => omega
                refine lv_iinc (v := x_14) (lv' := [(5, .int x_14), (6, .int (0 : Int32)), (4, .int iv6_4), (0, .ref x), (1, .int i1), (2, .int i2), (3, .int i3)]) hx hb dX3_sumFor_94 hl (k := 1) rfl ex_14.symm ?o62 rfl (fun ls hl => ?_)
                case o62 => decide
                refine lv_goto (tgt := 6) hx hb dX3_sumFor_97 ?o63 ?_
                case o63 => decide
                exact ih6 iv6_4 x_14 _ _ hL1 hl1 (by omega) (by omega) (by omega) (by omega) (by first | exact hx_ps_no4 vi6_0 (by omega) zx_14 ax_2 rfl (by omega) (by omega) | exact hx_ps_no3 vi6_0 (by omega) zx_14 ax_12 rfl (by omega)) (by omega) (by omega) ls (by omega) hW hT hM   (lv_sub hl [0, 2, 3, 4, 5, 6] rfl)
              · skip
                refine lv_iload hx hb dX3_sumFor_77 (lv_at hl 0 rfl) ?_
                refine hb_if_ne (zx := 0) (tgt := 94) hx hb ?o64 dX3_sumFor_79 ?o65 (fun c_16 => absurd c_16 ?o66) (fun c_16 => ?_)
                case o64 => decide
                case o65 => decide
                case o66 => decide
                refine lv_iload hx hb dX3_sumFor_82 (lv_at hl 2 rfl) ?_
                refine lv_aload_n hx hb dX3_sumFor_84 rfl (lv_at hl 3 rfl) ?_
                refine hk_getr hx hb hts hC_3 hown hW (gx.S hM) tt_3 5 ?o67 rfl kw_238 ⟨rfl, rfl, rfl⟩ ((hM.o gx trivial rfl).2.trans f_x_5) dX3_sumFor_85 ?_
                case o67 => decide
                refine lv_iload hx hb dX3_sumFor_88 (lv_at hl 1 rfl) ?_
                refine hx_iald hx hb hW hT (gpqs.S hM) tt_26 rfl ⟨?o68, ?o69⟩ dX3_sumFor_90 (fun x_17 ex_17 lx_17 ux_17 => ?_)
                case o68 => omega
                case o69 => omega
                have ax_17 : x_17 = psm iv6_5.toNatClampNeg := ex_17.trans (congrFun (hx_afS hM gpqs rfl af_pqs) _)
                have hb9 := hps iv6_5.toNatClampNeg (by unfold Int32.toNatClampNeg; omega); rw [← ax_17] at hb9
                refine lv_iadd hx hb dX3_sumFor_91 ?_
                have rg_18 := i32_r iv6_4
                have rg_19 := i32_r x_17
                refine lv_topi (fun x_20 ex_20 => ?_)
                have zx_20 : x_20.toInt = iv6_4.toInt + x_17.toInt := ?o70
                case o70 =>
                  rw [ex_20]
                  refine i32_add rfl rfl ?o71 ?o72
                  case o71 => omega
                  case o72 => omega
                refine lv_istore (lv' := [(4, .int x_20), (6, .int (0 : Int32)), (5, .int iv6_5), (0, .ref x), (1, .int i1), (2, .int i2), (3, .int i3)]) hx hb dX3_sumFor_92 hl ?o73 rfl (fun ls hl => ?_)
                case o73 => decide
                obtain ⟨x_21, ex_21⟩ : ∃ y : Int32, y = iv6_5 + Int32.ofInt 1 := ⟨_, rfl⟩
                have rg_22 := i32_r iv6_5
                have zx_21 : x_21.toInt = iv6_5.toInt + (1) := ?o74
                case o74 =>
                  rw [ex_21]
                  refine i32_add rfl ?o75 ?o76 ?o77
                  case o75 => decide
                  case o76 => omega
                  case o77 => omega
                refine lv_iinc (v := x_21) (lv' := [(5, .int x_21), (4, .int x_20), (6, .int (0 : Int32)), (0, .ref x), (1, .int i1), (2, .int i2), (3, .int i3)]) hx hb dX3_sumFor_94 hl (k := 2) rfl ex_21.symm ?o78 rfl (fun ls hl => ?_)
                case o78 => decide
                refine lv_goto (tgt := 6) hx hb dX3_sumFor_97 ?o79 ?_
                case o79 => decide
                refine ih6 x_20 x_21 _ _ hL1 hl1 ?o80 ?o81 ?o82 ?o83 (hx_ps_yes vi6_0 ?o84 zx_21 rfl ax_4 ax_8 ax_12 ax_2 ax_17 ?o85 ?o86 ?o87 ?o88 ?o89) ?o90 ?o91 ls ?o92 hW hT hM   (lv_sub hl [0, 1, 3, 4, 5, 6] rfl)
                case o80 => omega
                case o81 => omega
                case o82 => omega
                case o83 => omega
                case o84 => omega
                case o85 => omega
                case o86 => omega
                case o87 => omega
                case o88 => omega
                case o89 => omega
                case o90 => omega
                case o91 => omega
                case o92 => omega
        · skip
          refine lv_aload_n hx hb dX3_sumFor_26 rfl (lv_at hl 2 rfl) ?_
          refine hk_getr hx hb hts hC_3 hown hW (gx.S hM) tt_3 1 ?o93 rfl kw_233 ⟨rfl, rfl, rfl⟩ ((hM.o gx trivial rfl).2.trans f_x_1) dX3_sumFor_27 ?_
          case o93 => decide
          refine lv_iload hx hb dX3_sumFor_30 (lv_at hl 0 rfl) ?_
          refine hx_iald hx hb hW hT (gpqt.S hM) tt_22 rfl ⟨?o94, ?o95⟩ dX3_sumFor_32 (fun x_23 ex_23 lx_23 ux_23 => ?_)
          case o94 => omega
          case o95 => omega
          have ax_23 : x_23 = pst iv6_5.toNatClampNeg := ex_23.trans (congrFun (hx_afS hM gpqt rfl af_pqt) _)
          obtain rfl : x_2 = x_23 := ex_2.trans ex_23.symm
          refine lv_iload_n hx hb dX3_sumFor_33 rfl (lv_at hl 5 rfl) ?_
          refine hb_icmp_gt (zx := x_2.toInt) (zy := i3.toInt) (tgt := 41) hx hb rfl rfl dX3_sumFor_34 ?o96 (fun c_24 => ?_) (fun c_24 => ?_)
          case o96 => decide
          · skip
            refine lv_iconst (v := 0) hx hb dX3_sumFor_41 ?o97 ?_
            case o97 => decide
            refine lv_istore (lv' := [(6, .int (0 : Int32)), (5, .int iv6_5), (4, .int iv6_4), (0, .ref x), (1, .int i1), (2, .int i2), (3, .int i3)]) hx hb dX3_sumFor_42 hl ?o98 rfl (fun ls hl => ?_)
            case o98 => decide
            refine lv_aload_n hx hb dX3_sumFor_44 rfl (lv_at hl 3 rfl) ?_
            refine hk_getr hx hb hts hC_3 hown hW (gx.S hM) tt_3 2 ?o99 rfl kw_235 ⟨rfl, rfl, rfl⟩ ((hM.o gx trivial rfl).2.trans f_x_2) dX3_sumFor_45 ?_
            case o99 => decide
            refine lv_iload hx hb dX3_sumFor_48 (lv_at hl 1 rfl) ?_
            refine hx_iald hx hb hW hT (gpqo.S hM) tt_23 rfl ⟨?o100, ?o101⟩ dX3_sumFor_50 (fun x_25 ex_25 lx_25 ux_25 => ?_)
            case o100 => omega
            case o101 => omega
            have ax_25 : x_25 = pof iv6_5.toNatClampNeg := ex_25.trans (congrFun (hx_afS hM gpqo rfl af_pqo) _)
            refine lv_iload_n hx hb dX3_sumFor_51 rfl (lv_at hl 4 rfl) ?_
            refine hb_icmp_ne (zx := x_25.toInt) (zy := i1.toInt) (tgt := 94) hx hb rfl rfl dX3_sumFor_52 ?o102 (fun c_26 => ?_) (fun c_26 => ?_)
            case o102 => decide
            · skip
              obtain ⟨x_27, ex_27⟩ : ∃ y : Int32, y = iv6_5 + Int32.ofInt 1 := ⟨_, rfl⟩
              have rg_28 := i32_r iv6_5
              have zx_27 : x_27.toInt = iv6_5.toInt + (1) := ?o103
              case o103 =>
                rw [ex_27]
                refine i32_add rfl ?o104 ?o105 ?o106
                case o104 => decide
                case o105 => omega
                case o106 => omega
              refine lv_iinc (v := x_27) (lv' := [(5, .int x_27), (6, .int (0 : Int32)), (4, .int iv6_4), (0, .ref x), (1, .int i1), (2, .int i2), (3, .int i3)]) hx hb dX3_sumFor_94 hl (k := 1) rfl ex_27.symm ?o107 rfl (fun ls hl => ?_)
              case o107 => decide
              refine lv_goto (tgt := 6) hx hb dX3_sumFor_97 ?o108 ?_
              case o108 => decide
              refine ih6 iv6_4 x_27 _ _ hL1 hl1 ?o109 ?o110 ?o111 ?o112 (hx_ps_no1 vi6_0 ?o113 zx_27 ax_25 rfl ?o114) ?o115 ?o116 ls ?o117 hW hT hM   (lv_sub hl [0, 2, 3, 4, 5, 6] rfl)
              case o109 => omega
              case o110 => omega
              case o111 => omega
              case o112 => omega
              case o113 => omega
              case o114 => omega
              case o115 => omega
              case o116 => omega
              case o117 => omega
            · skip
              refine lv_aload_n hx hb dX3_sumFor_55 rfl (lv_at hl 3 rfl) ?_
              refine hk_getr hx hb hts hC_3 hown hW (gx.S hM) tt_3 3 ?o118 rfl kw_236 ⟨rfl, rfl, rfl⟩ ((hM.o gx trivial rfl).2.trans f_x_3) dX3_sumFor_56 ?_
              case o118 => decide
              refine lv_iload hx hb dX3_sumFor_59 (lv_at hl 1 rfl) ?_
              refine hx_iald hx hb hW hT (gpqd.S hM) tt_24 rfl ⟨?o119, ?o120⟩ dX3_sumFor_61 (fun x_29 ex_29 lx_29 ux_29 => ?_)
              case o119 => omega
              case o120 => omega
              have ax_29 : x_29 = pdf iv6_5.toNatClampNeg := ex_29.trans (congrFun (hx_afS hM gpqd rfl af_pqd) _)
              refine lv_iload_n hx hb dX3_sumFor_62 rfl (lv_at hl 5 rfl) ?_
              refine hb_icmp_gt (zx := x_29.toInt) (zy := i2.toInt) (tgt := 94) hx hb rfl rfl dX3_sumFor_63 ?o121 (fun c_30 => ?_) (fun c_30 => ?_)
              case o121 => decide
              · skip
                obtain ⟨x_31, ex_31⟩ : ∃ y : Int32, y = iv6_5 + Int32.ofInt 1 := ⟨_, rfl⟩
                have rg_32 := i32_r iv6_5
                have zx_31 : x_31.toInt = iv6_5.toInt + (1) := ?o122
                case o122 =>
                  rw [ex_31]
                  refine i32_add rfl ?o123 ?o124 ?o125
                  case o123 => decide
                  case o124 => omega
                  case o125 => omega
                refine lv_iinc (v := x_31) (lv' := [(5, .int x_31), (6, .int (0 : Int32)), (4, .int iv6_4), (0, .ref x), (1, .int i1), (2, .int i2), (3, .int i3)]) hx hb dX3_sumFor_94 hl (k := 1) rfl ex_31.symm ?o126 rfl (fun ls hl => ?_)
                case o126 => decide
                refine lv_goto (tgt := 6) hx hb dX3_sumFor_97 ?o127 ?_
                case o127 => decide
                refine ih6 iv6_4 x_31 _ _ hL1 hl1 ?o128 ?o129 ?o130 ?o131 (hx_ps_no2 vi6_0 ?o132 zx_31 ax_29 rfl ?o133) ?o134 ?o135 ls ?o136 hW hT hM   (lv_sub hl [0, 2, 3, 4, 5, 6] rfl)
                case o128 => omega
                case o129 => omega
                case o130 => omega
                case o131 => omega
                case o132 => omega
                case o133 => omega
                case o134 => omega
                case o135 => omega
                case o136 => omega
              · skip
                refine lv_aload_n hx hb dX3_sumFor_66 rfl (lv_at hl 3 rfl) ?_
                refine hk_getr hx hb hts hC_3 hown hW (gx.S hM) tt_3 4 ?o137 rfl kw_237 ⟨rfl, rfl, rfl⟩ ((hM.o gx trivial rfl).2.trans f_x_4) dX3_sumFor_67 ?_
                case o137 => decide
                refine lv_iload hx hb dX3_sumFor_70 (lv_at hl 1 rfl) ?_
                refine hx_iald hx hb hW hT (gpqk.S hM) tt_25 rfl ⟨?o138, ?o139⟩ dX3_sumFor_72 (fun x_33 ex_33 lx_33 ux_33 => ?_)
                case o138 => omega
                case o139 => omega
                have ax_33 : x_33 = pkf iv6_5.toNatClampNeg := ex_33.trans (congrFun (hx_afS hM gpqk rfl af_pqk) _)
                refine lv_iload_n hx hb dX3_sumFor_73 rfl (lv_at hl 6 rfl) ?_
                refine hb_icmp_gt (zx := x_33.toInt) (zy := i3.toInt) (tgt := 94) hx hb rfl rfl dX3_sumFor_74 ?o140 (fun c_34 => ?_) (fun c_34 => ?_)
                case o140 => decide
                · skip
                  obtain ⟨x_35, ex_35⟩ : ∃ y : Int32, y = iv6_5 + Int32.ofInt 1 := ⟨_, rfl⟩
                  have rg_36 := i32_r iv6_5
                  have zx_35 : x_35.toInt = iv6_5.toInt + (1) := ?o141
                  case o141 =>
                    rw [ex_35]
                    refine i32_add rfl ?o142 ?o143 ?o144
                    case o142 => decide
                    case o143 => omega
                    case o144 => omega
                  refine lv_iinc (v := x_35) (lv' := [(5, .int x_35), (6, .int (0 : Int32)), (4, .int iv6_4), (0, .ref x), (1, .int i1), (2, .int i2), (3, .int i3)]) hx hb dX3_sumFor_94 hl (k := 1) rfl ex_35.symm ?o145 rfl (fun ls hl => ?_)
                  case o145 => decide
                  refine lv_goto (tgt := 6) hx hb dX3_sumFor_97 ?o146 ?_
                  case o146 => decide
                  exact ih6 iv6_4 x_35 _ _ hL1 hl1 (by omega) (by omega) (by omega) (by omega) (by first | exact hx_ps_no4 vi6_0 (by omega) zx_35 ax_2 rfl (by omega) (by omega) | exact hx_ps_no3 vi6_0 (by omega) zx_35 ax_33 rfl (by omega)) (by omega) (by omega) ls (by omega) hW hT hM   (lv_sub hl [0, 2, 3, 4, 5, 6] rfl)
                · skip
                  refine lv_iload hx hb dX3_sumFor_77 (lv_at hl 0 rfl) ?_
                  refine hb_if_ne (zx := 0) (tgt := 94) hx hb ?o147 dX3_sumFor_79 ?o148 (fun c_37 => absurd c_37 ?o149) (fun c_37 => ?_)
                  case o147 => decide
                  case o148 => decide
                  case o149 => decide
                  refine lv_iload hx hb dX3_sumFor_82 (lv_at hl 2 rfl) ?_
                  refine lv_aload_n hx hb dX3_sumFor_84 rfl (lv_at hl 3 rfl) ?_
                  refine hk_getr hx hb hts hC_3 hown hW (gx.S hM) tt_3 5 ?o150 rfl kw_238 ⟨rfl, rfl, rfl⟩ ((hM.o gx trivial rfl).2.trans f_x_5) dX3_sumFor_85 ?_
                  case o150 => decide
                  refine lv_iload hx hb dX3_sumFor_88 (lv_at hl 1 rfl) ?_
                  refine hx_iald hx hb hW hT (gpqs.S hM) tt_26 rfl ⟨?o151, ?o152⟩ dX3_sumFor_90 (fun x_38 ex_38 lx_38 ux_38 => ?_)
                  case o151 => omega
                  case o152 => omega
                  have ax_38 : x_38 = psm iv6_5.toNatClampNeg := ex_38.trans (congrFun (hx_afS hM gpqs rfl af_pqs) _)
                  have hb9 := hps iv6_5.toNatClampNeg (by unfold Int32.toNatClampNeg; omega); rw [← ax_38] at hb9
                  refine lv_iadd hx hb dX3_sumFor_91 ?_
                  have rg_39 := i32_r iv6_4
                  have rg_40 := i32_r x_38
                  refine lv_topi (fun x_41 ex_41 => ?_)
                  have zx_41 : x_41.toInt = iv6_4.toInt + x_38.toInt := ?o153
                  case o153 =>
                    rw [ex_41]
                    refine i32_add rfl rfl ?o154 ?o155
                    case o154 => omega
                    case o155 => omega
                  refine lv_istore (lv' := [(4, .int x_41), (6, .int (0 : Int32)), (5, .int iv6_5), (0, .ref x), (1, .int i1), (2, .int i2), (3, .int i3)]) hx hb dX3_sumFor_92 hl ?o156 rfl (fun ls hl => ?_)
                  case o156 => decide
                  obtain ⟨x_42, ex_42⟩ : ∃ y : Int32, y = iv6_5 + Int32.ofInt 1 := ⟨_, rfl⟩
                  have rg_43 := i32_r iv6_5
                  have zx_42 : x_42.toInt = iv6_5.toInt + (1) := ?o157
                  case o157 =>
                    rw [ex_42]
                    refine i32_add rfl ?o158 ?o159 ?o160
                    case o158 => decide
                    case o159 => omega
                    case o160 => omega
                  refine lv_iinc (v := x_42) (lv' := [(5, .int x_42), (4, .int x_41), (6, .int (0 : Int32)), (0, .ref x), (1, .int i1), (2, .int i2), (3, .int i3)]) hx hb dX3_sumFor_94 hl (k := 2) rfl ex_42.symm ?o161 rfl (fun ls hl => ?_)
                  case o161 => decide
                  refine lv_goto (tgt := 6) hx hb dX3_sumFor_97 ?o162 ?_
                  case o162 => decide
                  refine ih6 x_41 x_42 _ _ hL1 hl1 ?o163 ?o164 ?o165 ?o166 (hx_ps_yes vi6_0 ?o167 zx_42 rfl ax_25 ax_29 ax_33 ax_2 ax_38 ?o168 ?o169 ?o170 ?o171 ?o172) ?o173 ?o174 ls ?o175 hW hT hM   (lv_sub hl [0, 1, 3, 4, 5, 6] rfl)
                  case o163 => omega
                  case o164 => omega
                  case o165 => omega
                  case o166 => omega
                  case o167 => omega
                  case o168 => omega
                  case o169 => omega
                  case o170 => omega
                  case o171 => omega
                  case o172 => omega
                  case o173 => omega
                  case o174 => omega
                  case o175 => omega
          · skip
            refine lv_iconst (v := 1) hx hb dX3_sumFor_37 ?o176 ?_
            case o176 => decide
            refine lv_goto (tgt := 42) hx hb dX3_sumFor_38 ?o177 ?_
            case o177 => decide
            refine lv_istore (lv' := [(6, .int (1 : Int32)), (5, .int iv6_5), (4, .int iv6_4), (0, .ref x), (1, .int i1), (2, .int i2), (3, .int i3)]) hx hb dX3_sumFor_42 hl ?o178 rfl (fun ls hl => ?_)
            case o178 => decide
            refine lv_aload_n hx hb dX3_sumFor_44 rfl (lv_at hl 3 rfl) ?_
            refine hk_getr hx hb hts hC_3 hown hW (gx.S hM) tt_3 2 ?o179 rfl kw_235 ⟨rfl, rfl, rfl⟩ ((hM.o gx trivial rfl).2.trans f_x_2) dX3_sumFor_45 ?_
            case o179 => decide
            refine lv_iload hx hb dX3_sumFor_48 (lv_at hl 1 rfl) ?_
            refine hx_iald hx hb hW hT (gpqo.S hM) tt_23 rfl ⟨?o180, ?o181⟩ dX3_sumFor_50 (fun x_44 ex_44 lx_44 ux_44 => ?_)
            case o180 => omega
            case o181 => omega
            have ax_44 : x_44 = pof iv6_5.toNatClampNeg := ex_44.trans (congrFun (hx_afS hM gpqo rfl af_pqo) _)
            refine lv_iload_n hx hb dX3_sumFor_51 rfl (lv_at hl 4 rfl) ?_
            refine hb_icmp_ne (zx := x_44.toInt) (zy := i1.toInt) (tgt := 94) hx hb rfl rfl dX3_sumFor_52 ?o182 (fun c_45 => ?_) (fun c_45 => ?_)
            case o182 => decide
            · skip
              obtain ⟨x_46, ex_46⟩ : ∃ y : Int32, y = iv6_5 + Int32.ofInt 1 := ⟨_, rfl⟩
              have rg_47 := i32_r iv6_5
              have zx_46 : x_46.toInt = iv6_5.toInt + (1) := ?o183
              case o183 =>
                rw [ex_46]
                refine i32_add rfl ?o184 ?o185 ?o186
                case o184 => decide
                case o185 => omega
                case o186 => omega
              refine lv_iinc (v := x_46) (lv' := [(5, .int x_46), (6, .int (1 : Int32)), (4, .int iv6_4), (0, .ref x), (1, .int i1), (2, .int i2), (3, .int i3)]) hx hb dX3_sumFor_94 hl (k := 1) rfl ex_46.symm ?o187 rfl (fun ls hl => ?_)
              case o187 => decide
              refine lv_goto (tgt := 6) hx hb dX3_sumFor_97 ?o188 ?_
              case o188 => decide
              refine ih6 iv6_4 x_46 _ _ hL1 hl1 ?o189 ?o190 ?o191 ?o192 (hx_ps_no1 vi6_0 ?o193 zx_46 ax_44 rfl ?o194) ?o195 ?o196 ls ?o197 hW hT hM   (lv_sub hl [0, 2, 3, 4, 5, 6] rfl)
              case o189 => omega
              case o190 => omega
              case o191 => omega
              case o192 => omega
              case o193 => omega
              case o194 => omega
              case o195 => omega
              case o196 => omega
              case o197 => omega
            · skip
              refine lv_aload_n hx hb dX3_sumFor_55 rfl (lv_at hl 3 rfl) ?_
              refine hk_getr hx hb hts hC_3 hown hW (gx.S hM) tt_3 3 ?o198 rfl kw_236 ⟨rfl, rfl, rfl⟩ ((hM.o gx trivial rfl).2.trans f_x_3) dX3_sumFor_56 ?_
              case o198 => decide
              refine lv_iload hx hb dX3_sumFor_59 (lv_at hl 1 rfl) ?_
              refine hx_iald hx hb hW hT (gpqd.S hM) tt_24 rfl ⟨?o199, ?o200⟩ dX3_sumFor_61 (fun x_48 ex_48 lx_48 ux_48 => ?_)
              case o199 => omega
              case o200 => omega
              have ax_48 : x_48 = pdf iv6_5.toNatClampNeg := ex_48.trans (congrFun (hx_afS hM gpqd rfl af_pqd) _)
              refine lv_iload_n hx hb dX3_sumFor_62 rfl (lv_at hl 5 rfl) ?_
              refine hb_icmp_gt (zx := x_48.toInt) (zy := i2.toInt) (tgt := 94) hx hb rfl rfl dX3_sumFor_63 ?o201 (fun c_49 => ?_) (fun c_49 => ?_)
              case o201 => decide
              · skip
                obtain ⟨x_50, ex_50⟩ : ∃ y : Int32, y = iv6_5 + Int32.ofInt 1 := ⟨_, rfl⟩
                have rg_51 := i32_r iv6_5
                have zx_50 : x_50.toInt = iv6_5.toInt + (1) := ?o202
                case o202 =>
                  rw [ex_50]
                  refine i32_add rfl ?o203 ?o204 ?o205
                  case o203 => decide
                  case o204 => omega
                  case o205 => omega
                refine lv_iinc (v := x_50) (lv' := [(5, .int x_50), (6, .int (1 : Int32)), (4, .int iv6_4), (0, .ref x), (1, .int i1), (2, .int i2), (3, .int i3)]) hx hb dX3_sumFor_94 hl (k := 1) rfl ex_50.symm ?o206 rfl (fun ls hl => ?_)
                case o206 => decide
                refine lv_goto (tgt := 6) hx hb dX3_sumFor_97 ?o207 ?_
                case o207 => decide
                refine ih6 iv6_4 x_50 _ _ hL1 hl1 ?o208 ?o209 ?o210 ?o211 (hx_ps_no2 vi6_0 ?o212 zx_50 ax_48 rfl ?o213) ?o214 ?o215 ls ?o216 hW hT hM   (lv_sub hl [0, 2, 3, 4, 5, 6] rfl)
                case o208 => omega
                case o209 => omega
                case o210 => omega
                case o211 => omega
                case o212 => omega
                case o213 => omega
                case o214 => omega
                case o215 => omega
                case o216 => omega
              · skip
                refine lv_aload_n hx hb dX3_sumFor_66 rfl (lv_at hl 3 rfl) ?_
                refine hk_getr hx hb hts hC_3 hown hW (gx.S hM) tt_3 4 ?o217 rfl kw_237 ⟨rfl, rfl, rfl⟩ ((hM.o gx trivial rfl).2.trans f_x_4) dX3_sumFor_67 ?_
                case o217 => decide
                refine lv_iload hx hb dX3_sumFor_70 (lv_at hl 1 rfl) ?_
                refine hx_iald hx hb hW hT (gpqk.S hM) tt_25 rfl ⟨?o218, ?o219⟩ dX3_sumFor_72 (fun x_52 ex_52 lx_52 ux_52 => ?_)
                case o218 => omega
                case o219 => omega
                have ax_52 : x_52 = pkf iv6_5.toNatClampNeg := ex_52.trans (congrFun (hx_afS hM gpqk rfl af_pqk) _)
                refine lv_iload_n hx hb dX3_sumFor_73 rfl (lv_at hl 6 rfl) ?_
                refine hb_icmp_gt (zx := x_52.toInt) (zy := i3.toInt) (tgt := 94) hx hb rfl rfl dX3_sumFor_74 ?o220 (fun c_53 => ?_) (fun c_53 => ?_)
                case o220 => decide
                · skip
                  obtain ⟨x_54, ex_54⟩ : ∃ y : Int32, y = iv6_5 + Int32.ofInt 1 := ⟨_, rfl⟩
                  have rg_55 := i32_r iv6_5
                  have zx_54 : x_54.toInt = iv6_5.toInt + (1) := ?o221
                  case o221 =>
                    rw [ex_54]
                    refine i32_add rfl ?o222 ?o223 ?o224
                    case o222 => decide
                    case o223 => omega
                    case o224 => omega
                  refine lv_iinc (v := x_54) (lv' := [(5, .int x_54), (6, .int (1 : Int32)), (4, .int iv6_4), (0, .ref x), (1, .int i1), (2, .int i2), (3, .int i3)]) hx hb dX3_sumFor_94 hl (k := 1) rfl ex_54.symm ?o225 rfl (fun ls hl => ?_)
                  case o225 => decide
                  refine lv_goto (tgt := 6) hx hb dX3_sumFor_97 ?o226 ?_
                  case o226 => decide
                  exact ih6 iv6_4 x_54 _ _ hL1 hl1 (by omega) (by omega) (by omega) (by omega) (by first | exact hx_ps_no4 vi6_0 (by omega) zx_54 ax_2 rfl (by omega) (by omega) | exact hx_ps_no3 vi6_0 (by omega) zx_54 ax_52 rfl (by omega)) (by omega) (by omega) ls (by omega) hW hT hM   (lv_sub hl [0, 2, 3, 4, 5, 6] rfl)
                · skip
                  refine lv_iload hx hb dX3_sumFor_77 (lv_at hl 0 rfl) ?_
                  refine hb_if_ne (zx := 1) (tgt := 94) hx hb ?o227 dX3_sumFor_79 ?o228 (fun c_56 => ?_) (fun c_56 => absurd c_56 ?o229)
                  case o227 => decide
                  case o228 => decide
                  case o229 => decide
                  obtain ⟨x_57, ex_57⟩ : ∃ y : Int32, y = iv6_5 + Int32.ofInt 1 := ⟨_, rfl⟩
                  have rg_58 := i32_r iv6_5
                  have zx_57 : x_57.toInt = iv6_5.toInt + (1) := ?o230
                  case o230 =>
                    rw [ex_57]
                    refine i32_add rfl ?o231 ?o232 ?o233
                    case o231 => decide
                    case o232 => omega
                    case o233 => omega
                  refine lv_iinc (v := x_57) (lv' := [(5, .int x_57), (6, .int (1 : Int32)), (4, .int iv6_4), (0, .ref x), (1, .int i1), (2, .int i2), (3, .int i3)]) hx hb dX3_sumFor_94 hl (k := 1) rfl ex_57.symm ?o234 rfl (fun ls hl => ?_)
                  case o234 => decide
                  refine lv_goto (tgt := 6) hx hb dX3_sumFor_97 ?o235 ?_
                  case o235 => decide
                  exact ih6 iv6_4 x_57 _ _ hL1 hl1 (by omega) (by omega) (by omega) (by omega) (by first | exact hx_ps_no4 vi6_0 (by omega) zx_57 ax_2 rfl (by omega) (by omega) | exact hx_ps_no3 vi6_0 (by omega) zx_57 ax_52 rfl (by omega)) (by omega) (by omega) ls (by omega) hW hT hM   (lv_sub hl [0, 2, 3, 4, 5, 6] rfl)
  have zk_0 : (0 : Int32).toInt = 0 := ?o236
  case o236 => decide
  have zk_0 : (0 : Int32).toInt = 0 := ?o237
  case o237 => decide
  refine loop6 601 (0 : Int32) (0 : Int32) _ _ L h ?o238 ?o239 ?o240 ?o241 (by rw [zk_0]; rfl) ?o242 ?o243 ls ?o244 hW hT hM   hl
  case o238 => decide
  case o239 => decide
  case o240 => decide
  case o241 => decide
  case o242 => omega
  case o243 => omega
  case o244 => omega


set_option maxHeartbeats 4000000 in
set_option maxRecDepth 100000 in
theorem t_X2_paidOn_v (l : Launch) (dC : Nat → ClassId) (dI : Nat → Nat → Nat) (dA : Nat → ClassId) (L : List Nat) (h : hx_h) (sz : Nat) (x : Nat) (v1 : Nat) (i1 : Int32) (i2 : Int32) (hT : hx_T T_tb L h) (gx : hx_g L h x 2) (gv1 : hx_g L h v1 3) (pqo : Nat) (gpqo : hx_g L h pqo 23) (f_v1_2 : h.2.2 v1 2 = some pqo) (pqd : Nat) (gpqd : hx_g L h pqd 24) (f_v1_3 : h.2.2 v1 3 = some pqd) (pqs : Nat) (gpqs : hx_g L h pqs 26) (f_v1_5 : h.2.2 v1 5 = some pqs) (pqk : Nat) (gpqk : hx_g L h pqk 25) (f_v1_4 : h.2.2 v1 4 = some pqk) (pqt : Nat) (gpqt : hx_g L h pqt 22) (f_v1_1 : h.2.2 v1 1 = some pqt) (pof : Nat → Int32) (af_pqo : h.2.1 pqo = pof) (pdf : Nat → Int32) (af_pqd : h.2.1 pqd = pdf) (psm : Nat → Int32) (af_pqs : h.2.1 pqs = psm) (pkf : Nat → Int32) (af_pqk : h.2.1 pqk = pkf) (pst : Nat → Int32) (af_pqt : h.2.1 pqt = pst) (od : Int32) (f_x_13 : h.2.1 x 13 = od) (sei : Int32) (f_x_16 : h.2.1 x 16 = sei) (gd : Int32) (f_x_17 : h.2.1 x 17 = gd) (nm : Int32) (f_x_0 : h.2.1 x 0 = nm) (n0 : Int32) (f_v1_0 : h.2.1 v1 0 = n0) (hgd : 0 ≤ gd.toInt ∧ gd.toInt ≤ 9999) (hps : ∀ j, j < 600 → 0 ≤ (psm j).toInt ∧ (psm j).toInt ≤ 610000) : Met l yX2_paidOn (Cond.code yX2_paidOn cX2_paidOn 5 (some .int) :: hx_all) ({ frames := 1, cells := 0, slots := 0, locals := 26 }) (va_Pc [.ref x, .ref v1, .int i1, .int i2] (hx_B T_tb (P_ty dA) (dC, dI) vwCl L h sz)) (va_Qi (fun (r : Int32) (u : List Nat × hx_h) => (r.toInt = hz_pdy od.toInt sei.toInt gd.toInt i1.toInt (hx_ps pof pdf psm pkf pst i1.toInt i2.toInt nm.toInt n0.toInt.toNat) ∧ (0 ≤ r.toInt ∧ r.toInt ≤ 366100000)) ∧ hx_T T_tb u.1 u.2 ∧ hx_S T_tb [] L h u.1 u.2) (hx_E T_tb (P_ty dA) (dC, dI) vwCl (hx_A L sz)) (hx_A L sz)) 0 0 (hx_A L sz) := by
  refine hx_met (lv := [(0, .ref x), (1, .ref v1), (2, .int i1), (3, .int i2)]) (by decide +kernel) rfl (Nat.le_of_ble_eq_true rfl) rfl ?_
  intro p e s m below meth c hx hb hml hr hlk hts0 hown hin hsz hW ls hl
  have hts : ∀ w ∈ hx_all, w.before _ s = true := fun w hw => hts0 w (List.mem_cons_of_mem _ hw)
  have hown : s.vm.findClass "SmallCourt$Claim" = some m.cls := hown
  have hM : hx_S T_tb [] L h L h := hx_S.rf
  have b_od := hT.gi gx tt_2 (k := 13) rfl
  rw [f_x_13] at b_od
  have b_od : -2147483648 ≤ od.toInt ∧ od.toInt ≤ 2147483647 := b_od
  have b_sei := hT.gi gx tt_2 (k := 16) rfl
  rw [f_x_16] at b_sei
  have b_sei : -2147483648 ≤ sei.toInt ∧ sei.toInt ≤ 2147483647 := b_sei
  have b_gd := hT.gi gx tt_2 (k := 17) rfl
  rw [f_x_17] at b_gd
  have b_gd : -2147483648 ≤ gd.toInt ∧ gd.toInt ≤ 2147483647 := b_gd
  have b_nm := hT.gi gx tt_2 (k := 0) rfl
  rw [f_x_0] at b_nm
  have b_nm : 0 ≤ nm.toInt ∧ nm.toInt ≤ 99 := b_nm
  have b_n0 := hT.gi gv1 tt_3 (k := 0) rfl
  rw [f_v1_0] at b_n0
  have b_n0 : 0 ≤ n0.toInt ∧ n0.toInt ≤ 600 := b_n0
  refine lv_aload_n hx hb dX2_paidOn_0 rfl (lv_at hl 0 rfl) ?_
  refine hk_geti hx hb hts hC_2 hown hW (gx.S hM) tt_2 16 ?o0 rfl kw_758 ⟨rfl, rfl, rfl⟩ ((hM.o gx trivial rfl).1.trans f_x_16) dX2_paidOn_1 ?_
  case o0 => decide
  refine lv_iload_n hx hb dX2_paidOn_4 rfl (lv_at hl 2 rfl) ?_
  refine hx_goi (hx_runS (As := [.int sei, .int i1]) (rest := []) ⟨hx, hb, hml, hown, hts⟩ hW (t_X2_isDone_v l dC dI dA L h s.heap.size sei i1 hT) (va_cwS 2 hts (hx_gS kw_864 kw_862 kw_863 kw_110) rfl rfl rfl (by decide +kernel) ⟨Nat.le_of_ble_eq_true rfl, Nat.le_of_ble_eq_true rfl⟩) rfl hl.1 rfl (Nat.le_of_ble_eq_true rfl) dX2_paidOn_5 ⟨Nat.le_of_ble_eq_true rfl, Nat.le_of_ble_eq_true rfl⟩) hW (fun r_3 L_1 h_2 H locs p_4 hW => ?_)
  obtain ⟨hr_5, hT, hs⟩ := p_4
  replace hT : hx_T T_tb L_1 h_2 := hT
  replace hs : hx_S T_tb [] L h L_1 h_2 := hs
  replace hM := hM.tr (hs.mono ?o1)
  case o1 => decide
  refine hb_if_eq (zx := r_3.toInt) (tgt := 18) hx hb rfl dX2_paidOn_8 ?o2 (fun c_6 => ?_) (fun c_6 => ?_)
  case o2 => decide
  · skip
    replace hr_5 := hr_5.resolve_left (fun z => by have := z.1; omega)
    refine lv_iconst (v := 0) hx hb dX2_paidOn_18 ?o3 ?_
    case o3 => decide
    refine lv_istore (lv' := [(4, .int (0 : Int32)), (0, .ref x), (1, .ref v1), (2, .int i1), (3, .int i2)]) hx hb dX2_paidOn_19 hl ?o4 rfl (fun ls hl => ?_)
    case o4 => decide
    refine lv_aload_n hx hb dX2_paidOn_21 rfl (lv_at hl 1 rfl) ?_
    refine hk_geti hx hb hts hC_2 hown hW (gx.S hM) tt_2 13 ?o5 rfl kw_752 ⟨rfl, rfl, rfl⟩ ((hM.o gx trivial rfl).1.trans f_x_13) dX2_paidOn_22 ?_
    case o5 => decide
    refine lv_iload_n hx hb dX2_paidOn_25 rfl (lv_at hl 3 rfl) ?_
    refine hx_goi (hx_runS (As := [.int od, .int i1]) (rest := []) ⟨hx, hb, hml, hown, hts⟩ hW (t_X2_isDone_v l dC dI dA L_1 h_2 H.size od i1 hT) (va_cwS 2 hts (hx_gS kw_864 kw_862 kw_863 kw_110) rfl rfl rfl (by decide +kernel) ⟨Nat.le_of_ble_eq_true rfl, Nat.le_of_ble_eq_true rfl⟩) rfl hl.1 rfl (Nat.le_of_ble_eq_true rfl) dX2_paidOn_26 ⟨Nat.le_of_ble_eq_true rfl, Nat.le_of_ble_eq_true rfl⟩) hW (fun r_9 L_7 h_8 H locs p_10 hW => ?_)
    obtain ⟨hr_11, hT, hs⟩ := p_10
    replace hT : hx_T T_tb L_7 h_8 := hT
    replace hs : hx_S T_tb [] L_1 h_2 L_7 h_8 := hs
    replace hM := hM.tr (hs.mono ?o6)
    case o6 => decide
    refine hb_if_eq (zx := r_9.toInt) (tgt := 48) hx hb rfl dX2_paidOn_29 ?o7 (fun c_12 => ?_) (fun c_12 => ?_)
    case o7 => decide
    · skip
      replace hr_11 := hr_11.resolve_left (fun z => by have := z.1; omega)
      refine lv_iconst (v := 0) hx hb dX2_paidOn_48 ?o8 ?_
      case o8 => decide
      exact hx_reti hx hb hr hlk hW ⟨(by have zr : (0 : Int32).toInt = 0 := (by decide); exact ⟨(by unfold hz_pdy; (repeat' split) <;> omega), by omega, by omega⟩), hT, hM⟩ dX2_paidOn_49
    · skip
      replace hr_11 := hr_11.resolve_right (fun z => by have := z.1; omega)
      refine lv_aload_n hx hb dX2_paidOn_32 rfl (lv_at hl 2 rfl) ?_
      refine lv_aload_n hx hb dX2_paidOn_33 rfl (lv_at hl 1 rfl) ?_
      refine hk_geti hx hb hts hC_2 hown hW (gx.S hM) tt_2 0 ?o9 rfl kw_721 ⟨rfl, rfl, rfl⟩ ((hM.o gx trivial rfl).1.trans f_x_0) dX2_paidOn_34 ?_
      case o9 => decide
      refine lv_iload_n hx hb dX2_paidOn_37 rfl (lv_at hl 3 rfl) ?_
      refine lv_iload_n hx hb dX2_paidOn_38 rfl (lv_at hl 4 rfl) ?_
      refine hx_goi (hx_runV (As := [.int nm, .int i1, .int i2]) (rest := []) ⟨hx, hb, hml, hown, hts⟩ hW (gv1.S hM) tt_3 (T := TX3) (N := 6) rfl (t_X3_sumFor_v l dC dI dA L_7 h_8 H.size v1 nm i1 i2 hT (gv1.S hM) pqo (gpqo.S hM) ((hM.o gv1 trivial rfl).2.trans f_v1_2) pqd (gpqd.S hM) ((hM.o gv1 trivial rfl).2.trans f_v1_3) pqs (gpqs.S hM) ((hM.o gv1 trivial rfl).2.trans f_v1_5) pqk (gpqk.S hM) ((hM.o gv1 trivial rfl).2.trans f_v1_4) pqt (gpqt.S hM) ((hM.o gv1 trivial rfl).2.trans f_v1_1) pof (hx_afS hM gpqo rfl af_pqo) pdf (hx_afS hM gpqd rfl af_pqd) psm (hx_afS hM gpqs rfl af_pqs) pkf (hx_afS hM gpqk rfl af_pqk) pst (hx_afS hM gpqt rfl af_pqt) n0 ((hM.o gv1 trivial rfl).1.trans f_v1_0) hps) (cwV 3 hts (hx_gV kw_880 kw_877 kw_878 kw_879 kw_99) rfl rfl rfl (by decide +kernel) ⟨Nat.le_of_ble_eq_true rfl, Nat.le_of_ble_eq_true rfl⟩) rfl hl.1 rfl (Nat.le_of_ble_eq_true rfl) dX2_paidOn_39 ⟨Nat.le_of_ble_eq_true rfl, Nat.le_of_ble_eq_true rfl⟩) hW (fun r_15 L_13 h_14 H locs p_16 hW => ?_)
      obtain ⟨hr_17, hT, hs⟩ := p_16
      replace hT : hx_T T_tb L_13 h_14 := hT
      replace hs : hx_S T_tb [] L_7 h_8 L_13 h_14 := hs
      replace hM := hM.tr (hs.mono ?o10)
      case o10 => decide
      refine lv_iload hx hb dX2_paidOn_42 (lv_at hl 0 rfl) ?_
      refine lv_iadd hx hb dX2_paidOn_44 ?_
      have rg_18 := i32_r r_15
      refine lv_topi (fun x_19 ex_19 => ?_)
      have zx_19 : x_19.toInt = r_15.toInt + 0 := ?o11
      case o11 =>
        rw [ex_19]
        refine i32_add rfl ?o12 ?o13 ?o14
        case o12 => decide
        case o13 => omega
        case o14 => omega
      refine lv_goto (tgt := 49) hx hb dX2_paidOn_45 ?o15 ?_
      case o15 => decide
      refine hx_reti hx hb hr hlk hW ⟨⟨(by unfold hz_pdy; (repeat' split) <;> omega), ?o16, ?o17⟩, hT, hM⟩ dX2_paidOn_49
      case o16 => omega
      case o17 => omega
  · skip
    replace hr_5 := hr_5.resolve_right (fun z => by have := z.1; omega)
    refine lv_aload_n hx hb dX2_paidOn_11 rfl (lv_at hl 0 rfl) ?_
    refine hk_geti hx hb hts hC_2 hown hW (gx.S hM) tt_2 17 ?o18 rfl kw_760 ⟨rfl, rfl, rfl⟩ ((hM.o gx trivial rfl).1.trans f_x_17) dX2_paidOn_12 ?_
    case o18 => decide
    refine lv_goto (tgt := 19) hx hb dX2_paidOn_15 ?o19 ?_
    case o19 => decide
    refine lv_istore (lv' := [(4, .int gd), (0, .ref x), (1, .ref v1), (2, .int i1), (3, .int i2)]) hx hb dX2_paidOn_19 hl ?o20 rfl (fun ls hl => ?_)
    case o20 => decide
    refine lv_aload_n hx hb dX2_paidOn_21 rfl (lv_at hl 1 rfl) ?_
    refine hk_geti hx hb hts hC_2 hown hW (gx.S hM) tt_2 13 ?o21 rfl kw_752 ⟨rfl, rfl, rfl⟩ ((hM.o gx trivial rfl).1.trans f_x_13) dX2_paidOn_22 ?_
    case o21 => decide
    refine lv_iload_n hx hb dX2_paidOn_25 rfl (lv_at hl 3 rfl) ?_
    refine hx_goi (hx_runS (As := [.int od, .int i1]) (rest := []) ⟨hx, hb, hml, hown, hts⟩ hW (t_X2_isDone_v l dC dI dA L_1 h_2 H.size od i1 hT) (va_cwS 2 hts (hx_gS kw_864 kw_862 kw_863 kw_110) rfl rfl rfl (by decide +kernel) ⟨Nat.le_of_ble_eq_true rfl, Nat.le_of_ble_eq_true rfl⟩) rfl hl.1 rfl (Nat.le_of_ble_eq_true rfl) dX2_paidOn_26 ⟨Nat.le_of_ble_eq_true rfl, Nat.le_of_ble_eq_true rfl⟩) hW (fun r_22 L_20 h_21 H locs p_23 hW => ?_)
    obtain ⟨hr_24, hT, hs⟩ := p_23
    replace hT : hx_T T_tb L_20 h_21 := hT
    replace hs : hx_S T_tb [] L_1 h_2 L_20 h_21 := hs
    replace hM := hM.tr (hs.mono ?o22)
    case o22 => decide
    refine hb_if_eq (zx := r_22.toInt) (tgt := 48) hx hb rfl dX2_paidOn_29 ?o23 (fun c_25 => ?_) (fun c_25 => ?_)
    case o23 => decide
    · skip
      replace hr_24 := hr_24.resolve_left (fun z => by have := z.1; omega)
      refine lv_iconst (v := 0) hx hb dX2_paidOn_48 ?o24 ?_
      case o24 => decide
      exact hx_reti hx hb hr hlk hW ⟨(by have zr : (0 : Int32).toInt = 0 := (by decide); exact ⟨(by unfold hz_pdy; (repeat' split) <;> omega), by omega, by omega⟩), hT, hM⟩ dX2_paidOn_49
    · skip
      replace hr_24 := hr_24.resolve_right (fun z => by have := z.1; omega)
      refine lv_aload_n hx hb dX2_paidOn_32 rfl (lv_at hl 2 rfl) ?_
      refine lv_aload_n hx hb dX2_paidOn_33 rfl (lv_at hl 1 rfl) ?_
      refine hk_geti hx hb hts hC_2 hown hW (gx.S hM) tt_2 0 ?o25 rfl kw_721 ⟨rfl, rfl, rfl⟩ ((hM.o gx trivial rfl).1.trans f_x_0) dX2_paidOn_34 ?_
      case o25 => decide
      refine lv_iload_n hx hb dX2_paidOn_37 rfl (lv_at hl 3 rfl) ?_
      refine lv_iload_n hx hb dX2_paidOn_38 rfl (lv_at hl 4 rfl) ?_
      refine hx_goi (hx_runV (As := [.int nm, .int i1, .int i2]) (rest := []) ⟨hx, hb, hml, hown, hts⟩ hW (gv1.S hM) tt_3 (T := TX3) (N := 6) rfl (t_X3_sumFor_v l dC dI dA L_20 h_21 H.size v1 nm i1 i2 hT (gv1.S hM) pqo (gpqo.S hM) ((hM.o gv1 trivial rfl).2.trans f_v1_2) pqd (gpqd.S hM) ((hM.o gv1 trivial rfl).2.trans f_v1_3) pqs (gpqs.S hM) ((hM.o gv1 trivial rfl).2.trans f_v1_5) pqk (gpqk.S hM) ((hM.o gv1 trivial rfl).2.trans f_v1_4) pqt (gpqt.S hM) ((hM.o gv1 trivial rfl).2.trans f_v1_1) pof (hx_afS hM gpqo rfl af_pqo) pdf (hx_afS hM gpqd rfl af_pqd) psm (hx_afS hM gpqs rfl af_pqs) pkf (hx_afS hM gpqk rfl af_pqk) pst (hx_afS hM gpqt rfl af_pqt) n0 ((hM.o gv1 trivial rfl).1.trans f_v1_0) hps) (cwV 3 hts (hx_gV kw_880 kw_877 kw_878 kw_879 kw_99) rfl rfl rfl (by decide +kernel) ⟨Nat.le_of_ble_eq_true rfl, Nat.le_of_ble_eq_true rfl⟩) rfl hl.1 rfl (Nat.le_of_ble_eq_true rfl) dX2_paidOn_39 ⟨Nat.le_of_ble_eq_true rfl, Nat.le_of_ble_eq_true rfl⟩) hW (fun r_28 L_26 h_27 H locs p_29 hW => ?_)
      obtain ⟨hr_30, hT, hs⟩ := p_29
      replace hT : hx_T T_tb L_26 h_27 := hT
      replace hs : hx_S T_tb [] L_20 h_21 L_26 h_27 := hs
      replace hM := hM.tr (hs.mono ?o26)
      case o26 => decide
      refine lv_iload hx hb dX2_paidOn_42 (lv_at hl 0 rfl) ?_
      refine lv_iadd hx hb dX2_paidOn_44 ?_
      have rg_31 := i32_r r_28
      have rg_32 := i32_r gd
      refine lv_topi (fun x_33 ex_33 => ?_)
      have zx_33 : x_33.toInt = r_28.toInt + gd.toInt := ?o27
      case o27 =>
        rw [ex_33]
        refine i32_add rfl rfl ?o28 ?o29
        case o28 => omega
        case o29 => omega
      refine lv_goto (tgt := 49) hx hb dX2_paidOn_45 ?o30 ?_
      case o30 => decide
      refine hx_reti hx hb hr hlk hW ⟨⟨(by unfold hz_pdy; (repeat' split) <;> omega), ?o31, ?o32⟩, hT, hM⟩ dX2_paidOn_49
      case o31 => omega
      case o32 => omega


set_option maxHeartbeats 4000000 in
set_option maxRecDepth 100000 in
theorem t_X2_owedOn_v (l : Launch) (dC : Nat → ClassId) (dI : Nat → Nat → Nat) (dA : Nat → ClassId) (L : List Nat) (h : hx_h) (sz : Nat) (x : Nat) (i1 : Int32) (hT : hx_T T_tb L h) (gx : hx_g L h x 2) (qac : Nat) (gqac : hx_g L h qac 0) (f_x_3 : h.2.2 x 3 = some qac) (qt : Nat) (gqt : hx_g L h qt 11) (f_qac_2 : h.2.2 qac 2 = some qt) (tf : Nat → Int32) (af_qt : h.2.1 qt = tf) (sei : Int32) (f_x_16 : h.2.1 x 16 = sei) (ow : Int32) (f_x_15 : h.2.1 x 15 = ow) (R : Nat → Int) (hR : hv_rC tf = R) (hRb : ∀ k, 0 ≤ R k ∧ R k ≤ 9999) (how : 0 ≤ ow.toInt ∧ ow.toInt ≤ 600000) : Met l yX2_owedOn (Cond.code yX2_owedOn cX2_owedOn 2 (some .int) :: hx_all) ({ frames := 1, cells := 0, slots := 0, locals := 21 }) (va_Pc [.ref x, .int i1] (hx_B T_tb (P_ty dA) (dC, dI) vwCl L h sz)) (va_Qi (fun (r : Int32) (u : List Nat × hx_h) => (r.toInt = hz_al ow.toInt sei.toInt (R 12) i1.toInt ∧ (0 ≤ r.toInt ∧ r.toInt ≤ 609999)) ∧ hx_T T_tb u.1 u.2 ∧ hx_S T_tb [] L h u.1 u.2) (hx_E T_tb (P_ty dA) (dC, dI) vwCl (hx_A L sz)) (hx_A L sz)) 0 0 (hx_A L sz) := by
  refine hx_met (lv := [(0, .ref x), (1, .int i1)]) (by decide +kernel) rfl (Nat.le_of_ble_eq_true rfl) rfl ?_
  intro p e s m below meth c hx hb hml hr hlk hts0 hown hin hsz hW ls hl
  have hts : ∀ w ∈ hx_all, w.before _ s = true := fun w hw => hts0 w (List.mem_cons_of_mem _ hw)
  have hown : s.vm.findClass "SmallCourt$Claim" = some m.cls := hown
  have hM : hx_S T_tb [] L h L h := hx_S.rf
  have b_sei := hT.gi gx tt_2 (k := 16) rfl
  rw [f_x_16] at b_sei
  have b_sei : -2147483648 ≤ sei.toInt ∧ sei.toInt ≤ 2147483647 := b_sei
  have b_ow := hT.gi gx tt_2 (k := 15) rfl
  rw [f_x_15] at b_ow
  have b_ow : -2147483648 ≤ ow.toInt ∧ ow.toInt ≤ 2147483647 := b_ow
  refine lv_aload_n hx hb dX2_owedOn_0 rfl (lv_at hl 0 rfl) ?_
  refine hk_geti hx hb hts hC_2 hown hW (gx.S hM) tt_2 16 ?o0 rfl kw_758 ⟨rfl, rfl, rfl⟩ ((hM.o gx trivial rfl).1.trans f_x_16) dX2_owedOn_1 ?_
  case o0 => decide
  refine lv_iload_n hx hb dX2_owedOn_4 rfl (lv_at hl 1 rfl) ?_
  refine hx_goi (hx_runS (As := [.int sei, .int i1]) (rest := []) ⟨hx, hb, hml, hown, hts⟩ hW (t_X2_isDone_v l dC dI dA L h s.heap.size sei i1 hT) (va_cwS 2 hts (hx_gS kw_864 kw_862 kw_863 kw_110) rfl rfl rfl (by decide +kernel) ⟨Nat.le_of_ble_eq_true rfl, Nat.le_of_ble_eq_true rfl⟩) rfl hl.1 rfl (Nat.le_of_ble_eq_true rfl) dX2_owedOn_5 ⟨Nat.le_of_ble_eq_true rfl, Nat.le_of_ble_eq_true rfl⟩) hW (fun r_3 L_1 h_2 H locs p_4 hW => ?_)
  obtain ⟨hr_5, hT, hs⟩ := p_4
  replace hT : hx_T T_tb L_1 h_2 := hT
  replace hs : hx_S T_tb [] L h L_1 h_2 := hs
  replace hM := hM.tr (hs.mono ?o1)
  case o1 => decide
  refine hb_if_eq (zx := r_3.toInt) (tgt := 29) hx hb rfl dX2_owedOn_8 ?o2 (fun c_6 => ?_) (fun c_6 => ?_)
  case o2 => decide
  · skip
    replace hr_5 := hr_5.resolve_left (fun z => by have := z.1; omega)
    refine lv_aload_n hx hb dX2_owedOn_29 rfl (lv_at hl 0 rfl) ?_
    refine hk_geti hx hb hts hC_2 hown hW (gx.S hM) tt_2 15 ?o3 rfl kw_756 ⟨rfl, rfl, rfl⟩ ((hM.o gx trivial rfl).1.trans f_x_15) dX2_owedOn_30 ?_
    case o3 => decide
    refine hx_reti hx hb hr hlk hW ⟨⟨(by unfold hz_al; (repeat' split) <;> omega), ?o4, ?o5⟩, hT, hM⟩ dX2_owedOn_33
    case o4 => omega
    case o5 => omega
  · skip
    replace hr_5 := hr_5.resolve_right (fun z => by have := z.1; omega)
    refine lv_aload_n hx hb dX2_owedOn_11 rfl (lv_at hl 0 rfl) ?_
    refine hk_geti hx hb hts hC_2 hown hW (gx.S hM) tt_2 15 ?o6 rfl kw_756 ⟨rfl, rfl, rfl⟩ ((hM.o gx trivial rfl).1.trans f_x_15) dX2_owedOn_12 ?_
    case o6 => decide
    refine lv_aload_n hx hb dX2_owedOn_15 rfl (lv_at hl 0 rfl) ?_
    refine hk_getr hx hb hts hC_2 hown hW (gx.S hM) tt_2 3 ?o7 rfl kw_734 ⟨rfl, rfl, rfl⟩ ((hM.o gx trivial rfl).2.trans f_x_3) dX2_owedOn_16 ?_
    case o7 => decide
    refine hk_getr hx hb hts hC_0 hown hW (gqac.S hM) tt_0 2 ?o8 rfl kw_167 ⟨rfl, rfl, rfl⟩ ((hM.o gqac trivial rfl).2.trans f_qac_2) dX2_owedOn_19 ?_
    case o8 => decide
    refine lv_bipush (v := 13) hx hb dX2_owedOn_22 ?o9 ?_
    case o9 => decide
    refine hx_iald hx hb hW hT (gqt.S hM) tt_11 rfl ?o10 dX2_owedOn_24 (fun x_7 ex_7 lx_7 ux_7 => ?_)
    case o10 => decide
    have ax_7 : x_7 = tf (13 : Int32).toNatClampNeg := ex_7.trans (congrFun (hx_afS hM gqt rfl af_qt) _)
    have hR_8 : x_7.toInt = R 12 := ?o11
    case o11 =>
      rw [← hR, ax_7, show (13 : Int32).toNatClampNeg = 13 from by decide]
      rfl
    have hR_8b := hRb 12
    rw [← hR_8] at hR_8b
    refine lv_iadd hx hb dX2_owedOn_25 ?_
    have rg_9 := i32_r ow
    have rg_10 := i32_r x_7
    refine lv_topi (fun x_11 ex_11 => ?_)
    have zx_11 : x_11.toInt = ow.toInt + x_7.toInt := ?o12
    case o12 =>
      rw [ex_11]
      refine i32_add rfl rfl ?o13 ?o14
      case o13 => omega
      case o14 => omega
    refine lv_goto (tgt := 33) hx hb dX2_owedOn_26 ?o15 ?_
    case o15 => decide
    refine hx_reti hx hb hr hlk hW ⟨⟨(by unfold hz_al; rw [← hR_8]; (repeat' split) <;> omega), ?o16, ?o17⟩, hT, hM⟩ dX2_owedOn_33
    case o16 => omega
    case o17 => omega


set_option maxHeartbeats 4000000 in
set_option maxRecDepth 100000 in
theorem t_X2_balanceOn_v (l : Launch) (dC : Nat → ClassId) (dI : Nat → Nat → Nat) (dA : Nat → ClassId) (L : List Nat) (h : hx_h) (sz : Nat) (x : Nat) (v1 : Nat) (i1 : Int32) (i2 : Int32) (hT : hx_T T_tb L h) (gx : hx_g L h x 2) (gv1 : hx_g L h v1 3) (pqo : Nat) (gpqo : hx_g L h pqo 23) (f_v1_2 : h.2.2 v1 2 = some pqo) (pqd : Nat) (gpqd : hx_g L h pqd 24) (f_v1_3 : h.2.2 v1 3 = some pqd) (pqs : Nat) (gpqs : hx_g L h pqs 26) (f_v1_5 : h.2.2 v1 5 = some pqs) (pqk : Nat) (gpqk : hx_g L h pqk 25) (f_v1_4 : h.2.2 v1 4 = some pqk) (pqt : Nat) (gpqt : hx_g L h pqt 22) (f_v1_1 : h.2.2 v1 1 = some pqt) (qac : Nat) (gqac : hx_g L h qac 0) (f_x_3 : h.2.2 x 3 = some qac) (qt : Nat) (gqt : hx_g L h qt 11) (f_qac_2 : h.2.2 qac 2 = some qt) (pof : Nat → Int32) (af_pqo : h.2.1 pqo = pof) (pdf : Nat → Int32) (af_pqd : h.2.1 pqd = pdf) (psm : Nat → Int32) (af_pqs : h.2.1 pqs = psm) (pkf : Nat → Int32) (af_pqk : h.2.1 pqk = pkf) (pst : Nat → Int32) (af_pqt : h.2.1 pqt = pst) (tf : Nat → Int32) (af_qt : h.2.1 qt = tf) (od : Int32) (f_x_13 : h.2.1 x 13 = od) (sei : Int32) (f_x_16 : h.2.1 x 16 = sei) (gd : Int32) (f_x_17 : h.2.1 x 17 = gd) (ow : Int32) (f_x_15 : h.2.1 x 15 = ow) (nm : Int32) (f_x_0 : h.2.1 x 0 = nm) (n0 : Int32) (f_v1_0 : h.2.1 v1 0 = n0) (R : Nat → Int) (hR : hv_rC tf = R) (hRb : ∀ k, 0 ≤ R k ∧ R k ≤ 9999) (how : 0 ≤ ow.toInt ∧ ow.toInt ≤ 600000) (hgd : 0 ≤ gd.toInt ∧ gd.toInt ≤ 9999) (hps : ∀ j, j < 600 → 0 ≤ (psm j).toInt ∧ (psm j).toInt ≤ 610000) : Met l yX2_balanceOn (Cond.code yX2_balanceOn cX2_balanceOn 4 (some .int) :: hx_all) ({ frames := 2, cells := 0, slots := 0, locals := 50 }) (va_Pc [.ref x, .ref v1, .int i1, .int i2] (hx_B T_tb (P_ty dA) (dC, dI) vwCl L h sz)) (va_Qi (fun (r : Int32) (u : List Nat × hx_h) => (r.toInt = hz_bl od.toInt sei.toInt gd.toInt ow.toInt (R 12) i1.toInt (hx_ps pof pdf psm pkf pst i1.toInt i2.toInt nm.toInt n0.toInt.toNat) ∧ (-366100000 ≤ r.toInt ∧ r.toInt ≤ 609999)) ∧ hx_T T_tb u.1 u.2 ∧ hx_S T_tb [] L h u.1 u.2) (hx_E T_tb (P_ty dA) (dC, dI) vwCl (hx_A L sz)) (hx_A L sz)) 0 0 (hx_A L sz) := by
  refine hx_met (lv := [(0, .ref x), (1, .ref v1), (2, .int i1), (3, .int i2)]) (by decide +kernel) rfl (Nat.le_of_ble_eq_true rfl) rfl ?_
  intro p e s m below meth c hx hb hml hr hlk hts0 hown hin hsz hW ls hl
  have hts : ∀ w ∈ hx_all, w.before _ s = true := fun w hw => hts0 w (List.mem_cons_of_mem _ hw)
  have hown : s.vm.findClass "SmallCourt$Claim" = some m.cls := hown
  have hM : hx_S T_tb [] L h L h := hx_S.rf
  have b_od := hT.gi gx tt_2 (k := 13) rfl
  rw [f_x_13] at b_od
  have b_od : -2147483648 ≤ od.toInt ∧ od.toInt ≤ 2147483647 := b_od
  have b_sei := hT.gi gx tt_2 (k := 16) rfl
  rw [f_x_16] at b_sei
  have b_sei : -2147483648 ≤ sei.toInt ∧ sei.toInt ≤ 2147483647 := b_sei
  have b_gd := hT.gi gx tt_2 (k := 17) rfl
  rw [f_x_17] at b_gd
  have b_gd : -2147483648 ≤ gd.toInt ∧ gd.toInt ≤ 2147483647 := b_gd
  have b_ow := hT.gi gx tt_2 (k := 15) rfl
  rw [f_x_15] at b_ow
  have b_ow : -2147483648 ≤ ow.toInt ∧ ow.toInt ≤ 2147483647 := b_ow
  have b_nm := hT.gi gx tt_2 (k := 0) rfl
  rw [f_x_0] at b_nm
  have b_nm : 0 ≤ nm.toInt ∧ nm.toInt ≤ 99 := b_nm
  have b_n0 := hT.gi gv1 tt_3 (k := 0) rfl
  rw [f_v1_0] at b_n0
  have b_n0 : 0 ≤ n0.toInt ∧ n0.toInt ≤ 600 := b_n0
  refine lv_aload_n hx hb dX2_balanceOn_0 rfl (lv_at hl 0 rfl) ?_
  refine hk_geti hx hb hts hC_2 hown hW (gx.S hM) tt_2 13 ?o0 rfl kw_752 ⟨rfl, rfl, rfl⟩ ((hM.o gx trivial rfl).1.trans f_x_13) dX2_balanceOn_1 ?_
  case o0 => decide
  refine lv_iload_n hx hb dX2_balanceOn_4 rfl (lv_at hl 2 rfl) ?_
  refine hx_goi (hx_runS (As := [.int od, .int i1]) (rest := []) ⟨hx, hb, hml, hown, hts⟩ hW (t_X2_isDone_v l dC dI dA L h s.heap.size od i1 hT) (va_cwS 2 hts (hx_gS kw_864 kw_862 kw_863 kw_110) rfl rfl rfl (by decide +kernel) ⟨Nat.le_of_ble_eq_true rfl, Nat.le_of_ble_eq_true rfl⟩) rfl hl.1 rfl (Nat.le_of_ble_eq_true rfl) dX2_balanceOn_5 ⟨Nat.le_of_ble_eq_true rfl, Nat.le_of_ble_eq_true rfl⟩) hW (fun r_3 L_1 h_2 H locs p_4 hW => ?_)
  obtain ⟨hr_5, hT, hs⟩ := p_4
  replace hT : hx_T T_tb L_1 h_2 := hT
  replace hs : hx_S T_tb [] L h L_1 h_2 := hs
  replace hM := hM.tr (hs.mono ?o1)
  case o1 => decide
  refine hb_if_eq (zx := r_3.toInt) (tgt := 27) hx hb rfl dX2_balanceOn_8 ?o2 (fun c_6 => ?_) (fun c_6 => ?_)
  case o2 => decide
  · skip
    replace hr_5 := hr_5.resolve_left (fun z => by have := z.1; omega)
    refine lv_iconst (v := 0) hx hb dX2_balanceOn_27 ?o3 ?_
    case o3 => decide
    exact hx_reti hx hb hr hlk hW ⟨(by have zr : (0 : Int32).toInt = 0 := (by decide); exact ⟨(by unfold hz_bl; (repeat' split) <;> omega), by omega, by omega⟩), hT, hM⟩ dX2_balanceOn_28
  · skip
    replace hr_5 := hr_5.resolve_right (fun z => by have := z.1; omega)
    refine lv_aload_n hx hb dX2_balanceOn_11 rfl (lv_at hl 0 rfl) ?_
    refine lv_iload_n hx hb dX2_balanceOn_12 rfl (lv_at hl 2 rfl) ?_
    refine hx_goi (hx_runV (As := [.int i1]) (rest := []) ⟨hx, hb, hml, hown, hts⟩ hW (gx.S hM) tt_2 (T := TX2) (N := 19) rfl (t_X2_owedOn_v l dC dI dA L_1 h_2 H.size x i1 hT (gx.S hM) qac (gqac.S hM) ((hM.o gx trivial rfl).2.trans f_x_3) qt (gqt.S hM) ((hM.o gqac trivial rfl).2.trans f_qac_2) tf (hx_afS hM gqt rfl af_qt) sei ((hM.o gx trivial rfl).1.trans f_x_16) ow ((hM.o gx trivial rfl).1.trans f_x_15) R hR hRb ⟨?o4, ?o5⟩) (cwV 1 hts (hx_gV kw_872 kw_869 kw_871 kw_31 kw_110) rfl rfl rfl (by decide +kernel) ⟨Nat.le_of_ble_eq_true rfl, Nat.le_of_ble_eq_true rfl⟩) rfl hl.1 rfl (Nat.le_of_ble_eq_true rfl) dX2_balanceOn_13 ⟨Nat.le_of_ble_eq_true rfl, Nat.le_of_ble_eq_true rfl⟩) hW (fun r_9 L_7 h_8 H locs p_10 hW => ?_)
    case o4 => omega
    case o5 => omega
    obtain ⟨hr_11, hT, hs⟩ := p_10
    replace hT : hx_T T_tb L_7 h_8 := hT
    replace hs : hx_S T_tb [] L_1 h_2 L_7 h_8 := hs
    replace hM := hM.tr (hs.mono ?o6)
    case o6 => decide
    refine lv_aload_n hx hb dX2_balanceOn_16 rfl (lv_at hl 0 rfl) ?_
    refine lv_aload_n hx hb dX2_balanceOn_17 rfl (lv_at hl 1 rfl) ?_
    refine lv_iload_n hx hb dX2_balanceOn_18 rfl (lv_at hl 2 rfl) ?_
    refine lv_iload_n hx hb dX2_balanceOn_19 rfl (lv_at hl 3 rfl) ?_
    refine hx_goi (hx_runV (As := [.ref v1, .int i1, .int i2]) (rest := [.int r_9]) ⟨hx, hb, hml, hown, hts⟩ hW (gx.S hM) tt_2 (T := TX2) (N := 19) rfl (t_X2_paidOn_v l dC dI dA L_7 h_8 H.size x v1 i1 i2 hT (gx.S hM) (gv1.S hM) pqo (gpqo.S hM) ((hM.o gv1 trivial rfl).2.trans f_v1_2) pqd (gpqd.S hM) ((hM.o gv1 trivial rfl).2.trans f_v1_3) pqs (gpqs.S hM) ((hM.o gv1 trivial rfl).2.trans f_v1_5) pqk (gpqk.S hM) ((hM.o gv1 trivial rfl).2.trans f_v1_4) pqt (gpqt.S hM) ((hM.o gv1 trivial rfl).2.trans f_v1_1) pof (hx_afS hM gpqo rfl af_pqo) pdf (hx_afS hM gpqd rfl af_pqd) psm (hx_afS hM gpqs rfl af_pqs) pkf (hx_afS hM gpqk rfl af_pqk) pst (hx_afS hM gpqt rfl af_pqt) od ((hM.o gx trivial rfl).1.trans f_x_13) sei ((hM.o gx trivial rfl).1.trans f_x_16) gd ((hM.o gx trivial rfl).1.trans f_x_17) nm ((hM.o gx trivial rfl).1.trans f_x_0) n0 ((hM.o gv1 trivial rfl).1.trans f_v1_0) ⟨?o7, ?o8⟩ hps) (cwV 3 hts (hx_gV kw_876 kw_873 kw_874 kw_875 kw_110) rfl rfl rfl (by decide +kernel) ⟨Nat.le_of_ble_eq_true rfl, Nat.le_of_ble_eq_true rfl⟩) rfl hl.1 rfl (Nat.le_of_ble_eq_true rfl) dX2_balanceOn_20 ⟨Nat.le_of_ble_eq_true rfl, Nat.le_of_ble_eq_true rfl⟩) hW (fun r_14 L_12 h_13 H locs p_15 hW => ?_)
    case o7 => omega
    case o8 => omega
    obtain ⟨hr_16, hT, hs⟩ := p_15
    replace hT : hx_T T_tb L_12 h_13 := hT
    replace hs : hx_S T_tb [] L_7 h_8 L_12 h_13 := hs
    replace hM := hM.tr (hs.mono ?o9)
    case o9 => decide
    refine lv_isub hx hb dX2_balanceOn_23 ?_
    have rg_17 := i32_r r_9
    have rg_18 := i32_r r_14
    refine lv_topi (fun x_19 ex_19 => ?_)
    have zx_19 : x_19.toInt = r_9.toInt - r_14.toInt := ?o10
    case o10 =>
      rw [ex_19]
      refine i32_sub rfl rfl ?o11 ?o12
      case o11 => omega
      case o12 => omega
    refine lv_goto (tgt := 28) hx hb dX2_balanceOn_24 ?o13 ?_
    case o13 => decide
    refine hx_reti hx hb hr hlk hW ⟨⟨(by unfold hz_bl; (repeat' split) <;> omega), ?o14, ?o15⟩, hT, hM⟩ dX2_balanceOn_28
    case o14 => omega
    case o15 => omega


set_option maxHeartbeats 4000000 in
set_option maxRecDepth 100000 in
theorem t_X2_restOn_v (l : Launch) (dC : Nat → ClassId) (dI : Nat → Nat → Nat) (dA : Nat → ClassId) (L : List Nat) (h : hx_h) (sz : Nat) (x : Nat) (v1 : Nat) (i1 : Int32) (i2 : Int32) (hT : hx_T T_tb L h) (gx : hx_g L h x 2) (gv1 : hx_g L h v1 3) (pqo : Nat) (gpqo : hx_g L h pqo 23) (f_v1_2 : h.2.2 v1 2 = some pqo) (pqd : Nat) (gpqd : hx_g L h pqd 24) (f_v1_3 : h.2.2 v1 3 = some pqd) (pqs : Nat) (gpqs : hx_g L h pqs 26) (f_v1_5 : h.2.2 v1 5 = some pqs) (pqk : Nat) (gpqk : hx_g L h pqk 25) (f_v1_4 : h.2.2 v1 4 = some pqk) (pqt : Nat) (gpqt : hx_g L h pqt 22) (f_v1_1 : h.2.2 v1 1 = some pqt) (qac : Nat) (gqac : hx_g L h qac 0) (f_x_3 : h.2.2 x 3 = some qac) (qt : Nat) (gqt : hx_g L h qt 11) (f_qac_2 : h.2.2 qac 2 = some qt) (pof : Nat → Int32) (af_pqo : h.2.1 pqo = pof) (pdf : Nat → Int32) (af_pqd : h.2.1 pqd = pdf) (psm : Nat → Int32) (af_pqs : h.2.1 pqs = psm) (pkf : Nat → Int32) (af_pqk : h.2.1 pqk = pkf) (pst : Nat → Int32) (af_pqt : h.2.1 pqt = pst) (tf : Nat → Int32) (af_qt : h.2.1 qt = tf) (od : Int32) (f_x_13 : h.2.1 x 13 = od) (sei : Int32) (f_x_16 : h.2.1 x 16 = sei) (gd : Int32) (f_x_17 : h.2.1 x 17 = gd) (ow : Int32) (f_x_15 : h.2.1 x 15 = ow) (sv : Int32) (f_x_18 : h.2.1 x 18 = sv) (nm : Int32) (f_x_0 : h.2.1 x 0 = nm) (n0 : Int32) (f_v1_0 : h.2.1 v1 0 = n0) (R : Nat → Int) (hR : hv_rC tf = R) (hRb : ∀ k, 0 ≤ R k ∧ R k ≤ 9999) (how : 0 ≤ ow.toInt ∧ ow.toInt ≤ 600000) (hgd : 0 ≤ gd.toInt ∧ gd.toInt ≤ 9999) (hps : ∀ j, j < 600 → 0 ≤ (psm j).toInt ∧ (psm j).toInt ≤ 610000) : Met l yX2_restOn (Cond.code yX2_restOn cX2_restOn 4 (some .int) :: hx_all) ({ frames := 3, cells := 0, slots := 0, locals := 73 }) (va_Pc [.ref x, .ref v1, .int i1, .int i2] (hx_B T_tb (P_ty dA) (dC, dI) vwCl L h sz)) (va_Qi (fun (r : Int32) (u : List Nat × hx_h) => (r.toInt = hz_rs sv.toInt (hz_bl od.toInt sei.toInt gd.toInt ow.toInt (R 12) i1.toInt (hx_ps pof pdf psm pkf pst i1.toInt i2.toInt nm.toInt n0.toInt.toNat)) i1.toInt ∧ (0 ≤ r.toInt ∧ r.toInt ≤ 609999)) ∧ hx_T T_tb u.1 u.2 ∧ hx_S T_tb [] L h u.1 u.2) (hx_E T_tb (P_ty dA) (dC, dI) vwCl (hx_A L sz)) (hx_A L sz)) 0 0 (hx_A L sz) := by
  refine hx_met (lv := [(0, .ref x), (1, .ref v1), (2, .int i1), (3, .int i2)]) (by decide +kernel) rfl (Nat.le_of_ble_eq_true rfl) rfl ?_
  intro p e s m below meth c hx hb hml hr hlk hts0 hown hin hsz hW ls hl
  have hts : ∀ w ∈ hx_all, w.before _ s = true := fun w hw => hts0 w (List.mem_cons_of_mem _ hw)
  have hown : s.vm.findClass "SmallCourt$Claim" = some m.cls := hown
  have hM : hx_S T_tb [] L h L h := hx_S.rf
  have b_od := hT.gi gx tt_2 (k := 13) rfl
  rw [f_x_13] at b_od
  have b_od : -2147483648 ≤ od.toInt ∧ od.toInt ≤ 2147483647 := b_od
  have b_sei := hT.gi gx tt_2 (k := 16) rfl
  rw [f_x_16] at b_sei
  have b_sei : -2147483648 ≤ sei.toInt ∧ sei.toInt ≤ 2147483647 := b_sei
  have b_gd := hT.gi gx tt_2 (k := 17) rfl
  rw [f_x_17] at b_gd
  have b_gd : -2147483648 ≤ gd.toInt ∧ gd.toInt ≤ 2147483647 := b_gd
  have b_ow := hT.gi gx tt_2 (k := 15) rfl
  rw [f_x_15] at b_ow
  have b_ow : -2147483648 ≤ ow.toInt ∧ ow.toInt ≤ 2147483647 := b_ow
  have b_sv := hT.gi gx tt_2 (k := 18) rfl
  rw [f_x_18] at b_sv
  have b_sv : -2147483648 ≤ sv.toInt ∧ sv.toInt ≤ 2147483647 := b_sv
  have b_nm := hT.gi gx tt_2 (k := 0) rfl
  rw [f_x_0] at b_nm
  have b_nm : 0 ≤ nm.toInt ∧ nm.toInt ≤ 99 := b_nm
  have b_n0 := hT.gi gv1 tt_3 (k := 0) rfl
  rw [f_v1_0] at b_n0
  have b_n0 : 0 ≤ n0.toInt ∧ n0.toInt ≤ 600 := b_n0
  refine lv_aload_n hx hb dX2_restOn_0 rfl (lv_at hl 0 rfl) ?_
  refine hk_geti hx hb hts hC_2 hown hW (gx.S hM) tt_2 18 ?o0 rfl kw_762 ⟨rfl, rfl, rfl⟩ ((hM.o gx trivial rfl).1.trans f_x_18) dX2_restOn_1 ?_
  case o0 => decide
  refine lv_iload_n hx hb dX2_restOn_4 rfl (lv_at hl 2 rfl) ?_
  refine hx_goi (hx_runS (As := [.int sv, .int i1]) (rest := []) ⟨hx, hb, hml, hown, hts⟩ hW (t_X2_isDone_v l dC dI dA L h s.heap.size sv i1 hT) (va_cwS 2 hts (hx_gS kw_864 kw_862 kw_863 kw_110) rfl rfl rfl (by decide +kernel) ⟨Nat.le_of_ble_eq_true rfl, Nat.le_of_ble_eq_true rfl⟩) rfl hl.1 rfl (Nat.le_of_ble_eq_true rfl) dX2_restOn_5 ⟨Nat.le_of_ble_eq_true rfl, Nat.le_of_ble_eq_true rfl⟩) hW (fun r_3 L_1 h_2 H locs p_4 hW => ?_)
  obtain ⟨hr_5, hT, hs⟩ := p_4
  replace hT : hx_T T_tb L_1 h_2 := hT
  replace hs : hx_S T_tb [] L h L_1 h_2 := hs
  replace hM := hM.tr (hs.mono ?o1)
  case o1 => decide
  refine hb_if_eq (zx := r_3.toInt) (tgt := 15) hx hb rfl dX2_restOn_8 ?o2 (fun c_6 => ?_) (fun c_6 => ?_)
  case o2 => decide
  · skip
    replace hr_5 := hr_5.resolve_left (fun z => by have := z.1; omega)
    refine lv_iconst (v := 0) hx hb dX2_restOn_15 ?o3 ?_
    case o3 => decide
    refine lv_aload_n hx hb dX2_restOn_16 rfl (lv_at hl 0 rfl) ?_
    refine lv_aload_n hx hb dX2_restOn_17 rfl (lv_at hl 1 rfl) ?_
    refine lv_iload_n hx hb dX2_restOn_18 rfl (lv_at hl 2 rfl) ?_
    refine lv_iload_n hx hb dX2_restOn_19 rfl (lv_at hl 3 rfl) ?_
    have zc_0 : (0 : Int32).toInt = 0 := ?o4
    case o4 => decide
    refine hx_goi (hx_runV (As := [.ref v1, .int i1, .int i2]) (rest := [.int (0 : Int32)]) ⟨hx, hb, hml, hown, hts⟩ hW (gx.S hM) tt_2 (T := TX2) (N := 19) rfl (t_X2_balanceOn_v l dC dI dA L_1 h_2 H.size x v1 i1 i2 hT (gx.S hM) (gv1.S hM) pqo (gpqo.S hM) ((hM.o gv1 trivial rfl).2.trans f_v1_2) pqd (gpqd.S hM) ((hM.o gv1 trivial rfl).2.trans f_v1_3) pqs (gpqs.S hM) ((hM.o gv1 trivial rfl).2.trans f_v1_5) pqk (gpqk.S hM) ((hM.o gv1 trivial rfl).2.trans f_v1_4) pqt (gpqt.S hM) ((hM.o gv1 trivial rfl).2.trans f_v1_1) qac (gqac.S hM) ((hM.o gx trivial rfl).2.trans f_x_3) qt (gqt.S hM) ((hM.o gqac trivial rfl).2.trans f_qac_2) pof (hx_afS hM gpqo rfl af_pqo) pdf (hx_afS hM gpqd rfl af_pqd) psm (hx_afS hM gpqs rfl af_pqs) pkf (hx_afS hM gpqk rfl af_pqk) pst (hx_afS hM gpqt rfl af_pqt) tf (hx_afS hM gqt rfl af_qt) od ((hM.o gx trivial rfl).1.trans f_x_13) sei ((hM.o gx trivial rfl).1.trans f_x_16) gd ((hM.o gx trivial rfl).1.trans f_x_17) ow ((hM.o gx trivial rfl).1.trans f_x_15) nm ((hM.o gx trivial rfl).1.trans f_x_0) n0 ((hM.o gv1 trivial rfl).1.trans f_v1_0) R hR hRb ⟨?o5, ?o6⟩ ⟨?o7, ?o8⟩ hps) (cwV 3 hts (hx_gV kw_868 kw_865 kw_866 kw_867 kw_110) rfl rfl rfl (by decide +kernel) ⟨Nat.le_of_ble_eq_true rfl, Nat.le_of_ble_eq_true rfl⟩) rfl hl.1 rfl (Nat.le_of_ble_eq_true rfl) dX2_restOn_20 ⟨Nat.le_of_ble_eq_true rfl, Nat.le_of_ble_eq_true rfl⟩) hW (fun r_9 L_7 h_8 H locs p_10 hW => ?_)
    case o5 => omega
    case o6 => omega
    case o7 => omega
    case o8 => omega
    obtain ⟨hr_11, hT, hs⟩ := p_10
    replace hT : hx_T T_tb L_7 h_8 := hT
    replace hs : hx_S T_tb [] L_1 h_2 L_7 h_8 := hs
    replace hM := hM.tr (hs.mono ?o9)
    case o9 => decide
    refine va_mmax hx hb (hml.trans hl.1.symm) hown (hts _ kw_881) (hts _ kw_882) (hts _ kw_109) (hts _ kw_883) (Nat.le_of_ble_eq_true rfl) (Nat.le_of_ble_eq_true rfl) (Nat.le_of_ble_eq_true rfl) (Nat.le_of_ble_eq_true rfl) dX2_restOn_23 ?_
    refine lv_topi (fun x_12 ex_12 => ?_)
    have hmx9 := hz_mx_e ex_12; rw [show (0 : Int32).toInt = 0 from by decide] at hmx9
    refine hx_reti hx hb hr hlk hW ⟨⟨(by unfold hz_rs; (repeat' split) <;> omega), ?o10, ?o11⟩, hT, hM⟩ dX2_restOn_26
    case o10 => omega
    case o11 => omega
  · skip
    replace hr_5 := hr_5.resolve_right (fun z => by have := z.1; omega)
    refine lv_iconst (v := 0) hx hb dX2_restOn_11 ?o12 ?_
    case o12 => decide
    refine lv_goto (tgt := 26) hx hb dX2_restOn_12 ?o13 ?_
    case o13 => decide
    exact hx_reti hx hb hr hlk hW ⟨(by have zr : (0 : Int32).toInt = 0 := (by decide); exact ⟨(by unfold hz_rs; (repeat' split) <;> omega), by omega, by omega⟩), hT, hM⟩ dX2_restOn_26


set_option maxHeartbeats 4000000 in
set_option maxRecDepth 100000 in
theorem t_X2_overOn_v (l : Launch) (dC : Nat → ClassId) (dI : Nat → Nat → Nat) (dA : Nat → ClassId) (L : List Nat) (h : hx_h) (sz : Nat) (x : Nat) (v1 : Nat) (i1 : Int32) (i2 : Int32) (hT : hx_T T_tb L h) (gx : hx_g L h x 2) (gv1 : hx_g L h v1 3) (pqo : Nat) (gpqo : hx_g L h pqo 23) (f_v1_2 : h.2.2 v1 2 = some pqo) (pqd : Nat) (gpqd : hx_g L h pqd 24) (f_v1_3 : h.2.2 v1 3 = some pqd) (pqs : Nat) (gpqs : hx_g L h pqs 26) (f_v1_5 : h.2.2 v1 5 = some pqs) (pqk : Nat) (gpqk : hx_g L h pqk 25) (f_v1_4 : h.2.2 v1 4 = some pqk) (pqt : Nat) (gpqt : hx_g L h pqt 22) (f_v1_1 : h.2.2 v1 1 = some pqt) (qac : Nat) (gqac : hx_g L h qac 0) (f_x_3 : h.2.2 x 3 = some qac) (qt : Nat) (gqt : hx_g L h qt 11) (f_qac_2 : h.2.2 qac 2 = some qt) (pof : Nat → Int32) (af_pqo : h.2.1 pqo = pof) (pdf : Nat → Int32) (af_pqd : h.2.1 pqd = pdf) (psm : Nat → Int32) (af_pqs : h.2.1 pqs = psm) (pkf : Nat → Int32) (af_pqk : h.2.1 pqk = pkf) (pst : Nat → Int32) (af_pqt : h.2.1 pqt = pst) (tf : Nat → Int32) (af_qt : h.2.1 qt = tf) (od : Int32) (f_x_13 : h.2.1 x 13 = od) (sei : Int32) (f_x_16 : h.2.1 x 16 = sei) (gd : Int32) (f_x_17 : h.2.1 x 17 = gd) (ow : Int32) (f_x_15 : h.2.1 x 15 = ow) (sv : Int32) (f_x_18 : h.2.1 x 18 = sv) (nm : Int32) (f_x_0 : h.2.1 x 0 = nm) (n0 : Int32) (f_v1_0 : h.2.1 v1 0 = n0) (R : Nat → Int) (hR : hv_rC tf = R) (hRb : ∀ k, 0 ≤ R k ∧ R k ≤ 9999) (how : 0 ≤ ow.toInt ∧ ow.toInt ≤ 600000) (hgd : 0 ≤ gd.toInt ∧ gd.toInt ≤ 9999) (hps : ∀ j, j < 600 → 0 ≤ (psm j).toInt ∧ (psm j).toInt ≤ 610000) : Met l yX2_overOn (Cond.code yX2_overOn cX2_overOn 4 (some .int) :: hx_all) ({ frames := 3, cells := 0, slots := 0, locals := 73 }) (va_Pc [.ref x, .ref v1, .int i1, .int i2] (hx_B T_tb (P_ty dA) (dC, dI) vwCl L h sz)) (va_Qi (fun (r : Int32) (u : List Nat × hx_h) => (r.toInt = hz_ov sv.toInt (hz_bl od.toInt sei.toInt gd.toInt ow.toInt (R 12) i1.toInt (hx_ps pof pdf psm pkf pst i1.toInt i2.toInt nm.toInt n0.toInt.toNat)) i1.toInt ∧ (0 ≤ r.toInt ∧ r.toInt ≤ 366100000)) ∧ hx_T T_tb u.1 u.2 ∧ hx_S T_tb [] L h u.1 u.2) (hx_E T_tb (P_ty dA) (dC, dI) vwCl (hx_A L sz)) (hx_A L sz)) 0 0 (hx_A L sz) := by
  refine hx_met (lv := [(0, .ref x), (1, .ref v1), (2, .int i1), (3, .int i2)]) (by decide +kernel) rfl (Nat.le_of_ble_eq_true rfl) rfl ?_
  intro p e s m below meth c hx hb hml hr hlk hts0 hown hin hsz hW ls hl
  have hts : ∀ w ∈ hx_all, w.before _ s = true := fun w hw => hts0 w (List.mem_cons_of_mem _ hw)
  have hown : s.vm.findClass "SmallCourt$Claim" = some m.cls := hown
  have hM : hx_S T_tb [] L h L h := hx_S.rf
  have b_od := hT.gi gx tt_2 (k := 13) rfl
  rw [f_x_13] at b_od
  have b_od : -2147483648 ≤ od.toInt ∧ od.toInt ≤ 2147483647 := b_od
  have b_sei := hT.gi gx tt_2 (k := 16) rfl
  rw [f_x_16] at b_sei
  have b_sei : -2147483648 ≤ sei.toInt ∧ sei.toInt ≤ 2147483647 := b_sei
  have b_gd := hT.gi gx tt_2 (k := 17) rfl
  rw [f_x_17] at b_gd
  have b_gd : -2147483648 ≤ gd.toInt ∧ gd.toInt ≤ 2147483647 := b_gd
  have b_ow := hT.gi gx tt_2 (k := 15) rfl
  rw [f_x_15] at b_ow
  have b_ow : -2147483648 ≤ ow.toInt ∧ ow.toInt ≤ 2147483647 := b_ow
  have b_sv := hT.gi gx tt_2 (k := 18) rfl
  rw [f_x_18] at b_sv
  have b_sv : -2147483648 ≤ sv.toInt ∧ sv.toInt ≤ 2147483647 := b_sv
  have b_nm := hT.gi gx tt_2 (k := 0) rfl
  rw [f_x_0] at b_nm
  have b_nm : 0 ≤ nm.toInt ∧ nm.toInt ≤ 99 := b_nm
  have b_n0 := hT.gi gv1 tt_3 (k := 0) rfl
  rw [f_v1_0] at b_n0
  have b_n0 : 0 ≤ n0.toInt ∧ n0.toInt ≤ 600 := b_n0
  refine lv_aload_n hx hb dX2_overOn_0 rfl (lv_at hl 0 rfl) ?_
  refine hk_geti hx hb hts hC_2 hown hW (gx.S hM) tt_2 18 ?o0 rfl kw_762 ⟨rfl, rfl, rfl⟩ ((hM.o gx trivial rfl).1.trans f_x_18) dX2_overOn_1 ?_
  case o0 => decide
  refine lv_iload_n hx hb dX2_overOn_4 rfl (lv_at hl 2 rfl) ?_
  refine hx_goi (hx_runS (As := [.int sv, .int i1]) (rest := []) ⟨hx, hb, hml, hown, hts⟩ hW (t_X2_isDone_v l dC dI dA L h s.heap.size sv i1 hT) (va_cwS 2 hts (hx_gS kw_864 kw_862 kw_863 kw_110) rfl rfl rfl (by decide +kernel) ⟨Nat.le_of_ble_eq_true rfl, Nat.le_of_ble_eq_true rfl⟩) rfl hl.1 rfl (Nat.le_of_ble_eq_true rfl) dX2_overOn_5 ⟨Nat.le_of_ble_eq_true rfl, Nat.le_of_ble_eq_true rfl⟩) hW (fun r_3 L_1 h_2 H locs p_4 hW => ?_)
  obtain ⟨hr_5, hT, hs⟩ := p_4
  replace hT : hx_T T_tb L_1 h_2 := hT
  replace hs : hx_S T_tb [] L h L_1 h_2 := hs
  replace hM := hM.tr (hs.mono ?o1)
  case o1 => decide
  refine hb_if_eq (zx := r_3.toInt) (tgt := 15) hx hb rfl dX2_overOn_8 ?o2 (fun c_6 => ?_) (fun c_6 => ?_)
  case o2 => decide
  · skip
    replace hr_5 := hr_5.resolve_left (fun z => by have := z.1; omega)
    refine lv_iconst (v := 0) hx hb dX2_overOn_15 ?o3 ?_
    case o3 => decide
    refine lv_aload_n hx hb dX2_overOn_16 rfl (lv_at hl 0 rfl) ?_
    refine lv_aload_n hx hb dX2_overOn_17 rfl (lv_at hl 1 rfl) ?_
    refine lv_iload_n hx hb dX2_overOn_18 rfl (lv_at hl 2 rfl) ?_
    refine lv_iload_n hx hb dX2_overOn_19 rfl (lv_at hl 3 rfl) ?_
    have zc_0 : (0 : Int32).toInt = 0 := ?o4
    case o4 => decide
    refine hx_goi (hx_runV (As := [.ref v1, .int i1, .int i2]) (rest := [.int (0 : Int32)]) ⟨hx, hb, hml, hown, hts⟩ hW (gx.S hM) tt_2 (T := TX2) (N := 19) rfl (t_X2_balanceOn_v l dC dI dA L_1 h_2 H.size x v1 i1 i2 hT (gx.S hM) (gv1.S hM) pqo (gpqo.S hM) ((hM.o gv1 trivial rfl).2.trans f_v1_2) pqd (gpqd.S hM) ((hM.o gv1 trivial rfl).2.trans f_v1_3) pqs (gpqs.S hM) ((hM.o gv1 trivial rfl).2.trans f_v1_5) pqk (gpqk.S hM) ((hM.o gv1 trivial rfl).2.trans f_v1_4) pqt (gpqt.S hM) ((hM.o gv1 trivial rfl).2.trans f_v1_1) qac (gqac.S hM) ((hM.o gx trivial rfl).2.trans f_x_3) qt (gqt.S hM) ((hM.o gqac trivial rfl).2.trans f_qac_2) pof (hx_afS hM gpqo rfl af_pqo) pdf (hx_afS hM gpqd rfl af_pqd) psm (hx_afS hM gpqs rfl af_pqs) pkf (hx_afS hM gpqk rfl af_pqk) pst (hx_afS hM gpqt rfl af_pqt) tf (hx_afS hM gqt rfl af_qt) od ((hM.o gx trivial rfl).1.trans f_x_13) sei ((hM.o gx trivial rfl).1.trans f_x_16) gd ((hM.o gx trivial rfl).1.trans f_x_17) ow ((hM.o gx trivial rfl).1.trans f_x_15) nm ((hM.o gx trivial rfl).1.trans f_x_0) n0 ((hM.o gv1 trivial rfl).1.trans f_v1_0) R hR hRb ⟨?o5, ?o6⟩ ⟨?o7, ?o8⟩ hps) (cwV 3 hts (hx_gV kw_868 kw_865 kw_866 kw_867 kw_110) rfl rfl rfl (by decide +kernel) ⟨Nat.le_of_ble_eq_true rfl, Nat.le_of_ble_eq_true rfl⟩) rfl hl.1 rfl (Nat.le_of_ble_eq_true rfl) dX2_overOn_20 ⟨Nat.le_of_ble_eq_true rfl, Nat.le_of_ble_eq_true rfl⟩) hW (fun r_9 L_7 h_8 H locs p_10 hW => ?_)
    case o5 => omega
    case o6 => omega
    case o7 => omega
    case o8 => omega
    obtain ⟨hr_11, hT, hs⟩ := p_10
    replace hT : hx_T T_tb L_7 h_8 := hT
    replace hs : hx_S T_tb [] L_1 h_2 L_7 h_8 := hs
    replace hM := hM.tr (hs.mono ?o9)
    case o9 => decide
    refine lv_ineg hx hb dX2_overOn_23 ?_
    refine lv_topi (fun x_12 ex_12 => ?_)
    have zn9 := hz_neg ex_12 ?o10
    case o10 => omega
    refine va_mmax hx hb (hml.trans hl.1.symm) hown (hts _ kw_881) (hts _ kw_882) (hts _ kw_109) (hts _ kw_883) (Nat.le_of_ble_eq_true rfl) (Nat.le_of_ble_eq_true rfl) (Nat.le_of_ble_eq_true rfl) (Nat.le_of_ble_eq_true rfl) dX2_overOn_24 ?_
    refine lv_topi (fun x_13 ex_13 => ?_)
    have hmx9 := hz_mx_e ex_13; rw [show (0 : Int32).toInt = 0 from by decide] at hmx9
    refine hx_reti hx hb hr hlk hW ⟨⟨(by unfold hz_ov; (repeat' split) <;> omega), ?o11, ?o12⟩, hT, hM⟩ dX2_overOn_27
    case o11 => omega
    case o12 => omega
  · skip
    replace hr_5 := hr_5.resolve_right (fun z => by have := z.1; omega)
    refine lv_iconst (v := 0) hx hb dX2_overOn_11 ?o13 ?_
    case o13 => decide
    refine lv_goto (tgt := 27) hx hb dX2_overOn_12 ?o14 ?_
    case o14 => decide
    exact hx_reti hx hb hr hlk hW ⟨(by have zr : (0 : Int32).toInt = 0 := (by decide); exact ⟨(by unfold hz_ov; (repeat' split) <;> omega), by omega, by omega⟩), hT, hM⟩ dX2_overOn_27


set_option maxHeartbeats 4000000 in
set_option maxRecDepth 100000 in
theorem t_X2_missedOn_v (l : Launch) (dC : Nat → ClassId) (dI : Nat → Nat → Nat) (dA : Nat → ClassId) (L : List Nat) (h : hx_h) (sz : Nat) (b0 : hx_z) (x : Nat) (v1 : Nat) (i1 : Int32) (i2 : Int32) (hT : hx_T T_tb L h) (gx : hx_g L h x 2) (gv1 : hx_g L h v1 3) (pqo : Nat) (gpqo : hx_g L h pqo 23) (f_v1_2 : h.2.2 v1 2 = some pqo) (pqd : Nat) (gpqd : hx_g L h pqd 24) (f_v1_3 : h.2.2 v1 3 = some pqd) (pqs : Nat) (gpqs : hx_g L h pqs 26) (f_v1_5 : h.2.2 v1 5 = some pqs) (pqk : Nat) (gpqk : hx_g L h pqk 25) (f_v1_4 : h.2.2 v1 4 = some pqk) (pqt : Nat) (gpqt : hx_g L h pqt 22) (f_v1_1 : h.2.2 v1 1 = some pqt) (qac : Nat) (gqac : hx_g L h qac 0) (f_x_3 : h.2.2 x 3 = some qac) (qt : Nat) (gqt : hx_g L h qt 11) (f_qac_2 : h.2.2 qac 2 = some qt) (pof : Nat → Int32) (af_pqo : h.2.1 pqo = pof) (pdf : Nat → Int32) (af_pqd : h.2.1 pqd = pdf) (psm : Nat → Int32) (af_pqs : h.2.1 pqs = psm) (pkf : Nat → Int32) (af_pqk : h.2.1 pqk = pkf) (pst : Nat → Int32) (af_pqt : h.2.1 pqt = pst) (tf : Nat → Int32) (af_qt : h.2.1 qt = tf) (od : Int32) (f_x_13 : h.2.1 x 13 = od) (wk : Int32) (f_x_14 : h.2.1 x 14 = wk) (ow : Int32) (f_x_15 : h.2.1 x 15 = ow) (sei : Int32) (f_x_16 : h.2.1 x 16 = sei) (gd : Int32) (f_x_17 : h.2.1 x 17 = gd) (sv : Int32) (f_x_18 : h.2.1 x 18 = sv) (nm : Int32) (f_x_0 : h.2.1 x 0 = nm) (n0 : Int32) (f_v1_0 : h.2.1 v1 0 = n0) (R : Nat → Int) (hR : hv_rC tf = R) (hRb : ∀ k, 0 ≤ R k ∧ R k ≤ 9999) (hod : -1 ≤ od.toInt ∧ od.toInt ≤ 7999) (hwk : 0 ≤ wk.toInt ∧ wk.toInt ≤ 9999) (how : 0 ≤ ow.toInt ∧ ow.toInt ≤ 600000) (hgd : 0 ≤ gd.toInt ∧ gd.toInt ≤ 9999) (hps : ∀ j, j < 600 → 0 ≤ (psm j).toInt ∧ (psm j).toInt ≤ 610000) (hi1 : 0 ≤ i1.toInt ∧ i1.toInt ≤ 7999) : Met l yX2_missedOn (Cond.code yX2_missedOn cX2_missedOn 5 (some .int) :: hx_all) ({ frames := 2, cells := 0, slots := 0, locals := 50 }) (va_Pc [.ref x, .ref v1, .int i1, .int i2] (hx_BX T_tb (P_ty dA) (dC, dI) vwCl L h sz b0)) (va_Qi (fun (r : Int32) (u : List Nat × hx_h) => (r.toInt = hz_ms od.toInt sv.toInt wk.toInt (hz_al ow.toInt sei.toInt (R 12) i1.toInt) (hz_pdy od.toInt sei.toInt gd.toInt i1.toInt (hx_ps pof pdf psm pkf pst i1.toInt i2.toInt nm.toInt n0.toInt.toNat)) i1.toInt ∧ (0 ≤ r.toInt ∧ r.toInt ≤ 609999)) ∧ hx_T T_tb u.1 u.2 ∧ hx_S T_tb [] L h u.1 u.2) (hx_E T_tb (P_ty dA) (dC, dI) vwCl (hx_A L sz)) (hx_A L sz)) 0 0 (hx_A L sz) := by
  refine hx_metX (lv := [(0, .ref x), (1, .ref v1), (2, .int i1), (3, .int i2)]) (by decide +kernel) rfl (Nat.le_of_ble_eq_true rfl) rfl ?_
  intro p e s m below meth c hx hb hml hr hlk hts0 hown hin hsz hW hZ ls hl
  have hts : ∀ w ∈ hx_all, w.before _ s = true := fun w hw => hts0 w (List.mem_cons_of_mem _ hw)
  have hown : s.vm.findClass "SmallCourt$Claim" = some m.cls := hown
  have hM : hx_S T_tb [] L h L h := hx_S.rf
  have b_od := hT.gi gx tt_2 (k := 13) rfl
  rw [f_x_13] at b_od
  have b_od : -2147483648 ≤ od.toInt ∧ od.toInt ≤ 2147483647 := b_od
  have b_wk := hT.gi gx tt_2 (k := 14) rfl
  rw [f_x_14] at b_wk
  have b_wk : -2147483648 ≤ wk.toInt ∧ wk.toInt ≤ 2147483647 := b_wk
  have b_ow := hT.gi gx tt_2 (k := 15) rfl
  rw [f_x_15] at b_ow
  have b_ow : -2147483648 ≤ ow.toInt ∧ ow.toInt ≤ 2147483647 := b_ow
  have b_sei := hT.gi gx tt_2 (k := 16) rfl
  rw [f_x_16] at b_sei
  have b_sei : -2147483648 ≤ sei.toInt ∧ sei.toInt ≤ 2147483647 := b_sei
  have b_gd := hT.gi gx tt_2 (k := 17) rfl
  rw [f_x_17] at b_gd
  have b_gd : -2147483648 ≤ gd.toInt ∧ gd.toInt ≤ 2147483647 := b_gd
  have b_sv := hT.gi gx tt_2 (k := 18) rfl
  rw [f_x_18] at b_sv
  have b_sv : -2147483648 ≤ sv.toInt ∧ sv.toInt ≤ 2147483647 := b_sv
  have b_nm := hT.gi gx tt_2 (k := 0) rfl
  rw [f_x_0] at b_nm
  have b_nm : 0 ≤ nm.toInt ∧ nm.toInt ≤ 99 := b_nm
  have b_n0 := hT.gi gv1 tt_3 (k := 0) rfl
  rw [f_v1_0] at b_n0
  have b_n0 : 0 ≤ n0.toInt ∧ n0.toInt ≤ 600 := b_n0
  refine lv_aload_n hx hb dX2_missedOn_0 rfl (lv_at hl 0 rfl) ?_
  refine hk_geti hx hb hts hC_2 hown hW (gx.S hM) tt_2 13 ?o0 rfl kw_752 ⟨rfl, rfl, rfl⟩ ((hM.o gx trivial rfl).1.trans f_x_13) dX2_missedOn_1 ?_
  case o0 => decide
  refine lv_iload_n hx hb dX2_missedOn_4 rfl (lv_at hl 2 rfl) ?_
  refine hx_goi (hx_runS (As := [.int od, .int i1]) (rest := []) ⟨hx, hb, hml, hown, hts⟩ hW (t_X2_isDone_v l dC dI dA L h s.heap.size od i1 hT) (va_cwS 2 hts (hx_gS kw_864 kw_862 kw_863 kw_110) rfl rfl rfl (by decide +kernel) ⟨Nat.le_of_ble_eq_true rfl, Nat.le_of_ble_eq_true rfl⟩) rfl hl.1 rfl (Nat.le_of_ble_eq_true rfl) dX2_missedOn_5 ⟨Nat.le_of_ble_eq_true rfl, Nat.le_of_ble_eq_true rfl⟩) hW (fun r_3 L_1 h_2 H locs p_4 hW => ?_)
  obtain ⟨hr_5, hT, hs⟩ := p_4
  replace hT : hx_T T_tb L_1 h_2 := hT
  replace hs : hx_S T_tb [] L h L_1 h_2 := hs
  replace hM := hM.tr (hs.mono ?o1)
  case o1 => decide
  refine hb_if_eq (zx := r_3.toInt) (tgt := 22) hx hb rfl dX2_missedOn_8 ?o2 (fun c_6 => ?_) (fun c_6 => ?_)
  case o2 => decide
  · skip
    refine lv_iconst (v := 0) hx hb dX2_missedOn_22 ?o3 ?_
    case o3 => decide
    exact hx_reti hx hb hr hlk hW ⟨(by have zr : (0 : Int32).toInt = 0 := (by decide); exact ⟨(by unfold hz_ms; rw [if_pos (by omega)]; omega), by omega, by omega⟩), hT, hM⟩ dX2_missedOn_23
  · skip
    replace hr_5 := hr_5.resolve_right (fun z => by have := z.1; omega)
    refine lv_aload_n hx hb dX2_missedOn_11 rfl (lv_at hl 0 rfl) ?_
    refine hk_geti hx hb hts hC_2 hown hW (gx.S hM) tt_2 18 ?o4 rfl kw_762 ⟨rfl, rfl, rfl⟩ ((hM.o gx trivial rfl).1.trans f_x_18) dX2_missedOn_12 ?_
    case o4 => decide
    refine lv_iload_n hx hb dX2_missedOn_15 rfl (lv_at hl 2 rfl) ?_
    refine hx_goi (hx_runS (As := [.int sv, .int i1]) (rest := []) ⟨hx, hb, hml, hown, hts⟩ hW (t_X2_isDone_v l dC dI dA L_1 h_2 H.size sv i1 hT) (va_cwS 2 hts (hx_gS kw_864 kw_862 kw_863 kw_110) rfl rfl rfl (by decide +kernel) ⟨Nat.le_of_ble_eq_true rfl, Nat.le_of_ble_eq_true rfl⟩) rfl hl.1 rfl (Nat.le_of_ble_eq_true rfl) dX2_missedOn_16 ⟨Nat.le_of_ble_eq_true rfl, Nat.le_of_ble_eq_true rfl⟩) hW (fun r_9 L_7 h_8 H locs p_10 hW => ?_)
    obtain ⟨hr_11, hT, hs⟩ := p_10
    replace hT : hx_T T_tb L_7 h_8 := hT
    replace hs : hx_S T_tb [] L_1 h_2 L_7 h_8 := hs
    replace hM := hM.tr (hs.mono ?o5)
    case o5 => decide
    refine hb_if_eq (zx := r_9.toInt) (tgt := 24) hx hb rfl dX2_missedOn_19 ?o6 (fun c_12 => ?_) (fun c_12 => ?_)
    case o6 => decide
    · skip
      replace hr_11 := hr_11.resolve_left (fun z => by have := z.1; omega)
      refine lv_aload_n hx hb dX2_missedOn_24 rfl (lv_at hl 0 rfl) ?_
      refine lv_iload_n hx hb dX2_missedOn_25 rfl (lv_at hl 2 rfl) ?_
      refine hx_goi (hx_runV (As := [.int i1]) (rest := []) ⟨hx, hb, hml, hown, hts⟩ hW (gx.S hM) tt_2 (T := TX2) (N := 19) rfl (t_X2_owedOn_v l dC dI dA L_7 h_8 H.size x i1 hT (gx.S hM) qac (gqac.S hM) ((hM.o gx trivial rfl).2.trans f_x_3) qt (gqt.S hM) ((hM.o gqac trivial rfl).2.trans f_qac_2) tf (hx_afS hM gqt rfl af_qt) sei ((hM.o gx trivial rfl).1.trans f_x_16) ow ((hM.o gx trivial rfl).1.trans f_x_15) R hR hRb ⟨?o7, ?o8⟩) (cwV 1 hts (hx_gV kw_872 kw_869 kw_871 kw_31 kw_110) rfl rfl rfl (by decide +kernel) ⟨Nat.le_of_ble_eq_true rfl, Nat.le_of_ble_eq_true rfl⟩) rfl hl.1 rfl (Nat.le_of_ble_eq_true rfl) dX2_missedOn_26 ⟨Nat.le_of_ble_eq_true rfl, Nat.le_of_ble_eq_true rfl⟩) hW (fun r_15 L_13 h_14 H locs p_16 hW => ?_)
      case o7 => omega
      case o8 => omega
      obtain ⟨hr_17, hT, hs⟩ := p_16
      replace hT : hx_T T_tb L_13 h_14 := hT
      replace hs : hx_S T_tb [] L_7 h_8 L_13 h_14 := hs
      replace hM := hM.tr (hs.mono ?o9)
      case o9 => decide
      refine lv_aload_n hx hb dX2_missedOn_29 rfl (lv_at hl 0 rfl) ?_
      refine hk_geti hx hb hts hC_2 hown hW (gx.S hM) tt_2 14 ?o10 rfl kw_754 ⟨rfl, rfl, rfl⟩ ((hM.o gx trivial rfl).1.trans f_x_14) dX2_missedOn_30 ?_
      case o10 => decide
      refine lv_iload_n hx hb dX2_missedOn_33 rfl (lv_at hl 2 rfl) ?_
      refine lv_aload_n hx hb dX2_missedOn_34 rfl (lv_at hl 0 rfl) ?_
      refine hk_geti hx hb hts hC_2 hown hW (gx.S hM) tt_2 13 ?o11 rfl kw_752 ⟨rfl, rfl, rfl⟩ ((hM.o gx trivial rfl).1.trans f_x_13) dX2_missedOn_35 ?_
      case o11 => decide
      refine lv_isub hx hb dX2_missedOn_38 ?_
      have rg_18 := i32_r i1
      have rg_19 := i32_r od
      refine lv_topi (fun x_20 ex_20 => ?_)
      have zx_20 : x_20.toInt = i1.toInt - od.toInt := ?o12
      case o12 =>
        rw [ex_20]
        refine i32_sub rfl rfl ?o13 ?o14
        case o13 => omega
        case o14 => omega
      refine lv_bipush (v := 7) hx hb dX2_missedOn_39 ?o15 ?_
      case o15 => decide
      refine lv_idiv hx hb dX2_missedOn_41 ?o16 ?_
      case o16 => decide
      refine lv_topi (fun x_21 ex_21 => ?_)
      have zx_21 : x_21.toInt = x_20.toInt / 7 := ?o17
      case o17 =>
        rw [ex_21, hx_dv (by omega) (by decide)]
        rfl
      refine lv_imul hx hb dX2_missedOn_42 ?_
      refine lv_topi (fun x_22 ex_22 => ?_)
      have mx_22 : wk.toInt = 0 → x_22.toInt = 0 := fun z => by rw [ex_22]; exact hx_mul0 z
      obtain ⟨m9, m9l, m9h⟩ := hz_mul ⟨by omega, by omega⟩ ⟨by omega, by omega⟩ ex_22
      refine va_mmin hx hb (hml.trans hl.1.symm) hown (hts _ kw_916) (hts _ kw_917) (hts _ kw_109) (hts _ kw_918) (Nat.le_of_ble_eq_true rfl) (Nat.le_of_ble_eq_true rfl) (Nat.le_of_ble_eq_true rfl) (Nat.le_of_ble_eq_true rfl) dX2_missedOn_43 ?_
      refine lv_topi (fun x_23 ex_23 => ?_)
      have hmi9 := hz_mi_e ex_23
      have hmb9 : 0 ≤ x_23.toInt ∧ x_23.toInt ≤ 609999 := by rw [hmi9]; unfold hz_mi; split <;> omega
      refine lv_istore (lv' := [(4, .int x_23), (0, .ref x), (1, .ref v1), (2, .int i1), (3, .int i2)]) hx hb dX2_missedOn_46 hl ?o18 rfl (fun ls hl => ?_)
      case o18 => decide
      refine lv_iload hx hb dX2_missedOn_48 (lv_at hl 0 rfl) ?_
      refine lv_aload_n hx hb dX2_missedOn_50 rfl (lv_at hl 1 rfl) ?_
      refine lv_aload_n hx hb dX2_missedOn_51 rfl (lv_at hl 2 rfl) ?_
      refine lv_iload_n hx hb dX2_missedOn_52 rfl (lv_at hl 3 rfl) ?_
      refine lv_iload_n hx hb dX2_missedOn_53 rfl (lv_at hl 4 rfl) ?_
      refine hx_goi (hx_runV (As := [.ref v1, .int i1, .int i2]) (rest := [.int x_23]) ⟨hx, hb, hml, hown, hts⟩ hW (gx.S hM) tt_2 (T := TX2) (N := 19) rfl (t_X2_paidOn_v l dC dI dA L_13 h_14 H.size x v1 i1 i2 hT (gx.S hM) (gv1.S hM) pqo (gpqo.S hM) ((hM.o gv1 trivial rfl).2.trans f_v1_2) pqd (gpqd.S hM) ((hM.o gv1 trivial rfl).2.trans f_v1_3) pqs (gpqs.S hM) ((hM.o gv1 trivial rfl).2.trans f_v1_5) pqk (gpqk.S hM) ((hM.o gv1 trivial rfl).2.trans f_v1_4) pqt (gpqt.S hM) ((hM.o gv1 trivial rfl).2.trans f_v1_1) pof (hx_afS hM gpqo rfl af_pqo) pdf (hx_afS hM gpqd rfl af_pqd) psm (hx_afS hM gpqs rfl af_pqs) pkf (hx_afS hM gpqk rfl af_pqk) pst (hx_afS hM gpqt rfl af_pqt) od ((hM.o gx trivial rfl).1.trans f_x_13) sei ((hM.o gx trivial rfl).1.trans f_x_16) gd ((hM.o gx trivial rfl).1.trans f_x_17) nm ((hM.o gx trivial rfl).1.trans f_x_0) n0 ((hM.o gv1 trivial rfl).1.trans f_v1_0) ⟨?o19, ?o20⟩ hps) (cwV 3 hts (hx_gV kw_876 kw_873 kw_874 kw_875 kw_110) rfl rfl rfl (by decide +kernel) ⟨Nat.le_of_ble_eq_true rfl, Nat.le_of_ble_eq_true rfl⟩) rfl hl.1 rfl (Nat.le_of_ble_eq_true rfl) dX2_missedOn_54 ⟨Nat.le_of_ble_eq_true rfl, Nat.le_of_ble_eq_true rfl⟩) hW (fun r_26 L_24 h_25 H locs p_27 hW => ?_)
      case o19 => omega
      case o20 => omega
      obtain ⟨hr_28, hT, hs⟩ := p_27
      replace hT : hx_T T_tb L_24 h_25 := hT
      replace hs : hx_S T_tb [] L_13 h_14 L_24 h_25 := hs
      replace hM := hM.tr (hs.mono ?o21)
      case o21 => decide
      refine lv_isub hx hb dX2_missedOn_57 ?_
      have rg_29 := i32_r x_23
      have rg_30 := i32_r r_26
      refine lv_topi (fun x_31 ex_31 => ?_)
      have zx_31 : x_31.toInt = x_23.toInt - r_26.toInt := ?o22
      case o22 =>
        rw [ex_31]
        refine i32_sub rfl rfl ?o23 ?o24
        case o23 => omega
        case o24 => omega
      refine lv_aload_n hx hb dX2_missedOn_58 rfl (lv_at hl 1 rfl) ?_
      refine hk_geti hx hb hts hC_2 hown hW (gx.S hM) tt_2 14 ?o25 rfl kw_754 ⟨rfl, rfl, rfl⟩ ((hM.o gx trivial rfl).1.trans f_x_14) dX2_missedOn_59 ?_
      case o25 => decide
      refine hx_goi (hx_runSN (As := [.int x_31, .int wk]) (rest := []) ⟨hx, hb, hml, hown, hts⟩ hW (t_X9_roundUp_v l dC dI dA L_24 h_25 H.size x_31 wk hT) ⟨va_cnB 2 hts (hx_gC kw_921) rfl rfl rfl (hZ.1 _ (List.mem_of_getElem? (i := 9) rfl)) (hts _ kw_94) (by decide +kernel) ⟨Nat.le_of_ble_eq_true rfl, Nat.le_of_ble_eq_true rfl⟩, hts _ kw_920, trivial⟩ rfl hl.1 rfl (Nat.le_of_ble_eq_true rfl) dX2_missedOn_62 ⟨Nat.le_of_ble_eq_true rfl, Nat.le_of_ble_eq_true rfl⟩) hW (fun r_34 L_32 h_33 H locs p_35 hW => ?_)
      obtain ⟨hr_36, hT, hs⟩ := p_35
      replace hT : hx_T T_tb L_32 h_33 := hT
      replace hs : hx_S T_tb [] L_24 h_25 L_32 h_33 := hs
      replace hM := hM.tr (hs.mono ?o26)
      case o26 => decide
      exact hx_reti hx hb hr hlk hW ⟨⟨(by unfold hz_ms; rw [if_neg (by omega), hr_36, zx_31, hmi9, m9, zx_21, zx_20, hr_17.1, hr_28.1]), (by rw [hr_36]; exact hz_ru_b.1), (by have h9 := (hz_ru_b (s := x_31.toInt) (b := wk.toInt)).2; rw [← hr_36] at h9; omega)⟩, hT, hM⟩ dX2_missedOn_65
    · skip
      refine lv_iconst (v := 0) hx hb dX2_missedOn_22 ?o27 ?_
      case o27 => decide
      exact hx_reti hx hb hr hlk hW ⟨(by have zr : (0 : Int32).toInt = 0 := (by decide); exact ⟨(by unfold hz_ms; rw [if_pos (by omega)]; omega), by omega, by omega⟩), hT, hM⟩ dX2_missedOn_23


set_option maxHeartbeats 4000000 in
set_option maxRecDepth 100000 in
theorem t_X2_stateAheadOfOrder_v (l : Launch) (dC : Nat → ClassId) (dI : Nat → Nat → Nat) (dA : Nat → ClassId) (L : List Nat) (h : hx_h) (sz : Nat) (x : Nat) (i1 : Int32) (hT : hx_T T_tb L h) (gx : hx_g L h x 2) (fo : Int32) (f_x_10 : h.2.1 x 10 = fo) (he : Int32) (f_x_11 : h.2.1 x 11 = he) (ju : Int32) (f_x_12 : h.2.1 x 12 = ju) : Met l yX2_stateAheadOfOrder (Cond.code yX2_stateAheadOfOrder cX2_stateAheadOfOrder 2 (some .int) :: hx_all) ({ frames := 1, cells := 0, slots := 0, locals := 21 }) (va_Pc [.ref x, .int i1] (hx_B T_tb (P_ty dA) (dC, dI) vwCl L h sz)) (va_Qi (fun (r : Int32) (u : List Nat × hx_h) => (r.toInt = hz_sa fo.toInt he.toInt ju.toInt i1.toInt ∧ (0 ≤ r.toInt ∧ r.toInt ≤ 3)) ∧ hx_T T_tb u.1 u.2 ∧ hx_S T_tb [] L h u.1 u.2) (hx_E T_tb (P_ty dA) (dC, dI) vwCl (hx_A L sz)) (hx_A L sz)) 0 0 (hx_A L sz) := by
  refine hx_met (lv := [(0, .ref x), (1, .int i1)]) (by decide +kernel) rfl (Nat.le_of_ble_eq_true rfl) rfl ?_
  intro p e s m below meth c hx hb hml hr hlk hts0 hown hin hsz hW ls hl
  have hts : ∀ w ∈ hx_all, w.before _ s = true := fun w hw => hts0 w (List.mem_cons_of_mem _ hw)
  have hown : s.vm.findClass "SmallCourt$Claim" = some m.cls := hown
  have hM : hx_S T_tb [] L h L h := hx_S.rf
  have b_fo := hT.gi gx tt_2 (k := 10) rfl
  rw [f_x_10] at b_fo
  have b_fo : -1 ≤ fo.toInt ∧ fo.toInt ≤ 7999 := b_fo
  have b_he := hT.gi gx tt_2 (k := 11) rfl
  rw [f_x_11] at b_he
  have b_he : -1 ≤ he.toInt ∧ he.toInt ≤ 7999 := b_he
  have b_ju := hT.gi gx tt_2 (k := 12) rfl
  rw [f_x_12] at b_ju
  have b_ju : 0 ≤ ju.toInt ∧ ju.toInt ≤ 5 := b_ju
  refine lv_aload_n hx hb dX2_stateAheadOfOrder_0 rfl (lv_at hl 0 rfl) ?_
  refine hk_geti hx hb hts hC_2 hown hW (gx.S hM) tt_2 11 ?o0 rfl kw_748 ⟨rfl, rfl, rfl⟩ ((hM.o gx trivial rfl).1.trans f_x_11) dX2_stateAheadOfOrder_1 ?_
  case o0 => decide
  refine lv_iload_n hx hb dX2_stateAheadOfOrder_4 rfl (lv_at hl 1 rfl) ?_
  refine hx_goi (hx_runS (As := [.int he, .int i1]) (rest := []) ⟨hx, hb, hml, hown, hts⟩ hW (t_X2_isDone_v l dC dI dA L h s.heap.size he i1 hT) (va_cwS 2 hts (hx_gS kw_864 kw_862 kw_863 kw_110) rfl rfl rfl (by decide +kernel) ⟨Nat.le_of_ble_eq_true rfl, Nat.le_of_ble_eq_true rfl⟩) rfl hl.1 rfl (Nat.le_of_ble_eq_true rfl) dX2_stateAheadOfOrder_5 ⟨Nat.le_of_ble_eq_true rfl, Nat.le_of_ble_eq_true rfl⟩) hW (fun r_3 L_1 h_2 H locs p_4 hW => ?_)
  obtain ⟨hr_5, hT, hs⟩ := p_4
  replace hT : hx_T T_tb L_1 h_2 := hT
  replace hs : hx_S T_tb [] L h L_1 h_2 := hs
  replace hM := hM.tr (hs.mono ?o1)
  case o1 => decide
  refine hb_if_eq (zx := r_3.toInt) (tgt := 25) hx hb rfl dX2_stateAheadOfOrder_8 ?o2 (fun c_6 => ?_) (fun c_6 => ?_)
  case o2 => decide
  · skip
    replace hr_5 := hr_5.resolve_left (fun z => by have := z.1; omega)
    refine lv_aload_n hx hb dX2_stateAheadOfOrder_25 rfl (lv_at hl 0 rfl) ?_
    refine hk_geti hx hb hts hC_2 hown hW (gx.S hM) tt_2 10 ?o3 rfl kw_746 ⟨rfl, rfl, rfl⟩ ((hM.o gx trivial rfl).1.trans f_x_10) dX2_stateAheadOfOrder_26 ?_
    case o3 => decide
    refine lv_iload_n hx hb dX2_stateAheadOfOrder_29 rfl (lv_at hl 1 rfl) ?_
    refine hx_goi (hx_runS (As := [.int fo, .int i1]) (rest := []) ⟨hx, hb, hml, hown, hts⟩ hW (t_X2_isDone_v l dC dI dA L_1 h_2 H.size fo i1 hT) (va_cwS 2 hts (hx_gS kw_864 kw_862 kw_863 kw_110) rfl rfl rfl (by decide +kernel) ⟨Nat.le_of_ble_eq_true rfl, Nat.le_of_ble_eq_true rfl⟩) rfl hl.1 rfl (Nat.le_of_ble_eq_true rfl) dX2_stateAheadOfOrder_30 ⟨Nat.le_of_ble_eq_true rfl, Nat.le_of_ble_eq_true rfl⟩) hW (fun r_9 L_7 h_8 H locs p_10 hW => ?_)
    obtain ⟨hr_11, hT, hs⟩ := p_10
    replace hT : hx_T T_tb L_7 h_8 := hT
    replace hs : hx_S T_tb [] L_1 h_2 L_7 h_8 := hs
    replace hM := hM.tr (hs.mono ?o4)
    case o4 => decide
    refine hb_if_eq (zx := r_9.toInt) (tgt := 40) hx hb rfl dX2_stateAheadOfOrder_33 ?o5 (fun c_12 => ?_) (fun c_12 => ?_)
    case o5 => decide
    · skip
      replace hr_11 := hr_11.resolve_left (fun z => by have := z.1; omega)
      refine lv_iconst (v := 0) hx hb dX2_stateAheadOfOrder_40 ?o6 ?_
      case o6 => decide
      exact hx_reti hx hb hr hlk hW ⟨(by have zr : (0 : Int32).toInt = 0 := (by decide); exact ⟨(by unfold hz_sa; (repeat' split) <;> omega), by omega, by omega⟩), hT, hM⟩ dX2_stateAheadOfOrder_41
    · skip
      replace hr_11 := hr_11.resolve_right (fun z => by have := z.1; omega)
      refine lv_iconst (v := 1) hx hb dX2_stateAheadOfOrder_36 ?o7 ?_
      case o7 => decide
      refine lv_goto (tgt := 41) hx hb dX2_stateAheadOfOrder_37 ?o8 ?_
      case o8 => decide
      exact hx_reti hx hb hr hlk hW ⟨(by have zr : (1 : Int32).toInt = 1 := (by decide); exact ⟨(by unfold hz_sa; (repeat' split) <;> omega), by omega, by omega⟩), hT, hM⟩ dX2_stateAheadOfOrder_41
  · skip
    replace hr_5 := hr_5.resolve_right (fun z => by have := z.1; omega)
    refine lv_aload_n hx hb dX2_stateAheadOfOrder_11 rfl (lv_at hl 0 rfl) ?_
    refine hk_geti hx hb hts hC_2 hown hW (gx.S hM) tt_2 12 ?o9 rfl kw_750 ⟨rfl, rfl, rfl⟩ ((hM.o gx trivial rfl).1.trans f_x_12) dX2_stateAheadOfOrder_12 ?_
    case o9 => decide
    refine lv_iconst (v := 5) hx hb dX2_stateAheadOfOrder_15 ?o10 ?_
    case o10 => decide
    refine hb_icmp_ne (zx := ju.toInt) (zy := 5) (tgt := 23) hx hb rfl ?o11 dX2_stateAheadOfOrder_16 ?o12 (fun c_13 => ?_) (fun c_13 => ?_)
    case o11 => decide
    case o12 => decide
    · skip
      refine lv_iconst (v := 2) hx hb dX2_stateAheadOfOrder_23 ?o13 ?_
      case o13 => decide
      exact hx_reti hx hb hr hlk hW ⟨(by have zr : (2 : Int32).toInt = 2 := (by decide); exact ⟨(by unfold hz_sa; (repeat' split) <;> omega), by omega, by omega⟩), hT, hM⟩ dX2_stateAheadOfOrder_24
    · skip
      refine lv_iconst (v := 3) hx hb dX2_stateAheadOfOrder_19 ?o14 ?_
      case o14 => decide
      refine lv_goto (tgt := 24) hx hb dX2_stateAheadOfOrder_20 ?o15 ?_
      case o15 => decide
      exact hx_reti hx hb hr hlk hW ⟨(by have zr : (3 : Int32).toInt = 3 := (by decide); exact ⟨(by unfold hz_sa; (repeat' split) <;> omega), by omega, by omega⟩), hT, hM⟩ dX2_stateAheadOfOrder_24


set_option maxHeartbeats 4000000 in
set_option maxRecDepth 100000 in
theorem t_X2_stateOn_v (l : Launch) (dC : Nat → ClassId) (dI : Nat → Nat → Nat) (dA : Nat → ClassId) (L : List Nat) (h : hx_h) (sz : Nat) (b0 : hx_z) (x : Nat) (v1 : Nat) (i1 : Int32) (i2 : Int32) (hT : hx_T T_tb L h) (gx : hx_g L h x 2) (gv1 : hx_g L h v1 3) (pqo : Nat) (gpqo : hx_g L h pqo 23) (f_v1_2 : h.2.2 v1 2 = some pqo) (pqd : Nat) (gpqd : hx_g L h pqd 24) (f_v1_3 : h.2.2 v1 3 = some pqd) (pqs : Nat) (gpqs : hx_g L h pqs 26) (f_v1_5 : h.2.2 v1 5 = some pqs) (pqk : Nat) (gpqk : hx_g L h pqk 25) (f_v1_4 : h.2.2 v1 4 = some pqk) (pqt : Nat) (gpqt : hx_g L h pqt 22) (f_v1_1 : h.2.2 v1 1 = some pqt) (qac : Nat) (gqac : hx_g L h qac 0) (f_x_3 : h.2.2 x 3 = some qac) (qt : Nat) (gqt : hx_g L h qt 11) (f_qac_2 : h.2.2 qac 2 = some qt) (pof : Nat → Int32) (af_pqo : h.2.1 pqo = pof) (pdf : Nat → Int32) (af_pqd : h.2.1 pqd = pdf) (psm : Nat → Int32) (af_pqs : h.2.1 pqs = psm) (pkf : Nat → Int32) (af_pqk : h.2.1 pqk = pkf) (pst : Nat → Int32) (af_pqt : h.2.1 pqt = pst) (tf : Nat → Int32) (af_qt : h.2.1 qt = tf) (fo : Int32) (f_x_10 : h.2.1 x 10 = fo) (he : Int32) (f_x_11 : h.2.1 x 11 = he) (ju : Int32) (f_x_12 : h.2.1 x 12 = ju) (od : Int32) (f_x_13 : h.2.1 x 13 = od) (wk : Int32) (f_x_14 : h.2.1 x 14 = wk) (ow : Int32) (f_x_15 : h.2.1 x 15 = ow) (sei : Int32) (f_x_16 : h.2.1 x 16 = sei) (gd : Int32) (f_x_17 : h.2.1 x 17 = gd) (sv : Int32) (f_x_18 : h.2.1 x 18 = sv) (nm : Int32) (f_x_0 : h.2.1 x 0 = nm) (n0 : Int32) (f_v1_0 : h.2.1 v1 0 = n0) (R : Nat → Int) (hR : hv_rC tf = R) (hRb : ∀ k, 0 ≤ R k ∧ R k ≤ 9999) (hod : -1 ≤ od.toInt ∧ od.toInt ≤ 7999) (hwk : 0 ≤ wk.toInt ∧ wk.toInt ≤ 9999) (how : 0 ≤ ow.toInt ∧ ow.toInt ≤ 600000) (hgd : 0 ≤ gd.toInt ∧ gd.toInt ≤ 9999) (hps : ∀ j, j < 600 → 0 ≤ (psm j).toInt ∧ (psm j).toInt ≤ 610000) (hi1 : 0 ≤ i1.toInt ∧ i1.toInt ≤ 7999) : Met l yX2_stateOn (Cond.code yX2_stateOn cX2_stateOn 5 (some .int) :: hx_all) ({ frames := 4, cells := 0, slots := 0, locals := 96 }) (va_Pc [.ref x, .ref v1, .int i1, .int i2] (hx_BX T_tb (P_ty dA) (dC, dI) vwCl L h sz b0)) (va_Qi (fun (r : Int32) (u : List Nat × hx_h) => (r.toInt = hz_st fo.toInt he.toInt ju.toInt od.toInt sv.toInt (hz_rs sv.toInt (hz_bl od.toInt sei.toInt gd.toInt ow.toInt (R 12) i1.toInt (hx_ps pof pdf psm pkf pst i1.toInt i2.toInt nm.toInt n0.toInt.toNat)) i1.toInt) (hz_ms od.toInt sv.toInt wk.toInt (hz_al ow.toInt sei.toInt (R 12) i1.toInt) (hz_pdy od.toInt sei.toInt gd.toInt i1.toInt (hx_ps pof pdf psm pkf pst i1.toInt i2.toInt nm.toInt n0.toInt.toNat)) i1.toInt) (R 4) (R 5) i1.toInt ∧ (0 ≤ r.toInt ∧ r.toInt ≤ 8)) ∧ hx_T T_tb u.1 u.2 ∧ hx_S T_tb [] L h u.1 u.2) (hx_E T_tb (P_ty dA) (dC, dI) vwCl (hx_A L sz)) (hx_A L sz)) 0 0 (hx_A L sz) := by
  refine hx_metX (lv := [(0, .ref x), (1, .ref v1), (2, .int i1), (3, .int i2)]) (by decide +kernel) rfl (Nat.le_of_ble_eq_true rfl) rfl ?_
  intro p e s m below meth c hx hb hml hr hlk hts0 hown hin hsz hW hZ ls hl
  have hts : ∀ w ∈ hx_all, w.before _ s = true := fun w hw => hts0 w (List.mem_cons_of_mem _ hw)
  have hown : s.vm.findClass "SmallCourt$Claim" = some m.cls := hown
  have hM : hx_S T_tb [] L h L h := hx_S.rf
  have b_fo := hT.gi gx tt_2 (k := 10) rfl
  rw [f_x_10] at b_fo
  have b_fo : -1 ≤ fo.toInt ∧ fo.toInt ≤ 7999 := b_fo
  have b_he := hT.gi gx tt_2 (k := 11) rfl
  rw [f_x_11] at b_he
  have b_he : -1 ≤ he.toInt ∧ he.toInt ≤ 7999 := b_he
  have b_ju := hT.gi gx tt_2 (k := 12) rfl
  rw [f_x_12] at b_ju
  have b_ju : 0 ≤ ju.toInt ∧ ju.toInt ≤ 5 := b_ju
  have b_od := hT.gi gx tt_2 (k := 13) rfl
  rw [f_x_13] at b_od
  have b_od : -2147483648 ≤ od.toInt ∧ od.toInt ≤ 2147483647 := b_od
  have b_wk := hT.gi gx tt_2 (k := 14) rfl
  rw [f_x_14] at b_wk
  have b_wk : -2147483648 ≤ wk.toInt ∧ wk.toInt ≤ 2147483647 := b_wk
  have b_ow := hT.gi gx tt_2 (k := 15) rfl
  rw [f_x_15] at b_ow
  have b_ow : -2147483648 ≤ ow.toInt ∧ ow.toInt ≤ 2147483647 := b_ow
  have b_sei := hT.gi gx tt_2 (k := 16) rfl
  rw [f_x_16] at b_sei
  have b_sei : -2147483648 ≤ sei.toInt ∧ sei.toInt ≤ 2147483647 := b_sei
  have b_gd := hT.gi gx tt_2 (k := 17) rfl
  rw [f_x_17] at b_gd
  have b_gd : -2147483648 ≤ gd.toInt ∧ gd.toInt ≤ 2147483647 := b_gd
  have b_sv := hT.gi gx tt_2 (k := 18) rfl
  rw [f_x_18] at b_sv
  have b_sv : -2147483648 ≤ sv.toInt ∧ sv.toInt ≤ 2147483647 := b_sv
  have b_nm := hT.gi gx tt_2 (k := 0) rfl
  rw [f_x_0] at b_nm
  have b_nm : 0 ≤ nm.toInt ∧ nm.toInt ≤ 99 := b_nm
  have b_n0 := hT.gi gv1 tt_3 (k := 0) rfl
  rw [f_v1_0] at b_n0
  have b_n0 : 0 ≤ n0.toInt ∧ n0.toInt ≤ 600 := b_n0
  refine lv_aload_n hx hb dX2_stateOn_0 rfl (lv_at hl 0 rfl) ?_
  refine hk_geti hx hb hts hC_2 hown hW (gx.S hM) tt_2 13 ?o0 rfl kw_752 ⟨rfl, rfl, rfl⟩ ((hM.o gx trivial rfl).1.trans f_x_13) dX2_stateOn_1 ?_
  case o0 => decide
  refine lv_iload_n hx hb dX2_stateOn_4 rfl (lv_at hl 2 rfl) ?_
  refine hx_goi (hx_runS (As := [.int od, .int i1]) (rest := []) ⟨hx, hb, hml, hown, hts⟩ hW (t_X2_isDone_v l dC dI dA L h s.heap.size od i1 hT) (va_cwS 2 hts (hx_gS kw_864 kw_862 kw_863 kw_110) rfl rfl rfl (by decide +kernel) ⟨Nat.le_of_ble_eq_true rfl, Nat.le_of_ble_eq_true rfl⟩) rfl hl.1 rfl (Nat.le_of_ble_eq_true rfl) dX2_stateOn_5 ⟨Nat.le_of_ble_eq_true rfl, Nat.le_of_ble_eq_true rfl⟩) hW (fun r_3 L_1 h_2 H locs p_4 hW => ?_)
  obtain ⟨hr_5, hT, hs⟩ := p_4
  replace hT : hx_T T_tb L_1 h_2 := hT
  replace hs : hx_S T_tb [] L h L_1 h_2 := hs
  replace hM := hM.tr (hs.mono ?o1)
  case o1 => decide
  refine hb_if_ne (zx := r_3.toInt) (tgt := 17) hx hb rfl dX2_stateOn_8 ?o2 (fun c_6 => ?_) (fun c_6 => ?_)
  case o2 => decide
  · skip
    replace hr_5 := hr_5.resolve_right (fun z => by have := z.1; omega)
    refine lv_aload_n hx hb dX2_stateOn_17 rfl (lv_at hl 0 rfl) ?_
    refine hk_geti hx hb hts hC_2 hown hW (gx.S hM) tt_2 18 ?o3 rfl kw_762 ⟨rfl, rfl, rfl⟩ ((hM.o gx trivial rfl).1.trans f_x_18) dX2_stateOn_18 ?_
    case o3 => decide
    refine lv_iload_n hx hb dX2_stateOn_21 rfl (lv_at hl 2 rfl) ?_
    refine hx_goi (hx_runS (As := [.int sv, .int i1]) (rest := []) ⟨hx, hb, hml, hown, hts⟩ hW (t_X2_isDone_v l dC dI dA L_1 h_2 H.size sv i1 hT) (va_cwS 2 hts (hx_gS kw_864 kw_862 kw_863 kw_110) rfl rfl rfl (by decide +kernel) ⟨Nat.le_of_ble_eq_true rfl, Nat.le_of_ble_eq_true rfl⟩) rfl hl.1 rfl (Nat.le_of_ble_eq_true rfl) dX2_stateOn_22 ⟨Nat.le_of_ble_eq_true rfl, Nat.le_of_ble_eq_true rfl⟩) hW (fun r_9 L_7 h_8 H locs p_10 hW => ?_)
    obtain ⟨hr_11, hT, hs⟩ := p_10
    replace hT : hx_T T_tb L_7 h_8 := hT
    replace hs : hx_S T_tb [] L_1 h_2 L_7 h_8 := hs
    replace hM := hM.tr (hs.mono ?o4)
    case o4 => decide
    refine hb_if_eq (zx := r_9.toInt) (tgt := 31) hx hb rfl dX2_stateOn_25 ?o5 (fun c_12 => ?_) (fun c_12 => ?_)
    case o5 => decide
    · skip
      replace hr_11 := hr_11.resolve_left (fun z => by have := z.1; omega)
      refine lv_aload_n hx hb dX2_stateOn_31 rfl (lv_at hl 0 rfl) ?_
      refine lv_aload_n hx hb dX2_stateOn_32 rfl (lv_at hl 1 rfl) ?_
      refine lv_iload_n hx hb dX2_stateOn_33 rfl (lv_at hl 2 rfl) ?_
      refine lv_iload_n hx hb dX2_stateOn_34 rfl (lv_at hl 3 rfl) ?_
      refine hx_goi (hx_runV (As := [.ref v1, .int i1, .int i2]) (rest := []) ⟨hx, hb, hml, hown, hts⟩ hW (gx.S hM) tt_2 (T := TX2) (N := 19) rfl (t_X2_restOn_v l dC dI dA L_7 h_8 H.size x v1 i1 i2 hT (gx.S hM) (gv1.S hM) pqo (gpqo.S hM) ((hM.o gv1 trivial rfl).2.trans f_v1_2) pqd (gpqd.S hM) ((hM.o gv1 trivial rfl).2.trans f_v1_3) pqs (gpqs.S hM) ((hM.o gv1 trivial rfl).2.trans f_v1_5) pqk (gpqk.S hM) ((hM.o gv1 trivial rfl).2.trans f_v1_4) pqt (gpqt.S hM) ((hM.o gv1 trivial rfl).2.trans f_v1_1) qac (gqac.S hM) ((hM.o gx trivial rfl).2.trans f_x_3) qt (gqt.S hM) ((hM.o gqac trivial rfl).2.trans f_qac_2) pof (hx_afS hM gpqo rfl af_pqo) pdf (hx_afS hM gpqd rfl af_pqd) psm (hx_afS hM gpqs rfl af_pqs) pkf (hx_afS hM gpqk rfl af_pqk) pst (hx_afS hM gpqt rfl af_pqt) tf (hx_afS hM gqt rfl af_qt) od ((hM.o gx trivial rfl).1.trans f_x_13) sei ((hM.o gx trivial rfl).1.trans f_x_16) gd ((hM.o gx trivial rfl).1.trans f_x_17) ow ((hM.o gx trivial rfl).1.trans f_x_15) sv ((hM.o gx trivial rfl).1.trans f_x_18) nm ((hM.o gx trivial rfl).1.trans f_x_0) n0 ((hM.o gv1 trivial rfl).1.trans f_v1_0) R hR hRb ⟨?o6, ?o7⟩ ⟨?o8, ?o9⟩ hps) (cwV 3 hts (hx_gV kw_861 kw_858 kw_859 kw_860 kw_110) rfl rfl rfl (by decide +kernel) ⟨Nat.le_of_ble_eq_true rfl, Nat.le_of_ble_eq_true rfl⟩) rfl hl.1 rfl (Nat.le_of_ble_eq_true rfl) dX2_stateOn_35 ⟨Nat.le_of_ble_eq_true rfl, Nat.le_of_ble_eq_true rfl⟩) hW (fun r_15 L_13 h_14 H locs p_16 hW => ?_)
      case o6 => omega
      case o7 => omega
      case o8 => omega
      case o9 => omega
      obtain ⟨hr_17, hT, hs⟩ := p_16
      replace hT : hx_T T_tb L_13 h_14 := hT
      replace hs : hx_S T_tb [] L_7 h_8 L_13 h_14 := hs
      replace hM := hM.tr (hs.mono ?o10)
      case o10 => decide
      refine hb_if_ne (zx := r_15.toInt) (tgt := 44) hx hb rfl dX2_stateOn_38 ?o11 (fun c_18 => ?_) (fun c_18 => ?_)
      case o11 => decide
      · skip
        refine lv_aload_n hx hb dX2_stateOn_44 rfl (lv_at hl 0 rfl) ?_
        refine lv_aload_n hx hb dX2_stateOn_45 rfl (lv_at hl 1 rfl) ?_
        refine lv_iload_n hx hb dX2_stateOn_46 rfl (lv_at hl 2 rfl) ?_
        refine lv_iload_n hx hb dX2_stateOn_47 rfl (lv_at hl 3 rfl) ?_
        refine hx_goi (hx_runVX (As := [.ref v1, .int i1, .int i2]) (rest := []) ⟨hx, hb, hml, hown, hts⟩ hW (gx.S hM) tt_2 (T := TX2) (N := 19) rfl (t_X2_missedOn_v l dC dI dA L_13 h_14 H.size b0 x v1 i1 i2 hT (gx.S hM) (gv1.S hM) pqo (gpqo.S hM) ((hM.o gv1 trivial rfl).2.trans f_v1_2) pqd (gpqd.S hM) ((hM.o gv1 trivial rfl).2.trans f_v1_3) pqs (gpqs.S hM) ((hM.o gv1 trivial rfl).2.trans f_v1_5) pqk (gpqk.S hM) ((hM.o gv1 trivial rfl).2.trans f_v1_4) pqt (gpqt.S hM) ((hM.o gv1 trivial rfl).2.trans f_v1_1) qac (gqac.S hM) ((hM.o gx trivial rfl).2.trans f_x_3) qt (gqt.S hM) ((hM.o gqac trivial rfl).2.trans f_qac_2) pof (hx_afS hM gpqo rfl af_pqo) pdf (hx_afS hM gpqd rfl af_pqd) psm (hx_afS hM gpqs rfl af_pqs) pkf (hx_afS hM gpqk rfl af_pqk) pst (hx_afS hM gpqt rfl af_pqt) tf (hx_afS hM gqt rfl af_qt) od ((hM.o gx trivial rfl).1.trans f_x_13) wk ((hM.o gx trivial rfl).1.trans f_x_14) ow ((hM.o gx trivial rfl).1.trans f_x_15) sei ((hM.o gx trivial rfl).1.trans f_x_16) gd ((hM.o gx trivial rfl).1.trans f_x_17) sv ((hM.o gx trivial rfl).1.trans f_x_18) nm ((hM.o gx trivial rfl).1.trans f_x_0) n0 ((hM.o gv1 trivial rfl).1.trans f_v1_0) R hR hRb ⟨?o12, ?o13⟩ ⟨?o14, ?o15⟩ ⟨?o16, ?o17⟩ ⟨?o18, ?o19⟩ hps ⟨?o20, ?o21⟩) hZ (cwV 3 hts (hx_gV kw_915 kw_912 kw_913 kw_914 kw_110) rfl rfl rfl (by decide +kernel) ⟨Nat.le_of_ble_eq_true rfl, Nat.le_of_ble_eq_true rfl⟩) rfl hl.1 rfl (Nat.le_of_ble_eq_true rfl) dX2_stateOn_48 ⟨Nat.le_of_ble_eq_true rfl, Nat.le_of_ble_eq_true rfl⟩) hW (fun r_21 L_19 h_20 H locs p_22 hW => ?_)
        case o12 => omega
        case o13 => omega
        case o14 => omega
        case o15 => omega
        case o16 => omega
        case o17 => omega
        case o18 => omega
        case o19 => omega
        case o20 => omega
        case o21 => omega
        obtain ⟨hr_23, hT, hs⟩ := p_22
        replace hT : hx_T T_tb L_19 h_20 := hT
        replace hs : hx_S T_tb [] L_13 h_14 L_19 h_20 := hs
        replace hM := hM.tr (hs.mono ?o22)
        case o22 => decide
        refine lv_istore (lv' := [(4, .int r_21), (0, .ref x), (1, .ref v1), (2, .int i1), (3, .int i2)]) hx hb dX2_stateOn_51 hl ?o23 rfl (fun ls hl => ?_)
        case o23 => decide
        refine lv_iload hx hb dX2_stateOn_53 (lv_at hl 0 rfl) ?_
        refine lv_aload_n hx hb dX2_stateOn_55 rfl (lv_at hl 1 rfl) ?_
        refine hk_getr hx hb hts hC_2 hown hW (gx.S hM) tt_2 3 ?o24 rfl kw_734 ⟨rfl, rfl, rfl⟩ ((hM.o gx trivial rfl).2.trans f_x_3) dX2_stateOn_56 ?_
        case o24 => decide
        refine hk_getr hx hb hts hC_0 hown hW (gqac.S hM) tt_0 2 ?o25 rfl kw_167 ⟨rfl, rfl, rfl⟩ ((hM.o gqac trivial rfl).2.trans f_qac_2) dX2_stateOn_59 ?_
        case o25 => decide
        refine lv_iconst (v := 5) hx hb dX2_stateOn_62 ?o26 ?_
        case o26 => decide
        refine hx_iald hx hb hW hT (gqt.S hM) tt_11 rfl ?o27 dX2_stateOn_63 (fun x_24 ex_24 lx_24 ux_24 => ?_)
        case o27 => decide
        have ax_24 : x_24 = tf (5 : Int32).toNatClampNeg := ex_24.trans (congrFun (hx_afS hM gqt rfl af_qt) _)
        have hR_25 : x_24.toInt = R 4 := ?o28
        case o28 =>
          rw [← hR, ax_24, show (5 : Int32).toNatClampNeg = 5 from by decide]
          rfl
        have hR_25b := hRb 4
        rw [← hR_25] at hR_25b
        refine hb_icmp_ge (zx := r_21.toInt) (zy := x_24.toInt) (tgt := 69) hx hb rfl rfl dX2_stateOn_64 ?o29 (fun c_26 => ?_) (fun c_26 => ?_)
        case o29 => decide
        · skip
          refine lv_iload hx hb dX2_stateOn_69 (lv_at hl 0 rfl) ?_
          refine lv_aload_n hx hb dX2_stateOn_71 rfl (lv_at hl 1 rfl) ?_
          refine hk_getr hx hb hts hC_2 hown hW (gx.S hM) tt_2 3 ?o30 rfl kw_734 ⟨rfl, rfl, rfl⟩ ((hM.o gx trivial rfl).2.trans f_x_3) dX2_stateOn_72 ?_
          case o30 => decide
          refine hk_getr hx hb hts hC_0 hown hW (gqac.S hM) tt_0 2 ?o31 rfl kw_167 ⟨rfl, rfl, rfl⟩ ((hM.o gqac trivial rfl).2.trans f_qac_2) dX2_stateOn_75 ?_
          case o31 => decide
          refine lv_iconst (v := 5) hx hb dX2_stateOn_78 ?o32 ?_
          case o32 => decide
          refine hx_iald hx hb hW hT (gqt.S hM) tt_11 rfl ?o33 dX2_stateOn_79 (fun x_27 ex_27 lx_27 ux_27 => ?_)
          case o33 => decide
          have ax_27 : x_27 = tf (5 : Int32).toNatClampNeg := ex_27.trans (congrFun (hx_afS hM gqt rfl af_qt) _)
          obtain rfl : x_24 = x_27 := ex_24.trans ex_27.symm
          have hR_28 : x_24.toInt = R 4 := ?o34
          case o34 =>
            rw [← hR, ax_24, show (5 : Int32).toNatClampNeg = 5 from by decide]
            rfl
          have hR_28b := hRb 4
          rw [← hR_28] at hR_28b
          refine lv_aload_n hx hb dX2_stateOn_80 rfl (lv_at hl 1 rfl) ?_
          refine hk_getr hx hb hts hC_2 hown hW (gx.S hM) tt_2 3 ?o35 rfl kw_734 ⟨rfl, rfl, rfl⟩ ((hM.o gx trivial rfl).2.trans f_x_3) dX2_stateOn_81 ?_
          case o35 => decide
          refine hk_getr hx hb hts hC_0 hown hW (gqac.S hM) tt_0 2 ?o36 rfl kw_167 ⟨rfl, rfl, rfl⟩ ((hM.o gqac trivial rfl).2.trans f_qac_2) dX2_stateOn_84 ?_
          case o36 => decide
          refine lv_bipush (v := 6) hx hb dX2_stateOn_87 ?o37 ?_
          case o37 => decide
          refine hx_iald hx hb hW hT (gqt.S hM) tt_11 rfl ?o38 dX2_stateOn_89 (fun x_29 ex_29 lx_29 ux_29 => ?_)
          case o38 => decide
          have ax_29 : x_29 = tf (6 : Int32).toNatClampNeg := ex_29.trans (congrFun (hx_afS hM gqt rfl af_qt) _)
          have hR_30 : x_29.toInt = R 5 := ?o39
          case o39 =>
            rw [← hR, ax_29, show (6 : Int32).toNatClampNeg = 6 from by decide]
            rfl
          have hR_30b := hRb 5
          rw [← hR_30] at hR_30b
          refine lv_iadd hx hb dX2_stateOn_90 ?_
          have rg_31 := i32_r x_24
          have rg_32 := i32_r x_29
          refine lv_topi (fun x_33 ex_33 => ?_)
          have zx_33 : x_33.toInt = x_24.toInt + x_29.toInt := ?o40
          case o40 =>
            rw [ex_33]
            refine i32_add rfl rfl ?o41 ?o42
            case o41 => omega
            case o42 => omega
          refine hb_icmp_ge (zx := r_21.toInt) (zy := x_33.toInt) (tgt := 98) hx hb rfl rfl dX2_stateOn_91 ?o43 (fun c_34 => ?_) (fun c_34 => ?_)
          case o43 => decide
          · skip
            refine lv_bipush (v := 6) hx hb dX2_stateOn_98 ?o44 ?_
            case o44 => decide
            exact hx_reti hx hb hr hlk hW ⟨(by have zr : (6 : Int32).toInt = 6 := (by decide); exact ⟨(by unfold hz_st; (repeat' split) <;> omega), by omega, by omega⟩), hT, hM⟩ dX2_stateOn_100
          · skip
            refine lv_iconst (v := 5) hx hb dX2_stateOn_94 ?o45 ?_
            case o45 => decide
            refine lv_goto (tgt := 100) hx hb dX2_stateOn_95 ?o46 ?_
            case o46 => decide
            exact hx_reti hx hb hr hlk hW ⟨(by have zr : (5 : Int32).toInt = 5 := (by decide); exact ⟨(by unfold hz_st; (repeat' split) <;> omega), by omega, by omega⟩), hT, hM⟩ dX2_stateOn_100
        · skip
          refine lv_iconst (v := 4) hx hb dX2_stateOn_67 ?o47 ?_
          case o47 => decide
          exact hx_reti hx hb hr hlk hW ⟨(by have zr : (4 : Int32).toInt = 4 := (by decide); exact ⟨(by unfold hz_st; (repeat' split) <;> omega), by omega, by omega⟩), hT, hM⟩ dX2_stateOn_68
      · skip
        refine lv_bipush (v := 7) hx hb dX2_stateOn_41 ?o48 ?_
        case o48 => decide
        exact hx_reti hx hb hr hlk hW ⟨(by have zr : (7 : Int32).toInt = 7 := (by decide); exact ⟨(by unfold hz_st; (repeat' split) <;> omega), by omega, by omega⟩), hT, hM⟩ dX2_stateOn_43
    · skip
      replace hr_11 := hr_11.resolve_right (fun z => by have := z.1; omega)
      refine lv_bipush (v := 8) hx hb dX2_stateOn_28 ?o49 ?_
      case o49 => decide
      exact hx_reti hx hb hr hlk hW ⟨(by have zr : (8 : Int32).toInt = 8 := (by decide); exact ⟨(by unfold hz_st; (repeat' split) <;> omega), by omega, by omega⟩), hT, hM⟩ dX2_stateOn_30
  · skip
    replace hr_5 := hr_5.resolve_left (fun z => by have := z.1; omega)
    refine lv_aload_n hx hb dX2_stateOn_11 rfl (lv_at hl 0 rfl) ?_
    refine lv_iload_n hx hb dX2_stateOn_12 rfl (lv_at hl 2 rfl) ?_
    refine hx_goi (hx_runV (As := [.int i1]) (rest := []) ⟨hx, hb, hml, hown, hts⟩ hW (gx.S hM) tt_2 (T := TX2) (N := 19) rfl (t_X2_stateAheadOfOrder_v l dC dI dA L_1 h_2 H.size x i1 hT (gx.S hM) fo ((hM.o gx trivial rfl).1.trans f_x_10) he ((hM.o gx trivial rfl).1.trans f_x_11) ju ((hM.o gx trivial rfl).1.trans f_x_12)) (cwV 1 hts (hx_gV kw_911 kw_908 kw_910 kw_32 kw_110) rfl rfl rfl (by decide +kernel) ⟨Nat.le_of_ble_eq_true rfl, Nat.le_of_ble_eq_true rfl⟩) rfl hl.1 rfl (Nat.le_of_ble_eq_true rfl) dX2_stateOn_13 ⟨Nat.le_of_ble_eq_true rfl, Nat.le_of_ble_eq_true rfl⟩) hW (fun r_37 L_35 h_36 H locs p_38 hW => ?_)
    obtain ⟨hr_39, hT, hs⟩ := p_38
    replace hT : hx_T T_tb L_35 h_36 := hT
    replace hs : hx_S T_tb [] L_1 h_2 L_35 h_36 := hs
    replace hM := hM.tr (hs.mono ?o50)
    case o50 => decide
    refine hx_reti hx hb hr hlk hW ⟨⟨(by unfold hz_st; rw [if_pos (by omega)]; exact hr_39.1), ?o51, ?o52⟩, hT, hM⟩ dX2_stateOn_16
    case o51 => omega
    case o52 => omega


set_option maxHeartbeats 4000000 in
set_option maxRecDepth 100000 in
theorem t_X2_isOpen_v (l : Launch) (dC : Nat → ClassId) (dI : Nat → Nat → Nat) (dA : Nat → ClassId) (L : List Nat) (h : hx_h) (sz : Nat) (x : Nat) (v1 : Nat) (i1 : Int32) (hT : hx_T T_tb L h) (gx : hx_g L h x 2) (gv1 : hx_g L h v1 3) (pqo : Nat) (gpqo : hx_g L h pqo 23) (f_v1_2 : h.2.2 v1 2 = some pqo) (pqd : Nat) (gpqd : hx_g L h pqd 24) (f_v1_3 : h.2.2 v1 3 = some pqd) (pqs : Nat) (gpqs : hx_g L h pqs 26) (f_v1_5 : h.2.2 v1 5 = some pqs) (pqk : Nat) (gpqk : hx_g L h pqk 25) (f_v1_4 : h.2.2 v1 4 = some pqk) (pqt : Nat) (gpqt : hx_g L h pqt 22) (f_v1_1 : h.2.2 v1 1 = some pqt) (qac : Nat) (gqac : hx_g L h qac 0) (f_x_3 : h.2.2 x 3 = some qac) (qt : Nat) (gqt : hx_g L h qt 11) (f_qac_2 : h.2.2 qac 2 = some qt) (pof : Nat → Int32) (af_pqo : h.2.1 pqo = pof) (pdf : Nat → Int32) (af_pqd : h.2.1 pqd = pdf) (psm : Nat → Int32) (af_pqs : h.2.1 pqs = psm) (pkf : Nat → Int32) (af_pqk : h.2.1 pqk = pkf) (pst : Nat → Int32) (af_pqt : h.2.1 pqt = pst) (tf : Nat → Int32) (af_qt : h.2.1 qt = tf) (od : Int32) (f_x_13 : h.2.1 x 13 = od) (sei : Int32) (f_x_16 : h.2.1 x 16 = sei) (gd : Int32) (f_x_17 : h.2.1 x 17 = gd) (ow : Int32) (f_x_15 : h.2.1 x 15 = ow) (sv : Int32) (f_x_18 : h.2.1 x 18 = sv) (nm : Int32) (f_x_0 : h.2.1 x 0 = nm) (n0 : Int32) (f_v1_0 : h.2.1 v1 0 = n0) (R : Nat → Int) (hR : hv_rC tf = R) (hRb : ∀ k, 0 ≤ R k ∧ R k ≤ 9999) (how : 0 ≤ ow.toInt ∧ ow.toInt ≤ 600000) (hgd : 0 ≤ gd.toInt ∧ gd.toInt ≤ 9999) (hps : ∀ j, j < 600 → 0 ≤ (psm j).toInt ∧ (psm j).toInt ≤ 610000) : Met l yX2_isOpen (Cond.code yX2_isOpen cX2_isOpen 3 (some .boolean) :: hx_all) ({ frames := 4, cells := 0, slots := 0, locals := 96 }) (va_Pc [.ref x, .ref v1, .int i1] (hx_B T_tb (P_ty dA) (dC, dI) vwCl L h sz)) (va_Qi (fun (r : Int32) (u : List Nat × hx_h) => ((r.toInt = 1 ∧ 0 < hz_rs sv.toInt (hz_bl od.toInt sei.toInt gd.toInt ow.toInt (R 12) i1.toInt (hx_ps pof pdf psm pkf pst i1.toInt i1.toInt nm.toInt n0.toInt.toNat)) i1.toInt) ∨ (r.toInt = 0 ∧ ¬ 0 < hz_rs sv.toInt (hz_bl od.toInt sei.toInt gd.toInt ow.toInt (R 12) i1.toInt (hx_ps pof pdf psm pkf pst i1.toInt i1.toInt nm.toInt n0.toInt.toNat)) i1.toInt)) ∧ hx_T T_tb u.1 u.2 ∧ hx_S T_tb [] L h u.1 u.2) (hx_E T_tb (P_ty dA) (dC, dI) vwCl (hx_A L sz)) (hx_A L sz)) 0 0 (hx_A L sz) := by
  refine hx_met (lv := [(0, .ref x), (1, .ref v1), (2, .int i1)]) (by decide +kernel) rfl (Nat.le_of_ble_eq_true rfl) rfl ?_
  intro p e s m below meth c hx hb hml hr hlk hts0 hown hin hsz hW ls hl
  have hts : ∀ w ∈ hx_all, w.before _ s = true := fun w hw => hts0 w (List.mem_cons_of_mem _ hw)
  have hown : s.vm.findClass "SmallCourt$Claim" = some m.cls := hown
  have hM : hx_S T_tb [] L h L h := hx_S.rf
  have b_od := hT.gi gx tt_2 (k := 13) rfl
  rw [f_x_13] at b_od
  have b_od : -2147483648 ≤ od.toInt ∧ od.toInt ≤ 2147483647 := b_od
  have b_sei := hT.gi gx tt_2 (k := 16) rfl
  rw [f_x_16] at b_sei
  have b_sei : -2147483648 ≤ sei.toInt ∧ sei.toInt ≤ 2147483647 := b_sei
  have b_gd := hT.gi gx tt_2 (k := 17) rfl
  rw [f_x_17] at b_gd
  have b_gd : -2147483648 ≤ gd.toInt ∧ gd.toInt ≤ 2147483647 := b_gd
  have b_ow := hT.gi gx tt_2 (k := 15) rfl
  rw [f_x_15] at b_ow
  have b_ow : -2147483648 ≤ ow.toInt ∧ ow.toInt ≤ 2147483647 := b_ow
  have b_sv := hT.gi gx tt_2 (k := 18) rfl
  rw [f_x_18] at b_sv
  have b_sv : -2147483648 ≤ sv.toInt ∧ sv.toInt ≤ 2147483647 := b_sv
  have b_nm := hT.gi gx tt_2 (k := 0) rfl
  rw [f_x_0] at b_nm
  have b_nm : 0 ≤ nm.toInt ∧ nm.toInt ≤ 99 := b_nm
  have b_n0 := hT.gi gv1 tt_3 (k := 0) rfl
  rw [f_v1_0] at b_n0
  have b_n0 : 0 ≤ n0.toInt ∧ n0.toInt ≤ 600 := b_n0
  refine lv_aload_n hx hb dX2_isOpen_0 rfl (lv_at hl 0 rfl) ?_
  refine lv_aload_n hx hb dX2_isOpen_1 rfl (lv_at hl 1 rfl) ?_
  refine lv_iload_n hx hb dX2_isOpen_2 rfl (lv_at hl 2 rfl) ?_
  refine lv_iload_n hx hb dX2_isOpen_3 rfl (lv_at hl 2 rfl) ?_
  refine hx_goi (hx_runV (As := [.ref v1, .int i1, .int i1]) (rest := []) ⟨hx, hb, hml, hown, hts⟩ hW (gx.S hM) tt_2 (T := TX2) (N := 19) rfl (t_X2_restOn_v l dC dI dA L h s.heap.size x v1 i1 i1 hT (gx.S hM) (gv1.S hM) pqo (gpqo.S hM) ((hM.o gv1 trivial rfl).2.trans f_v1_2) pqd (gpqd.S hM) ((hM.o gv1 trivial rfl).2.trans f_v1_3) pqs (gpqs.S hM) ((hM.o gv1 trivial rfl).2.trans f_v1_5) pqk (gpqk.S hM) ((hM.o gv1 trivial rfl).2.trans f_v1_4) pqt (gpqt.S hM) ((hM.o gv1 trivial rfl).2.trans f_v1_1) qac (gqac.S hM) ((hM.o gx trivial rfl).2.trans f_x_3) qt (gqt.S hM) ((hM.o gqac trivial rfl).2.trans f_qac_2) pof (hx_afS hM gpqo rfl af_pqo) pdf (hx_afS hM gpqd rfl af_pqd) psm (hx_afS hM gpqs rfl af_pqs) pkf (hx_afS hM gpqk rfl af_pqk) pst (hx_afS hM gpqt rfl af_pqt) tf (hx_afS hM gqt rfl af_qt) od ((hM.o gx trivial rfl).1.trans f_x_13) sei ((hM.o gx trivial rfl).1.trans f_x_16) gd ((hM.o gx trivial rfl).1.trans f_x_17) ow ((hM.o gx trivial rfl).1.trans f_x_15) sv ((hM.o gx trivial rfl).1.trans f_x_18) nm ((hM.o gx trivial rfl).1.trans f_x_0) n0 ((hM.o gv1 trivial rfl).1.trans f_v1_0) R hR hRb ⟨?o0, ?o1⟩ ⟨?o2, ?o3⟩ hps) (cwV 3 hts (hx_gV kw_861 kw_858 kw_859 kw_860 kw_110) rfl rfl rfl (by decide +kernel) ⟨Nat.le_of_ble_eq_true rfl, Nat.le_of_ble_eq_true rfl⟩) rfl hl.1 rfl (Nat.le_of_ble_eq_true rfl) dX2_isOpen_4 ⟨Nat.le_of_ble_eq_true rfl, Nat.le_of_ble_eq_true rfl⟩) hW (fun r_3 L_1 h_2 H locs p_4 hW => ?_)
  case o0 => omega
  case o1 => omega
  case o2 => omega
  case o3 => omega
  obtain ⟨hr_5, hT, hs⟩ := p_4
  replace hT : hx_T T_tb L_1 h_2 := hT
  replace hs : hx_S T_tb [] L h L_1 h_2 := hs
  replace hM := hM.tr (hs.mono ?o4)
  case o4 => decide
  refine hb_if_le (zx := r_3.toInt) (tgt := 14) hx hb rfl dX2_isOpen_7 ?o5 (fun c_6 => ?_) (fun c_6 => ?_)
  case o5 => decide
  · skip
    refine lv_iconst (v := 0) hx hb dX2_isOpen_14 ?o6 ?_
    case o6 => decide
    refine hx_retz hx hb hr rfl hlk hW ⟨(Or.inr ⟨?o7, ?o8⟩), hT, hM⟩ dX2_isOpen_15
    case o7 => decide
    case o8 => omega
  · skip
    refine lv_iconst (v := 1) hx hb dX2_isOpen_10 ?o9 ?_
    case o9 => decide
    refine lv_goto (tgt := 15) hx hb dX2_isOpen_11 ?o10 ?_
    case o10 => decide
    refine hx_retz hx hb hr rfl hlk hW ⟨(Or.inl ⟨?o11, ?o12⟩), hT, hM⟩ dX2_isOpen_15
    case o11 => decide
    case o12 => omega
end
