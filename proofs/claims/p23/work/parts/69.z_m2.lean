
set_option maxHeartbeats 4000000 in
set_option maxRecDepth 100000 in
theorem t_X10_other_v (l : Launch) (dC : Nat → ClassId) (dI : Nat → Nat → Nat) (dA : Nat → ClassId) (L : List Nat) (h : hx_h) (sz : Nat) (x : Nat) (i1 : Int32) (i2 : Int32) (hT : hx_T T_tb L h) (gx : hx_g L h x 10) (rby : Nat) (grby : hx_g L h rby 72) (f_x_37 : h.2.2 x 37 = some rby) (rag : Nat) (grag : hx_g L h rag 73) (f_x_38 : h.2.2 x 38 = some rag) (rfi : Nat) (grfi : hx_g L h rfi 78) (f_x_43 : h.2.2 x 43 = some rfi) (rsm : Nat) (grsm : hx_g L h rsm 74) (f_x_39 : h.2.2 x 39 = some rsm) (rrl : Nat) (grrl : hx_g L h rrl 50) (f_x_3 : h.2.2 x 3 = some rrl) (rfr : Nat) (grfr : hx_g L h rfr 75) (f_x_40 : h.2.2 x 40 = some rfr) (rbn : Nat) (grbn : hx_g L h rbn 58) (f_x_21 : h.2.2 x 21 = some rbn) (rpn : Nat) (grpn : hx_g L h rpn 51) (f_x_4 : h.2.2 x 4 = some rpn) (rpr : Nat) (grpr : hx_g L h rpr 52) (f_x_5 : h.2.2 x 5 = some rpr) (rst : Nat) (grst : hx_g L h rst 99) (f_x_66 : h.2.2 x 66 = some rst) (rfc : Nat) (grfc : hx_g L h rfc 88) (f_x_53 : h.2.2 x 53 = some rfc) (rho : Nat) (grho : hx_g L h rho 92) (f_x_58 : h.2.2 x 58 = some rho) (rtr : Nat) (grtr : hx_g L h rtr 80) (f_x_45 : h.2.2 x 45 = some rtr) (byf : Nat → Int32) (af_rby : h.2.1 rby = byf) (agf : Nat → Int32) (af_rag : h.2.1 rag = agf) (flf : Nat → Int32) (af_rfi : h.2.1 rfi = flf) (smf : Nat → Int32) (af_rsm : h.2.1 rsm = smf) (rlf : Nat → Int32) (af_rrl : h.2.1 rrl = rlf) (frf : Nat → Int32) (af_rfr : h.2.1 rfr = frf) (bnf : Nat → Int32) (af_rbn : h.2.1 rbn = bnf) (psf : Nat → Int32) (af_rpn : h.2.1 rpn = psf) (prf : Nat → Int32) (af_rpr : h.2.1 rpr = prf) (skf : Nat → Int32) (af_rst : h.2.1 rst = skf) (rf : Nat → Int32) (af_rfc : h.2.1 rfc = rf) (hof : Nat → Int32) (af_rho : h.2.1 rho = hof) (tf : Nat → Int32) (af_rtr : h.2.1 rtr = tf) (c0 : Int32) (f_x_36 : h.2.1 x 36 = c0) (m0 : Int32) (f_x_57 : h.2.1 x 57 = m0) (a0 : Int32) (f_x_1 : h.2.1 x 1 = a0) (adf hf : Nat → Int32) (A : Nat → hv_act) (hCA : hv_CA adf rlf psf prf a0.toInt A) (hAB : ∀ j : Nat, (∀ k, 0 ≤ (A j).2.1 k ∧ (A j).2.1 k ≤ 9999) ∧ hv_OK (A j).2.2) (hHO : hv_HO hof hf m0.toInt c0.toInt) : Met l yX10_other (Cond.code yX10_other cX10_other 9 (some .int) :: hx_all) ({ frames := 3, cells := 0, slots := 0, locals := 72 }) (va_Pc [.ref x, .int i1, .int i2] (hx_B T_tb (P_ty dA) (dC, dI) vwCl L h sz)) (va_Qi (fun (r : Int32) (u : List Nat × hx_h) => (hv_OT (hv_oJ rf hof frf bnf agf smf byf flf (A (i1.toInt + 1).toNat) c0.toInt.toNat) (fun j => (tf (hof j).toNatClampNeg).toInt) (A (i1.toInt + 1).toNat).2.1 i1.toInt a0.toInt i2.toInt m0.toInt r.toInt) ∧ hx_T T_tb u.1 u.2 ∧ hx_S T_tb [(99, 0)] L h u.1 u.2) (hx_E T_tb (P_ty dA) (dC, dI) vwCl (hx_A L sz)) (hx_A L sz)) 0 0 (hx_A L sz) := by
  refine hx_met (lv := [(0, .ref x), (1, .int i1), (2, .int i2)]) (by decide +kernel) rfl (Nat.le_of_ble_eq_true rfl) rfl ?_
  intro p e s m below meth c hx hb hml hr hlk hts0 hown hin hsz hW ls hl
  have hts : ∀ w ∈ hx_all, w.before _ s = true := fun w hw => hts0 w (List.mem_cons_of_mem _ hw)
  have hown : s.vm.findClass "SmallCourtModel" = some m.cls := hown
  have hM : hx_S T_tb [(99, 0)] L h L h := hx_S.rf
  have b_c0 := hT.gi gx tt_10 (k := 36) rfl
  rw [f_x_36] at b_c0
  have b_c0 : 0 ≤ c0.toInt ∧ c0.toInt ≤ 100 := b_c0
  have b_m0 := hT.gi gx tt_10 (k := 57) rfl
  rw [f_x_57] at b_m0
  have b_m0 : 0 ≤ m0.toInt ∧ m0.toInt ≤ 100 := b_m0
  have b_a0 := hT.gi gx tt_10 (k := 1) rfl
  rw [f_x_1] at b_a0
  have b_a0 : 0 ≤ a0.toInt ∧ a0.toInt ≤ 8 := b_a0
  refine lv_iload_n hx hb dX10_other_0 rfl (lv_at hl 1 rfl) ?_
  refine lv_iconst (v := -1) hx hb dX10_other_1 (by decide) ?_
  refine lv_aload_n hx hb dX10_other_2 rfl (lv_at hl 0 rfl) ?_
  refine hk_geti hx hb hts hC_10 hown hW (gx.S hM) tt_10 1 (by decide) rfl kw_1144 ⟨rfl, rfl, rfl⟩ ((hM.o gx trivial rfl).1.trans f_x_1) dX10_other_3 ?_
  refine lv_iconst (v := 1) hx hb dX10_other_6 (by decide) ?_
  refine lv_isub hx hb dX10_other_7 ?_
  have rg_1 := i32_r a0
  refine lv_topi (fun x_2 ex_2 => ?_)
  have zx_2 : x_2.toInt = a0.toInt - 1 := by rw [ex_2]; exact i32_sub rfl (by decide) (by omega) (by omega)
  have zc_m1 : (-1 : Int32).toInt = -1 := by decide
  refine hx_goi (hx_runS (As := [.int i1, .int (-1 : Int32), .int x_2]) (rest := []) ⟨hx, hb, hml, hown, hts⟩ hW (t_X10_in l dC dI dA L h s.heap.size i1 (-1 : Int32) x_2 hT) (va_cwS 3 hts (hx_gS kw_1445 kw_1443 kw_1444 kw_103) rfl rfl rfl (by decide +kernel) ⟨Nat.le_of_ble_eq_true rfl, Nat.le_of_ble_eq_true rfl⟩) rfl hl.1 rfl (Nat.le_of_ble_eq_true rfl) dX10_other_8 ⟨Nat.le_of_ble_eq_true rfl, Nat.le_of_ble_eq_true rfl⟩) hW (fun r_5 L_3 h_4 H locs p_6 hW => ?_)
  obtain ⟨hr_7, hT, hs⟩ := p_6
  replace hT : hx_T T_tb L_3 h_4 := hT
  replace hs : hx_S T_tb [] L h L_3 h_4 := hs
  replace af_rst : h_4.2.1 rst = skf := (funext fun j => (hs.a (grst.S hM) rfl j).1).trans af_rst
  replace hM := hM.tr (hs.mono (by decide))
  refine hb_if_eq (zx := r_5.toInt) (tgt := 24) hx hb rfl dX10_other_11 (by decide) (fun c_8 => ?_) (fun c_8 => ?_)
  · skip
    replace hr_7 := hr_7.resolve_right (fun z9 => absurd (c_8.symm.trans z9.1) (by decide))
    replace hr_7 := hr_7.2
    refine lv_iconst (v := -1) hx hb dX10_other_24 (by decide) ?_
    exact hx_reti hx hb hr hlk hW ⟨(Or.inl ⟨by omega, by decide⟩), hT, hM⟩ dX10_other_25
  · skip
    replace hr_7 := hr_7.resolve_left (fun z9 => c_8 z9.1)
    replace c_8 := hr_7.1
    replace hr_7 := hr_7.2
    refine lv_iload_n hx hb dX10_other_14 rfl (lv_at hl 2 rfl) ?_
    refine lv_iconst (v := 1) hx hb dX10_other_15 (by decide) ?_
    refine lv_bipush (v := 6) hx hb dX10_other_16 (by decide) ?_
    have zc_6 : (6 : Int32).toInt = 6 := by decide
    have zc_1 : (1 : Int32).toInt = 1 := by decide
    refine hx_goi (hx_runS (As := [.int i2, .int (1 : Int32), .int (6 : Int32)]) (rest := []) ⟨hx, hb, hml, hown, hts⟩ hW (t_X10_in l dC dI dA L_3 h_4 H.size i2 (1 : Int32) (6 : Int32) hT) (va_cwS 3 hts (hx_gS kw_1445 kw_1443 kw_1444 kw_103) rfl rfl rfl (by decide +kernel) ⟨Nat.le_of_ble_eq_true rfl, Nat.le_of_ble_eq_true rfl⟩) rfl hl.1 rfl (Nat.le_of_ble_eq_true rfl) dX10_other_18 ⟨Nat.le_of_ble_eq_true rfl, Nat.le_of_ble_eq_true rfl⟩) hW (fun r_11 L_9 h_10 H locs p_12 hW => ?_)
    obtain ⟨hr_13, hT, hs⟩ := p_12
    replace hT : hx_T T_tb L_9 h_10 := hT
    replace hs : hx_S T_tb [] L_3 h_4 L_9 h_10 := hs
    replace af_rst : h_10.2.1 rst = skf := (funext fun j => (hs.a (grst.S hM) rfl j).1).trans af_rst
    replace hM := hM.tr (hs.mono (by decide))
    refine hb_if_ne (zx := r_11.toInt) (tgt := 26) hx hb rfl dX10_other_21 (by decide) (fun c_14 => ?_) (fun c_14 => ?_)
    · skip
      replace hr_13 := hr_13.resolve_left (fun z9 => c_14 z9.1)
      replace c_14 := hr_13.1
      replace hr_13 := hr_13.2
      refine lv_iload_n hx hb dX10_other_26 rfl (lv_at hl 1 rfl) ?_
      refine lv_iconst (v := 1) hx hb dX10_other_27 (by decide) ?_
      refine lv_iadd hx hb dX10_other_28 ?_
      have rg_15 := i32_r i1
      refine lv_topi (fun x_16 ex_16 => ?_)
      have zx_16 : x_16.toInt = i1.toInt + 1 := by rw [ex_16]; exact i32_add rfl (by decide) (by omega) (by omega)
      refine lv_istore_n (lv' := [(3, .int x_16), (0, .ref x), (1, .int i1), (2, .int i2)]) hx hb dX10_other_29 rfl hl (by decide) rfl (fun ls hl => ?_)
      refine lv_iconst (v := 0) hx hb dX10_other_30 (by decide) ?_
      refine lv_istore (lv' := [(4, .int (0 : Int32)), (3, .int x_16), (0, .ref x), (1, .int i1), (2, .int i2)]) hx hb dX10_other_31 hl (by decide) rfl (fun ls hl => ?_)
      refine lv_iconst (v := 0) hx hb dX10_other_33 (by decide) ?_
      refine lv_istore (lv' := [(5, .int (0 : Int32)), (4, .int (0 : Int32)), (3, .int x_16), (0, .ref x), (1, .int i1), (2, .int i2)]) hx hb dX10_other_34 hl (by decide) rfl (fun ls hl => ?_)
      refine lv_iconst (v := 0) hx hb dX10_other_36 (by decide) ?_
      refine lv_istore (lv' := [(6, .int (0 : Int32)), (5, .int (0 : Int32)), (4, .int (0 : Int32)), (3, .int x_16), (0, .ref x), (1, .int i1), (2, .int i2)]) hx hb dX10_other_37 hl (by decide) rfl (fun ls hl => ?_)
      have loop39 : ∀ (n39 : Nat) (iv39_4 iv39_5 iv39_6 : Int32) (ia39_rst : Nat → Int32) (H : Heap) (locs : List Loc) (hL1 : List Nat) (hl1 : hx_h), 0 ≤ iv39_4.toInt → iv39_4.toInt ≤ 100 → 0 ≤ iv39_5.toInt → iv39_5.toInt ≤ 513948600 → 0 ≤ iv39_6.toInt → iv39_6.toInt ≤ 100 → (iv39_4.toInt = hv_oc (hv_oJ rf hof frf bnf agf smf byf flf (A (i1.toInt + 1).toNat) c0.toInt.toNat) i2.toInt (iv39_6.toInt).toNat) → (iv39_5.toInt = hv_os (hv_oJ rf hof frf bnf agf smf byf flf (A (i1.toInt + 1).toNat) c0.toInt.toNat) (fun j => (tf (hof j).toNatClampNeg).toInt) (A (i1.toInt + 1).toNat).2.1 (iv39_6.toInt).toNat) → (iv39_4.toInt ≤ iv39_6.toInt) → (iv39_5.toInt ≤ 5139486 * iv39_6.toInt) → (iv39_6.toInt ≤ m0.toInt) → ∀ (ls : Array Slot), 100 - iv39_6.toInt < (n39 : Int) → hx_W T_tb (P_ty dA) (dC, dI) vwCl (hx_A L sz) s.heap hL1 hl1 s H locs → hx_T T_tb hL1 hl1 → hx_S T_tb [(99, 0)] L h hL1 hl1 → hl1.2.1 rst = ia39_rst → lv_has ls 9 [(6, .int iv39_6), (5, .int iv39_5), (4, .int iv39_4), (3, .int x_16), (0, .ref x), (1, .int i1), (2, .int i2)] → W p l e ({ frames := 3, cells := 0, slots := 0, locals := 72 }) s m ([.ref x, .int i1, .int i2] : List Value).toArray below meth c H locs 0 0 (MQ below (va_Qi (fun (r : Int32) (u : List Nat × hx_h) => (hv_OT (hv_oJ rf hof frf bnf agf smf byf flf (A (i1.toInt + 1).toNat) c0.toInt.toNat) (fun j => (tf (hof j).toNatClampNeg).toInt) (A (i1.toInt + 1).toNat).2.1 i1.toInt a0.toInt i2.toInt m0.toInt r.toInt) ∧ hx_T T_tb u.1 u.2 ∧ hx_S T_tb [(99, 0)] L h u.1 u.2) (hx_E T_tb (P_ty dA) (dC, dI) vwCl (hx_A L sz)) (hx_A L sz)) ([.ref x, .int i1, .int i2] : List Value).toArray s 0 0 (hx_A L sz)) (F0 m 39 ls []) := by
        intro n39
        induction n39 with
        | zero => intro iv39_4 iv39_5 iv39_6 ia39_rst H locs hL1 hl1 bliv39_4 buiv39_4 bliv39_5 buiv39_5 bliv39_6 buiv39_6 vi39_0 vi39_1 vi39_2 vi39_3 vi39_4 ls hn39; exfalso; omega
        | succ n39 ih39 =>
          intro iv39_4 iv39_5 iv39_6 ia39_rst H locs hL1 hl1 bliv39_4 buiv39_4 bliv39_5 buiv39_5 bliv39_6 buiv39_6 vi39_0 vi39_1 vi39_2 vi39_3 vi39_4 ls hn39 hW hT hM  nia39_rst hl
          refine lv_iload hx hb dX10_other_39 (lv_at hl 0 rfl) ?_
          refine lv_aload_n hx hb dX10_other_41 rfl (lv_at hl 4 rfl) ?_
          refine hk_geti hx hb hts hC_10 hown hW (gx.S hM) tt_10 57 (by decide) rfl kw_1200 ⟨rfl, rfl, rfl⟩ ((hM.o gx trivial rfl).1.trans f_x_57) dX10_other_42 ?_
          refine hb_icmp_ge (zx := iv39_6.toInt) (zy := m0.toInt) (tgt := 134) hx hb rfl rfl dX10_other_45 (by decide) (fun c_17 => ?_) (fun c_17 => ?_)
          · skip
            refine lv_iload_n hx hb dX10_other_134 rfl (lv_at hl 6 rfl) ?_
            refine lv_bipush (v := 6) hx hb dX10_other_135 (by decide) ?_
            refine hb_icmp_ne (zx := i2.toInt) (zy := 6) (tgt := 145) hx hb rfl (by decide) dX10_other_137 (by decide) (fun c_18 => ?_) (fun c_18 => ?_)
            · skip
              refine lv_iload hx hb dX10_other_145 (lv_at hl 2 rfl) ?_
              exact hx_reti hx hb hr hlk hW ⟨(Or.inr ⟨by omega, Or.inr ⟨by omega, (by have h8 := vi39_0; rw [show iv39_6.toInt.toNat = m0.toInt.toNat by omega] at h8; exact h8)⟩⟩), hT, hM⟩ dX10_other_147
            · skip
              refine lv_iload hx hb dX10_other_140 (lv_at hl 1 rfl) ?_
              refine lv_goto (tgt := 147) hx hb dX10_other_142 (by decide) ?_
              exact hx_reti hx hb hr hlk hW ⟨(Or.inr ⟨by omega, Or.inl ⟨by omega, (by have h8 := vi39_1; rw [show iv39_6.toInt.toNat = m0.toInt.toNat by omega] at h8; exact h8)⟩⟩), hT, hM⟩ dX10_other_147
          · skip
            refine lv_aload_n hx hb dX10_other_48 rfl (lv_at hl 4 rfl) ?_
            refine hk_getr hx hb hts hC_10 hown hW (gx.S hM) tt_10 58 (by decide) rfl kw_1201 ⟨rfl, rfl, rfl⟩ ((hM.o gx trivial rfl).2.trans f_x_58) dX10_other_49 ?_
            refine lv_iload hx hb dX10_other_52 (lv_at hl 0 rfl) ?_
            refine hx_iald hx hb hW hT (grho.S hM) tt_92 rfl ⟨by omega, by omega⟩ dX10_other_54 (fun x_19 ex_19 lx_19 ux_19 => ?_)
            have ax_19 : x_19 = hof iv39_6.toNatClampNeg := ex_19.trans (congrFun (hx_afS hM grho rfl af_rho) _)
            refine lv_istore (lv' := [(7, .int x_19), (6, .int iv39_6), (5, .int iv39_5), (4, .int iv39_4), (3, .int x_16), (0, .ref x), (1, .int i1), (2, .int i2)]) hx hb dX10_other_55 hl (by decide) rfl (fun ls hl => ?_)
            obtain ⟨ho_20b, ho_20c, _⟩ := hHO iv39_6.toNatClampNeg (by unfold Int32.toNatClampNeg; omega); rw [← ax_19] at ho_20b ho_20c
            obtain ⟨⟨hq_211, _⟩, hq_212, hq_213⟩ := hCA.2 x_16.toInt.toNat (by omega)
            have hq_21e : (A (i1.toInt + 1).toNat) = (A x_16.toInt.toNat) := by rw [show x_16.toInt.toNat = (i1.toInt + 1).toNat by omega]
            rw [← hq_21e] at hq_212 hq_213
            refine lv_aload_n hx hb dX10_other_57 rfl (lv_at hl 5 rfl) ?_
            refine lv_iload hx hb dX10_other_58 (lv_at hl 0 rfl) ?_
            refine lv_iload_n hx hb dX10_other_60 rfl (lv_at hl 4 rfl) ?_
            refine hx_goi (hx_runV (As := [.int x_19, .int x_16]) (rest := []) ⟨hx, hb, hml, hown, hts⟩ hW (gx.S hM) tt_10 (T := TX10) (N := 98) rfl (t_X10_judges_v l dC dI dA hL1 hl1 H.size x x_19 x_16 hT (gx.S hM) rby (grby.S hM) ((hM.o gx trivial rfl).2.trans f_x_37) rag (grag.S hM) ((hM.o gx trivial rfl).2.trans f_x_38) rfi (grfi.S hM) ((hM.o gx trivial rfl).2.trans f_x_43) rsm (grsm.S hM) ((hM.o gx trivial rfl).2.trans f_x_39) rrl (grrl.S hM) ((hM.o gx trivial rfl).2.trans f_x_3) rfr (grfr.S hM) ((hM.o gx trivial rfl).2.trans f_x_40) rbn (grbn.S hM) ((hM.o gx trivial rfl).2.trans f_x_21) rpn (grpn.S hM) ((hM.o gx trivial rfl).2.trans f_x_4) rpr (grpr.S hM) ((hM.o gx trivial rfl).2.trans f_x_5) rst (grst.S hM) ((hM.o gx trivial rfl).2.trans f_x_66) rfc (grfc.S hM) ((hM.o gx trivial rfl).2.trans f_x_53) byf (hx_afS hM grby rfl af_rby) agf (hx_afS hM grag rfl af_rag) flf (hx_afS hM grfi rfl af_rfi) smf (hx_afS hM grsm rfl af_rsm) rlf (hx_afS hM grrl rfl af_rrl) frf (hx_afS hM grfr rfl af_rfr) bnf (hx_afS hM grbn rfl af_rbn) psf (hx_afS hM grpn rfl af_rpn) prf (hx_afS hM grpr rfl af_rpr) ia39_rst nia39_rst rf (hx_afS hM grfc rfl af_rfc) c0 ((hM.o gx trivial rfl).1.trans f_x_36) ⟨by omega, by omega⟩ ⟨by omega, by omega⟩ (A (i1.toInt + 1).toNat).2.1 (fun k hk => by rw [← hq_212]; show _ = (if k < 13 then _ else 0); rw [if_pos (by omega)]) (hAB _).1 (A (i1.toInt + 1).toNat).2.2 (hAB _).2 hq_213 hq_211) (cwV 2 hts (hx_gV kw_1617 kw_1614 kw_1616 kw_77 kw_103) rfl rfl rfl (by decide +kernel) ⟨Nat.le_of_ble_eq_true rfl, Nat.le_of_ble_eq_true rfl⟩) rfl hl.1 rfl (Nat.le_of_ble_eq_true rfl) dX10_other_61 ⟨Nat.le_of_ble_eq_true rfl, Nat.le_of_ble_eq_true rfl⟩) hW (fun r_24 L_22 h_23 H locs p_25 hW => ?_)
            obtain ⟨hr_26, hT, hs⟩ := p_25
            replace hT : hx_T T_tb L_22 h_23 := hT
            replace hs : hx_S T_tb [(99, 0)] hL1 hl1 L_22 h_23 := hs
            replace ex_19 := ex_19.trans (hs.a (grho.S hM) rfl _).1.symm
            replace hM := hM.tr (hs.mono (by decide))
            refine lv_istore (lv' := [(8, .int r_24), (7, .int x_19), (6, .int iv39_6), (5, .int iv39_5), (4, .int iv39_4), (3, .int x_16), (0, .ref x), (1, .int i1), (2, .int i2)]) hx hb dX10_other_64 hl (by decide) rfl (fun ls hl => ?_)
            have hJ_27 : r_24.toInt = (hv_oJ rf hof frf bnf agf smf byf flf (A (i1.toInt + 1).toNat) c0.toInt.toNat) iv39_6.toInt.toNat := by rw [hr_26.1, ax_19]; rfl
            refine lv_iload hx hb dX10_other_66 (lv_at hl 4 rfl) ?_
            refine lv_iload hx hb dX10_other_68 (lv_at hl 0 rfl) ?_
            refine lv_iload_n hx hb dX10_other_70 rfl (lv_at hl 8 rfl) ?_
            refine hb_icmp_ne (zx := r_24.toInt) (zy := i2.toInt) (tgt := 78) hx hb rfl rfl dX10_other_71 (by decide) (fun c_28 => ?_) (fun c_28 => ?_)
            · skip
              refine lv_iconst (v := 0) hx hb dX10_other_78 (by decide) ?_
              refine lv_iadd hx hb dX10_other_79 ?_
              have rg_29 := i32_r iv39_4
              refine lv_topi (fun x_30 ex_30 => ?_)
              have zx_30 : x_30.toInt = iv39_4.toInt + 0 := by rw [ex_30]; exact i32_add rfl (by decide) (by omega) (by omega)
              refine lv_istore (lv' := [(4, .int x_30), (8, .int r_24), (7, .int x_19), (6, .int iv39_6), (5, .int iv39_5), (3, .int x_16), (0, .ref x), (1, .int i1), (2, .int i2)]) hx hb dX10_other_80 hl (by decide) rfl (fun ls hl => ?_)
              refine lv_iload hx hb dX10_other_82 (lv_at hl 4 rfl) ?_
              refine lv_aload_n hx hb dX10_other_84 rfl (lv_at hl 6 rfl) ?_
              refine hk_getr hx hb hts hC_10 hown hW (gx.S hM) tt_10 45 (by decide) rfl kw_1188 ⟨rfl, rfl, rfl⟩ ((hM.o gx trivial rfl).2.trans f_x_45) dX10_other_85 ?_
              refine lv_iload hx hb dX10_other_88 (lv_at hl 2 rfl) ?_
              refine hx_iald hx hb hW hT (grtr.S hM) tt_80 rfl ⟨by omega, by omega⟩ dX10_other_90 (fun x_31 ex_31 lx_31 ux_31 => ?_)
              have ax_31 : x_31 = tf x_19.toNatClampNeg := ex_31.trans (congrFun (hx_afS hM grtr rfl af_rtr) _)
              have ct8 : x_31 = tf (hof iv39_6.toNatClampNeg).toNatClampNeg := by rw [ax_31, ← ax_19]
              have ct9 : x_31 = tf (hof iv39_6.toInt.toNat).toNatClampNeg := ct8
              refine lv_aload_n hx hb dX10_other_91 rfl (lv_at hl 6 rfl) ?_
              refine lv_iload_n hx hb dX10_other_92 rfl (lv_at hl 5 rfl) ?_
              refine lv_bipush (v := 9) hx hb dX10_other_93 (by decide) ?_
              have zc_9 : (9 : Int32).toInt = 9 := by decide
              refine hx_goi (hx_runV (As := [.int x_16, .int (9 : Int32)]) (rest := [.int x_31, .int iv39_5]) ⟨hx, hb, hml, hown, hts⟩ hW (gx.S hM) tt_10 (T := TX10) (N := 98) rfl (t_X10_ruleOf_v l dC dI dA L_22 h_23 H.size x x_16 (9 : Int32) hT (gx.S hM) rrl (grrl.S hM) ((hM.o gx trivial rfl).2.trans f_x_3) rlf (hx_afS hM grrl rfl af_rrl) ⟨by omega, by omega⟩ (by decide)) (cwV 2 hts (hx_gV kw_1533 kw_1530 kw_1532 kw_66 kw_103) rfl rfl rfl (by decide +kernel) ⟨Nat.le_of_ble_eq_true rfl, Nat.le_of_ble_eq_true rfl⟩) rfl hl.1 rfl (Nat.le_of_ble_eq_true rfl) dX10_other_95 ⟨Nat.le_of_ble_eq_true rfl, Nat.le_of_ble_eq_true rfl⟩) hW (fun r_34 L_32 h_33 H locs p_35 hW => ?_)
              obtain ⟨hr_36, hT, hs⟩ := p_35
              replace hT : hx_T T_tb L_32 h_33 := hT
              replace hs : hx_S T_tb [] L_22 h_23 L_32 h_33 := hs
              replace ex_19 := ex_19.trans (hs.a (grho.S hM) rfl _).1.symm
              replace ex_31 := ex_31.trans (hs.a (grtr.S hM) rfl _).1.symm
              replace hM := hM.tr (hs.mono (by decide))
              have hR_37 : r_34.toInt = (A (i1.toInt + 1).toNat).2.1 9 := by rw [hr_36.1, ← hq_212]; show _ = (if 9 < 13 then _ else 0); rw [if_pos (by decide)]; congr 2
              refine lv_imul hx hb dX10_other_98 ?_
              refine lv_topi (fun x_38 ex_38 => ?_)
              have mx_38 : x_31.toInt = 0 → x_38.toInt = 0 := fun z => by rw [ex_38]; exact hx_mul0 z
              obtain ⟨zm_39, zm_39l, zm_39h⟩ := hv_mul9 ⟨by omega, by omega⟩ ⟨by omega, by omega⟩ ex_38
              refine lv_aload_n hx hb dX10_other_99 rfl (lv_at hl 6 rfl) ?_
              refine lv_iload_n hx hb dX10_other_100 rfl (lv_at hl 5 rfl) ?_
              refine lv_bipush (v := 10) hx hb dX10_other_101 (by decide) ?_
              have zc_10 : (10 : Int32).toInt = 10 := by decide
              refine hx_goi (hx_runV (As := [.int x_16, .int (10 : Int32)]) (rest := [.int x_38, .int iv39_5]) ⟨hx, hb, hml, hown, hts⟩ hW (gx.S hM) tt_10 (T := TX10) (N := 98) rfl (t_X10_ruleOf_v l dC dI dA L_32 h_33 H.size x x_16 (10 : Int32) hT (gx.S hM) rrl (grrl.S hM) ((hM.o gx trivial rfl).2.trans f_x_3) rlf (hx_afS hM grrl rfl af_rrl) ⟨by omega, by omega⟩ (by decide)) (cwV 2 hts (hx_gV kw_1533 kw_1530 kw_1532 kw_66 kw_103) rfl rfl rfl (by decide +kernel) ⟨Nat.le_of_ble_eq_true rfl, Nat.le_of_ble_eq_true rfl⟩) rfl hl.1 rfl (Nat.le_of_ble_eq_true rfl) dX10_other_103 ⟨Nat.le_of_ble_eq_true rfl, Nat.le_of_ble_eq_true rfl⟩) hW (fun r_42 L_40 h_41 H locs p_43 hW => ?_)
              obtain ⟨hr_44, hT, hs⟩ := p_43
              replace hT : hx_T T_tb L_40 h_41 := hT
              replace hs : hx_S T_tb [] L_32 h_33 L_40 h_41 := hs
              replace ex_19 := ex_19.trans (hs.a (grho.S hM) rfl _).1.symm
              replace ex_31 := ex_31.trans (hs.a (grtr.S hM) rfl _).1.symm
              replace hM := hM.tr (hs.mono (by decide))
              have hR_45 : r_42.toInt = (A (i1.toInt + 1).toNat).2.1 10 := by rw [hr_44.1, ← hq_212]; show _ = (if 10 < 13 then _ else 0); rw [if_pos (by decide)]; congr 2
              refine lv_iadd hx hb dX10_other_106 ?_
              have rg_46 := i32_r x_38
              have rg_47 := i32_r r_42
              refine lv_topi (fun x_48 ex_48 => ?_)
              have zx_48 : x_48.toInt = x_38.toInt + r_42.toInt := by rw [ex_48]; exact i32_add rfl rfl (by omega) (by omega)
              refine lv_iload hx hb dX10_other_107 (lv_at hl 1 rfl) ?_
              refine lv_iconst (v := 5) hx hb dX10_other_109 (by decide) ?_
              refine hb_icmp_ne (zx := r_24.toInt) (zy := 5) (tgt := 123) hx hb rfl (by decide) dX10_other_110 (by decide) (fun c_49 => ?_) (fun c_49 => ?_)
              · skip
                refine lv_iconst (v := 0) hx hb dX10_other_123 (by decide) ?_
                refine lv_iadd hx hb dX10_other_124 ?_
                have rg_50 := i32_r x_48
                refine lv_topi (fun x_51 ex_51 => ?_)
                have zx_51 : x_51.toInt = x_48.toInt + 0 := by rw [ex_51]; exact i32_add rfl (by decide) (by omega) (by omega)
                refine lv_iadd hx hb dX10_other_125 ?_
                have rg_52 := i32_r iv39_5
                have rg_53 := i32_r x_51
                refine lv_topi (fun x_54 ex_54 => ?_)
                have zx_54 : x_54.toInt = iv39_5.toInt + x_51.toInt := by rw [ex_54]; exact i32_add rfl rfl (by omega) (by omega)
                refine lv_istore (lv' := [(5, .int x_54), (4, .int x_30), (8, .int r_24), (7, .int x_19), (6, .int iv39_6), (3, .int x_16), (0, .ref x), (1, .int i1), (2, .int i2)]) hx hb dX10_other_126 hl (by decide) rfl (fun ls hl => ?_)
                obtain ⟨x_55, ex_55⟩ : ∃ y : Int32, y = iv39_6 + Int32.ofInt 1 := ⟨_, rfl⟩
                have rg_56 := i32_r iv39_6
                have zx_55 : x_55.toInt = iv39_6.toInt + (1) := by rw [ex_55]; exact i32_add rfl (by decide) (by omega) (by omega)
                refine lv_iinc (v := x_55) (lv' := [(6, .int x_55), (5, .int x_54), (4, .int x_30), (8, .int r_24), (7, .int x_19), (3, .int x_16), (0, .ref x), (1, .int i1), (2, .int i2)]) hx hb dX10_other_128 hl (k := 4) rfl ex_55.symm (by decide) rfl (fun ls hl => ?_)
                refine lv_goto (tgt := 39) hx hb dX10_other_131 (by decide) ?_
                obtain ⟨fa_57, nfa_57⟩ : ∃ g : Nat → Int32, h_41.2.1 rst = g := ⟨_, rfl⟩
                exact ih39 x_30 x_54 x_55 fa_57 _ _ L_40 h_41 (by omega) (by omega) (by omega) (by omega) (by omega) (by omega) (by by_cases z9 : r_24.toInt = i2.toInt; exact hv_oc_y vi39_0 (by rw [← hJ_27]; exact z9) (by omega) (by omega) zx_55; exact hv_oc_n vi39_0 (by rw [← hJ_27]; exact z9) (by omega) (by omega) zx_55) (hv_os_s vi39_1 (c := x_51.toInt) (by show _ = (tf (hof _).toNatClampNeg).toInt * _ + _ + _; rw [← ct9, ← hJ_27, ← hR_37, ← hR_45]; rw [if_neg (show ¬ r_24.toInt = 5 by omega)]; omega) (by omega) zx_54 zx_55) (by omega) (by omega) (by omega) ls (by omega) hW hT hM  nfa_57 (lv_sub hl [0, 1, 2, 5, 6, 7, 8] rfl)
              · skip
                refine lv_aload_n hx hb dX10_other_113 rfl (lv_at hl 6 rfl) ?_
                refine lv_iload_n hx hb dX10_other_114 rfl (lv_at hl 5 rfl) ?_
                refine lv_bipush (v := 11) hx hb dX10_other_115 (by decide) ?_
                have zc_11 : (11 : Int32).toInt = 11 := by decide
                refine hx_goi (hx_runV (As := [.int x_16, .int (11 : Int32)]) (rest := [.int x_48, .int iv39_5]) ⟨hx, hb, hml, hown, hts⟩ hW (gx.S hM) tt_10 (T := TX10) (N := 98) rfl (t_X10_ruleOf_v l dC dI dA L_40 h_41 H.size x x_16 (11 : Int32) hT (gx.S hM) rrl (grrl.S hM) ((hM.o gx trivial rfl).2.trans f_x_3) rlf (hx_afS hM grrl rfl af_rrl) ⟨by omega, by omega⟩ (by decide)) (cwV 2 hts (hx_gV kw_1533 kw_1530 kw_1532 kw_66 kw_103) rfl rfl rfl (by decide +kernel) ⟨Nat.le_of_ble_eq_true rfl, Nat.le_of_ble_eq_true rfl⟩) rfl hl.1 rfl (Nat.le_of_ble_eq_true rfl) dX10_other_117 ⟨Nat.le_of_ble_eq_true rfl, Nat.le_of_ble_eq_true rfl⟩) hW (fun r_60 L_58 h_59 H locs p_61 hW => ?_)
                obtain ⟨hr_62, hT, hs⟩ := p_61
                replace hT : hx_T T_tb L_58 h_59 := hT
                replace hs : hx_S T_tb [] L_40 h_41 L_58 h_59 := hs
                replace ex_19 := ex_19.trans (hs.a (grho.S hM) rfl _).1.symm
                replace ex_31 := ex_31.trans (hs.a (grtr.S hM) rfl _).1.symm
                replace hM := hM.tr (hs.mono (by decide))
                have hR_63 : r_60.toInt = (A (i1.toInt + 1).toNat).2.1 11 := by rw [hr_62.1, ← hq_212]; show _ = (if 11 < 13 then _ else 0); rw [if_pos (by decide)]; congr 2
                refine lv_goto (tgt := 124) hx hb dX10_other_120 (by decide) ?_
                refine lv_iadd hx hb dX10_other_124 ?_
                have rg_64 := i32_r x_48
                have rg_65 := i32_r r_60
                refine lv_topi (fun x_66 ex_66 => ?_)
                have zx_66 : x_66.toInt = x_48.toInt + r_60.toInt := by rw [ex_66]; exact i32_add rfl rfl (by omega) (by omega)
                refine lv_iadd hx hb dX10_other_125 ?_
                have rg_67 := i32_r iv39_5
                have rg_68 := i32_r x_66
                refine lv_topi (fun x_69 ex_69 => ?_)
                have zx_69 : x_69.toInt = iv39_5.toInt + x_66.toInt := by rw [ex_69]; exact i32_add rfl rfl (by omega) (by omega)
                refine lv_istore (lv' := [(5, .int x_69), (4, .int x_30), (8, .int r_24), (7, .int x_19), (6, .int iv39_6), (3, .int x_16), (0, .ref x), (1, .int i1), (2, .int i2)]) hx hb dX10_other_126 hl (by decide) rfl (fun ls hl => ?_)
                obtain ⟨x_70, ex_70⟩ : ∃ y : Int32, y = iv39_6 + Int32.ofInt 1 := ⟨_, rfl⟩
                have rg_71 := i32_r iv39_6
                have zx_70 : x_70.toInt = iv39_6.toInt + (1) := by rw [ex_70]; exact i32_add rfl (by decide) (by omega) (by omega)
                refine lv_iinc (v := x_70) (lv' := [(6, .int x_70), (5, .int x_69), (4, .int x_30), (8, .int r_24), (7, .int x_19), (3, .int x_16), (0, .ref x), (1, .int i1), (2, .int i2)]) hx hb dX10_other_128 hl (k := 4) rfl ex_70.symm (by decide) rfl (fun ls hl => ?_)
                refine lv_goto (tgt := 39) hx hb dX10_other_131 (by decide) ?_
                obtain ⟨fa_72, nfa_72⟩ : ∃ g : Nat → Int32, h_59.2.1 rst = g := ⟨_, rfl⟩
                exact ih39 x_30 x_69 x_70 fa_72 _ _ L_58 h_59 (by omega) (by omega) (by omega) (by omega) (by omega) (by omega) (by by_cases z9 : r_24.toInt = i2.toInt; exact hv_oc_y vi39_0 (by rw [← hJ_27]; exact z9) (by omega) (by omega) zx_70; exact hv_oc_n vi39_0 (by rw [← hJ_27]; exact z9) (by omega) (by omega) zx_70) (hv_os_s vi39_1 (c := x_66.toInt) (by show _ = (tf (hof _).toNatClampNeg).toInt * _ + _ + _; rw [← ct9, ← hJ_27, ← hR_37, ← hR_45]; rw [if_pos (show r_24.toInt = 5 by omega), ← hR_63]; omega) (by omega) zx_69 zx_70) (by omega) (by omega) (by omega) ls (by omega) hW hT hM  nfa_72 (lv_sub hl [0, 1, 2, 5, 6, 7, 8] rfl)
            · skip
              refine lv_iconst (v := 1) hx hb dX10_other_74 (by decide) ?_
              refine lv_goto (tgt := 79) hx hb dX10_other_75 (by decide) ?_
              refine lv_iadd hx hb dX10_other_79 ?_
              have rg_73 := i32_r iv39_4
              refine lv_topi (fun x_74 ex_74 => ?_)
              have zx_74 : x_74.toInt = iv39_4.toInt + 1 := by rw [ex_74]; exact i32_add rfl (by decide) (by omega) (by omega)
              refine lv_istore (lv' := [(4, .int x_74), (8, .int r_24), (7, .int x_19), (6, .int iv39_6), (5, .int iv39_5), (3, .int x_16), (0, .ref x), (1, .int i1), (2, .int i2)]) hx hb dX10_other_80 hl (by decide) rfl (fun ls hl => ?_)
              refine lv_iload hx hb dX10_other_82 (lv_at hl 4 rfl) ?_
              refine lv_aload_n hx hb dX10_other_84 rfl (lv_at hl 6 rfl) ?_
              refine hk_getr hx hb hts hC_10 hown hW (gx.S hM) tt_10 45 (by decide) rfl kw_1188 ⟨rfl, rfl, rfl⟩ ((hM.o gx trivial rfl).2.trans f_x_45) dX10_other_85 ?_
              refine lv_iload hx hb dX10_other_88 (lv_at hl 2 rfl) ?_
              refine hx_iald hx hb hW hT (grtr.S hM) tt_80 rfl ⟨by omega, by omega⟩ dX10_other_90 (fun x_75 ex_75 lx_75 ux_75 => ?_)
              have ax_75 : x_75 = tf x_19.toNatClampNeg := ex_75.trans (congrFun (hx_afS hM grtr rfl af_rtr) _)
              have ct8 : x_75 = tf (hof iv39_6.toNatClampNeg).toNatClampNeg := by rw [ax_75, ← ax_19]
              have ct9 : x_75 = tf (hof iv39_6.toInt.toNat).toNatClampNeg := ct8
              refine lv_aload_n hx hb dX10_other_91 rfl (lv_at hl 6 rfl) ?_
              refine lv_iload_n hx hb dX10_other_92 rfl (lv_at hl 5 rfl) ?_
              refine lv_bipush (v := 9) hx hb dX10_other_93 (by decide) ?_
              have zc_9 : (9 : Int32).toInt = 9 := by decide
              refine hx_goi (hx_runV (As := [.int x_16, .int (9 : Int32)]) (rest := [.int x_75, .int iv39_5]) ⟨hx, hb, hml, hown, hts⟩ hW (gx.S hM) tt_10 (T := TX10) (N := 98) rfl (t_X10_ruleOf_v l dC dI dA L_22 h_23 H.size x x_16 (9 : Int32) hT (gx.S hM) rrl (grrl.S hM) ((hM.o gx trivial rfl).2.trans f_x_3) rlf (hx_afS hM grrl rfl af_rrl) ⟨by omega, by omega⟩ (by decide)) (cwV 2 hts (hx_gV kw_1533 kw_1530 kw_1532 kw_66 kw_103) rfl rfl rfl (by decide +kernel) ⟨Nat.le_of_ble_eq_true rfl, Nat.le_of_ble_eq_true rfl⟩) rfl hl.1 rfl (Nat.le_of_ble_eq_true rfl) dX10_other_95 ⟨Nat.le_of_ble_eq_true rfl, Nat.le_of_ble_eq_true rfl⟩) hW (fun r_78 L_76 h_77 H locs p_79 hW => ?_)
              obtain ⟨hr_80, hT, hs⟩ := p_79
              replace hT : hx_T T_tb L_76 h_77 := hT
              replace hs : hx_S T_tb [] L_22 h_23 L_76 h_77 := hs
              replace ex_19 := ex_19.trans (hs.a (grho.S hM) rfl _).1.symm
              replace ex_75 := ex_75.trans (hs.a (grtr.S hM) rfl _).1.symm
              replace hM := hM.tr (hs.mono (by decide))
              have hR_81 : r_78.toInt = (A (i1.toInt + 1).toNat).2.1 9 := by rw [hr_80.1, ← hq_212]; show _ = (if 9 < 13 then _ else 0); rw [if_pos (by decide)]; congr 2
              refine lv_imul hx hb dX10_other_98 ?_
              refine lv_topi (fun x_82 ex_82 => ?_)
              have mx_82 : x_75.toInt = 0 → x_82.toInt = 0 := fun z => by rw [ex_82]; exact hx_mul0 z
              obtain ⟨zm_83, zm_83l, zm_83h⟩ := hv_mul9 ⟨by omega, by omega⟩ ⟨by omega, by omega⟩ ex_82
              refine lv_aload_n hx hb dX10_other_99 rfl (lv_at hl 6 rfl) ?_
              refine lv_iload_n hx hb dX10_other_100 rfl (lv_at hl 5 rfl) ?_
              refine lv_bipush (v := 10) hx hb dX10_other_101 (by decide) ?_
              have zc_10 : (10 : Int32).toInt = 10 := by decide
              refine hx_goi (hx_runV (As := [.int x_16, .int (10 : Int32)]) (rest := [.int x_82, .int iv39_5]) ⟨hx, hb, hml, hown, hts⟩ hW (gx.S hM) tt_10 (T := TX10) (N := 98) rfl (t_X10_ruleOf_v l dC dI dA L_76 h_77 H.size x x_16 (10 : Int32) hT (gx.S hM) rrl (grrl.S hM) ((hM.o gx trivial rfl).2.trans f_x_3) rlf (hx_afS hM grrl rfl af_rrl) ⟨by omega, by omega⟩ (by decide)) (cwV 2 hts (hx_gV kw_1533 kw_1530 kw_1532 kw_66 kw_103) rfl rfl rfl (by decide +kernel) ⟨Nat.le_of_ble_eq_true rfl, Nat.le_of_ble_eq_true rfl⟩) rfl hl.1 rfl (Nat.le_of_ble_eq_true rfl) dX10_other_103 ⟨Nat.le_of_ble_eq_true rfl, Nat.le_of_ble_eq_true rfl⟩) hW (fun r_86 L_84 h_85 H locs p_87 hW => ?_)
              obtain ⟨hr_88, hT, hs⟩ := p_87
              replace hT : hx_T T_tb L_84 h_85 := hT
              replace hs : hx_S T_tb [] L_76 h_77 L_84 h_85 := hs
              replace ex_19 := ex_19.trans (hs.a (grho.S hM) rfl _).1.symm
              replace ex_75 := ex_75.trans (hs.a (grtr.S hM) rfl _).1.symm
              replace hM := hM.tr (hs.mono (by decide))
              have hR_89 : r_86.toInt = (A (i1.toInt + 1).toNat).2.1 10 := by rw [hr_88.1, ← hq_212]; show _ = (if 10 < 13 then _ else 0); rw [if_pos (by decide)]; congr 2
              refine lv_iadd hx hb dX10_other_106 ?_
              have rg_90 := i32_r x_82
              have rg_91 := i32_r r_86
              refine lv_topi (fun x_92 ex_92 => ?_)
              have zx_92 : x_92.toInt = x_82.toInt + r_86.toInt := by rw [ex_92]; exact i32_add rfl rfl (by omega) (by omega)
              refine lv_iload hx hb dX10_other_107 (lv_at hl 1 rfl) ?_
              refine lv_iconst (v := 5) hx hb dX10_other_109 (by decide) ?_
              refine hb_icmp_ne (zx := r_24.toInt) (zy := 5) (tgt := 123) hx hb rfl (by decide) dX10_other_110 (by decide) (fun c_93 => ?_) (fun c_93 => ?_)
              · skip
                refine lv_iconst (v := 0) hx hb dX10_other_123 (by decide) ?_
                refine lv_iadd hx hb dX10_other_124 ?_
                have rg_94 := i32_r x_92
                refine lv_topi (fun x_95 ex_95 => ?_)
                have zx_95 : x_95.toInt = x_92.toInt + 0 := by rw [ex_95]; exact i32_add rfl (by decide) (by omega) (by omega)
                refine lv_iadd hx hb dX10_other_125 ?_
                have rg_96 := i32_r iv39_5
                have rg_97 := i32_r x_95
                refine lv_topi (fun x_98 ex_98 => ?_)
                have zx_98 : x_98.toInt = iv39_5.toInt + x_95.toInt := by rw [ex_98]; exact i32_add rfl rfl (by omega) (by omega)
                refine lv_istore (lv' := [(5, .int x_98), (4, .int x_74), (8, .int r_24), (7, .int x_19), (6, .int iv39_6), (3, .int x_16), (0, .ref x), (1, .int i1), (2, .int i2)]) hx hb dX10_other_126 hl (by decide) rfl (fun ls hl => ?_)
                obtain ⟨x_99, ex_99⟩ : ∃ y : Int32, y = iv39_6 + Int32.ofInt 1 := ⟨_, rfl⟩
                have rg_100 := i32_r iv39_6
                have zx_99 : x_99.toInt = iv39_6.toInt + (1) := by rw [ex_99]; exact i32_add rfl (by decide) (by omega) (by omega)
                refine lv_iinc (v := x_99) (lv' := [(6, .int x_99), (5, .int x_98), (4, .int x_74), (8, .int r_24), (7, .int x_19), (3, .int x_16), (0, .ref x), (1, .int i1), (2, .int i2)]) hx hb dX10_other_128 hl (k := 4) rfl ex_99.symm (by decide) rfl (fun ls hl => ?_)
                refine lv_goto (tgt := 39) hx hb dX10_other_131 (by decide) ?_
                obtain ⟨fa_101, nfa_101⟩ : ∃ g : Nat → Int32, h_85.2.1 rst = g := ⟨_, rfl⟩
                exact ih39 x_74 x_98 x_99 fa_101 _ _ L_84 h_85 (by omega) (by omega) (by omega) (by omega) (by omega) (by omega) (by by_cases z9 : r_24.toInt = i2.toInt; exact hv_oc_y vi39_0 (by rw [← hJ_27]; exact z9) (by omega) (by omega) zx_99; exact hv_oc_n vi39_0 (by rw [← hJ_27]; exact z9) (by omega) (by omega) zx_99) (hv_os_s vi39_1 (c := x_95.toInt) (by show _ = (tf (hof _).toNatClampNeg).toInt * _ + _ + _; rw [← ct9, ← hJ_27, ← hR_81, ← hR_89]; rw [if_neg (show ¬ r_24.toInt = 5 by omega)]; omega) (by omega) zx_98 zx_99) (by omega) (by omega) (by omega) ls (by omega) hW hT hM  nfa_101 (lv_sub hl [0, 1, 2, 5, 6, 7, 8] rfl)
              · skip
                refine lv_aload_n hx hb dX10_other_113 rfl (lv_at hl 6 rfl) ?_
                refine lv_iload_n hx hb dX10_other_114 rfl (lv_at hl 5 rfl) ?_
                refine lv_bipush (v := 11) hx hb dX10_other_115 (by decide) ?_
                have zc_11 : (11 : Int32).toInt = 11 := by decide
                refine hx_goi (hx_runV (As := [.int x_16, .int (11 : Int32)]) (rest := [.int x_92, .int iv39_5]) ⟨hx, hb, hml, hown, hts⟩ hW (gx.S hM) tt_10 (T := TX10) (N := 98) rfl (t_X10_ruleOf_v l dC dI dA L_84 h_85 H.size x x_16 (11 : Int32) hT (gx.S hM) rrl (grrl.S hM) ((hM.o gx trivial rfl).2.trans f_x_3) rlf (hx_afS hM grrl rfl af_rrl) ⟨by omega, by omega⟩ (by decide)) (cwV 2 hts (hx_gV kw_1533 kw_1530 kw_1532 kw_66 kw_103) rfl rfl rfl (by decide +kernel) ⟨Nat.le_of_ble_eq_true rfl, Nat.le_of_ble_eq_true rfl⟩) rfl hl.1 rfl (Nat.le_of_ble_eq_true rfl) dX10_other_117 ⟨Nat.le_of_ble_eq_true rfl, Nat.le_of_ble_eq_true rfl⟩) hW (fun r_104 L_102 h_103 H locs p_105 hW => ?_)
                obtain ⟨hr_106, hT, hs⟩ := p_105
                replace hT : hx_T T_tb L_102 h_103 := hT
                replace hs : hx_S T_tb [] L_84 h_85 L_102 h_103 := hs
                replace ex_19 := ex_19.trans (hs.a (grho.S hM) rfl _).1.symm
                replace ex_75 := ex_75.trans (hs.a (grtr.S hM) rfl _).1.symm
                replace hM := hM.tr (hs.mono (by decide))
                have hR_107 : r_104.toInt = (A (i1.toInt + 1).toNat).2.1 11 := by rw [hr_106.1, ← hq_212]; show _ = (if 11 < 13 then _ else 0); rw [if_pos (by decide)]; congr 2
                refine lv_goto (tgt := 124) hx hb dX10_other_120 (by decide) ?_
                refine lv_iadd hx hb dX10_other_124 ?_
                have rg_108 := i32_r x_92
                have rg_109 := i32_r r_104
                refine lv_topi (fun x_110 ex_110 => ?_)
                have zx_110 : x_110.toInt = x_92.toInt + r_104.toInt := by rw [ex_110]; exact i32_add rfl rfl (by omega) (by omega)
                refine lv_iadd hx hb dX10_other_125 ?_
                have rg_111 := i32_r iv39_5
                have rg_112 := i32_r x_110
                refine lv_topi (fun x_113 ex_113 => ?_)
                have zx_113 : x_113.toInt = iv39_5.toInt + x_110.toInt := by rw [ex_113]; exact i32_add rfl rfl (by omega) (by omega)
                refine lv_istore (lv' := [(5, .int x_113), (4, .int x_74), (8, .int r_24), (7, .int x_19), (6, .int iv39_6), (3, .int x_16), (0, .ref x), (1, .int i1), (2, .int i2)]) hx hb dX10_other_126 hl (by decide) rfl (fun ls hl => ?_)
                obtain ⟨x_114, ex_114⟩ : ∃ y : Int32, y = iv39_6 + Int32.ofInt 1 := ⟨_, rfl⟩
                have rg_115 := i32_r iv39_6
                have zx_114 : x_114.toInt = iv39_6.toInt + (1) := by rw [ex_114]; exact i32_add rfl (by decide) (by omega) (by omega)
                refine lv_iinc (v := x_114) (lv' := [(6, .int x_114), (5, .int x_113), (4, .int x_74), (8, .int r_24), (7, .int x_19), (3, .int x_16), (0, .ref x), (1, .int i1), (2, .int i2)]) hx hb dX10_other_128 hl (k := 4) rfl ex_114.symm (by decide) rfl (fun ls hl => ?_)
                refine lv_goto (tgt := 39) hx hb dX10_other_131 (by decide) ?_
                obtain ⟨fa_116, nfa_116⟩ : ∃ g : Nat → Int32, h_103.2.1 rst = g := ⟨_, rfl⟩
                exact ih39 x_74 x_113 x_114 fa_116 _ _ L_102 h_103 (by omega) (by omega) (by omega) (by omega) (by omega) (by omega) (by by_cases z9 : r_24.toInt = i2.toInt; exact hv_oc_y vi39_0 (by rw [← hJ_27]; exact z9) (by omega) (by omega) zx_114; exact hv_oc_n vi39_0 (by rw [← hJ_27]; exact z9) (by omega) (by omega) zx_114) (hv_os_s vi39_1 (c := x_110.toInt) (by show _ = (tf (hof _).toNatClampNeg).toInt * _ + _ + _; rw [← ct9, ← hJ_27, ← hR_81, ← hR_89]; rw [if_pos (show r_24.toInt = 5 by omega), ← hR_107]; omega) (by omega) zx_113 zx_114) (by omega) (by omega) (by omega) ls (by omega) hW hT hM  nfa_116 (lv_sub hl [0, 1, 2, 5, 6, 7, 8] rfl)
      have zk_0 : (0 : Int32).toInt = 0 := by decide
      have zk_0 : (0 : Int32).toInt = 0 := by decide
      have zk_0 : (0 : Int32).toInt = 0 := by decide
      exact loop39 101 (0 : Int32) (0 : Int32) (0 : Int32) skf _ _ L_9 h_10 (by decide) (by decide) (by decide) (by decide) (by decide) (by decide) (by rw [zk_0]; rfl) (by rw [zk_0]; rfl) (by omega) (by omega) (by omega) ls (by omega) hW hT hM  af_rst hl
    · skip
      replace hr_13 := hr_13.resolve_right (fun z9 => absurd (c_14.symm.trans z9.1) (by decide))
      replace hr_13 := hr_13.2
      refine lv_iconst (v := -1) hx hb dX10_other_24 (by decide) ?_
      exact hx_reti hx hb hr hlk hW ⟨(Or.inl ⟨by omega, by decide⟩), hT, hM⟩ dX10_other_25
