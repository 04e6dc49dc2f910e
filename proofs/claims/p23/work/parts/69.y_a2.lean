
set_option maxHeartbeats 4000000 in
set_option maxRecDepth 100000 in
theorem t_X10_ruleOf_v (l : Launch) (dC : Nat → ClassId) (dI : Nat → Nat → Nat) (dA : Nat → ClassId) (L : List Nat) (h : hx_h) (sz : Nat) (x : Nat) (i1 : Int32) (i2 : Int32) (hT : hx_T T_tb L h) (gx : hx_g L h x 10) (ql : Nat) (gql : hx_g L h ql 50) (f_x_3 : h.2.2 x 3 = some ql) (rf : Nat → Int32) (af_ql : h.2.1 ql = rf) (hi1 : 0 ≤ i1.toInt ∧ i1.toInt ≤ 8) (hi2 : 0 ≤ i2.toInt ∧ i2.toInt ≤ 12) : Met l yX10_ruleOf (Cond.code yX10_ruleOf cX10_ruleOf 3 (some .int) :: hx_all) ({ frames := 0, cells := 0, slots := 0, locals := 0 }) (va_Pc [.ref x, .int i1, .int i2] (hx_B T_tb (P_ty dA) (dC, dI) vwCl L h sz)) (va_Qi (fun (r : Int32) (u : List Nat × hx_h) => (r = rf (13 * i1.toInt.toNat + i2.toInt.toNat) ∧ (0 ≤ r.toInt ∧ r.toInt ≤ 9999)) ∧ hx_T T_tb u.1 u.2 ∧ hx_S T_tb [] L h u.1 u.2) (hx_E T_tb (P_ty dA) (dC, dI) vwCl (hx_A L sz)) (hx_A L sz)) 0 0 (hx_A L sz) := by
  refine hx_met (lv := [(0, .ref x), (1, .int i1), (2, .int i2)]) (by decide +kernel) rfl (Nat.le_of_ble_eq_true rfl) rfl ?_
  intro p e s m below meth c hx hb hml hr hlk hts0 hown hin hsz hW ls hl
  have hts : ∀ w ∈ hx_all, w.before _ s = true := fun w hw => hts0 w (List.mem_cons_of_mem _ hw)
  have hown : s.vm.findClass "SmallCourtModel" = some m.cls := hown
  have hM : hx_S T_tb [] L h L h := hx_S.rf
  refine lv_aload_n hx hb dX10_ruleOf_0 rfl (lv_at hl 0 rfl) ?_
  refine hk_getr hx hb hts hC_10 hown hW (gx.S hM) tt_10 3 (by decide) rfl kw_1146 ⟨rfl, rfl, rfl⟩ ((hM.o gx trivial rfl).2.trans f_x_3) dX10_ruleOf_1 ?_
  refine lv_bipush (v := 13) hx hb dX10_ruleOf_4 (by decide) ?_
  refine lv_iload_n hx hb dX10_ruleOf_6 rfl (lv_at hl 1 rfl) ?_
  refine lv_imul hx hb dX10_ruleOf_7 ?_
  refine lv_topi (fun x_1 ex_1 => ?_)
  have zx_1 : x_1.toInt = 13 * i1.toInt := by rw [ex_1]; exact i32_mul (by decide) rfl rfl (by omega) (by omega)
  refine lv_iload_n hx hb dX10_ruleOf_8 rfl (lv_at hl 2 rfl) ?_
  refine lv_iadd hx hb dX10_ruleOf_9 ?_
  have rg_2 := i32_r x_1
  have rg_3 := i32_r i2
  refine lv_topi (fun x_4 ex_4 => ?_)
  have zx_4 : x_4.toInt = x_1.toInt + i2.toInt := by rw [ex_4]; exact i32_add rfl rfl (by omega) (by omega)
  refine hx_iald hx hb hW hT (gql.S hM) tt_50 rfl ⟨by omega, by omega⟩ dX10_ruleOf_10 (fun x_5 ex_5 lx_5 ux_5 => ?_)
  have ax_5 : x_5 = rf x_4.toNatClampNeg := ex_5.trans (congrFun (hx_afS hM gql rfl af_ql) _)
  exact hx_reti hx hb hr hlk hW ⟨⟨(by rw [ax_5]; congr 1; unfold Int32.toNatClampNeg; omega), by omega⟩, hT, hM⟩ dX10_ruleOf_11


set_option maxHeartbeats 4000000 in
set_option maxRecDepth 100000 in
theorem t_X10_inForce_v (l : Launch) (dC : Nat → ClassId) (dI : Nat → Nat → Nat) (dA : Nat → ClassId) (L : List Nat) (h : hx_h) (sz : Nat) (x : Nat) (i1 : Int32) (hT : hx_T T_tb L h) (gx : hx_g L h x 10) (qd : Nat) (gqd : hx_g L h qd 49) (f_x_2 : h.2.2 x 2 = some qd) (ql : Nat) (gql : hx_g L h ql 50) (f_x_3 : h.2.2 x 3 = some ql) (qn : Nat) (gqn : hx_g L h qn 51) (f_x_4 : h.2.2 x 4 = some qn) (qp : Nat) (gqp : hx_g L h qp 52) (f_x_5 : h.2.2 x 5 = some qp) (adf : Nat → Int32) (af_qd : h.2.1 qd = adf) (rf : Nat → Int32) (af_ql : h.2.1 ql = rf) (psf : Nat → Int32) (af_qn : h.2.1 qn = psf) (prf : Nat → Int32) (af_qp : h.2.1 qp = prf) (a0 : Int32) (f_x_1 : h.2.1 x 1 = a0) (A : Nat → hv_act) (hCA : hv_CA adf rf psf prf a0.toInt A) : Met l yX10_inForce (Cond.code yX10_inForce cX10_inForce 4 (some .int) :: hx_all) ({ frames := 0, cells := 0, slots := 0, locals := 0 }) (va_Pc [.ref x, .int i1] (hx_B T_tb (P_ty dA) (dC, dI) vwCl L h sz)) (va_Qi (fun (r : Int32) (u : List Nat × hx_h) => (r.toInt = (hv_IF A i1.toInt a0.toInt.toNat : Int) ∧ (0 ≤ r.toInt ∧ r.toInt ≤ a0.toInt)) ∧ hx_T T_tb u.1 u.2 ∧ hx_S T_tb [] L h u.1 u.2) (hx_E T_tb (P_ty dA) (dC, dI) vwCl (hx_A L sz)) (hx_A L sz)) 0 0 (hx_A L sz) := by
  refine hx_met (lv := [(0, .ref x), (1, .int i1)]) (by decide +kernel) rfl (Nat.le_of_ble_eq_true rfl) rfl ?_
  intro p e s m below meth c hx hb hml hr hlk hts0 hown hin hsz hW ls hl
  have hts : ∀ w ∈ hx_all, w.before _ s = true := fun w hw => hts0 w (List.mem_cons_of_mem _ hw)
  have hown : s.vm.findClass "SmallCourtModel" = some m.cls := hown
  have hM : hx_S T_tb [] L h L h := hx_S.rf
  have b_a0 := hT.gi gx tt_10 (k := 1) rfl
  rw [f_x_1] at b_a0
  have b_a0 : 0 ≤ a0.toInt ∧ a0.toInt ≤ 8 := b_a0
  refine lv_iconst (v := 0) hx hb dX10_inForce_0 (by decide) ?_
  refine lv_istore_n (lv' := [(2, .int (0 : Int32)), (0, .ref x), (1, .int i1)]) hx hb dX10_inForce_1 rfl hl (by decide) rfl (fun ls hl => ?_)
  refine lv_iconst (v := 1) hx hb dX10_inForce_2 (by decide) ?_
  refine lv_istore_n (lv' := [(3, .int (1 : Int32)), (2, .int (0 : Int32)), (0, .ref x), (1, .int i1)]) hx hb dX10_inForce_3 rfl hl (by decide) rfl (fun ls hl => ?_)
  have loop4 : ∀ (n4 : Nat) (iv4_2 iv4_3 : Int32) (H : Heap) (locs : List Loc) (hL1 : List Nat) (hl1 : hx_h), 0 ≤ iv4_2.toInt → iv4_2.toInt ≤ 8 → 1 ≤ iv4_3.toInt → iv4_3.toInt ≤ 9 → (((hv_IF A i1.toInt (iv4_3.toInt - 1).toNat : Nat) : Int) = iv4_2.toInt) → (iv4_2.toInt ≤ iv4_3.toInt - 1) → (iv4_3.toInt ≤ a0.toInt + 1) → ∀ (ls : Array Slot), 9 - iv4_3.toInt < (n4 : Int) → hx_W T_tb (P_ty dA) (dC, dI) vwCl (hx_A L sz) s.heap hL1 hl1 s H locs → hx_T T_tb hL1 hl1 → hx_S T_tb [] L h hL1 hl1 → lv_has ls 4 [(3, .int iv4_3), (2, .int iv4_2), (0, .ref x), (1, .int i1)] → W p l e ({ frames := 0, cells := 0, slots := 0, locals := 0 }) s m ([.ref x, .int i1] : List Value).toArray below meth c H locs 0 0 (MQ below (va_Qi (fun (r : Int32) (u : List Nat × hx_h) => (r.toInt = (hv_IF A i1.toInt a0.toInt.toNat : Int) ∧ (0 ≤ r.toInt ∧ r.toInt ≤ a0.toInt)) ∧ hx_T T_tb u.1 u.2 ∧ hx_S T_tb [] L h u.1 u.2) (hx_E T_tb (P_ty dA) (dC, dI) vwCl (hx_A L sz)) (hx_A L sz)) ([.ref x, .int i1] : List Value).toArray s 0 0 (hx_A L sz)) (F0 m 4 ls []) := by
    intro n4
    induction n4 with
    | zero => intro iv4_2 iv4_3 H locs hL1 hl1 bliv4_2 buiv4_2 bliv4_3 buiv4_3 vi4_0 vi4_1 vi4_2 ls hn4; exfalso; omega
    | succ n4 ih4 =>
      intro iv4_2 iv4_3 H locs hL1 hl1 bliv4_2 buiv4_2 bliv4_3 buiv4_3 vi4_0 vi4_1 vi4_2 ls hn4 hW hT hM   hl
      have hk9 := vi4_0
      refine lv_iload_n hx hb dX10_inForce_4 rfl (lv_at hl 0 rfl) ?_
      refine lv_aload_n hx hb dX10_inForce_5 rfl (lv_at hl 2 rfl) ?_
      refine hk_geti hx hb hts hC_10 hown hW (gx.S hM) tt_10 1 (by decide) rfl kw_1144 ⟨rfl, rfl, rfl⟩ ((hM.o gx trivial rfl).1.trans f_x_1) dX10_inForce_6 ?_
      refine hb_icmp_gt (zx := iv4_3.toInt) (zy := a0.toInt) (tgt := 49) hx hb rfl rfl dX10_inForce_9 (by decide) (fun c_1 => ?_) (fun c_1 => ?_)
      · skip
        refine lv_iload_n hx hb dX10_inForce_49 rfl (lv_at hl 1 rfl) ?_
        exact hx_reti hx hb hr hlk hW ⟨⟨(by have h7 := vi4_0; rw [show (iv4_3.toInt - 1).toNat = a0.toInt.toNat by omega] at h7; omega), by omega, by omega⟩, hT, hM⟩ dX10_inForce_50
      · skip
        refine lv_aload_n hx hb dX10_inForce_12 rfl (lv_at hl 2 rfl) ?_
        refine hk_getr hx hb hts hC_10 hown hW (gx.S hM) tt_10 2 (by decide) rfl kw_1145 ⟨rfl, rfl, rfl⟩ ((hM.o gx trivial rfl).2.trans f_x_2) dX10_inForce_13 ?_
        refine lv_iload_n hx hb dX10_inForce_16 rfl (lv_at hl 0 rfl) ?_
        refine hx_iald hx hb hW hT (gqd.S hM) tt_49 rfl ⟨by omega, by omega⟩ dX10_inForce_17 (fun x_2 ex_2 lx_2 ux_2 => ?_)
        have ax_2 : x_2 = adf iv4_3.toNatClampNeg := ex_2.trans (congrFun (hx_afS hM gqd rfl af_qd) _)
        have hdx_2 : x_2.toInt = (A (iv4_3.toInt.toNat - 1 + 1)).1 ∧ 0 ≤ x_2.toInt := by have h8 := (hCA.2 iv4_3.toInt.toNat (by omega)).1.2 (by omega); rw [show iv4_3.toInt.toNat - 1 + 1 = iv4_3.toInt.toNat by omega, ax_2]; exact ⟨h8.1, by show 0 ≤ (adf iv4_3.toInt.toNat).toInt; omega⟩
        refine lv_iload_n hx hb dX10_inForce_18 rfl (lv_at hl 3 rfl) ?_
        refine hb_icmp_gt (zx := x_2.toInt) (zy := i1.toInt) (tgt := 43) hx hb rfl rfl dX10_inForce_19 (by decide) (fun c_3 => ?_) (fun c_3 => ?_)
        · skip
          obtain ⟨x_4, ex_4⟩ : ∃ y : Int32, y = iv4_3 + Int32.ofInt 1 := ⟨_, rfl⟩
          have rg_5 := i32_r iv4_3
          have zx_4 : x_4.toInt = iv4_3.toInt + (1) := by rw [ex_4]; exact i32_add rfl (by decide) (by omega) (by omega)
          refine lv_iinc (v := x_4) (lv' := [(3, .int x_4), (2, .int iv4_2), (0, .ref x), (1, .int i1)]) hx hb dX10_inForce_43 hl (k := 0) rfl ex_4.symm (by decide) rfl (fun ls hl => ?_)
          refine lv_goto (tgt := 4) hx hb dX10_inForce_46 (by decide) ?_
          exact ih4 iv4_2 x_4 _ _ hL1 hl1 (by omega) (by omega) (by omega) (by omega) (by have h7 := hv_IF_n (A := A) (d := i1.toInt) (l := iv4_3.toInt - 1) (l1 := x_4.toInt - 1) (fun z9 => by have z8 := z9.1; have z7 := z9.2; rw [show ((iv4_3.toInt - 1).toNat + 1) = iv4_3.toInt.toNat - 1 + 1 by omega] at z8 z7; omega) (by omega) (show x_4.toInt - 1 = (iv4_3.toInt - 1) + 1 by omega); omega) (by omega) (by omega) ls (by omega) hW hT hM   (lv_sub hl [0, 1, 2, 3] rfl)
        · skip
          refine lv_iload_n hx hb dX10_inForce_22 rfl (lv_at hl 1 rfl) ?_
          refine hb_if_eq (zx := iv4_2.toInt) (tgt := 41) hx hb rfl dX10_inForce_23 (by decide) (fun c_6 => ?_) (fun c_6 => ?_)
          · skip
            have hz9 : (A (hv_IF A i1.toInt (iv4_3.toInt - 1).toNat)).1 ≤ (A (iv4_3.toInt.toNat - 1 + 1)).1 := by first | omega | (rw [show hv_IF A i1.toInt (iv4_3.toInt - 1).toNat = 0 by omega, hCA.1]; omega)
            refine lv_iload_n hx hb dX10_inForce_41 rfl (lv_at hl 0 rfl) ?_
            refine lv_istore_n (lv' := [(2, .int iv4_3), (3, .int iv4_3), (0, .ref x), (1, .int i1)]) hx hb dX10_inForce_42 rfl hl (by decide) rfl (fun ls hl => ?_)
            obtain ⟨x_7, ex_7⟩ : ∃ y : Int32, y = iv4_3 + Int32.ofInt 1 := ⟨_, rfl⟩
            have rg_8 := i32_r iv4_3
            have zx_7 : x_7.toInt = iv4_3.toInt + (1) := by rw [ex_7]; exact i32_add rfl (by decide) (by omega) (by omega)
            refine lv_iinc (v := x_7) (lv' := [(3, .int x_7), (2, .int iv4_3), (0, .ref x), (1, .int i1)]) hx hb dX10_inForce_43 hl (k := 1) rfl ex_7.symm (by decide) rfl (fun ls hl => ?_)
            refine lv_goto (tgt := 4) hx hb dX10_inForce_46 (by decide) ?_
            exact ih4 iv4_3 x_7 _ _ hL1 hl1 (by omega) (by omega) (by omega) (by omega) (by have h7 := hv_IF_y (A := A) (d := i1.toInt) (l := iv4_3.toInt - 1) (l1 := x_7.toInt - 1) ⟨(by rw [show (iv4_3.toInt - 1).toNat = iv4_3.toInt.toNat - 1 by omega]; omega), (by rw [show ((iv4_3.toInt - 1).toNat + 1) = iv4_3.toInt.toNat - 1 + 1 by omega]; exact hz9)⟩ (by omega) (show x_7.toInt - 1 = (iv4_3.toInt - 1) + 1 by omega); omega) (by omega) (by omega) ls (by omega) hW hT hM   (lv_sub hl [0, 1, 2, 3] rfl)
          · skip
            refine lv_aload_n hx hb dX10_inForce_26 rfl (lv_at hl 2 rfl) ?_
            refine hk_getr hx hb hts hC_10 hown hW (gx.S hM) tt_10 2 (by decide) rfl kw_1145 ⟨rfl, rfl, rfl⟩ ((hM.o gx trivial rfl).2.trans f_x_2) dX10_inForce_27 ?_
            refine lv_iload_n hx hb dX10_inForce_30 rfl (lv_at hl 0 rfl) ?_
            refine hx_iald hx hb hW hT (gqd.S hM) tt_49 rfl ⟨by omega, by omega⟩ dX10_inForce_31 (fun x_9 ex_9 lx_9 ux_9 => ?_)
            have ax_9 : x_9 = adf iv4_3.toNatClampNeg := ex_9.trans (congrFun (hx_afS hM gqd rfl af_qd) _)
            obtain rfl : x_2 = x_9 := ex_2.trans ex_9.symm
            refine lv_aload_n hx hb dX10_inForce_32 rfl (lv_at hl 2 rfl) ?_
            refine hk_getr hx hb hts hC_10 hown hW (gx.S hM) tt_10 2 (by decide) rfl kw_1145 ⟨rfl, rfl, rfl⟩ ((hM.o gx trivial rfl).2.trans f_x_2) dX10_inForce_33 ?_
            refine lv_iload_n hx hb dX10_inForce_36 rfl (lv_at hl 1 rfl) ?_
            refine hx_iald hx hb hW hT (gqd.S hM) tt_49 rfl ⟨by omega, by omega⟩ dX10_inForce_37 (fun x_10 ex_10 lx_10 ux_10 => ?_)
            have ax_10 : x_10 = adf iv4_2.toNatClampNeg := ex_10.trans (congrFun (hx_afS hM gqd rfl af_qd) _)
            have hdx_10 : x_10.toInt = (A (hv_IF A i1.toInt (iv4_3.toInt - 1).toNat)).1 := by have h8 := (hCA.2 iv4_2.toInt.toNat (by omega)).1.2 (by omega); rw [show hv_IF A i1.toInt (iv4_3.toInt - 1).toNat = iv4_2.toInt.toNat by omega, ax_10]; exact h8.1
            refine hb_icmp_lt (zx := x_2.toInt) (zy := x_10.toInt) (tgt := 43) hx hb rfl rfl dX10_inForce_38 (by decide) (fun c_11 => ?_) (fun c_11 => ?_)
            · skip
              obtain ⟨x_12, ex_12⟩ : ∃ y : Int32, y = iv4_3 + Int32.ofInt 1 := ⟨_, rfl⟩
              have rg_13 := i32_r iv4_3
              have zx_12 : x_12.toInt = iv4_3.toInt + (1) := by rw [ex_12]; exact i32_add rfl (by decide) (by omega) (by omega)
              refine lv_iinc (v := x_12) (lv' := [(3, .int x_12), (2, .int iv4_2), (0, .ref x), (1, .int i1)]) hx hb dX10_inForce_43 hl (k := 0) rfl ex_12.symm (by decide) rfl (fun ls hl => ?_)
              refine lv_goto (tgt := 4) hx hb dX10_inForce_46 (by decide) ?_
              exact ih4 iv4_2 x_12 _ _ hL1 hl1 (by omega) (by omega) (by omega) (by omega) (by have h7 := hv_IF_n (A := A) (d := i1.toInt) (l := iv4_3.toInt - 1) (l1 := x_12.toInt - 1) (fun z9 => by have z8 := z9.1; have z7 := z9.2; rw [show ((iv4_3.toInt - 1).toNat + 1) = iv4_3.toInt.toNat - 1 + 1 by omega] at z8 z7; omega) (by omega) (show x_12.toInt - 1 = (iv4_3.toInt - 1) + 1 by omega); omega) (by omega) (by omega) ls (by omega) hW hT hM   (lv_sub hl [0, 1, 2, 3] rfl)
            · skip
              have hz9 : (A (hv_IF A i1.toInt (iv4_3.toInt - 1).toNat)).1 ≤ (A (iv4_3.toInt.toNat - 1 + 1)).1 := by first | omega | (rw [show hv_IF A i1.toInt (iv4_3.toInt - 1).toNat = 0 by omega, hCA.1]; omega)
              refine lv_iload_n hx hb dX10_inForce_41 rfl (lv_at hl 0 rfl) ?_
              refine lv_istore_n (lv' := [(2, .int iv4_3), (3, .int iv4_3), (0, .ref x), (1, .int i1)]) hx hb dX10_inForce_42 rfl hl (by decide) rfl (fun ls hl => ?_)
              obtain ⟨x_14, ex_14⟩ : ∃ y : Int32, y = iv4_3 + Int32.ofInt 1 := ⟨_, rfl⟩
              have rg_15 := i32_r iv4_3
              have zx_14 : x_14.toInt = iv4_3.toInt + (1) := by rw [ex_14]; exact i32_add rfl (by decide) (by omega) (by omega)
              refine lv_iinc (v := x_14) (lv' := [(3, .int x_14), (2, .int iv4_3), (0, .ref x), (1, .int i1)]) hx hb dX10_inForce_43 hl (k := 1) rfl ex_14.symm (by decide) rfl (fun ls hl => ?_)
              refine lv_goto (tgt := 4) hx hb dX10_inForce_46 (by decide) ?_
              exact ih4 iv4_3 x_14 _ _ hL1 hl1 (by omega) (by omega) (by omega) (by omega) (by have h7 := hv_IF_y (A := A) (d := i1.toInt) (l := iv4_3.toInt - 1) (l1 := x_14.toInt - 1) ⟨(by rw [show (iv4_3.toInt - 1).toNat = iv4_3.toInt.toNat - 1 by omega]; omega), (by rw [show ((iv4_3.toInt - 1).toNat + 1) = iv4_3.toInt.toNat - 1 + 1 by omega]; exact hz9)⟩ (by omega) (show x_14.toInt - 1 = (iv4_3.toInt - 1) + 1 by omega); omega) (by omega) (by omega) ls (by omega) hW hT hM   (lv_sub hl [0, 1, 2, 3] rfl)
  have zk_0 : (0 : Int32).toInt = 0 := by decide
  have zk_1 : (1 : Int32).toInt = 1 := by decide
  exact loop4 9 (0 : Int32) (1 : Int32) _ _ L h (by decide) (by decide) (by decide) (by decide) (by rw [show ((1 : Int32).toInt - 1).toNat = 0 from by decide]; rfl) (by omega) (by omega) ls (by omega) hW hT hM   hl


set_option maxHeartbeats 4000000 in
set_option maxRecDepth 100000 in
theorem t_X10_force_v (l : Launch) (dC : Nat → ClassId) (dI : Nat → Nat → Nat) (dA : Nat → ClassId) (L : List Nat) (h : hx_h) (sz : Nat) (x : Nat) (i1 : Int32) (i2 : Int32) (hT : hx_T T_tb L h) (gx : hx_g L h x 10) (qd : Nat) (gqd : hx_g L h qd 49) (f_x_2 : h.2.2 x 2 = some qd) (ql : Nat) (gql : hx_g L h ql 50) (f_x_3 : h.2.2 x 3 = some ql) (qn : Nat) (gqn : hx_g L h qn 51) (f_x_4 : h.2.2 x 4 = some qn) (qp : Nat) (gqp : hx_g L h qp 52) (f_x_5 : h.2.2 x 5 = some qp) (adf : Nat → Int32) (af_qd : h.2.1 qd = adf) (rf : Nat → Int32) (af_ql : h.2.1 ql = rf) (psf : Nat → Int32) (af_qn : h.2.1 qn = psf) (prf : Nat → Int32) (af_qp : h.2.1 qp = prf) (a0 : Int32) (f_x_1 : h.2.1 x 1 = a0) (A : Nat → hv_act) (hCA : hv_CA adf rf psf prf a0.toInt A) : Met l yX10_force (Cond.code yX10_force cX10_force 4 (some .int) :: hx_all) ({ frames := 2, cells := 0, slots := 0, locals := 42 }) (va_Pc [.ref x, .int i1, .int i2] (hx_B T_tb (P_ty dA) (dC, dI) vwCl L h sz)) (va_Qi (fun (r : Int32) (u : List Nat × hx_h) => (hv_FO A i1.toInt i2.toInt a0.toInt r.toInt) ∧ hx_T T_tb u.1 u.2 ∧ hx_S T_tb [] L h u.1 u.2) (hx_E T_tb (P_ty dA) (dC, dI) vwCl (hx_A L sz)) (hx_A L sz)) 0 0 (hx_A L sz) := by
  refine hx_met (lv := [(0, .ref x), (1, .int i1), (2, .int i2)]) (by decide +kernel) rfl (Nat.le_of_ble_eq_true rfl) rfl ?_
  intro p e s m below meth c hx hb hml hr hlk hts0 hown hin hsz hW ls hl
  have hts : ∀ w ∈ hx_all, w.before _ s = true := fun w hw => hts0 w (List.mem_cons_of_mem _ hw)
  have hown : s.vm.findClass "SmallCourtModel" = some m.cls := hown
  have hM : hx_S T_tb [] L h L h := hx_S.rf
  have b_a0 := hT.gi gx tt_10 (k := 1) rfl
  rw [f_x_1] at b_a0
  have b_a0 : 0 ≤ a0.toInt ∧ a0.toInt ≤ 8 := b_a0
  refine lv_iload_n hx hb dX10_force_0 rfl (lv_at hl 1 rfl) ?_
  refine hx_goi (hx_runS (As := [.int i1]) (rest := []) ⟨hx, hb, hml, hown, hts⟩ hW (t_X10_isDay l dC dI dA L h s.heap.size i1 hT) (va_cwS 1 hts (hx_gS kw_1464 kw_1462 kw_1463 kw_103) rfl rfl rfl (by decide +kernel) ⟨Nat.le_of_ble_eq_true rfl, Nat.le_of_ble_eq_true rfl⟩) rfl hl.1 rfl (Nat.le_of_ble_eq_true rfl) dX10_force_1 ⟨Nat.le_of_ble_eq_true rfl, Nat.le_of_ble_eq_true rfl⟩) hW (fun r_3 L_1 h_2 H locs p_4 hW => ?_)
  obtain ⟨hr_5, hT, hs⟩ := p_4
  replace hT : hx_T T_tb L_1 h_2 := hT
  replace hs : hx_S T_tb [] L h L_1 h_2 := hs
  replace hM := hM.tr (hs.mono (by decide))
  refine hb_if_eq (zx := r_3.toInt) (tgt := 17) hx hb rfl dX10_force_4 (by decide) (fun c_6 => ?_) (fun c_6 => ?_)
  · skip
    replace hr_5 := hr_5.resolve_right (fun z9 => absurd (c_6.symm.trans z9.1) (by decide))
    replace hr_5 := hr_5.2
    refine lv_iconst (v := -1) hx hb dX10_force_17 (by decide) ?_
    exact hx_reti hx hb hr hlk hW ⟨(Or.inl ⟨by omega, by decide⟩), hT, hM⟩ dX10_force_18
  · skip
    replace hr_5 := hr_5.resolve_left (fun z9 => c_6 z9.1)
    replace c_6 := hr_5.1
    replace hr_5 := hr_5.2
    refine lv_iload_n hx hb dX10_force_7 rfl (lv_at hl 2 rfl) ?_
    refine lv_iconst (v := 0) hx hb dX10_force_8 (by decide) ?_
    refine lv_bipush (v := 13) hx hb dX10_force_9 (by decide) ?_
    have zc_13 : (13 : Int32).toInt = 13 := by decide
    have zc_0 : (0 : Int32).toInt = 0 := by decide
    refine hx_goi (hx_runS (As := [.int i2, .int (0 : Int32), .int (13 : Int32)]) (rest := []) ⟨hx, hb, hml, hown, hts⟩ hW (t_X10_in l dC dI dA L_1 h_2 H.size i2 (0 : Int32) (13 : Int32) hT) (va_cwS 3 hts (hx_gS kw_1445 kw_1443 kw_1444 kw_103) rfl rfl rfl (by decide +kernel) ⟨Nat.le_of_ble_eq_true rfl, Nat.le_of_ble_eq_true rfl⟩) rfl hl.1 rfl (Nat.le_of_ble_eq_true rfl) dX10_force_11 ⟨Nat.le_of_ble_eq_true rfl, Nat.le_of_ble_eq_true rfl⟩) hW (fun r_9 L_7 h_8 H locs p_10 hW => ?_)
    obtain ⟨hr_11, hT, hs⟩ := p_10
    replace hT : hx_T T_tb L_7 h_8 := hT
    replace hs : hx_S T_tb [] L_1 h_2 L_7 h_8 := hs
    replace hM := hM.tr (hs.mono (by decide))
    refine hb_if_ne (zx := r_9.toInt) (tgt := 19) hx hb rfl dX10_force_14 (by decide) (fun c_12 => ?_) (fun c_12 => ?_)
    · skip
      replace hr_11 := hr_11.resolve_left (fun z9 => c_12 z9.1)
      replace c_12 := hr_11.1
      replace hr_11 := hr_11.2
      refine lv_aload_n hx hb dX10_force_19 rfl (lv_at hl 0 rfl) ?_
      refine lv_iload_n hx hb dX10_force_20 rfl (lv_at hl 1 rfl) ?_
      refine hx_goi (hx_runV (As := [.int i1]) (rest := []) ⟨hx, hb, hml, hown, hts⟩ hW (gx.S hM) tt_10 (T := TX10) (N := 98) rfl (t_X10_inForce_v l dC dI dA L_7 h_8 H.size x i1 hT (gx.S hM) qd (gqd.S hM) ((hM.o gx trivial rfl).2.trans f_x_2) ql (gql.S hM) ((hM.o gx trivial rfl).2.trans f_x_3) qn (gqn.S hM) ((hM.o gx trivial rfl).2.trans f_x_4) qp (gqp.S hM) ((hM.o gx trivial rfl).2.trans f_x_5) adf (hx_afS hM gqd rfl af_qd) rf (hx_afS hM gql rfl af_ql) psf (hx_afS hM gqn rfl af_qn) prf (hx_afS hM gqp rfl af_qp) a0 ((hM.o gx trivial rfl).1.trans f_x_1) A hCA) (cwV 1 hts (hx_gV kw_1529 kw_1526 kw_1528 kw_65 kw_103) rfl rfl rfl (by decide +kernel) ⟨Nat.le_of_ble_eq_true rfl, Nat.le_of_ble_eq_true rfl⟩) rfl hl.1 rfl (Nat.le_of_ble_eq_true rfl) dX10_force_21 ⟨Nat.le_of_ble_eq_true rfl, Nat.le_of_ble_eq_true rfl⟩) hW (fun r_15 L_13 h_14 H locs p_16 hW => ?_)
      obtain ⟨hr_17, hT, hs⟩ := p_16
      replace hT : hx_T T_tb L_13 h_14 := hT
      replace hs : hx_S T_tb [] L_7 h_8 L_13 h_14 := hs
      replace hM := hM.tr (hs.mono (by decide))
      refine lv_istore_n (lv' := [(3, .int r_15), (0, .ref x), (1, .int i1), (2, .int i2)]) hx hb dX10_force_24 rfl hl (by decide) rfl (fun ls hl => ?_)
      refine lv_iload_n hx hb dX10_force_25 rfl (lv_at hl 3 rfl) ?_
      refine hb_if_ne (zx := i2.toInt) (tgt := 35) hx hb rfl dX10_force_26 (by decide) (fun c_18 => ?_) (fun c_18 => ?_)
      · skip
        refine lv_aload_n hx hb dX10_force_35 rfl (lv_at hl 1 rfl) ?_
        refine lv_iload_n hx hb dX10_force_36 rfl (lv_at hl 0 rfl) ?_
        refine lv_iload_n hx hb dX10_force_37 rfl (lv_at hl 3 rfl) ?_
        refine lv_iconst (v := 1) hx hb dX10_force_38 (by decide) ?_
        refine lv_isub hx hb dX10_force_39 ?_
        have rg_19 := i32_r i2
        refine lv_topi (fun x_20 ex_20 => ?_)
        have zx_20 : x_20.toInt = i2.toInt - 1 := by rw [ex_20]; exact i32_sub rfl (by decide) (by omega) (by omega)
        refine hx_goi (hx_runV (As := [.int r_15, .int x_20]) (rest := []) ⟨hx, hb, hml, hown, hts⟩ hW (gx.S hM) tt_10 (T := TX10) (N := 98) rfl (t_X10_ruleOf_v l dC dI dA L_13 h_14 H.size x r_15 x_20 hT (gx.S hM) ql (gql.S hM) ((hM.o gx trivial rfl).2.trans f_x_3) rf (hx_afS hM gql rfl af_ql) ⟨by omega, by omega⟩ ⟨by omega, by omega⟩) (cwV 2 hts (hx_gV kw_1533 kw_1530 kw_1532 kw_66 kw_103) rfl rfl rfl (by decide +kernel) ⟨Nat.le_of_ble_eq_true rfl, Nat.le_of_ble_eq_true rfl⟩) rfl hl.1 rfl (Nat.le_of_ble_eq_true rfl) dX10_force_40 ⟨Nat.le_of_ble_eq_true rfl, Nat.le_of_ble_eq_true rfl⟩) hW (fun r_23 L_21 h_22 H locs p_24 hW => ?_)
        obtain ⟨hr_25, hT, hs⟩ := p_24
        replace hT : hx_T T_tb L_21 h_22 := hT
        replace hs : hx_S T_tb [] L_13 h_14 L_21 h_22 := hs
        replace hM := hM.tr (hs.mono (by decide))
        exact hx_reti hx hb hr hlk hW ⟨(Or.inr ⟨by omega, Or.inr ⟨by omega, (by have h8 := (hCA.2 (hv_IF A i1.toInt a0.toInt.toNat) (by have := hv_IF_b (A := A) (d := i1.toInt) a0.toInt.toNat; omega)).2.1; rw [← h8, hr_25.1]; show _ = (if (i2.toInt - 1).toNat < 13 then (_ : Int32).toInt else 0); rw [if_pos (by omega)]; congr 2; omega)⟩⟩), hT, hM⟩ dX10_force_43
      · skip
        refine lv_iload_n hx hb dX10_force_29 rfl (lv_at hl 0 rfl) ?_
        refine lv_iconst (v := 1) hx hb dX10_force_30 (by decide) ?_
        refine lv_isub hx hb dX10_force_31 ?_
        have rg_26 := i32_r r_15
        refine lv_topi (fun x_27 ex_27 => ?_)
        have zx_27 : x_27.toInt = r_15.toInt - 1 := by rw [ex_27]; exact i32_sub rfl (by decide) (by omega) (by omega)
        refine lv_goto (tgt := 43) hx hb dX10_force_32 (by decide) ?_
        exact hx_reti hx hb hr hlk hW ⟨(Or.inr ⟨by omega, Or.inl ⟨by omega, by omega⟩⟩), hT, hM⟩ dX10_force_43
    · skip
      replace hr_11 := hr_11.resolve_right (fun z9 => absurd (c_12.symm.trans z9.1) (by decide))
      replace hr_11 := hr_11.2
      refine lv_iconst (v := -1) hx hb dX10_force_17 (by decide) ?_
      exact hx_reti hx hb hr hlk hW ⟨(Or.inl ⟨by omega, by decide⟩), hT, hM⟩ dX10_force_18
