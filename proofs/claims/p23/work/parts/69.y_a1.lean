
set_option maxHeartbeats 4000000 in
set_option maxRecDepth 100000 in
theorem t_X9_inForce_v (l : Launch) (dC : Nat → ClassId) (dI : Nat → Nat → Nat) (dA : Nat → ClassId) (L : List Nat) (h : hx_h) (sz : Nat) (x : Nat) (i1 : Int32) (hT : hx_T T_tb L h) (gx : hx_g L h x 9) (qa : Nat) (gqa : hx_g L h qa 43) (f_x_5 : h.2.2 x 5 = some qa) (w : Nat) (gw : hx_g L h w 0) (f_x_4 : h.2.2 x 4 = some w)  (a0 : Int32) (f_x_6 : h.2.1 x 6 = a0) (A : Nat → hv_act) (hRA : hv_RA h qa w a0.toInt A) (pf_x_6 : ∀ j : Nat, (j : Int) < (h.2.1 x 6).toInt → h.2.2 qa j ≠ none) : Met l yX9_inForce (Cond.code yX9_inForce cX9_inForce 4 (some (.object "SmallCourt$Act")) :: hx_all) ({ frames := 0, cells := 0, slots := 0, locals := 0 }) (va_Pc [.ref x, .int i1] (hx_B T_tb (P_ty dA) (dC, dI) vwCl L h sz)) (va_Qq (fun (r : Option Nat) (u : List Nat × hx_h) => ((∃ q, r = some q ∧ hx_g u.1 u.2 q 0 ∧ (∃ k : Nat, k = hv_IF A i1.toInt a0.toInt.toNat ∧ hv_AQ u.2 q ((k : Int) - 1) (A k)))) ∧ hx_T T_tb u.1 u.2 ∧ hx_S T_tb [] L h u.1 u.2) (hx_E T_tb (P_ty dA) (dC, dI) vwCl (hx_A L sz)) (hx_A L sz)) 0 0 (hx_A L sz) := by
  refine hx_met (lv := [(0, .ref x), (1, .int i1)]) (by decide +kernel) rfl (Nat.le_of_ble_eq_true rfl) rfl ?_
  intro p e s m below meth c hx hb hml hr hlk hts0 hown hin hsz hW ls hl
  have hts : ∀ w ∈ hx_all, w.before _ s = true := fun w hw => hts0 w (List.mem_cons_of_mem _ hw)
  have hown : s.vm.findClass "SmallCourt" = some m.cls := hown
  have hM : hx_S T_tb [] L h L h := hx_S.rf
  have b_a0 := hT.gi gx tt_9 (k := 6) rfl
  rw [f_x_6] at b_a0
  have b_a0 : 0 ≤ a0.toInt ∧ a0.toInt ≤ 8 := b_a0
  refine lv_aload_n hx hb dX9_inForce_0 rfl (lv_at hl 0 rfl) ?_
  refine hk_getr hx hb hts hC_9 hown hW gx tt_9 4 (by decide) rfl kw_368 ⟨rfl, rfl, rfl⟩ f_x_4 dX9_inForce_1 ?_
  refine lv_astore_n (lv' := [(2, .ref w), (0, .ref x), (1, .int i1)]) hx hb dX9_inForce_4 rfl hl (by decide) rfl (fun ls hl => ?_)
  refine lv_iconst (v := 0) hx hb dX9_inForce_5 (by decide) ?_
  refine lv_istore_n (lv' := [(3, .int (0 : Int32)), (2, .ref w), (0, .ref x), (1, .int i1)]) hx hb dX9_inForce_6 rfl hl (by decide) rfl (fun ls hl => ?_)
  have loop7 : ∀ (n7 : Nat) (iv7_3 : Int32) (iv7_2 : Nat) (H : Heap) (locs : List Loc) (hL1 : List Nat) (hl1 : hx_h), 0 ≤ iv7_3.toInt → iv7_3.toInt ≤ 8 → (∃ k : Nat, k = hv_IF A i1.toInt (iv7_3.toInt).toNat ∧ hv_AQ hl1 iv7_2 ((k : Int) - 1) (A k)) → (iv7_3.toInt ≤ a0.toInt) → ∀ (ls : Array Slot), 8 - iv7_3.toInt < (n7 : Int) → hx_W T_tb (P_ty dA) (dC, dI) vwCl (hx_A L sz) s.heap hL1 hl1 s H locs → hx_T T_tb hL1 hl1 → hx_S T_tb [] L h hL1 hl1 → hl1.2.2 x 5 = some qa → hl1.2.2 x 4 = some w → hl1.2.1 x 6 = a0 → hx_g hL1 hl1 iv7_2 0 → hx_g hL1 hl1 x 9 → hx_g hL1 hl1 qa 43 → hx_g hL1 hl1 w 0 → (∀ j : Nat, (j : Int) < (hl1.2.1 x 6).toInt → hl1.2.2 qa j ≠ none) → hv_RA hl1 qa w a0.toInt A → lv_has ls 4 [(3, .int iv7_3), (2, .ref iv7_2), (0, .ref x), (1, .int i1)] → W p l e ({ frames := 0, cells := 0, slots := 0, locals := 0 }) s m ([.ref x, .int i1] : List Value).toArray below meth c H locs 0 0 (MQ below (va_Qq (fun (r : Option Nat) (u : List Nat × hx_h) => ((∃ q, r = some q ∧ hx_g u.1 u.2 q 0 ∧ (∃ k : Nat, k = hv_IF A i1.toInt a0.toInt.toNat ∧ hv_AQ u.2 q ((k : Int) - 1) (A k)))) ∧ hx_T T_tb u.1 u.2 ∧ hx_S T_tb [] L h u.1 u.2) (hx_E T_tb (P_ty dA) (dC, dI) vwCl (hx_A L sz)) (hx_A L sz)) ([.ref x, .int i1] : List Value).toArray s 0 0 (hx_A L sz)) (F0 m 7 ls []) := by
    intro n7
    induction n7 with
    | zero => intro iv7_3 iv7_2 H locs hL1 hl1 bliv7_3 buiv7_3 vi7_0 vi7_1 ls hn7; exfalso; omega
    | succ n7 ih7 =>
      intro iv7_3 iv7_2 H locs hL1 hl1 bliv7_3 buiv7_3 vi7_0 vi7_1 ls hn7 hW hT hM f_x_5 f_x_4 f_x_6 giv7_2 gx gqa gw pf_x_6 hRA hl
      obtain ⟨k9, e9, q9⟩ := vi7_0
      refine lv_iload_n hx hb dX9_inForce_7 rfl (lv_at hl 0 rfl) ?_
      refine lv_aload_n hx hb dX9_inForce_8 rfl (lv_at hl 2 rfl) ?_
      refine hk_geti hx hb hts hC_9 hown hW gx tt_9 6 (by decide) rfl kw_370 ⟨rfl, rfl, rfl⟩ f_x_6 dX9_inForce_9 ?_
      refine hb_icmp_ge (zx := iv7_3.toInt) (zy := a0.toInt) (tgt := 57) hx hb rfl rfl dX9_inForce_12 (by decide) (fun c_1 => ?_) (fun c_1 => ?_)
      · skip
        refine lv_aload_n hx hb dX9_inForce_57 rfl (lv_at hl 1 rfl) ?_
        exact hx_retq (v := (some iv7_2)) hx hb hr (Or.inl ⟨_, rfl⟩) hlk hW ⟨⟨_, rfl, giv7_2, (by have ez : iv7_3.toInt = a0.toInt := (by omega); rw [ez] at e9; exact ⟨k9, e9, q9⟩)⟩, hT, hM⟩ dX9_inForce_58
      · skip
        refine lv_aload_n hx hb dX9_inForce_15 rfl (lv_at hl 2 rfl) ?_
        refine hk_getr hx hb hts hC_9 hown hW gx tt_9 5 (by decide) rfl kw_369 ⟨rfl, rfl, rfl⟩ f_x_5 dX9_inForce_16 ?_
        refine lv_iload_n hx hb dX9_inForce_19 rfl (lv_at hl 0 rfl) ?_
        refine hx_aaldN hx hb hW hT gqa tt_43 (t1 := 0) rfl ⟨by omega, by omega⟩ (pf_x_6 _ (by rw [f_x_6]; exact hx_tnI (by omega) (by omega))) dX9_inForce_20 (fun q_2 fq_2 gq_2 => ?_)
        have ha1 := hRA.2 iv7_3.toInt.toNat (by omega) q_2 fq_2
        refine hx_geti hx hb hts hC_0 hown hW hT gq_2 tt_0 1 (by decide) rfl kw_165 ⟨rfl, rfl, rfl⟩ dX9_inForce_21 (fun x_3 ex_3 lx_3 ux_3 => ?_)
        have fx_3 := ex_3.symm
        have hd1 : x_3.toInt = (A (iv7_3.toInt.toNat + 1)).1 := by rw [← fx_3]; exact ha1.2.1
        refine lv_iload_n hx hb dX9_inForce_24 rfl (lv_at hl 3 rfl) ?_
        refine hb_icmp_gt (zx := x_3.toInt) (zy := i1.toInt) (tgt := 51) hx hb rfl rfl dX9_inForce_25 (by decide) (fun c_4 => ?_) (fun c_4 => ?_)
        · skip
          obtain ⟨x_5, ex_5⟩ : ∃ y : Int32, y = iv7_3 + Int32.ofInt 1 := ⟨_, rfl⟩
          have rg_6 := i32_r iv7_3
          have zx_5 : x_5.toInt = iv7_3.toInt + (1) := by rw [ex_5]; exact i32_add rfl (by decide) (by omega) (by omega)
          refine lv_iinc (v := x_5) (lv' := [(3, .int x_5), (2, .ref iv7_2), (0, .ref x), (1, .int i1)]) hx hb dX9_inForce_51 hl (k := 0) rfl ex_5.symm (by decide) rfl (fun ls hl => ?_)
          refine lv_goto (tgt := 7) hx hb dX9_inForce_54 (by decide) ?_
          exact ih7 x_5 iv7_2 _ _ hL1 hl1 (by omega) (by omega) ⟨k9, e9.trans (hv_IF_n (fun z9 => by have z8 := z9.1; have z7 := z9.2; rw [← e9] at z7; omega) (by omega) zx_5).symm, q9⟩ (by omega) ls (by omega) hW hT hM f_x_5 f_x_4 f_x_6 giv7_2 gx gqa gw pf_x_6 hRA (lv_sub hl [0, 1, 2, 3] rfl)
        · skip
          refine lv_aload_n hx hb dX9_inForce_28 rfl (lv_at hl 2 rfl) ?_
          refine hk_getr hx hb hts hC_9 hown hW gx tt_9 5 (by decide) rfl kw_369 ⟨rfl, rfl, rfl⟩ f_x_5 dX9_inForce_29 ?_
          refine lv_iload_n hx hb dX9_inForce_32 rfl (lv_at hl 0 rfl) ?_
          refine hx_aaldN hx hb hW hT gqa tt_43 (t1 := 0) rfl ⟨by omega, by omega⟩ (pf_x_6 _ (by rw [f_x_6]; exact hx_tnI (by omega) (by omega))) dX9_inForce_33 (fun q_7 fq_7 gq_7 => ?_)
          have ha2 := hRA.2 iv7_3.toInt.toNat (by omega) q_7 fq_7
          refine hx_geti hx hb hts hC_0 hown hW hT gq_7 tt_0 1 (by decide) rfl kw_165 ⟨rfl, rfl, rfl⟩ dX9_inForce_34 (fun x_8 ex_8 lx_8 ux_8 => ?_)
          have fx_8 := ex_8.symm
          have hd2 : x_8.toInt = (A (iv7_3.toInt.toNat + 1)).1 := by rw [← fx_8]; exact ha2.2.1
          refine lv_aload_n hx hb dX9_inForce_37 rfl (lv_at hl 1 rfl) ?_
          refine hx_geti hx hb hts hC_0 hown hW hT giv7_2 tt_0 1 (by decide) rfl kw_165 ⟨rfl, rfl, rfl⟩ dX9_inForce_38 (fun x_9 ex_9 lx_9 ux_9 => ?_)
          have fx_9 := ex_9.symm
          have hd9 : x_9.toInt = (A k9).1 := by rw [← fx_9]; exact q9.2.1
          refine hb_icmp_lt (zx := x_8.toInt) (zy := x_9.toInt) (tgt := 51) hx hb rfl rfl dX9_inForce_41 (by decide) (fun c_10 => ?_) (fun c_10 => ?_)
          · skip
            obtain ⟨x_11, ex_11⟩ : ∃ y : Int32, y = iv7_3 + Int32.ofInt 1 := ⟨_, rfl⟩
            have rg_12 := i32_r iv7_3
            have zx_11 : x_11.toInt = iv7_3.toInt + (1) := by rw [ex_11]; exact i32_add rfl (by decide) (by omega) (by omega)
            refine lv_iinc (v := x_11) (lv' := [(3, .int x_11), (2, .ref iv7_2), (0, .ref x), (1, .int i1)]) hx hb dX9_inForce_51 hl (k := 0) rfl ex_11.symm (by decide) rfl (fun ls hl => ?_)
            refine lv_goto (tgt := 7) hx hb dX9_inForce_54 (by decide) ?_
            exact ih7 x_11 iv7_2 _ _ hL1 hl1 (by omega) (by omega) ⟨k9, e9.trans (hv_IF_n (fun z9 => by have z8 := z9.1; have z7 := z9.2; rw [← e9] at z7; omega) (by omega) zx_11).symm, q9⟩ (by omega) ls (by omega) hW hT hM f_x_5 f_x_4 f_x_6 giv7_2 gx gqa gw pf_x_6 hRA (lv_sub hl [0, 1, 2, 3] rfl)
          · skip
            refine lv_aload_n hx hb dX9_inForce_44 rfl (lv_at hl 2 rfl) ?_
            refine hk_getr hx hb hts hC_9 hown hW gx tt_9 5 (by decide) rfl kw_369 ⟨rfl, rfl, rfl⟩ f_x_5 dX9_inForce_45 ?_
            refine lv_iload_n hx hb dX9_inForce_48 rfl (lv_at hl 0 rfl) ?_
            refine hx_aaldN hx hb hW hT gqa tt_43 (t1 := 0) rfl ⟨by omega, by omega⟩ (pf_x_6 _ (by rw [f_x_6]; exact hx_tnI (by omega) (by omega))) dX9_inForce_49 (fun q_13 fq_13 gq_13 => ?_)
            have ha3 := hRA.2 iv7_3.toInt.toNat (by omega) q_13 fq_13
            refine lv_astore_n (lv' := [(2, .ref q_13), (3, .int iv7_3), (0, .ref x), (1, .int i1)]) hx hb dX9_inForce_50 rfl hl (by decide) rfl (fun ls hl => ?_)
            obtain ⟨x_14, ex_14⟩ : ∃ y : Int32, y = iv7_3 + Int32.ofInt 1 := ⟨_, rfl⟩
            have rg_15 := i32_r iv7_3
            have zx_14 : x_14.toInt = iv7_3.toInt + (1) := by rw [ex_14]; exact i32_add rfl (by decide) (by omega) (by omega)
            refine lv_iinc (v := x_14) (lv' := [(3, .int x_14), (2, .ref q_13), (0, .ref x), (1, .int i1)]) hx hb dX9_inForce_51 hl (k := 1) rfl ex_14.symm (by decide) rfl (fun ls hl => ?_)
            refine lv_goto (tgt := 7) hx hb dX9_inForce_54 (by decide) ?_
            exact ih7 x_14 q_13 _ _ hL1 hl1 (by omega) (by omega) ⟨iv7_3.toInt.toNat + 1, (hv_IF_y ⟨by omega, by rw [← e9]; omega⟩ (by omega) zx_14).symm, (by rw [show ((iv7_3.toInt.toNat + 1 : Nat) : Int) - 1 = (iv7_3.toInt.toNat : Int) by omega]; exact ha3)⟩ (by omega) ls (by omega) hW hT hM f_x_5 f_x_4 f_x_6 gq_13 gx gqa gw pf_x_6 hRA (lv_sub hl [0, 1, 2, 3] rfl)
  have zk_0 : (0 : Int32).toInt = 0 := by decide
  exact loop7 9 (0 : Int32) w _ _ L h (by decide) (by decide) ⟨0, (by rw [zk_0]; rfl), (by rw [show ((0 : Nat) : Int) - 1 = -1 from rfl]; exact hRA.1)⟩ (by omega) ls (by omega) hW hT hM f_x_5 f_x_4 f_x_6 gw gx gqa gw pf_x_6 hRA hl


set_option maxHeartbeats 4000000 in
set_option maxRecDepth 100000 in
theorem t_X9_force_v (l : Launch) (dC : Nat → ClassId) (dI : Nat → Nat → Nat) (dA : Nat → ClassId) (L : List Nat) (h : hx_h) (sz : Nat) (x : Nat) (i1 : Int32) (i2 : Int32) (hT : hx_T T_tb L h) (gx : hx_g L h x 9) (qa : Nat) (gqa : hx_g L h qa 43) (f_x_5 : h.2.2 x 5 = some qa) (w : Nat) (gw : hx_g L h w 0) (f_x_4 : h.2.2 x 4 = some w)  (a0 : Int32) (f_x_6 : h.2.1 x 6 = a0) (A : Nat → hv_act) (hRA : hv_RA h qa w a0.toInt A) (pf_x_6 : ∀ j : Nat, (j : Int) < (h.2.1 x 6).toInt → h.2.2 qa j ≠ none) : Met l yX9_force (Cond.code yX9_force cX9_force 4 (some .int) :: hx_all) ({ frames := 2, cells := 0, slots := 0, locals := 42 }) (va_Pc [.ref x, .int i1, .int i2] (hx_B T_tb (P_ty dA) (dC, dI) vwCl L h sz)) (va_Qi (fun (r : Int32) (u : List Nat × hx_h) => (hv_FO A i1.toInt i2.toInt a0.toInt r.toInt) ∧ hx_T T_tb u.1 u.2 ∧ hx_S T_tb [] L h u.1 u.2) (hx_E T_tb (P_ty dA) (dC, dI) vwCl (hx_A L sz)) (hx_A L sz)) 0 0 (hx_A L sz) := by
  refine hx_met (lv := [(0, .ref x), (1, .int i1), (2, .int i2)]) (by decide +kernel) rfl (Nat.le_of_ble_eq_true rfl) rfl ?_
  intro p e s m below meth c hx hb hml hr hlk hts0 hown hin hsz hW ls hl
  have hts : ∀ w ∈ hx_all, w.before _ s = true := fun w hw => hts0 w (List.mem_cons_of_mem _ hw)
  have hown : s.vm.findClass "SmallCourt" = some m.cls := hown
  have hM : hx_S T_tb [] L h L h := hx_S.rf
  have b_a0 := hT.gi gx tt_9 (k := 6) rfl
  rw [f_x_6] at b_a0
  have b_a0 : 0 ≤ a0.toInt ∧ a0.toInt ≤ 8 := b_a0
  refine lv_iload_n hx hb dX9_force_0 rfl (lv_at hl 1 rfl) ?_
  have hTo := hT
  refine hx_goi (hx_runS (As := [.int i1]) (rest := []) ⟨hx, hb, hml, hown, hts⟩ hW (t_X9_isDay_2 l dC dI dA L h s.heap.size i1 hT) (va_cwS 1 hts (hx_gS kw_431 kw_429 kw_430 kw_94) rfl rfl rfl (by decide +kernel) ⟨Nat.le_of_ble_eq_true rfl, Nat.le_of_ble_eq_true rfl⟩) rfl hl.1 rfl (Nat.le_of_ble_eq_true rfl) dX9_force_1 ⟨Nat.le_of_ble_eq_true rfl, Nat.le_of_ble_eq_true rfl⟩) hW (fun r_3 L_1 h_2 H locs p_4 hW => ?_)
  obtain ⟨hr_5, hT, hs⟩ := p_4
  replace hT : hx_T T_tb L_1 h_2 := hT
  replace hs : hx_S T_tb [] L h L_1 h_2 := hs
  replace f_x_5 := (hs.o gx trivial rfl).2.trans f_x_5
  replace f_x_4 := (hs.o gx trivial rfl).2.trans f_x_4
  replace f_x_6 := (hs.o gx trivial rfl).1.trans f_x_6
  replace pf_x_6 : ∀ j : Nat, (j : Int) < (h_2.2.1 x 6).toInt → h_2.2.2 qa j ≠ none := by
    intro j hj; rw [(hs.o gx trivial rfl).1] at hj; rw [(hs.a gqa rfl j).2]; exact pf_x_6 j hj
  replace hRA : hv_RA h_2 qa w a0.toInt A := hv_RA_S hs hTo gqa gw tt_43 tt_0 rfl rfl rfl rfl rfl rfl (by omega) hRA
  replace hM := hM.tr (hs.mono (by decide))
  replace gx := gx.S hs
  replace gqa := gqa.S hs
  replace gw := gw.S hs
  refine hb_if_eq (zx := r_3.toInt) (tgt := 17) hx hb rfl dX9_force_4 (by decide) (fun c_6 => ?_) (fun c_6 => ?_)
  · skip
    replace hr_5 := hr_5.resolve_right (fun z9 => absurd (c_6.symm.trans z9.1) (by decide))
    replace hr_5 := hr_5.2
    refine lv_iconst (v := -1) hx hb dX9_force_17 (by decide) ?_
    exact hx_reti hx hb hr hlk hW ⟨(Or.inl ⟨by omega, by decide⟩), hT, hM⟩ dX9_force_18
  · skip
    replace hr_5 := hr_5.resolve_left (fun z9 => c_6 z9.1)
    replace c_6 := hr_5.1
    replace hr_5 := hr_5.2
    refine lv_iload_n hx hb dX9_force_7 rfl (lv_at hl 2 rfl) ?_
    refine hb_if_lt (zx := i2.toInt) (tgt := 17) hx hb rfl dX9_force_8 (by decide) (fun c_7 => ?_) (fun c_7 => ?_)
    · skip
      refine lv_iconst (v := -1) hx hb dX9_force_17 (by decide) ?_
      exact hx_reti hx hb hr hlk hW ⟨(Or.inl ⟨by omega, by decide⟩), hT, hM⟩ dX9_force_18
    · skip
      refine lv_iload_n hx hb dX9_force_11 rfl (lv_at hl 2 rfl) ?_
      refine lv_bipush (v := 14) hx hb dX9_force_12 (by decide) ?_
      refine hb_icmp_lt (zx := i2.toInt) (zy := 14) (tgt := 19) hx hb rfl (by decide) dX9_force_14 (by decide) (fun c_8 => ?_) (fun c_8 => ?_)
      · skip
        refine lv_aload_n hx hb dX9_force_19 rfl (lv_at hl 0 rfl) ?_
        refine lv_iload_n hx hb dX9_force_20 rfl (lv_at hl 1 rfl) ?_
        have hTo := hT
        refine hx_goq (hx_runV (As := [.int i1]) (rest := []) ⟨hx, hb, hml, hown, hts⟩ hW gx tt_9 (T := TX9) (N := 20) rfl (t_X9_inForce_v l dC dI dA L_1 h_2 H.size x i1 hT gx qa gqa f_x_5 w gw f_x_4 a0 f_x_6 A hRA pf_x_6) (cwV 1 hts (hx_gV kw_597 kw_594 kw_596 kw_19 kw_94) rfl rfl rfl (by decide +kernel) ⟨Nat.le_of_ble_eq_true rfl, Nat.le_of_ble_eq_true rfl⟩) rfl hl.1 rfl (Nat.le_of_ble_eq_true rfl) dX9_force_21 ⟨Nat.le_of_ble_eq_true rfl, Nat.le_of_ble_eq_true rfl⟩) hW (fun r_11 L_9 h_10 H locs p_12 hW => ?_)
        obtain ⟨hr_13, hT, hs⟩ := p_12
        replace hT : hx_T T_tb L_9 h_10 := hT
        replace hs : hx_S T_tb [] L_1 h_2 L_9 h_10 := hs
        replace f_x_5 := (hs.o gx trivial rfl).2.trans f_x_5
        replace f_x_4 := (hs.o gx trivial rfl).2.trans f_x_4
        replace f_x_6 := (hs.o gx trivial rfl).1.trans f_x_6
        replace pf_x_6 : ∀ j : Nat, (j : Int) < (h_10.2.1 x 6).toInt → h_10.2.2 qa j ≠ none := by
          intro j hj; rw [(hs.o gx trivial rfl).1] at hj; rw [(hs.a gqa rfl j).2]; exact pf_x_6 j hj
        replace hRA : hv_RA h_10 qa w a0.toInt A := hv_RA_S hs hTo gqa gw tt_43 tt_0 rfl rfl rfl rfl rfl rfl (by omega) hRA
        replace hM := hM.tr (hs.mono (by decide))
        replace gx := gx.S hs
        replace gqa := gqa.S hs
        replace gw := gw.S hs
        obtain ⟨q_14, rfl, gq_14, hr_13B⟩ := hr_13
        have gq_14 : hx_g L_9 h_10 q_14 0 := gq_14
        obtain ⟨kk_15, kk_15E, kk_15Q⟩ := hr_13B
        have kk_15Q : hv_AQ h_10 q_14 (((kk_15 : Nat) : Int) - 1) (A kk_15) := kk_15Q
        refine lv_astore_n (lv' := [(3, .ref q_14), (0, .ref x), (1, .int i1), (2, .int i2)]) hx hb dX9_force_24 rfl hl (by decide) rfl (fun ls hl => ?_)
        refine lv_iload_n hx hb dX9_force_25 rfl (lv_at hl 3 rfl) ?_
        refine hb_if_ne (zx := i2.toInt) (tgt := 36) hx hb rfl dX9_force_26 (by decide) (fun c_16 => ?_) (fun c_16 => ?_)
        · skip
          refine lv_aload_n hx hb dX9_force_36 rfl (lv_at hl 0 rfl) ?_
          refine hx_getn hx hb hts hC_0 hown hW hT gq_14 tt_0 2 (by decide) rfl kw_170 ⟨rfl, rfl, rfl⟩ dX9_force_37 (fun q_17 fq_17 gq_17 => ?_)
          refine lv_iload_n hx hb dX9_force_40 rfl (lv_at hl 3 rfl) ?_
          refine hx_iald hx hb hW hT gq_17 tt_11 rfl ⟨by omega, by omega⟩ dX9_force_41 (fun x_18 ex_18 lx_18 ux_18 => ?_)
          exact hx_reti hx hb hr hlk hW ⟨(Or.inr ⟨by omega, Or.inr ⟨by omega, (by rw [← kk_15E, ← kk_15Q.2.2.1 q_17 fq_17, ex_18]; show _ = (if (i2.toInt - 1).toNat < 13 then (_ : Int32).toInt else 0); rw [if_pos (by omega), show (i2.toInt - 1).toNat + 1 = i2.toNatClampNeg by unfold Int32.toNatClampNeg; omega])⟩⟩), hT, hM⟩ dX9_force_42
        · skip
          refine lv_aload_n hx hb dX9_force_29 rfl (lv_at hl 0 rfl) ?_
          refine hx_geti hx hb hts hC_0 hown hW hT gq_14 tt_0 0 (by decide) rfl kw_163 ⟨rfl, rfl, rfl⟩ dX9_force_30 (fun x_19 ex_19 lx_19 ux_19 => ?_)
          have fx_19 := ex_19.symm
          refine lv_goto (tgt := 42) hx hb dX9_force_33 (by decide) ?_
          exact hx_reti hx hb hr hlk hW ⟨(Or.inr ⟨by omega, Or.inl ⟨by omega, (by rw [← kk_15E]; have h8 := kk_15Q.1; rw [fx_19] at h8; exact h8)⟩⟩), hT, hM⟩ dX9_force_42
      · skip
        refine lv_iconst (v := -1) hx hb dX9_force_17 (by decide) ?_
        exact hx_reti hx hb hr hlk hW ⟨(Or.inl ⟨by omega, by decide⟩), hT, hM⟩ dX9_force_18
