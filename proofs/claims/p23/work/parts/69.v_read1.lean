
set_option maxHeartbeats 4000000 in
set_option maxRecDepth 100000 in
theorem t_X6_skipBlanks_v (l : Launch) (dC : Nat → ClassId) (dI : Nat → Nat → Nat) (dA : Nat → ClassId) (L : List Nat) (h : hx_h) (sz : Nat) (x : Nat) (hT : hx_T T_tb L h) (gx : hx_g L h x 6) (qt : Nat) (gqt : hx_g L h qt 42) (f_x_0 : h.2.2 x 0 = some qt) (tf : Nat → Int32) (af_qt : h.2.1 qt = tf) (at0 : Int32) (f_x_2 : h.2.1 x 2 = at0) (ln0 : Int32) (f_x_1 : h.2.1 x 1 = ln0) (hA : at0.toInt ≤ ln0.toInt) : Met l yX6_skipBlanks (Cond.code yX6_skipBlanks cX6_skipBlanks 1 none :: hx_all) ({ frames := 0, cells := 0, slots := 0, locals := 0 }) (va_Pc [.ref x] (hx_B T_tb (P_ty dA) (dC, dI) vwCl L h sz)) (va_Qv (fun (u : List Nat × hx_h) => (∃ (at1 : Int32), u.2.2.1 x 2 = at1 ∧ (at1.toInt = ((hv_sk tf ln0.toInt.toNat at0.toInt.toNat : Nat) : Int) ∧ at0.toInt ≤ at1.toInt ∧ at1.toInt ≤ ln0.toInt)) ∧ hx_T T_tb u.1 u.2 ∧ hx_S T_tb [(6, 2)] L h u.1 u.2) (hx_E T_tb (P_ty dA) (dC, dI) vwCl (hx_A L sz)) (hx_A L sz)) 0 0 (hx_A L sz) := by
  refine hx_met (lv := [(0, .ref x)]) (by decide +kernel) rfl (Nat.le_of_ble_eq_true rfl) rfl ?_
  intro p e s m below meth c hx hb hml hr hlk hts0 hown hin hsz hW ls hl
  have hts : ∀ w ∈ hx_all, w.before _ s = true := fun w hw => hts0 w (List.mem_cons_of_mem _ hw)
  have hown : s.vm.findClass "SmallCourt$Reader" = some m.cls := hown
  have hM : hx_S T_tb [(6, 2)] L h L h := hx_S.rf
  have b_at0 := hT.gi gx tt_6 (k := 2) rfl
  rw [f_x_2] at b_at0
  have b_at0 : 0 ≤ at0.toInt ∧ at0.toInt ≤ 402 := b_at0
  have b_ln0 := hT.gi gx tt_6 (k := 1) rfl
  rw [f_x_1] at b_ln0
  have b_ln0 : 0 ≤ ln0.toInt ∧ ln0.toInt ≤ 400 := b_ln0
  have loop0 : ∀ (n0 : Nat) (fw0_x_2 : Int32) (H : Heap) (locs : List Loc) (hL1 : List Nat) (hl1 : hx_h), 0 ≤ fw0_x_2.toInt → fw0_x_2.toInt ≤ 402 → (hv_sk tf ln0.toInt.toNat at0.toInt.toNat = hv_sk tf ln0.toInt.toNat (fw0_x_2.toInt).toNat) → (at0.toInt ≤ fw0_x_2.toInt) → (fw0_x_2.toInt ≤ ln0.toInt) → ∀ (ls : Array Slot), 402 - fw0_x_2.toInt < (n0 : Int) → hx_W T_tb (P_ty dA) (dC, dI) vwCl (hx_A L sz) s.heap hL1 hl1 s H locs → hx_T T_tb hL1 hl1 → hx_S T_tb [(6, 2)] L h hL1 hl1 → hl1.2.1 x 2 = fw0_x_2 → lv_has ls 1 [(0, .ref x)] → W p l e ({ frames := 0, cells := 0, slots := 0, locals := 0 }) s m ([.ref x] : List Value).toArray below meth c H locs 0 0 (MQ below (va_Qv (fun (u : List Nat × hx_h) => (∃ (at1 : Int32), u.2.2.1 x 2 = at1 ∧ (at1.toInt = ((hv_sk tf ln0.toInt.toNat at0.toInt.toNat : Nat) : Int) ∧ at0.toInt ≤ at1.toInt ∧ at1.toInt ≤ ln0.toInt)) ∧ hx_T T_tb u.1 u.2 ∧ hx_S T_tb [(6, 2)] L h u.1 u.2) (hx_E T_tb (P_ty dA) (dC, dI) vwCl (hx_A L sz)) (hx_A L sz)) ([.ref x] : List Value).toArray s 0 0 (hx_A L sz)) (F0 m 0 ls []) := by
    intro n0
    induction n0 with
    | zero => intro fw0_x_2 H locs hL1 hl1 blfw0_x_2 bufw0_x_2 vi0_0 vi0_1 vi0_2 ls hn0; exfalso; omega
    | succ n0 ih0 =>
      intro fw0_x_2 H locs hL1 hl1 blfw0_x_2 bufw0_x_2 vi0_0 vi0_1 vi0_2 ls hn0 hW hT hM ffw0_x_2  hl
      refine lv_aload_n hx hb dX6_skipBlanks_0 rfl (lv_at hl 0 rfl) ?_
      refine hk_geti hx hb hts hC_6 hown hW (gx.S hM) tt_6 2 (by decide) rfl kw_127 ⟨rfl, rfl, rfl⟩ ffw0_x_2 dX6_skipBlanks_1 ?_
      refine lv_aload_n hx hb dX6_skipBlanks_4 rfl (lv_at hl 0 rfl) ?_
      refine hk_geti hx hb hts hC_6 hown hW (gx.S hM) tt_6 1 (by decide) rfl kw_126 ⟨rfl, rfl, rfl⟩ ((hM.o gx trivial rfl).1.trans f_x_1) dX6_skipBlanks_5 ?_
      refine hb_icmp_ge (zx := fw0_x_2.toInt) (zy := ln0.toInt) (tgt := 38) hx hb rfl rfl dX6_skipBlanks_8 (by decide) (fun c_1 => ?_) (fun c_1 => ?_)
      · skip
        exact hx_retv hx hb hr hlk hW ⟨⟨fw0_x_2, ffw0_x_2, ⟨(by rw [vi0_0]; exact (hv_sn_o (by omega) (fun z9 => by exfalso; omega)).symm), by omega, by omega⟩⟩, hT, hM⟩ dX6_skipBlanks_38
      · skip
        refine lv_aload_n hx hb dX6_skipBlanks_11 rfl (lv_at hl 0 rfl) ?_
        refine hk_getr hx hb hts hC_6 hown hW (gx.S hM) tt_6 0 (by decide) rfl kw_125 ⟨rfl, rfl, rfl⟩ ((hM.o gx trivial rfl).2.trans f_x_0) dX6_skipBlanks_12 ?_
        refine lv_aload_n hx hb dX6_skipBlanks_15 rfl (lv_at hl 0 rfl) ?_
        refine hk_geti hx hb hts hC_6 hown hW (gx.S hM) tt_6 2 (by decide) rfl kw_127 ⟨rfl, rfl, rfl⟩ ffw0_x_2 dX6_skipBlanks_16 ?_
        refine hx_bald hx hb hW hT (gqt.S hM) tt_42 rfl ⟨by omega, by omega⟩ dX6_skipBlanks_19 (fun x_2 ex_2 lx_2 ux_2 => ?_)
        have ax_2 : x_2 = tf fw0_x_2.toNatClampNeg := ex_2.trans (congrFun (hx_afS hM gqt rfl af_qt) _)
        refine lv_bipush (v := 32) hx hb dX6_skipBlanks_20 (by decide) ?_
        refine hb_icmp_ne (zx := x_2.toInt) (zy := 32) (tgt := 38) hx hb rfl (by decide) dX6_skipBlanks_22 (by decide) (fun c_3 => ?_) (fun c_3 => ?_)
        · skip
          exact hx_retv hx hb hr hlk hW ⟨⟨fw0_x_2, ffw0_x_2, ⟨(by rw [vi0_0]; exact (hv_sn_o (by omega) (fun z9 => hv_bl_f ax_2 (by omega))).symm), by omega, by omega⟩⟩, hT, hM⟩ dX6_skipBlanks_38
        · skip
          refine lv_aload_n hx hb dX6_skipBlanks_25 rfl (lv_at hl 0 rfl) ?_
          refine lv_dup hx hb dX6_skipBlanks_26 rfl ?_
          refine hk_geti hx hb hts hC_6 hown hW (gx.S hM) tt_6 2 (by decide) rfl kw_127 ⟨rfl, rfl, rfl⟩ ffw0_x_2 dX6_skipBlanks_27 ?_
          refine lv_iconst (v := 1) hx hb dX6_skipBlanks_30 (by decide) ?_
          refine lv_iadd hx hb dX6_skipBlanks_31 ?_
          have rg_4 := i32_r fw0_x_2
          refine lv_topi (fun x_5 ex_5 => ?_)
          have zx_5 : x_5.toInt = fw0_x_2.toInt + 1 := by rw [ex_5]; exact i32_add rfl (by decide) (by omega) (by omega)
          refine hx_puti hx hb hts hC_6 hown hW hT (hx_S.rf (M := [(6, 2)])) (gx.S hM) tt_6 2 (by decide) rfl kw_127 ⟨rfl, rfl, rfl⟩ rfl (x := x_5) ⟨by omega, by omega⟩ rfl rfl rfl (List.mem_singleton.mpr rfl) dX6_skipBlanks_32 (fun H locs h_6 eh_6 hW hT hs => ?_)
          replace ex_2 := ex_2.trans (hs.a (gqt.S hM) rfl _).1.symm
          replace hM := hM.tr (hs.mono (by decide))
          have f_7 : h_6.2.1 x 2 = x_5 := by rw [eh_6]; exact hx_pi_at _ _ _ _
          refine lv_goto (tgt := 0) hx hb dX6_skipBlanks_35 (by decide) ?_
          exact ih0 x_5 _ _ hL1 h_6 (by omega) (by omega) (vi0_0.trans (hv_sn_i (by omega) (by omega) (hv_bl_t ax_2 (by omega)) zx_5)) (by omega) (by omega) ls (by omega) hW hT hM f_7  (lv_sub hl [0] rfl)
  exact loop0 403 at0 _ _ L h (by omega) (by omega) rfl (by omega) (by omega) ls (by omega) hW hT hM f_x_2  hl


set_option maxHeartbeats 4000000 in
set_option maxRecDepth 100000 in
theorem t_X6_wordEnd_v (l : Launch) (dC : Nat → ClassId) (dI : Nat → Nat → Nat) (dA : Nat → ClassId) (L : List Nat) (h : hx_h) (sz : Nat) (x : Nat) (hT : hx_T T_tb L h) (gx : hx_g L h x 6) (qt : Nat) (gqt : hx_g L h qt 42) (f_x_0 : h.2.2 x 0 = some qt) (tf : Nat → Int32) (af_qt : h.2.1 qt = tf) (at0 : Int32) (f_x_2 : h.2.1 x 2 = at0) (ln0 : Int32) (f_x_1 : h.2.1 x 1 = ln0) (hA : at0.toInt ≤ ln0.toInt) : Met l yX6_wordEnd (Cond.code yX6_wordEnd cX6_wordEnd 2 (some .int) :: hx_all) ({ frames := 0, cells := 0, slots := 0, locals := 0 }) (va_Pc [.ref x] (hx_B T_tb (P_ty dA) (dC, dI) vwCl L h sz)) (va_Qi (fun (r : Int32) (u : List Nat × hx_h) => (r.toInt = ((hv_we tf ln0.toInt.toNat at0.toInt.toNat : Nat) : Int) ∧ at0.toInt ≤ r.toInt ∧ r.toInt ≤ ln0.toInt) ∧ hx_T T_tb u.1 u.2 ∧ hx_S T_tb [] L h u.1 u.2) (hx_E T_tb (P_ty dA) (dC, dI) vwCl (hx_A L sz)) (hx_A L sz)) 0 0 (hx_A L sz) := by
  refine hx_met (lv := [(0, .ref x)]) (by decide +kernel) rfl (Nat.le_of_ble_eq_true rfl) rfl ?_
  intro p e s m below meth c hx hb hml hr hlk hts0 hown hin hsz hW ls hl
  have hts : ∀ w ∈ hx_all, w.before _ s = true := fun w hw => hts0 w (List.mem_cons_of_mem _ hw)
  have hown : s.vm.findClass "SmallCourt$Reader" = some m.cls := hown
  have hM : hx_S T_tb [] L h L h := hx_S.rf
  have b_at0 := hT.gi gx tt_6 (k := 2) rfl
  rw [f_x_2] at b_at0
  have b_at0 : 0 ≤ at0.toInt ∧ at0.toInt ≤ 402 := b_at0
  have b_ln0 := hT.gi gx tt_6 (k := 1) rfl
  rw [f_x_1] at b_ln0
  have b_ln0 : 0 ≤ ln0.toInt ∧ ln0.toInt ≤ 400 := b_ln0
  refine lv_aload_n hx hb dX6_wordEnd_0 rfl (lv_at hl 0 rfl) ?_
  refine hk_geti hx hb hts hC_6 hown hW (gx.S hM) tt_6 2 (by decide) rfl kw_127 ⟨rfl, rfl, rfl⟩ ((hM.o gx trivial rfl).1.trans f_x_2) dX6_wordEnd_1 ?_
  refine lv_istore_n (lv' := [(1, .int at0), (0, .ref x)]) hx hb dX6_wordEnd_4 rfl hl (by decide) rfl (fun ls hl => ?_)
  have loop5 : ∀ (n5 : Nat) (iv5_1 : Int32) (H : Heap) (locs : List Loc) (hL1 : List Nat) (hl1 : hx_h), 0 ≤ iv5_1.toInt → iv5_1.toInt ≤ 402 → (hv_we tf ln0.toInt.toNat at0.toInt.toNat = hv_we tf ln0.toInt.toNat (iv5_1.toInt).toNat) → (at0.toInt ≤ iv5_1.toInt) → (iv5_1.toInt ≤ ln0.toInt) → ∀ (ls : Array Slot), 402 - iv5_1.toInt < (n5 : Int) → hx_W T_tb (P_ty dA) (dC, dI) vwCl (hx_A L sz) s.heap hL1 hl1 s H locs → hx_T T_tb hL1 hl1 → hx_S T_tb [] L h hL1 hl1 → lv_has ls 2 [(1, .int iv5_1), (0, .ref x)] → W p l e ({ frames := 0, cells := 0, slots := 0, locals := 0 }) s m ([.ref x] : List Value).toArray below meth c H locs 0 0 (MQ below (va_Qi (fun (r : Int32) (u : List Nat × hx_h) => (r.toInt = ((hv_we tf ln0.toInt.toNat at0.toInt.toNat : Nat) : Int) ∧ at0.toInt ≤ r.toInt ∧ r.toInt ≤ ln0.toInt) ∧ hx_T T_tb u.1 u.2 ∧ hx_S T_tb [] L h u.1 u.2) (hx_E T_tb (P_ty dA) (dC, dI) vwCl (hx_A L sz)) (hx_A L sz)) ([.ref x] : List Value).toArray s 0 0 (hx_A L sz)) (F0 m 5 ls []) := by
    intro n5
    induction n5 with
    | zero => intro iv5_1 H locs hL1 hl1 bliv5_1 buiv5_1 vi5_0 vi5_1 vi5_2 ls hn5; exfalso; omega
    | succ n5 ih5 =>
      intro iv5_1 H locs hL1 hl1 bliv5_1 buiv5_1 vi5_0 vi5_1 vi5_2 ls hn5 hW hT hM   hl
      refine lv_iload_n hx hb dX6_wordEnd_5 rfl (lv_at hl 0 rfl) ?_
      refine lv_aload_n hx hb dX6_wordEnd_6 rfl (lv_at hl 1 rfl) ?_
      refine hk_geti hx hb hts hC_6 hown hW (gx.S hM) tt_6 1 (by decide) rfl kw_126 ⟨rfl, rfl, rfl⟩ ((hM.o gx trivial rfl).1.trans f_x_1) dX6_wordEnd_7 ?_
      refine hb_icmp_ge (zx := iv5_1.toInt) (zy := ln0.toInt) (tgt := 41) hx hb rfl rfl dX6_wordEnd_10 (by decide) (fun c_1 => ?_) (fun c_1 => ?_)
      · skip
        refine lv_iload_n hx hb dX6_wordEnd_41 rfl (lv_at hl 0 rfl) ?_
        exact hx_reti hx hb hr hlk hW ⟨⟨(by rw [vi5_0]; exact (hv_sn_o (by omega) (fun z9 => by exfalso; omega)).symm), by omega, by omega⟩, hT, hM⟩ dX6_wordEnd_42
      · skip
        refine lv_aload_n hx hb dX6_wordEnd_13 rfl (lv_at hl 1 rfl) ?_
        refine hk_getr hx hb hts hC_6 hown hW (gx.S hM) tt_6 0 (by decide) rfl kw_125 ⟨rfl, rfl, rfl⟩ ((hM.o gx trivial rfl).2.trans f_x_0) dX6_wordEnd_14 ?_
        refine lv_iload_n hx hb dX6_wordEnd_17 rfl (lv_at hl 0 rfl) ?_
        refine hx_bald hx hb hW hT (gqt.S hM) tt_42 rfl ⟨by omega, by omega⟩ dX6_wordEnd_18 (fun x_2 ex_2 lx_2 ux_2 => ?_)
        have ax_2 : x_2 = tf iv5_1.toNatClampNeg := ex_2.trans (congrFun (hx_afS hM gqt rfl af_qt) _)
        refine lv_bipush (v := 97) hx hb dX6_wordEnd_19 (by decide) ?_
        refine hb_icmp_lt (zx := x_2.toInt) (zy := 97) (tgt := 41) hx hb rfl (by decide) dX6_wordEnd_21 (by decide) (fun c_3 => ?_) (fun c_3 => ?_)
        · skip
          refine lv_iload_n hx hb dX6_wordEnd_41 rfl (lv_at hl 0 rfl) ?_
          exact hx_reti hx hb hr hlk hW ⟨⟨(by rw [vi5_0]; exact (hv_sn_o (by omega) (fun z9 => hv_lt_f ax_2 (by omega))).symm), by omega, by omega⟩, hT, hM⟩ dX6_wordEnd_42
        · skip
          refine lv_aload_n hx hb dX6_wordEnd_24 rfl (lv_at hl 1 rfl) ?_
          refine hk_getr hx hb hts hC_6 hown hW (gx.S hM) tt_6 0 (by decide) rfl kw_125 ⟨rfl, rfl, rfl⟩ ((hM.o gx trivial rfl).2.trans f_x_0) dX6_wordEnd_25 ?_
          refine lv_iload_n hx hb dX6_wordEnd_28 rfl (lv_at hl 0 rfl) ?_
          refine hx_bald hx hb hW hT (gqt.S hM) tt_42 rfl ⟨by omega, by omega⟩ dX6_wordEnd_29 (fun x_4 ex_4 lx_4 ux_4 => ?_)
          have ax_4 : x_4 = tf iv5_1.toNatClampNeg := ex_4.trans (congrFun (hx_afS hM gqt rfl af_qt) _)
          obtain rfl : x_2 = x_4 := ex_2.trans ex_4.symm
          refine lv_bipush (v := 122) hx hb dX6_wordEnd_30 (by decide) ?_
          refine hb_icmp_gt (zx := x_2.toInt) (zy := 122) (tgt := 41) hx hb rfl (by decide) dX6_wordEnd_32 (by decide) (fun c_5 => ?_) (fun c_5 => ?_)
          · skip
            refine lv_iload_n hx hb dX6_wordEnd_41 rfl (lv_at hl 0 rfl) ?_
            exact hx_reti hx hb hr hlk hW ⟨⟨(by rw [vi5_0]; exact (hv_sn_o (by omega) (fun z9 => hv_lt_f ax_2 (by omega))).symm), by omega, by omega⟩, hT, hM⟩ dX6_wordEnd_42
          · skip
            obtain ⟨x_6, ex_6⟩ : ∃ y : Int32, y = iv5_1 + Int32.ofInt 1 := ⟨_, rfl⟩
            have rg_7 := i32_r iv5_1
            have zx_6 : x_6.toInt = iv5_1.toInt + (1) := by rw [ex_6]; exact i32_add rfl (by decide) (by omega) (by omega)
            refine lv_iinc (v := x_6) (lv' := [(1, .int x_6), (0, .ref x)]) hx hb dX6_wordEnd_35 hl (k := 0) rfl ex_6.symm (by decide) rfl (fun ls hl => ?_)
            refine lv_goto (tgt := 5) hx hb dX6_wordEnd_38 (by decide) ?_
            exact ih5 x_6 _ _ hL1 hl1 (by omega) (by omega) (vi5_0.trans (hv_sn_i (by omega) (by omega) (hv_lt_t ax_2 (by omega) (by omega)) zx_6)) (by omega) (by omega) ls (by omega) hW hT hM   (lv_sub hl [0, 1] rfl)
  exact loop5 403 at0 _ _ L h (by omega) (by omega) rfl (by omega) (by omega) ls (by omega) hW hT hM   hl


set_option maxHeartbeats 4000000 in
set_option maxRecDepth 100000 in
theorem t_X6_isDigit_v (l : Launch) (dC : Nat → ClassId) (dI : Nat → Nat → Nat) (dA : Nat → ClassId) (L : List Nat) (h : hx_h) (sz : Nat) (x : Nat) (i1 : Int32) (hT : hx_T T_tb L h) (gx : hx_g L h x 6) (qt : Nat) (gqt : hx_g L h qt 42) (f_x_0 : h.2.2 x 0 = some qt) (tf : Nat → Int32) (af_qt : h.2.1 qt = tf) (ln0 : Int32) (f_x_1 : h.2.1 x 1 = ln0) (hi1 : 0 ≤ i1.toInt) : Met l yX6_isDigit (Cond.code yX6_isDigit cX6_isDigit 2 (some .boolean) :: hx_all) ({ frames := 0, cells := 0, slots := 0, locals := 0 }) (va_Pc [.ref x, .int i1] (hx_B T_tb (P_ty dA) (dC, dI) vwCl L h sz)) (va_Qi (fun (r : Int32) (u : List Nat × hx_h) => ((r.toInt = 1 ∧ i1.toInt < ln0.toInt ∧ hv_dg tf i1.toInt.toNat = true) ∨ (r.toInt = 0 ∧ (i1.toInt < ln0.toInt → hv_dg tf i1.toInt.toNat = false))) ∧ hx_T T_tb u.1 u.2 ∧ hx_S T_tb [] L h u.1 u.2) (hx_E T_tb (P_ty dA) (dC, dI) vwCl (hx_A L sz)) (hx_A L sz)) 0 0 (hx_A L sz) := by
  refine hx_met (lv := [(0, .ref x), (1, .int i1)]) (by decide +kernel) rfl (Nat.le_of_ble_eq_true rfl) rfl ?_
  intro p e s m below meth c hx hb hml hr hlk hts0 hown hin hsz hW ls hl
  have hts : ∀ w ∈ hx_all, w.before _ s = true := fun w hw => hts0 w (List.mem_cons_of_mem _ hw)
  have hown : s.vm.findClass "SmallCourt$Reader" = some m.cls := hown
  have hM : hx_S T_tb [] L h L h := hx_S.rf
  have b_ln0 := hT.gi gx tt_6 (k := 1) rfl
  rw [f_x_1] at b_ln0
  have b_ln0 : 0 ≤ ln0.toInt ∧ ln0.toInt ≤ 400 := b_ln0
  refine lv_iload_n hx hb dX6_isDigit_0 rfl (lv_at hl 1 rfl) ?_
  refine lv_aload_n hx hb dX6_isDigit_1 rfl (lv_at hl 0 rfl) ?_
  refine hk_geti hx hb hts hC_6 hown hW (gx.S hM) tt_6 1 (by decide) rfl kw_126 ⟨rfl, rfl, rfl⟩ ((hM.o gx trivial rfl).1.trans f_x_1) dX6_isDigit_2 ?_
  refine hb_icmp_ge (zx := i1.toInt) (zy := ln0.toInt) (tgt := 34) hx hb rfl rfl dX6_isDigit_5 (by decide) (fun c_1 => ?_) (fun c_1 => ?_)
  · skip
    refine lv_iconst (v := 0) hx hb dX6_isDigit_34 (by decide) ?_
    exact hx_retz hx hb hr rfl hlk hW ⟨(Or.inr ⟨by decide, fun z9 => by exfalso; omega⟩), hT, hM⟩ dX6_isDigit_35
  · skip
    refine lv_aload_n hx hb dX6_isDigit_8 rfl (lv_at hl 0 rfl) ?_
    refine hk_getr hx hb hts hC_6 hown hW (gx.S hM) tt_6 0 (by decide) rfl kw_125 ⟨rfl, rfl, rfl⟩ ((hM.o gx trivial rfl).2.trans f_x_0) dX6_isDigit_9 ?_
    refine lv_iload_n hx hb dX6_isDigit_12 rfl (lv_at hl 1 rfl) ?_
    refine hx_bald hx hb hW hT (gqt.S hM) tt_42 rfl ⟨by omega, by omega⟩ dX6_isDigit_13 (fun x_2 ex_2 lx_2 ux_2 => ?_)
    have ax_2 : x_2 = tf i1.toNatClampNeg := ex_2.trans (congrFun (hx_afS hM gqt rfl af_qt) _)
    refine lv_bipush (v := 48) hx hb dX6_isDigit_14 (by decide) ?_
    refine hb_icmp_lt (zx := x_2.toInt) (zy := 48) (tgt := 34) hx hb rfl (by decide) dX6_isDigit_16 (by decide) (fun c_3 => ?_) (fun c_3 => ?_)
    · skip
      refine lv_iconst (v := 0) hx hb dX6_isDigit_34 (by decide) ?_
      exact hx_retz hx hb hr rfl hlk hW ⟨(Or.inr ⟨by decide, fun _ => hv_dg_f ax_2 (by omega)⟩), hT, hM⟩ dX6_isDigit_35
    · skip
      refine lv_aload_n hx hb dX6_isDigit_19 rfl (lv_at hl 0 rfl) ?_
      refine hk_getr hx hb hts hC_6 hown hW (gx.S hM) tt_6 0 (by decide) rfl kw_125 ⟨rfl, rfl, rfl⟩ ((hM.o gx trivial rfl).2.trans f_x_0) dX6_isDigit_20 ?_
      refine lv_iload_n hx hb dX6_isDigit_23 rfl (lv_at hl 1 rfl) ?_
      refine hx_bald hx hb hW hT (gqt.S hM) tt_42 rfl ⟨by omega, by omega⟩ dX6_isDigit_24 (fun x_4 ex_4 lx_4 ux_4 => ?_)
      have ax_4 : x_4 = tf i1.toNatClampNeg := ex_4.trans (congrFun (hx_afS hM gqt rfl af_qt) _)
      obtain rfl : x_2 = x_4 := ex_2.trans ex_4.symm
      refine lv_bipush (v := 57) hx hb dX6_isDigit_25 (by decide) ?_
      refine hb_icmp_gt (zx := x_2.toInt) (zy := 57) (tgt := 34) hx hb rfl (by decide) dX6_isDigit_27 (by decide) (fun c_5 => ?_) (fun c_5 => ?_)
      · skip
        refine lv_iconst (v := 0) hx hb dX6_isDigit_34 (by decide) ?_
        exact hx_retz hx hb hr rfl hlk hW ⟨(Or.inr ⟨by decide, fun _ => hv_dg_f ax_2 (by omega)⟩), hT, hM⟩ dX6_isDigit_35
      · skip
        refine lv_iconst (v := 1) hx hb dX6_isDigit_30 (by decide) ?_
        refine lv_goto (tgt := 35) hx hb dX6_isDigit_31 (by decide) ?_
        exact hx_retz hx hb hr rfl hlk hW ⟨(Or.inl ⟨by decide, by omega, hv_dg_t ax_2 (by omega) (by omega)⟩), hT, hM⟩ dX6_isDigit_35


set_option maxHeartbeats 4000000 in
set_option maxRecDepth 100000 in
theorem t_X6_isByte_v (l : Launch) (dC : Nat → ClassId) (dI : Nat → Nat → Nat) (dA : Nat → ClassId) (L : List Nat) (h : hx_h) (sz : Nat) (x : Nat) (i1 : Int32) (hT : hx_T T_tb L h) (gx : hx_g L h x 6) (qt : Nat) (gqt : hx_g L h qt 42) (f_x_0 : h.2.2 x 0 = some qt) (tf : Nat → Int32) (af_qt : h.2.1 qt = tf) (at0 : Int32) (f_x_2 : h.2.1 x 2 = at0) (ln0 : Int32) (f_x_1 : h.2.1 x 1 = ln0) : Met l yX6_isByte (Cond.code yX6_isByte cX6_isByte 2 (some .boolean) :: hx_all) ({ frames := 0, cells := 0, slots := 0, locals := 0 }) (va_Pc [.ref x, .int i1] (hx_B T_tb (P_ty dA) (dC, dI) vwCl L h sz)) (va_Qi (fun (r : Int32) (u : List Nat × hx_h) => ((r.toInt = 1 ∧ at0.toInt < ln0.toInt ∧ (tf at0.toInt.toNat).toInt = i1.toInt) ∨ (r.toInt = 0 ∧ ¬ (at0.toInt < ln0.toInt ∧ (tf at0.toInt.toNat).toInt = i1.toInt))) ∧ hx_T T_tb u.1 u.2 ∧ hx_S T_tb [] L h u.1 u.2) (hx_E T_tb (P_ty dA) (dC, dI) vwCl (hx_A L sz)) (hx_A L sz)) 0 0 (hx_A L sz) := by
  refine hx_met (lv := [(0, .ref x), (1, .int i1)]) (by decide +kernel) rfl (Nat.le_of_ble_eq_true rfl) rfl ?_
  intro p e s m below meth c hx hb hml hr hlk hts0 hown hin hsz hW ls hl
  have hts : ∀ w ∈ hx_all, w.before _ s = true := fun w hw => hts0 w (List.mem_cons_of_mem _ hw)
  have hown : s.vm.findClass "SmallCourt$Reader" = some m.cls := hown
  have hM : hx_S T_tb [] L h L h := hx_S.rf
  have b_at0 := hT.gi gx tt_6 (k := 2) rfl
  rw [f_x_2] at b_at0
  have b_at0 : 0 ≤ at0.toInt ∧ at0.toInt ≤ 402 := b_at0
  have b_ln0 := hT.gi gx tt_6 (k := 1) rfl
  rw [f_x_1] at b_ln0
  have b_ln0 : 0 ≤ ln0.toInt ∧ ln0.toInt ≤ 400 := b_ln0
  refine lv_aload_n hx hb dX6_isByte_0 rfl (lv_at hl 0 rfl) ?_
  refine hk_geti hx hb hts hC_6 hown hW (gx.S hM) tt_6 2 (by decide) rfl kw_127 ⟨rfl, rfl, rfl⟩ ((hM.o gx trivial rfl).1.trans f_x_2) dX6_isByte_1 ?_
  refine lv_aload_n hx hb dX6_isByte_4 rfl (lv_at hl 0 rfl) ?_
  refine hk_geti hx hb hts hC_6 hown hW (gx.S hM) tt_6 1 (by decide) rfl kw_126 ⟨rfl, rfl, rfl⟩ ((hM.o gx trivial rfl).1.trans f_x_1) dX6_isByte_5 ?_
  refine hb_icmp_ge (zx := at0.toInt) (zy := ln0.toInt) (tgt := 28) hx hb rfl rfl dX6_isByte_8 (by decide) (fun c_1 => ?_) (fun c_1 => ?_)
  · skip
    refine lv_iconst (v := 0) hx hb dX6_isByte_28 (by decide) ?_
    exact hx_retz hx hb hr rfl hlk hW ⟨(Or.inr ⟨by decide, fun hc => by have h9 := hc.1; omega⟩), hT, hM⟩ dX6_isByte_29
  · skip
    refine lv_aload_n hx hb dX6_isByte_11 rfl (lv_at hl 0 rfl) ?_
    refine hk_getr hx hb hts hC_6 hown hW (gx.S hM) tt_6 0 (by decide) rfl kw_125 ⟨rfl, rfl, rfl⟩ ((hM.o gx trivial rfl).2.trans f_x_0) dX6_isByte_12 ?_
    refine lv_aload_n hx hb dX6_isByte_15 rfl (lv_at hl 0 rfl) ?_
    refine hk_geti hx hb hts hC_6 hown hW (gx.S hM) tt_6 2 (by decide) rfl kw_127 ⟨rfl, rfl, rfl⟩ ((hM.o gx trivial rfl).1.trans f_x_2) dX6_isByte_16 ?_
    refine hx_bald hx hb hW hT (gqt.S hM) tt_42 rfl ⟨by omega, by omega⟩ dX6_isByte_19 (fun x_2 ex_2 lx_2 ux_2 => ?_)
    have ax_2 : x_2 = tf at0.toNatClampNeg := ex_2.trans (congrFun (hx_afS hM gqt rfl af_qt) _)
    refine lv_iload_n hx hb dX6_isByte_20 rfl (lv_at hl 1 rfl) ?_
    refine hb_icmp_ne (zx := x_2.toInt) (zy := i1.toInt) (tgt := 28) hx hb rfl rfl dX6_isByte_21 (by decide) (fun c_3 => ?_) (fun c_3 => ?_)
    · skip
      refine lv_iconst (v := 0) hx hb dX6_isByte_28 (by decide) ?_
      exact hx_retz hx hb hr rfl hlk hW ⟨(Or.inr ⟨by decide, fun hc => by have h9 : (tf at0.toNatClampNeg).toInt = i1.toInt := hc.2; rw [← ax_2] at h9; omega⟩), hT, hM⟩ dX6_isByte_29
    · skip
      refine lv_iconst (v := 1) hx hb dX6_isByte_24 (by decide) ?_
      refine lv_goto (tgt := 29) hx hb dX6_isByte_25 (by decide) ?_
      exact hx_retz hx hb hr rfl hlk hW ⟨(Or.inl ⟨by decide, by omega, (by show (tf at0.toNatClampNeg).toInt = i1.toInt; rw [← ax_2]; omega)⟩), hT, hM⟩ dX6_isByte_29


set_option maxHeartbeats 4000000 in
set_option maxRecDepth 100000 in
theorem t_X6_isSlot_v (l : Launch) (dC : Nat → ClassId) (dI : Nat → Nat → Nat) (dA : Nat → ClassId) (L : List Nat) (h : hx_h) (sz : Nat) (b0 : hx_z) (x : Nat) (js : Nat) (i2 : Int32) (i3 : Int32) (hT : hx_T T_tb L h) (gx : hx_g L h x 6) (hjs : js < 6) (qt : Nat) (gqt : hx_g L h qt 42) (f_x_0 : h.2.2 x 0 = some qt) (tf : Nat → Int32) (af_qt : h.2.1 qt = tf) (at0 : Int32) (f_x_2 : h.2.1 x 2 = at0) (ln0 : Int32) (f_x_1 : h.2.1 x 1 = ln0) (hi2 : 0 ≤ i2.toInt ∧ i2.toInt ≤ 96) (hi3 : at0.toInt < i3.toInt ∧ i3.toInt ≤ 400) : Met l yX6_isSlot (Cond.code yX6_isSlot cX6_isSlot 6 (some .boolean) :: hx_all) ({ frames := 4, cells := 0, slots := 0, locals := 85 }) (va_Pc [.ref x, .ref (b0.2.2.2.1 js), .int i2, .int i3] (hx_BX T_tb (P_ty dA) (dC, dI) vwCl L h sz b0)) (va_Qi (fun (r : Int32) (u : List Nat × hx_h) => ((r.toInt = 1 ∧ hv_sl tf js i2.toInt.toNat at0.toInt.toNat i3.toInt.toNat) ∨ (r.toInt = 0 ∧ ¬ hv_sl tf js i2.toInt.toNat at0.toInt.toNat i3.toInt.toNat)) ∧ hx_T T_tb u.1 u.2 ∧ hx_S T_tb [] L h u.1 u.2) (hx_E T_tb (P_ty dA) (dC, dI) vwCl (hx_A L sz)) (hx_A L sz)) 0 0 (hx_A L sz) := by
  refine hx_metX (lv := [(0, .ref x), (1, .ref (b0.2.2.2.1 js)), (2, .int i2), (3, .int i3)]) (by decide +kernel) rfl (Nat.le_of_ble_eq_true rfl) rfl ?_
  intro p e s m below meth c hx hb hml hr hlk hts0 hown hin hsz hW hZ ls hl
  have hts : ∀ w ∈ hx_all, w.before _ s = true := fun w hw => hts0 w (List.mem_cons_of_mem _ hw)
  have hown : s.vm.findClass "SmallCourt$Reader" = some m.cls := hown
  have hM : hx_S T_tb [] L h L h := hx_S.rf
  obtain ⟨zLT, zLA, zMT, zMA, zCS, zSF, zVS, zVR⟩ := hZ.2.2.2.2.2.2
  have b_at0 := hT.gi gx tt_6 (k := 2) rfl
  rw [f_x_2] at b_at0
  have b_at0 : 0 ≤ at0.toInt ∧ at0.toInt ≤ 402 := b_at0
  have b_ln0 := hT.gi gx tt_6 (k := 1) rfl
  rw [f_x_1] at b_ln0
  have b_ln0 : 0 ≤ ln0.toInt ∧ ln0.toInt ≤ 400 := b_ln0
  refine lv_iload_n hx hb dX6_isSlot_0 rfl (lv_at hl 3 rfl) ?_
  refine lv_aload_n hx hb dX6_isSlot_1 rfl (lv_at hl 0 rfl) ?_
  refine hk_geti hx hb hts hC_6 hown hW (gx.S hM) tt_6 2 (by decide) rfl kw_127 ⟨rfl, rfl, rfl⟩ ((hM.o gx trivial rfl).1.trans f_x_2) dX6_isSlot_2 ?_
  refine lv_isub hx hb dX6_isSlot_5 ?_
  have rg_1 := i32_r i3
  have rg_2 := i32_r at0
  refine lv_topi (fun x_3 ex_3 => ?_)
  have zx_3 : x_3.toInt = i3.toInt - at0.toInt := by rw [ex_3]; exact i32_sub rfl rfl (by omega) (by omega)
  refine lv_bipush (v := 8) hx hb dX6_isSlot_6 (by decide) ?_
  refine hb_icmp_le (zx := x_3.toInt) (zy := 8) (tgt := 13) hx hb rfl (by decide) dX6_isSlot_8 (by decide) (fun c_4 => ?_) (fun c_4 => ?_)
  · skip
    refine lv_iconst (v := 0) hx hb dX6_isSlot_13 (by decide) ?_
    refine lv_istore (lv' := [(4, .int (0 : Int32)), (0, .ref x), (1, .ref (b0.2.2.2.1 js)), (2, .int i2), (3, .int i3)]) hx hb dX6_isSlot_14 hl (by decide) rfl (fun ls hl => ?_)
    have loop16 : ∀ (n16 : Nat) (iv16_4 : Int32) (H : Heap) (locs : List Loc) (hL1 : List Nat) (hl1 : hx_h), 0 ≤ iv16_4.toInt → iv16_4.toInt ≤ 8 → (∀ i : Nat, (i : Int) < iv16_4.toInt → hv_c1 tf js i2.toInt.toNat at0.toInt.toNat i3.toInt.toNat i) → ∀ (ls : Array Slot), 8 - iv16_4.toInt < (n16 : Int) → hx_W T_tb (P_ty dA) (dC, dI) vwCl (hx_A L sz) s.heap hL1 hl1 s H locs → hx_T T_tb hL1 hl1 → hx_S T_tb [] L h hL1 hl1 → lv_has ls 6 [(4, .int iv16_4), (0, .ref x), (1, .ref (b0.2.2.2.1 js)), (2, .int i2), (3, .int i3)] → W p l e ({ frames := 4, cells := 0, slots := 0, locals := 85 }) s m ([.ref x, .ref (b0.2.2.2.1 js), .int i2, .int i3] : List Value).toArray below meth c H locs 0 0 (MQ below (va_Qi (fun (r : Int32) (u : List Nat × hx_h) => ((r.toInt = 1 ∧ hv_sl tf js i2.toInt.toNat at0.toInt.toNat i3.toInt.toNat) ∨ (r.toInt = 0 ∧ ¬ hv_sl tf js i2.toInt.toNat at0.toInt.toNat i3.toInt.toNat)) ∧ hx_T T_tb u.1 u.2 ∧ hx_S T_tb [] L h u.1 u.2) (hx_E T_tb (P_ty dA) (dC, dI) vwCl (hx_A L sz)) (hx_A L sz)) ([.ref x, .ref (b0.2.2.2.1 js), .int i2, .int i3] : List Value).toArray s 0 0 (hx_A L sz)) (F0 m 16 ls []) := by
      intro n16
      induction n16 with
      | zero => intro iv16_4 H locs hL1 hl1 bliv16_4 buiv16_4 vi16_0 ls hn16; exfalso; omega
      | succ n16 ih16 =>
        intro iv16_4 H locs hL1 hl1 bliv16_4 buiv16_4 vi16_0 ls hn16 hW hT hM   hl
        refine lv_iload hx hb dX6_isSlot_16 (lv_at hl 0 rfl) ?_
        refine lv_bipush (v := 8) hx hb dX6_isSlot_18 (by decide) ?_
        refine hb_icmp_ge (zx := iv16_4.toInt) (zy := 8) (tgt := 85) hx hb rfl (by decide) dX6_isSlot_20 (by decide) (fun c_5 => ?_) (fun c_5 => ?_)
        · skip
          refine lv_iconst (v := 1) hx hb dX6_isSlot_85 (by decide) ?_
          exact hx_retz hx hb hr rfl hlk hW ⟨(Or.inl ⟨by decide, hv_sl_e (by omega) vi16_0 (by omega)⟩), hT, hM⟩ dX6_isSlot_86
        · skip
          refine lv_iload_n hx hb dX6_isSlot_23 rfl (lv_at hl 3 rfl) ?_
          refine lv_iload hx hb dX6_isSlot_24 (lv_at hl 0 rfl) ?_
          refine lv_iadd hx hb dX6_isSlot_26 ?_
          have rg_6 := i32_r i2
          have rg_7 := i32_r iv16_4
          refine lv_topi (fun x_8 ex_8 => ?_)
          have zx_8 : x_8.toInt = i2.toInt + iv16_4.toInt := by rw [ex_8]; exact i32_add rfl rfl (by omega) (by omega)
          refine lv_aload_n hx hb dX6_isSlot_27 rfl (lv_at hl 2 rfl) ?_
          refine hx_goi (hx_runVS (As := []) (rest := [.int x_8]) ⟨hx, hb, hml, hown, hts⟩ hW hZ (i := js) hjs (t_J0_length_8abf5 l dC dI dA hL1 hl1 H.size b0 js hT hjs) (cwV 0 hts (hx_gV kw_475 kw_472 kw_473 kw_474 kw_104) rfl rfl rfl (by decide +kernel) ⟨Nat.le_of_ble_eq_true rfl, Nat.le_of_ble_eq_true rfl⟩) rfl hl.1 rfl (Nat.le_of_ble_eq_true rfl) dX6_isSlot_28 ⟨Nat.le_of_ble_eq_true rfl, Nat.le_of_ble_eq_true rfl⟩) hW (fun r_11 L_9 h_10 H locs p_12 hW => ?_)
          obtain ⟨hr_13, hT, hs⟩ := p_12
          replace hT : hx_T T_tb L_9 h_10 := hT
          replace hs : hx_S T_tb [] hL1 hl1 L_9 h_10 := hs
          replace hM := hM.tr (hs.mono (by decide))
          have lr_11 := hx_ln js hjs; rw [← hr_13] at lr_11
          have kr_11 : (Int32.ofNat (P_ln.getD js 0)).toInt = r_11.toInt := by rw [hr_13]
          refine hb_icmp_ge (zx := x_8.toInt) (zy := r_11.toInt) (tgt := 85) hx hb rfl rfl dX6_isSlot_31 (by decide) (fun c_14 => ?_) (fun c_14 => ?_)
          · skip
            refine lv_iconst (v := 1) hx hb dX6_isSlot_85 (by decide) ?_
            exact hx_retz hx hb hr rfl hlk hW ⟨(Or.inl ⟨by decide, hv_sl_e (by omega) vi16_0 (by omega)⟩), hT, hM⟩ dX6_isSlot_86
          · skip
            refine lv_aload_n hx hb dX6_isSlot_34 rfl (lv_at hl 1 rfl) ?_
            refine hk_geti hx hb hts hC_6 hown hW (gx.S hM) tt_6 2 (by decide) rfl kw_127 ⟨rfl, rfl, rfl⟩ ((hM.o gx trivial rfl).1.trans f_x_2) dX6_isSlot_35 ?_
            refine lv_iload hx hb dX6_isSlot_38 (lv_at hl 0 rfl) ?_
            refine lv_iadd hx hb dX6_isSlot_40 ?_
            refine lv_topi (fun x_15 ex_15 => ?_)
            have zx_15 : x_15.toInt = at0.toInt + iv16_4.toInt := by rw [ex_15]; exact i32_add rfl rfl (by omega) (by omega)
            refine lv_iload_n hx hb dX6_isSlot_41 rfl (lv_at hl 4 rfl) ?_
            refine hb_icmp_ge (zx := x_15.toInt) (zy := i3.toInt) (tgt := 60) hx hb rfl rfl dX6_isSlot_42 (by decide) (fun c_16 => ?_) (fun c_16 => ?_)
            · skip
              refine lv_bipush (v := 32) hx hb dX6_isSlot_60 (by decide) ?_
              refine lv_istore (lv' := [(5, .int (32 : Int32)), (4, .int iv16_4), (0, .ref x), (1, .ref (b0.2.2.2.1 js)), (2, .int i2), (3, .int i3)]) hx hb dX6_isSlot_62 hl (by decide) rfl (fun ls hl => ?_)
              refine lv_aload_n hx hb dX6_isSlot_64 rfl (lv_at hl 3 rfl) ?_
              refine lv_iload_n hx hb dX6_isSlot_65 rfl (lv_at hl 4 rfl) ?_
              refine lv_iload hx hb dX6_isSlot_66 (lv_at hl 1 rfl) ?_
              refine lv_iadd hx hb dX6_isSlot_68 ?_
              refine lv_topi (fun x_17 ex_17 => ?_)
              have zx_17 : x_17.toInt = i2.toInt + iv16_4.toInt := by rw [ex_17]; exact i32_add rfl rfl (by omega) (by omega)
              obtain rfl : x_8 = x_17 := ex_8.trans ex_17.symm
              refine hx_goi (hx_runVS (As := [.int x_8]) (rest := []) ⟨hx, hb, hml, hown, hts⟩ hW hZ (i := js) hjs (t_J0_charAt_v l dC dI dA L_9 h_10 H.size b0 js x_8 hT hjs (by rw [← hr_13]; exact ⟨by omega, by omega⟩)) (cwV 1 hts (hx_gV kw_489 kw_486 kw_487 kw_488 kw_104) rfl rfl rfl (by decide +kernel) ⟨Nat.le_of_ble_eq_true rfl, Nat.le_of_ble_eq_true rfl⟩) rfl hl.1 rfl (Nat.le_of_ble_eq_true rfl) dX6_isSlot_69 ⟨Nat.le_of_ble_eq_true rfl, Nat.le_of_ble_eq_true rfl⟩) hW (fun r_20 L_18 h_19 H locs p_21 hW => ?_)
              obtain ⟨hr_22, hT, hs⟩ := p_21
              replace hT : hx_T T_tb L_18 h_19 := hT
              replace hs : hx_S T_tb [] L_9 h_10 L_18 h_19 := hs
              replace hM := hM.tr (hs.mono (by decide))
              refine lv_iload hx hb dX6_isSlot_72 (lv_at hl 0 rfl) ?_
              refine hb_icmp_eq (zx := r_20.toInt) (zy := 32) (tgt := 79) hx hb rfl (by decide) dX6_isSlot_74 (by decide) (fun c_23 => ?_) (fun c_23 => ?_)
              · skip
                obtain ⟨x_24, ex_24⟩ : ∃ y : Int32, y = iv16_4 + Int32.ofInt 1 := ⟨_, rfl⟩
                have zx_24 : x_24.toInt = iv16_4.toInt + (1) := by rw [ex_24]; exact i32_add rfl (by decide) (by omega) (by omega)
                refine lv_iinc (v := x_24) (lv' := [(4, .int x_24), (5, .int (32 : Int32)), (0, .ref x), (1, .ref (b0.2.2.2.1 js)), (2, .int i2), (3, .int i3)]) hx hb dX6_isSlot_79 hl (k := 1) rfl ex_24.symm (by decide) rfl (fun ls hl => ?_)
                refine lv_goto (tgt := 16) hx hb dX6_isSlot_82 (by decide) ?_
                exact ih16 x_24 _ _ L_18 h_19 (by omega) (by omega) (hv_c1_s vi16_0 (by omega) (hv_c1_f (by omega) (by omega) (by omega) zx_8 hr_22 (by omega) (by omega)) zx_24) ls (by omega) hW hT hM   (lv_sub hl [0, 2, 3, 4, 5] rfl)
              · skip
                refine lv_iconst (v := 0) hx hb dX6_isSlot_77 (by decide) ?_
                exact hx_retz hx hb hr rfl hlk hW ⟨(Or.inr ⟨by decide, fun hc => absurd (hc.2 iv16_4.toInt.toNat (by omega)) (hv_c1_nf (by omega) (by omega) (by omega) zx_8 hr_22 (by omega) (by omega) (by omega))⟩), hT, hM⟩ dX6_isSlot_78
            · skip
              refine lv_aload_n hx hb dX6_isSlot_45 rfl (lv_at hl 1 rfl) ?_
              refine hk_getr hx hb hts hC_6 hown hW (gx.S hM) tt_6 0 (by decide) rfl kw_125 ⟨rfl, rfl, rfl⟩ ((hM.o gx trivial rfl).2.trans f_x_0) dX6_isSlot_46 ?_
              refine lv_aload_n hx hb dX6_isSlot_49 rfl (lv_at hl 1 rfl) ?_
              refine hk_geti hx hb hts hC_6 hown hW (gx.S hM) tt_6 2 (by decide) rfl kw_127 ⟨rfl, rfl, rfl⟩ ((hM.o gx trivial rfl).1.trans f_x_2) dX6_isSlot_50 ?_
              refine lv_iload hx hb dX6_isSlot_53 (lv_at hl 0 rfl) ?_
              refine lv_iadd hx hb dX6_isSlot_55 ?_
              refine lv_topi (fun x_25 ex_25 => ?_)
              have zx_25 : x_25.toInt = at0.toInt + iv16_4.toInt := by rw [ex_25]; exact i32_add rfl rfl (by omega) (by omega)
              obtain rfl : x_15 = x_25 := ex_15.trans ex_25.symm
              refine hx_bald hx hb hW hT (gqt.S hM) tt_42 rfl ⟨by omega, by omega⟩ dX6_isSlot_56 (fun x_26 ex_26 lx_26 ux_26 => ?_)
              have ax_26 : x_26 = tf x_15.toNatClampNeg := ex_26.trans (congrFun (hx_afS hM gqt rfl af_qt) _)
              refine lv_goto (tgt := 62) hx hb dX6_isSlot_57 (by decide) ?_
              refine lv_istore (lv' := [(5, .int x_26), (4, .int iv16_4), (0, .ref x), (1, .ref (b0.2.2.2.1 js)), (2, .int i2), (3, .int i3)]) hx hb dX6_isSlot_62 hl (by decide) rfl (fun ls hl => ?_)
              refine lv_aload_n hx hb dX6_isSlot_64 rfl (lv_at hl 3 rfl) ?_
              refine lv_iload_n hx hb dX6_isSlot_65 rfl (lv_at hl 4 rfl) ?_
              refine lv_iload hx hb dX6_isSlot_66 (lv_at hl 1 rfl) ?_
              refine lv_iadd hx hb dX6_isSlot_68 ?_
              refine lv_topi (fun x_27 ex_27 => ?_)
              have zx_27 : x_27.toInt = i2.toInt + iv16_4.toInt := by rw [ex_27]; exact i32_add rfl rfl (by omega) (by omega)
              obtain rfl : x_8 = x_27 := ex_8.trans ex_27.symm
              refine hx_goi (hx_runVS (As := [.int x_8]) (rest := []) ⟨hx, hb, hml, hown, hts⟩ hW hZ (i := js) hjs (t_J0_charAt_v l dC dI dA L_9 h_10 H.size b0 js x_8 hT hjs (by rw [← hr_13]; exact ⟨by omega, by omega⟩)) (cwV 1 hts (hx_gV kw_489 kw_486 kw_487 kw_488 kw_104) rfl rfl rfl (by decide +kernel) ⟨Nat.le_of_ble_eq_true rfl, Nat.le_of_ble_eq_true rfl⟩) rfl hl.1 rfl (Nat.le_of_ble_eq_true rfl) dX6_isSlot_69 ⟨Nat.le_of_ble_eq_true rfl, Nat.le_of_ble_eq_true rfl⟩) hW (fun r_30 L_28 h_29 H locs p_31 hW => ?_)
              obtain ⟨hr_32, hT, hs⟩ := p_31
              replace hT : hx_T T_tb L_28 h_29 := hT
              replace hs : hx_S T_tb [] L_9 h_10 L_28 h_29 := hs
              replace ex_26 := ex_26.trans (hs.a (gqt.S hM) rfl _).1.symm
              replace hM := hM.tr (hs.mono (by decide))
              refine lv_iload hx hb dX6_isSlot_72 (lv_at hl 0 rfl) ?_
              refine hb_icmp_eq (zx := r_30.toInt) (zy := x_26.toInt) (tgt := 79) hx hb rfl rfl dX6_isSlot_74 (by decide) (fun c_33 => ?_) (fun c_33 => ?_)
              · skip
                obtain ⟨x_34, ex_34⟩ : ∃ y : Int32, y = iv16_4 + Int32.ofInt 1 := ⟨_, rfl⟩
                have zx_34 : x_34.toInt = iv16_4.toInt + (1) := by rw [ex_34]; exact i32_add rfl (by decide) (by omega) (by omega)
                refine lv_iinc (v := x_34) (lv' := [(4, .int x_34), (5, .int x_26), (0, .ref x), (1, .ref (b0.2.2.2.1 js)), (2, .int i2), (3, .int i3)]) hx hb dX6_isSlot_79 hl (k := 1) rfl ex_34.symm (by decide) rfl (fun ls hl => ?_)
                refine lv_goto (tgt := 16) hx hb dX6_isSlot_82 (by decide) ?_
                exact ih16 x_34 _ _ L_28 h_29 (by omega) (by omega) (hv_c1_s vi16_0 (by omega) (hv_c1_t (by omega) (by omega) (by omega) zx_8 zx_15 hr_32 ax_26 (by omega) (by omega)) zx_34) ls (by omega) hW hT hM   (lv_sub hl [0, 2, 3, 4, 5] rfl)
              · skip
                refine lv_iconst (v := 0) hx hb dX6_isSlot_77 (by decide) ?_
                exact hx_retz hx hb hr rfl hlk hW ⟨(Or.inr ⟨by decide, fun hc => absurd (hc.2 iv16_4.toInt.toNat (by omega)) (hv_c1_nt (by omega) (by omega) (by omega) zx_8 zx_15 hr_32 ax_26 (by omega) (by omega) (by omega))⟩), hT, hM⟩ dX6_isSlot_78
    have zk_0 : (0 : Int32).toInt = 0 := by decide
    exact loop16 9 (0 : Int32) _ _ L h (by decide) (by decide) (fun i hi => by exfalso; omega) ls (by omega) hW hT hM   hl
  · skip
    refine lv_iconst (v := 0) hx hb dX6_isSlot_11 (by decide) ?_
    exact hx_retz hx hb hr rfl hlk hW ⟨(Or.inr ⟨by decide, fun hc => by have h9 := hc.1; omega⟩), hT, hM⟩ dX6_isSlot_12


set_option maxHeartbeats 4000000 in
set_option maxRecDepth 100000 in
theorem t_X6_readWord_v (l : Launch) (dC : Nat → ClassId) (dI : Nat → Nat → Nat) (dA : Nat → ClassId) (L : List Nat) (h : hx_h) (sz : Nat) (b0 : hx_z) (x : Nat) (js : Nat) (hT : hx_T T_tb L h) (gx : hx_g L h x 6) (hjs : js < 6) (qt : Nat) (gqt : hx_g L h qt 42) (f_x_0 : h.2.2 x 0 = some qt) (tf : Nat → Int32) (af_qt : h.2.1 qt = tf) (at0 : Int32) (f_x_2 : h.2.1 x 2 = at0) (ln0 : Int32) (f_x_1 : h.2.1 x 1 = ln0) (hA : at0.toInt ≤ ln0.toInt) : Met l yX6_readWord (Cond.code yX6_readWord cX6_readWord 4 (some .int) :: hx_all) ({ frames := 5, cells := 0, slots := 0, locals := 110 }) (va_Pc [.ref x, .ref (b0.2.2.2.1 js)] (hx_BX T_tb (P_ty dA) (dC, dI) vwCl L h sz b0)) (va_Qi (fun (r : Int32) (u : List Nat × hx_h) => (∃ (at1 : Int32), u.2.2.1 x 2 = at1 ∧ (((r.toInt = -1 ∧ at1.toInt = ((hv_sk tf ln0.toInt.toNat at0.toInt.toNat : Nat) : Int)) ∨ (0 ≤ r.toInt ∧ at1.toInt = ((hv_we tf ln0.toInt.toNat (hv_sk tf ln0.toInt.toNat at0.toInt.toNat) : Nat) : Int))) ∧ hv_RW tf ln0.toInt.toNat js r.toInt (hv_sk tf ln0.toInt.toNat at0.toInt.toNat) ∧ at0.toInt ≤ at1.toInt ∧ at1.toInt ≤ ln0.toInt)) ∧ hx_T T_tb u.1 u.2 ∧ hx_S T_tb [(6, 2)] L h u.1 u.2) (hx_E T_tb (P_ty dA) (dC, dI) vwCl (hx_A L sz)) (hx_A L sz)) 0 0 (hx_A L sz) := by
  refine hx_metX (lv := [(0, .ref x), (1, .ref (b0.2.2.2.1 js))]) (by decide +kernel) rfl (Nat.le_of_ble_eq_true rfl) rfl ?_
  intro p e s m below meth c hx hb hml hr hlk hts0 hown hin hsz hW hZ ls hl
  have hts : ∀ w ∈ hx_all, w.before _ s = true := fun w hw => hts0 w (List.mem_cons_of_mem _ hw)
  have hown : s.vm.findClass "SmallCourt$Reader" = some m.cls := hown
  have hM : hx_S T_tb [(6, 2)] L h L h := hx_S.rf
  obtain ⟨zLT, zLA, zMT, zMA, zCS, zSF, zVS, zVR⟩ := hZ.2.2.2.2.2.2
  have b_at0 := hT.gi gx tt_6 (k := 2) rfl
  rw [f_x_2] at b_at0
  have b_at0 : 0 ≤ at0.toInt ∧ at0.toInt ≤ 402 := b_at0
  have b_ln0 := hT.gi gx tt_6 (k := 1) rfl
  rw [f_x_1] at b_ln0
  have b_ln0 : 0 ≤ ln0.toInt ∧ ln0.toInt ≤ 400 := b_ln0
  refine lv_aload_n hx hb dX6_readWord_0 rfl (lv_at hl 0 rfl) ?_
  refine hx_gov (hx_runV (As := []) (rest := []) ⟨hx, hb, hml, hown, hts⟩ hW (gx.S hM) tt_6 (T := TX6) (N := 7) rfl (t_X6_skipBlanks_v l dC dI dA L h s.heap.size x hT (gx.S hM) qt (gqt.S hM) ((hM.o gx trivial rfl).2.trans f_x_0) tf (hx_afS hM gqt rfl af_qt) at0 f_x_2 ln0 ((hM.o gx trivial rfl).1.trans f_x_1) (by omega)) (cwV 0 hts (hx_gV kw_458 kw_455 kw_457 kw_1 kw_95) rfl rfl rfl (by decide +kernel) ⟨Nat.le_of_ble_eq_true rfl, Nat.le_of_ble_eq_true rfl⟩) rfl hl.1 rfl (Nat.le_of_ble_eq_true rfl) dX6_readWord_1 ⟨Nat.le_of_ble_eq_true rfl, Nat.le_of_ble_eq_true rfl⟩) hW (fun L_1 h_2 H locs p_4 hW => ?_)
  obtain ⟨⟨w_6, fw_6, hr_5⟩, hT, hs⟩ := p_4
  replace hT : hx_T T_tb L_1 h_2 := hT
  replace hs : hx_S T_tb [(6, 2)] L h L_1 h_2 := hs
  replace hM := hM.tr (hs.mono (by decide))
  have fw_6 : h_2.2.1 x 2 = w_6 := fw_6
  have bw_6 := hT.gi (gx.S hM) tt_6 (k := 2) rfl
  rw [fw_6] at bw_6
  have bw_6 : 0 ≤ w_6.toInt ∧ w_6.toInt ≤ 402 := bw_6
  have ek_7 : w_6.toInt.toNat = hv_sk tf ln0.toInt.toNat at0.toInt.toNat := by omega
  refine lv_aload_n hx hb dX6_readWord_4 rfl (lv_at hl 0 rfl) ?_
  refine hx_goi (hx_runV (As := []) (rest := []) ⟨hx, hb, hml, hown, hts⟩ hW (gx.S hM) tt_6 (T := TX6) (N := 7) rfl (t_X6_wordEnd_v l dC dI dA L_1 h_2 H.size x hT (gx.S hM) qt (gqt.S hM) ((hM.o gx trivial rfl).2.trans f_x_0) tf (hx_afS hM gqt rfl af_qt) w_6 fw_6 ln0 ((hM.o gx trivial rfl).1.trans f_x_1) (by omega)) (cwV 0 hts (hx_gV kw_471 kw_468 kw_470 kw_4 kw_95) rfl rfl rfl (by decide +kernel) ⟨Nat.le_of_ble_eq_true rfl, Nat.le_of_ble_eq_true rfl⟩) rfl hl.1 rfl (Nat.le_of_ble_eq_true rfl) dX6_readWord_5 ⟨Nat.le_of_ble_eq_true rfl, Nat.le_of_ble_eq_true rfl⟩) hW (fun r_10 L_8 h_9 H locs p_11 hW => ?_)
  obtain ⟨hr_12, hT, hs⟩ := p_11
  replace hT : hx_T T_tb L_8 h_9 := hT
  replace hs : hx_S T_tb [] L_1 h_2 L_8 h_9 := hs
  replace fw_6 := (hs.o (gx.S hM) trivial rfl).1.trans fw_6
  replace hM := hM.tr (hs.mono (by decide))
  have ew_13 : r_10.toInt.toNat = hv_we tf ln0.toInt.toNat w_6.toInt.toNat := by omega
  refine lv_istore_n (lv' := [(2, .int r_10), (0, .ref x), (1, .ref (b0.2.2.2.1 js))]) hx hb dX6_readWord_8 rfl hl (by decide) rfl (fun ls hl => ?_)
  refine lv_iconst (v := 0) hx hb dX6_readWord_9 (by decide) ?_
  refine lv_istore_n (lv' := [(3, .int (0 : Int32)), (2, .int r_10), (0, .ref x), (1, .ref (b0.2.2.2.1 js))]) hx hb dX6_readWord_10 rfl hl (by decide) rfl (fun ls hl => ?_)
  have loop11 : ∀ (n11 : Nat) (iv11_3 : Int32) (H : Heap) (locs : List Loc) (hL1 : List Nat) (hl1 : hx_h), 0 ≤ iv11_3.toInt → iv11_3.toInt ≤ 96 → (∀ k : Nat, 8 * (k : Int) + 8 ≤ iv11_3.toInt → ¬ hv_sl tf js (8 * k) (w_6.toInt).toNat (r_10.toInt).toNat) → (iv11_3.toInt % 8 = 0) → ∀ (ls : Array Slot), 96 - iv11_3.toInt < (n11 : Int) → hx_W T_tb (P_ty dA) (dC, dI) vwCl (hx_A L sz) s.heap hL1 hl1 s H locs → hx_T T_tb hL1 hl1 → hx_S T_tb [(6, 2)] L h hL1 hl1 → hl1.2.1 x 2 = w_6 → lv_has ls 4 [(3, .int iv11_3), (2, .int r_10), (0, .ref x), (1, .ref (b0.2.2.2.1 js))] → W p l e ({ frames := 5, cells := 0, slots := 0, locals := 110 }) s m ([.ref x, .ref (b0.2.2.2.1 js)] : List Value).toArray below meth c H locs 0 0 (MQ below (va_Qi (fun (r : Int32) (u : List Nat × hx_h) => (∃ (at1 : Int32), u.2.2.1 x 2 = at1 ∧ (((r.toInt = -1 ∧ at1.toInt = ((hv_sk tf ln0.toInt.toNat at0.toInt.toNat : Nat) : Int)) ∨ (0 ≤ r.toInt ∧ at1.toInt = ((hv_we tf ln0.toInt.toNat (hv_sk tf ln0.toInt.toNat at0.toInt.toNat) : Nat) : Int))) ∧ hv_RW tf ln0.toInt.toNat js r.toInt (hv_sk tf ln0.toInt.toNat at0.toInt.toNat) ∧ at0.toInt ≤ at1.toInt ∧ at1.toInt ≤ ln0.toInt)) ∧ hx_T T_tb u.1 u.2 ∧ hx_S T_tb [(6, 2)] L h u.1 u.2) (hx_E T_tb (P_ty dA) (dC, dI) vwCl (hx_A L sz)) (hx_A L sz)) ([.ref x, .ref (b0.2.2.2.1 js)] : List Value).toArray s 0 0 (hx_A L sz)) (F0 m 11 ls []) := by
    intro n11
    induction n11 with
    | zero => intro iv11_3 H locs hL1 hl1 bliv11_3 buiv11_3 vi11_0 vi11_1 ls hn11; exfalso; omega
    | succ n11 ih11 =>
      intro iv11_3 H locs hL1 hl1 bliv11_3 buiv11_3 vi11_0 vi11_1 ls hn11 hW hT hM fw_6  hl
      refine lv_iload_n hx hb dX6_readWord_11 rfl (lv_at hl 1 rfl) ?_
      refine lv_aload_n hx hb dX6_readWord_12 rfl (lv_at hl 2 rfl) ?_
      refine hk_geti hx hb hts hC_6 hown hW (gx.S hM) tt_6 2 (by decide) rfl kw_127 ⟨rfl, rfl, rfl⟩ fw_6 dX6_readWord_13 ?_
      refine hb_icmp_le (zx := r_10.toInt) (zy := w_6.toInt) (tgt := 56) hx hb rfl rfl dX6_readWord_16 (by decide) (fun c_14 => ?_) (fun c_14 => ?_)
      · skip
        refine lv_iconst (v := -1) hx hb dX6_readWord_56 (by decide) ?_
        exact hx_reti hx hb hr hlk hW ⟨⟨w_6, fw_6, ⟨Or.inl ⟨by decide, by omega⟩, (Or.inl ⟨by decide, fun k hk9 hlt => by rw [← ek_7, ← ew_13] at hlt; rw [← ek_7, ← ew_13]; first | (exfalso; omega) | exact vi11_0 k (by omega)⟩), by omega, by omega⟩⟩, hT, hM⟩ dX6_readWord_57
      · skip
        refine lv_iload_n hx hb dX6_readWord_19 rfl (lv_at hl 0 rfl) ?_
        refine lv_bipush (v := 8) hx hb dX6_readWord_20 (by decide) ?_
        refine lv_iadd hx hb dX6_readWord_22 ?_
        have rg_15 := i32_r iv11_3
        refine lv_topi (fun x_16 ex_16 => ?_)
        have zx_16 : x_16.toInt = iv11_3.toInt + 8 := by rw [ex_16]; exact i32_add rfl (by decide) (by omega) (by omega)
        refine lv_aload_n hx hb dX6_readWord_23 rfl (lv_at hl 3 rfl) ?_
        refine hx_goi (hx_runVS (As := []) (rest := [.int x_16]) ⟨hx, hb, hml, hown, hts⟩ hW hZ (i := js) hjs (t_J0_length_8abf5 l dC dI dA hL1 hl1 H.size b0 js hT hjs) (cwV 0 hts (hx_gV kw_475 kw_472 kw_473 kw_474 kw_104) rfl rfl rfl (by decide +kernel) ⟨Nat.le_of_ble_eq_true rfl, Nat.le_of_ble_eq_true rfl⟩) rfl hl.1 rfl (Nat.le_of_ble_eq_true rfl) dX6_readWord_24 ⟨Nat.le_of_ble_eq_true rfl, Nat.le_of_ble_eq_true rfl⟩) hW (fun r_19 L_17 h_18 H locs p_20 hW => ?_)
        obtain ⟨hr_21, hT, hs⟩ := p_20
        replace hT : hx_T T_tb L_17 h_18 := hT
        replace hs : hx_S T_tb [] hL1 hl1 L_17 h_18 := hs
        replace fw_6 := (hs.o (gx.S hM) trivial rfl).1.trans fw_6
        replace hM := hM.tr (hs.mono (by decide))
        have lr_19 := hx_ln js hjs; rw [← hr_21] at lr_19
        have kr_19 : (Int32.ofNat (P_ln.getD js 0)).toInt = r_19.toInt := by rw [hr_21]
        refine hb_icmp_gt (zx := x_16.toInt) (zy := r_19.toInt) (tgt := 56) hx hb rfl rfl dX6_readWord_27 (by decide) (fun c_22 => ?_) (fun c_22 => ?_)
        · skip
          refine lv_iconst (v := -1) hx hb dX6_readWord_56 (by decide) ?_
          exact hx_reti hx hb hr hlk hW ⟨⟨w_6, fw_6, ⟨Or.inl ⟨by decide, by omega⟩, (Or.inl ⟨by decide, fun k hk9 hlt => by rw [← ek_7, ← ew_13] at hlt; rw [← ek_7, ← ew_13]; first | (exfalso; omega) | exact vi11_0 k (by omega)⟩), by omega, by omega⟩⟩, hT, hM⟩ dX6_readWord_57
        · skip
          refine lv_aload_n hx hb dX6_readWord_30 rfl (lv_at hl 2 rfl) ?_
          refine lv_aload_n hx hb dX6_readWord_31 rfl (lv_at hl 3 rfl) ?_
          refine lv_iload_n hx hb dX6_readWord_32 rfl (lv_at hl 0 rfl) ?_
          refine lv_iload_n hx hb dX6_readWord_33 rfl (lv_at hl 1 rfl) ?_
          refine hx_goi (hx_runVX (As := [.ref (b0.2.2.2.1 js), .int iv11_3, .int r_10]) (rest := []) ⟨hx, hb, hml, hown, hts⟩ hW (gx.S hM) tt_6 (T := TX6) (N := 7) rfl (t_X6_isSlot_v l dC dI dA L_17 h_18 H.size b0 x js iv11_3 r_10 hT (gx.S hM) hjs qt (gqt.S hM) ((hM.o gx trivial rfl).2.trans f_x_0) tf (hx_afS hM gqt rfl af_qt) w_6 fw_6 ln0 ((hM.o gx trivial rfl).1.trans f_x_1) ⟨by omega, by omega⟩ ⟨by omega, by omega⟩) hZ (cwV 3 hts (hx_gV kw_485 kw_482 kw_484 kw_5 kw_95) rfl rfl rfl (by decide +kernel) ⟨Nat.le_of_ble_eq_true rfl, Nat.le_of_ble_eq_true rfl⟩) rfl hl.1 rfl (Nat.le_of_ble_eq_true rfl) dX6_readWord_34 ⟨Nat.le_of_ble_eq_true rfl, Nat.le_of_ble_eq_true rfl⟩) hW (fun r_25 L_23 h_24 H locs p_26 hW => ?_)
          obtain ⟨hr_27, hT, hs⟩ := p_26
          replace hT : hx_T T_tb L_23 h_24 := hT
          replace hs : hx_S T_tb [] L_17 h_18 L_23 h_24 := hs
          replace fw_6 := (hs.o (gx.S hM) trivial rfl).1.trans fw_6
          replace hM := hM.tr (hs.mono (by decide))
          refine hb_if_eq (zx := r_25.toInt) (tgt := 50) hx hb rfl dX6_readWord_37 (by decide) (fun c_28 => ?_) (fun c_28 => ?_)
          · skip
            obtain ⟨x_29, ex_29⟩ : ∃ y : Int32, y = iv11_3 + Int32.ofInt 8 := ⟨_, rfl⟩
            have zx_29 : x_29.toInt = iv11_3.toInt + (8) := by rw [ex_29]; exact i32_add rfl (by decide) (by omega) (by omega)
            refine lv_iinc (v := x_29) (lv' := [(3, .int x_29), (2, .int r_10), (0, .ref x), (1, .ref (b0.2.2.2.1 js))]) hx hb dX6_readWord_50 hl (k := 0) rfl ex_29.symm (by decide) rfl (fun ls hl => ?_)
            refine lv_goto (tgt := 11) hx hb dX6_readWord_53 (by decide) ?_
            exact ih11 x_29 _ _ L_23 h_24 (by omega) (by omega) (hv_rw_s (C := fun s => hv_sl tf js s w_6.toInt.toNat r_10.toInt.toNat) vi11_0 (by omega) (by omega) (by rcases hr_27 with z | z; (exfalso; omega); exact z.2) zx_29) (by omega) ls (by omega) hW hT hM fw_6  (lv_sub hl [0, 1, 2, 3] rfl)
          · skip
            refine lv_aload_n hx hb dX6_readWord_40 rfl (lv_at hl 2 rfl) ?_
            refine lv_iload_n hx hb dX6_readWord_41 rfl (lv_at hl 1 rfl) ?_
            refine hx_puti hx hb hts hC_6 hown hW hT (hx_S.rf (M := [(6, 2)])) (gx.S hM) tt_6 2 (by decide) rfl kw_127 ⟨rfl, rfl, rfl⟩ rfl (x := r_10) ⟨by omega, by omega⟩ rfl rfl rfl (List.mem_singleton.mpr rfl) dX6_readWord_42 (fun H locs h_30 eh_30 hW hT hs => ?_)
            replace hM := hM.tr (hs.mono (by decide))
            have f_31 : h_30.2.1 x 2 = r_10 := by rw [eh_30]; exact hx_pi_at _ _ _ _
            refine lv_iload_n hx hb dX6_readWord_45 rfl (lv_at hl 0 rfl) ?_
            refine lv_bipush (v := 8) hx hb dX6_readWord_46 (by decide) ?_
            refine lv_idiv hx hb dX6_readWord_48 (by decide) ?_
            refine lv_topi (fun x_32 ex_32 => ?_)
            have zx_32 : x_32.toInt = iv11_3.toInt / 8 := by rw [ex_32, hx_dv (by omega) (by decide)]; rfl
            exact hx_reti hx hb hr hlk hW ⟨⟨r_10, f_31, ⟨Or.inr ⟨by omega, (by rw [← ek_7]; omega)⟩, (Or.inr ⟨by omega, by omega, (by rw [← ek_7, ← ew_13]; omega), (by rw [← ek_7, ← ew_13, show 8 * x_32.toInt.toNat = iv11_3.toInt.toNat by omega]; exact (by rcases hr_27 with z | z; exact z.2; exfalso; omega))⟩), by omega, by omega⟩⟩, hT, hM⟩ dX6_readWord_49
  have zk_0 : (0 : Int32).toInt = 0 := by decide
  exact loop11 97 (0 : Int32) _ _ L_8 h_9 (by decide) (by decide) (fun k hk => by exfalso; omega) (by omega) ls (by omega) hW hT hM fw_6  hl


set_option maxHeartbeats 4000000 in
set_option maxRecDepth 100000 in
theorem t_X6_isNextWord_v (l : Launch) (dC : Nat → ClassId) (dI : Nat → Nat → Nat) (dA : Nat → ClassId) (L : List Nat) (h : hx_h) (sz : Nat) (b0 : hx_z) (x : Nat) (js : Nat) (hT : hx_T T_tb L h) (gx : hx_g L h x 6) (hjs : js < 6) (qt : Nat) (gqt : hx_g L h qt 42) (f_x_0 : h.2.2 x 0 = some qt) (tf : Nat → Int32) (af_qt : h.2.1 qt = tf) (at0 : Int32) (f_x_2 : h.2.1 x 2 = at0) (ln0 : Int32) (f_x_1 : h.2.1 x 1 = ln0) (hA : at0.toInt ≤ ln0.toInt) : Met l yX6_isNextWord (Cond.code yX6_isNextWord cX6_isNextWord 3 (some .boolean) :: hx_all) ({ frames := 5, cells := 0, slots := 0, locals := 110 }) (va_Pc [.ref x, .ref (b0.2.2.2.1 js)] (hx_BX T_tb (P_ty dA) (dC, dI) vwCl L h sz b0)) (va_Qi (fun (r : Int32) (u : List Nat × hx_h) => (∃ (at1 : Int32), u.2.2.1 x 2 = at1 ∧ (at1.toInt = ((hv_sk tf ln0.toInt.toNat at0.toInt.toNat : Nat) : Int) ∧ hv_NW tf ln0.toInt.toNat js r.toInt (hv_sk tf ln0.toInt.toNat at0.toInt.toNat) ∧ at0.toInt ≤ at1.toInt ∧ at1.toInt ≤ ln0.toInt)) ∧ hx_T T_tb u.1 u.2 ∧ hx_S T_tb [(6, 2)] L h u.1 u.2) (hx_E T_tb (P_ty dA) (dC, dI) vwCl (hx_A L sz)) (hx_A L sz)) 0 0 (hx_A L sz) := by
  refine hx_metX (lv := [(0, .ref x), (1, .ref (b0.2.2.2.1 js))]) (by decide +kernel) rfl (Nat.le_of_ble_eq_true rfl) rfl ?_
  intro p e s m below meth c hx hb hml hr hlk hts0 hown hin hsz hW hZ ls hl
  have hts : ∀ w ∈ hx_all, w.before _ s = true := fun w hw => hts0 w (List.mem_cons_of_mem _ hw)
  have hown : s.vm.findClass "SmallCourt$Reader" = some m.cls := hown
  have hM : hx_S T_tb [(6, 2)] L h L h := hx_S.rf
  obtain ⟨zLT, zLA, zMT, zMA, zCS, zSF, zVS, zVR⟩ := hZ.2.2.2.2.2.2
  have b_at0 := hT.gi gx tt_6 (k := 2) rfl
  rw [f_x_2] at b_at0
  have b_at0 : 0 ≤ at0.toInt ∧ at0.toInt ≤ 402 := b_at0
  have b_ln0 := hT.gi gx tt_6 (k := 1) rfl
  rw [f_x_1] at b_ln0
  have b_ln0 : 0 ≤ ln0.toInt ∧ ln0.toInt ≤ 400 := b_ln0
  refine lv_aload_n hx hb dX6_isNextWord_0 rfl (lv_at hl 0 rfl) ?_
  refine hx_gov (hx_runV (As := []) (rest := []) ⟨hx, hb, hml, hown, hts⟩ hW (gx.S hM) tt_6 (T := TX6) (N := 7) rfl (t_X6_skipBlanks_v l dC dI dA L h s.heap.size x hT (gx.S hM) qt (gqt.S hM) ((hM.o gx trivial rfl).2.trans f_x_0) tf (hx_afS hM gqt rfl af_qt) at0 f_x_2 ln0 ((hM.o gx trivial rfl).1.trans f_x_1) (by omega)) (cwV 0 hts (hx_gV kw_458 kw_455 kw_457 kw_1 kw_95) rfl rfl rfl (by decide +kernel) ⟨Nat.le_of_ble_eq_true rfl, Nat.le_of_ble_eq_true rfl⟩) rfl hl.1 rfl (Nat.le_of_ble_eq_true rfl) dX6_isNextWord_1 ⟨Nat.le_of_ble_eq_true rfl, Nat.le_of_ble_eq_true rfl⟩) hW (fun L_1 h_2 H locs p_4 hW => ?_)
  obtain ⟨⟨w_6, fw_6, hr_5⟩, hT, hs⟩ := p_4
  replace hT : hx_T T_tb L_1 h_2 := hT
  replace hs : hx_S T_tb [(6, 2)] L h L_1 h_2 := hs
  replace hM := hM.tr (hs.mono (by decide))
  have fw_6 : h_2.2.1 x 2 = w_6 := fw_6
  have bw_6 := hT.gi (gx.S hM) tt_6 (k := 2) rfl
  rw [fw_6] at bw_6
  have bw_6 : 0 ≤ w_6.toInt ∧ w_6.toInt ≤ 402 := bw_6
  have ek_7 : w_6.toInt.toNat = hv_sk tf ln0.toInt.toNat at0.toInt.toNat := by omega
  refine lv_aload_n hx hb dX6_isNextWord_4 rfl (lv_at hl 0 rfl) ?_
  refine hx_goi (hx_runV (As := []) (rest := []) ⟨hx, hb, hml, hown, hts⟩ hW (gx.S hM) tt_6 (T := TX6) (N := 7) rfl (t_X6_wordEnd_v l dC dI dA L_1 h_2 H.size x hT (gx.S hM) qt (gqt.S hM) ((hM.o gx trivial rfl).2.trans f_x_0) tf (hx_afS hM gqt rfl af_qt) w_6 fw_6 ln0 ((hM.o gx trivial rfl).1.trans f_x_1) (by omega)) (cwV 0 hts (hx_gV kw_471 kw_468 kw_470 kw_4 kw_95) rfl rfl rfl (by decide +kernel) ⟨Nat.le_of_ble_eq_true rfl, Nat.le_of_ble_eq_true rfl⟩) rfl hl.1 rfl (Nat.le_of_ble_eq_true rfl) dX6_isNextWord_5 ⟨Nat.le_of_ble_eq_true rfl, Nat.le_of_ble_eq_true rfl⟩) hW (fun r_10 L_8 h_9 H locs p_11 hW => ?_)
  obtain ⟨hr_12, hT, hs⟩ := p_11
  replace hT : hx_T T_tb L_8 h_9 := hT
  replace hs : hx_S T_tb [] L_1 h_2 L_8 h_9 := hs
  replace fw_6 := (hs.o (gx.S hM) trivial rfl).1.trans fw_6
  replace hM := hM.tr (hs.mono (by decide))
  have ew_13 : r_10.toInt.toNat = hv_we tf ln0.toInt.toNat w_6.toInt.toNat := by omega
  refine lv_istore_n (lv' := [(2, .int r_10), (0, .ref x), (1, .ref (b0.2.2.2.1 js))]) hx hb dX6_isNextWord_8 rfl hl (by decide) rfl (fun ls hl => ?_)
  refine lv_iload_n hx hb dX6_isNextWord_9 rfl (lv_at hl 0 rfl) ?_
  refine lv_aload_n hx hb dX6_isNextWord_10 rfl (lv_at hl 1 rfl) ?_
  refine hk_geti hx hb hts hC_6 hown hW (gx.S hM) tt_6 2 (by decide) rfl kw_127 ⟨rfl, rfl, rfl⟩ fw_6 dX6_isNextWord_11 ?_
  refine hb_icmp_le (zx := r_10.toInt) (zy := w_6.toInt) (tgt := 31) hx hb rfl rfl dX6_isNextWord_14 (by decide) (fun c_14 => ?_) (fun c_14 => ?_)
  · skip
    refine lv_iconst (v := 0) hx hb dX6_isNextWord_31 (by decide) ?_
    exact hx_retz hx hb hr rfl hlk hW ⟨⟨w_6, fw_6, ⟨by omega, (Or.inr ⟨by decide, fun hlt => by rw [← ek_7, ← ew_13] at hlt; exfalso; omega⟩), by omega, by omega⟩⟩, hT, hM⟩ dX6_isNextWord_32
  · skip
    refine lv_aload_n hx hb dX6_isNextWord_17 rfl (lv_at hl 1 rfl) ?_
    refine lv_aload_n hx hb dX6_isNextWord_18 rfl (lv_at hl 2 rfl) ?_
    refine lv_iconst (v := 0) hx hb dX6_isNextWord_19 (by decide) ?_
    refine lv_iload_n hx hb dX6_isNextWord_20 rfl (lv_at hl 0 rfl) ?_
    have zc_0 : (0 : Int32).toInt = 0 := by decide
    refine hx_goi (hx_runVX (As := [.ref (b0.2.2.2.1 js), .int (0 : Int32), .int r_10]) (rest := []) ⟨hx, hb, hml, hown, hts⟩ hW (gx.S hM) tt_6 (T := TX6) (N := 7) rfl (t_X6_isSlot_v l dC dI dA L_8 h_9 H.size b0 x js (0 : Int32) r_10 hT (gx.S hM) hjs qt (gqt.S hM) ((hM.o gx trivial rfl).2.trans f_x_0) tf (hx_afS hM gqt rfl af_qt) w_6 fw_6 ln0 ((hM.o gx trivial rfl).1.trans f_x_1) (by decide) ⟨by omega, by omega⟩) hZ (cwV 3 hts (hx_gV kw_485 kw_482 kw_484 kw_5 kw_95) rfl rfl rfl (by decide +kernel) ⟨Nat.le_of_ble_eq_true rfl, Nat.le_of_ble_eq_true rfl⟩) rfl hl.1 rfl (Nat.le_of_ble_eq_true rfl) dX6_isNextWord_21 ⟨Nat.le_of_ble_eq_true rfl, Nat.le_of_ble_eq_true rfl⟩) hW (fun r_17 L_15 h_16 H locs p_18 hW => ?_)
    obtain ⟨hr_19, hT, hs⟩ := p_18
    replace hT : hx_T T_tb L_15 h_16 := hT
    replace hs : hx_S T_tb [] L_8 h_9 L_15 h_16 := hs
    replace fw_6 := (hs.o (gx.S hM) trivial rfl).1.trans fw_6
    replace hM := hM.tr (hs.mono (by decide))
    refine hb_if_eq (zx := r_17.toInt) (tgt := 31) hx hb rfl dX6_isNextWord_24 (by decide) (fun c_20 => ?_) (fun c_20 => ?_)
    · skip
      refine lv_iconst (v := 0) hx hb dX6_isNextWord_31 (by decide) ?_
      exact hx_retz hx hb hr rfl hlk hW ⟨⟨w_6, fw_6, ⟨by omega, (Or.inr ⟨by decide, fun hlt => by rw [← ek_7, ← ew_13]; exact (by rcases hr_19 with z | z; (exfalso; omega); exact z.2)⟩), by omega, by omega⟩⟩, hT, hM⟩ dX6_isNextWord_32
    · skip
      refine lv_iconst (v := 1) hx hb dX6_isNextWord_27 (by decide) ?_
      refine lv_goto (tgt := 32) hx hb dX6_isNextWord_28 (by decide) ?_
      exact hx_retz hx hb hr rfl hlk hW ⟨⟨w_6, fw_6, ⟨by omega, (Or.inl ⟨by decide, (by rw [← ek_7, ← ew_13]; omega), (by rw [← ek_7, ← ew_13]; exact (by rcases hr_19 with z | z; exact z.2; exfalso; omega))⟩), by omega, by omega⟩⟩, hT, hM⟩ dX6_isNextWord_32


set_option maxHeartbeats 4000000 in
set_option maxRecDepth 100000 in
theorem t_X6_readNumber_v (l : Launch) (dC : Nat → ClassId) (dI : Nat → Nat → Nat) (dA : Nat → ClassId) (L : List Nat) (h : hx_h) (sz : Nat) (x : Nat) (hT : hx_T T_tb L h) (gx : hx_g L h x 6) (qt : Nat) (gqt : hx_g L h qt 42) (f_x_0 : h.2.2 x 0 = some qt) (tf : Nat → Int32) (af_qt : h.2.1 qt = tf) (at0 : Int32) (f_x_2 : h.2.1 x 2 = at0) (ln0 : Int32) (f_x_1 : h.2.1 x 1 = ln0) (hA : at0.toInt ≤ ln0.toInt) : Met l yX6_readNumber (Cond.code yX6_readNumber cX6_readNumber 3 (some .int) :: hx_all) ({ frames := 1, cells := 0, slots := 0, locals := 21 }) (va_Pc [.ref x] (hx_B T_tb (P_ty dA) (dC, dI) vwCl L h sz)) (va_Qi (fun (r : Int32) (u : List Nat × hx_h) => (∃ (at1 : Int32), u.2.2.1 x 2 = at1 ∧ (at1.toInt = ((hv_de tf ln0.toInt.toNat at0.toInt.toNat : Nat) : Int) ∧ ((at1.toInt - at0.toInt ≤ 4 ∧ 0 ≤ r.toInt ∧ r.toInt = hv_dv tf at0.toInt.toNat (hv_de tf ln0.toInt.toNat at0.toInt.toNat - at0.toInt.toNat)) ∨ (4 < at1.toInt - at0.toInt ∧ r.toInt = -1)) ∧ (-1 ≤ r.toInt ∧ r.toInt ≤ 9999) ∧ at0.toInt ≤ at1.toInt ∧ at1.toInt ≤ ln0.toInt)) ∧ hx_T T_tb u.1 u.2 ∧ hx_S T_tb [(6, 2)] L h u.1 u.2) (hx_E T_tb (P_ty dA) (dC, dI) vwCl (hx_A L sz)) (hx_A L sz)) 0 0 (hx_A L sz) := by
  refine hx_met (lv := [(0, .ref x)]) (by decide +kernel) rfl (Nat.le_of_ble_eq_true rfl) rfl ?_
  intro p e s m below meth c hx hb hml hr hlk hts0 hown hin hsz hW ls hl
  have hts : ∀ w ∈ hx_all, w.before _ s = true := fun w hw => hts0 w (List.mem_cons_of_mem _ hw)
  have hown : s.vm.findClass "SmallCourt$Reader" = some m.cls := hown
  have hM : hx_S T_tb [(6, 2)] L h L h := hx_S.rf
  have b_at0 := hT.gi gx tt_6 (k := 2) rfl
  rw [f_x_2] at b_at0
  have b_at0 : 0 ≤ at0.toInt ∧ at0.toInt ≤ 402 := b_at0
  have b_ln0 := hT.gi gx tt_6 (k := 1) rfl
  rw [f_x_1] at b_ln0
  have b_ln0 : 0 ≤ ln0.toInt ∧ ln0.toInt ≤ 400 := b_ln0
  refine lv_aload_n hx hb dX6_readNumber_0 rfl (lv_at hl 0 rfl) ?_
  refine hk_geti hx hb hts hC_6 hown hW (gx.S hM) tt_6 2 (by decide) rfl kw_127 ⟨rfl, rfl, rfl⟩ f_x_2 dX6_readNumber_1 ?_
  refine lv_istore_n (lv' := [(1, .int at0), (0, .ref x)]) hx hb dX6_readNumber_4 rfl hl (by decide) rfl (fun ls hl => ?_)
  refine lv_iconst (v := 0) hx hb dX6_readNumber_5 (by decide) ?_
  refine lv_istore_n (lv' := [(2, .int (0 : Int32)), (1, .int at0), (0, .ref x)]) hx hb dX6_readNumber_6 rfl hl (by decide) rfl (fun ls hl => ?_)
  have loop7 : ∀ (n7 : Nat) (iv7_2 fw7_x_2 : Int32) (H : Heap) (locs : List Loc) (hL1 : List Nat) (hl1 : hx_h), 0 ≤ iv7_2.toInt → iv7_2.toInt ≤ 9999 → 0 ≤ fw7_x_2.toInt → fw7_x_2.toInt ≤ 402 → (hv_de tf ln0.toInt.toNat at0.toInt.toNat = hv_de tf ln0.toInt.toNat (fw7_x_2.toInt).toNat) → (iv7_2.toInt = hv_dv tf at0.toInt.toNat (min (fw7_x_2.toInt - at0.toInt).toNat 4)) → (at0.toInt ≤ fw7_x_2.toInt) → (fw7_x_2.toInt ≤ ln0.toInt) → ((fw7_x_2.toInt - at0.toInt = 0 ∧ iv7_2.toInt = 0) ∨ (fw7_x_2.toInt - at0.toInt = 1 ∧ iv7_2.toInt ≤ 9) ∨ (fw7_x_2.toInt - at0.toInt = 2 ∧ iv7_2.toInt ≤ 99) ∨ (fw7_x_2.toInt - at0.toInt = 3 ∧ iv7_2.toInt ≤ 999) ∨ 4 ≤ fw7_x_2.toInt - at0.toInt) → ∀ (ls : Array Slot), 402 - fw7_x_2.toInt < (n7 : Int) → hx_W T_tb (P_ty dA) (dC, dI) vwCl (hx_A L sz) s.heap hL1 hl1 s H locs → hx_T T_tb hL1 hl1 → hx_S T_tb [(6, 2)] L h hL1 hl1 → hl1.2.1 x 2 = fw7_x_2 → lv_has ls 3 [(2, .int iv7_2), (1, .int at0), (0, .ref x)] → W p l e ({ frames := 1, cells := 0, slots := 0, locals := 21 }) s m ([.ref x] : List Value).toArray below meth c H locs 0 0 (MQ below (va_Qi (fun (r : Int32) (u : List Nat × hx_h) => (∃ (at1 : Int32), u.2.2.1 x 2 = at1 ∧ (at1.toInt = ((hv_de tf ln0.toInt.toNat at0.toInt.toNat : Nat) : Int) ∧ ((at1.toInt - at0.toInt ≤ 4 ∧ 0 ≤ r.toInt ∧ r.toInt = hv_dv tf at0.toInt.toNat (hv_de tf ln0.toInt.toNat at0.toInt.toNat - at0.toInt.toNat)) ∨ (4 < at1.toInt - at0.toInt ∧ r.toInt = -1)) ∧ (-1 ≤ r.toInt ∧ r.toInt ≤ 9999) ∧ at0.toInt ≤ at1.toInt ∧ at1.toInt ≤ ln0.toInt)) ∧ hx_T T_tb u.1 u.2 ∧ hx_S T_tb [(6, 2)] L h u.1 u.2) (hx_E T_tb (P_ty dA) (dC, dI) vwCl (hx_A L sz)) (hx_A L sz)) ([.ref x] : List Value).toArray s 0 0 (hx_A L sz)) (F0 m 7 ls []) := by
    intro n7
    induction n7 with
    | zero => intro iv7_2 fw7_x_2 H locs hL1 hl1 bliv7_2 buiv7_2 blfw7_x_2 bufw7_x_2 vi7_0 vi7_1 vi7_2 vi7_3 vi7_4 ls hn7; exfalso; omega
    | succ n7 ih7 =>
      intro iv7_2 fw7_x_2 H locs hL1 hl1 bliv7_2 buiv7_2 blfw7_x_2 bufw7_x_2 vi7_0 vi7_1 vi7_2 vi7_3 vi7_4 ls hn7 hW hT hM ffw7_x_2  hl
      refine lv_aload_n hx hb dX6_readNumber_7 rfl (lv_at hl 2 rfl) ?_
      refine hk_geti hx hb hts hC_6 hown hW (gx.S hM) tt_6 2 (by decide) rfl kw_127 ⟨rfl, rfl, rfl⟩ ffw7_x_2 dX6_readNumber_8 ?_
      refine lv_aload_n hx hb dX6_readNumber_11 rfl (lv_at hl 2 rfl) ?_
      refine hk_geti hx hb hts hC_6 hown hW (gx.S hM) tt_6 1 (by decide) rfl kw_126 ⟨rfl, rfl, rfl⟩ ((hM.o gx trivial rfl).1.trans f_x_1) dX6_readNumber_12 ?_
      refine hb_icmp_ge (zx := fw7_x_2.toInt) (zy := ln0.toInt) (tgt := 70) hx hb rfl rfl dX6_readNumber_15 (by decide) (fun c_1 => ?_) (fun c_1 => ?_)
      · skip
        have hde : ((hv_de tf ln0.toInt.toNat at0.toInt.toNat : Nat) : Int) = fw7_x_2.toInt := by rw [vi7_0]; exact hv_sn_o (by omega) (fun z9 => by exfalso; omega)
        refine lv_aload_n hx hb dX6_readNumber_70 rfl (lv_at hl 2 rfl) ?_
        refine hk_geti hx hb hts hC_6 hown hW (gx.S hM) tt_6 2 (by decide) rfl kw_127 ⟨rfl, rfl, rfl⟩ ffw7_x_2 dX6_readNumber_71 ?_
        refine lv_iload_n hx hb dX6_readNumber_74 rfl (lv_at hl 1 rfl) ?_
        refine lv_isub hx hb dX6_readNumber_75 ?_
        have rg_2 := i32_r fw7_x_2
        have rg_3 := i32_r at0
        refine lv_topi (fun x_4 ex_4 => ?_)
        have zx_4 : x_4.toInt = fw7_x_2.toInt - at0.toInt := by rw [ex_4]; exact i32_sub rfl rfl (by omega) (by omega)
        refine lv_iconst (v := 4) hx hb dX6_readNumber_76 (by decide) ?_
        refine hb_icmp_le (zx := x_4.toInt) (zy := 4) (tgt := 84) hx hb rfl (by decide) dX6_readNumber_77 (by decide) (fun c_5 => ?_) (fun c_5 => ?_)
        · skip
          refine lv_iload_n hx hb dX6_readNumber_84 rfl (lv_at hl 0 rfl) ?_
          exact hx_reti hx hb hr hlk hW ⟨⟨fw7_x_2, ffw7_x_2, ⟨by omega, Or.inl ⟨by omega, by omega, (by rw [vi7_1]; congr 1; omega)⟩, ⟨by omega, by omega⟩, by omega, by omega⟩⟩, hT, hM⟩ dX6_readNumber_85
        · skip
          refine lv_iconst (v := -1) hx hb dX6_readNumber_80 (by decide) ?_
          refine lv_goto (tgt := 85) hx hb dX6_readNumber_81 (by decide) ?_
          exact hx_reti hx hb hr hlk hW ⟨⟨fw7_x_2, ffw7_x_2, ⟨by omega, Or.inr ⟨by omega, by decide⟩, ⟨by decide, by decide⟩, by omega, by omega⟩⟩, hT, hM⟩ dX6_readNumber_85
      · skip
        refine lv_aload_n hx hb dX6_readNumber_18 rfl (lv_at hl 2 rfl) ?_
        refine lv_aload_n hx hb dX6_readNumber_19 rfl (lv_at hl 2 rfl) ?_
        refine hk_geti hx hb hts hC_6 hown hW (gx.S hM) tt_6 2 (by decide) rfl kw_127 ⟨rfl, rfl, rfl⟩ ffw7_x_2 dX6_readNumber_20 ?_
        refine hx_goi (hx_runV (As := [.int fw7_x_2]) (rest := []) ⟨hx, hb, hml, hown, hts⟩ hW (gx.S hM) tt_6 (T := TX6) (N := 7) rfl (t_X6_isDigit_v l dC dI dA hL1 hl1 H.size x fw7_x_2 hT (gx.S hM) qt (gqt.S hM) ((hM.o gx trivial rfl).2.trans f_x_0) tf (hx_afS hM gqt rfl af_qt) ln0 ((hM.o gx trivial rfl).1.trans f_x_1) (by omega)) (cwV 1 hts (hx_gV kw_544 kw_541 kw_543 kw_10 kw_95) rfl rfl rfl (by decide +kernel) ⟨Nat.le_of_ble_eq_true rfl, Nat.le_of_ble_eq_true rfl⟩) rfl hl.1 rfl (Nat.le_of_ble_eq_true rfl) dX6_readNumber_23 ⟨Nat.le_of_ble_eq_true rfl, Nat.le_of_ble_eq_true rfl⟩) hW (fun r_8 L_6 h_7 H locs p_9 hW => ?_)
        obtain ⟨hr_10, hT, hs⟩ := p_9
        replace hT : hx_T T_tb L_6 h_7 := hT
        replace hs : hx_S T_tb [] hL1 hl1 L_6 h_7 := hs
        replace ffw7_x_2 := (hs.o (gx.S hM) trivial rfl).1.trans ffw7_x_2
        replace hM := hM.tr (hs.mono (by decide))
        refine hb_if_eq (zx := r_8.toInt) (tgt := 70) hx hb rfl dX6_readNumber_26 (by decide) (fun c_11 => ?_) (fun c_11 => ?_)
        · skip
          have hde : ((hv_de tf ln0.toInt.toNat at0.toInt.toNat : Nat) : Int) = fw7_x_2.toInt := by rw [vi7_0]; exact hv_sn_o (by omega) (fun z9 => by rcases hr_10 with z | z; (exfalso; omega); exact z.2 z9)
          refine lv_aload_n hx hb dX6_readNumber_70 rfl (lv_at hl 2 rfl) ?_
          refine hk_geti hx hb hts hC_6 hown hW (gx.S hM) tt_6 2 (by decide) rfl kw_127 ⟨rfl, rfl, rfl⟩ ffw7_x_2 dX6_readNumber_71 ?_
          refine lv_iload_n hx hb dX6_readNumber_74 rfl (lv_at hl 1 rfl) ?_
          refine lv_isub hx hb dX6_readNumber_75 ?_
          have rg_12 := i32_r fw7_x_2
          have rg_13 := i32_r at0
          refine lv_topi (fun x_14 ex_14 => ?_)
          have zx_14 : x_14.toInt = fw7_x_2.toInt - at0.toInt := by rw [ex_14]; exact i32_sub rfl rfl (by omega) (by omega)
          refine lv_iconst (v := 4) hx hb dX6_readNumber_76 (by decide) ?_
          refine hb_icmp_le (zx := x_14.toInt) (zy := 4) (tgt := 84) hx hb rfl (by decide) dX6_readNumber_77 (by decide) (fun c_15 => ?_) (fun c_15 => ?_)
          · skip
            refine lv_iload_n hx hb dX6_readNumber_84 rfl (lv_at hl 0 rfl) ?_
            exact hx_reti hx hb hr hlk hW ⟨⟨fw7_x_2, ffw7_x_2, ⟨by omega, Or.inl ⟨by omega, by omega, (by rw [vi7_1]; congr 1; omega)⟩, ⟨by omega, by omega⟩, by omega, by omega⟩⟩, hT, hM⟩ dX6_readNumber_85
          · skip
            refine lv_iconst (v := -1) hx hb dX6_readNumber_80 (by decide) ?_
            refine lv_goto (tgt := 85) hx hb dX6_readNumber_81 (by decide) ?_
            exact hx_reti hx hb hr hlk hW ⟨⟨fw7_x_2, ffw7_x_2, ⟨by omega, Or.inr ⟨by omega, by decide⟩, ⟨by decide, by decide⟩, by omega, by omega⟩⟩, hT, hM⟩ dX6_readNumber_85
        · skip
          refine lv_aload_n hx hb dX6_readNumber_29 rfl (lv_at hl 2 rfl) ?_
          refine hk_geti hx hb hts hC_6 hown hW (gx.S hM) tt_6 2 (by decide) rfl kw_127 ⟨rfl, rfl, rfl⟩ ffw7_x_2 dX6_readNumber_30 ?_
          refine lv_iload_n hx hb dX6_readNumber_33 rfl (lv_at hl 1 rfl) ?_
          refine lv_isub hx hb dX6_readNumber_34 ?_
          have rg_16 := i32_r fw7_x_2
          have rg_17 := i32_r at0
          refine lv_topi (fun x_18 ex_18 => ?_)
          have zx_18 : x_18.toInt = fw7_x_2.toInt - at0.toInt := by rw [ex_18]; exact i32_sub rfl rfl (by omega) (by omega)
          refine lv_iconst (v := 4) hx hb dX6_readNumber_35 (by decide) ?_
          refine hb_icmp_ge (zx := x_18.toInt) (zy := 4) (tgt := 57) hx hb rfl (by decide) dX6_readNumber_36 (by decide) (fun c_19 => ?_) (fun c_19 => ?_)
          · skip
            refine lv_aload_n hx hb dX6_readNumber_57 rfl (lv_at hl 2 rfl) ?_
            refine lv_dup hx hb dX6_readNumber_58 rfl ?_
            refine hk_geti hx hb hts hC_6 hown hW (gx.S hM) tt_6 2 (by decide) rfl kw_127 ⟨rfl, rfl, rfl⟩ ffw7_x_2 dX6_readNumber_59 ?_
            refine lv_iconst (v := 1) hx hb dX6_readNumber_62 (by decide) ?_
            refine lv_iadd hx hb dX6_readNumber_63 ?_
            refine lv_topi (fun x_20 ex_20 => ?_)
            have zx_20 : x_20.toInt = fw7_x_2.toInt + 1 := by rw [ex_20]; exact i32_add rfl (by decide) (by omega) (by omega)
            refine hx_puti hx hb hts hC_6 hown hW hT (hx_S.rf (M := [(6, 2)])) (gx.S hM) tt_6 2 (by decide) rfl kw_127 ⟨rfl, rfl, rfl⟩ rfl (x := x_20) ⟨by omega, by omega⟩ rfl rfl rfl (List.mem_singleton.mpr rfl) dX6_readNumber_64 (fun H locs h_21 eh_21 hW hT hs => ?_)
            replace hM := hM.tr (hs.mono (by decide))
            have f_22 : h_21.2.1 x 2 = x_20 := by rw [eh_21]; exact hx_pi_at _ _ _ _
            refine lv_goto (tgt := 7) hx hb dX6_readNumber_67 (by decide) ?_
            exact ih7 iv7_2 x_20 _ _ L_6 h_21 (by omega) (by omega) (by omega) (by omega) (vi7_0.trans (hv_sn_i (by omega) (by omega) (by rcases hr_10 with z | z; exact z.2.2; exfalso; omega) zx_20)) (hv_dv_k vi7_1 (by omega) zx_20) (by omega) (by omega) (by omega) ls (by omega) hW hT hM f_22  (lv_sub hl [0, 1, 2] rfl)
          · skip
            refine lv_iload_n hx hb dX6_readNumber_39 rfl (lv_at hl 0 rfl) ?_
            refine lv_bipush (v := 10) hx hb dX6_readNumber_40 (by decide) ?_
            refine lv_imul hx hb dX6_readNumber_42 ?_
            refine lv_topi (fun x_23 ex_23 => ?_)
            have zx_23 : x_23.toInt = iv7_2.toInt * 10 := by rw [ex_23]; exact i32_mul rfl (by decide) rfl (by omega) (by omega)
            refine lv_aload_n hx hb dX6_readNumber_43 rfl (lv_at hl 2 rfl) ?_
            refine hk_getr hx hb hts hC_6 hown hW (gx.S hM) tt_6 0 (by decide) rfl kw_125 ⟨rfl, rfl, rfl⟩ ((hM.o gx trivial rfl).2.trans f_x_0) dX6_readNumber_44 ?_
            refine lv_aload_n hx hb dX6_readNumber_47 rfl (lv_at hl 2 rfl) ?_
            refine hk_geti hx hb hts hC_6 hown hW (gx.S hM) tt_6 2 (by decide) rfl kw_127 ⟨rfl, rfl, rfl⟩ ffw7_x_2 dX6_readNumber_48 ?_
            refine hx_bald hx hb hW hT (gqt.S hM) tt_42 rfl ⟨by omega, by omega⟩ dX6_readNumber_51 (fun x_24 ex_24 lx_24 ux_24 => ?_)
            have ax_24 : x_24 = tf fw7_x_2.toNatClampNeg := ex_24.trans (congrFun (hx_afS hM gqt rfl af_qt) _)
            have hyd := hv_dg_u (by rcases hr_10 with z | z; exact z.2.2; exfalso; omega) ax_24
            refine lv_iadd hx hb dX6_readNumber_52 ?_
            have rg_25 := i32_r x_23
            have rg_26 := i32_r x_24
            refine lv_topi (fun x_27 ex_27 => ?_)
            have zx_27 : x_27.toInt = x_23.toInt + x_24.toInt := by rw [ex_27]; exact i32_add rfl rfl (by omega) (by omega)
            refine lv_bipush (v := 48) hx hb dX6_readNumber_53 (by decide) ?_
            refine lv_isub hx hb dX6_readNumber_55 ?_
            have rg_28 := i32_r x_27
            refine lv_topi (fun x_29 ex_29 => ?_)
            have zx_29 : x_29.toInt = x_27.toInt - 48 := by rw [ex_29]; exact i32_sub rfl (by decide) (by omega) (by omega)
            refine lv_istore_n (lv' := [(2, .int x_29), (1, .int at0), (0, .ref x)]) hx hb dX6_readNumber_56 rfl hl (by decide) rfl (fun ls hl => ?_)
            refine lv_aload_n hx hb dX6_readNumber_57 rfl (lv_at hl 2 rfl) ?_
            refine lv_dup hx hb dX6_readNumber_58 rfl ?_
            refine hk_geti hx hb hts hC_6 hown hW (gx.S hM) tt_6 2 (by decide) rfl kw_127 ⟨rfl, rfl, rfl⟩ ffw7_x_2 dX6_readNumber_59 ?_
            refine lv_iconst (v := 1) hx hb dX6_readNumber_62 (by decide) ?_
            refine lv_iadd hx hb dX6_readNumber_63 ?_
            refine lv_topi (fun x_30 ex_30 => ?_)
            have zx_30 : x_30.toInt = fw7_x_2.toInt + 1 := by rw [ex_30]; exact i32_add rfl (by decide) (by omega) (by omega)
            refine hx_puti hx hb hts hC_6 hown hW hT (hx_S.rf (M := [(6, 2)])) (gx.S hM) tt_6 2 (by decide) rfl kw_127 ⟨rfl, rfl, rfl⟩ rfl (x := x_30) ⟨by omega, by omega⟩ rfl rfl rfl (List.mem_singleton.mpr rfl) dX6_readNumber_64 (fun H locs h_31 eh_31 hW hT hs => ?_)
            replace ex_24 := ex_24.trans (hs.a (gqt.S hM) rfl _).1.symm
            replace hM := hM.tr (hs.mono (by decide))
            have f_32 : h_31.2.1 x 2 = x_30 := by rw [eh_31]; exact hx_pi_at _ _ _ _
            refine lv_goto (tgt := 7) hx hb dX6_readNumber_67 (by decide) ?_
            exact ih7 x_29 x_30 _ _ L_6 h_31 (by omega) (by omega) (by omega) (by omega) (vi7_0.trans (hv_sn_i (by omega) (by omega) (by rcases hr_10 with z | z; exact z.2.2; exfalso; omega) zx_30)) (hv_dv_s vi7_1 (by omega) (by omega) (by omega) ax_24 (by omega) zx_30) (by omega) (by omega) (by omega) ls (by omega) hW hT hM f_32  (lv_sub hl [0, 1, 2] rfl)
  have zk_0 : (0 : Int32).toInt = 0 := by decide
  exact loop7 403 (0 : Int32) at0 _ _ L h (by decide) (by decide) (by omega) (by omega) rfl (by rw [zk_0, show min (at0.toInt - at0.toInt).toNat 4 = 0 by omega]; rfl) (by omega) (by omega) (by omega) ls (by omega) hW hT hM f_x_2  hl


set_option maxHeartbeats 4000000 in
set_option maxRecDepth 100000 in
theorem t_X6_readSign_v (l : Launch) (dC : Nat → ClassId) (dI : Nat → Nat → Nat) (dA : Nat → ClassId) (L : List Nat) (h : hx_h) (sz : Nat) (x : Nat) (hT : hx_T T_tb L h) (gx : hx_g L h x 6) (qt : Nat) (gqt : hx_g L h qt 42) (f_x_0 : h.2.2 x 0 = some qt) (tf : Nat → Int32) (af_qt : h.2.1 qt = tf) (at0 : Int32) (f_x_2 : h.2.1 x 2 = at0) (ln0 : Int32) (f_x_1 : h.2.1 x 1 = ln0) (hA : at0.toInt ≤ ln0.toInt) : Met l yX6_readSign (Cond.code yX6_readSign cX6_readSign 2 (some .int) :: hx_all) ({ frames := 1, cells := 0, slots := 0, locals := 21 }) (va_Pc [.ref x] (hx_B T_tb (P_ty dA) (dC, dI) vwCl L h sz)) (va_Qi (fun (r : Int32) (u : List Nat × hx_h) => (∃ (at1 : Int32), u.2.2.1 x 2 = at1 ∧ (at1.toInt = ((hv_sk tf ln0.toInt.toNat at0.toInt.toNat + (hv_sg tf ln0.toInt.toNat (hv_sk tf ln0.toInt.toNat at0.toInt.toNat)).2 : Nat) : Int) ∧ r.toInt = hv_scd (hv_sg tf ln0.toInt.toNat (hv_sk tf ln0.toInt.toNat at0.toInt.toNat)))) ∧ hx_T T_tb u.1 u.2 ∧ hx_S T_tb [(6, 2)] L h u.1 u.2) (hx_E T_tb (P_ty dA) (dC, dI) vwCl (hx_A L sz)) (hx_A L sz)) 0 0 (hx_A L sz) := by
  refine hx_met (lv := [(0, .ref x)]) (by decide +kernel) rfl (Nat.le_of_ble_eq_true rfl) rfl ?_
  intro p e s m below meth c hx hb hml hr hlk hts0 hown hin hsz hW ls hl
  have hts : ∀ w ∈ hx_all, w.before _ s = true := fun w hw => hts0 w (List.mem_cons_of_mem _ hw)
  have hown : s.vm.findClass "SmallCourt$Reader" = some m.cls := hown
  have hM : hx_S T_tb [(6, 2)] L h L h := hx_S.rf
  have b_at0 := hT.gi gx tt_6 (k := 2) rfl
  rw [f_x_2] at b_at0
  have b_at0 : 0 ≤ at0.toInt ∧ at0.toInt ≤ 402 := b_at0
  have b_ln0 := hT.gi gx tt_6 (k := 1) rfl
  rw [f_x_1] at b_ln0
  have b_ln0 : 0 ≤ ln0.toInt ∧ ln0.toInt ≤ 400 := b_ln0
  refine lv_aload_n hx hb dX6_readSign_0 rfl (lv_at hl 0 rfl) ?_
  refine hx_gov (hx_runV (As := []) (rest := []) ⟨hx, hb, hml, hown, hts⟩ hW (gx.S hM) tt_6 (T := TX6) (N := 7) rfl (t_X6_skipBlanks_v l dC dI dA L h s.heap.size x hT (gx.S hM) qt (gqt.S hM) ((hM.o gx trivial rfl).2.trans f_x_0) tf (hx_afS hM gqt rfl af_qt) at0 f_x_2 ln0 ((hM.o gx trivial rfl).1.trans f_x_1) (by omega)) (cwV 0 hts (hx_gV kw_458 kw_455 kw_457 kw_1 kw_95) rfl rfl rfl (by decide +kernel) ⟨Nat.le_of_ble_eq_true rfl, Nat.le_of_ble_eq_true rfl⟩) rfl hl.1 rfl (Nat.le_of_ble_eq_true rfl) dX6_readSign_1 ⟨Nat.le_of_ble_eq_true rfl, Nat.le_of_ble_eq_true rfl⟩) hW (fun L_1 h_2 H locs p_4 hW => ?_)
  obtain ⟨⟨w_6, fw_6, hr_5⟩, hT, hs⟩ := p_4
  replace hT : hx_T T_tb L_1 h_2 := hT
  replace hs : hx_S T_tb [(6, 2)] L h L_1 h_2 := hs
  replace hM := hM.tr (hs.mono (by decide))
  have fw_6 : h_2.2.1 x 2 = w_6 := fw_6
  have bw_6 := hT.gi (gx.S hM) tt_6 (k := 2) rfl
  rw [fw_6] at bw_6
  have bw_6 : 0 ≤ w_6.toInt ∧ w_6.toInt ≤ 402 := bw_6
  have ek_7 : w_6.toInt.toNat = hv_sk tf ln0.toInt.toNat at0.toInt.toNat := by omega
  refine lv_aload_n hx hb dX6_readSign_4 rfl (lv_at hl 0 rfl) ?_
  refine lv_bipush (v := 60) hx hb dX6_readSign_5 (by decide) ?_
  have zc_60 : (60 : Int32).toInt = 60 := by decide
  refine hx_goi (hx_runV (As := [.int (60 : Int32)]) (rest := []) ⟨hx, hb, hml, hown, hts⟩ hW (gx.S hM) tt_6 (T := TX6) (N := 7) rfl (t_X6_isByte_v l dC dI dA L_1 h_2 H.size x (60 : Int32) hT (gx.S hM) qt (gqt.S hM) ((hM.o gx trivial rfl).2.trans f_x_0) tf (hx_afS hM gqt rfl af_qt) w_6 fw_6 ln0 ((hM.o gx trivial rfl).1.trans f_x_1)) (cwV 1 hts (hx_gV kw_569 kw_566 kw_568 kw_15 kw_95) rfl rfl rfl (by decide +kernel) ⟨Nat.le_of_ble_eq_true rfl, Nat.le_of_ble_eq_true rfl⟩) rfl hl.1 rfl (Nat.le_of_ble_eq_true rfl) dX6_readSign_7 ⟨Nat.le_of_ble_eq_true rfl, Nat.le_of_ble_eq_true rfl⟩) hW (fun r_10 L_8 h_9 H locs p_11 hW => ?_)
  obtain ⟨hr_12, hT, hs⟩ := p_11
  replace hT : hx_T T_tb L_8 h_9 := hT
  replace hs : hx_S T_tb [] L_1 h_2 L_8 h_9 := hs
  replace fw_6 := (hs.o (gx.S hM) trivial rfl).1.trans fw_6
  replace hM := hM.tr (hs.mono (by decide))
  refine hb_if_eq (zx := r_10.toInt) (tgt := 17) hx hb rfl dX6_readSign_10 (by decide) (fun c_13 => ?_) (fun c_13 => ?_)
  · skip
    refine lv_aload_n hx hb dX6_readSign_17 rfl (lv_at hl 0 rfl) ?_
    refine lv_bipush (v := 62) hx hb dX6_readSign_18 (by decide) ?_
    have zc_62 : (62 : Int32).toInt = 62 := by decide
    refine hx_goi (hx_runV (As := [.int (62 : Int32)]) (rest := []) ⟨hx, hb, hml, hown, hts⟩ hW (gx.S hM) tt_6 (T := TX6) (N := 7) rfl (t_X6_isByte_v l dC dI dA L_8 h_9 H.size x (62 : Int32) hT (gx.S hM) qt (gqt.S hM) ((hM.o gx trivial rfl).2.trans f_x_0) tf (hx_afS hM gqt rfl af_qt) w_6 fw_6 ln0 ((hM.o gx trivial rfl).1.trans f_x_1)) (cwV 1 hts (hx_gV kw_569 kw_566 kw_568 kw_15 kw_95) rfl rfl rfl (by decide +kernel) ⟨Nat.le_of_ble_eq_true rfl, Nat.le_of_ble_eq_true rfl⟩) rfl hl.1 rfl (Nat.le_of_ble_eq_true rfl) dX6_readSign_20 ⟨Nat.le_of_ble_eq_true rfl, Nat.le_of_ble_eq_true rfl⟩) hW (fun r_16 L_14 h_15 H locs p_17 hW => ?_)
    obtain ⟨hr_18, hT, hs⟩ := p_17
    replace hT : hx_T T_tb L_14 h_15 := hT
    replace hs : hx_S T_tb [] L_8 h_9 L_14 h_15 := hs
    replace fw_6 := (hs.o (gx.S hM) trivial rfl).1.trans fw_6
    replace hM := hM.tr (hs.mono (by decide))
    refine hb_if_eq (zx := r_16.toInt) (tgt := 30) hx hb rfl dX6_readSign_23 (by decide) (fun c_19 => ?_) (fun c_19 => ?_)
    · skip
      refine lv_iconst (v := 0) hx hb dX6_readSign_30 (by decide) ?_
      refine lv_istore_n (lv' := [(1, .int (0 : Int32)), (0, .ref x)]) hx hb dX6_readSign_31 rfl hl (by decide) rfl (fun ls hl => ?_)
      refine lv_iload_n hx hb dX6_readSign_32 rfl (lv_at hl 0 rfl) ?_
      refine hb_if_eq (zx := 0) (tgt := 46) hx hb (by decide) dX6_readSign_33 (by decide) (fun c_20 => ?_) (fun c_20 => absurd c_20 (by decide))
      refine lv_aload_n hx hb dX6_readSign_46 rfl (lv_at hl 1 rfl) ?_
      refine lv_bipush (v := 61) hx hb dX6_readSign_47 (by decide) ?_
      have zc_61 : (61 : Int32).toInt = 61 := by decide
      refine hx_goi (hx_runV (As := [.int (61 : Int32)]) (rest := []) ⟨hx, hb, hml, hown, hts⟩ hW (gx.S hM) tt_6 (T := TX6) (N := 7) rfl (t_X6_isByte_v l dC dI dA L_14 h_15 H.size x (61 : Int32) hT (gx.S hM) qt (gqt.S hM) ((hM.o gx trivial rfl).2.trans f_x_0) tf (hx_afS hM gqt rfl af_qt) w_6 fw_6 ln0 ((hM.o gx trivial rfl).1.trans f_x_1)) (cwV 1 hts (hx_gV kw_569 kw_566 kw_568 kw_15 kw_95) rfl rfl rfl (by decide +kernel) ⟨Nat.le_of_ble_eq_true rfl, Nat.le_of_ble_eq_true rfl⟩) rfl hl.1 rfl (Nat.le_of_ble_eq_true rfl) dX6_readSign_49 ⟨Nat.le_of_ble_eq_true rfl, Nat.le_of_ble_eq_true rfl⟩) hW (fun r_23 L_21 h_22 H locs p_24 hW => ?_)
      obtain ⟨hr_25, hT, hs⟩ := p_24
      replace hT : hx_T T_tb L_21 h_22 := hT
      replace hs : hx_S T_tb [] L_14 h_15 L_21 h_22 := hs
      replace fw_6 := (hs.o (gx.S hM) trivial rfl).1.trans fw_6
      replace hM := hM.tr (hs.mono (by decide))
      refine hb_if_eq (zx := r_23.toInt) (tgt := 69) hx hb rfl dX6_readSign_52 (by decide) (fun c_26 => ?_) (fun c_26 => ?_)
      · skip
        refine lv_iload_n hx hb dX6_readSign_69 rfl (lv_at hl 0 rfl) ?_
        exact hx_reti hx hb hr hlk hW ⟨⟨w_6, fw_6, ⟨(by rw [← ek_7, hv_sg_0 (by rcases hr_12 with z | z; (exfalso; omega); exact z.2) (by rcases hr_18 with z | z; (exfalso; omega); exact z.2) (by rcases hr_25 with z | z; (exfalso; omega); exact z.2) (by omega)]; show _ = ((w_6.toInt.toNat + 0 : Nat) : Int); omega), (by rw [← ek_7, hv_sg_0 (by rcases hr_12 with z | z; (exfalso; omega); exact z.2) (by rcases hr_18 with z | z; (exfalso; omega); exact z.2) (by rcases hr_25 with z | z; (exfalso; omega); exact z.2) (by omega)]; decide)⟩⟩, hT, hM⟩ dX6_readSign_70
      · skip
        refine lv_aload_n hx hb dX6_readSign_55 rfl (lv_at hl 1 rfl) ?_
        refine lv_dup hx hb dX6_readSign_56 rfl ?_
        refine hk_geti hx hb hts hC_6 hown hW (gx.S hM) tt_6 2 (by decide) rfl kw_127 ⟨rfl, rfl, rfl⟩ fw_6 dX6_readSign_57 ?_
        refine lv_iconst (v := 1) hx hb dX6_readSign_60 (by decide) ?_
        refine lv_iadd hx hb dX6_readSign_61 ?_
        have rg_27 := i32_r w_6
        refine lv_topi (fun x_28 ex_28 => ?_)
        have zx_28 : x_28.toInt = w_6.toInt + 1 := by rw [ex_28]; exact i32_add rfl (by decide) (by omega) (by omega)
        refine hx_puti hx hb hts hC_6 hown hW hT (hx_S.rf (M := [(6, 2)])) (gx.S hM) tt_6 2 (by decide) rfl kw_127 ⟨rfl, rfl, rfl⟩ rfl (x := x_28) ⟨by omega, by omega⟩ rfl rfl rfl (List.mem_singleton.mpr rfl) dX6_readSign_62 (fun H locs h_29 eh_29 hW hT hs => ?_)
        replace hM := hM.tr (hs.mono (by decide))
        have f_30 : h_29.2.1 x 2 = x_28 := by rw [eh_29]; exact hx_pi_at _ _ _ _
        refine lv_iload_n hx hb dX6_readSign_65 rfl (lv_at hl 0 rfl) ?_
        refine lv_iconst (v := 2) hx hb dX6_readSign_66 (by decide) ?_
        refine lv_ior hx hb dX6_readSign_67 ?_
        refine lv_topi (fun x_31 ex_31 => ?_)
        obtain rfl : x_31 = (2 : Int32) := ex_31.trans (by decide)
        refine lv_istore_n (lv' := [(1, .int (2 : Int32)), (0, .ref x)]) hx hb dX6_readSign_68 rfl hl (by decide) rfl (fun ls hl => ?_)
        refine lv_iload_n hx hb dX6_readSign_69 rfl (lv_at hl 0 rfl) ?_
        exact hx_reti hx hb hr hlk hW ⟨⟨x_28, f_30, ⟨(by rw [← ek_7, hv_sg_2 (by rcases hr_25 with z | z; exact z.2; exfalso; omega) (by omega)]; show _ = ((w_6.toInt.toNat + 1 : Nat) : Int); omega), (by rw [← ek_7, hv_sg_2 (by rcases hr_25 with z | z; exact z.2; exfalso; omega) (by omega)]; decide)⟩⟩, hT, hM⟩ dX6_readSign_70
    · skip
      refine lv_iconst (v := 4) hx hb dX6_readSign_26 (by decide) ?_
      refine lv_goto (tgt := 31) hx hb dX6_readSign_27 (by decide) ?_
      refine lv_istore_n (lv' := [(1, .int (4 : Int32)), (0, .ref x)]) hx hb dX6_readSign_31 rfl hl (by decide) rfl (fun ls hl => ?_)
      refine lv_iload_n hx hb dX6_readSign_32 rfl (lv_at hl 0 rfl) ?_
      refine hb_if_eq (zx := 4) (tgt := 46) hx hb (by decide) dX6_readSign_33 (by decide) (fun c_32 => absurd c_32 (by decide)) (fun c_32 => ?_)
      refine lv_aload_n hx hb dX6_readSign_36 rfl (lv_at hl 1 rfl) ?_
      refine lv_dup hx hb dX6_readSign_37 rfl ?_
      refine hk_geti hx hb hts hC_6 hown hW (gx.S hM) tt_6 2 (by decide) rfl kw_127 ⟨rfl, rfl, rfl⟩ fw_6 dX6_readSign_38 ?_
      refine lv_iconst (v := 1) hx hb dX6_readSign_41 (by decide) ?_
      refine lv_iadd hx hb dX6_readSign_42 ?_
      have rg_33 := i32_r w_6
      refine lv_topi (fun x_34 ex_34 => ?_)
      have zx_34 : x_34.toInt = w_6.toInt + 1 := by rw [ex_34]; exact i32_add rfl (by decide) (by omega) (by omega)
      refine hx_puti hx hb hts hC_6 hown hW hT (hx_S.rf (M := [(6, 2)])) (gx.S hM) tt_6 2 (by decide) rfl kw_127 ⟨rfl, rfl, rfl⟩ rfl (x := x_34) ⟨by omega, by omega⟩ rfl rfl rfl (List.mem_singleton.mpr rfl) dX6_readSign_43 (fun H locs h_35 eh_35 hW hT hs => ?_)
      replace hM := hM.tr (hs.mono (by decide))
      have f_36 : h_35.2.1 x 2 = x_34 := by rw [eh_35]; exact hx_pi_at _ _ _ _
      refine lv_aload_n hx hb dX6_readSign_46 rfl (lv_at hl 1 rfl) ?_
      refine lv_bipush (v := 61) hx hb dX6_readSign_47 (by decide) ?_
      have zc_61 : (61 : Int32).toInt = 61 := by decide
      refine hx_goi (hx_runV (As := [.int (61 : Int32)]) (rest := []) ⟨hx, hb, hml, hown, hts⟩ hW (gx.S hM) tt_6 (T := TX6) (N := 7) rfl (t_X6_isByte_v l dC dI dA L_14 h_35 H.size x (61 : Int32) hT (gx.S hM) qt (gqt.S hM) ((hM.o gx trivial rfl).2.trans f_x_0) tf (hx_afS hM gqt rfl af_qt) x_34 f_36 ln0 ((hM.o gx trivial rfl).1.trans f_x_1)) (cwV 1 hts (hx_gV kw_569 kw_566 kw_568 kw_15 kw_95) rfl rfl rfl (by decide +kernel) ⟨Nat.le_of_ble_eq_true rfl, Nat.le_of_ble_eq_true rfl⟩) rfl hl.1 rfl (Nat.le_of_ble_eq_true rfl) dX6_readSign_49 ⟨Nat.le_of_ble_eq_true rfl, Nat.le_of_ble_eq_true rfl⟩) hW (fun r_39 L_37 h_38 H locs p_40 hW => ?_)
      obtain ⟨hr_41, hT, hs⟩ := p_40
      replace hT : hx_T T_tb L_37 h_38 := hT
      replace hs : hx_S T_tb [] L_14 h_35 L_37 h_38 := hs
      replace f_36 := (hs.o (gx.S hM) trivial rfl).1.trans f_36
      replace hM := hM.tr (hs.mono (by decide))
      refine hb_if_eq (zx := r_39.toInt) (tgt := 69) hx hb rfl dX6_readSign_52 (by decide) (fun c_42 => ?_) (fun c_42 => ?_)
      · skip
        refine lv_iload_n hx hb dX6_readSign_69 rfl (lv_at hl 0 rfl) ?_
        exact hx_reti hx hb hr hlk hW ⟨⟨x_34, f_36, ⟨(by rw [← ek_7, hv_sg_4 (by rcases hr_18 with z | z; exact z.2; exfalso; omega) (by rcases hr_41 with z | z; (exfalso; omega); exact z.2) (by omega) zx_34]; show _ = ((w_6.toInt.toNat + 1 : Nat) : Int); omega), (by rw [← ek_7, hv_sg_4 (by rcases hr_18 with z | z; exact z.2; exfalso; omega) (by rcases hr_41 with z | z; (exfalso; omega); exact z.2) (by omega) zx_34]; decide)⟩⟩, hT, hM⟩ dX6_readSign_70
      · skip
        refine lv_aload_n hx hb dX6_readSign_55 rfl (lv_at hl 1 rfl) ?_
        refine lv_dup hx hb dX6_readSign_56 rfl ?_
        refine hk_geti hx hb hts hC_6 hown hW (gx.S hM) tt_6 2 (by decide) rfl kw_127 ⟨rfl, rfl, rfl⟩ f_36 dX6_readSign_57 ?_
        refine lv_iconst (v := 1) hx hb dX6_readSign_60 (by decide) ?_
        refine lv_iadd hx hb dX6_readSign_61 ?_
        have rg_43 := i32_r x_34
        refine lv_topi (fun x_44 ex_44 => ?_)
        have zx_44 : x_44.toInt = x_34.toInt + 1 := by rw [ex_44]; exact i32_add rfl (by decide) (by omega) (by omega)
        refine hx_puti hx hb hts hC_6 hown hW hT (hx_S.rf (M := [(6, 2)])) (gx.S hM) tt_6 2 (by decide) rfl kw_127 ⟨rfl, rfl, rfl⟩ rfl (x := x_44) ⟨by omega, by omega⟩ rfl rfl rfl (List.mem_singleton.mpr rfl) dX6_readSign_62 (fun H locs h_45 eh_45 hW hT hs => ?_)
        replace hM := hM.tr (hs.mono (by decide))
        have f_46 : h_45.2.1 x 2 = x_44 := by rw [eh_45]; exact hx_pi_at _ _ _ _
        refine lv_iload_n hx hb dX6_readSign_65 rfl (lv_at hl 0 rfl) ?_
        refine lv_iconst (v := 2) hx hb dX6_readSign_66 (by decide) ?_
        refine lv_ior hx hb dX6_readSign_67 ?_
        refine lv_topi (fun x_47 ex_47 => ?_)
        obtain rfl : x_47 = (6 : Int32) := ex_47.trans (by decide)
        refine lv_istore_n (lv' := [(1, .int (6 : Int32)), (0, .ref x)]) hx hb dX6_readSign_68 rfl hl (by decide) rfl (fun ls hl => ?_)
        refine lv_iload_n hx hb dX6_readSign_69 rfl (lv_at hl 0 rfl) ?_
        exact hx_reti hx hb hr hlk hW ⟨⟨x_44, f_46, ⟨(by rw [← ek_7, hv_sg_6 (by rcases hr_18 with z | z; exact z.2; exfalso; omega) (by rcases hr_41 with z | z; exact z.2; exfalso; omega) (by omega) zx_34]; show _ = ((w_6.toInt.toNat + 2 : Nat) : Int); omega), (by rw [← ek_7, hv_sg_6 (by rcases hr_18 with z | z; exact z.2; exfalso; omega) (by rcases hr_41 with z | z; exact z.2; exfalso; omega) (by omega) zx_34]; decide)⟩⟩, hT, hM⟩ dX6_readSign_70
  · skip
    refine lv_iconst (v := 1) hx hb dX6_readSign_13 (by decide) ?_
    refine lv_goto (tgt := 31) hx hb dX6_readSign_14 (by decide) ?_
    refine lv_istore_n (lv' := [(1, .int (1 : Int32)), (0, .ref x)]) hx hb dX6_readSign_31 rfl hl (by decide) rfl (fun ls hl => ?_)
    refine lv_iload_n hx hb dX6_readSign_32 rfl (lv_at hl 0 rfl) ?_
    refine hb_if_eq (zx := 1) (tgt := 46) hx hb (by decide) dX6_readSign_33 (by decide) (fun c_48 => absurd c_48 (by decide)) (fun c_48 => ?_)
    refine lv_aload_n hx hb dX6_readSign_36 rfl (lv_at hl 1 rfl) ?_
    refine lv_dup hx hb dX6_readSign_37 rfl ?_
    refine hk_geti hx hb hts hC_6 hown hW (gx.S hM) tt_6 2 (by decide) rfl kw_127 ⟨rfl, rfl, rfl⟩ fw_6 dX6_readSign_38 ?_
    refine lv_iconst (v := 1) hx hb dX6_readSign_41 (by decide) ?_
    refine lv_iadd hx hb dX6_readSign_42 ?_
    have rg_49 := i32_r w_6
    refine lv_topi (fun x_50 ex_50 => ?_)
    have zx_50 : x_50.toInt = w_6.toInt + 1 := by rw [ex_50]; exact i32_add rfl (by decide) (by omega) (by omega)
    refine hx_puti hx hb hts hC_6 hown hW hT (hx_S.rf (M := [(6, 2)])) (gx.S hM) tt_6 2 (by decide) rfl kw_127 ⟨rfl, rfl, rfl⟩ rfl (x := x_50) ⟨by omega, by omega⟩ rfl rfl rfl (List.mem_singleton.mpr rfl) dX6_readSign_43 (fun H locs h_51 eh_51 hW hT hs => ?_)
    replace hM := hM.tr (hs.mono (by decide))
    have f_52 : h_51.2.1 x 2 = x_50 := by rw [eh_51]; exact hx_pi_at _ _ _ _
    refine lv_aload_n hx hb dX6_readSign_46 rfl (lv_at hl 1 rfl) ?_
    refine lv_bipush (v := 61) hx hb dX6_readSign_47 (by decide) ?_
    have zc_61 : (61 : Int32).toInt = 61 := by decide
    refine hx_goi (hx_runV (As := [.int (61 : Int32)]) (rest := []) ⟨hx, hb, hml, hown, hts⟩ hW (gx.S hM) tt_6 (T := TX6) (N := 7) rfl (t_X6_isByte_v l dC dI dA L_8 h_51 H.size x (61 : Int32) hT (gx.S hM) qt (gqt.S hM) ((hM.o gx trivial rfl).2.trans f_x_0) tf (hx_afS hM gqt rfl af_qt) x_50 f_52 ln0 ((hM.o gx trivial rfl).1.trans f_x_1)) (cwV 1 hts (hx_gV kw_569 kw_566 kw_568 kw_15 kw_95) rfl rfl rfl (by decide +kernel) ⟨Nat.le_of_ble_eq_true rfl, Nat.le_of_ble_eq_true rfl⟩) rfl hl.1 rfl (Nat.le_of_ble_eq_true rfl) dX6_readSign_49 ⟨Nat.le_of_ble_eq_true rfl, Nat.le_of_ble_eq_true rfl⟩) hW (fun r_55 L_53 h_54 H locs p_56 hW => ?_)
    obtain ⟨hr_57, hT, hs⟩ := p_56
    replace hT : hx_T T_tb L_53 h_54 := hT
    replace hs : hx_S T_tb [] L_8 h_51 L_53 h_54 := hs
    replace f_52 := (hs.o (gx.S hM) trivial rfl).1.trans f_52
    replace hM := hM.tr (hs.mono (by decide))
    refine hb_if_eq (zx := r_55.toInt) (tgt := 69) hx hb rfl dX6_readSign_52 (by decide) (fun c_58 => ?_) (fun c_58 => ?_)
    · skip
      refine lv_iload_n hx hb dX6_readSign_69 rfl (lv_at hl 0 rfl) ?_
      exact hx_reti hx hb hr hlk hW ⟨⟨x_50, f_52, ⟨(by rw [← ek_7, hv_sg_1 (by rcases hr_12 with z | z; exact z.2; exfalso; omega) (by rcases hr_57 with z | z; (exfalso; omega); exact z.2) (by omega) zx_50]; show _ = ((w_6.toInt.toNat + 1 : Nat) : Int); omega), (by rw [← ek_7, hv_sg_1 (by rcases hr_12 with z | z; exact z.2; exfalso; omega) (by rcases hr_57 with z | z; (exfalso; omega); exact z.2) (by omega) zx_50]; decide)⟩⟩, hT, hM⟩ dX6_readSign_70
    · skip
      refine lv_aload_n hx hb dX6_readSign_55 rfl (lv_at hl 1 rfl) ?_
      refine lv_dup hx hb dX6_readSign_56 rfl ?_
      refine hk_geti hx hb hts hC_6 hown hW (gx.S hM) tt_6 2 (by decide) rfl kw_127 ⟨rfl, rfl, rfl⟩ f_52 dX6_readSign_57 ?_
      refine lv_iconst (v := 1) hx hb dX6_readSign_60 (by decide) ?_
      refine lv_iadd hx hb dX6_readSign_61 ?_
      have rg_59 := i32_r x_50
      refine lv_topi (fun x_60 ex_60 => ?_)
      have zx_60 : x_60.toInt = x_50.toInt + 1 := by rw [ex_60]; exact i32_add rfl (by decide) (by omega) (by omega)
      refine hx_puti hx hb hts hC_6 hown hW hT (hx_S.rf (M := [(6, 2)])) (gx.S hM) tt_6 2 (by decide) rfl kw_127 ⟨rfl, rfl, rfl⟩ rfl (x := x_60) ⟨by omega, by omega⟩ rfl rfl rfl (List.mem_singleton.mpr rfl) dX6_readSign_62 (fun H locs h_61 eh_61 hW hT hs => ?_)
      replace hM := hM.tr (hs.mono (by decide))
      have f_62 : h_61.2.1 x 2 = x_60 := by rw [eh_61]; exact hx_pi_at _ _ _ _
      refine lv_iload_n hx hb dX6_readSign_65 rfl (lv_at hl 0 rfl) ?_
      refine lv_iconst (v := 2) hx hb dX6_readSign_66 (by decide) ?_
      refine lv_ior hx hb dX6_readSign_67 ?_
      refine lv_topi (fun x_63 ex_63 => ?_)
      obtain rfl : x_63 = (3 : Int32) := ex_63.trans (by decide)
      refine lv_istore_n (lv' := [(1, .int (3 : Int32)), (0, .ref x)]) hx hb dX6_readSign_68 rfl hl (by decide) rfl (fun ls hl => ?_)
      refine lv_iload_n hx hb dX6_readSign_69 rfl (lv_at hl 0 rfl) ?_
      exact hx_reti hx hb hr hlk hW ⟨⟨x_60, f_62, ⟨(by rw [← ek_7, hv_sg_3 (by rcases hr_12 with z | z; exact z.2; exfalso; omega) (by rcases hr_57 with z | z; exact z.2; exfalso; omega) (by omega) zx_50]; show _ = ((w_6.toInt.toNat + 2 : Nat) : Int); omega), (by rw [← ek_7, hv_sg_3 (by rcases hr_12 with z | z; exact z.2; exfalso; omega) (by rcases hr_57 with z | z; exact z.2; exfalso; omega) (by omega) zx_50]; decide)⟩⟩, hT, hM⟩ dX6_readSign_70
